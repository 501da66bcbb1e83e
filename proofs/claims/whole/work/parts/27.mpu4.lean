/-! part 27: the model: judged fog wind ahead aheadOf -/
theorem lp_mjudged {e1 e7 e8 e9 e10 e11 e13 e14 e15 e16 e17 : va_E} {ts pl lo ri la wk tw sf : Nat} {rl rr re : Int32} {rw rt rs ac : Nat} {sd : Int64} {h so ho pa wa at_ fo r : Nat → Nat} (hg : gOK h so ho pa wa wk tw lo ri la) (hS : mSf sf so) (hT : tOK tw at_ fo ho) (hrk : rOK r) {k n row : Nat} (hk : k < 5) (hn : n ≤ 8) (hrow : row < 2 ^ 31) : ∀ (m i c f : Nat), i + m = n → c ≤ 9 → f ≤ 4 → Go mX8_judged 4 83 [(0, .ref 0), (1, .int (nI k)), (2, .int (nI n)), (3, .int (nI row)), (4, .int (nI i))] [] (wM (kM 0 ts pl lo ri la wk tw sf rl rr re rw rt rs ac sd c f lo) e1 (kI 10 h) (kI 5 pa) (kI 5 wa) (kI 2 at_) (kI 2 fo) e7 e8 e9 e10 e11 (kI 16 (pgR r)) e13 e14 e15 e16 e17) (fun v u => v = some (.int (rO (sJud h so la ri (pa k) (wa k) lo n row m i c (r 0 + i) f))) ∧ ∃ ce2 sa2 ti2 : Nat, u = wM (kM 0 ts pl lo ri la wk tw sf rl rr re rw rt rs ac sd ce2 sa2 ti2) e1 (kI 10 h) (kI 5 pa) (kI 5 wa) (kI 2 at_) (kI 2 fo) e7 e8 e9 e10 e11 (kI 16 (pgR r)) e13 e14 e15 e16 e17) := by
  intro m
  obtain ⟨hH, hso, hho, hpa, hwa, hwk, htw, hlo, hri, hla⟩ := hg
  have hrk0 := hrk
  obtain ⟨hr, hr1, hr6, hr11⟩ := hrk0
  have q0 := hr 0
  induction m with
  | zero =>
    intro i c f hi hc hf
    refine g_iload (j := 4) dX8_judged_83 rfl ?_
    refine g_iload_n (i := 2) (j := 2) dX8_judged_85 rfl rfl ?_
    refine n_icmp_ge (tgt := 178) (by omega) (by omega) dX8_judged_86 (by decide) (fun h86 => ?_) (fun h86 => ?_)
    · refine g_bipush (v := (-9)) dX8_judged_178 (by decide) ?_
      refine g_iret rfl rfl dX8_judged_180 ?_
      exact ⟨rfl, _, _, _, rfl⟩
    · exfalso; omega

  | succ m ih =>
    intro i c f hi hc hf
    have qp : 10 ^ (n - 1 - i) ≤ 10 ^ 8 := Nat.pow_le_pow_right (by omega) (by omega)
    have qp2 : 0 < 10 ^ (n - 1 - i) := Nat.pow_pos (by omega)
    have qp3 := Nat.div_le_self row (10 ^ (n - 1 - i))
    refine g_iload (j := 4) dX8_judged_83 rfl ?_
    refine g_iload_n (i := 2) (j := 2) dX8_judged_85 rfl rfl ?_
    refine n_icmp_ge (tgt := 178) (by omega) (by omega) dX8_judged_86 (by decide) (fun h86 => ?_) (fun h86 => ?_)
    · exfalso; omega
    · refine g_iload_n (i := 3) (j := 3) dX8_judged_89 rfl rfl ?_
      refine g_iload_n (i := 2) (j := 2) dX8_judged_90 rfl rfl ?_
      refine g_iconst (v := nI 1) dX8_judged_91 (by decide) ?_
      refine n_isub (a := n) (b := 1) (by omega) dX8_judged_92 ?_
      refine g_iload (j := 4) dX8_judged_93 rfl ?_
      refine n_isub (a := (n - 1)) (b := i) (by omega) dX8_judged_95 ?_
      refine c_S (st1 := [.int (nI (10 ^ ((n - 1) - i))), .int (nI row)]) (ctX8_ten (n := (n - 1) - i) (by omega)) kX8_ten lX8_211 (by decide) rfl (by exact Nat.le_of_ble_eq_true rfl) dX8_judged_96 rfl rfl ?_
      refine n_idiv (a := row) (b := (10 ^ ((n - 1) - i))) (by omega) (by omega) (by omega) dX8_judged_99 ?_
      refine g_bipush (v := nI 10) dX8_judged_100 (by decide) ?_
      refine n_irem (a := (row / (10 ^ ((n - 1) - i)))) (b := 10) (by omega) (by omega) (rng_lit 10 rfl) dX8_judged_102 ?_
      refine g_topi (y := nI (row / 10 ^ (n - 1 - i) % 10)) rfl ?_
      refine g_istore (lv' := [(5, .int (nI (row / 10 ^ (n - 1 - i) % 10))), (0, .ref 0), (1, .int (nI k)), (2, .int (nI n)), (3, .int (nI row)), (4, .int (nI i))]) dX8_judged_103 (by decide) rfl ?_
      refine g_aload_n (i := 0) (j := 1) dX8_judged_105 rfl rfl ?_
      refine g_get fX8_193 rfl rfl dX8_judged_106 ?_
      refine n_if_ne (tgt := 133) (by omega) dX8_judged_109 (by decide) (fun h109 => ?_) (fun h109 => ?_)
      · refine g_iload (j := 5) dX8_judged_133 rfl ?_
        refine g_iret rfl rfl dX8_judged_135 ?_
        refine ⟨?_, _, _, _, rfl⟩
        rw [sJud]
        first | (rw [if_pos (by omega)]; rfl) | (rw [if_neg (by omega), if_pos (by omega)]; rfl)
      · refine g_aload_n (i := 0) (j := 1) dX8_judged_112 rfl rfl ?_
        refine g_get fX8_47 rfl rfl dX8_judged_113 ?_
        refine g_bipush (v := nI 15) dX8_judged_116 (by decide) ?_
        refine n_iald (x := 15) rfl (by omega) (rng_lit 16 rfl) dX8_judged_118 ?_
        refine g_topi (y := nI (r 0)) (by rw [pg_t]) ?_
        refine g_iload (j := 5) dX8_judged_119 rfl ?_
        refine n_iadd (a := (r 0)) (b := i) dX8_judged_121 ?_
        refine g_bipush (v := nI 40) dX8_judged_122 (by decide) ?_
        refine n_icmp_ge (tgt := 133) (by omega) (rng_lit 40 rfl) dX8_judged_124 (by decide) (fun h124 => ?_) (fun h124 => ?_)
        · refine g_iload (j := 5) dX8_judged_133 rfl ?_
          refine g_iret rfl rfl dX8_judged_135 ?_
          refine ⟨?_, _, _, _, rfl⟩
          rw [sJud]
          first | (rw [if_pos (by omega)]; rfl) | (rw [if_neg (by omega), if_pos (by omega)]; rfl)
        · refine g_iload (j := 0) dX8_judged_127 rfl ?_
          refine g_iconst (v := nI 2) dX8_judged_129 (by decide) ?_
          refine n_icmp_le (tgt := 136) (by omega) (rng_lit 2 rfl) dX8_judged_130 (by decide) (fun h130 => ?_) (fun h130 => ?_)
          · refine g_aload_n (i := 0) (j := 1) dX8_judged_136 rfl rfl ?_
            refine g_iload_n (i := 1) (j := 2) dX8_judged_137 rfl rfl ?_
            refine g_iload (j := 0) dX8_judged_138 rfl ?_
            refine g_aload_n (i := 0) (j := 1) dX8_judged_140 rfl rfl ?_
            refine g_get fX8_47 rfl rfl dX8_judged_141 ?_
            refine g_bipush (v := nI 15) dX8_judged_144 (by decide) ?_
            refine n_iald (x := 15) rfl (by omega) (rng_lit 16 rfl) dX8_judged_146 ?_
            refine g_topi (y := nI (r 0)) (by rw [pg_t]) ?_
            refine g_iload (j := 5) dX8_judged_147 rfl ?_
            refine n_iadd (a := (r 0)) (b := i) dX8_judged_149 ?_
            refine c_V (st1 := []) (ctX8_goAlone (w := k) (way := row / 10 ^ (n - 1 - i) % 10) (s := (r 0) + i) hH hpa hwa (by omega) (by omega) hS (by first | omega | assumption | exact hpa _ | exact hwa _ | exact hr1 _ (by omega) | exact hr6 _ (by omega) | exact hr11 _ (by omega) | exact hr _ | exact Nat.le_succ_of_le (hr _) | (apply sTo_le; first | omega | exact hr1 _ (by omega))) (by first | omega | assumption | exact hpa _ | exact hwa _ | exact hr1 _ (by omega) | exact hr6 _ (by omega) | exact hr11 _ (by omega) | exact hr _ | exact Nat.le_succ_of_le (hr _) | (apply sTo_le; first | omega | exact hr1 _ (by omega))) (by first | omega | assumption | exact hpa _ | exact hwa _ | exact hr1 _ (by omega) | exact hr6 _ (by omega) | exact hr11 _ (by omega) | exact hr _ | exact Nat.le_succ_of_le (hr _) | (apply sTo_le; first | omega | exact hr1 _ (by omega))) (by first | omega | assumption | exact hpa _ | exact hwa _ | exact hr1 _ (by omega) | exact hr6 _ (by omega) | exact hr11 _ (by omega) | exact hr _ | exact Nat.le_succ_of_le (hr _) | (apply sTo_le; first | omega | exact hr1 _ (by omega))) (by first | omega | assumption | exact hpa _ | exact hwa _ | exact hr1 _ (by omega) | exact hr6 _ (by omega) | exact hr11 _ (by omega) | exact hr _ | exact Nat.le_succ_of_le (hr _) | (apply sTo_le; first | omega | exact hr1 _ (by omega)))) kX8_goAlone lX8_201 (by decide) rfl rfl rfl rfl (by exact Nat.le_of_ble_eq_true rfl) dX8_judged_150 rfl rfl ?_
            have qf : sFate h so (wa k) c (sTo h (pa k) (wa k) c (row / 10 ^ (n - 1 - i) % 10) (sWater la ri (r 0 + i) lo)) (row / 10 ^ (n - 1 - i) % 10) (sWater la ri (r 0 + i + 1) lo) 0 ≤ 4 := sFate_le _ _ _ _ _ _ _ _ (by omega)
            refine g_aload_n (i := 0) (j := 1) dX8_judged_153 rfl rfl ?_
            refine g_get fX8_193 rfl rfl dX8_judged_154 ?_
            refine g_iconst (v := nI 2) dX8_judged_157 (by decide) ?_
            refine n_icmp_eq (tgt := 169) (by omega) (rng_lit 2 rfl) dX8_judged_158 (by decide) (fun h158 => ?_) (fun h158 => ?_)
            · refine g_iload (j := 5) dX8_judged_169 rfl ?_
              refine g_iret rfl rfl dX8_judged_171 ?_
              refine ⟨?_, _, _, _, rfl⟩
              rw [sJud]
              first | (rw [if_pos (by omega)]; rfl) | (rw [if_neg (by omega), if_pos (by omega)]; rfl)
            · refine g_aload_n (i := 0) (j := 1) dX8_judged_161 rfl rfl ?_
              refine g_get fX8_193 rfl rfl dX8_judged_162 ?_
              refine g_iconst (v := nI 3) dX8_judged_165 (by decide) ?_
              refine n_icmp_ne (tgt := 172) (by omega) (rng_lit 3 rfl) dX8_judged_166 (by decide) (fun h166 => ?_) (fun h166 => ?_)
              · refine n_inc (x := i) (j := 5) (lv' := [(4, .int (nI (i + 1))), (5, .int (nI (row / 10 ^ (n - 1 - i) % 10))), (0, .ref 0), (1, .int (nI k)), (2, .int (nI n)), (3, .int (nI row))]) dX8_judged_172 rfl (by decide) rfl ?_
                refine g_goto (tgt := 83) dX8_judged_175 (by decide) ?_
                refine g_lv [2, 3, 4, 5, 0] rfl ?_
                rw [sJud, if_neg (by omega), if_neg (by omega)]
                exact ih (i + 1) _ _ (by omega) (sTo_le _ _ _ _ _ _ hc) (by omega)
              · refine g_iload (j := 5) dX8_judged_169 rfl ?_
                refine g_iret rfl rfl dX8_judged_171 ?_
                refine ⟨?_, _, _, _, rfl⟩
                rw [sJud]
                first | (rw [if_pos (by omega)]; rfl) | (rw [if_neg (by omega), if_pos (by omega)]; rfl)
          · refine g_iload (j := 5) dX8_judged_133 rfl ?_
            refine g_iret rfl rfl dX8_judged_135 ?_
            refine ⟨?_, _, _, _, rfl⟩
            rw [sJud]
            first | (rw [if_pos (by omega)]; rfl) | (rw [if_neg (by omega), if_pos (by omega)]; rfl)

theorem ctX8_judged {e1 e7 e8 e9 e10 e11 e13 e14 e15 e16 e17 : va_E} {ts pl lo ri la wk tw sf : Nat} {rl rr re : Int32} {rw rt rs ac : Nat} {sd : Int64} {ce sa ti : Nat} {h so ho pa wa at_ fo r : Nat → Nat} (hg : gOK h so ho pa wa wk tw lo ri la) (hS : mSf sf so) (hT : tOK tw at_ fo ho) (hrk : rOK r) {k0 n0 row0 : Int32} : Ct mX8_judged 4 [.ref 0, .int k0, .int n0, .int row0] (wM (kM 0 ts pl lo ri la wk tw sf rl rr re rw rt rs ac sd ce sa ti) e1 (kI 10 h) (kI 5 pa) (kI 5 wa) (kI 2 at_) (kI 2 fo) e7 e8 e9 e10 e11 (kI 16 (pgR r)) e13 e14 e15 e16 e17) (fun v u => v = some (.int (pJudged h so pa wa wk lo ri la r k0 n0 row0)) ∧ ∃ ce2 sa2 ti2 : Nat, u = wM (kM 0 ts pl lo ri la wk tw sf rl rr re rw rt rs ac sd ce2 sa2 ti2) e1 (kI 10 h) (kI 5 pa) (kI 5 wa) (kI 2 at_) (kI 2 fo) e7 e8 e9 e10 e11 (kI 16 (pgR r)) e13 e14 e15 e16 e17) := by
  refine Ct.of (by decide) (by exact Nat.le_of_ble_eq_true rfl) ?_
  show Go mX8_judged 4 0 [(0, .ref 0), (1, .int k0), (2, .int n0), (3, .int row0)] [] (wM (kM 0 ts pl lo ri la wk tw sf rl rr re rw rt rs ac sd ce sa ti) e1 (kI 10 h) (kI 5 pa) (kI 5 wa) (kI 2 at_) (kI 2 fo) e7 e8 e9 e10 e11 (kI 16 (pgR r)) e13 e14 e15 e16 e17) (fun v u => v = some (.int (pJudged h so pa wa wk lo ri la r k0 n0 row0)) ∧ ∃ ce2 sa2 ti2 : Nat, u = wM (kM 0 ts pl lo ri la wk tw sf rl rr re rw rt rs ac sd ce2 sa2 ti2) e1 (kI 10 h) (kI 5 pa) (kI 5 wa) (kI 2 at_) (kI 2 fo) e7 e8 e9 e10 e11 (kI 16 (pgR r)) e13 e14 e15 e16 e17)
  have hg0 := hg
  obtain ⟨hH, hso, hho, hpa, hwa, hwk, htw, hlo, hri, hla⟩ := hg
  have hrk0 := hrk
  obtain ⟨hr, hr1, hr6, hr11⟩ := hrk0
  refine g_aload_n (i := 0) (j := 0) dX8_judged_0 rfl rfl ?_
  refine g_iconst (v := nI 0) dX8_judged_1 (by decide) ?_
  refine n_putI (ws' := wM (kM 0 ts pl lo ri la wk tw sf rl rr re rw rt rs ac sd ce sa ti) e1 (kI 10 h) (kI 5 pa) (kI 5 wa) (kI 2 at_) (kI 2 fo) e7 e8 e9 e10 e11 (kI 16 (pgR r)) e13 e14 e15 e16 e17) fX8_67 fp_X8_0 rfl (by exact Nat.le_of_ble_eq_true rfl) dX8_judged_2 rfl ?_
  refine g_aload_n (i := 0) (j := 0) dX8_judged_5 rfl rfl ?_
  refine g_iload_n (i := 1) (j := 1) dX8_judged_6 rfl rfl ?_
  refine c_V (st1 := [.int (nI (bN (¬ iW k0 wk)))]) (ctX8_noOne  (by omega)) kX8_noOne lX8_174 (by decide) rfl rfl rfl rfl (by exact Nat.le_of_ble_eq_true rfl) dX8_judged_7 rfl rfl ?_
  refine b_if_eq (tgt := 15) dX8_judged_10 (by decide) (fun h10 => ?_) (fun h10 => ?_)
  · obtain ⟨k, hk, rfl⟩ := raw_lt (Decidable.not_not.mp h10)
    have ek : cN (nI k) = k := cN_n (by omega)
    have ik : iW (nI k) wk := (iW_n (by omega)).mpr hk
    have q1 := hr1 k (by omega)
    have q6 := hr6 k (by omega)
    have q11 := hr11 k (by omega)
    have q0 := hr 0
    refine g_iload_n (i := 2) (j := 2) dX8_judged_15 rfl rfl ?_
    refine g_i2l dX8_judged_16 rfl ?_
    refine g_lconst (v := lN 1) dX8_judged_17 (by decide) ?_
    refine g_ldc2 clX8_90 dX8_judged_18 ?_
    refine g_st (st' := [.long (lN 8), .long (lN 1), .long n0.toInt64]) rfl ?_
    refine c_S (st1 := [.int (nI (bN (iW n0 9 ∧ ¬ n0 = nI 0)))]) (ctX8_in (P := iW n0 9 ∧ ¬ n0 = nI 0) (in_1 (rng_lit _ rfl) rfl)) kX8_in lX8_73 (by decide) rfl (by exact Nat.le_of_ble_eq_true rfl) dX8_judged_21 rfl rfl ?_
    refine b_if_eq (tgt := 43) dX8_judged_24 (by decide) (fun h24 => ?_) (fun h24 => ?_)
    · refine g_bipush (v := (-2)) dX8_judged_43 (by decide) ?_
      refine g_iret rfl rfl dX8_judged_45 ?_
      refine ⟨?_, _, _, _, rfl⟩
      unfold pJudged
      rw [if_pos ik, if_neg (fun z => by first | exact h24 ⟨z.1, z.2.1⟩ | exact h40 (by rw [← en]; exact z.2.2))]
    · obtain ⟨n, hn, rfl⟩ := raw_lt h24.1
      have en : cN (nI n) = n := cN_n (by omega)
      have qn : 10 ^ n ≤ 10 ^ 8 := Nat.pow_le_pow_right (by omega) (by omega)
      have qn2 : 0 < 10 ^ n := Nat.pow_pos (by omega)
      refine g_iload_n (i := 3) (j := 3) dX8_judged_27 rfl rfl ?_
      refine g_i2l dX8_judged_28 rfl ?_
      refine g_lconst (v := lN 0) dX8_judged_29 (by decide) ?_
      refine g_iload_n (i := 2) (j := 2) dX8_judged_30 rfl rfl ?_
      refine c_S (st1 := [.int (nI (10 ^ n)), .long (lN 0), .long row0.toInt64]) (ctX8_ten (n := n) (by omega)) kX8_ten lX8_211 (by decide) rfl (by exact Nat.le_of_ble_eq_true rfl) dX8_judged_31 rfl rfl ?_
      refine g_iconst (v := nI 1) dX8_judged_34 (by decide) ?_
      refine n_isub (a := (10 ^ n)) (b := 1) (by omega) dX8_judged_35 ?_
      refine g_i2l (v := lN ((10 ^ n) - 1)) dX8_judged_36 (nI_l (by omega)) ?_
      refine c_S (st1 := [.int (nI (bN (iW row0 (10 ^ n))))]) (ctX8_in (P := iW row0 (10 ^ n)) (in_0 (by omega) (by omega))) kX8_in lX8_73 (by decide) rfl (by exact Nat.le_of_ble_eq_true rfl) dX8_judged_37 rfl rfl ?_
      refine b_if_ne (tgt := 46) dX8_judged_40 (by decide) (fun h40 => ?_) (fun h40 => ?_)
      · obtain ⟨row, hrow, rfl⟩ := raw_lt h40
        have er : cN (nI row) = row := cN_n (by omega)
        refine g_aload_n (i := 0) (j := 0) dX8_judged_46 rfl rfl ?_
        refine g_aload_n (i := 0) (j := 0) dX8_judged_47 rfl rfl ?_
        refine g_get fX8_139 rfl rfl dX8_judged_48 ?_
        refine n_putI (ws' := wM (kM 0 ts pl lo ri la wk tw sf rl rr re rw rt rs ac sd ce sa lo) e1 (kI 10 h) (kI 5 pa) (kI 5 wa) (kI 2 at_) (kI 2 fo) e7 e8 e9 e10 e11 (kI 16 (pgR r)) e13 e14 e15 e16 e17) fX8_182 fp_X8_34 rfl (by exact Nat.le_of_ble_eq_true rfl) dX8_judged_51 rfl ?_
        refine g_aload_n (i := 0) (j := 0) dX8_judged_54 rfl rfl ?_
        refine g_aload_n (i := 0) (j := 0) dX8_judged_55 rfl rfl ?_
        refine g_get fX8_47 rfl rfl dX8_judged_56 ?_
        refine g_iconst (v := nI 3) dX8_judged_59 (by decide) ?_
        refine g_iload_n (i := 1) (j := 1) dX8_judged_60 rfl rfl ?_
        refine n_imul (a := 3) (b := k) dX8_judged_61 ?_
        refine n_iald (x := (3 * k)) rfl (by omega) (rng_lit 16 rfl) dX8_judged_62 ?_
        refine g_topi (y := nI (r (1 + k))) (by rw [pg_0 (by omega)]) ?_
        refine n_putI (ws' := wM (kM 0 ts pl lo ri la wk tw sf rl rr re rw rt rs ac sd (r (1 + k)) sa lo) e1 (kI 10 h) (kI 5 pa) (kI 5 wa) (kI 2 at_) (kI 2 fo) e7 e8 e9 e10 e11 (kI 16 (pgR r)) e13 e14 e15 e16 e17) fX8_179 fp_X8_32 rfl (by exact Nat.le_of_ble_eq_true rfl) dX8_judged_63 rfl ?_
        refine g_aload_n (i := 0) (j := 0) dX8_judged_66 rfl rfl ?_
        refine g_aload_n (i := 0) (j := 0) dX8_judged_67 rfl rfl ?_
        refine g_get fX8_47 rfl rfl dX8_judged_68 ?_
        refine g_iconst (v := nI 3) dX8_judged_71 (by decide) ?_
        refine g_iload_n (i := 1) (j := 1) dX8_judged_72 rfl rfl ?_
        refine n_imul (a := 3) (b := k) dX8_judged_73 ?_
        refine g_iconst (v := nI 2) dX8_judged_74 (by decide) ?_
        refine n_iadd (a := (3 * k)) (b := 2) dX8_judged_75 ?_
        refine n_iald (x := ((3 * k) + 2)) rfl (by omega) (rng_lit 16 rfl) dX8_judged_76 ?_
        refine g_topi (y := nI (r (11 + k))) (by rw [pg_2 (by omega)]) ?_
        refine n_putI (ws' := wM (kM 0 ts pl lo ri la wk tw sf rl rr re rw rt rs ac sd (r (1 + k)) (r (11 + k)) lo) e1 (kI 10 h) (kI 5 pa) (kI 5 wa) (kI 2 at_) (kI 2 fo) e7 e8 e9 e10 e11 (kI 16 (pgR r)) e13 e14 e15 e16 e17) fX8_193 fp_X8_33 rfl (by exact Nat.le_of_ble_eq_true rfl) dX8_judged_77 rfl ?_
        refine g_iconst (v := nI 0) dX8_judged_80 (by decide) ?_
        refine g_istore (lv' := [(4, .int (nI 0)), (0, .ref 0), (1, .int (nI k)), (2, .int (nI n)), (3, .int (nI row))]) dX8_judged_81 (by decide) rfl ?_
        refine g_lv [1, 2, 3, 4, 0] rfl ?_
        unfold pJudged
        rw [if_pos ik, if_pos ⟨h24.1, h24.2, by rw [en]; exact h40⟩, ek, en, er]
        exact lp_mjudged hg0 hS hT hrk (by omega) (by omega) (by omega) n 0 _ _ (by omega) q1 q11
      · refine g_bipush (v := (-2)) dX8_judged_43 (by decide) ?_
        refine g_iret rfl rfl dX8_judged_45 ?_
        refine ⟨?_, _, _, _, rfl⟩
        unfold pJudged
        rw [if_pos ik, if_neg (fun z => by first | exact h24 ⟨z.1, z.2.1⟩ | exact h40 (by rw [← en]; exact z.2.2))]
  · refine g_iconst (v := (-1)) dX8_judged_13 (by decide) ?_
    refine g_iret rfl rfl dX8_judged_14 ?_
    refine ⟨?_, _, _, _, rfl⟩
    unfold pJudged
    rw [if_neg h10]

theorem lp_mfog {e1 e7 e8 e9 e10 e11 e13 e14 e15 e16 e17 : va_E} {ts pl lo ri la wk tw sf : Nat} {rl rr re : Int32} {rw rt rs ac : Nat} {h so ho pa wa at_ fo r : Nat → Nat} (hg : gOK h so ho pa wa wk tw lo ri la) (hS : mSf sf so) (hT : tOK tw at_ fo ho) (hrk : rOK r) {k t m : Nat} (hk : k < 5) (htm : t + m ≤ 40) : ∀ (n i c f : Nat) (sd : Int64), i + n = m → c ≤ 9 → f ≤ 4 → Go mX8_fog 4 71 [(0, .ref 0), (1, .int (nI k)), (2, .int (nI t)), (3, .int (nI m)), (4, .int (nI i))] [] (wM (kM 0 ts pl lo ri la wk tw sf rl rr re rw rt rs ac sd c f lo) e1 (kI 10 h) (kI 5 pa) (kI 5 wa) (kI 2 at_) (kI 2 fo) e7 e8 e9 e10 e11 (kI 16 (pgR r)) e13 e14 e15 e16 e17) (fun v u => v = some (.int (if (sFog h so la ri (pa k) (wa k) lo n sd c (t + i) f).2.2 = 2 ∨ (sFog h so la ri (pa k) (wa k) lo n sd c (t + i) f).2.2 = 3 then -9 else nI (sFog h so la ri (pa k) (wa k) lo n sd c (t + i) f).2.1)) ∧ ∃ ce2 sa2 ti2 : Nat, u = wM (kM 0 ts pl lo ri la wk tw sf rl rr re rw rt rs ac ((sFog h so la ri (pa k) (wa k) lo n sd c (t + i) f).1) ce2 sa2 ti2) e1 (kI 10 h) (kI 5 pa) (kI 5 wa) (kI 2 at_) (kI 2 fo) e7 e8 e9 e10 e11 (kI 16 (pgR r)) e13 e14 e15 e16 e17) := by
  intro n
  obtain ⟨hH, hso, hho, hpa, hwa, hwk, htw, hlo, hri, hla⟩ := hg
  have hrk0 := hrk
  obtain ⟨hr, hr1, hr6, hr11⟩ := hrk0
  induction n with
  | zero =>
    intro i c f sd hi hc hf
    refine g_iload (j := 4) dX8_fog_71 rfl ?_
    refine g_iload_n (i := 3) (j := 3) dX8_fog_73 rfl rfl ?_
    refine n_icmp_ge (tgt := 136) (by omega) (by omega) dX8_fog_74 (by decide) (fun h74 => ?_) (fun h74 => ?_)
    · refine g_aload_n (i := 0) (j := 0) dX8_fog_136 rfl rfl ?_
      refine g_get fX8_193 rfl rfl dX8_fog_137 ?_
      refine g_iconst (v := nI 2) dX8_fog_140 (by decide) ?_
      refine n_icmp_eq (tgt := 152) (by omega) (rng_lit 2 rfl) dX8_fog_141 (by decide) (fun h141 => ?_) (fun h141 => ?_)
      · refine g_bipush (v := (-9)) dX8_fog_152 (by decide) ?_
        refine g_goto (tgt := 161) dX8_fog_154 (by decide) ?_
        refine g_iret rfl rfl dX8_fog_161 ?_
        refine ⟨?_, _, _, _, rfl⟩
        show some _ = some (Value.int (if f = 2 ∨ f = 3 then -9 else nI c))
        rw [if_pos (by omega)]
      · refine g_aload_n (i := 0) (j := 0) dX8_fog_144 rfl rfl ?_
        refine g_get fX8_193 rfl rfl dX8_fog_145 ?_
        refine g_iconst (v := nI 3) dX8_fog_148 (by decide) ?_
        refine n_icmp_ne (tgt := 157) (by omega) (rng_lit 3 rfl) dX8_fog_149 (by decide) (fun h149 => ?_) (fun h149 => ?_)
        · refine g_aload_n (i := 0) (j := 0) dX8_fog_157 rfl rfl ?_
          refine g_get fX8_179 rfl rfl dX8_fog_158 ?_
          refine g_iret rfl rfl dX8_fog_161 ?_
          refine ⟨?_, _, _, _, rfl⟩
          show some _ = some (Value.int (if f = 2 ∨ f = 3 then -9 else nI c))
          rw [if_neg (by omega)]
        · refine g_bipush (v := (-9)) dX8_fog_152 (by decide) ?_
          refine g_goto (tgt := 161) dX8_fog_154 (by decide) ?_
          refine g_iret rfl rfl dX8_fog_161 ?_
          refine ⟨?_, _, _, _, rfl⟩
          show some _ = some (Value.int (if f = 2 ∨ f = 3 then -9 else nI c))
          rw [if_pos (by omega)]
    · exfalso; omega

  | succ n ih =>
    intro i c f sd hi hc hf
    refine g_iload (j := 4) dX8_fog_71 rfl ?_
    refine g_iload_n (i := 3) (j := 3) dX8_fog_73 rfl rfl ?_
    refine n_icmp_ge (tgt := 136) (by omega) (by omega) dX8_fog_74 (by decide) (fun h74 => ?_) (fun h74 => ?_)
    · exfalso; omega
    · refine g_aload_n (i := 0) (j := 0) dX8_fog_77 rfl rfl ?_
      refine g_get fX8_193 rfl rfl dX8_fog_78 ?_
      refine n_if_ne (tgt := 136) (by omega) dX8_fog_81 (by decide) (fun h81 => ?_) (fun h81 => ?_)
      · refine g_aload_n (i := 0) (j := 0) dX8_fog_136 rfl rfl ?_
        refine g_get fX8_193 rfl rfl dX8_fog_137 ?_
        refine g_iconst (v := nI 2) dX8_fog_140 (by decide) ?_
        refine n_icmp_eq (tgt := 152) (by omega) (rng_lit 2 rfl) dX8_fog_141 (by decide) (fun h141 => ?_) (fun h141 => ?_)
        · refine g_bipush (v := (-9)) dX8_fog_152 (by decide) ?_
          refine g_goto (tgt := 161) dX8_fog_154 (by decide) ?_
          refine g_iret rfl rfl dX8_fog_161 ?_
          have e : (sFog h so la ri (pa k) (wa k) lo (n + 1) sd c (t + i) f) = (sd, c, f) := by rw [sFog, if_neg h81]
          rw [e]
          refine ⟨?_, _, _, _, rfl⟩
          show some _ = some (Value.int (if f = 2 ∨ f = 3 then -9 else nI c))
          rw [if_pos (by omega)]
        · refine g_aload_n (i := 0) (j := 0) dX8_fog_144 rfl rfl ?_
          refine g_get fX8_193 rfl rfl dX8_fog_145 ?_
          refine g_iconst (v := nI 3) dX8_fog_148 (by decide) ?_
          refine n_icmp_ne (tgt := 157) (by omega) (rng_lit 3 rfl) dX8_fog_149 (by decide) (fun h149 => ?_) (fun h149 => ?_)
          · refine g_aload_n (i := 0) (j := 0) dX8_fog_157 rfl rfl ?_
            refine g_get fX8_179 rfl rfl dX8_fog_158 ?_
            refine g_iret rfl rfl dX8_fog_161 ?_
            have e : (sFog h so la ri (pa k) (wa k) lo (n + 1) sd c (t + i) f) = (sd, c, f) := by rw [sFog, if_neg h81]
            rw [e]
            refine ⟨?_, _, _, _, rfl⟩
            show some _ = some (Value.int (if f = 2 ∨ f = 3 then -9 else nI c))
            rw [if_neg (by omega)]
          · refine g_bipush (v := (-9)) dX8_fog_152 (by decide) ?_
            refine g_goto (tgt := 161) dX8_fog_154 (by decide) ?_
            refine g_iret rfl rfl dX8_fog_161 ?_
            have e : (sFog h so la ri (pa k) (wa k) lo (n + 1) sd c (t + i) f) = (sd, c, f) := by rw [sFog, if_neg h81]
            rw [e]
            refine ⟨?_, _, _, _, rfl⟩
            show some _ = some (Value.int (if f = 2 ∨ f = 3 then -9 else nI c))
            rw [if_pos (by omega)]
      · refine g_aload_n (i := 0) (j := 0) dX8_fog_84 rfl rfl ?_
        refine g_aload_n (i := 0) (j := 0) dX8_fog_85 rfl rfl ?_
        refine g_get fX8_240 rfl rfl dX8_fog_86 ?_
        refine g_ldc2 clX8_246 dX8_fog_89 ?_
        refine g_lmul dX8_fog_92 ?_
        refine g_ldc2 clX8_248 dX8_fog_93 ?_
        refine g_ladd dX8_fog_96 ?_
        refine g_topl (y := sNext sd) rfl ?_
        refine r_putJ (ws' := wM (kM 0 ts pl lo ri la wk tw sf rl rr re rw rt rs ac (sNext sd) c f lo) e1 (kI 10 h) (kI 5 pa) (kI 5 wa) (kI 2 at_) (kI 2 fo) e7 e8 e9 e10 e11 (kI 16 (pgR r)) e13 e14 e15 e16 e17) fX8_240 fp_X8_31 rfl (by exact Nat.le_of_ble_eq_true rfl) dX8_fog_97 rfl ?_
        refine g_aload_n (i := 0) (j := 0) dX8_fog_100 rfl rfl ?_
        refine g_iload_n (i := 1) (j := 1) dX8_fog_101 rfl rfl ?_
        refine g_aload_n (i := 0) (j := 0) dX8_fog_102 rfl rfl ?_
        refine g_get fX8_240 rfl rfl dX8_fog_103 ?_
        refine g_bipush (v := nI 33) dX8_fog_106 (by decide) ?_
        refine g_lushr (v := (sShr (sNext sd))) dX8_fog_108 rfl ?_
        refine g_ldc2 clX8_250 dX8_fog_109 ?_
        refine g_lrem dX8_fog_112 (by decide) ?_
        refine g_lconst (v := lN 0) dX8_fog_113 (by decide) ?_
        refine g_lcmp dX8_fog_114 ?_
        refine g_if_ne (tgt := 122) dX8_fog_115 (by decide) (fun h115 => ?_) (fun h115 => ?_)
        · rw [ne_eq, lg_cmp_eq] at h115
          refine g_iconst (v := nI 1) dX8_fog_122 (by decide) ?_
          refine g_topi (y := nI (sWayD (sNext sd))) (by unfold sWayD; first | rw [if_pos h115] | rw [if_neg h115]) ?_
          have qW : sWayD (sNext sd) ≤ 2 := by unfold sWayD; split <;> omega
          refine g_iload_n (i := 2) (j := 2) dX8_fog_123 rfl rfl ?_
          refine g_iload (j := 4) dX8_fog_124 rfl ?_
          refine n_iadd (a := t) (b := i) dX8_fog_126 ?_
          refine c_V (st1 := []) (ctX8_goAlone (w := k) (way := sWayD (sNext sd)) (s := t + i) hH hpa hwa (by omega) (by omega) hS (by first | omega | assumption | exact hpa _ | exact hwa _ | exact hr1 _ (by omega) | exact hr6 _ (by omega) | exact hr11 _ (by omega) | exact hr _ | exact Nat.le_succ_of_le (hr _) | (apply sTo_le; first | omega | exact hr1 _ (by omega))) (by first | omega | assumption | exact hpa _ | exact hwa _ | exact hr1 _ (by omega) | exact hr6 _ (by omega) | exact hr11 _ (by omega) | exact hr _ | exact Nat.le_succ_of_le (hr _) | (apply sTo_le; first | omega | exact hr1 _ (by omega))) (by first | omega | assumption | exact hpa _ | exact hwa _ | exact hr1 _ (by omega) | exact hr6 _ (by omega) | exact hr11 _ (by omega) | exact hr _ | exact Nat.le_succ_of_le (hr _) | (apply sTo_le; first | omega | exact hr1 _ (by omega))) (by first | omega | assumption | exact hpa _ | exact hwa _ | exact hr1 _ (by omega) | exact hr6 _ (by omega) | exact hr11 _ (by omega) | exact hr _ | exact Nat.le_succ_of_le (hr _) | (apply sTo_le; first | omega | exact hr1 _ (by omega))) (by first | omega | assumption | exact hpa _ | exact hwa _ | exact hr1 _ (by omega) | exact hr6 _ (by omega) | exact hr11 _ (by omega) | exact hr _ | exact Nat.le_succ_of_le (hr _) | (apply sTo_le; first | omega | exact hr1 _ (by omega)))) kX8_goAlone lX8_201 (by decide) rfl rfl rfl rfl (by exact Nat.le_of_ble_eq_true rfl) dX8_fog_127 rfl rfl ?_
          refine n_inc (x := i) (j := 4) (lv' := [(4, .int (nI (i + 1))), (0, .ref 0), (1, .int (nI k)), (2, .int (nI t)), (3, .int (nI m))]) dX8_fog_130 rfl (by decide) rfl ?_
          refine g_goto (tgt := 71) dX8_fog_133 (by decide) ?_
          refine g_lv [1, 2, 3, 4, 0] rfl ?_
          have e : (sFog h so la ri (pa k) (wa k) lo (n + 1) sd c (t + i) f) = (sFog h so la ri (pa k) (wa k) lo n (sNext sd) (sTo h (pa k) (wa k) c (sWayD (sNext sd)) (sWater la ri (t + i) lo)) (t + (i + 1)) (sFate h so (wa k) c (sTo h (pa k) (wa k) c (sWayD (sNext sd)) (sWater la ri (t + i) lo)) (sWayD (sNext sd)) (sWater la ri (t + i + 1) lo) 0)) := by rw [sFog, if_pos h81]; rfl
          rw [e]
          exact ih (i + 1) _ _ _ (by omega) (sTo_le _ _ _ _ _ _ hc) (sFate_le _ _ _ _ _ _ _ _ (by omega))
        · rw [lg_cmp_eq] at h115
          refine g_iconst (v := nI 2) dX8_fog_118 (by decide) ?_
          refine g_goto (tgt := 123) dX8_fog_119 (by decide) ?_
          refine g_topi (y := nI (sWayD (sNext sd))) (by unfold sWayD; first | rw [if_pos h115] | rw [if_neg h115]) ?_
          have qW : sWayD (sNext sd) ≤ 2 := by unfold sWayD; split <;> omega
          refine g_iload_n (i := 2) (j := 2) dX8_fog_123 rfl rfl ?_
          refine g_iload (j := 4) dX8_fog_124 rfl ?_
          refine n_iadd (a := t) (b := i) dX8_fog_126 ?_
          refine c_V (st1 := []) (ctX8_goAlone (w := k) (way := sWayD (sNext sd)) (s := t + i) hH hpa hwa (by omega) (by omega) hS (by first | omega | assumption | exact hpa _ | exact hwa _ | exact hr1 _ (by omega) | exact hr6 _ (by omega) | exact hr11 _ (by omega) | exact hr _ | exact Nat.le_succ_of_le (hr _) | (apply sTo_le; first | omega | exact hr1 _ (by omega))) (by first | omega | assumption | exact hpa _ | exact hwa _ | exact hr1 _ (by omega) | exact hr6 _ (by omega) | exact hr11 _ (by omega) | exact hr _ | exact Nat.le_succ_of_le (hr _) | (apply sTo_le; first | omega | exact hr1 _ (by omega))) (by first | omega | assumption | exact hpa _ | exact hwa _ | exact hr1 _ (by omega) | exact hr6 _ (by omega) | exact hr11 _ (by omega) | exact hr _ | exact Nat.le_succ_of_le (hr _) | (apply sTo_le; first | omega | exact hr1 _ (by omega))) (by first | omega | assumption | exact hpa _ | exact hwa _ | exact hr1 _ (by omega) | exact hr6 _ (by omega) | exact hr11 _ (by omega) | exact hr _ | exact Nat.le_succ_of_le (hr _) | (apply sTo_le; first | omega | exact hr1 _ (by omega))) (by first | omega | assumption | exact hpa _ | exact hwa _ | exact hr1 _ (by omega) | exact hr6 _ (by omega) | exact hr11 _ (by omega) | exact hr _ | exact Nat.le_succ_of_le (hr _) | (apply sTo_le; first | omega | exact hr1 _ (by omega)))) kX8_goAlone lX8_201 (by decide) rfl rfl rfl rfl (by exact Nat.le_of_ble_eq_true rfl) dX8_fog_127 rfl rfl ?_
          refine n_inc (x := i) (j := 4) (lv' := [(4, .int (nI (i + 1))), (0, .ref 0), (1, .int (nI k)), (2, .int (nI t)), (3, .int (nI m))]) dX8_fog_130 rfl (by decide) rfl ?_
          refine g_goto (tgt := 71) dX8_fog_133 (by decide) ?_
          refine g_lv [1, 2, 3, 4, 0] rfl ?_
          have e : (sFog h so la ri (pa k) (wa k) lo (n + 1) sd c (t + i) f) = (sFog h so la ri (pa k) (wa k) lo n (sNext sd) (sTo h (pa k) (wa k) c (sWayD (sNext sd)) (sWater la ri (t + i) lo)) (t + (i + 1)) (sFate h so (wa k) c (sTo h (pa k) (wa k) c (sWayD (sNext sd)) (sWater la ri (t + i) lo)) (sWayD (sNext sd)) (sWater la ri (t + i + 1) lo) 0)) := by rw [sFog, if_pos h81]; rfl
          rw [e]
          exact ih (i + 1) _ _ _ (by omega) (sTo_le _ _ _ _ _ _ hc) (sFate_le _ _ _ _ _ _ _ _ (by omega))

theorem ctX8_fog {e1 e7 e8 e9 e10 e11 e13 e14 e15 e16 e17 : va_E} {ts pl lo ri la wk tw sf : Nat} {rl rr re : Int32} {rw rt rs ac : Nat} {sd : Int64} {ce sa ti : Nat} {h so ho pa wa at_ fo r : Nat → Nat} (hg : gOK h so ho pa wa wk tw lo ri la) (hS : mSf sf so) (hT : tOK tw at_ fo ho) (hrk : rOK r) {k0 t0 m0 : Int32} : Ct mX8_fog 4 [.ref 0, .int k0, .int t0, .int m0] (wM (kM 0 ts pl lo ri la wk tw sf rl rr re rw rt rs ac sd ce sa ti) e1 (kI 10 h) (kI 5 pa) (kI 5 wa) (kI 2 at_) (kI 2 fo) e7 e8 e9 e10 e11 (kI 16 (pgR r)) e13 e14 e15 e16 e17) (fun v u => v = some (.int (pFog h so pa wa wk lo ri la sd k0 t0 m0)) ∧ ∃ ce2 sa2 ti2 : Nat, u = if cFog wk k0 t0 m0 then wM (kM 0 ts pl lo ri la wk tw sf rl rr re rw rt rs ac ((sFogP h so pa wa lo ri la sd k0 t0 m0).1) ce2 sa2 ti2) e1 (kI 10 h) (kI 5 pa) (kI 5 wa) (kI 2 at_) (kI 2 fo) e7 e8 e9 e10 e11 (kI 16 (pgR r)) e13 e14 e15 e16 e17 else wM (kM 0 ts pl lo ri la wk tw sf rl rr re rw rt rs ac sd ce2 sa2 ti2) e1 (kI 10 h) (kI 5 pa) (kI 5 wa) (kI 2 at_) (kI 2 fo) e7 e8 e9 e10 e11 (kI 16 (pgR r)) e13 e14 e15 e16 e17) := by
  refine Ct.of (by decide) (by exact Nat.le_of_ble_eq_true rfl) ?_
  show Go mX8_fog 4 0 [(0, .ref 0), (1, .int k0), (2, .int t0), (3, .int m0)] [] (wM (kM 0 ts pl lo ri la wk tw sf rl rr re rw rt rs ac sd ce sa ti) e1 (kI 10 h) (kI 5 pa) (kI 5 wa) (kI 2 at_) (kI 2 fo) e7 e8 e9 e10 e11 (kI 16 (pgR r)) e13 e14 e15 e16 e17) (fun v u => v = some (.int (pFog h so pa wa wk lo ri la sd k0 t0 m0)) ∧ ∃ ce2 sa2 ti2 : Nat, u = if cFog wk k0 t0 m0 then wM (kM 0 ts pl lo ri la wk tw sf rl rr re rw rt rs ac ((sFogP h so pa wa lo ri la sd k0 t0 m0).1) ce2 sa2 ti2) e1 (kI 10 h) (kI 5 pa) (kI 5 wa) (kI 2 at_) (kI 2 fo) e7 e8 e9 e10 e11 (kI 16 (pgR r)) e13 e14 e15 e16 e17 else wM (kM 0 ts pl lo ri la wk tw sf rl rr re rw rt rs ac sd ce2 sa2 ti2) e1 (kI 10 h) (kI 5 pa) (kI 5 wa) (kI 2 at_) (kI 2 fo) e7 e8 e9 e10 e11 (kI 16 (pgR r)) e13 e14 e15 e16 e17)
  have hg0 := hg
  obtain ⟨hH, hso, hho, hpa, hwa, hwk, htw, hlo, hri, hla⟩ := hg
  have hrk0 := hrk
  obtain ⟨hr, hr1, hr6, hr11⟩ := hrk0
  refine g_aload_n (i := 0) (j := 0) dX8_fog_0 rfl rfl ?_
  refine g_iconst (v := nI 0) dX8_fog_1 (by decide) ?_
  refine n_putI (ws' := wM (kM 0 ts pl lo ri la wk tw sf rl rr re rw rt rs ac sd ce sa ti) e1 (kI 10 h) (kI 5 pa) (kI 5 wa) (kI 2 at_) (kI 2 fo) e7 e8 e9 e10 e11 (kI 16 (pgR r)) e13 e14 e15 e16 e17) fX8_67 fp_X8_0 rfl (by exact Nat.le_of_ble_eq_true rfl) dX8_fog_2 rfl ?_
  refine g_aload_n (i := 0) (j := 0) dX8_fog_5 rfl rfl ?_
  refine g_iload_n (i := 1) (j := 1) dX8_fog_6 rfl rfl ?_
  refine c_V (st1 := [.int (nI (bN (¬ iW k0 wk)))]) (ctX8_noOne  (by omega)) kX8_noOne lX8_174 (by decide) rfl rfl rfl rfl (by exact Nat.le_of_ble_eq_true rfl) dX8_fog_7 rfl rfl ?_
  refine b_if_eq (tgt := 15) dX8_fog_10 (by decide) (fun h10 => ?_) (fun h10 => ?_)
  · obtain ⟨k, hk, rfl⟩ := raw_lt (Decidable.not_not.mp h10)
    have ek : cN (nI k) = k := cN_n (by omega)
    have ik : iW (nI k) wk := (iW_n (by omega)).mpr hk
    have q1 := hr1 k (by omega)
    have q6 := hr6 k (by omega)
    have q11 := hr11 k (by omega)
    have q0 := hr 0
    refine g_iload_n (i := 2) (j := 2) dX8_fog_15 rfl rfl ?_
    refine g_i2l dX8_fog_16 rfl ?_
    refine g_lconst (v := lN 0) dX8_fog_17 (by decide) ?_
    refine g_ldc2 clX8_177 dX8_fog_18 ?_
    refine g_st (st' := [.long (lN 40), .long (lN 0), .long t0.toInt64]) rfl ?_
    refine c_S (st1 := [.int (nI (bN (iW t0 41)))]) (ctX8_in (P := iW t0 41) (in_0 (rng_lit _ rfl) rfl)) kX8_in lX8_73 (by decide) rfl (by exact Nat.le_of_ble_eq_true rfl) dX8_fog_21 rfl rfl ?_
    refine b_if_eq (tgt := 47) dX8_fog_24 (by decide) (fun h24 => ?_) (fun h24 => ?_)
    · refine g_bipush (v := (-2)) dX8_fog_47 (by decide) ?_
      refine g_iret rfl rfl dX8_fog_49 ?_
      have hN : ¬ (iW t0 41 ∧ (iW m0 21 ∧ ¬ m0 = nI 0) ∧ cN t0 + cN m0 ≤ 40) := (fun z => by first | exact h24 z.1 | exact h36 z.2.1 | (have z3 := z.2.2; rw [et, em] at z3; omega))
      refine ⟨?_, _, _, _, (if_neg (fun z => hN z.2)).symm⟩
      unfold pFog
      rw [if_pos ik, if_neg hN]
    · refine g_iload_n (i := 3) (j := 3) dX8_fog_27 rfl rfl ?_
      refine g_i2l dX8_fog_28 rfl ?_
      refine g_lconst (v := lN 1) dX8_fog_29 (by decide) ?_
      refine g_ldc2 clX8_244 dX8_fog_30 ?_
      refine g_st (st' := [.long (lN 20), .long (lN 1), .long m0.toInt64]) rfl ?_
      refine c_S (st1 := [.int (nI (bN (iW m0 21 ∧ ¬ m0 = nI 0)))]) (ctX8_in (P := iW m0 21 ∧ ¬ m0 = nI 0) (in_1 (rng_lit _ rfl) rfl)) kX8_in lX8_73 (by decide) rfl (by exact Nat.le_of_ble_eq_true rfl) dX8_fog_33 rfl rfl ?_
      refine b_if_eq (tgt := 47) dX8_fog_36 (by decide) (fun h36 => ?_) (fun h36 => ?_)
      · refine g_bipush (v := (-2)) dX8_fog_47 (by decide) ?_
        refine g_iret rfl rfl dX8_fog_49 ?_
        have hN : ¬ (iW t0 41 ∧ (iW m0 21 ∧ ¬ m0 = nI 0) ∧ cN t0 + cN m0 ≤ 40) := (fun z => by first | exact h24 z.1 | exact h36 z.2.1 | (have z3 := z.2.2; rw [et, em] at z3; omega))
        refine ⟨?_, _, _, _, (if_neg (fun z => hN z.2)).symm⟩
        unfold pFog
        rw [if_pos ik, if_neg hN]
      · obtain ⟨t, ht, rfl⟩ := raw_lt h24
        obtain ⟨m, hm, rfl⟩ := raw_lt h36.1
        have et : cN (nI t) = t := cN_n (by omega)
        have em : cN (nI m) = m := cN_n (by omega)
        refine g_iload_n (i := 2) (j := 2) dX8_fog_39 rfl rfl ?_
        refine g_iload_n (i := 3) (j := 3) dX8_fog_40 rfl rfl ?_
        refine n_iadd (a := t) (b := m) dX8_fog_41 ?_
        refine g_bipush (v := nI 40) dX8_fog_42 (by decide) ?_
        refine n_icmp_le (tgt := 50) (by omega) (rng_lit 40 rfl) dX8_fog_44 (by decide) (fun h44 => ?_) (fun h44 => ?_)
        · refine g_aload_n (i := 0) (j := 0) dX8_fog_50 rfl rfl ?_
          refine g_aload_n (i := 0) (j := 0) dX8_fog_51 rfl rfl ?_
          refine g_get fX8_139 rfl rfl dX8_fog_52 ?_
          refine n_putI (ws' := wM (kM 0 ts pl lo ri la wk tw sf rl rr re rw rt rs ac sd ce sa lo) e1 (kI 10 h) (kI 5 pa) (kI 5 wa) (kI 2 at_) (kI 2 fo) e7 e8 e9 e10 e11 (kI 16 (pgR r)) e13 e14 e15 e16 e17) fX8_182 fp_X8_34 rfl (by exact Nat.le_of_ble_eq_true rfl) dX8_fog_55 rfl ?_
          refine g_aload_n (i := 0) (j := 0) dX8_fog_58 rfl rfl ?_
          refine g_iconst (v := nI 0) dX8_fog_59 (by decide) ?_
          refine n_putI (ws' := wM (kM 0 ts pl lo ri la wk tw sf rl rr re rw rt rs ac sd 0 sa lo) e1 (kI 10 h) (kI 5 pa) (kI 5 wa) (kI 2 at_) (kI 2 fo) e7 e8 e9 e10 e11 (kI 16 (pgR r)) e13 e14 e15 e16 e17) fX8_179 fp_X8_32 rfl (by exact Nat.le_of_ble_eq_true rfl) dX8_fog_60 rfl ?_
          refine g_aload_n (i := 0) (j := 0) dX8_fog_63 rfl rfl ?_
          refine g_iconst (v := nI 0) dX8_fog_64 (by decide) ?_
          refine n_putI (ws' := wM (kM 0 ts pl lo ri la wk tw sf rl rr re rw rt rs ac sd 0 0 lo) e1 (kI 10 h) (kI 5 pa) (kI 5 wa) (kI 2 at_) (kI 2 fo) e7 e8 e9 e10 e11 (kI 16 (pgR r)) e13 e14 e15 e16 e17) fX8_193 fp_X8_33 rfl (by exact Nat.le_of_ble_eq_true rfl) dX8_fog_65 rfl ?_
          refine g_iconst (v := nI 0) dX8_fog_68 (by decide) ?_
          refine g_istore (lv' := [(4, .int (nI 0)), (0, .ref 0), (1, .int (nI k)), (2, .int (nI t)), (3, .int (nI m))]) dX8_fog_69 (by decide) rfl ?_
          refine g_lv [1, 2, 3, 4, 0] rfl ?_
          have hN : iW (nI t) 41 ∧ (iW (nI m) 21 ∧ ¬ nI m = nI 0) ∧ cN (nI t) + cN (nI m) ≤ 40 := ⟨h24, h36, by rw [et, em]; omega⟩
          refine g_post ?_ (lp_mfog hg0 hS hT hrk (by omega : k < 5) (by omega : t + m ≤ 40) m 0 0 0 sd (by omega) (by omega) (by omega))
          intro v u hvu
          obtain ⟨h1, ce2, sa2, ti2, h2⟩ := hvu
          refine ⟨?_, ce2, sa2, ti2, ?_⟩
          · rw [h1]; unfold pFog sFogP
            rw [if_pos ik, if_pos hN, ek, et, em]; rfl
          · rw [h2]; refine Eq.trans ?_ (if_pos (c := cFog wk (nI k) (nI t) (nI m)) ⟨ik, hN⟩).symm
            unfold sFogP
            rw [ek, et, em]; rfl
        · refine g_bipush (v := (-2)) dX8_fog_47 (by decide) ?_
          refine g_iret rfl rfl dX8_fog_49 ?_
          have hN : ¬ (iW (nI t) 41 ∧ (iW (nI m) 21 ∧ ¬ (nI m) = nI 0) ∧ cN (nI t) + cN (nI m) ≤ 40) := (fun z => by first | exact h24 z.1 | exact h36 z.2.1 | (have z3 := z.2.2; rw [et, em] at z3; omega))
          refine ⟨?_, _, _, _, (if_neg (fun z => hN z.2)).symm⟩
          unfold pFog
          rw [if_pos ik, if_neg hN]
  · refine g_iconst (v := (-1)) dX8_fog_13 (by decide) ?_
    refine g_iret rfl rfl dX8_fog_14 ?_
    refine ⟨?_, _, _, _, (if_neg (fun z => h10 z.1)).symm⟩
    unfold pFog
    rw [if_neg h10]

theorem wind_ten {a b : Nat} (ha : a < 11) (hb : b < 11) (h : tenP (nI a) (nI b)) : a + b ≤ 10 := by have := h.2.2; rw [cN_n (by omega), cN_n (by omega)] at this; exact this
theorem ctX8_wind {e1 e7 e8 e9 e10 e11 e13 e14 e15 e16 e17 : va_E} {ts pl lo ri la wk tw sf : Nat} {rl rr re : Int32} {rw rt rs ac : Nat} {sd : Int64} {ce sa ti : Nat} {h so ho pa wa at_ fo r : Nat → Nat} (hg : gOK h so ho pa wa wk tw lo ri la) (hS : mSf sf so) (hT : tOK tw at_ fo ho) (hrk : rOK r) {k0 t0 a0 b0 : Int32} {up : Nat} (hu : up ≤ 1) : Ct mX8_wind 5 [.ref 0, .int k0, .int t0, .int a0, .int b0, .int (nI up)] (wM (kM 0 ts pl lo ri la wk tw sf rl rr re rw rt rs ac sd ce sa ti) e1 (kI 10 h) (kI 5 pa) (kI 5 wa) (kI 2 at_) (kI 2 fo) e7 e8 e9 e10 e11 (kI 16 (pgR r)) e13 e14 e15 e16 e17) (fun v u => v = some (.int (pWind h so pa wa wk lo ri la k0 t0 a0 b0 up)) ∧ ∃ ce2 sa2 ti2 : Nat, u = wM (kM 0 ts pl lo ri la wk tw sf rl rr re rw rt rs ac sd ce2 sa2 ti2) e1 (kI 10 h) (kI 5 pa) (kI 5 wa) (kI 2 at_) (kI 2 fo) e7 e8 e9 e10 e11 (kI 16 (pgR r)) e13 e14 e15 e16 e17) := by
  refine Ct.of (by decide) (by exact Nat.le_of_ble_eq_true rfl) ?_
  show Go mX8_wind 5 0 [(0, .ref 0), (1, .int k0), (2, .int t0), (3, .int a0), (4, .int b0), (5, .int (nI up))] [] (wM (kM 0 ts pl lo ri la wk tw sf rl rr re rw rt rs ac sd ce sa ti) e1 (kI 10 h) (kI 5 pa) (kI 5 wa) (kI 2 at_) (kI 2 fo) e7 e8 e9 e10 e11 (kI 16 (pgR r)) e13 e14 e15 e16 e17) (fun v u => v = some (.int (pWind h so pa wa wk lo ri la k0 t0 a0 b0 up)) ∧ ∃ ce2 sa2 ti2 : Nat, u = wM (kM 0 ts pl lo ri la wk tw sf rl rr re rw rt rs ac sd ce2 sa2 ti2) e1 (kI 10 h) (kI 5 pa) (kI 5 wa) (kI 2 at_) (kI 2 fo) e7 e8 e9 e10 e11 (kI 16 (pgR r)) e13 e14 e15 e16 e17)
  obtain ⟨hH, hso, hho, hpa, hwa, hwk, htw, hlo, hri, hla⟩ := hg
  have hrk0 := hrk
  obtain ⟨hr, hr1, hr6, hr11⟩ := hrk0
  refine g_aload_n (i := 0) (j := 0) dX8_wind_0 rfl rfl ?_
  refine g_iconst (v := nI 0) dX8_wind_1 (by decide) ?_
  refine n_putI (ws' := wM (kM 0 ts pl lo ri la wk tw sf rl rr re rw rt rs ac sd ce sa ti) e1 (kI 10 h) (kI 5 pa) (kI 5 wa) (kI 2 at_) (kI 2 fo) e7 e8 e9 e10 e11 (kI 16 (pgR r)) e13 e14 e15 e16 e17) fX8_67 fp_X8_0 rfl (by exact Nat.le_of_ble_eq_true rfl) dX8_wind_2 rfl ?_
  refine g_aload_n (i := 0) (j := 0) dX8_wind_5 rfl rfl ?_
  refine g_iload_n (i := 1) (j := 1) dX8_wind_6 rfl rfl ?_
  refine c_V (st1 := [.int (nI (bN (¬ iW k0 wk)))]) (ctX8_noOne  (by omega)) kX8_noOne lX8_174 (by decide) rfl rfl rfl rfl (by exact Nat.le_of_ble_eq_true rfl) dX8_wind_7 rfl rfl ?_
  refine b_if_eq (tgt := 15) dX8_wind_10 (by decide) (fun h10 => ?_) (fun h10 => ?_)
  · obtain ⟨k, hk, rfl⟩ := raw_lt (Decidable.not_not.mp h10)
    have ek : cN (nI k) = k := cN_n (by omega)
    have ik : iW (nI k) wk := (iW_n (by omega)).mpr hk
    have q1 := hr1 k (by omega)
    have q6 := hr6 k (by omega)
    have q11 := hr11 k (by omega)
    have q0 := hr 0
    refine g_iload_n (i := 2) (j := 2) dX8_wind_15 rfl rfl ?_
    refine g_i2l dX8_wind_16 rfl ?_
    refine g_lconst (v := lN 0) dX8_wind_17 (by decide) ?_
    refine g_ldc2 clX8_177 dX8_wind_18 ?_
    refine g_st (st' := [.long (lN 40), .long (lN 0), .long t0.toInt64]) rfl ?_
    refine c_S (st1 := [.int (nI (bN (iW t0 41)))]) (ctX8_in (P := iW t0 41) (in_0 (rng_lit _ rfl) rfl)) kX8_in lX8_73 (by decide) rfl (by exact Nat.le_of_ble_eq_true rfl) dX8_wind_21 rfl rfl ?_
    refine b_if_eq (tgt := 36) dX8_wind_24 (by decide) (fun h24 => ?_) (fun h24 => ?_)
    · refine g_bipush (v := (-2)) dX8_wind_36 (by decide) ?_
      refine g_iret rfl rfl dX8_wind_38 ?_
      refine ⟨?_, _, _, _, rfl⟩
      unfold pWind
      rw [if_pos ik, if_neg (fun z => by first | exact h24 z.1 | exact h33 z.2)]
    · refine g_iload_n (i := 3) (j := 3) dX8_wind_27 rfl rfl ?_
      refine g_iload (j := 4) dX8_wind_28 rfl ?_
      refine c_S (st1 := [.int (nI (bN (¬ tenP a0 b0)))]) (ctX8_noTenths  ) kX8_noTenths lX8_229 (by decide) rfl (by exact Nat.le_of_ble_eq_true rfl) dX8_wind_30 rfl rfl ?_
      refine b_if_eq (tgt := 39) dX8_wind_33 (by decide) (fun h33 => ?_) (fun h33 => ?_)
      · have h33x := Decidable.not_not.mp h33
        obtain ⟨t, ht, rfl⟩ := raw_lt h24
        obtain ⟨a, ha, rfl⟩ := raw_lt h33x.1
        obtain ⟨b, hb, rfl⟩ := raw_lt h33x.2.1
        have hab := wind_ten ha hb h33x
        refine g_aload_n (i := 0) (j := 0) dX8_wind_39 rfl rfl ?_
        refine g_iload_n (i := 1) (j := 1) dX8_wind_40 rfl rfl ?_
        refine g_iconst (v := nI 0) dX8_wind_41 (by decide) ?_
        refine g_iload_n (i := 2) (j := 2) dX8_wind_42 rfl rfl ?_
        refine g_iconst (v := nI 1) dX8_wind_43 (by decide) ?_
        refine g_aload_n (i := 0) (j := 0) dX8_wind_44 rfl rfl ?_
        refine g_get fX8_139 rfl rfl dX8_wind_45 ?_
        refine n_if_ne (tgt := 55) (by omega) dX8_wind_48 (by decide) (fun h48 => ?_) (fun h48 => ?_)
        · refine g_aload_n (i := 0) (j := 0) dX8_wind_55 rfl rfl ?_
          refine g_get fX8_139 rfl rfl dX8_wind_56 ?_
          refine g_iconst (v := nI 1) dX8_wind_59 (by decide) ?_
          refine n_isub (a := lo) (b := 1) (by omega) dX8_wind_60 ?_
          refine g_topi (y := nI (lo - 1)) (by first | rfl | rw [h48]) ?_
          refine g_callV (rest := []) (ctX8_goneOf (w := k) (c := 0) (s := t) (way := 1) (at0 := lo - 1) hH hpa hwa (by omega) (by omega) hS (by first | omega | assumption | exact hpa _ | exact hwa _ | exact hr1 _ (by omega) | exact hr6 _ (by omega) | exact hr11 _ (by omega) | exact hr _ | exact Nat.le_succ_of_le (hr _) | (apply sTo_le; first | omega | exact hr1 _ (by omega))) (by first | omega | assumption | exact hpa _ | exact hwa _ | exact hr1 _ (by omega) | exact hr6 _ (by omega) | exact hr11 _ (by omega) | exact hr _ | exact Nat.le_succ_of_le (hr _) | (apply sTo_le; first | omega | exact hr1 _ (by omega))) (by first | omega | assumption | exact hpa _ | exact hwa _ | exact hr1 _ (by omega) | exact hr6 _ (by omega) | exact hr11 _ (by omega) | exact hr _ | exact Nat.le_succ_of_le (hr _) | (apply sTo_le; first | omega | exact hr1 _ (by omega))) (by first | omega | assumption | exact hpa _ | exact hwa _ | exact hr1 _ (by omega) | exact hr6 _ (by omega) | exact hr11 _ (by omega) | exact hr _ | exact Nat.le_succ_of_le (hr _) | (apply sTo_le; first | omega | exact hr1 _ (by omega))) (by first | omega | assumption | exact hpa _ | exact hwa _ | exact hr1 _ (by omega) | exact hr6 _ (by omega) | exact hr11 _ (by omega) | exact hr _ | exact Nat.le_succ_of_le (hr _) | (apply sTo_le; first | omega | exact hr1 _ (by omega))) (by first | omega | assumption | exact hpa _ | exact hwa _ | exact hr1 _ (by omega) | exact hr6 _ (by omega) | exact hr11 _ (by omega) | exact hr _ | exact Nat.le_succ_of_le (hr _) | (apply sTo_le; first | omega | exact hr1 _ (by omega)))) kX8_goneOf lX8_205 (by decide) rfl rfl rfl rfl (by exact Nat.le_of_ble_eq_true rfl) dX8_wind_61 rfl (fun v u hvu => ?_)
          obtain ⟨rfl, ce61, sa61, ti61, rfl⟩ := hvu
          refine g_st (st' := [.int (rO (sArr h so la ri (pa k) (wa k) (lo - 1) 1 0 t))]) rfl ?_
          refine g_bipush (v := (-9)) dX8_wind_64 (by decide) ?_
          refine g_icmp_ne (tgt := 73) dX8_wind_66 (by decide) (fun h66 => ?_) (fun h66 => ?_)
          · replace h66 := fun z => h66 ((sArr_ne (by omega)).mpr z)
            refine g_iload_n (i := 3) (j := 3) dX8_wind_73 rfl rfl ?_
            refine g_topi (y := nI (if (sArr h so la ri (pa k) (wa k) (lo - 1) 1 0 t).isSome then a else 0)) (by first | rw [if_pos (isSome_t h66)] | rw [if_neg (by rw [isSome_f h66]; simp)]) ?_
            have qh66 : (if (sArr h so la ri (pa k) (wa k) (lo - 1) 1 0 t).isSome then a else 0) ≤ 10 := by split <;> omega
            refine g_istore (lv' := [(6, .int (nI (if (sArr h so la ri (pa k) (wa k) (lo - 1) 1 0 t).isSome then a else 0))), (0, .ref 0), (1, .int (nI k)), (2, .int (nI t)), (3, .int (nI a)), (4, .int (nI b)), (5, .int (nI up))]) dX8_wind_74 (by decide) rfl ?_
            refine g_aload_n (i := 0) (j := 1) dX8_wind_76 rfl rfl ?_
            refine g_iload_n (i := 1) (j := 2) dX8_wind_77 rfl rfl ?_
            refine g_iconst (v := nI 0) dX8_wind_78 (by decide) ?_
            refine g_iload_n (i := 2) (j := 3) dX8_wind_79 rfl rfl ?_
            refine g_iconst (v := nI 1) dX8_wind_80 (by decide) ?_
            refine g_aload_n (i := 0) (j := 1) dX8_wind_81 rfl rfl ?_
            refine g_get fX8_139 rfl rfl dX8_wind_82 ?_
            refine g_bipush (v := nI 40) dX8_wind_85 (by decide) ?_
            refine n_icmp_ne (tgt := 95) (by omega) (rng_lit 40 rfl) dX8_wind_87 (by decide) (fun h87 => ?_) (fun h87 => ?_)
            · refine g_aload_n (i := 0) (j := 1) dX8_wind_95 rfl rfl ?_
              refine g_get fX8_139 rfl rfl dX8_wind_96 ?_
              refine g_iconst (v := nI 1) dX8_wind_99 (by decide) ?_
              refine n_iadd (a := lo) (b := 1) dX8_wind_100 ?_
              refine g_topi (y := nI (min 40 (lo + 1))) (congrArg nI (by omega)) ?_
              refine g_callV (rest := []) (ctX8_goneOf (w := k) (c := 0) (s := t) (way := 1) (at0 := min 40 (lo + 1)) hH hpa hwa (by omega) (by omega) hS (by first | omega | assumption | exact hpa _ | exact hwa _ | exact hr1 _ (by omega) | exact hr6 _ (by omega) | exact hr11 _ (by omega) | exact hr _ | exact Nat.le_succ_of_le (hr _) | (apply sTo_le; first | omega | exact hr1 _ (by omega))) (by first | omega | assumption | exact hpa _ | exact hwa _ | exact hr1 _ (by omega) | exact hr6 _ (by omega) | exact hr11 _ (by omega) | exact hr _ | exact Nat.le_succ_of_le (hr _) | (apply sTo_le; first | omega | exact hr1 _ (by omega))) (by first | omega | assumption | exact hpa _ | exact hwa _ | exact hr1 _ (by omega) | exact hr6 _ (by omega) | exact hr11 _ (by omega) | exact hr _ | exact Nat.le_succ_of_le (hr _) | (apply sTo_le; first | omega | exact hr1 _ (by omega))) (by first | omega | assumption | exact hpa _ | exact hwa _ | exact hr1 _ (by omega) | exact hr6 _ (by omega) | exact hr11 _ (by omega) | exact hr _ | exact Nat.le_succ_of_le (hr _) | (apply sTo_le; first | omega | exact hr1 _ (by omega))) (by first | omega | assumption | exact hpa _ | exact hwa _ | exact hr1 _ (by omega) | exact hr6 _ (by omega) | exact hr11 _ (by omega) | exact hr _ | exact Nat.le_succ_of_le (hr _) | (apply sTo_le; first | omega | exact hr1 _ (by omega))) (by first | omega | assumption | exact hpa _ | exact hwa _ | exact hr1 _ (by omega) | exact hr6 _ (by omega) | exact hr11 _ (by omega) | exact hr _ | exact Nat.le_succ_of_le (hr _) | (apply sTo_le; first | omega | exact hr1 _ (by omega)))) kX8_goneOf lX8_205 (by decide) rfl rfl rfl rfl (by exact Nat.le_of_ble_eq_true rfl) dX8_wind_101 rfl (fun v u hvu => ?_)
              obtain ⟨rfl, ce101, sa101, ti101, rfl⟩ := hvu
              refine g_st (st' := [.int (rO (sArr h so la ri (pa k) (wa k) (min 40 (lo + 1)) 1 0 t))]) rfl ?_
              refine g_bipush (v := (-9)) dX8_wind_104 (by decide) ?_
              refine g_icmp_ne (tgt := 113) dX8_wind_106 (by decide) (fun h106 => ?_) (fun h106 => ?_)
              · replace h106 := fun z => h106 ((sArr_ne (by omega)).mpr z)
                refine g_iload (j := 5) dX8_wind_113 rfl ?_
                refine g_topi (y := nI (if (sArr h so la ri (pa k) (wa k) (min 40 (lo + 1)) 1 0 t).isSome then b else 0)) (by first | rw [if_pos (isSome_t h106)] | rw [if_neg (by rw [isSome_f h106]; simp)]) ?_
                have qh106 : (if (sArr h so la ri (pa k) (wa k) (min 40 (lo + 1)) 1 0 t).isSome then b else 0) ≤ 10 := by split <;> omega
                refine g_istore (lv' := [(7, .int (nI (if (sArr h so la ri (pa k) (wa k) (min 40 (lo + 1)) 1 0 t).isSome then b else 0))), (6, .int (nI (if (sArr h so la ri (pa k) (wa k) (lo - 1) 1 0 t).isSome then a else 0))), (0, .ref 0), (1, .int (nI k)), (2, .int (nI t)), (3, .int (nI a)), (4, .int (nI b)), (5, .int (nI up))]) dX8_wind_115 (by decide) rfl ?_
                refine g_aload_n (i := 0) (j := 2) dX8_wind_117 rfl rfl ?_
                refine g_iload_n (i := 1) (j := 3) dX8_wind_118 rfl rfl ?_
                refine g_iconst (v := nI 0) dX8_wind_119 (by decide) ?_
                refine g_iload_n (i := 2) (j := 4) dX8_wind_120 rfl rfl ?_
                refine g_iconst (v := nI 1) dX8_wind_121 (by decide) ?_
                refine g_aload_n (i := 0) (j := 2) dX8_wind_122 rfl rfl ?_
                refine g_get fX8_139 rfl rfl dX8_wind_123 ?_
                refine g_callV (rest := []) (ctX8_goneOf (w := k) (c := 0) (s := t) (way := 1) (at0 := lo) hH hpa hwa (by omega) (by omega) hS (by first | omega | assumption | exact hpa _ | exact hwa _ | exact hr1 _ (by omega) | exact hr6 _ (by omega) | exact hr11 _ (by omega) | exact hr _ | exact Nat.le_succ_of_le (hr _) | (apply sTo_le; first | omega | exact hr1 _ (by omega))) (by first | omega | assumption | exact hpa _ | exact hwa _ | exact hr1 _ (by omega) | exact hr6 _ (by omega) | exact hr11 _ (by omega) | exact hr _ | exact Nat.le_succ_of_le (hr _) | (apply sTo_le; first | omega | exact hr1 _ (by omega))) (by first | omega | assumption | exact hpa _ | exact hwa _ | exact hr1 _ (by omega) | exact hr6 _ (by omega) | exact hr11 _ (by omega) | exact hr _ | exact Nat.le_succ_of_le (hr _) | (apply sTo_le; first | omega | exact hr1 _ (by omega))) (by first | omega | assumption | exact hpa _ | exact hwa _ | exact hr1 _ (by omega) | exact hr6 _ (by omega) | exact hr11 _ (by omega) | exact hr _ | exact Nat.le_succ_of_le (hr _) | (apply sTo_le; first | omega | exact hr1 _ (by omega))) (by first | omega | assumption | exact hpa _ | exact hwa _ | exact hr1 _ (by omega) | exact hr6 _ (by omega) | exact hr11 _ (by omega) | exact hr _ | exact Nat.le_succ_of_le (hr _) | (apply sTo_le; first | omega | exact hr1 _ (by omega))) (by first | omega | assumption | exact hpa _ | exact hwa _ | exact hr1 _ (by omega) | exact hr6 _ (by omega) | exact hr11 _ (by omega) | exact hr _ | exact Nat.le_succ_of_le (hr _) | (apply sTo_le; first | omega | exact hr1 _ (by omega)))) kX8_goneOf lX8_205 (by decide) rfl rfl rfl rfl (by exact Nat.le_of_ble_eq_true rfl) dX8_wind_126 rfl (fun v u hvu => ?_)
                obtain ⟨rfl, ce126, sa126, ti126, rfl⟩ := hvu
                refine g_st (st' := [.int (rO (sArr h so la ri (pa k) (wa k) lo 1 0 t))]) rfl ?_
                refine g_bipush (v := (-9)) dX8_wind_129 (by decide) ?_
                refine g_icmp_ne (tgt := 138) dX8_wind_131 (by decide) (fun h131 => ?_) (fun h131 => ?_)
                · replace h131 := fun z => h131 ((sArr_ne (by omega)).mpr z)
                  refine g_bipush (v := nI 10) dX8_wind_138 (by decide) ?_
                  refine g_iload_n (i := 3) (j := 5) dX8_wind_140 rfl rfl ?_
                  refine n_isub (a := 10) (b := a) (by omega) dX8_wind_141 ?_
                  refine g_iload (j := 6) dX8_wind_142 rfl ?_
                  refine n_isub (a := (10 - a)) (b := b) (by omega) dX8_wind_144 ?_
                  refine g_topi (y := nI (if (sArr h so la ri (pa k) (wa k) lo 1 0 t).isSome then 10 - a - b else 0)) (by first | rw [if_pos (isSome_t h131)] | rw [if_neg (by rw [isSome_f h131]; simp)]) ?_
                  have qh131 : (if (sArr h so la ri (pa k) (wa k) lo 1 0 t).isSome then 10 - a - b else 0) ≤ 10 := by split <;> omega
                  refine g_istore (lv' := [(8, .int (nI (if (sArr h so la ri (pa k) (wa k) lo 1 0 t).isSome then 10 - a - b else 0))), (7, .int (nI (if (sArr h so la ri (pa k) (wa k) (min 40 (lo + 1)) 1 0 t).isSome then b else 0))), (6, .int (nI (if (sArr h so la ri (pa k) (wa k) (lo - 1) 1 0 t).isSome then a else 0))), (0, .ref 0), (1, .int (nI k)), (2, .int (nI t)), (3, .int (nI a)), (4, .int (nI b)), (5, .int (nI up))]) dX8_wind_145 (by decide) rfl ?_
                  refine g_iload (j := 2) dX8_wind_147 rfl ?_
                  refine g_iload (j := 1) dX8_wind_149 rfl ?_
                  refine n_iadd (a := (if (sArr h so la ri (pa k) (wa k) (lo - 1) 1 0 t).isSome then a else 0)) (b := (if (sArr h so la ri (pa k) (wa k) (min 40 (lo + 1)) 1 0 t).isSome then b else 0)) dX8_wind_151 ?_
                  refine g_iload (j := 0) dX8_wind_152 rfl ?_
                  refine n_iadd (a := ((if (sArr h so la ri (pa k) (wa k) (lo - 1) 1 0 t).isSome then a else 0) + (if (sArr h so la ri (pa k) (wa k) (min 40 (lo + 1)) 1 0 t).isSome then b else 0))) (b := (if (sArr h so la ri (pa k) (wa k) lo 1 0 t).isSome then 10 - a - b else 0)) dX8_wind_154 ?_
                  refine g_i2l (v := lN (((if (sArr h so la ri (pa k) (wa k) (lo - 1) 1 0 t).isSome then a else 0) + (if (sArr h so la ri (pa k) (wa k) (min 40 (lo + 1)) 1 0 t).isSome then b else 0)) + (if (sArr h so la ri (pa k) (wa k) lo 1 0 t).isSome then 10 - a - b else 0))) dX8_wind_155 (nI_l (by omega)) ?_
                  refine g_ldc2 clX8_227 dX8_wind_156 ?_
                  refine g_st (st' := [.long (lN 10), .long (lN (((if (sArr h so la ri (pa k) (wa k) (lo - 1) 1 0 t).isSome then a else 0) + (if (sArr h so la ri (pa k) (wa k) (min 40 (lo + 1)) 1 0 t).isSome then b else 0)) + (if (sArr h so la ri (pa k) (wa k) lo 1 0 t).isSome then 10 - a - b else 0)))]) rfl ?_
                  refine g_iload (j := 8) dX8_wind_159 rfl ?_
                  refine c_S (st1 := [.int (nI (sTold (((if (sArr h so la ri (pa k) (wa k) (lo - 1) 1 0 t).isSome then a else 0) + (if (sArr h so la ri (pa k) (wa k) (min 40 (lo + 1)) 1 0 t).isSome then b else 0)) + (if (sArr h so la ri (pa k) (wa k) lo 1 0 t).isSome then 10 - a - b else 0)) 10 up))]) (ctX8_fraction (a := ((if (sArr h so la ri (pa k) (wa k) (lo - 1) 1 0 t).isSome then a else 0) + (if (sArr h so la ri (pa k) (wa k) (min 40 (lo + 1)) 1 0 t).isSome then b else 0)) + (if (sArr h so la ri (pa k) (wa k) lo 1 0 t).isSome then 10 - a - b else 0)) (b := 10) (u := up) (by omega) (by omega) (by omega) (by omega)) kX8_fraction lX8_234 (by decide) rfl (by exact Nat.le_of_ble_eq_true rfl) dX8_wind_161 rfl rfl ?_
                  refine g_iret rfl rfl dX8_wind_164 ?_
                  refine ⟨?_, _, _, _, rfl⟩
                  unfold pWind
                  rw [if_pos ik, if_pos (c := iW (nI t) 41 ∧ tenP (nI a) (nI b)) ⟨h24, Decidable.not_not.mp h33⟩, ek, cN_n (k := t) (by omega), cN_n (k := a) (by omega), cN_n (k := b) (by omega)]
                  rfl
                · replace h131 := (sArr_ne (by omega)).mp h131
                  refine g_iconst (v := nI 0) dX8_wind_134 (by decide) ?_
                  refine g_goto (tgt := 145) dX8_wind_135 (by decide) ?_
                  refine g_topi (y := nI (if (sArr h so la ri (pa k) (wa k) lo 1 0 t).isSome then 10 - a - b else 0)) (by first | rw [if_pos (isSome_t h131)] | rw [if_neg (by rw [isSome_f h131]; simp)]) ?_
                  have qh131 : (if (sArr h so la ri (pa k) (wa k) lo 1 0 t).isSome then 10 - a - b else 0) ≤ 10 := by split <;> omega
                  refine g_istore (lv' := [(8, .int (nI (if (sArr h so la ri (pa k) (wa k) lo 1 0 t).isSome then 10 - a - b else 0))), (7, .int (nI (if (sArr h so la ri (pa k) (wa k) (min 40 (lo + 1)) 1 0 t).isSome then b else 0))), (6, .int (nI (if (sArr h so la ri (pa k) (wa k) (lo - 1) 1 0 t).isSome then a else 0))), (0, .ref 0), (1, .int (nI k)), (2, .int (nI t)), (3, .int (nI a)), (4, .int (nI b)), (5, .int (nI up))]) dX8_wind_145 (by decide) rfl ?_
                  refine g_iload (j := 2) dX8_wind_147 rfl ?_
                  refine g_iload (j := 1) dX8_wind_149 rfl ?_
                  refine n_iadd (a := (if (sArr h so la ri (pa k) (wa k) (lo - 1) 1 0 t).isSome then a else 0)) (b := (if (sArr h so la ri (pa k) (wa k) (min 40 (lo + 1)) 1 0 t).isSome then b else 0)) dX8_wind_151 ?_
                  refine g_iload (j := 0) dX8_wind_152 rfl ?_
                  refine n_iadd (a := ((if (sArr h so la ri (pa k) (wa k) (lo - 1) 1 0 t).isSome then a else 0) + (if (sArr h so la ri (pa k) (wa k) (min 40 (lo + 1)) 1 0 t).isSome then b else 0))) (b := (if (sArr h so la ri (pa k) (wa k) lo 1 0 t).isSome then 10 - a - b else 0)) dX8_wind_154 ?_
                  refine g_i2l (v := lN (((if (sArr h so la ri (pa k) (wa k) (lo - 1) 1 0 t).isSome then a else 0) + (if (sArr h so la ri (pa k) (wa k) (min 40 (lo + 1)) 1 0 t).isSome then b else 0)) + (if (sArr h so la ri (pa k) (wa k) lo 1 0 t).isSome then 10 - a - b else 0))) dX8_wind_155 (nI_l (by omega)) ?_
                  refine g_ldc2 clX8_227 dX8_wind_156 ?_
                  refine g_st (st' := [.long (lN 10), .long (lN (((if (sArr h so la ri (pa k) (wa k) (lo - 1) 1 0 t).isSome then a else 0) + (if (sArr h so la ri (pa k) (wa k) (min 40 (lo + 1)) 1 0 t).isSome then b else 0)) + (if (sArr h so la ri (pa k) (wa k) lo 1 0 t).isSome then 10 - a - b else 0)))]) rfl ?_
                  refine g_iload (j := 8) dX8_wind_159 rfl ?_
                  refine c_S (st1 := [.int (nI (sTold (((if (sArr h so la ri (pa k) (wa k) (lo - 1) 1 0 t).isSome then a else 0) + (if (sArr h so la ri (pa k) (wa k) (min 40 (lo + 1)) 1 0 t).isSome then b else 0)) + (if (sArr h so la ri (pa k) (wa k) lo 1 0 t).isSome then 10 - a - b else 0)) 10 up))]) (ctX8_fraction (a := ((if (sArr h so la ri (pa k) (wa k) (lo - 1) 1 0 t).isSome then a else 0) + (if (sArr h so la ri (pa k) (wa k) (min 40 (lo + 1)) 1 0 t).isSome then b else 0)) + (if (sArr h so la ri (pa k) (wa k) lo 1 0 t).isSome then 10 - a - b else 0)) (b := 10) (u := up) (by omega) (by omega) (by omega) (by omega)) kX8_fraction lX8_234 (by decide) rfl (by exact Nat.le_of_ble_eq_true rfl) dX8_wind_161 rfl rfl ?_
                  refine g_iret rfl rfl dX8_wind_164 ?_
                  refine ⟨?_, _, _, _, rfl⟩
                  unfold pWind
                  rw [if_pos ik, if_pos (c := iW (nI t) 41 ∧ tenP (nI a) (nI b)) ⟨h24, Decidable.not_not.mp h33⟩, ek, cN_n (k := t) (by omega), cN_n (k := a) (by omega), cN_n (k := b) (by omega)]
                  rfl
              · replace h106 := (sArr_ne (by omega)).mp h106
                refine g_iconst (v := nI 0) dX8_wind_109 (by decide) ?_
                refine g_goto (tgt := 115) dX8_wind_110 (by decide) ?_
                refine g_topi (y := nI (if (sArr h so la ri (pa k) (wa k) (min 40 (lo + 1)) 1 0 t).isSome then b else 0)) (by first | rw [if_pos (isSome_t h106)] | rw [if_neg (by rw [isSome_f h106]; simp)]) ?_
                have qh106 : (if (sArr h so la ri (pa k) (wa k) (min 40 (lo + 1)) 1 0 t).isSome then b else 0) ≤ 10 := by split <;> omega
                refine g_istore (lv' := [(7, .int (nI (if (sArr h so la ri (pa k) (wa k) (min 40 (lo + 1)) 1 0 t).isSome then b else 0))), (6, .int (nI (if (sArr h so la ri (pa k) (wa k) (lo - 1) 1 0 t).isSome then a else 0))), (0, .ref 0), (1, .int (nI k)), (2, .int (nI t)), (3, .int (nI a)), (4, .int (nI b)), (5, .int (nI up))]) dX8_wind_115 (by decide) rfl ?_
                refine g_aload_n (i := 0) (j := 2) dX8_wind_117 rfl rfl ?_
                refine g_iload_n (i := 1) (j := 3) dX8_wind_118 rfl rfl ?_
                refine g_iconst (v := nI 0) dX8_wind_119 (by decide) ?_
                refine g_iload_n (i := 2) (j := 4) dX8_wind_120 rfl rfl ?_
                refine g_iconst (v := nI 1) dX8_wind_121 (by decide) ?_
                refine g_aload_n (i := 0) (j := 2) dX8_wind_122 rfl rfl ?_
                refine g_get fX8_139 rfl rfl dX8_wind_123 ?_
                refine g_callV (rest := []) (ctX8_goneOf (w := k) (c := 0) (s := t) (way := 1) (at0 := lo) hH hpa hwa (by omega) (by omega) hS (by first | omega | assumption | exact hpa _ | exact hwa _ | exact hr1 _ (by omega) | exact hr6 _ (by omega) | exact hr11 _ (by omega) | exact hr _ | exact Nat.le_succ_of_le (hr _) | (apply sTo_le; first | omega | exact hr1 _ (by omega))) (by first | omega | assumption | exact hpa _ | exact hwa _ | exact hr1 _ (by omega) | exact hr6 _ (by omega) | exact hr11 _ (by omega) | exact hr _ | exact Nat.le_succ_of_le (hr _) | (apply sTo_le; first | omega | exact hr1 _ (by omega))) (by first | omega | assumption | exact hpa _ | exact hwa _ | exact hr1 _ (by omega) | exact hr6 _ (by omega) | exact hr11 _ (by omega) | exact hr _ | exact Nat.le_succ_of_le (hr _) | (apply sTo_le; first | omega | exact hr1 _ (by omega))) (by first | omega | assumption | exact hpa _ | exact hwa _ | exact hr1 _ (by omega) | exact hr6 _ (by omega) | exact hr11 _ (by omega) | exact hr _ | exact Nat.le_succ_of_le (hr _) | (apply sTo_le; first | omega | exact hr1 _ (by omega))) (by first | omega | assumption | exact hpa _ | exact hwa _ | exact hr1 _ (by omega) | exact hr6 _ (by omega) | exact hr11 _ (by omega) | exact hr _ | exact Nat.le_succ_of_le (hr _) | (apply sTo_le; first | omega | exact hr1 _ (by omega))) (by first | omega | assumption | exact hpa _ | exact hwa _ | exact hr1 _ (by omega) | exact hr6 _ (by omega) | exact hr11 _ (by omega) | exact hr _ | exact Nat.le_succ_of_le (hr _) | (apply sTo_le; first | omega | exact hr1 _ (by omega)))) kX8_goneOf lX8_205 (by decide) rfl rfl rfl rfl (by exact Nat.le_of_ble_eq_true rfl) dX8_wind_126 rfl (fun v u hvu => ?_)
                obtain ⟨rfl, ce126, sa126, ti126, rfl⟩ := hvu
                refine g_st (st' := [.int (rO (sArr h so la ri (pa k) (wa k) lo 1 0 t))]) rfl ?_
                refine g_bipush (v := (-9)) dX8_wind_129 (by decide) ?_
                refine g_icmp_ne (tgt := 138) dX8_wind_131 (by decide) (fun h131 => ?_) (fun h131 => ?_)
                · replace h131 := fun z => h131 ((sArr_ne (by omega)).mpr z)
                  refine g_bipush (v := nI 10) dX8_wind_138 (by decide) ?_
                  refine g_iload_n (i := 3) (j := 5) dX8_wind_140 rfl rfl ?_
                  refine n_isub (a := 10) (b := a) (by omega) dX8_wind_141 ?_
                  refine g_iload (j := 6) dX8_wind_142 rfl ?_
                  refine n_isub (a := (10 - a)) (b := b) (by omega) dX8_wind_144 ?_
                  refine g_topi (y := nI (if (sArr h so la ri (pa k) (wa k) lo 1 0 t).isSome then 10 - a - b else 0)) (by first | rw [if_pos (isSome_t h131)] | rw [if_neg (by rw [isSome_f h131]; simp)]) ?_
                  have qh131 : (if (sArr h so la ri (pa k) (wa k) lo 1 0 t).isSome then 10 - a - b else 0) ≤ 10 := by split <;> omega
                  refine g_istore (lv' := [(8, .int (nI (if (sArr h so la ri (pa k) (wa k) lo 1 0 t).isSome then 10 - a - b else 0))), (7, .int (nI (if (sArr h so la ri (pa k) (wa k) (min 40 (lo + 1)) 1 0 t).isSome then b else 0))), (6, .int (nI (if (sArr h so la ri (pa k) (wa k) (lo - 1) 1 0 t).isSome then a else 0))), (0, .ref 0), (1, .int (nI k)), (2, .int (nI t)), (3, .int (nI a)), (4, .int (nI b)), (5, .int (nI up))]) dX8_wind_145 (by decide) rfl ?_
                  refine g_iload (j := 2) dX8_wind_147 rfl ?_
                  refine g_iload (j := 1) dX8_wind_149 rfl ?_
                  refine n_iadd (a := (if (sArr h so la ri (pa k) (wa k) (lo - 1) 1 0 t).isSome then a else 0)) (b := (if (sArr h so la ri (pa k) (wa k) (min 40 (lo + 1)) 1 0 t).isSome then b else 0)) dX8_wind_151 ?_
                  refine g_iload (j := 0) dX8_wind_152 rfl ?_
                  refine n_iadd (a := ((if (sArr h so la ri (pa k) (wa k) (lo - 1) 1 0 t).isSome then a else 0) + (if (sArr h so la ri (pa k) (wa k) (min 40 (lo + 1)) 1 0 t).isSome then b else 0))) (b := (if (sArr h so la ri (pa k) (wa k) lo 1 0 t).isSome then 10 - a - b else 0)) dX8_wind_154 ?_
                  refine g_i2l (v := lN (((if (sArr h so la ri (pa k) (wa k) (lo - 1) 1 0 t).isSome then a else 0) + (if (sArr h so la ri (pa k) (wa k) (min 40 (lo + 1)) 1 0 t).isSome then b else 0)) + (if (sArr h so la ri (pa k) (wa k) lo 1 0 t).isSome then 10 - a - b else 0))) dX8_wind_155 (nI_l (by omega)) ?_
                  refine g_ldc2 clX8_227 dX8_wind_156 ?_
                  refine g_st (st' := [.long (lN 10), .long (lN (((if (sArr h so la ri (pa k) (wa k) (lo - 1) 1 0 t).isSome then a else 0) + (if (sArr h so la ri (pa k) (wa k) (min 40 (lo + 1)) 1 0 t).isSome then b else 0)) + (if (sArr h so la ri (pa k) (wa k) lo 1 0 t).isSome then 10 - a - b else 0)))]) rfl ?_
                  refine g_iload (j := 8) dX8_wind_159 rfl ?_
                  refine c_S (st1 := [.int (nI (sTold (((if (sArr h so la ri (pa k) (wa k) (lo - 1) 1 0 t).isSome then a else 0) + (if (sArr h so la ri (pa k) (wa k) (min 40 (lo + 1)) 1 0 t).isSome then b else 0)) + (if (sArr h so la ri (pa k) (wa k) lo 1 0 t).isSome then 10 - a - b else 0)) 10 up))]) (ctX8_fraction (a := ((if (sArr h so la ri (pa k) (wa k) (lo - 1) 1 0 t).isSome then a else 0) + (if (sArr h so la ri (pa k) (wa k) (min 40 (lo + 1)) 1 0 t).isSome then b else 0)) + (if (sArr h so la ri (pa k) (wa k) lo 1 0 t).isSome then 10 - a - b else 0)) (b := 10) (u := up) (by omega) (by omega) (by omega) (by omega)) kX8_fraction lX8_234 (by decide) rfl (by exact Nat.le_of_ble_eq_true rfl) dX8_wind_161 rfl rfl ?_
                  refine g_iret rfl rfl dX8_wind_164 ?_
                  refine ⟨?_, _, _, _, rfl⟩
                  unfold pWind
                  rw [if_pos ik, if_pos (c := iW (nI t) 41 ∧ tenP (nI a) (nI b)) ⟨h24, Decidable.not_not.mp h33⟩, ek, cN_n (k := t) (by omega), cN_n (k := a) (by omega), cN_n (k := b) (by omega)]
                  rfl
                · replace h131 := (sArr_ne (by omega)).mp h131
                  refine g_iconst (v := nI 0) dX8_wind_134 (by decide) ?_
                  refine g_goto (tgt := 145) dX8_wind_135 (by decide) ?_
                  refine g_topi (y := nI (if (sArr h so la ri (pa k) (wa k) lo 1 0 t).isSome then 10 - a - b else 0)) (by first | rw [if_pos (isSome_t h131)] | rw [if_neg (by rw [isSome_f h131]; simp)]) ?_
                  have qh131 : (if (sArr h so la ri (pa k) (wa k) lo 1 0 t).isSome then 10 - a - b else 0) ≤ 10 := by split <;> omega
                  refine g_istore (lv' := [(8, .int (nI (if (sArr h so la ri (pa k) (wa k) lo 1 0 t).isSome then 10 - a - b else 0))), (7, .int (nI (if (sArr h so la ri (pa k) (wa k) (min 40 (lo + 1)) 1 0 t).isSome then b else 0))), (6, .int (nI (if (sArr h so la ri (pa k) (wa k) (lo - 1) 1 0 t).isSome then a else 0))), (0, .ref 0), (1, .int (nI k)), (2, .int (nI t)), (3, .int (nI a)), (4, .int (nI b)), (5, .int (nI up))]) dX8_wind_145 (by decide) rfl ?_
                  refine g_iload (j := 2) dX8_wind_147 rfl ?_
                  refine g_iload (j := 1) dX8_wind_149 rfl ?_
                  refine n_iadd (a := (if (sArr h so la ri (pa k) (wa k) (lo - 1) 1 0 t).isSome then a else 0)) (b := (if (sArr h so la ri (pa k) (wa k) (min 40 (lo + 1)) 1 0 t).isSome then b else 0)) dX8_wind_151 ?_
                  refine g_iload (j := 0) dX8_wind_152 rfl ?_
                  refine n_iadd (a := ((if (sArr h so la ri (pa k) (wa k) (lo - 1) 1 0 t).isSome then a else 0) + (if (sArr h so la ri (pa k) (wa k) (min 40 (lo + 1)) 1 0 t).isSome then b else 0))) (b := (if (sArr h so la ri (pa k) (wa k) lo 1 0 t).isSome then 10 - a - b else 0)) dX8_wind_154 ?_
                  refine g_i2l (v := lN (((if (sArr h so la ri (pa k) (wa k) (lo - 1) 1 0 t).isSome then a else 0) + (if (sArr h so la ri (pa k) (wa k) (min 40 (lo + 1)) 1 0 t).isSome then b else 0)) + (if (sArr h so la ri (pa k) (wa k) lo 1 0 t).isSome then 10 - a - b else 0))) dX8_wind_155 (nI_l (by omega)) ?_
                  refine g_ldc2 clX8_227 dX8_wind_156 ?_
                  refine g_st (st' := [.long (lN 10), .long (lN (((if (sArr h so la ri (pa k) (wa k) (lo - 1) 1 0 t).isSome then a else 0) + (if (sArr h so la ri (pa k) (wa k) (min 40 (lo + 1)) 1 0 t).isSome then b else 0)) + (if (sArr h so la ri (pa k) (wa k) lo 1 0 t).isSome then 10 - a - b else 0)))]) rfl ?_
                  refine g_iload (j := 8) dX8_wind_159 rfl ?_
                  refine c_S (st1 := [.int (nI (sTold (((if (sArr h so la ri (pa k) (wa k) (lo - 1) 1 0 t).isSome then a else 0) + (if (sArr h so la ri (pa k) (wa k) (min 40 (lo + 1)) 1 0 t).isSome then b else 0)) + (if (sArr h so la ri (pa k) (wa k) lo 1 0 t).isSome then 10 - a - b else 0)) 10 up))]) (ctX8_fraction (a := ((if (sArr h so la ri (pa k) (wa k) (lo - 1) 1 0 t).isSome then a else 0) + (if (sArr h so la ri (pa k) (wa k) (min 40 (lo + 1)) 1 0 t).isSome then b else 0)) + (if (sArr h so la ri (pa k) (wa k) lo 1 0 t).isSome then 10 - a - b else 0)) (b := 10) (u := up) (by omega) (by omega) (by omega) (by omega)) kX8_fraction lX8_234 (by decide) rfl (by exact Nat.le_of_ble_eq_true rfl) dX8_wind_161 rfl rfl ?_
                  refine g_iret rfl rfl dX8_wind_164 ?_
                  refine ⟨?_, _, _, _, rfl⟩
                  unfold pWind
                  rw [if_pos ik, if_pos (c := iW (nI t) 41 ∧ tenP (nI a) (nI b)) ⟨h24, Decidable.not_not.mp h33⟩, ek, cN_n (k := t) (by omega), cN_n (k := a) (by omega), cN_n (k := b) (by omega)]
                  rfl
            · refine g_bipush (v := nI 40) dX8_wind_90 (by decide) ?_
              refine g_goto (tgt := 101) dX8_wind_92 (by decide) ?_
              refine g_topi (y := nI (min 40 (lo + 1))) (congrArg nI (by omega)) ?_
              refine g_callV (rest := []) (ctX8_goneOf (w := k) (c := 0) (s := t) (way := 1) (at0 := min 40 (lo + 1)) hH hpa hwa (by omega) (by omega) hS (by first | omega | assumption | exact hpa _ | exact hwa _ | exact hr1 _ (by omega) | exact hr6 _ (by omega) | exact hr11 _ (by omega) | exact hr _ | exact Nat.le_succ_of_le (hr _) | (apply sTo_le; first | omega | exact hr1 _ (by omega))) (by first | omega | assumption | exact hpa _ | exact hwa _ | exact hr1 _ (by omega) | exact hr6 _ (by omega) | exact hr11 _ (by omega) | exact hr _ | exact Nat.le_succ_of_le (hr _) | (apply sTo_le; first | omega | exact hr1 _ (by omega))) (by first | omega | assumption | exact hpa _ | exact hwa _ | exact hr1 _ (by omega) | exact hr6 _ (by omega) | exact hr11 _ (by omega) | exact hr _ | exact Nat.le_succ_of_le (hr _) | (apply sTo_le; first | omega | exact hr1 _ (by omega))) (by first | omega | assumption | exact hpa _ | exact hwa _ | exact hr1 _ (by omega) | exact hr6 _ (by omega) | exact hr11 _ (by omega) | exact hr _ | exact Nat.le_succ_of_le (hr _) | (apply sTo_le; first | omega | exact hr1 _ (by omega))) (by first | omega | assumption | exact hpa _ | exact hwa _ | exact hr1 _ (by omega) | exact hr6 _ (by omega) | exact hr11 _ (by omega) | exact hr _ | exact Nat.le_succ_of_le (hr _) | (apply sTo_le; first | omega | exact hr1 _ (by omega))) (by first | omega | assumption | exact hpa _ | exact hwa _ | exact hr1 _ (by omega) | exact hr6 _ (by omega) | exact hr11 _ (by omega) | exact hr _ | exact Nat.le_succ_of_le (hr _) | (apply sTo_le; first | omega | exact hr1 _ (by omega)))) kX8_goneOf lX8_205 (by decide) rfl rfl rfl rfl (by exact Nat.le_of_ble_eq_true rfl) dX8_wind_101 rfl (fun v u hvu => ?_)
              obtain ⟨rfl, ce101, sa101, ti101, rfl⟩ := hvu
              refine g_st (st' := [.int (rO (sArr h so la ri (pa k) (wa k) (min 40 (lo + 1)) 1 0 t))]) rfl ?_
              refine g_bipush (v := (-9)) dX8_wind_104 (by decide) ?_
              refine g_icmp_ne (tgt := 113) dX8_wind_106 (by decide) (fun h106 => ?_) (fun h106 => ?_)
              · replace h106 := fun z => h106 ((sArr_ne (by omega)).mpr z)
                refine g_iload (j := 5) dX8_wind_113 rfl ?_
                refine g_topi (y := nI (if (sArr h so la ri (pa k) (wa k) (min 40 (lo + 1)) 1 0 t).isSome then b else 0)) (by first | rw [if_pos (isSome_t h106)] | rw [if_neg (by rw [isSome_f h106]; simp)]) ?_
                have qh106 : (if (sArr h so la ri (pa k) (wa k) (min 40 (lo + 1)) 1 0 t).isSome then b else 0) ≤ 10 := by split <;> omega
                refine g_istore (lv' := [(7, .int (nI (if (sArr h so la ri (pa k) (wa k) (min 40 (lo + 1)) 1 0 t).isSome then b else 0))), (6, .int (nI (if (sArr h so la ri (pa k) (wa k) (lo - 1) 1 0 t).isSome then a else 0))), (0, .ref 0), (1, .int (nI k)), (2, .int (nI t)), (3, .int (nI a)), (4, .int (nI b)), (5, .int (nI up))]) dX8_wind_115 (by decide) rfl ?_
                refine g_aload_n (i := 0) (j := 2) dX8_wind_117 rfl rfl ?_
                refine g_iload_n (i := 1) (j := 3) dX8_wind_118 rfl rfl ?_
                refine g_iconst (v := nI 0) dX8_wind_119 (by decide) ?_
                refine g_iload_n (i := 2) (j := 4) dX8_wind_120 rfl rfl ?_
                refine g_iconst (v := nI 1) dX8_wind_121 (by decide) ?_
                refine g_aload_n (i := 0) (j := 2) dX8_wind_122 rfl rfl ?_
                refine g_get fX8_139 rfl rfl dX8_wind_123 ?_
                refine g_callV (rest := []) (ctX8_goneOf (w := k) (c := 0) (s := t) (way := 1) (at0 := lo) hH hpa hwa (by omega) (by omega) hS (by first | omega | assumption | exact hpa _ | exact hwa _ | exact hr1 _ (by omega) | exact hr6 _ (by omega) | exact hr11 _ (by omega) | exact hr _ | exact Nat.le_succ_of_le (hr _) | (apply sTo_le; first | omega | exact hr1 _ (by omega))) (by first | omega | assumption | exact hpa _ | exact hwa _ | exact hr1 _ (by omega) | exact hr6 _ (by omega) | exact hr11 _ (by omega) | exact hr _ | exact Nat.le_succ_of_le (hr _) | (apply sTo_le; first | omega | exact hr1 _ (by omega))) (by first | omega | assumption | exact hpa _ | exact hwa _ | exact hr1 _ (by omega) | exact hr6 _ (by omega) | exact hr11 _ (by omega) | exact hr _ | exact Nat.le_succ_of_le (hr _) | (apply sTo_le; first | omega | exact hr1 _ (by omega))) (by first | omega | assumption | exact hpa _ | exact hwa _ | exact hr1 _ (by omega) | exact hr6 _ (by omega) | exact hr11 _ (by omega) | exact hr _ | exact Nat.le_succ_of_le (hr _) | (apply sTo_le; first | omega | exact hr1 _ (by omega))) (by first | omega | assumption | exact hpa _ | exact hwa _ | exact hr1 _ (by omega) | exact hr6 _ (by omega) | exact hr11 _ (by omega) | exact hr _ | exact Nat.le_succ_of_le (hr _) | (apply sTo_le; first | omega | exact hr1 _ (by omega))) (by first | omega | assumption | exact hpa _ | exact hwa _ | exact hr1 _ (by omega) | exact hr6 _ (by omega) | exact hr11 _ (by omega) | exact hr _ | exact Nat.le_succ_of_le (hr _) | (apply sTo_le; first | omega | exact hr1 _ (by omega)))) kX8_goneOf lX8_205 (by decide) rfl rfl rfl rfl (by exact Nat.le_of_ble_eq_true rfl) dX8_wind_126 rfl (fun v u hvu => ?_)
                obtain ⟨rfl, ce126, sa126, ti126, rfl⟩ := hvu
                refine g_st (st' := [.int (rO (sArr h so la ri (pa k) (wa k) lo 1 0 t))]) rfl ?_
                refine g_bipush (v := (-9)) dX8_wind_129 (by decide) ?_
                refine g_icmp_ne (tgt := 138) dX8_wind_131 (by decide) (fun h131 => ?_) (fun h131 => ?_)
                · replace h131 := fun z => h131 ((sArr_ne (by omega)).mpr z)
                  refine g_bipush (v := nI 10) dX8_wind_138 (by decide) ?_
                  refine g_iload_n (i := 3) (j := 5) dX8_wind_140 rfl rfl ?_
                  refine n_isub (a := 10) (b := a) (by omega) dX8_wind_141 ?_
                  refine g_iload (j := 6) dX8_wind_142 rfl ?_
                  refine n_isub (a := (10 - a)) (b := b) (by omega) dX8_wind_144 ?_
                  refine g_topi (y := nI (if (sArr h so la ri (pa k) (wa k) lo 1 0 t).isSome then 10 - a - b else 0)) (by first | rw [if_pos (isSome_t h131)] | rw [if_neg (by rw [isSome_f h131]; simp)]) ?_
                  have qh131 : (if (sArr h so la ri (pa k) (wa k) lo 1 0 t).isSome then 10 - a - b else 0) ≤ 10 := by split <;> omega
                  refine g_istore (lv' := [(8, .int (nI (if (sArr h so la ri (pa k) (wa k) lo 1 0 t).isSome then 10 - a - b else 0))), (7, .int (nI (if (sArr h so la ri (pa k) (wa k) (min 40 (lo + 1)) 1 0 t).isSome then b else 0))), (6, .int (nI (if (sArr h so la ri (pa k) (wa k) (lo - 1) 1 0 t).isSome then a else 0))), (0, .ref 0), (1, .int (nI k)), (2, .int (nI t)), (3, .int (nI a)), (4, .int (nI b)), (5, .int (nI up))]) dX8_wind_145 (by decide) rfl ?_
                  refine g_iload (j := 2) dX8_wind_147 rfl ?_
                  refine g_iload (j := 1) dX8_wind_149 rfl ?_
                  refine n_iadd (a := (if (sArr h so la ri (pa k) (wa k) (lo - 1) 1 0 t).isSome then a else 0)) (b := (if (sArr h so la ri (pa k) (wa k) (min 40 (lo + 1)) 1 0 t).isSome then b else 0)) dX8_wind_151 ?_
                  refine g_iload (j := 0) dX8_wind_152 rfl ?_
                  refine n_iadd (a := ((if (sArr h so la ri (pa k) (wa k) (lo - 1) 1 0 t).isSome then a else 0) + (if (sArr h so la ri (pa k) (wa k) (min 40 (lo + 1)) 1 0 t).isSome then b else 0))) (b := (if (sArr h so la ri (pa k) (wa k) lo 1 0 t).isSome then 10 - a - b else 0)) dX8_wind_154 ?_
                  refine g_i2l (v := lN (((if (sArr h so la ri (pa k) (wa k) (lo - 1) 1 0 t).isSome then a else 0) + (if (sArr h so la ri (pa k) (wa k) (min 40 (lo + 1)) 1 0 t).isSome then b else 0)) + (if (sArr h so la ri (pa k) (wa k) lo 1 0 t).isSome then 10 - a - b else 0))) dX8_wind_155 (nI_l (by omega)) ?_
                  refine g_ldc2 clX8_227 dX8_wind_156 ?_
                  refine g_st (st' := [.long (lN 10), .long (lN (((if (sArr h so la ri (pa k) (wa k) (lo - 1) 1 0 t).isSome then a else 0) + (if (sArr h so la ri (pa k) (wa k) (min 40 (lo + 1)) 1 0 t).isSome then b else 0)) + (if (sArr h so la ri (pa k) (wa k) lo 1 0 t).isSome then 10 - a - b else 0)))]) rfl ?_
                  refine g_iload (j := 8) dX8_wind_159 rfl ?_
                  refine c_S (st1 := [.int (nI (sTold (((if (sArr h so la ri (pa k) (wa k) (lo - 1) 1 0 t).isSome then a else 0) + (if (sArr h so la ri (pa k) (wa k) (min 40 (lo + 1)) 1 0 t).isSome then b else 0)) + (if (sArr h so la ri (pa k) (wa k) lo 1 0 t).isSome then 10 - a - b else 0)) 10 up))]) (ctX8_fraction (a := ((if (sArr h so la ri (pa k) (wa k) (lo - 1) 1 0 t).isSome then a else 0) + (if (sArr h so la ri (pa k) (wa k) (min 40 (lo + 1)) 1 0 t).isSome then b else 0)) + (if (sArr h so la ri (pa k) (wa k) lo 1 0 t).isSome then 10 - a - b else 0)) (b := 10) (u := up) (by omega) (by omega) (by omega) (by omega)) kX8_fraction lX8_234 (by decide) rfl (by exact Nat.le_of_ble_eq_true rfl) dX8_wind_161 rfl rfl ?_
                  refine g_iret rfl rfl dX8_wind_164 ?_
                  refine ⟨?_, _, _, _, rfl⟩
                  unfold pWind
                  rw [if_pos ik, if_pos (c := iW (nI t) 41 ∧ tenP (nI a) (nI b)) ⟨h24, Decidable.not_not.mp h33⟩, ek, cN_n (k := t) (by omega), cN_n (k := a) (by omega), cN_n (k := b) (by omega)]
                  rfl
                · replace h131 := (sArr_ne (by omega)).mp h131
                  refine g_iconst (v := nI 0) dX8_wind_134 (by decide) ?_
                  refine g_goto (tgt := 145) dX8_wind_135 (by decide) ?_
                  refine g_topi (y := nI (if (sArr h so la ri (pa k) (wa k) lo 1 0 t).isSome then 10 - a - b else 0)) (by first | rw [if_pos (isSome_t h131)] | rw [if_neg (by rw [isSome_f h131]; simp)]) ?_
                  have qh131 : (if (sArr h so la ri (pa k) (wa k) lo 1 0 t).isSome then 10 - a - b else 0) ≤ 10 := by split <;> omega
                  refine g_istore (lv' := [(8, .int (nI (if (sArr h so la ri (pa k) (wa k) lo 1 0 t).isSome then 10 - a - b else 0))), (7, .int (nI (if (sArr h so la ri (pa k) (wa k) (min 40 (lo + 1)) 1 0 t).isSome then b else 0))), (6, .int (nI (if (sArr h so la ri (pa k) (wa k) (lo - 1) 1 0 t).isSome then a else 0))), (0, .ref 0), (1, .int (nI k)), (2, .int (nI t)), (3, .int (nI a)), (4, .int (nI b)), (5, .int (nI up))]) dX8_wind_145 (by decide) rfl ?_
                  refine g_iload (j := 2) dX8_wind_147 rfl ?_
                  refine g_iload (j := 1) dX8_wind_149 rfl ?_
                  refine n_iadd (a := (if (sArr h so la ri (pa k) (wa k) (lo - 1) 1 0 t).isSome then a else 0)) (b := (if (sArr h so la ri (pa k) (wa k) (min 40 (lo + 1)) 1 0 t).isSome then b else 0)) dX8_wind_151 ?_
                  refine g_iload (j := 0) dX8_wind_152 rfl ?_
                  refine n_iadd (a := ((if (sArr h so la ri (pa k) (wa k) (lo - 1) 1 0 t).isSome then a else 0) + (if (sArr h so la ri (pa k) (wa k) (min 40 (lo + 1)) 1 0 t).isSome then b else 0))) (b := (if (sArr h so la ri (pa k) (wa k) lo 1 0 t).isSome then 10 - a - b else 0)) dX8_wind_154 ?_
                  refine g_i2l (v := lN (((if (sArr h so la ri (pa k) (wa k) (lo - 1) 1 0 t).isSome then a else 0) + (if (sArr h so la ri (pa k) (wa k) (min 40 (lo + 1)) 1 0 t).isSome then b else 0)) + (if (sArr h so la ri (pa k) (wa k) lo 1 0 t).isSome then 10 - a - b else 0))) dX8_wind_155 (nI_l (by omega)) ?_
                  refine g_ldc2 clX8_227 dX8_wind_156 ?_
                  refine g_st (st' := [.long (lN 10), .long (lN (((if (sArr h so la ri (pa k) (wa k) (lo - 1) 1 0 t).isSome then a else 0) + (if (sArr h so la ri (pa k) (wa k) (min 40 (lo + 1)) 1 0 t).isSome then b else 0)) + (if (sArr h so la ri (pa k) (wa k) lo 1 0 t).isSome then 10 - a - b else 0)))]) rfl ?_
                  refine g_iload (j := 8) dX8_wind_159 rfl ?_
                  refine c_S (st1 := [.int (nI (sTold (((if (sArr h so la ri (pa k) (wa k) (lo - 1) 1 0 t).isSome then a else 0) + (if (sArr h so la ri (pa k) (wa k) (min 40 (lo + 1)) 1 0 t).isSome then b else 0)) + (if (sArr h so la ri (pa k) (wa k) lo 1 0 t).isSome then 10 - a - b else 0)) 10 up))]) (ctX8_fraction (a := ((if (sArr h so la ri (pa k) (wa k) (lo - 1) 1 0 t).isSome then a else 0) + (if (sArr h so la ri (pa k) (wa k) (min 40 (lo + 1)) 1 0 t).isSome then b else 0)) + (if (sArr h so la ri (pa k) (wa k) lo 1 0 t).isSome then 10 - a - b else 0)) (b := 10) (u := up) (by omega) (by omega) (by omega) (by omega)) kX8_fraction lX8_234 (by decide) rfl (by exact Nat.le_of_ble_eq_true rfl) dX8_wind_161 rfl rfl ?_
                  refine g_iret rfl rfl dX8_wind_164 ?_
                  refine ⟨?_, _, _, _, rfl⟩
                  unfold pWind
                  rw [if_pos ik, if_pos (c := iW (nI t) 41 ∧ tenP (nI a) (nI b)) ⟨h24, Decidable.not_not.mp h33⟩, ek, cN_n (k := t) (by omega), cN_n (k := a) (by omega), cN_n (k := b) (by omega)]
                  rfl
              · replace h106 := (sArr_ne (by omega)).mp h106
                refine g_iconst (v := nI 0) dX8_wind_109 (by decide) ?_
                refine g_goto (tgt := 115) dX8_wind_110 (by decide) ?_
                refine g_topi (y := nI (if (sArr h so la ri (pa k) (wa k) (min 40 (lo + 1)) 1 0 t).isSome then b else 0)) (by first | rw [if_pos (isSome_t h106)] | rw [if_neg (by rw [isSome_f h106]; simp)]) ?_
                have qh106 : (if (sArr h so la ri (pa k) (wa k) (min 40 (lo + 1)) 1 0 t).isSome then b else 0) ≤ 10 := by split <;> omega
                refine g_istore (lv' := [(7, .int (nI (if (sArr h so la ri (pa k) (wa k) (min 40 (lo + 1)) 1 0 t).isSome then b else 0))), (6, .int (nI (if (sArr h so la ri (pa k) (wa k) (lo - 1) 1 0 t).isSome then a else 0))), (0, .ref 0), (1, .int (nI k)), (2, .int (nI t)), (3, .int (nI a)), (4, .int (nI b)), (5, .int (nI up))]) dX8_wind_115 (by decide) rfl ?_
                refine g_aload_n (i := 0) (j := 2) dX8_wind_117 rfl rfl ?_
                refine g_iload_n (i := 1) (j := 3) dX8_wind_118 rfl rfl ?_
                refine g_iconst (v := nI 0) dX8_wind_119 (by decide) ?_
                refine g_iload_n (i := 2) (j := 4) dX8_wind_120 rfl rfl ?_
                refine g_iconst (v := nI 1) dX8_wind_121 (by decide) ?_
                refine g_aload_n (i := 0) (j := 2) dX8_wind_122 rfl rfl ?_
                refine g_get fX8_139 rfl rfl dX8_wind_123 ?_
                refine g_callV (rest := []) (ctX8_goneOf (w := k) (c := 0) (s := t) (way := 1) (at0 := lo) hH hpa hwa (by omega) (by omega) hS (by first | omega | assumption | exact hpa _ | exact hwa _ | exact hr1 _ (by omega) | exact hr6 _ (by omega) | exact hr11 _ (by omega) | exact hr _ | exact Nat.le_succ_of_le (hr _) | (apply sTo_le; first | omega | exact hr1 _ (by omega))) (by first | omega | assumption | exact hpa _ | exact hwa _ | exact hr1 _ (by omega) | exact hr6 _ (by omega) | exact hr11 _ (by omega) | exact hr _ | exact Nat.le_succ_of_le (hr _) | (apply sTo_le; first | omega | exact hr1 _ (by omega))) (by first | omega | assumption | exact hpa _ | exact hwa _ | exact hr1 _ (by omega) | exact hr6 _ (by omega) | exact hr11 _ (by omega) | exact hr _ | exact Nat.le_succ_of_le (hr _) | (apply sTo_le; first | omega | exact hr1 _ (by omega))) (by first | omega | assumption | exact hpa _ | exact hwa _ | exact hr1 _ (by omega) | exact hr6 _ (by omega) | exact hr11 _ (by omega) | exact hr _ | exact Nat.le_succ_of_le (hr _) | (apply sTo_le; first | omega | exact hr1 _ (by omega))) (by first | omega | assumption | exact hpa _ | exact hwa _ | exact hr1 _ (by omega) | exact hr6 _ (by omega) | exact hr11 _ (by omega) | exact hr _ | exact Nat.le_succ_of_le (hr _) | (apply sTo_le; first | omega | exact hr1 _ (by omega))) (by first | omega | assumption | exact hpa _ | exact hwa _ | exact hr1 _ (by omega) | exact hr6 _ (by omega) | exact hr11 _ (by omega) | exact hr _ | exact Nat.le_succ_of_le (hr _) | (apply sTo_le; first | omega | exact hr1 _ (by omega)))) kX8_goneOf lX8_205 (by decide) rfl rfl rfl rfl (by exact Nat.le_of_ble_eq_true rfl) dX8_wind_126 rfl (fun v u hvu => ?_)
                obtain ⟨rfl, ce126, sa126, ti126, rfl⟩ := hvu
                refine g_st (st' := [.int (rO (sArr h so la ri (pa k) (wa k) lo 1 0 t))]) rfl ?_
                refine g_bipush (v := (-9)) dX8_wind_129 (by decide) ?_
                refine g_icmp_ne (tgt := 138) dX8_wind_131 (by decide) (fun h131 => ?_) (fun h131 => ?_)
                · replace h131 := fun z => h131 ((sArr_ne (by omega)).mpr z)
                  refine g_bipush (v := nI 10) dX8_wind_138 (by decide) ?_
                  refine g_iload_n (i := 3) (j := 5) dX8_wind_140 rfl rfl ?_
                  refine n_isub (a := 10) (b := a) (by omega) dX8_wind_141 ?_
                  refine g_iload (j := 6) dX8_wind_142 rfl ?_
                  refine n_isub (a := (10 - a)) (b := b) (by omega) dX8_wind_144 ?_
                  refine g_topi (y := nI (if (sArr h so la ri (pa k) (wa k) lo 1 0 t).isSome then 10 - a - b else 0)) (by first | rw [if_pos (isSome_t h131)] | rw [if_neg (by rw [isSome_f h131]; simp)]) ?_
                  have qh131 : (if (sArr h so la ri (pa k) (wa k) lo 1 0 t).isSome then 10 - a - b else 0) ≤ 10 := by split <;> omega
                  refine g_istore (lv' := [(8, .int (nI (if (sArr h so la ri (pa k) (wa k) lo 1 0 t).isSome then 10 - a - b else 0))), (7, .int (nI (if (sArr h so la ri (pa k) (wa k) (min 40 (lo + 1)) 1 0 t).isSome then b else 0))), (6, .int (nI (if (sArr h so la ri (pa k) (wa k) (lo - 1) 1 0 t).isSome then a else 0))), (0, .ref 0), (1, .int (nI k)), (2, .int (nI t)), (3, .int (nI a)), (4, .int (nI b)), (5, .int (nI up))]) dX8_wind_145 (by decide) rfl ?_
                  refine g_iload (j := 2) dX8_wind_147 rfl ?_
                  refine g_iload (j := 1) dX8_wind_149 rfl ?_
                  refine n_iadd (a := (if (sArr h so la ri (pa k) (wa k) (lo - 1) 1 0 t).isSome then a else 0)) (b := (if (sArr h so la ri (pa k) (wa k) (min 40 (lo + 1)) 1 0 t).isSome then b else 0)) dX8_wind_151 ?_
                  refine g_iload (j := 0) dX8_wind_152 rfl ?_
                  refine n_iadd (a := ((if (sArr h so la ri (pa k) (wa k) (lo - 1) 1 0 t).isSome then a else 0) + (if (sArr h so la ri (pa k) (wa k) (min 40 (lo + 1)) 1 0 t).isSome then b else 0))) (b := (if (sArr h so la ri (pa k) (wa k) lo 1 0 t).isSome then 10 - a - b else 0)) dX8_wind_154 ?_
                  refine g_i2l (v := lN (((if (sArr h so la ri (pa k) (wa k) (lo - 1) 1 0 t).isSome then a else 0) + (if (sArr h so la ri (pa k) (wa k) (min 40 (lo + 1)) 1 0 t).isSome then b else 0)) + (if (sArr h so la ri (pa k) (wa k) lo 1 0 t).isSome then 10 - a - b else 0))) dX8_wind_155 (nI_l (by omega)) ?_
                  refine g_ldc2 clX8_227 dX8_wind_156 ?_
                  refine g_st (st' := [.long (lN 10), .long (lN (((if (sArr h so la ri (pa k) (wa k) (lo - 1) 1 0 t).isSome then a else 0) + (if (sArr h so la ri (pa k) (wa k) (min 40 (lo + 1)) 1 0 t).isSome then b else 0)) + (if (sArr h so la ri (pa k) (wa k) lo 1 0 t).isSome then 10 - a - b else 0)))]) rfl ?_
                  refine g_iload (j := 8) dX8_wind_159 rfl ?_
                  refine c_S (st1 := [.int (nI (sTold (((if (sArr h so la ri (pa k) (wa k) (lo - 1) 1 0 t).isSome then a else 0) + (if (sArr h so la ri (pa k) (wa k) (min 40 (lo + 1)) 1 0 t).isSome then b else 0)) + (if (sArr h so la ri (pa k) (wa k) lo 1 0 t).isSome then 10 - a - b else 0)) 10 up))]) (ctX8_fraction (a := ((if (sArr h so la ri (pa k) (wa k) (lo - 1) 1 0 t).isSome then a else 0) + (if (sArr h so la ri (pa k) (wa k) (min 40 (lo + 1)) 1 0 t).isSome then b else 0)) + (if (sArr h so la ri (pa k) (wa k) lo 1 0 t).isSome then 10 - a - b else 0)) (b := 10) (u := up) (by omega) (by omega) (by omega) (by omega)) kX8_fraction lX8_234 (by decide) rfl (by exact Nat.le_of_ble_eq_true rfl) dX8_wind_161 rfl rfl ?_
                  refine g_iret rfl rfl dX8_wind_164 ?_
                  refine ⟨?_, _, _, _, rfl⟩
                  unfold pWind
                  rw [if_pos ik, if_pos (c := iW (nI t) 41 ∧ tenP (nI a) (nI b)) ⟨h24, Decidable.not_not.mp h33⟩, ek, cN_n (k := t) (by omega), cN_n (k := a) (by omega), cN_n (k := b) (by omega)]
                  rfl
                · replace h131 := (sArr_ne (by omega)).mp h131
                  refine g_iconst (v := nI 0) dX8_wind_134 (by decide) ?_
                  refine g_goto (tgt := 145) dX8_wind_135 (by decide) ?_
                  refine g_topi (y := nI (if (sArr h so la ri (pa k) (wa k) lo 1 0 t).isSome then 10 - a - b else 0)) (by first | rw [if_pos (isSome_t h131)] | rw [if_neg (by rw [isSome_f h131]; simp)]) ?_
                  have qh131 : (if (sArr h so la ri (pa k) (wa k) lo 1 0 t).isSome then 10 - a - b else 0) ≤ 10 := by split <;> omega
                  refine g_istore (lv' := [(8, .int (nI (if (sArr h so la ri (pa k) (wa k) lo 1 0 t).isSome then 10 - a - b else 0))), (7, .int (nI (if (sArr h so la ri (pa k) (wa k) (min 40 (lo + 1)) 1 0 t).isSome then b else 0))), (6, .int (nI (if (sArr h so la ri (pa k) (wa k) (lo - 1) 1 0 t).isSome then a else 0))), (0, .ref 0), (1, .int (nI k)), (2, .int (nI t)), (3, .int (nI a)), (4, .int (nI b)), (5, .int (nI up))]) dX8_wind_145 (by decide) rfl ?_
                  refine g_iload (j := 2) dX8_wind_147 rfl ?_
                  refine g_iload (j := 1) dX8_wind_149 rfl ?_
                  refine n_iadd (a := (if (sArr h so la ri (pa k) (wa k) (lo - 1) 1 0 t).isSome then a else 0)) (b := (if (sArr h so la ri (pa k) (wa k) (min 40 (lo + 1)) 1 0 t).isSome then b else 0)) dX8_wind_151 ?_
                  refine g_iload (j := 0) dX8_wind_152 rfl ?_
                  refine n_iadd (a := ((if (sArr h so la ri (pa k) (wa k) (lo - 1) 1 0 t).isSome then a else 0) + (if (sArr h so la ri (pa k) (wa k) (min 40 (lo + 1)) 1 0 t).isSome then b else 0))) (b := (if (sArr h so la ri (pa k) (wa k) lo 1 0 t).isSome then 10 - a - b else 0)) dX8_wind_154 ?_
                  refine g_i2l (v := lN (((if (sArr h so la ri (pa k) (wa k) (lo - 1) 1 0 t).isSome then a else 0) + (if (sArr h so la ri (pa k) (wa k) (min 40 (lo + 1)) 1 0 t).isSome then b else 0)) + (if (sArr h so la ri (pa k) (wa k) lo 1 0 t).isSome then 10 - a - b else 0))) dX8_wind_155 (nI_l (by omega)) ?_
                  refine g_ldc2 clX8_227 dX8_wind_156 ?_
                  refine g_st (st' := [.long (lN 10), .long (lN (((if (sArr h so la ri (pa k) (wa k) (lo - 1) 1 0 t).isSome then a else 0) + (if (sArr h so la ri (pa k) (wa k) (min 40 (lo + 1)) 1 0 t).isSome then b else 0)) + (if (sArr h so la ri (pa k) (wa k) lo 1 0 t).isSome then 10 - a - b else 0)))]) rfl ?_
                  refine g_iload (j := 8) dX8_wind_159 rfl ?_
                  refine c_S (st1 := [.int (nI (sTold (((if (sArr h so la ri (pa k) (wa k) (lo - 1) 1 0 t).isSome then a else 0) + (if (sArr h so la ri (pa k) (wa k) (min 40 (lo + 1)) 1 0 t).isSome then b else 0)) + (if (sArr h so la ri (pa k) (wa k) lo 1 0 t).isSome then 10 - a - b else 0)) 10 up))]) (ctX8_fraction (a := ((if (sArr h so la ri (pa k) (wa k) (lo - 1) 1 0 t).isSome then a else 0) + (if (sArr h so la ri (pa k) (wa k) (min 40 (lo + 1)) 1 0 t).isSome then b else 0)) + (if (sArr h so la ri (pa k) (wa k) lo 1 0 t).isSome then 10 - a - b else 0)) (b := 10) (u := up) (by omega) (by omega) (by omega) (by omega)) kX8_fraction lX8_234 (by decide) rfl (by exact Nat.le_of_ble_eq_true rfl) dX8_wind_161 rfl rfl ?_
                  refine g_iret rfl rfl dX8_wind_164 ?_
                  refine ⟨?_, _, _, _, rfl⟩
                  unfold pWind
                  rw [if_pos ik, if_pos (c := iW (nI t) 41 ∧ tenP (nI a) (nI b)) ⟨h24, Decidable.not_not.mp h33⟩, ek, cN_n (k := t) (by omega), cN_n (k := a) (by omega), cN_n (k := b) (by omega)]
                  rfl
          · replace h66 := (sArr_ne (by omega)).mp h66
            refine g_iconst (v := nI 0) dX8_wind_69 (by decide) ?_
            refine g_goto (tgt := 74) dX8_wind_70 (by decide) ?_
            refine g_topi (y := nI (if (sArr h so la ri (pa k) (wa k) (lo - 1) 1 0 t).isSome then a else 0)) (by first | rw [if_pos (isSome_t h66)] | rw [if_neg (by rw [isSome_f h66]; simp)]) ?_
            have qh66 : (if (sArr h so la ri (pa k) (wa k) (lo - 1) 1 0 t).isSome then a else 0) ≤ 10 := by split <;> omega
            refine g_istore (lv' := [(6, .int (nI (if (sArr h so la ri (pa k) (wa k) (lo - 1) 1 0 t).isSome then a else 0))), (0, .ref 0), (1, .int (nI k)), (2, .int (nI t)), (3, .int (nI a)), (4, .int (nI b)), (5, .int (nI up))]) dX8_wind_74 (by decide) rfl ?_
            refine g_aload_n (i := 0) (j := 1) dX8_wind_76 rfl rfl ?_
            refine g_iload_n (i := 1) (j := 2) dX8_wind_77 rfl rfl ?_
            refine g_iconst (v := nI 0) dX8_wind_78 (by decide) ?_
            refine g_iload_n (i := 2) (j := 3) dX8_wind_79 rfl rfl ?_
            refine g_iconst (v := nI 1) dX8_wind_80 (by decide) ?_
            refine g_aload_n (i := 0) (j := 1) dX8_wind_81 rfl rfl ?_
            refine g_get fX8_139 rfl rfl dX8_wind_82 ?_
            refine g_bipush (v := nI 40) dX8_wind_85 (by decide) ?_
            refine n_icmp_ne (tgt := 95) (by omega) (rng_lit 40 rfl) dX8_wind_87 (by decide) (fun h87 => ?_) (fun h87 => ?_)
            · refine g_aload_n (i := 0) (j := 1) dX8_wind_95 rfl rfl ?_
              refine g_get fX8_139 rfl rfl dX8_wind_96 ?_
              refine g_iconst (v := nI 1) dX8_wind_99 (by decide) ?_
              refine n_iadd (a := lo) (b := 1) dX8_wind_100 ?_
              refine g_topi (y := nI (min 40 (lo + 1))) (congrArg nI (by omega)) ?_
              refine g_callV (rest := []) (ctX8_goneOf (w := k) (c := 0) (s := t) (way := 1) (at0 := min 40 (lo + 1)) hH hpa hwa (by omega) (by omega) hS (by first | omega | assumption | exact hpa _ | exact hwa _ | exact hr1 _ (by omega) | exact hr6 _ (by omega) | exact hr11 _ (by omega) | exact hr _ | exact Nat.le_succ_of_le (hr _) | (apply sTo_le; first | omega | exact hr1 _ (by omega))) (by first | omega | assumption | exact hpa _ | exact hwa _ | exact hr1 _ (by omega) | exact hr6 _ (by omega) | exact hr11 _ (by omega) | exact hr _ | exact Nat.le_succ_of_le (hr _) | (apply sTo_le; first | omega | exact hr1 _ (by omega))) (by first | omega | assumption | exact hpa _ | exact hwa _ | exact hr1 _ (by omega) | exact hr6 _ (by omega) | exact hr11 _ (by omega) | exact hr _ | exact Nat.le_succ_of_le (hr _) | (apply sTo_le; first | omega | exact hr1 _ (by omega))) (by first | omega | assumption | exact hpa _ | exact hwa _ | exact hr1 _ (by omega) | exact hr6 _ (by omega) | exact hr11 _ (by omega) | exact hr _ | exact Nat.le_succ_of_le (hr _) | (apply sTo_le; first | omega | exact hr1 _ (by omega))) (by first | omega | assumption | exact hpa _ | exact hwa _ | exact hr1 _ (by omega) | exact hr6 _ (by omega) | exact hr11 _ (by omega) | exact hr _ | exact Nat.le_succ_of_le (hr _) | (apply sTo_le; first | omega | exact hr1 _ (by omega))) (by first | omega | assumption | exact hpa _ | exact hwa _ | exact hr1 _ (by omega) | exact hr6 _ (by omega) | exact hr11 _ (by omega) | exact hr _ | exact Nat.le_succ_of_le (hr _) | (apply sTo_le; first | omega | exact hr1 _ (by omega)))) kX8_goneOf lX8_205 (by decide) rfl rfl rfl rfl (by exact Nat.le_of_ble_eq_true rfl) dX8_wind_101 rfl (fun v u hvu => ?_)
              obtain ⟨rfl, ce101, sa101, ti101, rfl⟩ := hvu
              refine g_st (st' := [.int (rO (sArr h so la ri (pa k) (wa k) (min 40 (lo + 1)) 1 0 t))]) rfl ?_
              refine g_bipush (v := (-9)) dX8_wind_104 (by decide) ?_
              refine g_icmp_ne (tgt := 113) dX8_wind_106 (by decide) (fun h106 => ?_) (fun h106 => ?_)
              · replace h106 := fun z => h106 ((sArr_ne (by omega)).mpr z)
                refine g_iload (j := 5) dX8_wind_113 rfl ?_
                refine g_topi (y := nI (if (sArr h so la ri (pa k) (wa k) (min 40 (lo + 1)) 1 0 t).isSome then b else 0)) (by first | rw [if_pos (isSome_t h106)] | rw [if_neg (by rw [isSome_f h106]; simp)]) ?_
                have qh106 : (if (sArr h so la ri (pa k) (wa k) (min 40 (lo + 1)) 1 0 t).isSome then b else 0) ≤ 10 := by split <;> omega
                refine g_istore (lv' := [(7, .int (nI (if (sArr h so la ri (pa k) (wa k) (min 40 (lo + 1)) 1 0 t).isSome then b else 0))), (6, .int (nI (if (sArr h so la ri (pa k) (wa k) (lo - 1) 1 0 t).isSome then a else 0))), (0, .ref 0), (1, .int (nI k)), (2, .int (nI t)), (3, .int (nI a)), (4, .int (nI b)), (5, .int (nI up))]) dX8_wind_115 (by decide) rfl ?_
                refine g_aload_n (i := 0) (j := 2) dX8_wind_117 rfl rfl ?_
                refine g_iload_n (i := 1) (j := 3) dX8_wind_118 rfl rfl ?_
                refine g_iconst (v := nI 0) dX8_wind_119 (by decide) ?_
                refine g_iload_n (i := 2) (j := 4) dX8_wind_120 rfl rfl ?_
                refine g_iconst (v := nI 1) dX8_wind_121 (by decide) ?_
                refine g_aload_n (i := 0) (j := 2) dX8_wind_122 rfl rfl ?_
                refine g_get fX8_139 rfl rfl dX8_wind_123 ?_
                refine g_callV (rest := []) (ctX8_goneOf (w := k) (c := 0) (s := t) (way := 1) (at0 := lo) hH hpa hwa (by omega) (by omega) hS (by first | omega | assumption | exact hpa _ | exact hwa _ | exact hr1 _ (by omega) | exact hr6 _ (by omega) | exact hr11 _ (by omega) | exact hr _ | exact Nat.le_succ_of_le (hr _) | (apply sTo_le; first | omega | exact hr1 _ (by omega))) (by first | omega | assumption | exact hpa _ | exact hwa _ | exact hr1 _ (by omega) | exact hr6 _ (by omega) | exact hr11 _ (by omega) | exact hr _ | exact Nat.le_succ_of_le (hr _) | (apply sTo_le; first | omega | exact hr1 _ (by omega))) (by first | omega | assumption | exact hpa _ | exact hwa _ | exact hr1 _ (by omega) | exact hr6 _ (by omega) | exact hr11 _ (by omega) | exact hr _ | exact Nat.le_succ_of_le (hr _) | (apply sTo_le; first | omega | exact hr1 _ (by omega))) (by first | omega | assumption | exact hpa _ | exact hwa _ | exact hr1 _ (by omega) | exact hr6 _ (by omega) | exact hr11 _ (by omega) | exact hr _ | exact Nat.le_succ_of_le (hr _) | (apply sTo_le; first | omega | exact hr1 _ (by omega))) (by first | omega | assumption | exact hpa _ | exact hwa _ | exact hr1 _ (by omega) | exact hr6 _ (by omega) | exact hr11 _ (by omega) | exact hr _ | exact Nat.le_succ_of_le (hr _) | (apply sTo_le; first | omega | exact hr1 _ (by omega))) (by first | omega | assumption | exact hpa _ | exact hwa _ | exact hr1 _ (by omega) | exact hr6 _ (by omega) | exact hr11 _ (by omega) | exact hr _ | exact Nat.le_succ_of_le (hr _) | (apply sTo_le; first | omega | exact hr1 _ (by omega)))) kX8_goneOf lX8_205 (by decide) rfl rfl rfl rfl (by exact Nat.le_of_ble_eq_true rfl) dX8_wind_126 rfl (fun v u hvu => ?_)
                obtain ⟨rfl, ce126, sa126, ti126, rfl⟩ := hvu
                refine g_st (st' := [.int (rO (sArr h so la ri (pa k) (wa k) lo 1 0 t))]) rfl ?_
                refine g_bipush (v := (-9)) dX8_wind_129 (by decide) ?_
                refine g_icmp_ne (tgt := 138) dX8_wind_131 (by decide) (fun h131 => ?_) (fun h131 => ?_)
                · replace h131 := fun z => h131 ((sArr_ne (by omega)).mpr z)
                  refine g_bipush (v := nI 10) dX8_wind_138 (by decide) ?_
                  refine g_iload_n (i := 3) (j := 5) dX8_wind_140 rfl rfl ?_
                  refine n_isub (a := 10) (b := a) (by omega) dX8_wind_141 ?_
                  refine g_iload (j := 6) dX8_wind_142 rfl ?_
                  refine n_isub (a := (10 - a)) (b := b) (by omega) dX8_wind_144 ?_
                  refine g_topi (y := nI (if (sArr h so la ri (pa k) (wa k) lo 1 0 t).isSome then 10 - a - b else 0)) (by first | rw [if_pos (isSome_t h131)] | rw [if_neg (by rw [isSome_f h131]; simp)]) ?_
                  have qh131 : (if (sArr h so la ri (pa k) (wa k) lo 1 0 t).isSome then 10 - a - b else 0) ≤ 10 := by split <;> omega
                  refine g_istore (lv' := [(8, .int (nI (if (sArr h so la ri (pa k) (wa k) lo 1 0 t).isSome then 10 - a - b else 0))), (7, .int (nI (if (sArr h so la ri (pa k) (wa k) (min 40 (lo + 1)) 1 0 t).isSome then b else 0))), (6, .int (nI (if (sArr h so la ri (pa k) (wa k) (lo - 1) 1 0 t).isSome then a else 0))), (0, .ref 0), (1, .int (nI k)), (2, .int (nI t)), (3, .int (nI a)), (4, .int (nI b)), (5, .int (nI up))]) dX8_wind_145 (by decide) rfl ?_
                  refine g_iload (j := 2) dX8_wind_147 rfl ?_
                  refine g_iload (j := 1) dX8_wind_149 rfl ?_
                  refine n_iadd (a := (if (sArr h so la ri (pa k) (wa k) (lo - 1) 1 0 t).isSome then a else 0)) (b := (if (sArr h so la ri (pa k) (wa k) (min 40 (lo + 1)) 1 0 t).isSome then b else 0)) dX8_wind_151 ?_
                  refine g_iload (j := 0) dX8_wind_152 rfl ?_
                  refine n_iadd (a := ((if (sArr h so la ri (pa k) (wa k) (lo - 1) 1 0 t).isSome then a else 0) + (if (sArr h so la ri (pa k) (wa k) (min 40 (lo + 1)) 1 0 t).isSome then b else 0))) (b := (if (sArr h so la ri (pa k) (wa k) lo 1 0 t).isSome then 10 - a - b else 0)) dX8_wind_154 ?_
                  refine g_i2l (v := lN (((if (sArr h so la ri (pa k) (wa k) (lo - 1) 1 0 t).isSome then a else 0) + (if (sArr h so la ri (pa k) (wa k) (min 40 (lo + 1)) 1 0 t).isSome then b else 0)) + (if (sArr h so la ri (pa k) (wa k) lo 1 0 t).isSome then 10 - a - b else 0))) dX8_wind_155 (nI_l (by omega)) ?_
                  refine g_ldc2 clX8_227 dX8_wind_156 ?_
                  refine g_st (st' := [.long (lN 10), .long (lN (((if (sArr h so la ri (pa k) (wa k) (lo - 1) 1 0 t).isSome then a else 0) + (if (sArr h so la ri (pa k) (wa k) (min 40 (lo + 1)) 1 0 t).isSome then b else 0)) + (if (sArr h so la ri (pa k) (wa k) lo 1 0 t).isSome then 10 - a - b else 0)))]) rfl ?_
                  refine g_iload (j := 8) dX8_wind_159 rfl ?_
                  refine c_S (st1 := [.int (nI (sTold (((if (sArr h so la ri (pa k) (wa k) (lo - 1) 1 0 t).isSome then a else 0) + (if (sArr h so la ri (pa k) (wa k) (min 40 (lo + 1)) 1 0 t).isSome then b else 0)) + (if (sArr h so la ri (pa k) (wa k) lo 1 0 t).isSome then 10 - a - b else 0)) 10 up))]) (ctX8_fraction (a := ((if (sArr h so la ri (pa k) (wa k) (lo - 1) 1 0 t).isSome then a else 0) + (if (sArr h so la ri (pa k) (wa k) (min 40 (lo + 1)) 1 0 t).isSome then b else 0)) + (if (sArr h so la ri (pa k) (wa k) lo 1 0 t).isSome then 10 - a - b else 0)) (b := 10) (u := up) (by omega) (by omega) (by omega) (by omega)) kX8_fraction lX8_234 (by decide) rfl (by exact Nat.le_of_ble_eq_true rfl) dX8_wind_161 rfl rfl ?_
                  refine g_iret rfl rfl dX8_wind_164 ?_
                  refine ⟨?_, _, _, _, rfl⟩
                  unfold pWind
                  rw [if_pos ik, if_pos (c := iW (nI t) 41 ∧ tenP (nI a) (nI b)) ⟨h24, Decidable.not_not.mp h33⟩, ek, cN_n (k := t) (by omega), cN_n (k := a) (by omega), cN_n (k := b) (by omega)]
                  rfl
                · replace h131 := (sArr_ne (by omega)).mp h131
                  refine g_iconst (v := nI 0) dX8_wind_134 (by decide) ?_
                  refine g_goto (tgt := 145) dX8_wind_135 (by decide) ?_
                  refine g_topi (y := nI (if (sArr h so la ri (pa k) (wa k) lo 1 0 t).isSome then 10 - a - b else 0)) (by first | rw [if_pos (isSome_t h131)] | rw [if_neg (by rw [isSome_f h131]; simp)]) ?_
                  have qh131 : (if (sArr h so la ri (pa k) (wa k) lo 1 0 t).isSome then 10 - a - b else 0) ≤ 10 := by split <;> omega
                  refine g_istore (lv' := [(8, .int (nI (if (sArr h so la ri (pa k) (wa k) lo 1 0 t).isSome then 10 - a - b else 0))), (7, .int (nI (if (sArr h so la ri (pa k) (wa k) (min 40 (lo + 1)) 1 0 t).isSome then b else 0))), (6, .int (nI (if (sArr h so la ri (pa k) (wa k) (lo - 1) 1 0 t).isSome then a else 0))), (0, .ref 0), (1, .int (nI k)), (2, .int (nI t)), (3, .int (nI a)), (4, .int (nI b)), (5, .int (nI up))]) dX8_wind_145 (by decide) rfl ?_
                  refine g_iload (j := 2) dX8_wind_147 rfl ?_
                  refine g_iload (j := 1) dX8_wind_149 rfl ?_
                  refine n_iadd (a := (if (sArr h so la ri (pa k) (wa k) (lo - 1) 1 0 t).isSome then a else 0)) (b := (if (sArr h so la ri (pa k) (wa k) (min 40 (lo + 1)) 1 0 t).isSome then b else 0)) dX8_wind_151 ?_
                  refine g_iload (j := 0) dX8_wind_152 rfl ?_
                  refine n_iadd (a := ((if (sArr h so la ri (pa k) (wa k) (lo - 1) 1 0 t).isSome then a else 0) + (if (sArr h so la ri (pa k) (wa k) (min 40 (lo + 1)) 1 0 t).isSome then b else 0))) (b := (if (sArr h so la ri (pa k) (wa k) lo 1 0 t).isSome then 10 - a - b else 0)) dX8_wind_154 ?_
                  refine g_i2l (v := lN (((if (sArr h so la ri (pa k) (wa k) (lo - 1) 1 0 t).isSome then a else 0) + (if (sArr h so la ri (pa k) (wa k) (min 40 (lo + 1)) 1 0 t).isSome then b else 0)) + (if (sArr h so la ri (pa k) (wa k) lo 1 0 t).isSome then 10 - a - b else 0))) dX8_wind_155 (nI_l (by omega)) ?_
                  refine g_ldc2 clX8_227 dX8_wind_156 ?_
                  refine g_st (st' := [.long (lN 10), .long (lN (((if (sArr h so la ri (pa k) (wa k) (lo - 1) 1 0 t).isSome then a else 0) + (if (sArr h so la ri (pa k) (wa k) (min 40 (lo + 1)) 1 0 t).isSome then b else 0)) + (if (sArr h so la ri (pa k) (wa k) lo 1 0 t).isSome then 10 - a - b else 0)))]) rfl ?_
                  refine g_iload (j := 8) dX8_wind_159 rfl ?_
                  refine c_S (st1 := [.int (nI (sTold (((if (sArr h so la ri (pa k) (wa k) (lo - 1) 1 0 t).isSome then a else 0) + (if (sArr h so la ri (pa k) (wa k) (min 40 (lo + 1)) 1 0 t).isSome then b else 0)) + (if (sArr h so la ri (pa k) (wa k) lo 1 0 t).isSome then 10 - a - b else 0)) 10 up))]) (ctX8_fraction (a := ((if (sArr h so la ri (pa k) (wa k) (lo - 1) 1 0 t).isSome then a else 0) + (if (sArr h so la ri (pa k) (wa k) (min 40 (lo + 1)) 1 0 t).isSome then b else 0)) + (if (sArr h so la ri (pa k) (wa k) lo 1 0 t).isSome then 10 - a - b else 0)) (b := 10) (u := up) (by omega) (by omega) (by omega) (by omega)) kX8_fraction lX8_234 (by decide) rfl (by exact Nat.le_of_ble_eq_true rfl) dX8_wind_161 rfl rfl ?_
                  refine g_iret rfl rfl dX8_wind_164 ?_
                  refine ⟨?_, _, _, _, rfl⟩
                  unfold pWind
                  rw [if_pos ik, if_pos (c := iW (nI t) 41 ∧ tenP (nI a) (nI b)) ⟨h24, Decidable.not_not.mp h33⟩, ek, cN_n (k := t) (by omega), cN_n (k := a) (by omega), cN_n (k := b) (by omega)]
                  rfl
              · replace h106 := (sArr_ne (by omega)).mp h106
                refine g_iconst (v := nI 0) dX8_wind_109 (by decide) ?_
                refine g_goto (tgt := 115) dX8_wind_110 (by decide) ?_
                refine g_topi (y := nI (if (sArr h so la ri (pa k) (wa k) (min 40 (lo + 1)) 1 0 t).isSome then b else 0)) (by first | rw [if_pos (isSome_t h106)] | rw [if_neg (by rw [isSome_f h106]; simp)]) ?_
                have qh106 : (if (sArr h so la ri (pa k) (wa k) (min 40 (lo + 1)) 1 0 t).isSome then b else 0) ≤ 10 := by split <;> omega
                refine g_istore (lv' := [(7, .int (nI (if (sArr h so la ri (pa k) (wa k) (min 40 (lo + 1)) 1 0 t).isSome then b else 0))), (6, .int (nI (if (sArr h so la ri (pa k) (wa k) (lo - 1) 1 0 t).isSome then a else 0))), (0, .ref 0), (1, .int (nI k)), (2, .int (nI t)), (3, .int (nI a)), (4, .int (nI b)), (5, .int (nI up))]) dX8_wind_115 (by decide) rfl ?_
                refine g_aload_n (i := 0) (j := 2) dX8_wind_117 rfl rfl ?_
                refine g_iload_n (i := 1) (j := 3) dX8_wind_118 rfl rfl ?_
                refine g_iconst (v := nI 0) dX8_wind_119 (by decide) ?_
                refine g_iload_n (i := 2) (j := 4) dX8_wind_120 rfl rfl ?_
                refine g_iconst (v := nI 1) dX8_wind_121 (by decide) ?_
                refine g_aload_n (i := 0) (j := 2) dX8_wind_122 rfl rfl ?_
                refine g_get fX8_139 rfl rfl dX8_wind_123 ?_
                refine g_callV (rest := []) (ctX8_goneOf (w := k) (c := 0) (s := t) (way := 1) (at0 := lo) hH hpa hwa (by omega) (by omega) hS (by first | omega | assumption | exact hpa _ | exact hwa _ | exact hr1 _ (by omega) | exact hr6 _ (by omega) | exact hr11 _ (by omega) | exact hr _ | exact Nat.le_succ_of_le (hr _) | (apply sTo_le; first | omega | exact hr1 _ (by omega))) (by first | omega | assumption | exact hpa _ | exact hwa _ | exact hr1 _ (by omega) | exact hr6 _ (by omega) | exact hr11 _ (by omega) | exact hr _ | exact Nat.le_succ_of_le (hr _) | (apply sTo_le; first | omega | exact hr1 _ (by omega))) (by first | omega | assumption | exact hpa _ | exact hwa _ | exact hr1 _ (by omega) | exact hr6 _ (by omega) | exact hr11 _ (by omega) | exact hr _ | exact Nat.le_succ_of_le (hr _) | (apply sTo_le; first | omega | exact hr1 _ (by omega))) (by first | omega | assumption | exact hpa _ | exact hwa _ | exact hr1 _ (by omega) | exact hr6 _ (by omega) | exact hr11 _ (by omega) | exact hr _ | exact Nat.le_succ_of_le (hr _) | (apply sTo_le; first | omega | exact hr1 _ (by omega))) (by first | omega | assumption | exact hpa _ | exact hwa _ | exact hr1 _ (by omega) | exact hr6 _ (by omega) | exact hr11 _ (by omega) | exact hr _ | exact Nat.le_succ_of_le (hr _) | (apply sTo_le; first | omega | exact hr1 _ (by omega))) (by first | omega | assumption | exact hpa _ | exact hwa _ | exact hr1 _ (by omega) | exact hr6 _ (by omega) | exact hr11 _ (by omega) | exact hr _ | exact Nat.le_succ_of_le (hr _) | (apply sTo_le; first | omega | exact hr1 _ (by omega)))) kX8_goneOf lX8_205 (by decide) rfl rfl rfl rfl (by exact Nat.le_of_ble_eq_true rfl) dX8_wind_126 rfl (fun v u hvu => ?_)
                obtain ⟨rfl, ce126, sa126, ti126, rfl⟩ := hvu
                refine g_st (st' := [.int (rO (sArr h so la ri (pa k) (wa k) lo 1 0 t))]) rfl ?_
                refine g_bipush (v := (-9)) dX8_wind_129 (by decide) ?_
                refine g_icmp_ne (tgt := 138) dX8_wind_131 (by decide) (fun h131 => ?_) (fun h131 => ?_)
                · replace h131 := fun z => h131 ((sArr_ne (by omega)).mpr z)
                  refine g_bipush (v := nI 10) dX8_wind_138 (by decide) ?_
                  refine g_iload_n (i := 3) (j := 5) dX8_wind_140 rfl rfl ?_
                  refine n_isub (a := 10) (b := a) (by omega) dX8_wind_141 ?_
                  refine g_iload (j := 6) dX8_wind_142 rfl ?_
                  refine n_isub (a := (10 - a)) (b := b) (by omega) dX8_wind_144 ?_
                  refine g_topi (y := nI (if (sArr h so la ri (pa k) (wa k) lo 1 0 t).isSome then 10 - a - b else 0)) (by first | rw [if_pos (isSome_t h131)] | rw [if_neg (by rw [isSome_f h131]; simp)]) ?_
                  have qh131 : (if (sArr h so la ri (pa k) (wa k) lo 1 0 t).isSome then 10 - a - b else 0) ≤ 10 := by split <;> omega
                  refine g_istore (lv' := [(8, .int (nI (if (sArr h so la ri (pa k) (wa k) lo 1 0 t).isSome then 10 - a - b else 0))), (7, .int (nI (if (sArr h so la ri (pa k) (wa k) (min 40 (lo + 1)) 1 0 t).isSome then b else 0))), (6, .int (nI (if (sArr h so la ri (pa k) (wa k) (lo - 1) 1 0 t).isSome then a else 0))), (0, .ref 0), (1, .int (nI k)), (2, .int (nI t)), (3, .int (nI a)), (4, .int (nI b)), (5, .int (nI up))]) dX8_wind_145 (by decide) rfl ?_
                  refine g_iload (j := 2) dX8_wind_147 rfl ?_
                  refine g_iload (j := 1) dX8_wind_149 rfl ?_
                  refine n_iadd (a := (if (sArr h so la ri (pa k) (wa k) (lo - 1) 1 0 t).isSome then a else 0)) (b := (if (sArr h so la ri (pa k) (wa k) (min 40 (lo + 1)) 1 0 t).isSome then b else 0)) dX8_wind_151 ?_
                  refine g_iload (j := 0) dX8_wind_152 rfl ?_
                  refine n_iadd (a := ((if (sArr h so la ri (pa k) (wa k) (lo - 1) 1 0 t).isSome then a else 0) + (if (sArr h so la ri (pa k) (wa k) (min 40 (lo + 1)) 1 0 t).isSome then b else 0))) (b := (if (sArr h so la ri (pa k) (wa k) lo 1 0 t).isSome then 10 - a - b else 0)) dX8_wind_154 ?_
                  refine g_i2l (v := lN (((if (sArr h so la ri (pa k) (wa k) (lo - 1) 1 0 t).isSome then a else 0) + (if (sArr h so la ri (pa k) (wa k) (min 40 (lo + 1)) 1 0 t).isSome then b else 0)) + (if (sArr h so la ri (pa k) (wa k) lo 1 0 t).isSome then 10 - a - b else 0))) dX8_wind_155 (nI_l (by omega)) ?_
                  refine g_ldc2 clX8_227 dX8_wind_156 ?_
                  refine g_st (st' := [.long (lN 10), .long (lN (((if (sArr h so la ri (pa k) (wa k) (lo - 1) 1 0 t).isSome then a else 0) + (if (sArr h so la ri (pa k) (wa k) (min 40 (lo + 1)) 1 0 t).isSome then b else 0)) + (if (sArr h so la ri (pa k) (wa k) lo 1 0 t).isSome then 10 - a - b else 0)))]) rfl ?_
                  refine g_iload (j := 8) dX8_wind_159 rfl ?_
                  refine c_S (st1 := [.int (nI (sTold (((if (sArr h so la ri (pa k) (wa k) (lo - 1) 1 0 t).isSome then a else 0) + (if (sArr h so la ri (pa k) (wa k) (min 40 (lo + 1)) 1 0 t).isSome then b else 0)) + (if (sArr h so la ri (pa k) (wa k) lo 1 0 t).isSome then 10 - a - b else 0)) 10 up))]) (ctX8_fraction (a := ((if (sArr h so la ri (pa k) (wa k) (lo - 1) 1 0 t).isSome then a else 0) + (if (sArr h so la ri (pa k) (wa k) (min 40 (lo + 1)) 1 0 t).isSome then b else 0)) + (if (sArr h so la ri (pa k) (wa k) lo 1 0 t).isSome then 10 - a - b else 0)) (b := 10) (u := up) (by omega) (by omega) (by omega) (by omega)) kX8_fraction lX8_234 (by decide) rfl (by exact Nat.le_of_ble_eq_true rfl) dX8_wind_161 rfl rfl ?_
                  refine g_iret rfl rfl dX8_wind_164 ?_
                  refine ⟨?_, _, _, _, rfl⟩
                  unfold pWind
                  rw [if_pos ik, if_pos (c := iW (nI t) 41 ∧ tenP (nI a) (nI b)) ⟨h24, Decidable.not_not.mp h33⟩, ek, cN_n (k := t) (by omega), cN_n (k := a) (by omega), cN_n (k := b) (by omega)]
                  rfl
                · replace h131 := (sArr_ne (by omega)).mp h131
                  refine g_iconst (v := nI 0) dX8_wind_134 (by decide) ?_
                  refine g_goto (tgt := 145) dX8_wind_135 (by decide) ?_
                  refine g_topi (y := nI (if (sArr h so la ri (pa k) (wa k) lo 1 0 t).isSome then 10 - a - b else 0)) (by first | rw [if_pos (isSome_t h131)] | rw [if_neg (by rw [isSome_f h131]; simp)]) ?_
                  have qh131 : (if (sArr h so la ri (pa k) (wa k) lo 1 0 t).isSome then 10 - a - b else 0) ≤ 10 := by split <;> omega
                  refine g_istore (lv' := [(8, .int (nI (if (sArr h so la ri (pa k) (wa k) lo 1 0 t).isSome then 10 - a - b else 0))), (7, .int (nI (if (sArr h so la ri (pa k) (wa k) (min 40 (lo + 1)) 1 0 t).isSome then b else 0))), (6, .int (nI (if (sArr h so la ri (pa k) (wa k) (lo - 1) 1 0 t).isSome then a else 0))), (0, .ref 0), (1, .int (nI k)), (2, .int (nI t)), (3, .int (nI a)), (4, .int (nI b)), (5, .int (nI up))]) dX8_wind_145 (by decide) rfl ?_
                  refine g_iload (j := 2) dX8_wind_147 rfl ?_
                  refine g_iload (j := 1) dX8_wind_149 rfl ?_
                  refine n_iadd (a := (if (sArr h so la ri (pa k) (wa k) (lo - 1) 1 0 t).isSome then a else 0)) (b := (if (sArr h so la ri (pa k) (wa k) (min 40 (lo + 1)) 1 0 t).isSome then b else 0)) dX8_wind_151 ?_
                  refine g_iload (j := 0) dX8_wind_152 rfl ?_
                  refine n_iadd (a := ((if (sArr h so la ri (pa k) (wa k) (lo - 1) 1 0 t).isSome then a else 0) + (if (sArr h so la ri (pa k) (wa k) (min 40 (lo + 1)) 1 0 t).isSome then b else 0))) (b := (if (sArr h so la ri (pa k) (wa k) lo 1 0 t).isSome then 10 - a - b else 0)) dX8_wind_154 ?_
                  refine g_i2l (v := lN (((if (sArr h so la ri (pa k) (wa k) (lo - 1) 1 0 t).isSome then a else 0) + (if (sArr h so la ri (pa k) (wa k) (min 40 (lo + 1)) 1 0 t).isSome then b else 0)) + (if (sArr h so la ri (pa k) (wa k) lo 1 0 t).isSome then 10 - a - b else 0))) dX8_wind_155 (nI_l (by omega)) ?_
                  refine g_ldc2 clX8_227 dX8_wind_156 ?_
                  refine g_st (st' := [.long (lN 10), .long (lN (((if (sArr h so la ri (pa k) (wa k) (lo - 1) 1 0 t).isSome then a else 0) + (if (sArr h so la ri (pa k) (wa k) (min 40 (lo + 1)) 1 0 t).isSome then b else 0)) + (if (sArr h so la ri (pa k) (wa k) lo 1 0 t).isSome then 10 - a - b else 0)))]) rfl ?_
                  refine g_iload (j := 8) dX8_wind_159 rfl ?_
                  refine c_S (st1 := [.int (nI (sTold (((if (sArr h so la ri (pa k) (wa k) (lo - 1) 1 0 t).isSome then a else 0) + (if (sArr h so la ri (pa k) (wa k) (min 40 (lo + 1)) 1 0 t).isSome then b else 0)) + (if (sArr h so la ri (pa k) (wa k) lo 1 0 t).isSome then 10 - a - b else 0)) 10 up))]) (ctX8_fraction (a := ((if (sArr h so la ri (pa k) (wa k) (lo - 1) 1 0 t).isSome then a else 0) + (if (sArr h so la ri (pa k) (wa k) (min 40 (lo + 1)) 1 0 t).isSome then b else 0)) + (if (sArr h so la ri (pa k) (wa k) lo 1 0 t).isSome then 10 - a - b else 0)) (b := 10) (u := up) (by omega) (by omega) (by omega) (by omega)) kX8_fraction lX8_234 (by decide) rfl (by exact Nat.le_of_ble_eq_true rfl) dX8_wind_161 rfl rfl ?_
                  refine g_iret rfl rfl dX8_wind_164 ?_
                  refine ⟨?_, _, _, _, rfl⟩
                  unfold pWind
                  rw [if_pos ik, if_pos (c := iW (nI t) 41 ∧ tenP (nI a) (nI b)) ⟨h24, Decidable.not_not.mp h33⟩, ek, cN_n (k := t) (by omega), cN_n (k := a) (by omega), cN_n (k := b) (by omega)]
                  rfl
            · refine g_bipush (v := nI 40) dX8_wind_90 (by decide) ?_
              refine g_goto (tgt := 101) dX8_wind_92 (by decide) ?_
              refine g_topi (y := nI (min 40 (lo + 1))) (congrArg nI (by omega)) ?_
              refine g_callV (rest := []) (ctX8_goneOf (w := k) (c := 0) (s := t) (way := 1) (at0 := min 40 (lo + 1)) hH hpa hwa (by omega) (by omega) hS (by first | omega | assumption | exact hpa _ | exact hwa _ | exact hr1 _ (by omega) | exact hr6 _ (by omega) | exact hr11 _ (by omega) | exact hr _ | exact Nat.le_succ_of_le (hr _) | (apply sTo_le; first | omega | exact hr1 _ (by omega))) (by first | omega | assumption | exact hpa _ | exact hwa _ | exact hr1 _ (by omega) | exact hr6 _ (by omega) | exact hr11 _ (by omega) | exact hr _ | exact Nat.le_succ_of_le (hr _) | (apply sTo_le; first | omega | exact hr1 _ (by omega))) (by first | omega | assumption | exact hpa _ | exact hwa _ | exact hr1 _ (by omega) | exact hr6 _ (by omega) | exact hr11 _ (by omega) | exact hr _ | exact Nat.le_succ_of_le (hr _) | (apply sTo_le; first | omega | exact hr1 _ (by omega))) (by first | omega | assumption | exact hpa _ | exact hwa _ | exact hr1 _ (by omega) | exact hr6 _ (by omega) | exact hr11 _ (by omega) | exact hr _ | exact Nat.le_succ_of_le (hr _) | (apply sTo_le; first | omega | exact hr1 _ (by omega))) (by first | omega | assumption | exact hpa _ | exact hwa _ | exact hr1 _ (by omega) | exact hr6 _ (by omega) | exact hr11 _ (by omega) | exact hr _ | exact Nat.le_succ_of_le (hr _) | (apply sTo_le; first | omega | exact hr1 _ (by omega))) (by first | omega | assumption | exact hpa _ | exact hwa _ | exact hr1 _ (by omega) | exact hr6 _ (by omega) | exact hr11 _ (by omega) | exact hr _ | exact Nat.le_succ_of_le (hr _) | (apply sTo_le; first | omega | exact hr1 _ (by omega)))) kX8_goneOf lX8_205 (by decide) rfl rfl rfl rfl (by exact Nat.le_of_ble_eq_true rfl) dX8_wind_101 rfl (fun v u hvu => ?_)
              obtain ⟨rfl, ce101, sa101, ti101, rfl⟩ := hvu
              refine g_st (st' := [.int (rO (sArr h so la ri (pa k) (wa k) (min 40 (lo + 1)) 1 0 t))]) rfl ?_
              refine g_bipush (v := (-9)) dX8_wind_104 (by decide) ?_
              refine g_icmp_ne (tgt := 113) dX8_wind_106 (by decide) (fun h106 => ?_) (fun h106 => ?_)
              · replace h106 := fun z => h106 ((sArr_ne (by omega)).mpr z)
                refine g_iload (j := 5) dX8_wind_113 rfl ?_
                refine g_topi (y := nI (if (sArr h so la ri (pa k) (wa k) (min 40 (lo + 1)) 1 0 t).isSome then b else 0)) (by first | rw [if_pos (isSome_t h106)] | rw [if_neg (by rw [isSome_f h106]; simp)]) ?_
                have qh106 : (if (sArr h so la ri (pa k) (wa k) (min 40 (lo + 1)) 1 0 t).isSome then b else 0) ≤ 10 := by split <;> omega
                refine g_istore (lv' := [(7, .int (nI (if (sArr h so la ri (pa k) (wa k) (min 40 (lo + 1)) 1 0 t).isSome then b else 0))), (6, .int (nI (if (sArr h so la ri (pa k) (wa k) (lo - 1) 1 0 t).isSome then a else 0))), (0, .ref 0), (1, .int (nI k)), (2, .int (nI t)), (3, .int (nI a)), (4, .int (nI b)), (5, .int (nI up))]) dX8_wind_115 (by decide) rfl ?_
                refine g_aload_n (i := 0) (j := 2) dX8_wind_117 rfl rfl ?_
                refine g_iload_n (i := 1) (j := 3) dX8_wind_118 rfl rfl ?_
                refine g_iconst (v := nI 0) dX8_wind_119 (by decide) ?_
                refine g_iload_n (i := 2) (j := 4) dX8_wind_120 rfl rfl ?_
                refine g_iconst (v := nI 1) dX8_wind_121 (by decide) ?_
                refine g_aload_n (i := 0) (j := 2) dX8_wind_122 rfl rfl ?_
                refine g_get fX8_139 rfl rfl dX8_wind_123 ?_
                refine g_callV (rest := []) (ctX8_goneOf (w := k) (c := 0) (s := t) (way := 1) (at0 := lo) hH hpa hwa (by omega) (by omega) hS (by first | omega | assumption | exact hpa _ | exact hwa _ | exact hr1 _ (by omega) | exact hr6 _ (by omega) | exact hr11 _ (by omega) | exact hr _ | exact Nat.le_succ_of_le (hr _) | (apply sTo_le; first | omega | exact hr1 _ (by omega))) (by first | omega | assumption | exact hpa _ | exact hwa _ | exact hr1 _ (by omega) | exact hr6 _ (by omega) | exact hr11 _ (by omega) | exact hr _ | exact Nat.le_succ_of_le (hr _) | (apply sTo_le; first | omega | exact hr1 _ (by omega))) (by first | omega | assumption | exact hpa _ | exact hwa _ | exact hr1 _ (by omega) | exact hr6 _ (by omega) | exact hr11 _ (by omega) | exact hr _ | exact Nat.le_succ_of_le (hr _) | (apply sTo_le; first | omega | exact hr1 _ (by omega))) (by first | omega | assumption | exact hpa _ | exact hwa _ | exact hr1 _ (by omega) | exact hr6 _ (by omega) | exact hr11 _ (by omega) | exact hr _ | exact Nat.le_succ_of_le (hr _) | (apply sTo_le; first | omega | exact hr1 _ (by omega))) (by first | omega | assumption | exact hpa _ | exact hwa _ | exact hr1 _ (by omega) | exact hr6 _ (by omega) | exact hr11 _ (by omega) | exact hr _ | exact Nat.le_succ_of_le (hr _) | (apply sTo_le; first | omega | exact hr1 _ (by omega))) (by first | omega | assumption | exact hpa _ | exact hwa _ | exact hr1 _ (by omega) | exact hr6 _ (by omega) | exact hr11 _ (by omega) | exact hr _ | exact Nat.le_succ_of_le (hr _) | (apply sTo_le; first | omega | exact hr1 _ (by omega)))) kX8_goneOf lX8_205 (by decide) rfl rfl rfl rfl (by exact Nat.le_of_ble_eq_true rfl) dX8_wind_126 rfl (fun v u hvu => ?_)
                obtain ⟨rfl, ce126, sa126, ti126, rfl⟩ := hvu
                refine g_st (st' := [.int (rO (sArr h so la ri (pa k) (wa k) lo 1 0 t))]) rfl ?_
                refine g_bipush (v := (-9)) dX8_wind_129 (by decide) ?_
                refine g_icmp_ne (tgt := 138) dX8_wind_131 (by decide) (fun h131 => ?_) (fun h131 => ?_)
                · replace h131 := fun z => h131 ((sArr_ne (by omega)).mpr z)
                  refine g_bipush (v := nI 10) dX8_wind_138 (by decide) ?_
                  refine g_iload_n (i := 3) (j := 5) dX8_wind_140 rfl rfl ?_
                  refine n_isub (a := 10) (b := a) (by omega) dX8_wind_141 ?_
                  refine g_iload (j := 6) dX8_wind_142 rfl ?_
                  refine n_isub (a := (10 - a)) (b := b) (by omega) dX8_wind_144 ?_
                  refine g_topi (y := nI (if (sArr h so la ri (pa k) (wa k) lo 1 0 t).isSome then 10 - a - b else 0)) (by first | rw [if_pos (isSome_t h131)] | rw [if_neg (by rw [isSome_f h131]; simp)]) ?_
                  have qh131 : (if (sArr h so la ri (pa k) (wa k) lo 1 0 t).isSome then 10 - a - b else 0) ≤ 10 := by split <;> omega
                  refine g_istore (lv' := [(8, .int (nI (if (sArr h so la ri (pa k) (wa k) lo 1 0 t).isSome then 10 - a - b else 0))), (7, .int (nI (if (sArr h so la ri (pa k) (wa k) (min 40 (lo + 1)) 1 0 t).isSome then b else 0))), (6, .int (nI (if (sArr h so la ri (pa k) (wa k) (lo - 1) 1 0 t).isSome then a else 0))), (0, .ref 0), (1, .int (nI k)), (2, .int (nI t)), (3, .int (nI a)), (4, .int (nI b)), (5, .int (nI up))]) dX8_wind_145 (by decide) rfl ?_
                  refine g_iload (j := 2) dX8_wind_147 rfl ?_
                  refine g_iload (j := 1) dX8_wind_149 rfl ?_
                  refine n_iadd (a := (if (sArr h so la ri (pa k) (wa k) (lo - 1) 1 0 t).isSome then a else 0)) (b := (if (sArr h so la ri (pa k) (wa k) (min 40 (lo + 1)) 1 0 t).isSome then b else 0)) dX8_wind_151 ?_
                  refine g_iload (j := 0) dX8_wind_152 rfl ?_
                  refine n_iadd (a := ((if (sArr h so la ri (pa k) (wa k) (lo - 1) 1 0 t).isSome then a else 0) + (if (sArr h so la ri (pa k) (wa k) (min 40 (lo + 1)) 1 0 t).isSome then b else 0))) (b := (if (sArr h so la ri (pa k) (wa k) lo 1 0 t).isSome then 10 - a - b else 0)) dX8_wind_154 ?_
                  refine g_i2l (v := lN (((if (sArr h so la ri (pa k) (wa k) (lo - 1) 1 0 t).isSome then a else 0) + (if (sArr h so la ri (pa k) (wa k) (min 40 (lo + 1)) 1 0 t).isSome then b else 0)) + (if (sArr h so la ri (pa k) (wa k) lo 1 0 t).isSome then 10 - a - b else 0))) dX8_wind_155 (nI_l (by omega)) ?_
                  refine g_ldc2 clX8_227 dX8_wind_156 ?_
                  refine g_st (st' := [.long (lN 10), .long (lN (((if (sArr h so la ri (pa k) (wa k) (lo - 1) 1 0 t).isSome then a else 0) + (if (sArr h so la ri (pa k) (wa k) (min 40 (lo + 1)) 1 0 t).isSome then b else 0)) + (if (sArr h so la ri (pa k) (wa k) lo 1 0 t).isSome then 10 - a - b else 0)))]) rfl ?_
                  refine g_iload (j := 8) dX8_wind_159 rfl ?_
                  refine c_S (st1 := [.int (nI (sTold (((if (sArr h so la ri (pa k) (wa k) (lo - 1) 1 0 t).isSome then a else 0) + (if (sArr h so la ri (pa k) (wa k) (min 40 (lo + 1)) 1 0 t).isSome then b else 0)) + (if (sArr h so la ri (pa k) (wa k) lo 1 0 t).isSome then 10 - a - b else 0)) 10 up))]) (ctX8_fraction (a := ((if (sArr h so la ri (pa k) (wa k) (lo - 1) 1 0 t).isSome then a else 0) + (if (sArr h so la ri (pa k) (wa k) (min 40 (lo + 1)) 1 0 t).isSome then b else 0)) + (if (sArr h so la ri (pa k) (wa k) lo 1 0 t).isSome then 10 - a - b else 0)) (b := 10) (u := up) (by omega) (by omega) (by omega) (by omega)) kX8_fraction lX8_234 (by decide) rfl (by exact Nat.le_of_ble_eq_true rfl) dX8_wind_161 rfl rfl ?_
                  refine g_iret rfl rfl dX8_wind_164 ?_
                  refine ⟨?_, _, _, _, rfl⟩
                  unfold pWind
                  rw [if_pos ik, if_pos (c := iW (nI t) 41 ∧ tenP (nI a) (nI b)) ⟨h24, Decidable.not_not.mp h33⟩, ek, cN_n (k := t) (by omega), cN_n (k := a) (by omega), cN_n (k := b) (by omega)]
                  rfl
                · replace h131 := (sArr_ne (by omega)).mp h131
                  refine g_iconst (v := nI 0) dX8_wind_134 (by decide) ?_
                  refine g_goto (tgt := 145) dX8_wind_135 (by decide) ?_
                  refine g_topi (y := nI (if (sArr h so la ri (pa k) (wa k) lo 1 0 t).isSome then 10 - a - b else 0)) (by first | rw [if_pos (isSome_t h131)] | rw [if_neg (by rw [isSome_f h131]; simp)]) ?_
                  have qh131 : (if (sArr h so la ri (pa k) (wa k) lo 1 0 t).isSome then 10 - a - b else 0) ≤ 10 := by split <;> omega
                  refine g_istore (lv' := [(8, .int (nI (if (sArr h so la ri (pa k) (wa k) lo 1 0 t).isSome then 10 - a - b else 0))), (7, .int (nI (if (sArr h so la ri (pa k) (wa k) (min 40 (lo + 1)) 1 0 t).isSome then b else 0))), (6, .int (nI (if (sArr h so la ri (pa k) (wa k) (lo - 1) 1 0 t).isSome then a else 0))), (0, .ref 0), (1, .int (nI k)), (2, .int (nI t)), (3, .int (nI a)), (4, .int (nI b)), (5, .int (nI up))]) dX8_wind_145 (by decide) rfl ?_
                  refine g_iload (j := 2) dX8_wind_147 rfl ?_
                  refine g_iload (j := 1) dX8_wind_149 rfl ?_
                  refine n_iadd (a := (if (sArr h so la ri (pa k) (wa k) (lo - 1) 1 0 t).isSome then a else 0)) (b := (if (sArr h so la ri (pa k) (wa k) (min 40 (lo + 1)) 1 0 t).isSome then b else 0)) dX8_wind_151 ?_
                  refine g_iload (j := 0) dX8_wind_152 rfl ?_
                  refine n_iadd (a := ((if (sArr h so la ri (pa k) (wa k) (lo - 1) 1 0 t).isSome then a else 0) + (if (sArr h so la ri (pa k) (wa k) (min 40 (lo + 1)) 1 0 t).isSome then b else 0))) (b := (if (sArr h so la ri (pa k) (wa k) lo 1 0 t).isSome then 10 - a - b else 0)) dX8_wind_154 ?_
                  refine g_i2l (v := lN (((if (sArr h so la ri (pa k) (wa k) (lo - 1) 1 0 t).isSome then a else 0) + (if (sArr h so la ri (pa k) (wa k) (min 40 (lo + 1)) 1 0 t).isSome then b else 0)) + (if (sArr h so la ri (pa k) (wa k) lo 1 0 t).isSome then 10 - a - b else 0))) dX8_wind_155 (nI_l (by omega)) ?_
                  refine g_ldc2 clX8_227 dX8_wind_156 ?_
                  refine g_st (st' := [.long (lN 10), .long (lN (((if (sArr h so la ri (pa k) (wa k) (lo - 1) 1 0 t).isSome then a else 0) + (if (sArr h so la ri (pa k) (wa k) (min 40 (lo + 1)) 1 0 t).isSome then b else 0)) + (if (sArr h so la ri (pa k) (wa k) lo 1 0 t).isSome then 10 - a - b else 0)))]) rfl ?_
                  refine g_iload (j := 8) dX8_wind_159 rfl ?_
                  refine c_S (st1 := [.int (nI (sTold (((if (sArr h so la ri (pa k) (wa k) (lo - 1) 1 0 t).isSome then a else 0) + (if (sArr h so la ri (pa k) (wa k) (min 40 (lo + 1)) 1 0 t).isSome then b else 0)) + (if (sArr h so la ri (pa k) (wa k) lo 1 0 t).isSome then 10 - a - b else 0)) 10 up))]) (ctX8_fraction (a := ((if (sArr h so la ri (pa k) (wa k) (lo - 1) 1 0 t).isSome then a else 0) + (if (sArr h so la ri (pa k) (wa k) (min 40 (lo + 1)) 1 0 t).isSome then b else 0)) + (if (sArr h so la ri (pa k) (wa k) lo 1 0 t).isSome then 10 - a - b else 0)) (b := 10) (u := up) (by omega) (by omega) (by omega) (by omega)) kX8_fraction lX8_234 (by decide) rfl (by exact Nat.le_of_ble_eq_true rfl) dX8_wind_161 rfl rfl ?_
                  refine g_iret rfl rfl dX8_wind_164 ?_
                  refine ⟨?_, _, _, _, rfl⟩
                  unfold pWind
                  rw [if_pos ik, if_pos (c := iW (nI t) 41 ∧ tenP (nI a) (nI b)) ⟨h24, Decidable.not_not.mp h33⟩, ek, cN_n (k := t) (by omega), cN_n (k := a) (by omega), cN_n (k := b) (by omega)]
                  rfl
              · replace h106 := (sArr_ne (by omega)).mp h106
                refine g_iconst (v := nI 0) dX8_wind_109 (by decide) ?_
                refine g_goto (tgt := 115) dX8_wind_110 (by decide) ?_
                refine g_topi (y := nI (if (sArr h so la ri (pa k) (wa k) (min 40 (lo + 1)) 1 0 t).isSome then b else 0)) (by first | rw [if_pos (isSome_t h106)] | rw [if_neg (by rw [isSome_f h106]; simp)]) ?_
                have qh106 : (if (sArr h so la ri (pa k) (wa k) (min 40 (lo + 1)) 1 0 t).isSome then b else 0) ≤ 10 := by split <;> omega
                refine g_istore (lv' := [(7, .int (nI (if (sArr h so la ri (pa k) (wa k) (min 40 (lo + 1)) 1 0 t).isSome then b else 0))), (6, .int (nI (if (sArr h so la ri (pa k) (wa k) (lo - 1) 1 0 t).isSome then a else 0))), (0, .ref 0), (1, .int (nI k)), (2, .int (nI t)), (3, .int (nI a)), (4, .int (nI b)), (5, .int (nI up))]) dX8_wind_115 (by decide) rfl ?_
                refine g_aload_n (i := 0) (j := 2) dX8_wind_117 rfl rfl ?_
                refine g_iload_n (i := 1) (j := 3) dX8_wind_118 rfl rfl ?_
                refine g_iconst (v := nI 0) dX8_wind_119 (by decide) ?_
                refine g_iload_n (i := 2) (j := 4) dX8_wind_120 rfl rfl ?_
                refine g_iconst (v := nI 1) dX8_wind_121 (by decide) ?_
                refine g_aload_n (i := 0) (j := 2) dX8_wind_122 rfl rfl ?_
                refine g_get fX8_139 rfl rfl dX8_wind_123 ?_
                refine g_callV (rest := []) (ctX8_goneOf (w := k) (c := 0) (s := t) (way := 1) (at0 := lo) hH hpa hwa (by omega) (by omega) hS (by first | omega | assumption | exact hpa _ | exact hwa _ | exact hr1 _ (by omega) | exact hr6 _ (by omega) | exact hr11 _ (by omega) | exact hr _ | exact Nat.le_succ_of_le (hr _) | (apply sTo_le; first | omega | exact hr1 _ (by omega))) (by first | omega | assumption | exact hpa _ | exact hwa _ | exact hr1 _ (by omega) | exact hr6 _ (by omega) | exact hr11 _ (by omega) | exact hr _ | exact Nat.le_succ_of_le (hr _) | (apply sTo_le; first | omega | exact hr1 _ (by omega))) (by first | omega | assumption | exact hpa _ | exact hwa _ | exact hr1 _ (by omega) | exact hr6 _ (by omega) | exact hr11 _ (by omega) | exact hr _ | exact Nat.le_succ_of_le (hr _) | (apply sTo_le; first | omega | exact hr1 _ (by omega))) (by first | omega | assumption | exact hpa _ | exact hwa _ | exact hr1 _ (by omega) | exact hr6 _ (by omega) | exact hr11 _ (by omega) | exact hr _ | exact Nat.le_succ_of_le (hr _) | (apply sTo_le; first | omega | exact hr1 _ (by omega))) (by first | omega | assumption | exact hpa _ | exact hwa _ | exact hr1 _ (by omega) | exact hr6 _ (by omega) | exact hr11 _ (by omega) | exact hr _ | exact Nat.le_succ_of_le (hr _) | (apply sTo_le; first | omega | exact hr1 _ (by omega))) (by first | omega | assumption | exact hpa _ | exact hwa _ | exact hr1 _ (by omega) | exact hr6 _ (by omega) | exact hr11 _ (by omega) | exact hr _ | exact Nat.le_succ_of_le (hr _) | (apply sTo_le; first | omega | exact hr1 _ (by omega)))) kX8_goneOf lX8_205 (by decide) rfl rfl rfl rfl (by exact Nat.le_of_ble_eq_true rfl) dX8_wind_126 rfl (fun v u hvu => ?_)
                obtain ⟨rfl, ce126, sa126, ti126, rfl⟩ := hvu
                refine g_st (st' := [.int (rO (sArr h so la ri (pa k) (wa k) lo 1 0 t))]) rfl ?_
                refine g_bipush (v := (-9)) dX8_wind_129 (by decide) ?_
                refine g_icmp_ne (tgt := 138) dX8_wind_131 (by decide) (fun h131 => ?_) (fun h131 => ?_)
                · replace h131 := fun z => h131 ((sArr_ne (by omega)).mpr z)
                  refine g_bipush (v := nI 10) dX8_wind_138 (by decide) ?_
                  refine g_iload_n (i := 3) (j := 5) dX8_wind_140 rfl rfl ?_
                  refine n_isub (a := 10) (b := a) (by omega) dX8_wind_141 ?_
                  refine g_iload (j := 6) dX8_wind_142 rfl ?_
                  refine n_isub (a := (10 - a)) (b := b) (by omega) dX8_wind_144 ?_
                  refine g_topi (y := nI (if (sArr h so la ri (pa k) (wa k) lo 1 0 t).isSome then 10 - a - b else 0)) (by first | rw [if_pos (isSome_t h131)] | rw [if_neg (by rw [isSome_f h131]; simp)]) ?_
                  have qh131 : (if (sArr h so la ri (pa k) (wa k) lo 1 0 t).isSome then 10 - a - b else 0) ≤ 10 := by split <;> omega
                  refine g_istore (lv' := [(8, .int (nI (if (sArr h so la ri (pa k) (wa k) lo 1 0 t).isSome then 10 - a - b else 0))), (7, .int (nI (if (sArr h so la ri (pa k) (wa k) (min 40 (lo + 1)) 1 0 t).isSome then b else 0))), (6, .int (nI (if (sArr h so la ri (pa k) (wa k) (lo - 1) 1 0 t).isSome then a else 0))), (0, .ref 0), (1, .int (nI k)), (2, .int (nI t)), (3, .int (nI a)), (4, .int (nI b)), (5, .int (nI up))]) dX8_wind_145 (by decide) rfl ?_
                  refine g_iload (j := 2) dX8_wind_147 rfl ?_
                  refine g_iload (j := 1) dX8_wind_149 rfl ?_
                  refine n_iadd (a := (if (sArr h so la ri (pa k) (wa k) (lo - 1) 1 0 t).isSome then a else 0)) (b := (if (sArr h so la ri (pa k) (wa k) (min 40 (lo + 1)) 1 0 t).isSome then b else 0)) dX8_wind_151 ?_
                  refine g_iload (j := 0) dX8_wind_152 rfl ?_
                  refine n_iadd (a := ((if (sArr h so la ri (pa k) (wa k) (lo - 1) 1 0 t).isSome then a else 0) + (if (sArr h so la ri (pa k) (wa k) (min 40 (lo + 1)) 1 0 t).isSome then b else 0))) (b := (if (sArr h so la ri (pa k) (wa k) lo 1 0 t).isSome then 10 - a - b else 0)) dX8_wind_154 ?_
                  refine g_i2l (v := lN (((if (sArr h so la ri (pa k) (wa k) (lo - 1) 1 0 t).isSome then a else 0) + (if (sArr h so la ri (pa k) (wa k) (min 40 (lo + 1)) 1 0 t).isSome then b else 0)) + (if (sArr h so la ri (pa k) (wa k) lo 1 0 t).isSome then 10 - a - b else 0))) dX8_wind_155 (nI_l (by omega)) ?_
                  refine g_ldc2 clX8_227 dX8_wind_156 ?_
                  refine g_st (st' := [.long (lN 10), .long (lN (((if (sArr h so la ri (pa k) (wa k) (lo - 1) 1 0 t).isSome then a else 0) + (if (sArr h so la ri (pa k) (wa k) (min 40 (lo + 1)) 1 0 t).isSome then b else 0)) + (if (sArr h so la ri (pa k) (wa k) lo 1 0 t).isSome then 10 - a - b else 0)))]) rfl ?_
                  refine g_iload (j := 8) dX8_wind_159 rfl ?_
                  refine c_S (st1 := [.int (nI (sTold (((if (sArr h so la ri (pa k) (wa k) (lo - 1) 1 0 t).isSome then a else 0) + (if (sArr h so la ri (pa k) (wa k) (min 40 (lo + 1)) 1 0 t).isSome then b else 0)) + (if (sArr h so la ri (pa k) (wa k) lo 1 0 t).isSome then 10 - a - b else 0)) 10 up))]) (ctX8_fraction (a := ((if (sArr h so la ri (pa k) (wa k) (lo - 1) 1 0 t).isSome then a else 0) + (if (sArr h so la ri (pa k) (wa k) (min 40 (lo + 1)) 1 0 t).isSome then b else 0)) + (if (sArr h so la ri (pa k) (wa k) lo 1 0 t).isSome then 10 - a - b else 0)) (b := 10) (u := up) (by omega) (by omega) (by omega) (by omega)) kX8_fraction lX8_234 (by decide) rfl (by exact Nat.le_of_ble_eq_true rfl) dX8_wind_161 rfl rfl ?_
                  refine g_iret rfl rfl dX8_wind_164 ?_
                  refine ⟨?_, _, _, _, rfl⟩
                  unfold pWind
                  rw [if_pos ik, if_pos (c := iW (nI t) 41 ∧ tenP (nI a) (nI b)) ⟨h24, Decidable.not_not.mp h33⟩, ek, cN_n (k := t) (by omega), cN_n (k := a) (by omega), cN_n (k := b) (by omega)]
                  rfl
                · replace h131 := (sArr_ne (by omega)).mp h131
                  refine g_iconst (v := nI 0) dX8_wind_134 (by decide) ?_
                  refine g_goto (tgt := 145) dX8_wind_135 (by decide) ?_
                  refine g_topi (y := nI (if (sArr h so la ri (pa k) (wa k) lo 1 0 t).isSome then 10 - a - b else 0)) (by first | rw [if_pos (isSome_t h131)] | rw [if_neg (by rw [isSome_f h131]; simp)]) ?_
                  have qh131 : (if (sArr h so la ri (pa k) (wa k) lo 1 0 t).isSome then 10 - a - b else 0) ≤ 10 := by split <;> omega
                  refine g_istore (lv' := [(8, .int (nI (if (sArr h so la ri (pa k) (wa k) lo 1 0 t).isSome then 10 - a - b else 0))), (7, .int (nI (if (sArr h so la ri (pa k) (wa k) (min 40 (lo + 1)) 1 0 t).isSome then b else 0))), (6, .int (nI (if (sArr h so la ri (pa k) (wa k) (lo - 1) 1 0 t).isSome then a else 0))), (0, .ref 0), (1, .int (nI k)), (2, .int (nI t)), (3, .int (nI a)), (4, .int (nI b)), (5, .int (nI up))]) dX8_wind_145 (by decide) rfl ?_
                  refine g_iload (j := 2) dX8_wind_147 rfl ?_
                  refine g_iload (j := 1) dX8_wind_149 rfl ?_
                  refine n_iadd (a := (if (sArr h so la ri (pa k) (wa k) (lo - 1) 1 0 t).isSome then a else 0)) (b := (if (sArr h so la ri (pa k) (wa k) (min 40 (lo + 1)) 1 0 t).isSome then b else 0)) dX8_wind_151 ?_
                  refine g_iload (j := 0) dX8_wind_152 rfl ?_
                  refine n_iadd (a := ((if (sArr h so la ri (pa k) (wa k) (lo - 1) 1 0 t).isSome then a else 0) + (if (sArr h so la ri (pa k) (wa k) (min 40 (lo + 1)) 1 0 t).isSome then b else 0))) (b := (if (sArr h so la ri (pa k) (wa k) lo 1 0 t).isSome then 10 - a - b else 0)) dX8_wind_154 ?_
                  refine g_i2l (v := lN (((if (sArr h so la ri (pa k) (wa k) (lo - 1) 1 0 t).isSome then a else 0) + (if (sArr h so la ri (pa k) (wa k) (min 40 (lo + 1)) 1 0 t).isSome then b else 0)) + (if (sArr h so la ri (pa k) (wa k) lo 1 0 t).isSome then 10 - a - b else 0))) dX8_wind_155 (nI_l (by omega)) ?_
                  refine g_ldc2 clX8_227 dX8_wind_156 ?_
                  refine g_st (st' := [.long (lN 10), .long (lN (((if (sArr h so la ri (pa k) (wa k) (lo - 1) 1 0 t).isSome then a else 0) + (if (sArr h so la ri (pa k) (wa k) (min 40 (lo + 1)) 1 0 t).isSome then b else 0)) + (if (sArr h so la ri (pa k) (wa k) lo 1 0 t).isSome then 10 - a - b else 0)))]) rfl ?_
                  refine g_iload (j := 8) dX8_wind_159 rfl ?_
                  refine c_S (st1 := [.int (nI (sTold (((if (sArr h so la ri (pa k) (wa k) (lo - 1) 1 0 t).isSome then a else 0) + (if (sArr h so la ri (pa k) (wa k) (min 40 (lo + 1)) 1 0 t).isSome then b else 0)) + (if (sArr h so la ri (pa k) (wa k) lo 1 0 t).isSome then 10 - a - b else 0)) 10 up))]) (ctX8_fraction (a := ((if (sArr h so la ri (pa k) (wa k) (lo - 1) 1 0 t).isSome then a else 0) + (if (sArr h so la ri (pa k) (wa k) (min 40 (lo + 1)) 1 0 t).isSome then b else 0)) + (if (sArr h so la ri (pa k) (wa k) lo 1 0 t).isSome then 10 - a - b else 0)) (b := 10) (u := up) (by omega) (by omega) (by omega) (by omega)) kX8_fraction lX8_234 (by decide) rfl (by exact Nat.le_of_ble_eq_true rfl) dX8_wind_161 rfl rfl ?_
                  refine g_iret rfl rfl dX8_wind_164 ?_
                  refine ⟨?_, _, _, _, rfl⟩
                  unfold pWind
                  rw [if_pos ik, if_pos (c := iW (nI t) 41 ∧ tenP (nI a) (nI b)) ⟨h24, Decidable.not_not.mp h33⟩, ek, cN_n (k := t) (by omega), cN_n (k := a) (by omega), cN_n (k := b) (by omega)]
                  rfl
        · refine g_iconst (v := nI 0) dX8_wind_51 (by decide) ?_
          refine g_goto (tgt := 61) dX8_wind_52 (by decide) ?_
          refine g_topi (y := nI (lo - 1)) (by first | rfl | rw [h48]) ?_
          refine g_callV (rest := []) (ctX8_goneOf (w := k) (c := 0) (s := t) (way := 1) (at0 := lo - 1) hH hpa hwa (by omega) (by omega) hS (by first | omega | assumption | exact hpa _ | exact hwa _ | exact hr1 _ (by omega) | exact hr6 _ (by omega) | exact hr11 _ (by omega) | exact hr _ | exact Nat.le_succ_of_le (hr _) | (apply sTo_le; first | omega | exact hr1 _ (by omega))) (by first | omega | assumption | exact hpa _ | exact hwa _ | exact hr1 _ (by omega) | exact hr6 _ (by omega) | exact hr11 _ (by omega) | exact hr _ | exact Nat.le_succ_of_le (hr _) | (apply sTo_le; first | omega | exact hr1 _ (by omega))) (by first | omega | assumption | exact hpa _ | exact hwa _ | exact hr1 _ (by omega) | exact hr6 _ (by omega) | exact hr11 _ (by omega) | exact hr _ | exact Nat.le_succ_of_le (hr _) | (apply sTo_le; first | omega | exact hr1 _ (by omega))) (by first | omega | assumption | exact hpa _ | exact hwa _ | exact hr1 _ (by omega) | exact hr6 _ (by omega) | exact hr11 _ (by omega) | exact hr _ | exact Nat.le_succ_of_le (hr _) | (apply sTo_le; first | omega | exact hr1 _ (by omega))) (by first | omega | assumption | exact hpa _ | exact hwa _ | exact hr1 _ (by omega) | exact hr6 _ (by omega) | exact hr11 _ (by omega) | exact hr _ | exact Nat.le_succ_of_le (hr _) | (apply sTo_le; first | omega | exact hr1 _ (by omega))) (by first | omega | assumption | exact hpa _ | exact hwa _ | exact hr1 _ (by omega) | exact hr6 _ (by omega) | exact hr11 _ (by omega) | exact hr _ | exact Nat.le_succ_of_le (hr _) | (apply sTo_le; first | omega | exact hr1 _ (by omega)))) kX8_goneOf lX8_205 (by decide) rfl rfl rfl rfl (by exact Nat.le_of_ble_eq_true rfl) dX8_wind_61 rfl (fun v u hvu => ?_)
          obtain ⟨rfl, ce61, sa61, ti61, rfl⟩ := hvu
          refine g_st (st' := [.int (rO (sArr h so la ri (pa k) (wa k) (lo - 1) 1 0 t))]) rfl ?_
          refine g_bipush (v := (-9)) dX8_wind_64 (by decide) ?_
          refine g_icmp_ne (tgt := 73) dX8_wind_66 (by decide) (fun h66 => ?_) (fun h66 => ?_)
          · replace h66 := fun z => h66 ((sArr_ne (by omega)).mpr z)
            refine g_iload_n (i := 3) (j := 3) dX8_wind_73 rfl rfl ?_
            refine g_topi (y := nI (if (sArr h so la ri (pa k) (wa k) (lo - 1) 1 0 t).isSome then a else 0)) (by first | rw [if_pos (isSome_t h66)] | rw [if_neg (by rw [isSome_f h66]; simp)]) ?_
            have qh66 : (if (sArr h so la ri (pa k) (wa k) (lo - 1) 1 0 t).isSome then a else 0) ≤ 10 := by split <;> omega
            refine g_istore (lv' := [(6, .int (nI (if (sArr h so la ri (pa k) (wa k) (lo - 1) 1 0 t).isSome then a else 0))), (0, .ref 0), (1, .int (nI k)), (2, .int (nI t)), (3, .int (nI a)), (4, .int (nI b)), (5, .int (nI up))]) dX8_wind_74 (by decide) rfl ?_
            refine g_aload_n (i := 0) (j := 1) dX8_wind_76 rfl rfl ?_
            refine g_iload_n (i := 1) (j := 2) dX8_wind_77 rfl rfl ?_
            refine g_iconst (v := nI 0) dX8_wind_78 (by decide) ?_
            refine g_iload_n (i := 2) (j := 3) dX8_wind_79 rfl rfl ?_
            refine g_iconst (v := nI 1) dX8_wind_80 (by decide) ?_
            refine g_aload_n (i := 0) (j := 1) dX8_wind_81 rfl rfl ?_
            refine g_get fX8_139 rfl rfl dX8_wind_82 ?_
            refine g_bipush (v := nI 40) dX8_wind_85 (by decide) ?_
            refine n_icmp_ne (tgt := 95) (by omega) (rng_lit 40 rfl) dX8_wind_87 (by decide) (fun h87 => ?_) (fun h87 => ?_)
            · refine g_aload_n (i := 0) (j := 1) dX8_wind_95 rfl rfl ?_
              refine g_get fX8_139 rfl rfl dX8_wind_96 ?_
              refine g_iconst (v := nI 1) dX8_wind_99 (by decide) ?_
              refine n_iadd (a := lo) (b := 1) dX8_wind_100 ?_
              refine g_topi (y := nI (min 40 (lo + 1))) (congrArg nI (by omega)) ?_
              refine g_callV (rest := []) (ctX8_goneOf (w := k) (c := 0) (s := t) (way := 1) (at0 := min 40 (lo + 1)) hH hpa hwa (by omega) (by omega) hS (by first | omega | assumption | exact hpa _ | exact hwa _ | exact hr1 _ (by omega) | exact hr6 _ (by omega) | exact hr11 _ (by omega) | exact hr _ | exact Nat.le_succ_of_le (hr _) | (apply sTo_le; first | omega | exact hr1 _ (by omega))) (by first | omega | assumption | exact hpa _ | exact hwa _ | exact hr1 _ (by omega) | exact hr6 _ (by omega) | exact hr11 _ (by omega) | exact hr _ | exact Nat.le_succ_of_le (hr _) | (apply sTo_le; first | omega | exact hr1 _ (by omega))) (by first | omega | assumption | exact hpa _ | exact hwa _ | exact hr1 _ (by omega) | exact hr6 _ (by omega) | exact hr11 _ (by omega) | exact hr _ | exact Nat.le_succ_of_le (hr _) | (apply sTo_le; first | omega | exact hr1 _ (by omega))) (by first | omega | assumption | exact hpa _ | exact hwa _ | exact hr1 _ (by omega) | exact hr6 _ (by omega) | exact hr11 _ (by omega) | exact hr _ | exact Nat.le_succ_of_le (hr _) | (apply sTo_le; first | omega | exact hr1 _ (by omega))) (by first | omega | assumption | exact hpa _ | exact hwa _ | exact hr1 _ (by omega) | exact hr6 _ (by omega) | exact hr11 _ (by omega) | exact hr _ | exact Nat.le_succ_of_le (hr _) | (apply sTo_le; first | omega | exact hr1 _ (by omega))) (by first | omega | assumption | exact hpa _ | exact hwa _ | exact hr1 _ (by omega) | exact hr6 _ (by omega) | exact hr11 _ (by omega) | exact hr _ | exact Nat.le_succ_of_le (hr _) | (apply sTo_le; first | omega | exact hr1 _ (by omega)))) kX8_goneOf lX8_205 (by decide) rfl rfl rfl rfl (by exact Nat.le_of_ble_eq_true rfl) dX8_wind_101 rfl (fun v u hvu => ?_)
              obtain ⟨rfl, ce101, sa101, ti101, rfl⟩ := hvu
              refine g_st (st' := [.int (rO (sArr h so la ri (pa k) (wa k) (min 40 (lo + 1)) 1 0 t))]) rfl ?_
              refine g_bipush (v := (-9)) dX8_wind_104 (by decide) ?_
              refine g_icmp_ne (tgt := 113) dX8_wind_106 (by decide) (fun h106 => ?_) (fun h106 => ?_)
              · replace h106 := fun z => h106 ((sArr_ne (by omega)).mpr z)
                refine g_iload (j := 5) dX8_wind_113 rfl ?_
                refine g_topi (y := nI (if (sArr h so la ri (pa k) (wa k) (min 40 (lo + 1)) 1 0 t).isSome then b else 0)) (by first | rw [if_pos (isSome_t h106)] | rw [if_neg (by rw [isSome_f h106]; simp)]) ?_
                have qh106 : (if (sArr h so la ri (pa k) (wa k) (min 40 (lo + 1)) 1 0 t).isSome then b else 0) ≤ 10 := by split <;> omega
                refine g_istore (lv' := [(7, .int (nI (if (sArr h so la ri (pa k) (wa k) (min 40 (lo + 1)) 1 0 t).isSome then b else 0))), (6, .int (nI (if (sArr h so la ri (pa k) (wa k) (lo - 1) 1 0 t).isSome then a else 0))), (0, .ref 0), (1, .int (nI k)), (2, .int (nI t)), (3, .int (nI a)), (4, .int (nI b)), (5, .int (nI up))]) dX8_wind_115 (by decide) rfl ?_
                refine g_aload_n (i := 0) (j := 2) dX8_wind_117 rfl rfl ?_
                refine g_iload_n (i := 1) (j := 3) dX8_wind_118 rfl rfl ?_
                refine g_iconst (v := nI 0) dX8_wind_119 (by decide) ?_
                refine g_iload_n (i := 2) (j := 4) dX8_wind_120 rfl rfl ?_
                refine g_iconst (v := nI 1) dX8_wind_121 (by decide) ?_
                refine g_aload_n (i := 0) (j := 2) dX8_wind_122 rfl rfl ?_
                refine g_get fX8_139 rfl rfl dX8_wind_123 ?_
                refine g_callV (rest := []) (ctX8_goneOf (w := k) (c := 0) (s := t) (way := 1) (at0 := lo) hH hpa hwa (by omega) (by omega) hS (by first | omega | assumption | exact hpa _ | exact hwa _ | exact hr1 _ (by omega) | exact hr6 _ (by omega) | exact hr11 _ (by omega) | exact hr _ | exact Nat.le_succ_of_le (hr _) | (apply sTo_le; first | omega | exact hr1 _ (by omega))) (by first | omega | assumption | exact hpa _ | exact hwa _ | exact hr1 _ (by omega) | exact hr6 _ (by omega) | exact hr11 _ (by omega) | exact hr _ | exact Nat.le_succ_of_le (hr _) | (apply sTo_le; first | omega | exact hr1 _ (by omega))) (by first | omega | assumption | exact hpa _ | exact hwa _ | exact hr1 _ (by omega) | exact hr6 _ (by omega) | exact hr11 _ (by omega) | exact hr _ | exact Nat.le_succ_of_le (hr _) | (apply sTo_le; first | omega | exact hr1 _ (by omega))) (by first | omega | assumption | exact hpa _ | exact hwa _ | exact hr1 _ (by omega) | exact hr6 _ (by omega) | exact hr11 _ (by omega) | exact hr _ | exact Nat.le_succ_of_le (hr _) | (apply sTo_le; first | omega | exact hr1 _ (by omega))) (by first | omega | assumption | exact hpa _ | exact hwa _ | exact hr1 _ (by omega) | exact hr6 _ (by omega) | exact hr11 _ (by omega) | exact hr _ | exact Nat.le_succ_of_le (hr _) | (apply sTo_le; first | omega | exact hr1 _ (by omega))) (by first | omega | assumption | exact hpa _ | exact hwa _ | exact hr1 _ (by omega) | exact hr6 _ (by omega) | exact hr11 _ (by omega) | exact hr _ | exact Nat.le_succ_of_le (hr _) | (apply sTo_le; first | omega | exact hr1 _ (by omega)))) kX8_goneOf lX8_205 (by decide) rfl rfl rfl rfl (by exact Nat.le_of_ble_eq_true rfl) dX8_wind_126 rfl (fun v u hvu => ?_)
                obtain ⟨rfl, ce126, sa126, ti126, rfl⟩ := hvu
                refine g_st (st' := [.int (rO (sArr h so la ri (pa k) (wa k) lo 1 0 t))]) rfl ?_
                refine g_bipush (v := (-9)) dX8_wind_129 (by decide) ?_
                refine g_icmp_ne (tgt := 138) dX8_wind_131 (by decide) (fun h131 => ?_) (fun h131 => ?_)
                · replace h131 := fun z => h131 ((sArr_ne (by omega)).mpr z)
                  refine g_bipush (v := nI 10) dX8_wind_138 (by decide) ?_
                  refine g_iload_n (i := 3) (j := 5) dX8_wind_140 rfl rfl ?_
                  refine n_isub (a := 10) (b := a) (by omega) dX8_wind_141 ?_
                  refine g_iload (j := 6) dX8_wind_142 rfl ?_
                  refine n_isub (a := (10 - a)) (b := b) (by omega) dX8_wind_144 ?_
                  refine g_topi (y := nI (if (sArr h so la ri (pa k) (wa k) lo 1 0 t).isSome then 10 - a - b else 0)) (by first | rw [if_pos (isSome_t h131)] | rw [if_neg (by rw [isSome_f h131]; simp)]) ?_
                  have qh131 : (if (sArr h so la ri (pa k) (wa k) lo 1 0 t).isSome then 10 - a - b else 0) ≤ 10 := by split <;> omega
                  refine g_istore (lv' := [(8, .int (nI (if (sArr h so la ri (pa k) (wa k) lo 1 0 t).isSome then 10 - a - b else 0))), (7, .int (nI (if (sArr h so la ri (pa k) (wa k) (min 40 (lo + 1)) 1 0 t).isSome then b else 0))), (6, .int (nI (if (sArr h so la ri (pa k) (wa k) (lo - 1) 1 0 t).isSome then a else 0))), (0, .ref 0), (1, .int (nI k)), (2, .int (nI t)), (3, .int (nI a)), (4, .int (nI b)), (5, .int (nI up))]) dX8_wind_145 (by decide) rfl ?_
                  refine g_iload (j := 2) dX8_wind_147 rfl ?_
                  refine g_iload (j := 1) dX8_wind_149 rfl ?_
                  refine n_iadd (a := (if (sArr h so la ri (pa k) (wa k) (lo - 1) 1 0 t).isSome then a else 0)) (b := (if (sArr h so la ri (pa k) (wa k) (min 40 (lo + 1)) 1 0 t).isSome then b else 0)) dX8_wind_151 ?_
                  refine g_iload (j := 0) dX8_wind_152 rfl ?_
                  refine n_iadd (a := ((if (sArr h so la ri (pa k) (wa k) (lo - 1) 1 0 t).isSome then a else 0) + (if (sArr h so la ri (pa k) (wa k) (min 40 (lo + 1)) 1 0 t).isSome then b else 0))) (b := (if (sArr h so la ri (pa k) (wa k) lo 1 0 t).isSome then 10 - a - b else 0)) dX8_wind_154 ?_
                  refine g_i2l (v := lN (((if (sArr h so la ri (pa k) (wa k) (lo - 1) 1 0 t).isSome then a else 0) + (if (sArr h so la ri (pa k) (wa k) (min 40 (lo + 1)) 1 0 t).isSome then b else 0)) + (if (sArr h so la ri (pa k) (wa k) lo 1 0 t).isSome then 10 - a - b else 0))) dX8_wind_155 (nI_l (by omega)) ?_
                  refine g_ldc2 clX8_227 dX8_wind_156 ?_
                  refine g_st (st' := [.long (lN 10), .long (lN (((if (sArr h so la ri (pa k) (wa k) (lo - 1) 1 0 t).isSome then a else 0) + (if (sArr h so la ri (pa k) (wa k) (min 40 (lo + 1)) 1 0 t).isSome then b else 0)) + (if (sArr h so la ri (pa k) (wa k) lo 1 0 t).isSome then 10 - a - b else 0)))]) rfl ?_
                  refine g_iload (j := 8) dX8_wind_159 rfl ?_
                  refine c_S (st1 := [.int (nI (sTold (((if (sArr h so la ri (pa k) (wa k) (lo - 1) 1 0 t).isSome then a else 0) + (if (sArr h so la ri (pa k) (wa k) (min 40 (lo + 1)) 1 0 t).isSome then b else 0)) + (if (sArr h so la ri (pa k) (wa k) lo 1 0 t).isSome then 10 - a - b else 0)) 10 up))]) (ctX8_fraction (a := ((if (sArr h so la ri (pa k) (wa k) (lo - 1) 1 0 t).isSome then a else 0) + (if (sArr h so la ri (pa k) (wa k) (min 40 (lo + 1)) 1 0 t).isSome then b else 0)) + (if (sArr h so la ri (pa k) (wa k) lo 1 0 t).isSome then 10 - a - b else 0)) (b := 10) (u := up) (by omega) (by omega) (by omega) (by omega)) kX8_fraction lX8_234 (by decide) rfl (by exact Nat.le_of_ble_eq_true rfl) dX8_wind_161 rfl rfl ?_
                  refine g_iret rfl rfl dX8_wind_164 ?_
                  refine ⟨?_, _, _, _, rfl⟩
                  unfold pWind
                  rw [if_pos ik, if_pos (c := iW (nI t) 41 ∧ tenP (nI a) (nI b)) ⟨h24, Decidable.not_not.mp h33⟩, ek, cN_n (k := t) (by omega), cN_n (k := a) (by omega), cN_n (k := b) (by omega)]
                  rfl
                · replace h131 := (sArr_ne (by omega)).mp h131
                  refine g_iconst (v := nI 0) dX8_wind_134 (by decide) ?_
                  refine g_goto (tgt := 145) dX8_wind_135 (by decide) ?_
                  refine g_topi (y := nI (if (sArr h so la ri (pa k) (wa k) lo 1 0 t).isSome then 10 - a - b else 0)) (by first | rw [if_pos (isSome_t h131)] | rw [if_neg (by rw [isSome_f h131]; simp)]) ?_
                  have qh131 : (if (sArr h so la ri (pa k) (wa k) lo 1 0 t).isSome then 10 - a - b else 0) ≤ 10 := by split <;> omega
                  refine g_istore (lv' := [(8, .int (nI (if (sArr h so la ri (pa k) (wa k) lo 1 0 t).isSome then 10 - a - b else 0))), (7, .int (nI (if (sArr h so la ri (pa k) (wa k) (min 40 (lo + 1)) 1 0 t).isSome then b else 0))), (6, .int (nI (if (sArr h so la ri (pa k) (wa k) (lo - 1) 1 0 t).isSome then a else 0))), (0, .ref 0), (1, .int (nI k)), (2, .int (nI t)), (3, .int (nI a)), (4, .int (nI b)), (5, .int (nI up))]) dX8_wind_145 (by decide) rfl ?_
                  refine g_iload (j := 2) dX8_wind_147 rfl ?_
                  refine g_iload (j := 1) dX8_wind_149 rfl ?_
                  refine n_iadd (a := (if (sArr h so la ri (pa k) (wa k) (lo - 1) 1 0 t).isSome then a else 0)) (b := (if (sArr h so la ri (pa k) (wa k) (min 40 (lo + 1)) 1 0 t).isSome then b else 0)) dX8_wind_151 ?_
                  refine g_iload (j := 0) dX8_wind_152 rfl ?_
                  refine n_iadd (a := ((if (sArr h so la ri (pa k) (wa k) (lo - 1) 1 0 t).isSome then a else 0) + (if (sArr h so la ri (pa k) (wa k) (min 40 (lo + 1)) 1 0 t).isSome then b else 0))) (b := (if (sArr h so la ri (pa k) (wa k) lo 1 0 t).isSome then 10 - a - b else 0)) dX8_wind_154 ?_
                  refine g_i2l (v := lN (((if (sArr h so la ri (pa k) (wa k) (lo - 1) 1 0 t).isSome then a else 0) + (if (sArr h so la ri (pa k) (wa k) (min 40 (lo + 1)) 1 0 t).isSome then b else 0)) + (if (sArr h so la ri (pa k) (wa k) lo 1 0 t).isSome then 10 - a - b else 0))) dX8_wind_155 (nI_l (by omega)) ?_
                  refine g_ldc2 clX8_227 dX8_wind_156 ?_
                  refine g_st (st' := [.long (lN 10), .long (lN (((if (sArr h so la ri (pa k) (wa k) (lo - 1) 1 0 t).isSome then a else 0) + (if (sArr h so la ri (pa k) (wa k) (min 40 (lo + 1)) 1 0 t).isSome then b else 0)) + (if (sArr h so la ri (pa k) (wa k) lo 1 0 t).isSome then 10 - a - b else 0)))]) rfl ?_
                  refine g_iload (j := 8) dX8_wind_159 rfl ?_
                  refine c_S (st1 := [.int (nI (sTold (((if (sArr h so la ri (pa k) (wa k) (lo - 1) 1 0 t).isSome then a else 0) + (if (sArr h so la ri (pa k) (wa k) (min 40 (lo + 1)) 1 0 t).isSome then b else 0)) + (if (sArr h so la ri (pa k) (wa k) lo 1 0 t).isSome then 10 - a - b else 0)) 10 up))]) (ctX8_fraction (a := ((if (sArr h so la ri (pa k) (wa k) (lo - 1) 1 0 t).isSome then a else 0) + (if (sArr h so la ri (pa k) (wa k) (min 40 (lo + 1)) 1 0 t).isSome then b else 0)) + (if (sArr h so la ri (pa k) (wa k) lo 1 0 t).isSome then 10 - a - b else 0)) (b := 10) (u := up) (by omega) (by omega) (by omega) (by omega)) kX8_fraction lX8_234 (by decide) rfl (by exact Nat.le_of_ble_eq_true rfl) dX8_wind_161 rfl rfl ?_
                  refine g_iret rfl rfl dX8_wind_164 ?_
                  refine ⟨?_, _, _, _, rfl⟩
                  unfold pWind
                  rw [if_pos ik, if_pos (c := iW (nI t) 41 ∧ tenP (nI a) (nI b)) ⟨h24, Decidable.not_not.mp h33⟩, ek, cN_n (k := t) (by omega), cN_n (k := a) (by omega), cN_n (k := b) (by omega)]
                  rfl
              · replace h106 := (sArr_ne (by omega)).mp h106
                refine g_iconst (v := nI 0) dX8_wind_109 (by decide) ?_
                refine g_goto (tgt := 115) dX8_wind_110 (by decide) ?_
                refine g_topi (y := nI (if (sArr h so la ri (pa k) (wa k) (min 40 (lo + 1)) 1 0 t).isSome then b else 0)) (by first | rw [if_pos (isSome_t h106)] | rw [if_neg (by rw [isSome_f h106]; simp)]) ?_
                have qh106 : (if (sArr h so la ri (pa k) (wa k) (min 40 (lo + 1)) 1 0 t).isSome then b else 0) ≤ 10 := by split <;> omega
                refine g_istore (lv' := [(7, .int (nI (if (sArr h so la ri (pa k) (wa k) (min 40 (lo + 1)) 1 0 t).isSome then b else 0))), (6, .int (nI (if (sArr h so la ri (pa k) (wa k) (lo - 1) 1 0 t).isSome then a else 0))), (0, .ref 0), (1, .int (nI k)), (2, .int (nI t)), (3, .int (nI a)), (4, .int (nI b)), (5, .int (nI up))]) dX8_wind_115 (by decide) rfl ?_
                refine g_aload_n (i := 0) (j := 2) dX8_wind_117 rfl rfl ?_
                refine g_iload_n (i := 1) (j := 3) dX8_wind_118 rfl rfl ?_
                refine g_iconst (v := nI 0) dX8_wind_119 (by decide) ?_
                refine g_iload_n (i := 2) (j := 4) dX8_wind_120 rfl rfl ?_
                refine g_iconst (v := nI 1) dX8_wind_121 (by decide) ?_
                refine g_aload_n (i := 0) (j := 2) dX8_wind_122 rfl rfl ?_
                refine g_get fX8_139 rfl rfl dX8_wind_123 ?_
                refine g_callV (rest := []) (ctX8_goneOf (w := k) (c := 0) (s := t) (way := 1) (at0 := lo) hH hpa hwa (by omega) (by omega) hS (by first | omega | assumption | exact hpa _ | exact hwa _ | exact hr1 _ (by omega) | exact hr6 _ (by omega) | exact hr11 _ (by omega) | exact hr _ | exact Nat.le_succ_of_le (hr _) | (apply sTo_le; first | omega | exact hr1 _ (by omega))) (by first | omega | assumption | exact hpa _ | exact hwa _ | exact hr1 _ (by omega) | exact hr6 _ (by omega) | exact hr11 _ (by omega) | exact hr _ | exact Nat.le_succ_of_le (hr _) | (apply sTo_le; first | omega | exact hr1 _ (by omega))) (by first | omega | assumption | exact hpa _ | exact hwa _ | exact hr1 _ (by omega) | exact hr6 _ (by omega) | exact hr11 _ (by omega) | exact hr _ | exact Nat.le_succ_of_le (hr _) | (apply sTo_le; first | omega | exact hr1 _ (by omega))) (by first | omega | assumption | exact hpa _ | exact hwa _ | exact hr1 _ (by omega) | exact hr6 _ (by omega) | exact hr11 _ (by omega) | exact hr _ | exact Nat.le_succ_of_le (hr _) | (apply sTo_le; first | omega | exact hr1 _ (by omega))) (by first | omega | assumption | exact hpa _ | exact hwa _ | exact hr1 _ (by omega) | exact hr6 _ (by omega) | exact hr11 _ (by omega) | exact hr _ | exact Nat.le_succ_of_le (hr _) | (apply sTo_le; first | omega | exact hr1 _ (by omega))) (by first | omega | assumption | exact hpa _ | exact hwa _ | exact hr1 _ (by omega) | exact hr6 _ (by omega) | exact hr11 _ (by omega) | exact hr _ | exact Nat.le_succ_of_le (hr _) | (apply sTo_le; first | omega | exact hr1 _ (by omega)))) kX8_goneOf lX8_205 (by decide) rfl rfl rfl rfl (by exact Nat.le_of_ble_eq_true rfl) dX8_wind_126 rfl (fun v u hvu => ?_)
                obtain ⟨rfl, ce126, sa126, ti126, rfl⟩ := hvu
                refine g_st (st' := [.int (rO (sArr h so la ri (pa k) (wa k) lo 1 0 t))]) rfl ?_
                refine g_bipush (v := (-9)) dX8_wind_129 (by decide) ?_
                refine g_icmp_ne (tgt := 138) dX8_wind_131 (by decide) (fun h131 => ?_) (fun h131 => ?_)
                · replace h131 := fun z => h131 ((sArr_ne (by omega)).mpr z)
                  refine g_bipush (v := nI 10) dX8_wind_138 (by decide) ?_
                  refine g_iload_n (i := 3) (j := 5) dX8_wind_140 rfl rfl ?_
                  refine n_isub (a := 10) (b := a) (by omega) dX8_wind_141 ?_
                  refine g_iload (j := 6) dX8_wind_142 rfl ?_
                  refine n_isub (a := (10 - a)) (b := b) (by omega) dX8_wind_144 ?_
                  refine g_topi (y := nI (if (sArr h so la ri (pa k) (wa k) lo 1 0 t).isSome then 10 - a - b else 0)) (by first | rw [if_pos (isSome_t h131)] | rw [if_neg (by rw [isSome_f h131]; simp)]) ?_
                  have qh131 : (if (sArr h so la ri (pa k) (wa k) lo 1 0 t).isSome then 10 - a - b else 0) ≤ 10 := by split <;> omega
                  refine g_istore (lv' := [(8, .int (nI (if (sArr h so la ri (pa k) (wa k) lo 1 0 t).isSome then 10 - a - b else 0))), (7, .int (nI (if (sArr h so la ri (pa k) (wa k) (min 40 (lo + 1)) 1 0 t).isSome then b else 0))), (6, .int (nI (if (sArr h so la ri (pa k) (wa k) (lo - 1) 1 0 t).isSome then a else 0))), (0, .ref 0), (1, .int (nI k)), (2, .int (nI t)), (3, .int (nI a)), (4, .int (nI b)), (5, .int (nI up))]) dX8_wind_145 (by decide) rfl ?_
                  refine g_iload (j := 2) dX8_wind_147 rfl ?_
                  refine g_iload (j := 1) dX8_wind_149 rfl ?_
                  refine n_iadd (a := (if (sArr h so la ri (pa k) (wa k) (lo - 1) 1 0 t).isSome then a else 0)) (b := (if (sArr h so la ri (pa k) (wa k) (min 40 (lo + 1)) 1 0 t).isSome then b else 0)) dX8_wind_151 ?_
                  refine g_iload (j := 0) dX8_wind_152 rfl ?_
                  refine n_iadd (a := ((if (sArr h so la ri (pa k) (wa k) (lo - 1) 1 0 t).isSome then a else 0) + (if (sArr h so la ri (pa k) (wa k) (min 40 (lo + 1)) 1 0 t).isSome then b else 0))) (b := (if (sArr h so la ri (pa k) (wa k) lo 1 0 t).isSome then 10 - a - b else 0)) dX8_wind_154 ?_
                  refine g_i2l (v := lN (((if (sArr h so la ri (pa k) (wa k) (lo - 1) 1 0 t).isSome then a else 0) + (if (sArr h so la ri (pa k) (wa k) (min 40 (lo + 1)) 1 0 t).isSome then b else 0)) + (if (sArr h so la ri (pa k) (wa k) lo 1 0 t).isSome then 10 - a - b else 0))) dX8_wind_155 (nI_l (by omega)) ?_
                  refine g_ldc2 clX8_227 dX8_wind_156 ?_
                  refine g_st (st' := [.long (lN 10), .long (lN (((if (sArr h so la ri (pa k) (wa k) (lo - 1) 1 0 t).isSome then a else 0) + (if (sArr h so la ri (pa k) (wa k) (min 40 (lo + 1)) 1 0 t).isSome then b else 0)) + (if (sArr h so la ri (pa k) (wa k) lo 1 0 t).isSome then 10 - a - b else 0)))]) rfl ?_
                  refine g_iload (j := 8) dX8_wind_159 rfl ?_
                  refine c_S (st1 := [.int (nI (sTold (((if (sArr h so la ri (pa k) (wa k) (lo - 1) 1 0 t).isSome then a else 0) + (if (sArr h so la ri (pa k) (wa k) (min 40 (lo + 1)) 1 0 t).isSome then b else 0)) + (if (sArr h so la ri (pa k) (wa k) lo 1 0 t).isSome then 10 - a - b else 0)) 10 up))]) (ctX8_fraction (a := ((if (sArr h so la ri (pa k) (wa k) (lo - 1) 1 0 t).isSome then a else 0) + (if (sArr h so la ri (pa k) (wa k) (min 40 (lo + 1)) 1 0 t).isSome then b else 0)) + (if (sArr h so la ri (pa k) (wa k) lo 1 0 t).isSome then 10 - a - b else 0)) (b := 10) (u := up) (by omega) (by omega) (by omega) (by omega)) kX8_fraction lX8_234 (by decide) rfl (by exact Nat.le_of_ble_eq_true rfl) dX8_wind_161 rfl rfl ?_
                  refine g_iret rfl rfl dX8_wind_164 ?_
                  refine ⟨?_, _, _, _, rfl⟩
                  unfold pWind
                  rw [if_pos ik, if_pos (c := iW (nI t) 41 ∧ tenP (nI a) (nI b)) ⟨h24, Decidable.not_not.mp h33⟩, ek, cN_n (k := t) (by omega), cN_n (k := a) (by omega), cN_n (k := b) (by omega)]
                  rfl
                · replace h131 := (sArr_ne (by omega)).mp h131
                  refine g_iconst (v := nI 0) dX8_wind_134 (by decide) ?_
                  refine g_goto (tgt := 145) dX8_wind_135 (by decide) ?_
                  refine g_topi (y := nI (if (sArr h so la ri (pa k) (wa k) lo 1 0 t).isSome then 10 - a - b else 0)) (by first | rw [if_pos (isSome_t h131)] | rw [if_neg (by rw [isSome_f h131]; simp)]) ?_
                  have qh131 : (if (sArr h so la ri (pa k) (wa k) lo 1 0 t).isSome then 10 - a - b else 0) ≤ 10 := by split <;> omega
                  refine g_istore (lv' := [(8, .int (nI (if (sArr h so la ri (pa k) (wa k) lo 1 0 t).isSome then 10 - a - b else 0))), (7, .int (nI (if (sArr h so la ri (pa k) (wa k) (min 40 (lo + 1)) 1 0 t).isSome then b else 0))), (6, .int (nI (if (sArr h so la ri (pa k) (wa k) (lo - 1) 1 0 t).isSome then a else 0))), (0, .ref 0), (1, .int (nI k)), (2, .int (nI t)), (3, .int (nI a)), (4, .int (nI b)), (5, .int (nI up))]) dX8_wind_145 (by decide) rfl ?_
                  refine g_iload (j := 2) dX8_wind_147 rfl ?_
                  refine g_iload (j := 1) dX8_wind_149 rfl ?_
                  refine n_iadd (a := (if (sArr h so la ri (pa k) (wa k) (lo - 1) 1 0 t).isSome then a else 0)) (b := (if (sArr h so la ri (pa k) (wa k) (min 40 (lo + 1)) 1 0 t).isSome then b else 0)) dX8_wind_151 ?_
                  refine g_iload (j := 0) dX8_wind_152 rfl ?_
                  refine n_iadd (a := ((if (sArr h so la ri (pa k) (wa k) (lo - 1) 1 0 t).isSome then a else 0) + (if (sArr h so la ri (pa k) (wa k) (min 40 (lo + 1)) 1 0 t).isSome then b else 0))) (b := (if (sArr h so la ri (pa k) (wa k) lo 1 0 t).isSome then 10 - a - b else 0)) dX8_wind_154 ?_
                  refine g_i2l (v := lN (((if (sArr h so la ri (pa k) (wa k) (lo - 1) 1 0 t).isSome then a else 0) + (if (sArr h so la ri (pa k) (wa k) (min 40 (lo + 1)) 1 0 t).isSome then b else 0)) + (if (sArr h so la ri (pa k) (wa k) lo 1 0 t).isSome then 10 - a - b else 0))) dX8_wind_155 (nI_l (by omega)) ?_
                  refine g_ldc2 clX8_227 dX8_wind_156 ?_
                  refine g_st (st' := [.long (lN 10), .long (lN (((if (sArr h so la ri (pa k) (wa k) (lo - 1) 1 0 t).isSome then a else 0) + (if (sArr h so la ri (pa k) (wa k) (min 40 (lo + 1)) 1 0 t).isSome then b else 0)) + (if (sArr h so la ri (pa k) (wa k) lo 1 0 t).isSome then 10 - a - b else 0)))]) rfl ?_
                  refine g_iload (j := 8) dX8_wind_159 rfl ?_
                  refine c_S (st1 := [.int (nI (sTold (((if (sArr h so la ri (pa k) (wa k) (lo - 1) 1 0 t).isSome then a else 0) + (if (sArr h so la ri (pa k) (wa k) (min 40 (lo + 1)) 1 0 t).isSome then b else 0)) + (if (sArr h so la ri (pa k) (wa k) lo 1 0 t).isSome then 10 - a - b else 0)) 10 up))]) (ctX8_fraction (a := ((if (sArr h so la ri (pa k) (wa k) (lo - 1) 1 0 t).isSome then a else 0) + (if (sArr h so la ri (pa k) (wa k) (min 40 (lo + 1)) 1 0 t).isSome then b else 0)) + (if (sArr h so la ri (pa k) (wa k) lo 1 0 t).isSome then 10 - a - b else 0)) (b := 10) (u := up) (by omega) (by omega) (by omega) (by omega)) kX8_fraction lX8_234 (by decide) rfl (by exact Nat.le_of_ble_eq_true rfl) dX8_wind_161 rfl rfl ?_
                  refine g_iret rfl rfl dX8_wind_164 ?_
                  refine ⟨?_, _, _, _, rfl⟩
                  unfold pWind
                  rw [if_pos ik, if_pos (c := iW (nI t) 41 ∧ tenP (nI a) (nI b)) ⟨h24, Decidable.not_not.mp h33⟩, ek, cN_n (k := t) (by omega), cN_n (k := a) (by omega), cN_n (k := b) (by omega)]
                  rfl
            · refine g_bipush (v := nI 40) dX8_wind_90 (by decide) ?_
              refine g_goto (tgt := 101) dX8_wind_92 (by decide) ?_
              refine g_topi (y := nI (min 40 (lo + 1))) (congrArg nI (by omega)) ?_
              refine g_callV (rest := []) (ctX8_goneOf (w := k) (c := 0) (s := t) (way := 1) (at0 := min 40 (lo + 1)) hH hpa hwa (by omega) (by omega) hS (by first | omega | assumption | exact hpa _ | exact hwa _ | exact hr1 _ (by omega) | exact hr6 _ (by omega) | exact hr11 _ (by omega) | exact hr _ | exact Nat.le_succ_of_le (hr _) | (apply sTo_le; first | omega | exact hr1 _ (by omega))) (by first | omega | assumption | exact hpa _ | exact hwa _ | exact hr1 _ (by omega) | exact hr6 _ (by omega) | exact hr11 _ (by omega) | exact hr _ | exact Nat.le_succ_of_le (hr _) | (apply sTo_le; first | omega | exact hr1 _ (by omega))) (by first | omega | assumption | exact hpa _ | exact hwa _ | exact hr1 _ (by omega) | exact hr6 _ (by omega) | exact hr11 _ (by omega) | exact hr _ | exact Nat.le_succ_of_le (hr _) | (apply sTo_le; first | omega | exact hr1 _ (by omega))) (by first | omega | assumption | exact hpa _ | exact hwa _ | exact hr1 _ (by omega) | exact hr6 _ (by omega) | exact hr11 _ (by omega) | exact hr _ | exact Nat.le_succ_of_le (hr _) | (apply sTo_le; first | omega | exact hr1 _ (by omega))) (by first | omega | assumption | exact hpa _ | exact hwa _ | exact hr1 _ (by omega) | exact hr6 _ (by omega) | exact hr11 _ (by omega) | exact hr _ | exact Nat.le_succ_of_le (hr _) | (apply sTo_le; first | omega | exact hr1 _ (by omega))) (by first | omega | assumption | exact hpa _ | exact hwa _ | exact hr1 _ (by omega) | exact hr6 _ (by omega) | exact hr11 _ (by omega) | exact hr _ | exact Nat.le_succ_of_le (hr _) | (apply sTo_le; first | omega | exact hr1 _ (by omega)))) kX8_goneOf lX8_205 (by decide) rfl rfl rfl rfl (by exact Nat.le_of_ble_eq_true rfl) dX8_wind_101 rfl (fun v u hvu => ?_)
              obtain ⟨rfl, ce101, sa101, ti101, rfl⟩ := hvu
              refine g_st (st' := [.int (rO (sArr h so la ri (pa k) (wa k) (min 40 (lo + 1)) 1 0 t))]) rfl ?_
              refine g_bipush (v := (-9)) dX8_wind_104 (by decide) ?_
              refine g_icmp_ne (tgt := 113) dX8_wind_106 (by decide) (fun h106 => ?_) (fun h106 => ?_)
              · replace h106 := fun z => h106 ((sArr_ne (by omega)).mpr z)
                refine g_iload (j := 5) dX8_wind_113 rfl ?_
                refine g_topi (y := nI (if (sArr h so la ri (pa k) (wa k) (min 40 (lo + 1)) 1 0 t).isSome then b else 0)) (by first | rw [if_pos (isSome_t h106)] | rw [if_neg (by rw [isSome_f h106]; simp)]) ?_
                have qh106 : (if (sArr h so la ri (pa k) (wa k) (min 40 (lo + 1)) 1 0 t).isSome then b else 0) ≤ 10 := by split <;> omega
                refine g_istore (lv' := [(7, .int (nI (if (sArr h so la ri (pa k) (wa k) (min 40 (lo + 1)) 1 0 t).isSome then b else 0))), (6, .int (nI (if (sArr h so la ri (pa k) (wa k) (lo - 1) 1 0 t).isSome then a else 0))), (0, .ref 0), (1, .int (nI k)), (2, .int (nI t)), (3, .int (nI a)), (4, .int (nI b)), (5, .int (nI up))]) dX8_wind_115 (by decide) rfl ?_
                refine g_aload_n (i := 0) (j := 2) dX8_wind_117 rfl rfl ?_
                refine g_iload_n (i := 1) (j := 3) dX8_wind_118 rfl rfl ?_
                refine g_iconst (v := nI 0) dX8_wind_119 (by decide) ?_
                refine g_iload_n (i := 2) (j := 4) dX8_wind_120 rfl rfl ?_
                refine g_iconst (v := nI 1) dX8_wind_121 (by decide) ?_
                refine g_aload_n (i := 0) (j := 2) dX8_wind_122 rfl rfl ?_
                refine g_get fX8_139 rfl rfl dX8_wind_123 ?_
                refine g_callV (rest := []) (ctX8_goneOf (w := k) (c := 0) (s := t) (way := 1) (at0 := lo) hH hpa hwa (by omega) (by omega) hS (by first | omega | assumption | exact hpa _ | exact hwa _ | exact hr1 _ (by omega) | exact hr6 _ (by omega) | exact hr11 _ (by omega) | exact hr _ | exact Nat.le_succ_of_le (hr _) | (apply sTo_le; first | omega | exact hr1 _ (by omega))) (by first | omega | assumption | exact hpa _ | exact hwa _ | exact hr1 _ (by omega) | exact hr6 _ (by omega) | exact hr11 _ (by omega) | exact hr _ | exact Nat.le_succ_of_le (hr _) | (apply sTo_le; first | omega | exact hr1 _ (by omega))) (by first | omega | assumption | exact hpa _ | exact hwa _ | exact hr1 _ (by omega) | exact hr6 _ (by omega) | exact hr11 _ (by omega) | exact hr _ | exact Nat.le_succ_of_le (hr _) | (apply sTo_le; first | omega | exact hr1 _ (by omega))) (by first | omega | assumption | exact hpa _ | exact hwa _ | exact hr1 _ (by omega) | exact hr6 _ (by omega) | exact hr11 _ (by omega) | exact hr _ | exact Nat.le_succ_of_le (hr _) | (apply sTo_le; first | omega | exact hr1 _ (by omega))) (by first | omega | assumption | exact hpa _ | exact hwa _ | exact hr1 _ (by omega) | exact hr6 _ (by omega) | exact hr11 _ (by omega) | exact hr _ | exact Nat.le_succ_of_le (hr _) | (apply sTo_le; first | omega | exact hr1 _ (by omega))) (by first | omega | assumption | exact hpa _ | exact hwa _ | exact hr1 _ (by omega) | exact hr6 _ (by omega) | exact hr11 _ (by omega) | exact hr _ | exact Nat.le_succ_of_le (hr _) | (apply sTo_le; first | omega | exact hr1 _ (by omega)))) kX8_goneOf lX8_205 (by decide) rfl rfl rfl rfl (by exact Nat.le_of_ble_eq_true rfl) dX8_wind_126 rfl (fun v u hvu => ?_)
                obtain ⟨rfl, ce126, sa126, ti126, rfl⟩ := hvu
                refine g_st (st' := [.int (rO (sArr h so la ri (pa k) (wa k) lo 1 0 t))]) rfl ?_
                refine g_bipush (v := (-9)) dX8_wind_129 (by decide) ?_
                refine g_icmp_ne (tgt := 138) dX8_wind_131 (by decide) (fun h131 => ?_) (fun h131 => ?_)
                · replace h131 := fun z => h131 ((sArr_ne (by omega)).mpr z)
                  refine g_bipush (v := nI 10) dX8_wind_138 (by decide) ?_
                  refine g_iload_n (i := 3) (j := 5) dX8_wind_140 rfl rfl ?_
                  refine n_isub (a := 10) (b := a) (by omega) dX8_wind_141 ?_
                  refine g_iload (j := 6) dX8_wind_142 rfl ?_
                  refine n_isub (a := (10 - a)) (b := b) (by omega) dX8_wind_144 ?_
                  refine g_topi (y := nI (if (sArr h so la ri (pa k) (wa k) lo 1 0 t).isSome then 10 - a - b else 0)) (by first | rw [if_pos (isSome_t h131)] | rw [if_neg (by rw [isSome_f h131]; simp)]) ?_
                  have qh131 : (if (sArr h so la ri (pa k) (wa k) lo 1 0 t).isSome then 10 - a - b else 0) ≤ 10 := by split <;> omega
                  refine g_istore (lv' := [(8, .int (nI (if (sArr h so la ri (pa k) (wa k) lo 1 0 t).isSome then 10 - a - b else 0))), (7, .int (nI (if (sArr h so la ri (pa k) (wa k) (min 40 (lo + 1)) 1 0 t).isSome then b else 0))), (6, .int (nI (if (sArr h so la ri (pa k) (wa k) (lo - 1) 1 0 t).isSome then a else 0))), (0, .ref 0), (1, .int (nI k)), (2, .int (nI t)), (3, .int (nI a)), (4, .int (nI b)), (5, .int (nI up))]) dX8_wind_145 (by decide) rfl ?_
                  refine g_iload (j := 2) dX8_wind_147 rfl ?_
                  refine g_iload (j := 1) dX8_wind_149 rfl ?_
                  refine n_iadd (a := (if (sArr h so la ri (pa k) (wa k) (lo - 1) 1 0 t).isSome then a else 0)) (b := (if (sArr h so la ri (pa k) (wa k) (min 40 (lo + 1)) 1 0 t).isSome then b else 0)) dX8_wind_151 ?_
                  refine g_iload (j := 0) dX8_wind_152 rfl ?_
                  refine n_iadd (a := ((if (sArr h so la ri (pa k) (wa k) (lo - 1) 1 0 t).isSome then a else 0) + (if (sArr h so la ri (pa k) (wa k) (min 40 (lo + 1)) 1 0 t).isSome then b else 0))) (b := (if (sArr h so la ri (pa k) (wa k) lo 1 0 t).isSome then 10 - a - b else 0)) dX8_wind_154 ?_
                  refine g_i2l (v := lN (((if (sArr h so la ri (pa k) (wa k) (lo - 1) 1 0 t).isSome then a else 0) + (if (sArr h so la ri (pa k) (wa k) (min 40 (lo + 1)) 1 0 t).isSome then b else 0)) + (if (sArr h so la ri (pa k) (wa k) lo 1 0 t).isSome then 10 - a - b else 0))) dX8_wind_155 (nI_l (by omega)) ?_
                  refine g_ldc2 clX8_227 dX8_wind_156 ?_
                  refine g_st (st' := [.long (lN 10), .long (lN (((if (sArr h so la ri (pa k) (wa k) (lo - 1) 1 0 t).isSome then a else 0) + (if (sArr h so la ri (pa k) (wa k) (min 40 (lo + 1)) 1 0 t).isSome then b else 0)) + (if (sArr h so la ri (pa k) (wa k) lo 1 0 t).isSome then 10 - a - b else 0)))]) rfl ?_
                  refine g_iload (j := 8) dX8_wind_159 rfl ?_
                  refine c_S (st1 := [.int (nI (sTold (((if (sArr h so la ri (pa k) (wa k) (lo - 1) 1 0 t).isSome then a else 0) + (if (sArr h so la ri (pa k) (wa k) (min 40 (lo + 1)) 1 0 t).isSome then b else 0)) + (if (sArr h so la ri (pa k) (wa k) lo 1 0 t).isSome then 10 - a - b else 0)) 10 up))]) (ctX8_fraction (a := ((if (sArr h so la ri (pa k) (wa k) (lo - 1) 1 0 t).isSome then a else 0) + (if (sArr h so la ri (pa k) (wa k) (min 40 (lo + 1)) 1 0 t).isSome then b else 0)) + (if (sArr h so la ri (pa k) (wa k) lo 1 0 t).isSome then 10 - a - b else 0)) (b := 10) (u := up) (by omega) (by omega) (by omega) (by omega)) kX8_fraction lX8_234 (by decide) rfl (by exact Nat.le_of_ble_eq_true rfl) dX8_wind_161 rfl rfl ?_
                  refine g_iret rfl rfl dX8_wind_164 ?_
                  refine ⟨?_, _, _, _, rfl⟩
                  unfold pWind
                  rw [if_pos ik, if_pos (c := iW (nI t) 41 ∧ tenP (nI a) (nI b)) ⟨h24, Decidable.not_not.mp h33⟩, ek, cN_n (k := t) (by omega), cN_n (k := a) (by omega), cN_n (k := b) (by omega)]
                  rfl
                · replace h131 := (sArr_ne (by omega)).mp h131
                  refine g_iconst (v := nI 0) dX8_wind_134 (by decide) ?_
                  refine g_goto (tgt := 145) dX8_wind_135 (by decide) ?_
                  refine g_topi (y := nI (if (sArr h so la ri (pa k) (wa k) lo 1 0 t).isSome then 10 - a - b else 0)) (by first | rw [if_pos (isSome_t h131)] | rw [if_neg (by rw [isSome_f h131]; simp)]) ?_
                  have qh131 : (if (sArr h so la ri (pa k) (wa k) lo 1 0 t).isSome then 10 - a - b else 0) ≤ 10 := by split <;> omega
                  refine g_istore (lv' := [(8, .int (nI (if (sArr h so la ri (pa k) (wa k) lo 1 0 t).isSome then 10 - a - b else 0))), (7, .int (nI (if (sArr h so la ri (pa k) (wa k) (min 40 (lo + 1)) 1 0 t).isSome then b else 0))), (6, .int (nI (if (sArr h so la ri (pa k) (wa k) (lo - 1) 1 0 t).isSome then a else 0))), (0, .ref 0), (1, .int (nI k)), (2, .int (nI t)), (3, .int (nI a)), (4, .int (nI b)), (5, .int (nI up))]) dX8_wind_145 (by decide) rfl ?_
                  refine g_iload (j := 2) dX8_wind_147 rfl ?_
                  refine g_iload (j := 1) dX8_wind_149 rfl ?_
                  refine n_iadd (a := (if (sArr h so la ri (pa k) (wa k) (lo - 1) 1 0 t).isSome then a else 0)) (b := (if (sArr h so la ri (pa k) (wa k) (min 40 (lo + 1)) 1 0 t).isSome then b else 0)) dX8_wind_151 ?_
                  refine g_iload (j := 0) dX8_wind_152 rfl ?_
                  refine n_iadd (a := ((if (sArr h so la ri (pa k) (wa k) (lo - 1) 1 0 t).isSome then a else 0) + (if (sArr h so la ri (pa k) (wa k) (min 40 (lo + 1)) 1 0 t).isSome then b else 0))) (b := (if (sArr h so la ri (pa k) (wa k) lo 1 0 t).isSome then 10 - a - b else 0)) dX8_wind_154 ?_
                  refine g_i2l (v := lN (((if (sArr h so la ri (pa k) (wa k) (lo - 1) 1 0 t).isSome then a else 0) + (if (sArr h so la ri (pa k) (wa k) (min 40 (lo + 1)) 1 0 t).isSome then b else 0)) + (if (sArr h so la ri (pa k) (wa k) lo 1 0 t).isSome then 10 - a - b else 0))) dX8_wind_155 (nI_l (by omega)) ?_
                  refine g_ldc2 clX8_227 dX8_wind_156 ?_
                  refine g_st (st' := [.long (lN 10), .long (lN (((if (sArr h so la ri (pa k) (wa k) (lo - 1) 1 0 t).isSome then a else 0) + (if (sArr h so la ri (pa k) (wa k) (min 40 (lo + 1)) 1 0 t).isSome then b else 0)) + (if (sArr h so la ri (pa k) (wa k) lo 1 0 t).isSome then 10 - a - b else 0)))]) rfl ?_
                  refine g_iload (j := 8) dX8_wind_159 rfl ?_
                  refine c_S (st1 := [.int (nI (sTold (((if (sArr h so la ri (pa k) (wa k) (lo - 1) 1 0 t).isSome then a else 0) + (if (sArr h so la ri (pa k) (wa k) (min 40 (lo + 1)) 1 0 t).isSome then b else 0)) + (if (sArr h so la ri (pa k) (wa k) lo 1 0 t).isSome then 10 - a - b else 0)) 10 up))]) (ctX8_fraction (a := ((if (sArr h so la ri (pa k) (wa k) (lo - 1) 1 0 t).isSome then a else 0) + (if (sArr h so la ri (pa k) (wa k) (min 40 (lo + 1)) 1 0 t).isSome then b else 0)) + (if (sArr h so la ri (pa k) (wa k) lo 1 0 t).isSome then 10 - a - b else 0)) (b := 10) (u := up) (by omega) (by omega) (by omega) (by omega)) kX8_fraction lX8_234 (by decide) rfl (by exact Nat.le_of_ble_eq_true rfl) dX8_wind_161 rfl rfl ?_
                  refine g_iret rfl rfl dX8_wind_164 ?_
                  refine ⟨?_, _, _, _, rfl⟩
                  unfold pWind
                  rw [if_pos ik, if_pos (c := iW (nI t) 41 ∧ tenP (nI a) (nI b)) ⟨h24, Decidable.not_not.mp h33⟩, ek, cN_n (k := t) (by omega), cN_n (k := a) (by omega), cN_n (k := b) (by omega)]
                  rfl
              · replace h106 := (sArr_ne (by omega)).mp h106
                refine g_iconst (v := nI 0) dX8_wind_109 (by decide) ?_
                refine g_goto (tgt := 115) dX8_wind_110 (by decide) ?_
                refine g_topi (y := nI (if (sArr h so la ri (pa k) (wa k) (min 40 (lo + 1)) 1 0 t).isSome then b else 0)) (by first | rw [if_pos (isSome_t h106)] | rw [if_neg (by rw [isSome_f h106]; simp)]) ?_
                have qh106 : (if (sArr h so la ri (pa k) (wa k) (min 40 (lo + 1)) 1 0 t).isSome then b else 0) ≤ 10 := by split <;> omega
                refine g_istore (lv' := [(7, .int (nI (if (sArr h so la ri (pa k) (wa k) (min 40 (lo + 1)) 1 0 t).isSome then b else 0))), (6, .int (nI (if (sArr h so la ri (pa k) (wa k) (lo - 1) 1 0 t).isSome then a else 0))), (0, .ref 0), (1, .int (nI k)), (2, .int (nI t)), (3, .int (nI a)), (4, .int (nI b)), (5, .int (nI up))]) dX8_wind_115 (by decide) rfl ?_
                refine g_aload_n (i := 0) (j := 2) dX8_wind_117 rfl rfl ?_
                refine g_iload_n (i := 1) (j := 3) dX8_wind_118 rfl rfl ?_
                refine g_iconst (v := nI 0) dX8_wind_119 (by decide) ?_
                refine g_iload_n (i := 2) (j := 4) dX8_wind_120 rfl rfl ?_
                refine g_iconst (v := nI 1) dX8_wind_121 (by decide) ?_
                refine g_aload_n (i := 0) (j := 2) dX8_wind_122 rfl rfl ?_
                refine g_get fX8_139 rfl rfl dX8_wind_123 ?_
                refine g_callV (rest := []) (ctX8_goneOf (w := k) (c := 0) (s := t) (way := 1) (at0 := lo) hH hpa hwa (by omega) (by omega) hS (by first | omega | assumption | exact hpa _ | exact hwa _ | exact hr1 _ (by omega) | exact hr6 _ (by omega) | exact hr11 _ (by omega) | exact hr _ | exact Nat.le_succ_of_le (hr _) | (apply sTo_le; first | omega | exact hr1 _ (by omega))) (by first | omega | assumption | exact hpa _ | exact hwa _ | exact hr1 _ (by omega) | exact hr6 _ (by omega) | exact hr11 _ (by omega) | exact hr _ | exact Nat.le_succ_of_le (hr _) | (apply sTo_le; first | omega | exact hr1 _ (by omega))) (by first | omega | assumption | exact hpa _ | exact hwa _ | exact hr1 _ (by omega) | exact hr6 _ (by omega) | exact hr11 _ (by omega) | exact hr _ | exact Nat.le_succ_of_le (hr _) | (apply sTo_le; first | omega | exact hr1 _ (by omega))) (by first | omega | assumption | exact hpa _ | exact hwa _ | exact hr1 _ (by omega) | exact hr6 _ (by omega) | exact hr11 _ (by omega) | exact hr _ | exact Nat.le_succ_of_le (hr _) | (apply sTo_le; first | omega | exact hr1 _ (by omega))) (by first | omega | assumption | exact hpa _ | exact hwa _ | exact hr1 _ (by omega) | exact hr6 _ (by omega) | exact hr11 _ (by omega) | exact hr _ | exact Nat.le_succ_of_le (hr _) | (apply sTo_le; first | omega | exact hr1 _ (by omega))) (by first | omega | assumption | exact hpa _ | exact hwa _ | exact hr1 _ (by omega) | exact hr6 _ (by omega) | exact hr11 _ (by omega) | exact hr _ | exact Nat.le_succ_of_le (hr _) | (apply sTo_le; first | omega | exact hr1 _ (by omega)))) kX8_goneOf lX8_205 (by decide) rfl rfl rfl rfl (by exact Nat.le_of_ble_eq_true rfl) dX8_wind_126 rfl (fun v u hvu => ?_)
                obtain ⟨rfl, ce126, sa126, ti126, rfl⟩ := hvu
                refine g_st (st' := [.int (rO (sArr h so la ri (pa k) (wa k) lo 1 0 t))]) rfl ?_
                refine g_bipush (v := (-9)) dX8_wind_129 (by decide) ?_
                refine g_icmp_ne (tgt := 138) dX8_wind_131 (by decide) (fun h131 => ?_) (fun h131 => ?_)
                · replace h131 := fun z => h131 ((sArr_ne (by omega)).mpr z)
                  refine g_bipush (v := nI 10) dX8_wind_138 (by decide) ?_
                  refine g_iload_n (i := 3) (j := 5) dX8_wind_140 rfl rfl ?_
                  refine n_isub (a := 10) (b := a) (by omega) dX8_wind_141 ?_
                  refine g_iload (j := 6) dX8_wind_142 rfl ?_
                  refine n_isub (a := (10 - a)) (b := b) (by omega) dX8_wind_144 ?_
                  refine g_topi (y := nI (if (sArr h so la ri (pa k) (wa k) lo 1 0 t).isSome then 10 - a - b else 0)) (by first | rw [if_pos (isSome_t h131)] | rw [if_neg (by rw [isSome_f h131]; simp)]) ?_
                  have qh131 : (if (sArr h so la ri (pa k) (wa k) lo 1 0 t).isSome then 10 - a - b else 0) ≤ 10 := by split <;> omega
                  refine g_istore (lv' := [(8, .int (nI (if (sArr h so la ri (pa k) (wa k) lo 1 0 t).isSome then 10 - a - b else 0))), (7, .int (nI (if (sArr h so la ri (pa k) (wa k) (min 40 (lo + 1)) 1 0 t).isSome then b else 0))), (6, .int (nI (if (sArr h so la ri (pa k) (wa k) (lo - 1) 1 0 t).isSome then a else 0))), (0, .ref 0), (1, .int (nI k)), (2, .int (nI t)), (3, .int (nI a)), (4, .int (nI b)), (5, .int (nI up))]) dX8_wind_145 (by decide) rfl ?_
                  refine g_iload (j := 2) dX8_wind_147 rfl ?_
                  refine g_iload (j := 1) dX8_wind_149 rfl ?_
                  refine n_iadd (a := (if (sArr h so la ri (pa k) (wa k) (lo - 1) 1 0 t).isSome then a else 0)) (b := (if (sArr h so la ri (pa k) (wa k) (min 40 (lo + 1)) 1 0 t).isSome then b else 0)) dX8_wind_151 ?_
                  refine g_iload (j := 0) dX8_wind_152 rfl ?_
                  refine n_iadd (a := ((if (sArr h so la ri (pa k) (wa k) (lo - 1) 1 0 t).isSome then a else 0) + (if (sArr h so la ri (pa k) (wa k) (min 40 (lo + 1)) 1 0 t).isSome then b else 0))) (b := (if (sArr h so la ri (pa k) (wa k) lo 1 0 t).isSome then 10 - a - b else 0)) dX8_wind_154 ?_
                  refine g_i2l (v := lN (((if (sArr h so la ri (pa k) (wa k) (lo - 1) 1 0 t).isSome then a else 0) + (if (sArr h so la ri (pa k) (wa k) (min 40 (lo + 1)) 1 0 t).isSome then b else 0)) + (if (sArr h so la ri (pa k) (wa k) lo 1 0 t).isSome then 10 - a - b else 0))) dX8_wind_155 (nI_l (by omega)) ?_
                  refine g_ldc2 clX8_227 dX8_wind_156 ?_
                  refine g_st (st' := [.long (lN 10), .long (lN (((if (sArr h so la ri (pa k) (wa k) (lo - 1) 1 0 t).isSome then a else 0) + (if (sArr h so la ri (pa k) (wa k) (min 40 (lo + 1)) 1 0 t).isSome then b else 0)) + (if (sArr h so la ri (pa k) (wa k) lo 1 0 t).isSome then 10 - a - b else 0)))]) rfl ?_
                  refine g_iload (j := 8) dX8_wind_159 rfl ?_
                  refine c_S (st1 := [.int (nI (sTold (((if (sArr h so la ri (pa k) (wa k) (lo - 1) 1 0 t).isSome then a else 0) + (if (sArr h so la ri (pa k) (wa k) (min 40 (lo + 1)) 1 0 t).isSome then b else 0)) + (if (sArr h so la ri (pa k) (wa k) lo 1 0 t).isSome then 10 - a - b else 0)) 10 up))]) (ctX8_fraction (a := ((if (sArr h so la ri (pa k) (wa k) (lo - 1) 1 0 t).isSome then a else 0) + (if (sArr h so la ri (pa k) (wa k) (min 40 (lo + 1)) 1 0 t).isSome then b else 0)) + (if (sArr h so la ri (pa k) (wa k) lo 1 0 t).isSome then 10 - a - b else 0)) (b := 10) (u := up) (by omega) (by omega) (by omega) (by omega)) kX8_fraction lX8_234 (by decide) rfl (by exact Nat.le_of_ble_eq_true rfl) dX8_wind_161 rfl rfl ?_
                  refine g_iret rfl rfl dX8_wind_164 ?_
                  refine ⟨?_, _, _, _, rfl⟩
                  unfold pWind
                  rw [if_pos ik, if_pos (c := iW (nI t) 41 ∧ tenP (nI a) (nI b)) ⟨h24, Decidable.not_not.mp h33⟩, ek, cN_n (k := t) (by omega), cN_n (k := a) (by omega), cN_n (k := b) (by omega)]
                  rfl
                · replace h131 := (sArr_ne (by omega)).mp h131
                  refine g_iconst (v := nI 0) dX8_wind_134 (by decide) ?_
                  refine g_goto (tgt := 145) dX8_wind_135 (by decide) ?_
                  refine g_topi (y := nI (if (sArr h so la ri (pa k) (wa k) lo 1 0 t).isSome then 10 - a - b else 0)) (by first | rw [if_pos (isSome_t h131)] | rw [if_neg (by rw [isSome_f h131]; simp)]) ?_
                  have qh131 : (if (sArr h so la ri (pa k) (wa k) lo 1 0 t).isSome then 10 - a - b else 0) ≤ 10 := by split <;> omega
                  refine g_istore (lv' := [(8, .int (nI (if (sArr h so la ri (pa k) (wa k) lo 1 0 t).isSome then 10 - a - b else 0))), (7, .int (nI (if (sArr h so la ri (pa k) (wa k) (min 40 (lo + 1)) 1 0 t).isSome then b else 0))), (6, .int (nI (if (sArr h so la ri (pa k) (wa k) (lo - 1) 1 0 t).isSome then a else 0))), (0, .ref 0), (1, .int (nI k)), (2, .int (nI t)), (3, .int (nI a)), (4, .int (nI b)), (5, .int (nI up))]) dX8_wind_145 (by decide) rfl ?_
                  refine g_iload (j := 2) dX8_wind_147 rfl ?_
                  refine g_iload (j := 1) dX8_wind_149 rfl ?_
                  refine n_iadd (a := (if (sArr h so la ri (pa k) (wa k) (lo - 1) 1 0 t).isSome then a else 0)) (b := (if (sArr h so la ri (pa k) (wa k) (min 40 (lo + 1)) 1 0 t).isSome then b else 0)) dX8_wind_151 ?_
                  refine g_iload (j := 0) dX8_wind_152 rfl ?_
                  refine n_iadd (a := ((if (sArr h so la ri (pa k) (wa k) (lo - 1) 1 0 t).isSome then a else 0) + (if (sArr h so la ri (pa k) (wa k) (min 40 (lo + 1)) 1 0 t).isSome then b else 0))) (b := (if (sArr h so la ri (pa k) (wa k) lo 1 0 t).isSome then 10 - a - b else 0)) dX8_wind_154 ?_
                  refine g_i2l (v := lN (((if (sArr h so la ri (pa k) (wa k) (lo - 1) 1 0 t).isSome then a else 0) + (if (sArr h so la ri (pa k) (wa k) (min 40 (lo + 1)) 1 0 t).isSome then b else 0)) + (if (sArr h so la ri (pa k) (wa k) lo 1 0 t).isSome then 10 - a - b else 0))) dX8_wind_155 (nI_l (by omega)) ?_
                  refine g_ldc2 clX8_227 dX8_wind_156 ?_
                  refine g_st (st' := [.long (lN 10), .long (lN (((if (sArr h so la ri (pa k) (wa k) (lo - 1) 1 0 t).isSome then a else 0) + (if (sArr h so la ri (pa k) (wa k) (min 40 (lo + 1)) 1 0 t).isSome then b else 0)) + (if (sArr h so la ri (pa k) (wa k) lo 1 0 t).isSome then 10 - a - b else 0)))]) rfl ?_
                  refine g_iload (j := 8) dX8_wind_159 rfl ?_
                  refine c_S (st1 := [.int (nI (sTold (((if (sArr h so la ri (pa k) (wa k) (lo - 1) 1 0 t).isSome then a else 0) + (if (sArr h so la ri (pa k) (wa k) (min 40 (lo + 1)) 1 0 t).isSome then b else 0)) + (if (sArr h so la ri (pa k) (wa k) lo 1 0 t).isSome then 10 - a - b else 0)) 10 up))]) (ctX8_fraction (a := ((if (sArr h so la ri (pa k) (wa k) (lo - 1) 1 0 t).isSome then a else 0) + (if (sArr h so la ri (pa k) (wa k) (min 40 (lo + 1)) 1 0 t).isSome then b else 0)) + (if (sArr h so la ri (pa k) (wa k) lo 1 0 t).isSome then 10 - a - b else 0)) (b := 10) (u := up) (by omega) (by omega) (by omega) (by omega)) kX8_fraction lX8_234 (by decide) rfl (by exact Nat.le_of_ble_eq_true rfl) dX8_wind_161 rfl rfl ?_
                  refine g_iret rfl rfl dX8_wind_164 ?_
                  refine ⟨?_, _, _, _, rfl⟩
                  unfold pWind
                  rw [if_pos ik, if_pos (c := iW (nI t) 41 ∧ tenP (nI a) (nI b)) ⟨h24, Decidable.not_not.mp h33⟩, ek, cN_n (k := t) (by omega), cN_n (k := a) (by omega), cN_n (k := b) (by omega)]
                  rfl
          · replace h66 := (sArr_ne (by omega)).mp h66
            refine g_iconst (v := nI 0) dX8_wind_69 (by decide) ?_
            refine g_goto (tgt := 74) dX8_wind_70 (by decide) ?_
            refine g_topi (y := nI (if (sArr h so la ri (pa k) (wa k) (lo - 1) 1 0 t).isSome then a else 0)) (by first | rw [if_pos (isSome_t h66)] | rw [if_neg (by rw [isSome_f h66]; simp)]) ?_
            have qh66 : (if (sArr h so la ri (pa k) (wa k) (lo - 1) 1 0 t).isSome then a else 0) ≤ 10 := by split <;> omega
            refine g_istore (lv' := [(6, .int (nI (if (sArr h so la ri (pa k) (wa k) (lo - 1) 1 0 t).isSome then a else 0))), (0, .ref 0), (1, .int (nI k)), (2, .int (nI t)), (3, .int (nI a)), (4, .int (nI b)), (5, .int (nI up))]) dX8_wind_74 (by decide) rfl ?_
            refine g_aload_n (i := 0) (j := 1) dX8_wind_76 rfl rfl ?_
            refine g_iload_n (i := 1) (j := 2) dX8_wind_77 rfl rfl ?_
            refine g_iconst (v := nI 0) dX8_wind_78 (by decide) ?_
            refine g_iload_n (i := 2) (j := 3) dX8_wind_79 rfl rfl ?_
            refine g_iconst (v := nI 1) dX8_wind_80 (by decide) ?_
            refine g_aload_n (i := 0) (j := 1) dX8_wind_81 rfl rfl ?_
            refine g_get fX8_139 rfl rfl dX8_wind_82 ?_
            refine g_bipush (v := nI 40) dX8_wind_85 (by decide) ?_
            refine n_icmp_ne (tgt := 95) (by omega) (rng_lit 40 rfl) dX8_wind_87 (by decide) (fun h87 => ?_) (fun h87 => ?_)
            · refine g_aload_n (i := 0) (j := 1) dX8_wind_95 rfl rfl ?_
              refine g_get fX8_139 rfl rfl dX8_wind_96 ?_
              refine g_iconst (v := nI 1) dX8_wind_99 (by decide) ?_
              refine n_iadd (a := lo) (b := 1) dX8_wind_100 ?_
              refine g_topi (y := nI (min 40 (lo + 1))) (congrArg nI (by omega)) ?_
              refine g_callV (rest := []) (ctX8_goneOf (w := k) (c := 0) (s := t) (way := 1) (at0 := min 40 (lo + 1)) hH hpa hwa (by omega) (by omega) hS (by first | omega | assumption | exact hpa _ | exact hwa _ | exact hr1 _ (by omega) | exact hr6 _ (by omega) | exact hr11 _ (by omega) | exact hr _ | exact Nat.le_succ_of_le (hr _) | (apply sTo_le; first | omega | exact hr1 _ (by omega))) (by first | omega | assumption | exact hpa _ | exact hwa _ | exact hr1 _ (by omega) | exact hr6 _ (by omega) | exact hr11 _ (by omega) | exact hr _ | exact Nat.le_succ_of_le (hr _) | (apply sTo_le; first | omega | exact hr1 _ (by omega))) (by first | omega | assumption | exact hpa _ | exact hwa _ | exact hr1 _ (by omega) | exact hr6 _ (by omega) | exact hr11 _ (by omega) | exact hr _ | exact Nat.le_succ_of_le (hr _) | (apply sTo_le; first | omega | exact hr1 _ (by omega))) (by first | omega | assumption | exact hpa _ | exact hwa _ | exact hr1 _ (by omega) | exact hr6 _ (by omega) | exact hr11 _ (by omega) | exact hr _ | exact Nat.le_succ_of_le (hr _) | (apply sTo_le; first | omega | exact hr1 _ (by omega))) (by first | omega | assumption | exact hpa _ | exact hwa _ | exact hr1 _ (by omega) | exact hr6 _ (by omega) | exact hr11 _ (by omega) | exact hr _ | exact Nat.le_succ_of_le (hr _) | (apply sTo_le; first | omega | exact hr1 _ (by omega))) (by first | omega | assumption | exact hpa _ | exact hwa _ | exact hr1 _ (by omega) | exact hr6 _ (by omega) | exact hr11 _ (by omega) | exact hr _ | exact Nat.le_succ_of_le (hr _) | (apply sTo_le; first | omega | exact hr1 _ (by omega)))) kX8_goneOf lX8_205 (by decide) rfl rfl rfl rfl (by exact Nat.le_of_ble_eq_true rfl) dX8_wind_101 rfl (fun v u hvu => ?_)
              obtain ⟨rfl, ce101, sa101, ti101, rfl⟩ := hvu
              refine g_st (st' := [.int (rO (sArr h so la ri (pa k) (wa k) (min 40 (lo + 1)) 1 0 t))]) rfl ?_
              refine g_bipush (v := (-9)) dX8_wind_104 (by decide) ?_
              refine g_icmp_ne (tgt := 113) dX8_wind_106 (by decide) (fun h106 => ?_) (fun h106 => ?_)
              · replace h106 := fun z => h106 ((sArr_ne (by omega)).mpr z)
                refine g_iload (j := 5) dX8_wind_113 rfl ?_
                refine g_topi (y := nI (if (sArr h so la ri (pa k) (wa k) (min 40 (lo + 1)) 1 0 t).isSome then b else 0)) (by first | rw [if_pos (isSome_t h106)] | rw [if_neg (by rw [isSome_f h106]; simp)]) ?_
                have qh106 : (if (sArr h so la ri (pa k) (wa k) (min 40 (lo + 1)) 1 0 t).isSome then b else 0) ≤ 10 := by split <;> omega
                refine g_istore (lv' := [(7, .int (nI (if (sArr h so la ri (pa k) (wa k) (min 40 (lo + 1)) 1 0 t).isSome then b else 0))), (6, .int (nI (if (sArr h so la ri (pa k) (wa k) (lo - 1) 1 0 t).isSome then a else 0))), (0, .ref 0), (1, .int (nI k)), (2, .int (nI t)), (3, .int (nI a)), (4, .int (nI b)), (5, .int (nI up))]) dX8_wind_115 (by decide) rfl ?_
                refine g_aload_n (i := 0) (j := 2) dX8_wind_117 rfl rfl ?_
                refine g_iload_n (i := 1) (j := 3) dX8_wind_118 rfl rfl ?_
                refine g_iconst (v := nI 0) dX8_wind_119 (by decide) ?_
                refine g_iload_n (i := 2) (j := 4) dX8_wind_120 rfl rfl ?_
                refine g_iconst (v := nI 1) dX8_wind_121 (by decide) ?_
                refine g_aload_n (i := 0) (j := 2) dX8_wind_122 rfl rfl ?_
                refine g_get fX8_139 rfl rfl dX8_wind_123 ?_
                refine g_callV (rest := []) (ctX8_goneOf (w := k) (c := 0) (s := t) (way := 1) (at0 := lo) hH hpa hwa (by omega) (by omega) hS (by first | omega | assumption | exact hpa _ | exact hwa _ | exact hr1 _ (by omega) | exact hr6 _ (by omega) | exact hr11 _ (by omega) | exact hr _ | exact Nat.le_succ_of_le (hr _) | (apply sTo_le; first | omega | exact hr1 _ (by omega))) (by first | omega | assumption | exact hpa _ | exact hwa _ | exact hr1 _ (by omega) | exact hr6 _ (by omega) | exact hr11 _ (by omega) | exact hr _ | exact Nat.le_succ_of_le (hr _) | (apply sTo_le; first | omega | exact hr1 _ (by omega))) (by first | omega | assumption | exact hpa _ | exact hwa _ | exact hr1 _ (by omega) | exact hr6 _ (by omega) | exact hr11 _ (by omega) | exact hr _ | exact Nat.le_succ_of_le (hr _) | (apply sTo_le; first | omega | exact hr1 _ (by omega))) (by first | omega | assumption | exact hpa _ | exact hwa _ | exact hr1 _ (by omega) | exact hr6 _ (by omega) | exact hr11 _ (by omega) | exact hr _ | exact Nat.le_succ_of_le (hr _) | (apply sTo_le; first | omega | exact hr1 _ (by omega))) (by first | omega | assumption | exact hpa _ | exact hwa _ | exact hr1 _ (by omega) | exact hr6 _ (by omega) | exact hr11 _ (by omega) | exact hr _ | exact Nat.le_succ_of_le (hr _) | (apply sTo_le; first | omega | exact hr1 _ (by omega))) (by first | omega | assumption | exact hpa _ | exact hwa _ | exact hr1 _ (by omega) | exact hr6 _ (by omega) | exact hr11 _ (by omega) | exact hr _ | exact Nat.le_succ_of_le (hr _) | (apply sTo_le; first | omega | exact hr1 _ (by omega)))) kX8_goneOf lX8_205 (by decide) rfl rfl rfl rfl (by exact Nat.le_of_ble_eq_true rfl) dX8_wind_126 rfl (fun v u hvu => ?_)
                obtain ⟨rfl, ce126, sa126, ti126, rfl⟩ := hvu
                refine g_st (st' := [.int (rO (sArr h so la ri (pa k) (wa k) lo 1 0 t))]) rfl ?_
                refine g_bipush (v := (-9)) dX8_wind_129 (by decide) ?_
                refine g_icmp_ne (tgt := 138) dX8_wind_131 (by decide) (fun h131 => ?_) (fun h131 => ?_)
                · replace h131 := fun z => h131 ((sArr_ne (by omega)).mpr z)
                  refine g_bipush (v := nI 10) dX8_wind_138 (by decide) ?_
                  refine g_iload_n (i := 3) (j := 5) dX8_wind_140 rfl rfl ?_
                  refine n_isub (a := 10) (b := a) (by omega) dX8_wind_141 ?_
                  refine g_iload (j := 6) dX8_wind_142 rfl ?_
                  refine n_isub (a := (10 - a)) (b := b) (by omega) dX8_wind_144 ?_
                  refine g_topi (y := nI (if (sArr h so la ri (pa k) (wa k) lo 1 0 t).isSome then 10 - a - b else 0)) (by first | rw [if_pos (isSome_t h131)] | rw [if_neg (by rw [isSome_f h131]; simp)]) ?_
                  have qh131 : (if (sArr h so la ri (pa k) (wa k) lo 1 0 t).isSome then 10 - a - b else 0) ≤ 10 := by split <;> omega
                  refine g_istore (lv' := [(8, .int (nI (if (sArr h so la ri (pa k) (wa k) lo 1 0 t).isSome then 10 - a - b else 0))), (7, .int (nI (if (sArr h so la ri (pa k) (wa k) (min 40 (lo + 1)) 1 0 t).isSome then b else 0))), (6, .int (nI (if (sArr h so la ri (pa k) (wa k) (lo - 1) 1 0 t).isSome then a else 0))), (0, .ref 0), (1, .int (nI k)), (2, .int (nI t)), (3, .int (nI a)), (4, .int (nI b)), (5, .int (nI up))]) dX8_wind_145 (by decide) rfl ?_
                  refine g_iload (j := 2) dX8_wind_147 rfl ?_
                  refine g_iload (j := 1) dX8_wind_149 rfl ?_
                  refine n_iadd (a := (if (sArr h so la ri (pa k) (wa k) (lo - 1) 1 0 t).isSome then a else 0)) (b := (if (sArr h so la ri (pa k) (wa k) (min 40 (lo + 1)) 1 0 t).isSome then b else 0)) dX8_wind_151 ?_
                  refine g_iload (j := 0) dX8_wind_152 rfl ?_
                  refine n_iadd (a := ((if (sArr h so la ri (pa k) (wa k) (lo - 1) 1 0 t).isSome then a else 0) + (if (sArr h so la ri (pa k) (wa k) (min 40 (lo + 1)) 1 0 t).isSome then b else 0))) (b := (if (sArr h so la ri (pa k) (wa k) lo 1 0 t).isSome then 10 - a - b else 0)) dX8_wind_154 ?_
                  refine g_i2l (v := lN (((if (sArr h so la ri (pa k) (wa k) (lo - 1) 1 0 t).isSome then a else 0) + (if (sArr h so la ri (pa k) (wa k) (min 40 (lo + 1)) 1 0 t).isSome then b else 0)) + (if (sArr h so la ri (pa k) (wa k) lo 1 0 t).isSome then 10 - a - b else 0))) dX8_wind_155 (nI_l (by omega)) ?_
                  refine g_ldc2 clX8_227 dX8_wind_156 ?_
                  refine g_st (st' := [.long (lN 10), .long (lN (((if (sArr h so la ri (pa k) (wa k) (lo - 1) 1 0 t).isSome then a else 0) + (if (sArr h so la ri (pa k) (wa k) (min 40 (lo + 1)) 1 0 t).isSome then b else 0)) + (if (sArr h so la ri (pa k) (wa k) lo 1 0 t).isSome then 10 - a - b else 0)))]) rfl ?_
                  refine g_iload (j := 8) dX8_wind_159 rfl ?_
                  refine c_S (st1 := [.int (nI (sTold (((if (sArr h so la ri (pa k) (wa k) (lo - 1) 1 0 t).isSome then a else 0) + (if (sArr h so la ri (pa k) (wa k) (min 40 (lo + 1)) 1 0 t).isSome then b else 0)) + (if (sArr h so la ri (pa k) (wa k) lo 1 0 t).isSome then 10 - a - b else 0)) 10 up))]) (ctX8_fraction (a := ((if (sArr h so la ri (pa k) (wa k) (lo - 1) 1 0 t).isSome then a else 0) + (if (sArr h so la ri (pa k) (wa k) (min 40 (lo + 1)) 1 0 t).isSome then b else 0)) + (if (sArr h so la ri (pa k) (wa k) lo 1 0 t).isSome then 10 - a - b else 0)) (b := 10) (u := up) (by omega) (by omega) (by omega) (by omega)) kX8_fraction lX8_234 (by decide) rfl (by exact Nat.le_of_ble_eq_true rfl) dX8_wind_161 rfl rfl ?_
                  refine g_iret rfl rfl dX8_wind_164 ?_
                  refine ⟨?_, _, _, _, rfl⟩
                  unfold pWind
                  rw [if_pos ik, if_pos (c := iW (nI t) 41 ∧ tenP (nI a) (nI b)) ⟨h24, Decidable.not_not.mp h33⟩, ek, cN_n (k := t) (by omega), cN_n (k := a) (by omega), cN_n (k := b) (by omega)]
                  rfl
                · replace h131 := (sArr_ne (by omega)).mp h131
                  refine g_iconst (v := nI 0) dX8_wind_134 (by decide) ?_
                  refine g_goto (tgt := 145) dX8_wind_135 (by decide) ?_
                  refine g_topi (y := nI (if (sArr h so la ri (pa k) (wa k) lo 1 0 t).isSome then 10 - a - b else 0)) (by first | rw [if_pos (isSome_t h131)] | rw [if_neg (by rw [isSome_f h131]; simp)]) ?_
                  have qh131 : (if (sArr h so la ri (pa k) (wa k) lo 1 0 t).isSome then 10 - a - b else 0) ≤ 10 := by split <;> omega
                  refine g_istore (lv' := [(8, .int (nI (if (sArr h so la ri (pa k) (wa k) lo 1 0 t).isSome then 10 - a - b else 0))), (7, .int (nI (if (sArr h so la ri (pa k) (wa k) (min 40 (lo + 1)) 1 0 t).isSome then b else 0))), (6, .int (nI (if (sArr h so la ri (pa k) (wa k) (lo - 1) 1 0 t).isSome then a else 0))), (0, .ref 0), (1, .int (nI k)), (2, .int (nI t)), (3, .int (nI a)), (4, .int (nI b)), (5, .int (nI up))]) dX8_wind_145 (by decide) rfl ?_
                  refine g_iload (j := 2) dX8_wind_147 rfl ?_
                  refine g_iload (j := 1) dX8_wind_149 rfl ?_
                  refine n_iadd (a := (if (sArr h so la ri (pa k) (wa k) (lo - 1) 1 0 t).isSome then a else 0)) (b := (if (sArr h so la ri (pa k) (wa k) (min 40 (lo + 1)) 1 0 t).isSome then b else 0)) dX8_wind_151 ?_
                  refine g_iload (j := 0) dX8_wind_152 rfl ?_
                  refine n_iadd (a := ((if (sArr h so la ri (pa k) (wa k) (lo - 1) 1 0 t).isSome then a else 0) + (if (sArr h so la ri (pa k) (wa k) (min 40 (lo + 1)) 1 0 t).isSome then b else 0))) (b := (if (sArr h so la ri (pa k) (wa k) lo 1 0 t).isSome then 10 - a - b else 0)) dX8_wind_154 ?_
                  refine g_i2l (v := lN (((if (sArr h so la ri (pa k) (wa k) (lo - 1) 1 0 t).isSome then a else 0) + (if (sArr h so la ri (pa k) (wa k) (min 40 (lo + 1)) 1 0 t).isSome then b else 0)) + (if (sArr h so la ri (pa k) (wa k) lo 1 0 t).isSome then 10 - a - b else 0))) dX8_wind_155 (nI_l (by omega)) ?_
                  refine g_ldc2 clX8_227 dX8_wind_156 ?_
                  refine g_st (st' := [.long (lN 10), .long (lN (((if (sArr h so la ri (pa k) (wa k) (lo - 1) 1 0 t).isSome then a else 0) + (if (sArr h so la ri (pa k) (wa k) (min 40 (lo + 1)) 1 0 t).isSome then b else 0)) + (if (sArr h so la ri (pa k) (wa k) lo 1 0 t).isSome then 10 - a - b else 0)))]) rfl ?_
                  refine g_iload (j := 8) dX8_wind_159 rfl ?_
                  refine c_S (st1 := [.int (nI (sTold (((if (sArr h so la ri (pa k) (wa k) (lo - 1) 1 0 t).isSome then a else 0) + (if (sArr h so la ri (pa k) (wa k) (min 40 (lo + 1)) 1 0 t).isSome then b else 0)) + (if (sArr h so la ri (pa k) (wa k) lo 1 0 t).isSome then 10 - a - b else 0)) 10 up))]) (ctX8_fraction (a := ((if (sArr h so la ri (pa k) (wa k) (lo - 1) 1 0 t).isSome then a else 0) + (if (sArr h so la ri (pa k) (wa k) (min 40 (lo + 1)) 1 0 t).isSome then b else 0)) + (if (sArr h so la ri (pa k) (wa k) lo 1 0 t).isSome then 10 - a - b else 0)) (b := 10) (u := up) (by omega) (by omega) (by omega) (by omega)) kX8_fraction lX8_234 (by decide) rfl (by exact Nat.le_of_ble_eq_true rfl) dX8_wind_161 rfl rfl ?_
                  refine g_iret rfl rfl dX8_wind_164 ?_
                  refine ⟨?_, _, _, _, rfl⟩
                  unfold pWind
                  rw [if_pos ik, if_pos (c := iW (nI t) 41 ∧ tenP (nI a) (nI b)) ⟨h24, Decidable.not_not.mp h33⟩, ek, cN_n (k := t) (by omega), cN_n (k := a) (by omega), cN_n (k := b) (by omega)]
                  rfl
              · replace h106 := (sArr_ne (by omega)).mp h106
                refine g_iconst (v := nI 0) dX8_wind_109 (by decide) ?_
                refine g_goto (tgt := 115) dX8_wind_110 (by decide) ?_
                refine g_topi (y := nI (if (sArr h so la ri (pa k) (wa k) (min 40 (lo + 1)) 1 0 t).isSome then b else 0)) (by first | rw [if_pos (isSome_t h106)] | rw [if_neg (by rw [isSome_f h106]; simp)]) ?_
                have qh106 : (if (sArr h so la ri (pa k) (wa k) (min 40 (lo + 1)) 1 0 t).isSome then b else 0) ≤ 10 := by split <;> omega
                refine g_istore (lv' := [(7, .int (nI (if (sArr h so la ri (pa k) (wa k) (min 40 (lo + 1)) 1 0 t).isSome then b else 0))), (6, .int (nI (if (sArr h so la ri (pa k) (wa k) (lo - 1) 1 0 t).isSome then a else 0))), (0, .ref 0), (1, .int (nI k)), (2, .int (nI t)), (3, .int (nI a)), (4, .int (nI b)), (5, .int (nI up))]) dX8_wind_115 (by decide) rfl ?_
                refine g_aload_n (i := 0) (j := 2) dX8_wind_117 rfl rfl ?_
                refine g_iload_n (i := 1) (j := 3) dX8_wind_118 rfl rfl ?_
                refine g_iconst (v := nI 0) dX8_wind_119 (by decide) ?_
                refine g_iload_n (i := 2) (j := 4) dX8_wind_120 rfl rfl ?_
                refine g_iconst (v := nI 1) dX8_wind_121 (by decide) ?_
                refine g_aload_n (i := 0) (j := 2) dX8_wind_122 rfl rfl ?_
                refine g_get fX8_139 rfl rfl dX8_wind_123 ?_
                refine g_callV (rest := []) (ctX8_goneOf (w := k) (c := 0) (s := t) (way := 1) (at0 := lo) hH hpa hwa (by omega) (by omega) hS (by first | omega | assumption | exact hpa _ | exact hwa _ | exact hr1 _ (by omega) | exact hr6 _ (by omega) | exact hr11 _ (by omega) | exact hr _ | exact Nat.le_succ_of_le (hr _) | (apply sTo_le; first | omega | exact hr1 _ (by omega))) (by first | omega | assumption | exact hpa _ | exact hwa _ | exact hr1 _ (by omega) | exact hr6 _ (by omega) | exact hr11 _ (by omega) | exact hr _ | exact Nat.le_succ_of_le (hr _) | (apply sTo_le; first | omega | exact hr1 _ (by omega))) (by first | omega | assumption | exact hpa _ | exact hwa _ | exact hr1 _ (by omega) | exact hr6 _ (by omega) | exact hr11 _ (by omega) | exact hr _ | exact Nat.le_succ_of_le (hr _) | (apply sTo_le; first | omega | exact hr1 _ (by omega))) (by first | omega | assumption | exact hpa _ | exact hwa _ | exact hr1 _ (by omega) | exact hr6 _ (by omega) | exact hr11 _ (by omega) | exact hr _ | exact Nat.le_succ_of_le (hr _) | (apply sTo_le; first | omega | exact hr1 _ (by omega))) (by first | omega | assumption | exact hpa _ | exact hwa _ | exact hr1 _ (by omega) | exact hr6 _ (by omega) | exact hr11 _ (by omega) | exact hr _ | exact Nat.le_succ_of_le (hr _) | (apply sTo_le; first | omega | exact hr1 _ (by omega))) (by first | omega | assumption | exact hpa _ | exact hwa _ | exact hr1 _ (by omega) | exact hr6 _ (by omega) | exact hr11 _ (by omega) | exact hr _ | exact Nat.le_succ_of_le (hr _) | (apply sTo_le; first | omega | exact hr1 _ (by omega)))) kX8_goneOf lX8_205 (by decide) rfl rfl rfl rfl (by exact Nat.le_of_ble_eq_true rfl) dX8_wind_126 rfl (fun v u hvu => ?_)
                obtain ⟨rfl, ce126, sa126, ti126, rfl⟩ := hvu
                refine g_st (st' := [.int (rO (sArr h so la ri (pa k) (wa k) lo 1 0 t))]) rfl ?_
                refine g_bipush (v := (-9)) dX8_wind_129 (by decide) ?_
                refine g_icmp_ne (tgt := 138) dX8_wind_131 (by decide) (fun h131 => ?_) (fun h131 => ?_)
                · replace h131 := fun z => h131 ((sArr_ne (by omega)).mpr z)
                  refine g_bipush (v := nI 10) dX8_wind_138 (by decide) ?_
                  refine g_iload_n (i := 3) (j := 5) dX8_wind_140 rfl rfl ?_
                  refine n_isub (a := 10) (b := a) (by omega) dX8_wind_141 ?_
                  refine g_iload (j := 6) dX8_wind_142 rfl ?_
                  refine n_isub (a := (10 - a)) (b := b) (by omega) dX8_wind_144 ?_
                  refine g_topi (y := nI (if (sArr h so la ri (pa k) (wa k) lo 1 0 t).isSome then 10 - a - b else 0)) (by first | rw [if_pos (isSome_t h131)] | rw [if_neg (by rw [isSome_f h131]; simp)]) ?_
                  have qh131 : (if (sArr h so la ri (pa k) (wa k) lo 1 0 t).isSome then 10 - a - b else 0) ≤ 10 := by split <;> omega
                  refine g_istore (lv' := [(8, .int (nI (if (sArr h so la ri (pa k) (wa k) lo 1 0 t).isSome then 10 - a - b else 0))), (7, .int (nI (if (sArr h so la ri (pa k) (wa k) (min 40 (lo + 1)) 1 0 t).isSome then b else 0))), (6, .int (nI (if (sArr h so la ri (pa k) (wa k) (lo - 1) 1 0 t).isSome then a else 0))), (0, .ref 0), (1, .int (nI k)), (2, .int (nI t)), (3, .int (nI a)), (4, .int (nI b)), (5, .int (nI up))]) dX8_wind_145 (by decide) rfl ?_
                  refine g_iload (j := 2) dX8_wind_147 rfl ?_
                  refine g_iload (j := 1) dX8_wind_149 rfl ?_
                  refine n_iadd (a := (if (sArr h so la ri (pa k) (wa k) (lo - 1) 1 0 t).isSome then a else 0)) (b := (if (sArr h so la ri (pa k) (wa k) (min 40 (lo + 1)) 1 0 t).isSome then b else 0)) dX8_wind_151 ?_
                  refine g_iload (j := 0) dX8_wind_152 rfl ?_
                  refine n_iadd (a := ((if (sArr h so la ri (pa k) (wa k) (lo - 1) 1 0 t).isSome then a else 0) + (if (sArr h so la ri (pa k) (wa k) (min 40 (lo + 1)) 1 0 t).isSome then b else 0))) (b := (if (sArr h so la ri (pa k) (wa k) lo 1 0 t).isSome then 10 - a - b else 0)) dX8_wind_154 ?_
                  refine g_i2l (v := lN (((if (sArr h so la ri (pa k) (wa k) (lo - 1) 1 0 t).isSome then a else 0) + (if (sArr h so la ri (pa k) (wa k) (min 40 (lo + 1)) 1 0 t).isSome then b else 0)) + (if (sArr h so la ri (pa k) (wa k) lo 1 0 t).isSome then 10 - a - b else 0))) dX8_wind_155 (nI_l (by omega)) ?_
                  refine g_ldc2 clX8_227 dX8_wind_156 ?_
                  refine g_st (st' := [.long (lN 10), .long (lN (((if (sArr h so la ri (pa k) (wa k) (lo - 1) 1 0 t).isSome then a else 0) + (if (sArr h so la ri (pa k) (wa k) (min 40 (lo + 1)) 1 0 t).isSome then b else 0)) + (if (sArr h so la ri (pa k) (wa k) lo 1 0 t).isSome then 10 - a - b else 0)))]) rfl ?_
                  refine g_iload (j := 8) dX8_wind_159 rfl ?_
                  refine c_S (st1 := [.int (nI (sTold (((if (sArr h so la ri (pa k) (wa k) (lo - 1) 1 0 t).isSome then a else 0) + (if (sArr h so la ri (pa k) (wa k) (min 40 (lo + 1)) 1 0 t).isSome then b else 0)) + (if (sArr h so la ri (pa k) (wa k) lo 1 0 t).isSome then 10 - a - b else 0)) 10 up))]) (ctX8_fraction (a := ((if (sArr h so la ri (pa k) (wa k) (lo - 1) 1 0 t).isSome then a else 0) + (if (sArr h so la ri (pa k) (wa k) (min 40 (lo + 1)) 1 0 t).isSome then b else 0)) + (if (sArr h so la ri (pa k) (wa k) lo 1 0 t).isSome then 10 - a - b else 0)) (b := 10) (u := up) (by omega) (by omega) (by omega) (by omega)) kX8_fraction lX8_234 (by decide) rfl (by exact Nat.le_of_ble_eq_true rfl) dX8_wind_161 rfl rfl ?_
                  refine g_iret rfl rfl dX8_wind_164 ?_
                  refine ⟨?_, _, _, _, rfl⟩
                  unfold pWind
                  rw [if_pos ik, if_pos (c := iW (nI t) 41 ∧ tenP (nI a) (nI b)) ⟨h24, Decidable.not_not.mp h33⟩, ek, cN_n (k := t) (by omega), cN_n (k := a) (by omega), cN_n (k := b) (by omega)]
                  rfl
                · replace h131 := (sArr_ne (by omega)).mp h131
                  refine g_iconst (v := nI 0) dX8_wind_134 (by decide) ?_
                  refine g_goto (tgt := 145) dX8_wind_135 (by decide) ?_
                  refine g_topi (y := nI (if (sArr h so la ri (pa k) (wa k) lo 1 0 t).isSome then 10 - a - b else 0)) (by first | rw [if_pos (isSome_t h131)] | rw [if_neg (by rw [isSome_f h131]; simp)]) ?_
                  have qh131 : (if (sArr h so la ri (pa k) (wa k) lo 1 0 t).isSome then 10 - a - b else 0) ≤ 10 := by split <;> omega
                  refine g_istore (lv' := [(8, .int (nI (if (sArr h so la ri (pa k) (wa k) lo 1 0 t).isSome then 10 - a - b else 0))), (7, .int (nI (if (sArr h so la ri (pa k) (wa k) (min 40 (lo + 1)) 1 0 t).isSome then b else 0))), (6, .int (nI (if (sArr h so la ri (pa k) (wa k) (lo - 1) 1 0 t).isSome then a else 0))), (0, .ref 0), (1, .int (nI k)), (2, .int (nI t)), (3, .int (nI a)), (4, .int (nI b)), (5, .int (nI up))]) dX8_wind_145 (by decide) rfl ?_
                  refine g_iload (j := 2) dX8_wind_147 rfl ?_
                  refine g_iload (j := 1) dX8_wind_149 rfl ?_
                  refine n_iadd (a := (if (sArr h so la ri (pa k) (wa k) (lo - 1) 1 0 t).isSome then a else 0)) (b := (if (sArr h so la ri (pa k) (wa k) (min 40 (lo + 1)) 1 0 t).isSome then b else 0)) dX8_wind_151 ?_
                  refine g_iload (j := 0) dX8_wind_152 rfl ?_
                  refine n_iadd (a := ((if (sArr h so la ri (pa k) (wa k) (lo - 1) 1 0 t).isSome then a else 0) + (if (sArr h so la ri (pa k) (wa k) (min 40 (lo + 1)) 1 0 t).isSome then b else 0))) (b := (if (sArr h so la ri (pa k) (wa k) lo 1 0 t).isSome then 10 - a - b else 0)) dX8_wind_154 ?_
                  refine g_i2l (v := lN (((if (sArr h so la ri (pa k) (wa k) (lo - 1) 1 0 t).isSome then a else 0) + (if (sArr h so la ri (pa k) (wa k) (min 40 (lo + 1)) 1 0 t).isSome then b else 0)) + (if (sArr h so la ri (pa k) (wa k) lo 1 0 t).isSome then 10 - a - b else 0))) dX8_wind_155 (nI_l (by omega)) ?_
                  refine g_ldc2 clX8_227 dX8_wind_156 ?_
                  refine g_st (st' := [.long (lN 10), .long (lN (((if (sArr h so la ri (pa k) (wa k) (lo - 1) 1 0 t).isSome then a else 0) + (if (sArr h so la ri (pa k) (wa k) (min 40 (lo + 1)) 1 0 t).isSome then b else 0)) + (if (sArr h so la ri (pa k) (wa k) lo 1 0 t).isSome then 10 - a - b else 0)))]) rfl ?_
                  refine g_iload (j := 8) dX8_wind_159 rfl ?_
                  refine c_S (st1 := [.int (nI (sTold (((if (sArr h so la ri (pa k) (wa k) (lo - 1) 1 0 t).isSome then a else 0) + (if (sArr h so la ri (pa k) (wa k) (min 40 (lo + 1)) 1 0 t).isSome then b else 0)) + (if (sArr h so la ri (pa k) (wa k) lo 1 0 t).isSome then 10 - a - b else 0)) 10 up))]) (ctX8_fraction (a := ((if (sArr h so la ri (pa k) (wa k) (lo - 1) 1 0 t).isSome then a else 0) + (if (sArr h so la ri (pa k) (wa k) (min 40 (lo + 1)) 1 0 t).isSome then b else 0)) + (if (sArr h so la ri (pa k) (wa k) lo 1 0 t).isSome then 10 - a - b else 0)) (b := 10) (u := up) (by omega) (by omega) (by omega) (by omega)) kX8_fraction lX8_234 (by decide) rfl (by exact Nat.le_of_ble_eq_true rfl) dX8_wind_161 rfl rfl ?_
                  refine g_iret rfl rfl dX8_wind_164 ?_
                  refine ⟨?_, _, _, _, rfl⟩
                  unfold pWind
                  rw [if_pos ik, if_pos (c := iW (nI t) 41 ∧ tenP (nI a) (nI b)) ⟨h24, Decidable.not_not.mp h33⟩, ek, cN_n (k := t) (by omega), cN_n (k := a) (by omega), cN_n (k := b) (by omega)]
                  rfl
            · refine g_bipush (v := nI 40) dX8_wind_90 (by decide) ?_
              refine g_goto (tgt := 101) dX8_wind_92 (by decide) ?_
              refine g_topi (y := nI (min 40 (lo + 1))) (congrArg nI (by omega)) ?_
              refine g_callV (rest := []) (ctX8_goneOf (w := k) (c := 0) (s := t) (way := 1) (at0 := min 40 (lo + 1)) hH hpa hwa (by omega) (by omega) hS (by first | omega | assumption | exact hpa _ | exact hwa _ | exact hr1 _ (by omega) | exact hr6 _ (by omega) | exact hr11 _ (by omega) | exact hr _ | exact Nat.le_succ_of_le (hr _) | (apply sTo_le; first | omega | exact hr1 _ (by omega))) (by first | omega | assumption | exact hpa _ | exact hwa _ | exact hr1 _ (by omega) | exact hr6 _ (by omega) | exact hr11 _ (by omega) | exact hr _ | exact Nat.le_succ_of_le (hr _) | (apply sTo_le; first | omega | exact hr1 _ (by omega))) (by first | omega | assumption | exact hpa _ | exact hwa _ | exact hr1 _ (by omega) | exact hr6 _ (by omega) | exact hr11 _ (by omega) | exact hr _ | exact Nat.le_succ_of_le (hr _) | (apply sTo_le; first | omega | exact hr1 _ (by omega))) (by first | omega | assumption | exact hpa _ | exact hwa _ | exact hr1 _ (by omega) | exact hr6 _ (by omega) | exact hr11 _ (by omega) | exact hr _ | exact Nat.le_succ_of_le (hr _) | (apply sTo_le; first | omega | exact hr1 _ (by omega))) (by first | omega | assumption | exact hpa _ | exact hwa _ | exact hr1 _ (by omega) | exact hr6 _ (by omega) | exact hr11 _ (by omega) | exact hr _ | exact Nat.le_succ_of_le (hr _) | (apply sTo_le; first | omega | exact hr1 _ (by omega))) (by first | omega | assumption | exact hpa _ | exact hwa _ | exact hr1 _ (by omega) | exact hr6 _ (by omega) | exact hr11 _ (by omega) | exact hr _ | exact Nat.le_succ_of_le (hr _) | (apply sTo_le; first | omega | exact hr1 _ (by omega)))) kX8_goneOf lX8_205 (by decide) rfl rfl rfl rfl (by exact Nat.le_of_ble_eq_true rfl) dX8_wind_101 rfl (fun v u hvu => ?_)
              obtain ⟨rfl, ce101, sa101, ti101, rfl⟩ := hvu
              refine g_st (st' := [.int (rO (sArr h so la ri (pa k) (wa k) (min 40 (lo + 1)) 1 0 t))]) rfl ?_
              refine g_bipush (v := (-9)) dX8_wind_104 (by decide) ?_
              refine g_icmp_ne (tgt := 113) dX8_wind_106 (by decide) (fun h106 => ?_) (fun h106 => ?_)
              · replace h106 := fun z => h106 ((sArr_ne (by omega)).mpr z)
                refine g_iload (j := 5) dX8_wind_113 rfl ?_
                refine g_topi (y := nI (if (sArr h so la ri (pa k) (wa k) (min 40 (lo + 1)) 1 0 t).isSome then b else 0)) (by first | rw [if_pos (isSome_t h106)] | rw [if_neg (by rw [isSome_f h106]; simp)]) ?_
                have qh106 : (if (sArr h so la ri (pa k) (wa k) (min 40 (lo + 1)) 1 0 t).isSome then b else 0) ≤ 10 := by split <;> omega
                refine g_istore (lv' := [(7, .int (nI (if (sArr h so la ri (pa k) (wa k) (min 40 (lo + 1)) 1 0 t).isSome then b else 0))), (6, .int (nI (if (sArr h so la ri (pa k) (wa k) (lo - 1) 1 0 t).isSome then a else 0))), (0, .ref 0), (1, .int (nI k)), (2, .int (nI t)), (3, .int (nI a)), (4, .int (nI b)), (5, .int (nI up))]) dX8_wind_115 (by decide) rfl ?_
                refine g_aload_n (i := 0) (j := 2) dX8_wind_117 rfl rfl ?_
                refine g_iload_n (i := 1) (j := 3) dX8_wind_118 rfl rfl ?_
                refine g_iconst (v := nI 0) dX8_wind_119 (by decide) ?_
                refine g_iload_n (i := 2) (j := 4) dX8_wind_120 rfl rfl ?_
                refine g_iconst (v := nI 1) dX8_wind_121 (by decide) ?_
                refine g_aload_n (i := 0) (j := 2) dX8_wind_122 rfl rfl ?_
                refine g_get fX8_139 rfl rfl dX8_wind_123 ?_
                refine g_callV (rest := []) (ctX8_goneOf (w := k) (c := 0) (s := t) (way := 1) (at0 := lo) hH hpa hwa (by omega) (by omega) hS (by first | omega | assumption | exact hpa _ | exact hwa _ | exact hr1 _ (by omega) | exact hr6 _ (by omega) | exact hr11 _ (by omega) | exact hr _ | exact Nat.le_succ_of_le (hr _) | (apply sTo_le; first | omega | exact hr1 _ (by omega))) (by first | omega | assumption | exact hpa _ | exact hwa _ | exact hr1 _ (by omega) | exact hr6 _ (by omega) | exact hr11 _ (by omega) | exact hr _ | exact Nat.le_succ_of_le (hr _) | (apply sTo_le; first | omega | exact hr1 _ (by omega))) (by first | omega | assumption | exact hpa _ | exact hwa _ | exact hr1 _ (by omega) | exact hr6 _ (by omega) | exact hr11 _ (by omega) | exact hr _ | exact Nat.le_succ_of_le (hr _) | (apply sTo_le; first | omega | exact hr1 _ (by omega))) (by first | omega | assumption | exact hpa _ | exact hwa _ | exact hr1 _ (by omega) | exact hr6 _ (by omega) | exact hr11 _ (by omega) | exact hr _ | exact Nat.le_succ_of_le (hr _) | (apply sTo_le; first | omega | exact hr1 _ (by omega))) (by first | omega | assumption | exact hpa _ | exact hwa _ | exact hr1 _ (by omega) | exact hr6 _ (by omega) | exact hr11 _ (by omega) | exact hr _ | exact Nat.le_succ_of_le (hr _) | (apply sTo_le; first | omega | exact hr1 _ (by omega))) (by first | omega | assumption | exact hpa _ | exact hwa _ | exact hr1 _ (by omega) | exact hr6 _ (by omega) | exact hr11 _ (by omega) | exact hr _ | exact Nat.le_succ_of_le (hr _) | (apply sTo_le; first | omega | exact hr1 _ (by omega)))) kX8_goneOf lX8_205 (by decide) rfl rfl rfl rfl (by exact Nat.le_of_ble_eq_true rfl) dX8_wind_126 rfl (fun v u hvu => ?_)
                obtain ⟨rfl, ce126, sa126, ti126, rfl⟩ := hvu
                refine g_st (st' := [.int (rO (sArr h so la ri (pa k) (wa k) lo 1 0 t))]) rfl ?_
                refine g_bipush (v := (-9)) dX8_wind_129 (by decide) ?_
                refine g_icmp_ne (tgt := 138) dX8_wind_131 (by decide) (fun h131 => ?_) (fun h131 => ?_)
                · replace h131 := fun z => h131 ((sArr_ne (by omega)).mpr z)
                  refine g_bipush (v := nI 10) dX8_wind_138 (by decide) ?_
                  refine g_iload_n (i := 3) (j := 5) dX8_wind_140 rfl rfl ?_
                  refine n_isub (a := 10) (b := a) (by omega) dX8_wind_141 ?_
                  refine g_iload (j := 6) dX8_wind_142 rfl ?_
                  refine n_isub (a := (10 - a)) (b := b) (by omega) dX8_wind_144 ?_
                  refine g_topi (y := nI (if (sArr h so la ri (pa k) (wa k) lo 1 0 t).isSome then 10 - a - b else 0)) (by first | rw [if_pos (isSome_t h131)] | rw [if_neg (by rw [isSome_f h131]; simp)]) ?_
                  have qh131 : (if (sArr h so la ri (pa k) (wa k) lo 1 0 t).isSome then 10 - a - b else 0) ≤ 10 := by split <;> omega
                  refine g_istore (lv' := [(8, .int (nI (if (sArr h so la ri (pa k) (wa k) lo 1 0 t).isSome then 10 - a - b else 0))), (7, .int (nI (if (sArr h so la ri (pa k) (wa k) (min 40 (lo + 1)) 1 0 t).isSome then b else 0))), (6, .int (nI (if (sArr h so la ri (pa k) (wa k) (lo - 1) 1 0 t).isSome then a else 0))), (0, .ref 0), (1, .int (nI k)), (2, .int (nI t)), (3, .int (nI a)), (4, .int (nI b)), (5, .int (nI up))]) dX8_wind_145 (by decide) rfl ?_
                  refine g_iload (j := 2) dX8_wind_147 rfl ?_
                  refine g_iload (j := 1) dX8_wind_149 rfl ?_
                  refine n_iadd (a := (if (sArr h so la ri (pa k) (wa k) (lo - 1) 1 0 t).isSome then a else 0)) (b := (if (sArr h so la ri (pa k) (wa k) (min 40 (lo + 1)) 1 0 t).isSome then b else 0)) dX8_wind_151 ?_
                  refine g_iload (j := 0) dX8_wind_152 rfl ?_
                  refine n_iadd (a := ((if (sArr h so la ri (pa k) (wa k) (lo - 1) 1 0 t).isSome then a else 0) + (if (sArr h so la ri (pa k) (wa k) (min 40 (lo + 1)) 1 0 t).isSome then b else 0))) (b := (if (sArr h so la ri (pa k) (wa k) lo 1 0 t).isSome then 10 - a - b else 0)) dX8_wind_154 ?_
                  refine g_i2l (v := lN (((if (sArr h so la ri (pa k) (wa k) (lo - 1) 1 0 t).isSome then a else 0) + (if (sArr h so la ri (pa k) (wa k) (min 40 (lo + 1)) 1 0 t).isSome then b else 0)) + (if (sArr h so la ri (pa k) (wa k) lo 1 0 t).isSome then 10 - a - b else 0))) dX8_wind_155 (nI_l (by omega)) ?_
                  refine g_ldc2 clX8_227 dX8_wind_156 ?_
                  refine g_st (st' := [.long (lN 10), .long (lN (((if (sArr h so la ri (pa k) (wa k) (lo - 1) 1 0 t).isSome then a else 0) + (if (sArr h so la ri (pa k) (wa k) (min 40 (lo + 1)) 1 0 t).isSome then b else 0)) + (if (sArr h so la ri (pa k) (wa k) lo 1 0 t).isSome then 10 - a - b else 0)))]) rfl ?_
                  refine g_iload (j := 8) dX8_wind_159 rfl ?_
                  refine c_S (st1 := [.int (nI (sTold (((if (sArr h so la ri (pa k) (wa k) (lo - 1) 1 0 t).isSome then a else 0) + (if (sArr h so la ri (pa k) (wa k) (min 40 (lo + 1)) 1 0 t).isSome then b else 0)) + (if (sArr h so la ri (pa k) (wa k) lo 1 0 t).isSome then 10 - a - b else 0)) 10 up))]) (ctX8_fraction (a := ((if (sArr h so la ri (pa k) (wa k) (lo - 1) 1 0 t).isSome then a else 0) + (if (sArr h so la ri (pa k) (wa k) (min 40 (lo + 1)) 1 0 t).isSome then b else 0)) + (if (sArr h so la ri (pa k) (wa k) lo 1 0 t).isSome then 10 - a - b else 0)) (b := 10) (u := up) (by omega) (by omega) (by omega) (by omega)) kX8_fraction lX8_234 (by decide) rfl (by exact Nat.le_of_ble_eq_true rfl) dX8_wind_161 rfl rfl ?_
                  refine g_iret rfl rfl dX8_wind_164 ?_
                  refine ⟨?_, _, _, _, rfl⟩
                  unfold pWind
                  rw [if_pos ik, if_pos (c := iW (nI t) 41 ∧ tenP (nI a) (nI b)) ⟨h24, Decidable.not_not.mp h33⟩, ek, cN_n (k := t) (by omega), cN_n (k := a) (by omega), cN_n (k := b) (by omega)]
                  rfl
                · replace h131 := (sArr_ne (by omega)).mp h131
                  refine g_iconst (v := nI 0) dX8_wind_134 (by decide) ?_
                  refine g_goto (tgt := 145) dX8_wind_135 (by decide) ?_
                  refine g_topi (y := nI (if (sArr h so la ri (pa k) (wa k) lo 1 0 t).isSome then 10 - a - b else 0)) (by first | rw [if_pos (isSome_t h131)] | rw [if_neg (by rw [isSome_f h131]; simp)]) ?_
                  have qh131 : (if (sArr h so la ri (pa k) (wa k) lo 1 0 t).isSome then 10 - a - b else 0) ≤ 10 := by split <;> omega
                  refine g_istore (lv' := [(8, .int (nI (if (sArr h so la ri (pa k) (wa k) lo 1 0 t).isSome then 10 - a - b else 0))), (7, .int (nI (if (sArr h so la ri (pa k) (wa k) (min 40 (lo + 1)) 1 0 t).isSome then b else 0))), (6, .int (nI (if (sArr h so la ri (pa k) (wa k) (lo - 1) 1 0 t).isSome then a else 0))), (0, .ref 0), (1, .int (nI k)), (2, .int (nI t)), (3, .int (nI a)), (4, .int (nI b)), (5, .int (nI up))]) dX8_wind_145 (by decide) rfl ?_
                  refine g_iload (j := 2) dX8_wind_147 rfl ?_
                  refine g_iload (j := 1) dX8_wind_149 rfl ?_
                  refine n_iadd (a := (if (sArr h so la ri (pa k) (wa k) (lo - 1) 1 0 t).isSome then a else 0)) (b := (if (sArr h so la ri (pa k) (wa k) (min 40 (lo + 1)) 1 0 t).isSome then b else 0)) dX8_wind_151 ?_
                  refine g_iload (j := 0) dX8_wind_152 rfl ?_
                  refine n_iadd (a := ((if (sArr h so la ri (pa k) (wa k) (lo - 1) 1 0 t).isSome then a else 0) + (if (sArr h so la ri (pa k) (wa k) (min 40 (lo + 1)) 1 0 t).isSome then b else 0))) (b := (if (sArr h so la ri (pa k) (wa k) lo 1 0 t).isSome then 10 - a - b else 0)) dX8_wind_154 ?_
                  refine g_i2l (v := lN (((if (sArr h so la ri (pa k) (wa k) (lo - 1) 1 0 t).isSome then a else 0) + (if (sArr h so la ri (pa k) (wa k) (min 40 (lo + 1)) 1 0 t).isSome then b else 0)) + (if (sArr h so la ri (pa k) (wa k) lo 1 0 t).isSome then 10 - a - b else 0))) dX8_wind_155 (nI_l (by omega)) ?_
                  refine g_ldc2 clX8_227 dX8_wind_156 ?_
                  refine g_st (st' := [.long (lN 10), .long (lN (((if (sArr h so la ri (pa k) (wa k) (lo - 1) 1 0 t).isSome then a else 0) + (if (sArr h so la ri (pa k) (wa k) (min 40 (lo + 1)) 1 0 t).isSome then b else 0)) + (if (sArr h so la ri (pa k) (wa k) lo 1 0 t).isSome then 10 - a - b else 0)))]) rfl ?_
                  refine g_iload (j := 8) dX8_wind_159 rfl ?_
                  refine c_S (st1 := [.int (nI (sTold (((if (sArr h so la ri (pa k) (wa k) (lo - 1) 1 0 t).isSome then a else 0) + (if (sArr h so la ri (pa k) (wa k) (min 40 (lo + 1)) 1 0 t).isSome then b else 0)) + (if (sArr h so la ri (pa k) (wa k) lo 1 0 t).isSome then 10 - a - b else 0)) 10 up))]) (ctX8_fraction (a := ((if (sArr h so la ri (pa k) (wa k) (lo - 1) 1 0 t).isSome then a else 0) + (if (sArr h so la ri (pa k) (wa k) (min 40 (lo + 1)) 1 0 t).isSome then b else 0)) + (if (sArr h so la ri (pa k) (wa k) lo 1 0 t).isSome then 10 - a - b else 0)) (b := 10) (u := up) (by omega) (by omega) (by omega) (by omega)) kX8_fraction lX8_234 (by decide) rfl (by exact Nat.le_of_ble_eq_true rfl) dX8_wind_161 rfl rfl ?_
                  refine g_iret rfl rfl dX8_wind_164 ?_
                  refine ⟨?_, _, _, _, rfl⟩
                  unfold pWind
                  rw [if_pos ik, if_pos (c := iW (nI t) 41 ∧ tenP (nI a) (nI b)) ⟨h24, Decidable.not_not.mp h33⟩, ek, cN_n (k := t) (by omega), cN_n (k := a) (by omega), cN_n (k := b) (by omega)]
                  rfl
              · replace h106 := (sArr_ne (by omega)).mp h106
                refine g_iconst (v := nI 0) dX8_wind_109 (by decide) ?_
                refine g_goto (tgt := 115) dX8_wind_110 (by decide) ?_
                refine g_topi (y := nI (if (sArr h so la ri (pa k) (wa k) (min 40 (lo + 1)) 1 0 t).isSome then b else 0)) (by first | rw [if_pos (isSome_t h106)] | rw [if_neg (by rw [isSome_f h106]; simp)]) ?_
                have qh106 : (if (sArr h so la ri (pa k) (wa k) (min 40 (lo + 1)) 1 0 t).isSome then b else 0) ≤ 10 := by split <;> omega
                refine g_istore (lv' := [(7, .int (nI (if (sArr h so la ri (pa k) (wa k) (min 40 (lo + 1)) 1 0 t).isSome then b else 0))), (6, .int (nI (if (sArr h so la ri (pa k) (wa k) (lo - 1) 1 0 t).isSome then a else 0))), (0, .ref 0), (1, .int (nI k)), (2, .int (nI t)), (3, .int (nI a)), (4, .int (nI b)), (5, .int (nI up))]) dX8_wind_115 (by decide) rfl ?_
                refine g_aload_n (i := 0) (j := 2) dX8_wind_117 rfl rfl ?_
                refine g_iload_n (i := 1) (j := 3) dX8_wind_118 rfl rfl ?_
                refine g_iconst (v := nI 0) dX8_wind_119 (by decide) ?_
                refine g_iload_n (i := 2) (j := 4) dX8_wind_120 rfl rfl ?_
                refine g_iconst (v := nI 1) dX8_wind_121 (by decide) ?_
                refine g_aload_n (i := 0) (j := 2) dX8_wind_122 rfl rfl ?_
                refine g_get fX8_139 rfl rfl dX8_wind_123 ?_
                refine g_callV (rest := []) (ctX8_goneOf (w := k) (c := 0) (s := t) (way := 1) (at0 := lo) hH hpa hwa (by omega) (by omega) hS (by first | omega | assumption | exact hpa _ | exact hwa _ | exact hr1 _ (by omega) | exact hr6 _ (by omega) | exact hr11 _ (by omega) | exact hr _ | exact Nat.le_succ_of_le (hr _) | (apply sTo_le; first | omega | exact hr1 _ (by omega))) (by first | omega | assumption | exact hpa _ | exact hwa _ | exact hr1 _ (by omega) | exact hr6 _ (by omega) | exact hr11 _ (by omega) | exact hr _ | exact Nat.le_succ_of_le (hr _) | (apply sTo_le; first | omega | exact hr1 _ (by omega))) (by first | omega | assumption | exact hpa _ | exact hwa _ | exact hr1 _ (by omega) | exact hr6 _ (by omega) | exact hr11 _ (by omega) | exact hr _ | exact Nat.le_succ_of_le (hr _) | (apply sTo_le; first | omega | exact hr1 _ (by omega))) (by first | omega | assumption | exact hpa _ | exact hwa _ | exact hr1 _ (by omega) | exact hr6 _ (by omega) | exact hr11 _ (by omega) | exact hr _ | exact Nat.le_succ_of_le (hr _) | (apply sTo_le; first | omega | exact hr1 _ (by omega))) (by first | omega | assumption | exact hpa _ | exact hwa _ | exact hr1 _ (by omega) | exact hr6 _ (by omega) | exact hr11 _ (by omega) | exact hr _ | exact Nat.le_succ_of_le (hr _) | (apply sTo_le; first | omega | exact hr1 _ (by omega))) (by first | omega | assumption | exact hpa _ | exact hwa _ | exact hr1 _ (by omega) | exact hr6 _ (by omega) | exact hr11 _ (by omega) | exact hr _ | exact Nat.le_succ_of_le (hr _) | (apply sTo_le; first | omega | exact hr1 _ (by omega)))) kX8_goneOf lX8_205 (by decide) rfl rfl rfl rfl (by exact Nat.le_of_ble_eq_true rfl) dX8_wind_126 rfl (fun v u hvu => ?_)
                obtain ⟨rfl, ce126, sa126, ti126, rfl⟩ := hvu
                refine g_st (st' := [.int (rO (sArr h so la ri (pa k) (wa k) lo 1 0 t))]) rfl ?_
                refine g_bipush (v := (-9)) dX8_wind_129 (by decide) ?_
                refine g_icmp_ne (tgt := 138) dX8_wind_131 (by decide) (fun h131 => ?_) (fun h131 => ?_)
                · replace h131 := fun z => h131 ((sArr_ne (by omega)).mpr z)
                  refine g_bipush (v := nI 10) dX8_wind_138 (by decide) ?_
                  refine g_iload_n (i := 3) (j := 5) dX8_wind_140 rfl rfl ?_
                  refine n_isub (a := 10) (b := a) (by omega) dX8_wind_141 ?_
                  refine g_iload (j := 6) dX8_wind_142 rfl ?_
                  refine n_isub (a := (10 - a)) (b := b) (by omega) dX8_wind_144 ?_
                  refine g_topi (y := nI (if (sArr h so la ri (pa k) (wa k) lo 1 0 t).isSome then 10 - a - b else 0)) (by first | rw [if_pos (isSome_t h131)] | rw [if_neg (by rw [isSome_f h131]; simp)]) ?_
                  have qh131 : (if (sArr h so la ri (pa k) (wa k) lo 1 0 t).isSome then 10 - a - b else 0) ≤ 10 := by split <;> omega
                  refine g_istore (lv' := [(8, .int (nI (if (sArr h so la ri (pa k) (wa k) lo 1 0 t).isSome then 10 - a - b else 0))), (7, .int (nI (if (sArr h so la ri (pa k) (wa k) (min 40 (lo + 1)) 1 0 t).isSome then b else 0))), (6, .int (nI (if (sArr h so la ri (pa k) (wa k) (lo - 1) 1 0 t).isSome then a else 0))), (0, .ref 0), (1, .int (nI k)), (2, .int (nI t)), (3, .int (nI a)), (4, .int (nI b)), (5, .int (nI up))]) dX8_wind_145 (by decide) rfl ?_
                  refine g_iload (j := 2) dX8_wind_147 rfl ?_
                  refine g_iload (j := 1) dX8_wind_149 rfl ?_
                  refine n_iadd (a := (if (sArr h so la ri (pa k) (wa k) (lo - 1) 1 0 t).isSome then a else 0)) (b := (if (sArr h so la ri (pa k) (wa k) (min 40 (lo + 1)) 1 0 t).isSome then b else 0)) dX8_wind_151 ?_
                  refine g_iload (j := 0) dX8_wind_152 rfl ?_
                  refine n_iadd (a := ((if (sArr h so la ri (pa k) (wa k) (lo - 1) 1 0 t).isSome then a else 0) + (if (sArr h so la ri (pa k) (wa k) (min 40 (lo + 1)) 1 0 t).isSome then b else 0))) (b := (if (sArr h so la ri (pa k) (wa k) lo 1 0 t).isSome then 10 - a - b else 0)) dX8_wind_154 ?_
                  refine g_i2l (v := lN (((if (sArr h so la ri (pa k) (wa k) (lo - 1) 1 0 t).isSome then a else 0) + (if (sArr h so la ri (pa k) (wa k) (min 40 (lo + 1)) 1 0 t).isSome then b else 0)) + (if (sArr h so la ri (pa k) (wa k) lo 1 0 t).isSome then 10 - a - b else 0))) dX8_wind_155 (nI_l (by omega)) ?_
                  refine g_ldc2 clX8_227 dX8_wind_156 ?_
                  refine g_st (st' := [.long (lN 10), .long (lN (((if (sArr h so la ri (pa k) (wa k) (lo - 1) 1 0 t).isSome then a else 0) + (if (sArr h so la ri (pa k) (wa k) (min 40 (lo + 1)) 1 0 t).isSome then b else 0)) + (if (sArr h so la ri (pa k) (wa k) lo 1 0 t).isSome then 10 - a - b else 0)))]) rfl ?_
                  refine g_iload (j := 8) dX8_wind_159 rfl ?_
                  refine c_S (st1 := [.int (nI (sTold (((if (sArr h so la ri (pa k) (wa k) (lo - 1) 1 0 t).isSome then a else 0) + (if (sArr h so la ri (pa k) (wa k) (min 40 (lo + 1)) 1 0 t).isSome then b else 0)) + (if (sArr h so la ri (pa k) (wa k) lo 1 0 t).isSome then 10 - a - b else 0)) 10 up))]) (ctX8_fraction (a := ((if (sArr h so la ri (pa k) (wa k) (lo - 1) 1 0 t).isSome then a else 0) + (if (sArr h so la ri (pa k) (wa k) (min 40 (lo + 1)) 1 0 t).isSome then b else 0)) + (if (sArr h so la ri (pa k) (wa k) lo 1 0 t).isSome then 10 - a - b else 0)) (b := 10) (u := up) (by omega) (by omega) (by omega) (by omega)) kX8_fraction lX8_234 (by decide) rfl (by exact Nat.le_of_ble_eq_true rfl) dX8_wind_161 rfl rfl ?_
                  refine g_iret rfl rfl dX8_wind_164 ?_
                  refine ⟨?_, _, _, _, rfl⟩
                  unfold pWind
                  rw [if_pos ik, if_pos (c := iW (nI t) 41 ∧ tenP (nI a) (nI b)) ⟨h24, Decidable.not_not.mp h33⟩, ek, cN_n (k := t) (by omega), cN_n (k := a) (by omega), cN_n (k := b) (by omega)]
                  rfl
                · replace h131 := (sArr_ne (by omega)).mp h131
                  refine g_iconst (v := nI 0) dX8_wind_134 (by decide) ?_
                  refine g_goto (tgt := 145) dX8_wind_135 (by decide) ?_
                  refine g_topi (y := nI (if (sArr h so la ri (pa k) (wa k) lo 1 0 t).isSome then 10 - a - b else 0)) (by first | rw [if_pos (isSome_t h131)] | rw [if_neg (by rw [isSome_f h131]; simp)]) ?_
                  have qh131 : (if (sArr h so la ri (pa k) (wa k) lo 1 0 t).isSome then 10 - a - b else 0) ≤ 10 := by split <;> omega
                  refine g_istore (lv' := [(8, .int (nI (if (sArr h so la ri (pa k) (wa k) lo 1 0 t).isSome then 10 - a - b else 0))), (7, .int (nI (if (sArr h so la ri (pa k) (wa k) (min 40 (lo + 1)) 1 0 t).isSome then b else 0))), (6, .int (nI (if (sArr h so la ri (pa k) (wa k) (lo - 1) 1 0 t).isSome then a else 0))), (0, .ref 0), (1, .int (nI k)), (2, .int (nI t)), (3, .int (nI a)), (4, .int (nI b)), (5, .int (nI up))]) dX8_wind_145 (by decide) rfl ?_
                  refine g_iload (j := 2) dX8_wind_147 rfl ?_
                  refine g_iload (j := 1) dX8_wind_149 rfl ?_
                  refine n_iadd (a := (if (sArr h so la ri (pa k) (wa k) (lo - 1) 1 0 t).isSome then a else 0)) (b := (if (sArr h so la ri (pa k) (wa k) (min 40 (lo + 1)) 1 0 t).isSome then b else 0)) dX8_wind_151 ?_
                  refine g_iload (j := 0) dX8_wind_152 rfl ?_
                  refine n_iadd (a := ((if (sArr h so la ri (pa k) (wa k) (lo - 1) 1 0 t).isSome then a else 0) + (if (sArr h so la ri (pa k) (wa k) (min 40 (lo + 1)) 1 0 t).isSome then b else 0))) (b := (if (sArr h so la ri (pa k) (wa k) lo 1 0 t).isSome then 10 - a - b else 0)) dX8_wind_154 ?_
                  refine g_i2l (v := lN (((if (sArr h so la ri (pa k) (wa k) (lo - 1) 1 0 t).isSome then a else 0) + (if (sArr h so la ri (pa k) (wa k) (min 40 (lo + 1)) 1 0 t).isSome then b else 0)) + (if (sArr h so la ri (pa k) (wa k) lo 1 0 t).isSome then 10 - a - b else 0))) dX8_wind_155 (nI_l (by omega)) ?_
                  refine g_ldc2 clX8_227 dX8_wind_156 ?_
                  refine g_st (st' := [.long (lN 10), .long (lN (((if (sArr h so la ri (pa k) (wa k) (lo - 1) 1 0 t).isSome then a else 0) + (if (sArr h so la ri (pa k) (wa k) (min 40 (lo + 1)) 1 0 t).isSome then b else 0)) + (if (sArr h so la ri (pa k) (wa k) lo 1 0 t).isSome then 10 - a - b else 0)))]) rfl ?_
                  refine g_iload (j := 8) dX8_wind_159 rfl ?_
                  refine c_S (st1 := [.int (nI (sTold (((if (sArr h so la ri (pa k) (wa k) (lo - 1) 1 0 t).isSome then a else 0) + (if (sArr h so la ri (pa k) (wa k) (min 40 (lo + 1)) 1 0 t).isSome then b else 0)) + (if (sArr h so la ri (pa k) (wa k) lo 1 0 t).isSome then 10 - a - b else 0)) 10 up))]) (ctX8_fraction (a := ((if (sArr h so la ri (pa k) (wa k) (lo - 1) 1 0 t).isSome then a else 0) + (if (sArr h so la ri (pa k) (wa k) (min 40 (lo + 1)) 1 0 t).isSome then b else 0)) + (if (sArr h so la ri (pa k) (wa k) lo 1 0 t).isSome then 10 - a - b else 0)) (b := 10) (u := up) (by omega) (by omega) (by omega) (by omega)) kX8_fraction lX8_234 (by decide) rfl (by exact Nat.le_of_ble_eq_true rfl) dX8_wind_161 rfl rfl ?_
                  refine g_iret rfl rfl dX8_wind_164 ?_
                  refine ⟨?_, _, _, _, rfl⟩
                  unfold pWind
                  rw [if_pos ik, if_pos (c := iW (nI t) 41 ∧ tenP (nI a) (nI b)) ⟨h24, Decidable.not_not.mp h33⟩, ek, cN_n (k := t) (by omega), cN_n (k := a) (by omega), cN_n (k := b) (by omega)]
                  rfl
      · refine g_bipush (v := (-2)) dX8_wind_36 (by decide) ?_
        refine g_iret rfl rfl dX8_wind_38 ?_
        refine ⟨?_, _, _, _, rfl⟩
        unfold pWind
        rw [if_pos ik, if_neg (fun z => by first | exact h24 z.1 | exact h33 z.2)]
  · refine g_iconst (v := (-1)) dX8_wind_13 (by decide) ?_
    refine g_iret rfl rfl dX8_wind_14 ?_
    refine ⟨?_, _, _, _, rfl⟩
    unfold pWind
    rw [if_neg h10]

