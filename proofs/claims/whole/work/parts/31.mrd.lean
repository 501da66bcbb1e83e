/-! part 31: the model reads -/
theorem ctX8_fig_y {e2 e3 e4 e5 e6 e7 e8 e9 e10 e11 e12 e13 e14 e15 e16 e17 : va_E} {ln p lo ri la wk tw sf : Nat} {rl rr re : Int32} {rw rt rs ac : Nat} {sd : Int64} {ce sa ti : Nat} {le : Nat → Nat} (hln : ln ≤ 56) (hle : ∀ k, le k ≤ 255) {lo0 hi0 : Nat} (hp : p ≤ ln) (hl : lo0 ≤ 9) (hh : hi0 ≤ 9) (hy : dg le ln p lo0 hi0) : Ct mX8_figure 1 [.ref 0, .int (nI lo0), .int (nI hi0)] (wM (kM 0 ln p lo ri la wk tw sf rl rr re rw rt rs ac sd ce sa ti) (kI 56 le) e2 e3 e4 e5 e6 e7 e8 e9 e10 e11 e12 e13 e14 e15 e16 e17) (gE (some (.int (nI (le p - 48)))) (wM (kM 0 ln (p + 1) lo ri la wk tw sf rl rr re rw rt rs ac sd ce sa ti) (kI 56 le) e2 e3 e4 e5 e6 e7 e8 e9 e10 e11 e12 e13 e14 e15 e16 e17)) := by
  refine Ct.of (by decide) (by exact Nat.le_of_ble_eq_true rfl) ?_
  show Go mX8_figure 1 0 [(0, .ref 0), (1, .int (nI lo0)), (2, .int (nI hi0))] [] (wM (kM 0 ln p lo ri la wk tw sf rl rr re rw rt rs ac sd ce sa ti) (kI 56 le) e2 e3 e4 e5 e6 e7 e8 e9 e10 e11 e12 e13 e14 e15 e16 e17) (gE (some (.int (nI (le p - 48)))) (wM (kM 0 ln (p + 1) lo ri la wk tw sf rl rr re rw rt rs ac sd ce sa ti) (kI 56 le) e2 e3 e4 e5 e6 e7 e8 e9 e10 e11 e12 e13 e14 e15 e16 e17))
  refine g_aload_n (i := 0) (j := 0) dX8_figure_0 rfl rfl ?_
  refine g_get fX8_84 rfl rfl dX8_figure_1 ?_
  refine g_aload_n (i := 0) (j := 0) dX8_figure_4 rfl rfl ?_
  refine g_get fX8_81 rfl rfl dX8_figure_5 ?_
  refine n_icmp_eq (tgt := 34) (by omega) (by omega) dX8_figure_8 (by decide) (fun h8 => ?_) (fun h8 => ?_)
  · exact absurd hy.1 (by omega)
  · refine g_aload_n (i := 0) (j := 0) dX8_figure_11 rfl rfl ?_
    refine g_get fX8_7 rfl rfl dX8_figure_12 ?_
    refine g_aload_n (i := 0) (j := 0) dX8_figure_15 rfl rfl ?_
    refine g_get fX8_84 rfl rfl dX8_figure_16 ?_
    refine n_iald (x := p) rfl (by omega) (rng_lit 56 rfl) dX8_figure_19 ?_
    refine g_bipush (v := nI 48) dX8_figure_20 (by decide) ?_
    refine g_isub dX8_figure_22 ?_
    refine g_i2l dX8_figure_23 rfl ?_
    refine g_iload_n (i := 1) (j := 1) dX8_figure_24 rfl rfl ?_
    refine g_i2l (v := lN lo0) dX8_figure_25 (nI_l (by omega)) ?_
    refine g_iload_n (i := 2) (j := 2) dX8_figure_26 rfl rfl ?_
    refine g_i2l (v := lN hi0) dX8_figure_27 (nI_l (by omega)) ?_
    refine c_S (st1 := [.int (nI (bN (48 + lo0 ≤ le p ∧ le p ≤ 48 + hi0)))]) (ctX8_in (P := 48 + lo0 ≤ le p ∧ le p ≤ 48 + hi0) (in_f (hle p) (by omega) (by omega))) kX8_in lX8_73 (by decide) rfl (by exact Nat.le_of_ble_eq_true rfl) dX8_figure_28 rfl rfl ?_
    refine b_if_ne (tgt := 37) dX8_figure_31 (by decide) (fun h31 => ?_) (fun h31 => ?_)
    · refine g_aload_n (i := 0) (j := 0) dX8_figure_37 rfl rfl ?_
      refine g_dup dX8_figure_38 rfl ?_
      refine g_get fX8_84 rfl rfl dX8_figure_39 ?_
      refine g_iconst (v := nI 1) dX8_figure_42 (by decide) ?_
      refine n_iadd (a := p) (b := 1) dX8_figure_43 ?_
      refine n_putI (ws' := wM (kM 0 ln (p + 1) lo ri la wk tw sf rl rr re rw rt rs ac sd ce sa ti) (kI 56 le) e2 e3 e4 e5 e6 e7 e8 e9 e10 e11 e12 e13 e14 e15 e16 e17) fX8_84 fp_X8_3 rfl (by exact Nat.le_of_ble_eq_true rfl) dX8_figure_44 rfl ?_
      refine g_aload_n (i := 0) (j := 0) dX8_figure_47 rfl rfl ?_
      refine g_get fX8_7 rfl rfl dX8_figure_48 ?_
      refine g_aload_n (i := 0) (j := 0) dX8_figure_51 rfl rfl ?_
      refine g_get fX8_84 rfl rfl dX8_figure_52 ?_
      refine g_iconst (v := nI 1) dX8_figure_55 (by decide) ?_
      refine n_isub (a := (p + 1)) (b := 1) (by omega) dX8_figure_56 ?_
      refine n_iald (x := ((p + 1) - 1)) rfl (by omega) (rng_lit 56 rfl) dX8_figure_57 ?_
      refine g_bipush (v := nI 48) dX8_figure_58 (by decide) ?_
      refine n_isub (a := (le ((p + 1) - 1))) (b := 48) (by show 48 ≤ le p; omega) dX8_figure_60 ?_
      refine g_iret rfl rfl dX8_figure_61 ?_
      exact gE_n rfl rfl
    · exact absurd hy.2 h31

theorem ctX8_fig_n {e2 e3 e4 e5 e6 e7 e8 e9 e10 e11 e12 e13 e14 e15 e16 e17 : va_E} {ln p lo ri la wk tw sf : Nat} {rl rr re : Int32} {rw rt rs ac : Nat} {sd : Int64} {ce sa ti : Nat} {le : Nat → Nat} (hln : ln ≤ 56) (hle : ∀ k, le k ≤ 255) {lo0 hi0 : Nat} (hp : p ≤ ln) (hl : lo0 ≤ 9) (hh : hi0 ≤ 9) (hy : ¬ dg le ln p lo0 hi0) : Ct mX8_figure 1 [.ref 0, .int (nI lo0), .int (nI hi0)] (wM (kM 0 ln p lo ri la wk tw sf rl rr re rw rt rs ac sd ce sa ti) (kI 56 le) e2 e3 e4 e5 e6 e7 e8 e9 e10 e11 e12 e13 e14 e15 e16 e17) (gE (some (.int (-9))) (wM (kM 0 ln p lo ri la wk tw sf rl rr re rw rt rs ac sd ce sa ti) (kI 56 le) e2 e3 e4 e5 e6 e7 e8 e9 e10 e11 e12 e13 e14 e15 e16 e17)) := by
  refine Ct.of (by decide) (by exact Nat.le_of_ble_eq_true rfl) ?_
  show Go mX8_figure 1 0 [(0, .ref 0), (1, .int (nI lo0)), (2, .int (nI hi0))] [] (wM (kM 0 ln p lo ri la wk tw sf rl rr re rw rt rs ac sd ce sa ti) (kI 56 le) e2 e3 e4 e5 e6 e7 e8 e9 e10 e11 e12 e13 e14 e15 e16 e17) (gE (some (.int (-9))) (wM (kM 0 ln p lo ri la wk tw sf rl rr re rw rt rs ac sd ce sa ti) (kI 56 le) e2 e3 e4 e5 e6 e7 e8 e9 e10 e11 e12 e13 e14 e15 e16 e17))
  refine g_aload_n (i := 0) (j := 0) dX8_figure_0 rfl rfl ?_
  refine g_get fX8_84 rfl rfl dX8_figure_1 ?_
  refine g_aload_n (i := 0) (j := 0) dX8_figure_4 rfl rfl ?_
  refine g_get fX8_81 rfl rfl dX8_figure_5 ?_
  refine n_icmp_eq (tgt := 34) (by omega) (by omega) dX8_figure_8 (by decide) (fun h8 => ?_) (fun h8 => ?_)
  · refine g_bipush (v := (-9)) dX8_figure_34 (by decide) ?_
    refine g_iret rfl rfl dX8_figure_36 ?_
    exact gE_i rfl rfl
  · refine g_aload_n (i := 0) (j := 0) dX8_figure_11 rfl rfl ?_
    refine g_get fX8_7 rfl rfl dX8_figure_12 ?_
    refine g_aload_n (i := 0) (j := 0) dX8_figure_15 rfl rfl ?_
    refine g_get fX8_84 rfl rfl dX8_figure_16 ?_
    refine n_iald (x := p) rfl (by omega) (rng_lit 56 rfl) dX8_figure_19 ?_
    refine g_bipush (v := nI 48) dX8_figure_20 (by decide) ?_
    refine g_isub dX8_figure_22 ?_
    refine g_i2l dX8_figure_23 rfl ?_
    refine g_iload_n (i := 1) (j := 1) dX8_figure_24 rfl rfl ?_
    refine g_i2l (v := lN lo0) dX8_figure_25 (nI_l (by omega)) ?_
    refine g_iload_n (i := 2) (j := 2) dX8_figure_26 rfl rfl ?_
    refine g_i2l (v := lN hi0) dX8_figure_27 (nI_l (by omega)) ?_
    refine c_S (st1 := [.int (nI (bN (48 + lo0 ≤ le p ∧ le p ≤ 48 + hi0)))]) (ctX8_in (P := 48 + lo0 ≤ le p ∧ le p ≤ 48 + hi0) (in_f (hle p) (by omega) (by omega))) kX8_in lX8_73 (by decide) rfl (by exact Nat.le_of_ble_eq_true rfl) dX8_figure_28 rfl rfl ?_
    refine b_if_ne (tgt := 37) dX8_figure_31 (by decide) (fun h31 => ?_) (fun h31 => ?_)
    · exact absurd ⟨by omega, h31⟩ hy
    · refine g_bipush (v := (-9)) dX8_figure_34 (by decide) ?_
      refine g_iret rfl rfl dX8_figure_36 ?_
      exact gE_i rfl rfl

theorem ctX8_one_y {e2 e3 e4 e5 e6 e7 e8 e9 e10 e11 e12 e13 e14 e15 e16 e17 : va_E} {ln p lo ri la wk tw sf : Nat} {rl rr re : Int32} {rw rt rs ac : Nat} {sd : Int64} {ce sa ti : Nat} {le : Nat → Nat} (hln : ln ≤ 56) (hle : ∀ k, le k ≤ 255) {m : Nat} (hp : p ≤ ln) (hm : m < 1024) (hy : (dg le ln p 1 8 ∧ m / 2 ^ (le p - 48) % 2 = 1)) : Ct mX8_one 1 [.ref 0, .int (nI m)] (wM (kM 0 ln p lo ri la wk tw sf rl rr re rw rt rs ac sd ce sa ti) (kI 56 le) e2 e3 e4 e5 e6 e7 e8 e9 e10 e11 e12 e13 e14 e15 e16 e17) (gE (some (.int (nI (le p - 48)))) (wM (kM 0 ln (p + 1) lo ri la wk tw sf rl rr re rw rt rs ac sd ce sa ti) (kI 56 le) e2 e3 e4 e5 e6 e7 e8 e9 e10 e11 e12 e13 e14 e15 e16 e17)) := by
  refine Ct.of (by decide) (by exact Nat.le_of_ble_eq_true rfl) ?_
  show Go mX8_one 1 0 [(0, .ref 0), (1, .int (nI m))] [] (wM (kM 0 ln p lo ri la wk tw sf rl rr re rw rt rs ac sd ce sa ti) (kI 56 le) e2 e3 e4 e5 e6 e7 e8 e9 e10 e11 e12 e13 e14 e15 e16 e17) (gE (some (.int (nI (le p - 48)))) (wM (kM 0 ln (p + 1) lo ri la wk tw sf rl rr re rw rt rs ac sd ce sa ti) (kI 56 le) e2 e3 e4 e5 e6 e7 e8 e9 e10 e11 e12 e13 e14 e15 e16 e17))
  have hd := hy.1
  unfold dg at hd
  refine g_aload_n (i := 0) (j := 0) dX8_one_0 rfl rfl ?_
  refine g_get fX8_84 rfl rfl dX8_one_1 ?_
  refine g_aload_n (i := 0) (j := 0) dX8_one_4 rfl rfl ?_
  refine g_get fX8_81 rfl rfl dX8_one_5 ?_
  refine n_icmp_ge (tgt := 26) (by omega) (by omega) dX8_one_8 (by decide) (fun h8 => ?_) (fun h8 => ?_)
  · exact absurd hy.1.1 (by omega)
  · refine g_aload_n (i := 0) (j := 0) dX8_one_11 rfl rfl ?_
    refine g_get fX8_7 rfl rfl dX8_one_12 ?_
    refine g_aload_n (i := 0) (j := 0) dX8_one_15 rfl rfl ?_
    refine g_get fX8_84 rfl rfl dX8_one_16 ?_
    refine n_iald (x := p) rfl (by omega) (rng_lit 56 rfl) dX8_one_19 ?_
    refine g_bipush (v := nI 48) dX8_one_20 (by decide) ?_
    refine g_isub dX8_one_22 ?_
    refine g_goto (tgt := 28) dX8_one_23 (by decide) ?_
    refine g_istore_n (i := 2) (lv' := [(2, .int ((nI (le p)) - (nI 48))), (0, .ref 0), (1, .int (nI m))]) dX8_one_28 rfl (by decide) rfl ?_
    refine g_iload_n (i := 2) (j := 0) dX8_one_29 rfl rfl ?_
    refine g_i2l dX8_one_30 rfl ?_
    refine g_lconst (v := lN 1) dX8_one_31 (by decide) ?_
    refine g_ldc2 clX8_90 dX8_one_32 ?_
    refine g_st (st' := [.long (lN 8), .long (lN 1), .long (((nI (le p)) - (nI 48)).toInt64)]) rfl ?_
    refine c_S (st1 := [.int (nI (bN (iW ((nI (le p)) - (nI 48)) 9 ∧ ¬ ((nI (le p)) - (nI 48)) = nI 0)))]) (ctX8_in (P := iW ((nI (le p)) - (nI 48)) 9 ∧ ¬ ((nI (le p)) - (nI 48)) = nI 0) (in_1 (rng_lit _ rfl) rfl)) kX8_in lX8_73 (by decide) rfl (by exact Nat.le_of_ble_eq_true rfl) dX8_one_35 rfl rfl ?_
    refine b_if_eq (tgt := 49) dX8_one_38 (by decide) (fun h38 => ?_) (fun h38 => ?_)
    · exact absurd ((in_v (hle p)).mpr (by have := hy.1; unfold dg at this; omega)) h38
    · refine g_lv [1, 2, 0] rfl ?_
      refine g_lvE (lv' := [(0, .ref 0), (1, .int (nI m)), (2, .int (nI (le p - 48)))]) (by rw [← pk_sub (by omega : 48 ≤ le p)]; rfl) ?_
      refine g_iload_n (i := 1) (j := 1) dX8_one_41 rfl rfl ?_
      refine g_iload_n (i := 2) (j := 2) dX8_one_42 rfl rfl ?_
      refine c_S (st1 := [.int (nI (bN (m / 2 ^ (le p - 48) % 2 = 1)))]) (ctX8_has (a := m) (k := le p - 48) (by omega) (by omega)) kX8_has lX8_92 (by decide) rfl (by exact Nat.le_of_ble_eq_true rfl) dX8_one_43 rfl rfl ?_
      refine b_if_ne (tgt := 52) dX8_one_46 (by decide) (fun h46 => ?_) (fun h46 => ?_)
      · refine g_aload_n (i := 0) (j := 0) dX8_one_52 rfl rfl ?_
        refine g_dup dX8_one_53 rfl ?_
        refine g_get fX8_84 rfl rfl dX8_one_54 ?_
        refine g_iconst (v := nI 1) dX8_one_57 (by decide) ?_
        refine n_iadd (a := p) (b := 1) dX8_one_58 ?_
        refine n_putI (ws' := wM (kM 0 ln (p + 1) lo ri la wk tw sf rl rr re rw rt rs ac sd ce sa ti) (kI 56 le) e2 e3 e4 e5 e6 e7 e8 e9 e10 e11 e12 e13 e14 e15 e16 e17) fX8_84 fp_X8_3 rfl (by exact Nat.le_of_ble_eq_true rfl) dX8_one_59 rfl ?_
        refine g_iload_n (i := 2) (j := 2) dX8_one_62 rfl rfl ?_
        refine g_iret rfl rfl dX8_one_63 ?_
        exact gE_i rfl rfl
      · exact absurd hy.2 h46

theorem ctX8_one_n {e2 e3 e4 e5 e6 e7 e8 e9 e10 e11 e12 e13 e14 e15 e16 e17 : va_E} {ln p lo ri la wk tw sf : Nat} {rl rr re : Int32} {rw rt rs ac : Nat} {sd : Int64} {ce sa ti : Nat} {le : Nat → Nat} (hln : ln ≤ 56) (hle : ∀ k, le k ≤ 255) {m : Nat} (hp : p ≤ ln) (hm : m < 1024) (hy : ¬ (dg le ln p 1 8 ∧ m / 2 ^ (le p - 48) % 2 = 1)) : Ct mX8_one 1 [.ref 0, .int (nI m)] (wM (kM 0 ln p lo ri la wk tw sf rl rr re rw rt rs ac sd ce sa ti) (kI 56 le) e2 e3 e4 e5 e6 e7 e8 e9 e10 e11 e12 e13 e14 e15 e16 e17) (gE (some (.int (-9))) (wM (kM 0 ln p lo ri la wk tw sf rl rr re rw rt rs ac sd ce sa ti) (kI 56 le) e2 e3 e4 e5 e6 e7 e8 e9 e10 e11 e12 e13 e14 e15 e16 e17)) := by
  refine Ct.of (by decide) (by exact Nat.le_of_ble_eq_true rfl) ?_
  show Go mX8_one 1 0 [(0, .ref 0), (1, .int (nI m))] [] (wM (kM 0 ln p lo ri la wk tw sf rl rr re rw rt rs ac sd ce sa ti) (kI 56 le) e2 e3 e4 e5 e6 e7 e8 e9 e10 e11 e12 e13 e14 e15 e16 e17) (gE (some (.int (-9))) (wM (kM 0 ln p lo ri la wk tw sf rl rr re rw rt rs ac sd ce sa ti) (kI 56 le) e2 e3 e4 e5 e6 e7 e8 e9 e10 e11 e12 e13 e14 e15 e16 e17))
  refine g_aload_n (i := 0) (j := 0) dX8_one_0 rfl rfl ?_
  refine g_get fX8_84 rfl rfl dX8_one_1 ?_
  refine g_aload_n (i := 0) (j := 0) dX8_one_4 rfl rfl ?_
  refine g_get fX8_81 rfl rfl dX8_one_5 ?_
  refine n_icmp_ge (tgt := 26) (by omega) (by omega) dX8_one_8 (by decide) (fun h8 => ?_) (fun h8 => ?_)
  · refine g_bipush (v := (-9)) dX8_one_26 (by decide) ?_
    refine g_istore_n (i := 2) (lv' := [(2, .int (-9)), (0, .ref 0), (1, .int (nI m))]) dX8_one_28 rfl (by decide) rfl ?_
    refine g_iload_n (i := 2) (j := 0) dX8_one_29 rfl rfl ?_
    refine g_i2l dX8_one_30 rfl ?_
    refine g_lconst (v := lN 1) dX8_one_31 (by decide) ?_
    refine g_ldc2 clX8_90 dX8_one_32 ?_
    refine g_st (st' := [.long (lN 8), .long (lN 1), .long ((-9).toInt64)]) rfl ?_
    refine c_S (st1 := [.int (nI (bN (iW (-9) 9 ∧ ¬ (-9) = nI 0)))]) (ctX8_in (P := iW (-9) 9 ∧ ¬ (-9) = nI 0) (in_1 (rng_lit _ rfl) rfl)) kX8_in lX8_73 (by decide) rfl (by exact Nat.le_of_ble_eq_true rfl) dX8_one_35 rfl rfl ?_
    refine b_if_eq (tgt := 49) dX8_one_38 (by decide) (fun h38 => ?_) (fun h38 => ?_)
    · refine g_bipush (v := (-9)) dX8_one_49 (by decide) ?_
      refine g_iret rfl rfl dX8_one_51 ?_
      exact gE_i rfl rfl
    · exact absurd h38 (by decide)
  · refine g_aload_n (i := 0) (j := 0) dX8_one_11 rfl rfl ?_
    refine g_get fX8_7 rfl rfl dX8_one_12 ?_
    refine g_aload_n (i := 0) (j := 0) dX8_one_15 rfl rfl ?_
    refine g_get fX8_84 rfl rfl dX8_one_16 ?_
    refine n_iald (x := p) rfl (by omega) (rng_lit 56 rfl) dX8_one_19 ?_
    refine g_bipush (v := nI 48) dX8_one_20 (by decide) ?_
    refine g_isub dX8_one_22 ?_
    refine g_goto (tgt := 28) dX8_one_23 (by decide) ?_
    refine g_istore_n (i := 2) (lv' := [(2, .int ((nI (le p)) - (nI 48))), (0, .ref 0), (1, .int (nI m))]) dX8_one_28 rfl (by decide) rfl ?_
    refine g_iload_n (i := 2) (j := 0) dX8_one_29 rfl rfl ?_
    refine g_i2l dX8_one_30 rfl ?_
    refine g_lconst (v := lN 1) dX8_one_31 (by decide) ?_
    refine g_ldc2 clX8_90 dX8_one_32 ?_
    refine g_st (st' := [.long (lN 8), .long (lN 1), .long (((nI (le p)) - (nI 48)).toInt64)]) rfl ?_
    refine c_S (st1 := [.int (nI (bN (iW ((nI (le p)) - (nI 48)) 9 ∧ ¬ ((nI (le p)) - (nI 48)) = nI 0)))]) (ctX8_in (P := iW ((nI (le p)) - (nI 48)) 9 ∧ ¬ ((nI (le p)) - (nI 48)) = nI 0) (in_1 (rng_lit _ rfl) rfl)) kX8_in lX8_73 (by decide) rfl (by exact Nat.le_of_ble_eq_true rfl) dX8_one_35 rfl rfl ?_
    refine b_if_eq (tgt := 49) dX8_one_38 (by decide) (fun h38 => ?_) (fun h38 => ?_)
    · refine g_bipush (v := (-9)) dX8_one_49 (by decide) ?_
      refine g_iret rfl rfl dX8_one_51 ?_
      exact gE_i rfl rfl
    · refine g_lv [1, 2, 0] rfl ?_
      have hd := (in_v (hle p)).mp h38
      refine g_lvE (lv' := [(0, .ref 0), (1, .int (nI m)), (2, .int (nI (le p - 48)))]) (by rw [← pk_sub (by omega : 48 ≤ le p)]; rfl) ?_
      refine g_iload_n (i := 1) (j := 1) dX8_one_41 rfl rfl ?_
      refine g_iload_n (i := 2) (j := 2) dX8_one_42 rfl rfl ?_
      refine c_S (st1 := [.int (nI (bN (m / 2 ^ (le p - 48) % 2 = 1)))]) (ctX8_has (a := m) (k := le p - 48) (by omega) (by omega)) kX8_has lX8_92 (by decide) rfl (by exact Nat.le_of_ble_eq_true rfl) dX8_one_43 rfl rfl ?_
      refine b_if_ne (tgt := 52) dX8_one_46 (by decide) (fun h46 => ?_) (fun h46 => ?_)
      · exact absurd ⟨⟨h8, by omega, by omega⟩, h46⟩ hy
      · refine g_bipush (v := (-9)) dX8_one_49 (by decide) ?_
        refine g_iret rfl rfl dX8_one_51 ?_
        exact gE_i rfl rfl

theorem lp_free {e1 e2 e3 e4 e5 e6 e7 e8 e9 e11 e12 e13 e14 e15 e16 e17 : va_E} {ln p lo ri la wk tw sf : Nat} {rl rr re : Int32} {rw rt rs ac : Nat} {sd : Int64} {ce sa ti : Nat} {rat : Nat → Nat} (hrt : rt ≤ 2) (hra : ∀ t, t < rt → rat t ≤ 8) : ∀ (n t : Nat), t + n = rt → Go mX8_freeTowers 0 6 [(0, .ref 0), (1, .int (nI (frM rat t))), (2, .int (nI t))] [] (wM (kM 0 ln p lo ri la wk tw sf rl rr re rw rt rs ac sd ce sa ti) e1 e2 e3 e4 e5 e6 e7 e8 e9 (kI 2 rat) e11 e12 e13 e14 e15 e16 e17) (gE (some (.int (nI (frM rat rt)))) (wM (kM 0 ln p lo ri la wk tw sf rl rr re rw rt rs ac sd ce sa ti) e1 e2 e3 e4 e5 e6 e7 e8 e9 (kI 2 rat) e11 e12 e13 e14 e15 e16 e17)) := by
  intro n
  induction n with
  | zero =>
    intro t ht
    obtain rfl : t = rt := by omega
    refine g_iload_n (i := 2) (j := 2) dX8_freeTowers_6 rfl rfl ?_
    refine g_aload_n (i := 0) (j := 0) dX8_freeTowers_7 rfl rfl ?_
    refine g_get fX8_87 rfl rfl dX8_freeTowers_8 ?_
    refine n_icmp_ge (tgt := 33) (by omega) (by omega) dX8_freeTowers_11 (by decide) (fun h11 => ?_) (fun h11 => ?_)
    · refine g_iload_n (i := 1) (j := 1) dX8_freeTowers_33 rfl rfl ?_
      refine g_iret rfl rfl dX8_freeTowers_34 ?_
      exact gE_i rfl rfl
    · exfalso; omega

  | succ n ih =>
    intro t ht
    have q := hra t (by omega)
    refine g_iload_n (i := 2) (j := 2) dX8_freeTowers_6 rfl rfl ?_
    refine g_aload_n (i := 0) (j := 0) dX8_freeTowers_7 rfl rfl ?_
    refine g_get fX8_87 rfl rfl dX8_freeTowers_8 ?_
    refine n_icmp_ge (tgt := 33) (by omega) (by omega) dX8_freeTowers_11 (by decide) (fun h11 => ?_) (fun h11 => ?_)
    · exfalso; omega
    · refine g_iload_n (i := 1) (j := 1) dX8_freeTowers_14 rfl rfl ?_
      refine g_iconst (v := nI 1) dX8_freeTowers_15 (by decide) ?_
      refine g_aload_n (i := 0) (j := 0) dX8_freeTowers_16 rfl rfl ?_
      refine g_get fX8_41 rfl rfl dX8_freeTowers_17 ?_
      refine g_iload_n (i := 2) (j := 2) dX8_freeTowers_20 rfl rfl ?_
      refine n_iald (x := t) rfl (by omega) (rng_lit 2 rfl) dX8_freeTowers_21 ?_
      refine g_ishl dX8_freeTowers_22 ?_
      refine g_iconst (v := (-1)) dX8_freeTowers_23 (by decide) ?_
      refine g_ixor dX8_freeTowers_24 ?_
      refine g_iand dX8_freeTowers_25 ?_
      refine g_topi (y := nI (frM rat (t + 1))) (clr_and (rat t) (by omega) _ (frM_lt rat t)) ?_
      refine g_istore_n (i := 1) (lv' := [(1, .int (nI (frM rat (t + 1)))), (0, .ref 0), (2, .int (nI t))]) dX8_freeTowers_26 rfl (by decide) rfl ?_
      refine n_inc (x := t) (j := 2) (lv' := [(2, .int (nI (t + 1))), (1, .int (nI (frM rat (t + 1)))), (0, .ref 0)]) dX8_freeTowers_27 rfl (by decide) rfl ?_
      refine g_goto (tgt := 6) dX8_freeTowers_30 (by decide) ?_
      refine g_lv [2, 1, 0] rfl ?_
      exact ih (t + 1) (by omega)

theorem ctX8_freeTowers {e1 e2 e3 e4 e5 e6 e7 e8 e9 e11 e12 e13 e14 e15 e16 e17 : va_E} {ln p lo ri la wk tw sf : Nat} {rl rr re : Int32} {rw rt rs ac : Nat} {sd : Int64} {ce sa ti : Nat} {rat : Nat → Nat} (hrt : rt ≤ 2) (hra : ∀ t, t < rt → rat t ≤ 8) : Ct mX8_freeTowers 0 [.ref 0] (wM (kM 0 ln p lo ri la wk tw sf rl rr re rw rt rs ac sd ce sa ti) e1 e2 e3 e4 e5 e6 e7 e8 e9 (kI 2 rat) e11 e12 e13 e14 e15 e16 e17) (gE (some (.int (nI (frM rat rt)))) (wM (kM 0 ln p lo ri la wk tw sf rl rr re rw rt rs ac sd ce sa ti) e1 e2 e3 e4 e5 e6 e7 e8 e9 (kI 2 rat) e11 e12 e13 e14 e15 e16 e17)) := by
  refine Ct.of (by decide) (by exact Nat.le_of_ble_eq_true rfl) ?_
  show Go mX8_freeTowers 0 0 [(0, .ref 0)] [] (wM (kM 0 ln p lo ri la wk tw sf rl rr re rw rt rs ac sd ce sa ti) e1 e2 e3 e4 e5 e6 e7 e8 e9 (kI 2 rat) e11 e12 e13 e14 e15 e16 e17) (gE (some (.int (nI (frM rat rt)))) (wM (kM 0 ln p lo ri la wk tw sf rl rr re rw rt rs ac sd ce sa ti) e1 e2 e3 e4 e5 e6 e7 e8 e9 (kI 2 rat) e11 e12 e13 e14 e15 e16 e17))
  refine g_sipush (v := nI 510) dX8_freeTowers_0 (by decide) ?_
  refine g_istore_n (i := 1) (lv' := [(1, .int (nI 510)), (0, .ref 0)]) dX8_freeTowers_3 rfl (by decide) rfl ?_
  refine g_iconst (v := nI 0) dX8_freeTowers_4 (by decide) ?_
  refine g_istore_n (i := 2) (lv' := [(2, .int (nI 0)), (1, .int (nI 510)), (0, .ref 0)]) dX8_freeTowers_5 rfl (by decide) rfl ?_
  refine g_lv [2, 1, 0] rfl ?_
  exact lp_free hrt hra rt 0 (by omega)

theorem ctX8_rw_y {e2 e3 e4 e5 e6 e7 e10 e11 e12 e13 e14 e15 e16 e17 : va_E} {ln p lo ri la wk tw sf : Nat} {rl rr re : Int32} {rw rt rs ac : Nat} {sd : Int64} {ce sa ti : Nat} {le : Nat → Nat} (hln : ln ≤ 56) (hle : ∀ k, le k ≤ 255) {rpa rwd : Nat → Nat} (hp : p ≤ ln) (hw : rw < 5) (h1 : dg le ln p 1 3) (h2 : dg le ln (p + 1) 0 5) : Ct mX8_readWalker 2 [.ref 0] (wM (kM 0 ln p lo ri la wk tw sf rl rr re rw rt rs ac sd ce sa ti) (kI 56 le) e2 e3 e4 e5 e6 e7 (kI 5 rpa) (kI 5 rwd) e10 e11 e12 e13 e14 e15 e16 e17) (gE (some (.int (nI 1))) (wM (kM 0 ln (p + 1 + 1) lo ri la wk tw sf rl rr re (rw + 1) rt rs ac sd ce sa ti) (kI 56 le) e2 e3 e4 e5 e6 e7 (kI 5 (va_up rpa rw (le p - 48))) (kI 5 (va_up rwd rw (le (p + 1) - 48))) e10 e11 e12 e13 e14 e15 e16 e17)) := by
  refine Ct.of (by decide) (by exact Nat.le_of_ble_eq_true rfl) ?_
  show Go mX8_readWalker 2 0 [(0, .ref 0)] [] (wM (kM 0 ln p lo ri la wk tw sf rl rr re rw rt rs ac sd ce sa ti) (kI 56 le) e2 e3 e4 e5 e6 e7 (kI 5 rpa) (kI 5 rwd) e10 e11 e12 e13 e14 e15 e16 e17) (gE (some (.int (nI 1))) (wM (kM 0 ln (p + 1 + 1) lo ri la wk tw sf rl rr re (rw + 1) rt rs ac sd ce sa ti) (kI 56 le) e2 e3 e4 e5 e6 e7 (kI 5 (va_up rpa rw (le p - 48))) (kI 5 (va_up rwd rw (le (p + 1) - 48))) e10 e11 e12 e13 e14 e15 e16 e17))
  have q1 := hle p
  have q2 := hle (p + 1)
  have h1x := h1.1
  refine g_aload_n (i := 0) (j := 0) dX8_readWalker_0 rfl rfl ?_
  refine g_iconst (v := nI 1) dX8_readWalker_1 (by decide) ?_
  refine g_iconst (v := nI 3) dX8_readWalker_2 (by decide) ?_
  refine c_V (st1 := [.int (nI (le p - 48))]) (ctX8_fig_y (lo0 := 1) (hi0 := 3) hln hle (by omega) (by omega) (by omega) (by assumption)) kX8_figure lX8_96 (by decide) rfl rfl rfl rfl (by exact Nat.le_of_ble_eq_true rfl) dX8_readWalker_3 rfl rfl ?_
  refine g_istore_n (i := 1) (lv' := [(1, .int (nI (le p - 48))), (0, .ref 0)]) dX8_readWalker_6 rfl (by decide) rfl ?_
  refine g_iload_n (i := 1) (j := 0) dX8_readWalker_7 rfl rfl ?_
  refine g_bipush (v := (-9)) dX8_readWalker_8 (by decide) ?_
  refine g_icmp_ne (tgt := 18) dX8_readWalker_10 (by decide) (fun h10 => ?_) (fun h10 => ?_)
  · refine g_aload_n (i := 0) (j := 1) dX8_readWalker_18 rfl rfl ?_
    refine g_iconst (v := nI 0) dX8_readWalker_19 (by decide) ?_
    refine g_iconst (v := nI 5) dX8_readWalker_20 (by decide) ?_
    refine c_V (st1 := [.int (nI (le (p + 1) - 48))]) (ctX8_fig_y (lo0 := 0) (hi0 := 5) hln hle (by omega) (by omega) (by omega) (by assumption)) kX8_figure lX8_96 (by decide) rfl rfl rfl rfl (by exact Nat.le_of_ble_eq_true rfl) dX8_readWalker_21 rfl rfl ?_
    refine g_istore_n (i := 2) (lv' := [(2, .int (nI (le (p + 1) - 48))), (1, .int (nI (le p - 48))), (0, .ref 0)]) dX8_readWalker_24 rfl (by decide) rfl ?_
    refine g_iload_n (i := 2) (j := 0) dX8_readWalker_25 rfl rfl ?_
    refine g_bipush (v := (-9)) dX8_readWalker_26 (by decide) ?_
    refine g_icmp_ne (tgt := 33) dX8_readWalker_28 (by decide) (fun h28 => ?_) (fun h28 => ?_)
    · refine g_aload_n (i := 0) (j := 2) dX8_readWalker_33 rfl rfl ?_
      refine g_get fX8_35 rfl rfl dX8_readWalker_34 ?_
      refine g_aload_n (i := 0) (j := 2) dX8_readWalker_37 rfl rfl ?_
      refine g_get fX8_100 rfl rfl dX8_readWalker_38 ?_
      refine g_iload_n (i := 1) (j := 1) dX8_readWalker_41 rfl rfl ?_
      refine n_iast (x := rw) (ws' := wM (kM 0 ln ((p + 1) + 1) lo ri la wk tw sf rl rr re rw rt rs ac sd ce sa ti) (kI 56 le) e2 e3 e4 e5 e6 e7 (kI 5 (va_up rpa rw (le p - 48))) (kI 5 rwd) e10 e11 e12 e13 e14 e15 e16 e17) rfl (by omega) (rng_lit 5 rfl) dX8_readWalker_42 rfl ?_
      refine g_aload_n (i := 0) (j := 2) dX8_readWalker_43 rfl rfl ?_
      refine g_get fX8_38 rfl rfl dX8_readWalker_44 ?_
      refine g_aload_n (i := 0) (j := 2) dX8_readWalker_47 rfl rfl ?_
      refine g_get fX8_100 rfl rfl dX8_readWalker_48 ?_
      refine g_iload_n (i := 2) (j := 0) dX8_readWalker_51 rfl rfl ?_
      refine n_iast (x := rw) (ws' := wM (kM 0 ln ((p + 1) + 1) lo ri la wk tw sf rl rr re rw rt rs ac sd ce sa ti) (kI 56 le) e2 e3 e4 e5 e6 e7 (kI 5 (va_up rpa rw (le p - 48))) (kI 5 (va_up rwd rw (le (p + 1) - 48))) e10 e11 e12 e13 e14 e15 e16 e17) rfl (by omega) (rng_lit 5 rfl) dX8_readWalker_52 rfl ?_
      refine g_aload_n (i := 0) (j := 2) dX8_readWalker_53 rfl rfl ?_
      refine g_dup dX8_readWalker_54 rfl ?_
      refine g_get fX8_100 rfl rfl dX8_readWalker_55 ?_
      refine g_iconst (v := nI 1) dX8_readWalker_58 (by decide) ?_
      refine n_iadd (a := rw) (b := 1) dX8_readWalker_59 ?_
      refine n_putI (ws' := wM (kM 0 ln ((p + 1) + 1) lo ri la wk tw sf rl rr re (rw + 1) rt rs ac sd ce sa ti) (kI 56 le) e2 e3 e4 e5 e6 e7 (kI 5 (va_up rpa rw (le p - 48))) (kI 5 (va_up rwd rw (le (p + 1) - 48))) e10 e11 e12 e13 e14 e15 e16 e17) fX8_100 fp_X8_19 rfl (by exact Nat.le_of_ble_eq_true rfl) dX8_readWalker_60 rfl ?_
      refine g_iconst (v := nI 1) dX8_readWalker_63 (by decide) ?_
      refine g_iret rfl (by decide) dX8_readWalker_64 ?_
      exact gE_i rfl rfl
    · exact absurd h28 (nI_n9 (by omega))
  · exact absurd h10 (nI_n9 (by omega))

theorem ctX8_rw_n1 {e2 e3 e4 e5 e6 e7 e10 e11 e12 e13 e14 e15 e16 e17 : va_E} {ln p lo ri la wk tw sf : Nat} {rl rr re : Int32} {rw rt rs ac : Nat} {sd : Int64} {ce sa ti : Nat} {le : Nat → Nat} (hln : ln ≤ 56) (hle : ∀ k, le k ≤ 255) {rpa rwd : Nat → Nat} (hp : p ≤ ln) (hw : rw < 5) (h1 : ¬ dg le ln p 1 3) : Ct mX8_readWalker 2 [.ref 0] (wM (kM 0 ln p lo ri la wk tw sf rl rr re rw rt rs ac sd ce sa ti) (kI 56 le) e2 e3 e4 e5 e6 e7 (kI 5 rpa) (kI 5 rwd) e10 e11 e12 e13 e14 e15 e16 e17) (gE (some (.int (nI 0))) (wM (kM 0 ln p lo ri la wk tw sf rl rr re rw rt rs ac sd ce sa ti) (kI 56 le) e2 e3 e4 e5 e6 e7 (kI 5 rpa) (kI 5 rwd) e10 e11 e12 e13 e14 e15 e16 e17)) := by
  refine Ct.of (by decide) (by exact Nat.le_of_ble_eq_true rfl) ?_
  show Go mX8_readWalker 2 0 [(0, .ref 0)] [] (wM (kM 0 ln p lo ri la wk tw sf rl rr re rw rt rs ac sd ce sa ti) (kI 56 le) e2 e3 e4 e5 e6 e7 (kI 5 rpa) (kI 5 rwd) e10 e11 e12 e13 e14 e15 e16 e17) (gE (some (.int (nI 0))) (wM (kM 0 ln p lo ri la wk tw sf rl rr re rw rt rs ac sd ce sa ti) (kI 56 le) e2 e3 e4 e5 e6 e7 (kI 5 rpa) (kI 5 rwd) e10 e11 e12 e13 e14 e15 e16 e17))
  have q1 := hle p
  have q2 := hle (p + 1)
  refine g_aload_n (i := 0) (j := 0) dX8_readWalker_0 rfl rfl ?_
  refine g_iconst (v := nI 1) dX8_readWalker_1 (by decide) ?_
  refine g_iconst (v := nI 3) dX8_readWalker_2 (by decide) ?_
  refine c_V (st1 := [.int (-9)]) (ctX8_fig_n (lo0 := 1) (hi0 := 3) hln hle (by omega) (by omega) (by omega) (by assumption)) kX8_figure lX8_96 (by decide) rfl rfl rfl rfl (by exact Nat.le_of_ble_eq_true rfl) dX8_readWalker_3 rfl rfl ?_
  refine g_istore_n (i := 1) (lv' := [(1, .int (-9)), (0, .ref 0)]) dX8_readWalker_6 rfl (by decide) rfl ?_
  refine g_iload_n (i := 1) (j := 0) dX8_readWalker_7 rfl rfl ?_
  refine g_bipush (v := (-9)) dX8_readWalker_8 (by decide) ?_
  refine g_icmp_ne (tgt := 18) dX8_readWalker_10 (by decide) (fun h10 => ?_) (fun h10 => ?_)
  · exact absurd rfl h10
  · refine g_bipush (v := (-9)) dX8_readWalker_13 (by decide) ?_
    refine g_goto (tgt := 24) dX8_readWalker_15 (by decide) ?_
    refine g_istore_n (i := 2) (lv' := [(2, .int (-9)), (1, .int (-9)), (0, .ref 0)]) dX8_readWalker_24 rfl (by decide) rfl ?_
    refine g_iload_n (i := 2) (j := 0) dX8_readWalker_25 rfl rfl ?_
    refine g_bipush (v := (-9)) dX8_readWalker_26 (by decide) ?_
    refine g_icmp_ne (tgt := 33) dX8_readWalker_28 (by decide) (fun h28 => ?_) (fun h28 => ?_)
    · exact absurd rfl h28
    · refine g_iconst (v := nI 0) dX8_readWalker_31 (by decide) ?_
      refine g_iret rfl (by decide) dX8_readWalker_32 ?_
      exact gE_i rfl rfl

theorem ctX8_rw_n2 {e2 e3 e4 e5 e6 e7 e10 e11 e12 e13 e14 e15 e16 e17 : va_E} {ln p lo ri la wk tw sf : Nat} {rl rr re : Int32} {rw rt rs ac : Nat} {sd : Int64} {ce sa ti : Nat} {le : Nat → Nat} (hln : ln ≤ 56) (hle : ∀ k, le k ≤ 255) {rpa rwd : Nat → Nat} (hp : p ≤ ln) (hw : rw < 5) (h1 : dg le ln p 1 3) (h2 : ¬ dg le ln (p + 1) 0 5) : Ct mX8_readWalker 2 [.ref 0] (wM (kM 0 ln p lo ri la wk tw sf rl rr re rw rt rs ac sd ce sa ti) (kI 56 le) e2 e3 e4 e5 e6 e7 (kI 5 rpa) (kI 5 rwd) e10 e11 e12 e13 e14 e15 e16 e17) (gE (some (.int (nI 0))) (wM (kM 0 ln (p + 1) lo ri la wk tw sf rl rr re rw rt rs ac sd ce sa ti) (kI 56 le) e2 e3 e4 e5 e6 e7 (kI 5 rpa) (kI 5 rwd) e10 e11 e12 e13 e14 e15 e16 e17)) := by
  refine Ct.of (by decide) (by exact Nat.le_of_ble_eq_true rfl) ?_
  show Go mX8_readWalker 2 0 [(0, .ref 0)] [] (wM (kM 0 ln p lo ri la wk tw sf rl rr re rw rt rs ac sd ce sa ti) (kI 56 le) e2 e3 e4 e5 e6 e7 (kI 5 rpa) (kI 5 rwd) e10 e11 e12 e13 e14 e15 e16 e17) (gE (some (.int (nI 0))) (wM (kM 0 ln (p + 1) lo ri la wk tw sf rl rr re rw rt rs ac sd ce sa ti) (kI 56 le) e2 e3 e4 e5 e6 e7 (kI 5 rpa) (kI 5 rwd) e10 e11 e12 e13 e14 e15 e16 e17))
  have q1 := hle p
  have q2 := hle (p + 1)
  have h1x := h1.1
  refine g_aload_n (i := 0) (j := 0) dX8_readWalker_0 rfl rfl ?_
  refine g_iconst (v := nI 1) dX8_readWalker_1 (by decide) ?_
  refine g_iconst (v := nI 3) dX8_readWalker_2 (by decide) ?_
  refine c_V (st1 := [.int (nI (le p - 48))]) (ctX8_fig_y (lo0 := 1) (hi0 := 3) hln hle (by omega) (by omega) (by omega) (by assumption)) kX8_figure lX8_96 (by decide) rfl rfl rfl rfl (by exact Nat.le_of_ble_eq_true rfl) dX8_readWalker_3 rfl rfl ?_
  refine g_istore_n (i := 1) (lv' := [(1, .int (nI (le p - 48))), (0, .ref 0)]) dX8_readWalker_6 rfl (by decide) rfl ?_
  refine g_iload_n (i := 1) (j := 0) dX8_readWalker_7 rfl rfl ?_
  refine g_bipush (v := (-9)) dX8_readWalker_8 (by decide) ?_
  refine g_icmp_ne (tgt := 18) dX8_readWalker_10 (by decide) (fun h10 => ?_) (fun h10 => ?_)
  · refine g_aload_n (i := 0) (j := 1) dX8_readWalker_18 rfl rfl ?_
    refine g_iconst (v := nI 0) dX8_readWalker_19 (by decide) ?_
    refine g_iconst (v := nI 5) dX8_readWalker_20 (by decide) ?_
    refine c_V (st1 := [.int (-9)]) (ctX8_fig_n (lo0 := 0) (hi0 := 5) hln hle (by omega) (by omega) (by omega) (by assumption)) kX8_figure lX8_96 (by decide) rfl rfl rfl rfl (by exact Nat.le_of_ble_eq_true rfl) dX8_readWalker_21 rfl rfl ?_
    refine g_istore_n (i := 2) (lv' := [(2, .int (-9)), (1, .int (nI (le p - 48))), (0, .ref 0)]) dX8_readWalker_24 rfl (by decide) rfl ?_
    refine g_iload_n (i := 2) (j := 0) dX8_readWalker_25 rfl rfl ?_
    refine g_bipush (v := (-9)) dX8_readWalker_26 (by decide) ?_
    refine g_icmp_ne (tgt := 33) dX8_readWalker_28 (by decide) (fun h28 => ?_) (fun h28 => ?_)
    · exact absurd rfl h28
    · refine g_iconst (v := nI 0) dX8_readWalker_31 (by decide) ?_
      refine g_iret rfl (by decide) dX8_readWalker_32 ?_
      exact gE_i rfl rfl
  · exact absurd h10 (nI_n9 (by omega))

theorem ctX8_rt_y {e2 e3 e4 e5 e6 e7 e8 e9 e12 e13 e14 e15 e16 e17 : va_E} {ln p lo ri la wk tw sf : Nat} {rl rr re : Int32} {rw rt rs ac : Nat} {sd : Int64} {ce sa ti : Nat} {le : Nat → Nat} (hln : ln ≤ 56) (hle : ∀ k, le k ≤ 255) {rat rfo : Nat → Nat} (hp : p ≤ ln) (hw : rt < 2) (hra : ∀ t, t < rt → rat t ≤ 8) (h1 : (dg le ln p 1 8 ∧ frM rat rt / 2 ^ (le p - 48) % 2 = 1)) (h2 : dg le ln (p + 1) 1 4) : Ct mX8_readTower 2 [.ref 0] (wM (kM 0 ln p lo ri la wk tw sf rl rr re rw rt rs ac sd ce sa ti) (kI 56 le) e2 e3 e4 e5 e6 e7 e8 e9 (kI 2 rat) (kI 2 rfo) e12 e13 e14 e15 e16 e17) (gE (some (.int (nI 1))) (wM (kM 0 ln (p + 1 + 1) lo ri la wk tw sf rl rr re rw (rt + 1) rs ac sd ce sa ti) (kI 56 le) e2 e3 e4 e5 e6 e7 e8 e9 (kI 2 (va_up rat rt (le p - 48))) (kI 2 (va_up rfo rt (le (p + 1) - 48))) e12 e13 e14 e15 e16 e17)) := by
  refine Ct.of (by decide) (by exact Nat.le_of_ble_eq_true rfl) ?_
  show Go mX8_readTower 2 0 [(0, .ref 0)] [] (wM (kM 0 ln p lo ri la wk tw sf rl rr re rw rt rs ac sd ce sa ti) (kI 56 le) e2 e3 e4 e5 e6 e7 e8 e9 (kI 2 rat) (kI 2 rfo) e12 e13 e14 e15 e16 e17) (gE (some (.int (nI 1))) (wM (kM 0 ln (p + 1 + 1) lo ri la wk tw sf rl rr re rw (rt + 1) rs ac sd ce sa ti) (kI 56 le) e2 e3 e4 e5 e6 e7 e8 e9 (kI 2 (va_up rat rt (le p - 48))) (kI 2 (va_up rfo rt (le (p + 1) - 48))) e12 e13 e14 e15 e16 e17))
  have q1 := hle p
  have q2 := hle (p + 1)
  have q3 := frM_lt rat rt
  have h1x := h1.1.1
  refine g_aload_n (i := 0) (j := 0) dX8_readTower_0 rfl rfl ?_
  refine g_aload_n (i := 0) (j := 0) dX8_readTower_1 rfl rfl ?_
  refine c_V (st1 := [.int (nI (frM rat rt)), .ref 0]) (ctX8_freeTowers  (by omega) hra) kX8_freeTowers lX8_103 (by decide) rfl rfl rfl rfl (by exact Nat.le_of_ble_eq_true rfl) dX8_readTower_2 rfl rfl ?_
  refine c_V (st1 := [.int (nI (le p - 48))]) (ctX8_one_y (m := frM rat rt) hln hle (by omega) (by omega) (by assumption)) kX8_one lX8_107 (by decide) rfl rfl rfl rfl (by exact Nat.le_of_ble_eq_true rfl) dX8_readTower_5 rfl rfl ?_
  refine g_istore_n (i := 1) (lv' := [(1, .int (nI (le p - 48))), (0, .ref 0)]) dX8_readTower_8 rfl (by decide) rfl ?_
  refine g_iload_n (i := 1) (j := 0) dX8_readTower_9 rfl rfl ?_
  refine g_bipush (v := (-9)) dX8_readTower_10 (by decide) ?_
  refine g_icmp_ne (tgt := 20) dX8_readTower_12 (by decide) (fun h12 => ?_) (fun h12 => ?_)
  · refine g_aload_n (i := 0) (j := 1) dX8_readTower_20 rfl rfl ?_
    refine g_iconst (v := nI 1) dX8_readTower_21 (by decide) ?_
    refine g_iconst (v := nI 4) dX8_readTower_22 (by decide) ?_
    refine c_V (st1 := [.int (nI (le (p + 1) - 48))]) (ctX8_fig_y (lo0 := 1) (hi0 := 4) hln hle (by omega) (by omega) (by omega) (by assumption)) kX8_figure lX8_96 (by decide) rfl rfl rfl rfl (by exact Nat.le_of_ble_eq_true rfl) dX8_readTower_23 rfl rfl ?_
    refine g_istore_n (i := 2) (lv' := [(2, .int (nI (le (p + 1) - 48))), (1, .int (nI (le p - 48))), (0, .ref 0)]) dX8_readTower_26 rfl (by decide) rfl ?_
    refine g_iload_n (i := 2) (j := 0) dX8_readTower_27 rfl rfl ?_
    refine g_bipush (v := (-9)) dX8_readTower_28 (by decide) ?_
    refine g_icmp_ne (tgt := 35) dX8_readTower_30 (by decide) (fun h30 => ?_) (fun h30 => ?_)
    · refine g_aload_n (i := 0) (j := 2) dX8_readTower_35 rfl rfl ?_
      refine g_get fX8_41 rfl rfl dX8_readTower_36 ?_
      refine g_aload_n (i := 0) (j := 2) dX8_readTower_39 rfl rfl ?_
      refine g_get fX8_87 rfl rfl dX8_readTower_40 ?_
      refine g_iload_n (i := 1) (j := 1) dX8_readTower_43 rfl rfl ?_
      refine n_iast (x := rt) (ws' := wM (kM 0 ln ((p + 1) + 1) lo ri la wk tw sf rl rr re rw rt rs ac sd ce sa ti) (kI 56 le) e2 e3 e4 e5 e6 e7 e8 e9 (kI 2 (va_up rat rt (le p - 48))) (kI 2 rfo) e12 e13 e14 e15 e16 e17) rfl (by omega) (rng_lit 2 rfl) dX8_readTower_44 rfl ?_
      refine g_aload_n (i := 0) (j := 2) dX8_readTower_45 rfl rfl ?_
      refine g_get fX8_44 rfl rfl dX8_readTower_46 ?_
      refine g_aload_n (i := 0) (j := 2) dX8_readTower_49 rfl rfl ?_
      refine g_get fX8_87 rfl rfl dX8_readTower_50 ?_
      refine g_iload_n (i := 2) (j := 0) dX8_readTower_53 rfl rfl ?_
      refine n_iast (x := rt) (ws' := wM (kM 0 ln ((p + 1) + 1) lo ri la wk tw sf rl rr re rw rt rs ac sd ce sa ti) (kI 56 le) e2 e3 e4 e5 e6 e7 e8 e9 (kI 2 (va_up rat rt (le p - 48))) (kI 2 (va_up rfo rt (le (p + 1) - 48))) e12 e13 e14 e15 e16 e17) rfl (by omega) (rng_lit 2 rfl) dX8_readTower_54 rfl ?_
      refine g_aload_n (i := 0) (j := 2) dX8_readTower_55 rfl rfl ?_
      refine g_dup dX8_readTower_56 rfl ?_
      refine g_get fX8_87 rfl rfl dX8_readTower_57 ?_
      refine g_iconst (v := nI 1) dX8_readTower_60 (by decide) ?_
      refine n_iadd (a := rt) (b := 1) dX8_readTower_61 ?_
      refine n_putI (ws' := wM (kM 0 ln ((p + 1) + 1) lo ri la wk tw sf rl rr re rw (rt + 1) rs ac sd ce sa ti) (kI 56 le) e2 e3 e4 e5 e6 e7 e8 e9 (kI 2 (va_up rat rt (le p - 48))) (kI 2 (va_up rfo rt (le (p + 1) - 48))) e12 e13 e14 e15 e16 e17) fX8_87 fp_X8_20 rfl (by exact Nat.le_of_ble_eq_true rfl) dX8_readTower_62 rfl ?_
      refine g_iconst (v := nI 1) dX8_readTower_65 (by decide) ?_
      refine g_iret rfl (by decide) dX8_readTower_66 ?_
      exact gE_i rfl rfl
    · exact absurd h30 (nI_n9 (by omega))
  · exact absurd h12 (nI_n9 (by omega))

theorem ctX8_rt_n1 {e2 e3 e4 e5 e6 e7 e8 e9 e12 e13 e14 e15 e16 e17 : va_E} {ln p lo ri la wk tw sf : Nat} {rl rr re : Int32} {rw rt rs ac : Nat} {sd : Int64} {ce sa ti : Nat} {le : Nat → Nat} (hln : ln ≤ 56) (hle : ∀ k, le k ≤ 255) {rat rfo : Nat → Nat} (hp : p ≤ ln) (hw : rt < 2) (hra : ∀ t, t < rt → rat t ≤ 8) (h1 : ¬ (dg le ln p 1 8 ∧ frM rat rt / 2 ^ (le p - 48) % 2 = 1)) : Ct mX8_readTower 2 [.ref 0] (wM (kM 0 ln p lo ri la wk tw sf rl rr re rw rt rs ac sd ce sa ti) (kI 56 le) e2 e3 e4 e5 e6 e7 e8 e9 (kI 2 rat) (kI 2 rfo) e12 e13 e14 e15 e16 e17) (gE (some (.int (nI 0))) (wM (kM 0 ln p lo ri la wk tw sf rl rr re rw rt rs ac sd ce sa ti) (kI 56 le) e2 e3 e4 e5 e6 e7 e8 e9 (kI 2 rat) (kI 2 rfo) e12 e13 e14 e15 e16 e17)) := by
  refine Ct.of (by decide) (by exact Nat.le_of_ble_eq_true rfl) ?_
  show Go mX8_readTower 2 0 [(0, .ref 0)] [] (wM (kM 0 ln p lo ri la wk tw sf rl rr re rw rt rs ac sd ce sa ti) (kI 56 le) e2 e3 e4 e5 e6 e7 e8 e9 (kI 2 rat) (kI 2 rfo) e12 e13 e14 e15 e16 e17) (gE (some (.int (nI 0))) (wM (kM 0 ln p lo ri la wk tw sf rl rr re rw rt rs ac sd ce sa ti) (kI 56 le) e2 e3 e4 e5 e6 e7 e8 e9 (kI 2 rat) (kI 2 rfo) e12 e13 e14 e15 e16 e17))
  have q1 := hle p
  have q2 := hle (p + 1)
  have q3 := frM_lt rat rt
  refine g_aload_n (i := 0) (j := 0) dX8_readTower_0 rfl rfl ?_
  refine g_aload_n (i := 0) (j := 0) dX8_readTower_1 rfl rfl ?_
  refine c_V (st1 := [.int (nI (frM rat rt)), .ref 0]) (ctX8_freeTowers  (by omega) hra) kX8_freeTowers lX8_103 (by decide) rfl rfl rfl rfl (by exact Nat.le_of_ble_eq_true rfl) dX8_readTower_2 rfl rfl ?_
  refine c_V (st1 := [.int (-9)]) (ctX8_one_n (m := frM rat rt) hln hle (by omega) (by omega) (by assumption)) kX8_one lX8_107 (by decide) rfl rfl rfl rfl (by exact Nat.le_of_ble_eq_true rfl) dX8_readTower_5 rfl rfl ?_
  refine g_istore_n (i := 1) (lv' := [(1, .int (-9)), (0, .ref 0)]) dX8_readTower_8 rfl (by decide) rfl ?_
  refine g_iload_n (i := 1) (j := 0) dX8_readTower_9 rfl rfl ?_
  refine g_bipush (v := (-9)) dX8_readTower_10 (by decide) ?_
  refine g_icmp_ne (tgt := 20) dX8_readTower_12 (by decide) (fun h12 => ?_) (fun h12 => ?_)
  · exact absurd rfl h12
  · refine g_bipush (v := (-9)) dX8_readTower_15 (by decide) ?_
    refine g_goto (tgt := 26) dX8_readTower_17 (by decide) ?_
    refine g_istore_n (i := 2) (lv' := [(2, .int (-9)), (1, .int (-9)), (0, .ref 0)]) dX8_readTower_26 rfl (by decide) rfl ?_
    refine g_iload_n (i := 2) (j := 0) dX8_readTower_27 rfl rfl ?_
    refine g_bipush (v := (-9)) dX8_readTower_28 (by decide) ?_
    refine g_icmp_ne (tgt := 35) dX8_readTower_30 (by decide) (fun h30 => ?_) (fun h30 => ?_)
    · exact absurd rfl h30
    · refine g_iconst (v := nI 0) dX8_readTower_33 (by decide) ?_
      refine g_iret rfl (by decide) dX8_readTower_34 ?_
      exact gE_i rfl rfl

theorem ctX8_rt_n2 {e2 e3 e4 e5 e6 e7 e8 e9 e12 e13 e14 e15 e16 e17 : va_E} {ln p lo ri la wk tw sf : Nat} {rl rr re : Int32} {rw rt rs ac : Nat} {sd : Int64} {ce sa ti : Nat} {le : Nat → Nat} (hln : ln ≤ 56) (hle : ∀ k, le k ≤ 255) {rat rfo : Nat → Nat} (hp : p ≤ ln) (hw : rt < 2) (hra : ∀ t, t < rt → rat t ≤ 8) (h1 : (dg le ln p 1 8 ∧ frM rat rt / 2 ^ (le p - 48) % 2 = 1)) (h2 : ¬ dg le ln (p + 1) 1 4) : Ct mX8_readTower 2 [.ref 0] (wM (kM 0 ln p lo ri la wk tw sf rl rr re rw rt rs ac sd ce sa ti) (kI 56 le) e2 e3 e4 e5 e6 e7 e8 e9 (kI 2 rat) (kI 2 rfo) e12 e13 e14 e15 e16 e17) (gE (some (.int (nI 0))) (wM (kM 0 ln (p + 1) lo ri la wk tw sf rl rr re rw rt rs ac sd ce sa ti) (kI 56 le) e2 e3 e4 e5 e6 e7 e8 e9 (kI 2 rat) (kI 2 rfo) e12 e13 e14 e15 e16 e17)) := by
  refine Ct.of (by decide) (by exact Nat.le_of_ble_eq_true rfl) ?_
  show Go mX8_readTower 2 0 [(0, .ref 0)] [] (wM (kM 0 ln p lo ri la wk tw sf rl rr re rw rt rs ac sd ce sa ti) (kI 56 le) e2 e3 e4 e5 e6 e7 e8 e9 (kI 2 rat) (kI 2 rfo) e12 e13 e14 e15 e16 e17) (gE (some (.int (nI 0))) (wM (kM 0 ln (p + 1) lo ri la wk tw sf rl rr re rw rt rs ac sd ce sa ti) (kI 56 le) e2 e3 e4 e5 e6 e7 e8 e9 (kI 2 rat) (kI 2 rfo) e12 e13 e14 e15 e16 e17))
  have q1 := hle p
  have q2 := hle (p + 1)
  have q3 := frM_lt rat rt
  have h1x := h1.1.1
  refine g_aload_n (i := 0) (j := 0) dX8_readTower_0 rfl rfl ?_
  refine g_aload_n (i := 0) (j := 0) dX8_readTower_1 rfl rfl ?_
  refine c_V (st1 := [.int (nI (frM rat rt)), .ref 0]) (ctX8_freeTowers  (by omega) hra) kX8_freeTowers lX8_103 (by decide) rfl rfl rfl rfl (by exact Nat.le_of_ble_eq_true rfl) dX8_readTower_2 rfl rfl ?_
  refine c_V (st1 := [.int (nI (le p - 48))]) (ctX8_one_y (m := frM rat rt) hln hle (by omega) (by omega) (by assumption)) kX8_one lX8_107 (by decide) rfl rfl rfl rfl (by exact Nat.le_of_ble_eq_true rfl) dX8_readTower_5 rfl rfl ?_
  refine g_istore_n (i := 1) (lv' := [(1, .int (nI (le p - 48))), (0, .ref 0)]) dX8_readTower_8 rfl (by decide) rfl ?_
  refine g_iload_n (i := 1) (j := 0) dX8_readTower_9 rfl rfl ?_
  refine g_bipush (v := (-9)) dX8_readTower_10 (by decide) ?_
  refine g_icmp_ne (tgt := 20) dX8_readTower_12 (by decide) (fun h12 => ?_) (fun h12 => ?_)
  · refine g_aload_n (i := 0) (j := 1) dX8_readTower_20 rfl rfl ?_
    refine g_iconst (v := nI 1) dX8_readTower_21 (by decide) ?_
    refine g_iconst (v := nI 4) dX8_readTower_22 (by decide) ?_
    refine c_V (st1 := [.int (-9)]) (ctX8_fig_n (lo0 := 1) (hi0 := 4) hln hle (by omega) (by omega) (by omega) (by assumption)) kX8_figure lX8_96 (by decide) rfl rfl rfl rfl (by exact Nat.le_of_ble_eq_true rfl) dX8_readTower_23 rfl rfl ?_
    refine g_istore_n (i := 2) (lv' := [(2, .int (-9)), (1, .int (nI (le p - 48))), (0, .ref 0)]) dX8_readTower_26 rfl (by decide) rfl ?_
    refine g_iload_n (i := 2) (j := 0) dX8_readTower_27 rfl rfl ?_
    refine g_bipush (v := (-9)) dX8_readTower_28 (by decide) ?_
    refine g_icmp_ne (tgt := 35) dX8_readTower_30 (by decide) (fun h30 => ?_) (fun h30 => ?_)
    · exact absurd rfl h30
    · refine g_iconst (v := nI 0) dX8_readTower_33 (by decide) ?_
      refine g_iret rfl (by decide) dX8_readTower_34 ?_
      exact gE_i rfl rfl
  · exact absurd h12 (nI_n9 (by omega))

