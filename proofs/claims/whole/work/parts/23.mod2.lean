/-! part 23: the model: one alone, towers, sets, note -/
theorem sbm {x : Nat} (h : 0 < x) : nI x + (-1) = nI (x - 1) := by
  obtain ⟨y, rfl⟩ : ∃ y, x = y + 1 := ⟨x - 1, by omega⟩
  exact pk_m1 y
theorem sDW (h : Nat → Nat) (c la ri s at0 : Nat) : sDepth h c (sWater la ri s at0) ≤ 9 := Nat.le_trans (sDepth_le _ _ _) (sWater_le _ _ _ _)
def mSf (sf : Nat) (so : Nat → Nat) : Prop := sf < 1024 ∧ ∀ k, k < 10 → so k = sf / 2 ^ k % 2
theorem lp_goes_on {e1 e5 e6 e7 e8 e9 e10 e11 e12 e13 e14 e15 e16 e17 : va_E} {ts pl lo ri la wk tw sf : Nat} {rl rr re : Int32} {rw rt rs ac : Nat} {sd : Int64} {ce sa ti : Nat} {h pa wa : Nat → Nat} {w s at0 : Nat} (hH : ∀ k, h k ≤ 9) (hpa : ∀ k, pa k ≤ 3) (hwa : ∀ k, wa k ≤ 5) (hla : la ≤ 9) (hri : ri ≤ 3) (hw : w < 5) (hs : s ≤ 41) (hat : at0 ≤ 41) {c0 : Nat} : ∀ (n c : Nat), n ≤ 3 → c ≤ 9 → Go mX8_goes 2 48 [(0, .ref 0), (1, .int (nI w)), (2, .int (nI c0)), (3, .int (nI 1)), (4, .int (nI s)), (5, .int (nI at0)), (6, .int (nI n)), (7, .int (nI c)), (8, .int (nI 1))] [] (wM (kM 0 ts pl lo ri la wk tw sf rl rr re rw rt rs ac sd ce sa ti) e1 (kI 10 h) (kI 5 pa) (kI 5 wa) e5 e6 e7 e8 e9 e10 e11 e12 e13 e14 e15 e16 e17) (gE (some (.int (nI (sOn h (wa w) (sWater la ri s at0) n c)))) (wM (kM 0 ts pl lo ri la wk tw sf rl rr re rw rt rs ac sd ce sa ti) e1 (kI 10 h) (kI 5 pa) (kI 5 wa) e5 e6 e7 e8 e9 e10 e11 e12 e13 e14 e15 e16 e17)) := by
  intro n
  induction n with
  | zero =>
    intro c hn hc
    refine g_iload_n (i := 3) (j := 3) dX8_goes_48 rfl rfl ?_
    refine n_if_eq (tgt := 103) (rng_lit 1 rfl) dX8_goes_49 (by decide) (fun h49 => ?_) (fun h49 => ?_)
    · exact absurd h49 (by decide)
    · refine g_iload (j := 6) dX8_goes_52 rfl ?_
      refine n_if_le (tgt := 103) (rng_lit 0 rfl) dX8_goes_54 (by decide) (fun h54 => ?_) (fun h54 => ?_)
      · refine g_iload (j := 7) dX8_goes_103 rfl ?_
        refine g_iret rfl rfl dX8_goes_105 ?_
        exact gE_i rfl rfl
      · exact absurd h54 (by decide)

  | succ n ih =>
    intro c hn hc
    have hwa1 := hwa w
    have hd1 := sDW h (c + 1) la ri s at0
    have hd2 := sDW h (c - 1) la ri s at0
    refine g_iload_n (i := 3) (j := 3) dX8_goes_48 rfl rfl ?_
    refine n_if_eq (tgt := 103) (rng_lit 1 rfl) dX8_goes_49 (by decide) (fun h49 => ?_) (fun h49 => ?_)
    · exact absurd h49 (by decide)
    · refine g_iload (j := 6) dX8_goes_52 rfl ?_
      refine n_if_le (tgt := 103) (by omega) dX8_goes_54 (by decide) (fun h54 => ?_) (fun h54 => ?_)
      · exfalso; omega
      · refine g_iload (j := 7) dX8_goes_57 rfl ?_
        refine g_iload (j := 8) dX8_goes_59 rfl ?_
        refine n_iadd (a := c) (b := 1) dX8_goes_61 ?_
        refine c_S (st1 := [.int (nI (bN (10 ≤ c + 1)))]) (ctX8_noCellN (x := c + 1) (by omega)) kX8_noCell lX8_160 (by decide) rfl (by exact Nat.le_of_ble_eq_true rfl) dX8_goes_62 rfl rfl ?_
        refine b_if_ne (tgt := 103) dX8_goes_65 (by decide) (fun h65 => ?_) (fun h65 => ?_)
        · refine g_iload (j := 7) dX8_goes_103 rfl ?_
          refine g_iret rfl rfl dX8_goes_105 ?_
          exact gE_n (by rw [sOn, if_pos (by omega)]) rfl
        · refine g_aload_n (i := 0) (j := 0) dX8_goes_68 rfl rfl ?_
          refine g_iload (j := 7) dX8_goes_69 rfl ?_
          refine g_iload (j := 8) dX8_goes_71 rfl ?_
          refine n_iadd (a := c) (b := 1) dX8_goes_73 ?_
          refine g_iload (j := 4) dX8_goes_74 rfl ?_
          refine g_iload (j := 5) dX8_goes_76 rfl ?_
          refine c_V (st1 := [.int (nI (sDepth h (c + 1) (sWater la ri s at0)))]) (ctX8_deepBy (c := c + 1) (s := s) (at0 := at0) hH (by omega) (by omega) (by first | omega | exact hpa _ | exact hwa _ | exact hr1 _ (by omega) | exact hr6 _ (by omega) | exact hr11 _ (by omega) | exact hr _ | exact Nat.le_succ_of_le (hr _)) (by first | omega | exact hpa _ | exact hwa _ | exact hr1 _ (by omega) | exact hr6 _ (by omega) | exact hr11 _ (by omega) | exact hr _ | exact Nat.le_succ_of_le (hr _)) (by first | omega | exact hpa _ | exact hwa _ | exact hr1 _ (by omega) | exact hr6 _ (by omega) | exact hr11 _ (by omega) | exact hr _ | exact Nat.le_succ_of_le (hr _))) kX8_deepBy lX8_167 (by decide) rfl rfl rfl rfl (by exact Nat.le_of_ble_eq_true rfl) dX8_goes_78 rfl rfl ?_
          refine g_aload_n (i := 0) (j := 0) dX8_goes_81 rfl rfl ?_
          refine g_get fX8_23 rfl rfl dX8_goes_82 ?_
          refine g_iload_n (i := 1) (j := 1) dX8_goes_85 rfl rfl ?_
          refine n_iald (x := w) rfl (by omega) (rng_lit 5 rfl) dX8_goes_86 ?_
          refine n_icmp_gt (tgt := 103) (by omega) (by omega) dX8_goes_87 (by decide) (fun h87 => ?_) (fun h87 => ?_)
          · refine g_iload (j := 7) dX8_goes_103 rfl ?_
            refine g_iret rfl rfl dX8_goes_105 ?_
            exact gE_n (by rw [sOn, if_pos (by omega)]) rfl
          · have q0 := h87
            refine g_iload (j := 7) dX8_goes_90 rfl ?_
            refine g_iload (j := 8) dX8_goes_92 rfl ?_
            refine n_iadd (a := c) (b := 1) dX8_goes_94 ?_
            refine g_istore (lv' := [(7, .int (nI (c + 1))), (0, .ref 0), (1, .int (nI w)), (2, .int (nI c0)), (3, .int (nI 1)), (4, .int (nI s)), (5, .int (nI at0)), (6, .int (nI (n + 1))), (8, .int (nI 1))]) dX8_goes_95 (by decide) rfl ?_
            refine n_dec (x := (n + 1)) (j := 7) (lv' := [(6, .int (nI (n + 1 - 1))), (7, .int (nI (c + 1))), (0, .ref 0), (1, .int (nI w)), (2, .int (nI c0)), (3, .int (nI 1)), (4, .int (nI s)), (5, .int (nI at0)), (8, .int (nI 1))]) (by omega) dX8_goes_97 rfl (by decide) rfl ?_
            refine g_goto (tgt := 48) dX8_goes_100 (by decide) ?_
            refine g_lv [2, 3, 4, 5, 6, 7, 0, 1, 8] rfl ?_
            rw [sOn, if_neg (by omega)]
            exact ih (c + 1) (by omega) (by omega)

theorem lp_goes_bk {e1 e5 e6 e7 e8 e9 e10 e11 e12 e13 e14 e15 e16 e17 : va_E} {ts pl lo ri la wk tw sf : Nat} {rl rr re : Int32} {rw rt rs ac : Nat} {sd : Int64} {ce sa ti : Nat} {h pa wa : Nat → Nat} {w s at0 : Nat} (hH : ∀ k, h k ≤ 9) (hpa : ∀ k, pa k ≤ 3) (hwa : ∀ k, wa k ≤ 5) (hla : la ≤ 9) (hri : ri ≤ 3) (hw : w < 5) (hs : s ≤ 41) (hat : at0 ≤ 41) {c0 : Nat} : ∀ (n c : Nat), n ≤ 3 → c ≤ 9 → Go mX8_goes 2 48 [(0, .ref 0), (1, .int (nI w)), (2, .int (nI c0)), (3, .int (nI 2)), (4, .int (nI s)), (5, .int (nI at0)), (6, .int (nI n)), (7, .int (nI c)), (8, .int (-1))] [] (wM (kM 0 ts pl lo ri la wk tw sf rl rr re rw rt rs ac sd ce sa ti) e1 (kI 10 h) (kI 5 pa) (kI 5 wa) e5 e6 e7 e8 e9 e10 e11 e12 e13 e14 e15 e16 e17) (gE (some (.int (nI (sBk h (wa w) (sWater la ri s at0) n c)))) (wM (kM 0 ts pl lo ri la wk tw sf rl rr re rw rt rs ac sd ce sa ti) e1 (kI 10 h) (kI 5 pa) (kI 5 wa) e5 e6 e7 e8 e9 e10 e11 e12 e13 e14 e15 e16 e17)) := by
  intro n
  induction n with
  | zero =>
    intro c hn hc
    refine g_iload_n (i := 3) (j := 3) dX8_goes_48 rfl rfl ?_
    refine n_if_eq (tgt := 103) (rng_lit 2 rfl) dX8_goes_49 (by decide) (fun h49 => ?_) (fun h49 => ?_)
    · exact absurd h49 (by decide)
    · refine g_iload (j := 6) dX8_goes_52 rfl ?_
      refine n_if_le (tgt := 103) (rng_lit 0 rfl) dX8_goes_54 (by decide) (fun h54 => ?_) (fun h54 => ?_)
      · refine g_iload (j := 7) dX8_goes_103 rfl ?_
        refine g_iret rfl rfl dX8_goes_105 ?_
        exact gE_i rfl rfl
      · exact absurd h54 (by decide)

  | succ n ih =>
    intro c hn hc
    have hwa1 := hwa w
    have hd1 := sDW h (c + 1) la ri s at0
    have hd2 := sDW h (c - 1) la ri s at0
    refine g_iload_n (i := 3) (j := 3) dX8_goes_48 rfl rfl ?_
    refine n_if_eq (tgt := 103) (rng_lit 2 rfl) dX8_goes_49 (by decide) (fun h49 => ?_) (fun h49 => ?_)
    · exact absurd h49 (by decide)
    · refine g_iload (j := 6) dX8_goes_52 rfl ?_
      refine n_if_le (tgt := 103) (by omega) dX8_goes_54 (by decide) (fun h54 => ?_) (fun h54 => ?_)
      · exfalso; omega
      · rcases Nat.eq_zero_or_pos c with hc0 | hc0
        · subst hc0
          refine g_iload (j := 7) dX8_goes_57 rfl ?_
          refine g_iload (j := 8) dX8_goes_59 rfl ?_
          refine g_iadd dX8_goes_61 ?_
          refine c_S (st1 := [.int (nI (bN (¬ iW ((nI 0) + (-1)) 10)))]) (ctX8_noCell (x := ((nI 0) + (-1))) ) kX8_noCell lX8_160 (by decide) rfl (by exact Nat.le_of_ble_eq_true rfl) dX8_goes_62 rfl rfl ?_
          refine b_if_ne (tgt := 103) dX8_goes_65 (by decide) (fun h65 => ?_) (fun h65 => ?_)
          · refine g_iload (j := 7) dX8_goes_103 rfl ?_
            refine g_iret rfl rfl dX8_goes_105 ?_
            exact gE_n (by rw [sBk, if_pos (by omega)]) rfl
          · exact absurd (by decide : ¬ iW ((nI 0) + (-1)) 10) h65
        · skip
          refine g_iload (j := 7) dX8_goes_57 rfl ?_
          refine g_iload (j := 8) dX8_goes_59 rfl ?_
          refine g_iadd dX8_goes_61 ?_
          refine g_topi (y := nI (c - 1)) (sbm hc0) ?_
          refine c_S (st1 := [.int (nI (bN (10 ≤ c - 1)))]) (ctX8_noCellN (x := c - 1) (by omega)) kX8_noCell lX8_160 (by decide) rfl (by exact Nat.le_of_ble_eq_true rfl) dX8_goes_62 rfl rfl ?_
          refine b_if_ne (tgt := 103) dX8_goes_65 (by decide) (fun h65 => ?_) (fun h65 => ?_)
          · refine g_iload (j := 7) dX8_goes_103 rfl ?_
            refine g_iret rfl rfl dX8_goes_105 ?_
            exact gE_n (by rw [sBk, if_pos (by omega)]) rfl
          · refine g_aload_n (i := 0) (j := 0) dX8_goes_68 rfl rfl ?_
            refine g_iload (j := 7) dX8_goes_69 rfl ?_
            refine g_iload (j := 8) dX8_goes_71 rfl ?_
            refine g_iadd dX8_goes_73 ?_
            refine g_topi (y := nI (c - 1)) (sbm hc0) ?_
            refine g_iload (j := 4) dX8_goes_74 rfl ?_
            refine g_iload (j := 5) dX8_goes_76 rfl ?_
            refine c_V (st1 := [.int (nI (sDepth h (c - 1) (sWater la ri s at0)))]) (ctX8_deepBy (c := c - 1) (s := s) (at0 := at0) hH (by omega) (by omega) (by first | omega | exact hpa _ | exact hwa _ | exact hr1 _ (by omega) | exact hr6 _ (by omega) | exact hr11 _ (by omega) | exact hr _ | exact Nat.le_succ_of_le (hr _)) (by first | omega | exact hpa _ | exact hwa _ | exact hr1 _ (by omega) | exact hr6 _ (by omega) | exact hr11 _ (by omega) | exact hr _ | exact Nat.le_succ_of_le (hr _)) (by first | omega | exact hpa _ | exact hwa _ | exact hr1 _ (by omega) | exact hr6 _ (by omega) | exact hr11 _ (by omega) | exact hr _ | exact Nat.le_succ_of_le (hr _))) kX8_deepBy lX8_167 (by decide) rfl rfl rfl rfl (by exact Nat.le_of_ble_eq_true rfl) dX8_goes_78 rfl rfl ?_
            refine g_aload_n (i := 0) (j := 0) dX8_goes_81 rfl rfl ?_
            refine g_get fX8_23 rfl rfl dX8_goes_82 ?_
            refine g_iload_n (i := 1) (j := 1) dX8_goes_85 rfl rfl ?_
            refine n_iald (x := w) rfl (by omega) (rng_lit 5 rfl) dX8_goes_86 ?_
            refine n_icmp_gt (tgt := 103) (by omega) (by omega) dX8_goes_87 (by decide) (fun h87 => ?_) (fun h87 => ?_)
            · refine g_iload (j := 7) dX8_goes_103 rfl ?_
              refine g_iret rfl rfl dX8_goes_105 ?_
              exact gE_n (by rw [sBk, if_pos (by omega)]) rfl
            · refine g_iload (j := 7) dX8_goes_90 rfl ?_
              refine g_iload (j := 8) dX8_goes_92 rfl ?_
              refine g_iadd dX8_goes_94 ?_
              refine g_topi (y := nI (c - 1)) (sbm hc0) ?_
              refine g_istore (lv' := [(7, .int (nI (c - 1))), (0, .ref 0), (1, .int (nI w)), (2, .int (nI c0)), (3, .int (nI 2)), (4, .int (nI s)), (5, .int (nI at0)), (6, .int (nI (n + 1))), (8, .int (-1))]) dX8_goes_95 (by decide) rfl ?_
              refine n_dec (x := (n + 1)) (j := 7) (lv' := [(6, .int (nI (n + 1 - 1))), (7, .int (nI (c - 1))), (0, .ref 0), (1, .int (nI w)), (2, .int (nI c0)), (3, .int (nI 2)), (4, .int (nI s)), (5, .int (nI at0)), (8, .int (-1))]) (by omega) dX8_goes_97 rfl (by decide) rfl ?_
              refine g_goto (tgt := 48) dX8_goes_100 (by decide) ?_
              refine g_lv [2, 3, 4, 5, 6, 7, 0, 1, 8] rfl ?_
              rw [sBk, if_neg (by omega)]
              exact ih (c - 1) (by omega) (by omega)




theorem ctX8_goes_0 {e1 e5 e6 e7 e8 e9 e10 e11 e12 e13 e14 e15 e16 e17 : va_E} {ts pl lo ri la wk tw sf : Nat} {rl rr re : Int32} {rw rt rs ac : Nat} {sd : Int64} {ce sa ti : Nat} {h pa wa : Nat → Nat} {w s at0 : Nat} (hH : ∀ k, h k ≤ 9) (hpa : ∀ k, pa k ≤ 3) (hwa : ∀ k, wa k ≤ 5) (hla : la ≤ 9) (hri : ri ≤ 3) (hw : w < 5) (hs : s ≤ 41) (hat : at0 ≤ 41) {c0 : Nat} (hc : c0 ≤ 9) : Ct mX8_goes 2 [.ref 0, .int (nI w), .int (nI c0), .int (nI 0), .int (nI s), .int (nI at0)] (wM (kM 0 ts pl lo ri la wk tw sf rl rr re rw rt rs ac sd ce sa ti) e1 (kI 10 h) (kI 5 pa) (kI 5 wa) e5 e6 e7 e8 e9 e10 e11 e12 e13 e14 e15 e16 e17) (gE (some (.int (nI (sTo h (pa w) (wa w) c0 0 (sWater la ri s at0))))) (wM (kM 0 ts pl lo ri la wk tw sf rl rr re rw rt rs ac sd ce sa ti) e1 (kI 10 h) (kI 5 pa) (kI 5 wa) e5 e6 e7 e8 e9 e10 e11 e12 e13 e14 e15 e16 e17)) := by
  refine Ct.of (by decide) (by exact Nat.le_of_ble_eq_true rfl) ?_
  show Go mX8_goes 2 0 [(0, .ref 0), (1, .int (nI w)), (2, .int (nI c0)), (3, .int (nI 0)), (4, .int (nI s)), (5, .int (nI at0))] [] (wM (kM 0 ts pl lo ri la wk tw sf rl rr re rw rt rs ac sd ce sa ti) e1 (kI 10 h) (kI 5 pa) (kI 5 wa) e5 e6 e7 e8 e9 e10 e11 e12 e13 e14 e15 e16 e17) (gE (some (.int (nI (sTo h (pa w) (wa w) c0 0 (sWater la ri s at0))))) (wM (kM 0 ts pl lo ri la wk tw sf rl rr re rw rt rs ac sd ce sa ti) e1 (kI 10 h) (kI 5 pa) (kI 5 wa) e5 e6 e7 e8 e9 e10 e11 e12 e13 e14 e15 e16 e17))
  have hpa1 := hpa w
  have hd0 := sDW h c0 la ri s at0
  refine g_aload_n (i := 0) (j := 0) dX8_goes_0 rfl rfl ?_
  refine g_iload_n (i := 2) (j := 2) dX8_goes_1 rfl rfl ?_
  refine g_iload (j := 4) dX8_goes_2 rfl ?_
  refine g_iload (j := 5) dX8_goes_4 rfl ?_
  refine c_V (st1 := [.int (nI (sDepth h c0 (sWater la ri s at0)))]) (ctX8_deepBy (c := c0) (s := s) (at0 := at0) hH (by omega) (by omega) (by first | omega | exact hpa _ | exact hwa _ | exact hr1 _ (by omega) | exact hr6 _ (by omega) | exact hr11 _ (by omega) | exact hr _ | exact Nat.le_succ_of_le (hr _)) (by first | omega | exact hpa _ | exact hwa _ | exact hr1 _ (by omega) | exact hr6 _ (by omega) | exact hr11 _ (by omega) | exact hr _ | exact Nat.le_succ_of_le (hr _)) (by first | omega | exact hpa _ | exact hwa _ | exact hr1 _ (by omega) | exact hr6 _ (by omega) | exact hr11 _ (by omega) | exact hr _ | exact Nat.le_succ_of_le (hr _))) kX8_deepBy lX8_167 (by decide) rfl rfl rfl rfl (by exact Nat.le_of_ble_eq_true rfl) dX8_goes_6 rfl rfl ?_
  refine n_if_le (tgt := 25) (by omega) dX8_goes_9 (by decide) (fun h9 => ?_) (fun h9 => ?_)
  · refine g_aload_n (i := 0) (j := 0) dX8_goes_25 rfl rfl ?_
    refine g_get fX8_20 rfl rfl dX8_goes_26 ?_
    refine g_iload_n (i := 1) (j := 1) dX8_goes_29 rfl rfl ?_
    refine n_iald (x := w) rfl (by omega) (rng_lit 5 rfl) dX8_goes_30 ?_
    refine g_istore (lv' := [(6, .int (nI (pa w))), (0, .ref 0), (1, .int (nI w)), (2, .int (nI c0)), (3, .int (nI 0)), (4, .int (nI s)), (5, .int (nI at0))]) dX8_goes_31 (by decide) rfl ?_
    refine g_iload_n (i := 2) (j := 3) dX8_goes_33 rfl rfl ?_
    refine g_istore (lv' := [(7, .int (nI c0)), (6, .int (nI (pa w))), (0, .ref 0), (1, .int (nI w)), (2, .int (nI c0)), (3, .int (nI 0)), (4, .int (nI s)), (5, .int (nI at0))]) dX8_goes_34 (by decide) rfl ?_
    refine g_iload_n (i := 3) (j := 5) dX8_goes_36 rfl rfl ?_
    refine g_iconst (v := nI 1) dX8_goes_37 (by decide) ?_
    refine n_icmp_ne (tgt := 45) (rng_lit 0 rfl) (rng_lit 1 rfl) dX8_goes_38 (by decide) (fun h38 => ?_) (fun h38 => ?_)
    · refine g_iconst (v := (-1)) dX8_goes_45 (by decide) ?_
      refine g_istore (lv' := [(8, .int (-1)), (7, .int (nI c0)), (6, .int (nI (pa w))), (0, .ref 0), (1, .int (nI w)), (2, .int (nI c0)), (3, .int (nI 0)), (4, .int (nI s)), (5, .int (nI at0))]) dX8_goes_46 (by decide) rfl ?_
      refine g_iload_n (i := 3) (j := 6) dX8_goes_48 rfl rfl ?_
      refine n_if_eq (tgt := 103) (rng_lit 0 rfl) dX8_goes_49 (by decide) (fun h49 => ?_) (fun h49 => ?_)
      · refine g_iload (j := 1) dX8_goes_103 rfl ?_
        refine g_iret rfl rfl dX8_goes_105 ?_
        exact gE_n rfl rfl
      · exact absurd h49 (by decide)
    · exact absurd h38 (by decide)
  · refine g_aload_n (i := 0) (j := 0) dX8_goes_12 rfl rfl ?_
    refine g_get fX8_20 rfl rfl dX8_goes_13 ?_
    refine g_iload_n (i := 1) (j := 1) dX8_goes_16 rfl rfl ?_
    refine n_iald (x := w) rfl (by omega) (rng_lit 5 rfl) dX8_goes_17 ?_
    refine g_iconst (v := nI 1) dX8_goes_18 (by decide) ?_
    refine n_iadd (a := (pa w)) (b := 1) dX8_goes_19 ?_
    refine g_iconst (v := nI 2) dX8_goes_20 (by decide) ?_
    refine n_idiv (a := ((pa w) + 1)) (b := 2) (by omega) (by omega) (rng_lit 2 rfl) dX8_goes_21 ?_
    refine g_goto (tgt := 31) dX8_goes_22 (by decide) ?_
    refine g_istore (lv' := [(6, .int (nI (((pa w) + 1) / 2))), (0, .ref 0), (1, .int (nI w)), (2, .int (nI c0)), (3, .int (nI 0)), (4, .int (nI s)), (5, .int (nI at0))]) dX8_goes_31 (by decide) rfl ?_
    refine g_iload_n (i := 2) (j := 3) dX8_goes_33 rfl rfl ?_
    refine g_istore (lv' := [(7, .int (nI c0)), (6, .int (nI (((pa w) + 1) / 2))), (0, .ref 0), (1, .int (nI w)), (2, .int (nI c0)), (3, .int (nI 0)), (4, .int (nI s)), (5, .int (nI at0))]) dX8_goes_34 (by decide) rfl ?_
    refine g_iload_n (i := 3) (j := 5) dX8_goes_36 rfl rfl ?_
    refine g_iconst (v := nI 1) dX8_goes_37 (by decide) ?_
    refine n_icmp_ne (tgt := 45) (rng_lit 0 rfl) (rng_lit 1 rfl) dX8_goes_38 (by decide) (fun h38 => ?_) (fun h38 => ?_)
    · refine g_iconst (v := (-1)) dX8_goes_45 (by decide) ?_
      refine g_istore (lv' := [(8, .int (-1)), (7, .int (nI c0)), (6, .int (nI (((pa w) + 1) / 2))), (0, .ref 0), (1, .int (nI w)), (2, .int (nI c0)), (3, .int (nI 0)), (4, .int (nI s)), (5, .int (nI at0))]) dX8_goes_46 (by decide) rfl ?_
      refine g_iload_n (i := 3) (j := 6) dX8_goes_48 rfl rfl ?_
      refine n_if_eq (tgt := 103) (rng_lit 0 rfl) dX8_goes_49 (by decide) (fun h49 => ?_) (fun h49 => ?_)
      · refine g_iload (j := 1) dX8_goes_103 rfl ?_
        refine g_iret rfl rfl dX8_goes_105 ?_
        exact gE_n rfl rfl
      · exact absurd h49 (by decide)
    · exact absurd h38 (by decide)

theorem ctX8_goes_1 {e1 e5 e6 e7 e8 e9 e10 e11 e12 e13 e14 e15 e16 e17 : va_E} {ts pl lo ri la wk tw sf : Nat} {rl rr re : Int32} {rw rt rs ac : Nat} {sd : Int64} {ce sa ti : Nat} {h pa wa : Nat → Nat} {w s at0 : Nat} (hH : ∀ k, h k ≤ 9) (hpa : ∀ k, pa k ≤ 3) (hwa : ∀ k, wa k ≤ 5) (hla : la ≤ 9) (hri : ri ≤ 3) (hw : w < 5) (hs : s ≤ 41) (hat : at0 ≤ 41) {c0 : Nat} (hc : c0 ≤ 9) : Ct mX8_goes 2 [.ref 0, .int (nI w), .int (nI c0), .int (nI 1), .int (nI s), .int (nI at0)] (wM (kM 0 ts pl lo ri la wk tw sf rl rr re rw rt rs ac sd ce sa ti) e1 (kI 10 h) (kI 5 pa) (kI 5 wa) e5 e6 e7 e8 e9 e10 e11 e12 e13 e14 e15 e16 e17) (gE (some (.int (nI (sTo h (pa w) (wa w) c0 1 (sWater la ri s at0))))) (wM (kM 0 ts pl lo ri la wk tw sf rl rr re rw rt rs ac sd ce sa ti) e1 (kI 10 h) (kI 5 pa) (kI 5 wa) e5 e6 e7 e8 e9 e10 e11 e12 e13 e14 e15 e16 e17)) := by
  refine Ct.of (by decide) (by exact Nat.le_of_ble_eq_true rfl) ?_
  show Go mX8_goes 2 0 [(0, .ref 0), (1, .int (nI w)), (2, .int (nI c0)), (3, .int (nI 1)), (4, .int (nI s)), (5, .int (nI at0))] [] (wM (kM 0 ts pl lo ri la wk tw sf rl rr re rw rt rs ac sd ce sa ti) e1 (kI 10 h) (kI 5 pa) (kI 5 wa) e5 e6 e7 e8 e9 e10 e11 e12 e13 e14 e15 e16 e17) (gE (some (.int (nI (sTo h (pa w) (wa w) c0 1 (sWater la ri s at0))))) (wM (kM 0 ts pl lo ri la wk tw sf rl rr re rw rt rs ac sd ce sa ti) e1 (kI 10 h) (kI 5 pa) (kI 5 wa) e5 e6 e7 e8 e9 e10 e11 e12 e13 e14 e15 e16 e17))
  have hpa1 := hpa w
  have hd0 := sDW h c0 la ri s at0
  refine g_aload_n (i := 0) (j := 0) dX8_goes_0 rfl rfl ?_
  refine g_iload_n (i := 2) (j := 2) dX8_goes_1 rfl rfl ?_
  refine g_iload (j := 4) dX8_goes_2 rfl ?_
  refine g_iload (j := 5) dX8_goes_4 rfl ?_
  refine c_V (st1 := [.int (nI (sDepth h c0 (sWater la ri s at0)))]) (ctX8_deepBy (c := c0) (s := s) (at0 := at0) hH (by omega) (by omega) (by first | omega | exact hpa _ | exact hwa _ | exact hr1 _ (by omega) | exact hr6 _ (by omega) | exact hr11 _ (by omega) | exact hr _ | exact Nat.le_succ_of_le (hr _)) (by first | omega | exact hpa _ | exact hwa _ | exact hr1 _ (by omega) | exact hr6 _ (by omega) | exact hr11 _ (by omega) | exact hr _ | exact Nat.le_succ_of_le (hr _)) (by first | omega | exact hpa _ | exact hwa _ | exact hr1 _ (by omega) | exact hr6 _ (by omega) | exact hr11 _ (by omega) | exact hr _ | exact Nat.le_succ_of_le (hr _))) kX8_deepBy lX8_167 (by decide) rfl rfl rfl rfl (by exact Nat.le_of_ble_eq_true rfl) dX8_goes_6 rfl rfl ?_
  refine n_if_le (tgt := 25) (by omega) dX8_goes_9 (by decide) (fun h9 => ?_) (fun h9 => ?_)
  · refine g_aload_n (i := 0) (j := 0) dX8_goes_25 rfl rfl ?_
    refine g_get fX8_20 rfl rfl dX8_goes_26 ?_
    refine g_iload_n (i := 1) (j := 1) dX8_goes_29 rfl rfl ?_
    refine n_iald (x := w) rfl (by omega) (rng_lit 5 rfl) dX8_goes_30 ?_
    refine g_istore (lv' := [(6, .int (nI (pa w))), (0, .ref 0), (1, .int (nI w)), (2, .int (nI c0)), (3, .int (nI 1)), (4, .int (nI s)), (5, .int (nI at0))]) dX8_goes_31 (by decide) rfl ?_
    refine g_iload_n (i := 2) (j := 3) dX8_goes_33 rfl rfl ?_
    refine g_istore (lv' := [(7, .int (nI c0)), (6, .int (nI (pa w))), (0, .ref 0), (1, .int (nI w)), (2, .int (nI c0)), (3, .int (nI 1)), (4, .int (nI s)), (5, .int (nI at0))]) dX8_goes_34 (by decide) rfl ?_
    refine g_iload_n (i := 3) (j := 5) dX8_goes_36 rfl rfl ?_
    refine g_iconst (v := nI 1) dX8_goes_37 (by decide) ?_
    refine n_icmp_ne (tgt := 45) (rng_lit 1 rfl) (rng_lit 1 rfl) dX8_goes_38 (by decide) (fun h38 => ?_) (fun h38 => ?_)
    · exact absurd h38 (by decide)
    · refine g_iconst (v := nI 1) dX8_goes_41 (by decide) ?_
      refine g_goto (tgt := 46) dX8_goes_42 (by decide) ?_
      refine g_istore (lv' := [(8, .int (nI 1)), (7, .int (nI c0)), (6, .int (nI (pa w))), (0, .ref 0), (1, .int (nI w)), (2, .int (nI c0)), (3, .int (nI 1)), (4, .int (nI s)), (5, .int (nI at0))]) dX8_goes_46 (by decide) rfl ?_
      refine g_lv [3, 4, 5, 6, 7, 8, 2, 1, 0] rfl ?_
      have e : sTo h (pa w) (wa w) c0 1 (sWater la ri s at0) = sOn h (wa w) (sWater la ri s at0) (pa w) c0 := by
        show sOn h (wa w) (sWater la ri s at0) (sPace h (pa w) c0 (sWater la ri s at0)) c0 = _
        unfold sPace
        first | rw [if_pos h9] | rw [if_neg (by omega)]
      rw [e]
      exact lp_goes_on hH hpa hwa hla hri hw hs hat _ _ (by omega) hc
  · refine g_aload_n (i := 0) (j := 0) dX8_goes_12 rfl rfl ?_
    refine g_get fX8_20 rfl rfl dX8_goes_13 ?_
    refine g_iload_n (i := 1) (j := 1) dX8_goes_16 rfl rfl ?_
    refine n_iald (x := w) rfl (by omega) (rng_lit 5 rfl) dX8_goes_17 ?_
    refine g_iconst (v := nI 1) dX8_goes_18 (by decide) ?_
    refine n_iadd (a := (pa w)) (b := 1) dX8_goes_19 ?_
    refine g_iconst (v := nI 2) dX8_goes_20 (by decide) ?_
    refine n_idiv (a := ((pa w) + 1)) (b := 2) (by omega) (by omega) (rng_lit 2 rfl) dX8_goes_21 ?_
    refine g_goto (tgt := 31) dX8_goes_22 (by decide) ?_
    refine g_istore (lv' := [(6, .int (nI (((pa w) + 1) / 2))), (0, .ref 0), (1, .int (nI w)), (2, .int (nI c0)), (3, .int (nI 1)), (4, .int (nI s)), (5, .int (nI at0))]) dX8_goes_31 (by decide) rfl ?_
    refine g_iload_n (i := 2) (j := 3) dX8_goes_33 rfl rfl ?_
    refine g_istore (lv' := [(7, .int (nI c0)), (6, .int (nI (((pa w) + 1) / 2))), (0, .ref 0), (1, .int (nI w)), (2, .int (nI c0)), (3, .int (nI 1)), (4, .int (nI s)), (5, .int (nI at0))]) dX8_goes_34 (by decide) rfl ?_
    refine g_iload_n (i := 3) (j := 5) dX8_goes_36 rfl rfl ?_
    refine g_iconst (v := nI 1) dX8_goes_37 (by decide) ?_
    refine n_icmp_ne (tgt := 45) (rng_lit 1 rfl) (rng_lit 1 rfl) dX8_goes_38 (by decide) (fun h38 => ?_) (fun h38 => ?_)
    · exact absurd h38 (by decide)
    · refine g_iconst (v := nI 1) dX8_goes_41 (by decide) ?_
      refine g_goto (tgt := 46) dX8_goes_42 (by decide) ?_
      refine g_istore (lv' := [(8, .int (nI 1)), (7, .int (nI c0)), (6, .int (nI (((pa w) + 1) / 2))), (0, .ref 0), (1, .int (nI w)), (2, .int (nI c0)), (3, .int (nI 1)), (4, .int (nI s)), (5, .int (nI at0))]) dX8_goes_46 (by decide) rfl ?_
      refine g_lv [3, 4, 5, 6, 7, 8, 2, 1, 0] rfl ?_
      have e : sTo h (pa w) (wa w) c0 1 (sWater la ri s at0) = sOn h (wa w) (sWater la ri s at0) (((pa w) + 1) / 2) c0 := by
        show sOn h (wa w) (sWater la ri s at0) (sPace h (pa w) c0 (sWater la ri s at0)) c0 = _
        unfold sPace
        first | rw [if_pos h9] | rw [if_neg (by omega)]
      rw [e]
      exact lp_goes_on hH hpa hwa hla hri hw hs hat _ _ (by omega) hc

theorem ctX8_goes_2 {e1 e5 e6 e7 e8 e9 e10 e11 e12 e13 e14 e15 e16 e17 : va_E} {ts pl lo ri la wk tw sf : Nat} {rl rr re : Int32} {rw rt rs ac : Nat} {sd : Int64} {ce sa ti : Nat} {h pa wa : Nat → Nat} {w s at0 : Nat} (hH : ∀ k, h k ≤ 9) (hpa : ∀ k, pa k ≤ 3) (hwa : ∀ k, wa k ≤ 5) (hla : la ≤ 9) (hri : ri ≤ 3) (hw : w < 5) (hs : s ≤ 41) (hat : at0 ≤ 41) {c0 : Nat} (hc : c0 ≤ 9) : Ct mX8_goes 2 [.ref 0, .int (nI w), .int (nI c0), .int (nI 2), .int (nI s), .int (nI at0)] (wM (kM 0 ts pl lo ri la wk tw sf rl rr re rw rt rs ac sd ce sa ti) e1 (kI 10 h) (kI 5 pa) (kI 5 wa) e5 e6 e7 e8 e9 e10 e11 e12 e13 e14 e15 e16 e17) (gE (some (.int (nI (sTo h (pa w) (wa w) c0 2 (sWater la ri s at0))))) (wM (kM 0 ts pl lo ri la wk tw sf rl rr re rw rt rs ac sd ce sa ti) e1 (kI 10 h) (kI 5 pa) (kI 5 wa) e5 e6 e7 e8 e9 e10 e11 e12 e13 e14 e15 e16 e17)) := by
  refine Ct.of (by decide) (by exact Nat.le_of_ble_eq_true rfl) ?_
  show Go mX8_goes 2 0 [(0, .ref 0), (1, .int (nI w)), (2, .int (nI c0)), (3, .int (nI 2)), (4, .int (nI s)), (5, .int (nI at0))] [] (wM (kM 0 ts pl lo ri la wk tw sf rl rr re rw rt rs ac sd ce sa ti) e1 (kI 10 h) (kI 5 pa) (kI 5 wa) e5 e6 e7 e8 e9 e10 e11 e12 e13 e14 e15 e16 e17) (gE (some (.int (nI (sTo h (pa w) (wa w) c0 2 (sWater la ri s at0))))) (wM (kM 0 ts pl lo ri la wk tw sf rl rr re rw rt rs ac sd ce sa ti) e1 (kI 10 h) (kI 5 pa) (kI 5 wa) e5 e6 e7 e8 e9 e10 e11 e12 e13 e14 e15 e16 e17))
  have hpa1 := hpa w
  have hd0 := sDW h c0 la ri s at0
  refine g_aload_n (i := 0) (j := 0) dX8_goes_0 rfl rfl ?_
  refine g_iload_n (i := 2) (j := 2) dX8_goes_1 rfl rfl ?_
  refine g_iload (j := 4) dX8_goes_2 rfl ?_
  refine g_iload (j := 5) dX8_goes_4 rfl ?_
  refine c_V (st1 := [.int (nI (sDepth h c0 (sWater la ri s at0)))]) (ctX8_deepBy (c := c0) (s := s) (at0 := at0) hH (by omega) (by omega) (by first | omega | exact hpa _ | exact hwa _ | exact hr1 _ (by omega) | exact hr6 _ (by omega) | exact hr11 _ (by omega) | exact hr _ | exact Nat.le_succ_of_le (hr _)) (by first | omega | exact hpa _ | exact hwa _ | exact hr1 _ (by omega) | exact hr6 _ (by omega) | exact hr11 _ (by omega) | exact hr _ | exact Nat.le_succ_of_le (hr _)) (by first | omega | exact hpa _ | exact hwa _ | exact hr1 _ (by omega) | exact hr6 _ (by omega) | exact hr11 _ (by omega) | exact hr _ | exact Nat.le_succ_of_le (hr _))) kX8_deepBy lX8_167 (by decide) rfl rfl rfl rfl (by exact Nat.le_of_ble_eq_true rfl) dX8_goes_6 rfl rfl ?_
  refine n_if_le (tgt := 25) (by omega) dX8_goes_9 (by decide) (fun h9 => ?_) (fun h9 => ?_)
  · refine g_aload_n (i := 0) (j := 0) dX8_goes_25 rfl rfl ?_
    refine g_get fX8_20 rfl rfl dX8_goes_26 ?_
    refine g_iload_n (i := 1) (j := 1) dX8_goes_29 rfl rfl ?_
    refine n_iald (x := w) rfl (by omega) (rng_lit 5 rfl) dX8_goes_30 ?_
    refine g_istore (lv' := [(6, .int (nI (pa w))), (0, .ref 0), (1, .int (nI w)), (2, .int (nI c0)), (3, .int (nI 2)), (4, .int (nI s)), (5, .int (nI at0))]) dX8_goes_31 (by decide) rfl ?_
    refine g_iload_n (i := 2) (j := 3) dX8_goes_33 rfl rfl ?_
    refine g_istore (lv' := [(7, .int (nI c0)), (6, .int (nI (pa w))), (0, .ref 0), (1, .int (nI w)), (2, .int (nI c0)), (3, .int (nI 2)), (4, .int (nI s)), (5, .int (nI at0))]) dX8_goes_34 (by decide) rfl ?_
    refine g_iload_n (i := 3) (j := 5) dX8_goes_36 rfl rfl ?_
    refine g_iconst (v := nI 1) dX8_goes_37 (by decide) ?_
    refine n_icmp_ne (tgt := 45) (rng_lit 2 rfl) (rng_lit 1 rfl) dX8_goes_38 (by decide) (fun h38 => ?_) (fun h38 => ?_)
    · refine g_iconst (v := (-1)) dX8_goes_45 (by decide) ?_
      refine g_istore (lv' := [(8, .int (-1)), (7, .int (nI c0)), (6, .int (nI (pa w))), (0, .ref 0), (1, .int (nI w)), (2, .int (nI c0)), (3, .int (nI 2)), (4, .int (nI s)), (5, .int (nI at0))]) dX8_goes_46 (by decide) rfl ?_
      refine g_lv [3, 4, 5, 6, 7, 8, 2, 1, 0] rfl ?_
      have e : sTo h (pa w) (wa w) c0 2 (sWater la ri s at0) = sBk h (wa w) (sWater la ri s at0) (pa w) c0 := by
        show sBk h (wa w) (sWater la ri s at0) (sPace h (pa w) c0 (sWater la ri s at0)) c0 = _
        unfold sPace
        first | rw [if_pos h9] | rw [if_neg (by omega)]
      rw [e]
      exact lp_goes_bk hH hpa hwa hla hri hw hs hat _ _ (by omega) hc
    · exact absurd h38 (by decide)
  · refine g_aload_n (i := 0) (j := 0) dX8_goes_12 rfl rfl ?_
    refine g_get fX8_20 rfl rfl dX8_goes_13 ?_
    refine g_iload_n (i := 1) (j := 1) dX8_goes_16 rfl rfl ?_
    refine n_iald (x := w) rfl (by omega) (rng_lit 5 rfl) dX8_goes_17 ?_
    refine g_iconst (v := nI 1) dX8_goes_18 (by decide) ?_
    refine n_iadd (a := (pa w)) (b := 1) dX8_goes_19 ?_
    refine g_iconst (v := nI 2) dX8_goes_20 (by decide) ?_
    refine n_idiv (a := ((pa w) + 1)) (b := 2) (by omega) (by omega) (rng_lit 2 rfl) dX8_goes_21 ?_
    refine g_goto (tgt := 31) dX8_goes_22 (by decide) ?_
    refine g_istore (lv' := [(6, .int (nI (((pa w) + 1) / 2))), (0, .ref 0), (1, .int (nI w)), (2, .int (nI c0)), (3, .int (nI 2)), (4, .int (nI s)), (5, .int (nI at0))]) dX8_goes_31 (by decide) rfl ?_
    refine g_iload_n (i := 2) (j := 3) dX8_goes_33 rfl rfl ?_
    refine g_istore (lv' := [(7, .int (nI c0)), (6, .int (nI (((pa w) + 1) / 2))), (0, .ref 0), (1, .int (nI w)), (2, .int (nI c0)), (3, .int (nI 2)), (4, .int (nI s)), (5, .int (nI at0))]) dX8_goes_34 (by decide) rfl ?_
    refine g_iload_n (i := 3) (j := 5) dX8_goes_36 rfl rfl ?_
    refine g_iconst (v := nI 1) dX8_goes_37 (by decide) ?_
    refine n_icmp_ne (tgt := 45) (rng_lit 2 rfl) (rng_lit 1 rfl) dX8_goes_38 (by decide) (fun h38 => ?_) (fun h38 => ?_)
    · refine g_iconst (v := (-1)) dX8_goes_45 (by decide) ?_
      refine g_istore (lv' := [(8, .int (-1)), (7, .int (nI c0)), (6, .int (nI (((pa w) + 1) / 2))), (0, .ref 0), (1, .int (nI w)), (2, .int (nI c0)), (3, .int (nI 2)), (4, .int (nI s)), (5, .int (nI at0))]) dX8_goes_46 (by decide) rfl ?_
      refine g_lv [3, 4, 5, 6, 7, 8, 2, 1, 0] rfl ?_
      have e : sTo h (pa w) (wa w) c0 2 (sWater la ri s at0) = sBk h (wa w) (sWater la ri s at0) (((pa w) + 1) / 2) c0 := by
        show sBk h (wa w) (sWater la ri s at0) (sPace h (pa w) c0 (sWater la ri s at0)) c0 = _
        unfold sPace
        first | rw [if_pos h9] | rw [if_neg (by omega)]
      rw [e]
      exact lp_goes_bk hH hpa hwa hla hri hw hs hat _ _ (by omega) hc
    · exact absurd h38 (by decide)

theorem ctX8_goes {e1 e5 e6 e7 e8 e9 e10 e11 e12 e13 e14 e15 e16 e17 : va_E} {ts pl lo ri la wk tw sf : Nat} {rl rr re : Int32} {rw rt rs ac : Nat} {sd : Int64} {ce sa ti : Nat} {h pa wa : Nat → Nat} {w s at0 : Nat} (hH : ∀ k, h k ≤ 9) (hpa : ∀ k, pa k ≤ 3) (hwa : ∀ k, wa k ≤ 5) (hla : la ≤ 9) (hri : ri ≤ 3) (hw : w < 5) (hs : s ≤ 41) (hat : at0 ≤ 41) {c0 way : Nat} (hc : c0 ≤ 9) (hway : way ≤ 2) : Ct mX8_goes 2 [.ref 0, .int (nI w), .int (nI c0), .int (nI way), .int (nI s), .int (nI at0)] (wM (kM 0 ts pl lo ri la wk tw sf rl rr re rw rt rs ac sd ce sa ti) e1 (kI 10 h) (kI 5 pa) (kI 5 wa) e5 e6 e7 e8 e9 e10 e11 e12 e13 e14 e15 e16 e17) (gE (some (.int (nI (sTo h (pa w) (wa w) c0 way (sWater la ri s at0))))) (wM (kM 0 ts pl lo ri la wk tw sf rl rr re rw rt rs ac sd ce sa ti) e1 (kI 10 h) (kI 5 pa) (kI 5 wa) e5 e6 e7 e8 e9 e10 e11 e12 e13 e14 e15 e16 e17)) := by
  match way, hway with
  | 0, _ => exact ctX8_goes_0 hH hpa hwa hla hri hw hs hat hc
  | 1, _ => exact ctX8_goes_1 hH hpa hwa hla hri hw hs hat hc
  | 2, _ => exact ctX8_goes_2 hH hpa hwa hla hri hw hs hat hc
theorem ctX8_stateOf {e1 e5 e6 e7 e8 e9 e10 e11 e12 e13 e14 e15 e16 e17 : va_E} {ts pl lo ri la wk tw sf : Nat} {rl rr re : Int32} {rw rt rs ac : Nat} {sd : Int64} {ce sa ti : Nat} {so : Nat → Nat} {h pa wa : Nat → Nat} {w s at0 : Nat} (hH : ∀ k, h k ≤ 9) (hpa : ∀ k, pa k ≤ 3) (hwa : ∀ k, wa k ≤ 5) (hla : la ≤ 9) (hri : ri ≤ 3) (hw : w < 5) (hs : s ≤ 41) (hat : at0 ≤ 41) {c to way : Nat} (hS : mSf sf so) (hc : c ≤ 9) (hto : to ≤ 9) (hway : way ≤ 2) : Ct mX8_stateOf 2 [.ref 0, .int (nI w), .int (nI c), .int (nI to), .int (nI way), .int (nI s), .int (nI at0)] (wM (kM 0 ts pl lo ri la wk tw sf rl rr re rw rt rs ac sd ce sa ti) e1 (kI 10 h) (kI 5 pa) (kI 5 wa) e5 e6 e7 e8 e9 e10 e11 e12 e13 e14 e15 e16 e17) (gE (some (.int (nI (sFate h so (wa w) c to way (sWater la ri s at0) 0)))) (wM (kM 0 ts pl lo ri la wk tw sf rl rr re rw rt rs ac sd ce sa ti) e1 (kI 10 h) (kI 5 pa) (kI 5 wa) e5 e6 e7 e8 e9 e10 e11 e12 e13 e14 e15 e16 e17)) := by
  refine Ct.of (by decide) (by exact Nat.le_of_ble_eq_true rfl) ?_
  show Go mX8_stateOf 2 0 [(0, .ref 0), (1, .int (nI w)), (2, .int (nI c)), (3, .int (nI to)), (4, .int (nI way)), (5, .int (nI s)), (6, .int (nI at0))] [] (wM (kM 0 ts pl lo ri la wk tw sf rl rr re rw rt rs ac sd ce sa ti) e1 (kI 10 h) (kI 5 pa) (kI 5 wa) e5 e6 e7 e8 e9 e10 e11 e12 e13 e14 e15 e16 e17) (gE (some (.int (nI (sFate h so (wa w) c to way (sWater la ri s at0) 0)))) (wM (kM 0 ts pl lo ri la wk tw sf rl rr re rw rt rs ac sd ce sa ti) e1 (kI 10 h) (kI 5 pa) (kI 5 wa) e5 e6 e7 e8 e9 e10 e11 e12 e13 e14 e15 e16 e17))
  have hwa1 := hwa w
  have hd1 := sDepth_le h to (sWater la ri s at0)
  have hd2 := sWater_le la ri s at0
  obtain ⟨hS0, hS1⟩ := hS
  have hS2 := hS1 to (by omega)
  refine g_iload_n (i := 3) (j := 3) dX8_stateOf_0 rfl rfl ?_
  refine g_bipush (v := nI 9) dX8_stateOf_1 (by decide) ?_
  refine n_icmp_ne (tgt := 14) (by omega) (rng_lit 9 rfl) dX8_stateOf_3 (by decide) (fun h3 => ?_) (fun h3 => ?_)
  · refine g_aload_n (i := 0) (j := 0) dX8_stateOf_14 rfl rfl ?_
    refine g_iload_n (i := 3) (j := 3) dX8_stateOf_15 rfl rfl ?_
    refine g_iload (j := 5) dX8_stateOf_16 rfl ?_
    refine g_iload (j := 6) dX8_stateOf_18 rfl ?_
    refine c_V (st1 := [.int (nI (sDepth h to (sWater la ri s at0)))]) (ctX8_deepBy (c := to) (s := s) (at0 := at0) hH (by omega) (by omega) (by first | omega | assumption | exact hpa _ | exact hwa _ | exact hr1 _ (by omega) | exact hr6 _ (by omega) | exact hr11 _ (by omega) | exact hr _ | exact Nat.le_succ_of_le (hr _) | (apply sTo_le; first | omega | exact hr1 _ (by omega))) (by first | omega | assumption | exact hpa _ | exact hwa _ | exact hr1 _ (by omega) | exact hr6 _ (by omega) | exact hr11 _ (by omega) | exact hr _ | exact Nat.le_succ_of_le (hr _) | (apply sTo_le; first | omega | exact hr1 _ (by omega))) (by first | omega | assumption | exact hpa _ | exact hwa _ | exact hr1 _ (by omega) | exact hr6 _ (by omega) | exact hr11 _ (by omega) | exact hr _ | exact Nat.le_succ_of_le (hr _) | (apply sTo_le; first | omega | exact hr1 _ (by omega)))) kX8_deepBy lX8_167 (by decide) rfl rfl rfl rfl (by exact Nat.le_of_ble_eq_true rfl) dX8_stateOf_20 rfl rfl ?_
    refine g_aload_n (i := 0) (j := 0) dX8_stateOf_23 rfl rfl ?_
    refine g_get fX8_23 rfl rfl dX8_stateOf_24 ?_
    refine g_iload_n (i := 1) (j := 1) dX8_stateOf_27 rfl rfl ?_
    refine n_iald (x := w) rfl (by omega) (rng_lit 5 rfl) dX8_stateOf_28 ?_
    refine n_icmp_le (tgt := 34) (by omega) (by omega) dX8_stateOf_29 (by decide) (fun h29 => ?_) (fun h29 => ?_)
    · refine g_iload_n (i := 2) (j := 2) dX8_stateOf_34 rfl rfl ?_
      refine g_iload_n (i := 3) (j := 3) dX8_stateOf_35 rfl rfl ?_
      refine n_icmp_ne (tgt := 54) (by omega) (by omega) dX8_stateOf_36 (by decide) (fun h36 => ?_) (fun h36 => ?_)
      · refine g_iconst (v := nI 0) dX8_stateOf_54 (by decide) ?_
        refine g_iret rfl rfl dX8_stateOf_55 ?_
        refine gE_n ?_ rfl
        unfold sFate
        rw [if_neg (by omega), if_neg (by omega), if_neg (by omega)]
      · refine g_aload_n (i := 0) (j := 0) dX8_stateOf_39 rfl rfl ?_
        refine g_get fX8_148 rfl rfl dX8_stateOf_40 ?_
        refine g_iload_n (i := 3) (j := 3) dX8_stateOf_43 rfl rfl ?_
        refine c_S (st1 := [.int (nI (bN (sf / 2 ^ to % 2 = 1)))]) (ctX8_has (a := sf) (k := to) (by omega) (by omega)) kX8_has lX8_92 (by decide) rfl (by exact Nat.le_of_ble_eq_true rfl) dX8_stateOf_44 rfl rfl ?_
        refine b_if_eq (tgt := 54) dX8_stateOf_47 (by decide) (fun h47 => ?_) (fun h47 => ?_)
        · refine g_iconst (v := nI 0) dX8_stateOf_54 (by decide) ?_
          refine g_iret rfl rfl dX8_stateOf_55 ?_
          refine gE_n ?_ rfl
          unfold sFate
          rw [if_neg (by omega), if_neg (by omega), if_neg (by omega)]
        · refine g_iconst (v := nI 3) dX8_stateOf_50 (by decide) ?_
          refine g_goto (tgt := 55) dX8_stateOf_51 (by decide) ?_
          refine g_iret rfl rfl dX8_stateOf_55 ?_
          refine gE_n ?_ rfl
          unfold sFate
          rw [if_neg (by omega), if_neg (by omega), if_pos (by omega)]
    · refine g_iconst (v := nI 2) dX8_stateOf_32 (by decide) ?_
      refine g_iret rfl rfl dX8_stateOf_33 ?_
      refine gE_n ?_ rfl
      unfold sFate
      rw [if_neg (by omega), if_pos (by omega)]
  · refine g_iload (j := 4) dX8_stateOf_6 rfl ?_
    refine g_iconst (v := nI 1) dX8_stateOf_8 (by decide) ?_
    refine n_icmp_ne (tgt := 14) (by omega) (rng_lit 1 rfl) dX8_stateOf_9 (by decide) (fun h9 => ?_) (fun h9 => ?_)
    · refine g_aload_n (i := 0) (j := 0) dX8_stateOf_14 rfl rfl ?_
      refine g_iload_n (i := 3) (j := 3) dX8_stateOf_15 rfl rfl ?_
      refine g_iload (j := 5) dX8_stateOf_16 rfl ?_
      refine g_iload (j := 6) dX8_stateOf_18 rfl ?_
      refine c_V (st1 := [.int (nI (sDepth h to (sWater la ri s at0)))]) (ctX8_deepBy (c := to) (s := s) (at0 := at0) hH (by omega) (by omega) (by first | omega | assumption | exact hpa _ | exact hwa _ | exact hr1 _ (by omega) | exact hr6 _ (by omega) | exact hr11 _ (by omega) | exact hr _ | exact Nat.le_succ_of_le (hr _) | (apply sTo_le; first | omega | exact hr1 _ (by omega))) (by first | omega | assumption | exact hpa _ | exact hwa _ | exact hr1 _ (by omega) | exact hr6 _ (by omega) | exact hr11 _ (by omega) | exact hr _ | exact Nat.le_succ_of_le (hr _) | (apply sTo_le; first | omega | exact hr1 _ (by omega))) (by first | omega | assumption | exact hpa _ | exact hwa _ | exact hr1 _ (by omega) | exact hr6 _ (by omega) | exact hr11 _ (by omega) | exact hr _ | exact Nat.le_succ_of_le (hr _) | (apply sTo_le; first | omega | exact hr1 _ (by omega)))) kX8_deepBy lX8_167 (by decide) rfl rfl rfl rfl (by exact Nat.le_of_ble_eq_true rfl) dX8_stateOf_20 rfl rfl ?_
      refine g_aload_n (i := 0) (j := 0) dX8_stateOf_23 rfl rfl ?_
      refine g_get fX8_23 rfl rfl dX8_stateOf_24 ?_
      refine g_iload_n (i := 1) (j := 1) dX8_stateOf_27 rfl rfl ?_
      refine n_iald (x := w) rfl (by omega) (rng_lit 5 rfl) dX8_stateOf_28 ?_
      refine n_icmp_le (tgt := 34) (by omega) (by omega) dX8_stateOf_29 (by decide) (fun h29 => ?_) (fun h29 => ?_)
      · refine g_iload_n (i := 2) (j := 2) dX8_stateOf_34 rfl rfl ?_
        refine g_iload_n (i := 3) (j := 3) dX8_stateOf_35 rfl rfl ?_
        refine n_icmp_ne (tgt := 54) (by omega) (by omega) dX8_stateOf_36 (by decide) (fun h36 => ?_) (fun h36 => ?_)
        · refine g_iconst (v := nI 0) dX8_stateOf_54 (by decide) ?_
          refine g_iret rfl rfl dX8_stateOf_55 ?_
          refine gE_n ?_ rfl
          unfold sFate
          rw [if_neg (by omega), if_neg (by omega), if_neg (by omega)]
        · refine g_aload_n (i := 0) (j := 0) dX8_stateOf_39 rfl rfl ?_
          refine g_get fX8_148 rfl rfl dX8_stateOf_40 ?_
          refine g_iload_n (i := 3) (j := 3) dX8_stateOf_43 rfl rfl ?_
          refine c_S (st1 := [.int (nI (bN (sf / 2 ^ to % 2 = 1)))]) (ctX8_has (a := sf) (k := to) (by omega) (by omega)) kX8_has lX8_92 (by decide) rfl (by exact Nat.le_of_ble_eq_true rfl) dX8_stateOf_44 rfl rfl ?_
          refine b_if_eq (tgt := 54) dX8_stateOf_47 (by decide) (fun h47 => ?_) (fun h47 => ?_)
          · refine g_iconst (v := nI 0) dX8_stateOf_54 (by decide) ?_
            refine g_iret rfl rfl dX8_stateOf_55 ?_
            refine gE_n ?_ rfl
            unfold sFate
            rw [if_neg (by omega), if_neg (by omega), if_neg (by omega)]
          · refine g_iconst (v := nI 3) dX8_stateOf_50 (by decide) ?_
            refine g_goto (tgt := 55) dX8_stateOf_51 (by decide) ?_
            refine g_iret rfl rfl dX8_stateOf_55 ?_
            refine gE_n ?_ rfl
            unfold sFate
            rw [if_neg (by omega), if_neg (by omega), if_pos (by omega)]
      · refine g_iconst (v := nI 2) dX8_stateOf_32 (by decide) ?_
        refine g_iret rfl rfl dX8_stateOf_33 ?_
        refine gE_n ?_ rfl
        unfold sFate
        rw [if_neg (by omega), if_pos (by omega)]
    · refine g_iconst (v := nI 1) dX8_stateOf_12 (by decide) ?_
      refine g_iret rfl rfl dX8_stateOf_13 ?_
      refine gE_n ?_ rfl
      unfold sFate
      rw [if_pos ⟨h9, h3⟩]

theorem ctX8_goAlone {e1 e5 e6 e7 e8 e9 e10 e11 e12 e13 e14 e15 e16 e17 : va_E} {ts pl lo ri la wk tw sf : Nat} {rl rr re : Int32} {rw rt rs ac : Nat} {sd : Int64} {ce sa ti : Nat} {so h pa wa : Nat → Nat} {w s way : Nat} (hH : ∀ k, h k ≤ 9) (hpa : ∀ k, pa k ≤ 3) (hwa : ∀ k, wa k ≤ 5) (hla : la ≤ 9) (hri : ri ≤ 3) (hS : mSf sf so) (hw : w < 5) (hs : s ≤ 40) (hti : ti ≤ 41) (hce : ce ≤ 9) (hway : way ≤ 2) : Ct mX8_goAlone 3 [.ref 0, .int (nI w), .int (nI way), .int (nI s)] (wM (kM 0 ts pl lo ri la wk tw sf rl rr re rw rt rs ac sd ce sa ti) e1 (kI 10 h) (kI 5 pa) (kI 5 wa) e5 e6 e7 e8 e9 e10 e11 e12 e13 e14 e15 e16 e17) (gE none (wM (kM 0 ts pl lo ri la wk tw sf rl rr re rw rt rs ac sd (sTo h (pa w) (wa w) ce way (sWater la ri s ti)) (sFate h so (wa w) ce (sTo h (pa w) (wa w) ce way (sWater la ri s ti)) way (sWater la ri (s + 1) ti) 0) ti) e1 (kI 10 h) (kI 5 pa) (kI 5 wa) e5 e6 e7 e8 e9 e10 e11 e12 e13 e14 e15 e16 e17)) := by
  refine Ct.of (by decide) (by exact Nat.le_of_ble_eq_true rfl) ?_
  show Go mX8_goAlone 3 0 [(0, .ref 0), (1, .int (nI w)), (2, .int (nI way)), (3, .int (nI s))] [] (wM (kM 0 ts pl lo ri la wk tw sf rl rr re rw rt rs ac sd ce sa ti) e1 (kI 10 h) (kI 5 pa) (kI 5 wa) e5 e6 e7 e8 e9 e10 e11 e12 e13 e14 e15 e16 e17) (gE none (wM (kM 0 ts pl lo ri la wk tw sf rl rr re rw rt rs ac sd (sTo h (pa w) (wa w) ce way (sWater la ri s ti)) (sFate h so (wa w) ce (sTo h (pa w) (wa w) ce way (sWater la ri s ti)) way (sWater la ri (s + 1) ti) 0) ti) e1 (kI 10 h) (kI 5 pa) (kI 5 wa) e5 e6 e7 e8 e9 e10 e11 e12 e13 e14 e15 e16 e17))
  refine g_aload_n (i := 0) (j := 0) dX8_goAlone_0 rfl rfl ?_
  refine g_iload_n (i := 1) (j := 1) dX8_goAlone_1 rfl rfl ?_
  refine g_aload_n (i := 0) (j := 0) dX8_goAlone_2 rfl rfl ?_
  refine g_get fX8_179 rfl rfl dX8_goAlone_3 ?_
  refine g_iload_n (i := 2) (j := 2) dX8_goAlone_6 rfl rfl ?_
  refine g_iload_n (i := 3) (j := 3) dX8_goAlone_7 rfl rfl ?_
  refine g_aload_n (i := 0) (j := 0) dX8_goAlone_8 rfl rfl ?_
  refine g_get fX8_182 rfl rfl dX8_goAlone_9 ?_
  refine c_V (st1 := [.int (nI (sTo h (pa w) (wa w) ce way (sWater la ri s ti)))]) (ctX8_goes (w := w) (c0 := ce) (way := way) (s := s) (at0 := ti) hH hpa hwa (by omega) (by omega) (by first | omega | assumption | exact hpa _ | exact hwa _ | exact hr1 _ (by omega) | exact hr6 _ (by omega) | exact hr11 _ (by omega) | exact hr _ | exact Nat.le_succ_of_le (hr _) | (apply sTo_le; first | omega | exact hr1 _ (by omega))) (by first | omega | assumption | exact hpa _ | exact hwa _ | exact hr1 _ (by omega) | exact hr6 _ (by omega) | exact hr11 _ (by omega) | exact hr _ | exact Nat.le_succ_of_le (hr _) | (apply sTo_le; first | omega | exact hr1 _ (by omega))) (by first | omega | assumption | exact hpa _ | exact hwa _ | exact hr1 _ (by omega) | exact hr6 _ (by omega) | exact hr11 _ (by omega) | exact hr _ | exact Nat.le_succ_of_le (hr _) | (apply sTo_le; first | omega | exact hr1 _ (by omega))) (by first | omega | assumption | exact hpa _ | exact hwa _ | exact hr1 _ (by omega) | exact hr6 _ (by omega) | exact hr11 _ (by omega) | exact hr _ | exact Nat.le_succ_of_le (hr _) | (apply sTo_le; first | omega | exact hr1 _ (by omega))) (by first | omega | assumption | exact hpa _ | exact hwa _ | exact hr1 _ (by omega) | exact hr6 _ (by omega) | exact hr11 _ (by omega) | exact hr _ | exact Nat.le_succ_of_le (hr _) | (apply sTo_le; first | omega | exact hr1 _ (by omega)))) kX8_goes lX8_185 (by decide) rfl rfl rfl rfl (by exact Nat.le_of_ble_eq_true rfl) dX8_goAlone_12 rfl rfl ?_
  refine g_istore (lv' := [(4, .int (nI (sTo h (pa w) (wa w) ce way (sWater la ri s ti)))), (0, .ref 0), (1, .int (nI w)), (2, .int (nI way)), (3, .int (nI s))]) dX8_goAlone_15 (by decide) rfl ?_
  refine g_aload_n (i := 0) (j := 1) dX8_goAlone_17 rfl rfl ?_
  refine g_aload_n (i := 0) (j := 1) dX8_goAlone_18 rfl rfl ?_
  refine g_iload_n (i := 1) (j := 2) dX8_goAlone_19 rfl rfl ?_
  refine g_aload_n (i := 0) (j := 1) dX8_goAlone_20 rfl rfl ?_
  refine g_get fX8_179 rfl rfl dX8_goAlone_21 ?_
  refine g_iload (j := 0) dX8_goAlone_24 rfl ?_
  refine g_iload_n (i := 2) (j := 3) dX8_goAlone_26 rfl rfl ?_
  refine g_iload_n (i := 3) (j := 4) dX8_goAlone_27 rfl rfl ?_
  refine g_iconst (v := nI 1) dX8_goAlone_28 (by decide) ?_
  refine n_iadd (a := s) (b := 1) dX8_goAlone_29 ?_
  refine g_aload_n (i := 0) (j := 1) dX8_goAlone_30 rfl rfl ?_
  refine g_get fX8_182 rfl rfl dX8_goAlone_31 ?_
  refine c_V (st1 := [.int (nI (sFate h so (wa w) ce (sTo h (pa w) (wa w) ce way (sWater la ri s ti)) way (sWater la ri (s + 1) ti) 0)), .ref 0]) (ctX8_stateOf (w := w) (c := ce) (to := sTo h (pa w) (wa w) ce way (sWater la ri s ti)) (way := way) (s := s + 1) (at0 := ti) hH hpa hwa (by omega) (by omega) (by first | omega | assumption | exact hpa _ | exact hwa _ | exact hr1 _ (by omega) | exact hr6 _ (by omega) | exact hr11 _ (by omega) | exact hr _ | exact Nat.le_succ_of_le (hr _) | (apply sTo_le; first | omega | exact hr1 _ (by omega))) (by first | omega | assumption | exact hpa _ | exact hwa _ | exact hr1 _ (by omega) | exact hr6 _ (by omega) | exact hr11 _ (by omega) | exact hr _ | exact Nat.le_succ_of_le (hr _) | (apply sTo_le; first | omega | exact hr1 _ (by omega))) (by first | omega | assumption | exact hpa _ | exact hwa _ | exact hr1 _ (by omega) | exact hr6 _ (by omega) | exact hr11 _ (by omega) | exact hr _ | exact Nat.le_succ_of_le (hr _) | (apply sTo_le; first | omega | exact hr1 _ (by omega))) hS (by first | omega | assumption | exact hpa _ | exact hwa _ | exact hr1 _ (by omega) | exact hr6 _ (by omega) | exact hr11 _ (by omega) | exact hr _ | exact Nat.le_succ_of_le (hr _) | (apply sTo_le; first | omega | exact hr1 _ (by omega))) (by first | omega | assumption | exact hpa _ | exact hwa _ | exact hr1 _ (by omega) | exact hr6 _ (by omega) | exact hr11 _ (by omega) | exact hr _ | exact Nat.le_succ_of_le (hr _) | (apply sTo_le; first | omega | exact hr1 _ (by omega))) (by first | omega | assumption | exact hpa _ | exact hwa _ | exact hr1 _ (by omega) | exact hr6 _ (by omega) | exact hr11 _ (by omega) | exact hr _ | exact Nat.le_succ_of_le (hr _) | (apply sTo_le; first | omega | exact hr1 _ (by omega)))) kX8_stateOf lX8_189 (by decide) rfl rfl rfl rfl (by exact Nat.le_of_ble_eq_true rfl) dX8_goAlone_34 rfl rfl ?_
  refine n_putI (ws' := wM (kM 0 ts pl lo ri la wk tw sf rl rr re rw rt rs ac sd ce (sFate h so (wa w) ce (sTo h (pa w) (wa w) ce way (sWater la ri s ti)) way (sWater la ri (s + 1) ti) 0) ti) e1 (kI 10 h) (kI 5 pa) (kI 5 wa) e5 e6 e7 e8 e9 e10 e11 e12 e13 e14 e15 e16 e17) fX8_193 fp_X8_33 rfl (by exact Nat.le_of_ble_eq_true rfl) dX8_goAlone_37 rfl ?_
  refine g_aload_n (i := 0) (j := 1) dX8_goAlone_40 rfl rfl ?_
  refine g_iload (j := 0) dX8_goAlone_41 rfl ?_
  refine n_putI (ws' := wM (kM 0 ts pl lo ri la wk tw sf rl rr re rw rt rs ac sd (sTo h (pa w) (wa w) ce way (sWater la ri s ti)) (sFate h so (wa w) ce (sTo h (pa w) (wa w) ce way (sWater la ri s ti)) way (sWater la ri (s + 1) ti) 0) ti) e1 (kI 10 h) (kI 5 pa) (kI 5 wa) e5 e6 e7 e8 e9 e10 e11 e12 e13 e14 e15 e16 e17) fX8_179 fp_X8_32 rfl (by exact Nat.le_of_ble_eq_true rfl) dX8_goAlone_43 rfl ?_
  refine g_vret rfl dX8_goAlone_46 ?_
  exact gE_i rfl rfl

theorem shore_f {h so : Nat → Nat} {pa wa c way W W2 : Nat} (hway : way ≤ 2) (hway1 : 1 ≤ way) (hc : ¬ c = sShore way) (e : sTo h pa wa c way W = sShore way) : sFate h so wa c (sTo h pa wa c way W) way W2 0 ≤ 1 := by
  rw [e]
  have : way = 1 ∨ way = 2 := by omega
  rcases this with rfl | rfl
  · have e1 : sFate h so wa c 9 1 W2 0 = 1 := by unfold sFate; rw [if_pos ⟨rfl, rfl⟩]
    exact Nat.le_of_eq e1
  · have hc2 : ¬ 0 = c := fun z => hc z.symm
    have e1 : sFate h so wa c 0 2 W2 0 = 0 := by unfold sFate sDepth; simp [hc2]
    exact Nat.le_trans (Nat.le_of_eq e1) (Nat.zero_le 1)
theorem lp_goneOf {e1 e5 e6 e7 e8 e9 e10 e11 e12 e13 e14 e15 e16 e17 : va_E} {ts pl lo ri la wk tw sf : Nat} {rl rr re : Int32} {rw rt rs ac : Nat} {sd : Int64} {so h pa wa : Nat → Nat} {w way at0 : Nat} (hH : ∀ k, h k ≤ 9) (hpa : ∀ k, pa k ≤ 3) (hwa : ∀ k, wa k ≤ 5) (hla : la ≤ 9) (hri : ri ≤ 3) (hS : mSf sf so) (hw : w < 5) (hat : at0 ≤ 41) (hway : way ≤ 2) (hway1 : 1 ≤ way) {c0 s0 : Nat} : ∀ (n c s f : Nat), 41 ≤ s + n → c ≤ 9 → s ≤ 40 → f ≤ 4 → (c = sShore way → f ≤ 1) → Go mX8_goneOf 4 33 [(0, .ref 0), (1, .int (nI w)), (2, .int (nI c0)), (3, .int (nI s0)), (4, .int (nI way)), (5, .int (nI at0)), (6, .int (nI (sShore way))), (7, .int (nI s))] [] (wM (kM 0 ts pl lo ri la wk tw sf rl rr re rw rt rs ac sd c f at0) e1 (kI 10 h) (kI 5 pa) (kI 5 wa) e5 e6 e7 e8 e9 e10 e11 e12 e13 e14 e15 e16 e17) (fun v u => v = some (.int (rO (sGone h so la ri (pa w) (wa w) at0 way n c s f))) ∧ ∃ ce2 sa2 ti2 : Nat, u = wM (kM 0 ts pl lo ri la wk tw sf rl rr re rw rt rs ac sd ce2 sa2 ti2) e1 (kI 10 h) (kI 5 pa) (kI 5 wa) e5 e6 e7 e8 e9 e10 e11 e12 e13 e14 e15 e16 e17) := by
  intro n
  induction n with
  | zero => intro c s f h1 h2 h3 h4 h5; omega
  | succ n ih =>
    intro c s f h1 h2 h3 h4 h5
    have hsh : sShore way ≤ 9 := by unfold sShore; split <;> omega
    refine g_aload_n (i := 0) (j := 0) dX8_goneOf_33 rfl rfl ?_
    refine g_get fX8_179 rfl rfl dX8_goneOf_34 ?_
    refine g_iload (j := 6) dX8_goneOf_37 rfl ?_
    refine n_icmp_eq (tgt := 71) (by omega) (by omega) dX8_goneOf_39 (by decide) (fun h39 => ?_) (fun h39 => ?_)
    · refine g_aload_n (i := 0) (j := 0) dX8_goneOf_71 rfl rfl ?_
      refine g_get fX8_179 rfl rfl dX8_goneOf_72 ?_
      refine g_iload (j := 6) dX8_goneOf_75 rfl ?_
      refine n_icmp_ne (tgt := 93) (by omega) (by omega) dX8_goneOf_77 (by decide) (fun h77 => ?_) (fun h77 => ?_)
      · exfalso; omega
      · refine g_aload_n (i := 0) (j := 0) dX8_goneOf_80 rfl rfl ?_
        refine g_get fX8_193 rfl rfl dX8_goneOf_81 ?_
        refine g_iconst (v := nI 2) dX8_goneOf_84 (by decide) ?_
        refine n_icmp_ge (tgt := 93) (by omega) (rng_lit 2 rfl) dX8_goneOf_85 (by decide) (fun h85 => ?_) (fun h85 => ?_)
        · exfalso; omega
        · refine g_iload (j := 7) dX8_goneOf_88 rfl ?_
          refine g_goto (tgt := 95) dX8_goneOf_90 (by decide) ?_
          refine g_iret rfl rfl dX8_goneOf_95 ?_
          refine ⟨?_, _, _, _, rfl⟩
          rw [sGone, if_pos h39]; rfl
    · refine g_aload_n (i := 0) (j := 0) dX8_goneOf_42 rfl rfl ?_
      refine g_get fX8_193 rfl rfl dX8_goneOf_43 ?_
      refine n_if_ne (tgt := 71) (by omega) dX8_goneOf_46 (by decide) (fun h46 => ?_) (fun h46 => ?_)
      · refine g_aload_n (i := 0) (j := 0) dX8_goneOf_71 rfl rfl ?_
        refine g_get fX8_179 rfl rfl dX8_goneOf_72 ?_
        refine g_iload (j := 6) dX8_goneOf_75 rfl ?_
        refine n_icmp_ne (tgt := 93) (by omega) (by omega) dX8_goneOf_77 (by decide) (fun h77 => ?_) (fun h77 => ?_)
        · refine g_bipush (v := (-9)) dX8_goneOf_93 (by decide) ?_
          refine g_iret rfl rfl dX8_goneOf_95 ?_
          refine ⟨?_, _, _, _, rfl⟩
          rw [sGone, if_neg h39, if_pos (by omega)]; rfl
        · exfalso; omega
      · refine g_iload (j := 7) dX8_goneOf_49 rfl ?_
        refine g_bipush (v := nI 40) dX8_goneOf_51 (by decide) ?_
        refine n_icmp_ge (tgt := 71) (by omega) (rng_lit 40 rfl) dX8_goneOf_53 (by decide) (fun h53 => ?_) (fun h53 => ?_)
        · refine g_aload_n (i := 0) (j := 0) dX8_goneOf_71 rfl rfl ?_
          refine g_get fX8_179 rfl rfl dX8_goneOf_72 ?_
          refine g_iload (j := 6) dX8_goneOf_75 rfl ?_
          refine n_icmp_ne (tgt := 93) (by omega) (by omega) dX8_goneOf_77 (by decide) (fun h77 => ?_) (fun h77 => ?_)
          · refine g_bipush (v := (-9)) dX8_goneOf_93 (by decide) ?_
            refine g_iret rfl rfl dX8_goneOf_95 ?_
            refine ⟨?_, _, _, _, rfl⟩
            rw [sGone, if_neg h39, if_pos (by omega)]; rfl
          · exfalso; omega
        · refine g_aload_n (i := 0) (j := 0) dX8_goneOf_56 rfl rfl ?_
          refine g_iload_n (i := 1) (j := 1) dX8_goneOf_57 rfl rfl ?_
          refine g_iload (j := 4) dX8_goneOf_58 rfl ?_
          refine g_iload (j := 7) dX8_goneOf_60 rfl ?_
          refine c_V (st1 := []) (ctX8_goAlone (w := w) (way := way) (s := s) hH hpa hwa (by omega) (by omega) hS (by first | omega | assumption | exact hpa _ | exact hwa _ | exact hr1 _ (by omega) | exact hr6 _ (by omega) | exact hr11 _ (by omega) | exact hr _ | exact Nat.le_succ_of_le (hr _) | (apply sTo_le; first | omega | exact hr1 _ (by omega))) (by first | omega | assumption | exact hpa _ | exact hwa _ | exact hr1 _ (by omega) | exact hr6 _ (by omega) | exact hr11 _ (by omega) | exact hr _ | exact Nat.le_succ_of_le (hr _) | (apply sTo_le; first | omega | exact hr1 _ (by omega))) (by first | omega | assumption | exact hpa _ | exact hwa _ | exact hr1 _ (by omega) | exact hr6 _ (by omega) | exact hr11 _ (by omega) | exact hr _ | exact Nat.le_succ_of_le (hr _) | (apply sTo_le; first | omega | exact hr1 _ (by omega))) (by first | omega | assumption | exact hpa _ | exact hwa _ | exact hr1 _ (by omega) | exact hr6 _ (by omega) | exact hr11 _ (by omega) | exact hr _ | exact Nat.le_succ_of_le (hr _) | (apply sTo_le; first | omega | exact hr1 _ (by omega))) (by first | omega | assumption | exact hpa _ | exact hwa _ | exact hr1 _ (by omega) | exact hr6 _ (by omega) | exact hr11 _ (by omega) | exact hr _ | exact Nat.le_succ_of_le (hr _) | (apply sTo_le; first | omega | exact hr1 _ (by omega)))) kX8_goAlone lX8_201 (by decide) rfl rfl rfl rfl (by exact Nat.le_of_ble_eq_true rfl) dX8_goneOf_62 rfl rfl ?_
          refine n_inc (x := s) (j := 7) (lv' := [(7, .int (nI (s + 1))), (0, .ref 0), (1, .int (nI w)), (2, .int (nI c0)), (3, .int (nI s0)), (4, .int (nI way)), (5, .int (nI at0)), (6, .int (nI (sShore way)))]) dX8_goneOf_65 rfl (by decide) rfl ?_
          refine g_goto (tgt := 33) dX8_goneOf_68 (by decide) ?_
          refine g_lv [1, 2, 3, 4, 5, 6, 7, 0] rfl ?_
          rw [sGone, if_neg h39, if_neg (by omega), show f = 0 by omega]
          exact ih _ _ _ (by omega) (sTo_le _ _ _ _ _ _ h2) (by omega) (sFate_le _ _ _ _ _ _ _ _ (by omega)) (shore_f hway hway1 h39)

theorem sGone_more (h so : Nat → Nat) (la ri pa wa lo way : Nat) : ∀ (n m c s f : Nat), 41 ≤ s + n → 41 ≤ s + m → s ≤ 40 → sGone h so la ri pa wa lo way n c s f = sGone h so la ri pa wa lo way m c s f
  | 0, _, _, _, _, h1, _, h3 => by omega
  | _, 0, _, _, _, _, h2, h3 => by omega
  | n + 1, m + 1, c, s, f, h1, h2, h3 => by
    rw [sGone, sGone]
    split
    · rfl
    · split
      · rfl
      · exact sGone_more h so la ri pa wa lo way n m _ _ _ (by omega) (by omega) (by omega)
theorem ctX8_goneOf {e1 e5 e6 e7 e8 e9 e10 e11 e12 e13 e14 e15 e16 e17 : va_E} {ts pl lo ri la wk tw sf : Nat} {rl rr re : Int32} {rw rt rs ac : Nat} {sd : Int64} {ce sa ti : Nat} {so h pa wa : Nat → Nat} {w way at0 : Nat} (hH : ∀ k, h k ≤ 9) (hpa : ∀ k, pa k ≤ 3) (hwa : ∀ k, wa k ≤ 5) (hla : la ≤ 9) (hri : ri ≤ 3) (hS : mSf sf so) (hw : w < 5) (hat : at0 ≤ 41) (hway : way ≤ 2) (hway1 : 1 ≤ way) {c s : Nat} (hc : c ≤ 9) (hs : s ≤ 40) : Ct mX8_goneOf 4 [.ref 0, .int (nI w), .int (nI c), .int (nI s), .int (nI way), .int (nI at0)] (wM (kM 0 ts pl lo ri la wk tw sf rl rr re rw rt rs ac sd ce sa ti) e1 (kI 10 h) (kI 5 pa) (kI 5 wa) e5 e6 e7 e8 e9 e10 e11 e12 e13 e14 e15 e16 e17) (fun v u => v = some (.int (rO (sArr h so la ri (pa w) (wa w) at0 way c s))) ∧ ∃ ce2 sa2 ti2 : Nat, u = wM (kM 0 ts pl lo ri la wk tw sf rl rr re rw rt rs ac sd ce2 sa2 ti2) e1 (kI 10 h) (kI 5 pa) (kI 5 wa) e5 e6 e7 e8 e9 e10 e11 e12 e13 e14 e15 e16 e17) := by
  refine Ct.of (by decide) (by exact Nat.le_of_ble_eq_true rfl) ?_
  show Go mX8_goneOf 4 0 [(0, .ref 0), (1, .int (nI w)), (2, .int (nI c)), (3, .int (nI s)), (4, .int (nI way)), (5, .int (nI at0))] [] (wM (kM 0 ts pl lo ri la wk tw sf rl rr re rw rt rs ac sd ce sa ti) e1 (kI 10 h) (kI 5 pa) (kI 5 wa) e5 e6 e7 e8 e9 e10 e11 e12 e13 e14 e15 e16 e17) (fun v u => v = some (.int (rO (sArr h so la ri (pa w) (wa w) at0 way c s))) ∧ ∃ ce2 sa2 ti2 : Nat, u = wM (kM 0 ts pl lo ri la wk tw sf rl rr re rw rt rs ac sd ce2 sa2 ti2) e1 (kI 10 h) (kI 5 pa) (kI 5 wa) e5 e6 e7 e8 e9 e10 e11 e12 e13 e14 e15 e16 e17)
  refine g_aload_n (i := 0) (j := 0) dX8_goneOf_0 rfl rfl ?_
  refine g_iload (j := 5) dX8_goneOf_1 rfl ?_
  refine n_putI (ws' := wM (kM 0 ts pl lo ri la wk tw sf rl rr re rw rt rs ac sd ce sa at0) e1 (kI 10 h) (kI 5 pa) (kI 5 wa) e5 e6 e7 e8 e9 e10 e11 e12 e13 e14 e15 e16 e17) fX8_182 fp_X8_34 rfl (by exact Nat.le_of_ble_eq_true rfl) dX8_goneOf_3 rfl ?_
  refine g_aload_n (i := 0) (j := 0) dX8_goneOf_6 rfl rfl ?_
  refine g_iload_n (i := 2) (j := 2) dX8_goneOf_7 rfl rfl ?_
  refine n_putI (ws' := wM (kM 0 ts pl lo ri la wk tw sf rl rr re rw rt rs ac sd c sa at0) e1 (kI 10 h) (kI 5 pa) (kI 5 wa) e5 e6 e7 e8 e9 e10 e11 e12 e13 e14 e15 e16 e17) fX8_179 fp_X8_32 rfl (by exact Nat.le_of_ble_eq_true rfl) dX8_goneOf_8 rfl ?_
  refine g_aload_n (i := 0) (j := 0) dX8_goneOf_11 rfl rfl ?_
  refine g_iconst (v := nI 0) dX8_goneOf_12 (by decide) ?_
  refine n_putI (ws' := wM (kM 0 ts pl lo ri la wk tw sf rl rr re rw rt rs ac sd c 0 at0) e1 (kI 10 h) (kI 5 pa) (kI 5 wa) e5 e6 e7 e8 e9 e10 e11 e12 e13 e14 e15 e16 e17) fX8_193 fp_X8_33 rfl (by exact Nat.le_of_ble_eq_true rfl) dX8_goneOf_13 rfl ?_
  refine g_iload (j := 4) dX8_goneOf_16 rfl ?_
  refine g_iconst (v := nI 1) dX8_goneOf_18 (by decide) ?_
  refine n_icmp_ne (tgt := 27) (by omega) (rng_lit 1 rfl) dX8_goneOf_19 (by decide) (fun h19 => ?_) (fun h19 => ?_)
  · refine g_iconst (v := nI 0) dX8_goneOf_27 (by decide) ?_
    refine g_topi (y := nI (sShore way)) (by unfold sShore; first | rw [if_pos h19] | rw [if_neg h19]) ?_
    refine g_istore (lv' := [(6, .int (nI (sShore way))), (0, .ref 0), (1, .int (nI w)), (2, .int (nI c)), (3, .int (nI s)), (4, .int (nI way)), (5, .int (nI at0))]) dX8_goneOf_28 (by decide) rfl ?_
    refine g_iload_n (i := 3) (j := 4) dX8_goneOf_30 rfl rfl ?_
    refine g_istore (lv' := [(7, .int (nI s)), (6, .int (nI (sShore way))), (0, .ref 0), (1, .int (nI w)), (2, .int (nI c)), (3, .int (nI s)), (4, .int (nI way)), (5, .int (nI at0))]) dX8_goneOf_31 (by decide) rfl ?_
    refine g_lv [2, 3, 4, 5, 6, 7, 1, 0] rfl ?_
    exact lp_goneOf hH hpa hwa hla hri hS hw hat hway hway1 41 c s 0 (by omega) hc hs (by omega) (by omega)
  · refine g_bipush (v := nI 9) dX8_goneOf_22 (by decide) ?_
    refine g_goto (tgt := 28) dX8_goneOf_24 (by decide) ?_
    refine g_topi (y := nI (sShore way)) (by unfold sShore; first | rw [if_pos h19] | rw [if_neg h19]) ?_
    refine g_istore (lv' := [(6, .int (nI (sShore way))), (0, .ref 0), (1, .int (nI w)), (2, .int (nI c)), (3, .int (nI s)), (4, .int (nI way)), (5, .int (nI at0))]) dX8_goneOf_28 (by decide) rfl ?_
    refine g_iload_n (i := 3) (j := 4) dX8_goneOf_30 rfl rfl ?_
    refine g_istore (lv' := [(7, .int (nI s)), (6, .int (nI (sShore way))), (0, .ref 0), (1, .int (nI w)), (2, .int (nI c)), (3, .int (nI s)), (4, .int (nI way)), (5, .int (nI at0))]) dX8_goneOf_31 (by decide) rfl ?_
    refine g_lv [2, 3, 4, 5, 6, 7, 1, 0] rfl ?_
    exact lp_goneOf hH hpa hwa hla hri hS hw hat hway hway1 41 c s 0 (by omega) hc hs (by omega) (by omega)

/-- which tower stands on a cell -/
def tI (tw : Nat) (at_ : Nat → Nat) (c : Nat) : Option Nat := sLast (fun t => decide (at_ t = c)) tw
def tOK (tw : Nat) (at_ fo ho : Nat → Nat) : Prop := tw ≤ 2 ∧ (∀ t, t < tw → at_ t ≤ 9 ∧ 1 ≤ fo t ∧ fo t ≤ 4 ∧ ho (at_ t) = fo t) ∧ (∀ c, ho c ≠ 0 → ∃ t, t < tw ∧ at_ t = c) ∧ (tw = 2 → at_ 0 ≠ at_ 1)
theorem sLast_some {p : Nat → Bool} : ∀ {n t : Nat}, sLast p n = some t → t < n ∧ p t = true
  | n + 1, t, e => by
    rw [sLast] at e
    split at e
    · next hp => cases e; exact ⟨by omega, hp⟩
    · have := sLast_some e; exact ⟨by omega, this.2⟩
theorem sLast_none {p : Nat → Bool} : ∀ {n : Nat}, sLast p n = none → ∀ t, t < n → p t = false
  | n + 1, e, t, ht => by
    rw [sLast] at e
    split at e
    · cases e
    · next hp =>
      by_cases h : t = n
      · subst h; simpa using hp
      · exact sLast_none e t (by omega)
theorem tI_none {tw : Nat} {at_ fo ho : Nat → Nat} {c : Nat} (h : tOK tw at_ fo ho) (e : tI tw at_ c = none) : ho c = 0 := by
  apply Decidable.byContradiction
  intro z
  obtain ⟨t, ht, h2⟩ := h.2.2.1 c z
  have := sLast_none e t ht
  simp [h2] at this
theorem tI_some {tw : Nat} {at_ fo ho : Nat → Nat} {c t : Nat} (h : tOK tw at_ fo ho) (e : tI tw at_ c = some t) : t < tw ∧ t < 2 ∧ at_ t = c ∧ fo t = ho c ∧ 1 ≤ ho c ∧ ho c ≤ 4 := by
  obtain ⟨h1, h2⟩ := sLast_some e
  have h3 : at_ t = c := by simpa using h2
  have h4 := h.2.1 t h1
  have h5 := h.1
  rw [h3] at h4
  exact ⟨h1, by omega, h3, h4.2.2.2.symm, by omega, by omega⟩
theorem lp_towerOf {e1 e2 e3 e4 e6 e7 e8 e9 e10 e11 e12 e13 e14 e15 e16 e17 : va_E} {ts pl lo ri la wk tw sf : Nat} {rl rr re : Int32} {rw rt rs ac : Nat} {sd : Int64} {ce sa ti : Nat} {at_ : Nat → Nat} {c : Nat} (htw : tw ≤ 2) (hat : ∀ t, t < tw → at_ t ≤ 9) (hc : c ≤ 9) : ∀ (n k : Nat), k + n = tw → Go mX8_towerOf 0 5 [(0, .ref 0), (1, .int (nI c)), (2, .int (rO (tI k at_ c))), (3, .int (nI k))] [] (wM (kM 0 ts pl lo ri la wk tw sf rl rr re rw rt rs ac sd ce sa ti) e1 e2 e3 e4 (kI 2 at_) e6 e7 e8 e9 e10 e11 e12 e13 e14 e15 e16 e17) (gE (some (.int (rO (tI tw at_ c)))) (wM (kM 0 ts pl lo ri la wk tw sf rl rr re rw rt rs ac sd ce sa ti) e1 e2 e3 e4 (kI 2 at_) e6 e7 e8 e9 e10 e11 e12 e13 e14 e15 e16 e17)) := by
  intro n
  induction n with
  | zero =>
    intro k hk
    obtain rfl : k = tw := by omega
    refine g_iload_n (i := 3) (j := 3) dX8_towerOf_5 rfl rfl ?_
    refine g_aload_n (i := 0) (j := 0) dX8_towerOf_6 rfl rfl ?_
    refine g_get fX8_145 rfl rfl dX8_towerOf_7 ?_
    refine n_icmp_ge (tgt := 35) (by omega) (by omega) dX8_towerOf_10 (by decide) (fun h10 => ?_) (fun h10 => ?_)
    · refine g_iload_n (i := 2) (j := 2) dX8_towerOf_35 rfl rfl ?_
      refine g_iret rfl rfl dX8_towerOf_36 ?_
      exact gE_i rfl rfl
    · exfalso; omega

  | succ n ih =>
    intro k hk
    have hat1 := hat k (by omega)
    refine g_iload_n (i := 3) (j := 3) dX8_towerOf_5 rfl rfl ?_
    refine g_aload_n (i := 0) (j := 0) dX8_towerOf_6 rfl rfl ?_
    refine g_get fX8_145 rfl rfl dX8_towerOf_7 ?_
    refine n_icmp_ge (tgt := 35) (by omega) (by omega) dX8_towerOf_10 (by decide) (fun h10 => ?_) (fun h10 => ?_)
    · exfalso; omega
    · refine g_aload_n (i := 0) (j := 0) dX8_towerOf_13 rfl rfl ?_
      refine g_get fX8_26 rfl rfl dX8_towerOf_14 ?_
      refine g_iload_n (i := 3) (j := 3) dX8_towerOf_17 rfl rfl ?_
      refine n_iald (x := k) rfl (by omega) (rng_lit 2 rfl) dX8_towerOf_18 ?_
      refine g_iload_n (i := 1) (j := 1) dX8_towerOf_19 rfl rfl ?_
      refine n_icmp_ne (tgt := 27) (by omega) (by omega) dX8_towerOf_20 (by decide) (fun h20 => ?_) (fun h20 => ?_)
      · refine g_iload_n (i := 2) (j := 2) dX8_towerOf_27 rfl rfl ?_
        refine g_istore_n (i := 2) (lv' := [(2, .int (rO (tI k at_ c))), (0, .ref 0), (1, .int (nI c)), (3, .int (nI k))]) dX8_towerOf_28 rfl (by decide) rfl ?_
        refine n_inc (x := k) (j := 3) (lv' := [(3, .int (nI (k + 1))), (2, .int (rO (tI k at_ c))), (0, .ref 0), (1, .int (nI c))]) dX8_towerOf_29 rfl (by decide) rfl ?_
        refine g_goto (tgt := 5) dX8_towerOf_32 (by decide) ?_
        refine g_lv [2, 3, 1, 0] rfl ?_
        have e : (rO (tI k at_ c)) = rO (tI (k + 1) at_ c) := by
          show _ = rO (sLast _ (k + 1))
          rw [sLast]
          first | rw [if_pos (by simpa using h20)]; rfl | rw [if_neg (by simpa using h20)]; rfl
        rw [e]
        exact ih (k + 1) (by omega)
      · refine g_iload_n (i := 3) (j := 3) dX8_towerOf_23 rfl rfl ?_
        refine g_goto (tgt := 28) dX8_towerOf_24 (by decide) ?_
        refine g_istore_n (i := 2) (lv' := [(2, .int (nI k)), (0, .ref 0), (1, .int (nI c)), (3, .int (nI k))]) dX8_towerOf_28 rfl (by decide) rfl ?_
        refine n_inc (x := k) (j := 3) (lv' := [(3, .int (nI (k + 1))), (2, .int (nI k)), (0, .ref 0), (1, .int (nI c))]) dX8_towerOf_29 rfl (by decide) rfl ?_
        refine g_goto (tgt := 5) dX8_towerOf_32 (by decide) ?_
        refine g_lv [2, 3, 1, 0] rfl ?_
        have e : (nI k) = rO (tI (k + 1) at_ c) := by
          show _ = rO (sLast _ (k + 1))
          rw [sLast]
          first | rw [if_pos (by simpa using h20)]; rfl | rw [if_neg (by simpa using h20)]; rfl
        rw [e]
        exact ih (k + 1) (by omega)

theorem ctX8_towerOf {e1 e2 e3 e4 e6 e7 e8 e9 e10 e11 e12 e13 e14 e15 e16 e17 : va_E} {ts pl lo ri la wk tw sf : Nat} {rl rr re : Int32} {rw rt rs ac : Nat} {sd : Int64} {ce sa ti : Nat} {at_ : Nat → Nat} {c : Nat} (htw : tw ≤ 2) (hat : ∀ t, t < tw → at_ t ≤ 9) (hc : c ≤ 9) : Ct mX8_towerOf 0 [.ref 0, .int (nI c)] (wM (kM 0 ts pl lo ri la wk tw sf rl rr re rw rt rs ac sd ce sa ti) e1 e2 e3 e4 (kI 2 at_) e6 e7 e8 e9 e10 e11 e12 e13 e14 e15 e16 e17) (gE (some (.int (rO (tI tw at_ c)))) (wM (kM 0 ts pl lo ri la wk tw sf rl rr re rw rt rs ac sd ce sa ti) e1 e2 e3 e4 (kI 2 at_) e6 e7 e8 e9 e10 e11 e12 e13 e14 e15 e16 e17)) := by
  refine Ct.of (by decide) (by exact Nat.le_of_ble_eq_true rfl) ?_
  show Go mX8_towerOf 0 0 [(0, .ref 0), (1, .int (nI c))] [] (wM (kM 0 ts pl lo ri la wk tw sf rl rr re rw rt rs ac sd ce sa ti) e1 e2 e3 e4 (kI 2 at_) e6 e7 e8 e9 e10 e11 e12 e13 e14 e15 e16 e17) (gE (some (.int (rO (tI tw at_ c)))) (wM (kM 0 ts pl lo ri la wk tw sf rl rr re rw rt rs ac sd ce sa ti) e1 e2 e3 e4 (kI 2 at_) e6 e7 e8 e9 e10 e11 e12 e13 e14 e15 e16 e17))
  refine g_bipush (v := (-9)) dX8_towerOf_0 (by decide) ?_
  refine g_istore_n (i := 2) (lv' := [(2, .int (-9)), (0, .ref 0), (1, .int (nI c))]) dX8_towerOf_2 rfl (by decide) rfl ?_
  refine g_iconst (v := nI 0) dX8_towerOf_3 (by decide) ?_
  refine g_istore_n (i := 3) (lv' := [(3, .int (nI 0)), (2, .int (-9)), (0, .ref 0), (1, .int (nI c))]) dX8_towerOf_4 rfl (by decide) rfl ?_
  refine g_lv [2, 3, 1, 0] rfl ?_
  exact lp_towerOf htw hat hc tw 0 (by omega)

theorem sUp_s (r : Nat → Nat) (k c : Nat) : sUp r (k + 1) c = sUp r k c + (if r (11 + k) = 4 ∧ r (1 + k) = c then 1 else 0) := by
  unfold sUp; rw [sCnt]; congr 1; simp only [Bool.and_eq_true, decide_eq_true_eq]
theorem lp_upAt {e1 e2 e3 e4 e5 e6 e7 e8 e9 e10 e11 e13 e14 e15 e16 e17 : va_E} {ts pl lo ri la wk tw sf : Nat} {rl rr re : Int32} {rw rt rs ac : Nat} {sd : Int64} {ce sa ti : Nat} {r : Nat → Nat} (hrk : rOK r) {c : Nat} (hwk : wk ≤ 5) (hc : c ≤ 9) : ∀ (n k : Nat), k + n = wk → Go mX8_upAt 0 4 [(0, .ref 0), (1, .int (nI c)), (2, .int (nI (sUp r k c))), (3, .int (nI k))] [] (wM (kM 0 ts pl lo ri la wk tw sf rl rr re rw rt rs ac sd ce sa ti) e1 e2 e3 e4 e5 e6 e7 e8 e9 e10 e11 (kI 16 (pgR r)) e13 e14 e15 e16 e17) (gE (some (.int (nI (sUp r wk c)))) (wM (kM 0 ts pl lo ri la wk tw sf rl rr re rw rt rs ac sd ce sa ti) e1 e2 e3 e4 e5 e6 e7 e8 e9 e10 e11 (kI 16 (pgR r)) e13 e14 e15 e16 e17)) := by
  intro n
  obtain ⟨hr, hr1, hr6, hr11⟩ := hrk
  induction n with
  | zero =>
    intro k hk
    obtain rfl : k = wk := by omega
    refine g_iload_n (i := 3) (j := 3) dX8_upAt_4 rfl rfl ?_
    refine g_aload_n (i := 0) (j := 0) dX8_upAt_5 rfl rfl ?_
    refine g_get fX8_70 rfl rfl dX8_upAt_6 ?_
    refine n_icmp_ge (tgt := 52) (by omega) (by omega) dX8_upAt_9 (by decide) (fun h9 => ?_) (fun h9 => ?_)
    · refine g_iload_n (i := 2) (j := 2) dX8_upAt_52 rfl rfl ?_
      refine g_iret rfl rfl dX8_upAt_53 ?_
      exact gE_i rfl rfl
    · exfalso; omega

  | succ n ih =>
    intro k hk
    have q1 := hr1 k (by omega)
    have q2 := hr11 k (by omega)
    refine g_iload_n (i := 3) (j := 3) dX8_upAt_4 rfl rfl ?_
    refine g_aload_n (i := 0) (j := 0) dX8_upAt_5 rfl rfl ?_
    refine g_get fX8_70 rfl rfl dX8_upAt_6 ?_
    refine n_icmp_ge (tgt := 52) (by omega) (by omega) dX8_upAt_9 (by decide) (fun h9 => ?_) (fun h9 => ?_)
    · exfalso; omega
    · refine g_iload_n (i := 2) (j := 2) dX8_upAt_12 rfl rfl ?_
      refine g_aload_n (i := 0) (j := 0) dX8_upAt_13 rfl rfl ?_
      refine g_get fX8_47 rfl rfl dX8_upAt_14 ?_
      refine g_iconst (v := nI 3) dX8_upAt_17 (by decide) ?_
      refine g_iload_n (i := 3) (j := 3) dX8_upAt_18 rfl rfl ?_
      refine n_imul (a := 3) (b := k) dX8_upAt_19 ?_
      refine n_iald (x := (3 * k)) rfl (by omega) (rng_lit 16 rfl) dX8_upAt_20 ?_
      refine g_topi (y := nI (r (1 + k))) (by rw [pg_0 (by omega)]) ?_
      refine g_iload_n (i := 1) (j := 1) dX8_upAt_21 rfl rfl ?_
      refine n_icmp_ne (tgt := 43) (by omega) (by omega) dX8_upAt_22 (by decide) (fun h22 => ?_) (fun h22 => ?_)
      · refine g_iconst (v := nI 0) dX8_upAt_43 (by decide) ?_
        refine n_iadd (a := (sUp r k c)) (b := 0) dX8_upAt_44 ?_
        refine g_istore_n (i := 2) (lv' := [(2, .int (nI ((sUp r k c) + 0))), (0, .ref 0), (1, .int (nI c)), (3, .int (nI k))]) dX8_upAt_45 rfl (by decide) rfl ?_
        refine n_inc (x := k) (j := 3) (lv' := [(3, .int (nI (k + 1))), (2, .int (nI ((sUp r k c) + 0))), (0, .ref 0), (1, .int (nI c))]) dX8_upAt_46 rfl (by decide) rfl ?_
        refine g_goto (tgt := 4) dX8_upAt_49 (by decide) ?_
        refine g_lv [2, 3, 1, 0] rfl ?_
        have e : (sUp r k c) + 0 = sUp r (k + 1) c := by rw [sUp_s]; first | rw [if_pos (by omega)] | rw [if_neg (by omega)]
        rw [e]
        exact ih (k + 1) (by omega)
      · refine g_aload_n (i := 0) (j := 0) dX8_upAt_25 rfl rfl ?_
        refine g_get fX8_47 rfl rfl dX8_upAt_26 ?_
        refine g_iconst (v := nI 3) dX8_upAt_29 (by decide) ?_
        refine g_iload_n (i := 3) (j := 3) dX8_upAt_30 rfl rfl ?_
        refine n_imul (a := 3) (b := k) dX8_upAt_31 ?_
        refine g_iconst (v := nI 2) dX8_upAt_32 (by decide) ?_
        refine n_iadd (a := (3 * k)) (b := 2) dX8_upAt_33 ?_
        refine n_iald (x := ((3 * k) + 2)) rfl (by omega) (rng_lit 16 rfl) dX8_upAt_34 ?_
        refine g_topi (y := nI (r (11 + k))) (by rw [pg_2 (by omega)]) ?_
        refine g_iconst (v := nI 4) dX8_upAt_35 (by decide) ?_
        refine n_icmp_ne (tgt := 43) (by omega) (rng_lit 4 rfl) dX8_upAt_36 (by decide) (fun h36 => ?_) (fun h36 => ?_)
        · refine g_iconst (v := nI 0) dX8_upAt_43 (by decide) ?_
          refine n_iadd (a := (sUp r k c)) (b := 0) dX8_upAt_44 ?_
          refine g_istore_n (i := 2) (lv' := [(2, .int (nI ((sUp r k c) + 0))), (0, .ref 0), (1, .int (nI c)), (3, .int (nI k))]) dX8_upAt_45 rfl (by decide) rfl ?_
          refine n_inc (x := k) (j := 3) (lv' := [(3, .int (nI (k + 1))), (2, .int (nI ((sUp r k c) + 0))), (0, .ref 0), (1, .int (nI c))]) dX8_upAt_46 rfl (by decide) rfl ?_
          refine g_goto (tgt := 4) dX8_upAt_49 (by decide) ?_
          refine g_lv [2, 3, 1, 0] rfl ?_
          have e : (sUp r k c) + 0 = sUp r (k + 1) c := by rw [sUp_s]; first | rw [if_pos (by omega)] | rw [if_neg (by omega)]
          rw [e]
          exact ih (k + 1) (by omega)
        · refine g_iconst (v := nI 1) dX8_upAt_39 (by decide) ?_
          refine g_goto (tgt := 44) dX8_upAt_40 (by decide) ?_
          refine n_iadd (a := (sUp r k c)) (b := 1) dX8_upAt_44 ?_
          refine g_istore_n (i := 2) (lv' := [(2, .int (nI ((sUp r k c) + 1))), (0, .ref 0), (1, .int (nI c)), (3, .int (nI k))]) dX8_upAt_45 rfl (by decide) rfl ?_
          refine n_inc (x := k) (j := 3) (lv' := [(3, .int (nI (k + 1))), (2, .int (nI ((sUp r k c) + 1))), (0, .ref 0), (1, .int (nI c))]) dX8_upAt_46 rfl (by decide) rfl ?_
          refine g_goto (tgt := 4) dX8_upAt_49 (by decide) ?_
          refine g_lv [2, 3, 1, 0] rfl ?_
          have e : (sUp r k c) + 1 = sUp r (k + 1) c := by rw [sUp_s]; first | rw [if_pos (by omega)] | rw [if_neg (by omega)]
          rw [e]
          exact ih (k + 1) (by omega)

theorem or_0 (a : Nat) : nI a ||| nI 0 = nI (a + 0) := by rw [nI_0]; exact Int32.or_zero
theorem ctX8_upAt {e1 e2 e3 e4 e5 e6 e7 e8 e9 e10 e11 e13 e14 e15 e16 e17 : va_E} {ts pl lo ri la wk tw sf : Nat} {rl rr re : Int32} {rw rt rs ac : Nat} {sd : Int64} {ce sa ti : Nat} {r : Nat → Nat} (hrk : rOK r) {c : Nat} (hwk : wk ≤ 5) (hc : c ≤ 9) : Ct mX8_upAt 0 [.ref 0, .int (nI c)] (wM (kM 0 ts pl lo ri la wk tw sf rl rr re rw rt rs ac sd ce sa ti) e1 e2 e3 e4 e5 e6 e7 e8 e9 e10 e11 (kI 16 (pgR r)) e13 e14 e15 e16 e17) (gE (some (.int (nI (sUp r wk c)))) (wM (kM 0 ts pl lo ri la wk tw sf rl rr re rw rt rs ac sd ce sa ti) e1 e2 e3 e4 e5 e6 e7 e8 e9 e10 e11 (kI 16 (pgR r)) e13 e14 e15 e16 e17)) := by
  refine Ct.of (by decide) (by exact Nat.le_of_ble_eq_true rfl) ?_
  show Go mX8_upAt 0 0 [(0, .ref 0), (1, .int (nI c))] [] (wM (kM 0 ts pl lo ri la wk tw sf rl rr re rw rt rs ac sd ce sa ti) e1 e2 e3 e4 e5 e6 e7 e8 e9 e10 e11 (kI 16 (pgR r)) e13 e14 e15 e16 e17) (gE (some (.int (nI (sUp r wk c)))) (wM (kM 0 ts pl lo ri la wk tw sf rl rr re rw rt rs ac sd ce sa ti) e1 e2 e3 e4 e5 e6 e7 e8 e9 e10 e11 (kI 16 (pgR r)) e13 e14 e15 e16 e17))
  refine g_iconst (v := nI 0) dX8_upAt_0 (by decide) ?_
  refine g_istore_n (i := 2) (lv' := [(2, .int (nI 0)), (0, .ref 0), (1, .int (nI c))]) dX8_upAt_1 rfl (by decide) rfl ?_
  refine g_iconst (v := nI 0) dX8_upAt_2 (by decide) ?_
  refine g_istore_n (i := 3) (lv' := [(3, .int (nI 0)), (2, .int (nI 0)), (0, .ref 0), (1, .int (nI c))]) dX8_upAt_3 rfl (by decide) rfl ?_
  refine g_lv [2, 3, 1, 0] rfl ?_
  exact lp_upAt hrk hwk hc wk 0 (by omega)

theorem lp_those {e1 e2 e3 e4 e5 e6 e7 e8 e9 e10 e11 e13 e14 e15 e16 e17 : va_E} {ts pl lo ri la wk tw sf : Nat} {rl rr re : Int32} {rw rt rs ac : Nat} {sd : Int64} {ce sa ti : Nat} {r : Nat → Nat} (hrk : rOK r) {x : Nat} (hwk : wk ≤ 5) (hx : x ≤ 4) : ∀ (n k : Nat), k + n = wk → Go mX8_those 0 4 [(0, .ref 0), (1, .int (nI x)), (2, .int (nI (sSet (fun w => decide (r (11 + w) = x)) k))), (3, .int (nI k))] [] (wM (kM 0 ts pl lo ri la wk tw sf rl rr re rw rt rs ac sd ce sa ti) e1 e2 e3 e4 e5 e6 e7 e8 e9 e10 e11 (kI 16 (pgR r)) e13 e14 e15 e16 e17) (gE (some (.int (nI (sSet (fun w => decide (r (11 + w) = x)) wk)))) (wM (kM 0 ts pl lo ri la wk tw sf rl rr re rw rt rs ac sd ce sa ti) e1 e2 e3 e4 e5 e6 e7 e8 e9 e10 e11 (kI 16 (pgR r)) e13 e14 e15 e16 e17)) := by
  intro n
  obtain ⟨hr, hr1, hr6, hr11⟩ := hrk
  induction n with
  | zero =>
    intro k hk
    obtain rfl : k = wk := by omega
    refine g_iload_n (i := 3) (j := 3) dX8_those_4 rfl rfl ?_
    refine g_aload_n (i := 0) (j := 0) dX8_those_5 rfl rfl ?_
    refine g_get fX8_70 rfl rfl dX8_those_6 ?_
    refine n_icmp_ge (tgt := 42) (by omega) (by omega) dX8_those_9 (by decide) (fun h9 => ?_) (fun h9 => ?_)
    · refine g_iload_n (i := 2) (j := 2) dX8_those_42 rfl rfl ?_
      refine g_iret rfl rfl dX8_those_43 ?_
      exact gE_i rfl rfl
    · exfalso; omega

  | succ n ih =>
    intro k hk
    have q2 := hr11 k (by omega)
    have q3 := sSet_lt (fun w => decide (r (11 + w) = x)) k
    refine g_iload_n (i := 3) (j := 3) dX8_those_4 rfl rfl ?_
    refine g_aload_n (i := 0) (j := 0) dX8_those_5 rfl rfl ?_
    refine g_get fX8_70 rfl rfl dX8_those_6 ?_
    refine n_icmp_ge (tgt := 42) (by omega) (by omega) dX8_those_9 (by decide) (fun h9 => ?_) (fun h9 => ?_)
    · exfalso; omega
    · refine g_iload_n (i := 2) (j := 2) dX8_those_12 rfl rfl ?_
      refine g_aload_n (i := 0) (j := 0) dX8_those_13 rfl rfl ?_
      refine g_get fX8_47 rfl rfl dX8_those_14 ?_
      refine g_iconst (v := nI 3) dX8_those_17 (by decide) ?_
      refine g_iload_n (i := 3) (j := 3) dX8_those_18 rfl rfl ?_
      refine n_imul (a := 3) (b := k) dX8_those_19 ?_
      refine g_iconst (v := nI 2) dX8_those_20 (by decide) ?_
      refine n_iadd (a := (3 * k)) (b := 2) dX8_those_21 ?_
      refine n_iald (x := ((3 * k) + 2)) rfl (by omega) (rng_lit 16 rfl) dX8_those_22 ?_
      refine g_topi (y := nI (r (11 + k))) (by rw [pg_2 (by omega)]) ?_
      refine g_iload_n (i := 1) (j := 1) dX8_those_23 rfl rfl ?_
      refine n_icmp_ne (tgt := 33) (by omega) (by omega) dX8_those_24 (by decide) (fun h24 => ?_) (fun h24 => ?_)
      · refine g_iconst (v := nI 0) dX8_those_33 (by decide) ?_
        refine g_ior dX8_those_34 ?_
        refine g_topi (y := nI (sSet (fun w => decide (r (11 + w) = x)) (k + 1))) (by rw [sSet]; first | (rw [if_pos (by simpa using h24)]; exact or_bit k (by omega) _ q3) | (rw [if_neg (by simpa using h24)]; exact or_0 _)) ?_
        refine g_istore_n (i := 2) (lv' := [(2, .int (nI (sSet (fun w => decide (r (11 + w) = x)) (k + 1)))), (0, .ref 0), (1, .int (nI x)), (3, .int (nI k))]) dX8_those_35 rfl (by decide) rfl ?_
        refine n_inc (x := k) (j := 3) (lv' := [(3, .int (nI (k + 1))), (2, .int (nI (sSet (fun w => decide (r (11 + w) = x)) (k + 1)))), (0, .ref 0), (1, .int (nI x))]) dX8_those_36 rfl (by decide) rfl ?_
        refine g_goto (tgt := 4) dX8_those_39 (by decide) ?_
        refine g_lv [2, 3, 1, 0] rfl ?_
        exact ih (k + 1) (by omega)
      · refine g_iconst (v := nI 1) dX8_those_27 (by decide) ?_
        refine g_iload_n (i := 3) (j := 3) dX8_those_28 rfl rfl ?_
        refine g_ishl dX8_those_29 ?_
        refine g_goto (tgt := 34) dX8_those_30 (by decide) ?_
        refine g_ior dX8_those_34 ?_
        refine g_topi (y := nI (sSet (fun w => decide (r (11 + w) = x)) (k + 1))) (by rw [sSet]; first | (rw [if_pos (by simpa using h24)]; exact or_bit k (by omega) _ q3) | (rw [if_neg (by simpa using h24)]; exact or_0 _)) ?_
        refine g_istore_n (i := 2) (lv' := [(2, .int (nI (sSet (fun w => decide (r (11 + w) = x)) (k + 1)))), (0, .ref 0), (1, .int (nI x)), (3, .int (nI k))]) dX8_those_35 rfl (by decide) rfl ?_
        refine n_inc (x := k) (j := 3) (lv' := [(3, .int (nI (k + 1))), (2, .int (nI (sSet (fun w => decide (r (11 + w) = x)) (k + 1)))), (0, .ref 0), (1, .int (nI x))]) dX8_those_36 rfl (by decide) rfl ?_
        refine g_goto (tgt := 4) dX8_those_39 (by decide) ?_
        refine g_lv [2, 3, 1, 0] rfl ?_
        exact ih (k + 1) (by omega)

theorem ctX8_those {e1 e2 e3 e4 e5 e6 e7 e8 e9 e10 e11 e13 e14 e15 e16 e17 : va_E} {ts pl lo ri la wk tw sf : Nat} {rl rr re : Int32} {rw rt rs ac : Nat} {sd : Int64} {ce sa ti : Nat} {r : Nat → Nat} (hrk : rOK r) {x : Nat} (hwk : wk ≤ 5) (hx : x ≤ 4) : Ct mX8_those 0 [.ref 0, .int (nI x)] (wM (kM 0 ts pl lo ri la wk tw sf rl rr re rw rt rs ac sd ce sa ti) e1 e2 e3 e4 e5 e6 e7 e8 e9 e10 e11 (kI 16 (pgR r)) e13 e14 e15 e16 e17) (gE (some (.int (nI (sSet (fun w => decide (r (11 + w) = x)) wk)))) (wM (kM 0 ts pl lo ri la wk tw sf rl rr re rw rt rs ac sd ce sa ti) e1 e2 e3 e4 e5 e6 e7 e8 e9 e10 e11 (kI 16 (pgR r)) e13 e14 e15 e16 e17)) := by
  refine Ct.of (by decide) (by exact Nat.le_of_ble_eq_true rfl) ?_
  show Go mX8_those 0 0 [(0, .ref 0), (1, .int (nI x))] [] (wM (kM 0 ts pl lo ri la wk tw sf rl rr re rw rt rs ac sd ce sa ti) e1 e2 e3 e4 e5 e6 e7 e8 e9 e10 e11 (kI 16 (pgR r)) e13 e14 e15 e16 e17) (gE (some (.int (nI (sSet (fun w => decide (r (11 + w) = x)) wk)))) (wM (kM 0 ts pl lo ri la wk tw sf rl rr re rw rt rs ac sd ce sa ti) e1 e2 e3 e4 e5 e6 e7 e8 e9 e10 e11 (kI 16 (pgR r)) e13 e14 e15 e16 e17))
  refine g_iconst (v := nI 0) dX8_those_0 (by decide) ?_
  refine g_istore_n (i := 2) (lv' := [(2, .int (nI 0)), (0, .ref 0), (1, .int (nI x))]) dX8_those_1 rfl (by decide) rfl ?_
  refine g_iconst (v := nI 0) dX8_those_2 (by decide) ?_
  refine g_istore_n (i := 3) (lv' := [(3, .int (nI 0)), (2, .int (nI 0)), (0, .ref 0), (1, .int (nI x))]) dX8_those_3 rfl (by decide) rfl ?_
  refine g_lv [2, 3, 1, 0] rfl ?_
  exact lp_those hrk hwk hx wk 0 (by omega)

