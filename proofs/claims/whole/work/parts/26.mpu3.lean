/-! part 26: the model: shells cut step judged -/
theorem lp_mshells {e1 e7 e8 e9 e10 e11 e13 e14 e15 e16 e17 : va_E} {ts pl lo ri la wk tw sf : Nat} {rl rr re : Int32} {rw rt rs ac : Nat} {sd : Int64} {h so ho pa wa at_ fo r : Nat → Nat} (hg : gOK h so ho pa wa wk tw lo ri la) (hS : mSf sf so) (hT : tOK tw at_ fo ho) (hrk : rOK r) {k : Nat} (hk : k < 5) : ∀ (n i : Nat) (m : Option Nat) (ce sa ti : Nat), r 0 + i + n = 41 → Go mX8_shells 5 36 [(0, .ref 0), (1, .int (nI k)), (2, .int (nI 0)), (3, .int (nI (r (1 + k)))), (4, .int (rO m)), (5, .int (nI 1)), (6, .int (nI i))] [] (wM (kM 0 ts pl lo ri la wk tw sf rl rr re rw rt rs ac sd ce sa ti) e1 (kI 10 h) (kI 5 pa) (kI 5 wa) (kI 2 at_) (kI 2 fo) e7 e8 e9 e10 e11 (kI 16 (pgR r)) e13 e14 e15 e16 e17) (fun v u => v = some (.int (rO (sSh (sOkS h so la ri (wa k) lo (r (1 + k)) (r 0)) (fun i => sSafeB h so la ri (pa k) (wa k) lo (r (1 + k)) (r 0 + i)) n i m))) ∧ ∃ ce2 sa2 ti2 : Nat, u = wM (kM 0 ts pl lo ri la wk tw sf rl rr re rw rt rs ac sd ce2 sa2 ti2) e1 (kI 10 h) (kI 5 pa) (kI 5 wa) (kI 2 at_) (kI 2 fo) e7 e8 e9 e10 e11 (kI 16 (pgR r)) e13 e14 e15 e16 e17) := by
  intro n
  obtain ⟨hH, hso, hho, hpa, hwa, hwk, htw, hlo, hri, hla⟩ := hg
  have hrk0 := hrk
  obtain ⟨hr, hr1, hr6, hr11⟩ := hrk0
  have q1 := hr1 k hk
  have q0 := hr 0
  have qw := hwa k
  have hs1 := hS.1
  have hs2 := hS.2 (r (1 + k)) (by omega)
  induction n with
  | zero =>
    intro i m ce sa ti hi
    refine g_iload (j := 5) dX8_shells_36 rfl ?_
    refine n_if_eq (tgt := 179) (rng_lit 1 rfl) dX8_shells_38 (by decide) (fun h38 => ?_) (fun h38 => ?_)
    · exact absurd h38 (by decide)
    · refine g_aload_n (i := 0) (j := 0) dX8_shells_41 rfl rfl ?_
      refine g_get fX8_47 rfl rfl dX8_shells_42 ?_
      refine g_bipush (v := nI 15) dX8_shells_45 (by decide) ?_
      refine n_iald (x := 15) rfl (by omega) (rng_lit 16 rfl) dX8_shells_47 ?_
      refine g_topi (y := nI (r 0)) (by rw [pg_t]) ?_
      refine g_iload (j := 6) dX8_shells_48 rfl ?_
      refine n_iadd (a := (r 0)) (b := i) dX8_shells_50 ?_
      refine g_bipush (v := nI 40) dX8_shells_51 (by decide) ?_
      refine n_icmp_gt (tgt := 179) (by omega) (rng_lit 40 rfl) dX8_shells_53 (by decide) (fun h53 => ?_) (fun h53 => ?_)
      · refine g_iload (j := 4) dX8_shells_179 rfl ?_
        refine g_iret rfl rfl dX8_shells_181 ?_
        exact ⟨rfl, _, _, _, rfl⟩
      · exfalso; omega

  | succ n ih =>
    intro i m ce sa ti hi
    have qd := sDW h (r (1 + k)) la ri (r 0 + i) lo
    refine g_iload (j := 5) dX8_shells_36 rfl ?_
    refine n_if_eq (tgt := 179) (rng_lit 1 rfl) dX8_shells_38 (by decide) (fun h38 => ?_) (fun h38 => ?_)
    · exact absurd h38 (by decide)
    · refine g_aload_n (i := 0) (j := 0) dX8_shells_41 rfl rfl ?_
      refine g_get fX8_47 rfl rfl dX8_shells_42 ?_
      refine g_bipush (v := nI 15) dX8_shells_45 (by decide) ?_
      refine n_iald (x := 15) rfl (by omega) (rng_lit 16 rfl) dX8_shells_47 ?_
      refine g_topi (y := nI (r 0)) (by rw [pg_t]) ?_
      refine g_iload (j := 6) dX8_shells_48 rfl ?_
      refine n_iadd (a := (r 0)) (b := i) dX8_shells_50 ?_
      refine g_bipush (v := nI 40) dX8_shells_51 (by decide) ?_
      refine n_icmp_gt (tgt := 179) (by omega) (rng_lit 40 rfl) dX8_shells_53 (by decide) (fun h53 => ?_) (fun h53 => ?_)
      · exfalso; omega
      · refine g_aload_n (i := 0) (j := 0) dX8_shells_56 rfl rfl ?_
        refine g_get fX8_47 rfl rfl dX8_shells_57 ?_
        refine g_bipush (v := nI 15) dX8_shells_60 (by decide) ?_
        refine n_iald (x := 15) rfl (by omega) (rng_lit 16 rfl) dX8_shells_62 ?_
        refine g_topi (y := nI (r 0)) (by rw [pg_t]) ?_
        refine g_iload (j := 6) dX8_shells_63 rfl ?_
        refine n_iadd (a := (r 0)) (b := i) dX8_shells_65 ?_
        refine g_istore (lv' := [(7, .int (nI ((r 0) + i))), (0, .ref 0), (1, .int (nI k)), (2, .int (nI 0)), (3, .int (nI (r (1 + k)))), (4, .int (rO m)), (5, .int (nI 1)), (6, .int (nI i))]) dX8_shells_66 (by decide) rfl ?_
        refine g_iload (j := 7) dX8_shells_68 rfl ?_
        refine n_if_eq (tgt := 104) (by omega) dX8_shells_70 (by decide) (fun h70 => ?_) (fun h70 => ?_)
        · refine g_iconst (v := nI 1) dX8_shells_104 (by decide) ?_
          refine g_goto (tgt := 109) dX8_shells_105 (by decide) ?_
          refine g_istore (lv' := [(5, .int (nI 1)), (7, .int (nI ((r 0) + i))), (0, .ref 0), (1, .int (nI k)), (2, .int (nI 0)), (3, .int (nI (r (1 + k)))), (4, .int (rO m)), (6, .int (nI i))]) dX8_shells_109 (by decide) rfl ?_
          refine g_aload_n (i := 0) (j := 2) dX8_shells_111 rfl rfl ?_
          refine g_iload_n (i := 1) (j := 3) dX8_shells_112 rfl rfl ?_
          refine g_iload_n (i := 3) (j := 5) dX8_shells_113 rfl rfl ?_
          refine g_iload (j := 1) dX8_shells_114 rfl ?_
          refine g_iconst (v := nI 1) dX8_shells_116 (by decide) ?_
          refine g_aload_n (i := 0) (j := 2) dX8_shells_117 rfl rfl ?_
          refine g_get fX8_139 rfl rfl dX8_shells_118 ?_
          refine g_callV (rest := []) (ctX8_goneOf (w := k) (c := r (1 + k)) (s := (r 0) + i) (way := 1) (at0 := lo) hH hpa hwa (by omega) (by omega) hS (by first | omega | assumption | exact hpa _ | exact hwa _ | exact hr1 _ (by omega) | exact hr6 _ (by omega) | exact hr11 _ (by omega) | exact hr _ | exact Nat.le_succ_of_le (hr _) | (apply sTo_le; first | omega | exact hr1 _ (by omega))) (by first | omega | assumption | exact hpa _ | exact hwa _ | exact hr1 _ (by omega) | exact hr6 _ (by omega) | exact hr11 _ (by omega) | exact hr _ | exact Nat.le_succ_of_le (hr _) | (apply sTo_le; first | omega | exact hr1 _ (by omega))) (by first | omega | assumption | exact hpa _ | exact hwa _ | exact hr1 _ (by omega) | exact hr6 _ (by omega) | exact hr11 _ (by omega) | exact hr _ | exact Nat.le_succ_of_le (hr _) | (apply sTo_le; first | omega | exact hr1 _ (by omega))) (by first | omega | assumption | exact hpa _ | exact hwa _ | exact hr1 _ (by omega) | exact hr6 _ (by omega) | exact hr11 _ (by omega) | exact hr _ | exact Nat.le_succ_of_le (hr _) | (apply sTo_le; first | omega | exact hr1 _ (by omega))) (by first | omega | assumption | exact hpa _ | exact hwa _ | exact hr1 _ (by omega) | exact hr6 _ (by omega) | exact hr11 _ (by omega) | exact hr _ | exact Nat.le_succ_of_le (hr _) | (apply sTo_le; first | omega | exact hr1 _ (by omega))) (by first | omega | assumption | exact hpa _ | exact hwa _ | exact hr1 _ (by omega) | exact hr6 _ (by omega) | exact hr11 _ (by omega) | exact hr _ | exact Nat.le_succ_of_le (hr _) | (apply sTo_le; first | omega | exact hr1 _ (by omega)))) kX8_goneOf lX8_205 (by decide) rfl rfl rfl rfl (by exact Nat.le_of_ble_eq_true rfl) dX8_shells_121 rfl (fun v u hvu => ?_)
          obtain ⟨rfl, ce121, sa121, ti121, rfl⟩ := hvu
          refine g_st (st' := [.int (rO (sArr h so la ri (pa k) (wa k) lo 1 (r (1 + k)) ((r 0) + i)))]) rfl ?_
          refine g_bipush (v := (-9)) dX8_shells_124 (by decide) ?_
          refine g_icmp_ne (tgt := 147) dX8_shells_126 (by decide) (fun h126 => ?_) (fun h126 => ?_)
          · replace h126 := fun z => h126 ((sArr_ne (by omega)).mpr z)
            refine g_iconst (v := nI 1) dX8_shells_147 (by decide) ?_
            refine g_goto (tgt := 152) dX8_shells_148 (by decide) ?_
            refine g_istore (lv' := [(8, .int (nI 1)), (5, .int (nI 1)), (7, .int (nI ((r 0) + i))), (0, .ref 0), (1, .int (nI k)), (2, .int (nI 0)), (3, .int (nI (r (1 + k)))), (4, .int (rO m)), (6, .int (nI i))]) dX8_shells_152 (by decide) rfl ?_
            refine g_iload (j := 1) dX8_shells_154 rfl ?_
            refine n_if_eq (tgt := 169) (rng_lit 1 rfl) dX8_shells_156 (by decide) (fun h156 => ?_) (fun h156 => ?_)
            · exact absurd h156 (by decide)
            · refine g_iload (j := 0) dX8_shells_159 rfl ?_
              refine n_if_eq (tgt := 169) (rng_lit 1 rfl) dX8_shells_161 (by decide) (fun h161 => ?_) (fun h161 => ?_)
              · exact absurd h161 (by decide)
              · refine g_iload (j := 8) dX8_shells_164 rfl ?_
                refine g_goto (tgt := 171) dX8_shells_166 (by decide) ?_
                refine g_istore (lv' := [(4, .int (nI i)), (8, .int (nI 1)), (5, .int (nI 1)), (7, .int (nI ((r 0) + i))), (0, .ref 0), (1, .int (nI k)), (2, .int (nI 0)), (3, .int (nI (r (1 + k)))), (6, .int (nI i))]) dX8_shells_171 (by decide) rfl ?_
                refine n_inc (x := i) (j := 8) (lv' := [(6, .int (nI (i + 1))), (4, .int (nI i)), (8, .int (nI 1)), (5, .int (nI 1)), (7, .int (nI ((r 0) + i))), (0, .ref 0), (1, .int (nI k)), (2, .int (nI 0)), (3, .int (nI (r (1 + k))))]) dX8_shells_173 rfl (by decide) rfl ?_
                refine g_goto (tgt := 36) dX8_shells_176 (by decide) ?_
                refine g_lv [5, 6, 7, 8, 1, 3, 0] rfl ?_
                have e1 : ¬ (i ≠ 0 ∧ (sOkS h so la ri (wa k) lo (r (1 + k)) (r 0)) i = false) := by
                  intro z
                  first | (exact z.1 h70) | (have z2 := z.2; simp only [sOkS, Bool.and_eq_false_iff, decide_eq_false_iff_not] at z2; omega)
                have e2 : (nI i) = rO (if (fun i => sSafeB h so la ri (pa k) (wa k) lo (r (1 + k)) (r 0 + i)) i then some i else m) := by
                  first | (rw [if_pos (by show sSafeB _ _ _ _ _ _ _ _ _ = true; unfold sSafeB; first | simp [isSome_t h126] | simp [isSome_t h144])]; rfl) | (rw [if_neg (by show ¬ sSafeB _ _ _ _ _ _ _ _ _ = true; unfold sSafeB; simp [isSome_f h126, isSome_f h144])])
                rw [sSh, if_neg e1, e2]
                exact ih (i + 1) _ _ _ _ (by omega)
          · replace h126 := (sArr_ne (by omega)).mp h126
            refine g_aload_n (i := 0) (j := 2) dX8_shells_129 rfl rfl ?_
            refine g_iload_n (i := 1) (j := 3) dX8_shells_130 rfl rfl ?_
            refine g_iload_n (i := 3) (j := 5) dX8_shells_131 rfl rfl ?_
            refine g_iload (j := 1) dX8_shells_132 rfl ?_
            refine g_iconst (v := nI 2) dX8_shells_134 (by decide) ?_
            refine g_aload_n (i := 0) (j := 2) dX8_shells_135 rfl rfl ?_
            refine g_get fX8_139 rfl rfl dX8_shells_136 ?_
            refine g_callV (rest := []) (ctX8_goneOf (w := k) (c := r (1 + k)) (s := (r 0) + i) (way := 2) (at0 := lo) hH hpa hwa (by omega) (by omega) hS (by first | omega | assumption | exact hpa _ | exact hwa _ | exact hr1 _ (by omega) | exact hr6 _ (by omega) | exact hr11 _ (by omega) | exact hr _ | exact Nat.le_succ_of_le (hr _) | (apply sTo_le; first | omega | exact hr1 _ (by omega))) (by first | omega | assumption | exact hpa _ | exact hwa _ | exact hr1 _ (by omega) | exact hr6 _ (by omega) | exact hr11 _ (by omega) | exact hr _ | exact Nat.le_succ_of_le (hr _) | (apply sTo_le; first | omega | exact hr1 _ (by omega))) (by first | omega | assumption | exact hpa _ | exact hwa _ | exact hr1 _ (by omega) | exact hr6 _ (by omega) | exact hr11 _ (by omega) | exact hr _ | exact Nat.le_succ_of_le (hr _) | (apply sTo_le; first | omega | exact hr1 _ (by omega))) (by first | omega | assumption | exact hpa _ | exact hwa _ | exact hr1 _ (by omega) | exact hr6 _ (by omega) | exact hr11 _ (by omega) | exact hr _ | exact Nat.le_succ_of_le (hr _) | (apply sTo_le; first | omega | exact hr1 _ (by omega))) (by first | omega | assumption | exact hpa _ | exact hwa _ | exact hr1 _ (by omega) | exact hr6 _ (by omega) | exact hr11 _ (by omega) | exact hr _ | exact Nat.le_succ_of_le (hr _) | (apply sTo_le; first | omega | exact hr1 _ (by omega))) (by first | omega | assumption | exact hpa _ | exact hwa _ | exact hr1 _ (by omega) | exact hr6 _ (by omega) | exact hr11 _ (by omega) | exact hr _ | exact Nat.le_succ_of_le (hr _) | (apply sTo_le; first | omega | exact hr1 _ (by omega)))) kX8_goneOf lX8_205 (by decide) rfl rfl rfl rfl (by exact Nat.le_of_ble_eq_true rfl) dX8_shells_139 rfl (fun v u hvu => ?_)
            obtain ⟨rfl, ce139, sa139, ti139, rfl⟩ := hvu
            refine g_st (st' := [.int (rO (sArr h so la ri (pa k) (wa k) lo 2 (r (1 + k)) ((r 0) + i)))]) rfl ?_
            refine g_bipush (v := (-9)) dX8_shells_142 (by decide) ?_
            refine g_icmp_eq (tgt := 151) dX8_shells_144 (by decide) (fun h144 => ?_) (fun h144 => ?_)
            · replace h144 := (sArr_ne (by omega)).mp h144
              refine g_iconst (v := nI 0) dX8_shells_151 (by decide) ?_
              refine g_istore (lv' := [(8, .int (nI 0)), (5, .int (nI 1)), (7, .int (nI ((r 0) + i))), (0, .ref 0), (1, .int (nI k)), (2, .int (nI 0)), (3, .int (nI (r (1 + k)))), (4, .int (rO m)), (6, .int (nI i))]) dX8_shells_152 (by decide) rfl ?_
              refine g_iload (j := 1) dX8_shells_154 rfl ?_
              refine n_if_eq (tgt := 169) (rng_lit 1 rfl) dX8_shells_156 (by decide) (fun h156 => ?_) (fun h156 => ?_)
              · exact absurd h156 (by decide)
              · refine g_iload (j := 0) dX8_shells_159 rfl ?_
                refine n_if_eq (tgt := 169) (rng_lit 0 rfl) dX8_shells_161 (by decide) (fun h161 => ?_) (fun h161 => ?_)
                · refine g_iload (j := 7) dX8_shells_169 rfl ?_
                  refine g_istore (lv' := [(4, .int (rO m)), (8, .int (nI 0)), (5, .int (nI 1)), (7, .int (nI ((r 0) + i))), (0, .ref 0), (1, .int (nI k)), (2, .int (nI 0)), (3, .int (nI (r (1 + k)))), (6, .int (nI i))]) dX8_shells_171 (by decide) rfl ?_
                  refine n_inc (x := i) (j := 8) (lv' := [(6, .int (nI (i + 1))), (4, .int (rO m)), (8, .int (nI 0)), (5, .int (nI 1)), (7, .int (nI ((r 0) + i))), (0, .ref 0), (1, .int (nI k)), (2, .int (nI 0)), (3, .int (nI (r (1 + k))))]) dX8_shells_173 rfl (by decide) rfl ?_
                  refine g_goto (tgt := 36) dX8_shells_176 (by decide) ?_
                  refine g_lv [5, 6, 7, 8, 1, 3, 0] rfl ?_
                  have e1 : ¬ (i ≠ 0 ∧ (sOkS h so la ri (wa k) lo (r (1 + k)) (r 0)) i = false) := by
                    intro z
                    first | (exact z.1 h70) | (have z2 := z.2; simp only [sOkS, Bool.and_eq_false_iff, decide_eq_false_iff_not] at z2; omega)
                  have e2 : (rO m) = rO (if (fun i => sSafeB h so la ri (pa k) (wa k) lo (r (1 + k)) (r 0 + i)) i then some i else m) := by
                    first | (rw [if_pos (by show sSafeB _ _ _ _ _ _ _ _ _ = true; unfold sSafeB; first | simp [isSome_t h126] | simp [isSome_t h144])]; rfl) | (rw [if_neg (by show ¬ sSafeB _ _ _ _ _ _ _ _ _ = true; unfold sSafeB; simp [isSome_f h126, isSome_f h144])])
                  rw [sSh, if_neg e1, e2]
                  exact ih (i + 1) _ _ _ _ (by omega)
                · exact absurd h161 (by decide)
            · replace h144 := fun z => h144 ((sArr_ne (by omega)).mpr z)
              refine g_iconst (v := nI 1) dX8_shells_147 (by decide) ?_
              refine g_goto (tgt := 152) dX8_shells_148 (by decide) ?_
              refine g_istore (lv' := [(8, .int (nI 1)), (5, .int (nI 1)), (7, .int (nI ((r 0) + i))), (0, .ref 0), (1, .int (nI k)), (2, .int (nI 0)), (3, .int (nI (r (1 + k)))), (4, .int (rO m)), (6, .int (nI i))]) dX8_shells_152 (by decide) rfl ?_
              refine g_iload (j := 1) dX8_shells_154 rfl ?_
              refine n_if_eq (tgt := 169) (rng_lit 1 rfl) dX8_shells_156 (by decide) (fun h156 => ?_) (fun h156 => ?_)
              · exact absurd h156 (by decide)
              · refine g_iload (j := 0) dX8_shells_159 rfl ?_
                refine n_if_eq (tgt := 169) (rng_lit 1 rfl) dX8_shells_161 (by decide) (fun h161 => ?_) (fun h161 => ?_)
                · exact absurd h161 (by decide)
                · refine g_iload (j := 8) dX8_shells_164 rfl ?_
                  refine g_goto (tgt := 171) dX8_shells_166 (by decide) ?_
                  refine g_istore (lv' := [(4, .int (nI i)), (8, .int (nI 1)), (5, .int (nI 1)), (7, .int (nI ((r 0) + i))), (0, .ref 0), (1, .int (nI k)), (2, .int (nI 0)), (3, .int (nI (r (1 + k)))), (6, .int (nI i))]) dX8_shells_171 (by decide) rfl ?_
                  refine n_inc (x := i) (j := 8) (lv' := [(6, .int (nI (i + 1))), (4, .int (nI i)), (8, .int (nI 1)), (5, .int (nI 1)), (7, .int (nI ((r 0) + i))), (0, .ref 0), (1, .int (nI k)), (2, .int (nI 0)), (3, .int (nI (r (1 + k))))]) dX8_shells_173 rfl (by decide) rfl ?_
                  refine g_goto (tgt := 36) dX8_shells_176 (by decide) ?_
                  refine g_lv [5, 6, 7, 8, 1, 3, 0] rfl ?_
                  have e1 : ¬ (i ≠ 0 ∧ (sOkS h so la ri (wa k) lo (r (1 + k)) (r 0)) i = false) := by
                    intro z
                    first | (exact z.1 h70) | (have z2 := z.2; simp only [sOkS, Bool.and_eq_false_iff, decide_eq_false_iff_not] at z2; omega)
                  have e2 : (nI i) = rO (if (fun i => sSafeB h so la ri (pa k) (wa k) lo (r (1 + k)) (r 0 + i)) i then some i else m) := by
                    first | (rw [if_pos (by show sSafeB _ _ _ _ _ _ _ _ _ = true; unfold sSafeB; first | simp [isSome_t h126] | simp [isSome_t h144])]; rfl) | (rw [if_neg (by show ¬ sSafeB _ _ _ _ _ _ _ _ _ = true; unfold sSafeB; simp [isSome_f h126, isSome_f h144])])
                  rw [sSh, if_neg e1, e2]
                  exact ih (i + 1) _ _ _ _ (by omega)
        · refine g_aload_n (i := 0) (j := 1) dX8_shells_73 rfl rfl ?_
          refine g_iload_n (i := 3) (j := 4) dX8_shells_74 rfl rfl ?_
          refine g_iload (j := 0) dX8_shells_75 rfl ?_
          refine g_aload_n (i := 0) (j := 1) dX8_shells_77 rfl rfl ?_
          refine g_get fX8_139 rfl rfl dX8_shells_78 ?_
          refine c_V (st1 := [.int (nI (sDepth h (r (1 + k)) (sWater la ri ((r 0) + i) lo)))]) (ctX8_deepBy (c := r (1 + k)) (s := (r 0) + i) (at0 := lo) hH (by omega) (by omega) (by first | omega | assumption | exact hpa _ | exact hwa _ | exact hr1 _ (by omega) | exact hr6 _ (by omega) | exact hr11 _ (by omega) | exact hr _ | exact Nat.le_succ_of_le (hr _) | (apply sTo_le; first | omega | exact hr1 _ (by omega))) (by first | omega | assumption | exact hpa _ | exact hwa _ | exact hr1 _ (by omega) | exact hr6 _ (by omega) | exact hr11 _ (by omega) | exact hr _ | exact Nat.le_succ_of_le (hr _) | (apply sTo_le; first | omega | exact hr1 _ (by omega))) (by first | omega | assumption | exact hpa _ | exact hwa _ | exact hr1 _ (by omega) | exact hr6 _ (by omega) | exact hr11 _ (by omega) | exact hr _ | exact Nat.le_succ_of_le (hr _) | (apply sTo_le; first | omega | exact hr1 _ (by omega)))) kX8_deepBy lX8_167 (by decide) rfl rfl rfl rfl (by exact Nat.le_of_ble_eq_true rfl) dX8_shells_81 rfl rfl ?_
          refine g_aload_n (i := 0) (j := 1) dX8_shells_84 rfl rfl ?_
          refine g_get fX8_23 rfl rfl dX8_shells_85 ?_
          refine g_iload_n (i := 1) (j := 2) dX8_shells_88 rfl rfl ?_
          refine n_iald (x := k) rfl (by omega) (rng_lit 5 rfl) dX8_shells_89 ?_
          refine n_icmp_gt (tgt := 108) (by omega) (by omega) dX8_shells_90 (by decide) (fun h90 => ?_) (fun h90 => ?_)
          · refine g_iconst (v := nI 0) dX8_shells_108 (by decide) ?_
            refine g_istore (lv' := [(5, .int (nI 0)), (7, .int (nI ((r 0) + i))), (0, .ref 0), (1, .int (nI k)), (2, .int (nI 0)), (3, .int (nI (r (1 + k)))), (4, .int (rO m)), (6, .int (nI i))]) dX8_shells_109 (by decide) rfl ?_
            refine g_aload_n (i := 0) (j := 2) dX8_shells_111 rfl rfl ?_
            refine g_iload_n (i := 1) (j := 3) dX8_shells_112 rfl rfl ?_
            refine g_iload_n (i := 3) (j := 5) dX8_shells_113 rfl rfl ?_
            refine g_iload (j := 1) dX8_shells_114 rfl ?_
            refine g_iconst (v := nI 1) dX8_shells_116 (by decide) ?_
            refine g_aload_n (i := 0) (j := 2) dX8_shells_117 rfl rfl ?_
            refine g_get fX8_139 rfl rfl dX8_shells_118 ?_
            refine g_callV (rest := []) (ctX8_goneOf (w := k) (c := r (1 + k)) (s := (r 0) + i) (way := 1) (at0 := lo) hH hpa hwa (by omega) (by omega) hS (by first | omega | assumption | exact hpa _ | exact hwa _ | exact hr1 _ (by omega) | exact hr6 _ (by omega) | exact hr11 _ (by omega) | exact hr _ | exact Nat.le_succ_of_le (hr _) | (apply sTo_le; first | omega | exact hr1 _ (by omega))) (by first | omega | assumption | exact hpa _ | exact hwa _ | exact hr1 _ (by omega) | exact hr6 _ (by omega) | exact hr11 _ (by omega) | exact hr _ | exact Nat.le_succ_of_le (hr _) | (apply sTo_le; first | omega | exact hr1 _ (by omega))) (by first | omega | assumption | exact hpa _ | exact hwa _ | exact hr1 _ (by omega) | exact hr6 _ (by omega) | exact hr11 _ (by omega) | exact hr _ | exact Nat.le_succ_of_le (hr _) | (apply sTo_le; first | omega | exact hr1 _ (by omega))) (by first | omega | assumption | exact hpa _ | exact hwa _ | exact hr1 _ (by omega) | exact hr6 _ (by omega) | exact hr11 _ (by omega) | exact hr _ | exact Nat.le_succ_of_le (hr _) | (apply sTo_le; first | omega | exact hr1 _ (by omega))) (by first | omega | assumption | exact hpa _ | exact hwa _ | exact hr1 _ (by omega) | exact hr6 _ (by omega) | exact hr11 _ (by omega) | exact hr _ | exact Nat.le_succ_of_le (hr _) | (apply sTo_le; first | omega | exact hr1 _ (by omega))) (by first | omega | assumption | exact hpa _ | exact hwa _ | exact hr1 _ (by omega) | exact hr6 _ (by omega) | exact hr11 _ (by omega) | exact hr _ | exact Nat.le_succ_of_le (hr _) | (apply sTo_le; first | omega | exact hr1 _ (by omega)))) kX8_goneOf lX8_205 (by decide) rfl rfl rfl rfl (by exact Nat.le_of_ble_eq_true rfl) dX8_shells_121 rfl (fun v u hvu => ?_)
            obtain ⟨rfl, ce121, sa121, ti121, rfl⟩ := hvu
            refine g_st (st' := [.int (rO (sArr h so la ri (pa k) (wa k) lo 1 (r (1 + k)) ((r 0) + i)))]) rfl ?_
            refine g_bipush (v := (-9)) dX8_shells_124 (by decide) ?_
            refine g_icmp_ne (tgt := 147) dX8_shells_126 (by decide) (fun h126 => ?_) (fun h126 => ?_)
            · replace h126 := fun z => h126 ((sArr_ne (by omega)).mpr z)
              refine g_iconst (v := nI 1) dX8_shells_147 (by decide) ?_
              refine g_goto (tgt := 152) dX8_shells_148 (by decide) ?_
              refine g_istore (lv' := [(8, .int (nI 1)), (5, .int (nI 0)), (7, .int (nI ((r 0) + i))), (0, .ref 0), (1, .int (nI k)), (2, .int (nI 0)), (3, .int (nI (r (1 + k)))), (4, .int (rO m)), (6, .int (nI i))]) dX8_shells_152 (by decide) rfl ?_
              refine g_iload (j := 1) dX8_shells_154 rfl ?_
              refine n_if_eq (tgt := 169) (rng_lit 0 rfl) dX8_shells_156 (by decide) (fun h156 => ?_) (fun h156 => ?_)
              · refine g_iload (j := 7) dX8_shells_169 rfl ?_
                refine g_istore (lv' := [(4, .int (rO m)), (8, .int (nI 1)), (5, .int (nI 0)), (7, .int (nI ((r 0) + i))), (0, .ref 0), (1, .int (nI k)), (2, .int (nI 0)), (3, .int (nI (r (1 + k)))), (6, .int (nI i))]) dX8_shells_171 (by decide) rfl ?_
                refine n_inc (x := i) (j := 8) (lv' := [(6, .int (nI (i + 1))), (4, .int (rO m)), (8, .int (nI 1)), (5, .int (nI 0)), (7, .int (nI ((r 0) + i))), (0, .ref 0), (1, .int (nI k)), (2, .int (nI 0)), (3, .int (nI (r (1 + k))))]) dX8_shells_173 rfl (by decide) rfl ?_
                refine g_goto (tgt := 36) dX8_shells_176 (by decide) ?_
                refine g_iload (j := 3) dX8_shells_36 rfl ?_
                refine n_if_eq (tgt := 179) (rng_lit 0 rfl) dX8_shells_38 (by decide) (fun h38 => ?_) (fun h38 => ?_)
                · refine g_iload (j := 1) dX8_shells_179 rfl ?_
                  refine g_iret rfl rfl dX8_shells_181 ?_
                  refine ⟨?_, _, _, _, rfl⟩
                  rw [sSh, if_pos ⟨by omega, by simp only [sOkS, Bool.and_eq_false_iff, decide_eq_false_iff_not]; omega⟩]
                · exact absurd h38 (by decide)
              · exact absurd h156 (by decide)
            · replace h126 := (sArr_ne (by omega)).mp h126
              refine g_aload_n (i := 0) (j := 2) dX8_shells_129 rfl rfl ?_
              refine g_iload_n (i := 1) (j := 3) dX8_shells_130 rfl rfl ?_
              refine g_iload_n (i := 3) (j := 5) dX8_shells_131 rfl rfl ?_
              refine g_iload (j := 1) dX8_shells_132 rfl ?_
              refine g_iconst (v := nI 2) dX8_shells_134 (by decide) ?_
              refine g_aload_n (i := 0) (j := 2) dX8_shells_135 rfl rfl ?_
              refine g_get fX8_139 rfl rfl dX8_shells_136 ?_
              refine g_callV (rest := []) (ctX8_goneOf (w := k) (c := r (1 + k)) (s := (r 0) + i) (way := 2) (at0 := lo) hH hpa hwa (by omega) (by omega) hS (by first | omega | assumption | exact hpa _ | exact hwa _ | exact hr1 _ (by omega) | exact hr6 _ (by omega) | exact hr11 _ (by omega) | exact hr _ | exact Nat.le_succ_of_le (hr _) | (apply sTo_le; first | omega | exact hr1 _ (by omega))) (by first | omega | assumption | exact hpa _ | exact hwa _ | exact hr1 _ (by omega) | exact hr6 _ (by omega) | exact hr11 _ (by omega) | exact hr _ | exact Nat.le_succ_of_le (hr _) | (apply sTo_le; first | omega | exact hr1 _ (by omega))) (by first | omega | assumption | exact hpa _ | exact hwa _ | exact hr1 _ (by omega) | exact hr6 _ (by omega) | exact hr11 _ (by omega) | exact hr _ | exact Nat.le_succ_of_le (hr _) | (apply sTo_le; first | omega | exact hr1 _ (by omega))) (by first | omega | assumption | exact hpa _ | exact hwa _ | exact hr1 _ (by omega) | exact hr6 _ (by omega) | exact hr11 _ (by omega) | exact hr _ | exact Nat.le_succ_of_le (hr _) | (apply sTo_le; first | omega | exact hr1 _ (by omega))) (by first | omega | assumption | exact hpa _ | exact hwa _ | exact hr1 _ (by omega) | exact hr6 _ (by omega) | exact hr11 _ (by omega) | exact hr _ | exact Nat.le_succ_of_le (hr _) | (apply sTo_le; first | omega | exact hr1 _ (by omega))) (by first | omega | assumption | exact hpa _ | exact hwa _ | exact hr1 _ (by omega) | exact hr6 _ (by omega) | exact hr11 _ (by omega) | exact hr _ | exact Nat.le_succ_of_le (hr _) | (apply sTo_le; first | omega | exact hr1 _ (by omega)))) kX8_goneOf lX8_205 (by decide) rfl rfl rfl rfl (by exact Nat.le_of_ble_eq_true rfl) dX8_shells_139 rfl (fun v u hvu => ?_)
              obtain ⟨rfl, ce139, sa139, ti139, rfl⟩ := hvu
              refine g_st (st' := [.int (rO (sArr h so la ri (pa k) (wa k) lo 2 (r (1 + k)) ((r 0) + i)))]) rfl ?_
              refine g_bipush (v := (-9)) dX8_shells_142 (by decide) ?_
              refine g_icmp_eq (tgt := 151) dX8_shells_144 (by decide) (fun h144 => ?_) (fun h144 => ?_)
              · replace h144 := (sArr_ne (by omega)).mp h144
                refine g_iconst (v := nI 0) dX8_shells_151 (by decide) ?_
                refine g_istore (lv' := [(8, .int (nI 0)), (5, .int (nI 0)), (7, .int (nI ((r 0) + i))), (0, .ref 0), (1, .int (nI k)), (2, .int (nI 0)), (3, .int (nI (r (1 + k)))), (4, .int (rO m)), (6, .int (nI i))]) dX8_shells_152 (by decide) rfl ?_
                refine g_iload (j := 1) dX8_shells_154 rfl ?_
                refine n_if_eq (tgt := 169) (rng_lit 0 rfl) dX8_shells_156 (by decide) (fun h156 => ?_) (fun h156 => ?_)
                · refine g_iload (j := 7) dX8_shells_169 rfl ?_
                  refine g_istore (lv' := [(4, .int (rO m)), (8, .int (nI 0)), (5, .int (nI 0)), (7, .int (nI ((r 0) + i))), (0, .ref 0), (1, .int (nI k)), (2, .int (nI 0)), (3, .int (nI (r (1 + k)))), (6, .int (nI i))]) dX8_shells_171 (by decide) rfl ?_
                  refine n_inc (x := i) (j := 8) (lv' := [(6, .int (nI (i + 1))), (4, .int (rO m)), (8, .int (nI 0)), (5, .int (nI 0)), (7, .int (nI ((r 0) + i))), (0, .ref 0), (1, .int (nI k)), (2, .int (nI 0)), (3, .int (nI (r (1 + k))))]) dX8_shells_173 rfl (by decide) rfl ?_
                  refine g_goto (tgt := 36) dX8_shells_176 (by decide) ?_
                  refine g_iload (j := 3) dX8_shells_36 rfl ?_
                  refine n_if_eq (tgt := 179) (rng_lit 0 rfl) dX8_shells_38 (by decide) (fun h38 => ?_) (fun h38 => ?_)
                  · refine g_iload (j := 1) dX8_shells_179 rfl ?_
                    refine g_iret rfl rfl dX8_shells_181 ?_
                    refine ⟨?_, _, _, _, rfl⟩
                    rw [sSh, if_pos ⟨by omega, by simp only [sOkS, Bool.and_eq_false_iff, decide_eq_false_iff_not]; omega⟩]
                  · exact absurd h38 (by decide)
                · exact absurd h156 (by decide)
              · replace h144 := fun z => h144 ((sArr_ne (by omega)).mpr z)
                refine g_iconst (v := nI 1) dX8_shells_147 (by decide) ?_
                refine g_goto (tgt := 152) dX8_shells_148 (by decide) ?_
                refine g_istore (lv' := [(8, .int (nI 1)), (5, .int (nI 0)), (7, .int (nI ((r 0) + i))), (0, .ref 0), (1, .int (nI k)), (2, .int (nI 0)), (3, .int (nI (r (1 + k)))), (4, .int (rO m)), (6, .int (nI i))]) dX8_shells_152 (by decide) rfl ?_
                refine g_iload (j := 1) dX8_shells_154 rfl ?_
                refine n_if_eq (tgt := 169) (rng_lit 0 rfl) dX8_shells_156 (by decide) (fun h156 => ?_) (fun h156 => ?_)
                · refine g_iload (j := 7) dX8_shells_169 rfl ?_
                  refine g_istore (lv' := [(4, .int (rO m)), (8, .int (nI 1)), (5, .int (nI 0)), (7, .int (nI ((r 0) + i))), (0, .ref 0), (1, .int (nI k)), (2, .int (nI 0)), (3, .int (nI (r (1 + k)))), (6, .int (nI i))]) dX8_shells_171 (by decide) rfl ?_
                  refine n_inc (x := i) (j := 8) (lv' := [(6, .int (nI (i + 1))), (4, .int (rO m)), (8, .int (nI 1)), (5, .int (nI 0)), (7, .int (nI ((r 0) + i))), (0, .ref 0), (1, .int (nI k)), (2, .int (nI 0)), (3, .int (nI (r (1 + k))))]) dX8_shells_173 rfl (by decide) rfl ?_
                  refine g_goto (tgt := 36) dX8_shells_176 (by decide) ?_
                  refine g_iload (j := 3) dX8_shells_36 rfl ?_
                  refine n_if_eq (tgt := 179) (rng_lit 0 rfl) dX8_shells_38 (by decide) (fun h38 => ?_) (fun h38 => ?_)
                  · refine g_iload (j := 1) dX8_shells_179 rfl ?_
                    refine g_iret rfl rfl dX8_shells_181 ?_
                    refine ⟨?_, _, _, _, rfl⟩
                    rw [sSh, if_pos ⟨by omega, by simp only [sOkS, Bool.and_eq_false_iff, decide_eq_false_iff_not]; omega⟩]
                  · exact absurd h38 (by decide)
                · exact absurd h156 (by decide)
          · refine g_aload_n (i := 0) (j := 1) dX8_shells_93 rfl rfl ?_
            refine g_get fX8_148 rfl rfl dX8_shells_94 ?_
            refine g_iload_n (i := 3) (j := 4) dX8_shells_97 rfl rfl ?_
            refine c_S (st1 := [.int (nI (bN (sf / 2 ^ (r (1 + k)) % 2 = 1)))]) (ctX8_has (a := sf) (k := r (1 + k)) (by omega) (by omega)) kX8_has lX8_92 (by decide) rfl (by exact Nat.le_of_ble_eq_true rfl) dX8_shells_98 rfl rfl ?_
            refine b_if_ne (tgt := 108) dX8_shells_101 (by decide) (fun h101 => ?_) (fun h101 => ?_)
            · refine g_iconst (v := nI 0) dX8_shells_108 (by decide) ?_
              refine g_istore (lv' := [(5, .int (nI 0)), (7, .int (nI ((r 0) + i))), (0, .ref 0), (1, .int (nI k)), (2, .int (nI 0)), (3, .int (nI (r (1 + k)))), (4, .int (rO m)), (6, .int (nI i))]) dX8_shells_109 (by decide) rfl ?_
              refine g_aload_n (i := 0) (j := 2) dX8_shells_111 rfl rfl ?_
              refine g_iload_n (i := 1) (j := 3) dX8_shells_112 rfl rfl ?_
              refine g_iload_n (i := 3) (j := 5) dX8_shells_113 rfl rfl ?_
              refine g_iload (j := 1) dX8_shells_114 rfl ?_
              refine g_iconst (v := nI 1) dX8_shells_116 (by decide) ?_
              refine g_aload_n (i := 0) (j := 2) dX8_shells_117 rfl rfl ?_
              refine g_get fX8_139 rfl rfl dX8_shells_118 ?_
              refine g_callV (rest := []) (ctX8_goneOf (w := k) (c := r (1 + k)) (s := (r 0) + i) (way := 1) (at0 := lo) hH hpa hwa (by omega) (by omega) hS (by first | omega | assumption | exact hpa _ | exact hwa _ | exact hr1 _ (by omega) | exact hr6 _ (by omega) | exact hr11 _ (by omega) | exact hr _ | exact Nat.le_succ_of_le (hr _) | (apply sTo_le; first | omega | exact hr1 _ (by omega))) (by first | omega | assumption | exact hpa _ | exact hwa _ | exact hr1 _ (by omega) | exact hr6 _ (by omega) | exact hr11 _ (by omega) | exact hr _ | exact Nat.le_succ_of_le (hr _) | (apply sTo_le; first | omega | exact hr1 _ (by omega))) (by first | omega | assumption | exact hpa _ | exact hwa _ | exact hr1 _ (by omega) | exact hr6 _ (by omega) | exact hr11 _ (by omega) | exact hr _ | exact Nat.le_succ_of_le (hr _) | (apply sTo_le; first | omega | exact hr1 _ (by omega))) (by first | omega | assumption | exact hpa _ | exact hwa _ | exact hr1 _ (by omega) | exact hr6 _ (by omega) | exact hr11 _ (by omega) | exact hr _ | exact Nat.le_succ_of_le (hr _) | (apply sTo_le; first | omega | exact hr1 _ (by omega))) (by first | omega | assumption | exact hpa _ | exact hwa _ | exact hr1 _ (by omega) | exact hr6 _ (by omega) | exact hr11 _ (by omega) | exact hr _ | exact Nat.le_succ_of_le (hr _) | (apply sTo_le; first | omega | exact hr1 _ (by omega))) (by first | omega | assumption | exact hpa _ | exact hwa _ | exact hr1 _ (by omega) | exact hr6 _ (by omega) | exact hr11 _ (by omega) | exact hr _ | exact Nat.le_succ_of_le (hr _) | (apply sTo_le; first | omega | exact hr1 _ (by omega)))) kX8_goneOf lX8_205 (by decide) rfl rfl rfl rfl (by exact Nat.le_of_ble_eq_true rfl) dX8_shells_121 rfl (fun v u hvu => ?_)
              obtain ⟨rfl, ce121, sa121, ti121, rfl⟩ := hvu
              refine g_st (st' := [.int (rO (sArr h so la ri (pa k) (wa k) lo 1 (r (1 + k)) ((r 0) + i)))]) rfl ?_
              refine g_bipush (v := (-9)) dX8_shells_124 (by decide) ?_
              refine g_icmp_ne (tgt := 147) dX8_shells_126 (by decide) (fun h126 => ?_) (fun h126 => ?_)
              · replace h126 := fun z => h126 ((sArr_ne (by omega)).mpr z)
                refine g_iconst (v := nI 1) dX8_shells_147 (by decide) ?_
                refine g_goto (tgt := 152) dX8_shells_148 (by decide) ?_
                refine g_istore (lv' := [(8, .int (nI 1)), (5, .int (nI 0)), (7, .int (nI ((r 0) + i))), (0, .ref 0), (1, .int (nI k)), (2, .int (nI 0)), (3, .int (nI (r (1 + k)))), (4, .int (rO m)), (6, .int (nI i))]) dX8_shells_152 (by decide) rfl ?_
                refine g_iload (j := 1) dX8_shells_154 rfl ?_
                refine n_if_eq (tgt := 169) (rng_lit 0 rfl) dX8_shells_156 (by decide) (fun h156 => ?_) (fun h156 => ?_)
                · refine g_iload (j := 7) dX8_shells_169 rfl ?_
                  refine g_istore (lv' := [(4, .int (rO m)), (8, .int (nI 1)), (5, .int (nI 0)), (7, .int (nI ((r 0) + i))), (0, .ref 0), (1, .int (nI k)), (2, .int (nI 0)), (3, .int (nI (r (1 + k)))), (6, .int (nI i))]) dX8_shells_171 (by decide) rfl ?_
                  refine n_inc (x := i) (j := 8) (lv' := [(6, .int (nI (i + 1))), (4, .int (rO m)), (8, .int (nI 1)), (5, .int (nI 0)), (7, .int (nI ((r 0) + i))), (0, .ref 0), (1, .int (nI k)), (2, .int (nI 0)), (3, .int (nI (r (1 + k))))]) dX8_shells_173 rfl (by decide) rfl ?_
                  refine g_goto (tgt := 36) dX8_shells_176 (by decide) ?_
                  refine g_iload (j := 3) dX8_shells_36 rfl ?_
                  refine n_if_eq (tgt := 179) (rng_lit 0 rfl) dX8_shells_38 (by decide) (fun h38 => ?_) (fun h38 => ?_)
                  · refine g_iload (j := 1) dX8_shells_179 rfl ?_
                    refine g_iret rfl rfl dX8_shells_181 ?_
                    refine ⟨?_, _, _, _, rfl⟩
                    rw [sSh, if_pos ⟨by omega, by simp only [sOkS, Bool.and_eq_false_iff, decide_eq_false_iff_not]; omega⟩]
                  · exact absurd h38 (by decide)
                · exact absurd h156 (by decide)
              · replace h126 := (sArr_ne (by omega)).mp h126
                refine g_aload_n (i := 0) (j := 2) dX8_shells_129 rfl rfl ?_
                refine g_iload_n (i := 1) (j := 3) dX8_shells_130 rfl rfl ?_
                refine g_iload_n (i := 3) (j := 5) dX8_shells_131 rfl rfl ?_
                refine g_iload (j := 1) dX8_shells_132 rfl ?_
                refine g_iconst (v := nI 2) dX8_shells_134 (by decide) ?_
                refine g_aload_n (i := 0) (j := 2) dX8_shells_135 rfl rfl ?_
                refine g_get fX8_139 rfl rfl dX8_shells_136 ?_
                refine g_callV (rest := []) (ctX8_goneOf (w := k) (c := r (1 + k)) (s := (r 0) + i) (way := 2) (at0 := lo) hH hpa hwa (by omega) (by omega) hS (by first | omega | assumption | exact hpa _ | exact hwa _ | exact hr1 _ (by omega) | exact hr6 _ (by omega) | exact hr11 _ (by omega) | exact hr _ | exact Nat.le_succ_of_le (hr _) | (apply sTo_le; first | omega | exact hr1 _ (by omega))) (by first | omega | assumption | exact hpa _ | exact hwa _ | exact hr1 _ (by omega) | exact hr6 _ (by omega) | exact hr11 _ (by omega) | exact hr _ | exact Nat.le_succ_of_le (hr _) | (apply sTo_le; first | omega | exact hr1 _ (by omega))) (by first | omega | assumption | exact hpa _ | exact hwa _ | exact hr1 _ (by omega) | exact hr6 _ (by omega) | exact hr11 _ (by omega) | exact hr _ | exact Nat.le_succ_of_le (hr _) | (apply sTo_le; first | omega | exact hr1 _ (by omega))) (by first | omega | assumption | exact hpa _ | exact hwa _ | exact hr1 _ (by omega) | exact hr6 _ (by omega) | exact hr11 _ (by omega) | exact hr _ | exact Nat.le_succ_of_le (hr _) | (apply sTo_le; first | omega | exact hr1 _ (by omega))) (by first | omega | assumption | exact hpa _ | exact hwa _ | exact hr1 _ (by omega) | exact hr6 _ (by omega) | exact hr11 _ (by omega) | exact hr _ | exact Nat.le_succ_of_le (hr _) | (apply sTo_le; first | omega | exact hr1 _ (by omega))) (by first | omega | assumption | exact hpa _ | exact hwa _ | exact hr1 _ (by omega) | exact hr6 _ (by omega) | exact hr11 _ (by omega) | exact hr _ | exact Nat.le_succ_of_le (hr _) | (apply sTo_le; first | omega | exact hr1 _ (by omega)))) kX8_goneOf lX8_205 (by decide) rfl rfl rfl rfl (by exact Nat.le_of_ble_eq_true rfl) dX8_shells_139 rfl (fun v u hvu => ?_)
                obtain ⟨rfl, ce139, sa139, ti139, rfl⟩ := hvu
                refine g_st (st' := [.int (rO (sArr h so la ri (pa k) (wa k) lo 2 (r (1 + k)) ((r 0) + i)))]) rfl ?_
                refine g_bipush (v := (-9)) dX8_shells_142 (by decide) ?_
                refine g_icmp_eq (tgt := 151) dX8_shells_144 (by decide) (fun h144 => ?_) (fun h144 => ?_)
                · replace h144 := (sArr_ne (by omega)).mp h144
                  refine g_iconst (v := nI 0) dX8_shells_151 (by decide) ?_
                  refine g_istore (lv' := [(8, .int (nI 0)), (5, .int (nI 0)), (7, .int (nI ((r 0) + i))), (0, .ref 0), (1, .int (nI k)), (2, .int (nI 0)), (3, .int (nI (r (1 + k)))), (4, .int (rO m)), (6, .int (nI i))]) dX8_shells_152 (by decide) rfl ?_
                  refine g_iload (j := 1) dX8_shells_154 rfl ?_
                  refine n_if_eq (tgt := 169) (rng_lit 0 rfl) dX8_shells_156 (by decide) (fun h156 => ?_) (fun h156 => ?_)
                  · refine g_iload (j := 7) dX8_shells_169 rfl ?_
                    refine g_istore (lv' := [(4, .int (rO m)), (8, .int (nI 0)), (5, .int (nI 0)), (7, .int (nI ((r 0) + i))), (0, .ref 0), (1, .int (nI k)), (2, .int (nI 0)), (3, .int (nI (r (1 + k)))), (6, .int (nI i))]) dX8_shells_171 (by decide) rfl ?_
                    refine n_inc (x := i) (j := 8) (lv' := [(6, .int (nI (i + 1))), (4, .int (rO m)), (8, .int (nI 0)), (5, .int (nI 0)), (7, .int (nI ((r 0) + i))), (0, .ref 0), (1, .int (nI k)), (2, .int (nI 0)), (3, .int (nI (r (1 + k))))]) dX8_shells_173 rfl (by decide) rfl ?_
                    refine g_goto (tgt := 36) dX8_shells_176 (by decide) ?_
                    refine g_iload (j := 3) dX8_shells_36 rfl ?_
                    refine n_if_eq (tgt := 179) (rng_lit 0 rfl) dX8_shells_38 (by decide) (fun h38 => ?_) (fun h38 => ?_)
                    · refine g_iload (j := 1) dX8_shells_179 rfl ?_
                      refine g_iret rfl rfl dX8_shells_181 ?_
                      refine ⟨?_, _, _, _, rfl⟩
                      rw [sSh, if_pos ⟨by omega, by simp only [sOkS, Bool.and_eq_false_iff, decide_eq_false_iff_not]; omega⟩]
                    · exact absurd h38 (by decide)
                  · exact absurd h156 (by decide)
                · replace h144 := fun z => h144 ((sArr_ne (by omega)).mpr z)
                  refine g_iconst (v := nI 1) dX8_shells_147 (by decide) ?_
                  refine g_goto (tgt := 152) dX8_shells_148 (by decide) ?_
                  refine g_istore (lv' := [(8, .int (nI 1)), (5, .int (nI 0)), (7, .int (nI ((r 0) + i))), (0, .ref 0), (1, .int (nI k)), (2, .int (nI 0)), (3, .int (nI (r (1 + k)))), (4, .int (rO m)), (6, .int (nI i))]) dX8_shells_152 (by decide) rfl ?_
                  refine g_iload (j := 1) dX8_shells_154 rfl ?_
                  refine n_if_eq (tgt := 169) (rng_lit 0 rfl) dX8_shells_156 (by decide) (fun h156 => ?_) (fun h156 => ?_)
                  · refine g_iload (j := 7) dX8_shells_169 rfl ?_
                    refine g_istore (lv' := [(4, .int (rO m)), (8, .int (nI 1)), (5, .int (nI 0)), (7, .int (nI ((r 0) + i))), (0, .ref 0), (1, .int (nI k)), (2, .int (nI 0)), (3, .int (nI (r (1 + k)))), (6, .int (nI i))]) dX8_shells_171 (by decide) rfl ?_
                    refine n_inc (x := i) (j := 8) (lv' := [(6, .int (nI (i + 1))), (4, .int (rO m)), (8, .int (nI 1)), (5, .int (nI 0)), (7, .int (nI ((r 0) + i))), (0, .ref 0), (1, .int (nI k)), (2, .int (nI 0)), (3, .int (nI (r (1 + k))))]) dX8_shells_173 rfl (by decide) rfl ?_
                    refine g_goto (tgt := 36) dX8_shells_176 (by decide) ?_
                    refine g_iload (j := 3) dX8_shells_36 rfl ?_
                    refine n_if_eq (tgt := 179) (rng_lit 0 rfl) dX8_shells_38 (by decide) (fun h38 => ?_) (fun h38 => ?_)
                    · refine g_iload (j := 1) dX8_shells_179 rfl ?_
                      refine g_iret rfl rfl dX8_shells_181 ?_
                      refine ⟨?_, _, _, _, rfl⟩
                      rw [sSh, if_pos ⟨by omega, by simp only [sOkS, Bool.and_eq_false_iff, decide_eq_false_iff_not]; omega⟩]
                    · exact absurd h38 (by decide)
                  · exact absurd h156 (by decide)
            · refine g_iconst (v := nI 1) dX8_shells_104 (by decide) ?_
              refine g_goto (tgt := 109) dX8_shells_105 (by decide) ?_
              refine g_istore (lv' := [(5, .int (nI 1)), (7, .int (nI ((r 0) + i))), (0, .ref 0), (1, .int (nI k)), (2, .int (nI 0)), (3, .int (nI (r (1 + k)))), (4, .int (rO m)), (6, .int (nI i))]) dX8_shells_109 (by decide) rfl ?_
              refine g_aload_n (i := 0) (j := 2) dX8_shells_111 rfl rfl ?_
              refine g_iload_n (i := 1) (j := 3) dX8_shells_112 rfl rfl ?_
              refine g_iload_n (i := 3) (j := 5) dX8_shells_113 rfl rfl ?_
              refine g_iload (j := 1) dX8_shells_114 rfl ?_
              refine g_iconst (v := nI 1) dX8_shells_116 (by decide) ?_
              refine g_aload_n (i := 0) (j := 2) dX8_shells_117 rfl rfl ?_
              refine g_get fX8_139 rfl rfl dX8_shells_118 ?_
              refine g_callV (rest := []) (ctX8_goneOf (w := k) (c := r (1 + k)) (s := (r 0) + i) (way := 1) (at0 := lo) hH hpa hwa (by omega) (by omega) hS (by first | omega | assumption | exact hpa _ | exact hwa _ | exact hr1 _ (by omega) | exact hr6 _ (by omega) | exact hr11 _ (by omega) | exact hr _ | exact Nat.le_succ_of_le (hr _) | (apply sTo_le; first | omega | exact hr1 _ (by omega))) (by first | omega | assumption | exact hpa _ | exact hwa _ | exact hr1 _ (by omega) | exact hr6 _ (by omega) | exact hr11 _ (by omega) | exact hr _ | exact Nat.le_succ_of_le (hr _) | (apply sTo_le; first | omega | exact hr1 _ (by omega))) (by first | omega | assumption | exact hpa _ | exact hwa _ | exact hr1 _ (by omega) | exact hr6 _ (by omega) | exact hr11 _ (by omega) | exact hr _ | exact Nat.le_succ_of_le (hr _) | (apply sTo_le; first | omega | exact hr1 _ (by omega))) (by first | omega | assumption | exact hpa _ | exact hwa _ | exact hr1 _ (by omega) | exact hr6 _ (by omega) | exact hr11 _ (by omega) | exact hr _ | exact Nat.le_succ_of_le (hr _) | (apply sTo_le; first | omega | exact hr1 _ (by omega))) (by first | omega | assumption | exact hpa _ | exact hwa _ | exact hr1 _ (by omega) | exact hr6 _ (by omega) | exact hr11 _ (by omega) | exact hr _ | exact Nat.le_succ_of_le (hr _) | (apply sTo_le; first | omega | exact hr1 _ (by omega))) (by first | omega | assumption | exact hpa _ | exact hwa _ | exact hr1 _ (by omega) | exact hr6 _ (by omega) | exact hr11 _ (by omega) | exact hr _ | exact Nat.le_succ_of_le (hr _) | (apply sTo_le; first | omega | exact hr1 _ (by omega)))) kX8_goneOf lX8_205 (by decide) rfl rfl rfl rfl (by exact Nat.le_of_ble_eq_true rfl) dX8_shells_121 rfl (fun v u hvu => ?_)
              obtain ⟨rfl, ce121, sa121, ti121, rfl⟩ := hvu
              refine g_st (st' := [.int (rO (sArr h so la ri (pa k) (wa k) lo 1 (r (1 + k)) ((r 0) + i)))]) rfl ?_
              refine g_bipush (v := (-9)) dX8_shells_124 (by decide) ?_
              refine g_icmp_ne (tgt := 147) dX8_shells_126 (by decide) (fun h126 => ?_) (fun h126 => ?_)
              · replace h126 := fun z => h126 ((sArr_ne (by omega)).mpr z)
                refine g_iconst (v := nI 1) dX8_shells_147 (by decide) ?_
                refine g_goto (tgt := 152) dX8_shells_148 (by decide) ?_
                refine g_istore (lv' := [(8, .int (nI 1)), (5, .int (nI 1)), (7, .int (nI ((r 0) + i))), (0, .ref 0), (1, .int (nI k)), (2, .int (nI 0)), (3, .int (nI (r (1 + k)))), (4, .int (rO m)), (6, .int (nI i))]) dX8_shells_152 (by decide) rfl ?_
                refine g_iload (j := 1) dX8_shells_154 rfl ?_
                refine n_if_eq (tgt := 169) (rng_lit 1 rfl) dX8_shells_156 (by decide) (fun h156 => ?_) (fun h156 => ?_)
                · exact absurd h156 (by decide)
                · refine g_iload (j := 0) dX8_shells_159 rfl ?_
                  refine n_if_eq (tgt := 169) (rng_lit 1 rfl) dX8_shells_161 (by decide) (fun h161 => ?_) (fun h161 => ?_)
                  · exact absurd h161 (by decide)
                  · refine g_iload (j := 8) dX8_shells_164 rfl ?_
                    refine g_goto (tgt := 171) dX8_shells_166 (by decide) ?_
                    refine g_istore (lv' := [(4, .int (nI i)), (8, .int (nI 1)), (5, .int (nI 1)), (7, .int (nI ((r 0) + i))), (0, .ref 0), (1, .int (nI k)), (2, .int (nI 0)), (3, .int (nI (r (1 + k)))), (6, .int (nI i))]) dX8_shells_171 (by decide) rfl ?_
                    refine n_inc (x := i) (j := 8) (lv' := [(6, .int (nI (i + 1))), (4, .int (nI i)), (8, .int (nI 1)), (5, .int (nI 1)), (7, .int (nI ((r 0) + i))), (0, .ref 0), (1, .int (nI k)), (2, .int (nI 0)), (3, .int (nI (r (1 + k))))]) dX8_shells_173 rfl (by decide) rfl ?_
                    refine g_goto (tgt := 36) dX8_shells_176 (by decide) ?_
                    refine g_lv [5, 6, 7, 8, 1, 3, 0] rfl ?_
                    have e1 : ¬ (i ≠ 0 ∧ (sOkS h so la ri (wa k) lo (r (1 + k)) (r 0)) i = false) := by
                      intro z
                      first | (exact z.1 h70) | (have z2 := z.2; simp only [sOkS, Bool.and_eq_false_iff, decide_eq_false_iff_not] at z2; omega)
                    have e2 : (nI i) = rO (if (fun i => sSafeB h so la ri (pa k) (wa k) lo (r (1 + k)) (r 0 + i)) i then some i else m) := by
                      first | (rw [if_pos (by show sSafeB _ _ _ _ _ _ _ _ _ = true; unfold sSafeB; first | simp [isSome_t h126] | simp [isSome_t h144])]; rfl) | (rw [if_neg (by show ¬ sSafeB _ _ _ _ _ _ _ _ _ = true; unfold sSafeB; simp [isSome_f h126, isSome_f h144])])
                    rw [sSh, if_neg e1, e2]
                    exact ih (i + 1) _ _ _ _ (by omega)
              · replace h126 := (sArr_ne (by omega)).mp h126
                refine g_aload_n (i := 0) (j := 2) dX8_shells_129 rfl rfl ?_
                refine g_iload_n (i := 1) (j := 3) dX8_shells_130 rfl rfl ?_
                refine g_iload_n (i := 3) (j := 5) dX8_shells_131 rfl rfl ?_
                refine g_iload (j := 1) dX8_shells_132 rfl ?_
                refine g_iconst (v := nI 2) dX8_shells_134 (by decide) ?_
                refine g_aload_n (i := 0) (j := 2) dX8_shells_135 rfl rfl ?_
                refine g_get fX8_139 rfl rfl dX8_shells_136 ?_
                refine g_callV (rest := []) (ctX8_goneOf (w := k) (c := r (1 + k)) (s := (r 0) + i) (way := 2) (at0 := lo) hH hpa hwa (by omega) (by omega) hS (by first | omega | assumption | exact hpa _ | exact hwa _ | exact hr1 _ (by omega) | exact hr6 _ (by omega) | exact hr11 _ (by omega) | exact hr _ | exact Nat.le_succ_of_le (hr _) | (apply sTo_le; first | omega | exact hr1 _ (by omega))) (by first | omega | assumption | exact hpa _ | exact hwa _ | exact hr1 _ (by omega) | exact hr6 _ (by omega) | exact hr11 _ (by omega) | exact hr _ | exact Nat.le_succ_of_le (hr _) | (apply sTo_le; first | omega | exact hr1 _ (by omega))) (by first | omega | assumption | exact hpa _ | exact hwa _ | exact hr1 _ (by omega) | exact hr6 _ (by omega) | exact hr11 _ (by omega) | exact hr _ | exact Nat.le_succ_of_le (hr _) | (apply sTo_le; first | omega | exact hr1 _ (by omega))) (by first | omega | assumption | exact hpa _ | exact hwa _ | exact hr1 _ (by omega) | exact hr6 _ (by omega) | exact hr11 _ (by omega) | exact hr _ | exact Nat.le_succ_of_le (hr _) | (apply sTo_le; first | omega | exact hr1 _ (by omega))) (by first | omega | assumption | exact hpa _ | exact hwa _ | exact hr1 _ (by omega) | exact hr6 _ (by omega) | exact hr11 _ (by omega) | exact hr _ | exact Nat.le_succ_of_le (hr _) | (apply sTo_le; first | omega | exact hr1 _ (by omega))) (by first | omega | assumption | exact hpa _ | exact hwa _ | exact hr1 _ (by omega) | exact hr6 _ (by omega) | exact hr11 _ (by omega) | exact hr _ | exact Nat.le_succ_of_le (hr _) | (apply sTo_le; first | omega | exact hr1 _ (by omega)))) kX8_goneOf lX8_205 (by decide) rfl rfl rfl rfl (by exact Nat.le_of_ble_eq_true rfl) dX8_shells_139 rfl (fun v u hvu => ?_)
                obtain ⟨rfl, ce139, sa139, ti139, rfl⟩ := hvu
                refine g_st (st' := [.int (rO (sArr h so la ri (pa k) (wa k) lo 2 (r (1 + k)) ((r 0) + i)))]) rfl ?_
                refine g_bipush (v := (-9)) dX8_shells_142 (by decide) ?_
                refine g_icmp_eq (tgt := 151) dX8_shells_144 (by decide) (fun h144 => ?_) (fun h144 => ?_)
                · replace h144 := (sArr_ne (by omega)).mp h144
                  refine g_iconst (v := nI 0) dX8_shells_151 (by decide) ?_
                  refine g_istore (lv' := [(8, .int (nI 0)), (5, .int (nI 1)), (7, .int (nI ((r 0) + i))), (0, .ref 0), (1, .int (nI k)), (2, .int (nI 0)), (3, .int (nI (r (1 + k)))), (4, .int (rO m)), (6, .int (nI i))]) dX8_shells_152 (by decide) rfl ?_
                  refine g_iload (j := 1) dX8_shells_154 rfl ?_
                  refine n_if_eq (tgt := 169) (rng_lit 1 rfl) dX8_shells_156 (by decide) (fun h156 => ?_) (fun h156 => ?_)
                  · exact absurd h156 (by decide)
                  · refine g_iload (j := 0) dX8_shells_159 rfl ?_
                    refine n_if_eq (tgt := 169) (rng_lit 0 rfl) dX8_shells_161 (by decide) (fun h161 => ?_) (fun h161 => ?_)
                    · refine g_iload (j := 7) dX8_shells_169 rfl ?_
                      refine g_istore (lv' := [(4, .int (rO m)), (8, .int (nI 0)), (5, .int (nI 1)), (7, .int (nI ((r 0) + i))), (0, .ref 0), (1, .int (nI k)), (2, .int (nI 0)), (3, .int (nI (r (1 + k)))), (6, .int (nI i))]) dX8_shells_171 (by decide) rfl ?_
                      refine n_inc (x := i) (j := 8) (lv' := [(6, .int (nI (i + 1))), (4, .int (rO m)), (8, .int (nI 0)), (5, .int (nI 1)), (7, .int (nI ((r 0) + i))), (0, .ref 0), (1, .int (nI k)), (2, .int (nI 0)), (3, .int (nI (r (1 + k))))]) dX8_shells_173 rfl (by decide) rfl ?_
                      refine g_goto (tgt := 36) dX8_shells_176 (by decide) ?_
                      refine g_lv [5, 6, 7, 8, 1, 3, 0] rfl ?_
                      have e1 : ¬ (i ≠ 0 ∧ (sOkS h so la ri (wa k) lo (r (1 + k)) (r 0)) i = false) := by
                        intro z
                        first | (exact z.1 h70) | (have z2 := z.2; simp only [sOkS, Bool.and_eq_false_iff, decide_eq_false_iff_not] at z2; omega)
                      have e2 : (rO m) = rO (if (fun i => sSafeB h so la ri (pa k) (wa k) lo (r (1 + k)) (r 0 + i)) i then some i else m) := by
                        first | (rw [if_pos (by show sSafeB _ _ _ _ _ _ _ _ _ = true; unfold sSafeB; first | simp [isSome_t h126] | simp [isSome_t h144])]; rfl) | (rw [if_neg (by show ¬ sSafeB _ _ _ _ _ _ _ _ _ = true; unfold sSafeB; simp [isSome_f h126, isSome_f h144])])
                      rw [sSh, if_neg e1, e2]
                      exact ih (i + 1) _ _ _ _ (by omega)
                    · exact absurd h161 (by decide)
                · replace h144 := fun z => h144 ((sArr_ne (by omega)).mpr z)
                  refine g_iconst (v := nI 1) dX8_shells_147 (by decide) ?_
                  refine g_goto (tgt := 152) dX8_shells_148 (by decide) ?_
                  refine g_istore (lv' := [(8, .int (nI 1)), (5, .int (nI 1)), (7, .int (nI ((r 0) + i))), (0, .ref 0), (1, .int (nI k)), (2, .int (nI 0)), (3, .int (nI (r (1 + k)))), (4, .int (rO m)), (6, .int (nI i))]) dX8_shells_152 (by decide) rfl ?_
                  refine g_iload (j := 1) dX8_shells_154 rfl ?_
                  refine n_if_eq (tgt := 169) (rng_lit 1 rfl) dX8_shells_156 (by decide) (fun h156 => ?_) (fun h156 => ?_)
                  · exact absurd h156 (by decide)
                  · refine g_iload (j := 0) dX8_shells_159 rfl ?_
                    refine n_if_eq (tgt := 169) (rng_lit 1 rfl) dX8_shells_161 (by decide) (fun h161 => ?_) (fun h161 => ?_)
                    · exact absurd h161 (by decide)
                    · refine g_iload (j := 8) dX8_shells_164 rfl ?_
                      refine g_goto (tgt := 171) dX8_shells_166 (by decide) ?_
                      refine g_istore (lv' := [(4, .int (nI i)), (8, .int (nI 1)), (5, .int (nI 1)), (7, .int (nI ((r 0) + i))), (0, .ref 0), (1, .int (nI k)), (2, .int (nI 0)), (3, .int (nI (r (1 + k)))), (6, .int (nI i))]) dX8_shells_171 (by decide) rfl ?_
                      refine n_inc (x := i) (j := 8) (lv' := [(6, .int (nI (i + 1))), (4, .int (nI i)), (8, .int (nI 1)), (5, .int (nI 1)), (7, .int (nI ((r 0) + i))), (0, .ref 0), (1, .int (nI k)), (2, .int (nI 0)), (3, .int (nI (r (1 + k))))]) dX8_shells_173 rfl (by decide) rfl ?_
                      refine g_goto (tgt := 36) dX8_shells_176 (by decide) ?_
                      refine g_lv [5, 6, 7, 8, 1, 3, 0] rfl ?_
                      have e1 : ¬ (i ≠ 0 ∧ (sOkS h so la ri (wa k) lo (r (1 + k)) (r 0)) i = false) := by
                        intro z
                        first | (exact z.1 h70) | (have z2 := z.2; simp only [sOkS, Bool.and_eq_false_iff, decide_eq_false_iff_not] at z2; omega)
                      have e2 : (nI i) = rO (if (fun i => sSafeB h so la ri (pa k) (wa k) lo (r (1 + k)) (r 0 + i)) i then some i else m) := by
                        first | (rw [if_pos (by show sSafeB _ _ _ _ _ _ _ _ _ = true; unfold sSafeB; first | simp [isSome_t h126] | simp [isSome_t h144])]; rfl) | (rw [if_neg (by show ¬ sSafeB _ _ _ _ _ _ _ _ _ = true; unfold sSafeB; simp [isSome_f h126, isSome_f h144])])
                      rw [sSh, if_neg e1, e2]
                      exact ih (i + 1) _ _ _ _ (by omega)

theorem ctX8_shells {e1 e7 e8 e9 e10 e11 e13 e14 e15 e16 e17 : va_E} {ts pl lo ri la wk tw sf : Nat} {rl rr re : Int32} {rw rt rs ac : Nat} {sd : Int64} {ce sa ti : Nat} {h so ho pa wa at_ fo r : Nat → Nat} (hg : gOK h so ho pa wa wk tw lo ri la) (hS : mSf sf so) (hT : tOK tw at_ fo ho) (hrk : rOK r) {k0 : Int32} : Ct mX8_shells 5 [.ref 0, .int k0] (wM (kM 0 ts pl lo ri la wk tw sf rl rr re rw rt rs ac sd ce sa ti) e1 (kI 10 h) (kI 5 pa) (kI 5 wa) (kI 2 at_) (kI 2 fo) e7 e8 e9 e10 e11 (kI 16 (pgR r)) e13 e14 e15 e16 e17) (fun v u => v = some (.int (pShells h so pa wa wk lo ri la r k0)) ∧ ∃ ce2 sa2 ti2 : Nat, u = wM (kM 0 ts pl lo ri la wk tw sf rl rr re rw rt rs ac sd ce2 sa2 ti2) e1 (kI 10 h) (kI 5 pa) (kI 5 wa) (kI 2 at_) (kI 2 fo) e7 e8 e9 e10 e11 (kI 16 (pgR r)) e13 e14 e15 e16 e17) := by
  refine Ct.of (by decide) (by exact Nat.le_of_ble_eq_true rfl) ?_
  show Go mX8_shells 5 0 [(0, .ref 0), (1, .int k0)] [] (wM (kM 0 ts pl lo ri la wk tw sf rl rr re rw rt rs ac sd ce sa ti) e1 (kI 10 h) (kI 5 pa) (kI 5 wa) (kI 2 at_) (kI 2 fo) e7 e8 e9 e10 e11 (kI 16 (pgR r)) e13 e14 e15 e16 e17) (fun v u => v = some (.int (pShells h so pa wa wk lo ri la r k0)) ∧ ∃ ce2 sa2 ti2 : Nat, u = wM (kM 0 ts pl lo ri la wk tw sf rl rr re rw rt rs ac sd ce2 sa2 ti2) e1 (kI 10 h) (kI 5 pa) (kI 5 wa) (kI 2 at_) (kI 2 fo) e7 e8 e9 e10 e11 (kI 16 (pgR r)) e13 e14 e15 e16 e17)
  have hg0 := hg
  obtain ⟨hH, hso, hho, hpa, hwa, hwk, htw, hlo, hri, hla⟩ := hg
  have hrk0 := hrk
  obtain ⟨hr, hr1, hr6, hr11⟩ := hrk0
  refine g_aload_n (i := 0) (j := 0) dX8_shells_0 rfl rfl ?_
  refine g_iconst (v := nI 0) dX8_shells_1 (by decide) ?_
  refine n_putI (ws' := wM (kM 0 ts pl lo ri la wk tw sf rl rr re rw rt rs ac sd ce sa ti) e1 (kI 10 h) (kI 5 pa) (kI 5 wa) (kI 2 at_) (kI 2 fo) e7 e8 e9 e10 e11 (kI 16 (pgR r)) e13 e14 e15 e16 e17) fX8_67 fp_X8_0 rfl (by exact Nat.le_of_ble_eq_true rfl) dX8_shells_2 rfl ?_
  by_cases hx0 : iW k0 wk
  · obtain ⟨k, hk, rfl⟩ := raw_lt hx0
    have ek : cN (nI k) = k := cN_n (by omega)
    have ik : iW (nI k) wk := (iW_n (by omega)).mpr hk
    have q1 := hr1 k (by omega)
    have q6 := hr6 k (by omega)
    have q11 := hr11 k (by omega)
    have q0 := hr 0
    by_cases hz : r (11 + k) = 0
    · skip
      refine g_aload_n (i := 0) (j := 0) dX8_shells_5 rfl rfl ?_
      refine g_iload_n (i := 1) (j := 1) dX8_shells_6 rfl rfl ?_
      refine c_V (st1 := [.int (nI 0)]) (ctX8_noWalk_0 (k := k) (by omega) hk q11 hz) kX8_noWalk lX8_208 (by decide) rfl rfl rfl rfl (by exact Nat.le_of_ble_eq_true rfl) dX8_shells_7 rfl rfl ?_
      refine g_istore_n (i := 2) (lv' := [(2, .int (nI 0)), (0, .ref 0), (1, .int (nI k))]) dX8_shells_10 rfl (by decide) rfl ?_
      refine g_iload_n (i := 2) (j := 0) dX8_shells_11 rfl rfl ?_
      refine n_if_eq (tgt := 17) (rng_lit 0 rfl) dX8_shells_12 (by decide) (fun h12 => ?_) (fun h12 => ?_)
      · refine g_aload_n (i := 0) (j := 1) dX8_shells_17 rfl rfl ?_
        refine g_get fX8_47 rfl rfl dX8_shells_18 ?_
        refine g_iconst (v := nI 3) dX8_shells_21 (by decide) ?_
        refine g_iload_n (i := 1) (j := 2) dX8_shells_22 rfl rfl ?_
        refine n_imul (a := 3) (b := k) dX8_shells_23 ?_
        refine n_iald (x := (3 * k)) rfl (by omega) (rng_lit 16 rfl) dX8_shells_24 ?_
        refine g_topi (y := nI (r (1 + k))) (by rw [pg_0 (by omega)]) ?_
        refine g_istore_n (i := 3) (lv' := [(3, .int (nI (r (1 + k)))), (2, .int (nI 0)), (0, .ref 0), (1, .int (nI k))]) dX8_shells_25 rfl (by decide) rfl ?_
        refine g_bipush (v := (-9)) dX8_shells_26 (by decide) ?_
        refine g_istore (lv' := [(4, .int (-9)), (3, .int (nI (r (1 + k)))), (2, .int (nI 0)), (0, .ref 0), (1, .int (nI k))]) dX8_shells_28 (by decide) rfl ?_
        refine g_iconst (v := nI 1) dX8_shells_30 (by decide) ?_
        refine g_istore (lv' := [(5, .int (nI 1)), (4, .int (-9)), (3, .int (nI (r (1 + k)))), (2, .int (nI 0)), (0, .ref 0), (1, .int (nI k))]) dX8_shells_31 (by decide) rfl ?_
        refine g_iconst (v := nI 0) dX8_shells_33 (by decide) ?_
        refine g_istore (lv' := [(6, .int (nI 0)), (5, .int (nI 1)), (4, .int (-9)), (3, .int (nI (r (1 + k)))), (2, .int (nI 0)), (0, .ref 0), (1, .int (nI k))]) dX8_shells_34 (by decide) rfl ?_
        refine g_lv [5, 6, 4, 3, 2, 1, 0] rfl ?_
        unfold pShells
        rw [if_pos ik, ek, if_pos hz]
        exact lp_mshells hg0 hS hT hrk (by omega) (41 - r 0) 0 none _ _ _ (by omega)
      · exact absurd h12 (by decide)
    · skip
      refine g_aload_n (i := 0) (j := 0) dX8_shells_5 rfl rfl ?_
      refine g_iload_n (i := 1) (j := 1) dX8_shells_6 rfl rfl ?_
      refine c_V (st1 := [.int (-3)]) (ctX8_noWalk_3 (k := k) (by omega) hk q11 hz) kX8_noWalk lX8_208 (by decide) rfl rfl rfl rfl (by exact Nat.le_of_ble_eq_true rfl) dX8_shells_7 rfl rfl ?_
      refine g_istore_n (i := 2) (lv' := [(2, .int (-3)), (0, .ref 0), (1, .int (nI k))]) dX8_shells_10 rfl (by decide) rfl ?_
      refine g_iload_n (i := 2) (j := 0) dX8_shells_11 rfl rfl ?_
      refine g_if_eq (tgt := 17) dX8_shells_12 (by decide) (fun h12 => ?_) (fun h12 => ?_)
      · exact absurd h12 (by decide)
      · refine g_iload_n (i := 2) (j := 0) dX8_shells_15 rfl rfl ?_
        refine g_iret rfl rfl dX8_shells_16 ?_
        refine ⟨?_, _, _, _, rfl⟩
        unfold pShells
        rw [if_pos ik, ek, if_neg hz]
  · skip
    refine g_aload_n (i := 0) (j := 0) dX8_shells_5 rfl rfl ?_
    refine g_iload_n (i := 1) (j := 1) dX8_shells_6 rfl rfl ?_
    refine c_V (st1 := [.int (-1)]) (ctX8_noWalk_1  (by omega) hx0) kX8_noWalk lX8_208 (by decide) rfl rfl rfl rfl (by exact Nat.le_of_ble_eq_true rfl) dX8_shells_7 rfl rfl ?_
    refine g_istore_n (i := 2) (lv' := [(2, .int (-1)), (0, .ref 0), (1, .int k0)]) dX8_shells_10 rfl (by decide) rfl ?_
    refine g_iload_n (i := 2) (j := 0) dX8_shells_11 rfl rfl ?_
    refine g_if_eq (tgt := 17) dX8_shells_12 (by decide) (fun h12 => ?_) (fun h12 => ?_)
    · exact absurd h12 (by decide)
    · refine g_iload_n (i := 2) (j := 0) dX8_shells_15 rfl rfl ?_
      refine g_iret rfl rfl dX8_shells_16 ?_
      refine ⟨?_, _, _, _, rfl⟩
      unfold pShells
      rw [if_neg hx0]

theorem lp_mcutI {e1 e7 e8 e9 e10 e11 e13 e14 e15 e16 e17 : va_E} {ts pl lo ri la wk tw sf : Nat} {rl rr re : Int32} {rw rt rs ac : Nat} {sd : Int64} {ce sa ti : Nat} {h so ho pa wa at_ fo r : Nat → Nat} (hg : gOK h so ho pa wa wk tw lo ri la) (hS : mSf sf so) (hT : tOK tw at_ fo ho) (hrk : rOK r) {k s : Nat} {R : Int32} (hk : k < 5) (hs : s ≤ 40) (hf : (∃ c, c ≤ r (1 + k) ∧ wa k < sDepth h c (sWater la ri s lo)) → R = nI s)
    (kn : (∀ c, c ≤ r (1 + k) → sDepth h c (sWater la ri s lo) ≤ wa k) → Go mX8_cut 3 70 [(0, .ref 0), (1, .int (nI k)), (2, .int (nI s))] [] (wM (kM 0 ts pl lo ri la wk tw sf rl rr re rw rt rs ac sd ce sa ti) e1 (kI 10 h) (kI 5 pa) (kI 5 wa) (kI 2 at_) (kI 2 fo) e7 e8 e9 e10 e11 (kI 16 (pgR r)) e13 e14 e15 e16 e17) (gE (some (.int R)) (wM (kM 0 ts pl lo ri la wk tw sf rl rr re rw rt rs ac sd ce sa ti) e1 (kI 10 h) (kI 5 pa) (kI 5 wa) (kI 2 at_) (kI 2 fo) e7 e8 e9 e10 e11 (kI 16 (pgR r)) e13 e14 e15 e16 e17))) :
    ∀ (n c : Nat), c + n = r (1 + k) + 1 → (∀ j, j < c → sDepth h j (sWater la ri s lo) ≤ wa k) → Go mX8_cut 3 31 [(0, .ref 0), (1, .int (nI k)), (2, .int (nI s)), (3, .int (nI c))] [] (wM (kM 0 ts pl lo ri la wk tw sf rl rr re rw rt rs ac sd ce sa ti) e1 (kI 10 h) (kI 5 pa) (kI 5 wa) (kI 2 at_) (kI 2 fo) e7 e8 e9 e10 e11 (kI 16 (pgR r)) e13 e14 e15 e16 e17) (gE (some (.int R)) (wM (kM 0 ts pl lo ri la wk tw sf rl rr re rw rt rs ac sd ce sa ti) e1 (kI 10 h) (kI 5 pa) (kI 5 wa) (kI 2 at_) (kI 2 fo) e7 e8 e9 e10 e11 (kI 16 (pgR r)) e13 e14 e15 e16 e17)) := by
  intro n
  obtain ⟨hH, hso, hho, hpa, hwa, hwk, htw, hlo, hri, hla⟩ := hg
  have hrk0 := hrk
  obtain ⟨hr, hr1, hr6, hr11⟩ := hrk0
  have q1 := hr1 k hk
  have qw := hwa k
  induction n with
  | zero =>
    intro c hc hj
    refine g_iload_n (i := 3) (j := 3) dX8_cut_31 rfl rfl ?_
    refine g_aload_n (i := 0) (j := 0) dX8_cut_32 rfl rfl ?_
    refine g_get fX8_47 rfl rfl dX8_cut_33 ?_
    refine g_iconst (v := nI 3) dX8_cut_36 (by decide) ?_
    refine g_iload_n (i := 1) (j := 1) dX8_cut_37 rfl rfl ?_
    refine n_imul (a := 3) (b := k) dX8_cut_38 ?_
    refine n_iald (x := (3 * k)) rfl (by omega) (rng_lit 16 rfl) dX8_cut_39 ?_
    refine g_topi (y := nI (r (1 + k))) (by rw [pg_0 (by omega)]) ?_
    refine n_icmp_gt (tgt := 70) (by omega) (by omega) dX8_cut_40 (by decide) (fun h40 => ?_) (fun h40 => ?_)
    · refine g_lv [0, 1, 2] rfl ?_
      exact kn (fun j hj2 => hj j (by omega))
    · exfalso; omega

  | succ n ih =>
    intro c hc hj
    have qd := sDW h c la ri s lo
    refine g_iload_n (i := 3) (j := 3) dX8_cut_31 rfl rfl ?_
    refine g_aload_n (i := 0) (j := 0) dX8_cut_32 rfl rfl ?_
    refine g_get fX8_47 rfl rfl dX8_cut_33 ?_
    refine g_iconst (v := nI 3) dX8_cut_36 (by decide) ?_
    refine g_iload_n (i := 1) (j := 1) dX8_cut_37 rfl rfl ?_
    refine n_imul (a := 3) (b := k) dX8_cut_38 ?_
    refine n_iald (x := (3 * k)) rfl (by omega) (rng_lit 16 rfl) dX8_cut_39 ?_
    refine g_topi (y := nI (r (1 + k))) (by rw [pg_0 (by omega)]) ?_
    refine n_icmp_gt (tgt := 70) (by omega) (by omega) dX8_cut_40 (by decide) (fun h40 => ?_) (fun h40 => ?_)
    · exfalso; omega
    · refine g_aload_n (i := 0) (j := 0) dX8_cut_43 rfl rfl ?_
      refine g_iload_n (i := 3) (j := 3) dX8_cut_44 rfl rfl ?_
      refine g_iload_n (i := 2) (j := 2) dX8_cut_45 rfl rfl ?_
      refine g_aload_n (i := 0) (j := 0) dX8_cut_46 rfl rfl ?_
      refine g_get fX8_139 rfl rfl dX8_cut_47 ?_
      refine c_V (st1 := [.int (nI (sDepth h c (sWater la ri s lo)))]) (ctX8_deepBy (c := c) (s := s) (at0 := lo) hH (by omega) (by omega) (by first | omega | assumption | exact hpa _ | exact hwa _ | exact hr1 _ (by omega) | exact hr6 _ (by omega) | exact hr11 _ (by omega) | exact hr _ | exact Nat.le_succ_of_le (hr _) | (apply sTo_le; first | omega | exact hr1 _ (by omega))) (by first | omega | assumption | exact hpa _ | exact hwa _ | exact hr1 _ (by omega) | exact hr6 _ (by omega) | exact hr11 _ (by omega) | exact hr _ | exact Nat.le_succ_of_le (hr _) | (apply sTo_le; first | omega | exact hr1 _ (by omega))) (by first | omega | assumption | exact hpa _ | exact hwa _ | exact hr1 _ (by omega) | exact hr6 _ (by omega) | exact hr11 _ (by omega) | exact hr _ | exact Nat.le_succ_of_le (hr _) | (apply sTo_le; first | omega | exact hr1 _ (by omega)))) kX8_deepBy lX8_167 (by decide) rfl rfl rfl rfl (by exact Nat.le_of_ble_eq_true rfl) dX8_cut_50 rfl rfl ?_
      refine g_aload_n (i := 0) (j := 0) dX8_cut_53 rfl rfl ?_
      refine g_get fX8_23 rfl rfl dX8_cut_54 ?_
      refine g_iload_n (i := 1) (j := 1) dX8_cut_57 rfl rfl ?_
      refine n_iald (x := k) rfl (by omega) (rng_lit 5 rfl) dX8_cut_58 ?_
      refine n_icmp_le (tgt := 64) (by omega) (by omega) dX8_cut_59 (by decide) (fun h59 => ?_) (fun h59 => ?_)
      · refine n_inc (x := c) (j := 3) (lv' := [(3, .int (nI (c + 1))), (0, .ref 0), (1, .int (nI k)), (2, .int (nI s))]) dX8_cut_64 rfl (by decide) rfl ?_
        refine g_goto (tgt := 31) dX8_cut_67 (by decide) ?_
        refine g_lv [1, 2, 3, 0] rfl ?_
        refine ih (c + 1) (by omega) (fun j hj2 => ?_)
        rcases Nat.lt_or_ge j c with h1 | h1
        · exact hj j h1
        · obtain rfl : j = c := by omega
          omega
      · refine g_iload_n (i := 2) (j := 2) dX8_cut_62 rfl rfl ?_
        refine g_iret rfl rfl dX8_cut_63 ?_
        exact gE_r (hf ⟨c, by omega, h59⟩).symm rfl

theorem lp_mcutO {e1 e7 e8 e9 e10 e11 e13 e14 e15 e16 e17 : va_E} {ts pl lo ri la wk tw sf : Nat} {rl rr re : Int32} {rw rt rs ac : Nat} {sd : Int64} {ce sa ti : Nat} {h so ho pa wa at_ fo r : Nat → Nat} (hg : gOK h so ho pa wa wk tw lo ri la) (hS : mSf sf so) (hT : tOK tw at_ fo ho) (hrk : rOK r) {k : Nat} (hk : k < 5) : ∀ (n s : Nat), s + n = 41 → Go mX8_cut 3 23 [(0, .ref 0), (1, .int (nI k)), (2, .int (nI s))] [] (wM (kM 0 ts pl lo ri la wk tw sf rl rr re rw rt rs ac sd ce sa ti) e1 (kI 10 h) (kI 5 pa) (kI 5 wa) (kI 2 at_) (kI 2 fo) e7 e8 e9 e10 e11 (kI 16 (pgR r)) e13 e14 e15 e16 e17) (gE (some (.int (rO (sFirst (fun t => sAny (fun c => decide (wa k < sDepth h c (sWater la ri t lo))) (r (1 + k) + 1)) n s)))) (wM (kM 0 ts pl lo ri la wk tw sf rl rr re rw rt rs ac sd ce sa ti) e1 (kI 10 h) (kI 5 pa) (kI 5 wa) (kI 2 at_) (kI 2 fo) e7 e8 e9 e10 e11 (kI 16 (pgR r)) e13 e14 e15 e16 e17)) := by
  intro n
  induction n with
  | zero =>
    intro s hs
    refine g_iload_n (i := 2) (j := 2) dX8_cut_23 rfl rfl ?_
    refine g_bipush (v := nI 40) dX8_cut_24 (by decide) ?_
    refine n_icmp_gt (tgt := 76) (by omega) (rng_lit 40 rfl) dX8_cut_26 (by decide) (fun h26 => ?_) (fun h26 => ?_)
    · refine g_bipush (v := (-9)) dX8_cut_76 (by decide) ?_
      refine g_iret rfl rfl dX8_cut_78 ?_
      exact gE_i rfl rfl
    · exfalso; omega

  | succ n ih =>
    intro s hs
    refine g_iload_n (i := 2) (j := 2) dX8_cut_23 rfl rfl ?_
    refine g_bipush (v := nI 40) dX8_cut_24 (by decide) ?_
    refine n_icmp_gt (tgt := 76) (by omega) (rng_lit 40 rfl) dX8_cut_26 (by decide) (fun h26 => ?_) (fun h26 => ?_)
    · exfalso; omega
    · refine g_iconst (v := nI 0) dX8_cut_29 (by decide) ?_
      refine g_istore_n (i := 3) (lv' := [(3, .int (nI 0)), (0, .ref 0), (1, .int (nI k)), (2, .int (nI s))]) dX8_cut_30 rfl (by decide) rfl ?_
      refine g_lv [1, 2, 3, 0] rfl ?_
      refine lp_mcutI hg hS hT hrk hk (by omega) ?_ (fun hno => ?_) (r (1 + k) + 1) 0 (by omega) (fun j hj => absurd hj (by omega))
      · intro ⟨c, hc, hd⟩
        rw [sFirst, if_pos (sAny_t (k := c) (by omega) (by simpa using hd))]; rfl
      · refine n_inc (x := s) (j := 2) (lv' := [(2, .int (nI (s + 1))), (0, .ref 0), (1, .int (nI k))]) dX8_cut_70 rfl (by decide) rfl ?_
        refine g_goto (tgt := 23) dX8_cut_73 (by decide) ?_
        refine g_lv [1, 2, 0] rfl ?_
        rw [show sFirst (fun t => sAny (fun c => decide (wa k < sDepth h c (sWater la ri t lo))) (r (1 + k) + 1)) (n + 1) s = sFirst (fun t => sAny (fun c => decide (wa k < sDepth h c (sWater la ri t lo))) (r (1 + k) + 1)) n (s + 1) by rw [sFirst, if_neg (by rw [sAny_f.mpr (fun c hc => by simp [hno c (by omega)])]; simp)]]
        exact ih (s + 1) (by omega)

theorem ctX8_cut {e1 e7 e8 e9 e10 e11 e13 e14 e15 e16 e17 : va_E} {ts pl lo ri la wk tw sf : Nat} {rl rr re : Int32} {rw rt rs ac : Nat} {sd : Int64} {ce sa ti : Nat} {h so ho pa wa at_ fo r : Nat → Nat} (hg : gOK h so ho pa wa wk tw lo ri la) (hS : mSf sf so) (hT : tOK tw at_ fo ho) (hrk : rOK r) {k0 : Int32} : Ct mX8_cut 3 [.ref 0, .int k0] (wM (kM 0 ts pl lo ri la wk tw sf rl rr re rw rt rs ac sd ce sa ti) e1 (kI 10 h) (kI 5 pa) (kI 5 wa) (kI 2 at_) (kI 2 fo) e7 e8 e9 e10 e11 (kI 16 (pgR r)) e13 e14 e15 e16 e17) (gE (some (.int (pCut h wa wk lo ri la r k0))) (wM (kM 0 ts pl lo ri la wk tw sf rl rr re rw rt rs ac sd ce sa ti) e1 (kI 10 h) (kI 5 pa) (kI 5 wa) (kI 2 at_) (kI 2 fo) e7 e8 e9 e10 e11 (kI 16 (pgR r)) e13 e14 e15 e16 e17)) := by
  refine Ct.of (by decide) (by exact Nat.le_of_ble_eq_true rfl) ?_
  show Go mX8_cut 3 0 [(0, .ref 0), (1, .int k0)] [] (wM (kM 0 ts pl lo ri la wk tw sf rl rr re rw rt rs ac sd ce sa ti) e1 (kI 10 h) (kI 5 pa) (kI 5 wa) (kI 2 at_) (kI 2 fo) e7 e8 e9 e10 e11 (kI 16 (pgR r)) e13 e14 e15 e16 e17) (gE (some (.int (pCut h wa wk lo ri la r k0))) (wM (kM 0 ts pl lo ri la wk tw sf rl rr re rw rt rs ac sd ce sa ti) e1 (kI 10 h) (kI 5 pa) (kI 5 wa) (kI 2 at_) (kI 2 fo) e7 e8 e9 e10 e11 (kI 16 (pgR r)) e13 e14 e15 e16 e17))
  have hg0 := hg
  obtain ⟨hH, hso, hho, hpa, hwa, hwk, htw, hlo, hri, hla⟩ := hg
  have hrk0 := hrk
  obtain ⟨hr, hr1, hr6, hr11⟩ := hrk0
  refine g_aload_n (i := 0) (j := 0) dX8_cut_0 rfl rfl ?_
  refine g_iconst (v := nI 0) dX8_cut_1 (by decide) ?_
  refine n_putI (ws' := wM (kM 0 ts pl lo ri la wk tw sf rl rr re rw rt rs ac sd ce sa ti) e1 (kI 10 h) (kI 5 pa) (kI 5 wa) (kI 2 at_) (kI 2 fo) e7 e8 e9 e10 e11 (kI 16 (pgR r)) e13 e14 e15 e16 e17) fX8_67 fp_X8_0 rfl (by exact Nat.le_of_ble_eq_true rfl) dX8_cut_2 rfl ?_
  refine g_aload_n (i := 0) (j := 0) dX8_cut_5 rfl rfl ?_
  refine g_iload_n (i := 1) (j := 1) dX8_cut_6 rfl rfl ?_
  refine c_V (st1 := [.int (nI (bN (¬ iW k0 wk)))]) (ctX8_noOne  (by omega)) kX8_noOne lX8_174 (by decide) rfl rfl rfl rfl (by exact Nat.le_of_ble_eq_true rfl) dX8_cut_7 rfl rfl ?_
  refine b_if_eq (tgt := 15) dX8_cut_10 (by decide) (fun h10 => ?_) (fun h10 => ?_)
  · obtain ⟨k, hk, rfl⟩ := raw_lt (Decidable.not_not.mp h10)
    have ek : cN (nI k) = k := cN_n (by omega)
    have ik : iW (nI k) wk := (iW_n (by omega)).mpr hk
    have q1 := hr1 k (by omega)
    have q6 := hr6 k (by omega)
    have q11 := hr11 k (by omega)
    have q0 := hr 0
    refine g_aload_n (i := 0) (j := 0) dX8_cut_15 rfl rfl ?_
    refine g_get fX8_47 rfl rfl dX8_cut_16 ?_
    refine g_bipush (v := nI 15) dX8_cut_19 (by decide) ?_
    refine n_iald (x := 15) rfl (by omega) (rng_lit 16 rfl) dX8_cut_21 ?_
    refine g_topi (y := nI (r 0)) (by rw [pg_t]) ?_
    refine g_istore_n (i := 2) (lv' := [(2, .int (nI (r 0))), (0, .ref 0), (1, .int (nI k))]) dX8_cut_22 rfl (by decide) rfl ?_
    refine g_lv [1, 2, 0] rfl ?_
    unfold pCut
    rw [if_pos ik, ek]
    exact lp_mcutO hg0 hS hT hrk (by omega) (41 - r 0) (r 0) (by omega)
  · refine g_iconst (v := (-1)) dX8_cut_13 (by decide) ?_
    refine g_iret rfl rfl dX8_cut_14 ?_
    refine gE_r ?_ rfl
    unfold pCut
    rw [if_neg h10]

theorem mRow_0 (h so pa wa : Nat → Nat) (la ri lo : Nat) (r : Nat → Nat) : ∀ n, sRow h so pa wa la ri lo r n 0 = r 0
  | 0 => rfl
  | n + 1 => by
    rw [sRow]
    split
    · rw [va_up_other (by omega), va_up_other (by omega)]; exact mRow_0 h so pa wa la ri lo r n
    · exact mRow_0 h so pa wa la ri lo r n
theorem sSet_s (p : Nat → Bool) (n : Nat) : sSet p (n + 1) = sSet p n + if p n then 2 ^ n else 0 := rfl
theorem lp_mstep {e1 e7 e8 e9 e10 e11 e13 e14 e15 e16 e17 : va_E} {ts pl lo ri la wk tw sf : Nat} {rl rr re : Int32} {rw rt rs ac : Nat} {sd : Int64} {ce sa ti : Nat} {h so ho pa wa at_ fo r : Nat → Nat} (hg : gOK h so ho pa wa wk tw lo ri la) (hS : mSf sf so) (hT : tOK tw at_ fo ho) (hrk : rOK r) : ∀ (n w : Nat), w + n = wk → Go mX8_step 3 28 [(0, .ref 0), (1, .int (nI (sSet (sLost h so pa wa la ri lo r) w))), (2, .int (nI w))] [] (wM (kM 0 ts pl lo ri la wk tw sf rl rr re rw rt rs ac sd ce sa ti) e1 (kI 10 h) (kI 5 pa) (kI 5 wa) (kI 2 at_) (kI 2 fo) e7 e8 e9 e10 e11 (kI 16 (pgR (sRow h so pa wa la ri lo r w))) e13 e14 e15 e16 e17) (gE (some (.int (nI (sSet (sLost h so pa wa la ri lo r) wk)))) (wM (kM 0 ts pl lo ri la wk tw sf rl rr re rw rt rs ac sd ce sa ti) e1 (kI 10 h) (kI 5 pa) (kI 5 wa) (kI 2 at_) (kI 2 fo) e7 e8 e9 e10 e11 (kI 16 (pgR (sStepR h so pa wa wk lo ri la r))) e13 e14 e15 e16 e17)) := by
  intro n
  obtain ⟨hH, hso, hho, hpa, hwa, hwk, htw, hlo, hri, hla⟩ := hg
  induction n with
  | zero =>
    intro w hw
    obtain rfl : w = wk := by omega
    have q0 := hrk.1 0
    refine g_iload_n (i := 2) (j := 2) dX8_step_28 rfl rfl ?_
    refine g_aload_n (i := 0) (j := 0) dX8_step_29 rfl rfl ?_
    refine g_get fX8_70 rfl rfl dX8_step_30 ?_
    refine n_icmp_ge (tgt := 166) (by omega) (by omega) dX8_step_33 (by decide) (fun h33 => ?_) (fun h33 => ?_)
    · refine g_aload_n (i := 0) (j := 0) dX8_step_166 rfl rfl ?_
      refine g_get fX8_47 rfl rfl dX8_step_167 ?_
      refine g_bipush (v := nI 15) dX8_step_170 (by decide) ?_
      refine g_dup2 dX8_step_172 rfl rfl ?_
      refine n_iald (x := 15) rfl (by omega) (rng_lit 16 rfl) dX8_step_173 ?_
      refine g_topi (y := nI ((sRow h so pa wa la ri lo r w) 0)) (by rw [pg_t]) ?_
      refine g_iconst (v := nI 1) dX8_step_174 (by decide) ?_
      refine n_iadd (a := ((sRow h so pa wa la ri lo r w) 0)) (b := 1) dX8_step_175 ?_
      refine n_iast (x := 15) (ws' := wM (kM 0 ts pl lo ri la w tw sf rl rr re rw rt rs ac sd ce sa ti) e1 (kI 10 h) (kI 5 pa) (kI 5 wa) (kI 2 at_) (kI 2 fo) e7 e8 e9 e10 e11 (kI 16 (pgR (va_up (sRow h so pa wa la ri lo r w) 0 (((sRow h so pa wa la ri lo r w) 0) + 1)))) e13 e14 e15 e16 e17) rfl (by omega) (rng_lit 16 rfl) dX8_step_176 (by rw [pu_t]; rfl) ?_
      refine g_iload_n (i := 1) (j := 1) dX8_step_177 rfl rfl ?_
      refine g_iret rfl rfl dX8_step_178 ?_
      refine gE_i rfl ?_
      unfold sStepR
      rw [mRow_0]
    · exfalso; omega

  | succ n ih =>
    intro w hw
    obtain ⟨hr, hr1, hr6, hr11⟩ := sRow_ok (h := h) (so := so) (pa := pa) (wa := wa) (la := la) (ri := ri) (lo := lo) hrk w (by omega)
    have q11 := hr11 w (by omega)
    have q1 := hr1 w (by omega)
    have q0 := hr 0
    have q3 := sSet_lt (sLost h so pa wa la ri lo r) w
    refine g_iload_n (i := 2) (j := 2) dX8_step_28 rfl rfl ?_
    refine g_aload_n (i := 0) (j := 0) dX8_step_29 rfl rfl ?_
    refine g_get fX8_70 rfl rfl dX8_step_30 ?_
    refine n_icmp_ge (tgt := 166) (by omega) (by omega) dX8_step_33 (by decide) (fun h33 => ?_) (fun h33 => ?_)
    · exfalso; omega
    · refine g_aload_n (i := 0) (j := 0) dX8_step_36 rfl rfl ?_
      refine g_get fX8_47 rfl rfl dX8_step_37 ?_
      refine g_iconst (v := nI 3) dX8_step_40 (by decide) ?_
      refine g_iload_n (i := 2) (j := 2) dX8_step_41 rfl rfl ?_
      refine n_imul (a := 3) (b := w) dX8_step_42 ?_
      refine g_iconst (v := nI 2) dX8_step_43 (by decide) ?_
      refine n_iadd (a := (3 * w)) (b := 2) dX8_step_44 ?_
      refine n_iald (x := ((3 * w) + 2)) rfl (by omega) (rng_lit 16 rfl) dX8_step_45 ?_
      refine g_topi (y := nI ((sRow h so pa wa la ri lo r w) (11 + w))) (by rw [pg_2 (by omega)]) ?_
      refine n_if_ne (tgt := 160) (by omega) dX8_step_46 (by decide) (fun h46 => ?_) (fun h46 => ?_)
      · refine n_inc (x := w) (j := 2) (lv' := [(2, .int (nI (w + 1))), (0, .ref 0), (1, .int (nI (sSet (sLost h so pa wa la ri lo r) w)))]) dX8_step_160 rfl (by decide) rfl ?_
        refine g_goto (tgt := 28) dX8_step_163 (by decide) ?_
        refine g_lv [1, 2, 0] rfl ?_
        have e1 : sRow h so pa wa la ri lo r (w + 1) = (sRow h so pa wa la ri lo r w) := by rw [sRow, if_neg h46]
        have e2 : sSet (sLost h so pa wa la ri lo r) (w + 1) = sSet (sLost h so pa wa la ri lo r) w := by rw [sSet_s, if_neg (by unfold sLost; simp [h46])]; rfl
        rw [← e1, ← e2]
        exact ih (w + 1) (by omega)
      · refine g_aload_n (i := 0) (j := 0) dX8_step_49 rfl rfl ?_
        refine g_get fX8_47 rfl rfl dX8_step_50 ?_
        refine g_iconst (v := nI 3) dX8_step_53 (by decide) ?_
        refine g_iload_n (i := 2) (j := 2) dX8_step_54 rfl rfl ?_
        refine n_imul (a := 3) (b := w) dX8_step_55 ?_
        refine n_iald (x := (3 * w)) rfl (by omega) (rng_lit 16 rfl) dX8_step_56 ?_
        refine g_topi (y := nI ((sRow h so pa wa la ri lo r w) (1 + w))) (by rw [pg_0 (by omega)]) ?_
        refine g_istore_n (i := 3) (lv' := [(3, .int (nI ((sRow h so pa wa la ri lo r w) (1 + w)))), (0, .ref 0), (1, .int (nI (sSet (sLost h so pa wa la ri lo r) w))), (2, .int (nI w))]) dX8_step_57 rfl (by decide) rfl ?_
        refine g_aload_n (i := 0) (j := 1) dX8_step_58 rfl rfl ?_
        refine g_get fX8_47 rfl rfl dX8_step_59 ?_
        refine g_iconst (v := nI 3) dX8_step_62 (by decide) ?_
        refine g_iload_n (i := 2) (j := 3) dX8_step_63 rfl rfl ?_
        refine n_imul (a := 3) (b := w) dX8_step_64 ?_
        refine g_iconst (v := nI 1) dX8_step_65 (by decide) ?_
        refine n_iadd (a := (3 * w)) (b := 1) dX8_step_66 ?_
        refine n_iald (x := ((3 * w) + 1)) rfl (by omega) (rng_lit 16 rfl) dX8_step_67 ?_
        refine g_topi (y := nI ((sRow h so pa wa la ri lo r w) (6 + w))) (by rw [pg_1 (by omega)]) ?_
        refine g_istore (lv' := [(4, .int (nI ((sRow h so pa wa la ri lo r w) (6 + w)))), (3, .int (nI ((sRow h so pa wa la ri lo r w) (1 + w)))), (0, .ref 0), (1, .int (nI (sSet (sLost h so pa wa la ri lo r) w))), (2, .int (nI w))]) dX8_step_68 (by decide) rfl ?_
        refine g_aload_n (i := 0) (j := 2) dX8_step_70 rfl rfl ?_
        refine g_get fX8_47 rfl rfl dX8_step_71 ?_
        refine g_iconst (v := nI 3) dX8_step_74 (by decide) ?_
        refine g_iload_n (i := 2) (j := 4) dX8_step_75 rfl rfl ?_
        refine n_imul (a := 3) (b := w) dX8_step_76 ?_
        refine g_aload_n (i := 0) (j := 2) dX8_step_77 rfl rfl ?_
        refine g_iload_n (i := 2) (j := 4) dX8_step_78 rfl rfl ?_
        refine g_iload_n (i := 3) (j := 1) dX8_step_79 rfl rfl ?_
        refine g_iload (j := 0) dX8_step_80 rfl ?_
        refine g_aload_n (i := 0) (j := 2) dX8_step_82 rfl rfl ?_
        refine g_get fX8_47 rfl rfl dX8_step_83 ?_
        refine g_bipush (v := nI 15) dX8_step_86 (by decide) ?_
        refine n_iald (x := 15) rfl (by omega) (rng_lit 16 rfl) dX8_step_88 ?_
        refine g_topi (y := nI ((sRow h so pa wa la ri lo r w) 0)) (by rw [pg_t]) ?_
        refine g_aload_n (i := 0) (j := 2) dX8_step_89 rfl rfl ?_
        refine g_get fX8_139 rfl rfl dX8_step_90 ?_
        refine c_V (st1 := [.int (nI (sTo h (pa w) (wa w) ((sRow h so pa wa la ri lo r w) (1 + w)) ((sRow h so pa wa la ri lo r w) (6 + w)) (sWater la ri ((sRow h so pa wa la ri lo r w) 0) lo))), .int (nI (3 * w)), .ref 12]) (ctX8_goes (w := w) (c0 := (sRow h so pa wa la ri lo r w) (1 + w)) (way := (sRow h so pa wa la ri lo r w) (6 + w)) (s := (sRow h so pa wa la ri lo r w) 0) (at0 := lo) hH hpa hwa (by omega) (by omega) (by first | omega | assumption | exact hpa _ | exact hwa _ | exact hr1 _ (by omega) | exact hr6 _ (by omega) | exact hr11 _ (by omega) | exact hr _ | exact Nat.le_succ_of_le (hr _) | (apply sTo_le; first | omega | exact hr1 _ (by omega))) (by first | omega | assumption | exact hpa _ | exact hwa _ | exact hr1 _ (by omega) | exact hr6 _ (by omega) | exact hr11 _ (by omega) | exact hr _ | exact Nat.le_succ_of_le (hr _) | (apply sTo_le; first | omega | exact hr1 _ (by omega))) (by first | omega | assumption | exact hpa _ | exact hwa _ | exact hr1 _ (by omega) | exact hr6 _ (by omega) | exact hr11 _ (by omega) | exact hr _ | exact Nat.le_succ_of_le (hr _) | (apply sTo_le; first | omega | exact hr1 _ (by omega))) (by first | omega | assumption | exact hpa _ | exact hwa _ | exact hr1 _ (by omega) | exact hr6 _ (by omega) | exact hr11 _ (by omega) | exact hr _ | exact Nat.le_succ_of_le (hr _) | (apply sTo_le; first | omega | exact hr1 _ (by omega))) (by first | omega | assumption | exact hpa _ | exact hwa _ | exact hr1 _ (by omega) | exact hr6 _ (by omega) | exact hr11 _ (by omega) | exact hr _ | exact Nat.le_succ_of_le (hr _) | (apply sTo_le; first | omega | exact hr1 _ (by omega)))) kX8_goes lX8_185 (by decide) rfl rfl rfl rfl (by exact Nat.le_of_ble_eq_true rfl) dX8_step_93 rfl rfl ?_
        refine n_iast (x := (3 * w)) (ws' := wM (kM 0 ts pl lo ri la wk tw sf rl rr re rw rt rs ac sd ce sa ti) e1 (kI 10 h) (kI 5 pa) (kI 5 wa) (kI 2 at_) (kI 2 fo) e7 e8 e9 e10 e11 (kI 16 (pgR (va_up (sRow h so pa wa la ri lo r w) (1 + w) (sTo h (pa w) (wa w) ((sRow h so pa wa la ri lo r w) (1 + w)) ((sRow h so pa wa la ri lo r w) (6 + w)) (sWater la ri ((sRow h so pa wa la ri lo r w) 0) lo))))) e13 e14 e15 e16 e17) rfl (by omega) (rng_lit 16 rfl) dX8_step_96 (by rw [pu_0 (by omega)]; rfl) ?_
        refine g_aload_n (i := 0) (j := 2) dX8_step_97 rfl rfl ?_
        refine g_get fX8_47 rfl rfl dX8_step_98 ?_
        refine g_iconst (v := nI 3) dX8_step_101 (by decide) ?_
        refine g_iload_n (i := 2) (j := 4) dX8_step_102 rfl rfl ?_
        refine n_imul (a := 3) (b := w) dX8_step_103 ?_
        refine g_iconst (v := nI 2) dX8_step_104 (by decide) ?_
        refine n_iadd (a := (3 * w)) (b := 2) dX8_step_105 ?_
        refine g_aload_n (i := 0) (j := 2) dX8_step_106 rfl rfl ?_
        refine g_iload_n (i := 2) (j := 4) dX8_step_107 rfl rfl ?_
        refine g_iload_n (i := 3) (j := 1) dX8_step_108 rfl rfl ?_
        refine g_aload_n (i := 0) (j := 2) dX8_step_109 rfl rfl ?_
        refine g_get fX8_47 rfl rfl dX8_step_110 ?_
        refine g_iconst (v := nI 3) dX8_step_113 (by decide) ?_
        refine g_iload_n (i := 2) (j := 4) dX8_step_114 rfl rfl ?_
        refine n_imul (a := 3) (b := w) dX8_step_115 ?_
        refine n_iald (x := (3 * w)) rfl (by omega) (rng_lit 16 rfl) dX8_step_116 ?_
        refine g_topi (y := nI ((va_up (sRow h so pa wa la ri lo r w) (1 + w) (sTo h (pa w) (wa w) ((sRow h so pa wa la ri lo r w) (1 + w)) ((sRow h so pa wa la ri lo r w) (6 + w)) (sWater la ri ((sRow h so pa wa la ri lo r w) 0) lo))) (1 + w))) (by rw [pg_0 (by omega)]) ?_
        refine g_topi (y := nI (sTo h (pa w) (wa w) ((sRow h so pa wa la ri lo r w) (1 + w)) ((sRow h so pa wa la ri lo r w) (6 + w)) (sWater la ri ((sRow h so pa wa la ri lo r w) 0) lo))) (congrArg nI (va_up_same _ _ _)) ?_
        refine g_iload (j := 0) dX8_step_117 rfl ?_
        refine g_aload_n (i := 0) (j := 2) dX8_step_119 rfl rfl ?_
        refine g_get fX8_47 rfl rfl dX8_step_120 ?_
        refine g_bipush (v := nI 15) dX8_step_123 (by decide) ?_
        refine n_iald (x := 15) rfl (by omega) (rng_lit 16 rfl) dX8_step_125 ?_
        refine g_topi (y := nI ((va_up (sRow h so pa wa la ri lo r w) (1 + w) (sTo h (pa w) (wa w) ((sRow h so pa wa la ri lo r w) (1 + w)) ((sRow h so pa wa la ri lo r w) (6 + w)) (sWater la ri ((sRow h so pa wa la ri lo r w) 0) lo))) 0)) (by rw [pg_t]) ?_
        refine g_topi (y := nI ((sRow h so pa wa la ri lo r w) 0)) (congrArg nI (va_up_other (by omega))) ?_
        refine g_iconst (v := nI 1) dX8_step_126 (by decide) ?_
        refine n_iadd (a := ((sRow h so pa wa la ri lo r w) 0)) (b := 1) dX8_step_127 ?_
        refine g_aload_n (i := 0) (j := 2) dX8_step_128 rfl rfl ?_
        refine g_get fX8_139 rfl rfl dX8_step_129 ?_
        refine c_V (st1 := [.int (nI (sFate h so (wa w) ((sRow h so pa wa la ri lo r w) (1 + w)) (sTo h (pa w) (wa w) ((sRow h so pa wa la ri lo r w) (1 + w)) ((sRow h so pa wa la ri lo r w) (6 + w)) (sWater la ri ((sRow h so pa wa la ri lo r w) 0) lo)) ((sRow h so pa wa la ri lo r w) (6 + w)) (sWater la ri (((sRow h so pa wa la ri lo r w) 0) + 1) lo) 0)), .int (nI ((3 * w) + 2)), .ref 12]) (ctX8_stateOf (w := w) (c := (sRow h so pa wa la ri lo r w) (1 + w)) (to := sTo h (pa w) (wa w) ((sRow h so pa wa la ri lo r w) (1 + w)) ((sRow h so pa wa la ri lo r w) (6 + w)) (sWater la ri ((sRow h so pa wa la ri lo r w) 0) lo)) (way := (sRow h so pa wa la ri lo r w) (6 + w)) (s := ((sRow h so pa wa la ri lo r w) 0) + 1) (at0 := lo) hH hpa hwa (by omega) (by omega) (by first | omega | assumption | exact hpa _ | exact hwa _ | exact hr1 _ (by omega) | exact hr6 _ (by omega) | exact hr11 _ (by omega) | exact hr _ | exact Nat.le_succ_of_le (hr _) | (apply sTo_le; first | omega | exact hr1 _ (by omega))) (by first | omega | assumption | exact hpa _ | exact hwa _ | exact hr1 _ (by omega) | exact hr6 _ (by omega) | exact hr11 _ (by omega) | exact hr _ | exact Nat.le_succ_of_le (hr _) | (apply sTo_le; first | omega | exact hr1 _ (by omega))) (by first | omega | assumption | exact hpa _ | exact hwa _ | exact hr1 _ (by omega) | exact hr6 _ (by omega) | exact hr11 _ (by omega) | exact hr _ | exact Nat.le_succ_of_le (hr _) | (apply sTo_le; first | omega | exact hr1 _ (by omega))) hS (by first | omega | assumption | exact hpa _ | exact hwa _ | exact hr1 _ (by omega) | exact hr6 _ (by omega) | exact hr11 _ (by omega) | exact hr _ | exact Nat.le_succ_of_le (hr _) | (apply sTo_le; first | omega | exact hr1 _ (by omega))) (by first | omega | assumption | exact hpa _ | exact hwa _ | exact hr1 _ (by omega) | exact hr6 _ (by omega) | exact hr11 _ (by omega) | exact hr _ | exact Nat.le_succ_of_le (hr _) | (apply sTo_le; first | omega | exact hr1 _ (by omega))) (by first | omega | assumption | exact hpa _ | exact hwa _ | exact hr1 _ (by omega) | exact hr6 _ (by omega) | exact hr11 _ (by omega) | exact hr _ | exact Nat.le_succ_of_le (hr _) | (apply sTo_le; first | omega | exact hr1 _ (by omega)))) kX8_stateOf lX8_189 (by decide) rfl rfl rfl rfl (by exact Nat.le_of_ble_eq_true rfl) dX8_step_132 rfl rfl ?_
        refine n_iast (x := ((3 * w) + 2)) (ws' := wM (kM 0 ts pl lo ri la wk tw sf rl rr re rw rt rs ac sd ce sa ti) e1 (kI 10 h) (kI 5 pa) (kI 5 wa) (kI 2 at_) (kI 2 fo) e7 e8 e9 e10 e11 (kI 16 (pgR (va_up (va_up (sRow h so pa wa la ri lo r w) (1 + w) (sTo h (pa w) (wa w) ((sRow h so pa wa la ri lo r w) (1 + w)) ((sRow h so pa wa la ri lo r w) (6 + w)) (sWater la ri ((sRow h so pa wa la ri lo r w) 0) lo))) (11 + w) (sFate h so (wa w) ((sRow h so pa wa la ri lo r w) (1 + w)) (sTo h (pa w) (wa w) ((sRow h so pa wa la ri lo r w) (1 + w)) ((sRow h so pa wa la ri lo r w) (6 + w)) (sWater la ri ((sRow h so pa wa la ri lo r w) 0) lo)) ((sRow h so pa wa la ri lo r w) (6 + w)) (sWater la ri (((sRow h so pa wa la ri lo r w) 0) + 1) lo) 0)))) e13 e14 e15 e16 e17) rfl (by omega) (rng_lit 16 rfl) dX8_step_135 (by rw [pu_2 (by omega)]; rfl) ?_
        refine g_iload_n (i := 1) (j := 3) dX8_step_136 rfl rfl ?_
        refine g_aload_n (i := 0) (j := 2) dX8_step_137 rfl rfl ?_
        refine g_get fX8_47 rfl rfl dX8_step_138 ?_
        refine g_iconst (v := nI 3) dX8_step_141 (by decide) ?_
        refine g_iload_n (i := 2) (j := 4) dX8_step_142 rfl rfl ?_
        refine n_imul (a := 3) (b := w) dX8_step_143 ?_
        refine g_iconst (v := nI 2) dX8_step_144 (by decide) ?_
        refine n_iadd (a := (3 * w)) (b := 2) dX8_step_145 ?_
        refine n_iald (x := ((3 * w) + 2)) rfl (by omega) (rng_lit 16 rfl) dX8_step_146 ?_
        refine g_topi (y := nI ((va_up (va_up (sRow h so pa wa la ri lo r w) (1 + w) (sTo h (pa w) (wa w) ((sRow h so pa wa la ri lo r w) (1 + w)) ((sRow h so pa wa la ri lo r w) (6 + w)) (sWater la ri ((sRow h so pa wa la ri lo r w) 0) lo))) (11 + w) (sFate h so (wa w) ((sRow h so pa wa la ri lo r w) (1 + w)) (sTo h (pa w) (wa w) ((sRow h so pa wa la ri lo r w) (1 + w)) ((sRow h so pa wa la ri lo r w) (6 + w)) (sWater la ri ((sRow h so pa wa la ri lo r w) 0) lo)) ((sRow h so pa wa la ri lo r w) (6 + w)) (sWater la ri (((sRow h so pa wa la ri lo r w) 0) + 1) lo) 0)) (11 + w))) (by rw [pg_2 (by omega)]) ?_
        refine g_topi (y := nI (sFate h so (wa w) ((sRow h so pa wa la ri lo r w) (1 + w)) (sTo h (pa w) (wa w) ((sRow h so pa wa la ri lo r w) (1 + w)) ((sRow h so pa wa la ri lo r w) (6 + w)) (sWater la ri ((sRow h so pa wa la ri lo r w) 0) lo)) ((sRow h so pa wa la ri lo r w) (6 + w)) (sWater la ri (((sRow h so pa wa la ri lo r w) 0) + 1) lo) 0)) (congrArg nI (va_up_same _ _ _)) ?_
        have qY : sFate h so (wa w) ((sRow h so pa wa la ri lo r w) (1 + w)) (sTo h (pa w) (wa w) ((sRow h so pa wa la ri lo r w) (1 + w)) ((sRow h so pa wa la ri lo r w) (6 + w)) (sWater la ri ((sRow h so pa wa la ri lo r w) 0) lo)) ((sRow h so pa wa la ri lo r w) (6 + w)) (sWater la ri (((sRow h so pa wa la ri lo r w) 0) + 1) lo) 0 ≤ 4 := sFate_le _ _ _ _ _ _ _ _ (by omega)
        refine g_iconst (v := nI 1) dX8_step_147 (by decide) ?_
        refine n_icmp_le (tgt := 157) (by omega) (rng_lit 1 rfl) dX8_step_148 (by decide) (fun h148 => ?_) (fun h148 => ?_)
        · have h7 : ¬ (sMf h so pa wa la ri lo (sRow h so pa wa la ri lo r w) w = 2 ∨ sMf h so pa wa la ri lo (sRow h so pa wa la ri lo r w) w = 3) := by rw [show sMf h so pa wa la ri lo (sRow h so pa wa la ri lo r w) w = sFate h so (wa w) ((sRow h so pa wa la ri lo r w) (1 + w)) (sTo h (pa w) (wa w) ((sRow h so pa wa la ri lo r w) (1 + w)) ((sRow h so pa wa la ri lo r w) (6 + w)) (sWater la ri ((sRow h so pa wa la ri lo r w) 0) lo)) ((sRow h so pa wa la ri lo r w) (6 + w)) (sWater la ri (((sRow h so pa wa la ri lo r w) 0) + 1) lo) 0 from rfl]; omega
          refine g_iconst (v := nI 0) dX8_step_157 (by decide) ?_
          refine g_ior dX8_step_158 ?_
          refine g_topi (y := nI (sSet (sLost h so pa wa la ri lo r) (w + 1))) (by rw [sSet_s]; first | (rw [if_pos (by unfold sLost; simp [h46, h7])]; exact or_bit w (by omega) _ q3) | (rw [if_neg (by unfold sLost; simp [h46]; simpa using h7)]; exact or_0 _)) ?_
          refine g_istore_n (i := 1) (lv' := [(1, .int (nI (sSet (sLost h so pa wa la ri lo r) (w + 1)))), (4, .int (nI ((sRow h so pa wa la ri lo r w) (6 + w)))), (3, .int (nI ((sRow h so pa wa la ri lo r w) (1 + w)))), (0, .ref 0), (2, .int (nI w))]) dX8_step_159 rfl (by decide) rfl ?_
          refine n_inc (x := w) (j := 4) (lv' := [(2, .int (nI (w + 1))), (1, .int (nI (sSet (sLost h so pa wa la ri lo r) (w + 1)))), (4, .int (nI ((sRow h so pa wa la ri lo r w) (6 + w)))), (3, .int (nI ((sRow h so pa wa la ri lo r w) (1 + w)))), (0, .ref 0)]) dX8_step_160 rfl (by decide) rfl ?_
          refine g_goto (tgt := 28) dX8_step_163 (by decide) ?_
          refine g_lv [4, 1, 0] rfl ?_
          have e1 : sRow h so pa wa la ri lo r (w + 1) = (va_up (va_up (sRow h so pa wa la ri lo r w) (1 + w) (sTo h (pa w) (wa w) ((sRow h so pa wa la ri lo r w) (1 + w)) ((sRow h so pa wa la ri lo r w) (6 + w)) (sWater la ri ((sRow h so pa wa la ri lo r w) 0) lo))) (11 + w) (sFate h so (wa w) ((sRow h so pa wa la ri lo r w) (1 + w)) (sTo h (pa w) (wa w) ((sRow h so pa wa la ri lo r w) (1 + w)) ((sRow h so pa wa la ri lo r w) (6 + w)) (sWater la ri ((sRow h so pa wa la ri lo r w) 0) lo)) ((sRow h so pa wa la ri lo r w) (6 + w)) (sWater la ri (((sRow h so pa wa la ri lo r w) 0) + 1) lo) 0)) := by rw [sRow, if_pos h46]; rfl
          rw [← e1]
          exact ih (w + 1) (by omega)
        · have h8 := sMf_3 h so pa wa la ri lo (sRow h so pa wa la ri lo r w) w
          have h7 : sMf h so pa wa la ri lo (sRow h so pa wa la ri lo r w) w = 2 ∨ sMf h so pa wa la ri lo (sRow h so pa wa la ri lo r w) w = 3 := by rw [show sMf h so pa wa la ri lo (sRow h so pa wa la ri lo r w) w = sFate h so (wa w) ((sRow h so pa wa la ri lo r w) (1 + w)) (sTo h (pa w) (wa w) ((sRow h so pa wa la ri lo r w) (1 + w)) ((sRow h so pa wa la ri lo r w) (6 + w)) (sWater la ri ((sRow h so pa wa la ri lo r w) 0) lo)) ((sRow h so pa wa la ri lo r w) (6 + w)) (sWater la ri (((sRow h so pa wa la ri lo r w) 0) + 1) lo) 0 from rfl] at h8 ⊢; omega
          refine g_iconst (v := nI 1) dX8_step_151 (by decide) ?_
          refine g_iload_n (i := 2) (j := 4) dX8_step_152 rfl rfl ?_
          refine g_ishl dX8_step_153 ?_
          refine g_goto (tgt := 158) dX8_step_154 (by decide) ?_
          refine g_ior dX8_step_158 ?_
          refine g_topi (y := nI (sSet (sLost h so pa wa la ri lo r) (w + 1))) (by rw [sSet_s]; first | (rw [if_pos (by unfold sLost; simp [h46, h7])]; exact or_bit w (by omega) _ q3) | (rw [if_neg (by unfold sLost; simp [h46]; simpa using h7)]; exact or_0 _)) ?_
          refine g_istore_n (i := 1) (lv' := [(1, .int (nI (sSet (sLost h so pa wa la ri lo r) (w + 1)))), (4, .int (nI ((sRow h so pa wa la ri lo r w) (6 + w)))), (3, .int (nI ((sRow h so pa wa la ri lo r w) (1 + w)))), (0, .ref 0), (2, .int (nI w))]) dX8_step_159 rfl (by decide) rfl ?_
          refine n_inc (x := w) (j := 4) (lv' := [(2, .int (nI (w + 1))), (1, .int (nI (sSet (sLost h so pa wa la ri lo r) (w + 1)))), (4, .int (nI ((sRow h so pa wa la ri lo r w) (6 + w)))), (3, .int (nI ((sRow h so pa wa la ri lo r w) (1 + w)))), (0, .ref 0)]) dX8_step_160 rfl (by decide) rfl ?_
          refine g_goto (tgt := 28) dX8_step_163 (by decide) ?_
          refine g_lv [4, 1, 0] rfl ?_
          have e1 : sRow h so pa wa la ri lo r (w + 1) = (va_up (va_up (sRow h so pa wa la ri lo r w) (1 + w) (sTo h (pa w) (wa w) ((sRow h so pa wa la ri lo r w) (1 + w)) ((sRow h so pa wa la ri lo r w) (6 + w)) (sWater la ri ((sRow h so pa wa la ri lo r w) 0) lo))) (11 + w) (sFate h so (wa w) ((sRow h so pa wa la ri lo r w) (1 + w)) (sTo h (pa w) (wa w) ((sRow h so pa wa la ri lo r w) (1 + w)) ((sRow h so pa wa la ri lo r w) (6 + w)) (sWater la ri ((sRow h so pa wa la ri lo r w) 0) lo)) ((sRow h so pa wa la ri lo r w) (6 + w)) (sWater la ri (((sRow h so pa wa la ri lo r w) 0) + 1) lo) 0)) := by rw [sRow, if_pos h46]; rfl
          rw [← e1]
          exact ih (w + 1) (by omega)

theorem ctX8_step {e1 e7 e8 e9 e10 e11 e14 e15 e16 e17 : va_E} {ts pl lo ri la wk tw sf : Nat} {rl rr re : Int32} {rw rt rs ac : Nat} {sd : Int64} {ce sa ti : Nat} {h so ho pa wa at_ fo r : Nat → Nat} (hg : gOK h so ho pa wa wk tw lo ri la) (hS : mSf sf so) (hT : tOK tw at_ fo ho) (hrk : rOK r) {Q : Nat → Nat → Nat} (hac : ac ≤ 16) : Ct mX8_step 3 [.ref 0] (wM (kM 0 ts pl lo ri la wk tw sf rl rr re rw rt rs ac sd ce sa ti) e1 (kI 10 h) (kI 5 pa) (kI 5 wa) (kI 2 at_) (kI 2 fo) e7 e8 e9 e10 e11 (kI 16 (pgR r)) (kI 256 (bkR Q)) e14 e15 e16 e17) (gE (some (.int (pStep h so pa wa wk lo ri la r))) (if r 0 = 40 then wM (kM 0 ts pl lo ri la wk tw sf rl rr re rw rt rs ac sd ce sa ti) e1 (kI 10 h) (kI 5 pa) (kI 5 wa) (kI 2 at_) (kI 2 fo) e7 e8 e9 e10 e11 (kI 16 (pgR r)) (kI 256 (bkR Q)) e14 e15 e16 e17 else wM (kM 0 ts pl lo ri la wk tw sf rl rr re rw rt rs (ctP ac) sd ce sa ti) e1 (kI 10 h) (kI 5 pa) (kI 5 wa) (kI 2 at_) (kI 2 fo) e7 e8 e9 e10 e11 (kI 16 (pgR (sStepR h so pa wa wk lo ri la r))) (kI 256 (bkR (sNote Q ac r))) e14 e15 e16 e17)) := by
  refine Ct.of (by decide) (by exact Nat.le_of_ble_eq_true rfl) ?_
  show Go mX8_step 3 0 [(0, .ref 0)] [] (wM (kM 0 ts pl lo ri la wk tw sf rl rr re rw rt rs ac sd ce sa ti) e1 (kI 10 h) (kI 5 pa) (kI 5 wa) (kI 2 at_) (kI 2 fo) e7 e8 e9 e10 e11 (kI 16 (pgR r)) (kI 256 (bkR Q)) e14 e15 e16 e17) (gE (some (.int (pStep h so pa wa wk lo ri la r))) (if r 0 = 40 then wM (kM 0 ts pl lo ri la wk tw sf rl rr re rw rt rs ac sd ce sa ti) e1 (kI 10 h) (kI 5 pa) (kI 5 wa) (kI 2 at_) (kI 2 fo) e7 e8 e9 e10 e11 (kI 16 (pgR r)) (kI 256 (bkR Q)) e14 e15 e16 e17 else wM (kM 0 ts pl lo ri la wk tw sf rl rr re rw rt rs (ctP ac) sd ce sa ti) e1 (kI 10 h) (kI 5 pa) (kI 5 wa) (kI 2 at_) (kI 2 fo) e7 e8 e9 e10 e11 (kI 16 (pgR (sStepR h so pa wa wk lo ri la r))) (kI 256 (bkR (sNote Q ac r))) e14 e15 e16 e17))
  have hg0 := hg
  obtain ⟨hH, hso, hho, hpa, hwa, hwk, htw, hlo, hri, hla⟩ := hg
  have hrk0 := hrk
  obtain ⟨hr, hr1, hr6, hr11⟩ := hrk0
  have q0 := hr 0
  refine g_aload_n (i := 0) (j := 0) dX8_step_0 rfl rfl ?_
  refine g_iconst (v := nI 0) dX8_step_1 (by decide) ?_
  refine n_putI (ws' := wM (kM 0 ts pl lo ri la wk tw sf rl rr re rw rt rs ac sd ce sa ti) e1 (kI 10 h) (kI 5 pa) (kI 5 wa) (kI 2 at_) (kI 2 fo) e7 e8 e9 e10 e11 (kI 16 (pgR r)) (kI 256 (bkR Q)) e14 e15 e16 e17) fX8_67 fp_X8_0 rfl (by exact Nat.le_of_ble_eq_true rfl) dX8_step_2 rfl ?_
  refine g_aload_n (i := 0) (j := 0) dX8_step_5 rfl rfl ?_
  refine g_get fX8_47 rfl rfl dX8_step_6 ?_
  refine g_bipush (v := nI 15) dX8_step_9 (by decide) ?_
  refine n_iald (x := 15) rfl (by omega) (rng_lit 16 rfl) dX8_step_11 ?_
  refine g_topi (y := nI (r 0)) (by rw [pg_t]) ?_
  refine g_bipush (v := nI 40) dX8_step_12 (by decide) ?_
  refine n_icmp_ne (tgt := 20) (by omega) (rng_lit 40 rfl) dX8_step_14 (by decide) (fun h14 => ?_) (fun h14 => ?_)
  · refine g_aload_n (i := 0) (j := 0) dX8_step_20 rfl rfl ?_
    refine c_V (st1 := []) (ctX8_note  (by omega)) kX8_note lX8_198 (by decide) rfl rfl rfl rfl (by exact Nat.le_of_ble_eq_true rfl) dX8_step_21 rfl rfl ?_
    refine g_iconst (v := nI 0) dX8_step_24 (by decide) ?_
    refine g_istore_n (i := 1) (lv' := [(1, .int (nI 0)), (0, .ref 0)]) dX8_step_25 rfl (by decide) rfl ?_
    refine g_iconst (v := nI 0) dX8_step_26 (by decide) ?_
    refine g_istore_n (i := 2) (lv' := [(2, .int (nI 0)), (1, .int (nI 0)), (0, .ref 0)]) dX8_step_27 rfl (by decide) rfl ?_
    refine g_lv [2, 1, 0] rfl ?_
    unfold pStep
    rw [if_neg h14, if_neg h14]
    exact lp_mstep hg0 hS hT hrk wk 0 (by omega)
  · refine g_bipush (v := (-3)) dX8_step_17 (by decide) ?_
    refine g_iret rfl rfl dX8_step_19 ?_
    refine gE_r ?_ (if_pos h14).symm
    unfold pStep
    rw [if_pos h14]

