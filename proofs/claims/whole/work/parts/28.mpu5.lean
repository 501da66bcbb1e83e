/-! part 28: the model: ahead, aheadOf, saved -/
theorem rO_eq {o : Option Nat} {j : Nat} (ho : ∀ s, o = some s → s ≤ 40) (hj : j ≤ 40) : rO o = nI j ↔ o = some j := by
  cases o with
  | none => exact ⟨fun e => absurd e.symm (nI_n9 (by omega)), fun e => by cases e⟩
  | some s =>
    have := ho s rfl
    show nI s = nI j ↔ _
    rw [nI_eq (by omega) (by omega)]
    exact ⟨fun e => by rw [e], fun e => by cases e; rfl⟩
theorem sArr_eq {h so : Nat → Nat} {la ri pa wa lo way c s j : Nat} (hs : s ≤ 40) (hj : j ≤ 40) : rO (sArr h so la ri pa wa lo way c s) = nI j ↔ sArr h so la ri pa wa lo way c s = some j := rO_eq (fun t e => sGone_lt _ _ _ _ _ _ _ _ _ _ _ _ t hs e) hj
theorem sLast_any {p : Nat → Bool} : ∀ n, (sLast p n).isSome = sAny p n
  | 0 => rfl
  | n + 1 => by
    rw [sLast, sAny]
    cases hp : p n
    · simpa [hp] using sLast_any n
    · simp [hp]
theorem sLast_le {p : Nat → Bool} {t : Nat} (e : sLast p 41 = some t) : t ≤ 40 := by have := (sLast_some e).1; omega
theorem rO_none {o : Option Nat} (ho : ∀ s, o = some s → s ≤ 40) : rO o = -9 ↔ o = none := rO_ne o (fun s e => by have := ho s e; omega)
theorem lp_mbegin {e1 e7 e8 e9 e10 e11 e13 e14 e15 e16 e17 : va_E} {ts pl lo ri la wk tw sf : Nat} {rl rr re : Int32} {rw rt rs ac : Nat} {sd : Int64} {h so ho pa wa at_ fo r : Nat → Nat} (hg : gOK h so ho pa wa wk tw lo ri la) (hS : mSf sf so) (hT : tOK tw at_ fo ho) (hrk : rOK r) {k j : Nat} (hk : k < 5) (hj : j ≤ 40) : ∀ (n t ce sa ti : Nat), t + n = 41 → Go mX8_beginOf 5 6 [(0, .ref 0), (1, .int (nI k)), (2, .int (nI j)), (3, .int (rO (sLast (fun s => decide (sArr h so la ri (pa k) (wa k) lo 1 0 s = some j)) t))), (4, .int (nI t))] [] (wM (kM 0 ts pl lo ri la wk tw sf rl rr re rw rt rs ac sd ce sa ti) e1 (kI 10 h) (kI 5 pa) (kI 5 wa) (kI 2 at_) (kI 2 fo) e7 e8 e9 e10 e11 (kI 16 (pgR r)) e13 e14 e15 e16 e17) (fun v u => v = some (.int (rO (sLast (fun s => decide (sArr h so la ri (pa k) (wa k) lo 1 0 s = some j)) 41))) ∧ ∃ ce2 sa2 ti2 : Nat, u = wM (kM 0 ts pl lo ri la wk tw sf rl rr re rw rt rs ac sd ce2 sa2 ti2) e1 (kI 10 h) (kI 5 pa) (kI 5 wa) (kI 2 at_) (kI 2 fo) e7 e8 e9 e10 e11 (kI 16 (pgR r)) e13 e14 e15 e16 e17) := by
  intro n
  obtain ⟨hH, hso, hho, hpa, hwa, hwk, htw, hlo, hri, hla⟩ := hg
  induction n with
  | zero =>
    intro t ce sa ti ht
    obtain rfl : t = 41 := by omega
    refine g_iload (j := 4) dX8_beginOf_6 rfl ?_
    refine g_bipush (v := nI 40) dX8_beginOf_8 (by decide) ?_
    refine n_icmp_gt (tgt := 43) (rng_lit 41 rfl) (rng_lit 40 rfl) dX8_beginOf_10 (by decide) (fun h10 => ?_) (fun h10 => ?_)
    · refine g_iload_n (i := 3) (j := 3) dX8_beginOf_43 rfl rfl ?_
      refine g_iret rfl rfl dX8_beginOf_44 ?_
      exact ⟨rfl, _, _, _, rfl⟩
    · exact absurd h10 (by decide)

  | succ n ih =>
    intro t ce sa ti ht
    refine g_iload (j := 4) dX8_beginOf_6 rfl ?_
    refine g_bipush (v := nI 40) dX8_beginOf_8 (by decide) ?_
    refine n_icmp_gt (tgt := 43) (by omega) (rng_lit 40 rfl) dX8_beginOf_10 (by decide) (fun h10 => ?_) (fun h10 => ?_)
    · exfalso; omega
    · refine g_aload_n (i := 0) (j := 0) dX8_beginOf_13 rfl rfl ?_
      refine g_iload_n (i := 1) (j := 1) dX8_beginOf_14 rfl rfl ?_
      refine g_iconst (v := nI 0) dX8_beginOf_15 (by decide) ?_
      refine g_iload (j := 4) dX8_beginOf_16 rfl ?_
      refine g_iconst (v := nI 1) dX8_beginOf_18 (by decide) ?_
      refine g_aload_n (i := 0) (j := 0) dX8_beginOf_19 rfl rfl ?_
      refine g_get fX8_139 rfl rfl dX8_beginOf_20 ?_
      refine g_callV (rest := []) (ctX8_goneOf (w := k) (c := 0) (s := t) (way := 1) (at0 := lo) hH hpa hwa (by omega) (by omega) hS (by first | omega | assumption | exact hpa _ | exact hwa _ | exact hr1 _ (by omega) | exact hr6 _ (by omega) | exact hr11 _ (by omega) | exact hr _ | exact Nat.le_succ_of_le (hr _) | (apply sTo_le; first | omega | exact hr1 _ (by omega))) (by first | omega | assumption | exact hpa _ | exact hwa _ | exact hr1 _ (by omega) | exact hr6 _ (by omega) | exact hr11 _ (by omega) | exact hr _ | exact Nat.le_succ_of_le (hr _) | (apply sTo_le; first | omega | exact hr1 _ (by omega))) (by first | omega | assumption | exact hpa _ | exact hwa _ | exact hr1 _ (by omega) | exact hr6 _ (by omega) | exact hr11 _ (by omega) | exact hr _ | exact Nat.le_succ_of_le (hr _) | (apply sTo_le; first | omega | exact hr1 _ (by omega))) (by first | omega | assumption | exact hpa _ | exact hwa _ | exact hr1 _ (by omega) | exact hr6 _ (by omega) | exact hr11 _ (by omega) | exact hr _ | exact Nat.le_succ_of_le (hr _) | (apply sTo_le; first | omega | exact hr1 _ (by omega))) (by first | omega | assumption | exact hpa _ | exact hwa _ | exact hr1 _ (by omega) | exact hr6 _ (by omega) | exact hr11 _ (by omega) | exact hr _ | exact Nat.le_succ_of_le (hr _) | (apply sTo_le; first | omega | exact hr1 _ (by omega))) (by first | omega | assumption | exact hpa _ | exact hwa _ | exact hr1 _ (by omega) | exact hr6 _ (by omega) | exact hr11 _ (by omega) | exact hr _ | exact Nat.le_succ_of_le (hr _) | (apply sTo_le; first | omega | exact hr1 _ (by omega)))) kX8_goneOf lX8_205 (by decide) rfl rfl rfl rfl (by exact Nat.le_of_ble_eq_true rfl) dX8_beginOf_23 rfl (fun v u hvu => ?_)
      obtain ⟨rfl, ce23, sa23, ti23, rfl⟩ := hvu
      refine g_st (st' := [.int (rO (sArr h so la ri (pa k) (wa k) lo 1 0 t))]) rfl ?_
      refine g_iload_n (i := 2) (j := 2) dX8_beginOf_26 rfl rfl ?_
      refine g_icmp_ne (tgt := 35) dX8_beginOf_27 (by decide) (fun h27 => ?_) (fun h27 => ?_)
      · rw [ne_eq, sArr_eq (by omega) hj] at h27
        refine g_iload_n (i := 3) (j := 3) dX8_beginOf_35 rfl rfl ?_
        refine g_istore_n (i := 3) (lv' := [(3, .int (rO (sLast (fun s => decide (sArr h so la ri (pa k) (wa k) lo 1 0 s = some j)) t))), (0, .ref 0), (1, .int (nI k)), (2, .int (nI j)), (4, .int (nI t))]) dX8_beginOf_36 rfl (by decide) rfl ?_
        refine n_inc (x := t) (j := 4) (lv' := [(4, .int (nI (t + 1))), (3, .int (rO (sLast (fun s => decide (sArr h so la ri (pa k) (wa k) lo 1 0 s = some j)) t))), (0, .ref 0), (1, .int (nI k)), (2, .int (nI j))]) dX8_beginOf_37 rfl (by decide) rfl ?_
        refine g_goto (tgt := 6) dX8_beginOf_40 (by decide) ?_
        refine g_lv [2, 3, 4, 1, 0] rfl ?_
        have e : (rO (sLast (fun s => decide (sArr h so la ri (pa k) (wa k) lo 1 0 s = some j)) t)) = rO (sLast (fun s => decide (sArr h so la ri (pa k) (wa k) lo 1 0 s = some j)) (t + 1)) := by
          rw [sLast]
          first | (rw [if_pos (by simpa using h27)]; rfl) | rw [if_neg (by simpa using h27)]
        rw [e]
        exact ih (t + 1) _ _ _ (by omega)
      · rw [sArr_eq (by omega) hj] at h27
        refine g_iload (j := 4) dX8_beginOf_30 rfl ?_
        refine g_goto (tgt := 36) dX8_beginOf_32 (by decide) ?_
        refine g_istore_n (i := 3) (lv' := [(3, .int (nI t)), (0, .ref 0), (1, .int (nI k)), (2, .int (nI j)), (4, .int (nI t))]) dX8_beginOf_36 rfl (by decide) rfl ?_
        refine n_inc (x := t) (j := 4) (lv' := [(4, .int (nI (t + 1))), (3, .int (nI t)), (0, .ref 0), (1, .int (nI k)), (2, .int (nI j))]) dX8_beginOf_37 rfl (by decide) rfl ?_
        refine g_goto (tgt := 6) dX8_beginOf_40 (by decide) ?_
        refine g_lv [2, 3, 4, 1, 0] rfl ?_
        have e : (nI t) = rO (sLast (fun s => decide (sArr h so la ri (pa k) (wa k) lo 1 0 s = some j)) (t + 1)) := by
          rw [sLast]
          first | (rw [if_pos (by simpa using h27)]; rfl) | rw [if_neg (by simpa using h27)]
        rw [e]
        exact ih (t + 1) _ _ _ (by omega)

theorem ctX8_beginOf {e1 e7 e8 e9 e10 e11 e13 e14 e15 e16 e17 : va_E} {ts pl lo ri la wk tw sf : Nat} {rl rr re : Int32} {rw rt rs ac : Nat} {sd : Int64} {ce sa ti : Nat} {h so ho pa wa at_ fo r : Nat → Nat} (hg : gOK h so ho pa wa wk tw lo ri la) (hS : mSf sf so) (hT : tOK tw at_ fo ho) (hrk : rOK r) {k j : Nat} (hk : k < 5) (hj : j ≤ 40) : Ct mX8_beginOf 5 [.ref 0, .int (nI k), .int (nI j)] (wM (kM 0 ts pl lo ri la wk tw sf rl rr re rw rt rs ac sd ce sa ti) e1 (kI 10 h) (kI 5 pa) (kI 5 wa) (kI 2 at_) (kI 2 fo) e7 e8 e9 e10 e11 (kI 16 (pgR r)) e13 e14 e15 e16 e17) (fun v u => v = some (.int (rO (sLast (fun s => decide (sArr h so la ri (pa k) (wa k) lo 1 0 s = some j)) 41))) ∧ ∃ ce2 sa2 ti2 : Nat, u = wM (kM 0 ts pl lo ri la wk tw sf rl rr re rw rt rs ac sd ce2 sa2 ti2) e1 (kI 10 h) (kI 5 pa) (kI 5 wa) (kI 2 at_) (kI 2 fo) e7 e8 e9 e10 e11 (kI 16 (pgR r)) e13 e14 e15 e16 e17) := by
  refine Ct.of (by decide) (by exact Nat.le_of_ble_eq_true rfl) ?_
  show Go mX8_beginOf 5 0 [(0, .ref 0), (1, .int (nI k)), (2, .int (nI j))] [] (wM (kM 0 ts pl lo ri la wk tw sf rl rr re rw rt rs ac sd ce sa ti) e1 (kI 10 h) (kI 5 pa) (kI 5 wa) (kI 2 at_) (kI 2 fo) e7 e8 e9 e10 e11 (kI 16 (pgR r)) e13 e14 e15 e16 e17) (fun v u => v = some (.int (rO (sLast (fun s => decide (sArr h so la ri (pa k) (wa k) lo 1 0 s = some j)) 41))) ∧ ∃ ce2 sa2 ti2 : Nat, u = wM (kM 0 ts pl lo ri la wk tw sf rl rr re rw rt rs ac sd ce2 sa2 ti2) e1 (kI 10 h) (kI 5 pa) (kI 5 wa) (kI 2 at_) (kI 2 fo) e7 e8 e9 e10 e11 (kI 16 (pgR r)) e13 e14 e15 e16 e17)
  refine g_bipush (v := (-9)) dX8_beginOf_0 (by decide) ?_
  refine g_istore_n (i := 3) (lv' := [(3, .int (-9)), (0, .ref 0), (1, .int (nI k)), (2, .int (nI j))]) dX8_beginOf_2 rfl (by decide) rfl ?_
  refine g_iconst (v := nI 0) dX8_beginOf_3 (by decide) ?_
  refine g_istore (lv' := [(4, .int (nI 0)), (3, .int (-9)), (0, .ref 0), (1, .int (nI k)), (2, .int (nI j))]) dX8_beginOf_4 (by decide) rfl ?_
  refine g_lv [2, 3, 4, 1, 0] rfl ?_
  exact lp_mbegin hg hS hT hrk hk hj 41 0 _ _ _ (by omega)

theorem lp_mfaI {e1 e7 e8 e9 e10 e11 e13 e14 e15 e16 e17 : va_E} {ts pl lo ri la wk tw sf : Nat} {rl rr re : Int32} {rw rt rs ac : Nat} {sd : Int64} {h so ho pa wa at_ fo r : Nat → Nat} (hg : gOK h so ho pa wa wk tw lo ri la) (hS : mSf sf so) (hT : tOK tw at_ fo ho) (hrk : rOK r) {j : Nat} {R : Option Nat} (hj : j ≤ 40) (hwk : wk ≤ 5) (hy : (∀ w, w < wk → sCan h so la ri (pa w) (wa w) lo 41 j = true) → R = some j)
    (kn : (¬ ∀ w, w < wk → sCan h so la ri (pa w) (wa w) lo 41 j = true) → ∀ ce sa ti : Nat, Go mX8_findAhead 6 53 [(0, .ref 0), (1, .int (nI j))] [] (wM (kM 0 ts pl lo ri la wk tw sf rl rr re rw rt rs ac sd ce sa ti) e1 (kI 10 h) (kI 5 pa) (kI 5 wa) (kI 2 at_) (kI 2 fo) e7 e8 e9 e10 e11 (kI 16 (pgR r)) e13 e14 e15 e16 e17) (fun v u => v = some (.int (rO R)) ∧ ∃ ce2 sa2 ti2 : Nat, u = wM (kM 0 ts pl lo ri la wk tw sf rl rr re rw rt rs ac sd ce2 sa2 ti2) e1 (kI 10 h) (kI 5 pa) (kI 5 wa) (kI 2 at_) (kI 2 fo) e7 e8 e9 e10 e11 (kI 16 (pgR r)) e13 e14 e15 e16 e17)) :
    ∀ (n w ce sa ti : Nat), w + n = wk → (∀ i, i < w → sCan h so la ri (pa i) (wa i) lo 41 j = true) → Go mX8_findAhead 6 12 [(0, .ref 0), (1, .int (nI j)), (2, .int (nI 1)), (3, .int (nI w))] [] (wM (kM 0 ts pl lo ri la wk tw sf rl rr re rw rt rs ac sd ce sa ti) e1 (kI 10 h) (kI 5 pa) (kI 5 wa) (kI 2 at_) (kI 2 fo) e7 e8 e9 e10 e11 (kI 16 (pgR r)) e13 e14 e15 e16 e17) (fun v u => v = some (.int (rO R)) ∧ ∃ ce2 sa2 ti2 : Nat, u = wM (kM 0 ts pl lo ri la wk tw sf rl rr re rw rt rs ac sd ce2 sa2 ti2) e1 (kI 10 h) (kI 5 pa) (kI 5 wa) (kI 2 at_) (kI 2 fo) e7 e8 e9 e10 e11 (kI 16 (pgR r)) e13 e14 e15 e16 e17) := by
  intro n
  induction n with
  | zero =>
    intro w ce sa ti hw hi
    obtain rfl : w = wk := by omega
    refine g_iload_n (i := 3) (j := 3) dX8_findAhead_12 rfl rfl ?_
    refine g_aload_n (i := 0) (j := 0) dX8_findAhead_13 rfl rfl ?_
    refine g_get fX8_70 rfl rfl dX8_findAhead_14 ?_
    refine n_icmp_ge (tgt := 47) (by omega) (by omega) dX8_findAhead_17 (by decide) (fun h17 => ?_) (fun h17 => ?_)
    · refine g_iload_n (i := 2) (j := 2) dX8_findAhead_47 rfl rfl ?_
      refine n_if_eq (tgt := 53) (rng_lit 1 rfl) dX8_findAhead_48 (by decide) (fun h48 => ?_) (fun h48 => ?_)
      · exact absurd h48 (by decide)
      · refine g_iload_n (i := 1) (j := 1) dX8_findAhead_51 rfl rfl ?_
        refine g_iret rfl rfl dX8_findAhead_52 ?_
        refine ⟨?_, _, _, _, rfl⟩
        rw [hy hi]; rfl
    · exfalso; omega

  | succ n ih =>
    intro w ce sa ti hw hi
    refine g_iload_n (i := 3) (j := 3) dX8_findAhead_12 rfl rfl ?_
    refine g_aload_n (i := 0) (j := 0) dX8_findAhead_13 rfl rfl ?_
    refine g_get fX8_70 rfl rfl dX8_findAhead_14 ?_
    refine n_icmp_ge (tgt := 47) (by omega) (by omega) dX8_findAhead_17 (by decide) (fun h17 => ?_) (fun h17 => ?_)
    · exfalso; omega
    · refine g_iload_n (i := 2) (j := 2) dX8_findAhead_20 rfl rfl ?_
      refine n_if_eq (tgt := 47) (rng_lit 1 rfl) dX8_findAhead_21 (by decide) (fun h21 => ?_) (fun h21 => ?_)
      · exact absurd h21 (by decide)
      · refine g_aload_n (i := 0) (j := 0) dX8_findAhead_24 rfl rfl ?_
        refine g_iload_n (i := 3) (j := 3) dX8_findAhead_25 rfl rfl ?_
        refine g_iload_n (i := 1) (j := 1) dX8_findAhead_26 rfl rfl ?_
        refine g_callV (rest := []) (ctX8_beginOf (k := w) (j := j) hg hS hT hrk (by omega) (by omega)) kX8_beginOf lX8_214 (by decide) rfl rfl rfl rfl (by exact Nat.le_of_ble_eq_true rfl) dX8_findAhead_27 rfl (fun v u hvu => ?_)
        obtain ⟨rfl, ce27, sa27, ti27, rfl⟩ := hvu
        refine g_st (st' := [.int (rO (sLast (fun s => decide (sArr h so la ri (pa w) (wa w) lo 1 0 s = some j)) 41))]) rfl ?_
        refine g_bipush (v := (-9)) dX8_findAhead_30 (by decide) ?_
        refine g_icmp_eq (tgt := 39) dX8_findAhead_32 (by decide) (fun h32 => ?_) (fun h32 => ?_)
        · rw [rO_none (fun s e => sLast_le e)] at h32
          have hc : ¬ sCan h so la ri (pa w) (wa w) lo 41 j = true := by
            unfold sCan; rw [← sLast_any, h32]; simp
          refine g_iconst (v := nI 0) dX8_findAhead_39 (by decide) ?_
          refine g_istore_n (i := 2) (lv' := [(2, .int (nI 0)), (0, .ref 0), (1, .int (nI j)), (3, .int (nI w))]) dX8_findAhead_40 rfl (by decide) rfl ?_
          refine n_inc (x := w) (j := 3) (lv' := [(3, .int (nI (w + 1))), (2, .int (nI 0)), (0, .ref 0), (1, .int (nI j))]) dX8_findAhead_41 rfl (by decide) rfl ?_
          refine g_goto (tgt := 12) dX8_findAhead_44 (by decide) ?_
          refine g_iload_n (i := 3) (j := 0) dX8_findAhead_12 rfl rfl ?_
          refine g_aload_n (i := 0) (j := 2) dX8_findAhead_13 rfl rfl ?_
          refine g_get fX8_70 rfl rfl dX8_findAhead_14 ?_
          refine n_icmp_ge (tgt := 47) (by omega) (by omega) dX8_findAhead_17 (by decide) (fun h17 => ?_) (fun h17 => ?_)
          · refine g_iload_n (i := 2) (j := 1) dX8_findAhead_47 rfl rfl ?_
            refine n_if_eq (tgt := 53) (rng_lit 0 rfl) dX8_findAhead_48 (by decide) (fun h48 => ?_) (fun h48 => ?_)
            · refine g_lv [2, 3] rfl ?_
              exact kn (fun z => hc (z w (by omega))) _ _ _
            · exact absurd h48 (by decide)
          · refine g_iload_n (i := 2) (j := 1) dX8_findAhead_20 rfl rfl ?_
            refine n_if_eq (tgt := 47) (rng_lit 0 rfl) dX8_findAhead_21 (by decide) (fun h21 => ?_) (fun h21 => ?_)
            · refine g_iload_n (i := 2) (j := 1) dX8_findAhead_47 rfl rfl ?_
              refine n_if_eq (tgt := 53) (rng_lit 0 rfl) dX8_findAhead_48 (by decide) (fun h48 => ?_) (fun h48 => ?_)
              · refine g_lv [2, 3] rfl ?_
                exact kn (fun z => hc (z w (by omega))) _ _ _
              · exact absurd h48 (by decide)
            · exact absurd h21 (by decide)
        · rw [rO_none (fun s e => sLast_le e)] at h32
          have hc : sCan h so la ri (pa w) (wa w) lo 41 j = true := by
            unfold sCan; rw [← sLast_any]; exact isSome_t h32
          refine g_iconst (v := nI 1) dX8_findAhead_35 (by decide) ?_
          refine g_goto (tgt := 40) dX8_findAhead_36 (by decide) ?_
          refine g_istore_n (i := 2) (lv' := [(2, .int (nI 1)), (0, .ref 0), (1, .int (nI j)), (3, .int (nI w))]) dX8_findAhead_40 rfl (by decide) rfl ?_
          refine n_inc (x := w) (j := 3) (lv' := [(3, .int (nI (w + 1))), (2, .int (nI 1)), (0, .ref 0), (1, .int (nI j))]) dX8_findAhead_41 rfl (by decide) rfl ?_
          refine g_goto (tgt := 12) dX8_findAhead_44 (by decide) ?_
          refine g_lv [2, 3, 1, 0] rfl ?_
          refine ih (w + 1) _ _ _ (by omega) (fun i h1 => ?_)
          rcases Nat.lt_or_ge i w with h2 | h2
          · exact hi i h2
          · obtain rfl : i = w := by omega
            exact hc

theorem lp_mfaO {e1 e7 e8 e9 e10 e11 e13 e14 e15 e16 e17 : va_E} {ts pl lo ri la wk tw sf : Nat} {rl rr re : Int32} {rw rt rs ac : Nat} {sd : Int64} {h so ho pa wa at_ fo r : Nat → Nat} (hg : gOK h so ho pa wa wk tw lo ri la) (hS : mSf sf so) (hT : tOK tw at_ fo ho) (hrk : rOK r) : ∀ (n j ce sa ti : Nat), j + n = 41 → Go mX8_findAhead 6 2 [(0, .ref 0), (1, .int (nI j))] [] (wM (kM 0 ts pl lo ri la wk tw sf rl rr re rw rt rs ac sd ce sa ti) e1 (kI 10 h) (kI 5 pa) (kI 5 wa) (kI 2 at_) (kI 2 fo) e7 e8 e9 e10 e11 (kI 16 (pgR r)) e13 e14 e15 e16 e17) (fun v u => v = some (.int (rO (sFirst (fun j => sAll (fun w => sCan h so la ri (pa w) (wa w) lo 41 j) wk) n j))) ∧ ∃ ce2 sa2 ti2 : Nat, u = wM (kM 0 ts pl lo ri la wk tw sf rl rr re rw rt rs ac sd ce2 sa2 ti2) e1 (kI 10 h) (kI 5 pa) (kI 5 wa) (kI 2 at_) (kI 2 fo) e7 e8 e9 e10 e11 (kI 16 (pgR r)) e13 e14 e15 e16 e17) := by
  intro n
  have hwk : wk ≤ 5 := hg.2.2.2.2.2.1
  induction n with
  | zero =>
    intro j ce sa ti hj
    refine g_iload_n (i := 1) (j := 1) dX8_findAhead_2 rfl rfl ?_
    refine g_bipush (v := nI 40) dX8_findAhead_3 (by decide) ?_
    refine n_icmp_gt (tgt := 59) (by omega) (rng_lit 40 rfl) dX8_findAhead_5 (by decide) (fun h5 => ?_) (fun h5 => ?_)
    · refine g_bipush (v := (-9)) dX8_findAhead_59 (by decide) ?_
      refine g_iret rfl rfl dX8_findAhead_61 ?_
      exact ⟨rfl, _, _, _, rfl⟩
    · exfalso; omega

  | succ n ih =>
    intro j ce sa ti hj
    refine g_iload_n (i := 1) (j := 1) dX8_findAhead_2 rfl rfl ?_
    refine g_bipush (v := nI 40) dX8_findAhead_3 (by decide) ?_
    refine n_icmp_gt (tgt := 59) (by omega) (rng_lit 40 rfl) dX8_findAhead_5 (by decide) (fun h5 => ?_) (fun h5 => ?_)
    · exfalso; omega
    · refine g_iconst (v := nI 1) dX8_findAhead_8 (by decide) ?_
      refine g_istore_n (i := 2) (lv' := [(2, .int (nI 1)), (0, .ref 0), (1, .int (nI j))]) dX8_findAhead_9 rfl (by decide) rfl ?_
      refine g_iconst (v := nI 0) dX8_findAhead_10 (by decide) ?_
      refine g_istore_n (i := 3) (lv' := [(3, .int (nI 0)), (2, .int (nI 1)), (0, .ref 0), (1, .int (nI j))]) dX8_findAhead_11 rfl (by decide) rfl ?_
      refine g_lv [2, 3, 1, 0] rfl ?_
      refine lp_mfaI hg hS hT hrk (by omega) hwk ?_ (fun hno ce3 sa3 ti3 => ?_) wk 0 _ _ _ (by omega) (fun i hi => absurd hi (by omega))
      · intro z
        rw [sFirst, if_pos (sAll_t.mpr z)]
      · refine n_inc (x := j) (j := 1) (lv' := [(1, .int (nI (j + 1))), (0, .ref 0)]) dX8_findAhead_53 rfl (by decide) rfl ?_
        refine g_goto (tgt := 2) dX8_findAhead_56 (by decide) ?_
        refine g_lv [1, 0] rfl ?_
        rw [sFirst, if_neg (fun z => hno (sAll_t.mp z))]
        exact ih (j + 1) _ _ _ (by omega)

theorem ctX8_findAhead {e1 e7 e8 e9 e10 e11 e13 e14 e15 e16 e17 : va_E} {ts pl lo ri la wk tw sf : Nat} {rl rr re : Int32} {rw rt rs ac : Nat} {sd : Int64} {ce sa ti : Nat} {h so ho pa wa at_ fo r : Nat → Nat} (hg : gOK h so ho pa wa wk tw lo ri la) (hS : mSf sf so) (hT : tOK tw at_ fo ho) (hrk : rOK r) : Ct mX8_findAhead 6 [.ref 0] (wM (kM 0 ts pl lo ri la wk tw sf rl rr re rw rt rs ac sd ce sa ti) e1 (kI 10 h) (kI 5 pa) (kI 5 wa) (kI 2 at_) (kI 2 fo) e7 e8 e9 e10 e11 (kI 16 (pgR r)) e13 e14 e15 e16 e17) (fun v u => v = some (.int (rO (sMeet h so pa wa wk lo ri la))) ∧ ∃ ce2 sa2 ti2 : Nat, u = wM (kM 0 ts pl lo ri la wk tw sf rl rr re rw rt rs ac sd ce2 sa2 ti2) e1 (kI 10 h) (kI 5 pa) (kI 5 wa) (kI 2 at_) (kI 2 fo) e7 e8 e9 e10 e11 (kI 16 (pgR r)) e13 e14 e15 e16 e17) := by
  refine Ct.of (by decide) (by exact Nat.le_of_ble_eq_true rfl) ?_
  show Go mX8_findAhead 6 0 [(0, .ref 0)] [] (wM (kM 0 ts pl lo ri la wk tw sf rl rr re rw rt rs ac sd ce sa ti) e1 (kI 10 h) (kI 5 pa) (kI 5 wa) (kI 2 at_) (kI 2 fo) e7 e8 e9 e10 e11 (kI 16 (pgR r)) e13 e14 e15 e16 e17) (fun v u => v = some (.int (rO (sMeet h so pa wa wk lo ri la))) ∧ ∃ ce2 sa2 ti2 : Nat, u = wM (kM 0 ts pl lo ri la wk tw sf rl rr re rw rt rs ac sd ce2 sa2 ti2) e1 (kI 10 h) (kI 5 pa) (kI 5 wa) (kI 2 at_) (kI 2 fo) e7 e8 e9 e10 e11 (kI 16 (pgR r)) e13 e14 e15 e16 e17)
  refine g_iconst (v := nI 0) dX8_findAhead_0 (by decide) ?_
  refine g_istore_n (i := 1) (lv' := [(1, .int (nI 0)), (0, .ref 0)]) dX8_findAhead_1 rfl (by decide) rfl ?_
  refine g_lv [1, 0] rfl ?_
  exact lp_mfaO hg hS hT hrk 41 0 _ _ _ (by omega)

theorem ctX8_ahead {e1 e7 e8 e9 e10 e11 e13 e14 e15 e16 e17 : va_E} {ts pl lo ri la wk tw sf : Nat} {rl rr re : Int32} {rw rt rs ac : Nat} {sd : Int64} {ce sa ti : Nat} {h so ho pa wa at_ fo r : Nat → Nat} (hg : gOK h so ho pa wa wk tw lo ri la) (hS : mSf sf so) (hT : tOK tw at_ fo ho) (hrk : rOK r) : Ct mX8_ahead 7 [.ref 0] (wM (kM 0 ts pl lo ri la wk tw sf rl rr re rw rt rs ac sd ce sa ti) e1 (kI 10 h) (kI 5 pa) (kI 5 wa) (kI 2 at_) (kI 2 fo) e7 e8 e9 e10 e11 (kI 16 (pgR r)) e13 e14 e15 e16 e17) (fun v u => v = some (.int (if wk = 0 then -3 else rO (sMeet h so pa wa wk lo ri la))) ∧ ∃ ce2 sa2 ti2 : Nat, u = wM (kM 0 ts pl lo ri la wk tw sf rl rr re rw rt rs ac sd ce2 sa2 ti2) e1 (kI 10 h) (kI 5 pa) (kI 5 wa) (kI 2 at_) (kI 2 fo) e7 e8 e9 e10 e11 (kI 16 (pgR r)) e13 e14 e15 e16 e17) := by
  refine Ct.of (by decide) (by exact Nat.le_of_ble_eq_true rfl) ?_
  show Go mX8_ahead 7 0 [(0, .ref 0)] [] (wM (kM 0 ts pl lo ri la wk tw sf rl rr re rw rt rs ac sd ce sa ti) e1 (kI 10 h) (kI 5 pa) (kI 5 wa) (kI 2 at_) (kI 2 fo) e7 e8 e9 e10 e11 (kI 16 (pgR r)) e13 e14 e15 e16 e17) (fun v u => v = some (.int (if wk = 0 then -3 else rO (sMeet h so pa wa wk lo ri la))) ∧ ∃ ce2 sa2 ti2 : Nat, u = wM (kM 0 ts pl lo ri la wk tw sf rl rr re rw rt rs ac sd ce2 sa2 ti2) e1 (kI 10 h) (kI 5 pa) (kI 5 wa) (kI 2 at_) (kI 2 fo) e7 e8 e9 e10 e11 (kI 16 (pgR r)) e13 e14 e15 e16 e17)
  have hwk : wk ≤ 5 := hg.2.2.2.2.2.1
  refine g_aload_n (i := 0) (j := 0) dX8_ahead_0 rfl rfl ?_
  refine g_iconst (v := nI 0) dX8_ahead_1 (by decide) ?_
  refine n_putI (ws' := wM (kM 0 ts pl lo ri la wk tw sf rl rr re rw rt rs ac sd ce sa ti) e1 (kI 10 h) (kI 5 pa) (kI 5 wa) (kI 2 at_) (kI 2 fo) e7 e8 e9 e10 e11 (kI 16 (pgR r)) e13 e14 e15 e16 e17) fX8_67 fp_X8_0 rfl (by exact Nat.le_of_ble_eq_true rfl) dX8_ahead_2 rfl ?_
  refine g_aload_n (i := 0) (j := 0) dX8_ahead_5 rfl rfl ?_
  refine g_get fX8_70 rfl rfl dX8_ahead_6 ?_
  refine n_if_ne (tgt := 17) (by omega) dX8_ahead_9 (by decide) (fun h9 => ?_) (fun h9 => ?_)
  · refine g_aload_n (i := 0) (j := 0) dX8_ahead_17 rfl rfl ?_
    refine g_callV (rest := []) (ctX8_findAhead  hg hS hT hrk) kX8_findAhead lX8_217 (by decide) rfl rfl rfl rfl (by exact Nat.le_of_ble_eq_true rfl) dX8_ahead_18 rfl (fun v u hvu => ?_)
    obtain ⟨rfl, ce18, sa18, ti18, rfl⟩ := hvu
    refine g_st (st' := [.int (rO (sMeet h so pa wa wk lo ri la))]) rfl ?_
    refine g_iret rfl rfl dX8_ahead_21 ?_
    refine ⟨?_, _, _, _, rfl⟩
    first | rw [if_pos h9] | rw [if_neg h9]
  · refine g_bipush (v := (-3)) dX8_ahead_12 (by decide) ?_
    refine g_goto (tgt := 21) dX8_ahead_14 (by decide) ?_
    refine g_iret rfl rfl dX8_ahead_21 ?_
    refine ⟨?_, _, _, _, rfl⟩
    first | rw [if_pos h9] | rw [if_neg h9]

theorem sMeet_le {h so pa wa : Nat → Nat} {wk lo ri la j : Nat} (e : sMeet h so pa wa wk lo ri la = some j) : j ≤ 40 := by have := sFirst_lt e; omega
theorem ctX8_aheadOf {e1 e7 e8 e9 e10 e11 e13 e14 e15 e16 e17 : va_E} {ts pl lo ri la wk tw sf : Nat} {rl rr re : Int32} {rw rt rs ac : Nat} {sd : Int64} {ce sa ti : Nat} {h so ho pa wa at_ fo r : Nat → Nat} (hg : gOK h so ho pa wa wk tw lo ri la) (hS : mSf sf so) (hT : tOK tw at_ fo ho) (hrk : rOK r) {k0 : Int32} : Ct mX8_aheadOf 7 [.ref 0, .int k0] (wM (kM 0 ts pl lo ri la wk tw sf rl rr re rw rt rs ac sd ce sa ti) e1 (kI 10 h) (kI 5 pa) (kI 5 wa) (kI 2 at_) (kI 2 fo) e7 e8 e9 e10 e11 (kI 16 (pgR r)) e13 e14 e15 e16 e17) (fun v u => v = some (.int (pAheadOf h so pa wa wk lo ri la k0)) ∧ ∃ ce2 sa2 ti2 : Nat, u = wM (kM 0 ts pl lo ri la wk tw sf rl rr re rw rt rs ac sd ce2 sa2 ti2) e1 (kI 10 h) (kI 5 pa) (kI 5 wa) (kI 2 at_) (kI 2 fo) e7 e8 e9 e10 e11 (kI 16 (pgR r)) e13 e14 e15 e16 e17) := by
  refine Ct.of (by decide) (by exact Nat.le_of_ble_eq_true rfl) ?_
  show Go mX8_aheadOf 7 0 [(0, .ref 0), (1, .int k0)] [] (wM (kM 0 ts pl lo ri la wk tw sf rl rr re rw rt rs ac sd ce sa ti) e1 (kI 10 h) (kI 5 pa) (kI 5 wa) (kI 2 at_) (kI 2 fo) e7 e8 e9 e10 e11 (kI 16 (pgR r)) e13 e14 e15 e16 e17) (fun v u => v = some (.int (pAheadOf h so pa wa wk lo ri la k0)) ∧ ∃ ce2 sa2 ti2 : Nat, u = wM (kM 0 ts pl lo ri la wk tw sf rl rr re rw rt rs ac sd ce2 sa2 ti2) e1 (kI 10 h) (kI 5 pa) (kI 5 wa) (kI 2 at_) (kI 2 fo) e7 e8 e9 e10 e11 (kI 16 (pgR r)) e13 e14 e15 e16 e17)
  have hg0 := hg
  obtain ⟨hH, hso, hho, hpa, hwa, hwk, htw, hlo, hri, hla⟩ := hg0
  have hrk0 := hrk
  obtain ⟨hr, hr1, hr6, hr11⟩ := hrk0
  refine g_aload_n (i := 0) (j := 0) dX8_aheadOf_0 rfl rfl ?_
  refine g_iconst (v := nI 0) dX8_aheadOf_1 (by decide) ?_
  refine n_putI (ws' := wM (kM 0 ts pl lo ri la wk tw sf rl rr re rw rt rs ac sd ce sa ti) e1 (kI 10 h) (kI 5 pa) (kI 5 wa) (kI 2 at_) (kI 2 fo) e7 e8 e9 e10 e11 (kI 16 (pgR r)) e13 e14 e15 e16 e17) fX8_67 fp_X8_0 rfl (by exact Nat.le_of_ble_eq_true rfl) dX8_aheadOf_2 rfl ?_
  refine g_aload_n (i := 0) (j := 0) dX8_aheadOf_5 rfl rfl ?_
  refine g_iload_n (i := 1) (j := 1) dX8_aheadOf_6 rfl rfl ?_
  refine c_V (st1 := [.int (nI (bN (¬ iW k0 wk)))]) (ctX8_noOne  (by omega)) kX8_noOne lX8_174 (by decide) rfl rfl rfl rfl (by exact Nat.le_of_ble_eq_true rfl) dX8_aheadOf_7 rfl rfl ?_
  refine b_if_eq (tgt := 15) dX8_aheadOf_10 (by decide) (fun h10 => ?_) (fun h10 => ?_)
  · obtain ⟨k, hk, rfl⟩ := raw_lt (Decidable.not_not.mp h10)
    have ek : cN (nI k) = k := cN_n (by omega)
    have ik : iW (nI k) wk := (iW_n (by omega)).mpr hk
    have q1 := hr1 k (by omega)
    have q6 := hr6 k (by omega)
    have q11 := hr11 k (by omega)
    have q0 := hr 0
    refine g_aload_n (i := 0) (j := 0) dX8_aheadOf_15 rfl rfl ?_
    refine g_callV (rest := []) (ctX8_findAhead  hg hS hT hrk) kX8_findAhead lX8_217 (by decide) rfl rfl rfl rfl (by exact Nat.le_of_ble_eq_true rfl) dX8_aheadOf_16 rfl (fun v u hvu => ?_)
    obtain ⟨rfl, ce16, sa16, ti16, rfl⟩ := hvu
    refine g_st (st' := [.int (rO (sMeet h so pa wa wk lo ri la))]) rfl ?_
    refine g_istore_n (i := 2) (lv' := [(2, .int (rO (sMeet h so pa wa wk lo ri la))), (0, .ref 0), (1, .int (nI k))]) dX8_aheadOf_19 rfl (by decide) rfl ?_
    rcases hm : sMeet h so pa wa wk lo ri la with _ | j
    · skip
      refine g_iload_n (i := 2) (j := 0) dX8_aheadOf_20 rfl rfl ?_
      refine g_bipush (v := (-9)) dX8_aheadOf_21 (by decide) ?_
      refine g_icmp_ne (tgt := 31) dX8_aheadOf_23 (by decide) (fun h23 => ?_) (fun h23 => ?_)
      · exact absurd rfl h23
      · refine g_bipush (v := (-9)) dX8_aheadOf_26 (by decide) ?_
        refine g_goto (tgt := 37) dX8_aheadOf_28 (by decide) ?_
        refine g_iret rfl rfl dX8_aheadOf_37 ?_
        refine ⟨?_, _, _, _, rfl⟩
        unfold pAheadOf
        rw [if_pos ik, hm]
    · have hj := sMeet_le hm
      refine g_iload_n (i := 2) (j := 0) dX8_aheadOf_20 rfl rfl ?_
      refine g_bipush (v := (-9)) dX8_aheadOf_21 (by decide) ?_
      refine g_icmp_ne (tgt := 31) dX8_aheadOf_23 (by decide) (fun h23 => ?_) (fun h23 => ?_)
      · refine g_aload_n (i := 0) (j := 1) dX8_aheadOf_31 rfl rfl ?_
        refine g_iload_n (i := 1) (j := 2) dX8_aheadOf_32 rfl rfl ?_
        refine g_iload_n (i := 2) (j := 0) dX8_aheadOf_33 rfl rfl ?_
        refine g_callV (rest := []) (ctX8_beginOf (k := k) (j := j) hg hS hT hrk (by omega) (by omega)) kX8_beginOf lX8_214 (by decide) rfl rfl rfl rfl (by exact Nat.le_of_ble_eq_true rfl) dX8_aheadOf_34 rfl (fun v u hvu => ?_)
        obtain ⟨rfl, ce34, sa34, ti34, rfl⟩ := hvu
        refine g_st (st' := [.int (rO (sLast (fun s => decide (sArr h so la ri (pa k) (wa k) lo 1 0 s = some j)) 41))]) rfl ?_
        refine g_iret rfl rfl dX8_aheadOf_37 ?_
        refine ⟨?_, _, _, _, rfl⟩
        unfold pAheadOf
        rw [if_pos ik, hm, ek]
      · exact absurd h23 (nI_n9 (by omega))
  · refine g_iconst (v := (-1)) dX8_aheadOf_13 (by decide) ?_
    refine g_iret rfl rfl dX8_aheadOf_14 ?_
    refine ⟨?_, _, _, _, rfl⟩
    unfold pAheadOf
    rw [if_neg h10]

theorem ctX8_isSaved {e1 e7 e8 e9 e10 e11 e13 e14 e15 e16 e17 : va_E} {ts pl lo ri la wk tw sf : Nat} {rl rr re : Int32} {rw rt rs ac : Nat} {sd : Int64} {ce sa ti : Nat} {h so ho pa wa at_ fo r : Nat → Nat} (hg : gOK h so ho pa wa wk tw lo ri la) (hS : mSf sf so) (hT : tOK tw at_ fo ho) (hrk : rOK r) {k : Nat} (hk : k < 5) : Ct mX8_isSaved 5 [.ref 0, .int (nI k)] (wM (kM 0 ts pl lo ri la wk tw sf rl rr re rw rt rs ac sd ce sa ti) e1 (kI 10 h) (kI 5 pa) (kI 5 wa) (kI 2 at_) (kI 2 fo) e7 e8 e9 e10 e11 (kI 16 (pgR r)) e13 e14 e15 e16 e17) (fun v u => v = some (.int (nI (bN (sLiv h so pa wa la ri lo r k = true)))) ∧ ∃ ce2 sa2 ti2 : Nat, u = wM (kM 0 ts pl lo ri la wk tw sf rl rr re rw rt rs ac sd ce2 sa2 ti2) e1 (kI 10 h) (kI 5 pa) (kI 5 wa) (kI 2 at_) (kI 2 fo) e7 e8 e9 e10 e11 (kI 16 (pgR r)) e13 e14 e15 e16 e17) := by
  refine Ct.of (by decide) (by exact Nat.le_of_ble_eq_true rfl) ?_
  show Go mX8_isSaved 5 0 [(0, .ref 0), (1, .int (nI k))] [] (wM (kM 0 ts pl lo ri la wk tw sf rl rr re rw rt rs ac sd ce sa ti) e1 (kI 10 h) (kI 5 pa) (kI 5 wa) (kI 2 at_) (kI 2 fo) e7 e8 e9 e10 e11 (kI 16 (pgR r)) e13 e14 e15 e16 e17) (fun v u => v = some (.int (nI (bN (sLiv h so pa wa la ri lo r k = true)))) ∧ ∃ ce2 sa2 ti2 : Nat, u = wM (kM 0 ts pl lo ri la wk tw sf rl rr re rw rt rs ac sd ce2 sa2 ti2) e1 (kI 10 h) (kI 5 pa) (kI 5 wa) (kI 2 at_) (kI 2 fo) e7 e8 e9 e10 e11 (kI 16 (pgR r)) e13 e14 e15 e16 e17)
  obtain ⟨hH, hso, hho, hpa, hwa, hwk, htw, hlo, hri, hla⟩ := hg
  have hrk0 := hrk
  obtain ⟨hr, hr1, hr6, hr11⟩ := hrk0
  have q11 := hr11 k hk
  have q1 := hr1 k hk
  have q0 := hr 0
  refine g_aload_n (i := 0) (j := 0) dX8_isSaved_0 rfl rfl ?_
  refine g_get fX8_47 rfl rfl dX8_isSaved_1 ?_
  refine g_iconst (v := nI 3) dX8_isSaved_4 (by decide) ?_
  refine g_iload_n (i := 1) (j := 1) dX8_isSaved_5 rfl rfl ?_
  refine n_imul (a := 3) (b := k) dX8_isSaved_6 ?_
  refine g_iconst (v := nI 2) dX8_isSaved_7 (by decide) ?_
  refine n_iadd (a := (3 * k)) (b := 2) dX8_isSaved_8 ?_
  refine n_iald (x := ((3 * k) + 2)) rfl (by omega) (rng_lit 16 rfl) dX8_isSaved_9 ?_
  refine g_topi (y := nI (r (11 + k))) (by rw [pg_2 (by omega)]) ?_
  refine g_istore_n (i := 2) (lv' := [(2, .int (nI (r (11 + k)))), (0, .ref 0), (1, .int (nI k))]) dX8_isSaved_10 rfl (by decide) rfl ?_
  refine g_iload_n (i := 2) (j := 0) dX8_isSaved_11 rfl rfl ?_
  refine n_if_eq (tgt := 31) (by omega) dX8_isSaved_12 (by decide) (fun h12 => ?_) (fun h12 => ?_)
  · refine g_aload_n (i := 0) (j := 1) dX8_isSaved_31 rfl rfl ?_
    refine g_iload_n (i := 1) (j := 2) dX8_isSaved_32 rfl rfl ?_
    refine g_aload_n (i := 0) (j := 1) dX8_isSaved_33 rfl rfl ?_
    refine g_get fX8_47 rfl rfl dX8_isSaved_34 ?_
    refine g_iconst (v := nI 3) dX8_isSaved_37 (by decide) ?_
    refine g_iload_n (i := 1) (j := 2) dX8_isSaved_38 rfl rfl ?_
    refine n_imul (a := 3) (b := k) dX8_isSaved_39 ?_
    refine n_iald (x := (3 * k)) rfl (by omega) (rng_lit 16 rfl) dX8_isSaved_40 ?_
    refine g_topi (y := nI (r (1 + k))) (by rw [pg_0 (by omega)]) ?_
    refine g_aload_n (i := 0) (j := 1) dX8_isSaved_41 rfl rfl ?_
    refine g_get fX8_47 rfl rfl dX8_isSaved_42 ?_
    refine g_bipush (v := nI 15) dX8_isSaved_45 (by decide) ?_
    refine n_iald (x := 15) rfl (by omega) (rng_lit 16 rfl) dX8_isSaved_47 ?_
    refine g_topi (y := nI (r 0)) (by rw [pg_t]) ?_
    refine g_iconst (v := nI 1) dX8_isSaved_48 (by decide) ?_
    refine g_aload_n (i := 0) (j := 1) dX8_isSaved_49 rfl rfl ?_
    refine g_get fX8_139 rfl rfl dX8_isSaved_50 ?_
    refine g_callV (rest := []) (ctX8_goneOf (w := k) (c := r (1 + k)) (s := r 0) (way := 1) (at0 := lo) hH hpa hwa (by omega) (by omega) hS (by first | omega | assumption | exact hpa _ | exact hwa _ | exact hr1 _ (by omega) | exact hr6 _ (by omega) | exact hr11 _ (by omega) | exact hr _ | exact Nat.le_succ_of_le (hr _) | (apply sTo_le; first | omega | exact hr1 _ (by omega))) (by first | omega | assumption | exact hpa _ | exact hwa _ | exact hr1 _ (by omega) | exact hr6 _ (by omega) | exact hr11 _ (by omega) | exact hr _ | exact Nat.le_succ_of_le (hr _) | (apply sTo_le; first | omega | exact hr1 _ (by omega))) (by first | omega | assumption | exact hpa _ | exact hwa _ | exact hr1 _ (by omega) | exact hr6 _ (by omega) | exact hr11 _ (by omega) | exact hr _ | exact Nat.le_succ_of_le (hr _) | (apply sTo_le; first | omega | exact hr1 _ (by omega))) (by first | omega | assumption | exact hpa _ | exact hwa _ | exact hr1 _ (by omega) | exact hr6 _ (by omega) | exact hr11 _ (by omega) | exact hr _ | exact Nat.le_succ_of_le (hr _) | (apply sTo_le; first | omega | exact hr1 _ (by omega))) (by first | omega | assumption | exact hpa _ | exact hwa _ | exact hr1 _ (by omega) | exact hr6 _ (by omega) | exact hr11 _ (by omega) | exact hr _ | exact Nat.le_succ_of_le (hr _) | (apply sTo_le; first | omega | exact hr1 _ (by omega))) (by first | omega | assumption | exact hpa _ | exact hwa _ | exact hr1 _ (by omega) | exact hr6 _ (by omega) | exact hr11 _ (by omega) | exact hr _ | exact Nat.le_succ_of_le (hr _) | (apply sTo_le; first | omega | exact hr1 _ (by omega)))) kX8_goneOf lX8_205 (by decide) rfl rfl rfl rfl (by exact Nat.le_of_ble_eq_true rfl) dX8_isSaved_53 rfl (fun v u hvu => ?_)
    obtain ⟨rfl, ce53, sa53, ti53, rfl⟩ := hvu
    refine g_st (st' := [.int (rO (sArr h so la ri (pa k) (wa k) lo 1 (r (1 + k)) (r 0)))]) rfl ?_
    refine g_bipush (v := (-9)) dX8_isSaved_56 (by decide) ?_
    refine g_icmp_ne (tgt := 91) dX8_isSaved_58 (by decide) (fun h58 => ?_) (fun h58 => ?_)
    · replace h58 := fun z => h58 ((sArr_ne (by omega)).mpr z)
      refine g_iconst (v := nI 1) dX8_isSaved_91 (by decide) ?_
      refine g_goto (tgt := 96) dX8_isSaved_92 (by decide) ?_
      refine g_iret rfl (by decide) dX8_isSaved_96 ?_
      refine ⟨?_, _, _, _, rfl⟩
      rw [bN_t (by unfold sLiv; first | (rw [decide_eq_true (by omega)]; rfl) | (rw [decide_eq_false (by omega), decide_eq_true h12]; unfold sSafeB; first | simp [isSome_t h58] | simp [isSome_t h88] | simp [isSome_f h58, isSome_f h88]) | (rw [decide_eq_false (by omega), decide_eq_false h12]; simp))]
    · replace h58 := (sArr_ne (by omega)).mp h58
      refine g_aload_n (i := 0) (j := 1) dX8_isSaved_61 rfl rfl ?_
      refine g_iload_n (i := 1) (j := 2) dX8_isSaved_62 rfl rfl ?_
      refine g_aload_n (i := 0) (j := 1) dX8_isSaved_63 rfl rfl ?_
      refine g_get fX8_47 rfl rfl dX8_isSaved_64 ?_
      refine g_iconst (v := nI 3) dX8_isSaved_67 (by decide) ?_
      refine g_iload_n (i := 1) (j := 2) dX8_isSaved_68 rfl rfl ?_
      refine n_imul (a := 3) (b := k) dX8_isSaved_69 ?_
      refine n_iald (x := (3 * k)) rfl (by omega) (rng_lit 16 rfl) dX8_isSaved_70 ?_
      refine g_topi (y := nI (r (1 + k))) (by rw [pg_0 (by omega)]) ?_
      refine g_aload_n (i := 0) (j := 1) dX8_isSaved_71 rfl rfl ?_
      refine g_get fX8_47 rfl rfl dX8_isSaved_72 ?_
      refine g_bipush (v := nI 15) dX8_isSaved_75 (by decide) ?_
      refine n_iald (x := 15) rfl (by omega) (rng_lit 16 rfl) dX8_isSaved_77 ?_
      refine g_topi (y := nI (r 0)) (by rw [pg_t]) ?_
      refine g_iconst (v := nI 2) dX8_isSaved_78 (by decide) ?_
      refine g_aload_n (i := 0) (j := 1) dX8_isSaved_79 rfl rfl ?_
      refine g_get fX8_139 rfl rfl dX8_isSaved_80 ?_
      refine g_callV (rest := []) (ctX8_goneOf (w := k) (c := r (1 + k)) (s := r 0) (way := 2) (at0 := lo) hH hpa hwa (by omega) (by omega) hS (by first | omega | assumption | exact hpa _ | exact hwa _ | exact hr1 _ (by omega) | exact hr6 _ (by omega) | exact hr11 _ (by omega) | exact hr _ | exact Nat.le_succ_of_le (hr _) | (apply sTo_le; first | omega | exact hr1 _ (by omega))) (by first | omega | assumption | exact hpa _ | exact hwa _ | exact hr1 _ (by omega) | exact hr6 _ (by omega) | exact hr11 _ (by omega) | exact hr _ | exact Nat.le_succ_of_le (hr _) | (apply sTo_le; first | omega | exact hr1 _ (by omega))) (by first | omega | assumption | exact hpa _ | exact hwa _ | exact hr1 _ (by omega) | exact hr6 _ (by omega) | exact hr11 _ (by omega) | exact hr _ | exact Nat.le_succ_of_le (hr _) | (apply sTo_le; first | omega | exact hr1 _ (by omega))) (by first | omega | assumption | exact hpa _ | exact hwa _ | exact hr1 _ (by omega) | exact hr6 _ (by omega) | exact hr11 _ (by omega) | exact hr _ | exact Nat.le_succ_of_le (hr _) | (apply sTo_le; first | omega | exact hr1 _ (by omega))) (by first | omega | assumption | exact hpa _ | exact hwa _ | exact hr1 _ (by omega) | exact hr6 _ (by omega) | exact hr11 _ (by omega) | exact hr _ | exact Nat.le_succ_of_le (hr _) | (apply sTo_le; first | omega | exact hr1 _ (by omega))) (by first | omega | assumption | exact hpa _ | exact hwa _ | exact hr1 _ (by omega) | exact hr6 _ (by omega) | exact hr11 _ (by omega) | exact hr _ | exact Nat.le_succ_of_le (hr _) | (apply sTo_le; first | omega | exact hr1 _ (by omega)))) kX8_goneOf lX8_205 (by decide) rfl rfl rfl rfl (by exact Nat.le_of_ble_eq_true rfl) dX8_isSaved_83 rfl (fun v u hvu => ?_)
      obtain ⟨rfl, ce83, sa83, ti83, rfl⟩ := hvu
      refine g_st (st' := [.int (rO (sArr h so la ri (pa k) (wa k) lo 2 (r (1 + k)) (r 0)))]) rfl ?_
      refine g_bipush (v := (-9)) dX8_isSaved_86 (by decide) ?_
      refine g_icmp_eq (tgt := 95) dX8_isSaved_88 (by decide) (fun h88 => ?_) (fun h88 => ?_)
      · replace h88 := (sArr_ne (by omega)).mp h88
        refine g_iconst (v := nI 0) dX8_isSaved_95 (by decide) ?_
        refine g_iret rfl (by decide) dX8_isSaved_96 ?_
        refine ⟨?_, _, _, _, rfl⟩
        rw [bN_f (by unfold sLiv; first | (rw [decide_eq_true (by omega)]; rfl) | (rw [decide_eq_false (by omega), decide_eq_true h12]; unfold sSafeB; first | simp [isSome_t h58] | simp [isSome_t h88] | simp [isSome_f h58, isSome_f h88]) | (rw [decide_eq_false (by omega), decide_eq_false h12]; simp))]
      · replace h88 := fun z => h88 ((sArr_ne (by omega)).mpr z)
        refine g_iconst (v := nI 1) dX8_isSaved_91 (by decide) ?_
        refine g_goto (tgt := 96) dX8_isSaved_92 (by decide) ?_
        refine g_iret rfl (by decide) dX8_isSaved_96 ?_
        refine ⟨?_, _, _, _, rfl⟩
        rw [bN_t (by unfold sLiv; first | (rw [decide_eq_true (by omega)]; rfl) | (rw [decide_eq_false (by omega), decide_eq_true h12]; unfold sSafeB; first | simp [isSome_t h58] | simp [isSome_t h88] | simp [isSome_f h58, isSome_f h88]) | (rw [decide_eq_false (by omega), decide_eq_false h12]; simp))]
  · refine g_iload_n (i := 2) (j := 0) dX8_isSaved_15 rfl rfl ?_
    refine g_iconst (v := nI 1) dX8_isSaved_16 (by decide) ?_
    refine n_icmp_eq (tgt := 25) (by omega) (rng_lit 1 rfl) dX8_isSaved_17 (by decide) (fun h17 => ?_) (fun h17 => ?_)
    · refine g_iconst (v := nI 1) dX8_isSaved_25 (by decide) ?_
      refine g_goto (tgt := 30) dX8_isSaved_26 (by decide) ?_
      refine g_iret rfl (by decide) dX8_isSaved_30 ?_
      refine ⟨?_, _, _, _, rfl⟩
      rw [bN_t (by unfold sLiv; first | (rw [decide_eq_true (by omega)]; rfl) | (rw [decide_eq_false (by omega), decide_eq_true h12]; unfold sSafeB; first | simp [isSome_t h58] | simp [isSome_t h88] | simp [isSome_f h58, isSome_f h88]) | (rw [decide_eq_false (by omega), decide_eq_false h12]; simp))]
    · refine g_iload_n (i := 2) (j := 0) dX8_isSaved_20 rfl rfl ?_
      refine g_iconst (v := nI 4) dX8_isSaved_21 (by decide) ?_
      refine n_icmp_ne (tgt := 29) (by omega) (rng_lit 4 rfl) dX8_isSaved_22 (by decide) (fun h22 => ?_) (fun h22 => ?_)
      · refine g_iconst (v := nI 0) dX8_isSaved_29 (by decide) ?_
        refine g_iret rfl (by decide) dX8_isSaved_30 ?_
        refine ⟨?_, _, _, _, rfl⟩
        rw [bN_f (by unfold sLiv; first | (rw [decide_eq_true (by omega)]; rfl) | (rw [decide_eq_false (by omega), decide_eq_true h12]; unfold sSafeB; first | simp [isSome_t h58] | simp [isSome_t h88] | simp [isSome_f h58, isSome_f h88]) | (rw [decide_eq_false (by omega), decide_eq_false h12]; simp))]
      · refine g_iconst (v := nI 1) dX8_isSaved_25 (by decide) ?_
        refine g_goto (tgt := 30) dX8_isSaved_26 (by decide) ?_
        refine g_iret rfl (by decide) dX8_isSaved_30 ?_
        refine ⟨?_, _, _, _, rfl⟩
        rw [bN_t (by unfold sLiv; first | (rw [decide_eq_true (by omega)]; rfl) | (rw [decide_eq_false (by omega), decide_eq_true h12]; unfold sSafeB; first | simp [isSome_t h58] | simp [isSome_t h88] | simp [isSome_f h58, isSome_f h88]) | (rw [decide_eq_false (by omega), decide_eq_false h12]; simp))]

theorem sSum_one {f : Nat → Nat} {a : Nat} (h0 : ∀ c, c ≠ a → f c = 0) : ∀ n, sSum f n = if 1 ≤ a ∧ a ≤ n then f a else 0
  | 0 => by rw [if_neg (by omega)]; rfl
  | n + 1 => by
    rw [sSum, sSum_one h0 n]
    by_cases h : a = n + 1
    · rw [if_neg (by omega), if_pos (by omega), h]; omega
    · rw [h0 (n + 1) (fun z => h z.symm)]
      by_cases h2 : 1 ≤ a ∧ a ≤ n
      · rw [if_pos h2, if_pos (by omega)]; rfl
      · rw [if_neg h2, if_neg (by omega)]
theorem sSum_add (f g : Nat → Nat) : ∀ n, sSum (fun c => f c + g c) n = sSum f n + sSum g n
  | 0 => rfl
  | n + 1 => by rw [sSum, sSum_add f g n, sSum, sSum]; omega
theorem sSum_congr {f g : Nat → Nat} (h : ∀ c, f c = g c) : ∀ n, sSum f n = sSum g n
  | 0 => rfl
  | n + 1 => by rw [sSum, sSum_congr h n, sSum, h]
/-- by towers -/
def tSum (f : Nat → Nat) (at_ : Nat → Nat) : Nat → Nat
  | 0 => 0
  | t + 1 => tSum f at_ t + f (at_ t)
theorem tSum_eq {f ho at_ fo : Nat → Nat} {tw : Nat} (hT : tOK tw at_ fo ho) (hT2 : ∀ t, t < tw → 1 ≤ at_ t ∧ at_ t ≤ 8) (h0 : ∀ c, ho c = 0 → f c = 0) : tSum f at_ tw = sSum f 8 := by
  have hz : ∀ c, (∀ t, t < tw → c ≠ at_ t) → f c = 0 := fun c hc => h0 c (Decidable.byContradiction (fun z => by
    obtain ⟨t, h1, h2⟩ := hT.2.2.1 c z
    exact hc t h1 h2.symm))
  have h2 := hT.1
  rcases (show tw = 0 ∨ tw = 1 ∨ tw = 2 by omega) with rfl | rfl | rfl
  · rw [sSum_one (a := 0) (fun c _ => hz c (fun t ht => absurd ht (by omega))), if_neg (by omega)]; rfl
  · have := hT2 0 (by omega)
    rw [sSum_one (a := at_ 0) (fun c hc => hz c (fun t ht => by obtain rfl : t = 0 := by omega
                                                                exact hc)), if_pos (by omega)]
    show 0 + f (at_ 0) = _
    omega
  · have a0 := hT2 0 (by omega)
    have a1 := hT2 1 (by omega)
    have hne := hT.2.2.2 rfl
    have e : sSum f 8 = sSum (fun c => (if c = at_ 0 then f c else 0) + (if c = at_ 1 then f c else 0)) 8 := by
      apply sSum_congr
      intro c
      by_cases h3 : c = at_ 0
      · rw [if_pos h3, if_neg (by omega)]; rfl
      · by_cases h4 : c = at_ 1
        · rw [if_neg h3, if_pos h4]; omega
        · rw [if_neg h3, if_neg h4]
          refine hz c (fun t ht => ?_)
          rcases (show t = 0 ∨ t = 1 by omega) with rfl | rfl
          · exact h3
          · exact h4
    rw [e, sSum_add, sSum_one (a := at_ 0) (fun c hc => if_neg hc), sSum_one (a := at_ 1) (fun c hc => if_neg hc), if_pos (by omega), if_pos (by omega), if_pos (by omega), if_pos (by omega)]
    show 0 + f (at_ 0) + f (at_ 1) = _
    omega
theorem lp_msvI {e1 e7 e8 e9 e10 e11 e13 e14 e15 e16 e17 : va_E} {ts pl lo ri la wk tw sf : Nat} {rl rr re : Int32} {rw rt rs ac : Nat} {sd : Int64} {h so ho pa wa at_ fo r : Nat → Nat} (hg : gOK h so ho pa wa wk tw lo ri la) (hS : mSf sf so) (hT : tOK tw at_ fo ho) (hrk : rOK r) (hT2 : ∀ t, t < tw → 1 ≤ at_ t ∧ at_ t ≤ 8) (hup : ∀ c, c ≤ 9 → sUp r wk c ≤ ho c) {t n0 : Nat} (ht : t < tw)
    (kn : ∀ ce sa ti : Nat, Go mX8_saved 6 163 [(0, .ref 0), (1, .int (nI (n0 + (sGoUp h so ho pa wa wk la ri lo r) (at_ t)))), (2, .int (nI t))] [] (wM (kM 0 ts pl lo ri la wk tw sf rl rr re rw rt rs ac sd ce sa ti) e1 (kI 10 h) (kI 5 pa) (kI 5 wa) (kI 2 at_) (kI 2 fo) e7 e8 e9 e10 e11 (kI 16 (pgR r)) e13 e14 e15 e16 e17) (fun v u => v = some (.int (nI (pSaved h so ho pa wa wk lo ri la r))) ∧ ∃ ce2 sa2 ti2 : Nat, u = wM (kM 0 ts pl lo ri la wk tw sf rl rr re rw rt rs ac sd ce2 sa2 ti2) e1 (kI 10 h) (kI 5 pa) (kI 5 wa) (kI 2 at_) (kI 2 fo) e7 e8 e9 e10 e11 (kI 16 (pgR r)) e13 e14 e15 e16 e17)) :
    ∀ (n w ce sa ti : Nat), w + n = wk → Go mX8_saved 6 70 [(0, .ref 0), (1, .int (nI (n0 + (min (ho (at_ t) - sUp r wk (at_ t)) (sCnt (fun w => sNeed h so pa wa la ri lo r w && decide (r (1 + w) = at_ t)) w))))), (2, .int (nI t)), (3, .int (nI ((ho (at_ t) - sUp r wk (at_ t)) - (min (ho (at_ t) - sUp r wk (at_ t)) (sCnt (fun w => sNeed h so pa wa la ri lo r w && decide (r (1 + w) = at_ t)) w))))), (4, .int (nI w))] [] (wM (kM 0 ts pl lo ri la wk tw sf rl rr re rw rt rs ac sd ce sa ti) e1 (kI 10 h) (kI 5 pa) (kI 5 wa) (kI 2 at_) (kI 2 fo) e7 e8 e9 e10 e11 (kI 16 (pgR r)) e13 e14 e15 e16 e17) (fun v u => v = some (.int (nI (pSaved h so ho pa wa wk lo ri la r))) ∧ ∃ ce2 sa2 ti2 : Nat, u = wM (kM 0 ts pl lo ri la wk tw sf rl rr re rw rt rs ac sd ce2 sa2 ti2) e1 (kI 10 h) (kI 5 pa) (kI 5 wa) (kI 2 at_) (kI 2 fo) e7 e8 e9 e10 e11 (kI 16 (pgR r)) e13 e14 e15 e16 e17) := by
  intro n
  have hg0 := hg
  obtain ⟨hH, hso, hho, hpa, hwa, hwk, htw, hlo, hri, hla⟩ := hg0
  have hrk0 := hrk
  obtain ⟨hr, hr1, hr6, hr11⟩ := hrk0
  have qt := hT2 t ht
  have qo := hho (at_ t)
  have qg : tw ≤ 2 := htw
  induction n with
  | zero =>
    intro w ce sa ti hw
    obtain rfl : w = wk := by omega
    refine g_iload (j := 4) dX8_saved_70 rfl ?_
    refine g_aload_n (i := 0) (j := 0) dX8_saved_72 rfl rfl ?_
    refine g_get fX8_70 rfl rfl dX8_saved_73 ?_
    refine n_icmp_ge (tgt := 163) (by omega) (by omega) dX8_saved_76 (by decide) (fun h76 => ?_) (fun h76 => ?_)
    · refine g_lv [0, 1, 2] rfl ?_
      exact kn _ _ _
    · exfalso; omega

  | succ n ih =>
    intro w ce sa ti hw
    have q11 := hr11 w (by omega)
    have q1 := hr1 w (by omega)
    have ec : sCnt (fun w => sNeed h so pa wa la ri lo r w && decide (r (1 + w) = at_ t)) (w + 1) = sCnt (fun w => sNeed h so pa wa la ri lo r w && decide (r (1 + w) = at_ t)) w + if (fun w => sNeed h so pa wa la ri lo r w && decide (r (1 + w) = at_ t)) w then 1 else 0 := rfl
    have el : r (11 + w) = 0 → (sLiv h so pa wa la ri lo r w = !sNeed h so pa wa la ri lo r w) := by
      intro z; unfold sLiv sNeed; simp [z]
    have en : ((fun w => sNeed h so pa wa la ri lo r w && decide (r (1 + w) = at_ t)) w = true) ↔ (r (11 + w) = 0 ∧ r (1 + w) = at_ t ∧ ¬ sLiv h so pa wa la ri lo r w = true) := by
      show (sNeed h so pa wa la ri lo r w && decide (r (1 + w) = at_ t)) = true ↔ _
      by_cases z : r (11 + w) = 0
      · rw [el z]; cases hx : sNeed h so pa wa la ri lo r w <;> simp [z]
      · unfold sNeed; simp [z]
    refine g_iload (j := 4) dX8_saved_70 rfl ?_
    refine g_aload_n (i := 0) (j := 0) dX8_saved_72 rfl rfl ?_
    refine g_get fX8_70 rfl rfl dX8_saved_73 ?_
    refine n_icmp_ge (tgt := 163) (by omega) (by omega) dX8_saved_76 (by decide) (fun h76 => ?_) (fun h76 => ?_)
    · exfalso; omega
    · refine g_aload_n (i := 0) (j := 0) dX8_saved_79 rfl rfl ?_
      refine g_get fX8_47 rfl rfl dX8_saved_80 ?_
      refine g_iconst (v := nI 3) dX8_saved_83 (by decide) ?_
      refine g_iload (j := 4) dX8_saved_84 rfl ?_
      refine n_imul (a := 3) (b := w) dX8_saved_86 ?_
      refine g_iconst (v := nI 2) dX8_saved_87 (by decide) ?_
      refine n_iadd (a := (3 * w)) (b := 2) dX8_saved_88 ?_
      refine n_iald (x := ((3 * w) + 2)) rfl (by omega) (rng_lit 16 rfl) dX8_saved_89 ?_
      refine g_topi (y := nI (r (11 + w))) (by rw [pg_2 (by omega)]) ?_
      refine n_if_ne (tgt := 128) (by omega) dX8_saved_90 (by decide) (fun h90 => ?_) (fun h90 => ?_)
      · refine g_iconst (v := nI 0) dX8_saved_128 (by decide) ?_
        refine g_istore (lv' := [(5, .int (nI 0)), (0, .ref 0), (1, .int (nI (n0 + (min (ho (at_ t) - sUp r wk (at_ t)) (sCnt (fun w => sNeed h so pa wa la ri lo r w && decide (r (1 + w) = at_ t)) w))))), (2, .int (nI t)), (3, .int (nI ((ho (at_ t) - sUp r wk (at_ t)) - (min (ho (at_ t) - sUp r wk (at_ t)) (sCnt (fun w => sNeed h so pa wa la ri lo r w && decide (r (1 + w) = at_ t)) w))))), (4, .int (nI w))]) dX8_saved_129 (by decide) rfl ?_
        refine g_iload_n (i := 3) (j := 4) dX8_saved_131 rfl rfl ?_
        refine g_iload (j := 0) dX8_saved_132 rfl ?_
        refine n_if_eq (tgt := 141) (rng_lit 0 rfl) dX8_saved_134 (by decide) (fun h134 => ?_) (fun h134 => ?_)
        · refine g_iconst (v := nI 0) dX8_saved_141 (by decide) ?_
          refine n_isub (a := ((ho (at_ t) - sUp r wk (at_ t)) - (min (ho (at_ t) - sUp r wk (at_ t)) (sCnt (fun w => sNeed h so pa wa la ri lo r w && decide (r (1 + w) = at_ t)) w)))) (b := 0) (by omega) dX8_saved_142 ?_
          refine g_istore_n (i := 3) (lv' := [(3, .int (nI (((ho (at_ t) - sUp r wk (at_ t)) - (min (ho (at_ t) - sUp r wk (at_ t)) (sCnt (fun w => sNeed h so pa wa la ri lo r w && decide (r (1 + w) = at_ t)) w))) - 0))), (5, .int (nI 0)), (0, .ref 0), (1, .int (nI (n0 + (min (ho (at_ t) - sUp r wk (at_ t)) (sCnt (fun w => sNeed h so pa wa la ri lo r w && decide (r (1 + w) = at_ t)) w))))), (2, .int (nI t)), (4, .int (nI w))]) dX8_saved_143 rfl (by decide) rfl ?_
          refine g_iload_n (i := 1) (j := 3) dX8_saved_144 rfl rfl ?_
          refine g_iload (j := 1) dX8_saved_145 rfl ?_
          refine n_if_eq (tgt := 154) (rng_lit 0 rfl) dX8_saved_147 (by decide) (fun h147 => ?_) (fun h147 => ?_)
          · refine g_iconst (v := nI 0) dX8_saved_154 (by decide) ?_
            refine n_iadd (a := (n0 + (min (ho (at_ t) - sUp r wk (at_ t)) (sCnt (fun w => sNeed h so pa wa la ri lo r w && decide (r (1 + w) = at_ t)) w)))) (b := 0) dX8_saved_155 ?_
            refine g_istore_n (i := 1) (lv' := [(1, .int (nI ((n0 + (min (ho (at_ t) - sUp r wk (at_ t)) (sCnt (fun w => sNeed h so pa wa la ri lo r w && decide (r (1 + w) = at_ t)) w))) + 0))), (3, .int (nI (((ho (at_ t) - sUp r wk (at_ t)) - (min (ho (at_ t) - sUp r wk (at_ t)) (sCnt (fun w => sNeed h so pa wa la ri lo r w && decide (r (1 + w) = at_ t)) w))) - 0))), (5, .int (nI 0)), (0, .ref 0), (2, .int (nI t)), (4, .int (nI w))]) dX8_saved_156 rfl (by decide) rfl ?_
            refine n_inc (x := w) (j := 5) (lv' := [(4, .int (nI (w + 1))), (1, .int (nI ((n0 + (min (ho (at_ t) - sUp r wk (at_ t)) (sCnt (fun w => sNeed h so pa wa la ri lo r w && decide (r (1 + w) = at_ t)) w))) + 0))), (3, .int (nI (((ho (at_ t) - sUp r wk (at_ t)) - (min (ho (at_ t) - sUp r wk (at_ t)) (sCnt (fun w => sNeed h so pa wa la ri lo r w && decide (r (1 + w) = at_ t)) w))) - 0))), (5, .int (nI 0)), (0, .ref 0), (2, .int (nI t))]) dX8_saved_157 rfl (by decide) rfl ?_
            refine g_goto (tgt := 70) dX8_saved_160 (by decide) ?_
            refine g_lv [4, 1, 5, 2, 0] rfl ?_
            have e1 : (n0 + (min (ho (at_ t) - sUp r wk (at_ t)) (sCnt (fun w => sNeed h so pa wa la ri lo r w && decide (r (1 + w) = at_ t)) w))) + 0 = n0 + (min (ho (at_ t) - sUp r wk (at_ t)) (sCnt (fun w => sNeed h so pa wa la ri lo r w && decide (r (1 + w) = at_ t)) (w + 1))) ∧ ((ho (at_ t) - sUp r wk (at_ t)) - (min (ho (at_ t) - sUp r wk (at_ t)) (sCnt (fun w => sNeed h so pa wa la ri lo r w && decide (r (1 + w) = at_ t)) w))) - 0 = (ho (at_ t) - sUp r wk (at_ t)) - (min (ho (at_ t) - sUp r wk (at_ t)) (sCnt (fun w => sNeed h so pa wa la ri lo r w && decide (r (1 + w) = at_ t)) (w + 1))) := by
              rw [ec]
              rcases Decidable.em ((fun w => sNeed h so pa wa la ri lo r w && decide (r (1 + w) = at_ t)) w = true) with hz | hz
              · rw [if_pos hz]
                obtain ⟨z1, z2, z3⟩ := en.mp hz
                first | exact ⟨by omega, by omega⟩ | exact absurd h117 z3
              · rw [if_neg hz]
                first | exact ⟨by omega, by omega⟩ | exact absurd (en.mpr ⟨h90, h108, h117⟩) hz
            rw [e1.1, e1.2]
            exact ih (w + 1) _ _ _ (by omega)
          · exact absurd h147 (by decide)
        · exact absurd h134 (by decide)
      · refine g_aload_n (i := 0) (j := 0) dX8_saved_93 rfl rfl ?_
        refine g_get fX8_47 rfl rfl dX8_saved_94 ?_
        refine g_iconst (v := nI 3) dX8_saved_97 (by decide) ?_
        refine g_iload (j := 4) dX8_saved_98 rfl ?_
        refine n_imul (a := 3) (b := w) dX8_saved_100 ?_
        refine n_iald (x := (3 * w)) rfl (by omega) (rng_lit 16 rfl) dX8_saved_101 ?_
        refine g_topi (y := nI (r (1 + w))) (by rw [pg_0 (by omega)]) ?_
        refine g_aload_n (i := 0) (j := 0) dX8_saved_102 rfl rfl ?_
        refine g_get fX8_26 rfl rfl dX8_saved_103 ?_
        refine g_iload_n (i := 2) (j := 2) dX8_saved_106 rfl rfl ?_
        refine n_iald (x := t) rfl (by omega) (rng_lit 2 rfl) dX8_saved_107 ?_
        refine n_icmp_ne (tgt := 128) (by omega) (by omega) dX8_saved_108 (by decide) (fun h108 => ?_) (fun h108 => ?_)
        · refine g_iconst (v := nI 0) dX8_saved_128 (by decide) ?_
          refine g_istore (lv' := [(5, .int (nI 0)), (0, .ref 0), (1, .int (nI (n0 + (min (ho (at_ t) - sUp r wk (at_ t)) (sCnt (fun w => sNeed h so pa wa la ri lo r w && decide (r (1 + w) = at_ t)) w))))), (2, .int (nI t)), (3, .int (nI ((ho (at_ t) - sUp r wk (at_ t)) - (min (ho (at_ t) - sUp r wk (at_ t)) (sCnt (fun w => sNeed h so pa wa la ri lo r w && decide (r (1 + w) = at_ t)) w))))), (4, .int (nI w))]) dX8_saved_129 (by decide) rfl ?_
          refine g_iload_n (i := 3) (j := 4) dX8_saved_131 rfl rfl ?_
          refine g_iload (j := 0) dX8_saved_132 rfl ?_
          refine n_if_eq (tgt := 141) (rng_lit 0 rfl) dX8_saved_134 (by decide) (fun h134 => ?_) (fun h134 => ?_)
          · refine g_iconst (v := nI 0) dX8_saved_141 (by decide) ?_
            refine n_isub (a := ((ho (at_ t) - sUp r wk (at_ t)) - (min (ho (at_ t) - sUp r wk (at_ t)) (sCnt (fun w => sNeed h so pa wa la ri lo r w && decide (r (1 + w) = at_ t)) w)))) (b := 0) (by omega) dX8_saved_142 ?_
            refine g_istore_n (i := 3) (lv' := [(3, .int (nI (((ho (at_ t) - sUp r wk (at_ t)) - (min (ho (at_ t) - sUp r wk (at_ t)) (sCnt (fun w => sNeed h so pa wa la ri lo r w && decide (r (1 + w) = at_ t)) w))) - 0))), (5, .int (nI 0)), (0, .ref 0), (1, .int (nI (n0 + (min (ho (at_ t) - sUp r wk (at_ t)) (sCnt (fun w => sNeed h so pa wa la ri lo r w && decide (r (1 + w) = at_ t)) w))))), (2, .int (nI t)), (4, .int (nI w))]) dX8_saved_143 rfl (by decide) rfl ?_
            refine g_iload_n (i := 1) (j := 3) dX8_saved_144 rfl rfl ?_
            refine g_iload (j := 1) dX8_saved_145 rfl ?_
            refine n_if_eq (tgt := 154) (rng_lit 0 rfl) dX8_saved_147 (by decide) (fun h147 => ?_) (fun h147 => ?_)
            · refine g_iconst (v := nI 0) dX8_saved_154 (by decide) ?_
              refine n_iadd (a := (n0 + (min (ho (at_ t) - sUp r wk (at_ t)) (sCnt (fun w => sNeed h so pa wa la ri lo r w && decide (r (1 + w) = at_ t)) w)))) (b := 0) dX8_saved_155 ?_
              refine g_istore_n (i := 1) (lv' := [(1, .int (nI ((n0 + (min (ho (at_ t) - sUp r wk (at_ t)) (sCnt (fun w => sNeed h so pa wa la ri lo r w && decide (r (1 + w) = at_ t)) w))) + 0))), (3, .int (nI (((ho (at_ t) - sUp r wk (at_ t)) - (min (ho (at_ t) - sUp r wk (at_ t)) (sCnt (fun w => sNeed h so pa wa la ri lo r w && decide (r (1 + w) = at_ t)) w))) - 0))), (5, .int (nI 0)), (0, .ref 0), (2, .int (nI t)), (4, .int (nI w))]) dX8_saved_156 rfl (by decide) rfl ?_
              refine n_inc (x := w) (j := 5) (lv' := [(4, .int (nI (w + 1))), (1, .int (nI ((n0 + (min (ho (at_ t) - sUp r wk (at_ t)) (sCnt (fun w => sNeed h so pa wa la ri lo r w && decide (r (1 + w) = at_ t)) w))) + 0))), (3, .int (nI (((ho (at_ t) - sUp r wk (at_ t)) - (min (ho (at_ t) - sUp r wk (at_ t)) (sCnt (fun w => sNeed h so pa wa la ri lo r w && decide (r (1 + w) = at_ t)) w))) - 0))), (5, .int (nI 0)), (0, .ref 0), (2, .int (nI t))]) dX8_saved_157 rfl (by decide) rfl ?_
              refine g_goto (tgt := 70) dX8_saved_160 (by decide) ?_
              refine g_lv [4, 1, 5, 2, 0] rfl ?_
              have e1 : (n0 + (min (ho (at_ t) - sUp r wk (at_ t)) (sCnt (fun w => sNeed h so pa wa la ri lo r w && decide (r (1 + w) = at_ t)) w))) + 0 = n0 + (min (ho (at_ t) - sUp r wk (at_ t)) (sCnt (fun w => sNeed h so pa wa la ri lo r w && decide (r (1 + w) = at_ t)) (w + 1))) ∧ ((ho (at_ t) - sUp r wk (at_ t)) - (min (ho (at_ t) - sUp r wk (at_ t)) (sCnt (fun w => sNeed h so pa wa la ri lo r w && decide (r (1 + w) = at_ t)) w))) - 0 = (ho (at_ t) - sUp r wk (at_ t)) - (min (ho (at_ t) - sUp r wk (at_ t)) (sCnt (fun w => sNeed h so pa wa la ri lo r w && decide (r (1 + w) = at_ t)) (w + 1))) := by
                rw [ec]
                rcases Decidable.em ((fun w => sNeed h so pa wa la ri lo r w && decide (r (1 + w) = at_ t)) w = true) with hz | hz
                · rw [if_pos hz]
                  obtain ⟨z1, z2, z3⟩ := en.mp hz
                  first | exact ⟨by omega, by omega⟩ | exact absurd h117 z3
                · rw [if_neg hz]
                  first | exact ⟨by omega, by omega⟩ | exact absurd (en.mpr ⟨h90, h108, h117⟩) hz
              rw [e1.1, e1.2]
              exact ih (w + 1) _ _ _ (by omega)
            · exact absurd h147 (by decide)
          · exact absurd h134 (by decide)
        · refine g_aload_n (i := 0) (j := 0) dX8_saved_111 rfl rfl ?_
          refine g_iload (j := 4) dX8_saved_112 rfl ?_
          refine g_callV (rest := []) (ctX8_isSaved (k := w) hg hS hT hrk (by omega)) kX8_isSaved lX8_220 (by decide) rfl rfl rfl rfl (by exact Nat.le_of_ble_eq_true rfl) dX8_saved_114 rfl (fun v u hvu => ?_)
          obtain ⟨rfl, ce114, sa114, ti114, rfl⟩ := hvu
          refine g_st (st' := [.int (nI (bN (sLiv h so pa wa la ri lo r w = true)))]) rfl ?_
          refine b_if_ne (tgt := 128) dX8_saved_117 (by decide) (fun h117 => ?_) (fun h117 => ?_)
          · refine g_iconst (v := nI 0) dX8_saved_128 (by decide) ?_
            refine g_istore (lv' := [(5, .int (nI 0)), (0, .ref 0), (1, .int (nI (n0 + (min (ho (at_ t) - sUp r wk (at_ t)) (sCnt (fun w => sNeed h so pa wa la ri lo r w && decide (r (1 + w) = at_ t)) w))))), (2, .int (nI t)), (3, .int (nI ((ho (at_ t) - sUp r wk (at_ t)) - (min (ho (at_ t) - sUp r wk (at_ t)) (sCnt (fun w => sNeed h so pa wa la ri lo r w && decide (r (1 + w) = at_ t)) w))))), (4, .int (nI w))]) dX8_saved_129 (by decide) rfl ?_
            refine g_iload_n (i := 3) (j := 4) dX8_saved_131 rfl rfl ?_
            refine g_iload (j := 0) dX8_saved_132 rfl ?_
            refine n_if_eq (tgt := 141) (rng_lit 0 rfl) dX8_saved_134 (by decide) (fun h134 => ?_) (fun h134 => ?_)
            · refine g_iconst (v := nI 0) dX8_saved_141 (by decide) ?_
              refine n_isub (a := ((ho (at_ t) - sUp r wk (at_ t)) - (min (ho (at_ t) - sUp r wk (at_ t)) (sCnt (fun w => sNeed h so pa wa la ri lo r w && decide (r (1 + w) = at_ t)) w)))) (b := 0) (by omega) dX8_saved_142 ?_
              refine g_istore_n (i := 3) (lv' := [(3, .int (nI (((ho (at_ t) - sUp r wk (at_ t)) - (min (ho (at_ t) - sUp r wk (at_ t)) (sCnt (fun w => sNeed h so pa wa la ri lo r w && decide (r (1 + w) = at_ t)) w))) - 0))), (5, .int (nI 0)), (0, .ref 0), (1, .int (nI (n0 + (min (ho (at_ t) - sUp r wk (at_ t)) (sCnt (fun w => sNeed h so pa wa la ri lo r w && decide (r (1 + w) = at_ t)) w))))), (2, .int (nI t)), (4, .int (nI w))]) dX8_saved_143 rfl (by decide) rfl ?_
              refine g_iload_n (i := 1) (j := 3) dX8_saved_144 rfl rfl ?_
              refine g_iload (j := 1) dX8_saved_145 rfl ?_
              refine n_if_eq (tgt := 154) (rng_lit 0 rfl) dX8_saved_147 (by decide) (fun h147 => ?_) (fun h147 => ?_)
              · refine g_iconst (v := nI 0) dX8_saved_154 (by decide) ?_
                refine n_iadd (a := (n0 + (min (ho (at_ t) - sUp r wk (at_ t)) (sCnt (fun w => sNeed h so pa wa la ri lo r w && decide (r (1 + w) = at_ t)) w)))) (b := 0) dX8_saved_155 ?_
                refine g_istore_n (i := 1) (lv' := [(1, .int (nI ((n0 + (min (ho (at_ t) - sUp r wk (at_ t)) (sCnt (fun w => sNeed h so pa wa la ri lo r w && decide (r (1 + w) = at_ t)) w))) + 0))), (3, .int (nI (((ho (at_ t) - sUp r wk (at_ t)) - (min (ho (at_ t) - sUp r wk (at_ t)) (sCnt (fun w => sNeed h so pa wa la ri lo r w && decide (r (1 + w) = at_ t)) w))) - 0))), (5, .int (nI 0)), (0, .ref 0), (2, .int (nI t)), (4, .int (nI w))]) dX8_saved_156 rfl (by decide) rfl ?_
                refine n_inc (x := w) (j := 5) (lv' := [(4, .int (nI (w + 1))), (1, .int (nI ((n0 + (min (ho (at_ t) - sUp r wk (at_ t)) (sCnt (fun w => sNeed h so pa wa la ri lo r w && decide (r (1 + w) = at_ t)) w))) + 0))), (3, .int (nI (((ho (at_ t) - sUp r wk (at_ t)) - (min (ho (at_ t) - sUp r wk (at_ t)) (sCnt (fun w => sNeed h so pa wa la ri lo r w && decide (r (1 + w) = at_ t)) w))) - 0))), (5, .int (nI 0)), (0, .ref 0), (2, .int (nI t))]) dX8_saved_157 rfl (by decide) rfl ?_
                refine g_goto (tgt := 70) dX8_saved_160 (by decide) ?_
                refine g_lv [4, 1, 5, 2, 0] rfl ?_
                have e1 : (n0 + (min (ho (at_ t) - sUp r wk (at_ t)) (sCnt (fun w => sNeed h so pa wa la ri lo r w && decide (r (1 + w) = at_ t)) w))) + 0 = n0 + (min (ho (at_ t) - sUp r wk (at_ t)) (sCnt (fun w => sNeed h so pa wa la ri lo r w && decide (r (1 + w) = at_ t)) (w + 1))) ∧ ((ho (at_ t) - sUp r wk (at_ t)) - (min (ho (at_ t) - sUp r wk (at_ t)) (sCnt (fun w => sNeed h so pa wa la ri lo r w && decide (r (1 + w) = at_ t)) w))) - 0 = (ho (at_ t) - sUp r wk (at_ t)) - (min (ho (at_ t) - sUp r wk (at_ t)) (sCnt (fun w => sNeed h so pa wa la ri lo r w && decide (r (1 + w) = at_ t)) (w + 1))) := by
                  rw [ec]
                  rcases Decidable.em ((fun w => sNeed h so pa wa la ri lo r w && decide (r (1 + w) = at_ t)) w = true) with hz | hz
                  · rw [if_pos hz]
                    obtain ⟨z1, z2, z3⟩ := en.mp hz
                    first | exact ⟨by omega, by omega⟩ | exact absurd h117 z3
                  · rw [if_neg hz]
                    first | exact ⟨by omega, by omega⟩ | exact absurd (en.mpr ⟨h90, h108, h117⟩) hz
                rw [e1.1, e1.2]
                exact ih (w + 1) _ _ _ (by omega)
              · exact absurd h147 (by decide)
            · exact absurd h134 (by decide)
          · refine g_iload_n (i := 3) (j := 3) dX8_saved_120 rfl rfl ?_
            refine n_if_le (tgt := 128) (by omega) dX8_saved_121 (by decide) (fun h121 => ?_) (fun h121 => ?_)
            · refine g_iconst (v := nI 0) dX8_saved_128 (by decide) ?_
              refine g_istore (lv' := [(5, .int (nI 0)), (0, .ref 0), (1, .int (nI (n0 + (min (ho (at_ t) - sUp r wk (at_ t)) (sCnt (fun w => sNeed h so pa wa la ri lo r w && decide (r (1 + w) = at_ t)) w))))), (2, .int (nI t)), (3, .int (nI ((ho (at_ t) - sUp r wk (at_ t)) - (min (ho (at_ t) - sUp r wk (at_ t)) (sCnt (fun w => sNeed h so pa wa la ri lo r w && decide (r (1 + w) = at_ t)) w))))), (4, .int (nI w))]) dX8_saved_129 (by decide) rfl ?_
              refine g_iload_n (i := 3) (j := 4) dX8_saved_131 rfl rfl ?_
              refine g_iload (j := 0) dX8_saved_132 rfl ?_
              refine n_if_eq (tgt := 141) (rng_lit 0 rfl) dX8_saved_134 (by decide) (fun h134 => ?_) (fun h134 => ?_)
              · refine g_iconst (v := nI 0) dX8_saved_141 (by decide) ?_
                refine n_isub (a := ((ho (at_ t) - sUp r wk (at_ t)) - (min (ho (at_ t) - sUp r wk (at_ t)) (sCnt (fun w => sNeed h so pa wa la ri lo r w && decide (r (1 + w) = at_ t)) w)))) (b := 0) (by omega) dX8_saved_142 ?_
                refine g_istore_n (i := 3) (lv' := [(3, .int (nI (((ho (at_ t) - sUp r wk (at_ t)) - (min (ho (at_ t) - sUp r wk (at_ t)) (sCnt (fun w => sNeed h so pa wa la ri lo r w && decide (r (1 + w) = at_ t)) w))) - 0))), (5, .int (nI 0)), (0, .ref 0), (1, .int (nI (n0 + (min (ho (at_ t) - sUp r wk (at_ t)) (sCnt (fun w => sNeed h so pa wa la ri lo r w && decide (r (1 + w) = at_ t)) w))))), (2, .int (nI t)), (4, .int (nI w))]) dX8_saved_143 rfl (by decide) rfl ?_
                refine g_iload_n (i := 1) (j := 3) dX8_saved_144 rfl rfl ?_
                refine g_iload (j := 1) dX8_saved_145 rfl ?_
                refine n_if_eq (tgt := 154) (rng_lit 0 rfl) dX8_saved_147 (by decide) (fun h147 => ?_) (fun h147 => ?_)
                · refine g_iconst (v := nI 0) dX8_saved_154 (by decide) ?_
                  refine n_iadd (a := (n0 + (min (ho (at_ t) - sUp r wk (at_ t)) (sCnt (fun w => sNeed h so pa wa la ri lo r w && decide (r (1 + w) = at_ t)) w)))) (b := 0) dX8_saved_155 ?_
                  refine g_istore_n (i := 1) (lv' := [(1, .int (nI ((n0 + (min (ho (at_ t) - sUp r wk (at_ t)) (sCnt (fun w => sNeed h so pa wa la ri lo r w && decide (r (1 + w) = at_ t)) w))) + 0))), (3, .int (nI (((ho (at_ t) - sUp r wk (at_ t)) - (min (ho (at_ t) - sUp r wk (at_ t)) (sCnt (fun w => sNeed h so pa wa la ri lo r w && decide (r (1 + w) = at_ t)) w))) - 0))), (5, .int (nI 0)), (0, .ref 0), (2, .int (nI t)), (4, .int (nI w))]) dX8_saved_156 rfl (by decide) rfl ?_
                  refine n_inc (x := w) (j := 5) (lv' := [(4, .int (nI (w + 1))), (1, .int (nI ((n0 + (min (ho (at_ t) - sUp r wk (at_ t)) (sCnt (fun w => sNeed h so pa wa la ri lo r w && decide (r (1 + w) = at_ t)) w))) + 0))), (3, .int (nI (((ho (at_ t) - sUp r wk (at_ t)) - (min (ho (at_ t) - sUp r wk (at_ t)) (sCnt (fun w => sNeed h so pa wa la ri lo r w && decide (r (1 + w) = at_ t)) w))) - 0))), (5, .int (nI 0)), (0, .ref 0), (2, .int (nI t))]) dX8_saved_157 rfl (by decide) rfl ?_
                  refine g_goto (tgt := 70) dX8_saved_160 (by decide) ?_
                  refine g_lv [4, 1, 5, 2, 0] rfl ?_
                  have e1 : (n0 + (min (ho (at_ t) - sUp r wk (at_ t)) (sCnt (fun w => sNeed h so pa wa la ri lo r w && decide (r (1 + w) = at_ t)) w))) + 0 = n0 + (min (ho (at_ t) - sUp r wk (at_ t)) (sCnt (fun w => sNeed h so pa wa la ri lo r w && decide (r (1 + w) = at_ t)) (w + 1))) ∧ ((ho (at_ t) - sUp r wk (at_ t)) - (min (ho (at_ t) - sUp r wk (at_ t)) (sCnt (fun w => sNeed h so pa wa la ri lo r w && decide (r (1 + w) = at_ t)) w))) - 0 = (ho (at_ t) - sUp r wk (at_ t)) - (min (ho (at_ t) - sUp r wk (at_ t)) (sCnt (fun w => sNeed h so pa wa la ri lo r w && decide (r (1 + w) = at_ t)) (w + 1))) := by
                    rw [ec]
                    rcases Decidable.em ((fun w => sNeed h so pa wa la ri lo r w && decide (r (1 + w) = at_ t)) w = true) with hz | hz
                    · rw [if_pos hz]
                      obtain ⟨z1, z2, z3⟩ := en.mp hz
                      first | exact ⟨by omega, by omega⟩ | exact absurd h117 z3
                    · rw [if_neg hz]
                      first | exact ⟨by omega, by omega⟩ | exact absurd (en.mpr ⟨h90, h108, h117⟩) hz
                  rw [e1.1, e1.2]
                  exact ih (w + 1) _ _ _ (by omega)
                · exact absurd h147 (by decide)
              · exact absurd h134 (by decide)
            · refine g_iconst (v := nI 1) dX8_saved_124 (by decide) ?_
              refine g_goto (tgt := 129) dX8_saved_125 (by decide) ?_
              refine g_istore (lv' := [(5, .int (nI 1)), (0, .ref 0), (1, .int (nI (n0 + (min (ho (at_ t) - sUp r wk (at_ t)) (sCnt (fun w => sNeed h so pa wa la ri lo r w && decide (r (1 + w) = at_ t)) w))))), (2, .int (nI t)), (3, .int (nI ((ho (at_ t) - sUp r wk (at_ t)) - (min (ho (at_ t) - sUp r wk (at_ t)) (sCnt (fun w => sNeed h so pa wa la ri lo r w && decide (r (1 + w) = at_ t)) w))))), (4, .int (nI w))]) dX8_saved_129 (by decide) rfl ?_
              refine g_iload_n (i := 3) (j := 4) dX8_saved_131 rfl rfl ?_
              refine g_iload (j := 0) dX8_saved_132 rfl ?_
              refine n_if_eq (tgt := 141) (rng_lit 1 rfl) dX8_saved_134 (by decide) (fun h134 => ?_) (fun h134 => ?_)
              · exact absurd h134 (by decide)
              · refine g_iconst (v := nI 1) dX8_saved_137 (by decide) ?_
                refine g_goto (tgt := 142) dX8_saved_138 (by decide) ?_
                refine n_isub (a := ((ho (at_ t) - sUp r wk (at_ t)) - (min (ho (at_ t) - sUp r wk (at_ t)) (sCnt (fun w => sNeed h so pa wa la ri lo r w && decide (r (1 + w) = at_ t)) w)))) (b := 1) (by omega) dX8_saved_142 ?_
                refine g_istore_n (i := 3) (lv' := [(3, .int (nI (((ho (at_ t) - sUp r wk (at_ t)) - (min (ho (at_ t) - sUp r wk (at_ t)) (sCnt (fun w => sNeed h so pa wa la ri lo r w && decide (r (1 + w) = at_ t)) w))) - 1))), (5, .int (nI 1)), (0, .ref 0), (1, .int (nI (n0 + (min (ho (at_ t) - sUp r wk (at_ t)) (sCnt (fun w => sNeed h so pa wa la ri lo r w && decide (r (1 + w) = at_ t)) w))))), (2, .int (nI t)), (4, .int (nI w))]) dX8_saved_143 rfl (by decide) rfl ?_
                refine g_iload_n (i := 1) (j := 3) dX8_saved_144 rfl rfl ?_
                refine g_iload (j := 1) dX8_saved_145 rfl ?_
                refine n_if_eq (tgt := 154) (rng_lit 1 rfl) dX8_saved_147 (by decide) (fun h147 => ?_) (fun h147 => ?_)
                · exact absurd h147 (by decide)
                · refine g_iconst (v := nI 1) dX8_saved_150 (by decide) ?_
                  refine g_goto (tgt := 155) dX8_saved_151 (by decide) ?_
                  refine n_iadd (a := (n0 + (min (ho (at_ t) - sUp r wk (at_ t)) (sCnt (fun w => sNeed h so pa wa la ri lo r w && decide (r (1 + w) = at_ t)) w)))) (b := 1) dX8_saved_155 ?_
                  refine g_istore_n (i := 1) (lv' := [(1, .int (nI ((n0 + (min (ho (at_ t) - sUp r wk (at_ t)) (sCnt (fun w => sNeed h so pa wa la ri lo r w && decide (r (1 + w) = at_ t)) w))) + 1))), (3, .int (nI (((ho (at_ t) - sUp r wk (at_ t)) - (min (ho (at_ t) - sUp r wk (at_ t)) (sCnt (fun w => sNeed h so pa wa la ri lo r w && decide (r (1 + w) = at_ t)) w))) - 1))), (5, .int (nI 1)), (0, .ref 0), (2, .int (nI t)), (4, .int (nI w))]) dX8_saved_156 rfl (by decide) rfl ?_
                  refine n_inc (x := w) (j := 5) (lv' := [(4, .int (nI (w + 1))), (1, .int (nI ((n0 + (min (ho (at_ t) - sUp r wk (at_ t)) (sCnt (fun w => sNeed h so pa wa la ri lo r w && decide (r (1 + w) = at_ t)) w))) + 1))), (3, .int (nI (((ho (at_ t) - sUp r wk (at_ t)) - (min (ho (at_ t) - sUp r wk (at_ t)) (sCnt (fun w => sNeed h so pa wa la ri lo r w && decide (r (1 + w) = at_ t)) w))) - 1))), (5, .int (nI 1)), (0, .ref 0), (2, .int (nI t))]) dX8_saved_157 rfl (by decide) rfl ?_
                  refine g_goto (tgt := 70) dX8_saved_160 (by decide) ?_
                  refine g_lv [4, 1, 5, 2, 0] rfl ?_
                  have e1 : (n0 + (min (ho (at_ t) - sUp r wk (at_ t)) (sCnt (fun w => sNeed h so pa wa la ri lo r w && decide (r (1 + w) = at_ t)) w))) + 1 = n0 + (min (ho (at_ t) - sUp r wk (at_ t)) (sCnt (fun w => sNeed h so pa wa la ri lo r w && decide (r (1 + w) = at_ t)) (w + 1))) ∧ ((ho (at_ t) - sUp r wk (at_ t)) - (min (ho (at_ t) - sUp r wk (at_ t)) (sCnt (fun w => sNeed h so pa wa la ri lo r w && decide (r (1 + w) = at_ t)) w))) - 1 = (ho (at_ t) - sUp r wk (at_ t)) - (min (ho (at_ t) - sUp r wk (at_ t)) (sCnt (fun w => sNeed h so pa wa la ri lo r w && decide (r (1 + w) = at_ t)) (w + 1))) := by
                    rw [ec]
                    rcases Decidable.em ((fun w => sNeed h so pa wa la ri lo r w && decide (r (1 + w) = at_ t)) w = true) with hz | hz
                    · rw [if_pos hz]
                      obtain ⟨z1, z2, z3⟩ := en.mp hz
                      first | exact ⟨by omega, by omega⟩ | exact absurd h117 z3
                    · rw [if_neg hz]
                      first | exact ⟨by omega, by omega⟩ | exact absurd (en.mpr ⟨h90, h108, h117⟩) hz
                  rw [e1.1, e1.2]
                  exact ih (w + 1) _ _ _ (by omega)

theorem sGU_0 {h so ho pa wa : Nat → Nat} {wk la ri lo : Nat} {r : Nat → Nat} (c : Nat) (e : ho c = 0) : sGoUp h so ho pa wa wk la ri lo r c = 0 := by unfold sGoUp; omega
theorem lp_msvT {e1 e7 e8 e9 e10 e11 e13 e14 e15 e16 e17 : va_E} {ts pl lo ri la wk tw sf : Nat} {rl rr re : Int32} {rw rt rs ac : Nat} {sd : Int64} {h so ho pa wa at_ fo r : Nat → Nat} (hg : gOK h so ho pa wa wk tw lo ri la) (hS : mSf sf so) (hT : tOK tw at_ fo ho) (hrk : rOK r) (hT2 : ∀ t, t < tw → 1 ≤ at_ t ∧ at_ t ≤ 8) (hup : ∀ c, c ≤ 9 → sUp r wk c ≤ ho c) : ∀ (n t ce sa ti : Nat), t + n = tw → Go mX8_saved 6 41 [(0, .ref 0), (1, .int (nI (sCnt (sLiv h so pa wa la ri lo r) wk + tSum (sGoUp h so ho pa wa wk la ri lo r) at_ t))), (2, .int (nI t))] [] (wM (kM 0 ts pl lo ri la wk tw sf rl rr re rw rt rs ac sd ce sa ti) e1 (kI 10 h) (kI 5 pa) (kI 5 wa) (kI 2 at_) (kI 2 fo) e7 e8 e9 e10 e11 (kI 16 (pgR r)) e13 e14 e15 e16 e17) (fun v u => v = some (.int (nI (pSaved h so ho pa wa wk lo ri la r))) ∧ ∃ ce2 sa2 ti2 : Nat, u = wM (kM 0 ts pl lo ri la wk tw sf rl rr re rw rt rs ac sd ce2 sa2 ti2) e1 (kI 10 h) (kI 5 pa) (kI 5 wa) (kI 2 at_) (kI 2 fo) e7 e8 e9 e10 e11 (kI 16 (pgR r)) e13 e14 e15 e16 e17) := by
  intro n
  have hg0 := hg
  obtain ⟨hH, hso, hho, hpa, hwa, hwk, htw, hlo, hri, hla⟩ := hg0
  have hrk0 := hrk
  obtain ⟨hr, hr1, hr6, hr11⟩ := hrk0
  have qE : sCnt (sLiv h so pa wa la ri lo r) wk + tSum (sGoUp h so ho pa wa wk la ri lo r) at_ tw = (pSaved h so ho pa wa wk lo ri la r) := by unfold pSaved; rw [tSum_eq hT hT2 (fun c e => sGU_0 c e)]
  induction n with
  | zero =>
    intro t ce sa ti ht
    obtain rfl : t = tw := by omega
    refine g_iload_n (i := 2) (j := 2) dX8_saved_41 rfl rfl ?_
    refine g_aload_n (i := 0) (j := 0) dX8_saved_42 rfl rfl ?_
    refine g_get fX8_145 rfl rfl dX8_saved_43 ?_
    refine n_icmp_ge (tgt := 169) (by omega) (by omega) dX8_saved_46 (by decide) (fun h46 => ?_) (fun h46 => ?_)
    · refine g_iload_n (i := 1) (j := 1) dX8_saved_169 rfl rfl ?_
      refine g_iret rfl rfl dX8_saved_170 ?_
      refine ⟨?_, _, _, _, rfl⟩
      rw [qE]
    · exfalso; omega

  | succ n ih =>
    intro t ce sa ti ht
    have qt := hT2 t (by omega)
    have qo := hho (at_ t)
    have qu := hup (at_ t) (by omega)
    have qf := (hT.2.1 t (by omega)).2.2.2
    refine g_iload_n (i := 2) (j := 2) dX8_saved_41 rfl rfl ?_
    refine g_aload_n (i := 0) (j := 0) dX8_saved_42 rfl rfl ?_
    refine g_get fX8_145 rfl rfl dX8_saved_43 ?_
    refine n_icmp_ge (tgt := 169) (by omega) (by omega) dX8_saved_46 (by decide) (fun h46 => ?_) (fun h46 => ?_)
    · exfalso; omega
    · refine g_aload_n (i := 0) (j := 0) dX8_saved_49 rfl rfl ?_
      refine g_get fX8_29 rfl rfl dX8_saved_50 ?_
      refine g_iload_n (i := 2) (j := 2) dX8_saved_53 rfl rfl ?_
      refine n_iald (x := t) rfl (by omega) (rng_lit 2 rfl) dX8_saved_54 ?_
      refine g_aload_n (i := 0) (j := 0) dX8_saved_55 rfl rfl ?_
      refine g_aload_n (i := 0) (j := 0) dX8_saved_56 rfl rfl ?_
      refine g_get fX8_26 rfl rfl dX8_saved_57 ?_
      refine g_iload_n (i := 2) (j := 2) dX8_saved_60 rfl rfl ?_
      refine n_iald (x := t) rfl (by omega) (rng_lit 2 rfl) dX8_saved_61 ?_
      refine c_V (st1 := [.int (nI (sUp r wk (at_ t))), .int (nI (fo t))]) (ctX8_upAt (c := at_ t) hrk (by omega) (by first | omega | assumption | exact hpa _ | exact hwa _ | exact hr1 _ (by omega) | exact hr6 _ (by omega) | exact hr11 _ (by omega) | exact hr _ | exact Nat.le_succ_of_le (hr _) | (apply sTo_le; first | omega | exact hr1 _ (by omega)))) kX8_upAt lX8_171 (by decide) rfl rfl rfl rfl (by exact Nat.le_of_ble_eq_true rfl) dX8_saved_62 rfl rfl ?_
      refine n_isub (a := (fo t)) (b := (sUp r wk (at_ t))) (by omega) dX8_saved_65 ?_
      refine g_istore_n (i := 3) (lv' := [(3, .int (nI ((fo t) - (sUp r wk (at_ t))))), (0, .ref 0), (1, .int (nI (sCnt (sLiv h so pa wa la ri lo r) wk + tSum (sGoUp h so ho pa wa wk la ri lo r) at_ t))), (2, .int (nI t))]) dX8_saved_66 rfl (by decide) rfl ?_
      refine g_iconst (v := nI 0) dX8_saved_67 (by decide) ?_
      refine g_istore (lv' := [(4, .int (nI 0)), (3, .int (nI ((fo t) - (sUp r wk (at_ t))))), (0, .ref 0), (1, .int (nI (sCnt (sLiv h so pa wa la ri lo r) wk + tSum (sGoUp h so ho pa wa wk la ri lo r) at_ t))), (2, .int (nI t))]) dX8_saved_68 (by decide) rfl ?_
      refine g_lv [2, 3, 4, 1, 0] rfl ?_
      have em : (min (ho (at_ t) - sUp r wk (at_ t)) (sCnt (fun w => sNeed h so pa wa la ri lo r w && decide (r (1 + w) = at_ t)) 0)) = 0 := by show min _ 0 = 0; omega
      have z := lp_msvI (ts := ts) (pl := pl) (rl := rl) (rr := rr) (re := re) (rw := rw) (rt := rt) (rs := rs) (ac := ac) (sd := sd) (n0 := sCnt (sLiv h so pa wa la ri lo r) wk + tSum (sGoUp h so ho pa wa wk la ri lo r) at_ t) (e1 := e1) (e7 := e7) (e8 := e8) (e9 := e9) (e10 := e10) (e11 := e11) (e13 := e13) (e14 := e14) (e15 := e15) (e16 := e16) (e17 := e17) hg hS hT hrk hT2 hup (t := t) (by omega) (fun ce3 sa3 ti3 => ?_) wk 0 ce sa ti (by omega)
      · rw [em] at z
        rw [← qf]
        exact z
      · refine n_inc (x := t) (j := 2) (lv' := [(2, .int (nI (t + 1))), (0, .ref 0), (1, .int (nI (sCnt (sLiv h so pa wa la ri lo r) wk + tSum (sGoUp h so ho pa wa wk la ri lo r) at_ t + (sGoUp h so ho pa wa wk la ri lo r) (at_ t))))]) dX8_saved_163 rfl (by decide) rfl ?_
        refine g_goto (tgt := 41) dX8_saved_166 (by decide) ?_
        refine g_lv [1, 2, 0] rfl ?_
        rw [Nat.add_assoc (sCnt (sLiv h so pa wa la ri lo r) wk) (tSum (sGoUp h so ho pa wa wk la ri lo r) at_ t) ((sGoUp h so ho pa wa wk la ri lo r) (at_ t))]
        exact ih (t + 1) _ _ _ (by omega)

theorem lp_msvW {e1 e7 e8 e9 e10 e11 e13 e14 e15 e16 e17 : va_E} {ts pl lo ri la wk tw sf : Nat} {rl rr re : Int32} {rw rt rs ac : Nat} {sd : Int64} {h so ho pa wa at_ fo r : Nat → Nat} (hg : gOK h so ho pa wa wk tw lo ri la) (hS : mSf sf so) (hT : tOK tw at_ fo ho) (hrk : rOK r) (hT2 : ∀ t, t < tw → 1 ≤ at_ t ∧ at_ t ≤ 8) (hup : ∀ c, c ≤ 9 → sUp r wk c ≤ ho c) : ∀ (n w ce sa ti : Nat), w + n = wk → Go mX8_saved 6 9 [(0, .ref 0), (1, .int (nI (sCnt (sLiv h so pa wa la ri lo r) w))), (2, .int (nI w))] [] (wM (kM 0 ts pl lo ri la wk tw sf rl rr re rw rt rs ac sd ce sa ti) e1 (kI 10 h) (kI 5 pa) (kI 5 wa) (kI 2 at_) (kI 2 fo) e7 e8 e9 e10 e11 (kI 16 (pgR r)) e13 e14 e15 e16 e17) (fun v u => v = some (.int (nI (pSaved h so ho pa wa wk lo ri la r))) ∧ ∃ ce2 sa2 ti2 : Nat, u = wM (kM 0 ts pl lo ri la wk tw sf rl rr re rw rt rs ac sd ce2 sa2 ti2) e1 (kI 10 h) (kI 5 pa) (kI 5 wa) (kI 2 at_) (kI 2 fo) e7 e8 e9 e10 e11 (kI 16 (pgR r)) e13 e14 e15 e16 e17) := by
  intro n
  have hg0 := hg
  obtain ⟨hH, hso, hho, hpa, hwa, hwk, htw, hlo, hri, hla⟩ := hg0
  have hrk0 := hrk
  obtain ⟨hr, hr1, hr6, hr11⟩ := hrk0
  induction n with
  | zero =>
    intro w ce sa ti hw
    obtain rfl : w = wk := by omega
    refine g_iload_n (i := 2) (j := 2) dX8_saved_9 rfl rfl ?_
    refine g_aload_n (i := 0) (j := 0) dX8_saved_10 rfl rfl ?_
    refine g_get fX8_70 rfl rfl dX8_saved_11 ?_
    refine n_icmp_ge (tgt := 39) (by omega) (by omega) dX8_saved_14 (by decide) (fun h14 => ?_) (fun h14 => ?_)
    · refine g_iconst (v := nI 0) dX8_saved_39 (by decide) ?_
      refine g_istore_n (i := 2) (lv' := [(2, .int (nI 0)), (0, .ref 0), (1, .int (nI (sCnt (sLiv h so pa wa la ri lo r) w)))]) dX8_saved_40 rfl (by decide) rfl ?_
      refine g_lv [1, 2, 0] rfl ?_
      exact lp_msvT hg hS hT hrk hT2 hup tw 0 _ _ _ (by omega)
    · exfalso; omega

  | succ n ih =>
    intro w ce sa ti hw
    refine g_iload_n (i := 2) (j := 2) dX8_saved_9 rfl rfl ?_
    refine g_aload_n (i := 0) (j := 0) dX8_saved_10 rfl rfl ?_
    refine g_get fX8_70 rfl rfl dX8_saved_11 ?_
    refine n_icmp_ge (tgt := 39) (by omega) (by omega) dX8_saved_14 (by decide) (fun h14 => ?_) (fun h14 => ?_)
    · exfalso; omega
    · refine g_iload_n (i := 1) (j := 1) dX8_saved_17 rfl rfl ?_
      refine g_aload_n (i := 0) (j := 0) dX8_saved_18 rfl rfl ?_
      refine g_iload_n (i := 2) (j := 2) dX8_saved_19 rfl rfl ?_
      refine g_callV (rest := [.int (nI (sCnt (sLiv h so pa wa la ri lo r) w))]) (ctX8_isSaved (k := w) hg hS hT hrk (by omega)) kX8_isSaved lX8_220 (by decide) rfl rfl rfl rfl (by exact Nat.le_of_ble_eq_true rfl) dX8_saved_20 rfl (fun v u hvu => ?_)
      obtain ⟨rfl, ce20, sa20, ti20, rfl⟩ := hvu
      refine g_st (st' := [.int (nI (bN (sLiv h so pa wa la ri lo r w = true))), .int (nI (sCnt (sLiv h so pa wa la ri lo r) w))]) rfl ?_
      refine b_if_eq (tgt := 30) dX8_saved_23 (by decide) (fun h23 => ?_) (fun h23 => ?_)
      · refine g_iconst (v := nI 0) dX8_saved_30 (by decide) ?_
        refine n_iadd (a := (sCnt (sLiv h so pa wa la ri lo r) w)) (b := 0) dX8_saved_31 ?_
        refine g_istore_n (i := 1) (lv' := [(1, .int (nI ((sCnt (sLiv h so pa wa la ri lo r) w) + 0))), (0, .ref 0), (2, .int (nI w))]) dX8_saved_32 rfl (by decide) rfl ?_
        refine n_inc (x := w) (j := 2) (lv' := [(2, .int (nI (w + 1))), (1, .int (nI ((sCnt (sLiv h so pa wa la ri lo r) w) + 0))), (0, .ref 0)]) dX8_saved_33 rfl (by decide) rfl ?_
        refine g_goto (tgt := 9) dX8_saved_36 (by decide) ?_
        refine g_lv [2, 1, 0] rfl ?_
        have e : (sCnt (sLiv h so pa wa la ri lo r) w) + 0 = sCnt (sLiv h so pa wa la ri lo r) (w + 1) := by
          rw [sCnt]
          first | rw [if_pos h23] | rw [if_neg h23]
        rw [e]
        exact ih (w + 1) _ _ _ (by omega)
      · refine g_iconst (v := nI 1) dX8_saved_26 (by decide) ?_
        refine g_goto (tgt := 31) dX8_saved_27 (by decide) ?_
        refine n_iadd (a := (sCnt (sLiv h so pa wa la ri lo r) w)) (b := 1) dX8_saved_31 ?_
        refine g_istore_n (i := 1) (lv' := [(1, .int (nI ((sCnt (sLiv h so pa wa la ri lo r) w) + 1))), (0, .ref 0), (2, .int (nI w))]) dX8_saved_32 rfl (by decide) rfl ?_
        refine n_inc (x := w) (j := 2) (lv' := [(2, .int (nI (w + 1))), (1, .int (nI ((sCnt (sLiv h so pa wa la ri lo r) w) + 1))), (0, .ref 0)]) dX8_saved_33 rfl (by decide) rfl ?_
        refine g_goto (tgt := 9) dX8_saved_36 (by decide) ?_
        refine g_lv [2, 1, 0] rfl ?_
        have e : (sCnt (sLiv h so pa wa la ri lo r) w) + 1 = sCnt (sLiv h so pa wa la ri lo r) (w + 1) := by
          rw [sCnt]
          first | rw [if_pos h23] | rw [if_neg h23]
        rw [e]
        exact ih (w + 1) _ _ _ (by omega)

theorem ctX8_saved {e1 e7 e8 e9 e10 e11 e13 e14 e15 e16 e17 : va_E} {ts pl lo ri la wk tw sf : Nat} {rl rr re : Int32} {rw rt rs ac : Nat} {sd : Int64} {ce sa ti : Nat} {h so ho pa wa at_ fo r : Nat → Nat} (hg : gOK h so ho pa wa wk tw lo ri la) (hS : mSf sf so) (hT : tOK tw at_ fo ho) (hrk : rOK r) (hT2 : ∀ t, t < tw → 1 ≤ at_ t ∧ at_ t ≤ 8) (hup : ∀ c, c ≤ 9 → sUp r wk c ≤ ho c) : Ct mX8_saved 6 [.ref 0] (wM (kM 0 ts pl lo ri la wk tw sf rl rr re rw rt rs ac sd ce sa ti) e1 (kI 10 h) (kI 5 pa) (kI 5 wa) (kI 2 at_) (kI 2 fo) e7 e8 e9 e10 e11 (kI 16 (pgR r)) e13 e14 e15 e16 e17) (fun v u => v = some (.int (nI (pSaved h so ho pa wa wk lo ri la r))) ∧ ∃ ce2 sa2 ti2 : Nat, u = wM (kM 0 ts pl lo ri la wk tw sf rl rr re rw rt rs ac sd ce2 sa2 ti2) e1 (kI 10 h) (kI 5 pa) (kI 5 wa) (kI 2 at_) (kI 2 fo) e7 e8 e9 e10 e11 (kI 16 (pgR r)) e13 e14 e15 e16 e17) := by
  refine Ct.of (by decide) (by exact Nat.le_of_ble_eq_true rfl) ?_
  show Go mX8_saved 6 0 [(0, .ref 0)] [] (wM (kM 0 ts pl lo ri la wk tw sf rl rr re rw rt rs ac sd ce sa ti) e1 (kI 10 h) (kI 5 pa) (kI 5 wa) (kI 2 at_) (kI 2 fo) e7 e8 e9 e10 e11 (kI 16 (pgR r)) e13 e14 e15 e16 e17) (fun v u => v = some (.int (nI (pSaved h so ho pa wa wk lo ri la r))) ∧ ∃ ce2 sa2 ti2 : Nat, u = wM (kM 0 ts pl lo ri la wk tw sf rl rr re rw rt rs ac sd ce2 sa2 ti2) e1 (kI 10 h) (kI 5 pa) (kI 5 wa) (kI 2 at_) (kI 2 fo) e7 e8 e9 e10 e11 (kI 16 (pgR r)) e13 e14 e15 e16 e17)
  refine g_aload_n (i := 0) (j := 0) dX8_saved_0 rfl rfl ?_
  refine g_iconst (v := nI 0) dX8_saved_1 (by decide) ?_
  refine n_putI (ws' := wM (kM 0 ts pl lo ri la wk tw sf rl rr re rw rt rs ac sd ce sa ti) e1 (kI 10 h) (kI 5 pa) (kI 5 wa) (kI 2 at_) (kI 2 fo) e7 e8 e9 e10 e11 (kI 16 (pgR r)) e13 e14 e15 e16 e17) fX8_67 fp_X8_0 rfl (by exact Nat.le_of_ble_eq_true rfl) dX8_saved_2 rfl ?_
  refine g_iconst (v := nI 0) dX8_saved_5 (by decide) ?_
  refine g_istore_n (i := 1) (lv' := [(1, .int (nI 0)), (0, .ref 0)]) dX8_saved_6 rfl (by decide) rfl ?_
  refine g_iconst (v := nI 0) dX8_saved_7 (by decide) ?_
  refine g_istore_n (i := 2) (lv' := [(2, .int (nI 0)), (1, .int (nI 0)), (0, .ref 0)]) dX8_saved_8 rfl (by decide) rfl ?_
  refine g_lv [2, 1, 0] rfl ?_
  exact lp_msvW hg hS hT hrk hT2 hup wk 0 _ _ _ (by omega)

