/-! part 16: shells, step, saved -/
/-- standing for shells: ok i: it outlasts standing up to then; safe i: it comes home from there -/
def sSh (ok safe : Nat → Bool) : Nat → Nat → Option Nat → Option Nat
  | 0, _, m => m
  | n + 1, i, m => if i ≠ 0 ∧ ok i = false then m else sSh ok safe n (i + 1) (if safe i then some i else m)
def sOkS (h so : Nat → Nat) (la ri wa lo c tm i : Nat) : Bool := decide (sDepth h c (sWater la ri (tm + i) lo) ≤ wa) && decide (so c ≠ 1)
def pShells (h so pa wa : Nat → Nat) (wk lo ri la : Nat) (r : Nat → Nat) (k : Int32) : Int32 := if iW k wk then (if r (11 + cN k) = 0 then
  rO (sSh (sOkS h so la ri (wa (cN k)) lo (r (1 + cN k)) (r 0)) (fun i => sSafeB h so la ri (pa (cN k)) (wa (cN k)) lo (r (1 + cN k)) (r 0 + i)) (41 - r 0) 0 none) else -3) else -1
theorem fst_ok {h so : Nat → Nat} {la ri pa wa lo c s : Nat} : sFate h so wa c (sTo h pa wa c 0 (sWater la ri s lo)) 0 (sWater la ri (s + 1) lo) 0 = 0 ↔ sOkS h so la ri wa lo c (s + 1) 0 = true := by
  have e : sTo h pa wa c 0 (sWater la ri s lo) = c := by unfold sTo; rw [if_neg (by omega), if_neg (by omega)]
  rw [e]
  unfold sFate sOkS
  rw [if_neg (by omega), Nat.add_zero]
  by_cases h1 : wa < sDepth h c (sWater la ri (s + 1) lo)
  · rw [if_pos h1]; simp; omega
  · rw [if_neg h1]
    by_cases h2 : so c = 1
    · rw [if_pos ⟨rfl, h2⟩]; simp [h2]
    · rw [if_neg (fun z => h2 z.2)]; simp [h2]; omega
theorem lp_shells {e1 e2 e9 e10 e11 e12 e13 e14 e17 e19 e21 e22 e25 e26 : va_E} {sd : Int64} {h so ho pa wa : Nat → Nat} {wk tw sf lo ri la : Nat} {r : Nat → Nat} (hg : gOK h so ho pa wa wk tw lo ri la) (hrk : rOK r) {k : Nat} (hk : k < 5) : ∀ (n i : Nat) (m : Option Nat) (t : t6), r 0 + i + n = 41 → Go mX7_shells 6 36 [(0, .ref 0), (1, .int (nI k)), (2, .int (nI (r (1 + k)))), (3, .int (rO m)), (4, .int (nI i))] [] (wC (kO sd) e1 e2 (kG3 wk tw sf lo ri la) (kI 10 h) (kZ 10 so) (kI 10 ho) (kI 5 pa) (kI 5 wa) e9 e10 e11 e12 e13 e14 (kI 16 r) e17 e19 e21 e22 (kPt t) e25 e26) (fun v u => v = some (.int (rO (sSh (sOkS h so la ri (wa k) lo (r (1 + k)) (r 0)) (fun i => sSafeB h so la ri (pa k) (wa k) lo (r (1 + k)) (r 0 + i)) n i m))) ∧ ∃ t2 : t6, u = wC (kO sd) e1 e2 (kG3 wk tw sf lo ri la) (kI 10 h) (kZ 10 so) (kI 10 ho) (kI 5 pa) (kI 5 wa) e9 e10 e11 e12 e13 e14 (kI 16 r) e17 e19 e21 e22 (kPt t2) e25 e26) := by
  obtain ⟨hH, hso, hho, hpa, hwa, hwk, htw, hlo, hri, hla⟩ := hg
  obtain ⟨hr, hr1, hr6, hr11⟩ := hrk
  have q0 := hr 0
  have q1 := hr1 k hk
  intro n
  induction n with
  | zero =>
    intro i m t hi
    refine g_iload (j := 4) dX7_shells_36 rfl ?_
    refine g_bipush (v := nI 40) dX7_shells_38 (by decide) ?_
    refine g_aload_n (i := 0) (j := 0) dX7_shells_40 rfl rfl ?_
    refine g_get fX7_29 rfl rfl dX7_shells_41 ?_
    refine c_V (st1 := [.int (nI (r 0)), .int (nI 40), .int (nI i)]) (ctX2_time  ) kX2_time lX7_95 (by decide) rfl rfl rfl rfl (by exact Nat.le_of_ble_eq_true rfl) dX7_shells_44 rfl rfl ?_
    refine n_isub (a := 40) (b := (r 0)) (by omega) dX7_shells_47 ?_
    refine n_icmp_gt (tgt := 104) (by omega) (by omega) dX7_shells_48 (by decide) (fun h48 => ?_) (fun h48 => ?_)
    · refine g_iload_n (i := 3) (j := 3) dX7_shells_104 rfl rfl ?_
      refine g_iret rfl rfl dX7_shells_105 ?_
      exact ⟨rfl, _, rfl⟩
    · exfalso; omega

  | succ n ih =>
    intro i m t hi
    refine g_iload (j := 4) dX7_shells_36 rfl ?_
    refine g_bipush (v := nI 40) dX7_shells_38 (by decide) ?_
    refine g_aload_n (i := 0) (j := 0) dX7_shells_40 rfl rfl ?_
    refine g_get fX7_29 rfl rfl dX7_shells_41 ?_
    refine c_V (st1 := [.int (nI (r 0)), .int (nI 40), .int (nI i)]) (ctX2_time  ) kX2_time lX7_95 (by decide) rfl rfl rfl rfl (by exact Nat.le_of_ble_eq_true rfl) dX7_shells_44 rfl rfl ?_
    refine n_isub (a := 40) (b := (r 0)) (by omega) dX7_shells_47 ?_
    refine n_icmp_gt (tgt := 104) (by omega) (by omega) dX7_shells_48 (by decide) (fun h48 => ?_) (fun h48 => ?_)
    · exfalso; omega
    · refine g_aload_n (i := 0) (j := 0) dX7_shells_51 rfl rfl ?_
      refine g_get fX7_29 rfl rfl dX7_shells_52 ?_
      refine c_V (st1 := [.int (nI (r 0))]) (ctX2_time  ) kX2_time lX7_95 (by decide) rfl rfl rfl rfl (by exact Nat.le_of_ble_eq_true rfl) dX7_shells_55 rfl rfl ?_
      refine g_iload (j := 4) dX7_shells_58 rfl ?_
      refine n_iadd (a := (r 0)) (b := i) dX7_shells_60 ?_
      refine g_istore (lv' := [(5, .int (nI ((r 0) + i))), (0, .ref 0), (1, .int (nI k)), (2, .int (nI (r (1 + k)))), (3, .int (rO m)), (4, .int (nI i))]) dX7_shells_61 (by decide) rfl ?_
      refine g_iload (j := 5) dX7_shells_63 rfl ?_
      refine n_if_le (tgt := 84) (by omega) dX7_shells_65 (by decide) (fun h65 => ?_) (fun h65 => ?_)
      · refine g_aload_n (i := 0) (j := 1) dX7_shells_84 rfl rfl ?_
        refine g_iload_n (i := 1) (j := 2) dX7_shells_85 rfl rfl ?_
        refine g_iload_n (i := 2) (j := 3) dX7_shells_86 rfl rfl ?_
        refine g_iload (j := 0) dX7_shells_87 rfl ?_
        refine g_callV (rest := []) (ctX7_isSafe (k := k) (c := r (1 + k)) (s := (r 0) + i) ⟨hH, hso, hho, hpa, hwa, hwk, htw, hlo, hri, hla⟩ (by first | omega | exact hpa _ | exact hwa _ | exact hr1 _ (by omega) | exact hr6 _ (by omega) | exact hr11 _ (by omega) | exact hr _ | exact Nat.le_succ_of_le (hr _)) (by first | omega | exact hpa _ | exact hwa _ | exact hr1 _ (by omega) | exact hr6 _ (by omega) | exact hr11 _ (by omega) | exact hr _ | exact Nat.le_succ_of_le (hr _)) (by first | omega | exact hpa _ | exact hwa _ | exact hr1 _ (by omega) | exact hr6 _ (by omega) | exact hr11 _ (by omega) | exact hr _ | exact Nat.le_succ_of_le (hr _))) kX7_isSafe lX7_200 (by decide) rfl rfl rfl rfl (by exact Nat.le_of_ble_eq_true rfl) dX7_shells_89 rfl (fun v u hvu => ?_)
        obtain ⟨rfl, t89, rfl⟩ := hvu
        refine g_st (st' := [.int (nI (bN (sSafeB h so la ri (pa k) (wa k) lo (r (1 + k)) ((r 0) + i) = true)))]) rfl ?_
        refine b_if_eq (tgt := 98) dX7_shells_92 (by decide) (fun h92 => ?_) (fun h92 => ?_)
        · refine n_inc (x := i) (j := 5) (lv' := [(4, .int (nI (i + 1))), (5, .int (nI ((r 0) + i))), (0, .ref 0), (1, .int (nI k)), (2, .int (nI (r (1 + k)))), (3, .int (rO m))]) dX7_shells_98 rfl (by decide) rfl ?_
          refine g_goto (tgt := 36) dX7_shells_101 (by decide) ?_
          have hok : ¬ (i ≠ 0 ∧ (sOkS h so la ri (wa k) lo (r (1 + k)) (r 0)) i = false) := by
            intro z
            first | omega | (rw [fst_ok, show r 0 + i - 1 + 1 = r 0 + i by omega] at h78; rw [show (sOkS h so la ri (wa k) lo (r (1 + k)) (r 0)) i = sOkS h so la ri (wa k) lo (r (1 + k)) (r 0 + i) 0 by unfold sOkS; rw [Nat.add_zero], h78] at z; simp at z)
          refine g_lv [2, 3, 4, 5, 0] rfl ?_
          refine g_lvE (lv' := [(0, .ref 0), (1, .int (nI k)), (2, .int (nI (r (1 + k)))), (3, .int (rO (m))), (4, .int (nI (i + 1)))]) rfl ?_
          refine g_post ?_ (ih (i + 1) (m) t89 (by omega))
          intro v u hvu
          rw [show sSh (sOkS h so la ri (wa k) lo (r (1 + k)) (r 0)) (fun i => sSafeB h so la ri (pa k) (wa k) lo (r (1 + k)) (r 0 + i)) (n + 1) i m = sSh (sOkS h so la ri (wa k) lo (r (1 + k)) (r 0)) (fun i => sSafeB h so la ri (pa k) (wa k) lo (r (1 + k)) (r 0 + i)) n (i + 1) (m) by rw [sSh, if_neg hok]; simp [h92]]
          exact hvu
        · refine g_iload (j := 5) dX7_shells_95 rfl ?_
          refine g_istore_n (i := 3) (lv' := [(3, .int (nI i)), (5, .int (nI ((r 0) + i))), (0, .ref 0), (1, .int (nI k)), (2, .int (nI (r (1 + k)))), (4, .int (nI i))]) dX7_shells_97 rfl (by decide) rfl ?_
          refine n_inc (x := i) (j := 5) (lv' := [(4, .int (nI (i + 1))), (3, .int (nI i)), (5, .int (nI ((r 0) + i))), (0, .ref 0), (1, .int (nI k)), (2, .int (nI (r (1 + k))))]) dX7_shells_98 rfl (by decide) rfl ?_
          refine g_goto (tgt := 36) dX7_shells_101 (by decide) ?_
          have hok : ¬ (i ≠ 0 ∧ (sOkS h so la ri (wa k) lo (r (1 + k)) (r 0)) i = false) := by
            intro z
            first | omega | (rw [fst_ok, show r 0 + i - 1 + 1 = r 0 + i by omega] at h78; rw [show (sOkS h so la ri (wa k) lo (r (1 + k)) (r 0)) i = sOkS h so la ri (wa k) lo (r (1 + k)) (r 0 + i) 0 by unfold sOkS; rw [Nat.add_zero], h78] at z; simp at z)
          refine g_lv [3, 4, 5, 1, 0] rfl ?_
          refine g_lvE (lv' := [(0, .ref 0), (1, .int (nI k)), (2, .int (nI (r (1 + k)))), (3, .int (rO (some i))), (4, .int (nI (i + 1)))]) rfl ?_
          refine g_post ?_ (ih (i + 1) (some i) t89 (by omega))
          intro v u hvu
          rw [show sSh (sOkS h so la ri (wa k) lo (r (1 + k)) (r 0)) (fun i => sSafeB h so la ri (pa k) (wa k) lo (r (1 + k)) (r 0 + i)) (n + 1) i m = sSh (sOkS h so la ri (wa k) lo (r (1 + k)) (r 0)) (fun i => sSafeB h so la ri (pa k) (wa k) lo (r (1 + k)) (r 0 + i)) n (i + 1) (some i) by rw [sSh, if_neg hok]; simp [h92]]
          exact hvu
      · refine g_aload_n (i := 0) (j := 1) dX7_shells_68 rfl rfl ?_
        refine g_iload_n (i := 1) (j := 2) dX7_shells_69 rfl rfl ?_
        refine g_iload_n (i := 2) (j := 3) dX7_shells_70 rfl rfl ?_
        refine g_iload (j := 0) dX7_shells_71 rfl ?_
        refine g_iconst (v := nI 1) dX7_shells_73 (by decide) ?_
        refine n_isub (a := ((r 0) + i)) (b := 1) (by omega) dX7_shells_74 ?_
        refine g_callV (rest := []) (ctX7_outlastsStanding (k := k) (c := r (1 + k)) (s := ((r 0) + i) - 1) ⟨hH, hso, hho, hpa, hwa, hwk, htw, hlo, hri, hla⟩ (by first | omega | exact hpa _ | exact hwa _ | exact hr1 _ (by omega) | exact hr6 _ (by omega) | exact hr11 _ (by omega) | exact hr _ | exact Nat.le_succ_of_le (hr _)) (by first | omega | exact hpa _ | exact hwa _ | exact hr1 _ (by omega) | exact hr6 _ (by omega) | exact hr11 _ (by omega) | exact hr _ | exact Nat.le_succ_of_le (hr _)) (by first | omega | exact hpa _ | exact hwa _ | exact hr1 _ (by omega) | exact hr6 _ (by omega) | exact hr11 _ (by omega) | exact hr _ | exact Nat.le_succ_of_le (hr _))) kX7_outlastsStanding lX7_196 (by decide) rfl rfl rfl rfl (by exact Nat.le_of_ble_eq_true rfl) dX7_shells_75 rfl (fun v u hvu => ?_)
        obtain ⟨rfl, t75, rfl⟩ := hvu
        refine g_st (st' := [.int (nI (bN (sFate h so (wa k) (r (1 + k)) (sTo h (pa k) (wa k) (r (1 + k)) 0 (sWater la ri (((r 0) + i) - 1) lo)) 0 (sWater la ri ((((r 0) + i) - 1) + 1) lo) 0 = 0)))]) rfl ?_
        refine b_if_ne (tgt := 84) dX7_shells_78 (by decide) (fun h78 => ?_) (fun h78 => ?_)
        · refine g_aload_n (i := 0) (j := 1) dX7_shells_84 rfl rfl ?_
          refine g_iload_n (i := 1) (j := 2) dX7_shells_85 rfl rfl ?_
          refine g_iload_n (i := 2) (j := 3) dX7_shells_86 rfl rfl ?_
          refine g_iload (j := 0) dX7_shells_87 rfl ?_
          refine g_callV (rest := []) (ctX7_isSafe (k := k) (c := r (1 + k)) (s := (r 0) + i) ⟨hH, hso, hho, hpa, hwa, hwk, htw, hlo, hri, hla⟩ (by first | omega | exact hpa _ | exact hwa _ | exact hr1 _ (by omega) | exact hr6 _ (by omega) | exact hr11 _ (by omega) | exact hr _ | exact Nat.le_succ_of_le (hr _)) (by first | omega | exact hpa _ | exact hwa _ | exact hr1 _ (by omega) | exact hr6 _ (by omega) | exact hr11 _ (by omega) | exact hr _ | exact Nat.le_succ_of_le (hr _)) (by first | omega | exact hpa _ | exact hwa _ | exact hr1 _ (by omega) | exact hr6 _ (by omega) | exact hr11 _ (by omega) | exact hr _ | exact Nat.le_succ_of_le (hr _))) kX7_isSafe lX7_200 (by decide) rfl rfl rfl rfl (by exact Nat.le_of_ble_eq_true rfl) dX7_shells_89 rfl (fun v u hvu => ?_)
          obtain ⟨rfl, t89, rfl⟩ := hvu
          refine g_st (st' := [.int (nI (bN (sSafeB h so la ri (pa k) (wa k) lo (r (1 + k)) ((r 0) + i) = true)))]) rfl ?_
          refine b_if_eq (tgt := 98) dX7_shells_92 (by decide) (fun h92 => ?_) (fun h92 => ?_)
          · refine n_inc (x := i) (j := 5) (lv' := [(4, .int (nI (i + 1))), (5, .int (nI ((r 0) + i))), (0, .ref 0), (1, .int (nI k)), (2, .int (nI (r (1 + k)))), (3, .int (rO m))]) dX7_shells_98 rfl (by decide) rfl ?_
            refine g_goto (tgt := 36) dX7_shells_101 (by decide) ?_
            have hok : ¬ (i ≠ 0 ∧ (sOkS h so la ri (wa k) lo (r (1 + k)) (r 0)) i = false) := by
              intro z
              first | omega | (rw [fst_ok, show r 0 + i - 1 + 1 = r 0 + i by omega] at h78; rw [show (sOkS h so la ri (wa k) lo (r (1 + k)) (r 0)) i = sOkS h so la ri (wa k) lo (r (1 + k)) (r 0 + i) 0 by unfold sOkS; rw [Nat.add_zero], h78] at z; simp at z)
            refine g_lv [2, 3, 4, 5, 0] rfl ?_
            refine g_lvE (lv' := [(0, .ref 0), (1, .int (nI k)), (2, .int (nI (r (1 + k)))), (3, .int (rO (m))), (4, .int (nI (i + 1)))]) rfl ?_
            refine g_post ?_ (ih (i + 1) (m) t89 (by omega))
            intro v u hvu
            rw [show sSh (sOkS h so la ri (wa k) lo (r (1 + k)) (r 0)) (fun i => sSafeB h so la ri (pa k) (wa k) lo (r (1 + k)) (r 0 + i)) (n + 1) i m = sSh (sOkS h so la ri (wa k) lo (r (1 + k)) (r 0)) (fun i => sSafeB h so la ri (pa k) (wa k) lo (r (1 + k)) (r 0 + i)) n (i + 1) (m) by rw [sSh, if_neg hok]; simp [h92]]
            exact hvu
          · refine g_iload (j := 5) dX7_shells_95 rfl ?_
            refine g_istore_n (i := 3) (lv' := [(3, .int (nI i)), (5, .int (nI ((r 0) + i))), (0, .ref 0), (1, .int (nI k)), (2, .int (nI (r (1 + k)))), (4, .int (nI i))]) dX7_shells_97 rfl (by decide) rfl ?_
            refine n_inc (x := i) (j := 5) (lv' := [(4, .int (nI (i + 1))), (3, .int (nI i)), (5, .int (nI ((r 0) + i))), (0, .ref 0), (1, .int (nI k)), (2, .int (nI (r (1 + k))))]) dX7_shells_98 rfl (by decide) rfl ?_
            refine g_goto (tgt := 36) dX7_shells_101 (by decide) ?_
            have hok : ¬ (i ≠ 0 ∧ (sOkS h so la ri (wa k) lo (r (1 + k)) (r 0)) i = false) := by
              intro z
              first | omega | (rw [fst_ok, show r 0 + i - 1 + 1 = r 0 + i by omega] at h78; rw [show (sOkS h so la ri (wa k) lo (r (1 + k)) (r 0)) i = sOkS h so la ri (wa k) lo (r (1 + k)) (r 0 + i) 0 by unfold sOkS; rw [Nat.add_zero], h78] at z; simp at z)
            refine g_lv [3, 4, 5, 1, 0] rfl ?_
            refine g_lvE (lv' := [(0, .ref 0), (1, .int (nI k)), (2, .int (nI (r (1 + k)))), (3, .int (rO (some i))), (4, .int (nI (i + 1)))]) rfl ?_
            refine g_post ?_ (ih (i + 1) (some i) t89 (by omega))
            intro v u hvu
            rw [show sSh (sOkS h so la ri (wa k) lo (r (1 + k)) (r 0)) (fun i => sSafeB h so la ri (pa k) (wa k) lo (r (1 + k)) (r 0 + i)) (n + 1) i m = sSh (sOkS h so la ri (wa k) lo (r (1 + k)) (r 0)) (fun i => sSafeB h so la ri (pa k) (wa k) lo (r (1 + k)) (r 0 + i)) n (i + 1) (some i) by rw [sSh, if_neg hok]; simp [h92]]
            exact hvu
        · refine g_goto (tgt := 104) dX7_shells_81 (by decide) ?_
          refine g_iload_n (i := 3) (j := 4) dX7_shells_104 rfl rfl ?_
          refine g_iret rfl rfl dX7_shells_105 ?_
          refine ⟨?_, _, rfl⟩
          rw [show sSh (sOkS h so la ri (wa k) lo (r (1 + k)) (r 0)) (fun i => sSafeB h so la ri (pa k) (wa k) lo (r (1 + k)) (r 0 + i)) (n + 1) i m = m by
            rw [fst_ok, show r 0 + i - 1 + 1 = r 0 + i by omega] at h78
            rw [sSh, if_pos ⟨by omega, by rw [show (sOkS h so la ri (wa k) lo (r (1 + k)) (r 0)) i = sOkS h so la ri (wa k) lo (r (1 + k)) (r 0 + i) 0 by unfold sOkS; rw [Nat.add_zero]]; simpa using h78⟩]]

theorem ctX7_shells {e1 e2 e9 e10 e11 e12 e13 e14 e17 e19 e21 e22 e25 e26 : va_E} {sd : Int64} {h so ho pa wa : Nat → Nat} {wk tw sf lo ri la : Nat} {r : Nat → Nat} {t : t6} (hg : gOK h so ho pa wa wk tw lo ri la) (hrk : rOK r) {k0 : Int32} : Ct mX7_shells 6 [.ref 0, .int k0] (wC (kO sd) e1 e2 (kG3 wk tw sf lo ri la) (kI 10 h) (kZ 10 so) (kI 10 ho) (kI 5 pa) (kI 5 wa) e9 e10 e11 e12 e13 e14 (kI 16 r) e17 e19 e21 e22 (kPt t) e25 e26) (fun v u => v = some (.int (pShells h so pa wa wk lo ri la r k0)) ∧ ∃ t2 : t6, u = wC (kO sd) e1 e2 (kG3 wk tw sf lo ri la) (kI 10 h) (kZ 10 so) (kI 10 ho) (kI 5 pa) (kI 5 wa) e9 e10 e11 e12 e13 e14 (kI 16 r) e17 e19 e21 e22 (kPt t2) e25 e26) := by
  refine Ct.of (by decide) (by exact Nat.le_of_ble_eq_true rfl) ?_
  show Go mX7_shells 6 0 [(0, .ref 0), (1, .int k0)] [] (wC (kO sd) e1 e2 (kG3 wk tw sf lo ri la) (kI 10 h) (kZ 10 so) (kI 10 ho) (kI 5 pa) (kI 5 wa) e9 e10 e11 e12 e13 e14 (kI 16 r) e17 e19 e21 e22 (kPt t) e25 e26) (fun v u => v = some (.int (pShells h so pa wa wk lo ri la r k0)) ∧ ∃ t2 : t6, u = wC (kO sd) e1 e2 (kG3 wk tw sf lo ri la) (kI 10 h) (kZ 10 so) (kI 10 ho) (kI 5 pa) (kI 5 wa) e9 e10 e11 e12 e13 e14 (kI 16 r) e17 e19 e21 e22 (kPt t2) e25 e26)
  have hrk0 := hrk
  obtain ⟨hH, hso, hho, hpa, hwa, hwk, htw, hlo, hri, hla⟩ := hg
  obtain ⟨hr, hr1, hr6, hr11⟩ := hrk
  refine g_aload_n (i := 0) (j := 0) dX7_shells_0 rfl rfl ?_
  refine g_iload_n (i := 1) (j := 1) dX7_shells_1 rfl rfl ?_
  refine c_V (st1 := [.int (nI (bN (0 ≤ k0.toInt ∧ k0.toInt < wk)))]) (ctX7_isWalker (x := k0) (by omega)) kX7_isWalker lX7_138 (by decide) rfl rfl rfl rfl (by exact Nat.le_of_ble_eq_true rfl) dX7_shells_2 rfl rfl ?_
  refine b_if_ne (tgt := 10) dX7_shells_5 (by decide) (fun h5 => ?_) (fun h5 => ?_)
  · obtain ⟨k, hk, rfl⟩ := raw_lt h5
    have ek : cN (nI k) = k := cN_n (by omega)
    have q1 := hr1 k (by omega)
    have q0 := hr 0
    refine g_aload_n (i := 0) (j := 0) dX7_shells_10 rfl rfl ?_
    refine g_iload_n (i := 1) (j := 1) dX7_shells_11 rfl rfl ?_
    refine c_V (st1 := [.int (nI (bN (r (11 + k) = 0)))]) (ctX7_isWalking (k := k) hr (by omega)) kX7_isWalking lX7_159 (by decide) rfl rfl rfl rfl (by exact Nat.le_of_ble_eq_true rfl) dX7_shells_12 rfl rfl ?_
    refine b_if_ne (tgt := 21) dX7_shells_15 (by decide) (fun h15 => ?_) (fun h15 => ?_)
    · refine g_aload_n (i := 0) (j := 0) dX7_shells_21 rfl rfl ?_
      refine g_get fX7_29 rfl rfl dX7_shells_22 ?_
      refine g_iload_n (i := 1) (j := 1) dX7_shells_25 rfl rfl ?_
      refine c_V (st1 := [.int (nI (r (1 + k)))]) (ctX2_cellOf (k := k) (by omega)) kX2_cellOf lX7_147 (by decide) rfl rfl rfl rfl (by exact Nat.le_of_ble_eq_true rfl) dX7_shells_26 rfl rfl ?_
      refine g_istore_n (i := 2) (lv' := [(2, .int (nI (r (1 + k)))), (0, .ref 0), (1, .int (nI k))]) dX7_shells_29 rfl (by decide) rfl ?_
      refine g_bipush (v := (-9)) dX7_shells_30 (by decide) ?_
      refine g_istore_n (i := 3) (lv' := [(3, .int (-9)), (2, .int (nI (r (1 + k)))), (0, .ref 0), (1, .int (nI k))]) dX7_shells_32 rfl (by decide) rfl ?_
      refine g_iconst (v := nI 0) dX7_shells_33 (by decide) ?_
      refine g_istore (lv' := [(4, .int (nI 0)), (3, .int (-9)), (2, .int (nI (r (1 + k)))), (0, .ref 0), (1, .int (nI k))]) dX7_shells_34 (by decide) rfl ?_
      refine g_lv [3, 4, 2, 1, 0] rfl ?_
      refine g_lvE (lv' := [(0, .ref 0), (1, .int (nI k)), (2, .int (nI (r (1 + k)))), (3, .int (rO none)), (4, .int (nI 0))]) rfl ?_
      refine g_post ?_ (lp_shells ⟨hH, hso, hho, hpa, hwa, hwk, htw, hlo, hri, hla⟩ hrk0 (by omega) (41 - r 0) 0 none t (by omega))
      intro v u hvu
      unfold pShells
      rw [if_pos ((iW_n (by omega)).mpr hk), ek, if_pos h15]
      exact hvu
    · refine g_bipush (v := (-3)) dX7_shells_18 (by decide) ?_
      refine g_iret rfl rfl dX7_shells_20 ?_
      refine ⟨?_, _, rfl⟩
      unfold pShells
      rw [if_pos ((iW_n (by omega)).mpr hk), ek, if_neg h15]
  · refine g_iconst (v := (-1)) dX7_shells_8 (by decide) ?_
    refine g_iret rfl rfl dX7_shells_9 ?_
    refine ⟨?_, _, rfl⟩
    unfold pShells
    rw [if_neg h5]

/-- a step of all: the row when the first n have gone; who is lost -/
def sRow (h so pa wa : Nat → Nat) (la ri lo : Nat) (r : Nat → Nat) : Nat → Nat → Nat
  | 0 => r
  | n + 1 => if sRow h so pa wa la ri lo r n (11 + n) = 0 then va_up (va_up (sRow h so pa wa la ri lo r n) (1 + n) (sMc h pa wa la ri lo (sRow h so pa wa la ri lo r n) n)) (11 + n) (sMf h so pa wa la ri lo (sRow h so pa wa la ri lo r n) n) else sRow h so pa wa la ri lo r n
def sLost (h so pa wa : Nat → Nat) (la ri lo : Nat) (r : Nat → Nat) (n : Nat) : Bool := decide (sRow h so pa wa la ri lo r n (11 + n) = 0) && decide (sMf h so pa wa la ri lo (sRow h so pa wa la ri lo r n) n = 2 ∨ sMf h so pa wa la ri lo (sRow h so pa wa la ri lo r n) n = 3)
theorem va_up_same {α : Type} (f : Nat → α) (k : Nat) (v : α) : va_up f k v k = v := by simp [va_up]
theorem va_up_other {α : Type} {f : Nat → α} {k j : Nat} {v : α} (h : j ≠ k) : va_up f k v j = f j := by simp [va_up, h]
theorem rOK_cell {r : Nat → Nat} (h : rOK r) {k c : Nat} (hk : k < 5) (hc : c ≤ 9) : rOK (va_up r (1 + k) c) := by
  obtain ⟨h0, h1, h6, h11⟩ := h
  refine ⟨fun j => ?_, fun j hj => ?_, fun j hj => ?_, fun j hj => ?_⟩
  · by_cases e : j = 1 + k
    · subst e; rw [va_up_same]; omega
    · rw [va_up_other e]; exact h0 j
  · by_cases e : 1 + j = 1 + k
    · rw [e, va_up_same]; exact hc
    · rw [va_up_other e]; exact h1 j hj
  · rw [va_up_other (by omega)]; exact h6 j hj
  · rw [va_up_other (by omega)]; exact h11 j hj
theorem rOK_way {r : Nat → Nat} (h : rOK r) {k c : Nat} (hk : k < 5) (hc : c ≤ 2) : rOK (va_up r (6 + k) c) := by
  obtain ⟨h0, h1, h6, h11⟩ := h
  refine ⟨fun j => ?_, fun j hj => ?_, fun j hj => ?_, fun j hj => ?_⟩
  · by_cases e : j = 6 + k
    · subst e; rw [va_up_same]; omega
    · rw [va_up_other e]; exact h0 j
  · rw [va_up_other (by omega)]; exact h1 j hj
  · by_cases e : 6 + j = 6 + k
    · rw [e, va_up_same]; exact hc
    · rw [va_up_other e]; exact h6 j hj
  · rw [va_up_other (by omega)]; exact h11 j hj
theorem rOK_fate {r : Nat → Nat} (h : rOK r) {k c : Nat} (hk : k < 5) (hc : c ≤ 4) : rOK (va_up r (11 + k) c) := by
  obtain ⟨h0, h1, h6, h11⟩ := h
  refine ⟨fun j => ?_, fun j hj => ?_, fun j hj => ?_, fun j hj => ?_⟩
  · by_cases e : j = 11 + k
    · subst e; rw [va_up_same]; omega
    · rw [va_up_other e]; exact h0 j
  · rw [va_up_other (by omega)]; exact h1 j hj
  · rw [va_up_other (by omega)]; exact h6 j hj
  · by_cases e : 11 + j = 11 + k
    · rw [e, va_up_same]; exact hc
    · rw [va_up_other e]; exact h11 j hj
theorem rOK_time {r : Nat → Nat} (h : rOK r) {c : Nat} (hc : c ≤ 40) : rOK (va_up r 0 c) := by
  obtain ⟨h0, h1, h6, h11⟩ := h
  refine ⟨fun j => ?_, fun j hj => ?_, fun j hj => ?_, fun j hj => ?_⟩
  · by_cases e : j = 0
    · subst e; rw [va_up_same]; omega
    · rw [va_up_other e]; exact h0 j
  · rw [va_up_other (by omega)]; exact h1 j hj
  · rw [va_up_other (by omega)]; exact h6 j hj
  · rw [va_up_other (by omega)]; exact h11 j hj
theorem sRow_ok {h so pa wa : Nat → Nat} {la ri lo : Nat} {r : Nat → Nat} (hr : rOK r) : ∀ n, n ≤ 5 → rOK (sRow h so pa wa la ri lo r n)
  | 0, _ => hr
  | n + 1, hn => by
    have ih := sRow_ok (h := h) (so := so) (pa := pa) (wa := wa) (la := la) (ri := ri) (lo := lo) hr n (by omega)
    rw [sRow]
    split
    · exact rOK_fate (rOK_cell ih (by omega) (sMc_le _ _ _ _ _ _ _ _ (ih.2.1 n (by omega)))) (by omega) (sMf_le _ _ _ _ _ _ _ _ _)
    · exact ih
theorem sRow_0 {h so pa wa : Nat → Nat} {la ri lo : Nat} {r : Nat → Nat} : ∀ n, sRow h so pa wa la ri lo r n 0 = r 0
  | 0 => rfl
  | n + 1 => by
    rw [sRow]
    split
    · rw [va_up_other (by omega), va_up_other (by omega), sRow_0 n]
    · exact sRow_0 n
def pStep (h so pa wa : Nat → Nat) (wk lo ri la : Nat) (r : Nat → Nat) : Int32 := if r 0 = 40 then -3 else nI (sSet (sLost h so pa wa la ri lo r) wk)
def sStepR (h so pa wa : Nat → Nat) (wk lo ri la : Nat) (r : Nat → Nat) : Nat → Nat := va_up (sRow h so pa wa la ri lo r wk) 0 (r 0 + 1)
theorem lp_step {e1 e2 e9 e10 e11 e12 e13 e14 e21 e22 e25 e26 : va_E} {nx ct : Nat} {q : Nat → Nat} {sd : Int64} {h so ho pa wa : Nat → Nat} {wk tw sf lo ri la : Nat} {r : Nat → Nat} (hg : gOK h so ho pa wa wk tw lo ri la) (hrk : rOK r) (hst : r 0 < 40) : ∀ (n i : Nat) (t : t6), i + n = wk → Go mX7_step 4 30 [(0, .ref 0), (1, .int (nI (sSet (sLost h so pa wa la ri lo r) i))), (2, .int (nI i))] [] (wC (kO sd) e1 e2 (kG3 wk tw sf lo ri la) (kI 10 h) (kZ 10 so) (kI 10 ho) (kI 5 pa) (kI 5 wa) e9 e10 e11 e12 e13 e14 (kI 16 (sRow h so pa wa la ri lo r i)) (kA nx ct) (kI 256 q) e21 e22 (kPt t) e25 e26) (fun v u => v = some (.int (nI (sSet (sLost h so pa wa la ri lo r) wk))) ∧ ∃ t2 : t6, u = wC (kO sd) e1 e2 (kG3 wk tw sf lo ri la) (kI 10 h) (kZ 10 so) (kI 10 ho) (kI 5 pa) (kI 5 wa) e9 e10 e11 e12 e13 e14 (kI 16 (sStepR h so pa wa wk lo ri la r)) (kA nx ct) (kI 256 q) e21 e22 (kPt t2) e25 e26) := by
  have hg0 := hg
  obtain ⟨hH, hso, hho, hpa, hwa, hwk, htw, hlo, hri, hla⟩ := hg
  intro n
  induction n with
  | zero =>
    intro i t hi
    obtain rfl : i = wk := by omega
    refine g_iload_n (i := 2) (j := 2) dX7_step_30 rfl rfl ?_
    refine g_aload_n (i := 0) (j := 0) dX7_step_31 rfl rfl ?_
    refine g_get fX7_19 rfl rfl dX7_step_32 ?_
    refine g_get fX7_89 rfl rfl dX7_step_35 ?_
    refine n_icmp_ge (tgt := 69) (by omega) (by omega) dX7_step_38 (by decide) (fun h38 => ?_) (fun h38 => ?_)
    · refine g_aload_n (i := 0) (j := 0) dX7_step_69 rfl rfl ?_
      refine g_get fX7_29 rfl rfl dX7_step_70 ?_
      refine g_aload_n (i := 0) (j := 0) dX7_step_73 rfl rfl ?_
      refine g_get fX7_29 rfl rfl dX7_step_74 ?_
      refine c_V (st1 := [.int (nI ((sRow h so pa wa la ri lo r i) 0)), .ref 15]) (ctX2_time  ) kX2_time lX7_95 (by decide) rfl rfl rfl rfl (by exact Nat.le_of_ble_eq_true rfl) dX7_step_77 rfl rfl ?_
      refine g_iconst (v := nI 1) dX7_step_80 (by decide) ?_
      refine n_iadd (a := ((sRow h so pa wa la ri lo r i) 0)) (b := 1) dX7_step_81 ?_
      refine c_V (st1 := []) (ctX2_setTime (x := ((sRow h so pa wa la ri lo r i) 0) + 1) ) kX2_setTime lX7_173 (by decide) rfl rfl rfl rfl (by exact Nat.le_of_ble_eq_true rfl) dX7_step_82 rfl rfl ?_
      refine g_iload_n (i := 1) (j := 1) dX7_step_85 rfl rfl ?_
      refine g_iret rfl rfl dX7_step_86 ?_
      refine ⟨rfl, t, ?_⟩
      unfold sStepR
      rw [show sRow h so pa wa la ri lo r i 0 = r 0 from sRow_0 i]
    · exfalso; omega

  | succ n ih =>
    intro i t hi
    have hrk2 : rOK (sRow h so pa wa la ri lo r i) := sRow_ok hrk i (by omega)
    obtain ⟨hr, hr1, hr6, hr11⟩ := id hrk2
    have q0 : sRow h so pa wa la ri lo r i 0 = r 0 := sRow_0 i
    refine g_iload_n (i := 2) (j := 2) dX7_step_30 rfl rfl ?_
    refine g_aload_n (i := 0) (j := 0) dX7_step_31 rfl rfl ?_
    refine g_get fX7_19 rfl rfl dX7_step_32 ?_
    refine g_get fX7_89 rfl rfl dX7_step_35 ?_
    refine n_icmp_ge (tgt := 69) (by omega) (by omega) dX7_step_38 (by decide) (fun h38 => ?_) (fun h38 => ?_)
    · exfalso; omega
    · refine g_aload_n (i := 0) (j := 0) dX7_step_41 rfl rfl ?_
      refine g_iload_n (i := 2) (j := 2) dX7_step_42 rfl rfl ?_
      refine c_V (st1 := [.int (nI (bN ((sRow h so pa wa la ri lo r i) (11 + i) = 0)))]) (ctX7_isWalking (k := i) hr (by omega)) kX7_isWalking lX7_159 (by decide) rfl rfl rfl rfl (by exact Nat.le_of_ble_eq_true rfl) dX7_step_43 rfl rfl ?_
      refine b_if_eq (tgt := 63) dX7_step_46 (by decide) (fun h46 => ?_) (fun h46 => ?_)
      · refine n_inc (x := i) (j := 2) (lv' := [(2, .int (nI (i + 1))), (0, .ref 0), (1, .int (nI (sSet (sLost h so pa wa la ri lo r) i)))]) dX7_step_63 rfl (by decide) rfl ?_
        refine g_goto (tgt := 30) dX7_step_66 (by decide) ?_
        have eR : sRow h so pa wa la ri lo r (i + 1) = sRow h so pa wa la ri lo r i := by rw [sRow, if_neg h46]
        have eL : (sLost h so pa wa la ri lo r) i = false := by unfold sLost; rw [decide_eq_false h46]; rfl
        have eT : sSet (sLost h so pa wa la ri lo r) (i + 1) = sSet (sLost h so pa wa la ri lo r) i := by rw [sSet, eL]; simp
        refine g_lv [1, 2, 0] rfl ?_
        refine g_lvE (lv' := [(0, .ref 0), (1, .int (nI (sSet (sLost h so pa wa la ri lo r) (i + 1)))), (2, .int (nI (i + 1)))]) (by rw [eT]; rfl) ?_
        refine g_ws (ws' := wC (kO sd) e1 e2 (kG3 wk tw sf lo ri la) (kI 10 h) (kZ 10 so) (kI 10 ho) (kI 5 pa) (kI 5 wa) e9 e10 e11 e12 e13 e14 (kI 16 (sRow h so pa wa la ri lo r (i + 1))) (kA nx ct) (kI 256 q) e21 e22 (kPt t) e25 e26) (by rw [eR]) ?_
        exact ih (i + 1) t (by omega)
      · refine g_aload_n (i := 0) (j := 0) dX7_step_49 rfl rfl ?_
        refine g_iload_n (i := 2) (j := 2) dX7_step_50 rfl rfl ?_
        refine g_callV (rest := []) (ctX7_moveOne (k := i) ⟨hH, hso, hho, hpa, hwa, hwk, htw, hlo, hri, hla⟩ hrk2 (by omega) (by omega)) kX7_moveOne lX7_170 (by decide) rfl rfl rfl rfl (by exact Nat.le_of_ble_eq_true rfl) dX7_step_51 rfl (fun v u hvu => ?_)
        obtain ⟨rfl, t51, rfl⟩ := hvu
        refine g_st (st' := [.int (nI (bN (sMf h so pa wa la ri lo (sRow h so pa wa la ri lo r i) i = 2 ∨ sMf h so pa wa la ri lo (sRow h so pa wa la ri lo r i) i = 3)))]) rfl ?_
        refine b_if_eq (tgt := 63) dX7_step_54 (by decide) (fun h54 => ?_) (fun h54 => ?_)
        · refine n_inc (x := i) (j := 2) (lv' := [(2, .int (nI (i + 1))), (0, .ref 0), (1, .int (nI (sSet (sLost h so pa wa la ri lo r) i)))]) dX7_step_63 rfl (by decide) rfl ?_
          refine g_goto (tgt := 30) dX7_step_66 (by decide) ?_
          have eR : sRow h so pa wa la ri lo r (i + 1) = va_up (va_up (sRow h so pa wa la ri lo r i) (1 + i) (sMc h pa wa la ri lo (sRow h so pa wa la ri lo r i) i)) (11 + i) (sMf h so pa wa la ri lo (sRow h so pa wa la ri lo r i) i) := by rw [sRow, if_pos h46]
          have eL : (sLost h so pa wa la ri lo r) i = false := by unfold sLost; rw [decide_eq_true h46, decide_eq_false h54]; rfl
          have eT : sSet (sLost h so pa wa la ri lo r) (i + 1) = sSet (sLost h so pa wa la ri lo r) i := by rw [sSet, eL]; simp
          refine g_lv [1, 2, 0] rfl ?_
          refine g_lvE (lv' := [(0, .ref 0), (1, .int (nI (sSet (sLost h so pa wa la ri lo r) (i + 1)))), (2, .int (nI (i + 1)))]) (by rw [eT]; rfl) ?_
          refine g_ws (ws' := wC (kO sd) e1 e2 (kG3 wk tw sf lo ri la) (kI 10 h) (kZ 10 so) (kI 10 ho) (kI 5 pa) (kI 5 wa) e9 e10 e11 e12 e13 e14 (kI 16 (sRow h so pa wa la ri lo r (i + 1))) (kA nx ct) (kI 256 q) e21 e22 (kPt t51) e25 e26) (by rw [eR]) ?_
          exact ih (i + 1) t51 (by omega)
        · refine g_iload_n (i := 1) (j := 1) dX7_step_57 rfl rfl ?_
          refine g_iconst (v := nI 1) dX7_step_58 (by decide) ?_
          refine g_iload_n (i := 2) (j := 2) dX7_step_59 rfl rfl ?_
          refine g_ishl dX7_step_60 ?_
          refine g_topi (y := (nI 1 <<< (nI i &&& 31))) rfl ?_
          refine g_ior dX7_step_61 ?_
          refine g_topi (y := (nI (sSet (sLost h so pa wa la ri lo r) i + 2 ^ i))) (or_bit i (by omega) _ (sSet_lt _ i)) ?_
          refine g_istore_n (i := 1) (lv' := [(1, .int (nI (sSet (sLost h so pa wa la ri lo r) i + 2 ^ i))), (0, .ref 0), (2, .int (nI i))]) dX7_step_62 rfl (by decide) rfl ?_
          refine n_inc (x := i) (j := 2) (lv' := [(2, .int (nI (i + 1))), (1, .int (nI (sSet (sLost h so pa wa la ri lo r) i + 2 ^ i))), (0, .ref 0)]) dX7_step_63 rfl (by decide) rfl ?_
          refine g_goto (tgt := 30) dX7_step_66 (by decide) ?_
          have eR : sRow h so pa wa la ri lo r (i + 1) = va_up (va_up (sRow h so pa wa la ri lo r i) (1 + i) (sMc h pa wa la ri lo (sRow h so pa wa la ri lo r i) i)) (11 + i) (sMf h so pa wa la ri lo (sRow h so pa wa la ri lo r i) i) := by rw [sRow, if_pos h46]
          have eL : (sLost h so pa wa la ri lo r) i = true := by unfold sLost; rw [decide_eq_true h46, decide_eq_true h54]; rfl
          have eT : sSet (sLost h so pa wa la ri lo r) (i + 1) = sSet (sLost h so pa wa la ri lo r) i + 2 ^ i := by rw [sSet, eL]; simp
          refine g_lv [2, 1, 0] rfl ?_
          refine g_lvE (lv' := [(0, .ref 0), (1, .int (nI (sSet (sLost h so pa wa la ri lo r) (i + 1)))), (2, .int (nI (i + 1)))]) (by rw [eT]; rfl) ?_
          refine g_ws (ws' := wC (kO sd) e1 e2 (kG3 wk tw sf lo ri la) (kI 10 h) (kZ 10 so) (kI 10 ho) (kI 5 pa) (kI 5 wa) e9 e10 e11 e12 e13 e14 (kI 16 (sRow h so pa wa la ri lo r (i + 1))) (kA nx ct) (kI 256 q) e21 e22 (kPt t51) e25 e26) (by rw [eR]) ?_
          exact ih (i + 1) t51 (by omega)

theorem ctX7_step {e1 e2 e9 e10 e11 e12 e13 e14 e21 e22 e25 e26 : va_E} {nx ct : Nat} {q : Nat → Nat} {sd : Int64} {h so ho pa wa : Nat → Nat} {wk tw sf lo ri la : Nat} {r : Nat → Nat} {t : t6} (hg : gOK h so ho pa wa wk tw lo ri la) (hrk : rOK r) (hst : r 0 ≤ 40) (hnx : nx < 16) (hct : ct ≤ 16) : Ct mX7_step 4 [.ref 0] (wC (kO sd) e1 e2 (kG3 wk tw sf lo ri la) (kI 10 h) (kZ 10 so) (kI 10 ho) (kI 5 pa) (kI 5 wa) e9 e10 e11 e12 e13 e14 (kI 16 r) (kA nx ct) (kI 256 q) e21 e22 (kPt t) e25 e26) (fun v u => v = some (.int (pStep h so pa wa wk lo ri la r)) ∧ ∃ t2 : t6, u = if r 0 = 40 then wC (kO sd) e1 e2 (kG3 wk tw sf lo ri la) (kI 10 h) (kZ 10 so) (kI 10 ho) (kI 5 pa) (kI 5 wa) e9 e10 e11 e12 e13 e14 (kI 16 r) (kA nx ct) (kI 256 q) e21 e22 (kPt t2) e25 e26 else wC (kO sd) e1 e2 (kG3 wk tw sf lo ri la) (kI 10 h) (kZ 10 so) (kI 10 ho) (kI 5 pa) (kI 5 wa) e9 e10 e11 e12 e13 e14 (kI 16 (sStepR h so pa wa wk lo ri la r)) (kA (nxP nx) (ctP ct)) (kI 256 (va_cpy r q 0 (nx * 16) 16)) e21 e22 (kPt t2) e25 e26) := by
  refine Ct.of (by decide) (by exact Nat.le_of_ble_eq_true rfl) ?_
  show Go mX7_step 4 0 [(0, .ref 0)] [] (wC (kO sd) e1 e2 (kG3 wk tw sf lo ri la) (kI 10 h) (kZ 10 so) (kI 10 ho) (kI 5 pa) (kI 5 wa) e9 e10 e11 e12 e13 e14 (kI 16 r) (kA nx ct) (kI 256 q) e21 e22 (kPt t) e25 e26) (fun v u => v = some (.int (pStep h so pa wa wk lo ri la r)) ∧ ∃ t2 : t6, u = if r 0 = 40 then wC (kO sd) e1 e2 (kG3 wk tw sf lo ri la) (kI 10 h) (kZ 10 so) (kI 10 ho) (kI 5 pa) (kI 5 wa) e9 e10 e11 e12 e13 e14 (kI 16 r) (kA nx ct) (kI 256 q) e21 e22 (kPt t2) e25 e26 else wC (kO sd) e1 e2 (kG3 wk tw sf lo ri la) (kI 10 h) (kZ 10 so) (kI 10 ho) (kI 5 pa) (kI 5 wa) e9 e10 e11 e12 e13 e14 (kI 16 (sStepR h so pa wa wk lo ri la r)) (kA (nxP nx) (ctP ct)) (kI 256 (va_cpy r q 0 (nx * 16) 16)) e21 e22 (kPt t2) e25 e26)
  have hg0 := hg
  have hrk0 := hrk
  obtain ⟨hH, hso, hho, hpa, hwa, hwk, htw, hlo, hri, hla⟩ := hg
  obtain ⟨hr, hr1, hr6, hr11⟩ := hrk
  refine g_aload_n (i := 0) (j := 0) dX7_step_0 rfl rfl ?_
  refine g_get fX7_29 rfl rfl dX7_step_1 ?_
  refine c_V (st1 := [.int (nI (r 0))]) (ctX2_time  ) kX2_time lX7_95 (by decide) rfl rfl rfl rfl (by exact Nat.le_of_ble_eq_true rfl) dX7_step_4 rfl rfl ?_
  refine g_bipush (v := nI 40) dX7_step_7 (by decide) ?_
  refine n_icmp_lt (tgt := 15) (by omega) (rng_lit 40 rfl) dX7_step_9 (by decide) (fun h9 => ?_) (fun h9 => ?_)
  · refine g_aload_n (i := 0) (j := 0) dX7_step_15 rfl rfl ?_
    refine g_get fX7_36 rfl rfl dX7_step_16 ?_
    refine g_aload_n (i := 0) (j := 0) dX7_step_19 rfl rfl ?_
    refine g_get fX7_29 rfl rfl dX7_step_20 ?_
    refine c_V (st1 := []) (ctX0_remember  (by omega) (by omega)) kX0_remember lX7_162 (by decide) rfl rfl rfl rfl (by exact Nat.le_of_ble_eq_true rfl) dX7_step_23 rfl rfl ?_
    refine g_iconst (v := nI 0) dX7_step_26 (by decide) ?_
    refine g_istore_n (i := 1) (lv' := [(1, .int (nI 0)), (0, .ref 0)]) dX7_step_27 rfl (by decide) rfl ?_
    refine g_iconst (v := nI 0) dX7_step_28 (by decide) ?_
    refine g_istore_n (i := 2) (lv' := [(2, .int (nI 0)), (1, .int (nI 0)), (0, .ref 0)]) dX7_step_29 rfl (by decide) rfl ?_
    refine g_lv [2, 1, 0] rfl ?_
    refine g_post ?_ (lp_step hg0 hrk0 (by omega) wk 0 t (by omega))
    intro v u hvu
    obtain ⟨e, t2, e2⟩ := hvu
    refine ⟨?_, t2, ?_⟩
    · unfold pStep
      rw [if_neg (by omega)]
      exact e
    · rw [if_neg (by omega)]
      exact e2
  · refine g_bipush (v := (-3)) dX7_step_12 (by decide) ?_
    refine g_iret rfl rfl dX7_step_14 ?_
    refine ⟨?_, t, ?_⟩
    · unfold pStep
      rw [if_pos (by omega)]
    · rw [if_pos (by omega)]

