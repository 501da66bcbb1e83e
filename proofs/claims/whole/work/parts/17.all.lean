/-! part 17: saved; all together (ts_bit: out of kit/laws/BITS.to-paste) -/
theorem ts_bit {w : Int64} {s : UInt64} {j : Nat} (hj : j < 64) (hs : s.toNat = j) : ((w.toUInt64 >>> s).toInt64 &&& 1) = 0 ↔ w.toBitVec.getLsbD j = false := by
  have e : (w.toUInt64 >>> s).toInt64.toBitVec = w.toBitVec >>> j := by
    apply BitVec.eq_of_toNat_eq
    show (w.toUInt64 >>> s).toNat = _
    rw [UInt64.toNat_shiftRight, hs, Nat.mod_eq_of_lt hj, BitVec.toNat_ushiftRight]
    rfl
  rw [← Int64.toBitVec_inj, Int64.toBitVec_and, e]
  show w.toBitVec >>> j &&& 1#64 = 0#64 ↔ _
  constructor
  · intro h
    have t := congrArg (fun x => x.getLsbD 0) h
    simpa using t
  · intro h
    apply BitVec.eq_of_getLsbD_eq
    intro i hi
    cases i with
    | zero => simp [h]
    | succ i => simp
/-- who lives on its own; who is in need; how many can go up -/
def sLiv (h so pa wa : Nat → Nat) (la ri lo : Nat) (r : Nat → Nat) (w : Nat) : Bool := decide (r (11 + w) = 1 ∨ r (11 + w) = 4) || (decide (r (11 + w) = 0) && sSafeB h so la ri (pa w) (wa w) lo (r (1 + w)) (r 0))
def sNeed (h so pa wa : Nat → Nat) (la ri lo : Nat) (r : Nat → Nat) (w : Nat) : Bool := decide (r (11 + w) = 0) && !sSafeB h so la ri (pa w) (wa w) lo (r (1 + w)) (r 0)
def sSum (f : Nat → Nat) : Nat → Nat
  | 0 => 0
  | n + 1 => sSum f n + f (n + 1)
def sGoUp (h so ho pa wa : Nat → Nat) (wk la ri lo : Nat) (r : Nat → Nat) (c : Nat) : Nat := min (ho c - sUp r wk c) (sCnt (fun w => sNeed h so pa wa la ri lo r w && decide (r (1 + w) = c)) wk)
def pSaved (h so ho pa wa : Nat → Nat) (wk lo ri la : Nat) (r : Nat → Nat) : Nat := sCnt (sLiv h so pa wa la ri lo r) wk + sSum (sGoUp h so ho pa wa wk la ri lo r) 8
theorem sSum_le {f : Nat → Nat} {b : Nat} (h : ∀ c, f c ≤ b) : ∀ n, sSum f n ≤ n * b
  | 0 => by simp [sSum]
  | n + 1 => by
    have := sSum_le h n
    have := h (n + 1)
    rw [sSum, Nat.succ_mul]; omega
theorem min_nI {a b : Nat} (ha : a < 2 ^ 31) (hb : b < 2 ^ 31) : (if nI b < nI a then nI b else nI a) = nI (min a b) := by
  by_cases h : b < a
  · rw [if_pos ((nI_ltI hb ha).mpr h), Nat.min_eq_right (by omega)]
  · rw [if_neg (fun z => h ((nI_ltI hb ha).mp z)), Nat.min_eq_left (by omega)]
theorem max_nI {a b : Nat} (ha : a < 2 ^ 31) (hb : b < 2 ^ 31) : (if nI a < nI b then nI b else nI a) = nI (max a b) := by
  by_cases h : a < b
  · rw [if_pos ((nI_ltI ha hb).mpr h), Nat.max_eq_right (by omega)]
  · rw [if_neg (fun z => h ((nI_ltI ha hb).mp z)), Nat.max_eq_left (by omega)]
theorem lp_saved2 {e1 e2 e9 e10 e11 e12 e13 e14 e17 e19 e21 e22 e25 e26 : va_E} {sd : Int64} {h so ho pa wa : Nat → Nat} {wk tw sf lo ri la : Nat} {r : Nat → Nat} {t : t6} (hg : gOK h so ho pa wa wk tw lo ri la) (hrk : rOK r) (hup : ∀ c, c ≤ 9 → sUp r wk c ≤ ho c) : ∀ (n c : Nat), c + n = 8 → Go mX7_saved 6 98 [(0, .ref 0), (1, .int (nI (sCnt (sLiv h so pa wa la ri lo r) wk + sSum (sGoUp h so ho pa wa wk la ri lo r) c))), (2, .int (nI (sSet (sNeed h so pa wa la ri lo r) wk))), (3, .int (nI (c + 1)))] [] (wC (kO sd) e1 e2 (kG3 wk tw sf lo ri la) (kI 10 h) (kZ 10 so) (kI 10 ho) (kI 5 pa) (kI 5 wa) e9 e10 e11 e12 e13 e14 (kI 16 r) e17 e19 e21 e22 (kPt t) e25 e26) (fun v u => v = some (.int (nI (pSaved h so ho pa wa wk lo ri la r))) ∧ ∃ t2 : t6, u = wC (kO sd) e1 e2 (kG3 wk tw sf lo ri la) (kI 10 h) (kZ 10 so) (kI 10 ho) (kI 5 pa) (kI 5 wa) e9 e10 e11 e12 e13 e14 (kI 16 r) e17 e19 e21 e22 (kPt t2) e25 e26) := by
  obtain ⟨hH, hso, hho, hpa, hwa, hwk, htw, hlo, hri, hla⟩ := hg
  obtain ⟨hr, hr1, hr6, hr11⟩ := hrk
  intro n
  induction n with
  | zero =>
    intro c hc
    obtain rfl : c = 8 := by omega
    refine g_iload_n (i := 3) (j := 3) dX7_saved_98 rfl rfl ?_
    refine g_bipush (v := nI 9) dX7_saved_99 (by decide) ?_
    refine n_icmp_ge (tgt := 130) (rng_lit 9 rfl) (rng_lit 9 rfl) dX7_saved_101 (by decide) (fun h101 => ?_) (fun h101 => ?_)
    · refine g_iload_n (i := 1) (j := 1) dX7_saved_130 rfl rfl ?_
      refine g_iret rfl rfl dX7_saved_131 ?_
      exact ⟨rfl, t, rfl⟩
    · exact absurd h101 (by decide)

  | succ n ih =>
    intro c hc
    have qh := hho (c + 1)
    have qu := sUp_le r wk (c + 1)
    have qq := hup (c + 1) (by omega)
    have qc := sCnt_le (fun w => decide (sSet (sNeed h so pa wa la ri lo r) wk / 2 ^ w % 2 = 1) && decide (r (1 + w) = c + 1)) 5
    refine g_iload_n (i := 3) (j := 3) dX7_saved_98 rfl rfl ?_
    refine g_bipush (v := nI 9) dX7_saved_99 (by decide) ?_
    refine n_icmp_ge (tgt := 130) (by omega) (rng_lit 9 rfl) dX7_saved_101 (by decide) (fun h101 => ?_) (fun h101 => ?_)
    · exfalso; omega
    · refine g_iload_n (i := 1) (j := 1) dX7_saved_104 rfl rfl ?_
      refine g_aload_n (i := 0) (j := 0) dX7_saved_105 rfl rfl ?_
      refine g_iload_n (i := 3) (j := 3) dX7_saved_106 rfl rfl ?_
      refine c_V (st1 := [.int (nI (ho (c + 1)) - nI (sUp r wk (c + 1))), .int (nI (sCnt (sLiv h so pa wa la ri lo r) wk + sSum (sGoUp h so ho pa wa wk la ri lo r) c))]) (ctX7_roomOn (c := c + 1) hr (by omega) (by first | omega | exact hpa _ | exact hwa _ | exact hr1 _ (by omega) | exact hr6 _ (by omega) | exact hr11 _ (by omega) | exact hr _ | exact Nat.le_succ_of_le (hr _))) kX7_roomOn lX7_176 (by decide) rfl rfl rfl rfl (by exact Nat.le_of_ble_eq_true rfl) dX7_saved_107 rfl rfl ?_
      refine g_aload_n (i := 0) (j := 0) dX7_saved_110 rfl rfl ?_
      refine g_get fX7_29 rfl rfl dX7_saved_111 ?_
      refine g_iload_n (i := 3) (j := 3) dX7_saved_114 rfl rfl ?_
      refine g_iload_n (i := 2) (j := 2) dX7_saved_115 rfl rfl ?_
      refine c_V (st1 := [.int (nI (sCnt (fun w => decide ((sSet (sNeed h so pa wa la ri lo r) wk) / 2 ^ w % 2 = 1) && decide (r (1 + w) = (c + 1))) 5)), .int (nI (ho (c + 1)) - nI (sUp r wk (c + 1))), .int (nI (sCnt (sLiv h so pa wa la ri lo r) wk + sSum (sGoUp h so ho pa wa wk la ri lo r) c))]) (ctX2_countOn (c := c + 1) (b := sSet (sNeed h so pa wa la ri lo r) wk) hr (by omega) (by first | omega | exact sSet_32 _ (by omega))) kX2_countOn lX7_230 (by decide) rfl rfl rfl rfl (by exact Nat.le_of_ble_eq_true rfl) dX7_saved_116 rfl rfl ?_
      refine g_mmin lmX7_233 jm_min_s jm_i jm_min_c (by decide) (by exact Nat.le_of_ble_eq_true rfl) dX7_saved_119 ?_
      refine g_topi (y := (nI (min (ho (c + 1) - sUp r wk (c + 1)) (sCnt (fun w => decide (sSet (sNeed h so pa wa la ri lo r) wk / 2 ^ w % 2 = 1) && decide (r (1 + w) = c + 1)) 5)))) (by rw [pk_sub qq, min_nI (by omega) (by omega)]) ?_
      refine n_iadd (a := (sCnt (sLiv h so pa wa la ri lo r) wk + sSum (sGoUp h so ho pa wa wk la ri lo r) c)) (b := (min (ho (c + 1) - sUp r wk (c + 1)) (sCnt (fun w => decide (sSet (sNeed h so pa wa la ri lo r) wk / 2 ^ w % 2 = 1) && decide (r (1 + w) = c + 1)) 5))) dX7_saved_122 ?_
      refine g_istore_n (i := 1) (lv' := [(1, .int (nI ((sCnt (sLiv h so pa wa la ri lo r) wk + sSum (sGoUp h so ho pa wa wk la ri lo r) c) + (min (ho (c + 1) - sUp r wk (c + 1)) (sCnt (fun w => decide (sSet (sNeed h so pa wa la ri lo r) wk / 2 ^ w % 2 = 1) && decide (r (1 + w) = c + 1)) 5))))), (0, .ref 0), (2, .int (nI (sSet (sNeed h so pa wa la ri lo r) wk))), (3, .int (nI (c + 1)))]) dX7_saved_123 rfl (by decide) rfl ?_
      refine n_inc (x := (c + 1)) (j := 3) (lv' := [(3, .int (nI ((c + 1) + 1))), (1, .int (nI ((sCnt (sLiv h so pa wa la ri lo r) wk + sSum (sGoUp h so ho pa wa wk la ri lo r) c) + (min (ho (c + 1) - sUp r wk (c + 1)) (sCnt (fun w => decide (sSet (sNeed h so pa wa la ri lo r) wk / 2 ^ w % 2 = 1) && decide (r (1 + w) = c + 1)) 5))))), (0, .ref 0), (2, .int (nI (sSet (sNeed h so pa wa la ri lo r) wk)))]) dX7_saved_124 rfl (by decide) rfl ?_
      refine g_goto (tgt := 98) dX7_saved_127 (by decide) ?_
      refine g_lv [2, 1, 3, 0] rfl ?_
      refine g_lvE (lv' := [(0, .ref 0), (1, .int (nI (sCnt (sLiv h so pa wa la ri lo r) wk + sSum (sGoUp h so ho pa wa wk la ri lo r) (c + 1)))), (2, .int (nI (sSet (sNeed h so pa wa la ri lo r) wk))), (3, .int (nI (c + 1 + 1)))]) (by rw [show sCnt (sLiv h so pa wa la ri lo r) wk + sSum (sGoUp h so ho pa wa wk la ri lo r) (c + 1) = sCnt (sLiv h so pa wa la ri lo r) wk + sSum (sGoUp h so ho pa wa wk la ri lo r) c + min (ho (c + 1) - sUp r wk (c + 1)) (sCnt (fun w => decide (sSet (sNeed h so pa wa la ri lo r) wk / 2 ^ w % 2 = 1) && decide (r (1 + w) = c + 1)) 5) by rw [sSum, ← Nat.add_assoc, sGoUp, sCnt_set _ _ hwk]]; rfl) ?_
      exact ih (c + 1) (by omega)

theorem lp_saved1 {e1 e2 e9 e10 e11 e12 e13 e14 e17 e19 e21 e22 e25 e26 : va_E} {sd : Int64} {h so ho pa wa : Nat → Nat} {wk tw sf lo ri la : Nat} {r : Nat → Nat} (hg : gOK h so ho pa wa wk tw lo ri la) (hrk : rOK r) (hup : ∀ c, c ≤ 9 → sUp r wk c ≤ ho c) : ∀ (n i : Nat) (t : t6), i + n = wk → Go mX7_saved 6 6 [(0, .ref 0), (1, .int (nI (sCnt (sLiv h so pa wa la ri lo r) i))), (2, .int (nI (sSet (sNeed h so pa wa la ri lo r) i))), (3, .int (nI i))] [] (wC (kO sd) e1 e2 (kG3 wk tw sf lo ri la) (kI 10 h) (kZ 10 so) (kI 10 ho) (kI 5 pa) (kI 5 wa) e9 e10 e11 e12 e13 e14 (kI 16 r) e17 e19 e21 e22 (kPt t) e25 e26) (fun v u => v = some (.int (nI (pSaved h so ho pa wa wk lo ri la r))) ∧ ∃ t2 : t6, u = wC (kO sd) e1 e2 (kG3 wk tw sf lo ri la) (kI 10 h) (kZ 10 so) (kI 10 ho) (kI 5 pa) (kI 5 wa) e9 e10 e11 e12 e13 e14 (kI 16 r) e17 e19 e21 e22 (kPt t2) e25 e26) := by
  have hg0 := hg
  have hrk0 := hrk
  obtain ⟨hH, hso, hho, hpa, hwa, hwk, htw, hlo, hri, hla⟩ := hg
  obtain ⟨hr, hr1, hr6, hr11⟩ := hrk
  have q0 := hr 0
  intro n
  induction n with
  | zero =>
    intro i t hi
    obtain rfl : i = wk := by omega
    refine g_iload_n (i := 3) (j := 3) dX7_saved_6 rfl rfl ?_
    refine g_aload_n (i := 0) (j := 0) dX7_saved_7 rfl rfl ?_
    refine g_get fX7_19 rfl rfl dX7_saved_8 ?_
    refine g_get fX7_89 rfl rfl dX7_saved_11 ?_
    refine n_icmp_ge (tgt := 96) (by omega) (by omega) dX7_saved_14 (by decide) (fun h14 => ?_) (fun h14 => ?_)
    · refine g_iconst (v := nI 1) dX7_saved_96 (by decide) ?_
      refine g_istore_n (i := 3) (lv' := [(3, .int (nI 1)), (0, .ref 0), (1, .int (nI (sCnt (sLiv h so pa wa la ri lo r) i))), (2, .int (nI (sSet (sNeed h so pa wa la ri lo r) i)))]) dX7_saved_97 rfl (by decide) rfl ?_
      refine g_lv [1, 2, 3, 0] rfl ?_
      refine g_lvE (lv' := [(0, .ref 0), (1, .int (nI (sCnt (sLiv h so pa wa la ri lo r) i + sSum (sGoUp h so ho pa wa i la ri lo r) 0))), (2, .int (nI (sSet (sNeed h so pa wa la ri lo r) i))), (3, .int (nI (0 + 1)))]) rfl ?_
      exact lp_saved2 hg0 hrk0 hup 8 0 (by omega)
    · exfalso; omega

  | succ n ih =>
    intro i t hi
    have qf := hr11 i (by omega)
    refine g_iload_n (i := 3) (j := 3) dX7_saved_6 rfl rfl ?_
    refine g_aload_n (i := 0) (j := 0) dX7_saved_7 rfl rfl ?_
    refine g_get fX7_19 rfl rfl dX7_saved_8 ?_
    refine g_get fX7_89 rfl rfl dX7_saved_11 ?_
    refine n_icmp_ge (tgt := 96) (by omega) (by omega) dX7_saved_14 (by decide) (fun h14 => ?_) (fun h14 => ?_)
    · exfalso; omega
    · refine g_aload_n (i := 0) (j := 0) dX7_saved_17 rfl rfl ?_
      refine g_get fX7_29 rfl rfl dX7_saved_18 ?_
      refine g_iload_n (i := 3) (j := 3) dX7_saved_21 rfl rfl ?_
      refine c_V (st1 := [.int (nI (r (11 + i)))]) (ctX2_fateOf (k := i) (by omega)) kX2_fateOf lX7_153 (by decide) rfl rfl rfl rfl (by exact Nat.le_of_ble_eq_true rfl) dX7_saved_22 rfl rfl ?_
      refine g_istore (lv' := [(4, .int (nI (r (11 + i)))), (0, .ref 0), (1, .int (nI (sCnt (sLiv h so pa wa la ri lo r) i))), (2, .int (nI (sSet (sNeed h so pa wa la ri lo r) i))), (3, .int (nI i))]) dX7_saved_25 (by decide) rfl ?_
      refine g_iload (j := 0) dX7_saved_27 rfl ?_
      refine g_iconst (v := nI 1) dX7_saved_29 (by decide) ?_
      refine n_icmp_eq (tgt := 39) (by omega) (rng_lit 1 rfl) dX7_saved_30 (by decide) (fun h30 => ?_) (fun h30 => ?_)
      · refine n_inc (x := (sCnt (sLiv h so pa wa la ri lo r) i)) (j := 2) (lv' := [(1, .int (nI ((sCnt (sLiv h so pa wa la ri lo r) i) + 1))), (4, .int (nI (r (11 + i)))), (0, .ref 0), (2, .int (nI (sSet (sNeed h so pa wa la ri lo r) i))), (3, .int (nI i))]) dX7_saved_39 rfl (by decide) rfl ?_
        refine g_goto (tgt := 90) dX7_saved_42 (by decide) ?_
        refine n_inc (x := i) (j := 4) (lv' := [(3, .int (nI (i + 1))), (1, .int (nI ((sCnt (sLiv h so pa wa la ri lo r) i) + 1))), (4, .int (nI (r (11 + i)))), (0, .ref 0), (2, .int (nI (sSet (sNeed h so pa wa la ri lo r) i)))]) dX7_saved_90 rfl (by decide) rfl ?_
        refine g_goto (tgt := 6) dX7_saved_93 (by decide) ?_
        have eL : sCnt (sLiv h so pa wa la ri lo r) (i + 1) = (sCnt (sLiv h so pa wa la ri lo r) i) + 1 := by
          rw [sCnt]
          first | (simp [sLiv, h30]; done) | (simp [sLiv, h36]; done) | (simp [sLiv, h47, h70]; done) | (simp [sLiv, h30, h36, h47]; done)
        have eN : sSet (sNeed h so pa wa la ri lo r) (i + 1) = sSet (sNeed h so pa wa la ri lo r) i := by
          rw [sSet]
          first | (simp [sNeed, h30]; done) | (simp [sNeed, h36]; done) | (simp [sNeed, h47, h70]; done) | (simp [sNeed, h47]; done)
        refine g_lv [3, 1, 4, 0] rfl ?_
        refine g_lvE (lv' := [(0, .ref 0), (1, .int (nI (sCnt (sLiv h so pa wa la ri lo r) (i + 1)))), (2, .int (nI (sSet (sNeed h so pa wa la ri lo r) (i + 1)))), (3, .int (nI (i + 1)))]) (by rw [eL, eN]; rfl) ?_
        exact ih (i + 1) t (by omega)
      · refine g_iload (j := 0) dX7_saved_33 rfl ?_
        refine g_iconst (v := nI 4) dX7_saved_35 (by decide) ?_
        refine n_icmp_ne (tgt := 45) (by omega) (rng_lit 4 rfl) dX7_saved_36 (by decide) (fun h36 => ?_) (fun h36 => ?_)
        · refine g_iload (j := 0) dX7_saved_45 rfl ?_
          refine n_if_ne (tgt := 79) (by omega) dX7_saved_47 (by decide) (fun h47 => ?_) (fun h47 => ?_)
          · refine g_iload (j := 0) dX7_saved_79 rfl ?_
            refine n_if_ne (tgt := 90) (by omega) dX7_saved_81 (by decide) (fun h81 => ?_) (fun h81 => ?_)
            · refine n_inc (x := i) (j := 4) (lv' := [(3, .int (nI (i + 1))), (4, .int (nI (r (11 + i)))), (0, .ref 0), (1, .int (nI (sCnt (sLiv h so pa wa la ri lo r) i))), (2, .int (nI (sSet (sNeed h so pa wa la ri lo r) i)))]) dX7_saved_90 rfl (by decide) rfl ?_
              refine g_goto (tgt := 6) dX7_saved_93 (by decide) ?_
              have eL : sCnt (sLiv h so pa wa la ri lo r) (i + 1) = sCnt (sLiv h so pa wa la ri lo r) i := by
                rw [sCnt]
                first | (simp [sLiv, h30]; done) | (simp [sLiv, h36]; done) | (simp [sLiv, h47, h70]; done) | (simp [sLiv, h30, h36, h47]; done)
              have eN : sSet (sNeed h so pa wa la ri lo r) (i + 1) = sSet (sNeed h so pa wa la ri lo r) i := by
                rw [sSet]
                first | (simp [sNeed, h30]; done) | (simp [sNeed, h36]; done) | (simp [sNeed, h47, h70]; done) | (simp [sNeed, h47]; done)
              refine g_lv [2, 3, 4, 0] rfl ?_
              refine g_lvE (lv' := [(0, .ref 0), (1, .int (nI (sCnt (sLiv h so pa wa la ri lo r) (i + 1)))), (2, .int (nI (sSet (sNeed h so pa wa la ri lo r) (i + 1)))), (3, .int (nI (i + 1)))]) (by rw [eL, eN]; rfl) ?_
              exact ih (i + 1) t (by omega)
            · exfalso; omega
          · refine g_aload_n (i := 0) (j := 1) dX7_saved_50 rfl rfl ?_
            refine g_iload_n (i := 3) (j := 4) dX7_saved_51 rfl rfl ?_
            refine g_aload_n (i := 0) (j := 1) dX7_saved_52 rfl rfl ?_
            refine g_get fX7_29 rfl rfl dX7_saved_53 ?_
            refine g_iload_n (i := 3) (j := 4) dX7_saved_56 rfl rfl ?_
            refine c_V (st1 := [.int (nI (r (1 + i))), .int (nI i), .ref 0]) (ctX2_cellOf (k := i) (by omega)) kX2_cellOf lX7_147 (by decide) rfl rfl rfl rfl (by exact Nat.le_of_ble_eq_true rfl) dX7_saved_57 rfl rfl ?_
            refine g_aload_n (i := 0) (j := 1) dX7_saved_60 rfl rfl ?_
            refine g_get fX7_29 rfl rfl dX7_saved_61 ?_
            refine c_V (st1 := [.int (nI (r 0)), .int (nI (r (1 + i))), .int (nI i), .ref 0]) (ctX2_time  ) kX2_time lX7_95 (by decide) rfl rfl rfl rfl (by exact Nat.le_of_ble_eq_true rfl) dX7_saved_64 rfl rfl ?_
            refine g_callV (rest := []) (ctX7_isSafe (k := i) (c := r (1 + i)) (s := r 0) ⟨hH, hso, hho, hpa, hwa, hwk, htw, hlo, hri, hla⟩ (by first | omega | exact hpa _ | exact hwa _ | exact hr1 _ (by omega) | exact hr6 _ (by omega) | exact hr11 _ (by omega) | exact hr _ | exact Nat.le_succ_of_le (hr _)) (by first | omega | exact hpa _ | exact hwa _ | exact hr1 _ (by omega) | exact hr6 _ (by omega) | exact hr11 _ (by omega) | exact hr _ | exact Nat.le_succ_of_le (hr _)) (by first | omega | exact hpa _ | exact hwa _ | exact hr1 _ (by omega) | exact hr6 _ (by omega) | exact hr11 _ (by omega) | exact hr _ | exact Nat.le_succ_of_le (hr _))) kX7_isSafe lX7_200 (by decide) rfl rfl rfl rfl (by exact Nat.le_of_ble_eq_true rfl) dX7_saved_67 rfl (fun v u hvu => ?_)
            obtain ⟨rfl, t67, rfl⟩ := hvu
            refine g_st (st' := [.int (nI (bN (sSafeB h so la ri (pa i) (wa i) lo (r (1 + i)) (r 0) = true)))]) rfl ?_
            refine b_if_eq (tgt := 79) dX7_saved_70 (by decide) (fun h70 => ?_) (fun h70 => ?_)
            · refine g_iload (j := 0) dX7_saved_79 rfl ?_
              refine n_if_ne (tgt := 90) (by omega) dX7_saved_81 (by decide) (fun h81 => ?_) (fun h81 => ?_)
              · exfalso; omega
              · refine g_iload_n (i := 2) (j := 3) dX7_saved_84 rfl rfl ?_
                refine g_iconst (v := nI 1) dX7_saved_85 (by decide) ?_
                refine g_iload_n (i := 3) (j := 4) dX7_saved_86 rfl rfl ?_
                refine g_ishl dX7_saved_87 ?_
                refine g_topi (y := (nI 1 <<< (nI i &&& 31))) rfl ?_
                refine g_ior dX7_saved_88 ?_
                refine g_topi (y := (nI (sSet (sNeed h so pa wa la ri lo r) i + 2 ^ i))) (or_bit i (by omega) _ (sSet_lt _ i)) ?_
                refine g_istore_n (i := 2) (lv' := [(2, .int (nI (sSet (sNeed h so pa wa la ri lo r) i + 2 ^ i))), (4, .int (nI (r (11 + i)))), (0, .ref 0), (1, .int (nI (sCnt (sLiv h so pa wa la ri lo r) i))), (3, .int (nI i))]) dX7_saved_89 rfl (by decide) rfl ?_
                refine n_inc (x := i) (j := 4) (lv' := [(3, .int (nI (i + 1))), (2, .int (nI (sSet (sNeed h so pa wa la ri lo r) i + 2 ^ i))), (4, .int (nI (r (11 + i)))), (0, .ref 0), (1, .int (nI (sCnt (sLiv h so pa wa la ri lo r) i)))]) dX7_saved_90 rfl (by decide) rfl ?_
                refine g_goto (tgt := 6) dX7_saved_93 (by decide) ?_
                have eL : sCnt (sLiv h so pa wa la ri lo r) (i + 1) = sCnt (sLiv h so pa wa la ri lo r) i := by
                  rw [sCnt]
                  first | (simp [sLiv, h30]; done) | (simp [sLiv, h36]; done) | (simp [sLiv, h47, h70]; done) | (simp [sLiv, h30, h36, h47]; done)
                have eN : sSet (sNeed h so pa wa la ri lo r) (i + 1) = sSet (sNeed h so pa wa la ri lo r) i + 2 ^ i := by
                  rw [sSet]
                  first | (simp [sNeed, h30]; done) | (simp [sNeed, h36]; done) | (simp [sNeed, h47, h70]; done) | (simp [sNeed, h47]; done)
                refine g_lv [3, 4, 1, 0] rfl ?_
                refine g_lvE (lv' := [(0, .ref 0), (1, .int (nI (sCnt (sLiv h so pa wa la ri lo r) (i + 1)))), (2, .int (nI (sSet (sNeed h so pa wa la ri lo r) (i + 1)))), (3, .int (nI (i + 1)))]) (by rw [eL, eN]; rfl) ?_
                exact ih (i + 1) t67 (by omega)
            · refine n_inc (x := (sCnt (sLiv h so pa wa la ri lo r) i)) (j := 2) (lv' := [(1, .int (nI ((sCnt (sLiv h so pa wa la ri lo r) i) + 1))), (4, .int (nI (r (11 + i)))), (0, .ref 0), (2, .int (nI (sSet (sNeed h so pa wa la ri lo r) i))), (3, .int (nI i))]) dX7_saved_73 rfl (by decide) rfl ?_
              refine g_goto (tgt := 90) dX7_saved_76 (by decide) ?_
              refine n_inc (x := i) (j := 4) (lv' := [(3, .int (nI (i + 1))), (1, .int (nI ((sCnt (sLiv h so pa wa la ri lo r) i) + 1))), (4, .int (nI (r (11 + i)))), (0, .ref 0), (2, .int (nI (sSet (sNeed h so pa wa la ri lo r) i)))]) dX7_saved_90 rfl (by decide) rfl ?_
              refine g_goto (tgt := 6) dX7_saved_93 (by decide) ?_
              have eL : sCnt (sLiv h so pa wa la ri lo r) (i + 1) = (sCnt (sLiv h so pa wa la ri lo r) i) + 1 := by
                rw [sCnt]
                first | (simp [sLiv, h30]; done) | (simp [sLiv, h36]; done) | (simp [sLiv, h47, h70]; done) | (simp [sLiv, h30, h36, h47]; done)
              have eN : sSet (sNeed h so pa wa la ri lo r) (i + 1) = sSet (sNeed h so pa wa la ri lo r) i := by
                rw [sSet]
                first | (simp [sNeed, h30]; done) | (simp [sNeed, h36]; done) | (simp [sNeed, h47, h70]; done) | (simp [sNeed, h47]; done)
              refine g_lv [3, 1, 4, 0] rfl ?_
              refine g_lvE (lv' := [(0, .ref 0), (1, .int (nI (sCnt (sLiv h so pa wa la ri lo r) (i + 1)))), (2, .int (nI (sSet (sNeed h so pa wa la ri lo r) (i + 1)))), (3, .int (nI (i + 1)))]) (by rw [eL, eN]; rfl) ?_
              exact ih (i + 1) t67 (by omega)
        · refine n_inc (x := (sCnt (sLiv h so pa wa la ri lo r) i)) (j := 2) (lv' := [(1, .int (nI ((sCnt (sLiv h so pa wa la ri lo r) i) + 1))), (4, .int (nI (r (11 + i)))), (0, .ref 0), (2, .int (nI (sSet (sNeed h so pa wa la ri lo r) i))), (3, .int (nI i))]) dX7_saved_39 rfl (by decide) rfl ?_
          refine g_goto (tgt := 90) dX7_saved_42 (by decide) ?_
          refine n_inc (x := i) (j := 4) (lv' := [(3, .int (nI (i + 1))), (1, .int (nI ((sCnt (sLiv h so pa wa la ri lo r) i) + 1))), (4, .int (nI (r (11 + i)))), (0, .ref 0), (2, .int (nI (sSet (sNeed h so pa wa la ri lo r) i)))]) dX7_saved_90 rfl (by decide) rfl ?_
          refine g_goto (tgt := 6) dX7_saved_93 (by decide) ?_
          have eL : sCnt (sLiv h so pa wa la ri lo r) (i + 1) = (sCnt (sLiv h so pa wa la ri lo r) i) + 1 := by
            rw [sCnt]
            first | (simp [sLiv, h30]; done) | (simp [sLiv, h36]; done) | (simp [sLiv, h47, h70]; done) | (simp [sLiv, h30, h36, h47]; done)
          have eN : sSet (sNeed h so pa wa la ri lo r) (i + 1) = sSet (sNeed h so pa wa la ri lo r) i := by
            rw [sSet]
            first | (simp [sNeed, h30]; done) | (simp [sNeed, h36]; done) | (simp [sNeed, h47, h70]; done) | (simp [sNeed, h47]; done)
          refine g_lv [3, 1, 4, 0] rfl ?_
          refine g_lvE (lv' := [(0, .ref 0), (1, .int (nI (sCnt (sLiv h so pa wa la ri lo r) (i + 1)))), (2, .int (nI (sSet (sNeed h so pa wa la ri lo r) (i + 1)))), (3, .int (nI (i + 1)))]) (by rw [eL, eN]; rfl) ?_
          exact ih (i + 1) t (by omega)

theorem ctX7_saved {e1 e2 e9 e10 e11 e12 e13 e14 e17 e19 e21 e22 e25 e26 : va_E} {sd : Int64} {h so ho pa wa : Nat → Nat} {wk tw sf lo ri la : Nat} {r : Nat → Nat} {t : t6} (hg : gOK h so ho pa wa wk tw lo ri la) (hrk : rOK r) (hup : ∀ c, c ≤ 9 → sUp r wk c ≤ ho c) : Ct mX7_saved 6 [.ref 0] (wC (kO sd) e1 e2 (kG3 wk tw sf lo ri la) (kI 10 h) (kZ 10 so) (kI 10 ho) (kI 5 pa) (kI 5 wa) e9 e10 e11 e12 e13 e14 (kI 16 r) e17 e19 e21 e22 (kPt t) e25 e26) (fun v u => v = some (.int (nI (pSaved h so ho pa wa wk lo ri la r))) ∧ ∃ t2 : t6, u = wC (kO sd) e1 e2 (kG3 wk tw sf lo ri la) (kI 10 h) (kZ 10 so) (kI 10 ho) (kI 5 pa) (kI 5 wa) e9 e10 e11 e12 e13 e14 (kI 16 r) e17 e19 e21 e22 (kPt t2) e25 e26) := by
  refine Ct.of (by decide) (by exact Nat.le_of_ble_eq_true rfl) ?_
  show Go mX7_saved 6 0 [(0, .ref 0)] [] (wC (kO sd) e1 e2 (kG3 wk tw sf lo ri la) (kI 10 h) (kZ 10 so) (kI 10 ho) (kI 5 pa) (kI 5 wa) e9 e10 e11 e12 e13 e14 (kI 16 r) e17 e19 e21 e22 (kPt t) e25 e26) (fun v u => v = some (.int (nI (pSaved h so ho pa wa wk lo ri la r))) ∧ ∃ t2 : t6, u = wC (kO sd) e1 e2 (kG3 wk tw sf lo ri la) (kI 10 h) (kZ 10 so) (kI 10 ho) (kI 5 pa) (kI 5 wa) e9 e10 e11 e12 e13 e14 (kI 16 r) e17 e19 e21 e22 (kPt t2) e25 e26)
  refine g_iconst (v := nI 0) dX7_saved_0 (by decide) ?_
  refine g_istore_n (i := 1) (lv' := [(1, .int (nI 0)), (0, .ref 0)]) dX7_saved_1 rfl (by decide) rfl ?_
  refine g_iconst (v := nI 0) dX7_saved_2 (by decide) ?_
  refine g_istore_n (i := 2) (lv' := [(2, .int (nI 0)), (1, .int (nI 0)), (0, .ref 0)]) dX7_saved_3 rfl (by decide) rfl ?_
  refine g_iconst (v := nI 0) dX7_saved_4 (by decide) ?_
  refine g_istore_n (i := 3) (lv' := [(3, .int (nI 0)), (2, .int (nI 0)), (1, .int (nI 0)), (0, .ref 0)]) dX7_saved_5 rfl (by decide) rfl ?_
  refine g_lv [3, 2, 1, 0] rfl ?_
  exact lp_saved1 hg hrk hup wk 0 t (by have := hg.2.2.2.2.2.1; omega)

/-- bits of a long -/
def bL (x : Int64) (j : Nat) : Bool := x.toBitVec.getLsbD j
theorem bL_or (x y : Int64) (j : Nat) : bL (x ||| y) j = (bL x j || bL y j) := by unfold bL; rw [Int64.toBitVec_or, BitVec.getLsbD_or]
theorem bL_and (x y : Int64) (j : Nat) : bL (x &&& y) j = (bL x j && bL y j) := by unfold bL; rw [Int64.toBitVec_and, BitVec.getLsbD_and]
theorem bL_one : ∀ x, x < 41 → ∀ j, j < 41 → bL (lN 1 <<< ((nI x).toInt64 &&& 63)) j = decide (x = j) := by decide +kernel
theorem bL_m1 : ∀ j, j < 41 → bL (-1) j = true := by decide +kernel
theorem bL_0 : ∀ j, j < 41 → bL (lN 0) j = false := by decide +kernel
theorem wb_cu41 : ∀ k, k < 41 → ((nI k).toInt64.toUInt64 &&& Int64.toUInt64 63).toNat = k := by decide +kernel
theorem bL_test (x : Int64) {s : Nat} (h : s < 41) : lg_cmp ((x.toUInt64 >>> ((nI s).toInt64.toUInt64 &&& Int64.toUInt64 63)).toInt64 &&& lN 1) (lN 0) = 0 ↔ bL x s = false := by
  rw [lg_cmp_eq]
  exact ts_bit (j := s) (by omega) (wb_cu41 s h)
/-- at this step one can be over, whenever it begins -/
def sCan (h so : Nat → Nat) (la ri pa wa lo n j : Nat) : Bool := sAny (fun t => decide (sArr h so la ri pa wa lo 1 0 t = some j)) n
def sMeet (h so pa wa : Nat → Nat) (wk lo ri la : Nat) : Option Nat := sFirst (fun j => sAll (fun w => sCan h so la ri (pa w) (wa w) lo 41 j) wk) 41 0
def pAheadOf (h so pa wa : Nat → Nat) (wk lo ri la : Nat) (k : Int32) : Int32 := if iW k wk then (match sMeet h so pa wa wk lo ri la with
  | none => -9
  | some j => rO (sLast (fun s => decide (sArr h so la ri (pa (cN k)) (wa (cN k)) lo 1 0 s = some j)) 41)) else -1
theorem lp_meet3 {e1 e2 e9 e10 e11 e12 e13 e14 e17 e19 e21 e22 e25 e26 : va_E} {sd : Int64} {h so ho pa wa : Nat → Nat} {wk tw sf lo ri la : Nat} {r : Nat → Nat} {t : t6} {co : Int64} (hco : ∀ j, j < 41 → bL co j = (fun j => sAll (fun w => sCan h so la ri (pa w) (wa w) lo 41 j) wk) j) : ∀ (n s : Nat), s + n = 41 → Go mX7_meetingStep 5 76 [(0, .ref 0), (1, .long co), (3, .int (nI s))] [] (wC (kO sd) e1 e2 (kG3 wk tw sf lo ri la) (kI 10 h) (kZ 10 so) (kI 10 ho) (kI 5 pa) (kI 5 wa) e9 e10 e11 e12 e13 e14 (kI 16 r) e17 e19 e21 e22 (kPt t) e25 e26) (fun v u => v = some (.int (rO (sFirst (fun j => sAll (fun w => sCan h so la ri (pa w) (wa w) lo 41 j) wk) n s))) ∧ ∃ t2 : t6, u = wC (kO sd) e1 e2 (kG3 wk tw sf lo ri la) (kI 10 h) (kZ 10 so) (kI 10 ho) (kI 5 pa) (kI 5 wa) e9 e10 e11 e12 e13 e14 (kI 16 r) e17 e19 e21 e22 (kPt t2) e25 e26) := by
  intro n
  induction n with
  | zero =>
    intro s hs
    refine g_iload_n (i := 3) (j := 2) dX7_meetingStep_76 rfl rfl ?_
    refine g_bipush (v := nI 40) dX7_meetingStep_77 (by decide) ?_
    refine n_icmp_gt (tgt := 100) (by omega) (rng_lit 40 rfl) dX7_meetingStep_79 (by decide) (fun h79 => ?_) (fun h79 => ?_)
    · refine g_bipush (v := (-9)) dX7_meetingStep_100 (by decide) ?_
      refine g_iret rfl rfl dX7_meetingStep_102 ?_
      exact ⟨rfl, t, rfl⟩
    · exfalso; omega

  | succ n ih =>
    intro s hs
    refine g_iload_n (i := 3) (j := 2) dX7_meetingStep_76 rfl rfl ?_
    refine g_bipush (v := nI 40) dX7_meetingStep_77 (by decide) ?_
    refine n_icmp_gt (tgt := 100) (by omega) (rng_lit 40 rfl) dX7_meetingStep_79 (by decide) (fun h79 => ?_) (fun h79 => ?_)
    · exfalso; omega
    · refine g_lload_n (i := 1) (j := 1) dX7_meetingStep_82 rfl rfl ?_
      refine g_iload_n (i := 3) (j := 2) dX7_meetingStep_83 rfl rfl ?_
      refine g_lushr (v := ((co.toUInt64 >>> ((nI s).toInt64.toUInt64 &&& Int64.toUInt64 63)).toInt64)) dX7_meetingStep_84 rfl ?_
      refine g_lconst (v := lN 1) dX7_meetingStep_85 (by decide) ?_
      refine g_land dX7_meetingStep_86 ?_
      refine g_lconst (v := lN 0) dX7_meetingStep_87 (by decide) ?_
      refine g_lcmp dX7_meetingStep_88 ?_
      refine g_if_eq (tgt := 94) dX7_meetingStep_89 (by decide) (fun h89 => ?_) (fun h89 => ?_)
      · rw [bL_test co (by omega), hco s (by omega)] at h89
        dsimp only at h89
        refine n_inc (x := s) (j := 2) (lv' := [(3, .int (nI (s + 1))), (0, .ref 0), (1, .long co)]) dX7_meetingStep_94 rfl (by decide) rfl ?_
        refine g_goto (tgt := 76) dX7_meetingStep_97 (by decide) ?_
        refine g_lv [1, 2, 0] rfl ?_
        rw [show sFirst (fun j => sAll (fun w => sCan h so la ri (pa w) (wa w) lo 41 j) wk) (n + 1) s = sFirst (fun j => sAll (fun w => sCan h so la ri (pa w) (wa w) lo 41 j) wk) n (s + 1) by rw [sFirst, h89]; rfl]
        exact ih (s + 1) (by omega)
      · rw [bL_test co (by omega), hco s (by omega)] at h89
        dsimp only at h89
        refine g_iload_n (i := 3) (j := 2) dX7_meetingStep_92 rfl rfl ?_
        refine g_iret rfl rfl dX7_meetingStep_93 ?_
        refine ⟨?_, t, rfl⟩
        rw [show sFirst (fun j => sAll (fun w => sCan h so la ri (pa w) (wa w) lo 41 j) wk) (n + 1) s = some s by rw [sFirst, if_pos (by simpa using h89)]]
        rfl

theorem lp_meet2 {e1 e2 e9 e10 e11 e12 e13 e14 e17 e19 e21 e22 e25 e26 : va_E} {sd : Int64} {h so ho pa wa : Nat → Nat} {wk tw sf lo ri la : Nat} {r : Nat → Nat} (hg : gOK h so ho pa wa wk tw lo ri la) {co : Int64} {i : Nat} (hi : i < 5) {Po : Option Value → List va_E → Prop}
    (kn : ∀ (sp : Int64) (t : t6), (∀ j, j < 41 → bL sp j = sCan h so la ri (pa i) (wa i) lo 41 j) → Go mX7_meetingStep 5 63 [(0, .ref 0), (1, .long co), (3, .int (nI i)), (4, .long sp)] [] (wC (kO sd) e1 e2 (kG3 wk tw sf lo ri la) (kI 10 h) (kZ 10 so) (kI 10 ho) (kI 5 pa) (kI 5 wa) e9 e10 e11 e12 e13 e14 (kI 16 r) e17 e19 e21 e22 (kPt t) e25 e26) Po) :
    ∀ (n s : Nat) (sp : Int64) (t : t6), s + n = 41 → (∀ j, j < 41 → bL sp j = sCan h so la ri (pa i) (wa i) lo s j) → Go mX7_meetingStep 5 23 [(0, .ref 0), (1, .long co), (3, .int (nI i)), (4, .long sp), (6, .int (nI s))] [] (wC (kO sd) e1 e2 (kG3 wk tw sf lo ri la) (kI 10 h) (kZ 10 so) (kI 10 ho) (kI 5 pa) (kI 5 wa) e9 e10 e11 e12 e13 e14 (kI 16 r) e17 e19 e21 e22 (kPt t) e25 e26) Po := by
  obtain ⟨hH, hso, hho, hpa, hwa, hwk, htw, hlo, hri, hla⟩ := hg
  intro n
  induction n with
  | zero =>
    intro s sp t hs hsp
    obtain rfl : s = 41 := by omega
    refine g_iload (j := 4) dX7_meetingStep_23 rfl ?_
    refine g_bipush (v := nI 40) dX7_meetingStep_25 (by decide) ?_
    refine n_icmp_gt (tgt := 63) (rng_lit 41 rfl) (rng_lit 40 rfl) dX7_meetingStep_27 (by decide) (fun h27 => ?_) (fun h27 => ?_)
    · refine g_lv [0, 1, 2, 3] rfl ?_
      exact kn sp t hsp
    · exact absurd h27 (by decide)

  | succ n ih =>
    intro s sp t hs hsp
    refine g_iload (j := 4) dX7_meetingStep_23 rfl ?_
    refine g_bipush (v := nI 40) dX7_meetingStep_25 (by decide) ?_
    refine n_icmp_gt (tgt := 63) (by omega) (rng_lit 40 rfl) dX7_meetingStep_27 (by decide) (fun h27 => ?_) (fun h27 => ?_)
    · exfalso; omega
    · refine g_aload_n (i := 0) (j := 0) dX7_meetingStep_30 rfl rfl ?_
      refine g_iload_n (i := 3) (j := 2) dX7_meetingStep_31 rfl rfl ?_
      refine g_iconst (v := nI 0) dX7_meetingStep_32 (by decide) ?_
      refine g_iload (j := 4) dX7_meetingStep_33 rfl ?_
      refine g_iconst (v := nI 1) dX7_meetingStep_35 (by decide) ?_
      refine g_callV (rest := []) (ctX7_arrival (k := i) (c := 0) (s := s) (way := 1) ⟨hH, hso, hho, hpa, hwa, hwk, htw, hlo, hri, hla⟩ (by first | omega | exact hpa _ | exact hwa _ | exact hr1 _ (by omega) | exact hr6 _ (by omega) | exact hr11 _ (by omega) | exact hr _ | exact Nat.le_succ_of_le (hr _)) (by first | omega | exact hpa _ | exact hwa _ | exact hr1 _ (by omega) | exact hr6 _ (by omega) | exact hr11 _ (by omega) | exact hr _ | exact Nat.le_succ_of_le (hr _)) (by first | omega | exact hpa _ | exact hwa _ | exact hr1 _ (by omega) | exact hr6 _ (by omega) | exact hr11 _ (by omega) | exact hr _ | exact Nat.le_succ_of_le (hr _)) (by first | omega | exact hpa _ | exact hwa _ | exact hr1 _ (by omega) | exact hr6 _ (by omega) | exact hr11 _ (by omega) | exact hr _ | exact Nat.le_succ_of_le (hr _)) (by first | omega | exact hpa _ | exact hwa _ | exact hr1 _ (by omega) | exact hr6 _ (by omega) | exact hr11 _ (by omega) | exact hr _ | exact Nat.le_succ_of_le (hr _))) kX7_arrival lX7_185 (by decide) rfl rfl rfl rfl (by exact Nat.le_of_ble_eq_true rfl) dX7_meetingStep_36 rfl (fun v u hvu => ?_)
      obtain ⟨rfl, t36, rfl⟩ := hvu
      refine g_st (st' := [.int (rO (sArr h so la ri (pa i) (wa i) lo 1 0 s))]) rfl ?_
      refine g_istore (lv' := [(7, .int (rO (sArr h so la ri (pa i) (wa i) lo 1 0 s))), (0, .ref 0), (1, .long co), (3, .int (nI i)), (4, .long sp), (6, .int (nI s))]) dX7_meetingStep_39 (by decide) rfl ?_
      refine g_iload (j := 0) dX7_meetingStep_41 rfl ?_
      refine g_bipush (v := (-9)) dX7_meetingStep_43 (by decide) ?_
      refine g_icmp_eq (tgt := 57) dX7_meetingStep_45 (by decide) (fun h45 => ?_) (fun h45 => ?_)
      · replace h45 := (sArr_ne (by omega)).mp h45
        refine n_inc (x := s) (j := 5) (lv' := [(6, .int (nI (s + 1))), (7, .int (rO (sArr h so la ri (pa i) (wa i) lo 1 0 s))), (0, .ref 0), (1, .long co), (3, .int (nI i)), (4, .long sp)]) dX7_meetingStep_57 rfl (by decide) rfl ?_
        refine g_goto (tgt := 23) dX7_meetingStep_60 (by decide) ?_
        refine g_lv [2, 3, 4, 5, 0] rfl ?_
        exact ih (s + 1) (sp) t36 (by omega) (fun j hj => by rw [hsp j hj]; unfold sCan; rw [sAny, h45]; simp)
      · obtain ⟨x, hx⟩ : ∃ x, sArr h so la ri (pa i) (wa i) lo 1 0 s = some x := by
          cases e : sArr h so la ri (pa i) (wa i) lo 1 0 s with
          | none => exact absurd ((sArr_ne (by omega)).mpr e) h45
          | some x => exact ⟨x, rfl⟩
        have hx40 : x ≤ 40 := sGone_lt _ _ _ _ _ _ _ _ _ _ _ _ x (by omega) hx
        refine g_lvE (lv' := [(7, .int (nI x)), (0, .ref 0), (1, .long co), (3, .int (nI i)), (4, .long sp), (6, .int (nI s))]) (by rw [hx]; rfl) ?_
        refine g_lload (j := 4) dX7_meetingStep_48 rfl ?_
        refine g_lconst (v := lN 1) dX7_meetingStep_50 (by decide) ?_
        refine g_iload (j := 0) dX7_meetingStep_51 rfl ?_
        refine g_lshl (v := (lN 1 <<< ((nI x).toInt64 &&& 63))) dX7_meetingStep_53 rfl ?_
        refine g_lor dX7_meetingStep_54 ?_
        refine g_lstore (lv' := [(4, .long (sp ||| (lN 1 <<< ((nI x).toInt64 &&& 63)))), (7, .int (nI x)), (0, .ref 0), (1, .long co), (3, .int (nI i)), (6, .int (nI s))]) dX7_meetingStep_55 (by decide) rfl ?_
        refine n_inc (x := s) (j := 5) (lv' := [(6, .int (nI (s + 1))), (4, .long (sp ||| (lN 1 <<< ((nI x).toInt64 &&& 63)))), (7, .int (nI x)), (0, .ref 0), (1, .long co), (3, .int (nI i))]) dX7_meetingStep_57 rfl (by decide) rfl ?_
        refine g_goto (tgt := 23) dX7_meetingStep_60 (by decide) ?_
        refine g_lv [3, 4, 5, 1, 0] rfl ?_
        exact ih (s + 1) (sp ||| (lN 1 <<< ((nI x).toInt64 &&& 63))) t36 (by omega) (fun j hj => by rw [bL_or, hsp j hj, bL_one x (by omega) j hj]; unfold sCan; rw [sAny, hx, Bool.or_comm]; simp)

theorem lp_meet1 {e1 e2 e9 e10 e11 e12 e13 e14 e17 e19 e21 e22 e25 e26 : va_E} {sd : Int64} {h so ho pa wa : Nat → Nat} {wk tw sf lo ri la : Nat} {r : Nat → Nat} (hg : gOK h so ho pa wa wk tw lo ri la) : ∀ (n i : Nat) (co : Int64) (t : t6), i + n = wk → (∀ j, j < 41 → bL co j = sAll (fun w => sCan h so la ri (pa w) (wa w) lo 41 j) i) → Go mX7_meetingStep 5 6 [(0, .ref 0), (1, .long co), (3, .int (nI i))] [] (wC (kO sd) e1 e2 (kG3 wk tw sf lo ri la) (kI 10 h) (kZ 10 so) (kI 10 ho) (kI 5 pa) (kI 5 wa) e9 e10 e11 e12 e13 e14 (kI 16 r) e17 e19 e21 e22 (kPt t) e25 e26) (fun v u => v = some (.int (rO (sMeet h so pa wa wk lo ri la))) ∧ ∃ t2 : t6, u = wC (kO sd) e1 e2 (kG3 wk tw sf lo ri la) (kI 10 h) (kZ 10 so) (kI 10 ho) (kI 5 pa) (kI 5 wa) e9 e10 e11 e12 e13 e14 (kI 16 r) e17 e19 e21 e22 (kPt t2) e25 e26) := by
  have hg0 := hg
  obtain ⟨hH, hso, hho, hpa, hwa, hwk, htw, hlo, hri, hla⟩ := hg
  intro n
  induction n with
  | zero =>
    intro i co t hi hco
    obtain rfl : i = wk := by omega
    refine g_iload_n (i := 3) (j := 2) dX7_meetingStep_6 rfl rfl ?_
    refine g_aload_n (i := 0) (j := 0) dX7_meetingStep_7 rfl rfl ?_
    refine g_get fX7_19 rfl rfl dX7_meetingStep_8 ?_
    refine g_get fX7_89 rfl rfl dX7_meetingStep_11 ?_
    refine n_icmp_ge (tgt := 74) (by omega) (by omega) dX7_meetingStep_14 (by decide) (fun h14 => ?_) (fun h14 => ?_)
    · refine g_iconst (v := nI 0) dX7_meetingStep_74 (by decide) ?_
      refine g_istore_n (i := 3) (lv' := [(3, .int (nI 0)), (0, .ref 0), (1, .long co)]) dX7_meetingStep_75 rfl (by decide) rfl ?_
      refine g_lv [1, 2, 0] rfl ?_
      exact lp_meet3 hco 41 0 (by omega)
    · exfalso; omega

  | succ n ih =>
    intro i co t hi hco
    refine g_iload_n (i := 3) (j := 2) dX7_meetingStep_6 rfl rfl ?_
    refine g_aload_n (i := 0) (j := 0) dX7_meetingStep_7 rfl rfl ?_
    refine g_get fX7_19 rfl rfl dX7_meetingStep_8 ?_
    refine g_get fX7_89 rfl rfl dX7_meetingStep_11 ?_
    refine n_icmp_ge (tgt := 74) (by omega) (by omega) dX7_meetingStep_14 (by decide) (fun h14 => ?_) (fun h14 => ?_)
    · exfalso; omega
    · refine g_lconst (v := lN 0) dX7_meetingStep_17 (by decide) ?_
      refine g_lstore (lv' := [(4, .long (lN 0)), (0, .ref 0), (1, .long co), (3, .int (nI i))]) dX7_meetingStep_18 (by decide) rfl ?_
      refine g_iconst (v := nI 0) dX7_meetingStep_20 (by decide) ?_
      refine g_istore (lv' := [(6, .int (nI 0)), (4, .long (lN 0)), (0, .ref 0), (1, .long co), (3, .int (nI i))]) dX7_meetingStep_21 (by decide) rfl ?_
      refine g_lv [2, 3, 4, 1, 0] rfl ?_
      refine lp_meet2 hg0 (by omega) (fun sp t hsp => ?_) 41 0 (lN 0) t (by omega) (fun j hj => by rw [bL_0 j hj]; rfl)

      refine g_lload_n (i := 1) (j := 1) dX7_meetingStep_63 rfl rfl ?_
      refine g_lload (j := 3) dX7_meetingStep_64 rfl ?_
      refine g_land dX7_meetingStep_66 ?_
      refine g_lstore_n (i := 1) (lv' := [(1, .long (co &&& sp)), (0, .ref 0), (3, .int (nI i)), (4, .long sp)]) dX7_meetingStep_67 rfl (by decide) rfl ?_
      refine n_inc (x := i) (j := 2) (lv' := [(3, .int (nI (i + 1))), (1, .long (co &&& sp)), (0, .ref 0), (4, .long sp)]) dX7_meetingStep_68 rfl (by decide) rfl ?_
      refine g_goto (tgt := 6) dX7_meetingStep_71 (by decide) ?_
      refine g_lv [2, 1, 0] rfl ?_
      exact ih (i + 1) (co &&& sp) t (by omega) (fun j hj => by rw [bL_and, hco j hj, hsp j hj, sAll, Bool.and_comm])
theorem ctX7_meetingStep {e1 e2 e9 e10 e11 e12 e13 e14 e17 e19 e21 e22 e25 e26 : va_E} {sd : Int64} {h so ho pa wa : Nat → Nat} {wk tw sf lo ri la : Nat} {r : Nat → Nat} {t : t6} (hg : gOK h so ho pa wa wk tw lo ri la) : Ct mX7_meetingStep 5 [.ref 0] (wC (kO sd) e1 e2 (kG3 wk tw sf lo ri la) (kI 10 h) (kZ 10 so) (kI 10 ho) (kI 5 pa) (kI 5 wa) e9 e10 e11 e12 e13 e14 (kI 16 r) e17 e19 e21 e22 (kPt t) e25 e26) (fun v u => v = some (.int (rO (sMeet h so pa wa wk lo ri la))) ∧ ∃ t2 : t6, u = wC (kO sd) e1 e2 (kG3 wk tw sf lo ri la) (kI 10 h) (kZ 10 so) (kI 10 ho) (kI 5 pa) (kI 5 wa) e9 e10 e11 e12 e13 e14 (kI 16 r) e17 e19 e21 e22 (kPt t2) e25 e26) := by
  refine Ct.of (by decide) (by exact Nat.le_of_ble_eq_true rfl) ?_
  show Go mX7_meetingStep 5 0 [(0, .ref 0)] [] (wC (kO sd) e1 e2 (kG3 wk tw sf lo ri la) (kI 10 h) (kZ 10 so) (kI 10 ho) (kI 5 pa) (kI 5 wa) e9 e10 e11 e12 e13 e14 (kI 16 r) e17 e19 e21 e22 (kPt t) e25 e26) (fun v u => v = some (.int (rO (sMeet h so pa wa wk lo ri la))) ∧ ∃ t2 : t6, u = wC (kO sd) e1 e2 (kG3 wk tw sf lo ri la) (kI 10 h) (kZ 10 so) (kI 10 ho) (kI 5 pa) (kI 5 wa) e9 e10 e11 e12 e13 e14 (kI 16 r) e17 e19 e21 e22 (kPt t2) e25 e26)
  refine g_ldc2 clX7_295 dX7_meetingStep_0 ?_
  refine g_lstore_n (i := 1) (lv' := [(1, .long (-1)), (0, .ref 0)]) dX7_meetingStep_3 rfl (by decide) rfl ?_
  refine g_iconst (v := nI 0) dX7_meetingStep_4 (by decide) ?_
  refine g_istore_n (i := 3) (lv' := [(3, .int (nI 0)), (1, .long (-1)), (0, .ref 0)]) dX7_meetingStep_5 rfl (by decide) rfl ?_
  refine g_lv [2, 1, 0] rfl ?_
  exact lp_meet1 hg wk 0 (-1) t (by omega) (fun j hj => by rw [bL_m1 j hj]; rfl)

theorem ctX7_ahead {e1 e2 e9 e10 e11 e12 e13 e14 e17 e19 e21 e22 e25 e26 : va_E} {sd : Int64} {h so ho pa wa : Nat → Nat} {wk tw sf lo ri la : Nat} {r : Nat → Nat} {t : t6} (hg : gOK h so ho pa wa wk tw lo ri la) : Ct mX7_ahead 6 [.ref 0] (wC (kO sd) e1 e2 (kG3 wk tw sf lo ri la) (kI 10 h) (kZ 10 so) (kI 10 ho) (kI 5 pa) (kI 5 wa) e9 e10 e11 e12 e13 e14 (kI 16 r) e17 e19 e21 e22 (kPt t) e25 e26) (fun v u => v = some (.int (if wk = 0 then -3 else rO (sMeet h so pa wa wk lo ri la))) ∧ ∃ t2 : t6, u = wC (kO sd) e1 e2 (kG3 wk tw sf lo ri la) (kI 10 h) (kZ 10 so) (kI 10 ho) (kI 5 pa) (kI 5 wa) e9 e10 e11 e12 e13 e14 (kI 16 r) e17 e19 e21 e22 (kPt t2) e25 e26) := by
  refine Ct.of (by decide) (by exact Nat.le_of_ble_eq_true rfl) ?_
  show Go mX7_ahead 6 0 [(0, .ref 0)] [] (wC (kO sd) e1 e2 (kG3 wk tw sf lo ri la) (kI 10 h) (kZ 10 so) (kI 10 ho) (kI 5 pa) (kI 5 wa) e9 e10 e11 e12 e13 e14 (kI 16 r) e17 e19 e21 e22 (kPt t) e25 e26) (fun v u => v = some (.int (if wk = 0 then -3 else rO (sMeet h so pa wa wk lo ri la))) ∧ ∃ t2 : t6, u = wC (kO sd) e1 e2 (kG3 wk tw sf lo ri la) (kI 10 h) (kZ 10 so) (kI 10 ho) (kI 5 pa) (kI 5 wa) e9 e10 e11 e12 e13 e14 (kI 16 r) e17 e19 e21 e22 (kPt t2) e25 e26)
  obtain ⟨hH, hso, hho, hpa, hwa, hwk, htw, hlo, hri, hla⟩ := hg
  refine g_aload_n (i := 0) (j := 0) dX7_ahead_0 rfl rfl ?_
  refine g_get fX7_19 rfl rfl dX7_ahead_1 ?_
  refine g_get fX7_89 rfl rfl dX7_ahead_4 ?_
  refine n_if_ne (tgt := 13) (by omega) dX7_ahead_7 (by decide) (fun h7 => ?_) (fun h7 => ?_)
  · refine g_aload_n (i := 0) (j := 0) dX7_ahead_13 rfl rfl ?_
    refine g_callV (rest := []) (ctX7_meetingStep  ⟨hH, hso, hho, hpa, hwa, hwk, htw, hlo, hri, hla⟩) kX7_meetingStep lX7_227 (by decide) rfl rfl rfl rfl (by exact Nat.le_of_ble_eq_true rfl) dX7_ahead_14 rfl (fun v u hvu => ?_)
    obtain ⟨rfl, t14, rfl⟩ := hvu
    refine g_st (st' := [.int (rO (sMeet h so pa wa wk lo ri la))]) rfl ?_
    refine g_iret rfl rfl dX7_ahead_17 ?_
    exact ⟨by rw [if_neg h7], _, rfl⟩
  · refine g_bipush (v := (-3)) dX7_ahead_10 (by decide) ?_
    refine g_iret rfl rfl dX7_ahead_12 ?_
    exact ⟨by rw [if_pos h7], _, rfl⟩

theorem lp_aheadOf {e1 e2 e9 e10 e11 e12 e13 e14 e17 e19 e21 e22 e25 e26 : va_E} {sd : Int64} {h so ho pa wa : Nat → Nat} {wk tw sf lo ri la : Nat} {r : Nat → Nat} (hg : gOK h so ho pa wa wk tw lo ri la) {k j : Nat} (hk : k < 5) (hj : j ≤ 40) : ∀ (n : Nat) (t : t6), n ≤ 41 → Go mX7_aheadOf 6 27 [(0, .ref 0), (1, .int (nI k)), (2, .int (nI j)), (3, .int (nI n + (-1)))] [] (wC (kO sd) e1 e2 (kG3 wk tw sf lo ri la) (kI 10 h) (kZ 10 so) (kI 10 ho) (kI 5 pa) (kI 5 wa) e9 e10 e11 e12 e13 e14 (kI 16 r) e17 e19 e21 e22 (kPt t) e25 e26) (fun v u => v = some (.int (rO (sLast (fun s => decide (sArr h so la ri (pa k) (wa k) lo 1 0 s = some j)) n))) ∧ ∃ t2 : t6, u = wC (kO sd) e1 e2 (kG3 wk tw sf lo ri la) (kI 10 h) (kZ 10 so) (kI 10 ho) (kI 5 pa) (kI 5 wa) e9 e10 e11 e12 e13 e14 (kI 16 r) e17 e19 e21 e22 (kPt t2) e25 e26) := by
  obtain ⟨hH, hso, hho, hpa, hwa, hwk, htw, hlo, hri, hla⟩ := hg
  intro n
  induction n with
  | zero =>
    intro t hn
    refine g_lvE (lv' := [(0, .ref 0), (1, .int (nI k)), (2, .int (nI j)), (3, .int (-1))]) (by rw [show nI 0 + (-1) = (-1 : Int32) by decide]) ?_
    refine g_iload_n (i := 3) (j := 3) dX7_aheadOf_27 rfl rfl ?_
    refine g_if_lt (tgt := 51) dX7_aheadOf_28 (by decide) (fun h28 => ?_) (fun h28 => ?_)
    · refine g_bipush (v := (-9)) dX7_aheadOf_51 (by decide) ?_
      refine g_iret rfl rfl dX7_aheadOf_53 ?_
      exact ⟨rfl, _, rfl⟩
    · exact absurd (by decide) h28

  | succ n ih =>
    intro t hn
    refine g_lvE (lv' := [(0, .ref 0), (1, .int (nI k)), (2, .int (nI j)), (3, .int (nI n))]) (by rw [pk_m1]) ?_
    have hiff : rO (sArr h so la ri (pa k) (wa k) lo 1 0 n) = nI j ↔ sArr h so la ri (pa k) (wa k) lo 1 0 n = some j := by
      cases e : sArr h so la ri (pa k) (wa k) lo 1 0 n with
      | none => exact ⟨fun z => absurd z.symm (nI_n9 (by omega)), fun z => by cases z⟩
      | some x =>
        have hx : x ≤ 40 := sGone_lt _ _ _ _ _ _ _ _ _ _ _ _ x (by omega) e
        show nI x = nI j ↔ _
        rw [nI_eq (by omega) (by omega)]
        exact ⟨fun z => by rw [z], fun z => by cases z; rfl⟩
    refine g_iload_n (i := 3) (j := 3) dX7_aheadOf_27 rfl rfl ?_
    refine n_if_lt (tgt := 51) (by omega) dX7_aheadOf_28 (by decide) ?_
    refine g_aload_n (i := 0) (j := 0) dX7_aheadOf_31 rfl rfl ?_
    refine g_iload_n (i := 1) (j := 1) dX7_aheadOf_32 rfl rfl ?_
    refine g_iconst (v := nI 0) dX7_aheadOf_33 (by decide) ?_
    refine g_iload_n (i := 3) (j := 3) dX7_aheadOf_34 rfl rfl ?_
    refine g_iconst (v := nI 1) dX7_aheadOf_35 (by decide) ?_
    refine g_callV (rest := []) (ctX7_arrival (k := k) (c := 0) (s := n) (way := 1) ⟨hH, hso, hho, hpa, hwa, hwk, htw, hlo, hri, hla⟩ (by first | omega | exact hpa _ | exact hwa _ | exact hr1 _ (by omega) | exact hr6 _ (by omega) | exact hr11 _ (by omega) | exact hr _ | exact Nat.le_succ_of_le (hr _)) (by first | omega | exact hpa _ | exact hwa _ | exact hr1 _ (by omega) | exact hr6 _ (by omega) | exact hr11 _ (by omega) | exact hr _ | exact Nat.le_succ_of_le (hr _)) (by first | omega | exact hpa _ | exact hwa _ | exact hr1 _ (by omega) | exact hr6 _ (by omega) | exact hr11 _ (by omega) | exact hr _ | exact Nat.le_succ_of_le (hr _)) (by first | omega | exact hpa _ | exact hwa _ | exact hr1 _ (by omega) | exact hr6 _ (by omega) | exact hr11 _ (by omega) | exact hr _ | exact Nat.le_succ_of_le (hr _)) (by first | omega | exact hpa _ | exact hwa _ | exact hr1 _ (by omega) | exact hr6 _ (by omega) | exact hr11 _ (by omega) | exact hr _ | exact Nat.le_succ_of_le (hr _))) kX7_arrival lX7_185 (by decide) rfl rfl rfl rfl (by exact Nat.le_of_ble_eq_true rfl) dX7_aheadOf_36 rfl (fun v u hvu => ?_)
    obtain ⟨rfl, t36, rfl⟩ := hvu
    refine g_st (st' := [.int (rO (sArr h so la ri (pa k) (wa k) lo 1 0 n))]) rfl ?_
    refine g_iload_n (i := 2) (j := 2) dX7_aheadOf_39 rfl rfl ?_
    refine g_icmp_ne (tgt := 45) dX7_aheadOf_40 (by decide) (fun h40 => ?_) (fun h40 => ?_)
    · rw [ne_eq, hiff] at h40
      refine g_iinc (x := (nI n)) (v := ((nI n) + (-1))) (j := 3) (lv' := [(3, .int ((nI n) + (-1))), (0, .ref 0), (1, .int (nI k)), (2, .int (nI j))]) dX7_aheadOf_45 rfl rfl (by decide) rfl ?_
      refine g_goto (tgt := 27) dX7_aheadOf_48 (by decide) ?_
      refine g_lv [1, 2, 3, 0] rfl ?_
      refine g_post ?_ (ih t36 (by omega))
      intro v u hvu
      rw [show sLast (fun s => decide (sArr h so la ri (pa k) (wa k) lo 1 0 s = some j)) (n + 1) = sLast (fun s => decide (sArr h so la ri (pa k) (wa k) lo 1 0 s = some j)) n by rw [sLast, decide_eq_false h40]; rfl]
      exact hvu
    · rw [hiff] at h40
      refine g_iload_n (i := 3) (j := 3) dX7_aheadOf_43 rfl rfl ?_
      refine g_iret rfl rfl dX7_aheadOf_44 ?_
      refine ⟨?_, _, rfl⟩
      rw [show sLast (fun s => decide (sArr h so la ri (pa k) (wa k) lo 1 0 s = some j)) (n + 1) = some n by rw [sLast, decide_eq_true h40]; rfl]
      rfl

theorem ctX7_aheadOf {e1 e2 e9 e10 e11 e12 e13 e14 e17 e19 e21 e22 e25 e26 : va_E} {sd : Int64} {h so ho pa wa : Nat → Nat} {wk tw sf lo ri la : Nat} {r : Nat → Nat} {t : t6} (hg : gOK h so ho pa wa wk tw lo ri la) {k0 : Int32} : Ct mX7_aheadOf 6 [.ref 0, .int k0] (wC (kO sd) e1 e2 (kG3 wk tw sf lo ri la) (kI 10 h) (kZ 10 so) (kI 10 ho) (kI 5 pa) (kI 5 wa) e9 e10 e11 e12 e13 e14 (kI 16 r) e17 e19 e21 e22 (kPt t) e25 e26) (fun v u => v = some (.int (pAheadOf h so pa wa wk lo ri la k0)) ∧ ∃ t2 : t6, u = wC (kO sd) e1 e2 (kG3 wk tw sf lo ri la) (kI 10 h) (kZ 10 so) (kI 10 ho) (kI 5 pa) (kI 5 wa) e9 e10 e11 e12 e13 e14 (kI 16 r) e17 e19 e21 e22 (kPt t2) e25 e26) := by
  refine Ct.of (by decide) (by exact Nat.le_of_ble_eq_true rfl) ?_
  show Go mX7_aheadOf 6 0 [(0, .ref 0), (1, .int k0)] [] (wC (kO sd) e1 e2 (kG3 wk tw sf lo ri la) (kI 10 h) (kZ 10 so) (kI 10 ho) (kI 5 pa) (kI 5 wa) e9 e10 e11 e12 e13 e14 (kI 16 r) e17 e19 e21 e22 (kPt t) e25 e26) (fun v u => v = some (.int (pAheadOf h so pa wa wk lo ri la k0)) ∧ ∃ t2 : t6, u = wC (kO sd) e1 e2 (kG3 wk tw sf lo ri la) (kI 10 h) (kZ 10 so) (kI 10 ho) (kI 5 pa) (kI 5 wa) e9 e10 e11 e12 e13 e14 (kI 16 r) e17 e19 e21 e22 (kPt t2) e25 e26)
  have hg0 := hg
  obtain ⟨hH, hso, hho, hpa, hwa, hwk, htw, hlo, hri, hla⟩ := hg
  refine g_aload_n (i := 0) (j := 0) dX7_aheadOf_0 rfl rfl ?_
  refine g_iload_n (i := 1) (j := 1) dX7_aheadOf_1 rfl rfl ?_
  refine c_V (st1 := [.int (nI (bN (0 ≤ k0.toInt ∧ k0.toInt < wk)))]) (ctX7_isWalker (x := k0) (by omega)) kX7_isWalker lX7_138 (by decide) rfl rfl rfl rfl (by exact Nat.le_of_ble_eq_true rfl) dX7_aheadOf_2 rfl rfl ?_
  refine b_if_ne (tgt := 10) dX7_aheadOf_5 (by decide) (fun h5 => ?_) (fun h5 => ?_)
  · obtain ⟨k, hk, rfl⟩ := raw_lt h5
    have ek : cN (nI k) = k := cN_n (by omega)
    refine g_aload_n (i := 0) (j := 0) dX7_aheadOf_10 rfl rfl ?_
    refine g_callV (rest := []) (ctX7_meetingStep  ⟨hH, hso, hho, hpa, hwa, hwk, htw, hlo, hri, hla⟩) kX7_meetingStep lX7_227 (by decide) rfl rfl rfl rfl (by exact Nat.le_of_ble_eq_true rfl) dX7_aheadOf_11 rfl (fun v u hvu => ?_)
    obtain ⟨rfl, t11, rfl⟩ := hvu
    refine g_st (st' := [.int (rO (sMeet h so pa wa wk lo ri la))]) rfl ?_
    refine g_istore_n (i := 2) (lv' := [(2, .int (rO (sMeet h so pa wa wk lo ri la))), (0, .ref 0), (1, .int (nI k))]) dX7_aheadOf_14 rfl (by decide) rfl ?_
    rcases hm : sMeet h so pa wa wk lo ri la with _ | j
    · refine g_lvE (lv' := [(2, .int (-9)), (0, .ref 0), (1, .int (nI k))]) rfl ?_
      refine g_iload_n (i := 2) (j := 0) dX7_aheadOf_15 rfl rfl ?_
      refine g_bipush (v := (-9)) dX7_aheadOf_16 (by decide) ?_
      refine g_icmp_ne (tgt := 24) dX7_aheadOf_18 (by decide) (fun h18 => ?_) (fun h18 => ?_)
      · exact absurd rfl h18
      · refine g_bipush (v := (-9)) dX7_aheadOf_21 (by decide) ?_
        refine g_iret rfl rfl dX7_aheadOf_23 ?_
        refine ⟨?_, _, rfl⟩
        unfold pAheadOf
        rw [if_pos ((iW_n (by omega)).mpr hk), hm]
    · have hj : j ≤ 40 := by have := sFirst_lt hm; omega
      refine g_lvE (lv' := [(2, .int (nI j)), (0, .ref 0), (1, .int (nI k))]) rfl ?_
      refine g_iload_n (i := 2) (j := 0) dX7_aheadOf_15 rfl rfl ?_
      refine g_bipush (v := (-9)) dX7_aheadOf_16 (by decide) ?_
      refine g_icmp_ne (tgt := 24) dX7_aheadOf_18 (by decide) (fun h18 => ?_) (fun h18 => ?_)
      · refine g_bipush (v := nI 40) dX7_aheadOf_24 (by decide) ?_
        refine g_istore_n (i := 3) (lv' := [(3, .int (nI 40)), (2, .int (nI j)), (0, .ref 0), (1, .int (nI k))]) dX7_aheadOf_26 rfl (by decide) rfl ?_
        refine g_lv [2, 3, 1, 0] rfl ?_
        refine g_lvE (lv' := [(0, .ref 0), (1, .int (nI k)), (2, .int (nI j)), (3, .int (nI 41 + (-1)))]) (by rw [show nI 41 + (-1) = nI 40 by decide]; rfl) ?_
        refine g_post ?_ (lp_aheadOf hg0 (by omega) hj 41 t11 (by omega))
        intro v u hvu
        unfold pAheadOf
        rw [if_pos ((iW_n (by omega)).mpr hk), ek, hm]
        exact hvu
      · exact absurd h18 (nI_n9 (by omega))
  · refine g_iconst (v := (-1)) dX7_aheadOf_8 (by decide) ?_
    refine g_iret rfl rfl dX7_aheadOf_9 ?_
    refine ⟨?_, _, rfl⟩
    unfold pAheadOf
    rw [if_neg h5]

