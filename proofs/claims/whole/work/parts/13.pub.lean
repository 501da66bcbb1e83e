/-! part 13: answers in pure words; public methods -/
theorem tsw_5 (x : Int32) : (x.toInt < 0 ∨ 4 < x.toInt) ∨ x = nI 0 ∨ x = nI 1 ∨ x = nI 2 ∨ x = nI 3 ∨ x = nI 4 := by
  by_cases h : 0 ≤ x.toInt ∧ x.toInt < ((5 : Nat) : Int)
  · obtain ⟨k, hk, rfl⟩ := raw_lt h
    have h2 : k = 0 ∨ k = 1 ∨ k = 2 ∨ k = 3 ∨ k = 4 := by omega
    rcases h2 with rfl | rfl | rfl | rfl | rfl <;> simp
  · exact Or.inl (by omega)
theorem tsw_14 (x : Int32) : (x.toInt < 0 ∨ 13 < x.toInt) ∨ x = nI 0 ∨ x = nI 1 ∨ x = nI 2 ∨ x = nI 3 ∨ x = nI 4 ∨ x = nI 5 ∨ x = nI 6 ∨ x = nI 7 ∨ x = nI 8 ∨ x = nI 9 ∨ x = nI 10 ∨ x = nI 11 ∨ x = nI 12 ∨ x = nI 13 := by
  by_cases h : 0 ≤ x.toInt ∧ x.toInt < ((14 : Nat) : Int)
  · obtain ⟨k, hk, rfl⟩ := raw_lt h
    have h2 : k = 0 ∨ k = 1 ∨ k = 2 ∨ k = 3 ∨ k = 4 ∨ k = 5 ∨ k = 6 ∨ k = 7 ∨ k = 8 ∨ k = 9 ∨ k = 10 ∨ k = 11 ∨ k = 12 ∨ k = 13 := by omega
    rcases h2 with rfl | rfl | rfl | rfl | rfl | rfl | rfl | rfl | rfl | rfl | rfl | rfl | rfl | rfl <;> simp
  · exact Or.inl (by omega)
abbrev iW (x : Int32) (n : Nat) : Prop := 0 ≤ x.toInt ∧ x.toInt < n
theorem iW_n {k n : Nat} (hk : k < 2 ^ 31) : iW (nI k) n ↔ k < n := by unfold iW; rw [nI_toInt hk]; omega
abbrev cN (x : Int32) : Nat := x.toNatClampNeg
def pAboutN (wk tw lo ri la ct ln : Nat) (r : Nat → Nat) : Nat → Nat
  | 0 => wk | 1 => tw | 2 => r 0 | 3 => sWater la ri (r 0) lo | 4 => lo | 5 => ri | 6 => la
  | 7 => sSet (fun w => decide (r (11 + w) = 0)) wk | 8 => sSet (fun w => decide (r (11 + w) = 1)) wk | 9 => sSet (fun w => decide (r (11 + w) = 2)) wk
  | 10 => sSet (fun w => decide (r (11 + w) = 3)) wk | 11 => sSet (fun w => decide (r (11 + w) = 4)) wk | 12 => ct | _ => ln
def pAbout (wk tw lo ri la ct ln : Nat) (r : Nat → Nat) (x : Int32) : Int32 := if iW x 14 then nI (pAboutN wk tw lo ri la ct ln r (cN x)) else -2
def pCellN (h so ho : Nat → Nat) (wk lo ri la : Nat) (r : Nat → Nat) (c : Nat) : Nat → Nat
  | 0 => h c | 1 => sDepth h c (sWater la ri (r 0) lo) | 2 => so c | 3 => ho c | _ => sUp r wk c
def pCell (h so ho : Nat → Nat) (wk lo ri la : Nat) (r : Nat → Nat) (c x : Int32) : Int32 := if iW c 10 then (if iW x 5 then nI (pCellN h so ho wk lo ri la r (cN c) (cN x)) else -2) else -1
def pWalkerN (pa wa : Nat → Nat) (r : Nat → Nat) (k : Nat) : Nat → Nat
  | 0 => pa k | 1 => wa k | 2 => r (1 + k) | 3 => r (6 + k) | _ => r (11 + k)
def pWalker (pa wa : Nat → Nat) (wk : Nat) (r : Nat → Nat) (k x : Int32) : Int32 := if iW k wk then (if iW x 5 then nI (pWalkerN pa wa r (cN k) (cN x)) else -2) else -1
def pDeep (h : Nat → Nat) (lo ri la : Nat) (c s : Int32) : Int32 := if iW c 10 then (if iW s 41 then nI (sDepth h (cN c) (sWater la ri (cN s) lo)) else -2) else -1
abbrev cHead (wk : Nat) (r : Nat → Nat) (k w : Int32) : Prop := iW k wk ∧ iW w 3 ∧ r (11 + cN k) = 0 ∧ r (6 + cN k) ≠ cN w
def pHead (wk : Nat) (r : Nat → Nat) (k w : Int32) : Int32 := if iW k wk then (if iW w 3 then (if r (11 + cN k) = 0 ∧ r (6 + cN k) ≠ cN w then nI (r (6 + cN k)) else -3) else -2) else -1
abbrev cClimb (ho : Nat → Nat) (wk : Nat) (r : Nat → Nat) (k : Int32) : Prop := iW k wk ∧ r (11 + cN k) = 0 ∧ sUp r wk (r (1 + cN k)) < ho (r (1 + cN k))
def pClimb (ho : Nat → Nat) (wk : Nat) (r : Nat → Nat) (k : Int32) : Int32 := if iW k wk then (if r (11 + cN k) = 0 ∧ ho (r (1 + cN k)) ≠ 0 then (if sUp r wk (r (1 + cN k)) < ho (r (1 + cN k)) then nI (sUp (va_up r (11 + cN k) 4) wk (r (1 + cN k))) else -4) else -3) else -1
def pGone (h so pa wa : Nat → Nat) (wk lo ri la : Nat) (k c s w : Int32) : Int32 := if iW k wk ∧ iW c 10 then (if iW w 3 ∧ ¬ w = nI 0 ∧ iW s 41 then rO (sArr h so la ri (pa (cN k)) (wa (cN k)) lo (cN w) (cN c) (cN s)) else -2) else -1
theorem cN_n {k : Nat} (hk : k < 2 ^ 31) : cN (nI k) = k := nI_clamp hk
/-- behind an act: the ring -/
abbrev nxP (nx : Nat) : Nat := if nx + 1 < 16 then nx + 1 else 0
abbrev ctP (ct : Nat) : Nat := if ct < 16 then ct + 1 else ct
theorem ctX7_about {e2 e9 e10 e11 e12 e13 e14 e19 e21 e22 e25 e26 : va_E} {ln pl sp nx ct : Nat} {sd : Int64} {h so ho pa wa : Nat → Nat} {wk tw sf lo ri la : Nat} {r : Nat → Nat} {t : t6} (hg : gOK h so ho pa wa wk tw lo ri la) (hrk : rOK r) {x : Int32} : Ct mX7_about 3 [.ref 0, .int x] (wC (kO sd) (kT ln pl sp) e2 (kG3 wk tw sf lo ri la) (kI 10 h) (kZ 10 so) (kI 10 ho) (kI 5 pa) (kI 5 wa) e9 e10 e11 e12 e13 e14 (kI 16 r) (kA nx ct) e19 e21 e22 (kPt t) e25 e26) (gE (some (.int (pAbout wk tw lo ri la ct ln r x))) (wC (kO sd) (kT ln pl sp) e2 (kG3 wk tw sf lo ri la) (kI 10 h) (kZ 10 so) (kI 10 ho) (kI 5 pa) (kI 5 wa) e9 e10 e11 e12 e13 e14 (kI 16 r) (kA nx ct) e19 e21 e22 (kPt t) e25 e26)) := by
  refine Ct.of (by decide) (by exact Nat.le_of_ble_eq_true rfl) ?_
  show Go mX7_about 3 0 [(0, .ref 0), (1, .int x)] [] (wC (kO sd) (kT ln pl sp) e2 (kG3 wk tw sf lo ri la) (kI 10 h) (kZ 10 so) (kI 10 ho) (kI 5 pa) (kI 5 wa) e9 e10 e11 e12 e13 e14 (kI 16 r) (kA nx ct) e19 e21 e22 (kPt t) e25 e26) (gE (some (.int (pAbout wk tw lo ri la ct ln r x))) (wC (kO sd) (kT ln pl sp) e2 (kG3 wk tw sf lo ri la) (kI 10 h) (kZ 10 so) (kI 10 ho) (kI 5 pa) (kI 5 wa) e9 e10 e11 e12 e13 e14 (kI 16 r) (kA nx ct) e19 e21 e22 (kPt t) e25 e26))
  obtain ⟨hH, hso, hho, hpa, hwa, hwk, htw, hlo, hri, hla⟩ := hg
  obtain ⟨hr, hr1, hr6, hr11⟩ := hrk
  refine g_iload_n (i := 1) (j := 1) dX7_about_0 rfl rfl ?_
  rcases tsw_14 x with hs | hs | hs | hs | hs | hs | hs | hs | hs | hs | hs | hs | hs | hs | hs
  · refine g_tableOut (tgt := 228) dX7_about_1 (by rcases hs with hs | hs <;> omega) (by decide) ?_
    refine g_bipush (v := (-2)) dX7_about_228 (by decide) ?_
    refine g_iret rfl rfl dX7_about_230 ?_
    refine gE_r ?_ rfl
    unfold pAbout
    rw [if_neg (by unfold iW; omega)]
  · subst hs
    refine g_tableIn (off := 71) (tgt := 72) dX7_about_1 (by decide) (by decide) (by decide) (by decide) ?_
    refine g_aload_n (i := 0) (j := 0) dX7_about_72 rfl rfl ?_
    refine g_get fX7_19 rfl rfl dX7_about_73 ?_
    refine g_get fX7_89 rfl rfl dX7_about_76 ?_
    refine g_iret rfl rfl dX7_about_79 ?_
    refine gE_r ?_ rfl
    unfold pAbout
    rw [if_pos (by decide), cN_n (by decide)]
    rfl
  · subst hs
    refine g_tableIn (off := 79) (tgt := 80) dX7_about_1 (by decide) (by decide) (by decide) (by decide) ?_
    refine g_aload_n (i := 0) (j := 0) dX7_about_80 rfl rfl ?_
    refine g_get fX7_19 rfl rfl dX7_about_81 ?_
    refine g_get fX7_92 rfl rfl dX7_about_84 ?_
    refine g_iret rfl rfl dX7_about_87 ?_
    refine gE_r ?_ rfl
    unfold pAbout
    rw [if_pos (by decide), cN_n (by decide)]
    rfl
  · subst hs
    refine g_tableIn (off := 87) (tgt := 88) dX7_about_1 (by decide) (by decide) (by decide) (by decide) ?_
    refine g_aload_n (i := 0) (j := 0) dX7_about_88 rfl rfl ?_
    refine g_get fX7_29 rfl rfl dX7_about_89 ?_
    refine c_V (st1 := [.int (nI (r 0))]) (ctX2_time  ) kX2_time lX7_95 (by decide) rfl rfl rfl rfl (by exact Nat.le_of_ble_eq_true rfl) dX7_about_92 rfl rfl ?_
    refine g_iret rfl rfl dX7_about_95 ?_
    refine gE_r ?_ rfl
    unfold pAbout
    rw [if_pos (by decide), cN_n (by decide)]
    rfl
  · subst hs
    refine g_tableIn (off := 95) (tgt := 96) dX7_about_1 (by decide) (by decide) (by decide) (by decide) ?_
    refine g_aload_n (i := 0) (j := 0) dX7_about_96 rfl rfl ?_
    refine g_aload_n (i := 0) (j := 0) dX7_about_97 rfl rfl ?_
    refine g_get fX7_29 rfl rfl dX7_about_98 ?_
    refine c_V (st1 := [.int (nI (r 0)), .ref 0]) (ctX2_time  ) kX2_time lX7_95 (by decide) rfl rfl rfl rfl (by exact Nat.le_of_ble_eq_true rfl) dX7_about_101 rfl rfl ?_
    refine c_V (st1 := [.int (nI (sWater la ri (r 0) lo))]) (ctX7_waterAt (st := r 0) (by first | omega | exact hpa _ | exact hwa _ | exact hr1 _ (by omega) | exact hr6 _ (by omega) | exact hr11 _ (by omega) | exact hr _ | exact Nat.le_succ_of_le (hr _)) (by first | omega | exact hpa _ | exact hwa _ | exact hr1 _ (by omega) | exact hr6 _ (by omega) | exact hr11 _ (by omega) | exact hr _ | exact Nat.le_succ_of_le (hr _)) (by first | omega | exact hpa _ | exact hwa _ | exact hr1 _ (by omega) | exact hr6 _ (by omega) | exact hr11 _ (by omega) | exact hr _ | exact Nat.le_succ_of_le (hr _)) (by first | omega | exact hpa _ | exact hwa _ | exact hr1 _ (by omega) | exact hr6 _ (by omega) | exact hr11 _ (by omega) | exact hr _ | exact Nat.le_succ_of_le (hr _))) kX7_waterAt lX7_99 (by decide) rfl rfl rfl rfl (by exact Nat.le_of_ble_eq_true rfl) dX7_about_104 rfl rfl ?_
    refine g_iret rfl rfl dX7_about_107 ?_
    refine gE_r ?_ rfl
    unfold pAbout
    rw [if_pos (by decide), cN_n (by decide)]
    rfl
  · subst hs
    refine g_tableIn (off := 107) (tgt := 108) dX7_about_1 (by decide) (by decide) (by decide) (by decide) ?_
    refine g_aload_n (i := 0) (j := 0) dX7_about_108 rfl rfl ?_
    refine g_get fX7_19 rfl rfl dX7_about_109 ?_
    refine g_get fX7_103 rfl rfl dX7_about_112 ?_
    refine g_iret rfl rfl dX7_about_115 ?_
    refine gE_r ?_ rfl
    unfold pAbout
    rw [if_pos (by decide), cN_n (by decide)]
    rfl
  · subst hs
    refine g_tableIn (off := 115) (tgt := 116) dX7_about_1 (by decide) (by decide) (by decide) (by decide) ?_
    refine g_aload_n (i := 0) (j := 0) dX7_about_116 rfl rfl ?_
    refine g_get fX7_19 rfl rfl dX7_about_117 ?_
    refine g_get fX7_106 rfl rfl dX7_about_120 ?_
    refine g_iret rfl rfl dX7_about_123 ?_
    refine gE_r ?_ rfl
    unfold pAbout
    rw [if_pos (by decide), cN_n (by decide)]
    rfl
  · subst hs
    refine g_tableIn (off := 123) (tgt := 124) dX7_about_1 (by decide) (by decide) (by decide) (by decide) ?_
    refine g_aload_n (i := 0) (j := 0) dX7_about_124 rfl rfl ?_
    refine g_get fX7_19 rfl rfl dX7_about_125 ?_
    refine g_get fX7_109 rfl rfl dX7_about_128 ?_
    refine g_iret rfl rfl dX7_about_131 ?_
    refine gE_r ?_ rfl
    unfold pAbout
    rw [if_pos (by decide), cN_n (by decide)]
    rfl
  · subst hs
    refine g_tableIn (off := 131) (tgt := 132) dX7_about_1 (by decide) (by decide) (by decide) (by decide) ?_
    refine g_aload_n (i := 0) (j := 0) dX7_about_132 rfl rfl ?_
    refine g_get fX7_29 rfl rfl dX7_about_133 ?_
    refine g_iconst (v := nI 0) dX7_about_136 (by decide) ?_
    refine g_aload_n (i := 0) (j := 0) dX7_about_137 rfl rfl ?_
    refine g_get fX7_19 rfl rfl dX7_about_138 ?_
    refine g_get fX7_89 rfl rfl dX7_about_141 ?_
    refine c_V (st1 := [.int (nI (sSet (fun w => decide (r (11 + w) = 0)) wk))]) (ctX2_allThat (x := 0) (wk := wk) hr (by omega) (by omega)) kX2_allThat lX7_112 (by decide) rfl rfl rfl rfl (by exact Nat.le_of_ble_eq_true rfl) dX7_about_144 rfl rfl ?_
    refine g_iret rfl rfl dX7_about_147 ?_
    refine gE_r ?_ rfl
    unfold pAbout
    rw [if_pos (by decide), cN_n (by decide)]
    rfl
  · subst hs
    refine g_tableIn (off := 147) (tgt := 148) dX7_about_1 (by decide) (by decide) (by decide) (by decide) ?_
    refine g_aload_n (i := 0) (j := 0) dX7_about_148 rfl rfl ?_
    refine g_get fX7_29 rfl rfl dX7_about_149 ?_
    refine g_iconst (v := nI 1) dX7_about_152 (by decide) ?_
    refine g_aload_n (i := 0) (j := 0) dX7_about_153 rfl rfl ?_
    refine g_get fX7_19 rfl rfl dX7_about_154 ?_
    refine g_get fX7_89 rfl rfl dX7_about_157 ?_
    refine c_V (st1 := [.int (nI (sSet (fun w => decide (r (11 + w) = 1)) wk))]) (ctX2_allThat (x := 1) (wk := wk) hr (by omega) (by omega)) kX2_allThat lX7_112 (by decide) rfl rfl rfl rfl (by exact Nat.le_of_ble_eq_true rfl) dX7_about_160 rfl rfl ?_
    refine g_iret rfl rfl dX7_about_163 ?_
    refine gE_r ?_ rfl
    unfold pAbout
    rw [if_pos (by decide), cN_n (by decide)]
    rfl
  · subst hs
    refine g_tableIn (off := 163) (tgt := 164) dX7_about_1 (by decide) (by decide) (by decide) (by decide) ?_
    refine g_aload_n (i := 0) (j := 0) dX7_about_164 rfl rfl ?_
    refine g_get fX7_29 rfl rfl dX7_about_165 ?_
    refine g_iconst (v := nI 2) dX7_about_168 (by decide) ?_
    refine g_aload_n (i := 0) (j := 0) dX7_about_169 rfl rfl ?_
    refine g_get fX7_19 rfl rfl dX7_about_170 ?_
    refine g_get fX7_89 rfl rfl dX7_about_173 ?_
    refine c_V (st1 := [.int (nI (sSet (fun w => decide (r (11 + w) = 2)) wk))]) (ctX2_allThat (x := 2) (wk := wk) hr (by omega) (by omega)) kX2_allThat lX7_112 (by decide) rfl rfl rfl rfl (by exact Nat.le_of_ble_eq_true rfl) dX7_about_176 rfl rfl ?_
    refine g_iret rfl rfl dX7_about_179 ?_
    refine gE_r ?_ rfl
    unfold pAbout
    rw [if_pos (by decide), cN_n (by decide)]
    rfl
  · subst hs
    refine g_tableIn (off := 179) (tgt := 180) dX7_about_1 (by decide) (by decide) (by decide) (by decide) ?_
    refine g_aload_n (i := 0) (j := 0) dX7_about_180 rfl rfl ?_
    refine g_get fX7_29 rfl rfl dX7_about_181 ?_
    refine g_iconst (v := nI 3) dX7_about_184 (by decide) ?_
    refine g_aload_n (i := 0) (j := 0) dX7_about_185 rfl rfl ?_
    refine g_get fX7_19 rfl rfl dX7_about_186 ?_
    refine g_get fX7_89 rfl rfl dX7_about_189 ?_
    refine c_V (st1 := [.int (nI (sSet (fun w => decide (r (11 + w) = 3)) wk))]) (ctX2_allThat (x := 3) (wk := wk) hr (by omega) (by omega)) kX2_allThat lX7_112 (by decide) rfl rfl rfl rfl (by exact Nat.le_of_ble_eq_true rfl) dX7_about_192 rfl rfl ?_
    refine g_iret rfl rfl dX7_about_195 ?_
    refine gE_r ?_ rfl
    unfold pAbout
    rw [if_pos (by decide), cN_n (by decide)]
    rfl
  · subst hs
    refine g_tableIn (off := 195) (tgt := 196) dX7_about_1 (by decide) (by decide) (by decide) (by decide) ?_
    refine g_aload_n (i := 0) (j := 0) dX7_about_196 rfl rfl ?_
    refine g_get fX7_29 rfl rfl dX7_about_197 ?_
    refine g_iconst (v := nI 4) dX7_about_200 (by decide) ?_
    refine g_aload_n (i := 0) (j := 0) dX7_about_201 rfl rfl ?_
    refine g_get fX7_19 rfl rfl dX7_about_202 ?_
    refine g_get fX7_89 rfl rfl dX7_about_205 ?_
    refine c_V (st1 := [.int (nI (sSet (fun w => decide (r (11 + w) = 4)) wk))]) (ctX2_allThat (x := 4) (wk := wk) hr (by omega) (by omega)) kX2_allThat lX7_112 (by decide) rfl rfl rfl rfl (by exact Nat.le_of_ble_eq_true rfl) dX7_about_208 rfl rfl ?_
    refine g_iret rfl rfl dX7_about_211 ?_
    refine gE_r ?_ rfl
    unfold pAbout
    rw [if_pos (by decide), cN_n (by decide)]
    rfl
  · subst hs
    refine g_tableIn (off := 211) (tgt := 212) dX7_about_1 (by decide) (by decide) (by decide) (by decide) ?_
    refine g_aload_n (i := 0) (j := 0) dX7_about_212 rfl rfl ?_
    refine g_get fX7_36 rfl rfl dX7_about_213 ?_
    refine g_get fX7_116 rfl rfl dX7_about_216 ?_
    refine g_iret rfl rfl dX7_about_219 ?_
    refine gE_r ?_ rfl
    unfold pAbout
    rw [if_pos (by decide), cN_n (by decide)]
    rfl
  · subst hs
    refine g_tableIn (off := 219) (tgt := 220) dX7_about_1 (by decide) (by decide) (by decide) (by decide) ?_
    refine g_aload_n (i := 0) (j := 0) dX7_about_220 rfl rfl ?_
    refine g_get fX7_10 rfl rfl dX7_about_221 ?_
    refine g_get fX7_71 rfl rfl dX7_about_224 ?_
    refine g_iret rfl rfl dX7_about_227 ?_
    refine gE_r ?_ rfl
    unfold pAbout
    rw [if_pos (by decide), cN_n (by decide)]
    rfl

theorem ctX7_cell {e1 e2 e9 e10 e11 e12 e13 e14 e17 e19 e21 e22 e25 e26 : va_E} {sd : Int64} {h so ho pa wa : Nat → Nat} {wk tw sf lo ri la : Nat} {r : Nat → Nat} {t : t6} (hg : gOK h so ho pa wa wk tw lo ri la) (hrk : rOK r) {c0 x : Int32} : Ct mX7_cell 4 [.ref 0, .int c0, .int x] (wC (kO sd) e1 e2 (kG3 wk tw sf lo ri la) (kI 10 h) (kZ 10 so) (kI 10 ho) (kI 5 pa) (kI 5 wa) e9 e10 e11 e12 e13 e14 (kI 16 r) e17 e19 e21 e22 (kPt t) e25 e26) (gE (some (.int (pCell h so ho wk lo ri la r c0 x))) (wC (kO sd) e1 e2 (kG3 wk tw sf lo ri la) (kI 10 h) (kZ 10 so) (kI 10 ho) (kI 5 pa) (kI 5 wa) e9 e10 e11 e12 e13 e14 (kI 16 r) e17 e19 e21 e22 (kPt t) e25 e26)) := by
  refine Ct.of (by decide) (by exact Nat.le_of_ble_eq_true rfl) ?_
  show Go mX7_cell 4 0 [(0, .ref 0), (1, .int c0), (2, .int x)] [] (wC (kO sd) e1 e2 (kG3 wk tw sf lo ri la) (kI 10 h) (kZ 10 so) (kI 10 ho) (kI 5 pa) (kI 5 wa) e9 e10 e11 e12 e13 e14 (kI 16 r) e17 e19 e21 e22 (kPt t) e25 e26) (gE (some (.int (pCell h so ho wk lo ri la r c0 x))) (wC (kO sd) e1 e2 (kG3 wk tw sf lo ri la) (kI 10 h) (kZ 10 so) (kI 10 ho) (kI 5 pa) (kI 5 wa) e9 e10 e11 e12 e13 e14 (kI 16 r) e17 e19 e21 e22 (kPt t) e25 e26))
  obtain ⟨hH, hso, hho, hpa, hwa, hwk, htw, hlo, hri, hla⟩ := hg
  obtain ⟨hr, hr1, hr6, hr11⟩ := hrk
  refine g_iload_n (i := 1) (j := 1) dX7_cell_0 rfl rfl ?_
  refine c_S (st1 := [.int (nI (bN (0 ≤ c0.toInt ∧ c0.toInt ≤ 9)))]) (ctX7_isCell (x := c0) ) kX7_isCell lX7_119 (by decide) rfl (by exact Nat.le_of_ble_eq_true rfl) dX7_cell_1 rfl rfl ?_
  refine b_if_ne (tgt := 9) dX7_cell_4 (by decide) (fun h4 => ?_) (fun h4 => ?_)
  · obtain ⟨c, hc, rfl⟩ := raw_lt (n := 10) (by omega : 0 ≤ c0.toInt ∧ c0.toInt < ((10 : Nat) : Int))
    refine g_iload_n (i := 2) (j := 2) dX7_cell_9 rfl rfl ?_
    rcases tsw_5 x with hs | hs | hs | hs | hs | hs
    · refine g_tableOut (tgt := 105) dX7_cell_10 (by rcases hs with hs | hs <;> omega) (by decide) ?_
      refine g_bipush (v := (-2)) dX7_cell_105 (by decide) ?_
      refine g_iret rfl rfl dX7_cell_107 ?_
      refine gE_r ?_ rfl
      unfold pCell
      rw [if_pos ((iW_n (by omega)).mpr (by omega)), if_neg (by unfold iW; omega)]
    · subst hs
      refine g_tableIn (off := 34) (tgt := 44) dX7_cell_10 (by decide) (by decide) (by decide) (by decide) ?_
      refine g_aload_n (i := 0) (j := 0) dX7_cell_44 rfl rfl ?_
      refine g_get fX7_19 rfl rfl dX7_cell_45 ?_
      refine g_iload_n (i := 1) (j := 1) dX7_cell_48 rfl rfl ?_
      refine c_V (st1 := [.int (nI (h c))]) (ctX1_heightOf (c := c) (by first | omega | exact hpa _ | exact hwa _ | exact hr1 _ (by omega) | exact hr6 _ (by omega) | exact hr11 _ (by omega) | exact hr _ | exact Nat.le_succ_of_le (hr _))) kX1_heightOf lX7_123 (by decide) rfl rfl rfl rfl (by exact Nat.le_of_ble_eq_true rfl) dX7_cell_49 rfl rfl ?_
      refine g_iret rfl rfl dX7_cell_52 ?_
      refine gE_r ?_ rfl
      unfold pCell
      rw [if_pos ((iW_n (by omega)).mpr (by omega)), if_pos (by decide), cN_n (k := c) (by omega), cN_n (by decide)]
      rfl
    · subst hs
      refine g_tableIn (off := 43) (tgt := 53) dX7_cell_10 (by decide) (by decide) (by decide) (by decide) ?_
      refine g_aload_n (i := 0) (j := 0) dX7_cell_53 rfl rfl ?_
      refine g_get fX7_19 rfl rfl dX7_cell_54 ?_
      refine g_iload_n (i := 1) (j := 1) dX7_cell_57 rfl rfl ?_
      refine g_aload_n (i := 0) (j := 0) dX7_cell_58 rfl rfl ?_
      refine g_aload_n (i := 0) (j := 0) dX7_cell_59 rfl rfl ?_
      refine g_get fX7_29 rfl rfl dX7_cell_60 ?_
      refine c_V (st1 := [.int (nI (r 0)), .ref 0, .int (nI c), .ref 3]) (ctX2_time  ) kX2_time lX7_95 (by decide) rfl rfl rfl rfl (by exact Nat.le_of_ble_eq_true rfl) dX7_cell_63 rfl rfl ?_
      refine c_V (st1 := [.int (nI (sWater la ri (r 0) lo)), .int (nI c), .ref 3]) (ctX7_waterAt (st := r 0) (by first | omega | exact hpa _ | exact hwa _ | exact hr1 _ (by omega) | exact hr6 _ (by omega) | exact hr11 _ (by omega) | exact hr _ | exact Nat.le_succ_of_le (hr _)) (by first | omega | exact hpa _ | exact hwa _ | exact hr1 _ (by omega) | exact hr6 _ (by omega) | exact hr11 _ (by omega) | exact hr _ | exact Nat.le_succ_of_le (hr _)) (by first | omega | exact hpa _ | exact hwa _ | exact hr1 _ (by omega) | exact hr6 _ (by omega) | exact hr11 _ (by omega) | exact hr _ | exact Nat.le_succ_of_le (hr _)) (by first | omega | exact hpa _ | exact hwa _ | exact hr1 _ (by omega) | exact hr6 _ (by omega) | exact hr11 _ (by omega) | exact hr _ | exact Nat.le_succ_of_le (hr _))) kX7_waterAt lX7_99 (by decide) rfl rfl rfl rfl (by exact Nat.le_of_ble_eq_true rfl) dX7_cell_66 rfl rfl ?_
      refine c_V (st1 := [.int (nI (sDepth h c (sWater la ri (r 0) lo)))]) (ctX1_depth (c := c) (w := sWater la ri (r 0) lo) hH (by first | omega | exact hpa _ | exact hwa _ | exact hr1 _ (by omega) | exact hr6 _ (by omega) | exact hr11 _ (by omega) | exact hr _ | exact Nat.le_succ_of_le (hr _)) (by first | omega | exact sWater_le _ _ _ _)) kX1_depth lX7_126 (by decide) rfl rfl rfl rfl (by exact Nat.le_of_ble_eq_true rfl) dX7_cell_69 rfl rfl ?_
      refine g_iret rfl rfl dX7_cell_72 ?_
      refine gE_r ?_ rfl
      unfold pCell
      rw [if_pos ((iW_n (by omega)).mpr (by omega)), if_pos (by decide), cN_n (k := c) (by omega), cN_n (by decide)]
      rfl
    · subst hs
      refine g_tableIn (off := 63) (tgt := 73) dX7_cell_10 (by decide) (by decide) (by decide) (by decide) ?_
      refine g_aload_n (i := 0) (j := 0) dX7_cell_73 rfl rfl ?_
      refine g_get fX7_19 rfl rfl dX7_cell_74 ?_
      refine g_iload_n (i := 1) (j := 1) dX7_cell_77 rfl rfl ?_
      refine c_V (st1 := [.int (nI (so c))]) (ctX1_isSoft (c := c) hso (by first | omega | exact hpa _ | exact hwa _ | exact hr1 _ (by omega) | exact hr6 _ (by omega) | exact hr11 _ (by omega) | exact hr _ | exact Nat.le_succ_of_le (hr _))) kX1_isSoft lX7_129 (by decide) rfl rfl rfl rfl (by exact Nat.le_of_ble_eq_true rfl) dX7_cell_78 rfl rfl ?_
      refine n_if_eq (tgt := 88) (by have := hso c; omega) dX7_cell_81 (by decide) (fun h81 => ?_) (fun h81 => ?_)
      · refine g_iconst (v := nI 0) dX7_cell_88 (by decide) ?_
        refine g_iret rfl rfl dX7_cell_89 ?_
        refine gE_r ?_ rfl
        unfold pCell
        rw [if_pos ((iW_n (by omega)).mpr (by omega)), if_pos (by decide), cN_n (k := c) (by omega), cN_n (by decide)]
        have q2 := hso c
        show _ = nI (so c)
        congr 1
        omega
      · refine g_iconst (v := nI 1) dX7_cell_84 (by decide) ?_
        refine g_goto (tgt := 89) dX7_cell_85 (by decide) ?_
        refine g_iret rfl rfl dX7_cell_89 ?_
        refine gE_r ?_ rfl
        unfold pCell
        rw [if_pos ((iW_n (by omega)).mpr (by omega)), if_pos (by decide), cN_n (k := c) (by omega), cN_n (by decide)]
        have q2 := hso c
        show _ = nI (so c)
        congr 1
        omega
    · subst hs
      refine g_tableIn (off := 80) (tgt := 90) dX7_cell_10 (by decide) (by decide) (by decide) (by decide) ?_
      refine g_aload_n (i := 0) (j := 0) dX7_cell_90 rfl rfl ?_
      refine g_get fX7_19 rfl rfl dX7_cell_91 ?_
      refine g_iload_n (i := 1) (j := 1) dX7_cell_94 rfl rfl ?_
      refine c_V (st1 := [.int (nI (ho c))]) (ctX1_holdOf (c := c) (by first | omega | exact hpa _ | exact hwa _ | exact hr1 _ (by omega) | exact hr6 _ (by omega) | exact hr11 _ (by omega) | exact hr _ | exact Nat.le_succ_of_le (hr _))) kX1_holdOf lX7_132 (by decide) rfl rfl rfl rfl (by exact Nat.le_of_ble_eq_true rfl) dX7_cell_95 rfl rfl ?_
      refine g_iret rfl rfl dX7_cell_98 ?_
      refine gE_r ?_ rfl
      unfold pCell
      rw [if_pos ((iW_n (by omega)).mpr (by omega)), if_pos (by decide), cN_n (k := c) (by omega), cN_n (by decide)]
      rfl
    · subst hs
      refine g_tableIn (off := 89) (tgt := 99) dX7_cell_10 (by decide) (by decide) (by decide) (by decide) ?_
      refine g_aload_n (i := 0) (j := 0) dX7_cell_99 rfl rfl ?_
      refine g_iload_n (i := 1) (j := 1) dX7_cell_100 rfl rfl ?_
      refine c_V (st1 := [.int (nI (sUp r wk c))]) (ctX7_upOn (c := c) hr (by omega) (by first | omega | exact hpa _ | exact hwa _ | exact hr1 _ (by omega) | exact hr6 _ (by omega) | exact hr11 _ (by omega) | exact hr _ | exact Nat.le_succ_of_le (hr _))) kX7_upOn lX7_135 (by decide) rfl rfl rfl rfl (by exact Nat.le_of_ble_eq_true rfl) dX7_cell_101 rfl rfl ?_
      refine g_iret rfl rfl dX7_cell_104 ?_
      refine gE_r ?_ rfl
      unfold pCell
      rw [if_pos ((iW_n (by omega)).mpr (by omega)), if_pos (by decide), cN_n (k := c) (by omega), cN_n (by decide)]
      rfl
  · refine g_iconst (v := (-1)) dX7_cell_7 (by decide) ?_
    refine g_iret rfl rfl dX7_cell_8 ?_
    refine gE_r ?_ rfl
    unfold pCell
    rw [if_neg (by unfold iW; omega)]

theorem ctX7_walker {e1 e2 e9 e10 e11 e12 e13 e14 e17 e19 e21 e22 e25 e26 : va_E} {sd : Int64} {h so ho pa wa : Nat → Nat} {wk tw sf lo ri la : Nat} {r : Nat → Nat} {t : t6} (hg : gOK h so ho pa wa wk tw lo ri la) (hrk : rOK r) {k0 x : Int32} : Ct mX7_walker 4 [.ref 0, .int k0, .int x] (wC (kO sd) e1 e2 (kG3 wk tw sf lo ri la) (kI 10 h) (kZ 10 so) (kI 10 ho) (kI 5 pa) (kI 5 wa) e9 e10 e11 e12 e13 e14 (kI 16 r) e17 e19 e21 e22 (kPt t) e25 e26) (gE (some (.int (pWalker pa wa wk r k0 x))) (wC (kO sd) e1 e2 (kG3 wk tw sf lo ri la) (kI 10 h) (kZ 10 so) (kI 10 ho) (kI 5 pa) (kI 5 wa) e9 e10 e11 e12 e13 e14 (kI 16 r) e17 e19 e21 e22 (kPt t) e25 e26)) := by
  refine Ct.of (by decide) (by exact Nat.le_of_ble_eq_true rfl) ?_
  show Go mX7_walker 4 0 [(0, .ref 0), (1, .int k0), (2, .int x)] [] (wC (kO sd) e1 e2 (kG3 wk tw sf lo ri la) (kI 10 h) (kZ 10 so) (kI 10 ho) (kI 5 pa) (kI 5 wa) e9 e10 e11 e12 e13 e14 (kI 16 r) e17 e19 e21 e22 (kPt t) e25 e26) (gE (some (.int (pWalker pa wa wk r k0 x))) (wC (kO sd) e1 e2 (kG3 wk tw sf lo ri la) (kI 10 h) (kZ 10 so) (kI 10 ho) (kI 5 pa) (kI 5 wa) e9 e10 e11 e12 e13 e14 (kI 16 r) e17 e19 e21 e22 (kPt t) e25 e26))
  obtain ⟨hH, hso, hho, hpa, hwa, hwk, htw, hlo, hri, hla⟩ := hg
  obtain ⟨hr, hr1, hr6, hr11⟩ := hrk
  refine g_aload_n (i := 0) (j := 0) dX7_walker_0 rfl rfl ?_
  refine g_iload_n (i := 1) (j := 1) dX7_walker_1 rfl rfl ?_
  refine c_V (st1 := [.int (nI (bN (0 ≤ k0.toInt ∧ k0.toInt < wk)))]) (ctX7_isWalker (x := k0) (by omega)) kX7_isWalker lX7_138 (by decide) rfl rfl rfl rfl (by exact Nat.le_of_ble_eq_true rfl) dX7_walker_2 rfl rfl ?_
  refine b_if_ne (tgt := 10) dX7_walker_5 (by decide) (fun h5 => ?_) (fun h5 => ?_)
  · obtain ⟨k, hk, rfl⟩ := raw_lt h5
    refine g_iload_n (i := 2) (j := 2) dX7_walker_10 rfl rfl ?_
    rcases tsw_5 x with hs | hs | hs | hs | hs | hs
    · refine g_tableOut (tgt := 89) dX7_walker_11 (by rcases hs with hs | hs <;> omega) (by decide) ?_
      refine g_bipush (v := (-2)) dX7_walker_89 (by decide) ?_
      refine g_iret rfl rfl dX7_walker_91 ?_
      refine gE_r ?_ rfl
      unfold pWalker
      rw [if_pos ((iW_n (by omega)).mpr hk), if_neg (by unfold iW; omega)]
    · subst hs
      refine g_tableIn (off := 33) (tgt := 44) dX7_walker_11 (by decide) (by decide) (by decide) (by decide) ?_
      refine g_aload_n (i := 0) (j := 0) dX7_walker_44 rfl rfl ?_
      refine g_get fX7_19 rfl rfl dX7_walker_45 ?_
      refine g_iload_n (i := 1) (j := 1) dX7_walker_48 rfl rfl ?_
      refine c_V (st1 := [.int (nI (pa k))]) (ctX1_paceOf (c := k) (by omega)) kX1_paceOf lX7_141 (by decide) rfl rfl rfl rfl (by exact Nat.le_of_ble_eq_true rfl) dX7_walker_49 rfl rfl ?_
      refine g_iret rfl rfl dX7_walker_52 ?_
      refine gE_r ?_ rfl
      unfold pWalker
      rw [if_pos ((iW_n (by omega)).mpr hk), if_pos (by decide), cN_n (k := k) (by omega), cN_n (by decide)]
      rfl
    · subst hs
      refine g_tableIn (off := 42) (tgt := 53) dX7_walker_11 (by decide) (by decide) (by decide) (by decide) ?_
      refine g_aload_n (i := 0) (j := 0) dX7_walker_53 rfl rfl ?_
      refine g_get fX7_19 rfl rfl dX7_walker_54 ?_
      refine g_iload_n (i := 1) (j := 1) dX7_walker_57 rfl rfl ?_
      refine c_V (st1 := [.int (nI (wa k))]) (ctX1_wadeOf (c := k) (by omega)) kX1_wadeOf lX7_144 (by decide) rfl rfl rfl rfl (by exact Nat.le_of_ble_eq_true rfl) dX7_walker_58 rfl rfl ?_
      refine g_iret rfl rfl dX7_walker_61 ?_
      refine gE_r ?_ rfl
      unfold pWalker
      rw [if_pos ((iW_n (by omega)).mpr hk), if_pos (by decide), cN_n (k := k) (by omega), cN_n (by decide)]
      rfl
    · subst hs
      refine g_tableIn (off := 51) (tgt := 62) dX7_walker_11 (by decide) (by decide) (by decide) (by decide) ?_
      refine g_aload_n (i := 0) (j := 0) dX7_walker_62 rfl rfl ?_
      refine g_get fX7_29 rfl rfl dX7_walker_63 ?_
      refine g_iload_n (i := 1) (j := 1) dX7_walker_66 rfl rfl ?_
      refine c_V (st1 := [.int (nI (r (1 + k)))]) (ctX2_cellOf (k := k) (by omega)) kX2_cellOf lX7_147 (by decide) rfl rfl rfl rfl (by exact Nat.le_of_ble_eq_true rfl) dX7_walker_67 rfl rfl ?_
      refine g_iret rfl rfl dX7_walker_70 ?_
      refine gE_r ?_ rfl
      unfold pWalker
      rw [if_pos ((iW_n (by omega)).mpr hk), if_pos (by decide), cN_n (k := k) (by omega), cN_n (by decide)]
      rfl
    · subst hs
      refine g_tableIn (off := 60) (tgt := 71) dX7_walker_11 (by decide) (by decide) (by decide) (by decide) ?_
      refine g_aload_n (i := 0) (j := 0) dX7_walker_71 rfl rfl ?_
      refine g_get fX7_29 rfl rfl dX7_walker_72 ?_
      refine g_iload_n (i := 1) (j := 1) dX7_walker_75 rfl rfl ?_
      refine c_V (st1 := [.int (nI (r (6 + k)))]) (ctX2_wayOf (k := k) (by omega)) kX2_wayOf lX7_150 (by decide) rfl rfl rfl rfl (by exact Nat.le_of_ble_eq_true rfl) dX7_walker_76 rfl rfl ?_
      refine g_iret rfl rfl dX7_walker_79 ?_
      refine gE_r ?_ rfl
      unfold pWalker
      rw [if_pos ((iW_n (by omega)).mpr hk), if_pos (by decide), cN_n (k := k) (by omega), cN_n (by decide)]
      rfl
    · subst hs
      refine g_tableIn (off := 69) (tgt := 80) dX7_walker_11 (by decide) (by decide) (by decide) (by decide) ?_
      refine g_aload_n (i := 0) (j := 0) dX7_walker_80 rfl rfl ?_
      refine g_get fX7_29 rfl rfl dX7_walker_81 ?_
      refine g_iload_n (i := 1) (j := 1) dX7_walker_84 rfl rfl ?_
      refine c_V (st1 := [.int (nI (r (11 + k)))]) (ctX2_fateOf (k := k) (by omega)) kX2_fateOf lX7_153 (by decide) rfl rfl rfl rfl (by exact Nat.le_of_ble_eq_true rfl) dX7_walker_85 rfl rfl ?_
      refine g_iret rfl rfl dX7_walker_88 ?_
      refine gE_r ?_ rfl
      unfold pWalker
      rw [if_pos ((iW_n (by omega)).mpr hk), if_pos (by decide), cN_n (k := k) (by omega), cN_n (by decide)]
      rfl
  · refine g_iconst (v := (-1)) dX7_walker_8 (by decide) ?_
    refine g_iret rfl rfl dX7_walker_9 ?_
    refine gE_r ?_ rfl
    unfold pWalker
    rw [if_neg h5]

theorem ctX7_deep {e1 e2 e9 e10 e11 e12 e13 e14 e17 e19 e21 e22 e25 e26 : va_E} {sd : Int64} {h so ho pa wa : Nat → Nat} {wk tw sf lo ri la : Nat} {r : Nat → Nat} {t : t6} (hg : gOK h so ho pa wa wk tw lo ri la) {c0 s0 : Int32} : Ct mX7_deep 3 [.ref 0, .int c0, .int s0] (wC (kO sd) e1 e2 (kG3 wk tw sf lo ri la) (kI 10 h) (kZ 10 so) (kI 10 ho) (kI 5 pa) (kI 5 wa) e9 e10 e11 e12 e13 e14 (kI 16 r) e17 e19 e21 e22 (kPt t) e25 e26) (gE (some (.int (pDeep h lo ri la c0 s0))) (wC (kO sd) e1 e2 (kG3 wk tw sf lo ri la) (kI 10 h) (kZ 10 so) (kI 10 ho) (kI 5 pa) (kI 5 wa) e9 e10 e11 e12 e13 e14 (kI 16 r) e17 e19 e21 e22 (kPt t) e25 e26)) := by
  refine Ct.of (by decide) (by exact Nat.le_of_ble_eq_true rfl) ?_
  show Go mX7_deep 3 0 [(0, .ref 0), (1, .int c0), (2, .int s0)] [] (wC (kO sd) e1 e2 (kG3 wk tw sf lo ri la) (kI 10 h) (kZ 10 so) (kI 10 ho) (kI 5 pa) (kI 5 wa) e9 e10 e11 e12 e13 e14 (kI 16 r) e17 e19 e21 e22 (kPt t) e25 e26) (gE (some (.int (pDeep h lo ri la c0 s0))) (wC (kO sd) e1 e2 (kG3 wk tw sf lo ri la) (kI 10 h) (kZ 10 so) (kI 10 ho) (kI 5 pa) (kI 5 wa) e9 e10 e11 e12 e13 e14 (kI 16 r) e17 e19 e21 e22 (kPt t) e25 e26))
  obtain ⟨hH, hso, hho, hpa, hwa, hwk, htw, hlo, hri, hla⟩ := hg
  refine g_iload_n (i := 1) (j := 1) dX7_deep_0 rfl rfl ?_
  refine c_S (st1 := [.int (nI (bN (0 ≤ c0.toInt ∧ c0.toInt ≤ 9)))]) (ctX7_isCell (x := c0) ) kX7_isCell lX7_119 (by decide) rfl (by exact Nat.le_of_ble_eq_true rfl) dX7_deep_1 rfl rfl ?_
  refine b_if_ne (tgt := 9) dX7_deep_4 (by decide) (fun h4 => ?_) (fun h4 => ?_)
  · obtain ⟨c, hc, rfl⟩ := raw_lt (n := 10) (by omega : 0 ≤ c0.toInt ∧ c0.toInt < ((10 : Nat) : Int))
    refine g_iload_n (i := 2) (j := 2) dX7_deep_9 rfl rfl ?_
    refine c_S (st1 := [.int (nI (bN (0 ≤ s0.toInt ∧ s0.toInt ≤ 40)))]) (ctX7_isStep (x := s0) ) kX7_isStep lX7_156 (by decide) rfl (by exact Nat.le_of_ble_eq_true rfl) dX7_deep_10 rfl rfl ?_
    refine b_if_ne (tgt := 19) dX7_deep_13 (by decide) (fun h13 => ?_) (fun h13 => ?_)
    · obtain ⟨s, hs, rfl⟩ := raw_lt (n := 41) (by omega : 0 ≤ s0.toInt ∧ s0.toInt < ((41 : Nat) : Int))
      refine g_aload_n (i := 0) (j := 0) dX7_deep_19 rfl rfl ?_
      refine g_get fX7_19 rfl rfl dX7_deep_20 ?_
      refine g_iload_n (i := 1) (j := 1) dX7_deep_23 rfl rfl ?_
      refine g_aload_n (i := 0) (j := 0) dX7_deep_24 rfl rfl ?_
      refine g_iload_n (i := 2) (j := 2) dX7_deep_25 rfl rfl ?_
      refine c_V (st1 := [.int (nI (sWater la ri s lo)), .int (nI c), .ref 3]) (ctX7_waterAt (st := s) (by first | omega | exact hpa _ | exact hwa _ | exact hr1 _ (by omega) | exact hr6 _ (by omega) | exact hr11 _ (by omega) | exact hr _ | exact Nat.le_succ_of_le (hr _)) (by first | omega | exact hpa _ | exact hwa _ | exact hr1 _ (by omega) | exact hr6 _ (by omega) | exact hr11 _ (by omega) | exact hr _ | exact Nat.le_succ_of_le (hr _)) (by first | omega | exact hpa _ | exact hwa _ | exact hr1 _ (by omega) | exact hr6 _ (by omega) | exact hr11 _ (by omega) | exact hr _ | exact Nat.le_succ_of_le (hr _)) (by first | omega | exact hpa _ | exact hwa _ | exact hr1 _ (by omega) | exact hr6 _ (by omega) | exact hr11 _ (by omega) | exact hr _ | exact Nat.le_succ_of_le (hr _))) kX7_waterAt lX7_99 (by decide) rfl rfl rfl rfl (by exact Nat.le_of_ble_eq_true rfl) dX7_deep_26 rfl rfl ?_
      refine c_V (st1 := [.int (nI (sDepth h c (sWater la ri s lo)))]) (ctX1_depth (c := c) (w := sWater la ri s lo) hH (by first | omega | exact hpa _ | exact hwa _ | exact hr1 _ (by omega) | exact hr6 _ (by omega) | exact hr11 _ (by omega) | exact hr _ | exact Nat.le_succ_of_le (hr _)) (by first | omega | exact sWater_le _ _ _ _)) kX1_depth lX7_126 (by decide) rfl rfl rfl rfl (by exact Nat.le_of_ble_eq_true rfl) dX7_deep_29 rfl rfl ?_
      refine g_iret rfl rfl dX7_deep_32 ?_
      refine gE_r ?_ rfl
      unfold pDeep
      rw [if_pos ((iW_n (by omega)).mpr (by omega)), if_pos ((iW_n (by omega)).mpr (by omega)), cN_n (k := c) (by omega), cN_n (k := s) (by omega)]
    · refine g_bipush (v := (-2)) dX7_deep_16 (by decide) ?_
      refine g_iret rfl rfl dX7_deep_18 ?_
      refine gE_r ?_ rfl
      unfold pDeep
      rw [if_pos ((iW_n (by omega)).mpr (by omega)), if_neg (by unfold iW; omega)]
  · refine g_iconst (v := (-1)) dX7_deep_7 (by decide) ?_
    refine g_iret rfl rfl dX7_deep_8 ?_
    refine gE_r ?_ rfl
    unfold pDeep
    rw [if_neg (by unfold iW; omega)]

theorem ctX7_head {e1 e2 e9 e10 e11 e12 e13 e14 e21 e22 e25 e26 : va_E} {nx ct : Nat} {q : Nat → Nat} {sd : Int64} {h so ho pa wa : Nat → Nat} {wk tw sf lo ri la : Nat} {r : Nat → Nat} {t : t6} (hg : gOK h so ho pa wa wk tw lo ri la) (hrk : rOK r) (hnx : nx < 16) (hct : ct ≤ 16) {k0 w0 : Int32} : Ct mX7_head 4 [.ref 0, .int k0, .int w0] (wC (kO sd) e1 e2 (kG3 wk tw sf lo ri la) (kI 10 h) (kZ 10 so) (kI 10 ho) (kI 5 pa) (kI 5 wa) e9 e10 e11 e12 e13 e14 (kI 16 r) (kA nx ct) (kI 256 q) e21 e22 (kPt t) e25 e26) (gE (some (.int (pHead wk r k0 w0))) (if cHead wk r k0 w0 then wC (kO sd) e1 e2 (kG3 wk tw sf lo ri la) (kI 10 h) (kZ 10 so) (kI 10 ho) (kI 5 pa) (kI 5 wa) e9 e10 e11 e12 e13 e14 (kI 16 (va_up r (6 + cN k0) (cN w0))) (kA (nxP nx) (ctP ct)) (kI 256 (va_cpy r q 0 (nx * 16) 16)) e21 e22 (kPt t) e25 e26 else wC (kO sd) e1 e2 (kG3 wk tw sf lo ri la) (kI 10 h) (kZ 10 so) (kI 10 ho) (kI 5 pa) (kI 5 wa) e9 e10 e11 e12 e13 e14 (kI 16 r) (kA nx ct) (kI 256 q) e21 e22 (kPt t) e25 e26)) := by
  refine Ct.of (by decide) (by exact Nat.le_of_ble_eq_true rfl) ?_
  show Go mX7_head 4 0 [(0, .ref 0), (1, .int k0), (2, .int w0)] [] (wC (kO sd) e1 e2 (kG3 wk tw sf lo ri la) (kI 10 h) (kZ 10 so) (kI 10 ho) (kI 5 pa) (kI 5 wa) e9 e10 e11 e12 e13 e14 (kI 16 r) (kA nx ct) (kI 256 q) e21 e22 (kPt t) e25 e26) (gE (some (.int (pHead wk r k0 w0))) (if cHead wk r k0 w0 then wC (kO sd) e1 e2 (kG3 wk tw sf lo ri la) (kI 10 h) (kZ 10 so) (kI 10 ho) (kI 5 pa) (kI 5 wa) e9 e10 e11 e12 e13 e14 (kI 16 (va_up r (6 + cN k0) (cN w0))) (kA (nxP nx) (ctP ct)) (kI 256 (va_cpy r q 0 (nx * 16) 16)) e21 e22 (kPt t) e25 e26 else wC (kO sd) e1 e2 (kG3 wk tw sf lo ri la) (kI 10 h) (kZ 10 so) (kI 10 ho) (kI 5 pa) (kI 5 wa) e9 e10 e11 e12 e13 e14 (kI 16 r) (kA nx ct) (kI 256 q) e21 e22 (kPt t) e25 e26))
  obtain ⟨hH, hso, hho, hpa, hwa, hwk, htw, hlo, hri, hla⟩ := hg
  obtain ⟨hr, hr1, hr6, hr11⟩ := hrk
  refine g_aload_n (i := 0) (j := 0) dX7_head_0 rfl rfl ?_
  refine g_iload_n (i := 1) (j := 1) dX7_head_1 rfl rfl ?_
  refine c_V (st1 := [.int (nI (bN (0 ≤ k0.toInt ∧ k0.toInt < wk)))]) (ctX7_isWalker (x := k0) (by omega)) kX7_isWalker lX7_138 (by decide) rfl rfl rfl rfl (by exact Nat.le_of_ble_eq_true rfl) dX7_head_2 rfl rfl ?_
  refine b_if_ne (tgt := 10) dX7_head_5 (by decide) (fun h5 => ?_) (fun h5 => ?_)
  · obtain ⟨k, hk, rfl⟩ := raw_lt h5
    refine g_iload_n (i := 2) (j := 2) dX7_head_10 rfl rfl ?_
    refine g_if_lt (tgt := 19) dX7_head_11 (by decide) (fun h11 => ?_) (fun h11 => ?_)
    · refine g_bipush (v := (-2)) dX7_head_19 (by decide) ?_
      refine g_iret rfl rfl dX7_head_21 ?_
      simp only [Int32.lt_iff_toInt_lt, Int32.le_iff_toInt_le, t_z, t_0, t_1, t_2, t_3, t_5, t_6, t_8, t_9, t_10, t_20, t_40, t_56, t_255] at *
      refine gE_r ?_ (if_neg (fun z => by unfold cHead iW at z; omega)).symm
      unfold pHead
      rw [if_pos ((iW_n (by omega)).mpr hk), if_neg (by unfold iW; omega)]
    · refine g_iload_n (i := 2) (j := 2) dX7_head_14 rfl rfl ?_
      refine g_iconst (v := nI 2) dX7_head_15 (by decide) ?_
      refine g_icmp_le (tgt := 22) dX7_head_16 (by decide) (fun h16 => ?_) (fun h16 => ?_)
      · obtain ⟨w, hw, rfl⟩ : ∃ j : Nat, j ≤ 2 ∧ w0 = nI j := nI_of2 (M := nI 2) (n := 2) (by decide) h11 h16
        have q6 := hr6 k (by omega)
        refine g_aload_n (i := 0) (j := 0) dX7_head_22 rfl rfl ?_
        refine g_get fX7_29 rfl rfl dX7_head_23 ?_
        refine g_iload_n (i := 1) (j := 1) dX7_head_26 rfl rfl ?_
        refine c_V (st1 := [.int (nI (r (6 + k)))]) (ctX2_wayOf (k := k) (by omega)) kX2_wayOf lX7_150 (by decide) rfl rfl rfl rfl (by exact Nat.le_of_ble_eq_true rfl) dX7_head_27 rfl rfl ?_
        refine g_istore_n (i := 3) (lv' := [(3, .int (nI (r (6 + k)))), (0, .ref 0), (1, .int (nI k)), (2, .int (nI w))]) dX7_head_30 rfl (by decide) rfl ?_
        refine g_aload_n (i := 0) (j := 1) dX7_head_31 rfl rfl ?_
        refine g_iload_n (i := 1) (j := 2) dX7_head_32 rfl rfl ?_
        refine c_V (st1 := [.int (nI (bN (r (11 + k) = 0)))]) (ctX7_isWalking (k := k) hr (by omega)) kX7_isWalking lX7_159 (by decide) rfl rfl rfl rfl (by exact Nat.le_of_ble_eq_true rfl) dX7_head_33 rfl rfl ?_
        refine b_if_eq (tgt := 44) dX7_head_36 (by decide) (fun h36 => ?_) (fun h36 => ?_)
        · refine g_bipush (v := (-3)) dX7_head_44 (by decide) ?_
          refine g_iret rfl rfl dX7_head_46 ?_
          refine gE_r ?_ (if_neg (fun z => by have z3 := z.2.2; rw [cN_n (k := k) (by omega), cN_n (k := w) (by omega)] at z3; omega)).symm
          unfold pHead
          rw [if_pos ((iW_n (by omega)).mpr hk), if_pos ((iW_n (by omega)).mpr (by omega)), if_neg (fun z => by rw [cN_n (k := k) (by omega), cN_n (k := w) (by omega)] at z; omega)]
        · refine g_iload_n (i := 3) (j := 0) dX7_head_39 rfl rfl ?_
          refine g_iload_n (i := 2) (j := 3) dX7_head_40 rfl rfl ?_
          refine n_icmp_ne (tgt := 47) (by omega) (by omega) dX7_head_41 (by decide) (fun h41 => ?_) (fun h41 => ?_)
          · refine g_aload_n (i := 0) (j := 1) dX7_head_47 rfl rfl ?_
            refine g_get fX7_36 rfl rfl dX7_head_48 ?_
            refine g_aload_n (i := 0) (j := 1) dX7_head_51 rfl rfl ?_
            refine g_get fX7_29 rfl rfl dX7_head_52 ?_
            refine c_V (st1 := []) (ctX0_remember  (by omega) (by omega)) kX0_remember lX7_162 (by decide) rfl rfl rfl rfl (by exact Nat.le_of_ble_eq_true rfl) dX7_head_55 rfl rfl ?_
            refine g_aload_n (i := 0) (j := 1) dX7_head_58 rfl rfl ?_
            refine g_get fX7_29 rfl rfl dX7_head_59 ?_
            refine g_iload_n (i := 1) (j := 2) dX7_head_62 rfl rfl ?_
            refine g_iload_n (i := 2) (j := 3) dX7_head_63 rfl rfl ?_
            refine c_V (st1 := []) (ctX2_setWay (k := k) (x := w) (by omega)) kX2_setWay lX7_166 (by decide) rfl rfl rfl rfl (by exact Nat.le_of_ble_eq_true rfl) dX7_head_64 rfl rfl ?_
            refine g_iload_n (i := 3) (j := 0) dX7_head_67 rfl rfl ?_
            refine g_iret rfl rfl dX7_head_68 ?_
            have ek : cN (nI k) = k := cN_n (by omega)
            have ew : cN (nI w) = w := cN_n (by omega)
            refine gE_r ?_ ?_
            · unfold pHead
              rw [if_pos ((iW_n (by omega)).mpr hk), if_pos ((iW_n (by omega)).mpr (by omega)), ek, ew, if_pos ⟨h36, by omega⟩]
            · refine Eq.trans ?_ (if_pos (c := cHead wk r (nI k) (nI w)) ⟨(iW_n (by omega)).mpr hk, (iW_n (by omega)).mpr (by omega), by rw [ek]; exact h36, by rw [ek, ew]; omega⟩).symm
              rw [ek, ew]
          · refine g_bipush (v := (-3)) dX7_head_44 (by decide) ?_
            refine g_iret rfl rfl dX7_head_46 ?_
            refine gE_r ?_ (if_neg (fun z => by have z3 := z.2.2; rw [cN_n (k := k) (by omega), cN_n (k := w) (by omega)] at z3; omega)).symm
            unfold pHead
            rw [if_pos ((iW_n (by omega)).mpr hk), if_pos ((iW_n (by omega)).mpr (by omega)), if_neg (fun z => by rw [cN_n (k := k) (by omega), cN_n (k := w) (by omega)] at z; omega)]
      · refine g_bipush (v := (-2)) dX7_head_19 (by decide) ?_
        refine g_iret rfl rfl dX7_head_21 ?_
        simp only [Int32.lt_iff_toInt_lt, Int32.le_iff_toInt_le, t_z, t_0, t_1, t_2, t_3, t_5, t_6, t_8, t_9, t_10, t_20, t_40, t_56, t_255] at *
        refine gE_r ?_ (if_neg (fun z => by unfold cHead iW at z; omega)).symm
        unfold pHead
        rw [if_pos ((iW_n (by omega)).mpr hk), if_neg (by unfold iW; omega)]
  · refine g_iconst (v := (-1)) dX7_head_8 (by decide) ?_
    refine g_iret rfl rfl dX7_head_9 ?_
    refine gE_r ?_ (if_neg (fun z => h5 z.1)).symm
    unfold pHead
    rw [if_neg h5]

theorem room_gt {a b : Nat} (ha : a ≤ 4) (hb : b ≤ 5) : (0 < nI a - nI b) ↔ b < a := by
  rw [Int32.lt_iff_toInt_lt, pk_sub_toInt (by omega) (by omega), t_z]; omega
theorem ctX7_climb {e1 e2 e9 e10 e11 e12 e13 e14 e21 e22 e25 e26 : va_E} {nx ct : Nat} {q : Nat → Nat} {sd : Int64} {h so ho pa wa : Nat → Nat} {wk tw sf lo ri la : Nat} {r : Nat → Nat} {t : t6} (hg : gOK h so ho pa wa wk tw lo ri la) (hrk : rOK r) (hnx : nx < 16) (hct : ct ≤ 16) {k0 : Int32} : Ct mX7_climb 5 [.ref 0, .int k0] (wC (kO sd) e1 e2 (kG3 wk tw sf lo ri la) (kI 10 h) (kZ 10 so) (kI 10 ho) (kI 5 pa) (kI 5 wa) e9 e10 e11 e12 e13 e14 (kI 16 r) (kA nx ct) (kI 256 q) e21 e22 (kPt t) e25 e26) (gE (some (.int (pClimb ho wk r k0))) (if cClimb ho wk r k0 then wC (kO sd) e1 e2 (kG3 wk tw sf lo ri la) (kI 10 h) (kZ 10 so) (kI 10 ho) (kI 5 pa) (kI 5 wa) e9 e10 e11 e12 e13 e14 (kI 16 (va_up r (11 + cN k0) 4)) (kA (nxP nx) (ctP ct)) (kI 256 (va_cpy r q 0 (nx * 16) 16)) e21 e22 (kPt t) e25 e26 else wC (kO sd) e1 e2 (kG3 wk tw sf lo ri la) (kI 10 h) (kZ 10 so) (kI 10 ho) (kI 5 pa) (kI 5 wa) e9 e10 e11 e12 e13 e14 (kI 16 r) (kA nx ct) (kI 256 q) e21 e22 (kPt t) e25 e26)) := by
  refine Ct.of (by decide) (by exact Nat.le_of_ble_eq_true rfl) ?_
  show Go mX7_climb 5 0 [(0, .ref 0), (1, .int k0)] [] (wC (kO sd) e1 e2 (kG3 wk tw sf lo ri la) (kI 10 h) (kZ 10 so) (kI 10 ho) (kI 5 pa) (kI 5 wa) e9 e10 e11 e12 e13 e14 (kI 16 r) (kA nx ct) (kI 256 q) e21 e22 (kPt t) e25 e26) (gE (some (.int (pClimb ho wk r k0))) (if cClimb ho wk r k0 then wC (kO sd) e1 e2 (kG3 wk tw sf lo ri la) (kI 10 h) (kZ 10 so) (kI 10 ho) (kI 5 pa) (kI 5 wa) e9 e10 e11 e12 e13 e14 (kI 16 (va_up r (11 + cN k0) 4)) (kA (nxP nx) (ctP ct)) (kI 256 (va_cpy r q 0 (nx * 16) 16)) e21 e22 (kPt t) e25 e26 else wC (kO sd) e1 e2 (kG3 wk tw sf lo ri la) (kI 10 h) (kZ 10 so) (kI 10 ho) (kI 5 pa) (kI 5 wa) e9 e10 e11 e12 e13 e14 (kI 16 r) (kA nx ct) (kI 256 q) e21 e22 (kPt t) e25 e26))
  obtain ⟨hH, hso, hho, hpa, hwa, hwk, htw, hlo, hri, hla⟩ := hg
  obtain ⟨hr, hr1, hr6, hr11⟩ := hrk
  refine g_aload_n (i := 0) (j := 0) dX7_climb_0 rfl rfl ?_
  refine g_iload_n (i := 1) (j := 1) dX7_climb_1 rfl rfl ?_
  refine c_V (st1 := [.int (nI (bN (0 ≤ k0.toInt ∧ k0.toInt < wk)))]) (ctX7_isWalker (x := k0) (by omega)) kX7_isWalker lX7_138 (by decide) rfl rfl rfl rfl (by exact Nat.le_of_ble_eq_true rfl) dX7_climb_2 rfl rfl ?_
  refine b_if_ne (tgt := 10) dX7_climb_5 (by decide) (fun h5 => ?_) (fun h5 => ?_)
  · obtain ⟨k, hk, rfl⟩ := raw_lt h5
    have q1 := hr1 k (by omega)
    have q2 := hho (r (1 + k))
    have q3 := sUp_le r wk (r (1 + k))
    have ek : cN (nI k) = k := cN_n (by omega)
    refine g_aload_n (i := 0) (j := 0) dX7_climb_10 rfl rfl ?_
    refine g_get fX7_29 rfl rfl dX7_climb_11 ?_
    refine g_iload_n (i := 1) (j := 1) dX7_climb_14 rfl rfl ?_
    refine c_V (st1 := [.int (nI (r (1 + k)))]) (ctX2_cellOf (k := k) (by omega)) kX2_cellOf lX7_147 (by decide) rfl rfl rfl rfl (by exact Nat.le_of_ble_eq_true rfl) dX7_climb_15 rfl rfl ?_
    refine g_istore_n (i := 2) (lv' := [(2, .int (nI (r (1 + k)))), (0, .ref 0), (1, .int (nI k))]) dX7_climb_18 rfl (by decide) rfl ?_
    refine g_aload_n (i := 0) (j := 1) dX7_climb_19 rfl rfl ?_
    refine g_iload_n (i := 1) (j := 2) dX7_climb_20 rfl rfl ?_
    refine c_V (st1 := [.int (nI (bN (r (11 + k) = 0)))]) (ctX7_isWalking (k := k) hr (by omega)) kX7_isWalking lX7_159 (by decide) rfl rfl rfl rfl (by exact Nat.le_of_ble_eq_true rfl) dX7_climb_21 rfl rfl ?_
    refine b_if_eq (tgt := 38) dX7_climb_24 (by decide) (fun h24 => ?_) (fun h24 => ?_)
    · refine g_bipush (v := (-3)) dX7_climb_38 (by decide) ?_
      refine g_iret rfl rfl dX7_climb_40 ?_
      refine gE_r ?_ (if_neg (fun z => by have z2 := z.2; rw [ek] at z2; omega)).symm
      unfold pClimb
      rw [if_pos ((iW_n (by omega)).mpr hk), ek, if_neg (by omega)]
    · refine g_aload_n (i := 0) (j := 1) dX7_climb_27 rfl rfl ?_
      refine g_get fX7_19 rfl rfl dX7_climb_28 ?_
      refine g_iload_n (i := 2) (j := 0) dX7_climb_31 rfl rfl ?_
      refine c_V (st1 := [.int (nI (ho (r (1 + k))))]) (ctX1_holdOf (c := r (1 + k)) (by first | omega | exact hpa _ | exact hwa _ | exact hr1 _ (by omega) | exact hr6 _ (by omega) | exact hr11 _ (by omega) | exact hr _ | exact Nat.le_succ_of_le (hr _))) kX1_holdOf lX7_132 (by decide) rfl rfl rfl rfl (by exact Nat.le_of_ble_eq_true rfl) dX7_climb_32 rfl rfl ?_
      refine n_if_ne (tgt := 41) (by omega) dX7_climb_35 (by decide) (fun h35 => ?_) (fun h35 => ?_)
      · refine g_aload_n (i := 0) (j := 1) dX7_climb_41 rfl rfl ?_
        refine g_iload_n (i := 2) (j := 0) dX7_climb_42 rfl rfl ?_
        refine c_V (st1 := [.int (nI (ho (r (1 + k))) - nI (sUp r wk (r (1 + k))))]) (ctX7_roomOn (c := r (1 + k)) hr (by omega) (by first | omega | exact hpa _ | exact hwa _ | exact hr1 _ (by omega) | exact hr6 _ (by omega) | exact hr11 _ (by omega) | exact hr _ | exact Nat.le_succ_of_le (hr _))) kX7_roomOn lX7_176 (by decide) rfl rfl rfl rfl (by exact Nat.le_of_ble_eq_true rfl) dX7_climb_43 rfl rfl ?_
        refine g_if_gt (tgt := 52) dX7_climb_46 (by decide) (fun h46 => ?_) (fun h46 => ?_)
        · rw [room_gt (by omega) (by omega)] at h46
          refine g_aload_n (i := 0) (j := 1) dX7_climb_52 rfl rfl ?_
          refine g_get fX7_36 rfl rfl dX7_climb_53 ?_
          refine g_aload_n (i := 0) (j := 1) dX7_climb_56 rfl rfl ?_
          refine g_get fX7_29 rfl rfl dX7_climb_57 ?_
          refine c_V (st1 := []) (ctX0_remember  (by omega) (by omega)) kX0_remember lX7_162 (by decide) rfl rfl rfl rfl (by exact Nat.le_of_ble_eq_true rfl) dX7_climb_60 rfl rfl ?_
          refine g_aload_n (i := 0) (j := 1) dX7_climb_63 rfl rfl ?_
          refine g_get fX7_29 rfl rfl dX7_climb_64 ?_
          refine g_iload_n (i := 1) (j := 2) dX7_climb_67 rfl rfl ?_
          refine g_iconst (v := nI 4) dX7_climb_68 (by decide) ?_
          refine c_V (st1 := []) (ctX2_setFate (k := k) (x := 4) (by omega)) kX2_setFate lX7_179 (by decide) rfl rfl rfl rfl (by exact Nat.le_of_ble_eq_true rfl) dX7_climb_69 rfl rfl ?_
          have hr : ∀ j, va_up r (11 + k) 4 j ≤ 40 := fun j => by unfold va_up; split; omega; exact hr j
          refine g_aload_n (i := 0) (j := 1) dX7_climb_72 rfl rfl ?_
          refine g_iload_n (i := 2) (j := 0) dX7_climb_73 rfl rfl ?_
          refine c_V (st1 := [.int (nI (sUp (va_up r (11 + k) 4) wk (r (1 + k))))]) (ctX7_upOn (c := r (1 + k)) hr (by omega) (by first | omega | exact hpa _ | exact hwa _ | exact hr1 _ (by omega) | exact hr6 _ (by omega) | exact hr11 _ (by omega) | exact hr _ | exact Nat.le_succ_of_le (hr _))) kX7_upOn lX7_135 (by decide) rfl rfl rfl rfl (by exact Nat.le_of_ble_eq_true rfl) dX7_climb_74 rfl rfl ?_
          refine g_iret rfl rfl dX7_climb_77 ?_
          refine gE_r ?_ ?_
          · unfold pClimb
            rw [if_pos ((iW_n (by omega)).mpr hk), ek, if_pos (by omega), if_pos (by omega)]
          · refine Eq.trans ?_ (if_pos (c := cClimb ho wk r (nI k)) ⟨(iW_n (by omega)).mpr hk, by rw [ek]; omega⟩).symm
            rw [ek]
        · rw [room_gt (by omega) (by omega)] at h46
          refine g_bipush (v := (-4)) dX7_climb_49 (by decide) ?_
          refine g_iret rfl rfl dX7_climb_51 ?_
          refine gE_r ?_ (if_neg (fun z => by have z2 := z.2; rw [ek] at z2; omega)).symm
          unfold pClimb
          rw [if_pos ((iW_n (by omega)).mpr hk), ek, if_pos (by omega), if_neg (by omega)]
      · refine g_bipush (v := (-3)) dX7_climb_38 (by decide) ?_
        refine g_iret rfl rfl dX7_climb_40 ?_
        refine gE_r ?_ (if_neg (fun z => by have z2 := z.2; rw [ek] at z2; omega)).symm
        unfold pClimb
        rw [if_pos ((iW_n (by omega)).mpr hk), ek, if_neg (by omega)]
  · refine g_iconst (v := (-1)) dX7_climb_8 (by decide) ?_
    refine g_iret rfl rfl dX7_climb_9 ?_
    refine gE_r ?_ (if_neg (fun z => h5 z.1)).symm
    unfold pClimb
    rw [if_neg h5]

theorem ctX7_undo {e1 e2 e9 e10 e11 e12 e13 e14 e21 e22 e25 e26 : va_E} {nx ct : Nat} {q : Nat → Nat} {sd : Int64} {h so ho pa wa : Nat → Nat} {wk tw sf lo ri la : Nat} {r : Nat → Nat} {t : t6} (hnx : nx < 16) (hct : ct ≤ 16) : Ct mX7_undo 4 [.ref 0] (wC (kO sd) e1 e2 (kG3 wk tw sf lo ri la) (kI 10 h) (kZ 10 so) (kI 10 ho) (kI 5 pa) (kI 5 wa) e9 e10 e11 e12 e13 e14 (kI 16 r) (kA nx ct) (kI 256 q) e21 e22 (kPt t) e25 e26) (gE (some (.int (if ct = 0 then -3 else nI (ct - 1)))) (if ct = 0 then wC (kO sd) e1 e2 (kG3 wk tw sf lo ri la) (kI 10 h) (kZ 10 so) (kI 10 ho) (kI 5 pa) (kI 5 wa) e9 e10 e11 e12 e13 e14 (kI 16 r) (kA nx ct) (kI 256 q) e21 e22 (kPt t) e25 e26 else wC (kO sd) e1 e2 (kG3 wk tw sf lo ri la) (kI 10 h) (kZ 10 so) (kI 10 ho) (kI 5 pa) (kI 5 wa) e9 e10 e11 e12 e13 e14 (kI 16 (va_cpy q r ((if 0 < nx then nx - 1 else 15) * 16) 0 16)) (kA (if 0 < nx then nx - 1 else 15) (ct - 1)) (kI 256 q) e21 e22 (kPt t) e25 e26)) := by
  refine Ct.of (by decide) (by exact Nat.le_of_ble_eq_true rfl) ?_
  show Go mX7_undo 4 0 [(0, .ref 0)] [] (wC (kO sd) e1 e2 (kG3 wk tw sf lo ri la) (kI 10 h) (kZ 10 so) (kI 10 ho) (kI 5 pa) (kI 5 wa) e9 e10 e11 e12 e13 e14 (kI 16 r) (kA nx ct) (kI 256 q) e21 e22 (kPt t) e25 e26) (gE (some (.int (if ct = 0 then -3 else nI (ct - 1)))) (if ct = 0 then wC (kO sd) e1 e2 (kG3 wk tw sf lo ri la) (kI 10 h) (kZ 10 so) (kI 10 ho) (kI 5 pa) (kI 5 wa) e9 e10 e11 e12 e13 e14 (kI 16 r) (kA nx ct) (kI 256 q) e21 e22 (kPt t) e25 e26 else wC (kO sd) e1 e2 (kG3 wk tw sf lo ri la) (kI 10 h) (kZ 10 so) (kI 10 ho) (kI 5 pa) (kI 5 wa) e9 e10 e11 e12 e13 e14 (kI 16 (va_cpy q r ((if 0 < nx then nx - 1 else 15) * 16) 0 16)) (kA (if 0 < nx then nx - 1 else 15) (ct - 1)) (kI 256 q) e21 e22 (kPt t) e25 e26))
  refine g_aload_n (i := 0) (j := 0) dX7_undo_0 rfl rfl ?_
  refine g_get fX7_36 rfl rfl dX7_undo_1 ?_
  refine g_get fX7_116 rfl rfl dX7_undo_4 ?_
  refine n_if_ne (tgt := 13) (by omega) dX7_undo_7 (by decide) (fun h7 => ?_) (fun h7 => ?_)
  · refine g_aload_n (i := 0) (j := 0) dX7_undo_13 rfl rfl ?_
    refine g_get fX7_36 rfl rfl dX7_undo_14 ?_
    refine g_aload_n (i := 0) (j := 0) dX7_undo_17 rfl rfl ?_
    refine g_get fX7_29 rfl rfl dX7_undo_18 ?_
    refine c_V (st1 := []) (ctX0_takeBack  (by omega) (by omega) (by omega)) kX0_takeBack lX7_182 (by decide) rfl rfl rfl rfl (by exact Nat.le_of_ble_eq_true rfl) dX7_undo_21 rfl rfl ?_
    refine g_aload_n (i := 0) (j := 0) dX7_undo_24 rfl rfl ?_
    refine g_get fX7_36 rfl rfl dX7_undo_25 ?_
    refine g_get fX7_116 rfl rfl dX7_undo_28 ?_
    refine g_iret rfl rfl dX7_undo_31 ?_
    exact gE_r (if_neg h7).symm (if_neg h7).symm
  · refine g_bipush (v := (-3)) dX7_undo_10 (by decide) ?_
    refine g_iret rfl rfl dX7_undo_12 ?_
    exact gE_r (if_pos h7).symm (if_pos h7).symm

theorem ctX7_gone {e1 e2 e9 e10 e11 e12 e13 e14 e17 e19 e21 e22 e25 e26 : va_E} {sd : Int64} {h so ho pa wa : Nat → Nat} {wk tw sf lo ri la : Nat} {r : Nat → Nat} {t : t6} (hg : gOK h so ho pa wa wk tw lo ri la) {k0 c0 s0 w0 : Int32} : Ct mX7_gone 5 [.ref 0, .int k0, .int c0, .int s0, .int w0] (wC (kO sd) e1 e2 (kG3 wk tw sf lo ri la) (kI 10 h) (kZ 10 so) (kI 10 ho) (kI 5 pa) (kI 5 wa) e9 e10 e11 e12 e13 e14 (kI 16 r) e17 e19 e21 e22 (kPt t) e25 e26) (fun v u => v = some (.int (pGone h so pa wa wk lo ri la k0 c0 s0 w0)) ∧ ∃ t2 : t6, u = wC (kO sd) e1 e2 (kG3 wk tw sf lo ri la) (kI 10 h) (kZ 10 so) (kI 10 ho) (kI 5 pa) (kI 5 wa) e9 e10 e11 e12 e13 e14 (kI 16 r) e17 e19 e21 e22 (kPt t2) e25 e26) := by
  refine Ct.of (by decide) (by exact Nat.le_of_ble_eq_true rfl) ?_
  show Go mX7_gone 5 0 [(0, .ref 0), (1, .int k0), (2, .int c0), (3, .int s0), (4, .int w0)] [] (wC (kO sd) e1 e2 (kG3 wk tw sf lo ri la) (kI 10 h) (kZ 10 so) (kI 10 ho) (kI 5 pa) (kI 5 wa) e9 e10 e11 e12 e13 e14 (kI 16 r) e17 e19 e21 e22 (kPt t) e25 e26) (fun v u => v = some (.int (pGone h so pa wa wk lo ri la k0 c0 s0 w0)) ∧ ∃ t2 : t6, u = wC (kO sd) e1 e2 (kG3 wk tw sf lo ri la) (kI 10 h) (kZ 10 so) (kI 10 ho) (kI 5 pa) (kI 5 wa) e9 e10 e11 e12 e13 e14 (kI 16 r) e17 e19 e21 e22 (kPt t2) e25 e26)
  obtain ⟨hH, hso, hho, hpa, hwa, hwk, htw, hlo, hri, hla⟩ := hg
  refine g_aload_n (i := 0) (j := 0) dX7_gone_0 rfl rfl ?_
  refine g_iload_n (i := 1) (j := 1) dX7_gone_1 rfl rfl ?_
  refine c_V (st1 := [.int (nI (bN (0 ≤ k0.toInt ∧ k0.toInt < wk)))]) (ctX7_isWalker (x := k0) (by omega)) kX7_isWalker lX7_138 (by decide) rfl rfl rfl rfl (by exact Nat.le_of_ble_eq_true rfl) dX7_gone_2 rfl rfl ?_
  refine b_if_eq (tgt := 15) dX7_gone_5 (by decide) (fun h5 => ?_) (fun h5 => ?_)
  · refine g_iconst (v := (-1)) dX7_gone_15 (by decide) ?_
    refine g_iret rfl rfl dX7_gone_16 ?_
    refine ⟨?_, _, rfl⟩
    unfold pGone
    rw [if_neg (fun z => by unfold iW at z; omega)]
  · refine g_iload_n (i := 2) (j := 2) dX7_gone_8 rfl rfl ?_
    refine c_S (st1 := [.int (nI (bN (0 ≤ c0.toInt ∧ c0.toInt ≤ 9)))]) (ctX7_isCell (x := c0) ) kX7_isCell lX7_119 (by decide) rfl (by exact Nat.le_of_ble_eq_true rfl) dX7_gone_9 rfl rfl ?_
    refine b_if_ne (tgt := 17) dX7_gone_12 (by decide) (fun h12 => ?_) (fun h12 => ?_)
    · obtain ⟨k, hk, rfl⟩ := raw_lt h5
      obtain ⟨c, hc, rfl⟩ := raw_lt (n := 10) (by omega : 0 ≤ c0.toInt ∧ c0.toInt < ((10 : Nat) : Int))
      refine g_iload (j := 4) dX7_gone_17 rfl ?_
      refine g_iconst (v := nI 1) dX7_gone_19 (by decide) ?_
      refine g_icmp_lt (tgt := 36) dX7_gone_20 (by decide) (fun h20 => ?_) (fun h20 => ?_)
      · refine g_bipush (v := (-2)) dX7_gone_36 (by decide) ?_
        refine g_iret rfl rfl dX7_gone_38 ?_
        simp only [Int32.lt_iff_toInt_lt, Int32.le_iff_toInt_le, t_z, t_0, t_1, t_2, t_3, t_5, t_6, t_8, t_9, t_10, t_20, t_40, t_56, t_255] at *
        refine ⟨?_, _, rfl⟩
        unfold pGone
        rw [if_pos ⟨(iW_n (by omega)).mpr hk, (iW_n (by omega)).mpr (by omega)⟩, if_neg (fun z => by obtain ⟨z1, z2, z3⟩ := z; have z4 : w0.toInt ≠ 0 := fun e => z2 (Int32.toInt_inj.mp (by rw [e, t_0])); unfold iW at z1 z3; omega)]
      · refine g_iload (j := 4) dX7_gone_23 rfl ?_
        refine g_iconst (v := nI 2) dX7_gone_25 (by decide) ?_
        refine g_icmp_gt (tgt := 36) dX7_gone_26 (by decide) (fun h26 => ?_) (fun h26 => ?_)
        · refine g_bipush (v := (-2)) dX7_gone_36 (by decide) ?_
          refine g_iret rfl rfl dX7_gone_38 ?_
          simp only [Int32.lt_iff_toInt_lt, Int32.le_iff_toInt_le, t_z, t_0, t_1, t_2, t_3, t_5, t_6, t_8, t_9, t_10, t_20, t_40, t_56, t_255] at *
          refine ⟨?_, _, rfl⟩
          unfold pGone
          rw [if_pos ⟨(iW_n (by omega)).mpr hk, (iW_n (by omega)).mpr (by omega)⟩, if_neg (fun z => by obtain ⟨z1, z2, z3⟩ := z; have z4 : w0.toInt ≠ 0 := fun e => z2 (Int32.toInt_inj.mp (by rw [e, t_0])); unfold iW at z1 z3; omega)]
        · refine g_iload_n (i := 3) (j := 3) dX7_gone_29 rfl rfl ?_
          refine c_S (st1 := [.int (nI (bN (0 ≤ s0.toInt ∧ s0.toInt ≤ 40)))]) (ctX7_isStep (x := s0) ) kX7_isStep lX7_156 (by decide) rfl (by exact Nat.le_of_ble_eq_true rfl) dX7_gone_30 rfl rfl ?_
          refine b_if_ne (tgt := 39) dX7_gone_33 (by decide) (fun h33 => ?_) (fun h33 => ?_)
          · simp only [Int32.lt_iff_toInt_lt, Int32.le_iff_toInt_le, t_z, t_0, t_1, t_2, t_3, t_5, t_6, t_8, t_9, t_10, t_20, t_40, t_56, t_255] at h20 h26
            obtain ⟨w, hw, rfl⟩ := raw_lt (x := w0) (n := 3) (by omega)
            obtain ⟨s, hs, rfl⟩ := raw_lt (n := 41) (by omega : 0 ≤ s0.toInt ∧ s0.toInt < ((41 : Nat) : Int))
            have qw := nI_toInt (n := w) (by omega)
            refine g_aload_n (i := 0) (j := 0) dX7_gone_39 rfl rfl ?_
            refine g_iload_n (i := 1) (j := 1) dX7_gone_40 rfl rfl ?_
            refine g_iload_n (i := 2) (j := 2) dX7_gone_41 rfl rfl ?_
            refine g_iload_n (i := 3) (j := 3) dX7_gone_42 rfl rfl ?_
            refine g_iload (j := 4) dX7_gone_43 rfl ?_
            refine g_callV (rest := []) (ctX7_arrival (k := k) (c := c) (s := s) (way := w) ⟨hH, hso, hho, hpa, hwa, hwk, htw, hlo, hri, hla⟩ (by first | omega | exact hpa _ | exact hwa _ | exact hr1 _ (by omega) | exact hr6 _ (by omega) | exact hr11 _ (by omega) | exact hr _ | exact Nat.le_succ_of_le (hr _)) (by first | omega | exact hpa _ | exact hwa _ | exact hr1 _ (by omega) | exact hr6 _ (by omega) | exact hr11 _ (by omega) | exact hr _ | exact Nat.le_succ_of_le (hr _)) (by first | omega | exact hpa _ | exact hwa _ | exact hr1 _ (by omega) | exact hr6 _ (by omega) | exact hr11 _ (by omega) | exact hr _ | exact Nat.le_succ_of_le (hr _)) (by first | omega | exact hpa _ | exact hwa _ | exact hr1 _ (by omega) | exact hr6 _ (by omega) | exact hr11 _ (by omega) | exact hr _ | exact Nat.le_succ_of_le (hr _)) (by first | omega | exact hpa _ | exact hwa _ | exact hr1 _ (by omega) | exact hr6 _ (by omega) | exact hr11 _ (by omega) | exact hr _ | exact Nat.le_succ_of_le (hr _))) kX7_arrival lX7_185 (by decide) rfl rfl rfl rfl (by exact Nat.le_of_ble_eq_true rfl) dX7_gone_45 rfl (fun v u hvu => ?_)
            obtain ⟨rfl, t45, rfl⟩ := hvu
            refine g_st (st' := [.int (rO (sArr h so la ri (pa k) (wa k) lo w c s))]) rfl ?_
            refine g_iret rfl rfl dX7_gone_48 ?_
            refine ⟨?_, _, rfl⟩
            unfold pGone
            rw [if_pos ⟨(iW_n (by omega)).mpr hk, (iW_n (by omega)).mpr (by omega)⟩, if_pos ⟨(iW_n (by omega)).mpr (by omega), fun e => by rw [nI_eq (by omega) (by omega)] at e; omega, (iW_n (by omega)).mpr (by omega)⟩, cN_n (k := k) (by omega), cN_n (k := c) (by omega), cN_n (k := w) (by omega), cN_n (k := s) (by omega)]
          · refine g_bipush (v := (-2)) dX7_gone_36 (by decide) ?_
            refine g_iret rfl rfl dX7_gone_38 ?_
            simp only [Int32.lt_iff_toInt_lt, Int32.le_iff_toInt_le, t_z, t_0, t_1, t_2, t_3, t_5, t_6, t_8, t_9, t_10, t_20, t_40, t_56, t_255] at *
            refine ⟨?_, _, rfl⟩
            unfold pGone
            rw [if_pos ⟨(iW_n (by omega)).mpr hk, (iW_n (by omega)).mpr (by omega)⟩, if_neg (fun z => by obtain ⟨z1, z2, z3⟩ := z; have z4 : w0.toInt ≠ 0 := fun e => z2 (Int32.toInt_inj.mp (by rw [e, t_0])); unfold iW at z1 z3; omega)]
    · refine g_iconst (v := (-1)) dX7_gone_15 (by decide) ?_
      refine g_iret rfl rfl dX7_gone_16 ?_
      refine ⟨?_, _, rfl⟩
      unfold pGone
      rw [if_neg (fun z => by unfold iW at z; omega)]

