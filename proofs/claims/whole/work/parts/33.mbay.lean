/-! part 33: the model: bay -/
abbrev hFn (le : Nat → Nat) : Nat → Nat := fun j => le (1 + j) - 48
theorem bay_h {le h : Nat → Nat} (hz : zb h) : cpf 10 (hFn le) h = hgt le := by
  funext j; unfold hgt cpf
  by_cases hj : j < 10
  · rw [if_pos hj, if_pos hj]
  · rw [if_neg hj, if_neg hj, hz j (by omega)]; rfl
theorem bay_p {le wp tp so rpa rwd rat rfo pa : Nat → Nat} {wk tw sf rs : Nat} (h : mX le wk wp tw tp sf so rpa rwd rat rfo rs) : cpf wk rpa pa = paOf le wk wp pa := by
  funext j; unfold paOf cpf
  by_cases hj : j < wk
  · rw [if_pos hj, if_pos hj]; exact (h.1 j hj).1
  · rw [if_neg hj, if_neg hj]
theorem bay_w {le wp tp so rpa rwd rat rfo wa : Nat → Nat} {wk tw sf rs : Nat} (h : mX le wk wp tw tp sf so rpa rwd rat rfo rs) : cpf wk rwd wa = waOf le wk wp wa := by
  funext j; unfold waOf cpf
  by_cases hj : j < wk
  · rw [if_pos hj, if_pos hj]; exact (h.1 j hj).2
  · rw [if_neg hj, if_neg hj]
theorem bay_g (r : Nat → Nat) : cpf 16 fZ (pgR r) = pgR (zf 16 r) := by
  funext j; unfold cpf pgR zf
  by_cases hj : j < 16
  · rw [if_pos hj]
    by_cases h1 : j = 15
    · rw [if_pos h1, if_pos (by omega)]
    · rw [if_neg h1, if_neg (by omega)]
      split
      · rw [if_pos (by omega)]
      · split
        · rw [if_pos (by omega)]
        · rw [if_pos (by omega)]
  · rw [if_neg hj, if_neg (by omega), if_pos (by omega), if_neg (by omega), if_pos (by omega)]
theorem bay_f {le wp tp so rpa rwd rat rfo at_ fo : Nat → Nat} {wk tw sf rs : Nat} (h : mX le wk wp tw tp sf so rpa rwd rat rfo rs) (htw : tw ≤ 2) (hok : tpOK le tw tp) : mSf rs so ∧ tOK tw (cpf tw rat at_) (cpf tw rfo fo) (hoOf le tw tp) ∧ (∀ t, t < tw → 1 ≤ cpf tw rat at_ t ∧ cpf tw rat at_ t ≤ 8) := by
  obtain ⟨m1, m2, m3, m4, m5, m6, m7⟩ := h
  have ea : ∀ t, t < tw → cpf tw rat at_ t = le (tp t + 1) - 48 := fun t ht => by unfold cpf; rw [if_pos ht]; exact (m2 t ht).1
  have ef : ∀ t, t < tw → cpf tw rfo fo t = le (tp t + 2) - 48 := fun t ht => by unfold cpf; rw [if_pos ht]; exact (m2 t ht).2
  have hne : tw = 2 → le (tp 0 + 1) - 48 ≠ le (tp 1 + 1) - 48 := fun e => by rw [← (m2 0 (by omega)).1, ← (m2 1 (by omega)).1]; exact m7 e
  refine ⟨⟨by omega, m6⟩, ⟨htw, fun t ht => ?_, fun c hc => ?_, fun e => ?_⟩, fun t ht => ?_⟩
  · have a := hok t ht
    rw [ea t ht, ef t ht]
    refine ⟨by omega, by omega, by omega, ?_⟩
    unfold hoOf
    rcases (show t = 0 ∨ t = 1 by omega) with rfl | rfl
    · rw [if_pos ⟨ht, rfl⟩]
    · rw [if_neg (fun z => hne (by omega) z.2), if_pos ⟨ht, rfl⟩]
  · unfold hoOf at hc
    by_cases z0 : 0 < tw ∧ le (tp 0 + 1) - 48 = c
    · exact ⟨0, z0.1, by rw [ea 0 z0.1]; exact z0.2⟩
    · rw [if_neg z0] at hc
      by_cases z1 : 1 < tw ∧ le (tp 1 + 1) - 48 = c
      · exact ⟨1, z1.1, by rw [ea 1 z1.1]; exact z1.2⟩
      · rw [if_neg z1] at hc; exact absurd rfl hc
  · rw [ea 0 (by omega), ea 1 (by omega)]; exact hne e
  · have a := hok t ht
    rw [ea t ht]; omega
theorem lp_bH {e13 e14 e16 e17 : va_E} {ln pl lo ri la wk tw sf : Nat} {rl rr re : Int32} {wn tn rs ac : Nat} {sd : Int64} {ce sa ti : Nat} {rh : Nat → Int32} {rpa rwd rat rfo : Nat → Nat} {h pa wa at_ fo pg kp : Nat → Nat} {le : Nat → Nat} (hh : ∀ j, j < 10 → rh j = nI (le (1 + j) - 48)) {Post : Option Value → List va_E → Prop} (kn : Go mX8_bay 5 43 [(0, .ref 0)] [] (wM (kM 0 ln pl lo ri la wk tw sf rl rr re wn tn rs ac sd ce sa ti) (kI 56 le) (kI 10 (cpf 10 (hFn le) h)) (kI 5 pa) (kI 5 wa) (kI 2 at_) (kI 2 fo) (kR 10 rh) (kI 5 rpa) (kI 5 rwd) (kI 2 rat) (kI 2 rfo) (kI 16 pg) e13 e14 (kZ 2 kp) e16 e17) Post) : ∀ (m i : Nat), i + m = 10 → Go mX8_bay 5 19 [(0, .ref 0), (1, .int (nI i))] [] (wM (kM 0 ln pl lo ri la wk tw sf rl rr re wn tn rs ac sd ce sa ti) (kI 56 le) (kI 10 (cpf i (hFn le) h)) (kI 5 pa) (kI 5 wa) (kI 2 at_) (kI 2 fo) (kR 10 rh) (kI 5 rpa) (kI 5 rwd) (kI 2 rat) (kI 2 rfo) (kI 16 pg) e13 e14 (kZ 2 kp) e16 e17) Post := by
  intro m
  induction m with
  | zero =>
    intro i hi
    obtain rfl : i = 10 := by omega
    refine g_iload_n (i := 1) (j := 1) dX8_bay_19 rfl rfl ?_
    refine g_bipush (v := nI 10) dX8_bay_20 (by decide) ?_
    refine n_icmp_ge (tgt := 43) (rng_lit 10 rfl) (rng_lit 10 rfl) dX8_bay_22 (by decide) (fun h22 => ?_) (fun h22 => ?_)
    · refine g_lv [0] rfl ?_
      exact kn
    · exact absurd h22 (by decide)

  | succ m ih =>
    intro i hi
    refine g_iload_n (i := 1) (j := 1) dX8_bay_19 rfl rfl ?_
    refine g_bipush (v := nI 10) dX8_bay_20 (by decide) ?_
    refine n_icmp_ge (tgt := 43) (by omega) (rng_lit 10 rfl) dX8_bay_22 (by decide) (fun h22 => ?_) (fun h22 => ?_)
    · exfalso; omega
    · refine g_aload_n (i := 0) (j := 0) dX8_bay_25 rfl rfl ?_
      refine g_get fX8_13 rfl rfl dX8_bay_26 ?_
      refine g_iload_n (i := 1) (j := 1) dX8_bay_29 rfl rfl ?_
      refine g_aload_n (i := 0) (j := 0) dX8_bay_30 rfl rfl ?_
      refine g_get fX8_32 rfl rfl dX8_bay_31 ?_
      refine g_iload_n (i := 1) (j := 1) dX8_bay_34 rfl rfl ?_
      refine r_iald (x := i) rfl (by omega) (rng_lit 10 rfl) dX8_bay_35 ?_
      refine g_topi (y := nI (hFn le i)) (hh i (by omega)) ?_
      refine n_iast (x := i) (ws' := wM (kM 0 ln pl lo ri la wk tw sf rl rr re wn tn rs ac sd ce sa ti) (kI 56 le) (kI 10 (va_up (cpf i (hFn le) h) i (hFn le i))) (kI 5 pa) (kI 5 wa) (kI 2 at_) (kI 2 fo) (kR 10 rh) (kI 5 rpa) (kI 5 rwd) (kI 2 rat) (kI 2 rfo) (kI 16 pg) e13 e14 (kZ 2 kp) e16 e17) rfl (by omega) (rng_lit 10 rfl) dX8_bay_36 rfl ?_
      refine n_inc (x := i) (j := 1) (lv' := [(1, .int (nI (i + 1))), (0, .ref 0)]) dX8_bay_37 rfl (by decide) rfl ?_
      refine g_goto (tgt := 19) dX8_bay_40 (by decide) ?_
      refine g_lv [1, 0] rfl ?_
      rw [show va_up (cpf i (hFn le) h) i (hFn le i) = cpf (i + 1) (hFn le) h from cpf_s i (hFn le) h]
      exact ih (i + 1) (by omega)

theorem l0_bH {e13 e14 e16 e17 : va_E} {ln pl lo ri la wk tw sf : Nat} {rl rr re : Int32} {wn tn rs ac : Nat} {sd : Int64} {ce sa ti : Nat} {rh : Nat → Int32} {rpa rwd rat rfo : Nat → Nat} {h pa wa at_ fo pg kp : Nat → Nat} {le : Nat → Nat} (hh : ∀ j, j < 10 → rh j = nI (le (1 + j) - 48)) {Post : Option Value → List va_E → Prop} (kn : Go mX8_bay 5 43 [(0, .ref 0)] [] (wM (kM 0 ln pl lo ri la wk tw sf rl rr re wn tn rs ac sd ce sa ti) (kI 56 le) (kI 10 (cpf 10 (hFn le) h)) (kI 5 pa) (kI 5 wa) (kI 2 at_) (kI 2 fo) (kR 10 rh) (kI 5 rpa) (kI 5 rwd) (kI 2 rat) (kI 2 rfo) (kI 16 pg) e13 e14 (kZ 2 kp) e16 e17) Post) : Go mX8_bay 5 19 [(0, .ref 0), (1, .int (nI 0))] [] (wM (kM 0 ln pl lo ri la wk tw sf rl rr re wn tn rs ac sd ce sa ti) (kI 56 le) (kI 10 h) (kI 5 pa) (kI 5 wa) (kI 2 at_) (kI 2 fo) (kR 10 rh) (kI 5 rpa) (kI 5 rwd) (kI 2 rat) (kI 2 rfo) (kI 16 pg) e13 e14 (kZ 2 kp) e16 e17) Post := by
  have z := lp_bH hh kn 10 0 (by omega)
  simp only [cpf_0] at z
  exact z
theorem lp_bW {e13 e14 e16 e17 : va_E} {ln pl lo ri la wk tw sf : Nat} {rl rr re : Int32} {wn tn rs ac : Nat} {sd : Int64} {ce sa ti : Nat} {rh : Nat → Int32} {rpa rwd rat rfo : Nat → Nat} {h pa wa at_ fo pg kp : Nat → Nat} {le : Nat → Nat} (hwk : wk ≤ 5) {Post : Option Value → List va_E → Prop} (kn : Go mX8_bay 5 131 [(0, .ref 0)] [] (wM (kM 0 ln pl lo ri la wk tw sf rl rr re wn tn rs ac sd ce sa ti) (kI 56 le) (kI 10 h) (kI 5 (cpf wk rpa pa)) (kI 5 (cpf wk rwd wa)) (kI 2 at_) (kI 2 fo) (kR 10 rh) (kI 5 rpa) (kI 5 rwd) (kI 2 rat) (kI 2 rfo) (kI 16 pg) e13 e14 (kZ 2 kp) e16 e17) Post) : ∀ (m i : Nat), i + m = wk → Go mX8_bay 5 93 [(0, .ref 0), (1, .int (nI i))] [] (wM (kM 0 ln pl lo ri la wk tw sf rl rr re wn tn rs ac sd ce sa ti) (kI 56 le) (kI 10 h) (kI 5 (cpf i rpa pa)) (kI 5 (cpf i rwd wa)) (kI 2 at_) (kI 2 fo) (kR 10 rh) (kI 5 rpa) (kI 5 rwd) (kI 2 rat) (kI 2 rfo) (kI 16 pg) e13 e14 (kZ 2 kp) e16 e17) Post := by
  intro m
  induction m with
  | zero =>
    intro i hi
    obtain rfl : i = wk := by omega
    refine g_iload_n (i := 1) (j := 1) dX8_bay_93 rfl rfl ?_
    refine g_aload_n (i := 0) (j := 0) dX8_bay_94 rfl rfl ?_
    refine g_get fX8_70 rfl rfl dX8_bay_95 ?_
    refine n_icmp_ge (tgt := 131) (by omega) (by omega) dX8_bay_98 (by decide) (fun h98 => ?_) (fun h98 => ?_)
    · refine g_lv [0] rfl ?_
      exact kn
    · exfalso; omega

  | succ m ih =>
    intro i hi
    refine g_iload_n (i := 1) (j := 1) dX8_bay_93 rfl rfl ?_
    refine g_aload_n (i := 0) (j := 0) dX8_bay_94 rfl rfl ?_
    refine g_get fX8_70 rfl rfl dX8_bay_95 ?_
    refine n_icmp_ge (tgt := 131) (by omega) (by omega) dX8_bay_98 (by decide) (fun h98 => ?_) (fun h98 => ?_)
    · exfalso; omega
    · refine g_aload_n (i := 0) (j := 0) dX8_bay_101 rfl rfl ?_
      refine g_get fX8_20 rfl rfl dX8_bay_102 ?_
      refine g_iload_n (i := 1) (j := 1) dX8_bay_105 rfl rfl ?_
      refine g_aload_n (i := 0) (j := 0) dX8_bay_106 rfl rfl ?_
      refine g_get fX8_35 rfl rfl dX8_bay_107 ?_
      refine g_iload_n (i := 1) (j := 1) dX8_bay_110 rfl rfl ?_
      refine n_iald (x := i) rfl (by omega) (rng_lit 5 rfl) dX8_bay_111 ?_
      refine n_iast (x := i) (ws' := wM (kM 0 ln pl lo ri la wk tw sf rl rr re wn tn rs ac sd ce sa ti) (kI 56 le) (kI 10 h) (kI 5 (va_up (cpf i rpa pa) i (rpa i))) (kI 5 (cpf i rwd wa)) (kI 2 at_) (kI 2 fo) (kR 10 rh) (kI 5 rpa) (kI 5 rwd) (kI 2 rat) (kI 2 rfo) (kI 16 pg) e13 e14 (kZ 2 kp) e16 e17) rfl (by omega) (rng_lit 5 rfl) dX8_bay_112 rfl ?_
      refine g_aload_n (i := 0) (j := 0) dX8_bay_113 rfl rfl ?_
      refine g_get fX8_23 rfl rfl dX8_bay_114 ?_
      refine g_iload_n (i := 1) (j := 1) dX8_bay_117 rfl rfl ?_
      refine g_aload_n (i := 0) (j := 0) dX8_bay_118 rfl rfl ?_
      refine g_get fX8_38 rfl rfl dX8_bay_119 ?_
      refine g_iload_n (i := 1) (j := 1) dX8_bay_122 rfl rfl ?_
      refine n_iald (x := i) rfl (by omega) (rng_lit 5 rfl) dX8_bay_123 ?_
      refine n_iast (x := i) (ws' := wM (kM 0 ln pl lo ri la wk tw sf rl rr re wn tn rs ac sd ce sa ti) (kI 56 le) (kI 10 h) (kI 5 (va_up (cpf i rpa pa) i (rpa i))) (kI 5 (va_up (cpf i rwd wa) i (rwd i))) (kI 2 at_) (kI 2 fo) (kR 10 rh) (kI 5 rpa) (kI 5 rwd) (kI 2 rat) (kI 2 rfo) (kI 16 pg) e13 e14 (kZ 2 kp) e16 e17) rfl (by omega) (rng_lit 5 rfl) dX8_bay_124 rfl ?_
      refine n_inc (x := i) (j := 1) (lv' := [(1, .int (nI (i + 1))), (0, .ref 0)]) dX8_bay_125 rfl (by decide) rfl ?_
      refine g_goto (tgt := 93) dX8_bay_128 (by decide) ?_
      refine g_lv [1, 0] rfl ?_
      rw [show va_up (cpf i rpa pa) i (rpa i) = cpf (i + 1) rpa pa from cpf_s i rpa pa, show va_up (cpf i rwd wa) i (rwd i) = cpf (i + 1) rwd wa from cpf_s i rwd wa]
      exact ih (i + 1) (by omega)

theorem l0_bW {e13 e14 e16 e17 : va_E} {ln pl lo ri la wk tw sf : Nat} {rl rr re : Int32} {wn tn rs ac : Nat} {sd : Int64} {ce sa ti : Nat} {rh : Nat → Int32} {rpa rwd rat rfo : Nat → Nat} {h pa wa at_ fo pg kp : Nat → Nat} {le : Nat → Nat} (hwk : wk ≤ 5) {Post : Option Value → List va_E → Prop} (kn : Go mX8_bay 5 131 [(0, .ref 0)] [] (wM (kM 0 ln pl lo ri la wk tw sf rl rr re wn tn rs ac sd ce sa ti) (kI 56 le) (kI 10 h) (kI 5 (cpf wk rpa pa)) (kI 5 (cpf wk rwd wa)) (kI 2 at_) (kI 2 fo) (kR 10 rh) (kI 5 rpa) (kI 5 rwd) (kI 2 rat) (kI 2 rfo) (kI 16 pg) e13 e14 (kZ 2 kp) e16 e17) Post) : Go mX8_bay 5 93 [(0, .ref 0), (1, .int (nI 0))] [] (wM (kM 0 ln pl lo ri la wk tw sf rl rr re wn tn rs ac sd ce sa ti) (kI 56 le) (kI 10 h) (kI 5 pa) (kI 5 wa) (kI 2 at_) (kI 2 fo) (kR 10 rh) (kI 5 rpa) (kI 5 rwd) (kI 2 rat) (kI 2 rfo) (kI 16 pg) e13 e14 (kZ 2 kp) e16 e17) Post := by
  have z := lp_bW hwk kn wk 0 (by omega)
  simp only [cpf_0] at z
  exact z
theorem lp_bT {e13 e14 e16 e17 : va_E} {ln pl lo ri la wk tw sf : Nat} {rl rr re : Int32} {wn tn rs ac : Nat} {sd : Int64} {ce sa ti : Nat} {rh : Nat → Int32} {rpa rwd rat rfo : Nat → Nat} {h pa wa at_ fo pg kp : Nat → Nat} {le : Nat → Nat} (htw : tw ≤ 2) {Post : Option Value → List va_E → Prop} (kn : Go mX8_bay 5 171 [(0, .ref 0)] [] (wM (kM 0 ln pl lo ri la wk tw sf rl rr re wn tn rs ac sd ce sa ti) (kI 56 le) (kI 10 h) (kI 5 pa) (kI 5 wa) (kI 2 (cpf tw rat at_)) (kI 2 (cpf tw rfo fo)) (kR 10 rh) (kI 5 rpa) (kI 5 rwd) (kI 2 rat) (kI 2 rfo) (kI 16 pg) e13 e14 (kZ 2 kp) e16 e17) Post) : ∀ (m i : Nat), i + m = tw → Go mX8_bay 5 133 [(0, .ref 0), (1, .int (nI i))] [] (wM (kM 0 ln pl lo ri la wk tw sf rl rr re wn tn rs ac sd ce sa ti) (kI 56 le) (kI 10 h) (kI 5 pa) (kI 5 wa) (kI 2 (cpf i rat at_)) (kI 2 (cpf i rfo fo)) (kR 10 rh) (kI 5 rpa) (kI 5 rwd) (kI 2 rat) (kI 2 rfo) (kI 16 pg) e13 e14 (kZ 2 kp) e16 e17) Post := by
  intro m
  induction m with
  | zero =>
    intro i hi
    obtain rfl : i = tw := by omega
    refine g_iload_n (i := 1) (j := 1) dX8_bay_133 rfl rfl ?_
    refine g_aload_n (i := 0) (j := 0) dX8_bay_134 rfl rfl ?_
    refine g_get fX8_145 rfl rfl dX8_bay_135 ?_
    refine n_icmp_ge (tgt := 171) (by omega) (by omega) dX8_bay_138 (by decide) (fun h138 => ?_) (fun h138 => ?_)
    · refine g_lv [0] rfl ?_
      exact kn
    · exfalso; omega

  | succ m ih =>
    intro i hi
    refine g_iload_n (i := 1) (j := 1) dX8_bay_133 rfl rfl ?_
    refine g_aload_n (i := 0) (j := 0) dX8_bay_134 rfl rfl ?_
    refine g_get fX8_145 rfl rfl dX8_bay_135 ?_
    refine n_icmp_ge (tgt := 171) (by omega) (by omega) dX8_bay_138 (by decide) (fun h138 => ?_) (fun h138 => ?_)
    · exfalso; omega
    · refine g_aload_n (i := 0) (j := 0) dX8_bay_141 rfl rfl ?_
      refine g_get fX8_26 rfl rfl dX8_bay_142 ?_
      refine g_iload_n (i := 1) (j := 1) dX8_bay_145 rfl rfl ?_
      refine g_aload_n (i := 0) (j := 0) dX8_bay_146 rfl rfl ?_
      refine g_get fX8_41 rfl rfl dX8_bay_147 ?_
      refine g_iload_n (i := 1) (j := 1) dX8_bay_150 rfl rfl ?_
      refine n_iald (x := i) rfl (by omega) (rng_lit 2 rfl) dX8_bay_151 ?_
      refine n_iast (x := i) (ws' := wM (kM 0 ln pl lo ri la wk tw sf rl rr re wn tn rs ac sd ce sa ti) (kI 56 le) (kI 10 h) (kI 5 pa) (kI 5 wa) (kI 2 (va_up (cpf i rat at_) i (rat i))) (kI 2 (cpf i rfo fo)) (kR 10 rh) (kI 5 rpa) (kI 5 rwd) (kI 2 rat) (kI 2 rfo) (kI 16 pg) e13 e14 (kZ 2 kp) e16 e17) rfl (by omega) (rng_lit 2 rfl) dX8_bay_152 rfl ?_
      refine g_aload_n (i := 0) (j := 0) dX8_bay_153 rfl rfl ?_
      refine g_get fX8_29 rfl rfl dX8_bay_154 ?_
      refine g_iload_n (i := 1) (j := 1) dX8_bay_157 rfl rfl ?_
      refine g_aload_n (i := 0) (j := 0) dX8_bay_158 rfl rfl ?_
      refine g_get fX8_44 rfl rfl dX8_bay_159 ?_
      refine g_iload_n (i := 1) (j := 1) dX8_bay_162 rfl rfl ?_
      refine n_iald (x := i) rfl (by omega) (rng_lit 2 rfl) dX8_bay_163 ?_
      refine n_iast (x := i) (ws' := wM (kM 0 ln pl lo ri la wk tw sf rl rr re wn tn rs ac sd ce sa ti) (kI 56 le) (kI 10 h) (kI 5 pa) (kI 5 wa) (kI 2 (va_up (cpf i rat at_) i (rat i))) (kI 2 (va_up (cpf i rfo fo) i (rfo i))) (kR 10 rh) (kI 5 rpa) (kI 5 rwd) (kI 2 rat) (kI 2 rfo) (kI 16 pg) e13 e14 (kZ 2 kp) e16 e17) rfl (by omega) (rng_lit 2 rfl) dX8_bay_164 rfl ?_
      refine n_inc (x := i) (j := 1) (lv' := [(1, .int (nI (i + 1))), (0, .ref 0)]) dX8_bay_165 rfl (by decide) rfl ?_
      refine g_goto (tgt := 133) dX8_bay_168 (by decide) ?_
      refine g_lv [1, 0] rfl ?_
      rw [show va_up (cpf i rat at_) i (rat i) = cpf (i + 1) rat at_ from cpf_s i rat at_, show va_up (cpf i rfo fo) i (rfo i) = cpf (i + 1) rfo fo from cpf_s i rfo fo]
      exact ih (i + 1) (by omega)

theorem l0_bT {e13 e14 e16 e17 : va_E} {ln pl lo ri la wk tw sf : Nat} {rl rr re : Int32} {wn tn rs ac : Nat} {sd : Int64} {ce sa ti : Nat} {rh : Nat → Int32} {rpa rwd rat rfo : Nat → Nat} {h pa wa at_ fo pg kp : Nat → Nat} {le : Nat → Nat} (htw : tw ≤ 2) {Post : Option Value → List va_E → Prop} (kn : Go mX8_bay 5 171 [(0, .ref 0)] [] (wM (kM 0 ln pl lo ri la wk tw sf rl rr re wn tn rs ac sd ce sa ti) (kI 56 le) (kI 10 h) (kI 5 pa) (kI 5 wa) (kI 2 (cpf tw rat at_)) (kI 2 (cpf tw rfo fo)) (kR 10 rh) (kI 5 rpa) (kI 5 rwd) (kI 2 rat) (kI 2 rfo) (kI 16 pg) e13 e14 (kZ 2 kp) e16 e17) Post) : Go mX8_bay 5 133 [(0, .ref 0), (1, .int (nI 0))] [] (wM (kM 0 ln pl lo ri la wk tw sf rl rr re wn tn rs ac sd ce sa ti) (kI 56 le) (kI 10 h) (kI 5 pa) (kI 5 wa) (kI 2 at_) (kI 2 fo) (kR 10 rh) (kI 5 rpa) (kI 5 rwd) (kI 2 rat) (kI 2 rfo) (kI 16 pg) e13 e14 (kZ 2 kp) e16 e17) Post := by
  have z := lp_bT htw kn tw 0 (by omega)
  simp only [cpf_0] at z
  exact z
theorem lp_bP {e13 e14 e16 e17 : va_E} {ln pl lo ri la wk tw sf : Nat} {rl rr re : Int32} {wn tn rs ac : Nat} {sd : Int64} {ce sa ti : Nat} {rh : Nat → Int32} {rpa rwd rat rfo : Nat → Nat} {h pa wa at_ fo pg kp : Nat → Nat} {le : Nat → Nat}  {Post : Option Value → List va_E → Prop} (kn : Go mX8_bay 5 192 [(0, .ref 0)] [] (wM (kM 0 ln pl lo ri la wk tw sf rl rr re wn tn rs ac sd ce sa ti) (kI 56 le) (kI 10 h) (kI 5 pa) (kI 5 wa) (kI 2 at_) (kI 2 fo) (kR 10 rh) (kI 5 rpa) (kI 5 rwd) (kI 2 rat) (kI 2 rfo) (kI 16 (cpf 16 fZ pg)) e13 e14 (kZ 2 kp) e16 e17) Post) : ∀ (m i : Nat), i + m = 16 → Go mX8_bay 5 173 [(0, .ref 0), (1, .int (nI i))] [] (wM (kM 0 ln pl lo ri la wk tw sf rl rr re wn tn rs ac sd ce sa ti) (kI 56 le) (kI 10 h) (kI 5 pa) (kI 5 wa) (kI 2 at_) (kI 2 fo) (kR 10 rh) (kI 5 rpa) (kI 5 rwd) (kI 2 rat) (kI 2 rfo) (kI 16 (cpf i fZ pg)) e13 e14 (kZ 2 kp) e16 e17) Post := by
  intro m
  induction m with
  | zero =>
    intro i hi
    obtain rfl : i = 16 := by omega
    refine g_iload_n (i := 1) (j := 1) dX8_bay_173 rfl rfl ?_
    refine g_bipush (v := nI 16) dX8_bay_174 (by decide) ?_
    refine n_icmp_ge (tgt := 192) (rng_lit 16 rfl) (rng_lit 16 rfl) dX8_bay_176 (by decide) (fun h176 => ?_) (fun h176 => ?_)
    · refine g_lv [0] rfl ?_
      exact kn
    · exact absurd h176 (by decide)

  | succ m ih =>
    intro i hi
    refine g_iload_n (i := 1) (j := 1) dX8_bay_173 rfl rfl ?_
    refine g_bipush (v := nI 16) dX8_bay_174 (by decide) ?_
    refine n_icmp_ge (tgt := 192) (by omega) (rng_lit 16 rfl) dX8_bay_176 (by decide) (fun h176 => ?_) (fun h176 => ?_)
    · exfalso; omega
    · refine g_aload_n (i := 0) (j := 0) dX8_bay_179 rfl rfl ?_
      refine g_get fX8_47 rfl rfl dX8_bay_180 ?_
      refine g_iload_n (i := 1) (j := 1) dX8_bay_183 rfl rfl ?_
      refine g_iconst (v := nI 0) dX8_bay_184 (by decide) ?_
      refine n_iast (x := i) (ws' := wM (kM 0 ln pl lo ri la wk tw sf rl rr re wn tn rs ac sd ce sa ti) (kI 56 le) (kI 10 h) (kI 5 pa) (kI 5 wa) (kI 2 at_) (kI 2 fo) (kR 10 rh) (kI 5 rpa) (kI 5 rwd) (kI 2 rat) (kI 2 rfo) (kI 16 (va_up (cpf i fZ pg) i 0)) e13 e14 (kZ 2 kp) e16 e17) rfl (by omega) (rng_lit 16 rfl) dX8_bay_185 rfl ?_
      refine n_inc (x := i) (j := 1) (lv' := [(1, .int (nI (i + 1))), (0, .ref 0)]) dX8_bay_186 rfl (by decide) rfl ?_
      refine g_goto (tgt := 173) dX8_bay_189 (by decide) ?_
      refine g_lv [1, 0] rfl ?_
      rw [show va_up (cpf i fZ pg) i 0 = cpf (i + 1) fZ pg from cpf_s i fZ pg]
      exact ih (i + 1) (by omega)

theorem l0_bP {e13 e14 e16 e17 : va_E} {ln pl lo ri la wk tw sf : Nat} {rl rr re : Int32} {wn tn rs ac : Nat} {sd : Int64} {ce sa ti : Nat} {rh : Nat → Int32} {rpa rwd rat rfo : Nat → Nat} {h pa wa at_ fo pg kp : Nat → Nat} {le : Nat → Nat}  {Post : Option Value → List va_E → Prop} (kn : Go mX8_bay 5 192 [(0, .ref 0)] [] (wM (kM 0 ln pl lo ri la wk tw sf rl rr re wn tn rs ac sd ce sa ti) (kI 56 le) (kI 10 h) (kI 5 pa) (kI 5 wa) (kI 2 at_) (kI 2 fo) (kR 10 rh) (kI 5 rpa) (kI 5 rwd) (kI 2 rat) (kI 2 rfo) (kI 16 (cpf 16 fZ pg)) e13 e14 (kZ 2 kp) e16 e17) Post) : Go mX8_bay 5 173 [(0, .ref 0), (1, .int (nI 0))] [] (wM (kM 0 ln pl lo ri la wk tw sf rl rr re wn tn rs ac sd ce sa ti) (kI 56 le) (kI 10 h) (kI 5 pa) (kI 5 wa) (kI 2 at_) (kI 2 fo) (kR 10 rh) (kI 5 rpa) (kI 5 rwd) (kI 2 rat) (kI 2 rfo) (kI 16 pg) e13 e14 (kZ 2 kp) e16 e17) Post := by
  have z := lp_bP  kn 16 0 (by omega)
  simp only [cpf_0] at z
  exact z
theorem ctX8_bay {e13 e14 e16 e17 : va_E} {ln pl lo ri la wk tw sf : Nat} {rl rr re : Int32} {wn tn rs ac : Nat} {sd : Int64} {ce sa ti : Nat} {rh : Nat → Int32} {rpa rwd rat rfo : Nat → Nat} {h pa wa at_ fo r kp : Nat → Nat} {le : Nat → Nat} (hln : ln ≤ 56) (hle : ∀ k, le k ≤ 255) (hzh : zb h) : Ct mX8_bay 5 [.ref 0] (wM (kM 0 ln pl lo ri la wk tw sf rl rr re wn tn rs ac sd ce sa ti) (kI 56 le) (kI 10 h) (kI 5 pa) (kI 5 wa) (kI 2 at_) (kI 2 fo) (kR 10 rh) (kI 5 rpa) (kI 5 rwd) (kI 2 rat) (kI 2 rfo) (kI 16 (pgR r)) e13 e14 (kZ 2 kp) e16 e17) (fun v u => v = some (.int (pBay (sRun le ln))) ∧ ∃ (rh2 : Nat → Int32) (rl2 rr2 re2 : Int32) (pl2 rw2 rt2 rs2 : Nat) (rpa2 rwd2 rat2 rfo2 at2 fo2 : Nat → Nat), (∀ X, sRun le ln = .inr X → mSf rs2 X.2.2.2.2.2.2 ∧ tOK X.2.2.2.1 at2 fo2 (hoOf le X.2.2.2.1 X.2.2.2.2.1) ∧ (∀ t, t < X.2.2.2.1 → 1 ≤ at2 t ∧ at2 t ≤ 8)) ∧ u = (match sRun le ln with | .inl _ => wM (kM 0 ln pl2 lo ri la wk tw sf rl2 rr2 re2 rw2 rt2 rs2 ac sd ce sa ti) (kI 56 le) (kI 10 h) (kI 5 pa) (kI 5 wa) (kI 2 at_) (kI 2 fo) (kR 10 rh2) (kI 5 rpa2) (kI 5 rwd2) (kI 2 rat2) (kI 2 rfo2) (kI 16 (pgR r)) e13 e14 (kZ 2 kp) e16 e17 | .inr X => wM (kM 0 ln pl2 (10 * (le 11 - 48) + (le 12 - 48)) (le 13 - 48) (le 14 - 48) X.2.1 X.2.2.2.1 rs2 rl2 rr2 re2 rw2 rt2 rs2 0 sd ce sa ti) (kI 56 le) (kI 10 (hgt le)) (kI 5 (paOf le X.2.1 X.2.2.1 pa)) (kI 5 (waOf le X.2.1 X.2.2.1 wa)) (kI 2 at2) (kI 2 fo2) (kR 10 rh2) (kI 5 rpa2) (kI 5 rwd2) (kI 2 rat2) (kI 2 rfo2) (kI 16 (pgR (zf 16 r))) e13 e14 (kZ 2 (va_up (va_up kp 0 0) 1 0)) e16 e17)) := by
  refine Ct.of (by decide) (by exact Nat.le_of_ble_eq_true rfl) ?_
  show Go mX8_bay 5 0 [(0, .ref 0)] [] (wM (kM 0 ln pl lo ri la wk tw sf rl rr re wn tn rs ac sd ce sa ti) (kI 56 le) (kI 10 h) (kI 5 pa) (kI 5 wa) (kI 2 at_) (kI 2 fo) (kR 10 rh) (kI 5 rpa) (kI 5 rwd) (kI 2 rat) (kI 2 rfo) (kI 16 (pgR r)) e13 e14 (kZ 2 kp) e16 e17) (fun v u => v = some (.int (pBay (sRun le ln))) ∧ ∃ (rh2 : Nat → Int32) (rl2 rr2 re2 : Int32) (pl2 rw2 rt2 rs2 : Nat) (rpa2 rwd2 rat2 rfo2 at2 fo2 : Nat → Nat), (∀ X, sRun le ln = .inr X → mSf rs2 X.2.2.2.2.2.2 ∧ tOK X.2.2.2.1 at2 fo2 (hoOf le X.2.2.2.1 X.2.2.2.2.1) ∧ (∀ t, t < X.2.2.2.1 → 1 ≤ at2 t ∧ at2 t ≤ 8)) ∧ u = (match sRun le ln with | .inl _ => wM (kM 0 ln pl2 lo ri la wk tw sf rl2 rr2 re2 rw2 rt2 rs2 ac sd ce sa ti) (kI 56 le) (kI 10 h) (kI 5 pa) (kI 5 wa) (kI 2 at_) (kI 2 fo) (kR 10 rh2) (kI 5 rpa2) (kI 5 rwd2) (kI 2 rat2) (kI 2 rfo2) (kI 16 (pgR r)) e13 e14 (kZ 2 kp) e16 e17 | .inr X => wM (kM 0 ln pl2 (10 * (le 11 - 48) + (le 12 - 48)) (le 13 - 48) (le 14 - 48) X.2.1 X.2.2.2.1 rs2 rl2 rr2 re2 rw2 rt2 rs2 0 sd ce sa ti) (kI 56 le) (kI 10 (hgt le)) (kI 5 (paOf le X.2.1 X.2.2.1 pa)) (kI 5 (waOf le X.2.1 X.2.2.1 wa)) (kI 2 at2) (kI 2 fo2) (kR 10 rh2) (kI 5 rpa2) (kI 5 rwd2) (kI 2 rat2) (kI 2 rfo2) (kI 16 (pgR (zf 16 r))) e13 e14 (kZ 2 (va_up (va_up kp 0 0) 1 0)) e16 e17))
  refine g_aload_n (i := 0) (j := 0) dX8_bay_0 rfl rfl ?_
  refine g_iconst (v := nI 0) dX8_bay_1 (by decide) ?_
  refine n_putI (ws' := wM (kM 0 ln pl lo ri la wk tw sf rl rr re wn tn rs ac sd ce sa ti) (kI 56 le) (kI 10 h) (kI 5 pa) (kI 5 wa) (kI 2 at_) (kI 2 fo) (kR 10 rh) (kI 5 rpa) (kI 5 rwd) (kI 2 rat) (kI 2 rfo) (kI 16 (pgR r)) e13 e14 (kZ 2 kp) e16 e17) fX8_67 fp_X8_0 rfl (by exact Nat.le_of_ble_eq_true rfl) dX8_bay_2 rfl ?_
  refine g_aload_n (i := 0) (j := 0) dX8_bay_5 rfl rfl ?_
  refine g_callV (rest := []) (ctX8_readBay  hln hle) kX8_readBay lX8_136 (by decide) rfl rfl rfl rfl (by exact Nat.le_of_ble_eq_true rfl) dX8_bay_6 rfl (fun v u hvu => ?_)
  obtain ⟨rfl, rh2, rl2, rr2, re2, pl2, rw2, rt2, rs2, rpa2, rwd2, rat2, rfo2, hF, rfl⟩ := hvu
  refine g_st (st' := [.int (rF (sRun le ln))]) rfl ?_
  rcases hR : sRun le ln with f | X
  · have hf := sRun_le hR
    refine g_st (st' := [.int (nI f)]) rfl ?_
    refine g_bipush (v := (-9)) dX8_bay_9 (by decide) ?_
    refine g_icmp_eq (tgt := 17) dX8_bay_11 (by decide) (fun h11 => ?_) (fun h11 => ?_)
    · exact absurd h11 (nI_n9 (by omega))
    · refine g_bipush (v := (-3)) dX8_bay_14 (by decide) ?_
      refine g_iret rfl rfl dX8_bay_16 ?_
      refine ⟨rfl, rh2, rl2, rr2, re2, pl2, rw2, rt2, rs2, rpa2, rwd2, rat2, rfo2, at_, fo, ?_, rfl⟩
      intro X9 hX9
      cases hX9
  · refine g_st (st' := [.int (-9)]) rfl ?_
    obtain ⟨⟨hh, e2h, e3h, e4h⟩, e5h, e6h, hm⟩ := hF X hR
    subst e2h e3h e4h e5h e6h
    have hxo := (sRun_ok hR).2
    obtain ⟨-, hwn, htn, -, -, -, hok, -⟩ := hxo
    refine g_bipush (v := (-9)) dX8_bay_9 (by decide) ?_
    refine g_icmp_eq (tgt := 17) dX8_bay_11 (by decide) (fun h11 => ?_) (fun h11 => ?_)
    · refine g_iconst (v := nI 0) dX8_bay_17 (by decide) ?_
      refine g_istore_n (i := 1) (lv' := [(1, .int (nI 0)), (0, .ref 0)]) dX8_bay_18 rfl (by decide) rfl ?_
      refine g_lv [1, 0] rfl ?_
      refine l0_bH hh ?_
      refine g_aload_n (i := 0) (j := 0) dX8_bay_43 rfl rfl ?_
      refine g_aload_n (i := 0) (j := 0) dX8_bay_44 rfl rfl ?_
      refine g_get fX8_121 rfl rfl dX8_bay_45 ?_
      refine n_putI (ws' := wM (kM 0 ln pl2 (10 * (le 11 - 48) + (le 12 - 48)) ri la wk tw sf (nI (10 * (le 11 - 48) + (le 12 - 48))) (nI (le 13 - 48)) (nI (le 14 - 48)) X.2.1 X.2.2.2.1 rs2 ac sd ce sa ti) (kI 56 le) (kI 10 (cpf 10 (hFn le) h)) (kI 5 pa) (kI 5 wa) (kI 2 at_) (kI 2 fo) (kR 10 rh2) (kI 5 rpa2) (kI 5 rwd2) (kI 2 rat2) (kI 2 rfo2) (kI 16 (pgR r)) e13 e14 (kZ 2 kp) e16 e17) fX8_139 fp_X8_5 rfl (by exact Nat.le_of_ble_eq_true rfl) dX8_bay_48 rfl ?_
      refine g_aload_n (i := 0) (j := 0) dX8_bay_51 rfl rfl ?_
      refine g_aload_n (i := 0) (j := 0) dX8_bay_52 rfl rfl ?_
      refine g_get fX8_124 rfl rfl dX8_bay_53 ?_
      refine n_putI (ws' := wM (kM 0 ln pl2 (10 * (le 11 - 48) + (le 12 - 48)) (le 13 - 48) la wk tw sf (nI (10 * (le 11 - 48) + (le 12 - 48))) (nI (le 13 - 48)) (nI (le 14 - 48)) X.2.1 X.2.2.2.1 rs2 ac sd ce sa ti) (kI 56 le) (kI 10 (cpf 10 (hFn le) h)) (kI 5 pa) (kI 5 wa) (kI 2 at_) (kI 2 fo) (kR 10 rh2) (kI 5 rpa2) (kI 5 rwd2) (kI 2 rat2) (kI 2 rfo2) (kI 16 (pgR r)) e13 e14 (kZ 2 kp) e16 e17) fX8_16 fp_X8_6 rfl (by exact Nat.le_of_ble_eq_true rfl) dX8_bay_56 rfl ?_
      refine g_aload_n (i := 0) (j := 0) dX8_bay_59 rfl rfl ?_
      refine g_aload_n (i := 0) (j := 0) dX8_bay_60 rfl rfl ?_
      refine g_get fX8_127 rfl rfl dX8_bay_61 ?_
      refine n_putI (ws' := wM (kM 0 ln pl2 (10 * (le 11 - 48) + (le 12 - 48)) (le 13 - 48) (le 14 - 48) wk tw sf (nI (10 * (le 11 - 48) + (le 12 - 48))) (nI (le 13 - 48)) (nI (le 14 - 48)) X.2.1 X.2.2.2.1 rs2 ac sd ce sa ti) (kI 56 le) (kI 10 (cpf 10 (hFn le) h)) (kI 5 pa) (kI 5 wa) (kI 2 at_) (kI 2 fo) (kR 10 rh2) (kI 5 rpa2) (kI 5 rwd2) (kI 2 rat2) (kI 2 rfo2) (kI 16 (pgR r)) e13 e14 (kZ 2 kp) e16 e17) fX8_142 fp_X8_7 rfl (by exact Nat.le_of_ble_eq_true rfl) dX8_bay_64 rfl ?_
      refine g_aload_n (i := 0) (j := 0) dX8_bay_67 rfl rfl ?_
      refine g_aload_n (i := 0) (j := 0) dX8_bay_68 rfl rfl ?_
      refine g_get fX8_100 rfl rfl dX8_bay_69 ?_
      refine n_putI (ws' := wM (kM 0 ln pl2 (10 * (le 11 - 48) + (le 12 - 48)) (le 13 - 48) (le 14 - 48) X.2.1 tw sf (nI (10 * (le 11 - 48) + (le 12 - 48))) (nI (le 13 - 48)) (nI (le 14 - 48)) X.2.1 X.2.2.2.1 rs2 ac sd ce sa ti) (kI 56 le) (kI 10 (cpf 10 (hFn le) h)) (kI 5 pa) (kI 5 wa) (kI 2 at_) (kI 2 fo) (kR 10 rh2) (kI 5 rpa2) (kI 5 rwd2) (kI 2 rat2) (kI 2 rfo2) (kI 16 (pgR r)) e13 e14 (kZ 2 kp) e16 e17) fX8_70 fp_X8_8 rfl (by exact Nat.le_of_ble_eq_true rfl) dX8_bay_72 rfl ?_
      refine g_aload_n (i := 0) (j := 0) dX8_bay_75 rfl rfl ?_
      refine g_aload_n (i := 0) (j := 0) dX8_bay_76 rfl rfl ?_
      refine g_get fX8_87 rfl rfl dX8_bay_77 ?_
      refine n_putI (ws' := wM (kM 0 ln pl2 (10 * (le 11 - 48) + (le 12 - 48)) (le 13 - 48) (le 14 - 48) X.2.1 X.2.2.2.1 sf (nI (10 * (le 11 - 48) + (le 12 - 48))) (nI (le 13 - 48)) (nI (le 14 - 48)) X.2.1 X.2.2.2.1 rs2 ac sd ce sa ti) (kI 56 le) (kI 10 (cpf 10 (hFn le) h)) (kI 5 pa) (kI 5 wa) (kI 2 at_) (kI 2 fo) (kR 10 rh2) (kI 5 rpa2) (kI 5 rwd2) (kI 2 rat2) (kI 2 rfo2) (kI 16 (pgR r)) e13 e14 (kZ 2 kp) e16 e17) fX8_145 fp_X8_9 rfl (by exact Nat.le_of_ble_eq_true rfl) dX8_bay_80 rfl ?_
      refine g_aload_n (i := 0) (j := 0) dX8_bay_83 rfl rfl ?_
      refine g_aload_n (i := 0) (j := 0) dX8_bay_84 rfl rfl ?_
      refine g_get fX8_118 rfl rfl dX8_bay_85 ?_
      refine n_putI (ws' := wM (kM 0 ln pl2 (10 * (le 11 - 48) + (le 12 - 48)) (le 13 - 48) (le 14 - 48) X.2.1 X.2.2.2.1 rs2 (nI (10 * (le 11 - 48) + (le 12 - 48))) (nI (le 13 - 48)) (nI (le 14 - 48)) X.2.1 X.2.2.2.1 rs2 ac sd ce sa ti) (kI 56 le) (kI 10 (cpf 10 (hFn le) h)) (kI 5 pa) (kI 5 wa) (kI 2 at_) (kI 2 fo) (kR 10 rh2) (kI 5 rpa2) (kI 5 rwd2) (kI 2 rat2) (kI 2 rfo2) (kI 16 (pgR r)) e13 e14 (kZ 2 kp) e16 e17) fX8_148 fp_X8_10 rfl (by exact Nat.le_of_ble_eq_true rfl) dX8_bay_88 rfl ?_
      refine g_iconst (v := nI 0) dX8_bay_91 (by decide) ?_
      refine g_istore_n (i := 1) (lv' := [(1, .int (nI 0)), (0, .ref 0)]) dX8_bay_92 rfl (by decide) rfl ?_
      refine g_lv [1, 0] rfl ?_
      refine l0_bW (by omega) ?_
      refine g_iconst (v := nI 0) dX8_bay_131 (by decide) ?_
      refine g_istore_n (i := 1) (lv' := [(1, .int (nI 0)), (0, .ref 0)]) dX8_bay_132 rfl (by decide) rfl ?_
      refine g_lv [1, 0] rfl ?_
      refine l0_bT (by omega) ?_
      refine g_iconst (v := nI 0) dX8_bay_171 (by decide) ?_
      refine g_istore_n (i := 1) (lv' := [(1, .int (nI 0)), (0, .ref 0)]) dX8_bay_172 rfl (by decide) rfl ?_
      refine g_lv [1, 0] rfl ?_
      refine l0_bP ?_
      refine g_aload_n (i := 0) (j := 0) dX8_bay_192 rfl rfl ?_
      refine g_iconst (v := nI 0) dX8_bay_193 (by decide) ?_
      refine n_putI (ws' := wM (kM 0 ln pl2 (10 * (le 11 - 48) + (le 12 - 48)) (le 13 - 48) (le 14 - 48) X.2.1 X.2.2.2.1 rs2 (nI (10 * (le 11 - 48) + (le 12 - 48))) (nI (le 13 - 48)) (nI (le 14 - 48)) X.2.1 X.2.2.2.1 rs2 0 sd ce sa ti) (kI 56 le) (kI 10 (cpf 10 (hFn le) h)) (kI 5 (cpf X.2.1 rpa2 pa)) (kI 5 (cpf X.2.1 rwd2 wa)) (kI 2 (cpf X.2.2.2.1 rat2 at_)) (kI 2 (cpf X.2.2.2.1 rfo2 fo)) (kR 10 rh2) (kI 5 rpa2) (kI 5 rwd2) (kI 2 rat2) (kI 2 rfo2) (kI 16 (cpf 16 fZ (pgR r))) e13 e14 (kZ 2 kp) e16 e17) fX8_151 fp_X8_28 rfl (by exact Nat.le_of_ble_eq_true rfl) dX8_bay_194 rfl ?_
      refine g_aload_n (i := 0) (j := 0) dX8_bay_197 rfl rfl ?_
      refine g_get fX8_56 rfl rfl dX8_bay_198 ?_
      refine g_iconst (v := nI 0) dX8_bay_201 (by decide) ?_
      refine g_iconst (v := nI 0) dX8_bay_202 (by decide) ?_
      refine n_zast (x := 0) (ws' := wM (kM 0 ln pl2 (10 * (le 11 - 48) + (le 12 - 48)) (le 13 - 48) (le 14 - 48) X.2.1 X.2.2.2.1 rs2 (nI (10 * (le 11 - 48) + (le 12 - 48))) (nI (le 13 - 48)) (nI (le 14 - 48)) X.2.1 X.2.2.2.1 rs2 0 sd ce sa ti) (kI 56 le) (kI 10 (cpf 10 (hFn le) h)) (kI 5 (cpf X.2.1 rpa2 pa)) (kI 5 (cpf X.2.1 rwd2 wa)) (kI 2 (cpf X.2.2.2.1 rat2 at_)) (kI 2 (cpf X.2.2.2.1 rfo2 fo)) (kR 10 rh2) (kI 5 rpa2) (kI 5 rwd2) (kI 2 rat2) (kI 2 rfo2) (kI 16 (cpf 16 fZ (pgR r))) e13 e14 (kZ 2 (va_up kp 0 0)) e16 e17) rfl (by omega) (rng_lit 2 rfl) (by omega) dX8_bay_203 rfl ?_
      refine g_aload_n (i := 0) (j := 0) dX8_bay_204 rfl rfl ?_
      refine g_get fX8_56 rfl rfl dX8_bay_205 ?_
      refine g_iconst (v := nI 1) dX8_bay_208 (by decide) ?_
      refine g_iconst (v := nI 0) dX8_bay_209 (by decide) ?_
      refine n_zast (x := 1) (ws' := wM (kM 0 ln pl2 (10 * (le 11 - 48) + (le 12 - 48)) (le 13 - 48) (le 14 - 48) X.2.1 X.2.2.2.1 rs2 (nI (10 * (le 11 - 48) + (le 12 - 48))) (nI (le 13 - 48)) (nI (le 14 - 48)) X.2.1 X.2.2.2.1 rs2 0 sd ce sa ti) (kI 56 le) (kI 10 (cpf 10 (hFn le) h)) (kI 5 (cpf X.2.1 rpa2 pa)) (kI 5 (cpf X.2.1 rwd2 wa)) (kI 2 (cpf X.2.2.2.1 rat2 at_)) (kI 2 (cpf X.2.2.2.1 rfo2 fo)) (kR 10 rh2) (kI 5 rpa2) (kI 5 rwd2) (kI 2 rat2) (kI 2 rfo2) (kI 16 (cpf 16 fZ (pgR r))) e13 e14 (kZ 2 (va_up (va_up kp 0 0) 1 0)) e16 e17) rfl (by omega) (rng_lit 2 rfl) (by omega) dX8_bay_210 rfl ?_
      refine g_bipush (v := nI 10) dX8_bay_211 (by decide) ?_
      refine g_aload_n (i := 0) (j := 0) dX8_bay_213 rfl rfl ?_
      refine g_get fX8_70 rfl rfl dX8_bay_214 ?_
      refine n_imul (a := 10) (b := X.2.1) dX8_bay_217 ?_
      refine g_aload_n (i := 0) (j := 0) dX8_bay_218 rfl rfl ?_
      refine g_get fX8_145 rfl rfl dX8_bay_219 ?_
      refine n_iadd (a := (10 * X.2.1)) (b := X.2.2.2.1) dX8_bay_222 ?_
      refine g_iret rfl rfl dX8_bay_223 ?_
      refine ⟨rfl, rh2, nI (10 * (le 11 - 48) + (le 12 - 48)), nI (le 13 - 48), nI (le 14 - 48), pl2, X.2.1, X.2.2.2.1, rs2, rpa2, rwd2, rat2, rfo2, cpf X.2.2.2.1 rat2 at_, cpf X.2.2.2.1 rfo2 fo, ?_, ?_⟩
      · intro X9 hX9
        injection hX9 with hX9
        subst hX9
        exact bay_f hm (by omega) hok
      · refine Eq.trans (b := wM (kM 0 ln pl2 (10 * (le 11 - 48) + (le 12 - 48)) (le 13 - 48) (le 14 - 48) X.2.1 X.2.2.2.1 rs2 (nI (10 * (le 11 - 48) + (le 12 - 48))) (nI (le 13 - 48)) (nI (le 14 - 48)) X.2.1 X.2.2.2.1 rs2 0 sd ce sa ti) (kI 56 le) (kI 10 (hgt le)) (kI 5 (paOf le X.2.1 X.2.2.1 pa)) (kI 5 (waOf le X.2.1 X.2.2.1 wa)) (kI 2 (cpf X.2.2.2.1 rat2 at_)) (kI 2 (cpf X.2.2.2.1 rfo2 fo)) (kR 10 rh2) (kI 5 rpa2) (kI 5 rwd2) (kI 2 rat2) (kI 2 rfo2) (kI 16 (pgR (zf 16 r))) e13 e14 (kZ 2 (va_up (va_up kp 0 0) 1 0)) e16 e17) ?_ rfl
        rw [bay_h hzh, bay_p hm, bay_w hm, bay_g]
    · exact absurd rfl h11

