/-! part 32: the model: readPart, readHead, readBay, fault -/
theorem mX_W {le wp tp so rpa rwd rat rfo : Nat → Nat} {wk tw sf rs p : Nat} (h : mX le wk wp tw tp sf so rpa rwd rat rfo rs) : mX le (wk + 1) (va_up wp wk p) tw tp sf so (va_up rpa wk (le (p + 1) - 48)) (va_up rwd wk (le (p + 2) - 48)) rat rfo rs := by
  obtain ⟨h1, h2⟩ := h
  refine ⟨fun k hk => ?_, h2⟩
  by_cases e : k = wk
  · subst e; rw [va_up_same, va_up_same, va_up_same]; exact ⟨rfl, rfl⟩
  · rw [va_up_other e, va_up_other e, va_up_other e]; exact h1 k (by omega)
theorem mX_T {le wp tp so rpa rwd rat rfo : Nat → Nat} {wk tw sf rs p : Nat} (h : mX le wk wp tw tp sf so rpa rwd rat rfo rs) (htw : tw < 2) (hok : tpOK le tw tp) (hho : hoOf le tw tp (le (p + 1) - 48) = 0) : mX le wk wp (tw + 1) (va_up tp tw p) sf so rpa rwd (va_up rat tw (le (p + 1) - 48)) (va_up rfo tw (le (p + 2) - 48)) rs := by
  obtain ⟨h1, h2, h3, h4, h5, h6, h7⟩ := h
  refine ⟨h1, fun k hk => ?_, h3, h4, h5, h6, fun e => ?_⟩
  · by_cases e : k = tw
    · subst e; rw [va_up_same, va_up_same, va_up_same]; exact ⟨rfl, rfl⟩
    · rw [va_up_other e, va_up_other e, va_up_other e]; exact h2 k (by omega)
  · obtain rfl : tw = 1 := by omega
    rw [va_up_other (by omega), va_up_same]
    intro z
    have a0 := hok 0 (by omega)
    have r0 := (h2 0 (by omega)).1
    unfold hoOf at hho
    rw [if_pos ⟨by omega, by omega⟩] at hho
    omega
theorem mX_S {le wp tp so rpa rwd rat rfo : Nat → Nat} {wk tw sf rs v : Nat} (h : mX le wk wp tw tp sf so rpa rwd rat rfo rs) (h1 : 1 ≤ v) (h9 : v < 9) (hz : so v = 0) : mX le wk wp tw tp (sf + 1) (va_up so v 1) rpa rwd rat rfo (rs + 2 ^ v) := by
  obtain ⟨m1, m2, m3, m4, m5, m6, m7⟩ := h
  have hb : rs / 2 ^ v % 2 = 0 := by rw [← m6 v (by omega)]; exact hz
  obtain ⟨c1, c2, c3⟩ := cnt8_s v h9 h1 rs m3 m4 hb
  refine ⟨m1, m2, c2, c3, by omega, fun k hk => ?_, m7⟩
  rw [bit_s v h9 k hk rs m3 hb]
  unfold va_up
  split
  · rfl
  · exact m6 k hk
theorem ctX8_readPart {e2 e3 e4 e5 e6 e12 e13 e14 e15 e16 e17 : va_E} {ln lo ri la wk tw sf : Nat} {rl rr re : Int32} {ac : Nat} {sd : Int64} {ce sa ti : Nat} {rh : Nat → Int32} {p wn : Nat} {wp : Nat → Nat} {tn : Nat} {tp : Nat → Nat} {sc : Nat} {so : Nat → Nat} {rpa rwd rat rfo : Nat → Nat} {rs : Nat} {le : Nat → Nat} (hln : ln ≤ 56) (hle : ∀ k, le k ≤ 255) (hx : xOK le ln p wn wp tn tp sc so) (hX : mX le wn wp tn tp sc so rpa rwd rat rfo rs) (hp : p < ln) : Ct mX8_readPart 3 [.ref 0] (wM (kM 0 ln p lo ri la wk tw sf rl rr re wn tn rs ac sd ce sa ti) (kI 56 le) e2 e3 e4 e5 e6 (kR 10 rh) (kI 5 rpa) (kI 5 rwd) (kI 2 rat) (kI 2 rfo) e12 e13 e14 e15 e16 e17) (fun v u => ∃ (rpa2 rwd2 rat2 rfo2 : Nat → Nat) (rs2 : Nat), match sPart le ln p wn wp tn tp sc so with | .inl f => v = some (.int (nI 0)) ∧ u = wM (kM 0 ln f lo ri la wk tw sf rl rr re wn tn rs ac sd ce sa ti) (kI 56 le) e2 e3 e4 e5 e6 (kR 10 rh) (kI 5 rpa) (kI 5 rwd) (kI 2 rat) (kI 2 rfo) e12 e13 e14 e15 e16 e17 | .inr X => v = some (.int (nI 1)) ∧ mX le X.2.1 X.2.2.1 X.2.2.2.1 X.2.2.2.2.1 X.2.2.2.2.2.1 X.2.2.2.2.2.2 rpa2 rwd2 rat2 rfo2 rs2 ∧ u = wM (kM 0 ln X.1 lo ri la wk tw sf rl rr re X.2.1 X.2.2.2.1 rs2 ac sd ce sa ti) (kI 56 le) e2 e3 e4 e5 e6 (kR 10 rh) (kI 5 rpa2) (kI 5 rwd2) (kI 2 rat2) (kI 2 rfo2) e12 e13 e14 e15 e16 e17) := by
  refine Ct.of (by decide) (by exact Nat.le_of_ble_eq_true rfl) ?_
  show Go mX8_readPart 3 0 [(0, .ref 0)] [] (wM (kM 0 ln p lo ri la wk tw sf rl rr re wn tn rs ac sd ce sa ti) (kI 56 le) e2 e3 e4 e5 e6 (kR 10 rh) (kI 5 rpa) (kI 5 rwd) (kI 2 rat) (kI 2 rfo) e12 e13 e14 e15 e16 e17) (fun v u => ∃ (rpa2 rwd2 rat2 rfo2 : Nat → Nat) (rs2 : Nat), match sPart le ln p wn wp tn tp sc so with | .inl f => v = some (.int (nI 0)) ∧ u = wM (kM 0 ln f lo ri la wk tw sf rl rr re wn tn rs ac sd ce sa ti) (kI 56 le) e2 e3 e4 e5 e6 (kR 10 rh) (kI 5 rpa) (kI 5 rwd) (kI 2 rat) (kI 2 rfo) e12 e13 e14 e15 e16 e17 | .inr X => v = some (.int (nI 1)) ∧ mX le X.2.1 X.2.2.1 X.2.2.2.1 X.2.2.2.2.1 X.2.2.2.2.2.1 X.2.2.2.2.2.2 rpa2 rwd2 rat2 rfo2 rs2 ∧ u = wM (kM 0 ln X.1 lo ri la wk tw sf rl rr re X.2.1 X.2.2.2.1 rs2 ac sd ce sa ti) (kI 56 le) e2 e3 e4 e5 e6 (kR 10 rh) (kI 5 rpa2) (kI 5 rwd2) (kI 2 rat2) (kI 2 rfo2) e12 e13 e14 e15 e16 e17)
  have hx0 := hx
  obtain ⟨hpl, hwn, htn, hsc, hso1, hso0, hok, hwp⟩ := hx0
  have hX0 := hX
  obtain ⟨m1, m2, m3, m4, m5, m6, m7⟩ := hX0
  have q0 := hle p
  have hra : ∀ t, t < tn → rat t ≤ 8 := fun t ht => by have z := hok t ht; rw [(m2 t ht).1]; omega
  refine g_aload_n (i := 0) (j := 0) dX8_readPart_0 rfl rfl ?_
  refine g_get fX8_7 rfl rfl dX8_readPart_1 ?_
  refine g_aload_n (i := 0) (j := 0) dX8_readPart_4 rfl rfl ?_
  refine g_get fX8_84 rfl rfl dX8_readPart_5 ?_
  refine n_iald (x := p) rfl (by omega) (rng_lit 56 rfl) dX8_readPart_8 ?_
  refine g_istore_n (i := 1) (lv' := [(1, .int (nI (le p))), (0, .ref 0)]) dX8_readPart_9 rfl (by decide) rfl ?_
  refine g_iload_n (i := 1) (j := 0) dX8_readPart_10 rfl rfl ?_
  refine g_bipush (v := nI 87) dX8_readPart_11 (by decide) ?_
  refine n_icmp_ne (tgt := 39) (by omega) (rng_lit 87 rfl) dX8_readPart_13 (by decide) (fun h13 => ?_) (fun h13 => ?_)
  · refine g_iload_n (i := 1) (j := 0) dX8_readPart_39 rfl rfl ?_
    refine g_bipush (v := nI 84) dX8_readPart_40 (by decide) ?_
    refine n_icmp_ne (tgt := 68) (by omega) (rng_lit 84 rfl) dX8_readPart_42 (by decide) (fun h42 => ?_) (fun h42 => ?_)
    · refine g_iload_n (i := 1) (j := 0) dX8_readPart_68 rfl rfl ?_
      refine g_bipush (v := nI 83) dX8_readPart_69 (by decide) ?_
      refine n_icmp_ne (tgt := 143) (by omega) (rng_lit 83 rfl) dX8_readPart_71 (by decide) (fun h71 => ?_) (fun h71 => ?_)
      · refine g_iconst (v := nI 0) dX8_readPart_143 (by decide) ?_
        refine g_iret rfl (by decide) dX8_readPart_144 ?_
        refine ⟨rpa, rwd, rat, rfo, rs, ?_⟩
        rw [sPart_no (by omega) (by omega) (by have z := cnt8_510 rs m3 m4; omega)]
        exact ⟨rfl, rfl⟩
      · refine g_aload_n (i := 0) (j := 1) dX8_readPart_74 rfl rfl ?_
        refine g_get fX8_118 rfl rfl dX8_readPart_75 ?_
        refine g_sipush (v := nI 510) dX8_readPart_78 (by decide) ?_
        refine n_icmp_eq (tgt := 143) (by omega) (rng_lit 510 rfl) dX8_readPart_81 (by decide) (fun h81 => ?_) (fun h81 => ?_)
        · refine g_iconst (v := nI 0) dX8_readPart_143 (by decide) ?_
          refine g_iret rfl (by decide) dX8_readPart_144 ?_
          refine ⟨rpa, rwd, rat, rfo, rs, ?_⟩
          rw [sPart_no (by omega) (by omega) (by have z := cnt8_510 rs m3 m4; omega)]
          exact ⟨rfl, rfl⟩
        · refine g_aload_n (i := 0) (j := 1) dX8_readPart_84 rfl rfl ?_
          refine g_dup dX8_readPart_85 rfl ?_
          refine g_get fX8_84 rfl rfl dX8_readPart_86 ?_
          refine g_iconst (v := nI 1) dX8_readPart_89 (by decide) ?_
          refine n_iadd (a := p) (b := 1) dX8_readPart_90 ?_
          refine n_putI (ws' := wM (kM 0 ln (p + 1) lo ri la wk tw sf rl rr re wn tn rs ac sd ce sa ti) (kI 56 le) e2 e3 e4 e5 e6 (kR 10 rh) (kI 5 rpa) (kI 5 rwd) (kI 2 rat) (kI 2 rfo) e12 e13 e14 e15 e16 e17) fX8_84 fp_X8_3 rfl (by exact Nat.le_of_ble_eq_true rfl) dX8_readPart_91 rfl ?_
          refine g_aload_n (i := 0) (j := 1) dX8_readPart_94 rfl rfl ?_
          refine g_sipush (v := nI 510) dX8_readPart_95 (by decide) ?_
          refine g_aload_n (i := 0) (j := 1) dX8_readPart_98 rfl rfl ?_
          refine g_get fX8_118 rfl rfl dX8_readPart_99 ?_
          refine g_iconst (v := (-1)) dX8_readPart_102 (by decide) ?_
          refine g_ixor dX8_readPart_103 ?_
          refine g_iand dX8_readPart_104 ?_
          refine g_topi (y := nI (510 - rs)) (sof_and rs m3 m4) ?_
          by_cases h1 : (dg le ln (p + 1) 1 8 ∧ (510 - rs) / 2 ^ (le (p + 1) - 48) % 2 = 1)
          · have q2 := hle (p + 1)
            refine c_V (st1 := [.int (nI (le (p + 1) - 48))]) (ctX8_one_y (m := 510 - rs) hln hle (by omega) (by omega) (by assumption)) kX8_one lX8_107 (by decide) rfl rfl rfl rfl (by exact Nat.le_of_ble_eq_true rfl) dX8_readPart_105 rfl rfl ?_
            refine g_istore_n (i := 2) (lv' := [(2, .int (nI (le (p + 1) - 48))), (1, .int (nI (le p))), (0, .ref 0)]) dX8_readPart_108 rfl (by decide) rfl ?_
            refine g_aload_n (i := 0) (j := 2) dX8_readPart_109 rfl rfl ?_
            refine g_dup dX8_readPart_110 rfl ?_
            refine g_get fX8_118 rfl rfl dX8_readPart_111 ?_
            refine g_iload_n (i := 2) (j := 0) dX8_readPart_114 rfl rfl ?_
            refine g_bipush (v := (-9)) dX8_readPart_115 (by decide) ?_
            refine g_icmp_ne (tgt := 124) dX8_readPart_117 (by decide) (fun h117 => ?_) (fun h117 => ?_)
            · refine g_iconst (v := nI 1) dX8_readPart_124 (by decide) ?_
              refine g_iload_n (i := 2) (j := 0) dX8_readPart_125 rfl rfl ?_
              refine g_ishl dX8_readPart_126 ?_
              refine g_ior dX8_readPart_127 ?_
              refine g_topi (y := nI (rs + 2 ^ (le (p + 1) - 48))) (sof_or _ (by have := h1.1; unfold dg at this; omega) rs m3 ((sof_bit _ (by have := h1.1; unfold dg at this; omega) (by have := h1.1; unfold dg at this; omega) rs m3 m4).mp h1.2)) ?_
              refine n_putI (ws' := wM (kM 0 ln ((p + 1) + 1) lo ri la wk tw sf rl rr re wn tn (rs + 2 ^ (le (p + 1) - 48)) ac sd ce sa ti) (kI 56 le) e2 e3 e4 e5 e6 (kR 10 rh) (kI 5 rpa) (kI 5 rwd) (kI 2 rat) (kI 2 rfo) e12 e13 e14 e15 e16 e17) fX8_118 fp_X8_21 rfl (by exact Nat.le_of_ble_eq_true rfl) dX8_readPart_128 rfl ?_
              refine g_iload_n (i := 2) (j := 0) dX8_readPart_131 rfl rfl ?_
              refine g_bipush (v := (-9)) dX8_readPart_132 (by decide) ?_
              refine g_icmp_eq (tgt := 141) dX8_readPart_134 (by decide) (fun h134 => ?_) (fun h134 => ?_)
              · exact absurd h134 (nI_n9 (by omega))
              · refine g_iconst (v := nI 1) dX8_readPart_137 (by decide) ?_
                refine g_goto (tgt := 142) dX8_readPart_138 (by decide) ?_
                refine g_iret rfl (by decide) dX8_readPart_142 ?_
                refine ⟨rpa, rwd, rat, rfo, rs + 2 ^ (le (p + 1) - 48), ?_⟩
                have hcn : dg le ln (p + 1) 1 8 ∧ so (le (p + 1) - 48) = 0 := ⟨h1.1, by rw [m6 _ (by have := h1.1; unfold dg at this; omega), ← sof_bit _ (by have := h1.1; unfold dg at this; omega) (by have := h1.1; unfold dg at this; omega) rs m3 m4]; exact h1.2⟩
                rw [sPart_S h71 (by have z := cnt8_510 rs m3 m4; omega), if_pos hcn]
                exact ⟨rfl, mX_S hX (by have := h1.1; unfold dg at this; omega) (by have := h1.1; unfold dg at this; omega) hcn.2, rfl⟩
            · exact absurd h117 (nI_n9 (by omega))
          · have q2 := hle (p + 1)
            refine c_V (st1 := [.int (-9)]) (ctX8_one_n (m := 510 - rs) hln hle (by omega) (by omega) (by assumption)) kX8_one lX8_107 (by decide) rfl rfl rfl rfl (by exact Nat.le_of_ble_eq_true rfl) dX8_readPart_105 rfl rfl ?_
            refine g_istore_n (i := 2) (lv' := [(2, .int (-9)), (1, .int (nI (le p))), (0, .ref 0)]) dX8_readPart_108 rfl (by decide) rfl ?_
            refine g_aload_n (i := 0) (j := 2) dX8_readPart_109 rfl rfl ?_
            refine g_dup dX8_readPart_110 rfl ?_
            refine g_get fX8_118 rfl rfl dX8_readPart_111 ?_
            refine g_iload_n (i := 2) (j := 0) dX8_readPart_114 rfl rfl ?_
            refine g_bipush (v := (-9)) dX8_readPart_115 (by decide) ?_
            refine g_icmp_ne (tgt := 124) dX8_readPart_117 (by decide) (fun h117 => ?_) (fun h117 => ?_)
            · exact absurd rfl h117
            · refine g_iconst (v := nI 0) dX8_readPart_120 (by decide) ?_
              refine g_goto (tgt := 127) dX8_readPart_121 (by decide) ?_
              refine g_ior dX8_readPart_127 ?_
              refine g_topi (y := nI rs) (or_0 rs) ?_
              refine n_putI (ws' := wM (kM 0 ln (p + 1) lo ri la wk tw sf rl rr re wn tn rs ac sd ce sa ti) (kI 56 le) e2 e3 e4 e5 e6 (kR 10 rh) (kI 5 rpa) (kI 5 rwd) (kI 2 rat) (kI 2 rfo) e12 e13 e14 e15 e16 e17) fX8_118 fp_X8_21 rfl (by exact Nat.le_of_ble_eq_true rfl) dX8_readPart_128 rfl ?_
              refine g_iload_n (i := 2) (j := 0) dX8_readPart_131 rfl rfl ?_
              refine g_bipush (v := (-9)) dX8_readPart_132 (by decide) ?_
              refine g_icmp_eq (tgt := 141) dX8_readPart_134 (by decide) (fun h134 => ?_) (fun h134 => ?_)
              · refine g_iconst (v := nI 0) dX8_readPart_141 (by decide) ?_
                refine g_iret rfl (by decide) dX8_readPart_142 ?_
                refine ⟨rpa, rwd, rat, rfo, rs, ?_⟩
                rw [sPart_S h71 (by have z := cnt8_510 rs m3 m4; omega), if_neg (fun z => h1 ⟨z.1, (sof_bit _ (by have := z.1; unfold dg at this; omega) (by have := z.1; unfold dg at this; omega) rs m3 m4).mpr (by rw [← m6 _ (by have := z.1; unfold dg at this; omega)]; exact z.2)⟩)]
                exact ⟨rfl, rfl⟩
              · exact absurd rfl h134
    · refine g_aload_n (i := 0) (j := 1) dX8_readPart_45 rfl rfl ?_
      refine g_get fX8_87 rfl rfl dX8_readPart_46 ?_
      refine g_iconst (v := nI 2) dX8_readPart_49 (by decide) ?_
      refine n_icmp_ge (tgt := 68) (by omega) (rng_lit 2 rfl) dX8_readPart_50 (by decide) (fun h50 => ?_) (fun h50 => ?_)
      · refine g_iload_n (i := 1) (j := 0) dX8_readPart_68 rfl rfl ?_
        refine g_bipush (v := nI 83) dX8_readPart_69 (by decide) ?_
        refine n_icmp_ne (tgt := 143) (by omega) (rng_lit 83 rfl) dX8_readPart_71 (by decide) (fun h71 => ?_) (fun h71 => ?_)
        · refine g_iconst (v := nI 0) dX8_readPart_143 (by decide) ?_
          refine g_iret rfl (by decide) dX8_readPart_144 ?_
          refine ⟨rpa, rwd, rat, rfo, rs, ?_⟩
          rw [sPart_no (by omega) (by omega) (by have z := cnt8_510 rs m3 m4; omega)]
          exact ⟨rfl, rfl⟩
        · refine g_aload_n (i := 0) (j := 1) dX8_readPart_74 rfl rfl ?_
          refine g_get fX8_118 rfl rfl dX8_readPart_75 ?_
          refine g_sipush (v := nI 510) dX8_readPart_78 (by decide) ?_
          refine n_icmp_eq (tgt := 143) (by omega) (rng_lit 510 rfl) dX8_readPart_81 (by decide) (fun h81 => ?_) (fun h81 => ?_)
          · refine g_iconst (v := nI 0) dX8_readPart_143 (by decide) ?_
            refine g_iret rfl (by decide) dX8_readPart_144 ?_
            refine ⟨rpa, rwd, rat, rfo, rs, ?_⟩
            rw [sPart_no (by omega) (by omega) (by have z := cnt8_510 rs m3 m4; omega)]
            exact ⟨rfl, rfl⟩
          · refine g_aload_n (i := 0) (j := 1) dX8_readPart_84 rfl rfl ?_
            refine g_dup dX8_readPart_85 rfl ?_
            refine g_get fX8_84 rfl rfl dX8_readPart_86 ?_
            refine g_iconst (v := nI 1) dX8_readPart_89 (by decide) ?_
            refine n_iadd (a := p) (b := 1) dX8_readPart_90 ?_
            refine n_putI (ws' := wM (kM 0 ln (p + 1) lo ri la wk tw sf rl rr re wn tn rs ac sd ce sa ti) (kI 56 le) e2 e3 e4 e5 e6 (kR 10 rh) (kI 5 rpa) (kI 5 rwd) (kI 2 rat) (kI 2 rfo) e12 e13 e14 e15 e16 e17) fX8_84 fp_X8_3 rfl (by exact Nat.le_of_ble_eq_true rfl) dX8_readPart_91 rfl ?_
            refine g_aload_n (i := 0) (j := 1) dX8_readPart_94 rfl rfl ?_
            refine g_sipush (v := nI 510) dX8_readPart_95 (by decide) ?_
            refine g_aload_n (i := 0) (j := 1) dX8_readPart_98 rfl rfl ?_
            refine g_get fX8_118 rfl rfl dX8_readPart_99 ?_
            refine g_iconst (v := (-1)) dX8_readPart_102 (by decide) ?_
            refine g_ixor dX8_readPart_103 ?_
            refine g_iand dX8_readPart_104 ?_
            refine g_topi (y := nI (510 - rs)) (sof_and rs m3 m4) ?_
            by_cases h1 : (dg le ln (p + 1) 1 8 ∧ (510 - rs) / 2 ^ (le (p + 1) - 48) % 2 = 1)
            · have q2 := hle (p + 1)
              refine c_V (st1 := [.int (nI (le (p + 1) - 48))]) (ctX8_one_y (m := 510 - rs) hln hle (by omega) (by omega) (by assumption)) kX8_one lX8_107 (by decide) rfl rfl rfl rfl (by exact Nat.le_of_ble_eq_true rfl) dX8_readPart_105 rfl rfl ?_
              refine g_istore_n (i := 2) (lv' := [(2, .int (nI (le (p + 1) - 48))), (1, .int (nI (le p))), (0, .ref 0)]) dX8_readPart_108 rfl (by decide) rfl ?_
              refine g_aload_n (i := 0) (j := 2) dX8_readPart_109 rfl rfl ?_
              refine g_dup dX8_readPart_110 rfl ?_
              refine g_get fX8_118 rfl rfl dX8_readPart_111 ?_
              refine g_iload_n (i := 2) (j := 0) dX8_readPart_114 rfl rfl ?_
              refine g_bipush (v := (-9)) dX8_readPart_115 (by decide) ?_
              refine g_icmp_ne (tgt := 124) dX8_readPart_117 (by decide) (fun h117 => ?_) (fun h117 => ?_)
              · refine g_iconst (v := nI 1) dX8_readPart_124 (by decide) ?_
                refine g_iload_n (i := 2) (j := 0) dX8_readPart_125 rfl rfl ?_
                refine g_ishl dX8_readPart_126 ?_
                refine g_ior dX8_readPart_127 ?_
                refine g_topi (y := nI (rs + 2 ^ (le (p + 1) - 48))) (sof_or _ (by have := h1.1; unfold dg at this; omega) rs m3 ((sof_bit _ (by have := h1.1; unfold dg at this; omega) (by have := h1.1; unfold dg at this; omega) rs m3 m4).mp h1.2)) ?_
                refine n_putI (ws' := wM (kM 0 ln ((p + 1) + 1) lo ri la wk tw sf rl rr re wn tn (rs + 2 ^ (le (p + 1) - 48)) ac sd ce sa ti) (kI 56 le) e2 e3 e4 e5 e6 (kR 10 rh) (kI 5 rpa) (kI 5 rwd) (kI 2 rat) (kI 2 rfo) e12 e13 e14 e15 e16 e17) fX8_118 fp_X8_21 rfl (by exact Nat.le_of_ble_eq_true rfl) dX8_readPart_128 rfl ?_
                refine g_iload_n (i := 2) (j := 0) dX8_readPart_131 rfl rfl ?_
                refine g_bipush (v := (-9)) dX8_readPart_132 (by decide) ?_
                refine g_icmp_eq (tgt := 141) dX8_readPart_134 (by decide) (fun h134 => ?_) (fun h134 => ?_)
                · exact absurd h134 (nI_n9 (by omega))
                · refine g_iconst (v := nI 1) dX8_readPart_137 (by decide) ?_
                  refine g_goto (tgt := 142) dX8_readPart_138 (by decide) ?_
                  refine g_iret rfl (by decide) dX8_readPart_142 ?_
                  refine ⟨rpa, rwd, rat, rfo, rs + 2 ^ (le (p + 1) - 48), ?_⟩
                  have hcn : dg le ln (p + 1) 1 8 ∧ so (le (p + 1) - 48) = 0 := ⟨h1.1, by rw [m6 _ (by have := h1.1; unfold dg at this; omega), ← sof_bit _ (by have := h1.1; unfold dg at this; omega) (by have := h1.1; unfold dg at this; omega) rs m3 m4]; exact h1.2⟩
                  rw [sPart_S h71 (by have z := cnt8_510 rs m3 m4; omega), if_pos hcn]
                  exact ⟨rfl, mX_S hX (by have := h1.1; unfold dg at this; omega) (by have := h1.1; unfold dg at this; omega) hcn.2, rfl⟩
              · exact absurd h117 (nI_n9 (by omega))
            · have q2 := hle (p + 1)
              refine c_V (st1 := [.int (-9)]) (ctX8_one_n (m := 510 - rs) hln hle (by omega) (by omega) (by assumption)) kX8_one lX8_107 (by decide) rfl rfl rfl rfl (by exact Nat.le_of_ble_eq_true rfl) dX8_readPart_105 rfl rfl ?_
              refine g_istore_n (i := 2) (lv' := [(2, .int (-9)), (1, .int (nI (le p))), (0, .ref 0)]) dX8_readPart_108 rfl (by decide) rfl ?_
              refine g_aload_n (i := 0) (j := 2) dX8_readPart_109 rfl rfl ?_
              refine g_dup dX8_readPart_110 rfl ?_
              refine g_get fX8_118 rfl rfl dX8_readPart_111 ?_
              refine g_iload_n (i := 2) (j := 0) dX8_readPart_114 rfl rfl ?_
              refine g_bipush (v := (-9)) dX8_readPart_115 (by decide) ?_
              refine g_icmp_ne (tgt := 124) dX8_readPart_117 (by decide) (fun h117 => ?_) (fun h117 => ?_)
              · exact absurd rfl h117
              · refine g_iconst (v := nI 0) dX8_readPart_120 (by decide) ?_
                refine g_goto (tgt := 127) dX8_readPart_121 (by decide) ?_
                refine g_ior dX8_readPart_127 ?_
                refine g_topi (y := nI rs) (or_0 rs) ?_
                refine n_putI (ws' := wM (kM 0 ln (p + 1) lo ri la wk tw sf rl rr re wn tn rs ac sd ce sa ti) (kI 56 le) e2 e3 e4 e5 e6 (kR 10 rh) (kI 5 rpa) (kI 5 rwd) (kI 2 rat) (kI 2 rfo) e12 e13 e14 e15 e16 e17) fX8_118 fp_X8_21 rfl (by exact Nat.le_of_ble_eq_true rfl) dX8_readPart_128 rfl ?_
                refine g_iload_n (i := 2) (j := 0) dX8_readPart_131 rfl rfl ?_
                refine g_bipush (v := (-9)) dX8_readPart_132 (by decide) ?_
                refine g_icmp_eq (tgt := 141) dX8_readPart_134 (by decide) (fun h134 => ?_) (fun h134 => ?_)
                · refine g_iconst (v := nI 0) dX8_readPart_141 (by decide) ?_
                  refine g_iret rfl (by decide) dX8_readPart_142 ?_
                  refine ⟨rpa, rwd, rat, rfo, rs, ?_⟩
                  rw [sPart_S h71 (by have z := cnt8_510 rs m3 m4; omega), if_neg (fun z => h1 ⟨z.1, (sof_bit _ (by have := z.1; unfold dg at this; omega) (by have := z.1; unfold dg at this; omega) rs m3 m4).mpr (by rw [← m6 _ (by have := z.1; unfold dg at this; omega)]; exact z.2)⟩)]
                  exact ⟨rfl, rfl⟩
                · exact absurd rfl h134
      · refine g_aload_n (i := 0) (j := 1) dX8_readPart_53 rfl rfl ?_
        refine g_dup dX8_readPart_54 rfl ?_
        refine g_get fX8_84 rfl rfl dX8_readPart_55 ?_
        refine g_iconst (v := nI 1) dX8_readPart_58 (by decide) ?_
        refine n_iadd (a := p) (b := 1) dX8_readPart_59 ?_
        refine n_putI (ws' := wM (kM 0 ln (p + 1) lo ri la wk tw sf rl rr re wn tn rs ac sd ce sa ti) (kI 56 le) e2 e3 e4 e5 e6 (kR 10 rh) (kI 5 rpa) (kI 5 rwd) (kI 2 rat) (kI 2 rfo) e12 e13 e14 e15 e16 e17) fX8_84 fp_X8_3 rfl (by exact Nat.le_of_ble_eq_true rfl) dX8_readPart_60 rfl ?_
        by_cases h1 : (dg le ln (p + 1) 1 8 ∧ frM rat tn / 2 ^ (le (p + 1) - 48) % 2 = 1)
        · skip
          by_cases h2 : dg le ln (p + 1 + 1) 1 4
          · skip
            refine g_aload_n (i := 0) (j := 1) dX8_readPart_63 rfl rfl ?_
            refine c_V (st1 := [.int (nI 1)]) (ctX8_rt_y  hln hle (by omega) (by omega) hra h1 h2) kX8_readTower lX8_115 (by decide) rfl rfl rfl rfl (by exact Nat.le_of_ble_eq_true rfl) dX8_readPart_64 rfl rfl ?_
            refine g_iret rfl (by decide) dX8_readPart_67 ?_
            refine ⟨rpa, rwd, va_up rat tn (le (p + 1) - 48), va_up rfo tn (le (p + 2) - 48), rs, ?_⟩
            have hcn : dg le ln (p + 1) 1 8 ∧ hoOf le tn tp (le (p + 1) - 48) = 0 := ⟨h1.1, (frM_bit (by omega) hok (fun t ht => (m2 t ht).1) (by have := h1.1; unfold dg at this; omega) (by have := h1.1; unfold dg at this; omega)).mp h1.2⟩
            rw [sPart_T h42 h50, if_pos hcn, if_pos h2]
            exact ⟨rfl, mX_T hX h50 hok hcn.2, rfl⟩
          · skip
            refine g_aload_n (i := 0) (j := 1) dX8_readPart_63 rfl rfl ?_
            refine c_V (st1 := [.int (nI 0)]) (ctX8_rt_n2  hln hle (by omega) (by omega) hra h1 h2) kX8_readTower lX8_115 (by decide) rfl rfl rfl rfl (by exact Nat.le_of_ble_eq_true rfl) dX8_readPart_64 rfl rfl ?_
            refine g_iret rfl (by decide) dX8_readPart_67 ?_
            refine ⟨rpa, rwd, rat, rfo, rs, ?_⟩
            rw [sPart_T h42 h50, if_pos ⟨h1.1, (frM_bit (by omega) hok (fun t ht => (m2 t ht).1) (by have := h1.1; unfold dg at this; omega) (by have := h1.1; unfold dg at this; omega)).mp h1.2⟩, if_neg h2]
            exact ⟨rfl, rfl⟩
        · skip
          refine g_aload_n (i := 0) (j := 1) dX8_readPart_63 rfl rfl ?_
          refine c_V (st1 := [.int (nI 0)]) (ctX8_rt_n1  hln hle (by omega) (by omega) hra h1) kX8_readTower lX8_115 (by decide) rfl rfl rfl rfl (by exact Nat.le_of_ble_eq_true rfl) dX8_readPart_64 rfl rfl ?_
          refine g_iret rfl (by decide) dX8_readPart_67 ?_
          refine ⟨rpa, rwd, rat, rfo, rs, ?_⟩
          rw [sPart_T h42 h50, if_neg (fun z => h1 ⟨z.1, (frM_bit (by omega) hok (fun t ht => (m2 t ht).1) (by have := z.1; unfold dg at this; omega) (by have := z.1; unfold dg at this; omega)).mpr z.2⟩)]
          exact ⟨rfl, rfl⟩
  · refine g_aload_n (i := 0) (j := 1) dX8_readPart_16 rfl rfl ?_
    refine g_get fX8_100 rfl rfl dX8_readPart_17 ?_
    refine g_iconst (v := nI 5) dX8_readPart_20 (by decide) ?_
    refine n_icmp_ge (tgt := 39) (by omega) (rng_lit 5 rfl) dX8_readPart_21 (by decide) (fun h21 => ?_) (fun h21 => ?_)
    · refine g_iload_n (i := 1) (j := 0) dX8_readPart_39 rfl rfl ?_
      refine g_bipush (v := nI 84) dX8_readPart_40 (by decide) ?_
      refine n_icmp_ne (tgt := 68) (by omega) (rng_lit 84 rfl) dX8_readPart_42 (by decide) (fun h42 => ?_) (fun h42 => ?_)
      · refine g_iload_n (i := 1) (j := 0) dX8_readPart_68 rfl rfl ?_
        refine g_bipush (v := nI 83) dX8_readPart_69 (by decide) ?_
        refine n_icmp_ne (tgt := 143) (by omega) (rng_lit 83 rfl) dX8_readPart_71 (by decide) (fun h71 => ?_) (fun h71 => ?_)
        · refine g_iconst (v := nI 0) dX8_readPart_143 (by decide) ?_
          refine g_iret rfl (by decide) dX8_readPart_144 ?_
          refine ⟨rpa, rwd, rat, rfo, rs, ?_⟩
          rw [sPart_no (by omega) (by omega) (by have z := cnt8_510 rs m3 m4; omega)]
          exact ⟨rfl, rfl⟩
        · refine g_aload_n (i := 0) (j := 1) dX8_readPart_74 rfl rfl ?_
          refine g_get fX8_118 rfl rfl dX8_readPart_75 ?_
          refine g_sipush (v := nI 510) dX8_readPart_78 (by decide) ?_
          refine n_icmp_eq (tgt := 143) (by omega) (rng_lit 510 rfl) dX8_readPart_81 (by decide) (fun h81 => ?_) (fun h81 => ?_)
          · refine g_iconst (v := nI 0) dX8_readPart_143 (by decide) ?_
            refine g_iret rfl (by decide) dX8_readPart_144 ?_
            refine ⟨rpa, rwd, rat, rfo, rs, ?_⟩
            rw [sPart_no (by omega) (by omega) (by have z := cnt8_510 rs m3 m4; omega)]
            exact ⟨rfl, rfl⟩
          · refine g_aload_n (i := 0) (j := 1) dX8_readPart_84 rfl rfl ?_
            refine g_dup dX8_readPart_85 rfl ?_
            refine g_get fX8_84 rfl rfl dX8_readPart_86 ?_
            refine g_iconst (v := nI 1) dX8_readPart_89 (by decide) ?_
            refine n_iadd (a := p) (b := 1) dX8_readPart_90 ?_
            refine n_putI (ws' := wM (kM 0 ln (p + 1) lo ri la wk tw sf rl rr re wn tn rs ac sd ce sa ti) (kI 56 le) e2 e3 e4 e5 e6 (kR 10 rh) (kI 5 rpa) (kI 5 rwd) (kI 2 rat) (kI 2 rfo) e12 e13 e14 e15 e16 e17) fX8_84 fp_X8_3 rfl (by exact Nat.le_of_ble_eq_true rfl) dX8_readPart_91 rfl ?_
            refine g_aload_n (i := 0) (j := 1) dX8_readPart_94 rfl rfl ?_
            refine g_sipush (v := nI 510) dX8_readPart_95 (by decide) ?_
            refine g_aload_n (i := 0) (j := 1) dX8_readPart_98 rfl rfl ?_
            refine g_get fX8_118 rfl rfl dX8_readPart_99 ?_
            refine g_iconst (v := (-1)) dX8_readPart_102 (by decide) ?_
            refine g_ixor dX8_readPart_103 ?_
            refine g_iand dX8_readPart_104 ?_
            refine g_topi (y := nI (510 - rs)) (sof_and rs m3 m4) ?_
            by_cases h1 : (dg le ln (p + 1) 1 8 ∧ (510 - rs) / 2 ^ (le (p + 1) - 48) % 2 = 1)
            · have q2 := hle (p + 1)
              refine c_V (st1 := [.int (nI (le (p + 1) - 48))]) (ctX8_one_y (m := 510 - rs) hln hle (by omega) (by omega) (by assumption)) kX8_one lX8_107 (by decide) rfl rfl rfl rfl (by exact Nat.le_of_ble_eq_true rfl) dX8_readPart_105 rfl rfl ?_
              refine g_istore_n (i := 2) (lv' := [(2, .int (nI (le (p + 1) - 48))), (1, .int (nI (le p))), (0, .ref 0)]) dX8_readPart_108 rfl (by decide) rfl ?_
              refine g_aload_n (i := 0) (j := 2) dX8_readPart_109 rfl rfl ?_
              refine g_dup dX8_readPart_110 rfl ?_
              refine g_get fX8_118 rfl rfl dX8_readPart_111 ?_
              refine g_iload_n (i := 2) (j := 0) dX8_readPart_114 rfl rfl ?_
              refine g_bipush (v := (-9)) dX8_readPart_115 (by decide) ?_
              refine g_icmp_ne (tgt := 124) dX8_readPart_117 (by decide) (fun h117 => ?_) (fun h117 => ?_)
              · refine g_iconst (v := nI 1) dX8_readPart_124 (by decide) ?_
                refine g_iload_n (i := 2) (j := 0) dX8_readPart_125 rfl rfl ?_
                refine g_ishl dX8_readPart_126 ?_
                refine g_ior dX8_readPart_127 ?_
                refine g_topi (y := nI (rs + 2 ^ (le (p + 1) - 48))) (sof_or _ (by have := h1.1; unfold dg at this; omega) rs m3 ((sof_bit _ (by have := h1.1; unfold dg at this; omega) (by have := h1.1; unfold dg at this; omega) rs m3 m4).mp h1.2)) ?_
                refine n_putI (ws' := wM (kM 0 ln ((p + 1) + 1) lo ri la wk tw sf rl rr re wn tn (rs + 2 ^ (le (p + 1) - 48)) ac sd ce sa ti) (kI 56 le) e2 e3 e4 e5 e6 (kR 10 rh) (kI 5 rpa) (kI 5 rwd) (kI 2 rat) (kI 2 rfo) e12 e13 e14 e15 e16 e17) fX8_118 fp_X8_21 rfl (by exact Nat.le_of_ble_eq_true rfl) dX8_readPart_128 rfl ?_
                refine g_iload_n (i := 2) (j := 0) dX8_readPart_131 rfl rfl ?_
                refine g_bipush (v := (-9)) dX8_readPart_132 (by decide) ?_
                refine g_icmp_eq (tgt := 141) dX8_readPart_134 (by decide) (fun h134 => ?_) (fun h134 => ?_)
                · exact absurd h134 (nI_n9 (by omega))
                · refine g_iconst (v := nI 1) dX8_readPart_137 (by decide) ?_
                  refine g_goto (tgt := 142) dX8_readPart_138 (by decide) ?_
                  refine g_iret rfl (by decide) dX8_readPart_142 ?_
                  refine ⟨rpa, rwd, rat, rfo, rs + 2 ^ (le (p + 1) - 48), ?_⟩
                  have hcn : dg le ln (p + 1) 1 8 ∧ so (le (p + 1) - 48) = 0 := ⟨h1.1, by rw [m6 _ (by have := h1.1; unfold dg at this; omega), ← sof_bit _ (by have := h1.1; unfold dg at this; omega) (by have := h1.1; unfold dg at this; omega) rs m3 m4]; exact h1.2⟩
                  rw [sPart_S h71 (by have z := cnt8_510 rs m3 m4; omega), if_pos hcn]
                  exact ⟨rfl, mX_S hX (by have := h1.1; unfold dg at this; omega) (by have := h1.1; unfold dg at this; omega) hcn.2, rfl⟩
              · exact absurd h117 (nI_n9 (by omega))
            · have q2 := hle (p + 1)
              refine c_V (st1 := [.int (-9)]) (ctX8_one_n (m := 510 - rs) hln hle (by omega) (by omega) (by assumption)) kX8_one lX8_107 (by decide) rfl rfl rfl rfl (by exact Nat.le_of_ble_eq_true rfl) dX8_readPart_105 rfl rfl ?_
              refine g_istore_n (i := 2) (lv' := [(2, .int (-9)), (1, .int (nI (le p))), (0, .ref 0)]) dX8_readPart_108 rfl (by decide) rfl ?_
              refine g_aload_n (i := 0) (j := 2) dX8_readPart_109 rfl rfl ?_
              refine g_dup dX8_readPart_110 rfl ?_
              refine g_get fX8_118 rfl rfl dX8_readPart_111 ?_
              refine g_iload_n (i := 2) (j := 0) dX8_readPart_114 rfl rfl ?_
              refine g_bipush (v := (-9)) dX8_readPart_115 (by decide) ?_
              refine g_icmp_ne (tgt := 124) dX8_readPart_117 (by decide) (fun h117 => ?_) (fun h117 => ?_)
              · exact absurd rfl h117
              · refine g_iconst (v := nI 0) dX8_readPart_120 (by decide) ?_
                refine g_goto (tgt := 127) dX8_readPart_121 (by decide) ?_
                refine g_ior dX8_readPart_127 ?_
                refine g_topi (y := nI rs) (or_0 rs) ?_
                refine n_putI (ws' := wM (kM 0 ln (p + 1) lo ri la wk tw sf rl rr re wn tn rs ac sd ce sa ti) (kI 56 le) e2 e3 e4 e5 e6 (kR 10 rh) (kI 5 rpa) (kI 5 rwd) (kI 2 rat) (kI 2 rfo) e12 e13 e14 e15 e16 e17) fX8_118 fp_X8_21 rfl (by exact Nat.le_of_ble_eq_true rfl) dX8_readPart_128 rfl ?_
                refine g_iload_n (i := 2) (j := 0) dX8_readPart_131 rfl rfl ?_
                refine g_bipush (v := (-9)) dX8_readPart_132 (by decide) ?_
                refine g_icmp_eq (tgt := 141) dX8_readPart_134 (by decide) (fun h134 => ?_) (fun h134 => ?_)
                · refine g_iconst (v := nI 0) dX8_readPart_141 (by decide) ?_
                  refine g_iret rfl (by decide) dX8_readPart_142 ?_
                  refine ⟨rpa, rwd, rat, rfo, rs, ?_⟩
                  rw [sPart_S h71 (by have z := cnt8_510 rs m3 m4; omega), if_neg (fun z => h1 ⟨z.1, (sof_bit _ (by have := z.1; unfold dg at this; omega) (by have := z.1; unfold dg at this; omega) rs m3 m4).mpr (by rw [← m6 _ (by have := z.1; unfold dg at this; omega)]; exact z.2)⟩)]
                  exact ⟨rfl, rfl⟩
                · exact absurd rfl h134
      · refine g_aload_n (i := 0) (j := 1) dX8_readPart_45 rfl rfl ?_
        refine g_get fX8_87 rfl rfl dX8_readPart_46 ?_
        refine g_iconst (v := nI 2) dX8_readPart_49 (by decide) ?_
        refine n_icmp_ge (tgt := 68) (by omega) (rng_lit 2 rfl) dX8_readPart_50 (by decide) (fun h50 => ?_) (fun h50 => ?_)
        · refine g_iload_n (i := 1) (j := 0) dX8_readPart_68 rfl rfl ?_
          refine g_bipush (v := nI 83) dX8_readPart_69 (by decide) ?_
          refine n_icmp_ne (tgt := 143) (by omega) (rng_lit 83 rfl) dX8_readPart_71 (by decide) (fun h71 => ?_) (fun h71 => ?_)
          · refine g_iconst (v := nI 0) dX8_readPart_143 (by decide) ?_
            refine g_iret rfl (by decide) dX8_readPart_144 ?_
            refine ⟨rpa, rwd, rat, rfo, rs, ?_⟩
            rw [sPart_no (by omega) (by omega) (by have z := cnt8_510 rs m3 m4; omega)]
            exact ⟨rfl, rfl⟩
          · refine g_aload_n (i := 0) (j := 1) dX8_readPart_74 rfl rfl ?_
            refine g_get fX8_118 rfl rfl dX8_readPart_75 ?_
            refine g_sipush (v := nI 510) dX8_readPart_78 (by decide) ?_
            refine n_icmp_eq (tgt := 143) (by omega) (rng_lit 510 rfl) dX8_readPart_81 (by decide) (fun h81 => ?_) (fun h81 => ?_)
            · refine g_iconst (v := nI 0) dX8_readPart_143 (by decide) ?_
              refine g_iret rfl (by decide) dX8_readPart_144 ?_
              refine ⟨rpa, rwd, rat, rfo, rs, ?_⟩
              rw [sPart_no (by omega) (by omega) (by have z := cnt8_510 rs m3 m4; omega)]
              exact ⟨rfl, rfl⟩
            · refine g_aload_n (i := 0) (j := 1) dX8_readPart_84 rfl rfl ?_
              refine g_dup dX8_readPart_85 rfl ?_
              refine g_get fX8_84 rfl rfl dX8_readPart_86 ?_
              refine g_iconst (v := nI 1) dX8_readPart_89 (by decide) ?_
              refine n_iadd (a := p) (b := 1) dX8_readPart_90 ?_
              refine n_putI (ws' := wM (kM 0 ln (p + 1) lo ri la wk tw sf rl rr re wn tn rs ac sd ce sa ti) (kI 56 le) e2 e3 e4 e5 e6 (kR 10 rh) (kI 5 rpa) (kI 5 rwd) (kI 2 rat) (kI 2 rfo) e12 e13 e14 e15 e16 e17) fX8_84 fp_X8_3 rfl (by exact Nat.le_of_ble_eq_true rfl) dX8_readPart_91 rfl ?_
              refine g_aload_n (i := 0) (j := 1) dX8_readPart_94 rfl rfl ?_
              refine g_sipush (v := nI 510) dX8_readPart_95 (by decide) ?_
              refine g_aload_n (i := 0) (j := 1) dX8_readPart_98 rfl rfl ?_
              refine g_get fX8_118 rfl rfl dX8_readPart_99 ?_
              refine g_iconst (v := (-1)) dX8_readPart_102 (by decide) ?_
              refine g_ixor dX8_readPart_103 ?_
              refine g_iand dX8_readPart_104 ?_
              refine g_topi (y := nI (510 - rs)) (sof_and rs m3 m4) ?_
              by_cases h1 : (dg le ln (p + 1) 1 8 ∧ (510 - rs) / 2 ^ (le (p + 1) - 48) % 2 = 1)
              · have q2 := hle (p + 1)
                refine c_V (st1 := [.int (nI (le (p + 1) - 48))]) (ctX8_one_y (m := 510 - rs) hln hle (by omega) (by omega) (by assumption)) kX8_one lX8_107 (by decide) rfl rfl rfl rfl (by exact Nat.le_of_ble_eq_true rfl) dX8_readPart_105 rfl rfl ?_
                refine g_istore_n (i := 2) (lv' := [(2, .int (nI (le (p + 1) - 48))), (1, .int (nI (le p))), (0, .ref 0)]) dX8_readPart_108 rfl (by decide) rfl ?_
                refine g_aload_n (i := 0) (j := 2) dX8_readPart_109 rfl rfl ?_
                refine g_dup dX8_readPart_110 rfl ?_
                refine g_get fX8_118 rfl rfl dX8_readPart_111 ?_
                refine g_iload_n (i := 2) (j := 0) dX8_readPart_114 rfl rfl ?_
                refine g_bipush (v := (-9)) dX8_readPart_115 (by decide) ?_
                refine g_icmp_ne (tgt := 124) dX8_readPart_117 (by decide) (fun h117 => ?_) (fun h117 => ?_)
                · refine g_iconst (v := nI 1) dX8_readPart_124 (by decide) ?_
                  refine g_iload_n (i := 2) (j := 0) dX8_readPart_125 rfl rfl ?_
                  refine g_ishl dX8_readPart_126 ?_
                  refine g_ior dX8_readPart_127 ?_
                  refine g_topi (y := nI (rs + 2 ^ (le (p + 1) - 48))) (sof_or _ (by have := h1.1; unfold dg at this; omega) rs m3 ((sof_bit _ (by have := h1.1; unfold dg at this; omega) (by have := h1.1; unfold dg at this; omega) rs m3 m4).mp h1.2)) ?_
                  refine n_putI (ws' := wM (kM 0 ln ((p + 1) + 1) lo ri la wk tw sf rl rr re wn tn (rs + 2 ^ (le (p + 1) - 48)) ac sd ce sa ti) (kI 56 le) e2 e3 e4 e5 e6 (kR 10 rh) (kI 5 rpa) (kI 5 rwd) (kI 2 rat) (kI 2 rfo) e12 e13 e14 e15 e16 e17) fX8_118 fp_X8_21 rfl (by exact Nat.le_of_ble_eq_true rfl) dX8_readPart_128 rfl ?_
                  refine g_iload_n (i := 2) (j := 0) dX8_readPart_131 rfl rfl ?_
                  refine g_bipush (v := (-9)) dX8_readPart_132 (by decide) ?_
                  refine g_icmp_eq (tgt := 141) dX8_readPart_134 (by decide) (fun h134 => ?_) (fun h134 => ?_)
                  · exact absurd h134 (nI_n9 (by omega))
                  · refine g_iconst (v := nI 1) dX8_readPart_137 (by decide) ?_
                    refine g_goto (tgt := 142) dX8_readPart_138 (by decide) ?_
                    refine g_iret rfl (by decide) dX8_readPart_142 ?_
                    refine ⟨rpa, rwd, rat, rfo, rs + 2 ^ (le (p + 1) - 48), ?_⟩
                    have hcn : dg le ln (p + 1) 1 8 ∧ so (le (p + 1) - 48) = 0 := ⟨h1.1, by rw [m6 _ (by have := h1.1; unfold dg at this; omega), ← sof_bit _ (by have := h1.1; unfold dg at this; omega) (by have := h1.1; unfold dg at this; omega) rs m3 m4]; exact h1.2⟩
                    rw [sPart_S h71 (by have z := cnt8_510 rs m3 m4; omega), if_pos hcn]
                    exact ⟨rfl, mX_S hX (by have := h1.1; unfold dg at this; omega) (by have := h1.1; unfold dg at this; omega) hcn.2, rfl⟩
                · exact absurd h117 (nI_n9 (by omega))
              · have q2 := hle (p + 1)
                refine c_V (st1 := [.int (-9)]) (ctX8_one_n (m := 510 - rs) hln hle (by omega) (by omega) (by assumption)) kX8_one lX8_107 (by decide) rfl rfl rfl rfl (by exact Nat.le_of_ble_eq_true rfl) dX8_readPart_105 rfl rfl ?_
                refine g_istore_n (i := 2) (lv' := [(2, .int (-9)), (1, .int (nI (le p))), (0, .ref 0)]) dX8_readPart_108 rfl (by decide) rfl ?_
                refine g_aload_n (i := 0) (j := 2) dX8_readPart_109 rfl rfl ?_
                refine g_dup dX8_readPart_110 rfl ?_
                refine g_get fX8_118 rfl rfl dX8_readPart_111 ?_
                refine g_iload_n (i := 2) (j := 0) dX8_readPart_114 rfl rfl ?_
                refine g_bipush (v := (-9)) dX8_readPart_115 (by decide) ?_
                refine g_icmp_ne (tgt := 124) dX8_readPart_117 (by decide) (fun h117 => ?_) (fun h117 => ?_)
                · exact absurd rfl h117
                · refine g_iconst (v := nI 0) dX8_readPart_120 (by decide) ?_
                  refine g_goto (tgt := 127) dX8_readPart_121 (by decide) ?_
                  refine g_ior dX8_readPart_127 ?_
                  refine g_topi (y := nI rs) (or_0 rs) ?_
                  refine n_putI (ws' := wM (kM 0 ln (p + 1) lo ri la wk tw sf rl rr re wn tn rs ac sd ce sa ti) (kI 56 le) e2 e3 e4 e5 e6 (kR 10 rh) (kI 5 rpa) (kI 5 rwd) (kI 2 rat) (kI 2 rfo) e12 e13 e14 e15 e16 e17) fX8_118 fp_X8_21 rfl (by exact Nat.le_of_ble_eq_true rfl) dX8_readPart_128 rfl ?_
                  refine g_iload_n (i := 2) (j := 0) dX8_readPart_131 rfl rfl ?_
                  refine g_bipush (v := (-9)) dX8_readPart_132 (by decide) ?_
                  refine g_icmp_eq (tgt := 141) dX8_readPart_134 (by decide) (fun h134 => ?_) (fun h134 => ?_)
                  · refine g_iconst (v := nI 0) dX8_readPart_141 (by decide) ?_
                    refine g_iret rfl (by decide) dX8_readPart_142 ?_
                    refine ⟨rpa, rwd, rat, rfo, rs, ?_⟩
                    rw [sPart_S h71 (by have z := cnt8_510 rs m3 m4; omega), if_neg (fun z => h1 ⟨z.1, (sof_bit _ (by have := z.1; unfold dg at this; omega) (by have := z.1; unfold dg at this; omega) rs m3 m4).mpr (by rw [← m6 _ (by have := z.1; unfold dg at this; omega)]; exact z.2)⟩)]
                    exact ⟨rfl, rfl⟩
                  · exact absurd rfl h134
        · refine g_aload_n (i := 0) (j := 1) dX8_readPart_53 rfl rfl ?_
          refine g_dup dX8_readPart_54 rfl ?_
          refine g_get fX8_84 rfl rfl dX8_readPart_55 ?_
          refine g_iconst (v := nI 1) dX8_readPart_58 (by decide) ?_
          refine n_iadd (a := p) (b := 1) dX8_readPart_59 ?_
          refine n_putI (ws' := wM (kM 0 ln (p + 1) lo ri la wk tw sf rl rr re wn tn rs ac sd ce sa ti) (kI 56 le) e2 e3 e4 e5 e6 (kR 10 rh) (kI 5 rpa) (kI 5 rwd) (kI 2 rat) (kI 2 rfo) e12 e13 e14 e15 e16 e17) fX8_84 fp_X8_3 rfl (by exact Nat.le_of_ble_eq_true rfl) dX8_readPart_60 rfl ?_
          by_cases h1 : (dg le ln (p + 1) 1 8 ∧ frM rat tn / 2 ^ (le (p + 1) - 48) % 2 = 1)
          · skip
            by_cases h2 : dg le ln (p + 1 + 1) 1 4
            · skip
              refine g_aload_n (i := 0) (j := 1) dX8_readPart_63 rfl rfl ?_
              refine c_V (st1 := [.int (nI 1)]) (ctX8_rt_y  hln hle (by omega) (by omega) hra h1 h2) kX8_readTower lX8_115 (by decide) rfl rfl rfl rfl (by exact Nat.le_of_ble_eq_true rfl) dX8_readPart_64 rfl rfl ?_
              refine g_iret rfl (by decide) dX8_readPart_67 ?_
              refine ⟨rpa, rwd, va_up rat tn (le (p + 1) - 48), va_up rfo tn (le (p + 2) - 48), rs, ?_⟩
              have hcn : dg le ln (p + 1) 1 8 ∧ hoOf le tn tp (le (p + 1) - 48) = 0 := ⟨h1.1, (frM_bit (by omega) hok (fun t ht => (m2 t ht).1) (by have := h1.1; unfold dg at this; omega) (by have := h1.1; unfold dg at this; omega)).mp h1.2⟩
              rw [sPart_T h42 h50, if_pos hcn, if_pos h2]
              exact ⟨rfl, mX_T hX h50 hok hcn.2, rfl⟩
            · skip
              refine g_aload_n (i := 0) (j := 1) dX8_readPart_63 rfl rfl ?_
              refine c_V (st1 := [.int (nI 0)]) (ctX8_rt_n2  hln hle (by omega) (by omega) hra h1 h2) kX8_readTower lX8_115 (by decide) rfl rfl rfl rfl (by exact Nat.le_of_ble_eq_true rfl) dX8_readPart_64 rfl rfl ?_
              refine g_iret rfl (by decide) dX8_readPart_67 ?_
              refine ⟨rpa, rwd, rat, rfo, rs, ?_⟩
              rw [sPart_T h42 h50, if_pos ⟨h1.1, (frM_bit (by omega) hok (fun t ht => (m2 t ht).1) (by have := h1.1; unfold dg at this; omega) (by have := h1.1; unfold dg at this; omega)).mp h1.2⟩, if_neg h2]
              exact ⟨rfl, rfl⟩
          · skip
            refine g_aload_n (i := 0) (j := 1) dX8_readPart_63 rfl rfl ?_
            refine c_V (st1 := [.int (nI 0)]) (ctX8_rt_n1  hln hle (by omega) (by omega) hra h1) kX8_readTower lX8_115 (by decide) rfl rfl rfl rfl (by exact Nat.le_of_ble_eq_true rfl) dX8_readPart_64 rfl rfl ?_
            refine g_iret rfl (by decide) dX8_readPart_67 ?_
            refine ⟨rpa, rwd, rat, rfo, rs, ?_⟩
            rw [sPart_T h42 h50, if_neg (fun z => h1 ⟨z.1, (frM_bit (by omega) hok (fun t ht => (m2 t ht).1) (by have := z.1; unfold dg at this; omega) (by have := z.1; unfold dg at this; omega)).mpr z.2⟩)]
            exact ⟨rfl, rfl⟩
    · refine g_aload_n (i := 0) (j := 1) dX8_readPart_24 rfl rfl ?_
      refine g_dup dX8_readPart_25 rfl ?_
      refine g_get fX8_84 rfl rfl dX8_readPart_26 ?_
      refine g_iconst (v := nI 1) dX8_readPart_29 (by decide) ?_
      refine n_iadd (a := p) (b := 1) dX8_readPart_30 ?_
      refine n_putI (ws' := wM (kM 0 ln (p + 1) lo ri la wk tw sf rl rr re wn tn rs ac sd ce sa ti) (kI 56 le) e2 e3 e4 e5 e6 (kR 10 rh) (kI 5 rpa) (kI 5 rwd) (kI 2 rat) (kI 2 rfo) e12 e13 e14 e15 e16 e17) fX8_84 fp_X8_3 rfl (by exact Nat.le_of_ble_eq_true rfl) dX8_readPart_31 rfl ?_
      by_cases h1 : dg le ln (p + 1) 1 3
      · skip
        by_cases h2 : dg le ln (p + 1 + 1) 0 5
        · skip
          refine g_aload_n (i := 0) (j := 1) dX8_readPart_34 rfl rfl ?_
          refine c_V (st1 := [.int (nI 1)]) (ctX8_rw_y  hln hle (by omega) (by omega) h1 h2) kX8_readWalker lX8_111 (by decide) rfl rfl rfl rfl (by exact Nat.le_of_ble_eq_true rfl) dX8_readPart_35 rfl rfl ?_
          refine g_iret rfl (by decide) dX8_readPart_38 ?_
          refine ⟨va_up rpa wn (le (p + 1) - 48), va_up rwd wn (le (p + 2) - 48), rat, rfo, rs, ?_⟩
          rw [sPart_W h13 h21, if_pos h1, if_pos h2]
          exact ⟨rfl, mX_W hX, rfl⟩
        · skip
          refine g_aload_n (i := 0) (j := 1) dX8_readPart_34 rfl rfl ?_
          refine c_V (st1 := [.int (nI 0)]) (ctX8_rw_n2  hln hle (by omega) (by omega) h1 h2) kX8_readWalker lX8_111 (by decide) rfl rfl rfl rfl (by exact Nat.le_of_ble_eq_true rfl) dX8_readPart_35 rfl rfl ?_
          refine g_iret rfl (by decide) dX8_readPart_38 ?_
          refine ⟨rpa, rwd, rat, rfo, rs, ?_⟩
          rw [sPart_W h13 h21, if_pos h1, if_neg h2]
          exact ⟨rfl, rfl⟩
      · skip
        refine g_aload_n (i := 0) (j := 1) dX8_readPart_34 rfl rfl ?_
        refine c_V (st1 := [.int (nI 0)]) (ctX8_rw_n1  hln hle (by omega) (by omega) h1) kX8_readWalker lX8_111 (by decide) rfl rfl rfl rfl (by exact Nat.le_of_ble_eq_true rfl) dX8_readPart_35 rfl rfl ?_
        refine g_iret rfl (by decide) dX8_readPart_38 ?_
        refine ⟨rpa, rwd, rat, rfo, rs, ?_⟩
        rw [sPart_W h13 h21, if_neg h1]
        exact ⟨rfl, rfl⟩

theorem hP_stop {le : Nat → Nat} {ln i : Nat} (h : hP le ln i = i) (hn : ¬ hOK le ln i = true) : ∀ n, hP le ln (i + 1 + n) = i
  | 0 => by show hP le ln (i + 1) = i; rw [hP, if_neg (fun z => hn z.2), h]
  | n + 1 => by
    show hP le ln (i + 1 + n + 1) = i
    rw [hP, if_neg (fun z => by have := hP_stop h hn n; omega), hP_stop h hn n]
theorem hP_go {le : Nat → Nat} {ln i : Nat} (h : hP le ln i = i) (hn : hOK le ln i = true) : hP le ln (i + 1) = i + 1 := by rw [hP, if_pos ⟨h, hn⟩]
theorem hOK_f {le : Nat → Nat} {ln i lo hi : Nat} (h0 : i ≠ 0) (h1 : hLo i = lo) (h2 : hHi le i = hi) : hOK le ln i = true ↔ dg le ln i lo hi := by
  unfold hOK; rw [if_neg h0, decide_eq_true_eq, h1, h2]
theorem hLH {le : Nat → Nat} : ∀ i, 1 ≤ i → i ≤ 10 → hLo i = 0 ∧ hHi le i = 9
  | 1, _, _ => ⟨rfl, rfl⟩ | 2, _, _ => ⟨rfl, rfl⟩ | 3, _, _ => ⟨rfl, rfl⟩ | 4, _, _ => ⟨rfl, rfl⟩ | 5, _, _ => ⟨rfl, rfl⟩
  | 6, _, _ => ⟨rfl, rfl⟩ | 7, _, _ => ⟨rfl, rfl⟩ | 8, _, _ => ⟨rfl, rfl⟩ | 9, _, _ => ⟨rfl, rfl⟩ | 10, _, _ => ⟨rfl, rfl⟩
/-- the head as the model reads it -/
def hdOK (le : Nat → Nat) (rh : Nat → Int32) (rl rr re : Int32) : Prop := (∀ j, j < 10 → rh j = nI (le (1 + j) - 48)) ∧ rl = nI (10 * (le 11 - 48) + (le 12 - 48)) ∧ rr = nI (le 13 - 48) ∧ re = nI (le 14 - 48)
theorem lp_head2 {e2 e3 e4 e5 e6 e8 e9 e10 e11 e12 e13 e14 e15 e16 e17 : va_E} {ln lo ri la wk tw sf : Nat} {rl rr re : Int32} {rw rt rs ac : Nat} {sd : Int64} {ce sa ti : Nat} {le : Nat → Nat} (hln : ln ≤ 56) (hle : ∀ k, le k ≤ 255) {rh : Nat → Int32} (h11 : hP le ln 11 = 11) (hh : ∀ j, j < 10 → rh j = nI (le (1 + j) - 48)) : Go mX8_readHead 2 40 [(0, .ref 0)] [] (wM (kM 0 ln 11 lo ri la wk tw sf rl rr re rw rt rs ac sd ce sa ti) (kI 56 le) e2 e3 e4 e5 e6 (kR 10 rh) e8 e9 e10 e11 e12 e13 e14 e15 e16 e17) (fun v u => ∃ (rh2 : Nat → Int32) (rl2 rr2 re2 : Int32), ((hP le ln 15 = 15 → v = some (.int (nI 1)) ∧ hdOK le rh2 rl2 rr2 re2) ∧ (¬ hP le ln 15 = 15 → v = some (.int (nI 0)))) ∧ u = wM (kM 0 ln (hP le ln 15) lo ri la wk tw sf rl2 rr2 re2 rw rt rs ac sd ce sa ti) (kI 56 le) e2 e3 e4 e5 e6 (kR 10 rh2) e8 e9 e10 e11 e12 e13 e14 e15 e16 e17) := by
  have x10 := hP_lt le ln 11 h11
  have q11 := hle 11
  have q12 := hle 12
  have q13 := hle 13
  have q14 := hle 14
  have o11 : hOK le ln 11 = true ↔ dg le ln 11 0 4 := hOK_f (by omega) rfl rfl
  have o13 : hOK le ln 13 = true ↔ dg le ln 13 1 3 := hOK_f (by omega) rfl rfl
  have o14 : hOK le ln 14 = true ↔ dg le ln 14 0 9 := hOK_f (by omega) rfl rfl
  by_cases d11 : dg le ln 11 0 4
  · have x11 := d11.1
    have y11 := d11.2.1
    have h120 : hOK le ln 11 = true := o11.mpr d11
    have h12 : hP le ln 12 = 12 := hP_go h11 h120
    refine g_aload_n (i := 0) (j := 0) dX8_readHead_40 rfl rfl ?_
    refine g_iconst (v := nI 0) dX8_readHead_41 (by decide) ?_
    refine g_iconst (v := nI 4) dX8_readHead_42 (by decide) ?_
    refine c_V (st1 := [.int (nI (le 11 - 48))]) (ctX8_fig_y (lo0 := 0) (hi0 := 4) hln hle (by omega) (by omega) (by omega) (by assumption)) kX8_figure lX8_96 (by decide) rfl rfl rfl rfl (by exact Nat.le_of_ble_eq_true rfl) dX8_readHead_43 rfl rfl ?_
    refine g_istore_n (i := 1) (lv' := [(1, .int (nI (le 11 - 48))), (0, .ref 0)]) dX8_readHead_46 rfl (by decide) rfl ?_
    refine g_iload_n (i := 1) (j := 0) dX8_readHead_47 rfl rfl ?_
    refine g_bipush (v := (-9)) dX8_readHead_48 (by decide) ?_
    refine g_icmp_ne (tgt := 58) dX8_readHead_50 (by decide) (fun h50 => ?_) (fun h50 => ?_)
    · refine g_aload_n (i := 0) (j := 1) dX8_readHead_58 rfl rfl ?_
      refine g_iconst (v := nI 0) dX8_readHead_59 (by decide) ?_
      refine g_iload_n (i := 1) (j := 0) dX8_readHead_60 rfl rfl ?_
      refine g_iconst (v := nI 4) dX8_readHead_61 (by decide) ?_
      refine n_icmp_ne (tgt := 69) (by omega) (rng_lit 4 rfl) dX8_readHead_62 (by decide) (fun h62 => ?_) (fun h62 => ?_)
      · refine g_bipush (v := nI 9) dX8_readHead_69 (by decide) ?_
        have o12 : hOK le ln 12 = true ↔ dg le ln 12 0 9 := hOK_f (by omega) rfl (if_neg (by omega))
        by_cases d12 : dg le ln 12 0 9
        · have x12 := d12.1
          have y12 := d12.2.1
          have h130 : hOK le ln 12 = true := o12.mpr d12
          have h13 : hP le ln 13 = 13 := hP_go h12 h130
          refine c_V (st1 := [.int (nI (le 12 - 48))]) (ctX8_fig_y (lo0 := 0) (hi0 := 9) hln hle (by omega) (by omega) (by omega) (by assumption)) kX8_figure lX8_96 (by decide) rfl rfl rfl rfl (by exact Nat.le_of_ble_eq_true rfl) dX8_readHead_71 rfl rfl ?_
          refine g_istore_n (i := 2) (lv' := [(2, .int (nI (le 12 - 48))), (1, .int (nI (le 11 - 48))), (0, .ref 0)]) dX8_readHead_74 rfl (by decide) rfl ?_
          refine g_aload_n (i := 0) (j := 2) dX8_readHead_75 rfl rfl ?_
          refine g_bipush (v := nI 10) dX8_readHead_76 (by decide) ?_
          refine g_iload_n (i := 1) (j := 1) dX8_readHead_78 rfl rfl ?_
          refine n_imul (a := 10) (b := (le 11 - 48)) dX8_readHead_79 ?_
          refine g_iload_n (i := 2) (j := 0) dX8_readHead_80 rfl rfl ?_
          refine n_iadd (a := (10 * (le 11 - 48))) (b := (le 12 - 48)) dX8_readHead_81 ?_
          refine r_putI (ws' := wM (kM 0 ln 13 lo ri la wk tw sf (nI ((10 * (le 11 - 48)) + (le 12 - 48))) rr re rw rt rs ac sd ce sa ti) (kI 56 le) e2 e3 e4 e5 e6 (kR 10 rh) e8 e9 e10 e11 e12 e13 e14 e15 e16 e17) fX8_121 fp_X8_16 rfl (by exact Nat.le_of_ble_eq_true rfl) dX8_readHead_82 rfl ?_
          refine g_aload_n (i := 0) (j := 2) dX8_readHead_85 rfl rfl ?_
          refine g_iload_n (i := 2) (j := 0) dX8_readHead_86 rfl rfl ?_
          refine g_bipush (v := (-9)) dX8_readHead_87 (by decide) ?_
          refine g_icmp_ne (tgt := 97) dX8_readHead_89 (by decide) (fun h89 => ?_) (fun h89 => ?_)
          · by_cases d13 : dg le ln 13 1 3
            · have x13 := d13.1
              have y13 := d13.2.1
              have h140 : hOK le ln 13 = true := o13.mpr d13
              have h14 : hP le ln 14 = 14 := hP_go h13 h140
              refine g_aload_n (i := 0) (j := 2) dX8_readHead_97 rfl rfl ?_
              refine g_iconst (v := nI 1) dX8_readHead_98 (by decide) ?_
              refine g_iconst (v := nI 3) dX8_readHead_99 (by decide) ?_
              refine c_V (st1 := [.int (nI (le 13 - 48)), .ref 0]) (ctX8_fig_y (lo0 := 1) (hi0 := 3) hln hle (by omega) (by omega) (by omega) (by assumption)) kX8_figure lX8_96 (by decide) rfl rfl rfl rfl (by exact Nat.le_of_ble_eq_true rfl) dX8_readHead_100 rfl rfl ?_
              refine r_putI (ws' := wM (kM 0 ln 14 lo ri la wk tw sf (nI ((10 * (le 11 - 48)) + (le 12 - 48))) (nI (le 13 - 48)) re rw rt rs ac sd ce sa ti) (kI 56 le) e2 e3 e4 e5 e6 (kR 10 rh) e8 e9 e10 e11 e12 e13 e14 e15 e16 e17) fX8_124 fp_X8_17 rfl (by exact Nat.le_of_ble_eq_true rfl) dX8_readHead_103 rfl ?_
              refine g_aload_n (i := 0) (j := 2) dX8_readHead_106 rfl rfl ?_
              refine g_aload_n (i := 0) (j := 2) dX8_readHead_107 rfl rfl ?_
              refine g_get fX8_124 rfl rfl dX8_readHead_108 ?_
              refine g_bipush (v := (-9)) dX8_readHead_111 (by decide) ?_
              refine g_icmp_ne (tgt := 121) dX8_readHead_113 (by decide) (fun h113 => ?_) (fun h113 => ?_)
              · by_cases d14 : dg le ln 14 0 9
                · have x14 := d14.1
                  have y14 := d14.2.1
                  have h150 : hOK le ln 14 = true := o14.mpr d14
                  have h15 : hP le ln 15 = 15 := hP_go h14 h150
                  refine g_aload_n (i := 0) (j := 2) dX8_readHead_121 rfl rfl ?_
                  refine g_iconst (v := nI 0) dX8_readHead_122 (by decide) ?_
                  refine g_bipush (v := nI 9) dX8_readHead_123 (by decide) ?_
                  refine c_V (st1 := [.int (nI (le 14 - 48)), .ref 0]) (ctX8_fig_y (lo0 := 0) (hi0 := 9) hln hle (by omega) (by omega) (by omega) (by assumption)) kX8_figure lX8_96 (by decide) rfl rfl rfl rfl (by exact Nat.le_of_ble_eq_true rfl) dX8_readHead_125 rfl rfl ?_
                  refine r_putI (ws' := wM (kM 0 ln 15 lo ri la wk tw sf (nI ((10 * (le 11 - 48)) + (le 12 - 48))) (nI (le 13 - 48)) (nI (le 14 - 48)) rw rt rs ac sd ce sa ti) (kI 56 le) e2 e3 e4 e5 e6 (kR 10 rh) e8 e9 e10 e11 e12 e13 e14 e15 e16 e17) fX8_127 fp_X8_18 rfl (by exact Nat.le_of_ble_eq_true rfl) dX8_readHead_128 rfl ?_
                  refine g_aload_n (i := 0) (j := 2) dX8_readHead_131 rfl rfl ?_
                  refine g_get fX8_127 rfl rfl dX8_readHead_132 ?_
                  refine g_bipush (v := (-9)) dX8_readHead_135 (by decide) ?_
                  refine g_icmp_eq (tgt := 144) dX8_readHead_137 (by decide) (fun h137 => ?_) (fun h137 => ?_)
                  · exact absurd h137 (nI_n9 (by omega))
                  · refine g_iconst (v := nI 1) dX8_readHead_140 (by decide) ?_
                    refine g_goto (tgt := 145) dX8_readHead_141 (by decide) ?_
                    refine g_iret rfl (by decide) dX8_readHead_145 ?_
                    have h15 : hP le ln 15 = 15 := hP_go h14 (o14.mpr d14)
                    refine ⟨_, _, _, _, ?_, by rw [h15]⟩
                    exact ⟨fun _ => ⟨rfl, hh, rfl, rfl, rfl⟩, fun z => absurd h15 z⟩
                · skip
                  refine g_aload_n (i := 0) (j := 2) dX8_readHead_121 rfl rfl ?_
                  refine g_iconst (v := nI 0) dX8_readHead_122 (by decide) ?_
                  refine g_bipush (v := nI 9) dX8_readHead_123 (by decide) ?_
                  refine c_V (st1 := [.int (-9), .ref 0]) (ctX8_fig_n (lo0 := 0) (hi0 := 9) hln hle (by omega) (by omega) (by omega) (by assumption)) kX8_figure lX8_96 (by decide) rfl rfl rfl rfl (by exact Nat.le_of_ble_eq_true rfl) dX8_readHead_125 rfl rfl ?_
                  refine r_putI (ws' := wM (kM 0 ln 14 lo ri la wk tw sf (nI ((10 * (le 11 - 48)) + (le 12 - 48))) (nI (le 13 - 48)) (-9) rw rt rs ac sd ce sa ti) (kI 56 le) e2 e3 e4 e5 e6 (kR 10 rh) e8 e9 e10 e11 e12 e13 e14 e15 e16 e17) fX8_127 fp_X8_18 rfl (by exact Nat.le_of_ble_eq_true rfl) dX8_readHead_128 rfl ?_
                  refine g_aload_n (i := 0) (j := 2) dX8_readHead_131 rfl rfl ?_
                  refine g_get fX8_127 rfl rfl dX8_readHead_132 ?_
                  refine g_bipush (v := (-9)) dX8_readHead_135 (by decide) ?_
                  refine g_icmp_eq (tgt := 144) dX8_readHead_137 (by decide) (fun h137 => ?_) (fun h137 => ?_)
                  · refine g_iconst (v := nI 0) dX8_readHead_144 (by decide) ?_
                    refine g_iret rfl (by decide) dX8_readHead_145 ?_
                    have h15 : hP le ln 15 = 14 := hP_stop (i := 14) h14 (fun z => d14 (o14.mp z)) 0
                    refine ⟨_, _, _, _, ?_, by rw [h15]⟩
                    exact ⟨fun z => absurd z (by omega), fun _ => rfl⟩
                  · exact absurd rfl h137
              · exact absurd h113 (nI_n9 (by omega))
            · skip
              refine g_aload_n (i := 0) (j := 2) dX8_readHead_97 rfl rfl ?_
              refine g_iconst (v := nI 1) dX8_readHead_98 (by decide) ?_
              refine g_iconst (v := nI 3) dX8_readHead_99 (by decide) ?_
              refine c_V (st1 := [.int (-9), .ref 0]) (ctX8_fig_n (lo0 := 1) (hi0 := 3) hln hle (by omega) (by omega) (by omega) (by assumption)) kX8_figure lX8_96 (by decide) rfl rfl rfl rfl (by exact Nat.le_of_ble_eq_true rfl) dX8_readHead_100 rfl rfl ?_
              refine r_putI (ws' := wM (kM 0 ln 13 lo ri la wk tw sf (nI ((10 * (le 11 - 48)) + (le 12 - 48))) (-9) re rw rt rs ac sd ce sa ti) (kI 56 le) e2 e3 e4 e5 e6 (kR 10 rh) e8 e9 e10 e11 e12 e13 e14 e15 e16 e17) fX8_124 fp_X8_17 rfl (by exact Nat.le_of_ble_eq_true rfl) dX8_readHead_103 rfl ?_
              refine g_aload_n (i := 0) (j := 2) dX8_readHead_106 rfl rfl ?_
              refine g_aload_n (i := 0) (j := 2) dX8_readHead_107 rfl rfl ?_
              refine g_get fX8_124 rfl rfl dX8_readHead_108 ?_
              refine g_bipush (v := (-9)) dX8_readHead_111 (by decide) ?_
              refine g_icmp_ne (tgt := 121) dX8_readHead_113 (by decide) (fun h113 => ?_) (fun h113 => ?_)
              · exact absurd rfl h113
              · refine g_bipush (v := (-9)) dX8_readHead_116 (by decide) ?_
                refine g_goto (tgt := 128) dX8_readHead_118 (by decide) ?_
                refine r_putI (ws' := wM (kM 0 ln 13 lo ri la wk tw sf (nI ((10 * (le 11 - 48)) + (le 12 - 48))) (-9) (-9) rw rt rs ac sd ce sa ti) (kI 56 le) e2 e3 e4 e5 e6 (kR 10 rh) e8 e9 e10 e11 e12 e13 e14 e15 e16 e17) fX8_127 fp_X8_18 rfl (by exact Nat.le_of_ble_eq_true rfl) dX8_readHead_128 rfl ?_
                refine g_aload_n (i := 0) (j := 2) dX8_readHead_131 rfl rfl ?_
                refine g_get fX8_127 rfl rfl dX8_readHead_132 ?_
                refine g_bipush (v := (-9)) dX8_readHead_135 (by decide) ?_
                refine g_icmp_eq (tgt := 144) dX8_readHead_137 (by decide) (fun h137 => ?_) (fun h137 => ?_)
                · refine g_iconst (v := nI 0) dX8_readHead_144 (by decide) ?_
                  refine g_iret rfl (by decide) dX8_readHead_145 ?_
                  have h15 : hP le ln 15 = 13 := hP_stop (i := 13) h13 (fun z => d13 (o13.mp z)) 1
                  refine ⟨_, _, _, _, ?_, by rw [h15]⟩
                  exact ⟨fun z => absurd z (by omega), fun _ => rfl⟩
                · exact absurd rfl h137
          · exact absurd h89 (nI_n9 (by omega))
        · skip
          refine c_V (st1 := [.int (-9)]) (ctX8_fig_n (lo0 := 0) (hi0 := 9) hln hle (by omega) (by omega) (by omega) (by assumption)) kX8_figure lX8_96 (by decide) rfl rfl rfl rfl (by exact Nat.le_of_ble_eq_true rfl) dX8_readHead_71 rfl rfl ?_
          refine g_istore_n (i := 2) (lv' := [(2, .int (-9)), (1, .int (nI (le 11 - 48))), (0, .ref 0)]) dX8_readHead_74 rfl (by decide) rfl ?_
          refine g_aload_n (i := 0) (j := 2) dX8_readHead_75 rfl rfl ?_
          refine g_bipush (v := nI 10) dX8_readHead_76 (by decide) ?_
          refine g_iload_n (i := 1) (j := 1) dX8_readHead_78 rfl rfl ?_
          refine n_imul (a := 10) (b := (le 11 - 48)) dX8_readHead_79 ?_
          refine g_iload_n (i := 2) (j := 0) dX8_readHead_80 rfl rfl ?_
          refine g_iadd dX8_readHead_81 ?_
          refine r_putI (ws' := wM (kM 0 ln 12 lo ri la wk tw sf ((nI (10 * (le 11 - 48))) + (-9)) rr re rw rt rs ac sd ce sa ti) (kI 56 le) e2 e3 e4 e5 e6 (kR 10 rh) e8 e9 e10 e11 e12 e13 e14 e15 e16 e17) fX8_121 fp_X8_16 rfl (by exact Nat.le_of_ble_eq_true rfl) dX8_readHead_82 rfl ?_
          refine g_aload_n (i := 0) (j := 2) dX8_readHead_85 rfl rfl ?_
          refine g_iload_n (i := 2) (j := 0) dX8_readHead_86 rfl rfl ?_
          refine g_bipush (v := (-9)) dX8_readHead_87 (by decide) ?_
          refine g_icmp_ne (tgt := 97) dX8_readHead_89 (by decide) (fun h89 => ?_) (fun h89 => ?_)
          · exact absurd rfl h89
          · refine g_bipush (v := (-9)) dX8_readHead_92 (by decide) ?_
            refine g_goto (tgt := 103) dX8_readHead_94 (by decide) ?_
            refine r_putI (ws' := wM (kM 0 ln 12 lo ri la wk tw sf ((nI (10 * (le 11 - 48))) + (-9)) (-9) re rw rt rs ac sd ce sa ti) (kI 56 le) e2 e3 e4 e5 e6 (kR 10 rh) e8 e9 e10 e11 e12 e13 e14 e15 e16 e17) fX8_124 fp_X8_17 rfl (by exact Nat.le_of_ble_eq_true rfl) dX8_readHead_103 rfl ?_
            refine g_aload_n (i := 0) (j := 2) dX8_readHead_106 rfl rfl ?_
            refine g_aload_n (i := 0) (j := 2) dX8_readHead_107 rfl rfl ?_
            refine g_get fX8_124 rfl rfl dX8_readHead_108 ?_
            refine g_bipush (v := (-9)) dX8_readHead_111 (by decide) ?_
            refine g_icmp_ne (tgt := 121) dX8_readHead_113 (by decide) (fun h113 => ?_) (fun h113 => ?_)
            · exact absurd rfl h113
            · refine g_bipush (v := (-9)) dX8_readHead_116 (by decide) ?_
              refine g_goto (tgt := 128) dX8_readHead_118 (by decide) ?_
              refine r_putI (ws' := wM (kM 0 ln 12 lo ri la wk tw sf ((nI (10 * (le 11 - 48))) + (-9)) (-9) (-9) rw rt rs ac sd ce sa ti) (kI 56 le) e2 e3 e4 e5 e6 (kR 10 rh) e8 e9 e10 e11 e12 e13 e14 e15 e16 e17) fX8_127 fp_X8_18 rfl (by exact Nat.le_of_ble_eq_true rfl) dX8_readHead_128 rfl ?_
              refine g_aload_n (i := 0) (j := 2) dX8_readHead_131 rfl rfl ?_
              refine g_get fX8_127 rfl rfl dX8_readHead_132 ?_
              refine g_bipush (v := (-9)) dX8_readHead_135 (by decide) ?_
              refine g_icmp_eq (tgt := 144) dX8_readHead_137 (by decide) (fun h137 => ?_) (fun h137 => ?_)
              · refine g_iconst (v := nI 0) dX8_readHead_144 (by decide) ?_
                refine g_iret rfl (by decide) dX8_readHead_145 ?_
                have h15 : hP le ln 15 = 12 := hP_stop (i := 12) h12 (fun z => d12 (o12.mp z)) 2
                refine ⟨_, _, _, _, ?_, by rw [h15]⟩
                exact ⟨fun z => absurd z (by omega), fun _ => rfl⟩
              · exact absurd rfl h137
      · refine g_iconst (v := nI 0) dX8_readHead_65 (by decide) ?_
        refine g_goto (tgt := 71) dX8_readHead_66 (by decide) ?_
        have o12 : hOK le ln 12 = true ↔ dg le ln 12 0 0 := hOK_f (by omega) rfl (if_pos (by omega))
        by_cases d12 : dg le ln 12 0 0
        · have x12 := d12.1
          have y12 := d12.2.1
          have h130 : hOK le ln 12 = true := o12.mpr d12
          have h13 : hP le ln 13 = 13 := hP_go h12 h130
          refine c_V (st1 := [.int (nI (le 12 - 48))]) (ctX8_fig_y (lo0 := 0) (hi0 := 0) hln hle (by omega) (by omega) (by omega) (by assumption)) kX8_figure lX8_96 (by decide) rfl rfl rfl rfl (by exact Nat.le_of_ble_eq_true rfl) dX8_readHead_71 rfl rfl ?_
          refine g_istore_n (i := 2) (lv' := [(2, .int (nI (le 12 - 48))), (1, .int (nI (le 11 - 48))), (0, .ref 0)]) dX8_readHead_74 rfl (by decide) rfl ?_
          refine g_aload_n (i := 0) (j := 2) dX8_readHead_75 rfl rfl ?_
          refine g_bipush (v := nI 10) dX8_readHead_76 (by decide) ?_
          refine g_iload_n (i := 1) (j := 1) dX8_readHead_78 rfl rfl ?_
          refine n_imul (a := 10) (b := (le 11 - 48)) dX8_readHead_79 ?_
          refine g_iload_n (i := 2) (j := 0) dX8_readHead_80 rfl rfl ?_
          refine n_iadd (a := (10 * (le 11 - 48))) (b := (le 12 - 48)) dX8_readHead_81 ?_
          refine r_putI (ws' := wM (kM 0 ln 13 lo ri la wk tw sf (nI ((10 * (le 11 - 48)) + (le 12 - 48))) rr re rw rt rs ac sd ce sa ti) (kI 56 le) e2 e3 e4 e5 e6 (kR 10 rh) e8 e9 e10 e11 e12 e13 e14 e15 e16 e17) fX8_121 fp_X8_16 rfl (by exact Nat.le_of_ble_eq_true rfl) dX8_readHead_82 rfl ?_
          refine g_aload_n (i := 0) (j := 2) dX8_readHead_85 rfl rfl ?_
          refine g_iload_n (i := 2) (j := 0) dX8_readHead_86 rfl rfl ?_
          refine g_bipush (v := (-9)) dX8_readHead_87 (by decide) ?_
          refine g_icmp_ne (tgt := 97) dX8_readHead_89 (by decide) (fun h89 => ?_) (fun h89 => ?_)
          · by_cases d13 : dg le ln 13 1 3
            · have x13 := d13.1
              have y13 := d13.2.1
              have h140 : hOK le ln 13 = true := o13.mpr d13
              have h14 : hP le ln 14 = 14 := hP_go h13 h140
              refine g_aload_n (i := 0) (j := 2) dX8_readHead_97 rfl rfl ?_
              refine g_iconst (v := nI 1) dX8_readHead_98 (by decide) ?_
              refine g_iconst (v := nI 3) dX8_readHead_99 (by decide) ?_
              refine c_V (st1 := [.int (nI (le 13 - 48)), .ref 0]) (ctX8_fig_y (lo0 := 1) (hi0 := 3) hln hle (by omega) (by omega) (by omega) (by assumption)) kX8_figure lX8_96 (by decide) rfl rfl rfl rfl (by exact Nat.le_of_ble_eq_true rfl) dX8_readHead_100 rfl rfl ?_
              refine r_putI (ws' := wM (kM 0 ln 14 lo ri la wk tw sf (nI ((10 * (le 11 - 48)) + (le 12 - 48))) (nI (le 13 - 48)) re rw rt rs ac sd ce sa ti) (kI 56 le) e2 e3 e4 e5 e6 (kR 10 rh) e8 e9 e10 e11 e12 e13 e14 e15 e16 e17) fX8_124 fp_X8_17 rfl (by exact Nat.le_of_ble_eq_true rfl) dX8_readHead_103 rfl ?_
              refine g_aload_n (i := 0) (j := 2) dX8_readHead_106 rfl rfl ?_
              refine g_aload_n (i := 0) (j := 2) dX8_readHead_107 rfl rfl ?_
              refine g_get fX8_124 rfl rfl dX8_readHead_108 ?_
              refine g_bipush (v := (-9)) dX8_readHead_111 (by decide) ?_
              refine g_icmp_ne (tgt := 121) dX8_readHead_113 (by decide) (fun h113 => ?_) (fun h113 => ?_)
              · by_cases d14 : dg le ln 14 0 9
                · have x14 := d14.1
                  have y14 := d14.2.1
                  have h150 : hOK le ln 14 = true := o14.mpr d14
                  have h15 : hP le ln 15 = 15 := hP_go h14 h150
                  refine g_aload_n (i := 0) (j := 2) dX8_readHead_121 rfl rfl ?_
                  refine g_iconst (v := nI 0) dX8_readHead_122 (by decide) ?_
                  refine g_bipush (v := nI 9) dX8_readHead_123 (by decide) ?_
                  refine c_V (st1 := [.int (nI (le 14 - 48)), .ref 0]) (ctX8_fig_y (lo0 := 0) (hi0 := 9) hln hle (by omega) (by omega) (by omega) (by assumption)) kX8_figure lX8_96 (by decide) rfl rfl rfl rfl (by exact Nat.le_of_ble_eq_true rfl) dX8_readHead_125 rfl rfl ?_
                  refine r_putI (ws' := wM (kM 0 ln 15 lo ri la wk tw sf (nI ((10 * (le 11 - 48)) + (le 12 - 48))) (nI (le 13 - 48)) (nI (le 14 - 48)) rw rt rs ac sd ce sa ti) (kI 56 le) e2 e3 e4 e5 e6 (kR 10 rh) e8 e9 e10 e11 e12 e13 e14 e15 e16 e17) fX8_127 fp_X8_18 rfl (by exact Nat.le_of_ble_eq_true rfl) dX8_readHead_128 rfl ?_
                  refine g_aload_n (i := 0) (j := 2) dX8_readHead_131 rfl rfl ?_
                  refine g_get fX8_127 rfl rfl dX8_readHead_132 ?_
                  refine g_bipush (v := (-9)) dX8_readHead_135 (by decide) ?_
                  refine g_icmp_eq (tgt := 144) dX8_readHead_137 (by decide) (fun h137 => ?_) (fun h137 => ?_)
                  · exact absurd h137 (nI_n9 (by omega))
                  · refine g_iconst (v := nI 1) dX8_readHead_140 (by decide) ?_
                    refine g_goto (tgt := 145) dX8_readHead_141 (by decide) ?_
                    refine g_iret rfl (by decide) dX8_readHead_145 ?_
                    have h15 : hP le ln 15 = 15 := hP_go h14 (o14.mpr d14)
                    refine ⟨_, _, _, _, ?_, by rw [h15]⟩
                    exact ⟨fun _ => ⟨rfl, hh, rfl, rfl, rfl⟩, fun z => absurd h15 z⟩
                · skip
                  refine g_aload_n (i := 0) (j := 2) dX8_readHead_121 rfl rfl ?_
                  refine g_iconst (v := nI 0) dX8_readHead_122 (by decide) ?_
                  refine g_bipush (v := nI 9) dX8_readHead_123 (by decide) ?_
                  refine c_V (st1 := [.int (-9), .ref 0]) (ctX8_fig_n (lo0 := 0) (hi0 := 9) hln hle (by omega) (by omega) (by omega) (by assumption)) kX8_figure lX8_96 (by decide) rfl rfl rfl rfl (by exact Nat.le_of_ble_eq_true rfl) dX8_readHead_125 rfl rfl ?_
                  refine r_putI (ws' := wM (kM 0 ln 14 lo ri la wk tw sf (nI ((10 * (le 11 - 48)) + (le 12 - 48))) (nI (le 13 - 48)) (-9) rw rt rs ac sd ce sa ti) (kI 56 le) e2 e3 e4 e5 e6 (kR 10 rh) e8 e9 e10 e11 e12 e13 e14 e15 e16 e17) fX8_127 fp_X8_18 rfl (by exact Nat.le_of_ble_eq_true rfl) dX8_readHead_128 rfl ?_
                  refine g_aload_n (i := 0) (j := 2) dX8_readHead_131 rfl rfl ?_
                  refine g_get fX8_127 rfl rfl dX8_readHead_132 ?_
                  refine g_bipush (v := (-9)) dX8_readHead_135 (by decide) ?_
                  refine g_icmp_eq (tgt := 144) dX8_readHead_137 (by decide) (fun h137 => ?_) (fun h137 => ?_)
                  · refine g_iconst (v := nI 0) dX8_readHead_144 (by decide) ?_
                    refine g_iret rfl (by decide) dX8_readHead_145 ?_
                    have h15 : hP le ln 15 = 14 := hP_stop (i := 14) h14 (fun z => d14 (o14.mp z)) 0
                    refine ⟨_, _, _, _, ?_, by rw [h15]⟩
                    exact ⟨fun z => absurd z (by omega), fun _ => rfl⟩
                  · exact absurd rfl h137
              · exact absurd h113 (nI_n9 (by omega))
            · skip
              refine g_aload_n (i := 0) (j := 2) dX8_readHead_97 rfl rfl ?_
              refine g_iconst (v := nI 1) dX8_readHead_98 (by decide) ?_
              refine g_iconst (v := nI 3) dX8_readHead_99 (by decide) ?_
              refine c_V (st1 := [.int (-9), .ref 0]) (ctX8_fig_n (lo0 := 1) (hi0 := 3) hln hle (by omega) (by omega) (by omega) (by assumption)) kX8_figure lX8_96 (by decide) rfl rfl rfl rfl (by exact Nat.le_of_ble_eq_true rfl) dX8_readHead_100 rfl rfl ?_
              refine r_putI (ws' := wM (kM 0 ln 13 lo ri la wk tw sf (nI ((10 * (le 11 - 48)) + (le 12 - 48))) (-9) re rw rt rs ac sd ce sa ti) (kI 56 le) e2 e3 e4 e5 e6 (kR 10 rh) e8 e9 e10 e11 e12 e13 e14 e15 e16 e17) fX8_124 fp_X8_17 rfl (by exact Nat.le_of_ble_eq_true rfl) dX8_readHead_103 rfl ?_
              refine g_aload_n (i := 0) (j := 2) dX8_readHead_106 rfl rfl ?_
              refine g_aload_n (i := 0) (j := 2) dX8_readHead_107 rfl rfl ?_
              refine g_get fX8_124 rfl rfl dX8_readHead_108 ?_
              refine g_bipush (v := (-9)) dX8_readHead_111 (by decide) ?_
              refine g_icmp_ne (tgt := 121) dX8_readHead_113 (by decide) (fun h113 => ?_) (fun h113 => ?_)
              · exact absurd rfl h113
              · refine g_bipush (v := (-9)) dX8_readHead_116 (by decide) ?_
                refine g_goto (tgt := 128) dX8_readHead_118 (by decide) ?_
                refine r_putI (ws' := wM (kM 0 ln 13 lo ri la wk tw sf (nI ((10 * (le 11 - 48)) + (le 12 - 48))) (-9) (-9) rw rt rs ac sd ce sa ti) (kI 56 le) e2 e3 e4 e5 e6 (kR 10 rh) e8 e9 e10 e11 e12 e13 e14 e15 e16 e17) fX8_127 fp_X8_18 rfl (by exact Nat.le_of_ble_eq_true rfl) dX8_readHead_128 rfl ?_
                refine g_aload_n (i := 0) (j := 2) dX8_readHead_131 rfl rfl ?_
                refine g_get fX8_127 rfl rfl dX8_readHead_132 ?_
                refine g_bipush (v := (-9)) dX8_readHead_135 (by decide) ?_
                refine g_icmp_eq (tgt := 144) dX8_readHead_137 (by decide) (fun h137 => ?_) (fun h137 => ?_)
                · refine g_iconst (v := nI 0) dX8_readHead_144 (by decide) ?_
                  refine g_iret rfl (by decide) dX8_readHead_145 ?_
                  have h15 : hP le ln 15 = 13 := hP_stop (i := 13) h13 (fun z => d13 (o13.mp z)) 1
                  refine ⟨_, _, _, _, ?_, by rw [h15]⟩
                  exact ⟨fun z => absurd z (by omega), fun _ => rfl⟩
                · exact absurd rfl h137
          · exact absurd h89 (nI_n9 (by omega))
        · skip
          refine c_V (st1 := [.int (-9)]) (ctX8_fig_n (lo0 := 0) (hi0 := 0) hln hle (by omega) (by omega) (by omega) (by assumption)) kX8_figure lX8_96 (by decide) rfl rfl rfl rfl (by exact Nat.le_of_ble_eq_true rfl) dX8_readHead_71 rfl rfl ?_
          refine g_istore_n (i := 2) (lv' := [(2, .int (-9)), (1, .int (nI (le 11 - 48))), (0, .ref 0)]) dX8_readHead_74 rfl (by decide) rfl ?_
          refine g_aload_n (i := 0) (j := 2) dX8_readHead_75 rfl rfl ?_
          refine g_bipush (v := nI 10) dX8_readHead_76 (by decide) ?_
          refine g_iload_n (i := 1) (j := 1) dX8_readHead_78 rfl rfl ?_
          refine n_imul (a := 10) (b := (le 11 - 48)) dX8_readHead_79 ?_
          refine g_iload_n (i := 2) (j := 0) dX8_readHead_80 rfl rfl ?_
          refine g_iadd dX8_readHead_81 ?_
          refine r_putI (ws' := wM (kM 0 ln 12 lo ri la wk tw sf ((nI (10 * (le 11 - 48))) + (-9)) rr re rw rt rs ac sd ce sa ti) (kI 56 le) e2 e3 e4 e5 e6 (kR 10 rh) e8 e9 e10 e11 e12 e13 e14 e15 e16 e17) fX8_121 fp_X8_16 rfl (by exact Nat.le_of_ble_eq_true rfl) dX8_readHead_82 rfl ?_
          refine g_aload_n (i := 0) (j := 2) dX8_readHead_85 rfl rfl ?_
          refine g_iload_n (i := 2) (j := 0) dX8_readHead_86 rfl rfl ?_
          refine g_bipush (v := (-9)) dX8_readHead_87 (by decide) ?_
          refine g_icmp_ne (tgt := 97) dX8_readHead_89 (by decide) (fun h89 => ?_) (fun h89 => ?_)
          · exact absurd rfl h89
          · refine g_bipush (v := (-9)) dX8_readHead_92 (by decide) ?_
            refine g_goto (tgt := 103) dX8_readHead_94 (by decide) ?_
            refine r_putI (ws' := wM (kM 0 ln 12 lo ri la wk tw sf ((nI (10 * (le 11 - 48))) + (-9)) (-9) re rw rt rs ac sd ce sa ti) (kI 56 le) e2 e3 e4 e5 e6 (kR 10 rh) e8 e9 e10 e11 e12 e13 e14 e15 e16 e17) fX8_124 fp_X8_17 rfl (by exact Nat.le_of_ble_eq_true rfl) dX8_readHead_103 rfl ?_
            refine g_aload_n (i := 0) (j := 2) dX8_readHead_106 rfl rfl ?_
            refine g_aload_n (i := 0) (j := 2) dX8_readHead_107 rfl rfl ?_
            refine g_get fX8_124 rfl rfl dX8_readHead_108 ?_
            refine g_bipush (v := (-9)) dX8_readHead_111 (by decide) ?_
            refine g_icmp_ne (tgt := 121) dX8_readHead_113 (by decide) (fun h113 => ?_) (fun h113 => ?_)
            · exact absurd rfl h113
            · refine g_bipush (v := (-9)) dX8_readHead_116 (by decide) ?_
              refine g_goto (tgt := 128) dX8_readHead_118 (by decide) ?_
              refine r_putI (ws' := wM (kM 0 ln 12 lo ri la wk tw sf ((nI (10 * (le 11 - 48))) + (-9)) (-9) (-9) rw rt rs ac sd ce sa ti) (kI 56 le) e2 e3 e4 e5 e6 (kR 10 rh) e8 e9 e10 e11 e12 e13 e14 e15 e16 e17) fX8_127 fp_X8_18 rfl (by exact Nat.le_of_ble_eq_true rfl) dX8_readHead_128 rfl ?_
              refine g_aload_n (i := 0) (j := 2) dX8_readHead_131 rfl rfl ?_
              refine g_get fX8_127 rfl rfl dX8_readHead_132 ?_
              refine g_bipush (v := (-9)) dX8_readHead_135 (by decide) ?_
              refine g_icmp_eq (tgt := 144) dX8_readHead_137 (by decide) (fun h137 => ?_) (fun h137 => ?_)
              · refine g_iconst (v := nI 0) dX8_readHead_144 (by decide) ?_
                refine g_iret rfl (by decide) dX8_readHead_145 ?_
                have h15 : hP le ln 15 = 12 := hP_stop (i := 12) h12 (fun z => d12 (o12.mp z)) 2
                refine ⟨_, _, _, _, ?_, by rw [h15]⟩
                exact ⟨fun z => absurd z (by omega), fun _ => rfl⟩
              · exact absurd rfl h137
    · exact absurd h50 (nI_n9 (by omega))
  · skip
    refine g_aload_n (i := 0) (j := 0) dX8_readHead_40 rfl rfl ?_
    refine g_iconst (v := nI 0) dX8_readHead_41 (by decide) ?_
    refine g_iconst (v := nI 4) dX8_readHead_42 (by decide) ?_
    refine c_V (st1 := [.int (-9)]) (ctX8_fig_n (lo0 := 0) (hi0 := 4) hln hle (by omega) (by omega) (by omega) (by assumption)) kX8_figure lX8_96 (by decide) rfl rfl rfl rfl (by exact Nat.le_of_ble_eq_true rfl) dX8_readHead_43 rfl rfl ?_
    refine g_istore_n (i := 1) (lv' := [(1, .int (-9)), (0, .ref 0)]) dX8_readHead_46 rfl (by decide) rfl ?_
    refine g_iload_n (i := 1) (j := 0) dX8_readHead_47 rfl rfl ?_
    refine g_bipush (v := (-9)) dX8_readHead_48 (by decide) ?_
    refine g_icmp_ne (tgt := 58) dX8_readHead_50 (by decide) (fun h50 => ?_) (fun h50 => ?_)
    · exact absurd rfl h50
    · refine g_bipush (v := (-9)) dX8_readHead_53 (by decide) ?_
      refine g_goto (tgt := 74) dX8_readHead_55 (by decide) ?_
      refine g_istore_n (i := 2) (lv' := [(2, .int (-9)), (1, .int (-9)), (0, .ref 0)]) dX8_readHead_74 rfl (by decide) rfl ?_
      refine g_aload_n (i := 0) (j := 2) dX8_readHead_75 rfl rfl ?_
      refine g_bipush (v := nI 10) dX8_readHead_76 (by decide) ?_
      refine g_iload_n (i := 1) (j := 1) dX8_readHead_78 rfl rfl ?_
      refine g_imul dX8_readHead_79 ?_
      refine g_iload_n (i := 2) (j := 0) dX8_readHead_80 rfl rfl ?_
      refine g_iadd dX8_readHead_81 ?_
      refine r_putI (ws' := wM (kM 0 ln 11 lo ri la wk tw sf (((nI 10) * (-9)) + (-9)) rr re rw rt rs ac sd ce sa ti) (kI 56 le) e2 e3 e4 e5 e6 (kR 10 rh) e8 e9 e10 e11 e12 e13 e14 e15 e16 e17) fX8_121 fp_X8_16 rfl (by exact Nat.le_of_ble_eq_true rfl) dX8_readHead_82 rfl ?_
      refine g_aload_n (i := 0) (j := 2) dX8_readHead_85 rfl rfl ?_
      refine g_iload_n (i := 2) (j := 0) dX8_readHead_86 rfl rfl ?_
      refine g_bipush (v := (-9)) dX8_readHead_87 (by decide) ?_
      refine g_icmp_ne (tgt := 97) dX8_readHead_89 (by decide) (fun h89 => ?_) (fun h89 => ?_)
      · exact absurd rfl h89
      · refine g_bipush (v := (-9)) dX8_readHead_92 (by decide) ?_
        refine g_goto (tgt := 103) dX8_readHead_94 (by decide) ?_
        refine r_putI (ws' := wM (kM 0 ln 11 lo ri la wk tw sf (((nI 10) * (-9)) + (-9)) (-9) re rw rt rs ac sd ce sa ti) (kI 56 le) e2 e3 e4 e5 e6 (kR 10 rh) e8 e9 e10 e11 e12 e13 e14 e15 e16 e17) fX8_124 fp_X8_17 rfl (by exact Nat.le_of_ble_eq_true rfl) dX8_readHead_103 rfl ?_
        refine g_aload_n (i := 0) (j := 2) dX8_readHead_106 rfl rfl ?_
        refine g_aload_n (i := 0) (j := 2) dX8_readHead_107 rfl rfl ?_
        refine g_get fX8_124 rfl rfl dX8_readHead_108 ?_
        refine g_bipush (v := (-9)) dX8_readHead_111 (by decide) ?_
        refine g_icmp_ne (tgt := 121) dX8_readHead_113 (by decide) (fun h113 => ?_) (fun h113 => ?_)
        · exact absurd rfl h113
        · refine g_bipush (v := (-9)) dX8_readHead_116 (by decide) ?_
          refine g_goto (tgt := 128) dX8_readHead_118 (by decide) ?_
          refine r_putI (ws' := wM (kM 0 ln 11 lo ri la wk tw sf (((nI 10) * (-9)) + (-9)) (-9) (-9) rw rt rs ac sd ce sa ti) (kI 56 le) e2 e3 e4 e5 e6 (kR 10 rh) e8 e9 e10 e11 e12 e13 e14 e15 e16 e17) fX8_127 fp_X8_18 rfl (by exact Nat.le_of_ble_eq_true rfl) dX8_readHead_128 rfl ?_
          refine g_aload_n (i := 0) (j := 2) dX8_readHead_131 rfl rfl ?_
          refine g_get fX8_127 rfl rfl dX8_readHead_132 ?_
          refine g_bipush (v := (-9)) dX8_readHead_135 (by decide) ?_
          refine g_icmp_eq (tgt := 144) dX8_readHead_137 (by decide) (fun h137 => ?_) (fun h137 => ?_)
          · refine g_iconst (v := nI 0) dX8_readHead_144 (by decide) ?_
            refine g_iret rfl (by decide) dX8_readHead_145 ?_
            have h15 : hP le ln 15 = 11 := hP_stop (i := 11) h11 (fun z => d11 (o11.mp z)) 3
            refine ⟨_, _, _, _, ?_, by rw [h15]⟩
            exact ⟨fun z => absurd z (by omega), fun _ => rfl⟩
          · exact absurd rfl h137

theorem lp_head1 {e2 e3 e4 e5 e6 e8 e9 e10 e11 e12 e13 e14 e15 e16 e17 : va_E} {ln lo ri la wk tw sf : Nat} {rl rr re : Int32} {rw rt rs ac : Nat} {sd : Int64} {ce sa ti : Nat} {le : Nat → Nat} (hln : ln ≤ 56) (hle : ∀ k, le k ≤ 255) : ∀ (n i : Nat) (rh : Nat → Int32), i + n = 10 → hP le ln (i + 1) = i + 1 → (∀ j, j < i → rh j = nI (le (1 + j) - 48)) → Go mX8_readHead 2 2 [(0, .ref 0), (1, .int (nI i))] [] (wM (kM 0 ln (i + 1) lo ri la wk tw sf rl rr re rw rt rs ac sd ce sa ti) (kI 56 le) e2 e3 e4 e5 e6 (kR 10 rh) e8 e9 e10 e11 e12 e13 e14 e15 e16 e17) (fun v u => ∃ (rh2 : Nat → Int32) (rl2 rr2 re2 : Int32), ((hP le ln 15 = 15 → v = some (.int (nI 1)) ∧ hdOK le rh2 rl2 rr2 re2) ∧ (¬ hP le ln 15 = 15 → v = some (.int (nI 0)))) ∧ u = wM (kM 0 ln (hP le ln 15) lo ri la wk tw sf rl2 rr2 re2 rw rt rs ac sd ce sa ti) (kI 56 le) e2 e3 e4 e5 e6 (kR 10 rh2) e8 e9 e10 e11 e12 e13 e14 e15 e16 e17) := by
  intro n
  induction n with
  | zero =>
    intro i rh hi h1 hh
    obtain rfl : i = 10 := by omega
    refine g_iload_n (i := 1) (j := 1) dX8_readHead_2 rfl rfl ?_
    refine g_bipush (v := nI 10) dX8_readHead_3 (by decide) ?_
    refine n_icmp_ge (tgt := 40) (rng_lit 10 rfl) (rng_lit 10 rfl) dX8_readHead_5 (by decide) (fun h5 => ?_) (fun h5 => ?_)
    · refine g_lv [0] rfl ?_
      exact lp_head2 hln hle h1 hh
    · exact absurd h5 (by decide)

  | succ n ih =>
    intro i rh hi h1 hh
    have x0 := hP_lt le ln (i + 1) h1
    have q1 := hle (i + 1)
    have oi : hOK le ln (i + 1) = true ↔ dg le ln (i + 1) 0 9 := hOK_f (by omega) (hLH (le := le) (i + 1) (by omega) (by omega)).1 (hLH (i + 1) (by omega) (by omega)).2
    refine g_iload_n (i := 1) (j := 1) dX8_readHead_2 rfl rfl ?_
    refine g_bipush (v := nI 10) dX8_readHead_3 (by decide) ?_
    refine n_icmp_ge (tgt := 40) (by omega) (rng_lit 10 rfl) dX8_readHead_5 (by decide) (fun h5 => ?_) (fun h5 => ?_)
    · exfalso; omega
    · by_cases di : dg le ln (i + 1) 0 9
      · have xi := di.1
        have yi := di.2.1
        refine g_aload_n (i := 0) (j := 0) dX8_readHead_8 rfl rfl ?_
        refine g_get fX8_32 rfl rfl dX8_readHead_9 ?_
        refine g_iload_n (i := 1) (j := 1) dX8_readHead_12 rfl rfl ?_
        refine g_aload_n (i := 0) (j := 0) dX8_readHead_13 rfl rfl ?_
        refine g_iconst (v := nI 0) dX8_readHead_14 (by decide) ?_
        refine g_bipush (v := nI 9) dX8_readHead_15 (by decide) ?_
        refine c_V (st1 := [.int (nI (le (i + 1) - 48)), .int (nI i), .ref 7]) (ctX8_fig_y (lo0 := 0) (hi0 := 9) hln hle (by omega) (by omega) (by omega) (by assumption)) kX8_figure lX8_96 (by decide) rfl rfl rfl rfl (by exact Nat.le_of_ble_eq_true rfl) dX8_readHead_17 rfl rfl ?_
        refine r_iast (x := i) (ws' := wM (kM 0 ln ((i + 1) + 1) lo ri la wk tw sf rl rr re rw rt rs ac sd ce sa ti) (kI 56 le) e2 e3 e4 e5 e6 (kR 10 (upd rh i (nI (le (i + 1) - 48)))) e8 e9 e10 e11 e12 e13 e14 e15 e16 e17) rfl (by omega) (rng_lit 10 rfl) dX8_readHead_20 rfl ?_
        refine g_aload_n (i := 0) (j := 0) dX8_readHead_21 rfl rfl ?_
        refine g_get fX8_32 rfl rfl dX8_readHead_22 ?_
        refine g_iload_n (i := 1) (j := 1) dX8_readHead_25 rfl rfl ?_
        refine r_iald (x := i) rfl (by omega) (rng_lit 10 rfl) dX8_readHead_26 ?_
        refine g_topi (y := nI (le (i + 1) - 48)) pk_us ?_
        refine g_bipush (v := (-9)) dX8_readHead_27 (by decide) ?_
        refine g_icmp_ne (tgt := 34) dX8_readHead_29 (by decide) (fun h29 => ?_) (fun h29 => ?_)
        · refine n_inc (x := i) (j := 1) (lv' := [(1, .int (nI (i + 1))), (0, .ref 0)]) dX8_readHead_34 rfl (by decide) rfl ?_
          refine g_goto (tgt := 2) dX8_readHead_37 (by decide) ?_
          refine g_lv [1, 0] rfl ?_
          refine ih (i + 1) _ (by omega) (hP_go h1 (oi.mpr di)) (fun j hj => ?_)
          by_cases e : j = i
          · subst e; rw [pk_us, Nat.add_comm 1 j]
          · rw [pk_un e]; exact hh j (by omega)
        · exact absurd h29 (nI_n9 (by omega))
      · skip
        refine g_aload_n (i := 0) (j := 0) dX8_readHead_8 rfl rfl ?_
        refine g_get fX8_32 rfl rfl dX8_readHead_9 ?_
        refine g_iload_n (i := 1) (j := 1) dX8_readHead_12 rfl rfl ?_
        refine g_aload_n (i := 0) (j := 0) dX8_readHead_13 rfl rfl ?_
        refine g_iconst (v := nI 0) dX8_readHead_14 (by decide) ?_
        refine g_bipush (v := nI 9) dX8_readHead_15 (by decide) ?_
        refine c_V (st1 := [.int (-9), .int (nI i), .ref 7]) (ctX8_fig_n (lo0 := 0) (hi0 := 9) hln hle (by omega) (by omega) (by omega) (by assumption)) kX8_figure lX8_96 (by decide) rfl rfl rfl rfl (by exact Nat.le_of_ble_eq_true rfl) dX8_readHead_17 rfl rfl ?_
        refine r_iast (x := i) (ws' := wM (kM 0 ln (i + 1) lo ri la wk tw sf rl rr re rw rt rs ac sd ce sa ti) (kI 56 le) e2 e3 e4 e5 e6 (kR 10 (upd rh i (-9))) e8 e9 e10 e11 e12 e13 e14 e15 e16 e17) rfl (by omega) (rng_lit 10 rfl) dX8_readHead_20 rfl ?_
        refine g_aload_n (i := 0) (j := 0) dX8_readHead_21 rfl rfl ?_
        refine g_get fX8_32 rfl rfl dX8_readHead_22 ?_
        refine g_iload_n (i := 1) (j := 1) dX8_readHead_25 rfl rfl ?_
        refine r_iald (x := i) rfl (by omega) (rng_lit 10 rfl) dX8_readHead_26 ?_
        refine g_topi (y := (-9)) pk_us ?_
        refine g_bipush (v := (-9)) dX8_readHead_27 (by decide) ?_
        refine g_icmp_ne (tgt := 34) dX8_readHead_29 (by decide) (fun h29 => ?_) (fun h29 => ?_)
        · exact absurd rfl h29
        · refine g_iconst (v := nI 0) dX8_readHead_32 (by decide) ?_
          refine g_iret rfl (by decide) dX8_readHead_33 ?_
          have h15 : hP le ln 15 = i + 1 := by have z := hP_stop h1 (fun z => di (oi.mp z)) (14 - (i + 1)); rw [show i + 1 + 1 + (14 - (i + 1)) = 15 by omega] at z; exact z
          refine ⟨_, _, _, _, ?_, by rw [h15]⟩
          exact ⟨fun z => absurd z (by omega), fun _ => rfl⟩

theorem ctX8_readHead {e2 e3 e4 e5 e6 e8 e9 e10 e11 e12 e13 e14 e15 e16 e17 : va_E} {ln lo ri la wk tw sf : Nat} {rl rr re : Int32} {rw rt rs ac : Nat} {sd : Int64} {ce sa ti : Nat} {rh : Nat → Int32} {le : Nat → Nat} (hln : ln ≤ 56) (hle : ∀ k, le k ≤ 255) (h1 : hP le ln 1 = 1) : Ct mX8_readHead 2 [.ref 0] (wM (kM 0 ln 1 lo ri la wk tw sf rl rr re rw rt rs ac sd ce sa ti) (kI 56 le) e2 e3 e4 e5 e6 (kR 10 rh) e8 e9 e10 e11 e12 e13 e14 e15 e16 e17) (fun v u => ∃ (rh2 : Nat → Int32) (rl2 rr2 re2 : Int32), ((hP le ln 15 = 15 → v = some (.int (nI 1)) ∧ hdOK le rh2 rl2 rr2 re2) ∧ (¬ hP le ln 15 = 15 → v = some (.int (nI 0)))) ∧ u = wM (kM 0 ln (hP le ln 15) lo ri la wk tw sf rl2 rr2 re2 rw rt rs ac sd ce sa ti) (kI 56 le) e2 e3 e4 e5 e6 (kR 10 rh2) e8 e9 e10 e11 e12 e13 e14 e15 e16 e17) := by
  refine Ct.of (by decide) (by exact Nat.le_of_ble_eq_true rfl) ?_
  show Go mX8_readHead 2 0 [(0, .ref 0)] [] (wM (kM 0 ln 1 lo ri la wk tw sf rl rr re rw rt rs ac sd ce sa ti) (kI 56 le) e2 e3 e4 e5 e6 (kR 10 rh) e8 e9 e10 e11 e12 e13 e14 e15 e16 e17) (fun v u => ∃ (rh2 : Nat → Int32) (rl2 rr2 re2 : Int32), ((hP le ln 15 = 15 → v = some (.int (nI 1)) ∧ hdOK le rh2 rl2 rr2 re2) ∧ (¬ hP le ln 15 = 15 → v = some (.int (nI 0)))) ∧ u = wM (kM 0 ln (hP le ln 15) lo ri la wk tw sf rl2 rr2 re2 rw rt rs ac sd ce sa ti) (kI 56 le) e2 e3 e4 e5 e6 (kR 10 rh2) e8 e9 e10 e11 e12 e13 e14 e15 e16 e17)
  refine g_iconst (v := nI 0) dX8_readHead_0 (by decide) ?_
  refine g_istore_n (i := 1) (lv' := [(1, .int (nI 0)), (0, .ref 0)]) dX8_readHead_1 rfl (by decide) rfl ?_
  refine g_lv [1, 0] rfl ?_
  exact lp_head1 hln hle 10 0 rh (by omega) h1 (fun j hj => absurd hj (by omega))

theorem lp_mbay {e2 e3 e4 e5 e6 e12 e13 e14 e15 e16 e17 : va_E} {ln lo ri la wk tw sf : Nat} {rl rr re : Int32} {ac : Nat} {sd : Int64} {ce sa ti : Nat} {rh : Nat → Int32} {le : Nat → Nat} (hln : ln ≤ 56) (hle : ∀ k, le k ≤ 255) : ∀ (n : Nat) (p wn : Nat) (wp : Nat → Nat) (tn : Nat) (tp : Nat → Nat) (sc : Nat) (so : Nat → Nat) (rpa rwd rat rfo : Nat → Nat) (rs : Nat), ln ≤ p + n → xOK le ln p wn wp tn tp sc so → mX le wn wp tn tp sc so rpa rwd rat rfo rs → Go mX8_readBay 4 57 [(0, .ref 0)] [] (wM (kM 0 ln p lo ri la wk tw sf rl rr re wn tn rs ac sd ce sa ti) (kI 56 le) e2 e3 e4 e5 e6 (kR 10 rh) (kI 5 rpa) (kI 5 rwd) (kI 2 rat) (kI 2 rfo) e12 e13 e14 e15 e16 e17) (fun v u => v = some (.int (rF (sParts le ln n p wn wp tn tp sc so))) ∧ ∃ (pl2 rw2 rt2 rs2 : Nat) (rpa2 rwd2 rat2 rfo2 : Nat → Nat), (∀ X, (sParts le ln n p wn wp tn tp sc so) = .inr X → rw2 = X.2.1 ∧ rt2 = X.2.2.2.1 ∧ mX le X.2.1 X.2.2.1 X.2.2.2.1 X.2.2.2.2.1 X.2.2.2.2.2.1 X.2.2.2.2.2.2 rpa2 rwd2 rat2 rfo2 rs2) ∧ u = wM (kM 0 ln pl2 lo ri la wk tw sf rl rr re rw2 rt2 rs2 ac sd ce sa ti) (kI 56 le) e2 e3 e4 e5 e6 (kR 10 rh) (kI 5 rpa2) (kI 5 rwd2) (kI 2 rat2) (kI 2 rfo2) e12 e13 e14 e15 e16 e17) := by
  intro n
  induction n with
  | zero =>
    intro p wn wp tn tp sc so rpa rwd rat rfo rs hn hx hX
    have hpl := hx.1
    refine g_aload_n (i := 0) (j := 0) dX8_readBay_57 rfl rfl ?_
    refine g_get fX8_84 rfl rfl dX8_readBay_58 ?_
    refine g_aload_n (i := 0) (j := 0) dX8_readBay_61 rfl rfl ?_
    refine g_get fX8_81 rfl rfl dX8_readBay_62 ?_
    refine n_icmp_ge (tgt := 80) (by omega) (by omega) dX8_readBay_65 (by decide) (fun h65 => ?_) (fun h65 => ?_)
    · refine g_bipush (v := (-9)) dX8_readBay_80 (by decide) ?_
      refine g_iret rfl rfl dX8_readBay_82 ?_
      refine ⟨rfl, _, _, _, _, _, _, _, _, ?_, rfl⟩
      intro X hX9
      rw [sParts] at hX9
      injection hX9 with hX9
      subst hX9
      exact ⟨rfl, rfl, hX⟩
    · exfalso; omega

  | succ n ih =>
    intro p wn wp tn tp sc so rpa rwd rat rfo rs hn hx hX
    have hpl := hx.1
    refine g_aload_n (i := 0) (j := 0) dX8_readBay_57 rfl rfl ?_
    refine g_get fX8_84 rfl rfl dX8_readBay_58 ?_
    refine g_aload_n (i := 0) (j := 0) dX8_readBay_61 rfl rfl ?_
    refine g_get fX8_81 rfl rfl dX8_readBay_62 ?_
    refine n_icmp_ge (tgt := 80) (by omega) (by omega) dX8_readBay_65 (by decide) (fun h65 => ?_) (fun h65 => ?_)
    · refine g_bipush (v := (-9)) dX8_readBay_80 (by decide) ?_
      refine g_iret rfl rfl dX8_readBay_82 ?_
      have e : (sParts le ln (n + 1) p wn wp tn tp sc so) = .inr (p, wn, wp, tn, tp, sc, so) := by rw [sParts, if_neg (by omega)]
      rw [e]
      refine ⟨rfl, _, _, _, _, _, _, _, _, ?_, rfl⟩
      intro X hX9
      injection hX9 with hX9
      subst hX9
      exact ⟨rfl, rfl, hX⟩
    · rcases hs : sPart le ln p wn wp tn tp sc so with f | X
      · skip
        refine g_aload_n (i := 0) (j := 0) dX8_readBay_68 rfl rfl ?_
        refine g_callV (rest := []) (ctX8_readPart  hln hle hx hX (by omega)) kX8_readPart lX8_133 (by decide) rfl rfl rfl rfl (by exact Nat.le_of_ble_eq_true rfl) dX8_readBay_69 rfl (fun v u hvu => ?_)
        obtain ⟨rpa2, rwd2, rat2, rfo2, rs2, hm⟩ := hvu
        rw [hs] at hm
        obtain ⟨rfl, rfl⟩ := hm
        refine g_st (st' := [.int (nI 0)]) rfl ?_
        refine n_if_ne (tgt := 57) (rng_lit 0 rfl) dX8_readBay_72 (by decide) (fun h72 => ?_) (fun h72 => ?_)
        · exact absurd h72 (by decide)
        · refine g_aload_n (i := 0) (j := 0) dX8_readBay_75 rfl rfl ?_
          refine g_get fX8_84 rfl rfl dX8_readBay_76 ?_
          refine g_iret rfl rfl dX8_readBay_79 ?_
          have e : (sParts le ln (n + 1) p wn wp tn tp sc so) = .inl f := by rw [sParts, if_pos h65, hs]
          rw [e]
          refine ⟨rfl, _, _, _, _, _, _, _, _, ?_, rfl⟩
          intro X hX9
          cases hX9
      · have hx2 := xOK_s hx hs
        refine g_aload_n (i := 0) (j := 0) dX8_readBay_68 rfl rfl ?_
        refine g_callV (rest := []) (ctX8_readPart  hln hle hx hX (by omega)) kX8_readPart lX8_133 (by decide) rfl rfl rfl rfl (by exact Nat.le_of_ble_eq_true rfl) dX8_readBay_69 rfl (fun v u hvu => ?_)
        obtain ⟨rpa2, rwd2, rat2, rfo2, rs2, hm⟩ := hvu
        rw [hs] at hm
        obtain ⟨rfl, hX2, rfl⟩ := hm
        refine g_st (st' := [.int (nI 1)]) rfl ?_
        refine n_if_ne (tgt := 57) (rng_lit 1 rfl) dX8_readBay_72 (by decide) (fun h72 => ?_) (fun h72 => ?_)
        · have e : (sParts le ln (n + 1) p wn wp tn tp sc so) = sParts le ln n X.1 X.2.1 X.2.2.1 X.2.2.2.1 X.2.2.2.2.1 X.2.2.2.2.2.1 X.2.2.2.2.2.2 := by rw [sParts, if_pos h65, hs]
          rw [e]
          exact ih _ _ _ _ _ _ _ _ _ _ _ _ (by have := hx2.2; omega) hx2.1 hX2
        · exact absurd h72 (by decide)

theorem mX_0 (le rpa rwd rat rfo : Nat → Nat) : mX le 0 z0 0 z0 0 z0 rpa rwd rat rfo 0 := ⟨fun k hk => absurd hk (by omega), fun k hk => absurd hk (by omega), by omega, rfl, rfl, fun k _ => by show 0 = 0 / 2 ^ k % 2; simp, fun h => absurd h (by omega)⟩
theorem sRun_n {le : Nat → Nat} {ln : Nat} (h : ¬ hP le ln 15 = 15) : sRun le ln = .inl (hP le ln 15) := if_neg h
theorem sRun_y {le : Nat → Nat} {ln : Nat} (h : hP le ln 15 = 15) : sRun le ln = sParts le ln 56 15 0 z0 0 z0 0 z0 := if_pos h
theorem ctX8_readBay {e2 e3 e4 e5 e6 e12 e13 e14 e15 e16 e17 : va_E} {ln pl lo ri la wk tw sf : Nat} {rl rr re : Int32} {wn tn rs ac : Nat} {sd : Int64} {ce sa ti : Nat} {rh : Nat → Int32} {rpa rwd rat rfo : Nat → Nat} {le : Nat → Nat} (hln : ln ≤ 56) (hle : ∀ k, le k ≤ 255) : Ct mX8_readBay 4 [.ref 0] (wM (kM 0 ln pl lo ri la wk tw sf rl rr re wn tn rs ac sd ce sa ti) (kI 56 le) e2 e3 e4 e5 e6 (kR 10 rh) (kI 5 rpa) (kI 5 rwd) (kI 2 rat) (kI 2 rfo) e12 e13 e14 e15 e16 e17) (fun v u => v = some (.int (rF (sRun le ln))) ∧ ∃ (rh2 : Nat → Int32) (rl2 rr2 re2 : Int32) (pl2 rw2 rt2 rs2 : Nat) (rpa2 rwd2 rat2 rfo2 : Nat → Nat), (∀ X, sRun le ln = .inr X → hdOK le rh2 rl2 rr2 re2 ∧ rw2 = X.2.1 ∧ rt2 = X.2.2.2.1 ∧ mX le X.2.1 X.2.2.1 X.2.2.2.1 X.2.2.2.2.1 X.2.2.2.2.2.1 X.2.2.2.2.2.2 rpa2 rwd2 rat2 rfo2 rs2) ∧ u = wM (kM 0 ln pl2 lo ri la wk tw sf rl2 rr2 re2 rw2 rt2 rs2 ac sd ce sa ti) (kI 56 le) e2 e3 e4 e5 e6 (kR 10 rh2) (kI 5 rpa2) (kI 5 rwd2) (kI 2 rat2) (kI 2 rfo2) e12 e13 e14 e15 e16 e17) := by
  refine Ct.of (by decide) (by exact Nat.le_of_ble_eq_true rfl) ?_
  show Go mX8_readBay 4 0 [(0, .ref 0)] [] (wM (kM 0 ln pl lo ri la wk tw sf rl rr re wn tn rs ac sd ce sa ti) (kI 56 le) e2 e3 e4 e5 e6 (kR 10 rh) (kI 5 rpa) (kI 5 rwd) (kI 2 rat) (kI 2 rfo) e12 e13 e14 e15 e16 e17) (fun v u => v = some (.int (rF (sRun le ln))) ∧ ∃ (rh2 : Nat → Int32) (rl2 rr2 re2 : Int32) (pl2 rw2 rt2 rs2 : Nat) (rpa2 rwd2 rat2 rfo2 : Nat → Nat), (∀ X, sRun le ln = .inr X → hdOK le rh2 rl2 rr2 re2 ∧ rw2 = X.2.1 ∧ rt2 = X.2.2.2.1 ∧ mX le X.2.1 X.2.2.1 X.2.2.2.1 X.2.2.2.2.1 X.2.2.2.2.2.1 X.2.2.2.2.2.2 rpa2 rwd2 rat2 rfo2 rs2) ∧ u = wM (kM 0 ln pl2 lo ri la wk tw sf rl2 rr2 re2 rw2 rt2 rs2 ac sd ce sa ti) (kI 56 le) e2 e3 e4 e5 e6 (kR 10 rh2) (kI 5 rpa2) (kI 5 rwd2) (kI 2 rat2) (kI 2 rfo2) e12 e13 e14 e15 e16 e17)
  have q0 := hle 0
  refine g_aload_n (i := 0) (j := 0) dX8_readBay_0 rfl rfl ?_
  refine g_iconst (v := nI 0) dX8_readBay_1 (by decide) ?_
  refine n_putI (ws' := wM (kM 0 ln 0 lo ri la wk tw sf rl rr re wn tn rs ac sd ce sa ti) (kI 56 le) e2 e3 e4 e5 e6 (kR 10 rh) (kI 5 rpa) (kI 5 rwd) (kI 2 rat) (kI 2 rfo) e12 e13 e14 e15 e16 e17) fX8_84 fp_X8_3 rfl (by exact Nat.le_of_ble_eq_true rfl) dX8_readBay_2 rfl ?_
  refine g_aload_n (i := 0) (j := 0) dX8_readBay_5 rfl rfl ?_
  refine g_iconst (v := nI 0) dX8_readBay_6 (by decide) ?_
  refine n_putI (ws' := wM (kM 0 ln 0 lo ri la wk tw sf rl rr re 0 tn rs ac sd ce sa ti) (kI 56 le) e2 e3 e4 e5 e6 (kR 10 rh) (kI 5 rpa) (kI 5 rwd) (kI 2 rat) (kI 2 rfo) e12 e13 e14 e15 e16 e17) fX8_100 fp_X8_19 rfl (by exact Nat.le_of_ble_eq_true rfl) dX8_readBay_7 rfl ?_
  refine g_aload_n (i := 0) (j := 0) dX8_readBay_10 rfl rfl ?_
  refine g_iconst (v := nI 0) dX8_readBay_11 (by decide) ?_
  refine n_putI (ws' := wM (kM 0 ln 0 lo ri la wk tw sf rl rr re 0 0 rs ac sd ce sa ti) (kI 56 le) e2 e3 e4 e5 e6 (kR 10 rh) (kI 5 rpa) (kI 5 rwd) (kI 2 rat) (kI 2 rfo) e12 e13 e14 e15 e16 e17) fX8_87 fp_X8_20 rfl (by exact Nat.le_of_ble_eq_true rfl) dX8_readBay_12 rfl ?_
  refine g_aload_n (i := 0) (j := 0) dX8_readBay_15 rfl rfl ?_
  refine g_iconst (v := nI 0) dX8_readBay_16 (by decide) ?_
  refine n_putI (ws' := wM (kM 0 ln 0 lo ri la wk tw sf rl rr re 0 0 0 ac sd ce sa ti) (kI 56 le) e2 e3 e4 e5 e6 (kR 10 rh) (kI 5 rpa) (kI 5 rwd) (kI 2 rat) (kI 2 rfo) e12 e13 e14 e15 e16 e17) fX8_118 fp_X8_21 rfl (by exact Nat.le_of_ble_eq_true rfl) dX8_readBay_17 rfl ?_
  refine g_aload_n (i := 0) (j := 0) dX8_readBay_20 rfl rfl ?_
  refine g_get fX8_81 rfl rfl dX8_readBay_21 ?_
  refine n_if_eq (tgt := 38) (by omega) dX8_readBay_24 (by decide) (fun h24 => ?_) (fun h24 => ?_)
  · refine g_iconst (v := nI 0) dX8_readBay_38 (by decide) ?_
    refine g_iret rfl rfl dX8_readBay_39 ?_
    have o0 : ¬ hOK le ln 0 = true := by unfold hOK; rw [if_pos rfl, decide_eq_true_eq]; omega
    have e15 : hP le ln 15 = 0 := hP_stop (i := 0) rfl o0 14
    rw [show sRun le ln = .inl 0 by rw [sRun_n (by omega), e15]]
    refine ⟨rfl, _, _, _, _, _, _, _, _, _, _, _, _, ?_, rfl⟩
    intro X hX9
    cases hX9
  · refine g_aload_n (i := 0) (j := 0) dX8_readBay_27 rfl rfl ?_
    refine g_get fX8_7 rfl rfl dX8_readBay_28 ?_
    refine g_iconst (v := nI 0) dX8_readBay_31 (by decide) ?_
    refine n_iald (x := 0) rfl (by omega) (rng_lit 56 rfl) dX8_readBay_32 ?_
    refine g_bipush (v := nI 66) dX8_readBay_33 (by decide) ?_
    refine n_icmp_eq (tgt := 40) (by omega) (rng_lit 66 rfl) dX8_readBay_35 (by decide) (fun h35 => ?_) (fun h35 => ?_)
    · have o0 : hOK le ln 0 = true := by unfold hOK; rw [if_pos rfl, decide_eq_true_eq]; omega
      have h1 : hP le ln 1 = 1 := hP_go (i := 0) rfl o0
      by_cases hh : hP le ln 15 = 15
      · skip
        refine g_aload_n (i := 0) (j := 0) dX8_readBay_40 rfl rfl ?_
        refine g_iconst (v := nI 1) dX8_readBay_41 (by decide) ?_
        refine n_putI (ws' := wM (kM 0 ln 1 lo ri la wk tw sf rl rr re 0 0 0 ac sd ce sa ti) (kI 56 le) e2 e3 e4 e5 e6 (kR 10 rh) (kI 5 rpa) (kI 5 rwd) (kI 2 rat) (kI 2 rfo) e12 e13 e14 e15 e16 e17) fX8_84 fp_X8_3 rfl (by exact Nat.le_of_ble_eq_true rfl) dX8_readBay_42 rfl ?_
        refine g_aload_n (i := 0) (j := 0) dX8_readBay_45 rfl rfl ?_
        refine g_callV (rest := []) (ctX8_readHead  hln hle h1) kX8_readHead lX8_130 (by decide) rfl rfl rfl rfl (by exact Nat.le_of_ble_eq_true rfl) dX8_readBay_46 rfl (fun v u hvu => ?_)
        obtain ⟨rh2, rl2, rr2, re2, hv, rfl⟩ := hvu
        obtain ⟨rfl, hd⟩ := hv.1 hh
        rw [hh]
        refine g_st (st' := [.int (nI 1)]) rfl ?_
        refine n_if_ne (tgt := 57) (rng_lit 1 rfl) dX8_readBay_49 (by decide) (fun h49 => ?_) (fun h49 => ?_)
        · rw [sRun_y hh]
          refine g_post ?_ (lp_mbay hln hle 56 15 0 z0 0 z0 0 z0 rpa rwd rat rfo 0 (by omega) (xOK_0 hh) (mX_0 le rpa rwd rat rfo))
          intro v u hvu
          obtain ⟨h2, pl2, rw2, rt2, rs2, rpa2, rwd2, rat2, rfo2, h3, h4⟩ := hvu
          exact ⟨h2, rh2, rl2, rr2, re2, pl2, rw2, rt2, rs2, rpa2, rwd2, rat2, rfo2, fun X hX => ⟨hd, h3 X hX⟩, h4⟩
        · exact absurd h49 (by decide)
      · have hPl := hP_le le ln 15
        refine g_aload_n (i := 0) (j := 0) dX8_readBay_40 rfl rfl ?_
        refine g_iconst (v := nI 1) dX8_readBay_41 (by decide) ?_
        refine n_putI (ws' := wM (kM 0 ln 1 lo ri la wk tw sf rl rr re 0 0 0 ac sd ce sa ti) (kI 56 le) e2 e3 e4 e5 e6 (kR 10 rh) (kI 5 rpa) (kI 5 rwd) (kI 2 rat) (kI 2 rfo) e12 e13 e14 e15 e16 e17) fX8_84 fp_X8_3 rfl (by exact Nat.le_of_ble_eq_true rfl) dX8_readBay_42 rfl ?_
        refine g_aload_n (i := 0) (j := 0) dX8_readBay_45 rfl rfl ?_
        refine g_callV (rest := []) (ctX8_readHead  hln hle h1) kX8_readHead lX8_130 (by decide) rfl rfl rfl rfl (by exact Nat.le_of_ble_eq_true rfl) dX8_readBay_46 rfl (fun v u hvu => ?_)
        obtain ⟨rh2, rl2, rr2, re2, hv, rfl⟩ := hvu
        obtain rfl := hv.2 hh
        refine g_st (st' := [.int (nI 0)]) rfl ?_
        refine n_if_ne (tgt := 57) (rng_lit 0 rfl) dX8_readBay_49 (by decide) (fun h49 => ?_) (fun h49 => ?_)
        · exact absurd h49 (by decide)
        · refine g_aload_n (i := 0) (j := 0) dX8_readBay_52 rfl rfl ?_
          refine g_get fX8_84 rfl rfl dX8_readBay_53 ?_
          refine g_iret rfl rfl dX8_readBay_56 ?_
          rw [sRun_n hh]
          refine ⟨rfl, _, _, _, _, _, _, _, _, _, _, _, _, ?_, rfl⟩
          intro X hX9
          cases hX9
    · refine g_iconst (v := nI 0) dX8_readBay_38 (by decide) ?_
      refine g_iret rfl rfl dX8_readBay_39 ?_
      have o0 : ¬ hOK le ln 0 = true := by unfold hOK; rw [if_pos rfl, decide_eq_true_eq]; omega
      have e15 : hP le ln 15 = 0 := hP_stop (i := 0) rfl o0 14
      rw [show sRun le ln = .inl 0 by rw [sRun_n (by omega), e15]]
      refine ⟨rfl, _, _, _, _, _, _, _, _, _, _, _, _, ?_, rfl⟩
      intro X hX9
      cases hX9

theorem ctX8_fault {e2 e3 e4 e5 e6 e12 e13 e14 e15 e16 e17 : va_E} {ln pl lo ri la wk tw sf : Nat} {rl rr re : Int32} {wn tn rs ac : Nat} {sd : Int64} {ce sa ti : Nat} {rh : Nat → Int32} {rpa rwd rat rfo : Nat → Nat} {le : Nat → Nat} (hln : ln ≤ 56) (hle : ∀ k, le k ≤ 255) : Ct mX8_fault 5 [.ref 0] (wM (kM 0 ln pl lo ri la wk tw sf rl rr re wn tn rs ac sd ce sa ti) (kI 56 le) e2 e3 e4 e5 e6 (kR 10 rh) (kI 5 rpa) (kI 5 rwd) (kI 2 rat) (kI 2 rfo) e12 e13 e14 e15 e16 e17) (fun v u => v = some (.int (rF (sRun le ln))) ∧ ∃ (rh2 : Nat → Int32) (rl2 rr2 re2 : Int32) (pl2 rw2 rt2 rs2 : Nat) (rpa2 rwd2 rat2 rfo2 : Nat → Nat), u = wM (kM 0 ln pl2 lo ri la wk tw sf rl2 rr2 re2 rw2 rt2 rs2 ac sd ce sa ti) (kI 56 le) e2 e3 e4 e5 e6 (kR 10 rh2) (kI 5 rpa2) (kI 5 rwd2) (kI 2 rat2) (kI 2 rfo2) e12 e13 e14 e15 e16 e17) := by
  refine Ct.of (by decide) (by exact Nat.le_of_ble_eq_true rfl) ?_
  show Go mX8_fault 5 0 [(0, .ref 0)] [] (wM (kM 0 ln pl lo ri la wk tw sf rl rr re wn tn rs ac sd ce sa ti) (kI 56 le) e2 e3 e4 e5 e6 (kR 10 rh) (kI 5 rpa) (kI 5 rwd) (kI 2 rat) (kI 2 rfo) e12 e13 e14 e15 e16 e17) (fun v u => v = some (.int (rF (sRun le ln))) ∧ ∃ (rh2 : Nat → Int32) (rl2 rr2 re2 : Int32) (pl2 rw2 rt2 rs2 : Nat) (rpa2 rwd2 rat2 rfo2 : Nat → Nat), u = wM (kM 0 ln pl2 lo ri la wk tw sf rl2 rr2 re2 rw2 rt2 rs2 ac sd ce sa ti) (kI 56 le) e2 e3 e4 e5 e6 (kR 10 rh2) (kI 5 rpa2) (kI 5 rwd2) (kI 2 rat2) (kI 2 rfo2) e12 e13 e14 e15 e16 e17)
  refine g_aload_n (i := 0) (j := 0) dX8_fault_0 rfl rfl ?_
  refine g_iconst (v := nI 0) dX8_fault_1 (by decide) ?_
  refine n_putI (ws' := wM (kM 0 ln pl lo ri la wk tw sf rl rr re wn tn rs ac sd ce sa ti) (kI 56 le) e2 e3 e4 e5 e6 (kR 10 rh) (kI 5 rpa) (kI 5 rwd) (kI 2 rat) (kI 2 rfo) e12 e13 e14 e15 e16 e17) fX8_67 fp_X8_0 rfl (by exact Nat.le_of_ble_eq_true rfl) dX8_fault_2 rfl ?_
  refine g_aload_n (i := 0) (j := 0) dX8_fault_5 rfl rfl ?_
  refine g_callV (rest := []) (ctX8_readBay  hln hle) kX8_readBay lX8_136 (by decide) rfl rfl rfl rfl (by exact Nat.le_of_ble_eq_true rfl) dX8_fault_6 rfl (fun v u hvu => ?_)
  obtain ⟨rfl, rh2, rl2, rr2, re2, pl2, rw2, rt2, rs2, rpa2, rwd2, rat2, rfo2, hF, rfl⟩ := hvu
  refine g_st (st' := [.int (rF (sRun le ln))]) rfl ?_
  refine g_iret rfl rfl dX8_fault_9 ?_
  exact ⟨rfl, rh2, rl2, rr2, re2, pl2, rw2, rt2, rs2, rpa2, rwd2, rat2, rfo2, rfl⟩

