/-! part 36: undo, keep, again, climb, fog, channel, fault -/
theorem pr_undo {wc wm : List va_E} (hR : R wc wm)  : Pair mX7_undo 4 mX8_undo 0 [] wc wm := by
  obtain ⟨sd, ln, le, wk, tw, lo, ri, la, h, so, ho, pa, wa, r, nx, ct, q, z, kp, sf, at_, fo, Q, Z, hI, ⟨pl, sp, sc, dwk, dtw, dsf, dlo, dri, dla, dh, dso, dho, dpa, dwa, od, cm, t, hdz, rfl⟩, ⟨pl', wn, tn, rs, ce, sa, ti, rl, rr, re, rh, rpa, rwd, rat, rfo, od', cm', rfl⟩⟩ := hR
  have hI0 := hI
  obtain ⟨⟨hln, hle, hg, hzh, hzs, hzo⟩, ⟨hrk, hup, hnx, hct, hkp⟩, ⟨hS, hT, hT2⟩, hq, hz⟩ := hI0
  refine ⟨_, _, ctX7_undo hnx hct, ctX8_undo hct, ?_⟩
  intro v u v' u' h1 h2
  obtain ⟨rfl, rfl⟩ := h1
  obtain ⟨rfl, rfl⟩ := h2
  refine ⟨⟨_, rfl⟩, ?_⟩
  refine ⟨rfl, ?_⟩
  by_cases hc : ct = 0
  · rw [if_pos hc, if_pos hc]
    exact ⟨sd, ln, le, wk, tw, lo, ri, la, h, so, ho, pa, wa, r, nx, ct, q, z, kp, sf, at_, fo, Q, Z, hI, ⟨pl, sp, sc, dwk, dtw, dsf, dlo, dri, dla, dh, dso, dho, dpa, dwa, od, cm, _, hdz, rfl⟩, ⟨pl', wn, tn, rs, _, _, _, rl, rr, re, rh, rpa, rwd, rat, rfo, od', cm', rfl⟩⟩
  · rw [if_neg hc, if_neg hc]
    obtain ⟨g1, g2, g3⟩ := hq (ct - 1) (by omega)
    have es : (nx + 16 - ct + (ct - 1)) % 16 = (if 0 < nx then nx - 1 else 15) := by split <;> omega
    have e16 : ∀ k, k < 16 → va_cpy q r ((if 0 < nx then nx - 1 else 15) * 16) 0 16 k = Q (ct - 1) k := fun k hk => by rw [cpy_in hk, g3 k hk, es]
    have n1 : (if 0 < nx then nx - 1 else 15) < 16 := by split <;> omega
    refine ⟨sd, ln, le, wk, tw, lo, ri, la, h, so, ho, pa, wa, va_cpy q r ((if 0 < nx then nx - 1 else 15) * 16) 0 16, (if 0 < nx then nx - 1 else 15), ct - 1, q, z, kp, sf, at_, fo, Q, Z, ⟨hI.1, ⟨rOK_of e16 g1 (fun k hk => cpy_out hk) hrk, upOK_congr hg.2.2.2.2.2.1 (fun k hk => (e16 k hk).symm) g2, n1, by omega, hkp⟩, hI.2.2.1, fun i hi => ?_, hz⟩, ⟨pl, sp, sc, dwk, dtw, dsf, dlo, dri, dla, dh, dso, dho, dpa, dwa, od, cm, _, hdz, rfl⟩, ⟨pl', wn, tn, rs, _, _, _, rl, rr, re, rh, rpa, rwd, rat, rfo, od', cm', by rw [pgR_congr e16]⟩⟩
    obtain ⟨k1, k2, k3⟩ := hq i (by omega)
    refine ⟨k1, k2, fun k hk => ?_⟩
    rw [k3 k hk, show ((if 0 < nx then nx - 1 else 15) + 16 - (ct - 1) + i) % 16 = (nx + 16 - ct + i) % 16 by split <;> omega]
theorem pr_keep {wc wm : List va_E} (hR : R wc wm) (x : Int32) : Pair mX7_keep 3 mX8_keep 1 [.int x] wc wm := by
  obtain ⟨sd, ln, le, wk, tw, lo, ri, la, h, so, ho, pa, wa, r, nx, ct, q, z, kp, sf, at_, fo, Q, Z, hI, ⟨pl, sp, sc, dwk, dtw, dsf, dlo, dri, dla, dh, dso, dho, dpa, dwa, od, cm, t, hdz, rfl⟩, ⟨pl', wn, tn, rs, ce, sa, ti, rl, rr, re, rh, rpa, rwd, rat, rfo, od', cm', rfl⟩⟩ := hR
  have hI0 := hI
  obtain ⟨⟨hln, hle, hg, hzh, hzs, hzo⟩, ⟨hrk, hup, hnx, hct, hkp⟩, ⟨hS, hT, hT2⟩, hq, hz⟩ := hI0
  refine ⟨_, _, ctX7_keep hrk, ctX8_keep , ?_⟩
  intro v u v' u' h1 h2
  obtain ⟨rfl, rfl⟩ := h1
  obtain ⟨rfl, rfl⟩ := h2
  refine ⟨⟨_, rfl⟩, ?_⟩
  refine ⟨rfl, ?_⟩
  by_cases hc : iW x 2
  · rw [if_pos hc, if_pos hc]
    obtain ⟨a, ha, rfl⟩ := raw_lt hc
    rw [cN_n (k := a) (by omega)]
    refine ⟨sd, ln, le, wk, tw, lo, ri, la, h, so, ho, pa, wa, r, nx, ct, q, va_cpy r z 0 (a * 16) 16, va_up kp a 1, sf, at_, fo, Q, (fun i => if i = a then r else Z i), ⟨hI.1, ⟨hrk, hup, hnx, hct, fun k => by unfold va_up; split; omega; exact hkp k⟩, hI.2.2.1, hq, fun i hi hk => ?_⟩, ⟨pl, sp, sc, dwk, dtw, dsf, dlo, dri, dla, dh, dso, dho, dpa, dwa, od, cm, _, hdz, rfl⟩, ⟨pl', wn, tn, rs, _, _, _, rl, rr, re, rh, rpa, rwd, rat, rfo, od', cm', rfl⟩⟩
    by_cases e : i = a
    · refine ⟨?_, ?_, fun k hk2 => ?_⟩
      · show rOK (if i = a then r else Z i); rw [if_pos e]; exact hrk
      · show upOK wk ho (if i = a then r else Z i); rw [if_pos e]; exact hup
      · show (if i = a then r else Z i) k = _; rw [if_pos e, ring_put hk2, if_pos e]
    · rw [va_up_other e] at hk
      obtain ⟨k1, k2, k3⟩ := hz i hi hk
      refine ⟨?_, ?_, fun k hk2 => ?_⟩
      · show rOK (if i = a then r else Z i); rw [if_neg e]; exact k1
      · show upOK wk ho (if i = a then r else Z i); rw [if_neg e]; exact k2
      · show (if i = a then r else Z i) k = _; rw [if_neg e, ring_put hk2, if_neg e]; exact k3 k hk2
  · rw [if_neg hc, if_neg hc]
    exact ⟨sd, ln, le, wk, tw, lo, ri, la, h, so, ho, pa, wa, r, nx, ct, q, z, kp, sf, at_, fo, Q, Z, hI, ⟨pl, sp, sc, dwk, dtw, dsf, dlo, dri, dla, dh, dso, dho, dpa, dwa, od, cm, _, hdz, rfl⟩, ⟨pl', wn, tn, rs, _, _, _, rl, rr, re, rh, rpa, rwd, rat, rfo, od', cm', rfl⟩⟩
theorem pr_again {wc wm : List va_E} (hR : R wc wm) (x : Int32) : Pair mX7_again 3 mX8_again 1 [.int x] wc wm := by
  obtain ⟨sd, ln, le, wk, tw, lo, ri, la, h, so, ho, pa, wa, r, nx, ct, q, z, kp, sf, at_, fo, Q, Z, hI, ⟨pl, sp, sc, dwk, dtw, dsf, dlo, dri, dla, dh, dso, dho, dpa, dwa, od, cm, t, hdz, rfl⟩, ⟨pl', wn, tn, rs, ce, sa, ti, rl, rr, re, rh, rpa, rwd, rat, rfo, od', cm', rfl⟩⟩ := hR
  have hI0 := hI
  obtain ⟨⟨hln, hle, hg, hzh, hzs, hzo⟩, ⟨hrk, hup, hnx, hct, hkp⟩, ⟨hS, hT, hT2⟩, hq, hz⟩ := hI0
  refine ⟨_, _, ctX7_again hkp, ctX8_again hkp, ?_⟩
  intro v u v' u' h1 h2
  obtain ⟨rfl, rfl⟩ := h1
  obtain ⟨rfl, rfl⟩ := h2
  refine ⟨⟨_, rfl⟩, ?_⟩
  by_cases hc : iW x 2 ∧ kp (cN x) ≠ 0
  · rw [if_pos hc, if_pos hc]
    obtain ⟨hc1, hc2⟩ := hc
    obtain ⟨a, ha, rfl⟩ := raw_lt hc1
    rw [cN_n (k := a) (by omega)] at hc2 ⊢
    obtain ⟨k1, k2, k3⟩ := hz a ha hc2
    have e16 : ∀ k, k < 16 → va_cpy z r (a * 16) 0 16 k = Z a k := fun k hk => by rw [cpy_in hk, k3 k hk]
    refine ⟨?_, ⟨sd, ln, le, wk, tw, lo, ri, la, h, so, ho, pa, wa, va_cpy z r (a * 16) 0 16, 0, 0, q, z, kp, sf, at_, fo, Q, Z, ⟨hI.1, ⟨rOK_of e16 k1 (fun k hk => cpy_out hk) hrk, upOK_congr hg.2.2.2.2.2.1 (fun k hk => (e16 k hk).symm) k2, by omega, by omega, hkp⟩, hI.2.2.1, fun i hi => absurd hi (by omega), hz⟩, ⟨pl, sp, sc, dwk, dtw, dsf, dlo, dri, dla, dh, dso, dho, dpa, dwa, od, cm, _, hdz, rfl⟩, ⟨pl', wn, tn, rs, _, _, _, rl, rr, re, rh, rpa, rwd, rat, rfo, od', cm', by rw [pgR_congr e16]⟩⟩⟩
    unfold pAgain pAgainM
    rw [if_pos hc1, if_pos hc1, cN_n (k := a) (by omega), if_neg hc2, if_neg hc2, k3 0 (by omega)]
    rfl
  · rw [if_neg hc, if_neg hc]
    refine ⟨?_, ⟨sd, ln, le, wk, tw, lo, ri, la, h, so, ho, pa, wa, r, nx, ct, q, z, kp, sf, at_, fo, Q, Z, hI, ⟨pl, sp, sc, dwk, dtw, dsf, dlo, dri, dla, dh, dso, dho, dpa, dwa, od, cm, _, hdz, rfl⟩, ⟨pl', wn, tn, rs, _, _, _, rl, rr, re, rh, rpa, rwd, rat, rfo, od', cm', rfl⟩⟩⟩
    unfold pAgain pAgainM
    by_cases h1 : iW x 2
    · have h2 : kp (cN x) = 0 := Decidable.byContradiction (fun z => hc ⟨h1, z⟩)
      rw [if_pos h1, if_pos h1, if_pos h2, if_pos h2]
    · rw [if_neg h1, if_neg h1]
theorem pr_channel {wc wm : List va_E} (hR : R wc wm) (c0 d0 a0 b0 n0 : Int32) {up : Nat} (hu : up ≤ 1) : Pair mX7_channel 3 mX8_channel 2 [.int c0, .int d0, .int a0, .int b0, .int n0, .int (nI up)] wc wm := by
  obtain ⟨sd, ln, le, wk, tw, lo, ri, la, h, so, ho, pa, wa, r, nx, ct, q, z, kp, sf, at_, fo, Q, Z, hI, ⟨pl, sp, sc, dwk, dtw, dsf, dlo, dri, dla, dh, dso, dho, dpa, dwa, od, cm, t, hdz, rfl⟩, ⟨pl', wn, tn, rs, ce, sa, ti, rl, rr, re, rh, rpa, rwd, rat, rfo, od', cm', rfl⟩⟩ := hR
  have hI0 := hI
  obtain ⟨⟨hln, hle, hg, hzh, hzs, hzo⟩, ⟨hrk, hup, hnx, hct, hkp⟩, ⟨hS, hT, hT2⟩, hq, hz⟩ := hI0
  refine ⟨_, _, ctX7_channel hu, ctX8_channel hu, ?_⟩
  intro v u v' u' h1 h2
  obtain ⟨rfl, od2, cm2, rfl⟩ := h1
  obtain ⟨rfl, od3, cm3, rfl⟩ := h2
  refine ⟨⟨_, rfl⟩, ?_⟩
  exact ⟨rfl, ⟨sd, ln, le, wk, tw, lo, ri, la, h, so, ho, pa, wa, r, nx, ct, q, z, kp, sf, at_, fo, Q, Z, hI, ⟨pl, sp, sc, dwk, dtw, dsf, dlo, dri, dla, dh, dso, dho, dpa, dwa, od2, cm2, _, hdz, rfl⟩, ⟨pl', wn, tn, rs, _, _, _, rl, rr, re, rh, rpa, rwd, rat, rfo, od3, cm3, rfl⟩⟩⟩
theorem pr_fog {wc wm : List va_E} (hR : R wc wm) (k0 t0 m0 : Int32) : Pair mX7_fog 3 mX8_fog 4 [.int k0, .int t0, .int m0] wc wm := by
  obtain ⟨sd, ln, le, wk, tw, lo, ri, la, h, so, ho, pa, wa, r, nx, ct, q, z, kp, sf, at_, fo, Q, Z, hI, ⟨pl, sp, sc, dwk, dtw, dsf, dlo, dri, dla, dh, dso, dho, dpa, dwa, od, cm, t, hdz, rfl⟩, ⟨pl', wn, tn, rs, ce, sa, ti, rl, rr, re, rh, rpa, rwd, rat, rfo, od', cm', rfl⟩⟩ := hR
  have hI0 := hI
  obtain ⟨⟨hln, hle, hg, hzh, hzs, hzo⟩, ⟨hrk, hup, hnx, hct, hkp⟩, ⟨hS, hT, hT2⟩, hq, hz⟩ := hI0
  refine ⟨_, _, ctX7_fog hg, ctX8_fog hg hS hT hrk, ?_⟩
  intro v u v' u' h1 h2
  obtain ⟨rfl, t2, rfl⟩ := h1
  obtain ⟨rfl, ce2, sa2, ti2, rfl⟩ := h2
  refine ⟨⟨_, rfl⟩, ?_⟩
  refine ⟨rfl, ?_⟩
  by_cases hc : cFog wk k0 t0 m0
  · rw [if_pos hc, if_pos hc]
    exact ⟨(sFogP h so pa wa lo ri la sd k0 t0 m0).1, ln, le, wk, tw, lo, ri, la, h, so, ho, pa, wa, r, nx, ct, q, z, kp, sf, at_, fo, Q, Z, hI, ⟨pl, sp, sc, dwk, dtw, dsf, dlo, dri, dla, dh, dso, dho, dpa, dwa, od, cm, _, hdz, rfl⟩, ⟨pl', wn, tn, rs, _, _, _, rl, rr, re, rh, rpa, rwd, rat, rfo, od', cm', rfl⟩⟩
  · rw [if_neg hc, if_neg hc]
    exact ⟨sd, ln, le, wk, tw, lo, ri, la, h, so, ho, pa, wa, r, nx, ct, q, z, kp, sf, at_, fo, Q, Z, hI, ⟨pl, sp, sc, dwk, dtw, dsf, dlo, dri, dla, dh, dso, dho, dpa, dwa, od, cm, _, hdz, rfl⟩, ⟨pl', wn, tn, rs, _, _, _, rl, rr, re, rh, rpa, rwd, rat, rfo, od', cm', rfl⟩⟩
