/-! part 37: climb, step, fault -/
theorem sUp_4 {r : Nat → Nat} {k c : Nat} (hk : k < 5) (h0 : r (11 + k) = 0) : ∀ wk, wk ≤ 5 → sUp (va_up r (11 + k) 4) wk c = sUp r wk c + (if k < wk ∧ r (1 + k) = c then 1 else 0)
  | 0, _ => by rw [if_neg (by omega)]; rfl
  | n + 1, hn => by
    rw [sUp_s, sUp_s, sUp_4 hk h0 n (by omega)]
    by_cases e : n = k
    · subst e
      rw [va_up_same, va_up_other (by omega), if_neg (by omega : ¬ (n < n ∧ r (1 + n) = c)), if_neg (by omega : ¬ (r (11 + n) = 4 ∧ r (1 + n) = c))]
      by_cases e2 : r (1 + n) = c
      · rw [if_pos ⟨rfl, e2⟩, if_pos ⟨by omega, e2⟩]
      · rw [if_neg (fun z => e2 z.2), if_neg (fun z => e2 z.2)]
    · rw [va_up_other (by omega), va_up_other (by omega)]
      by_cases e2 : k < n ∧ r (1 + k) = c
      · rw [if_pos e2, if_pos (show k < n + 1 ∧ r (1 + k) = c from ⟨by omega, e2.2⟩)]; omega
      · rw [if_neg e2, if_neg (show ¬ (k < n + 1 ∧ r (1 + k) = c) from fun z => e2 ⟨by omega, z.2⟩)]; omega
theorem sRow_up {h so pa wa : Nat → Nat} {la ri lo : Nat} {r : Nat → Nat} {c : Nat} : ∀ n, n ≤ 5 → ∀ w, w < 5 → ((sRow h so pa wa la ri lo r n (11 + w) = 4 ∧ sRow h so pa wa la ri lo r n (1 + w) = c) ↔ (r (11 + w) = 4 ∧ r (1 + w) = c))
  | 0, _, w, _ => Iff.rfl
  | n + 1, hn, w, hw => by
    have ih := sRow_up (h := h) (so := so) (pa := pa) (wa := wa) (la := la) (ri := ri) (lo := lo) (r := r) (c := c) n (by omega) w hw
    have h3 := sMf_3 h so pa wa la ri lo (sRow h so pa wa la ri lo r n) n
    rw [sRow]
    by_cases e0 : sRow h so pa wa la ri lo r n (11 + n) = 0
    · rw [if_pos e0]
      by_cases e : w = n
      · subst e
        rw [va_up_same]
        constructor
        · intro z; have := z.1; omega
        · intro z; have := (ih.mpr z).1; omega
      · rw [va_up_other (by omega), va_up_other (by omega), va_up_other (by omega), va_up_other (by omega)]; exact ih
    · rw [if_neg e0]; exact ih
theorem sStep_up {h so pa wa : Nat → Nat} {wk la ri lo : Nat} {r : Nat → Nat} (hwk : wk ≤ 5) (c : Nat) : sUp (sStepR h so pa wa wk lo ri la r) wk c = sUp r wk c := by
  unfold sUp sStepR
  refine sCnt_congr (fun w hw => ?_)
  rw [va_up_other (by omega), va_up_other (by omega)]
  have z := sRow_up (h := h) (so := so) (pa := pa) (wa := wa) (la := la) (ri := ri) (lo := lo) (r := r) (c := c) wk hwk w (by omega)
  rw [← Bool.decide_and, ← Bool.decide_and]
  exact decide_eq_decide.mpr z
theorem rOK_up0 {r : Nat → Nat} {x : Nat} (h : rOK r) (hx : x ≤ 40) : rOK (va_up r 0 x) := by
  obtain ⟨hr, hr1, hr6, hr11⟩ := h
  refine ⟨fun j => ?_, fun j hj => ?_, fun j hj => ?_, fun j hj => ?_⟩ <;> unfold va_up <;> split <;> first | omega | exact hr _ | exact hr1 _ hj | exact hr6 _ hj | exact hr11 _ hj
theorem pr_climb {wc wm : List va_E} (hR : R wc wm) (k0 : Int32) : Pair mX7_climb 5 mX8_climb 2 [.int k0] wc wm := by
  obtain ⟨sd, ln, le, wk, tw, lo, ri, la, h, so, ho, pa, wa, r, nx, ct, q, z, kp, sf, at_, fo, Q, Z, hI, ⟨pl, sp, sc, dwk, dtw, dsf, dlo, dri, dla, dh, dso, dho, dpa, dwa, od, cm, t, hdz, rfl⟩, ⟨pl', wn, tn, rs, ce, sa, ti, rl, rr, re, rh, rpa, rwd, rat, rfo, od', cm', rfl⟩⟩ := hR
  have hI0 := hI
  obtain ⟨⟨hln, hle, hg, hzh, hzs, hzo⟩, ⟨hrk, hup, hnx, hct, hkp⟩, ⟨hS, hT, hT2⟩, hq, hz⟩ := hI0
  refine ⟨_, _, ctX7_climb hg hrk hnx hct, ctX8_climb hg hS hT hrk hct hup, ?_⟩
  intro v u v' u' h1 h2
  obtain ⟨rfl, rfl⟩ := h1
  obtain ⟨rfl, rfl⟩ := h2
  refine ⟨⟨_, rfl⟩, ?_⟩
  refine ⟨rfl, ?_⟩
  by_cases hc : cClimb ho wk r k0
  · rw [if_pos hc, if_pos hc]
    have hwk := hg.2.2.2.2.2.1
    obtain ⟨k, hk, rfl⟩ := raw_lt hc.1
    have hc2 := hc.2
    rw [cN_n (k := k) (by omega)] at hc2 ⊢
    exact ⟨sd, ln, le, wk, tw, lo, ri, la, h, so, ho, pa, wa, va_up r (11 + k) 4, nxP nx, ctP ct, va_cpy r q 0 (nx * 16) 16, z, kp, sf, at_, fo, sNote Q ct r, Z, RI_act hI (rOK_up4 hrk (by omega)) (fun c hc3 => by rw [sUp_4 (by omega) hc2.1 wk hwk]; have := hup c hc3; split; (next e => rw [e.2] at hc2; omega); omega), ⟨pl, sp, sc, dwk, dtw, dsf, dlo, dri, dla, dh, dso, dho, dpa, dwa, od, cm, _, hdz, rfl⟩, ⟨pl', wn, tn, rs, _, _, _, rl, rr, re, rh, rpa, rwd, rat, rfo, od', cm', rfl⟩⟩
  · rw [if_neg hc, if_neg hc]
    exact ⟨sd, ln, le, wk, tw, lo, ri, la, h, so, ho, pa, wa, r, nx, ct, q, z, kp, sf, at_, fo, Q, Z, hI, ⟨pl, sp, sc, dwk, dtw, dsf, dlo, dri, dla, dh, dso, dho, dpa, dwa, od, cm, _, hdz, rfl⟩, ⟨pl', wn, tn, rs, _, _, _, rl, rr, re, rh, rpa, rwd, rat, rfo, od', cm', rfl⟩⟩
theorem pr_step {wc wm : List va_E} (hR : R wc wm)  : Pair mX7_step 4 mX8_step 3 [] wc wm := by
  obtain ⟨sd, ln, le, wk, tw, lo, ri, la, h, so, ho, pa, wa, r, nx, ct, q, z, kp, sf, at_, fo, Q, Z, hI, ⟨pl, sp, sc, dwk, dtw, dsf, dlo, dri, dla, dh, dso, dho, dpa, dwa, od, cm, t, hdz, rfl⟩, ⟨pl', wn, tn, rs, ce, sa, ti, rl, rr, re, rh, rpa, rwd, rat, rfo, od', cm', rfl⟩⟩ := hR
  have hI0 := hI
  obtain ⟨⟨hln, hle, hg, hzh, hzs, hzo⟩, ⟨hrk, hup, hnx, hct, hkp⟩, ⟨hS, hT, hT2⟩, hq, hz⟩ := hI0
  refine ⟨_, _, ctX7_step hg hrk (hrk.1 0) hnx hct, ctX8_step hg hS hT hrk hct, ?_⟩
  intro v u v' u' h1 h2
  obtain ⟨rfl, t2, rfl⟩ := h1
  obtain ⟨rfl, rfl⟩ := h2
  refine ⟨⟨_, rfl⟩, ?_⟩
  refine ⟨rfl, ?_⟩
  by_cases hc : r 0 = 40
  · rw [if_pos hc, if_pos hc]
    exact ⟨sd, ln, le, wk, tw, lo, ri, la, h, so, ho, pa, wa, r, nx, ct, q, z, kp, sf, at_, fo, Q, Z, hI, ⟨pl, sp, sc, dwk, dtw, dsf, dlo, dri, dla, dh, dso, dho, dpa, dwa, od, cm, _, hdz, rfl⟩, ⟨pl', wn, tn, rs, _, _, _, rl, rr, re, rh, rpa, rwd, rat, rfo, od', cm', rfl⟩⟩
  · rw [if_neg hc, if_neg hc]
    have q0 := hrk.1 0
    have hwk := hg.2.2.2.2.2.1
    exact ⟨sd, ln, le, wk, tw, lo, ri, la, h, so, ho, pa, wa, sStepR h so pa wa wk lo ri la r, nxP nx, ctP ct, va_cpy r q 0 (nx * 16) 16, z, kp, sf, at_, fo, sNote Q ct r, Z, RI_act hI (rOK_up0 (sRow_ok hrk wk hwk) (by omega)) (fun c hc3 => by rw [sStep_up hwk c]; exact hup c hc3), ⟨pl, sp, sc, dwk, dtw, dsf, dlo, dri, dla, dh, dso, dho, dpa, dwa, od, cm, _, hdz, rfl⟩, ⟨pl', wn, tn, rs, _, _, _, rl, rr, re, rh, rpa, rwd, rat, rfo, od', cm', rfl⟩⟩
theorem pr_fault {wc wm : List va_E} (hR : R wc wm)  : Pair mX7_fault 5 mX8_fault 5 [] wc wm := by
  obtain ⟨sd, ln, le, wk, tw, lo, ri, la, h, so, ho, pa, wa, r, nx, ct, q, z, kp, sf, at_, fo, Q, Z, hI, ⟨pl, sp, sc, dwk, dtw, dsf, dlo, dri, dla, dh, dso, dho, dpa, dwa, od, cm, t, hdz, rfl⟩, ⟨pl', wn, tn, rs, ce, sa, ti, rl, rr, re, rh, rpa, rwd, rat, rfo, od', cm', rfl⟩⟩ := hR
  have hI0 := hI
  obtain ⟨⟨hln, hle, hg, hzh, hzs, hzo⟩, ⟨hrk, hup, hnx, hct, hkp⟩, ⟨hS, hT, hT2⟩, hq, hz⟩ := hI0
  refine ⟨_, _, ctX7_fault hln hle hdz.1 hdz.2.1 hdz.2.2, ctX8_fault hln hle, ?_⟩
  intro v u v' u' h1 h2
  obtain ⟨rfl, pl2, sp2, h2', so2, ho2, pa2, wa2, wk2, tw2, sf2, lo2, ri2, la2, z1, z2, z3, rfl⟩ := h1
  obtain ⟨rfl, rh2, rl2, rr2, re2, pl3, rw2, rt2, rs2, rpa2, rwd2, rat2, rfo2, rfl⟩ := h2
  refine ⟨⟨_, rfl⟩, ?_⟩
  exact ⟨rfl, ⟨sd, ln, le, wk, tw, lo, ri, la, h, so, ho, pa, wa, r, nx, ct, q, z, kp, sf, at_, fo, Q, Z, hI, ⟨pl2, sp2, sc, wk2, tw2, sf2, lo2, ri2, la2, h2', so2, ho2, pa2, wa2, od, cm, _, ⟨z1, z2, z3⟩, rfl⟩, ⟨pl3, rw2, rt2, rs2, _, _, _, rl2, rr2, re2, rh2, rpa2, rwd2, rat2, rfo2, od', cm', rfl⟩⟩⟩
