/-! part 38: bay -/
theorem gOK_bay {le pa wa : Nat → Nat} {ln : Nat} {X : tX} (hR : sRun le ln = .inr X) (hpa : ∀ k, pa k ≤ 3) (hwa : ∀ k, wa k ≤ 5) : gOK (hgt le) X.2.2.2.2.2.2 (hoOf le X.2.2.2.1 X.2.2.2.2.1) (paOf le X.2.1 X.2.2.1 pa) (waOf le X.2.1 X.2.2.1 wa) X.2.1 X.2.2.2.1 (10 * (le 11 - 48) + (le 12 - 48)) (le 13 - 48) (le 14 - 48) := by
  obtain ⟨h15, hx⟩ := sRun_ok hR
  obtain ⟨x1, x2, x3, x4, x5, x6, x7, x8⟩ := hx
  have d11 : 48 + 0 ≤ le 11 ∧ le 11 ≤ 48 + 4 := dgH h15 (i := 11) (by omega) (by omega)
  have d12 : 48 + 0 ≤ le 12 ∧ le 12 ≤ 48 + (if le 11 = 52 then 0 else 9) := dgH h15 (i := 12) (by omega) (by omega)
  have d13 : 48 + 1 ≤ le 13 ∧ le 13 ≤ 48 + 3 := dgH h15 (i := 13) (by omega) (by omega)
  have d14 : 48 + 0 ≤ le 14 ∧ le 14 ≤ 48 + 9 := dgH h15 (i := 14) (by omega) (by omega)
  refine ⟨fun k => ?_, x5, fun k => ?_, fun k => ?_, fun k => ?_, x2, x3, ?_, by omega, by omega⟩
  · unfold hgt cpf
    split
    · next hk =>
      have d := dgH h15 (i := 1 + k) (by omega) (by omega)
      rw [(hLH (le := le) (1 + k) (by omega) (by omega)).2] at d
      show le (1 + k) - 48 ≤ 9
      omega
    · exact Nat.zero_le _
  · unfold hoOf
    split
    · next z => have a := x7 0 z.1; omega
    · split
      · next z => have a := x7 1 z.1; omega
      · omega
  · unfold paOf
    split
    · next z => have a := x8 k z; omega
    · exact hpa k
  · unfold waOf
    split
    · next z => have a := x8 k z; omega
    · exact hwa k
  · by_cases e : le 11 = 52
    · rw [if_pos e] at d12; omega
    · rw [if_neg e] at d12; omega
theorem rOK_z {r : Nat → Nat} (h : rOK r) : rOK (zf 16 r) := rOK_of (s := fun _ => 0) (fun k hk => if_pos hk) ⟨fun _ => Nat.zero_le _, fun _ _ => Nat.zero_le _, fun _ _ => Nat.zero_le _, fun _ _ => Nat.zero_le _⟩ (fun k hk => if_neg hk) h
theorem sUp_z (c : Nat) : ∀ wk, sUp (fun _ => 0) wk c = 0
  | 0 => rfl
  | n + 1 => by rw [sUp_s, sUp_z c n, if_neg (by omega)]
theorem upOK_z {r ho : Nat → Nat} {wk : Nat} (hw : wk ≤ 5) : upOK wk ho (zf 16 r) := fun c _ => by rw [sUp_congr (r := zf 16 r) hw (s := fun _ => 0) (fun k hk => if_pos hk) c, sUp_z]; exact Nat.zero_le _
theorem pr_bay {wc wm : List va_E} (hR : R wc wm)  : Pair mX7_bay 5 mX8_bay 5 [] wc wm := by
  obtain ⟨sd, ln, le, wk, tw, lo, ri, la, h, so, ho, pa, wa, r, nx, ct, q, z, kp, sf, at_, fo, Q, Z, hI, ⟨pl, sp, sc, dwk, dtw, dsf, dlo, dri, dla, dh, dso, dho, dpa, dwa, od, cm, t, hdz, rfl⟩, ⟨pl', wn, tn, rs, ce, sa, ti, rl, rr, re, rh, rpa, rwd, rat, rfo, od', cm', rfl⟩⟩ := hR
  have hI0 := hI
  obtain ⟨⟨hln, hle, hg, hzh, hzs, hzo⟩, ⟨hrk, hup, hnx, hct, hkp⟩, ⟨hS, hT, hT2⟩, hq, hz⟩ := hI0
  refine ⟨_, _, ctX7_bay hln hle hdz.1 hdz.2.1 hdz.2.2 hzh hzs hzo, ctX8_bay hln hle hzh, ?_⟩
  intro v u v' u' h1 h2
  obtain ⟨rfl, pl2, sp2, h2', so2, ho2, pa2, wa2, wk2, tw2, sf2, lo2, ri2, la2, sf3, z1, z2, z3, hu⟩ := h1
  obtain ⟨rfl, rh2, rl2, rr2, re2, pl3, rw2, rt2, rs2, rpa2, rwd2, rat2, rfo2, at2, fo2, hF, hu2⟩ := h2
  refine ⟨⟨_, rfl⟩, ?_⟩
  refine ⟨rfl, ?_⟩
  rcases hX : sRun le ln with f | X
  · rw [hX] at hu hu2
    subst hu hu2
    exact ⟨sd, ln, le, wk, tw, lo, ri, la, h, so, ho, pa, wa, r, nx, ct, q, z, kp, sf, at_, fo, Q, Z, hI, ⟨pl2, sp2, sc, wk2, tw2, sf2, lo2, ri2, la2, h2', so2, ho2, pa2, wa2, od, cm, _, ⟨z1, z2, z3⟩, rfl⟩, ⟨pl3, rw2, rt2, rs2, _, _, _, rl2, rr2, re2, rh2, rpa2, rwd2, rat2, rfo2, od', cm', rfl⟩⟩
  · rw [hX] at hu hu2
    subst hu hu2
    obtain ⟨f1, f2, f3⟩ := hF X hX
    have hx := (sRun_ok hX).2
    have hgn := gOK_bay hX hg.2.2.2.1 hg.2.2.2.2.1
    have hkz : ∀ i, i < 2 → va_up (va_up kp 0 0) 1 0 i = 0 := fun i hi => by unfold va_up; split; rfl; split; rfl; omega
    exact ⟨sd, ln, le, X.2.1, X.2.2.2.1, 10 * (le 11 - 48) + (le 12 - 48), le 13 - 48, le 14 - 48, hgt le, X.2.2.2.2.2.2, hoOf le X.2.2.2.1 X.2.2.2.2.1, paOf le X.2.1 X.2.2.1 pa, waOf le X.2.1 X.2.2.1 wa, zf 16 r, 0, 0, q, z, va_up (va_up kp 0 0) 1 0, rs2, at2, fo2, Q, Z, ⟨⟨hln, hle, hgn, zb_cpf _, zb_so hx.2.2.2.2.2.1, zb_ho hx.2.2.2.2.2.2.1⟩, ⟨rOK_z hrk, upOK_z hx.2.1, by omega, by omega, fun k => by unfold va_up; split; omega; split; omega; exact hkp k⟩, ⟨f1, f2, f3⟩, fun i hi => absurd hi (by omega), fun i hi hk => absurd (hkz i hi) hk⟩, ⟨pl2, sp2, sf3, wk2, tw2, sf2, lo2, ri2, la2, h2', so2, ho2, pa2, wa2, od, cm, _, ⟨z1, z2, z3⟩, rfl⟩, ⟨pl3, rw2, rt2, rs2, _, _, _, rl2, rr2, re2, rh2, rpa2, rwd2, rat2, rfo2, od', cm', rfl⟩⟩
