/-! part 34: the relation of the two worlds; the calls that only answer -/
/-- no more are up than a tower holds -/
def upOK (wk : Nat) (ho r : Nat → Nat) : Prop := ∀ c, c ≤ 9 → sUp r wk c ≤ ho c
/-- what holds of both -/
def RI (sd : Int64) (ln : Nat) (le : Nat → Nat) (wk tw lo ri la : Nat) (h so ho pa wa r : Nat → Nat) (nx ct : Nat) (q z kp : Nat → Nat) (sf : Nat) (at_ fo : Nat → Nat) (Q Z : Nat → Nat → Nat) : Prop :=
  (ln ≤ 56 ∧ (∀ k, le k ≤ 255) ∧ gOK h so ho pa wa wk tw lo ri la ∧ zb h ∧ zb so ∧ zb ho) ∧ (rOK r ∧ upOK wk ho r ∧ nx < 16 ∧ ct ≤ 16 ∧ (∀ k, kp k ≤ 1)) ∧
  (mSf sf so ∧ tOK tw at_ fo ho ∧ (∀ t, t < tw → 1 ≤ at_ t ∧ at_ t ≤ 8)) ∧
  (∀ i, i < ct → rOK (Q i) ∧ upOK wk ho (Q i) ∧ ∀ k, k < 16 → Q i k = q ((nx + 16 - ct + i) % 16 * 16 + k)) ∧
  (∀ i, i < 2 → kp i ≠ 0 → rOK (Z i) ∧ upOK wk ho (Z i) ∧ ∀ k, k < 16 → Z i k = z (i * 16 + k))
def RC (ws : List va_E) (sd : Int64) (ln : Nat) (le : Nat → Nat) (wk tw lo ri la : Nat) (h so ho pa wa r : Nat → Nat) (nx ct : Nat) (q z kp : Nat → Nat) (sf : Nat) (at_ fo : Nat → Nat) (Q Z : Nat → Nat → Nat) : Prop := ∃ (pl sp sc dwk dtw dsf dlo dri dla : Nat) (dh dso dho dpa dwa od cm : Nat → Nat) (t : t6), (zb dh ∧ zb dso ∧ zb dho) ∧ ws = wC (kO sd) (kT ln pl sp) (kI 56 le) (kG3 wk tw sc lo ri la) (kI 10 h) (kZ 10 so) (kI 10 ho) (kI 5 pa) (kI 5 wa) (kG9 dwk dtw dsf dlo dri dla) (kI 10 dh) (kZ 10 dso) (kI 10 dho) (kI 5 dpa) (kI 5 dwa) (kI 16 r) (kA nx ct) (kI 256 q) (kI 32 z) (kZ 2 kp) (kPt t) (kI 10 od) (kI 10 cm)
def RM (ws : List va_E) (sd : Int64) (ln : Nat) (le : Nat → Nat) (wk tw lo ri la : Nat) (h so ho pa wa r : Nat → Nat) (nx ct : Nat) (q z kp : Nat → Nat) (sf : Nat) (at_ fo : Nat → Nat) (Q Z : Nat → Nat → Nat) : Prop := ∃ (pl wn tn rs ce sa ti : Nat) (rl rr re : Int32) (rh : Nat → Int32) (rpa rwd rat rfo od cm : Nat → Nat), ws = wM (kM 0 ln pl lo ri la wk tw sf rl rr re wn tn rs ct sd ce sa ti) (kI 56 le) (kI 10 h) (kI 5 pa) (kI 5 wa) (kI 2 at_) (kI 2 fo) (kR 10 rh) (kI 5 rpa) (kI 5 rwd) (kI 2 rat) (kI 2 rfo) (kI 16 (pgR r)) (kI 256 (bkR Q)) (kI 32 (bkR Z)) (kZ 2 kp) (kJ 10 od) (kJ 10 cm)
/-- the two worlds tell of the same bay -/
def R (wc wm : List va_E) : Prop := ∃ (sd : Int64) (ln : Nat) (le : Nat → Nat) (wk tw lo ri la : Nat) (h so ho pa wa r : Nat → Nat) (nx ct : Nat) (q z kp : Nat → Nat) (sf : Nat) (at_ fo : Nat → Nat) (Q Z : Nat → Nat → Nat), RI sd ln le wk tw lo ri la h so ho pa wa r nx ct q z kp sf at_ fo Q Z ∧ RC wc sd ln le wk tw lo ri la h so ho pa wa r nx ct q z kp sf at_ fo Q Z ∧ RM wm sd ln le wk tw lo ri la h so ho pa wa r nx ct q z kp sf at_ fo Q Z
/-- a call on the one and the same call on the other: the same answer, and the two worlds are as before -/
def Pair (M : gM) (d : Nat) (M' : gM) (d' : Nat) (as : List Value) (wc wm : List va_E) : Prop :=
  ∃ Pc Pm, Ct M d (.ref 0 :: as) wc Pc ∧ Ct M' d' (.ref 0 :: as) wm Pm ∧ ∀ v u v' u', Pc v u → Pm v' u' → (∃ x : Int32, v = some (.int x)) ∧ v' = v ∧ R u u' 
theorem pr_about {wc wm : List va_E} (hR : R wc wm) (x : Int32) : Pair mX7_about 3 mX8_about 1 [.int x] wc wm := by
  obtain ⟨sd, ln, le, wk, tw, lo, ri, la, h, so, ho, pa, wa, r, nx, ct, q, z, kp, sf, at_, fo, Q, Z, hI, ⟨pl, sp, sc, dwk, dtw, dsf, dlo, dri, dla, dh, dso, dho, dpa, dwa, od, cm, t, hdz, rfl⟩, ⟨pl', wn, tn, rs, ce, sa, ti, rl, rr, re, rh, rpa, rwd, rat, rfo, od', cm', rfl⟩⟩ := hR
  have hI0 := hI
  obtain ⟨⟨hln, hle, hg, hzh, hzs, hzo⟩, ⟨hrk, hup, hnx, hct, hkp⟩, ⟨hS, hT, hT2⟩, hq, hz⟩ := hI0
  refine ⟨_, _, ctX7_about hg hrk, ctX8_about hg hS hT hrk, ?_⟩
  intro v u v' u' h1 h2
  obtain ⟨rfl, rfl⟩ := h1
  obtain ⟨rfl, rfl⟩ := h2
  refine ⟨⟨_, rfl⟩, ?_⟩
  exact ⟨rfl, ⟨sd, ln, le, wk, tw, lo, ri, la, h, so, ho, pa, wa, r, nx, ct, q, z, kp, sf, at_, fo, Q, Z, hI, ⟨pl, sp, sc, dwk, dtw, dsf, dlo, dri, dla, dh, dso, dho, dpa, dwa, od, cm, _, hdz, rfl⟩, ⟨pl', wn, tn, rs, _, _, _, rl, rr, re, rh, rpa, rwd, rat, rfo, od', cm', rfl⟩⟩⟩
theorem pr_cell {wc wm : List va_E} (hR : R wc wm) (c0 x : Int32) : Pair mX7_cell 4 mX8_cell 2 [.int c0, .int x] wc wm := by
  obtain ⟨sd, ln, le, wk, tw, lo, ri, la, h, so, ho, pa, wa, r, nx, ct, q, z, kp, sf, at_, fo, Q, Z, hI, ⟨pl, sp, sc, dwk, dtw, dsf, dlo, dri, dla, dh, dso, dho, dpa, dwa, od, cm, t, hdz, rfl⟩, ⟨pl', wn, tn, rs, ce, sa, ti, rl, rr, re, rh, rpa, rwd, rat, rfo, od', cm', rfl⟩⟩ := hR
  have hI0 := hI
  obtain ⟨⟨hln, hle, hg, hzh, hzs, hzo⟩, ⟨hrk, hup, hnx, hct, hkp⟩, ⟨hS, hT, hT2⟩, hq, hz⟩ := hI0
  refine ⟨_, _, ctX7_cell hg hrk, ctX8_cell hg hS hT hrk, ?_⟩
  intro v u v' u' h1 h2
  obtain ⟨rfl, rfl⟩ := h1
  obtain ⟨rfl, rfl⟩ := h2
  refine ⟨⟨_, rfl⟩, ?_⟩
  exact ⟨rfl, ⟨sd, ln, le, wk, tw, lo, ri, la, h, so, ho, pa, wa, r, nx, ct, q, z, kp, sf, at_, fo, Q, Z, hI, ⟨pl, sp, sc, dwk, dtw, dsf, dlo, dri, dla, dh, dso, dho, dpa, dwa, od, cm, _, hdz, rfl⟩, ⟨pl', wn, tn, rs, _, _, _, rl, rr, re, rh, rpa, rwd, rat, rfo, od', cm', rfl⟩⟩⟩
theorem pr_walker {wc wm : List va_E} (hR : R wc wm) (k0 x : Int32) : Pair mX7_walker 4 mX8_walker 2 [.int k0, .int x] wc wm := by
  obtain ⟨sd, ln, le, wk, tw, lo, ri, la, h, so, ho, pa, wa, r, nx, ct, q, z, kp, sf, at_, fo, Q, Z, hI, ⟨pl, sp, sc, dwk, dtw, dsf, dlo, dri, dla, dh, dso, dho, dpa, dwa, od, cm, t, hdz, rfl⟩, ⟨pl', wn, tn, rs, ce, sa, ti, rl, rr, re, rh, rpa, rwd, rat, rfo, od', cm', rfl⟩⟩ := hR
  have hI0 := hI
  obtain ⟨⟨hln, hle, hg, hzh, hzs, hzo⟩, ⟨hrk, hup, hnx, hct, hkp⟩, ⟨hS, hT, hT2⟩, hq, hz⟩ := hI0
  refine ⟨_, _, ctX7_walker hg hrk, ctX8_walker hg hS hT hrk, ?_⟩
  intro v u v' u' h1 h2
  obtain ⟨rfl, rfl⟩ := h1
  obtain ⟨rfl, rfl⟩ := h2
  refine ⟨⟨_, rfl⟩, ?_⟩
  exact ⟨rfl, ⟨sd, ln, le, wk, tw, lo, ri, la, h, so, ho, pa, wa, r, nx, ct, q, z, kp, sf, at_, fo, Q, Z, hI, ⟨pl, sp, sc, dwk, dtw, dsf, dlo, dri, dla, dh, dso, dho, dpa, dwa, od, cm, _, hdz, rfl⟩, ⟨pl', wn, tn, rs, _, _, _, rl, rr, re, rh, rpa, rwd, rat, rfo, od', cm', rfl⟩⟩⟩
theorem pr_deep {wc wm : List va_E} (hR : R wc wm) (c0 s0 : Int32) : Pair mX7_deep 3 mX8_deep 2 [.int c0, .int s0] wc wm := by
  obtain ⟨sd, ln, le, wk, tw, lo, ri, la, h, so, ho, pa, wa, r, nx, ct, q, z, kp, sf, at_, fo, Q, Z, hI, ⟨pl, sp, sc, dwk, dtw, dsf, dlo, dri, dla, dh, dso, dho, dpa, dwa, od, cm, t, hdz, rfl⟩, ⟨pl', wn, tn, rs, ce, sa, ti, rl, rr, re, rh, rpa, rwd, rat, rfo, od', cm', rfl⟩⟩ := hR
  have hI0 := hI
  obtain ⟨⟨hln, hle, hg, hzh, hzs, hzo⟩, ⟨hrk, hup, hnx, hct, hkp⟩, ⟨hS, hT, hT2⟩, hq, hz⟩ := hI0
  refine ⟨_, _, ctX7_deep hg, ctX8_deep hg hS hT hrk, ?_⟩
  intro v u v' u' h1 h2
  obtain ⟨rfl, rfl⟩ := h1
  obtain ⟨rfl, rfl⟩ := h2
  refine ⟨⟨_, rfl⟩, ?_⟩
  exact ⟨rfl, ⟨sd, ln, le, wk, tw, lo, ri, la, h, so, ho, pa, wa, r, nx, ct, q, z, kp, sf, at_, fo, Q, Z, hI, ⟨pl, sp, sc, dwk, dtw, dsf, dlo, dri, dla, dh, dso, dho, dpa, dwa, od, cm, _, hdz, rfl⟩, ⟨pl', wn, tn, rs, _, _, _, rl, rr, re, rh, rpa, rwd, rat, rfo, od', cm', rfl⟩⟩⟩
theorem pr_gone {wc wm : List va_E} (hR : R wc wm) (k0 c0 s0 w0 : Int32) : Pair mX7_gone 5 mX8_gone 5 [.int k0, .int c0, .int s0, .int w0] wc wm := by
  obtain ⟨sd, ln, le, wk, tw, lo, ri, la, h, so, ho, pa, wa, r, nx, ct, q, z, kp, sf, at_, fo, Q, Z, hI, ⟨pl, sp, sc, dwk, dtw, dsf, dlo, dri, dla, dh, dso, dho, dpa, dwa, od, cm, t, hdz, rfl⟩, ⟨pl', wn, tn, rs, ce, sa, ti, rl, rr, re, rh, rpa, rwd, rat, rfo, od', cm', rfl⟩⟩ := hR
  have hI0 := hI
  obtain ⟨⟨hln, hle, hg, hzh, hzs, hzo⟩, ⟨hrk, hup, hnx, hct, hkp⟩, ⟨hS, hT, hT2⟩, hq, hz⟩ := hI0
  refine ⟨_, _, ctX7_gone hg, ctX8_gone hg hS hT hrk, ?_⟩
  intro v u v' u' h1 h2
  obtain ⟨rfl, t2, rfl⟩ := h1
  obtain ⟨rfl, ce2, sa2, ti2, rfl⟩ := h2
  refine ⟨⟨_, rfl⟩, ?_⟩
  exact ⟨rfl, ⟨sd, ln, le, wk, tw, lo, ri, la, h, so, ho, pa, wa, r, nx, ct, q, z, kp, sf, at_, fo, Q, Z, hI, ⟨pl, sp, sc, dwk, dtw, dsf, dlo, dri, dla, dh, dso, dho, dpa, dwa, od, cm, _, hdz, rfl⟩, ⟨pl', wn, tn, rs, _, _, _, rl, rr, re, rh, rpa, rwd, rat, rfo, od', cm', rfl⟩⟩⟩
theorem pr_latest {wc wm : List va_E} (hR : R wc wm) (k0 : Int32) : Pair mX7_latest 5 mX8_latest 5 [.int k0] wc wm := by
  obtain ⟨sd, ln, le, wk, tw, lo, ri, la, h, so, ho, pa, wa, r, nx, ct, q, z, kp, sf, at_, fo, Q, Z, hI, ⟨pl, sp, sc, dwk, dtw, dsf, dlo, dri, dla, dh, dso, dho, dpa, dwa, od, cm, t, hdz, rfl⟩, ⟨pl', wn, tn, rs, ce, sa, ti, rl, rr, re, rh, rpa, rwd, rat, rfo, od', cm', rfl⟩⟩ := hR
  have hI0 := hI
  obtain ⟨⟨hln, hle, hg, hzh, hzs, hzo⟩, ⟨hrk, hup, hnx, hct, hkp⟩, ⟨hS, hT, hT2⟩, hq, hz⟩ := hI0
  refine ⟨_, _, ctX7_latest hg, ctX8_latest hg hS hT hrk, ?_⟩
  intro v u v' u' h1 h2
  obtain ⟨rfl, t2, rfl⟩ := h1
  obtain ⟨rfl, ce2, sa2, ti2, rfl⟩ := h2
  refine ⟨⟨_, rfl⟩, ?_⟩
  exact ⟨rfl, ⟨sd, ln, le, wk, tw, lo, ri, la, h, so, ho, pa, wa, r, nx, ct, q, z, kp, sf, at_, fo, Q, Z, hI, ⟨pl, sp, sc, dwk, dtw, dsf, dlo, dri, dla, dh, dso, dho, dpa, dwa, od, cm, _, hdz, rfl⟩, ⟨pl', wn, tn, rs, _, _, _, rl, rr, re, rh, rpa, rwd, rat, rfo, od', cm', rfl⟩⟩⟩
theorem pr_safest {wc wm : List va_E} (hR : R wc wm) (k0 x0 : Int32) : Pair mX7_safest 5 mX8_safest 5 [.int k0, .int x0] wc wm := by
  obtain ⟨sd, ln, le, wk, tw, lo, ri, la, h, so, ho, pa, wa, r, nx, ct, q, z, kp, sf, at_, fo, Q, Z, hI, ⟨pl, sp, sc, dwk, dtw, dsf, dlo, dri, dla, dh, dso, dho, dpa, dwa, od, cm, t, hdz, rfl⟩, ⟨pl', wn, tn, rs, ce, sa, ti, rl, rr, re, rh, rpa, rwd, rat, rfo, od', cm', rfl⟩⟩ := hR
  have hI0 := hI
  obtain ⟨⟨hln, hle, hg, hzh, hzs, hzo⟩, ⟨hrk, hup, hnx, hct, hkp⟩, ⟨hS, hT, hT2⟩, hq, hz⟩ := hI0
  refine ⟨_, _, ctX7_safest hg hrk, ctX8_safest hg hS hT hrk, ?_⟩
  intro v u v' u' h1 h2
  obtain ⟨rfl, t2, rfl⟩ := h1
  obtain ⟨rfl, ce2, sa2, ti2, rfl⟩ := h2
  refine ⟨⟨_, rfl⟩, ?_⟩
  exact ⟨rfl, ⟨sd, ln, le, wk, tw, lo, ri, la, h, so, ho, pa, wa, r, nx, ct, q, z, kp, sf, at_, fo, Q, Z, hI, ⟨pl, sp, sc, dwk, dtw, dsf, dlo, dri, dla, dh, dso, dho, dpa, dwa, od, cm, _, hdz, rfl⟩, ⟨pl', wn, tn, rs, _, _, _, rl, rr, re, rh, rpa, rwd, rat, rfo, od', cm', rfl⟩⟩⟩
theorem pr_shells {wc wm : List va_E} (hR : R wc wm) (k0 : Int32) : Pair mX7_shells 6 mX8_shells 5 [.int k0] wc wm := by
  obtain ⟨sd, ln, le, wk, tw, lo, ri, la, h, so, ho, pa, wa, r, nx, ct, q, z, kp, sf, at_, fo, Q, Z, hI, ⟨pl, sp, sc, dwk, dtw, dsf, dlo, dri, dla, dh, dso, dho, dpa, dwa, od, cm, t, hdz, rfl⟩, ⟨pl', wn, tn, rs, ce, sa, ti, rl, rr, re, rh, rpa, rwd, rat, rfo, od', cm', rfl⟩⟩ := hR
  have hI0 := hI
  obtain ⟨⟨hln, hle, hg, hzh, hzs, hzo⟩, ⟨hrk, hup, hnx, hct, hkp⟩, ⟨hS, hT, hT2⟩, hq, hz⟩ := hI0
  refine ⟨_, _, ctX7_shells hg hrk, ctX8_shells hg hS hT hrk, ?_⟩
  intro v u v' u' h1 h2
  obtain ⟨rfl, t2, rfl⟩ := h1
  obtain ⟨rfl, ce2, sa2, ti2, rfl⟩ := h2
  refine ⟨⟨_, rfl⟩, ?_⟩
  exact ⟨rfl, ⟨sd, ln, le, wk, tw, lo, ri, la, h, so, ho, pa, wa, r, nx, ct, q, z, kp, sf, at_, fo, Q, Z, hI, ⟨pl, sp, sc, dwk, dtw, dsf, dlo, dri, dla, dh, dso, dho, dpa, dwa, od, cm, _, hdz, rfl⟩, ⟨pl', wn, tn, rs, _, _, _, rl, rr, re, rh, rpa, rwd, rat, rfo, od', cm', rfl⟩⟩⟩
theorem pr_cut {wc wm : List va_E} (hR : R wc wm) (k0 : Int32) : Pair mX7_cut 3 mX8_cut 3 [.int k0] wc wm := by
  obtain ⟨sd, ln, le, wk, tw, lo, ri, la, h, so, ho, pa, wa, r, nx, ct, q, z, kp, sf, at_, fo, Q, Z, hI, ⟨pl, sp, sc, dwk, dtw, dsf, dlo, dri, dla, dh, dso, dho, dpa, dwa, od, cm, t, hdz, rfl⟩, ⟨pl', wn, tn, rs, ce, sa, ti, rl, rr, re, rh, rpa, rwd, rat, rfo, od', cm', rfl⟩⟩ := hR
  have hI0 := hI
  obtain ⟨⟨hln, hle, hg, hzh, hzs, hzo⟩, ⟨hrk, hup, hnx, hct, hkp⟩, ⟨hS, hT, hT2⟩, hq, hz⟩ := hI0
  refine ⟨_, _, ctX7_cut hg hrk (hrk.1 0), ctX8_cut hg hS hT hrk, ?_⟩
  intro v u v' u' h1 h2
  obtain ⟨rfl, rfl⟩ := h1
  obtain ⟨rfl, rfl⟩ := h2
  refine ⟨⟨_, rfl⟩, ?_⟩
  exact ⟨rfl, ⟨sd, ln, le, wk, tw, lo, ri, la, h, so, ho, pa, wa, r, nx, ct, q, z, kp, sf, at_, fo, Q, Z, hI, ⟨pl, sp, sc, dwk, dtw, dsf, dlo, dri, dla, dh, dso, dho, dpa, dwa, od, cm, _, hdz, rfl⟩, ⟨pl', wn, tn, rs, _, _, _, rl, rr, re, rh, rpa, rwd, rat, rfo, od', cm', rfl⟩⟩⟩
theorem pr_judged {wc wm : List va_E} (hR : R wc wm) (k0 n0 row0 : Int32) : Pair mX7_judged 3 mX8_judged 4 [.int k0, .int n0, .int row0] wc wm := by
  obtain ⟨sd, ln, le, wk, tw, lo, ri, la, h, so, ho, pa, wa, r, nx, ct, q, z, kp, sf, at_, fo, Q, Z, hI, ⟨pl, sp, sc, dwk, dtw, dsf, dlo, dri, dla, dh, dso, dho, dpa, dwa, od, cm, t, hdz, rfl⟩, ⟨pl', wn, tn, rs, ce, sa, ti, rl, rr, re, rh, rpa, rwd, rat, rfo, od', cm', rfl⟩⟩ := hR
  have hI0 := hI
  obtain ⟨⟨hln, hle, hg, hzh, hzs, hzo⟩, ⟨hrk, hup, hnx, hct, hkp⟩, ⟨hS, hT, hT2⟩, hq, hz⟩ := hI0
  refine ⟨_, _, ctX7_judged hg hrk, ctX8_judged hg hS hT hrk, ?_⟩
  intro v u v' u' h1 h2
  obtain ⟨rfl, t2, rfl⟩ := h1
  obtain ⟨rfl, ce2, sa2, ti2, rfl⟩ := h2
  refine ⟨⟨_, rfl⟩, ?_⟩
  exact ⟨rfl, ⟨sd, ln, le, wk, tw, lo, ri, la, h, so, ho, pa, wa, r, nx, ct, q, z, kp, sf, at_, fo, Q, Z, hI, ⟨pl, sp, sc, dwk, dtw, dsf, dlo, dri, dla, dh, dso, dho, dpa, dwa, od, cm, _, hdz, rfl⟩, ⟨pl', wn, tn, rs, _, _, _, rl, rr, re, rh, rpa, rwd, rat, rfo, od', cm', rfl⟩⟩⟩
theorem pr_ahead {wc wm : List va_E} (hR : R wc wm)  : Pair mX7_ahead 6 mX8_ahead 7 [] wc wm := by
  obtain ⟨sd, ln, le, wk, tw, lo, ri, la, h, so, ho, pa, wa, r, nx, ct, q, z, kp, sf, at_, fo, Q, Z, hI, ⟨pl, sp, sc, dwk, dtw, dsf, dlo, dri, dla, dh, dso, dho, dpa, dwa, od, cm, t, hdz, rfl⟩, ⟨pl', wn, tn, rs, ce, sa, ti, rl, rr, re, rh, rpa, rwd, rat, rfo, od', cm', rfl⟩⟩ := hR
  have hI0 := hI
  obtain ⟨⟨hln, hle, hg, hzh, hzs, hzo⟩, ⟨hrk, hup, hnx, hct, hkp⟩, ⟨hS, hT, hT2⟩, hq, hz⟩ := hI0
  refine ⟨_, _, ctX7_ahead hg, ctX8_ahead hg hS hT hrk, ?_⟩
  intro v u v' u' h1 h2
  obtain ⟨rfl, t2, rfl⟩ := h1
  obtain ⟨rfl, ce2, sa2, ti2, rfl⟩ := h2
  refine ⟨⟨_, rfl⟩, ?_⟩
  exact ⟨rfl, ⟨sd, ln, le, wk, tw, lo, ri, la, h, so, ho, pa, wa, r, nx, ct, q, z, kp, sf, at_, fo, Q, Z, hI, ⟨pl, sp, sc, dwk, dtw, dsf, dlo, dri, dla, dh, dso, dho, dpa, dwa, od, cm, _, hdz, rfl⟩, ⟨pl', wn, tn, rs, _, _, _, rl, rr, re, rh, rpa, rwd, rat, rfo, od', cm', rfl⟩⟩⟩
theorem pr_aheadOf {wc wm : List va_E} (hR : R wc wm) (k0 : Int32) : Pair mX7_aheadOf 6 mX8_aheadOf 7 [.int k0] wc wm := by
  obtain ⟨sd, ln, le, wk, tw, lo, ri, la, h, so, ho, pa, wa, r, nx, ct, q, z, kp, sf, at_, fo, Q, Z, hI, ⟨pl, sp, sc, dwk, dtw, dsf, dlo, dri, dla, dh, dso, dho, dpa, dwa, od, cm, t, hdz, rfl⟩, ⟨pl', wn, tn, rs, ce, sa, ti, rl, rr, re, rh, rpa, rwd, rat, rfo, od', cm', rfl⟩⟩ := hR
  have hI0 := hI
  obtain ⟨⟨hln, hle, hg, hzh, hzs, hzo⟩, ⟨hrk, hup, hnx, hct, hkp⟩, ⟨hS, hT, hT2⟩, hq, hz⟩ := hI0
  refine ⟨_, _, ctX7_aheadOf hg, ctX8_aheadOf hg hS hT hrk, ?_⟩
  intro v u v' u' h1 h2
  obtain ⟨rfl, t2, rfl⟩ := h1
  obtain ⟨rfl, ce2, sa2, ti2, rfl⟩ := h2
  refine ⟨⟨_, rfl⟩, ?_⟩
  exact ⟨rfl, ⟨sd, ln, le, wk, tw, lo, ri, la, h, so, ho, pa, wa, r, nx, ct, q, z, kp, sf, at_, fo, Q, Z, hI, ⟨pl, sp, sc, dwk, dtw, dsf, dlo, dri, dla, dh, dso, dho, dpa, dwa, od, cm, _, hdz, rfl⟩, ⟨pl', wn, tn, rs, _, _, _, rl, rr, re, rh, rpa, rwd, rat, rfo, od', cm', rfl⟩⟩⟩
theorem pr_saved {wc wm : List va_E} (hR : R wc wm)  : Pair mX7_saved 6 mX8_saved 6 [] wc wm := by
  obtain ⟨sd, ln, le, wk, tw, lo, ri, la, h, so, ho, pa, wa, r, nx, ct, q, z, kp, sf, at_, fo, Q, Z, hI, ⟨pl, sp, sc, dwk, dtw, dsf, dlo, dri, dla, dh, dso, dho, dpa, dwa, od, cm, t, hdz, rfl⟩, ⟨pl', wn, tn, rs, ce, sa, ti, rl, rr, re, rh, rpa, rwd, rat, rfo, od', cm', rfl⟩⟩ := hR
  have hI0 := hI
  obtain ⟨⟨hln, hle, hg, hzh, hzs, hzo⟩, ⟨hrk, hup, hnx, hct, hkp⟩, ⟨hS, hT, hT2⟩, hq, hz⟩ := hI0
  refine ⟨_, _, ctX7_saved hg hrk hup, ctX8_saved hg hS hT hrk hT2 hup, ?_⟩
  intro v u v' u' h1 h2
  obtain ⟨rfl, t2, rfl⟩ := h1
  obtain ⟨rfl, ce2, sa2, ti2, rfl⟩ := h2
  refine ⟨⟨_, rfl⟩, ?_⟩
  exact ⟨rfl, ⟨sd, ln, le, wk, tw, lo, ri, la, h, so, ho, pa, wa, r, nx, ct, q, z, kp, sf, at_, fo, Q, Z, hI, ⟨pl, sp, sc, dwk, dtw, dsf, dlo, dri, dla, dh, dso, dho, dpa, dwa, od, cm, _, hdz, rfl⟩, ⟨pl', wn, tn, rs, _, _, _, rl, rr, re, rh, rpa, rwd, rat, rfo, od', cm', rfl⟩⟩⟩
theorem pr_wind {wc wm : List va_E} (hR : R wc wm) (k0 t0 a0 b0 : Int32) {up : Nat} (hu : up ≤ 1) : Pair mX7_wind 5 mX8_wind 5 [.int k0, .int t0, .int a0, .int b0, .int (nI up)] wc wm := by
  obtain ⟨sd, ln, le, wk, tw, lo, ri, la, h, so, ho, pa, wa, r, nx, ct, q, z, kp, sf, at_, fo, Q, Z, hI, ⟨pl, sp, sc, dwk, dtw, dsf, dlo, dri, dla, dh, dso, dho, dpa, dwa, od, cm, t, hdz, rfl⟩, ⟨pl', wn, tn, rs, ce, sa, ti, rl, rr, re, rh, rpa, rwd, rat, rfo, od', cm', rfl⟩⟩ := hR
  have hI0 := hI
  obtain ⟨⟨hln, hle, hg, hzh, hzs, hzo⟩, ⟨hrk, hup, hnx, hct, hkp⟩, ⟨hS, hT, hT2⟩, hq, hz⟩ := hI0
  refine ⟨_, _, ctX7_wind hg hu, ctX8_wind hg hS hT hrk hu, ?_⟩
  intro v u v' u' h1 h2
  obtain ⟨rfl, t2, rfl⟩ := h1
  obtain ⟨rfl, ce2, sa2, ti2, rfl⟩ := h2
  refine ⟨⟨_, rfl⟩, ?_⟩
  exact ⟨rfl, ⟨sd, ln, le, wk, tw, lo, ri, la, h, so, ho, pa, wa, r, nx, ct, q, z, kp, sf, at_, fo, Q, Z, hI, ⟨pl, sp, sc, dwk, dtw, dsf, dlo, dri, dla, dh, dso, dho, dpa, dwa, od, cm, _, hdz, rfl⟩, ⟨pl', wn, tn, rs, _, _, _, rl, rr, re, rh, rpa, rwd, rat, rfo, od', cm', rfl⟩⟩⟩
theorem pr_sticks {wc wm : List va_E} (hR : R wc wm) (n0 x0 w0 : Int32) {up : Nat} (hu : up ≤ 1) : Pair mX7_sticks 2 mX8_sticks 2 [.int n0, .int x0, .int w0, .int (nI up)] wc wm := by
  obtain ⟨sd, ln, le, wk, tw, lo, ri, la, h, so, ho, pa, wa, r, nx, ct, q, z, kp, sf, at_, fo, Q, Z, hI, ⟨pl, sp, sc, dwk, dtw, dsf, dlo, dri, dla, dh, dso, dho, dpa, dwa, od, cm, t, hdz, rfl⟩, ⟨pl', wn, tn, rs, ce, sa, ti, rl, rr, re, rh, rpa, rwd, rat, rfo, od', cm', rfl⟩⟩ := hR
  have hI0 := hI
  obtain ⟨⟨hln, hle, hg, hzh, hzs, hzo⟩, ⟨hrk, hup, hnx, hct, hkp⟩, ⟨hS, hT, hT2⟩, hq, hz⟩ := hI0
  refine ⟨_, _, ctX7_sticks hu, ctX8_sticks hu, ?_⟩
  intro v u v' u' h1 h2
  obtain ⟨rfl, rfl⟩ := h1
  obtain ⟨rfl, rfl⟩ := h2
  refine ⟨⟨_, rfl⟩, ?_⟩
  exact ⟨rfl, ⟨sd, ln, le, wk, tw, lo, ri, la, h, so, ho, pa, wa, r, nx, ct, q, z, kp, sf, at_, fo, Q, Z, hI, ⟨pl, sp, sc, dwk, dtw, dsf, dlo, dri, dla, dh, dso, dho, dpa, dwa, od, cm, _, hdz, rfl⟩, ⟨pl', wn, tn, rs, _, _, _, rl, rr, re, rh, rpa, rwd, rat, rfo, od', cm', rfl⟩⟩⟩
