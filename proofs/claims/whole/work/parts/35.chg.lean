/-! part 35: the calls that change -/
theorem pgR_congr {r s : Nat → Nat} (h : ∀ k, k < 16 → r k = s k) : pgR r = pgR s := by
  funext k; unfold pgR
  by_cases h1 : k = 15
  · rw [if_pos h1, if_pos h1]; exact h 0 (by omega)
  · rw [if_neg h1, if_neg h1]
    by_cases h2 : 15 < k
    · rw [if_pos h2, if_pos h2]
    · rw [if_neg h2, if_neg h2, h (1 + k / 3) (by omega), h (6 + k / 3) (by omega), h (11 + k / 3) (by omega)]
theorem sUp_congr {r s : Nat → Nat} {wk : Nat} (hw : wk ≤ 5) (h : ∀ k, k < 16 → r k = s k) (c : Nat) : sUp r wk c = sUp s wk c := sCnt_congr (fun w hw2 => by rw [h (11 + w) (by omega), h (1 + w) (by omega)])
theorem upOK_congr {r s ho : Nat → Nat} {wk : Nat} (hw : wk ≤ 5) (h : ∀ k, k < 16 → r k = s k) (hu : upOK wk ho r) : upOK wk ho s := fun c hc => by rw [← sUp_congr hw h c]; exact hu c hc
theorem cpy_in {q r : Nat → Nat} {a k : Nat} (h : k < 16) : va_cpy q r a 0 16 k = q (a + k) := by unfold va_cpy; rw [if_pos (by omega)]; congr 1
theorem cpy_out {q r : Nat → Nat} {a k : Nat} (h : ¬ k < 16) : va_cpy q r a 0 16 k = r k := by unfold va_cpy; rw [if_neg (by omega)]
theorem rOK_of {r s x : Nat → Nat} (h : ∀ k, k < 16 → x k = s k) (hs : rOK s) (h2 : ∀ k, ¬ k < 16 → x k = r k) (hr : rOK r) : rOK x := by
  obtain ⟨a1, a2, a3, a4⟩ := hs
  refine ⟨fun k => ?_, fun k hk => ?_, fun k hk => ?_, fun k hk => ?_⟩
  · by_cases hk : k < 16
    · rw [h k hk]; exact a1 k
    · rw [h2 k hk]; exact hr.1 k
  · rw [h _ (by omega)]; exact a2 k hk
  · rw [h _ (by omega)]; exact a3 k hk
  · rw [h _ (by omega)]; exact a4 k hk
theorem ring_put {r q : Nat → Nat} {a s k : Nat} (hk : k < 16) : va_cpy r q 0 (a * 16) 16 (s * 16 + k) = if s = a then r k else q (s * 16 + k) := by
  unfold va_cpy
  by_cases h : s = a
  · rw [if_pos (by omega), if_pos h]; congr 1; omega
  · rw [if_neg (by omega), if_neg h]
/-- behind an act -/
theorem RI_act {sd : Int64} {ln : Nat} {le : Nat → Nat} {wk tw lo ri la : Nat} {h so ho pa wa r : Nat → Nat} {nx ct : Nat} {q z kp : Nat → Nat} {sf : Nat} {at_ fo : Nat → Nat} {Q Z : Nat → Nat → Nat} {r2 : Nat → Nat} (hI : RI sd ln le wk tw lo ri la h so ho pa wa r nx ct q z kp sf at_ fo Q Z) (h1 : rOK r2) (h2 : upOK wk ho r2) : RI sd ln le wk tw lo ri la h so ho pa wa r2 (nxP nx) (ctP ct) (va_cpy r q 0 (nx * 16) 16) z kp sf at_ fo (sNote Q ct r) Z := by
  obtain ⟨i1, ⟨hrk, hup, hnx, hct, hkp⟩, i3, hq, hz⟩ := hI
  have n1 : nxP nx < 16 := by unfold nxP; split <;> omega
  have c1 : ctP ct ≤ 16 := by unfold ctP; split <;> omega
  refine ⟨i1, ⟨h1, h2, n1, c1, hkp⟩, i3, fun i hi => ?_, hz⟩
  by_cases hc : ct < 16
  · have e1 : ctP ct = ct + 1 := if_pos hc
    have e2 : sNote Q ct r = fun i => if i = ct then r else Q i := if_neg (by omega)
    rw [e1] at hi
    rw [e1, e2]
    by_cases hi2 : i = ct
    · refine ⟨?_, ?_, fun k hk => ?_⟩
      · show rOK (if i = ct then r else Q i); rw [if_pos hi2]; exact hrk
      · show upOK wk ho (if i = ct then r else Q i); rw [if_pos hi2]; exact hup
      · show (if i = ct then r else Q i) k = _
        rw [if_pos hi2, ring_put hk, if_pos (by unfold nxP; split <;> omega)]
    · obtain ⟨g1, g2, g3⟩ := hq i (by omega)
      refine ⟨?_, ?_, fun k hk => ?_⟩
      · show rOK (if i = ct then r else Q i); rw [if_neg hi2]; exact g1
      · show upOK wk ho (if i = ct then r else Q i); rw [if_neg hi2]; exact g2
      · show (if i = ct then r else Q i) k = _
        have e3 : (nxP nx + 16 - (ct + 1) + i) % 16 = (nx + 16 - ct + i) % 16 := by unfold nxP; split <;> omega
        rw [if_neg hi2, e3, ring_put hk, if_neg (by omega)]
        exact g3 k hk
  · obtain rfl : ct = 16 := by omega
    have e1 : ctP 16 = 16 := rfl
    have e2 : sNote Q 16 r = fun i => if i < 15 then Q (i + 1) else if i = 15 then r else Q i := if_pos rfl
    rw [e1] at hi
    rw [e1, e2]
    by_cases hi2 : i < 15
    · obtain ⟨g1, g2, g3⟩ := hq (i + 1) (by omega)
      refine ⟨?_, ?_, fun k hk => ?_⟩
      · show rOK (if i < 15 then Q (i + 1) else if i = 15 then r else Q i); rw [if_pos hi2]; exact g1
      · show upOK wk ho (if i < 15 then Q (i + 1) else if i = 15 then r else Q i); rw [if_pos hi2]; exact g2
      · show (if i < 15 then Q (i + 1) else if i = 15 then r else Q i) k = _
        have e3 : (nxP nx + 16 - 16 + i) % 16 = (nx + 16 - 16 + (i + 1)) % 16 := by unfold nxP; split <;> omega
        rw [if_pos hi2, e3, ring_put hk, if_neg (by omega)]
        exact g3 k hk
    · have hi3 : i = 15 := by omega
      refine ⟨?_, ?_, fun k hk => ?_⟩
      · show rOK (if i < 15 then Q (i + 1) else if i = 15 then r else Q i); rw [if_neg hi2, if_pos hi3]; exact hrk
      · show upOK wk ho (if i < 15 then Q (i + 1) else if i = 15 then r else Q i); rw [if_neg hi2, if_pos hi3]; exact hup
      · show (if i < 15 then Q (i + 1) else if i = 15 then r else Q i) k = _
        rw [if_neg hi2, if_pos hi3, ring_put hk, if_pos (by unfold nxP; split <;> omega)]
theorem sUp_way {r : Nat → Nat} {wk k w c : Nat} (hw : wk ≤ 5) (hk : k < 5) : sUp (va_up r (6 + k) w) wk c = sUp r wk c := sCnt_congr (fun j hj => by rw [va_up_other (by omega), va_up_other (by omega)])
theorem rOK_wy {r : Nat → Nat} {k w : Nat} (h : rOK r) (hk : k < 5) (hw : w ≤ 2) : rOK (va_up r (6 + k) w) := by
  obtain ⟨hr, hr1, hr6, hr11⟩ := h
  refine ⟨fun j => ?_, fun j hj => ?_, fun j hj => ?_, fun j hj => ?_⟩ <;> unfold va_up <;> split <;> first | omega | exact hr _ | exact hr1 _ hj | exact hr6 _ hj | exact hr11 _ hj
/-- the same, of a call that answers a long -/
def PairL (M : gM) (d : Nat) (M' : gM) (d' : Nat) (as : List Value) (wc wm : List va_E) : Prop :=
  ∃ Pc Pm, Ct M d (.ref 0 :: as) wc Pc ∧ Ct M' d' (.ref 0 :: as) wm Pm ∧ ∀ v u v' u', Pc v u → Pm v' u' → (∃ x : Int64, v = some (.long x)) ∧ v' = v ∧ R u u' 
theorem pr_seed {wc wm : List va_E} (hR : R wc wm) (x : Int64) : PairL mX7_seed 0 mX8_seed 0 [.long x] wc wm := by
  obtain ⟨sd, ln, le, wk, tw, lo, ri, la, h, so, ho, pa, wa, r, nx, ct, q, z, kp, sf, at_, fo, Q, Z, hI, ⟨pl, sp, sc, dwk, dtw, dsf, dlo, dri, dla, dh, dso, dho, dpa, dwa, od, cm, t, hdz, rfl⟩, ⟨pl', wn, tn, rs, ce, sa, ti, rl, rr, re, rh, rpa, rwd, rat, rfo, od', cm', rfl⟩⟩ := hR
  have hI0 := hI
  obtain ⟨⟨hln, hle, hg, hzh, hzs, hzo⟩, ⟨hrk, hup, hnx, hct, hkp⟩, ⟨hS, hT, hT2⟩, hq, hz⟩ := hI0
  refine ⟨_, _, ctX7_seed , ctX8_seed , ?_⟩
  intro v u v' u' h1 h2
  obtain ⟨rfl, rfl⟩ := h1
  obtain ⟨rfl, rfl⟩ := h2
  refine ⟨⟨_, rfl⟩, ?_⟩
  exact ⟨rfl, ⟨x, ln, le, wk, tw, lo, ri, la, h, so, ho, pa, wa, r, nx, ct, q, z, kp, sf, at_, fo, Q, Z, hI, ⟨pl, sp, sc, dwk, dtw, dsf, dlo, dri, dla, dh, dso, dho, dpa, dwa, od, cm, _, hdz, rfl⟩, ⟨pl', wn, tn, rs, _, _, _, rl, rr, re, rh, rpa, rwd, rat, rfo, od', cm', rfl⟩⟩⟩
theorem pr_wipe {wc wm : List va_E} (hR : R wc wm)  : Pair mX7_wipe 1 mX8_wipe 0 [] wc wm := by
  obtain ⟨sd, ln, le, wk, tw, lo, ri, la, h, so, ho, pa, wa, r, nx, ct, q, z, kp, sf, at_, fo, Q, Z, hI, ⟨pl, sp, sc, dwk, dtw, dsf, dlo, dri, dla, dh, dso, dho, dpa, dwa, od, cm, t, hdz, rfl⟩, ⟨pl', wn, tn, rs, ce, sa, ti, rl, rr, re, rh, rpa, rwd, rat, rfo, od', cm', rfl⟩⟩ := hR
  have hI0 := hI
  obtain ⟨⟨hln, hle, hg, hzh, hzs, hzo⟩, ⟨hrk, hup, hnx, hct, hkp⟩, ⟨hS, hT, hT2⟩, hq, hz⟩ := hI0
  refine ⟨_, _, ctX7_wipe , ctX8_wipe , ?_⟩
  intro v u v' u' h1 h2
  obtain ⟨rfl, rfl⟩ := h1
  obtain ⟨rfl, rfl⟩ := h2
  refine ⟨⟨_, rfl⟩, ?_⟩
  exact ⟨rfl, ⟨sd, 0, le, wk, tw, lo, ri, la, h, so, ho, pa, wa, r, nx, ct, q, z, kp, sf, at_, fo, Q, Z, ⟨⟨by omega, hle, hg, hzh, hzs, hzo⟩, hI.2⟩, ⟨pl, sp, sc, dwk, dtw, dsf, dlo, dri, dla, dh, dso, dho, dpa, dwa, od, cm, _, hdz, rfl⟩, ⟨pl', wn, tn, rs, _, _, _, rl, rr, re, rh, rpa, rwd, rat, rfo, od', cm', rfl⟩⟩⟩
theorem pr_write {wc wm : List va_E} (hR : R wc wm) (x : Int32) : Pair mX7_write 1 mX8_write 1 [.int x] wc wm := by
  obtain ⟨sd, ln, le, wk, tw, lo, ri, la, h, so, ho, pa, wa, r, nx, ct, q, z, kp, sf, at_, fo, Q, Z, hI, ⟨pl, sp, sc, dwk, dtw, dsf, dlo, dri, dla, dh, dso, dho, dpa, dwa, od, cm, t, hdz, rfl⟩, ⟨pl', wn, tn, rs, ce, sa, ti, rl, rr, re, rh, rpa, rwd, rat, rfo, od', cm', rfl⟩⟩ := hR
  have hI0 := hI
  obtain ⟨⟨hln, hle, hg, hzh, hzs, hzo⟩, ⟨hrk, hup, hnx, hct, hkp⟩, ⟨hS, hT, hT2⟩, hq, hz⟩ := hI0
  refine ⟨_, _, ctX7_write hln, ctX8_write hln, ?_⟩
  intro v u v' u' h1 h2
  obtain ⟨rfl, rfl⟩ := h1
  obtain ⟨rfl, rfl⟩ := h2
  refine ⟨⟨_, rfl⟩, ?_⟩
  refine ⟨rfl, ?_⟩
  by_cases hc : cWrite ln x
  · rw [if_pos hc, if_pos hc]
    have hx : cN x ≤ 255 := by
      obtain ⟨y, hy, rfl⟩ := raw_lt hc.1
      rw [cN_n (by omega)]; omega
    exact ⟨sd, ln + 1, va_up le ln (cN x), wk, tw, lo, ri, la, h, so, ho, pa, wa, r, nx, ct, q, z, kp, sf, at_, fo, Q, Z, ⟨⟨by have := hc.2; omega, fun k => by unfold va_up; split; exact hx; exact hle k, hg, hzh, hzs, hzo⟩, hI.2⟩, ⟨pl, sp, sc, dwk, dtw, dsf, dlo, dri, dla, dh, dso, dho, dpa, dwa, od, cm, _, hdz, rfl⟩, ⟨pl', wn, tn, rs, _, _, _, rl, rr, re, rh, rpa, rwd, rat, rfo, od', cm', rfl⟩⟩
  · rw [if_neg hc, if_neg hc]
    exact ⟨sd, ln, le, wk, tw, lo, ri, la, h, so, ho, pa, wa, r, nx, ct, q, z, kp, sf, at_, fo, Q, Z, hI, ⟨pl, sp, sc, dwk, dtw, dsf, dlo, dri, dla, dh, dso, dho, dpa, dwa, od, cm, _, hdz, rfl⟩, ⟨pl', wn, tn, rs, _, _, _, rl, rr, re, rh, rpa, rwd, rat, rfo, od', cm', rfl⟩⟩
theorem pr_head {wc wm : List va_E} (hR : R wc wm) (k0 w0 : Int32) : Pair mX7_head 4 mX8_head 2 [.int k0, .int w0] wc wm := by
  obtain ⟨sd, ln, le, wk, tw, lo, ri, la, h, so, ho, pa, wa, r, nx, ct, q, z, kp, sf, at_, fo, Q, Z, hI, ⟨pl, sp, sc, dwk, dtw, dsf, dlo, dri, dla, dh, dso, dho, dpa, dwa, od, cm, t, hdz, rfl⟩, ⟨pl', wn, tn, rs, ce, sa, ti, rl, rr, re, rh, rpa, rwd, rat, rfo, od', cm', rfl⟩⟩ := hR
  have hI0 := hI
  obtain ⟨⟨hln, hle, hg, hzh, hzs, hzo⟩, ⟨hrk, hup, hnx, hct, hkp⟩, ⟨hS, hT, hT2⟩, hq, hz⟩ := hI0
  refine ⟨_, _, ctX7_head hg hrk hnx hct, ctX8_head hg hS hT hrk hct, ?_⟩
  intro v u v' u' h1 h2
  obtain ⟨rfl, rfl⟩ := h1
  obtain ⟨rfl, rfl⟩ := h2
  refine ⟨⟨_, rfl⟩, ?_⟩
  refine ⟨rfl, ?_⟩
  by_cases hc : cHead wk r k0 w0
  · rw [if_pos hc, if_pos hc]
    have hk5 : cN k0 < 5 ∧ cN w0 ≤ 2 := by
      have hwk := hg.2.2.2.2.2.1
      obtain ⟨k, hk, rfl⟩ := raw_lt hc.1
      obtain ⟨w, hw, rfl⟩ := raw_lt hc.2.1
      rw [cN_n (by omega), cN_n (by omega)]; omega
    exact ⟨sd, ln, le, wk, tw, lo, ri, la, h, so, ho, pa, wa, va_up r (6 + cN k0) (cN w0), nxP nx, ctP ct, va_cpy r q 0 (nx * 16) 16, z, kp, sf, at_, fo, sNote Q ct r, Z, RI_act hI (rOK_wy hrk hk5.1 hk5.2) (fun c hc2 => by rw [sUp_way hg.2.2.2.2.2.1 hk5.1]; exact hup c hc2), ⟨pl, sp, sc, dwk, dtw, dsf, dlo, dri, dla, dh, dso, dho, dpa, dwa, od, cm, _, hdz, rfl⟩, ⟨pl', wn, tn, rs, _, _, _, rl, rr, re, rh, rpa, rwd, rat, rfo, od', cm', rfl⟩⟩
  · rw [if_neg hc, if_neg hc]
    exact ⟨sd, ln, le, wk, tw, lo, ri, la, h, so, ho, pa, wa, r, nx, ct, q, z, kp, sf, at_, fo, Q, Z, hI, ⟨pl, sp, sc, dwk, dtw, dsf, dlo, dri, dla, dh, dso, dho, dpa, dwa, od, cm, _, hdz, rfl⟩, ⟨pl', wn, tn, rs, _, _, _, rl, rr, re, rh, rpa, rwd, rat, rfo, od', cm', rfl⟩⟩
