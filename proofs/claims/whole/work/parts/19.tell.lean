/-! part 19: the text; fault, bay -/
/-- the byte at a place, -1 behind the end -/
def lH (le : Nat → Nat) (ln p : Nat) : Int32 := if p < ln then nI (le p) else -1
/-- a figure from lo to hi stands there -/
abbrev dg (le : Nat → Nat) (ln p lo hi : Nat) : Prop := p < ln ∧ 48 + lo ≤ le p ∧ le p ≤ 48 + hi
def hR (f : Nat → Nat) (x : Int32) : Nat := if iW x 10 then f (cN x) else 0
theorem lH_toInt {le : Nat → Nat} {ln p : Nat} (hle : ∀ k, le k ≤ 255) : (lH le ln p - nI 48).toInt = if p < ln then (le p : Int) - 48 else -49 := by
  unfold lH
  have := hle p
  split
  · rw [pk_sub_toInt (by omega) (by omega)]; rfl
  · decide
theorem hR_eq {le f : Nat → Nat} {ln p : Nat} (hle : ∀ k, le k ≤ 255) : hR f (lH le ln p - nI 48) = if p < ln ∧ 48 ≤ le p ∧ le p ≤ 57 then f (le p - 48) else 0 := by
  have h := lH_toInt (le := le) (ln := ln) (p := p) hle
  have := hle p
  unfold hR
  by_cases c : p < ln ∧ 48 ≤ le p ∧ le p ≤ 57
  · rw [if_pos c.1] at h
    rw [if_pos c, if_pos (by unfold iW; omega), show lH le ln p - nI 48 = nI (le p - 48) by unfold lH; rw [if_pos c.1]; exact pk_sub c.2.1, cN_n (by omega)]
  · rw [if_neg c, if_neg]
    intro z
    unfold iW at z
    split at h <;> omega
/-- what stands at a place of the head -/
def hHi (le : Nat → Nat) : Nat → Nat
  | 11 => 4
  | 12 => if le 11 = 52 then 0 else 9
  | 13 => 3
  | _ => 9
def hLo : Nat → Nat
  | 13 => 1
  | _ => 0
def hOK (le : Nat → Nat) (ln i : Nat) : Bool := if i = 0 then decide (0 < ln ∧ le 0 = 66) else decide (dg le ln i (hLo i) (hHi le i))
/-- the head read so far: where one stands; stopped (1) or not (0) -/
def hP (le : Nat → Nat) (ln : Nat) : Nat → Nat
  | 0 => 0
  | i + 1 => if hP le ln i = i ∧ hOK le ln i = true then i + 1 else hP le ln i
def hS (le : Nat → Nat) (ln i : Nat) : Nat := if hP le ln i = i then 0 else 1
theorem hP_le (le : Nat → Nat) (ln : Nat) : ∀ i, hP le ln i ≤ i
  | 0 => Nat.le_refl _
  | i + 1 => by
    have := hP_le le ln i
    rw [hP]; split <;> omega
theorem hP_lt (le : Nat → Nat) (ln : Nat) : ∀ i, hP le ln i = i → i ≤ ln
  | 0, _ => Nat.zero_le _
  | i + 1, h => by
    have h2 := hP_le le ln i
    rw [hP] at h
    split at h
    · rename_i c
      have c2 := c.2
      unfold hOK at c2
      split at c2
      · have := of_decide_eq_true c2; omega
      · have := (of_decide_eq_true c2).1; omega
    · omega
theorem hP_prev {le : Nat → Nat} {ln i : Nat} (h : hP le ln (i + 1) = i + 1) : hP le ln i = i ∧ hOK le ln i = true := by
  have h2 := hP_le le ln i
  rw [hP] at h
  split at h
  · assumption
  · omega
theorem hP_down {le : Nat → Nat} {ln : Nat} : ∀ {n i : Nat}, hP le ln (i + n) = i + n → hP le ln i = i
  | 0, _, h => h
  | n + 1, i, h => hP_down (hP_prev h).1
abbrev fOK (le : Nat → Nat) (ln p s lo hi : Nat) : Prop := dg le ln p lo hi ∧ s = 0
theorem fOK_hP {le : Nat → Nat} {ln i : Nat} (h0 : i ≠ 0) : fOK le ln (hP le ln i) (hS le ln i) (hLo i) (hHi le i) ↔ hP le ln i = i ∧ hOK le ln i = true := by
  unfold fOK hS hOK
  rw [if_neg h0]
  by_cases c : hP le ln i = i
  · rw [if_pos c, c]; simp
  · rw [if_neg c]; simp [c]
theorem hP_s {le : Nat → Nat} {ln i lo hi : Nat} (h0 : i ≠ 0) (e1 : hLo i = lo) (e2 : hHi le i = hi ∨ hP le ln i ≠ i) : hP le ln (i + 1) = (if fOK le ln (hP le ln i) (hS le ln i) lo hi then hP le ln i + 1 else hP le ln i) ∧ hS le ln (i + 1) = (if fOK le ln (hP le ln i) (hS le ln i) lo hi then 0 else 1) := by
  have key : fOK le ln (hP le ln i) (hS le ln i) lo hi ↔ hP le ln i = i ∧ hOK le ln i = true := by
    rcases e2 with e2 | e2
    · rw [← e1, ← e2]; exact fOK_hP h0
    · constructor
      · intro z; have := z.2; unfold hS at this; rw [if_neg e2] at this; omega
      · intro z; exact absurd z.1 e2
  have hle := hP_le le ln i
  constructor
  · rw [hP]
    by_cases c : hP le ln i = i ∧ hOK le ln i = true
    · rw [if_pos c, if_pos (key.mpr c), c.1]
    · rw [if_neg c, if_neg (fun z => c (key.mp z))]
  · unfold hS
    rw [hP]
    by_cases c : hP le ln i = i ∧ hOK le ln i = true
    · rw [if_pos c, if_pos rfl]
      exact (if_pos (key.mpr c)).symm
    · rw [if_neg c, if_neg (by omega)]
      exact (if_neg (fun z => c (key.mp z))).symm
/-- what the parts told: place, walkers and where they stand, towers and where, soft ones -/
def hoOf (le : Nat → Nat) (tw : Nat) (tp : Nat → Nat) : Nat → Nat := fun c => if 0 < tw ∧ le (tp 0 + 1) - 48 = c then le (tp 0 + 2) - 48 else if 1 < tw ∧ le (tp 1 + 1) - 48 = c then le (tp 1 + 2) - 48 else 0
def paOf (le : Nat → Nat) (wk : Nat) (wp pa : Nat → Nat) : Nat → Nat := fun k => if k < wk then le (wp k + 1) - 48 else pa k
def waOf (le : Nat → Nat) (wk : Nat) (wp wa : Nat → Nat) : Nat → Nat := fun k => if k < wk then le (wp k + 2) - 48 else wa k
abbrev tX : Type := Nat × Nat × (Nat → Nat) × Nat × (Nat → Nat) × Nat × (Nat → Nat)
def sPart (le : Nat → Nat) (ln p wk : Nat) (wp : Nat → Nat) (tw : Nat) (tp : Nat → Nat) (sf : Nat) (so : Nat → Nat) : Nat ⊕ tX :=
  if le p = 87 ∧ wk < 5 then (if dg le ln (p + 1) 1 3 then (if dg le ln (p + 2) 0 5 then .inr (p + 3, wk + 1, va_up wp wk p, tw, tp, sf, so) else .inl (p + 2)) else .inl (p + 1))
  else if le p = 84 ∧ tw < 2 then (if dg le ln (p + 1) 1 8 ∧ hoOf le tw tp (le (p + 1) - 48) = 0 then (if dg le ln (p + 2) 1 4 then .inr (p + 3, wk, wp, tw + 1, va_up tp tw p, sf, so) else .inl (p + 2)) else .inl (p + 1))
  else if le p = 83 ∧ sf < 8 then (if dg le ln (p + 1) 1 8 ∧ so (le (p + 1) - 48) = 0 then .inr (p + 2, wk, wp, tw, tp, sf + 1, va_up so (le (p + 1) - 48) 1) else .inl (p + 1))
  else .inl p
def sParts (le : Nat → Nat) (ln : Nat) : Nat → Nat → Nat → (Nat → Nat) → Nat → (Nat → Nat) → Nat → (Nat → Nat) → Nat ⊕ tX
  | 0, p, wk, wp, tw, tp, sf, so => .inr (p, wk, wp, tw, tp, sf, so)
  | n + 1, p, wk, wp, tw, tp, sf, so => if p < ln then (match sPart le ln p wk wp tw tp sf so with
      | .inl f => .inl f
      | .inr X => sParts le ln n X.1 X.2.1 X.2.2.1 X.2.2.2.1 X.2.2.2.2.1 X.2.2.2.2.2.1 X.2.2.2.2.2.2) else .inr (p, wk, wp, tw, tp, sf, so)
def z0 : Nat → Nat := fun _ => 0
def sRun (le : Nat → Nat) (ln : Nat) : Nat ⊕ tX := if hP le ln 15 = 15 then sParts le ln 56 15 0 z0 0 z0 0 z0 else .inl (hP le ln 15)
def rF : Nat ⊕ tX → Int32
  | .inl f => nI f
  | .inr _ => -9
def zb (f : Nat → Nat) : Prop := ∀ j, 10 ≤ j → f j = 0
theorem zb_zf {f : Nat → Nat} (h : zb f) : zf 10 f = z0 := by
  funext j
  unfold zf z0
  split
  · rfl
  · exact h j (by omega)
theorem zb_up {f : Nat → Nat} (h : zb f) {k x : Nat} (hk : k < 10) : zb (va_up f k x) := fun j hj => by rw [va_up_other (by omega)]; exact h j hj
theorem zb_0 : zb z0 := fun _ _ => rfl
def hgt (le : Nat → Nat) : Nat → Nat := cpf 10 (fun j => le (1 + j) - 48) z0
theorem ctX4_letterHere {e0 e3 e4 e5 e6 e7 e8 e9 e10 e11 e12 e13 e14 e16 e17 e19 e21 e22 e23 e25 e26 : va_E} {le : Nat → Nat} {ln pl sp : Nat} (hln : ln ≤ 56) (hpl : pl ≤ 60) : Ct mX4_letterHere 0 [.ref 1] (wC e0 (kT ln pl sp) (kI 56 le) e3 e4 e5 e6 e7 e8 e9 e10 e11 e12 e13 e14 e16 e17 e19 e21 e22 e23 e25 e26) (gE (some (.int (lH le ln pl))) (wC e0 (kT ln pl sp) (kI 56 le) e3 e4 e5 e6 e7 e8 e9 e10 e11 e12 e13 e14 e16 e17 e19 e21 e22 e23 e25 e26)) := by
  refine Ct.of (by decide) (by exact Nat.le_of_ble_eq_true rfl) ?_
  show Go mX4_letterHere 0 0 [(0, .ref 1)] [] (wC e0 (kT ln pl sp) (kI 56 le) e3 e4 e5 e6 e7 e8 e9 e10 e11 e12 e13 e14 e16 e17 e19 e21 e22 e23 e25 e26) (gE (some (.int (lH le ln pl))) (wC e0 (kT ln pl sp) (kI 56 le) e3 e4 e5 e6 e7 e8 e9 e10 e11 e12 e13 e14 e16 e17 e19 e21 e22 e23 e25 e26))
  refine g_aload_n (i := 0) (j := 0) dX4_letterHere_0 rfl rfl ?_
  refine g_get fX4_19 rfl rfl dX4_letterHere_1 ?_
  refine n_if_lt (tgt := 39) (by omega) dX4_letterHere_4 (by decide) ?_
  refine g_aload_n (i := 0) (j := 0) dX4_letterHere_7 rfl rfl ?_
  refine g_get fX4_19 rfl rfl dX4_letterHere_8 ?_
  refine g_aload_n (i := 0) (j := 0) dX4_letterHere_11 rfl rfl ?_
  refine g_get fX4_15 rfl rfl dX4_letterHere_12 ?_
  refine n_icmp_ge (tgt := 39) (by omega) (by omega) dX4_letterHere_15 (by decide) (fun h15 => ?_) (fun h15 => ?_)
  · refine g_iconst (v := (-1)) dX4_letterHere_39 (by decide) ?_
    refine g_iret rfl rfl dX4_letterHere_40 ?_
    refine gE_r ?_ rfl
    unfold lH
    rw [if_neg (by omega)]
  · refine g_aload_n (i := 0) (j := 0) dX4_letterHere_18 rfl rfl ?_
    refine g_get fX4_19 rfl rfl dX4_letterHere_19 ?_
    refine g_bipush (v := nI 56) dX4_letterHere_22 (by decide) ?_
    refine n_icmp_ge (tgt := 39) (by omega) (rng_lit 56 rfl) dX4_letterHere_24 (by decide) (fun h24 => ?_) (fun h24 => ?_)
    · exfalso; omega
    · refine g_aload_n (i := 0) (j := 0) dX4_letterHere_27 rfl rfl ?_
      refine g_get fX4_9 rfl rfl dX4_letterHere_28 ?_
      refine g_aload_n (i := 0) (j := 0) dX4_letterHere_31 rfl rfl ?_
      refine g_get fX4_19 rfl rfl dX4_letterHere_32 ?_
      refine n_iald (x := pl) rfl (by omega) (rng_lit 56 rfl) dX4_letterHere_35 ?_
      refine g_goto (tgt := 40) dX4_letterHere_36 (by decide) ?_
      refine g_iret rfl rfl dX4_letterHere_40 ?_
      refine gE_r ?_ rfl
      unfold lH
      rw [if_pos (by omega)]

theorem lp_fig_n {e0 e3 e4 e5 e6 e7 e8 e9 e10 e11 e12 e13 e14 e16 e17 e19 e21 e22 e23 e25 e26 : va_E} {le : Nat → Nat} {ln pl sp lo hi : Nat} (hln : ln ≤ 56) (hpl : pl ≤ 60) (hsp : sp ≤ 1) (hlo : lo ≤ 1) (hhi : hi ≤ 9) (hle : ∀ k, le k ≤ 255) {x : Nat} (hx : x = le pl - 48) (h48 : 48 ≤ le pl) (hp : pl < ln) : Go mX4_figure 1 8 [(3, .int (nI x)), (0, .ref 1), (1, .int (nI lo)), (2, .int (nI hi))] [] (wC e0 (kT ln pl sp) (kI 56 le) e3 e4 e5 e6 e7 e8 e9 e10 e11 e12 e13 e14 e16 e17 e19 e21 e22 e23 e25 e26) (gE (some (.int (nI (if fOK le ln pl sp lo hi then le pl - 48 else lo)))) (wC e0 (kT ln (if fOK le ln pl sp lo hi then pl + 1 else pl) (if fOK le ln pl sp lo hi then 0 else 1)) (kI 56 le) e3 e4 e5 e6 e7 e8 e9 e10 e11 e12 e13 e14 e16 e17 e19 e21 e22 e23 e25 e26)) := by
  have q1 := hle pl
  refine g_iload_n (i := 3) (j := 0) dX4_figure_8 rfl rfl ?_
  refine g_iload_n (i := 1) (j := 2) dX4_figure_9 rfl rfl ?_
  refine n_icmp_lt (tgt := 18) (by omega) (by omega) dX4_figure_10 (by decide) (fun h10 => ?_) (fun h10 => ?_)
  · refine g_aload_n (i := 0) (j := 1) dX4_figure_18 rfl rfl ?_
    refine g_iconst (v := nI 1) dX4_figure_19 (by decide) ?_
    refine n_putZ (by omega) (ws' := wC e0 (kT ln pl 1) (kI 56 le) e3 e4 e5 e6 e7 e8 e9 e10 e11 e12 e13 e14 e16 e17 e19 e21 e22 e23 e25 e26) fX4_22 fp_X4_3 rfl (by exact Nat.le_of_ble_eq_true rfl) dX4_figure_20 rfl ?_
    refine g_aload_n (i := 0) (j := 1) dX4_figure_23 rfl rfl ?_
    refine g_get fX4_22 rfl rfl dX4_figure_24 ?_
    refine n_if_eq (tgt := 32) (rng_lit 1 rfl) dX4_figure_27 (by decide) (fun h27 => ?_) (fun h27 => ?_)
    · exact absurd h27 (by decide)
    · refine g_iload_n (i := 1) (j := 2) dX4_figure_30 rfl rfl ?_
      refine g_iret rfl rfl dX4_figure_31 ?_
      have hk : ¬ (fOK le ln pl sp lo hi) := by unfold fOK dg; omega
      refine gE_n ?_ ?_
      · rw [if_neg hk]
      · rw [if_neg hk, if_neg hk]
  · refine g_iload_n (i := 3) (j := 0) dX4_figure_13 rfl rfl ?_
    refine g_iload_n (i := 2) (j := 3) dX4_figure_14 rfl rfl ?_
    refine n_icmp_le (tgt := 23) (by omega) (by omega) dX4_figure_15 (by decide) (fun h15 => ?_) (fun h15 => ?_)
    · refine g_aload_n (i := 0) (j := 1) dX4_figure_23 rfl rfl ?_
      refine g_get fX4_22 rfl rfl dX4_figure_24 ?_
      refine n_if_eq (tgt := 32) (by omega) dX4_figure_27 (by decide) (fun h27 => ?_) (fun h27 => ?_)
      · refine g_aload_n (i := 0) (j := 1) dX4_figure_32 rfl rfl ?_
        refine g_dup dX4_figure_33 rfl ?_
        refine g_get fX4_19 rfl rfl dX4_figure_34 ?_
        refine g_iconst (v := nI 1) dX4_figure_37 (by decide) ?_
        refine n_iadd (a := pl) (b := 1) dX4_figure_38 ?_
        refine n_putI (ws' := wC e0 (kT ln (pl + 1) sp) (kI 56 le) e3 e4 e5 e6 e7 e8 e9 e10 e11 e12 e13 e14 e16 e17 e19 e21 e22 e23 e25 e26) fX4_19 fp_X4_2 rfl (by exact Nat.le_of_ble_eq_true rfl) dX4_figure_39 rfl ?_
        refine g_iload_n (i := 3) (j := 0) dX4_figure_42 rfl rfl ?_
        refine g_iret rfl rfl dX4_figure_43 ?_
        have hs1 : sp = 0 := by omega
        have hk : fOK le ln pl sp lo hi := by unfold fOK dg; omega
        refine gE_n ?_ ?_
        · rw [if_pos hk]; exact hx
        · rw [if_pos hk, if_pos hk, hs1]
      · refine g_iload_n (i := 1) (j := 2) dX4_figure_30 rfl rfl ?_
        refine g_iret rfl rfl dX4_figure_31 ?_
        have hs1 : sp = 1 := by omega
        have hk : ¬ (fOK le ln pl sp lo hi) := by unfold fOK dg; omega
        refine gE_n ?_ ?_
        · rw [if_neg hk]
        · rw [if_neg hk, if_neg hk, hs1]
    · refine g_aload_n (i := 0) (j := 1) dX4_figure_18 rfl rfl ?_
      refine g_iconst (v := nI 1) dX4_figure_19 (by decide) ?_
      refine n_putZ (by omega) (ws' := wC e0 (kT ln pl 1) (kI 56 le) e3 e4 e5 e6 e7 e8 e9 e10 e11 e12 e13 e14 e16 e17 e19 e21 e22 e23 e25 e26) fX4_22 fp_X4_3 rfl (by exact Nat.le_of_ble_eq_true rfl) dX4_figure_20 rfl ?_
      refine g_aload_n (i := 0) (j := 1) dX4_figure_23 rfl rfl ?_
      refine g_get fX4_22 rfl rfl dX4_figure_24 ?_
      refine n_if_eq (tgt := 32) (rng_lit 1 rfl) dX4_figure_27 (by decide) (fun h27 => ?_) (fun h27 => ?_)
      · exact absurd h27 (by decide)
      · refine g_iload_n (i := 1) (j := 2) dX4_figure_30 rfl rfl ?_
        refine g_iret rfl rfl dX4_figure_31 ?_
        have hk : ¬ (fOK le ln pl sp lo hi) := by unfold fOK dg; omega
        refine gE_n ?_ ?_
        · rw [if_neg hk]
        · rw [if_neg hk, if_neg hk]

theorem lp_fig_i {e0 e3 e4 e5 e6 e7 e8 e9 e10 e11 e12 e13 e14 e16 e17 e19 e21 e22 e23 e25 e26 : va_E} {le : Nat → Nat} {ln pl sp lo hi : Nat} (hln : ln ≤ 56) (hpl : pl ≤ 60) (hsp : sp ≤ 1) (hlo : lo ≤ 1) (hhi : hi ≤ 9) (hle : ∀ k, le k ≤ 255) {y : Int32} (hy : y.toInt < 0) (hno : ¬ (pl < ln ∧ 48 ≤ le pl)) : Go mX4_figure 1 8 [(3, .int y), (0, .ref 1), (1, .int (nI lo)), (2, .int (nI hi))] [] (wC e0 (kT ln pl sp) (kI 56 le) e3 e4 e5 e6 e7 e8 e9 e10 e11 e12 e13 e14 e16 e17 e19 e21 e22 e23 e25 e26) (gE (some (.int (nI (if fOK le ln pl sp lo hi then le pl - 48 else lo)))) (wC e0 (kT ln (if fOK le ln pl sp lo hi then pl + 1 else pl) (if fOK le ln pl sp lo hi then 0 else 1)) (kI 56 le) e3 e4 e5 e6 e7 e8 e9 e10 e11 e12 e13 e14 e16 e17 e19 e21 e22 e23 e25 e26)) := by
  have ql := nI_toInt (n := lo) (by omega)
  refine g_iload_n (i := 3) (j := 0) dX4_figure_8 rfl rfl ?_
  refine g_iload_n (i := 1) (j := 2) dX4_figure_9 rfl rfl ?_
  refine g_icmp_lt (tgt := 18) dX4_figure_10 (by decide) (fun h10 => ?_) (fun h10 => ?_)
  · refine g_aload_n (i := 0) (j := 1) dX4_figure_18 rfl rfl ?_
    refine g_iconst (v := nI 1) dX4_figure_19 (by decide) ?_
    refine n_putZ (by omega) (ws' := wC e0 (kT ln pl 1) (kI 56 le) e3 e4 e5 e6 e7 e8 e9 e10 e11 e12 e13 e14 e16 e17 e19 e21 e22 e23 e25 e26) fX4_22 fp_X4_3 rfl (by exact Nat.le_of_ble_eq_true rfl) dX4_figure_20 rfl ?_
    refine g_aload_n (i := 0) (j := 1) dX4_figure_23 rfl rfl ?_
    refine g_get fX4_22 rfl rfl dX4_figure_24 ?_
    refine n_if_eq (tgt := 32) (rng_lit 1 rfl) dX4_figure_27 (by decide) (fun h27 => ?_) (fun h27 => ?_)
    · exact absurd h27 (by decide)
    · refine g_iload_n (i := 1) (j := 2) dX4_figure_30 rfl rfl ?_
      refine g_iret rfl rfl dX4_figure_31 ?_
      have hk : ¬ (fOK le ln pl sp lo hi) := by unfold fOK dg; omega
      refine gE_n ?_ ?_
      · rw [if_neg hk]
      · rw [if_neg hk, if_neg hk]
  · exact absurd (Int32.lt_iff_toInt_lt.mpr (by omega)) h10

theorem ctX4_figure {e0 e3 e4 e5 e6 e7 e8 e9 e10 e11 e12 e13 e14 e16 e17 e19 e21 e22 e23 e25 e26 : va_E} {le : Nat → Nat} {ln pl sp lo hi : Nat} (hln : ln ≤ 56) (hpl : pl ≤ 60) (hsp : sp ≤ 1) (hlo : lo ≤ 1) (hhi : hi ≤ 9) (hle : ∀ k, le k ≤ 255) : Ct mX4_figure 1 [.ref 1, .int (nI lo), .int (nI hi)] (wC e0 (kT ln pl sp) (kI 56 le) e3 e4 e5 e6 e7 e8 e9 e10 e11 e12 e13 e14 e16 e17 e19 e21 e22 e23 e25 e26) (gE (some (.int (nI (if fOK le ln pl sp lo hi then le pl - 48 else lo)))) (wC e0 (kT ln (if fOK le ln pl sp lo hi then pl + 1 else pl) (if fOK le ln pl sp lo hi then 0 else 1)) (kI 56 le) e3 e4 e5 e6 e7 e8 e9 e10 e11 e12 e13 e14 e16 e17 e19 e21 e22 e23 e25 e26)) := by
  refine Ct.of (by decide) (by exact Nat.le_of_ble_eq_true rfl) ?_
  show Go mX4_figure 1 0 [(0, .ref 1), (1, .int (nI lo)), (2, .int (nI hi))] [] (wC e0 (kT ln pl sp) (kI 56 le) e3 e4 e5 e6 e7 e8 e9 e10 e11 e12 e13 e14 e16 e17 e19 e21 e22 e23 e25 e26) (gE (some (.int (nI (if fOK le ln pl sp lo hi then le pl - 48 else lo)))) (wC e0 (kT ln (if fOK le ln pl sp lo hi then pl + 1 else pl) (if fOK le ln pl sp lo hi then 0 else 1)) (kI 56 le) e3 e4 e5 e6 e7 e8 e9 e10 e11 e12 e13 e14 e16 e17 e19 e21 e22 e23 e25 e26))
  have q1 := hle pl
  have ql := lH_toInt (le := le) (ln := ln) (p := pl) hle
  refine g_aload_n (i := 0) (j := 0) dX4_figure_0 rfl rfl ?_
  refine c_V (st1 := [.int (lH le ln pl)]) (ctX4_letterHere  (by omega) (by omega)) kX4_letterHere lX4_38 (by decide) rfl rfl rfl rfl (by exact Nat.le_of_ble_eq_true rfl) dX4_figure_1 rfl rfl ?_
  refine g_bipush (v := nI 48) dX4_figure_4 (by decide) ?_
  refine g_isub dX4_figure_6 ?_
  refine g_istore_n (i := 3) (lv' := [(3, .int ((lH le ln pl) - (nI 48))), (0, .ref 1), (1, .int (nI lo)), (2, .int (nI hi))]) dX4_figure_7 rfl (by decide) rfl ?_
  refine g_lv [0, 1, 2, 3] rfl ?_
  by_cases c : pl < ln ∧ 48 ≤ le pl
  · refine g_lvE (lv' := [(3, .int (nI (le pl - 48))), (0, .ref 1), (1, .int (nI lo)), (2, .int (nI hi))]) (by unfold lH; rw [if_pos c.1, pk_sub c.2]; rfl) ?_
    exact lp_fig_n hln hpl hsp hlo hhi hle rfl c.2 c.1
  · exact lp_fig_i hln hpl hsp hlo hhi hle (by rw [ql]; split <;> omega) c

theorem ctX1_holdOf_r3 {e0 e1 e2 e4 e5 e7 e8 e9 e10 e11 e12 e13 e14 e16 e17 e19 e21 e22 e23 e25 e26 : va_E} {f : Nat → Nat} {wk tw sf lo ri la : Nat} {x : Int32} : Ct mX1_holdOf 1 [.ref 3, .int x] (wC e0 e1 e2 (kG3 wk tw sf lo ri la) e4 e5 (kI 10 f) e7 e8 e9 e10 e11 e12 e13 e14 e16 e17 e19 e21 e22 e23 e25 e26) (gE (some (.int (nI (hR f x)))) (wC e0 e1 e2 (kG3 wk tw sf lo ri la) e4 e5 (kI 10 f) e7 e8 e9 e10 e11 e12 e13 e14 e16 e17 e19 e21 e22 e23 e25 e26)) := by
  refine Ct.of (by decide) (by exact Nat.le_of_ble_eq_true rfl) ?_
  show Go mX1_holdOf 1 0 [(0, .ref 3), (1, .int x)] [] (wC e0 e1 e2 (kG3 wk tw sf lo ri la) e4 e5 (kI 10 f) e7 e8 e9 e10 e11 e12 e13 e14 e16 e17 e19 e21 e22 e23 e25 e26) (gE (some (.int (nI (hR f x)))) (wC e0 e1 e2 (kG3 wk tw sf lo ri la) e4 e5 (kI 10 f) e7 e8 e9 e10 e11 e12 e13 e14 e16 e17 e19 e21 e22 e23 e25 e26))
  refine g_iload_n (i := 1) (j := 1) dX1_holdOf_0 rfl rfl ?_
  refine c_N (st1 := [.int (nI (bN (0 ≤ x.toInt ∧ x.toInt ≤ 9)))]) (ctX7_isCell (x := x) ) kX7_isCell lX1_41 (by decide) rfl (by exact Nat.le_of_ble_eq_true rfl) dX1_holdOf_1 rfl rfl ?_
  refine b_if_eq (tgt := 16) dX1_holdOf_4 (by decide) (fun h4 => ?_) (fun h4 => ?_)
  · refine g_iconst (v := nI 0) dX1_holdOf_16 (by decide) ?_
    refine g_iret rfl rfl dX1_holdOf_17 ?_
    refine gE_n ?_ rfl
    unfold hR
    rw [if_neg (by unfold iW; omega)]
  · obtain ⟨c, hc, rfl⟩ := raw_lt (x := x) (n := 10) (by omega)
    refine g_aload_n (i := 0) (j := 0) dX1_holdOf_7 rfl rfl ?_
    refine g_get fX1_19 rfl rfl dX1_holdOf_8 ?_
    refine g_iload_n (i := 1) (j := 1) dX1_holdOf_11 rfl rfl ?_
    refine n_iald (x := c) rfl (by omega) (rng_lit 10 rfl) dX1_holdOf_12 ?_
    refine g_goto (tgt := 17) dX1_holdOf_13 (by decide) ?_
    refine g_iret rfl rfl dX1_holdOf_17 ?_
    refine gE_n ?_ rfl
    unfold hR
    rw [if_pos ((iW_n (by omega)).mpr (by omega)), cN_n (by omega)]

theorem ctX1_isSoft_r3 {e0 e1 e2 e4 e6 e7 e8 e9 e10 e11 e12 e13 e14 e16 e17 e19 e21 e22 e23 e25 e26 : va_E} {f : Nat → Nat} {wk tw sf lo ri la : Nat} {x : Int32} (hf : ∀ k, f k ≤ 1) : Ct mX1_isSoft 1 [.ref 3, .int x] (wC e0 e1 e2 (kG3 wk tw sf lo ri la) e4 (kZ 10 f) e6 e7 e8 e9 e10 e11 e12 e13 e14 e16 e17 e19 e21 e22 e23 e25 e26) (gE (some (.int (nI (hR f x)))) (wC e0 e1 e2 (kG3 wk tw sf lo ri la) e4 (kZ 10 f) e6 e7 e8 e9 e10 e11 e12 e13 e14 e16 e17 e19 e21 e22 e23 e25 e26)) := by
  refine Ct.of (by decide) (by exact Nat.le_of_ble_eq_true rfl) ?_
  show Go mX1_isSoft 1 0 [(0, .ref 3), (1, .int x)] [] (wC e0 e1 e2 (kG3 wk tw sf lo ri la) e4 (kZ 10 f) e6 e7 e8 e9 e10 e11 e12 e13 e14 e16 e17 e19 e21 e22 e23 e25 e26) (gE (some (.int (nI (hR f x)))) (wC e0 e1 e2 (kG3 wk tw sf lo ri la) e4 (kZ 10 f) e6 e7 e8 e9 e10 e11 e12 e13 e14 e16 e17 e19 e21 e22 e23 e25 e26))
  refine g_iload_n (i := 1) (j := 1) dX1_isSoft_0 rfl rfl ?_
  refine c_N (st1 := [.int (nI (bN (0 ≤ x.toInt ∧ x.toInt ≤ 9)))]) (ctX7_isCell (x := x) ) kX7_isCell lX1_41 (by decide) rfl (by exact Nat.le_of_ble_eq_true rfl) dX1_isSoft_1 rfl rfl ?_
  refine b_if_eq (tgt := 20) dX1_isSoft_4 (by decide) (fun h4 => ?_) (fun h4 => ?_)
  · refine g_iconst (v := nI 0) dX1_isSoft_20 (by decide) ?_
    refine g_iret rfl (by decide) dX1_isSoft_21 ?_
    refine gE_n ?_ rfl
    unfold hR
    rw [if_neg (by unfold iW; omega)]
  · obtain ⟨c, hc, rfl⟩ := raw_lt (x := x) (n := 10) (by omega)
    have q1 := hf c
    refine g_aload_n (i := 0) (j := 0) dX1_isSoft_7 rfl rfl ?_
    refine g_get fX1_15 rfl rfl dX1_isSoft_8 ?_
    refine g_iload_n (i := 1) (j := 1) dX1_isSoft_11 rfl rfl ?_
    refine n_zald (x := c) rfl (by omega) (rng_lit 10 rfl) dX1_isSoft_12 ?_
    refine n_if_eq (tgt := 20) (by omega) dX1_isSoft_13 (by decide) (fun h13 => ?_) (fun h13 => ?_)
    · refine g_iconst (v := nI 0) dX1_isSoft_20 (by decide) ?_
      refine g_iret rfl (by decide) dX1_isSoft_21 ?_
      refine gE_n ?_ rfl
      unfold hR
      rw [if_pos ((iW_n (by omega)).mpr (by omega)), cN_n (by omega)]
      omega
    · refine g_iconst (v := nI 1) dX1_isSoft_16 (by decide) ?_
      refine g_goto (tgt := 21) dX1_isSoft_17 (by decide) ?_
      refine g_iret rfl (by decide) dX1_isSoft_21 ?_
      refine gE_n ?_ rfl
      unfold hR
      rw [if_pos ((iW_n (by omega)).mpr (by omega)), cN_n (by omega)]
      omega

theorem lp_gclear {e0 e1 e2 e7 e8 e9 e10 e11 e12 e13 e14 e16 e17 e19 e21 e22 e23 e25 e26 : va_E} {h so ho : Nat → Nat} {wk tw sf lo ri la : Nat} : ∀ (n i : Nat), i + n = 10 → Go mX1_clear 0 2 [(0, .ref 3), (1, .int (nI i))] [] (wC e0 e1 e2 (kG3 wk tw sf lo ri la) (kI 10 (zf i h)) (kZ 10 (zf i so)) (kI 10 (zf i ho)) e7 e8 e9 e10 e11 e12 e13 e14 e16 e17 e19 e21 e22 e23 e25 e26) (gE none (wC e0 e1 e2 (kG3 0 0 0 lo ri la) (kI 10 (zf 10 h)) (kZ 10 (zf 10 so)) (kI 10 (zf 10 ho)) e7 e8 e9 e10 e11 e12 e13 e14 e16 e17 e19 e21 e22 e23 e25 e26)) := by
  intro n
  induction n with
  | zero =>
    intro i hi
    obtain rfl : i = 10 := by omega
    refine g_iload_n (i := 1) (j := 1) dX1_clear_2 rfl rfl ?_
    refine g_bipush (v := nI 10) dX1_clear_3 (by decide) ?_
    refine n_icmp_ge (tgt := 35) (rng_lit 10 rfl) (rng_lit 10 rfl) dX1_clear_5 (by decide) (fun h5 => ?_) (fun h5 => ?_)
    · refine g_aload_n (i := 0) (j := 0) dX1_clear_35 rfl rfl ?_
      refine g_iconst (v := nI 0) dX1_clear_36 (by decide) ?_
      refine n_putI (ws' := wC e0 e1 e2 (kG3 0 tw sf lo ri la) (kI 10 (zf 10 h)) (kZ 10 (zf 10 so)) (kI 10 (zf 10 ho)) e7 e8 e9 e10 e11 e12 e13 e14 e16 e17 e19 e21 e22 e23 e25 e26) fX1_32 fp_X1_5 rfl (by exact Nat.le_of_ble_eq_true rfl) dX1_clear_37 rfl ?_
      refine g_aload_n (i := 0) (j := 0) dX1_clear_40 rfl rfl ?_
      refine g_iconst (v := nI 0) dX1_clear_41 (by decide) ?_
      refine n_putI (ws' := wC e0 e1 e2 (kG3 0 0 sf lo ri la) (kI 10 (zf 10 h)) (kZ 10 (zf 10 so)) (kI 10 (zf 10 ho)) e7 e8 e9 e10 e11 e12 e13 e14 e16 e17 e19 e21 e22 e23 e25 e26) fX1_35 fp_X1_6 rfl (by exact Nat.le_of_ble_eq_true rfl) dX1_clear_42 rfl ?_
      refine g_aload_n (i := 0) (j := 0) dX1_clear_45 rfl rfl ?_
      refine g_iconst (v := nI 0) dX1_clear_46 (by decide) ?_
      refine n_putI (ws' := wC e0 e1 e2 (kG3 0 0 0 lo ri la) (kI 10 (zf 10 h)) (kZ 10 (zf 10 so)) (kI 10 (zf 10 ho)) e7 e8 e9 e10 e11 e12 e13 e14 e16 e17 e19 e21 e22 e23 e25 e26) fX1_38 fp_X1_7 rfl (by exact Nat.le_of_ble_eq_true rfl) dX1_clear_47 rfl ?_
      refine g_vret rfl dX1_clear_50 ?_
      exact gE_i rfl rfl
    · exact absurd h5 (by decide)

  | succ n ih =>
    intro i hi
    refine g_iload_n (i := 1) (j := 1) dX1_clear_2 rfl rfl ?_
    refine g_bipush (v := nI 10) dX1_clear_3 (by decide) ?_
    refine n_icmp_ge (tgt := 35) (by omega) (rng_lit 10 rfl) dX1_clear_5 (by decide) (fun h5 => ?_) (fun h5 => ?_)
    · exfalso; omega
    · refine g_aload_n (i := 0) (j := 0) dX1_clear_8 rfl rfl ?_
      refine g_get fX1_9 rfl rfl dX1_clear_9 ?_
      refine g_iload_n (i := 1) (j := 1) dX1_clear_12 rfl rfl ?_
      refine g_iconst (v := nI 0) dX1_clear_13 (by decide) ?_
      refine n_iast (x := i) (ws' := wC e0 e1 e2 (kG3 wk tw sf lo ri la) (kI 10 (va_up (zf i h) i 0)) (kZ 10 (zf i so)) (kI 10 (zf i ho)) e7 e8 e9 e10 e11 e12 e13 e14 e16 e17 e19 e21 e22 e23 e25 e26) rfl (by omega) (rng_lit 10 rfl) dX1_clear_14 rfl ?_
      refine g_aload_n (i := 0) (j := 0) dX1_clear_15 rfl rfl ?_
      refine g_get fX1_15 rfl rfl dX1_clear_16 ?_
      refine g_iload_n (i := 1) (j := 1) dX1_clear_19 rfl rfl ?_
      refine g_iconst (v := nI 0) dX1_clear_20 (by decide) ?_
      refine n_zast (x := i) (ws' := wC e0 e1 e2 (kG3 wk tw sf lo ri la) (kI 10 (va_up (zf i h) i 0)) (kZ 10 (va_up (zf i so) i 0)) (kI 10 (zf i ho)) e7 e8 e9 e10 e11 e12 e13 e14 e16 e17 e19 e21 e22 e23 e25 e26) rfl (by omega) (rng_lit 10 rfl) (by omega) dX1_clear_21 rfl ?_
      refine g_aload_n (i := 0) (j := 0) dX1_clear_22 rfl rfl ?_
      refine g_get fX1_19 rfl rfl dX1_clear_23 ?_
      refine g_iload_n (i := 1) (j := 1) dX1_clear_26 rfl rfl ?_
      refine g_iconst (v := nI 0) dX1_clear_27 (by decide) ?_
      refine n_iast (x := i) (ws' := wC e0 e1 e2 (kG3 wk tw sf lo ri la) (kI 10 (va_up (zf i h) i 0)) (kZ 10 (va_up (zf i so) i 0)) (kI 10 (va_up (zf i ho) i 0)) e7 e8 e9 e10 e11 e12 e13 e14 e16 e17 e19 e21 e22 e23 e25 e26) rfl (by omega) (rng_lit 10 rfl) dX1_clear_28 rfl ?_
      refine n_inc (x := i) (j := 1) (lv' := [(1, .int (nI (i + 1))), (0, .ref 3)]) dX1_clear_29 rfl (by decide) rfl ?_
      refine g_goto (tgt := 2) dX1_clear_32 (by decide) ?_
      refine g_lv [1, 0] rfl ?_
      refine g_ws (ws' := wC e0 e1 e2 (kG3 wk tw sf lo ri la) (kI 10 (zf (i + 1) h)) (kZ 10 (zf (i + 1) so)) (kI 10 (zf (i + 1) ho)) e7 e8 e9 e10 e11 e12 e13 e14 e16 e17 e19 e21 e22 e23 e25 e26) (by rw [zf_s, zf_s, zf_s]) ?_
      exact ih (i + 1) (by omega)

theorem ctX1_clear {e0 e1 e2 e7 e8 e9 e10 e11 e12 e13 e14 e16 e17 e19 e21 e22 e23 e25 e26 : va_E} {h so ho : Nat → Nat} {wk tw sf lo ri la : Nat} : Ct mX1_clear 0 [.ref 3] (wC e0 e1 e2 (kG3 wk tw sf lo ri la) (kI 10 h) (kZ 10 so) (kI 10 ho) e7 e8 e9 e10 e11 e12 e13 e14 e16 e17 e19 e21 e22 e23 e25 e26) (gE none (wC e0 e1 e2 (kG3 0 0 0 lo ri la) (kI 10 (zf 10 h)) (kZ 10 (zf 10 so)) (kI 10 (zf 10 ho)) e7 e8 e9 e10 e11 e12 e13 e14 e16 e17 e19 e21 e22 e23 e25 e26)) := by
  refine Ct.of (by decide) (by exact Nat.le_of_ble_eq_true rfl) ?_
  show Go mX1_clear 0 0 [(0, .ref 3)] [] (wC e0 e1 e2 (kG3 wk tw sf lo ri la) (kI 10 h) (kZ 10 so) (kI 10 ho) e7 e8 e9 e10 e11 e12 e13 e14 e16 e17 e19 e21 e22 e23 e25 e26) (gE none (wC e0 e1 e2 (kG3 0 0 0 lo ri la) (kI 10 (zf 10 h)) (kZ 10 (zf 10 so)) (kI 10 (zf 10 ho)) e7 e8 e9 e10 e11 e12 e13 e14 e16 e17 e19 e21 e22 e23 e25 e26))
  refine g_iconst (v := nI 0) dX1_clear_0 (by decide) ?_
  refine g_istore_n (i := 1) (lv' := [(1, .int (nI 0)), (0, .ref 3)]) dX1_clear_1 rfl (by decide) rfl ?_
  refine g_lv [1, 0] rfl ?_
  refine g_ws (ws' := wC e0 e1 e2 (kG3 wk tw sf lo ri la) (kI 10 (zf 0 h)) (kZ 10 (zf 0 so)) (kI 10 (zf 0 ho)) e7 e8 e9 e10 e11 e12 e13 e14 e16 e17 e19 e21 e22 e23 e25 e26) (by rw [zf_0, zf_0, zf_0]) ?_
  exact lp_gclear 10 0 (by omega)

theorem ctX1_setHeight {e0 e1 e2 e5 e6 e7 e8 e9 e10 e11 e12 e13 e14 e16 e17 e19 e21 e22 e23 e25 e26 : va_E} {h : Nat → Nat} {wk tw sf lo ri la : Nat} {c x : Nat} (hc : c < 10) : Ct mX1_setHeight 1 [.ref 3, .int (nI c), .int (nI x)] (wC e0 e1 e2 (kG3 wk tw sf lo ri la) (kI 10 h) e5 e6 e7 e8 e9 e10 e11 e12 e13 e14 e16 e17 e19 e21 e22 e23 e25 e26) (gE none (wC e0 e1 e2 (kG3 wk tw sf lo ri la) (kI 10 (va_up h c x)) e5 e6 e7 e8 e9 e10 e11 e12 e13 e14 e16 e17 e19 e21 e22 e23 e25 e26)) := by
  refine Ct.of (by decide) (by exact Nat.le_of_ble_eq_true rfl) ?_
  show Go mX1_setHeight 1 0 [(0, .ref 3), (1, .int (nI c)), (2, .int (nI x))] [] (wC e0 e1 e2 (kG3 wk tw sf lo ri la) (kI 10 h) e5 e6 e7 e8 e9 e10 e11 e12 e13 e14 e16 e17 e19 e21 e22 e23 e25 e26) (gE none (wC e0 e1 e2 (kG3 wk tw sf lo ri la) (kI 10 (va_up h c x)) e5 e6 e7 e8 e9 e10 e11 e12 e13 e14 e16 e17 e19 e21 e22 e23 e25 e26))
  have q1 := nI_toInt (n := c) (by omega)
  refine g_iload_n (i := 1) (j := 1) dX1_setHeight_0 rfl rfl ?_
  refine c_N (st1 := [.int (nI (bN (0 ≤ (nI c).toInt ∧ (nI c).toInt ≤ 9)))]) (ctX7_isCell (x := (nI c)) ) kX7_isCell lX1_41 (by decide) rfl (by exact Nat.le_of_ble_eq_true rfl) dX1_setHeight_1 rfl rfl ?_
  refine b_if_eq (tgt := 14) dX1_setHeight_4 (by decide) (fun h4 => ?_) (fun h4 => ?_)
  · exact absurd (by omega) h4
  · refine g_aload_n (i := 0) (j := 0) dX1_setHeight_7 rfl rfl ?_
    refine g_get fX1_9 rfl rfl dX1_setHeight_8 ?_
    refine g_iload_n (i := 1) (j := 1) dX1_setHeight_11 rfl rfl ?_
    refine g_iload_n (i := 2) (j := 2) dX1_setHeight_12 rfl rfl ?_
    refine n_iast (x := c) (ws' := wC e0 e1 e2 (kG3 wk tw sf lo ri la) (kI 10 (va_up h c x)) e5 e6 e7 e8 e9 e10 e11 e12 e13 e14 e16 e17 e19 e21 e22 e23 e25 e26) rfl (by omega) (rng_lit 10 rfl) dX1_setHeight_13 rfl ?_
    refine g_vret rfl dX1_setHeight_14 ?_
    exact gE_i rfl rfl

theorem ctX1_addWalker {e0 e1 e2 e4 e5 e6 e9 e10 e11 e12 e13 e14 e16 e17 e19 e21 e22 e23 e25 e26 : va_E} {pa wa : Nat → Nat} {wk tw sf lo ri la : Nat} {x y : Nat} (hw : wk < 5) : Ct mX1_addWalker 0 [.ref 3, .int (nI x), .int (nI y)] (wC e0 e1 e2 (kG3 wk tw sf lo ri la) e4 e5 e6 (kI 5 pa) (kI 5 wa) e9 e10 e11 e12 e13 e14 e16 e17 e19 e21 e22 e23 e25 e26) (gE none (wC e0 e1 e2 (kG3 (wk + 1) tw sf lo ri la) e4 e5 e6 (kI 5 (va_up pa wk x)) (kI 5 (va_up wa wk y)) e9 e10 e11 e12 e13 e14 e16 e17 e19 e21 e22 e23 e25 e26)) := by
  refine Ct.of (by decide) (by exact Nat.le_of_ble_eq_true rfl) ?_
  show Go mX1_addWalker 0 0 [(0, .ref 3), (1, .int (nI x)), (2, .int (nI y))] [] (wC e0 e1 e2 (kG3 wk tw sf lo ri la) e4 e5 e6 (kI 5 pa) (kI 5 wa) e9 e10 e11 e12 e13 e14 e16 e17 e19 e21 e22 e23 e25 e26) (gE none (wC e0 e1 e2 (kG3 (wk + 1) tw sf lo ri la) e4 e5 e6 (kI 5 (va_up pa wk x)) (kI 5 (va_up wa wk y)) e9 e10 e11 e12 e13 e14 e16 e17 e19 e21 e22 e23 e25 e26))
  refine g_aload_n (i := 0) (j := 0) dX1_addWalker_0 rfl rfl ?_
  refine g_get fX1_32 rfl rfl dX1_addWalker_1 ?_
  refine n_if_lt (tgt := 15) (by omega) dX1_addWalker_4 (by decide) ?_
  refine g_aload_n (i := 0) (j := 0) dX1_addWalker_7 rfl rfl ?_
  refine g_get fX1_32 rfl rfl dX1_addWalker_8 ?_
  refine g_iconst (v := nI 5) dX1_addWalker_11 (by decide) ?_
  refine n_icmp_lt (tgt := 16) (by omega) (rng_lit 5 rfl) dX1_addWalker_12 (by decide) (fun h12 => ?_) (fun h12 => ?_)
  · refine g_aload_n (i := 0) (j := 0) dX1_addWalker_16 rfl rfl ?_
    refine g_get fX1_22 rfl rfl dX1_addWalker_17 ?_
    refine g_aload_n (i := 0) (j := 0) dX1_addWalker_20 rfl rfl ?_
    refine g_get fX1_32 rfl rfl dX1_addWalker_21 ?_
    refine g_iload_n (i := 1) (j := 1) dX1_addWalker_24 rfl rfl ?_
    refine n_iast (x := wk) (ws' := wC e0 e1 e2 (kG3 wk tw sf lo ri la) e4 e5 e6 (kI 5 (va_up pa wk x)) (kI 5 wa) e9 e10 e11 e12 e13 e14 e16 e17 e19 e21 e22 e23 e25 e26) rfl (by omega) (rng_lit 5 rfl) dX1_addWalker_25 rfl ?_
    refine g_aload_n (i := 0) (j := 0) dX1_addWalker_26 rfl rfl ?_
    refine g_get fX1_25 rfl rfl dX1_addWalker_27 ?_
    refine g_aload_n (i := 0) (j := 0) dX1_addWalker_30 rfl rfl ?_
    refine g_get fX1_32 rfl rfl dX1_addWalker_31 ?_
    refine g_iload_n (i := 2) (j := 2) dX1_addWalker_34 rfl rfl ?_
    refine n_iast (x := wk) (ws' := wC e0 e1 e2 (kG3 wk tw sf lo ri la) e4 e5 e6 (kI 5 (va_up pa wk x)) (kI 5 (va_up wa wk y)) e9 e10 e11 e12 e13 e14 e16 e17 e19 e21 e22 e23 e25 e26) rfl (by omega) (rng_lit 5 rfl) dX1_addWalker_35 rfl ?_
    refine g_aload_n (i := 0) (j := 0) dX1_addWalker_36 rfl rfl ?_
    refine g_dup dX1_addWalker_37 rfl ?_
    refine g_get fX1_32 rfl rfl dX1_addWalker_38 ?_
    refine g_iconst (v := nI 1) dX1_addWalker_41 (by decide) ?_
    refine n_iadd (a := wk) (b := 1) dX1_addWalker_42 ?_
    refine n_putI (ws' := wC e0 e1 e2 (kG3 (wk + 1) tw sf lo ri la) e4 e5 e6 (kI 5 (va_up pa wk x)) (kI 5 (va_up wa wk y)) e9 e10 e11 e12 e13 e14 e16 e17 e19 e21 e22 e23 e25 e26) fX1_32 fp_X1_5 rfl (by exact Nat.le_of_ble_eq_true rfl) dX1_addWalker_43 rfl ?_
    refine g_vret rfl dX1_addWalker_46 ?_
    exact gE_i rfl rfl
  · exfalso; omega

theorem ctX1_addTower {e0 e1 e2 e4 e5 e7 e8 e9 e10 e11 e12 e13 e14 e16 e17 e19 e21 e22 e23 e25 e26 : va_E} {ho : Nat → Nat} {wk tw sf lo ri la : Nat} {c x : Nat} (hc : c < 10) : Ct mX1_addTower 1 [.ref 3, .int (nI c), .int (nI x)] (wC e0 e1 e2 (kG3 wk tw sf lo ri la) e4 e5 (kI 10 ho) e7 e8 e9 e10 e11 e12 e13 e14 e16 e17 e19 e21 e22 e23 e25 e26) (gE none (wC e0 e1 e2 (kG3 wk (tw + 1) sf lo ri la) e4 e5 (kI 10 (va_up ho c x)) e7 e8 e9 e10 e11 e12 e13 e14 e16 e17 e19 e21 e22 e23 e25 e26)) := by
  refine Ct.of (by decide) (by exact Nat.le_of_ble_eq_true rfl) ?_
  show Go mX1_addTower 1 0 [(0, .ref 3), (1, .int (nI c)), (2, .int (nI x))] [] (wC e0 e1 e2 (kG3 wk tw sf lo ri la) e4 e5 (kI 10 ho) e7 e8 e9 e10 e11 e12 e13 e14 e16 e17 e19 e21 e22 e23 e25 e26) (gE none (wC e0 e1 e2 (kG3 wk (tw + 1) sf lo ri la) e4 e5 (kI 10 (va_up ho c x)) e7 e8 e9 e10 e11 e12 e13 e14 e16 e17 e19 e21 e22 e23 e25 e26))
  have q1 := nI_toInt (n := c) (by omega)
  refine g_iload_n (i := 1) (j := 1) dX1_addTower_0 rfl rfl ?_
  refine c_N (st1 := [.int (nI (bN (0 ≤ (nI c).toInt ∧ (nI c).toInt ≤ 9)))]) (ctX7_isCell (x := (nI c)) ) kX7_isCell lX1_41 (by decide) rfl (by exact Nat.le_of_ble_eq_true rfl) dX1_addTower_1 rfl rfl ?_
  refine b_if_ne (tgt := 8) dX1_addTower_4 (by decide) (fun h4 => ?_) (fun h4 => ?_)
  · refine g_aload_n (i := 0) (j := 0) dX1_addTower_8 rfl rfl ?_
    refine g_get fX1_19 rfl rfl dX1_addTower_9 ?_
    refine g_iload_n (i := 1) (j := 1) dX1_addTower_12 rfl rfl ?_
    refine g_iload_n (i := 2) (j := 2) dX1_addTower_13 rfl rfl ?_
    refine n_iast (x := c) (ws' := wC e0 e1 e2 (kG3 wk tw sf lo ri la) e4 e5 (kI 10 (va_up ho c x)) e7 e8 e9 e10 e11 e12 e13 e14 e16 e17 e19 e21 e22 e23 e25 e26) rfl (by omega) (rng_lit 10 rfl) dX1_addTower_14 rfl ?_
    refine g_aload_n (i := 0) (j := 0) dX1_addTower_15 rfl rfl ?_
    refine g_dup dX1_addTower_16 rfl ?_
    refine g_get fX1_35 rfl rfl dX1_addTower_17 ?_
    refine g_iconst (v := nI 1) dX1_addTower_20 (by decide) ?_
    refine n_iadd (a := tw) (b := 1) dX1_addTower_21 ?_
    refine n_putI (ws' := wC e0 e1 e2 (kG3 wk (tw + 1) sf lo ri la) e4 e5 (kI 10 (va_up ho c x)) e7 e8 e9 e10 e11 e12 e13 e14 e16 e17 e19 e21 e22 e23 e25 e26) fX1_35 fp_X1_6 rfl (by exact Nat.le_of_ble_eq_true rfl) dX1_addTower_22 rfl ?_
    refine g_vret rfl dX1_addTower_25 ?_
    exact gE_i rfl rfl
  · exact absurd (by omega) h4

theorem ctX1_addSoft {e0 e1 e2 e4 e6 e7 e8 e9 e10 e11 e12 e13 e14 e16 e17 e19 e21 e22 e23 e25 e26 : va_E} {so : Nat → Nat} {wk tw sf lo ri la : Nat} {c : Nat} (hc : c < 10) : Ct mX1_addSoft 1 [.ref 3, .int (nI c)] (wC e0 e1 e2 (kG3 wk tw sf lo ri la) e4 (kZ 10 so) e6 e7 e8 e9 e10 e11 e12 e13 e14 e16 e17 e19 e21 e22 e23 e25 e26) (gE none (wC e0 e1 e2 (kG3 wk tw (sf + 1) lo ri la) e4 (kZ 10 (va_up so c 1)) e6 e7 e8 e9 e10 e11 e12 e13 e14 e16 e17 e19 e21 e22 e23 e25 e26)) := by
  refine Ct.of (by decide) (by exact Nat.le_of_ble_eq_true rfl) ?_
  show Go mX1_addSoft 1 0 [(0, .ref 3), (1, .int (nI c))] [] (wC e0 e1 e2 (kG3 wk tw sf lo ri la) e4 (kZ 10 so) e6 e7 e8 e9 e10 e11 e12 e13 e14 e16 e17 e19 e21 e22 e23 e25 e26) (gE none (wC e0 e1 e2 (kG3 wk tw (sf + 1) lo ri la) e4 (kZ 10 (va_up so c 1)) e6 e7 e8 e9 e10 e11 e12 e13 e14 e16 e17 e19 e21 e22 e23 e25 e26))
  have q1 := nI_toInt (n := c) (by omega)
  refine g_iload_n (i := 1) (j := 1) dX1_addSoft_0 rfl rfl ?_
  refine c_N (st1 := [.int (nI (bN (0 ≤ (nI c).toInt ∧ (nI c).toInt ≤ 9)))]) (ctX7_isCell (x := (nI c)) ) kX7_isCell lX1_41 (by decide) rfl (by exact Nat.le_of_ble_eq_true rfl) dX1_addSoft_1 rfl rfl ?_
  refine b_if_ne (tgt := 8) dX1_addSoft_4 (by decide) (fun h4 => ?_) (fun h4 => ?_)
  · refine g_aload_n (i := 0) (j := 0) dX1_addSoft_8 rfl rfl ?_
    refine g_get fX1_15 rfl rfl dX1_addSoft_9 ?_
    refine g_iload_n (i := 1) (j := 1) dX1_addSoft_12 rfl rfl ?_
    refine g_iconst (v := nI 1) dX1_addSoft_13 (by decide) ?_
    refine n_zast (x := c) (ws' := wC e0 e1 e2 (kG3 wk tw sf lo ri la) e4 (kZ 10 (va_up so c 1)) e6 e7 e8 e9 e10 e11 e12 e13 e14 e16 e17 e19 e21 e22 e23 e25 e26) rfl (by omega) (rng_lit 10 rfl) (by omega) dX1_addSoft_14 rfl ?_
    refine g_aload_n (i := 0) (j := 0) dX1_addSoft_15 rfl rfl ?_
    refine g_dup dX1_addSoft_16 rfl ?_
    refine g_get fX1_38 rfl rfl dX1_addSoft_17 ?_
    refine g_iconst (v := nI 1) dX1_addSoft_20 (by decide) ?_
    refine n_iadd (a := sf) (b := 1) dX1_addSoft_21 ?_
    refine n_putI (ws' := wC e0 e1 e2 (kG3 wk tw (sf + 1) lo ri la) e4 (kZ 10 (va_up so c 1)) e6 e7 e8 e9 e10 e11 e12 e13 e14 e16 e17 e19 e21 e22 e23 e25 e26) fX1_38 fp_X1_7 rfl (by exact Nat.le_of_ble_eq_true rfl) dX1_addSoft_22 rfl ?_
    refine g_vret rfl dX1_addSoft_25 ?_
    exact gE_i rfl rfl
  · exact absurd (by omega) h4

theorem ctX1_holdOf_r9 {e0 e1 e2 e3 e4 e5 e6 e7 e8 e10 e11 e13 e14 e16 e17 e19 e21 e22 e23 e25 e26 : va_E} {f : Nat → Nat} {wk tw sf lo ri la : Nat} {x : Int32} : Ct mX1_holdOf 1 [.ref 9, .int x] (wC e0 e1 e2 e3 e4 e5 e6 e7 e8 (kG9 wk tw sf lo ri la) e10 e11 (kI 10 f) e13 e14 e16 e17 e19 e21 e22 e23 e25 e26) (gE (some (.int (nI (hR f x)))) (wC e0 e1 e2 e3 e4 e5 e6 e7 e8 (kG9 wk tw sf lo ri la) e10 e11 (kI 10 f) e13 e14 e16 e17 e19 e21 e22 e23 e25 e26)) := by
  refine Ct.of (by decide) (by exact Nat.le_of_ble_eq_true rfl) ?_
  show Go mX1_holdOf 1 0 [(0, .ref 9), (1, .int x)] [] (wC e0 e1 e2 e3 e4 e5 e6 e7 e8 (kG9 wk tw sf lo ri la) e10 e11 (kI 10 f) e13 e14 e16 e17 e19 e21 e22 e23 e25 e26) (gE (some (.int (nI (hR f x)))) (wC e0 e1 e2 e3 e4 e5 e6 e7 e8 (kG9 wk tw sf lo ri la) e10 e11 (kI 10 f) e13 e14 e16 e17 e19 e21 e22 e23 e25 e26))
  refine g_iload_n (i := 1) (j := 1) dX1_holdOf_0 rfl rfl ?_
  refine c_N (st1 := [.int (nI (bN (0 ≤ x.toInt ∧ x.toInt ≤ 9)))]) (ctX7_isCell (x := x) ) kX7_isCell lX1_41 (by decide) rfl (by exact Nat.le_of_ble_eq_true rfl) dX1_holdOf_1 rfl rfl ?_
  refine b_if_eq (tgt := 16) dX1_holdOf_4 (by decide) (fun h4 => ?_) (fun h4 => ?_)
  · refine g_iconst (v := nI 0) dX1_holdOf_16 (by decide) ?_
    refine g_iret rfl rfl dX1_holdOf_17 ?_
    refine gE_n ?_ rfl
    unfold hR
    rw [if_neg (by unfold iW; omega)]
  · obtain ⟨c, hc, rfl⟩ := raw_lt (x := x) (n := 10) (by omega)
    refine g_aload_n (i := 0) (j := 0) dX1_holdOf_7 rfl rfl ?_
    refine g_get fX1_19 rfl rfl dX1_holdOf_8 ?_
    refine g_iload_n (i := 1) (j := 1) dX1_holdOf_11 rfl rfl ?_
    refine n_iald (x := c) rfl (by omega) (rng_lit 10 rfl) dX1_holdOf_12 ?_
    refine g_goto (tgt := 17) dX1_holdOf_13 (by decide) ?_
    refine g_iret rfl rfl dX1_holdOf_17 ?_
    refine gE_n ?_ rfl
    unfold hR
    rw [if_pos ((iW_n (by omega)).mpr (by omega)), cN_n (by omega)]

theorem ctX1_isSoft_r9 {e0 e1 e2 e3 e4 e5 e6 e7 e8 e10 e12 e13 e14 e16 e17 e19 e21 e22 e23 e25 e26 : va_E} {f : Nat → Nat} {wk tw sf lo ri la : Nat} {x : Int32} (hf : ∀ k, f k ≤ 1) : Ct mX1_isSoft 1 [.ref 9, .int x] (wC e0 e1 e2 e3 e4 e5 e6 e7 e8 (kG9 wk tw sf lo ri la) e10 (kZ 10 f) e12 e13 e14 e16 e17 e19 e21 e22 e23 e25 e26) (gE (some (.int (nI (hR f x)))) (wC e0 e1 e2 e3 e4 e5 e6 e7 e8 (kG9 wk tw sf lo ri la) e10 (kZ 10 f) e12 e13 e14 e16 e17 e19 e21 e22 e23 e25 e26)) := by
  refine Ct.of (by decide) (by exact Nat.le_of_ble_eq_true rfl) ?_
  show Go mX1_isSoft 1 0 [(0, .ref 9), (1, .int x)] [] (wC e0 e1 e2 e3 e4 e5 e6 e7 e8 (kG9 wk tw sf lo ri la) e10 (kZ 10 f) e12 e13 e14 e16 e17 e19 e21 e22 e23 e25 e26) (gE (some (.int (nI (hR f x)))) (wC e0 e1 e2 e3 e4 e5 e6 e7 e8 (kG9 wk tw sf lo ri la) e10 (kZ 10 f) e12 e13 e14 e16 e17 e19 e21 e22 e23 e25 e26))
  refine g_iload_n (i := 1) (j := 1) dX1_isSoft_0 rfl rfl ?_
  refine c_N (st1 := [.int (nI (bN (0 ≤ x.toInt ∧ x.toInt ≤ 9)))]) (ctX7_isCell (x := x) ) kX7_isCell lX1_41 (by decide) rfl (by exact Nat.le_of_ble_eq_true rfl) dX1_isSoft_1 rfl rfl ?_
  refine b_if_eq (tgt := 20) dX1_isSoft_4 (by decide) (fun h4 => ?_) (fun h4 => ?_)
  · refine g_iconst (v := nI 0) dX1_isSoft_20 (by decide) ?_
    refine g_iret rfl (by decide) dX1_isSoft_21 ?_
    refine gE_n ?_ rfl
    unfold hR
    rw [if_neg (by unfold iW; omega)]
  · obtain ⟨c, hc, rfl⟩ := raw_lt (x := x) (n := 10) (by omega)
    have q1 := hf c
    refine g_aload_n (i := 0) (j := 0) dX1_isSoft_7 rfl rfl ?_
    refine g_get fX1_15 rfl rfl dX1_isSoft_8 ?_
    refine g_iload_n (i := 1) (j := 1) dX1_isSoft_11 rfl rfl ?_
    refine n_zald (x := c) rfl (by omega) (rng_lit 10 rfl) dX1_isSoft_12 ?_
    refine n_if_eq (tgt := 20) (by omega) dX1_isSoft_13 (by decide) (fun h13 => ?_) (fun h13 => ?_)
    · refine g_iconst (v := nI 0) dX1_isSoft_20 (by decide) ?_
      refine g_iret rfl (by decide) dX1_isSoft_21 ?_
      refine gE_n ?_ rfl
      unfold hR
      rw [if_pos ((iW_n (by omega)).mpr (by omega)), cN_n (by omega)]
      omega
    · refine g_iconst (v := nI 1) dX1_isSoft_16 (by decide) ?_
      refine g_goto (tgt := 21) dX1_isSoft_17 (by decide) ?_
      refine g_iret rfl (by decide) dX1_isSoft_21 ?_
      refine gE_n ?_ rfl
      unfold hR
      rw [if_pos ((iW_n (by omega)).mpr (by omega)), cN_n (by omega)]
      omega

theorem lp_gclear_9 {e0 e1 e2 e3 e4 e5 e6 e7 e8 e13 e14 e16 e17 e19 e21 e22 e23 e25 e26 : va_E} {h so ho : Nat → Nat} {wk tw sf lo ri la : Nat} : ∀ (n i : Nat), i + n = 10 → Go mX1_clear 0 2 [(0, .ref 9), (1, .int (nI i))] [] (wC e0 e1 e2 e3 e4 e5 e6 e7 e8 (kG9 wk tw sf lo ri la) (kI 10 (zf i h)) (kZ 10 (zf i so)) (kI 10 (zf i ho)) e13 e14 e16 e17 e19 e21 e22 e23 e25 e26) (gE none (wC e0 e1 e2 e3 e4 e5 e6 e7 e8 (kG9 0 0 0 lo ri la) (kI 10 (zf 10 h)) (kZ 10 (zf 10 so)) (kI 10 (zf 10 ho)) e13 e14 e16 e17 e19 e21 e22 e23 e25 e26)) := by
  intro n
  induction n with
  | zero =>
    intro i hi
    obtain rfl : i = 10 := by omega
    refine g_iload_n (i := 1) (j := 1) dX1_clear_2 rfl rfl ?_
    refine g_bipush (v := nI 10) dX1_clear_3 (by decide) ?_
    refine n_icmp_ge (tgt := 35) (rng_lit 10 rfl) (rng_lit 10 rfl) dX1_clear_5 (by decide) (fun h5 => ?_) (fun h5 => ?_)
    · refine g_aload_n (i := 0) (j := 0) dX1_clear_35 rfl rfl ?_
      refine g_iconst (v := nI 0) dX1_clear_36 (by decide) ?_
      refine n_putI (ws' := wC e0 e1 e2 e3 e4 e5 e6 e7 e8 (kG9 0 tw sf lo ri la) (kI 10 (zf 10 h)) (kZ 10 (zf 10 so)) (kI 10 (zf 10 ho)) e13 e14 e16 e17 e19 e21 e22 e23 e25 e26) fX1_32 fp_X1_5 rfl (by exact Nat.le_of_ble_eq_true rfl) dX1_clear_37 rfl ?_
      refine g_aload_n (i := 0) (j := 0) dX1_clear_40 rfl rfl ?_
      refine g_iconst (v := nI 0) dX1_clear_41 (by decide) ?_
      refine n_putI (ws' := wC e0 e1 e2 e3 e4 e5 e6 e7 e8 (kG9 0 0 sf lo ri la) (kI 10 (zf 10 h)) (kZ 10 (zf 10 so)) (kI 10 (zf 10 ho)) e13 e14 e16 e17 e19 e21 e22 e23 e25 e26) fX1_35 fp_X1_6 rfl (by exact Nat.le_of_ble_eq_true rfl) dX1_clear_42 rfl ?_
      refine g_aload_n (i := 0) (j := 0) dX1_clear_45 rfl rfl ?_
      refine g_iconst (v := nI 0) dX1_clear_46 (by decide) ?_
      refine n_putI (ws' := wC e0 e1 e2 e3 e4 e5 e6 e7 e8 (kG9 0 0 0 lo ri la) (kI 10 (zf 10 h)) (kZ 10 (zf 10 so)) (kI 10 (zf 10 ho)) e13 e14 e16 e17 e19 e21 e22 e23 e25 e26) fX1_38 fp_X1_7 rfl (by exact Nat.le_of_ble_eq_true rfl) dX1_clear_47 rfl ?_
      refine g_vret rfl dX1_clear_50 ?_
      exact gE_i rfl rfl
    · exact absurd h5 (by decide)

  | succ n ih =>
    intro i hi
    refine g_iload_n (i := 1) (j := 1) dX1_clear_2 rfl rfl ?_
    refine g_bipush (v := nI 10) dX1_clear_3 (by decide) ?_
    refine n_icmp_ge (tgt := 35) (by omega) (rng_lit 10 rfl) dX1_clear_5 (by decide) (fun h5 => ?_) (fun h5 => ?_)
    · exfalso; omega
    · refine g_aload_n (i := 0) (j := 0) dX1_clear_8 rfl rfl ?_
      refine g_get fX1_9 rfl rfl dX1_clear_9 ?_
      refine g_iload_n (i := 1) (j := 1) dX1_clear_12 rfl rfl ?_
      refine g_iconst (v := nI 0) dX1_clear_13 (by decide) ?_
      refine n_iast (x := i) (ws' := wC e0 e1 e2 e3 e4 e5 e6 e7 e8 (kG9 wk tw sf lo ri la) (kI 10 (va_up (zf i h) i 0)) (kZ 10 (zf i so)) (kI 10 (zf i ho)) e13 e14 e16 e17 e19 e21 e22 e23 e25 e26) rfl (by omega) (rng_lit 10 rfl) dX1_clear_14 rfl ?_
      refine g_aload_n (i := 0) (j := 0) dX1_clear_15 rfl rfl ?_
      refine g_get fX1_15 rfl rfl dX1_clear_16 ?_
      refine g_iload_n (i := 1) (j := 1) dX1_clear_19 rfl rfl ?_
      refine g_iconst (v := nI 0) dX1_clear_20 (by decide) ?_
      refine n_zast (x := i) (ws' := wC e0 e1 e2 e3 e4 e5 e6 e7 e8 (kG9 wk tw sf lo ri la) (kI 10 (va_up (zf i h) i 0)) (kZ 10 (va_up (zf i so) i 0)) (kI 10 (zf i ho)) e13 e14 e16 e17 e19 e21 e22 e23 e25 e26) rfl (by omega) (rng_lit 10 rfl) (by omega) dX1_clear_21 rfl ?_
      refine g_aload_n (i := 0) (j := 0) dX1_clear_22 rfl rfl ?_
      refine g_get fX1_19 rfl rfl dX1_clear_23 ?_
      refine g_iload_n (i := 1) (j := 1) dX1_clear_26 rfl rfl ?_
      refine g_iconst (v := nI 0) dX1_clear_27 (by decide) ?_
      refine n_iast (x := i) (ws' := wC e0 e1 e2 e3 e4 e5 e6 e7 e8 (kG9 wk tw sf lo ri la) (kI 10 (va_up (zf i h) i 0)) (kZ 10 (va_up (zf i so) i 0)) (kI 10 (va_up (zf i ho) i 0)) e13 e14 e16 e17 e19 e21 e22 e23 e25 e26) rfl (by omega) (rng_lit 10 rfl) dX1_clear_28 rfl ?_
      refine n_inc (x := i) (j := 1) (lv' := [(1, .int (nI (i + 1))), (0, .ref 9)]) dX1_clear_29 rfl (by decide) rfl ?_
      refine g_goto (tgt := 2) dX1_clear_32 (by decide) ?_
      refine g_lv [1, 0] rfl ?_
      refine g_ws (ws' := wC e0 e1 e2 e3 e4 e5 e6 e7 e8 (kG9 wk tw sf lo ri la) (kI 10 (zf (i + 1) h)) (kZ 10 (zf (i + 1) so)) (kI 10 (zf (i + 1) ho)) e13 e14 e16 e17 e19 e21 e22 e23 e25 e26) (by rw [zf_s, zf_s, zf_s]) ?_
      exact ih (i + 1) (by omega)

theorem ctX1_clear_9 {e0 e1 e2 e3 e4 e5 e6 e7 e8 e13 e14 e16 e17 e19 e21 e22 e23 e25 e26 : va_E} {h so ho : Nat → Nat} {wk tw sf lo ri la : Nat} : Ct mX1_clear 0 [.ref 9] (wC e0 e1 e2 e3 e4 e5 e6 e7 e8 (kG9 wk tw sf lo ri la) (kI 10 h) (kZ 10 so) (kI 10 ho) e13 e14 e16 e17 e19 e21 e22 e23 e25 e26) (gE none (wC e0 e1 e2 e3 e4 e5 e6 e7 e8 (kG9 0 0 0 lo ri la) (kI 10 (zf 10 h)) (kZ 10 (zf 10 so)) (kI 10 (zf 10 ho)) e13 e14 e16 e17 e19 e21 e22 e23 e25 e26)) := by
  refine Ct.of (by decide) (by exact Nat.le_of_ble_eq_true rfl) ?_
  show Go mX1_clear 0 0 [(0, .ref 9)] [] (wC e0 e1 e2 e3 e4 e5 e6 e7 e8 (kG9 wk tw sf lo ri la) (kI 10 h) (kZ 10 so) (kI 10 ho) e13 e14 e16 e17 e19 e21 e22 e23 e25 e26) (gE none (wC e0 e1 e2 e3 e4 e5 e6 e7 e8 (kG9 0 0 0 lo ri la) (kI 10 (zf 10 h)) (kZ 10 (zf 10 so)) (kI 10 (zf 10 ho)) e13 e14 e16 e17 e19 e21 e22 e23 e25 e26))
  refine g_iconst (v := nI 0) dX1_clear_0 (by decide) ?_
  refine g_istore_n (i := 1) (lv' := [(1, .int (nI 0)), (0, .ref 9)]) dX1_clear_1 rfl (by decide) rfl ?_
  refine g_lv [1, 0] rfl ?_
  refine g_ws (ws' := wC e0 e1 e2 e3 e4 e5 e6 e7 e8 (kG9 wk tw sf lo ri la) (kI 10 (zf 0 h)) (kZ 10 (zf 0 so)) (kI 10 (zf 0 ho)) e13 e14 e16 e17 e19 e21 e22 e23 e25 e26) (by rw [zf_0, zf_0, zf_0]) ?_
  exact lp_gclear_9 10 0 (by omega)

theorem ctX1_setHeight_9 {e0 e1 e2 e3 e4 e5 e6 e7 e8 e11 e12 e13 e14 e16 e17 e19 e21 e22 e23 e25 e26 : va_E} {h : Nat → Nat} {wk tw sf lo ri la : Nat} {c x : Nat} (hc : c < 10) : Ct mX1_setHeight 1 [.ref 9, .int (nI c), .int (nI x)] (wC e0 e1 e2 e3 e4 e5 e6 e7 e8 (kG9 wk tw sf lo ri la) (kI 10 h) e11 e12 e13 e14 e16 e17 e19 e21 e22 e23 e25 e26) (gE none (wC e0 e1 e2 e3 e4 e5 e6 e7 e8 (kG9 wk tw sf lo ri la) (kI 10 (va_up h c x)) e11 e12 e13 e14 e16 e17 e19 e21 e22 e23 e25 e26)) := by
  refine Ct.of (by decide) (by exact Nat.le_of_ble_eq_true rfl) ?_
  show Go mX1_setHeight 1 0 [(0, .ref 9), (1, .int (nI c)), (2, .int (nI x))] [] (wC e0 e1 e2 e3 e4 e5 e6 e7 e8 (kG9 wk tw sf lo ri la) (kI 10 h) e11 e12 e13 e14 e16 e17 e19 e21 e22 e23 e25 e26) (gE none (wC e0 e1 e2 e3 e4 e5 e6 e7 e8 (kG9 wk tw sf lo ri la) (kI 10 (va_up h c x)) e11 e12 e13 e14 e16 e17 e19 e21 e22 e23 e25 e26))
  have q1 := nI_toInt (n := c) (by omega)
  refine g_iload_n (i := 1) (j := 1) dX1_setHeight_0 rfl rfl ?_
  refine c_N (st1 := [.int (nI (bN (0 ≤ (nI c).toInt ∧ (nI c).toInt ≤ 9)))]) (ctX7_isCell (x := (nI c)) ) kX7_isCell lX1_41 (by decide) rfl (by exact Nat.le_of_ble_eq_true rfl) dX1_setHeight_1 rfl rfl ?_
  refine b_if_eq (tgt := 14) dX1_setHeight_4 (by decide) (fun h4 => ?_) (fun h4 => ?_)
  · exact absurd (by omega) h4
  · refine g_aload_n (i := 0) (j := 0) dX1_setHeight_7 rfl rfl ?_
    refine g_get fX1_9 rfl rfl dX1_setHeight_8 ?_
    refine g_iload_n (i := 1) (j := 1) dX1_setHeight_11 rfl rfl ?_
    refine g_iload_n (i := 2) (j := 2) dX1_setHeight_12 rfl rfl ?_
    refine n_iast (x := c) (ws' := wC e0 e1 e2 e3 e4 e5 e6 e7 e8 (kG9 wk tw sf lo ri la) (kI 10 (va_up h c x)) e11 e12 e13 e14 e16 e17 e19 e21 e22 e23 e25 e26) rfl (by omega) (rng_lit 10 rfl) dX1_setHeight_13 rfl ?_
    refine g_vret rfl dX1_setHeight_14 ?_
    exact gE_i rfl rfl

theorem ctX1_addWalker_9 {e0 e1 e2 e3 e4 e5 e6 e7 e8 e10 e11 e12 e16 e17 e19 e21 e22 e23 e25 e26 : va_E} {pa wa : Nat → Nat} {wk tw sf lo ri la : Nat} {x y : Nat} (hw : wk < 5) : Ct mX1_addWalker 0 [.ref 9, .int (nI x), .int (nI y)] (wC e0 e1 e2 e3 e4 e5 e6 e7 e8 (kG9 wk tw sf lo ri la) e10 e11 e12 (kI 5 pa) (kI 5 wa) e16 e17 e19 e21 e22 e23 e25 e26) (gE none (wC e0 e1 e2 e3 e4 e5 e6 e7 e8 (kG9 (wk + 1) tw sf lo ri la) e10 e11 e12 (kI 5 (va_up pa wk x)) (kI 5 (va_up wa wk y)) e16 e17 e19 e21 e22 e23 e25 e26)) := by
  refine Ct.of (by decide) (by exact Nat.le_of_ble_eq_true rfl) ?_
  show Go mX1_addWalker 0 0 [(0, .ref 9), (1, .int (nI x)), (2, .int (nI y))] [] (wC e0 e1 e2 e3 e4 e5 e6 e7 e8 (kG9 wk tw sf lo ri la) e10 e11 e12 (kI 5 pa) (kI 5 wa) e16 e17 e19 e21 e22 e23 e25 e26) (gE none (wC e0 e1 e2 e3 e4 e5 e6 e7 e8 (kG9 (wk + 1) tw sf lo ri la) e10 e11 e12 (kI 5 (va_up pa wk x)) (kI 5 (va_up wa wk y)) e16 e17 e19 e21 e22 e23 e25 e26))
  refine g_aload_n (i := 0) (j := 0) dX1_addWalker_0 rfl rfl ?_
  refine g_get fX1_32 rfl rfl dX1_addWalker_1 ?_
  refine n_if_lt (tgt := 15) (by omega) dX1_addWalker_4 (by decide) ?_
  refine g_aload_n (i := 0) (j := 0) dX1_addWalker_7 rfl rfl ?_
  refine g_get fX1_32 rfl rfl dX1_addWalker_8 ?_
  refine g_iconst (v := nI 5) dX1_addWalker_11 (by decide) ?_
  refine n_icmp_lt (tgt := 16) (by omega) (rng_lit 5 rfl) dX1_addWalker_12 (by decide) (fun h12 => ?_) (fun h12 => ?_)
  · refine g_aload_n (i := 0) (j := 0) dX1_addWalker_16 rfl rfl ?_
    refine g_get fX1_22 rfl rfl dX1_addWalker_17 ?_
    refine g_aload_n (i := 0) (j := 0) dX1_addWalker_20 rfl rfl ?_
    refine g_get fX1_32 rfl rfl dX1_addWalker_21 ?_
    refine g_iload_n (i := 1) (j := 1) dX1_addWalker_24 rfl rfl ?_
    refine n_iast (x := wk) (ws' := wC e0 e1 e2 e3 e4 e5 e6 e7 e8 (kG9 wk tw sf lo ri la) e10 e11 e12 (kI 5 (va_up pa wk x)) (kI 5 wa) e16 e17 e19 e21 e22 e23 e25 e26) rfl (by omega) (rng_lit 5 rfl) dX1_addWalker_25 rfl ?_
    refine g_aload_n (i := 0) (j := 0) dX1_addWalker_26 rfl rfl ?_
    refine g_get fX1_25 rfl rfl dX1_addWalker_27 ?_
    refine g_aload_n (i := 0) (j := 0) dX1_addWalker_30 rfl rfl ?_
    refine g_get fX1_32 rfl rfl dX1_addWalker_31 ?_
    refine g_iload_n (i := 2) (j := 2) dX1_addWalker_34 rfl rfl ?_
    refine n_iast (x := wk) (ws' := wC e0 e1 e2 e3 e4 e5 e6 e7 e8 (kG9 wk tw sf lo ri la) e10 e11 e12 (kI 5 (va_up pa wk x)) (kI 5 (va_up wa wk y)) e16 e17 e19 e21 e22 e23 e25 e26) rfl (by omega) (rng_lit 5 rfl) dX1_addWalker_35 rfl ?_
    refine g_aload_n (i := 0) (j := 0) dX1_addWalker_36 rfl rfl ?_
    refine g_dup dX1_addWalker_37 rfl ?_
    refine g_get fX1_32 rfl rfl dX1_addWalker_38 ?_
    refine g_iconst (v := nI 1) dX1_addWalker_41 (by decide) ?_
    refine n_iadd (a := wk) (b := 1) dX1_addWalker_42 ?_
    refine n_putI (ws' := wC e0 e1 e2 e3 e4 e5 e6 e7 e8 (kG9 (wk + 1) tw sf lo ri la) e10 e11 e12 (kI 5 (va_up pa wk x)) (kI 5 (va_up wa wk y)) e16 e17 e19 e21 e22 e23 e25 e26) fX1_32 fp_X1_5 rfl (by exact Nat.le_of_ble_eq_true rfl) dX1_addWalker_43 rfl ?_
    refine g_vret rfl dX1_addWalker_46 ?_
    exact gE_i rfl rfl
  · exfalso; omega

theorem ctX1_addTower_9 {e0 e1 e2 e3 e4 e5 e6 e7 e8 e10 e11 e13 e14 e16 e17 e19 e21 e22 e23 e25 e26 : va_E} {ho : Nat → Nat} {wk tw sf lo ri la : Nat} {c x : Nat} (hc : c < 10) : Ct mX1_addTower 1 [.ref 9, .int (nI c), .int (nI x)] (wC e0 e1 e2 e3 e4 e5 e6 e7 e8 (kG9 wk tw sf lo ri la) e10 e11 (kI 10 ho) e13 e14 e16 e17 e19 e21 e22 e23 e25 e26) (gE none (wC e0 e1 e2 e3 e4 e5 e6 e7 e8 (kG9 wk (tw + 1) sf lo ri la) e10 e11 (kI 10 (va_up ho c x)) e13 e14 e16 e17 e19 e21 e22 e23 e25 e26)) := by
  refine Ct.of (by decide) (by exact Nat.le_of_ble_eq_true rfl) ?_
  show Go mX1_addTower 1 0 [(0, .ref 9), (1, .int (nI c)), (2, .int (nI x))] [] (wC e0 e1 e2 e3 e4 e5 e6 e7 e8 (kG9 wk tw sf lo ri la) e10 e11 (kI 10 ho) e13 e14 e16 e17 e19 e21 e22 e23 e25 e26) (gE none (wC e0 e1 e2 e3 e4 e5 e6 e7 e8 (kG9 wk (tw + 1) sf lo ri la) e10 e11 (kI 10 (va_up ho c x)) e13 e14 e16 e17 e19 e21 e22 e23 e25 e26))
  have q1 := nI_toInt (n := c) (by omega)
  refine g_iload_n (i := 1) (j := 1) dX1_addTower_0 rfl rfl ?_
  refine c_N (st1 := [.int (nI (bN (0 ≤ (nI c).toInt ∧ (nI c).toInt ≤ 9)))]) (ctX7_isCell (x := (nI c)) ) kX7_isCell lX1_41 (by decide) rfl (by exact Nat.le_of_ble_eq_true rfl) dX1_addTower_1 rfl rfl ?_
  refine b_if_ne (tgt := 8) dX1_addTower_4 (by decide) (fun h4 => ?_) (fun h4 => ?_)
  · refine g_aload_n (i := 0) (j := 0) dX1_addTower_8 rfl rfl ?_
    refine g_get fX1_19 rfl rfl dX1_addTower_9 ?_
    refine g_iload_n (i := 1) (j := 1) dX1_addTower_12 rfl rfl ?_
    refine g_iload_n (i := 2) (j := 2) dX1_addTower_13 rfl rfl ?_
    refine n_iast (x := c) (ws' := wC e0 e1 e2 e3 e4 e5 e6 e7 e8 (kG9 wk tw sf lo ri la) e10 e11 (kI 10 (va_up ho c x)) e13 e14 e16 e17 e19 e21 e22 e23 e25 e26) rfl (by omega) (rng_lit 10 rfl) dX1_addTower_14 rfl ?_
    refine g_aload_n (i := 0) (j := 0) dX1_addTower_15 rfl rfl ?_
    refine g_dup dX1_addTower_16 rfl ?_
    refine g_get fX1_35 rfl rfl dX1_addTower_17 ?_
    refine g_iconst (v := nI 1) dX1_addTower_20 (by decide) ?_
    refine n_iadd (a := tw) (b := 1) dX1_addTower_21 ?_
    refine n_putI (ws' := wC e0 e1 e2 e3 e4 e5 e6 e7 e8 (kG9 wk (tw + 1) sf lo ri la) e10 e11 (kI 10 (va_up ho c x)) e13 e14 e16 e17 e19 e21 e22 e23 e25 e26) fX1_35 fp_X1_6 rfl (by exact Nat.le_of_ble_eq_true rfl) dX1_addTower_22 rfl ?_
    refine g_vret rfl dX1_addTower_25 ?_
    exact gE_i rfl rfl
  · exact absurd (by omega) h4

theorem ctX1_addSoft_9 {e0 e1 e2 e3 e4 e5 e6 e7 e8 e10 e12 e13 e14 e16 e17 e19 e21 e22 e23 e25 e26 : va_E} {so : Nat → Nat} {wk tw sf lo ri la : Nat} {c : Nat} (hc : c < 10) : Ct mX1_addSoft 1 [.ref 9, .int (nI c)] (wC e0 e1 e2 e3 e4 e5 e6 e7 e8 (kG9 wk tw sf lo ri la) e10 (kZ 10 so) e12 e13 e14 e16 e17 e19 e21 e22 e23 e25 e26) (gE none (wC e0 e1 e2 e3 e4 e5 e6 e7 e8 (kG9 wk tw (sf + 1) lo ri la) e10 (kZ 10 (va_up so c 1)) e12 e13 e14 e16 e17 e19 e21 e22 e23 e25 e26)) := by
  refine Ct.of (by decide) (by exact Nat.le_of_ble_eq_true rfl) ?_
  show Go mX1_addSoft 1 0 [(0, .ref 9), (1, .int (nI c))] [] (wC e0 e1 e2 e3 e4 e5 e6 e7 e8 (kG9 wk tw sf lo ri la) e10 (kZ 10 so) e12 e13 e14 e16 e17 e19 e21 e22 e23 e25 e26) (gE none (wC e0 e1 e2 e3 e4 e5 e6 e7 e8 (kG9 wk tw (sf + 1) lo ri la) e10 (kZ 10 (va_up so c 1)) e12 e13 e14 e16 e17 e19 e21 e22 e23 e25 e26))
  have q1 := nI_toInt (n := c) (by omega)
  refine g_iload_n (i := 1) (j := 1) dX1_addSoft_0 rfl rfl ?_
  refine c_N (st1 := [.int (nI (bN (0 ≤ (nI c).toInt ∧ (nI c).toInt ≤ 9)))]) (ctX7_isCell (x := (nI c)) ) kX7_isCell lX1_41 (by decide) rfl (by exact Nat.le_of_ble_eq_true rfl) dX1_addSoft_1 rfl rfl ?_
  refine b_if_ne (tgt := 8) dX1_addSoft_4 (by decide) (fun h4 => ?_) (fun h4 => ?_)
  · refine g_aload_n (i := 0) (j := 0) dX1_addSoft_8 rfl rfl ?_
    refine g_get fX1_15 rfl rfl dX1_addSoft_9 ?_
    refine g_iload_n (i := 1) (j := 1) dX1_addSoft_12 rfl rfl ?_
    refine g_iconst (v := nI 1) dX1_addSoft_13 (by decide) ?_
    refine n_zast (x := c) (ws' := wC e0 e1 e2 e3 e4 e5 e6 e7 e8 (kG9 wk tw sf lo ri la) e10 (kZ 10 (va_up so c 1)) e12 e13 e14 e16 e17 e19 e21 e22 e23 e25 e26) rfl (by omega) (rng_lit 10 rfl) (by omega) dX1_addSoft_14 rfl ?_
    refine g_aload_n (i := 0) (j := 0) dX1_addSoft_15 rfl rfl ?_
    refine g_dup dX1_addSoft_16 rfl ?_
    refine g_get fX1_38 rfl rfl dX1_addSoft_17 ?_
    refine g_iconst (v := nI 1) dX1_addSoft_20 (by decide) ?_
    refine n_iadd (a := sf) (b := 1) dX1_addSoft_21 ?_
    refine n_putI (ws' := wC e0 e1 e2 e3 e4 e5 e6 e7 e8 (kG9 wk tw (sf + 1) lo ri la) e10 (kZ 10 (va_up so c 1)) e12 e13 e14 e16 e17 e19 e21 e22 e23 e25 e26) fX1_38 fp_X1_7 rfl (by exact Nat.le_of_ble_eq_true rfl) dX1_addSoft_22 rfl ?_
    refine g_vret rfl dX1_addSoft_25 ?_
    exact gE_i rfl rfl
  · exact absurd (by omega) h4

