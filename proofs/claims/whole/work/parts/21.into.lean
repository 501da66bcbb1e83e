/-! part 21: readPart, readInto, fault, bay -/
section SP
variable {le : Nat → Nat} {ln p wk : Nat} {wp : Nat → Nat} {tw : Nat} {tp : Nat → Nat} {sf : Nat} {so : Nat → Nat}
theorem sPart_W (h : le p = 87) (h2 : wk < 5) : sPart le ln p wk wp tw tp sf so = (if dg le ln (p + 1) 1 3 then (if dg le ln (p + 2) 0 5 then .inr (p + 3, wk + 1, va_up wp wk p, tw, tp, sf, so) else .inl (p + 2)) else .inl (p + 1)) := by unfold sPart; rw [if_pos ⟨h, h2⟩]
theorem sPart_T (h : le p = 84) (h2 : tw < 2) : sPart le ln p wk wp tw tp sf so = (if dg le ln (p + 1) 1 8 ∧ hoOf le tw tp (le (p + 1) - 48) = 0 then (if dg le ln (p + 2) 1 4 then .inr (p + 3, wk, wp, tw + 1, va_up tp tw p, sf, so) else .inl (p + 2)) else .inl (p + 1)) := by unfold sPart; rw [if_neg (by omega), if_pos ⟨h, h2⟩]
theorem sPart_S (h : le p = 83) (h2 : sf < 8) : sPart le ln p wk wp tw tp sf so = (if dg le ln (p + 1) 1 8 ∧ so (le (p + 1) - 48) = 0 then .inr (p + 2, wk, wp, tw, tp, sf + 1, va_up so (le (p + 1) - 48) 1) else .inl (p + 1)) := by unfold sPart; rw [if_neg (by omega), if_neg (by omega), if_pos ⟨h, h2⟩]
theorem sPart_no (h1 : ¬ (le p = 87 ∧ wk < 5)) (h2 : ¬ (le p = 84 ∧ tw < 2)) (h3 : ¬ (le p = 83 ∧ sf < 8)) : sPart le ln p wk wp tw tp sf so = .inl p := by unfold sPart; rw [if_neg h1, if_neg h2, if_neg h3]
end SP
def wpOK (le : Nat → Nat) (wk : Nat) (wp : Nat → Nat) : Prop := ∀ k, k < wk → 49 ≤ le (wp k + 1) ∧ le (wp k + 1) ≤ 51 ∧ 48 ≤ le (wp k + 2) ∧ le (wp k + 2) ≤ 53
def xOK (le : Nat → Nat) (ln p wk : Nat) (wp : Nat → Nat) (tw : Nat) (tp : Nat → Nat) (sf : Nat) (so : Nat → Nat) : Prop := p ≤ ln ∧ wk ≤ 5 ∧ tw ≤ 2 ∧ sf ≤ 8 ∧ (∀ k, so k ≤ 1) ∧ (∀ k, (k = 0 ∨ 9 ≤ k) → so k = 0) ∧ tpOK le tw tp ∧ wpOK le wk wp
abbrev xOKX (le : Nat → Nat) (ln : Nat) (X : tX) : Prop := xOK le ln X.1 X.2.1 X.2.2.1 X.2.2.2.1 X.2.2.2.2.1 X.2.2.2.2.2.1 X.2.2.2.2.2.2
theorem xOK_s {le : Nat → Nat} {ln p wk : Nat} {wp : Nat → Nat} {tw : Nat} {tp : Nat → Nat} {sf : Nat} {so : Nat → Nat} {X : tX} (h : xOK le ln p wk wp tw tp sf so) (hs : sPart le ln p wk wp tw tp sf so = .inr X) : xOKX le ln X ∧ p + 2 ≤ X.1 := by
  obtain ⟨h1, h2, h3, h4, h5, h6, h7, h8⟩ := h
  unfold sPart at hs
  split at hs
  · rename_i c
    split at hs
    · rename_i d1
      split at hs
      · rename_i d2
        cases hs
        refine ⟨⟨by have := d2.1; simp only; omega, by simp only; omega, h3, h4, h5, h6, h7, fun k hk => ?_⟩, by simp only; omega⟩
        by_cases e : k = wk
        · subst e
          simp only [va_up_same]
          have a := d1.2.1; have b := d1.2.2; have c := d2.2.1; have d := d2.2.2
          exact ⟨by omega, by omega, by omega, by omega⟩
        · simp only [va_up_other e]
          exact h8 k (by simp only at hk; omega)
      · cases hs
    · cases hs
  · split at hs
    · rename_i c
      split at hs
      · rename_i d1
        split at hs
        · rename_i d2
          cases hs
          exact ⟨⟨by have := d2.1; simp only; omega, h2, by simp only; omega, h4, h5, h6, tpOK_s h7 d1.1 d2, h8⟩, by simp only; omega⟩
        · cases hs
      · cases hs
    · split at hs
      · rename_i c
        split at hs
        · rename_i d1
          cases hs
          have a := d1.1.1; have b := d1.1.2.1; have b2 := d1.1.2.2
          refine ⟨⟨by simp only; omega, h2, h3, by simp only; omega, fun k => ?_, fun k hk => ?_, h7, h8⟩, by simp only; omega⟩
          · show va_up so _ 1 k ≤ 1
            unfold va_up
            split
            · exact Nat.le_refl _
            · exact h5 k
          · show va_up so _ 1 k = 0
            rw [va_up_other (by omega)]
            exact h6 k hk
        · cases hs
      · cases hs
theorem sParts_ok {le : Nat → Nat} {ln : Nat} : ∀ (n p wk : Nat) (wp : Nat → Nat) (tw : Nat) (tp : Nat → Nat) (sf : Nat) (so : Nat → Nat) (X : tX), xOK le ln p wk wp tw tp sf so → sParts le ln n p wk wp tw tp sf so = .inr X → xOKX le ln X
  | 0, p, wk, wp, tw, tp, sf, so, X, h, e => by cases e; exact h
  | n + 1, p, wk, wp, tw, tp, sf, so, X, h, e => by
    rw [sParts] at e
    split at e
    · cases hs : sPart le ln p wk wp tw tp sf so with
      | inl f => rw [hs] at e; cases e
      | inr Y =>
        rw [hs] at e
        exact sParts_ok n _ _ _ _ _ _ _ X (xOK_s h hs).1 e
    · cases e; exact h
theorem xOK_0 {le : Nat → Nat} {ln : Nat} (h : hP le ln 15 = 15) : xOK le ln 15 0 z0 0 z0 0 z0 := ⟨hP_lt le ln 15 h, by omega, by omega, by omega, fun _ => Nat.zero_le _, fun _ _ => rfl, fun t ht => absurd ht (by omega), fun t ht => absurd ht (by omega)⟩
theorem hv_ok {le : Nat → Nat} {ln : Nat} (h : hP le ln 15 = 15) {i : Nat} (hi : i < 15) : hv le ln i = le i - 48 ∧ hOK le ln i = true := by
  obtain ⟨n, hn⟩ : ∃ n, 15 = (i + 1) + n := ⟨14 - i, by omega⟩
  have h2 : hP le ln (i + 1) = i + 1 := hP_down (n := n) (by rw [← hn]; exact h)
  exact ⟨by unfold hv; rw [if_pos h2], (hP_prev h2).2⟩
theorem hgt_eq {le : Nat → Nat} {ln : Nat} (h : hP le ln 15 = 15) : cpf 10 (fun j => hv le ln (1 + j)) z0 = hgt le := by
  funext j
  unfold hgt cpf
  split
  · exact (hv_ok h (by omega)).1
  · rfl
theorem dgH {le : Nat → Nat} {ln : Nat} (h : hP le ln 15 = 15) {i : Nat} (h0 : i ≠ 0) (hi : i < 15) : 48 + hLo i ≤ le i ∧ le i ≤ 48 + hHi le i := by
  have h2 := (hv_ok h hi).2
  unfold hOK at h2
  rw [if_neg h0] at h2
  exact (of_decide_eq_true h2).2
theorem zb_cpf (f : Nat → Nat) : zb (cpf 10 f z0) := fun j hj => by unfold cpf; rw [if_neg (by omega)]; rfl
theorem zb_ho {le : Nat → Nat} {tw : Nat} {tp : Nat → Nat} (h : tpOK le tw tp) : zb (hoOf le tw tp) := fun c hc => by
  unfold hoOf
  rw [if_neg (fun z => by have := h 0 z.1; omega), if_neg (fun z => by have := h 1 z.1; omega)]
theorem zb_so {so : Nat → Nat} (h : ∀ k, (k = 0 ∨ 9 ≤ k) → so k = 0) : zb so := fun c hc => h c (by omega)
theorem hoOf_0 (le tp : Nat → Nat) : hoOf le 0 tp = z0 := by funext c; unfold hoOf; rw [if_neg (by omega), if_neg (by omega)]; rfl
theorem paOf_0 (le wp pa : Nat → Nat) : paOf le 0 wp pa = pa := by funext k; unfold paOf; rw [if_neg (by omega)]
theorem waOf_0 (le wp wa : Nat → Nat) : waOf le 0 wp wa = wa := by funext k; unfold waOf; rw [if_neg (by omega)]
/-- what a good reading leaves -/
def rdOK (le pa wa : Nat → Nat) (X : tX) (h2 so2 ho2 pa2 wa2 : Nat → Nat) (wk2 tw2 lo2 ri2 la2 : Nat) : Prop := h2 = hgt le ∧ so2 = X.2.2.2.2.2.2 ∧ ho2 = hoOf le X.2.2.2.1 X.2.2.2.2.1 ∧ pa2 = paOf le X.2.1 X.2.2.1 pa ∧ wa2 = waOf le X.2.1 X.2.2.1 wa ∧ wk2 = X.2.1 ∧ tw2 = X.2.2.2.1 ∧ lo2 = 10 * (le 11 - 48) + (le 12 - 48) ∧ ri2 = le 13 - 48 ∧ la2 = le 14 - 48
theorem ctX4_readPart {e0 e4 e9 e10 e11 e12 e13 e14 e16 e17 e19 e21 e22 e23 e25 e26 : va_E} {pa wa : Nat → Nat} {lo ri la : Nat} {p wk : Nat} {wp : Nat → Nat} {tw : Nat} {tp : Nat → Nat} {sf : Nat} {so : Nat → Nat} {le : Nat → Nat} {ln : Nat} (hln : ln ≤ 56) (hle : ∀ k, le k ≤ 255) (hx : xOK le ln p wk wp tw tp sf so) (hp : p < ln) : Ct mX4_readPart 3 [.ref 1, .ref 3] (wC e0 (kT ln p 0) (kI 56 le) (kG3 wk tw sf lo ri la) e4 (kZ 10 so) (kI 10 (hoOf le tw tp)) (kI 5 (paOf le wk wp pa)) (kI 5 (waOf le wk wp wa)) e9 e10 e11 e12 e13 e14 e16 e17 e19 e21 e22 e23 e25 e26) (gE none (match sPart le ln p wk wp tw tp sf so with | .inl f => wC e0 (kT ln f 1) (kI 56 le) (kG3 wk tw sf lo ri la) e4 (kZ 10 so) (kI 10 (hoOf le tw tp)) (kI 5 (paOf le wk wp pa)) (kI 5 (waOf le wk wp wa)) e9 e10 e11 e12 e13 e14 e16 e17 e19 e21 e22 e23 e25 e26 | .inr X => wC e0 (kT ln X.1 0) (kI 56 le) (kG3 X.2.1 X.2.2.2.1 X.2.2.2.2.2.1 lo ri la) e4 (kZ 10 X.2.2.2.2.2.2) (kI 10 (hoOf le X.2.2.2.1 X.2.2.2.2.1)) (kI 5 (paOf le X.2.1 X.2.2.1 pa)) (kI 5 (waOf le X.2.1 X.2.2.1 wa)) e9 e10 e11 e12 e13 e14 e16 e17 e19 e21 e22 e23 e25 e26)) := by
  refine Ct.of (by decide) (by exact Nat.le_of_ble_eq_true rfl) ?_
  show Go mX4_readPart 3 0 [(0, .ref 1), (1, .ref 3)] [] (wC e0 (kT ln p 0) (kI 56 le) (kG3 wk tw sf lo ri la) e4 (kZ 10 so) (kI 10 (hoOf le tw tp)) (kI 5 (paOf le wk wp pa)) (kI 5 (waOf le wk wp wa)) e9 e10 e11 e12 e13 e14 e16 e17 e19 e21 e22 e23 e25 e26) (gE none (match sPart le ln p wk wp tw tp sf so with | .inl f => wC e0 (kT ln f 1) (kI 56 le) (kG3 wk tw sf lo ri la) e4 (kZ 10 so) (kI 10 (hoOf le tw tp)) (kI 5 (paOf le wk wp pa)) (kI 5 (waOf le wk wp wa)) e9 e10 e11 e12 e13 e14 e16 e17 e19 e21 e22 e23 e25 e26 | .inr X => wC e0 (kT ln X.1 0) (kI 56 le) (kG3 X.2.1 X.2.2.2.1 X.2.2.2.2.2.1 lo ri la) e4 (kZ 10 X.2.2.2.2.2.2) (kI 10 (hoOf le X.2.2.2.1 X.2.2.2.2.1)) (kI 5 (paOf le X.2.1 X.2.2.1 pa)) (kI 5 (waOf le X.2.1 X.2.2.1 wa)) e9 e10 e11 e12 e13 e14 e16 e17 e19 e21 e22 e23 e25 e26))
  obtain ⟨hx1, hx2, hx3, hx4, hso, hx6, htp, hx8⟩ := hx
  have q1 := hle p
  refine g_aload_n (i := 0) (j := 0) dX4_readPart_0 rfl rfl ?_
  refine c_V (st1 := [.int (lH le ln p)]) (ctX4_letterHere  (by omega) (by omega)) kX4_letterHere lX4_38 (by decide) rfl rfl rfl rfl (by exact Nat.le_of_ble_eq_true rfl) dX4_readPart_1 rfl rfl ?_
  refine g_topi (y := nI (le p)) (by unfold lH; rw [if_pos hp]) ?_
  refine g_istore_n (i := 2) (lv' := [(2, .int (nI (le p))), (0, .ref 1), (1, .ref 3)]) dX4_readPart_4 rfl (by decide) rfl ?_
  refine g_iload_n (i := 2) (j := 0) dX4_readPart_5 rfl rfl ?_
  refine g_bipush (v := nI 87) dX4_readPart_6 (by decide) ?_
  refine n_icmp_ne (tgt := 27) (by omega) (rng_lit 87 rfl) dX4_readPart_8 (by decide) (fun h8 => ?_) (fun h8 => ?_)
  · refine g_iload_n (i := 2) (j := 0) dX4_readPart_27 rfl rfl ?_
    refine g_bipush (v := nI 84) dX4_readPart_28 (by decide) ?_
    refine n_icmp_ne (tgt := 49) (by omega) (rng_lit 84 rfl) dX4_readPart_30 (by decide) (fun h30 => ?_) (fun h30 => ?_)
    · refine g_iload_n (i := 2) (j := 0) dX4_readPart_49 rfl rfl ?_
      refine g_bipush (v := nI 83) dX4_readPart_50 (by decide) ?_
      refine n_icmp_ne (tgt := 72) (by omega) (rng_lit 83 rfl) dX4_readPart_52 (by decide) (fun h52 => ?_) (fun h52 => ?_)
      · refine g_aload_n (i := 0) (j := 1) dX4_readPart_72 rfl rfl ?_
        refine g_iconst (v := nI 1) dX4_readPart_73 (by decide) ?_
        refine n_putZ (by omega) (ws' := wC e0 (kT ln p 1) (kI 56 le) (kG3 wk tw sf lo ri la) e4 (kZ 10 so) (kI 10 (hoOf le tw tp)) (kI 5 (paOf le wk wp pa)) (kI 5 (waOf le wk wp wa)) e9 e10 e11 e12 e13 e14 e16 e17 e19 e21 e22 e23 e25 e26) fX4_22 fp_X4_3 rfl (by exact Nat.le_of_ble_eq_true rfl) dX4_readPart_74 rfl ?_
        refine g_vret rfl dX4_readPart_77 ?_
        refine gE_i rfl ?_
        rw [sPart_no (by omega) (by omega) (by omega)]
      · refine g_aload_n (i := 1) (j := 2) dX4_readPart_55 rfl rfl ?_
        refine g_get fX4_71 rfl rfl dX4_readPart_56 ?_
        refine g_bipush (v := nI 8) dX4_readPart_59 (by decide) ?_
        refine n_icmp_ge (tgt := 72) (by omega) (rng_lit 8 rfl) dX4_readPart_61 (by decide) (fun h61 => ?_) (fun h61 => ?_)
        · refine g_aload_n (i := 0) (j := 1) dX4_readPart_72 rfl rfl ?_
          refine g_iconst (v := nI 1) dX4_readPart_73 (by decide) ?_
          refine n_putZ (by omega) (ws' := wC e0 (kT ln p 1) (kI 56 le) (kG3 wk tw sf lo ri la) e4 (kZ 10 so) (kI 10 (hoOf le tw tp)) (kI 5 (paOf le wk wp pa)) (kI 5 (waOf le wk wp wa)) e9 e10 e11 e12 e13 e14 e16 e17 e19 e21 e22 e23 e25 e26) fX4_22 fp_X4_3 rfl (by exact Nat.le_of_ble_eq_true rfl) dX4_readPart_74 rfl ?_
          refine g_vret rfl dX4_readPart_77 ?_
          refine gE_i rfl ?_
          rw [sPart_no (by omega) (by omega) (by omega)]
        · refine g_aload_n (i := 0) (j := 1) dX4_readPart_64 rfl rfl ?_
          refine g_aload_n (i := 1) (j := 2) dX4_readPart_65 rfl rfl ?_
          refine c_V (st1 := []) (ctX4_readSoft  hln hle (by omega) (by omega) hso) kX4_readSoft lX4_74 (by decide) rfl rfl rfl rfl (by exact Nat.le_of_ble_eq_true rfl) dX4_readPart_66 rfl rfl ?_
          refine g_goto (tgt := 77) dX4_readPart_69 (by decide) ?_
          refine g_vret rfl dX4_readPart_77 ?_
          refine gE_i rfl ?_
          rw [sPart_S h52 h61]
          by_cases c1 : dg le ln (p + 1) 1 8 ∧ so (le (p + 1) - 48) = 0
          · simp only [if_pos c1]
          · simp only [if_neg c1]
    · refine g_aload_n (i := 1) (j := 2) dX4_readPart_33 rfl rfl ?_
      refine g_get fX4_65 rfl rfl dX4_readPart_34 ?_
      refine g_iconst (v := nI 2) dX4_readPart_37 (by decide) ?_
      refine n_icmp_ge (tgt := 49) (by omega) (rng_lit 2 rfl) dX4_readPart_38 (by decide) (fun h38 => ?_) (fun h38 => ?_)
      · refine g_iload_n (i := 2) (j := 0) dX4_readPart_49 rfl rfl ?_
        refine g_bipush (v := nI 83) dX4_readPart_50 (by decide) ?_
        refine n_icmp_ne (tgt := 72) (by omega) (rng_lit 83 rfl) dX4_readPart_52 (by decide) (fun h52 => ?_) (fun h52 => ?_)
        · refine g_aload_n (i := 0) (j := 1) dX4_readPart_72 rfl rfl ?_
          refine g_iconst (v := nI 1) dX4_readPart_73 (by decide) ?_
          refine n_putZ (by omega) (ws' := wC e0 (kT ln p 1) (kI 56 le) (kG3 wk tw sf lo ri la) e4 (kZ 10 so) (kI 10 (hoOf le tw tp)) (kI 5 (paOf le wk wp pa)) (kI 5 (waOf le wk wp wa)) e9 e10 e11 e12 e13 e14 e16 e17 e19 e21 e22 e23 e25 e26) fX4_22 fp_X4_3 rfl (by exact Nat.le_of_ble_eq_true rfl) dX4_readPart_74 rfl ?_
          refine g_vret rfl dX4_readPart_77 ?_
          refine gE_i rfl ?_
          rw [sPart_no (by omega) (by omega) (by omega)]
        · refine g_aload_n (i := 1) (j := 2) dX4_readPart_55 rfl rfl ?_
          refine g_get fX4_71 rfl rfl dX4_readPart_56 ?_
          refine g_bipush (v := nI 8) dX4_readPart_59 (by decide) ?_
          refine n_icmp_ge (tgt := 72) (by omega) (rng_lit 8 rfl) dX4_readPart_61 (by decide) (fun h61 => ?_) (fun h61 => ?_)
          · refine g_aload_n (i := 0) (j := 1) dX4_readPart_72 rfl rfl ?_
            refine g_iconst (v := nI 1) dX4_readPart_73 (by decide) ?_
            refine n_putZ (by omega) (ws' := wC e0 (kT ln p 1) (kI 56 le) (kG3 wk tw sf lo ri la) e4 (kZ 10 so) (kI 10 (hoOf le tw tp)) (kI 5 (paOf le wk wp pa)) (kI 5 (waOf le wk wp wa)) e9 e10 e11 e12 e13 e14 e16 e17 e19 e21 e22 e23 e25 e26) fX4_22 fp_X4_3 rfl (by exact Nat.le_of_ble_eq_true rfl) dX4_readPart_74 rfl ?_
            refine g_vret rfl dX4_readPart_77 ?_
            refine gE_i rfl ?_
            rw [sPart_no (by omega) (by omega) (by omega)]
          · refine g_aload_n (i := 0) (j := 1) dX4_readPart_64 rfl rfl ?_
            refine g_aload_n (i := 1) (j := 2) dX4_readPart_65 rfl rfl ?_
            refine c_V (st1 := []) (ctX4_readSoft  hln hle (by omega) (by omega) hso) kX4_readSoft lX4_74 (by decide) rfl rfl rfl rfl (by exact Nat.le_of_ble_eq_true rfl) dX4_readPart_66 rfl rfl ?_
            refine g_goto (tgt := 77) dX4_readPart_69 (by decide) ?_
            refine g_vret rfl dX4_readPart_77 ?_
            refine gE_i rfl ?_
            rw [sPart_S h52 h61]
            by_cases c1 : dg le ln (p + 1) 1 8 ∧ so (le (p + 1) - 48) = 0
            · simp only [if_pos c1]
            · simp only [if_neg c1]
      · refine g_aload_n (i := 0) (j := 1) dX4_readPart_41 rfl rfl ?_
        refine g_aload_n (i := 1) (j := 2) dX4_readPart_42 rfl rfl ?_
        refine c_V (st1 := []) (ctX4_readTower  hln hle (by omega) (by omega) (hoOf_le hle tw tp)) kX4_readTower lX4_68 (by decide) rfl rfl rfl rfl (by exact Nat.le_of_ble_eq_true rfl) dX4_readPart_43 rfl rfl ?_
        refine g_goto (tgt := 77) dX4_readPart_46 (by decide) ?_
        refine g_vret rfl dX4_readPart_77 ?_
        refine gE_i rfl ?_
        rw [sPart_T h30 h38]
        by_cases c1 : dg le ln (p + 1) 1 8 ∧ hoOf le tw tp (le (p + 1) - 48) = 0
        · by_cases c2 : dg le ln (p + 2) 1 4
          · simp only [if_pos c1, if_pos c2, hoOf_s h38 htp c1.2]
          · simp only [if_pos c1, if_neg c2]
        · simp only [if_neg c1]
  · refine g_aload_n (i := 1) (j := 2) dX4_readPart_11 rfl rfl ?_
    refine g_get fX4_59 rfl rfl dX4_readPart_12 ?_
    refine g_iconst (v := nI 5) dX4_readPart_15 (by decide) ?_
    refine n_icmp_ge (tgt := 27) (by omega) (rng_lit 5 rfl) dX4_readPart_16 (by decide) (fun h16 => ?_) (fun h16 => ?_)
    · refine g_iload_n (i := 2) (j := 0) dX4_readPart_27 rfl rfl ?_
      refine g_bipush (v := nI 84) dX4_readPart_28 (by decide) ?_
      refine n_icmp_ne (tgt := 49) (by omega) (rng_lit 84 rfl) dX4_readPart_30 (by decide) (fun h30 => ?_) (fun h30 => ?_)
      · refine g_iload_n (i := 2) (j := 0) dX4_readPart_49 rfl rfl ?_
        refine g_bipush (v := nI 83) dX4_readPart_50 (by decide) ?_
        refine n_icmp_ne (tgt := 72) (by omega) (rng_lit 83 rfl) dX4_readPart_52 (by decide) (fun h52 => ?_) (fun h52 => ?_)
        · refine g_aload_n (i := 0) (j := 1) dX4_readPart_72 rfl rfl ?_
          refine g_iconst (v := nI 1) dX4_readPart_73 (by decide) ?_
          refine n_putZ (by omega) (ws' := wC e0 (kT ln p 1) (kI 56 le) (kG3 wk tw sf lo ri la) e4 (kZ 10 so) (kI 10 (hoOf le tw tp)) (kI 5 (paOf le wk wp pa)) (kI 5 (waOf le wk wp wa)) e9 e10 e11 e12 e13 e14 e16 e17 e19 e21 e22 e23 e25 e26) fX4_22 fp_X4_3 rfl (by exact Nat.le_of_ble_eq_true rfl) dX4_readPart_74 rfl ?_
          refine g_vret rfl dX4_readPart_77 ?_
          refine gE_i rfl ?_
          rw [sPart_no (by omega) (by omega) (by omega)]
        · refine g_aload_n (i := 1) (j := 2) dX4_readPart_55 rfl rfl ?_
          refine g_get fX4_71 rfl rfl dX4_readPart_56 ?_
          refine g_bipush (v := nI 8) dX4_readPart_59 (by decide) ?_
          refine n_icmp_ge (tgt := 72) (by omega) (rng_lit 8 rfl) dX4_readPart_61 (by decide) (fun h61 => ?_) (fun h61 => ?_)
          · refine g_aload_n (i := 0) (j := 1) dX4_readPart_72 rfl rfl ?_
            refine g_iconst (v := nI 1) dX4_readPart_73 (by decide) ?_
            refine n_putZ (by omega) (ws' := wC e0 (kT ln p 1) (kI 56 le) (kG3 wk tw sf lo ri la) e4 (kZ 10 so) (kI 10 (hoOf le tw tp)) (kI 5 (paOf le wk wp pa)) (kI 5 (waOf le wk wp wa)) e9 e10 e11 e12 e13 e14 e16 e17 e19 e21 e22 e23 e25 e26) fX4_22 fp_X4_3 rfl (by exact Nat.le_of_ble_eq_true rfl) dX4_readPart_74 rfl ?_
            refine g_vret rfl dX4_readPart_77 ?_
            refine gE_i rfl ?_
            rw [sPart_no (by omega) (by omega) (by omega)]
          · refine g_aload_n (i := 0) (j := 1) dX4_readPart_64 rfl rfl ?_
            refine g_aload_n (i := 1) (j := 2) dX4_readPart_65 rfl rfl ?_
            refine c_V (st1 := []) (ctX4_readSoft  hln hle (by omega) (by omega) hso) kX4_readSoft lX4_74 (by decide) rfl rfl rfl rfl (by exact Nat.le_of_ble_eq_true rfl) dX4_readPart_66 rfl rfl ?_
            refine g_goto (tgt := 77) dX4_readPart_69 (by decide) ?_
            refine g_vret rfl dX4_readPart_77 ?_
            refine gE_i rfl ?_
            rw [sPart_S h52 h61]
            by_cases c1 : dg le ln (p + 1) 1 8 ∧ so (le (p + 1) - 48) = 0
            · simp only [if_pos c1]
            · simp only [if_neg c1]
      · refine g_aload_n (i := 1) (j := 2) dX4_readPart_33 rfl rfl ?_
        refine g_get fX4_65 rfl rfl dX4_readPart_34 ?_
        refine g_iconst (v := nI 2) dX4_readPart_37 (by decide) ?_
        refine n_icmp_ge (tgt := 49) (by omega) (rng_lit 2 rfl) dX4_readPart_38 (by decide) (fun h38 => ?_) (fun h38 => ?_)
        · refine g_iload_n (i := 2) (j := 0) dX4_readPart_49 rfl rfl ?_
          refine g_bipush (v := nI 83) dX4_readPart_50 (by decide) ?_
          refine n_icmp_ne (tgt := 72) (by omega) (rng_lit 83 rfl) dX4_readPart_52 (by decide) (fun h52 => ?_) (fun h52 => ?_)
          · refine g_aload_n (i := 0) (j := 1) dX4_readPart_72 rfl rfl ?_
            refine g_iconst (v := nI 1) dX4_readPart_73 (by decide) ?_
            refine n_putZ (by omega) (ws' := wC e0 (kT ln p 1) (kI 56 le) (kG3 wk tw sf lo ri la) e4 (kZ 10 so) (kI 10 (hoOf le tw tp)) (kI 5 (paOf le wk wp pa)) (kI 5 (waOf le wk wp wa)) e9 e10 e11 e12 e13 e14 e16 e17 e19 e21 e22 e23 e25 e26) fX4_22 fp_X4_3 rfl (by exact Nat.le_of_ble_eq_true rfl) dX4_readPart_74 rfl ?_
            refine g_vret rfl dX4_readPart_77 ?_
            refine gE_i rfl ?_
            rw [sPart_no (by omega) (by omega) (by omega)]
          · refine g_aload_n (i := 1) (j := 2) dX4_readPart_55 rfl rfl ?_
            refine g_get fX4_71 rfl rfl dX4_readPart_56 ?_
            refine g_bipush (v := nI 8) dX4_readPart_59 (by decide) ?_
            refine n_icmp_ge (tgt := 72) (by omega) (rng_lit 8 rfl) dX4_readPart_61 (by decide) (fun h61 => ?_) (fun h61 => ?_)
            · refine g_aload_n (i := 0) (j := 1) dX4_readPart_72 rfl rfl ?_
              refine g_iconst (v := nI 1) dX4_readPart_73 (by decide) ?_
              refine n_putZ (by omega) (ws' := wC e0 (kT ln p 1) (kI 56 le) (kG3 wk tw sf lo ri la) e4 (kZ 10 so) (kI 10 (hoOf le tw tp)) (kI 5 (paOf le wk wp pa)) (kI 5 (waOf le wk wp wa)) e9 e10 e11 e12 e13 e14 e16 e17 e19 e21 e22 e23 e25 e26) fX4_22 fp_X4_3 rfl (by exact Nat.le_of_ble_eq_true rfl) dX4_readPart_74 rfl ?_
              refine g_vret rfl dX4_readPart_77 ?_
              refine gE_i rfl ?_
              rw [sPart_no (by omega) (by omega) (by omega)]
            · refine g_aload_n (i := 0) (j := 1) dX4_readPart_64 rfl rfl ?_
              refine g_aload_n (i := 1) (j := 2) dX4_readPart_65 rfl rfl ?_
              refine c_V (st1 := []) (ctX4_readSoft  hln hle (by omega) (by omega) hso) kX4_readSoft lX4_74 (by decide) rfl rfl rfl rfl (by exact Nat.le_of_ble_eq_true rfl) dX4_readPart_66 rfl rfl ?_
              refine g_goto (tgt := 77) dX4_readPart_69 (by decide) ?_
              refine g_vret rfl dX4_readPart_77 ?_
              refine gE_i rfl ?_
              rw [sPart_S h52 h61]
              by_cases c1 : dg le ln (p + 1) 1 8 ∧ so (le (p + 1) - 48) = 0
              · simp only [if_pos c1]
              · simp only [if_neg c1]
        · refine g_aload_n (i := 0) (j := 1) dX4_readPart_41 rfl rfl ?_
          refine g_aload_n (i := 1) (j := 2) dX4_readPart_42 rfl rfl ?_
          refine c_V (st1 := []) (ctX4_readTower  hln hle (by omega) (by omega) (hoOf_le hle tw tp)) kX4_readTower lX4_68 (by decide) rfl rfl rfl rfl (by exact Nat.le_of_ble_eq_true rfl) dX4_readPart_43 rfl rfl ?_
          refine g_goto (tgt := 77) dX4_readPart_46 (by decide) ?_
          refine g_vret rfl dX4_readPart_77 ?_
          refine gE_i rfl ?_
          rw [sPart_T h30 h38]
          by_cases c1 : dg le ln (p + 1) 1 8 ∧ hoOf le tw tp (le (p + 1) - 48) = 0
          · by_cases c2 : dg le ln (p + 2) 1 4
            · simp only [if_pos c1, if_pos c2, hoOf_s h38 htp c1.2]
            · simp only [if_pos c1, if_neg c2]
          · simp only [if_neg c1]
    · refine g_aload_n (i := 0) (j := 1) dX4_readPart_19 rfl rfl ?_
      refine g_aload_n (i := 1) (j := 2) dX4_readPart_20 rfl rfl ?_
      refine c_V (st1 := []) (ctX4_readWalker  hln hle (by omega) (by omega)) kX4_readWalker lX4_62 (by decide) rfl rfl rfl rfl (by exact Nat.le_of_ble_eq_true rfl) dX4_readPart_21 rfl rfl ?_
      refine g_goto (tgt := 77) dX4_readPart_24 (by decide) ?_
      refine g_vret rfl dX4_readPart_77 ?_
      refine gE_i rfl ?_
      rw [sPart_W h8 h16]
      by_cases c1 : dg le ln (p + 1) 1 3
      · by_cases c2 : dg le ln (p + 2) 0 5
        · simp only [if_pos c1, if_pos c2, paOf_s, waOf_s]
        · simp only [if_pos c1, if_neg c2]
      · simp only [if_neg c1]

theorem lp_stop {e0 e2 e3 e4 e5 e6 e7 e8 e9 e10 e11 e12 e13 e14 e16 e17 e19 e21 e22 e23 e25 e26 : va_E} {ln f i : Nat} (hf : f ≤ 60) (hi : i ≤ 57) (hln : ln ≤ 56) : Go mX4_readInto 4 21 [(0, .ref 1), (1, .ref 3), (2, .int (nI i))] [] (wC e0 (kT ln f 1) e2 e3 e4 e5 e6 e7 e8 e9 e10 e11 e12 e13 e14 e16 e17 e19 e21 e22 e23 e25 e26) (gE (some (.int (nI f))) (wC e0 (kT ln f 1) e2 e3 e4 e5 e6 e7 e8 e9 e10 e11 e12 e13 e14 e16 e17 e19 e21 e22 e23 e25 e26)) := by
  refine g_iload_n (i := 2) (j := 2) dX4_readInto_21 rfl rfl ?_
  refine g_bipush (v := nI 56) dX4_readInto_22 (by decide) ?_
  refine n_icmp_ge (tgt := 56) (by omega) (rng_lit 56 rfl) dX4_readInto_24 (by decide) (fun h24 => ?_) (fun h24 => ?_)
  · refine g_aload_n (i := 0) (j := 0) dX4_readInto_56 rfl rfl ?_
    refine g_get fX4_22 rfl rfl dX4_readInto_57 ?_
    refine n_if_eq (tgt := 70) (rng_lit 1 rfl) dX4_readInto_60 (by decide) (fun h60 => ?_) (fun h60 => ?_)
    · exact absurd h60 (by decide)
    · refine g_aload_n (i := 0) (j := 0) dX4_readInto_63 rfl rfl ?_
      refine g_get fX4_19 rfl rfl dX4_readInto_64 ?_
      refine g_goto (tgt := 72) dX4_readInto_67 (by decide) ?_
      refine g_iret rfl rfl dX4_readInto_72 ?_
      exact gE_i rfl rfl
  · refine g_aload_n (i := 0) (j := 0) dX4_readInto_27 rfl rfl ?_
    refine g_get fX4_22 rfl rfl dX4_readInto_28 ?_
    refine n_if_ne (tgt := 56) (rng_lit 1 rfl) dX4_readInto_31 (by decide) (fun h31 => ?_) (fun h31 => ?_)
    · refine g_aload_n (i := 0) (j := 0) dX4_readInto_56 rfl rfl ?_
      refine g_get fX4_22 rfl rfl dX4_readInto_57 ?_
      refine n_if_eq (tgt := 70) (rng_lit 1 rfl) dX4_readInto_60 (by decide) (fun h60 => ?_) (fun h60 => ?_)
      · exact absurd h60 (by decide)
      · refine g_aload_n (i := 0) (j := 0) dX4_readInto_63 rfl rfl ?_
        refine g_get fX4_19 rfl rfl dX4_readInto_64 ?_
        refine g_goto (tgt := 72) dX4_readInto_67 (by decide) ?_
        refine g_iret rfl rfl dX4_readInto_72 ?_
        exact gE_i rfl rfl
    · exact absurd h31 (by decide)

theorem lp_into {e0 e9 e10 e11 e12 e13 e14 e16 e17 e19 e21 e22 e23 e25 e26 : va_E} {h pa wa : Nat → Nat} {lo ri la : Nat} {le : Nat → Nat} {ln : Nat} (hln : ln ≤ 56) (hle : ∀ k, le k ≤ 255) (hzh : zb h) : ∀ (n i p wk : Nat) (wp : Nat → Nat) (tw : Nat) (tp : Nat → Nat) (sf : Nat) (so : Nat → Nat), i + n = 56 → xOK le ln p wk wp tw tp sf so → Go mX4_readInto 4 21 [(0, .ref 1), (1, .ref 3), (2, .int (nI i))] [] (wC e0 (kT ln p 0) (kI 56 le) (kG3 wk tw sf lo ri la) (kI 10 h) (kZ 10 so) (kI 10 (hoOf le tw tp)) (kI 5 (paOf le wk wp pa)) (kI 5 (waOf le wk wp wa)) e9 e10 e11 e12 e13 e14 e16 e17 e19 e21 e22 e23 e25 e26) (fun v u => v = some (.int (rF (sParts le ln n p wk wp tw tp sf so))) ∧ ∃ (pl2 sp2 : Nat) (h2 so2 ho2 pa2 wa2 : Nat → Nat) (wk2 tw2 sf2 lo2 ri2 la2 : Nat), u = wC e0 (kT ln pl2 sp2) (kI 56 le) (kG3 wk2 tw2 sf2 lo2 ri2 la2) (kI 10 h2) (kZ 10 so2) (kI 10 ho2) (kI 5 pa2) (kI 5 wa2) e9 e10 e11 e12 e13 e14 e16 e17 e19 e21 e22 e23 e25 e26 ∧ zb h2 ∧ zb so2 ∧ zb ho2 ∧ (∀ X, sParts le ln n p wk wp tw tp sf so = .inr X → h2 = h ∧ so2 = X.2.2.2.2.2.2 ∧ ho2 = hoOf le X.2.2.2.1 X.2.2.2.2.1 ∧ pa2 = paOf le X.2.1 X.2.2.1 pa ∧ wa2 = waOf le X.2.1 X.2.2.1 wa ∧ wk2 = X.2.1 ∧ tw2 = X.2.2.2.1 ∧ lo2 = lo ∧ ri2 = ri ∧ la2 = la)) := by
  intro n
  induction n with
  | zero =>
    intro i p wk wp tw tp sf so hi hx
    obtain rfl : i = 56 := by omega
    refine g_iload_n (i := 2) (j := 2) dX4_readInto_21 rfl rfl ?_
    refine g_bipush (v := nI 56) dX4_readInto_22 (by decide) ?_
    refine n_icmp_ge (tgt := 56) (rng_lit 56 rfl) (rng_lit 56 rfl) dX4_readInto_24 (by decide) (fun h24 => ?_) (fun h24 => ?_)
    · refine g_aload_n (i := 0) (j := 0) dX4_readInto_56 rfl rfl ?_
      refine g_get fX4_22 rfl rfl dX4_readInto_57 ?_
      refine n_if_eq (tgt := 70) (rng_lit 0 rfl) dX4_readInto_60 (by decide) (fun h60 => ?_) (fun h60 => ?_)
      · refine g_bipush (v := (-9)) dX4_readInto_70 (by decide) ?_
        refine g_iret rfl rfl dX4_readInto_72 ?_
        exact ⟨rfl, _, _, _, _, _, _, _, _, _, _, _, _, _, rfl, hzh, zb_so hx.2.2.2.2.2.1, zb_ho hx.2.2.2.2.2.2.1, fun X e => by cases e; exact ⟨rfl, rfl, rfl, rfl, rfl, rfl, rfl, rfl, rfl, rfl⟩⟩
      · exact absurd h60 (by decide)
    · exact absurd h24 (by decide)

  | succ n ih =>
    intro i p wk wp tw tp sf so hi hx
    have hx1 := hx.1
    refine g_iload_n (i := 2) (j := 2) dX4_readInto_21 rfl rfl ?_
    refine g_bipush (v := nI 56) dX4_readInto_22 (by decide) ?_
    refine n_icmp_ge (tgt := 56) (by omega) (rng_lit 56 rfl) dX4_readInto_24 (by decide) (fun h24 => ?_) (fun h24 => ?_)
    · exfalso; omega
    · refine g_aload_n (i := 0) (j := 0) dX4_readInto_27 rfl rfl ?_
      refine g_get fX4_22 rfl rfl dX4_readInto_28 ?_
      refine n_if_ne (tgt := 56) (rng_lit 0 rfl) dX4_readInto_31 (by decide) (fun h31 => ?_) (fun h31 => ?_)
      · exact absurd h31 (by decide)
      · refine g_aload_n (i := 0) (j := 0) dX4_readInto_34 rfl rfl ?_
        refine g_get fX4_19 rfl rfl dX4_readInto_35 ?_
        refine g_aload_n (i := 0) (j := 0) dX4_readInto_38 rfl rfl ?_
        refine g_get fX4_15 rfl rfl dX4_readInto_39 ?_
        refine n_icmp_ge (tgt := 56) (by omega) (by omega) dX4_readInto_42 (by decide) (fun h42 => ?_) (fun h42 => ?_)
        · refine g_aload_n (i := 0) (j := 0) dX4_readInto_56 rfl rfl ?_
          refine g_get fX4_22 rfl rfl dX4_readInto_57 ?_
          refine n_if_eq (tgt := 70) (rng_lit 0 rfl) dX4_readInto_60 (by decide) (fun h60 => ?_) (fun h60 => ?_)
          · refine g_bipush (v := (-9)) dX4_readInto_70 (by decide) ?_
            refine g_iret rfl rfl dX4_readInto_72 ?_
            have er : sParts le ln (n + 1) p wk wp tw tp sf so = .inr (p, wk, wp, tw, tp, sf, so) := by rw [sParts, if_neg (by omega)]
            rw [er]
            exact ⟨rfl, _, _, _, _, _, _, _, _, _, _, _, _, _, rfl, hzh, zb_so hx.2.2.2.2.2.1, zb_ho hx.2.2.2.2.2.2.1, fun X e => by cases e; exact ⟨rfl, rfl, rfl, rfl, rfl, rfl, rfl, rfl, rfl, rfl⟩⟩
          · exact absurd h60 (by decide)
        · refine g_aload_n (i := 0) (j := 0) dX4_readInto_45 rfl rfl ?_
          refine g_aload_n (i := 1) (j := 1) dX4_readInto_46 rfl rfl ?_
          refine c_V (st1 := []) (ctX4_readPart  hln hle hx (by omega)) kX4_readPart lX4_35 (by decide) rfl rfl rfl rfl (by exact Nat.le_of_ble_eq_true rfl) dX4_readInto_47 rfl rfl ?_
          rcases hs : sPart le ln p wk wp tw tp sf so with f | X
          · refine g_ws (ws' := wC e0 (kT ln f 1) (kI 56 le) (kG3 wk tw sf lo ri la) (kI 10 h) (kZ 10 so) (kI 10 (hoOf le tw tp)) (kI 5 (paOf le wk wp pa)) (kI 5 (waOf le wk wp wa)) e9 e10 e11 e12 e13 e14 e16 e17 e19 e21 e22 e23 e25 e26) rfl ?_
            refine n_inc (x := i) (j := 2) (lv' := [(2, .int (nI (i + 1))), (0, .ref 1), (1, .ref 3)]) dX4_readInto_50 rfl (by decide) rfl ?_
            refine g_goto (tgt := 21) dX4_readInto_53 (by decide) ?_
            refine g_lv [1, 2, 0] rfl ?_
            have hf60 : f ≤ 60 := by
              unfold sPart at hs
              (repeat' split at hs) <;> first | (cases hs; omega) | (cases hs; done)
            refine g_post ?_ (lp_stop (ln := ln) hf60 (by omega) hln)
            intro v u hvu
            obtain ⟨rfl, rfl⟩ := hvu
            have er : sParts le ln (n + 1) p wk wp tw tp sf so = .inl f := by rw [sParts, if_pos h42, hs]
            rw [er]
            exact ⟨rfl, _, _, _, _, _, _, _, _, _, _, _, _, _, rfl, hzh, zb_so hx.2.2.2.2.2.1, zb_ho hx.2.2.2.2.2.2.1, fun X e => by cases e⟩
          · refine g_ws (ws' := wC e0 (kT ln X.1 0) (kI 56 le) (kG3 X.2.1 X.2.2.2.1 X.2.2.2.2.2.1 lo ri la) (kI 10 h) (kZ 10 X.2.2.2.2.2.2) (kI 10 (hoOf le X.2.2.2.1 X.2.2.2.2.1)) (kI 5 (paOf le X.2.1 X.2.2.1 pa)) (kI 5 (waOf le X.2.1 X.2.2.1 wa)) e9 e10 e11 e12 e13 e14 e16 e17 e19 e21 e22 e23 e25 e26) rfl ?_
            refine n_inc (x := i) (j := 2) (lv' := [(2, .int (nI (i + 1))), (0, .ref 1), (1, .ref 3)]) dX4_readInto_50 rfl (by decide) rfl ?_
            refine g_goto (tgt := 21) dX4_readInto_53 (by decide) ?_
            refine g_lv [1, 2, 0] rfl ?_
            have er : sParts le ln (n + 1) p wk wp tw tp sf so = sParts le ln n X.1 X.2.1 X.2.2.1 X.2.2.2.1 X.2.2.2.2.1 X.2.2.2.2.2.1 X.2.2.2.2.2.2 := by rw [sParts, if_pos h42, hs]
            rw [er]
            exact ih (i + 1) _ _ _ _ _ _ _ (by omega) (xOK_s hx hs).1

theorem ctX4_readInto {e0 e9 e10 e11 e12 e13 e14 e16 e17 e19 e21 e22 e23 e25 e26 : va_E} {h so ho pa wa : Nat → Nat} {wk tw sf lo ri la pl sp : Nat} {le : Nat → Nat} {ln : Nat} (hln : ln ≤ 56) (hle : ∀ k, le k ≤ 255) (hzh : zb h) (hzs : zb so) (hzo : zb ho) : Ct mX4_readInto 4 [.ref 1, .ref 3] (wC e0 (kT ln pl sp) (kI 56 le) (kG3 wk tw sf lo ri la) (kI 10 h) (kZ 10 so) (kI 10 ho) (kI 5 pa) (kI 5 wa) e9 e10 e11 e12 e13 e14 e16 e17 e19 e21 e22 e23 e25 e26) (fun v u => v = some (.int (rF (sRun le ln))) ∧ ∃ (pl2 sp2 : Nat) (h2 so2 ho2 pa2 wa2 : Nat → Nat) (wk2 tw2 sf2 lo2 ri2 la2 : Nat), u = wC e0 (kT ln pl2 sp2) (kI 56 le) (kG3 wk2 tw2 sf2 lo2 ri2 la2) (kI 10 h2) (kZ 10 so2) (kI 10 ho2) (kI 5 pa2) (kI 5 wa2) e9 e10 e11 e12 e13 e14 e16 e17 e19 e21 e22 e23 e25 e26 ∧ zb h2 ∧ zb so2 ∧ zb ho2 ∧ (∀ X, sRun le ln = .inr X → rdOK le pa wa X h2 so2 ho2 pa2 wa2 wk2 tw2 lo2 ri2 la2)) := by
  refine Ct.of (by decide) (by exact Nat.le_of_ble_eq_true rfl) ?_
  show Go mX4_readInto 4 0 [(0, .ref 1), (1, .ref 3)] [] (wC e0 (kT ln pl sp) (kI 56 le) (kG3 wk tw sf lo ri la) (kI 10 h) (kZ 10 so) (kI 10 ho) (kI 5 pa) (kI 5 wa) e9 e10 e11 e12 e13 e14 e16 e17 e19 e21 e22 e23 e25 e26) (fun v u => v = some (.int (rF (sRun le ln))) ∧ ∃ (pl2 sp2 : Nat) (h2 so2 ho2 pa2 wa2 : Nat → Nat) (wk2 tw2 sf2 lo2 ri2 la2 : Nat), u = wC e0 (kT ln pl2 sp2) (kI 56 le) (kG3 wk2 tw2 sf2 lo2 ri2 la2) (kI 10 h2) (kZ 10 so2) (kI 10 ho2) (kI 5 pa2) (kI 5 wa2) e9 e10 e11 e12 e13 e14 e16 e17 e19 e21 e22 e23 e25 e26 ∧ zb h2 ∧ zb so2 ∧ zb ho2 ∧ (∀ X, sRun le ln = .inr X → rdOK le pa wa X h2 so2 ho2 pa2 wa2 wk2 tw2 lo2 ri2 la2))
  refine g_aload_n (i := 0) (j := 0) dX4_readInto_0 rfl rfl ?_
  refine g_iconst (v := nI 0) dX4_readInto_1 (by decide) ?_
  refine n_putI (ws' := wC e0 (kT ln 0 sp) (kI 56 le) (kG3 wk tw sf lo ri la) (kI 10 h) (kZ 10 so) (kI 10 ho) (kI 5 pa) (kI 5 wa) e9 e10 e11 e12 e13 e14 e16 e17 e19 e21 e22 e23 e25 e26) fX4_19 fp_X4_2 rfl (by exact Nat.le_of_ble_eq_true rfl) dX4_readInto_2 rfl ?_
  refine g_aload_n (i := 0) (j := 0) dX4_readInto_5 rfl rfl ?_
  refine g_iconst (v := nI 0) dX4_readInto_6 (by decide) ?_
  refine n_putZ (by omega) (ws' := wC e0 (kT ln 0 0) (kI 56 le) (kG3 wk tw sf lo ri la) (kI 10 h) (kZ 10 so) (kI 10 ho) (kI 5 pa) (kI 5 wa) e9 e10 e11 e12 e13 e14 e16 e17 e19 e21 e22 e23 e25 e26) fX4_22 fp_X4_3 rfl (by exact Nat.le_of_ble_eq_true rfl) dX4_readInto_7 rfl ?_
  refine g_aload_n (i := 1) (j := 1) dX4_readInto_10 rfl rfl ?_
  refine c_V (st1 := []) (ctX1_clear  ) kX1_clear lX4_26 (by decide) rfl rfl rfl rfl (by exact Nat.le_of_ble_eq_true rfl) dX4_readInto_11 rfl rfl ?_
  refine g_ws (ws' := wC e0 (kT ln 0 0) (kI 56 le) (kG3 0 0 0 lo ri la) (kI 10 z0) (kZ 10 z0) (kI 10 z0) (kI 5 pa) (kI 5 wa) e9 e10 e11 e12 e13 e14 e16 e17 e19 e21 e22 e23 e25 e26) (by rw [zb_zf hzh, zb_zf hzs, zb_zf hzo]) ?_
  refine g_aload_n (i := 0) (j := 0) dX4_readInto_14 rfl rfl ?_
  refine g_aload_n (i := 1) (j := 1) dX4_readInto_15 rfl rfl ?_
  refine c_V (st1 := []) (ctX4_readHead  hln hle) kX4_readHead lX4_31 (by decide) rfl rfl rfl rfl (by exact Nat.le_of_ble_eq_true rfl) dX4_readInto_16 rfl rfl ?_
  refine g_iconst (v := nI 0) dX4_readInto_19 (by decide) ?_
  refine g_istore_n (i := 2) (lv' := [(2, .int (nI 0)), (0, .ref 1), (1, .ref 3)]) dX4_readInto_20 rfl (by decide) rfl ?_
  refine g_lv [1, 2, 0] rfl ?_
  by_cases h15 : hP le ln 15 = 15
  · have hs15 : hS le ln 15 = 0 := by unfold hS; rw [if_pos h15]
    refine g_ws (ws' := wC e0 (kT ln 15 0) (kI 56 le) (kG3 0 0 0 (10 * hv le ln 11 + hv le ln 12) (hv le ln 13) (hv le ln 14)) (kI 10 (cpf 10 (fun j => hv le ln (1 + j)) z0)) (kZ 10 z0) (kI 10 (hoOf le 0 z0)) (kI 5 (paOf le 0 z0 pa)) (kI 5 (waOf le 0 z0 wa)) e9 e10 e11 e12 e13 e14 e16 e17 e19 e21 e22 e23 e25 e26) (by rw [h15, hs15, hoOf_0, paOf_0, waOf_0]) ?_
    refine g_post ?_ (lp_into hln hle (zb_cpf _) 56 0 15 0 z0 0 z0 0 z0 (by omega) (xOK_0 h15))
    intro v u hvu
    obtain ⟨e1, pl2, sp2, h2, so2, ho2, pa2, wa2, wk2, tw2, sf2, lo2, ri2, la2, e2, y1, y2, y3, y4⟩ := hvu
    have er : sRun le ln = sParts le ln 56 15 0 z0 0 z0 0 z0 := by unfold sRun; rw [if_pos h15]
    rw [er]
    refine ⟨e1, pl2, sp2, h2, so2, ho2, pa2, wa2, wk2, tw2, sf2, lo2, ri2, la2, e2, y1, y2, y3, fun X e => ?_⟩
    obtain ⟨k1, k2, k3, k4, k5, k6, k7, k8, k9, k10⟩ := y4 X e
    exact ⟨k1.trans (hgt_eq h15), k2, k3, k4, k5, k6, k7, by rw [k8, (hv_ok h15 (by omega)).1, (hv_ok h15 (by omega)).1], by rw [k9, (hv_ok h15 (by omega)).1], by rw [k10, (hv_ok h15 (by omega)).1]⟩
  · have hs15 : hS le ln 15 = 1 := by unfold hS; rw [if_neg h15]
    rw [hs15]
    have hle15 := hP_le le ln 15
    refine g_post ?_ (lp_stop (by omega) (by omega) hln)
    intro v u hvu
    obtain ⟨rfl, rfl⟩ := hvu
    have er : sRun le ln = .inl (hP le ln 15) := by unfold sRun; rw [if_neg h15]
    rw [er]
    exact ⟨rfl, _, _, _, _, _, _, _, _, _, _, _, _, _, rfl, zb_cpf _, zb_0, zb_0, fun X e => by cases e⟩

theorem ctX4_readPart_9 {e0 e3 e4 e5 e6 e7 e8 e10 e16 e17 e19 e21 e22 e23 e25 e26 : va_E} {pa wa : Nat → Nat} {lo ri la : Nat} {p wk : Nat} {wp : Nat → Nat} {tw : Nat} {tp : Nat → Nat} {sf : Nat} {so : Nat → Nat} {le : Nat → Nat} {ln : Nat} (hln : ln ≤ 56) (hle : ∀ k, le k ≤ 255) (hx : xOK le ln p wk wp tw tp sf so) (hp : p < ln) : Ct mX4_readPart 3 [.ref 1, .ref 9] (wC e0 (kT ln p 0) (kI 56 le) e3 e4 e5 e6 e7 e8 (kG9 wk tw sf lo ri la) e10 (kZ 10 so) (kI 10 (hoOf le tw tp)) (kI 5 (paOf le wk wp pa)) (kI 5 (waOf le wk wp wa)) e16 e17 e19 e21 e22 e23 e25 e26) (gE none (match sPart le ln p wk wp tw tp sf so with | .inl f => wC e0 (kT ln f 1) (kI 56 le) e3 e4 e5 e6 e7 e8 (kG9 wk tw sf lo ri la) e10 (kZ 10 so) (kI 10 (hoOf le tw tp)) (kI 5 (paOf le wk wp pa)) (kI 5 (waOf le wk wp wa)) e16 e17 e19 e21 e22 e23 e25 e26 | .inr X => wC e0 (kT ln X.1 0) (kI 56 le) e3 e4 e5 e6 e7 e8 (kG9 X.2.1 X.2.2.2.1 X.2.2.2.2.2.1 lo ri la) e10 (kZ 10 X.2.2.2.2.2.2) (kI 10 (hoOf le X.2.2.2.1 X.2.2.2.2.1)) (kI 5 (paOf le X.2.1 X.2.2.1 pa)) (kI 5 (waOf le X.2.1 X.2.2.1 wa)) e16 e17 e19 e21 e22 e23 e25 e26)) := by
  refine Ct.of (by decide) (by exact Nat.le_of_ble_eq_true rfl) ?_
  show Go mX4_readPart 3 0 [(0, .ref 1), (1, .ref 9)] [] (wC e0 (kT ln p 0) (kI 56 le) e3 e4 e5 e6 e7 e8 (kG9 wk tw sf lo ri la) e10 (kZ 10 so) (kI 10 (hoOf le tw tp)) (kI 5 (paOf le wk wp pa)) (kI 5 (waOf le wk wp wa)) e16 e17 e19 e21 e22 e23 e25 e26) (gE none (match sPart le ln p wk wp tw tp sf so with | .inl f => wC e0 (kT ln f 1) (kI 56 le) e3 e4 e5 e6 e7 e8 (kG9 wk tw sf lo ri la) e10 (kZ 10 so) (kI 10 (hoOf le tw tp)) (kI 5 (paOf le wk wp pa)) (kI 5 (waOf le wk wp wa)) e16 e17 e19 e21 e22 e23 e25 e26 | .inr X => wC e0 (kT ln X.1 0) (kI 56 le) e3 e4 e5 e6 e7 e8 (kG9 X.2.1 X.2.2.2.1 X.2.2.2.2.2.1 lo ri la) e10 (kZ 10 X.2.2.2.2.2.2) (kI 10 (hoOf le X.2.2.2.1 X.2.2.2.2.1)) (kI 5 (paOf le X.2.1 X.2.2.1 pa)) (kI 5 (waOf le X.2.1 X.2.2.1 wa)) e16 e17 e19 e21 e22 e23 e25 e26))
  obtain ⟨hx1, hx2, hx3, hx4, hso, hx6, htp, hx8⟩ := hx
  have q1 := hle p
  refine g_aload_n (i := 0) (j := 0) dX4_readPart_0 rfl rfl ?_
  refine c_V (st1 := [.int (lH le ln p)]) (ctX4_letterHere  (by omega) (by omega)) kX4_letterHere lX4_38 (by decide) rfl rfl rfl rfl (by exact Nat.le_of_ble_eq_true rfl) dX4_readPart_1 rfl rfl ?_
  refine g_topi (y := nI (le p)) (by unfold lH; rw [if_pos hp]) ?_
  refine g_istore_n (i := 2) (lv' := [(2, .int (nI (le p))), (0, .ref 1), (1, .ref 9)]) dX4_readPart_4 rfl (by decide) rfl ?_
  refine g_iload_n (i := 2) (j := 0) dX4_readPart_5 rfl rfl ?_
  refine g_bipush (v := nI 87) dX4_readPart_6 (by decide) ?_
  refine n_icmp_ne (tgt := 27) (by omega) (rng_lit 87 rfl) dX4_readPart_8 (by decide) (fun h8 => ?_) (fun h8 => ?_)
  · refine g_iload_n (i := 2) (j := 0) dX4_readPart_27 rfl rfl ?_
    refine g_bipush (v := nI 84) dX4_readPart_28 (by decide) ?_
    refine n_icmp_ne (tgt := 49) (by omega) (rng_lit 84 rfl) dX4_readPart_30 (by decide) (fun h30 => ?_) (fun h30 => ?_)
    · refine g_iload_n (i := 2) (j := 0) dX4_readPart_49 rfl rfl ?_
      refine g_bipush (v := nI 83) dX4_readPart_50 (by decide) ?_
      refine n_icmp_ne (tgt := 72) (by omega) (rng_lit 83 rfl) dX4_readPart_52 (by decide) (fun h52 => ?_) (fun h52 => ?_)
      · refine g_aload_n (i := 0) (j := 1) dX4_readPart_72 rfl rfl ?_
        refine g_iconst (v := nI 1) dX4_readPart_73 (by decide) ?_
        refine n_putZ (by omega) (ws' := wC e0 (kT ln p 1) (kI 56 le) e3 e4 e5 e6 e7 e8 (kG9 wk tw sf lo ri la) e10 (kZ 10 so) (kI 10 (hoOf le tw tp)) (kI 5 (paOf le wk wp pa)) (kI 5 (waOf le wk wp wa)) e16 e17 e19 e21 e22 e23 e25 e26) fX4_22 fp_X4_3 rfl (by exact Nat.le_of_ble_eq_true rfl) dX4_readPart_74 rfl ?_
        refine g_vret rfl dX4_readPart_77 ?_
        refine gE_i rfl ?_
        rw [sPart_no (by omega) (by omega) (by omega)]
      · refine g_aload_n (i := 1) (j := 2) dX4_readPart_55 rfl rfl ?_
        refine g_get fX4_71 rfl rfl dX4_readPart_56 ?_
        refine g_bipush (v := nI 8) dX4_readPart_59 (by decide) ?_
        refine n_icmp_ge (tgt := 72) (by omega) (rng_lit 8 rfl) dX4_readPart_61 (by decide) (fun h61 => ?_) (fun h61 => ?_)
        · refine g_aload_n (i := 0) (j := 1) dX4_readPart_72 rfl rfl ?_
          refine g_iconst (v := nI 1) dX4_readPart_73 (by decide) ?_
          refine n_putZ (by omega) (ws' := wC e0 (kT ln p 1) (kI 56 le) e3 e4 e5 e6 e7 e8 (kG9 wk tw sf lo ri la) e10 (kZ 10 so) (kI 10 (hoOf le tw tp)) (kI 5 (paOf le wk wp pa)) (kI 5 (waOf le wk wp wa)) e16 e17 e19 e21 e22 e23 e25 e26) fX4_22 fp_X4_3 rfl (by exact Nat.le_of_ble_eq_true rfl) dX4_readPart_74 rfl ?_
          refine g_vret rfl dX4_readPart_77 ?_
          refine gE_i rfl ?_
          rw [sPart_no (by omega) (by omega) (by omega)]
        · refine g_aload_n (i := 0) (j := 1) dX4_readPart_64 rfl rfl ?_
          refine g_aload_n (i := 1) (j := 2) dX4_readPart_65 rfl rfl ?_
          refine c_V (st1 := []) (ctX4_readSoft_9  hln hle (by omega) (by omega) hso) kX4_readSoft lX4_74 (by decide) rfl rfl rfl rfl (by exact Nat.le_of_ble_eq_true rfl) dX4_readPart_66 rfl rfl ?_
          refine g_goto (tgt := 77) dX4_readPart_69 (by decide) ?_
          refine g_vret rfl dX4_readPart_77 ?_
          refine gE_i rfl ?_
          rw [sPart_S h52 h61]
          by_cases c1 : dg le ln (p + 1) 1 8 ∧ so (le (p + 1) - 48) = 0
          · simp only [if_pos c1]
          · simp only [if_neg c1]
    · refine g_aload_n (i := 1) (j := 2) dX4_readPart_33 rfl rfl ?_
      refine g_get fX4_65 rfl rfl dX4_readPart_34 ?_
      refine g_iconst (v := nI 2) dX4_readPart_37 (by decide) ?_
      refine n_icmp_ge (tgt := 49) (by omega) (rng_lit 2 rfl) dX4_readPart_38 (by decide) (fun h38 => ?_) (fun h38 => ?_)
      · refine g_iload_n (i := 2) (j := 0) dX4_readPart_49 rfl rfl ?_
        refine g_bipush (v := nI 83) dX4_readPart_50 (by decide) ?_
        refine n_icmp_ne (tgt := 72) (by omega) (rng_lit 83 rfl) dX4_readPart_52 (by decide) (fun h52 => ?_) (fun h52 => ?_)
        · refine g_aload_n (i := 0) (j := 1) dX4_readPart_72 rfl rfl ?_
          refine g_iconst (v := nI 1) dX4_readPart_73 (by decide) ?_
          refine n_putZ (by omega) (ws' := wC e0 (kT ln p 1) (kI 56 le) e3 e4 e5 e6 e7 e8 (kG9 wk tw sf lo ri la) e10 (kZ 10 so) (kI 10 (hoOf le tw tp)) (kI 5 (paOf le wk wp pa)) (kI 5 (waOf le wk wp wa)) e16 e17 e19 e21 e22 e23 e25 e26) fX4_22 fp_X4_3 rfl (by exact Nat.le_of_ble_eq_true rfl) dX4_readPart_74 rfl ?_
          refine g_vret rfl dX4_readPart_77 ?_
          refine gE_i rfl ?_
          rw [sPart_no (by omega) (by omega) (by omega)]
        · refine g_aload_n (i := 1) (j := 2) dX4_readPart_55 rfl rfl ?_
          refine g_get fX4_71 rfl rfl dX4_readPart_56 ?_
          refine g_bipush (v := nI 8) dX4_readPart_59 (by decide) ?_
          refine n_icmp_ge (tgt := 72) (by omega) (rng_lit 8 rfl) dX4_readPart_61 (by decide) (fun h61 => ?_) (fun h61 => ?_)
          · refine g_aload_n (i := 0) (j := 1) dX4_readPart_72 rfl rfl ?_
            refine g_iconst (v := nI 1) dX4_readPart_73 (by decide) ?_
            refine n_putZ (by omega) (ws' := wC e0 (kT ln p 1) (kI 56 le) e3 e4 e5 e6 e7 e8 (kG9 wk tw sf lo ri la) e10 (kZ 10 so) (kI 10 (hoOf le tw tp)) (kI 5 (paOf le wk wp pa)) (kI 5 (waOf le wk wp wa)) e16 e17 e19 e21 e22 e23 e25 e26) fX4_22 fp_X4_3 rfl (by exact Nat.le_of_ble_eq_true rfl) dX4_readPart_74 rfl ?_
            refine g_vret rfl dX4_readPart_77 ?_
            refine gE_i rfl ?_
            rw [sPart_no (by omega) (by omega) (by omega)]
          · refine g_aload_n (i := 0) (j := 1) dX4_readPart_64 rfl rfl ?_
            refine g_aload_n (i := 1) (j := 2) dX4_readPart_65 rfl rfl ?_
            refine c_V (st1 := []) (ctX4_readSoft_9  hln hle (by omega) (by omega) hso) kX4_readSoft lX4_74 (by decide) rfl rfl rfl rfl (by exact Nat.le_of_ble_eq_true rfl) dX4_readPart_66 rfl rfl ?_
            refine g_goto (tgt := 77) dX4_readPart_69 (by decide) ?_
            refine g_vret rfl dX4_readPart_77 ?_
            refine gE_i rfl ?_
            rw [sPart_S h52 h61]
            by_cases c1 : dg le ln (p + 1) 1 8 ∧ so (le (p + 1) - 48) = 0
            · simp only [if_pos c1]
            · simp only [if_neg c1]
      · refine g_aload_n (i := 0) (j := 1) dX4_readPart_41 rfl rfl ?_
        refine g_aload_n (i := 1) (j := 2) dX4_readPart_42 rfl rfl ?_
        refine c_V (st1 := []) (ctX4_readTower_9  hln hle (by omega) (by omega) (hoOf_le hle tw tp)) kX4_readTower lX4_68 (by decide) rfl rfl rfl rfl (by exact Nat.le_of_ble_eq_true rfl) dX4_readPart_43 rfl rfl ?_
        refine g_goto (tgt := 77) dX4_readPart_46 (by decide) ?_
        refine g_vret rfl dX4_readPart_77 ?_
        refine gE_i rfl ?_
        rw [sPart_T h30 h38]
        by_cases c1 : dg le ln (p + 1) 1 8 ∧ hoOf le tw tp (le (p + 1) - 48) = 0
        · by_cases c2 : dg le ln (p + 2) 1 4
          · simp only [if_pos c1, if_pos c2, hoOf_s h38 htp c1.2]
          · simp only [if_pos c1, if_neg c2]
        · simp only [if_neg c1]
  · refine g_aload_n (i := 1) (j := 2) dX4_readPart_11 rfl rfl ?_
    refine g_get fX4_59 rfl rfl dX4_readPart_12 ?_
    refine g_iconst (v := nI 5) dX4_readPart_15 (by decide) ?_
    refine n_icmp_ge (tgt := 27) (by omega) (rng_lit 5 rfl) dX4_readPart_16 (by decide) (fun h16 => ?_) (fun h16 => ?_)
    · refine g_iload_n (i := 2) (j := 0) dX4_readPart_27 rfl rfl ?_
      refine g_bipush (v := nI 84) dX4_readPart_28 (by decide) ?_
      refine n_icmp_ne (tgt := 49) (by omega) (rng_lit 84 rfl) dX4_readPart_30 (by decide) (fun h30 => ?_) (fun h30 => ?_)
      · refine g_iload_n (i := 2) (j := 0) dX4_readPart_49 rfl rfl ?_
        refine g_bipush (v := nI 83) dX4_readPart_50 (by decide) ?_
        refine n_icmp_ne (tgt := 72) (by omega) (rng_lit 83 rfl) dX4_readPart_52 (by decide) (fun h52 => ?_) (fun h52 => ?_)
        · refine g_aload_n (i := 0) (j := 1) dX4_readPart_72 rfl rfl ?_
          refine g_iconst (v := nI 1) dX4_readPart_73 (by decide) ?_
          refine n_putZ (by omega) (ws' := wC e0 (kT ln p 1) (kI 56 le) e3 e4 e5 e6 e7 e8 (kG9 wk tw sf lo ri la) e10 (kZ 10 so) (kI 10 (hoOf le tw tp)) (kI 5 (paOf le wk wp pa)) (kI 5 (waOf le wk wp wa)) e16 e17 e19 e21 e22 e23 e25 e26) fX4_22 fp_X4_3 rfl (by exact Nat.le_of_ble_eq_true rfl) dX4_readPart_74 rfl ?_
          refine g_vret rfl dX4_readPart_77 ?_
          refine gE_i rfl ?_
          rw [sPart_no (by omega) (by omega) (by omega)]
        · refine g_aload_n (i := 1) (j := 2) dX4_readPart_55 rfl rfl ?_
          refine g_get fX4_71 rfl rfl dX4_readPart_56 ?_
          refine g_bipush (v := nI 8) dX4_readPart_59 (by decide) ?_
          refine n_icmp_ge (tgt := 72) (by omega) (rng_lit 8 rfl) dX4_readPart_61 (by decide) (fun h61 => ?_) (fun h61 => ?_)
          · refine g_aload_n (i := 0) (j := 1) dX4_readPart_72 rfl rfl ?_
            refine g_iconst (v := nI 1) dX4_readPart_73 (by decide) ?_
            refine n_putZ (by omega) (ws' := wC e0 (kT ln p 1) (kI 56 le) e3 e4 e5 e6 e7 e8 (kG9 wk tw sf lo ri la) e10 (kZ 10 so) (kI 10 (hoOf le tw tp)) (kI 5 (paOf le wk wp pa)) (kI 5 (waOf le wk wp wa)) e16 e17 e19 e21 e22 e23 e25 e26) fX4_22 fp_X4_3 rfl (by exact Nat.le_of_ble_eq_true rfl) dX4_readPart_74 rfl ?_
            refine g_vret rfl dX4_readPart_77 ?_
            refine gE_i rfl ?_
            rw [sPart_no (by omega) (by omega) (by omega)]
          · refine g_aload_n (i := 0) (j := 1) dX4_readPart_64 rfl rfl ?_
            refine g_aload_n (i := 1) (j := 2) dX4_readPart_65 rfl rfl ?_
            refine c_V (st1 := []) (ctX4_readSoft_9  hln hle (by omega) (by omega) hso) kX4_readSoft lX4_74 (by decide) rfl rfl rfl rfl (by exact Nat.le_of_ble_eq_true rfl) dX4_readPart_66 rfl rfl ?_
            refine g_goto (tgt := 77) dX4_readPart_69 (by decide) ?_
            refine g_vret rfl dX4_readPart_77 ?_
            refine gE_i rfl ?_
            rw [sPart_S h52 h61]
            by_cases c1 : dg le ln (p + 1) 1 8 ∧ so (le (p + 1) - 48) = 0
            · simp only [if_pos c1]
            · simp only [if_neg c1]
      · refine g_aload_n (i := 1) (j := 2) dX4_readPart_33 rfl rfl ?_
        refine g_get fX4_65 rfl rfl dX4_readPart_34 ?_
        refine g_iconst (v := nI 2) dX4_readPart_37 (by decide) ?_
        refine n_icmp_ge (tgt := 49) (by omega) (rng_lit 2 rfl) dX4_readPart_38 (by decide) (fun h38 => ?_) (fun h38 => ?_)
        · refine g_iload_n (i := 2) (j := 0) dX4_readPart_49 rfl rfl ?_
          refine g_bipush (v := nI 83) dX4_readPart_50 (by decide) ?_
          refine n_icmp_ne (tgt := 72) (by omega) (rng_lit 83 rfl) dX4_readPart_52 (by decide) (fun h52 => ?_) (fun h52 => ?_)
          · refine g_aload_n (i := 0) (j := 1) dX4_readPart_72 rfl rfl ?_
            refine g_iconst (v := nI 1) dX4_readPart_73 (by decide) ?_
            refine n_putZ (by omega) (ws' := wC e0 (kT ln p 1) (kI 56 le) e3 e4 e5 e6 e7 e8 (kG9 wk tw sf lo ri la) e10 (kZ 10 so) (kI 10 (hoOf le tw tp)) (kI 5 (paOf le wk wp pa)) (kI 5 (waOf le wk wp wa)) e16 e17 e19 e21 e22 e23 e25 e26) fX4_22 fp_X4_3 rfl (by exact Nat.le_of_ble_eq_true rfl) dX4_readPart_74 rfl ?_
            refine g_vret rfl dX4_readPart_77 ?_
            refine gE_i rfl ?_
            rw [sPart_no (by omega) (by omega) (by omega)]
          · refine g_aload_n (i := 1) (j := 2) dX4_readPart_55 rfl rfl ?_
            refine g_get fX4_71 rfl rfl dX4_readPart_56 ?_
            refine g_bipush (v := nI 8) dX4_readPart_59 (by decide) ?_
            refine n_icmp_ge (tgt := 72) (by omega) (rng_lit 8 rfl) dX4_readPart_61 (by decide) (fun h61 => ?_) (fun h61 => ?_)
            · refine g_aload_n (i := 0) (j := 1) dX4_readPart_72 rfl rfl ?_
              refine g_iconst (v := nI 1) dX4_readPart_73 (by decide) ?_
              refine n_putZ (by omega) (ws' := wC e0 (kT ln p 1) (kI 56 le) e3 e4 e5 e6 e7 e8 (kG9 wk tw sf lo ri la) e10 (kZ 10 so) (kI 10 (hoOf le tw tp)) (kI 5 (paOf le wk wp pa)) (kI 5 (waOf le wk wp wa)) e16 e17 e19 e21 e22 e23 e25 e26) fX4_22 fp_X4_3 rfl (by exact Nat.le_of_ble_eq_true rfl) dX4_readPart_74 rfl ?_
              refine g_vret rfl dX4_readPart_77 ?_
              refine gE_i rfl ?_
              rw [sPart_no (by omega) (by omega) (by omega)]
            · refine g_aload_n (i := 0) (j := 1) dX4_readPart_64 rfl rfl ?_
              refine g_aload_n (i := 1) (j := 2) dX4_readPart_65 rfl rfl ?_
              refine c_V (st1 := []) (ctX4_readSoft_9  hln hle (by omega) (by omega) hso) kX4_readSoft lX4_74 (by decide) rfl rfl rfl rfl (by exact Nat.le_of_ble_eq_true rfl) dX4_readPart_66 rfl rfl ?_
              refine g_goto (tgt := 77) dX4_readPart_69 (by decide) ?_
              refine g_vret rfl dX4_readPart_77 ?_
              refine gE_i rfl ?_
              rw [sPart_S h52 h61]
              by_cases c1 : dg le ln (p + 1) 1 8 ∧ so (le (p + 1) - 48) = 0
              · simp only [if_pos c1]
              · simp only [if_neg c1]
        · refine g_aload_n (i := 0) (j := 1) dX4_readPart_41 rfl rfl ?_
          refine g_aload_n (i := 1) (j := 2) dX4_readPart_42 rfl rfl ?_
          refine c_V (st1 := []) (ctX4_readTower_9  hln hle (by omega) (by omega) (hoOf_le hle tw tp)) kX4_readTower lX4_68 (by decide) rfl rfl rfl rfl (by exact Nat.le_of_ble_eq_true rfl) dX4_readPart_43 rfl rfl ?_
          refine g_goto (tgt := 77) dX4_readPart_46 (by decide) ?_
          refine g_vret rfl dX4_readPart_77 ?_
          refine gE_i rfl ?_
          rw [sPart_T h30 h38]
          by_cases c1 : dg le ln (p + 1) 1 8 ∧ hoOf le tw tp (le (p + 1) - 48) = 0
          · by_cases c2 : dg le ln (p + 2) 1 4
            · simp only [if_pos c1, if_pos c2, hoOf_s h38 htp c1.2]
            · simp only [if_pos c1, if_neg c2]
          · simp only [if_neg c1]
    · refine g_aload_n (i := 0) (j := 1) dX4_readPart_19 rfl rfl ?_
      refine g_aload_n (i := 1) (j := 2) dX4_readPart_20 rfl rfl ?_
      refine c_V (st1 := []) (ctX4_readWalker_9  hln hle (by omega) (by omega)) kX4_readWalker lX4_62 (by decide) rfl rfl rfl rfl (by exact Nat.le_of_ble_eq_true rfl) dX4_readPart_21 rfl rfl ?_
      refine g_goto (tgt := 77) dX4_readPart_24 (by decide) ?_
      refine g_vret rfl dX4_readPart_77 ?_
      refine gE_i rfl ?_
      rw [sPart_W h8 h16]
      by_cases c1 : dg le ln (p + 1) 1 3
      · by_cases c2 : dg le ln (p + 2) 0 5
        · simp only [if_pos c1, if_pos c2, paOf_s, waOf_s]
        · simp only [if_pos c1, if_neg c2]
      · simp only [if_neg c1]

theorem lp_stop_9 {e0 e2 e3 e4 e5 e6 e7 e8 e9 e10 e11 e12 e13 e14 e16 e17 e19 e21 e22 e23 e25 e26 : va_E} {ln f i : Nat} (hf : f ≤ 60) (hi : i ≤ 57) (hln : ln ≤ 56) : Go mX4_readInto 4 21 [(0, .ref 1), (1, .ref 9), (2, .int (nI i))] [] (wC e0 (kT ln f 1) e2 e3 e4 e5 e6 e7 e8 e9 e10 e11 e12 e13 e14 e16 e17 e19 e21 e22 e23 e25 e26) (gE (some (.int (nI f))) (wC e0 (kT ln f 1) e2 e3 e4 e5 e6 e7 e8 e9 e10 e11 e12 e13 e14 e16 e17 e19 e21 e22 e23 e25 e26)) := by
  refine g_iload_n (i := 2) (j := 2) dX4_readInto_21 rfl rfl ?_
  refine g_bipush (v := nI 56) dX4_readInto_22 (by decide) ?_
  refine n_icmp_ge (tgt := 56) (by omega) (rng_lit 56 rfl) dX4_readInto_24 (by decide) (fun h24 => ?_) (fun h24 => ?_)
  · refine g_aload_n (i := 0) (j := 0) dX4_readInto_56 rfl rfl ?_
    refine g_get fX4_22 rfl rfl dX4_readInto_57 ?_
    refine n_if_eq (tgt := 70) (rng_lit 1 rfl) dX4_readInto_60 (by decide) (fun h60 => ?_) (fun h60 => ?_)
    · exact absurd h60 (by decide)
    · refine g_aload_n (i := 0) (j := 0) dX4_readInto_63 rfl rfl ?_
      refine g_get fX4_19 rfl rfl dX4_readInto_64 ?_
      refine g_goto (tgt := 72) dX4_readInto_67 (by decide) ?_
      refine g_iret rfl rfl dX4_readInto_72 ?_
      exact gE_i rfl rfl
  · refine g_aload_n (i := 0) (j := 0) dX4_readInto_27 rfl rfl ?_
    refine g_get fX4_22 rfl rfl dX4_readInto_28 ?_
    refine n_if_ne (tgt := 56) (rng_lit 1 rfl) dX4_readInto_31 (by decide) (fun h31 => ?_) (fun h31 => ?_)
    · refine g_aload_n (i := 0) (j := 0) dX4_readInto_56 rfl rfl ?_
      refine g_get fX4_22 rfl rfl dX4_readInto_57 ?_
      refine n_if_eq (tgt := 70) (rng_lit 1 rfl) dX4_readInto_60 (by decide) (fun h60 => ?_) (fun h60 => ?_)
      · exact absurd h60 (by decide)
      · refine g_aload_n (i := 0) (j := 0) dX4_readInto_63 rfl rfl ?_
        refine g_get fX4_19 rfl rfl dX4_readInto_64 ?_
        refine g_goto (tgt := 72) dX4_readInto_67 (by decide) ?_
        refine g_iret rfl rfl dX4_readInto_72 ?_
        exact gE_i rfl rfl
    · exact absurd h31 (by decide)

theorem lp_into_9 {e0 e3 e4 e5 e6 e7 e8 e16 e17 e19 e21 e22 e23 e25 e26 : va_E} {h pa wa : Nat → Nat} {lo ri la : Nat} {le : Nat → Nat} {ln : Nat} (hln : ln ≤ 56) (hle : ∀ k, le k ≤ 255) (hzh : zb h) : ∀ (n i p wk : Nat) (wp : Nat → Nat) (tw : Nat) (tp : Nat → Nat) (sf : Nat) (so : Nat → Nat), i + n = 56 → xOK le ln p wk wp tw tp sf so → Go mX4_readInto 4 21 [(0, .ref 1), (1, .ref 9), (2, .int (nI i))] [] (wC e0 (kT ln p 0) (kI 56 le) e3 e4 e5 e6 e7 e8 (kG9 wk tw sf lo ri la) (kI 10 h) (kZ 10 so) (kI 10 (hoOf le tw tp)) (kI 5 (paOf le wk wp pa)) (kI 5 (waOf le wk wp wa)) e16 e17 e19 e21 e22 e23 e25 e26) (fun v u => v = some (.int (rF (sParts le ln n p wk wp tw tp sf so))) ∧ ∃ (pl2 sp2 : Nat) (h2 so2 ho2 pa2 wa2 : Nat → Nat) (wk2 tw2 sf2 lo2 ri2 la2 : Nat), u = wC e0 (kT ln pl2 sp2) (kI 56 le) e3 e4 e5 e6 e7 e8 (kG9 wk2 tw2 sf2 lo2 ri2 la2) (kI 10 h2) (kZ 10 so2) (kI 10 ho2) (kI 5 pa2) (kI 5 wa2) e16 e17 e19 e21 e22 e23 e25 e26 ∧ zb h2 ∧ zb so2 ∧ zb ho2 ∧ (∀ X, sParts le ln n p wk wp tw tp sf so = .inr X → h2 = h ∧ so2 = X.2.2.2.2.2.2 ∧ ho2 = hoOf le X.2.2.2.1 X.2.2.2.2.1 ∧ pa2 = paOf le X.2.1 X.2.2.1 pa ∧ wa2 = waOf le X.2.1 X.2.2.1 wa ∧ wk2 = X.2.1 ∧ tw2 = X.2.2.2.1 ∧ lo2 = lo ∧ ri2 = ri ∧ la2 = la)) := by
  intro n
  induction n with
  | zero =>
    intro i p wk wp tw tp sf so hi hx
    obtain rfl : i = 56 := by omega
    refine g_iload_n (i := 2) (j := 2) dX4_readInto_21 rfl rfl ?_
    refine g_bipush (v := nI 56) dX4_readInto_22 (by decide) ?_
    refine n_icmp_ge (tgt := 56) (rng_lit 56 rfl) (rng_lit 56 rfl) dX4_readInto_24 (by decide) (fun h24 => ?_) (fun h24 => ?_)
    · refine g_aload_n (i := 0) (j := 0) dX4_readInto_56 rfl rfl ?_
      refine g_get fX4_22 rfl rfl dX4_readInto_57 ?_
      refine n_if_eq (tgt := 70) (rng_lit 0 rfl) dX4_readInto_60 (by decide) (fun h60 => ?_) (fun h60 => ?_)
      · refine g_bipush (v := (-9)) dX4_readInto_70 (by decide) ?_
        refine g_iret rfl rfl dX4_readInto_72 ?_
        exact ⟨rfl, _, _, _, _, _, _, _, _, _, _, _, _, _, rfl, hzh, zb_so hx.2.2.2.2.2.1, zb_ho hx.2.2.2.2.2.2.1, fun X e => by cases e; exact ⟨rfl, rfl, rfl, rfl, rfl, rfl, rfl, rfl, rfl, rfl⟩⟩
      · exact absurd h60 (by decide)
    · exact absurd h24 (by decide)

  | succ n ih =>
    intro i p wk wp tw tp sf so hi hx
    have hx1 := hx.1
    refine g_iload_n (i := 2) (j := 2) dX4_readInto_21 rfl rfl ?_
    refine g_bipush (v := nI 56) dX4_readInto_22 (by decide) ?_
    refine n_icmp_ge (tgt := 56) (by omega) (rng_lit 56 rfl) dX4_readInto_24 (by decide) (fun h24 => ?_) (fun h24 => ?_)
    · exfalso; omega
    · refine g_aload_n (i := 0) (j := 0) dX4_readInto_27 rfl rfl ?_
      refine g_get fX4_22 rfl rfl dX4_readInto_28 ?_
      refine n_if_ne (tgt := 56) (rng_lit 0 rfl) dX4_readInto_31 (by decide) (fun h31 => ?_) (fun h31 => ?_)
      · exact absurd h31 (by decide)
      · refine g_aload_n (i := 0) (j := 0) dX4_readInto_34 rfl rfl ?_
        refine g_get fX4_19 rfl rfl dX4_readInto_35 ?_
        refine g_aload_n (i := 0) (j := 0) dX4_readInto_38 rfl rfl ?_
        refine g_get fX4_15 rfl rfl dX4_readInto_39 ?_
        refine n_icmp_ge (tgt := 56) (by omega) (by omega) dX4_readInto_42 (by decide) (fun h42 => ?_) (fun h42 => ?_)
        · refine g_aload_n (i := 0) (j := 0) dX4_readInto_56 rfl rfl ?_
          refine g_get fX4_22 rfl rfl dX4_readInto_57 ?_
          refine n_if_eq (tgt := 70) (rng_lit 0 rfl) dX4_readInto_60 (by decide) (fun h60 => ?_) (fun h60 => ?_)
          · refine g_bipush (v := (-9)) dX4_readInto_70 (by decide) ?_
            refine g_iret rfl rfl dX4_readInto_72 ?_
            have er : sParts le ln (n + 1) p wk wp tw tp sf so = .inr (p, wk, wp, tw, tp, sf, so) := by rw [sParts, if_neg (by omega)]
            rw [er]
            exact ⟨rfl, _, _, _, _, _, _, _, _, _, _, _, _, _, rfl, hzh, zb_so hx.2.2.2.2.2.1, zb_ho hx.2.2.2.2.2.2.1, fun X e => by cases e; exact ⟨rfl, rfl, rfl, rfl, rfl, rfl, rfl, rfl, rfl, rfl⟩⟩
          · exact absurd h60 (by decide)
        · refine g_aload_n (i := 0) (j := 0) dX4_readInto_45 rfl rfl ?_
          refine g_aload_n (i := 1) (j := 1) dX4_readInto_46 rfl rfl ?_
          refine c_V (st1 := []) (ctX4_readPart_9  hln hle hx (by omega)) kX4_readPart lX4_35 (by decide) rfl rfl rfl rfl (by exact Nat.le_of_ble_eq_true rfl) dX4_readInto_47 rfl rfl ?_
          rcases hs : sPart le ln p wk wp tw tp sf so with f | X
          · refine g_ws (ws' := wC e0 (kT ln f 1) (kI 56 le) e3 e4 e5 e6 e7 e8 (kG9 wk tw sf lo ri la) (kI 10 h) (kZ 10 so) (kI 10 (hoOf le tw tp)) (kI 5 (paOf le wk wp pa)) (kI 5 (waOf le wk wp wa)) e16 e17 e19 e21 e22 e23 e25 e26) rfl ?_
            refine n_inc (x := i) (j := 2) (lv' := [(2, .int (nI (i + 1))), (0, .ref 1), (1, .ref 9)]) dX4_readInto_50 rfl (by decide) rfl ?_
            refine g_goto (tgt := 21) dX4_readInto_53 (by decide) ?_
            refine g_lv [1, 2, 0] rfl ?_
            have hf60 : f ≤ 60 := by
              unfold sPart at hs
              (repeat' split at hs) <;> first | (cases hs; omega) | (cases hs; done)
            refine g_post ?_ (lp_stop_9 (ln := ln) hf60 (by omega) hln)
            intro v u hvu
            obtain ⟨rfl, rfl⟩ := hvu
            have er : sParts le ln (n + 1) p wk wp tw tp sf so = .inl f := by rw [sParts, if_pos h42, hs]
            rw [er]
            exact ⟨rfl, _, _, _, _, _, _, _, _, _, _, _, _, _, rfl, hzh, zb_so hx.2.2.2.2.2.1, zb_ho hx.2.2.2.2.2.2.1, fun X e => by cases e⟩
          · refine g_ws (ws' := wC e0 (kT ln X.1 0) (kI 56 le) e3 e4 e5 e6 e7 e8 (kG9 X.2.1 X.2.2.2.1 X.2.2.2.2.2.1 lo ri la) (kI 10 h) (kZ 10 X.2.2.2.2.2.2) (kI 10 (hoOf le X.2.2.2.1 X.2.2.2.2.1)) (kI 5 (paOf le X.2.1 X.2.2.1 pa)) (kI 5 (waOf le X.2.1 X.2.2.1 wa)) e16 e17 e19 e21 e22 e23 e25 e26) rfl ?_
            refine n_inc (x := i) (j := 2) (lv' := [(2, .int (nI (i + 1))), (0, .ref 1), (1, .ref 9)]) dX4_readInto_50 rfl (by decide) rfl ?_
            refine g_goto (tgt := 21) dX4_readInto_53 (by decide) ?_
            refine g_lv [1, 2, 0] rfl ?_
            have er : sParts le ln (n + 1) p wk wp tw tp sf so = sParts le ln n X.1 X.2.1 X.2.2.1 X.2.2.2.1 X.2.2.2.2.1 X.2.2.2.2.2.1 X.2.2.2.2.2.2 := by rw [sParts, if_pos h42, hs]
            rw [er]
            exact ih (i + 1) _ _ _ _ _ _ _ (by omega) (xOK_s hx hs).1

theorem ctX4_readInto_9 {e0 e3 e4 e5 e6 e7 e8 e16 e17 e19 e21 e22 e23 e25 e26 : va_E} {h so ho pa wa : Nat → Nat} {wk tw sf lo ri la pl sp : Nat} {le : Nat → Nat} {ln : Nat} (hln : ln ≤ 56) (hle : ∀ k, le k ≤ 255) (hzh : zb h) (hzs : zb so) (hzo : zb ho) : Ct mX4_readInto 4 [.ref 1, .ref 9] (wC e0 (kT ln pl sp) (kI 56 le) e3 e4 e5 e6 e7 e8 (kG9 wk tw sf lo ri la) (kI 10 h) (kZ 10 so) (kI 10 ho) (kI 5 pa) (kI 5 wa) e16 e17 e19 e21 e22 e23 e25 e26) (fun v u => v = some (.int (rF (sRun le ln))) ∧ ∃ (pl2 sp2 : Nat) (h2 so2 ho2 pa2 wa2 : Nat → Nat) (wk2 tw2 sf2 lo2 ri2 la2 : Nat), u = wC e0 (kT ln pl2 sp2) (kI 56 le) e3 e4 e5 e6 e7 e8 (kG9 wk2 tw2 sf2 lo2 ri2 la2) (kI 10 h2) (kZ 10 so2) (kI 10 ho2) (kI 5 pa2) (kI 5 wa2) e16 e17 e19 e21 e22 e23 e25 e26 ∧ zb h2 ∧ zb so2 ∧ zb ho2 ∧ (∀ X, sRun le ln = .inr X → rdOK le pa wa X h2 so2 ho2 pa2 wa2 wk2 tw2 lo2 ri2 la2)) := by
  refine Ct.of (by decide) (by exact Nat.le_of_ble_eq_true rfl) ?_
  show Go mX4_readInto 4 0 [(0, .ref 1), (1, .ref 9)] [] (wC e0 (kT ln pl sp) (kI 56 le) e3 e4 e5 e6 e7 e8 (kG9 wk tw sf lo ri la) (kI 10 h) (kZ 10 so) (kI 10 ho) (kI 5 pa) (kI 5 wa) e16 e17 e19 e21 e22 e23 e25 e26) (fun v u => v = some (.int (rF (sRun le ln))) ∧ ∃ (pl2 sp2 : Nat) (h2 so2 ho2 pa2 wa2 : Nat → Nat) (wk2 tw2 sf2 lo2 ri2 la2 : Nat), u = wC e0 (kT ln pl2 sp2) (kI 56 le) e3 e4 e5 e6 e7 e8 (kG9 wk2 tw2 sf2 lo2 ri2 la2) (kI 10 h2) (kZ 10 so2) (kI 10 ho2) (kI 5 pa2) (kI 5 wa2) e16 e17 e19 e21 e22 e23 e25 e26 ∧ zb h2 ∧ zb so2 ∧ zb ho2 ∧ (∀ X, sRun le ln = .inr X → rdOK le pa wa X h2 so2 ho2 pa2 wa2 wk2 tw2 lo2 ri2 la2))
  refine g_aload_n (i := 0) (j := 0) dX4_readInto_0 rfl rfl ?_
  refine g_iconst (v := nI 0) dX4_readInto_1 (by decide) ?_
  refine n_putI (ws' := wC e0 (kT ln 0 sp) (kI 56 le) e3 e4 e5 e6 e7 e8 (kG9 wk tw sf lo ri la) (kI 10 h) (kZ 10 so) (kI 10 ho) (kI 5 pa) (kI 5 wa) e16 e17 e19 e21 e22 e23 e25 e26) fX4_19 fp_X4_2 rfl (by exact Nat.le_of_ble_eq_true rfl) dX4_readInto_2 rfl ?_
  refine g_aload_n (i := 0) (j := 0) dX4_readInto_5 rfl rfl ?_
  refine g_iconst (v := nI 0) dX4_readInto_6 (by decide) ?_
  refine n_putZ (by omega) (ws' := wC e0 (kT ln 0 0) (kI 56 le) e3 e4 e5 e6 e7 e8 (kG9 wk tw sf lo ri la) (kI 10 h) (kZ 10 so) (kI 10 ho) (kI 5 pa) (kI 5 wa) e16 e17 e19 e21 e22 e23 e25 e26) fX4_22 fp_X4_3 rfl (by exact Nat.le_of_ble_eq_true rfl) dX4_readInto_7 rfl ?_
  refine g_aload_n (i := 1) (j := 1) dX4_readInto_10 rfl rfl ?_
  refine c_V (st1 := []) (ctX1_clear_9  ) kX1_clear lX4_26 (by decide) rfl rfl rfl rfl (by exact Nat.le_of_ble_eq_true rfl) dX4_readInto_11 rfl rfl ?_
  refine g_ws (ws' := wC e0 (kT ln 0 0) (kI 56 le) e3 e4 e5 e6 e7 e8 (kG9 0 0 0 lo ri la) (kI 10 z0) (kZ 10 z0) (kI 10 z0) (kI 5 pa) (kI 5 wa) e16 e17 e19 e21 e22 e23 e25 e26) (by rw [zb_zf hzh, zb_zf hzs, zb_zf hzo]) ?_
  refine g_aload_n (i := 0) (j := 0) dX4_readInto_14 rfl rfl ?_
  refine g_aload_n (i := 1) (j := 1) dX4_readInto_15 rfl rfl ?_
  refine c_V (st1 := []) (ctX4_readHead_9  hln hle) kX4_readHead lX4_31 (by decide) rfl rfl rfl rfl (by exact Nat.le_of_ble_eq_true rfl) dX4_readInto_16 rfl rfl ?_
  refine g_iconst (v := nI 0) dX4_readInto_19 (by decide) ?_
  refine g_istore_n (i := 2) (lv' := [(2, .int (nI 0)), (0, .ref 1), (1, .ref 9)]) dX4_readInto_20 rfl (by decide) rfl ?_
  refine g_lv [1, 2, 0] rfl ?_
  by_cases h15 : hP le ln 15 = 15
  · have hs15 : hS le ln 15 = 0 := by unfold hS; rw [if_pos h15]
    refine g_ws (ws' := wC e0 (kT ln 15 0) (kI 56 le) e3 e4 e5 e6 e7 e8 (kG9 0 0 0 (10 * hv le ln 11 + hv le ln 12) (hv le ln 13) (hv le ln 14)) (kI 10 (cpf 10 (fun j => hv le ln (1 + j)) z0)) (kZ 10 z0) (kI 10 (hoOf le 0 z0)) (kI 5 (paOf le 0 z0 pa)) (kI 5 (waOf le 0 z0 wa)) e16 e17 e19 e21 e22 e23 e25 e26) (by rw [h15, hs15, hoOf_0, paOf_0, waOf_0]) ?_
    refine g_post ?_ (lp_into_9 hln hle (zb_cpf _) 56 0 15 0 z0 0 z0 0 z0 (by omega) (xOK_0 h15))
    intro v u hvu
    obtain ⟨e1, pl2, sp2, h2, so2, ho2, pa2, wa2, wk2, tw2, sf2, lo2, ri2, la2, e2, y1, y2, y3, y4⟩ := hvu
    have er : sRun le ln = sParts le ln 56 15 0 z0 0 z0 0 z0 := by unfold sRun; rw [if_pos h15]
    rw [er]
    refine ⟨e1, pl2, sp2, h2, so2, ho2, pa2, wa2, wk2, tw2, sf2, lo2, ri2, la2, e2, y1, y2, y3, fun X e => ?_⟩
    obtain ⟨k1, k2, k3, k4, k5, k6, k7, k8, k9, k10⟩ := y4 X e
    exact ⟨k1.trans (hgt_eq h15), k2, k3, k4, k5, k6, k7, by rw [k8, (hv_ok h15 (by omega)).1, (hv_ok h15 (by omega)).1], by rw [k9, (hv_ok h15 (by omega)).1], by rw [k10, (hv_ok h15 (by omega)).1]⟩
  · have hs15 : hS le ln 15 = 1 := by unfold hS; rw [if_neg h15]
    rw [hs15]
    have hle15 := hP_le le ln 15
    refine g_post ?_ (lp_stop_9 (by omega) (by omega) hln)
    intro v u hvu
    obtain ⟨rfl, rfl⟩ := hvu
    have er : sRun le ln = .inl (hP le ln 15) := by unfold sRun; rw [if_neg h15]
    rw [er]
    exact ⟨rfl, _, _, _, _, _, _, _, _, _, _, _, _, _, rfl, zb_cpf _, zb_0, zb_0, fun X e => by cases e⟩

theorem sPart_le {le : Nat → Nat} {ln p wk : Nat} {wp : Nat → Nat} {tw : Nat} {tp : Nat → Nat} {sf : Nat} {so : Nat → Nat} {f : Nat} (hs : sPart le ln p wk wp tw tp sf so = .inl f) : f ≤ p + 2 := by
  unfold sPart at hs
  (repeat' split at hs) <;> first | (cases hs; omega) | (cases hs; done)
theorem sParts_le {le : Nat → Nat} {ln : Nat} : ∀ (n p wk : Nat) (wp : Nat → Nat) (tw : Nat) (tp : Nat → Nat) (sf : Nat) (so : Nat → Nat) (f : Nat), sParts le ln n p wk wp tw tp sf so = .inl f → f ≤ ln + 2
  | 0, p, wk, wp, tw, tp, sf, so, f, e => by cases e
  | n + 1, p, wk, wp, tw, tp, sf, so, f, e => by
    rw [sParts] at e
    split at e
    · cases hs : sPart le ln p wk wp tw tp sf so with
      | inl g =>
        rw [hs] at e
        cases e
        have := sPart_le hs
        omega
      | inr Y =>
        rw [hs] at e
        exact sParts_le n _ _ _ _ _ _ _ f e
    · cases e
theorem sRun_le {le : Nat → Nat} {ln f : Nat} (h : sRun le ln = .inl f) : f ≤ ln + 15 := by
  unfold sRun at h
  split at h
  · have := sParts_le _ _ _ _ _ _ _ _ f h; omega
  · have h1 := hP_le le ln 15
    have h2 := Sum.inl.inj h
    omega
theorem sRun_ok {le : Nat → Nat} {ln : Nat} {X : tX} (h : sRun le ln = .inr X) : hP le ln 15 = 15 ∧ xOKX le ln X := by
  unfold sRun at h
  split at h
  · rename_i c
    exact ⟨c, sParts_ok _ _ _ _ _ _ _ _ X (xOK_0 c) h⟩
  · exact absurd h (by intro z; injection z)
def pBay (R : Nat ⊕ tX) : Int32 := match R with
  | .inl _ => -3
  | .inr X => nI (10 * X.2.1 + X.2.2.2.1)
theorem ctX7_fault {e3 e4 e5 e6 e7 e8 e16 e17 e19 e21 e22 e23 e25 e26 : va_E} {sd : Int64} {dh dso dho dpa dwa : Nat → Nat} {dwk dtw dsf dlo dri dla pl sp : Nat} {le : Nat → Nat} {ln : Nat} (hln : ln ≤ 56) (hle : ∀ k, le k ≤ 255) (hdh : zb dh) (hds : zb dso) (hdo : zb dho) : Ct mX7_fault 5 [.ref 0] (wC (kO sd) (kT ln pl sp) (kI 56 le) e3 e4 e5 e6 e7 e8 (kG9 dwk dtw dsf dlo dri dla) (kI 10 dh) (kZ 10 dso) (kI 10 dho) (kI 5 dpa) (kI 5 dwa) e16 e17 e19 e21 e22 e23 e25 e26) (fun v u => v = some (.int (rF (sRun le ln))) ∧ ∃ (pl2 sp2 : Nat) (h2 so2 ho2 pa2 wa2 : Nat → Nat) (wk2 tw2 sf2 lo2 ri2 la2 : Nat), zb h2 ∧ zb so2 ∧ zb ho2 ∧ u = wC (kO sd) (kT ln pl2 sp2) (kI 56 le) e3 e4 e5 e6 e7 e8 (kG9 wk2 tw2 sf2 lo2 ri2 la2) (kI 10 h2) (kZ 10 so2) (kI 10 ho2) (kI 5 pa2) (kI 5 wa2) e16 e17 e19 e21 e22 e23 e25 e26) := by
  refine Ct.of (by decide) (by exact Nat.le_of_ble_eq_true rfl) ?_
  show Go mX7_fault 5 0 [(0, .ref 0)] [] (wC (kO sd) (kT ln pl sp) (kI 56 le) e3 e4 e5 e6 e7 e8 (kG9 dwk dtw dsf dlo dri dla) (kI 10 dh) (kZ 10 dso) (kI 10 dho) (kI 5 dpa) (kI 5 dwa) e16 e17 e19 e21 e22 e23 e25 e26) (fun v u => v = some (.int (rF (sRun le ln))) ∧ ∃ (pl2 sp2 : Nat) (h2 so2 ho2 pa2 wa2 : Nat → Nat) (wk2 tw2 sf2 lo2 ri2 la2 : Nat), zb h2 ∧ zb so2 ∧ zb ho2 ∧ u = wC (kO sd) (kT ln pl2 sp2) (kI 56 le) e3 e4 e5 e6 e7 e8 (kG9 wk2 tw2 sf2 lo2 ri2 la2) (kI 10 h2) (kZ 10 so2) (kI 10 ho2) (kI 5 pa2) (kI 5 wa2) e16 e17 e19 e21 e22 e23 e25 e26)
  refine g_aload_n (i := 0) (j := 0) dX7_fault_0 rfl rfl ?_
  refine g_get fX7_10 rfl rfl dX7_fault_1 ?_
  refine g_aload_n (i := 0) (j := 0) dX7_fault_4 rfl rfl ?_
  refine g_get fX7_23 rfl rfl dX7_fault_5 ?_
  refine g_callV (rest := []) (ctX4_readInto_9  hln hle hdh hds hdo) kX4_readInto lX7_81 (by decide) rfl rfl rfl rfl (by exact Nat.le_of_ble_eq_true rfl) dX7_fault_8 rfl (fun v u hvu => ?_)
  obtain ⟨rfl, pl_8, sp_8, h_8, so_8, ho_8, pa_8, wa_8, wk_8, tw_8, sf_8, lo_8, ri_8, la_8, rfl, y1_8, y2_8, y3_8, y4_8⟩ := hvu
  refine g_st (st' := [.int (rF (sRun le ln))]) rfl ?_
  refine g_iret rfl rfl dX7_fault_11 ?_
  exact ⟨rfl, _, _, _, _, _, _, _, _, _, _, _, _, _, y1_8, y2_8, y3_8, rfl⟩

theorem ctX7_bay {e19 e21 e23 e25 e26 : va_E} {sd : Int64} {r kp : Nat → Nat} {nx ct : Nat} {dh dso dho dpa dwa : Nat → Nat} {dwk dtw dsf dlo dri dla pl sp : Nat} {h so ho pa wa : Nat → Nat} {wk tw sf lo ri la : Nat} {le : Nat → Nat} {ln : Nat} (hln : ln ≤ 56) (hle : ∀ k, le k ≤ 255) (hdh : zb dh) (hds : zb dso) (hdo : zb dho) (hzh : zb h) (hzs : zb so) (hzo : zb ho) : Ct mX7_bay 5 [.ref 0] (wC (kO sd) (kT ln pl sp) (kI 56 le) (kG3 wk tw sf lo ri la) (kI 10 h) (kZ 10 so) (kI 10 ho) (kI 5 pa) (kI 5 wa) (kG9 dwk dtw dsf dlo dri dla) (kI 10 dh) (kZ 10 dso) (kI 10 dho) (kI 5 dpa) (kI 5 dwa) (kI 16 r) (kA nx ct) e19 e21 (kZ 2 kp) e23 e25 e26) (fun v u => v = some (.int (pBay (sRun le ln))) ∧ ∃ (pl2 sp2 : Nat) (h2 so2 ho2 pa2 wa2 : Nat → Nat) (wk2 tw2 sf2 lo2 ri2 la2 sf3 : Nat), zb h2 ∧ zb so2 ∧ zb ho2 ∧ u = (match sRun le ln with | .inl _ => wC (kO sd) (kT ln pl2 sp2) (kI 56 le) (kG3 wk tw sf lo ri la) (kI 10 h) (kZ 10 so) (kI 10 ho) (kI 5 pa) (kI 5 wa) (kG9 wk2 tw2 sf2 lo2 ri2 la2) (kI 10 h2) (kZ 10 so2) (kI 10 ho2) (kI 5 pa2) (kI 5 wa2) (kI 16 r) (kA nx ct) e19 e21 (kZ 2 kp) e23 e25 e26 | .inr X => wC (kO sd) (kT ln pl2 sp2) (kI 56 le) (kG3 X.2.1 X.2.2.2.1 sf3 (10 * (le 11 - 48) + (le 12 - 48)) (le 13 - 48) (le 14 - 48)) (kI 10 (hgt le)) (kZ 10 X.2.2.2.2.2.2) (kI 10 (hoOf le X.2.2.2.1 X.2.2.2.2.1)) (kI 5 (paOf le X.2.1 X.2.2.1 pa)) (kI 5 (waOf le X.2.1 X.2.2.1 wa)) (kG9 wk2 tw2 sf2 lo2 ri2 la2) (kI 10 h2) (kZ 10 so2) (kI 10 ho2) (kI 5 pa2) (kI 5 wa2) (kI 16 (zf 16 r)) (kA 0 0) e19 e21 (kZ 2 (va_up (va_up kp 0 0) 1 0)) e23 e25 e26)) := by
  refine Ct.of (by decide) (by exact Nat.le_of_ble_eq_true rfl) ?_
  show Go mX7_bay 5 0 [(0, .ref 0)] [] (wC (kO sd) (kT ln pl sp) (kI 56 le) (kG3 wk tw sf lo ri la) (kI 10 h) (kZ 10 so) (kI 10 ho) (kI 5 pa) (kI 5 wa) (kG9 dwk dtw dsf dlo dri dla) (kI 10 dh) (kZ 10 dso) (kI 10 dho) (kI 5 dpa) (kI 5 dwa) (kI 16 r) (kA nx ct) e19 e21 (kZ 2 kp) e23 e25 e26) (fun v u => v = some (.int (pBay (sRun le ln))) ∧ ∃ (pl2 sp2 : Nat) (h2 so2 ho2 pa2 wa2 : Nat → Nat) (wk2 tw2 sf2 lo2 ri2 la2 sf3 : Nat), zb h2 ∧ zb so2 ∧ zb ho2 ∧ u = (match sRun le ln with | .inl _ => wC (kO sd) (kT ln pl2 sp2) (kI 56 le) (kG3 wk tw sf lo ri la) (kI 10 h) (kZ 10 so) (kI 10 ho) (kI 5 pa) (kI 5 wa) (kG9 wk2 tw2 sf2 lo2 ri2 la2) (kI 10 h2) (kZ 10 so2) (kI 10 ho2) (kI 5 pa2) (kI 5 wa2) (kI 16 r) (kA nx ct) e19 e21 (kZ 2 kp) e23 e25 e26 | .inr X => wC (kO sd) (kT ln pl2 sp2) (kI 56 le) (kG3 X.2.1 X.2.2.2.1 sf3 (10 * (le 11 - 48) + (le 12 - 48)) (le 13 - 48) (le 14 - 48)) (kI 10 (hgt le)) (kZ 10 X.2.2.2.2.2.2) (kI 10 (hoOf le X.2.2.2.1 X.2.2.2.2.1)) (kI 5 (paOf le X.2.1 X.2.2.1 pa)) (kI 5 (waOf le X.2.1 X.2.2.1 wa)) (kG9 wk2 tw2 sf2 lo2 ri2 la2) (kI 10 h2) (kZ 10 so2) (kI 10 ho2) (kI 5 pa2) (kI 5 wa2) (kI 16 (zf 16 r)) (kA 0 0) e19 e21 (kZ 2 (va_up (va_up kp 0 0) 1 0)) e23 e25 e26))
  refine g_aload_n (i := 0) (j := 0) dX7_bay_0 rfl rfl ?_
  refine g_get fX7_10 rfl rfl dX7_bay_1 ?_
  refine g_aload_n (i := 0) (j := 0) dX7_bay_4 rfl rfl ?_
  refine g_get fX7_23 rfl rfl dX7_bay_5 ?_
  refine g_callV (rest := []) (ctX4_readInto_9  hln hle hdh hds hdo) kX4_readInto lX7_81 (by decide) rfl rfl rfl rfl (by exact Nat.le_of_ble_eq_true rfl) dX7_bay_8 rfl (fun v u hvu => ?_)
  obtain ⟨rfl, pl_8, sp_8, h_8, so_8, ho_8, pa_8, wa_8, wk_8, tw_8, sf_8, lo_8, ri_8, la_8, rfl, y1_8, y2_8, y3_8, y4_8⟩ := hvu
  refine g_st (st' := [.int (rF (sRun le ln))]) rfl ?_
  rcases hR_ : sRun le ln with f | X
  · have hf_ := sRun_le hR_
    refine g_topi (y := nI f) rfl ?_
    refine g_bipush (v := (-9)) dX7_bay_11 (by decide) ?_
    refine g_icmp_eq (tgt := 19) dX7_bay_13 (by decide) (fun h13 => ?_) (fun h13 => ?_)
    · exact absurd h13 (nI_n9 (by omega))
    · refine g_bipush (v := (-3)) dX7_bay_16 (by decide) ?_
      refine g_iret rfl rfl dX7_bay_18 ?_
      exact ⟨rfl, _, _, _, _, _, _, _, _, _, _, _, _, _, 0, y1_8, y2_8, y3_8, rfl⟩
  · refine g_topi (y := (-9)) rfl ?_
    refine g_bipush (v := (-9)) dX7_bay_11 (by decide) ?_
    refine g_icmp_eq (tgt := 19) dX7_bay_13 (by decide) (fun h13 => ?_) (fun h13 => ?_)
    · refine g_aload_n (i := 0) (j := 0) dX7_bay_19 rfl rfl ?_
      refine g_get fX7_10 rfl rfl dX7_bay_20 ?_
      refine g_aload_n (i := 0) (j := 0) dX7_bay_23 rfl rfl ?_
      refine g_get fX7_19 rfl rfl dX7_bay_24 ?_
      refine g_callV (rest := []) (ctX4_readInto  hln hle hzh hzs hzo) kX4_readInto lX7_81 (by decide) rfl rfl rfl rfl (by exact Nat.le_of_ble_eq_true rfl) dX7_bay_27 rfl (fun v u hvu => ?_)
      obtain ⟨rfl, pl_27, sp_27, h_27, so_27, ho_27, pa_27, wa_27, wk_27, tw_27, sf_27, lo_27, ri_27, la_27, rfl, y1_27, y2_27, y3_27, y4_27⟩ := hvu
      refine g_st (st' := [.int (rF (sRun le ln))]) rfl ?_
      obtain ⟨k1, k2, k3, k4, k5, k6, k7, k8, k9, k10⟩ := y4_27 X hR_
      refine g_ws (ws' := wC (kO sd) (kT ln pl_27 sp_27) (kI 56 le) (kG3 X.2.1 X.2.2.2.1 sf_27 (10 * (le 11 - 48) + (le 12 - 48)) (le 13 - 48) (le 14 - 48)) (kI 10 (hgt le)) (kZ 10 X.2.2.2.2.2.2) (kI 10 (hoOf le X.2.2.2.1 X.2.2.2.2.1)) (kI 5 (paOf le X.2.1 X.2.2.1 pa)) (kI 5 (waOf le X.2.1 X.2.2.1 wa)) (kG9 wk_8 tw_8 sf_8 lo_8 ri_8 la_8) (kI 10 h_8) (kZ 10 so_8) (kI 10 ho_8) (kI 5 pa_8) (kI 5 wa_8) (kI 16 r) (kA nx ct) e19 e21 (kZ 2 kp) e23 e25 e26) (by rw [k1, k2, k3, k4, k5, k6, k7, k8, k9, k10]) ?_
      refine g_pop dX7_bay_30 rfl ?_
      refine g_aload_n (i := 0) (j := 0) dX7_bay_31 rfl rfl ?_
      refine g_get fX7_29 rfl rfl dX7_bay_32 ?_
      refine c_V (st1 := []) (ctX2_clear  ) kX2_clear lX7_85 (by decide) rfl rfl rfl rfl (by exact Nat.le_of_ble_eq_true rfl) dX7_bay_35 rfl rfl ?_
      refine g_aload_n (i := 0) (j := 0) dX7_bay_38 rfl rfl ?_
      refine g_get fX7_36 rfl rfl dX7_bay_39 ?_
      refine c_V (st1 := []) (ctX0_clear  ) kX0_clear lX7_88 (by decide) rfl rfl rfl rfl (by exact Nat.le_of_ble_eq_true rfl) dX7_bay_42 rfl rfl ?_
      refine g_iconst (v := nI 0) dX7_bay_45 (by decide) ?_
      refine g_istore_n (i := 1) (lv' := [(1, .int (nI 0)), (0, .ref 0)]) dX7_bay_46 rfl (by decide) rfl ?_
      refine g_iload_n (i := 1) (j := 0) dX7_bay_47 rfl rfl ?_
      refine g_aload_n (i := 0) (j := 1) dX7_bay_48 rfl rfl ?_
      refine g_get fX7_49 rfl rfl dX7_bay_49 ?_
      refine g_alen (v := nI 2) rfl (by decide) rfl dX7_bay_52 ?_
      refine n_icmp_ge (tgt := 69) (rng_lit 0 rfl) (rng_lit 2 rfl) dX7_bay_53 (by decide) (fun h53 => ?_) (fun h53 => ?_)
      · exact absurd h53 (by decide)
      · refine g_aload_n (i := 0) (j := 1) dX7_bay_56 rfl rfl ?_
        refine g_get fX7_49 rfl rfl dX7_bay_57 ?_
        refine g_iload_n (i := 1) (j := 0) dX7_bay_60 rfl rfl ?_
        refine g_iconst (v := nI 0) dX7_bay_61 (by decide) ?_
        refine n_zast (x := 0) (ws' := wC (kO sd) (kT ln pl_27 sp_27) (kI 56 le) (kG3 X.2.1 X.2.2.2.1 sf_27 (10 * (le 11 - 48) + (le 12 - 48)) (le 13 - 48) (le 14 - 48)) (kI 10 (hgt le)) (kZ 10 X.2.2.2.2.2.2) (kI 10 (hoOf le X.2.2.2.1 X.2.2.2.2.1)) (kI 5 (paOf le X.2.1 X.2.2.1 pa)) (kI 5 (waOf le X.2.1 X.2.2.1 wa)) (kG9 wk_8 tw_8 sf_8 lo_8 ri_8 la_8) (kI 10 h_8) (kZ 10 so_8) (kI 10 ho_8) (kI 5 pa_8) (kI 5 wa_8) (kI 16 (zf 16 r)) (kA 0 0) e19 e21 (kZ 2 (va_up kp 0 0)) e23 e25 e26) rfl (by omega) (rng_lit 2 rfl) (by omega) dX7_bay_62 rfl ?_
        refine n_inc (x := 0) (j := 0) (lv' := [(1, .int (nI 1)), (0, .ref 0)]) dX7_bay_63 rfl (by decide) rfl ?_
        refine g_goto (tgt := 47) dX7_bay_66 (by decide) ?_
        refine g_iload_n (i := 1) (j := 0) dX7_bay_47 rfl rfl ?_
        refine g_aload_n (i := 0) (j := 1) dX7_bay_48 rfl rfl ?_
        refine g_get fX7_49 rfl rfl dX7_bay_49 ?_
        refine g_alen (v := nI 2) rfl (by decide) rfl dX7_bay_52 ?_
        refine n_icmp_ge (tgt := 69) (rng_lit 1 rfl) (rng_lit 2 rfl) dX7_bay_53 (by decide) (fun h53 => ?_) (fun h53 => ?_)
        · exact absurd h53 (by decide)
        · refine g_aload_n (i := 0) (j := 1) dX7_bay_56 rfl rfl ?_
          refine g_get fX7_49 rfl rfl dX7_bay_57 ?_
          refine g_iload_n (i := 1) (j := 0) dX7_bay_60 rfl rfl ?_
          refine g_iconst (v := nI 0) dX7_bay_61 (by decide) ?_
          refine n_zast (x := 1) (ws' := wC (kO sd) (kT ln pl_27 sp_27) (kI 56 le) (kG3 X.2.1 X.2.2.2.1 sf_27 (10 * (le 11 - 48) + (le 12 - 48)) (le 13 - 48) (le 14 - 48)) (kI 10 (hgt le)) (kZ 10 X.2.2.2.2.2.2) (kI 10 (hoOf le X.2.2.2.1 X.2.2.2.2.1)) (kI 5 (paOf le X.2.1 X.2.2.1 pa)) (kI 5 (waOf le X.2.1 X.2.2.1 wa)) (kG9 wk_8 tw_8 sf_8 lo_8 ri_8 la_8) (kI 10 h_8) (kZ 10 so_8) (kI 10 ho_8) (kI 5 pa_8) (kI 5 wa_8) (kI 16 (zf 16 r)) (kA 0 0) e19 e21 (kZ 2 (va_up (va_up kp 0 0) 1 0)) e23 e25 e26) rfl (by omega) (rng_lit 2 rfl) (by omega) dX7_bay_62 rfl ?_
          refine n_inc (x := 1) (j := 0) (lv' := [(1, .int (nI 2)), (0, .ref 0)]) dX7_bay_63 rfl (by decide) rfl ?_
          refine g_goto (tgt := 47) dX7_bay_66 (by decide) ?_
          refine g_iload_n (i := 1) (j := 0) dX7_bay_47 rfl rfl ?_
          refine g_aload_n (i := 0) (j := 1) dX7_bay_48 rfl rfl ?_
          refine g_get fX7_49 rfl rfl dX7_bay_49 ?_
          refine g_alen (v := nI 2) rfl (by decide) rfl dX7_bay_52 ?_
          refine n_icmp_ge (tgt := 69) (rng_lit 2 rfl) (rng_lit 2 rfl) dX7_bay_53 (by decide) (fun h53 => ?_) (fun h53 => ?_)
          · refine g_bipush (v := nI 10) dX7_bay_69 (by decide) ?_
            refine g_aload_n (i := 0) (j := 1) dX7_bay_71 rfl rfl ?_
            refine g_get fX7_19 rfl rfl dX7_bay_72 ?_
            refine g_get fX7_89 rfl rfl dX7_bay_75 ?_
            refine n_imul (a := 10) (b := X.2.1) dX7_bay_78 ?_
            refine g_aload_n (i := 0) (j := 1) dX7_bay_79 rfl rfl ?_
            refine g_get fX7_19 rfl rfl dX7_bay_80 ?_
            refine g_get fX7_92 rfl rfl dX7_bay_83 ?_
            refine n_iadd (a := (10 * X.2.1)) (b := X.2.2.2.1) dX7_bay_86 ?_
            refine g_iret rfl rfl dX7_bay_87 ?_
            exact ⟨rfl, _, _, _, _, _, _, _, _, _, _, _, _, _, sf_27, y1_8, y2_8, y3_8, rfl⟩
          · exact absurd h53 (by decide)
    · exact absurd rfl h13

