/-! part 20: reading the text -/
theorem lH_eq {le : Nat → Nat} {ln p c : Nat} (hle : ∀ k, le k ≤ 255) (hc : c ≤ 255) : lH le ln p = nI c ↔ p < ln ∧ le p = c := by
  have := hle p
  unfold lH
  split
  · rw [nI_eq (by omega) (by omega)]; constructor
    · intro z; exact ⟨by assumption, z⟩
    · intro z; exact z.2
  · constructor
    · intro z
      have h1 := nI_toInt (n := c) (by omega)
      rw [← z, show ((-1 : Int32)).toInt = -1 by decide] at h1
      omega
    · intro z; omega
/-- the figure that was read at a place of the head (its least, when one has stopped) -/
def hv (le : Nat → Nat) (ln i : Nat) : Nat := if hP le ln (i + 1) = i + 1 then le i - 48 else hLo i
theorem fig_val {le : Nat → Nat} {ln i lo hi : Nat} (h0 : i ≠ 0) (e1 : hLo i = lo) (e2 : hHi le i = hi ∨ hP le ln i ≠ i) : (if fOK le ln (hP le ln i) (hS le ln i) lo hi then le (hP le ln i) - 48 else lo) = hv le ln i := by
  have h := (hP_s h0 e1 e2 (le := le) (ln := ln)).1
  have hle := hP_le le ln i
  unfold hv
  by_cases c : fOK le ln (hP le ln i) (hS le ln i) lo hi
  · rw [if_pos c] at h ⊢
    have c2 := c.2
    unfold hS at c2
    split at c2
    · rename_i c3
      rw [c3] at h
      rw [if_pos h, c3]
    · omega
  · rw [if_neg c] at h ⊢
    rw [if_neg (by omega), e1]
theorem hv_le {le : Nat → Nat} (hle : ∀ k, le k ≤ 255) (ln i : Nat) : hv le ln i ≤ 207 := by
  have := hle i
  unfold hv
  split
  · omega
  · unfold hLo; split <;> omega
theorem hHi12 {le : Nat → Nat} {ln : Nat} : (hv le ln 11 = 4 → hHi le 12 = 0 ∨ hP le ln 12 ≠ 12) ∧ (hv le ln 11 ≠ 4 → hHi le 12 = 9 ∨ hP le ln 12 ≠ 12) := by
  have key : hP le ln 12 = 12 → hv le ln 11 = le 11 - 48 ∧ 48 ≤ le 11 := by
    intro h
    have h2 := (hP_prev h).2
    unfold hOK at h2
    rw [if_neg (by omega)] at h2
    have h3 := of_decide_eq_true h2
    refine ⟨by unfold hv; rw [if_pos h], by have := h3.2.1; omega⟩
  constructor
  · intro e
    by_cases h : hP le ln 12 = 12
    · left; have := key h; show (if le 11 = 52 then 0 else 9) = 0; rw [if_pos (by omega)]
    · exact Or.inr h
  · intro e
    by_cases h : hP le ln 12 = 12
    · left; have := key h; show (if le 11 = 52 then 0 else 9) = 9; rw [if_neg (by omega)]
    · exact Or.inr h
theorem paOf_s (le : Nat → Nat) (wk : Nat) (wp pa : Nat → Nat) (p : Nat) : va_up (paOf le wk wp pa) wk (le (p + 1) - 48) = paOf le (wk + 1) (va_up wp wk p) pa := by
  funext k
  unfold va_up paOf
  by_cases h : k = wk
  · subst h; simp
  · rw [if_neg h]
    by_cases h2 : k < wk
    · rw [if_pos h2, if_pos (by omega)]; simp [h]
    · rw [if_neg h2, if_neg (by omega)]
theorem waOf_s (le : Nat → Nat) (wk : Nat) (wp wa : Nat → Nat) (p : Nat) : va_up (waOf le wk wp wa) wk (le (p + 2) - 48) = waOf le (wk + 1) (va_up wp wk p) wa := by
  funext k
  unfold va_up waOf
  by_cases h : k = wk
  · subst h; simp
  · rw [if_neg h]
    by_cases h2 : k < wk
    · rw [if_pos h2, if_pos (by omega)]; simp [h]
    · rw [if_neg h2, if_neg (by omega)]
theorem hoOf_le {le : Nat → Nat} (hle : ∀ k, le k ≤ 255) (tw : Nat) (tp : Nat → Nat) (c : Nat) : hoOf le tw tp c ≤ 207 := by
  have h0 := hle (tp 0 + 2)
  have h1 := hle (tp 1 + 2)
  unfold hoOf
  (repeat' split) <;> omega
/-- the towers told: figures stand behind them -/
def tpOK (le : Nat → Nat) (tw : Nat) (tp : Nat → Nat) : Prop := ∀ t, t < tw → 49 ≤ le (tp t + 1) ∧ le (tp t + 1) ≤ 56 ∧ 49 ≤ le (tp t + 2) ∧ le (tp t + 2) ≤ 52
theorem hoOf_s {le : Nat → Nat} {tw : Nat} {tp : Nat → Nat} {p : Nat} (htw : tw < 2) (hok : tpOK le tw tp) (h0 : hoOf le tw tp (le (p + 1) - 48) = 0) : va_up (hoOf le tw tp) (le (p + 1) - 48) (le (p + 2) - 48) = hoOf le (tw + 1) (va_up tp tw p) := by
  funext c
  have ht : tw = 0 ∨ tw = 1 := by omega
  rcases ht with rfl | rfl
  · unfold va_up hoOf
    by_cases h : c = le (p + 1) - 48
    · subst h; simp
    · rw [if_neg h, if_neg (by omega), if_neg (by omega), if_neg (fun z => h (by have := z.2; simpa using this.symm)), if_neg (by omega)]
  · have ho := hok 0 (by omega)
    unfold hoOf at h0
    have hne : le (tp 0 + 1) - 48 ≠ le (p + 1) - 48 := by
      intro e
      rw [if_pos ⟨by omega, e⟩] at h0
      omega
    unfold va_up hoOf
    by_cases h : c = le (p + 1) - 48
    · subst h
      rw [if_pos rfl, if_neg (fun z => by have := z.2; simp at this; omega), if_pos ⟨by omega, by simp⟩]
      simp
    · rw [if_neg h]
      by_cases h2 : le (tp 0 + 1) - 48 = c
      · rw [if_pos ⟨by omega, h2⟩, if_pos ⟨by omega, by simpa using h2⟩]
        simp
      · rw [if_neg (fun z => h2 z.2), if_neg (by omega), if_neg (fun z => h2 (by have := z.2; simpa using this)), if_neg (fun z => h (by have := z.2; simpa using this.symm))]
theorem tpOK_s {le : Nat → Nat} {ln tw : Nat} {tp : Nat → Nat} {p : Nat} (hok : tpOK le tw tp) (h1 : dg le ln (p + 1) 1 8) (h2 : dg le ln (p + 2) 1 4) : tpOK le (tw + 1) (va_up tp tw p) := by
  intro t ht
  by_cases h : t = tw
  · subst h
    rw [va_up_same]
    have a := h1.2.1; have b := h1.2.2; have c := h2.2.1; have d := h2.2.2
    exact ⟨by omega, by omega, by omega, by omega⟩
  · rw [va_up_other h]
    exact hok t (by omega)
theorem ctX4_figure_y {e0 e3 e4 e5 e6 e7 e8 e9 e10 e11 e12 e13 e14 e16 e17 e19 e21 e22 e23 e25 e26 : va_E} {le : Nat → Nat} {ln pl lo hi : Nat} (hln : ln ≤ 56) (hpl : pl ≤ 60) (hlo : lo ≤ 1) (hhi : hi ≤ 9) (hle : ∀ k, le k ≤ 255) (c : dg le ln pl lo hi) : Ct mX4_figure 1 [.ref 1, .int (nI lo), .int (nI hi)] (wC e0 (kT ln pl 0) (kI 56 le) e3 e4 e5 e6 e7 e8 e9 e10 e11 e12 e13 e14 e16 e17 e19 e21 e22 e23 e25 e26) (gE (some (.int (nI (le pl - 48)))) (wC e0 (kT ln (pl + 1) 0) (kI 56 le) e3 e4 e5 e6 e7 e8 e9 e10 e11 e12 e13 e14 e16 e17 e19 e21 e22 e23 e25 e26)) := by
  have h := ctX4_figure (e0 := e0) (e3 := e3) (e4 := e4) (e5 := e5) (e6 := e6) (e7 := e7) (e8 := e8) (e9 := e9) (e10 := e10) (e11 := e11) (e12 := e12) (e13 := e13) (e14 := e14) (e16 := e16) (e17 := e17) (e19 := e19) (e21 := e21) (e22 := e22) (e23 := e23) (e25 := e25) (e26 := e26) (le := le) (ln := ln) (pl := pl) (sp := 0) (lo := lo) (hi := hi) hln hpl (by omega) hlo hhi hle
  rw [if_pos ⟨c, rfl⟩, if_pos ⟨c, rfl⟩, if_pos ⟨c, rfl⟩] at h
  exact h
theorem ctX4_figure_n {e0 e3 e4 e5 e6 e7 e8 e9 e10 e11 e12 e13 e14 e16 e17 e19 e21 e22 e23 e25 e26 : va_E} {le : Nat → Nat} {ln pl sp lo hi : Nat} (hln : ln ≤ 56) (hpl : pl ≤ 60) (hsp : sp ≤ 1) (hlo : lo ≤ 1) (hhi : hi ≤ 9) (hle : ∀ k, le k ≤ 255) (c : ¬ fOK le ln pl sp lo hi) : Ct mX4_figure 1 [.ref 1, .int (nI lo), .int (nI hi)] (wC e0 (kT ln pl sp) (kI 56 le) e3 e4 e5 e6 e7 e8 e9 e10 e11 e12 e13 e14 e16 e17 e19 e21 e22 e23 e25 e26) (gE (some (.int (nI lo))) (wC e0 (kT ln pl 1) (kI 56 le) e3 e4 e5 e6 e7 e8 e9 e10 e11 e12 e13 e14 e16 e17 e19 e21 e22 e23 e25 e26)) := by
  have h := ctX4_figure (e0 := e0) (e3 := e3) (e4 := e4) (e5 := e5) (e6 := e6) (e7 := e7) (e8 := e8) (e9 := e9) (e10 := e10) (e11 := e11) (e12 := e12) (e13 := e13) (e14 := e14) (e16 := e16) (e17 := e17) (e19 := e19) (e21 := e21) (e22 := e22) (e23 := e23) (e25 := e25) (e26 := e26) (le := le) (ln := ln) (pl := pl) (sp := sp) (lo := lo) (hi := hi) hln hpl hsp hlo hhi hle
  rw [if_neg c, if_neg c, if_neg c] at h
  exact h
theorem lp_head {e0 e5 e6 e7 e8 e9 e10 e11 e12 e13 e14 e16 e17 e19 e21 e22 e23 e25 e26 : va_E} {h : Nat → Nat} {wk tw sf lo ri la : Nat} {le : Nat → Nat} {ln : Nat} (hln : ln ≤ 56) (hle : ∀ k, le k ≤ 255) : ∀ (n i : Nat), i + n = 10 → Go mX4_readHead 2 29 [(0, .ref 1), (1, .ref 3), (2, .int (nI i))] [] (wC e0 (kT ln (hP le ln (1 + i)) (hS le ln (1 + i))) (kI 56 le) (kG3 wk tw sf lo ri la) (kI 10 (cpf i (fun j => hv le ln (1 + j)) h)) e5 e6 e7 e8 e9 e10 e11 e12 e13 e14 e16 e17 e19 e21 e22 e23 e25 e26) (gE none (wC e0 (kT ln (hP le ln 15) (hS le ln 15)) (kI 56 le) (kG3 wk tw sf (10 * hv le ln 11 + hv le ln 12) (hv le ln 13) (hv le ln 14)) (kI 10 (cpf 10 (fun j => hv le ln (1 + j)) h)) e5 e6 e7 e8 e9 e10 e11 e12 e13 e14 e16 e17 e19 e21 e22 e23 e25 e26)) := by
  intro n
  induction n with
  | zero =>
    intro i hi
    obtain rfl : i = 10 := by omega
    refine g_ws (ws' := wC e0 (kT ln (hP le ln 11) (hS le ln 11)) (kI 56 le) (kG3 wk tw sf lo ri la) (kI 10 (cpf 10 (fun j => hv le ln (1 + j)) h)) e5 e6 e7 e8 e9 e10 e11 e12 e13 e14 e16 e17 e19 e21 e22 e23 e25 e26) rfl ?_
    refine g_iload_n (i := 2) (j := 2) dX4_readHead_29 rfl rfl ?_
    refine g_bipush (v := nI 9) dX4_readHead_30 (by decide) ?_
    refine n_icmp_gt (tgt := 53) (rng_lit 10 rfl) (rng_lit 9 rfl) dX4_readHead_32 (by decide) (fun h32 => ?_) (fun h32 => ?_)
    · refine g_aload_n (i := 0) (j := 0) dX4_readHead_53 rfl rfl ?_
      refine g_iconst (v := nI 0) dX4_readHead_54 (by decide) ?_
      refine g_iconst (v := nI 4) dX4_readHead_55 (by decide) ?_
      have bp := hP_le le ln 11
      have bs : hS le ln 11 ≤ 1 := by unfold hS; split <;> omega
      refine c_V (st1 := [.int (nI (if fOK le ln (hP le ln 11) (hS le ln 11) 0 4 then le (hP le ln 11) - 48 else 0))]) (ctX4_figure (lo := 0) (hi := 4) hln (by omega) (by omega) (by omega) (by omega) hle) kX4_figure lX4_42 (by decide) rfl rfl rfl rfl (by exact Nat.le_of_ble_eq_true rfl) dX4_readHead_56 rfl rfl ?_
      have es := hP_s (le := le) (ln := ln) (i := 11) (lo := 0) (hi := 4) (by omega) rfl (Or.inl rfl)
      have ev := fig_val (le := le) (ln := ln) (i := 11) (lo := 0) (hi := 4) (by omega) rfl (Or.inl rfl)
      refine g_topi (y := nI (hv le ln 11)) (by rw [ev]) ?_
      refine g_ws (ws' := wC e0 (kT ln (hP le ln 12) (hS le ln 12)) (kI 56 le) (kG3 wk tw sf lo ri la) (kI 10 (cpf 10 (fun j => hv le ln (1 + j)) h)) e5 e6 e7 e8 e9 e10 e11 e12 e13 e14 e16 e17 e19 e21 e22 e23 e25 e26) (by rw [es.1, es.2]) ?_
      refine g_istore_n (i := 2) (lv' := [(2, .int (nI (hv le ln 11))), (0, .ref 1), (1, .ref 3)]) dX4_readHead_59 rfl (by decide) rfl ?_
      refine g_aload_n (i := 1) (j := 2) dX4_readHead_60 rfl rfl ?_
      refine g_bipush (v := nI 10) dX4_readHead_61 (by decide) ?_
      refine g_iload_n (i := 2) (j := 0) dX4_readHead_63 rfl rfl ?_
      refine n_imul (a := 10) (b := (hv le ln 11)) dX4_readHead_64 ?_
      refine g_aload_n (i := 0) (j := 1) dX4_readHead_65 rfl rfl ?_
      refine g_iconst (v := nI 0) dX4_readHead_66 (by decide) ?_
      refine g_iload_n (i := 2) (j := 0) dX4_readHead_67 rfl rfl ?_
      refine g_iconst (v := nI 4) dX4_readHead_68 (by decide) ?_
      refine n_icmp_ne (tgt := 76) (by have := hv_le hle ln 11; omega) (rng_lit 4 rfl) dX4_readHead_69 (by decide) (fun h69 => ?_) (fun h69 => ?_)
      · refine g_bipush (v := nI 9) dX4_readHead_76 (by decide) ?_
        have bp := hP_le le ln 12
        have bs : hS le ln 12 ≤ 1 := by unfold hS; split <;> omega
        have bv := hv_le hle ln 11
        refine c_V (st1 := [.int (nI (if fOK le ln (hP le ln 12) (hS le ln 12) 0 9 then le (hP le ln 12) - 48 else 0)), .int (nI (10 * (hv le ln 11))), .ref 3]) (ctX4_figure (lo := 0) (hi := 9) hln (by omega) (by omega) (by omega) (by omega) hle) kX4_figure lX4_42 (by decide) rfl rfl rfl rfl (by exact Nat.le_of_ble_eq_true rfl) dX4_readHead_78 rfl rfl ?_
        have es := hP_s (le := le) (ln := ln) (i := 12) (lo := 0) (hi := 9) (by omega) rfl (hHi12.2 h69)
        have ev := fig_val (le := le) (ln := ln) (i := 12) (lo := 0) (hi := 9) (by omega) rfl (hHi12.2 h69)
        refine g_topi (y := nI (hv le ln 12)) (by rw [ev]) ?_
        refine g_ws (ws' := wC e0 (kT ln (hP le ln 13) (hS le ln 13)) (kI 56 le) (kG3 wk tw sf lo ri la) (kI 10 (cpf 10 (fun j => hv le ln (1 + j)) h)) e5 e6 e7 e8 e9 e10 e11 e12 e13 e14 e16 e17 e19 e21 e22 e23 e25 e26) (by rw [es.1, es.2]) ?_
        refine n_iadd (a := (10 * (hv le ln 11))) (b := (hv le ln 12)) dX4_readHead_81 ?_
        refine n_putI (ws' := wC e0 (kT ln (hP le ln 13) (hS le ln 13)) (kI 56 le) (kG3 wk tw sf ((10 * (hv le ln 11)) + (hv le ln 12)) ri la) (kI 10 (cpf 10 (fun j => hv le ln (1 + j)) h)) e5 e6 e7 e8 e9 e10 e11 e12 e13 e14 e16 e17 e19 e21 e22 e23 e25 e26) fX4_50 fp_X1_8 rfl (by exact Nat.le_of_ble_eq_true rfl) dX4_readHead_82 rfl ?_
        refine g_aload_n (i := 1) (j := 2) dX4_readHead_85 rfl rfl ?_
        refine g_aload_n (i := 0) (j := 1) dX4_readHead_86 rfl rfl ?_
        refine g_iconst (v := nI 1) dX4_readHead_87 (by decide) ?_
        refine g_iconst (v := nI 3) dX4_readHead_88 (by decide) ?_
        have bp := hP_le le ln 13
        have bs : hS le ln 13 ≤ 1 := by unfold hS; split <;> omega
        refine c_V (st1 := [.int (nI (if fOK le ln (hP le ln 13) (hS le ln 13) 1 3 then le (hP le ln 13) - 48 else 1)), .ref 3]) (ctX4_figure (lo := 1) (hi := 3) hln (by omega) (by omega) (by omega) (by omega) hle) kX4_figure lX4_42 (by decide) rfl rfl rfl rfl (by exact Nat.le_of_ble_eq_true rfl) dX4_readHead_89 rfl rfl ?_
        have es := hP_s (le := le) (ln := ln) (i := 13) (lo := 1) (hi := 3) (by omega) rfl (Or.inl rfl)
        have ev := fig_val (le := le) (ln := ln) (i := 13) (lo := 1) (hi := 3) (by omega) rfl (Or.inl rfl)
        refine g_topi (y := nI (hv le ln 13)) (by rw [ev]) ?_
        refine g_ws (ws' := wC e0 (kT ln (hP le ln 14) (hS le ln 14)) (kI 56 le) (kG3 wk tw sf ((10 * (hv le ln 11)) + (hv le ln 12)) ri la) (kI 10 (cpf 10 (fun j => hv le ln (1 + j)) h)) e5 e6 e7 e8 e9 e10 e11 e12 e13 e14 e16 e17 e19 e21 e22 e23 e25 e26) (by rw [es.1, es.2]) ?_
        refine n_putI (ws' := wC e0 (kT ln (hP le ln 14) (hS le ln 14)) (kI 56 le) (kG3 wk tw sf ((10 * (hv le ln 11)) + (hv le ln 12)) (hv le ln 13) la) (kI 10 (cpf 10 (fun j => hv le ln (1 + j)) h)) e5 e6 e7 e8 e9 e10 e11 e12 e13 e14 e16 e17 e19 e21 e22 e23 e25 e26) fX4_53 fp_X1_9 rfl (by exact Nat.le_of_ble_eq_true rfl) dX4_readHead_92 rfl ?_
        refine g_aload_n (i := 1) (j := 2) dX4_readHead_95 rfl rfl ?_
        refine g_aload_n (i := 0) (j := 1) dX4_readHead_96 rfl rfl ?_
        refine g_iconst (v := nI 0) dX4_readHead_97 (by decide) ?_
        refine g_bipush (v := nI 9) dX4_readHead_98 (by decide) ?_
        have bp := hP_le le ln 14
        have bs : hS le ln 14 ≤ 1 := by unfold hS; split <;> omega
        refine c_V (st1 := [.int (nI (if fOK le ln (hP le ln 14) (hS le ln 14) 0 9 then le (hP le ln 14) - 48 else 0)), .ref 3]) (ctX4_figure (lo := 0) (hi := 9) hln (by omega) (by omega) (by omega) (by omega) hle) kX4_figure lX4_42 (by decide) rfl rfl rfl rfl (by exact Nat.le_of_ble_eq_true rfl) dX4_readHead_100 rfl rfl ?_
        have es := hP_s (le := le) (ln := ln) (i := 14) (lo := 0) (hi := 9) (by omega) rfl (Or.inl rfl)
        have ev := fig_val (le := le) (ln := ln) (i := 14) (lo := 0) (hi := 9) (by omega) rfl (Or.inl rfl)
        refine g_topi (y := nI (hv le ln 14)) (by rw [ev]) ?_
        refine g_ws (ws' := wC e0 (kT ln (hP le ln 15) (hS le ln 15)) (kI 56 le) (kG3 wk tw sf ((10 * (hv le ln 11)) + (hv le ln 12)) (hv le ln 13) la) (kI 10 (cpf 10 (fun j => hv le ln (1 + j)) h)) e5 e6 e7 e8 e9 e10 e11 e12 e13 e14 e16 e17 e19 e21 e22 e23 e25 e26) (by rw [es.1, es.2]) ?_
        refine n_putI (ws' := wC e0 (kT ln (hP le ln 15) (hS le ln 15)) (kI 56 le) (kG3 wk tw sf ((10 * (hv le ln 11)) + (hv le ln 12)) (hv le ln 13) (hv le ln 14)) (kI 10 (cpf 10 (fun j => hv le ln (1 + j)) h)) e5 e6 e7 e8 e9 e10 e11 e12 e13 e14 e16 e17 e19 e21 e22 e23 e25 e26) fX4_56 fp_X1_10 rfl (by exact Nat.le_of_ble_eq_true rfl) dX4_readHead_103 rfl ?_
        refine g_vret rfl dX4_readHead_106 ?_
        exact gE_i rfl rfl
      · refine g_iconst (v := nI 0) dX4_readHead_72 (by decide) ?_
        refine g_goto (tgt := 78) dX4_readHead_73 (by decide) ?_
        have bp := hP_le le ln 12
        have bs : hS le ln 12 ≤ 1 := by unfold hS; split <;> omega
        have bv := hv_le hle ln 11
        refine c_V (st1 := [.int (nI (if fOK le ln (hP le ln 12) (hS le ln 12) 0 0 then le (hP le ln 12) - 48 else 0)), .int (nI (10 * (hv le ln 11))), .ref 3]) (ctX4_figure (lo := 0) (hi := 0) hln (by omega) (by omega) (by omega) (by omega) hle) kX4_figure lX4_42 (by decide) rfl rfl rfl rfl (by exact Nat.le_of_ble_eq_true rfl) dX4_readHead_78 rfl rfl ?_
        have es := hP_s (le := le) (ln := ln) (i := 12) (lo := 0) (hi := 0) (by omega) rfl (hHi12.1 h69)
        have ev := fig_val (le := le) (ln := ln) (i := 12) (lo := 0) (hi := 0) (by omega) rfl (hHi12.1 h69)
        refine g_topi (y := nI (hv le ln 12)) (by rw [ev]) ?_
        refine g_ws (ws' := wC e0 (kT ln (hP le ln 13) (hS le ln 13)) (kI 56 le) (kG3 wk tw sf lo ri la) (kI 10 (cpf 10 (fun j => hv le ln (1 + j)) h)) e5 e6 e7 e8 e9 e10 e11 e12 e13 e14 e16 e17 e19 e21 e22 e23 e25 e26) (by rw [es.1, es.2]) ?_
        refine n_iadd (a := (10 * (hv le ln 11))) (b := (hv le ln 12)) dX4_readHead_81 ?_
        refine n_putI (ws' := wC e0 (kT ln (hP le ln 13) (hS le ln 13)) (kI 56 le) (kG3 wk tw sf ((10 * (hv le ln 11)) + (hv le ln 12)) ri la) (kI 10 (cpf 10 (fun j => hv le ln (1 + j)) h)) e5 e6 e7 e8 e9 e10 e11 e12 e13 e14 e16 e17 e19 e21 e22 e23 e25 e26) fX4_50 fp_X1_8 rfl (by exact Nat.le_of_ble_eq_true rfl) dX4_readHead_82 rfl ?_
        refine g_aload_n (i := 1) (j := 2) dX4_readHead_85 rfl rfl ?_
        refine g_aload_n (i := 0) (j := 1) dX4_readHead_86 rfl rfl ?_
        refine g_iconst (v := nI 1) dX4_readHead_87 (by decide) ?_
        refine g_iconst (v := nI 3) dX4_readHead_88 (by decide) ?_
        have bp := hP_le le ln 13
        have bs : hS le ln 13 ≤ 1 := by unfold hS; split <;> omega
        refine c_V (st1 := [.int (nI (if fOK le ln (hP le ln 13) (hS le ln 13) 1 3 then le (hP le ln 13) - 48 else 1)), .ref 3]) (ctX4_figure (lo := 1) (hi := 3) hln (by omega) (by omega) (by omega) (by omega) hle) kX4_figure lX4_42 (by decide) rfl rfl rfl rfl (by exact Nat.le_of_ble_eq_true rfl) dX4_readHead_89 rfl rfl ?_
        have es := hP_s (le := le) (ln := ln) (i := 13) (lo := 1) (hi := 3) (by omega) rfl (Or.inl rfl)
        have ev := fig_val (le := le) (ln := ln) (i := 13) (lo := 1) (hi := 3) (by omega) rfl (Or.inl rfl)
        refine g_topi (y := nI (hv le ln 13)) (by rw [ev]) ?_
        refine g_ws (ws' := wC e0 (kT ln (hP le ln 14) (hS le ln 14)) (kI 56 le) (kG3 wk tw sf ((10 * (hv le ln 11)) + (hv le ln 12)) ri la) (kI 10 (cpf 10 (fun j => hv le ln (1 + j)) h)) e5 e6 e7 e8 e9 e10 e11 e12 e13 e14 e16 e17 e19 e21 e22 e23 e25 e26) (by rw [es.1, es.2]) ?_
        refine n_putI (ws' := wC e0 (kT ln (hP le ln 14) (hS le ln 14)) (kI 56 le) (kG3 wk tw sf ((10 * (hv le ln 11)) + (hv le ln 12)) (hv le ln 13) la) (kI 10 (cpf 10 (fun j => hv le ln (1 + j)) h)) e5 e6 e7 e8 e9 e10 e11 e12 e13 e14 e16 e17 e19 e21 e22 e23 e25 e26) fX4_53 fp_X1_9 rfl (by exact Nat.le_of_ble_eq_true rfl) dX4_readHead_92 rfl ?_
        refine g_aload_n (i := 1) (j := 2) dX4_readHead_95 rfl rfl ?_
        refine g_aload_n (i := 0) (j := 1) dX4_readHead_96 rfl rfl ?_
        refine g_iconst (v := nI 0) dX4_readHead_97 (by decide) ?_
        refine g_bipush (v := nI 9) dX4_readHead_98 (by decide) ?_
        have bp := hP_le le ln 14
        have bs : hS le ln 14 ≤ 1 := by unfold hS; split <;> omega
        refine c_V (st1 := [.int (nI (if fOK le ln (hP le ln 14) (hS le ln 14) 0 9 then le (hP le ln 14) - 48 else 0)), .ref 3]) (ctX4_figure (lo := 0) (hi := 9) hln (by omega) (by omega) (by omega) (by omega) hle) kX4_figure lX4_42 (by decide) rfl rfl rfl rfl (by exact Nat.le_of_ble_eq_true rfl) dX4_readHead_100 rfl rfl ?_
        have es := hP_s (le := le) (ln := ln) (i := 14) (lo := 0) (hi := 9) (by omega) rfl (Or.inl rfl)
        have ev := fig_val (le := le) (ln := ln) (i := 14) (lo := 0) (hi := 9) (by omega) rfl (Or.inl rfl)
        refine g_topi (y := nI (hv le ln 14)) (by rw [ev]) ?_
        refine g_ws (ws' := wC e0 (kT ln (hP le ln 15) (hS le ln 15)) (kI 56 le) (kG3 wk tw sf ((10 * (hv le ln 11)) + (hv le ln 12)) (hv le ln 13) la) (kI 10 (cpf 10 (fun j => hv le ln (1 + j)) h)) e5 e6 e7 e8 e9 e10 e11 e12 e13 e14 e16 e17 e19 e21 e22 e23 e25 e26) (by rw [es.1, es.2]) ?_
        refine n_putI (ws' := wC e0 (kT ln (hP le ln 15) (hS le ln 15)) (kI 56 le) (kG3 wk tw sf ((10 * (hv le ln 11)) + (hv le ln 12)) (hv le ln 13) (hv le ln 14)) (kI 10 (cpf 10 (fun j => hv le ln (1 + j)) h)) e5 e6 e7 e8 e9 e10 e11 e12 e13 e14 e16 e17 e19 e21 e22 e23 e25 e26) fX4_56 fp_X1_10 rfl (by exact Nat.le_of_ble_eq_true rfl) dX4_readHead_103 rfl ?_
        refine g_vret rfl dX4_readHead_106 ?_
        exact gE_i rfl rfl
    · exact absurd h32 (by decide)

  | succ n ih =>
    intro i hi
    refine g_iload_n (i := 2) (j := 2) dX4_readHead_29 rfl rfl ?_
    refine g_bipush (v := nI 9) dX4_readHead_30 (by decide) ?_
    refine n_icmp_gt (tgt := 53) (by omega) (rng_lit 9 rfl) dX4_readHead_32 (by decide) (fun h32 => ?_) (fun h32 => ?_)
    · exfalso; omega
    · refine g_aload_n (i := 1) (j := 1) dX4_readHead_35 rfl rfl ?_
      refine g_iload_n (i := 2) (j := 2) dX4_readHead_36 rfl rfl ?_
      refine g_aload_n (i := 0) (j := 0) dX4_readHead_37 rfl rfl ?_
      refine g_iconst (v := nI 0) dX4_readHead_38 (by decide) ?_
      refine g_bipush (v := nI 9) dX4_readHead_39 (by decide) ?_
      have bp := hP_le le ln (1 + i)
      have bs : hS le ln (1 + i) ≤ 1 := by unfold hS; split <;> omega
      refine c_V (st1 := [.int (nI (if fOK le ln (hP le ln (1 + i)) (hS le ln (1 + i)) 0 9 then le (hP le ln (1 + i)) - 48 else 0)), .int (nI i), .ref 3]) (ctX4_figure (lo := 0) (hi := 9) hln (by omega) (by omega) (by omega) (by omega) hle) kX4_figure lX4_42 (by decide) rfl rfl rfl rfl (by exact Nat.le_of_ble_eq_true rfl) dX4_readHead_41 rfl rfl ?_
      have es := hP_s (le := le) (ln := ln) (i := 1 + i) (lo := 0) (hi := 9) (by omega) (by unfold hLo; split <;> omega) (Or.inl (by unfold hHi; split <;> omega))
      have ev := fig_val (le := le) (ln := ln) (i := 1 + i) (lo := 0) (hi := 9) (by omega) (by unfold hLo; split <;> omega) (Or.inl (by unfold hHi; split <;> omega))
      refine g_topi (y := nI (hv le ln (1 + i))) (by rw [ev]) ?_
      refine g_ws (ws' := wC e0 (kT ln (hP le ln ((1 + i) + 1)) (hS le ln ((1 + i) + 1))) (kI 56 le) (kG3 wk tw sf lo ri la) (kI 10 (cpf i (fun j => hv le ln (1 + j)) h)) e5 e6 e7 e8 e9 e10 e11 e12 e13 e14 e16 e17 e19 e21 e22 e23 e25 e26) (by rw [es.1, es.2]) ?_
      refine c_V (st1 := []) (ctX1_setHeight (c := i) (x := hv le ln (1 + i)) (by omega)) kX1_setHeight lX4_46 (by decide) rfl rfl rfl rfl (by exact Nat.le_of_ble_eq_true rfl) dX4_readHead_44 rfl rfl ?_
      refine n_inc (x := i) (j := 2) (lv' := [(2, .int (nI (i + 1))), (0, .ref 1), (1, .ref 3)]) dX4_readHead_47 rfl (by decide) rfl ?_
      refine g_goto (tgt := 29) dX4_readHead_50 (by decide) ?_
      refine g_lv [1, 2, 0] rfl ?_
      refine g_ws (ws' := wC e0 (kT ln (hP le ln (1 + (i + 1))) (hS le ln (1 + (i + 1)))) (kI 56 le) (kG3 wk tw sf lo ri la) (kI 10 (cpf (i + 1) (fun j => hv le ln (1 + j)) h)) e5 e6 e7 e8 e9 e10 e11 e12 e13 e14 e16 e17 e19 e21 e22 e23 e25 e26) (by rw [← cpf_s, show 1 + (i + 1) = 1 + i + 1 by omega]) ?_
      exact ih (i + 1) (by omega)

theorem ctX4_readHead {e0 e5 e6 e7 e8 e9 e10 e11 e12 e13 e14 e16 e17 e19 e21 e22 e23 e25 e26 : va_E} {h : Nat → Nat} {wk tw sf lo ri la : Nat} {le : Nat → Nat} {ln : Nat} (hln : ln ≤ 56) (hle : ∀ k, le k ≤ 255) : Ct mX4_readHead 2 [.ref 1, .ref 3] (wC e0 (kT ln 0 0) (kI 56 le) (kG3 wk tw sf lo ri la) (kI 10 h) e5 e6 e7 e8 e9 e10 e11 e12 e13 e14 e16 e17 e19 e21 e22 e23 e25 e26) (gE none (wC e0 (kT ln (hP le ln 15) (hS le ln 15)) (kI 56 le) (kG3 wk tw sf (10 * hv le ln 11 + hv le ln 12) (hv le ln 13) (hv le ln 14)) (kI 10 (cpf 10 (fun j => hv le ln (1 + j)) h)) e5 e6 e7 e8 e9 e10 e11 e12 e13 e14 e16 e17 e19 e21 e22 e23 e25 e26)) := by
  refine Ct.of (by decide) (by exact Nat.le_of_ble_eq_true rfl) ?_
  show Go mX4_readHead 2 0 [(0, .ref 1), (1, .ref 3)] [] (wC e0 (kT ln 0 0) (kI 56 le) (kG3 wk tw sf lo ri la) (kI 10 h) e5 e6 e7 e8 e9 e10 e11 e12 e13 e14 e16 e17 e19 e21 e22 e23 e25 e26) (gE none (wC e0 (kT ln (hP le ln 15) (hS le ln 15)) (kI 56 le) (kG3 wk tw sf (10 * hv le ln 11 + hv le ln 12) (hv le ln 13) (hv le ln 14)) (kI 10 (cpf 10 (fun j => hv le ln (1 + j)) h)) e5 e6 e7 e8 e9 e10 e11 e12 e13 e14 e16 e17 e19 e21 e22 e23 e25 e26))
  refine g_aload_n (i := 0) (j := 0) dX4_readHead_0 rfl rfl ?_
  refine c_V (st1 := [.int (lH le ln 0)]) (ctX4_letterHere  (by omega) (by omega)) kX4_letterHere lX4_38 (by decide) rfl rfl rfl rfl (by exact Nat.le_of_ble_eq_true rfl) dX4_readHead_1 rfl rfl ?_
  refine g_bipush (v := nI 66) dX4_readHead_4 (by decide) ?_
  refine g_icmp_ne (tgt := 22) dX4_readHead_6 (by decide) (fun h6 => ?_) (fun h6 => ?_)
  · refine g_aload_n (i := 0) (j := 0) dX4_readHead_22 rfl rfl ?_
    refine g_iconst (v := nI 1) dX4_readHead_23 (by decide) ?_
    refine n_putZ (by omega) (ws' := wC e0 (kT ln 0 1) (kI 56 le) (kG3 wk tw sf lo ri la) (kI 10 h) e5 e6 e7 e8 e9 e10 e11 e12 e13 e14 e16 e17 e19 e21 e22 e23 e25 e26) fX4_22 fp_X4_3 rfl (by exact Nat.le_of_ble_eq_true rfl) dX4_readHead_24 rfl ?_
    have h6' := fun z => h6 ((lH_eq (le := le) (ln := ln) (p := 0) (c := 66) hle (by omega)).mpr z)
    have e1 : hP le ln 1 = 0 := by
      show (if hP le ln 0 = 0 ∧ hOK le ln 0 = true then 0 + 1 else hP le ln 0) = 0
      rw [if_neg (fun z => by have z2 := z.2; unfold hOK at z2; rw [if_pos rfl] at z2; exact h6' (of_decide_eq_true z2))]; rfl
    have e2 : hS le ln 1 = 1 := by unfold hS; rw [e1]; rfl
    refine g_ws (ws' := wC e0 (kT ln (hP le ln 1) (hS le ln 1)) (kI 56 le) (kG3 wk tw sf lo ri la) (kI 10 h) e5 e6 e7 e8 e9 e10 e11 e12 e13 e14 e16 e17 e19 e21 e22 e23 e25 e26) (by rw [e1, e2]) ?_
    refine g_iconst (v := nI 0) dX4_readHead_27 (by decide) ?_
    refine g_istore_n (i := 2) (lv' := [(2, .int (nI 0)), (0, .ref 1), (1, .ref 3)]) dX4_readHead_28 rfl (by decide) rfl ?_
    refine g_lv [1, 2, 0] rfl ?_
    refine g_ws (ws' := wC e0 (kT ln (hP le ln (1 + 0)) (hS le ln (1 + 0))) (kI 56 le) (kG3 wk tw sf lo ri la) (kI 10 (cpf 0 (fun j => hv le ln (1 + j)) h)) e5 e6 e7 e8 e9 e10 e11 e12 e13 e14 e16 e17 e19 e21 e22 e23 e25 e26) (by rw [cpf_0]) ?_
    exact lp_head hln hle 10 0 (by omega)
  · refine g_aload_n (i := 0) (j := 0) dX4_readHead_9 rfl rfl ?_
    refine g_dup dX4_readHead_10 rfl ?_
    refine g_get fX4_19 rfl rfl dX4_readHead_11 ?_
    refine g_iconst (v := nI 1) dX4_readHead_14 (by decide) ?_
    refine n_iadd (a := 0) (b := 1) dX4_readHead_15 ?_
    refine n_putI (ws' := wC e0 (kT ln (0 + 1) 0) (kI 56 le) (kG3 wk tw sf lo ri la) (kI 10 h) e5 e6 e7 e8 e9 e10 e11 e12 e13 e14 e16 e17 e19 e21 e22 e23 e25 e26) fX4_19 fp_X4_2 rfl (by exact Nat.le_of_ble_eq_true rfl) dX4_readHead_16 rfl ?_
    refine g_goto (tgt := 27) dX4_readHead_19 (by decide) ?_
    have h6' := (lH_eq hle (by omega)).mp h6
    have e1 : hP le ln 1 = 1 := by
      show (if hP le ln 0 = 0 ∧ hOK le ln 0 = true then 0 + 1 else hP le ln 0) = 1
      rw [if_pos ⟨rfl, by unfold hOK; rw [if_pos rfl]; exact decide_eq_true h6'⟩]
    have e2 : hS le ln 1 = 0 := by unfold hS; rw [e1]; rfl
    refine g_ws (ws' := wC e0 (kT ln (hP le ln 1) (hS le ln 1)) (kI 56 le) (kG3 wk tw sf lo ri la) (kI 10 h) e5 e6 e7 e8 e9 e10 e11 e12 e13 e14 e16 e17 e19 e21 e22 e23 e25 e26) (by rw [e1, e2]) ?_
    refine g_iconst (v := nI 0) dX4_readHead_27 (by decide) ?_
    refine g_istore_n (i := 2) (lv' := [(2, .int (nI 0)), (0, .ref 1), (1, .ref 3)]) dX4_readHead_28 rfl (by decide) rfl ?_
    refine g_lv [1, 2, 0] rfl ?_
    refine g_ws (ws' := wC e0 (kT ln (hP le ln (1 + 0)) (hS le ln (1 + 0))) (kI 56 le) (kG3 wk tw sf lo ri la) (kI 10 (cpf 0 (fun j => hv le ln (1 + j)) h)) e5 e6 e7 e8 e9 e10 e11 e12 e13 e14 e16 e17 e19 e21 e22 e23 e25 e26) (by rw [cpf_0]) ?_
    exact lp_head hln hle 10 0 (by omega)

theorem ctX4_readWalker {e0 e4 e5 e6 e9 e10 e11 e12 e13 e14 e16 e17 e19 e21 e22 e23 e25 e26 : va_E} {pa wa : Nat → Nat} {wk tw sf lo ri la : Nat} {p : Nat} {le : Nat → Nat} {ln : Nat} (hln : ln ≤ 56) (hle : ∀ k, le k ≤ 255) (hp : p ≤ 55) (hw : wk < 5) : Ct mX4_readWalker 2 [.ref 1, .ref 3] (wC e0 (kT ln p 0) (kI 56 le) (kG3 wk tw sf lo ri la) e4 e5 e6 (kI 5 pa) (kI 5 wa) e9 e10 e11 e12 e13 e14 e16 e17 e19 e21 e22 e23 e25 e26) (gE none (if dg le ln (p + 1) 1 3 then (if dg le ln (p + 2) 0 5 then wC e0 (kT ln (p + 3) 0) (kI 56 le) (kG3 (wk + 1) tw sf lo ri la) e4 e5 e6 (kI 5 (va_up pa wk (le (p + 1) - 48))) (kI 5 (va_up wa wk (le (p + 2) - 48))) e9 e10 e11 e12 e13 e14 e16 e17 e19 e21 e22 e23 e25 e26 else wC e0 (kT ln (p + 2) 1) (kI 56 le) (kG3 wk tw sf lo ri la) e4 e5 e6 (kI 5 pa) (kI 5 wa) e9 e10 e11 e12 e13 e14 e16 e17 e19 e21 e22 e23 e25 e26) else wC e0 (kT ln (p + 1) 1) (kI 56 le) (kG3 wk tw sf lo ri la) e4 e5 e6 (kI 5 pa) (kI 5 wa) e9 e10 e11 e12 e13 e14 e16 e17 e19 e21 e22 e23 e25 e26)) := by
  refine Ct.of (by decide) (by exact Nat.le_of_ble_eq_true rfl) ?_
  show Go mX4_readWalker 2 0 [(0, .ref 1), (1, .ref 3)] [] (wC e0 (kT ln p 0) (kI 56 le) (kG3 wk tw sf lo ri la) e4 e5 e6 (kI 5 pa) (kI 5 wa) e9 e10 e11 e12 e13 e14 e16 e17 e19 e21 e22 e23 e25 e26) (gE none (if dg le ln (p + 1) 1 3 then (if dg le ln (p + 2) 0 5 then wC e0 (kT ln (p + 3) 0) (kI 56 le) (kG3 (wk + 1) tw sf lo ri la) e4 e5 e6 (kI 5 (va_up pa wk (le (p + 1) - 48))) (kI 5 (va_up wa wk (le (p + 2) - 48))) e9 e10 e11 e12 e13 e14 e16 e17 e19 e21 e22 e23 e25 e26 else wC e0 (kT ln (p + 2) 1) (kI 56 le) (kG3 wk tw sf lo ri la) e4 e5 e6 (kI 5 pa) (kI 5 wa) e9 e10 e11 e12 e13 e14 e16 e17 e19 e21 e22 e23 e25 e26) else wC e0 (kT ln (p + 1) 1) (kI 56 le) (kG3 wk tw sf lo ri la) e4 e5 e6 (kI 5 pa) (kI 5 wa) e9 e10 e11 e12 e13 e14 e16 e17 e19 e21 e22 e23 e25 e26))
  refine g_aload_n (i := 0) (j := 0) dX4_readWalker_0 rfl rfl ?_
  refine g_dup dX4_readWalker_1 rfl ?_
  refine g_get fX4_19 rfl rfl dX4_readWalker_2 ?_
  refine g_iconst (v := nI 1) dX4_readWalker_5 (by decide) ?_
  refine n_iadd (a := p) (b := 1) dX4_readWalker_6 ?_
  refine n_putI (ws' := wC e0 (kT ln (p + 1) 0) (kI 56 le) (kG3 wk tw sf lo ri la) e4 e5 e6 (kI 5 pa) (kI 5 wa) e9 e10 e11 e12 e13 e14 e16 e17 e19 e21 e22 e23 e25 e26) fX4_19 fp_X4_2 rfl (by exact Nat.le_of_ble_eq_true rfl) dX4_readWalker_7 rfl ?_
  refine g_aload_n (i := 0) (j := 0) dX4_readWalker_10 rfl rfl ?_
  refine g_iconst (v := nI 1) dX4_readWalker_11 (by decide) ?_
  refine g_iconst (v := nI 3) dX4_readWalker_12 (by decide) ?_
  by_cases c1 : dg le ln (p + 1) 1 3
  · skip
    refine c_V (st1 := [.int (nI (le (p + 1) - 48))]) (ctX4_figure_y (lo := 1) (hi := 3) hln (by omega) (by omega) (by omega) hle (by assumption)) kX4_figure lX4_42 (by decide) rfl rfl rfl rfl (by exact Nat.le_of_ble_eq_true rfl) dX4_readWalker_13 rfl rfl ?_
    refine g_istore_n (i := 2) (lv' := [(2, .int (nI (le (p + 1) - 48))), (0, .ref 1), (1, .ref 3)]) dX4_readWalker_16 rfl (by decide) rfl ?_
    refine g_aload_n (i := 0) (j := 1) dX4_readWalker_17 rfl rfl ?_
    refine g_iconst (v := nI 0) dX4_readWalker_18 (by decide) ?_
    refine g_iconst (v := nI 5) dX4_readWalker_19 (by decide) ?_
    by_cases c2 : dg le ln (p + 1 + 1) 0 5
    · skip
      refine c_V (st1 := [.int (nI (le ((p + 1) + 1) - 48))]) (ctX4_figure_y (lo := 0) (hi := 5) hln (by omega) (by omega) (by omega) hle (by assumption)) kX4_figure lX4_42 (by decide) rfl rfl rfl rfl (by exact Nat.le_of_ble_eq_true rfl) dX4_readWalker_20 rfl rfl ?_
      refine g_istore_n (i := 3) (lv' := [(3, .int (nI (le ((p + 1) + 1) - 48))), (2, .int (nI (le (p + 1) - 48))), (0, .ref 1), (1, .ref 3)]) dX4_readWalker_23 rfl (by decide) rfl ?_
      refine g_aload_n (i := 0) (j := 2) dX4_readWalker_24 rfl rfl ?_
      refine g_get fX4_22 rfl rfl dX4_readWalker_25 ?_
      refine n_if_ne (tgt := 37) (rng_lit 0 rfl) dX4_readWalker_28 (by decide) (fun h28 => ?_) (fun h28 => ?_)
      · exact absurd h28 (by decide)
      · refine g_aload_n (i := 1) (j := 3) dX4_readWalker_31 rfl rfl ?_
        refine g_iload_n (i := 2) (j := 1) dX4_readWalker_32 rfl rfl ?_
        refine g_iload_n (i := 3) (j := 0) dX4_readWalker_33 rfl rfl ?_
        refine c_V (st1 := []) (ctX1_addWalker (x := le (p + 1) - 48) (y := le ((p + 1) + 1) - 48) (by omega)) kX1_addWalker lX4_77 (by decide) rfl rfl rfl rfl (by exact Nat.le_of_ble_eq_true rfl) dX4_readWalker_34 rfl rfl ?_
        refine g_vret rfl dX4_readWalker_37 ?_
        exact gE_i rfl (by first | rw [if_neg c1] | rw [if_pos c1, if_neg c2] | rw [if_pos c1, if_pos c2])
    · skip
      refine c_V (st1 := [.int (nI 0)]) (ctX4_figure_n (lo := 0) (hi := 5) hln (by omega) (by omega) (by omega) (by omega) hle (fun z => by first | exact absurd z.2 (by omega) | exact absurd z.1 (by assumption))) kX4_figure lX4_42 (by decide) rfl rfl rfl rfl (by exact Nat.le_of_ble_eq_true rfl) dX4_readWalker_20 rfl rfl ?_
      refine g_istore_n (i := 3) (lv' := [(3, .int (nI 0)), (2, .int (nI (le (p + 1) - 48))), (0, .ref 1), (1, .ref 3)]) dX4_readWalker_23 rfl (by decide) rfl ?_
      refine g_aload_n (i := 0) (j := 2) dX4_readWalker_24 rfl rfl ?_
      refine g_get fX4_22 rfl rfl dX4_readWalker_25 ?_
      refine n_if_ne (tgt := 37) (rng_lit 1 rfl) dX4_readWalker_28 (by decide) (fun h28 => ?_) (fun h28 => ?_)
      · refine g_vret rfl dX4_readWalker_37 ?_
        exact gE_i rfl (by first | rw [if_neg c1] | rw [if_pos c1, if_neg c2] | rw [if_pos c1, if_pos c2])
      · exact absurd h28 (by decide)
  · skip
    refine c_V (st1 := [.int (nI 1)]) (ctX4_figure_n (lo := 1) (hi := 3) hln (by omega) (by omega) (by omega) (by omega) hle (fun z => by first | exact absurd z.2 (by omega) | exact absurd z.1 (by assumption))) kX4_figure lX4_42 (by decide) rfl rfl rfl rfl (by exact Nat.le_of_ble_eq_true rfl) dX4_readWalker_13 rfl rfl ?_
    refine g_istore_n (i := 2) (lv' := [(2, .int (nI 1)), (0, .ref 1), (1, .ref 3)]) dX4_readWalker_16 rfl (by decide) rfl ?_
    refine g_aload_n (i := 0) (j := 1) dX4_readWalker_17 rfl rfl ?_
    refine g_iconst (v := nI 0) dX4_readWalker_18 (by decide) ?_
    refine g_iconst (v := nI 5) dX4_readWalker_19 (by decide) ?_
    refine c_V (st1 := [.int (nI 0)]) (ctX4_figure_n (lo := 0) (hi := 5) hln (by omega) (by omega) (by omega) (by omega) hle (fun z => by first | exact absurd z.2 (by omega) | exact absurd z.1 (by assumption))) kX4_figure lX4_42 (by decide) rfl rfl rfl rfl (by exact Nat.le_of_ble_eq_true rfl) dX4_readWalker_20 rfl rfl ?_
    refine g_istore_n (i := 3) (lv' := [(3, .int (nI 0)), (2, .int (nI 1)), (0, .ref 1), (1, .ref 3)]) dX4_readWalker_23 rfl (by decide) rfl ?_
    refine g_aload_n (i := 0) (j := 2) dX4_readWalker_24 rfl rfl ?_
    refine g_get fX4_22 rfl rfl dX4_readWalker_25 ?_
    refine n_if_ne (tgt := 37) (rng_lit 1 rfl) dX4_readWalker_28 (by decide) (fun h28 => ?_) (fun h28 => ?_)
    · refine g_vret rfl dX4_readWalker_37 ?_
      exact gE_i rfl (by first | rw [if_neg c1] | rw [if_pos c1, if_neg c2] | rw [if_pos c1, if_pos c2])
    · exact absurd h28 (by decide)

theorem ctX4_readTower {e0 e4 e5 e7 e8 e9 e10 e11 e12 e13 e14 e16 e17 e19 e21 e22 e23 e25 e26 : va_E} {ho : Nat → Nat} {wk tw sf lo ri la : Nat} {p : Nat} {le : Nat → Nat} {ln : Nat} (hln : ln ≤ 56) (hle : ∀ k, le k ≤ 255) (hp : p ≤ 55) (hw : tw < 2) (hho : ∀ k, ho k ≤ 207) : Ct mX4_readTower 2 [.ref 1, .ref 3] (wC e0 (kT ln p 0) (kI 56 le) (kG3 wk tw sf lo ri la) e4 e5 (kI 10 ho) e7 e8 e9 e10 e11 e12 e13 e14 e16 e17 e19 e21 e22 e23 e25 e26) (gE none (if dg le ln (p + 1) 1 8 ∧ ho (le (p + 1) - 48) = 0 then (if dg le ln (p + 2) 1 4 then wC e0 (kT ln (p + 3) 0) (kI 56 le) (kG3 wk (tw + 1) sf lo ri la) e4 e5 (kI 10 (va_up ho (le (p + 1) - 48) (le (p + 2) - 48))) e7 e8 e9 e10 e11 e12 e13 e14 e16 e17 e19 e21 e22 e23 e25 e26 else wC e0 (kT ln (p + 2) 1) (kI 56 le) (kG3 wk tw sf lo ri la) e4 e5 (kI 10 ho) e7 e8 e9 e10 e11 e12 e13 e14 e16 e17 e19 e21 e22 e23 e25 e26) else wC e0 (kT ln (p + 1) 1) (kI 56 le) (kG3 wk tw sf lo ri la) e4 e5 (kI 10 ho) e7 e8 e9 e10 e11 e12 e13 e14 e16 e17 e19 e21 e22 e23 e25 e26)) := by
  refine Ct.of (by decide) (by exact Nat.le_of_ble_eq_true rfl) ?_
  show Go mX4_readTower 2 0 [(0, .ref 1), (1, .ref 3)] [] (wC e0 (kT ln p 0) (kI 56 le) (kG3 wk tw sf lo ri la) e4 e5 (kI 10 ho) e7 e8 e9 e10 e11 e12 e13 e14 e16 e17 e19 e21 e22 e23 e25 e26) (gE none (if dg le ln (p + 1) 1 8 ∧ ho (le (p + 1) - 48) = 0 then (if dg le ln (p + 2) 1 4 then wC e0 (kT ln (p + 3) 0) (kI 56 le) (kG3 wk (tw + 1) sf lo ri la) e4 e5 (kI 10 (va_up ho (le (p + 1) - 48) (le (p + 2) - 48))) e7 e8 e9 e10 e11 e12 e13 e14 e16 e17 e19 e21 e22 e23 e25 e26 else wC e0 (kT ln (p + 2) 1) (kI 56 le) (kG3 wk tw sf lo ri la) e4 e5 (kI 10 ho) e7 e8 e9 e10 e11 e12 e13 e14 e16 e17 e19 e21 e22 e23 e25 e26) else wC e0 (kT ln (p + 1) 1) (kI 56 le) (kG3 wk tw sf lo ri la) e4 e5 (kI 10 ho) e7 e8 e9 e10 e11 e12 e13 e14 e16 e17 e19 e21 e22 e23 e25 e26))
  refine g_aload_n (i := 0) (j := 0) dX4_readTower_0 rfl rfl ?_
  refine g_dup dX4_readTower_1 rfl ?_
  refine g_get fX4_19 rfl rfl dX4_readTower_2 ?_
  refine g_iconst (v := nI 1) dX4_readTower_5 (by decide) ?_
  refine n_iadd (a := p) (b := 1) dX4_readTower_6 ?_
  refine n_putI (ws' := wC e0 (kT ln (p + 1) 0) (kI 56 le) (kG3 wk tw sf lo ri la) e4 e5 (kI 10 ho) e7 e8 e9 e10 e11 e12 e13 e14 e16 e17 e19 e21 e22 e23 e25 e26) fX4_19 fp_X4_2 rfl (by exact Nat.le_of_ble_eq_true rfl) dX4_readTower_7 rfl ?_
  refine g_aload_n (i := 1) (j := 1) dX4_readTower_10 rfl rfl ?_
  refine g_aload_n (i := 0) (j := 0) dX4_readTower_11 rfl rfl ?_
  refine c_V (st1 := [.int (lH le ln (p + 1)), .ref 3]) (ctX4_letterHere  (by omega) (by omega)) kX4_letterHere lX4_38 (by decide) rfl rfl rfl rfl (by exact Nat.le_of_ble_eq_true rfl) dX4_readTower_12 rfl rfl ?_
  refine g_bipush (v := nI 48) dX4_readTower_15 (by decide) ?_
  refine g_isub dX4_readTower_17 ?_
  refine c_V (st1 := [.int (nI (hR ho ((lH le ln (p + 1)) - (nI 48))))]) (ctX1_holdOf_r3 (x := ((lH le ln (p + 1)) - (nI 48))) ) kX1_holdOf lX4_80 (by decide) rfl rfl rfl rfl (by exact Nat.le_of_ble_eq_true rfl) dX4_readTower_18 rfl rfl ?_
  have qq := hR_eq (le := le) (f := ho) (ln := ln) (p := p + 1) hle
  have qb : hR ho (lH le ln (p + 1) - nI 48) ≤ 207 := by
    rw [qq]
    split
    · exact hho _
    · omega
  refine n_if_le (tgt := 29) (by omega) dX4_readTower_21 (by decide) (fun h21 => ?_) (fun h21 => ?_)
  · refine g_aload_n (i := 0) (j := 0) dX4_readTower_29 rfl rfl ?_
    refine g_iconst (v := nI 1) dX4_readTower_30 (by decide) ?_
    refine g_bipush (v := nI 8) dX4_readTower_31 (by decide) ?_
    by_cases c1 : dg le ln (p + 1) 1 8
    · skip
      refine c_V (st1 := [.int (nI (le (p + 1) - 48))]) (ctX4_figure_y (lo := 1) (hi := 8) hln (by omega) (by omega) (by omega) hle (by assumption)) kX4_figure lX4_42 (by decide) rfl rfl rfl rfl (by exact Nat.le_of_ble_eq_true rfl) dX4_readTower_33 rfl rfl ?_
      refine g_istore_n (i := 2) (lv' := [(2, .int (nI (le (p + 1) - 48))), (0, .ref 1), (1, .ref 3)]) dX4_readTower_36 rfl (by decide) rfl ?_
      refine g_aload_n (i := 0) (j := 1) dX4_readTower_37 rfl rfl ?_
      refine g_iconst (v := nI 1) dX4_readTower_38 (by decide) ?_
      refine g_iconst (v := nI 4) dX4_readTower_39 (by decide) ?_
      by_cases c2 : dg le ln (p + 1 + 1) 1 4
      · skip
        refine c_V (st1 := [.int (nI (le ((p + 1) + 1) - 48))]) (ctX4_figure_y (lo := 1) (hi := 4) hln (by omega) (by omega) (by omega) hle (by assumption)) kX4_figure lX4_42 (by decide) rfl rfl rfl rfl (by exact Nat.le_of_ble_eq_true rfl) dX4_readTower_40 rfl rfl ?_
        refine g_istore_n (i := 3) (lv' := [(3, .int (nI (le ((p + 1) + 1) - 48))), (2, .int (nI (le (p + 1) - 48))), (0, .ref 1), (1, .ref 3)]) dX4_readTower_43 rfl (by decide) rfl ?_
        refine g_aload_n (i := 0) (j := 2) dX4_readTower_44 rfl rfl ?_
        refine g_get fX4_22 rfl rfl dX4_readTower_45 ?_
        refine n_if_ne (tgt := 57) (rng_lit 0 rfl) dX4_readTower_48 (by decide) (fun h48 => ?_) (fun h48 => ?_)
        · exact absurd h48 (by decide)
        · refine g_aload_n (i := 1) (j := 3) dX4_readTower_51 rfl rfl ?_
          refine g_iload_n (i := 2) (j := 1) dX4_readTower_52 rfl rfl ?_
          refine g_iload_n (i := 3) (j := 0) dX4_readTower_53 rfl rfl ?_
          refine c_V (st1 := []) (ctX1_addTower (c := le (p + 1) - 48) (x := le ((p + 1) + 1) - 48) (by have := c1.2.2; omega)) kX1_addTower lX4_84 (by decide) rfl rfl rfl rfl (by exact Nat.le_of_ble_eq_true rfl) dX4_readTower_54 rfl rfl ?_
          refine g_vret rfl dX4_readTower_57 ?_
          have z0_ : ho (le (p + 1) - 48) = 0 := by
            rw [if_pos ⟨c1.1, by have := c1.2.1; omega, by have := c1.2.2; omega⟩] at qq
            omega
          exact gE_i rfl (by first | rw [if_pos ⟨c1, z0_⟩, if_neg c2] | rw [if_pos ⟨c1, z0_⟩, if_pos c2] | rw [if_pos ⟨c1, z0_⟩])
      · skip
        refine c_V (st1 := [.int (nI 1)]) (ctX4_figure_n (lo := 1) (hi := 4) hln (by omega) (by omega) (by omega) (by omega) hle (fun z => by first | exact absurd z.2 (by omega) | exact absurd z.1 (by assumption))) kX4_figure lX4_42 (by decide) rfl rfl rfl rfl (by exact Nat.le_of_ble_eq_true rfl) dX4_readTower_40 rfl rfl ?_
        refine g_istore_n (i := 3) (lv' := [(3, .int (nI 1)), (2, .int (nI (le (p + 1) - 48))), (0, .ref 1), (1, .ref 3)]) dX4_readTower_43 rfl (by decide) rfl ?_
        refine g_aload_n (i := 0) (j := 2) dX4_readTower_44 rfl rfl ?_
        refine g_get fX4_22 rfl rfl dX4_readTower_45 ?_
        refine n_if_ne (tgt := 57) (rng_lit 1 rfl) dX4_readTower_48 (by decide) (fun h48 => ?_) (fun h48 => ?_)
        · refine g_vret rfl dX4_readTower_57 ?_
          have z0_ : ho (le (p + 1) - 48) = 0 := by
            rw [if_pos ⟨c1.1, by have := c1.2.1; omega, by have := c1.2.2; omega⟩] at qq
            omega
          exact gE_i rfl (by first | rw [if_pos ⟨c1, z0_⟩, if_neg c2] | rw [if_pos ⟨c1, z0_⟩, if_pos c2] | rw [if_pos ⟨c1, z0_⟩])
        · exact absurd h48 (by decide)
    · skip
      refine c_V (st1 := [.int (nI 1)]) (ctX4_figure_n (lo := 1) (hi := 8) hln (by omega) (by omega) (by omega) (by omega) hle (fun z => by first | exact absurd z.2 (by omega) | exact absurd z.1 (by assumption))) kX4_figure lX4_42 (by decide) rfl rfl rfl rfl (by exact Nat.le_of_ble_eq_true rfl) dX4_readTower_33 rfl rfl ?_
      refine g_istore_n (i := 2) (lv' := [(2, .int (nI 1)), (0, .ref 1), (1, .ref 3)]) dX4_readTower_36 rfl (by decide) rfl ?_
      refine g_aload_n (i := 0) (j := 1) dX4_readTower_37 rfl rfl ?_
      refine g_iconst (v := nI 1) dX4_readTower_38 (by decide) ?_
      refine g_iconst (v := nI 4) dX4_readTower_39 (by decide) ?_
      refine c_V (st1 := [.int (nI 1)]) (ctX4_figure_n (lo := 1) (hi := 4) hln (by omega) (by omega) (by omega) (by omega) hle (fun z => by first | exact absurd z.2 (by omega) | exact absurd z.1 (by assumption))) kX4_figure lX4_42 (by decide) rfl rfl rfl rfl (by exact Nat.le_of_ble_eq_true rfl) dX4_readTower_40 rfl rfl ?_
      refine g_istore_n (i := 3) (lv' := [(3, .int (nI 1)), (2, .int (nI 1)), (0, .ref 1), (1, .ref 3)]) dX4_readTower_43 rfl (by decide) rfl ?_
      refine g_aload_n (i := 0) (j := 2) dX4_readTower_44 rfl rfl ?_
      refine g_get fX4_22 rfl rfl dX4_readTower_45 ?_
      refine n_if_ne (tgt := 57) (rng_lit 1 rfl) dX4_readTower_48 (by decide) (fun h48 => ?_) (fun h48 => ?_)
      · refine g_vret rfl dX4_readTower_57 ?_
        refine gE_i rfl ?_
        rw [if_neg (fun z => by
          obtain ⟨z1, z2⟩ := z
          first | exact c1 z1 | (rw [if_pos ⟨z1.1, by have := z1.2.1; omega, by have := z1.2.2; omega⟩] at qq; omega))]
      · exact absurd h48 (by decide)
  · refine g_aload_n (i := 0) (j := 0) dX4_readTower_24 rfl rfl ?_
    refine g_iconst (v := nI 1) dX4_readTower_25 (by decide) ?_
    refine n_putZ (by omega) (ws' := wC e0 (kT ln (p + 1) 1) (kI 56 le) (kG3 wk tw sf lo ri la) e4 e5 (kI 10 ho) e7 e8 e9 e10 e11 e12 e13 e14 e16 e17 e19 e21 e22 e23 e25 e26) fX4_22 fp_X4_3 rfl (by exact Nat.le_of_ble_eq_true rfl) dX4_readTower_26 rfl ?_
    refine g_aload_n (i := 0) (j := 0) dX4_readTower_29 rfl rfl ?_
    refine g_iconst (v := nI 1) dX4_readTower_30 (by decide) ?_
    refine g_bipush (v := nI 8) dX4_readTower_31 (by decide) ?_
    refine c_V (st1 := [.int (nI 1)]) (ctX4_figure_n (lo := 1) (hi := 8) hln (by omega) (by omega) (by omega) (by omega) hle (fun z => by first | exact absurd z.2 (by omega) | exact absurd z.1 (by assumption))) kX4_figure lX4_42 (by decide) rfl rfl rfl rfl (by exact Nat.le_of_ble_eq_true rfl) dX4_readTower_33 rfl rfl ?_
    refine g_istore_n (i := 2) (lv' := [(2, .int (nI 1)), (0, .ref 1), (1, .ref 3)]) dX4_readTower_36 rfl (by decide) rfl ?_
    refine g_aload_n (i := 0) (j := 1) dX4_readTower_37 rfl rfl ?_
    refine g_iconst (v := nI 1) dX4_readTower_38 (by decide) ?_
    refine g_iconst (v := nI 4) dX4_readTower_39 (by decide) ?_
    refine c_V (st1 := [.int (nI 1)]) (ctX4_figure_n (lo := 1) (hi := 4) hln (by omega) (by omega) (by omega) (by omega) hle (fun z => by first | exact absurd z.2 (by omega) | exact absurd z.1 (by assumption))) kX4_figure lX4_42 (by decide) rfl rfl rfl rfl (by exact Nat.le_of_ble_eq_true rfl) dX4_readTower_40 rfl rfl ?_
    refine g_istore_n (i := 3) (lv' := [(3, .int (nI 1)), (2, .int (nI 1)), (0, .ref 1), (1, .ref 3)]) dX4_readTower_43 rfl (by decide) rfl ?_
    refine g_aload_n (i := 0) (j := 2) dX4_readTower_44 rfl rfl ?_
    refine g_get fX4_22 rfl rfl dX4_readTower_45 ?_
    refine n_if_ne (tgt := 57) (rng_lit 1 rfl) dX4_readTower_48 (by decide) (fun h48 => ?_) (fun h48 => ?_)
    · refine g_vret rfl dX4_readTower_57 ?_
      refine gE_i rfl ?_
      rw [if_neg (fun z => by
        obtain ⟨z1, z2⟩ := z
        first | exact c1 z1 | (rw [if_pos ⟨z1.1, by have := z1.2.1; omega, by have := z1.2.2; omega⟩] at qq; omega))]
    · exact absurd h48 (by decide)

theorem ctX4_readSoft {e0 e4 e6 e7 e8 e9 e10 e11 e12 e13 e14 e16 e17 e19 e21 e22 e23 e25 e26 : va_E} {so : Nat → Nat} {wk tw sf lo ri la : Nat} {p : Nat} {le : Nat → Nat} {ln : Nat} (hln : ln ≤ 56) (hle : ∀ k, le k ≤ 255) (hp : p ≤ 55) (hw : sf < 8) (hso : ∀ k, so k ≤ 1) : Ct mX4_readSoft 2 [.ref 1, .ref 3] (wC e0 (kT ln p 0) (kI 56 le) (kG3 wk tw sf lo ri la) e4 (kZ 10 so) e6 e7 e8 e9 e10 e11 e12 e13 e14 e16 e17 e19 e21 e22 e23 e25 e26) (gE none (if dg le ln (p + 1) 1 8 ∧ so (le (p + 1) - 48) = 0 then wC e0 (kT ln (p + 2) 0) (kI 56 le) (kG3 wk tw (sf + 1) lo ri la) e4 (kZ 10 (va_up so (le (p + 1) - 48) 1)) e6 e7 e8 e9 e10 e11 e12 e13 e14 e16 e17 e19 e21 e22 e23 e25 e26 else wC e0 (kT ln (p + 1) 1) (kI 56 le) (kG3 wk tw sf lo ri la) e4 (kZ 10 so) e6 e7 e8 e9 e10 e11 e12 e13 e14 e16 e17 e19 e21 e22 e23 e25 e26)) := by
  refine Ct.of (by decide) (by exact Nat.le_of_ble_eq_true rfl) ?_
  show Go mX4_readSoft 2 0 [(0, .ref 1), (1, .ref 3)] [] (wC e0 (kT ln p 0) (kI 56 le) (kG3 wk tw sf lo ri la) e4 (kZ 10 so) e6 e7 e8 e9 e10 e11 e12 e13 e14 e16 e17 e19 e21 e22 e23 e25 e26) (gE none (if dg le ln (p + 1) 1 8 ∧ so (le (p + 1) - 48) = 0 then wC e0 (kT ln (p + 2) 0) (kI 56 le) (kG3 wk tw (sf + 1) lo ri la) e4 (kZ 10 (va_up so (le (p + 1) - 48) 1)) e6 e7 e8 e9 e10 e11 e12 e13 e14 e16 e17 e19 e21 e22 e23 e25 e26 else wC e0 (kT ln (p + 1) 1) (kI 56 le) (kG3 wk tw sf lo ri la) e4 (kZ 10 so) e6 e7 e8 e9 e10 e11 e12 e13 e14 e16 e17 e19 e21 e22 e23 e25 e26))
  refine g_aload_n (i := 0) (j := 0) dX4_readSoft_0 rfl rfl ?_
  refine g_dup dX4_readSoft_1 rfl ?_
  refine g_get fX4_19 rfl rfl dX4_readSoft_2 ?_
  refine g_iconst (v := nI 1) dX4_readSoft_5 (by decide) ?_
  refine n_iadd (a := p) (b := 1) dX4_readSoft_6 ?_
  refine n_putI (ws' := wC e0 (kT ln (p + 1) 0) (kI 56 le) (kG3 wk tw sf lo ri la) e4 (kZ 10 so) e6 e7 e8 e9 e10 e11 e12 e13 e14 e16 e17 e19 e21 e22 e23 e25 e26) fX4_19 fp_X4_2 rfl (by exact Nat.le_of_ble_eq_true rfl) dX4_readSoft_7 rfl ?_
  refine g_aload_n (i := 1) (j := 1) dX4_readSoft_10 rfl rfl ?_
  refine g_aload_n (i := 0) (j := 0) dX4_readSoft_11 rfl rfl ?_
  refine c_V (st1 := [.int (lH le ln (p + 1)), .ref 3]) (ctX4_letterHere  (by omega) (by omega)) kX4_letterHere lX4_38 (by decide) rfl rfl rfl rfl (by exact Nat.le_of_ble_eq_true rfl) dX4_readSoft_12 rfl rfl ?_
  refine g_bipush (v := nI 48) dX4_readSoft_15 (by decide) ?_
  refine g_isub dX4_readSoft_17 ?_
  refine c_V (st1 := [.int (nI (hR so ((lH le ln (p + 1)) - (nI 48))))]) (ctX1_isSoft_r3 (x := ((lH le ln (p + 1)) - (nI 48))) hso) kX1_isSoft lX4_87 (by decide) rfl rfl rfl rfl (by exact Nat.le_of_ble_eq_true rfl) dX4_readSoft_18 rfl rfl ?_
  have qq := hR_eq (le := le) (f := so) (ln := ln) (p := p + 1) hle
  have qb : hR so (lH le ln (p + 1) - nI 48) ≤ 207 := by
    rw [qq]
    split
    · exact Nat.le_trans (hso _) (by omega)
    · omega
  refine n_if_eq (tgt := 29) (by omega) dX4_readSoft_21 (by decide) (fun h21 => ?_) (fun h21 => ?_)
  · refine g_aload_n (i := 0) (j := 0) dX4_readSoft_29 rfl rfl ?_
    refine g_iconst (v := nI 1) dX4_readSoft_30 (by decide) ?_
    refine g_bipush (v := nI 8) dX4_readSoft_31 (by decide) ?_
    by_cases c1 : dg le ln (p + 1) 1 8
    · skip
      refine c_V (st1 := [.int (nI (le (p + 1) - 48))]) (ctX4_figure_y (lo := 1) (hi := 8) hln (by omega) (by omega) (by omega) hle (by assumption)) kX4_figure lX4_42 (by decide) rfl rfl rfl rfl (by exact Nat.le_of_ble_eq_true rfl) dX4_readSoft_33 rfl rfl ?_
      refine g_istore_n (i := 2) (lv' := [(2, .int (nI (le (p + 1) - 48))), (0, .ref 1), (1, .ref 3)]) dX4_readSoft_36 rfl (by decide) rfl ?_
      refine g_aload_n (i := 0) (j := 1) dX4_readSoft_37 rfl rfl ?_
      refine g_get fX4_22 rfl rfl dX4_readSoft_38 ?_
      refine n_if_ne (tgt := 49) (rng_lit 0 rfl) dX4_readSoft_41 (by decide) (fun h41 => ?_) (fun h41 => ?_)
      · exact absurd h41 (by decide)
      · refine g_aload_n (i := 1) (j := 2) dX4_readSoft_44 rfl rfl ?_
        refine g_iload_n (i := 2) (j := 0) dX4_readSoft_45 rfl rfl ?_
        refine c_V (st1 := []) (ctX1_addSoft (c := le (p + 1) - 48) (by have := c1.2.2; omega)) kX1_addSoft lX4_91 (by decide) rfl rfl rfl rfl (by exact Nat.le_of_ble_eq_true rfl) dX4_readSoft_46 rfl rfl ?_
        refine g_vret rfl dX4_readSoft_49 ?_
        have z0_ : so (le (p + 1) - 48) = 0 := by
          rw [if_pos ⟨c1.1, by have := c1.2.1; omega, by have := c1.2.2; omega⟩] at qq
          omega
        exact gE_i rfl (by first | rw [if_pos ⟨c1, z0_⟩, if_neg c2] | rw [if_pos ⟨c1, z0_⟩, if_pos c2] | rw [if_pos ⟨c1, z0_⟩])
    · skip
      refine c_V (st1 := [.int (nI 1)]) (ctX4_figure_n (lo := 1) (hi := 8) hln (by omega) (by omega) (by omega) (by omega) hle (fun z => by first | exact absurd z.2 (by omega) | exact absurd z.1 (by assumption))) kX4_figure lX4_42 (by decide) rfl rfl rfl rfl (by exact Nat.le_of_ble_eq_true rfl) dX4_readSoft_33 rfl rfl ?_
      refine g_istore_n (i := 2) (lv' := [(2, .int (nI 1)), (0, .ref 1), (1, .ref 3)]) dX4_readSoft_36 rfl (by decide) rfl ?_
      refine g_aload_n (i := 0) (j := 1) dX4_readSoft_37 rfl rfl ?_
      refine g_get fX4_22 rfl rfl dX4_readSoft_38 ?_
      refine n_if_ne (tgt := 49) (rng_lit 1 rfl) dX4_readSoft_41 (by decide) (fun h41 => ?_) (fun h41 => ?_)
      · refine g_vret rfl dX4_readSoft_49 ?_
        refine gE_i rfl ?_
        rw [if_neg (fun z => by
          obtain ⟨z1, z2⟩ := z
          first | exact c1 z1 | (rw [if_pos ⟨z1.1, by have := z1.2.1; omega, by have := z1.2.2; omega⟩] at qq; omega))]
      · exact absurd h41 (by decide)
  · refine g_aload_n (i := 0) (j := 0) dX4_readSoft_24 rfl rfl ?_
    refine g_iconst (v := nI 1) dX4_readSoft_25 (by decide) ?_
    refine n_putZ (by omega) (ws' := wC e0 (kT ln (p + 1) 1) (kI 56 le) (kG3 wk tw sf lo ri la) e4 (kZ 10 so) e6 e7 e8 e9 e10 e11 e12 e13 e14 e16 e17 e19 e21 e22 e23 e25 e26) fX4_22 fp_X4_3 rfl (by exact Nat.le_of_ble_eq_true rfl) dX4_readSoft_26 rfl ?_
    refine g_aload_n (i := 0) (j := 0) dX4_readSoft_29 rfl rfl ?_
    refine g_iconst (v := nI 1) dX4_readSoft_30 (by decide) ?_
    refine g_bipush (v := nI 8) dX4_readSoft_31 (by decide) ?_
    refine c_V (st1 := [.int (nI 1)]) (ctX4_figure_n (lo := 1) (hi := 8) hln (by omega) (by omega) (by omega) (by omega) hle (fun z => by first | exact absurd z.2 (by omega) | exact absurd z.1 (by assumption))) kX4_figure lX4_42 (by decide) rfl rfl rfl rfl (by exact Nat.le_of_ble_eq_true rfl) dX4_readSoft_33 rfl rfl ?_
    refine g_istore_n (i := 2) (lv' := [(2, .int (nI 1)), (0, .ref 1), (1, .ref 3)]) dX4_readSoft_36 rfl (by decide) rfl ?_
    refine g_aload_n (i := 0) (j := 1) dX4_readSoft_37 rfl rfl ?_
    refine g_get fX4_22 rfl rfl dX4_readSoft_38 ?_
    refine n_if_ne (tgt := 49) (rng_lit 1 rfl) dX4_readSoft_41 (by decide) (fun h41 => ?_) (fun h41 => ?_)
    · refine g_vret rfl dX4_readSoft_49 ?_
      refine gE_i rfl ?_
      rw [if_neg (fun z => by
        obtain ⟨z1, z2⟩ := z
        first | exact c1 z1 | (rw [if_pos ⟨z1.1, by have := z1.2.1; omega, by have := z1.2.2; omega⟩] at qq; omega))]
    · exact absurd h41 (by decide)

theorem lp_head_9 {e0 e3 e4 e5 e6 e7 e8 e11 e12 e13 e14 e16 e17 e19 e21 e22 e23 e25 e26 : va_E} {h : Nat → Nat} {wk tw sf lo ri la : Nat} {le : Nat → Nat} {ln : Nat} (hln : ln ≤ 56) (hle : ∀ k, le k ≤ 255) : ∀ (n i : Nat), i + n = 10 → Go mX4_readHead 2 29 [(0, .ref 1), (1, .ref 9), (2, .int (nI i))] [] (wC e0 (kT ln (hP le ln (1 + i)) (hS le ln (1 + i))) (kI 56 le) e3 e4 e5 e6 e7 e8 (kG9 wk tw sf lo ri la) (kI 10 (cpf i (fun j => hv le ln (1 + j)) h)) e11 e12 e13 e14 e16 e17 e19 e21 e22 e23 e25 e26) (gE none (wC e0 (kT ln (hP le ln 15) (hS le ln 15)) (kI 56 le) e3 e4 e5 e6 e7 e8 (kG9 wk tw sf (10 * hv le ln 11 + hv le ln 12) (hv le ln 13) (hv le ln 14)) (kI 10 (cpf 10 (fun j => hv le ln (1 + j)) h)) e11 e12 e13 e14 e16 e17 e19 e21 e22 e23 e25 e26)) := by
  intro n
  induction n with
  | zero =>
    intro i hi
    obtain rfl : i = 10 := by omega
    refine g_ws (ws' := wC e0 (kT ln (hP le ln 11) (hS le ln 11)) (kI 56 le) e3 e4 e5 e6 e7 e8 (kG9 wk tw sf lo ri la) (kI 10 (cpf 10 (fun j => hv le ln (1 + j)) h)) e11 e12 e13 e14 e16 e17 e19 e21 e22 e23 e25 e26) rfl ?_
    refine g_iload_n (i := 2) (j := 2) dX4_readHead_29 rfl rfl ?_
    refine g_bipush (v := nI 9) dX4_readHead_30 (by decide) ?_
    refine n_icmp_gt (tgt := 53) (rng_lit 10 rfl) (rng_lit 9 rfl) dX4_readHead_32 (by decide) (fun h32 => ?_) (fun h32 => ?_)
    · refine g_aload_n (i := 0) (j := 0) dX4_readHead_53 rfl rfl ?_
      refine g_iconst (v := nI 0) dX4_readHead_54 (by decide) ?_
      refine g_iconst (v := nI 4) dX4_readHead_55 (by decide) ?_
      have bp := hP_le le ln 11
      have bs : hS le ln 11 ≤ 1 := by unfold hS; split <;> omega
      refine c_V (st1 := [.int (nI (if fOK le ln (hP le ln 11) (hS le ln 11) 0 4 then le (hP le ln 11) - 48 else 0))]) (ctX4_figure (lo := 0) (hi := 4) hln (by omega) (by omega) (by omega) (by omega) hle) kX4_figure lX4_42 (by decide) rfl rfl rfl rfl (by exact Nat.le_of_ble_eq_true rfl) dX4_readHead_56 rfl rfl ?_
      have es := hP_s (le := le) (ln := ln) (i := 11) (lo := 0) (hi := 4) (by omega) rfl (Or.inl rfl)
      have ev := fig_val (le := le) (ln := ln) (i := 11) (lo := 0) (hi := 4) (by omega) rfl (Or.inl rfl)
      refine g_topi (y := nI (hv le ln 11)) (by rw [ev]) ?_
      refine g_ws (ws' := wC e0 (kT ln (hP le ln 12) (hS le ln 12)) (kI 56 le) e3 e4 e5 e6 e7 e8 (kG9 wk tw sf lo ri la) (kI 10 (cpf 10 (fun j => hv le ln (1 + j)) h)) e11 e12 e13 e14 e16 e17 e19 e21 e22 e23 e25 e26) (by rw [es.1, es.2]) ?_
      refine g_istore_n (i := 2) (lv' := [(2, .int (nI (hv le ln 11))), (0, .ref 1), (1, .ref 9)]) dX4_readHead_59 rfl (by decide) rfl ?_
      refine g_aload_n (i := 1) (j := 2) dX4_readHead_60 rfl rfl ?_
      refine g_bipush (v := nI 10) dX4_readHead_61 (by decide) ?_
      refine g_iload_n (i := 2) (j := 0) dX4_readHead_63 rfl rfl ?_
      refine n_imul (a := 10) (b := (hv le ln 11)) dX4_readHead_64 ?_
      refine g_aload_n (i := 0) (j := 1) dX4_readHead_65 rfl rfl ?_
      refine g_iconst (v := nI 0) dX4_readHead_66 (by decide) ?_
      refine g_iload_n (i := 2) (j := 0) dX4_readHead_67 rfl rfl ?_
      refine g_iconst (v := nI 4) dX4_readHead_68 (by decide) ?_
      refine n_icmp_ne (tgt := 76) (by have := hv_le hle ln 11; omega) (rng_lit 4 rfl) dX4_readHead_69 (by decide) (fun h69 => ?_) (fun h69 => ?_)
      · refine g_bipush (v := nI 9) dX4_readHead_76 (by decide) ?_
        have bp := hP_le le ln 12
        have bs : hS le ln 12 ≤ 1 := by unfold hS; split <;> omega
        have bv := hv_le hle ln 11
        refine c_V (st1 := [.int (nI (if fOK le ln (hP le ln 12) (hS le ln 12) 0 9 then le (hP le ln 12) - 48 else 0)), .int (nI (10 * (hv le ln 11))), .ref 9]) (ctX4_figure (lo := 0) (hi := 9) hln (by omega) (by omega) (by omega) (by omega) hle) kX4_figure lX4_42 (by decide) rfl rfl rfl rfl (by exact Nat.le_of_ble_eq_true rfl) dX4_readHead_78 rfl rfl ?_
        have es := hP_s (le := le) (ln := ln) (i := 12) (lo := 0) (hi := 9) (by omega) rfl (hHi12.2 h69)
        have ev := fig_val (le := le) (ln := ln) (i := 12) (lo := 0) (hi := 9) (by omega) rfl (hHi12.2 h69)
        refine g_topi (y := nI (hv le ln 12)) (by rw [ev]) ?_
        refine g_ws (ws' := wC e0 (kT ln (hP le ln 13) (hS le ln 13)) (kI 56 le) e3 e4 e5 e6 e7 e8 (kG9 wk tw sf lo ri la) (kI 10 (cpf 10 (fun j => hv le ln (1 + j)) h)) e11 e12 e13 e14 e16 e17 e19 e21 e22 e23 e25 e26) (by rw [es.1, es.2]) ?_
        refine n_iadd (a := (10 * (hv le ln 11))) (b := (hv le ln 12)) dX4_readHead_81 ?_
        refine n_putI (ws' := wC e0 (kT ln (hP le ln 13) (hS le ln 13)) (kI 56 le) e3 e4 e5 e6 e7 e8 (kG9 wk tw sf ((10 * (hv le ln 11)) + (hv le ln 12)) ri la) (kI 10 (cpf 10 (fun j => hv le ln (1 + j)) h)) e11 e12 e13 e14 e16 e17 e19 e21 e22 e23 e25 e26) fX4_50 fp_X1_8 rfl (by exact Nat.le_of_ble_eq_true rfl) dX4_readHead_82 rfl ?_
        refine g_aload_n (i := 1) (j := 2) dX4_readHead_85 rfl rfl ?_
        refine g_aload_n (i := 0) (j := 1) dX4_readHead_86 rfl rfl ?_
        refine g_iconst (v := nI 1) dX4_readHead_87 (by decide) ?_
        refine g_iconst (v := nI 3) dX4_readHead_88 (by decide) ?_
        have bp := hP_le le ln 13
        have bs : hS le ln 13 ≤ 1 := by unfold hS; split <;> omega
        refine c_V (st1 := [.int (nI (if fOK le ln (hP le ln 13) (hS le ln 13) 1 3 then le (hP le ln 13) - 48 else 1)), .ref 9]) (ctX4_figure (lo := 1) (hi := 3) hln (by omega) (by omega) (by omega) (by omega) hle) kX4_figure lX4_42 (by decide) rfl rfl rfl rfl (by exact Nat.le_of_ble_eq_true rfl) dX4_readHead_89 rfl rfl ?_
        have es := hP_s (le := le) (ln := ln) (i := 13) (lo := 1) (hi := 3) (by omega) rfl (Or.inl rfl)
        have ev := fig_val (le := le) (ln := ln) (i := 13) (lo := 1) (hi := 3) (by omega) rfl (Or.inl rfl)
        refine g_topi (y := nI (hv le ln 13)) (by rw [ev]) ?_
        refine g_ws (ws' := wC e0 (kT ln (hP le ln 14) (hS le ln 14)) (kI 56 le) e3 e4 e5 e6 e7 e8 (kG9 wk tw sf ((10 * (hv le ln 11)) + (hv le ln 12)) ri la) (kI 10 (cpf 10 (fun j => hv le ln (1 + j)) h)) e11 e12 e13 e14 e16 e17 e19 e21 e22 e23 e25 e26) (by rw [es.1, es.2]) ?_
        refine n_putI (ws' := wC e0 (kT ln (hP le ln 14) (hS le ln 14)) (kI 56 le) e3 e4 e5 e6 e7 e8 (kG9 wk tw sf ((10 * (hv le ln 11)) + (hv le ln 12)) (hv le ln 13) la) (kI 10 (cpf 10 (fun j => hv le ln (1 + j)) h)) e11 e12 e13 e14 e16 e17 e19 e21 e22 e23 e25 e26) fX4_53 fp_X1_9 rfl (by exact Nat.le_of_ble_eq_true rfl) dX4_readHead_92 rfl ?_
        refine g_aload_n (i := 1) (j := 2) dX4_readHead_95 rfl rfl ?_
        refine g_aload_n (i := 0) (j := 1) dX4_readHead_96 rfl rfl ?_
        refine g_iconst (v := nI 0) dX4_readHead_97 (by decide) ?_
        refine g_bipush (v := nI 9) dX4_readHead_98 (by decide) ?_
        have bp := hP_le le ln 14
        have bs : hS le ln 14 ≤ 1 := by unfold hS; split <;> omega
        refine c_V (st1 := [.int (nI (if fOK le ln (hP le ln 14) (hS le ln 14) 0 9 then le (hP le ln 14) - 48 else 0)), .ref 9]) (ctX4_figure (lo := 0) (hi := 9) hln (by omega) (by omega) (by omega) (by omega) hle) kX4_figure lX4_42 (by decide) rfl rfl rfl rfl (by exact Nat.le_of_ble_eq_true rfl) dX4_readHead_100 rfl rfl ?_
        have es := hP_s (le := le) (ln := ln) (i := 14) (lo := 0) (hi := 9) (by omega) rfl (Or.inl rfl)
        have ev := fig_val (le := le) (ln := ln) (i := 14) (lo := 0) (hi := 9) (by omega) rfl (Or.inl rfl)
        refine g_topi (y := nI (hv le ln 14)) (by rw [ev]) ?_
        refine g_ws (ws' := wC e0 (kT ln (hP le ln 15) (hS le ln 15)) (kI 56 le) e3 e4 e5 e6 e7 e8 (kG9 wk tw sf ((10 * (hv le ln 11)) + (hv le ln 12)) (hv le ln 13) la) (kI 10 (cpf 10 (fun j => hv le ln (1 + j)) h)) e11 e12 e13 e14 e16 e17 e19 e21 e22 e23 e25 e26) (by rw [es.1, es.2]) ?_
        refine n_putI (ws' := wC e0 (kT ln (hP le ln 15) (hS le ln 15)) (kI 56 le) e3 e4 e5 e6 e7 e8 (kG9 wk tw sf ((10 * (hv le ln 11)) + (hv le ln 12)) (hv le ln 13) (hv le ln 14)) (kI 10 (cpf 10 (fun j => hv le ln (1 + j)) h)) e11 e12 e13 e14 e16 e17 e19 e21 e22 e23 e25 e26) fX4_56 fp_X1_10 rfl (by exact Nat.le_of_ble_eq_true rfl) dX4_readHead_103 rfl ?_
        refine g_vret rfl dX4_readHead_106 ?_
        exact gE_i rfl rfl
      · refine g_iconst (v := nI 0) dX4_readHead_72 (by decide) ?_
        refine g_goto (tgt := 78) dX4_readHead_73 (by decide) ?_
        have bp := hP_le le ln 12
        have bs : hS le ln 12 ≤ 1 := by unfold hS; split <;> omega
        have bv := hv_le hle ln 11
        refine c_V (st1 := [.int (nI (if fOK le ln (hP le ln 12) (hS le ln 12) 0 0 then le (hP le ln 12) - 48 else 0)), .int (nI (10 * (hv le ln 11))), .ref 9]) (ctX4_figure (lo := 0) (hi := 0) hln (by omega) (by omega) (by omega) (by omega) hle) kX4_figure lX4_42 (by decide) rfl rfl rfl rfl (by exact Nat.le_of_ble_eq_true rfl) dX4_readHead_78 rfl rfl ?_
        have es := hP_s (le := le) (ln := ln) (i := 12) (lo := 0) (hi := 0) (by omega) rfl (hHi12.1 h69)
        have ev := fig_val (le := le) (ln := ln) (i := 12) (lo := 0) (hi := 0) (by omega) rfl (hHi12.1 h69)
        refine g_topi (y := nI (hv le ln 12)) (by rw [ev]) ?_
        refine g_ws (ws' := wC e0 (kT ln (hP le ln 13) (hS le ln 13)) (kI 56 le) e3 e4 e5 e6 e7 e8 (kG9 wk tw sf lo ri la) (kI 10 (cpf 10 (fun j => hv le ln (1 + j)) h)) e11 e12 e13 e14 e16 e17 e19 e21 e22 e23 e25 e26) (by rw [es.1, es.2]) ?_
        refine n_iadd (a := (10 * (hv le ln 11))) (b := (hv le ln 12)) dX4_readHead_81 ?_
        refine n_putI (ws' := wC e0 (kT ln (hP le ln 13) (hS le ln 13)) (kI 56 le) e3 e4 e5 e6 e7 e8 (kG9 wk tw sf ((10 * (hv le ln 11)) + (hv le ln 12)) ri la) (kI 10 (cpf 10 (fun j => hv le ln (1 + j)) h)) e11 e12 e13 e14 e16 e17 e19 e21 e22 e23 e25 e26) fX4_50 fp_X1_8 rfl (by exact Nat.le_of_ble_eq_true rfl) dX4_readHead_82 rfl ?_
        refine g_aload_n (i := 1) (j := 2) dX4_readHead_85 rfl rfl ?_
        refine g_aload_n (i := 0) (j := 1) dX4_readHead_86 rfl rfl ?_
        refine g_iconst (v := nI 1) dX4_readHead_87 (by decide) ?_
        refine g_iconst (v := nI 3) dX4_readHead_88 (by decide) ?_
        have bp := hP_le le ln 13
        have bs : hS le ln 13 ≤ 1 := by unfold hS; split <;> omega
        refine c_V (st1 := [.int (nI (if fOK le ln (hP le ln 13) (hS le ln 13) 1 3 then le (hP le ln 13) - 48 else 1)), .ref 9]) (ctX4_figure (lo := 1) (hi := 3) hln (by omega) (by omega) (by omega) (by omega) hle) kX4_figure lX4_42 (by decide) rfl rfl rfl rfl (by exact Nat.le_of_ble_eq_true rfl) dX4_readHead_89 rfl rfl ?_
        have es := hP_s (le := le) (ln := ln) (i := 13) (lo := 1) (hi := 3) (by omega) rfl (Or.inl rfl)
        have ev := fig_val (le := le) (ln := ln) (i := 13) (lo := 1) (hi := 3) (by omega) rfl (Or.inl rfl)
        refine g_topi (y := nI (hv le ln 13)) (by rw [ev]) ?_
        refine g_ws (ws' := wC e0 (kT ln (hP le ln 14) (hS le ln 14)) (kI 56 le) e3 e4 e5 e6 e7 e8 (kG9 wk tw sf ((10 * (hv le ln 11)) + (hv le ln 12)) ri la) (kI 10 (cpf 10 (fun j => hv le ln (1 + j)) h)) e11 e12 e13 e14 e16 e17 e19 e21 e22 e23 e25 e26) (by rw [es.1, es.2]) ?_
        refine n_putI (ws' := wC e0 (kT ln (hP le ln 14) (hS le ln 14)) (kI 56 le) e3 e4 e5 e6 e7 e8 (kG9 wk tw sf ((10 * (hv le ln 11)) + (hv le ln 12)) (hv le ln 13) la) (kI 10 (cpf 10 (fun j => hv le ln (1 + j)) h)) e11 e12 e13 e14 e16 e17 e19 e21 e22 e23 e25 e26) fX4_53 fp_X1_9 rfl (by exact Nat.le_of_ble_eq_true rfl) dX4_readHead_92 rfl ?_
        refine g_aload_n (i := 1) (j := 2) dX4_readHead_95 rfl rfl ?_
        refine g_aload_n (i := 0) (j := 1) dX4_readHead_96 rfl rfl ?_
        refine g_iconst (v := nI 0) dX4_readHead_97 (by decide) ?_
        refine g_bipush (v := nI 9) dX4_readHead_98 (by decide) ?_
        have bp := hP_le le ln 14
        have bs : hS le ln 14 ≤ 1 := by unfold hS; split <;> omega
        refine c_V (st1 := [.int (nI (if fOK le ln (hP le ln 14) (hS le ln 14) 0 9 then le (hP le ln 14) - 48 else 0)), .ref 9]) (ctX4_figure (lo := 0) (hi := 9) hln (by omega) (by omega) (by omega) (by omega) hle) kX4_figure lX4_42 (by decide) rfl rfl rfl rfl (by exact Nat.le_of_ble_eq_true rfl) dX4_readHead_100 rfl rfl ?_
        have es := hP_s (le := le) (ln := ln) (i := 14) (lo := 0) (hi := 9) (by omega) rfl (Or.inl rfl)
        have ev := fig_val (le := le) (ln := ln) (i := 14) (lo := 0) (hi := 9) (by omega) rfl (Or.inl rfl)
        refine g_topi (y := nI (hv le ln 14)) (by rw [ev]) ?_
        refine g_ws (ws' := wC e0 (kT ln (hP le ln 15) (hS le ln 15)) (kI 56 le) e3 e4 e5 e6 e7 e8 (kG9 wk tw sf ((10 * (hv le ln 11)) + (hv le ln 12)) (hv le ln 13) la) (kI 10 (cpf 10 (fun j => hv le ln (1 + j)) h)) e11 e12 e13 e14 e16 e17 e19 e21 e22 e23 e25 e26) (by rw [es.1, es.2]) ?_
        refine n_putI (ws' := wC e0 (kT ln (hP le ln 15) (hS le ln 15)) (kI 56 le) e3 e4 e5 e6 e7 e8 (kG9 wk tw sf ((10 * (hv le ln 11)) + (hv le ln 12)) (hv le ln 13) (hv le ln 14)) (kI 10 (cpf 10 (fun j => hv le ln (1 + j)) h)) e11 e12 e13 e14 e16 e17 e19 e21 e22 e23 e25 e26) fX4_56 fp_X1_10 rfl (by exact Nat.le_of_ble_eq_true rfl) dX4_readHead_103 rfl ?_
        refine g_vret rfl dX4_readHead_106 ?_
        exact gE_i rfl rfl
    · exact absurd h32 (by decide)

  | succ n ih =>
    intro i hi
    refine g_iload_n (i := 2) (j := 2) dX4_readHead_29 rfl rfl ?_
    refine g_bipush (v := nI 9) dX4_readHead_30 (by decide) ?_
    refine n_icmp_gt (tgt := 53) (by omega) (rng_lit 9 rfl) dX4_readHead_32 (by decide) (fun h32 => ?_) (fun h32 => ?_)
    · exfalso; omega
    · refine g_aload_n (i := 1) (j := 1) dX4_readHead_35 rfl rfl ?_
      refine g_iload_n (i := 2) (j := 2) dX4_readHead_36 rfl rfl ?_
      refine g_aload_n (i := 0) (j := 0) dX4_readHead_37 rfl rfl ?_
      refine g_iconst (v := nI 0) dX4_readHead_38 (by decide) ?_
      refine g_bipush (v := nI 9) dX4_readHead_39 (by decide) ?_
      have bp := hP_le le ln (1 + i)
      have bs : hS le ln (1 + i) ≤ 1 := by unfold hS; split <;> omega
      refine c_V (st1 := [.int (nI (if fOK le ln (hP le ln (1 + i)) (hS le ln (1 + i)) 0 9 then le (hP le ln (1 + i)) - 48 else 0)), .int (nI i), .ref 9]) (ctX4_figure (lo := 0) (hi := 9) hln (by omega) (by omega) (by omega) (by omega) hle) kX4_figure lX4_42 (by decide) rfl rfl rfl rfl (by exact Nat.le_of_ble_eq_true rfl) dX4_readHead_41 rfl rfl ?_
      have es := hP_s (le := le) (ln := ln) (i := 1 + i) (lo := 0) (hi := 9) (by omega) (by unfold hLo; split <;> omega) (Or.inl (by unfold hHi; split <;> omega))
      have ev := fig_val (le := le) (ln := ln) (i := 1 + i) (lo := 0) (hi := 9) (by omega) (by unfold hLo; split <;> omega) (Or.inl (by unfold hHi; split <;> omega))
      refine g_topi (y := nI (hv le ln (1 + i))) (by rw [ev]) ?_
      refine g_ws (ws' := wC e0 (kT ln (hP le ln ((1 + i) + 1)) (hS le ln ((1 + i) + 1))) (kI 56 le) e3 e4 e5 e6 e7 e8 (kG9 wk tw sf lo ri la) (kI 10 (cpf i (fun j => hv le ln (1 + j)) h)) e11 e12 e13 e14 e16 e17 e19 e21 e22 e23 e25 e26) (by rw [es.1, es.2]) ?_
      refine c_V (st1 := []) (ctX1_setHeight_9 (c := i) (x := hv le ln (1 + i)) (by omega)) kX1_setHeight lX4_46 (by decide) rfl rfl rfl rfl (by exact Nat.le_of_ble_eq_true rfl) dX4_readHead_44 rfl rfl ?_
      refine n_inc (x := i) (j := 2) (lv' := [(2, .int (nI (i + 1))), (0, .ref 1), (1, .ref 9)]) dX4_readHead_47 rfl (by decide) rfl ?_
      refine g_goto (tgt := 29) dX4_readHead_50 (by decide) ?_
      refine g_lv [1, 2, 0] rfl ?_
      refine g_ws (ws' := wC e0 (kT ln (hP le ln (1 + (i + 1))) (hS le ln (1 + (i + 1)))) (kI 56 le) e3 e4 e5 e6 e7 e8 (kG9 wk tw sf lo ri la) (kI 10 (cpf (i + 1) (fun j => hv le ln (1 + j)) h)) e11 e12 e13 e14 e16 e17 e19 e21 e22 e23 e25 e26) (by rw [← cpf_s, show 1 + (i + 1) = 1 + i + 1 by omega]) ?_
      exact ih (i + 1) (by omega)

theorem ctX4_readHead_9 {e0 e3 e4 e5 e6 e7 e8 e11 e12 e13 e14 e16 e17 e19 e21 e22 e23 e25 e26 : va_E} {h : Nat → Nat} {wk tw sf lo ri la : Nat} {le : Nat → Nat} {ln : Nat} (hln : ln ≤ 56) (hle : ∀ k, le k ≤ 255) : Ct mX4_readHead 2 [.ref 1, .ref 9] (wC e0 (kT ln 0 0) (kI 56 le) e3 e4 e5 e6 e7 e8 (kG9 wk tw sf lo ri la) (kI 10 h) e11 e12 e13 e14 e16 e17 e19 e21 e22 e23 e25 e26) (gE none (wC e0 (kT ln (hP le ln 15) (hS le ln 15)) (kI 56 le) e3 e4 e5 e6 e7 e8 (kG9 wk tw sf (10 * hv le ln 11 + hv le ln 12) (hv le ln 13) (hv le ln 14)) (kI 10 (cpf 10 (fun j => hv le ln (1 + j)) h)) e11 e12 e13 e14 e16 e17 e19 e21 e22 e23 e25 e26)) := by
  refine Ct.of (by decide) (by exact Nat.le_of_ble_eq_true rfl) ?_
  show Go mX4_readHead 2 0 [(0, .ref 1), (1, .ref 9)] [] (wC e0 (kT ln 0 0) (kI 56 le) e3 e4 e5 e6 e7 e8 (kG9 wk tw sf lo ri la) (kI 10 h) e11 e12 e13 e14 e16 e17 e19 e21 e22 e23 e25 e26) (gE none (wC e0 (kT ln (hP le ln 15) (hS le ln 15)) (kI 56 le) e3 e4 e5 e6 e7 e8 (kG9 wk tw sf (10 * hv le ln 11 + hv le ln 12) (hv le ln 13) (hv le ln 14)) (kI 10 (cpf 10 (fun j => hv le ln (1 + j)) h)) e11 e12 e13 e14 e16 e17 e19 e21 e22 e23 e25 e26))
  refine g_aload_n (i := 0) (j := 0) dX4_readHead_0 rfl rfl ?_
  refine c_V (st1 := [.int (lH le ln 0)]) (ctX4_letterHere  (by omega) (by omega)) kX4_letterHere lX4_38 (by decide) rfl rfl rfl rfl (by exact Nat.le_of_ble_eq_true rfl) dX4_readHead_1 rfl rfl ?_
  refine g_bipush (v := nI 66) dX4_readHead_4 (by decide) ?_
  refine g_icmp_ne (tgt := 22) dX4_readHead_6 (by decide) (fun h6 => ?_) (fun h6 => ?_)
  · refine g_aload_n (i := 0) (j := 0) dX4_readHead_22 rfl rfl ?_
    refine g_iconst (v := nI 1) dX4_readHead_23 (by decide) ?_
    refine n_putZ (by omega) (ws' := wC e0 (kT ln 0 1) (kI 56 le) e3 e4 e5 e6 e7 e8 (kG9 wk tw sf lo ri la) (kI 10 h) e11 e12 e13 e14 e16 e17 e19 e21 e22 e23 e25 e26) fX4_22 fp_X4_3 rfl (by exact Nat.le_of_ble_eq_true rfl) dX4_readHead_24 rfl ?_
    have h6' := fun z => h6 ((lH_eq (le := le) (ln := ln) (p := 0) (c := 66) hle (by omega)).mpr z)
    have e1 : hP le ln 1 = 0 := by
      show (if hP le ln 0 = 0 ∧ hOK le ln 0 = true then 0 + 1 else hP le ln 0) = 0
      rw [if_neg (fun z => by have z2 := z.2; unfold hOK at z2; rw [if_pos rfl] at z2; exact h6' (of_decide_eq_true z2))]; rfl
    have e2 : hS le ln 1 = 1 := by unfold hS; rw [e1]; rfl
    refine g_ws (ws' := wC e0 (kT ln (hP le ln 1) (hS le ln 1)) (kI 56 le) e3 e4 e5 e6 e7 e8 (kG9 wk tw sf lo ri la) (kI 10 h) e11 e12 e13 e14 e16 e17 e19 e21 e22 e23 e25 e26) (by rw [e1, e2]) ?_
    refine g_iconst (v := nI 0) dX4_readHead_27 (by decide) ?_
    refine g_istore_n (i := 2) (lv' := [(2, .int (nI 0)), (0, .ref 1), (1, .ref 9)]) dX4_readHead_28 rfl (by decide) rfl ?_
    refine g_lv [1, 2, 0] rfl ?_
    refine g_ws (ws' := wC e0 (kT ln (hP le ln (1 + 0)) (hS le ln (1 + 0))) (kI 56 le) e3 e4 e5 e6 e7 e8 (kG9 wk tw sf lo ri la) (kI 10 (cpf 0 (fun j => hv le ln (1 + j)) h)) e11 e12 e13 e14 e16 e17 e19 e21 e22 e23 e25 e26) (by rw [cpf_0]) ?_
    exact lp_head_9 hln hle 10 0 (by omega)
  · refine g_aload_n (i := 0) (j := 0) dX4_readHead_9 rfl rfl ?_
    refine g_dup dX4_readHead_10 rfl ?_
    refine g_get fX4_19 rfl rfl dX4_readHead_11 ?_
    refine g_iconst (v := nI 1) dX4_readHead_14 (by decide) ?_
    refine n_iadd (a := 0) (b := 1) dX4_readHead_15 ?_
    refine n_putI (ws' := wC e0 (kT ln (0 + 1) 0) (kI 56 le) e3 e4 e5 e6 e7 e8 (kG9 wk tw sf lo ri la) (kI 10 h) e11 e12 e13 e14 e16 e17 e19 e21 e22 e23 e25 e26) fX4_19 fp_X4_2 rfl (by exact Nat.le_of_ble_eq_true rfl) dX4_readHead_16 rfl ?_
    refine g_goto (tgt := 27) dX4_readHead_19 (by decide) ?_
    have h6' := (lH_eq hle (by omega)).mp h6
    have e1 : hP le ln 1 = 1 := by
      show (if hP le ln 0 = 0 ∧ hOK le ln 0 = true then 0 + 1 else hP le ln 0) = 1
      rw [if_pos ⟨rfl, by unfold hOK; rw [if_pos rfl]; exact decide_eq_true h6'⟩]
    have e2 : hS le ln 1 = 0 := by unfold hS; rw [e1]; rfl
    refine g_ws (ws' := wC e0 (kT ln (hP le ln 1) (hS le ln 1)) (kI 56 le) e3 e4 e5 e6 e7 e8 (kG9 wk tw sf lo ri la) (kI 10 h) e11 e12 e13 e14 e16 e17 e19 e21 e22 e23 e25 e26) (by rw [e1, e2]) ?_
    refine g_iconst (v := nI 0) dX4_readHead_27 (by decide) ?_
    refine g_istore_n (i := 2) (lv' := [(2, .int (nI 0)), (0, .ref 1), (1, .ref 9)]) dX4_readHead_28 rfl (by decide) rfl ?_
    refine g_lv [1, 2, 0] rfl ?_
    refine g_ws (ws' := wC e0 (kT ln (hP le ln (1 + 0)) (hS le ln (1 + 0))) (kI 56 le) e3 e4 e5 e6 e7 e8 (kG9 wk tw sf lo ri la) (kI 10 (cpf 0 (fun j => hv le ln (1 + j)) h)) e11 e12 e13 e14 e16 e17 e19 e21 e22 e23 e25 e26) (by rw [cpf_0]) ?_
    exact lp_head_9 hln hle 10 0 (by omega)

theorem ctX4_readWalker_9 {e0 e3 e4 e5 e6 e7 e8 e10 e11 e12 e16 e17 e19 e21 e22 e23 e25 e26 : va_E} {pa wa : Nat → Nat} {wk tw sf lo ri la : Nat} {p : Nat} {le : Nat → Nat} {ln : Nat} (hln : ln ≤ 56) (hle : ∀ k, le k ≤ 255) (hp : p ≤ 55) (hw : wk < 5) : Ct mX4_readWalker 2 [.ref 1, .ref 9] (wC e0 (kT ln p 0) (kI 56 le) e3 e4 e5 e6 e7 e8 (kG9 wk tw sf lo ri la) e10 e11 e12 (kI 5 pa) (kI 5 wa) e16 e17 e19 e21 e22 e23 e25 e26) (gE none (if dg le ln (p + 1) 1 3 then (if dg le ln (p + 2) 0 5 then wC e0 (kT ln (p + 3) 0) (kI 56 le) e3 e4 e5 e6 e7 e8 (kG9 (wk + 1) tw sf lo ri la) e10 e11 e12 (kI 5 (va_up pa wk (le (p + 1) - 48))) (kI 5 (va_up wa wk (le (p + 2) - 48))) e16 e17 e19 e21 e22 e23 e25 e26 else wC e0 (kT ln (p + 2) 1) (kI 56 le) e3 e4 e5 e6 e7 e8 (kG9 wk tw sf lo ri la) e10 e11 e12 (kI 5 pa) (kI 5 wa) e16 e17 e19 e21 e22 e23 e25 e26) else wC e0 (kT ln (p + 1) 1) (kI 56 le) e3 e4 e5 e6 e7 e8 (kG9 wk tw sf lo ri la) e10 e11 e12 (kI 5 pa) (kI 5 wa) e16 e17 e19 e21 e22 e23 e25 e26)) := by
  refine Ct.of (by decide) (by exact Nat.le_of_ble_eq_true rfl) ?_
  show Go mX4_readWalker 2 0 [(0, .ref 1), (1, .ref 9)] [] (wC e0 (kT ln p 0) (kI 56 le) e3 e4 e5 e6 e7 e8 (kG9 wk tw sf lo ri la) e10 e11 e12 (kI 5 pa) (kI 5 wa) e16 e17 e19 e21 e22 e23 e25 e26) (gE none (if dg le ln (p + 1) 1 3 then (if dg le ln (p + 2) 0 5 then wC e0 (kT ln (p + 3) 0) (kI 56 le) e3 e4 e5 e6 e7 e8 (kG9 (wk + 1) tw sf lo ri la) e10 e11 e12 (kI 5 (va_up pa wk (le (p + 1) - 48))) (kI 5 (va_up wa wk (le (p + 2) - 48))) e16 e17 e19 e21 e22 e23 e25 e26 else wC e0 (kT ln (p + 2) 1) (kI 56 le) e3 e4 e5 e6 e7 e8 (kG9 wk tw sf lo ri la) e10 e11 e12 (kI 5 pa) (kI 5 wa) e16 e17 e19 e21 e22 e23 e25 e26) else wC e0 (kT ln (p + 1) 1) (kI 56 le) e3 e4 e5 e6 e7 e8 (kG9 wk tw sf lo ri la) e10 e11 e12 (kI 5 pa) (kI 5 wa) e16 e17 e19 e21 e22 e23 e25 e26))
  refine g_aload_n (i := 0) (j := 0) dX4_readWalker_0 rfl rfl ?_
  refine g_dup dX4_readWalker_1 rfl ?_
  refine g_get fX4_19 rfl rfl dX4_readWalker_2 ?_
  refine g_iconst (v := nI 1) dX4_readWalker_5 (by decide) ?_
  refine n_iadd (a := p) (b := 1) dX4_readWalker_6 ?_
  refine n_putI (ws' := wC e0 (kT ln (p + 1) 0) (kI 56 le) e3 e4 e5 e6 e7 e8 (kG9 wk tw sf lo ri la) e10 e11 e12 (kI 5 pa) (kI 5 wa) e16 e17 e19 e21 e22 e23 e25 e26) fX4_19 fp_X4_2 rfl (by exact Nat.le_of_ble_eq_true rfl) dX4_readWalker_7 rfl ?_
  refine g_aload_n (i := 0) (j := 0) dX4_readWalker_10 rfl rfl ?_
  refine g_iconst (v := nI 1) dX4_readWalker_11 (by decide) ?_
  refine g_iconst (v := nI 3) dX4_readWalker_12 (by decide) ?_
  by_cases c1 : dg le ln (p + 1) 1 3
  · skip
    refine c_V (st1 := [.int (nI (le (p + 1) - 48))]) (ctX4_figure_y (lo := 1) (hi := 3) hln (by omega) (by omega) (by omega) hle (by assumption)) kX4_figure lX4_42 (by decide) rfl rfl rfl rfl (by exact Nat.le_of_ble_eq_true rfl) dX4_readWalker_13 rfl rfl ?_
    refine g_istore_n (i := 2) (lv' := [(2, .int (nI (le (p + 1) - 48))), (0, .ref 1), (1, .ref 9)]) dX4_readWalker_16 rfl (by decide) rfl ?_
    refine g_aload_n (i := 0) (j := 1) dX4_readWalker_17 rfl rfl ?_
    refine g_iconst (v := nI 0) dX4_readWalker_18 (by decide) ?_
    refine g_iconst (v := nI 5) dX4_readWalker_19 (by decide) ?_
    by_cases c2 : dg le ln (p + 1 + 1) 0 5
    · skip
      refine c_V (st1 := [.int (nI (le ((p + 1) + 1) - 48))]) (ctX4_figure_y (lo := 0) (hi := 5) hln (by omega) (by omega) (by omega) hle (by assumption)) kX4_figure lX4_42 (by decide) rfl rfl rfl rfl (by exact Nat.le_of_ble_eq_true rfl) dX4_readWalker_20 rfl rfl ?_
      refine g_istore_n (i := 3) (lv' := [(3, .int (nI (le ((p + 1) + 1) - 48))), (2, .int (nI (le (p + 1) - 48))), (0, .ref 1), (1, .ref 9)]) dX4_readWalker_23 rfl (by decide) rfl ?_
      refine g_aload_n (i := 0) (j := 2) dX4_readWalker_24 rfl rfl ?_
      refine g_get fX4_22 rfl rfl dX4_readWalker_25 ?_
      refine n_if_ne (tgt := 37) (rng_lit 0 rfl) dX4_readWalker_28 (by decide) (fun h28 => ?_) (fun h28 => ?_)
      · exact absurd h28 (by decide)
      · refine g_aload_n (i := 1) (j := 3) dX4_readWalker_31 rfl rfl ?_
        refine g_iload_n (i := 2) (j := 1) dX4_readWalker_32 rfl rfl ?_
        refine g_iload_n (i := 3) (j := 0) dX4_readWalker_33 rfl rfl ?_
        refine c_V (st1 := []) (ctX1_addWalker_9 (x := le (p + 1) - 48) (y := le ((p + 1) + 1) - 48) (by omega)) kX1_addWalker lX4_77 (by decide) rfl rfl rfl rfl (by exact Nat.le_of_ble_eq_true rfl) dX4_readWalker_34 rfl rfl ?_
        refine g_vret rfl dX4_readWalker_37 ?_
        exact gE_i rfl (by first | rw [if_neg c1] | rw [if_pos c1, if_neg c2] | rw [if_pos c1, if_pos c2])
    · skip
      refine c_V (st1 := [.int (nI 0)]) (ctX4_figure_n (lo := 0) (hi := 5) hln (by omega) (by omega) (by omega) (by omega) hle (fun z => by first | exact absurd z.2 (by omega) | exact absurd z.1 (by assumption))) kX4_figure lX4_42 (by decide) rfl rfl rfl rfl (by exact Nat.le_of_ble_eq_true rfl) dX4_readWalker_20 rfl rfl ?_
      refine g_istore_n (i := 3) (lv' := [(3, .int (nI 0)), (2, .int (nI (le (p + 1) - 48))), (0, .ref 1), (1, .ref 9)]) dX4_readWalker_23 rfl (by decide) rfl ?_
      refine g_aload_n (i := 0) (j := 2) dX4_readWalker_24 rfl rfl ?_
      refine g_get fX4_22 rfl rfl dX4_readWalker_25 ?_
      refine n_if_ne (tgt := 37) (rng_lit 1 rfl) dX4_readWalker_28 (by decide) (fun h28 => ?_) (fun h28 => ?_)
      · refine g_vret rfl dX4_readWalker_37 ?_
        exact gE_i rfl (by first | rw [if_neg c1] | rw [if_pos c1, if_neg c2] | rw [if_pos c1, if_pos c2])
      · exact absurd h28 (by decide)
  · skip
    refine c_V (st1 := [.int (nI 1)]) (ctX4_figure_n (lo := 1) (hi := 3) hln (by omega) (by omega) (by omega) (by omega) hle (fun z => by first | exact absurd z.2 (by omega) | exact absurd z.1 (by assumption))) kX4_figure lX4_42 (by decide) rfl rfl rfl rfl (by exact Nat.le_of_ble_eq_true rfl) dX4_readWalker_13 rfl rfl ?_
    refine g_istore_n (i := 2) (lv' := [(2, .int (nI 1)), (0, .ref 1), (1, .ref 9)]) dX4_readWalker_16 rfl (by decide) rfl ?_
    refine g_aload_n (i := 0) (j := 1) dX4_readWalker_17 rfl rfl ?_
    refine g_iconst (v := nI 0) dX4_readWalker_18 (by decide) ?_
    refine g_iconst (v := nI 5) dX4_readWalker_19 (by decide) ?_
    refine c_V (st1 := [.int (nI 0)]) (ctX4_figure_n (lo := 0) (hi := 5) hln (by omega) (by omega) (by omega) (by omega) hle (fun z => by first | exact absurd z.2 (by omega) | exact absurd z.1 (by assumption))) kX4_figure lX4_42 (by decide) rfl rfl rfl rfl (by exact Nat.le_of_ble_eq_true rfl) dX4_readWalker_20 rfl rfl ?_
    refine g_istore_n (i := 3) (lv' := [(3, .int (nI 0)), (2, .int (nI 1)), (0, .ref 1), (1, .ref 9)]) dX4_readWalker_23 rfl (by decide) rfl ?_
    refine g_aload_n (i := 0) (j := 2) dX4_readWalker_24 rfl rfl ?_
    refine g_get fX4_22 rfl rfl dX4_readWalker_25 ?_
    refine n_if_ne (tgt := 37) (rng_lit 1 rfl) dX4_readWalker_28 (by decide) (fun h28 => ?_) (fun h28 => ?_)
    · refine g_vret rfl dX4_readWalker_37 ?_
      exact gE_i rfl (by first | rw [if_neg c1] | rw [if_pos c1, if_neg c2] | rw [if_pos c1, if_pos c2])
    · exact absurd h28 (by decide)

theorem ctX4_readTower_9 {e0 e3 e4 e5 e6 e7 e8 e10 e11 e13 e14 e16 e17 e19 e21 e22 e23 e25 e26 : va_E} {ho : Nat → Nat} {wk tw sf lo ri la : Nat} {p : Nat} {le : Nat → Nat} {ln : Nat} (hln : ln ≤ 56) (hle : ∀ k, le k ≤ 255) (hp : p ≤ 55) (hw : tw < 2) (hho : ∀ k, ho k ≤ 207) : Ct mX4_readTower 2 [.ref 1, .ref 9] (wC e0 (kT ln p 0) (kI 56 le) e3 e4 e5 e6 e7 e8 (kG9 wk tw sf lo ri la) e10 e11 (kI 10 ho) e13 e14 e16 e17 e19 e21 e22 e23 e25 e26) (gE none (if dg le ln (p + 1) 1 8 ∧ ho (le (p + 1) - 48) = 0 then (if dg le ln (p + 2) 1 4 then wC e0 (kT ln (p + 3) 0) (kI 56 le) e3 e4 e5 e6 e7 e8 (kG9 wk (tw + 1) sf lo ri la) e10 e11 (kI 10 (va_up ho (le (p + 1) - 48) (le (p + 2) - 48))) e13 e14 e16 e17 e19 e21 e22 e23 e25 e26 else wC e0 (kT ln (p + 2) 1) (kI 56 le) e3 e4 e5 e6 e7 e8 (kG9 wk tw sf lo ri la) e10 e11 (kI 10 ho) e13 e14 e16 e17 e19 e21 e22 e23 e25 e26) else wC e0 (kT ln (p + 1) 1) (kI 56 le) e3 e4 e5 e6 e7 e8 (kG9 wk tw sf lo ri la) e10 e11 (kI 10 ho) e13 e14 e16 e17 e19 e21 e22 e23 e25 e26)) := by
  refine Ct.of (by decide) (by exact Nat.le_of_ble_eq_true rfl) ?_
  show Go mX4_readTower 2 0 [(0, .ref 1), (1, .ref 9)] [] (wC e0 (kT ln p 0) (kI 56 le) e3 e4 e5 e6 e7 e8 (kG9 wk tw sf lo ri la) e10 e11 (kI 10 ho) e13 e14 e16 e17 e19 e21 e22 e23 e25 e26) (gE none (if dg le ln (p + 1) 1 8 ∧ ho (le (p + 1) - 48) = 0 then (if dg le ln (p + 2) 1 4 then wC e0 (kT ln (p + 3) 0) (kI 56 le) e3 e4 e5 e6 e7 e8 (kG9 wk (tw + 1) sf lo ri la) e10 e11 (kI 10 (va_up ho (le (p + 1) - 48) (le (p + 2) - 48))) e13 e14 e16 e17 e19 e21 e22 e23 e25 e26 else wC e0 (kT ln (p + 2) 1) (kI 56 le) e3 e4 e5 e6 e7 e8 (kG9 wk tw sf lo ri la) e10 e11 (kI 10 ho) e13 e14 e16 e17 e19 e21 e22 e23 e25 e26) else wC e0 (kT ln (p + 1) 1) (kI 56 le) e3 e4 e5 e6 e7 e8 (kG9 wk tw sf lo ri la) e10 e11 (kI 10 ho) e13 e14 e16 e17 e19 e21 e22 e23 e25 e26))
  refine g_aload_n (i := 0) (j := 0) dX4_readTower_0 rfl rfl ?_
  refine g_dup dX4_readTower_1 rfl ?_
  refine g_get fX4_19 rfl rfl dX4_readTower_2 ?_
  refine g_iconst (v := nI 1) dX4_readTower_5 (by decide) ?_
  refine n_iadd (a := p) (b := 1) dX4_readTower_6 ?_
  refine n_putI (ws' := wC e0 (kT ln (p + 1) 0) (kI 56 le) e3 e4 e5 e6 e7 e8 (kG9 wk tw sf lo ri la) e10 e11 (kI 10 ho) e13 e14 e16 e17 e19 e21 e22 e23 e25 e26) fX4_19 fp_X4_2 rfl (by exact Nat.le_of_ble_eq_true rfl) dX4_readTower_7 rfl ?_
  refine g_aload_n (i := 1) (j := 1) dX4_readTower_10 rfl rfl ?_
  refine g_aload_n (i := 0) (j := 0) dX4_readTower_11 rfl rfl ?_
  refine c_V (st1 := [.int (lH le ln (p + 1)), .ref 9]) (ctX4_letterHere  (by omega) (by omega)) kX4_letterHere lX4_38 (by decide) rfl rfl rfl rfl (by exact Nat.le_of_ble_eq_true rfl) dX4_readTower_12 rfl rfl ?_
  refine g_bipush (v := nI 48) dX4_readTower_15 (by decide) ?_
  refine g_isub dX4_readTower_17 ?_
  refine c_V (st1 := [.int (nI (hR ho ((lH le ln (p + 1)) - (nI 48))))]) (ctX1_holdOf_r9 (x := ((lH le ln (p + 1)) - (nI 48))) ) kX1_holdOf lX4_80 (by decide) rfl rfl rfl rfl (by exact Nat.le_of_ble_eq_true rfl) dX4_readTower_18 rfl rfl ?_
  have qq := hR_eq (le := le) (f := ho) (ln := ln) (p := p + 1) hle
  have qb : hR ho (lH le ln (p + 1) - nI 48) ≤ 207 := by
    rw [qq]
    split
    · exact hho _
    · omega
  refine n_if_le (tgt := 29) (by omega) dX4_readTower_21 (by decide) (fun h21 => ?_) (fun h21 => ?_)
  · refine g_aload_n (i := 0) (j := 0) dX4_readTower_29 rfl rfl ?_
    refine g_iconst (v := nI 1) dX4_readTower_30 (by decide) ?_
    refine g_bipush (v := nI 8) dX4_readTower_31 (by decide) ?_
    by_cases c1 : dg le ln (p + 1) 1 8
    · skip
      refine c_V (st1 := [.int (nI (le (p + 1) - 48))]) (ctX4_figure_y (lo := 1) (hi := 8) hln (by omega) (by omega) (by omega) hle (by assumption)) kX4_figure lX4_42 (by decide) rfl rfl rfl rfl (by exact Nat.le_of_ble_eq_true rfl) dX4_readTower_33 rfl rfl ?_
      refine g_istore_n (i := 2) (lv' := [(2, .int (nI (le (p + 1) - 48))), (0, .ref 1), (1, .ref 9)]) dX4_readTower_36 rfl (by decide) rfl ?_
      refine g_aload_n (i := 0) (j := 1) dX4_readTower_37 rfl rfl ?_
      refine g_iconst (v := nI 1) dX4_readTower_38 (by decide) ?_
      refine g_iconst (v := nI 4) dX4_readTower_39 (by decide) ?_
      by_cases c2 : dg le ln (p + 1 + 1) 1 4
      · skip
        refine c_V (st1 := [.int (nI (le ((p + 1) + 1) - 48))]) (ctX4_figure_y (lo := 1) (hi := 4) hln (by omega) (by omega) (by omega) hle (by assumption)) kX4_figure lX4_42 (by decide) rfl rfl rfl rfl (by exact Nat.le_of_ble_eq_true rfl) dX4_readTower_40 rfl rfl ?_
        refine g_istore_n (i := 3) (lv' := [(3, .int (nI (le ((p + 1) + 1) - 48))), (2, .int (nI (le (p + 1) - 48))), (0, .ref 1), (1, .ref 9)]) dX4_readTower_43 rfl (by decide) rfl ?_
        refine g_aload_n (i := 0) (j := 2) dX4_readTower_44 rfl rfl ?_
        refine g_get fX4_22 rfl rfl dX4_readTower_45 ?_
        refine n_if_ne (tgt := 57) (rng_lit 0 rfl) dX4_readTower_48 (by decide) (fun h48 => ?_) (fun h48 => ?_)
        · exact absurd h48 (by decide)
        · refine g_aload_n (i := 1) (j := 3) dX4_readTower_51 rfl rfl ?_
          refine g_iload_n (i := 2) (j := 1) dX4_readTower_52 rfl rfl ?_
          refine g_iload_n (i := 3) (j := 0) dX4_readTower_53 rfl rfl ?_
          refine c_V (st1 := []) (ctX1_addTower_9 (c := le (p + 1) - 48) (x := le ((p + 1) + 1) - 48) (by have := c1.2.2; omega)) kX1_addTower lX4_84 (by decide) rfl rfl rfl rfl (by exact Nat.le_of_ble_eq_true rfl) dX4_readTower_54 rfl rfl ?_
          refine g_vret rfl dX4_readTower_57 ?_
          have z0_ : ho (le (p + 1) - 48) = 0 := by
            rw [if_pos ⟨c1.1, by have := c1.2.1; omega, by have := c1.2.2; omega⟩] at qq
            omega
          exact gE_i rfl (by first | rw [if_pos ⟨c1, z0_⟩, if_neg c2] | rw [if_pos ⟨c1, z0_⟩, if_pos c2] | rw [if_pos ⟨c1, z0_⟩])
      · skip
        refine c_V (st1 := [.int (nI 1)]) (ctX4_figure_n (lo := 1) (hi := 4) hln (by omega) (by omega) (by omega) (by omega) hle (fun z => by first | exact absurd z.2 (by omega) | exact absurd z.1 (by assumption))) kX4_figure lX4_42 (by decide) rfl rfl rfl rfl (by exact Nat.le_of_ble_eq_true rfl) dX4_readTower_40 rfl rfl ?_
        refine g_istore_n (i := 3) (lv' := [(3, .int (nI 1)), (2, .int (nI (le (p + 1) - 48))), (0, .ref 1), (1, .ref 9)]) dX4_readTower_43 rfl (by decide) rfl ?_
        refine g_aload_n (i := 0) (j := 2) dX4_readTower_44 rfl rfl ?_
        refine g_get fX4_22 rfl rfl dX4_readTower_45 ?_
        refine n_if_ne (tgt := 57) (rng_lit 1 rfl) dX4_readTower_48 (by decide) (fun h48 => ?_) (fun h48 => ?_)
        · refine g_vret rfl dX4_readTower_57 ?_
          have z0_ : ho (le (p + 1) - 48) = 0 := by
            rw [if_pos ⟨c1.1, by have := c1.2.1; omega, by have := c1.2.2; omega⟩] at qq
            omega
          exact gE_i rfl (by first | rw [if_pos ⟨c1, z0_⟩, if_neg c2] | rw [if_pos ⟨c1, z0_⟩, if_pos c2] | rw [if_pos ⟨c1, z0_⟩])
        · exact absurd h48 (by decide)
    · skip
      refine c_V (st1 := [.int (nI 1)]) (ctX4_figure_n (lo := 1) (hi := 8) hln (by omega) (by omega) (by omega) (by omega) hle (fun z => by first | exact absurd z.2 (by omega) | exact absurd z.1 (by assumption))) kX4_figure lX4_42 (by decide) rfl rfl rfl rfl (by exact Nat.le_of_ble_eq_true rfl) dX4_readTower_33 rfl rfl ?_
      refine g_istore_n (i := 2) (lv' := [(2, .int (nI 1)), (0, .ref 1), (1, .ref 9)]) dX4_readTower_36 rfl (by decide) rfl ?_
      refine g_aload_n (i := 0) (j := 1) dX4_readTower_37 rfl rfl ?_
      refine g_iconst (v := nI 1) dX4_readTower_38 (by decide) ?_
      refine g_iconst (v := nI 4) dX4_readTower_39 (by decide) ?_
      refine c_V (st1 := [.int (nI 1)]) (ctX4_figure_n (lo := 1) (hi := 4) hln (by omega) (by omega) (by omega) (by omega) hle (fun z => by first | exact absurd z.2 (by omega) | exact absurd z.1 (by assumption))) kX4_figure lX4_42 (by decide) rfl rfl rfl rfl (by exact Nat.le_of_ble_eq_true rfl) dX4_readTower_40 rfl rfl ?_
      refine g_istore_n (i := 3) (lv' := [(3, .int (nI 1)), (2, .int (nI 1)), (0, .ref 1), (1, .ref 9)]) dX4_readTower_43 rfl (by decide) rfl ?_
      refine g_aload_n (i := 0) (j := 2) dX4_readTower_44 rfl rfl ?_
      refine g_get fX4_22 rfl rfl dX4_readTower_45 ?_
      refine n_if_ne (tgt := 57) (rng_lit 1 rfl) dX4_readTower_48 (by decide) (fun h48 => ?_) (fun h48 => ?_)
      · refine g_vret rfl dX4_readTower_57 ?_
        refine gE_i rfl ?_
        rw [if_neg (fun z => by
          obtain ⟨z1, z2⟩ := z
          first | exact c1 z1 | (rw [if_pos ⟨z1.1, by have := z1.2.1; omega, by have := z1.2.2; omega⟩] at qq; omega))]
      · exact absurd h48 (by decide)
  · refine g_aload_n (i := 0) (j := 0) dX4_readTower_24 rfl rfl ?_
    refine g_iconst (v := nI 1) dX4_readTower_25 (by decide) ?_
    refine n_putZ (by omega) (ws' := wC e0 (kT ln (p + 1) 1) (kI 56 le) e3 e4 e5 e6 e7 e8 (kG9 wk tw sf lo ri la) e10 e11 (kI 10 ho) e13 e14 e16 e17 e19 e21 e22 e23 e25 e26) fX4_22 fp_X4_3 rfl (by exact Nat.le_of_ble_eq_true rfl) dX4_readTower_26 rfl ?_
    refine g_aload_n (i := 0) (j := 0) dX4_readTower_29 rfl rfl ?_
    refine g_iconst (v := nI 1) dX4_readTower_30 (by decide) ?_
    refine g_bipush (v := nI 8) dX4_readTower_31 (by decide) ?_
    refine c_V (st1 := [.int (nI 1)]) (ctX4_figure_n (lo := 1) (hi := 8) hln (by omega) (by omega) (by omega) (by omega) hle (fun z => by first | exact absurd z.2 (by omega) | exact absurd z.1 (by assumption))) kX4_figure lX4_42 (by decide) rfl rfl rfl rfl (by exact Nat.le_of_ble_eq_true rfl) dX4_readTower_33 rfl rfl ?_
    refine g_istore_n (i := 2) (lv' := [(2, .int (nI 1)), (0, .ref 1), (1, .ref 9)]) dX4_readTower_36 rfl (by decide) rfl ?_
    refine g_aload_n (i := 0) (j := 1) dX4_readTower_37 rfl rfl ?_
    refine g_iconst (v := nI 1) dX4_readTower_38 (by decide) ?_
    refine g_iconst (v := nI 4) dX4_readTower_39 (by decide) ?_
    refine c_V (st1 := [.int (nI 1)]) (ctX4_figure_n (lo := 1) (hi := 4) hln (by omega) (by omega) (by omega) (by omega) hle (fun z => by first | exact absurd z.2 (by omega) | exact absurd z.1 (by assumption))) kX4_figure lX4_42 (by decide) rfl rfl rfl rfl (by exact Nat.le_of_ble_eq_true rfl) dX4_readTower_40 rfl rfl ?_
    refine g_istore_n (i := 3) (lv' := [(3, .int (nI 1)), (2, .int (nI 1)), (0, .ref 1), (1, .ref 9)]) dX4_readTower_43 rfl (by decide) rfl ?_
    refine g_aload_n (i := 0) (j := 2) dX4_readTower_44 rfl rfl ?_
    refine g_get fX4_22 rfl rfl dX4_readTower_45 ?_
    refine n_if_ne (tgt := 57) (rng_lit 1 rfl) dX4_readTower_48 (by decide) (fun h48 => ?_) (fun h48 => ?_)
    · refine g_vret rfl dX4_readTower_57 ?_
      refine gE_i rfl ?_
      rw [if_neg (fun z => by
        obtain ⟨z1, z2⟩ := z
        first | exact c1 z1 | (rw [if_pos ⟨z1.1, by have := z1.2.1; omega, by have := z1.2.2; omega⟩] at qq; omega))]
    · exact absurd h48 (by decide)

theorem ctX4_readSoft_9 {e0 e3 e4 e5 e6 e7 e8 e10 e12 e13 e14 e16 e17 e19 e21 e22 e23 e25 e26 : va_E} {so : Nat → Nat} {wk tw sf lo ri la : Nat} {p : Nat} {le : Nat → Nat} {ln : Nat} (hln : ln ≤ 56) (hle : ∀ k, le k ≤ 255) (hp : p ≤ 55) (hw : sf < 8) (hso : ∀ k, so k ≤ 1) : Ct mX4_readSoft 2 [.ref 1, .ref 9] (wC e0 (kT ln p 0) (kI 56 le) e3 e4 e5 e6 e7 e8 (kG9 wk tw sf lo ri la) e10 (kZ 10 so) e12 e13 e14 e16 e17 e19 e21 e22 e23 e25 e26) (gE none (if dg le ln (p + 1) 1 8 ∧ so (le (p + 1) - 48) = 0 then wC e0 (kT ln (p + 2) 0) (kI 56 le) e3 e4 e5 e6 e7 e8 (kG9 wk tw (sf + 1) lo ri la) e10 (kZ 10 (va_up so (le (p + 1) - 48) 1)) e12 e13 e14 e16 e17 e19 e21 e22 e23 e25 e26 else wC e0 (kT ln (p + 1) 1) (kI 56 le) e3 e4 e5 e6 e7 e8 (kG9 wk tw sf lo ri la) e10 (kZ 10 so) e12 e13 e14 e16 e17 e19 e21 e22 e23 e25 e26)) := by
  refine Ct.of (by decide) (by exact Nat.le_of_ble_eq_true rfl) ?_
  show Go mX4_readSoft 2 0 [(0, .ref 1), (1, .ref 9)] [] (wC e0 (kT ln p 0) (kI 56 le) e3 e4 e5 e6 e7 e8 (kG9 wk tw sf lo ri la) e10 (kZ 10 so) e12 e13 e14 e16 e17 e19 e21 e22 e23 e25 e26) (gE none (if dg le ln (p + 1) 1 8 ∧ so (le (p + 1) - 48) = 0 then wC e0 (kT ln (p + 2) 0) (kI 56 le) e3 e4 e5 e6 e7 e8 (kG9 wk tw (sf + 1) lo ri la) e10 (kZ 10 (va_up so (le (p + 1) - 48) 1)) e12 e13 e14 e16 e17 e19 e21 e22 e23 e25 e26 else wC e0 (kT ln (p + 1) 1) (kI 56 le) e3 e4 e5 e6 e7 e8 (kG9 wk tw sf lo ri la) e10 (kZ 10 so) e12 e13 e14 e16 e17 e19 e21 e22 e23 e25 e26))
  refine g_aload_n (i := 0) (j := 0) dX4_readSoft_0 rfl rfl ?_
  refine g_dup dX4_readSoft_1 rfl ?_
  refine g_get fX4_19 rfl rfl dX4_readSoft_2 ?_
  refine g_iconst (v := nI 1) dX4_readSoft_5 (by decide) ?_
  refine n_iadd (a := p) (b := 1) dX4_readSoft_6 ?_
  refine n_putI (ws' := wC e0 (kT ln (p + 1) 0) (kI 56 le) e3 e4 e5 e6 e7 e8 (kG9 wk tw sf lo ri la) e10 (kZ 10 so) e12 e13 e14 e16 e17 e19 e21 e22 e23 e25 e26) fX4_19 fp_X4_2 rfl (by exact Nat.le_of_ble_eq_true rfl) dX4_readSoft_7 rfl ?_
  refine g_aload_n (i := 1) (j := 1) dX4_readSoft_10 rfl rfl ?_
  refine g_aload_n (i := 0) (j := 0) dX4_readSoft_11 rfl rfl ?_
  refine c_V (st1 := [.int (lH le ln (p + 1)), .ref 9]) (ctX4_letterHere  (by omega) (by omega)) kX4_letterHere lX4_38 (by decide) rfl rfl rfl rfl (by exact Nat.le_of_ble_eq_true rfl) dX4_readSoft_12 rfl rfl ?_
  refine g_bipush (v := nI 48) dX4_readSoft_15 (by decide) ?_
  refine g_isub dX4_readSoft_17 ?_
  refine c_V (st1 := [.int (nI (hR so ((lH le ln (p + 1)) - (nI 48))))]) (ctX1_isSoft_r9 (x := ((lH le ln (p + 1)) - (nI 48))) hso) kX1_isSoft lX4_87 (by decide) rfl rfl rfl rfl (by exact Nat.le_of_ble_eq_true rfl) dX4_readSoft_18 rfl rfl ?_
  have qq := hR_eq (le := le) (f := so) (ln := ln) (p := p + 1) hle
  have qb : hR so (lH le ln (p + 1) - nI 48) ≤ 207 := by
    rw [qq]
    split
    · exact Nat.le_trans (hso _) (by omega)
    · omega
  refine n_if_eq (tgt := 29) (by omega) dX4_readSoft_21 (by decide) (fun h21 => ?_) (fun h21 => ?_)
  · refine g_aload_n (i := 0) (j := 0) dX4_readSoft_29 rfl rfl ?_
    refine g_iconst (v := nI 1) dX4_readSoft_30 (by decide) ?_
    refine g_bipush (v := nI 8) dX4_readSoft_31 (by decide) ?_
    by_cases c1 : dg le ln (p + 1) 1 8
    · skip
      refine c_V (st1 := [.int (nI (le (p + 1) - 48))]) (ctX4_figure_y (lo := 1) (hi := 8) hln (by omega) (by omega) (by omega) hle (by assumption)) kX4_figure lX4_42 (by decide) rfl rfl rfl rfl (by exact Nat.le_of_ble_eq_true rfl) dX4_readSoft_33 rfl rfl ?_
      refine g_istore_n (i := 2) (lv' := [(2, .int (nI (le (p + 1) - 48))), (0, .ref 1), (1, .ref 9)]) dX4_readSoft_36 rfl (by decide) rfl ?_
      refine g_aload_n (i := 0) (j := 1) dX4_readSoft_37 rfl rfl ?_
      refine g_get fX4_22 rfl rfl dX4_readSoft_38 ?_
      refine n_if_ne (tgt := 49) (rng_lit 0 rfl) dX4_readSoft_41 (by decide) (fun h41 => ?_) (fun h41 => ?_)
      · exact absurd h41 (by decide)
      · refine g_aload_n (i := 1) (j := 2) dX4_readSoft_44 rfl rfl ?_
        refine g_iload_n (i := 2) (j := 0) dX4_readSoft_45 rfl rfl ?_
        refine c_V (st1 := []) (ctX1_addSoft_9 (c := le (p + 1) - 48) (by have := c1.2.2; omega)) kX1_addSoft lX4_91 (by decide) rfl rfl rfl rfl (by exact Nat.le_of_ble_eq_true rfl) dX4_readSoft_46 rfl rfl ?_
        refine g_vret rfl dX4_readSoft_49 ?_
        have z0_ : so (le (p + 1) - 48) = 0 := by
          rw [if_pos ⟨c1.1, by have := c1.2.1; omega, by have := c1.2.2; omega⟩] at qq
          omega
        exact gE_i rfl (by first | rw [if_pos ⟨c1, z0_⟩, if_neg c2] | rw [if_pos ⟨c1, z0_⟩, if_pos c2] | rw [if_pos ⟨c1, z0_⟩])
    · skip
      refine c_V (st1 := [.int (nI 1)]) (ctX4_figure_n (lo := 1) (hi := 8) hln (by omega) (by omega) (by omega) (by omega) hle (fun z => by first | exact absurd z.2 (by omega) | exact absurd z.1 (by assumption))) kX4_figure lX4_42 (by decide) rfl rfl rfl rfl (by exact Nat.le_of_ble_eq_true rfl) dX4_readSoft_33 rfl rfl ?_
      refine g_istore_n (i := 2) (lv' := [(2, .int (nI 1)), (0, .ref 1), (1, .ref 9)]) dX4_readSoft_36 rfl (by decide) rfl ?_
      refine g_aload_n (i := 0) (j := 1) dX4_readSoft_37 rfl rfl ?_
      refine g_get fX4_22 rfl rfl dX4_readSoft_38 ?_
      refine n_if_ne (tgt := 49) (rng_lit 1 rfl) dX4_readSoft_41 (by decide) (fun h41 => ?_) (fun h41 => ?_)
      · refine g_vret rfl dX4_readSoft_49 ?_
        refine gE_i rfl ?_
        rw [if_neg (fun z => by
          obtain ⟨z1, z2⟩ := z
          first | exact c1 z1 | (rw [if_pos ⟨z1.1, by have := z1.2.1; omega, by have := z1.2.2; omega⟩] at qq; omega))]
      · exact absurd h41 (by decide)
  · refine g_aload_n (i := 0) (j := 0) dX4_readSoft_24 rfl rfl ?_
    refine g_iconst (v := nI 1) dX4_readSoft_25 (by decide) ?_
    refine n_putZ (by omega) (ws' := wC e0 (kT ln (p + 1) 1) (kI 56 le) e3 e4 e5 e6 e7 e8 (kG9 wk tw sf lo ri la) e10 (kZ 10 so) e12 e13 e14 e16 e17 e19 e21 e22 e23 e25 e26) fX4_22 fp_X4_3 rfl (by exact Nat.le_of_ble_eq_true rfl) dX4_readSoft_26 rfl ?_
    refine g_aload_n (i := 0) (j := 0) dX4_readSoft_29 rfl rfl ?_
    refine g_iconst (v := nI 1) dX4_readSoft_30 (by decide) ?_
    refine g_bipush (v := nI 8) dX4_readSoft_31 (by decide) ?_
    refine c_V (st1 := [.int (nI 1)]) (ctX4_figure_n (lo := 1) (hi := 8) hln (by omega) (by omega) (by omega) (by omega) hle (fun z => by first | exact absurd z.2 (by omega) | exact absurd z.1 (by assumption))) kX4_figure lX4_42 (by decide) rfl rfl rfl rfl (by exact Nat.le_of_ble_eq_true rfl) dX4_readSoft_33 rfl rfl ?_
    refine g_istore_n (i := 2) (lv' := [(2, .int (nI 1)), (0, .ref 1), (1, .ref 9)]) dX4_readSoft_36 rfl (by decide) rfl ?_
    refine g_aload_n (i := 0) (j := 1) dX4_readSoft_37 rfl rfl ?_
    refine g_get fX4_22 rfl rfl dX4_readSoft_38 ?_
    refine n_if_ne (tgt := 49) (rng_lit 1 rfl) dX4_readSoft_41 (by decide) (fun h41 => ?_) (fun h41 => ?_)
    · refine g_vret rfl dX4_readSoft_49 ?_
      refine gE_i rfl ?_
      rw [if_neg (fun z => by
        obtain ⟨z1, z2⟩ := z
        first | exact c1 z1 | (rw [if_pos ⟨z1.1, by have := z1.2.1; omega, by have := z1.2.2; omega⟩] at qq; omega))]
    · exact absurd h41 (by decide)

