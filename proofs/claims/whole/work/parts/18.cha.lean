/-! part 18: chances -/
/-- a day of the channel, cell by cell -/
def wSt (o : Nat → Nat) (a b : Nat) (f : Nat → Nat) (c : Nat) : Nat → Nat :=
  va_up (va_up (va_up f (max 1 (c - 1)) (f (max 1 (c - 1)) + o c * a)) (min 8 (c + 1)) (va_up f (max 1 (c - 1)) (f (max 1 (c - 1)) + o c * a) (min 8 (c + 1)) + o c * b)) c
    (va_up (va_up f (max 1 (c - 1)) (f (max 1 (c - 1)) + o c * a)) (min 8 (c + 1)) (va_up f (max 1 (c - 1)) (f (max 1 (c - 1)) + o c * a) (min 8 (c + 1)) + o c * b) c + o c * (10 - a - b))
def wDay (o : Nat → Nat) (a b : Nat) (f : Nat → Nat) : Nat → Nat → Nat
  | 0 => f
  | n + 1 => wSt o a b (wDay o a b f n) (n + 1)
def sOdds (c a b : Nat) : Nat → Nat → Nat
  | 0 => fun j => if j = c then 1 else 0
  | n + 1 => wDay (sOdds c a b n) a b (fun _ => 0) 8
def eq10 (f g : Nat → Nat) : Prop := ∀ j, j < 10 → f j = g j
theorem eq10_up {f g : Nat → Nat} (h : eq10 f g) {k x y : Nat} (e : x = y) : eq10 (va_up f k x) (va_up g k y) := by
  intro j hj
  unfold va_up
  split
  · exact e
  · exact h j hj
theorem wSt_congr {o o' f g : Nat → Nat} {a b c : Nat} (ho : eq10 o o') (h : eq10 f g) (h1 : 1 ≤ c) (h8 : c ≤ 8) : eq10 (wSt o a b f c) (wSt o' a b g c) := by
  have e1 : eq10 (va_up f (max 1 (c - 1)) (f (max 1 (c - 1)) + o c * a)) (va_up g (max 1 (c - 1)) (g (max 1 (c - 1)) + o' c * a)) := eq10_up h (by rw [h _ (by omega), ho c (by omega)])
  have e2 : eq10 (va_up (va_up f (max 1 (c - 1)) (f (max 1 (c - 1)) + o c * a)) (min 8 (c + 1)) (va_up f (max 1 (c - 1)) (f (max 1 (c - 1)) + o c * a) (min 8 (c + 1)) + o c * b)) (va_up (va_up g (max 1 (c - 1)) (g (max 1 (c - 1)) + o' c * a)) (min 8 (c + 1)) (va_up g (max 1 (c - 1)) (g (max 1 (c - 1)) + o' c * a) (min 8 (c + 1)) + o' c * b)) := eq10_up e1 (by rw [e1 _ (by omega), ho c (by omega)])
  exact eq10_up e2 (by rw [e2 _ (by omega), ho c (by omega)])
theorem wDay_congr {o o' f g : Nat → Nat} {a b : Nat} (ho : eq10 o o') (h : eq10 f g) : ∀ n, n ≤ 8 → eq10 (wDay o a b f n) (wDay o' a b g n)
  | 0, _ => h
  | n + 1, hn => wSt_congr ho (wDay_congr ho h n (by omega)) (by omega) (by omega)
def tot (f : Nat → Nat) : Nat := f 1 + f 2 + f 3 + f 4 + f 5 + f 6 + f 7 + f 8
theorem tot_up (f : Nat → Nat) (x : Nat) {i : Nat} (h1 : 1 ≤ i) (h8 : i ≤ 8) : tot (va_up f i (f i + x)) = tot f + x := by
  have h : i = 1 ∨ i = 2 ∨ i = 3 ∨ i = 4 ∨ i = 5 ∨ i = 6 ∨ i = 7 ∨ i = 8 := by omega
  rcases h with rfl | rfl | rfl | rfl | rfl | rfl | rfl | rfl <;> simp [tot, va_up] <;> omega
theorem tot_wSt {o f : Nat → Nat} {a b c : Nat} (hab : a + b ≤ 10) (h1 : 1 ≤ c) (h8 : c ≤ 8) : tot (wSt o a b f c) = tot f + o c * 10 := by
  unfold wSt
  rw [tot_up _ _ h1 h8, tot_up _ _ (by omega) (by omega), tot_up _ _ (by omega) (by omega), show o c * 10 = o c * a + o c * b + o c * (10 - a - b) by rw [← Nat.mul_add, ← Nat.mul_add]; congr 1; omega]
  omega
theorem tot_sOdds {c a b : Nat} (hab : a + b ≤ 10) (h1 : 1 ≤ c) (h8 : c ≤ 8) : ∀ n, tot (sOdds c a b n) = 10 ^ n
  | 0 => by
    have h : c = 1 ∨ c = 2 ∨ c = 3 ∨ c = 4 ∨ c = 5 ∨ c = 6 ∨ c = 7 ∨ c = 8 := by omega
    rcases h with rfl | rfl | rfl | rfl | rfl | rfl | rfl | rfl <;> simp [tot, sOdds]
  | n + 1 => by
    have ih := tot_sOdds hab h1 h8 n
    rw [sOdds]
    simp only [wDay]
    rw [tot_wSt hab (by omega) (by omega), tot_wSt hab (by omega) (by omega), tot_wSt hab (by omega) (by omega), tot_wSt hab (by omega) (by omega), tot_wSt hab (by omega) (by omega), tot_wSt hab (by omega) (by omega), tot_wSt hab (by omega) (by omega), tot_wSt hab (by omega) (by omega), Nat.pow_succ, ← ih]
    simp only [tot, Nat.zero_add, Nat.reduceAdd]
    omega
theorem sOdds_le {c a b n d : Nat} (hab : a + b ≤ 10) (h1 : 1 ≤ c) (h8 : c ≤ 8) (d1 : 1 ≤ d) (d8 : d ≤ 8) : sOdds c a b n d ≤ 10 ^ n := by
  have h := tot_sOdds hab h1 h8 n
  have hd : d = 1 ∨ d = 2 ∨ d = 3 ∨ d = 4 ∨ d = 5 ∨ d = 6 ∨ d = 7 ∨ d = 8 := by omega
  unfold tot at h
  rcases hd with rfl | rfl | rfl | rfl | rfl | rfl | rfl | rfl <;> omega
/-- n places of the one, the rest of the other -/
def cpf (n : Nat) (f g : Nat → Nat) : Nat → Nat := fun j => if j < n then f j else g j
theorem cpf_0 (f g : Nat → Nat) : cpf 0 f g = g := by funext j; simp [cpf]
theorem cpf_s (n : Nat) (f g : Nat → Nat) : va_up (cpf n f g) n (f n) = cpf (n + 1) f g := by
  funext j
  simp only [va_up, cpf]
  by_cases h : j = n
  · subst h; simp
  · by_cases h2 : j < n
    · rw [if_neg h, if_pos h2, if_pos (by omega)]
    · rw [if_neg h, if_neg h2, if_neg (by omega)]
def pChannel (c d a b n : Int32) (u : Nat) : Int32 := if (iW c 9 ∧ ¬ c = nI 0) ∧ (iW d 9 ∧ ¬ d = nI 0) ∧ (iW a 11 ∧ iW b 11 ∧ cN a + cN b ≤ 10) ∧ iW n 6 then nI (sTold (sOdds (cN c) (cN a) (cN b) (cN n) (cN d)) (10 ^ cN n) u) else -2
def sTerm (n p t : Nat) : Nat := sChN n t t * p ^ t * (10 - p) ^ (n - t)
def sStS (n p : Nat) : Nat → Nat
  | 0 => 0
  | m + 1 => sStS n p m + sTerm n p (n / 2 + 1 + m)
theorem sStS_le : ∀ n, n ≤ 6 → ∀ p, p ≤ 10 → ∀ m, m ≤ n - n / 2 → sStS n p m ≤ 1000000 := by decide +kernel
def pSticks (n x w : Int32) (u : Nat) : Int32 := if (iW n 7 ∧ ¬ n = nI 0) ∧ iW x 11 ∧ iW w 10 then nI (sTold (sStS (cN n) (cN x - cN w) (cN n - cN n / 2)) (10 ^ cN n) u) else -2
def sWd (h so pa wa : Nat → Nat) (lo ri la k t a b : Nat) : Nat := (if (sArr h so la ri (pa k) (wa k) (lo - 1) 1 0 t).isSome then a else 0) + (if (sArr h so la ri (pa k) (wa k) (min 40 (lo + 1)) 1 0 t).isSome then b else 0) + (if (sArr h so la ri (pa k) (wa k) lo 1 0 t).isSome then 10 - a - b else 0)
def pWind (h so pa wa : Nat → Nat) (wk lo ri la : Nat) (k t a b : Int32) (u : Nat) : Int32 := if iW k wk then (if iW t 41 ∧ (iW a 11 ∧ iW b 11 ∧ cN a + cN b ≤ 10) then nI (sTold (sWd h so pa wa lo ri la (cN k) (cN t) (cN a) (cN b)) 10 u) else -2) else -1
/-- the draw -/
def sNext (x : Int64) : Int64 := x * 6364136223846793005 + 1442695040888963407
def sShr (x : Int64) : Int64 := (x.toUInt64 >>> ((nI 33).toInt64.toUInt64 &&& Int64.toUInt64 63)).toInt64
def sWayD (x : Int64) : Nat := if sShr x - sShr x / 4 * 4 = lN 0 then 2 else 1
theorem sWayD_le (x : Int64) : sWayD x ≤ 2 := by unfold sWayD; split <;> omega
def sFog (h so : Nat → Nat) (la ri pa wa lo : Nat) : Nat → Int64 → Nat → Nat → Nat → Int64 × Nat × Nat
  | 0, sd, c, _, f => (sd, c, f)
  | m + 1, sd, c, s, f => if f = 0 then sFog h so la ri pa wa lo m (sNext sd) (sTo h pa wa c (sWayD (sNext sd)) (sWater la ri s lo)) (s + 1) (sFate h so wa c (sTo h pa wa c (sWayD (sNext sd)) (sWater la ri s lo)) (sWayD (sNext sd)) (sWater la ri (s + 1) lo) 0) else (sd, c, f)
abbrev cFog (wk : Nat) (k t m : Int32) : Prop := iW k wk ∧ iW t 41 ∧ (iW m 21 ∧ ¬ m = nI 0) ∧ cN t + cN m ≤ 40
def sFogP (h so pa wa : Nat → Nat) (lo ri la : Nat) (sd : Int64) (k t m : Int32) : Int64 × Nat × Nat := sFog h so la ri (pa (cN k)) (wa (cN k)) lo (cN m) sd 0 (cN t) 0
def pFog (h so pa wa : Nat → Nat) (wk lo ri la : Nat) (sd : Int64) (k t m : Int32) : Int32 := if iW k wk then (if iW t 41 ∧ (iW m 21 ∧ ¬ m = nI 0) ∧ cN t + cN m ≤ 40 then (if (sFogP h so pa wa lo ri la sd k t m).2.2 = 2 ∨ (sFogP h so pa wa lo ri la sd k t m).2.2 = 3 then -9 else nI (sFogP h so pa wa lo ri la sd k t m).2.1) else -2) else -1
theorem lp_won3 {e0 e1 e2 e3 e4 e5 e6 e7 e8 e9 e10 e11 e12 e13 e14 e16 e17 e19 e21 e22 e23 : va_E} {od cm : Nat → Nat} {a b : Nat} (hab : a + b ≤ 10) : ∀ (n i : Nat), i + n = 10 → Go mX6_wanderOn 1 106 [(0, .ref 24), (1, .int (nI a)), (2, .int (nI b)), (3, .int (nI i))] [] (wC e0 e1 e2 e3 e4 e5 e6 e7 e8 e9 e10 e11 e12 e13 e14 e16 e17 e19 e21 e22 e23 (kI 10 (cpf i (wDay od a b (zf 10 cm) 8) od)) (kI 10 (wDay od a b (zf 10 cm) 8))) (gE none (wC e0 e1 e2 e3 e4 e5 e6 e7 e8 e9 e10 e11 e12 e13 e14 e16 e17 e19 e21 e22 e23 (kI 10 (cpf 10 (wDay od a b (zf 10 cm) 8) od)) (kI 10 (wDay od a b (zf 10 cm) 8)))) := by
  intro n
  induction n with
  | zero =>
    intro i hi
    obtain rfl : i = 10 := by omega
    refine g_iload_n (i := 3) (j := 3) dX6_wanderOn_106 rfl rfl ?_
    refine g_bipush (v := nI 10) dX6_wanderOn_107 (by decide) ?_
    refine n_icmp_ge (tgt := 130) (rng_lit 10 rfl) (rng_lit 10 rfl) dX6_wanderOn_109 (by decide) (fun h109 => ?_) (fun h109 => ?_)
    · refine g_vret rfl dX6_wanderOn_130 ?_
      exact gE_i rfl rfl
    · exact absurd h109 (by decide)

  | succ n ih =>
    intro i hi
    refine g_iload_n (i := 3) (j := 3) dX6_wanderOn_106 rfl rfl ?_
    refine g_bipush (v := nI 10) dX6_wanderOn_107 (by decide) ?_
    refine n_icmp_ge (tgt := 130) (by omega) (rng_lit 10 rfl) dX6_wanderOn_109 (by decide) (fun h109 => ?_) (fun h109 => ?_)
    · exfalso; omega
    · refine g_aload_n (i := 0) (j := 0) dX6_wanderOn_112 rfl rfl ?_
      refine g_get fX6_9 rfl rfl dX6_wanderOn_113 ?_
      refine g_iload_n (i := 3) (j := 3) dX6_wanderOn_116 rfl rfl ?_
      refine g_aload_n (i := 0) (j := 0) dX6_wanderOn_117 rfl rfl ?_
      refine g_get fX6_15 rfl rfl dX6_wanderOn_118 ?_
      refine g_iload_n (i := 3) (j := 3) dX6_wanderOn_121 rfl rfl ?_
      refine n_iald (x := i) rfl (by omega) (rng_lit 10 rfl) dX6_wanderOn_122 ?_
      refine n_iast (x := i) (ws' := wC e0 e1 e2 e3 e4 e5 e6 e7 e8 e9 e10 e11 e12 e13 e14 e16 e17 e19 e21 e22 e23 (kI 10 (va_up (cpf i (wDay od a b (zf 10 cm) 8) od) i ((wDay od a b (zf 10 cm) 8) i))) (kI 10 (wDay od a b (zf 10 cm) 8))) rfl (by omega) (rng_lit 10 rfl) dX6_wanderOn_123 rfl ?_
      refine n_inc (x := i) (j := 3) (lv' := [(3, .int (nI (i + 1))), (0, .ref 24), (1, .int (nI a)), (2, .int (nI b))]) dX6_wanderOn_124 rfl (by decide) rfl ?_
      refine g_goto (tgt := 106) dX6_wanderOn_127 (by decide) ?_
      refine g_lv [1, 2, 3, 0] rfl ?_
      refine g_ws (ws' := wC e0 e1 e2 e3 e4 e5 e6 e7 e8 e9 e10 e11 e12 e13 e14 e16 e17 e19 e21 e22 e23 (kI 10 (cpf (i + 1) (wDay od a b (zf 10 cm) 8) od)) (kI 10 (wDay od a b (zf 10 cm) 8))) (by rw [cpf_s]) ?_
      exact ih (i + 1) (by omega)

theorem lp_won2 {e0 e1 e2 e3 e4 e5 e6 e7 e8 e9 e10 e11 e12 e13 e14 e16 e17 e19 e21 e22 e23 : va_E} {od cm : Nat → Nat} {a b : Nat} (hab : a + b ≤ 10) : ∀ (n i : Nat), i + n = 8 → Go mX6_wanderOn 1 23 [(0, .ref 24), (1, .int (nI a)), (2, .int (nI b)), (3, .int (nI (i + 1)))] [] (wC e0 e1 e2 e3 e4 e5 e6 e7 e8 e9 e10 e11 e12 e13 e14 e16 e17 e19 e21 e22 e23 (kI 10 od) (kI 10 (wDay od a b (zf 10 cm) i))) (gE none (wC e0 e1 e2 e3 e4 e5 e6 e7 e8 e9 e10 e11 e12 e13 e14 e16 e17 e19 e21 e22 e23 (kI 10 (cpf 10 (wDay od a b (zf 10 cm) 8) od)) (kI 10 (wDay od a b (zf 10 cm) 8)))) := by
  intro n
  induction n with
  | zero =>
    intro i hi
    obtain rfl : i = 8 := by omega
    refine g_iload_n (i := 3) (j := 3) dX6_wanderOn_23 rfl rfl ?_
    refine g_bipush (v := nI 9) dX6_wanderOn_24 (by decide) ?_
    refine n_icmp_ge (tgt := 104) (rng_lit 9 rfl) (rng_lit 9 rfl) dX6_wanderOn_26 (by decide) (fun h26 => ?_) (fun h26 => ?_)
    · refine g_iconst (v := nI 0) dX6_wanderOn_104 (by decide) ?_
      refine g_istore_n (i := 3) (lv' := [(3, .int (nI 0)), (0, .ref 24), (1, .int (nI a)), (2, .int (nI b))]) dX6_wanderOn_105 rfl (by decide) rfl ?_
      refine g_lv [1, 2, 3, 0] rfl ?_
      refine g_ws (ws' := wC e0 e1 e2 e3 e4 e5 e6 e7 e8 e9 e10 e11 e12 e13 e14 e16 e17 e19 e21 e22 e23 (kI 10 (cpf 0 (wDay od a b (zf 10 cm) 8) od)) (kI 10 (wDay od a b (zf 10 cm) 8))) (by rw [cpf_0]) ?_
      exact lp_won3 hab 10 0 (by omega)
    · exact absurd h26 (by decide)

  | succ n ih =>
    intro i hi
    refine g_iload_n (i := 3) (j := 3) dX6_wanderOn_23 rfl rfl ?_
    refine g_bipush (v := nI 9) dX6_wanderOn_24 (by decide) ?_
    refine n_icmp_ge (tgt := 104) (by omega) (rng_lit 9 rfl) dX6_wanderOn_26 (by decide) (fun h26 => ?_) (fun h26 => ?_)
    · exfalso; omega
    · refine g_aload_n (i := 0) (j := 0) dX6_wanderOn_29 rfl rfl ?_
      refine g_get fX6_15 rfl rfl dX6_wanderOn_30 ?_
      refine g_iconst (v := nI 1) dX6_wanderOn_33 (by decide) ?_
      refine g_iload_n (i := 3) (j := 3) dX6_wanderOn_34 rfl rfl ?_
      refine g_iconst (v := nI 1) dX6_wanderOn_35 (by decide) ?_
      refine n_isub (a := (i + 1)) (b := 1) (by omega) dX6_wanderOn_36 ?_
      refine g_mmax lmX6_26 jm_max_s jm_i jm_max_c (by decide) (by exact Nat.le_of_ble_eq_true rfl) dX6_wanderOn_37 ?_
      refine g_topi (y := (nI (max 1 (i + 1 - 1)))) (max_nI (by omega) (by omega)) ?_
      refine g_dup2 dX6_wanderOn_40 rfl rfl ?_
      refine n_iald (x := (max 1 (i + 1 - 1))) rfl (by omega) (rng_lit 10 rfl) dX6_wanderOn_41 ?_
      refine g_aload_n (i := 0) (j := 0) dX6_wanderOn_42 rfl rfl ?_
      refine g_get fX6_9 rfl rfl dX6_wanderOn_43 ?_
      refine g_iload_n (i := 3) (j := 3) dX6_wanderOn_46 rfl rfl ?_
      refine n_iald (x := (i + 1)) rfl (by omega) (rng_lit 10 rfl) dX6_wanderOn_47 ?_
      refine g_iload_n (i := 1) (j := 1) dX6_wanderOn_48 rfl rfl ?_
      refine n_imul (a := (od (i + 1))) (b := a) dX6_wanderOn_49 ?_
      refine n_iadd (a := ((wDay od a b (zf 10 cm) i) (max 1 (i + 1 - 1)))) (b := ((od (i + 1)) * a)) dX6_wanderOn_50 ?_
      refine n_iast (x := (max 1 (i + 1 - 1))) (ws' := wC e0 e1 e2 e3 e4 e5 e6 e7 e8 e9 e10 e11 e12 e13 e14 e16 e17 e19 e21 e22 e23 (kI 10 od) (kI 10 (va_up (wDay od a b (zf 10 cm) i) (max 1 (i + 1 - 1)) (((wDay od a b (zf 10 cm) i) (max 1 (i + 1 - 1))) + ((od (i + 1)) * a))))) rfl (by omega) (rng_lit 10 rfl) dX6_wanderOn_51 rfl ?_
      refine g_aload_n (i := 0) (j := 0) dX6_wanderOn_52 rfl rfl ?_
      refine g_get fX6_15 rfl rfl dX6_wanderOn_53 ?_
      refine g_bipush (v := nI 8) dX6_wanderOn_56 (by decide) ?_
      refine g_iload_n (i := 3) (j := 3) dX6_wanderOn_58 rfl rfl ?_
      refine g_iconst (v := nI 1) dX6_wanderOn_59 (by decide) ?_
      refine n_iadd (a := (i + 1)) (b := 1) dX6_wanderOn_60 ?_
      refine g_mmin lmX6_32 jm_min_s jm_i jm_min_c (by decide) (by exact Nat.le_of_ble_eq_true rfl) dX6_wanderOn_61 ?_
      refine g_topi (y := (nI (min 8 (i + 1 + 1)))) (min_nI (by omega) (by omega)) ?_
      refine g_dup2 dX6_wanderOn_64 rfl rfl ?_
      refine n_iald (x := (min 8 (i + 1 + 1))) rfl (by omega) (rng_lit 10 rfl) dX6_wanderOn_65 ?_
      refine g_aload_n (i := 0) (j := 0) dX6_wanderOn_66 rfl rfl ?_
      refine g_get fX6_9 rfl rfl dX6_wanderOn_67 ?_
      refine g_iload_n (i := 3) (j := 3) dX6_wanderOn_70 rfl rfl ?_
      refine n_iald (x := (i + 1)) rfl (by omega) (rng_lit 10 rfl) dX6_wanderOn_71 ?_
      refine g_iload_n (i := 2) (j := 2) dX6_wanderOn_72 rfl rfl ?_
      refine n_imul (a := (od (i + 1))) (b := b) dX6_wanderOn_73 ?_
      refine n_iadd (a := ((va_up (wDay od a b (zf 10 cm) i) (max 1 (i + 1 - 1)) (((wDay od a b (zf 10 cm) i) (max 1 (i + 1 - 1))) + ((od (i + 1)) * a))) (min 8 (i + 1 + 1)))) (b := ((od (i + 1)) * b)) dX6_wanderOn_74 ?_
      refine n_iast (x := (min 8 (i + 1 + 1))) (ws' := wC e0 e1 e2 e3 e4 e5 e6 e7 e8 e9 e10 e11 e12 e13 e14 e16 e17 e19 e21 e22 e23 (kI 10 od) (kI 10 (va_up (va_up (wDay od a b (zf 10 cm) i) (max 1 (i + 1 - 1)) (((wDay od a b (zf 10 cm) i) (max 1 (i + 1 - 1))) + ((od (i + 1)) * a))) (min 8 (i + 1 + 1)) (((va_up (wDay od a b (zf 10 cm) i) (max 1 (i + 1 - 1)) (((wDay od a b (zf 10 cm) i) (max 1 (i + 1 - 1))) + ((od (i + 1)) * a))) (min 8 (i + 1 + 1))) + ((od (i + 1)) * b))))) rfl (by omega) (rng_lit 10 rfl) dX6_wanderOn_75 rfl ?_
      refine g_aload_n (i := 0) (j := 0) dX6_wanderOn_76 rfl rfl ?_
      refine g_get fX6_15 rfl rfl dX6_wanderOn_77 ?_
      refine g_iload_n (i := 3) (j := 3) dX6_wanderOn_80 rfl rfl ?_
      refine g_dup2 dX6_wanderOn_81 rfl rfl ?_
      refine n_iald (x := (i + 1)) rfl (by omega) (rng_lit 10 rfl) dX6_wanderOn_82 ?_
      refine g_aload_n (i := 0) (j := 0) dX6_wanderOn_83 rfl rfl ?_
      refine g_get fX6_9 rfl rfl dX6_wanderOn_84 ?_
      refine g_iload_n (i := 3) (j := 3) dX6_wanderOn_87 rfl rfl ?_
      refine n_iald (x := (i + 1)) rfl (by omega) (rng_lit 10 rfl) dX6_wanderOn_88 ?_
      refine g_bipush (v := nI 10) dX6_wanderOn_89 (by decide) ?_
      refine g_iload_n (i := 1) (j := 1) dX6_wanderOn_91 rfl rfl ?_
      refine n_isub (a := 10) (b := a) (by omega) dX6_wanderOn_92 ?_
      refine g_iload_n (i := 2) (j := 2) dX6_wanderOn_93 rfl rfl ?_
      refine n_isub (a := (10 - a)) (b := b) (by omega) dX6_wanderOn_94 ?_
      refine n_imul (a := (od (i + 1))) (b := ((10 - a) - b)) dX6_wanderOn_95 ?_
      refine n_iadd (a := ((va_up (va_up (wDay od a b (zf 10 cm) i) (max 1 (i + 1 - 1)) (((wDay od a b (zf 10 cm) i) (max 1 (i + 1 - 1))) + ((od (i + 1)) * a))) (min 8 (i + 1 + 1)) (((va_up (wDay od a b (zf 10 cm) i) (max 1 (i + 1 - 1)) (((wDay od a b (zf 10 cm) i) (max 1 (i + 1 - 1))) + ((od (i + 1)) * a))) (min 8 (i + 1 + 1))) + ((od (i + 1)) * b))) (i + 1))) (b := ((od (i + 1)) * ((10 - a) - b))) dX6_wanderOn_96 ?_
      refine n_iast (x := (i + 1)) (ws' := wC e0 e1 e2 e3 e4 e5 e6 e7 e8 e9 e10 e11 e12 e13 e14 e16 e17 e19 e21 e22 e23 (kI 10 od) (kI 10 (va_up (va_up (va_up (wDay od a b (zf 10 cm) i) (max 1 (i + 1 - 1)) (((wDay od a b (zf 10 cm) i) (max 1 (i + 1 - 1))) + ((od (i + 1)) * a))) (min 8 (i + 1 + 1)) (((va_up (wDay od a b (zf 10 cm) i) (max 1 (i + 1 - 1)) (((wDay od a b (zf 10 cm) i) (max 1 (i + 1 - 1))) + ((od (i + 1)) * a))) (min 8 (i + 1 + 1))) + ((od (i + 1)) * b))) (i + 1) (((va_up (va_up (wDay od a b (zf 10 cm) i) (max 1 (i + 1 - 1)) (((wDay od a b (zf 10 cm) i) (max 1 (i + 1 - 1))) + ((od (i + 1)) * a))) (min 8 (i + 1 + 1)) (((va_up (wDay od a b (zf 10 cm) i) (max 1 (i + 1 - 1)) (((wDay od a b (zf 10 cm) i) (max 1 (i + 1 - 1))) + ((od (i + 1)) * a))) (min 8 (i + 1 + 1))) + ((od (i + 1)) * b))) (i + 1)) + ((od (i + 1)) * ((10 - a) - b)))))) rfl (by omega) (rng_lit 10 rfl) dX6_wanderOn_97 rfl ?_
      refine n_inc (x := (i + 1)) (j := 3) (lv' := [(3, .int (nI ((i + 1) + 1))), (0, .ref 24), (1, .int (nI a)), (2, .int (nI b))]) dX6_wanderOn_98 rfl (by decide) rfl ?_
      refine g_goto (tgt := 23) dX6_wanderOn_101 (by decide) ?_
      refine g_lv [1, 2, 3, 0] rfl ?_
      exact ih (i + 1) (by omega)

theorem lp_won1 {e0 e1 e2 e3 e4 e5 e6 e7 e8 e9 e10 e11 e12 e13 e14 e16 e17 e19 e21 e22 e23 : va_E} {od cm : Nat → Nat} {a b : Nat} (hab : a + b ≤ 10) : ∀ (n i : Nat), i + n = 10 → Go mX6_wanderOn 1 2 [(0, .ref 24), (1, .int (nI a)), (2, .int (nI b)), (3, .int (nI i))] [] (wC e0 e1 e2 e3 e4 e5 e6 e7 e8 e9 e10 e11 e12 e13 e14 e16 e17 e19 e21 e22 e23 (kI 10 od) (kI 10 (zf i cm))) (gE none (wC e0 e1 e2 e3 e4 e5 e6 e7 e8 e9 e10 e11 e12 e13 e14 e16 e17 e19 e21 e22 e23 (kI 10 (cpf 10 (wDay od a b (zf 10 cm) 8) od)) (kI 10 (wDay od a b (zf 10 cm) 8)))) := by
  intro n
  induction n with
  | zero =>
    intro i hi
    obtain rfl : i = 10 := by omega
    refine g_iload_n (i := 3) (j := 3) dX6_wanderOn_2 rfl rfl ?_
    refine g_bipush (v := nI 10) dX6_wanderOn_3 (by decide) ?_
    refine n_icmp_ge (tgt := 21) (rng_lit 10 rfl) (rng_lit 10 rfl) dX6_wanderOn_5 (by decide) (fun h5 => ?_) (fun h5 => ?_)
    · refine g_iconst (v := nI 1) dX6_wanderOn_21 (by decide) ?_
      refine g_istore_n (i := 3) (lv' := [(3, .int (nI 1)), (0, .ref 24), (1, .int (nI a)), (2, .int (nI b))]) dX6_wanderOn_22 rfl (by decide) rfl ?_
      refine g_lv [1, 2, 3, 0] rfl ?_
      exact lp_won2 hab 8 0 (by omega)
    · exact absurd h5 (by decide)

  | succ n ih =>
    intro i hi
    refine g_iload_n (i := 3) (j := 3) dX6_wanderOn_2 rfl rfl ?_
    refine g_bipush (v := nI 10) dX6_wanderOn_3 (by decide) ?_
    refine n_icmp_ge (tgt := 21) (by omega) (rng_lit 10 rfl) dX6_wanderOn_5 (by decide) (fun h5 => ?_) (fun h5 => ?_)
    · exfalso; omega
    · refine g_aload_n (i := 0) (j := 0) dX6_wanderOn_8 rfl rfl ?_
      refine g_get fX6_15 rfl rfl dX6_wanderOn_9 ?_
      refine g_iload_n (i := 3) (j := 3) dX6_wanderOn_12 rfl rfl ?_
      refine g_iconst (v := nI 0) dX6_wanderOn_13 (by decide) ?_
      refine n_iast (x := i) (ws' := wC e0 e1 e2 e3 e4 e5 e6 e7 e8 e9 e10 e11 e12 e13 e14 e16 e17 e19 e21 e22 e23 (kI 10 od) (kI 10 (va_up (zf i cm) i 0))) rfl (by omega) (rng_lit 10 rfl) dX6_wanderOn_14 rfl ?_
      refine n_inc (x := i) (j := 3) (lv' := [(3, .int (nI (i + 1))), (0, .ref 24), (1, .int (nI a)), (2, .int (nI b))]) dX6_wanderOn_15 rfl (by decide) rfl ?_
      refine g_goto (tgt := 2) dX6_wanderOn_18 (by decide) ?_
      refine g_lv [1, 2, 3, 0] rfl ?_
      refine g_ws (ws' := wC e0 e1 e2 e3 e4 e5 e6 e7 e8 e9 e10 e11 e12 e13 e14 e16 e17 e19 e21 e22 e23 (kI 10 od) (kI 10 (zf (i + 1) cm))) (by rw [zf_s]) ?_
      exact ih (i + 1) (by omega)

theorem ctX6_wanderOn {e0 e1 e2 e3 e4 e5 e6 e7 e8 e9 e10 e11 e12 e13 e14 e16 e17 e19 e21 e22 e23 : va_E} {od cm : Nat → Nat} {a b : Nat} (hab : a + b ≤ 10) : Ct mX6_wanderOn 1 [.ref 24, .int (nI a), .int (nI b)] (wC e0 e1 e2 e3 e4 e5 e6 e7 e8 e9 e10 e11 e12 e13 e14 e16 e17 e19 e21 e22 e23 (kI 10 od) (kI 10 cm)) (gE none (wC e0 e1 e2 e3 e4 e5 e6 e7 e8 e9 e10 e11 e12 e13 e14 e16 e17 e19 e21 e22 e23 (kI 10 (cpf 10 (wDay od a b (zf 10 cm) 8) od)) (kI 10 (wDay od a b (zf 10 cm) 8)))) := by
  refine Ct.of (by decide) (by exact Nat.le_of_ble_eq_true rfl) ?_
  show Go mX6_wanderOn 1 0 [(0, .ref 24), (1, .int (nI a)), (2, .int (nI b))] [] (wC e0 e1 e2 e3 e4 e5 e6 e7 e8 e9 e10 e11 e12 e13 e14 e16 e17 e19 e21 e22 e23 (kI 10 od) (kI 10 cm)) (gE none (wC e0 e1 e2 e3 e4 e5 e6 e7 e8 e9 e10 e11 e12 e13 e14 e16 e17 e19 e21 e22 e23 (kI 10 (cpf 10 (wDay od a b (zf 10 cm) 8) od)) (kI 10 (wDay od a b (zf 10 cm) 8))))
  refine g_iconst (v := nI 0) dX6_wanderOn_0 (by decide) ?_
  refine g_istore_n (i := 3) (lv' := [(3, .int (nI 0)), (0, .ref 24), (1, .int (nI a)), (2, .int (nI b))]) dX6_wanderOn_1 rfl (by decide) rfl ?_
  refine g_lv [1, 2, 3, 0] rfl ?_
  refine g_ws (ws' := wC e0 e1 e2 e3 e4 e5 e6 e7 e8 e9 e10 e11 e12 e13 e14 e16 e17 e19 e21 e22 e23 (kI 10 od) (kI 10 (zf 0 cm))) (by rw [zf_0]) ?_
  exact lp_won1 hab 10 0 (by omega)

theorem lp_odds2 {e0 e1 e2 e3 e4 e5 e6 e7 e8 e9 e10 e11 e12 e13 e14 e16 e17 e19 e21 e22 e23 : va_E} {c d a b n : Nat} (hab : a + b ≤ 10) (hc : 1 ≤ c ∧ c ≤ 8) (hd : 1 ≤ d ∧ d ≤ 8) (hn : n ≤ 5) : ∀ (m i : Nat) (od cm : Nat → Nat), i + m = n → eq10 od (sOdds c a b i) → Go mX6_oddsAt 2 53 [(0, .ref 24), (1, .int (nI c)), (2, .int (nI d)), (3, .int (nI a)), (4, .int (nI b)), (5, .int (nI n)), (6, .int (nI i))] [] (wC e0 e1 e2 e3 e4 e5 e6 e7 e8 e9 e10 e11 e12 e13 e14 e16 e17 e19 e21 e22 e23 (kI 10 od) (kI 10 cm)) (fun v u => v = some (.int (nI (sOdds c a b n d))) ∧ ∃ od2 cm2 : Nat → Nat, u = wC e0 e1 e2 e3 e4 e5 e6 e7 e8 e9 e10 e11 e12 e13 e14 e16 e17 e19 e21 e22 e23 (kI 10 od2) (kI 10 cm2)) := by
  intro m
  induction m with
  | zero =>
    intro i od cm hi he
    obtain rfl : i = n := by omega
    refine g_iload (j := 6) dX6_oddsAt_53 rfl ?_
    refine g_iload (j := 5) dX6_oddsAt_55 rfl ?_
    refine n_icmp_ge (tgt := 73) (by omega) (by omega) dX6_oddsAt_57 (by decide) (fun h57 => ?_) (fun h57 => ?_)
    · refine g_aload_n (i := 0) (j := 0) dX6_oddsAt_73 rfl rfl ?_
      refine g_get fX6_9 rfl rfl dX6_oddsAt_74 ?_
      refine g_iload_n (i := 2) (j := 2) dX6_oddsAt_77 rfl rfl ?_
      refine n_iald (x := d) rfl (by omega) (rng_lit 10 rfl) dX6_oddsAt_78 ?_
      refine g_iret rfl rfl dX6_oddsAt_79 ?_
      exact ⟨by rw [he d (by omega)], _, _, rfl⟩
    · exfalso; omega

  | succ m ih =>
    intro i od cm hi he
    refine g_iload (j := 6) dX6_oddsAt_53 rfl ?_
    refine g_iload (j := 5) dX6_oddsAt_55 rfl ?_
    refine n_icmp_ge (tgt := 73) (by omega) (by omega) dX6_oddsAt_57 (by decide) (fun h57 => ?_) (fun h57 => ?_)
    · exfalso; omega
    · refine g_aload_n (i := 0) (j := 0) dX6_oddsAt_60 rfl rfl ?_
      refine g_iload_n (i := 3) (j := 3) dX6_oddsAt_61 rfl rfl ?_
      refine g_iload (j := 4) dX6_oddsAt_62 rfl ?_
      refine c_V (st1 := []) (ctX6_wanderOn  (by omega)) kX6_wanderOn lX6_22 (by decide) rfl rfl rfl rfl (by exact Nat.le_of_ble_eq_true rfl) dX6_oddsAt_64 rfl rfl ?_
      refine n_inc (x := i) (j := 6) (lv' := [(6, .int (nI (i + 1))), (0, .ref 24), (1, .int (nI c)), (2, .int (nI d)), (3, .int (nI a)), (4, .int (nI b)), (5, .int (nI n))]) dX6_oddsAt_67 rfl (by decide) rfl ?_
      refine g_goto (tgt := 53) dX6_oddsAt_70 (by decide) ?_
      refine g_lv [1, 2, 3, 4, 5, 6, 0] rfl ?_
      exact ih (i + 1) _ _ (by omega) (fun j hj => by
        show cpf 10 _ _ j = _
        unfold cpf
        rw [if_pos hj, sOdds]
        exact wDay_congr he (fun k hk => by simp [zf, hk]) 8 (by omega) j hj)

theorem lp_odds1 {e0 e1 e2 e3 e4 e5 e6 e7 e8 e9 e10 e11 e12 e13 e14 e16 e17 e19 e21 e22 e23 : va_E} {c d a b n : Nat} (hab : a + b ≤ 10) (hc : 1 ≤ c ∧ c ≤ 8) (hd : 1 ≤ d ∧ d ≤ 8) (hn : n ≤ 5) : ∀ (m i : Nat) (od cm : Nat → Nat), i + m = 10 → (∀ j, j < i → od j = if j = c then 1 else 0) → Go mX6_oddsAt 2 19 [(0, .ref 24), (1, .int (nI c)), (2, .int (nI d)), (3, .int (nI a)), (4, .int (nI b)), (5, .int (nI n)), (6, .int (nI i))] [] (wC e0 e1 e2 e3 e4 e5 e6 e7 e8 e9 e10 e11 e12 e13 e14 e16 e17 e19 e21 e22 e23 (kI 10 od) (kI 10 cm)) (fun v u => v = some (.int (nI (sOdds c a b n d))) ∧ ∃ od2 cm2 : Nat → Nat, u = wC e0 e1 e2 e3 e4 e5 e6 e7 e8 e9 e10 e11 e12 e13 e14 e16 e17 e19 e21 e22 e23 (kI 10 od2) (kI 10 cm2)) := by
  intro m
  induction m with
  | zero =>
    intro i od cm hi he
    obtain rfl : i = 10 := by omega
    refine g_iload (j := 6) dX6_oddsAt_19 rfl ?_
    refine g_bipush (v := nI 10) dX6_oddsAt_21 (by decide) ?_
    refine n_icmp_ge (tgt := 50) (rng_lit 10 rfl) (rng_lit 10 rfl) dX6_oddsAt_23 (by decide) (fun h23 => ?_) (fun h23 => ?_)
    · refine g_iconst (v := nI 0) dX6_oddsAt_50 (by decide) ?_
      refine g_istore (lv' := [(6, .int (nI 0)), (0, .ref 24), (1, .int (nI c)), (2, .int (nI d)), (3, .int (nI a)), (4, .int (nI b)), (5, .int (nI n))]) dX6_oddsAt_51 (by decide) rfl ?_
      refine g_lv [1, 2, 3, 4, 5, 6, 0] rfl ?_
      exact lp_odds2 hab hc hd hn n 0 od cm (by omega) (fun j hj => he j hj)
    · exact absurd h23 (by decide)

  | succ m ih =>
    intro i od cm hi he
    refine g_iload (j := 6) dX6_oddsAt_19 rfl ?_
    refine g_bipush (v := nI 10) dX6_oddsAt_21 (by decide) ?_
    refine n_icmp_ge (tgt := 50) (by omega) (rng_lit 10 rfl) dX6_oddsAt_23 (by decide) (fun h23 => ?_) (fun h23 => ?_)
    · exfalso; omega
    · refine g_aload_n (i := 0) (j := 0) dX6_oddsAt_26 rfl rfl ?_
      refine g_get fX6_9 rfl rfl dX6_oddsAt_27 ?_
      refine g_iload (j := 6) dX6_oddsAt_30 rfl ?_
      refine g_iload (j := 6) dX6_oddsAt_32 rfl ?_
      refine g_iload_n (i := 1) (j := 1) dX6_oddsAt_34 rfl rfl ?_
      refine n_icmp_ne (tgt := 42) (by omega) (by omega) dX6_oddsAt_35 (by decide) (fun h35 => ?_) (fun h35 => ?_)
      · refine g_iconst (v := nI 0) dX6_oddsAt_42 (by decide) ?_
        refine n_iast (x := i) (ws' := wC e0 e1 e2 e3 e4 e5 e6 e7 e8 e9 e10 e11 e12 e13 e14 e16 e17 e19 e21 e22 e23 (kI 10 (va_up od i 0)) (kI 10 cm)) rfl (by omega) (rng_lit 10 rfl) dX6_oddsAt_43 rfl ?_
        refine n_inc (x := i) (j := 6) (lv' := [(6, .int (nI (i + 1))), (0, .ref 24), (1, .int (nI c)), (2, .int (nI d)), (3, .int (nI a)), (4, .int (nI b)), (5, .int (nI n))]) dX6_oddsAt_44 rfl (by decide) rfl ?_
        refine g_goto (tgt := 19) dX6_oddsAt_47 (by decide) ?_
        refine g_lv [1, 2, 3, 4, 5, 6, 0] rfl ?_
        exact ih (i + 1) _ cm (by omega) (fun j hj => by
          unfold va_up
          by_cases e : j = i
          · rw [if_pos e, e]; first | rw [if_pos h35] | rw [if_neg h35]
          · rw [if_neg e]; exact he j (by omega))
      · refine g_iconst (v := nI 1) dX6_oddsAt_38 (by decide) ?_
        refine g_goto (tgt := 43) dX6_oddsAt_39 (by decide) ?_
        refine n_iast (x := i) (ws' := wC e0 e1 e2 e3 e4 e5 e6 e7 e8 e9 e10 e11 e12 e13 e14 e16 e17 e19 e21 e22 e23 (kI 10 (va_up od i 1)) (kI 10 cm)) rfl (by omega) (rng_lit 10 rfl) dX6_oddsAt_43 rfl ?_
        refine n_inc (x := i) (j := 6) (lv' := [(6, .int (nI (i + 1))), (0, .ref 24), (1, .int (nI c)), (2, .int (nI d)), (3, .int (nI a)), (4, .int (nI b)), (5, .int (nI n))]) dX6_oddsAt_44 rfl (by decide) rfl ?_
        refine g_goto (tgt := 19) dX6_oddsAt_47 (by decide) ?_
        refine g_lv [1, 2, 3, 4, 5, 6, 0] rfl ?_
        exact ih (i + 1) _ cm (by omega) (fun j hj => by
          unfold va_up
          by_cases e : j = i
          · rw [if_pos e, e]; first | rw [if_pos h35] | rw [if_neg h35]
          · rw [if_neg e]; exact he j (by omega))

theorem ctX6_oddsAt {e0 e1 e2 e3 e4 e5 e6 e7 e8 e9 e10 e11 e12 e13 e14 e16 e17 e19 e21 e22 e23 : va_E} {od cm : Nat → Nat} {c d a b n : Nat} (hab : a + b ≤ 10) (hc : 1 ≤ c ∧ c ≤ 8) (hd : 1 ≤ d ∧ d ≤ 8) (hn : n ≤ 5) : Ct mX6_oddsAt 2 [.ref 24, .int (nI c), .int (nI d), .int (nI a), .int (nI b), .int (nI n)] (wC e0 e1 e2 e3 e4 e5 e6 e7 e8 e9 e10 e11 e12 e13 e14 e16 e17 e19 e21 e22 e23 (kI 10 od) (kI 10 cm)) (fun v u => v = some (.int (nI (sOdds c a b n d))) ∧ ∃ od2 cm2 : Nat → Nat, u = wC e0 e1 e2 e3 e4 e5 e6 e7 e8 e9 e10 e11 e12 e13 e14 e16 e17 e19 e21 e22 e23 (kI 10 od2) (kI 10 cm2)) := by
  refine Ct.of (by decide) (by exact Nat.le_of_ble_eq_true rfl) ?_
  show Go mX6_oddsAt 2 0 [(0, .ref 24), (1, .int (nI c)), (2, .int (nI d)), (3, .int (nI a)), (4, .int (nI b)), (5, .int (nI n))] [] (wC e0 e1 e2 e3 e4 e5 e6 e7 e8 e9 e10 e11 e12 e13 e14 e16 e17 e19 e21 e22 e23 (kI 10 od) (kI 10 cm)) (fun v u => v = some (.int (nI (sOdds c a b n d))) ∧ ∃ od2 cm2 : Nat → Nat, u = wC e0 e1 e2 e3 e4 e5 e6 e7 e8 e9 e10 e11 e12 e13 e14 e16 e17 e19 e21 e22 e23 (kI 10 od2) (kI 10 cm2))
  have qc := nI_toInt (n := c) (by omega)
  have qd := nI_toInt (n := d) (by omega)
  refine g_iload_n (i := 1) (j := 1) dX6_oddsAt_0 rfl rfl ?_
  refine c_N (st1 := [.int (nI (bN (0 < (nI c).toInt ∧ (nI c).toInt < 9)))]) (ctX7_isOnSands (x := (nI c)) ) kX7_isOnSands lX6_18 (by decide) rfl (by exact Nat.le_of_ble_eq_true rfl) dX6_oddsAt_1 rfl rfl ?_
  refine b_if_eq (tgt := 14) dX6_oddsAt_4 (by decide) (fun h4 => ?_) (fun h4 => ?_)
  · exact absurd (by omega) h4
  · refine g_iload_n (i := 2) (j := 2) dX6_oddsAt_7 rfl rfl ?_
    refine c_N (st1 := [.int (nI (bN (0 < (nI d).toInt ∧ (nI d).toInt < 9)))]) (ctX7_isOnSands (x := (nI d)) ) kX7_isOnSands lX6_18 (by decide) rfl (by exact Nat.le_of_ble_eq_true rfl) dX6_oddsAt_8 rfl rfl ?_
    refine b_if_ne (tgt := 16) dX6_oddsAt_11 (by decide) (fun h11 => ?_) (fun h11 => ?_)
    · refine g_iconst (v := nI 0) dX6_oddsAt_16 (by decide) ?_
      refine g_istore (lv' := [(6, .int (nI 0)), (0, .ref 24), (1, .int (nI c)), (2, .int (nI d)), (3, .int (nI a)), (4, .int (nI b)), (5, .int (nI n))]) dX6_oddsAt_17 (by decide) rfl ?_
      refine g_lv [1, 2, 3, 4, 5, 6, 0] rfl ?_
      exact lp_odds1 hab hc hd hn 10 0 od cm (by omega) (fun j hj => absurd hj (by omega))
    · exact absurd (by omega) h11

theorem ctX7_channel {e1 e2 e3 e4 e5 e6 e7 e8 e9 e10 e11 e12 e13 e14 e16 e17 e19 e21 e22 e23 : va_E} {sd : Int64} {od cm : Nat → Nat} {c0 d0 a0 b0 n0 : Int32} {u : Nat} (hu : u ≤ 1) : Ct mX7_channel 3 [.ref 0, .int c0, .int d0, .int a0, .int b0, .int n0, .int (nI u)] (wC (kO sd) e1 e2 e3 e4 e5 e6 e7 e8 e9 e10 e11 e12 e13 e14 e16 e17 e19 e21 e22 e23 (kI 10 od) (kI 10 cm)) (fun v w => v = some (.int (pChannel c0 d0 a0 b0 n0 u)) ∧ ∃ od2 cm2 : Nat → Nat, w = wC (kO sd) e1 e2 e3 e4 e5 e6 e7 e8 e9 e10 e11 e12 e13 e14 e16 e17 e19 e21 e22 e23 (kI 10 od2) (kI 10 cm2)) := by
  refine Ct.of (by decide) (by exact Nat.le_of_ble_eq_true rfl) ?_
  show Go mX7_channel 3 0 [(0, .ref 0), (1, .int c0), (2, .int d0), (3, .int a0), (4, .int b0), (5, .int n0), (6, .int (nI u))] [] (wC (kO sd) e1 e2 e3 e4 e5 e6 e7 e8 e9 e10 e11 e12 e13 e14 e16 e17 e19 e21 e22 e23 (kI 10 od) (kI 10 cm)) (fun v w => v = some (.int (pChannel c0 d0 a0 b0 n0 u)) ∧ ∃ od2 cm2 : Nat → Nat, w = wC (kO sd) e1 e2 e3 e4 e5 e6 e7 e8 e9 e10 e11 e12 e13 e14 e16 e17 e19 e21 e22 e23 (kI 10 od2) (kI 10 cm2))
  refine g_iload_n (i := 1) (j := 1) dX7_channel_0 rfl rfl ?_
  refine c_S (st1 := [.int (nI (bN (0 < c0.toInt ∧ c0.toInt < 9)))]) (ctX7_isOnSands (x := c0) ) kX7_isOnSands lX7_238 (by decide) rfl (by exact Nat.le_of_ble_eq_true rfl) dX7_channel_1 rfl rfl ?_
  refine b_if_eq (tgt := 34) dX7_channel_4 (by decide) (fun h4 => ?_) (fun h4 => ?_)
  · refine g_bipush (v := (-2)) dX7_channel_34 (by decide) ?_
    refine g_iret rfl rfl dX7_channel_36 ?_
    refine ⟨?_, od, cm, rfl⟩
    unfold pChannel
    rw [if_neg (fun z => by
      obtain ⟨⟨z1, z2⟩, ⟨z3, z4⟩, ⟨z5, z6, z7⟩, z8⟩ := z
      have y2 : c0.toInt ≠ 0 := fun e => z2 (Int32.toInt_inj.mp (by rw [e, t_0]))
      have y4 : d0.toInt ≠ 0 := fun e => z4 (Int32.toInt_inj.mp (by rw [e, t_0]))
      obtain ⟨x1, hx1, rfl⟩ := raw_lt z5
      obtain ⟨x2, hx2, rfl⟩ := raw_lt z6
      rw [cN_n (k := x1) (by omega), cN_n (k := x2) (by omega)] at z7
      have w1 := nI_toInt (n := x1) (by omega)
      have w2 := nI_toInt (n := x2) (by omega)
      try simp only [Int32.lt_iff_toInt_lt, Int32.le_iff_toInt_le, t_z, t_0, t_1, t_2, t_3, t_5, t_6, t_8, t_9, t_10, t_20, t_40, t_56, t_255] at *
      unfold iW at z1 z3 z8
      omega)]
  · refine g_iload_n (i := 2) (j := 2) dX7_channel_7 rfl rfl ?_
    refine c_S (st1 := [.int (nI (bN (0 < d0.toInt ∧ d0.toInt < 9)))]) (ctX7_isOnSands (x := d0) ) kX7_isOnSands lX7_238 (by decide) rfl (by exact Nat.le_of_ble_eq_true rfl) dX7_channel_8 rfl rfl ?_
    refine b_if_eq (tgt := 34) dX7_channel_11 (by decide) (fun h11 => ?_) (fun h11 => ?_)
    · refine g_bipush (v := (-2)) dX7_channel_34 (by decide) ?_
      refine g_iret rfl rfl dX7_channel_36 ?_
      refine ⟨?_, od, cm, rfl⟩
      unfold pChannel
      rw [if_neg (fun z => by
        obtain ⟨⟨z1, z2⟩, ⟨z3, z4⟩, ⟨z5, z6, z7⟩, z8⟩ := z
        have y2 : c0.toInt ≠ 0 := fun e => z2 (Int32.toInt_inj.mp (by rw [e, t_0]))
        have y4 : d0.toInt ≠ 0 := fun e => z4 (Int32.toInt_inj.mp (by rw [e, t_0]))
        obtain ⟨x1, hx1, rfl⟩ := raw_lt z5
        obtain ⟨x2, hx2, rfl⟩ := raw_lt z6
        rw [cN_n (k := x1) (by omega), cN_n (k := x2) (by omega)] at z7
        have w1 := nI_toInt (n := x1) (by omega)
        have w2 := nI_toInt (n := x2) (by omega)
        try simp only [Int32.lt_iff_toInt_lt, Int32.le_iff_toInt_le, t_z, t_0, t_1, t_2, t_3, t_5, t_6, t_8, t_9, t_10, t_20, t_40, t_56, t_255] at *
        unfold iW at z1 z3 z8
        omega)]
    · refine g_iload_n (i := 3) (j := 3) dX7_channel_14 rfl rfl ?_
      refine g_iload (j := 4) dX7_channel_15 rfl ?_
      refine c_S (st1 := [.int (nI (bN (0 ≤ a0.toInt ∧ a0.toInt ≤ 10 ∧ 0 ≤ b0.toInt ∧ b0.toInt ≤ 10 ∧ a0.toInt + b0.toInt ≤ 10)))]) (ctX7_areTenths (a := a0) (b := b0) ) kX7_areTenths lX7_241 (by decide) rfl (by exact Nat.le_of_ble_eq_true rfl) dX7_channel_17 rfl rfl ?_
      refine b_if_eq (tgt := 34) dX7_channel_20 (by decide) (fun h20 => ?_) (fun h20 => ?_)
      · refine g_bipush (v := (-2)) dX7_channel_34 (by decide) ?_
        refine g_iret rfl rfl dX7_channel_36 ?_
        refine ⟨?_, od, cm, rfl⟩
        unfold pChannel
        rw [if_neg (fun z => by
          obtain ⟨⟨z1, z2⟩, ⟨z3, z4⟩, ⟨z5, z6, z7⟩, z8⟩ := z
          have y2 : c0.toInt ≠ 0 := fun e => z2 (Int32.toInt_inj.mp (by rw [e, t_0]))
          have y4 : d0.toInt ≠ 0 := fun e => z4 (Int32.toInt_inj.mp (by rw [e, t_0]))
          obtain ⟨x1, hx1, rfl⟩ := raw_lt z5
          obtain ⟨x2, hx2, rfl⟩ := raw_lt z6
          rw [cN_n (k := x1) (by omega), cN_n (k := x2) (by omega)] at z7
          have w1 := nI_toInt (n := x1) (by omega)
          have w2 := nI_toInt (n := x2) (by omega)
          try simp only [Int32.lt_iff_toInt_lt, Int32.le_iff_toInt_le, t_z, t_0, t_1, t_2, t_3, t_5, t_6, t_8, t_9, t_10, t_20, t_40, t_56, t_255] at *
          unfold iW at z1 z3 z8
          omega)]
      · refine g_iload (j := 5) dX7_channel_23 rfl ?_
        refine g_if_lt (tgt := 34) dX7_channel_25 (by decide) (fun h25 => ?_) (fun h25 => ?_)
        · refine g_bipush (v := (-2)) dX7_channel_34 (by decide) ?_
          refine g_iret rfl rfl dX7_channel_36 ?_
          refine ⟨?_, od, cm, rfl⟩
          unfold pChannel
          rw [if_neg (fun z => by
            obtain ⟨⟨z1, z2⟩, ⟨z3, z4⟩, ⟨z5, z6, z7⟩, z8⟩ := z
            have y2 : c0.toInt ≠ 0 := fun e => z2 (Int32.toInt_inj.mp (by rw [e, t_0]))
            have y4 : d0.toInt ≠ 0 := fun e => z4 (Int32.toInt_inj.mp (by rw [e, t_0]))
            obtain ⟨x1, hx1, rfl⟩ := raw_lt z5
            obtain ⟨x2, hx2, rfl⟩ := raw_lt z6
            rw [cN_n (k := x1) (by omega), cN_n (k := x2) (by omega)] at z7
            have w1 := nI_toInt (n := x1) (by omega)
            have w2 := nI_toInt (n := x2) (by omega)
            try simp only [Int32.lt_iff_toInt_lt, Int32.le_iff_toInt_le, t_z, t_0, t_1, t_2, t_3, t_5, t_6, t_8, t_9, t_10, t_20, t_40, t_56, t_255] at *
            unfold iW at z1 z3 z8
            omega)]
        · refine g_iload (j := 5) dX7_channel_28 rfl ?_
          refine g_iconst (v := nI 5) dX7_channel_30 (by decide) ?_
          refine g_icmp_le (tgt := 37) dX7_channel_31 (by decide) (fun h31 => ?_) (fun h31 => ?_)
          · simp only [Int32.lt_iff_toInt_lt, Int32.le_iff_toInt_le, t_z, t_0, t_1, t_2, t_3, t_5, t_6, t_8, t_9, t_10, t_20, t_40, t_56, t_255] at h25 h31
            obtain ⟨c, hc, rfl⟩ := raw_lt (x := c0) (n := 9) (by omega)
            obtain ⟨d, hd, rfl⟩ := raw_lt (x := d0) (n := 9) (by omega)
            obtain ⟨a, ha, rfl⟩ := raw_lt (x := a0) (n := 11) (by omega)
            obtain ⟨b, hb, rfl⟩ := raw_lt (x := b0) (n := 11) (by omega)
            obtain ⟨n, hn, rfl⟩ := raw_lt (x := n0) (n := 6) (by omega)
            have qc := nI_toInt (n := c) (by omega)
            have qd := nI_toInt (n := d) (by omega)
            have qa := nI_toInt (n := a) (by omega)
            have qb := nI_toInt (n := b) (by omega)
            have qn := nI_toInt (n := n) (by omega)
            have qo := sOdds_le (c := c) (a := a) (b := b) (n := n) (d := d) (by omega) (by omega) (by omega) (by omega) (by omega)
            have qp : 10 ^ n ≤ 10 ^ 5 := Nat.pow_le_pow_right (by decide) (by omega)
            have qp0 : 0 < 10 ^ n := Nat.pow_pos (by decide)
            refine g_aload_n (i := 0) (j := 0) dX7_channel_37 rfl rfl ?_
            refine g_get fX7_63 rfl rfl dX7_channel_38 ?_
            refine g_iload_n (i := 1) (j := 1) dX7_channel_41 rfl rfl ?_
            refine g_iload_n (i := 2) (j := 2) dX7_channel_42 rfl rfl ?_
            refine g_iload_n (i := 3) (j := 3) dX7_channel_43 rfl rfl ?_
            refine g_iload (j := 4) dX7_channel_44 rfl ?_
            refine g_iload (j := 5) dX7_channel_46 rfl ?_
            refine g_callV (rest := []) (ctX6_oddsAt (c := c) (d := d) (a := a) (b := b) (n := n) (by omega) (by omega) (by omega) (by omega)) kX6_oddsAt lX7_245 (by decide) rfl rfl rfl rfl (by exact Nat.le_of_ble_eq_true rfl) dX7_channel_48 rfl (fun v u hvu => ?_)
            obtain ⟨rfl, od48, cm48, rfl⟩ := hvu
            refine g_st (st' := [.int (nI (sOdds c a b n d))]) rfl ?_
            refine g_bipush (v := nI 10) dX7_channel_51 (by decide) ?_
            refine g_iload (j := 5) dX7_channel_53 rfl ?_
            refine c_S (st1 := [.int (nI (10 ^ n)), .int (nI (sOdds c a b n d))]) (ctX7_power (b := 10) (n := n) (by omega)) kX7_power lX7_203 (by decide) rfl (by exact Nat.le_of_ble_eq_true rfl) dX7_channel_55 rfl rfl ?_
            refine g_iload (j := 6) dX7_channel_58 rfl ?_
            refine c_S (st1 := [.int (nI (sTold (sOdds c a b n d) (10 ^ n) u))]) (ctX7_told (a := sOdds c a b n d) (b := 10 ^ n) (u := u) (by omega) (by omega) (by omega) (by omega)) kX7_told lX7_249 (by decide) rfl (by exact Nat.le_of_ble_eq_true rfl) dX7_channel_60 rfl rfl ?_
            refine g_iret rfl rfl dX7_channel_63 ?_
            refine ⟨?_, _, _, rfl⟩
            unfold pChannel
            rw [if_pos ⟨⟨(iW_n (by omega)).mpr (by omega), fun z => by rw [nI_eq (by omega) (by omega)] at z; omega⟩, ⟨(iW_n (by omega)).mpr (by omega), fun z => by rw [nI_eq (by omega) (by omega)] at z; omega⟩, ⟨(iW_n (by omega)).mpr (by omega), (iW_n (by omega)).mpr (by omega), by rw [cN_n (k := a) (by omega), cN_n (k := b) (by omega)]; omega⟩, (iW_n (by omega)).mpr (by omega)⟩, cN_n (k := c) (by omega), cN_n (k := d) (by omega), cN_n (k := a) (by omega), cN_n (k := b) (by omega), cN_n (k := n) (by omega)]
          · refine g_bipush (v := (-2)) dX7_channel_34 (by decide) ?_
            refine g_iret rfl rfl dX7_channel_36 ?_
            refine ⟨?_, od, cm, rfl⟩
            unfold pChannel
            rw [if_neg (fun z => by
              obtain ⟨⟨z1, z2⟩, ⟨z3, z4⟩, ⟨z5, z6, z7⟩, z8⟩ := z
              have y2 : c0.toInt ≠ 0 := fun e => z2 (Int32.toInt_inj.mp (by rw [e, t_0]))
              have y4 : d0.toInt ≠ 0 := fun e => z4 (Int32.toInt_inj.mp (by rw [e, t_0]))
              obtain ⟨x1, hx1, rfl⟩ := raw_lt z5
              obtain ⟨x2, hx2, rfl⟩ := raw_lt z6
              rw [cN_n (k := x1) (by omega), cN_n (k := x2) (by omega)] at z7
              have w1 := nI_toInt (n := x1) (by omega)
              have w2 := nI_toInt (n := x2) (by omega)
              try simp only [Int32.lt_iff_toInt_lt, Int32.le_iff_toInt_le, t_z, t_0, t_1, t_2, t_3, t_5, t_6, t_8, t_9, t_10, t_20, t_40, t_56, t_255] at *
              unfold iW at z1 z3 z8
              omega)]

theorem max0_sub {x w : Nat} (hx : x ≤ 10) (hw : w ≤ 9) : (if nI 0 < nI x - nI w then nI x - nI w else nI 0) = nI (x - w) := by
  by_cases h : w < x
  · have e : nI x - nI w = nI (x - w) := pk_sub (by omega)
    rw [e, if_pos ((nI_ltI (by omega) (by omega)).mpr (by omega))]
  · rw [if_neg (fun z => by
      rw [Int32.lt_iff_toInt_lt, pk_sub_toInt (by omega) (by omega), t_0] at z
      omega), show x - w = 0 by omega]
theorem lp_sticks {e1 e2 e3 e4 e5 e6 e7 e8 e9 e10 e11 e12 e13 e14 e16 e17 e19 e21 e22 e23 e25 e26 : va_E} {sd : Int64} {n p u : Nat} (hn : 1 ≤ n ∧ n ≤ 6) (hp : p ≤ 10) (hu : u ≤ 1) : ∀ (m i : Nat), i + m = n - n / 2 → Go mX7_sticks 2 53 [(0, .ref 0), (1, .int (nI n)), (4, .int (nI u)), (5, .int (nI p)), (6, .int (nI (sStS n p i))), (7, .int (nI (n / 2 + 1 + i)))] [] (wC (kO sd) e1 e2 e3 e4 e5 e6 e7 e8 e9 e10 e11 e12 e13 e14 e16 e17 e19 e21 e22 e23 e25 e26) (gE (some (.int (nI (sTold (sStS n p (n - n / 2)) (10 ^ n) u)))) (wC (kO sd) e1 e2 e3 e4 e5 e6 e7 e8 e9 e10 e11 e12 e13 e14 e16 e17 e19 e21 e22 e23 e25 e26)) := by
  intro m
  have qp : 10 ^ n ≤ 10 ^ 6 := Nat.pow_le_pow_right (by decide) (by omega)
  have qp0 : 0 < 10 ^ n := Nat.pow_pos (by decide)
  induction m with
  | zero =>
    intro i hi
    obtain rfl : i = n - n / 2 := by omega
    have q := sStS_le n hn.2 p hp (n - n / 2) (by omega)
    refine g_iload (j := 5) dX7_sticks_53 rfl ?_
    refine g_iload_n (i := 1) (j := 1) dX7_sticks_55 rfl rfl ?_
    refine n_icmp_gt (tgt := 97) (by omega) (by omega) dX7_sticks_56 (by decide) (fun h56 => ?_) (fun h56 => ?_)
    · refine g_iload (j := 4) dX7_sticks_97 rfl ?_
      refine g_bipush (v := nI 10) dX7_sticks_99 (by decide) ?_
      refine g_iload_n (i := 1) (j := 1) dX7_sticks_101 rfl rfl ?_
      refine c_S (st1 := [.int (nI (10 ^ n)), .int (nI (sStS n p (n - n / 2)))]) (ctX7_power (b := 10) (n := n) (by omega)) kX7_power lX7_203 (by decide) rfl (by exact Nat.le_of_ble_eq_true rfl) dX7_sticks_102 rfl rfl ?_
      refine g_iload (j := 2) dX7_sticks_105 rfl ?_
      refine c_S (st1 := [.int (nI (sTold (sStS n p (n - n / 2)) (10 ^ n) u))]) (ctX7_told (a := sStS n p (n - n / 2)) (b := 10 ^ n) (u := u) (by omega) (by omega) (by omega) (by omega)) kX7_told lX7_249 (by decide) rfl (by exact Nat.le_of_ble_eq_true rfl) dX7_sticks_107 rfl rfl ?_
      refine g_iret rfl rfl dX7_sticks_110 ?_
      exact gE_i rfl rfl
    · exfalso; omega

  | succ m ih =>
    intro i hi
    refine g_iload (j := 5) dX7_sticks_53 rfl ?_
    refine g_iload_n (i := 1) (j := 1) dX7_sticks_55 rfl rfl ?_
    refine n_icmp_gt (tgt := 97) (by omega) (by omega) dX7_sticks_56 (by decide) (fun h56 => ?_) (fun h56 => ?_)
    · exfalso; omega
    · refine g_iload (j := 4) dX7_sticks_59 rfl ?_
      refine g_iload_n (i := 1) (j := 1) dX7_sticks_61 rfl rfl ?_
      refine g_iload (j := 5) dX7_sticks_62 rfl ?_
      refine c_S (st1 := [.int (nI (sChN n (n / 2 + 1 + i) (n / 2 + 1 + i))), .int (nI (sStS n p i))]) (ctX7_choices (n := n) (k := n / 2 + 1 + i) (by omega) (by omega)) kX7_choices lX7_256 (by decide) rfl (by exact Nat.le_of_ble_eq_true rfl) dX7_sticks_64 rfl rfl ?_
      refine g_iload (j := 3) dX7_sticks_67 rfl ?_
      refine g_iload (j := 5) dX7_sticks_69 rfl ?_
      refine c_S (st1 := [.int (nI (p ^ (n / 2 + 1 + i))), .int (nI (sChN n (n / 2 + 1 + i) (n / 2 + 1 + i))), .int (nI (sStS n p i))]) (ctX7_power (b := p) (n := n / 2 + 1 + i) (by omega)) kX7_power lX7_203 (by decide) rfl (by exact Nat.le_of_ble_eq_true rfl) dX7_sticks_71 rfl rfl ?_
      refine n_imul (a := (sChN n (n / 2 + 1 + i) (n / 2 + 1 + i))) (b := (p ^ (n / 2 + 1 + i))) dX7_sticks_74 ?_
      refine g_bipush (v := nI 10) dX7_sticks_75 (by decide) ?_
      refine g_iload (j := 3) dX7_sticks_77 rfl ?_
      refine n_isub (a := 10) (b := p) (by omega) dX7_sticks_79 ?_
      refine g_iload_n (i := 1) (j := 1) dX7_sticks_80 rfl rfl ?_
      refine g_iload (j := 5) dX7_sticks_81 rfl ?_
      refine n_isub (a := n) (b := (n / 2 + 1 + i)) (by omega) dX7_sticks_83 ?_
      refine c_S (st1 := [.int (nI ((10 - p) ^ (n - (n / 2 + 1 + i)))), .int (nI ((sChN n (n / 2 + 1 + i) (n / 2 + 1 + i)) * (p ^ (n / 2 + 1 + i)))), .int (nI (sStS n p i))]) (ctX7_power (b := 10 - p) (n := n - (n / 2 + 1 + i)) (by omega)) kX7_power lX7_203 (by decide) rfl (by exact Nat.le_of_ble_eq_true rfl) dX7_sticks_84 rfl rfl ?_
      refine n_imul (a := ((sChN n (n / 2 + 1 + i) (n / 2 + 1 + i)) * (p ^ (n / 2 + 1 + i)))) (b := ((10 - p) ^ (n - (n / 2 + 1 + i)))) dX7_sticks_87 ?_
      refine n_iadd (a := (sStS n p i)) (b := (((sChN n (n / 2 + 1 + i) (n / 2 + 1 + i)) * (p ^ (n / 2 + 1 + i))) * ((10 - p) ^ (n - (n / 2 + 1 + i))))) dX7_sticks_88 ?_
      refine g_istore (lv' := [(6, .int (nI ((sStS n p i) + (((sChN n (n / 2 + 1 + i) (n / 2 + 1 + i)) * (p ^ (n / 2 + 1 + i))) * ((10 - p) ^ (n - (n / 2 + 1 + i))))))), (0, .ref 0), (1, .int (nI n)), (4, .int (nI u)), (5, .int (nI p)), (7, .int (nI (n / 2 + 1 + i)))]) dX7_sticks_89 (by decide) rfl ?_
      refine n_inc (x := (n / 2 + 1 + i)) (j := 5) (lv' := [(7, .int (nI ((n / 2 + 1 + i) + 1))), (6, .int (nI ((sStS n p i) + (((sChN n (n / 2 + 1 + i) (n / 2 + 1 + i)) * (p ^ (n / 2 + 1 + i))) * ((10 - p) ^ (n - (n / 2 + 1 + i))))))), (0, .ref 0), (1, .int (nI n)), (4, .int (nI u)), (5, .int (nI p))]) dX7_sticks_91 rfl (by decide) rfl ?_
      refine g_goto (tgt := 53) dX7_sticks_94 (by decide) ?_
      refine g_lv [2, 3, 4, 5, 1, 0] rfl ?_
      exact ih (i + 1) (by omega)

theorem ctX7_sticks {e1 e2 e3 e4 e5 e6 e7 e8 e9 e10 e11 e12 e13 e14 e16 e17 e19 e21 e22 e23 e25 e26 : va_E} {sd : Int64} {n0 x0 w0 : Int32} {u : Nat} (hu : u ≤ 1) : Ct mX7_sticks 2 [.ref 0, .int n0, .int x0, .int w0, .int (nI u)] (wC (kO sd) e1 e2 e3 e4 e5 e6 e7 e8 e9 e10 e11 e12 e13 e14 e16 e17 e19 e21 e22 e23 e25 e26) (gE (some (.int (pSticks n0 x0 w0 u))) (wC (kO sd) e1 e2 e3 e4 e5 e6 e7 e8 e9 e10 e11 e12 e13 e14 e16 e17 e19 e21 e22 e23 e25 e26)) := by
  refine Ct.of (by decide) (by exact Nat.le_of_ble_eq_true rfl) ?_
  show Go mX7_sticks 2 0 [(0, .ref 0), (1, .int n0), (2, .int x0), (3, .int w0), (4, .int (nI u))] [] (wC (kO sd) e1 e2 e3 e4 e5 e6 e7 e8 e9 e10 e11 e12 e13 e14 e16 e17 e19 e21 e22 e23 e25 e26) (gE (some (.int (pSticks n0 x0 w0 u))) (wC (kO sd) e1 e2 e3 e4 e5 e6 e7 e8 e9 e10 e11 e12 e13 e14 e16 e17 e19 e21 e22 e23 e25 e26))
  refine g_iload_n (i := 1) (j := 1) dX7_sticks_0 rfl rfl ?_
  refine g_iconst (v := nI 1) dX7_sticks_1 (by decide) ?_
  refine g_icmp_lt (tgt := 31) dX7_sticks_2 (by decide) (fun h2 => ?_) (fun h2 => ?_)
  · refine g_bipush (v := (-2)) dX7_sticks_31 (by decide) ?_
    refine g_iret rfl rfl dX7_sticks_33 ?_
    refine gE_r ?_ rfl
    unfold pSticks
    rw [if_neg (fun z => by
      obtain ⟨⟨z1, z2⟩, z3, z4⟩ := z
      have y2 : n0.toInt ≠ 0 := fun e => z2 (Int32.toInt_inj.mp (by rw [e, t_0]))
      try simp only [Int32.lt_iff_toInt_lt, Int32.le_iff_toInt_le, t_z, t_0, t_1, t_2, t_3, t_5, t_6, t_8, t_9, t_10, t_20, t_40, t_56, t_255] at *
      unfold iW at z1 z3 z4
      omega)]
  · refine g_iload_n (i := 1) (j := 1) dX7_sticks_5 rfl rfl ?_
    refine g_bipush (v := nI 6) dX7_sticks_6 (by decide) ?_
    refine g_icmp_gt (tgt := 31) dX7_sticks_8 (by decide) (fun h8 => ?_) (fun h8 => ?_)
    · refine g_bipush (v := (-2)) dX7_sticks_31 (by decide) ?_
      refine g_iret rfl rfl dX7_sticks_33 ?_
      refine gE_r ?_ rfl
      unfold pSticks
      rw [if_neg (fun z => by
        obtain ⟨⟨z1, z2⟩, z3, z4⟩ := z
        have y2 : n0.toInt ≠ 0 := fun e => z2 (Int32.toInt_inj.mp (by rw [e, t_0]))
        try simp only [Int32.lt_iff_toInt_lt, Int32.le_iff_toInt_le, t_z, t_0, t_1, t_2, t_3, t_5, t_6, t_8, t_9, t_10, t_20, t_40, t_56, t_255] at *
        unfold iW at z1 z3 z4
        omega)]
    · refine g_iload_n (i := 2) (j := 2) dX7_sticks_11 rfl rfl ?_
      refine g_if_lt (tgt := 31) dX7_sticks_12 (by decide) (fun h12 => ?_) (fun h12 => ?_)
      · refine g_bipush (v := (-2)) dX7_sticks_31 (by decide) ?_
        refine g_iret rfl rfl dX7_sticks_33 ?_
        refine gE_r ?_ rfl
        unfold pSticks
        rw [if_neg (fun z => by
          obtain ⟨⟨z1, z2⟩, z3, z4⟩ := z
          have y2 : n0.toInt ≠ 0 := fun e => z2 (Int32.toInt_inj.mp (by rw [e, t_0]))
          try simp only [Int32.lt_iff_toInt_lt, Int32.le_iff_toInt_le, t_z, t_0, t_1, t_2, t_3, t_5, t_6, t_8, t_9, t_10, t_20, t_40, t_56, t_255] at *
          unfold iW at z1 z3 z4
          omega)]
      · refine g_iload_n (i := 2) (j := 2) dX7_sticks_15 rfl rfl ?_
        refine g_bipush (v := nI 10) dX7_sticks_16 (by decide) ?_
        refine g_icmp_gt (tgt := 31) dX7_sticks_18 (by decide) (fun h18 => ?_) (fun h18 => ?_)
        · refine g_bipush (v := (-2)) dX7_sticks_31 (by decide) ?_
          refine g_iret rfl rfl dX7_sticks_33 ?_
          refine gE_r ?_ rfl
          unfold pSticks
          rw [if_neg (fun z => by
            obtain ⟨⟨z1, z2⟩, z3, z4⟩ := z
            have y2 : n0.toInt ≠ 0 := fun e => z2 (Int32.toInt_inj.mp (by rw [e, t_0]))
            try simp only [Int32.lt_iff_toInt_lt, Int32.le_iff_toInt_le, t_z, t_0, t_1, t_2, t_3, t_5, t_6, t_8, t_9, t_10, t_20, t_40, t_56, t_255] at *
            unfold iW at z1 z3 z4
            omega)]
        · refine g_iload_n (i := 3) (j := 3) dX7_sticks_21 rfl rfl ?_
          refine g_if_lt (tgt := 31) dX7_sticks_22 (by decide) (fun h22 => ?_) (fun h22 => ?_)
          · refine g_bipush (v := (-2)) dX7_sticks_31 (by decide) ?_
            refine g_iret rfl rfl dX7_sticks_33 ?_
            refine gE_r ?_ rfl
            unfold pSticks
            rw [if_neg (fun z => by
              obtain ⟨⟨z1, z2⟩, z3, z4⟩ := z
              have y2 : n0.toInt ≠ 0 := fun e => z2 (Int32.toInt_inj.mp (by rw [e, t_0]))
              try simp only [Int32.lt_iff_toInt_lt, Int32.le_iff_toInt_le, t_z, t_0, t_1, t_2, t_3, t_5, t_6, t_8, t_9, t_10, t_20, t_40, t_56, t_255] at *
              unfold iW at z1 z3 z4
              omega)]
          · refine g_iload_n (i := 3) (j := 3) dX7_sticks_25 rfl rfl ?_
            refine g_bipush (v := nI 9) dX7_sticks_26 (by decide) ?_
            refine g_icmp_le (tgt := 34) dX7_sticks_28 (by decide) (fun h28 => ?_) (fun h28 => ?_)
            · simp only [Int32.lt_iff_toInt_lt, Int32.le_iff_toInt_le, t_z, t_0, t_1, t_2, t_3, t_5, t_6, t_8, t_9, t_10, t_20, t_40, t_56, t_255] at h2 h8 h12 h18 h22 h28
              obtain ⟨n, hn, rfl⟩ := raw_lt (x := n0) (n := 7) (by omega)
              obtain ⟨x, hx, rfl⟩ := raw_lt (x := x0) (n := 11) (by omega)
              obtain ⟨w, hw, rfl⟩ := raw_lt (x := w0) (n := 10) (by omega)
              have qn := nI_toInt (n := n) (by omega)
              refine g_iconst (v := nI 0) dX7_sticks_34 (by decide) ?_
              refine g_iload_n (i := 2) (j := 2) dX7_sticks_35 rfl rfl ?_
              refine g_iload_n (i := 3) (j := 3) dX7_sticks_36 rfl rfl ?_
              refine g_isub dX7_sticks_37 ?_
              refine g_mmax lmX7_253 jm_max_s jm_i jm_max_c (by decide) (by exact Nat.le_of_ble_eq_true rfl) dX7_sticks_38 ?_
              refine g_topi (y := (nI (x - w))) (max0_sub (by omega) (by omega)) ?_
              refine g_istore (lv' := [(5, .int (nI (x - w))), (0, .ref 0), (1, .int (nI n)), (2, .int (nI x)), (3, .int (nI w)), (4, .int (nI u))]) dX7_sticks_41 (by decide) rfl ?_
              refine g_iconst (v := nI 0) dX7_sticks_43 (by decide) ?_
              refine g_istore (lv' := [(6, .int (nI 0)), (5, .int (nI (x - w))), (0, .ref 0), (1, .int (nI n)), (2, .int (nI x)), (3, .int (nI w)), (4, .int (nI u))]) dX7_sticks_44 (by decide) rfl ?_
              refine g_iload_n (i := 1) (j := 3) dX7_sticks_46 rfl rfl ?_
              refine g_iconst (v := nI 2) dX7_sticks_47 (by decide) ?_
              refine n_idiv (a := n) (b := 2) (by omega) (by omega) (rng_lit 2 rfl) dX7_sticks_48 ?_
              refine g_iconst (v := nI 1) dX7_sticks_49 (by decide) ?_
              refine n_iadd (a := (n / 2)) (b := 1) dX7_sticks_50 ?_
              refine g_istore (lv' := [(7, .int (nI ((n / 2) + 1))), (6, .int (nI 0)), (5, .int (nI (x - w))), (0, .ref 0), (1, .int (nI n)), (2, .int (nI x)), (3, .int (nI w)), (4, .int (nI u))]) dX7_sticks_51 (by decide) rfl ?_
              refine g_lv [3, 4, 7, 2, 1, 0] rfl ?_
              unfold pSticks
              rw [if_pos ⟨⟨(iW_n (by omega)).mpr (by omega), fun z => by rw [nI_eq (by omega) (by omega)] at z; omega⟩, (iW_n (by omega)).mpr (by omega), (iW_n (by omega)).mpr (by omega)⟩, cN_n (k := n) (by omega), cN_n (k := x) (by omega), cN_n (k := w) (by omega)]
              exact lp_sticks (by omega) (by omega) hu (n - n / 2) 0 (by omega)
            · refine g_bipush (v := (-2)) dX7_sticks_31 (by decide) ?_
              refine g_iret rfl rfl dX7_sticks_33 ?_
              refine gE_r ?_ rfl
              unfold pSticks
              rw [if_neg (fun z => by
                obtain ⟨⟨z1, z2⟩, z3, z4⟩ := z
                have y2 : n0.toInt ≠ 0 := fun e => z2 (Int32.toInt_inj.mp (by rw [e, t_0]))
                try simp only [Int32.lt_iff_toInt_lt, Int32.le_iff_toInt_le, t_z, t_0, t_1, t_2, t_3, t_5, t_6, t_8, t_9, t_10, t_20, t_40, t_56, t_255] at *
                unfold iW at z1 z3 z4
                omega)]

theorem max0_pred {lo : Nat} (h : lo ≤ 40) : (if nI 0 < nI lo - nI 1 then nI lo - nI 1 else nI 0) = nI (lo - 1) := by
  by_cases h0 : 1 < lo
  · have e : nI lo - nI 1 = nI (lo - 1) := pk_sub (by omega)
    rw [e, if_pos ((nI_ltI (by omega) (by omega)).mpr (by omega))]
  · rw [if_neg (fun z => by
      rw [Int32.lt_iff_toInt_lt, pk_sub_toInt (by omega) (by omega), t_0] at z
      omega), show lo - 1 = 0 by omega]
theorem ctX7_wind {e1 e2 e9 e10 e11 e12 e13 e14 e17 e19 e21 e22 e25 e26 : va_E} {sd : Int64} {h so ho pa wa : Nat → Nat} {wk tw sf lo ri la : Nat} {r : Nat → Nat} {tt : t6} (hg : gOK h so ho pa wa wk tw lo ri la) {k0 t0 a0 b0 : Int32} {uu : Nat} (hu : uu ≤ 1) : Ct mX7_wind 5 [.ref 0, .int k0, .int t0, .int a0, .int b0, .int (nI uu)] (wC (kO sd) e1 e2 (kG3 wk tw sf lo ri la) (kI 10 h) (kZ 10 so) (kI 10 ho) (kI 5 pa) (kI 5 wa) e9 e10 e11 e12 e13 e14 (kI 16 r) e17 e19 e21 e22 (kPt tt) e25 e26) (fun v u => v = some (.int (pWind h so pa wa wk lo ri la k0 t0 a0 b0 uu)) ∧ ∃ t2 : t6, u = wC (kO sd) e1 e2 (kG3 wk tw sf lo ri la) (kI 10 h) (kZ 10 so) (kI 10 ho) (kI 5 pa) (kI 5 wa) e9 e10 e11 e12 e13 e14 (kI 16 r) e17 e19 e21 e22 (kPt t2) e25 e26) := by
  refine Ct.of (by decide) (by exact Nat.le_of_ble_eq_true rfl) ?_
  show Go mX7_wind 5 0 [(0, .ref 0), (1, .int k0), (2, .int t0), (3, .int a0), (4, .int b0), (5, .int (nI uu))] [] (wC (kO sd) e1 e2 (kG3 wk tw sf lo ri la) (kI 10 h) (kZ 10 so) (kI 10 ho) (kI 5 pa) (kI 5 wa) e9 e10 e11 e12 e13 e14 (kI 16 r) e17 e19 e21 e22 (kPt tt) e25 e26) (fun v u => v = some (.int (pWind h so pa wa wk lo ri la k0 t0 a0 b0 uu)) ∧ ∃ t2 : t6, u = wC (kO sd) e1 e2 (kG3 wk tw sf lo ri la) (kI 10 h) (kZ 10 so) (kI 10 ho) (kI 5 pa) (kI 5 wa) e9 e10 e11 e12 e13 e14 (kI 16 r) e17 e19 e21 e22 (kPt t2) e25 e26)
  obtain ⟨hH, hso, hho, hpa, hwa, hwk, htw, hlo, hri, hla⟩ := hg
  refine g_aload_n (i := 0) (j := 0) dX7_wind_0 rfl rfl ?_
  refine g_iload_n (i := 1) (j := 1) dX7_wind_1 rfl rfl ?_
  refine c_V (st1 := [.int (nI (bN (0 ≤ k0.toInt ∧ k0.toInt < wk)))]) (ctX7_isWalker (x := k0) (by omega)) kX7_isWalker lX7_138 (by decide) rfl rfl rfl rfl (by exact Nat.le_of_ble_eq_true rfl) dX7_wind_2 rfl rfl ?_
  refine b_if_ne (tgt := 10) dX7_wind_5 (by decide) (fun h5 => ?_) (fun h5 => ?_)
  · obtain ⟨k, hk, rfl⟩ := raw_lt h5
    refine g_iload_n (i := 2) (j := 2) dX7_wind_10 rfl rfl ?_
    refine c_S (st1 := [.int (nI (bN (0 ≤ t0.toInt ∧ t0.toInt ≤ 40)))]) (ctX7_isStep (x := t0) ) kX7_isStep lX7_156 (by decide) rfl (by exact Nat.le_of_ble_eq_true rfl) dX7_wind_11 rfl rfl ?_
    refine b_if_eq (tgt := 26) dX7_wind_14 (by decide) (fun h14 => ?_) (fun h14 => ?_)
    · refine g_bipush (v := (-2)) dX7_wind_26 (by decide) ?_
      refine g_iret rfl rfl dX7_wind_28 ?_
      refine ⟨?_, _, rfl⟩
      unfold pWind
      rw [if_pos ((iW_n (by omega)).mpr hk), if_neg (fun z => by
        obtain ⟨z1, z5, z6, z7⟩ := z
        obtain ⟨x1, hx1, rfl⟩ := raw_lt z5
        obtain ⟨x2, hx2, rfl⟩ := raw_lt z6
        rw [cN_n (k := x1) (by omega), cN_n (k := x2) (by omega)] at z7
        have w1 := nI_toInt (n := x1) (by omega)
        have w2 := nI_toInt (n := x2) (by omega)
        unfold iW at z1
        omega)]
    · refine g_iload_n (i := 3) (j := 3) dX7_wind_17 rfl rfl ?_
      refine g_iload (j := 4) dX7_wind_18 rfl ?_
      refine c_S (st1 := [.int (nI (bN (0 ≤ a0.toInt ∧ a0.toInt ≤ 10 ∧ 0 ≤ b0.toInt ∧ b0.toInt ≤ 10 ∧ a0.toInt + b0.toInt ≤ 10)))]) (ctX7_areTenths (a := a0) (b := b0) ) kX7_areTenths lX7_241 (by decide) rfl (by exact Nat.le_of_ble_eq_true rfl) dX7_wind_20 rfl rfl ?_
      refine b_if_ne (tgt := 29) dX7_wind_23 (by decide) (fun h23 => ?_) (fun h23 => ?_)
      · obtain ⟨t, ht, rfl⟩ := raw_lt (x := t0) (n := 41) (by omega)
        obtain ⟨a, ha, rfl⟩ := raw_lt (x := a0) (n := 11) (by omega)
        obtain ⟨b, hb, rfl⟩ := raw_lt (x := b0) (n := 11) (by omega)
        have qt := nI_toInt (n := t) (by omega)
        have qa := nI_toInt (n := a) (by omega)
        have qb := nI_toInt (n := b) (by omega)
        refine g_iconst (v := nI 0) dX7_wind_29 (by decide) ?_
        refine g_istore (lv' := [(6, .int (nI 0)), (0, .ref 0), (1, .int (nI k)), (2, .int (nI t)), (3, .int (nI a)), (4, .int (nI b)), (5, .int (nI uu))]) dX7_wind_30 (by decide) rfl ?_
        refine g_aload_n (i := 0) (j := 1) dX7_wind_32 rfl rfl ?_
        refine g_iload_n (i := 1) (j := 2) dX7_wind_33 rfl rfl ?_
        refine g_iload_n (i := 2) (j := 3) dX7_wind_34 rfl rfl ?_
        refine g_iconst (v := nI 0) dX7_wind_35 (by decide) ?_
        refine g_aload_n (i := 0) (j := 1) dX7_wind_36 rfl rfl ?_
        refine g_get fX7_19 rfl rfl dX7_wind_37 ?_
        refine g_get fX7_103 rfl rfl dX7_wind_40 ?_
        refine g_iconst (v := nI 1) dX7_wind_43 (by decide) ?_
        refine g_isub dX7_wind_44 ?_
        refine g_mmax lmX7_253 jm_max_s jm_i jm_max_c (by decide) (by exact Nat.le_of_ble_eq_true rfl) dX7_wind_45 ?_
        refine g_topi (y := (nI (lo - 1))) (max0_pred (by omega)) ?_
        refine g_callV (rest := []) (ctX7_isOverByLow (k := k) (s := t) (lw := lo - 1) ⟨hH, hso, hho, hpa, hwa, hwk, htw, hlo, hri, hla⟩ (by omega) (by omega) (by omega)) kX7_isOverByLow lX7_259 (by decide) rfl rfl rfl rfl (by exact Nat.le_of_ble_eq_true rfl) dX7_wind_48 rfl (fun v u hvu => ?_)
        obtain ⟨rfl, t48, rfl⟩ := hvu
        refine g_st (st' := [.int (nI (bN ((sArr h so la ri (pa k) (wa k) (lo - 1) 1 0 t).isSome = true)))]) rfl ?_
        refine b_if_eq (tgt := 60) dX7_wind_51 (by decide) (fun h51 => ?_) (fun h51 => ?_)
        · refine g_aload_n (i := 0) (j := 1) dX7_wind_60 rfl rfl ?_
          refine g_iload_n (i := 1) (j := 2) dX7_wind_61 rfl rfl ?_
          refine g_iload_n (i := 2) (j := 3) dX7_wind_62 rfl rfl ?_
          refine g_bipush (v := nI 40) dX7_wind_63 (by decide) ?_
          refine g_aload_n (i := 0) (j := 1) dX7_wind_65 rfl rfl ?_
          refine g_get fX7_19 rfl rfl dX7_wind_66 ?_
          refine g_get fX7_103 rfl rfl dX7_wind_69 ?_
          refine g_iconst (v := nI 1) dX7_wind_72 (by decide) ?_
          refine n_iadd (a := lo) (b := 1) dX7_wind_73 ?_
          refine g_mmin lmX7_233 jm_min_s jm_i jm_min_c (by decide) (by exact Nat.le_of_ble_eq_true rfl) dX7_wind_74 ?_
          refine g_topi (y := (nI (min 40 (lo + 1)))) (min_nI (by omega) (by omega)) ?_
          refine g_callV (rest := []) (ctX7_isOverByLow (k := k) (s := t) (lw := min 40 (lo + 1)) ⟨hH, hso, hho, hpa, hwa, hwk, htw, hlo, hri, hla⟩ (by omega) (by omega) (by omega)) kX7_isOverByLow lX7_259 (by decide) rfl rfl rfl rfl (by exact Nat.le_of_ble_eq_true rfl) dX7_wind_77 rfl (fun v u hvu => ?_)
          obtain ⟨rfl, t77, rfl⟩ := hvu
          refine g_st (st' := [.int (nI (bN ((sArr h so la ri (pa k) (wa k) (min 40 (lo + 1)) 1 0 t).isSome = true)))]) rfl ?_
          refine b_if_eq (tgt := 90) dX7_wind_80 (by decide) (fun h80 => ?_) (fun h80 => ?_)
          · refine g_aload_n (i := 0) (j := 1) dX7_wind_90 rfl rfl ?_
            refine g_iload_n (i := 1) (j := 2) dX7_wind_91 rfl rfl ?_
            refine g_iload_n (i := 2) (j := 3) dX7_wind_92 rfl rfl ?_
            refine g_aload_n (i := 0) (j := 1) dX7_wind_93 rfl rfl ?_
            refine g_get fX7_19 rfl rfl dX7_wind_94 ?_
            refine g_get fX7_103 rfl rfl dX7_wind_97 ?_
            refine g_callV (rest := []) (ctX7_isOverByLow (k := k) (s := t) (lw := lo) ⟨hH, hso, hho, hpa, hwa, hwk, htw, hlo, hri, hla⟩ (by omega) (by omega) (by omega)) kX7_isOverByLow lX7_259 (by decide) rfl rfl rfl rfl (by exact Nat.le_of_ble_eq_true rfl) dX7_wind_100 rfl (fun v u hvu => ?_)
            obtain ⟨rfl, t100, rfl⟩ := hvu
            refine g_st (st' := [.int (nI (bN ((sArr h so la ri (pa k) (wa k) lo 1 0 t).isSome = true)))]) rfl ?_
            refine b_if_eq (tgt := 118) dX7_wind_103 (by decide) (fun h103 => ?_) (fun h103 => ?_)
            · refine g_iload (j := 0) dX7_wind_118 rfl ?_
              refine g_bipush (v := nI 10) dX7_wind_120 (by decide) ?_
              refine g_iload (j := 6) dX7_wind_122 rfl ?_
              refine c_S (st1 := [.int (nI (sTold 0 10 uu))]) (ctX7_told (a := 0) (b := 10) (u := uu) (by omega) (by omega) (by omega) (by omega)) kX7_told lX7_249 (by decide) rfl (by exact Nat.le_of_ble_eq_true rfl) dX7_wind_124 rfl rfl ?_
              refine g_iret rfl rfl dX7_wind_127 ?_
              refine ⟨?_, _, rfl⟩
              unfold pWind
              rw [if_pos ((iW_n (by omega)).mpr hk), if_pos ⟨(iW_n (by omega)).mpr (by omega), (iW_n (by omega)).mpr (by omega), (iW_n (by omega)).mpr (by omega), by rw [cN_n (k := a) (by omega), cN_n (k := b) (by omega)]; omega⟩, cN_n (k := k) (by omega), cN_n (k := t) (by omega), cN_n (k := a) (by omega), cN_n (k := b) (by omega)]
              congr 3
              congr 1
              unfold sWd
              simp only [h51, h80, h103, if_true, if_false, Nat.zero_add, Nat.add_zero, Bool.false_eq_true, ite_true, ite_false]
            · refine g_iload (j := 0) dX7_wind_106 rfl ?_
              refine g_bipush (v := nI 10) dX7_wind_108 (by decide) ?_
              refine g_iload_n (i := 3) (j := 4) dX7_wind_110 rfl rfl ?_
              refine n_isub (a := 10) (b := a) (by omega) dX7_wind_111 ?_
              refine g_iload (j := 5) dX7_wind_112 rfl ?_
              refine n_isub (a := (10 - a)) (b := b) (by omega) dX7_wind_114 ?_
              refine n_iadd (a := 0) (b := ((10 - a) - b)) dX7_wind_115 ?_
              refine g_istore (lv' := [(6, .int (nI (0 + ((10 - a) - b)))), (0, .ref 0), (1, .int (nI k)), (2, .int (nI t)), (3, .int (nI a)), (4, .int (nI b)), (5, .int (nI uu))]) dX7_wind_116 (by decide) rfl ?_
              refine g_iload (j := 0) dX7_wind_118 rfl ?_
              refine g_bipush (v := nI 10) dX7_wind_120 (by decide) ?_
              refine g_iload (j := 6) dX7_wind_122 rfl ?_
              refine c_S (st1 := [.int (nI (sTold (0 + ((10 - a) - b)) 10 uu))]) (ctX7_told (a := 0 + ((10 - a) - b)) (b := 10) (u := uu) (by omega) (by omega) (by omega) (by omega)) kX7_told lX7_249 (by decide) rfl (by exact Nat.le_of_ble_eq_true rfl) dX7_wind_124 rfl rfl ?_
              refine g_iret rfl rfl dX7_wind_127 ?_
              refine ⟨?_, _, rfl⟩
              unfold pWind
              rw [if_pos ((iW_n (by omega)).mpr hk), if_pos ⟨(iW_n (by omega)).mpr (by omega), (iW_n (by omega)).mpr (by omega), (iW_n (by omega)).mpr (by omega), by rw [cN_n (k := a) (by omega), cN_n (k := b) (by omega)]; omega⟩, cN_n (k := k) (by omega), cN_n (k := t) (by omega), cN_n (k := a) (by omega), cN_n (k := b) (by omega)]
              congr 3
              congr 1
              unfold sWd
              simp only [h51, h80, h103, if_true, if_false, Nat.zero_add, Nat.add_zero, Bool.false_eq_true, ite_true, ite_false]
          · refine g_iload (j := 0) dX7_wind_83 rfl ?_
            refine g_iload (j := 5) dX7_wind_85 rfl ?_
            refine n_iadd (a := 0) (b := b) dX7_wind_87 ?_
            refine g_istore (lv' := [(6, .int (nI (0 + b))), (0, .ref 0), (1, .int (nI k)), (2, .int (nI t)), (3, .int (nI a)), (4, .int (nI b)), (5, .int (nI uu))]) dX7_wind_88 (by decide) rfl ?_
            refine g_aload_n (i := 0) (j := 1) dX7_wind_90 rfl rfl ?_
            refine g_iload_n (i := 1) (j := 2) dX7_wind_91 rfl rfl ?_
            refine g_iload_n (i := 2) (j := 3) dX7_wind_92 rfl rfl ?_
            refine g_aload_n (i := 0) (j := 1) dX7_wind_93 rfl rfl ?_
            refine g_get fX7_19 rfl rfl dX7_wind_94 ?_
            refine g_get fX7_103 rfl rfl dX7_wind_97 ?_
            refine g_callV (rest := []) (ctX7_isOverByLow (k := k) (s := t) (lw := lo) ⟨hH, hso, hho, hpa, hwa, hwk, htw, hlo, hri, hla⟩ (by omega) (by omega) (by omega)) kX7_isOverByLow lX7_259 (by decide) rfl rfl rfl rfl (by exact Nat.le_of_ble_eq_true rfl) dX7_wind_100 rfl (fun v u hvu => ?_)
            obtain ⟨rfl, t100, rfl⟩ := hvu
            refine g_st (st' := [.int (nI (bN ((sArr h so la ri (pa k) (wa k) lo 1 0 t).isSome = true)))]) rfl ?_
            refine b_if_eq (tgt := 118) dX7_wind_103 (by decide) (fun h103 => ?_) (fun h103 => ?_)
            · refine g_iload (j := 0) dX7_wind_118 rfl ?_
              refine g_bipush (v := nI 10) dX7_wind_120 (by decide) ?_
              refine g_iload (j := 6) dX7_wind_122 rfl ?_
              refine c_S (st1 := [.int (nI (sTold (0 + b) 10 uu))]) (ctX7_told (a := 0 + b) (b := 10) (u := uu) (by omega) (by omega) (by omega) (by omega)) kX7_told lX7_249 (by decide) rfl (by exact Nat.le_of_ble_eq_true rfl) dX7_wind_124 rfl rfl ?_
              refine g_iret rfl rfl dX7_wind_127 ?_
              refine ⟨?_, _, rfl⟩
              unfold pWind
              rw [if_pos ((iW_n (by omega)).mpr hk), if_pos ⟨(iW_n (by omega)).mpr (by omega), (iW_n (by omega)).mpr (by omega), (iW_n (by omega)).mpr (by omega), by rw [cN_n (k := a) (by omega), cN_n (k := b) (by omega)]; omega⟩, cN_n (k := k) (by omega), cN_n (k := t) (by omega), cN_n (k := a) (by omega), cN_n (k := b) (by omega)]
              congr 3
              congr 1
              unfold sWd
              simp only [h51, h80, h103, if_true, if_false, Nat.zero_add, Nat.add_zero, Bool.false_eq_true, ite_true, ite_false]
            · refine g_iload (j := 0) dX7_wind_106 rfl ?_
              refine g_bipush (v := nI 10) dX7_wind_108 (by decide) ?_
              refine g_iload_n (i := 3) (j := 4) dX7_wind_110 rfl rfl ?_
              refine n_isub (a := 10) (b := a) (by omega) dX7_wind_111 ?_
              refine g_iload (j := 5) dX7_wind_112 rfl ?_
              refine n_isub (a := (10 - a)) (b := b) (by omega) dX7_wind_114 ?_
              refine n_iadd (a := (0 + b)) (b := ((10 - a) - b)) dX7_wind_115 ?_
              refine g_istore (lv' := [(6, .int (nI ((0 + b) + ((10 - a) - b)))), (0, .ref 0), (1, .int (nI k)), (2, .int (nI t)), (3, .int (nI a)), (4, .int (nI b)), (5, .int (nI uu))]) dX7_wind_116 (by decide) rfl ?_
              refine g_iload (j := 0) dX7_wind_118 rfl ?_
              refine g_bipush (v := nI 10) dX7_wind_120 (by decide) ?_
              refine g_iload (j := 6) dX7_wind_122 rfl ?_
              refine c_S (st1 := [.int (nI (sTold ((0 + b) + ((10 - a) - b)) 10 uu))]) (ctX7_told (a := (0 + b) + ((10 - a) - b)) (b := 10) (u := uu) (by omega) (by omega) (by omega) (by omega)) kX7_told lX7_249 (by decide) rfl (by exact Nat.le_of_ble_eq_true rfl) dX7_wind_124 rfl rfl ?_
              refine g_iret rfl rfl dX7_wind_127 ?_
              refine ⟨?_, _, rfl⟩
              unfold pWind
              rw [if_pos ((iW_n (by omega)).mpr hk), if_pos ⟨(iW_n (by omega)).mpr (by omega), (iW_n (by omega)).mpr (by omega), (iW_n (by omega)).mpr (by omega), by rw [cN_n (k := a) (by omega), cN_n (k := b) (by omega)]; omega⟩, cN_n (k := k) (by omega), cN_n (k := t) (by omega), cN_n (k := a) (by omega), cN_n (k := b) (by omega)]
              congr 3
              congr 1
              unfold sWd
              simp only [h51, h80, h103, if_true, if_false, Nat.zero_add, Nat.add_zero, Bool.false_eq_true, ite_true, ite_false]
        · refine g_iload (j := 0) dX7_wind_54 rfl ?_
          refine g_iload_n (i := 3) (j := 4) dX7_wind_56 rfl rfl ?_
          refine n_iadd (a := 0) (b := a) dX7_wind_57 ?_
          refine g_istore (lv' := [(6, .int (nI (0 + a))), (0, .ref 0), (1, .int (nI k)), (2, .int (nI t)), (3, .int (nI a)), (4, .int (nI b)), (5, .int (nI uu))]) dX7_wind_58 (by decide) rfl ?_
          refine g_aload_n (i := 0) (j := 1) dX7_wind_60 rfl rfl ?_
          refine g_iload_n (i := 1) (j := 2) dX7_wind_61 rfl rfl ?_
          refine g_iload_n (i := 2) (j := 3) dX7_wind_62 rfl rfl ?_
          refine g_bipush (v := nI 40) dX7_wind_63 (by decide) ?_
          refine g_aload_n (i := 0) (j := 1) dX7_wind_65 rfl rfl ?_
          refine g_get fX7_19 rfl rfl dX7_wind_66 ?_
          refine g_get fX7_103 rfl rfl dX7_wind_69 ?_
          refine g_iconst (v := nI 1) dX7_wind_72 (by decide) ?_
          refine n_iadd (a := lo) (b := 1) dX7_wind_73 ?_
          refine g_mmin lmX7_233 jm_min_s jm_i jm_min_c (by decide) (by exact Nat.le_of_ble_eq_true rfl) dX7_wind_74 ?_
          refine g_topi (y := (nI (min 40 (lo + 1)))) (min_nI (by omega) (by omega)) ?_
          refine g_callV (rest := []) (ctX7_isOverByLow (k := k) (s := t) (lw := min 40 (lo + 1)) ⟨hH, hso, hho, hpa, hwa, hwk, htw, hlo, hri, hla⟩ (by omega) (by omega) (by omega)) kX7_isOverByLow lX7_259 (by decide) rfl rfl rfl rfl (by exact Nat.le_of_ble_eq_true rfl) dX7_wind_77 rfl (fun v u hvu => ?_)
          obtain ⟨rfl, t77, rfl⟩ := hvu
          refine g_st (st' := [.int (nI (bN ((sArr h so la ri (pa k) (wa k) (min 40 (lo + 1)) 1 0 t).isSome = true)))]) rfl ?_
          refine b_if_eq (tgt := 90) dX7_wind_80 (by decide) (fun h80 => ?_) (fun h80 => ?_)
          · refine g_aload_n (i := 0) (j := 1) dX7_wind_90 rfl rfl ?_
            refine g_iload_n (i := 1) (j := 2) dX7_wind_91 rfl rfl ?_
            refine g_iload_n (i := 2) (j := 3) dX7_wind_92 rfl rfl ?_
            refine g_aload_n (i := 0) (j := 1) dX7_wind_93 rfl rfl ?_
            refine g_get fX7_19 rfl rfl dX7_wind_94 ?_
            refine g_get fX7_103 rfl rfl dX7_wind_97 ?_
            refine g_callV (rest := []) (ctX7_isOverByLow (k := k) (s := t) (lw := lo) ⟨hH, hso, hho, hpa, hwa, hwk, htw, hlo, hri, hla⟩ (by omega) (by omega) (by omega)) kX7_isOverByLow lX7_259 (by decide) rfl rfl rfl rfl (by exact Nat.le_of_ble_eq_true rfl) dX7_wind_100 rfl (fun v u hvu => ?_)
            obtain ⟨rfl, t100, rfl⟩ := hvu
            refine g_st (st' := [.int (nI (bN ((sArr h so la ri (pa k) (wa k) lo 1 0 t).isSome = true)))]) rfl ?_
            refine b_if_eq (tgt := 118) dX7_wind_103 (by decide) (fun h103 => ?_) (fun h103 => ?_)
            · refine g_iload (j := 0) dX7_wind_118 rfl ?_
              refine g_bipush (v := nI 10) dX7_wind_120 (by decide) ?_
              refine g_iload (j := 6) dX7_wind_122 rfl ?_
              refine c_S (st1 := [.int (nI (sTold (0 + a) 10 uu))]) (ctX7_told (a := 0 + a) (b := 10) (u := uu) (by omega) (by omega) (by omega) (by omega)) kX7_told lX7_249 (by decide) rfl (by exact Nat.le_of_ble_eq_true rfl) dX7_wind_124 rfl rfl ?_
              refine g_iret rfl rfl dX7_wind_127 ?_
              refine ⟨?_, _, rfl⟩
              unfold pWind
              rw [if_pos ((iW_n (by omega)).mpr hk), if_pos ⟨(iW_n (by omega)).mpr (by omega), (iW_n (by omega)).mpr (by omega), (iW_n (by omega)).mpr (by omega), by rw [cN_n (k := a) (by omega), cN_n (k := b) (by omega)]; omega⟩, cN_n (k := k) (by omega), cN_n (k := t) (by omega), cN_n (k := a) (by omega), cN_n (k := b) (by omega)]
              congr 3
              congr 1
              unfold sWd
              simp only [h51, h80, h103, if_true, if_false, Nat.zero_add, Nat.add_zero, Bool.false_eq_true, ite_true, ite_false]
            · refine g_iload (j := 0) dX7_wind_106 rfl ?_
              refine g_bipush (v := nI 10) dX7_wind_108 (by decide) ?_
              refine g_iload_n (i := 3) (j := 4) dX7_wind_110 rfl rfl ?_
              refine n_isub (a := 10) (b := a) (by omega) dX7_wind_111 ?_
              refine g_iload (j := 5) dX7_wind_112 rfl ?_
              refine n_isub (a := (10 - a)) (b := b) (by omega) dX7_wind_114 ?_
              refine n_iadd (a := (0 + a)) (b := ((10 - a) - b)) dX7_wind_115 ?_
              refine g_istore (lv' := [(6, .int (nI ((0 + a) + ((10 - a) - b)))), (0, .ref 0), (1, .int (nI k)), (2, .int (nI t)), (3, .int (nI a)), (4, .int (nI b)), (5, .int (nI uu))]) dX7_wind_116 (by decide) rfl ?_
              refine g_iload (j := 0) dX7_wind_118 rfl ?_
              refine g_bipush (v := nI 10) dX7_wind_120 (by decide) ?_
              refine g_iload (j := 6) dX7_wind_122 rfl ?_
              refine c_S (st1 := [.int (nI (sTold ((0 + a) + ((10 - a) - b)) 10 uu))]) (ctX7_told (a := (0 + a) + ((10 - a) - b)) (b := 10) (u := uu) (by omega) (by omega) (by omega) (by omega)) kX7_told lX7_249 (by decide) rfl (by exact Nat.le_of_ble_eq_true rfl) dX7_wind_124 rfl rfl ?_
              refine g_iret rfl rfl dX7_wind_127 ?_
              refine ⟨?_, _, rfl⟩
              unfold pWind
              rw [if_pos ((iW_n (by omega)).mpr hk), if_pos ⟨(iW_n (by omega)).mpr (by omega), (iW_n (by omega)).mpr (by omega), (iW_n (by omega)).mpr (by omega), by rw [cN_n (k := a) (by omega), cN_n (k := b) (by omega)]; omega⟩, cN_n (k := k) (by omega), cN_n (k := t) (by omega), cN_n (k := a) (by omega), cN_n (k := b) (by omega)]
              congr 3
              congr 1
              unfold sWd
              simp only [h51, h80, h103, if_true, if_false, Nat.zero_add, Nat.add_zero, Bool.false_eq_true, ite_true, ite_false]
          · refine g_iload (j := 0) dX7_wind_83 rfl ?_
            refine g_iload (j := 5) dX7_wind_85 rfl ?_
            refine n_iadd (a := (0 + a)) (b := b) dX7_wind_87 ?_
            refine g_istore (lv' := [(6, .int (nI ((0 + a) + b))), (0, .ref 0), (1, .int (nI k)), (2, .int (nI t)), (3, .int (nI a)), (4, .int (nI b)), (5, .int (nI uu))]) dX7_wind_88 (by decide) rfl ?_
            refine g_aload_n (i := 0) (j := 1) dX7_wind_90 rfl rfl ?_
            refine g_iload_n (i := 1) (j := 2) dX7_wind_91 rfl rfl ?_
            refine g_iload_n (i := 2) (j := 3) dX7_wind_92 rfl rfl ?_
            refine g_aload_n (i := 0) (j := 1) dX7_wind_93 rfl rfl ?_
            refine g_get fX7_19 rfl rfl dX7_wind_94 ?_
            refine g_get fX7_103 rfl rfl dX7_wind_97 ?_
            refine g_callV (rest := []) (ctX7_isOverByLow (k := k) (s := t) (lw := lo) ⟨hH, hso, hho, hpa, hwa, hwk, htw, hlo, hri, hla⟩ (by omega) (by omega) (by omega)) kX7_isOverByLow lX7_259 (by decide) rfl rfl rfl rfl (by exact Nat.le_of_ble_eq_true rfl) dX7_wind_100 rfl (fun v u hvu => ?_)
            obtain ⟨rfl, t100, rfl⟩ := hvu
            refine g_st (st' := [.int (nI (bN ((sArr h so la ri (pa k) (wa k) lo 1 0 t).isSome = true)))]) rfl ?_
            refine b_if_eq (tgt := 118) dX7_wind_103 (by decide) (fun h103 => ?_) (fun h103 => ?_)
            · refine g_iload (j := 0) dX7_wind_118 rfl ?_
              refine g_bipush (v := nI 10) dX7_wind_120 (by decide) ?_
              refine g_iload (j := 6) dX7_wind_122 rfl ?_
              refine c_S (st1 := [.int (nI (sTold ((0 + a) + b) 10 uu))]) (ctX7_told (a := (0 + a) + b) (b := 10) (u := uu) (by omega) (by omega) (by omega) (by omega)) kX7_told lX7_249 (by decide) rfl (by exact Nat.le_of_ble_eq_true rfl) dX7_wind_124 rfl rfl ?_
              refine g_iret rfl rfl dX7_wind_127 ?_
              refine ⟨?_, _, rfl⟩
              unfold pWind
              rw [if_pos ((iW_n (by omega)).mpr hk), if_pos ⟨(iW_n (by omega)).mpr (by omega), (iW_n (by omega)).mpr (by omega), (iW_n (by omega)).mpr (by omega), by rw [cN_n (k := a) (by omega), cN_n (k := b) (by omega)]; omega⟩, cN_n (k := k) (by omega), cN_n (k := t) (by omega), cN_n (k := a) (by omega), cN_n (k := b) (by omega)]
              congr 3
              congr 1
              unfold sWd
              simp only [h51, h80, h103, if_true, if_false, Nat.zero_add, Nat.add_zero, Bool.false_eq_true, ite_true, ite_false]
            · refine g_iload (j := 0) dX7_wind_106 rfl ?_
              refine g_bipush (v := nI 10) dX7_wind_108 (by decide) ?_
              refine g_iload_n (i := 3) (j := 4) dX7_wind_110 rfl rfl ?_
              refine n_isub (a := 10) (b := a) (by omega) dX7_wind_111 ?_
              refine g_iload (j := 5) dX7_wind_112 rfl ?_
              refine n_isub (a := (10 - a)) (b := b) (by omega) dX7_wind_114 ?_
              refine n_iadd (a := ((0 + a) + b)) (b := ((10 - a) - b)) dX7_wind_115 ?_
              refine g_istore (lv' := [(6, .int (nI (((0 + a) + b) + ((10 - a) - b)))), (0, .ref 0), (1, .int (nI k)), (2, .int (nI t)), (3, .int (nI a)), (4, .int (nI b)), (5, .int (nI uu))]) dX7_wind_116 (by decide) rfl ?_
              refine g_iload (j := 0) dX7_wind_118 rfl ?_
              refine g_bipush (v := nI 10) dX7_wind_120 (by decide) ?_
              refine g_iload (j := 6) dX7_wind_122 rfl ?_
              refine c_S (st1 := [.int (nI (sTold (((0 + a) + b) + ((10 - a) - b)) 10 uu))]) (ctX7_told (a := ((0 + a) + b) + ((10 - a) - b)) (b := 10) (u := uu) (by omega) (by omega) (by omega) (by omega)) kX7_told lX7_249 (by decide) rfl (by exact Nat.le_of_ble_eq_true rfl) dX7_wind_124 rfl rfl ?_
              refine g_iret rfl rfl dX7_wind_127 ?_
              refine ⟨?_, _, rfl⟩
              unfold pWind
              rw [if_pos ((iW_n (by omega)).mpr hk), if_pos ⟨(iW_n (by omega)).mpr (by omega), (iW_n (by omega)).mpr (by omega), (iW_n (by omega)).mpr (by omega), by rw [cN_n (k := a) (by omega), cN_n (k := b) (by omega)]; omega⟩, cN_n (k := k) (by omega), cN_n (k := t) (by omega), cN_n (k := a) (by omega), cN_n (k := b) (by omega)]
              congr 3
              congr 1
              unfold sWd
              simp only [h51, h80, h103, if_true, if_false, Nat.zero_add, Nat.add_zero, Bool.false_eq_true, ite_true, ite_false]
      · refine g_bipush (v := (-2)) dX7_wind_26 (by decide) ?_
        refine g_iret rfl rfl dX7_wind_28 ?_
        refine ⟨?_, _, rfl⟩
        unfold pWind
        rw [if_pos ((iW_n (by omega)).mpr hk), if_neg (fun z => by
          obtain ⟨z1, z5, z6, z7⟩ := z
          obtain ⟨x1, hx1, rfl⟩ := raw_lt z5
          obtain ⟨x2, hx2, rfl⟩ := raw_lt z6
          rw [cN_n (k := x1) (by omega), cN_n (k := x2) (by omega)] at z7
          have w1 := nI_toInt (n := x1) (by omega)
          have w2 := nI_toInt (n := x2) (by omega)
          unfold iW at z1
          omega)]
  · refine g_iconst (v := (-1)) dX7_wind_8 (by decide) ?_
    refine g_iret rfl rfl dX7_wind_9 ?_
    refine ⟨?_, _, rfl⟩
    unfold pWind
    rw [if_neg h5]

theorem ctX7_drawnWay {e1 e2 e3 e4 e5 e6 e7 e8 e9 e10 e11 e12 e13 e14 e16 e17 e19 e21 e22 e23 e25 e26 : va_E} {sd : Int64} : Ct mX7_drawnWay 0 [.ref 0] (wC (kO sd) e1 e2 e3 e4 e5 e6 e7 e8 e9 e10 e11 e12 e13 e14 e16 e17 e19 e21 e22 e23 e25 e26) (gE (some (.int (nI (sWayD (sNext sd))))) (wC (kO (sNext sd)) e1 e2 e3 e4 e5 e6 e7 e8 e9 e10 e11 e12 e13 e14 e16 e17 e19 e21 e22 e23 e25 e26)) := by
  refine Ct.of (by decide) (by exact Nat.le_of_ble_eq_true rfl) ?_
  show Go mX7_drawnWay 0 0 [(0, .ref 0)] [] (wC (kO sd) e1 e2 e3 e4 e5 e6 e7 e8 e9 e10 e11 e12 e13 e14 e16 e17 e19 e21 e22 e23 e25 e26) (gE (some (.int (nI (sWayD (sNext sd))))) (wC (kO (sNext sd)) e1 e2 e3 e4 e5 e6 e7 e8 e9 e10 e11 e12 e13 e14 e16 e17 e19 e21 e22 e23 e25 e26))
  refine g_aload_n (i := 0) (j := 0) dX7_drawnWay_0 rfl rfl ?_
  refine g_aload_n (i := 0) (j := 0) dX7_drawnWay_1 rfl rfl ?_
  refine g_get fX7_67 rfl rfl dX7_drawnWay_2 ?_
  refine g_ldc2 clX7_289 dX7_drawnWay_5 ?_
  refine g_lmul dX7_drawnWay_8 ?_
  refine g_ldc2 clX7_291 dX7_drawnWay_9 ?_
  refine g_ladd dX7_drawnWay_12 ?_
  refine r_putJ (ws' := wC (kO ((sd * (6364136223846793005)) + (1442695040888963407))) e1 e2 e3 e4 e5 e6 e7 e8 e9 e10 e11 e12 e13 e14 e16 e17 e19 e21 e22 e23 e25 e26) fX7_67 fp_X7_9 rfl (by exact Nat.le_of_ble_eq_true rfl) dX7_drawnWay_13 rfl ?_
  refine g_ws (ws' := wC (kO (sNext sd)) e1 e2 e3 e4 e5 e6 e7 e8 e9 e10 e11 e12 e13 e14 e16 e17 e19 e21 e22 e23 e25 e26) rfl ?_
  refine g_aload_n (i := 0) (j := 0) dX7_drawnWay_16 rfl rfl ?_
  refine g_get fX7_67 rfl rfl dX7_drawnWay_17 ?_
  refine g_bipush (v := nI 33) dX7_drawnWay_20 (by decide) ?_
  refine g_lushr (v := (sShr (sNext sd))) dX7_drawnWay_22 rfl ?_
  refine g_ldc2 clX7_293 dX7_drawnWay_23 ?_
  refine g_lrem dX7_drawnWay_26 (by decide) ?_
  refine g_lconst (v := lN 0) dX7_drawnWay_27 (by decide) ?_
  refine g_lcmp dX7_drawnWay_28 ?_
  refine g_if_ne (tgt := 36) dX7_drawnWay_29 (by decide) (fun h29 => ?_) (fun h29 => ?_)
  · refine g_iconst (v := nI 1) dX7_drawnWay_36 (by decide) ?_
    refine g_iret rfl rfl dX7_drawnWay_37 ?_
    refine gE_n ?_ rfl
    unfold sWayD
    rw [ne_eq, lg_cmp_eq] at h29
    rw [if_neg h29]
  · refine g_iconst (v := nI 2) dX7_drawnWay_32 (by decide) ?_
    refine g_goto (tgt := 37) dX7_drawnWay_33 (by decide) ?_
    refine g_iret rfl rfl dX7_drawnWay_37 ?_
    refine gE_n ?_ rfl
    unfold sWayD
    rw [lg_cmp_eq] at h29
    rw [if_pos h29]

theorem lp_fog {e1 e2 e9 e10 e11 e12 e13 e14 e17 e19 e21 e22 e25 e26 : va_E} {h so ho pa wa : Nat → Nat} {wk tw sf lo ri la : Nat} {r : Nat → Nat} (hg : gOK h so ho pa wa wk tw lo ri la) {k tq m : Nat} (hk : k < 5) (hm : m ≤ 20) : ∀ (n i : Nat) (sd : Int64) (c s f : Nat), i + n = m → c ≤ 9 → s + n ≤ 40 → f ≤ 4 → Go mX7_fog 3 56 [(0, .ref 0), (1, .int (nI k)), (2, .int (nI tq)), (3, .int (nI m)), (4, .int (nI i))] [] (wC (kO sd) e1 e2 (kG3 wk tw sf lo ri la) (kI 10 h) (kZ 10 so) (kI 10 ho) (kI 5 pa) (kI 5 wa) e9 e10 e11 e12 e13 e14 (kI 16 r) e17 e19 e21 e22 (kP (pa k) (wa k) lo c s f) e25 e26) (fun v u => v = some (.int (if (sFog h so la ri (pa k) (wa k) lo n sd c s f).2.2 = 2 ∨ (sFog h so la ri (pa k) (wa k) lo n sd c s f).2.2 = 3 then -9 else nI (sFog h so la ri (pa k) (wa k) lo n sd c s f).2.1)) ∧ ∃ t2 : t6, u = wC (kO ((sFog h so la ri (pa k) (wa k) lo n sd c s f).1)) e1 e2 (kG3 wk tw sf lo ri la) (kI 10 h) (kZ 10 so) (kI 10 ho) (kI 5 pa) (kI 5 wa) e9 e10 e11 e12 e13 e14 (kI 16 r) e17 e19 e21 e22 (kPt t2) e25 e26) := by
  obtain ⟨hH, hso, hho, hpa, hwa, hwk, htw, hlo, hri, hla⟩ := hg
  intro n
  induction n with
  | zero =>
    intro i sd c s f hi hc hs hf
    refine g_iload (j := 4) dX7_fog_56 rfl ?_
    refine g_iload_n (i := 3) (j := 3) dX7_fog_58 rfl rfl ?_
    refine n_icmp_ge (tgt := 93) (by omega) (by omega) dX7_fog_59 (by decide) (fun h59 => ?_) (fun h59 => ?_)
    · refine g_aload_n (i := 0) (j := 0) dX7_fog_93 rfl rfl ?_
      refine g_get fX7_56 rfl rfl dX7_fog_94 ?_
      refine c_V (st1 := [.int (nI (bN (f = 2 ∨ f = 3)))]) (ctX5_isLost  (by first | omega | exact sFate_le _ _ _ _ _ _ _ _ (by omega))) kX5_isLost lX7_223 (by decide) rfl rfl rfl rfl (by exact Nat.le_of_ble_eq_true rfl) dX7_fog_97 rfl rfl ?_
      refine b_if_eq (tgt := 108) dX7_fog_100 (by decide) (fun h100 => ?_) (fun h100 => ?_)
      · refine g_aload_n (i := 0) (j := 0) dX7_fog_108 rfl rfl ?_
        refine g_get fX7_56 rfl rfl dX7_fog_109 ?_
        refine g_get fX7_265 rfl rfl dX7_fog_112 ?_
        refine g_iret rfl rfl dX7_fog_115 ?_
        have eF : sFog h so la ri (pa k) (wa k) lo 0 sd c s f = (sd, c, f) := by rfl
        rw [eF]
        refine ⟨?_, ((pa k), (wa k), lo, c, s, f), rfl⟩
        rw [if_neg h100]
      · refine g_bipush (v := (-9)) dX7_fog_103 (by decide) ?_
        refine g_goto (tgt := 115) dX7_fog_105 (by decide) ?_
        refine g_iret rfl rfl dX7_fog_115 ?_
        have eF : sFog h so la ri (pa k) (wa k) lo 0 sd c s f = (sd, c, f) := by rfl
        rw [eF]
        refine ⟨?_, ((pa k), (wa k), lo, c, s, f), rfl⟩
        rw [if_pos h100]
    · exfalso; omega

  | succ n ih =>
    intro i sd c s f hi hc hs hf
    have qw := sWayD_le (sNext sd)
    refine g_iload (j := 4) dX7_fog_56 rfl ?_
    refine g_iload_n (i := 3) (j := 3) dX7_fog_58 rfl rfl ?_
    refine n_icmp_ge (tgt := 93) (by omega) (by omega) dX7_fog_59 (by decide) (fun h59 => ?_) (fun h59 => ?_)
    · exfalso; omega
    · refine g_aload_n (i := 0) (j := 0) dX7_fog_62 rfl rfl ?_
      refine g_get fX7_56 rfl rfl dX7_fog_63 ?_
      refine g_get fX7_210 rfl rfl dX7_fog_66 ?_
      refine n_if_ne (tgt := 93) (by omega) dX7_fog_69 (by decide) (fun h69 => ?_) (fun h69 => ?_)
      · refine g_aload_n (i := 0) (j := 0) dX7_fog_93 rfl rfl ?_
        refine g_get fX7_56 rfl rfl dX7_fog_94 ?_
        refine c_V (st1 := [.int (nI (bN (f = 2 ∨ f = 3)))]) (ctX5_isLost  (by first | omega | exact sFate_le _ _ _ _ _ _ _ _ (by omega))) kX5_isLost lX7_223 (by decide) rfl rfl rfl rfl (by exact Nat.le_of_ble_eq_true rfl) dX7_fog_97 rfl rfl ?_
        refine b_if_eq (tgt := 108) dX7_fog_100 (by decide) (fun h100 => ?_) (fun h100 => ?_)
        · refine g_aload_n (i := 0) (j := 0) dX7_fog_108 rfl rfl ?_
          refine g_get fX7_56 rfl rfl dX7_fog_109 ?_
          refine g_get fX7_265 rfl rfl dX7_fog_112 ?_
          refine g_iret rfl rfl dX7_fog_115 ?_
          have eF : sFog h so la ri (pa k) (wa k) lo (n + 1) sd c s f = (sd, c, f) := by rw [sFog, if_neg h69]
          rw [eF]
          refine ⟨?_, ((pa k), (wa k), lo, c, s, f), rfl⟩
          rw [if_neg h100]
        · refine g_bipush (v := (-9)) dX7_fog_103 (by decide) ?_
          refine g_goto (tgt := 115) dX7_fog_105 (by decide) ?_
          refine g_iret rfl rfl dX7_fog_115 ?_
          have eF : sFog h so la ri (pa k) (wa k) lo (n + 1) sd c s f = (sd, c, f) := by rw [sFog, if_neg h69]
          rw [eF]
          refine ⟨?_, ((pa k), (wa k), lo, c, s, f), rfl⟩
          rw [if_pos h100]
      · refine g_ws (ws' := wC (kO sd) e1 e2 (kG3 wk tw sf lo ri la) (kI 10 h) (kZ 10 so) (kI 10 ho) (kI 5 pa) (kI 5 wa) e9 e10 e11 e12 e13 e14 (kI 16 r) e17 e19 e21 e22 (kP (pa k) (wa k) lo c s 0) e25 e26) (by rw [h69]) ?_
        refine g_aload_n (i := 0) (j := 0) dX7_fog_72 rfl rfl ?_
        refine g_get fX7_56 rfl rfl dX7_fog_73 ?_
        refine g_aload_n (i := 0) (j := 0) dX7_fog_76 rfl rfl ?_
        refine g_get fX7_19 rfl rfl dX7_fog_77 ?_
        refine g_aload_n (i := 0) (j := 0) dX7_fog_80 rfl rfl ?_
        refine c_V (st1 := [.int (nI (sWayD (sNext sd))), .ref 3, .ref 23]) (ctX7_drawnWay  ) kX7_drawnWay lX7_262 (by decide) rfl rfl rfl rfl (by exact Nat.le_of_ble_eq_true rfl) dX7_fog_81 rfl rfl ?_
        refine c_V (st1 := []) (ctX5_move (way := sWayD (sNext sd)) hH hso hla hri (by first | omega | exact hpa _ | exact hwa _ | exact hr1 _ (by omega) | exact hr6 _ (by omega) | exact hr11 _ (by omega) | exact hr _ | exact Nat.le_succ_of_le (hr _)) (by first | omega | exact hpa _ | exact hwa _ | exact hr1 _ (by omega) | exact hr6 _ (by omega) | exact hr11 _ (by omega) | exact hr _ | exact Nat.le_succ_of_le (hr _)) (by first | omega | exact hpa _ | exact hwa _ | exact hr1 _ (by omega) | exact hr6 _ (by omega) | exact hr11 _ (by omega) | exact hr _ | exact Nat.le_succ_of_le (hr _)) (by first | omega | exact hpa _ | exact hwa _ | exact hr1 _ (by omega) | exact hr6 _ (by omega) | exact hr11 _ (by omega) | exact hr _ | exact Nat.le_succ_of_le (hr _)) (by first | omega | exact hpa _ | exact hwa _ | exact hr1 _ (by omega) | exact hr6 _ (by omega) | exact hr11 _ (by omega) | exact hr _ | exact Nat.le_succ_of_le (hr _)) (by first | omega | exact hpa _ | exact hwa _ | exact hr1 _ (by omega) | exact hr6 _ (by omega) | exact hr11 _ (by omega) | exact hr _ | exact Nat.le_succ_of_le (hr _)) (by first | omega | exact hpa _ | exact hwa _ | exact hr1 _ (by omega) | exact hr6 _ (by omega) | exact hr11 _ (by omega) | exact hr _ | exact Nat.le_succ_of_le (hr _))) kX5_move lX7_219 (by decide) rfl rfl rfl rfl (by exact Nat.le_of_ble_eq_true rfl) dX7_fog_84 rfl rfl ?_
        refine n_inc (x := i) (j := 4) (lv' := [(4, .int (nI (i + 1))), (0, .ref 0), (1, .int (nI k)), (2, .int (nI tq)), (3, .int (nI m))]) dX7_fog_87 rfl (by decide) rfl ?_
        refine g_goto (tgt := 56) dX7_fog_90 (by decide) ?_
        refine g_lv [1, 2, 3, 4, 0] rfl ?_
        rw [show sFog h so la ri (pa k) (wa k) lo (n + 1) sd c s f = sFog h so la ri (pa k) (wa k) lo n (sNext sd) (sTo h (pa k) (wa k) c (sWayD (sNext sd)) (sWater la ri s lo)) (s + 1) (sFate h so (wa k) c (sTo h (pa k) (wa k) c (sWayD (sNext sd)) (sWater la ri s lo)) (sWayD (sNext sd)) (sWater la ri (s + 1) lo) 0) by rw [sFog, if_pos h69]]
        exact ih (i + 1) _ _ _ _ (by omega) (sTo_le _ _ _ _ _ _ hc) (by omega) (sFate_le _ _ _ _ _ _ _ _ (by omega))

theorem ctX7_fog {e1 e2 e9 e10 e11 e12 e13 e14 e17 e19 e21 e22 e25 e26 : va_E} {sd : Int64} {h so ho pa wa : Nat → Nat} {wk tw sf lo ri la : Nat} {r : Nat → Nat} {tt : t6} (hg : gOK h so ho pa wa wk tw lo ri la) {k0 t0 m0 : Int32} : Ct mX7_fog 3 [.ref 0, .int k0, .int t0, .int m0] (wC (kO sd) e1 e2 (kG3 wk tw sf lo ri la) (kI 10 h) (kZ 10 so) (kI 10 ho) (kI 5 pa) (kI 5 wa) e9 e10 e11 e12 e13 e14 (kI 16 r) e17 e19 e21 e22 (kPt tt) e25 e26) (fun v u => v = some (.int (pFog h so pa wa wk lo ri la sd k0 t0 m0)) ∧ ∃ t2 : t6, u = if cFog wk k0 t0 m0 then wC (kO ((sFogP h so pa wa lo ri la sd k0 t0 m0).1)) e1 e2 (kG3 wk tw sf lo ri la) (kI 10 h) (kZ 10 so) (kI 10 ho) (kI 5 pa) (kI 5 wa) e9 e10 e11 e12 e13 e14 (kI 16 r) e17 e19 e21 e22 (kPt t2) e25 e26 else wC (kO sd) e1 e2 (kG3 wk tw sf lo ri la) (kI 10 h) (kZ 10 so) (kI 10 ho) (kI 5 pa) (kI 5 wa) e9 e10 e11 e12 e13 e14 (kI 16 r) e17 e19 e21 e22 (kPt t2) e25 e26) := by
  refine Ct.of (by decide) (by exact Nat.le_of_ble_eq_true rfl) ?_
  show Go mX7_fog 3 0 [(0, .ref 0), (1, .int k0), (2, .int t0), (3, .int m0)] [] (wC (kO sd) e1 e2 (kG3 wk tw sf lo ri la) (kI 10 h) (kZ 10 so) (kI 10 ho) (kI 5 pa) (kI 5 wa) e9 e10 e11 e12 e13 e14 (kI 16 r) e17 e19 e21 e22 (kPt tt) e25 e26) (fun v u => v = some (.int (pFog h so pa wa wk lo ri la sd k0 t0 m0)) ∧ ∃ t2 : t6, u = if cFog wk k0 t0 m0 then wC (kO ((sFogP h so pa wa lo ri la sd k0 t0 m0).1)) e1 e2 (kG3 wk tw sf lo ri la) (kI 10 h) (kZ 10 so) (kI 10 ho) (kI 5 pa) (kI 5 wa) e9 e10 e11 e12 e13 e14 (kI 16 r) e17 e19 e21 e22 (kPt t2) e25 e26 else wC (kO sd) e1 e2 (kG3 wk tw sf lo ri la) (kI 10 h) (kZ 10 so) (kI 10 ho) (kI 5 pa) (kI 5 wa) e9 e10 e11 e12 e13 e14 (kI 16 r) e17 e19 e21 e22 (kPt t2) e25 e26)
  have hg0 := hg
  obtain ⟨hH, hso, hho, hpa, hwa, hwk, htw, hlo, hri, hla⟩ := hg
  refine g_aload_n (i := 0) (j := 0) dX7_fog_0 rfl rfl ?_
  refine g_iload_n (i := 1) (j := 1) dX7_fog_1 rfl rfl ?_
  refine c_V (st1 := [.int (nI (bN (0 ≤ k0.toInt ∧ k0.toInt < wk)))]) (ctX7_isWalker (x := k0) (by omega)) kX7_isWalker lX7_138 (by decide) rfl rfl rfl rfl (by exact Nat.le_of_ble_eq_true rfl) dX7_fog_2 rfl rfl ?_
  refine b_if_ne (tgt := 10) dX7_fog_5 (by decide) (fun h5 => ?_) (fun h5 => ?_)
  · obtain ⟨k, hk, rfl⟩ := raw_lt h5
    refine g_iload_n (i := 2) (j := 2) dX7_fog_10 rfl rfl ?_
    refine c_S (st1 := [.int (nI (bN (0 ≤ t0.toInt ∧ t0.toInt ≤ 40)))]) (ctX7_isStep (x := t0) ) kX7_isStep lX7_156 (by decide) rfl (by exact Nat.le_of_ble_eq_true rfl) dX7_fog_11 rfl rfl ?_
    refine b_if_eq (tgt := 36) dX7_fog_14 (by decide) (fun h14 => ?_) (fun h14 => ?_)
    · refine g_bipush (v := (-2)) dX7_fog_36 (by decide) ?_
      refine g_iret rfl rfl dX7_fog_38 ?_
      have nf : ¬ (iW t0 41 ∧ (iW m0 21 ∧ ¬ m0 = nI 0) ∧ cN t0 + cN m0 ≤ 40) := by
        intro z
        obtain ⟨z1, ⟨z2, z3⟩, z4⟩ := z
        obtain ⟨x1, hx1, rfl⟩ := raw_lt z1
        obtain ⟨x2, hx2, rfl⟩ := raw_lt z2
        rw [cN_n (k := x1) (by omega), cN_n (k := x2) (by omega)] at z4
        rw [nI_eq (by omega) (by omega)] at z3
        have w1 := nI_toInt (n := x1) (by omega)
        have w2 := nI_toInt (n := x2) (by omega)
        try rw [nI_add] at h33
        try simp only [nI_toInt (n := x1 + x2) (by omega), Int32.lt_iff_toInt_lt, Int32.le_iff_toInt_le, t_z, t_0, t_1, t_2, t_3, t_5, t_6, t_8, t_9, t_10, t_20, t_40, t_56, t_255] at *
        omega
      refine ⟨?_, tt, (if_neg (fun z => nf z.2)).symm⟩
      unfold pFog
      rw [if_pos ((iW_n (by omega)).mpr hk), if_neg nf]
    · refine g_iload_n (i := 3) (j := 3) dX7_fog_17 rfl rfl ?_
      refine g_iconst (v := nI 1) dX7_fog_18 (by decide) ?_
      refine g_icmp_lt (tgt := 36) dX7_fog_19 (by decide) (fun h19 => ?_) (fun h19 => ?_)
      · refine g_bipush (v := (-2)) dX7_fog_36 (by decide) ?_
        refine g_iret rfl rfl dX7_fog_38 ?_
        have nf : ¬ (iW t0 41 ∧ (iW m0 21 ∧ ¬ m0 = nI 0) ∧ cN t0 + cN m0 ≤ 40) := by
          intro z
          obtain ⟨z1, ⟨z2, z3⟩, z4⟩ := z
          obtain ⟨x1, hx1, rfl⟩ := raw_lt z1
          obtain ⟨x2, hx2, rfl⟩ := raw_lt z2
          rw [cN_n (k := x1) (by omega), cN_n (k := x2) (by omega)] at z4
          rw [nI_eq (by omega) (by omega)] at z3
          have w1 := nI_toInt (n := x1) (by omega)
          have w2 := nI_toInt (n := x2) (by omega)
          try rw [nI_add] at h33
          try simp only [nI_toInt (n := x1 + x2) (by omega), Int32.lt_iff_toInt_lt, Int32.le_iff_toInt_le, t_z, t_0, t_1, t_2, t_3, t_5, t_6, t_8, t_9, t_10, t_20, t_40, t_56, t_255] at *
          omega
        refine ⟨?_, tt, (if_neg (fun z => nf z.2)).symm⟩
        unfold pFog
        rw [if_pos ((iW_n (by omega)).mpr hk), if_neg nf]
      · refine g_iload_n (i := 3) (j := 3) dX7_fog_22 rfl rfl ?_
        refine g_bipush (v := nI 20) dX7_fog_23 (by decide) ?_
        refine g_icmp_gt (tgt := 36) dX7_fog_25 (by decide) (fun h25 => ?_) (fun h25 => ?_)
        · refine g_bipush (v := (-2)) dX7_fog_36 (by decide) ?_
          refine g_iret rfl rfl dX7_fog_38 ?_
          have nf : ¬ (iW t0 41 ∧ (iW m0 21 ∧ ¬ m0 = nI 0) ∧ cN t0 + cN m0 ≤ 40) := by
            intro z
            obtain ⟨z1, ⟨z2, z3⟩, z4⟩ := z
            obtain ⟨x1, hx1, rfl⟩ := raw_lt z1
            obtain ⟨x2, hx2, rfl⟩ := raw_lt z2
            rw [cN_n (k := x1) (by omega), cN_n (k := x2) (by omega)] at z4
            rw [nI_eq (by omega) (by omega)] at z3
            have w1 := nI_toInt (n := x1) (by omega)
            have w2 := nI_toInt (n := x2) (by omega)
            try rw [nI_add] at h33
            try simp only [nI_toInt (n := x1 + x2) (by omega), Int32.lt_iff_toInt_lt, Int32.le_iff_toInt_le, t_z, t_0, t_1, t_2, t_3, t_5, t_6, t_8, t_9, t_10, t_20, t_40, t_56, t_255] at *
            omega
          refine ⟨?_, tt, (if_neg (fun z => nf z.2)).symm⟩
          unfold pFog
          rw [if_pos ((iW_n (by omega)).mpr hk), if_neg nf]
        · refine g_iload_n (i := 2) (j := 2) dX7_fog_28 rfl rfl ?_
          refine g_iload_n (i := 3) (j := 3) dX7_fog_29 rfl rfl ?_
          refine g_iadd dX7_fog_30 ?_
          refine g_bipush (v := nI 40) dX7_fog_31 (by decide) ?_
          refine g_icmp_le (tgt := 39) dX7_fog_33 (by decide) (fun h33 => ?_) (fun h33 => ?_)
          · simp only [Int32.lt_iff_toInt_lt, Int32.le_iff_toInt_le, t_z, t_0, t_1, t_2, t_3, t_5, t_6, t_8, t_9, t_10, t_20, t_40, t_56, t_255] at h19 h25
            obtain ⟨t, ht, rfl⟩ := raw_lt (x := t0) (n := 41) (by omega)
            obtain ⟨m, hm, rfl⟩ := raw_lt (x := m0) (n := 21) (by omega)
            have qt := nI_toInt (n := t) (by omega)
            have qm := nI_toInt (n := m) (by omega)
            rw [nI_add, nI_leI (by omega) (by omega)] at h33
            have ek : cN (nI k) = k := cN_n (by omega)
            have et : cN (nI t) = t := cN_n (by omega)
            have em : cN (nI m) = m := cN_n (by omega)
            have hin : iW (nI t) 41 ∧ (iW (nI m) 21 ∧ ¬ nI m = nI 0) ∧ cN (nI t) + cN (nI m) ≤ 40 := ⟨(iW_n (by omega)).mpr (by omega), ⟨(iW_n (by omega)).mpr (by omega), fun z => by rw [nI_eq (by omega) (by omega)] at z; omega⟩, by rw [et, em]; omega⟩
            have hik : iW (nI k) wk := (iW_n (by omega)).mpr hk
            refine g_aload_n (i := 0) (j := 0) dX7_fog_39 rfl rfl ?_
            refine g_get fX7_56 rfl rfl dX7_fog_40 ?_
            refine g_aload_n (i := 0) (j := 0) dX7_fog_43 rfl rfl ?_
            refine g_get fX7_19 rfl rfl dX7_fog_44 ?_
            refine g_iload_n (i := 1) (j := 1) dX7_fog_47 rfl rfl ?_
            refine g_iconst (v := nI 0) dX7_fog_48 (by decide) ?_
            refine g_iload_n (i := 2) (j := 2) dX7_fog_49 rfl rfl ?_
            refine c_V (st1 := []) (ctX5_begin (k := k) (c := 0) (s := t) (by omega)) kX5_begin lX7_206 (by decide) rfl rfl rfl rfl (by exact Nat.le_of_ble_eq_true rfl) dX7_fog_50 rfl rfl ?_
            refine g_iconst (v := nI 0) dX7_fog_53 (by decide) ?_
            refine g_istore (lv' := [(4, .int (nI 0)), (0, .ref 0), (1, .int (nI k)), (2, .int (nI t)), (3, .int (nI m))]) dX7_fog_54 (by decide) rfl ?_
            refine g_lv [1, 2, 3, 4, 0] rfl ?_
            refine g_post ?_ (lp_fog hg0 (by omega) (by omega) m 0 sd 0 t 0 (by omega) (by omega) (by omega) (by omega))
            intro v u hvu
            obtain ⟨e, t2, e2⟩ := hvu
            refine ⟨?_, t2, ?_⟩
            · unfold pFog
              rw [if_pos hik, if_pos hin]
              unfold sFogP
              rw [ek, et, em]
              exact e
            · refine Eq.trans e2 (Eq.trans ?_ (if_pos (c := cFog wk (nI k) (nI t) (nI m)) ⟨hik, hin⟩).symm)
              unfold sFogP
              rw [ek, et, em]
          · refine g_bipush (v := (-2)) dX7_fog_36 (by decide) ?_
            refine g_iret rfl rfl dX7_fog_38 ?_
            have nf : ¬ (iW t0 41 ∧ (iW m0 21 ∧ ¬ m0 = nI 0) ∧ cN t0 + cN m0 ≤ 40) := by
              intro z
              obtain ⟨z1, ⟨z2, z3⟩, z4⟩ := z
              obtain ⟨x1, hx1, rfl⟩ := raw_lt z1
              obtain ⟨x2, hx2, rfl⟩ := raw_lt z2
              rw [cN_n (k := x1) (by omega), cN_n (k := x2) (by omega)] at z4
              rw [nI_eq (by omega) (by omega)] at z3
              have w1 := nI_toInt (n := x1) (by omega)
              have w2 := nI_toInt (n := x2) (by omega)
              try rw [nI_add] at h33
              try simp only [nI_toInt (n := x1 + x2) (by omega), Int32.lt_iff_toInt_lt, Int32.le_iff_toInt_le, t_z, t_0, t_1, t_2, t_3, t_5, t_6, t_8, t_9, t_10, t_20, t_40, t_56, t_255] at *
              omega
            refine ⟨?_, tt, (if_neg (fun z => nf z.2)).symm⟩
            unfold pFog
            rw [if_pos ((iW_n (by omega)).mpr hk), if_neg nf]
  · refine g_iconst (v := (-1)) dX7_fog_8 (by decide) ?_
    refine g_iret rfl rfl dX7_fog_9 ?_
    refine ⟨?_, tt, (if_neg (fun z => h5 z.1)).symm⟩
    unfold pFog
    rw [if_neg h5]

