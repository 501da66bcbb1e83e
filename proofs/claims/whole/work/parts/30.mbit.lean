/-! part 30: the model reads -/
theorem in_f {x lo hi : Nat} (hx : x ≤ 255) (hl : lo ≤ 9) (hh : hi ≤ 9) : ((lN lo).toInt ≤ ((nI x) - (nI 48)).toInt64.toInt ∧ ((nI x) - (nI 48)).toInt64.toInt ≤ (lN hi).toInt) ↔ (48 + lo ≤ x ∧ x ≤ 48 + hi) := by
  rw [lN_toInt (by omega), lN_toInt (by omega), Int32.toInt_toInt64, pk_sub_toInt (by omega) (by omega)]; omega
theorem in_v {x : Nat} (hx : x ≤ 255) : (iW ((nI x) - (nI 48)) 9 ∧ ¬ ((nI x) - (nI 48)) = nI 0) ↔ (49 ≤ x ∧ x ≤ 56) := by
  have e : ((nI x) - (nI 48)).toInt = (x : Int) - 48 := pk_sub_toInt (by omega) (by omega)
  have e2 : ((nI x) - (nI 48)) = nI 0 ↔ (x : Int) - 48 = 0 := ⟨fun z => by rw [z] at e; rw [← e]; decide, fun z => Int32.toInt_inj.mp (by rw [e, z]; decide)⟩
  rw [e2]; unfold iW; rw [e]; omega
def clr (a c : Nat) : Nat := a - a / 2 ^ c % 2 * 2 ^ c
theorem clr_and : ∀ c, c < 9 → ∀ a, a < 512 → nI a &&& ((nI 1 <<< (nI c &&& 31)) ^^^ (-1)) = nI (clr a c) := by decide +kernel
theorem clr_lt (a c : Nat) (h : a < 512) : clr a c < 512 := by unfold clr; omega
theorem clr_1 : ∀ c, c < 9 → ∀ k, k < 9 → 1 ≤ k → (clr 510 c / 2 ^ k % 2 = 1 ↔ k ≠ c) := by decide +kernel
theorem clr_2' : ∀ c, c < 9 → ∀ e, e < 9 → ∀ k, k < 9 → clr (clr 510 c) e / 2 ^ k % 2 = if k = c ∨ k = e ∨ k = 0 then 0 else 1 := by decide +kernel
theorem clr_2 (c : Nat) (hc : c < 9) (e : Nat) (he : e < 9) (k : Nat) (hk : k < 9) (h1 : 1 ≤ k) : clr (clr 510 c) e / 2 ^ k % 2 = 1 ↔ (k ≠ c ∧ k ≠ e) := by
  rw [clr_2' c hc e he k hk]; split <;> omega
theorem clr_0 : ∀ k, k < 9 → 1 ≤ k → 510 / 2 ^ k % 2 = 1 := by decide
/-- the cells without a tower -/
def frM (at_ : Nat → Nat) : Nat → Nat
  | 0 => 510
  | t + 1 => clr (frM at_ t) (at_ t)
theorem frM_lt (at_ : Nat → Nat) : ∀ t, frM at_ t < 512
  | 0 => (by decide : 510 < 512)
  | t + 1 => clr_lt _ _ (frM_lt at_ t)
theorem frM_bit {le tp rat : Nat → Nat} {tw v : Nat} (htw : tw ≤ 2) (h : tpOK le tw tp) (hr : ∀ t, t < tw → rat t = le (tp t + 1) - 48) (h1 : 1 ≤ v) (h9 : v < 9) : frM rat tw / 2 ^ v % 2 = 1 ↔ hoOf le tw tp v = 0 := by
  unfold hoOf
  rcases (show tw = 0 ∨ tw = 1 ∨ tw = 2 by omega) with rfl | rfl | rfl
  · rw [if_neg (by omega), if_neg (by omega)]
    exact ⟨fun _ => rfl, fun _ => clr_0 v h9 h1⟩
  · have a0 := h 0 (by omega)
    have r0 := hr 0 (by omega)
    show clr 510 (rat 0) / 2 ^ v % 2 = 1 ↔ _
    rw [clr_1 (rat 0) (by omega) v h9 h1]
    by_cases e : le (tp 0 + 1) - 48 = v
    · rw [if_pos ⟨by omega, e⟩]; omega
    · rw [if_neg (fun z => e z.2), if_neg (by omega)]; omega
  · have a0 := h 0 (by omega)
    have r0 := hr 0 (by omega)
    have a1 := h 1 (by omega)
    have r1 := hr 1 (by omega)
    show clr (clr 510 (rat 0)) (rat 1) / 2 ^ v % 2 = 1 ↔ _
    rw [clr_2 (rat 0) (by omega) (rat 1) (by omega) v h9 h1]
    by_cases e : le (tp 0 + 1) - 48 = v
    · rw [if_pos ⟨by omega, e⟩]; omega
    · by_cases e2 : le (tp 1 + 1) - 48 = v
      · rw [if_neg (fun z => e z.2), if_pos ⟨by omega, e2⟩]; omega
      · rw [if_neg (fun z => e z.2), if_neg (fun z => e2 z.2)]; omega
theorem sof_and : ∀ a, a < 512 → a % 2 = 0 → nI 510 &&& ((nI a) ^^^ (-1)) = nI (510 - a) := by decide +kernel
theorem sof_bit : ∀ v, v < 9 → 1 ≤ v → ∀ a, a < 512 → a % 2 = 0 → ((510 - a) / 2 ^ v % 2 = 1 ↔ a / 2 ^ v % 2 = 0) := by decide +kernel
theorem sof_or : ∀ v, v < 9 → ∀ a, a < 512 → a / 2 ^ v % 2 = 0 → nI a ||| (nI 1 <<< (nI v &&& 31)) = nI (a + 2 ^ v) := by decide +kernel
def cnt8 (a : Nat) : Nat := a / 2 % 2 + a / 4 % 2 + a / 8 % 2 + a / 16 % 2 + a / 32 % 2 + a / 64 % 2 + a / 128 % 2 + a / 256 % 2
theorem cnt8_510 : ∀ a, a < 512 → a % 2 = 0 → (a = 510 ↔ ¬ cnt8 a < 8) := by decide +kernel
theorem cnt8_a : ∀ v, v < 9 → ∀ a, a < 512 → a / 2 ^ v % 2 = 0 → (v = 0 ∨ cnt8 (a + 2 ^ v) = cnt8 a + 1) := by decide +kernel
theorem cnt8_b : ∀ v, v < 9 → ∀ a, a < 512 → a / 2 ^ v % 2 = 0 → a + 2 ^ v < 512 := by decide +kernel
theorem cnt8_s (v : Nat) (hv : v < 9) (h1 : 1 ≤ v) (a : Nat) (ha : a < 512) (h2 : a % 2 = 0) (hb : a / 2 ^ v % 2 = 0) : cnt8 (a + 2 ^ v) = cnt8 a + 1 ∧ a + 2 ^ v < 512 ∧ (a + 2 ^ v) % 2 = 0 := by
  refine ⟨(cnt8_a v hv a ha hb).resolve_left (by omega), cnt8_b v hv a ha hb, ?_⟩
  obtain ⟨u, rfl⟩ : ∃ u, v = u + 1 := ⟨v - 1, by omega⟩
  rw [Nat.pow_succ]; omega
theorem bit_s : ∀ v, v < 9 → ∀ k, k < 10 → ∀ a, a < 512 → a / 2 ^ v % 2 = 0 → (a + 2 ^ v) / 2 ^ k % 2 = if k = v then 1 else a / 2 ^ k % 2 := by decide +kernel
/-- what the model has read so far -/
def mX (le : Nat → Nat) (wk : Nat) (wp : Nat → Nat) (tw : Nat) (tp : Nat → Nat) (sf : Nat) (so : Nat → Nat) (rpa rwd rat rfo : Nat → Nat) (rs : Nat) : Prop :=
  (∀ k, k < wk → rpa k = le (wp k + 1) - 48 ∧ rwd k = le (wp k + 2) - 48) ∧ (∀ t, t < tw → rat t = le (tp t + 1) - 48 ∧ rfo t = le (tp t + 2) - 48) ∧ rs < 512 ∧ rs % 2 = 0 ∧ sf = cnt8 rs ∧ (∀ k, k < 10 → so k = rs / 2 ^ k % 2) ∧ (tw = 2 → rat 0 ≠ rat 1)
