/-! part 10: the bay in natural numbers; Ground and Trip -/
theorem gE_i {v v' : Option Value} {w w' : List va_E} (h1 : v' = v) (h2 : w' = w) : gE v w v' w' := ⟨h1, h2⟩
theorem gE_n {a b : Nat} {w w' : List va_E} (h1 : a = b) (h2 : w' = w) : gE (some (.int (nI b))) w (some (.int (nI a))) w' := ⟨by rw [h1], h2⟩
theorem gE_r {a b : Int32} {w w' : List va_E} (h1 : a = b) (h2 : w' = w) : gE (some (.int b)) w (some (.int a)) w' := ⟨by rw [h1], h2⟩
theorem g_topl {M : gM} {d pc : Nat} {lv : List (Nat × Value)} {st : List Value} {ws : List va_E} {Post : Option Value → List va_E → Prop} {x y : Int64} (h : x = y) (k : Go M d pc lv (.long y :: st) ws Post) : Go M d pc lv (.long x :: st) ws Post := h ▸ k
theorem le_sI {x : Int32} {a b : Int} (ha : (Int32.ofInt a).toInt = a) (hb : (Int32.ofInt b).toInt = b) : (Int32.ofInt a ≤ x ∧ x ≤ Int32.ofInt b) ↔ (a ≤ x.toInt ∧ x.toInt ≤ b) := by rw [Int32.le_iff_toInt_le, Int32.le_iff_toInt_le, ha, hb]
/-- the tide: how high the water is at a step, LOW at lo -/
def sWater (la ri st lo : Nat) : Nat := if 9 < la + ri * (if st < lo then lo - st else st - lo) then 9 else la + ri * (if st < lo then lo - st else st - lo)
def sDepth (h : Nat → Nat) (c w : Nat) : Nat := if c = 0 ∨ 9 ≤ c then 0 else w - h c
theorem sWater_le (la ri st lo : Nat) : sWater la ri st lo ≤ 9 := by
  unfold sWater
  repeat' split
  all_goals omega
theorem sDepth_le (h : Nat → Nat) (c w : Nat) : sDepth h c w ≤ w := by unfold sDepth; split <;> omega
/-- n cells on, or back, as far as it is shallow enough -/
def sOn (h : Nat → Nat) (wa w : Nat) : Nat → Nat → Nat
  | 0, c => c
  | n + 1, c => if 9 ≤ c ∨ wa < sDepth h (c + 1) w then c else sOn h wa w n (c + 1)
def sBk (h : Nat → Nat) (wa w : Nat) : Nat → Nat → Nat
  | 0, c => c
  | n + 1, c => if c = 0 ∨ wa < sDepth h (c - 1) w then c else sBk h wa w n (c - 1)
theorem sOn_le (h : Nat → Nat) (wa w : Nat) : ∀ (n c : Nat), c ≤ 9 → sOn h wa w n c ≤ 9
  | 0, c, hc => hc
  | n + 1, c, hc => by
    unfold sOn
    split
    · exact hc
    · exact sOn_le h wa w n (c + 1) (by omega)
theorem sBk_le (h : Nat → Nat) (wa w : Nat) : ∀ (n c : Nat), c ≤ 9 → sBk h wa w n c ≤ 9
  | 0, c, hc => hc
  | n + 1, c, hc => by
    unfold sBk
    split
    · exact hc
    · exact sBk_le h wa w n (c - 1) (by omega)
def sPace (h : Nat → Nat) (pa c w : Nat) : Nat := if 0 < sDepth h c w then (pa + 1) / 2 else pa
/-- where one comes in a step -/
def sTo (h : Nat → Nat) (pa wa c way w : Nat) : Nat := if way = 1 then sOn h wa w (sPace h pa c w) c else if way = 2 then sBk h wa w (sPace h pa c w) c else c
theorem sTo_le (h : Nat → Nat) (pa wa c way w : Nat) (hc : c ≤ 9) : sTo h pa wa c way w ≤ 9 := by
  unfold sTo
  split
  · exact sOn_le _ _ _ _ _ hc
  · split
    · exact sBk_le _ _ _ _ _ hc
    · exact hc
/-- what becomes of it -/
def sFate (h so : Nat → Nat) (wa from_ to way w fa : Nat) : Nat := if way = 1 ∧ to = 9 then 1 else if wa < sDepth h to w then 2 else if to = from_ ∧ so to = 1 then 3 else fa
theorem sFate_le (h so : Nat → Nat) (wa from_ to way w fa : Nat) (hf : fa ≤ 4) : sFate h so wa from_ to way w fa ≤ 4 := by
  unfold sFate; repeat' split
  all_goals omega
theorem t_0 : (nI 0).toInt = 0 := by decide
theorem t_1 : (nI 1).toInt = 1 := by decide
theorem t_2 : (nI 2).toInt = 2 := by decide
theorem t_3 : (nI 3).toInt = 3 := by decide
theorem t_5 : (nI 5).toInt = 5 := by decide
theorem t_6 : (nI 6).toInt = 6 := by decide
theorem t_8 : (nI 8).toInt = 8 := by decide
theorem t_9 : (nI 9).toInt = 9 := by decide
theorem t_10 : (nI 10).toInt = 10 := by decide
theorem t_20 : (nI 20).toInt = 20 := by decide
theorem t_40 : (nI 40).toInt = 40 := by decide
theorem t_56 : (nI 56).toInt = 56 := by decide
theorem t_255 : (nI 255).toInt = 255 := by decide
theorem t_z : (0 : Int32).toInt = 0 := by decide
theorem ctX7_isCell {e0 e1 e2 e3 e4 e5 e6 e7 e8 e9 e10 e11 e12 e13 e14 e16 e17 e19 e21 e22 e23 e25 e26 : va_E} {x : Int32} : Ct mX7_isCell 0 [.int x] (wC e0 e1 e2 e3 e4 e5 e6 e7 e8 e9 e10 e11 e12 e13 e14 e16 e17 e19 e21 e22 e23 e25 e26) (gE (some (.int (nI (bN (0 ≤ x.toInt ∧ x.toInt ≤ 9))))) (wC e0 e1 e2 e3 e4 e5 e6 e7 e8 e9 e10 e11 e12 e13 e14 e16 e17 e19 e21 e22 e23 e25 e26)) := by
  refine Ct.of (by decide) (by exact Nat.le_of_ble_eq_true rfl) ?_
  show Go mX7_isCell 0 0 [(0, .int x)] [] (wC e0 e1 e2 e3 e4 e5 e6 e7 e8 e9 e10 e11 e12 e13 e14 e16 e17 e19 e21 e22 e23 e25 e26) (gE (some (.int (nI (bN (0 ≤ x.toInt ∧ x.toInt ≤ 9))))) (wC e0 e1 e2 e3 e4 e5 e6 e7 e8 e9 e10 e11 e12 e13 e14 e16 e17 e19 e21 e22 e23 e25 e26))
  refine g_iload_n (i := 0) (j := 0) dX7_isCell_0 rfl rfl ?_
  refine g_if_lt (tgt := 14) dX7_isCell_1 (by decide) (fun h1 => ?_) (fun h1 => ?_)
  · refine g_iconst (v := nI 0) dX7_isCell_14 (by decide) ?_
    refine g_iret rfl (by decide) dX7_isCell_15 ?_
    refine gE_n (bN_f ?_).symm rfl
    simp only [Int32.lt_iff_toInt_lt, Int32.le_iff_toInt_le, t_z, t_0, t_1, t_2, t_3, t_5, t_6, t_8, t_9, t_10, t_20, t_40, t_56, t_255] at *
    omega
  · refine g_iload_n (i := 0) (j := 0) dX7_isCell_4 rfl rfl ?_
    refine g_bipush (v := nI 9) dX7_isCell_5 (by decide) ?_
    refine g_icmp_gt (tgt := 14) dX7_isCell_7 (by decide) (fun h7 => ?_) (fun h7 => ?_)
    · refine g_iconst (v := nI 0) dX7_isCell_14 (by decide) ?_
      refine g_iret rfl (by decide) dX7_isCell_15 ?_
      refine gE_n (bN_f ?_).symm rfl
      simp only [Int32.lt_iff_toInt_lt, Int32.le_iff_toInt_le, t_z, t_0, t_1, t_2, t_3, t_5, t_6, t_8, t_9, t_10, t_20, t_40, t_56, t_255] at *
      omega
    · refine g_iconst (v := nI 1) dX7_isCell_10 (by decide) ?_
      refine g_goto (tgt := 15) dX7_isCell_11 (by decide) ?_
      refine g_iret rfl (by decide) dX7_isCell_15 ?_
      refine gE_n (bN_t ?_).symm rfl
      simp only [Int32.lt_iff_toInt_lt, Int32.le_iff_toInt_le, t_z, t_0, t_1, t_2, t_3, t_5, t_6, t_8, t_9, t_10, t_20, t_40, t_56, t_255] at *
      omega

theorem ctX7_isStep {e0 e1 e2 e3 e4 e5 e6 e7 e8 e9 e10 e11 e12 e13 e14 e16 e17 e19 e21 e22 e23 e25 e26 : va_E} {x : Int32} : Ct mX7_isStep 0 [.int x] (wC e0 e1 e2 e3 e4 e5 e6 e7 e8 e9 e10 e11 e12 e13 e14 e16 e17 e19 e21 e22 e23 e25 e26) (gE (some (.int (nI (bN (0 ≤ x.toInt ∧ x.toInt ≤ 40))))) (wC e0 e1 e2 e3 e4 e5 e6 e7 e8 e9 e10 e11 e12 e13 e14 e16 e17 e19 e21 e22 e23 e25 e26)) := by
  refine Ct.of (by decide) (by exact Nat.le_of_ble_eq_true rfl) ?_
  show Go mX7_isStep 0 0 [(0, .int x)] [] (wC e0 e1 e2 e3 e4 e5 e6 e7 e8 e9 e10 e11 e12 e13 e14 e16 e17 e19 e21 e22 e23 e25 e26) (gE (some (.int (nI (bN (0 ≤ x.toInt ∧ x.toInt ≤ 40))))) (wC e0 e1 e2 e3 e4 e5 e6 e7 e8 e9 e10 e11 e12 e13 e14 e16 e17 e19 e21 e22 e23 e25 e26))
  refine g_iload_n (i := 0) (j := 0) dX7_isStep_0 rfl rfl ?_
  refine g_if_lt (tgt := 14) dX7_isStep_1 (by decide) (fun h1 => ?_) (fun h1 => ?_)
  · refine g_iconst (v := nI 0) dX7_isStep_14 (by decide) ?_
    refine g_iret rfl (by decide) dX7_isStep_15 ?_
    refine gE_n (bN_f ?_).symm rfl
    simp only [Int32.lt_iff_toInt_lt, Int32.le_iff_toInt_le, t_z, t_0, t_1, t_2, t_3, t_5, t_6, t_8, t_9, t_10, t_20, t_40, t_56, t_255] at *
    omega
  · refine g_iload_n (i := 0) (j := 0) dX7_isStep_4 rfl rfl ?_
    refine g_bipush (v := nI 40) dX7_isStep_5 (by decide) ?_
    refine g_icmp_gt (tgt := 14) dX7_isStep_7 (by decide) (fun h7 => ?_) (fun h7 => ?_)
    · refine g_iconst (v := nI 0) dX7_isStep_14 (by decide) ?_
      refine g_iret rfl (by decide) dX7_isStep_15 ?_
      refine gE_n (bN_f ?_).symm rfl
      simp only [Int32.lt_iff_toInt_lt, Int32.le_iff_toInt_le, t_z, t_0, t_1, t_2, t_3, t_5, t_6, t_8, t_9, t_10, t_20, t_40, t_56, t_255] at *
      omega
    · refine g_iconst (v := nI 1) dX7_isStep_10 (by decide) ?_
      refine g_goto (tgt := 15) dX7_isStep_11 (by decide) ?_
      refine g_iret rfl (by decide) dX7_isStep_15 ?_
      refine gE_n (bN_t ?_).symm rfl
      simp only [Int32.lt_iff_toInt_lt, Int32.le_iff_toInt_le, t_z, t_0, t_1, t_2, t_3, t_5, t_6, t_8, t_9, t_10, t_20, t_40, t_56, t_255] at *
      omega

theorem ctX7_isSlot {e0 e1 e2 e3 e4 e5 e6 e7 e8 e9 e10 e11 e12 e13 e14 e16 e17 e19 e21 e22 e23 e25 e26 : va_E} {x : Int32} : Ct mX7_isSlot 0 [.int x] (wC e0 e1 e2 e3 e4 e5 e6 e7 e8 e9 e10 e11 e12 e13 e14 e16 e17 e19 e21 e22 e23 e25 e26) (gE (some (.int (nI (bN (0 ≤ x.toInt ∧ x.toInt ≤ 1))))) (wC e0 e1 e2 e3 e4 e5 e6 e7 e8 e9 e10 e11 e12 e13 e14 e16 e17 e19 e21 e22 e23 e25 e26)) := by
  refine Ct.of (by decide) (by exact Nat.le_of_ble_eq_true rfl) ?_
  show Go mX7_isSlot 0 0 [(0, .int x)] [] (wC e0 e1 e2 e3 e4 e5 e6 e7 e8 e9 e10 e11 e12 e13 e14 e16 e17 e19 e21 e22 e23 e25 e26) (gE (some (.int (nI (bN (0 ≤ x.toInt ∧ x.toInt ≤ 1))))) (wC e0 e1 e2 e3 e4 e5 e6 e7 e8 e9 e10 e11 e12 e13 e14 e16 e17 e19 e21 e22 e23 e25 e26))
  refine g_iload_n (i := 0) (j := 0) dX7_isSlot_0 rfl rfl ?_
  refine g_if_lt (tgt := 13) dX7_isSlot_1 (by decide) (fun h1 => ?_) (fun h1 => ?_)
  · refine g_iconst (v := nI 0) dX7_isSlot_13 (by decide) ?_
    refine g_iret rfl (by decide) dX7_isSlot_14 ?_
    refine gE_n (bN_f ?_).symm rfl
    simp only [Int32.lt_iff_toInt_lt, Int32.le_iff_toInt_le, t_z, t_0, t_1, t_2, t_3, t_5, t_6, t_8, t_9, t_10, t_20, t_40, t_56, t_255] at *
    omega
  · refine g_iload_n (i := 0) (j := 0) dX7_isSlot_4 rfl rfl ?_
    refine g_iconst (v := nI 2) dX7_isSlot_5 (by decide) ?_
    refine g_icmp_ge (tgt := 13) dX7_isSlot_6 (by decide) (fun h6 => ?_) (fun h6 => ?_)
    · refine g_iconst (v := nI 0) dX7_isSlot_13 (by decide) ?_
      refine g_iret rfl (by decide) dX7_isSlot_14 ?_
      refine gE_n (bN_f ?_).symm rfl
      simp only [Int32.lt_iff_toInt_lt, Int32.le_iff_toInt_le, t_z, t_0, t_1, t_2, t_3, t_5, t_6, t_8, t_9, t_10, t_20, t_40, t_56, t_255] at *
      omega
    · refine g_iconst (v := nI 1) dX7_isSlot_9 (by decide) ?_
      refine g_goto (tgt := 14) dX7_isSlot_10 (by decide) ?_
      refine g_iret rfl (by decide) dX7_isSlot_14 ?_
      refine gE_n (bN_t ?_).symm rfl
      simp only [Int32.lt_iff_toInt_lt, Int32.le_iff_toInt_le, t_z, t_0, t_1, t_2, t_3, t_5, t_6, t_8, t_9, t_10, t_20, t_40, t_56, t_255] at *
      omega

theorem ctX7_isOnSands {e0 e1 e2 e3 e4 e5 e6 e7 e8 e9 e10 e11 e12 e13 e14 e16 e17 e19 e21 e22 e23 e25 e26 : va_E} {x : Int32} : Ct mX7_isOnSands 0 [.int x] (wC e0 e1 e2 e3 e4 e5 e6 e7 e8 e9 e10 e11 e12 e13 e14 e16 e17 e19 e21 e22 e23 e25 e26) (gE (some (.int (nI (bN (0 < x.toInt ∧ x.toInt < 9))))) (wC e0 e1 e2 e3 e4 e5 e6 e7 e8 e9 e10 e11 e12 e13 e14 e16 e17 e19 e21 e22 e23 e25 e26)) := by
  refine Ct.of (by decide) (by exact Nat.le_of_ble_eq_true rfl) ?_
  show Go mX7_isOnSands 0 0 [(0, .int x)] [] (wC e0 e1 e2 e3 e4 e5 e6 e7 e8 e9 e10 e11 e12 e13 e14 e16 e17 e19 e21 e22 e23 e25 e26) (gE (some (.int (nI (bN (0 < x.toInt ∧ x.toInt < 9))))) (wC e0 e1 e2 e3 e4 e5 e6 e7 e8 e9 e10 e11 e12 e13 e14 e16 e17 e19 e21 e22 e23 e25 e26))
  refine g_iload_n (i := 0) (j := 0) dX7_isOnSands_0 rfl rfl ?_
  refine g_if_le (tgt := 14) dX7_isOnSands_1 (by decide) (fun h1 => ?_) (fun h1 => ?_)
  · refine g_iconst (v := nI 0) dX7_isOnSands_14 (by decide) ?_
    refine g_iret rfl (by decide) dX7_isOnSands_15 ?_
    refine gE_n (bN_f ?_).symm rfl
    simp only [Int32.lt_iff_toInt_lt, Int32.le_iff_toInt_le, t_z, t_0, t_1, t_2, t_3, t_5, t_6, t_8, t_9, t_10, t_20, t_40, t_56, t_255] at *
    omega
  · refine g_iload_n (i := 0) (j := 0) dX7_isOnSands_4 rfl rfl ?_
    refine g_bipush (v := nI 9) dX7_isOnSands_5 (by decide) ?_
    refine g_icmp_ge (tgt := 14) dX7_isOnSands_7 (by decide) (fun h7 => ?_) (fun h7 => ?_)
    · refine g_iconst (v := nI 0) dX7_isOnSands_14 (by decide) ?_
      refine g_iret rfl (by decide) dX7_isOnSands_15 ?_
      refine gE_n (bN_f ?_).symm rfl
      simp only [Int32.lt_iff_toInt_lt, Int32.le_iff_toInt_le, t_z, t_0, t_1, t_2, t_3, t_5, t_6, t_8, t_9, t_10, t_20, t_40, t_56, t_255] at *
      omega
    · refine g_iconst (v := nI 1) dX7_isOnSands_10 (by decide) ?_
      refine g_goto (tgt := 15) dX7_isOnSands_11 (by decide) ?_
      refine g_iret rfl (by decide) dX7_isOnSands_15 ?_
      refine gE_n (bN_t ?_).symm rfl
      simp only [Int32.lt_iff_toInt_lt, Int32.le_iff_toInt_le, t_z, t_0, t_1, t_2, t_3, t_5, t_6, t_8, t_9, t_10, t_20, t_40, t_56, t_255] at *
      omega

theorem ctX7_areTenths {e0 e1 e2 e3 e4 e5 e6 e7 e8 e9 e10 e11 e12 e13 e14 e16 e17 e19 e21 e22 e23 e25 e26 : va_E} {a b : Int32} : Ct mX7_areTenths 0 [.int a, .int b] (wC e0 e1 e2 e3 e4 e5 e6 e7 e8 e9 e10 e11 e12 e13 e14 e16 e17 e19 e21 e22 e23 e25 e26) (gE (some (.int (nI (bN (0 ≤ a.toInt ∧ a.toInt ≤ 10 ∧ 0 ≤ b.toInt ∧ b.toInt ≤ 10 ∧ a.toInt + b.toInt ≤ 10))))) (wC e0 e1 e2 e3 e4 e5 e6 e7 e8 e9 e10 e11 e12 e13 e14 e16 e17 e19 e21 e22 e23 e25 e26)) := by
  refine Ct.of (by decide) (by exact Nat.le_of_ble_eq_true rfl) ?_
  show Go mX7_areTenths 0 0 [(0, .int a), (1, .int b)] [] (wC e0 e1 e2 e3 e4 e5 e6 e7 e8 e9 e10 e11 e12 e13 e14 e16 e17 e19 e21 e22 e23 e25 e26) (gE (some (.int (nI (bN (0 ≤ a.toInt ∧ a.toInt ≤ 10 ∧ 0 ≤ b.toInt ∧ b.toInt ≤ 10 ∧ a.toInt + b.toInt ≤ 10))))) (wC e0 e1 e2 e3 e4 e5 e6 e7 e8 e9 e10 e11 e12 e13 e14 e16 e17 e19 e21 e22 e23 e25 e26))
  refine g_iload_n (i := 0) (j := 0) dX7_areTenths_0 rfl rfl ?_
  refine g_if_lt (tgt := 32) dX7_areTenths_1 (by decide) (fun h1 => ?_) (fun h1 => ?_)
  · refine g_iconst (v := nI 0) dX7_areTenths_32 (by decide) ?_
    refine g_iret rfl (by decide) dX7_areTenths_33 ?_
    refine gE_n (bN_f ?_).symm rfl
    simp only [Int32.lt_iff_toInt_lt, Int32.le_iff_toInt_le, t_z, t_0, t_1, t_2, t_3, t_5, t_6, t_8, t_9, t_10, t_20, t_40, t_56, t_255] at *
    omega
  · refine g_iload_n (i := 0) (j := 0) dX7_areTenths_4 rfl rfl ?_
    refine g_bipush (v := nI 10) dX7_areTenths_5 (by decide) ?_
    refine g_icmp_gt (tgt := 32) dX7_areTenths_7 (by decide) (fun h7 => ?_) (fun h7 => ?_)
    · refine g_iconst (v := nI 0) dX7_areTenths_32 (by decide) ?_
      refine g_iret rfl (by decide) dX7_areTenths_33 ?_
      refine gE_n (bN_f ?_).symm rfl
      simp only [Int32.lt_iff_toInt_lt, Int32.le_iff_toInt_le, t_z, t_0, t_1, t_2, t_3, t_5, t_6, t_8, t_9, t_10, t_20, t_40, t_56, t_255] at *
      omega
    · obtain ⟨ja, hja, rfl⟩ : ∃ j : Nat, j ≤ 10 ∧ a = nI j := nI_of2 (M := nI 10) (n := 10) (by decide) h1 (Int32.not_lt.mp h7)
      refine g_iload_n (i := 1) (j := 1) dX7_areTenths_10 rfl rfl ?_
      refine g_if_lt (tgt := 32) dX7_areTenths_11 (by decide) (fun h11 => ?_) (fun h11 => ?_)
      · refine g_iconst (v := nI 0) dX7_areTenths_32 (by decide) ?_
        refine g_iret rfl (by decide) dX7_areTenths_33 ?_
        refine gE_n (bN_f ?_).symm rfl
        have qa := nI_toInt (n := ja) (by omega)
        simp only [Int32.lt_iff_toInt_lt, Int32.le_iff_toInt_le, t_z, t_0, t_1, t_2, t_3, t_5, t_6, t_8, t_9, t_10, t_20, t_40, t_56, t_255] at *
        omega
      · refine g_iload_n (i := 1) (j := 1) dX7_areTenths_14 rfl rfl ?_
        refine g_bipush (v := nI 10) dX7_areTenths_15 (by decide) ?_
        refine g_icmp_gt (tgt := 32) dX7_areTenths_17 (by decide) (fun h17 => ?_) (fun h17 => ?_)
        · refine g_iconst (v := nI 0) dX7_areTenths_32 (by decide) ?_
          refine g_iret rfl (by decide) dX7_areTenths_33 ?_
          refine gE_n (bN_f ?_).symm rfl
          have qa := nI_toInt (n := ja) (by omega)
          simp only [Int32.lt_iff_toInt_lt, Int32.le_iff_toInt_le, t_z, t_0, t_1, t_2, t_3, t_5, t_6, t_8, t_9, t_10, t_20, t_40, t_56, t_255] at *
          omega
        · obtain ⟨jb, hjb, rfl⟩ : ∃ j : Nat, j ≤ 10 ∧ b = nI j := nI_of2 (M := nI 10) (n := 10) (by decide) h11 (Int32.not_lt.mp h17)
          refine g_iload_n (i := 0) (j := 0) dX7_areTenths_20 rfl rfl ?_
          refine g_iload_n (i := 1) (j := 1) dX7_areTenths_21 rfl rfl ?_
          refine n_iadd (a := ja) (b := jb) dX7_areTenths_22 ?_
          refine g_bipush (v := nI 10) dX7_areTenths_23 (by decide) ?_
          refine n_icmp_gt (tgt := 32) (by omega) (rng_lit 10 rfl) dX7_areTenths_25 (by decide) (fun h25 => ?_) (fun h25 => ?_)
          · refine g_iconst (v := nI 0) dX7_areTenths_32 (by decide) ?_
            refine g_iret rfl (by decide) dX7_areTenths_33 ?_
            refine gE_n (bN_f ?_).symm rfl
            have qa := nI_toInt (n := ja) (by omega)
            have qb := nI_toInt (n := jb) (by omega)
            simp only [Int32.lt_iff_toInt_lt, Int32.le_iff_toInt_le, t_z, t_0, t_1, t_2, t_3, t_5, t_6, t_8, t_9, t_10, t_20, t_40, t_56, t_255] at *
            omega
          · refine g_iconst (v := nI 1) dX7_areTenths_28 (by decide) ?_
            refine g_goto (tgt := 33) dX7_areTenths_29 (by decide) ?_
            refine g_iret rfl (by decide) dX7_areTenths_33 ?_
            refine gE_n (bN_t ?_).symm rfl
            have qa := nI_toInt (n := ja) (by omega)
            have qb := nI_toInt (n := jb) (by omega)
            simp only [Int32.lt_iff_toInt_lt, Int32.le_iff_toInt_le, t_z, t_0, t_1, t_2, t_3, t_5, t_6, t_8, t_9, t_10, t_20, t_40, t_56, t_255] at *
            omega

theorem ctX1_water {e0 e1 e2 e4 e5 e6 e7 e8 e9 e10 e11 e12 e13 e14 e16 e17 e19 e21 e22 e23 e25 e26 : va_E} {wk tw sf lo ri la : Nat} {st lo2 : Nat} (h1 : la ≤ 9) (h2_ : ri ≤ 3) (h3 : st ≤ 41) (h4 : lo2 ≤ 41) : Ct mX1_water 0 [.ref 3, .int (nI st), .int (nI lo2)] (wC e0 e1 e2 (kG3 wk tw sf lo ri la) e4 e5 e6 e7 e8 e9 e10 e11 e12 e13 e14 e16 e17 e19 e21 e22 e23 e25 e26) (gE (some (.int (nI (sWater la ri st lo2)))) (wC e0 e1 e2 (kG3 wk tw sf lo ri la) e4 e5 e6 e7 e8 e9 e10 e11 e12 e13 e14 e16 e17 e19 e21 e22 e23 e25 e26)) := by
  refine Ct.of (by decide) (by exact Nat.le_of_ble_eq_true rfl) ?_
  show Go mX1_water 0 0 [(0, .ref 3), (1, .int (nI st)), (2, .int (nI lo2))] [] (wC e0 e1 e2 (kG3 wk tw sf lo ri la) e4 e5 e6 e7 e8 e9 e10 e11 e12 e13 e14 e16 e17 e19 e21 e22 e23 e25 e26) (gE (some (.int (nI (sWater la ri st lo2)))) (wC e0 e1 e2 (kG3 wk tw sf lo ri la) e4 e5 e6 e7 e8 e9 e10 e11 e12 e13 e14 e16 e17 e19 e21 e22 e23 e25 e26))
  refine g_iload_n (i := 1) (j := 1) dX1_water_0 rfl rfl ?_
  refine g_iload_n (i := 2) (j := 2) dX1_water_1 rfl rfl ?_
  refine n_icmp_ge (tgt := 11) (by omega) (by omega) dX1_water_2 (by decide) (fun h2 => ?_) (fun h2 => ?_)
  · refine g_iload_n (i := 1) (j := 1) dX1_water_11 rfl rfl ?_
    refine g_iload_n (i := 2) (j := 2) dX1_water_12 rfl rfl ?_
    refine n_isub (a := st) (b := lo2) (by omega) dX1_water_13 ?_
    refine g_istore_n (i := 3) (lv' := [(3, .int (nI (st - lo2))), (0, .ref 3), (1, .int (nI st)), (2, .int (nI lo2))]) dX1_water_14 rfl (by decide) rfl ?_
    refine g_aload_n (i := 0) (j := 1) dX1_water_15 rfl rfl ?_
    refine g_get fX1_45 rfl rfl dX1_water_16 ?_
    refine g_aload_n (i := 0) (j := 1) dX1_water_19 rfl rfl ?_
    refine g_get fX1_28 rfl rfl dX1_water_20 ?_
    refine g_iload_n (i := 3) (j := 0) dX1_water_23 rfl rfl ?_
    refine n_imul (a := ri) (b := (st - lo2)) dX1_water_24 ?_
    refine n_iadd (a := la) (b := (ri * (st - lo2))) dX1_water_25 ?_
    refine g_istore (lv' := [(4, .int (nI (la + (ri * (st - lo2))))), (3, .int (nI (st - lo2))), (0, .ref 3), (1, .int (nI st)), (2, .int (nI lo2))]) dX1_water_26 (by decide) rfl ?_
    have hm : ri * (st - lo2) ≤ 3 * 41 := Nat.mul_le_mul h2_ (by omega)
    refine g_iload (j := 0) dX1_water_28 rfl ?_
    refine g_bipush (v := nI 9) dX1_water_30 (by decide) ?_
    refine n_icmp_ge (tgt := 40) (by omega) (rng_lit 9 rfl) dX1_water_32 (by decide) (fun h32 => ?_) (fun h32 => ?_)
    · refine g_bipush (v := nI 9) dX1_water_40 (by decide) ?_
      refine g_iret rfl rfl dX1_water_42 ?_
      refine gE_n ?_ rfl
      simp only [sWater, if_neg (show ¬ st < lo2 by omega)]
      split <;> omega
    · refine g_iload (j := 0) dX1_water_35 rfl ?_
      refine g_goto (tgt := 42) dX1_water_37 (by decide) ?_
      refine g_iret rfl rfl dX1_water_42 ?_
      refine gE_n ?_ rfl
      simp only [sWater, if_neg (show ¬ st < lo2 by omega)]
      split <;> omega
  · refine g_iload_n (i := 2) (j := 2) dX1_water_5 rfl rfl ?_
    refine g_iload_n (i := 1) (j := 1) dX1_water_6 rfl rfl ?_
    refine n_isub (a := lo2) (b := st) (by omega) dX1_water_7 ?_
    refine g_goto (tgt := 14) dX1_water_8 (by decide) ?_
    refine g_istore_n (i := 3) (lv' := [(3, .int (nI (lo2 - st))), (0, .ref 3), (1, .int (nI st)), (2, .int (nI lo2))]) dX1_water_14 rfl (by decide) rfl ?_
    refine g_aload_n (i := 0) (j := 1) dX1_water_15 rfl rfl ?_
    refine g_get fX1_45 rfl rfl dX1_water_16 ?_
    refine g_aload_n (i := 0) (j := 1) dX1_water_19 rfl rfl ?_
    refine g_get fX1_28 rfl rfl dX1_water_20 ?_
    refine g_iload_n (i := 3) (j := 0) dX1_water_23 rfl rfl ?_
    refine n_imul (a := ri) (b := (lo2 - st)) dX1_water_24 ?_
    refine n_iadd (a := la) (b := (ri * (lo2 - st))) dX1_water_25 ?_
    refine g_istore (lv' := [(4, .int (nI (la + (ri * (lo2 - st))))), (3, .int (nI (lo2 - st))), (0, .ref 3), (1, .int (nI st)), (2, .int (nI lo2))]) dX1_water_26 (by decide) rfl ?_
    have hm : ri * (lo2 - st) ≤ 3 * 41 := Nat.mul_le_mul h2_ (by omega)
    refine g_iload (j := 0) dX1_water_28 rfl ?_
    refine g_bipush (v := nI 9) dX1_water_30 (by decide) ?_
    refine n_icmp_ge (tgt := 40) (by omega) (rng_lit 9 rfl) dX1_water_32 (by decide) (fun h32 => ?_) (fun h32 => ?_)
    · refine g_bipush (v := nI 9) dX1_water_40 (by decide) ?_
      refine g_iret rfl rfl dX1_water_42 ?_
      refine gE_n ?_ rfl
      simp only [sWater, if_pos (show st < lo2 by omega)]
      split <;> omega
    · refine g_iload (j := 0) dX1_water_35 rfl ?_
      refine g_goto (tgt := 42) dX1_water_37 (by decide) ?_
      refine g_iret rfl rfl dX1_water_42 ?_
      refine gE_n ?_ rfl
      simp only [sWater, if_pos (show st < lo2 by omega)]
      split <;> omega

theorem ctX1_depth {e0 e1 e2 e5 e6 e7 e8 e9 e10 e11 e12 e13 e14 e16 e17 e19 e21 e22 e23 e25 e26 : va_E} {h : Nat → Nat} {wk tw sf lo ri la : Nat} {c w : Nat} (hH : ∀ k, h k ≤ 9) (h1 : c ≤ 9) (h2 : w ≤ 9) : Ct mX1_depth 0 [.ref 3, .int (nI c), .int (nI w)] (wC e0 e1 e2 (kG3 wk tw sf lo ri la) (kI 10 h) e5 e6 e7 e8 e9 e10 e11 e12 e13 e14 e16 e17 e19 e21 e22 e23 e25 e26) (gE (some (.int (nI (sDepth h c w)))) (wC e0 e1 e2 (kG3 wk tw sf lo ri la) (kI 10 h) e5 e6 e7 e8 e9 e10 e11 e12 e13 e14 e16 e17 e19 e21 e22 e23 e25 e26)) := by
  refine Ct.of (by decide) (by exact Nat.le_of_ble_eq_true rfl) ?_
  show Go mX1_depth 0 0 [(0, .ref 3), (1, .int (nI c)), (2, .int (nI w))] [] (wC e0 e1 e2 (kG3 wk tw sf lo ri la) (kI 10 h) e5 e6 e7 e8 e9 e10 e11 e12 e13 e14 e16 e17 e19 e21 e22 e23 e25 e26) (gE (some (.int (nI (sDepth h c w)))) (wC e0 e1 e2 (kG3 wk tw sf lo ri la) (kI 10 h) e5 e6 e7 e8 e9 e10 e11 e12 e13 e14 e16 e17 e19 e21 e22 e23 e25 e26))
  have q1 := hH c
  refine g_iload_n (i := 1) (j := 1) dX1_depth_0 rfl rfl ?_
  refine n_if_le (tgt := 20) (by omega) dX1_depth_1 (by decide) (fun h1 => ?_) (fun h1 => ?_)
  · refine g_iconst (v := nI 0) dX1_depth_20 (by decide) ?_
    refine g_iret rfl rfl dX1_depth_21 ?_
    refine gE_n ?_ rfl
    unfold sDepth
    split <;> omega
  · refine g_iload_n (i := 1) (j := 1) dX1_depth_4 rfl rfl ?_
    refine g_bipush (v := nI 9) dX1_depth_5 (by decide) ?_
    refine n_icmp_ge (tgt := 20) (by omega) (rng_lit 9 rfl) dX1_depth_7 (by decide) (fun h7 => ?_) (fun h7 => ?_)
    · refine g_iconst (v := nI 0) dX1_depth_20 (by decide) ?_
      refine g_iret rfl rfl dX1_depth_21 ?_
      refine gE_n ?_ rfl
      unfold sDepth
      split <;> omega
    · refine g_iload_n (i := 2) (j := 2) dX1_depth_10 rfl rfl ?_
      refine g_aload_n (i := 0) (j := 0) dX1_depth_11 rfl rfl ?_
      refine g_get fX1_9 rfl rfl dX1_depth_12 ?_
      refine g_iload_n (i := 1) (j := 1) dX1_depth_15 rfl rfl ?_
      refine n_iald (x := c) rfl (by omega) (rng_lit 10 rfl) dX1_depth_16 ?_
      refine n_icmp_gt (tgt := 22) (by omega) (by omega) dX1_depth_17 (by decide) (fun h17 => ?_) (fun h17 => ?_)
      · refine g_iload_n (i := 2) (j := 2) dX1_depth_22 rfl rfl ?_
        refine g_aload_n (i := 0) (j := 0) dX1_depth_23 rfl rfl ?_
        refine g_get fX1_9 rfl rfl dX1_depth_24 ?_
        refine g_iload_n (i := 1) (j := 1) dX1_depth_27 rfl rfl ?_
        refine n_iald (x := c) rfl (by omega) (rng_lit 10 rfl) dX1_depth_28 ?_
        refine n_isub (a := w) (b := (h c)) (by omega) dX1_depth_29 ?_
        refine g_iret rfl rfl dX1_depth_30 ?_
        refine gE_n ?_ rfl
        unfold sDepth
        split <;> omega
      · refine g_iconst (v := nI 0) dX1_depth_20 (by decide) ?_
        refine g_iret rfl rfl dX1_depth_21 ?_
        refine gE_n ?_ rfl
        unfold sDepth
        split <;> omega

theorem ctX1_isSoft {e0 e1 e2 e4 e6 e7 e8 e9 e10 e11 e12 e13 e14 e16 e17 e19 e21 e22 e23 e25 e26 : va_E} {f : Nat → Nat} {wk tw sf lo ri la : Nat} {c : Nat} (hb : ∀ k, f k ≤ 1) (h1 : c ≤ 9) : Ct mX1_isSoft 1 [.ref 3, .int (nI c)] (wC e0 e1 e2 (kG3 wk tw sf lo ri la) e4 (kZ 10 f) e6 e7 e8 e9 e10 e11 e12 e13 e14 e16 e17 e19 e21 e22 e23 e25 e26) (gE (some (.int (nI (f c)))) (wC e0 e1 e2 (kG3 wk tw sf lo ri la) e4 (kZ 10 f) e6 e7 e8 e9 e10 e11 e12 e13 e14 e16 e17 e19 e21 e22 e23 e25 e26)) := by
  refine Ct.of (by decide) (by exact Nat.le_of_ble_eq_true rfl) ?_
  show Go mX1_isSoft 1 0 [(0, .ref 3), (1, .int (nI c))] [] (wC e0 e1 e2 (kG3 wk tw sf lo ri la) e4 (kZ 10 f) e6 e7 e8 e9 e10 e11 e12 e13 e14 e16 e17 e19 e21 e22 e23 e25 e26) (gE (some (.int (nI (f c)))) (wC e0 e1 e2 (kG3 wk tw sf lo ri la) e4 (kZ 10 f) e6 e7 e8 e9 e10 e11 e12 e13 e14 e16 e17 e19 e21 e22 e23 e25 e26))
  have q1 := nI_toInt (n := c) (by omega)
  have q2 := hb c
  refine g_iload_n (i := 1) (j := 1) dX1_isSoft_0 rfl rfl ?_
  refine c_N (st1 := [.int (nI (bN (0 ≤ (nI c).toInt ∧ (nI c).toInt ≤ 9)))]) (ctX7_isCell (x := (nI c)) ) kX7_isCell lX1_41 (by decide) rfl (by exact Nat.le_of_ble_eq_true rfl) dX1_isSoft_1 rfl rfl ?_
  refine b_if_eq (tgt := 20) dX1_isSoft_4 (by decide) (fun h4 => ?_) (fun h4 => ?_)
  · exact absurd ⟨by omega, by omega⟩ h4
  · refine g_aload_n (i := 0) (j := 0) dX1_isSoft_7 rfl rfl ?_
    refine g_get fX1_15 rfl rfl dX1_isSoft_8 ?_
    refine g_iload_n (i := 1) (j := 1) dX1_isSoft_11 rfl rfl ?_
    refine n_zald (x := c) rfl (by omega) (rng_lit 10 rfl) dX1_isSoft_12 ?_
    refine n_if_eq (tgt := 20) (by omega) dX1_isSoft_13 (by decide) (fun h13 => ?_) (fun h13 => ?_)
    · refine g_iconst (v := nI 0) dX1_isSoft_20 (by decide) ?_
      refine g_iret rfl (by decide) dX1_isSoft_21 ?_
      exact gE_n (by omega) rfl
    · refine g_iconst (v := nI 1) dX1_isSoft_16 (by decide) ?_
      refine g_goto (tgt := 21) dX1_isSoft_17 (by decide) ?_
      refine g_iret rfl (by decide) dX1_isSoft_21 ?_
      exact gE_n (by omega) rfl

theorem ctX1_holdOf {e0 e1 e2 e4 e5 e7 e8 e9 e10 e11 e12 e13 e14 e16 e17 e19 e21 e22 e23 e25 e26 : va_E} {f : Nat → Nat} {wk tw sf lo ri la : Nat} {c : Nat} (h1 : c ≤ 9) : Ct mX1_holdOf 1 [.ref 3, .int (nI c)] (wC e0 e1 e2 (kG3 wk tw sf lo ri la) e4 e5 (kI 10 f) e7 e8 e9 e10 e11 e12 e13 e14 e16 e17 e19 e21 e22 e23 e25 e26) (gE (some (.int (nI (f c)))) (wC e0 e1 e2 (kG3 wk tw sf lo ri la) e4 e5 (kI 10 f) e7 e8 e9 e10 e11 e12 e13 e14 e16 e17 e19 e21 e22 e23 e25 e26)) := by
  refine Ct.of (by decide) (by exact Nat.le_of_ble_eq_true rfl) ?_
  show Go mX1_holdOf 1 0 [(0, .ref 3), (1, .int (nI c))] [] (wC e0 e1 e2 (kG3 wk tw sf lo ri la) e4 e5 (kI 10 f) e7 e8 e9 e10 e11 e12 e13 e14 e16 e17 e19 e21 e22 e23 e25 e26) (gE (some (.int (nI (f c)))) (wC e0 e1 e2 (kG3 wk tw sf lo ri la) e4 e5 (kI 10 f) e7 e8 e9 e10 e11 e12 e13 e14 e16 e17 e19 e21 e22 e23 e25 e26))
  have q1 := nI_toInt (n := c) (by omega)
  refine g_iload_n (i := 1) (j := 1) dX1_holdOf_0 rfl rfl ?_
  refine c_N (st1 := [.int (nI (bN (0 ≤ (nI c).toInt ∧ (nI c).toInt ≤ 9)))]) (ctX7_isCell (x := (nI c)) ) kX7_isCell lX1_41 (by decide) rfl (by exact Nat.le_of_ble_eq_true rfl) dX1_holdOf_1 rfl rfl ?_
  refine b_if_eq (tgt := 16) dX1_holdOf_4 (by decide) (fun h4 => ?_) (fun h4 => ?_)
  · exact absurd ⟨by omega, by omega⟩ h4
  · refine g_aload_n (i := 0) (j := 0) dX1_holdOf_7 rfl rfl ?_
    refine g_get fX1_19 rfl rfl dX1_holdOf_8 ?_
    refine g_iload_n (i := 1) (j := 1) dX1_holdOf_11 rfl rfl ?_
    refine n_iald (x := c) rfl (by omega) (rng_lit 10 rfl) dX1_holdOf_12 ?_
    refine g_goto (tgt := 17) dX1_holdOf_13 (by decide) ?_
    refine g_iret rfl rfl dX1_holdOf_17 ?_
    exact gE_i rfl rfl

theorem ctX1_isSoft_9 {e0 e1 e2 e3 e4 e5 e6 e7 e8 e10 e12 e13 e14 e16 e17 e19 e21 e22 e23 e25 e26 : va_E} {f : Nat → Nat} {wk tw sf lo ri la : Nat} {c : Nat} (hb : ∀ k, f k ≤ 1) (h1 : c ≤ 9) : Ct mX1_isSoft 1 [.ref 9, .int (nI c)] (wC e0 e1 e2 e3 e4 e5 e6 e7 e8 (kG9 wk tw sf lo ri la) e10 (kZ 10 f) e12 e13 e14 e16 e17 e19 e21 e22 e23 e25 e26) (gE (some (.int (nI (f c)))) (wC e0 e1 e2 e3 e4 e5 e6 e7 e8 (kG9 wk tw sf lo ri la) e10 (kZ 10 f) e12 e13 e14 e16 e17 e19 e21 e22 e23 e25 e26)) := by
  refine Ct.of (by decide) (by exact Nat.le_of_ble_eq_true rfl) ?_
  show Go mX1_isSoft 1 0 [(0, .ref 9), (1, .int (nI c))] [] (wC e0 e1 e2 e3 e4 e5 e6 e7 e8 (kG9 wk tw sf lo ri la) e10 (kZ 10 f) e12 e13 e14 e16 e17 e19 e21 e22 e23 e25 e26) (gE (some (.int (nI (f c)))) (wC e0 e1 e2 e3 e4 e5 e6 e7 e8 (kG9 wk tw sf lo ri la) e10 (kZ 10 f) e12 e13 e14 e16 e17 e19 e21 e22 e23 e25 e26))
  have q1 := nI_toInt (n := c) (by omega)
  have q2 := hb c
  refine g_iload_n (i := 1) (j := 1) dX1_isSoft_0 rfl rfl ?_
  refine c_N (st1 := [.int (nI (bN (0 ≤ (nI c).toInt ∧ (nI c).toInt ≤ 9)))]) (ctX7_isCell (x := (nI c)) ) kX7_isCell lX1_41 (by decide) rfl (by exact Nat.le_of_ble_eq_true rfl) dX1_isSoft_1 rfl rfl ?_
  refine b_if_eq (tgt := 20) dX1_isSoft_4 (by decide) (fun h4 => ?_) (fun h4 => ?_)
  · exact absurd ⟨by omega, by omega⟩ h4
  · refine g_aload_n (i := 0) (j := 0) dX1_isSoft_7 rfl rfl ?_
    refine g_get fX1_15 rfl rfl dX1_isSoft_8 ?_
    refine g_iload_n (i := 1) (j := 1) dX1_isSoft_11 rfl rfl ?_
    refine n_zald (x := c) rfl (by omega) (rng_lit 10 rfl) dX1_isSoft_12 ?_
    refine n_if_eq (tgt := 20) (by omega) dX1_isSoft_13 (by decide) (fun h13 => ?_) (fun h13 => ?_)
    · refine g_iconst (v := nI 0) dX1_isSoft_20 (by decide) ?_
      refine g_iret rfl (by decide) dX1_isSoft_21 ?_
      exact gE_n (by omega) rfl
    · refine g_iconst (v := nI 1) dX1_isSoft_16 (by decide) ?_
      refine g_goto (tgt := 21) dX1_isSoft_17 (by decide) ?_
      refine g_iret rfl (by decide) dX1_isSoft_21 ?_
      exact gE_n (by omega) rfl

theorem ctX1_holdOf_9 {e0 e1 e2 e3 e4 e5 e6 e7 e8 e10 e11 e13 e14 e16 e17 e19 e21 e22 e23 e25 e26 : va_E} {f : Nat → Nat} {wk tw sf lo ri la : Nat} {c : Nat} (h1 : c ≤ 9) : Ct mX1_holdOf 1 [.ref 9, .int (nI c)] (wC e0 e1 e2 e3 e4 e5 e6 e7 e8 (kG9 wk tw sf lo ri la) e10 e11 (kI 10 f) e13 e14 e16 e17 e19 e21 e22 e23 e25 e26) (gE (some (.int (nI (f c)))) (wC e0 e1 e2 e3 e4 e5 e6 e7 e8 (kG9 wk tw sf lo ri la) e10 e11 (kI 10 f) e13 e14 e16 e17 e19 e21 e22 e23 e25 e26)) := by
  refine Ct.of (by decide) (by exact Nat.le_of_ble_eq_true rfl) ?_
  show Go mX1_holdOf 1 0 [(0, .ref 9), (1, .int (nI c))] [] (wC e0 e1 e2 e3 e4 e5 e6 e7 e8 (kG9 wk tw sf lo ri la) e10 e11 (kI 10 f) e13 e14 e16 e17 e19 e21 e22 e23 e25 e26) (gE (some (.int (nI (f c)))) (wC e0 e1 e2 e3 e4 e5 e6 e7 e8 (kG9 wk tw sf lo ri la) e10 e11 (kI 10 f) e13 e14 e16 e17 e19 e21 e22 e23 e25 e26))
  have q1 := nI_toInt (n := c) (by omega)
  refine g_iload_n (i := 1) (j := 1) dX1_holdOf_0 rfl rfl ?_
  refine c_N (st1 := [.int (nI (bN (0 ≤ (nI c).toInt ∧ (nI c).toInt ≤ 9)))]) (ctX7_isCell (x := (nI c)) ) kX7_isCell lX1_41 (by decide) rfl (by exact Nat.le_of_ble_eq_true rfl) dX1_holdOf_1 rfl rfl ?_
  refine b_if_eq (tgt := 16) dX1_holdOf_4 (by decide) (fun h4 => ?_) (fun h4 => ?_)
  · exact absurd ⟨by omega, by omega⟩ h4
  · refine g_aload_n (i := 0) (j := 0) dX1_holdOf_7 rfl rfl ?_
    refine g_get fX1_19 rfl rfl dX1_holdOf_8 ?_
    refine g_iload_n (i := 1) (j := 1) dX1_holdOf_11 rfl rfl ?_
    refine n_iald (x := c) rfl (by omega) (rng_lit 10 rfl) dX1_holdOf_12 ?_
    refine g_goto (tgt := 17) dX1_holdOf_13 (by decide) ?_
    refine g_iret rfl rfl dX1_holdOf_17 ?_
    exact gE_i rfl rfl

theorem ctX1_heightOf {e0 e1 e2 e5 e6 e7 e8 e9 e10 e11 e12 e13 e14 e16 e17 e19 e21 e22 e23 e25 e26 : va_E} {f : Nat → Nat} {wk tw sf lo ri la : Nat} {c : Nat} (h1 : c ≤ 9) : Ct mX1_heightOf 1 [.ref 3, .int (nI c)] (wC e0 e1 e2 (kG3 wk tw sf lo ri la) (kI 10 f) e5 e6 e7 e8 e9 e10 e11 e12 e13 e14 e16 e17 e19 e21 e22 e23 e25 e26) (gE (some (.int (nI (f c)))) (wC e0 e1 e2 (kG3 wk tw sf lo ri la) (kI 10 f) e5 e6 e7 e8 e9 e10 e11 e12 e13 e14 e16 e17 e19 e21 e22 e23 e25 e26)) := by
  refine Ct.of (by decide) (by exact Nat.le_of_ble_eq_true rfl) ?_
  show Go mX1_heightOf 1 0 [(0, .ref 3), (1, .int (nI c))] [] (wC e0 e1 e2 (kG3 wk tw sf lo ri la) (kI 10 f) e5 e6 e7 e8 e9 e10 e11 e12 e13 e14 e16 e17 e19 e21 e22 e23 e25 e26) (gE (some (.int (nI (f c)))) (wC e0 e1 e2 (kG3 wk tw sf lo ri la) (kI 10 f) e5 e6 e7 e8 e9 e10 e11 e12 e13 e14 e16 e17 e19 e21 e22 e23 e25 e26))
  have q1 := nI_toInt (n := c) (by omega)
  refine g_iload_n (i := 1) (j := 1) dX1_heightOf_0 rfl rfl ?_
  refine c_N (st1 := [.int (nI (bN (0 ≤ (nI c).toInt ∧ (nI c).toInt ≤ 9)))]) (ctX7_isCell (x := (nI c)) ) kX7_isCell lX1_41 (by decide) rfl (by exact Nat.le_of_ble_eq_true rfl) dX1_heightOf_1 rfl rfl ?_
  refine b_if_eq (tgt := 16) dX1_heightOf_4 (by decide) (fun h4 => ?_) (fun h4 => ?_)
  · exact absurd ⟨by omega, by omega⟩ h4
  · refine g_aload_n (i := 0) (j := 0) dX1_heightOf_7 rfl rfl ?_
    refine g_get fX1_9 rfl rfl dX1_heightOf_8 ?_
    refine g_iload_n (i := 1) (j := 1) dX1_heightOf_11 rfl rfl ?_
    refine n_iald (x := c) rfl (by omega) (rng_lit 10 rfl) dX1_heightOf_12 ?_
    refine g_goto (tgt := 17) dX1_heightOf_13 (by decide) ?_
    refine g_iret rfl rfl dX1_heightOf_17 ?_
    exact gE_i rfl rfl

theorem ctX1_paceOf {e0 e1 e2 e4 e5 e6 e8 e9 e10 e11 e12 e13 e14 e16 e17 e19 e21 e22 e23 e25 e26 : va_E} {f : Nat → Nat} {wk tw sf lo ri la : Nat} {c : Nat} (h1 : c < 5) : Ct mX1_paceOf 0 [.ref 3, .int (nI c)] (wC e0 e1 e2 (kG3 wk tw sf lo ri la) e4 e5 e6 (kI 5 f) e8 e9 e10 e11 e12 e13 e14 e16 e17 e19 e21 e22 e23 e25 e26) (gE (some (.int (nI (f c)))) (wC e0 e1 e2 (kG3 wk tw sf lo ri la) e4 e5 e6 (kI 5 f) e8 e9 e10 e11 e12 e13 e14 e16 e17 e19 e21 e22 e23 e25 e26)) := by
  refine Ct.of (by decide) (by exact Nat.le_of_ble_eq_true rfl) ?_
  show Go mX1_paceOf 0 0 [(0, .ref 3), (1, .int (nI c))] [] (wC e0 e1 e2 (kG3 wk tw sf lo ri la) e4 e5 e6 (kI 5 f) e8 e9 e10 e11 e12 e13 e14 e16 e17 e19 e21 e22 e23 e25 e26) (gE (some (.int (nI (f c)))) (wC e0 e1 e2 (kG3 wk tw sf lo ri la) e4 e5 e6 (kI 5 f) e8 e9 e10 e11 e12 e13 e14 e16 e17 e19 e21 e22 e23 e25 e26))
  refine g_iload_n (i := 1) (j := 1) dX1_paceOf_0 rfl rfl ?_
  refine n_if_lt (tgt := 18) (by omega) dX1_paceOf_1 (by decide) ?_
  refine g_iload_n (i := 1) (j := 1) dX1_paceOf_4 rfl rfl ?_
  refine g_iconst (v := nI 5) dX1_paceOf_5 (by decide) ?_
  refine n_icmp_ge (tgt := 18) (by omega) (rng_lit 5 rfl) dX1_paceOf_6 (by decide) (fun h6 => ?_) (fun h6 => ?_)
  · exfalso; omega
  · refine g_aload_n (i := 0) (j := 0) dX1_paceOf_9 rfl rfl ?_
    refine g_get fX1_22 rfl rfl dX1_paceOf_10 ?_
    refine g_iload_n (i := 1) (j := 1) dX1_paceOf_13 rfl rfl ?_
    refine n_iald (x := c) rfl (by omega) (rng_lit 5 rfl) dX1_paceOf_14 ?_
    refine g_goto (tgt := 19) dX1_paceOf_15 (by decide) ?_
    refine g_iret rfl rfl dX1_paceOf_19 ?_
    exact gE_i rfl rfl

theorem ctX1_wadeOf {e0 e1 e2 e4 e5 e6 e7 e9 e10 e11 e12 e13 e14 e16 e17 e19 e21 e22 e23 e25 e26 : va_E} {f : Nat → Nat} {wk tw sf lo ri la : Nat} {c : Nat} (h1 : c < 5) : Ct mX1_wadeOf 0 [.ref 3, .int (nI c)] (wC e0 e1 e2 (kG3 wk tw sf lo ri la) e4 e5 e6 e7 (kI 5 f) e9 e10 e11 e12 e13 e14 e16 e17 e19 e21 e22 e23 e25 e26) (gE (some (.int (nI (f c)))) (wC e0 e1 e2 (kG3 wk tw sf lo ri la) e4 e5 e6 e7 (kI 5 f) e9 e10 e11 e12 e13 e14 e16 e17 e19 e21 e22 e23 e25 e26)) := by
  refine Ct.of (by decide) (by exact Nat.le_of_ble_eq_true rfl) ?_
  show Go mX1_wadeOf 0 0 [(0, .ref 3), (1, .int (nI c))] [] (wC e0 e1 e2 (kG3 wk tw sf lo ri la) e4 e5 e6 e7 (kI 5 f) e9 e10 e11 e12 e13 e14 e16 e17 e19 e21 e22 e23 e25 e26) (gE (some (.int (nI (f c)))) (wC e0 e1 e2 (kG3 wk tw sf lo ri la) e4 e5 e6 e7 (kI 5 f) e9 e10 e11 e12 e13 e14 e16 e17 e19 e21 e22 e23 e25 e26))
  refine g_iload_n (i := 1) (j := 1) dX1_wadeOf_0 rfl rfl ?_
  refine n_if_lt (tgt := 18) (by omega) dX1_wadeOf_1 (by decide) ?_
  refine g_iload_n (i := 1) (j := 1) dX1_wadeOf_4 rfl rfl ?_
  refine g_iconst (v := nI 5) dX1_wadeOf_5 (by decide) ?_
  refine n_icmp_ge (tgt := 18) (by omega) (rng_lit 5 rfl) dX1_wadeOf_6 (by decide) (fun h6 => ?_) (fun h6 => ?_)
  · exfalso; omega
  · refine g_aload_n (i := 0) (j := 0) dX1_wadeOf_9 rfl rfl ?_
    refine g_get fX1_25 rfl rfl dX1_wadeOf_10 ?_
    refine g_iload_n (i := 1) (j := 1) dX1_wadeOf_13 rfl rfl ?_
    refine n_iald (x := c) rfl (by omega) (rng_lit 5 rfl) dX1_wadeOf_14 ?_
    refine g_goto (tgt := 19) dX1_wadeOf_15 (by decide) ?_
    refine g_iret rfl rfl dX1_wadeOf_19 ?_
    exact gE_i rfl rfl

theorem ctX5_begin {e0 e1 e2 e4 e5 e6 e9 e10 e11 e12 e13 e14 e16 e17 e19 e21 e22 e25 e26 : va_E} {pa wa : Nat → Nat} {wk tw sf lo ri la : Nat} {p0 w0 l0 c0 s0 f0 : Nat} {k c s : Nat} (h1 : k < 5) : Ct mX5_begin 1 [.ref 23, .ref 3, .int (nI k), .int (nI c), .int (nI s)] (wC e0 e1 e2 (kG3 wk tw sf lo ri la) e4 e5 e6 (kI 5 pa) (kI 5 wa) e9 e10 e11 e12 e13 e14 e16 e17 e19 e21 e22 (kP p0 w0 l0 c0 s0 f0) e25 e26) (gE none (wC e0 e1 e2 (kG3 wk tw sf lo ri la) e4 e5 e6 (kI 5 pa) (kI 5 wa) e9 e10 e11 e12 e13 e14 e16 e17 e19 e21 e22 (kP (pa k) (wa k) lo c s 0) e25 e26)) := by
  refine Ct.of (by decide) (by exact Nat.le_of_ble_eq_true rfl) ?_
  show Go mX5_begin 1 0 [(0, .ref 23), (1, .ref 3), (2, .int (nI k)), (3, .int (nI c)), (4, .int (nI s))] [] (wC e0 e1 e2 (kG3 wk tw sf lo ri la) e4 e5 e6 (kI 5 pa) (kI 5 wa) e9 e10 e11 e12 e13 e14 e16 e17 e19 e21 e22 (kP p0 w0 l0 c0 s0 f0) e25 e26) (gE none (wC e0 e1 e2 (kG3 wk tw sf lo ri la) e4 e5 e6 (kI 5 pa) (kI 5 wa) e9 e10 e11 e12 e13 e14 e16 e17 e19 e21 e22 (kP (pa k) (wa k) lo c s 0) e25 e26))
  refine g_aload_n (i := 0) (j := 0) dX5_begin_0 rfl rfl ?_
  refine g_aload_n (i := 1) (j := 1) dX5_begin_1 rfl rfl ?_
  refine g_iload_n (i := 2) (j := 2) dX5_begin_2 rfl rfl ?_
  refine c_V (st1 := [.int (nI (pa k)), .ref 23]) (ctX1_paceOf (c := k) (by omega)) kX1_paceOf lX5_9 (by decide) rfl rfl rfl rfl (by exact Nat.le_of_ble_eq_true rfl) dX5_begin_3 rfl rfl ?_
  refine n_putI (ws' := wC e0 e1 e2 (kG3 wk tw sf lo ri la) e4 e5 e6 (kI 5 pa) (kI 5 wa) e9 e10 e11 e12 e13 e14 e16 e17 e19 e21 e22 (kP (pa k) w0 l0 c0 s0 f0) e25 e26) fX5_15 fp_X5_0 rfl (by exact Nat.le_of_ble_eq_true rfl) dX5_begin_6 rfl ?_
  refine g_aload_n (i := 0) (j := 0) dX5_begin_9 rfl rfl ?_
  refine g_aload_n (i := 1) (j := 1) dX5_begin_10 rfl rfl ?_
  refine g_iload_n (i := 2) (j := 2) dX5_begin_11 rfl rfl ?_
  refine c_V (st1 := [.int (nI (wa k)), .ref 23]) (ctX1_wadeOf (c := k) (by omega)) kX1_wadeOf lX5_21 (by decide) rfl rfl rfl rfl (by exact Nat.le_of_ble_eq_true rfl) dX5_begin_12 rfl rfl ?_
  refine n_putI (ws' := wC e0 e1 e2 (kG3 wk tw sf lo ri la) e4 e5 e6 (kI 5 pa) (kI 5 wa) e9 e10 e11 e12 e13 e14 e16 e17 e19 e21 e22 (kP (pa k) (wa k) l0 c0 s0 f0) e25 e26) fX5_24 fp_X5_1 rfl (by exact Nat.le_of_ble_eq_true rfl) dX5_begin_15 rfl ?_
  refine g_aload_n (i := 0) (j := 0) dX5_begin_18 rfl rfl ?_
  refine g_aload_n (i := 1) (j := 1) dX5_begin_19 rfl rfl ?_
  refine g_get fX5_27 rfl rfl dX5_begin_20 ?_
  refine n_putI (ws' := wC e0 e1 e2 (kG3 wk tw sf lo ri la) e4 e5 e6 (kI 5 pa) (kI 5 wa) e9 e10 e11 e12 e13 e14 e16 e17 e19 e21 e22 (kP (pa k) (wa k) lo c0 s0 f0) e25 e26) fX5_30 fp_X5_2 rfl (by exact Nat.le_of_ble_eq_true rfl) dX5_begin_23 rfl ?_
  refine g_aload_n (i := 0) (j := 0) dX5_begin_26 rfl rfl ?_
  refine g_iload_n (i := 3) (j := 3) dX5_begin_27 rfl rfl ?_
  refine n_putI (ws' := wC e0 e1 e2 (kG3 wk tw sf lo ri la) e4 e5 e6 (kI 5 pa) (kI 5 wa) e9 e10 e11 e12 e13 e14 e16 e17 e19 e21 e22 (kP (pa k) (wa k) lo c s0 f0) e25 e26) fX5_31 fp_X5_3 rfl (by exact Nat.le_of_ble_eq_true rfl) dX5_begin_28 rfl ?_
  refine g_aload_n (i := 0) (j := 0) dX5_begin_31 rfl rfl ?_
  refine g_iload (j := 4) dX5_begin_32 rfl ?_
  refine n_putI (ws' := wC e0 e1 e2 (kG3 wk tw sf lo ri la) e4 e5 e6 (kI 5 pa) (kI 5 wa) e9 e10 e11 e12 e13 e14 e16 e17 e19 e21 e22 (kP (pa k) (wa k) lo c s f0) e25 e26) fX5_34 fp_X5_4 rfl (by exact Nat.le_of_ble_eq_true rfl) dX5_begin_34 rfl ?_
  refine g_aload_n (i := 0) (j := 0) dX5_begin_37 rfl rfl ?_
  refine g_iconst (v := nI 0) dX5_begin_38 (by decide) ?_
  refine n_putI (ws' := wC e0 e1 e2 (kG3 wk tw sf lo ri la) e4 e5 e6 (kI 5 pa) (kI 5 wa) e9 e10 e11 e12 e13 e14 e16 e17 e19 e21 e22 (kP (pa k) (wa k) lo c s 0) e25 e26) fX5_37 fp_X5_5 rfl (by exact Nat.le_of_ble_eq_true rfl) dX5_begin_39 rfl ?_
  refine g_vret rfl dX5_begin_42 ?_
  exact gE_i rfl rfl

theorem ctX5_isLost {e0 e1 e2 e3 e4 e5 e6 e7 e8 e9 e10 e11 e12 e13 e14 e16 e17 e19 e21 e22 e25 e26 : va_E} {p0 w0 l0 c0 s0 f0 : Nat} (h1 : f0 ≤ 4) : Ct mX5_isLost 0 [.ref 23] (wC e0 e1 e2 e3 e4 e5 e6 e7 e8 e9 e10 e11 e12 e13 e14 e16 e17 e19 e21 e22 (kP p0 w0 l0 c0 s0 f0) e25 e26) (gE (some (.int (nI (bN (f0 = 2 ∨ f0 = 3))))) (wC e0 e1 e2 e3 e4 e5 e6 e7 e8 e9 e10 e11 e12 e13 e14 e16 e17 e19 e21 e22 (kP p0 w0 l0 c0 s0 f0) e25 e26)) := by
  refine Ct.of (by decide) (by exact Nat.le_of_ble_eq_true rfl) ?_
  show Go mX5_isLost 0 0 [(0, .ref 23)] [] (wC e0 e1 e2 e3 e4 e5 e6 e7 e8 e9 e10 e11 e12 e13 e14 e16 e17 e19 e21 e22 (kP p0 w0 l0 c0 s0 f0) e25 e26) (gE (some (.int (nI (bN (f0 = 2 ∨ f0 = 3))))) (wC e0 e1 e2 e3 e4 e5 e6 e7 e8 e9 e10 e11 e12 e13 e14 e16 e17 e19 e21 e22 (kP p0 w0 l0 c0 s0 f0) e25 e26))
  refine g_aload_n (i := 0) (j := 0) dX5_isLost_0 rfl rfl ?_
  refine g_get fX5_37 rfl rfl dX5_isLost_1 ?_
  refine g_iconst (v := nI 2) dX5_isLost_4 (by decide) ?_
  refine n_icmp_eq (tgt := 16) (by omega) (rng_lit 2 rfl) dX5_isLost_5 (by decide) (fun h5 => ?_) (fun h5 => ?_)
  · refine g_iconst (v := nI 1) dX5_isLost_16 (by decide) ?_
    refine g_goto (tgt := 21) dX5_isLost_17 (by decide) ?_
    refine g_iret rfl (by decide) dX5_isLost_21 ?_
    exact gE_n (bN_t (by omega)).symm rfl
  · refine g_aload_n (i := 0) (j := 0) dX5_isLost_8 rfl rfl ?_
    refine g_get fX5_37 rfl rfl dX5_isLost_9 ?_
    refine g_iconst (v := nI 3) dX5_isLost_12 (by decide) ?_
    refine n_icmp_ne (tgt := 20) (by omega) (rng_lit 3 rfl) dX5_isLost_13 (by decide) (fun h13 => ?_) (fun h13 => ?_)
    · refine g_iconst (v := nI 0) dX5_isLost_20 (by decide) ?_
      refine g_iret rfl (by decide) dX5_isLost_21 ?_
      exact gE_n (bN_f (by omega)).symm rfl
    · refine g_iconst (v := nI 1) dX5_isLost_16 (by decide) ?_
      refine g_goto (tgt := 21) dX5_isLost_17 (by decide) ?_
      refine g_iret rfl (by decide) dX5_isLost_21 ?_
      exact gE_n (bN_t (by omega)).symm rfl

theorem lp_goAlong_on {e0 e1 e2 e6 e7 e8 e9 e10 e11 e12 e13 e14 e16 e17 e19 e21 e22 e25 e26 : va_E} {h so : Nat → Nat} {wk tw sf lo ri la : Nat} {p0 w0 l0 s0 f0 : Nat} {w : Nat} (hH : ∀ k, h k ≤ 9) (hp : p0 ≤ 3) (hw0 : w0 ≤ 5) (hw : w ≤ 9) {cs : Nat} (hcs : cs ≤ 3) : ∀ (n k c : Nat), k + n = cs → c ≤ 9 → Go mX5_goAlong 1 32 [(0, .ref 23), (1, .ref 3), (2, .int (nI w)), (3, .int (nI 1)), (4, .int (nI cs)), (5, .int (nI k))] [] (wC e0 e1 e2 (kG3 wk tw sf lo ri la) (kI 10 h) (kZ 10 so) e6 e7 e8 e9 e10 e11 e12 e13 e14 e16 e17 e19 e21 e22 (kP p0 w0 l0 c s0 f0) e25 e26) (gE none (wC e0 e1 e2 (kG3 wk tw sf lo ri la) (kI 10 h) (kZ 10 so) e6 e7 e8 e9 e10 e11 e12 e13 e14 e16 e17 e19 e21 e22 (kP p0 w0 l0 (sOn h w0 w n c) s0 f0) e25 e26)) := by
  intro n
  induction n with
  | zero =>
    intro k c hk hc
    refine g_iload (j := 5) dX5_goAlong_32 rfl ?_
    refine g_iload (j := 4) dX5_goAlong_34 rfl ?_
    refine n_icmp_ge (tgt := 86) (by omega) (by omega) dX5_goAlong_36 (by decide) (fun h36 => ?_) (fun h36 => ?_)
    · refine g_vret rfl dX5_goAlong_86 ?_
      exact gE_i rfl rfl
    · exfalso; omega

  | succ n ih =>
    intro k c hk hc
    refine g_iload (j := 5) dX5_goAlong_32 rfl ?_
    refine g_iload (j := 4) dX5_goAlong_34 rfl ?_
    refine n_icmp_ge (tgt := 86) (by omega) (by omega) dX5_goAlong_36 (by decide) (fun h36 => ?_) (fun h36 => ?_)
    · exfalso; omega
    · refine g_aload_n (i := 0) (j := 0) dX5_goAlong_39 rfl rfl ?_
      refine g_get fX5_31 rfl rfl dX5_goAlong_40 ?_
      refine g_iload_n (i := 3) (j := 3) dX5_goAlong_43 rfl rfl ?_
      refine n_iadd (a := c) (b := 1) dX5_goAlong_44 ?_
      refine g_istore (lv' := [(6, .int (nI (c + 1))), (0, .ref 23), (1, .ref 3), (2, .int (nI w)), (3, .int (nI 1)), (4, .int (nI cs)), (5, .int (nI k))]) dX5_goAlong_45 (by decide) rfl ?_
      refine g_iload (j := 0) dX5_goAlong_47 rfl ?_
      refine n_if_lt (tgt := 73) (by omega) dX5_goAlong_49 (by decide) ?_
      refine g_iload (j := 0) dX5_goAlong_52 rfl ?_
      refine g_bipush (v := nI 9) dX5_goAlong_54 (by decide) ?_
      refine n_icmp_gt (tgt := 73) (by omega) (rng_lit 9 rfl) dX5_goAlong_56 (by decide) (fun h56 => ?_) (fun h56 => ?_)
      · refine g_vret rfl dX5_goAlong_73 ?_
        refine gE_i rfl ?_
        rw [show sOn h w0 w (n + 1) c = c by rw [sOn, if_pos (by omega)]]
      · refine g_aload_n (i := 1) (j := 2) dX5_goAlong_59 rfl rfl ?_
        refine g_iload (j := 0) dX5_goAlong_60 rfl ?_
        refine g_iload_n (i := 2) (j := 3) dX5_goAlong_62 rfl rfl ?_
        refine c_V (st1 := [.int (nI (sDepth h (c + 1) w))]) (ctX1_depth (c := c + 1) (w := w) hH (by omega) (by omega)) kX1_depth lX5_48 (by decide) rfl rfl rfl rfl (by exact Nat.le_of_ble_eq_true rfl) dX5_goAlong_63 rfl rfl ?_
        refine g_aload_n (i := 0) (j := 1) dX5_goAlong_66 rfl rfl ?_
        refine g_get fX5_24 rfl rfl dX5_goAlong_67 ?_
        refine n_icmp_le (tgt := 74) (by have := sDepth_le h (c + 1) w; omega) (by omega) dX5_goAlong_70 (by decide) (fun h70 => ?_) (fun h70 => ?_)
        · refine g_aload_n (i := 0) (j := 1) dX5_goAlong_74 rfl rfl ?_
          refine g_iload (j := 0) dX5_goAlong_75 rfl ?_
          refine n_putI (ws' := wC e0 e1 e2 (kG3 wk tw sf lo ri la) (kI 10 h) (kZ 10 so) e6 e7 e8 e9 e10 e11 e12 e13 e14 e16 e17 e19 e21 e22 (kP p0 w0 l0 (c + 1) s0 f0) e25 e26) fX5_31 fp_X5_3 rfl (by exact Nat.le_of_ble_eq_true rfl) dX5_goAlong_77 rfl ?_
          refine n_inc (x := k) (j := 6) (lv' := [(5, .int (nI (k + 1))), (6, .int (nI (c + 1))), (0, .ref 23), (1, .ref 3), (2, .int (nI w)), (3, .int (nI 1)), (4, .int (nI cs))]) dX5_goAlong_80 rfl (by decide) rfl ?_
          refine g_goto (tgt := 32) dX5_goAlong_83 (by decide) ?_
          refine g_lv [2, 3, 4, 5, 6, 0] rfl ?_
          refine g_post ?_ (ih (k + 1) (c + 1) (by omega) (by omega))
          intro v u hvu
          obtain ⟨rfl, rfl⟩ := hvu
          refine gE_i rfl ?_
          rw [show sOn h w0 w (n + 1) c = sOn h w0 w n (c + 1) by rw [sOn, if_neg (by omega)]]
        · refine g_vret rfl dX5_goAlong_73 ?_
          refine gE_i rfl ?_
          rw [show sOn h w0 w (n + 1) c = c by rw [sOn, if_pos (by omega)]]

theorem ctX5_goAlong_on {e0 e1 e2 e6 e7 e8 e9 e10 e11 e12 e13 e14 e16 e17 e19 e21 e22 e25 e26 : va_E} {h so : Nat → Nat} {wk tw sf lo ri la : Nat} {p0 w0 l0 c0 s0 f0 : Nat} {w : Nat} (hH : ∀ k, h k ≤ 9) (hp : p0 ≤ 3) (hw0 : w0 ≤ 5) (hw : w ≤ 9) (hc : c0 ≤ 9) : Ct mX5_goAlong 1 [.ref 23, .ref 3, .int (nI w), .int (nI 1)] (wC e0 e1 e2 (kG3 wk tw sf lo ri la) (kI 10 h) (kZ 10 so) e6 e7 e8 e9 e10 e11 e12 e13 e14 e16 e17 e19 e21 e22 (kP p0 w0 l0 c0 s0 f0) e25 e26) (gE none (wC e0 e1 e2 (kG3 wk tw sf lo ri la) (kI 10 h) (kZ 10 so) e6 e7 e8 e9 e10 e11 e12 e13 e14 e16 e17 e19 e21 e22 (kP p0 w0 l0 (sOn h w0 w (sPace h p0 c0 w) c0) s0 f0) e25 e26)) := by
  refine Ct.of (by decide) (by exact Nat.le_of_ble_eq_true rfl) ?_
  show Go mX5_goAlong 1 0 [(0, .ref 23), (1, .ref 3), (2, .int (nI w)), (3, .int (nI 1))] [] (wC e0 e1 e2 (kG3 wk tw sf lo ri la) (kI 10 h) (kZ 10 so) e6 e7 e8 e9 e10 e11 e12 e13 e14 e16 e17 e19 e21 e22 (kP p0 w0 l0 c0 s0 f0) e25 e26) (gE none (wC e0 e1 e2 (kG3 wk tw sf lo ri la) (kI 10 h) (kZ 10 so) e6 e7 e8 e9 e10 e11 e12 e13 e14 e16 e17 e19 e21 e22 (kP p0 w0 l0 (sOn h w0 w (sPace h p0 c0 w) c0) s0 f0) e25 e26))
  refine g_aload_n (i := 1) (j := 1) dX5_goAlong_0 rfl rfl ?_
  refine g_aload_n (i := 0) (j := 0) dX5_goAlong_1 rfl rfl ?_
  refine g_get fX5_31 rfl rfl dX5_goAlong_2 ?_
  refine g_iload_n (i := 2) (j := 2) dX5_goAlong_5 rfl rfl ?_
  refine c_V (st1 := [.int (nI (sDepth h c0 w))]) (ctX1_depth (c := c0) (w := w) hH (by omega) (by omega)) kX1_depth lX5_48 (by decide) rfl rfl rfl rfl (by exact Nat.le_of_ble_eq_true rfl) dX5_goAlong_6 rfl rfl ?_
  refine n_if_le (tgt := 23) (by have := sDepth_le h c0 w; omega) dX5_goAlong_9 (by decide) (fun h9 => ?_) (fun h9 => ?_)
  · refine g_aload_n (i := 0) (j := 0) dX5_goAlong_23 rfl rfl ?_
    refine g_get fX5_15 rfl rfl dX5_goAlong_24 ?_
    refine g_istore (lv' := [(4, .int (nI p0)), (0, .ref 23), (1, .ref 3), (2, .int (nI w)), (3, .int (nI 1))]) dX5_goAlong_27 (by decide) rfl ?_
    refine g_iconst (v := nI 0) dX5_goAlong_29 (by decide) ?_
    refine g_istore (lv' := [(5, .int (nI 0)), (4, .int (nI p0)), (0, .ref 23), (1, .ref 3), (2, .int (nI w)), (3, .int (nI 1))]) dX5_goAlong_30 (by decide) rfl ?_
    refine g_lv [2, 3, 4, 5, 1, 0] rfl ?_
    refine g_post ?_ (lp_goAlong_on (cs := p0) hH hp hw0 hw (by omega) (p0) 0 c0 (by omega) hc)
    intro v u hvu
    obtain ⟨rfl, rfl⟩ := hvu
    refine gE_i rfl ?_
    rw [show sPace h p0 c0 w = p0 by unfold sPace; split <;> omega]
  · refine g_aload_n (i := 0) (j := 0) dX5_goAlong_12 rfl rfl ?_
    refine g_get fX5_15 rfl rfl dX5_goAlong_13 ?_
    refine g_iconst (v := nI 1) dX5_goAlong_16 (by decide) ?_
    refine n_iadd (a := p0) (b := 1) dX5_goAlong_17 ?_
    refine g_iconst (v := nI 2) dX5_goAlong_18 (by decide) ?_
    refine n_idiv (a := (p0 + 1)) (b := 2) (by omega) (by omega) (rng_lit 2 rfl) dX5_goAlong_19 ?_
    refine g_goto (tgt := 27) dX5_goAlong_20 (by decide) ?_
    refine g_istore (lv' := [(4, .int (nI ((p0 + 1) / 2))), (0, .ref 23), (1, .ref 3), (2, .int (nI w)), (3, .int (nI 1))]) dX5_goAlong_27 (by decide) rfl ?_
    refine g_iconst (v := nI 0) dX5_goAlong_29 (by decide) ?_
    refine g_istore (lv' := [(5, .int (nI 0)), (4, .int (nI ((p0 + 1) / 2))), (0, .ref 23), (1, .ref 3), (2, .int (nI w)), (3, .int (nI 1))]) dX5_goAlong_30 (by decide) rfl ?_
    refine g_lv [2, 3, 4, 5, 1, 0] rfl ?_
    refine g_post ?_ (lp_goAlong_on (cs := ((p0 + 1) / 2)) hH hp hw0 hw (by omega) ((p0 + 1) / 2) 0 c0 (by omega) hc)
    intro v u hvu
    obtain ⟨rfl, rfl⟩ := hvu
    refine gE_i rfl ?_
    rw [show sPace h p0 c0 w = (p0 + 1) / 2 by unfold sPace; split <;> omega]

theorem lp_goAlong_bk {e0 e1 e2 e6 e7 e8 e9 e10 e11 e12 e13 e14 e16 e17 e19 e21 e22 e25 e26 : va_E} {h so : Nat → Nat} {wk tw sf lo ri la : Nat} {p0 w0 l0 s0 f0 : Nat} {w : Nat} (hH : ∀ k, h k ≤ 9) (hp : p0 ≤ 3) (hw0 : w0 ≤ 5) (hw : w ≤ 9) {cs : Nat} (hcs : cs ≤ 3) : ∀ (n k c : Nat), k + n = cs → c ≤ 9 → Go mX5_goAlong 1 32 [(0, .ref 23), (1, .ref 3), (2, .int (nI w)), (3, .int (-1)), (4, .int (nI cs)), (5, .int (nI k))] [] (wC e0 e1 e2 (kG3 wk tw sf lo ri la) (kI 10 h) (kZ 10 so) e6 e7 e8 e9 e10 e11 e12 e13 e14 e16 e17 e19 e21 e22 (kP p0 w0 l0 c s0 f0) e25 e26) (gE none (wC e0 e1 e2 (kG3 wk tw sf lo ri la) (kI 10 h) (kZ 10 so) e6 e7 e8 e9 e10 e11 e12 e13 e14 e16 e17 e19 e21 e22 (kP p0 w0 l0 (sBk h w0 w n c) s0 f0) e25 e26)) := by
  intro n
  induction n with
  | zero =>
    intro k c hk hc
    refine g_iload (j := 5) dX5_goAlong_32 rfl ?_
    refine g_iload (j := 4) dX5_goAlong_34 rfl ?_
    refine n_icmp_ge (tgt := 86) (by omega) (by omega) dX5_goAlong_36 (by decide) (fun h36 => ?_) (fun h36 => ?_)
    · refine g_vret rfl dX5_goAlong_86 ?_
      exact gE_i rfl rfl
    · exfalso; omega

  | succ n ih =>
    intro k c hk hc
    refine g_iload (j := 5) dX5_goAlong_32 rfl ?_
    refine g_iload (j := 4) dX5_goAlong_34 rfl ?_
    refine n_icmp_ge (tgt := 86) (by omega) (by omega) dX5_goAlong_36 (by decide) (fun h36 => ?_) (fun h36 => ?_)
    · exfalso; omega
    · refine g_aload_n (i := 0) (j := 0) dX5_goAlong_39 rfl rfl ?_
      refine g_get fX5_31 rfl rfl dX5_goAlong_40 ?_
      refine g_iload_n (i := 3) (j := 3) dX5_goAlong_43 rfl rfl ?_
      refine g_iadd dX5_goAlong_44 ?_
      rcases Nat.eq_zero_or_pos c with hc0 | hc0
      · refine g_topi (y := (-1)) (by rw [hc0]; decide) ?_
        refine g_istore (lv' := [(6, .int (-1)), (0, .ref 23), (1, .ref 3), (2, .int (nI w)), (3, .int (-1)), (4, .int (nI cs)), (5, .int (nI k))]) dX5_goAlong_45 (by decide) rfl ?_
        refine g_iload (j := 0) dX5_goAlong_47 rfl ?_
        refine g_if_lt (tgt := 73) dX5_goAlong_49 (by decide) (fun h49 => ?_) (fun h49 => ?_)
        · refine g_vret rfl dX5_goAlong_73 ?_
          refine gE_i rfl ?_
          rw [show sBk h w0 w (n + 1) c = c by rw [sBk, if_pos (by omega)]]
        · exact absurd (by decide) h49
      · refine g_topi (y := nI (c - 1)) (sb_m1 hc0) ?_
        refine g_istore (lv' := [(6, .int (nI (c - 1))), (0, .ref 23), (1, .ref 3), (2, .int (nI w)), (3, .int (-1)), (4, .int (nI cs)), (5, .int (nI k))]) dX5_goAlong_45 (by decide) rfl ?_
        refine g_iload (j := 0) dX5_goAlong_47 rfl ?_
        refine n_if_lt (tgt := 73) (by omega) dX5_goAlong_49 (by decide) ?_
        refine g_iload (j := 0) dX5_goAlong_52 rfl ?_
        refine g_bipush (v := nI 9) dX5_goAlong_54 (by decide) ?_
        refine n_icmp_gt (tgt := 73) (by omega) (rng_lit 9 rfl) dX5_goAlong_56 (by decide) (fun h56 => ?_) (fun h56 => ?_)
        · exfalso; omega
        · refine g_aload_n (i := 1) (j := 2) dX5_goAlong_59 rfl rfl ?_
          refine g_iload (j := 0) dX5_goAlong_60 rfl ?_
          refine g_iload_n (i := 2) (j := 3) dX5_goAlong_62 rfl rfl ?_
          refine c_V (st1 := [.int (nI (sDepth h (c - 1) w))]) (ctX1_depth (c := c - 1) (w := w) hH (by omega) (by omega)) kX1_depth lX5_48 (by decide) rfl rfl rfl rfl (by exact Nat.le_of_ble_eq_true rfl) dX5_goAlong_63 rfl rfl ?_
          refine g_aload_n (i := 0) (j := 1) dX5_goAlong_66 rfl rfl ?_
          refine g_get fX5_24 rfl rfl dX5_goAlong_67 ?_
          refine n_icmp_le (tgt := 74) (by have := sDepth_le h (c - 1) w; omega) (by omega) dX5_goAlong_70 (by decide) (fun h70 => ?_) (fun h70 => ?_)
          · refine g_aload_n (i := 0) (j := 1) dX5_goAlong_74 rfl rfl ?_
            refine g_iload (j := 0) dX5_goAlong_75 rfl ?_
            refine n_putI (ws' := wC e0 e1 e2 (kG3 wk tw sf lo ri la) (kI 10 h) (kZ 10 so) e6 e7 e8 e9 e10 e11 e12 e13 e14 e16 e17 e19 e21 e22 (kP p0 w0 l0 (c - 1) s0 f0) e25 e26) fX5_31 fp_X5_3 rfl (by exact Nat.le_of_ble_eq_true rfl) dX5_goAlong_77 rfl ?_
            refine n_inc (x := k) (j := 6) (lv' := [(5, .int (nI (k + 1))), (6, .int (nI (c - 1))), (0, .ref 23), (1, .ref 3), (2, .int (nI w)), (3, .int (-1)), (4, .int (nI cs))]) dX5_goAlong_80 rfl (by decide) rfl ?_
            refine g_goto (tgt := 32) dX5_goAlong_83 (by decide) ?_
            refine g_lv [2, 3, 4, 5, 6, 0] rfl ?_
            refine g_post ?_ (ih (k + 1) (c - 1) (by omega) (by omega))
            intro v u hvu
            obtain ⟨rfl, rfl⟩ := hvu
            refine gE_i rfl ?_
            rw [show sBk h w0 w (n + 1) c = sBk h w0 w n (c - 1) by rw [sBk, if_neg (by omega)]]
          · refine g_vret rfl dX5_goAlong_73 ?_
            refine gE_i rfl ?_
            rw [show sBk h w0 w (n + 1) c = c by rw [sBk, if_pos (by omega)]]

theorem ctX5_goAlong_bk {e0 e1 e2 e6 e7 e8 e9 e10 e11 e12 e13 e14 e16 e17 e19 e21 e22 e25 e26 : va_E} {h so : Nat → Nat} {wk tw sf lo ri la : Nat} {p0 w0 l0 c0 s0 f0 : Nat} {w : Nat} (hH : ∀ k, h k ≤ 9) (hp : p0 ≤ 3) (hw0 : w0 ≤ 5) (hw : w ≤ 9) (hc : c0 ≤ 9) : Ct mX5_goAlong 1 [.ref 23, .ref 3, .int (nI w), .int (-1)] (wC e0 e1 e2 (kG3 wk tw sf lo ri la) (kI 10 h) (kZ 10 so) e6 e7 e8 e9 e10 e11 e12 e13 e14 e16 e17 e19 e21 e22 (kP p0 w0 l0 c0 s0 f0) e25 e26) (gE none (wC e0 e1 e2 (kG3 wk tw sf lo ri la) (kI 10 h) (kZ 10 so) e6 e7 e8 e9 e10 e11 e12 e13 e14 e16 e17 e19 e21 e22 (kP p0 w0 l0 (sBk h w0 w (sPace h p0 c0 w) c0) s0 f0) e25 e26)) := by
  refine Ct.of (by decide) (by exact Nat.le_of_ble_eq_true rfl) ?_
  show Go mX5_goAlong 1 0 [(0, .ref 23), (1, .ref 3), (2, .int (nI w)), (3, .int (-1))] [] (wC e0 e1 e2 (kG3 wk tw sf lo ri la) (kI 10 h) (kZ 10 so) e6 e7 e8 e9 e10 e11 e12 e13 e14 e16 e17 e19 e21 e22 (kP p0 w0 l0 c0 s0 f0) e25 e26) (gE none (wC e0 e1 e2 (kG3 wk tw sf lo ri la) (kI 10 h) (kZ 10 so) e6 e7 e8 e9 e10 e11 e12 e13 e14 e16 e17 e19 e21 e22 (kP p0 w0 l0 (sBk h w0 w (sPace h p0 c0 w) c0) s0 f0) e25 e26))
  refine g_aload_n (i := 1) (j := 1) dX5_goAlong_0 rfl rfl ?_
  refine g_aload_n (i := 0) (j := 0) dX5_goAlong_1 rfl rfl ?_
  refine g_get fX5_31 rfl rfl dX5_goAlong_2 ?_
  refine g_iload_n (i := 2) (j := 2) dX5_goAlong_5 rfl rfl ?_
  refine c_V (st1 := [.int (nI (sDepth h c0 w))]) (ctX1_depth (c := c0) (w := w) hH (by omega) (by omega)) kX1_depth lX5_48 (by decide) rfl rfl rfl rfl (by exact Nat.le_of_ble_eq_true rfl) dX5_goAlong_6 rfl rfl ?_
  refine n_if_le (tgt := 23) (by have := sDepth_le h c0 w; omega) dX5_goAlong_9 (by decide) (fun h9 => ?_) (fun h9 => ?_)
  · refine g_aload_n (i := 0) (j := 0) dX5_goAlong_23 rfl rfl ?_
    refine g_get fX5_15 rfl rfl dX5_goAlong_24 ?_
    refine g_istore (lv' := [(4, .int (nI p0)), (0, .ref 23), (1, .ref 3), (2, .int (nI w)), (3, .int (-1))]) dX5_goAlong_27 (by decide) rfl ?_
    refine g_iconst (v := nI 0) dX5_goAlong_29 (by decide) ?_
    refine g_istore (lv' := [(5, .int (nI 0)), (4, .int (nI p0)), (0, .ref 23), (1, .ref 3), (2, .int (nI w)), (3, .int (-1))]) dX5_goAlong_30 (by decide) rfl ?_
    refine g_lv [2, 3, 4, 5, 1, 0] rfl ?_
    refine g_post ?_ (lp_goAlong_bk (cs := p0) hH hp hw0 hw (by omega) (p0) 0 c0 (by omega) hc)
    intro v u hvu
    obtain ⟨rfl, rfl⟩ := hvu
    refine gE_i rfl ?_
    rw [show sPace h p0 c0 w = p0 by unfold sPace; split <;> omega]
  · refine g_aload_n (i := 0) (j := 0) dX5_goAlong_12 rfl rfl ?_
    refine g_get fX5_15 rfl rfl dX5_goAlong_13 ?_
    refine g_iconst (v := nI 1) dX5_goAlong_16 (by decide) ?_
    refine n_iadd (a := p0) (b := 1) dX5_goAlong_17 ?_
    refine g_iconst (v := nI 2) dX5_goAlong_18 (by decide) ?_
    refine n_idiv (a := (p0 + 1)) (b := 2) (by omega) (by omega) (rng_lit 2 rfl) dX5_goAlong_19 ?_
    refine g_goto (tgt := 27) dX5_goAlong_20 (by decide) ?_
    refine g_istore (lv' := [(4, .int (nI ((p0 + 1) / 2))), (0, .ref 23), (1, .ref 3), (2, .int (nI w)), (3, .int (-1))]) dX5_goAlong_27 (by decide) rfl ?_
    refine g_iconst (v := nI 0) dX5_goAlong_29 (by decide) ?_
    refine g_istore (lv' := [(5, .int (nI 0)), (4, .int (nI ((p0 + 1) / 2))), (0, .ref 23), (1, .ref 3), (2, .int (nI w)), (3, .int (-1))]) dX5_goAlong_30 (by decide) rfl ?_
    refine g_lv [2, 3, 4, 5, 1, 0] rfl ?_
    refine g_post ?_ (lp_goAlong_bk (cs := ((p0 + 1) / 2)) hH hp hw0 hw (by omega) ((p0 + 1) / 2) 0 c0 (by omega) hc)
    intro v u hvu
    obtain ⟨rfl, rfl⟩ := hvu
    refine gE_i rfl ?_
    rw [show sPace h p0 c0 w = (p0 + 1) / 2 by unfold sPace; split <;> omega]

theorem ctX5_move {e0 e1 e2 e6 e7 e8 e9 e10 e11 e12 e13 e14 e16 e17 e19 e21 e22 e25 e26 : va_E} {h so : Nat → Nat} {wk tw sf lo ri la : Nat} {p0 w0 l0 c0 s0 f0 : Nat} {way : Nat} (hH : ∀ k, h k ≤ 9) (hso : ∀ k, so k ≤ 1) (hla : la ≤ 9) (hri : ri ≤ 3) (hp : p0 ≤ 3) (hw0 : w0 ≤ 5) (hl0 : l0 ≤ 41) (hc : c0 ≤ 9) (hs : s0 ≤ 40) (hf : f0 ≤ 4) (hway : way ≤ 2) : Ct mX5_move 2 [.ref 23, .ref 3, .int (nI way)] (wC e0 e1 e2 (kG3 wk tw sf lo ri la) (kI 10 h) (kZ 10 so) e6 e7 e8 e9 e10 e11 e12 e13 e14 e16 e17 e19 e21 e22 (kP p0 w0 l0 c0 s0 f0) e25 e26) (gE none (wC e0 e1 e2 (kG3 wk tw sf lo ri la) (kI 10 h) (kZ 10 so) e6 e7 e8 e9 e10 e11 e12 e13 e14 e16 e17 e19 e21 e22 (kP p0 w0 l0 (sTo h p0 w0 c0 way (sWater la ri s0 l0)) (s0 + 1) (sFate h so w0 c0 (sTo h p0 w0 c0 way (sWater la ri s0 l0)) way (sWater la ri (s0 + 1) l0) f0)) e25 e26)) := by
  refine Ct.of (by decide) (by exact Nat.le_of_ble_eq_true rfl) ?_
  show Go mX5_move 2 0 [(0, .ref 23), (1, .ref 3), (2, .int (nI way))] [] (wC e0 e1 e2 (kG3 wk tw sf lo ri la) (kI 10 h) (kZ 10 so) e6 e7 e8 e9 e10 e11 e12 e13 e14 e16 e17 e19 e21 e22 (kP p0 w0 l0 c0 s0 f0) e25 e26) (gE none (wC e0 e1 e2 (kG3 wk tw sf lo ri la) (kI 10 h) (kZ 10 so) e6 e7 e8 e9 e10 e11 e12 e13 e14 e16 e17 e19 e21 e22 (kP p0 w0 l0 (sTo h p0 w0 c0 way (sWater la ri s0 l0)) (s0 + 1) (sFate h so w0 c0 (sTo h p0 w0 c0 way (sWater la ri s0 l0)) way (sWater la ri (s0 + 1) l0) f0)) e25 e26))
  have hto_le := sTo_le h p0 w0 c0 way (sWater la ri s0 l0) hc
  obtain ⟨to, hto_⟩ : ∃ t, t = sTo h p0 w0 c0 way (sWater la ri s0 l0) := ⟨_, rfl⟩
  have hso2 := hso to
  have hsw := sWater_le la ri (s0 + 1) l0
  have hsd := sDepth_le h to (sWater la ri (s0 + 1) l0)
  refine g_aload_n (i := 0) (j := 0) dX5_move_0 rfl rfl ?_
  refine g_get fX5_31 rfl rfl dX5_move_1 ?_
  refine g_istore_n (i := 3) (lv' := [(3, .int (nI c0)), (0, .ref 23), (1, .ref 3), (2, .int (nI way))]) dX5_move_4 rfl (by decide) rfl ?_
  refine g_aload_n (i := 1) (j := 2) dX5_move_5 rfl rfl ?_
  refine g_aload_n (i := 0) (j := 1) dX5_move_6 rfl rfl ?_
  refine g_get fX5_34 rfl rfl dX5_move_7 ?_
  refine g_aload_n (i := 0) (j := 1) dX5_move_10 rfl rfl ?_
  refine g_get fX5_30 rfl rfl dX5_move_11 ?_
  refine c_V (st1 := [.int (nI (sWater la ri s0 l0))]) (ctX1_water (st := s0) (lo2 := l0) (by omega) (by omega) (by omega) (by omega)) kX1_water lX5_40 (by decide) rfl rfl rfl rfl (by exact Nat.le_of_ble_eq_true rfl) dX5_move_14 rfl rfl ?_
  refine g_istore (lv' := [(4, .int (nI (sWater la ri s0 l0))), (3, .int (nI c0)), (0, .ref 23), (1, .ref 3), (2, .int (nI way))]) dX5_move_17 (by decide) rfl ?_
  refine g_iload_n (i := 2) (j := 4) dX5_move_19 rfl rfl ?_
  refine g_iconst (v := nI 1) dX5_move_20 (by decide) ?_
  refine n_icmp_ne (tgt := 32) (by omega) (rng_lit 1 rfl) dX5_move_21 (by decide) (fun h21 => ?_) (fun h21 => ?_)
  · refine g_iload_n (i := 2) (j := 4) dX5_move_32 rfl rfl ?_
    refine g_iconst (v := nI 2) dX5_move_33 (by decide) ?_
    refine n_icmp_ne (tgt := 45) (by omega) (rng_lit 2 rfl) dX5_move_34 (by decide) (fun h34 => ?_) (fun h34 => ?_)
    · have hto : c0 = sTo h p0 w0 c0 way (sWater la ri s0 l0) := by first | (exfalso; omega) | (unfold sTo; rw [if_pos (by omega)]; done) | (unfold sTo; rw [if_neg (by omega), if_pos (by omega)]; done) | (unfold sTo; rw [if_neg (by omega), if_neg (by omega)]; done)
      refine g_ws (ws' := wC e0 e1 e2 (kG3 wk tw sf lo ri la) (kI 10 h) (kZ 10 so) e6 e7 e8 e9 e10 e11 e12 e13 e14 e16 e17 e19 e21 e22 (kP p0 w0 l0 to s0 f0) e25 e26) (by rw [hto, ← hto_]) ?_
      refine g_aload_n (i := 0) (j := 2) dX5_move_45 rfl rfl ?_
      refine g_dup dX5_move_46 rfl ?_
      refine g_get fX5_34 rfl rfl dX5_move_47 ?_
      refine g_iconst (v := nI 1) dX5_move_50 (by decide) ?_
      refine n_iadd (a := s0) (b := 1) dX5_move_51 ?_
      refine n_putI (ws' := wC e0 e1 e2 (kG3 wk tw sf lo ri la) (kI 10 h) (kZ 10 so) e6 e7 e8 e9 e10 e11 e12 e13 e14 e16 e17 e19 e21 e22 (kP p0 w0 l0 to (s0 + 1) f0) e25 e26) fX5_34 fp_X5_4 rfl (by exact Nat.le_of_ble_eq_true rfl) dX5_move_52 rfl ?_
      refine g_iload_n (i := 2) (j := 4) dX5_move_55 rfl rfl ?_
      refine g_iconst (v := nI 1) dX5_move_56 (by decide) ?_
      refine n_icmp_ne (tgt := 77) (by omega) (rng_lit 1 rfl) dX5_move_57 (by decide) (fun h57 => ?_) (fun h57 => ?_)
      · refine g_aload_n (i := 1) (j := 3) dX5_move_77 rfl rfl ?_
        refine g_aload_n (i := 0) (j := 2) dX5_move_78 rfl rfl ?_
        refine g_get fX5_31 rfl rfl dX5_move_79 ?_
        refine g_aload_n (i := 1) (j := 3) dX5_move_82 rfl rfl ?_
        refine g_aload_n (i := 0) (j := 2) dX5_move_83 rfl rfl ?_
        refine g_get fX5_34 rfl rfl dX5_move_84 ?_
        refine g_aload_n (i := 0) (j := 2) dX5_move_87 rfl rfl ?_
        refine g_get fX5_30 rfl rfl dX5_move_88 ?_
        refine c_V (st1 := [.int (nI (sWater la ri (s0 + 1) l0)), .int (nI to), .ref 3]) (ctX1_water (st := s0 + 1) (lo2 := l0) (by omega) (by omega) (by omega) (by omega)) kX1_water lX5_40 (by decide) rfl rfl rfl rfl (by exact Nat.le_of_ble_eq_true rfl) dX5_move_91 rfl rfl ?_
        refine c_V (st1 := [.int (nI (sDepth h to (sWater la ri (s0 + 1) l0)))]) (ctX1_depth (c := to) (w := sWater la ri (s0 + 1) l0) hH (by omega) (by omega)) kX1_depth lX5_48 (by decide) rfl rfl rfl rfl (by exact Nat.le_of_ble_eq_true rfl) dX5_move_94 rfl rfl ?_
        refine g_aload_n (i := 0) (j := 2) dX5_move_97 rfl rfl ?_
        refine g_get fX5_24 rfl rfl dX5_move_98 ?_
        refine n_icmp_le (tgt := 112) (by omega) (by omega) dX5_move_101 (by decide) (fun h101 => ?_) (fun h101 => ?_)
        · refine g_aload_n (i := 0) (j := 2) dX5_move_112 rfl rfl ?_
          refine g_get fX5_31 rfl rfl dX5_move_113 ?_
          refine g_iload_n (i := 3) (j := 1) dX5_move_116 rfl rfl ?_
          refine n_icmp_ne (tgt := 136) (by omega) (by omega) dX5_move_117 (by decide) (fun h117 => ?_) (fun h117 => ?_)
          · refine g_vret rfl dX5_move_136 ?_
            refine gE_i rfl ?_
            rw [hto_] at *
            rw [show sFate h so w0 c0 (sTo h p0 w0 c0 way (sWater la ri s0 l0)) way (sWater la ri (s0 + 1) l0) f0 = f0 by first | (exfalso; omega) | (unfold sFate; rw [if_pos (by omega)]; done) | (unfold sFate; rw [if_neg (by omega), if_pos (by omega)]; done) | (unfold sFate; rw [if_neg (by omega), if_neg (by omega), if_pos (by omega)]; done) | (unfold sFate; rw [if_neg (by omega), if_neg (by omega), if_neg (by omega)]; done)]
          · refine g_aload_n (i := 1) (j := 3) dX5_move_120 rfl rfl ?_
            refine g_aload_n (i := 0) (j := 2) dX5_move_121 rfl rfl ?_
            refine g_get fX5_31 rfl rfl dX5_move_122 ?_
            refine c_V (st1 := [.int (nI (so to))]) (ctX1_isSoft (c := to) hso (by omega)) kX1_isSoft lX5_51 (by decide) rfl rfl rfl rfl (by exact Nat.le_of_ble_eq_true rfl) dX5_move_125 rfl rfl ?_
            refine n_if_eq (tgt := 136) (by omega) dX5_move_128 (by decide) (fun h128 => ?_) (fun h128 => ?_)
            · refine g_vret rfl dX5_move_136 ?_
              refine gE_i rfl ?_
              rw [hto_] at *
              rw [show sFate h so w0 c0 (sTo h p0 w0 c0 way (sWater la ri s0 l0)) way (sWater la ri (s0 + 1) l0) f0 = f0 by first | (exfalso; omega) | (unfold sFate; rw [if_pos (by omega)]; done) | (unfold sFate; rw [if_neg (by omega), if_pos (by omega)]; done) | (unfold sFate; rw [if_neg (by omega), if_neg (by omega), if_pos (by omega)]; done) | (unfold sFate; rw [if_neg (by omega), if_neg (by omega), if_neg (by omega)]; done)]
            · refine g_aload_n (i := 0) (j := 2) dX5_move_131 rfl rfl ?_
              refine g_iconst (v := nI 3) dX5_move_132 (by decide) ?_
              refine n_putI (ws' := wC e0 e1 e2 (kG3 wk tw sf lo ri la) (kI 10 h) (kZ 10 so) e6 e7 e8 e9 e10 e11 e12 e13 e14 e16 e17 e19 e21 e22 (kP p0 w0 l0 to (s0 + 1) 3) e25 e26) fX5_37 fp_X5_5 rfl (by exact Nat.le_of_ble_eq_true rfl) dX5_move_133 rfl ?_
              refine g_vret rfl dX5_move_136 ?_
              refine gE_i rfl ?_
              rw [hto_] at *
              rw [show sFate h so w0 c0 (sTo h p0 w0 c0 way (sWater la ri s0 l0)) way (sWater la ri (s0 + 1) l0) f0 = 3 by first | (exfalso; omega) | (unfold sFate; rw [if_pos (by omega)]; done) | (unfold sFate; rw [if_neg (by omega), if_pos (by omega)]; done) | (unfold sFate; rw [if_neg (by omega), if_neg (by omega), if_pos (by omega)]; done) | (unfold sFate; rw [if_neg (by omega), if_neg (by omega), if_neg (by omega)]; done)]
        · refine g_aload_n (i := 0) (j := 2) dX5_move_104 rfl rfl ?_
          refine g_iconst (v := nI 2) dX5_move_105 (by decide) ?_
          refine n_putI (ws' := wC e0 e1 e2 (kG3 wk tw sf lo ri la) (kI 10 h) (kZ 10 so) e6 e7 e8 e9 e10 e11 e12 e13 e14 e16 e17 e19 e21 e22 (kP p0 w0 l0 to (s0 + 1) 2) e25 e26) fX5_37 fp_X5_5 rfl (by exact Nat.le_of_ble_eq_true rfl) dX5_move_106 rfl ?_
          refine g_goto (tgt := 136) dX5_move_109 (by decide) ?_
          refine g_vret rfl dX5_move_136 ?_
          refine gE_i rfl ?_
          rw [hto_] at *
          rw [show sFate h so w0 c0 (sTo h p0 w0 c0 way (sWater la ri s0 l0)) way (sWater la ri (s0 + 1) l0) f0 = 2 by first | (exfalso; omega) | (unfold sFate; rw [if_pos (by omega)]; done) | (unfold sFate; rw [if_neg (by omega), if_pos (by omega)]; done) | (unfold sFate; rw [if_neg (by omega), if_neg (by omega), if_pos (by omega)]; done) | (unfold sFate; rw [if_neg (by omega), if_neg (by omega), if_neg (by omega)]; done)]
      · refine g_aload_n (i := 0) (j := 2) dX5_move_60 rfl rfl ?_
        refine g_get fX5_31 rfl rfl dX5_move_61 ?_
        refine g_bipush (v := nI 9) dX5_move_64 (by decide) ?_
        refine n_icmp_ne (tgt := 77) (by omega) (rng_lit 9 rfl) dX5_move_66 (by decide) (fun h66 => ?_) (fun h66 => ?_)
        · refine g_aload_n (i := 1) (j := 3) dX5_move_77 rfl rfl ?_
          refine g_aload_n (i := 0) (j := 2) dX5_move_78 rfl rfl ?_
          refine g_get fX5_31 rfl rfl dX5_move_79 ?_
          refine g_aload_n (i := 1) (j := 3) dX5_move_82 rfl rfl ?_
          refine g_aload_n (i := 0) (j := 2) dX5_move_83 rfl rfl ?_
          refine g_get fX5_34 rfl rfl dX5_move_84 ?_
          refine g_aload_n (i := 0) (j := 2) dX5_move_87 rfl rfl ?_
          refine g_get fX5_30 rfl rfl dX5_move_88 ?_
          refine c_V (st1 := [.int (nI (sWater la ri (s0 + 1) l0)), .int (nI to), .ref 3]) (ctX1_water (st := s0 + 1) (lo2 := l0) (by omega) (by omega) (by omega) (by omega)) kX1_water lX5_40 (by decide) rfl rfl rfl rfl (by exact Nat.le_of_ble_eq_true rfl) dX5_move_91 rfl rfl ?_
          refine c_V (st1 := [.int (nI (sDepth h to (sWater la ri (s0 + 1) l0)))]) (ctX1_depth (c := to) (w := sWater la ri (s0 + 1) l0) hH (by omega) (by omega)) kX1_depth lX5_48 (by decide) rfl rfl rfl rfl (by exact Nat.le_of_ble_eq_true rfl) dX5_move_94 rfl rfl ?_
          refine g_aload_n (i := 0) (j := 2) dX5_move_97 rfl rfl ?_
          refine g_get fX5_24 rfl rfl dX5_move_98 ?_
          refine n_icmp_le (tgt := 112) (by omega) (by omega) dX5_move_101 (by decide) (fun h101 => ?_) (fun h101 => ?_)
          · refine g_aload_n (i := 0) (j := 2) dX5_move_112 rfl rfl ?_
            refine g_get fX5_31 rfl rfl dX5_move_113 ?_
            refine g_iload_n (i := 3) (j := 1) dX5_move_116 rfl rfl ?_
            refine n_icmp_ne (tgt := 136) (by omega) (by omega) dX5_move_117 (by decide) (fun h117 => ?_) (fun h117 => ?_)
            · refine g_vret rfl dX5_move_136 ?_
              refine gE_i rfl ?_
              rw [hto_] at *
              rw [show sFate h so w0 c0 (sTo h p0 w0 c0 way (sWater la ri s0 l0)) way (sWater la ri (s0 + 1) l0) f0 = f0 by first | (exfalso; omega) | (unfold sFate; rw [if_pos (by omega)]; done) | (unfold sFate; rw [if_neg (by omega), if_pos (by omega)]; done) | (unfold sFate; rw [if_neg (by omega), if_neg (by omega), if_pos (by omega)]; done) | (unfold sFate; rw [if_neg (by omega), if_neg (by omega), if_neg (by omega)]; done)]
            · refine g_aload_n (i := 1) (j := 3) dX5_move_120 rfl rfl ?_
              refine g_aload_n (i := 0) (j := 2) dX5_move_121 rfl rfl ?_
              refine g_get fX5_31 rfl rfl dX5_move_122 ?_
              refine c_V (st1 := [.int (nI (so to))]) (ctX1_isSoft (c := to) hso (by omega)) kX1_isSoft lX5_51 (by decide) rfl rfl rfl rfl (by exact Nat.le_of_ble_eq_true rfl) dX5_move_125 rfl rfl ?_
              refine n_if_eq (tgt := 136) (by omega) dX5_move_128 (by decide) (fun h128 => ?_) (fun h128 => ?_)
              · refine g_vret rfl dX5_move_136 ?_
                refine gE_i rfl ?_
                rw [hto_] at *
                rw [show sFate h so w0 c0 (sTo h p0 w0 c0 way (sWater la ri s0 l0)) way (sWater la ri (s0 + 1) l0) f0 = f0 by first | (exfalso; omega) | (unfold sFate; rw [if_pos (by omega)]; done) | (unfold sFate; rw [if_neg (by omega), if_pos (by omega)]; done) | (unfold sFate; rw [if_neg (by omega), if_neg (by omega), if_pos (by omega)]; done) | (unfold sFate; rw [if_neg (by omega), if_neg (by omega), if_neg (by omega)]; done)]
              · refine g_aload_n (i := 0) (j := 2) dX5_move_131 rfl rfl ?_
                refine g_iconst (v := nI 3) dX5_move_132 (by decide) ?_
                refine n_putI (ws' := wC e0 e1 e2 (kG3 wk tw sf lo ri la) (kI 10 h) (kZ 10 so) e6 e7 e8 e9 e10 e11 e12 e13 e14 e16 e17 e19 e21 e22 (kP p0 w0 l0 to (s0 + 1) 3) e25 e26) fX5_37 fp_X5_5 rfl (by exact Nat.le_of_ble_eq_true rfl) dX5_move_133 rfl ?_
                refine g_vret rfl dX5_move_136 ?_
                refine gE_i rfl ?_
                rw [hto_] at *
                rw [show sFate h so w0 c0 (sTo h p0 w0 c0 way (sWater la ri s0 l0)) way (sWater la ri (s0 + 1) l0) f0 = 3 by first | (exfalso; omega) | (unfold sFate; rw [if_pos (by omega)]; done) | (unfold sFate; rw [if_neg (by omega), if_pos (by omega)]; done) | (unfold sFate; rw [if_neg (by omega), if_neg (by omega), if_pos (by omega)]; done) | (unfold sFate; rw [if_neg (by omega), if_neg (by omega), if_neg (by omega)]; done)]
          · refine g_aload_n (i := 0) (j := 2) dX5_move_104 rfl rfl ?_
            refine g_iconst (v := nI 2) dX5_move_105 (by decide) ?_
            refine n_putI (ws' := wC e0 e1 e2 (kG3 wk tw sf lo ri la) (kI 10 h) (kZ 10 so) e6 e7 e8 e9 e10 e11 e12 e13 e14 e16 e17 e19 e21 e22 (kP p0 w0 l0 to (s0 + 1) 2) e25 e26) fX5_37 fp_X5_5 rfl (by exact Nat.le_of_ble_eq_true rfl) dX5_move_106 rfl ?_
            refine g_goto (tgt := 136) dX5_move_109 (by decide) ?_
            refine g_vret rfl dX5_move_136 ?_
            refine gE_i rfl ?_
            rw [hto_] at *
            rw [show sFate h so w0 c0 (sTo h p0 w0 c0 way (sWater la ri s0 l0)) way (sWater la ri (s0 + 1) l0) f0 = 2 by first | (exfalso; omega) | (unfold sFate; rw [if_pos (by omega)]; done) | (unfold sFate; rw [if_neg (by omega), if_pos (by omega)]; done) | (unfold sFate; rw [if_neg (by omega), if_neg (by omega), if_pos (by omega)]; done) | (unfold sFate; rw [if_neg (by omega), if_neg (by omega), if_neg (by omega)]; done)]
        · refine g_aload_n (i := 0) (j := 2) dX5_move_69 rfl rfl ?_
          refine g_iconst (v := nI 1) dX5_move_70 (by decide) ?_
          refine n_putI (ws' := wC e0 e1 e2 (kG3 wk tw sf lo ri la) (kI 10 h) (kZ 10 so) e6 e7 e8 e9 e10 e11 e12 e13 e14 e16 e17 e19 e21 e22 (kP p0 w0 l0 to (s0 + 1) 1) e25 e26) fX5_37 fp_X5_5 rfl (by exact Nat.le_of_ble_eq_true rfl) dX5_move_71 rfl ?_
          refine g_goto (tgt := 136) dX5_move_74 (by decide) ?_
          refine g_vret rfl dX5_move_136 ?_
          refine gE_i rfl ?_
          rw [hto_] at *
          rw [show sFate h so w0 c0 (sTo h p0 w0 c0 way (sWater la ri s0 l0)) way (sWater la ri (s0 + 1) l0) f0 = 1 by first | (exfalso; omega) | (unfold sFate; rw [if_pos (by omega)]; done) | (unfold sFate; rw [if_neg (by omega), if_pos (by omega)]; done) | (unfold sFate; rw [if_neg (by omega), if_neg (by omega), if_pos (by omega)]; done) | (unfold sFate; rw [if_neg (by omega), if_neg (by omega), if_neg (by omega)]; done)]
    · refine g_aload_n (i := 0) (j := 2) dX5_move_37 rfl rfl ?_
      refine g_aload_n (i := 1) (j := 3) dX5_move_38 rfl rfl ?_
      refine g_iload (j := 0) dX5_move_39 rfl ?_
      refine g_iconst (v := (-1)) dX5_move_41 (by decide) ?_
      refine c_V (st1 := []) (ctX5_goAlong_bk (w := sWater la ri s0 l0) hH (by omega) (by omega) (by first | exact sWater_le _ _ _ _ | omega) (by first | omega | exact sOn_le _ _ _ _ _ (by omega))) kX5_goAlong lX5_44 (by decide) rfl rfl rfl rfl (by exact Nat.le_of_ble_eq_true rfl) dX5_move_42 rfl rfl ?_
      have hto : sBk h w0 (sWater la ri s0 l0) (sPace h p0 c0 (sWater la ri s0 l0)) c0 = sTo h p0 w0 c0 way (sWater la ri s0 l0) := by first | (exfalso; omega) | (unfold sTo; rw [if_pos (by omega)]; done) | (unfold sTo; rw [if_neg (by omega), if_pos (by omega)]; done) | (unfold sTo; rw [if_neg (by omega), if_neg (by omega)]; done)
      refine g_ws (ws' := wC e0 e1 e2 (kG3 wk tw sf lo ri la) (kI 10 h) (kZ 10 so) e6 e7 e8 e9 e10 e11 e12 e13 e14 e16 e17 e19 e21 e22 (kP p0 w0 l0 to s0 f0) e25 e26) (by rw [hto, ← hto_]) ?_
      refine g_aload_n (i := 0) (j := 2) dX5_move_45 rfl rfl ?_
      refine g_dup dX5_move_46 rfl ?_
      refine g_get fX5_34 rfl rfl dX5_move_47 ?_
      refine g_iconst (v := nI 1) dX5_move_50 (by decide) ?_
      refine n_iadd (a := s0) (b := 1) dX5_move_51 ?_
      refine n_putI (ws' := wC e0 e1 e2 (kG3 wk tw sf lo ri la) (kI 10 h) (kZ 10 so) e6 e7 e8 e9 e10 e11 e12 e13 e14 e16 e17 e19 e21 e22 (kP p0 w0 l0 to (s0 + 1) f0) e25 e26) fX5_34 fp_X5_4 rfl (by exact Nat.le_of_ble_eq_true rfl) dX5_move_52 rfl ?_
      refine g_iload_n (i := 2) (j := 4) dX5_move_55 rfl rfl ?_
      refine g_iconst (v := nI 1) dX5_move_56 (by decide) ?_
      refine n_icmp_ne (tgt := 77) (by omega) (rng_lit 1 rfl) dX5_move_57 (by decide) (fun h57 => ?_) (fun h57 => ?_)
      · refine g_aload_n (i := 1) (j := 3) dX5_move_77 rfl rfl ?_
        refine g_aload_n (i := 0) (j := 2) dX5_move_78 rfl rfl ?_
        refine g_get fX5_31 rfl rfl dX5_move_79 ?_
        refine g_aload_n (i := 1) (j := 3) dX5_move_82 rfl rfl ?_
        refine g_aload_n (i := 0) (j := 2) dX5_move_83 rfl rfl ?_
        refine g_get fX5_34 rfl rfl dX5_move_84 ?_
        refine g_aload_n (i := 0) (j := 2) dX5_move_87 rfl rfl ?_
        refine g_get fX5_30 rfl rfl dX5_move_88 ?_
        refine c_V (st1 := [.int (nI (sWater la ri (s0 + 1) l0)), .int (nI to), .ref 3]) (ctX1_water (st := s0 + 1) (lo2 := l0) (by omega) (by omega) (by omega) (by omega)) kX1_water lX5_40 (by decide) rfl rfl rfl rfl (by exact Nat.le_of_ble_eq_true rfl) dX5_move_91 rfl rfl ?_
        refine c_V (st1 := [.int (nI (sDepth h to (sWater la ri (s0 + 1) l0)))]) (ctX1_depth (c := to) (w := sWater la ri (s0 + 1) l0) hH (by omega) (by omega)) kX1_depth lX5_48 (by decide) rfl rfl rfl rfl (by exact Nat.le_of_ble_eq_true rfl) dX5_move_94 rfl rfl ?_
        refine g_aload_n (i := 0) (j := 2) dX5_move_97 rfl rfl ?_
        refine g_get fX5_24 rfl rfl dX5_move_98 ?_
        refine n_icmp_le (tgt := 112) (by omega) (by omega) dX5_move_101 (by decide) (fun h101 => ?_) (fun h101 => ?_)
        · refine g_aload_n (i := 0) (j := 2) dX5_move_112 rfl rfl ?_
          refine g_get fX5_31 rfl rfl dX5_move_113 ?_
          refine g_iload_n (i := 3) (j := 1) dX5_move_116 rfl rfl ?_
          refine n_icmp_ne (tgt := 136) (by omega) (by omega) dX5_move_117 (by decide) (fun h117 => ?_) (fun h117 => ?_)
          · refine g_vret rfl dX5_move_136 ?_
            refine gE_i rfl ?_
            rw [hto_] at *
            rw [show sFate h so w0 c0 (sTo h p0 w0 c0 way (sWater la ri s0 l0)) way (sWater la ri (s0 + 1) l0) f0 = f0 by first | (exfalso; omega) | (unfold sFate; rw [if_pos (by omega)]; done) | (unfold sFate; rw [if_neg (by omega), if_pos (by omega)]; done) | (unfold sFate; rw [if_neg (by omega), if_neg (by omega), if_pos (by omega)]; done) | (unfold sFate; rw [if_neg (by omega), if_neg (by omega), if_neg (by omega)]; done)]
          · refine g_aload_n (i := 1) (j := 3) dX5_move_120 rfl rfl ?_
            refine g_aload_n (i := 0) (j := 2) dX5_move_121 rfl rfl ?_
            refine g_get fX5_31 rfl rfl dX5_move_122 ?_
            refine c_V (st1 := [.int (nI (so to))]) (ctX1_isSoft (c := to) hso (by omega)) kX1_isSoft lX5_51 (by decide) rfl rfl rfl rfl (by exact Nat.le_of_ble_eq_true rfl) dX5_move_125 rfl rfl ?_
            refine n_if_eq (tgt := 136) (by omega) dX5_move_128 (by decide) (fun h128 => ?_) (fun h128 => ?_)
            · refine g_vret rfl dX5_move_136 ?_
              refine gE_i rfl ?_
              rw [hto_] at *
              rw [show sFate h so w0 c0 (sTo h p0 w0 c0 way (sWater la ri s0 l0)) way (sWater la ri (s0 + 1) l0) f0 = f0 by first | (exfalso; omega) | (unfold sFate; rw [if_pos (by omega)]; done) | (unfold sFate; rw [if_neg (by omega), if_pos (by omega)]; done) | (unfold sFate; rw [if_neg (by omega), if_neg (by omega), if_pos (by omega)]; done) | (unfold sFate; rw [if_neg (by omega), if_neg (by omega), if_neg (by omega)]; done)]
            · refine g_aload_n (i := 0) (j := 2) dX5_move_131 rfl rfl ?_
              refine g_iconst (v := nI 3) dX5_move_132 (by decide) ?_
              refine n_putI (ws' := wC e0 e1 e2 (kG3 wk tw sf lo ri la) (kI 10 h) (kZ 10 so) e6 e7 e8 e9 e10 e11 e12 e13 e14 e16 e17 e19 e21 e22 (kP p0 w0 l0 to (s0 + 1) 3) e25 e26) fX5_37 fp_X5_5 rfl (by exact Nat.le_of_ble_eq_true rfl) dX5_move_133 rfl ?_
              refine g_vret rfl dX5_move_136 ?_
              refine gE_i rfl ?_
              rw [hto_] at *
              rw [show sFate h so w0 c0 (sTo h p0 w0 c0 way (sWater la ri s0 l0)) way (sWater la ri (s0 + 1) l0) f0 = 3 by first | (exfalso; omega) | (unfold sFate; rw [if_pos (by omega)]; done) | (unfold sFate; rw [if_neg (by omega), if_pos (by omega)]; done) | (unfold sFate; rw [if_neg (by omega), if_neg (by omega), if_pos (by omega)]; done) | (unfold sFate; rw [if_neg (by omega), if_neg (by omega), if_neg (by omega)]; done)]
        · refine g_aload_n (i := 0) (j := 2) dX5_move_104 rfl rfl ?_
          refine g_iconst (v := nI 2) dX5_move_105 (by decide) ?_
          refine n_putI (ws' := wC e0 e1 e2 (kG3 wk tw sf lo ri la) (kI 10 h) (kZ 10 so) e6 e7 e8 e9 e10 e11 e12 e13 e14 e16 e17 e19 e21 e22 (kP p0 w0 l0 to (s0 + 1) 2) e25 e26) fX5_37 fp_X5_5 rfl (by exact Nat.le_of_ble_eq_true rfl) dX5_move_106 rfl ?_
          refine g_goto (tgt := 136) dX5_move_109 (by decide) ?_
          refine g_vret rfl dX5_move_136 ?_
          refine gE_i rfl ?_
          rw [hto_] at *
          rw [show sFate h so w0 c0 (sTo h p0 w0 c0 way (sWater la ri s0 l0)) way (sWater la ri (s0 + 1) l0) f0 = 2 by first | (exfalso; omega) | (unfold sFate; rw [if_pos (by omega)]; done) | (unfold sFate; rw [if_neg (by omega), if_pos (by omega)]; done) | (unfold sFate; rw [if_neg (by omega), if_neg (by omega), if_pos (by omega)]; done) | (unfold sFate; rw [if_neg (by omega), if_neg (by omega), if_neg (by omega)]; done)]
      · refine g_aload_n (i := 0) (j := 2) dX5_move_60 rfl rfl ?_
        refine g_get fX5_31 rfl rfl dX5_move_61 ?_
        refine g_bipush (v := nI 9) dX5_move_64 (by decide) ?_
        refine n_icmp_ne (tgt := 77) (by omega) (rng_lit 9 rfl) dX5_move_66 (by decide) (fun h66 => ?_) (fun h66 => ?_)
        · refine g_aload_n (i := 1) (j := 3) dX5_move_77 rfl rfl ?_
          refine g_aload_n (i := 0) (j := 2) dX5_move_78 rfl rfl ?_
          refine g_get fX5_31 rfl rfl dX5_move_79 ?_
          refine g_aload_n (i := 1) (j := 3) dX5_move_82 rfl rfl ?_
          refine g_aload_n (i := 0) (j := 2) dX5_move_83 rfl rfl ?_
          refine g_get fX5_34 rfl rfl dX5_move_84 ?_
          refine g_aload_n (i := 0) (j := 2) dX5_move_87 rfl rfl ?_
          refine g_get fX5_30 rfl rfl dX5_move_88 ?_
          refine c_V (st1 := [.int (nI (sWater la ri (s0 + 1) l0)), .int (nI to), .ref 3]) (ctX1_water (st := s0 + 1) (lo2 := l0) (by omega) (by omega) (by omega) (by omega)) kX1_water lX5_40 (by decide) rfl rfl rfl rfl (by exact Nat.le_of_ble_eq_true rfl) dX5_move_91 rfl rfl ?_
          refine c_V (st1 := [.int (nI (sDepth h to (sWater la ri (s0 + 1) l0)))]) (ctX1_depth (c := to) (w := sWater la ri (s0 + 1) l0) hH (by omega) (by omega)) kX1_depth lX5_48 (by decide) rfl rfl rfl rfl (by exact Nat.le_of_ble_eq_true rfl) dX5_move_94 rfl rfl ?_
          refine g_aload_n (i := 0) (j := 2) dX5_move_97 rfl rfl ?_
          refine g_get fX5_24 rfl rfl dX5_move_98 ?_
          refine n_icmp_le (tgt := 112) (by omega) (by omega) dX5_move_101 (by decide) (fun h101 => ?_) (fun h101 => ?_)
          · refine g_aload_n (i := 0) (j := 2) dX5_move_112 rfl rfl ?_
            refine g_get fX5_31 rfl rfl dX5_move_113 ?_
            refine g_iload_n (i := 3) (j := 1) dX5_move_116 rfl rfl ?_
            refine n_icmp_ne (tgt := 136) (by omega) (by omega) dX5_move_117 (by decide) (fun h117 => ?_) (fun h117 => ?_)
            · refine g_vret rfl dX5_move_136 ?_
              refine gE_i rfl ?_
              rw [hto_] at *
              rw [show sFate h so w0 c0 (sTo h p0 w0 c0 way (sWater la ri s0 l0)) way (sWater la ri (s0 + 1) l0) f0 = f0 by first | (exfalso; omega) | (unfold sFate; rw [if_pos (by omega)]; done) | (unfold sFate; rw [if_neg (by omega), if_pos (by omega)]; done) | (unfold sFate; rw [if_neg (by omega), if_neg (by omega), if_pos (by omega)]; done) | (unfold sFate; rw [if_neg (by omega), if_neg (by omega), if_neg (by omega)]; done)]
            · refine g_aload_n (i := 1) (j := 3) dX5_move_120 rfl rfl ?_
              refine g_aload_n (i := 0) (j := 2) dX5_move_121 rfl rfl ?_
              refine g_get fX5_31 rfl rfl dX5_move_122 ?_
              refine c_V (st1 := [.int (nI (so to))]) (ctX1_isSoft (c := to) hso (by omega)) kX1_isSoft lX5_51 (by decide) rfl rfl rfl rfl (by exact Nat.le_of_ble_eq_true rfl) dX5_move_125 rfl rfl ?_
              refine n_if_eq (tgt := 136) (by omega) dX5_move_128 (by decide) (fun h128 => ?_) (fun h128 => ?_)
              · refine g_vret rfl dX5_move_136 ?_
                refine gE_i rfl ?_
                rw [hto_] at *
                rw [show sFate h so w0 c0 (sTo h p0 w0 c0 way (sWater la ri s0 l0)) way (sWater la ri (s0 + 1) l0) f0 = f0 by first | (exfalso; omega) | (unfold sFate; rw [if_pos (by omega)]; done) | (unfold sFate; rw [if_neg (by omega), if_pos (by omega)]; done) | (unfold sFate; rw [if_neg (by omega), if_neg (by omega), if_pos (by omega)]; done) | (unfold sFate; rw [if_neg (by omega), if_neg (by omega), if_neg (by omega)]; done)]
              · refine g_aload_n (i := 0) (j := 2) dX5_move_131 rfl rfl ?_
                refine g_iconst (v := nI 3) dX5_move_132 (by decide) ?_
                refine n_putI (ws' := wC e0 e1 e2 (kG3 wk tw sf lo ri la) (kI 10 h) (kZ 10 so) e6 e7 e8 e9 e10 e11 e12 e13 e14 e16 e17 e19 e21 e22 (kP p0 w0 l0 to (s0 + 1) 3) e25 e26) fX5_37 fp_X5_5 rfl (by exact Nat.le_of_ble_eq_true rfl) dX5_move_133 rfl ?_
                refine g_vret rfl dX5_move_136 ?_
                refine gE_i rfl ?_
                rw [hto_] at *
                rw [show sFate h so w0 c0 (sTo h p0 w0 c0 way (sWater la ri s0 l0)) way (sWater la ri (s0 + 1) l0) f0 = 3 by first | (exfalso; omega) | (unfold sFate; rw [if_pos (by omega)]; done) | (unfold sFate; rw [if_neg (by omega), if_pos (by omega)]; done) | (unfold sFate; rw [if_neg (by omega), if_neg (by omega), if_pos (by omega)]; done) | (unfold sFate; rw [if_neg (by omega), if_neg (by omega), if_neg (by omega)]; done)]
          · refine g_aload_n (i := 0) (j := 2) dX5_move_104 rfl rfl ?_
            refine g_iconst (v := nI 2) dX5_move_105 (by decide) ?_
            refine n_putI (ws' := wC e0 e1 e2 (kG3 wk tw sf lo ri la) (kI 10 h) (kZ 10 so) e6 e7 e8 e9 e10 e11 e12 e13 e14 e16 e17 e19 e21 e22 (kP p0 w0 l0 to (s0 + 1) 2) e25 e26) fX5_37 fp_X5_5 rfl (by exact Nat.le_of_ble_eq_true rfl) dX5_move_106 rfl ?_
            refine g_goto (tgt := 136) dX5_move_109 (by decide) ?_
            refine g_vret rfl dX5_move_136 ?_
            refine gE_i rfl ?_
            rw [hto_] at *
            rw [show sFate h so w0 c0 (sTo h p0 w0 c0 way (sWater la ri s0 l0)) way (sWater la ri (s0 + 1) l0) f0 = 2 by first | (exfalso; omega) | (unfold sFate; rw [if_pos (by omega)]; done) | (unfold sFate; rw [if_neg (by omega), if_pos (by omega)]; done) | (unfold sFate; rw [if_neg (by omega), if_neg (by omega), if_pos (by omega)]; done) | (unfold sFate; rw [if_neg (by omega), if_neg (by omega), if_neg (by omega)]; done)]
        · refine g_aload_n (i := 0) (j := 2) dX5_move_69 rfl rfl ?_
          refine g_iconst (v := nI 1) dX5_move_70 (by decide) ?_
          refine n_putI (ws' := wC e0 e1 e2 (kG3 wk tw sf lo ri la) (kI 10 h) (kZ 10 so) e6 e7 e8 e9 e10 e11 e12 e13 e14 e16 e17 e19 e21 e22 (kP p0 w0 l0 to (s0 + 1) 1) e25 e26) fX5_37 fp_X5_5 rfl (by exact Nat.le_of_ble_eq_true rfl) dX5_move_71 rfl ?_
          refine g_goto (tgt := 136) dX5_move_74 (by decide) ?_
          refine g_vret rfl dX5_move_136 ?_
          refine gE_i rfl ?_
          rw [hto_] at *
          rw [show sFate h so w0 c0 (sTo h p0 w0 c0 way (sWater la ri s0 l0)) way (sWater la ri (s0 + 1) l0) f0 = 1 by first | (exfalso; omega) | (unfold sFate; rw [if_pos (by omega)]; done) | (unfold sFate; rw [if_neg (by omega), if_pos (by omega)]; done) | (unfold sFate; rw [if_neg (by omega), if_neg (by omega), if_pos (by omega)]; done) | (unfold sFate; rw [if_neg (by omega), if_neg (by omega), if_neg (by omega)]; done)]
  · refine g_aload_n (i := 0) (j := 2) dX5_move_24 rfl rfl ?_
    refine g_aload_n (i := 1) (j := 3) dX5_move_25 rfl rfl ?_
    refine g_iload (j := 0) dX5_move_26 rfl ?_
    refine g_iconst (v := nI 1) dX5_move_28 (by decide) ?_
    refine c_V (st1 := []) (ctX5_goAlong_on (w := sWater la ri s0 l0) hH (by omega) (by omega) (by first | exact sWater_le _ _ _ _ | omega) (by first | omega | exact sOn_le _ _ _ _ _ (by omega))) kX5_goAlong lX5_44 (by decide) rfl rfl rfl rfl (by exact Nat.le_of_ble_eq_true rfl) dX5_move_29 rfl rfl ?_
    refine g_iload_n (i := 2) (j := 4) dX5_move_32 rfl rfl ?_
    refine g_iconst (v := nI 2) dX5_move_33 (by decide) ?_
    refine n_icmp_ne (tgt := 45) (by omega) (rng_lit 2 rfl) dX5_move_34 (by decide) (fun h34 => ?_) (fun h34 => ?_)
    · have hto : sOn h w0 (sWater la ri s0 l0) (sPace h p0 c0 (sWater la ri s0 l0)) c0 = sTo h p0 w0 c0 way (sWater la ri s0 l0) := by first | (exfalso; omega) | (unfold sTo; rw [if_pos (by omega)]; done) | (unfold sTo; rw [if_neg (by omega), if_pos (by omega)]; done) | (unfold sTo; rw [if_neg (by omega), if_neg (by omega)]; done)
      refine g_ws (ws' := wC e0 e1 e2 (kG3 wk tw sf lo ri la) (kI 10 h) (kZ 10 so) e6 e7 e8 e9 e10 e11 e12 e13 e14 e16 e17 e19 e21 e22 (kP p0 w0 l0 to s0 f0) e25 e26) (by rw [hto, ← hto_]) ?_
      refine g_aload_n (i := 0) (j := 2) dX5_move_45 rfl rfl ?_
      refine g_dup dX5_move_46 rfl ?_
      refine g_get fX5_34 rfl rfl dX5_move_47 ?_
      refine g_iconst (v := nI 1) dX5_move_50 (by decide) ?_
      refine n_iadd (a := s0) (b := 1) dX5_move_51 ?_
      refine n_putI (ws' := wC e0 e1 e2 (kG3 wk tw sf lo ri la) (kI 10 h) (kZ 10 so) e6 e7 e8 e9 e10 e11 e12 e13 e14 e16 e17 e19 e21 e22 (kP p0 w0 l0 to (s0 + 1) f0) e25 e26) fX5_34 fp_X5_4 rfl (by exact Nat.le_of_ble_eq_true rfl) dX5_move_52 rfl ?_
      refine g_iload_n (i := 2) (j := 4) dX5_move_55 rfl rfl ?_
      refine g_iconst (v := nI 1) dX5_move_56 (by decide) ?_
      refine n_icmp_ne (tgt := 77) (by omega) (rng_lit 1 rfl) dX5_move_57 (by decide) (fun h57 => ?_) (fun h57 => ?_)
      · refine g_aload_n (i := 1) (j := 3) dX5_move_77 rfl rfl ?_
        refine g_aload_n (i := 0) (j := 2) dX5_move_78 rfl rfl ?_
        refine g_get fX5_31 rfl rfl dX5_move_79 ?_
        refine g_aload_n (i := 1) (j := 3) dX5_move_82 rfl rfl ?_
        refine g_aload_n (i := 0) (j := 2) dX5_move_83 rfl rfl ?_
        refine g_get fX5_34 rfl rfl dX5_move_84 ?_
        refine g_aload_n (i := 0) (j := 2) dX5_move_87 rfl rfl ?_
        refine g_get fX5_30 rfl rfl dX5_move_88 ?_
        refine c_V (st1 := [.int (nI (sWater la ri (s0 + 1) l0)), .int (nI to), .ref 3]) (ctX1_water (st := s0 + 1) (lo2 := l0) (by omega) (by omega) (by omega) (by omega)) kX1_water lX5_40 (by decide) rfl rfl rfl rfl (by exact Nat.le_of_ble_eq_true rfl) dX5_move_91 rfl rfl ?_
        refine c_V (st1 := [.int (nI (sDepth h to (sWater la ri (s0 + 1) l0)))]) (ctX1_depth (c := to) (w := sWater la ri (s0 + 1) l0) hH (by omega) (by omega)) kX1_depth lX5_48 (by decide) rfl rfl rfl rfl (by exact Nat.le_of_ble_eq_true rfl) dX5_move_94 rfl rfl ?_
        refine g_aload_n (i := 0) (j := 2) dX5_move_97 rfl rfl ?_
        refine g_get fX5_24 rfl rfl dX5_move_98 ?_
        refine n_icmp_le (tgt := 112) (by omega) (by omega) dX5_move_101 (by decide) (fun h101 => ?_) (fun h101 => ?_)
        · refine g_aload_n (i := 0) (j := 2) dX5_move_112 rfl rfl ?_
          refine g_get fX5_31 rfl rfl dX5_move_113 ?_
          refine g_iload_n (i := 3) (j := 1) dX5_move_116 rfl rfl ?_
          refine n_icmp_ne (tgt := 136) (by omega) (by omega) dX5_move_117 (by decide) (fun h117 => ?_) (fun h117 => ?_)
          · refine g_vret rfl dX5_move_136 ?_
            refine gE_i rfl ?_
            rw [hto_] at *
            rw [show sFate h so w0 c0 (sTo h p0 w0 c0 way (sWater la ri s0 l0)) way (sWater la ri (s0 + 1) l0) f0 = f0 by first | (exfalso; omega) | (unfold sFate; rw [if_pos (by omega)]; done) | (unfold sFate; rw [if_neg (by omega), if_pos (by omega)]; done) | (unfold sFate; rw [if_neg (by omega), if_neg (by omega), if_pos (by omega)]; done) | (unfold sFate; rw [if_neg (by omega), if_neg (by omega), if_neg (by omega)]; done)]
          · refine g_aload_n (i := 1) (j := 3) dX5_move_120 rfl rfl ?_
            refine g_aload_n (i := 0) (j := 2) dX5_move_121 rfl rfl ?_
            refine g_get fX5_31 rfl rfl dX5_move_122 ?_
            refine c_V (st1 := [.int (nI (so to))]) (ctX1_isSoft (c := to) hso (by omega)) kX1_isSoft lX5_51 (by decide) rfl rfl rfl rfl (by exact Nat.le_of_ble_eq_true rfl) dX5_move_125 rfl rfl ?_
            refine n_if_eq (tgt := 136) (by omega) dX5_move_128 (by decide) (fun h128 => ?_) (fun h128 => ?_)
            · refine g_vret rfl dX5_move_136 ?_
              refine gE_i rfl ?_
              rw [hto_] at *
              rw [show sFate h so w0 c0 (sTo h p0 w0 c0 way (sWater la ri s0 l0)) way (sWater la ri (s0 + 1) l0) f0 = f0 by first | (exfalso; omega) | (unfold sFate; rw [if_pos (by omega)]; done) | (unfold sFate; rw [if_neg (by omega), if_pos (by omega)]; done) | (unfold sFate; rw [if_neg (by omega), if_neg (by omega), if_pos (by omega)]; done) | (unfold sFate; rw [if_neg (by omega), if_neg (by omega), if_neg (by omega)]; done)]
            · refine g_aload_n (i := 0) (j := 2) dX5_move_131 rfl rfl ?_
              refine g_iconst (v := nI 3) dX5_move_132 (by decide) ?_
              refine n_putI (ws' := wC e0 e1 e2 (kG3 wk tw sf lo ri la) (kI 10 h) (kZ 10 so) e6 e7 e8 e9 e10 e11 e12 e13 e14 e16 e17 e19 e21 e22 (kP p0 w0 l0 to (s0 + 1) 3) e25 e26) fX5_37 fp_X5_5 rfl (by exact Nat.le_of_ble_eq_true rfl) dX5_move_133 rfl ?_
              refine g_vret rfl dX5_move_136 ?_
              refine gE_i rfl ?_
              rw [hto_] at *
              rw [show sFate h so w0 c0 (sTo h p0 w0 c0 way (sWater la ri s0 l0)) way (sWater la ri (s0 + 1) l0) f0 = 3 by first | (exfalso; omega) | (unfold sFate; rw [if_pos (by omega)]; done) | (unfold sFate; rw [if_neg (by omega), if_pos (by omega)]; done) | (unfold sFate; rw [if_neg (by omega), if_neg (by omega), if_pos (by omega)]; done) | (unfold sFate; rw [if_neg (by omega), if_neg (by omega), if_neg (by omega)]; done)]
        · refine g_aload_n (i := 0) (j := 2) dX5_move_104 rfl rfl ?_
          refine g_iconst (v := nI 2) dX5_move_105 (by decide) ?_
          refine n_putI (ws' := wC e0 e1 e2 (kG3 wk tw sf lo ri la) (kI 10 h) (kZ 10 so) e6 e7 e8 e9 e10 e11 e12 e13 e14 e16 e17 e19 e21 e22 (kP p0 w0 l0 to (s0 + 1) 2) e25 e26) fX5_37 fp_X5_5 rfl (by exact Nat.le_of_ble_eq_true rfl) dX5_move_106 rfl ?_
          refine g_goto (tgt := 136) dX5_move_109 (by decide) ?_
          refine g_vret rfl dX5_move_136 ?_
          refine gE_i rfl ?_
          rw [hto_] at *
          rw [show sFate h so w0 c0 (sTo h p0 w0 c0 way (sWater la ri s0 l0)) way (sWater la ri (s0 + 1) l0) f0 = 2 by first | (exfalso; omega) | (unfold sFate; rw [if_pos (by omega)]; done) | (unfold sFate; rw [if_neg (by omega), if_pos (by omega)]; done) | (unfold sFate; rw [if_neg (by omega), if_neg (by omega), if_pos (by omega)]; done) | (unfold sFate; rw [if_neg (by omega), if_neg (by omega), if_neg (by omega)]; done)]
      · refine g_aload_n (i := 0) (j := 2) dX5_move_60 rfl rfl ?_
        refine g_get fX5_31 rfl rfl dX5_move_61 ?_
        refine g_bipush (v := nI 9) dX5_move_64 (by decide) ?_
        refine n_icmp_ne (tgt := 77) (by omega) (rng_lit 9 rfl) dX5_move_66 (by decide) (fun h66 => ?_) (fun h66 => ?_)
        · refine g_aload_n (i := 1) (j := 3) dX5_move_77 rfl rfl ?_
          refine g_aload_n (i := 0) (j := 2) dX5_move_78 rfl rfl ?_
          refine g_get fX5_31 rfl rfl dX5_move_79 ?_
          refine g_aload_n (i := 1) (j := 3) dX5_move_82 rfl rfl ?_
          refine g_aload_n (i := 0) (j := 2) dX5_move_83 rfl rfl ?_
          refine g_get fX5_34 rfl rfl dX5_move_84 ?_
          refine g_aload_n (i := 0) (j := 2) dX5_move_87 rfl rfl ?_
          refine g_get fX5_30 rfl rfl dX5_move_88 ?_
          refine c_V (st1 := [.int (nI (sWater la ri (s0 + 1) l0)), .int (nI to), .ref 3]) (ctX1_water (st := s0 + 1) (lo2 := l0) (by omega) (by omega) (by omega) (by omega)) kX1_water lX5_40 (by decide) rfl rfl rfl rfl (by exact Nat.le_of_ble_eq_true rfl) dX5_move_91 rfl rfl ?_
          refine c_V (st1 := [.int (nI (sDepth h to (sWater la ri (s0 + 1) l0)))]) (ctX1_depth (c := to) (w := sWater la ri (s0 + 1) l0) hH (by omega) (by omega)) kX1_depth lX5_48 (by decide) rfl rfl rfl rfl (by exact Nat.le_of_ble_eq_true rfl) dX5_move_94 rfl rfl ?_
          refine g_aload_n (i := 0) (j := 2) dX5_move_97 rfl rfl ?_
          refine g_get fX5_24 rfl rfl dX5_move_98 ?_
          refine n_icmp_le (tgt := 112) (by omega) (by omega) dX5_move_101 (by decide) (fun h101 => ?_) (fun h101 => ?_)
          · refine g_aload_n (i := 0) (j := 2) dX5_move_112 rfl rfl ?_
            refine g_get fX5_31 rfl rfl dX5_move_113 ?_
            refine g_iload_n (i := 3) (j := 1) dX5_move_116 rfl rfl ?_
            refine n_icmp_ne (tgt := 136) (by omega) (by omega) dX5_move_117 (by decide) (fun h117 => ?_) (fun h117 => ?_)
            · refine g_vret rfl dX5_move_136 ?_
              refine gE_i rfl ?_
              rw [hto_] at *
              rw [show sFate h so w0 c0 (sTo h p0 w0 c0 way (sWater la ri s0 l0)) way (sWater la ri (s0 + 1) l0) f0 = f0 by first | (exfalso; omega) | (unfold sFate; rw [if_pos (by omega)]; done) | (unfold sFate; rw [if_neg (by omega), if_pos (by omega)]; done) | (unfold sFate; rw [if_neg (by omega), if_neg (by omega), if_pos (by omega)]; done) | (unfold sFate; rw [if_neg (by omega), if_neg (by omega), if_neg (by omega)]; done)]
            · refine g_aload_n (i := 1) (j := 3) dX5_move_120 rfl rfl ?_
              refine g_aload_n (i := 0) (j := 2) dX5_move_121 rfl rfl ?_
              refine g_get fX5_31 rfl rfl dX5_move_122 ?_
              refine c_V (st1 := [.int (nI (so to))]) (ctX1_isSoft (c := to) hso (by omega)) kX1_isSoft lX5_51 (by decide) rfl rfl rfl rfl (by exact Nat.le_of_ble_eq_true rfl) dX5_move_125 rfl rfl ?_
              refine n_if_eq (tgt := 136) (by omega) dX5_move_128 (by decide) (fun h128 => ?_) (fun h128 => ?_)
              · refine g_vret rfl dX5_move_136 ?_
                refine gE_i rfl ?_
                rw [hto_] at *
                rw [show sFate h so w0 c0 (sTo h p0 w0 c0 way (sWater la ri s0 l0)) way (sWater la ri (s0 + 1) l0) f0 = f0 by first | (exfalso; omega) | (unfold sFate; rw [if_pos (by omega)]; done) | (unfold sFate; rw [if_neg (by omega), if_pos (by omega)]; done) | (unfold sFate; rw [if_neg (by omega), if_neg (by omega), if_pos (by omega)]; done) | (unfold sFate; rw [if_neg (by omega), if_neg (by omega), if_neg (by omega)]; done)]
              · refine g_aload_n (i := 0) (j := 2) dX5_move_131 rfl rfl ?_
                refine g_iconst (v := nI 3) dX5_move_132 (by decide) ?_
                refine n_putI (ws' := wC e0 e1 e2 (kG3 wk tw sf lo ri la) (kI 10 h) (kZ 10 so) e6 e7 e8 e9 e10 e11 e12 e13 e14 e16 e17 e19 e21 e22 (kP p0 w0 l0 to (s0 + 1) 3) e25 e26) fX5_37 fp_X5_5 rfl (by exact Nat.le_of_ble_eq_true rfl) dX5_move_133 rfl ?_
                refine g_vret rfl dX5_move_136 ?_
                refine gE_i rfl ?_
                rw [hto_] at *
                rw [show sFate h so w0 c0 (sTo h p0 w0 c0 way (sWater la ri s0 l0)) way (sWater la ri (s0 + 1) l0) f0 = 3 by first | (exfalso; omega) | (unfold sFate; rw [if_pos (by omega)]; done) | (unfold sFate; rw [if_neg (by omega), if_pos (by omega)]; done) | (unfold sFate; rw [if_neg (by omega), if_neg (by omega), if_pos (by omega)]; done) | (unfold sFate; rw [if_neg (by omega), if_neg (by omega), if_neg (by omega)]; done)]
          · refine g_aload_n (i := 0) (j := 2) dX5_move_104 rfl rfl ?_
            refine g_iconst (v := nI 2) dX5_move_105 (by decide) ?_
            refine n_putI (ws' := wC e0 e1 e2 (kG3 wk tw sf lo ri la) (kI 10 h) (kZ 10 so) e6 e7 e8 e9 e10 e11 e12 e13 e14 e16 e17 e19 e21 e22 (kP p0 w0 l0 to (s0 + 1) 2) e25 e26) fX5_37 fp_X5_5 rfl (by exact Nat.le_of_ble_eq_true rfl) dX5_move_106 rfl ?_
            refine g_goto (tgt := 136) dX5_move_109 (by decide) ?_
            refine g_vret rfl dX5_move_136 ?_
            refine gE_i rfl ?_
            rw [hto_] at *
            rw [show sFate h so w0 c0 (sTo h p0 w0 c0 way (sWater la ri s0 l0)) way (sWater la ri (s0 + 1) l0) f0 = 2 by first | (exfalso; omega) | (unfold sFate; rw [if_pos (by omega)]; done) | (unfold sFate; rw [if_neg (by omega), if_pos (by omega)]; done) | (unfold sFate; rw [if_neg (by omega), if_neg (by omega), if_pos (by omega)]; done) | (unfold sFate; rw [if_neg (by omega), if_neg (by omega), if_neg (by omega)]; done)]
        · refine g_aload_n (i := 0) (j := 2) dX5_move_69 rfl rfl ?_
          refine g_iconst (v := nI 1) dX5_move_70 (by decide) ?_
          refine n_putI (ws' := wC e0 e1 e2 (kG3 wk tw sf lo ri la) (kI 10 h) (kZ 10 so) e6 e7 e8 e9 e10 e11 e12 e13 e14 e16 e17 e19 e21 e22 (kP p0 w0 l0 to (s0 + 1) 1) e25 e26) fX5_37 fp_X5_5 rfl (by exact Nat.le_of_ble_eq_true rfl) dX5_move_71 rfl ?_
          refine g_goto (tgt := 136) dX5_move_74 (by decide) ?_
          refine g_vret rfl dX5_move_136 ?_
          refine gE_i rfl ?_
          rw [hto_] at *
          rw [show sFate h so w0 c0 (sTo h p0 w0 c0 way (sWater la ri s0 l0)) way (sWater la ri (s0 + 1) l0) f0 = 1 by first | (exfalso; omega) | (unfold sFate; rw [if_pos (by omega)]; done) | (unfold sFate; rw [if_neg (by omega), if_pos (by omega)]; done) | (unfold sFate; rw [if_neg (by omega), if_neg (by omega), if_pos (by omega)]; done) | (unfold sFate; rw [if_neg (by omega), if_neg (by omega), if_neg (by omega)]; done)]
    · refine g_aload_n (i := 0) (j := 2) dX5_move_37 rfl rfl ?_
      refine g_aload_n (i := 1) (j := 3) dX5_move_38 rfl rfl ?_
      refine g_iload (j := 0) dX5_move_39 rfl ?_
      refine g_iconst (v := (-1)) dX5_move_41 (by decide) ?_
      refine c_V (st1 := []) (ctX5_goAlong_bk (w := sWater la ri s0 l0) hH (by omega) (by omega) (by first | exact sWater_le _ _ _ _ | omega) (by first | omega | exact sOn_le _ _ _ _ _ (by omega))) kX5_goAlong lX5_44 (by decide) rfl rfl rfl rfl (by exact Nat.le_of_ble_eq_true rfl) dX5_move_42 rfl rfl ?_
      have hto : sBk h w0 (sWater la ri s0 l0) (sPace h p0 (sOn h w0 (sWater la ri s0 l0) (sPace h p0 c0 (sWater la ri s0 l0)) c0) (sWater la ri s0 l0)) (sOn h w0 (sWater la ri s0 l0) (sPace h p0 c0 (sWater la ri s0 l0)) c0) = sTo h p0 w0 c0 way (sWater la ri s0 l0) := by first | (exfalso; omega) | (unfold sTo; rw [if_pos (by omega)]; done) | (unfold sTo; rw [if_neg (by omega), if_pos (by omega)]; done) | (unfold sTo; rw [if_neg (by omega), if_neg (by omega)]; done)
      refine g_ws (ws' := wC e0 e1 e2 (kG3 wk tw sf lo ri la) (kI 10 h) (kZ 10 so) e6 e7 e8 e9 e10 e11 e12 e13 e14 e16 e17 e19 e21 e22 (kP p0 w0 l0 to s0 f0) e25 e26) (by rw [hto, ← hto_]) ?_
      refine g_aload_n (i := 0) (j := 2) dX5_move_45 rfl rfl ?_
      refine g_dup dX5_move_46 rfl ?_
      refine g_get fX5_34 rfl rfl dX5_move_47 ?_
      refine g_iconst (v := nI 1) dX5_move_50 (by decide) ?_
      refine n_iadd (a := s0) (b := 1) dX5_move_51 ?_
      refine n_putI (ws' := wC e0 e1 e2 (kG3 wk tw sf lo ri la) (kI 10 h) (kZ 10 so) e6 e7 e8 e9 e10 e11 e12 e13 e14 e16 e17 e19 e21 e22 (kP p0 w0 l0 to (s0 + 1) f0) e25 e26) fX5_34 fp_X5_4 rfl (by exact Nat.le_of_ble_eq_true rfl) dX5_move_52 rfl ?_
      refine g_iload_n (i := 2) (j := 4) dX5_move_55 rfl rfl ?_
      refine g_iconst (v := nI 1) dX5_move_56 (by decide) ?_
      refine n_icmp_ne (tgt := 77) (by omega) (rng_lit 1 rfl) dX5_move_57 (by decide) (fun h57 => ?_) (fun h57 => ?_)
      · refine g_aload_n (i := 1) (j := 3) dX5_move_77 rfl rfl ?_
        refine g_aload_n (i := 0) (j := 2) dX5_move_78 rfl rfl ?_
        refine g_get fX5_31 rfl rfl dX5_move_79 ?_
        refine g_aload_n (i := 1) (j := 3) dX5_move_82 rfl rfl ?_
        refine g_aload_n (i := 0) (j := 2) dX5_move_83 rfl rfl ?_
        refine g_get fX5_34 rfl rfl dX5_move_84 ?_
        refine g_aload_n (i := 0) (j := 2) dX5_move_87 rfl rfl ?_
        refine g_get fX5_30 rfl rfl dX5_move_88 ?_
        refine c_V (st1 := [.int (nI (sWater la ri (s0 + 1) l0)), .int (nI to), .ref 3]) (ctX1_water (st := s0 + 1) (lo2 := l0) (by omega) (by omega) (by omega) (by omega)) kX1_water lX5_40 (by decide) rfl rfl rfl rfl (by exact Nat.le_of_ble_eq_true rfl) dX5_move_91 rfl rfl ?_
        refine c_V (st1 := [.int (nI (sDepth h to (sWater la ri (s0 + 1) l0)))]) (ctX1_depth (c := to) (w := sWater la ri (s0 + 1) l0) hH (by omega) (by omega)) kX1_depth lX5_48 (by decide) rfl rfl rfl rfl (by exact Nat.le_of_ble_eq_true rfl) dX5_move_94 rfl rfl ?_
        refine g_aload_n (i := 0) (j := 2) dX5_move_97 rfl rfl ?_
        refine g_get fX5_24 rfl rfl dX5_move_98 ?_
        refine n_icmp_le (tgt := 112) (by omega) (by omega) dX5_move_101 (by decide) (fun h101 => ?_) (fun h101 => ?_)
        · refine g_aload_n (i := 0) (j := 2) dX5_move_112 rfl rfl ?_
          refine g_get fX5_31 rfl rfl dX5_move_113 ?_
          refine g_iload_n (i := 3) (j := 1) dX5_move_116 rfl rfl ?_
          refine n_icmp_ne (tgt := 136) (by omega) (by omega) dX5_move_117 (by decide) (fun h117 => ?_) (fun h117 => ?_)
          · refine g_vret rfl dX5_move_136 ?_
            refine gE_i rfl ?_
            rw [hto_] at *
            rw [show sFate h so w0 c0 (sTo h p0 w0 c0 way (sWater la ri s0 l0)) way (sWater la ri (s0 + 1) l0) f0 = f0 by first | (exfalso; omega) | (unfold sFate; rw [if_pos (by omega)]; done) | (unfold sFate; rw [if_neg (by omega), if_pos (by omega)]; done) | (unfold sFate; rw [if_neg (by omega), if_neg (by omega), if_pos (by omega)]; done) | (unfold sFate; rw [if_neg (by omega), if_neg (by omega), if_neg (by omega)]; done)]
          · refine g_aload_n (i := 1) (j := 3) dX5_move_120 rfl rfl ?_
            refine g_aload_n (i := 0) (j := 2) dX5_move_121 rfl rfl ?_
            refine g_get fX5_31 rfl rfl dX5_move_122 ?_
            refine c_V (st1 := [.int (nI (so to))]) (ctX1_isSoft (c := to) hso (by omega)) kX1_isSoft lX5_51 (by decide) rfl rfl rfl rfl (by exact Nat.le_of_ble_eq_true rfl) dX5_move_125 rfl rfl ?_
            refine n_if_eq (tgt := 136) (by omega) dX5_move_128 (by decide) (fun h128 => ?_) (fun h128 => ?_)
            · refine g_vret rfl dX5_move_136 ?_
              refine gE_i rfl ?_
              rw [hto_] at *
              rw [show sFate h so w0 c0 (sTo h p0 w0 c0 way (sWater la ri s0 l0)) way (sWater la ri (s0 + 1) l0) f0 = f0 by first | (exfalso; omega) | (unfold sFate; rw [if_pos (by omega)]; done) | (unfold sFate; rw [if_neg (by omega), if_pos (by omega)]; done) | (unfold sFate; rw [if_neg (by omega), if_neg (by omega), if_pos (by omega)]; done) | (unfold sFate; rw [if_neg (by omega), if_neg (by omega), if_neg (by omega)]; done)]
            · refine g_aload_n (i := 0) (j := 2) dX5_move_131 rfl rfl ?_
              refine g_iconst (v := nI 3) dX5_move_132 (by decide) ?_
              refine n_putI (ws' := wC e0 e1 e2 (kG3 wk tw sf lo ri la) (kI 10 h) (kZ 10 so) e6 e7 e8 e9 e10 e11 e12 e13 e14 e16 e17 e19 e21 e22 (kP p0 w0 l0 to (s0 + 1) 3) e25 e26) fX5_37 fp_X5_5 rfl (by exact Nat.le_of_ble_eq_true rfl) dX5_move_133 rfl ?_
              refine g_vret rfl dX5_move_136 ?_
              refine gE_i rfl ?_
              rw [hto_] at *
              rw [show sFate h so w0 c0 (sTo h p0 w0 c0 way (sWater la ri s0 l0)) way (sWater la ri (s0 + 1) l0) f0 = 3 by first | (exfalso; omega) | (unfold sFate; rw [if_pos (by omega)]; done) | (unfold sFate; rw [if_neg (by omega), if_pos (by omega)]; done) | (unfold sFate; rw [if_neg (by omega), if_neg (by omega), if_pos (by omega)]; done) | (unfold sFate; rw [if_neg (by omega), if_neg (by omega), if_neg (by omega)]; done)]
        · refine g_aload_n (i := 0) (j := 2) dX5_move_104 rfl rfl ?_
          refine g_iconst (v := nI 2) dX5_move_105 (by decide) ?_
          refine n_putI (ws' := wC e0 e1 e2 (kG3 wk tw sf lo ri la) (kI 10 h) (kZ 10 so) e6 e7 e8 e9 e10 e11 e12 e13 e14 e16 e17 e19 e21 e22 (kP p0 w0 l0 to (s0 + 1) 2) e25 e26) fX5_37 fp_X5_5 rfl (by exact Nat.le_of_ble_eq_true rfl) dX5_move_106 rfl ?_
          refine g_goto (tgt := 136) dX5_move_109 (by decide) ?_
          refine g_vret rfl dX5_move_136 ?_
          refine gE_i rfl ?_
          rw [hto_] at *
          rw [show sFate h so w0 c0 (sTo h p0 w0 c0 way (sWater la ri s0 l0)) way (sWater la ri (s0 + 1) l0) f0 = 2 by first | (exfalso; omega) | (unfold sFate; rw [if_pos (by omega)]; done) | (unfold sFate; rw [if_neg (by omega), if_pos (by omega)]; done) | (unfold sFate; rw [if_neg (by omega), if_neg (by omega), if_pos (by omega)]; done) | (unfold sFate; rw [if_neg (by omega), if_neg (by omega), if_neg (by omega)]; done)]
      · refine g_aload_n (i := 0) (j := 2) dX5_move_60 rfl rfl ?_
        refine g_get fX5_31 rfl rfl dX5_move_61 ?_
        refine g_bipush (v := nI 9) dX5_move_64 (by decide) ?_
        refine n_icmp_ne (tgt := 77) (by omega) (rng_lit 9 rfl) dX5_move_66 (by decide) (fun h66 => ?_) (fun h66 => ?_)
        · refine g_aload_n (i := 1) (j := 3) dX5_move_77 rfl rfl ?_
          refine g_aload_n (i := 0) (j := 2) dX5_move_78 rfl rfl ?_
          refine g_get fX5_31 rfl rfl dX5_move_79 ?_
          refine g_aload_n (i := 1) (j := 3) dX5_move_82 rfl rfl ?_
          refine g_aload_n (i := 0) (j := 2) dX5_move_83 rfl rfl ?_
          refine g_get fX5_34 rfl rfl dX5_move_84 ?_
          refine g_aload_n (i := 0) (j := 2) dX5_move_87 rfl rfl ?_
          refine g_get fX5_30 rfl rfl dX5_move_88 ?_
          refine c_V (st1 := [.int (nI (sWater la ri (s0 + 1) l0)), .int (nI to), .ref 3]) (ctX1_water (st := s0 + 1) (lo2 := l0) (by omega) (by omega) (by omega) (by omega)) kX1_water lX5_40 (by decide) rfl rfl rfl rfl (by exact Nat.le_of_ble_eq_true rfl) dX5_move_91 rfl rfl ?_
          refine c_V (st1 := [.int (nI (sDepth h to (sWater la ri (s0 + 1) l0)))]) (ctX1_depth (c := to) (w := sWater la ri (s0 + 1) l0) hH (by omega) (by omega)) kX1_depth lX5_48 (by decide) rfl rfl rfl rfl (by exact Nat.le_of_ble_eq_true rfl) dX5_move_94 rfl rfl ?_
          refine g_aload_n (i := 0) (j := 2) dX5_move_97 rfl rfl ?_
          refine g_get fX5_24 rfl rfl dX5_move_98 ?_
          refine n_icmp_le (tgt := 112) (by omega) (by omega) dX5_move_101 (by decide) (fun h101 => ?_) (fun h101 => ?_)
          · refine g_aload_n (i := 0) (j := 2) dX5_move_112 rfl rfl ?_
            refine g_get fX5_31 rfl rfl dX5_move_113 ?_
            refine g_iload_n (i := 3) (j := 1) dX5_move_116 rfl rfl ?_
            refine n_icmp_ne (tgt := 136) (by omega) (by omega) dX5_move_117 (by decide) (fun h117 => ?_) (fun h117 => ?_)
            · refine g_vret rfl dX5_move_136 ?_
              refine gE_i rfl ?_
              rw [hto_] at *
              rw [show sFate h so w0 c0 (sTo h p0 w0 c0 way (sWater la ri s0 l0)) way (sWater la ri (s0 + 1) l0) f0 = f0 by first | (exfalso; omega) | (unfold sFate; rw [if_pos (by omega)]; done) | (unfold sFate; rw [if_neg (by omega), if_pos (by omega)]; done) | (unfold sFate; rw [if_neg (by omega), if_neg (by omega), if_pos (by omega)]; done) | (unfold sFate; rw [if_neg (by omega), if_neg (by omega), if_neg (by omega)]; done)]
            · refine g_aload_n (i := 1) (j := 3) dX5_move_120 rfl rfl ?_
              refine g_aload_n (i := 0) (j := 2) dX5_move_121 rfl rfl ?_
              refine g_get fX5_31 rfl rfl dX5_move_122 ?_
              refine c_V (st1 := [.int (nI (so to))]) (ctX1_isSoft (c := to) hso (by omega)) kX1_isSoft lX5_51 (by decide) rfl rfl rfl rfl (by exact Nat.le_of_ble_eq_true rfl) dX5_move_125 rfl rfl ?_
              refine n_if_eq (tgt := 136) (by omega) dX5_move_128 (by decide) (fun h128 => ?_) (fun h128 => ?_)
              · refine g_vret rfl dX5_move_136 ?_
                refine gE_i rfl ?_
                rw [hto_] at *
                rw [show sFate h so w0 c0 (sTo h p0 w0 c0 way (sWater la ri s0 l0)) way (sWater la ri (s0 + 1) l0) f0 = f0 by first | (exfalso; omega) | (unfold sFate; rw [if_pos (by omega)]; done) | (unfold sFate; rw [if_neg (by omega), if_pos (by omega)]; done) | (unfold sFate; rw [if_neg (by omega), if_neg (by omega), if_pos (by omega)]; done) | (unfold sFate; rw [if_neg (by omega), if_neg (by omega), if_neg (by omega)]; done)]
              · refine g_aload_n (i := 0) (j := 2) dX5_move_131 rfl rfl ?_
                refine g_iconst (v := nI 3) dX5_move_132 (by decide) ?_
                refine n_putI (ws' := wC e0 e1 e2 (kG3 wk tw sf lo ri la) (kI 10 h) (kZ 10 so) e6 e7 e8 e9 e10 e11 e12 e13 e14 e16 e17 e19 e21 e22 (kP p0 w0 l0 to (s0 + 1) 3) e25 e26) fX5_37 fp_X5_5 rfl (by exact Nat.le_of_ble_eq_true rfl) dX5_move_133 rfl ?_
                refine g_vret rfl dX5_move_136 ?_
                refine gE_i rfl ?_
                rw [hto_] at *
                rw [show sFate h so w0 c0 (sTo h p0 w0 c0 way (sWater la ri s0 l0)) way (sWater la ri (s0 + 1) l0) f0 = 3 by first | (exfalso; omega) | (unfold sFate; rw [if_pos (by omega)]; done) | (unfold sFate; rw [if_neg (by omega), if_pos (by omega)]; done) | (unfold sFate; rw [if_neg (by omega), if_neg (by omega), if_pos (by omega)]; done) | (unfold sFate; rw [if_neg (by omega), if_neg (by omega), if_neg (by omega)]; done)]
          · refine g_aload_n (i := 0) (j := 2) dX5_move_104 rfl rfl ?_
            refine g_iconst (v := nI 2) dX5_move_105 (by decide) ?_
            refine n_putI (ws' := wC e0 e1 e2 (kG3 wk tw sf lo ri la) (kI 10 h) (kZ 10 so) e6 e7 e8 e9 e10 e11 e12 e13 e14 e16 e17 e19 e21 e22 (kP p0 w0 l0 to (s0 + 1) 2) e25 e26) fX5_37 fp_X5_5 rfl (by exact Nat.le_of_ble_eq_true rfl) dX5_move_106 rfl ?_
            refine g_goto (tgt := 136) dX5_move_109 (by decide) ?_
            refine g_vret rfl dX5_move_136 ?_
            refine gE_i rfl ?_
            rw [hto_] at *
            rw [show sFate h so w0 c0 (sTo h p0 w0 c0 way (sWater la ri s0 l0)) way (sWater la ri (s0 + 1) l0) f0 = 2 by first | (exfalso; omega) | (unfold sFate; rw [if_pos (by omega)]; done) | (unfold sFate; rw [if_neg (by omega), if_pos (by omega)]; done) | (unfold sFate; rw [if_neg (by omega), if_neg (by omega), if_pos (by omega)]; done) | (unfold sFate; rw [if_neg (by omega), if_neg (by omega), if_neg (by omega)]; done)]
        · refine g_aload_n (i := 0) (j := 2) dX5_move_69 rfl rfl ?_
          refine g_iconst (v := nI 1) dX5_move_70 (by decide) ?_
          refine n_putI (ws' := wC e0 e1 e2 (kG3 wk tw sf lo ri la) (kI 10 h) (kZ 10 so) e6 e7 e8 e9 e10 e11 e12 e13 e14 e16 e17 e19 e21 e22 (kP p0 w0 l0 to (s0 + 1) 1) e25 e26) fX5_37 fp_X5_5 rfl (by exact Nat.le_of_ble_eq_true rfl) dX5_move_71 rfl ?_
          refine g_goto (tgt := 136) dX5_move_74 (by decide) ?_
          refine g_vret rfl dX5_move_136 ?_
          refine gE_i rfl ?_
          rw [hto_] at *
          rw [show sFate h so w0 c0 (sTo h p0 w0 c0 way (sWater la ri s0 l0)) way (sWater la ri (s0 + 1) l0) f0 = 1 by first | (exfalso; omega) | (unfold sFate; rw [if_pos (by omega)]; done) | (unfold sFate; rw [if_neg (by omega), if_pos (by omega)]; done) | (unfold sFate; rw [if_neg (by omega), if_neg (by omega), if_pos (by omega)]; done) | (unfold sFate; rw [if_neg (by omega), if_neg (by omega), if_neg (by omega)]; done)]

def sShore (way : Nat) : Nat := if way = 1 then 9 else 0
/-- one goes alone a way till it is on the shore there: at which step -/
def sGone (h so : Nat → Nat) (la ri pa wa lo way : Nat) : Nat → Nat → Nat → Nat → Option Nat
  | 0, _, _, _ => none
  | n + 1, c, s, f => if c = sShore way then some s else if f ≠ 0 ∨ 40 ≤ s then none else
      sGone h so la ri pa wa lo way n (sTo h pa wa c way (sWater la ri s lo)) (s + 1) (sFate h so wa c (sTo h pa wa c way (sWater la ri s lo)) way (sWater la ri (s + 1) lo) f)
def rO : Option Nat → Int32
  | some s => nI s
  | none => -9
/-- the arrival: step, or none -/
def sArr (h so : Nat → Nat) (la ri pa wa lo way c s : Nat) : Option Nat := sGone h so la ri pa wa lo way 41 c s 0
theorem lp_gone {e0 e1 e2 e6 e7 e8 e9 e10 e11 e12 e13 e14 e16 e17 e19 e21 e22 e25 e26 : va_E} {h so : Nat → Nat} {wk tw sf lo ri la : Nat} {p0 w0 l0 : Nat} {way : Nat} (hH : ∀ k, h k ≤ 9) (hso : ∀ k, so k ≤ 1) (hla : la ≤ 9) (hri : ri ≤ 3) (hp : p0 ≤ 3) (hw0 : w0 ≤ 5) (hl0 : l0 ≤ 41) (hway : way ≤ 2) (hway1 : 1 ≤ way) : ∀ (n k c s f : Nat), k + n = 41 → c ≤ 9 → s ≤ 40 → f ≤ 4 → Go mX5_goTillThere 3 15 [(0, .ref 23), (1, .ref 3), (2, .int (nI way)), (3, .int (nI (sShore way))), (4, .int (nI k))] [] (wC e0 e1 e2 (kG3 wk tw sf lo ri la) (kI 10 h) (kZ 10 so) e6 e7 e8 e9 e10 e11 e12 e13 e14 e16 e17 e19 e21 e22 (kP p0 w0 l0 c s f) e25 e26) (fun v u => v = some (.int (rO (sGone h so la ri p0 w0 l0 way n c s f))) ∧ ∃ c2 s2 f2 : Nat, u = wC e0 e1 e2 (kG3 wk tw sf lo ri la) (kI 10 h) (kZ 10 so) e6 e7 e8 e9 e10 e11 e12 e13 e14 e16 e17 e19 e21 e22 (kP p0 w0 l0 c2 s2 f2) e25 e26) := by
  intro n
  have hsh : sShore way ≤ 9 := by unfold sShore; split <;> omega
  induction n with
  | zero =>
    intro k c s f hk hc hs hf
    refine g_iload (j := 4) dX5_goTillThere_15 rfl ?_
    refine g_bipush (v := nI 40) dX5_goTillThere_17 (by decide) ?_
    refine n_icmp_gt (tgt := 66) (by omega) (rng_lit 40 rfl) dX5_goTillThere_19 (by decide) (fun h19 => ?_) (fun h19 => ?_)
    · refine g_bipush (v := (-9)) dX5_goTillThere_66 (by decide) ?_
      refine g_iret rfl rfl dX5_goTillThere_68 ?_
      exact ⟨rfl, _, _, _, rfl⟩
    · exfalso; omega

  | succ n ih =>
    intro k c s f hk hc hs hf
    refine g_iload (j := 4) dX5_goTillThere_15 rfl ?_
    refine g_bipush (v := nI 40) dX5_goTillThere_17 (by decide) ?_
    refine n_icmp_gt (tgt := 66) (by omega) (rng_lit 40 rfl) dX5_goTillThere_19 (by decide) (fun h19 => ?_) (fun h19 => ?_)
    · exfalso; omega
    · refine g_aload_n (i := 0) (j := 0) dX5_goTillThere_22 rfl rfl ?_
      refine g_get fX5_31 rfl rfl dX5_goTillThere_23 ?_
      refine g_iload_n (i := 3) (j := 3) dX5_goTillThere_26 rfl rfl ?_
      refine n_icmp_ne (tgt := 35) (by omega) (by omega) dX5_goTillThere_27 (by decide) (fun h27 => ?_) (fun h27 => ?_)
      · refine g_aload_n (i := 0) (j := 0) dX5_goTillThere_35 rfl rfl ?_
        refine g_get fX5_37 rfl rfl dX5_goTillThere_36 ?_
        refine n_if_ne (tgt := 51) (by omega) dX5_goTillThere_39 (by decide) (fun h39 => ?_) (fun h39 => ?_)
        · refine g_bipush (v := (-9)) dX5_goTillThere_51 (by decide) ?_
          refine g_iret rfl rfl dX5_goTillThere_53 ?_
          refine ⟨?_, _, _, _, rfl⟩
          rw [show sGone h so la ri p0 w0 l0 way (n + 1) c s f = none by rw [sGone, if_neg h27, if_pos (by omega)]]
          rfl
        · refine g_aload_n (i := 0) (j := 0) dX5_goTillThere_42 rfl rfl ?_
          refine g_get fX5_34 rfl rfl dX5_goTillThere_43 ?_
          refine g_bipush (v := nI 40) dX5_goTillThere_46 (by decide) ?_
          refine n_icmp_lt (tgt := 54) (by omega) (rng_lit 40 rfl) dX5_goTillThere_48 (by decide) (fun h48 => ?_) (fun h48 => ?_)
          · refine g_aload_n (i := 0) (j := 0) dX5_goTillThere_54 rfl rfl ?_
            refine g_aload_n (i := 1) (j := 1) dX5_goTillThere_55 rfl rfl ?_
            refine g_iload_n (i := 2) (j := 2) dX5_goTillThere_56 rfl rfl ?_
            refine c_V (st1 := []) (ctX5_move (way := way) hH hso (by omega) (by omega) (by omega) (by omega) (by omega) (by omega) (by omega) (by omega) (by omega)) kX5_move lX5_55 (by decide) rfl rfl rfl rfl (by exact Nat.le_of_ble_eq_true rfl) dX5_goTillThere_57 rfl rfl ?_
            refine n_inc (x := k) (j := 4) (lv' := [(4, .int (nI (k + 1))), (0, .ref 23), (1, .ref 3), (2, .int (nI way)), (3, .int (nI (sShore way)))]) dX5_goTillThere_60 rfl (by decide) rfl ?_
            refine g_goto (tgt := 15) dX5_goTillThere_63 (by decide) ?_
            refine g_lv [1, 2, 3, 4, 0] rfl ?_
            refine g_post ?_ (ih (k + 1) _ _ _ (by omega) (sTo_le _ _ _ _ _ _ hc) (by omega) (sFate_le _ _ _ _ _ _ _ _ hf))
            intro v u hvu
            rw [show sGone h so la ri p0 w0 l0 way (n + 1) c s f = sGone h so la ri p0 w0 l0 way n (sTo h p0 w0 c way (sWater la ri s l0)) (s + 1) (sFate h so w0 c (sTo h p0 w0 c way (sWater la ri s l0)) way (sWater la ri (s + 1) l0) f) by rw [sGone, if_neg h27, if_neg (by omega)]]
            exact hvu
          · refine g_bipush (v := (-9)) dX5_goTillThere_51 (by decide) ?_
            refine g_iret rfl rfl dX5_goTillThere_53 ?_
            refine ⟨?_, _, _, _, rfl⟩
            rw [show sGone h so la ri p0 w0 l0 way (n + 1) c s f = none by rw [sGone, if_neg h27, if_pos (by omega)]]
            rfl
      · refine g_aload_n (i := 0) (j := 0) dX5_goTillThere_30 rfl rfl ?_
        refine g_get fX5_34 rfl rfl dX5_goTillThere_31 ?_
        refine g_iret rfl rfl dX5_goTillThere_34 ?_
        refine ⟨?_, _, _, _, rfl⟩
        rw [show sGone h so la ri p0 w0 l0 way (n + 1) c s f = some s by rw [sGone, if_pos h27]]
        rfl

theorem ctX5_goTillThere {e0 e1 e2 e6 e7 e8 e9 e10 e11 e12 e13 e14 e16 e17 e19 e21 e22 e25 e26 : va_E} {h so : Nat → Nat} {wk tw sf lo ri la : Nat} {p0 w0 l0 c0 s0 f0 : Nat} {way : Nat} (hH : ∀ k, h k ≤ 9) (hso : ∀ k, so k ≤ 1) (hla : la ≤ 9) (hri : ri ≤ 3) (hp : p0 ≤ 3) (hw0 : w0 ≤ 5) (hl0 : l0 ≤ 41) (hway : way ≤ 2) (hway1 : 1 ≤ way) (hc : c0 ≤ 9) (hs : s0 ≤ 40) (hf : f0 ≤ 4) : Ct mX5_goTillThere 3 [.ref 23, .ref 3, .int (nI way)] (wC e0 e1 e2 (kG3 wk tw sf lo ri la) (kI 10 h) (kZ 10 so) e6 e7 e8 e9 e10 e11 e12 e13 e14 e16 e17 e19 e21 e22 (kP p0 w0 l0 c0 s0 f0) e25 e26) (fun v u => v = some (.int (rO (sGone h so la ri p0 w0 l0 way 41 c0 s0 f0))) ∧ ∃ c2 s2 f2 : Nat, u = wC e0 e1 e2 (kG3 wk tw sf lo ri la) (kI 10 h) (kZ 10 so) e6 e7 e8 e9 e10 e11 e12 e13 e14 e16 e17 e19 e21 e22 (kP p0 w0 l0 c2 s2 f2) e25 e26) := by
  refine Ct.of (by decide) (by exact Nat.le_of_ble_eq_true rfl) ?_
  show Go mX5_goTillThere 3 0 [(0, .ref 23), (1, .ref 3), (2, .int (nI way))] [] (wC e0 e1 e2 (kG3 wk tw sf lo ri la) (kI 10 h) (kZ 10 so) e6 e7 e8 e9 e10 e11 e12 e13 e14 e16 e17 e19 e21 e22 (kP p0 w0 l0 c0 s0 f0) e25 e26) (fun v u => v = some (.int (rO (sGone h so la ri p0 w0 l0 way 41 c0 s0 f0))) ∧ ∃ c2 s2 f2 : Nat, u = wC e0 e1 e2 (kG3 wk tw sf lo ri la) (kI 10 h) (kZ 10 so) e6 e7 e8 e9 e10 e11 e12 e13 e14 e16 e17 e19 e21 e22 (kP p0 w0 l0 c2 s2 f2) e25 e26)
  refine g_iload_n (i := 2) (j := 2) dX5_goTillThere_0 rfl rfl ?_
  refine g_iconst (v := nI 1) dX5_goTillThere_1 (by decide) ?_
  refine n_icmp_ne (tgt := 10) (by omega) (rng_lit 1 rfl) dX5_goTillThere_2 (by decide) (fun h2 => ?_) (fun h2 => ?_)
  · refine g_iconst (v := nI 0) dX5_goTillThere_10 (by decide) ?_
    refine g_topi (y := nI (sShore way)) (by unfold sShore; rw [if_neg (by omega)]) ?_
    refine g_istore_n (i := 3) (lv' := [(3, .int (nI (sShore way))), (0, .ref 23), (1, .ref 3), (2, .int (nI way))]) dX5_goTillThere_11 rfl (by decide) rfl ?_
    refine g_iconst (v := nI 0) dX5_goTillThere_12 (by decide) ?_
    refine g_istore (lv' := [(4, .int (nI 0)), (3, .int (nI (sShore way))), (0, .ref 23), (1, .ref 3), (2, .int (nI way))]) dX5_goTillThere_13 (by decide) rfl ?_
    refine g_lv [2, 3, 4, 1, 0] rfl ?_
    exact lp_gone hH hso hla hri hp hw0 hl0 hway hway1 41 0 c0 s0 f0 (by omega) hc hs hf
  · refine g_bipush (v := nI 9) dX5_goTillThere_5 (by decide) ?_
    refine g_goto (tgt := 11) dX5_goTillThere_7 (by decide) ?_
    refine g_topi (y := nI (sShore way)) (by unfold sShore; rw [if_pos (by omega)]) ?_
    refine g_istore_n (i := 3) (lv' := [(3, .int (nI (sShore way))), (0, .ref 23), (1, .ref 3), (2, .int (nI way))]) dX5_goTillThere_11 rfl (by decide) rfl ?_
    refine g_iconst (v := nI 0) dX5_goTillThere_12 (by decide) ?_
    refine g_istore (lv' := [(4, .int (nI 0)), (3, .int (nI (sShore way))), (0, .ref 23), (1, .ref 3), (2, .int (nI way))]) dX5_goTillThere_13 (by decide) rfl ?_
    refine g_lv [2, 3, 4, 1, 0] rfl ?_
    exact lp_gone hH hso hla hri hp hw0 hl0 hway hway1 41 0 c0 s0 f0 (by omega) hc hs hf

