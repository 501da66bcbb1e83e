/-! part 40: the constructors -/
theorem ar_I : Cond.arrayClass .int ∈ gw := gw_at 86 (by decide +kernel) (by decide +kernel)
theorem ar_J : Cond.arrayClass .long ∈ gw := gw_at 787 (by decide +kernel) (by decide +kernel)
theorem ar_Z : Cond.arrayClass .boolean ∈ gw := gw_at 138 (by decide +kernel) (by decide +kernel)
theorem oi_i : Cond.instanceMethod objectInit ∈ gw := gw_at 64 (by decide +kernel) (by decide +kernel)
set_option maxRecDepth 20000 in
theorem oi_c : Cond.code objectInit ⟨#[0xb1]⟩ 1 none ∈ gw := gw_at 65 rfl rfl
theorem il_L_9 : Cond.methodLink RL 9 yX7_init ∈ gw ∨ ∃ host, Cond.methodLinkNest RL 9 yX7_init host ∈ gnl := Or.inl (gw_at 60 (by decide +kernel) (by decide +kernel))
theorem oi_X7_1 : Cond.methodLink RX7 1 objectInit ∈ gw := gw_at 63 (by decide +kernel) (by decide +kernel)
theorem il_X7_9 : Cond.methodLink RX7 9 yX4_init ∈ gw ∨ ∃ host, Cond.methodLinkNest RX7 9 yX4_init host ∈ gnl := Or.inr ⟨"OverSands", gnl_at 68 (by decide +kernel) rfl⟩
theorem oi_X4_3 : Cond.methodLink RX4 3 objectInit ∈ gw := gw_at 71 (by decide +kernel) (by decide +kernel)
theorem il_X7_18 : Cond.methodLink RX7 18 yX1_init ∈ gw ∨ ∃ host, Cond.methodLinkNest RX7 18 yX1_init host ∈ gnl := Or.inr ⟨"OverSands", gnl_at 89 (by decide +kernel) rfl⟩
theorem oi_X1_3 : Cond.methodLink RX1 3 objectInit ∈ gw := gw_at 92 (by decide +kernel) (by decide +kernel)
theorem il_X7_28 : Cond.methodLink RX7 28 yX2_init ∈ gw ∨ ∃ host, Cond.methodLinkNest RX7 28 yX2_init host ∈ gnl := Or.inr ⟨"OverSands", gnl_at 141 (by decide +kernel) rfl⟩
theorem oi_X2_5 : Cond.methodLink RX2 5 objectInit ∈ gw := gw_at 144 (by decide +kernel) (by decide +kernel)
theorem il_X7_35 : Cond.methodLink RX7 35 yX0_init ∈ gw ∨ ∃ host, Cond.methodLinkNest RX7 35 yX0_init host ∈ gnl := Or.inr ⟨"OverSands", gnl_at 152 (by decide +kernel) rfl⟩
theorem oi_X0_3 : Cond.methodLink RX0 3 objectInit ∈ gw := gw_at 155 (by decide +kernel) (by decide +kernel)
theorem il_X0_11 : Cond.methodLink RX0 11 yX3_init ∈ gw ∨ ∃ host, Cond.methodLinkNest RX0 11 yX3_init host ∈ gnl := Or.inl (gw_at 158 (by decide +kernel) (by decide +kernel))
theorem oi_X3_1 : Cond.methodLink RX3 1 objectInit ∈ gw := gw_at 161 (by decide +kernel) (by decide +kernel)
theorem il_X7_42 : Cond.methodLink RX7 42 yX3_init ∈ gw ∨ ∃ host, Cond.methodLinkNest RX7 42 yX3_init host ∈ gnl := Or.inl (gw_at 184 (by decide +kernel) (by decide +kernel))
theorem il_X7_55 : Cond.methodLink RX7 55 yX5_init ∈ gw ∨ ∃ host, Cond.methodLinkNest RX7 55 yX5_init host ∈ gnl := Or.inr ⟨"OverSands", gnl_at 187 (by decide +kernel) rfl⟩
theorem oi_X5_3 : Cond.methodLink RX5 3 objectInit ∈ gw := gw_at 190 (by decide +kernel) (by decide +kernel)
theorem il_X7_62 : Cond.methodLink RX7 62 yX6_init ∈ gw ∨ ∃ host, Cond.methodLinkNest RX7 62 yX6_init host ∈ gnl := Or.inr ⟨"OverSands", gnl_at 216 (by decide +kernel) rfl⟩
theorem oi_X6_3 : Cond.methodLink RX6 3 objectInit ∈ gw := gw_at 219 (by decide +kernel) (by decide +kernel)
theorem il_L_12 : Cond.methodLink RL 12 yX8_init ∈ gw ∨ ∃ host, Cond.methodLinkNest RL 12 yX8_init host ∈ gnl := Or.inl (gw_at 671 (by decide +kernel) (by decide +kernel))
theorem oi_X8_1 : Cond.methodLink RX8 1 objectInit ∈ gw := gw_at 674 (by decide +kernel) (by decide +kernel)
theorem in_X7 : Cond.instanceMethod yX7_init ∈ gw := gw_at 61 (by decide +kernel) (by decide +kernel)
theorem in_X4 : Cond.instanceMethod yX4_init ∈ gw := gw_at 69 (by decide +kernel) (by decide +kernel)
theorem in_X1 : Cond.instanceMethod yX1_init ∈ gw := gw_at 90 (by decide +kernel) (by decide +kernel)
theorem in_X2 : Cond.instanceMethod yX2_init ∈ gw := gw_at 142 (by decide +kernel) (by decide +kernel)
theorem in_X0 : Cond.instanceMethod yX0_init ∈ gw := gw_at 153 (by decide +kernel) (by decide +kernel)
theorem in_X3 : Cond.instanceMethod yX3_init ∈ gw := gw_at 159 (by decide +kernel) (by decide +kernel)
theorem in_X5 : Cond.instanceMethod yX5_init ∈ gw := gw_at 188 (by decide +kernel) (by decide +kernel)
theorem in_X6 : Cond.instanceMethod yX6_init ∈ gw := gw_at 217 (by decide +kernel) (by decide +kernel)
theorem in_X8 : Cond.instanceMethod yX8_init ∈ gw := gw_at 672 (by decide +kernel) (by decide +kernel)
theorem df_X0 : ∀ j, j < 3 → defaultValue (tyX0 j) = vp_V [.null, .int (nI 0), .int (nI 0)] j := fun j hj => match j, hj with | 0, _ => rfl | 1, _ => rfl | 2, _ => rfl | j + 3, h => absurd h (by omega)
theorem df_X1 : ∀ j, j < 11 → defaultValue (tyX1 j) = vp_V [.null, .null, .null, .null, .null, .int (nI 0), .int (nI 0), .int (nI 0), .int (nI 0), .int (nI 0), .int (nI 0)] j := fun j hj => match j, hj with | 0, _ => rfl | 1, _ => rfl | 2, _ => rfl | 3, _ => rfl | 4, _ => rfl | 5, _ => rfl | 6, _ => rfl | 7, _ => rfl | 8, _ => rfl | 9, _ => rfl | 10, _ => rfl | j + 11, h => absurd h (by omega)
theorem df_X2 : ∀ j, j < 1 → defaultValue (tyX2 j) = vp_V [.null] j := fun j hj => match j, hj with | 0, _ => rfl | j + 1, h => absurd h (by omega)
theorem df_X3 : ∀ j, j < 2 → defaultValue (tyX3 j) = vp_V [.int (nI 0), .null] j := fun j hj => match j, hj with | 0, _ => rfl | 1, _ => rfl | j + 2, h => absurd h (by omega)
theorem df_X4 : ∀ j, j < 4 → defaultValue (tyX4 j) = vp_V [.null, .int (nI 0), .int (nI 0), .int (nI 0)] j := fun j hj => match j, hj with | 0, _ => rfl | 1, _ => rfl | 2, _ => rfl | 3, _ => rfl | j + 4, h => absurd h (by omega)
theorem df_X5 : ∀ j, j < 6 → defaultValue (tyX5 j) = vp_V [.int (nI 0), .int (nI 0), .int (nI 0), .int (nI 0), .int (nI 0), .int (nI 0)] j := fun j hj => match j, hj with | 0, _ => rfl | 1, _ => rfl | 2, _ => rfl | 3, _ => rfl | 4, _ => rfl | 5, _ => rfl | j + 6, h => absurd h (by omega)
theorem df_X6 : ∀ j, j < 2 → defaultValue (tyX6 j) = vp_V [.null, .null] j := fun j hj => match j, hj with | 0, _ => rfl | 1, _ => rfl | j + 2, h => absurd h (by omega)
theorem df_X7 : ∀ j, j < 10 → defaultValue (tyX7 j) = vp_V [.null, .null, .null, .null, .null, .null, .null, .null, .null, .long 0] j := fun j hj => match j, hj with | 0, _ => rfl | 1, _ => rfl | 2, _ => rfl | 3, _ => rfl | 4, _ => rfl | 5, _ => rfl | 6, _ => rfl | 7, _ => rfl | 8, _ => rfl | 9, _ => rfl | j + 10, h => absurd h (by omega)
theorem df_X8 : ∀ j, j < 37 → defaultValue (tyX8 j) = vp_V [.int (nI 0), .null, .int (nI 0), .int (nI 0), .null, .int (nI 0), .int (nI 0), .int (nI 0), .int (nI 0), .int (nI 0), .int (nI 0), .null, .null, .null, .null, .null, .int (nI 0), .int (nI 0), .int (nI 0), .int (nI 0), .int (nI 0), .int (nI 0), .null, .null, .null, .null, .null, .null, .int (nI 0), .null, .null, .long 0, .int (nI 0), .int (nI 0), .int (nI 0), .null, .null] j := fun j hj => match j, hj with | 0, _ => rfl | 1, _ => rfl | 2, _ => rfl | 3, _ => rfl | 4, _ => rfl | 5, _ => rfl | 6, _ => rfl | 7, _ => rfl | 8, _ => rfl | 9, _ => rfl | 10, _ => rfl | 11, _ => rfl | 12, _ => rfl | 13, _ => rfl | 14, _ => rfl | 15, _ => rfl | 16, _ => rfl | 17, _ => rfl | 18, _ => rfl | 19, _ => rfl | 20, _ => rfl | 21, _ => rfl | 22, _ => rfl | 23, _ => rfl | 24, _ => rfl | 25, _ => rfl | 26, _ => rfl | 27, _ => rfl | 28, _ => rfl | 29, _ => rfl | 30, _ => rfl | 31, _ => rfl | 32, _ => rfl | 33, _ => rfl | 34, _ => rfl | 35, _ => rfl | 36, _ => rfl | j + 37, h => absurd h (by omega)
theorem nw_L_7 : gNew RL 7 7 10 [.null, .null, .null, .null, .null, .null, .null, .null, .null, .long 0] := ⟨RX7, TX7, tyX7, rfl, uw_X7, tyX7_ok, gw_at 58 (by decide +kernel) (by decide +kernel), gw_at 59 (by decide +kernel) (by decide +kernel), ini_X7, df_X7⟩
theorem nw_X7_7 : gNew RX7 7 4 4 [.null, .int (nI 0), .int (nI 0), .int (nI 0)] := ⟨RX4, TX4, tyX4, rfl, uw_X4, tyX4_ok, gw_at 66 (by decide +kernel) (by decide +kernel), gw_at 67 (by decide +kernel) (by decide +kernel), ini_X4, df_X4⟩
theorem nw_X7_16 : gNew RX7 16 1 11 [.null, .null, .null, .null, .null, .int (nI 0), .int (nI 0), .int (nI 0), .int (nI 0), .int (nI 0), .int (nI 0)] := ⟨RX1, TX1, tyX1, rfl, uw_X1, tyX1_ok, gw_at 87 (by decide +kernel) (by decide +kernel), gw_at 88 (by decide +kernel) (by decide +kernel), ini_X1, df_X1⟩
theorem nw_X7_26 : gNew RX7 26 2 1 [.null] := ⟨RX2, TX2, tyX2, rfl, uw_X2, tyX2_ok, gw_at 139 (by decide +kernel) (by decide +kernel), gw_at 140 (by decide +kernel) (by decide +kernel), ini_X2, df_X2⟩
theorem nw_X7_33 : gNew RX7 33 0 3 [.null, .int (nI 0), .int (nI 0)] := ⟨RX0, TX0, tyX0, rfl, uw_X0, tyX0_ok, gw_at 150 (by decide +kernel) (by decide +kernel), gw_at 151 (by decide +kernel) (by decide +kernel), ini_X0, df_X0⟩
theorem nw_X0_9 : gNew RX0 9 3 2 [.int (nI 0), .null] := ⟨RX3, TX3, tyX3, rfl, uw_X3, tyX3_ok, gw_at 156 (by decide +kernel) (by decide +kernel), gw_at 157 (by decide +kernel) (by decide +kernel), ini_X3, df_X3⟩
theorem nw_X7_40 : gNew RX7 40 3 2 [.int (nI 0), .null] := ⟨RX3, TX3, tyX3, rfl, uw_X3, tyX3_ok, gw_at 183 (by decide +kernel) (by decide +kernel), gw_at 157 (by decide +kernel) (by decide +kernel), ini_X3, df_X3⟩
theorem nw_X7_53 : gNew RX7 53 5 6 [.int (nI 0), .int (nI 0), .int (nI 0), .int (nI 0), .int (nI 0), .int (nI 0)] := ⟨RX5, TX5, tyX5, rfl, uw_X5, tyX5_ok, gw_at 185 (by decide +kernel) (by decide +kernel), gw_at 186 (by decide +kernel) (by decide +kernel), ini_X5, df_X5⟩
theorem nw_X7_60 : gNew RX7 60 6 2 [.null, .null] := ⟨RX6, TX6, tyX6, rfl, uw_X6, tyX6_ok, gw_at 214 (by decide +kernel) (by decide +kernel), gw_at 215 (by decide +kernel) (by decide +kernel), ini_X6, df_X6⟩
theorem nw_L_10 : gNew RL 10 8 37 [.int (nI 0), .null, .int (nI 0), .int (nI 0), .null, .int (nI 0), .int (nI 0), .int (nI 0), .int (nI 0), .int (nI 0), .int (nI 0), .null, .null, .null, .null, .null, .int (nI 0), .int (nI 0), .int (nI 0), .int (nI 0), .int (nI 0), .int (nI 0), .null, .null, .null, .null, .null, .null, .int (nI 0), .null, .null, .long 0, .int (nI 0), .int (nI 0), .int (nI 0), .null, .null] := ⟨RX8, TX8, tyX8, rfl, uw_X8, tyX8_ok, gw_at 669 (by decide +kernel) (by decide +kernel), gw_at 670 (by decide +kernel) (by decide +kernel), ini_X8, df_X8⟩
theorem ff_X4_9 : gFf RX4 9 4 0 (.array .int) := ⟨RX4, TX4, 4, tyX4, rfl, by decide, uw_X4, gw_at 72 (by decide +kernel) (by decide +kernel), rfl, rfl, by decide +kernel, tyX4_ok, nmX4⟩
def paX4 (cy : Nat → ClassId) (h0 : Nat) (w : va_W) : Prop := ∃ q1 : Nat, w = [(h0, .inr (4, [.ref q1, .int (nI 0), .int (nI 0), .int (nI 0)])), (q1, .inl (cy 0, 56, .inl (nf z0)))]
set_option maxRecDepth 20000 in
theorem caX4 : CtA mX4_init 1 1 56 [] (.inr (4, [.null, .int (nI 0), .int (nI 0), .int (nI 0)])) paX4 := by
  refine CtA.of rfl rfl (fun _ => Nat.le_of_ble_eq_true rfl) ?_
  intro p l e s m args below meth c D cy h0 A ls C hin hl
  have hl : lv_has ls 1 [(0, .ref h0)] := hl
  refine a_aload_n C hl dX4_init_0 rfl (j := 0) rfl ?_
  refine a_obj C hl.1 oi_X4_3 oi_i oi_c (Nat.le_of_ble_eq_true rfl) (Nat.le_of_ble_eq_true rfl) dX4_init_1 ?_
  refine a_aload_n C hl dX4_init_4 rfl (j := 0) rfl ?_
  refine a_bipush (v := nI 56) C dX4_init_5 (by decide) ?_
  refine a_newI (N := 56) C ar_I (nI_pos (rng_lit 56 rfl)) (nI_clamp (rng_lit 56 rfl)) (Nat.le_of_ble_eq_true rfl) (Nat.le_of_ble_eq_true rfl) (Nat.le_of_ble_eq_true rfl) dX4_init_7 (fun q1 => ?_)
  refine a_putF (j := 0) (ws' := [(h0, .inr (4, [.ref q1, .int (nI 0), .int (nI 0), .int (nI 0)])), (q1, .inl (cy 0, 56, .inl (nf z0)))]) C hin ff_X4_9 rfl (Nat.le_of_ble_eq_true rfl) rfl rfl dX4_init_9 rfl ?_
  exact a_vret C rfl dX4_init_12 (Nat.le_of_ble_eq_true rfl) (Nat.le_of_ble_eq_true rfl) ⟨q1, rfl⟩
theorem ff_X1_9 : gFf RX1 9 1 0 (.array .int) := ⟨RX1, TX1, 11, tyX1, rfl, by decide, uw_X1, gw_at 93 (by decide +kernel) (by decide +kernel), rfl, rfl, by decide +kernel, tyX1_ok, nmX1⟩
theorem ff_X1_15 : gFf RX1 15 1 1 (.array .boolean) := ⟨RX1, TX1, 11, tyX1, rfl, by decide, uw_X1, gw_at 94 (by decide +kernel) (by decide +kernel), rfl, rfl, by decide +kernel, tyX1_ok, nmX1⟩
theorem ff_X1_19 : gFf RX1 19 1 2 (.array .int) := ⟨RX1, TX1, 11, tyX1, rfl, by decide, uw_X1, gw_at 95 (by decide +kernel) (by decide +kernel), rfl, rfl, by decide +kernel, tyX1_ok, nmX1⟩
theorem ff_X1_22 : gFf RX1 22 1 3 (.array .int) := ⟨RX1, TX1, 11, tyX1, rfl, by decide, uw_X1, gw_at 96 (by decide +kernel) (by decide +kernel), rfl, rfl, by decide +kernel, tyX1_ok, nmX1⟩
theorem ff_X1_25 : gFf RX1 25 1 4 (.array .int) := ⟨RX1, TX1, 11, tyX1, rfl, by decide, uw_X1, gw_at 97 (by decide +kernel) (by decide +kernel), rfl, rfl, by decide +kernel, tyX1_ok, nmX1⟩
def paX1 (cy : Nat → ClassId) (h0 : Nat) (w : va_W) : Prop := ∃ q1 q2 q3 q4 q5 : Nat, w = [(h0, .inr (1, [.ref q1, .ref q2, .ref q3, .ref q4, .ref q5, .int (nI 0), .int (nI 0), .int (nI 0), .int (nI 0), .int (nI 1), .int (nI 0)])), (q1, .inl (cy 0, 10, .inl (nf z0))), (q2, .inl (cy 2, 10, .inl (nf z0))), (q3, .inl (cy 0, 10, .inl (nf z0))), (q4, .inl (cy 0, 5, .inl (nf z0))), (q5, .inl (cy 0, 5, .inl (nf z0)))]
set_option maxRecDepth 20000 in
theorem caX1 : CtA mX1_init 1 5 40 [] (.inr (1, [.null, .null, .null, .null, .null, .int (nI 0), .int (nI 0), .int (nI 0), .int (nI 0), .int (nI 0), .int (nI 0)])) paX1 := by
  refine CtA.of rfl rfl (fun _ => Nat.le_of_ble_eq_true rfl) ?_
  intro p l e s m args below meth c D cy h0 A ls C hin hl
  have hl : lv_has ls 1 [(0, .ref h0)] := hl
  refine a_aload_n C hl dX1_init_0 rfl (j := 0) rfl ?_
  refine a_obj C hl.1 oi_X1_3 oi_i oi_c (Nat.le_of_ble_eq_true rfl) (Nat.le_of_ble_eq_true rfl) dX1_init_1 ?_
  refine a_aload_n C hl dX1_init_4 rfl (j := 0) rfl ?_
  refine a_bipush (v := nI 10) C dX1_init_5 (by decide) ?_
  refine a_newI (N := 10) C ar_I (nI_pos (rng_lit 10 rfl)) (nI_clamp (rng_lit 10 rfl)) (Nat.le_of_ble_eq_true rfl) (Nat.le_of_ble_eq_true rfl) (Nat.le_of_ble_eq_true rfl) dX1_init_7 (fun q1 => ?_)
  refine a_putF (j := 0) (ws' := [(h0, .inr (1, [.ref q1, .null, .null, .null, .null, .int (nI 0), .int (nI 0), .int (nI 0), .int (nI 0), .int (nI 0), .int (nI 0)])), (q1, .inl (cy 0, 10, .inl (nf z0)))]) C hin ff_X1_9 rfl (Nat.le_of_ble_eq_true rfl) rfl rfl dX1_init_9 rfl ?_
  refine a_aload_n C hl dX1_init_12 rfl (j := 0) rfl ?_
  refine a_bipush (v := nI 10) C dX1_init_13 (by decide) ?_
  refine a_newZ (N := 10) C ar_Z (nI_pos (rng_lit 10 rfl)) (nI_clamp (rng_lit 10 rfl)) (Nat.le_of_ble_eq_true rfl) (Nat.le_of_ble_eq_true rfl) (Nat.le_of_ble_eq_true rfl) dX1_init_15 (fun q2 => ?_)
  refine a_putF (j := 0) (ws' := [(h0, .inr (1, [.ref q1, .ref q2, .null, .null, .null, .int (nI 0), .int (nI 0), .int (nI 0), .int (nI 0), .int (nI 0), .int (nI 0)])), (q1, .inl (cy 0, 10, .inl (nf z0))), (q2, .inl (cy 2, 10, .inl (nf z0)))]) C hin ff_X1_15 rfl (Nat.le_of_ble_eq_true rfl) rfl rfl dX1_init_17 rfl ?_
  refine a_aload_n C hl dX1_init_20 rfl (j := 0) rfl ?_
  refine a_bipush (v := nI 10) C dX1_init_21 (by decide) ?_
  refine a_newI (N := 10) C ar_I (nI_pos (rng_lit 10 rfl)) (nI_clamp (rng_lit 10 rfl)) (Nat.le_of_ble_eq_true rfl) (Nat.le_of_ble_eq_true rfl) (Nat.le_of_ble_eq_true rfl) dX1_init_23 (fun q3 => ?_)
  refine a_putF (j := 0) (ws' := [(h0, .inr (1, [.ref q1, .ref q2, .ref q3, .null, .null, .int (nI 0), .int (nI 0), .int (nI 0), .int (nI 0), .int (nI 0), .int (nI 0)])), (q1, .inl (cy 0, 10, .inl (nf z0))), (q2, .inl (cy 2, 10, .inl (nf z0))), (q3, .inl (cy 0, 10, .inl (nf z0)))]) C hin ff_X1_19 rfl (Nat.le_of_ble_eq_true rfl) rfl rfl dX1_init_25 rfl ?_
  refine a_aload_n C hl dX1_init_28 rfl (j := 0) rfl ?_
  refine a_iconst (v := nI 5) C dX1_init_29 (by decide) ?_
  refine a_newI (N := 5) C ar_I (nI_pos (rng_lit 5 rfl)) (nI_clamp (rng_lit 5 rfl)) (Nat.le_of_ble_eq_true rfl) (Nat.le_of_ble_eq_true rfl) (Nat.le_of_ble_eq_true rfl) dX1_init_30 (fun q4 => ?_)
  refine a_putF (j := 0) (ws' := [(h0, .inr (1, [.ref q1, .ref q2, .ref q3, .ref q4, .null, .int (nI 0), .int (nI 0), .int (nI 0), .int (nI 0), .int (nI 0), .int (nI 0)])), (q1, .inl (cy 0, 10, .inl (nf z0))), (q2, .inl (cy 2, 10, .inl (nf z0))), (q3, .inl (cy 0, 10, .inl (nf z0))), (q4, .inl (cy 0, 5, .inl (nf z0)))]) C hin ff_X1_22 rfl (Nat.le_of_ble_eq_true rfl) rfl rfl dX1_init_32 rfl ?_
  refine a_aload_n C hl dX1_init_35 rfl (j := 0) rfl ?_
  refine a_iconst (v := nI 5) C dX1_init_36 (by decide) ?_
  refine a_newI (N := 5) C ar_I (nI_pos (rng_lit 5 rfl)) (nI_clamp (rng_lit 5 rfl)) (Nat.le_of_ble_eq_true rfl) (Nat.le_of_ble_eq_true rfl) (Nat.le_of_ble_eq_true rfl) dX1_init_37 (fun q5 => ?_)
  refine a_putF (j := 0) (ws' := [(h0, .inr (1, [.ref q1, .ref q2, .ref q3, .ref q4, .ref q5, .int (nI 0), .int (nI 0), .int (nI 0), .int (nI 0), .int (nI 0), .int (nI 0)])), (q1, .inl (cy 0, 10, .inl (nf z0))), (q2, .inl (cy 2, 10, .inl (nf z0))), (q3, .inl (cy 0, 10, .inl (nf z0))), (q4, .inl (cy 0, 5, .inl (nf z0))), (q5, .inl (cy 0, 5, .inl (nf z0)))]) C hin ff_X1_25 rfl (Nat.le_of_ble_eq_true rfl) rfl rfl dX1_init_39 rfl ?_
  refine a_aload_n C hl dX1_init_42 rfl (j := 0) rfl ?_
  refine a_iconst (v := nI 1) C dX1_init_43 (by decide) ?_
  refine a_put (j := 0) (ws' := [(h0, .inr (1, [.ref q1, .ref q2, .ref q3, .ref q4, .ref q5, .int (nI 0), .int (nI 0), .int (nI 0), .int (nI 0), .int (nI 1), .int (nI 0)])), (q1, .inl (cy 0, 10, .inl (nf z0))), (q2, .inl (cy 2, 10, .inl (nf z0))), (q3, .inl (cy 0, 10, .inl (nf z0))), (q4, .inl (cy 0, 5, .inl (nf z0))), (q5, .inl (cy 0, 5, .inl (nf z0)))]) C fX1_28 fp_X1_9 rfl (Nat.le_of_ble_eq_true rfl) rfl rfl dX1_init_44 rfl ?_
  exact a_vret C rfl dX1_init_47 (Nat.le_of_ble_eq_true rfl) (Nat.le_of_ble_eq_true rfl) ⟨q1, q2, q3, q4, q5, rfl⟩
theorem ff_X2_11 : gFf RX2 11 2 0 (.array .int) := ⟨RX2, TX2, 1, tyX2, rfl, by decide, uw_X2, gw_at 145 (by decide +kernel) (by decide +kernel), rfl, rfl, by decide +kernel, tyX2_ok, nmX2⟩
def paX2 (cy : Nat → ClassId) (h0 : Nat) (w : va_W) : Prop := ∃ q1 : Nat, w = [(h0, .inr (2, [.ref q1])), (q1, .inl (cy 0, 16, .inl (nf z0)))]
set_option maxRecDepth 20000 in
theorem caX2 : CtA mX2_init 1 1 16 [] (.inr (2, [.null])) paX2 := by
  refine CtA.of rfl rfl (fun _ => Nat.le_of_ble_eq_true rfl) ?_
  intro p l e s m args below meth c D cy h0 A ls C hin hl
  have hl : lv_has ls 1 [(0, .ref h0)] := hl
  refine a_aload_n C hl dX2_init_0 rfl (j := 0) rfl ?_
  refine a_obj C hl.1 oi_X2_5 oi_i oi_c (Nat.le_of_ble_eq_true rfl) (Nat.le_of_ble_eq_true rfl) dX2_init_1 ?_
  refine a_aload_n C hl dX2_init_4 rfl (j := 0) rfl ?_
  refine a_bipush (v := nI 16) C dX2_init_5 (by decide) ?_
  refine a_newI (N := 16) C ar_I (nI_pos (rng_lit 16 rfl)) (nI_clamp (rng_lit 16 rfl)) (Nat.le_of_ble_eq_true rfl) (Nat.le_of_ble_eq_true rfl) (Nat.le_of_ble_eq_true rfl) dX2_init_7 (fun q1 => ?_)
  refine a_putF (j := 0) (ws' := [(h0, .inr (2, [.ref q1])), (q1, .inl (cy 0, 16, .inl (nf z0)))]) C hin ff_X2_11 rfl (Nat.le_of_ble_eq_true rfl) rfl rfl dX2_init_9 rfl ?_
  exact a_vret C rfl dX2_init_12 (Nat.le_of_ble_eq_true rfl) (Nat.le_of_ble_eq_true rfl) ⟨q1, rfl⟩
theorem ff_X3_13 : gFf RX3 13 3 0 .int := ⟨RX3, TX3, 2, tyX3, rfl, by decide, uw_X3, gw_at 165 (by decide +kernel) (by decide +kernel), rfl, rfl, by decide +kernel, tyX3_ok, nmX3⟩
theorem ff_X3_21 : gFf RX3 21 3 1 (.array .int) := ⟨RX3, TX3, 2, tyX3, rfl, by decide, uw_X3, gw_at 166 (by decide +kernel) (by decide +kernel), rfl, rfl, by decide +kernel, tyX3_ok, nmX3⟩
def paX3a (cy : Nat → ClassId) (h0 : Nat) (w : va_W) : Prop := ∃ q1 : Nat, w = [(h0, .inr (3, [.int (nI 16), .ref q1])), (q1, .inl (cy 0, 256, .inl (nf z0)))]
set_option maxRecDepth 20000 in
theorem caX3a : CtA mX3_init 1 1 256 [.int (nI 16)] (.inr (3, [.int (nI 0), .null])) paX3a := by
  refine CtA.of rfl rfl (fun _ => Nat.le_of_ble_eq_true rfl) ?_
  intro p l e s m args below meth c D cy h0 A ls C hin hl
  have hl : lv_has ls 2 [(0, .ref h0), (1, .int (nI 16))] := hl
  refine a_aload_n C hl dX3_init_0 rfl (j := 0) rfl ?_
  refine a_obj C hl.1 oi_X3_1 oi_i oi_c (Nat.le_of_ble_eq_true rfl) (Nat.le_of_ble_eq_true rfl) dX3_init_1 ?_
  refine a_aload_n C hl dX3_init_4 rfl (j := 0) rfl ?_
  refine a_iconst (v := nI 0) C dX3_init_5 (by decide) ?_
  refine a_iload_n C hl dX3_init_6 rfl (j := 1) rfl ?_
  refine a_mmax (v := (nI 16)) C hl.1 lmX3_7 (Nat.le_of_ble_eq_true rfl) (Nat.le_of_ble_eq_true rfl) (Nat.le_of_ble_eq_true rfl) (Nat.le_of_ble_eq_true rfl) dX3_init_7 (by decide) ?_
  refine a_putF (j := 0) (ws' := [(h0, .inr (3, [.int (nI 16), .null]))]) C hin ff_X3_13 rfl (Nat.le_of_ble_eq_true rfl) rfl rfl dX3_init_10 rfl ?_
  refine a_aload_n C hl dX3_init_13 rfl (j := 0) rfl ?_
  refine a_aload_n C hl dX3_init_14 rfl (j := 0) rfl ?_
  refine a_get (j := 0) C fX3_13 rfl rfl dX3_init_15 ?_
  refine a_bipush (v := nI 16) C dX3_init_18 (by decide) ?_
  refine a_imul (v := nI 256) C dX3_init_20 (by decide) ?_
  refine a_newI (N := 256) C ar_I (nI_pos (rng_lit 256 rfl)) (nI_clamp (rng_lit 256 rfl)) (Nat.le_of_ble_eq_true rfl) (Nat.le_of_ble_eq_true rfl) (Nat.le_of_ble_eq_true rfl) dX3_init_21 (fun q1 => ?_)
  refine a_putF (j := 0) (ws' := [(h0, .inr (3, [.int (nI 16), .ref q1])), (q1, .inl (cy 0, 256, .inl (nf z0)))]) C hin ff_X3_21 rfl (Nat.le_of_ble_eq_true rfl) rfl rfl dX3_init_23 rfl ?_
  exact a_vret C rfl dX3_init_26 (Nat.le_of_ble_eq_true rfl) (Nat.le_of_ble_eq_true rfl) ⟨q1, rfl⟩
def paX3s (cy : Nat → ClassId) (h0 : Nat) (w : va_W) : Prop := ∃ q1 : Nat, w = [(h0, .inr (3, [.int (nI 2), .ref q1])), (q1, .inl (cy 0, 32, .inl (nf z0)))]
set_option maxRecDepth 20000 in
theorem caX3s : CtA mX3_init 1 1 32 [.int (nI 2)] (.inr (3, [.int (nI 0), .null])) paX3s := by
  refine CtA.of rfl rfl (fun _ => Nat.le_of_ble_eq_true rfl) ?_
  intro p l e s m args below meth c D cy h0 A ls C hin hl
  have hl : lv_has ls 2 [(0, .ref h0), (1, .int (nI 2))] := hl
  refine a_aload_n C hl dX3_init_0 rfl (j := 0) rfl ?_
  refine a_obj C hl.1 oi_X3_1 oi_i oi_c (Nat.le_of_ble_eq_true rfl) (Nat.le_of_ble_eq_true rfl) dX3_init_1 ?_
  refine a_aload_n C hl dX3_init_4 rfl (j := 0) rfl ?_
  refine a_iconst (v := nI 0) C dX3_init_5 (by decide) ?_
  refine a_iload_n C hl dX3_init_6 rfl (j := 1) rfl ?_
  refine a_mmax (v := (nI 2)) C hl.1 lmX3_7 (Nat.le_of_ble_eq_true rfl) (Nat.le_of_ble_eq_true rfl) (Nat.le_of_ble_eq_true rfl) (Nat.le_of_ble_eq_true rfl) dX3_init_7 (by decide) ?_
  refine a_putF (j := 0) (ws' := [(h0, .inr (3, [.int (nI 2), .null]))]) C hin ff_X3_13 rfl (Nat.le_of_ble_eq_true rfl) rfl rfl dX3_init_10 rfl ?_
  refine a_aload_n C hl dX3_init_13 rfl (j := 0) rfl ?_
  refine a_aload_n C hl dX3_init_14 rfl (j := 0) rfl ?_
  refine a_get (j := 0) C fX3_13 rfl rfl dX3_init_15 ?_
  refine a_bipush (v := nI 16) C dX3_init_18 (by decide) ?_
  refine a_imul (v := nI 32) C dX3_init_20 (by decide) ?_
  refine a_newI (N := 32) C ar_I (nI_pos (rng_lit 32 rfl)) (nI_clamp (rng_lit 32 rfl)) (Nat.le_of_ble_eq_true rfl) (Nat.le_of_ble_eq_true rfl) (Nat.le_of_ble_eq_true rfl) dX3_init_21 (fun q1 => ?_)
  refine a_putF (j := 0) (ws' := [(h0, .inr (3, [.int (nI 2), .ref q1])), (q1, .inl (cy 0, 32, .inl (nf z0)))]) C hin ff_X3_21 rfl (Nat.le_of_ble_eq_true rfl) rfl rfl dX3_init_23 rfl ?_
  exact a_vret C rfl dX3_init_26 (Nat.le_of_ble_eq_true rfl) (Nat.le_of_ble_eq_true rfl) ⟨q1, rfl⟩
theorem ff_X0_14 : gFf RX0 14 0 0 (.object "OverSands$Shelf") := ⟨RX0, TX0, 3, tyX0, rfl, by decide, uw_X0, gw_at 172 (by decide +kernel) (by decide +kernel), rfl, rfl, by decide +kernel, tyX0_ok, nmX0⟩
def paX0 (cy : Nat → ClassId) (h0 : Nat) (w : va_W) : Prop := ∃ q1 q2 : Nat, w = [(h0, .inr (0, [.ref q1, .int (nI 0), .int (nI 0)])), (q1, .inr (3, [.int (nI 16), .ref q2])), (q2, .inl (cy 0, 256, .inl (nf z0)))]
set_option maxRecDepth 20000 in
theorem caX0 : CtA mX0_init 2 2 258 [] (.inr (0, [.null, .int (nI 0), .int (nI 0)])) paX0 := by
  refine CtA.of rfl rfl (fun _ => Nat.le_of_ble_eq_true rfl) ?_
  intro p l e s m args below meth c D cy h0 A ls C hin hl
  have hl : lv_has ls 1 [(0, .ref h0)] := hl
  refine a_aload_n C hl dX0_init_0 rfl (j := 0) rfl ?_
  refine a_obj C hl.1 oi_X0_3 oi_i oi_c (Nat.le_of_ble_eq_true rfl) (Nat.le_of_ble_eq_true rfl) dX0_init_1 ?_
  refine a_aload_n C hl dX0_init_4 rfl (j := 0) rfl ?_
  refine a_new C nw_X0_9 (Nat.le_of_ble_eq_true rfl) (Nat.le_of_ble_eq_true rfl) dX0_init_5 (fun q1 => ?_)
  refine a_dup C dX0_init_8 ?_
  refine a_bipush (v := nI 16) C dX0_init_9 (by decide) ?_
  refine a_call C caX3a kX3_init rfl rfl in_X3 il_X0_11 ⟨Nat.le_of_ble_eq_true rfl, Nat.le_of_ble_eq_true rfl⟩ hl.1 rfl (Nat.le_of_ble_eq_true rfl) ⟨Nat.le_of_ble_eq_true rfl, Nat.le_of_ble_eq_true rfl⟩ dX0_init_11 rfl ?_
  rintro _ ⟨q2, rfl⟩
  refine a_putF (j := 0) (ws' := [(h0, .inr (0, [.ref q1, .int (nI 0), .int (nI 0)])), (q1, .inr (3, [.int (nI 16), .ref q2])), (q2, .inl (cy 0, 256, .inl (nf z0)))]) C hin ff_X0_14 rfl (Nat.le_of_ble_eq_true rfl) rfl rfl dX0_init_14 rfl ?_
  exact a_vret C rfl dX0_init_17 (Nat.le_of_ble_eq_true rfl) (Nat.le_of_ble_eq_true rfl) ⟨q1, q2, rfl⟩
def paX5 (_ : Nat → ClassId) (h0 : Nat) (w : va_W) : Prop := w = [(h0, .inr (5, [.int (nI 0), .int (nI 0), .int (nI 0), .int (nI 0), .int (nI 0), .int (nI 0)]))]
set_option maxRecDepth 20000 in
theorem caX5 : CtA mX5_init 1 0 0 [] (.inr (5, [.int (nI 0), .int (nI 0), .int (nI 0), .int (nI 0), .int (nI 0), .int (nI 0)])) paX5 := by
  refine CtA.of rfl rfl (fun _ => Nat.le_of_ble_eq_true rfl) ?_
  intro p l e s m args below meth c D cy h0 A ls C hin hl
  have hl : lv_has ls 1 [(0, .ref h0)] := hl
  refine a_aload_n C hl dX5_init_0 rfl (j := 0) rfl ?_
  refine a_obj C hl.1 oi_X5_3 oi_i oi_c (Nat.le_of_ble_eq_true rfl) (Nat.le_of_ble_eq_true rfl) dX5_init_1 ?_
  exact a_vret C rfl dX5_init_4 (Nat.le_of_ble_eq_true rfl) (Nat.le_of_ble_eq_true rfl) rfl
theorem ff_X6_9 : gFf RX6 9 6 0 (.array .int) := ⟨RX6, TX6, 2, tyX6, rfl, by decide, uw_X6, gw_at 220 (by decide +kernel) (by decide +kernel), rfl, rfl, by decide +kernel, tyX6_ok, nmX6⟩
theorem ff_X6_15 : gFf RX6 15 6 1 (.array .int) := ⟨RX6, TX6, 2, tyX6, rfl, by decide, uw_X6, gw_at 221 (by decide +kernel) (by decide +kernel), rfl, rfl, by decide +kernel, tyX6_ok, nmX6⟩
def paX6 (cy : Nat → ClassId) (h0 : Nat) (w : va_W) : Prop := ∃ q1 q2 : Nat, w = [(h0, .inr (6, [.ref q1, .ref q2])), (q1, .inl (cy 0, 10, .inl (nf z0))), (q2, .inl (cy 0, 10, .inl (nf z0)))]
set_option maxRecDepth 20000 in
theorem caX6 : CtA mX6_init 1 2 20 [] (.inr (6, [.null, .null])) paX6 := by
  refine CtA.of rfl rfl (fun _ => Nat.le_of_ble_eq_true rfl) ?_
  intro p l e s m args below meth c D cy h0 A ls C hin hl
  have hl : lv_has ls 1 [(0, .ref h0)] := hl
  refine a_aload_n C hl dX6_init_0 rfl (j := 0) rfl ?_
  refine a_obj C hl.1 oi_X6_3 oi_i oi_c (Nat.le_of_ble_eq_true rfl) (Nat.le_of_ble_eq_true rfl) dX6_init_1 ?_
  refine a_aload_n C hl dX6_init_4 rfl (j := 0) rfl ?_
  refine a_bipush (v := nI 10) C dX6_init_5 (by decide) ?_
  refine a_newI (N := 10) C ar_I (nI_pos (rng_lit 10 rfl)) (nI_clamp (rng_lit 10 rfl)) (Nat.le_of_ble_eq_true rfl) (Nat.le_of_ble_eq_true rfl) (Nat.le_of_ble_eq_true rfl) dX6_init_7 (fun q1 => ?_)
  refine a_putF (j := 0) (ws' := [(h0, .inr (6, [.ref q1, .null])), (q1, .inl (cy 0, 10, .inl (nf z0)))]) C hin ff_X6_9 rfl (Nat.le_of_ble_eq_true rfl) rfl rfl dX6_init_9 rfl ?_
  refine a_aload_n C hl dX6_init_12 rfl (j := 0) rfl ?_
  refine a_bipush (v := nI 10) C dX6_init_13 (by decide) ?_
  refine a_newI (N := 10) C ar_I (nI_pos (rng_lit 10 rfl)) (nI_clamp (rng_lit 10 rfl)) (Nat.le_of_ble_eq_true rfl) (Nat.le_of_ble_eq_true rfl) (Nat.le_of_ble_eq_true rfl) dX6_init_15 (fun q2 => ?_)
  refine a_putF (j := 0) (ws' := [(h0, .inr (6, [.ref q1, .ref q2])), (q1, .inl (cy 0, 10, .inl (nf z0))), (q2, .inl (cy 0, 10, .inl (nf z0)))]) C hin ff_X6_15 rfl (Nat.le_of_ble_eq_true rfl) rfl rfl dX6_init_17 rfl ?_
  exact a_vret C rfl dX6_init_20 (Nat.le_of_ble_eq_true rfl) (Nat.le_of_ble_eq_true rfl) ⟨q1, q2, rfl⟩
/-- the worlds of a new OverSands, of a new OverSandsModel -/
def wC0 : List va_E := wC (kO 0) (kT 0 0 0) (kI 56 z0) (kG3 0 0 0 0 1 0) (kI 10 z0) (kZ 10 z0) (kI 10 z0) (kI 5 z0) (kI 5 z0) (kG9 0 0 0 0 1 0) (kI 10 z0) (kZ 10 z0) (kI 10 z0) (kI 5 z0) (kI 5 z0) (kI 16 z0) (kA 0 0) (kI 256 z0) (kI 32 z0) (kZ 2 z0) (kPt (0, 0, 0, 0, 0, 0)) (kI 10 z0) (kI 10 z0)
def wM0 : List va_E := wM (kM 0 0 0 0 1 0 0 0 0 (nI 0) (nI 0) (nI 0) 0 0 0 0 0 0 0 0) (kI 56 z0) (kI 10 z0) (kI 5 z0) (kI 5 z0) (kI 2 z0) (kI 2 z0) (kR 10 (nf z0)) (kI 5 z0) (kI 5 z0) (kI 2 z0) (kI 2 z0) (kI 16 z0) (kI 256 z0) (kI 32 z0) (kZ 2 z0) (kJ 10 z0) (kJ 10 z0)
theorem ff_X7_10 : gFf RX7 10 7 0 (.object "OverSands$Telling") := ⟨RX7, TX7, 10, tyX7, rfl, by decide, uw_X7, gw_at 227 (by decide +kernel) (by decide +kernel), rfl, rfl, by decide +kernel, tyX7_ok, nmX7⟩
theorem ff_X7_19 : gFf RX7 19 7 1 (.object "OverSands$Ground") := ⟨RX7, TX7, 10, tyX7, rfl, by decide, uw_X7, gw_at 228 (by decide +kernel) (by decide +kernel), rfl, rfl, by decide +kernel, tyX7_ok, nmX7⟩
theorem ff_X7_23 : gFf RX7 23 7 2 (.object "OverSands$Ground") := ⟨RX7, TX7, 10, tyX7, rfl, by decide, uw_X7, gw_at 229 (by decide +kernel) (by decide +kernel), rfl, rfl, by decide +kernel, tyX7_ok, nmX7⟩
theorem ff_X7_29 : gFf RX7 29 7 3 (.object "OverSands$Moment") := ⟨RX7, TX7, 10, tyX7, rfl, by decide, uw_X7, gw_at 230 (by decide +kernel) (by decide +kernel), rfl, rfl, by decide +kernel, tyX7_ok, nmX7⟩
theorem ff_X7_36 : gFf RX7 36 7 4 (.object "OverSands$Acts") := ⟨RX7, TX7, 10, tyX7, rfl, by decide, uw_X7, gw_at 231 (by decide +kernel) (by decide +kernel), rfl, rfl, by decide +kernel, tyX7_ok, nmX7⟩
theorem ff_X7_45 : gFf RX7 45 7 5 (.object "OverSands$Shelf") := ⟨RX7, TX7, 10, tyX7, rfl, by decide, uw_X7, gw_at 232 (by decide +kernel) (by decide +kernel), rfl, rfl, by decide +kernel, tyX7_ok, nmX7⟩
theorem ff_X7_49 : gFf RX7 49 7 6 (.array .boolean) := ⟨RX7, TX7, 10, tyX7, rfl, by decide, uw_X7, gw_at 233 (by decide +kernel) (by decide +kernel), rfl, rfl, by decide +kernel, tyX7_ok, nmX7⟩
theorem ff_X7_56 : gFf RX7 56 7 7 (.object "OverSands$Trip") := ⟨RX7, TX7, 10, tyX7, rfl, by decide, uw_X7, gw_at 234 (by decide +kernel) (by decide +kernel), rfl, rfl, by decide +kernel, tyX7_ok, nmX7⟩
theorem ff_X7_63 : gFf RX7 63 7 8 (.object "OverSands$Wander") := ⟨RX7, TX7, 10, tyX7, rfl, by decide, uw_X7, gw_at 235 (by decide +kernel) (by decide +kernel), rfl, rfl, by decide +kernel, tyX7_ok, nmX7⟩
def paX7 (cy : Nat → ClassId) (h0 : Nat) (w : va_W) : Prop := ∃ ad : Nat → Nat, ad 0 = h0 ∧ w = gC ad cy wC0
set_option maxRecDepth 20000 in
theorem caX7 : CtA mX7_init 3 26 504 [] (.inr (7, [.null, .null, .null, .null, .null, .null, .null, .null, .null, .long 0])) paX7 := by
  refine CtA.of rfl rfl (fun _ => Nat.le_of_ble_eq_true rfl) ?_
  intro p l e s m args below meth c D cy h0 A ls C hin hl
  have hl : lv_has ls 1 [(0, .ref h0)] := hl
  refine a_aload_n C hl dX7_init_0 rfl (j := 0) rfl ?_
  refine a_obj C hl.1 oi_X7_1 oi_i oi_c (Nat.le_of_ble_eq_true rfl) (Nat.le_of_ble_eq_true rfl) dX7_init_1 ?_
  refine a_aload_n C hl dX7_init_4 rfl (j := 0) rfl ?_
  refine a_new C nw_X7_7 (Nat.le_of_ble_eq_true rfl) (Nat.le_of_ble_eq_true rfl) dX7_init_5 (fun q1 => ?_)
  refine a_dup C dX7_init_8 ?_
  refine a_call C caX4 kX4_init rfl rfl in_X4 il_X7_9 ⟨Nat.le_of_ble_eq_true rfl, Nat.le_of_ble_eq_true rfl⟩ hl.1 rfl (Nat.le_of_ble_eq_true rfl) ⟨Nat.le_of_ble_eq_true rfl, Nat.le_of_ble_eq_true rfl⟩ dX7_init_9 rfl ?_
  rintro _ ⟨q2, rfl⟩
  refine a_putF (j := 0) (ws' := [(h0, .inr (7, [.ref q1, .null, .null, .null, .null, .null, .null, .null, .null, .long 0])), (q1, .inr (4, [.ref q2, .int (nI 0), .int (nI 0), .int (nI 0)])), (q2, .inl (cy 0, 56, .inl (nf z0)))]) C hin ff_X7_10 rfl (Nat.le_of_ble_eq_true rfl) rfl rfl dX7_init_12 rfl ?_
  refine a_aload_n C hl dX7_init_15 rfl (j := 0) rfl ?_
  refine a_new C nw_X7_16 (Nat.le_of_ble_eq_true rfl) (Nat.le_of_ble_eq_true rfl) dX7_init_16 (fun q3 => ?_)
  refine a_dup C dX7_init_19 ?_
  refine a_call C caX1 kX1_init rfl rfl in_X1 il_X7_18 ⟨Nat.le_of_ble_eq_true rfl, Nat.le_of_ble_eq_true rfl⟩ hl.1 rfl (Nat.le_of_ble_eq_true rfl) ⟨Nat.le_of_ble_eq_true rfl, Nat.le_of_ble_eq_true rfl⟩ dX7_init_20 rfl ?_
  rintro _ ⟨q4, q5, q6, q7, q8, rfl⟩
  refine a_putF (j := 0) (ws' := [(h0, .inr (7, [.ref q1, .ref q3, .null, .null, .null, .null, .null, .null, .null, .long 0])), (q1, .inr (4, [.ref q2, .int (nI 0), .int (nI 0), .int (nI 0)])), (q2, .inl (cy 0, 56, .inl (nf z0))), (q3, .inr (1, [.ref q4, .ref q5, .ref q6, .ref q7, .ref q8, .int (nI 0), .int (nI 0), .int (nI 0), .int (nI 0), .int (nI 1), .int (nI 0)])), (q4, .inl (cy 0, 10, .inl (nf z0))), (q5, .inl (cy 2, 10, .inl (nf z0))), (q6, .inl (cy 0, 10, .inl (nf z0))), (q7, .inl (cy 0, 5, .inl (nf z0))), (q8, .inl (cy 0, 5, .inl (nf z0)))]) C hin ff_X7_19 rfl (Nat.le_of_ble_eq_true rfl) rfl rfl dX7_init_23 rfl ?_
  refine a_aload_n C hl dX7_init_26 rfl (j := 0) rfl ?_
  refine a_new C nw_X7_16 (Nat.le_of_ble_eq_true rfl) (Nat.le_of_ble_eq_true rfl) dX7_init_27 (fun q9 => ?_)
  refine a_dup C dX7_init_30 ?_
  refine a_call C caX1 kX1_init rfl rfl in_X1 il_X7_18 ⟨Nat.le_of_ble_eq_true rfl, Nat.le_of_ble_eq_true rfl⟩ hl.1 rfl (Nat.le_of_ble_eq_true rfl) ⟨Nat.le_of_ble_eq_true rfl, Nat.le_of_ble_eq_true rfl⟩ dX7_init_31 rfl ?_
  rintro _ ⟨q10, q11, q12, q13, q14, rfl⟩
  refine a_putF (j := 0) (ws' := [(h0, .inr (7, [.ref q1, .ref q3, .ref q9, .null, .null, .null, .null, .null, .null, .long 0])), (q1, .inr (4, [.ref q2, .int (nI 0), .int (nI 0), .int (nI 0)])), (q2, .inl (cy 0, 56, .inl (nf z0))), (q3, .inr (1, [.ref q4, .ref q5, .ref q6, .ref q7, .ref q8, .int (nI 0), .int (nI 0), .int (nI 0), .int (nI 0), .int (nI 1), .int (nI 0)])), (q4, .inl (cy 0, 10, .inl (nf z0))), (q5, .inl (cy 2, 10, .inl (nf z0))), (q6, .inl (cy 0, 10, .inl (nf z0))), (q7, .inl (cy 0, 5, .inl (nf z0))), (q8, .inl (cy 0, 5, .inl (nf z0))), (q9, .inr (1, [.ref q10, .ref q11, .ref q12, .ref q13, .ref q14, .int (nI 0), .int (nI 0), .int (nI 0), .int (nI 0), .int (nI 1), .int (nI 0)])), (q10, .inl (cy 0, 10, .inl (nf z0))), (q11, .inl (cy 2, 10, .inl (nf z0))), (q12, .inl (cy 0, 10, .inl (nf z0))), (q13, .inl (cy 0, 5, .inl (nf z0))), (q14, .inl (cy 0, 5, .inl (nf z0)))]) C hin ff_X7_23 rfl (Nat.le_of_ble_eq_true rfl) rfl rfl dX7_init_34 rfl ?_
  refine a_aload_n C hl dX7_init_37 rfl (j := 0) rfl ?_
  refine a_new C nw_X7_26 (Nat.le_of_ble_eq_true rfl) (Nat.le_of_ble_eq_true rfl) dX7_init_38 (fun q15 => ?_)
  refine a_dup C dX7_init_41 ?_
  refine a_call C caX2 kX2_init rfl rfl in_X2 il_X7_28 ⟨Nat.le_of_ble_eq_true rfl, Nat.le_of_ble_eq_true rfl⟩ hl.1 rfl (Nat.le_of_ble_eq_true rfl) ⟨Nat.le_of_ble_eq_true rfl, Nat.le_of_ble_eq_true rfl⟩ dX7_init_42 rfl ?_
  rintro _ ⟨q16, rfl⟩
  refine a_putF (j := 0) (ws' := [(h0, .inr (7, [.ref q1, .ref q3, .ref q9, .ref q15, .null, .null, .null, .null, .null, .long 0])), (q1, .inr (4, [.ref q2, .int (nI 0), .int (nI 0), .int (nI 0)])), (q2, .inl (cy 0, 56, .inl (nf z0))), (q3, .inr (1, [.ref q4, .ref q5, .ref q6, .ref q7, .ref q8, .int (nI 0), .int (nI 0), .int (nI 0), .int (nI 0), .int (nI 1), .int (nI 0)])), (q4, .inl (cy 0, 10, .inl (nf z0))), (q5, .inl (cy 2, 10, .inl (nf z0))), (q6, .inl (cy 0, 10, .inl (nf z0))), (q7, .inl (cy 0, 5, .inl (nf z0))), (q8, .inl (cy 0, 5, .inl (nf z0))), (q9, .inr (1, [.ref q10, .ref q11, .ref q12, .ref q13, .ref q14, .int (nI 0), .int (nI 0), .int (nI 0), .int (nI 0), .int (nI 1), .int (nI 0)])), (q10, .inl (cy 0, 10, .inl (nf z0))), (q11, .inl (cy 2, 10, .inl (nf z0))), (q12, .inl (cy 0, 10, .inl (nf z0))), (q13, .inl (cy 0, 5, .inl (nf z0))), (q14, .inl (cy 0, 5, .inl (nf z0))), (q15, .inr (2, [.ref q16])), (q16, .inl (cy 0, 16, .inl (nf z0)))]) C hin ff_X7_29 rfl (Nat.le_of_ble_eq_true rfl) rfl rfl dX7_init_45 rfl ?_
  refine a_aload_n C hl dX7_init_48 rfl (j := 0) rfl ?_
  refine a_new C nw_X7_33 (Nat.le_of_ble_eq_true rfl) (Nat.le_of_ble_eq_true rfl) dX7_init_49 (fun q17 => ?_)
  refine a_dup C dX7_init_52 ?_
  refine a_call C caX0 kX0_init rfl rfl in_X0 il_X7_35 ⟨Nat.le_of_ble_eq_true rfl, Nat.le_of_ble_eq_true rfl⟩ hl.1 rfl (Nat.le_of_ble_eq_true rfl) ⟨Nat.le_of_ble_eq_true rfl, Nat.le_of_ble_eq_true rfl⟩ dX7_init_53 rfl ?_
  rintro _ ⟨q18, q19, rfl⟩
  refine a_putF (j := 0) (ws' := [(h0, .inr (7, [.ref q1, .ref q3, .ref q9, .ref q15, .ref q17, .null, .null, .null, .null, .long 0])), (q1, .inr (4, [.ref q2, .int (nI 0), .int (nI 0), .int (nI 0)])), (q2, .inl (cy 0, 56, .inl (nf z0))), (q3, .inr (1, [.ref q4, .ref q5, .ref q6, .ref q7, .ref q8, .int (nI 0), .int (nI 0), .int (nI 0), .int (nI 0), .int (nI 1), .int (nI 0)])), (q4, .inl (cy 0, 10, .inl (nf z0))), (q5, .inl (cy 2, 10, .inl (nf z0))), (q6, .inl (cy 0, 10, .inl (nf z0))), (q7, .inl (cy 0, 5, .inl (nf z0))), (q8, .inl (cy 0, 5, .inl (nf z0))), (q9, .inr (1, [.ref q10, .ref q11, .ref q12, .ref q13, .ref q14, .int (nI 0), .int (nI 0), .int (nI 0), .int (nI 0), .int (nI 1), .int (nI 0)])), (q10, .inl (cy 0, 10, .inl (nf z0))), (q11, .inl (cy 2, 10, .inl (nf z0))), (q12, .inl (cy 0, 10, .inl (nf z0))), (q13, .inl (cy 0, 5, .inl (nf z0))), (q14, .inl (cy 0, 5, .inl (nf z0))), (q15, .inr (2, [.ref q16])), (q16, .inl (cy 0, 16, .inl (nf z0))), (q17, .inr (0, [.ref q18, .int (nI 0), .int (nI 0)])), (q18, .inr (3, [.int (nI 16), .ref q19])), (q19, .inl (cy 0, 256, .inl (nf z0)))]) C hin ff_X7_36 rfl (Nat.le_of_ble_eq_true rfl) rfl rfl dX7_init_56 rfl ?_
  refine a_aload_n C hl dX7_init_59 rfl (j := 0) rfl ?_
  refine a_new C nw_X7_40 (Nat.le_of_ble_eq_true rfl) (Nat.le_of_ble_eq_true rfl) dX7_init_60 (fun q20 => ?_)
  refine a_dup C dX7_init_63 ?_
  refine a_iconst (v := nI 2) C dX7_init_64 (by decide) ?_
  refine a_call C caX3s kX3_init rfl rfl in_X3 il_X7_42 ⟨Nat.le_of_ble_eq_true rfl, Nat.le_of_ble_eq_true rfl⟩ hl.1 rfl (Nat.le_of_ble_eq_true rfl) ⟨Nat.le_of_ble_eq_true rfl, Nat.le_of_ble_eq_true rfl⟩ dX7_init_65 rfl ?_
  rintro _ ⟨q21, rfl⟩
  refine a_putF (j := 0) (ws' := [(h0, .inr (7, [.ref q1, .ref q3, .ref q9, .ref q15, .ref q17, .ref q20, .null, .null, .null, .long 0])), (q1, .inr (4, [.ref q2, .int (nI 0), .int (nI 0), .int (nI 0)])), (q2, .inl (cy 0, 56, .inl (nf z0))), (q3, .inr (1, [.ref q4, .ref q5, .ref q6, .ref q7, .ref q8, .int (nI 0), .int (nI 0), .int (nI 0), .int (nI 0), .int (nI 1), .int (nI 0)])), (q4, .inl (cy 0, 10, .inl (nf z0))), (q5, .inl (cy 2, 10, .inl (nf z0))), (q6, .inl (cy 0, 10, .inl (nf z0))), (q7, .inl (cy 0, 5, .inl (nf z0))), (q8, .inl (cy 0, 5, .inl (nf z0))), (q9, .inr (1, [.ref q10, .ref q11, .ref q12, .ref q13, .ref q14, .int (nI 0), .int (nI 0), .int (nI 0), .int (nI 0), .int (nI 1), .int (nI 0)])), (q10, .inl (cy 0, 10, .inl (nf z0))), (q11, .inl (cy 2, 10, .inl (nf z0))), (q12, .inl (cy 0, 10, .inl (nf z0))), (q13, .inl (cy 0, 5, .inl (nf z0))), (q14, .inl (cy 0, 5, .inl (nf z0))), (q15, .inr (2, [.ref q16])), (q16, .inl (cy 0, 16, .inl (nf z0))), (q17, .inr (0, [.ref q18, .int (nI 0), .int (nI 0)])), (q18, .inr (3, [.int (nI 16), .ref q19])), (q19, .inl (cy 0, 256, .inl (nf z0))), (q20, .inr (3, [.int (nI 2), .ref q21])), (q21, .inl (cy 0, 32, .inl (nf z0)))]) C hin ff_X7_45 rfl (Nat.le_of_ble_eq_true rfl) rfl rfl dX7_init_68 rfl ?_
  refine a_aload_n C hl dX7_init_71 rfl (j := 0) rfl ?_
  refine a_iconst (v := nI 2) C dX7_init_72 (by decide) ?_
  refine a_newZ (N := 2) C ar_Z (nI_pos (rng_lit 2 rfl)) (nI_clamp (rng_lit 2 rfl)) (Nat.le_of_ble_eq_true rfl) (Nat.le_of_ble_eq_true rfl) (Nat.le_of_ble_eq_true rfl) dX7_init_73 (fun q22 => ?_)
  refine a_putF (j := 0) (ws' := [(h0, .inr (7, [.ref q1, .ref q3, .ref q9, .ref q15, .ref q17, .ref q20, .ref q22, .null, .null, .long 0])), (q1, .inr (4, [.ref q2, .int (nI 0), .int (nI 0), .int (nI 0)])), (q2, .inl (cy 0, 56, .inl (nf z0))), (q3, .inr (1, [.ref q4, .ref q5, .ref q6, .ref q7, .ref q8, .int (nI 0), .int (nI 0), .int (nI 0), .int (nI 0), .int (nI 1), .int (nI 0)])), (q4, .inl (cy 0, 10, .inl (nf z0))), (q5, .inl (cy 2, 10, .inl (nf z0))), (q6, .inl (cy 0, 10, .inl (nf z0))), (q7, .inl (cy 0, 5, .inl (nf z0))), (q8, .inl (cy 0, 5, .inl (nf z0))), (q9, .inr (1, [.ref q10, .ref q11, .ref q12, .ref q13, .ref q14, .int (nI 0), .int (nI 0), .int (nI 0), .int (nI 0), .int (nI 1), .int (nI 0)])), (q10, .inl (cy 0, 10, .inl (nf z0))), (q11, .inl (cy 2, 10, .inl (nf z0))), (q12, .inl (cy 0, 10, .inl (nf z0))), (q13, .inl (cy 0, 5, .inl (nf z0))), (q14, .inl (cy 0, 5, .inl (nf z0))), (q15, .inr (2, [.ref q16])), (q16, .inl (cy 0, 16, .inl (nf z0))), (q17, .inr (0, [.ref q18, .int (nI 0), .int (nI 0)])), (q18, .inr (3, [.int (nI 16), .ref q19])), (q19, .inl (cy 0, 256, .inl (nf z0))), (q20, .inr (3, [.int (nI 2), .ref q21])), (q21, .inl (cy 0, 32, .inl (nf z0))), (q22, .inl (cy 2, 2, .inl (nf z0)))]) C hin ff_X7_49 rfl (Nat.le_of_ble_eq_true rfl) rfl rfl dX7_init_75 rfl ?_
  refine a_aload_n C hl dX7_init_78 rfl (j := 0) rfl ?_
  refine a_new C nw_X7_53 (Nat.le_of_ble_eq_true rfl) (Nat.le_of_ble_eq_true rfl) dX7_init_79 (fun q23 => ?_)
  refine a_dup C dX7_init_82 ?_
  refine a_call C caX5 kX5_init rfl rfl in_X5 il_X7_55 ⟨Nat.le_of_ble_eq_true rfl, Nat.le_of_ble_eq_true rfl⟩ hl.1 rfl (Nat.le_of_ble_eq_true rfl) ⟨Nat.le_of_ble_eq_true rfl, Nat.le_of_ble_eq_true rfl⟩ dX7_init_83 rfl ?_
  rintro _ rfl
  refine a_putF (j := 0) (ws' := [(h0, .inr (7, [.ref q1, .ref q3, .ref q9, .ref q15, .ref q17, .ref q20, .ref q22, .ref q23, .null, .long 0])), (q1, .inr (4, [.ref q2, .int (nI 0), .int (nI 0), .int (nI 0)])), (q2, .inl (cy 0, 56, .inl (nf z0))), (q3, .inr (1, [.ref q4, .ref q5, .ref q6, .ref q7, .ref q8, .int (nI 0), .int (nI 0), .int (nI 0), .int (nI 0), .int (nI 1), .int (nI 0)])), (q4, .inl (cy 0, 10, .inl (nf z0))), (q5, .inl (cy 2, 10, .inl (nf z0))), (q6, .inl (cy 0, 10, .inl (nf z0))), (q7, .inl (cy 0, 5, .inl (nf z0))), (q8, .inl (cy 0, 5, .inl (nf z0))), (q9, .inr (1, [.ref q10, .ref q11, .ref q12, .ref q13, .ref q14, .int (nI 0), .int (nI 0), .int (nI 0), .int (nI 0), .int (nI 1), .int (nI 0)])), (q10, .inl (cy 0, 10, .inl (nf z0))), (q11, .inl (cy 2, 10, .inl (nf z0))), (q12, .inl (cy 0, 10, .inl (nf z0))), (q13, .inl (cy 0, 5, .inl (nf z0))), (q14, .inl (cy 0, 5, .inl (nf z0))), (q15, .inr (2, [.ref q16])), (q16, .inl (cy 0, 16, .inl (nf z0))), (q17, .inr (0, [.ref q18, .int (nI 0), .int (nI 0)])), (q18, .inr (3, [.int (nI 16), .ref q19])), (q19, .inl (cy 0, 256, .inl (nf z0))), (q20, .inr (3, [.int (nI 2), .ref q21])), (q21, .inl (cy 0, 32, .inl (nf z0))), (q22, .inl (cy 2, 2, .inl (nf z0))), (q23, .inr (5, [.int (nI 0), .int (nI 0), .int (nI 0), .int (nI 0), .int (nI 0), .int (nI 0)]))]) C hin ff_X7_56 rfl (Nat.le_of_ble_eq_true rfl) rfl rfl dX7_init_86 rfl ?_
  refine a_aload_n C hl dX7_init_89 rfl (j := 0) rfl ?_
  refine a_new C nw_X7_60 (Nat.le_of_ble_eq_true rfl) (Nat.le_of_ble_eq_true rfl) dX7_init_90 (fun q24 => ?_)
  refine a_dup C dX7_init_93 ?_
  refine a_call C caX6 kX6_init rfl rfl in_X6 il_X7_62 ⟨Nat.le_of_ble_eq_true rfl, Nat.le_of_ble_eq_true rfl⟩ hl.1 rfl (Nat.le_of_ble_eq_true rfl) ⟨Nat.le_of_ble_eq_true rfl, Nat.le_of_ble_eq_true rfl⟩ dX7_init_94 rfl ?_
  rintro _ ⟨q25, q26, rfl⟩
  refine a_putF (j := 0) (ws' := [(h0, .inr (7, [.ref q1, .ref q3, .ref q9, .ref q15, .ref q17, .ref q20, .ref q22, .ref q23, .ref q24, .long 0])), (q1, .inr (4, [.ref q2, .int (nI 0), .int (nI 0), .int (nI 0)])), (q2, .inl (cy 0, 56, .inl (nf z0))), (q3, .inr (1, [.ref q4, .ref q5, .ref q6, .ref q7, .ref q8, .int (nI 0), .int (nI 0), .int (nI 0), .int (nI 0), .int (nI 1), .int (nI 0)])), (q4, .inl (cy 0, 10, .inl (nf z0))), (q5, .inl (cy 2, 10, .inl (nf z0))), (q6, .inl (cy 0, 10, .inl (nf z0))), (q7, .inl (cy 0, 5, .inl (nf z0))), (q8, .inl (cy 0, 5, .inl (nf z0))), (q9, .inr (1, [.ref q10, .ref q11, .ref q12, .ref q13, .ref q14, .int (nI 0), .int (nI 0), .int (nI 0), .int (nI 0), .int (nI 1), .int (nI 0)])), (q10, .inl (cy 0, 10, .inl (nf z0))), (q11, .inl (cy 2, 10, .inl (nf z0))), (q12, .inl (cy 0, 10, .inl (nf z0))), (q13, .inl (cy 0, 5, .inl (nf z0))), (q14, .inl (cy 0, 5, .inl (nf z0))), (q15, .inr (2, [.ref q16])), (q16, .inl (cy 0, 16, .inl (nf z0))), (q17, .inr (0, [.ref q18, .int (nI 0), .int (nI 0)])), (q18, .inr (3, [.int (nI 16), .ref q19])), (q19, .inl (cy 0, 256, .inl (nf z0))), (q20, .inr (3, [.int (nI 2), .ref q21])), (q21, .inl (cy 0, 32, .inl (nf z0))), (q22, .inl (cy 2, 2, .inl (nf z0))), (q23, .inr (5, [.int (nI 0), .int (nI 0), .int (nI 0), .int (nI 0), .int (nI 0), .int (nI 0)])), (q24, .inr (6, [.ref q25, .ref q26])), (q25, .inl (cy 0, 10, .inl (nf z0))), (q26, .inl (cy 0, 10, .inl (nf z0)))]) C hin ff_X7_63 rfl (Nat.le_of_ble_eq_true rfl) rfl rfl dX7_init_97 rfl ?_
  refine a_aload_n C hl dX7_init_100 rfl (j := 0) rfl ?_
  refine a_lconst (v := 0) C dX7_init_101 rfl ?_
  refine a_put (j := 0) (ws' := [(h0, .inr (7, [.ref q1, .ref q3, .ref q9, .ref q15, .ref q17, .ref q20, .ref q22, .ref q23, .ref q24, .long 0])), (q1, .inr (4, [.ref q2, .int (nI 0), .int (nI 0), .int (nI 0)])), (q2, .inl (cy 0, 56, .inl (nf z0))), (q3, .inr (1, [.ref q4, .ref q5, .ref q6, .ref q7, .ref q8, .int (nI 0), .int (nI 0), .int (nI 0), .int (nI 0), .int (nI 1), .int (nI 0)])), (q4, .inl (cy 0, 10, .inl (nf z0))), (q5, .inl (cy 2, 10, .inl (nf z0))), (q6, .inl (cy 0, 10, .inl (nf z0))), (q7, .inl (cy 0, 5, .inl (nf z0))), (q8, .inl (cy 0, 5, .inl (nf z0))), (q9, .inr (1, [.ref q10, .ref q11, .ref q12, .ref q13, .ref q14, .int (nI 0), .int (nI 0), .int (nI 0), .int (nI 0), .int (nI 1), .int (nI 0)])), (q10, .inl (cy 0, 10, .inl (nf z0))), (q11, .inl (cy 2, 10, .inl (nf z0))), (q12, .inl (cy 0, 10, .inl (nf z0))), (q13, .inl (cy 0, 5, .inl (nf z0))), (q14, .inl (cy 0, 5, .inl (nf z0))), (q15, .inr (2, [.ref q16])), (q16, .inl (cy 0, 16, .inl (nf z0))), (q17, .inr (0, [.ref q18, .int (nI 0), .int (nI 0)])), (q18, .inr (3, [.int (nI 16), .ref q19])), (q19, .inl (cy 0, 256, .inl (nf z0))), (q20, .inr (3, [.int (nI 2), .ref q21])), (q21, .inl (cy 0, 32, .inl (nf z0))), (q22, .inl (cy 2, 2, .inl (nf z0))), (q23, .inr (5, [.int (nI 0), .int (nI 0), .int (nI 0), .int (nI 0), .int (nI 0), .int (nI 0)])), (q24, .inr (6, [.ref q25, .ref q26])), (q25, .inl (cy 0, 10, .inl (nf z0))), (q26, .inl (cy 0, 10, .inl (nf z0)))]) C fX7_67 fp_X7_9 rfl (Nat.le_of_ble_eq_true rfl) rfl rfl dX7_init_102 rfl ?_
  exact a_vret C rfl dX7_init_105 (Nat.le_of_ble_eq_true rfl) (Nat.le_of_ble_eq_true rfl) ⟨fun k => [h0, q1, q2, q3, q4, q5, q6, q7, q8, q9, q10, q11, q12, q13, q14, q15, q16, q17, q18, q19, q20, q21, q22, q23, q24, q25, q26].getD k 0, rfl, rfl⟩
theorem ff_X8_7 : gFf RX8 7 8 1 (.array .int) := ⟨RX8, TX8, 37, tyX8, rfl, by decide, uw_X8, gw_at 676 (by decide +kernel) (by decide +kernel), rfl, rfl, by decide +kernel, tyX8_ok, nmX8⟩
theorem ff_X8_13 : gFf RX8 13 8 4 (.array .int) := ⟨RX8, TX8, 37, tyX8, rfl, by decide, uw_X8, gw_at 679 (by decide +kernel) (by decide +kernel), rfl, rfl, by decide +kernel, tyX8_ok, nmX8⟩
theorem ff_X8_20 : gFf RX8 20 8 11 (.array .int) := ⟨RX8, TX8, 37, tyX8, rfl, by decide, uw_X8, gw_at 686 (by decide +kernel) (by decide +kernel), rfl, rfl, by decide +kernel, tyX8_ok, nmX8⟩
theorem ff_X8_23 : gFf RX8 23 8 12 (.array .int) := ⟨RX8, TX8, 37, tyX8, rfl, by decide, uw_X8, gw_at 687 (by decide +kernel) (by decide +kernel), rfl, rfl, by decide +kernel, tyX8_ok, nmX8⟩
theorem ff_X8_26 : gFf RX8 26 8 13 (.array .int) := ⟨RX8, TX8, 37, tyX8, rfl, by decide, uw_X8, gw_at 688 (by decide +kernel) (by decide +kernel), rfl, rfl, by decide +kernel, tyX8_ok, nmX8⟩
theorem ff_X8_29 : gFf RX8 29 8 14 (.array .int) := ⟨RX8, TX8, 37, tyX8, rfl, by decide, uw_X8, gw_at 689 (by decide +kernel) (by decide +kernel), rfl, rfl, by decide +kernel, tyX8_ok, nmX8⟩
theorem ff_X8_32 : gFf RX8 32 8 15 (.array .int) := ⟨RX8, TX8, 37, tyX8, rfl, by decide, uw_X8, gw_at 690 (by decide +kernel) (by decide +kernel), rfl, rfl, by decide +kernel, tyX8_ok, nmX8⟩
theorem ff_X8_35 : gFf RX8 35 8 22 (.array .int) := ⟨RX8, TX8, 37, tyX8, rfl, by decide, uw_X8, gw_at 697 (by decide +kernel) (by decide +kernel), rfl, rfl, by decide +kernel, tyX8_ok, nmX8⟩
theorem ff_X8_38 : gFf RX8 38 8 23 (.array .int) := ⟨RX8, TX8, 37, tyX8, rfl, by decide, uw_X8, gw_at 698 (by decide +kernel) (by decide +kernel), rfl, rfl, by decide +kernel, tyX8_ok, nmX8⟩
theorem ff_X8_41 : gFf RX8 41 8 24 (.array .int) := ⟨RX8, TX8, 37, tyX8, rfl, by decide, uw_X8, gw_at 699 (by decide +kernel) (by decide +kernel), rfl, rfl, by decide +kernel, tyX8_ok, nmX8⟩
theorem ff_X8_44 : gFf RX8 44 8 25 (.array .int) := ⟨RX8, TX8, 37, tyX8, rfl, by decide, uw_X8, gw_at 700 (by decide +kernel) (by decide +kernel), rfl, rfl, by decide +kernel, tyX8_ok, nmX8⟩
theorem ff_X8_47 : gFf RX8 47 8 26 (.array .int) := ⟨RX8, TX8, 37, tyX8, rfl, by decide, uw_X8, gw_at 701 (by decide +kernel) (by decide +kernel), rfl, rfl, by decide +kernel, tyX8_ok, nmX8⟩
theorem ff_X8_50 : gFf RX8 50 8 27 (.array .int) := ⟨RX8, TX8, 37, tyX8, rfl, by decide, uw_X8, gw_at 702 (by decide +kernel) (by decide +kernel), rfl, rfl, by decide +kernel, tyX8_ok, nmX8⟩
theorem ff_X8_53 : gFf RX8 53 8 29 (.array .int) := ⟨RX8, TX8, 37, tyX8, rfl, by decide, uw_X8, gw_at 704 (by decide +kernel) (by decide +kernel), rfl, rfl, by decide +kernel, tyX8_ok, nmX8⟩
theorem ff_X8_56 : gFf RX8 56 8 30 (.array .boolean) := ⟨RX8, TX8, 37, tyX8, rfl, by decide, uw_X8, gw_at 705 (by decide +kernel) (by decide +kernel), rfl, rfl, by decide +kernel, tyX8_ok, nmX8⟩
theorem ff_X8_60 : gFf RX8 60 8 35 (.array .long) := ⟨RX8, TX8, 37, tyX8, rfl, by decide, uw_X8, gw_at 710 (by decide +kernel) (by decide +kernel), rfl, rfl, by decide +kernel, tyX8_ok, nmX8⟩
theorem ff_X8_64 : gFf RX8 64 8 36 (.array .long) := ⟨RX8, TX8, 37, tyX8, rfl, by decide, uw_X8, gw_at 711 (by decide +kernel) (by decide +kernel), rfl, rfl, by decide +kernel, tyX8_ok, nmX8⟩
def paX8 (cy : Nat → ClassId) (h0 : Nat) (w : va_W) : Prop := ∃ ad : Nat → Nat, ad 0 = h0 ∧ w = gC ad cy wM0
set_option maxRecDepth 20000 in
theorem caX8 : CtA mX8_init 1 17 430 [] (.inr (8, [.int (nI 0), .null, .int (nI 0), .int (nI 0), .null, .int (nI 0), .int (nI 0), .int (nI 0), .int (nI 0), .int (nI 0), .int (nI 0), .null, .null, .null, .null, .null, .int (nI 0), .int (nI 0), .int (nI 0), .int (nI 0), .int (nI 0), .int (nI 0), .null, .null, .null, .null, .null, .null, .int (nI 0), .null, .null, .long 0, .int (nI 0), .int (nI 0), .int (nI 0), .null, .null])) paX8 := by
  refine CtA.of rfl rfl (fun _ => Nat.le_of_ble_eq_true rfl) ?_
  intro p l e s m args below meth c D cy h0 A ls C hin hl
  have hl : lv_has ls 1 [(0, .ref h0)] := hl
  refine a_aload_n C hl dX8_init_0 rfl (j := 0) rfl ?_
  refine a_obj C hl.1 oi_X8_1 oi_i oi_c (Nat.le_of_ble_eq_true rfl) (Nat.le_of_ble_eq_true rfl) dX8_init_1 ?_
  refine a_aload_n C hl dX8_init_4 rfl (j := 0) rfl ?_
  refine a_bipush (v := nI 56) C dX8_init_5 (by decide) ?_
  refine a_newI (N := 56) C ar_I (nI_pos (rng_lit 56 rfl)) (nI_clamp (rng_lit 56 rfl)) (Nat.le_of_ble_eq_true rfl) (Nat.le_of_ble_eq_true rfl) (Nat.le_of_ble_eq_true rfl) dX8_init_7 (fun q1 => ?_)
  refine a_putF (j := 0) (ws' := [(h0, .inr (8, [.int (nI 0), .ref q1, .int (nI 0), .int (nI 0), .null, .int (nI 0), .int (nI 0), .int (nI 0), .int (nI 0), .int (nI 0), .int (nI 0), .null, .null, .null, .null, .null, .int (nI 0), .int (nI 0), .int (nI 0), .int (nI 0), .int (nI 0), .int (nI 0), .null, .null, .null, .null, .null, .null, .int (nI 0), .null, .null, .long 0, .int (nI 0), .int (nI 0), .int (nI 0), .null, .null])), (q1, .inl (cy 0, 56, .inl (nf z0)))]) C hin ff_X8_7 rfl (Nat.le_of_ble_eq_true rfl) rfl rfl dX8_init_9 rfl ?_
  refine a_aload_n C hl dX8_init_12 rfl (j := 0) rfl ?_
  refine a_bipush (v := nI 10) C dX8_init_13 (by decide) ?_
  refine a_newI (N := 10) C ar_I (nI_pos (rng_lit 10 rfl)) (nI_clamp (rng_lit 10 rfl)) (Nat.le_of_ble_eq_true rfl) (Nat.le_of_ble_eq_true rfl) (Nat.le_of_ble_eq_true rfl) dX8_init_15 (fun q2 => ?_)
  refine a_putF (j := 0) (ws' := [(h0, .inr (8, [.int (nI 0), .ref q1, .int (nI 0), .int (nI 0), .ref q2, .int (nI 0), .int (nI 0), .int (nI 0), .int (nI 0), .int (nI 0), .int (nI 0), .null, .null, .null, .null, .null, .int (nI 0), .int (nI 0), .int (nI 0), .int (nI 0), .int (nI 0), .int (nI 0), .null, .null, .null, .null, .null, .null, .int (nI 0), .null, .null, .long 0, .int (nI 0), .int (nI 0), .int (nI 0), .null, .null])), (q1, .inl (cy 0, 56, .inl (nf z0))), (q2, .inl (cy 0, 10, .inl (nf z0)))]) C hin ff_X8_13 rfl (Nat.le_of_ble_eq_true rfl) rfl rfl dX8_init_17 rfl ?_
  refine a_aload_n C hl dX8_init_20 rfl (j := 0) rfl ?_
  refine a_iconst (v := nI 1) C dX8_init_21 (by decide) ?_
  refine a_put (j := 0) (ws' := [(h0, .inr (8, [.int (nI 0), .ref q1, .int (nI 0), .int (nI 0), .ref q2, .int (nI 0), .int (nI 1), .int (nI 0), .int (nI 0), .int (nI 0), .int (nI 0), .null, .null, .null, .null, .null, .int (nI 0), .int (nI 0), .int (nI 0), .int (nI 0), .int (nI 0), .int (nI 0), .null, .null, .null, .null, .null, .null, .int (nI 0), .null, .null, .long 0, .int (nI 0), .int (nI 0), .int (nI 0), .null, .null])), (q1, .inl (cy 0, 56, .inl (nf z0))), (q2, .inl (cy 0, 10, .inl (nf z0)))]) C fX8_16 fp_X8_6 rfl (Nat.le_of_ble_eq_true rfl) rfl rfl dX8_init_22 rfl ?_
  refine a_aload_n C hl dX8_init_25 rfl (j := 0) rfl ?_
  refine a_iconst (v := nI 5) C dX8_init_26 (by decide) ?_
  refine a_newI (N := 5) C ar_I (nI_pos (rng_lit 5 rfl)) (nI_clamp (rng_lit 5 rfl)) (Nat.le_of_ble_eq_true rfl) (Nat.le_of_ble_eq_true rfl) (Nat.le_of_ble_eq_true rfl) dX8_init_27 (fun q3 => ?_)
  refine a_putF (j := 0) (ws' := [(h0, .inr (8, [.int (nI 0), .ref q1, .int (nI 0), .int (nI 0), .ref q2, .int (nI 0), .int (nI 1), .int (nI 0), .int (nI 0), .int (nI 0), .int (nI 0), .ref q3, .null, .null, .null, .null, .int (nI 0), .int (nI 0), .int (nI 0), .int (nI 0), .int (nI 0), .int (nI 0), .null, .null, .null, .null, .null, .null, .int (nI 0), .null, .null, .long 0, .int (nI 0), .int (nI 0), .int (nI 0), .null, .null])), (q1, .inl (cy 0, 56, .inl (nf z0))), (q2, .inl (cy 0, 10, .inl (nf z0))), (q3, .inl (cy 0, 5, .inl (nf z0)))]) C hin ff_X8_20 rfl (Nat.le_of_ble_eq_true rfl) rfl rfl dX8_init_29 rfl ?_
  refine a_aload_n C hl dX8_init_32 rfl (j := 0) rfl ?_
  refine a_iconst (v := nI 5) C dX8_init_33 (by decide) ?_
  refine a_newI (N := 5) C ar_I (nI_pos (rng_lit 5 rfl)) (nI_clamp (rng_lit 5 rfl)) (Nat.le_of_ble_eq_true rfl) (Nat.le_of_ble_eq_true rfl) (Nat.le_of_ble_eq_true rfl) dX8_init_34 (fun q4 => ?_)
  refine a_putF (j := 0) (ws' := [(h0, .inr (8, [.int (nI 0), .ref q1, .int (nI 0), .int (nI 0), .ref q2, .int (nI 0), .int (nI 1), .int (nI 0), .int (nI 0), .int (nI 0), .int (nI 0), .ref q3, .ref q4, .null, .null, .null, .int (nI 0), .int (nI 0), .int (nI 0), .int (nI 0), .int (nI 0), .int (nI 0), .null, .null, .null, .null, .null, .null, .int (nI 0), .null, .null, .long 0, .int (nI 0), .int (nI 0), .int (nI 0), .null, .null])), (q1, .inl (cy 0, 56, .inl (nf z0))), (q2, .inl (cy 0, 10, .inl (nf z0))), (q3, .inl (cy 0, 5, .inl (nf z0))), (q4, .inl (cy 0, 5, .inl (nf z0)))]) C hin ff_X8_23 rfl (Nat.le_of_ble_eq_true rfl) rfl rfl dX8_init_36 rfl ?_
  refine a_aload_n C hl dX8_init_39 rfl (j := 0) rfl ?_
  refine a_iconst (v := nI 2) C dX8_init_40 (by decide) ?_
  refine a_newI (N := 2) C ar_I (nI_pos (rng_lit 2 rfl)) (nI_clamp (rng_lit 2 rfl)) (Nat.le_of_ble_eq_true rfl) (Nat.le_of_ble_eq_true rfl) (Nat.le_of_ble_eq_true rfl) dX8_init_41 (fun q5 => ?_)
  refine a_putF (j := 0) (ws' := [(h0, .inr (8, [.int (nI 0), .ref q1, .int (nI 0), .int (nI 0), .ref q2, .int (nI 0), .int (nI 1), .int (nI 0), .int (nI 0), .int (nI 0), .int (nI 0), .ref q3, .ref q4, .ref q5, .null, .null, .int (nI 0), .int (nI 0), .int (nI 0), .int (nI 0), .int (nI 0), .int (nI 0), .null, .null, .null, .null, .null, .null, .int (nI 0), .null, .null, .long 0, .int (nI 0), .int (nI 0), .int (nI 0), .null, .null])), (q1, .inl (cy 0, 56, .inl (nf z0))), (q2, .inl (cy 0, 10, .inl (nf z0))), (q3, .inl (cy 0, 5, .inl (nf z0))), (q4, .inl (cy 0, 5, .inl (nf z0))), (q5, .inl (cy 0, 2, .inl (nf z0)))]) C hin ff_X8_26 rfl (Nat.le_of_ble_eq_true rfl) rfl rfl dX8_init_43 rfl ?_
  refine a_aload_n C hl dX8_init_46 rfl (j := 0) rfl ?_
  refine a_iconst (v := nI 2) C dX8_init_47 (by decide) ?_
  refine a_newI (N := 2) C ar_I (nI_pos (rng_lit 2 rfl)) (nI_clamp (rng_lit 2 rfl)) (Nat.le_of_ble_eq_true rfl) (Nat.le_of_ble_eq_true rfl) (Nat.le_of_ble_eq_true rfl) dX8_init_48 (fun q6 => ?_)
  refine a_putF (j := 0) (ws' := [(h0, .inr (8, [.int (nI 0), .ref q1, .int (nI 0), .int (nI 0), .ref q2, .int (nI 0), .int (nI 1), .int (nI 0), .int (nI 0), .int (nI 0), .int (nI 0), .ref q3, .ref q4, .ref q5, .ref q6, .null, .int (nI 0), .int (nI 0), .int (nI 0), .int (nI 0), .int (nI 0), .int (nI 0), .null, .null, .null, .null, .null, .null, .int (nI 0), .null, .null, .long 0, .int (nI 0), .int (nI 0), .int (nI 0), .null, .null])), (q1, .inl (cy 0, 56, .inl (nf z0))), (q2, .inl (cy 0, 10, .inl (nf z0))), (q3, .inl (cy 0, 5, .inl (nf z0))), (q4, .inl (cy 0, 5, .inl (nf z0))), (q5, .inl (cy 0, 2, .inl (nf z0))), (q6, .inl (cy 0, 2, .inl (nf z0)))]) C hin ff_X8_29 rfl (Nat.le_of_ble_eq_true rfl) rfl rfl dX8_init_50 rfl ?_
  refine a_aload_n C hl dX8_init_53 rfl (j := 0) rfl ?_
  refine a_bipush (v := nI 10) C dX8_init_54 (by decide) ?_
  refine a_newI (N := 10) C ar_I (nI_pos (rng_lit 10 rfl)) (nI_clamp (rng_lit 10 rfl)) (Nat.le_of_ble_eq_true rfl) (Nat.le_of_ble_eq_true rfl) (Nat.le_of_ble_eq_true rfl) dX8_init_56 (fun q7 => ?_)
  refine a_putF (j := 0) (ws' := [(h0, .inr (8, [.int (nI 0), .ref q1, .int (nI 0), .int (nI 0), .ref q2, .int (nI 0), .int (nI 1), .int (nI 0), .int (nI 0), .int (nI 0), .int (nI 0), .ref q3, .ref q4, .ref q5, .ref q6, .ref q7, .int (nI 0), .int (nI 0), .int (nI 0), .int (nI 0), .int (nI 0), .int (nI 0), .null, .null, .null, .null, .null, .null, .int (nI 0), .null, .null, .long 0, .int (nI 0), .int (nI 0), .int (nI 0), .null, .null])), (q1, .inl (cy 0, 56, .inl (nf z0))), (q2, .inl (cy 0, 10, .inl (nf z0))), (q3, .inl (cy 0, 5, .inl (nf z0))), (q4, .inl (cy 0, 5, .inl (nf z0))), (q5, .inl (cy 0, 2, .inl (nf z0))), (q6, .inl (cy 0, 2, .inl (nf z0))), (q7, .inl (cy 0, 10, .inl (nf z0)))]) C hin ff_X8_32 rfl (Nat.le_of_ble_eq_true rfl) rfl rfl dX8_init_58 rfl ?_
  refine a_aload_n C hl dX8_init_61 rfl (j := 0) rfl ?_
  refine a_iconst (v := nI 5) C dX8_init_62 (by decide) ?_
  refine a_newI (N := 5) C ar_I (nI_pos (rng_lit 5 rfl)) (nI_clamp (rng_lit 5 rfl)) (Nat.le_of_ble_eq_true rfl) (Nat.le_of_ble_eq_true rfl) (Nat.le_of_ble_eq_true rfl) dX8_init_63 (fun q8 => ?_)
  refine a_putF (j := 0) (ws' := [(h0, .inr (8, [.int (nI 0), .ref q1, .int (nI 0), .int (nI 0), .ref q2, .int (nI 0), .int (nI 1), .int (nI 0), .int (nI 0), .int (nI 0), .int (nI 0), .ref q3, .ref q4, .ref q5, .ref q6, .ref q7, .int (nI 0), .int (nI 0), .int (nI 0), .int (nI 0), .int (nI 0), .int (nI 0), .ref q8, .null, .null, .null, .null, .null, .int (nI 0), .null, .null, .long 0, .int (nI 0), .int (nI 0), .int (nI 0), .null, .null])), (q1, .inl (cy 0, 56, .inl (nf z0))), (q2, .inl (cy 0, 10, .inl (nf z0))), (q3, .inl (cy 0, 5, .inl (nf z0))), (q4, .inl (cy 0, 5, .inl (nf z0))), (q5, .inl (cy 0, 2, .inl (nf z0))), (q6, .inl (cy 0, 2, .inl (nf z0))), (q7, .inl (cy 0, 10, .inl (nf z0))), (q8, .inl (cy 0, 5, .inl (nf z0)))]) C hin ff_X8_35 rfl (Nat.le_of_ble_eq_true rfl) rfl rfl dX8_init_65 rfl ?_
  refine a_aload_n C hl dX8_init_68 rfl (j := 0) rfl ?_
  refine a_iconst (v := nI 5) C dX8_init_69 (by decide) ?_
  refine a_newI (N := 5) C ar_I (nI_pos (rng_lit 5 rfl)) (nI_clamp (rng_lit 5 rfl)) (Nat.le_of_ble_eq_true rfl) (Nat.le_of_ble_eq_true rfl) (Nat.le_of_ble_eq_true rfl) dX8_init_70 (fun q9 => ?_)
  refine a_putF (j := 0) (ws' := [(h0, .inr (8, [.int (nI 0), .ref q1, .int (nI 0), .int (nI 0), .ref q2, .int (nI 0), .int (nI 1), .int (nI 0), .int (nI 0), .int (nI 0), .int (nI 0), .ref q3, .ref q4, .ref q5, .ref q6, .ref q7, .int (nI 0), .int (nI 0), .int (nI 0), .int (nI 0), .int (nI 0), .int (nI 0), .ref q8, .ref q9, .null, .null, .null, .null, .int (nI 0), .null, .null, .long 0, .int (nI 0), .int (nI 0), .int (nI 0), .null, .null])), (q1, .inl (cy 0, 56, .inl (nf z0))), (q2, .inl (cy 0, 10, .inl (nf z0))), (q3, .inl (cy 0, 5, .inl (nf z0))), (q4, .inl (cy 0, 5, .inl (nf z0))), (q5, .inl (cy 0, 2, .inl (nf z0))), (q6, .inl (cy 0, 2, .inl (nf z0))), (q7, .inl (cy 0, 10, .inl (nf z0))), (q8, .inl (cy 0, 5, .inl (nf z0))), (q9, .inl (cy 0, 5, .inl (nf z0)))]) C hin ff_X8_38 rfl (Nat.le_of_ble_eq_true rfl) rfl rfl dX8_init_72 rfl ?_
  refine a_aload_n C hl dX8_init_75 rfl (j := 0) rfl ?_
  refine a_iconst (v := nI 2) C dX8_init_76 (by decide) ?_
  refine a_newI (N := 2) C ar_I (nI_pos (rng_lit 2 rfl)) (nI_clamp (rng_lit 2 rfl)) (Nat.le_of_ble_eq_true rfl) (Nat.le_of_ble_eq_true rfl) (Nat.le_of_ble_eq_true rfl) dX8_init_77 (fun q10 => ?_)
  refine a_putF (j := 0) (ws' := [(h0, .inr (8, [.int (nI 0), .ref q1, .int (nI 0), .int (nI 0), .ref q2, .int (nI 0), .int (nI 1), .int (nI 0), .int (nI 0), .int (nI 0), .int (nI 0), .ref q3, .ref q4, .ref q5, .ref q6, .ref q7, .int (nI 0), .int (nI 0), .int (nI 0), .int (nI 0), .int (nI 0), .int (nI 0), .ref q8, .ref q9, .ref q10, .null, .null, .null, .int (nI 0), .null, .null, .long 0, .int (nI 0), .int (nI 0), .int (nI 0), .null, .null])), (q1, .inl (cy 0, 56, .inl (nf z0))), (q2, .inl (cy 0, 10, .inl (nf z0))), (q3, .inl (cy 0, 5, .inl (nf z0))), (q4, .inl (cy 0, 5, .inl (nf z0))), (q5, .inl (cy 0, 2, .inl (nf z0))), (q6, .inl (cy 0, 2, .inl (nf z0))), (q7, .inl (cy 0, 10, .inl (nf z0))), (q8, .inl (cy 0, 5, .inl (nf z0))), (q9, .inl (cy 0, 5, .inl (nf z0))), (q10, .inl (cy 0, 2, .inl (nf z0)))]) C hin ff_X8_41 rfl (Nat.le_of_ble_eq_true rfl) rfl rfl dX8_init_79 rfl ?_
  refine a_aload_n C hl dX8_init_82 rfl (j := 0) rfl ?_
  refine a_iconst (v := nI 2) C dX8_init_83 (by decide) ?_
  refine a_newI (N := 2) C ar_I (nI_pos (rng_lit 2 rfl)) (nI_clamp (rng_lit 2 rfl)) (Nat.le_of_ble_eq_true rfl) (Nat.le_of_ble_eq_true rfl) (Nat.le_of_ble_eq_true rfl) dX8_init_84 (fun q11 => ?_)
  refine a_putF (j := 0) (ws' := [(h0, .inr (8, [.int (nI 0), .ref q1, .int (nI 0), .int (nI 0), .ref q2, .int (nI 0), .int (nI 1), .int (nI 0), .int (nI 0), .int (nI 0), .int (nI 0), .ref q3, .ref q4, .ref q5, .ref q6, .ref q7, .int (nI 0), .int (nI 0), .int (nI 0), .int (nI 0), .int (nI 0), .int (nI 0), .ref q8, .ref q9, .ref q10, .ref q11, .null, .null, .int (nI 0), .null, .null, .long 0, .int (nI 0), .int (nI 0), .int (nI 0), .null, .null])), (q1, .inl (cy 0, 56, .inl (nf z0))), (q2, .inl (cy 0, 10, .inl (nf z0))), (q3, .inl (cy 0, 5, .inl (nf z0))), (q4, .inl (cy 0, 5, .inl (nf z0))), (q5, .inl (cy 0, 2, .inl (nf z0))), (q6, .inl (cy 0, 2, .inl (nf z0))), (q7, .inl (cy 0, 10, .inl (nf z0))), (q8, .inl (cy 0, 5, .inl (nf z0))), (q9, .inl (cy 0, 5, .inl (nf z0))), (q10, .inl (cy 0, 2, .inl (nf z0))), (q11, .inl (cy 0, 2, .inl (nf z0)))]) C hin ff_X8_44 rfl (Nat.le_of_ble_eq_true rfl) rfl rfl dX8_init_86 rfl ?_
  refine a_aload_n C hl dX8_init_89 rfl (j := 0) rfl ?_
  refine a_bipush (v := nI 16) C dX8_init_90 (by decide) ?_
  refine a_newI (N := 16) C ar_I (nI_pos (rng_lit 16 rfl)) (nI_clamp (rng_lit 16 rfl)) (Nat.le_of_ble_eq_true rfl) (Nat.le_of_ble_eq_true rfl) (Nat.le_of_ble_eq_true rfl) dX8_init_92 (fun q12 => ?_)
  refine a_putF (j := 0) (ws' := [(h0, .inr (8, [.int (nI 0), .ref q1, .int (nI 0), .int (nI 0), .ref q2, .int (nI 0), .int (nI 1), .int (nI 0), .int (nI 0), .int (nI 0), .int (nI 0), .ref q3, .ref q4, .ref q5, .ref q6, .ref q7, .int (nI 0), .int (nI 0), .int (nI 0), .int (nI 0), .int (nI 0), .int (nI 0), .ref q8, .ref q9, .ref q10, .ref q11, .ref q12, .null, .int (nI 0), .null, .null, .long 0, .int (nI 0), .int (nI 0), .int (nI 0), .null, .null])), (q1, .inl (cy 0, 56, .inl (nf z0))), (q2, .inl (cy 0, 10, .inl (nf z0))), (q3, .inl (cy 0, 5, .inl (nf z0))), (q4, .inl (cy 0, 5, .inl (nf z0))), (q5, .inl (cy 0, 2, .inl (nf z0))), (q6, .inl (cy 0, 2, .inl (nf z0))), (q7, .inl (cy 0, 10, .inl (nf z0))), (q8, .inl (cy 0, 5, .inl (nf z0))), (q9, .inl (cy 0, 5, .inl (nf z0))), (q10, .inl (cy 0, 2, .inl (nf z0))), (q11, .inl (cy 0, 2, .inl (nf z0))), (q12, .inl (cy 0, 16, .inl (nf z0)))]) C hin ff_X8_47 rfl (Nat.le_of_ble_eq_true rfl) rfl rfl dX8_init_94 rfl ?_
  refine a_aload_n C hl dX8_init_97 rfl (j := 0) rfl ?_
  refine a_sipush (v := nI 256) C dX8_init_98 (by decide) ?_
  refine a_newI (N := 256) C ar_I (nI_pos (rng_lit 256 rfl)) (nI_clamp (rng_lit 256 rfl)) (Nat.le_of_ble_eq_true rfl) (Nat.le_of_ble_eq_true rfl) (Nat.le_of_ble_eq_true rfl) dX8_init_101 (fun q13 => ?_)
  refine a_putF (j := 0) (ws' := [(h0, .inr (8, [.int (nI 0), .ref q1, .int (nI 0), .int (nI 0), .ref q2, .int (nI 0), .int (nI 1), .int (nI 0), .int (nI 0), .int (nI 0), .int (nI 0), .ref q3, .ref q4, .ref q5, .ref q6, .ref q7, .int (nI 0), .int (nI 0), .int (nI 0), .int (nI 0), .int (nI 0), .int (nI 0), .ref q8, .ref q9, .ref q10, .ref q11, .ref q12, .ref q13, .int (nI 0), .null, .null, .long 0, .int (nI 0), .int (nI 0), .int (nI 0), .null, .null])), (q1, .inl (cy 0, 56, .inl (nf z0))), (q2, .inl (cy 0, 10, .inl (nf z0))), (q3, .inl (cy 0, 5, .inl (nf z0))), (q4, .inl (cy 0, 5, .inl (nf z0))), (q5, .inl (cy 0, 2, .inl (nf z0))), (q6, .inl (cy 0, 2, .inl (nf z0))), (q7, .inl (cy 0, 10, .inl (nf z0))), (q8, .inl (cy 0, 5, .inl (nf z0))), (q9, .inl (cy 0, 5, .inl (nf z0))), (q10, .inl (cy 0, 2, .inl (nf z0))), (q11, .inl (cy 0, 2, .inl (nf z0))), (q12, .inl (cy 0, 16, .inl (nf z0))), (q13, .inl (cy 0, 256, .inl (nf z0)))]) C hin ff_X8_50 rfl (Nat.le_of_ble_eq_true rfl) rfl rfl dX8_init_103 rfl ?_
  refine a_aload_n C hl dX8_init_106 rfl (j := 0) rfl ?_
  refine a_bipush (v := nI 32) C dX8_init_107 (by decide) ?_
  refine a_newI (N := 32) C ar_I (nI_pos (rng_lit 32 rfl)) (nI_clamp (rng_lit 32 rfl)) (Nat.le_of_ble_eq_true rfl) (Nat.le_of_ble_eq_true rfl) (Nat.le_of_ble_eq_true rfl) dX8_init_109 (fun q14 => ?_)
  refine a_putF (j := 0) (ws' := [(h0, .inr (8, [.int (nI 0), .ref q1, .int (nI 0), .int (nI 0), .ref q2, .int (nI 0), .int (nI 1), .int (nI 0), .int (nI 0), .int (nI 0), .int (nI 0), .ref q3, .ref q4, .ref q5, .ref q6, .ref q7, .int (nI 0), .int (nI 0), .int (nI 0), .int (nI 0), .int (nI 0), .int (nI 0), .ref q8, .ref q9, .ref q10, .ref q11, .ref q12, .ref q13, .int (nI 0), .ref q14, .null, .long 0, .int (nI 0), .int (nI 0), .int (nI 0), .null, .null])), (q1, .inl (cy 0, 56, .inl (nf z0))), (q2, .inl (cy 0, 10, .inl (nf z0))), (q3, .inl (cy 0, 5, .inl (nf z0))), (q4, .inl (cy 0, 5, .inl (nf z0))), (q5, .inl (cy 0, 2, .inl (nf z0))), (q6, .inl (cy 0, 2, .inl (nf z0))), (q7, .inl (cy 0, 10, .inl (nf z0))), (q8, .inl (cy 0, 5, .inl (nf z0))), (q9, .inl (cy 0, 5, .inl (nf z0))), (q10, .inl (cy 0, 2, .inl (nf z0))), (q11, .inl (cy 0, 2, .inl (nf z0))), (q12, .inl (cy 0, 16, .inl (nf z0))), (q13, .inl (cy 0, 256, .inl (nf z0))), (q14, .inl (cy 0, 32, .inl (nf z0)))]) C hin ff_X8_53 rfl (Nat.le_of_ble_eq_true rfl) rfl rfl dX8_init_111 rfl ?_
  refine a_aload_n C hl dX8_init_114 rfl (j := 0) rfl ?_
  refine a_iconst (v := nI 2) C dX8_init_115 (by decide) ?_
  refine a_newZ (N := 2) C ar_Z (nI_pos (rng_lit 2 rfl)) (nI_clamp (rng_lit 2 rfl)) (Nat.le_of_ble_eq_true rfl) (Nat.le_of_ble_eq_true rfl) (Nat.le_of_ble_eq_true rfl) dX8_init_116 (fun q15 => ?_)
  refine a_putF (j := 0) (ws' := [(h0, .inr (8, [.int (nI 0), .ref q1, .int (nI 0), .int (nI 0), .ref q2, .int (nI 0), .int (nI 1), .int (nI 0), .int (nI 0), .int (nI 0), .int (nI 0), .ref q3, .ref q4, .ref q5, .ref q6, .ref q7, .int (nI 0), .int (nI 0), .int (nI 0), .int (nI 0), .int (nI 0), .int (nI 0), .ref q8, .ref q9, .ref q10, .ref q11, .ref q12, .ref q13, .int (nI 0), .ref q14, .ref q15, .long 0, .int (nI 0), .int (nI 0), .int (nI 0), .null, .null])), (q1, .inl (cy 0, 56, .inl (nf z0))), (q2, .inl (cy 0, 10, .inl (nf z0))), (q3, .inl (cy 0, 5, .inl (nf z0))), (q4, .inl (cy 0, 5, .inl (nf z0))), (q5, .inl (cy 0, 2, .inl (nf z0))), (q6, .inl (cy 0, 2, .inl (nf z0))), (q7, .inl (cy 0, 10, .inl (nf z0))), (q8, .inl (cy 0, 5, .inl (nf z0))), (q9, .inl (cy 0, 5, .inl (nf z0))), (q10, .inl (cy 0, 2, .inl (nf z0))), (q11, .inl (cy 0, 2, .inl (nf z0))), (q12, .inl (cy 0, 16, .inl (nf z0))), (q13, .inl (cy 0, 256, .inl (nf z0))), (q14, .inl (cy 0, 32, .inl (nf z0))), (q15, .inl (cy 2, 2, .inl (nf z0)))]) C hin ff_X8_56 rfl (Nat.le_of_ble_eq_true rfl) rfl rfl dX8_init_118 rfl ?_
  refine a_aload_n C hl dX8_init_121 rfl (j := 0) rfl ?_
  refine a_bipush (v := nI 10) C dX8_init_122 (by decide) ?_
  refine a_newJ (N := 10) C ar_J (nI_pos (rng_lit 10 rfl)) (nI_clamp (rng_lit 10 rfl)) (Nat.le_of_ble_eq_true rfl) (Nat.le_of_ble_eq_true rfl) (Nat.le_of_ble_eq_true rfl) dX8_init_124 (fun q16 => ?_)
  refine a_putF (j := 0) (ws' := [(h0, .inr (8, [.int (nI 0), .ref q1, .int (nI 0), .int (nI 0), .ref q2, .int (nI 0), .int (nI 1), .int (nI 0), .int (nI 0), .int (nI 0), .int (nI 0), .ref q3, .ref q4, .ref q5, .ref q6, .ref q7, .int (nI 0), .int (nI 0), .int (nI 0), .int (nI 0), .int (nI 0), .int (nI 0), .ref q8, .ref q9, .ref q10, .ref q11, .ref q12, .ref q13, .int (nI 0), .ref q14, .ref q15, .long 0, .int (nI 0), .int (nI 0), .int (nI 0), .ref q16, .null])), (q1, .inl (cy 0, 56, .inl (nf z0))), (q2, .inl (cy 0, 10, .inl (nf z0))), (q3, .inl (cy 0, 5, .inl (nf z0))), (q4, .inl (cy 0, 5, .inl (nf z0))), (q5, .inl (cy 0, 2, .inl (nf z0))), (q6, .inl (cy 0, 2, .inl (nf z0))), (q7, .inl (cy 0, 10, .inl (nf z0))), (q8, .inl (cy 0, 5, .inl (nf z0))), (q9, .inl (cy 0, 5, .inl (nf z0))), (q10, .inl (cy 0, 2, .inl (nf z0))), (q11, .inl (cy 0, 2, .inl (nf z0))), (q12, .inl (cy 0, 16, .inl (nf z0))), (q13, .inl (cy 0, 256, .inl (nf z0))), (q14, .inl (cy 0, 32, .inl (nf z0))), (q15, .inl (cy 2, 2, .inl (nf z0))), (q16, .inl (cy 1, 10, .inr (.inl (lf z0))))]) C hin ff_X8_60 rfl (Nat.le_of_ble_eq_true rfl) rfl rfl dX8_init_126 rfl ?_
  refine a_aload_n C hl dX8_init_129 rfl (j := 0) rfl ?_
  refine a_bipush (v := nI 10) C dX8_init_130 (by decide) ?_
  refine a_newJ (N := 10) C ar_J (nI_pos (rng_lit 10 rfl)) (nI_clamp (rng_lit 10 rfl)) (Nat.le_of_ble_eq_true rfl) (Nat.le_of_ble_eq_true rfl) (Nat.le_of_ble_eq_true rfl) dX8_init_132 (fun q17 => ?_)
  refine a_putF (j := 0) (ws' := [(h0, .inr (8, [.int (nI 0), .ref q1, .int (nI 0), .int (nI 0), .ref q2, .int (nI 0), .int (nI 1), .int (nI 0), .int (nI 0), .int (nI 0), .int (nI 0), .ref q3, .ref q4, .ref q5, .ref q6, .ref q7, .int (nI 0), .int (nI 0), .int (nI 0), .int (nI 0), .int (nI 0), .int (nI 0), .ref q8, .ref q9, .ref q10, .ref q11, .ref q12, .ref q13, .int (nI 0), .ref q14, .ref q15, .long 0, .int (nI 0), .int (nI 0), .int (nI 0), .ref q16, .ref q17])), (q1, .inl (cy 0, 56, .inl (nf z0))), (q2, .inl (cy 0, 10, .inl (nf z0))), (q3, .inl (cy 0, 5, .inl (nf z0))), (q4, .inl (cy 0, 5, .inl (nf z0))), (q5, .inl (cy 0, 2, .inl (nf z0))), (q6, .inl (cy 0, 2, .inl (nf z0))), (q7, .inl (cy 0, 10, .inl (nf z0))), (q8, .inl (cy 0, 5, .inl (nf z0))), (q9, .inl (cy 0, 5, .inl (nf z0))), (q10, .inl (cy 0, 2, .inl (nf z0))), (q11, .inl (cy 0, 2, .inl (nf z0))), (q12, .inl (cy 0, 16, .inl (nf z0))), (q13, .inl (cy 0, 256, .inl (nf z0))), (q14, .inl (cy 0, 32, .inl (nf z0))), (q15, .inl (cy 2, 2, .inl (nf z0))), (q16, .inl (cy 1, 10, .inr (.inl (lf z0)))), (q17, .inl (cy 1, 10, .inr (.inl (lf z0))))]) C hin ff_X8_64 rfl (Nat.le_of_ble_eq_true rfl) rfl rfl dX8_init_134 rfl ?_
  exact a_vret C rfl dX8_init_137 (Nat.le_of_ble_eq_true rfl) (Nat.le_of_ble_eq_true rfl) ⟨fun k => [h0, q1, q2, q3, q4, q5, q6, q7, q8, q9, q10, q11, q12, q13, q14, q15, q16, q17].getD k 0, rfl, rfl⟩
theorem pgR_0 : pgR z0 = z0 := by
  funext k
  show (if k = 15 then 0 else if 15 < k then 0 else if k % 3 = 0 then 0 else if k % 3 = 1 then 0 else 0) = 0
  split
  · rfl
  · split
    · rfl
    · split
      · rfl
      · split <;> rfl
theorem bkR_0 : bkR (fun _ => z0) = z0 := by
  funext j
  show pgR z0 (j % 16) = 0
  rw [pgR_0]
  rfl
theorem R0 : R wC0 wM0 := by
  refine ⟨0, 0, z0, 0, 0, 0, 1, 0, z0, z0, z0, z0, z0, z0, 0, 0, z0, z0, z0, 0, z0, z0, fun _ => z0, fun _ => z0, ?_, ?_, ?_⟩
  · refine ⟨⟨by omega, fun _ => Nat.zero_le _, ⟨fun _ => Nat.zero_le _, fun _ => Nat.zero_le _, fun _ => Nat.zero_le _, fun _ => Nat.zero_le _, fun _ => Nat.zero_le _, by omega, by omega, by omega, by omega, by omega⟩, fun _ _ => rfl, fun _ _ => rfl, fun _ _ => rfl⟩, ⟨⟨fun _ => Nat.zero_le _, fun _ _ => Nat.zero_le _, fun _ _ => Nat.zero_le _, fun _ _ => Nat.zero_le _⟩, fun c _ => Nat.zero_le _, by omega, by omega, fun _ => Nat.zero_le _⟩, ⟨⟨by omega, fun k _ => ?_⟩, ⟨by omega, fun t ht => absurd ht (by omega), fun c hc => absurd rfl hc, fun h => absurd h (by omega)⟩, fun t ht => absurd ht (by omega)⟩, fun i hi => absurd hi (by omega), fun i _ hk => absurd rfl hk⟩
    show 0 = 0 / 2 ^ k % 2
    rw [Nat.zero_div]
  · exact ⟨0, 0, 0, 0, 0, 0, 0, 1, 0, z0, z0, z0, z0, z0, z0, z0, (0, 0, 0, 0, 0, 0), ⟨fun _ _ => rfl, fun _ _ => rfl, fun _ _ => rfl⟩, rfl⟩
  · refine ⟨0, 0, 0, 0, 0, 0, 0, nI 0, nI 0, nI 0, nf z0, z0, z0, z0, z0, z0, z0, ?_⟩
    rw [pgR_0, bkR_0]
    rfl
