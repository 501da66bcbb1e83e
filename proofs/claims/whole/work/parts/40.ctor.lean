/-! part 40: the constructors -/
theorem ar_I : Cond.arrayClass .int ∈ gw := gw_at 86 (by decide +kernel) (by decide +kernel)
theorem ar_J : Cond.arrayClass .long ∈ gw := gw_at 787 (by decide +kernel) (by decide +kernel)
theorem ar_Z : Cond.arrayClass .boolean ∈ gw := gw_at 138 (by decide +kernel) (by decide +kernel)
theorem oi_i : Cond.instanceMethod objectInit ∈ gw := gw_at 64 (by decide +kernel) (by decide +kernel)
set_option maxRecDepth 20000 in
theorem oi_c : Cond.code objectInit ⟨#[0xb1]⟩ 1 none ∈ gw := gw_at 65 rfl rfl
theorem il_L_9 : Cond.methodLink RL 9 yX7_init ∈ gw ∨ ∃ host, Cond.methodLinkNest RL 9 yX7_init host ∈ gnl := Or.inl (gw_at 60 (by decide +kernel) (by decide +kernel))
theorem oi_X7_1 : Cond.methodLink RX7 1 objectInit ∈ gw := gw_at 63 (by decide +kernel) (by decide +kernel)
theorem il_X7_9 : Cond.methodLink RX7 9 yX4_init ∈ gw ∨ ∃ host, Cond.methodLinkNest RX7 9 yX4_init host ∈ gnl := Or.inr ⟨"OverSands", gnl_at 68 (by decide +kernel) rfl⟩
theorem oi_X4_3 : Cond.methodLink RX4 3 objectInit ∈ gw := gw_at 71 (by decide +kernel) (by decide +kernel)
theorem il_X7_18 : Cond.methodLink RX7 18 yX1_init ∈ gw ∨ ∃ host, Cond.methodLinkNest RX7 18 yX1_init host ∈ gnl := Or.inr ⟨"OverSands", gnl_at 89 (by decide +kernel) rfl⟩
theorem oi_X1_3 : Cond.methodLink RX1 3 objectInit ∈ gw := gw_at 92 (by decide +kernel) (by decide +kernel)
theorem il_X7_28 : Cond.methodLink RX7 28 yX2_init ∈ gw ∨ ∃ host, Cond.methodLinkNest RX7 28 yX2_init host ∈ gnl := Or.inr ⟨"OverSands", gnl_at 141 (by decide +kernel) rfl⟩
theorem oi_X2_5 : Cond.methodLink RX2 5 objectInit ∈ gw := gw_at 144 (by decide +kernel) (by decide +kernel)
theorem il_X7_35 : Cond.methodLink RX7 35 yX0_init ∈ gw ∨ ∃ host, Cond.methodLinkNest RX7 35 yX0_init host ∈ gnl := Or.inr ⟨"OverSands", gnl_at 152 (by decide +kernel) rfl⟩
theorem oi_X0_3 : Cond.methodLink RX0 3 objectInit ∈ gw := gw_at 155 (by decide +kernel) (by decide +kernel)
theorem il_X0_11 : Cond.methodLink RX0 11 yX3_init ∈ gw ∨ ∃ host, Cond.methodLinkNest RX0 11 yX3_init host ∈ gnl := Or.inl (gw_at 158 (by decide +kernel) (by decide +kernel))
theorem oi_X3_1 : Cond.methodLink RX3 1 objectInit ∈ gw := gw_at 161 (by decide +kernel) (by decide +kernel)
theorem il_X7_42 : Cond.methodLink RX7 42 yX3_init ∈ gw ∨ ∃ host, Cond.methodLinkNest RX7 42 yX3_init host ∈ gnl := Or.inl (gw_at 184 (by decide +kernel) (by decide +kernel))
theorem il_X7_55 : Cond.methodLink RX7 55 yX5_init ∈ gw ∨ ∃ host, Cond.methodLinkNest RX7 55 yX5_init host ∈ gnl := Or.inr ⟨"OverSands", gnl_at 187 (by decide +kernel) rfl⟩
theorem oi_X5_3 : Cond.methodLink RX5 3 objectInit ∈ gw := gw_at 190 (by decide +kernel) (by decide +kernel)
theorem il_X7_62 : Cond.methodLink RX7 62 yX6_init ∈ gw ∨ ∃ host, Cond.methodLinkNest RX7 62 yX6_init host ∈ gnl := Or.inr ⟨"OverSands", gnl_at 216 (by decide +kernel) rfl⟩
theorem oi_X6_3 : Cond.methodLink RX6 3 objectInit ∈ gw := gw_at 219 (by decide +kernel) (by decide +kernel)
theorem il_L_12 : Cond.methodLink RL 12 yX8_init ∈ gw ∨ ∃ host, Cond.methodLinkNest RL 12 yX8_init host ∈ gnl := Or.inl (gw_at 671 (by decide +kernel) (by decide +kernel))
theorem oi_X8_1 : Cond.methodLink RX8 1 objectInit ∈ gw := gw_at 674 (by decide +kernel) (by decide +kernel)
theorem in_X7 : Cond.instanceMethod yX7_init ∈ gw := gw_at 61 (by decide +kernel) (by decide +kernel)
theorem in_X4 : Cond.instanceMethod yX4_init ∈ gw := gw_at 69 (by decide +kernel) (by decide +kernel)
theorem in_X1 : Cond.instanceMethod yX1_init ∈ gw := gw_at 90 (by decide +kernel) (by decide +kernel)
theorem in_X2 : Cond.instanceMethod yX2_init ∈ gw := gw_at 142 (by decide +kernel) (by decide +kernel)
theorem in_X0 : Cond.instanceMethod yX0_init ∈ gw := gw_at 153 (by decide +kernel) (by decide +kernel)
theorem in_X3 : Cond.instanceMethod yX3_init ∈ gw := gw_at 159 (by decide +kernel) (by decide +kernel)
theorem in_X5 : Cond.instanceMethod yX5_init ∈ gw := gw_at 188 (by decide +kernel) (by decide +kernel)
theorem in_X6 : Cond.instanceMethod yX6_init ∈ gw := gw_at 217 (by decide +kernel) (by decide +kernel)
theorem in_X8 : Cond.instanceMethod yX8_init ∈ gw := gw_at 672 (by decide +kernel) (by decide +kernel)
theorem df_X0 : ∀ j, j < 3 → defaultValue (tyX0 j) = vp_V [.null, .int (nI 0), .int (nI 0)] j := fun j hj => match j, hj with | 0, _ => rfl | 1, _ => rfl | 2, _ => rfl | j + 3, h => absurd h (by omega)
theorem df_X1 : ∀ j, j < 11 → defaultValue (tyX1 j) = vp_V [.null, .null, .null, .null, .null, .int (nI 0), .int (nI 0), .int (nI 0), .int (nI 0), .int (nI 0), .int (nI 0)] j := fun j hj => match j, hj with | 0, _ => rfl | 1, _ => rfl | 2, _ => rfl | 3, _ => rfl | 4, _ => rfl | 5, _ => rfl | 6, _ => rfl | 7, _ => rfl | 8, _ => rfl | 9, _ => rfl | 10, _ => rfl | j + 11, h => absurd h (by omega)
theorem df_X2 : ∀ j, j < 1 → defaultValue (tyX2 j) = vp_V [.null] j := fun j hj => match j, hj with | 0, _ => rfl | j + 1, h => absurd h (by omega)
theorem df_X3 : ∀ j, j < 2 → defaultValue (tyX3 j) = vp_V [.int (nI 0), .null] j := fun j hj => match j, hj with | 0, _ => rfl | 1, _ => rfl | j + 2, h => absurd h (by omega)
theorem df_X4 : ∀ j, j < 4 → defaultValue (tyX4 j) = vp_V [.null, .int (nI 0), .int (nI 0), .int (nI 0)] j := fun j hj => match j, hj with | 0, _ => rfl | 1, _ => rfl | 2, _ => rfl | 3, _ => rfl | j + 4, h => absurd h (by omega)
theorem df_X5 : ∀ j, j < 6 → defaultValue (tyX5 j) = vp_V [.int (nI 0), .int (nI 0), .int (nI 0), .int (nI 0), .int (nI 0), .int (nI 0)] j := fun j hj => match j, hj with | 0, _ => rfl | 1, _ => rfl | 2, _ => rfl | 3, _ => rfl | 4, _ => rfl | 5, _ => rfl | j + 6, h => absurd h (by omega)
theorem df_X6 : ∀ j, j < 2 → defaultValue (tyX6 j) = vp_V [.null, .null] j := fun j hj => match j, hj with | 0, _ => rfl | 1, _ => rfl | j + 2, h => absurd h (by omega)
theorem df_X7 : ∀ j, j < 10 → defaultValue (tyX7 j) = vp_V [.null, .null, .null, .null, .null, .null, .null, .null, .null, .long 0] j := fun j hj => match j, hj with | 0, _ => rfl | 1, _ => rfl | 2, _ => rfl | 3, _ => rfl | 4, _ => rfl | 5, _ => rfl | 6, _ => rfl | 7, _ => rfl | 8, _ => rfl | 9, _ => rfl | j + 10, h => absurd h (by omega)
theorem df_X8 : ∀ j, j < 37 → defaultValue (tyX8 j) = vp_V [.int (nI 0), .null, .int (nI 0), .int (nI 0), .null, .int (nI 0), .int (nI 0), .int (nI 0), .int (nI 0), .int (nI 0), .int (nI 0), .null, .null, .null, .null, .null, .int (nI 0), .int (nI 0), .int (nI 0), .int (nI 0), .int (nI 0), .int (nI 0), .null, .null, .null, .null, .null, .null, .int (nI 0), .null, .null, .long 0, .int (nI 0), .int (nI 0), .int (nI 0), .null, .null] j := fun j hj => match j, hj with | 0, _ => rfl | 1, _ => rfl | 2, _ => rfl | 3, _ => rfl | 4, _ => rfl | 5, _ => rfl | 6, _ => rfl | 7, _ => rfl | 8, _ => rfl | 9, _ => rfl | 10, _ => rfl | 11, _ => rfl | 12, _ => rfl | 13, _ => rfl | 14, _ => rfl | 15, _ => rfl | 16, _ => rfl | 17, _ => rfl | 18, _ => rfl | 19, _ => rfl | 20, _ => rfl | 21, _ => rfl | 22, _ => rfl | 23, _ => rfl | 24, _ => rfl | 25, _ => rfl | 26, _ => rfl | 27, _ => rfl | 28, _ => rfl | 29, _ => rfl | 30, _ => rfl | 31, _ => rfl | 32, _ => rfl | 33, _ => rfl | 34, _ => rfl | 35, _ => rfl | 36, _ => rfl | j + 37, h => absurd h (by omega)
theorem nw_L_7 : gNew RL 7 7 10 [.null, .null, .null, .null, .null, .null, .null, .null, .null, .long 0] := ⟨RX7, TX7, tyX7, rfl, uw_X7, tyX7_ok, gw_at 58 (by decide +kernel) (by decide +kernel), gw_at 59 (by decide +kernel) (by decide +kernel), ini_X7, df_X7⟩
theorem nw_X7_7 : gNew RX7 7 4 4 [.null, .int (nI 0), .int (nI 0), .int (nI 0)] := ⟨RX4, TX4, tyX4, rfl, uw_X4, tyX4_ok, gw_at 66 (by decide +kernel) (by decide +kernel), gw_at 67 (by decide +kernel) (by decide +kernel), ini_X4, df_X4⟩
theorem nw_X7_16 : gNew RX7 16 1 11 [.null, .null, .null, .null, .null, .int (nI 0), .int (nI 0), .int (nI 0), .int (nI 0), .int (nI 0), .int (nI 0)] := ⟨RX1, TX1, tyX1, rfl, uw_X1, tyX1_ok, gw_at 87 (by decide +kernel) (by decide +kernel), gw_at 88 (by decide +kernel) (by decide +kernel), ini_X1, df_X1⟩
theorem nw_X7_26 : gNew RX7 26 2 1 [.null] := ⟨RX2, TX2, tyX2, rfl, uw_X2, tyX2_ok, gw_at 139 (by decide +kernel) (by decide +kernel), gw_at 140 (by decide +kernel) (by decide +kernel), ini_X2, df_X2⟩
theorem nw_X7_33 : gNew RX7 33 0 3 [.null, .int (nI 0), .int (nI 0)] := ⟨RX0, TX0, tyX0, rfl, uw_X0, tyX0_ok, gw_at 150 (by decide +kernel) (by decide +kernel), gw_at 151 (by decide +kernel) (by decide +kernel), ini_X0, df_X0⟩
theorem nw_X0_9 : gNew RX0 9 3 2 [.int (nI 0), .null] := ⟨RX3, TX3, tyX3, rfl, uw_X3, tyX3_ok, gw_at 156 (by decide +kernel) (by decide +kernel), gw_at 157 (by decide +kernel) (by decide +kernel), ini_X3, df_X3⟩
theorem nw_X7_40 : gNew RX7 40 3 2 [.int (nI 0), .null] := ⟨RX3, TX3, tyX3, rfl, uw_X3, tyX3_ok, gw_at 183 (by decide +kernel) (by decide +kernel), gw_at 157 (by decide +kernel) (by decide +kernel), ini_X3, df_X3⟩
theorem nw_X7_53 : gNew RX7 53 5 6 [.int (nI 0), .int (nI 0), .int (nI 0), .int (nI 0), .int (nI 0), .int (nI 0)] := ⟨RX5, TX5, tyX5, rfl, uw_X5, tyX5_ok, gw_at 185 (by decide +kernel) (by decide +kernel), gw_at 186 (by decide +kernel) (by decide +kernel), ini_X5, df_X5⟩
theorem nw_X7_60 : gNew RX7 60 6 2 [.null, .null] := ⟨RX6, TX6, tyX6, rfl, uw_X6, tyX6_ok, gw_at 214 (by decide +kernel) (by decide +kernel), gw_at 215 (by decide +kernel) (by decide +kernel), ini_X6, df_X6⟩
theorem nw_L_10 : gNew RL 10 8 37 [.int (nI 0), .null, .int (nI 0), .int (nI 0), .null, .int (nI 0), .int (nI 0), .int (nI 0), .int (nI 0), .int (nI 0), .int (nI 0), .null, .null, .null, .null, .null, .int (nI 0), .int (nI 0), .int (nI 0), .int (nI 0), .int (nI 0), .int (nI 0), .null, .null, .null, .null, .null, .null, .int (nI 0), .null, .null, .long 0, .int (nI 0), .int (nI 0), .int (nI 0), .null, .null] := ⟨RX8, TX8, tyX8, rfl, uw_X8, tyX8_ok, gw_at 669 (by decide +kernel) (by decide +kernel), gw_at 670 (by decide +kernel) (by decide +kernel), ini_X8, df_X8⟩
theorem ff_X4_9 : gFf RX4 9 4 0 (.array .int) := ⟨RX4, TX4, 4, tyX4, rfl, by decide, uw_X4, gw_at 72 (by decide +kernel) (by decide +kernel), rfl, rfl, by decide +kernel, tyX4_ok, nmX4⟩
def paX4 (cy : Nat → ClassId) (h0 : Nat) (w : va_W) : Prop := ∃ q1 : Nat, w = [(h0, .inr (4, [.ref q1, .int (nI 0), .int (nI 0), .int (nI 0)])), (q1, .inl (cy 0, 56, .inl (nf z0)))]
set_option maxRecDepth 20000 in
theorem caX4 : CtA mX4_init 1 1 56 [] (.inr (4, [.null, .int (nI 0), .int (nI 0), .int (nI 0)])) paX4 := by
  refine CtA.of rfl rfl (fun _ => Nat.le_of_ble_eq_true rfl) ?_
  intro p l e s m args below meth c D cy h0 A ls C hin hl
  have hl : lv_has ls 1 [(0, .ref h0)] := hl
  refine a_aload_n C hl dX4_init_0 rfl (j := 0) rfl ?_
  refine a_obj C hl.1 oi_X4_3 oi_i oi_c (Nat.le_of_ble_eq_true rfl) (Nat.le_of_ble_eq_true rfl) dX4_init_1 ?_
  refine a_aload_n C hl dX4_init_4 rfl (j := 0) rfl ?_
  refine a_bipush (v := nI 56) C dX4_init_5 (by decide) ?_
  refine a_newI (N := 56) C ar_I (nI_pos (rng_lit 56 rfl)) (nI_clamp (rng_lit 56 rfl)) (Nat.le_of_ble_eq_true rfl) (Nat.le_of_ble_eq_true rfl) (Nat.le_of_ble_eq_true rfl) dX4_init_7 (fun q1 => ?_)
  refine a_putF (j := 0) (ws' := [(h0, .inr (4, [.ref q1, .int (nI 0), .int (nI 0), .int (nI 0)])), (q1, .inl (cy 0, 56, .inl (nf z0)))]) C hin ff_X4_9 rfl (Nat.le_of_ble_eq_true rfl) rfl rfl dX4_init_9 rfl ?_
  exact a_vret C rfl dX4_init_12 (Nat.le_of_ble_eq_true rfl) (Nat.le_of_ble_eq_true rfl) ⟨q1, rfl⟩
theorem ff_X1_9 : gFf RX1 9 1 0 (.array .int) := ⟨RX1, TX1, 11, tyX1, rfl, by decide, uw_X1, gw_at 93 (by decide +kernel) (by decide +kernel), rfl, rfl, by decide +kernel, tyX1_ok, nmX1⟩
theorem ff_X1_15 : gFf RX1 15 1 1 (.array .boolean) := ⟨RX1, TX1, 11, tyX1, rfl, by decide, uw_X1, gw_at 94 (by decide +kernel) (by decide +kernel), rfl, rfl, by decide +kernel, tyX1_ok, nmX1⟩
theorem ff_X1_19 : gFf RX1 19 1 2 (.array .int) := ⟨RX1, TX1, 11, tyX1, rfl, by decide, uw_X1, gw_at 95 (by decide +kernel) (by decide +kernel), rfl, rfl, by decide +kernel, tyX1_ok, nmX1⟩
theorem ff_X1_22 : gFf RX1 22 1 3 (.array .int) := ⟨RX1, TX1, 11, tyX1, rfl, by decide, uw_X1, gw_at 96 (by decide +kernel) (by decide +kernel), rfl, rfl, by decide +kernel, tyX1_ok, nmX1⟩
theorem ff_X1_25 : gFf RX1 25 1 4 (.array .int) := ⟨RX1, TX1, 11, tyX1, rfl, by decide, uw_X1, gw_at 97 (by decide +kernel) (by decide +kernel), rfl, rfl, by decide +kernel, tyX1_ok, nmX1⟩
def paX1 (cy : Nat → ClassId) (h0 : Nat) (w : va_W) : Prop := ∃ q1 q2 q3 q4 q5 : Nat, w = [(h0, .inr (1, [.ref q1, .ref q2, .ref q3, .ref q4, .ref q5, .int (nI 0), .int (nI 0), .int (nI 0), .int (nI 0), .int (nI 1), .int (nI 0)])), (q1, .inl (cy 0, 10, .inl (nf z0))), (q2, .inl (cy 2, 10, .inl (nf z0))), (q3, .inl (cy 0, 10, .inl (nf z0))), (q4, .inl (cy 0, 5, .inl (nf z0))), (q5, .inl (cy 0, 5, .inl (nf z0)))]
set_option maxRecDepth 20000 in
theorem caX1 : CtA mX1_init 1 5 40 [] (.inr (1, [.null, .null, .null, .null, .null, .int (nI 0), .int (nI 0), .int (nI 0), .int (nI 0), .int (nI 0), .int (nI 0)])) paX1 := by
  refine CtA.of rfl rfl (fun _ => Nat.le_of_ble_eq_true rfl) ?_
  intro p l e s m args below meth c D cy h0 A ls C hin hl
  have hl : lv_has ls 1 [(0, .ref h0)] := hl
  refine a_aload_n C hl dX1_init_0 rfl (j := 0) rfl ?_
  refine a_obj C hl.1 oi_X1_3 oi_i oi_c (Nat.le_of_ble_eq_true rfl) (Nat.le_of_ble_eq_true rfl) dX1_init_1 ?_
  refine a_aload_n C hl dX1_init_4 rfl (j := 0) rfl ?_
  refine a_bipush (v := nI 10) C dX1_init_5 (by decide) ?_
  refine a_newI (N := 10) C ar_I (nI_pos (rng_lit 10 rfl)) (nI_clamp (rng_lit 10 rfl)) (Nat.le_of_ble_eq_true rfl) (Nat.le_of_ble_eq_true rfl) (Nat.le_of_ble_eq_true rfl) dX1_init_7 (fun q1 => ?_)
  refine a_putF (j := 0) (ws' := [(h0, .inr (1, [.ref q1, .null, .null, .null, .null, .int (nI 0), .int (nI 0), .int (nI 0), .int (nI 0), .int (nI 0), .int (nI 0)])), (q1, .inl (cy 0, 10, .inl (nf z0)))]) C hin ff_X1_9 rfl (Nat.le_of_ble_eq_true rfl) rfl rfl dX1_init_9 rfl ?_
  refine a_aload_n C hl dX1_init_12 rfl (j := 0) rfl ?_
  refine a_bipush (v := nI 10) C dX1_init_13 (by decide) ?_
  refine a_newZ (N := 10) C ar_Z (nI_pos (rng_lit 10 rfl)) (nI_clamp (rng_lit 10 rfl)) (Nat.le_of_ble_eq_true rfl) (Nat.le_of_ble_eq_true rfl) (Nat.le_of_ble_eq_true rfl) dX1_init_15 (fun q2 => ?_)
  refine a_putF (j := 0) (ws' := [(h0, .inr (1, [.ref q1, .ref q2, .null, .null, .null, .int (nI 0), .int (nI 0), .int (nI 0), .int (nI 0), .int (nI 0), .int (nI 0)])), (q1, .inl (cy 0, 10, .inl (nf z0))), (q2, .inl (cy 2, 10, .inl (nf z0)))]) C hin ff_X1_15 rfl (Nat.le_of_ble_eq_true rfl) rfl rfl dX1_init_17 rfl ?_
  refine a_aload_n C hl dX1_init_20 rfl (j := 0) rfl ?_
  refine a_bipush (v := nI 10) C dX1_init_21 (by decide) ?_
  refine a_newI (N := 10) C ar_I (nI_pos (rng_lit 10 rfl)) (nI_clamp (rng_lit 10 rfl)) (Nat.le_of_ble_eq_true rfl) (Nat.le_of_ble_eq_true rfl) (Nat.le_of_ble_eq_true rfl) dX1_init_23 (fun q3 => ?_)
  refine a_putF (j := 0) (ws' := [(h0, .inr (1, [.ref q1, .ref q2, .ref q3, .null, .null, .int (nI 0), .int (nI 0), .int (nI 0), .int (nI 0), .int (nI 0), .int (nI 0)])), (q1, .inl (cy 0, 10, .inl (nf z0))), (q2, .inl (cy 2, 10, .inl (nf z0))), (q3, .inl (cy 0, 10, .inl (nf z0)))]) C hin ff_X1_19 rfl (Nat.le_of_ble_eq_true rfl) rfl rfl dX1_init_25 rfl ?_
  refine a_aload_n C hl dX1_init_28 rfl (j := 0) rfl ?_
  refine a_iconst (v := nI 5) C dX1_init_29 (by decide) ?_
  refine a_newI (N := 5) C ar_I (nI_pos (rng_lit 5 rfl)) (nI_clamp (rng_lit 5 rfl)) (Nat.le_of_ble_eq_true rfl) (Nat.le_of_ble_eq_true rfl) (Nat.le_of_ble_eq_true rfl) dX1_init_30 (fun q4 => ?_)
  refine a_putF (j := 0) (ws' := [(h0, .inr (1, [.ref q1, .ref q2, .ref q3, .ref q4, .null, .int (nI 0), .int (nI 0), .int (nI 0), .int (nI 0), .int (nI 0), .int (nI 0)])), (q1, .inl (cy 0, 10, .inl (nf z0))), (q2, .inl (cy 2, 10, .inl (nf z0))), (q3, .inl (cy 0, 10, .inl (nf z0))), (q4, .inl (cy 0, 5, .inl (nf z0)))]) C hin ff_X1_22 rfl (Nat.le_of_ble_eq_true rfl) rfl rfl dX1_init_32 rfl ?_
  refine a_aload_n C hl dX1_init_35 rfl (j := 0) rfl ?_
  refine a_iconst (v := nI 5) C dX1_init_36 (by decide) ?_
  refine a_newI (N := 5) C ar_I (nI_pos (rng_lit 5 rfl)) (nI_clamp (rng_lit 5 rfl)) (Nat.le_of_ble_eq_true rfl) (Nat.le_of_ble_eq_true rfl) (Nat.le_of_ble_eq_true rfl) dX1_init_37 (fun q5 => ?_)
  refine a_putF (j := 0) (ws' := [(h0, .inr (1, [.ref q1, .ref q2, .ref q3, .ref q4, .ref q5, .int (nI 0), .int (nI 0), .int (nI 0), .int (nI 0), .int (nI 0), .int (nI 0)])), (q1, .inl (cy 0, 10, .inl (nf z0))), (q2, .inl (cy 2, 10, .inl (nf z0))), (q3, .inl (cy 0, 10, .inl (nf z0))), (q4, .inl (cy 0, 5, .inl (nf z0))), (q5, .inl (cy 0, 5, .inl (nf z0)))]) C hin ff_X1_25 rfl (Nat.le_of_ble_eq_true rfl) rfl rfl dX1_init_39 rfl ?_
  refine a_aload_n C hl dX1_init_42 rfl (j := 0) rfl ?_
  refine a_iconst (v := nI 1) C dX1_init_43 (by decide) ?_
  refine a_put (j := 0) (ws' := [(h0, .inr (1, [.ref q1, .ref q2, .ref q3, .ref q4, .ref q5, .int (nI 0), .int (nI 0), .int (nI 0), .int (nI 0), .int (nI 1), .int (nI 0)])), (q1, .inl (cy 0, 10, .inl (nf z0))), (q2, .inl (cy 2, 10, .inl (nf z0))), (q3, .inl (cy 0, 10, .inl (nf z0))), (q4, .inl (cy 0, 5, .inl (nf z0))), (q5, .inl (cy 0, 5, .inl (nf z0)))]) C fX1_28 fp_X1_9 rfl (Nat.le_of_ble_eq_true rfl) rfl rfl dX1_init_44 rfl ?_
  exact a_vret C rfl dX1_init_47 (Nat.le_of_ble_eq_true rfl) (Nat.le_of_ble_eq_true rfl) ⟨q1, q2, q3, q4, q5, rfl⟩
theorem ff_X2_11 : gFf RX2 11 2 0 (.array .int) := ⟨RX2, TX2, 1, tyX2, rfl, by decide, uw_X2, gw_at 145 (by decide +kernel) (by decide +kernel), rfl, rfl, by decide +kernel, tyX2_ok, nmX2⟩
def paX2 (cy : Nat → ClassId) (h0 : Nat) (w : va_W) : Prop := ∃ q1 : Nat, w = [(h0, .inr (2, [.ref q1])), (q1, .inl (cy 0, 16, .inl (nf z0)))]
set_option maxRecDepth 20000 in
theorem caX2 : CtA mX2_init 1 1 16 [] (.inr (2, [.null])) paX2 := by
  refine CtA.of rfl rfl (fun _ => Nat.le_of_ble_eq_true rfl) ?_
  intro p l e s m args below meth c D cy h0 A ls C hin hl
  have hl : lv_has ls 1 [(0, .ref h0)] := hl
  refine a_aload_n C hl dX2_init_0 rfl (j := 0) rfl ?_
  refine a_obj C hl.1 oi_X2_5 oi_i oi_c (Nat.le_of_ble_eq_true rfl) (Nat.le_of_ble_eq_true rfl) dX2_init_1 ?_
  refine a_aload_n C hl dX2_init_4 rfl (j := 0) rfl ?_
  refine a_bipush (v := nI 16) C dX2_init_5 (by decide) ?_
  refine a_newI (N := 16) C ar_I (nI_pos (rng_lit 16 rfl)) (nI_clamp (rng_lit 16 rfl)) (Nat.le_of_ble_eq_true rfl) (Nat.le_of_ble_eq_true rfl) (Nat.le_of_ble_eq_true rfl) dX2_init_7 (fun q1 => ?_)
  refine a_putF (j := 0) (ws' := [(h0, .inr (2, [.ref q1])), (q1, .inl (cy 0, 16, .inl (nf z0)))]) C hin ff_X2_11 rfl (Nat.le_of_ble_eq_true rfl) rfl rfl dX2_init_9 rfl ?_
  exact a_vret C rfl dX2_init_12 (Nat.le_of_ble_eq_true rfl) (Nat.le_of_ble_eq_true rfl) ⟨q1, rfl⟩
theorem ff_X3_13 : gFf RX3 13 3 0 .int := ⟨RX3, TX3, 2, tyX3, rfl, by decide, uw_X3, gw_at 165 (by decide +kernel) (by decide +kernel), rfl, rfl, by decide +kernel, tyX3_ok, nmX3⟩
theorem ff_X3_21 : gFf RX3 21 3 1 (.array .int) := ⟨RX3, TX3, 2, tyX3, rfl, by decide, uw_X3, gw_at 166 (by decide +kernel) (by decide +kernel), rfl, rfl, by decide +kernel, tyX3_ok, nmX3⟩
def paX3a (cy : Nat → ClassId) (h0 : Nat) (w : va_W) : Prop := ∃ q1 : Nat, w = [(h0, .inr (3, [.int (nI 16), .ref q1])), (q1, .inl (cy 0, 256, .inl (nf z0)))]
set_option maxRecDepth 20000 in
theorem caX3a : CtA mX3_init 1 1 256 [.int (nI 16)] (.inr (3, [.int (nI 0), .null])) paX3a := by
  refine CtA.of rfl rfl (fun _ => Nat.le_of_ble_eq_true rfl) ?_
  intro p l e s m args below meth c D cy h0 A ls C hin hl
  have hl : lv_has ls 2 [(0, .ref h0), (1, .int (nI 16))] := hl
  refine a_aload_n C hl dX3_init_0 rfl (j := 0) rfl ?_
  refine a_obj C hl.1 oi_X3_1 oi_i oi_c (Nat.le_of_ble_eq_true rfl) (Nat.le_of_ble_eq_true rfl) dX3_init_1 ?_
  refine a_aload_n C hl dX3_init_4 rfl (j := 0) rfl ?_
  refine a_iconst (v := nI 0) C dX3_init_5 (by decide) ?_
  refine a_iload_n C hl dX3_init_6 rfl (j := 1) rfl ?_
  refine a_mmax (v := (nI 16)) C hl.1 lmX3_7 (Nat.le_of_ble_eq_true rfl) (Nat.le_of_ble_eq_true rfl) (Nat.le_of_ble_eq_true rfl) (Nat.le_of_ble_eq_true rfl) dX3_init_7 (by decide) ?_
  refine a_putF (j := 0) (ws' := [(h0, .inr (3, [.int (nI 16), .null]))]) C hin ff_X3_13 rfl (Nat.le_of_ble_eq_true rfl) rfl rfl dX3_init_10 rfl ?_
  refine a_aload_n C hl dX3_init_13 rfl (j := 0) rfl ?_
  refine a_aload_n C hl dX3_init_14 rfl (j := 0) rfl ?_
  refine a_get (j := 0) C fX3_13 rfl rfl dX3_init_15 ?_
  refine a_bipush (v := nI 16) C dX3_init_18 (by decide) ?_
  refine a_imul (v := nI 256) C dX3_init_20 (by decide) ?_
  refine a_newI (N := 256) C ar_I (nI_pos (rng_lit 256 rfl)) (nI_clamp (rng_lit 256 rfl)) (Nat.le_of_ble_eq_true rfl) (Nat.le_of_ble_eq_true rfl) (Nat.le_of_ble_eq_true rfl) dX3_init_21 (fun q1 => ?_)
  refine a_putF (j := 0) (ws' := [(h0, .inr (3, [.int (nI 16), .ref q1])), (q1, .inl (cy 0, 256, .inl (nf z0)))]) C hin ff_X3_21 rfl (Nat.le_of_ble_eq_true rfl) rfl rfl dX3_init_23 rfl ?_
  exact a_vret C rfl dX3_init_26 (Nat.le_of_ble_eq_true rfl) (Nat.le_of_ble_eq_true rfl) ⟨q1, rfl⟩
def paX3s (cy : Nat → ClassId) (h0 : Nat) (w : va_W) : Prop := ∃ q1 : Nat, w = [(h0, .inr (3, [.int (nI 2), .ref q1])), (q1, .inl (cy 0, 32, .inl (nf z0)))]
set_option maxRecDepth 20000 in
theorem caX3s : CtA mX3_init 1 1 32 [.int (nI 2)] (.inr (3, [.int (nI 0), .null])) paX3s := by
  refine CtA.of rfl rfl (fun _ => Nat.le_of_ble_eq_true rfl) ?_
  intro p l e s m args below meth c D cy h0 A ls C hin hl
  have hl : lv_has ls 2 [(0, .ref h0), (1, .int (nI 2))] := hl
  refine a_aload_n C hl dX3_init_0 rfl (j := 0) rfl ?_
  refine a_obj C hl.1 oi_X3_1 oi_i oi_c (Nat.le_of_ble_eq_true rfl) (Nat.le_of_ble_eq_true rfl) dX3_init_1 ?_
  refine a_aload_n C hl dX3_init_4 rfl (j := 0) rfl ?_
  refine a_iconst (v := nI 0) C dX3_init_5 (by decide) ?_
  refine a_iload_n C hl dX3_init_6 rfl (j := 1) rfl ?_
  refine a_mmax (v := (nI 2)) C hl.1 lmX3_7 (Nat.le_of_ble_eq_true rfl) (Nat.le_of_ble_eq_true rfl) (Nat.le_of_ble_eq_true rfl) (Nat.le_of_ble_eq_true rfl) dX3_init_7 (by decide) ?_
  refine a_putF (j := 0) (ws' := [(h0, .inr (3, [.int (nI 2), .null]))]) C hin ff_X3_13 rfl (Nat.le_of_ble_eq_true rfl) rfl rfl dX3_init_10 rfl ?_
  refine a_aload_n C hl dX3_init_13 rfl (j := 0) rfl ?_
  refine a_aload_n C hl dX3_init_14 rfl (j := 0) rfl ?_
  refine a_get (j := 0) C fX3_13 rfl rfl dX3_init_15 ?_
  refine a_bipush (v := nI 16) C dX3_init_18 (by decide) ?_
  refine a_imul (v := nI 32) C dX3_init_20 (by decide) ?_
  refine a_newI (N := 32) C ar_I (nI_pos (rng_lit 32 rfl)) (nI_clamp (rng_lit 32 rfl)) (Nat.le_of_ble_eq_true rfl) (Nat.le_of_ble_eq_true rfl) (Nat.le_of_ble_eq_true rfl) dX3_init_21 (fun q1 => ?_)
  refine a_putF (j := 0) (ws' := [(h0, .inr (3, [.int (nI 2), .ref q1])), (q1, .inl (cy 0, 32, .inl (nf z0)))]) C hin ff_X3_21 rfl (Nat.le_of_ble_eq_true rfl) rfl rfl dX3_init_23 rfl ?_
  exact a_vret C rfl dX3_init_26 (Nat.le_of_ble_eq_true rfl) (Nat.le_of_ble_eq_true rfl) ⟨q1, rfl⟩
theorem ff_X0_14 : gFf RX0 14 0 0 (.object "OverSands$Shelf") := ⟨RX0, TX0, 3, tyX0, rfl, by decide, uw_X0, gw_at 172 (by decide +kernel) (by decide +kernel), rfl, rfl, by decide +kernel, tyX0_ok, nmX0⟩
def paX0 (cy : Nat → ClassId) (h0 : Nat) (w : va_W) : Prop := ∃ q1 q2 : Nat, w = [(h0, .inr (0, [.ref q1, .int (nI 0), .int (nI 0)])), (q1, .inr (3, [.int (nI 16), .ref q2])), (q2, .inl (cy 0, 256, .inl (nf z0)))]
set_option maxRecDepth 20000 in
theorem caX0 : CtA mX0_init 2 2 258 [] (.inr (0, [.null, .int (nI 0), .int (nI 0)])) paX0 := by
  refine CtA.of rfl rfl (fun _ => Nat.le_of_ble_eq_true rfl) ?_
  intro p l e s m args below meth c D cy h0 A ls C hin hl
  have hl : lv_has ls 1 [(0, .ref h0)] := hl
  refine a_aload_n C hl dX0_init_0 rfl (j := 0) rfl ?_
  refine a_obj C hl.1 oi_X0_3 oi_i oi_c (Nat.le_of_ble_eq_true rfl) (Nat.le_of_ble_eq_true rfl) dX0_init_1 ?_
  refine a_aload_n C hl dX0_init_4 rfl (j := 0) rfl ?_
  refine a_new C nw_X0_9 (Nat.le_of_ble_eq_true rfl) (Nat.le_of_ble_eq_true rfl) dX0_init_5 (fun q1 => ?_)
  refine a_dup C dX0_init_8 ?_
  refine a_bipush (v := nI 16) C dX0_init_9 (by decide) ?_
  refine a_call C caX3a kX3_init rfl rfl in_X3 il_X0_11 ⟨Nat.le_of_ble_eq_true rfl, Nat.le_of_ble_eq_true rfl⟩ hl.1 rfl (Nat.le_of_ble_eq_true rfl) ⟨Nat.le_of_ble_eq_true rfl, Nat.le_of_ble_eq_true rfl⟩ dX0_init_11 rfl ?_
  rintro _ ⟨q2, rfl⟩
  refine a_putF (j := 0) (ws' := [(h0, .inr (0, [.ref q1, .int (nI 0), .int (nI 0)])), (q1, .inr (3, [.int (nI 16), .ref q2])), (q2, .inl (cy 0, 256, .inl (nf z0)))]) C hin ff_X0_14 rfl (Nat.le_of_ble_eq_true rfl) rfl rfl dX0_init_14 rfl ?_
  exact a_vret C rfl dX0_init_17 (Nat.le_of_ble_eq_true rfl) (Nat.le_of_ble_eq_true rfl) ⟨q1, q2, rfl⟩
def paX5 (_ : Nat → ClassId) (h0 : Nat) (w : va_W) : Prop := w = [(h0, .inr (5, [.int (nI 0), .int (nI 0), .int (nI 0), .int (nI 0), .int (nI 0), .int (nI 0)]))]
set_option maxRecDepth 20000 in
theorem caX5 : CtA mX5_init 1 0 0 [] (.inr (5, [.int (nI 0), .int (nI 0), .int (nI 0), .int (nI 0), .int (nI 0), .int (nI 0)])) paX5 := by
  refine CtA.of rfl rfl (fun _ => Nat.le_of_ble_eq_true rfl) ?_
  intro p l e s m args below meth c D cy h0 A ls C hin hl
  have hl : lv_has ls 1 [(0, .ref h0)] := hl
  refine a_aload_n C hl dX5_init_0 rfl (j := 0) rfl ?_
  refine a_obj C hl.1 oi_X5_3 oi_i oi_c (Nat.le_of_ble_eq_true rfl) (Nat.le_of_ble_eq_true rfl) dX5_init_1 ?_
  exact a_vret C rfl dX5_init_4 (Nat.le_of_ble_eq_true rfl) (Nat.le_of_ble_eq_true rfl) rfl
theorem ff_X6_9 : gFf RX6 9 6 0 (.array .int) := ⟨RX6, TX6, 2, tyX6, rfl, by decide, uw_X6, gw_at 220 (by decide +kernel) (by decide +kernel), rfl, rfl, by decide +kernel, tyX6_ok, nmX6⟩
theorem ff_X6_15 : gFf RX6 15 6 1 (.array .int) := ⟨RX6, TX6, 2, tyX6, rfl, by decide, uw_X6, gw_at 221 (by decide +kernel) (by decide +kernel), rfl, rfl, by decide +kernel, tyX6_ok, nmX6⟩
def paX6 (cy : Nat → ClassId) (h0 : Nat) (w : va_W) : Prop := ∃ q1 q2 : Nat, w = [(h0, .inr (6, [.ref q1, .ref q2])), (q1, .inl (cy 0, 10, .inl (nf z0))), (q2, .inl (cy 0, 10, .inl (nf z0)))]
set_option maxRecDepth 20000 in
theorem caX6 : CtA mX6_init 1 2 20 [] (.inr (6, [.null, .null])) paX6 := by
  refine CtA.of rfl rfl (fun _ => Nat.le_of_ble_eq_true rfl) ?_
  intro p l e s m args below meth c D cy h0 A ls C hin hl
  have hl : lv_has ls 1 [(0, .ref h0)] := hl
  refine a_aload_n C hl dX6_init_0 rfl (j := 0) rfl ?_
  refine a_obj C hl.1 oi_X6_3 oi_i oi_c (Nat.le_of_ble_eq_true rfl) (Nat.le_of_ble_eq_true rfl) dX6_init_1 ?_
  refine a_aload_n C hl dX6_init_4 rfl (j := 0) rfl ?_
  refine a_bipush (v := nI 10) C dX6_init_5 (by decide) ?_
  refine a_newI (N := 10) C ar_I (nI_pos (rng_lit 10 rfl)) (nI_clamp (rng_lit 10 rfl)) (Nat.le_of_ble_eq_true rfl) (Nat.le_of_ble_eq_true rfl) (Nat.le_of_ble_eq_true rfl) dX6_init_7 (fun q1 => ?_)
  refine a_putF (j := 0) (ws' := [(h0, .inr (6, [.ref q1, .null])), (q1, .inl (cy 0, 10, .inl (nf z0)))]) C hin ff_X6_9 rfl (Nat.le_of_ble_eq_true rfl) rfl rfl dX6_init_9 rfl ?_
  refine a_aload_n C hl dX6_init_12 rfl (j := 0) rfl ?_
  refine a_bipush (v := nI 10) C dX6_init_13 (by decide) ?_
  refine a_newI (N := 10) C ar_I (nI_pos (rng_lit 10 rfl)) (nI_clamp (rng_lit 10 rfl)) (Nat.le_of_ble_eq_true rfl) (Nat.le_of_ble_eq_true rfl) (Nat.le_of_ble_eq_true rfl) dX6_init_15 (fun q2 => ?_)
  refine a_putF (j := 0) (ws' := [(h0, .inr (6, [.ref q1, .ref q2])), (q1, .inl (cy 0, 10, .inl (nf z0))), (q2, .inl (cy 0, 10, .inl (nf z0)))]) C hin ff_X6_15 rfl (Nat.le_of_ble_eq_true rfl) rfl rfl dX6_init_17 rfl ?_
  exact a_vret C rfl dX6_init_20 (Nat.le_of_ble_eq_true rfl) (Nat.le_of_ble_eq_true rfl) ⟨q1, q2, rfl⟩
