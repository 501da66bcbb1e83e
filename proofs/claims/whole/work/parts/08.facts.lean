theorem ini_L : Cond.initialized RL ∈ gw := gw_at 46 (by decide +kernel) (by decide +kernel)
theorem ini_X7 : Cond.initialized RX7 ∈ gw := gw_at 47 (by decide +kernel) (by decide +kernel)
theorem ini_X4 : Cond.initialized RX4 ∈ gw := gw_at 48 (by decide +kernel) (by decide +kernel)
theorem ini_X1 : Cond.initialized RX1 ∈ gw := gw_at 49 (by decide +kernel) (by decide +kernel)
theorem ini_X2 : Cond.initialized RX2 ∈ gw := gw_at 50 (by decide +kernel) (by decide +kernel)
theorem ini_X0 : Cond.initialized RX0 ∈ gw := gw_at 51 (by decide +kernel) (by decide +kernel)
theorem ini_X3 : Cond.initialized RX3 ∈ gw := gw_at 52 (by decide +kernel) (by decide +kernel)
theorem ini_J9 : Cond.initialized RJ9 ∈ gw := gw_at 53 (by decide +kernel) (by decide +kernel)
theorem ini_X5 : Cond.initialized RX5 ∈ gw := gw_at 54 (by decide +kernel) (by decide +kernel)
theorem ini_X6 : Cond.initialized RX6 ∈ gw := gw_at 55 (by decide +kernel) (by decide +kernel)
theorem ini_X8 : Cond.initialized RX8 ∈ gw := gw_at 56 (by decide +kernel) (by decide +kernel)
theorem ini_J10 : Cond.initialized RJ10 ∈ gw := gw_at 57 (by decide +kernel) (by decide +kernel)
theorem uw_X0 : ∀ w ∈ u_ws RX0 TX0 3, w ∈ gw := by
  have h : u_ws RX0 TX0 3 = ([176, 178, 180] : List Nat).filterMap (fun i => lw_tbl[i]?) := by decide +kernel
  have h2 : (u_ws RX0 TX0 3).all goodWord = true := by decide +kernel
  intro w hw
  have hg := List.all_eq_true.mp h2 w hw
  rw [h] at hw
  obtain ⟨i, -, hi⟩ := List.mem_filterMap.mp hw
  exact gw_at i hi hg
theorem fp_X0_1 : gFp 0 1 .int := ⟨RX0, TX0, 3, tyX0, rfl, rfl, by decide +kernel, tyX0_ok, nmX0⟩
theorem fp_X0_2 : gFp 0 2 .int := ⟨RX0, TX0, 3, tyX0, rfl, rfl, by decide +kernel, tyX0_ok, nmX0⟩
theorem uw_X1 : ∀ w ∈ u_ws RX1 TX1 11, w ∈ gw := by
  have h : u_ws RX1 TX1 11 = ([115, 117, 119, 121, 123, 125, 127, 129, 131, 133, 135] : List Nat).filterMap (fun i => lw_tbl[i]?) := by decide +kernel
  have h2 : (u_ws RX1 TX1 11).all goodWord = true := by decide +kernel
  intro w hw
  have hg := List.all_eq_true.mp h2 w hw
  rw [h] at hw
  obtain ⟨i, -, hi⟩ := List.mem_filterMap.mp hw
  exact gw_at i hi hg
theorem fp_X1_5 : gFp 1 5 .int := ⟨RX1, TX1, 11, tyX1, rfl, rfl, by decide +kernel, tyX1_ok, nmX1⟩
theorem fp_X1_6 : gFp 1 6 .int := ⟨RX1, TX1, 11, tyX1, rfl, rfl, by decide +kernel, tyX1_ok, nmX1⟩
theorem fp_X1_7 : gFp 1 7 .int := ⟨RX1, TX1, 11, tyX1, rfl, rfl, by decide +kernel, tyX1_ok, nmX1⟩
theorem fp_X1_8 : gFp 1 8 .int := ⟨RX1, TX1, 11, tyX1, rfl, rfl, by decide +kernel, tyX1_ok, nmX1⟩
theorem fp_X1_9 : gFp 1 9 .int := ⟨RX1, TX1, 11, tyX1, rfl, rfl, by decide +kernel, tyX1_ok, nmX1⟩
theorem fp_X1_10 : gFp 1 10 .int := ⟨RX1, TX1, 11, tyX1, rfl, rfl, by decide +kernel, tyX1_ok, nmX1⟩
theorem uw_X2 : ∀ w ∈ u_ws RX2 TX2 1, w ∈ gw := by
  have h : u_ws RX2 TX2 1 = ([147] : List Nat).filterMap (fun i => lw_tbl[i]?) := by decide +kernel
  have h2 : (u_ws RX2 TX2 1).all goodWord = true := by decide +kernel
  intro w hw
  have hg := List.all_eq_true.mp h2 w hw
  rw [h] at hw
  obtain ⟨i, -, hi⟩ := List.mem_filterMap.mp hw
  exact gw_at i hi hg
theorem uw_X3 : ∀ w ∈ u_ws RX3 TX3 2, w ∈ gw := by
  have h : u_ws RX3 TX3 2 = ([167, 169] : List Nat).filterMap (fun i => lw_tbl[i]?) := by decide +kernel
  have h2 : (u_ws RX3 TX3 2).all goodWord = true := by decide +kernel
  intro w hw
  have hg := List.all_eq_true.mp h2 w hw
  rw [h] at hw
  obtain ⟨i, -, hi⟩ := List.mem_filterMap.mp hw
  exact gw_at i hi hg
theorem uw_X4 : ∀ w ∈ u_ws RX4 TX4 4, w ∈ gw := by
  have h : u_ws RX4 TX4 4 = ([77, 79, 81, 83] : List Nat).filterMap (fun i => lw_tbl[i]?) := by decide +kernel
  have h2 : (u_ws RX4 TX4 4).all goodWord = true := by decide +kernel
  intro w hw
  have hg := List.all_eq_true.mp h2 w hw
  rw [h] at hw
  obtain ⟨i, -, hi⟩ := List.mem_filterMap.mp hw
  exact gw_at i hi hg
theorem fp_X4_1 : gFp 4 1 .int := ⟨RX4, TX4, 4, tyX4, rfl, rfl, by decide +kernel, tyX4_ok, nmX4⟩
theorem fp_X4_2 : gFp 4 2 .int := ⟨RX4, TX4, 4, tyX4, rfl, rfl, by decide +kernel, tyX4_ok, nmX4⟩
theorem fp_X4_3 : gFp 4 3 .boolean := ⟨RX4, TX4, 4, tyX4, rfl, rfl, by decide +kernel, tyX4_ok, nmX4⟩
theorem uw_X5 : ∀ w ∈ u_ws RX5 TX5 6, w ∈ gw := by
  have h : u_ws RX5 TX5 6 = ([201, 203, 205, 207, 209, 211] : List Nat).filterMap (fun i => lw_tbl[i]?) := by decide +kernel
  have h2 : (u_ws RX5 TX5 6).all goodWord = true := by decide +kernel
  intro w hw
  have hg := List.all_eq_true.mp h2 w hw
  rw [h] at hw
  obtain ⟨i, -, hi⟩ := List.mem_filterMap.mp hw
  exact gw_at i hi hg
theorem fp_X5_0 : gFp 5 0 .int := ⟨RX5, TX5, 6, tyX5, rfl, rfl, by decide +kernel, tyX5_ok, nmX5⟩
theorem fp_X5_1 : gFp 5 1 .int := ⟨RX5, TX5, 6, tyX5, rfl, rfl, by decide +kernel, tyX5_ok, nmX5⟩
theorem fp_X5_2 : gFp 5 2 .int := ⟨RX5, TX5, 6, tyX5, rfl, rfl, by decide +kernel, tyX5_ok, nmX5⟩
theorem fp_X5_3 : gFp 5 3 .int := ⟨RX5, TX5, 6, tyX5, rfl, rfl, by decide +kernel, tyX5_ok, nmX5⟩
theorem fp_X5_4 : gFp 5 4 .int := ⟨RX5, TX5, 6, tyX5, rfl, rfl, by decide +kernel, tyX5_ok, nmX5⟩
theorem fp_X5_5 : gFp 5 5 .int := ⟨RX5, TX5, 6, tyX5, rfl, rfl, by decide +kernel, tyX5_ok, nmX5⟩
theorem uw_X6 : ∀ w ∈ u_ws RX6 TX6 2, w ∈ gw := by
  have h : u_ws RX6 TX6 2 = ([222, 224] : List Nat).filterMap (fun i => lw_tbl[i]?) := by decide +kernel
  have h2 : (u_ws RX6 TX6 2).all goodWord = true := by decide +kernel
  intro w hw
  have hg := List.all_eq_true.mp h2 w hw
  rw [h] at hw
  obtain ⟨i, -, hi⟩ := List.mem_filterMap.mp hw
  exact gw_at i hi hg
theorem uw_X7 : ∀ w ∈ u_ws RX7 TX7 10, w ∈ gw := by
  have h : u_ws RX7 TX7 10 = ([237, 239, 241, 243, 245, 247, 249, 251, 253, 255] : List Nat).filterMap (fun i => lw_tbl[i]?) := by decide +kernel
  have h2 : (u_ws RX7 TX7 10).all goodWord = true := by decide +kernel
  intro w hw
  have hg := List.all_eq_true.mp h2 w hw
  rw [h] at hw
  obtain ⟨i, -, hi⟩ := List.mem_filterMap.mp hw
  exact gw_at i hi hg
theorem fp_X7_9 : gFp 7 9 .long := ⟨RX7, TX7, 10, tyX7, rfl, rfl, by decide +kernel, tyX7_ok, nmX7⟩
theorem uw_X8 : ∀ w ∈ u_ws RX8 TX8 37, w ∈ gw := by
  have h : u_ws RX8 TX8 37 = ([712, 714, 716, 718, 720, 722, 724, 726, 728, 730, 732, 734, 736, 738, 740, 742, 744, 746, 748, 750, 752, 754, 756, 758, 760, 762, 764, 766, 768, 770, 772, 774, 776, 778, 780, 782, 784] : List Nat).filterMap (fun i => lw_tbl[i]?) := by decide +kernel
  have h2 : (u_ws RX8 TX8 37).all goodWord = true := by decide +kernel
  intro w hw
  have hg := List.all_eq_true.mp h2 w hw
  rw [h] at hw
  obtain ⟨i, -, hi⟩ := List.mem_filterMap.mp hw
  exact gw_at i hi hg
theorem fp_X8_0 : gFp 8 0 .int := ⟨RX8, TX8, 37, tyX8, rfl, rfl, by decide +kernel, tyX8_ok, nmX8⟩
theorem fp_X8_2 : gFp 8 2 .int := ⟨RX8, TX8, 37, tyX8, rfl, rfl, by decide +kernel, tyX8_ok, nmX8⟩
theorem fp_X8_3 : gFp 8 3 .int := ⟨RX8, TX8, 37, tyX8, rfl, rfl, by decide +kernel, tyX8_ok, nmX8⟩
theorem fp_X8_5 : gFp 8 5 .int := ⟨RX8, TX8, 37, tyX8, rfl, rfl, by decide +kernel, tyX8_ok, nmX8⟩
theorem fp_X8_6 : gFp 8 6 .int := ⟨RX8, TX8, 37, tyX8, rfl, rfl, by decide +kernel, tyX8_ok, nmX8⟩
theorem fp_X8_7 : gFp 8 7 .int := ⟨RX8, TX8, 37, tyX8, rfl, rfl, by decide +kernel, tyX8_ok, nmX8⟩
theorem fp_X8_8 : gFp 8 8 .int := ⟨RX8, TX8, 37, tyX8, rfl, rfl, by decide +kernel, tyX8_ok, nmX8⟩
theorem fp_X8_9 : gFp 8 9 .int := ⟨RX8, TX8, 37, tyX8, rfl, rfl, by decide +kernel, tyX8_ok, nmX8⟩
theorem fp_X8_10 : gFp 8 10 .int := ⟨RX8, TX8, 37, tyX8, rfl, rfl, by decide +kernel, tyX8_ok, nmX8⟩
theorem fp_X8_16 : gFp 8 16 .int := ⟨RX8, TX8, 37, tyX8, rfl, rfl, by decide +kernel, tyX8_ok, nmX8⟩
theorem fp_X8_17 : gFp 8 17 .int := ⟨RX8, TX8, 37, tyX8, rfl, rfl, by decide +kernel, tyX8_ok, nmX8⟩
theorem fp_X8_18 : gFp 8 18 .int := ⟨RX8, TX8, 37, tyX8, rfl, rfl, by decide +kernel, tyX8_ok, nmX8⟩
theorem fp_X8_19 : gFp 8 19 .int := ⟨RX8, TX8, 37, tyX8, rfl, rfl, by decide +kernel, tyX8_ok, nmX8⟩
theorem fp_X8_20 : gFp 8 20 .int := ⟨RX8, TX8, 37, tyX8, rfl, rfl, by decide +kernel, tyX8_ok, nmX8⟩
theorem fp_X8_21 : gFp 8 21 .int := ⟨RX8, TX8, 37, tyX8, rfl, rfl, by decide +kernel, tyX8_ok, nmX8⟩
theorem fp_X8_28 : gFp 8 28 .int := ⟨RX8, TX8, 37, tyX8, rfl, rfl, by decide +kernel, tyX8_ok, nmX8⟩
theorem fp_X8_31 : gFp 8 31 .long := ⟨RX8, TX8, 37, tyX8, rfl, rfl, by decide +kernel, tyX8_ok, nmX8⟩
theorem fp_X8_32 : gFp 8 32 .int := ⟨RX8, TX8, 37, tyX8, rfl, rfl, by decide +kernel, tyX8_ok, nmX8⟩
theorem fp_X8_33 : gFp 8 33 .int := ⟨RX8, TX8, 37, tyX8, rfl, rfl, by decide +kernel, tyX8_ok, nmX8⟩
theorem fp_X8_34 : gFp 8 34 .int := ⟨RX8, TX8, 37, tyX8, rfl, rfl, by decide +kernel, tyX8_ok, nmX8⟩
theorem fX4_9 : gF RX4 9 4 0 := ⟨RX4, TX4, 4, rfl, by decide, uw_X4, Or.inl (gw_at 72 (by decide +kernel) (by decide +kernel))⟩
theorem fX4_15 : gF RX4 15 4 1 := ⟨RX4, TX4, 4, rfl, by decide, uw_X4, Or.inl (gw_at 73 (by decide +kernel) (by decide +kernel))⟩
theorem fX7_71 : gF RX7 71 4 1 := ⟨RX4, TX4, 4, rfl, by decide, uw_X4, Or.inr ⟨"OverSands", gnl_at 74 (by decide +kernel) rfl⟩⟩
theorem fX4_19 : gF RX4 19 4 2 := ⟨RX4, TX4, 4, rfl, by decide, uw_X4, Or.inl (gw_at 75 (by decide +kernel) (by decide +kernel))⟩
theorem fX4_22 : gF RX4 22 4 3 := ⟨RX4, TX4, 4, rfl, by decide, uw_X4, Or.inl (gw_at 76 (by decide +kernel) (by decide +kernel))⟩
theorem fX1_9 : gF RX1 9 1 0 := ⟨RX1, TX1, 11, rfl, by decide, uw_X1, Or.inl (gw_at 93 (by decide +kernel) (by decide +kernel))⟩
theorem fX1_15 : gF RX1 15 1 1 := ⟨RX1, TX1, 11, rfl, by decide, uw_X1, Or.inl (gw_at 94 (by decide +kernel) (by decide +kernel))⟩
theorem fX1_19 : gF RX1 19 1 2 := ⟨RX1, TX1, 11, rfl, by decide, uw_X1, Or.inl (gw_at 95 (by decide +kernel) (by decide +kernel))⟩
theorem fX1_22 : gF RX1 22 1 3 := ⟨RX1, TX1, 11, rfl, by decide, uw_X1, Or.inl (gw_at 96 (by decide +kernel) (by decide +kernel))⟩
theorem fX1_25 : gF RX1 25 1 4 := ⟨RX1, TX1, 11, rfl, by decide, uw_X1, Or.inl (gw_at 97 (by decide +kernel) (by decide +kernel))⟩
theorem fX1_32 : gF RX1 32 1 5 := ⟨RX1, TX1, 11, rfl, by decide, uw_X1, Or.inl (gw_at 98 (by decide +kernel) (by decide +kernel))⟩
theorem fX7_89 : gF RX7 89 1 5 := ⟨RX1, TX1, 11, rfl, by decide, uw_X1, Or.inr ⟨"OverSands", gnl_at 99 (by decide +kernel) rfl⟩⟩
theorem fX4_59 : gF RX4 59 1 5 := ⟨RX1, TX1, 11, rfl, by decide, uw_X1, Or.inr ⟨"OverSands", gnl_at 100 (by decide +kernel) rfl⟩⟩
theorem fX1_35 : gF RX1 35 1 6 := ⟨RX1, TX1, 11, rfl, by decide, uw_X1, Or.inl (gw_at 101 (by decide +kernel) (by decide +kernel))⟩
theorem fX7_92 : gF RX7 92 1 6 := ⟨RX1, TX1, 11, rfl, by decide, uw_X1, Or.inr ⟨"OverSands", gnl_at 102 (by decide +kernel) rfl⟩⟩
theorem fX4_65 : gF RX4 65 1 6 := ⟨RX1, TX1, 11, rfl, by decide, uw_X1, Or.inr ⟨"OverSands", gnl_at 103 (by decide +kernel) rfl⟩⟩
theorem fX1_38 : gF RX1 38 1 7 := ⟨RX1, TX1, 11, rfl, by decide, uw_X1, Or.inl (gw_at 104 (by decide +kernel) (by decide +kernel))⟩
theorem fX4_71 : gF RX4 71 1 7 := ⟨RX1, TX1, 11, rfl, by decide, uw_X1, Or.inr ⟨"OverSands", gnl_at 105 (by decide +kernel) rfl⟩⟩
theorem fX5_27 : gF RX5 27 1 8 := ⟨RX1, TX1, 11, rfl, by decide, uw_X1, Or.inr ⟨"OverSands", gnl_at 106 (by decide +kernel) rfl⟩⟩
theorem fX4_50 : gF RX4 50 1 8 := ⟨RX1, TX1, 11, rfl, by decide, uw_X1, Or.inr ⟨"OverSands", gnl_at 107 (by decide +kernel) rfl⟩⟩
theorem fX7_103 : gF RX7 103 1 8 := ⟨RX1, TX1, 11, rfl, by decide, uw_X1, Or.inr ⟨"OverSands", gnl_at 108 (by decide +kernel) rfl⟩⟩
theorem fX1_28 : gF RX1 28 1 9 := ⟨RX1, TX1, 11, rfl, by decide, uw_X1, Or.inl (gw_at 109 (by decide +kernel) (by decide +kernel))⟩
theorem fX4_53 : gF RX4 53 1 9 := ⟨RX1, TX1, 11, rfl, by decide, uw_X1, Or.inr ⟨"OverSands", gnl_at 110 (by decide +kernel) rfl⟩⟩
theorem fX7_106 : gF RX7 106 1 9 := ⟨RX1, TX1, 11, rfl, by decide, uw_X1, Or.inr ⟨"OverSands", gnl_at 111 (by decide +kernel) rfl⟩⟩
theorem fX4_56 : gF RX4 56 1 10 := ⟨RX1, TX1, 11, rfl, by decide, uw_X1, Or.inr ⟨"OverSands", gnl_at 112 (by decide +kernel) rfl⟩⟩
theorem fX7_109 : gF RX7 109 1 10 := ⟨RX1, TX1, 11, rfl, by decide, uw_X1, Or.inr ⟨"OverSands", gnl_at 113 (by decide +kernel) rfl⟩⟩
theorem fX1_45 : gF RX1 45 1 10 := ⟨RX1, TX1, 11, rfl, by decide, uw_X1, Or.inl (gw_at 114 (by decide +kernel) (by decide +kernel))⟩
theorem fX2_11 : gF RX2 11 2 0 := ⟨RX2, TX2, 1, rfl, by decide, uw_X2, Or.inl (gw_at 145 (by decide +kernel) (by decide +kernel))⟩
theorem fX3_25 : gF RX3 25 2 0 := ⟨RX2, TX2, 1, rfl, by decide, uw_X2, Or.inr ⟨"OverSands", gnl_at 146 (by decide +kernel) rfl⟩⟩
theorem fX3_13 : gF RX3 13 3 0 := ⟨RX3, TX3, 2, rfl, by decide, uw_X3, Or.inl (gw_at 165 (by decide +kernel) (by decide +kernel))⟩
theorem fX3_21 : gF RX3 21 3 1 := ⟨RX3, TX3, 2, rfl, by decide, uw_X3, Or.inl (gw_at 166 (by decide +kernel) (by decide +kernel))⟩
theorem fX0_14 : gF RX0 14 0 0 := ⟨RX0, TX0, 3, rfl, by decide, uw_X0, Or.inl (gw_at 172 (by decide +kernel) (by decide +kernel))⟩
theorem fX0_20 : gF RX0 20 0 1 := ⟨RX0, TX0, 3, rfl, by decide, uw_X0, Or.inl (gw_at 173 (by decide +kernel) (by decide +kernel))⟩
theorem fX0_24 : gF RX0 24 0 2 := ⟨RX0, TX0, 3, rfl, by decide, uw_X0, Or.inl (gw_at 174 (by decide +kernel) (by decide +kernel))⟩
theorem fX7_116 : gF RX7 116 0 2 := ⟨RX0, TX0, 3, rfl, by decide, uw_X0, Or.inr ⟨"OverSands", gnl_at 175 (by decide +kernel) rfl⟩⟩
theorem fX5_15 : gF RX5 15 5 0 := ⟨RX5, TX5, 6, rfl, by decide, uw_X5, Or.inl (gw_at 191 (by decide +kernel) (by decide +kernel))⟩
theorem fX5_24 : gF RX5 24 5 1 := ⟨RX5, TX5, 6, rfl, by decide, uw_X5, Or.inl (gw_at 192 (by decide +kernel) (by decide +kernel))⟩
theorem fX5_30 : gF RX5 30 5 2 := ⟨RX5, TX5, 6, rfl, by decide, uw_X5, Or.inl (gw_at 193 (by decide +kernel) (by decide +kernel))⟩
theorem fX7_288 : gF RX7 288 5 2 := ⟨RX5, TX5, 6, rfl, by decide, uw_X5, Or.inr ⟨"OverSands", gnl_at 194 (by decide +kernel) rfl⟩⟩
theorem fX5_31 : gF RX5 31 5 3 := ⟨RX5, TX5, 6, rfl, by decide, uw_X5, Or.inl (gw_at 195 (by decide +kernel) (by decide +kernel))⟩
theorem fX7_265 : gF RX7 265 5 3 := ⟨RX5, TX5, 6, rfl, by decide, uw_X5, Or.inr ⟨"OverSands", gnl_at 196 (by decide +kernel) rfl⟩⟩
theorem fX5_34 : gF RX5 34 5 4 := ⟨RX5, TX5, 6, rfl, by decide, uw_X5, Or.inl (gw_at 197 (by decide +kernel) (by decide +kernel))⟩
theorem fX7_216 : gF RX7 216 5 4 := ⟨RX5, TX5, 6, rfl, by decide, uw_X5, Or.inr ⟨"OverSands", gnl_at 198 (by decide +kernel) rfl⟩⟩
theorem fX5_37 : gF RX5 37 5 5 := ⟨RX5, TX5, 6, rfl, by decide, uw_X5, Or.inl (gw_at 199 (by decide +kernel) (by decide +kernel))⟩
theorem fX7_210 : gF RX7 210 5 5 := ⟨RX5, TX5, 6, rfl, by decide, uw_X5, Or.inr ⟨"OverSands", gnl_at 200 (by decide +kernel) rfl⟩⟩
theorem fX6_9 : gF RX6 9 6 0 := ⟨RX6, TX6, 2, rfl, by decide, uw_X6, Or.inl (gw_at 220 (by decide +kernel) (by decide +kernel))⟩
theorem fX6_15 : gF RX6 15 6 1 := ⟨RX6, TX6, 2, rfl, by decide, uw_X6, Or.inl (gw_at 221 (by decide +kernel) (by decide +kernel))⟩
theorem fX7_10 : gF RX7 10 7 0 := ⟨RX7, TX7, 10, rfl, by decide, uw_X7, Or.inl (gw_at 227 (by decide +kernel) (by decide +kernel))⟩
theorem fX7_19 : gF RX7 19 7 1 := ⟨RX7, TX7, 10, rfl, by decide, uw_X7, Or.inl (gw_at 228 (by decide +kernel) (by decide +kernel))⟩
theorem fX7_23 : gF RX7 23 7 2 := ⟨RX7, TX7, 10, rfl, by decide, uw_X7, Or.inl (gw_at 229 (by decide +kernel) (by decide +kernel))⟩
theorem fX7_29 : gF RX7 29 7 3 := ⟨RX7, TX7, 10, rfl, by decide, uw_X7, Or.inl (gw_at 230 (by decide +kernel) (by decide +kernel))⟩
theorem fX7_36 : gF RX7 36 7 4 := ⟨RX7, TX7, 10, rfl, by decide, uw_X7, Or.inl (gw_at 231 (by decide +kernel) (by decide +kernel))⟩
theorem fX7_45 : gF RX7 45 7 5 := ⟨RX7, TX7, 10, rfl, by decide, uw_X7, Or.inl (gw_at 232 (by decide +kernel) (by decide +kernel))⟩
theorem fX7_49 : gF RX7 49 7 6 := ⟨RX7, TX7, 10, rfl, by decide, uw_X7, Or.inl (gw_at 233 (by decide +kernel) (by decide +kernel))⟩
theorem fX7_56 : gF RX7 56 7 7 := ⟨RX7, TX7, 10, rfl, by decide, uw_X7, Or.inl (gw_at 234 (by decide +kernel) (by decide +kernel))⟩
theorem fX7_63 : gF RX7 63 7 8 := ⟨RX7, TX7, 10, rfl, by decide, uw_X7, Or.inl (gw_at 235 (by decide +kernel) (by decide +kernel))⟩
theorem fX7_67 : gF RX7 67 7 9 := ⟨RX7, TX7, 10, rfl, by decide, uw_X7, Or.inl (gw_at 236 (by decide +kernel) (by decide +kernel))⟩
theorem fX8_67 : gF RX8 67 8 0 := ⟨RX8, TX8, 37, rfl, by decide, uw_X8, Or.inl (gw_at 675 (by decide +kernel) (by decide +kernel))⟩
theorem fX8_7 : gF RX8 7 8 1 := ⟨RX8, TX8, 37, rfl, by decide, uw_X8, Or.inl (gw_at 676 (by decide +kernel) (by decide +kernel))⟩
theorem fX8_81 : gF RX8 81 8 2 := ⟨RX8, TX8, 37, rfl, by decide, uw_X8, Or.inl (gw_at 677 (by decide +kernel) (by decide +kernel))⟩
theorem fX8_84 : gF RX8 84 8 3 := ⟨RX8, TX8, 37, rfl, by decide, uw_X8, Or.inl (gw_at 678 (by decide +kernel) (by decide +kernel))⟩
theorem fX8_13 : gF RX8 13 8 4 := ⟨RX8, TX8, 37, rfl, by decide, uw_X8, Or.inl (gw_at 679 (by decide +kernel) (by decide +kernel))⟩
theorem fX8_139 : gF RX8 139 8 5 := ⟨RX8, TX8, 37, rfl, by decide, uw_X8, Or.inl (gw_at 680 (by decide +kernel) (by decide +kernel))⟩
theorem fX8_16 : gF RX8 16 8 6 := ⟨RX8, TX8, 37, rfl, by decide, uw_X8, Or.inl (gw_at 681 (by decide +kernel) (by decide +kernel))⟩
theorem fX8_142 : gF RX8 142 8 7 := ⟨RX8, TX8, 37, rfl, by decide, uw_X8, Or.inl (gw_at 682 (by decide +kernel) (by decide +kernel))⟩
theorem fX8_70 : gF RX8 70 8 8 := ⟨RX8, TX8, 37, rfl, by decide, uw_X8, Or.inl (gw_at 683 (by decide +kernel) (by decide +kernel))⟩
theorem fX8_145 : gF RX8 145 8 9 := ⟨RX8, TX8, 37, rfl, by decide, uw_X8, Or.inl (gw_at 684 (by decide +kernel) (by decide +kernel))⟩
theorem fX8_148 : gF RX8 148 8 10 := ⟨RX8, TX8, 37, rfl, by decide, uw_X8, Or.inl (gw_at 685 (by decide +kernel) (by decide +kernel))⟩
theorem fX8_20 : gF RX8 20 8 11 := ⟨RX8, TX8, 37, rfl, by decide, uw_X8, Or.inl (gw_at 686 (by decide +kernel) (by decide +kernel))⟩
theorem fX8_23 : gF RX8 23 8 12 := ⟨RX8, TX8, 37, rfl, by decide, uw_X8, Or.inl (gw_at 687 (by decide +kernel) (by decide +kernel))⟩
theorem fX8_26 : gF RX8 26 8 13 := ⟨RX8, TX8, 37, rfl, by decide, uw_X8, Or.inl (gw_at 688 (by decide +kernel) (by decide +kernel))⟩
theorem fX8_29 : gF RX8 29 8 14 := ⟨RX8, TX8, 37, rfl, by decide, uw_X8, Or.inl (gw_at 689 (by decide +kernel) (by decide +kernel))⟩
theorem fX8_32 : gF RX8 32 8 15 := ⟨RX8, TX8, 37, rfl, by decide, uw_X8, Or.inl (gw_at 690 (by decide +kernel) (by decide +kernel))⟩
theorem fX8_121 : gF RX8 121 8 16 := ⟨RX8, TX8, 37, rfl, by decide, uw_X8, Or.inl (gw_at 691 (by decide +kernel) (by decide +kernel))⟩
theorem fX8_124 : gF RX8 124 8 17 := ⟨RX8, TX8, 37, rfl, by decide, uw_X8, Or.inl (gw_at 692 (by decide +kernel) (by decide +kernel))⟩
theorem fX8_127 : gF RX8 127 8 18 := ⟨RX8, TX8, 37, rfl, by decide, uw_X8, Or.inl (gw_at 693 (by decide +kernel) (by decide +kernel))⟩
theorem fX8_100 : gF RX8 100 8 19 := ⟨RX8, TX8, 37, rfl, by decide, uw_X8, Or.inl (gw_at 694 (by decide +kernel) (by decide +kernel))⟩
theorem fX8_87 : gF RX8 87 8 20 := ⟨RX8, TX8, 37, rfl, by decide, uw_X8, Or.inl (gw_at 695 (by decide +kernel) (by decide +kernel))⟩
theorem fX8_118 : gF RX8 118 8 21 := ⟨RX8, TX8, 37, rfl, by decide, uw_X8, Or.inl (gw_at 696 (by decide +kernel) (by decide +kernel))⟩
theorem fX8_35 : gF RX8 35 8 22 := ⟨RX8, TX8, 37, rfl, by decide, uw_X8, Or.inl (gw_at 697 (by decide +kernel) (by decide +kernel))⟩
theorem fX8_38 : gF RX8 38 8 23 := ⟨RX8, TX8, 37, rfl, by decide, uw_X8, Or.inl (gw_at 698 (by decide +kernel) (by decide +kernel))⟩
theorem fX8_41 : gF RX8 41 8 24 := ⟨RX8, TX8, 37, rfl, by decide, uw_X8, Or.inl (gw_at 699 (by decide +kernel) (by decide +kernel))⟩
theorem fX8_44 : gF RX8 44 8 25 := ⟨RX8, TX8, 37, rfl, by decide, uw_X8, Or.inl (gw_at 700 (by decide +kernel) (by decide +kernel))⟩
theorem fX8_47 : gF RX8 47 8 26 := ⟨RX8, TX8, 37, rfl, by decide, uw_X8, Or.inl (gw_at 701 (by decide +kernel) (by decide +kernel))⟩
theorem fX8_50 : gF RX8 50 8 27 := ⟨RX8, TX8, 37, rfl, by decide, uw_X8, Or.inl (gw_at 702 (by decide +kernel) (by decide +kernel))⟩
theorem fX8_151 : gF RX8 151 8 28 := ⟨RX8, TX8, 37, rfl, by decide, uw_X8, Or.inl (gw_at 703 (by decide +kernel) (by decide +kernel))⟩
theorem fX8_53 : gF RX8 53 8 29 := ⟨RX8, TX8, 37, rfl, by decide, uw_X8, Or.inl (gw_at 704 (by decide +kernel) (by decide +kernel))⟩
theorem fX8_56 : gF RX8 56 8 30 := ⟨RX8, TX8, 37, rfl, by decide, uw_X8, Or.inl (gw_at 705 (by decide +kernel) (by decide +kernel))⟩
theorem fX8_240 : gF RX8 240 8 31 := ⟨RX8, TX8, 37, rfl, by decide, uw_X8, Or.inl (gw_at 706 (by decide +kernel) (by decide +kernel))⟩
theorem fX8_179 : gF RX8 179 8 32 := ⟨RX8, TX8, 37, rfl, by decide, uw_X8, Or.inl (gw_at 707 (by decide +kernel) (by decide +kernel))⟩
theorem fX8_193 : gF RX8 193 8 33 := ⟨RX8, TX8, 37, rfl, by decide, uw_X8, Or.inl (gw_at 708 (by decide +kernel) (by decide +kernel))⟩
theorem fX8_182 : gF RX8 182 8 34 := ⟨RX8, TX8, 37, rfl, by decide, uw_X8, Or.inl (gw_at 709 (by decide +kernel) (by decide +kernel))⟩
theorem fX8_60 : gF RX8 60 8 35 := ⟨RX8, TX8, 37, rfl, by decide, uw_X8, Or.inl (gw_at 710 (by decide +kernel) (by decide +kernel))⟩
theorem fX8_64 : gF RX8 64 8 36 := ⟨RX8, TX8, 37, rfl, by decide, uw_X8, Or.inl (gw_at 711 (by decide +kernel) (by decide +kernel))⟩
abbrev mX7_init : gM := (yX7_init, cX7_init, 1, none)
set_option maxRecDepth 20000 in
theorem kX7_init : gMk mX7_init 0 := ⟨gw_at 62 rfl rfl, ini_X7, ⟨by decide +kernel, by decide +kernel, by decide +kernel⟩, by decide⟩
abbrev mX4_init : gM := (yX4_init, cX4_init, 1, none)
set_option maxRecDepth 20000 in
theorem kX4_init : gMk mX4_init 0 := ⟨gw_at 70 rfl rfl, ini_X4, ⟨by decide +kernel, by decide +kernel, by decide +kernel⟩, by decide⟩
abbrev mX1_init : gM := (yX1_init, cX1_init, 1, none)
set_option maxRecDepth 20000 in
theorem kX1_init : gMk mX1_init 0 := ⟨gw_at 91 rfl rfl, ini_X1, ⟨by decide +kernel, by decide +kernel, by decide +kernel⟩, by decide⟩
abbrev mX2_init : gM := (yX2_init, cX2_init, 1, none)
set_option maxRecDepth 20000 in
theorem kX2_init : gMk mX2_init 0 := ⟨gw_at 143 rfl rfl, ini_X2, ⟨by decide +kernel, by decide +kernel, by decide +kernel⟩, by decide⟩
abbrev mX0_init : gM := (yX0_init, cX0_init, 1, none)
set_option maxRecDepth 20000 in
theorem kX0_init : gMk mX0_init 0 := ⟨gw_at 154 rfl rfl, ini_X0, ⟨by decide +kernel, by decide +kernel, by decide +kernel⟩, by decide⟩
abbrev mX3_init : gM := (yX3_init, cX3_init, 2, none)
set_option maxRecDepth 20000 in
theorem kX3_init : gMk mX3_init 1 := ⟨gw_at 160 rfl rfl, ini_X3, ⟨by decide +kernel, by decide +kernel, by decide +kernel⟩, by decide⟩
abbrev mX5_init : gM := (yX5_init, cX5_init, 1, none)
set_option maxRecDepth 20000 in
theorem kX5_init : gMk mX5_init 0 := ⟨gw_at 189 rfl rfl, ini_X5, ⟨by decide +kernel, by decide +kernel, by decide +kernel⟩, by decide⟩
abbrev mX6_init : gM := (yX6_init, cX6_init, 1, none)
set_option maxRecDepth 20000 in
theorem kX6_init : gMk mX6_init 0 := ⟨gw_at 218 rfl rfl, ini_X6, ⟨by decide +kernel, by decide +kernel, by decide +kernel⟩, by decide⟩
abbrev mX7_write : gM := (yX7_write, cX7_write, 2, (some .int))
set_option maxRecDepth 20000 in
theorem kX7_write : gMk mX7_write 1 := ⟨gw_at 261 rfl rfl, ini_X7, ⟨by decide +kernel, by decide +kernel, by decide +kernel⟩, by decide⟩
abbrev mX4_append : gM := (yX4_append, cX4_append, 2, none)
set_option maxRecDepth 20000 in
theorem kX4_append : gMk mX4_append 1 := ⟨gw_at 265 rfl rfl, ini_X4, ⟨by decide +kernel, by decide +kernel, by decide +kernel⟩, by decide⟩
abbrev mX7_wipe : gM := (yX7_wipe, cX7_wipe, 2, (some .int))
set_option maxRecDepth 20000 in
theorem kX7_wipe : gMk mX7_wipe 0 := ⟨gw_at 269 rfl rfl, ini_X7, ⟨by decide +kernel, by decide +kernel, by decide +kernel⟩, by decide⟩
abbrev mX4_empty : gM := (yX4_empty, cX4_empty, 1, none)
set_option maxRecDepth 20000 in
theorem kX4_empty : gMk mX4_empty 0 := ⟨gw_at 273 rfl rfl, ini_X4, ⟨by decide +kernel, by decide +kernel, by decide +kernel⟩, by decide⟩
abbrev mX7_fault : gM := (yX7_fault, cX7_fault, 1, (some .int))
set_option maxRecDepth 20000 in
theorem kX7_fault : gMk mX7_fault 0 := ⟨gw_at 277 rfl rfl, ini_X7, ⟨by decide +kernel, by decide +kernel, by decide +kernel⟩, by decide⟩
abbrev mX4_readInto : gM := (yX4_readInto, cX4_readInto, 3, (some .int))
set_option maxRecDepth 20000 in
theorem kX4_readInto : gMk mX4_readInto 1 := ⟨gw_at 281 rfl rfl, ini_X4, ⟨by decide +kernel, by decide +kernel, by decide +kernel⟩, by decide⟩
abbrev mX1_clear : gM := (yX1_clear, cX1_clear, 2, none)
set_option maxRecDepth 20000 in
theorem kX1_clear : gMk mX1_clear 0 := ⟨gw_at 285 rfl rfl, ini_X1, ⟨by decide +kernel, by decide +kernel, by decide +kernel⟩, by decide⟩
abbrev mX4_readHead : gM := (yX4_readHead, cX4_readHead, 3, none)
set_option maxRecDepth 20000 in
theorem kX4_readHead : gMk mX4_readHead 1 := ⟨gw_at 289 rfl rfl, ini_X4, ⟨by decide +kernel, by decide +kernel, by decide +kernel⟩, by decide⟩
abbrev mX4_letterHere : gM := (yX4_letterHere, cX4_letterHere, 1, (some .int))
set_option maxRecDepth 20000 in
theorem kX4_letterHere : gMk mX4_letterHere 0 := ⟨gw_at 293 rfl rfl, ini_X4, ⟨by decide +kernel, by decide +kernel, by decide +kernel⟩, by decide⟩
abbrev mX4_figure : gM := (yX4_figure, cX4_figure, 4, (some .int))
set_option maxRecDepth 20000 in
theorem kX4_figure : gMk mX4_figure 2 := ⟨gw_at 297 rfl rfl, ini_X4, ⟨by decide +kernel, by decide +kernel, by decide +kernel⟩, by decide⟩
abbrev mX1_setHeight : gM := (yX1_setHeight, cX1_setHeight, 3, none)
set_option maxRecDepth 20000 in
theorem kX1_setHeight : gMk mX1_setHeight 2 := ⟨gw_at 301 rfl rfl, ini_X1, ⟨by decide +kernel, by decide +kernel, by decide +kernel⟩, by decide⟩
abbrev mX7_isCell : gM := (yX7_isCell, cX7_isCell, 1, (some .boolean))
set_option maxRecDepth 20000 in
theorem kX7_isCell : gMk mX7_isCell 1 := ⟨gw_at 304 rfl rfl, ini_X7, ⟨by decide +kernel, by decide +kernel, by decide +kernel⟩, by decide⟩
abbrev mX4_readPart : gM := (yX4_readPart, cX4_readPart, 3, none)
set_option maxRecDepth 20000 in
theorem kX4_readPart : gMk mX4_readPart 1 := ⟨gw_at 308 rfl rfl, ini_X4, ⟨by decide +kernel, by decide +kernel, by decide +kernel⟩, by decide⟩
abbrev mX4_readWalker : gM := (yX4_readWalker, cX4_readWalker, 4, none)
set_option maxRecDepth 20000 in
theorem kX4_readWalker : gMk mX4_readWalker 1 := ⟨gw_at 312 rfl rfl, ini_X4, ⟨by decide +kernel, by decide +kernel, by decide +kernel⟩, by decide⟩
abbrev mX1_addWalker : gM := (yX1_addWalker, cX1_addWalker, 3, none)
set_option maxRecDepth 20000 in
theorem kX1_addWalker : gMk mX1_addWalker 2 := ⟨gw_at 316 rfl rfl, ini_X1, ⟨by decide +kernel, by decide +kernel, by decide +kernel⟩, by decide⟩
abbrev mX4_readTower : gM := (yX4_readTower, cX4_readTower, 4, none)
set_option maxRecDepth 20000 in
theorem kX4_readTower : gMk mX4_readTower 1 := ⟨gw_at 320 rfl rfl, ini_X4, ⟨by decide +kernel, by decide +kernel, by decide +kernel⟩, by decide⟩
abbrev mX1_holdOf : gM := (yX1_holdOf, cX1_holdOf, 2, (some .int))
set_option maxRecDepth 20000 in
theorem kX1_holdOf : gMk mX1_holdOf 1 := ⟨gw_at 324 rfl rfl, ini_X1, ⟨by decide +kernel, by decide +kernel, by decide +kernel⟩, by decide⟩
abbrev mX1_addTower : gM := (yX1_addTower, cX1_addTower, 3, none)
set_option maxRecDepth 20000 in
theorem kX1_addTower : gMk mX1_addTower 2 := ⟨gw_at 328 rfl rfl, ini_X1, ⟨by decide +kernel, by decide +kernel, by decide +kernel⟩, by decide⟩
abbrev mX4_readSoft : gM := (yX4_readSoft, cX4_readSoft, 3, none)
set_option maxRecDepth 20000 in
theorem kX4_readSoft : gMk mX4_readSoft 1 := ⟨gw_at 332 rfl rfl, ini_X4, ⟨by decide +kernel, by decide +kernel, by decide +kernel⟩, by decide⟩
abbrev mX1_isSoft : gM := (yX1_isSoft, cX1_isSoft, 2, (some .boolean))
set_option maxRecDepth 20000 in
theorem kX1_isSoft : gMk mX1_isSoft 1 := ⟨gw_at 336 rfl rfl, ini_X1, ⟨by decide +kernel, by decide +kernel, by decide +kernel⟩, by decide⟩
abbrev mX1_addSoft : gM := (yX1_addSoft, cX1_addSoft, 2, none)
set_option maxRecDepth 20000 in
theorem kX1_addSoft : gMk mX1_addSoft 1 := ⟨gw_at 340 rfl rfl, ini_X1, ⟨by decide +kernel, by decide +kernel, by decide +kernel⟩, by decide⟩
abbrev mX7_bay : gM := (yX7_bay, cX7_bay, 2, (some .int))
set_option maxRecDepth 20000 in
theorem kX7_bay : gMk mX7_bay 0 := ⟨gw_at 344 rfl rfl, ini_X7, ⟨by decide +kernel, by decide +kernel, by decide +kernel⟩, by decide⟩
abbrev mX2_clear : gM := (yX2_clear, cX2_clear, 2, none)
set_option maxRecDepth 20000 in
theorem kX2_clear : gMk mX2_clear 0 := ⟨gw_at 348 rfl rfl, ini_X2, ⟨by decide +kernel, by decide +kernel, by decide +kernel⟩, by decide⟩
abbrev mX0_clear : gM := (yX0_clear, cX0_clear, 1, none)
set_option maxRecDepth 20000 in
theorem kX0_clear : gMk mX0_clear 0 := ⟨gw_at 352 rfl rfl, ini_X0, ⟨by decide +kernel, by decide +kernel, by decide +kernel⟩, by decide⟩
abbrev mX7_about : gM := (yX7_about, cX7_about, 2, (some .int))
set_option maxRecDepth 20000 in
theorem kX7_about : gMk mX7_about 1 := ⟨gw_at 356 rfl rfl, ini_X7, ⟨by decide +kernel, by decide +kernel, by decide +kernel⟩, by decide⟩
abbrev mX2_time : gM := (yX2_time, cX2_time, 1, (some .int))
set_option maxRecDepth 20000 in
theorem kX2_time : gMk mX2_time 0 := ⟨gw_at 360 rfl rfl, ini_X2, ⟨by decide +kernel, by decide +kernel, by decide +kernel⟩, by decide⟩
abbrev mX7_waterAt : gM := (yX7_waterAt, cX7_waterAt, 2, (some .int))
set_option maxRecDepth 20000 in
theorem kX7_waterAt : gMk mX7_waterAt 1 := ⟨gw_at 364 rfl rfl, ini_X7, ⟨by decide +kernel, by decide +kernel, by decide +kernel⟩, by decide⟩
abbrev mX1_water : gM := (yX1_water, cX1_water, 5, (some .int))
set_option maxRecDepth 20000 in
theorem kX1_water : gMk mX1_water 2 := ⟨gw_at 368 rfl rfl, ini_X1, ⟨by decide +kernel, by decide +kernel, by decide +kernel⟩, by decide⟩
abbrev mX2_allThat : gM := (yX2_allThat, cX2_allThat, 5, (some .int))
set_option maxRecDepth 20000 in
theorem kX2_allThat : gMk mX2_allThat 2 := ⟨gw_at 372 rfl rfl, ini_X2, ⟨by decide +kernel, by decide +kernel, by decide +kernel⟩, by decide⟩
abbrev mX2_fateOf : gM := (yX2_fateOf, cX2_fateOf, 2, (some .int))
set_option maxRecDepth 20000 in
theorem kX2_fateOf : gMk mX2_fateOf 1 := ⟨gw_at 376 rfl rfl, ini_X2, ⟨by decide +kernel, by decide +kernel, by decide +kernel⟩, by decide⟩
abbrev mX2_valueOf : gM := (yX2_valueOf, cX2_valueOf, 3, (some .int))
set_option maxRecDepth 20000 in
theorem kX2_valueOf : gMk mX2_valueOf 2 := ⟨gw_at 380 rfl rfl, ini_X2, ⟨by decide +kernel, by decide +kernel, by decide +kernel⟩, by decide⟩
abbrev mX7_cell : gM := (yX7_cell, cX7_cell, 3, (some .int))
set_option maxRecDepth 20000 in
theorem kX7_cell : gMk mX7_cell 2 := ⟨gw_at 384 rfl rfl, ini_X7, ⟨by decide +kernel, by decide +kernel, by decide +kernel⟩, by decide⟩
abbrev mX1_heightOf : gM := (yX1_heightOf, cX1_heightOf, 2, (some .int))
set_option maxRecDepth 20000 in
theorem kX1_heightOf : gMk mX1_heightOf 1 := ⟨gw_at 389 rfl rfl, ini_X1, ⟨by decide +kernel, by decide +kernel, by decide +kernel⟩, by decide⟩
abbrev mX1_depth : gM := (yX1_depth, cX1_depth, 3, (some .int))
set_option maxRecDepth 20000 in
theorem kX1_depth : gMk mX1_depth 2 := ⟨gw_at 393 rfl rfl, ini_X1, ⟨by decide +kernel, by decide +kernel, by decide +kernel⟩, by decide⟩
abbrev mX7_upOn : gM := (yX7_upOn, cX7_upOn, 2, (some .int))
set_option maxRecDepth 20000 in
theorem kX7_upOn : gMk mX7_upOn 1 := ⟨gw_at 399 rfl rfl, ini_X7, ⟨by decide +kernel, by decide +kernel, by decide +kernel⟩, by decide⟩
abbrev mX2_countOn : gM := (yX2_countOn, cX2_countOn, 5, (some .int))
set_option maxRecDepth 20000 in
theorem kX2_countOn : gMk mX2_countOn 2 := ⟨gw_at 403 rfl rfl, ini_X2, ⟨by decide +kernel, by decide +kernel, by decide +kernel⟩, by decide⟩
abbrev mX2_cellOf : gM := (yX2_cellOf, cX2_cellOf, 2, (some .int))
set_option maxRecDepth 20000 in
theorem kX2_cellOf : gMk mX2_cellOf 1 := ⟨gw_at 407 rfl rfl, ini_X2, ⟨by decide +kernel, by decide +kernel, by decide +kernel⟩, by decide⟩
abbrev mX7_walker : gM := (yX7_walker, cX7_walker, 3, (some .int))
set_option maxRecDepth 20000 in
theorem kX7_walker : gMk mX7_walker 2 := ⟨gw_at 411 rfl rfl, ini_X7, ⟨by decide +kernel, by decide +kernel, by decide +kernel⟩, by decide⟩
abbrev mX7_isWalker : gM := (yX7_isWalker, cX7_isWalker, 2, (some .boolean))
set_option maxRecDepth 20000 in
theorem kX7_isWalker : gMk mX7_isWalker 1 := ⟨gw_at 415 rfl rfl, ini_X7, ⟨by decide +kernel, by decide +kernel, by decide +kernel⟩, by decide⟩
abbrev mX1_paceOf : gM := (yX1_paceOf, cX1_paceOf, 2, (some .int))
set_option maxRecDepth 20000 in
theorem kX1_paceOf : gMk mX1_paceOf 1 := ⟨gw_at 419 rfl rfl, ini_X1, ⟨by decide +kernel, by decide +kernel, by decide +kernel⟩, by decide⟩
abbrev mX1_wadeOf : gM := (yX1_wadeOf, cX1_wadeOf, 2, (some .int))
set_option maxRecDepth 20000 in
theorem kX1_wadeOf : gMk mX1_wadeOf 1 := ⟨gw_at 423 rfl rfl, ini_X1, ⟨by decide +kernel, by decide +kernel, by decide +kernel⟩, by decide⟩
abbrev mX2_wayOf : gM := (yX2_wayOf, cX2_wayOf, 2, (some .int))
set_option maxRecDepth 20000 in
theorem kX2_wayOf : gMk mX2_wayOf 1 := ⟨gw_at 428 rfl rfl, ini_X2, ⟨by decide +kernel, by decide +kernel, by decide +kernel⟩, by decide⟩
abbrev mX7_deep : gM := (yX7_deep, cX7_deep, 3, (some .int))
set_option maxRecDepth 20000 in
theorem kX7_deep : gMk mX7_deep 2 := ⟨gw_at 433 rfl rfl, ini_X7, ⟨by decide +kernel, by decide +kernel, by decide +kernel⟩, by decide⟩
abbrev mX7_isStep : gM := (yX7_isStep, cX7_isStep, 1, (some .boolean))
set_option maxRecDepth 20000 in
theorem kX7_isStep : gMk mX7_isStep 1 := ⟨gw_at 436 rfl rfl, ini_X7, ⟨by decide +kernel, by decide +kernel, by decide +kernel⟩, by decide⟩
abbrev mX7_head : gM := (yX7_head, cX7_head, 4, (some .int))
set_option maxRecDepth 20000 in
theorem kX7_head : gMk mX7_head 2 := ⟨gw_at 440 rfl rfl, ini_X7, ⟨by decide +kernel, by decide +kernel, by decide +kernel⟩, by decide⟩
abbrev mX7_isWalking : gM := (yX7_isWalking, cX7_isWalking, 2, (some .boolean))
set_option maxRecDepth 20000 in
theorem kX7_isWalking : gMk mX7_isWalking 1 := ⟨gw_at 444 rfl rfl, ini_X7, ⟨by decide +kernel, by decide +kernel, by decide +kernel⟩, by decide⟩
abbrev mX0_remember : gM := (yX0_remember, cX0_remember, 2, none)
set_option maxRecDepth 20000 in
theorem kX0_remember : gMk mX0_remember 1 := ⟨gw_at 448 rfl rfl, ini_X0, ⟨by decide +kernel, by decide +kernel, by decide +kernel⟩, by decide⟩
abbrev mX3_put : gM := (yX3_put, cX3_put, 3, none)
set_option maxRecDepth 20000 in
theorem kX3_put : gMk mX3_put 2 := ⟨gw_at 452 rfl rfl, ini_X3, ⟨by decide +kernel, by decide +kernel, by decide +kernel⟩, by decide⟩
abbrev mX2_setWay : gM := (yX2_setWay, cX2_setWay, 3, none)
set_option maxRecDepth 20000 in
theorem kX2_setWay : gMk mX2_setWay 2 := ⟨gw_at 459 rfl rfl, ini_X2, ⟨by decide +kernel, by decide +kernel, by decide +kernel⟩, by decide⟩
abbrev mX2_setValue : gM := (yX2_setValue, cX2_setValue, 4, none)
set_option maxRecDepth 20000 in
theorem kX2_setValue : gMk mX2_setValue 3 := ⟨gw_at 463 rfl rfl, ini_X2, ⟨by decide +kernel, by decide +kernel, by decide +kernel⟩, by decide⟩
abbrev mX7_step : gM := (yX7_step, cX7_step, 3, (some .int))
set_option maxRecDepth 20000 in
theorem kX7_step : gMk mX7_step 0 := ⟨gw_at 467 rfl rfl, ini_X7, ⟨by decide +kernel, by decide +kernel, by decide +kernel⟩, by decide⟩
abbrev mX7_moveOne : gM := (yX7_moveOne, cX7_moveOne, 2, (some .boolean))
set_option maxRecDepth 20000 in
theorem kX7_moveOne : gMk mX7_moveOne 1 := ⟨gw_at 471 rfl rfl, ini_X7, ⟨by decide +kernel, by decide +kernel, by decide +kernel⟩, by decide⟩
abbrev mX5_begin : gM := (yX5_begin, cX5_begin, 5, none)
set_option maxRecDepth 20000 in
theorem kX5_begin : gMk mX5_begin 4 := ⟨gw_at 475 rfl rfl, ini_X5, ⟨by decide +kernel, by decide +kernel, by decide +kernel⟩, by decide⟩
abbrev mX5_move : gM := (yX5_move, cX5_move, 5, none)
set_option maxRecDepth 20000 in
theorem kX5_move : gMk mX5_move 2 := ⟨gw_at 481 rfl rfl, ini_X5, ⟨by decide +kernel, by decide +kernel, by decide +kernel⟩, by decide⟩
abbrev mX5_goAlong : gM := (yX5_goAlong, cX5_goAlong, 7, none)
set_option maxRecDepth 20000 in
theorem kX5_goAlong : gMk mX5_goAlong 3 := ⟨gw_at 486 rfl rfl, ini_X5, ⟨by decide +kernel, by decide +kernel, by decide +kernel⟩, by decide⟩
abbrev mX2_setCell : gM := (yX2_setCell, cX2_setCell, 3, none)
set_option maxRecDepth 20000 in
theorem kX2_setCell : gMk mX2_setCell 2 := ⟨gw_at 492 rfl rfl, ini_X2, ⟨by decide +kernel, by decide +kernel, by decide +kernel⟩, by decide⟩
abbrev mX2_setFate : gM := (yX2_setFate, cX2_setFate, 3, none)
set_option maxRecDepth 20000 in
theorem kX2_setFate : gMk mX2_setFate 2 := ⟨gw_at 496 rfl rfl, ini_X2, ⟨by decide +kernel, by decide +kernel, by decide +kernel⟩, by decide⟩
abbrev mX5_isLost : gM := (yX5_isLost, cX5_isLost, 1, (some .boolean))
set_option maxRecDepth 20000 in
theorem kX5_isLost : gMk mX5_isLost 0 := ⟨gw_at 500 rfl rfl, ini_X5, ⟨by decide +kernel, by decide +kernel, by decide +kernel⟩, by decide⟩
abbrev mX2_setTime : gM := (yX2_setTime, cX2_setTime, 2, none)
set_option maxRecDepth 20000 in
theorem kX2_setTime : gMk mX2_setTime 1 := ⟨gw_at 504 rfl rfl, ini_X2, ⟨by decide +kernel, by decide +kernel, by decide +kernel⟩, by decide⟩
abbrev mX7_climb : gM := (yX7_climb, cX7_climb, 3, (some .int))
set_option maxRecDepth 20000 in
theorem kX7_climb : gMk mX7_climb 1 := ⟨gw_at 508 rfl rfl, ini_X7, ⟨by decide +kernel, by decide +kernel, by decide +kernel⟩, by decide⟩
abbrev mX7_roomOn : gM := (yX7_roomOn, cX7_roomOn, 2, (some .int))
set_option maxRecDepth 20000 in
theorem kX7_roomOn : gMk mX7_roomOn 1 := ⟨gw_at 512 rfl rfl, ini_X7, ⟨by decide +kernel, by decide +kernel, by decide +kernel⟩, by decide⟩
abbrev mX7_undo : gM := (yX7_undo, cX7_undo, 1, (some .int))
set_option maxRecDepth 20000 in
theorem kX7_undo : gMk mX7_undo 0 := ⟨gw_at 516 rfl rfl, ini_X7, ⟨by decide +kernel, by decide +kernel, by decide +kernel⟩, by decide⟩
abbrev mX0_takeBack : gM := (yX0_takeBack, cX0_takeBack, 2, none)
set_option maxRecDepth 20000 in
theorem kX0_takeBack : gMk mX0_takeBack 1 := ⟨gw_at 520 rfl rfl, ini_X0, ⟨by decide +kernel, by decide +kernel, by decide +kernel⟩, by decide⟩
abbrev mX3_take : gM := (yX3_take, cX3_take, 3, none)
set_option maxRecDepth 20000 in
theorem kX3_take : gMk mX3_take 2 := ⟨gw_at 524 rfl rfl, ini_X3, ⟨by decide +kernel, by decide +kernel, by decide +kernel⟩, by decide⟩
abbrev mX7_gone : gM := (yX7_gone, cX7_gone, 5, (some .int))
set_option maxRecDepth 20000 in
theorem kX7_gone : gMk mX7_gone 4 := ⟨gw_at 528 rfl rfl, ini_X7, ⟨by decide +kernel, by decide +kernel, by decide +kernel⟩, by decide⟩
abbrev mX7_arrival : gM := (yX7_arrival, cX7_arrival, 5, (some .int))
set_option maxRecDepth 20000 in
theorem kX7_arrival : gMk mX7_arrival 4 := ⟨gw_at 532 rfl rfl, ini_X7, ⟨by decide +kernel, by decide +kernel, by decide +kernel⟩, by decide⟩
abbrev mX5_goTillThere : gM := (yX5_goTillThere, cX5_goTillThere, 5, (some .int))
set_option maxRecDepth 20000 in
theorem kX5_goTillThere : gMk mX5_goTillThere 2 := ⟨gw_at 536 rfl rfl, ini_X5, ⟨by decide +kernel, by decide +kernel, by decide +kernel⟩, by decide⟩
abbrev mX7_latest : gM := (yX7_latest, cX7_latest, 3, (some .int))
set_option maxRecDepth 20000 in
theorem kX7_latest : gMk mX7_latest 1 := ⟨gw_at 541 rfl rfl, ini_X7, ⟨by decide +kernel, by decide +kernel, by decide +kernel⟩, by decide⟩
abbrev mX7_safest : gM := (yX7_safest, cX7_safest, 7, (some .int))
set_option maxRecDepth 20000 in
theorem kX7_safest : gMk mX7_safest 2 := ⟨gw_at 545 rfl rfl, ini_X7, ⟨by decide +kernel, by decide +kernel, by decide +kernel⟩, by decide⟩
abbrev mX7_safeBits : gM := (yX7_safeBits, cX7_safeBits, 4, (some .int))
set_option maxRecDepth 20000 in
theorem kX7_safeBits : gMk mX7_safeBits 3 := ⟨gw_at 548 rfl rfl, ini_X7, ⟨by decide +kernel, by decide +kernel, by decide +kernel⟩, by decide⟩
abbrev mX7_soonest : gM := (yX7_soonest, cX7_soonest, 5, (some .int))
set_option maxRecDepth 20000 in
theorem kX7_soonest : gMk mX7_soonest 3 := ⟨gw_at 551 rfl rfl, ini_X7, ⟨by decide +kernel, by decide +kernel, by decide +kernel⟩, by decide⟩
abbrev mX7_shells : gM := (yX7_shells, cX7_shells, 6, (some .int))
set_option maxRecDepth 20000 in
theorem kX7_shells : gMk mX7_shells 1 := ⟨gw_at 555 rfl rfl, ini_X7, ⟨by decide +kernel, by decide +kernel, by decide +kernel⟩, by decide⟩
abbrev mX7_outlastsStanding : gM := (yX7_outlastsStanding, cX7_outlastsStanding, 4, (some .boolean))
set_option maxRecDepth 20000 in
theorem kX7_outlastsStanding : gMk mX7_outlastsStanding 3 := ⟨gw_at 559 rfl rfl, ini_X7, ⟨by decide +kernel, by decide +kernel, by decide +kernel⟩, by decide⟩
abbrev mX7_isSafe : gM := (yX7_isSafe, cX7_isSafe, 4, (some .boolean))
set_option maxRecDepth 20000 in
theorem kX7_isSafe : gMk mX7_isSafe 3 := ⟨gw_at 563 rfl rfl, ini_X7, ⟨by decide +kernel, by decide +kernel, by decide +kernel⟩, by decide⟩
abbrev mX7_cut : gM := (yX7_cut, cX7_cut, 5, (some .int))
set_option maxRecDepth 20000 in
theorem kX7_cut : gMk mX7_cut 1 := ⟨gw_at 567 rfl rfl, ini_X7, ⟨by decide +kernel, by decide +kernel, by decide +kernel⟩, by decide⟩
abbrev mX7_judged : gM := (yX7_judged, cX7_judged, 6, (some .int))
set_option maxRecDepth 20000 in
theorem kX7_judged : gMk mX7_judged 3 := ⟨gw_at 571 rfl rfl, ini_X7, ⟨by decide +kernel, by decide +kernel, by decide +kernel⟩, by decide⟩
abbrev mX7_power : gM := (yX7_power, cX7_power, 4, (some .int))
set_option maxRecDepth 20000 in
theorem kX7_power : gMk mX7_power 2 := ⟨gw_at 574 rfl rfl, ini_X7, ⟨by decide +kernel, by decide +kernel, by decide +kernel⟩, by decide⟩
abbrev mX7_figureAt : gM := (yX7_figureAt, cX7_figureAt, 4, (some .int))
set_option maxRecDepth 20000 in
theorem kX7_figureAt : gMk mX7_figureAt 2 := ⟨gw_at 577 rfl rfl, ini_X7, ⟨by decide +kernel, by decide +kernel, by decide +kernel⟩, by decide⟩
abbrev mX7_ahead : gM := (yX7_ahead, cX7_ahead, 1, (some .int))
set_option maxRecDepth 20000 in
theorem kX7_ahead : gMk mX7_ahead 0 := ⟨gw_at 581 rfl rfl, ini_X7, ⟨by decide +kernel, by decide +kernel, by decide +kernel⟩, by decide⟩
abbrev mX7_meetingStep : gM := (yX7_meetingStep, cX7_meetingStep, 8, (some .int))
set_option maxRecDepth 20000 in
theorem kX7_meetingStep : gMk mX7_meetingStep 0 := ⟨gw_at 585 rfl rfl, ini_X7, ⟨by decide +kernel, by decide +kernel, by decide +kernel⟩, by decide⟩
abbrev mX7_aheadOf : gM := (yX7_aheadOf, cX7_aheadOf, 4, (some .int))
set_option maxRecDepth 20000 in
theorem kX7_aheadOf : gMk mX7_aheadOf 1 := ⟨gw_at 590 rfl rfl, ini_X7, ⟨by decide +kernel, by decide +kernel, by decide +kernel⟩, by decide⟩
abbrev mX7_saved : gM := (yX7_saved, cX7_saved, 5, (some .int))
set_option maxRecDepth 20000 in
theorem kX7_saved : gMk mX7_saved 0 := ⟨gw_at 594 rfl rfl, ini_X7, ⟨by decide +kernel, by decide +kernel, by decide +kernel⟩, by decide⟩
abbrev mX7_channel : gM := (yX7_channel, cX7_channel, 7, (some .int))
set_option maxRecDepth 20000 in
theorem kX7_channel : gMk mX7_channel 6 := ⟨gw_at 601 rfl rfl, ini_X7, ⟨by decide +kernel, by decide +kernel, by decide +kernel⟩, by decide⟩
abbrev mX7_isOnSands : gM := (yX7_isOnSands, cX7_isOnSands, 1, (some .boolean))
set_option maxRecDepth 20000 in
theorem kX7_isOnSands : gMk mX7_isOnSands 1 := ⟨gw_at 604 rfl rfl, ini_X7, ⟨by decide +kernel, by decide +kernel, by decide +kernel⟩, by decide⟩
abbrev mX7_areTenths : gM := (yX7_areTenths, cX7_areTenths, 2, (some .boolean))
set_option maxRecDepth 20000 in
theorem kX7_areTenths : gMk mX7_areTenths 2 := ⟨gw_at 607 rfl rfl, ini_X7, ⟨by decide +kernel, by decide +kernel, by decide +kernel⟩, by decide⟩
abbrev mX6_oddsAt : gM := (yX6_oddsAt, cX6_oddsAt, 7, (some .int))
set_option maxRecDepth 20000 in
theorem kX6_oddsAt : gMk mX6_oddsAt 5 := ⟨gw_at 611 rfl rfl, ini_X6, ⟨by decide +kernel, by decide +kernel, by decide +kernel⟩, by decide⟩
abbrev mX6_wanderOn : gM := (yX6_wanderOn, cX6_wanderOn, 4, none)
set_option maxRecDepth 20000 in
theorem kX6_wanderOn : gMk mX6_wanderOn 2 := ⟨gw_at 616 rfl rfl, ini_X6, ⟨by decide +kernel, by decide +kernel, by decide +kernel⟩, by decide⟩
abbrev mX7_told : gM := (yX7_told, cX7_told, 4, (some .int))
set_option maxRecDepth 20000 in
theorem kX7_told : gMk mX7_told 3 := ⟨gw_at 621 rfl rfl, ini_X7, ⟨by decide +kernel, by decide +kernel, by decide +kernel⟩, by decide⟩
abbrev mX7_commonPart : gM := (yX7_commonPart, cX7_commonPart, 6, (some .int))
set_option maxRecDepth 20000 in
theorem kX7_commonPart : gMk mX7_commonPart 2 := ⟨gw_at 624 rfl rfl, ini_X7, ⟨by decide +kernel, by decide +kernel, by decide +kernel⟩, by decide⟩
abbrev mX7_sticks : gM := (yX7_sticks, cX7_sticks, 8, (some .int))
set_option maxRecDepth 20000 in
theorem kX7_sticks : gMk mX7_sticks 4 := ⟨gw_at 628 rfl rfl, ini_X7, ⟨by decide +kernel, by decide +kernel, by decide +kernel⟩, by decide⟩
abbrev mX7_choices : gM := (yX7_choices, cX7_choices, 4, (some .int))
set_option maxRecDepth 20000 in
theorem kX7_choices : gMk mX7_choices 2 := ⟨gw_at 632 rfl rfl, ini_X7, ⟨by decide +kernel, by decide +kernel, by decide +kernel⟩, by decide⟩
abbrev mX7_wind : gM := (yX7_wind, cX7_wind, 7, (some .int))
set_option maxRecDepth 20000 in
theorem kX7_wind : gMk mX7_wind 5 := ⟨gw_at 636 rfl rfl, ini_X7, ⟨by decide +kernel, by decide +kernel, by decide +kernel⟩, by decide⟩
abbrev mX7_isOverByLow : gM := (yX7_isOverByLow, cX7_isOverByLow, 4, (some .boolean))
set_option maxRecDepth 20000 in
theorem kX7_isOverByLow : gMk mX7_isOverByLow 3 := ⟨gw_at 640 rfl rfl, ini_X7, ⟨by decide +kernel, by decide +kernel, by decide +kernel⟩, by decide⟩
abbrev mX7_seed : gM := (yX7_seed, cX7_seed, 5, (some .long))
set_option maxRecDepth 20000 in
theorem kX7_seed : gMk mX7_seed 1 := ⟨gw_at 644 rfl rfl, ini_X7, ⟨by decide +kernel, by decide +kernel, by decide +kernel⟩, by decide⟩
abbrev mX7_fog : gM := (yX7_fog, cX7_fog, 5, (some .int))
set_option maxRecDepth 20000 in
theorem kX7_fog : gMk mX7_fog 3 := ⟨gw_at 648 rfl rfl, ini_X7, ⟨by decide +kernel, by decide +kernel, by decide +kernel⟩, by decide⟩
abbrev mX7_drawnWay : gM := (yX7_drawnWay, cX7_drawnWay, 1, (some .int))
set_option maxRecDepth 20000 in
theorem kX7_drawnWay : gMk mX7_drawnWay 0 := ⟨gw_at 652 rfl rfl, ini_X7, ⟨by decide +kernel, by decide +kernel, by decide +kernel⟩, by decide⟩
abbrev mX7_keep : gM := (yX7_keep, cX7_keep, 2, (some .int))
set_option maxRecDepth 20000 in
theorem kX7_keep : gMk mX7_keep 1 := ⟨gw_at 659 rfl rfl, ini_X7, ⟨by decide +kernel, by decide +kernel, by decide +kernel⟩, by decide⟩
abbrev mX7_isSlot : gM := (yX7_isSlot, cX7_isSlot, 1, (some .boolean))
set_option maxRecDepth 20000 in
theorem kX7_isSlot : gMk mX7_isSlot 1 := ⟨gw_at 662 rfl rfl, ini_X7, ⟨by decide +kernel, by decide +kernel, by decide +kernel⟩, by decide⟩
abbrev mX7_again : gM := (yX7_again, cX7_again, 2, (some .int))
set_option maxRecDepth 20000 in
theorem kX7_again : gMk mX7_again 1 := ⟨gw_at 667 rfl rfl, ini_X7, ⟨by decide +kernel, by decide +kernel, by decide +kernel⟩, by decide⟩
abbrev mX8_init : gM := (yX8_init, cX8_init, 1, none)
set_option maxRecDepth 20000 in
theorem kX8_init : gMk mX8_init 0 := ⟨gw_at 673 rfl rfl, ini_X8, ⟨by decide +kernel, by decide +kernel, by decide +kernel⟩, by decide⟩
abbrev mX8_write : gM := (yX8_write, cX8_write, 2, (some .int))
set_option maxRecDepth 20000 in
theorem kX8_write : gMk mX8_write 1 := ⟨gw_at 791 rfl rfl, ini_X8, ⟨by decide +kernel, by decide +kernel, by decide +kernel⟩, by decide⟩
abbrev mX8_in : gM := (yX8_in, cX8_in, 6, (some .boolean))
set_option maxRecDepth 20000 in
theorem kX8_in : gMk mX8_in 3 := ⟨gw_at 795 rfl rfl, ini_X8, ⟨by decide +kernel, by decide +kernel, by decide +kernel⟩, by decide⟩
abbrev mX8_wipe : gM := (yX8_wipe, cX8_wipe, 2, (some .int))
set_option maxRecDepth 20000 in
theorem kX8_wipe : gMk mX8_wipe 0 := ⟨gw_at 799 rfl rfl, ini_X8, ⟨by decide +kernel, by decide +kernel, by decide +kernel⟩, by decide⟩
abbrev mX8_fault : gM := (yX8_fault, cX8_fault, 1, (some .int))
set_option maxRecDepth 20000 in
theorem kX8_fault : gMk mX8_fault 0 := ⟨gw_at 803 rfl rfl, ini_X8, ⟨by decide +kernel, by decide +kernel, by decide +kernel⟩, by decide⟩
abbrev mX8_readBay : gM := (yX8_readBay, cX8_readBay, 1, (some .int))
set_option maxRecDepth 20000 in
theorem kX8_readBay : gMk mX8_readBay 0 := ⟨gw_at 807 rfl rfl, ini_X8, ⟨by decide +kernel, by decide +kernel, by decide +kernel⟩, by decide⟩
abbrev mX8_readHead : gM := (yX8_readHead, cX8_readHead, 3, (some .boolean))
set_option maxRecDepth 20000 in
theorem kX8_readHead : gMk mX8_readHead 0 := ⟨gw_at 811 rfl rfl, ini_X8, ⟨by decide +kernel, by decide +kernel, by decide +kernel⟩, by decide⟩
abbrev mX8_figure : gM := (yX8_figure, cX8_figure, 3, (some .int))
set_option maxRecDepth 20000 in
theorem kX8_figure : gMk mX8_figure 2 := ⟨gw_at 815 rfl rfl, ini_X8, ⟨by decide +kernel, by decide +kernel, by decide +kernel⟩, by decide⟩
abbrev mX8_readPart : gM := (yX8_readPart, cX8_readPart, 3, (some .boolean))
set_option maxRecDepth 20000 in
theorem kX8_readPart : gMk mX8_readPart 0 := ⟨gw_at 819 rfl rfl, ini_X8, ⟨by decide +kernel, by decide +kernel, by decide +kernel⟩, by decide⟩
abbrev mX8_readWalker : gM := (yX8_readWalker, cX8_readWalker, 3, (some .boolean))
set_option maxRecDepth 20000 in
theorem kX8_readWalker : gMk mX8_readWalker 0 := ⟨gw_at 823 rfl rfl, ini_X8, ⟨by decide +kernel, by decide +kernel, by decide +kernel⟩, by decide⟩
abbrev mX8_readTower : gM := (yX8_readTower, cX8_readTower, 3, (some .boolean))
set_option maxRecDepth 20000 in
theorem kX8_readTower : gMk mX8_readTower 0 := ⟨gw_at 827 rfl rfl, ini_X8, ⟨by decide +kernel, by decide +kernel, by decide +kernel⟩, by decide⟩
abbrev mX8_freeTowers : gM := (yX8_freeTowers, cX8_freeTowers, 3, (some .int))
set_option maxRecDepth 20000 in
theorem kX8_freeTowers : gMk mX8_freeTowers 0 := ⟨gw_at 831 rfl rfl, ini_X8, ⟨by decide +kernel, by decide +kernel, by decide +kernel⟩, by decide⟩
abbrev mX8_one : gM := (yX8_one, cX8_one, 3, (some .int))
set_option maxRecDepth 20000 in
theorem kX8_one : gMk mX8_one 1 := ⟨gw_at 835 rfl rfl, ini_X8, ⟨by decide +kernel, by decide +kernel, by decide +kernel⟩, by decide⟩
abbrev mX8_has : gM := (yX8_has, cX8_has, 2, (some .boolean))
set_option maxRecDepth 20000 in
theorem kX8_has : gMk mX8_has 2 := ⟨gw_at 839 rfl rfl, ini_X8, ⟨by decide +kernel, by decide +kernel, by decide +kernel⟩, by decide⟩
abbrev mX8_bay : gM := (yX8_bay, cX8_bay, 2, (some .int))
set_option maxRecDepth 20000 in
theorem kX8_bay : gMk mX8_bay 0 := ⟨gw_at 843 rfl rfl, ini_X8, ⟨by decide +kernel, by decide +kernel, by decide +kernel⟩, by decide⟩
abbrev mX8_about : gM := (yX8_about, cX8_about, 2, (some .int))
set_option maxRecDepth 20000 in
theorem kX8_about : gMk mX8_about 1 := ⟨gw_at 847 rfl rfl, ini_X8, ⟨by decide +kernel, by decide +kernel, by decide +kernel⟩, by decide⟩
abbrev mX8_water : gM := (yX8_water, cX8_water, 4, (some .int))
set_option maxRecDepth 20000 in
theorem kX8_water : gMk mX8_water 2 := ⟨gw_at 851 rfl rfl, ini_X8, ⟨by decide +kernel, by decide +kernel, by decide +kernel⟩, by decide⟩
abbrev mX8_those : gM := (yX8_those, cX8_those, 4, (some .int))
set_option maxRecDepth 20000 in
theorem kX8_those : gMk mX8_those 1 := ⟨gw_at 855 rfl rfl, ini_X8, ⟨by decide +kernel, by decide +kernel, by decide +kernel⟩, by decide⟩
abbrev mX8_cell : gM := (yX8_cell, cX8_cell, 4, (some .int))
set_option maxRecDepth 20000 in
theorem kX8_cell : gMk mX8_cell 2 := ⟨gw_at 859 rfl rfl, ini_X8, ⟨by decide +kernel, by decide +kernel, by decide +kernel⟩, by decide⟩
abbrev mX8_noCell : gM := (yX8_noCell, cX8_noCell, 1, (some .boolean))
set_option maxRecDepth 20000 in
theorem kX8_noCell : gMk mX8_noCell 1 := ⟨gw_at 862 rfl rfl, ini_X8, ⟨by decide +kernel, by decide +kernel, by decide +kernel⟩, by decide⟩
abbrev mX8_towerOf : gM := (yX8_towerOf, cX8_towerOf, 4, (some .int))
set_option maxRecDepth 20000 in
theorem kX8_towerOf : gMk mX8_towerOf 1 := ⟨gw_at 867 rfl rfl, ini_X8, ⟨by decide +kernel, by decide +kernel, by decide +kernel⟩, by decide⟩
abbrev mX8_deepBy : gM := (yX8_deepBy, cX8_deepBy, 5, (some .int))
set_option maxRecDepth 20000 in
theorem kX8_deepBy : gMk mX8_deepBy 3 := ⟨gw_at 871 rfl rfl, ini_X8, ⟨by decide +kernel, by decide +kernel, by decide +kernel⟩, by decide⟩
abbrev mX8_upAt : gM := (yX8_upAt, cX8_upAt, 4, (some .int))
set_option maxRecDepth 20000 in
theorem kX8_upAt : gMk mX8_upAt 1 := ⟨gw_at 875 rfl rfl, ini_X8, ⟨by decide +kernel, by decide +kernel, by decide +kernel⟩, by decide⟩
abbrev mX8_walker : gM := (yX8_walker, cX8_walker, 3, (some .int))
set_option maxRecDepth 20000 in
theorem kX8_walker : gMk mX8_walker 2 := ⟨gw_at 879 rfl rfl, ini_X8, ⟨by decide +kernel, by decide +kernel, by decide +kernel⟩, by decide⟩
abbrev mX8_noOne : gM := (yX8_noOne, cX8_noOne, 2, (some .boolean))
set_option maxRecDepth 20000 in
theorem kX8_noOne : gMk mX8_noOne 1 := ⟨gw_at 883 rfl rfl, ini_X8, ⟨by decide +kernel, by decide +kernel, by decide +kernel⟩, by decide⟩
abbrev mX8_deep : gM := (yX8_deep, cX8_deep, 3, (some .int))
set_option maxRecDepth 20000 in
theorem kX8_deep : gMk mX8_deep 2 := ⟨gw_at 887 rfl rfl, ini_X8, ⟨by decide +kernel, by decide +kernel, by decide +kernel⟩, by decide⟩
abbrev mX8_head : gM := (yX8_head, cX8_head, 4, (some .int))
set_option maxRecDepth 20000 in
theorem kX8_head : gMk mX8_head 2 := ⟨gw_at 892 rfl rfl, ini_X8, ⟨by decide +kernel, by decide +kernel, by decide +kernel⟩, by decide⟩
abbrev mX8_note : gM := (yX8_note, cX8_note, 2, none)
set_option maxRecDepth 20000 in
theorem kX8_note : gMk mX8_note 0 := ⟨gw_at 897 rfl rfl, ini_X8, ⟨by decide +kernel, by decide +kernel, by decide +kernel⟩, by decide⟩
abbrev mX8_step : gM := (yX8_step, cX8_step, 5, (some .int))
set_option maxRecDepth 20000 in
theorem kX8_step : gMk mX8_step 0 := ⟨gw_at 901 rfl rfl, ini_X8, ⟨by decide +kernel, by decide +kernel, by decide +kernel⟩, by decide⟩
abbrev mX8_goes : gM := (yX8_goes, cX8_goes, 9, (some .int))
set_option maxRecDepth 20000 in
theorem kX8_goes : gMk mX8_goes 5 := ⟨gw_at 905 rfl rfl, ini_X8, ⟨by decide +kernel, by decide +kernel, by decide +kernel⟩, by decide⟩
abbrev mX8_stateOf : gM := (yX8_stateOf, cX8_stateOf, 7, (some .int))
set_option maxRecDepth 20000 in
theorem kX8_stateOf : gMk mX8_stateOf 6 := ⟨gw_at 909 rfl rfl, ini_X8, ⟨by decide +kernel, by decide +kernel, by decide +kernel⟩, by decide⟩
abbrev mX8_climb : gM := (yX8_climb, cX8_climb, 3, (some .int))
set_option maxRecDepth 20000 in
theorem kX8_climb : gMk mX8_climb 1 := ⟨gw_at 913 rfl rfl, ini_X8, ⟨by decide +kernel, by decide +kernel, by decide +kernel⟩, by decide⟩
abbrev mX8_undo : gM := (yX8_undo, cX8_undo, 2, (some .int))
set_option maxRecDepth 20000 in
theorem kX8_undo : gMk mX8_undo 0 := ⟨gw_at 917 rfl rfl, ini_X8, ⟨by decide +kernel, by decide +kernel, by decide +kernel⟩, by decide⟩
abbrev mX8_gone : gM := (yX8_gone, cX8_gone, 5, (some .int))
set_option maxRecDepth 20000 in
theorem kX8_gone : gMk mX8_gone 4 := ⟨gw_at 921 rfl rfl, ini_X8, ⟨by decide +kernel, by decide +kernel, by decide +kernel⟩, by decide⟩
abbrev mX8_goneOf : gM := (yX8_goneOf, cX8_goneOf, 8, (some .int))
set_option maxRecDepth 20000 in
theorem kX8_goneOf : gMk mX8_goneOf 5 := ⟨gw_at 925 rfl rfl, ini_X8, ⟨by decide +kernel, by decide +kernel, by decide +kernel⟩, by decide⟩
abbrev mX8_goAlone : gM := (yX8_goAlone, cX8_goAlone, 5, none)
set_option maxRecDepth 20000 in
theorem kX8_goAlone : gMk mX8_goAlone 3 := ⟨gw_at 929 rfl rfl, ini_X8, ⟨by decide +kernel, by decide +kernel, by decide +kernel⟩, by decide⟩
abbrev mX8_latest : gM := (yX8_latest, cX8_latest, 4, (some .int))
set_option maxRecDepth 20000 in
theorem kX8_latest : gMk mX8_latest 1 := ⟨gw_at 933 rfl rfl, ini_X8, ⟨by decide +kernel, by decide +kernel, by decide +kernel⟩, by decide⟩
abbrev mX8_safest : gM := (yX8_safest, cX8_safest, 10, (some .int))
set_option maxRecDepth 20000 in
theorem kX8_safest : gMk mX8_safest 2 := ⟨gw_at 937 rfl rfl, ini_X8, ⟨by decide +kernel, by decide +kernel, by decide +kernel⟩, by decide⟩
abbrev mX8_noWalk : gM := (yX8_noWalk, cX8_noWalk, 2, (some .int))
set_option maxRecDepth 20000 in
theorem kX8_noWalk : gMk mX8_noWalk 1 := ⟨gw_at 941 rfl rfl, ini_X8, ⟨by decide +kernel, by decide +kernel, by decide +kernel⟩, by decide⟩
abbrev mX8_shells : gM := (yX8_shells, cX8_shells, 9, (some .int))
set_option maxRecDepth 20000 in
theorem kX8_shells : gMk mX8_shells 1 := ⟨gw_at 945 rfl rfl, ini_X8, ⟨by decide +kernel, by decide +kernel, by decide +kernel⟩, by decide⟩
abbrev mX8_cut : gM := (yX8_cut, cX8_cut, 4, (some .int))
set_option maxRecDepth 20000 in
theorem kX8_cut : gMk mX8_cut 1 := ⟨gw_at 949 rfl rfl, ini_X8, ⟨by decide +kernel, by decide +kernel, by decide +kernel⟩, by decide⟩
abbrev mX8_judged : gM := (yX8_judged, cX8_judged, 6, (some .int))
set_option maxRecDepth 20000 in
theorem kX8_judged : gMk mX8_judged 3 := ⟨gw_at 953 rfl rfl, ini_X8, ⟨by decide +kernel, by decide +kernel, by decide +kernel⟩, by decide⟩
abbrev mX8_ten : gM := (yX8_ten, cX8_ten, 3, (some .int))
set_option maxRecDepth 20000 in
theorem kX8_ten : gMk mX8_ten 1 := ⟨gw_at 956 rfl rfl, ini_X8, ⟨by decide +kernel, by decide +kernel, by decide +kernel⟩, by decide⟩
abbrev mX8_ahead : gM := (yX8_ahead, cX8_ahead, 1, (some .int))
set_option maxRecDepth 20000 in
theorem kX8_ahead : gMk mX8_ahead 0 := ⟨gw_at 960 rfl rfl, ini_X8, ⟨by decide +kernel, by decide +kernel, by decide +kernel⟩, by decide⟩
abbrev mX8_findAhead : gM := (yX8_findAhead, cX8_findAhead, 4, (some .int))
set_option maxRecDepth 20000 in
theorem kX8_findAhead : gMk mX8_findAhead 0 := ⟨gw_at 964 rfl rfl, ini_X8, ⟨by decide +kernel, by decide +kernel, by decide +kernel⟩, by decide⟩
abbrev mX8_beginOf : gM := (yX8_beginOf, cX8_beginOf, 5, (some .int))
set_option maxRecDepth 20000 in
theorem kX8_beginOf : gMk mX8_beginOf 2 := ⟨gw_at 968 rfl rfl, ini_X8, ⟨by decide +kernel, by decide +kernel, by decide +kernel⟩, by decide⟩
abbrev mX8_aheadOf : gM := (yX8_aheadOf, cX8_aheadOf, 3, (some .int))
set_option maxRecDepth 20000 in
theorem kX8_aheadOf : gMk mX8_aheadOf 1 := ⟨gw_at 972 rfl rfl, ini_X8, ⟨by decide +kernel, by decide +kernel, by decide +kernel⟩, by decide⟩
abbrev mX8_saved : gM := (yX8_saved, cX8_saved, 6, (some .int))
set_option maxRecDepth 20000 in
theorem kX8_saved : gMk mX8_saved 0 := ⟨gw_at 976 rfl rfl, ini_X8, ⟨by decide +kernel, by decide +kernel, by decide +kernel⟩, by decide⟩
abbrev mX8_isSaved : gM := (yX8_isSaved, cX8_isSaved, 3, (some .boolean))
set_option maxRecDepth 20000 in
theorem kX8_isSaved : gMk mX8_isSaved 1 := ⟨gw_at 980 rfl rfl, ini_X8, ⟨by decide +kernel, by decide +kernel, by decide +kernel⟩, by decide⟩
abbrev mX8_channel : gM := (yX8_channel, cX8_channel, 9, (some .int))
set_option maxRecDepth 20000 in
theorem kX8_channel : gMk mX8_channel 6 := ⟨gw_at 984 rfl rfl, ini_X8, ⟨by decide +kernel, by decide +kernel, by decide +kernel⟩, by decide⟩
abbrev mX8_noTenths : gM := (yX8_noTenths, cX8_noTenths, 2, (some .boolean))
set_option maxRecDepth 20000 in
theorem kX8_noTenths : gMk mX8_noTenths 2 := ⟨gw_at 987 rfl rfl, ini_X8, ⟨by decide +kernel, by decide +kernel, by decide +kernel⟩, by decide⟩
abbrev mX8_fraction : gM := (yX8_fraction, cX8_fraction, 7, (some .int))
set_option maxRecDepth 20000 in
theorem kX8_fraction : gMk mX8_fraction 3 := ⟨gw_at 992 rfl rfl, ini_X8, ⟨by decide +kernel, by decide +kernel, by decide +kernel⟩, by decide⟩
abbrev mX8_divisor : gM := (yX8_divisor, cX8_divisor, 10, (some .long))
set_option maxRecDepth 20000 in
theorem kX8_divisor : gMk mX8_divisor 2 := ⟨gw_at 995 rfl rfl, ini_X8, ⟨by decide +kernel, by decide +kernel, by decide +kernel⟩, by decide⟩
abbrev mX8_sticks : gM := (yX8_sticks, cX8_sticks, 13, (some .int))
set_option maxRecDepth 20000 in
theorem kX8_sticks : gMk mX8_sticks 4 := ⟨gw_at 999 rfl rfl, ini_X8, ⟨by decide +kernel, by decide +kernel, by decide +kernel⟩, by decide⟩
abbrev mX8_wind : gM := (yX8_wind, cX8_wind, 9, (some .int))
set_option maxRecDepth 20000 in
theorem kX8_wind : gMk mX8_wind 5 := ⟨gw_at 1004 rfl rfl, ini_X8, ⟨by decide +kernel, by decide +kernel, by decide +kernel⟩, by decide⟩
abbrev mX8_seed : gM := (yX8_seed, cX8_seed, 5, (some .long))
set_option maxRecDepth 20000 in
theorem kX8_seed : gMk mX8_seed 1 := ⟨gw_at 1008 rfl rfl, ini_X8, ⟨by decide +kernel, by decide +kernel, by decide +kernel⟩, by decide⟩
abbrev mX8_fog : gM := (yX8_fog, cX8_fog, 5, (some .int))
set_option maxRecDepth 20000 in
theorem kX8_fog : gMk mX8_fog 3 := ⟨gw_at 1012 rfl rfl, ini_X8, ⟨by decide +kernel, by decide +kernel, by decide +kernel⟩, by decide⟩
abbrev mX8_keep : gM := (yX8_keep, cX8_keep, 3, (some .int))
set_option maxRecDepth 20000 in
theorem kX8_keep : gMk mX8_keep 1 := ⟨gw_at 1020 rfl rfl, ini_X8, ⟨by decide +kernel, by decide +kernel, by decide +kernel⟩, by decide⟩
abbrev mX8_again : gM := (yX8_again, cX8_again, 3, (some .int))
set_option maxRecDepth 20000 in
theorem kX8_again : gMk mX8_again 1 := ⟨gw_at 1024 rfl rfl, ini_X8, ⟨by decide +kernel, by decide +kernel, by decide +kernel⟩, by decide⟩
theorem lL_13 : gLv RL 13 yX7_write := ⟨gw_at 258 (by decide +kernel) (by decide +kernel), gw_at 259 (by decide +kernel) (by decide +kernel), gw_at 260 (by decide +kernel) (by decide +kernel)⟩
theorem lX7_75 : gLv RX7 75 yX4_append := ⟨gw_at 262 (by decide +kernel) (by decide +kernel), gw_at 263 (by decide +kernel) (by decide +kernel), gw_at 264 (by decide +kernel) (by decide +kernel)⟩
theorem lL_18 : gLv RL 18 yX7_wipe := ⟨gw_at 266 (by decide +kernel) (by decide +kernel), gw_at 267 (by decide +kernel) (by decide +kernel), gw_at 268 (by decide +kernel) (by decide +kernel)⟩
theorem lX7_78 : gLv RX7 78 yX4_empty := ⟨gw_at 270 (by decide +kernel) (by decide +kernel), gw_at 271 (by decide +kernel) (by decide +kernel), gw_at 272 (by decide +kernel) (by decide +kernel)⟩
theorem lL_23 : gLv RL 23 yX7_fault := ⟨gw_at 274 (by decide +kernel) (by decide +kernel), gw_at 275 (by decide +kernel) (by decide +kernel), gw_at 276 (by decide +kernel) (by decide +kernel)⟩
theorem lX7_81 : gLv RX7 81 yX4_readInto := ⟨gw_at 278 (by decide +kernel) (by decide +kernel), gw_at 279 (by decide +kernel) (by decide +kernel), gw_at 280 (by decide +kernel) (by decide +kernel)⟩
theorem lX4_26 : gLv RX4 26 yX1_clear := ⟨gw_at 282 (by decide +kernel) (by decide +kernel), gw_at 283 (by decide +kernel) (by decide +kernel), gw_at 284 (by decide +kernel) (by decide +kernel)⟩
theorem lX4_31 : gLv RX4 31 yX4_readHead := ⟨gw_at 286 (by decide +kernel) (by decide +kernel), gw_at 288 (by decide +kernel) (by decide +kernel), gw_at 0 (by decide +kernel) (by decide +kernel)⟩
theorem lX4_38 : gLv RX4 38 yX4_letterHere := ⟨gw_at 290 (by decide +kernel) (by decide +kernel), gw_at 292 (by decide +kernel) (by decide +kernel), gw_at 1 (by decide +kernel) (by decide +kernel)⟩
theorem lX4_42 : gLv RX4 42 yX4_figure := ⟨gw_at 294 (by decide +kernel) (by decide +kernel), gw_at 296 (by decide +kernel) (by decide +kernel), gw_at 2 (by decide +kernel) (by decide +kernel)⟩
theorem lX4_46 : gLv RX4 46 yX1_setHeight := ⟨gw_at 298 (by decide +kernel) (by decide +kernel), gw_at 299 (by decide +kernel) (by decide +kernel), gw_at 300 (by decide +kernel) (by decide +kernel)⟩
theorem lX1_41 : gLn RX1 41 yX7_isCell := ⟨⟨"OverSands", gnl_at 302 (by decide +kernel) rfl⟩, gw_at 303 (by decide +kernel) (by decide +kernel)⟩
theorem lX4_35 : gLv RX4 35 yX4_readPart := ⟨gw_at 305 (by decide +kernel) (by decide +kernel), gw_at 307 (by decide +kernel) (by decide +kernel), gw_at 3 (by decide +kernel) (by decide +kernel)⟩
theorem lX4_62 : gLv RX4 62 yX4_readWalker := ⟨gw_at 309 (by decide +kernel) (by decide +kernel), gw_at 311 (by decide +kernel) (by decide +kernel), gw_at 4 (by decide +kernel) (by decide +kernel)⟩
theorem lX4_77 : gLv RX4 77 yX1_addWalker := ⟨gw_at 313 (by decide +kernel) (by decide +kernel), gw_at 314 (by decide +kernel) (by decide +kernel), gw_at 315 (by decide +kernel) (by decide +kernel)⟩
theorem lX4_68 : gLv RX4 68 yX4_readTower := ⟨gw_at 317 (by decide +kernel) (by decide +kernel), gw_at 319 (by decide +kernel) (by decide +kernel), gw_at 5 (by decide +kernel) (by decide +kernel)⟩
theorem lX4_80 : gLv RX4 80 yX1_holdOf := ⟨gw_at 321 (by decide +kernel) (by decide +kernel), gw_at 322 (by decide +kernel) (by decide +kernel), gw_at 323 (by decide +kernel) (by decide +kernel)⟩
theorem lX4_84 : gLv RX4 84 yX1_addTower := ⟨gw_at 325 (by decide +kernel) (by decide +kernel), gw_at 326 (by decide +kernel) (by decide +kernel), gw_at 327 (by decide +kernel) (by decide +kernel)⟩
theorem lX4_74 : gLv RX4 74 yX4_readSoft := ⟨gw_at 329 (by decide +kernel) (by decide +kernel), gw_at 331 (by decide +kernel) (by decide +kernel), gw_at 6 (by decide +kernel) (by decide +kernel)⟩
theorem lX4_87 : gLv RX4 87 yX1_isSoft := ⟨gw_at 333 (by decide +kernel) (by decide +kernel), gw_at 334 (by decide +kernel) (by decide +kernel), gw_at 335 (by decide +kernel) (by decide +kernel)⟩
theorem lX4_91 : gLv RX4 91 yX1_addSoft := ⟨gw_at 337 (by decide +kernel) (by decide +kernel), gw_at 338 (by decide +kernel) (by decide +kernel), gw_at 339 (by decide +kernel) (by decide +kernel)⟩
theorem lL_27 : gLv RL 27 yX7_bay := ⟨gw_at 341 (by decide +kernel) (by decide +kernel), gw_at 342 (by decide +kernel) (by decide +kernel), gw_at 343 (by decide +kernel) (by decide +kernel)⟩
theorem lX7_85 : gLv RX7 85 yX2_clear := ⟨gw_at 345 (by decide +kernel) (by decide +kernel), gw_at 346 (by decide +kernel) (by decide +kernel), gw_at 347 (by decide +kernel) (by decide +kernel)⟩
theorem lX7_88 : gLv RX7 88 yX0_clear := ⟨gw_at 349 (by decide +kernel) (by decide +kernel), gw_at 350 (by decide +kernel) (by decide +kernel), gw_at 351 (by decide +kernel) (by decide +kernel)⟩
theorem lL_31 : gLv RL 31 yX7_about := ⟨gw_at 353 (by decide +kernel) (by decide +kernel), gw_at 354 (by decide +kernel) (by decide +kernel), gw_at 355 (by decide +kernel) (by decide +kernel)⟩
theorem lX7_95 : gLv RX7 95 yX2_time := ⟨gw_at 357 (by decide +kernel) (by decide +kernel), gw_at 358 (by decide +kernel) (by decide +kernel), gw_at 359 (by decide +kernel) (by decide +kernel)⟩
theorem lX7_99 : gLv RX7 99 yX7_waterAt := ⟨gw_at 361 (by decide +kernel) (by decide +kernel), gw_at 363 (by decide +kernel) (by decide +kernel), gw_at 7 (by decide +kernel) (by decide +kernel)⟩
theorem lX7_278 : gLv RX7 278 yX1_water := ⟨gw_at 365 (by decide +kernel) (by decide +kernel), gw_at 366 (by decide +kernel) (by decide +kernel), gw_at 367 (by decide +kernel) (by decide +kernel)⟩
theorem lX7_112 : gLv RX7 112 yX2_allThat := ⟨gw_at 369 (by decide +kernel) (by decide +kernel), gw_at 370 (by decide +kernel) (by decide +kernel), gw_at 371 (by decide +kernel) (by decide +kernel)⟩
theorem lX2_23 : gLv RX2 23 yX2_fateOf := ⟨gw_at 373 (by decide +kernel) (by decide +kernel), gw_at 374 (by decide +kernel) (by decide +kernel), gw_at 375 (by decide +kernel) (by decide +kernel)⟩
theorem lX2_15 : gLv RX2 15 yX2_valueOf := ⟨gw_at 377 (by decide +kernel) (by decide +kernel), gw_at 379 (by decide +kernel) (by decide +kernel), gw_at 8 (by decide +kernel) (by decide +kernel)⟩
theorem lL_35 : gLv RL 35 yX7_cell := ⟨gw_at 381 (by decide +kernel) (by decide +kernel), gw_at 382 (by decide +kernel) (by decide +kernel), gw_at 383 (by decide +kernel) (by decide +kernel)⟩
theorem lX7_119 : gLs RX7 119 yX7_isCell := ⟨gw_at 385 (by decide +kernel) (by decide +kernel), gw_at 303 (by decide +kernel) (by decide +kernel)⟩
theorem lX7_123 : gLv RX7 123 yX1_heightOf := ⟨gw_at 386 (by decide +kernel) (by decide +kernel), gw_at 387 (by decide +kernel) (by decide +kernel), gw_at 388 (by decide +kernel) (by decide +kernel)⟩
theorem lX7_126 : gLv RX7 126 yX1_depth := ⟨gw_at 390 (by decide +kernel) (by decide +kernel), gw_at 391 (by decide +kernel) (by decide +kernel), gw_at 392 (by decide +kernel) (by decide +kernel)⟩
theorem lX7_129 : gLv RX7 129 yX1_isSoft := ⟨gw_at 394 (by decide +kernel) (by decide +kernel), gw_at 334 (by decide +kernel) (by decide +kernel), gw_at 335 (by decide +kernel) (by decide +kernel)⟩
theorem lX7_132 : gLv RX7 132 yX1_holdOf := ⟨gw_at 395 (by decide +kernel) (by decide +kernel), gw_at 322 (by decide +kernel) (by decide +kernel), gw_at 323 (by decide +kernel) (by decide +kernel)⟩
theorem lX7_135 : gLv RX7 135 yX7_upOn := ⟨gw_at 396 (by decide +kernel) (by decide +kernel), gw_at 398 (by decide +kernel) (by decide +kernel), gw_at 9 (by decide +kernel) (by decide +kernel)⟩
theorem lX7_230 : gLv RX7 230 yX2_countOn := ⟨gw_at 400 (by decide +kernel) (by decide +kernel), gw_at 401 (by decide +kernel) (by decide +kernel), gw_at 402 (by decide +kernel) (by decide +kernel)⟩
theorem lX2_27 : gLv RX2 27 yX2_cellOf := ⟨gw_at 404 (by decide +kernel) (by decide +kernel), gw_at 405 (by decide +kernel) (by decide +kernel), gw_at 406 (by decide +kernel) (by decide +kernel)⟩
theorem lL_40 : gLv RL 40 yX7_walker := ⟨gw_at 408 (by decide +kernel) (by decide +kernel), gw_at 409 (by decide +kernel) (by decide +kernel), gw_at 410 (by decide +kernel) (by decide +kernel)⟩
theorem lX7_138 : gLv RX7 138 yX7_isWalker := ⟨gw_at 412 (by decide +kernel) (by decide +kernel), gw_at 414 (by decide +kernel) (by decide +kernel), gw_at 10 (by decide +kernel) (by decide +kernel)⟩
theorem lX7_141 : gLv RX7 141 yX1_paceOf := ⟨gw_at 416 (by decide +kernel) (by decide +kernel), gw_at 417 (by decide +kernel) (by decide +kernel), gw_at 418 (by decide +kernel) (by decide +kernel)⟩
theorem lX7_144 : gLv RX7 144 yX1_wadeOf := ⟨gw_at 420 (by decide +kernel) (by decide +kernel), gw_at 421 (by decide +kernel) (by decide +kernel), gw_at 422 (by decide +kernel) (by decide +kernel)⟩
theorem lX7_147 : gLv RX7 147 yX2_cellOf := ⟨gw_at 424 (by decide +kernel) (by decide +kernel), gw_at 405 (by decide +kernel) (by decide +kernel), gw_at 406 (by decide +kernel) (by decide +kernel)⟩
theorem lX7_150 : gLv RX7 150 yX2_wayOf := ⟨gw_at 425 (by decide +kernel) (by decide +kernel), gw_at 426 (by decide +kernel) (by decide +kernel), gw_at 427 (by decide +kernel) (by decide +kernel)⟩
theorem lX7_153 : gLv RX7 153 yX2_fateOf := ⟨gw_at 429 (by decide +kernel) (by decide +kernel), gw_at 374 (by decide +kernel) (by decide +kernel), gw_at 375 (by decide +kernel) (by decide +kernel)⟩
theorem lL_44 : gLv RL 44 yX7_deep := ⟨gw_at 430 (by decide +kernel) (by decide +kernel), gw_at 431 (by decide +kernel) (by decide +kernel), gw_at 432 (by decide +kernel) (by decide +kernel)⟩
theorem lX7_156 : gLs RX7 156 yX7_isStep := ⟨gw_at 434 (by decide +kernel) (by decide +kernel), gw_at 435 (by decide +kernel) (by decide +kernel)⟩
theorem lL_48 : gLv RL 48 yX7_head := ⟨gw_at 437 (by decide +kernel) (by decide +kernel), gw_at 438 (by decide +kernel) (by decide +kernel), gw_at 439 (by decide +kernel) (by decide +kernel)⟩
theorem lX7_159 : gLv RX7 159 yX7_isWalking := ⟨gw_at 441 (by decide +kernel) (by decide +kernel), gw_at 443 (by decide +kernel) (by decide +kernel), gw_at 11 (by decide +kernel) (by decide +kernel)⟩
theorem lX7_162 : gLv RX7 162 yX0_remember := ⟨gw_at 445 (by decide +kernel) (by decide +kernel), gw_at 446 (by decide +kernel) (by decide +kernel), gw_at 447 (by decide +kernel) (by decide +kernel)⟩
theorem lX0_27 : gLv RX0 27 yX3_put := ⟨gw_at 449 (by decide +kernel) (by decide +kernel), gw_at 450 (by decide +kernel) (by decide +kernel), gw_at 451 (by decide +kernel) (by decide +kernel)⟩
theorem lX7_166 : gLv RX7 166 yX2_setWay := ⟨gw_at 456 (by decide +kernel) (by decide +kernel), gw_at 457 (by decide +kernel) (by decide +kernel), gw_at 458 (by decide +kernel) (by decide +kernel)⟩
theorem lX2_19 : gLv RX2 19 yX2_setValue := ⟨gw_at 460 (by decide +kernel) (by decide +kernel), gw_at 462 (by decide +kernel) (by decide +kernel), gw_at 12 (by decide +kernel) (by decide +kernel)⟩
theorem lL_52 : gLv RL 52 yX7_step := ⟨gw_at 464 (by decide +kernel) (by decide +kernel), gw_at 465 (by decide +kernel) (by decide +kernel), gw_at 466 (by decide +kernel) (by decide +kernel)⟩
theorem lX7_170 : gLv RX7 170 yX7_moveOne := ⟨gw_at 468 (by decide +kernel) (by decide +kernel), gw_at 470 (by decide +kernel) (by decide +kernel), gw_at 13 (by decide +kernel) (by decide +kernel)⟩
theorem lX7_206 : gLv RX7 206 yX5_begin := ⟨gw_at 472 (by decide +kernel) (by decide +kernel), gw_at 473 (by decide +kernel) (by decide +kernel), gw_at 474 (by decide +kernel) (by decide +kernel)⟩
theorem lX5_9 : gLv RX5 9 yX1_paceOf := ⟨gw_at 476 (by decide +kernel) (by decide +kernel), gw_at 417 (by decide +kernel) (by decide +kernel), gw_at 418 (by decide +kernel) (by decide +kernel)⟩
theorem lX5_21 : gLv RX5 21 yX1_wadeOf := ⟨gw_at 477 (by decide +kernel) (by decide +kernel), gw_at 421 (by decide +kernel) (by decide +kernel), gw_at 422 (by decide +kernel) (by decide +kernel)⟩
theorem lX7_219 : gLv RX7 219 yX5_move := ⟨gw_at 478 (by decide +kernel) (by decide +kernel), gw_at 479 (by decide +kernel) (by decide +kernel), gw_at 480 (by decide +kernel) (by decide +kernel)⟩
theorem lX5_40 : gLv RX5 40 yX1_water := ⟨gw_at 482 (by decide +kernel) (by decide +kernel), gw_at 366 (by decide +kernel) (by decide +kernel), gw_at 367 (by decide +kernel) (by decide +kernel)⟩
theorem lX5_44 : gLv RX5 44 yX5_goAlong := ⟨gw_at 483 (by decide +kernel) (by decide +kernel), gw_at 485 (by decide +kernel) (by decide +kernel), gw_at 14 (by decide +kernel) (by decide +kernel)⟩
theorem lX5_48 : gLv RX5 48 yX1_depth := ⟨gw_at 487 (by decide +kernel) (by decide +kernel), gw_at 391 (by decide +kernel) (by decide +kernel), gw_at 392 (by decide +kernel) (by decide +kernel)⟩
theorem lX5_51 : gLv RX5 51 yX1_isSoft := ⟨gw_at 488 (by decide +kernel) (by decide +kernel), gw_at 334 (by decide +kernel) (by decide +kernel), gw_at 335 (by decide +kernel) (by decide +kernel)⟩
theorem lX7_281 : gLv RX7 281 yX2_setCell := ⟨gw_at 489 (by decide +kernel) (by decide +kernel), gw_at 490 (by decide +kernel) (by decide +kernel), gw_at 491 (by decide +kernel) (by decide +kernel)⟩
theorem lX7_179 : gLv RX7 179 yX2_setFate := ⟨gw_at 493 (by decide +kernel) (by decide +kernel), gw_at 494 (by decide +kernel) (by decide +kernel), gw_at 495 (by decide +kernel) (by decide +kernel)⟩
theorem lX7_223 : gLv RX7 223 yX5_isLost := ⟨gw_at 497 (by decide +kernel) (by decide +kernel), gw_at 498 (by decide +kernel) (by decide +kernel), gw_at 499 (by decide +kernel) (by decide +kernel)⟩
theorem lX7_173 : gLv RX7 173 yX2_setTime := ⟨gw_at 501 (by decide +kernel) (by decide +kernel), gw_at 502 (by decide +kernel) (by decide +kernel), gw_at 503 (by decide +kernel) (by decide +kernel)⟩
theorem lL_56 : gLv RL 56 yX7_climb := ⟨gw_at 505 (by decide +kernel) (by decide +kernel), gw_at 506 (by decide +kernel) (by decide +kernel), gw_at 507 (by decide +kernel) (by decide +kernel)⟩
theorem lX7_176 : gLv RX7 176 yX7_roomOn := ⟨gw_at 509 (by decide +kernel) (by decide +kernel), gw_at 511 (by decide +kernel) (by decide +kernel), gw_at 15 (by decide +kernel) (by decide +kernel)⟩
theorem lL_60 : gLv RL 60 yX7_undo := ⟨gw_at 513 (by decide +kernel) (by decide +kernel), gw_at 514 (by decide +kernel) (by decide +kernel), gw_at 515 (by decide +kernel) (by decide +kernel)⟩
theorem lX7_182 : gLv RX7 182 yX0_takeBack := ⟨gw_at 517 (by decide +kernel) (by decide +kernel), gw_at 518 (by decide +kernel) (by decide +kernel), gw_at 519 (by decide +kernel) (by decide +kernel)⟩
theorem lX0_31 : gLv RX0 31 yX3_take := ⟨gw_at 521 (by decide +kernel) (by decide +kernel), gw_at 522 (by decide +kernel) (by decide +kernel), gw_at 523 (by decide +kernel) (by decide +kernel)⟩
theorem lL_64 : gLv RL 64 yX7_gone := ⟨gw_at 525 (by decide +kernel) (by decide +kernel), gw_at 526 (by decide +kernel) (by decide +kernel), gw_at 527 (by decide +kernel) (by decide +kernel)⟩
theorem lX7_185 : gLv RX7 185 yX7_arrival := ⟨gw_at 529 (by decide +kernel) (by decide +kernel), gw_at 531 (by decide +kernel) (by decide +kernel), gw_at 16 (by decide +kernel) (by decide +kernel)⟩
theorem lX7_284 : gLv RX7 284 yX5_goTillThere := ⟨gw_at 533 (by decide +kernel) (by decide +kernel), gw_at 534 (by decide +kernel) (by decide +kernel), gw_at 535 (by decide +kernel) (by decide +kernel)⟩
theorem lX5_55 : gLv RX5 55 yX5_move := ⟨gw_at 537 (by decide +kernel) (by decide +kernel), gw_at 479 (by decide +kernel) (by decide +kernel), gw_at 480 (by decide +kernel) (by decide +kernel)⟩
theorem lL_69 : gLv RL 69 yX7_latest := ⟨gw_at 538 (by decide +kernel) (by decide +kernel), gw_at 539 (by decide +kernel) (by decide +kernel), gw_at 540 (by decide +kernel) (by decide +kernel)⟩
theorem lL_73 : gLv RL 73 yX7_safest := ⟨gw_at 542 (by decide +kernel) (by decide +kernel), gw_at 543 (by decide +kernel) (by decide +kernel), gw_at 544 (by decide +kernel) (by decide +kernel)⟩
theorem lX7_189 : gLs RX7 189 yX7_safeBits := ⟨gw_at 546 (by decide +kernel) (by decide +kernel), gw_at 547 (by decide +kernel) (by decide +kernel)⟩
theorem lX7_193 : gLs RX7 193 yX7_soonest := ⟨gw_at 549 (by decide +kernel) (by decide +kernel), gw_at 550 (by decide +kernel) (by decide +kernel)⟩
theorem lL_77 : gLv RL 77 yX7_shells := ⟨gw_at 552 (by decide +kernel) (by decide +kernel), gw_at 553 (by decide +kernel) (by decide +kernel), gw_at 554 (by decide +kernel) (by decide +kernel)⟩
theorem lX7_196 : gLv RX7 196 yX7_outlastsStanding := ⟨gw_at 556 (by decide +kernel) (by decide +kernel), gw_at 558 (by decide +kernel) (by decide +kernel), gw_at 17 (by decide +kernel) (by decide +kernel)⟩
theorem lX7_200 : gLv RX7 200 yX7_isSafe := ⟨gw_at 560 (by decide +kernel) (by decide +kernel), gw_at 562 (by decide +kernel) (by decide +kernel), gw_at 18 (by decide +kernel) (by decide +kernel)⟩
theorem lL_81 : gLv RL 81 yX7_cut := ⟨gw_at 564 (by decide +kernel) (by decide +kernel), gw_at 565 (by decide +kernel) (by decide +kernel), gw_at 566 (by decide +kernel) (by decide +kernel)⟩
theorem lL_85 : gLv RL 85 yX7_judged := ⟨gw_at 568 (by decide +kernel) (by decide +kernel), gw_at 569 (by decide +kernel) (by decide +kernel), gw_at 570 (by decide +kernel) (by decide +kernel)⟩
theorem lX7_203 : gLs RX7 203 yX7_power := ⟨gw_at 572 (by decide +kernel) (by decide +kernel), gw_at 573 (by decide +kernel) (by decide +kernel)⟩
theorem lX7_213 : gLs RX7 213 yX7_figureAt := ⟨gw_at 575 (by decide +kernel) (by decide +kernel), gw_at 576 (by decide +kernel) (by decide +kernel)⟩
theorem lL_90 : gLv RL 90 yX7_ahead := ⟨gw_at 578 (by decide +kernel) (by decide +kernel), gw_at 579 (by decide +kernel) (by decide +kernel), gw_at 580 (by decide +kernel) (by decide +kernel)⟩
theorem lX7_227 : gLv RX7 227 yX7_meetingStep := ⟨gw_at 582 (by decide +kernel) (by decide +kernel), gw_at 584 (by decide +kernel) (by decide +kernel), gw_at 19 (by decide +kernel) (by decide +kernel)⟩
theorem lL_94 : gLv RL 94 yX7_aheadOf := ⟨gw_at 587 (by decide +kernel) (by decide +kernel), gw_at 588 (by decide +kernel) (by decide +kernel), gw_at 589 (by decide +kernel) (by decide +kernel)⟩
theorem lL_98 : gLv RL 98 yX7_saved := ⟨gw_at 591 (by decide +kernel) (by decide +kernel), gw_at 592 (by decide +kernel) (by decide +kernel), gw_at 593 (by decide +kernel) (by decide +kernel)⟩
theorem lL_102 : gLv RL 102 yX7_channel := ⟨gw_at 598 (by decide +kernel) (by decide +kernel), gw_at 599 (by decide +kernel) (by decide +kernel), gw_at 600 (by decide +kernel) (by decide +kernel)⟩
theorem lX7_238 : gLs RX7 238 yX7_isOnSands := ⟨gw_at 602 (by decide +kernel) (by decide +kernel), gw_at 603 (by decide +kernel) (by decide +kernel)⟩
theorem lX7_241 : gLs RX7 241 yX7_areTenths := ⟨gw_at 605 (by decide +kernel) (by decide +kernel), gw_at 606 (by decide +kernel) (by decide +kernel)⟩
theorem lX7_245 : gLv RX7 245 yX6_oddsAt := ⟨gw_at 608 (by decide +kernel) (by decide +kernel), gw_at 609 (by decide +kernel) (by decide +kernel), gw_at 610 (by decide +kernel) (by decide +kernel)⟩
theorem lX6_18 : gLn RX6 18 yX7_isOnSands := ⟨⟨"OverSands", gnl_at 612 (by decide +kernel) rfl⟩, gw_at 603 (by decide +kernel) (by decide +kernel)⟩
theorem lX6_22 : gLv RX6 22 yX6_wanderOn := ⟨gw_at 613 (by decide +kernel) (by decide +kernel), gw_at 615 (by decide +kernel) (by decide +kernel), gw_at 20 (by decide +kernel) (by decide +kernel)⟩
theorem lX7_249 : gLs RX7 249 yX7_told := ⟨gw_at 619 (by decide +kernel) (by decide +kernel), gw_at 620 (by decide +kernel) (by decide +kernel)⟩
theorem lX7_297 : gLs RX7 297 yX7_commonPart := ⟨gw_at 622 (by decide +kernel) (by decide +kernel), gw_at 623 (by decide +kernel) (by decide +kernel)⟩
theorem lL_107 : gLv RL 107 yX7_sticks := ⟨gw_at 625 (by decide +kernel) (by decide +kernel), gw_at 626 (by decide +kernel) (by decide +kernel), gw_at 627 (by decide +kernel) (by decide +kernel)⟩
theorem lX7_256 : gLs RX7 256 yX7_choices := ⟨gw_at 630 (by decide +kernel) (by decide +kernel), gw_at 631 (by decide +kernel) (by decide +kernel)⟩
theorem lL_112 : gLv RL 112 yX7_wind := ⟨gw_at 633 (by decide +kernel) (by decide +kernel), gw_at 634 (by decide +kernel) (by decide +kernel), gw_at 635 (by decide +kernel) (by decide +kernel)⟩
theorem lX7_259 : gLv RX7 259 yX7_isOverByLow := ⟨gw_at 637 (by decide +kernel) (by decide +kernel), gw_at 639 (by decide +kernel) (by decide +kernel), gw_at 21 (by decide +kernel) (by decide +kernel)⟩
theorem lL_119 : gLv RL 119 yX7_seed := ⟨gw_at 641 (by decide +kernel) (by decide +kernel), gw_at 642 (by decide +kernel) (by decide +kernel), gw_at 643 (by decide +kernel) (by decide +kernel)⟩
theorem lL_124 : gLv RL 124 yX7_fog := ⟨gw_at 645 (by decide +kernel) (by decide +kernel), gw_at 646 (by decide +kernel) (by decide +kernel), gw_at 647 (by decide +kernel) (by decide +kernel)⟩
theorem lX7_262 : gLv RX7 262 yX7_drawnWay := ⟨gw_at 649 (by decide +kernel) (by decide +kernel), gw_at 651 (by decide +kernel) (by decide +kernel), gw_at 22 (by decide +kernel) (by decide +kernel)⟩
theorem lL_128 : gLv RL 128 yX7_keep := ⟨gw_at 656 (by decide +kernel) (by decide +kernel), gw_at 657 (by decide +kernel) (by decide +kernel), gw_at 658 (by decide +kernel) (by decide +kernel)⟩
theorem lX7_268 : gLs RX7 268 yX7_isSlot := ⟨gw_at 660 (by decide +kernel) (by decide +kernel), gw_at 661 (by decide +kernel) (by decide +kernel)⟩
theorem lX7_271 : gLv RX7 271 yX3_put := ⟨gw_at 663 (by decide +kernel) (by decide +kernel), gw_at 450 (by decide +kernel) (by decide +kernel), gw_at 451 (by decide +kernel) (by decide +kernel)⟩
theorem lL_132 : gLv RL 132 yX7_again := ⟨gw_at 664 (by decide +kernel) (by decide +kernel), gw_at 665 (by decide +kernel) (by decide +kernel), gw_at 666 (by decide +kernel) (by decide +kernel)⟩
theorem lX7_275 : gLv RX7 275 yX3_take := ⟨gw_at 668 (by decide +kernel) (by decide +kernel), gw_at 522 (by decide +kernel) (by decide +kernel), gw_at 523 (by decide +kernel) (by decide +kernel)⟩
theorem lL_17 : gLv RL 17 yX8_write := ⟨gw_at 788 (by decide +kernel) (by decide +kernel), gw_at 789 (by decide +kernel) (by decide +kernel), gw_at 790 (by decide +kernel) (by decide +kernel)⟩
theorem lX8_73 : gLs RX8 73 yX8_in := ⟨gw_at 793 (by decide +kernel) (by decide +kernel), gw_at 794 (by decide +kernel) (by decide +kernel)⟩
theorem lL_22 : gLv RL 22 yX8_wipe := ⟨gw_at 796 (by decide +kernel) (by decide +kernel), gw_at 797 (by decide +kernel) (by decide +kernel), gw_at 798 (by decide +kernel) (by decide +kernel)⟩
theorem lL_26 : gLv RL 26 yX8_fault := ⟨gw_at 800 (by decide +kernel) (by decide +kernel), gw_at 801 (by decide +kernel) (by decide +kernel), gw_at 802 (by decide +kernel) (by decide +kernel)⟩
theorem lX8_136 : gLv RX8 136 yX8_readBay := ⟨gw_at 804 (by decide +kernel) (by decide +kernel), gw_at 806 (by decide +kernel) (by decide +kernel), gw_at 23 (by decide +kernel) (by decide +kernel)⟩
theorem lX8_130 : gLv RX8 130 yX8_readHead := ⟨gw_at 808 (by decide +kernel) (by decide +kernel), gw_at 810 (by decide +kernel) (by decide +kernel), gw_at 24 (by decide +kernel) (by decide +kernel)⟩
theorem lX8_96 : gLv RX8 96 yX8_figure := ⟨gw_at 812 (by decide +kernel) (by decide +kernel), gw_at 814 (by decide +kernel) (by decide +kernel), gw_at 25 (by decide +kernel) (by decide +kernel)⟩
theorem lX8_133 : gLv RX8 133 yX8_readPart := ⟨gw_at 816 (by decide +kernel) (by decide +kernel), gw_at 818 (by decide +kernel) (by decide +kernel), gw_at 26 (by decide +kernel) (by decide +kernel)⟩
theorem lX8_111 : gLv RX8 111 yX8_readWalker := ⟨gw_at 820 (by decide +kernel) (by decide +kernel), gw_at 822 (by decide +kernel) (by decide +kernel), gw_at 27 (by decide +kernel) (by decide +kernel)⟩
theorem lX8_115 : gLv RX8 115 yX8_readTower := ⟨gw_at 824 (by decide +kernel) (by decide +kernel), gw_at 826 (by decide +kernel) (by decide +kernel), gw_at 28 (by decide +kernel) (by decide +kernel)⟩
theorem lX8_103 : gLv RX8 103 yX8_freeTowers := ⟨gw_at 828 (by decide +kernel) (by decide +kernel), gw_at 830 (by decide +kernel) (by decide +kernel), gw_at 29 (by decide +kernel) (by decide +kernel)⟩
theorem lX8_107 : gLv RX8 107 yX8_one := ⟨gw_at 832 (by decide +kernel) (by decide +kernel), gw_at 834 (by decide +kernel) (by decide +kernel), gw_at 30 (by decide +kernel) (by decide +kernel)⟩
theorem lX8_92 : gLs RX8 92 yX8_has := ⟨gw_at 837 (by decide +kernel) (by decide +kernel), gw_at 838 (by decide +kernel) (by decide +kernel)⟩
theorem lL_30 : gLv RL 30 yX8_bay := ⟨gw_at 840 (by decide +kernel) (by decide +kernel), gw_at 841 (by decide +kernel) (by decide +kernel), gw_at 842 (by decide +kernel) (by decide +kernel)⟩
theorem lL_34 : gLv RL 34 yX8_about := ⟨gw_at 844 (by decide +kernel) (by decide +kernel), gw_at 845 (by decide +kernel) (by decide +kernel), gw_at 846 (by decide +kernel) (by decide +kernel)⟩
theorem lX8_154 : gLv RX8 154 yX8_water := ⟨gw_at 848 (by decide +kernel) (by decide +kernel), gw_at 850 (by decide +kernel) (by decide +kernel), gw_at 31 (by decide +kernel) (by decide +kernel)⟩
theorem lX8_157 : gLv RX8 157 yX8_those := ⟨gw_at 852 (by decide +kernel) (by decide +kernel), gw_at 854 (by decide +kernel) (by decide +kernel), gw_at 32 (by decide +kernel) (by decide +kernel)⟩
theorem lL_39 : gLv RL 39 yX8_cell := ⟨gw_at 856 (by decide +kernel) (by decide +kernel), gw_at 857 (by decide +kernel) (by decide +kernel), gw_at 858 (by decide +kernel) (by decide +kernel)⟩
theorem lX8_160 : gLs RX8 160 yX8_noCell := ⟨gw_at 860 (by decide +kernel) (by decide +kernel), gw_at 861 (by decide +kernel) (by decide +kernel)⟩
theorem lX8_164 : gLv RX8 164 yX8_towerOf := ⟨gw_at 864 (by decide +kernel) (by decide +kernel), gw_at 866 (by decide +kernel) (by decide +kernel), gw_at 33 (by decide +kernel) (by decide +kernel)⟩
theorem lX8_167 : gLv RX8 167 yX8_deepBy := ⟨gw_at 868 (by decide +kernel) (by decide +kernel), gw_at 870 (by decide +kernel) (by decide +kernel), gw_at 34 (by decide +kernel) (by decide +kernel)⟩
theorem lX8_171 : gLv RX8 171 yX8_upAt := ⟨gw_at 872 (by decide +kernel) (by decide +kernel), gw_at 874 (by decide +kernel) (by decide +kernel), gw_at 35 (by decide +kernel) (by decide +kernel)⟩
theorem lL_43 : gLv RL 43 yX8_walker := ⟨gw_at 876 (by decide +kernel) (by decide +kernel), gw_at 877 (by decide +kernel) (by decide +kernel), gw_at 878 (by decide +kernel) (by decide +kernel)⟩
theorem lX8_174 : gLv RX8 174 yX8_noOne := ⟨gw_at 880 (by decide +kernel) (by decide +kernel), gw_at 882 (by decide +kernel) (by decide +kernel), gw_at 36 (by decide +kernel) (by decide +kernel)⟩
theorem lL_47 : gLv RL 47 yX8_deep := ⟨gw_at 884 (by decide +kernel) (by decide +kernel), gw_at 885 (by decide +kernel) (by decide +kernel), gw_at 886 (by decide +kernel) (by decide +kernel)⟩
theorem lL_51 : gLv RL 51 yX8_head := ⟨gw_at 889 (by decide +kernel) (by decide +kernel), gw_at 890 (by decide +kernel) (by decide +kernel), gw_at 891 (by decide +kernel) (by decide +kernel)⟩
theorem lX8_198 : gLv RX8 198 yX8_note := ⟨gw_at 894 (by decide +kernel) (by decide +kernel), gw_at 896 (by decide +kernel) (by decide +kernel), gw_at 37 (by decide +kernel) (by decide +kernel)⟩
theorem lL_55 : gLv RL 55 yX8_step := ⟨gw_at 898 (by decide +kernel) (by decide +kernel), gw_at 899 (by decide +kernel) (by decide +kernel), gw_at 900 (by decide +kernel) (by decide +kernel)⟩
theorem lX8_185 : gLv RX8 185 yX8_goes := ⟨gw_at 902 (by decide +kernel) (by decide +kernel), gw_at 904 (by decide +kernel) (by decide +kernel), gw_at 38 (by decide +kernel) (by decide +kernel)⟩
theorem lX8_189 : gLv RX8 189 yX8_stateOf := ⟨gw_at 906 (by decide +kernel) (by decide +kernel), gw_at 908 (by decide +kernel) (by decide +kernel), gw_at 39 (by decide +kernel) (by decide +kernel)⟩
theorem lL_59 : gLv RL 59 yX8_climb := ⟨gw_at 910 (by decide +kernel) (by decide +kernel), gw_at 911 (by decide +kernel) (by decide +kernel), gw_at 912 (by decide +kernel) (by decide +kernel)⟩
theorem lL_63 : gLv RL 63 yX8_undo := ⟨gw_at 914 (by decide +kernel) (by decide +kernel), gw_at 915 (by decide +kernel) (by decide +kernel), gw_at 916 (by decide +kernel) (by decide +kernel)⟩
theorem lL_68 : gLv RL 68 yX8_gone := ⟨gw_at 918 (by decide +kernel) (by decide +kernel), gw_at 919 (by decide +kernel) (by decide +kernel), gw_at 920 (by decide +kernel) (by decide +kernel)⟩
theorem lX8_205 : gLv RX8 205 yX8_goneOf := ⟨gw_at 922 (by decide +kernel) (by decide +kernel), gw_at 924 (by decide +kernel) (by decide +kernel), gw_at 40 (by decide +kernel) (by decide +kernel)⟩
theorem lX8_201 : gLv RX8 201 yX8_goAlone := ⟨gw_at 926 (by decide +kernel) (by decide +kernel), gw_at 928 (by decide +kernel) (by decide +kernel), gw_at 41 (by decide +kernel) (by decide +kernel)⟩
theorem lL_72 : gLv RL 72 yX8_latest := ⟨gw_at 930 (by decide +kernel) (by decide +kernel), gw_at 931 (by decide +kernel) (by decide +kernel), gw_at 932 (by decide +kernel) (by decide +kernel)⟩
theorem lL_76 : gLv RL 76 yX8_safest := ⟨gw_at 934 (by decide +kernel) (by decide +kernel), gw_at 935 (by decide +kernel) (by decide +kernel), gw_at 936 (by decide +kernel) (by decide +kernel)⟩
theorem lX8_208 : gLv RX8 208 yX8_noWalk := ⟨gw_at 938 (by decide +kernel) (by decide +kernel), gw_at 940 (by decide +kernel) (by decide +kernel), gw_at 42 (by decide +kernel) (by decide +kernel)⟩
theorem lL_80 : gLv RL 80 yX8_shells := ⟨gw_at 942 (by decide +kernel) (by decide +kernel), gw_at 943 (by decide +kernel) (by decide +kernel), gw_at 944 (by decide +kernel) (by decide +kernel)⟩
theorem lL_84 : gLv RL 84 yX8_cut := ⟨gw_at 946 (by decide +kernel) (by decide +kernel), gw_at 947 (by decide +kernel) (by decide +kernel), gw_at 948 (by decide +kernel) (by decide +kernel)⟩
theorem lL_89 : gLv RL 89 yX8_judged := ⟨gw_at 950 (by decide +kernel) (by decide +kernel), gw_at 951 (by decide +kernel) (by decide +kernel), gw_at 952 (by decide +kernel) (by decide +kernel)⟩
theorem lX8_211 : gLs RX8 211 yX8_ten := ⟨gw_at 954 (by decide +kernel) (by decide +kernel), gw_at 955 (by decide +kernel) (by decide +kernel)⟩
theorem lL_93 : gLv RL 93 yX8_ahead := ⟨gw_at 957 (by decide +kernel) (by decide +kernel), gw_at 958 (by decide +kernel) (by decide +kernel), gw_at 959 (by decide +kernel) (by decide +kernel)⟩
theorem lX8_217 : gLv RX8 217 yX8_findAhead := ⟨gw_at 961 (by decide +kernel) (by decide +kernel), gw_at 963 (by decide +kernel) (by decide +kernel), gw_at 43 (by decide +kernel) (by decide +kernel)⟩
theorem lX8_214 : gLv RX8 214 yX8_beginOf := ⟨gw_at 965 (by decide +kernel) (by decide +kernel), gw_at 967 (by decide +kernel) (by decide +kernel), gw_at 44 (by decide +kernel) (by decide +kernel)⟩
theorem lL_97 : gLv RL 97 yX8_aheadOf := ⟨gw_at 969 (by decide +kernel) (by decide +kernel), gw_at 970 (by decide +kernel) (by decide +kernel), gw_at 971 (by decide +kernel) (by decide +kernel)⟩
theorem lL_101 : gLv RL 101 yX8_saved := ⟨gw_at 973 (by decide +kernel) (by decide +kernel), gw_at 974 (by decide +kernel) (by decide +kernel), gw_at 975 (by decide +kernel) (by decide +kernel)⟩
theorem lX8_220 : gLv RX8 220 yX8_isSaved := ⟨gw_at 977 (by decide +kernel) (by decide +kernel), gw_at 979 (by decide +kernel) (by decide +kernel), gw_at 45 (by decide +kernel) (by decide +kernel)⟩
theorem lL_106 : gLv RL 106 yX8_channel := ⟨gw_at 981 (by decide +kernel) (by decide +kernel), gw_at 982 (by decide +kernel) (by decide +kernel), gw_at 983 (by decide +kernel) (by decide +kernel)⟩
theorem lX8_229 : gLs RX8 229 yX8_noTenths := ⟨gw_at 985 (by decide +kernel) (by decide +kernel), gw_at 986 (by decide +kernel) (by decide +kernel)⟩
theorem lX8_234 : gLs RX8 234 yX8_fraction := ⟨gw_at 990 (by decide +kernel) (by decide +kernel), gw_at 991 (by decide +kernel) (by decide +kernel)⟩
theorem lX8_223 : gLs RX8 223 yX8_divisor := ⟨gw_at 993 (by decide +kernel) (by decide +kernel), gw_at 994 (by decide +kernel) (by decide +kernel)⟩
theorem lL_111 : gLv RL 111 yX8_sticks := ⟨gw_at 996 (by decide +kernel) (by decide +kernel), gw_at 997 (by decide +kernel) (by decide +kernel), gw_at 998 (by decide +kernel) (by decide +kernel)⟩
theorem lL_116 : gLv RL 116 yX8_wind := ⟨gw_at 1001 (by decide +kernel) (by decide +kernel), gw_at 1002 (by decide +kernel) (by decide +kernel), gw_at 1003 (by decide +kernel) (by decide +kernel)⟩
theorem lL_123 : gLv RL 123 yX8_seed := ⟨gw_at 1005 (by decide +kernel) (by decide +kernel), gw_at 1006 (by decide +kernel) (by decide +kernel), gw_at 1007 (by decide +kernel) (by decide +kernel)⟩
theorem lL_127 : gLv RL 127 yX8_fog := ⟨gw_at 1009 (by decide +kernel) (by decide +kernel), gw_at 1010 (by decide +kernel) (by decide +kernel), gw_at 1011 (by decide +kernel) (by decide +kernel)⟩
theorem lL_131 : gLv RL 131 yX8_keep := ⟨gw_at 1017 (by decide +kernel) (by decide +kernel), gw_at 1018 (by decide +kernel) (by decide +kernel), gw_at 1019 (by decide +kernel) (by decide +kernel)⟩
theorem lL_135 : gLv RL 135 yX8_again := ⟨gw_at 1021 (by decide +kernel) (by decide +kernel), gw_at 1022 (by decide +kernel) (by decide +kernel), gw_at 1023 (by decide +kernel) (by decide +kernel)⟩
theorem clX7_295 : Cond.constantLong RX7 295 (-1) ∈ gw := gw_at 586 (by decide +kernel) (by decide +kernel)
theorem clX7_289 : Cond.constantLong RX7 289 (6364136223846793005) ∈ gw := gw_at 653 (by decide +kernel) (by decide +kernel)
theorem clX7_291 : Cond.constantLong RX7 291 (1442695040888963407) ∈ gw := gw_at 654 (by decide +kernel) (by decide +kernel)
theorem clX7_293 : Cond.constantLong RX7 293 (4) ∈ gw := gw_at 655 (by decide +kernel) (by decide +kernel)
theorem clX8_79 : Cond.constantLong RX8 79 (255) ∈ gw := gw_at 792 (by decide +kernel) (by decide +kernel)
theorem clX8_90 : Cond.constantLong RX8 90 (8) ∈ gw := gw_at 836 (by decide +kernel) (by decide +kernel)
theorem clX8_77 : Cond.constantLong RX8 77 (9) ∈ gw := gw_at 863 (by decide +kernel) (by decide +kernel)
theorem clX8_177 : Cond.constantLong RX8 177 (40) ∈ gw := gw_at 888 (by decide +kernel) (by decide +kernel)
theorem clX8_196 : Cond.constantLong RX8 196 (2) ∈ gw := gw_at 893 (by decide +kernel) (by decide +kernel)
theorem clX8_227 : Cond.constantLong RX8 227 (10) ∈ gw := gw_at 988 (by decide +kernel) (by decide +kernel)
theorem clX8_232 : Cond.constantLong RX8 232 (5) ∈ gw := gw_at 989 (by decide +kernel) (by decide +kernel)
theorem clX8_238 : Cond.constantLong RX8 238 (6) ∈ gw := gw_at 1000 (by decide +kernel) (by decide +kernel)
theorem clX8_244 : Cond.constantLong RX8 244 (20) ∈ gw := gw_at 1013 (by decide +kernel) (by decide +kernel)
theorem clX8_246 : Cond.constantLong RX8 246 (6364136223846793005) ∈ gw := gw_at 1014 (by decide +kernel) (by decide +kernel)
theorem clX8_248 : Cond.constantLong RX8 248 (1442695040888963407) ∈ gw := gw_at 1015 (by decide +kernel) (by decide +kernel)
theorem clX8_250 : Cond.constantLong RX8 250 (4) ∈ gw := gw_at 1016 (by decide +kernel) (by decide +kernel)
theorem clL_117 : Cond.constantLong RL 117 (4294967295) ∈ gw := gw_at 1025 (by decide +kernel) (by decide +kernel)
theorem lmX3_7 : Cond.methodLink RX3 7 Lib.Math.max.name ∈ gw := gw_at 162 (by decide +kernel) (by decide +kernel)
theorem lmX3_28 : Cond.methodLink RX3 28 arraycopyName ∈ gw := gw_at 453 (by decide +kernel) (by decide +kernel)
theorem lmX7_233 : Cond.methodLink RX7 233 Lib.Math.min.name ∈ gw := gw_at 595 (by decide +kernel) (by decide +kernel)
theorem lmX6_26 : Cond.methodLink RX6 26 Lib.Math.max.name ∈ gw := gw_at 617 (by decide +kernel) (by decide +kernel)
theorem lmX6_32 : Cond.methodLink RX6 32 Lib.Math.min.name ∈ gw := gw_at 618 (by decide +kernel) (by decide +kernel)
theorem lmX7_253 : Cond.methodLink RX7 253 Lib.Math.max.name ∈ gw := gw_at 629 (by decide +kernel) (by decide +kernel)
theorem jm_max_s : Cond.static Lib.Math.max.name ∈ gw := gw_at 163 (by decide +kernel) (by decide +kernel)
set_option maxRecDepth 20000 in
theorem jm_max_c : Cond.code Lib.Math.max.name Lib.Math.max.code 2 (some .int) ∈ gw := gw_at 164 rfl rfl
theorem jm_min_s : Cond.static Lib.Math.min.name ∈ gw := gw_at 596 (by decide +kernel) (by decide +kernel)
set_option maxRecDepth 20000 in
theorem jm_min_c : Cond.code Lib.Math.min.name Lib.Math.min.code 2 (some .int) ∈ gw := gw_at 597 rfl rfl
theorem jm_i : Cond.initialized "java/lang/Math" ∈ gw := gw_at 53 (by decide +kernel) (by decide +kernel)
theorem js_s : Cond.static arraycopyName ∈ gw := gw_at 454 (by decide +kernel) (by decide +kernel)
theorem js_n : Cond.native arraycopyName ∈ gw := gw_at 455 (by decide +kernel) (by decide +kernel)
theorem js_i : Cond.initialized "java/lang/System" ∈ gw := gw_at 57 (by decide +kernel) (by decide +kernel)
