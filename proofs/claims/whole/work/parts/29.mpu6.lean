/-! part 29: the model: channel, sticks -/
theorem tot_0 {c a b n d : Nat} (hab : a + b ≤ 10) (h1 : 1 ≤ c) (h8 : c ≤ 8) (d1 : 1 ≤ d) (d8 : d ≤ 8) (hn : n ≤ 5) : sOdds c a b n d ≤ 100000 := Nat.le_trans (sOdds_le hab h1 h8 d1 d8) (Nat.pow_le_pow_right (n := 10) (by omega) hn)
abbrev fC (c : Nat) : Nat → Nat := fun j => if j = c then 1 else 0
abbrev fZ : Nat → Nat := fun _ => 0
theorem lp_chD {e1 e2 e3 e4 e5 e6 e7 e8 e9 e10 e11 e12 e13 e14 e15 : va_E} {ts pl lo ri la wk tw sf : Nat} {rl rr re : Int32} {rw rt rs ac : Nat} {sd : Int64} {ce sa ti : Nat} {c d a b n up : Nat} (hc : 1 ≤ c ∧ c ≤ 8) (hd : 1 ≤ d ∧ d ≤ 8) (hab : a + b ≤ 10) (hn : n ≤ 5) (hu : up ≤ 1) {od cm : Nat → Nat} {day : Nat} {Post : Option Value → List va_E → Prop} (kn : Go mX8_channel 2 261 [(0, .ref 0), (1, .int (nI c)), (2, .int (nI d)), (3, .int (nI a)), (4, .int (nI b)), (5, .int (nI n)), (6, .int (nI up)), (7, .int (nI day))] [] (wM (kM 0 ts pl lo ri la wk tw sf rl rr re rw rt rs ac sd ce sa ti) e1 e2 e3 e4 e5 e6 e7 e8 e9 e10 e11 e12 e13 e14 e15 (kJ 10 (cpf 10 cm od)) (kJ 10 cm)) Post) : ∀ (m i : Nat), i + m = 10 → Go mX8_channel 2 234 [(0, .ref 0), (1, .int (nI c)), (2, .int (nI d)), (3, .int (nI a)), (4, .int (nI b)), (5, .int (nI n)), (6, .int (nI up)), (7, .int (nI day)), (8, .int (nI i))] [] (wM (kM 0 ts pl lo ri la wk tw sf rl rr re rw rt rs ac sd ce sa ti) e1 e2 e3 e4 e5 e6 e7 e8 e9 e10 e11 e12 e13 e14 e15 (kJ 10 (cpf i cm od)) (kJ 10 cm)) Post := by
  intro m
  induction m with
  | zero =>
    intro i hi
    obtain rfl : i = 10 := by omega
    refine g_iload (j := 8) dX8_channel_234 rfl ?_
    refine g_bipush (v := nI 10) dX8_channel_236 (by decide) ?_
    refine n_icmp_ge (tgt := 261) (rng_lit 10 rfl) (rng_lit 10 rfl) dX8_channel_238 (by decide) (fun h238 => ?_) (fun h238 => ?_)
    · refine g_lv [0, 1, 2, 3, 4, 5, 6, 7] rfl ?_
      exact kn
    · exact absurd h238 (by decide)

  | succ m ih =>
    intro i hi
    refine g_iload (j := 8) dX8_channel_234 rfl ?_
    refine g_bipush (v := nI 10) dX8_channel_236 (by decide) ?_
    refine n_icmp_ge (tgt := 261) (by omega) (rng_lit 10 rfl) dX8_channel_238 (by decide) (fun h238 => ?_) (fun h238 => ?_)
    · exfalso; omega
    · refine g_aload_n (i := 0) (j := 0) dX8_channel_241 rfl rfl ?_
      refine g_get fX8_60 rfl rfl dX8_channel_242 ?_
      refine g_iload (j := 8) dX8_channel_245 rfl ?_
      refine g_aload_n (i := 0) (j := 0) dX8_channel_247 rfl rfl ?_
      refine g_get fX8_64 rfl rfl dX8_channel_248 ?_
      refine g_iload (j := 8) dX8_channel_251 rfl ?_
      refine n_lald (x := i) rfl (by omega) (rng_lit 10 rfl) dX8_channel_253 ?_
      refine n_last (x := i) (ws' := wM (kM 0 ts pl lo ri la wk tw sf rl rr re rw rt rs ac sd ce sa ti) e1 e2 e3 e4 e5 e6 e7 e8 e9 e10 e11 e12 e13 e14 e15 (kJ 10 (va_up (cpf i cm od) i (cm i))) (kJ 10 cm)) rfl (by omega) (rng_lit 10 rfl) dX8_channel_254 rfl ?_
      refine n_inc (x := i) (j := 8) (lv' := [(8, .int (nI (i + 1))), (0, .ref 0), (1, .int (nI c)), (2, .int (nI d)), (3, .int (nI a)), (4, .int (nI b)), (5, .int (nI n)), (6, .int (nI up)), (7, .int (nI day))]) dX8_channel_255 rfl (by decide) rfl ?_
      refine g_goto (tgt := 234) dX8_channel_258 (by decide) ?_
      refine g_lv [1, 2, 3, 4, 5, 6, 7, 8, 0] rfl ?_
      rw [show va_up (cpf i cm od) i (cm i) = cpf (i + 1) cm od from cpf_s i cm od]
      exact ih (i + 1) (by omega)

theorem lp_chC {e1 e2 e3 e4 e5 e6 e7 e8 e9 e10 e11 e12 e13 e14 e15 : va_E} {ts pl lo ri la wk tw sf : Nat} {rl rr re : Int32} {rw rt rs ac : Nat} {sd : Int64} {ce sa ti : Nat} {c d a b n up : Nat} (hc : 1 ≤ c ∧ c ≤ 8) (hd : 1 ≤ d ∧ d ≤ 8) (hab : a + b ≤ 10) (hn : n ≤ 5) (hu : up ≤ 1) {od z : Nat → Nat} {day : Nat} {Post : Option Value → List va_E → Prop} (kn : Go mX8_channel 2 231 [(0, .ref 0), (1, .int (nI c)), (2, .int (nI d)), (3, .int (nI a)), (4, .int (nI b)), (5, .int (nI n)), (6, .int (nI up)), (7, .int (nI day))] [] (wM (kM 0 ts pl lo ri la wk tw sf rl rr re rw rt rs ac sd ce sa ti) e1 e2 e3 e4 e5 e6 e7 e8 e9 e10 e11 e12 e13 e14 e15 (kJ 10 od) (kJ 10 (wDay od a b z 8))) Post) : ∀ (m i : Nat), i + m = 8 → Go mX8_channel 2 125 [(0, .ref 0), (1, .int (nI c)), (2, .int (nI d)), (3, .int (nI a)), (4, .int (nI b)), (5, .int (nI n)), (6, .int (nI up)), (7, .int (nI day)), (8, .int (nI (i + 1)))] [] (wM (kM 0 ts pl lo ri la wk tw sf rl rr re rw rt rs ac sd ce sa ti) e1 e2 e3 e4 e5 e6 e7 e8 e9 e10 e11 e12 e13 e14 e15 (kJ 10 od) (kJ 10 (wDay od a b z i))) Post := by
  intro m
  induction m with
  | zero =>
    intro i hi
    obtain rfl : i = 8 := by omega
    refine g_iload (j := 8) dX8_channel_125 rfl ?_
    refine g_bipush (v := nI 8) dX8_channel_127 (by decide) ?_
    refine n_icmp_gt (tgt := 231) (rng_lit 9 rfl) (rng_lit 8 rfl) dX8_channel_129 (by decide) (fun h129 => ?_) (fun h129 => ?_)
    · refine g_lv [0, 1, 2, 3, 4, 5, 6, 7] rfl ?_
      exact kn
    · exact absurd h129 (by decide)

  | succ m ih =>
    intro i hi
    refine g_iload (j := 8) dX8_channel_125 rfl ?_
    refine g_bipush (v := nI 8) dX8_channel_127 (by decide) ?_
    refine n_icmp_gt (tgt := 231) (by omega) (rng_lit 8 rfl) dX8_channel_129 (by decide) (fun h129 => ?_) (fun h129 => ?_)
    · exfalso; omega
    · refine g_aload_n (i := 0) (j := 0) dX8_channel_132 rfl rfl ?_
      refine g_get fX8_64 rfl rfl dX8_channel_133 ?_
      refine g_iload (j := 8) dX8_channel_136 rfl ?_
      refine g_iconst (v := nI 1) dX8_channel_138 (by decide) ?_
      refine n_icmp_ne (tgt := 146) (by omega) (rng_lit 1 rfl) dX8_channel_139 (by decide) (fun h139 => ?_) (fun h139 => ?_)
      · refine g_iload (j := 8) dX8_channel_146 rfl ?_
        refine g_iconst (v := nI 1) dX8_channel_148 (by decide) ?_
        refine n_isub (a := (i + 1)) (b := 1) (by omega) dX8_channel_149 ?_
        refine g_topi (y := nI (max 1 (i + 1 - 1))) (congrArg nI (by omega)) ?_
        refine g_dup2 dX8_channel_150 rfl rfl ?_
        refine n_lald (x := (max 1 (i + 1 - 1))) rfl (by omega) (rng_lit 10 rfl) dX8_channel_151 ?_
        refine g_iload_n (i := 3) (j := 3) dX8_channel_152 rfl rfl ?_
        refine g_i2l (v := lN a) dX8_channel_153 (nI_l (by omega)) ?_
        refine g_aload_n (i := 0) (j := 0) dX8_channel_154 rfl rfl ?_
        refine g_get fX8_60 rfl rfl dX8_channel_155 ?_
        refine g_iload (j := 8) dX8_channel_158 rfl ?_
        refine n_lald (x := (i + 1)) rfl (by omega) (rng_lit 10 rfl) dX8_channel_160 ?_
        refine g_lmul dX8_channel_161 ?_
        refine g_topl (y := (lN (a * (od (i + 1))))) (lN_mul _ _) ?_
        refine g_topl (y := lN (od (i + 1) * a)) (by rw [Nat.mul_comm]) ?_
        refine g_ladd dX8_channel_162 ?_
        refine g_topl (y := (lN (((wDay od a b z i) (max 1 (i + 1 - 1))) + (od (i + 1) * a)))) (lN_add _ _) ?_
        refine n_last (x := (max 1 (i + 1 - 1))) (ws' := wM (kM 0 ts pl lo ri la wk tw sf rl rr re rw rt rs ac sd ce sa ti) e1 e2 e3 e4 e5 e6 e7 e8 e9 e10 e11 e12 e13 e14 e15 (kJ 10 od) (kJ 10 (va_up (wDay od a b z i) (max 1 (i + 1 - 1)) (((wDay od a b z i) (max 1 (i + 1 - 1))) + (od (i + 1) * a))))) rfl (by omega) (rng_lit 10 rfl) dX8_channel_163 rfl ?_
        refine g_aload_n (i := 0) (j := 0) dX8_channel_164 rfl rfl ?_
        refine g_get fX8_64 rfl rfl dX8_channel_165 ?_
        refine g_iload (j := 8) dX8_channel_168 rfl ?_
        refine g_bipush (v := nI 8) dX8_channel_170 (by decide) ?_
        refine n_icmp_ne (tgt := 180) (by omega) (rng_lit 8 rfl) dX8_channel_172 (by decide) (fun h172 => ?_) (fun h172 => ?_)
        · refine g_iload (j := 8) dX8_channel_180 rfl ?_
          refine g_iconst (v := nI 1) dX8_channel_182 (by decide) ?_
          refine n_iadd (a := (i + 1)) (b := 1) dX8_channel_183 ?_
          refine g_topi (y := nI (min 8 (i + 1 + 1))) (congrArg nI (by omega)) ?_
          refine g_dup2 dX8_channel_184 rfl rfl ?_
          refine n_lald (x := (min 8 (i + 1 + 1))) rfl (by omega) (rng_lit 10 rfl) dX8_channel_185 ?_
          refine g_iload (j := 4) dX8_channel_186 rfl ?_
          refine g_i2l (v := lN b) dX8_channel_188 (nI_l (by omega)) ?_
          refine g_aload_n (i := 0) (j := 0) dX8_channel_189 rfl rfl ?_
          refine g_get fX8_60 rfl rfl dX8_channel_190 ?_
          refine g_iload (j := 8) dX8_channel_193 rfl ?_
          refine n_lald (x := (i + 1)) rfl (by omega) (rng_lit 10 rfl) dX8_channel_195 ?_
          refine g_lmul dX8_channel_196 ?_
          refine g_topl (y := (lN (b * (od (i + 1))))) (lN_mul _ _) ?_
          refine g_topl (y := lN (od (i + 1) * b)) (by rw [Nat.mul_comm]) ?_
          refine g_ladd dX8_channel_197 ?_
          refine g_topl (y := (lN (((va_up (wDay od a b z i) (max 1 (i + 1 - 1)) (((wDay od a b z i) (max 1 (i + 1 - 1))) + (od (i + 1) * a))) (min 8 (i + 1 + 1))) + (od (i + 1) * b)))) (lN_add _ _) ?_
          refine n_last (x := (min 8 (i + 1 + 1))) (ws' := wM (kM 0 ts pl lo ri la wk tw sf rl rr re rw rt rs ac sd ce sa ti) e1 e2 e3 e4 e5 e6 e7 e8 e9 e10 e11 e12 e13 e14 e15 (kJ 10 od) (kJ 10 (va_up (va_up (wDay od a b z i) (max 1 (i + 1 - 1)) (((wDay od a b z i) (max 1 (i + 1 - 1))) + (od (i + 1) * a))) (min 8 (i + 1 + 1)) (((va_up (wDay od a b z i) (max 1 (i + 1 - 1)) (((wDay od a b z i) (max 1 (i + 1 - 1))) + (od (i + 1) * a))) (min 8 (i + 1 + 1))) + (od (i + 1) * b))))) rfl (by omega) (rng_lit 10 rfl) dX8_channel_198 rfl ?_
          refine g_aload_n (i := 0) (j := 0) dX8_channel_199 rfl rfl ?_
          refine g_get fX8_64 rfl rfl dX8_channel_200 ?_
          refine g_iload (j := 8) dX8_channel_203 rfl ?_
          refine g_dup2 dX8_channel_205 rfl rfl ?_
          refine n_lald (x := (i + 1)) rfl (by omega) (rng_lit 10 rfl) dX8_channel_206 ?_
          refine g_bipush (v := nI 10) dX8_channel_207 (by decide) ?_
          refine g_iload_n (i := 3) (j := 3) dX8_channel_209 rfl rfl ?_
          refine n_isub (a := 10) (b := a) (by omega) dX8_channel_210 ?_
          refine g_iload (j := 4) dX8_channel_211 rfl ?_
          refine n_isub (a := (10 - a)) (b := b) (by omega) dX8_channel_213 ?_
          refine g_i2l (v := lN ((10 - a) - b)) dX8_channel_214 (nI_l (by omega)) ?_
          refine g_aload_n (i := 0) (j := 0) dX8_channel_215 rfl rfl ?_
          refine g_get fX8_60 rfl rfl dX8_channel_216 ?_
          refine g_iload (j := 8) dX8_channel_219 rfl ?_
          refine n_lald (x := (i + 1)) rfl (by omega) (rng_lit 10 rfl) dX8_channel_221 ?_
          refine g_lmul dX8_channel_222 ?_
          refine g_topl (y := (lN (((10 - a) - b) * (od (i + 1))))) (lN_mul _ _) ?_
          refine g_topl (y := lN (od (i + 1) * (10 - a - b))) (by rw [Nat.mul_comm]) ?_
          refine g_ladd dX8_channel_223 ?_
          refine g_topl (y := (lN (((va_up (va_up (wDay od a b z i) (max 1 (i + 1 - 1)) (((wDay od a b z i) (max 1 (i + 1 - 1))) + (od (i + 1) * a))) (min 8 (i + 1 + 1)) (((va_up (wDay od a b z i) (max 1 (i + 1 - 1)) (((wDay od a b z i) (max 1 (i + 1 - 1))) + (od (i + 1) * a))) (min 8 (i + 1 + 1))) + (od (i + 1) * b))) (i + 1)) + (od (i + 1) * (10 - a - b))))) (lN_add _ _) ?_
          refine n_last (x := (i + 1)) (ws' := wM (kM 0 ts pl lo ri la wk tw sf rl rr re rw rt rs ac sd ce sa ti) e1 e2 e3 e4 e5 e6 e7 e8 e9 e10 e11 e12 e13 e14 e15 (kJ 10 od) (kJ 10 (va_up (va_up (va_up (wDay od a b z i) (max 1 (i + 1 - 1)) (((wDay od a b z i) (max 1 (i + 1 - 1))) + (od (i + 1) * a))) (min 8 (i + 1 + 1)) (((va_up (wDay od a b z i) (max 1 (i + 1 - 1)) (((wDay od a b z i) (max 1 (i + 1 - 1))) + (od (i + 1) * a))) (min 8 (i + 1 + 1))) + (od (i + 1) * b))) (i + 1) (((va_up (va_up (wDay od a b z i) (max 1 (i + 1 - 1)) (((wDay od a b z i) (max 1 (i + 1 - 1))) + (od (i + 1) * a))) (min 8 (i + 1 + 1)) (((va_up (wDay od a b z i) (max 1 (i + 1 - 1)) (((wDay od a b z i) (max 1 (i + 1 - 1))) + (od (i + 1) * a))) (min 8 (i + 1 + 1))) + (od (i + 1) * b))) (i + 1)) + (od (i + 1) * (10 - a - b)))))) rfl (by omega) (rng_lit 10 rfl) dX8_channel_224 rfl ?_
          refine n_inc (x := (i + 1)) (j := 8) (lv' := [(8, .int (nI ((i + 1) + 1))), (0, .ref 0), (1, .int (nI c)), (2, .int (nI d)), (3, .int (nI a)), (4, .int (nI b)), (5, .int (nI n)), (6, .int (nI up)), (7, .int (nI day))]) dX8_channel_225 rfl (by decide) rfl ?_
          refine g_goto (tgt := 125) dX8_channel_228 (by decide) ?_
          refine g_lv [1, 2, 3, 4, 5, 6, 7, 8, 0] rfl ?_
          rw [show va_up (va_up (va_up (wDay od a b z i) (max 1 (i + 1 - 1)) (((wDay od a b z i) (max 1 (i + 1 - 1))) + (od (i + 1) * a))) (min 8 (i + 1 + 1)) (((va_up (wDay od a b z i) (max 1 (i + 1 - 1)) (((wDay od a b z i) (max 1 (i + 1 - 1))) + (od (i + 1) * a))) (min 8 (i + 1 + 1))) + (od (i + 1) * b))) (i + 1) (((va_up (va_up (wDay od a b z i) (max 1 (i + 1 - 1)) (((wDay od a b z i) (max 1 (i + 1 - 1))) + (od (i + 1) * a))) (min 8 (i + 1 + 1)) (((va_up (wDay od a b z i) (max 1 (i + 1 - 1)) (((wDay od a b z i) (max 1 (i + 1 - 1))) + (od (i + 1) * a))) (min 8 (i + 1 + 1))) + (od (i + 1) * b))) (i + 1)) + (od (i + 1) * (10 - a - b))) = wDay od a b z (i + 1) from rfl]
          exact ih (i + 1) (by omega)
        · refine g_bipush (v := nI 8) dX8_channel_175 (by decide) ?_
          refine g_goto (tgt := 184) dX8_channel_177 (by decide) ?_
          refine g_topi (y := nI (min 8 (i + 1 + 1))) (congrArg nI (by omega)) ?_
          refine g_dup2 dX8_channel_184 rfl rfl ?_
          refine n_lald (x := (min 8 (i + 1 + 1))) rfl (by omega) (rng_lit 10 rfl) dX8_channel_185 ?_
          refine g_iload (j := 4) dX8_channel_186 rfl ?_
          refine g_i2l (v := lN b) dX8_channel_188 (nI_l (by omega)) ?_
          refine g_aload_n (i := 0) (j := 0) dX8_channel_189 rfl rfl ?_
          refine g_get fX8_60 rfl rfl dX8_channel_190 ?_
          refine g_iload (j := 8) dX8_channel_193 rfl ?_
          refine n_lald (x := (i + 1)) rfl (by omega) (rng_lit 10 rfl) dX8_channel_195 ?_
          refine g_lmul dX8_channel_196 ?_
          refine g_topl (y := (lN (b * (od (i + 1))))) (lN_mul _ _) ?_
          refine g_topl (y := lN (od (i + 1) * b)) (by rw [Nat.mul_comm]) ?_
          refine g_ladd dX8_channel_197 ?_
          refine g_topl (y := (lN (((va_up (wDay od a b z i) (max 1 (i + 1 - 1)) (((wDay od a b z i) (max 1 (i + 1 - 1))) + (od (i + 1) * a))) (min 8 (i + 1 + 1))) + (od (i + 1) * b)))) (lN_add _ _) ?_
          refine n_last (x := (min 8 (i + 1 + 1))) (ws' := wM (kM 0 ts pl lo ri la wk tw sf rl rr re rw rt rs ac sd ce sa ti) e1 e2 e3 e4 e5 e6 e7 e8 e9 e10 e11 e12 e13 e14 e15 (kJ 10 od) (kJ 10 (va_up (va_up (wDay od a b z i) (max 1 (i + 1 - 1)) (((wDay od a b z i) (max 1 (i + 1 - 1))) + (od (i + 1) * a))) (min 8 (i + 1 + 1)) (((va_up (wDay od a b z i) (max 1 (i + 1 - 1)) (((wDay od a b z i) (max 1 (i + 1 - 1))) + (od (i + 1) * a))) (min 8 (i + 1 + 1))) + (od (i + 1) * b))))) rfl (by omega) (rng_lit 10 rfl) dX8_channel_198 rfl ?_
          refine g_aload_n (i := 0) (j := 0) dX8_channel_199 rfl rfl ?_
          refine g_get fX8_64 rfl rfl dX8_channel_200 ?_
          refine g_iload (j := 8) dX8_channel_203 rfl ?_
          refine g_dup2 dX8_channel_205 rfl rfl ?_
          refine n_lald (x := (i + 1)) rfl (by omega) (rng_lit 10 rfl) dX8_channel_206 ?_
          refine g_bipush (v := nI 10) dX8_channel_207 (by decide) ?_
          refine g_iload_n (i := 3) (j := 3) dX8_channel_209 rfl rfl ?_
          refine n_isub (a := 10) (b := a) (by omega) dX8_channel_210 ?_
          refine g_iload (j := 4) dX8_channel_211 rfl ?_
          refine n_isub (a := (10 - a)) (b := b) (by omega) dX8_channel_213 ?_
          refine g_i2l (v := lN ((10 - a) - b)) dX8_channel_214 (nI_l (by omega)) ?_
          refine g_aload_n (i := 0) (j := 0) dX8_channel_215 rfl rfl ?_
          refine g_get fX8_60 rfl rfl dX8_channel_216 ?_
          refine g_iload (j := 8) dX8_channel_219 rfl ?_
          refine n_lald (x := (i + 1)) rfl (by omega) (rng_lit 10 rfl) dX8_channel_221 ?_
          refine g_lmul dX8_channel_222 ?_
          refine g_topl (y := (lN (((10 - a) - b) * (od (i + 1))))) (lN_mul _ _) ?_
          refine g_topl (y := lN (od (i + 1) * (10 - a - b))) (by rw [Nat.mul_comm]) ?_
          refine g_ladd dX8_channel_223 ?_
          refine g_topl (y := (lN (((va_up (va_up (wDay od a b z i) (max 1 (i + 1 - 1)) (((wDay od a b z i) (max 1 (i + 1 - 1))) + (od (i + 1) * a))) (min 8 (i + 1 + 1)) (((va_up (wDay od a b z i) (max 1 (i + 1 - 1)) (((wDay od a b z i) (max 1 (i + 1 - 1))) + (od (i + 1) * a))) (min 8 (i + 1 + 1))) + (od (i + 1) * b))) (i + 1)) + (od (i + 1) * (10 - a - b))))) (lN_add _ _) ?_
          refine n_last (x := (i + 1)) (ws' := wM (kM 0 ts pl lo ri la wk tw sf rl rr re rw rt rs ac sd ce sa ti) e1 e2 e3 e4 e5 e6 e7 e8 e9 e10 e11 e12 e13 e14 e15 (kJ 10 od) (kJ 10 (va_up (va_up (va_up (wDay od a b z i) (max 1 (i + 1 - 1)) (((wDay od a b z i) (max 1 (i + 1 - 1))) + (od (i + 1) * a))) (min 8 (i + 1 + 1)) (((va_up (wDay od a b z i) (max 1 (i + 1 - 1)) (((wDay od a b z i) (max 1 (i + 1 - 1))) + (od (i + 1) * a))) (min 8 (i + 1 + 1))) + (od (i + 1) * b))) (i + 1) (((va_up (va_up (wDay od a b z i) (max 1 (i + 1 - 1)) (((wDay od a b z i) (max 1 (i + 1 - 1))) + (od (i + 1) * a))) (min 8 (i + 1 + 1)) (((va_up (wDay od a b z i) (max 1 (i + 1 - 1)) (((wDay od a b z i) (max 1 (i + 1 - 1))) + (od (i + 1) * a))) (min 8 (i + 1 + 1))) + (od (i + 1) * b))) (i + 1)) + (od (i + 1) * (10 - a - b)))))) rfl (by omega) (rng_lit 10 rfl) dX8_channel_224 rfl ?_
          refine n_inc (x := (i + 1)) (j := 8) (lv' := [(8, .int (nI ((i + 1) + 1))), (0, .ref 0), (1, .int (nI c)), (2, .int (nI d)), (3, .int (nI a)), (4, .int (nI b)), (5, .int (nI n)), (6, .int (nI up)), (7, .int (nI day))]) dX8_channel_225 rfl (by decide) rfl ?_
          refine g_goto (tgt := 125) dX8_channel_228 (by decide) ?_
          refine g_lv [1, 2, 3, 4, 5, 6, 7, 8, 0] rfl ?_
          rw [show va_up (va_up (va_up (wDay od a b z i) (max 1 (i + 1 - 1)) (((wDay od a b z i) (max 1 (i + 1 - 1))) + (od (i + 1) * a))) (min 8 (i + 1 + 1)) (((va_up (wDay od a b z i) (max 1 (i + 1 - 1)) (((wDay od a b z i) (max 1 (i + 1 - 1))) + (od (i + 1) * a))) (min 8 (i + 1 + 1))) + (od (i + 1) * b))) (i + 1) (((va_up (va_up (wDay od a b z i) (max 1 (i + 1 - 1)) (((wDay od a b z i) (max 1 (i + 1 - 1))) + (od (i + 1) * a))) (min 8 (i + 1 + 1)) (((va_up (wDay od a b z i) (max 1 (i + 1 - 1)) (((wDay od a b z i) (max 1 (i + 1 - 1))) + (od (i + 1) * a))) (min 8 (i + 1 + 1))) + (od (i + 1) * b))) (i + 1)) + (od (i + 1) * (10 - a - b))) = wDay od a b z (i + 1) from rfl]
          exact ih (i + 1) (by omega)
      · refine g_iconst (v := nI 1) dX8_channel_142 (by decide) ?_
        refine g_goto (tgt := 150) dX8_channel_143 (by decide) ?_
        refine g_topi (y := nI (max 1 (i + 1 - 1))) (congrArg nI (by omega)) ?_
        refine g_dup2 dX8_channel_150 rfl rfl ?_
        refine n_lald (x := (max 1 (i + 1 - 1))) rfl (by omega) (rng_lit 10 rfl) dX8_channel_151 ?_
        refine g_iload_n (i := 3) (j := 3) dX8_channel_152 rfl rfl ?_
        refine g_i2l (v := lN a) dX8_channel_153 (nI_l (by omega)) ?_
        refine g_aload_n (i := 0) (j := 0) dX8_channel_154 rfl rfl ?_
        refine g_get fX8_60 rfl rfl dX8_channel_155 ?_
        refine g_iload (j := 8) dX8_channel_158 rfl ?_
        refine n_lald (x := (i + 1)) rfl (by omega) (rng_lit 10 rfl) dX8_channel_160 ?_
        refine g_lmul dX8_channel_161 ?_
        refine g_topl (y := (lN (a * (od (i + 1))))) (lN_mul _ _) ?_
        refine g_topl (y := lN (od (i + 1) * a)) (by rw [Nat.mul_comm]) ?_
        refine g_ladd dX8_channel_162 ?_
        refine g_topl (y := (lN (((wDay od a b z i) (max 1 (i + 1 - 1))) + (od (i + 1) * a)))) (lN_add _ _) ?_
        refine n_last (x := (max 1 (i + 1 - 1))) (ws' := wM (kM 0 ts pl lo ri la wk tw sf rl rr re rw rt rs ac sd ce sa ti) e1 e2 e3 e4 e5 e6 e7 e8 e9 e10 e11 e12 e13 e14 e15 (kJ 10 od) (kJ 10 (va_up (wDay od a b z i) (max 1 (i + 1 - 1)) (((wDay od a b z i) (max 1 (i + 1 - 1))) + (od (i + 1) * a))))) rfl (by omega) (rng_lit 10 rfl) dX8_channel_163 rfl ?_
        refine g_aload_n (i := 0) (j := 0) dX8_channel_164 rfl rfl ?_
        refine g_get fX8_64 rfl rfl dX8_channel_165 ?_
        refine g_iload (j := 8) dX8_channel_168 rfl ?_
        refine g_bipush (v := nI 8) dX8_channel_170 (by decide) ?_
        refine n_icmp_ne (tgt := 180) (by omega) (rng_lit 8 rfl) dX8_channel_172 (by decide) (fun h172 => ?_) (fun h172 => ?_)
        · refine g_iload (j := 8) dX8_channel_180 rfl ?_
          refine g_iconst (v := nI 1) dX8_channel_182 (by decide) ?_
          refine n_iadd (a := (i + 1)) (b := 1) dX8_channel_183 ?_
          refine g_topi (y := nI (min 8 (i + 1 + 1))) (congrArg nI (by omega)) ?_
          refine g_dup2 dX8_channel_184 rfl rfl ?_
          refine n_lald (x := (min 8 (i + 1 + 1))) rfl (by omega) (rng_lit 10 rfl) dX8_channel_185 ?_
          refine g_iload (j := 4) dX8_channel_186 rfl ?_
          refine g_i2l (v := lN b) dX8_channel_188 (nI_l (by omega)) ?_
          refine g_aload_n (i := 0) (j := 0) dX8_channel_189 rfl rfl ?_
          refine g_get fX8_60 rfl rfl dX8_channel_190 ?_
          refine g_iload (j := 8) dX8_channel_193 rfl ?_
          refine n_lald (x := (i + 1)) rfl (by omega) (rng_lit 10 rfl) dX8_channel_195 ?_
          refine g_lmul dX8_channel_196 ?_
          refine g_topl (y := (lN (b * (od (i + 1))))) (lN_mul _ _) ?_
          refine g_topl (y := lN (od (i + 1) * b)) (by rw [Nat.mul_comm]) ?_
          refine g_ladd dX8_channel_197 ?_
          refine g_topl (y := (lN (((va_up (wDay od a b z i) (max 1 (i + 1 - 1)) (((wDay od a b z i) (max 1 (i + 1 - 1))) + (od (i + 1) * a))) (min 8 (i + 1 + 1))) + (od (i + 1) * b)))) (lN_add _ _) ?_
          refine n_last (x := (min 8 (i + 1 + 1))) (ws' := wM (kM 0 ts pl lo ri la wk tw sf rl rr re rw rt rs ac sd ce sa ti) e1 e2 e3 e4 e5 e6 e7 e8 e9 e10 e11 e12 e13 e14 e15 (kJ 10 od) (kJ 10 (va_up (va_up (wDay od a b z i) (max 1 (i + 1 - 1)) (((wDay od a b z i) (max 1 (i + 1 - 1))) + (od (i + 1) * a))) (min 8 (i + 1 + 1)) (((va_up (wDay od a b z i) (max 1 (i + 1 - 1)) (((wDay od a b z i) (max 1 (i + 1 - 1))) + (od (i + 1) * a))) (min 8 (i + 1 + 1))) + (od (i + 1) * b))))) rfl (by omega) (rng_lit 10 rfl) dX8_channel_198 rfl ?_
          refine g_aload_n (i := 0) (j := 0) dX8_channel_199 rfl rfl ?_
          refine g_get fX8_64 rfl rfl dX8_channel_200 ?_
          refine g_iload (j := 8) dX8_channel_203 rfl ?_
          refine g_dup2 dX8_channel_205 rfl rfl ?_
          refine n_lald (x := (i + 1)) rfl (by omega) (rng_lit 10 rfl) dX8_channel_206 ?_
          refine g_bipush (v := nI 10) dX8_channel_207 (by decide) ?_
          refine g_iload_n (i := 3) (j := 3) dX8_channel_209 rfl rfl ?_
          refine n_isub (a := 10) (b := a) (by omega) dX8_channel_210 ?_
          refine g_iload (j := 4) dX8_channel_211 rfl ?_
          refine n_isub (a := (10 - a)) (b := b) (by omega) dX8_channel_213 ?_
          refine g_i2l (v := lN ((10 - a) - b)) dX8_channel_214 (nI_l (by omega)) ?_
          refine g_aload_n (i := 0) (j := 0) dX8_channel_215 rfl rfl ?_
          refine g_get fX8_60 rfl rfl dX8_channel_216 ?_
          refine g_iload (j := 8) dX8_channel_219 rfl ?_
          refine n_lald (x := (i + 1)) rfl (by omega) (rng_lit 10 rfl) dX8_channel_221 ?_
          refine g_lmul dX8_channel_222 ?_
          refine g_topl (y := (lN (((10 - a) - b) * (od (i + 1))))) (lN_mul _ _) ?_
          refine g_topl (y := lN (od (i + 1) * (10 - a - b))) (by rw [Nat.mul_comm]) ?_
          refine g_ladd dX8_channel_223 ?_
          refine g_topl (y := (lN (((va_up (va_up (wDay od a b z i) (max 1 (i + 1 - 1)) (((wDay od a b z i) (max 1 (i + 1 - 1))) + (od (i + 1) * a))) (min 8 (i + 1 + 1)) (((va_up (wDay od a b z i) (max 1 (i + 1 - 1)) (((wDay od a b z i) (max 1 (i + 1 - 1))) + (od (i + 1) * a))) (min 8 (i + 1 + 1))) + (od (i + 1) * b))) (i + 1)) + (od (i + 1) * (10 - a - b))))) (lN_add _ _) ?_
          refine n_last (x := (i + 1)) (ws' := wM (kM 0 ts pl lo ri la wk tw sf rl rr re rw rt rs ac sd ce sa ti) e1 e2 e3 e4 e5 e6 e7 e8 e9 e10 e11 e12 e13 e14 e15 (kJ 10 od) (kJ 10 (va_up (va_up (va_up (wDay od a b z i) (max 1 (i + 1 - 1)) (((wDay od a b z i) (max 1 (i + 1 - 1))) + (od (i + 1) * a))) (min 8 (i + 1 + 1)) (((va_up (wDay od a b z i) (max 1 (i + 1 - 1)) (((wDay od a b z i) (max 1 (i + 1 - 1))) + (od (i + 1) * a))) (min 8 (i + 1 + 1))) + (od (i + 1) * b))) (i + 1) (((va_up (va_up (wDay od a b z i) (max 1 (i + 1 - 1)) (((wDay od a b z i) (max 1 (i + 1 - 1))) + (od (i + 1) * a))) (min 8 (i + 1 + 1)) (((va_up (wDay od a b z i) (max 1 (i + 1 - 1)) (((wDay od a b z i) (max 1 (i + 1 - 1))) + (od (i + 1) * a))) (min 8 (i + 1 + 1))) + (od (i + 1) * b))) (i + 1)) + (od (i + 1) * (10 - a - b)))))) rfl (by omega) (rng_lit 10 rfl) dX8_channel_224 rfl ?_
          refine n_inc (x := (i + 1)) (j := 8) (lv' := [(8, .int (nI ((i + 1) + 1))), (0, .ref 0), (1, .int (nI c)), (2, .int (nI d)), (3, .int (nI a)), (4, .int (nI b)), (5, .int (nI n)), (6, .int (nI up)), (7, .int (nI day))]) dX8_channel_225 rfl (by decide) rfl ?_
          refine g_goto (tgt := 125) dX8_channel_228 (by decide) ?_
          refine g_lv [1, 2, 3, 4, 5, 6, 7, 8, 0] rfl ?_
          rw [show va_up (va_up (va_up (wDay od a b z i) (max 1 (i + 1 - 1)) (((wDay od a b z i) (max 1 (i + 1 - 1))) + (od (i + 1) * a))) (min 8 (i + 1 + 1)) (((va_up (wDay od a b z i) (max 1 (i + 1 - 1)) (((wDay od a b z i) (max 1 (i + 1 - 1))) + (od (i + 1) * a))) (min 8 (i + 1 + 1))) + (od (i + 1) * b))) (i + 1) (((va_up (va_up (wDay od a b z i) (max 1 (i + 1 - 1)) (((wDay od a b z i) (max 1 (i + 1 - 1))) + (od (i + 1) * a))) (min 8 (i + 1 + 1)) (((va_up (wDay od a b z i) (max 1 (i + 1 - 1)) (((wDay od a b z i) (max 1 (i + 1 - 1))) + (od (i + 1) * a))) (min 8 (i + 1 + 1))) + (od (i + 1) * b))) (i + 1)) + (od (i + 1) * (10 - a - b))) = wDay od a b z (i + 1) from rfl]
          exact ih (i + 1) (by omega)
        · refine g_bipush (v := nI 8) dX8_channel_175 (by decide) ?_
          refine g_goto (tgt := 184) dX8_channel_177 (by decide) ?_
          refine g_topi (y := nI (min 8 (i + 1 + 1))) (congrArg nI (by omega)) ?_
          refine g_dup2 dX8_channel_184 rfl rfl ?_
          refine n_lald (x := (min 8 (i + 1 + 1))) rfl (by omega) (rng_lit 10 rfl) dX8_channel_185 ?_
          refine g_iload (j := 4) dX8_channel_186 rfl ?_
          refine g_i2l (v := lN b) dX8_channel_188 (nI_l (by omega)) ?_
          refine g_aload_n (i := 0) (j := 0) dX8_channel_189 rfl rfl ?_
          refine g_get fX8_60 rfl rfl dX8_channel_190 ?_
          refine g_iload (j := 8) dX8_channel_193 rfl ?_
          refine n_lald (x := (i + 1)) rfl (by omega) (rng_lit 10 rfl) dX8_channel_195 ?_
          refine g_lmul dX8_channel_196 ?_
          refine g_topl (y := (lN (b * (od (i + 1))))) (lN_mul _ _) ?_
          refine g_topl (y := lN (od (i + 1) * b)) (by rw [Nat.mul_comm]) ?_
          refine g_ladd dX8_channel_197 ?_
          refine g_topl (y := (lN (((va_up (wDay od a b z i) (max 1 (i + 1 - 1)) (((wDay od a b z i) (max 1 (i + 1 - 1))) + (od (i + 1) * a))) (min 8 (i + 1 + 1))) + (od (i + 1) * b)))) (lN_add _ _) ?_
          refine n_last (x := (min 8 (i + 1 + 1))) (ws' := wM (kM 0 ts pl lo ri la wk tw sf rl rr re rw rt rs ac sd ce sa ti) e1 e2 e3 e4 e5 e6 e7 e8 e9 e10 e11 e12 e13 e14 e15 (kJ 10 od) (kJ 10 (va_up (va_up (wDay od a b z i) (max 1 (i + 1 - 1)) (((wDay od a b z i) (max 1 (i + 1 - 1))) + (od (i + 1) * a))) (min 8 (i + 1 + 1)) (((va_up (wDay od a b z i) (max 1 (i + 1 - 1)) (((wDay od a b z i) (max 1 (i + 1 - 1))) + (od (i + 1) * a))) (min 8 (i + 1 + 1))) + (od (i + 1) * b))))) rfl (by omega) (rng_lit 10 rfl) dX8_channel_198 rfl ?_
          refine g_aload_n (i := 0) (j := 0) dX8_channel_199 rfl rfl ?_
          refine g_get fX8_64 rfl rfl dX8_channel_200 ?_
          refine g_iload (j := 8) dX8_channel_203 rfl ?_
          refine g_dup2 dX8_channel_205 rfl rfl ?_
          refine n_lald (x := (i + 1)) rfl (by omega) (rng_lit 10 rfl) dX8_channel_206 ?_
          refine g_bipush (v := nI 10) dX8_channel_207 (by decide) ?_
          refine g_iload_n (i := 3) (j := 3) dX8_channel_209 rfl rfl ?_
          refine n_isub (a := 10) (b := a) (by omega) dX8_channel_210 ?_
          refine g_iload (j := 4) dX8_channel_211 rfl ?_
          refine n_isub (a := (10 - a)) (b := b) (by omega) dX8_channel_213 ?_
          refine g_i2l (v := lN ((10 - a) - b)) dX8_channel_214 (nI_l (by omega)) ?_
          refine g_aload_n (i := 0) (j := 0) dX8_channel_215 rfl rfl ?_
          refine g_get fX8_60 rfl rfl dX8_channel_216 ?_
          refine g_iload (j := 8) dX8_channel_219 rfl ?_
          refine n_lald (x := (i + 1)) rfl (by omega) (rng_lit 10 rfl) dX8_channel_221 ?_
          refine g_lmul dX8_channel_222 ?_
          refine g_topl (y := (lN (((10 - a) - b) * (od (i + 1))))) (lN_mul _ _) ?_
          refine g_topl (y := lN (od (i + 1) * (10 - a - b))) (by rw [Nat.mul_comm]) ?_
          refine g_ladd dX8_channel_223 ?_
          refine g_topl (y := (lN (((va_up (va_up (wDay od a b z i) (max 1 (i + 1 - 1)) (((wDay od a b z i) (max 1 (i + 1 - 1))) + (od (i + 1) * a))) (min 8 (i + 1 + 1)) (((va_up (wDay od a b z i) (max 1 (i + 1 - 1)) (((wDay od a b z i) (max 1 (i + 1 - 1))) + (od (i + 1) * a))) (min 8 (i + 1 + 1))) + (od (i + 1) * b))) (i + 1)) + (od (i + 1) * (10 - a - b))))) (lN_add _ _) ?_
          refine n_last (x := (i + 1)) (ws' := wM (kM 0 ts pl lo ri la wk tw sf rl rr re rw rt rs ac sd ce sa ti) e1 e2 e3 e4 e5 e6 e7 e8 e9 e10 e11 e12 e13 e14 e15 (kJ 10 od) (kJ 10 (va_up (va_up (va_up (wDay od a b z i) (max 1 (i + 1 - 1)) (((wDay od a b z i) (max 1 (i + 1 - 1))) + (od (i + 1) * a))) (min 8 (i + 1 + 1)) (((va_up (wDay od a b z i) (max 1 (i + 1 - 1)) (((wDay od a b z i) (max 1 (i + 1 - 1))) + (od (i + 1) * a))) (min 8 (i + 1 + 1))) + (od (i + 1) * b))) (i + 1) (((va_up (va_up (wDay od a b z i) (max 1 (i + 1 - 1)) (((wDay od a b z i) (max 1 (i + 1 - 1))) + (od (i + 1) * a))) (min 8 (i + 1 + 1)) (((va_up (wDay od a b z i) (max 1 (i + 1 - 1)) (((wDay od a b z i) (max 1 (i + 1 - 1))) + (od (i + 1) * a))) (min 8 (i + 1 + 1))) + (od (i + 1) * b))) (i + 1)) + (od (i + 1) * (10 - a - b)))))) rfl (by omega) (rng_lit 10 rfl) dX8_channel_224 rfl ?_
          refine n_inc (x := (i + 1)) (j := 8) (lv' := [(8, .int (nI ((i + 1) + 1))), (0, .ref 0), (1, .int (nI c)), (2, .int (nI d)), (3, .int (nI a)), (4, .int (nI b)), (5, .int (nI n)), (6, .int (nI up)), (7, .int (nI day))]) dX8_channel_225 rfl (by decide) rfl ?_
          refine g_goto (tgt := 125) dX8_channel_228 (by decide) ?_
          refine g_lv [1, 2, 3, 4, 5, 6, 7, 8, 0] rfl ?_
          rw [show va_up (va_up (va_up (wDay od a b z i) (max 1 (i + 1 - 1)) (((wDay od a b z i) (max 1 (i + 1 - 1))) + (od (i + 1) * a))) (min 8 (i + 1 + 1)) (((va_up (wDay od a b z i) (max 1 (i + 1 - 1)) (((wDay od a b z i) (max 1 (i + 1 - 1))) + (od (i + 1) * a))) (min 8 (i + 1 + 1))) + (od (i + 1) * b))) (i + 1) (((va_up (va_up (wDay od a b z i) (max 1 (i + 1 - 1)) (((wDay od a b z i) (max 1 (i + 1 - 1))) + (od (i + 1) * a))) (min 8 (i + 1 + 1)) (((va_up (wDay od a b z i) (max 1 (i + 1 - 1)) (((wDay od a b z i) (max 1 (i + 1 - 1))) + (od (i + 1) * a))) (min 8 (i + 1 + 1))) + (od (i + 1) * b))) (i + 1)) + (od (i + 1) * (10 - a - b))) = wDay od a b z (i + 1) from rfl]
          exact ih (i + 1) (by omega)

theorem lp_chB {e1 e2 e3 e4 e5 e6 e7 e8 e9 e10 e11 e12 e13 e14 e15 : va_E} {ts pl lo ri la wk tw sf : Nat} {rl rr re : Int32} {rw rt rs ac : Nat} {sd : Int64} {ce sa ti : Nat} {c d a b n up : Nat} (hc : 1 ≤ c ∧ c ≤ 8) (hd : 1 ≤ d ∧ d ≤ 8) (hab : a + b ≤ 10) (hn : n ≤ 5) (hu : up ≤ 1) {od cm : Nat → Nat} {day : Nat} {Post : Option Value → List va_E → Prop} (kn : Go mX8_channel 2 122 [(0, .ref 0), (1, .int (nI c)), (2, .int (nI d)), (3, .int (nI a)), (4, .int (nI b)), (5, .int (nI n)), (6, .int (nI up)), (7, .int (nI day))] [] (wM (kM 0 ts pl lo ri la wk tw sf rl rr re rw rt rs ac sd ce sa ti) e1 e2 e3 e4 e5 e6 e7 e8 e9 e10 e11 e12 e13 e14 e15 (kJ 10 od) (kJ 10 (cpf 10 fZ cm))) Post) : ∀ (m i : Nat), i + m = 10 → Go mX8_channel 2 101 [(0, .ref 0), (1, .int (nI c)), (2, .int (nI d)), (3, .int (nI a)), (4, .int (nI b)), (5, .int (nI n)), (6, .int (nI up)), (7, .int (nI day)), (8, .int (nI i))] [] (wM (kM 0 ts pl lo ri la wk tw sf rl rr re rw rt rs ac sd ce sa ti) e1 e2 e3 e4 e5 e6 e7 e8 e9 e10 e11 e12 e13 e14 e15 (kJ 10 od) (kJ 10 (cpf i fZ cm))) Post := by
  intro m
  induction m with
  | zero =>
    intro i hi
    obtain rfl : i = 10 := by omega
    refine g_iload (j := 8) dX8_channel_101 rfl ?_
    refine g_bipush (v := nI 10) dX8_channel_103 (by decide) ?_
    refine n_icmp_ge (tgt := 122) (rng_lit 10 rfl) (rng_lit 10 rfl) dX8_channel_105 (by decide) (fun h105 => ?_) (fun h105 => ?_)
    · refine g_lv [0, 1, 2, 3, 4, 5, 6, 7] rfl ?_
      exact kn
    · exact absurd h105 (by decide)

  | succ m ih =>
    intro i hi
    refine g_iload (j := 8) dX8_channel_101 rfl ?_
    refine g_bipush (v := nI 10) dX8_channel_103 (by decide) ?_
    refine n_icmp_ge (tgt := 122) (by omega) (rng_lit 10 rfl) dX8_channel_105 (by decide) (fun h105 => ?_) (fun h105 => ?_)
    · exfalso; omega
    · refine g_aload_n (i := 0) (j := 0) dX8_channel_108 rfl rfl ?_
      refine g_get fX8_64 rfl rfl dX8_channel_109 ?_
      refine g_iload (j := 8) dX8_channel_112 rfl ?_
      refine g_lconst (v := lN 0) dX8_channel_114 (by decide) ?_
      refine n_last (x := i) (ws' := wM (kM 0 ts pl lo ri la wk tw sf rl rr re rw rt rs ac sd ce sa ti) e1 e2 e3 e4 e5 e6 e7 e8 e9 e10 e11 e12 e13 e14 e15 (kJ 10 od) (kJ 10 (va_up (cpf i fZ cm) i 0))) rfl (by omega) (rng_lit 10 rfl) dX8_channel_115 rfl ?_
      refine n_inc (x := i) (j := 8) (lv' := [(8, .int (nI (i + 1))), (0, .ref 0), (1, .int (nI c)), (2, .int (nI d)), (3, .int (nI a)), (4, .int (nI b)), (5, .int (nI n)), (6, .int (nI up)), (7, .int (nI day))]) dX8_channel_116 rfl (by decide) rfl ?_
      refine g_goto (tgt := 101) dX8_channel_119 (by decide) ?_
      refine g_lv [1, 2, 3, 4, 5, 6, 7, 8, 0] rfl ?_
      rw [show va_up (cpf i fZ cm) i 0 = cpf (i + 1) fZ cm from cpf_s i fZ cm]
      exact ih (i + 1) (by omega)

theorem lp_chDay {e1 e2 e3 e4 e5 e6 e7 e8 e9 e10 e11 e12 e13 e14 e15 : va_E} {ts pl lo ri la wk tw sf : Nat} {rl rr re : Int32} {rw rt rs ac : Nat} {sd : Int64} {ce sa ti : Nat} {c d a b n up : Nat} (hc : 1 ≤ c ∧ c ≤ 8) (hd : 1 ≤ d ∧ d ≤ 8) (hab : a + b ≤ 10) (hn : n ≤ 5) (hu : up ≤ 1) : ∀ (m day : Nat) (od cm : Nat → Nat), day + m = n → eq10 od (sOdds c a b day) → Go mX8_channel 2 91 [(0, .ref 0), (1, .int (nI c)), (2, .int (nI d)), (3, .int (nI a)), (4, .int (nI b)), (5, .int (nI n)), (6, .int (nI up)), (7, .int (nI day))] [] (wM (kM 0 ts pl lo ri la wk tw sf rl rr re rw rt rs ac sd ce sa ti) e1 e2 e3 e4 e5 e6 e7 e8 e9 e10 e11 e12 e13 e14 e15 (kJ 10 od) (kJ 10 cm)) (fun v u => v = some (.int (nI (sTold (sOdds c a b n d) (10 ^ n) up))) ∧ ∃ od2 cm2 : Nat → Nat, u = wM (kM 0 ts pl lo ri la wk tw sf rl rr re rw rt rs ac sd ce sa ti) e1 e2 e3 e4 e5 e6 e7 e8 e9 e10 e11 e12 e13 e14 e15 (kJ 10 od2) (kJ 10 cm2)) := by
  intro m
  have qn : 10 ^ n ≤ 10 ^ 5 := Nat.pow_le_pow_right (by omega) hn
  have qn2 : 0 < 10 ^ n := Nat.pow_pos (by omega)
  induction m with
  | zero =>
    intro day od cm hm he
    obtain rfl : day = n := by omega
    have qd : od d ≤ 100000 := by rw [he d (by omega)]; exact tot_0 hab hc.1 hc.2 hd.1 hd.2 hn
    refine g_iload (j := 7) dX8_channel_91 rfl ?_
    refine g_iload (j := 5) dX8_channel_93 rfl ?_
    refine n_icmp_ge (tgt := 267) (by omega) (by omega) dX8_channel_95 (by decide) (fun h95 => ?_) (fun h95 => ?_)
    · refine g_aload_n (i := 0) (j := 0) dX8_channel_267 rfl rfl ?_
      refine g_get fX8_60 rfl rfl dX8_channel_268 ?_
      refine g_iload_n (i := 2) (j := 2) dX8_channel_271 rfl rfl ?_
      refine n_lald (x := d) rfl (by omega) (rng_lit 10 rfl) dX8_channel_272 ?_
      refine g_iload (j := 5) dX8_channel_273 rfl ?_
      refine c_S (st1 := [.int (nI (10 ^ day)), .long (lN (od d))]) (ctX8_ten (n := day) (by omega)) kX8_ten lX8_211 (by decide) rfl (by exact Nat.le_of_ble_eq_true rfl) dX8_channel_275 rfl rfl ?_
      refine g_i2l (v := lN (10 ^ day)) dX8_channel_278 (nI_l (by omega)) ?_
      refine g_iload (j := 6) dX8_channel_279 rfl ?_
      refine c_S (st1 := [.int (nI (sTold (od d) (10 ^ day) up))]) (ctX8_fraction (a := od d) (b := 10 ^ day) (u := up) (by omega) (by omega) (by omega) (by omega)) kX8_fraction lX8_234 (by decide) rfl (by exact Nat.le_of_ble_eq_true rfl) dX8_channel_281 rfl rfl ?_
      refine g_iret rfl rfl dX8_channel_284 ?_
      refine ⟨?_, _, _, rfl⟩
      rw [he d (by omega)]
    · exfalso; omega

  | succ m ih =>
    intro day od cm hm he
    refine g_iload (j := 7) dX8_channel_91 rfl ?_
    refine g_iload (j := 5) dX8_channel_93 rfl ?_
    refine n_icmp_ge (tgt := 267) (by omega) (by omega) dX8_channel_95 (by decide) (fun h95 => ?_) (fun h95 => ?_)
    · exfalso; omega
    · refine g_iconst (v := nI 0) dX8_channel_98 (by decide) ?_
      refine g_istore (lv' := [(8, .int (nI 0)), (0, .ref 0), (1, .int (nI c)), (2, .int (nI d)), (3, .int (nI a)), (4, .int (nI b)), (5, .int (nI n)), (6, .int (nI up)), (7, .int (nI day))]) dX8_channel_99 (by decide) rfl ?_
      refine g_lv [1, 2, 3, 4, 5, 6, 7, 8, 0] rfl ?_
      rw [show cm = cpf 0 fZ cm from (cpf_0 _ _).symm]
      refine lp_chB hc hd hab hn hu ?_ 10 0 (by omega)
      refine g_iconst (v := nI 1) dX8_channel_122 (by decide) ?_
      refine g_istore (lv' := [(8, .int (nI 1)), (0, .ref 0), (1, .int (nI c)), (2, .int (nI d)), (3, .int (nI a)), (4, .int (nI b)), (5, .int (nI n)), (6, .int (nI up)), (7, .int (nI day))]) dX8_channel_123 (by decide) rfl ?_
      refine g_lv [1, 2, 3, 4, 5, 6, 7, 8, 0] rfl ?_
      refine lp_chC hc hd hab hn hu (z := cpf 10 fZ cm) ?_ 8 0 (by omega)
      refine g_iconst (v := nI 0) dX8_channel_231 (by decide) ?_
      refine g_istore (lv' := [(8, .int (nI 0)), (0, .ref 0), (1, .int (nI c)), (2, .int (nI d)), (3, .int (nI a)), (4, .int (nI b)), (5, .int (nI n)), (6, .int (nI up)), (7, .int (nI day))]) dX8_channel_232 (by decide) rfl ?_
      refine g_lv [1, 2, 3, 4, 5, 6, 7, 8, 0] rfl ?_
      have e0 : od = cpf 0 (wDay od a b (cpf 10 fZ cm) 8) od := (cpf_0 _ _).symm
      suffices hh : Go mX8_channel 2 234 [(0, .ref 0), (1, .int (nI c)), (2, .int (nI d)), (3, .int (nI a)), (4, .int (nI b)), (5, .int (nI n)), (6, .int (nI up)), (7, .int (nI day)), (8, .int (nI 0))] [] (wM (kM 0 ts pl lo ri la wk tw sf rl rr re rw rt rs ac sd ce sa ti) e1 e2 e3 e4 e5 e6 e7 e8 e9 e10 e11 e12 e13 e14 e15 (kJ 10 (cpf 0 (wDay od a b (cpf 10 fZ cm) 8) od)) (kJ 10 (wDay od a b (cpf 10 fZ cm) 8))) (fun v u => v = some (.int (nI (sTold (sOdds c a b n d) (10 ^ n) up))) ∧ ∃ od2 cm2 : Nat → Nat, u = wM (kM 0 ts pl lo ri la wk tw sf rl rr re rw rt rs ac sd ce sa ti) e1 e2 e3 e4 e5 e6 e7 e8 e9 e10 e11 e12 e13 e14 e15 (kJ 10 od2) (kJ 10 cm2)) by rw [cpf_0] at hh; exact hh
      refine lp_chD hc hd hab hn hu ?_ 10 0 (by omega)
      refine n_inc (x := day) (j := 7) (lv' := [(7, .int (nI (day + 1))), (0, .ref 0), (1, .int (nI c)), (2, .int (nI d)), (3, .int (nI a)), (4, .int (nI b)), (5, .int (nI n)), (6, .int (nI up))]) dX8_channel_261 rfl (by decide) rfl ?_
      refine g_goto (tgt := 91) dX8_channel_264 (by decide) ?_
      refine g_lv [1, 2, 3, 4, 5, 6, 7, 0] rfl ?_
      refine ih (day + 1) _ _ (by omega) (fun j hj => ?_)
      show cpf 10 _ od j = wDay (sOdds c a b day) a b (fun _ => 0) 8 j
      rw [show cpf 10 (wDay od a b (cpf 10 fZ cm) 8) od j = wDay od a b (cpf 10 fZ cm) 8 j from if_pos hj]
      exact wDay_congr he (fun q hq => if_pos hq) 8 (by omega) j hj

theorem lp_chA {e1 e2 e3 e4 e5 e6 e7 e8 e9 e10 e11 e12 e13 e14 e15 : va_E} {ts pl lo ri la wk tw sf : Nat} {rl rr re : Int32} {rw rt rs ac : Nat} {sd : Int64} {ce sa ti : Nat} {c d a b n up : Nat} (hc : 1 ≤ c ∧ c ≤ 8) (hd : 1 ≤ d ∧ d ≤ 8) (hab : a + b ≤ 10) (hn : n ≤ 5) (hu : up ≤ 1) {od cm : Nat → Nat} {Post : Option Value → List va_E → Prop} (kn : Go mX8_channel 2 88 [(0, .ref 0), (1, .int (nI c)), (2, .int (nI d)), (3, .int (nI a)), (4, .int (nI b)), (5, .int (nI n)), (6, .int (nI up))] [] (wM (kM 0 ts pl lo ri la wk tw sf rl rr re rw rt rs ac sd ce sa ti) e1 e2 e3 e4 e5 e6 e7 e8 e9 e10 e11 e12 e13 e14 e15 (kJ 10 (cpf 10 (fC c) od)) (kJ 10 cm)) Post) : ∀ (m i : Nat), i + m = 10 → Go mX8_channel 2 57 [(0, .ref 0), (1, .int (nI c)), (2, .int (nI d)), (3, .int (nI a)), (4, .int (nI b)), (5, .int (nI n)), (6, .int (nI up)), (7, .int (nI i))] [] (wM (kM 0 ts pl lo ri la wk tw sf rl rr re rw rt rs ac sd ce sa ti) e1 e2 e3 e4 e5 e6 e7 e8 e9 e10 e11 e12 e13 e14 e15 (kJ 10 (cpf i (fC c) od)) (kJ 10 cm)) Post := by
  intro m
  induction m with
  | zero =>
    intro i hi
    obtain rfl : i = 10 := by omega
    refine g_iload (j := 7) dX8_channel_57 rfl ?_
    refine g_bipush (v := nI 10) dX8_channel_59 (by decide) ?_
    refine n_icmp_ge (tgt := 88) (rng_lit 10 rfl) (rng_lit 10 rfl) dX8_channel_61 (by decide) (fun h61 => ?_) (fun h61 => ?_)
    · refine g_lv [0, 1, 2, 3, 4, 5, 6] rfl ?_
      exact kn
    · exact absurd h61 (by decide)

  | succ m ih =>
    intro i hi
    refine g_iload (j := 7) dX8_channel_57 rfl ?_
    refine g_bipush (v := nI 10) dX8_channel_59 (by decide) ?_
    refine n_icmp_ge (tgt := 88) (by omega) (rng_lit 10 rfl) dX8_channel_61 (by decide) (fun h61 => ?_) (fun h61 => ?_)
    · exfalso; omega
    · refine g_aload_n (i := 0) (j := 0) dX8_channel_64 rfl rfl ?_
      refine g_get fX8_60 rfl rfl dX8_channel_65 ?_
      refine g_iload (j := 7) dX8_channel_68 rfl ?_
      refine g_iload (j := 7) dX8_channel_70 rfl ?_
      refine g_iload_n (i := 1) (j := 1) dX8_channel_72 rfl rfl ?_
      refine n_icmp_ne (tgt := 80) (by omega) (by omega) dX8_channel_73 (by decide) (fun h73 => ?_) (fun h73 => ?_)
      · refine g_lconst (v := lN 0) dX8_channel_80 (by decide) ?_
        refine g_topl (y := lN (fC c i)) (congrArg lN (by unfold fC; first | rw [if_pos h73] | rw [if_neg h73])) ?_
        refine n_last (x := i) (ws' := wM (kM 0 ts pl lo ri la wk tw sf rl rr re rw rt rs ac sd ce sa ti) e1 e2 e3 e4 e5 e6 e7 e8 e9 e10 e11 e12 e13 e14 e15 (kJ 10 (va_up (cpf i (fC c) od) i (fC c i))) (kJ 10 cm)) rfl (by omega) (rng_lit 10 rfl) dX8_channel_81 rfl ?_
        refine n_inc (x := i) (j := 7) (lv' := [(7, .int (nI (i + 1))), (0, .ref 0), (1, .int (nI c)), (2, .int (nI d)), (3, .int (nI a)), (4, .int (nI b)), (5, .int (nI n)), (6, .int (nI up))]) dX8_channel_82 rfl (by decide) rfl ?_
        refine g_goto (tgt := 57) dX8_channel_85 (by decide) ?_
        refine g_lv [1, 2, 3, 4, 5, 6, 7, 0] rfl ?_
        rw [show va_up (cpf i (fC c) od) i (fC c i) = cpf (i + 1) (fC c) od from cpf_s i (fC c) od]
        exact ih (i + 1) (by omega)
      · refine g_lconst (v := lN 1) dX8_channel_76 (by decide) ?_
        refine g_goto (tgt := 81) dX8_channel_77 (by decide) ?_
        refine g_topl (y := lN (fC c i)) (congrArg lN (by unfold fC; first | rw [if_pos h73] | rw [if_neg h73])) ?_
        refine n_last (x := i) (ws' := wM (kM 0 ts pl lo ri la wk tw sf rl rr re rw rt rs ac sd ce sa ti) e1 e2 e3 e4 e5 e6 e7 e8 e9 e10 e11 e12 e13 e14 e15 (kJ 10 (va_up (cpf i (fC c) od) i (fC c i))) (kJ 10 cm)) rfl (by omega) (rng_lit 10 rfl) dX8_channel_81 rfl ?_
        refine n_inc (x := i) (j := 7) (lv' := [(7, .int (nI (i + 1))), (0, .ref 0), (1, .int (nI c)), (2, .int (nI d)), (3, .int (nI a)), (4, .int (nI b)), (5, .int (nI n)), (6, .int (nI up))]) dX8_channel_82 rfl (by decide) rfl ?_
        refine g_goto (tgt := 57) dX8_channel_85 (by decide) ?_
        refine g_lv [1, 2, 3, 4, 5, 6, 7, 0] rfl ?_
        rw [show va_up (cpf i (fC c) od) i (fC c i) = cpf (i + 1) (fC c) od from cpf_s i (fC c) od]
        exact ih (i + 1) (by omega)

theorem pos_of {x : Int32} {n : Nat} (h : iW x n ∧ ¬ x = nI 0) : ∃ k : Nat, 1 ≤ k ∧ k < n ∧ x = nI k := by
  obtain ⟨k, hk, rfl⟩ := raw_lt h.1
  rcases Nat.eq_zero_or_pos k with rfl | hp
  · exact absurd rfl h.2
  · exact ⟨k, hp, hk, rfl⟩
theorem ctX8_channel {e1 e2 e3 e4 e5 e6 e7 e8 e9 e10 e11 e12 e13 e14 e15 : va_E} {ts pl lo ri la wk tw sf : Nat} {rl rr re : Int32} {rw rt rs ac : Nat} {sd : Int64} {ce sa ti : Nat} {od cm : Nat → Nat} {c0 d0 a0 b0 n0 : Int32} {up : Nat} (hu : up ≤ 1) : Ct mX8_channel 2 [.ref 0, .int c0, .int d0, .int a0, .int b0, .int n0, .int (nI up)] (wM (kM 0 ts pl lo ri la wk tw sf rl rr re rw rt rs ac sd ce sa ti) e1 e2 e3 e4 e5 e6 e7 e8 e9 e10 e11 e12 e13 e14 e15 (kJ 10 od) (kJ 10 cm)) (fun v u => v = some (.int (pChannel c0 d0 a0 b0 n0 up)) ∧ ∃ od2 cm2 : Nat → Nat, u = wM (kM 0 ts pl lo ri la wk tw sf rl rr re rw rt rs ac sd ce sa ti) e1 e2 e3 e4 e5 e6 e7 e8 e9 e10 e11 e12 e13 e14 e15 (kJ 10 od2) (kJ 10 cm2)) := by
  refine Ct.of (by decide) (by exact Nat.le_of_ble_eq_true rfl) ?_
  show Go mX8_channel 2 0 [(0, .ref 0), (1, .int c0), (2, .int d0), (3, .int a0), (4, .int b0), (5, .int n0), (6, .int (nI up))] [] (wM (kM 0 ts pl lo ri la wk tw sf rl rr re rw rt rs ac sd ce sa ti) e1 e2 e3 e4 e5 e6 e7 e8 e9 e10 e11 e12 e13 e14 e15 (kJ 10 od) (kJ 10 cm)) (fun v u => v = some (.int (pChannel c0 d0 a0 b0 n0 up)) ∧ ∃ od2 cm2 : Nat → Nat, u = wM (kM 0 ts pl lo ri la wk tw sf rl rr re rw rt rs ac sd ce sa ti) e1 e2 e3 e4 e5 e6 e7 e8 e9 e10 e11 e12 e13 e14 e15 (kJ 10 od2) (kJ 10 cm2))
  refine g_aload_n (i := 0) (j := 0) dX8_channel_0 rfl rfl ?_
  refine g_iconst (v := nI 0) dX8_channel_1 (by decide) ?_
  refine n_putI (ws' := wM (kM 0 ts pl lo ri la wk tw sf rl rr re rw rt rs ac sd ce sa ti) e1 e2 e3 e4 e5 e6 e7 e8 e9 e10 e11 e12 e13 e14 e15 (kJ 10 od) (kJ 10 cm)) fX8_67 fp_X8_0 rfl (by exact Nat.le_of_ble_eq_true rfl) dX8_channel_2 rfl ?_
  refine g_iload_n (i := 1) (j := 1) dX8_channel_5 rfl rfl ?_
  refine g_i2l dX8_channel_6 rfl ?_
  refine g_lconst (v := lN 1) dX8_channel_7 (by decide) ?_
  refine g_ldc2 clX8_90 dX8_channel_8 ?_
  refine g_st (st' := [.long (lN 8), .long (lN 1), .long c0.toInt64]) rfl ?_
  refine c_S (st1 := [.int (nI (bN (iW c0 9 ∧ ¬ c0 = nI 0)))]) (ctX8_in (P := iW c0 9 ∧ ¬ c0 = nI 0) (in_1 (rng_lit _ rfl) rfl)) kX8_in lX8_73 (by decide) rfl (by exact Nat.le_of_ble_eq_true rfl) dX8_channel_11 rfl rfl ?_
  refine b_if_eq (tgt := 51) dX8_channel_14 (by decide) (fun h14 => ?_) (fun h14 => ?_)
  · refine g_bipush (v := (-2)) dX8_channel_51 (by decide) ?_
    refine g_iret rfl rfl dX8_channel_53 ?_
    refine ⟨?_, _, _, rfl⟩
    unfold pChannel
    rw [if_neg (fun z => by first | exact h14 z.1 | exact h26 z.2.1 | exact h35 z.2.2.1 | exact h48 z.2.2.2)]
  · refine g_iload_n (i := 2) (j := 2) dX8_channel_17 rfl rfl ?_
    refine g_i2l dX8_channel_18 rfl ?_
    refine g_lconst (v := lN 1) dX8_channel_19 (by decide) ?_
    refine g_ldc2 clX8_90 dX8_channel_20 ?_
    refine g_st (st' := [.long (lN 8), .long (lN 1), .long d0.toInt64]) rfl ?_
    refine c_S (st1 := [.int (nI (bN (iW d0 9 ∧ ¬ d0 = nI 0)))]) (ctX8_in (P := iW d0 9 ∧ ¬ d0 = nI 0) (in_1 (rng_lit _ rfl) rfl)) kX8_in lX8_73 (by decide) rfl (by exact Nat.le_of_ble_eq_true rfl) dX8_channel_23 rfl rfl ?_
    refine b_if_eq (tgt := 51) dX8_channel_26 (by decide) (fun h26 => ?_) (fun h26 => ?_)
    · refine g_bipush (v := (-2)) dX8_channel_51 (by decide) ?_
      refine g_iret rfl rfl dX8_channel_53 ?_
      refine ⟨?_, _, _, rfl⟩
      unfold pChannel
      rw [if_neg (fun z => by first | exact h14 z.1 | exact h26 z.2.1 | exact h35 z.2.2.1 | exact h48 z.2.2.2)]
    · refine g_iload_n (i := 3) (j := 3) dX8_channel_29 rfl rfl ?_
      refine g_iload (j := 4) dX8_channel_30 rfl ?_
      refine c_S (st1 := [.int (nI (bN (¬ tenP a0 b0)))]) (ctX8_noTenths  ) kX8_noTenths lX8_229 (by decide) rfl (by exact Nat.le_of_ble_eq_true rfl) dX8_channel_32 rfl rfl ?_
      refine b_if_ne (tgt := 51) dX8_channel_35 (by decide) (fun h35 => ?_) (fun h35 => ?_)
      · refine g_bipush (v := (-2)) dX8_channel_51 (by decide) ?_
        refine g_iret rfl rfl dX8_channel_53 ?_
        refine ⟨?_, _, _, rfl⟩
        unfold pChannel
        rw [if_neg (fun z => by first | exact h14 z.1 | exact h26 z.2.1 | exact h35 z.2.2.1 | exact h48 z.2.2.2)]
      · refine g_iload (j := 5) dX8_channel_38 rfl ?_
        refine g_i2l dX8_channel_40 rfl ?_
        refine g_lconst (v := lN 0) dX8_channel_41 (by decide) ?_
        refine g_ldc2 clX8_232 dX8_channel_42 ?_
        refine g_st (st' := [.long (lN 5), .long (lN 0), .long n0.toInt64]) rfl ?_
        refine c_S (st1 := [.int (nI (bN (iW n0 6)))]) (ctX8_in (P := iW n0 6) (in_0 (rng_lit _ rfl) rfl)) kX8_in lX8_73 (by decide) rfl (by exact Nat.le_of_ble_eq_true rfl) dX8_channel_45 rfl rfl ?_
        refine b_if_ne (tgt := 54) dX8_channel_48 (by decide) (fun h48 => ?_) (fun h48 => ?_)
        · obtain ⟨c, hc1, hc2, rfl⟩ := pos_of h14
          obtain ⟨d, hd1, hd2, rfl⟩ := pos_of h26
          have h35x := Decidable.not_not.mp h35
          obtain ⟨a, ha, rfl⟩ := raw_lt h35x.1
          obtain ⟨b, hb, rfl⟩ := raw_lt h35x.2.1
          have hab := wind_ten ha hb h35x
          obtain ⟨n, hn0, rfl⟩ := raw_lt h48
          have hc : 1 ≤ c ∧ c ≤ 8 := by omega
          have hd : 1 ≤ d ∧ d ≤ 8 := by omega
          have hn : n ≤ 5 := by omega
          unfold pChannel
          rw [if_pos ⟨h14, h26, h35x, h48⟩, cN_n (k := c) (by omega), cN_n (k := d) (by omega), cN_n (k := a) (by omega), cN_n (k := b) (by omega), cN_n (k := n) (by omega)]
          refine g_iconst (v := nI 0) dX8_channel_54 (by decide) ?_
          refine g_istore (lv' := [(7, .int (nI 0)), (0, .ref 0), (1, .int (nI c)), (2, .int (nI d)), (3, .int (nI a)), (4, .int (nI b)), (5, .int (nI n)), (6, .int (nI up))]) dX8_channel_55 (by decide) rfl ?_
          refine g_lv [1, 2, 3, 4, 5, 6, 7, 0] rfl ?_
          rw [show od = cpf 0 (fC c) od from (cpf_0 _ _).symm]
          refine lp_chA hc hd hab hn hu ?_ 10 0 (by omega)
          refine g_iconst (v := nI 0) dX8_channel_88 (by decide) ?_
          refine g_istore (lv' := [(7, .int (nI 0)), (0, .ref 0), (1, .int (nI c)), (2, .int (nI d)), (3, .int (nI a)), (4, .int (nI b)), (5, .int (nI n)), (6, .int (nI up))]) dX8_channel_89 (by decide) rfl ?_
          refine g_lv [1, 2, 3, 4, 5, 6, 7, 0] rfl ?_
          exact lp_chDay hc hd hab hn hu n 0 _ _ (by omega) (fun j hj => if_pos hj)
        · refine g_bipush (v := (-2)) dX8_channel_51 (by decide) ?_
          refine g_iret rfl rfl dX8_channel_53 ?_
          refine ⟨?_, _, _, rfl⟩
          unfold pChannel
          rw [if_neg (fun z => by first | exact h14 z.1 | exact h26 z.2.1 | exact h35 z.2.2.1 | exact h48 z.2.2.2)]

def sSb (p s : Nat) : Nat → Nat
  | 0 => 1
  | k + 1 => sSb p s k * (if s / 2 ^ k % 2 = 1 then p else 10 - p)
def sSt (s : Nat) : Nat → Nat
  | 0 => 0
  | k + 1 => sSt s k + (if s / 2 ^ k % 2 = 1 then 1 else 0)
def sSub (n p : Nat) : Nat → Nat
  | 0 => 0
  | s + 1 => sSub n p s + (if n < 2 * sSt s n then sSb p s n else 0)
theorem sSub_eq : ∀ n, n ≤ 6 → ∀ p, p ≤ 10 → sSub n p (2 ^ n) = sStS n p (n - n / 2) := by decide +kernel
theorem sSt_le (s : Nat) : ∀ k, sSt s k ≤ k
  | 0 => Nat.le_refl _
  | k + 1 => by have := sSt_le s k; rw [sSt]; split <;> omega
theorem shl6 : ∀ n, n ≤ 6 → nI 1 <<< (nI n &&& 31) = nI (2 ^ n) := by decide
theorem lp_stI {e1 e2 e3 e4 e5 e6 e7 e8 e9 e10 e11 e12 e13 e14 e15 e16 e17 : va_E} {ts pl lo ri la wk tw sf : Nat} {rl rr re : Int32} {rw rt rs ac : Nat} {sd : Int64} {ce sa ti : Nat} {n x w up p : Nat} (hn : 1 ≤ n ∧ n ≤ 6) (hp : p ≤ 10) (hu : up ≤ 1) {s : Nat} (hs : s < 64) {Post : Option Value → List va_E → Prop} (kn : Go mX8_sticks 2 140 [(0, .ref 0), (1, .int (nI n)), (2, .int (nI x)), (3, .int (nI w)), (4, .int (nI up)), (5, .int (nI p)), (6, .long (lN (sSub n p s))), (8, .int (nI s)), (9, .long (lN (sSb p s n))), (11, .int (nI (sSt s n)))] [] (wM (kM 0 ts pl lo ri la wk tw sf rl rr re rw rt rs ac sd ce sa ti) e1 e2 e3 e4 e5 e6 e7 e8 e9 e10 e11 e12 e13 e14 e15 e16 e17) Post) : ∀ (m k : Nat), k + m = n → Go mX8_sticks 2 81 [(0, .ref 0), (1, .int (nI n)), (2, .int (nI x)), (3, .int (nI w)), (4, .int (nI up)), (5, .int (nI p)), (6, .long (lN (sSub n p s))), (8, .int (nI s)), (9, .long (lN (sSb p s k))), (11, .int (nI (sSt s k))), (12, .int (nI k))] [] (wM (kM 0 ts pl lo ri la wk tw sf rl rr re rw rt rs ac sd ce sa ti) e1 e2 e3 e4 e5 e6 e7 e8 e9 e10 e11 e12 e13 e14 e15 e16 e17) Post := by
  intro m
  induction m with
  | zero =>
    intro k hk
    obtain rfl : k = n := by omega
    refine g_iload (j := 10) dX8_sticks_81 rfl ?_
    refine g_iload_n (i := 1) (j := 1) dX8_sticks_83 rfl rfl ?_
    refine n_icmp_ge (tgt := 140) (by omega) (by omega) dX8_sticks_84 (by decide) (fun h84 => ?_) (fun h84 => ?_)
    · refine g_lv [0, 1, 2, 3, 4, 5, 6, 7, 8, 9] rfl ?_
      exact kn
    · exfalso; omega

  | succ m ih =>
    intro k hk
    refine g_iload (j := 10) dX8_sticks_81 rfl ?_
    refine g_iload_n (i := 1) (j := 1) dX8_sticks_83 rfl rfl ?_
    refine n_icmp_ge (tgt := 140) (by omega) (by omega) dX8_sticks_84 (by decide) (fun h84 => ?_) (fun h84 => ?_)
    · exfalso; omega
    · refine g_lload (j := 8) dX8_sticks_87 rfl ?_
      refine g_iload (j := 7) dX8_sticks_89 rfl ?_
      refine g_iload (j := 10) dX8_sticks_91 rfl ?_
      refine c_S (st1 := [.int (nI (bN (s / 2 ^ k % 2 = 1))), .long (lN (sSb p s k))]) (ctX8_has (a := s) (k := k) (by omega) (by omega)) kX8_has lX8_92 (by decide) rfl (by exact Nat.le_of_ble_eq_true rfl) dX8_sticks_93 rfl rfl ?_
      refine b_if_eq (tgt := 105) dX8_sticks_96 (by decide) (fun h96 => ?_) (fun h96 => ?_)
      · refine g_bipush (v := nI 10) dX8_sticks_105 (by decide) ?_
        refine g_iload (j := 5) dX8_sticks_107 rfl ?_
        refine n_isub (a := 10) (b := p) (by omega) dX8_sticks_109 ?_
        refine g_i2l (v := lN (10 - p)) dX8_sticks_110 (nI_l (by omega)) ?_
        refine g_lmul dX8_sticks_111 ?_
        refine g_topl (y := (lN ((sSb p s k) * (10 - p)))) (lN_mul _ _) ?_
        refine g_lstore (lv' := [(9, .long (lN ((sSb p s k) * (10 - p)))), (0, .ref 0), (1, .int (nI n)), (2, .int (nI x)), (3, .int (nI w)), (4, .int (nI up)), (5, .int (nI p)), (6, .long (lN (sSub n p s))), (8, .int (nI s)), (11, .int (nI (sSt s k))), (12, .int (nI k))]) dX8_sticks_112 (by decide) rfl ?_
        refine g_iload (j := 9) dX8_sticks_114 rfl ?_
        refine g_iload (j := 8) dX8_sticks_116 rfl ?_
        refine g_iload (j := 10) dX8_sticks_118 rfl ?_
        refine c_S (st1 := [.int (nI (bN (s / 2 ^ k % 2 = 1))), .int (nI (sSt s k))]) (ctX8_has (a := s) (k := k) (by omega) (by omega)) kX8_has lX8_92 (by decide) rfl (by exact Nat.le_of_ble_eq_true rfl) dX8_sticks_120 rfl rfl ?_
        refine b_if_eq (tgt := 130) dX8_sticks_123 (by decide) (fun h123 => ?_) (fun h123 => ?_)
        · refine g_iconst (v := nI 0) dX8_sticks_130 (by decide) ?_
          refine n_iadd (a := (sSt s k)) (b := 0) dX8_sticks_131 ?_
          refine g_istore (lv' := [(11, .int (nI ((sSt s k) + 0))), (9, .long (lN ((sSb p s k) * (10 - p)))), (0, .ref 0), (1, .int (nI n)), (2, .int (nI x)), (3, .int (nI w)), (4, .int (nI up)), (5, .int (nI p)), (6, .long (lN (sSub n p s))), (8, .int (nI s)), (12, .int (nI k))]) dX8_sticks_132 (by decide) rfl ?_
          refine n_inc (x := k) (j := 10) (lv' := [(12, .int (nI (k + 1))), (11, .int (nI ((sSt s k) + 0))), (9, .long (lN ((sSb p s k) * (10 - p)))), (0, .ref 0), (1, .int (nI n)), (2, .int (nI x)), (3, .int (nI w)), (4, .int (nI up)), (5, .int (nI p)), (6, .long (lN (sSub n p s))), (8, .int (nI s))]) dX8_sticks_134 rfl (by decide) rfl ?_
          refine g_goto (tgt := 81) dX8_sticks_137 (by decide) ?_
          refine g_lv [3, 4, 5, 6, 7, 8, 9, 10, 2, 1, 0] rfl ?_
          rw [show (sSb p s k) * (10 - p) = sSb p s (k + 1) by rw [sSb]; first | rw [if_pos h96] | rw [if_neg h96], show (sSt s k) + 0 = sSt s (k + 1) by rw [sSt]; first | rw [if_pos h96] | rw [if_neg h96]]
          exact ih (k + 1) (by omega)
        · first | exact absurd h123 h96 | exact absurd h96 h123
      · refine g_iload (j := 5) dX8_sticks_99 rfl ?_
        refine g_i2l (v := lN p) dX8_sticks_101 (nI_l (by omega)) ?_
        refine g_goto (tgt := 111) dX8_sticks_102 (by decide) ?_
        refine g_lmul dX8_sticks_111 ?_
        refine g_topl (y := (lN ((sSb p s k) * p))) (lN_mul _ _) ?_
        refine g_lstore (lv' := [(9, .long (lN ((sSb p s k) * p))), (0, .ref 0), (1, .int (nI n)), (2, .int (nI x)), (3, .int (nI w)), (4, .int (nI up)), (5, .int (nI p)), (6, .long (lN (sSub n p s))), (8, .int (nI s)), (11, .int (nI (sSt s k))), (12, .int (nI k))]) dX8_sticks_112 (by decide) rfl ?_
        refine g_iload (j := 9) dX8_sticks_114 rfl ?_
        refine g_iload (j := 8) dX8_sticks_116 rfl ?_
        refine g_iload (j := 10) dX8_sticks_118 rfl ?_
        refine c_S (st1 := [.int (nI (bN (s / 2 ^ k % 2 = 1))), .int (nI (sSt s k))]) (ctX8_has (a := s) (k := k) (by omega) (by omega)) kX8_has lX8_92 (by decide) rfl (by exact Nat.le_of_ble_eq_true rfl) dX8_sticks_120 rfl rfl ?_
        refine b_if_eq (tgt := 130) dX8_sticks_123 (by decide) (fun h123 => ?_) (fun h123 => ?_)
        · first | exact absurd h123 h96 | exact absurd h96 h123
        · refine g_iconst (v := nI 1) dX8_sticks_126 (by decide) ?_
          refine g_goto (tgt := 131) dX8_sticks_127 (by decide) ?_
          refine n_iadd (a := (sSt s k)) (b := 1) dX8_sticks_131 ?_
          refine g_istore (lv' := [(11, .int (nI ((sSt s k) + 1))), (9, .long (lN ((sSb p s k) * p))), (0, .ref 0), (1, .int (nI n)), (2, .int (nI x)), (3, .int (nI w)), (4, .int (nI up)), (5, .int (nI p)), (6, .long (lN (sSub n p s))), (8, .int (nI s)), (12, .int (nI k))]) dX8_sticks_132 (by decide) rfl ?_
          refine n_inc (x := k) (j := 10) (lv' := [(12, .int (nI (k + 1))), (11, .int (nI ((sSt s k) + 1))), (9, .long (lN ((sSb p s k) * p))), (0, .ref 0), (1, .int (nI n)), (2, .int (nI x)), (3, .int (nI w)), (4, .int (nI up)), (5, .int (nI p)), (6, .long (lN (sSub n p s))), (8, .int (nI s))]) dX8_sticks_134 rfl (by decide) rfl ?_
          refine g_goto (tgt := 81) dX8_sticks_137 (by decide) ?_
          refine g_lv [3, 4, 5, 6, 7, 8, 9, 10, 2, 1, 0] rfl ?_
          rw [show (sSb p s k) * p = sSb p s (k + 1) by rw [sSb]; first | rw [if_pos h96] | rw [if_neg h96], show (sSt s k) + 1 = sSt s (k + 1) by rw [sSt]; first | rw [if_pos h96] | rw [if_neg h96]]
          exact ih (k + 1) (by omega)

theorem lp_stO {e1 e2 e3 e4 e5 e6 e7 e8 e9 e10 e11 e12 e13 e14 e15 e16 e17 : va_E} {ts pl lo ri la wk tw sf : Nat} {rl rr re : Int32} {rw rt rs ac : Nat} {sd : Int64} {ce sa ti : Nat} {n x w up p : Nat} (hn : 1 ≤ n ∧ n ≤ 6) (hp : p ≤ 10) (hu : up ≤ 1) : ∀ (m s : Nat), s + m = 2 ^ n → Go mX8_sticks 2 64 [(0, .ref 0), (1, .int (nI n)), (2, .int (nI x)), (3, .int (nI w)), (4, .int (nI up)), (5, .int (nI p)), (6, .long (lN (sSub n p s))), (8, .int (nI s))] [] (wM (kM 0 ts pl lo ri la wk tw sf rl rr re rw rt rs ac sd ce sa ti) e1 e2 e3 e4 e5 e6 e7 e8 e9 e10 e11 e12 e13 e14 e15 e16 e17) (gE (some (.int (nI (sTold (sStS n p (n - n / 2)) (10 ^ n) up)))) (wM (kM 0 ts pl lo ri la wk tw sf rl rr re rw rt rs ac sd ce sa ti) e1 e2 e3 e4 e5 e6 e7 e8 e9 e10 e11 e12 e13 e14 e15 e16 e17)) := by
  intro m
  have q2 : 2 ^ n ≤ 2 ^ 6 := Nat.pow_le_pow_right (by omega) hn.2
  have qn : 10 ^ n ≤ 10 ^ 6 := Nat.pow_le_pow_right (by omega) hn.2
  have qn2 : 0 < 10 ^ n := Nat.pow_pos (by omega)
  have e0 := sSub_eq n hn.2 p hp
  have e1 := sStS_le n hn.2 p hp (n - n / 2) (by omega)
  induction m with
  | zero =>
    intro s hs
    obtain rfl : s = 2 ^ n := by omega
    refine g_iload (j := 7) dX8_sticks_64 rfl ?_
    refine g_iconst (v := nI 1) dX8_sticks_66 (by decide) ?_
    refine g_iload_n (i := 1) (j := 1) dX8_sticks_67 rfl rfl ?_
    refine g_ishl dX8_sticks_68 ?_
    refine g_topi (y := nI (2 ^ n)) (shl6 n hn.2) ?_
    refine n_icmp_ge (tgt := 165) (by omega) (by omega) dX8_sticks_69 (by decide) (fun h69 => ?_) (fun h69 => ?_)
    · refine g_lload (j := 6) dX8_sticks_165 rfl ?_
      refine g_iload_n (i := 1) (j := 1) dX8_sticks_167 rfl rfl ?_
      refine c_S (st1 := [.int (nI (10 ^ n)), .long (lN (sSub n p (2 ^ n)))]) (ctX8_ten (n := n) (by omega)) kX8_ten lX8_211 (by decide) rfl (by exact Nat.le_of_ble_eq_true rfl) dX8_sticks_168 rfl rfl ?_
      refine g_i2l (v := lN (10 ^ n)) dX8_sticks_171 (nI_l (by omega)) ?_
      refine g_iload (j := 4) dX8_sticks_172 rfl ?_
      refine c_S (st1 := [.int (nI (sTold (sSub n p (2 ^ n)) (10 ^ n) up))]) (ctX8_fraction (a := sSub n p (2 ^ n)) (b := 10 ^ n) (u := up) (by omega) (by omega) (by omega) (by omega)) kX8_fraction lX8_234 (by decide) rfl (by exact Nat.le_of_ble_eq_true rfl) dX8_sticks_174 rfl rfl ?_
      refine g_iret rfl rfl dX8_sticks_177 ?_
      refine gE_n ?_ rfl
      rw [e0]
    · exfalso; omega

  | succ m ih =>
    intro s hs
    have q5 := sSt_le s n
    refine g_iload (j := 7) dX8_sticks_64 rfl ?_
    refine g_iconst (v := nI 1) dX8_sticks_66 (by decide) ?_
    refine g_iload_n (i := 1) (j := 1) dX8_sticks_67 rfl rfl ?_
    refine g_ishl dX8_sticks_68 ?_
    refine g_topi (y := nI (2 ^ n)) (shl6 n hn.2) ?_
    refine n_icmp_ge (tgt := 165) (by omega) (by omega) dX8_sticks_69 (by decide) (fun h69 => ?_) (fun h69 => ?_)
    · exfalso; omega
    · refine g_lconst (v := lN 1) dX8_sticks_72 (by decide) ?_
      refine g_lstore (lv' := [(9, .long (lN 1)), (0, .ref 0), (1, .int (nI n)), (2, .int (nI x)), (3, .int (nI w)), (4, .int (nI up)), (5, .int (nI p)), (6, .long (lN (sSub n p s))), (8, .int (nI s))]) dX8_sticks_73 (by decide) rfl ?_
      refine g_iconst (v := nI 0) dX8_sticks_75 (by decide) ?_
      refine g_istore (lv' := [(11, .int (nI 0)), (9, .long (lN 1)), (0, .ref 0), (1, .int (nI n)), (2, .int (nI x)), (3, .int (nI w)), (4, .int (nI up)), (5, .int (nI p)), (6, .long (lN (sSub n p s))), (8, .int (nI s))]) dX8_sticks_76 (by decide) rfl ?_
      refine g_iconst (v := nI 0) dX8_sticks_78 (by decide) ?_
      refine g_istore (lv' := [(12, .int (nI 0)), (11, .int (nI 0)), (9, .long (lN 1)), (0, .ref 0), (1, .int (nI n)), (2, .int (nI x)), (3, .int (nI w)), (4, .int (nI up)), (5, .int (nI p)), (6, .long (lN (sSub n p s))), (8, .int (nI s))]) dX8_sticks_79 (by decide) rfl ?_
      refine g_lv [3, 4, 5, 6, 7, 8, 9, 10, 2, 1, 0] rfl ?_
      refine lp_stI hn hp hu (by omega) ?_ n 0 (by omega)
      refine g_lload (j := 6) dX8_sticks_140 rfl ?_
      refine g_iconst (v := nI 2) dX8_sticks_142 (by decide) ?_
      refine g_iload (j := 9) dX8_sticks_143 rfl ?_
      refine n_imul (a := 2) (b := (sSt s n)) dX8_sticks_145 ?_
      refine g_iload_n (i := 1) (j := 1) dX8_sticks_146 rfl rfl ?_
      refine n_icmp_le (tgt := 155) (by omega) (by omega) dX8_sticks_147 (by decide) (fun h147 => ?_) (fun h147 => ?_)
      · refine g_lconst (v := lN 0) dX8_sticks_155 (by decide) ?_
        refine g_ladd dX8_sticks_156 ?_
        refine g_topl (y := (lN ((sSub n p s) + 0))) (lN_add _ _) ?_
        refine g_lstore (lv' := [(6, .long (lN ((sSub n p s) + 0))), (0, .ref 0), (1, .int (nI n)), (2, .int (nI x)), (3, .int (nI w)), (4, .int (nI up)), (5, .int (nI p)), (8, .int (nI s)), (9, .long (lN (sSb p s n))), (11, .int (nI (sSt s n)))]) dX8_sticks_157 (by decide) rfl ?_
        refine n_inc (x := s) (j := 7) (lv' := [(8, .int (nI (s + 1))), (6, .long (lN ((sSub n p s) + 0))), (0, .ref 0), (1, .int (nI n)), (2, .int (nI x)), (3, .int (nI w)), (4, .int (nI up)), (5, .int (nI p)), (9, .long (lN (sSb p s n))), (11, .int (nI (sSt s n)))]) dX8_sticks_159 rfl (by decide) rfl ?_
        refine g_goto (tgt := 64) dX8_sticks_162 (by decide) ?_
        refine g_lv [2, 3, 4, 5, 6, 7, 1, 0] rfl ?_
        rw [show (sSub n p s) + 0 = sSub n p (s + 1) by rw [sSub]; first | rw [if_pos (by omega)] | rw [if_neg (by omega)]]
        exact ih (s + 1) (by omega)
      · refine g_lload (j := 8) dX8_sticks_150 rfl ?_
        refine g_goto (tgt := 156) dX8_sticks_152 (by decide) ?_
        refine g_ladd dX8_sticks_156 ?_
        refine g_topl (y := (lN ((sSub n p s) + (sSb p s n)))) (lN_add _ _) ?_
        refine g_lstore (lv' := [(6, .long (lN ((sSub n p s) + (sSb p s n)))), (0, .ref 0), (1, .int (nI n)), (2, .int (nI x)), (3, .int (nI w)), (4, .int (nI up)), (5, .int (nI p)), (8, .int (nI s)), (9, .long (lN (sSb p s n))), (11, .int (nI (sSt s n)))]) dX8_sticks_157 (by decide) rfl ?_
        refine n_inc (x := s) (j := 7) (lv' := [(8, .int (nI (s + 1))), (6, .long (lN ((sSub n p s) + (sSb p s n)))), (0, .ref 0), (1, .int (nI n)), (2, .int (nI x)), (3, .int (nI w)), (4, .int (nI up)), (5, .int (nI p)), (9, .long (lN (sSb p s n))), (11, .int (nI (sSt s n)))]) dX8_sticks_159 rfl (by decide) rfl ?_
        refine g_goto (tgt := 64) dX8_sticks_162 (by decide) ?_
        refine g_lv [2, 3, 4, 5, 6, 7, 1, 0] rfl ?_
        rw [show (sSub n p s) + (sSb p s n) = sSub n p (s + 1) by rw [sSub]; first | rw [if_pos (by omega)] | rw [if_neg (by omega)]]
        exact ih (s + 1) (by omega)

theorem ctX8_sticks {e1 e2 e3 e4 e5 e6 e7 e8 e9 e10 e11 e12 e13 e14 e15 e16 e17 : va_E} {ts pl lo ri la wk tw sf : Nat} {rl rr re : Int32} {rw rt rs ac : Nat} {sd : Int64} {ce sa ti : Nat} {n0 x0 w0 : Int32} {up : Nat} (hu : up ≤ 1) : Ct mX8_sticks 2 [.ref 0, .int n0, .int x0, .int w0, .int (nI up)] (wM (kM 0 ts pl lo ri la wk tw sf rl rr re rw rt rs ac sd ce sa ti) e1 e2 e3 e4 e5 e6 e7 e8 e9 e10 e11 e12 e13 e14 e15 e16 e17) (gE (some (.int (pSticks n0 x0 w0 up))) (wM (kM 0 ts pl lo ri la wk tw sf rl rr re rw rt rs ac sd ce sa ti) e1 e2 e3 e4 e5 e6 e7 e8 e9 e10 e11 e12 e13 e14 e15 e16 e17)) := by
  refine Ct.of (by decide) (by exact Nat.le_of_ble_eq_true rfl) ?_
  show Go mX8_sticks 2 0 [(0, .ref 0), (1, .int n0), (2, .int x0), (3, .int w0), (4, .int (nI up))] [] (wM (kM 0 ts pl lo ri la wk tw sf rl rr re rw rt rs ac sd ce sa ti) e1 e2 e3 e4 e5 e6 e7 e8 e9 e10 e11 e12 e13 e14 e15 e16 e17) (gE (some (.int (pSticks n0 x0 w0 up))) (wM (kM 0 ts pl lo ri la wk tw sf rl rr re rw rt rs ac sd ce sa ti) e1 e2 e3 e4 e5 e6 e7 e8 e9 e10 e11 e12 e13 e14 e15 e16 e17))
  refine g_aload_n (i := 0) (j := 0) dX8_sticks_0 rfl rfl ?_
  refine g_iconst (v := nI 0) dX8_sticks_1 (by decide) ?_
  refine n_putI (ws' := wM (kM 0 ts pl lo ri la wk tw sf rl rr re rw rt rs ac sd ce sa ti) e1 e2 e3 e4 e5 e6 e7 e8 e9 e10 e11 e12 e13 e14 e15 e16 e17) fX8_67 fp_X8_0 rfl (by exact Nat.le_of_ble_eq_true rfl) dX8_sticks_2 rfl ?_
  refine g_iload_n (i := 1) (j := 1) dX8_sticks_5 rfl rfl ?_
  refine g_i2l dX8_sticks_6 rfl ?_
  refine g_lconst (v := lN 1) dX8_sticks_7 (by decide) ?_
  refine g_ldc2 clX8_238 dX8_sticks_8 ?_
  refine g_st (st' := [.long (lN 6), .long (lN 1), .long n0.toInt64]) rfl ?_
  refine c_S (st1 := [.int (nI (bN (iW n0 7 ∧ ¬ n0 = nI 0)))]) (ctX8_in (P := iW n0 7 ∧ ¬ n0 = nI 0) (in_1 (rng_lit _ rfl) rfl)) kX8_in lX8_73 (by decide) rfl (by exact Nat.le_of_ble_eq_true rfl) dX8_sticks_11 rfl rfl ?_
  refine b_if_eq (tgt := 41) dX8_sticks_14 (by decide) (fun h14 => ?_) (fun h14 => ?_)
  · refine g_bipush (v := (-2)) dX8_sticks_41 (by decide) ?_
    refine g_iret rfl rfl dX8_sticks_43 ?_
    refine gE_r ?_ rfl
    unfold pSticks
    rw [if_neg (fun z => by first | exact h14 z.1 | exact h26 z.2.1 | exact h38 z.2.2)]
  · refine g_iload_n (i := 2) (j := 2) dX8_sticks_17 rfl rfl ?_
    refine g_i2l dX8_sticks_18 rfl ?_
    refine g_lconst (v := lN 0) dX8_sticks_19 (by decide) ?_
    refine g_ldc2 clX8_227 dX8_sticks_20 ?_
    refine g_st (st' := [.long (lN 10), .long (lN 0), .long x0.toInt64]) rfl ?_
    refine c_S (st1 := [.int (nI (bN (iW x0 11)))]) (ctX8_in (P := iW x0 11) (in_0 (rng_lit _ rfl) rfl)) kX8_in lX8_73 (by decide) rfl (by exact Nat.le_of_ble_eq_true rfl) dX8_sticks_23 rfl rfl ?_
    refine b_if_eq (tgt := 41) dX8_sticks_26 (by decide) (fun h26 => ?_) (fun h26 => ?_)
    · refine g_bipush (v := (-2)) dX8_sticks_41 (by decide) ?_
      refine g_iret rfl rfl dX8_sticks_43 ?_
      refine gE_r ?_ rfl
      unfold pSticks
      rw [if_neg (fun z => by first | exact h14 z.1 | exact h26 z.2.1 | exact h38 z.2.2)]
    · refine g_iload_n (i := 3) (j := 3) dX8_sticks_29 rfl rfl ?_
      refine g_i2l dX8_sticks_30 rfl ?_
      refine g_lconst (v := lN 0) dX8_sticks_31 (by decide) ?_
      refine g_ldc2 clX8_77 dX8_sticks_32 ?_
      refine g_st (st' := [.long (lN 9), .long (lN 0), .long w0.toInt64]) rfl ?_
      refine c_S (st1 := [.int (nI (bN (iW w0 10)))]) (ctX8_in (P := iW w0 10) (in_0 (rng_lit _ rfl) rfl)) kX8_in lX8_73 (by decide) rfl (by exact Nat.le_of_ble_eq_true rfl) dX8_sticks_35 rfl rfl ?_
      refine b_if_ne (tgt := 44) dX8_sticks_38 (by decide) (fun h38 => ?_) (fun h38 => ?_)
      · obtain ⟨n, hn1, hn2, rfl⟩ := pos_of h14
        obtain ⟨x, hx, rfl⟩ := raw_lt h26
        obtain ⟨w, hw, rfl⟩ := raw_lt h38
        unfold pSticks
        rw [if_pos ⟨h14, h26, h38⟩, cN_n (k := n) (by omega), cN_n (k := x) (by omega), cN_n (k := w) (by omega)]
        refine g_iload_n (i := 2) (j := 2) dX8_sticks_44 rfl rfl ?_
        refine g_iload_n (i := 3) (j := 3) dX8_sticks_45 rfl rfl ?_
        refine n_icmp_ge (tgt := 53) (by omega) (by omega) dX8_sticks_46 (by decide) (fun h46 => ?_) (fun h46 => ?_)
        · refine g_iload_n (i := 2) (j := 2) dX8_sticks_53 rfl rfl ?_
          refine g_iload_n (i := 3) (j := 3) dX8_sticks_54 rfl rfl ?_
          refine n_isub (a := x) (b := w) (by omega) dX8_sticks_55 ?_
          refine g_topi (y := nI (x - w)) (congrArg nI (by omega)) ?_
          refine g_istore (lv' := [(5, .int (nI (x - w))), (0, .ref 0), (1, .int (nI n)), (2, .int (nI x)), (3, .int (nI w)), (4, .int (nI up))]) dX8_sticks_56 (by decide) rfl ?_
          refine g_lconst (v := lN 0) dX8_sticks_58 (by decide) ?_
          refine g_lstore (lv' := [(6, .long (lN 0)), (5, .int (nI (x - w))), (0, .ref 0), (1, .int (nI n)), (2, .int (nI x)), (3, .int (nI w)), (4, .int (nI up))]) dX8_sticks_59 (by decide) rfl ?_
          refine g_iconst (v := nI 0) dX8_sticks_61 (by decide) ?_
          refine g_istore (lv' := [(8, .int (nI 0)), (6, .long (lN 0)), (5, .int (nI (x - w))), (0, .ref 0), (1, .int (nI n)), (2, .int (nI x)), (3, .int (nI w)), (4, .int (nI up))]) dX8_sticks_62 (by decide) rfl ?_
          refine g_lv [3, 4, 5, 6, 7, 2, 1, 0] rfl ?_
          exact lp_stO ⟨hn1, by omega⟩ (by omega) hu (2 ^ n) 0 (by omega)
        · refine g_iconst (v := nI 0) dX8_sticks_49 (by decide) ?_
          refine g_goto (tgt := 56) dX8_sticks_50 (by decide) ?_
          refine g_topi (y := nI (x - w)) (congrArg nI (by omega)) ?_
          refine g_istore (lv' := [(5, .int (nI (x - w))), (0, .ref 0), (1, .int (nI n)), (2, .int (nI x)), (3, .int (nI w)), (4, .int (nI up))]) dX8_sticks_56 (by decide) rfl ?_
          refine g_lconst (v := lN 0) dX8_sticks_58 (by decide) ?_
          refine g_lstore (lv' := [(6, .long (lN 0)), (5, .int (nI (x - w))), (0, .ref 0), (1, .int (nI n)), (2, .int (nI x)), (3, .int (nI w)), (4, .int (nI up))]) dX8_sticks_59 (by decide) rfl ?_
          refine g_iconst (v := nI 0) dX8_sticks_61 (by decide) ?_
          refine g_istore (lv' := [(8, .int (nI 0)), (6, .long (lN 0)), (5, .int (nI (x - w))), (0, .ref 0), (1, .int (nI n)), (2, .int (nI x)), (3, .int (nI w)), (4, .int (nI up))]) dX8_sticks_62 (by decide) rfl ?_
          refine g_lv [3, 4, 5, 6, 7, 2, 1, 0] rfl ?_
          exact lp_stO ⟨hn1, by omega⟩ (by omega) hu (2 ^ n) 0 (by omega)
      · refine g_bipush (v := (-2)) dX8_sticks_41 (by decide) ?_
        refine g_iret rfl rfl dX8_sticks_43 ?_
        refine gE_r ?_ rfl
        unfold pSticks
        rw [if_neg (fun z => by first | exact h14 z.1 | exact h26 z.2.1 | exact h38 z.2.2)]

