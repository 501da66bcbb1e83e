section GA
variable {M : gM} {d pc : Nat} {lv : List (Nat × Value)} {st : List Value} {ws : List va_E} {Post : Option Value → List va_E → Prop}
theorem g_iadd {x y : Int32} (hd : decode M.2.1 pc = .ok (.iadd, 1)) (k : Go M d (pc + 1) lv (.int (x + y) :: st) ws Post) : Go M d pc lv (.int y :: .int x :: st) ws Post := by
  intro p l e s m args below meth c D cy ad A H locs ls C hP hD hS hl
  exact lv_iadd C.1 C.2.1 hd (k p l e s m args below meth c D cy ad A H locs ls C hP hD hS hl)
theorem g_isub {x y : Int32} (hd : decode M.2.1 pc = .ok (.isub, 1)) (k : Go M d (pc + 1) lv (.int (x - y) :: st) ws Post) : Go M d pc lv (.int y :: .int x :: st) ws Post := by
  intro p l e s m args below meth c D cy ad A H locs ls C hP hD hS hl
  exact lv_isub C.1 C.2.1 hd (k p l e s m args below meth c D cy ad A H locs ls C hP hD hS hl)
theorem g_imul {x y : Int32} (hd : decode M.2.1 pc = .ok (.imul, 1)) (k : Go M d (pc + 1) lv (.int (x * y) :: st) ws Post) : Go M d pc lv (.int y :: .int x :: st) ws Post := by
  intro p l e s m args below meth c D cy ad A H locs ls C hP hD hS hl
  exact lv_imul C.1 C.2.1 hd (k p l e s m args below meth c D cy ad A H locs ls C hP hD hS hl)
theorem g_iand {x y : Int32} (hd : decode M.2.1 pc = .ok (.iand, 1)) (k : Go M d (pc + 1) lv (.int (x &&& y) :: st) ws Post) : Go M d pc lv (.int y :: .int x :: st) ws Post := by
  intro p l e s m args below meth c D cy ad A H locs ls C hP hD hS hl
  exact lv_iand C.1 C.2.1 hd (k p l e s m args below meth c D cy ad A H locs ls C hP hD hS hl)
theorem g_ior {x y : Int32} (hd : decode M.2.1 pc = .ok (.ior, 1)) (k : Go M d (pc + 1) lv (.int (x ||| y) :: st) ws Post) : Go M d pc lv (.int y :: .int x :: st) ws Post := by
  intro p l e s m args below meth c D cy ad A H locs ls C hP hD hS hl
  exact lv_ior C.1 C.2.1 hd (k p l e s m args below meth c D cy ad A H locs ls C hP hD hS hl)
theorem g_ixor {x y : Int32} (hd : decode M.2.1 pc = .ok (.ixor, 1)) (k : Go M d (pc + 1) lv (.int (x ^^^ y) :: st) ws Post) : Go M d pc lv (.int y :: .int x :: st) ws Post := by
  intro p l e s m args below meth c D cy ad A H locs ls C hP hD hS hl
  exact lv_ixor C.1 C.2.1 hd (k p l e s m args below meth c D cy ad A H locs ls C hP hD hS hl)
theorem g_ishl {x y : Int32} (hd : decode M.2.1 pc = .ok (.ishl, 1)) (k : Go M d (pc + 1) lv (.int (x <<< (y &&& 31)) :: st) ws Post) : Go M d pc lv (.int y :: .int x :: st) ws Post := by
  intro p l e s m args below meth c D cy ad A H locs ls C hP hD hS hl
  exact lv_ishl C.1 C.2.1 hd (k p l e s m args below meth c D cy ad A H locs ls C hP hD hS hl)
theorem g_ishr {x y : Int32} (hd : decode M.2.1 pc = .ok (.ishr, 1)) (k : Go M d (pc + 1) lv (.int (x >>> (y &&& 31)) :: st) ws Post) : Go M d pc lv (.int y :: .int x :: st) ws Post := by
  intro p l e s m args below meth c D cy ad A H locs ls C hP hD hS hl
  exact lv_ishr C.1 C.2.1 hd (k p l e s m args below meth c D cy ad A H locs ls C hP hD hS hl)
theorem g_idiv {x y : Int32} (hd : decode M.2.1 pc = .ok (.idiv, 1)) (hne : ¬ y = 0) (k : Go M d (pc + 1) lv (.int (x / y) :: st) ws Post) : Go M d pc lv (.int y :: .int x :: st) ws Post := by
  intro p l e s m args below meth c D cy ad A H locs ls C hP hD hS hl
  exact lv_idiv C.1 C.2.1 hd hne (k p l e s m args below meth c D cy ad A H locs ls C hP hD hS hl)
theorem g_irem {x y : Int32} (hd : decode M.2.1 pc = .ok (.irem, 1)) (hne : ¬ y = 0) (k : Go M d (pc + 1) lv (.int (x - x / y * y) :: st) ws Post) : Go M d pc lv (.int y :: .int x :: st) ws Post := by
  intro p l e s m args below meth c D cy ad A H locs ls C hP hD hS hl
  exact lv_irem C.1 C.2.1 hd hne (k p l e s m args below meth c D cy ad A H locs ls C hP hD hS hl)
theorem g_ladd {x y : Int64} (hd : decode M.2.1 pc = .ok (.ladd, 1)) (k : Go M d (pc + 1) lv (.long (x + y) :: st) ws Post) : Go M d pc lv (.long y :: .long x :: st) ws Post := by
  intro p l e s m args below meth c D cy ad A H locs ls C hP hD hS hl
  exact lv_ladd C.1 C.2.1 hd (k p l e s m args below meth c D cy ad A H locs ls C hP hD hS hl)
theorem g_lsub {x y : Int64} (hd : decode M.2.1 pc = .ok (.lsub, 1)) (k : Go M d (pc + 1) lv (.long (x - y) :: st) ws Post) : Go M d pc lv (.long y :: .long x :: st) ws Post := by
  intro p l e s m args below meth c D cy ad A H locs ls C hP hD hS hl
  exact lv_lsub C.1 C.2.1 hd (k p l e s m args below meth c D cy ad A H locs ls C hP hD hS hl)
theorem g_lmul {x y : Int64} (hd : decode M.2.1 pc = .ok (.lmul, 1)) (k : Go M d (pc + 1) lv (.long (x * y) :: st) ws Post) : Go M d pc lv (.long y :: .long x :: st) ws Post := by
  intro p l e s m args below meth c D cy ad A H locs ls C hP hD hS hl
  exact lv_lmul C.1 C.2.1 hd (k p l e s m args below meth c D cy ad A H locs ls C hP hD hS hl)
theorem g_land {x y : Int64} (hd : decode M.2.1 pc = .ok (.land, 1)) (k : Go M d (pc + 1) lv (.long (x &&& y) :: st) ws Post) : Go M d pc lv (.long y :: .long x :: st) ws Post := by
  intro p l e s m args below meth c D cy ad A H locs ls C hP hD hS hl
  exact lv_land C.1 C.2.1 hd (k p l e s m args below meth c D cy ad A H locs ls C hP hD hS hl)
theorem g_lor {x y : Int64} (hd : decode M.2.1 pc = .ok (.lor, 1)) (k : Go M d (pc + 1) lv (.long (x ||| y) :: st) ws Post) : Go M d pc lv (.long y :: .long x :: st) ws Post := by
  intro p l e s m args below meth c D cy ad A H locs ls C hP hD hS hl
  exact lv_lor C.1 C.2.1 hd (k p l e s m args below meth c D cy ad A H locs ls C hP hD hS hl)
theorem g_ldiv {x y : Int64} (hd : decode M.2.1 pc = .ok (.ldiv, 1)) (hne : ¬ y = 0) (k : Go M d (pc + 1) lv (.long (x / y) :: st) ws Post) : Go M d pc lv (.long y :: .long x :: st) ws Post := by
  intro p l e s m args below meth c D cy ad A H locs ls C hP hD hS hl
  exact lv_ldiv C.1 C.2.1 hd hne (k p l e s m args below meth c D cy ad A H locs ls C hP hD hS hl)
theorem g_lrem {x y : Int64} (hd : decode M.2.1 pc = .ok (.lrem, 1)) (hne : ¬ y = 0) (k : Go M d (pc + 1) lv (.long (x - x / y * y) :: st) ws Post) : Go M d pc lv (.long y :: .long x :: st) ws Post := by
  intro p l e s m args below meth c D cy ad A H locs ls C hP hD hS hl
  exact lv_lrem C.1 C.2.1 hd hne (k p l e s m args below meth c D cy ad A H locs ls C hP hD hS hl)
theorem g_lushr {x v : Int64} {y : Int32} (hd : decode M.2.1 pc = .ok (.lushr, 1)) (hv : (x.toUInt64 >>> (y.toInt64.toUInt64 &&& Int64.toUInt64 63)).toInt64 = v) (k : Go M d (pc + 1) lv (.long v :: st) ws Post) : Go M d pc lv (.int y :: .long x :: st) ws Post := by
  intro p l e s m args below meth c D cy ad A H locs ls C hP hD hS hl
  exact lv_lushr C.1 C.2.1 hd hv (k p l e s m args below meth c D cy ad A H locs ls C hP hD hS hl)
theorem g_lshl {x v : Int64} {y : Int32} (hd : decode M.2.1 pc = .ok (.lshl, 1)) (hv : x <<< (y.toInt64 &&& 63) = v) (k : Go M d (pc + 1) lv (.long v :: st) ws Post) : Go M d pc lv (.int y :: .long x :: st) ws Post := by
  intro p l e s m args below meth c D cy ad A H locs ls C hP hD hS hl
  exact lv_lshl C.1 C.2.1 hd hv (k p l e s m args below meth c D cy ad A H locs ls C hP hD hS hl)
theorem g_i2l {x : Int32} {v : Int64} (hd : decode M.2.1 pc = .ok (.i2l, 1)) (hv : x.toInt64 = v) (k : Go M d (pc + 1) lv (.long v :: st) ws Post) : Go M d pc lv (.int x :: st) ws Post := by
  intro p l e s m args below meth c D cy ad A H locs ls C hP hD hS hl
  exact lv_i2l C.1 C.2.1 hd hv (k p l e s m args below meth c D cy ad A H locs ls C hP hD hS hl)
theorem g_l2i {x : Int64} {v : Int32} (hd : decode M.2.1 pc = .ok (.l2i, 1)) (hv : x.toInt32 = v) (k : Go M d (pc + 1) lv (.int v :: st) ws Post) : Go M d pc lv (.long x :: st) ws Post := by
  intro p l e s m args below meth c D cy ad A H locs ls C hP hD hS hl
  exact lv_l2i C.1 C.2.1 hd hv (k p l e s m args below meth c D cy ad A H locs ls C hP hD hS hl)
theorem g_lcmp {x y : Int64} (hd : decode M.2.1 pc = .ok (.lcmp, 1)) (k : Go M d (pc + 1) lv (.int (lg_cmp x y) :: st) ws Post) : Go M d pc lv (.long y :: .long x :: st) ws Post := by
  intro p l e s m args below meth c D cy ad A H locs ls C hP hD hS hl
  exact W.lcmp C.1 C.2.1 hd (k p l e s m args below meth c D cy ad A H locs ls C hP hD hS hl)
theorem g_dup {v : Value} (hd : decode M.2.1 pc = .ok (.dup, 1)) (hv : v.category = 1) (k : Go M d (pc + 1) lv (v :: v :: st) ws Post) : Go M d pc lv (v :: st) ws Post := by
  intro p l e s m args below meth c D cy ad A H locs ls C hP hD hS hl
  exact lv_dup C.1 C.2.1 hd ((cV_cat ad v).trans hv) (k p l e s m args below meth c D cy ad A H locs ls C hP hD hS hl)
theorem g_pop {v : Value} (hd : decode M.2.1 pc = .ok (.pop, 1)) (hv : v.category = 1) (k : Go M d (pc + 1) lv st ws Post) : Go M d pc lv (v :: st) ws Post := by
  intro p l e s m args below meth c D cy ad A H locs ls C hP hD hS hl
  exact lv_pop C.1 C.2.1 hd ((cV_cat ad v).trans hv) (k p l e s m args below meth c D cy ad A H locs ls C hP hD hS hl)
theorem g_dup2 {v w : Value} (hd : decode M.2.1 pc = .ok (.dup2, 1)) (hv : v.category = 1) (hw : w.category = 1) (k : Go M d (pc + 1) lv (v :: w :: v :: w :: st) ws Post) : Go M d pc lv (v :: w :: st) ws Post := by
  intro p l e s m args below meth c D cy ad A H locs ls C hP hD hS hl
  exact lv_dup2_11 C.1 C.2.1 hd ((cV_cat ad v).trans hv) ((cV_cat ad w).trans hw) (k p l e s m args below meth c D cy ad A H locs ls C hP hD hS hl)
theorem g_goto {off : Int} {tgt : Nat} (hd : decode M.2.1 pc = .ok (.goto off, 3)) (ht : (pc : Int) + off = (tgt : Int)) (k : Go M d tgt lv st ws Post) : Go M d pc lv st ws Post := by
  intro p l e s m args below meth c D cy ad A H locs ls C hP hD hS hl
  exact lv_goto C.1 C.2.1 hd ht (k p l e s m args below meth c D cy ad A H locs ls C hP hD hS hl)
theorem g_if_eq {x : Int32} {off : Int} {tgt : Nat} (hd : decode M.2.1 pc = .ok (.ifCond .eq off, 3)) (ht : (pc : Int) + off = (tgt : Int)) (kt : (x = 0) → Go M d tgt lv st ws Post) (kf : ¬ (x = 0) → Go M d (pc + 3) lv st ws Post) : Go M d pc lv (.int x :: st) ws Post := by
  intro p l e s m args below meth c D cy ad A H locs ls C hP hD hS hl
  exact lv_if_eq C.1 C.2.1 hd ht (fun h => kt h p l e s m args below meth c D cy ad A H locs ls C hP hD hS hl) (fun h => kf h p l e s m args below meth c D cy ad A H locs ls C hP hD hS hl)
theorem g_icmp_eq {x y : Int32} {off : Int} {tgt : Nat} (hd : decode M.2.1 pc = .ok (.if_icmp .eq off, 3)) (ht : (pc : Int) + off = (tgt : Int)) (kt : (x = y) → Go M d tgt lv st ws Post) (kf : ¬ (x = y) → Go M d (pc + 3) lv st ws Post) : Go M d pc lv (.int y :: .int x :: st) ws Post := by
  intro p l e s m args below meth c D cy ad A H locs ls C hP hD hS hl
  exact lv_icmp_eq C.1 C.2.1 hd ht (fun h => kt h p l e s m args below meth c D cy ad A H locs ls C hP hD hS hl) (fun h => kf h p l e s m args below meth c D cy ad A H locs ls C hP hD hS hl)
theorem g_if_ne {x : Int32} {off : Int} {tgt : Nat} (hd : decode M.2.1 pc = .ok (.ifCond .ne off, 3)) (ht : (pc : Int) + off = (tgt : Int)) (kt : (x ≠ 0) → Go M d tgt lv st ws Post) (kf : x = 0 → Go M d (pc + 3) lv st ws Post) : Go M d pc lv (.int x :: st) ws Post := by
  intro p l e s m args below meth c D cy ad A H locs ls C hP hD hS hl
  exact lv_if_ne C.1 C.2.1 hd ht (fun h => kt h p l e s m args below meth c D cy ad A H locs ls C hP hD hS hl) (fun h => kf h p l e s m args below meth c D cy ad A H locs ls C hP hD hS hl)
theorem g_icmp_ne {x y : Int32} {off : Int} {tgt : Nat} (hd : decode M.2.1 pc = .ok (.if_icmp .ne off, 3)) (ht : (pc : Int) + off = (tgt : Int)) (kt : (x ≠ y) → Go M d tgt lv st ws Post) (kf : x = y → Go M d (pc + 3) lv st ws Post) : Go M d pc lv (.int y :: .int x :: st) ws Post := by
  intro p l e s m args below meth c D cy ad A H locs ls C hP hD hS hl
  exact lv_icmp_ne C.1 C.2.1 hd ht (fun h => kt h p l e s m args below meth c D cy ad A H locs ls C hP hD hS hl) (fun h => kf h p l e s m args below meth c D cy ad A H locs ls C hP hD hS hl)
theorem g_if_lt {x : Int32} {off : Int} {tgt : Nat} (hd : decode M.2.1 pc = .ok (.ifCond .lt off, 3)) (ht : (pc : Int) + off = (tgt : Int)) (kt : (x < 0) → Go M d tgt lv st ws Post) (kf : ¬ (x < 0) → Go M d (pc + 3) lv st ws Post) : Go M d pc lv (.int x :: st) ws Post := by
  intro p l e s m args below meth c D cy ad A H locs ls C hP hD hS hl
  exact lv_if_lt C.1 C.2.1 hd ht (fun h => kt h p l e s m args below meth c D cy ad A H locs ls C hP hD hS hl) (fun h => kf h p l e s m args below meth c D cy ad A H locs ls C hP hD hS hl)
theorem g_icmp_lt {x y : Int32} {off : Int} {tgt : Nat} (hd : decode M.2.1 pc = .ok (.if_icmp .lt off, 3)) (ht : (pc : Int) + off = (tgt : Int)) (kt : (x < y) → Go M d tgt lv st ws Post) (kf : ¬ (x < y) → Go M d (pc + 3) lv st ws Post) : Go M d pc lv (.int y :: .int x :: st) ws Post := by
  intro p l e s m args below meth c D cy ad A H locs ls C hP hD hS hl
  exact lv_icmp_lt C.1 C.2.1 hd ht (fun h => kt h p l e s m args below meth c D cy ad A H locs ls C hP hD hS hl) (fun h => kf h p l e s m args below meth c D cy ad A H locs ls C hP hD hS hl)
theorem g_if_ge {x : Int32} {off : Int} {tgt : Nat} (hd : decode M.2.1 pc = .ok (.ifCond .ge off, 3)) (ht : (pc : Int) + off = (tgt : Int)) (kt : (0 ≤ x) → Go M d tgt lv st ws Post) (kf : ¬ (0 ≤ x) → Go M d (pc + 3) lv st ws Post) : Go M d pc lv (.int x :: st) ws Post := by
  intro p l e s m args below meth c D cy ad A H locs ls C hP hD hS hl
  exact lv_if_ge C.1 C.2.1 hd ht (fun h => kt h p l e s m args below meth c D cy ad A H locs ls C hP hD hS hl) (fun h => kf h p l e s m args below meth c D cy ad A H locs ls C hP hD hS hl)
theorem g_icmp_ge {x y : Int32} {off : Int} {tgt : Nat} (hd : decode M.2.1 pc = .ok (.if_icmp .ge off, 3)) (ht : (pc : Int) + off = (tgt : Int)) (kt : (y ≤ x) → Go M d tgt lv st ws Post) (kf : ¬ (y ≤ x) → Go M d (pc + 3) lv st ws Post) : Go M d pc lv (.int y :: .int x :: st) ws Post := by
  intro p l e s m args below meth c D cy ad A H locs ls C hP hD hS hl
  exact lv_icmp_ge C.1 C.2.1 hd ht (fun h => kt h p l e s m args below meth c D cy ad A H locs ls C hP hD hS hl) (fun h => kf h p l e s m args below meth c D cy ad A H locs ls C hP hD hS hl)
theorem g_if_gt {x : Int32} {off : Int} {tgt : Nat} (hd : decode M.2.1 pc = .ok (.ifCond .gt off, 3)) (ht : (pc : Int) + off = (tgt : Int)) (kt : (0 < x) → Go M d tgt lv st ws Post) (kf : ¬ (0 < x) → Go M d (pc + 3) lv st ws Post) : Go M d pc lv (.int x :: st) ws Post := by
  intro p l e s m args below meth c D cy ad A H locs ls C hP hD hS hl
  exact lv_if_gt C.1 C.2.1 hd ht (fun h => kt h p l e s m args below meth c D cy ad A H locs ls C hP hD hS hl) (fun h => kf h p l e s m args below meth c D cy ad A H locs ls C hP hD hS hl)
theorem g_icmp_gt {x y : Int32} {off : Int} {tgt : Nat} (hd : decode M.2.1 pc = .ok (.if_icmp .gt off, 3)) (ht : (pc : Int) + off = (tgt : Int)) (kt : (y < x) → Go M d tgt lv st ws Post) (kf : ¬ (y < x) → Go M d (pc + 3) lv st ws Post) : Go M d pc lv (.int y :: .int x :: st) ws Post := by
  intro p l e s m args below meth c D cy ad A H locs ls C hP hD hS hl
  exact lv_icmp_gt C.1 C.2.1 hd ht (fun h => kt h p l e s m args below meth c D cy ad A H locs ls C hP hD hS hl) (fun h => kf h p l e s m args below meth c D cy ad A H locs ls C hP hD hS hl)
theorem g_if_le {x : Int32} {off : Int} {tgt : Nat} (hd : decode M.2.1 pc = .ok (.ifCond .le off, 3)) (ht : (pc : Int) + off = (tgt : Int)) (kt : (x ≤ 0) → Go M d tgt lv st ws Post) (kf : ¬ (x ≤ 0) → Go M d (pc + 3) lv st ws Post) : Go M d pc lv (.int x :: st) ws Post := by
  intro p l e s m args below meth c D cy ad A H locs ls C hP hD hS hl
  exact lv_if_le C.1 C.2.1 hd ht (fun h => kt h p l e s m args below meth c D cy ad A H locs ls C hP hD hS hl) (fun h => kf h p l e s m args below meth c D cy ad A H locs ls C hP hD hS hl)
theorem g_icmp_le {x y : Int32} {off : Int} {tgt : Nat} (hd : decode M.2.1 pc = .ok (.if_icmp .le off, 3)) (ht : (pc : Int) + off = (tgt : Int)) (kt : (x ≤ y) → Go M d tgt lv st ws Post) (kf : ¬ (x ≤ y) → Go M d (pc + 3) lv st ws Post) : Go M d pc lv (.int y :: .int x :: st) ws Post := by
  intro p l e s m args below meth c D cy ad A H locs ls C hP hD hS hl
  exact lv_icmp_le C.1 C.2.1 hd ht (fun h => kt h p l e s m args below meth c D cy ad A H locs ls C hP hD hS hl) (fun h => kf h p l e s m args below meth c D cy ad A H locs ls C hP hD hS hl)
theorem g_tableIn {dflt lo hi : Int} {offs : Array Int} {len : Nat} {x : Int32} {off : Int} {tgt : Nat} (hd : decode M.2.1 pc = .ok (.tableswitch dflt lo hi offs, len)) (h1 : ¬ x.toInt < lo) (h2 : ¬ hi < x.toInt) (ho : offs[(x.toInt - lo).toNat]? = some off) (ht : (pc : Int) + off = (tgt : Int)) (k : Go M d tgt lv st ws Post) : Go M d pc lv (.int x :: st) ws Post := by
  intro p l e s m args below meth c D cy ad A H locs ls C hP hD hS hl
  exact lv_tableIn C.1 C.2.1 hd h1 h2 ho ht (k p l e s m args below meth c D cy ad A H locs ls C hP hD hS hl)
theorem g_tableOut {dflt lo hi : Int} {offs : Array Int} {len : Nat} {x : Int32} {tgt : Nat} (hd : decode M.2.1 pc = .ok (.tableswitch dflt lo hi offs, len)) (h : x.toInt < lo ∨ hi < x.toInt) (ht : (pc : Int) + dflt = (tgt : Int)) (k : Go M d tgt lv st ws Post) : Go M d pc lv (.int x :: st) ws Post := by
  intro p l e s m args below meth c D cy ad A H locs ls C hP hD hS hl
  exact lv_tableOut C.1 C.2.1 hd h ht (k p l e s m args below meth c D cy ad A H locs ls C hP hD hS hl)
end GA
