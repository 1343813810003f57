/-! a rule an instruction: the goal first -/
section ZX
variable {l : Launch} {D : va_G} {tc : Nat → ClassId} {A : Nat → Prop} {y : zw_M} {d mc ms k n pc q : Nat} {L : List (Option Value)} {st : List Value} {S : zw_S} {Q : Option Value → zw_S → Prop}
theorem zx_iconst {i : Int} {v : Int32} (hd : decode y.2.1 pc = .ok (.iconst i, 1)) (hv : Int32.ofInt i = v) (hq : pc + 1 = q) (kk : zW l D tc A y d mc ms k n q L (.int v :: st) S Q) : zW l D tc A y d mc ms k n pc L (st) S Q := by
  subst hq
  intro p e s m args below meth c ad ad0 n0 H locs ls C hP hD hS hL hn ha hm
  exact lv_iconst C.1 C.2.1 hd hv (kk p e s m args below meth c ad ad0 n0 H locs ls C hP hD hS hL hn ha hm)
theorem zx_bipush {i : Int} {v : Int32} (hd : decode y.2.1 pc = .ok (.bipush i, 2)) (hv : (Int8.ofInt i).toInt32 = v) (hq : pc + 2 = q) (kk : zW l D tc A y d mc ms k n q L (.int v :: st) S Q) : zW l D tc A y d mc ms k n pc L (st) S Q := by
  subst hq
  intro p e s m args below meth c ad ad0 n0 H locs ls C hP hD hS hL hn ha hm
  exact lv_bipush C.1 C.2.1 hd hv (kk p e s m args below meth c ad ad0 n0 H locs ls C hP hD hS hL hn ha hm)
theorem zx_sipush {i : Int} {v : Int32} (hd : decode y.2.1 pc = .ok (.sipush i, 3)) (hv : (Int16.ofInt i).toInt32 = v) (hq : pc + 3 = q) (kk : zW l D tc A y d mc ms k n q L (.int v :: st) S Q) : zW l D tc A y d mc ms k n pc L (st) S Q := by
  subst hq
  intro p e s m args below meth c ad ad0 n0 H locs ls C hP hD hS hL hn ha hm
  exact lv_sipush C.1 C.2.1 hd hv (kk p e s m args below meth c ad ad0 n0 H locs ls C hP hD hS hL hn ha hm)
theorem zx_lconst {i : Fin 2} {v : Int64} (hd : decode y.2.1 pc = .ok (.lconst i, 1)) (hv : Int64.ofNat (i : Nat) = v) (hq : pc + 1 = q) (kk : zW l D tc A y d mc ms k n q L (.long v :: st) S Q) : zW l D tc A y d mc ms k n pc L (st) S Q := by
  subst hq
  intro p e s m args below meth c ad ad0 n0 H locs ls C hP hD hS hL hn ha hm
  exact lv_lconst C.1 C.2.1 hd hv (kk p e s m args below meth c ad ad0 n0 H locs ls C hP hD hS hL hn ha hm)
theorem zx_iadd {x y2 : Int32} (hd : decode y.2.1 pc = .ok (.iadd, 1)) (hq : pc + 1 = q) (kk : zW l D tc A y d mc ms k n q L (.int (x + y2) :: st) S Q) : zW l D tc A y d mc ms k n pc L (.int y2 :: .int x :: st) S Q := by
  subst hq
  intro p e s m args below meth c ad ad0 n0 H locs ls C hP hD hS hL hn ha hm
  exact lv_iadd C.1 C.2.1 hd (kk p e s m args below meth c ad ad0 n0 H locs ls C hP hD hS hL hn ha hm)
theorem zx_isub {x y2 : Int32} (hd : decode y.2.1 pc = .ok (.isub, 1)) (hq : pc + 1 = q) (kk : zW l D tc A y d mc ms k n q L (.int (x - y2) :: st) S Q) : zW l D tc A y d mc ms k n pc L (.int y2 :: .int x :: st) S Q := by
  subst hq
  intro p e s m args below meth c ad ad0 n0 H locs ls C hP hD hS hL hn ha hm
  exact lv_isub C.1 C.2.1 hd (kk p e s m args below meth c ad ad0 n0 H locs ls C hP hD hS hL hn ha hm)
theorem zx_imul {x y2 : Int32} (hd : decode y.2.1 pc = .ok (.imul, 1)) (hq : pc + 1 = q) (kk : zW l D tc A y d mc ms k n q L (.int (x * y2) :: st) S Q) : zW l D tc A y d mc ms k n pc L (.int y2 :: .int x :: st) S Q := by
  subst hq
  intro p e s m args below meth c ad ad0 n0 H locs ls C hP hD hS hL hn ha hm
  exact lv_imul C.1 C.2.1 hd (kk p e s m args below meth c ad ad0 n0 H locs ls C hP hD hS hL hn ha hm)
theorem zx_iand {x y2 : Int32} (hd : decode y.2.1 pc = .ok (.iand, 1)) (hq : pc + 1 = q) (kk : zW l D tc A y d mc ms k n q L (.int (x &&& y2) :: st) S Q) : zW l D tc A y d mc ms k n pc L (.int y2 :: .int x :: st) S Q := by
  subst hq
  intro p e s m args below meth c ad ad0 n0 H locs ls C hP hD hS hL hn ha hm
  exact lv_iand C.1 C.2.1 hd (kk p e s m args below meth c ad ad0 n0 H locs ls C hP hD hS hL hn ha hm)
theorem zx_ior {x y2 : Int32} (hd : decode y.2.1 pc = .ok (.ior, 1)) (hq : pc + 1 = q) (kk : zW l D tc A y d mc ms k n q L (.int (x ||| y2) :: st) S Q) : zW l D tc A y d mc ms k n pc L (.int y2 :: .int x :: st) S Q := by
  subst hq
  intro p e s m args below meth c ad ad0 n0 H locs ls C hP hD hS hL hn ha hm
  exact lv_ior C.1 C.2.1 hd (kk p e s m args below meth c ad ad0 n0 H locs ls C hP hD hS hL hn ha hm)
theorem zx_ixor {x y2 : Int32} (hd : decode y.2.1 pc = .ok (.ixor, 1)) (hq : pc + 1 = q) (kk : zW l D tc A y d mc ms k n q L (.int (x ^^^ y2) :: st) S Q) : zW l D tc A y d mc ms k n pc L (.int y2 :: .int x :: st) S Q := by
  subst hq
  intro p e s m args below meth c ad ad0 n0 H locs ls C hP hD hS hL hn ha hm
  exact lv_ixor C.1 C.2.1 hd (kk p e s m args below meth c ad ad0 n0 H locs ls C hP hD hS hL hn ha hm)
theorem zx_land {x y2 : Int64} (hd : decode y.2.1 pc = .ok (.land, 1)) (hq : pc + 1 = q) (kk : zW l D tc A y d mc ms k n q L (.long (x &&& y2) :: st) S Q) : zW l D tc A y d mc ms k n pc L (.long y2 :: .long x :: st) S Q := by
  subst hq
  intro p e s m args below meth c ad ad0 n0 H locs ls C hP hD hS hL hn ha hm
  exact lv_land C.1 C.2.1 hd (kk p e s m args below meth c ad ad0 n0 H locs ls C hP hD hS hL hn ha hm)
theorem zx_lor {x y2 : Int64} (hd : decode y.2.1 pc = .ok (.lor, 1)) (hq : pc + 1 = q) (kk : zW l D tc A y d mc ms k n q L (.long (x ||| y2) :: st) S Q) : zW l D tc A y d mc ms k n pc L (.long y2 :: .long x :: st) S Q := by
  subst hq
  intro p e s m args below meth c ad ad0 n0 H locs ls C hP hD hS hL hn ha hm
  exact lv_lor C.1 C.2.1 hd (kk p e s m args below meth c ad ad0 n0 H locs ls C hP hD hS hL hn ha hm)
theorem zx_idiv {x y2 : Int32} (hd : decode y.2.1 pc = .ok (.idiv, 1)) (hne : ¬ y2 = 0) (hq : pc + 1 = q) (kk : zW l D tc A y d mc ms k n q L (.int (x / y2) :: st) S Q) : zW l D tc A y d mc ms k n pc L (.int y2 :: .int x :: st) S Q := by
  subst hq
  intro p e s m args below meth c ad ad0 n0 H locs ls C hP hD hS hL hn ha hm
  exact lv_idiv C.1 C.2.1 hd hne (kk p e s m args below meth c ad ad0 n0 H locs ls C hP hD hS hL hn ha hm)
theorem zx_irem {x y2 : Int32} (hd : decode y.2.1 pc = .ok (.irem, 1)) (hne : ¬ y2 = 0) (hq : pc + 1 = q) (kk : zW l D tc A y d mc ms k n q L (.int (x - x / y2 * y2) :: st) S Q) : zW l D tc A y d mc ms k n pc L (.int y2 :: .int x :: st) S Q := by
  subst hq
  intro p e s m args below meth c ad ad0 n0 H locs ls C hP hD hS hL hn ha hm
  exact lv_irem C.1 C.2.1 hd hne (kk p e s m args below meth c ad ad0 n0 H locs ls C hP hD hS hL hn ha hm)
theorem zx_ldiv {x y2 : Int64} (hd : decode y.2.1 pc = .ok (.ldiv, 1)) (hne : ¬ y2 = 0) (hq : pc + 1 = q) (kk : zW l D tc A y d mc ms k n q L (.long (x / y2) :: st) S Q) : zW l D tc A y d mc ms k n pc L (.long y2 :: .long x :: st) S Q := by
  subst hq
  intro p e s m args below meth c ad ad0 n0 H locs ls C hP hD hS hL hn ha hm
  exact lv_ldiv C.1 C.2.1 hd hne (kk p e s m args below meth c ad ad0 n0 H locs ls C hP hD hS hL hn ha hm)
theorem zx_lrem {x y2 : Int64} (hd : decode y.2.1 pc = .ok (.lrem, 1)) (hne : ¬ y2 = 0) (hq : pc + 1 = q) (kk : zW l D tc A y d mc ms k n q L (.long (x - x / y2 * y2) :: st) S Q) : zW l D tc A y d mc ms k n pc L (.long y2 :: .long x :: st) S Q := by
  subst hq
  intro p e s m args below meth c ad ad0 n0 H locs ls C hP hD hS hL hn ha hm
  exact lv_lrem C.1 C.2.1 hd hne (kk p e s m args below meth c ad ad0 n0 H locs ls C hP hD hS hL hn ha hm)
theorem zx_ineg {x : Int32} (hd : decode y.2.1 pc = .ok (.ineg, 1)) (hq : pc + 1 = q) (kk : zW l D tc A y d mc ms k n q L (.int (-x) :: st) S Q) : zW l D tc A y d mc ms k n pc L (.int x :: st) S Q := by
  subst hq
  intro p e s m args below meth c ad ad0 n0 H locs ls C hP hD hS hL hn ha hm
  exact lv_ineg C.1 C.2.1 hd (kk p e s m args below meth c ad ad0 n0 H locs ls C hP hD hS hL hn ha hm)
theorem zx_ishl {x y2 : Int32} (hd : decode y.2.1 pc = .ok (.ishl, 1)) (hq : pc + 1 = q) (kk : zW l D tc A y d mc ms k n q L (.int (x <<< (y2 &&& 31)) :: st) S Q) : zW l D tc A y d mc ms k n pc L (.int y2 :: .int x :: st) S Q := by
  subst hq
  intro p e s m args below meth c ad ad0 n0 H locs ls C hP hD hS hL hn ha hm
  exact lv_ishl C.1 C.2.1 hd (kk p e s m args below meth c ad ad0 n0 H locs ls C hP hD hS hL hn ha hm)
theorem zx_ishr {x y2 : Int32} (hd : decode y.2.1 pc = .ok (.ishr, 1)) (hq : pc + 1 = q) (kk : zW l D tc A y d mc ms k n q L (.int (x >>> (y2 &&& 31)) :: st) S Q) : zW l D tc A y d mc ms k n pc L (.int y2 :: .int x :: st) S Q := by
  subst hq
  intro p e s m args below meth c ad ad0 n0 H locs ls C hP hD hS hL hn ha hm
  exact lv_ishr C.1 C.2.1 hd (kk p e s m args below meth c ad ad0 n0 H locs ls C hP hD hS hL hn ha hm)
theorem zx_iushr {x y2 v : Int32} (hd : decode y.2.1 pc = .ok (.iushr, 1)) (hv : (x.toUInt32 >>> (y2.toUInt32 &&& Int32.toUInt32 31)).toInt32 = v) (hq : pc + 1 = q) (kk : zW l D tc A y d mc ms k n q L (.int v :: st) S Q) : zW l D tc A y d mc ms k n pc L (.int y2 :: .int x :: st) S Q := by
  subst hq
  intro p e s m args below meth c ad ad0 n0 H locs ls C hP hD hS hL hn ha hm
  exact lv_iushr C.1 C.2.1 hd hv (kk p e s m args below meth c ad ad0 n0 H locs ls C hP hD hS hL hn ha hm)
theorem zx_lshl {x v : Int64} {y2 : Int32} (hd : decode y.2.1 pc = .ok (.lshl, 1)) (hv : x <<< (y2.toInt64 &&& 63) = v) (hq : pc + 1 = q) (kk : zW l D tc A y d mc ms k n q L (.long v :: st) S Q) : zW l D tc A y d mc ms k n pc L (.int y2 :: .long x :: st) S Q := by
  subst hq
  intro p e s m args below meth c ad ad0 n0 H locs ls C hP hD hS hL hn ha hm
  exact lv_lshl C.1 C.2.1 hd hv (kk p e s m args below meth c ad ad0 n0 H locs ls C hP hD hS hL hn ha hm)
theorem zx_i2l {x : Int32} (hd : decode y.2.1 pc = .ok (.i2l, 1)) (hq : pc + 1 = q) (kk : zW l D tc A y d mc ms k n q L (.long (x.toInt64) :: st) S Q) : zW l D tc A y d mc ms k n pc L (.int x :: st) S Q := by
  subst hq
  intro p e s m args below meth c ad ad0 n0 H locs ls C hP hD hS hL hn ha hm
  exact lv_i2l C.1 C.2.1 hd rfl (kk p e s m args below meth c ad ad0 n0 H locs ls C hP hD hS hL hn ha hm)
theorem zx_l2i {x : Int64} (hd : decode y.2.1 pc = .ok (.l2i, 1)) (hq : pc + 1 = q) (kk : zW l D tc A y d mc ms k n q L (.int (x.toInt32) :: st) S Q) : zW l D tc A y d mc ms k n pc L (.long x :: st) S Q := by
  subst hq
  intro p e s m args below meth c ad ad0 n0 H locs ls C hP hD hS hL hn ha hm
  exact lv_l2i C.1 C.2.1 hd rfl (kk p e s m args below meth c ad ad0 n0 H locs ls C hP hD hS hL hn ha hm)
theorem zx_i2b {x : Int32} (hd : decode y.2.1 pc = .ok (.i2b, 1)) (hq : pc + 1 = q) (kk : zW l D tc A y d mc ms k n q L (.int (x.toInt8.toInt32) :: st) S Q) : zW l D tc A y d mc ms k n pc L (.int x :: st) S Q := by
  subst hq
  intro p e s m args below meth c ad ad0 n0 H locs ls C hP hD hS hL hn ha hm
  exact lv_i2b C.1 C.2.1 hd rfl (kk p e s m args below meth c ad ad0 n0 H locs ls C hP hD hS hL hn ha hm)
theorem zx_i2s {x : Int32} (hd : decode y.2.1 pc = .ok (.i2s, 1)) (hq : pc + 1 = q) (kk : zW l D tc A y d mc ms k n q L (.int (x.toInt16.toInt32) :: st) S Q) : zW l D tc A y d mc ms k n pc L (.int x :: st) S Q := by
  subst hq
  intro p e s m args below meth c ad ad0 n0 H locs ls C hP hD hS hL hn ha hm
  exact lv_i2s C.1 C.2.1 hd rfl (kk p e s m args below meth c ad ad0 n0 H locs ls C hP hD hS hL hn ha hm)
theorem zx_i2c {x : Int32} (hd : decode y.2.1 pc = .ok (.i2c, 1)) (hq : pc + 1 = q) (kk : zW l D tc A y d mc ms k n q L (.int ((x.toUInt32 % 65536).toInt32) :: st) S Q) : zW l D tc A y d mc ms k n pc L (.int x :: st) S Q := by
  subst hq
  intro p e s m args below meth c ad ad0 n0 H locs ls C hP hD hS hL hn ha hm
  exact lv_i2c C.1 C.2.1 hd rfl (kk p e s m args below meth c ad ad0 n0 H locs ls C hP hD hS hL hn ha hm)
theorem zx_lcmp {x y2 : Int64} (hd : decode y.2.1 pc = .ok (.lcmp, 1)) (hq : pc + 1 = q) (kk : zW l D tc A y d mc ms k n q L (.int (lg_cmp x y2) :: st) S Q) : zW l D tc A y d mc ms k n pc L (.long y2 :: .long x :: st) S Q := by
  subst hq
  intro p e s m args below meth c ad ad0 n0 H locs ls C hP hD hS hL hn ha hm
  exact W.lcmp C.1 C.2.1 hd (kk p e s m args below meth c ad ad0 n0 H locs ls C hP hD hS hL hn ha hm)
theorem zx_dup {va : Value} (hd : decode y.2.1 pc = .ok (.dup, 1)) (hc : va.category = 1) (hq : pc + 1 = q) (kk : zW l D tc A y d mc ms k n q L (va :: va :: st) S Q) : zW l D tc A y d mc ms k n pc L (va :: st) S Q := by
  subst hq
  intro p e s m args below meth c ad ad0 n0 H locs ls C hP hD hS hL hn ha hm
  exact lv_dup C.1 C.2.1 hd ((zw_v_cat _ _).trans hc) (kk p e s m args below meth c ad ad0 n0 H locs ls C hP hD hS hL hn ha hm)
theorem zx_pop {va : Value} (hd : decode y.2.1 pc = .ok (.pop, 1)) (hc : va.category = 1) (hq : pc + 1 = q) (kk : zW l D tc A y d mc ms k n q L (st) S Q) : zW l D tc A y d mc ms k n pc L (va :: st) S Q := by
  subst hq
  intro p e s m args below meth c ad ad0 n0 H locs ls C hP hD hS hL hn ha hm
  exact lv_pop C.1 C.2.1 hd ((zw_v_cat _ _).trans hc) (kk p e s m args below meth c ad ad0 n0 H locs ls C hP hD hS hL hn ha hm)
theorem zx_dup2 {va vb : Value} (hd : decode y.2.1 pc = .ok (.dup2, 1)) (hc : va.category = 1) (hc2 : vb.category = 1) (hq : pc + 1 = q) (kk : zW l D tc A y d mc ms k n q L (va :: vb :: va :: vb :: st) S Q) : zW l D tc A y d mc ms k n pc L (va :: vb :: st) S Q := by
  subst hq
  intro p e s m args below meth c ad ad0 n0 H locs ls C hP hD hS hL hn ha hm
  exact lv_dup2_11 C.1 C.2.1 hd ((zw_v_cat _ _).trans hc) ((zw_v_cat _ _).trans hc2) (kk p e s m args below meth c ad ad0 n0 H locs ls C hP hD hS hL hn ha hm)
theorem zx_iload_n {j : Fin 4} {i : Nat} {x : Int32} (hd : decode y.2.1 pc = .ok (.iload_n j, 1)) (hi : (j : Nat) = i) (hl : L[i]? = some (some (.int x))) (hq : pc + 1 = q) (kk : zW l D tc A y d mc ms k n q L (.int x :: st) S Q) : zW l D tc A y d mc ms k n pc L (st) S Q := by
  subst hq
  intro p e s m args below meth c ad ad0 n0 H locs ls C hP hD hS hL hn ha hm
  exact lv_iload_n C.1 C.2.1 hd hi (hL.at hl) (kk p e s m args below meth c ad ad0 n0 H locs ls C hP hD hS hL hn ha hm)
theorem zx_iload {i : Nat} {x : Int32} (hd : decode y.2.1 pc = .ok (.iload i, 2)) (hl : L[i]? = some (some (.int x))) (hq : pc + 2 = q) (kk : zW l D tc A y d mc ms k n q L (.int x :: st) S Q) : zW l D tc A y d mc ms k n pc L (st) S Q := by
  subst hq
  intro p e s m args below meth c ad ad0 n0 H locs ls C hP hD hS hL hn ha hm
  exact lv_iload C.1 C.2.1 hd (hL.at hl) (kk p e s m args below meth c ad ad0 n0 H locs ls C hP hD hS hL hn ha hm)
theorem zx_lload_n {j : Fin 4} {i : Nat} {x : Int64} (hd : decode y.2.1 pc = .ok (.lload_n j, 1)) (hi : (j : Nat) = i) (hl : L[i]? = some (some (.long x))) (hq : pc + 1 = q) (kk : zW l D tc A y d mc ms k n q L (.long x :: st) S Q) : zW l D tc A y d mc ms k n pc L (st) S Q := by
  subst hq
  intro p e s m args below meth c ad ad0 n0 H locs ls C hP hD hS hL hn ha hm
  exact lv_lload_n C.1 C.2.1 hd hi (hL.at hl) (kk p e s m args below meth c ad ad0 n0 H locs ls C hP hD hS hL hn ha hm)
theorem zx_lload {i : Nat} {x : Int64} (hd : decode y.2.1 pc = .ok (.lload i, 2)) (hl : L[i]? = some (some (.long x))) (hq : pc + 2 = q) (kk : zW l D tc A y d mc ms k n q L (.long x :: st) S Q) : zW l D tc A y d mc ms k n pc L (st) S Q := by
  subst hq
  intro p e s m args below meth c ad ad0 n0 H locs ls C hP hD hS hL hn ha hm
  exact lv_lload C.1 C.2.1 hd (hL.at hl) (kk p e s m args below meth c ad ad0 n0 H locs ls C hP hD hS hL hn ha hm)
theorem zx_aload_n {j : Fin 4} {i : Nat} {x : Nat} (hd : decode y.2.1 pc = .ok (.aload_n j, 1)) (hi : (j : Nat) = i) (hl : L[i]? = some (some (.ref x))) (hq : pc + 1 = q) (kk : zW l D tc A y d mc ms k n q L (.ref x :: st) S Q) : zW l D tc A y d mc ms k n pc L (st) S Q := by
  subst hq
  intro p e s m args below meth c ad ad0 n0 H locs ls C hP hD hS hL hn ha hm
  exact lv_aload_n C.1 C.2.1 hd hi (hL.at hl) (kk p e s m args below meth c ad ad0 n0 H locs ls C hP hD hS hL hn ha hm)
theorem zx_aload {i : Nat} {x : Nat} (hd : decode y.2.1 pc = .ok (.aload i, 2)) (hl : L[i]? = some (some (.ref x))) (hq : pc + 2 = q) (kk : zW l D tc A y d mc ms k n q L (.ref x :: st) S Q) : zW l D tc A y d mc ms k n pc L (st) S Q := by
  subst hq
  intro p e s m args below meth c ad ad0 n0 H locs ls C hP hD hS hL hn ha hm
  exact lv_aload C.1 C.2.1 hd (hL.at hl) (kk p e s m args below meth c ad ad0 n0 H locs ls C hP hD hS hL hn ha hm)
theorem zx_istore_n {j : Fin 4} {i : Nat} {x : Int32} (hd : decode y.2.1 pc = .ok (.istore_n j, 1)) (hi : (j : Nat) = i) (hlt : i < L.length) (hz : zw_nl L i = true) (hq : pc + 1 = q) (kk : zW l D tc A y d mc ms k n q (L.set i (some (.int x))) st S Q) : zW l D tc A y d mc ms k n pc L (.int x :: st) S Q := by
  subst hq
  intro p e s m args below meth c ad ad0 n0 H locs ls C hP hD hS hL hn ha hm
  exact lv_istore_n C.1 C.2.1 hd hi hL.1 (by rw [← hL.2]; exact hlt) rfl (fun ls' h => kk p e s m args below meth c ad ad0 n0 H locs ls' C hP hD hS (by exact zw_L.st1 hL.2 hlt hz h) hn ha hm)
theorem zx_istore {i : Nat} {x : Int32} (hd : decode y.2.1 pc = .ok (.istore i, 2)) (hlt : i < L.length) (hz : zw_nl L i = true) (hq : pc + 2 = q) (kk : zW l D tc A y d mc ms k n q (L.set i (some (.int x))) st S Q) : zW l D tc A y d mc ms k n pc L (.int x :: st) S Q := by
  subst hq
  intro p e s m args below meth c ad ad0 n0 H locs ls C hP hD hS hL hn ha hm
  exact lv_istore C.1 C.2.1 hd hL.1 (by rw [← hL.2]; exact hlt) rfl (fun ls' h => kk p e s m args below meth c ad ad0 n0 H locs ls' C hP hD hS (by exact zw_L.st1 hL.2 hlt hz h) hn ha hm)
theorem zx_astore_n {j : Fin 4} {i : Nat} {x : Nat} (hd : decode y.2.1 pc = .ok (.astore_n j, 1)) (hi : (j : Nat) = i) (hlt : i < L.length) (hz : zw_nl L i = true) (hq : pc + 1 = q) (kk : zW l D tc A y d mc ms k n q (L.set i (some (.ref x))) st S Q) : zW l D tc A y d mc ms k n pc L (.ref x :: st) S Q := by
  subst hq
  intro p e s m args below meth c ad ad0 n0 H locs ls C hP hD hS hL hn ha hm
  exact lv_astore_n C.1 C.2.1 hd hi hL.1 (by rw [← hL.2]; exact hlt) rfl (fun ls' h => kk p e s m args below meth c ad ad0 n0 H locs ls' C hP hD hS (by exact zw_L.st1 hL.2 hlt hz h) hn ha hm)
theorem zx_astore {i : Nat} {x : Nat} (hd : decode y.2.1 pc = .ok (.astore i, 2)) (hlt : i < L.length) (hz : zw_nl L i = true) (hq : pc + 2 = q) (kk : zW l D tc A y d mc ms k n q (L.set i (some (.ref x))) st S Q) : zW l D tc A y d mc ms k n pc L (.ref x :: st) S Q := by
  subst hq
  intro p e s m args below meth c ad ad0 n0 H locs ls C hP hD hS hL hn ha hm
  exact lv_astore C.1 C.2.1 hd hL.1 (by rw [← hL.2]; exact hlt) rfl (fun ls' h => kk p e s m args below meth c ad ad0 n0 H locs ls' C hP hD hS (by exact zw_L.st1 hL.2 hlt hz h) hn ha hm)
theorem zx_lstore_n {j : Fin 4} {i : Nat} {x : Int64} (hd : decode y.2.1 pc = .ok (.lstore_n j, 1)) (hi : (j : Nat) = i) (hlt : i + 1 < L.length) (hz : zw_nl L i = true) (hq : pc + 1 = q) (kk : zW l D tc A y d mc ms k n q ((L.set i (some (.long x))).set (i + 1) none) st S Q) : zW l D tc A y d mc ms k n pc L (.long x :: st) S Q := by
  subst hq
  intro p e s m args below meth c ad ad0 n0 H locs ls C hP hD hS hL hn ha hm
  exact lv_lstore_n C.1 C.2.1 hd hi hL.1 (by rw [← hL.2]; exact hlt) rfl (fun ls' h => kk p e s m args below meth c ad ad0 n0 H locs ls' C hP hD hS (by exact zw_L.st2 hL.2 (by omega) hz h) hn ha hm)
theorem zx_lstore {i : Nat} {x : Int64} (hd : decode y.2.1 pc = .ok (.lstore i, 2)) (hlt : i + 1 < L.length) (hz : zw_nl L i = true) (hq : pc + 2 = q) (kk : zW l D tc A y d mc ms k n q ((L.set i (some (.long x))).set (i + 1) none) st S Q) : zW l D tc A y d mc ms k n pc L (.long x :: st) S Q := by
  subst hq
  intro p e s m args below meth c ad ad0 n0 H locs ls C hP hD hS hL hn ha hm
  exact lv_lstore C.1 C.2.1 hd hL.1 (by rw [← hL.2]; exact hlt) rfl (fun ls' h => kk p e s m args below meth c ad ad0 n0 H locs ls' C hP hD hS (by exact zw_L.st2 hL.2 (by omega) hz h) hn ha hm)
theorem zx_iinc {i : Nat} {w : Int} {x : Int32} (hd : decode y.2.1 pc = .ok (.iinc i w, 3)) (hl : L[i]? = some (some (.int x))) (hz : zw_nl L i = true) (hq : pc + 3 = q) (kk : zW l D tc A y d mc ms k n q (L.set i (some (.int (x + Int32.ofInt w)))) st S Q) : zW l D tc A y d mc ms k n pc L st S Q := by
  subst hq
  intro p e s m args below meth c ad ad0 n0 H locs ls C hP hD hS hL hn ha hm
  obtain ⟨kp, hkp⟩ := List.getElem?_of_mem (zw_lv_mem.mpr ⟨i, .int x, (Nat.zero_add i).symm, hl, rfl⟩ : (i, zw_v ad (.int x)) ∈ zw_lv ad 0 L)
  have hlt : i < L.length := (List.getElem?_eq_some_iff.mp hl).1
  exact lv_iinc C.1 C.2.1 hd hL.1 hkp rfl (by rw [← hL.2]; exact hlt) rfl (fun ls' h => kk p e s m args below meth c ad ad0 n0 H locs ls' C hP hD hS (zw_L.st1 (x := .int (x + Int32.ofInt w)) hL.2 hlt hz h) hn ha hm)
theorem zx_istore0 {v0 : Option Value} {x : Int32} (hd : decode y.2.1 pc = .ok (.istore_n 0, 1)) (hq : pc + 1 = q) (kk : zW l D tc A y d mc ms k n q (some (.int x) :: L) st S Q) : zW l D tc A y d mc ms k n pc (v0 :: L) (.int x :: st) S Q := zx_istore_n (i := 0) hd rfl (by simp) rfl hq kk
theorem zx_istore1 {v0 v1 : Option Value} {x : Int32} (hd : decode y.2.1 pc = .ok (.istore_n 1, 1)) (hz : zw_nl [v0] 1 = true) (hq : pc + 1 = q) (kk : zW l D tc A y d mc ms k n q (v0 :: some (.int x) :: L) st S Q) : zW l D tc A y d mc ms k n pc (v0 :: v1 :: L) (.int x :: st) S Q := zx_istore_n (i := 1) hd rfl (by simp) hz hq kk
theorem zx_istore2 {v0 v1 v2 : Option Value} {x : Int32} (hd : decode y.2.1 pc = .ok (.istore_n 2, 1)) (hz : zw_nl [v1] 1 = true) (hq : pc + 1 = q) (kk : zW l D tc A y d mc ms k n q (v0 :: v1 :: some (.int x) :: L) st S Q) : zW l D tc A y d mc ms k n pc (v0 :: v1 :: v2 :: L) (.int x :: st) S Q := zx_istore_n (i := 2) hd rfl (by simp) hz hq kk
theorem zx_istore3 {v0 v1 v2 v3 : Option Value} {x : Int32} (hd : decode y.2.1 pc = .ok (.istore_n 3, 1)) (hz : zw_nl [v2] 1 = true) (hq : pc + 1 = q) (kk : zW l D tc A y d mc ms k n q (v0 :: v1 :: v2 :: some (.int x) :: L) st S Q) : zW l D tc A y d mc ms k n pc (v0 :: v1 :: v2 :: v3 :: L) (.int x :: st) S Q := zx_istore_n (i := 3) hd rfl (by simp) hz hq kk
theorem zx_istore4 {v0 v1 v2 v3 v4 : Option Value} {x : Int32} (hd : decode y.2.1 pc = .ok (.istore 4, 2)) (hz : zw_nl [v3] 1 = true) (hq : pc + 2 = q) (kk : zW l D tc A y d mc ms k n q (v0 :: v1 :: v2 :: v3 :: some (.int x) :: L) st S Q) : zW l D tc A y d mc ms k n pc (v0 :: v1 :: v2 :: v3 :: v4 :: L) (.int x :: st) S Q := zx_istore (i := 4) hd (by simp) hz hq kk
theorem zx_istore5 {v0 v1 v2 v3 v4 v5 : Option Value} {x : Int32} (hd : decode y.2.1 pc = .ok (.istore 5, 2)) (hz : zw_nl [v4] 1 = true) (hq : pc + 2 = q) (kk : zW l D tc A y d mc ms k n q (v0 :: v1 :: v2 :: v3 :: v4 :: some (.int x) :: L) st S Q) : zW l D tc A y d mc ms k n pc (v0 :: v1 :: v2 :: v3 :: v4 :: v5 :: L) (.int x :: st) S Q := zx_istore (i := 5) hd (by simp) hz hq kk
theorem zx_istore6 {v0 v1 v2 v3 v4 v5 v6 : Option Value} {x : Int32} (hd : decode y.2.1 pc = .ok (.istore 6, 2)) (hz : zw_nl [v5] 1 = true) (hq : pc + 2 = q) (kk : zW l D tc A y d mc ms k n q (v0 :: v1 :: v2 :: v3 :: v4 :: v5 :: some (.int x) :: L) st S Q) : zW l D tc A y d mc ms k n pc (v0 :: v1 :: v2 :: v3 :: v4 :: v5 :: v6 :: L) (.int x :: st) S Q := zx_istore (i := 6) hd (by simp) hz hq kk
theorem zx_istore7 {v0 v1 v2 v3 v4 v5 v6 v7 : Option Value} {x : Int32} (hd : decode y.2.1 pc = .ok (.istore 7, 2)) (hz : zw_nl [v6] 1 = true) (hq : pc + 2 = q) (kk : zW l D tc A y d mc ms k n q (v0 :: v1 :: v2 :: v3 :: v4 :: v5 :: v6 :: some (.int x) :: L) st S Q) : zW l D tc A y d mc ms k n pc (v0 :: v1 :: v2 :: v3 :: v4 :: v5 :: v6 :: v7 :: L) (.int x :: st) S Q := zx_istore (i := 7) hd (by simp) hz hq kk
theorem zx_istore8 {v0 v1 v2 v3 v4 v5 v6 v7 v8 : Option Value} {x : Int32} (hd : decode y.2.1 pc = .ok (.istore 8, 2)) (hz : zw_nl [v7] 1 = true) (hq : pc + 2 = q) (kk : zW l D tc A y d mc ms k n q (v0 :: v1 :: v2 :: v3 :: v4 :: v5 :: v6 :: v7 :: some (.int x) :: L) st S Q) : zW l D tc A y d mc ms k n pc (v0 :: v1 :: v2 :: v3 :: v4 :: v5 :: v6 :: v7 :: v8 :: L) (.int x :: st) S Q := zx_istore (i := 8) hd (by simp) hz hq kk
theorem zx_istore9 {v0 v1 v2 v3 v4 v5 v6 v7 v8 v9 : Option Value} {x : Int32} (hd : decode y.2.1 pc = .ok (.istore 9, 2)) (hz : zw_nl [v8] 1 = true) (hq : pc + 2 = q) (kk : zW l D tc A y d mc ms k n q (v0 :: v1 :: v2 :: v3 :: v4 :: v5 :: v6 :: v7 :: v8 :: some (.int x) :: L) st S Q) : zW l D tc A y d mc ms k n pc (v0 :: v1 :: v2 :: v3 :: v4 :: v5 :: v6 :: v7 :: v8 :: v9 :: L) (.int x :: st) S Q := zx_istore (i := 9) hd (by simp) hz hq kk
theorem zx_istore10 {v0 v1 v2 v3 v4 v5 v6 v7 v8 v9 v10 : Option Value} {x : Int32} (hd : decode y.2.1 pc = .ok (.istore 10, 2)) (hz : zw_nl [v9] 1 = true) (hq : pc + 2 = q) (kk : zW l D tc A y d mc ms k n q (v0 :: v1 :: v2 :: v3 :: v4 :: v5 :: v6 :: v7 :: v8 :: v9 :: some (.int x) :: L) st S Q) : zW l D tc A y d mc ms k n pc (v0 :: v1 :: v2 :: v3 :: v4 :: v5 :: v6 :: v7 :: v8 :: v9 :: v10 :: L) (.int x :: st) S Q := zx_istore (i := 10) hd (by simp) hz hq kk
theorem zx_istore11 {v0 v1 v2 v3 v4 v5 v6 v7 v8 v9 v10 v11 : Option Value} {x : Int32} (hd : decode y.2.1 pc = .ok (.istore 11, 2)) (hz : zw_nl [v10] 1 = true) (hq : pc + 2 = q) (kk : zW l D tc A y d mc ms k n q (v0 :: v1 :: v2 :: v3 :: v4 :: v5 :: v6 :: v7 :: v8 :: v9 :: v10 :: some (.int x) :: L) st S Q) : zW l D tc A y d mc ms k n pc (v0 :: v1 :: v2 :: v3 :: v4 :: v5 :: v6 :: v7 :: v8 :: v9 :: v10 :: v11 :: L) (.int x :: st) S Q := zx_istore (i := 11) hd (by simp) hz hq kk
theorem zx_istore12 {v0 v1 v2 v3 v4 v5 v6 v7 v8 v9 v10 v11 v12 : Option Value} {x : Int32} (hd : decode y.2.1 pc = .ok (.istore 12, 2)) (hz : zw_nl [v11] 1 = true) (hq : pc + 2 = q) (kk : zW l D tc A y d mc ms k n q (v0 :: v1 :: v2 :: v3 :: v4 :: v5 :: v6 :: v7 :: v8 :: v9 :: v10 :: v11 :: some (.int x) :: L) st S Q) : zW l D tc A y d mc ms k n pc (v0 :: v1 :: v2 :: v3 :: v4 :: v5 :: v6 :: v7 :: v8 :: v9 :: v10 :: v11 :: v12 :: L) (.int x :: st) S Q := zx_istore (i := 12) hd (by simp) hz hq kk
theorem zx_istore13 {v0 v1 v2 v3 v4 v5 v6 v7 v8 v9 v10 v11 v12 v13 : Option Value} {x : Int32} (hd : decode y.2.1 pc = .ok (.istore 13, 2)) (hz : zw_nl [v12] 1 = true) (hq : pc + 2 = q) (kk : zW l D tc A y d mc ms k n q (v0 :: v1 :: v2 :: v3 :: v4 :: v5 :: v6 :: v7 :: v8 :: v9 :: v10 :: v11 :: v12 :: some (.int x) :: L) st S Q) : zW l D tc A y d mc ms k n pc (v0 :: v1 :: v2 :: v3 :: v4 :: v5 :: v6 :: v7 :: v8 :: v9 :: v10 :: v11 :: v12 :: v13 :: L) (.int x :: st) S Q := zx_istore (i := 13) hd (by simp) hz hq kk
theorem zx_istore14 {v0 v1 v2 v3 v4 v5 v6 v7 v8 v9 v10 v11 v12 v13 v14 : Option Value} {x : Int32} (hd : decode y.2.1 pc = .ok (.istore 14, 2)) (hz : zw_nl [v13] 1 = true) (hq : pc + 2 = q) (kk : zW l D tc A y d mc ms k n q (v0 :: v1 :: v2 :: v3 :: v4 :: v5 :: v6 :: v7 :: v8 :: v9 :: v10 :: v11 :: v12 :: v13 :: some (.int x) :: L) st S Q) : zW l D tc A y d mc ms k n pc (v0 :: v1 :: v2 :: v3 :: v4 :: v5 :: v6 :: v7 :: v8 :: v9 :: v10 :: v11 :: v12 :: v13 :: v14 :: L) (.int x :: st) S Q := zx_istore (i := 14) hd (by simp) hz hq kk
theorem zx_astore0 {v0 : Option Value} {x : Nat} (hd : decode y.2.1 pc = .ok (.astore_n 0, 1)) (hq : pc + 1 = q) (kk : zW l D tc A y d mc ms k n q (some (.ref x) :: L) st S Q) : zW l D tc A y d mc ms k n pc (v0 :: L) (.ref x :: st) S Q := zx_astore_n (i := 0) hd rfl (by simp) rfl hq kk
theorem zx_astore1 {v0 v1 : Option Value} {x : Nat} (hd : decode y.2.1 pc = .ok (.astore_n 1, 1)) (hz : zw_nl [v0] 1 = true) (hq : pc + 1 = q) (kk : zW l D tc A y d mc ms k n q (v0 :: some (.ref x) :: L) st S Q) : zW l D tc A y d mc ms k n pc (v0 :: v1 :: L) (.ref x :: st) S Q := zx_astore_n (i := 1) hd rfl (by simp) hz hq kk
theorem zx_astore2 {v0 v1 v2 : Option Value} {x : Nat} (hd : decode y.2.1 pc = .ok (.astore_n 2, 1)) (hz : zw_nl [v1] 1 = true) (hq : pc + 1 = q) (kk : zW l D tc A y d mc ms k n q (v0 :: v1 :: some (.ref x) :: L) st S Q) : zW l D tc A y d mc ms k n pc (v0 :: v1 :: v2 :: L) (.ref x :: st) S Q := zx_astore_n (i := 2) hd rfl (by simp) hz hq kk
theorem zx_astore3 {v0 v1 v2 v3 : Option Value} {x : Nat} (hd : decode y.2.1 pc = .ok (.astore_n 3, 1)) (hz : zw_nl [v2] 1 = true) (hq : pc + 1 = q) (kk : zW l D tc A y d mc ms k n q (v0 :: v1 :: v2 :: some (.ref x) :: L) st S Q) : zW l D tc A y d mc ms k n pc (v0 :: v1 :: v2 :: v3 :: L) (.ref x :: st) S Q := zx_astore_n (i := 3) hd rfl (by simp) hz hq kk
theorem zx_astore4 {v0 v1 v2 v3 v4 : Option Value} {x : Nat} (hd : decode y.2.1 pc = .ok (.astore 4, 2)) (hz : zw_nl [v3] 1 = true) (hq : pc + 2 = q) (kk : zW l D tc A y d mc ms k n q (v0 :: v1 :: v2 :: v3 :: some (.ref x) :: L) st S Q) : zW l D tc A y d mc ms k n pc (v0 :: v1 :: v2 :: v3 :: v4 :: L) (.ref x :: st) S Q := zx_astore (i := 4) hd (by simp) hz hq kk
theorem zx_astore5 {v0 v1 v2 v3 v4 v5 : Option Value} {x : Nat} (hd : decode y.2.1 pc = .ok (.astore 5, 2)) (hz : zw_nl [v4] 1 = true) (hq : pc + 2 = q) (kk : zW l D tc A y d mc ms k n q (v0 :: v1 :: v2 :: v3 :: v4 :: some (.ref x) :: L) st S Q) : zW l D tc A y d mc ms k n pc (v0 :: v1 :: v2 :: v3 :: v4 :: v5 :: L) (.ref x :: st) S Q := zx_astore (i := 5) hd (by simp) hz hq kk
theorem zx_astore6 {v0 v1 v2 v3 v4 v5 v6 : Option Value} {x : Nat} (hd : decode y.2.1 pc = .ok (.astore 6, 2)) (hz : zw_nl [v5] 1 = true) (hq : pc + 2 = q) (kk : zW l D tc A y d mc ms k n q (v0 :: v1 :: v2 :: v3 :: v4 :: v5 :: some (.ref x) :: L) st S Q) : zW l D tc A y d mc ms k n pc (v0 :: v1 :: v2 :: v3 :: v4 :: v5 :: v6 :: L) (.ref x :: st) S Q := zx_astore (i := 6) hd (by simp) hz hq kk
theorem zx_astore7 {v0 v1 v2 v3 v4 v5 v6 v7 : Option Value} {x : Nat} (hd : decode y.2.1 pc = .ok (.astore 7, 2)) (hz : zw_nl [v6] 1 = true) (hq : pc + 2 = q) (kk : zW l D tc A y d mc ms k n q (v0 :: v1 :: v2 :: v3 :: v4 :: v5 :: v6 :: some (.ref x) :: L) st S Q) : zW l D tc A y d mc ms k n pc (v0 :: v1 :: v2 :: v3 :: v4 :: v5 :: v6 :: v7 :: L) (.ref x :: st) S Q := zx_astore (i := 7) hd (by simp) hz hq kk
theorem zx_astore8 {v0 v1 v2 v3 v4 v5 v6 v7 v8 : Option Value} {x : Nat} (hd : decode y.2.1 pc = .ok (.astore 8, 2)) (hz : zw_nl [v7] 1 = true) (hq : pc + 2 = q) (kk : zW l D tc A y d mc ms k n q (v0 :: v1 :: v2 :: v3 :: v4 :: v5 :: v6 :: v7 :: some (.ref x) :: L) st S Q) : zW l D tc A y d mc ms k n pc (v0 :: v1 :: v2 :: v3 :: v4 :: v5 :: v6 :: v7 :: v8 :: L) (.ref x :: st) S Q := zx_astore (i := 8) hd (by simp) hz hq kk
theorem zx_astore9 {v0 v1 v2 v3 v4 v5 v6 v7 v8 v9 : Option Value} {x : Nat} (hd : decode y.2.1 pc = .ok (.astore 9, 2)) (hz : zw_nl [v8] 1 = true) (hq : pc + 2 = q) (kk : zW l D tc A y d mc ms k n q (v0 :: v1 :: v2 :: v3 :: v4 :: v5 :: v6 :: v7 :: v8 :: some (.ref x) :: L) st S Q) : zW l D tc A y d mc ms k n pc (v0 :: v1 :: v2 :: v3 :: v4 :: v5 :: v6 :: v7 :: v8 :: v9 :: L) (.ref x :: st) S Q := zx_astore (i := 9) hd (by simp) hz hq kk
theorem zx_astore10 {v0 v1 v2 v3 v4 v5 v6 v7 v8 v9 v10 : Option Value} {x : Nat} (hd : decode y.2.1 pc = .ok (.astore 10, 2)) (hz : zw_nl [v9] 1 = true) (hq : pc + 2 = q) (kk : zW l D tc A y d mc ms k n q (v0 :: v1 :: v2 :: v3 :: v4 :: v5 :: v6 :: v7 :: v8 :: v9 :: some (.ref x) :: L) st S Q) : zW l D tc A y d mc ms k n pc (v0 :: v1 :: v2 :: v3 :: v4 :: v5 :: v6 :: v7 :: v8 :: v9 :: v10 :: L) (.ref x :: st) S Q := zx_astore (i := 10) hd (by simp) hz hq kk
theorem zx_astore11 {v0 v1 v2 v3 v4 v5 v6 v7 v8 v9 v10 v11 : Option Value} {x : Nat} (hd : decode y.2.1 pc = .ok (.astore 11, 2)) (hz : zw_nl [v10] 1 = true) (hq : pc + 2 = q) (kk : zW l D tc A y d mc ms k n q (v0 :: v1 :: v2 :: v3 :: v4 :: v5 :: v6 :: v7 :: v8 :: v9 :: v10 :: some (.ref x) :: L) st S Q) : zW l D tc A y d mc ms k n pc (v0 :: v1 :: v2 :: v3 :: v4 :: v5 :: v6 :: v7 :: v8 :: v9 :: v10 :: v11 :: L) (.ref x :: st) S Q := zx_astore (i := 11) hd (by simp) hz hq kk
theorem zx_astore12 {v0 v1 v2 v3 v4 v5 v6 v7 v8 v9 v10 v11 v12 : Option Value} {x : Nat} (hd : decode y.2.1 pc = .ok (.astore 12, 2)) (hz : zw_nl [v11] 1 = true) (hq : pc + 2 = q) (kk : zW l D tc A y d mc ms k n q (v0 :: v1 :: v2 :: v3 :: v4 :: v5 :: v6 :: v7 :: v8 :: v9 :: v10 :: v11 :: some (.ref x) :: L) st S Q) : zW l D tc A y d mc ms k n pc (v0 :: v1 :: v2 :: v3 :: v4 :: v5 :: v6 :: v7 :: v8 :: v9 :: v10 :: v11 :: v12 :: L) (.ref x :: st) S Q := zx_astore (i := 12) hd (by simp) hz hq kk
theorem zx_astore13 {v0 v1 v2 v3 v4 v5 v6 v7 v8 v9 v10 v11 v12 v13 : Option Value} {x : Nat} (hd : decode y.2.1 pc = .ok (.astore 13, 2)) (hz : zw_nl [v12] 1 = true) (hq : pc + 2 = q) (kk : zW l D tc A y d mc ms k n q (v0 :: v1 :: v2 :: v3 :: v4 :: v5 :: v6 :: v7 :: v8 :: v9 :: v10 :: v11 :: v12 :: some (.ref x) :: L) st S Q) : zW l D tc A y d mc ms k n pc (v0 :: v1 :: v2 :: v3 :: v4 :: v5 :: v6 :: v7 :: v8 :: v9 :: v10 :: v11 :: v12 :: v13 :: L) (.ref x :: st) S Q := zx_astore (i := 13) hd (by simp) hz hq kk
theorem zx_astore14 {v0 v1 v2 v3 v4 v5 v6 v7 v8 v9 v10 v11 v12 v13 v14 : Option Value} {x : Nat} (hd : decode y.2.1 pc = .ok (.astore 14, 2)) (hz : zw_nl [v13] 1 = true) (hq : pc + 2 = q) (kk : zW l D tc A y d mc ms k n q (v0 :: v1 :: v2 :: v3 :: v4 :: v5 :: v6 :: v7 :: v8 :: v9 :: v10 :: v11 :: v12 :: v13 :: some (.ref x) :: L) st S Q) : zW l D tc A y d mc ms k n pc (v0 :: v1 :: v2 :: v3 :: v4 :: v5 :: v6 :: v7 :: v8 :: v9 :: v10 :: v11 :: v12 :: v13 :: v14 :: L) (.ref x :: st) S Q := zx_astore (i := 14) hd (by simp) hz hq kk
theorem zx_iinc0 {w : Int} {x : Int32} (hd : decode y.2.1 pc = .ok (.iinc 0 w, 3)) (hq : pc + 3 = q) (kk : zW l D tc A y d mc ms k n q (some (.int (x + Int32.ofInt w)) :: L) st S Q) : zW l D tc A y d mc ms k n pc (some (.int x) :: L) st S Q := zx_iinc (i := 0) hd rfl rfl hq kk
theorem zx_iinc1 {v0 : Option Value} {w : Int} {x : Int32} (hd : decode y.2.1 pc = .ok (.iinc 1 w, 3)) (hz : zw_nl [v0] 1 = true) (hq : pc + 3 = q) (kk : zW l D tc A y d mc ms k n q (v0 :: some (.int (x + Int32.ofInt w)) :: L) st S Q) : zW l D tc A y d mc ms k n pc (v0 :: some (.int x) :: L) st S Q := zx_iinc (i := 1) hd rfl hz hq kk
theorem zx_iinc2 {v0 v1 : Option Value} {w : Int} {x : Int32} (hd : decode y.2.1 pc = .ok (.iinc 2 w, 3)) (hz : zw_nl [v1] 1 = true) (hq : pc + 3 = q) (kk : zW l D tc A y d mc ms k n q (v0 :: v1 :: some (.int (x + Int32.ofInt w)) :: L) st S Q) : zW l D tc A y d mc ms k n pc (v0 :: v1 :: some (.int x) :: L) st S Q := zx_iinc (i := 2) hd rfl hz hq kk
theorem zx_iinc3 {v0 v1 v2 : Option Value} {w : Int} {x : Int32} (hd : decode y.2.1 pc = .ok (.iinc 3 w, 3)) (hz : zw_nl [v2] 1 = true) (hq : pc + 3 = q) (kk : zW l D tc A y d mc ms k n q (v0 :: v1 :: v2 :: some (.int (x + Int32.ofInt w)) :: L) st S Q) : zW l D tc A y d mc ms k n pc (v0 :: v1 :: v2 :: some (.int x) :: L) st S Q := zx_iinc (i := 3) hd rfl hz hq kk
theorem zx_iinc4 {v0 v1 v2 v3 : Option Value} {w : Int} {x : Int32} (hd : decode y.2.1 pc = .ok (.iinc 4 w, 3)) (hz : zw_nl [v3] 1 = true) (hq : pc + 3 = q) (kk : zW l D tc A y d mc ms k n q (v0 :: v1 :: v2 :: v3 :: some (.int (x + Int32.ofInt w)) :: L) st S Q) : zW l D tc A y d mc ms k n pc (v0 :: v1 :: v2 :: v3 :: some (.int x) :: L) st S Q := zx_iinc (i := 4) hd rfl hz hq kk
theorem zx_iinc5 {v0 v1 v2 v3 v4 : Option Value} {w : Int} {x : Int32} (hd : decode y.2.1 pc = .ok (.iinc 5 w, 3)) (hz : zw_nl [v4] 1 = true) (hq : pc + 3 = q) (kk : zW l D tc A y d mc ms k n q (v0 :: v1 :: v2 :: v3 :: v4 :: some (.int (x + Int32.ofInt w)) :: L) st S Q) : zW l D tc A y d mc ms k n pc (v0 :: v1 :: v2 :: v3 :: v4 :: some (.int x) :: L) st S Q := zx_iinc (i := 5) hd rfl hz hq kk
theorem zx_iinc6 {v0 v1 v2 v3 v4 v5 : Option Value} {w : Int} {x : Int32} (hd : decode y.2.1 pc = .ok (.iinc 6 w, 3)) (hz : zw_nl [v5] 1 = true) (hq : pc + 3 = q) (kk : zW l D tc A y d mc ms k n q (v0 :: v1 :: v2 :: v3 :: v4 :: v5 :: some (.int (x + Int32.ofInt w)) :: L) st S Q) : zW l D tc A y d mc ms k n pc (v0 :: v1 :: v2 :: v3 :: v4 :: v5 :: some (.int x) :: L) st S Q := zx_iinc (i := 6) hd rfl hz hq kk
theorem zx_iinc7 {v0 v1 v2 v3 v4 v5 v6 : Option Value} {w : Int} {x : Int32} (hd : decode y.2.1 pc = .ok (.iinc 7 w, 3)) (hz : zw_nl [v6] 1 = true) (hq : pc + 3 = q) (kk : zW l D tc A y d mc ms k n q (v0 :: v1 :: v2 :: v3 :: v4 :: v5 :: v6 :: some (.int (x + Int32.ofInt w)) :: L) st S Q) : zW l D tc A y d mc ms k n pc (v0 :: v1 :: v2 :: v3 :: v4 :: v5 :: v6 :: some (.int x) :: L) st S Q := zx_iinc (i := 7) hd rfl hz hq kk
theorem zx_iinc8 {v0 v1 v2 v3 v4 v5 v6 v7 : Option Value} {w : Int} {x : Int32} (hd : decode y.2.1 pc = .ok (.iinc 8 w, 3)) (hz : zw_nl [v7] 1 = true) (hq : pc + 3 = q) (kk : zW l D tc A y d mc ms k n q (v0 :: v1 :: v2 :: v3 :: v4 :: v5 :: v6 :: v7 :: some (.int (x + Int32.ofInt w)) :: L) st S Q) : zW l D tc A y d mc ms k n pc (v0 :: v1 :: v2 :: v3 :: v4 :: v5 :: v6 :: v7 :: some (.int x) :: L) st S Q := zx_iinc (i := 8) hd rfl hz hq kk
theorem zx_iinc9 {v0 v1 v2 v3 v4 v5 v6 v7 v8 : Option Value} {w : Int} {x : Int32} (hd : decode y.2.1 pc = .ok (.iinc 9 w, 3)) (hz : zw_nl [v8] 1 = true) (hq : pc + 3 = q) (kk : zW l D tc A y d mc ms k n q (v0 :: v1 :: v2 :: v3 :: v4 :: v5 :: v6 :: v7 :: v8 :: some (.int (x + Int32.ofInt w)) :: L) st S Q) : zW l D tc A y d mc ms k n pc (v0 :: v1 :: v2 :: v3 :: v4 :: v5 :: v6 :: v7 :: v8 :: some (.int x) :: L) st S Q := zx_iinc (i := 9) hd rfl hz hq kk
theorem zx_iinc10 {v0 v1 v2 v3 v4 v5 v6 v7 v8 v9 : Option Value} {w : Int} {x : Int32} (hd : decode y.2.1 pc = .ok (.iinc 10 w, 3)) (hz : zw_nl [v9] 1 = true) (hq : pc + 3 = q) (kk : zW l D tc A y d mc ms k n q (v0 :: v1 :: v2 :: v3 :: v4 :: v5 :: v6 :: v7 :: v8 :: v9 :: some (.int (x + Int32.ofInt w)) :: L) st S Q) : zW l D tc A y d mc ms k n pc (v0 :: v1 :: v2 :: v3 :: v4 :: v5 :: v6 :: v7 :: v8 :: v9 :: some (.int x) :: L) st S Q := zx_iinc (i := 10) hd rfl hz hq kk
theorem zx_iinc11 {v0 v1 v2 v3 v4 v5 v6 v7 v8 v9 v10 : Option Value} {w : Int} {x : Int32} (hd : decode y.2.1 pc = .ok (.iinc 11 w, 3)) (hz : zw_nl [v10] 1 = true) (hq : pc + 3 = q) (kk : zW l D tc A y d mc ms k n q (v0 :: v1 :: v2 :: v3 :: v4 :: v5 :: v6 :: v7 :: v8 :: v9 :: v10 :: some (.int (x + Int32.ofInt w)) :: L) st S Q) : zW l D tc A y d mc ms k n pc (v0 :: v1 :: v2 :: v3 :: v4 :: v5 :: v6 :: v7 :: v8 :: v9 :: v10 :: some (.int x) :: L) st S Q := zx_iinc (i := 11) hd rfl hz hq kk
theorem zx_iinc12 {v0 v1 v2 v3 v4 v5 v6 v7 v8 v9 v10 v11 : Option Value} {w : Int} {x : Int32} (hd : decode y.2.1 pc = .ok (.iinc 12 w, 3)) (hz : zw_nl [v11] 1 = true) (hq : pc + 3 = q) (kk : zW l D tc A y d mc ms k n q (v0 :: v1 :: v2 :: v3 :: v4 :: v5 :: v6 :: v7 :: v8 :: v9 :: v10 :: v11 :: some (.int (x + Int32.ofInt w)) :: L) st S Q) : zW l D tc A y d mc ms k n pc (v0 :: v1 :: v2 :: v3 :: v4 :: v5 :: v6 :: v7 :: v8 :: v9 :: v10 :: v11 :: some (.int x) :: L) st S Q := zx_iinc (i := 12) hd rfl hz hq kk
theorem zx_iinc13 {v0 v1 v2 v3 v4 v5 v6 v7 v8 v9 v10 v11 v12 : Option Value} {w : Int} {x : Int32} (hd : decode y.2.1 pc = .ok (.iinc 13 w, 3)) (hz : zw_nl [v12] 1 = true) (hq : pc + 3 = q) (kk : zW l D tc A y d mc ms k n q (v0 :: v1 :: v2 :: v3 :: v4 :: v5 :: v6 :: v7 :: v8 :: v9 :: v10 :: v11 :: v12 :: some (.int (x + Int32.ofInt w)) :: L) st S Q) : zW l D tc A y d mc ms k n pc (v0 :: v1 :: v2 :: v3 :: v4 :: v5 :: v6 :: v7 :: v8 :: v9 :: v10 :: v11 :: v12 :: some (.int x) :: L) st S Q := zx_iinc (i := 13) hd rfl hz hq kk
theorem zx_iinc14 {v0 v1 v2 v3 v4 v5 v6 v7 v8 v9 v10 v11 v12 v13 : Option Value} {w : Int} {x : Int32} (hd : decode y.2.1 pc = .ok (.iinc 14 w, 3)) (hz : zw_nl [v13] 1 = true) (hq : pc + 3 = q) (kk : zW l D tc A y d mc ms k n q (v0 :: v1 :: v2 :: v3 :: v4 :: v5 :: v6 :: v7 :: v8 :: v9 :: v10 :: v11 :: v12 :: v13 :: some (.int (x + Int32.ofInt w)) :: L) st S Q) : zW l D tc A y d mc ms k n pc (v0 :: v1 :: v2 :: v3 :: v4 :: v5 :: v6 :: v7 :: v8 :: v9 :: v10 :: v11 :: v12 :: v13 :: some (.int x) :: L) st S Q := zx_iinc (i := 14) hd rfl hz hq kk
theorem zx_lstore0 {v0 v1 : Option Value} {x : Int64} (hd : decode y.2.1 pc = .ok (.lstore_n 0, 1)) (hq : pc + 1 = q) (kk : zW l D tc A y d mc ms k n q (some (.long x) :: none :: L) st S Q) : zW l D tc A y d mc ms k n pc (v0 :: v1 :: L) (.long x :: st) S Q := zx_lstore_n (i := 0) hd rfl (by simp) rfl hq kk
theorem zx_lstore1 {v0 v1 v2 : Option Value} {x : Int64} (hd : decode y.2.1 pc = .ok (.lstore_n 1, 1)) (hz : zw_nl [v0] 1 = true) (hq : pc + 1 = q) (kk : zW l D tc A y d mc ms k n q (v0 :: some (.long x) :: none :: L) st S Q) : zW l D tc A y d mc ms k n pc (v0 :: v1 :: v2 :: L) (.long x :: st) S Q := zx_lstore_n (i := 1) hd rfl (by simp) hz hq kk
theorem zx_lstore2 {v0 v1 v2 v3 : Option Value} {x : Int64} (hd : decode y.2.1 pc = .ok (.lstore_n 2, 1)) (hz : zw_nl [v1] 1 = true) (hq : pc + 1 = q) (kk : zW l D tc A y d mc ms k n q (v0 :: v1 :: some (.long x) :: none :: L) st S Q) : zW l D tc A y d mc ms k n pc (v0 :: v1 :: v2 :: v3 :: L) (.long x :: st) S Q := zx_lstore_n (i := 2) hd rfl (by simp) hz hq kk
theorem zx_lstore3 {v0 v1 v2 v3 v4 : Option Value} {x : Int64} (hd : decode y.2.1 pc = .ok (.lstore_n 3, 1)) (hz : zw_nl [v2] 1 = true) (hq : pc + 1 = q) (kk : zW l D tc A y d mc ms k n q (v0 :: v1 :: v2 :: some (.long x) :: none :: L) st S Q) : zW l D tc A y d mc ms k n pc (v0 :: v1 :: v2 :: v3 :: v4 :: L) (.long x :: st) S Q := zx_lstore_n (i := 3) hd rfl (by simp) hz hq kk
theorem zx_lstore4 {v0 v1 v2 v3 v4 v5 : Option Value} {x : Int64} (hd : decode y.2.1 pc = .ok (.lstore 4, 2)) (hz : zw_nl [v3] 1 = true) (hq : pc + 2 = q) (kk : zW l D tc A y d mc ms k n q (v0 :: v1 :: v2 :: v3 :: some (.long x) :: none :: L) st S Q) : zW l D tc A y d mc ms k n pc (v0 :: v1 :: v2 :: v3 :: v4 :: v5 :: L) (.long x :: st) S Q := zx_lstore (i := 4) hd (by simp) hz hq kk
theorem zx_lstore5 {v0 v1 v2 v3 v4 v5 v6 : Option Value} {x : Int64} (hd : decode y.2.1 pc = .ok (.lstore 5, 2)) (hz : zw_nl [v4] 1 = true) (hq : pc + 2 = q) (kk : zW l D tc A y d mc ms k n q (v0 :: v1 :: v2 :: v3 :: v4 :: some (.long x) :: none :: L) st S Q) : zW l D tc A y d mc ms k n pc (v0 :: v1 :: v2 :: v3 :: v4 :: v5 :: v6 :: L) (.long x :: st) S Q := zx_lstore (i := 5) hd (by simp) hz hq kk
theorem zx_lstore6 {v0 v1 v2 v3 v4 v5 v6 v7 : Option Value} {x : Int64} (hd : decode y.2.1 pc = .ok (.lstore 6, 2)) (hz : zw_nl [v5] 1 = true) (hq : pc + 2 = q) (kk : zW l D tc A y d mc ms k n q (v0 :: v1 :: v2 :: v3 :: v4 :: v5 :: some (.long x) :: none :: L) st S Q) : zW l D tc A y d mc ms k n pc (v0 :: v1 :: v2 :: v3 :: v4 :: v5 :: v6 :: v7 :: L) (.long x :: st) S Q := zx_lstore (i := 6) hd (by simp) hz hq kk
theorem zx_lstore7 {v0 v1 v2 v3 v4 v5 v6 v7 v8 : Option Value} {x : Int64} (hd : decode y.2.1 pc = .ok (.lstore 7, 2)) (hz : zw_nl [v6] 1 = true) (hq : pc + 2 = q) (kk : zW l D tc A y d mc ms k n q (v0 :: v1 :: v2 :: v3 :: v4 :: v5 :: v6 :: some (.long x) :: none :: L) st S Q) : zW l D tc A y d mc ms k n pc (v0 :: v1 :: v2 :: v3 :: v4 :: v5 :: v6 :: v7 :: v8 :: L) (.long x :: st) S Q := zx_lstore (i := 7) hd (by simp) hz hq kk
theorem zx_lstore8 {v0 v1 v2 v3 v4 v5 v6 v7 v8 v9 : Option Value} {x : Int64} (hd : decode y.2.1 pc = .ok (.lstore 8, 2)) (hz : zw_nl [v7] 1 = true) (hq : pc + 2 = q) (kk : zW l D tc A y d mc ms k n q (v0 :: v1 :: v2 :: v3 :: v4 :: v5 :: v6 :: v7 :: some (.long x) :: none :: L) st S Q) : zW l D tc A y d mc ms k n pc (v0 :: v1 :: v2 :: v3 :: v4 :: v5 :: v6 :: v7 :: v8 :: v9 :: L) (.long x :: st) S Q := zx_lstore (i := 8) hd (by simp) hz hq kk
theorem zx_lstore9 {v0 v1 v2 v3 v4 v5 v6 v7 v8 v9 v10 : Option Value} {x : Int64} (hd : decode y.2.1 pc = .ok (.lstore 9, 2)) (hz : zw_nl [v8] 1 = true) (hq : pc + 2 = q) (kk : zW l D tc A y d mc ms k n q (v0 :: v1 :: v2 :: v3 :: v4 :: v5 :: v6 :: v7 :: v8 :: some (.long x) :: none :: L) st S Q) : zW l D tc A y d mc ms k n pc (v0 :: v1 :: v2 :: v3 :: v4 :: v5 :: v6 :: v7 :: v8 :: v9 :: v10 :: L) (.long x :: st) S Q := zx_lstore (i := 9) hd (by simp) hz hq kk
theorem zx_if_eq {x : Int32} {off : Int} {t : Nat} (hd : decode y.2.1 pc = .ok (.ifCond .eq off, 3)) (ht : (pc : Int) + off = (t : Int)) (hq : pc + 3 = q) (kt : x = 0 → zW l D tc A y d mc ms k n t L st S Q) (kf : ¬ x = 0 → zW l D tc A y d mc ms k n q L st S Q) : zW l D tc A y d mc ms k n pc L (.int x :: st) S Q := by
  subst hq
  intro p e s m args below meth c ad ad0 n0 H locs ls C hP hD hS hL hn ha hm
  exact lv_if_eq C.1 C.2.1 hd ht (fun h => kt h p e s m args below meth c ad ad0 n0 H locs ls C hP hD hS hL hn ha hm) (fun h => kf h p e s m args below meth c ad ad0 n0 H locs ls C hP hD hS hL hn ha hm)
theorem zx_if_ne {x : Int32} {off : Int} {t : Nat} (hd : decode y.2.1 pc = .ok (.ifCond .ne off, 3)) (ht : (pc : Int) + off = (t : Int)) (hq : pc + 3 = q) (kt : ¬ x = 0 → zW l D tc A y d mc ms k n t L st S Q) (kf : x = 0 → zW l D tc A y d mc ms k n q L st S Q) : zW l D tc A y d mc ms k n pc L (.int x :: st) S Q := by
  subst hq
  intro p e s m args below meth c ad ad0 n0 H locs ls C hP hD hS hL hn ha hm
  exact lv_if_ne C.1 C.2.1 hd ht (fun h => kt h p e s m args below meth c ad ad0 n0 H locs ls C hP hD hS hL hn ha hm) (fun h => kf h p e s m args below meth c ad ad0 n0 H locs ls C hP hD hS hL hn ha hm)
theorem zx_if_lt {x : Int32} {off : Int} {t : Nat} (hd : decode y.2.1 pc = .ok (.ifCond .lt off, 3)) (ht : (pc : Int) + off = (t : Int)) (hq : pc + 3 = q) (kt : x < 0 → zW l D tc A y d mc ms k n t L st S Q) (kf : ¬ x < 0 → zW l D tc A y d mc ms k n q L st S Q) : zW l D tc A y d mc ms k n pc L (.int x :: st) S Q := by
  subst hq
  intro p e s m args below meth c ad ad0 n0 H locs ls C hP hD hS hL hn ha hm
  exact lv_if_lt C.1 C.2.1 hd ht (fun h => kt h p e s m args below meth c ad ad0 n0 H locs ls C hP hD hS hL hn ha hm) (fun h => kf h p e s m args below meth c ad ad0 n0 H locs ls C hP hD hS hL hn ha hm)
theorem zx_if_ge {x : Int32} {off : Int} {t : Nat} (hd : decode y.2.1 pc = .ok (.ifCond .ge off, 3)) (ht : (pc : Int) + off = (t : Int)) (hq : pc + 3 = q) (kt : 0 ≤ x → zW l D tc A y d mc ms k n t L st S Q) (kf : ¬ 0 ≤ x → zW l D tc A y d mc ms k n q L st S Q) : zW l D tc A y d mc ms k n pc L (.int x :: st) S Q := by
  subst hq
  intro p e s m args below meth c ad ad0 n0 H locs ls C hP hD hS hL hn ha hm
  exact lv_if_ge C.1 C.2.1 hd ht (fun h => kt h p e s m args below meth c ad ad0 n0 H locs ls C hP hD hS hL hn ha hm) (fun h => kf h p e s m args below meth c ad ad0 n0 H locs ls C hP hD hS hL hn ha hm)
theorem zx_if_gt {x : Int32} {off : Int} {t : Nat} (hd : decode y.2.1 pc = .ok (.ifCond .gt off, 3)) (ht : (pc : Int) + off = (t : Int)) (hq : pc + 3 = q) (kt : 0 < x → zW l D tc A y d mc ms k n t L st S Q) (kf : ¬ 0 < x → zW l D tc A y d mc ms k n q L st S Q) : zW l D tc A y d mc ms k n pc L (.int x :: st) S Q := by
  subst hq
  intro p e s m args below meth c ad ad0 n0 H locs ls C hP hD hS hL hn ha hm
  exact lv_if_gt C.1 C.2.1 hd ht (fun h => kt h p e s m args below meth c ad ad0 n0 H locs ls C hP hD hS hL hn ha hm) (fun h => kf h p e s m args below meth c ad ad0 n0 H locs ls C hP hD hS hL hn ha hm)
theorem zx_if_le {x : Int32} {off : Int} {t : Nat} (hd : decode y.2.1 pc = .ok (.ifCond .le off, 3)) (ht : (pc : Int) + off = (t : Int)) (hq : pc + 3 = q) (kt : x ≤ 0 → zW l D tc A y d mc ms k n t L st S Q) (kf : ¬ x ≤ 0 → zW l D tc A y d mc ms k n q L st S Q) : zW l D tc A y d mc ms k n pc L (.int x :: st) S Q := by
  subst hq
  intro p e s m args below meth c ad ad0 n0 H locs ls C hP hD hS hL hn ha hm
  exact lv_if_le C.1 C.2.1 hd ht (fun h => kt h p e s m args below meth c ad ad0 n0 H locs ls C hP hD hS hL hn ha hm) (fun h => kf h p e s m args below meth c ad ad0 n0 H locs ls C hP hD hS hL hn ha hm)
theorem zx_icmp_eq {x y2 : Int32} {off : Int} {t : Nat} (hd : decode y.2.1 pc = .ok (.if_icmp .eq off, 3)) (ht : (pc : Int) + off = (t : Int)) (hq : pc + 3 = q) (kt : x = y2 → zW l D tc A y d mc ms k n t L st S Q) (kf : ¬ x = y2 → zW l D tc A y d mc ms k n q L st S Q) : zW l D tc A y d mc ms k n pc L (.int y2 :: .int x :: st) S Q := by
  subst hq
  intro p e s m args below meth c ad ad0 n0 H locs ls C hP hD hS hL hn ha hm
  exact lv_icmp_eq C.1 C.2.1 hd ht (fun h => kt h p e s m args below meth c ad ad0 n0 H locs ls C hP hD hS hL hn ha hm) (fun h => kf h p e s m args below meth c ad ad0 n0 H locs ls C hP hD hS hL hn ha hm)
theorem zx_icmp_ne {x y2 : Int32} {off : Int} {t : Nat} (hd : decode y.2.1 pc = .ok (.if_icmp .ne off, 3)) (ht : (pc : Int) + off = (t : Int)) (hq : pc + 3 = q) (kt : ¬ x = y2 → zW l D tc A y d mc ms k n t L st S Q) (kf : x = y2 → zW l D tc A y d mc ms k n q L st S Q) : zW l D tc A y d mc ms k n pc L (.int y2 :: .int x :: st) S Q := by
  subst hq
  intro p e s m args below meth c ad ad0 n0 H locs ls C hP hD hS hL hn ha hm
  exact lv_icmp_ne C.1 C.2.1 hd ht (fun h => kt h p e s m args below meth c ad ad0 n0 H locs ls C hP hD hS hL hn ha hm) (fun h => kf h p e s m args below meth c ad ad0 n0 H locs ls C hP hD hS hL hn ha hm)
theorem zx_icmp_lt {x y2 : Int32} {off : Int} {t : Nat} (hd : decode y.2.1 pc = .ok (.if_icmp .lt off, 3)) (ht : (pc : Int) + off = (t : Int)) (hq : pc + 3 = q) (kt : x < y2 → zW l D tc A y d mc ms k n t L st S Q) (kf : ¬ x < y2 → zW l D tc A y d mc ms k n q L st S Q) : zW l D tc A y d mc ms k n pc L (.int y2 :: .int x :: st) S Q := by
  subst hq
  intro p e s m args below meth c ad ad0 n0 H locs ls C hP hD hS hL hn ha hm
  exact lv_icmp_lt C.1 C.2.1 hd ht (fun h => kt h p e s m args below meth c ad ad0 n0 H locs ls C hP hD hS hL hn ha hm) (fun h => kf h p e s m args below meth c ad ad0 n0 H locs ls C hP hD hS hL hn ha hm)
theorem zx_icmp_ge {x y2 : Int32} {off : Int} {t : Nat} (hd : decode y.2.1 pc = .ok (.if_icmp .ge off, 3)) (ht : (pc : Int) + off = (t : Int)) (hq : pc + 3 = q) (kt : y2 ≤ x → zW l D tc A y d mc ms k n t L st S Q) (kf : ¬ y2 ≤ x → zW l D tc A y d mc ms k n q L st S Q) : zW l D tc A y d mc ms k n pc L (.int y2 :: .int x :: st) S Q := by
  subst hq
  intro p e s m args below meth c ad ad0 n0 H locs ls C hP hD hS hL hn ha hm
  exact lv_icmp_ge C.1 C.2.1 hd ht (fun h => kt h p e s m args below meth c ad ad0 n0 H locs ls C hP hD hS hL hn ha hm) (fun h => kf h p e s m args below meth c ad ad0 n0 H locs ls C hP hD hS hL hn ha hm)
theorem zx_icmp_gt {x y2 : Int32} {off : Int} {t : Nat} (hd : decode y.2.1 pc = .ok (.if_icmp .gt off, 3)) (ht : (pc : Int) + off = (t : Int)) (hq : pc + 3 = q) (kt : y2 < x → zW l D tc A y d mc ms k n t L st S Q) (kf : ¬ y2 < x → zW l D tc A y d mc ms k n q L st S Q) : zW l D tc A y d mc ms k n pc L (.int y2 :: .int x :: st) S Q := by
  subst hq
  intro p e s m args below meth c ad ad0 n0 H locs ls C hP hD hS hL hn ha hm
  exact lv_icmp_gt C.1 C.2.1 hd ht (fun h => kt h p e s m args below meth c ad ad0 n0 H locs ls C hP hD hS hL hn ha hm) (fun h => kf h p e s m args below meth c ad ad0 n0 H locs ls C hP hD hS hL hn ha hm)
theorem zx_icmp_le {x y2 : Int32} {off : Int} {t : Nat} (hd : decode y.2.1 pc = .ok (.if_icmp .le off, 3)) (ht : (pc : Int) + off = (t : Int)) (hq : pc + 3 = q) (kt : x ≤ y2 → zW l D tc A y d mc ms k n t L st S Q) (kf : ¬ x ≤ y2 → zW l D tc A y d mc ms k n q L st S Q) : zW l D tc A y d mc ms k n pc L (.int y2 :: .int x :: st) S Q := by
  subst hq
  intro p e s m args below meth c ad ad0 n0 H locs ls C hP hD hS hL hn ha hm
  exact lv_icmp_le C.1 C.2.1 hd ht (fun h => kt h p e s m args below meth c ad ad0 n0 H locs ls C hP hD hS hL hn ha hm) (fun h => kf h p e s m args below meth c ad ad0 n0 H locs ls C hP hD hS hL hn ha hm)
theorem zx_goto {off : Int} {t : Nat} (hd : decode y.2.1 pc = .ok (.goto off, 3)) (ht : (pc : Int) + off = (t : Int)) (kk : zW l D tc A y d mc ms k n t L st S Q) : zW l D tc A y d mc ms k n pc L st S Q := by
  intro p e s m args below meth c ad ad0 n0 H locs ls C hP hD hS hL hn ha hm
  exact lv_goto C.1 C.2.1 hd ht (kk p e s m args below meth c ad ad0 n0 H locs ls C hP hD hS hL hn ha hm)
theorem zx_lookup {dflt : Int} {ps : Array (Int × Int)} {len : Nat} {x : Int32} {off : Int} {t : Nat} (hd : decode y.2.1 pc = .ok (.lookupswitch dflt ps, len)) (hp : (ps.toList.zip (ps.toList.drop 1)).all (fun (a, next) => a.1 < next.1) = true) (ho : Op.lookupswitch.offset ps.toList dflt x.toInt = off) (ht : (pc : Int) + off = (t : Int)) (kk : zW l D tc A y d mc ms k n t L st S Q) : zW l D tc A y d mc ms k n pc L (.int x :: st) S Q := by
  intro p e s m args below meth c ad ad0 n0 H locs ls C hP hD hS hL hn ha hm
  exact lv_lookup C.1 C.2.1 hd hp ho ht (kk p e s m args below meth c ad ad0 n0 H locs ls C hP hD hS hL hn ha hm)
theorem zx_tblIn {dflt lo hi : Int} {offs : Array Int} {len : Nat} {x : Int32} {off : Int} {t : Nat} (hd : decode y.2.1 pc = .ok (.tableswitch dflt lo hi offs, len)) (h1 : ¬ x.toInt < lo) (h2 : ¬ hi < x.toInt) (ho : offs[(x.toInt - lo).toNat]? = some off) (ht : (pc : Int) + off = (t : Int)) (kk : zW l D tc A y d mc ms k n t L st S Q) : zW l D tc A y d mc ms k n pc L (.int x :: st) S Q := by
  intro p e s m args below meth c ad ad0 n0 H locs ls C hP hD hS hL hn ha hm
  exact lv_tableIn C.1 C.2.1 hd h1 h2 ho ht (kk p e s m args below meth c ad ad0 n0 H locs ls C hP hD hS hL hn ha hm)
theorem zx_tblOut {dflt lo hi : Int} {offs : Array Int} {len : Nat} {x : Int32} {t : Nat} (hd : decode y.2.1 pc = .ok (.tableswitch dflt lo hi offs, len)) (h1 : x.toInt < lo ∨ hi < x.toInt) (ht : (pc : Int) + dflt = (t : Int)) (kk : zW l D tc A y d mc ms k n t L st S Q) : zW l D tc A y d mc ms k n pc L (.int x :: st) S Q := by
  intro p e s m args below meth c ad ad0 n0 H locs ls C hP hD hS hL hn ha hm
  exact lv_tableOut C.1 C.2.1 hd h1 ht (kk p e s m args below meth c ad ad0 n0 H locs ls C hP hD hS hL hn ha hm)
theorem zx_ldc {idx : Nat} {v : Int32} (hd : decode y.2.1 pc = .ok (.ldc idx, 2)) (hw : Cond.constant y.1.cls idx v ∈ zw_Tb) (hq : pc + 2 = q) (kk : zW l D tc A y d mc ms k n q L (.int v :: st) S Q) : zW l D tc A y d mc ms k n pc L (st) S Q := by
  subst hq
  intro p e s m args below meth c ad ad0 n0 H locs ls C hP hD hS hL hn ha hm
  exact lv_ldc C.1 C.2.1 C.2.2.2.2.1 (C.2.2.2.2.2.1 _ hw) hd (kk p e s m args below meth c ad ad0 n0 H locs ls C hP hD hS hL hn ha hm)
theorem zx_ldcw {idx : Nat} {v : Int32} (hd : decode y.2.1 pc = .ok (.ldc_w idx, 3)) (hw : Cond.constant y.1.cls idx v ∈ zw_Tb) (hq : pc + 3 = q) (kk : zW l D tc A y d mc ms k n q L (.int v :: st) S Q) : zW l D tc A y d mc ms k n pc L (st) S Q := by
  subst hq
  intro p e s m args below meth c ad ad0 n0 H locs ls C hP hD hS hL hn ha hm
  exact lv_ldcw C.1 C.2.1 C.2.2.2.2.1 (C.2.2.2.2.2.1 _ hw) hd (kk p e s m args below meth c ad ad0 n0 H locs ls C hP hD hS hL hn ha hm)
theorem zx_ldc2 {idx : Nat} {v : Int64} (hd : decode y.2.1 pc = .ok (.ldc2_w idx, 3)) (hw : Cond.constantLong y.1.cls idx v ∈ zw_Tb) (hq : pc + 3 = q) (kk : zW l D tc A y d mc ms k n q L (.long v :: st) S Q) : zW l D tc A y d mc ms k n pc L (st) S Q := by
  subst hq
  intro p e s m args below meth c ad ad0 n0 H locs ls C hP hD hS hL hn ha hm
  exact lv_ldc2 C.1 C.2.1 C.2.2.2.2.1 (C.2.2.2.2.2.1 _ hw) hd (kk p e s m args below meth c ad ad0 n0 H locs ls C hP hD hS hL hn ha hm)
theorem zx_ldcS {i : Nat} (hd : decode y.2.1 pc = .ok (.ldc (zw_tn i), 2)) (hi : i < 8) (ho : y.1.cls = RX2) (hq : pc + 2 = q) (kk : zW l D tc A y d mc ms k n q L (.ref (100000 + i) :: st) S Q) : zW l D tc A y d mc ms k n pc L (st) S Q := by
  subst hq
  intro p e s m args below meth c ad ad0 n0 H locs ls C hP hD hS hL hn ha hm
  exact va_ldcS C.1 C.2.1 C.2.2.2.2.1 (by rw [ho]; exact C.2.2.2.2.2.2.2.1.2.2.2.2.2.1 i hi) hd (kk p e s m args below meth c ad ad0 n0 H locs ls C hP hD hS hL hn ha hm)
theorem zx_iret {x : Int32} (hd : decode y.2.1 pc = .ok (.ireturn, 1)) (hr : y.2.2.2 = some .int) (hk : k ≤ mc) (hks : n ≤ ms) (h : Q (some (.int x)) S) : zW l D tc A y d mc ms k n pc L [.int x] S Q := by
  intro p e s m args below meth c ad ad0 n0 H locs ls C hP hD hS hL hn ha hm
  exact W.widen hk hks (W.iret C.1 C.2.1 (C.2.2.1.trans hr) (fun t ht _ => ⟨⟨(some (.int x)), S, ad, rfl, h, hn, ha, hm, by rw [ht]; exact hP, hD⟩, hS.F ht⟩) hS.2.2 hd C.2.2.2.2.2.2.2.2.1)
theorem zx_zret {x : Int32} {ty : FieldType} (hd : decode y.2.1 pc = .ok (.ireturn, 1)) (hr : y.2.2.2 = some ty) (hx : narrow ty (.int x) = .int x) (hk : k ≤ mc) (hks : n ≤ ms) (h : Q (some (.int x)) S) : zW l D tc A y d mc ms k n pc L [.int x] S Q := by
  intro p e s m args below meth c ad ad0 n0 H locs ls C hP hD hS hL hn ha hm
  exact W.widen hk hks (W.zret C.1 C.2.1 (C.2.2.1.trans hr) hx (fun t ht _ => ⟨⟨(some (.int x)), S, ad, rfl, h, hn, ha, hm, by rw [ht]; exact hP, hD⟩, hS.F ht⟩) hS.2.2 hd C.2.2.2.2.2.2.2.2.1)
theorem zx_lret {x : Int64} (hd : decode y.2.1 pc = .ok (.lreturn, 1)) (hr : y.2.2.2 = some .long) (hk : k ≤ mc) (hks : n ≤ ms) (h : Q (some (.long x)) S) : zW l D tc A y d mc ms k n pc L [.long x] S Q := by
  intro p e s m args below meth c ad ad0 n0 H locs ls C hP hD hS hL hn ha hm
  exact W.widen hk hks (W.lret C.1 C.2.1 (C.2.2.1.trans hr) (fun t ht _ => ⟨⟨(some (.long x)), S, ad, rfl, h, hn, ha, hm, by rw [ht]; exact hP, hD⟩, hS.F ht⟩) hS.2.2 hd C.2.2.2.2.2.2.2.2.1)
theorem zx_vret (hd : decode y.2.1 pc = .ok (.return_, 1)) (hr : y.2.2.2 = none) (hk : k ≤ mc) (hks : n ≤ ms) (h : Q none S) : zW l D tc A y d mc ms k n pc L [] S Q := by
  intro p e s m args below meth c ad ad0 n0 H locs ls C hP hD hS hL hn ha hm
  exact W.widen hk hks (W.vret C.1 C.2.1 (C.2.2.1.trans hr) (fun t ht _ => ⟨⟨none, S, ad, rfl, h, hn, ha, hm, by rw [ht]; exact hP, hD⟩, hS.F ht⟩) hS.2.2 hd C.2.2.2.2.2.2.2.2.1)
theorem zx_aret {x : Nat} {nm : String} (hd : decode y.2.1 pc = .ok (.areturn, 1)) (hr : y.2.2.2 = some (.object nm)) (hk : k ≤ mc) (hks : n ≤ ms) (h : Q (some (.ref x)) S) : zW l D tc A y d mc ms k n pc L [.ref x] S Q := by
  intro p e s m args below meth c ad ad0 n0 H locs ls C hP hD hS hL hn ha hm
  exact W.widen hk hks (W.aret C.1 C.2.1 (C.2.2.1.trans hr) (Or.inl ⟨_, rfl⟩) (Or.inr ⟨_, rfl⟩) (fun t ht _ => ⟨⟨(some (.ref x)), S, ad, rfl, h, hn, ha, hm, by rw [ht]; exact hP, hD⟩, hS.F ht⟩) hS.2.2 hd C.2.2.2.2.2.2.2.2.1)
/-- the number idx in own's pool names the field j of class ci -/
def zw_fl (own : String) (idx ci j : Nat) : Prop := ci < 9 ∧ j < zw_N ci ∧ Cond.fieldLink own idx (zw_T ci j).1 (zw_T ci j).2.1 (zw_T ci j).2.2.1 ∈ zw_Tb
theorem zx_get {idx ci b j : Nat} {v : Value} (hd : decode y.2.1 pc = .ok (.getfield idx, 3)) (hf : zw_fl y.1.cls idx ci j) (hsh : S.1[b]? = some (0, ci)) (hv : ∀ ad, zw_fv ad S b j (zw_ft ci j) = zw_v ad v) (hq : pc + 3 = q) (kk : zW l D tc A y d mc ms k n q L (v :: st) S Q) : zW l D tc A y d mc ms k n pc L (.ref b :: st) S Q := by
  subst hq
  intro p e s m args below meth c ad ad0 n0 H locs ls C hP hD hS hL hn ha hm
  refine va_get C.1 C.2.1 (Ts := zw_Tb) C.2.2.2.2.2.1 (zw_lays_ok hf.1) C.2.2.2.2.1 C.2.2.2.2.2.2.1 hP b (fs := zw_fs ad S b ci) (zw_get hsh) (zw_cl_at hf.1) j hf.2.1 (C.2.2.2.2.2.1 _ hf.2.2) (fun _ h => h) (v := zw_v ad v) ?_ hd (kk p e s m args below meth c ad ad0 n0 H locs ls C hP hD hS hL hn ha hm)
  rw [zw_fs_at hf.2.1, hv]
theorem zx_getI {idx ci b j : Nat} (hd : decode y.2.1 pc = .ok (.getfield idx, 3)) (hf : zw_fl y.1.cls idx ci j) (ht : zw_isI (zw_ft ci j) = true) (hsh : S.1[b]? = some (0, ci)) (hq : pc + 3 = q) (kk : zW l D tc A y d mc ms k n q L (.int (S.2.1 b j) :: st) S Q) : zW l D tc A y d mc ms k n pc L (.ref b :: st) S Q := by
  refine zx_get hd hf hsh (fun ad => ?_) hq kk
  generalize zw_ft ci j = ty at ht ⊢
  cases ty <;> first | (simp [zw_isI] at ht; done) | rfl
theorem zx_getR {idx ci b j r : Nat} (hd : decode y.2.1 pc = .ok (.getfield idx, 3)) (hf : zw_fl y.1.cls idx ci j) (ht : zw_isR (zw_ft ci j) = true) (hsh : S.1[b]? = some (0, ci)) (hr : S.2.2.2 b j = some r) (hq : pc + 3 = q) (kk : zW l D tc A y d mc ms k n q L (.ref r :: st) S Q) : zW l D tc A y d mc ms k n pc L (.ref b :: st) S Q := by
  refine zx_get hd hf hsh (fun ad => ?_) hq kk
  generalize zw_ft ci j = ty at ht ⊢
  cases ty <;> first | (simp [zw_isR] at ht; done) | (simp [zw_fv, hr, va_rf, zw_v]; done)
theorem zx_putI {idx ci b j : Nat} {x : Int32} (hd : decode y.2.1 pc = .ok (.putfield idx, 3)) (hf : zw_fl y.1.cls idx ci j) (ht : zw_isI (zw_ft ci j) = true) (hfin : (zw_T ci j).2.2.2 = false) (hx : narrow (zw_ft ci j) (.int x) = .int x ∧ fits (zw_ft ci j) (.int x) = true) (hsh : S.1[b]? = some (0, ci)) (hq : pc + 3 = q) (kk : zW l D tc A y d mc ms k n q L st (zw_pi S b j x) Q) : zW l D tc A y d mc ms k n pc L (.int x :: .ref b :: st) S Q := by
  subst hq
  intro p e s m args below meth c ad ad0 n0 H locs ls C hP hD hS hL hn ha hm
  refine va_put C.1 C.2.1 (Ts := zw_Tb) C.2.2.2.2.2.1 (zw_lays_ok hf.1) (zw_ft ci) (zw_ty hf.1) (zw_nm hf.1) C.2.2.2.2.1 C.2.2.2.2.2.2.1 hP hD hS b (fs := zw_fs ad S b ci) (zw_get hsh) (zw_cl_at hf.1) j hf.2.1 (C.2.2.2.2.2.1 _ hf.2.2) (fun _ h => h) hfin (ty := zw_ft ci j) (v := .int x) (zw_ty hf.1 _ hf.2.1) hx.1 hx.2 (by rw [zw_fs_len]; exact hf.2.1) hd (fun H1 locs1 hP1 hD1 hS1 => ?_)
  rw [zw_putfi hsh ht] at hP1 hD1
  exact kk p e s m args below meth c ad ad0 n0 H1 locs1 ls C hP1 hD1 hS1 hL hn ha hm
theorem zw_wf_pr {S : zw_S} {b j v : Nat} (hw : zw_wf S) (hv : v < S.1.length) : zw_wf (zw_pr S b j (some v)) := by
  intro k i r h
  by_cases hki : k = b ∧ i = j
  · have e : (zw_pr S b j (some v)).2.2.2 k i = some v := by simp [zw_pr, zw_u, hki]
    rw [e] at h
    cases h
    exact Or.inl hv
  · have e : (zw_pr S b j (some v)).2.2.2 k i = S.2.2.2 k i := by simp [zw_pr, zw_u, hki]
    rw [e] at h
    exact hw k i r h
theorem zw_fitR {ty : FieldType} {a : Nat} (h : zw_isR ty = true) : narrow ty (.ref a) = .ref a ∧ fits ty (.ref a) = true := by
  cases ty <;> first | (simp [zw_isR] at h; done) | exact ⟨rfl, rfl⟩
theorem zx_putR {idx ci b j v : Nat} (hd : decode y.2.1 pc = .ok (.putfield idx, 3)) (hf : zw_fl y.1.cls idx ci j) (ht : zw_isR (zw_ft ci j) = true) (hfin : (zw_T ci j).2.2.2 = false) (hsh : S.1[b]? = some (0, ci)) (hv : v < S.1.length) (hq : pc + 3 = q) (kk : zW l D tc A y d mc ms k n q L st (zw_pr S b j (some v)) Q) : zW l D tc A y d mc ms k n pc L (.ref v :: .ref b :: st) S Q := by
  subst hq
  intro p e s m args below meth c ad ad0 n0 H locs ls C hP hD hS hL hn ha hm
  refine va_put C.1 C.2.1 (Ts := zw_Tb) C.2.2.2.2.2.1 (zw_lays_ok hf.1) (zw_ft ci) (zw_ty hf.1) (zw_nm hf.1) C.2.2.2.2.1 C.2.2.2.2.2.2.1 hP hD hS b (fs := zw_fs ad S b ci) (zw_get hsh) (zw_cl_at hf.1) j hf.2.1 (C.2.2.2.2.2.1 _ hf.2.2) (fun _ h => h) hfin (ty := zw_ft ci j) (v := .ref (ad v)) (zw_ty hf.1 _ hf.2.1) (zw_fitR ht).1 (zw_fitR ht).2 (by rw [zw_fs_len]; exact hf.2.1) hd (fun H1 locs1 hP1 hD1 hS1 => ?_)
  rw [zw_putfr hsh ht] at hP1 hD1
  exact kk p e s m args below meth c ad ad0 n0 H1 locs1 ls C hP1 hD1 hS1 hL ⟨hn.1, zw_wf_pr hn.2 hv⟩ ha hm
theorem zx_putRF {idx ci b j v : Nat} (hd : decode y.2.1 pc = .ok (.putfield idx, 3)) (hf : zw_fl y.1.cls idx ci j) (ht : zw_isR (zw_ft ci j) = true) (hfin : (zw_T ci j).2.2.2 = true) (hin : y.1.name = "<init>") (hdc : (zw_T ci j).1 = y.1.cls) (hsh : S.1[b]? = some (0, ci)) (hv : v < S.1.length) (hq : pc + 3 = q) (kk : zW l D tc A y d mc ms k n q L st (zw_pr S b j (some v)) Q) : zW l D tc A y d mc ms k n pc L (.ref v :: .ref b :: st) S Q := by
  subst hq
  intro p e s m args below meth c ad ad0 n0 H locs ls C hP hD hS hL hn ha hm
  refine va_putF C.1 C.2.1 (Ts := zw_Tb) C.2.2.2.2.2.1 (zw_lays_ok hf.1) (zw_ft ci) (zw_ty hf.1) (zw_nm hf.1) C.2.2.2.2.1 C.2.2.2.2.2.2.1 hP hD hS b (fs := zw_fs ad S b ci) (zw_get hsh) (zw_cl_at hf.1) j hf.2.1 (C.2.2.2.2.2.1 _ hf.2.2) (fun _ h => h) hfin (C.2.2.2.2.2.2.2.2.2.1.trans hin) hdc (ty := zw_ft ci j) (v := .ref (ad v)) (zw_ty hf.1 _ hf.2.1) (zw_fitR ht).1 (zw_fitR ht).2 (by rw [zw_fs_len]; exact hf.2.1) hd (fun H1 locs1 hP1 hD1 hS1 => ?_)
  rw [zw_putfr hsh ht] at hP1 hD1
  exact kk p e s m args below meth c ad ad0 n0 H1 locs1 ls C hP1 hD1 hS1 hL ⟨hn.1, zw_wf_pr hn.2 hv⟩ ha hm
theorem zx_iald {b w : Nat} {i : Int32} (hd : decode y.2.1 pc = .ok (.iaload, 1)) (hsh : S.1[b]? = some (1, w)) (hin : vp_in i w) (hq : pc + 1 = q) (kk : zW l D tc A y d mc ms k n q L (.int (S.2.1 b i.toNatClampNeg) :: st) S Q) : zW l D tc A y d mc ms k n pc L (.int i :: .ref b :: st) S Q := by
  subst hq
  intro p e s m args below meth c ad ad0 n0 H locs ls C hP hD hS hL hn ha hm
  exact va_iald C.1 C.2.1 C.2.2.2.2.2.2.1 hP b 1 (zw_get hsh) (zw_tys_at tc (by decide)) hin hd (kk p e s m args below meth c ad ad0 n0 H locs ls C hP hD hS hL hn ha hm)
theorem zx_bald {b w : Nat} {i : Int32} (hd : decode y.2.1 pc = .ok (.baload, 1)) (hsh : S.1[b]? = some (2, w)) (hin : vp_in i w) (hq : pc + 1 = q) (kk : zW l D tc A y d mc ms k n q L (.int (S.2.1 b i.toNatClampNeg) :: st) S Q) : zW l D tc A y d mc ms k n pc L (.int i :: .ref b :: st) S Q := by
  subst hq
  intro p e s m args below meth c ad ad0 n0 H locs ls C hP hD hS hL hn ha hm
  exact va_bald C.1 C.2.1 C.2.2.2.2.2.2.1 hP b 2 (zw_get hsh) (zw_tys_at tc (by decide)) hin hd (kk p e s m args below meth c ad ad0 n0 H locs ls C hP hD hS hL hn ha hm)
theorem zx_zald {b w : Nat} {i : Int32} (hd : decode y.2.1 pc = .ok (.baload, 1)) (hsh : S.1[b]? = some (3, w)) (hin : vp_in i w) (hq : pc + 1 = q) (kk : zW l D tc A y d mc ms k n q L (.int (S.2.1 b i.toNatClampNeg) :: st) S Q) : zW l D tc A y d mc ms k n pc L (.int i :: .ref b :: st) S Q := by
  subst hq
  intro p e s m args below meth c ad ad0 n0 H locs ls C hP hD hS hL hn ha hm
  exact va_zald C.1 C.2.1 C.2.2.2.2.2.2.1 hP b 3 (zw_get hsh) (zw_tys_at tc (by decide)) hin hd (kk p e s m args below meth c ad ad0 n0 H locs ls C hP hD hS hL hn ha hm)
theorem zx_lald {b w : Nat} {i : Int32} (hd : decode y.2.1 pc = .ok (.laload, 1)) (hsh : S.1[b]? = some (4, w)) (hin : vp_in i w) (hq : pc + 1 = q) (kk : zW l D tc A y d mc ms k n q L (.long (S.2.2.1 b i.toNatClampNeg) :: st) S Q) : zW l D tc A y d mc ms k n pc L (.int i :: .ref b :: st) S Q := by
  subst hq
  intro p e s m args below meth c ad ad0 n0 H locs ls C hP hD hS hL hn ha hm
  exact va_lald C.1 C.2.1 C.2.2.2.2.2.2.1 hP b 4 (zw_get hsh) (zw_tys_at tc (by decide)) hin hd (kk p e s m args below meth c ad ad0 n0 H locs ls C hP hD hS hL hn ha hm)
theorem zx_iast {b w : Nat} {i : Int32} {x : Int32} (hd : decode y.2.1 pc = .ok (.iastore, 1)) (hsh : S.1[b]? = some (1, w)) (hin : vp_in i w) (hq : pc + 1 = q) (kk : zW l D tc A y d mc ms k n q L st (zw_pi S b i.toNatClampNeg x) Q) : zW l D tc A y d mc ms k n pc L (.int x :: .int i :: .ref b :: st) S Q := by
  subst hq
  intro p e s m args below meth c ad ad0 n0 H locs ls C hP hD hS hL hn ha hm
  refine va_iast C.1 C.2.1 C.2.2.2.2.2.2.1 hP hD hS b 1 (zw_get hsh) (zw_tys_at tc (by decide)) hin hd (fun H1 locs1 hP1 hD1 hS1 => ?_)
  rw [zw_put_i (t := 1) (Or.inl rfl) hsh] at hP1 hD1
  exact kk p e s m args below meth c ad ad0 n0 H1 locs1 ls C hP1 hD1 hS1 hL hn ha hm
theorem zx_bast {b w : Nat} {i : Int32} {x : Int32} (hd : decode y.2.1 pc = .ok (.bastore, 1)) (hsh : S.1[b]? = some (2, w)) (hin : vp_in i w) (hq : pc + 1 = q) (kk : zW l D tc A y d mc ms k n q L st (zw_pi S b i.toNatClampNeg (vp_nar .byte x)) Q) : zW l D tc A y d mc ms k n pc L (.int x :: .int i :: .ref b :: st) S Q := by
  subst hq
  intro p e s m args below meth c ad ad0 n0 H locs ls C hP hD hS hL hn ha hm
  refine va_bast C.1 C.2.1 C.2.2.2.2.2.2.1 hP hD hS b 2 (zw_get hsh) (zw_tys_at tc (by decide)) hin hd (fun H1 locs1 hP1 hD1 hS1 => ?_)
  rw [zw_put_i (t := 2) (Or.inr (Or.inl rfl)) hsh] at hP1 hD1
  exact kk p e s m args below meth c ad ad0 n0 H1 locs1 ls C hP1 hD1 hS1 hL hn ha hm
theorem zx_zast {b w : Nat} {i : Int32} {x : Int32} (hd : decode y.2.1 pc = .ok (.bastore, 1)) (hsh : S.1[b]? = some (3, w)) (hin : vp_in i w) (hq : pc + 1 = q) (kk : zW l D tc A y d mc ms k n q L st (zw_pi S b i.toNatClampNeg (vp_nar .boolean x)) Q) : zW l D tc A y d mc ms k n pc L (.int x :: .int i :: .ref b :: st) S Q := by
  subst hq
  intro p e s m args below meth c ad ad0 n0 H locs ls C hP hD hS hL hn ha hm
  refine va_zast C.1 C.2.1 C.2.2.2.2.2.2.1 hP hD hS b 3 (zw_get hsh) (zw_tys_at tc (by decide)) hin hd (fun H1 locs1 hP1 hD1 hS1 => ?_)
  rw [zw_put_i (t := 3) (Or.inr (Or.inr rfl)) hsh] at hP1 hD1
  exact kk p e s m args below meth c ad ad0 n0 H1 locs1 ls C hP1 hD1 hS1 hL hn ha hm
theorem zx_last {b w : Nat} {i : Int32} {x : Int64} (hd : decode y.2.1 pc = .ok (.lastore, 1)) (hsh : S.1[b]? = some (4, w)) (hin : vp_in i w) (hq : pc + 1 = q) (kk : zW l D tc A y d mc ms k n q L st (zw_pl S b i.toNatClampNeg x) Q) : zW l D tc A y d mc ms k n pc L (.long x :: .int i :: .ref b :: st) S Q := by
  subst hq
  intro p e s m args below meth c ad ad0 n0 H locs ls C hP hD hS hL hn ha hm
  refine va_last C.1 C.2.1 C.2.2.2.2.2.2.1 hP hD hS b 4 (zw_get hsh) (zw_tys_at tc (by decide)) hin hd (fun H1 locs1 hP1 hD1 hS1 => ?_)
  rw [zw_put_l hsh] at hP1 hD1
  exact kk p e s m args below meth c ad ad0 n0 H1 locs1 ls C hP1 hD1 hS1 hL hn ha hm
theorem zx_alen {b t w : Nat} {v : Int32} (hd : decode y.2.1 pc = .ok (.arraylength, 1)) (hsh : S.1[b]? = some (t, w)) (ht : 1 ≤ t ∧ t < 8) (hv : Int32.ofNat w = v) (hq : pc + 1 = q) (kk : zW l D tc A y d mc ms k n q L (.int v :: st) S Q) : zW l D tc A y d mc ms k n pc L (.ref b :: st) S Q := by
  subst hq
  intro p e s m args below meth c ad ad0 n0 H locs ls C hP hD hS hL hn ha hm
  have e : ∃ x : vp_A, zw_ac tc ad S b (t, w) = .inl (tc t, x) ∧ x.1 = w := by
    rcases (by omega : t = 1 ∨ t = 2 ∨ t = 3 ∨ t = 4 ∨ t = 5 ∨ t = 6 ∨ t = 7) with h | h | h | h | h | h | h <;> subst h <;> exact ⟨_, rfl, rfl⟩
  obtain ⟨x, e1, e2⟩ := e
  exact va_alen C.1 C.2.1 C.2.2.2.2.2.2.1 hP b t (x := x) (by rw [zw_get hsh, e1]) (zw_tys_at tc ht.2) (by rw [e2]; exact hv) hd (kk p e s m args below meth c ad ad0 n0 H locs ls C hP hD hS hL hn ha hm)
theorem zx_aald {b t w r : Nat} {i : Int32} (hd : decode y.2.1 pc = .ok (.aaload, 1)) (hsh : S.1[b]? = some (t, w)) (ht : 5 ≤ t ∧ t < 8) (hin : vp_in i w) (hr : S.2.2.2 b i.toNatClampNeg = some r) (hq : pc + 1 = q) (kk : zW l D tc A y d mc ms k n q L (.ref r :: st) S Q) : zW l D tc A y d mc ms k n pc L (.int i :: .ref b :: st) S Q := by
  subst hq
  intro p e s m args below meth c ad ad0 n0 H locs ls C hP hD hS hL hn ha hm
  have e1 : zw_ac tc ad S b (t, w) = .inl (tc t, w, .inr (.inr (.inr (.inr (fun j => (S.2.2.2 b j).map ad))))) := by
    rcases (by omega : t = 5 ∨ t = 6 ∨ t = 7) with h | h | h <;> subst h <;> rfl
  have e2 : (zw_at t).isReference = true := by
    rcases (by omega : t = 5 ∨ t = 6 ∨ t = 7) with h | h | h <;> subst h <;> rfl
  have hlt : i.toNatClampNeg < w := Nat.not_le.mp fun q => hin (Or.inr q)
  have hcell := hP b _ (zw_get hsh)
  rw [e1] at hcell
  exact W.aald (v := .ref (ad r)) (ty := zw_at t) C.1 C.2.1 hcell ((C.2.2.2.2.2.2.1.2 t _ (zw_tys_at tc ht.2)).1 w (fun j => va_rf ((S.2.2.2 b j).map ad))) e2 (fun q => by cases q) (by show ¬ (i < 0 ∨ (arrV _ _ _).slots.size ≤ _); rw [arrV_size]; exact hin) (by show (arrV _ _ _).slots[_]? = _; rw [arrV_read _ _ hlt]; show some (va_rf ((S.2.2.2 b i.toNatClampNeg).map ad)) = _; rw [hr]; rfl) rfl rfl hd (kk p e s m args below meth c ad ad0 n0 H locs ls C hP hD hS hL hn ha hm)
theorem zx_aast {b t w v ci : Nat} {i : Int32} (hd : decode y.2.1 pc = .ok (.aastore, 1)) (hsh : S.1[b]? = some (t, w)) (ht : 5 ≤ t ∧ t < 8) (hin : vp_in i w) (hv : S.1[v]? = some (0, ci)) (hci : ci < 9) (hty : zw_at t = .object (zw_R ci)) (hq : pc + 1 = q) (kk : zW l D tc A y d mc ms k n q L st (zw_pr S b i.toNatClampNeg (some v)) Q) : zW l D tc A y d mc ms k n pc L (.ref v :: .int i :: .ref b :: st) S Q := by
  subst hq
  intro p e s m args below meth c ad ad0 n0 H locs ls C hP hD hS hL hn ha hm
  have e1 : zw_ac tc ad S b (t, w) = .inl (tc t, w, .inr (.inr (.inr (.inr (fun j => (S.2.2.2 b j).map ad))))) := by
    rcases (by omega : t = 5 ∨ t = 6 ∨ t = 7) with h | h | h <;> subst h <;> rfl
  refine va_astq (r := (zw_R ci, zw_T ci, zw_N ci)) (v := ad v) (vs := zw_fs ad S v ci) (f := fun j => (S.2.2.2 b j).map ad) C.1 C.2.1 C.2.2.2.2.2.2.1 hP hD hS b t v ci (by rw [zw_get hsh, e1]) (by rw [zw_tys_at tc ht.2, hty]) (zw_get hv) (zw_cl_at hci) hin hd (fun H1 locs1 hP1 hD1 hS1 => ?_)
  rw [zw_put_q ht.1 hsh] at hP1 hD1
  exact kk p e s m args below meth c ad ad0 n0 H1 locs1 ls C hP1 hD1 hS1 hL ⟨hn.1, zw_wf_pr hn.2 (List.getElem?_eq_some_iff.mp hv).1⟩ ha hm
end ZX
