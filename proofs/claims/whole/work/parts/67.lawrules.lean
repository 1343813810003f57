/-! the law's own walk -/
/-- what holds all along the law: its entry, the classes, what never changes, where the script lies -/
def lE (p : Program) (s : State) (m : MethodId) (meth : Method) (c : Code) (b Lx : Nat) (xs : Nat → Int32) (D : va_G) (tc : Nat → ClassId) (adB : Nat → Nat) : Prop :=
  lw_At p s m meth c b Lx xs ∧ va_K D zw_cl (zw_tys tc) s ∧ zw_G adB (fun q => s.heap.size ≤ q) s s.heap ∧ adB 500000 = b
def zV (p : Program) (l : Launch) (e : Env) (s : State) (m : MethodId) (below : List Frame) (meth : Method) (c : Code) (b : Nat) (D : va_G) (tc : Nat → ClassId) (adB : Nat → Nat) (k n pc : Nat) (L : List (Option Value)) (st : List Value) (S : zw_S) : Prop :=
  ∀ (ad : Nat → Nat) (H : Heap) (locs : List Loc) (ls : Array Slot), (∀ k, 100000 ≤ k → ad k = adB k) → va_P D zw_cl (zw_ws tc ad S) H → va_D (fun q => s.heap.size ≤ q) (zw_ws tc ad S) → va_S (fun q => s.heap.size ≤ q) s.heap H locs → zw_L ls 4 ad L → zw_wf S →
    W p l e room_1 s m #[Value.ref b] below meth c H locs k n (lw_Z below #[Value.ref b] s) (F0 m pc ls (st.map (zw_v ad)))
section ZV
variable {p : Program} {l : Launch} {e : Env} {s : State} {m : MethodId} {below : List Frame} {meth : Method} {c : Code} {b Lx : Nat} {xs : Nat → Int32} {D : va_G} {tc : Nat → ClassId} {adB : Nat → Nat} {k n pc q N mc' ms' dd : Nat} {L : List (Option Value)} {st : List Value} {S : zw_S} {y' : zw_M} {Q' : Option Value → zw_S → Prop}
theorem zl_iconst {i : Int} {v : Int32} (hE : lE p s m meth c b Lx xs D tc adB) (hd : decode code pc = .ok (.iconst i, 1)) (hv : Int32.ofInt i = v) (hq : pc + 1 = q) (kk : zV p l e s m below meth c b D tc adB k n q L (.int v :: st) S) : zV p l e s m below meth c b D tc adB k n pc L (st) S := by
  subst hq
  intro ad H locs ls ha hP hD hS hL hw
  exact lv_iconst hE.1.1 hE.1.2.1 hd hv (kk ad H locs ls ha hP hD hS hL hw)
theorem zl_bipush {i : Int} {v : Int32} (hE : lE p s m meth c b Lx xs D tc adB) (hd : decode code pc = .ok (.bipush i, 2)) (hv : (Int8.ofInt i).toInt32 = v) (hq : pc + 2 = q) (kk : zV p l e s m below meth c b D tc adB k n q L (.int v :: st) S) : zV p l e s m below meth c b D tc adB k n pc L (st) S := by
  subst hq
  intro ad H locs ls ha hP hD hS hL hw
  exact lv_bipush hE.1.1 hE.1.2.1 hd hv (kk ad H locs ls ha hP hD hS hL hw)
theorem zl_iadd {x y : Int32} (hE : lE p s m meth c b Lx xs D tc adB) (hd : decode code pc = .ok (.iadd, 1)) (hq : pc + 1 = q) (kk : zV p l e s m below meth c b D tc adB k n q L (.int (x + y) :: st) S) : zV p l e s m below meth c b D tc adB k n pc L (.int y :: .int x :: st) S := by
  subst hq
  intro ad H locs ls ha hP hD hS hL hw
  exact lv_iadd hE.1.1 hE.1.2.1 hd (kk ad H locs ls ha hP hD hS hL hw)
theorem zl_isub {x y : Int32} (hE : lE p s m meth c b Lx xs D tc adB) (hd : decode code pc = .ok (.isub, 1)) (hq : pc + 1 = q) (kk : zV p l e s m below meth c b D tc adB k n q L (.int (x - y) :: st) S) : zV p l e s m below meth c b D tc adB k n pc L (.int y :: .int x :: st) S := by
  subst hq
  intro ad H locs ls ha hP hD hS hL hw
  exact lv_isub hE.1.1 hE.1.2.1 hd (kk ad H locs ls ha hP hD hS hL hw)
theorem zl_iand {x y : Int32} (hE : lE p s m meth c b Lx xs D tc adB) (hd : decode code pc = .ok (.iand, 1)) (hq : pc + 1 = q) (kk : zV p l e s m below meth c b D tc adB k n q L (.int (x &&& y) :: st) S) : zV p l e s m below meth c b D tc adB k n pc L (.int y :: .int x :: st) S := by
  subst hq
  intro ad H locs ls ha hP hD hS hL hw
  exact lv_iand hE.1.1 hE.1.2.1 hd (kk ad H locs ls ha hP hD hS hL hw)
theorem zl_land {x y : Int64} (hE : lE p s m meth c b Lx xs D tc adB) (hd : decode code pc = .ok (.land, 1)) (hq : pc + 1 = q) (kk : zV p l e s m below meth c b D tc adB k n q L (.long (x &&& y) :: st) S) : zV p l e s m below meth c b D tc adB k n pc L (.long y :: .long x :: st) S := by
  subst hq
  intro ad H locs ls ha hP hD hS hL hw
  exact lv_land hE.1.1 hE.1.2.1 hd (kk ad H locs ls ha hP hD hS hL hw)
theorem zl_lor {x y : Int64} (hE : lE p s m meth c b Lx xs D tc adB) (hd : decode code pc = .ok (.lor, 1)) (hq : pc + 1 = q) (kk : zV p l e s m below meth c b D tc adB k n q L (.long (x ||| y) :: st) S) : zV p l e s m below meth c b D tc adB k n pc L (.long y :: .long x :: st) S := by
  subst hq
  intro ad H locs ls ha hP hD hS hL hw
  exact lv_lor hE.1.1 hE.1.2.1 hd (kk ad H locs ls ha hP hD hS hL hw)
theorem zl_lshl {x v : Int64} {y : Int32} (hE : lE p s m meth c b Lx xs D tc adB) (hd : decode code pc = .ok (.lshl, 1)) (hv : x <<< (y.toInt64 &&& 63) = v) (hq : pc + 1 = q) (kk : zV p l e s m below meth c b D tc adB k n q L (.long v :: st) S) : zV p l e s m below meth c b D tc adB k n pc L (.int y :: .long x :: st) S := by
  subst hq
  intro ad H locs ls ha hP hD hS hL hw
  exact lv_lshl hE.1.1 hE.1.2.1 hd hv (kk ad H locs ls ha hP hD hS hL hw)
theorem zl_i2l {x : Int32} (hE : lE p s m meth c b Lx xs D tc adB) (hd : decode code pc = .ok (.i2l, 1)) (hq : pc + 1 = q) (kk : zV p l e s m below meth c b D tc adB k n q L (.long x.toInt64 :: st) S) : zV p l e s m below meth c b D tc adB k n pc L (.int x :: st) S := by
  subst hq
  intro ad H locs ls ha hP hD hS hL hw
  exact lv_i2l hE.1.1 hE.1.2.1 hd rfl (kk ad H locs ls ha hP hD hS hL hw)
theorem zl_lcmp {x y : Int64} (hE : lE p s m meth c b Lx xs D tc adB) (hd : decode code pc = .ok (.lcmp, 1)) (hq : pc + 1 = q) (kk : zV p l e s m below meth c b D tc adB k n q L (.int (lg_cmp x y) :: st) S) : zV p l e s m below meth c b D tc adB k n pc L (.long y :: .long x :: st) S := by
  subst hq
  intro ad H locs ls ha hP hD hS hL hw
  exact W.lcmp hE.1.1 hE.1.2.1 hd (kk ad H locs ls ha hP hD hS hL hw)
theorem zl_dup {va : Value} (hE : lE p s m meth c b Lx xs D tc adB) (hd : decode code pc = .ok (.dup, 1)) (hc : va.category = 1) (hq : pc + 1 = q) (kk : zV p l e s m below meth c b D tc adB k n q L (va :: va :: st) S) : zV p l e s m below meth c b D tc adB k n pc L (va :: st) S := by
  subst hq
  intro ad H locs ls ha hP hD hS hL hw
  exact lv_dup hE.1.1 hE.1.2.1 hd ((zw_v_cat _ _).trans hc) (kk ad H locs ls ha hP hD hS hL hw)
theorem zl_aload {j : Fin 4} {i x : Nat} (hE : lE p s m meth c b Lx xs D tc adB) (hd : decode code pc = .ok (.aload_n j, 1)) (hi : (j : Nat) = i) (hl : L[i]? = some (some (.ref x))) (hq : pc + 1 = q) (kk : zV p l e s m below meth c b D tc adB k n q L (.ref x :: st) S) : zV p l e s m below meth c b D tc adB k n pc L (st) S := by
  subst hq
  intro ad H locs ls ha hP hD hS hL hw
  exact lv_aload_n hE.1.1 hE.1.2.1 hd hi (hL.at hl) (kk ad H locs ls ha hP hD hS hL hw)
theorem zl_iload {j : Fin 4} {i : Nat} {x : Int32} (hE : lE p s m meth c b Lx xs D tc adB) (hd : decode code pc = .ok (.iload_n j, 1)) (hi : (j : Nat) = i) (hl : L[i]? = some (some (.int x))) (hq : pc + 1 = q) (kk : zV p l e s m below meth c b D tc adB k n q L (.int x :: st) S) : zV p l e s m below meth c b D tc adB k n pc L (st) S := by
  subst hq
  intro ad H locs ls ha hP hD hS hL hw
  exact lv_iload_n hE.1.1 hE.1.2.1 hd hi (hL.at hl) (kk ad H locs ls ha hP hD hS hL hw)
theorem zl_ldc2 {idx : Nat} {v : Int64} (hE : lE p s m meth c b Lx xs D tc adB) (hd : decode code pc = .ok (.ldc2_w idx, 3)) (hw2 : Cond.constantLong RL idx v ∈ zw_Tb) (hq : pc + 3 = q) (kk : zV p l e s m below meth c b D tc adB k n q L (.long v :: st) S) : zV p l e s m below meth c b D tc adB k n pc L st S := by
  subst hq
  intro ad H locs ls ha hP hD hS hL hw
  exact lv_ldc2 hE.1.1 hE.1.2.1 hE.1.2.2.2.2.1 (hE.1.2.2.2.2.2.1 _ (List.mem_filter.mp hw2).1) hd (kk ad H locs ls ha hP hD hS hL hw)
theorem zl_istore_n {j : Fin 4} {i : Nat} {x : Int32} (hE : lE p s m meth c b Lx xs D tc adB) (hd : decode code pc = .ok (.istore_n j, 1)) (hi : (j : Nat) = i) (hlt : i < L.length) (hz : zw_nl L i = true) (hq : pc + 1 = q) (kk : zV p l e s m below meth c b D tc adB k n q (L.set i (some (.int x))) st S) : zV p l e s m below meth c b D tc adB k n pc L (.int x :: st) S := by
  subst hq
  intro ad H locs ls ha hP hD hS hL hw
  exact lv_istore_n hE.1.1 hE.1.2.1 hd hi hL.1 (by rw [← hL.2]; exact hlt) rfl (fun ls' h => kk ad H locs ls' ha hP hD hS (by exact zw_L.st1 hL.2 hlt hz h) hw)
theorem zl_astore_n {j : Fin 4} {i : Nat} {x : Nat} (hE : lE p s m meth c b Lx xs D tc adB) (hd : decode code pc = .ok (.astore_n j, 1)) (hi : (j : Nat) = i) (hlt : i < L.length) (hz : zw_nl L i = true) (hq : pc + 1 = q) (kk : zV p l e s m below meth c b D tc adB k n q (L.set i (some (.ref x))) st S) : zV p l e s m below meth c b D tc adB k n pc L (.ref x :: st) S := by
  subst hq
  intro ad H locs ls ha hP hD hS hL hw
  exact lv_astore_n hE.1.1 hE.1.2.1 hd hi hL.1 (by rw [← hL.2]; exact hlt) rfl (fun ls' h => kk ad H locs ls' ha hP hD hS (by exact zw_L.st1 hL.2 hlt hz h) hw)
theorem zl_goto {off : Int} {t : Nat} (hE : lE p s m meth c b Lx xs D tc adB) (hd : decode code pc = .ok (.goto off, 3)) (ht : (pc : Int) + off = (t : Int)) (kk : zV p l e s m below meth c b D tc adB k n t L st S) : zV p l e s m below meth c b D tc adB k n pc L st S := by
  intro ad H locs ls ha hP hD hS hL hw
  exact lv_goto hE.1.1 hE.1.2.1 hd ht (kk ad H locs ls ha hP hD hS hL hw)
theorem zl_icmp_gt {x y : Int32} {off : Int} {t : Nat} (hE : lE p s m meth c b Lx xs D tc adB) (hd : decode code pc = .ok (.if_icmp .gt off, 3)) (ht : (pc : Int) + off = (t : Int)) (hq : pc + 3 = q) (kt : y < x → zV p l e s m below meth c b D tc adB k n t L st S) (kf : ¬ y < x → zV p l e s m below meth c b D tc adB k n q L st S) : zV p l e s m below meth c b D tc adB k n pc L (.int y :: .int x :: st) S := by
  subst hq
  intro ad H locs ls ha hP hD hS hL hw
  exact lv_icmp_gt hE.1.1 hE.1.2.1 hd ht (fun h => kt h ad H locs ls ha hP hD hS hL hw) (fun h => kf h ad H locs ls ha hP hD hS hL hw)
theorem zl_icmp_eq {x y : Int32} {off : Int} {t : Nat} (hE : lE p s m meth c b Lx xs D tc adB) (hd : decode code pc = .ok (.if_icmp .eq off, 3)) (ht : (pc : Int) + off = (t : Int)) (he : x = y) (kt : zV p l e s m below meth c b D tc adB k n t L st S) : zV p l e s m below meth c b D tc adB k n pc L (.int y :: .int x :: st) S := by
  intro ad H locs ls ha hP hD hS hL hw
  exact lv_icmp_eq hE.1.1 hE.1.2.1 hd ht (fun h => kt ad H locs ls ha hP hD hS hL hw) (fun h => absurd he h)
theorem zl_if_eq {x : Int32} {off : Int} {t : Nat} (hE : lE p s m meth c b Lx xs D tc adB) (hd : decode code pc = .ok (.ifCond .eq off, 3)) (ht : (pc : Int) + off = (t : Int)) (he : x = 0) (kt : zV p l e s m below meth c b D tc adB k n t L st S) : zV p l e s m below meth c b D tc adB k n pc L (.int x :: st) S := by
  intro ad H locs ls ha hP hD hS hL hw
  exact lv_if_eq hE.1.1 hE.1.2.1 hd ht (fun h => kt ad H locs ls ha hP hD hS hL hw) (fun h => absurd he h)
theorem zl_tblIn {dflt lo hi : Int} {offs : Array Int} {len : Nat} {x : Int32} {off : Int} {t : Nat} (hE : lE p s m meth c b Lx xs D tc adB) (hd : decode code pc = .ok (.tableswitch dflt lo hi offs, len)) (h1 : ¬ x.toInt < lo) (h2 : ¬ hi < x.toInt) (ho : offs[(x.toInt - lo).toNat]? = some off) (ht : (pc : Int) + off = (t : Int)) (kk : zV p l e s m below meth c b D tc adB k n t L st S) : zV p l e s m below meth c b D tc adB k n pc L (.int x :: st) S := by
  intro ad H locs ls ha hP hD hS hL hw
  exact lv_tableIn hE.1.1 hE.1.2.1 hd h1 h2 ho ht (kk ad H locs ls ha hP hD hS hL hw)
theorem zl_tblOut {dflt lo hi : Int} {offs : Array Int} {len : Nat} {x : Int32} {t : Nat} (hE : lE p s m meth c b Lx xs D tc adB) (hd : decode code pc = .ok (.tableswitch dflt lo hi offs, len)) (h1 : x.toInt < lo ∨ hi < x.toInt) (ht : (pc : Int) + dflt = (t : Int)) (kk : zV p l e s m below meth c b D tc adB k n t L st S) : zV p l e s m below meth c b D tc adB k n pc L (.int x :: st) S := by
  intro ad H locs ls ha hP hD hS hL hw
  exact lv_tableOut hE.1.1 hE.1.2.1 hd h1 ht (kk ad H locs ls ha hP hD hS hL hw)
theorem zl_iinc {w : Int} {x x' : Int32} {v0 v1 v2 : Option Value} (hE : lE p s m meth c b Lx xs D tc adB) (hd : decode code pc = .ok (.iinc 3 w, 3)) (hx : x + Int32.ofInt w = x') (hz : zw_nl [v0, v1, v2] 3 = true) (hq : pc + 3 = q) (kk : zV p l e s m below meth c b D tc adB k n q [v0, v1, v2, some (.int x')] st S) : zV p l e s m below meth c b D tc adB k n pc [v0, v1, v2, some (.int x)] st S := by
  subst hq
  subst hx
  intro ad H locs ls ha hP hD hS hL hw
  obtain ⟨kp, hkp⟩ := List.getElem?_of_mem (zw_lv_mem.mpr ⟨3, .int x, (Nat.zero_add 3).symm, rfl, rfl⟩ : (3, zw_v ad (.int x)) ∈ zw_lv ad 0 [v0, v1, v2, some (.int x)])
  exact lv_iinc hE.1.1 hE.1.2.1 hd hL.1 hkp rfl (show 3 < 4 by omega) rfl (fun ls' h => kk ad H locs ls' ha hP hD hS (zw_L.st1 (L := [v0, v1, v2, some (.int x)]) (i := 3) (x := .int (x + Int32.ofInt w)) hL.2 (show 3 < 4 by omega) hz h) hw)
theorem zl_sld {i : Int32} (hE : lE p s m meth c b Lx xs D tc adB) (hd : decode code pc = .ok (.iaload, 1)) (hin : vp_in i Lx) (hq : pc + 1 = q) (kk : zV p l e s m below meth c b D tc adB k n q L (.int (xs i.toNatClampNeg) :: st) S) : zV p l e s m below meth c b D tc adB k n pc L (.int i :: .ref 500000 :: st) S := by
  subst hq
  intro ad H locs ls ha hP hD hS hL hw
  have e5 : ad 500000 = b := (ha 500000 (by omega)).trans hE.2.2.2
  show W p l e room_1 s m _ below meth c H locs k n _ (F0 m pc ls (.int i :: .ref (ad 500000) :: st.map (zw_v ad)))
  rw [e5]
  exact va_sld hE.1.1 hE.1.2.1 hE.1.2.2.2.2.2.2.1 hE.1.2.2.2.2.2.2.2.1 (Nat.not_le.mpr hE.1.2.2.2.2.2.2.2.1) hS hin hd (kk ad H locs ls ha hP hD hS hL hw)
theorem zl_slen (hE : lE p s m meth c b Lx xs D tc adB) (hd : decode code pc = .ok (.arraylength, 1)) (hq : pc + 1 = q) (kk : zV p l e s m below meth c b D tc adB k n q L (.int (Int32.ofNat Lx) :: st) S) : zV p l e s m below meth c b D tc adB k n pc L (.ref 500000 :: st) S := by
  subst hq
  intro ad H locs ls ha hP hD hS hL hw
  have e5 : ad 500000 = b := (ha 500000 (by omega)).trans hE.2.2.2
  show W p l e room_1 s m _ below meth c H locs k n _ (F0 m pc ls (.ref (ad 500000) :: st.map (zw_v ad)))
  rw [e5]
  exact va_slen hE.1.1 hE.1.2.1 hE.1.2.2.2.2.2.2.1 hE.1.2.2.2.2.2.2.2.1 (Nat.not_le.mpr hE.1.2.2.2.2.2.2.2.1) hS hd (kk ad H locs ls ha hP hD hS hL hw)
theorem zl_ret (hE : lE p s m meth c b Lx xs D tc adB) (hd : decode code pc = .ok (.ireturn, 1)) (hk : k ≤ 600000) (hn : n ≤ 7302250) : zV p l e s m below meth c b D tc adB k n pc L [.int 1] S := by
  intro ad H locs ls ha hP hD hS hL hw
  exact va_forget hS.2.2 (W.widen hk hn (lw_ret hE.1.1 hE.1.2.1 hE.1.2.2.1 hE.1.2.2.2.2.2.2.2.2.1 hd))
theorem lE.words (hE : lE p s m meth c b Lx xs D tc adB) : ∀ w ∈ zw_Tb, w.before #[Value.ref b] s = true := fun w hw => hE.1.2.2.2.2.2.1 w (List.mem_filter.mp hw).1
theorem zl_pre {ad : Nat → Nat} {H : Heap} {locs : List Loc} {vs : List Value} (hE : lE p s m meth c b Lx xs D tc adB) (ha : ∀ k, 100000 ≤ k → ad k = adB k) (hP : va_P D zw_cl (zw_ws tc ad S) H) (hD : va_D (fun q => s.heap.size ≤ q) (zw_ws tc ad S)) (hS : va_S (fun q => s.heap.size ≤ q) s.heap H locs) (hw : zw_wf S) :
    FrameBlind (zw_P D tc (fun q => s.heap.size ≤ q) ad vs S) ∧ ∀ U : State, U.heap = H → s.WarmedH U.vm → zw_P D tc (fun q => s.heap.size ≤ q) ad vs S (vs.map (zw_v ad)).toArray U := by
  refine ⟨zw_blind, fun U hU hW => ⟨rfl, by rw [hU]; exact hP, hD, va_K.moved hW.alike hE.2.1, ?_, fun q hq => Nat.le_trans hS.1 (by rw [← hU]; exact hq), hw⟩⟩
  rw [hU]
  exact zw_G.warm hW ((hE.2.2.1.re ha).kept hS.2.1)
theorem zl_room (hdd : dd ≤ 1000) (h : y'.2.2.1 ≤ 41) : (zw_rm dd mc' ms').frames + 1 ≤ room_1.frames ∧ 8 + (y'.2.2.1 + 11) + (zw_rm dd mc' ms').locals ≤ room_1.locals := by
  show dd + 1 ≤ 2048 ∧ 8 + (y'.2.2.1 + 11) + 60 * dd ≤ 84000
  omega
theorem zl_after {a : Array Value} {st0 : List Value} {ad : Nat → Nat} {H : Heap} {locs : List Loc} {ls : Array Slot} (ha : ∀ k, 100000 ≤ k → ad k = adB k) (hS : va_S (fun q => s.heap.size ≤ q) s.heap H locs) (hL : zw_L ls 4 ad L)
    (hwf : mc' = 0 ∨ (zw_wl S.1.length L = true ∧ st.all (zw_wv S.1.length) = true))
    (hr : va_Run p l e room_1 s m #[Value.ref b] below meth c H locs k n mc' ms' (F0 m pc ls st0) (st.map (zw_v ad)) (zw_Q D tc (fun q => s.heap.size ≤ q) ad S.1.length mc' Q' a) (fun q => s.heap.size ≤ q))
    (kk : ∀ (r : Option Value) (S' : zw_S), Q' r S' → zV p l e s m below meth c b D tc adB (k + mc') (n + ms') (pc + 3) L (r.toList ++ st) S') :
    W p l e room_1 s m #[Value.ref b] below meth c H locs k n (lw_Z below #[Value.ref b] s) (F0 m pc ls st0) := by
  refine zw_goes hr hS fun r S' ad' H1 locs1 hq hw ha' hm' hP1 hD1 hS1 => ?_
  have e1 : zw_L ls 4 ad' L := by
    rcases hwf with h | ⟨h, -⟩
    · rw [hm' h]; exact hL
    · exact ⟨by rw [zw_lv_re ha' L 0 h]; exact hL.1, hL.2⟩
  have e2 : st.map (zw_v ad') = st.map (zw_v ad) := by
    rcases hwf with h | ⟨-, h⟩
    · rw [hm' h]
    · exact zw_map_re ha' st h
  have h := kk r S' hq ad' H1 locs1 ls (fun j hj => (ha' j (Or.inr hj)).trans (ha j hj)) hP1 hD1 hS1 e1 hw.2
  rw [List.map_append, e2] at h
  have e3 : (r.map (zw_v ad')).toList = r.toList.map (zw_v ad') := by cases r <;> rfl
  rw [e3]
  exact h
theorem zl_callV {As : List Value} {b' idx ci : Nat} (hE : lE p s m meth c b Lx xs D tc adB) (hd : decode code pc = .ok (.invokevirtual idx, 3)) (hl : Cond.methodLink RL idx y'.1 ∈ zw_Tb) (hok : zw_okV y' As.length) (hdd : dd ≤ 1000) (hsh : S.1[b']? = some (0, ci)) (hci : ci < 9) (hcls : y'.1.cls = zw_R ci)
    (hen : (zw_en (.ref b' :: As)).length ≤ y'.2.2.1) (hst : (st.map fun v => v.category).sum ≤ 8) (hk : k + mc' ≤ 600000) (hks : n + ms' ≤ 7302250) (hwf : mc' = 0 ∨ (zw_wl S.1.length L = true ∧ st.all (zw_wv S.1.length) = true))
    (hz : zCall l D tc (fun q => s.heap.size ≤ q) y' dd mc' ms' (.ref b' :: As) S Q') (kk : ∀ (r : Option Value) (S' : zw_S), Q' r S' → zV p l e s m below meth c b D tc adB (k + mc') (n + ms') (pc + 3) L (r.toList ++ st) S') : zV p l e s m below meth c b D tc adB k n pc L (As.reverse ++ .ref b' :: st) S := by
  intro ad H locs ls ha hP hD hS hL hw
  have hgo : GoodIn zw_Tb (wsV RL idx y'.1.cls y'.1 (zw_wsy y')) := fun w hw => by
    rcases List.mem_append.mp hw with h | h
    · simp only [List.mem_cons, List.not_mem_nil, or_false] at h
      rcases h with h | h | h | h <;> subst h
      · exact zw_g1 hl
      · exact zw_g1 hok.2.1
      · exact zw_g1 hok.2.2
      · exact zw_g1 hok.1.2.2.1
    · exact zw_gY hok.1 w h
  have hr : va_Run p l e room_1 s m #[Value.ref b] below meth c H locs k n mc' ms' (F0 m pc ls ((As.reverse ++ .ref b' :: st).map (zw_v ad))) (st.map (zw_v ad)) (zw_Q D tc (fun q => s.heap.size ≤ q) ad S.1.length mc' Q' (Value.ref (ad b') :: As.map (zw_v ad)).toArray) (fun q => s.heap.size ≤ q) := va_runV (As := As.map (zw_v ad)) (b := ad b') (rest := st.map (zw_v ad)) (g := F0 m pc ls ((As.reverse ++ .ref b' :: st).map (zw_v ad))) (cells := k) (slots := n) ⟨hE.1.1, hE.1.2.1, hE.1.2.2.2.1, hE.1.2.2.2.2.1, hE.words⟩ (zw_met hok.1.1 hen hz ad) (cwV (R := room_1) As.length hE.words hgo rfl rfl rfl ⟨rfl, hok.1.2.2.2.1⟩ (zl_room hdd hok.1.2.2.2.2))
    ⟨(zl_pre (vs := .ref b' :: As) hE ha hP hD hS hw).1, by rw [hcls]; exact va_recv hE.2.1 hP (zw_cl_at hci) (zw_get hsh), (zl_pre (vs := .ref b' :: As) hE ha hP hD hS hw).2⟩ rfl (by rw [List.length_map]) hL.1.1 (by simp [zw_v]) (zw_sum8 ls _ hst) hd ⟨hk, hks⟩
  exact zl_after ha hS hL hwf hr kk
theorem zl_callI {As : List Value} {b' idx : Nat} (hE : lE p s m meth c b Lx xs D tc adB) (hd : decode code pc = .ok (.invokespecial idx, 3)) (hl : Cond.methodLink RL idx y'.1 ∈ zw_Tb) (hok : zw_okI y' As.length) (hdd : dd ≤ 1000)
    (hen : (zw_en (.ref b' :: As)).length ≤ y'.2.2.1) (hst : (st.map fun v => v.category).sum ≤ 8) (hk : k + mc' ≤ 600000) (hks : n + ms' ≤ 7302250) (hwf : mc' = 0 ∨ (zw_wl S.1.length L = true ∧ st.all (zw_wv S.1.length) = true))
    (hz : zCall l D tc (fun q => s.heap.size ≤ q) y' dd mc' ms' (.ref b' :: As) S Q') (kk : ∀ (r : Option Value) (S' : zw_S), Q' r S' → zV p l e s m below meth c b D tc adB (k + mc') (n + ms') (pc + 3) L (r.toList ++ st) S') : zV p l e s m below meth c b D tc adB k n pc L (As.reverse ++ .ref b' :: st) S := by
  intro ad H locs ls ha hP hD hS hL hw
  have hW : ∀ w ∈ zw_Tb, w.before #[Value.ref b] s = true := hE.words
  have hws : zw_wsy y' = Cond.code y'.1 y'.2.1 y'.2.2.1 none :: zw_Tb := by unfold zw_wsy; rw [hok.2.2.2]
  have hr : va_Run p l e room_1 s m #[Value.ref b] below meth c H locs k n mc' ms' (F0 m pc ls ((As.reverse ++ .ref b' :: st).map (zw_v ad))) (st.map (zw_v ad)) (zw_Q D tc (fun q => s.heap.size ≤ q) ad S.1.length mc' Q' (Value.ref (ad b') :: As.map (zw_v ad)).toArray) (fun q => s.heap.size ≤ q) := va_runI (As := As.map (zw_v ad)) (b := ad b') (rest := st.map (zw_v ad)) (g := F0 m pc ls ((As.reverse ++ .ref b' :: st).map (zw_v ad))) (cells := k) (slots := n) ⟨hE.1.1, hE.1.2.1, hE.1.2.2.2.1, hE.1.2.2.2.2.1, hW⟩ (zw_met hok.1.1 hen hz ad) (cwI (R := room_1) As.length hW (zw_gY hok.1) hws rfl rfl (hW _ hok.1.2.2.1) (hW _ hl) (hW _ hok.2.1) hok.2.2.1 hok.1.2.2.2.1 (zl_room hdd hok.1.2.2.2.2))
    (zl_pre (vs := .ref b' :: As) hE ha hP hD hS hw) rfl (by rw [List.length_map]) hL.1.1 (by simp [zw_v]) (zw_sum8 ls _ hst) hd ⟨hk, hks⟩
  exact zl_after ha hS hL hwf hr kk
theorem zl_new {idx ci : Nat} (hE : lE p s m meth c b Lx xs D tc adB) (hd : decode code pc = .ok (.new idx, 3)) (hci : ci < 9) (hcl : Cond.classLink RL idx (zw_R ci) ∈ zw_Tb) (hin : Cond.instantiable (zw_R ci) (zw_N ci) ∈ zw_Tb) (hini : Cond.initialized (zw_R ci) ∈ zw_Tb) (hcn : zw_cln S) (hl : S.1.length = N) (hlt : N < 100000) (hk : k + 1 ≤ 600000) (hks : n + zw_N ci ≤ 7302250) (hlw : zw_wl N L = true) (hst : st.all (zw_wv N) = true) (hq : pc + 3 = q)
    (kk : zV p l e s m below meth c b D tc adB (k + 1) (n + zw_N ci) q L (.ref N :: st) (zw_app S [(0, ci)])) : zV p l e s m below meth c b D tc adB k n pc L st S := by
  subst hq
  subst hl
  intro ad H locs ls ha hP hD hS hL hw
  obtain ⟨z1, z2, z3⟩ := hcn S.1.length (Nat.le_refl _)
  refine va_new hE.1.1 hE.1.2.1 (Ts := zw_Tb) hE.words (zw_lays_ok hci) (zw_ft ci) (zw_ty hci) hE.1.2.2.2.2.1 (hE.words _ hcl) (hE.words _ hin) (hE.words _ hini) hE.2.1 hP hD hS (fun q hq => hq) (zw_cl_at hci) (fs := zw_fs ad S S.1.length ci) (fun j hj => ?_) hk hks hd (fun q H1 hP1 hD1 hS1 => ?_)
  · unfold vp_V
    rw [List.getD_eq_getElem?_getD, zw_fs_at hj]
    exact zw_dflt (z1 j) (z2 j) (z3 j) (zw_isX_all hci j hj)
  · have hX : ([(0, ci)] : List (Nat × Nat)).mapIdx (fun i q' => (zw_ad ad S.1.length q (i + S.1.length), zw_ac tc (zw_ad ad S.1.length q) (zw_app S [(0, ci)]) (i + S.1.length) q')) = [(q, .inr (ci, zw_fs ad S S.1.length ci))] := by
      rw [List.mapIdx_cons, List.mapIdx_nil, Nat.zero_add, zw_ad_at, zw_ac_congr (S' := zw_app S [(0, ci)]) (S := S) rfl rfl rfl, zw_ac_re (ad := ad) (fun j r h => by rw [z3 j] at h; cases h)]
      rfl
    have hws := zw_ws_app (tc := tc) (ad := ad) (ad' := zw_ad ad S.1.length q) (S' := zw_app S [(0, ci)]) (X := [(0, ci)]) hw rfl (fun k _ => ⟨rfl, rfl, rfl⟩) (zw_ad_old hlt)
    rw [hX] at hws
    rw [← hws] at hP1 hD1
    have h := kk (zw_ad ad S.1.length q) H1 locs ls (fun j hj => (zw_ad_old hlt j (Or.inr hj)).trans (ha j hj)) hP1 hD1 hS1 ⟨by rw [zw_lv_re (zw_ad_old hlt) L 0 hlw]; exact hL.1, hL.2⟩ (zw_wf_app hw)
    rw [List.map_cons, zw_map_re (zw_ad_old hlt) st hst] at h
    have e2 : zw_v (zw_ad ad S.1.length q) (.ref S.1.length) = .ref q := by show Value.ref _ = _; rw [zw_ad_at]
    rw [e2] at h
    exact h
end ZV
