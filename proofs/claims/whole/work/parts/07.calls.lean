/-! calls -/
def zw_okM (y' : zw_M) (nP : Nat) : Prop := plainName y'.1.cls = true ∧ Cond.code y'.1 y'.2.1 y'.2.2.1 y'.2.2.2 ∈ zw_Tb ∧ Cond.initialized y'.1.cls ∈ zw_Tb ∧ (y'.1.cls ≠ "java/lang/invoke/MethodHandle" ∧ y'.1.cls ≠ "java/lang/invoke/VarHandle" ∧ (parseMethodDescriptor y'.1.desc).map (fun d => d.parameters.length) = some nP) ∧ y'.2.2.1 ≤ 41
def zw_okV (y' : zw_M) (nP : Nat) : Prop := zw_okM y' nP ∧ Cond.instanceMethod y'.1 ∈ zw_Tb ∧ Cond.selects y'.1.cls y'.1 y'.1 ∈ zw_Tb
def zw_okS (y' : zw_M) (nP : Nat) : Prop := zw_okM y' nP ∧ Cond.static y'.1 ∈ zw_Tb
def zw_okI (y' : zw_M) (nP : Nat) : Prop := zw_okM y' nP ∧ Cond.instanceMethod y'.1 ∈ zw_Tb ∧ y'.1.name = "<init>" ∧ y'.2.2.2 = none
theorem zw_g1 {w : Cond} (h : w ∈ zw_Tb) : w ∈ zw_Tb ∧ ((w.onTables && w.keeps) = true ∨ ∃ ty, w = .arrayClass ty) := zw_good w h
theorem zw_gY {y' : zw_M} {nP : Nat} (h : zw_okM y' nP) : GoodIn zw_Tb (zw_wsy y') := fun w hw => (List.mem_cons.mp hw).elim (fun e => by subst e; exact zw_g1 h.2.1) (fun h => zw_g1 h)
def zw_wv (N : Nat) : Value → Bool
  | .ref k => decide (k < N) || decide (100000 ≤ k)
  | _ => true
def zw_wl (N : Nat) (L : List (Option Value)) : Bool := L.all fun o => match o with
  | some v => zw_wv N v
  | none => true
theorem zw_v_re {N : Nat} {ad ad' : Nat → Nat} (h : ∀ k, k < N ∨ 100000 ≤ k → ad' k = ad k) {v : Value} (hv : zw_wv N v = true) : zw_v ad' v = zw_v ad v := by
  cases v <;> first | rfl | (simp only [zw_wv, Bool.or_eq_true, decide_eq_true_eq] at hv; simp only [zw_v, h _ hv])
theorem zw_lv_re {N : Nat} {ad ad' : Nat → Nat} (h : ∀ k, k < N ∨ 100000 ≤ k → ad' k = ad k) : ∀ (L : List (Option Value)) (i : Nat), zw_wl N L = true → zw_lv ad' i L = zw_lv ad i L := by
  intro L
  induction L with
  | nil => intro i _; rfl
  | cons o L ih =>
    intro i hw
    simp only [zw_wl, List.all_cons, Bool.and_eq_true] at hw
    cases o with
    | none => rw [zw_lv, zw_lv, ih _ hw.2]
    | some v => rw [zw_lv, zw_lv, ih _ hw.2, zw_v_re h hw.1]
theorem zw_map_re {N : Nat} {ad ad' : Nat → Nat} (h : ∀ k, k < N ∨ 100000 ≤ k → ad' k = ad k) : ∀ (st : List Value), st.all (zw_wv N) = true → st.map (zw_v ad') = st.map (zw_v ad) := by
  intro st
  induction st with
  | nil => intro _; rfl
  | cons v st ih =>
    intro hw
    simp only [List.all_cons, Bool.and_eq_true] at hw
    rw [List.map_cons, List.map_cons, ih hw.2, zw_v_re h hw.1]
theorem zw_C.re {D : va_G} {tc : Nat → ClassId} {A : Nat → Prop} {y : zw_M} {p : Program} {s : State} {m : MethodId} {args : Array Value} {meth : Method} {c : Code} {ad ad' : Nat → Nat} (C : zw_C D tc A y p s m args meth c ad) (h : ∀ k, 100000 ≤ k → ad' k = ad k) : zw_C D tc A y p s m args meth c ad' :=
  ⟨C.1, C.2.1, C.2.2.1, C.2.2.2.1, C.2.2.2.2.1, C.2.2.2.2.2.1, C.2.2.2.2.2.2.1, C.2.2.2.2.2.2.2.1.re h, C.2.2.2.2.2.2.2.2⟩
theorem zw_sum (ad : Nat → Nat) (st : List Value) : ((st.map (zw_v ad)).map fun v => v.category) = st.map fun v => v.category := by
  rw [List.map_map]
  exact List.map_congr_left (fun v _ => zw_v_cat ad v)
section ZA
variable {l : Launch} {D : va_G} {tc : Nat → ClassId} {A : Nat → Prop} {y y' : zw_M} {d mc ms k n mc' ms' pc q : Nat} {L : List (Option Value)} {st : List Value} {S : zw_S} {Q Q' : Option Value → zw_S → Prop}
variable {p : Program} {e : Env} {s : State} {m : MethodId} {args : Array Value} {below : List Frame} {meth : Method} {c : Code} {ad ad0 : Nat → Nat} {n0 : Nat} {H : Heap} {locs : List Loc} {ls : Array Slot}
theorem zw_after {a : Array Value} {st0 : List Value} (C : zw_C D tc A y p s m args meth c ad) (hS : va_S A s.heap H locs) (hL : zw_L ls y.2.2.1 ad L) (hn : n0 ≤ S.1.length ∧ zw_wf S) (ha : ∀ k, k < n0 ∨ 100000 ≤ k → ad k = ad0 k) (hm : mc = 0 → ad = ad0)
    (hwf : mc' = 0 ∨ (zw_wl S.1.length L = true ∧ st.all (zw_wv S.1.length) = true)) (hk : k + mc' ≤ mc)
    (hr : va_Run p l e (zw_rm (d + 1) mc ms) s m args below meth c H locs k n mc' ms' (F0 m pc ls st0) (st.map (zw_v ad)) (zw_Q D tc A ad S.1.length mc' Q' a) A)
    (kk : ∀ (r : Option Value) (S' : zw_S), Q' r S' → zW l D tc A y (d + 1) mc ms (k + mc') (n + ms') (pc + 3) L (r.toList ++ st) S' Q) :
    W p l e (zw_rm (d + 1) mc ms) s m args below meth c H locs k n (MQ below (zw_Q D tc A ad0 n0 mc Q) args s mc ms A) (F0 m pc ls st0) := by
  refine zw_goes hr hS fun r S' ad' H1 locs1 hq hw ha' hm' hP1 hD1 hS1 => ?_
  have e1 : zw_L ls y.2.2.1 ad' L := by
    rcases hwf with h | ⟨h, -⟩
    · rw [hm' h]; exact hL
    · exact ⟨by rw [zw_lv_re ha' L 0 h]; exact hL.1, hL.2⟩
  have e2 : st.map (zw_v ad') = st.map (zw_v ad) := by
    rcases hwf with h | ⟨-, h⟩
    · rw [hm' h]
    · exact zw_map_re ha' st h
  have h := kk r S' hq p e s m args below meth c ad' ad0 n0 H1 locs1 ls (C.re (fun j hj => ha' j (Or.inr hj))) hP1 hD1 hS1 e1 ⟨Nat.le_trans hn.1 hw.1, hw.2⟩ (fun j hj => (ha' j (hj.imp (fun z => Nat.lt_of_lt_of_le z hn.1) id)).trans (ha j hj)) (fun z => (hm' (by omega)).trans (hm z))
  rw [List.map_append, e2] at h
  have e3 : (r.map (zw_v ad')).toList = r.toList.map (zw_v ad') := by cases r <;> rfl
  rw [e3]
  exact h
theorem zw_room (h : y'.2.2.1 ≤ 41) : (zw_rm d mc' ms').frames + 1 ≤ (zw_rm (d + 1) mc ms).frames ∧ 8 + (y'.2.2.1 + 11) + (zw_rm d mc' ms').locals ≤ (zw_rm (d + 1) mc ms).locals := by
  unfold zw_rm
  dsimp only
  exact ⟨Nat.le_refl _, by omega⟩
theorem zw_sum8 (ls : Array Slot) (st0 : List Value) (hst : (st.map fun v => v.category).sum ≤ 8) : 2 * (F0 m pc ls st0).monitorRoom + ((st.map (zw_v ad)).map fun v => v.category).sum ≤ 8 := by
  rw [zw_sum]
  show 2 * 0 + _ ≤ 8
  omega
theorem zx_callV {As : List Value} {b idx ci : Nat} (hd : decode y.2.1 pc = .ok (.invokevirtual idx, 3)) (hl : Cond.methodLink y.1.cls idx y'.1 ∈ zw_Tb) (hok : zw_okV y' As.length) (hsh : S.1[b]? = some (0, ci)) (hci : ci < 9) (hcls : y'.1.cls = zw_R ci)
    (hen : (zw_en (.ref b :: As)).length ≤ y'.2.2.1) (hst : (st.map fun v => v.category).sum ≤ 8) (hk : k + mc' ≤ mc) (hks : n + ms' ≤ ms) (hwf : mc' = 0 ∨ (zw_wl S.1.length L = true ∧ st.all (zw_wv S.1.length) = true))
    (hz : zCall l D tc A y' d mc' ms' (.ref b :: As) S Q') (kk : ∀ (r : Option Value) (S' : zw_S), Q' r S' → zW l D tc A y (d + 1) mc ms (k + mc') (n + ms') (pc + 3) L (r.toList ++ st) S' Q) : zW l D tc A y (d + 1) mc ms k n pc L (As.reverse ++ .ref b :: st) S Q := by
  intro p e s m args below meth c ad ad0 n0 H locs ls C hP hD hS hL hn ha hm
  have hgo : GoodIn zw_Tb (wsV y.1.cls idx y'.1.cls y'.1 (zw_wsy y')) := fun w hw => by
    rcases List.mem_append.mp hw with h | h
    · simp only [List.mem_cons, List.not_mem_nil, or_false] at h
      rcases h with h | h | h | h <;> subst h
      · exact zw_g1 hl
      · exact zw_g1 hok.2.1
      · exact zw_g1 hok.2.2
      · exact zw_g1 hok.1.2.2.1
    · exact zw_gY hok.1 w h
  have hr : va_Run p l e (zw_rm (d + 1) mc ms) s m args below meth c H locs k n mc' ms' (F0 m pc ls ((As.reverse ++ .ref b :: st).map (zw_v ad))) (st.map (zw_v ad)) (zw_Q D tc A ad S.1.length mc' Q' (Value.ref (ad b) :: As.map (zw_v ad)).toArray) A := va_runV (As := As.map (zw_v ad)) (b := ad b) (rest := st.map (zw_v ad)) (g := F0 m pc ls ((As.reverse ++ .ref b :: st).map (zw_v ad))) (cells := k) (slots := n) ⟨C.1, C.2.1, C.2.2.2.1, C.2.2.2.2.1, C.2.2.2.2.2.1⟩ (zw_met hok.1.1 hen hz ad) (cwV (R := zw_rm (d + 1) mc ms) As.length C.2.2.2.2.2.1 hgo rfl rfl rfl ⟨rfl, hok.1.2.2.2.1⟩ (zw_room hok.1.2.2.2.2))
    ⟨(zw_pre C hP hD hS hn.2).1, by rw [hcls]; exact va_recv C.2.2.2.2.2.2.1 hP (zw_cl_at hci) (zw_get hsh), (zw_pre C hP hD hS hn.2).2⟩ rfl (by rw [List.length_map]) hL.1.1 (by simp [zw_v]) (zw_sum8 ls _ hst) hd ⟨hk, hks⟩
  exact zw_after C hS hL hn ha hm hwf hk hr kk
theorem zx_callS {As : List Value} {idx : Nat} (hd : decode y.2.1 pc = .ok (.invokestatic idx, 3)) (hl : Cond.methodLink y.1.cls idx y'.1 ∈ zw_Tb) (hok : zw_okS y' As.length)
    (hen : (zw_en As).length ≤ y'.2.2.1) (hst : (st.map fun v => v.category).sum ≤ 8) (hk : k + mc' ≤ mc) (hks : n + ms' ≤ ms) (hwf : mc' = 0 ∨ (zw_wl S.1.length L = true ∧ st.all (zw_wv S.1.length) = true))
    (hz : zCall l D tc A y' d mc' ms' As S Q') (kk : ∀ (r : Option Value) (S' : zw_S), Q' r S' → zW l D tc A y (d + 1) mc ms (k + mc') (n + ms') (pc + 3) L (r.toList ++ st) S' Q) : zW l D tc A y (d + 1) mc ms k n pc L (As.reverse ++ st) S Q := by
  intro p e s m args below meth c ad ad0 n0 H locs ls C hP hD hS hL hn ha hm
  have hgo : GoodIn zw_Tb (va_wsS y.1.cls idx y'.1 (zw_wsy y')) := fun w hw => by
    rcases List.mem_append.mp hw with h | h
    · simp only [List.mem_cons, List.not_mem_nil, or_false] at h
      rcases h with h | h | h <;> subst h
      · exact zw_g1 hl
      · exact zw_g1 hok.2
      · exact zw_g1 hok.1.2.2.1
    · exact zw_gY hok.1 w h
  have hr : va_Run p l e (zw_rm (d + 1) mc ms) s m args below meth c H locs k n mc' ms' (F0 m pc ls ((As.reverse ++ st).map (zw_v ad))) (st.map (zw_v ad)) (zw_Q D tc A ad S.1.length mc' Q' (As.map (zw_v ad)).toArray) A := va_runS (As := As.map (zw_v ad)) (rest := st.map (zw_v ad)) (g := F0 m pc ls ((As.reverse ++ st).map (zw_v ad))) (cells := k) (slots := n) ⟨C.1, C.2.1, C.2.2.2.1, C.2.2.2.2.1, C.2.2.2.2.2.1⟩ (zw_met hok.1.1 hen hz ad) (va_cwS (R := zw_rm (d + 1) mc ms) As.length C.2.2.2.2.2.1 hgo rfl rfl rfl hok.1.2.2.2.1 (zw_room hok.1.2.2.2.2))
    (zw_pre C hP hD hS hn.2) rfl (by rw [List.length_map]) hL.1.1 (by simp) (zw_sum8 ls _ hst) hd ⟨hk, hks⟩
  exact zw_after C hS hL hn ha hm hwf hk hr kk
theorem zx_callI {As : List Value} {b idx : Nat} (hd : decode y.2.1 pc = .ok (.invokespecial idx, 3)) (hl : Cond.methodLink y.1.cls idx y'.1 ∈ zw_Tb) (hok : zw_okI y' As.length)
    (hen : (zw_en (.ref b :: As)).length ≤ y'.2.2.1) (hst : (st.map fun v => v.category).sum ≤ 8) (hk : k + mc' ≤ mc) (hks : n + ms' ≤ ms) (hwf : mc' = 0 ∨ (zw_wl S.1.length L = true ∧ st.all (zw_wv S.1.length) = true))
    (hz : zCall l D tc A y' d mc' ms' (.ref b :: As) S Q') (kk : ∀ (r : Option Value) (S' : zw_S), Q' r S' → zW l D tc A y (d + 1) mc ms (k + mc') (n + ms') (pc + 3) L (r.toList ++ st) S' Q) : zW l D tc A y (d + 1) mc ms k n pc L (As.reverse ++ .ref b :: st) S Q := by
  intro p e s m args below meth c ad ad0 n0 H locs ls C hP hD hS hL hn ha hm
  have hw : ∀ w ∈ zw_Tb, w.before args s = true := C.2.2.2.2.2.1
  have hws : zw_wsy y' = Cond.code y'.1 y'.2.1 y'.2.2.1 none :: zw_Tb := by unfold zw_wsy; rw [hok.2.2.2]
  have hr : va_Run p l e (zw_rm (d + 1) mc ms) s m args below meth c H locs k n mc' ms' (F0 m pc ls ((As.reverse ++ .ref b :: st).map (zw_v ad))) (st.map (zw_v ad)) (zw_Q D tc A ad S.1.length mc' Q' (Value.ref (ad b) :: As.map (zw_v ad)).toArray) A := va_runI (As := As.map (zw_v ad)) (b := ad b) (rest := st.map (zw_v ad)) (g := F0 m pc ls ((As.reverse ++ .ref b :: st).map (zw_v ad))) (cells := k) (slots := n) ⟨C.1, C.2.1, C.2.2.2.1, C.2.2.2.2.1, C.2.2.2.2.2.1⟩ (zw_met hok.1.1 hen hz ad) (cwI (R := zw_rm (d + 1) mc ms) As.length C.2.2.2.2.2.1 (zw_gY hok.1) hws rfl rfl (hw _ hok.1.2.2.1) (hw _ hl) (hw _ hok.2.1) hok.2.2.1 hok.1.2.2.2.1 (zw_room hok.1.2.2.2.2))
    (zw_pre (vs := .ref b :: As) C hP hD hS hn.2) rfl (by rw [List.length_map]) hL.1.1 (by simp [zw_v]) (zw_sum8 ls _ hst) hd ⟨hk, hks⟩
  exact zw_after C hS hL hn ha hm hwf hk hr kk
theorem zx_callIN {As : List Value} {b idx : Nat} (hd : decode y.2.1 pc = .ok (.invokespecial idx, 3)) (hl : (y.1.cls, (idx, y'.1)) ∈ zw_nest) (hok : zw_okI y' As.length)
    (hen : (zw_en (.ref b :: As)).length ≤ y'.2.2.1) (hst : (st.map fun v => v.category).sum ≤ 8) (hk : k + mc' ≤ mc) (hks : n + ms' ≤ ms) (hwf : mc' = 0 ∨ (zw_wl S.1.length L = true ∧ st.all (zw_wv S.1.length) = true))
    (hz : zCall l D tc A y' d mc' ms' (.ref b :: As) S Q') (kk : ∀ (r : Option Value) (S' : zw_S), Q' r S' → zW l D tc A y (d + 1) mc ms (k + mc') (n + ms') (pc + 3) L (r.toList ++ st) S' Q) : zW l D tc A y (d + 1) mc ms k n pc L (As.reverse ++ .ref b :: st) S Q := by
  intro p e s m args below meth c ad ad0 n0 H locs ls C hP hD hS hL hn ha hm
  have hw : ∀ w ∈ zw_Tb, w.before args s = true := C.2.2.2.2.2.1
  have hws : zw_wsy y' = Cond.code y'.1 y'.2.1 y'.2.2.1 none :: zw_Tb := by unfold zw_wsy; rw [hok.2.2.2]
  have hr : va_Run p l e (zw_rm (d + 1) mc ms) s m args below meth c H locs k n mc' ms' (F0 m pc ls ((As.reverse ++ .ref b :: st).map (zw_v ad))) (st.map (zw_v ad)) (zw_Q D tc A ad S.1.length mc' Q' (Value.ref (ad b) :: As.map (zw_v ad)).toArray) A := va_runIN (As := As.map (zw_v ad)) (b := ad b) (rest := st.map (zw_v ad)) (g := F0 m pc ls ((As.reverse ++ .ref b :: st).map (zw_v ad))) (cells := k) (slots := n) ⟨C.1, C.2.1, C.2.2.2.1, C.2.2.2.2.1, C.2.2.2.2.2.1⟩ (zw_met hok.1.1 hen hz ad) ⟨va_cnB (R := zw_rm (d + 1) mc ms) (args := args) As.length C.2.2.2.2.2.1 (zw_gY hok.1) hws rfl rfl (C.2.2.2.2.2.2.2.1.2.2.2.2.2.2.1 _ hl) (hw _ hok.1.2.2.1) hok.1.2.2.2.1 (zw_room hok.1.2.2.2.2), hok.2.2.1, hw _ hok.2.1⟩
    (zw_pre (vs := .ref b :: As) C hP hD hS hn.2) rfl (by rw [List.length_map]) hL.1.1 (by simp [zw_v]) (zw_sum8 ls _ hst) hd ⟨hk, hks⟩
  exact zw_after C hS hL hn ha hm hwf hk hr kk
theorem zx_callSN {As : List Value} {idx : Nat} (hd : decode y.2.1 pc = .ok (.invokestatic idx, 3)) (hl : (y.1.cls, (idx, y'.1)) ∈ zw_nest) (hok : zw_okS y' As.length)
    (hen : (zw_en As).length ≤ y'.2.2.1) (hst : (st.map fun v => v.category).sum ≤ 8) (hk : k + mc' ≤ mc) (hks : n + ms' ≤ ms) (hwf : mc' = 0 ∨ (zw_wl S.1.length L = true ∧ st.all (zw_wv S.1.length) = true))
    (hz : zCall l D tc A y' d mc' ms' As S Q') (kk : ∀ (r : Option Value) (S' : zw_S), Q' r S' → zW l D tc A y (d + 1) mc ms (k + mc') (n + ms') (pc + 3) L (r.toList ++ st) S' Q) : zW l D tc A y (d + 1) mc ms k n pc L (As.reverse ++ st) S Q := by
  intro p e s m args below meth c ad ad0 n0 H locs ls C hP hD hS hL hn ha hm
  have hw : ∀ w ∈ zw_Tb, w.before args s = true := C.2.2.2.2.2.1
  have hr : va_Run p l e (zw_rm (d + 1) mc ms) s m args below meth c H locs k n mc' ms' (F0 m pc ls ((As.reverse ++ st).map (zw_v ad))) (st.map (zw_v ad)) (zw_Q D tc A ad S.1.length mc' Q' (As.map (zw_v ad)).toArray) A := va_runSN (As := As.map (zw_v ad)) (rest := st.map (zw_v ad)) (g := F0 m pc ls ((As.reverse ++ st).map (zw_v ad))) (cells := k) (slots := n) ⟨C.1, C.2.1, C.2.2.2.1, C.2.2.2.2.1, C.2.2.2.2.2.1⟩ (zw_met hok.1.1 hen hz ad) ⟨va_cnB (R := zw_rm (d + 1) mc ms) (args := args) As.length C.2.2.2.2.2.1 (zw_gY hok.1) rfl rfl rfl (C.2.2.2.2.2.2.2.1.2.2.2.2.2.2.1 _ hl) (hw _ hok.1.2.2.1) hok.1.2.2.2.1 (zw_room hok.1.2.2.2.2), hw _ hok.2, trivial⟩
    (zw_pre C hP hD hS hn.2) rfl (by rw [List.length_map]) hL.1.1 (by simp) (zw_sum8 ls _ hst) hd ⟨hk, hks⟩
  exact zw_after C hS hL hn ha hm hwf hk hr kk
/-- a method of a text -/
theorem zx_callT {As : List Value} {i idx : Nat} (hd : decode y.2.1 pc = .ok (.invokevirtual idx, 3)) (hl : Cond.methodLink y.1.cls idx y'.1 ∈ zw_Tb) (hok : zw_okV y' As.length) (hi : i < 8) (hcls : y'.1.cls = RJ0)
    (hen : (zw_en (.ref (100000 + i) :: As)).length ≤ y'.2.2.1) (hst : (st.map fun v => v.category).sum ≤ 8) (hk : k + mc' ≤ mc) (hks : n + ms' ≤ ms) (hwf : mc' = 0 ∨ (zw_wl S.1.length L = true ∧ st.all (zw_wv S.1.length) = true))
    (hz : zCall l D tc A y' d mc' ms' (.ref (100000 + i) :: As) S Q') (kk : ∀ (r : Option Value) (S' : zw_S), Q' r S' → zW l D tc A y (d + 1) mc ms (k + mc') (n + ms') (pc + 3) L (r.toList ++ st) S' Q) : zW l D tc A y (d + 1) mc ms k n pc L (As.reverse ++ .ref (100000 + i) :: st) S Q := by
  intro p e s m args below meth c ad ad0 n0 H locs ls C hP hD hS hL hn ha hm
  have hgo : GoodIn zw_Tb (wsV y.1.cls idx y'.1.cls y'.1 (zw_wsy y')) := fun w hw => by
    rcases List.mem_append.mp hw with h | h
    · simp only [List.mem_cons, List.not_mem_nil, or_false] at h
      rcases h with h | h | h | h <;> subst h
      · exact zw_g1 hl
      · exact zw_g1 hok.2.1
      · exact zw_g1 hok.2.2
      · exact zw_g1 hok.1.2.2.1
    · exact zw_gY hok.1 w h
  have hr : va_Run p l e (zw_rm (d + 1) mc ms) s m args below meth c H locs k n mc' ms' (F0 m pc ls ((As.reverse ++ .ref (100000 + i) :: st).map (zw_v ad))) (st.map (zw_v ad)) (zw_Q D tc A ad S.1.length mc' Q' (Value.ref (ad (100000 + i)) :: As.map (zw_v ad)).toArray) A := va_runV (As := As.map (zw_v ad)) (b := ad (100000 + i)) (rest := st.map (zw_v ad)) (g := F0 m pc ls ((As.reverse ++ .ref (100000 + i) :: st).map (zw_v ad))) (cells := k) (slots := n) ⟨C.1, C.2.1, C.2.2.2.1, C.2.2.2.2.1, C.2.2.2.2.2.1⟩ (zw_met hok.1.1 hen hz ad) (cwV (R := zw_rm (d + 1) mc ms) As.length C.2.2.2.2.2.1 hgo rfl rfl rfl ⟨rfl, hok.1.2.2.2.1⟩ (zw_room hok.1.2.2.2.2))
    ⟨(zw_pre C hP hD hS hn.2).1, by rw [hcls]; exact vk_recv (adK := fun i => ad (100000 + i)) (i := i) C.2.2.2.2.2.2.2.1.2.2.2.2.1 hi hS, (zw_pre C hP hD hS hn.2).2⟩ rfl (by rw [List.length_map]) hL.1.1 (by simp [zw_v]) (zw_sum8 ls _ hst) hd ⟨hk, hks⟩
  exact zw_after C hS hL hn ha hm hwf hk hr kk
end ZA
def zQi (P : Int32 → zw_S → Prop) : Option Value → zw_S → Prop := fun r S => ∃ x, r = some (.int x) ∧ P x S
def zQl (P : Int64 → zw_S → Prop) : Option Value → zw_S → Prop := fun r S => ∃ x, r = some (.long x) ∧ P x S
def zQr (P : Nat → zw_S → Prop) : Option Value → zw_S → Prop := fun r S => ∃ x, r = some (.ref x) ∧ P x S
def zQv (P : zw_S → Prop) : Option Value → zw_S → Prop := fun r S => r = none ∧ P S
section ZB
variable {l : Launch} {D : va_G} {tc : Nat → ClassId} {A : Nat → Prop} {y y' : zw_M} {d mc ms k n mc' ms' pc q : Nat} {L : List (Option Value)} {st : List Value} {S : zw_S} {Q Q' : Option Value → zw_S → Prop}
theorem zx_callV0i {b idx ci : Nat} {P : Int32 → zw_S → Prop} (hd : decode y.2.1 pc = .ok (.invokevirtual idx, 3)) (hl : Cond.methodLink y.1.cls idx y'.1 ∈ zw_Tb) (hok : zw_okV y' 0) (hsh : S.1[b]? = some (0, ci)) (hci : ci < 9) (hcls : y'.1.cls = zw_R ci) (hen : (zw_en [.ref b]).length ≤ y'.2.2.1) (hst : (st.map fun v => v.category).sum ≤ 8) (hk : k ≤ mc) (hks : n ≤ ms) (hq : pc + 3 = q) (hz : zCall l D tc A y' d 0 0 [.ref b] S (zQi P)) (kk : ∀ x S', P x S' → zW l D tc A y (d + 1) mc ms k n q L (.int x :: st) S' Q) : zW l D tc A y (d + 1) mc ms k n pc L (.ref b :: st) S Q := by
  subst hq
  exact zx_callV (As := []) hd hl hok hsh hci hcls hen hst hk hks (Or.inl rfl) hz (fun r S' ⟨x, e, h⟩ => by subst e; exact kk x S' h)
theorem zx_callV0l {b idx ci : Nat} {P : Int64 → zw_S → Prop} (hd : decode y.2.1 pc = .ok (.invokevirtual idx, 3)) (hl : Cond.methodLink y.1.cls idx y'.1 ∈ zw_Tb) (hok : zw_okV y' 0) (hsh : S.1[b]? = some (0, ci)) (hci : ci < 9) (hcls : y'.1.cls = zw_R ci) (hen : (zw_en [.ref b]).length ≤ y'.2.2.1) (hst : (st.map fun v => v.category).sum ≤ 8) (hk : k ≤ mc) (hks : n ≤ ms) (hq : pc + 3 = q) (hz : zCall l D tc A y' d 0 0 [.ref b] S (zQl P)) (kk : ∀ x S', P x S' → zW l D tc A y (d + 1) mc ms k n q L (.long x :: st) S' Q) : zW l D tc A y (d + 1) mc ms k n pc L (.ref b :: st) S Q := by
  subst hq
  exact zx_callV (As := []) hd hl hok hsh hci hcls hen hst hk hks (Or.inl rfl) hz (fun r S' ⟨x, e, h⟩ => by subst e; exact kk x S' h)
theorem zx_callV0r {b idx ci : Nat} {P : Nat → zw_S → Prop} (hd : decode y.2.1 pc = .ok (.invokevirtual idx, 3)) (hl : Cond.methodLink y.1.cls idx y'.1 ∈ zw_Tb) (hok : zw_okV y' 0) (hsh : S.1[b]? = some (0, ci)) (hci : ci < 9) (hcls : y'.1.cls = zw_R ci) (hen : (zw_en [.ref b]).length ≤ y'.2.2.1) (hst : (st.map fun v => v.category).sum ≤ 8) (hk : k ≤ mc) (hks : n ≤ ms) (hq : pc + 3 = q) (hz : zCall l D tc A y' d 0 0 [.ref b] S (zQr P)) (kk : ∀ x S', P x S' → zW l D tc A y (d + 1) mc ms k n q L (.ref x :: st) S' Q) : zW l D tc A y (d + 1) mc ms k n pc L (.ref b :: st) S Q := by
  subst hq
  exact zx_callV (As := []) hd hl hok hsh hci hcls hen hst hk hks (Or.inl rfl) hz (fun r S' ⟨x, e, h⟩ => by subst e; exact kk x S' h)
theorem zx_callV0v {b idx ci : Nat} {P : zw_S → Prop} (hd : decode y.2.1 pc = .ok (.invokevirtual idx, 3)) (hl : Cond.methodLink y.1.cls idx y'.1 ∈ zw_Tb) (hok : zw_okV y' 0) (hsh : S.1[b]? = some (0, ci)) (hci : ci < 9) (hcls : y'.1.cls = zw_R ci) (hen : (zw_en [.ref b]).length ≤ y'.2.2.1) (hst : (st.map fun v => v.category).sum ≤ 8) (hk : k ≤ mc) (hks : n ≤ ms) (hq : pc + 3 = q) (hz : zCall l D tc A y' d 0 0 [.ref b] S (zQv P)) (kk : ∀ S', P S' → zW l D tc A y (d + 1) mc ms k n q L st S' Q) : zW l D tc A y (d + 1) mc ms k n pc L (.ref b :: st) S Q := by
  subst hq
  exact zx_callV (As := []) hd hl hok hsh hci hcls hen hst hk hks (Or.inl rfl) hz (fun r S' ⟨e, h⟩ => by subst e; exact kk S' h)
theorem zx_callV1i {a0 : Value} {b idx ci : Nat} {P : Int32 → zw_S → Prop} (hd : decode y.2.1 pc = .ok (.invokevirtual idx, 3)) (hl : Cond.methodLink y.1.cls idx y'.1 ∈ zw_Tb) (hok : zw_okV y' 1) (hsh : S.1[b]? = some (0, ci)) (hci : ci < 9) (hcls : y'.1.cls = zw_R ci) (hen : (zw_en [.ref b, a0]).length ≤ y'.2.2.1) (hst : (st.map fun v => v.category).sum ≤ 8) (hk : k ≤ mc) (hks : n ≤ ms) (hq : pc + 3 = q) (hz : zCall l D tc A y' d 0 0 [.ref b, a0] S (zQi P)) (kk : ∀ x S', P x S' → zW l D tc A y (d + 1) mc ms k n q L (.int x :: st) S' Q) : zW l D tc A y (d + 1) mc ms k n pc L (a0 :: .ref b :: st) S Q := by
  subst hq
  exact zx_callV (As := [a0]) hd hl hok hsh hci hcls hen hst hk hks (Or.inl rfl) hz (fun r S' ⟨x, e, h⟩ => by subst e; exact kk x S' h)
theorem zx_callV1l {a0 : Value} {b idx ci : Nat} {P : Int64 → zw_S → Prop} (hd : decode y.2.1 pc = .ok (.invokevirtual idx, 3)) (hl : Cond.methodLink y.1.cls idx y'.1 ∈ zw_Tb) (hok : zw_okV y' 1) (hsh : S.1[b]? = some (0, ci)) (hci : ci < 9) (hcls : y'.1.cls = zw_R ci) (hen : (zw_en [.ref b, a0]).length ≤ y'.2.2.1) (hst : (st.map fun v => v.category).sum ≤ 8) (hk : k ≤ mc) (hks : n ≤ ms) (hq : pc + 3 = q) (hz : zCall l D tc A y' d 0 0 [.ref b, a0] S (zQl P)) (kk : ∀ x S', P x S' → zW l D tc A y (d + 1) mc ms k n q L (.long x :: st) S' Q) : zW l D tc A y (d + 1) mc ms k n pc L (a0 :: .ref b :: st) S Q := by
  subst hq
  exact zx_callV (As := [a0]) hd hl hok hsh hci hcls hen hst hk hks (Or.inl rfl) hz (fun r S' ⟨x, e, h⟩ => by subst e; exact kk x S' h)
theorem zx_callV1v {a0 : Value} {b idx ci : Nat} {P : zw_S → Prop} (hd : decode y.2.1 pc = .ok (.invokevirtual idx, 3)) (hl : Cond.methodLink y.1.cls idx y'.1 ∈ zw_Tb) (hok : zw_okV y' 1) (hsh : S.1[b]? = some (0, ci)) (hci : ci < 9) (hcls : y'.1.cls = zw_R ci) (hen : (zw_en [.ref b, a0]).length ≤ y'.2.2.1) (hst : (st.map fun v => v.category).sum ≤ 8) (hk : k ≤ mc) (hks : n ≤ ms) (hq : pc + 3 = q) (hz : zCall l D tc A y' d 0 0 [.ref b, a0] S (zQv P)) (kk : ∀ S', P S' → zW l D tc A y (d + 1) mc ms k n q L st S' Q) : zW l D tc A y (d + 1) mc ms k n pc L (a0 :: .ref b :: st) S Q := by
  subst hq
  exact zx_callV (As := [a0]) hd hl hok hsh hci hcls hen hst hk hks (Or.inl rfl) hz (fun r S' ⟨e, h⟩ => by subst e; exact kk S' h)
theorem zx_callV2i {a0 a1 : Value} {b idx ci : Nat} {P : Int32 → zw_S → Prop} (hd : decode y.2.1 pc = .ok (.invokevirtual idx, 3)) (hl : Cond.methodLink y.1.cls idx y'.1 ∈ zw_Tb) (hok : zw_okV y' 2) (hsh : S.1[b]? = some (0, ci)) (hci : ci < 9) (hcls : y'.1.cls = zw_R ci) (hen : (zw_en [.ref b, a0, a1]).length ≤ y'.2.2.1) (hst : (st.map fun v => v.category).sum ≤ 8) (hk : k ≤ mc) (hks : n ≤ ms) (hq : pc + 3 = q) (hz : zCall l D tc A y' d 0 0 [.ref b, a0, a1] S (zQi P)) (kk : ∀ x S', P x S' → zW l D tc A y (d + 1) mc ms k n q L (.int x :: st) S' Q) : zW l D tc A y (d + 1) mc ms k n pc L (a1 :: a0 :: .ref b :: st) S Q := by
  subst hq
  exact zx_callV (As := [a0, a1]) hd hl hok hsh hci hcls hen hst hk hks (Or.inl rfl) hz (fun r S' ⟨x, e, h⟩ => by subst e; exact kk x S' h)
theorem zx_callV2l {a0 a1 : Value} {b idx ci : Nat} {P : Int64 → zw_S → Prop} (hd : decode y.2.1 pc = .ok (.invokevirtual idx, 3)) (hl : Cond.methodLink y.1.cls idx y'.1 ∈ zw_Tb) (hok : zw_okV y' 2) (hsh : S.1[b]? = some (0, ci)) (hci : ci < 9) (hcls : y'.1.cls = zw_R ci) (hen : (zw_en [.ref b, a0, a1]).length ≤ y'.2.2.1) (hst : (st.map fun v => v.category).sum ≤ 8) (hk : k ≤ mc) (hks : n ≤ ms) (hq : pc + 3 = q) (hz : zCall l D tc A y' d 0 0 [.ref b, a0, a1] S (zQl P)) (kk : ∀ x S', P x S' → zW l D tc A y (d + 1) mc ms k n q L (.long x :: st) S' Q) : zW l D tc A y (d + 1) mc ms k n pc L (a1 :: a0 :: .ref b :: st) S Q := by
  subst hq
  exact zx_callV (As := [a0, a1]) hd hl hok hsh hci hcls hen hst hk hks (Or.inl rfl) hz (fun r S' ⟨x, e, h⟩ => by subst e; exact kk x S' h)
theorem zx_callV2v {a0 a1 : Value} {b idx ci : Nat} {P : zw_S → Prop} (hd : decode y.2.1 pc = .ok (.invokevirtual idx, 3)) (hl : Cond.methodLink y.1.cls idx y'.1 ∈ zw_Tb) (hok : zw_okV y' 2) (hsh : S.1[b]? = some (0, ci)) (hci : ci < 9) (hcls : y'.1.cls = zw_R ci) (hen : (zw_en [.ref b, a0, a1]).length ≤ y'.2.2.1) (hst : (st.map fun v => v.category).sum ≤ 8) (hk : k ≤ mc) (hks : n ≤ ms) (hq : pc + 3 = q) (hz : zCall l D tc A y' d 0 0 [.ref b, a0, a1] S (zQv P)) (kk : ∀ S', P S' → zW l D tc A y (d + 1) mc ms k n q L st S' Q) : zW l D tc A y (d + 1) mc ms k n pc L (a1 :: a0 :: .ref b :: st) S Q := by
  subst hq
  exact zx_callV (As := [a0, a1]) hd hl hok hsh hci hcls hen hst hk hks (Or.inl rfl) hz (fun r S' ⟨e, h⟩ => by subst e; exact kk S' h)
theorem zx_callV3i {a0 a1 a2 : Value} {b idx ci : Nat} {P : Int32 → zw_S → Prop} (hd : decode y.2.1 pc = .ok (.invokevirtual idx, 3)) (hl : Cond.methodLink y.1.cls idx y'.1 ∈ zw_Tb) (hok : zw_okV y' 3) (hsh : S.1[b]? = some (0, ci)) (hci : ci < 9) (hcls : y'.1.cls = zw_R ci) (hen : (zw_en [.ref b, a0, a1, a2]).length ≤ y'.2.2.1) (hst : (st.map fun v => v.category).sum ≤ 8) (hk : k ≤ mc) (hks : n ≤ ms) (hq : pc + 3 = q) (hz : zCall l D tc A y' d 0 0 [.ref b, a0, a1, a2] S (zQi P)) (kk : ∀ x S', P x S' → zW l D tc A y (d + 1) mc ms k n q L (.int x :: st) S' Q) : zW l D tc A y (d + 1) mc ms k n pc L (a2 :: a1 :: a0 :: .ref b :: st) S Q := by
  subst hq
  exact zx_callV (As := [a0, a1, a2]) hd hl hok hsh hci hcls hen hst hk hks (Or.inl rfl) hz (fun r S' ⟨x, e, h⟩ => by subst e; exact kk x S' h)
theorem zx_callV3l {a0 a1 a2 : Value} {b idx ci : Nat} {P : Int64 → zw_S → Prop} (hd : decode y.2.1 pc = .ok (.invokevirtual idx, 3)) (hl : Cond.methodLink y.1.cls idx y'.1 ∈ zw_Tb) (hok : zw_okV y' 3) (hsh : S.1[b]? = some (0, ci)) (hci : ci < 9) (hcls : y'.1.cls = zw_R ci) (hen : (zw_en [.ref b, a0, a1, a2]).length ≤ y'.2.2.1) (hst : (st.map fun v => v.category).sum ≤ 8) (hk : k ≤ mc) (hks : n ≤ ms) (hq : pc + 3 = q) (hz : zCall l D tc A y' d 0 0 [.ref b, a0, a1, a2] S (zQl P)) (kk : ∀ x S', P x S' → zW l D tc A y (d + 1) mc ms k n q L (.long x :: st) S' Q) : zW l D tc A y (d + 1) mc ms k n pc L (a2 :: a1 :: a0 :: .ref b :: st) S Q := by
  subst hq
  exact zx_callV (As := [a0, a1, a2]) hd hl hok hsh hci hcls hen hst hk hks (Or.inl rfl) hz (fun r S' ⟨x, e, h⟩ => by subst e; exact kk x S' h)
theorem zx_callV3v {a0 a1 a2 : Value} {b idx ci : Nat} {P : zw_S → Prop} (hd : decode y.2.1 pc = .ok (.invokevirtual idx, 3)) (hl : Cond.methodLink y.1.cls idx y'.1 ∈ zw_Tb) (hok : zw_okV y' 3) (hsh : S.1[b]? = some (0, ci)) (hci : ci < 9) (hcls : y'.1.cls = zw_R ci) (hen : (zw_en [.ref b, a0, a1, a2]).length ≤ y'.2.2.1) (hst : (st.map fun v => v.category).sum ≤ 8) (hk : k ≤ mc) (hks : n ≤ ms) (hq : pc + 3 = q) (hz : zCall l D tc A y' d 0 0 [.ref b, a0, a1, a2] S (zQv P)) (kk : ∀ S', P S' → zW l D tc A y (d + 1) mc ms k n q L st S' Q) : zW l D tc A y (d + 1) mc ms k n pc L (a2 :: a1 :: a0 :: .ref b :: st) S Q := by
  subst hq
  exact zx_callV (As := [a0, a1, a2]) hd hl hok hsh hci hcls hen hst hk hks (Or.inl rfl) hz (fun r S' ⟨e, h⟩ => by subst e; exact kk S' h)
theorem zx_callV4i {a0 a1 a2 a3 : Value} {b idx ci : Nat} {P : Int32 → zw_S → Prop} (hd : decode y.2.1 pc = .ok (.invokevirtual idx, 3)) (hl : Cond.methodLink y.1.cls idx y'.1 ∈ zw_Tb) (hok : zw_okV y' 4) (hsh : S.1[b]? = some (0, ci)) (hci : ci < 9) (hcls : y'.1.cls = zw_R ci) (hen : (zw_en [.ref b, a0, a1, a2, a3]).length ≤ y'.2.2.1) (hst : (st.map fun v => v.category).sum ≤ 8) (hk : k ≤ mc) (hks : n ≤ ms) (hq : pc + 3 = q) (hz : zCall l D tc A y' d 0 0 [.ref b, a0, a1, a2, a3] S (zQi P)) (kk : ∀ x S', P x S' → zW l D tc A y (d + 1) mc ms k n q L (.int x :: st) S' Q) : zW l D tc A y (d + 1) mc ms k n pc L (a3 :: a2 :: a1 :: a0 :: .ref b :: st) S Q := by
  subst hq
  exact zx_callV (As := [a0, a1, a2, a3]) hd hl hok hsh hci hcls hen hst hk hks (Or.inl rfl) hz (fun r S' ⟨x, e, h⟩ => by subst e; exact kk x S' h)
theorem zx_callV4l {a0 a1 a2 a3 : Value} {b idx ci : Nat} {P : Int64 → zw_S → Prop} (hd : decode y.2.1 pc = .ok (.invokevirtual idx, 3)) (hl : Cond.methodLink y.1.cls idx y'.1 ∈ zw_Tb) (hok : zw_okV y' 4) (hsh : S.1[b]? = some (0, ci)) (hci : ci < 9) (hcls : y'.1.cls = zw_R ci) (hen : (zw_en [.ref b, a0, a1, a2, a3]).length ≤ y'.2.2.1) (hst : (st.map fun v => v.category).sum ≤ 8) (hk : k ≤ mc) (hks : n ≤ ms) (hq : pc + 3 = q) (hz : zCall l D tc A y' d 0 0 [.ref b, a0, a1, a2, a3] S (zQl P)) (kk : ∀ x S', P x S' → zW l D tc A y (d + 1) mc ms k n q L (.long x :: st) S' Q) : zW l D tc A y (d + 1) mc ms k n pc L (a3 :: a2 :: a1 :: a0 :: .ref b :: st) S Q := by
  subst hq
  exact zx_callV (As := [a0, a1, a2, a3]) hd hl hok hsh hci hcls hen hst hk hks (Or.inl rfl) hz (fun r S' ⟨x, e, h⟩ => by subst e; exact kk x S' h)
theorem zx_callV4v {a0 a1 a2 a3 : Value} {b idx ci : Nat} {P : zw_S → Prop} (hd : decode y.2.1 pc = .ok (.invokevirtual idx, 3)) (hl : Cond.methodLink y.1.cls idx y'.1 ∈ zw_Tb) (hok : zw_okV y' 4) (hsh : S.1[b]? = some (0, ci)) (hci : ci < 9) (hcls : y'.1.cls = zw_R ci) (hen : (zw_en [.ref b, a0, a1, a2, a3]).length ≤ y'.2.2.1) (hst : (st.map fun v => v.category).sum ≤ 8) (hk : k ≤ mc) (hks : n ≤ ms) (hq : pc + 3 = q) (hz : zCall l D tc A y' d 0 0 [.ref b, a0, a1, a2, a3] S (zQv P)) (kk : ∀ S', P S' → zW l D tc A y (d + 1) mc ms k n q L st S' Q) : zW l D tc A y (d + 1) mc ms k n pc L (a3 :: a2 :: a1 :: a0 :: .ref b :: st) S Q := by
  subst hq
  exact zx_callV (As := [a0, a1, a2, a3]) hd hl hok hsh hci hcls hen hst hk hks (Or.inl rfl) hz (fun r S' ⟨e, h⟩ => by subst e; exact kk S' h)
theorem zx_callV5i {a0 a1 a2 a3 a4 : Value} {b idx ci : Nat} {P : Int32 → zw_S → Prop} (hd : decode y.2.1 pc = .ok (.invokevirtual idx, 3)) (hl : Cond.methodLink y.1.cls idx y'.1 ∈ zw_Tb) (hok : zw_okV y' 5) (hsh : S.1[b]? = some (0, ci)) (hci : ci < 9) (hcls : y'.1.cls = zw_R ci) (hen : (zw_en [.ref b, a0, a1, a2, a3, a4]).length ≤ y'.2.2.1) (hst : (st.map fun v => v.category).sum ≤ 8) (hk : k ≤ mc) (hks : n ≤ ms) (hq : pc + 3 = q) (hz : zCall l D tc A y' d 0 0 [.ref b, a0, a1, a2, a3, a4] S (zQi P)) (kk : ∀ x S', P x S' → zW l D tc A y (d + 1) mc ms k n q L (.int x :: st) S' Q) : zW l D tc A y (d + 1) mc ms k n pc L (a4 :: a3 :: a2 :: a1 :: a0 :: .ref b :: st) S Q := by
  subst hq
  exact zx_callV (As := [a0, a1, a2, a3, a4]) hd hl hok hsh hci hcls hen hst hk hks (Or.inl rfl) hz (fun r S' ⟨x, e, h⟩ => by subst e; exact kk x S' h)
theorem zx_callV5l {a0 a1 a2 a3 a4 : Value} {b idx ci : Nat} {P : Int64 → zw_S → Prop} (hd : decode y.2.1 pc = .ok (.invokevirtual idx, 3)) (hl : Cond.methodLink y.1.cls idx y'.1 ∈ zw_Tb) (hok : zw_okV y' 5) (hsh : S.1[b]? = some (0, ci)) (hci : ci < 9) (hcls : y'.1.cls = zw_R ci) (hen : (zw_en [.ref b, a0, a1, a2, a3, a4]).length ≤ y'.2.2.1) (hst : (st.map fun v => v.category).sum ≤ 8) (hk : k ≤ mc) (hks : n ≤ ms) (hq : pc + 3 = q) (hz : zCall l D tc A y' d 0 0 [.ref b, a0, a1, a2, a3, a4] S (zQl P)) (kk : ∀ x S', P x S' → zW l D tc A y (d + 1) mc ms k n q L (.long x :: st) S' Q) : zW l D tc A y (d + 1) mc ms k n pc L (a4 :: a3 :: a2 :: a1 :: a0 :: .ref b :: st) S Q := by
  subst hq
  exact zx_callV (As := [a0, a1, a2, a3, a4]) hd hl hok hsh hci hcls hen hst hk hks (Or.inl rfl) hz (fun r S' ⟨x, e, h⟩ => by subst e; exact kk x S' h)
theorem zx_callV5v {a0 a1 a2 a3 a4 : Value} {b idx ci : Nat} {P : zw_S → Prop} (hd : decode y.2.1 pc = .ok (.invokevirtual idx, 3)) (hl : Cond.methodLink y.1.cls idx y'.1 ∈ zw_Tb) (hok : zw_okV y' 5) (hsh : S.1[b]? = some (0, ci)) (hci : ci < 9) (hcls : y'.1.cls = zw_R ci) (hen : (zw_en [.ref b, a0, a1, a2, a3, a4]).length ≤ y'.2.2.1) (hst : (st.map fun v => v.category).sum ≤ 8) (hk : k ≤ mc) (hks : n ≤ ms) (hq : pc + 3 = q) (hz : zCall l D tc A y' d 0 0 [.ref b, a0, a1, a2, a3, a4] S (zQv P)) (kk : ∀ S', P S' → zW l D tc A y (d + 1) mc ms k n q L st S' Q) : zW l D tc A y (d + 1) mc ms k n pc L (a4 :: a3 :: a2 :: a1 :: a0 :: .ref b :: st) S Q := by
  subst hq
  exact zx_callV (As := [a0, a1, a2, a3, a4]) hd hl hok hsh hci hcls hen hst hk hks (Or.inl rfl) hz (fun r S' ⟨e, h⟩ => by subst e; exact kk S' h)
theorem zx_callV6i {a0 a1 a2 a3 a4 a5 : Value} {b idx ci : Nat} {P : Int32 → zw_S → Prop} (hd : decode y.2.1 pc = .ok (.invokevirtual idx, 3)) (hl : Cond.methodLink y.1.cls idx y'.1 ∈ zw_Tb) (hok : zw_okV y' 6) (hsh : S.1[b]? = some (0, ci)) (hci : ci < 9) (hcls : y'.1.cls = zw_R ci) (hen : (zw_en [.ref b, a0, a1, a2, a3, a4, a5]).length ≤ y'.2.2.1) (hst : (st.map fun v => v.category).sum ≤ 8) (hk : k ≤ mc) (hks : n ≤ ms) (hq : pc + 3 = q) (hz : zCall l D tc A y' d 0 0 [.ref b, a0, a1, a2, a3, a4, a5] S (zQi P)) (kk : ∀ x S', P x S' → zW l D tc A y (d + 1) mc ms k n q L (.int x :: st) S' Q) : zW l D tc A y (d + 1) mc ms k n pc L (a5 :: a4 :: a3 :: a2 :: a1 :: a0 :: .ref b :: st) S Q := by
  subst hq
  exact zx_callV (As := [a0, a1, a2, a3, a4, a5]) hd hl hok hsh hci hcls hen hst hk hks (Or.inl rfl) hz (fun r S' ⟨x, e, h⟩ => by subst e; exact kk x S' h)
theorem zx_callV6l {a0 a1 a2 a3 a4 a5 : Value} {b idx ci : Nat} {P : Int64 → zw_S → Prop} (hd : decode y.2.1 pc = .ok (.invokevirtual idx, 3)) (hl : Cond.methodLink y.1.cls idx y'.1 ∈ zw_Tb) (hok : zw_okV y' 6) (hsh : S.1[b]? = some (0, ci)) (hci : ci < 9) (hcls : y'.1.cls = zw_R ci) (hen : (zw_en [.ref b, a0, a1, a2, a3, a4, a5]).length ≤ y'.2.2.1) (hst : (st.map fun v => v.category).sum ≤ 8) (hk : k ≤ mc) (hks : n ≤ ms) (hq : pc + 3 = q) (hz : zCall l D tc A y' d 0 0 [.ref b, a0, a1, a2, a3, a4, a5] S (zQl P)) (kk : ∀ x S', P x S' → zW l D tc A y (d + 1) mc ms k n q L (.long x :: st) S' Q) : zW l D tc A y (d + 1) mc ms k n pc L (a5 :: a4 :: a3 :: a2 :: a1 :: a0 :: .ref b :: st) S Q := by
  subst hq
  exact zx_callV (As := [a0, a1, a2, a3, a4, a5]) hd hl hok hsh hci hcls hen hst hk hks (Or.inl rfl) hz (fun r S' ⟨x, e, h⟩ => by subst e; exact kk x S' h)
theorem zx_callV6v {a0 a1 a2 a3 a4 a5 : Value} {b idx ci : Nat} {P : zw_S → Prop} (hd : decode y.2.1 pc = .ok (.invokevirtual idx, 3)) (hl : Cond.methodLink y.1.cls idx y'.1 ∈ zw_Tb) (hok : zw_okV y' 6) (hsh : S.1[b]? = some (0, ci)) (hci : ci < 9) (hcls : y'.1.cls = zw_R ci) (hen : (zw_en [.ref b, a0, a1, a2, a3, a4, a5]).length ≤ y'.2.2.1) (hst : (st.map fun v => v.category).sum ≤ 8) (hk : k ≤ mc) (hks : n ≤ ms) (hq : pc + 3 = q) (hz : zCall l D tc A y' d 0 0 [.ref b, a0, a1, a2, a3, a4, a5] S (zQv P)) (kk : ∀ S', P S' → zW l D tc A y (d + 1) mc ms k n q L st S' Q) : zW l D tc A y (d + 1) mc ms k n pc L (a5 :: a4 :: a3 :: a2 :: a1 :: a0 :: .ref b :: st) S Q := by
  subst hq
  exact zx_callV (As := [a0, a1, a2, a3, a4, a5]) hd hl hok hsh hci hcls hen hst hk hks (Or.inl rfl) hz (fun r S' ⟨e, h⟩ => by subst e; exact kk S' h)
theorem zx_callS1i {a0 : Value} {idx : Nat} {P : Int32 → zw_S → Prop} (hd : decode y.2.1 pc = .ok (.invokestatic idx, 3)) (hl : Cond.methodLink y.1.cls idx y'.1 ∈ zw_Tb) (hok : zw_okS y' 1) (hen : (zw_en [a0]).length ≤ y'.2.2.1) (hst : (st.map fun v => v.category).sum ≤ 8) (hk : k ≤ mc) (hks : n ≤ ms) (hq : pc + 3 = q) (hz : zCall l D tc A y' d 0 0 [a0] S (zQi P)) (kk : ∀ x S', P x S' → zW l D tc A y (d + 1) mc ms k n q L (.int x :: st) S' Q) : zW l D tc A y (d + 1) mc ms k n pc L (a0 :: st) S Q := by
  subst hq
  exact zx_callS (As := [a0]) hd hl hok hen hst hk hks (Or.inl rfl) hz (fun r S' ⟨x, e, h⟩ => by subst e; exact kk x S' h)
theorem zx_callS1l {a0 : Value} {idx : Nat} {P : Int64 → zw_S → Prop} (hd : decode y.2.1 pc = .ok (.invokestatic idx, 3)) (hl : Cond.methodLink y.1.cls idx y'.1 ∈ zw_Tb) (hok : zw_okS y' 1) (hen : (zw_en [a0]).length ≤ y'.2.2.1) (hst : (st.map fun v => v.category).sum ≤ 8) (hk : k ≤ mc) (hks : n ≤ ms) (hq : pc + 3 = q) (hz : zCall l D tc A y' d 0 0 [a0] S (zQl P)) (kk : ∀ x S', P x S' → zW l D tc A y (d + 1) mc ms k n q L (.long x :: st) S' Q) : zW l D tc A y (d + 1) mc ms k n pc L (a0 :: st) S Q := by
  subst hq
  exact zx_callS (As := [a0]) hd hl hok hen hst hk hks (Or.inl rfl) hz (fun r S' ⟨x, e, h⟩ => by subst e; exact kk x S' h)
theorem zx_callS1v {a0 : Value} {idx : Nat} {P : zw_S → Prop} (hd : decode y.2.1 pc = .ok (.invokestatic idx, 3)) (hl : Cond.methodLink y.1.cls idx y'.1 ∈ zw_Tb) (hok : zw_okS y' 1) (hen : (zw_en [a0]).length ≤ y'.2.2.1) (hst : (st.map fun v => v.category).sum ≤ 8) (hk : k ≤ mc) (hks : n ≤ ms) (hq : pc + 3 = q) (hz : zCall l D tc A y' d 0 0 [a0] S (zQv P)) (kk : ∀ S', P S' → zW l D tc A y (d + 1) mc ms k n q L st S' Q) : zW l D tc A y (d + 1) mc ms k n pc L (a0 :: st) S Q := by
  subst hq
  exact zx_callS (As := [a0]) hd hl hok hen hst hk hks (Or.inl rfl) hz (fun r S' ⟨e, h⟩ => by subst e; exact kk S' h)
theorem zx_callS2i {a0 a1 : Value} {idx : Nat} {P : Int32 → zw_S → Prop} (hd : decode y.2.1 pc = .ok (.invokestatic idx, 3)) (hl : Cond.methodLink y.1.cls idx y'.1 ∈ zw_Tb) (hok : zw_okS y' 2) (hen : (zw_en [a0, a1]).length ≤ y'.2.2.1) (hst : (st.map fun v => v.category).sum ≤ 8) (hk : k ≤ mc) (hks : n ≤ ms) (hq : pc + 3 = q) (hz : zCall l D tc A y' d 0 0 [a0, a1] S (zQi P)) (kk : ∀ x S', P x S' → zW l D tc A y (d + 1) mc ms k n q L (.int x :: st) S' Q) : zW l D tc A y (d + 1) mc ms k n pc L (a1 :: a0 :: st) S Q := by
  subst hq
  exact zx_callS (As := [a0, a1]) hd hl hok hen hst hk hks (Or.inl rfl) hz (fun r S' ⟨x, e, h⟩ => by subst e; exact kk x S' h)
theorem zx_callS2l {a0 a1 : Value} {idx : Nat} {P : Int64 → zw_S → Prop} (hd : decode y.2.1 pc = .ok (.invokestatic idx, 3)) (hl : Cond.methodLink y.1.cls idx y'.1 ∈ zw_Tb) (hok : zw_okS y' 2) (hen : (zw_en [a0, a1]).length ≤ y'.2.2.1) (hst : (st.map fun v => v.category).sum ≤ 8) (hk : k ≤ mc) (hks : n ≤ ms) (hq : pc + 3 = q) (hz : zCall l D tc A y' d 0 0 [a0, a1] S (zQl P)) (kk : ∀ x S', P x S' → zW l D tc A y (d + 1) mc ms k n q L (.long x :: st) S' Q) : zW l D tc A y (d + 1) mc ms k n pc L (a1 :: a0 :: st) S Q := by
  subst hq
  exact zx_callS (As := [a0, a1]) hd hl hok hen hst hk hks (Or.inl rfl) hz (fun r S' ⟨x, e, h⟩ => by subst e; exact kk x S' h)
theorem zx_callS2v {a0 a1 : Value} {idx : Nat} {P : zw_S → Prop} (hd : decode y.2.1 pc = .ok (.invokestatic idx, 3)) (hl : Cond.methodLink y.1.cls idx y'.1 ∈ zw_Tb) (hok : zw_okS y' 2) (hen : (zw_en [a0, a1]).length ≤ y'.2.2.1) (hst : (st.map fun v => v.category).sum ≤ 8) (hk : k ≤ mc) (hks : n ≤ ms) (hq : pc + 3 = q) (hz : zCall l D tc A y' d 0 0 [a0, a1] S (zQv P)) (kk : ∀ S', P S' → zW l D tc A y (d + 1) mc ms k n q L st S' Q) : zW l D tc A y (d + 1) mc ms k n pc L (a1 :: a0 :: st) S Q := by
  subst hq
  exact zx_callS (As := [a0, a1]) hd hl hok hen hst hk hks (Or.inl rfl) hz (fun r S' ⟨e, h⟩ => by subst e; exact kk S' h)
theorem zx_callS3i {a0 a1 a2 : Value} {idx : Nat} {P : Int32 → zw_S → Prop} (hd : decode y.2.1 pc = .ok (.invokestatic idx, 3)) (hl : Cond.methodLink y.1.cls idx y'.1 ∈ zw_Tb) (hok : zw_okS y' 3) (hen : (zw_en [a0, a1, a2]).length ≤ y'.2.2.1) (hst : (st.map fun v => v.category).sum ≤ 8) (hk : k ≤ mc) (hks : n ≤ ms) (hq : pc + 3 = q) (hz : zCall l D tc A y' d 0 0 [a0, a1, a2] S (zQi P)) (kk : ∀ x S', P x S' → zW l D tc A y (d + 1) mc ms k n q L (.int x :: st) S' Q) : zW l D tc A y (d + 1) mc ms k n pc L (a2 :: a1 :: a0 :: st) S Q := by
  subst hq
  exact zx_callS (As := [a0, a1, a2]) hd hl hok hen hst hk hks (Or.inl rfl) hz (fun r S' ⟨x, e, h⟩ => by subst e; exact kk x S' h)
theorem zx_callS3l {a0 a1 a2 : Value} {idx : Nat} {P : Int64 → zw_S → Prop} (hd : decode y.2.1 pc = .ok (.invokestatic idx, 3)) (hl : Cond.methodLink y.1.cls idx y'.1 ∈ zw_Tb) (hok : zw_okS y' 3) (hen : (zw_en [a0, a1, a2]).length ≤ y'.2.2.1) (hst : (st.map fun v => v.category).sum ≤ 8) (hk : k ≤ mc) (hks : n ≤ ms) (hq : pc + 3 = q) (hz : zCall l D tc A y' d 0 0 [a0, a1, a2] S (zQl P)) (kk : ∀ x S', P x S' → zW l D tc A y (d + 1) mc ms k n q L (.long x :: st) S' Q) : zW l D tc A y (d + 1) mc ms k n pc L (a2 :: a1 :: a0 :: st) S Q := by
  subst hq
  exact zx_callS (As := [a0, a1, a2]) hd hl hok hen hst hk hks (Or.inl rfl) hz (fun r S' ⟨x, e, h⟩ => by subst e; exact kk x S' h)
theorem zx_callS3v {a0 a1 a2 : Value} {idx : Nat} {P : zw_S → Prop} (hd : decode y.2.1 pc = .ok (.invokestatic idx, 3)) (hl : Cond.methodLink y.1.cls idx y'.1 ∈ zw_Tb) (hok : zw_okS y' 3) (hen : (zw_en [a0, a1, a2]).length ≤ y'.2.2.1) (hst : (st.map fun v => v.category).sum ≤ 8) (hk : k ≤ mc) (hks : n ≤ ms) (hq : pc + 3 = q) (hz : zCall l D tc A y' d 0 0 [a0, a1, a2] S (zQv P)) (kk : ∀ S', P S' → zW l D tc A y (d + 1) mc ms k n q L st S' Q) : zW l D tc A y (d + 1) mc ms k n pc L (a2 :: a1 :: a0 :: st) S Q := by
  subst hq
  exact zx_callS (As := [a0, a1, a2]) hd hl hok hen hst hk hks (Or.inl rfl) hz (fun r S' ⟨e, h⟩ => by subst e; exact kk S' h)
theorem zx_callS4i {a0 a1 a2 a3 : Value} {idx : Nat} {P : Int32 → zw_S → Prop} (hd : decode y.2.1 pc = .ok (.invokestatic idx, 3)) (hl : Cond.methodLink y.1.cls idx y'.1 ∈ zw_Tb) (hok : zw_okS y' 4) (hen : (zw_en [a0, a1, a2, a3]).length ≤ y'.2.2.1) (hst : (st.map fun v => v.category).sum ≤ 8) (hk : k ≤ mc) (hks : n ≤ ms) (hq : pc + 3 = q) (hz : zCall l D tc A y' d 0 0 [a0, a1, a2, a3] S (zQi P)) (kk : ∀ x S', P x S' → zW l D tc A y (d + 1) mc ms k n q L (.int x :: st) S' Q) : zW l D tc A y (d + 1) mc ms k n pc L (a3 :: a2 :: a1 :: a0 :: st) S Q := by
  subst hq
  exact zx_callS (As := [a0, a1, a2, a3]) hd hl hok hen hst hk hks (Or.inl rfl) hz (fun r S' ⟨x, e, h⟩ => by subst e; exact kk x S' h)
theorem zx_callS4l {a0 a1 a2 a3 : Value} {idx : Nat} {P : Int64 → zw_S → Prop} (hd : decode y.2.1 pc = .ok (.invokestatic idx, 3)) (hl : Cond.methodLink y.1.cls idx y'.1 ∈ zw_Tb) (hok : zw_okS y' 4) (hen : (zw_en [a0, a1, a2, a3]).length ≤ y'.2.2.1) (hst : (st.map fun v => v.category).sum ≤ 8) (hk : k ≤ mc) (hks : n ≤ ms) (hq : pc + 3 = q) (hz : zCall l D tc A y' d 0 0 [a0, a1, a2, a3] S (zQl P)) (kk : ∀ x S', P x S' → zW l D tc A y (d + 1) mc ms k n q L (.long x :: st) S' Q) : zW l D tc A y (d + 1) mc ms k n pc L (a3 :: a2 :: a1 :: a0 :: st) S Q := by
  subst hq
  exact zx_callS (As := [a0, a1, a2, a3]) hd hl hok hen hst hk hks (Or.inl rfl) hz (fun r S' ⟨x, e, h⟩ => by subst e; exact kk x S' h)
theorem zx_callS4v {a0 a1 a2 a3 : Value} {idx : Nat} {P : zw_S → Prop} (hd : decode y.2.1 pc = .ok (.invokestatic idx, 3)) (hl : Cond.methodLink y.1.cls idx y'.1 ∈ zw_Tb) (hok : zw_okS y' 4) (hen : (zw_en [a0, a1, a2, a3]).length ≤ y'.2.2.1) (hst : (st.map fun v => v.category).sum ≤ 8) (hk : k ≤ mc) (hks : n ≤ ms) (hq : pc + 3 = q) (hz : zCall l D tc A y' d 0 0 [a0, a1, a2, a3] S (zQv P)) (kk : ∀ S', P S' → zW l D tc A y (d + 1) mc ms k n q L st S' Q) : zW l D tc A y (d + 1) mc ms k n pc L (a3 :: a2 :: a1 :: a0 :: st) S Q := by
  subst hq
  exact zx_callS (As := [a0, a1, a2, a3]) hd hl hok hen hst hk hks (Or.inl rfl) hz (fun r S' ⟨e, h⟩ => by subst e; exact kk S' h)
theorem zx_callS5i {a0 a1 a2 a3 a4 : Value} {idx : Nat} {P : Int32 → zw_S → Prop} (hd : decode y.2.1 pc = .ok (.invokestatic idx, 3)) (hl : Cond.methodLink y.1.cls idx y'.1 ∈ zw_Tb) (hok : zw_okS y' 5) (hen : (zw_en [a0, a1, a2, a3, a4]).length ≤ y'.2.2.1) (hst : (st.map fun v => v.category).sum ≤ 8) (hk : k ≤ mc) (hks : n ≤ ms) (hq : pc + 3 = q) (hz : zCall l D tc A y' d 0 0 [a0, a1, a2, a3, a4] S (zQi P)) (kk : ∀ x S', P x S' → zW l D tc A y (d + 1) mc ms k n q L (.int x :: st) S' Q) : zW l D tc A y (d + 1) mc ms k n pc L (a4 :: a3 :: a2 :: a1 :: a0 :: st) S Q := by
  subst hq
  exact zx_callS (As := [a0, a1, a2, a3, a4]) hd hl hok hen hst hk hks (Or.inl rfl) hz (fun r S' ⟨x, e, h⟩ => by subst e; exact kk x S' h)
theorem zx_callS5l {a0 a1 a2 a3 a4 : Value} {idx : Nat} {P : Int64 → zw_S → Prop} (hd : decode y.2.1 pc = .ok (.invokestatic idx, 3)) (hl : Cond.methodLink y.1.cls idx y'.1 ∈ zw_Tb) (hok : zw_okS y' 5) (hen : (zw_en [a0, a1, a2, a3, a4]).length ≤ y'.2.2.1) (hst : (st.map fun v => v.category).sum ≤ 8) (hk : k ≤ mc) (hks : n ≤ ms) (hq : pc + 3 = q) (hz : zCall l D tc A y' d 0 0 [a0, a1, a2, a3, a4] S (zQl P)) (kk : ∀ x S', P x S' → zW l D tc A y (d + 1) mc ms k n q L (.long x :: st) S' Q) : zW l D tc A y (d + 1) mc ms k n pc L (a4 :: a3 :: a2 :: a1 :: a0 :: st) S Q := by
  subst hq
  exact zx_callS (As := [a0, a1, a2, a3, a4]) hd hl hok hen hst hk hks (Or.inl rfl) hz (fun r S' ⟨x, e, h⟩ => by subst e; exact kk x S' h)
theorem zx_callS5v {a0 a1 a2 a3 a4 : Value} {idx : Nat} {P : zw_S → Prop} (hd : decode y.2.1 pc = .ok (.invokestatic idx, 3)) (hl : Cond.methodLink y.1.cls idx y'.1 ∈ zw_Tb) (hok : zw_okS y' 5) (hen : (zw_en [a0, a1, a2, a3, a4]).length ≤ y'.2.2.1) (hst : (st.map fun v => v.category).sum ≤ 8) (hk : k ≤ mc) (hks : n ≤ ms) (hq : pc + 3 = q) (hz : zCall l D tc A y' d 0 0 [a0, a1, a2, a3, a4] S (zQv P)) (kk : ∀ S', P S' → zW l D tc A y (d + 1) mc ms k n q L st S' Q) : zW l D tc A y (d + 1) mc ms k n pc L (a4 :: a3 :: a2 :: a1 :: a0 :: st) S Q := by
  subst hq
  exact zx_callS (As := [a0, a1, a2, a3, a4]) hd hl hok hen hst hk hks (Or.inl rfl) hz (fun r S' ⟨e, h⟩ => by subst e; exact kk S' h)
theorem zx_callS6i {a0 a1 a2 a3 a4 a5 : Value} {idx : Nat} {P : Int32 → zw_S → Prop} (hd : decode y.2.1 pc = .ok (.invokestatic idx, 3)) (hl : Cond.methodLink y.1.cls idx y'.1 ∈ zw_Tb) (hok : zw_okS y' 6) (hen : (zw_en [a0, a1, a2, a3, a4, a5]).length ≤ y'.2.2.1) (hst : (st.map fun v => v.category).sum ≤ 8) (hk : k ≤ mc) (hks : n ≤ ms) (hq : pc + 3 = q) (hz : zCall l D tc A y' d 0 0 [a0, a1, a2, a3, a4, a5] S (zQi P)) (kk : ∀ x S', P x S' → zW l D tc A y (d + 1) mc ms k n q L (.int x :: st) S' Q) : zW l D tc A y (d + 1) mc ms k n pc L (a5 :: a4 :: a3 :: a2 :: a1 :: a0 :: st) S Q := by
  subst hq
  exact zx_callS (As := [a0, a1, a2, a3, a4, a5]) hd hl hok hen hst hk hks (Or.inl rfl) hz (fun r S' ⟨x, e, h⟩ => by subst e; exact kk x S' h)
theorem zx_callS6l {a0 a1 a2 a3 a4 a5 : Value} {idx : Nat} {P : Int64 → zw_S → Prop} (hd : decode y.2.1 pc = .ok (.invokestatic idx, 3)) (hl : Cond.methodLink y.1.cls idx y'.1 ∈ zw_Tb) (hok : zw_okS y' 6) (hen : (zw_en [a0, a1, a2, a3, a4, a5]).length ≤ y'.2.2.1) (hst : (st.map fun v => v.category).sum ≤ 8) (hk : k ≤ mc) (hks : n ≤ ms) (hq : pc + 3 = q) (hz : zCall l D tc A y' d 0 0 [a0, a1, a2, a3, a4, a5] S (zQl P)) (kk : ∀ x S', P x S' → zW l D tc A y (d + 1) mc ms k n q L (.long x :: st) S' Q) : zW l D tc A y (d + 1) mc ms k n pc L (a5 :: a4 :: a3 :: a2 :: a1 :: a0 :: st) S Q := by
  subst hq
  exact zx_callS (As := [a0, a1, a2, a3, a4, a5]) hd hl hok hen hst hk hks (Or.inl rfl) hz (fun r S' ⟨x, e, h⟩ => by subst e; exact kk x S' h)
theorem zx_callS6v {a0 a1 a2 a3 a4 a5 : Value} {idx : Nat} {P : zw_S → Prop} (hd : decode y.2.1 pc = .ok (.invokestatic idx, 3)) (hl : Cond.methodLink y.1.cls idx y'.1 ∈ zw_Tb) (hok : zw_okS y' 6) (hen : (zw_en [a0, a1, a2, a3, a4, a5]).length ≤ y'.2.2.1) (hst : (st.map fun v => v.category).sum ≤ 8) (hk : k ≤ mc) (hks : n ≤ ms) (hq : pc + 3 = q) (hz : zCall l D tc A y' d 0 0 [a0, a1, a2, a3, a4, a5] S (zQv P)) (kk : ∀ S', P S' → zW l D tc A y (d + 1) mc ms k n q L st S' Q) : zW l D tc A y (d + 1) mc ms k n pc L (a5 :: a4 :: a3 :: a2 :: a1 :: a0 :: st) S Q := by
  subst hq
  exact zx_callS (As := [a0, a1, a2, a3, a4, a5]) hd hl hok hen hst hk hks (Or.inl rfl) hz (fun r S' ⟨e, h⟩ => by subst e; exact kk S' h)
theorem zx_callSN2i {a0 a1 : Value} {idx : Nat} {P : Int32 → zw_S → Prop} (hd : decode y.2.1 pc = .ok (.invokestatic idx, 3)) (hl : (y.1.cls, (idx, y'.1)) ∈ zw_nest) (hok : zw_okS y' 2) (hen : (zw_en [a0, a1]).length ≤ y'.2.2.1) (hst : (st.map fun v => v.category).sum ≤ 8) (hk : k ≤ mc) (hks : n ≤ ms) (hq : pc + 3 = q) (hz : zCall l D tc A y' d 0 0 [a0, a1] S (zQi P)) (kk : ∀ x S', P x S' → zW l D tc A y (d + 1) mc ms k n q L (.int x :: st) S' Q) : zW l D tc A y (d + 1) mc ms k n pc L (a1 :: a0 :: st) S Q := by
  subst hq
  exact zx_callSN (As := [a0, a1]) hd hl hok hen hst hk hks (Or.inl rfl) hz (fun r S' ⟨x, e, h⟩ => by subst e; exact kk x S' h)
theorem zx_callSN3i {a0 a1 a2 : Value} {idx : Nat} {P : Int32 → zw_S → Prop} (hd : decode y.2.1 pc = .ok (.invokestatic idx, 3)) (hl : (y.1.cls, (idx, y'.1)) ∈ zw_nest) (hok : zw_okS y' 3) (hen : (zw_en [a0, a1, a2]).length ≤ y'.2.2.1) (hst : (st.map fun v => v.category).sum ≤ 8) (hk : k ≤ mc) (hks : n ≤ ms) (hq : pc + 3 = q) (hz : zCall l D tc A y' d 0 0 [a0, a1, a2] S (zQi P)) (kk : ∀ x S', P x S' → zW l D tc A y (d + 1) mc ms k n q L (.int x :: st) S' Q) : zW l D tc A y (d + 1) mc ms k n pc L (a2 :: a1 :: a0 :: st) S Q := by
  subst hq
  exact zx_callSN (As := [a0, a1, a2]) hd hl hok hen hst hk hks (Or.inl rfl) hz (fun r S' ⟨x, e, h⟩ => by subst e; exact kk x S' h)
theorem zx_callT0i {i idx : Nat} {P : Int32 → zw_S → Prop} (hd : decode y.2.1 pc = .ok (.invokevirtual idx, 3)) (hl : Cond.methodLink y.1.cls idx y'.1 ∈ zw_Tb) (hok : zw_okV y' 0) (hi : i < 8) (hcls : y'.1.cls = RJ0) (hen : (zw_en [.ref (100000 + i)]).length ≤ y'.2.2.1) (hst : (st.map fun v => v.category).sum ≤ 8) (hk : k ≤ mc) (hks : n ≤ ms) (hq : pc + 3 = q) (hz : zCall l D tc A y' d 0 0 [.ref (100000 + i)] S (zQi P)) (kk : ∀ x S', P x S' → zW l D tc A y (d + 1) mc ms k n q L (.int x :: st) S' Q) : zW l D tc A y (d + 1) mc ms k n pc L (.ref (100000 + i) :: st) S Q := by
  subst hq
  exact zx_callT (As := []) hd hl hok hi hcls hen hst hk hks (Or.inl rfl) hz (fun r S' ⟨x, e, h⟩ => by subst e; exact kk x S' h)
theorem zx_callT1i {a0 : Value} {i idx : Nat} {P : Int32 → zw_S → Prop} (hd : decode y.2.1 pc = .ok (.invokevirtual idx, 3)) (hl : Cond.methodLink y.1.cls idx y'.1 ∈ zw_Tb) (hok : zw_okV y' 1) (hi : i < 8) (hcls : y'.1.cls = RJ0) (hen : (zw_en [.ref (100000 + i), a0]).length ≤ y'.2.2.1) (hst : (st.map fun v => v.category).sum ≤ 8) (hk : k ≤ mc) (hks : n ≤ ms) (hq : pc + 3 = q) (hz : zCall l D tc A y' d 0 0 [.ref (100000 + i), a0] S (zQi P)) (kk : ∀ x S', P x S' → zW l D tc A y (d + 1) mc ms k n q L (.int x :: st) S' Q) : zW l D tc A y (d + 1) mc ms k n pc L (a0 :: .ref (100000 + i) :: st) S Q := by
  subst hq
  exact zx_callT (As := [a0]) hd hl hok hi hcls hen hst hk hks (Or.inl rfl) hz (fun r S' ⟨x, e, h⟩ => by subst e; exact kk x S' h)
theorem zx_callT2i {a0 a1 : Value} {i idx : Nat} {P : Int32 → zw_S → Prop} (hd : decode y.2.1 pc = .ok (.invokevirtual idx, 3)) (hl : Cond.methodLink y.1.cls idx y'.1 ∈ zw_Tb) (hok : zw_okV y' 2) (hi : i < 8) (hcls : y'.1.cls = RJ0) (hen : (zw_en [.ref (100000 + i), a0, a1]).length ≤ y'.2.2.1) (hst : (st.map fun v => v.category).sum ≤ 8) (hk : k ≤ mc) (hks : n ≤ ms) (hq : pc + 3 = q) (hz : zCall l D tc A y' d 0 0 [.ref (100000 + i), a0, a1] S (zQi P)) (kk : ∀ x S', P x S' → zW l D tc A y (d + 1) mc ms k n q L (.int x :: st) S' Q) : zW l D tc A y (d + 1) mc ms k n pc L (a1 :: a0 :: .ref (100000 + i) :: st) S Q := by
  subst hq
  exact zx_callT (As := [a0, a1]) hd hl hok hi hcls hen hst hk hks (Or.inl rfl) hz (fun r S' ⟨x, e, h⟩ => by subst e; exact kk x S' h)
theorem zw_ac_words : Cond.native arraycopyName ∈ zw_Tb ∧ Cond.static arraycopyName ∈ zw_Tb ∧ Cond.initialized "java/lang/System" ∈ zw_Tb := by
  refine ⟨List.mem_filter.mpr ⟨?_, rfl⟩, List.mem_filter.mpr ⟨?_, rfl⟩, List.mem_filter.mpr ⟨?_, rfl⟩⟩ <;> decide +kernel
theorem zw_copy_room {ad : Nat → Nat} (hst : (st.map fun v => v.category).sum ≤ 8) : 1 ≤ (zw_rm (d + 1) mc ms).frames ∧ ((st.map (zw_v ad)).map fun v => v.category).sum + (nativeFrameWords "java/lang/System" "arraycopy" 5 + 11) ≤ (zw_rm (d + 1) mc ms).locals := by
  rw [zw_sum]
  have e : nativeFrameWords "java/lang/System" "arraycopy" 5 = 7 := by decide
  rw [e]
  unfold zw_rm
  dsimp only
  exact ⟨by omega, by omega⟩
theorem zx_copyI {b0 b1 w0 w1 idx : Nat} {sp dp w : Int32} (hd : decode y.2.1 pc = .ok (.invokestatic idx, 3)) (hl : Cond.methodLink y.1.cls idx arraycopyName ∈ zw_Tb) (h0 : S.1[b0]? = some (1, w0)) (h1 : S.1[b1]? = some (1, w1)) (g1 : ¬ sp < 0) (g2 : ¬ dp < 0) (g3 : ¬ w < 0) (g4 : sp.toNatClampNeg + w.toNatClampNeg ≤ w0) (g5 : dp.toNatClampNeg + w.toNatClampNeg ≤ w1) (hst : (st.map fun v => v.category).sum ≤ 8) (hq : pc + 3 = q)
    (kk : zW l D tc A y (d + 1) mc ms k n q L st (zw_ri S b1 (va_cpy (S.2.1 b0) (S.2.1 b1) sp.toNatClampNeg dp.toNatClampNeg w.toNatClampNeg)) Q) : zW l D tc A y (d + 1) mc ms k n pc L (.int w :: .int dp :: .ref b1 :: .int sp :: .ref b0 :: st) S Q := by
  subst hq
  intro p e s m args below meth c ad ad0 n0 H locs ls C hP hD hS hL hn ha hm
  have hw := C.2.2.2.2.2.1
  refine va_copyi C.1 C.2.1 (C.2.2.2.1.trans hL.1.1.symm) C.2.2.2.2.1 (hw _ hl) (hw _ zw_ac_words.1) (hw _ zw_ac_words.2.1) (hw _ zw_ac_words.2.2) C.2.2.2.2.2.2.1 hP hD hS b0 b1 1 1 (zw_get h0) (zw_get h1) (zw_tys_at tc (by decide)) (zw_tys_at tc (by decide)) rfl g1 g2 g3 g4 g5 (fun i _ => rfl) (zw_copy_room (ad := ad) hst).1 (zw_copy_room (ad := ad) hst).2 hd (fun H1 locs1 hP1 hD1 hS1 => ?_)
  rw [zw_row_i h1] at hP1 hD1
  exact kk p e s m args below meth c ad ad0 n0 H1 locs1 ls C hP1 hD1 hS1 hL hn ha hm
theorem zx_copyL {b0 b1 w0 w1 idx : Nat} {sp dp w : Int32} (hd : decode y.2.1 pc = .ok (.invokestatic idx, 3)) (hl : Cond.methodLink y.1.cls idx arraycopyName ∈ zw_Tb) (h0 : S.1[b0]? = some (4, w0)) (h1 : S.1[b1]? = some (4, w1)) (g1 : ¬ sp < 0) (g2 : ¬ dp < 0) (g3 : ¬ w < 0) (g4 : sp.toNatClampNeg + w.toNatClampNeg ≤ w0) (g5 : dp.toNatClampNeg + w.toNatClampNeg ≤ w1) (hst : (st.map fun v => v.category).sum ≤ 8) (hq : pc + 3 = q)
    (kk : zW l D tc A y (d + 1) mc ms k n q L st (zw_rl S b1 (va_cpy (S.2.2.1 b0) (S.2.2.1 b1) sp.toNatClampNeg dp.toNatClampNeg w.toNatClampNeg)) Q) : zW l D tc A y (d + 1) mc ms k n pc L (.int w :: .int dp :: .ref b1 :: .int sp :: .ref b0 :: st) S Q := by
  subst hq
  intro p e s m args below meth c ad ad0 n0 H locs ls C hP hD hS hL hn ha hm
  have hw := C.2.2.2.2.2.1
  refine va_copyl C.1 C.2.1 (C.2.2.2.1.trans hL.1.1.symm) C.2.2.2.2.1 (hw _ hl) (hw _ zw_ac_words.1) (hw _ zw_ac_words.2.1) (hw _ zw_ac_words.2.2) C.2.2.2.2.2.2.1 hP hD hS b0 b1 4 4 (zw_get h0) (zw_get h1) (zw_tys_at tc (by decide)) (zw_tys_at tc (by decide)) rfl g1 g2 g3 g4 g5 (fun i _ => rfl) (zw_copy_room (ad := ad) hst).1 (zw_copy_room (ad := ad) hst).2 hd (fun H1 locs1 hP1 hD1 hS1 => ?_)
  rw [zw_row_l h1] at hP1 hD1
  exact kk p e s m args below meth c ad ad0 n0 H1 locs1 ls C hP1 hD1 hS1 hL hn ha hm
theorem zx_gsKA {idx : Nat} (hd : decode y.2.1 pc = .ok (.getstatic idx, 3)) (hl : Cond.fieldLink y.1.cls idx RX7 "KIND_ABOVE" "[I" ∈ zw_Tb) (hq : pc + 3 = q) (kk : zW l D tc A y d mc ms k n q L (.ref 300000 :: st) S Q) : zW l D tc A y d mc ms k n pc L st S Q := by
  subst hq
  intro p e s m args below meth c ad ad0 n0 H locs ls C hP hD hS hL hn ha hm
  exact va_gets C.1 C.2.1 C.2.2.2.2.2.2.2.1.1.1 hS C.2.2.2.2.1 (C.2.2.2.2.2.1 _ hl) (fun _ h => h) hd (kk p e s m args below meth c ad ad0 n0 H locs ls C hP hD hS hL hn ha hm)
theorem zx_gsBD {idx : Nat} (hd : decode y.2.1 pc = .ok (.getstatic idx, 3)) (hl : Cond.fieldLink y.1.cls idx RX0 "BODIES" "[I" ∈ zw_Tb) (hq : pc + 3 = q) (kk : zW l D tc A y d mc ms k n q L (.ref 300001 :: st) S Q) : zW l D tc A y d mc ms k n pc L st S Q := by
  subst hq
  intro p e s m args below meth c ad ad0 n0 H locs ls C hP hD hS hL hn ha hm
  exact va_gets C.1 C.2.1 C.2.2.2.2.2.2.2.1.2.1.1 hS C.2.2.2.2.1 (C.2.2.2.2.2.1 _ hl) (fun _ h => h) hd (kk p e s m args below meth c ad ad0 n0 H locs ls C hP hD hS hL hn ha hm)
theorem zx_gsCS {idx : Nat} (hd : decode y.2.1 pc = .ok (.getstatic idx, 3)) (hl : Cond.fieldLink y.1.cls idx RJ0 "COMPACT_STRINGS" "Z" ∈ zw_Tb) (hq : pc + 3 = q) (kk : zW l D tc A y d mc ms k n q L (.int 1 :: st) S Q) : zW l D tc A y d mc ms k n pc L st S Q := by
  subst hq
  intro p e s m args below meth c ad ad0 n0 H locs ls C hP hD hS hL hn ha hm
  exact va_gets C.1 C.2.1 C.2.2.2.2.2.2.2.1.2.2.1 hS C.2.2.2.2.1 (C.2.2.2.2.2.1 _ hl) (fun _ h => h) hd (kk p e s m args below meth c ad ad0 n0 H locs ls C hP hD hS hL hn ha hm)
theorem zx_gsFM {idx : Nat} (hd : decode y.2.1 pc = .ok (.getstatic idx, 3)) (hl : Cond.fieldLink y.1.cls idx RJ3 "SIOOBE_FORMATTER" "Ljava/util/function/BiFunction;" ∈ zw_Tb) (hq : pc + 3 = q) (kk : ∀ v : Value, v = .null ∨ v = .ref 400000 → zW l D tc A y d mc ms k n q L (v :: st) S Q) : zW l D tc A y d mc ms k n pc L st S Q := by
  subst hq
  intro p e s m args below meth c ad ad0 n0 H locs ls C hP hD hS hL hn ha hm
  rcases C.2.2.2.2.2.2.2.1.2.2.2.1 with h | h
  · exact va_gets C.1 C.2.1 h hS C.2.2.2.2.1 (C.2.2.2.2.2.1 _ hl) (fun _ h => h) hd (kk .null (Or.inl rfl) p e s m args below meth c ad ad0 n0 H locs ls C hP hD hS hL hn ha hm)
  · exact va_gets C.1 C.2.1 h hS C.2.2.2.2.1 (C.2.2.2.2.2.1 _ hl) (fun _ h => h) hd (kk (.ref 400000) (Or.inr rfl) p e s m args below meth c ad ad0 n0 H locs ls C hP hD hS hL hn ha hm)
theorem zx_taKA {i : Int32} (hd : decode y.2.1 pc = .ok (.iaload, 1)) (hin : vp_in i 7) (hq : pc + 1 = q) (kk : zW l D tc A y d mc ms k n q L (.int (zw_KA i.toNatClampNeg) :: st) S Q) : zW l D tc A y d mc ms k n pc L (.int i :: .ref 300000 :: st) S Q := by
  subst hq
  intro p e s m args below meth c ad ad0 n0 H locs ls C hP hD hS hL hn ha hm
  exact va_ti C.1 C.2.1 C.2.2.2.2.2.2.2.1.1.2 hS hin rfl hd (kk p e s m args below meth c ad ad0 n0 H locs ls C hP hD hS hL hn ha hm)
theorem zx_taBD {i : Int32} (hd : decode y.2.1 pc = .ok (.iaload, 1)) (hin : vp_in i 21) (hq : pc + 1 = q) (kk : zW l D tc A y d mc ms k n q L (.int (zw_BD i.toNatClampNeg) :: st) S Q) : zW l D tc A y d mc ms k n pc L (.int i :: .ref 300001 :: st) S Q := by
  subst hq
  intro p e s m args below meth c ad ad0 n0 H locs ls C hP hD hS hL hn ha hm
  exact va_ti C.1 C.2.1 C.2.2.2.2.2.2.2.1.2.1.2 hS hin rfl hd (kk p e s m args below meth c ad ad0 n0 H locs ls C hP hD hS hL hn ha hm)
theorem zx_txVal {i idx : Nat} (hd : decode y.2.1 pc = .ok (.getfield idx, 3)) (hi : i < 8) (hl : Cond.fieldLink y.1.cls idx "java/lang/String" "value" "[B" ∈ zw_Tb) (hq : pc + 3 = q) (kk : zW l D tc A y d mc ms k n q L (.ref (200000 + i) :: st) S Q) : zW l D tc A y d mc ms k n pc L (.ref (100000 + i) :: st) S Q := by
  subst hq
  intro p e s m args below meth c ad ad0 n0 H locs ls C hP hD hS hL hn ha hm
  exact vk_getf C.1 C.2.1 (C.2.2.2.2.2.2.2.1.2.2.2.2.1.1 i hi).2.2.1 hS C.2.2.2.2.1 (C.2.2.2.2.2.1 _ hl) (fun _ h => h) hd (kk p e s m args below meth c ad ad0 n0 H locs ls C hP hD hS hL hn ha hm)
theorem zx_txCod {i idx : Nat} (hd : decode y.2.1 pc = .ok (.getfield idx, 3)) (hi : i < 8) (hl : Cond.fieldLink y.1.cls idx "java/lang/String" "coder" "B" ∈ zw_Tb) (hq : pc + 3 = q) (kk : zW l D tc A y d mc ms k n q L (.int 0 :: st) S Q) : zW l D tc A y d mc ms k n pc L (.ref (100000 + i) :: st) S Q := by
  subst hq
  intro p e s m args below meth c ad ad0 n0 H locs ls C hP hD hS hL hn ha hm
  exact vk_getf C.1 C.2.1 (C.2.2.2.2.2.2.2.1.2.2.2.2.1.1 i hi).2.1 hS C.2.2.2.2.1 (C.2.2.2.2.2.1 _ hl) (fun _ h => h) hd (kk p e s m args below meth c ad ad0 n0 H locs ls C hP hD hS hL hn ha hm)
theorem zx_txLen {i : Nat} (hd : decode y.2.1 pc = .ok (.arraylength, 1)) (hi : i < 8) (hq : pc + 1 = q) (kk : zW l D tc A y d mc ms k n q L (.int (Int32.ofNat (zw_tl.getD i 0)) :: st) S Q) : zW l D tc A y d mc ms k n pc L (.ref (200000 + i) :: st) S Q := by
  subst hq
  intro p e s m args below meth c ad ad0 n0 H locs ls C hP hD hS hL hn ha hm
  exact va_tlen C.1 C.2.1 (C.2.2.2.2.2.2.2.1.2.2.2.2.1.1 i hi).2.2.2 hS rfl hd (kk p e s m args below meth c ad ad0 n0 H locs ls C hP hD hS hL hn ha hm)
theorem zx_txByt {i : Nat} {j : Int32} (hd : decode y.2.1 pc = .ok (.baload, 1)) (hi : i < 8) (hin : vp_in j (zw_tl.getD i 0)) (hq : pc + 1 = q) (kk : zW l D tc A y d mc ms k n q L (.int ((zw_tb.getD i []).getD j.toNatClampNeg 0) :: st) S Q) : zW l D tc A y d mc ms k n pc L (.int j :: .ref (200000 + i) :: st) S Q := by
  subst hq
  intro p e s m args below meth c ad ad0 n0 H locs ls C hP hD hS hL hn ha hm
  exact va_tb C.1 C.2.1 (C.2.2.2.2.2.2.2.1.2.2.2.2.1.1 i hi).2.2.2 hS hin rfl hd (kk p e s m args below meth c ad ad0 n0 H locs ls C hP hD hS hL hn ha hm)
end ZB
