/-! making cells -/
def zw_cln (S : zw_S) : Prop := ∀ k, S.1.length ≤ k → (∀ j, S.2.1 k j = 0) ∧ (∀ j, S.2.2.1 k j = 0) ∧ (∀ j, S.2.2.2 k j = none)
def zw_app (S : zw_S) (X : List (Nat × Nat)) : zw_S := (S.1 ++ X, S.2)
def zw_ad (ad : Nat → Nat) (N q : Nat) : Nat → Nat := fun i => if i = N then q else ad i
theorem zw_ac_re {tc : Nat → ClassId} {ad ad' : Nat → Nat} {S : zw_S} {k : Nat} (h : ∀ j r, S.2.2.2 k j = some r → ad' r = ad r) (q : Nat × Nat) : zw_ac tc ad' S k q = zw_ac tc ad S k q := by
  have e0 : ∀ j, (S.2.2.2 k j).map ad' = (S.2.2.2 k j).map ad := by
    intro j
    cases hr : S.2.2.2 k j with
    | none => rfl
    | some r =>
      show some (ad' r) = some (ad r)
      rw [h j r hr]
  have e : ∀ j ty, zw_fv ad' S k j ty = zw_fv ad S k j ty := by
    intro j ty
    unfold zw_fv
    cases ty <;> simp only [e0]
  have e2 : ∀ ci, zw_fs ad' S k ci = zw_fs ad S k ci := by
    intro ci
    unfold zw_fs
    exact List.map_congr_left (fun j _ => e j _)
  unfold zw_ac
  split <;> simp only [e0, e2]
theorem zw_ws_app {tc : Nat → ClassId} {ad ad' : Nat → Nat} {S S' : zw_S} {X : List (Nat × Nat)} (hw : zw_wf S) (hs : S'.1 = S.1 ++ X) (hr : ∀ k, k < S.1.length → S'.2.1 k = S.2.1 k ∧ S'.2.2.1 k = S.2.2.1 k ∧ S'.2.2.2 k = S.2.2.2 k) (ha : ∀ k, k < S.1.length ∨ 100000 ≤ k → ad' k = ad k) :
    zw_ws tc ad' S' = zw_ws tc ad S ++ X.mapIdx (fun i q => (ad' (i + S.1.length), zw_ac tc ad' S' (i + S.1.length) q)) := by
  unfold zw_ws
  rw [hs, List.mapIdx_append]
  congr 1
  apply List.ext_getElem?
  intro i
  rw [List.getElem?_mapIdx, List.getElem?_mapIdx]
  cases hq : S.1[i]? with
  | none => rfl
  | some q =>
    have hl := (List.getElem?_eq_some_iff.mp hq).1
    obtain ⟨r1, r2, r3⟩ := hr i hl
    show some (ad' i, zw_ac tc ad' S' i q) = some (ad i, zw_ac tc ad S i q)
    rw [ha i (Or.inl hl), zw_ac_congr r1 r2 r3, zw_ac_re (fun j r h => ha r (hw i j r h))]
theorem zw_ad_old {ad : Nat → Nat} {N q : Nat} (hN : N < 100000) : ∀ k, k < N ∨ 100000 ≤ k → zw_ad ad N q k = ad k := by
  intro k hk
  unfold zw_ad
  rw [if_neg (by omega)]
theorem zw_ad_at {ad : Nat → Nat} {N q : Nat} : zw_ad ad N q N = q := if_pos rfl
theorem zw_cln_app {S : zw_S} {X : List (Nat × Nat)} (h : zw_cln S) : zw_cln (zw_app S X) := fun k hk => h k (Nat.le_trans (by show S.1.length ≤ (S.1 ++ X).length; rw [List.length_append]; omega) hk)
theorem zw_wf_app {S : zw_S} {X : List (Nat × Nat)} (h : zw_wf S) : zw_wf (zw_app S X) := by
  intro k j r hr
  have := h k j r hr
  show r < (S.1 ++ X).length ∨ _
  rw [List.length_append]
  omega
def zw_isX : FieldType → Bool
  | .array _ => true
  | .object _ => true
  | .long => true
  | .int => true
  | .boolean => true
  | _ => false
theorem zw_isX_all {ci : Nat} (h : ci < 9) : ∀ j, j < zw_N ci → zw_isX (zw_ft ci j) = true := by
  rcases (by omega : ci = 0 ∨ ci = 1 ∨ ci = 2 ∨ ci = 3 ∨ ci = 4 ∨ ci = 5 ∨ ci = 6 ∨ ci = 7 ∨ ci = 8) with h | h | h | h | h | h | h | h | h <;> subst h <;> decide +kernel
theorem zw_dflt {ad : Nat → Nat} {S : zw_S} {k j : Nat} {ty : FieldType} (h1 : S.2.1 k j = 0) (h2 : S.2.2.1 k j = 0) (h3 : S.2.2.2 k j = none) (ht : zw_isX ty = true) : defaultValue ty = zw_fv ad S k j ty := by
  cases ty <;> first | (simp [zw_isX] at ht; done) | (simp only [zw_fv, h1, h2, h3]; rfl)
section ZM
variable {l : Launch} {D : va_G} {tc : Nat → ClassId} {A : Nat → Prop} {y : zw_M} {d mc ms k n k' n' pc q N : Nat} {L : List (Option Value)} {st : List Value} {S S' : zw_S} {Q : Option Value → zw_S → Prop}
variable {p : Program} {e : Env} {s : State} {m : MethodId} {args : Array Value} {below : List Frame} {meth : Method} {c : Code} {ad ad' ad0 : Nat → Nat} {n0 : Nat} {H H1 : Heap} {locs : List Loc} {ls : Array Slot}
theorem zw_make {X : List (Nat × Nat)} {v : Value} (C : zw_C D tc A y p s m args meth c ad) (hL : zw_L ls y.2.2.1 ad L) (hn : n0 ≤ S.1.length ∧ zw_wf S) (ha : ∀ k, k < n0 ∨ 100000 ≤ k → ad k = ad0 k) (hs : S'.1 = S.1 ++ X) (hr : ∀ k, k < S.1.length → S'.2.1 k = S.2.1 k ∧ S'.2.2.1 k = S.2.2.1 k ∧ S'.2.2.2 k = S.2.2.2 k) (had : ∀ k, k < S.1.length ∨ 100000 ≤ k → ad' k = ad k) (hw' : zw_wf S') (hmc : 0 < mc)
    (hlw : zw_wl S.1.length L = true) (hst : st.all (zw_wv S.1.length) = true) (kk : zW l D tc A y d mc ms k' n' q L (v :: st) S' Q)
    (hP1 : va_P D zw_cl (zw_ws tc ad S ++ X.mapIdx (fun i q => (ad' (i + S.1.length), zw_ac tc ad' S' (i + S.1.length) q))) H1) (hD1 : va_D A (zw_ws tc ad S ++ X.mapIdx (fun i q => (ad' (i + S.1.length), zw_ac tc ad' S' (i + S.1.length) q)))) (hS1 : va_S A s.heap H1 locs) :
    W p l e (zw_rm d mc ms) s m args below meth c H1 locs k' n' (MQ below (zw_Q D tc A ad0 n0 mc Q) args s mc ms A) (F0 m q ls (zw_v ad' v :: st.map (zw_v ad))) := by
  rw [← zw_ws_app hn.2 hs hr had] at hP1 hD1
  have h := kk p e s m args below meth c ad' ad0 n0 H1 locs ls (C.re (fun k h => had k (Or.inr h))) hP1 hD1 hS1 ⟨by rw [zw_lv_re had L 0 hlw]; exact hL.1, hL.2⟩ ⟨by rw [hs, List.length_append]; omega, hw'⟩ (fun k h => (had k (h.imp (fun z => Nat.lt_of_lt_of_le z hn.1) id)).trans (ha k h)) (fun z => absurd z (by omega))
  rw [List.map_cons, zw_map_re had st hst] at h
  exact h
theorem zx_new {idx ci : Nat} (hd : decode y.2.1 pc = .ok (.new idx, 3)) (hci : ci < 9) (hcl : Cond.classLink y.1.cls idx (zw_R ci) ∈ zw_Tb) (hin : Cond.instantiable (zw_R ci) (zw_N ci) ∈ zw_Tb) (hini : Cond.initialized (zw_R ci) ∈ zw_Tb) (hcn : zw_cln S) (hl : S.1.length = N) (hlt : N < 100000) (hk : k + 1 ≤ mc) (hks : n + zw_N ci ≤ ms) (hlw : zw_wl N L = true) (hst : st.all (zw_wv N) = true) (hq : pc + 3 = q)
    (kk : zW l D tc A y d mc ms (k + 1) (n + zw_N ci) q L (.ref N :: st) (zw_app S [(0, ci)]) Q) : zW l D tc A y d mc ms k n pc L st S Q := by
  subst hq
  subst hl
  intro p e s m args below meth c ad ad0 n0 H locs ls C hP hD hS hL hn ha hm
  obtain ⟨z1, z2, z3⟩ := hcn S.1.length (Nat.le_refl _)
  refine va_new C.1 C.2.1 (Ts := zw_Tb) C.2.2.2.2.2.1 (zw_lays_ok hci) (zw_ft ci) (zw_ty hci) C.2.2.2.2.1 (C.2.2.2.2.2.1 _ hcl) (C.2.2.2.2.2.1 _ hin) (C.2.2.2.2.2.1 _ hini) C.2.2.2.2.2.2.1 hP hD hS C.2.2.2.2.2.2.2.2.2.2 (zw_cl_at hci) (fs := zw_fs ad S S.1.length ci) (fun j hj => ?_) hk hks hd (fun q H1 hP1 hD1 hS1 => ?_)
  · unfold vp_V
    rw [List.getD_eq_getElem?_getD, zw_fs_at hj]
    exact zw_dflt (z1 j) (z2 j) (z3 j) (zw_isX_all hci j hj)
  · have hX : ([(0, ci)] : List (Nat × Nat)).mapIdx (fun i q' => (zw_ad ad S.1.length q (i + S.1.length), zw_ac tc (zw_ad ad S.1.length q) (zw_app S [(0, ci)]) (i + S.1.length) q')) = [(q, .inr (ci, zw_fs ad S S.1.length ci))] := by
      rw [List.mapIdx_cons, List.mapIdx_nil, Nat.zero_add, zw_ad_at, zw_ac_congr (S' := zw_app S [(0, ci)]) (S := S) rfl rfl rfl, zw_ac_re (ad := ad) (fun j r h => by rw [z3 j] at h; cases h)]
      rfl
    have hg := zw_make (e := e) (below := below) (ad' := zw_ad ad S.1.length q) (v := .ref S.1.length) (H1 := H1) (locs := locs) C hL hn ha (S' := zw_app S [(0, ci)]) (X := [(0, ci)]) rfl (fun k _ => ⟨rfl, rfl, rfl⟩) (zw_ad_old hlt) (zw_wf_app hn.2) (by omega) hlw hst kk (by rw [hX]; exact hP1) (by rw [hX]; exact hD1) hS1
    have e2 : zw_v (zw_ad ad S.1.length q) (.ref S.1.length) = .ref q := by show Value.ref _ = _; rw [zw_ad_at]
    rw [e2] at hg
    exact hg
theorem zw_cA {tc : Nat → ClassId} {U : State} {cA : ClassId} {t : Nat} (ht : 1 ≤ t ∧ t < 8) (h : va_K D zw_cl (zw_tys tc) U) (h1 : va_K D zw_cl (zw_tys tc ++ [(cA, zw_at t)]) U) : cA = tc t := by
  have a := (h.2 t _ (zw_tys_at tc ht.2)).2
  have b := (h1.2 8 (cA, zw_at t) rfl).2
  rcases (by omega : t = 1 ∨ t = 2 ∨ t = 3 ∨ t = 4 ∨ t = 5 ∨ t = 6 ∨ t = 7) with h | h | h | h | h | h | h <;> subst h
  · exact Option.some.inj ((show U.vm.findClass _ = some cA from b).symm.trans (show U.vm.findClass _ = some (tc 1) from a))
  · exact Option.some.inj ((show U.vm.findClass _ = some cA from b).symm.trans (show U.vm.findClass _ = some (tc 2) from a))
  · exact Option.some.inj ((show U.vm.findClass _ = some cA from b).symm.trans (show U.vm.findClass _ = some (tc 3) from a))
  · exact Option.some.inj ((show U.vm.findClass _ = some cA from b).symm.trans (show U.vm.findClass _ = some (tc 4) from a))
  · exact Option.some.inj ((show U.vm.findClass _ = some cA from b).symm.trans (show U.vm.findClass _ = some (tc 5) from a))
  · obtain ⟨_, _, _, _, _, a⟩ := a
    obtain ⟨_, _, _, _, _, b⟩ := b
    exact Option.some.inj (b.symm.trans a)
  · obtain ⟨_, _, _, _, _, a⟩ := a
    obtain ⟨_, _, _, _, _, b⟩ := b
    exact Option.some.inj (b.symm.trans a)
/-- behind a row of its kind t made at q -/
theorem zw_made {t nn : Nat} {q' : Nat} {x : va_E} (hcn : zw_cln S) (hlt : S.1.length < 100000) (hx : zw_ac tc ad S S.1.length (t, nn) = x) (C : zw_C D tc A y p s m args meth c ad) (hL : zw_L ls y.2.2.1 ad L) (hn : n0 ≤ S.1.length ∧ zw_wf S) (ha : ∀ k, k < n0 ∨ 100000 ≤ k → ad k = ad0 k) (hmc : 0 < mc)
    (hlw : zw_wl S.1.length L = true) (hst : st.all (zw_wv S.1.length) = true) (kk : zW l D tc A y d mc ms k' n' q L (.ref S.1.length :: st) (zw_app S [(t, nn)]) Q)
    (hP1 : va_P D zw_cl (zw_ws tc ad S ++ [(q', x)]) H1) (hD1 : va_D A (zw_ws tc ad S ++ [(q', x)])) (hS1 : va_S A s.heap H1 locs) :
    W p l e (zw_rm d mc ms) s m args below meth c H1 locs k' n' (MQ below (zw_Q D tc A ad0 n0 mc Q) args s mc ms A) (F0 m q ls (.ref q' :: st.map (zw_v ad))) := by
  obtain ⟨z1, z2, z3⟩ := hcn S.1.length (Nat.le_refl _)
  have hX : ([(t, nn)] : List (Nat × Nat)).mapIdx (fun i q => (zw_ad ad S.1.length q' (i + S.1.length), zw_ac tc (zw_ad ad S.1.length q') (zw_app S [(t, nn)]) (i + S.1.length) q)) = [(q', x)] := by
    rw [List.mapIdx_cons, List.mapIdx_nil, Nat.zero_add, zw_ad_at, zw_ac_congr (S' := zw_app S [(t, nn)]) (S := S) rfl rfl rfl, zw_ac_re (ad := ad) (fun j r h => by rw [z3 j] at h; cases h), hx]
  have hg := zw_make (e := e) (below := below) (ad' := zw_ad ad S.1.length q') (v := .ref S.1.length) (H1 := H1) (locs := locs) C hL hn ha (S' := zw_app S [(t, nn)]) (X := [(t, nn)]) rfl (fun k _ => ⟨rfl, rfl, rfl⟩) (zw_ad_old hlt) (zw_wf_app hn.2) hmc hlw hst kk (by rw [hX]; exact hP1) (by rw [hX]; exact hD1) hS1
  have e2 : zw_v (zw_ad ad S.1.length q') (.ref S.1.length) = .ref q' := by show Value.ref _ = _; rw [zw_ad_at]
  rw [e2] at hg
  exact hg
theorem zw_arcI : Cond.arrayClass .int ∈ zw_Tb := zw_mem 163 (by decide +kernel) (by decide +kernel)
theorem zx_newaI {w : Int32} {nn : Nat} (hd : decode y.2.1 pc = .ok (.newarray .int, 2)) (hw : ¬ w < 0) (hN : w.toNatClampNeg = nn) (hb : nn ≤ 1000) (hcn : zw_cln S) (hl : S.1.length = N) (hlt : N < 100000) (hk : k + 1 ≤ mc) (hks : n + nn ≤ ms) (hlw : zw_wl N L = true) (hst : st.all (zw_wv N) = true) (hq : pc + 2 = q)
    (kk : zW l D tc A y d mc ms (k + 1) (n + nn) q L (.ref N :: st) (zw_app S [(1, nn)]) Q) : zW l D tc A y d mc ms k n pc L (.int w :: st) S Q := by
  subst hq
  subst hl
  intro p e s m args below meth c ad ad0 n0 H locs ls C hP hD hS hL hn ha hm
  obtain ⟨z1, z2, z3⟩ := hcn S.1.length (Nat.le_refl _)
  refine va_newa (atype := .int) C.1 C.2.1 (C.2.2.2.2.2.1 _ zw_arcI) (ty := .int) rfl C.2.2.2.2.2.2.1 hP hD hS C.2.2.2.2.2.2.2.2.2.2 (a0 := (nn, .inl (S.2.1 S.1.length))) (fun cA => ?_) hw hN (by show nn * 4 ≤ _; omega) hk hks hd (fun q cA H1 hK1 hP1 hD1 hS1 => ?_)
  · rw [vp_cell_i]
    congr 1
    funext j
    rw [z1 j]
    rfl
  · have hc : cA = tc 1 := zw_cA (t := 1) (by omega) C.2.2.2.2.2.2.1 hK1
    subst hc
    exact zw_made hcn hlt rfl C hL hn ha (by omega) hlw hst kk hP1 hD1 hS1
theorem zw_arcB : Cond.arrayClass .byte ∈ zw_Tb := zw_mem 187 (by decide +kernel) (by decide +kernel)
theorem zx_newaB {w : Int32} {nn : Nat} (hd : decode y.2.1 pc = .ok (.newarray .byte, 2)) (hw : ¬ w < 0) (hN : w.toNatClampNeg = nn) (hb : nn ≤ 1000) (hcn : zw_cln S) (hl : S.1.length = N) (hlt : N < 100000) (hk : k + 1 ≤ mc) (hks : n + nn ≤ ms) (hlw : zw_wl N L = true) (hst : st.all (zw_wv N) = true) (hq : pc + 2 = q)
    (kk : zW l D tc A y d mc ms (k + 1) (n + nn) q L (.ref N :: st) (zw_app S [(2, nn)]) Q) : zW l D tc A y d mc ms k n pc L (.int w :: st) S Q := by
  subst hq
  subst hl
  intro p e s m args below meth c ad ad0 n0 H locs ls C hP hD hS hL hn ha hm
  obtain ⟨z1, z2, z3⟩ := hcn S.1.length (Nat.le_refl _)
  refine va_newa (atype := .byte) C.1 C.2.1 (C.2.2.2.2.2.1 _ zw_arcB) (ty := .byte) rfl C.2.2.2.2.2.2.1 hP hD hS C.2.2.2.2.2.2.2.2.2.2 (a0 := (nn, .inl (S.2.1 S.1.length))) (fun cA => ?_) hw hN (by show nn * 1 ≤ _; omega) hk hks hd (fun q cA H1 hK1 hP1 hD1 hS1 => ?_)
  · rw [vp_cell_i]
    congr 1
    funext j
    rw [z1 j]
    rfl
  · have hc : cA = tc 2 := zw_cA (t := 2) (by omega) C.2.2.2.2.2.2.1 hK1
    subst hc
    exact zw_made hcn hlt rfl C hL hn ha (by omega) hlw hst kk hP1 hD1 hS1
theorem zw_arcZ : Cond.arrayClass .boolean ∈ zw_Tb := zw_mem 1079 (by decide +kernel) (by decide +kernel)
theorem zx_newaZ {w : Int32} {nn : Nat} (hd : decode y.2.1 pc = .ok (.newarray .boolean, 2)) (hw : ¬ w < 0) (hN : w.toNatClampNeg = nn) (hb : nn ≤ 1000) (hcn : zw_cln S) (hl : S.1.length = N) (hlt : N < 100000) (hk : k + 1 ≤ mc) (hks : n + nn ≤ ms) (hlw : zw_wl N L = true) (hst : st.all (zw_wv N) = true) (hq : pc + 2 = q)
    (kk : zW l D tc A y d mc ms (k + 1) (n + nn) q L (.ref N :: st) (zw_app S [(3, nn)]) Q) : zW l D tc A y d mc ms k n pc L (.int w :: st) S Q := by
  subst hq
  subst hl
  intro p e s m args below meth c ad ad0 n0 H locs ls C hP hD hS hL hn ha hm
  obtain ⟨z1, z2, z3⟩ := hcn S.1.length (Nat.le_refl _)
  refine va_newa (atype := .boolean) C.1 C.2.1 (C.2.2.2.2.2.1 _ zw_arcZ) (ty := .boolean) rfl C.2.2.2.2.2.2.1 hP hD hS C.2.2.2.2.2.2.2.2.2.2 (a0 := (nn, .inl (S.2.1 S.1.length))) (fun cA => ?_) hw hN (by show nn * 1 ≤ _; omega) hk hks hd (fun q cA H1 hK1 hP1 hD1 hS1 => ?_)
  · rw [vp_cell_i]
    congr 1
    funext j
    rw [z1 j]
    rfl
  · have hc : cA = tc 3 := zw_cA (t := 3) (by omega) C.2.2.2.2.2.2.1 hK1
    subst hc
    exact zw_made hcn hlt rfl C hL hn ha (by omega) hlw hst kk hP1 hD1 hS1
theorem zw_arcJ : Cond.arrayClass .long ∈ zw_Tb := zw_mem 335 (by decide +kernel) (by decide +kernel)
theorem zx_newaJ {w : Int32} {nn : Nat} (hd : decode y.2.1 pc = .ok (.newarray .long, 2)) (hw : ¬ w < 0) (hN : w.toNatClampNeg = nn) (hb : nn ≤ 1000) (hcn : zw_cln S) (hl : S.1.length = N) (hlt : N < 100000) (hk : k + 1 ≤ mc) (hks : n + nn ≤ ms) (hlw : zw_wl N L = true) (hst : st.all (zw_wv N) = true) (hq : pc + 2 = q)
    (kk : zW l D tc A y d mc ms (k + 1) (n + nn) q L (.ref N :: st) (zw_app S [(4, nn)]) Q) : zW l D tc A y d mc ms k n pc L (.int w :: st) S Q := by
  subst hq
  subst hl
  intro p e s m args below meth c ad ad0 n0 H locs ls C hP hD hS hL hn ha hm
  obtain ⟨z1, z2, z3⟩ := hcn S.1.length (Nat.le_refl _)
  refine va_newa (atype := .long) C.1 C.2.1 (C.2.2.2.2.2.1 _ zw_arcJ) (ty := .long) rfl C.2.2.2.2.2.2.1 hP hD hS C.2.2.2.2.2.2.2.2.2.2 (a0 := (nn, .inr (.inl (S.2.2.1 S.1.length)))) (fun cA => ?_) hw hN (by show nn * 8 ≤ _; omega) hk hks hd (fun q cA H1 hK1 hP1 hD1 hS1 => ?_)
  · rw [vp_cell_l]
    congr 1
    funext j
    rw [z2 j]
    rfl
  · have hc : cA = tc 4 := zw_cA (t := 4) (by omega) C.2.2.2.2.2.2.1 hK1
    subst hc
    exact zw_made hcn hlt rfl C hL hn ha (by omega) hlw hst kk hP1 hD1 hS1
theorem zx_newqF {idx : Nat} {w : Int32} {nn : Nat} (hd : decode y.2.1 pc = .ok (.anewarray idx, 3)) (hcl : Cond.classLink y.1.cls idx RX1 ∈ zw_Tb) (hw : ¬ w < 0) (hN : w.toNatClampNeg = nn) (hb : nn ≤ 1000) (hcn : zw_cln S) (hl : S.1.length = N) (hlt : N < 100000) (hk : k + 1 ≤ mc) (hks : n + nn ≤ ms) (hlw : zw_wl N L = true) (hst : st.all (zw_wv N) = true) (hq : pc + 3 = q)
    (kk : zW l D tc A y d mc ms (k + 1) (n + nn) q L (.ref N :: st) (zw_app S [(6, nn)]) Q) : zW l D tc A y d mc ms k n pc L (.int w :: st) S Q := by
  subst hq
  subst hl
  intro p e s m args below meth c ad ad0 n0 H locs ls C hP hD hS hL hn ha hm
  obtain ⟨z1, z2, z3⟩ := hcn S.1.length (Nat.le_refl _)
  refine va_newq C.1 C.2.1 C.2.2.2.2.1 (C.2.2.2.2.2.1 _ hcl) C.2.2.2.2.2.2.2.1.2.2.2.2.2.2.2.1 C.2.2.2.2.2.2.1 hP hD hS C.2.2.2.2.2.2.2.2.2.2 hw hN (by omega) hk hks hd (fun q cA H1 hK1 hP1 hD1 hS1 => ?_)
  have hc : cA = tc 6 := zw_cA (t := 6) (by omega) C.2.2.2.2.2.2.1 hK1
  subst hc
  have hx : zw_ac tc ad S S.1.length (6, nn) = .inl (tc 6, nn, .inr (.inr (.inr (.inr (fun _ => none))))) := by
    show (Sum.inl (tc 6, nn, .inr (.inr (.inr (.inr (fun j => (S.2.2.2 S.1.length j).map ad))))) : va_E) = _
    simp only [z3]
    rfl
  exact zw_made hcn hlt hx C hL hn ha (by omega) hlw hst kk hP1 hD1 hS1
theorem zx_newqT {idx : Nat} {w : Int32} {nn : Nat} (hd : decode y.2.1 pc = .ok (.anewarray idx, 3)) (hcl : Cond.classLink y.1.cls idx RX6 ∈ zw_Tb) (hw : ¬ w < 0) (hN : w.toNatClampNeg = nn) (hb : nn ≤ 1000) (hcn : zw_cln S) (hl : S.1.length = N) (hlt : N < 100000) (hk : k + 1 ≤ mc) (hks : n + nn ≤ ms) (hlw : zw_wl N L = true) (hst : st.all (zw_wv N) = true) (hq : pc + 3 = q)
    (kk : zW l D tc A y d mc ms (k + 1) (n + nn) q L (.ref N :: st) (zw_app S [(7, nn)]) Q) : zW l D tc A y d mc ms k n pc L (.int w :: st) S Q := by
  subst hq
  subst hl
  intro p e s m args below meth c ad ad0 n0 H locs ls C hP hD hS hL hn ha hm
  obtain ⟨z1, z2, z3⟩ := hcn S.1.length (Nat.le_refl _)
  refine va_newq C.1 C.2.1 C.2.2.2.2.1 (C.2.2.2.2.2.1 _ hcl) C.2.2.2.2.2.2.2.1.2.2.2.2.2.2.2.2.1 C.2.2.2.2.2.2.1 hP hD hS C.2.2.2.2.2.2.2.2.2.2 hw hN (by omega) hk hks hd (fun q cA H1 hK1 hP1 hD1 hS1 => ?_)
  have hc : cA = tc 7 := zw_cA (t := 7) (by omega) C.2.2.2.2.2.2.1 hK1
  subst hc
  have hx : zw_ac tc ad S S.1.length (7, nn) = .inl (tc 7, nn, .inr (.inr (.inr (.inr (fun _ => none))))) := by
    show (Sum.inl (tc 7, nn, .inr (.inr (.inr (.inr (fun j => (S.2.2.2 S.1.length j).map ad))))) : va_E) = _
    simp only [z3]
    rfl
  exact zw_made hcn hlt hx C hL hn ha (by omega) hlw hst kk hP1 hD1 hS1
theorem zw_objW : Cond.instanceMethod objectInit ∈ zw_Tb ∧ Cond.code objectInit ⟨#[0xb1]⟩ 1 none ∈ zw_Tb := ⟨zw_mem 109 (by decide +kernel) (by decide +kernel), zw_mem 110 (by decide +kernel) (by decide +kernel)⟩
theorem zx_objI {b idx : Nat} (hd : decode y.2.1 pc = .ok (.invokespecial idx, 3)) (hl : Cond.methodLink y.1.cls idx objectInit ∈ zw_Tb) (hst : (st.map fun v => v.category).sum ≤ 8) (hq : pc + 3 = q) (kk : zW l D tc A y (d + 1) mc ms k n q L st S Q) : zW l D tc A y (d + 1) mc ms k n pc L (.ref b :: st) S Q := by
  subst hq
  intro p e s m args below meth c ad ad0 n0 H locs ls C hP hD hS hL hn ha hm
  exact W.objInit C.1 C.2.1 C.2.2.2.2.1 (C.2.2.2.2.2.1 _ hl) (C.2.2.2.2.2.1 _ zw_objW.1) (C.2.2.2.2.2.1 _ zw_objW.2) (g := F0 m pc ls (.ref (ad b) :: st.map (zw_v ad))) rfl (by rw [C.2.2.2.1]; exact hL.1.1) rfl hd (by show 1 ≤ d + 1; omega) (by rw [zw_sum]; show 2 * 0 + _ + 12 ≤ 60 * (d + 1); omega) (kk p e s m args below meth c ad ad0 n0 H locs ls C hP hD hS hL hn ha hm)
end ZM
