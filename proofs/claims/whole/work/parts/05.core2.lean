/-! what never changes: the two static tables, the texts, the words of nest mates -/
def zw_KA (j : Nat) : Int32 := [(-1 : Int32), 0, 0, 0, 1, 2, 3].getD j 0
def zw_BD (j : Nat) : Int32 := [(10 : Int32), 11, 12, 10, 20, 12, 30, 11, 12, 10, 11, 40, 50, 51, 12, 30, 11, 60, 71, 70, 40].getD j 0
def zw_tx (i : Nat) : String := ["owe ", "see ", "most ", "0123456789", " ", ")", "skvfmh", "<=>"].getD i ""
def zw_tn (i : Nat) : Nat := [45, 47, 49, 92, 59, 75, 80, 86].getD i 0
def zw_tb : List (List Int32) := [[111, 119, 101, 32], [115, 101, 101, 32], [109, 111, 115, 116, 32], [48, 49, 50, 51, 52, 53, 54, 55, 56, 57], [32], [41], [115, 107, 118, 102, 109, 104], [60, 61, 62]]
def zw_tl : List Nat := [4, 4, 5, 10, 1, 1, 6, 3]
/-- the calls of nest mates' private methods: the caller's class, the number, the method -/
def zw_nest : List (String × (Nat × MethodName)) := [(RX7, 11, yX5_init), (RX7, 23, yX2_init), (RX7, 30, yX1_init), (RX7, 41, yX4_init), (RX7, 61, yX0_init), (RX7, 72, yX6_init), (RX4, 53, yX7_isKindOf), (RX6, 28, yX7_within)]
def zw_AA (U : State) : Prop := (Cond.arrayOver (.array .int)).before #[] U = true
theorem zw_AA.moved {u U : State} (hvm : u.vm.Alike U.vm) (h : zw_AA u) : zw_AA U := Jvm.Stand.arrayOver_alikeB hvm h
/-- which classes of arrays of arrays and of objects there are -/
def zw_ao (U : State) : Prop := va_AO RX1 U ∧ va_AO RX6 U ∧ zw_AA U
theorem zw_ao.moved {u U : State} (hvm : u.vm.Alike U.vm) (h : zw_ao u) : zw_ao U := ⟨h.1.moved hvm, h.2.1.moved hvm, h.2.2.moved hvm⟩
def zw_G (ad : Nat → Nat) (A : Nat → Prop) (U : State) (H : Heap) : Prop :=
  (va_Z RX7 "KIND_ABOVE" "[I" (.ref (ad 300000)) A U H ∧ va_T .int (ad 300000) 7 (fun j => .int (zw_KA j)) A U H) ∧
  (va_Z RX0 "BODIES" "[I" (.ref (ad 300001)) A U H ∧ va_T .int (ad 300001) 21 (fun j => .int (zw_BD j)) A U H) ∧
  va_Z RJ0 "COMPACT_STRINGS" "Z" (.int 1) A U H ∧ (va_Z RJ3 "SIOOBE_FORMATTER" "Ljava/util/function/BiFunction;" .null A U H ∨ va_Z RJ3 "SIOOBE_FORMATTER" "Ljava/util/function/BiFunction;" (.ref (ad 400000)) A U H) ∧
  vk_S 8 zw_tl zw_tb (fun i => ad (100000 + i)) (fun i => ad (200000 + i)) A U H ∧
  (∀ i, i < 8 → vk_R RX2 (zw_tn i) (zw_tx i) (ad (100000 + i)) U) ∧
  ((∀ q ∈ zw_nest, va_Nw (.methodLinkNest q.1 q.2.1 q.2.2 RX7) U) ∧ zw_ao U)
theorem zw_G.kept {ad : Nat → Nat} {A : Nat → Prop} {U : State} {H H1 : Heap} (h : zw_G ad A U H) (hq : ∀ a : Nat, a < H.size → ¬ A a → H1[a]? = H[a]?) : zw_G ad A U H1 :=
  ⟨⟨h.1.1.kept hq, h.1.2.kept hq⟩, ⟨h.2.1.1.kept hq, h.2.1.2.kept hq⟩, h.2.2.1.kept hq, h.2.2.2.1.imp (fun z => z.kept hq) (fun z => z.kept hq), h.2.2.2.2.1.kept hq, h.2.2.2.2.2⟩
theorem zw_G.same {ad : Nat → Nat} {A : Nat → Prop} {u U : State} {H : Heap} (hv : u.vm = U.vm) (h : zw_G ad A u H) : zw_G ad A U H :=
  have ha : u.vm.Alike U.vm := by rw [hv]; exact Vm.Alike.refl _
  ⟨⟨h.1.1.moved ha, h.1.2.moved ha⟩, ⟨h.2.1.1.moved ha, h.2.1.2.moved ha⟩, h.2.2.1.moved ha, h.2.2.2.1.imp (fun z => z.moved ha) (fun z => z.moved ha), h.2.2.2.2.1.moved ha, fun i hi => vk_R.same hv.symm (h.2.2.2.2.2.1 i hi), fun q hq => va_Nw.same rfl hv (h.2.2.2.2.2.2.1 q hq), h.2.2.2.2.2.2.2.moved ha⟩
theorem zw_G.warm {ad : Nat → Nat} {A : Nat → Prop} {u U : State} {H : Heap} (hW : u.WarmedH U.vm) (h : zw_G ad A u H) : zw_G ad A U H :=
  have ha := hW.alike
  ⟨⟨h.1.1.moved ha, h.1.2.moved ha⟩, ⟨h.2.1.1.moved ha, h.2.1.2.moved ha⟩, h.2.2.1.moved ha, h.2.2.2.1.imp (fun z => z.moved ha) (fun z => z.moved ha), h.2.2.2.2.1.moved ha, fun i hi => vk_R.warm hW (h.2.2.2.2.2.1 i hi), fun q hq => va_Nw.warmM hW (h.2.2.2.2.2.2.1 q hq), h.2.2.2.2.2.2.2.moved ha⟩
theorem zw_G.re {ad ad' : Nat → Nat} {A : Nat → Prop} {U : State} {H : Heap} (h : zw_G ad A U H) (e : ∀ k, 100000 ≤ k → ad' k = ad k) : zw_G ad' A U H := by
  unfold zw_G at h ⊢
  have e1 : (fun i => ad' (100000 + i)) = (fun i => ad (100000 + i)) := funext fun i => e _ (by omega)
  have e2 : (fun i => ad' (200000 + i)) = (fun i => ad (200000 + i)) := funext fun i => e _ (by omega)
  rw [e 300000 (by omega), e 300001 (by omega), e 400000 (by omega), e1, e2]
  refine ⟨h.1, h.2.1, h.2.2.1, h.2.2.2.1, h.2.2.2.2.1, fun i hi => ?_, h.2.2.2.2.2.2⟩
  rw [e (100000 + i) (by omega)]
  exact h.2.2.2.2.2.1 i hi
/-! locals -/
def zw_lv (ad : Nat → Nat) : Nat → List (Option Value) → List (Nat × Value)
  | _, [] => []
  | i, none :: r => zw_lv ad (i + 1) r
  | i, some v :: r => (i, zw_v ad v) :: zw_lv ad (i + 1) r
theorem zw_lv_mem {ad : Nat → Nat} : ∀ {L : List (Option Value)} {i j : Nat} {w : Value}, (j, w) ∈ zw_lv ad i L ↔ ∃ (m : Nat) (v : Value), j = i + m ∧ L[m]? = some (some v) ∧ w = zw_v ad v := by
  intro L
  induction L with
  | nil => intro i j w; simp [zw_lv]
  | cons o L ih =>
    intro i j w
    cases o with
    | none =>
      rw [zw_lv, ih]
      constructor
      · rintro ⟨m, v, h1, h2, h3⟩
        exact ⟨m + 1, v, by omega, by simpa using h2, h3⟩
      · rintro ⟨m, v, h1, h2, h3⟩
        cases m with
        | zero => simp at h2
        | succ m => exact ⟨m, v, by omega, by simpa using h2, h3⟩
    | some x =>
      rw [zw_lv, List.mem_cons, ih]
      constructor
      · rintro (h | ⟨m, v, h1, h2, h3⟩)
        · cases h
          exact ⟨0, x, rfl, rfl, rfl⟩
        · exact ⟨m + 1, v, by omega, by simpa using h2, h3⟩
      · rintro ⟨m, v, h1, h2, h3⟩
        cases m with
        | zero =>
          simp at h2
          subst h2
          exact Or.inl (by rw [h3, h1]; rfl)
        | succ m => exact Or.inr ⟨m, v, by omega, by simpa using h2, h3⟩
def zw_L (ls : Array Slot) (nL : Nat) (ad : Nat → Nat) (L : List (Option Value)) : Prop := lv_has ls nL (zw_lv ad 0 L) ∧ L.length = nL
theorem zw_L.at {ls : Array Slot} {nL : Nat} {ad : Nat → Nat} {L : List (Option Value)} (h : zw_L ls nL ad L) {i : Nat} {v : Value} (hl : L[i]? = some (some v)) : ls[i]? = some (.val (zw_v ad v)) :=
  h.1.2.2 (i, zw_v ad v) (zw_lv_mem.mpr ⟨i, v, by omega, hl, rfl⟩)
/-- no long lies across the local i -/
def zw_nl (L : List (Option Value)) : Nat → Bool
  | 0 => true
  | i + 1 => match L[i]? with
    | some (some v) => v.category != 2
    | _ => true
theorem zw_nl_no {L : List (Option Value)} {i j : Nat} {v : Value} (h : zw_nl L i = true) (hj : j + 1 = i) (hv : L[j]? = some (some v)) : ¬ v.category = 2 := by
  subst hj
  unfold zw_nl at h
  simp only [hv] at h
  simpa using h
theorem zw_L.st1 {ls' : Array Slot} {nL : Nat} {ad : Nat → Nat} {L : List (Option Value)} {i : Nat} {x : Value} (hlen : L.length = nL) (hi : i < L.length) (hn : zw_nl L i = true)
    (h : lv_has ls' nL ((i, zw_v ad x) :: (zw_lv ad 0 L).filter (fun q => !(q.1 == i) && !(q.1 + 1 == i && q.2.category == 2)))) : zw_L ls' nL ad (L.set i (some x)) := by
  refine ⟨⟨h.1, h.2.1, fun q hq => ?_⟩, by rw [List.length_set]; exact hlen⟩
  obtain ⟨j, w⟩ := q
  obtain ⟨m, v, h1, h2, h3⟩ := zw_lv_mem.mp hq
  have hjm : j = m := by omega
  subst hjm
  by_cases hji : j = i
  · subst hji
    rw [List.getElem?_set_self hi] at h2
    cases h2
    rw [h3]
    exact h.2.2 _ List.mem_cons_self
  · rw [List.getElem?_set_ne (Ne.symm hji)] at h2
    refine h.2.2 _ (List.mem_cons_of_mem _ (List.mem_filter.mpr ⟨zw_lv_mem.mpr ⟨j, v, h1, h2, h3⟩, ?_⟩))
    simp only [Bool.and_eq_true, Bool.not_eq_true', beq_eq_false_iff_ne, Bool.and_eq_false_iff, ne_eq]
    refine ⟨hji, ?_⟩
    by_cases he : j + 1 = i
    · exact Or.inr (by rw [h3, zw_v_cat]; exact zw_nl_no hn he h2)
    · exact Or.inl he
theorem zw_L.st2 {ls' : Array Slot} {nL : Nat} {ad : Nat → Nat} {L : List (Option Value)} {i : Nat} {x : Value} (hlen : L.length = nL) (hi : i < L.length) (hn : zw_nl L i = true)
    (h : lv_has ls' nL ((i, zw_v ad x) :: (zw_lv ad 0 L).filter (fun q => !(q.1 == i) && (!(q.1 == i + 1) && !(q.1 + 1 == i && q.2.category == 2))))) : zw_L ls' nL ad ((L.set i (some x)).set (i + 1) none) := by
  refine ⟨⟨h.1, h.2.1, fun q hq => ?_⟩, by rw [List.length_set, List.length_set]; exact hlen⟩
  obtain ⟨j, w⟩ := q
  obtain ⟨m, v, h1, h2, h3⟩ := zw_lv_mem.mp hq
  have hjm : j = m := by omega
  subst hjm
  by_cases hj1 : j = i + 1
  · subst hj1
    by_cases hl : i + 1 < L.length
    · rw [List.getElem?_set_self (by rw [List.length_set]; exact hl)] at h2
      simp at h2
    · rw [List.getElem?_eq_none (by rw [List.length_set, List.length_set]; omega)] at h2
      cases h2
  · rw [List.getElem?_set_ne (Ne.symm hj1)] at h2
    by_cases hji : j = i
    · subst hji
      rw [List.getElem?_set_self hi] at h2
      cases h2
      rw [h3]
      exact h.2.2 _ List.mem_cons_self
    · rw [List.getElem?_set_ne (Ne.symm hji)] at h2
      refine h.2.2 _ (List.mem_cons_of_mem _ (List.mem_filter.mpr ⟨zw_lv_mem.mpr ⟨j, v, h1, h2, h3⟩, ?_⟩))
      simp only [Bool.and_eq_true, Bool.not_eq_true', beq_eq_false_iff_ne, Bool.and_eq_false_iff, ne_eq]
      refine ⟨hji, hj1, ?_⟩
      by_cases he : j + 1 = i
      · exact Or.inr (by rw [h3, zw_v_cat]; exact zw_nl_no hn he h2)
      · exact Or.inl he
def zw_en : List Value → List (Option Value)
  | [] => []
  | .long x :: vs => some (.long x) :: none :: zw_en vs
  | .double x :: vs => some (.double x) :: none :: zw_en vs
  | v :: vs => some v :: zw_en vs
def zw_ent (vs : List Value) (n : Nat) : List (Option Value) := zw_en vs ++ List.replicate (n - (zw_en vs).length) none
theorem zw_en_cons (v : Value) (vs : List Value) : zw_en (v :: vs) = if v.category = 2 then some v :: none :: zw_en vs else some v :: zw_en vs := by cases v <;> rfl
theorem zw_en_lv (ad : Nat → Nat) : ∀ (vs : List Value) (i : Nat), zw_lv ad i (zw_en vs) = lv_args i (vs.map (zw_v ad)) := by
  intro vs
  induction vs with
  | nil => intro i; rfl
  | cons v vs ih =>
    intro i
    rw [zw_en_cons, List.map_cons, lv_args, zw_v_cat]
    split
    · rw [zw_lv, zw_lv, ih]
    · rw [zw_lv, ih]
theorem zw_en_len (ad : Nat → Nat) : ∀ vs : List Value, (lg_sl (vs.map (zw_v ad))).length = (zw_en vs).length := by
  intro vs
  induction vs with
  | nil => rfl
  | cons v vs ih =>
    rw [zw_en_cons]
    have e : (lg_sl ((v :: vs).map (zw_v ad))).length = (if v.category = 2 then 2 else 1) + (lg_sl (vs.map (zw_v ad))).length := by
      simp only [lg_sl, List.map_cons, List.flatMap_cons, List.length_append, zw_v_cat]
      split <;> rfl
    rw [e, ih]
    split <;> simp <;> omega
theorem zw_lv_none (ad : Nat → Nat) (n : Nat) : ∀ (L : List (Option Value)) (i : Nat), zw_lv ad i (L ++ List.replicate n none) = zw_lv ad i L := by
  intro L
  induction L with
  | nil =>
    induction n with
    | zero => intro i; rfl
    | succ n ih => intro i; rw [List.nil_append, List.replicate_succ, zw_lv]; exact ih (i + 1)
  | cons o L ih =>
    intro i
    cases o with
    | none => rw [List.cons_append, zw_lv, zw_lv, ih]
    | some v => rw [List.cons_append, zw_lv, zw_lv, ih]
theorem zw_L.entry {ad : Nat → Nat} {vs : List Value} {n : Nat} (h : (zw_en vs).length ≤ n) : zw_L ((lg_sl (vs.map (zw_v ad)) ++ List.replicate (n - (lg_sl (vs.map (zw_v ad))).length) Slot.unset).toArray) n ad (zw_ent vs n) := by
  refine ⟨?_, by unfold zw_ent; rw [List.length_append, List.length_replicate]; omega⟩
  unfold zw_ent
  rw [zw_lv_none, zw_en_lv]
  exact lv_entry _ (by rw [zw_en_len]; exact h)
/-! contracts over shapes -/
/-- the references that lie in cells are of cells that there are, or of what never changes -/
def zw_wf (S : zw_S) : Prop := ∀ k j r : Nat, S.2.2.2 k j = some r → r < S.1.length ∨ 100000 ≤ r
def zw_P (D : va_G) (tc : Nat → ClassId) (A : Nat → Prop) (ad : Nat → Nat) (vs : List Value) (S : zw_S) : Array Value → State → Prop := fun v U =>
  v = (vs.map (zw_v ad)).toArray ∧ va_P D zw_cl (zw_ws tc ad S) U.heap ∧ va_D A (zw_ws tc ad S) ∧ va_K D zw_cl (zw_tys tc) U ∧ zw_G ad A U U.heap ∧ (∀ q : Nat, U.heap.size ≤ q → A q) ∧ zw_wf S
def zw_Q (D : va_G) (tc : Nat → ClassId) (A : Nat → Prop) (ad0 : Nat → Nat) (n0 mc : Nat) (Q : Option Value → zw_S → Prop) : Array Value → State → Outcome → State → Prop := fun _ st oc t =>
  (∃ (r : Option Value) (S' : zw_S) (ad' : Nat → Nat), oc = .returned (r.map (zw_v ad')) ∧ Q r S' ∧ (n0 ≤ S'.1.length ∧ zw_wf S') ∧ (∀ k, k < n0 ∨ 100000 ≤ k → ad' k = ad0 k) ∧ (mc = 0 → ad' = ad0) ∧ va_P D zw_cl (zw_ws tc ad' S') t.heap ∧ va_D A (zw_ws tc ad' S')) ∧ va_F A st t
def zw_rm (d mc ms : Nat) : Room := { frames := d, cells := mc, slots := ms, locals := 60 * d }
def zw_C (D : va_G) (tc : Nat → ClassId) (A : Nat → Prop) (y : zw_M) (p : Program) (s : State) (m : MethodId) (args : Array Value) (meth : Method) (c : Code) (ad : Nat → Nat) : Prop :=
  p.tables.exec = Jvm.exec ∧ c.code = y.2.1 ∧ meth.sig.returnType = y.2.2.2 ∧ c.maxLocals = y.2.2.1 ∧ s.vm.findClass y.1.cls = some m.cls ∧ (∀ w ∈ zw_Tb, w.before args s = true) ∧ va_K D zw_cl (zw_tys tc) s ∧ zw_G ad A s s.heap ∧ meth.locks = false ∧ meth.name = y.1.name ∧ ∀ q : Nat, s.heap.size ≤ q → A q
def zW (l : Launch) (D : va_G) (tc : Nat → ClassId) (A : Nat → Prop) (y : zw_M) (d mc ms k n pc : Nat) (L : List (Option Value)) (st : List Value) (S : zw_S) (Q : Option Value → zw_S → Prop) : Prop :=
  ∀ (p : Program) (e : Env) (s : State) (m : MethodId) (args : Array Value) (below : List Frame) (meth : Method) (c : Code) (ad ad0 : Nat → Nat) (n0 : Nat) (H : Heap) (locs : List Loc) (ls : Array Slot),
    zw_C D tc A y p s m args meth c ad → va_P D zw_cl (zw_ws tc ad S) H → va_D A (zw_ws tc ad S) → va_S A s.heap H locs → zw_L ls y.2.2.1 ad L → n0 ≤ S.1.length ∧ zw_wf S → (∀ k, k < n0 ∨ 100000 ≤ k → ad k = ad0 k) → (mc = 0 → ad = ad0) →
    W p l e (zw_rm d mc ms) s m args below meth c H locs k n (MQ below (zw_Q D tc A ad0 n0 mc Q) args s mc ms A) (F0 m pc ls (st.map (zw_v ad)))
/-- a method, called with these arguments in this state, ends, and Q holds of its answer and of the state behind it -/
def zCall (l : Launch) (D : va_G) (tc : Nat → ClassId) (A : Nat → Prop) (y : zw_M) (d mc ms : Nat) (vs : List Value) (S : zw_S) (Q : Option Value → zw_S → Prop) : Prop := zW l D tc A y d mc ms 0 0 0 (zw_ent vs y.2.2.1) [] S Q
def zw_wsy (y : zw_M) : List Cond := Cond.code y.1 y.2.1 y.2.2.1 y.2.2.2 :: zw_Tb
set_option maxHeartbeats 4000000 in
theorem zw_met {l : Launch} {D : va_G} {tc : Nat → ClassId} {A : Nat → Prop} {y : zw_M} {d mc ms : Nat} {vs : List Value} {S : zw_S} {Q : Option Value → zw_S → Prop} (hy : plainName y.1.cls = true) (hn : (zw_en vs).length ≤ y.2.2.1) (h : zCall l D tc A y d mc ms vs S Q) (ad : Nat → Nat) :
    Met l y.1 (zw_wsy y) (zw_rm d mc ms) (zw_P D tc A ad vs S) (zw_Q D tc A ad S.1.length mc Q) mc ms A := by
  refine Met.ofW (cc := y.2.1) (maxL := y.2.2.1) (ret := y.2.2.2) (ws' := zw_Tb) hy rfl ?_
  intro p e s m args below meth c s₁ B hml hv
  obtain ⟨rfl, hP, hD, hK, hG, hA, hw⟩ := hv
  have hts : ∀ w ∈ zw_wsy y, w.before _ s = true := atoms_spec (ws := zw_wsy y) B.pre
  rw [lg_entry_eq]
  exact h p e s m _ below meth c ad ad S.1.length s.heap [] _ ⟨B.exec, B.bytes, B.returns, hml, findClass_of_methodNamed B.named, fun w hw => hts w (List.mem_cons_of_mem _ hw), hK, hG, B.notSynchronized, (name_of_methodNamed B.named B.method).1, hA⟩ hP hD va_S.rf (zw_L.entry hn) ⟨Nat.le_refl _, hw⟩ (fun _ _ => rfl) (fun _ => rfl)
theorem zW.mono {l : Launch} {D : va_G} {tc : Nat → ClassId} {A : Nat → Prop} {y : zw_M} {d mc ms k n pc : Nat} {L : List (Option Value)} {st : List Value} {S : zw_S} {Q Q' : Option Value → zw_S → Prop} (h : zW l D tc A y d mc ms k n pc L st S Q) (hQ : ∀ r S', Q r S' → Q' r S') : zW l D tc A y d mc ms k n pc L st S Q' := by
  intro p e s m args below meth c ad ad0 n0 H locs ls C hP hD hS hL hn ha hm T hT X
  obtain ⟨t, h1, o, h2, h3, ⟨⟨r, S', ad', g1, g2, g3⟩, h5⟩, h6⟩ := h p e s m args below meth c ad ad0 n0 H locs ls C hP hD hS hL hn ha hm T hT X
  exact ⟨t, h1, o, h2, h3, ⟨⟨r, S', ad', g1, hQ _ _ g2, g3⟩, h5⟩, h6⟩
theorem zw_blind {D : va_G} {tc : Nat → ClassId} {A : Nat → Prop} {ad : Nat → Nat} {vs : List Value} {S : zw_S} : FrameBlind (zw_P D tc A ad vs S) := by
  intro a U g mk ⟨h1, h2, h3, h4, h5, h6, h7⟩
  exact ⟨h1, h2, h3, va_K.moved (u := U) (U := U.calling g mk a) (Vm.Alike.refl U.vm) h4, zw_G.same (u := U) (U := U.calling g mk a) rfl h5, h6, h7⟩
theorem zw_pre {D : va_G} {tc : Nat → ClassId} {A : Nat → Prop} {y : zw_M} {p : Program} {s : State} {m : MethodId} {args : Array Value} {meth : Method} {c : Code} {ad : Nat → Nat} {S : zw_S} {H : Heap} {locs : List Loc} {vs : List Value} (C : zw_C D tc A y p s m args meth c ad) (hP : va_P D zw_cl (zw_ws tc ad S) H) (hD : va_D A (zw_ws tc ad S)) (hS : va_S A s.heap H locs) (hw : zw_wf S) :
    FrameBlind (zw_P D tc A ad vs S) ∧ ∀ U : State, U.heap = H → s.WarmedH U.vm → zw_P D tc A ad vs S (vs.map (zw_v ad)).toArray U := by
  refine ⟨zw_blind, fun U hU hW => ⟨rfl, by rw [hU]; exact hP, hD, va_K.moved hW.alike C.2.2.2.2.2.2.1, ?_, fun q hq => C.2.2.2.2.2.2.2.2.2.2 q (Nat.le_trans hS.1 (by rw [← hU]; exact hq)), hw⟩⟩
  rw [hU]
  exact zw_G.warm hW (C.2.2.2.2.2.2.2.1.kept hS.2.1)
section ZG
variable {p : Program} {l : Launch} {e : Env} {R : Room} {s : State} {m : MethodId} {args : Array Value} {below : List Frame} {meth : Method} {c : Code} {H : Heap} {locs : List Loc} {cells slots : Nat} {Q : State → Prop}
theorem zw_goes {D : va_G} {tc : Nat → ClassId} {A : Nat → Prop} {ad : Nat → Nat} {n0 mc ms : Nat} {Q' : Option Value → zw_S → Prop} {pc : Nat} {ls : Array Slot} {rest st0 : List Value} {a : Array Value}
    (hr : va_Run p l e R s m args below meth c H locs cells slots mc ms (F0 m pc ls st0) rest (zw_Q D tc A ad n0 mc Q' a) A) (hS : va_S A s.heap H locs)
    (kk : ∀ (r : Option Value) (S' : zw_S) (ad' : Nat → Nat) (H1 : Heap) (locs1 : List Loc), Q' r S' → n0 ≤ S'.1.length ∧ zw_wf S' → (∀ k, k < n0 ∨ 100000 ≤ k → ad' k = ad k) → (mc = 0 → ad' = ad) → va_P D zw_cl (zw_ws tc ad' S') H1 → va_D A (zw_ws tc ad' S') → va_S A s.heap H1 locs1 →
      W p l e R s m args below meth c H1 locs1 (cells + mc) (slots + ms) Q (F0 m (pc + 3) ls ((r.map (zw_v ad')).toList ++ rest))) : W p l e R s m args below meth c H locs cells slots Q (F0 m pc ls st0) := by
  intro T hT X
  obtain ⟨v, st₀, t, T', L, h0, X', hL, e1, e2, ⟨⟨r, S', ad', hv, hq, hw, ha, hm, hP, hD⟩, hz, hk⟩, st⟩ := hr T hT X
  cases hv
  rw [h0] at hz hk
  obtain ⟨t2, a1, b1⟩ := kk r S' ad' T'.heap (locs ++ L) hq hw ha hm (by rw [e1]; exact hP) hD
    ⟨Nat.le_trans hS.1 (by rw [e1]; exact hz), fun q h1 h2 => by rw [e1, hk q (Nat.lt_of_lt_of_le h1 hS.1) h2]; exact hS.2.1 q h1 h2, fun q hq => by
      rcases List.mem_append.mp hq with h | h
      · exact hS.2.2 q h
      · exact hL q h⟩ T' rfl X'
  exact ⟨t2, st t2 a1, b1⟩
end ZG
