/-! rows of rows, and what constructors make, as lists -/
theorem zw_outer (c : ClassId) (N h0 i : Nat) : Jvm.Free.Multi.outerC c N h0 i = arrV c N (fun j => va_rf (if j < i then some (h0 + 1 + j) else none)) := by
  induction i with
  | zero =>
    refine (arrV_new c N .null).trans (congrArg (arrV c N) (funext fun j => ?_))
    rw [if_neg (by omega)]
    rfl
  | succ i ih =>
    show (Jvm.Free.Multi.outerC c N h0 i).setSlot i (.ref (h0 + 1 + i)) = _
    rw [ih, arrV_store]
    refine congrArg (arrV c N) (funext fun j => ?_)
    unfold updV
    by_cases e : j = i
    · subst e
      rw [if_pos rfl, if_pos (by omega)]
      rfl
    · rw [if_neg e]
      show va_rf (if j < i then some (h0 + 1 + j) else none) = va_rf (if j < i + 1 then some (h0 + 1 + j) else none)
      by_cases h : j < i
      · rw [if_pos h, if_pos (by omega)]
      · rw [if_neg h, if_neg (by omega)]
def zw_mna (S : zw_S) (nn mm : Nat) : zw_S := (S.1 ++ ((5, nn) :: List.replicate nn (1, mm)), S.2.1, S.2.2.1, zw_row S.2.2.2 S.1.length (fun j => if j < nn then some (S.1.length + 1 + j) else none))
def zw_ad2 (ad : Nat → Nat) (N nn h0 : Nat) : Nat → Nat := fun i => if N ≤ i ∧ i < N + 1 + nn then h0 + (i - N) else ad i
section ZN
variable {l : Launch} {D : va_G} {tc : Nat → ClassId} {A : Nat → Prop} {y : zw_M} {d mc ms k n k' n' pc q N : Nat} {L : List (Option Value)} {st : List Value} {S S' : zw_S} {Q : Option Value → zw_S → Prop}
theorem zx_mna {idx nn mm : Nat} {w v : Int32} (hd : decode y.2.1 pc = .ok (.multianewarray idx 2, 4)) (hcl : Cond.classLink y.1.cls idx "[[I" ∈ zw_Tb) (hw : ¬ w < 0) (hv : ¬ v < 0) (hN : w.toNatClampNeg = nn) (hM : v.toNatClampNeg = mm) (hb : nn ≤ 1000) (hb2 : mm ≤ 1000) (hcn : zw_cln S) (hl : S.1.length = N) (hlt : N + 1 + nn ≤ 100000) (hk : k + (1 + nn) ≤ mc) (hks : n + (nn + nn * mm) ≤ ms) (hlw : zw_wl N L = true) (hst : st.all (zw_wv N) = true) (hq : pc + 4 = q)
    (kk : zW l D tc A y d mc ms (k + 1 + nn) (n + nn + nn * mm) q L (.ref N :: st) (zw_mna S nn mm) Q) : zW l D tc A y d mc ms k n pc L (.int v :: .int w :: st) S Q := by
  subst hq
  subst hl
  subst hN
  subst hM
  intro p e s m args below meth c ad ad0 n0 H locs ls C hP hD hS hL hn ha hm
  intro T hT Xs
  obtain ⟨vm₁, cA, comp, -, fA, fC, -, -, X', step⟩ := Xs.multianewarray2F (ty := .int) C.1 C.2.2.2.2.1 (C.2.2.2.2.2.1 _ hcl) C.2.2.2.2.2.2.2.1.2.2.2.2.2.2.2.2.2 (C.2.2.2.2.2.1 _ zw_arcI) (g := F0 m pc ls (.int v :: .int w :: st.map (zw_v ad))) rfl (by rw [C.2.1]; exact hd) rfl hw hv (by omega) (by show _ * 4 ≤ _; omega) (by omega) rfl rfl hk hks
  have k5 : cA = tc 5 := Option.some.inj (fA.symm.trans (show s.vm.findClass _ = some (tc 5) from (C.2.2.2.2.2.2.1.2 5 _ (zw_tys_at tc (by decide))).2))
  have k1 : comp = tc 1 := Option.some.inj (fC.symm.trans (show s.vm.findClass _ = some (tc 1) from (C.2.2.2.2.2.2.1.2 1 _ (zw_tys_at tc (by decide))).2))
  subst k5
  subst k1
  have hTh : (T.setVm vm₁).heap = H := hT
  generalize hF : Jvm.Free.Multi.fill (T.setVm vm₁) (tc 5) (tc 1) w.toNatClampNeg v.toNatClampNeg (defaultValue .int) w.toNatClampNeg = F at X' step
  have ff := Jvm.Free.Multi.fill_facts (T.setVm vm₁) (tc 5) (tc 1) w.toNatClampNeg v.toNatClampNeg (defaultValue .int) w.toNatClampNeg
  have fo := fun (x : Nat) (hx : x < H.size) => Jvm.Free.Multi.fill_old (T.setVm vm₁) (tc 5) (tc 1) w.toNatClampNeg v.toNatClampNeg (defaultValue .int) (a := x) (by rw [hTh]; exact hx) w.toNatClampNeg
  have fi := fun (j : Nat) (hj : j < w.toNatClampNeg) => Jvm.Free.Multi.fill_inner (T.setVm vm₁) (tc 5) (tc 1) w.toNatClampNeg v.toNatClampNeg (defaultValue .int) w.toNatClampNeg j hj
  rw [hF, hTh] at ff
  simp only [hF, hTh] at fo fi
  obtain ⟨f1, f2, -, -⟩ := ff
  generalize w.toNatClampNeg = nn at *
  generalize v.toNatClampNeg = mm at *
  obtain hz := hcn S.1.length (Nat.le_refl _)
  have had : ∀ k, k < S.1.length ∨ 100000 ≤ k → zw_ad2 ad S.1.length nn H.size k = ad k := by
    intro k hk
    unfold zw_ad2
    rw [if_neg (by omega)]
  have hat : ∀ i, i < 1 + nn → zw_ad2 ad S.1.length nn H.size (i + S.1.length) = H.size + i := by
    intro i hi
    unfold zw_ad2
    rw [if_pos (by omega)]
    omega
  have hX : ∀ (i : Nat) (x : Nat × va_E), (((5, nn) :: List.replicate nn (1, mm) : List (Nat × Nat)).mapIdx (fun i q => (zw_ad2 ad S.1.length nn H.size (i + S.1.length), zw_ac tc (zw_ad2 ad S.1.length nn H.size) (zw_mna S nn mm) (i + S.1.length) q)))[i]? = some x → i < 1 + nn ∧ x.1 = H.size + i ∧ va_at D zw_cl x F.heap := by
    intro i x hx
    rw [List.getElem?_mapIdx] at hx
    cases i with
    | zero =>
      cases hx
      refine ⟨by omega, hat 0 (by omega), ?_⟩
      have e0 : zw_ac tc (zw_ad2 ad S.1.length nn H.size) (zw_mna S nn mm) (0 + S.1.length) (5, nn) = .inl (tc 5, nn, .inr (.inr (.inr (.inr (fun j => if j < nn then some (H.size + 1 + j) else none))))) := by
        show (Sum.inl (tc 5, nn, .inr (.inr (.inr (.inr (fun j => (zw_row S.2.2.2 S.1.length (fun j => if j < nn then some (S.1.length + 1 + j) else none) (0 + S.1.length) j).map _))))) : va_E) = _
        rw [Nat.zero_add, zw_row_at]
        congr 7
        funext j
        by_cases hj : j < nn
        · rw [if_pos hj, if_pos hj]
          have := hat (1 + j) (by omega)
          rw [show 1 + j + S.1.length = S.1.length + 1 + j by omega] at this
          show some (zw_ad2 ad S.1.length nn H.size _) = _
          rw [this, Nat.add_assoc]
        · rw [if_neg hj, if_neg hj]
          rfl
      show va_at D zw_cl (zw_ad2 ad S.1.length nn H.size (0 + S.1.length), zw_ac tc (zw_ad2 ad S.1.length nn H.size) (zw_mna S nn mm) (0 + S.1.length) (5, nn)) F.heap
      rw [e0, hat 0 (by omega)]
      show F.heap[H.size]? = some (vp_cell (tc 5) _)
      rw [vp_cell_q, f2, zw_outer]
    | succ i =>
      have hi : i < nn := by
        rcases Nat.lt_or_ge i nn with h | h
        · exact h
        · rw [List.getElem?_cons_succ, List.getElem?_eq_none (by rw [List.length_replicate]; exact h)] at hx
          cases hx
      rw [List.getElem?_cons_succ, List.getElem?_replicate, if_pos hi] at hx
      cases hx
      refine ⟨by omega, hat (i + 1) (by omega), ?_⟩
      show va_at D zw_cl (zw_ad2 ad S.1.length nn H.size (i + 1 + S.1.length), Sum.inl (tc 1, mm, .inl (S.2.1 (i + 1 + S.1.length)))) F.heap
      rw [hat (i + 1) (by omega)]
      show F.heap[H.size + (i + 1)]? = some (vp_cell (tc 1) (mm, .inl (S.2.1 (i + 1 + S.1.length))))
      have h2 := fi i hi
      rw [show H.size + (i + 1) = H.size + 1 + i by omega, h2, vp_cell_i]
      refine congrArg some ((arrV_new (tc 1) mm (defaultValue .int)).trans (congrArg (arrV (tc 1) mm) (funext fun j => ?_)))
      rw [(hcn (i + 1 + S.1.length) (by omega)).1 j]
      rfl
  have hg := zw_make (e := e) (below := below) (ad' := zw_ad2 ad S.1.length nn H.size) (v := .ref S.1.length) (H1 := F.heap) (locs := locs) C hL hn ha (S' := zw_mna S nn mm) (X := (5, nn) :: List.replicate nn (1, mm)) rfl (fun k hk => ⟨rfl, rfl, zw_row_off _ _ (by omega)⟩) had
    (by
      intro k j r hr
      show r < (S.1 ++ ((5, nn) :: List.replicate nn (1, mm))).length ∨ _
      rw [List.length_append, List.length_cons, List.length_replicate]
      have hr' : zw_row S.2.2.2 S.1.length (fun j => if j < nn then some (S.1.length + 1 + j) else none) k j = some r := hr
      by_cases hk : k = S.1.length
      · subst hk
        rw [zw_row_at] at hr'
        by_cases hj : j < nn
        · rw [if_pos hj] at hr'
          cases hr'
          omega
        · rw [if_neg hj] at hr'
          cases hr'
      · rw [zw_row_off _ _ hk] at hr'
        have := hn.2 k j r hr'
        omega)
    (by omega) hlw hst kk
    ((hP.kept (fun k x hx => fo x.1 (hP k x hx).lt)).app (fun i x hx => (hX i x hx).2.2))
    (hD.app ⟨fun i j x1 x2 h1 h2 he => by
      have a1 := (hX i x1 h1).2.1
      have a2 := (hX j x2 h2).2.1
      omega, fun i x hx => by
      rw [(hX i x hx).2.1]
      exact C.2.2.2.2.2.2.2.2.2.2 _ (Nat.le_trans hS.1 (Nat.le_add_right _ _))⟩ (fun i j x1 x2 h1 h2 he => by
      have a1 := (hP i x1 h1).lt
      have a2 := (hX j x2 h2).2.1
      omega))
    ⟨Nat.le_trans hS.1 (by rw [f1]; omega), fun x h1 h2 => (fo x (Nat.lt_of_lt_of_le h1 hS.1)).trans (hS.2.1 x h1 h2), hS.2.2⟩
  have e2 : zw_v (zw_ad2 ad S.1.length nn H.size) (.ref S.1.length) = .ref T.heap.size := by
    show Value.ref (zw_ad2 ad S.1.length nn H.size S.1.length) = _
    have := hat 0 (by omega)
    rw [Nat.zero_add] at this
    rw [this, hT]
    rfl
  rw [e2] at hg
  obtain ⟨t, a1, b1⟩ := hg F rfl X'
  exact ⟨t, step t a1, b1⟩
end ZN
def zR (R : List ((Nat × Nat) × Nat)) : Nat → Nat → Option Nat := fun k j => R.lookup (k, j)
def zT (I : List ((Nat × Nat) × Int32)) : Nat → Nat → Int32 := fun k j => (I.lookup (k, j)).getD 0
def zm (sh X : List (Nat × Nat)) (I : List ((Nat × Nat) × Int32)) (R : List ((Nat × Nat) × Nat)) : zw_S := (sh ++ X, zT I, fun _ _ => 0, zR R)
/-- what is written lies in the first M cells -/
def zk (M : Nat) (I : List ((Nat × Nat) × Int32)) (R : List ((Nat × Nat) × Nat)) : Prop := (∀ x ∈ I, x.1.1 < M) ∧ ∀ x ∈ R, x.1.1 < M
theorem z_lookup_none {α : Type} : ∀ {R : List ((Nat × Nat) × α)} {k j : Nat}, (∀ x ∈ R, x.1.1 < k) → R.lookup (k, j) = none := by
  intro R k j
  induction R with
  | nil => intro _; rfl
  | cons x R ih =>
    intro h
    rw [List.lookup_cons]
    have h1 := h x List.mem_cons_self
    have hne : ((k, j) == x.1) = false := by
      rw [beq_eq_false_iff_ne]
      intro e
      rw [← e] at h1
      exact Nat.lt_irrefl _ h1
    rw [hne]
    exact ih (fun y hy => h y (List.mem_cons_of_mem _ hy))
theorem zk.mono {M M' : Nat} {I : List ((Nat × Nat) × Int32)} {R : List ((Nat × Nat) × Nat)} (h : zk M I R) (hM : M ≤ M') : zk M' I R := ⟨fun x hx => Nat.lt_of_lt_of_le (h.1 x hx) hM, fun x hx => Nat.lt_of_lt_of_le (h.2 x hx) hM⟩
theorem zk.consI {M k j : Nat} {v : Int32} {I : List ((Nat × Nat) × Int32)} {R : List ((Nat × Nat) × Nat)} (h : zk M I R) (hk : k < M) : zk M (((k, j), v) :: I) R := ⟨List.forall_mem_cons.mpr ⟨hk, h.1⟩, h.2⟩
theorem zk.consR {M k j v : Nat} {I : List ((Nat × Nat) × Int32)} {R : List ((Nat × Nat) × Nat)} (h : zk M I R) (hk : k < M) : zk M I (((k, j), v) :: R) := ⟨h.1, List.forall_mem_cons.mpr ⟨hk, h.2⟩⟩
theorem zm_cln {sh X : List (Nat × Nat)} {I : List ((Nat × Nat) × Int32)} {R : List ((Nat × Nat) × Nat)} {M : Nat} (h : zk M I R) (hl : (sh ++ X).length = M) : zw_cln (zm sh X I R) := by
  intro k hk
  have hk' : M ≤ k := by rw [← hl]; exact hk
  refine ⟨fun j => ?_, fun j => rfl, fun j => z_lookup_none (fun x hx => Nat.lt_of_lt_of_le (h.2 x hx) hk')⟩
  show (I.lookup (k, j)).getD 0 = 0
  rw [z_lookup_none (fun x hx => Nat.lt_of_lt_of_le (h.1 x hx) hk')]
  rfl
theorem zT_u (I : List ((Nat × Nat) × Int32)) (k j : Nat) (v : Int32) : zw_u (zT I) k j v = zT (((k, j), v) :: I) := by
  funext a b
  unfold zw_u zT
  rw [List.lookup_cons]
  by_cases h : a = k ∧ b = j
  · rw [if_pos h, h.1, h.2, beq_self_eq_true]
    rfl
  · rw [if_neg h]
    have hne : ((a, b) == (k, j)) = false := by
      rw [beq_eq_false_iff_ne]
      intro e
      cases e
      exact h ⟨rfl, rfl⟩
    rw [hne]
theorem zR_u (R : List ((Nat × Nat) × Nat)) (k j v : Nat) : zw_u (zR R) k j (some v) = zR (((k, j), v) :: R) := by
  funext a b
  unfold zw_u zR
  rw [List.lookup_cons]
  by_cases h : a = k ∧ b = j
  · rw [if_pos h, h.1, h.2, beq_self_eq_true]
  · rw [if_neg h]
    have hne : ((a, b) == (k, j)) = false := by
      rw [beq_eq_false_iff_ne]
      intro e
      cases e
      exact h ⟨rfl, rfl⟩
    rw [hne]
theorem zR_row {R : List ((Nat × Nat) × Nat)} {M : Nat} (hR : ∀ j, zR R M j = none) : ∀ nn : Nat, zw_row (zR R) M (fun j => if j < nn then some (M + 1 + j) else none) = zR (((List.range nn).map (fun j => ((M, j), M + 1 + j))).reverse ++ R) := by
  intro nn
  induction nn with
  | zero =>
    funext a b
    by_cases h : a = M
    · subst h
      rw [zw_row_at]
      exact (hR b).symm
    · rw [zw_row_off _ _ h]
      rfl
  | succ nn ih =>
    rw [List.range_succ, List.map_append, List.reverse_append]
    show _ = zR (((M, nn), M + 1 + nn) :: (((List.range nn).map (fun j => ((M, j), M + 1 + j))).reverse ++ R))
    rw [← zR_u, ← ih]
    funext a b
    by_cases h : a = M
    · subst h
      rw [zw_row_at]
      by_cases hb : b = nn
      · subst hb
        rw [if_pos (Nat.lt_succ_self _)]
        unfold zw_u
        rw [if_pos ⟨rfl, rfl⟩]
      · have e0 : zw_u (zw_row (zR R) a (fun j => if j < nn then some (a + 1 + j) else none)) a nn (some (a + 1 + nn)) a b = zw_row (zR R) a (fun j => if j < nn then some (a + 1 + j) else none) a b := by
          unfold zw_u
          rw [if_neg (fun z : a = a ∧ b = nn => hb z.2)]
        rw [e0, zw_row_at]
        by_cases hl : b < nn
        · rw [if_pos hl, if_pos (by omega)]
        · rw [if_neg hl, if_neg (by omega)]
    · rw [zw_row_off _ _ h, zw_u_off _ _ _ h, zw_row_off _ _ h]
