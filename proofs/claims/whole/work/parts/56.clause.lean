/-! heights of piles -/
def z_ds (x : Int32) (h : Nat) : Option Nat := if x = -1 then (if 1 ≤ h then some h else none) else if x = -2 ∨ x = -3 then (if 2 ≤ h then some (h - 1) else none) else if 0 ≤ x ∧ x < 1800 ∧ h < 31 then some (h + 1) else none
def z_dr : List Int32 → Nat → Option Nat
  | [], h => some h
  | x :: r, h => (z_ds x h).bind (z_dr r)
theorem z_dr_app (a b : List Int32) : ∀ h, z_dr (a ++ b) h = (z_dr a h).bind (z_dr b) := by
  induction a with
  | nil => intro h; rfl
  | cons x r ih =>
    intro h
    rw [List.cons_append, z_dr, z_dr]
    cases z_ds x h with
    | none => rfl
    | some k => exact ih k
theorem z_dep_S (g : Nat → Int32) (n : Nat) : z_dep g (n + 1) = (z_dep g n).bind (z_ds (g n)) := by
  rw [z_dep]
  cases z_dep g n <;> rfl
theorem z_dep_dr (g : Nat → Int32) : ∀ (cs : List Int32) (n : Nat), (∀ i, i < cs.length → g (n + i) = cs.getD i 0) → z_dep g (n + cs.length) = (z_dep g n).bind (z_dr cs) := by
  intro cs
  induction cs with
  | nil =>
    intro n _
    rw [List.length_nil, Nat.add_zero]
    cases z_dep g n <;> rfl
  | cons x r ih =>
    intro n h
    have h0 : g n = x := h 0 (by simp)
    rw [List.length_cons, show n + (r.length + 1) = (n + 1) + r.length by omega, ih (n + 1) (fun i hi => by
      have := h (i + 1) (by simp only [List.length_cons]; omega)
      rw [show n + 1 + i = n + (i + 1) by omega, this]
      rfl), z_dep_S, h0]
    cases z_dep g n <;> rfl
theorem z_dep_0 {g : Nat → Int32} {cs : List Int32} (h : ∀ i, i < cs.length → g i = cs.getD i 0) : z_dep g cs.length = z_dr cs 0 := by
  have := z_dep_dr g cs 0 (fun i hi => by rw [Nat.zero_add]; exact h i hi)
  rw [Nat.zero_add] at this
  rw [this]
  rfl
def z_dpP : Nat → Nat → Nat → Nat → Option (List Int32) → Prop := fun m d _ _ r => ∀ cs, r = some cs → d ≤ 4 → match m with
  | 0 => ∀ h, h + 2 * (4 - d) < 31 → z_dr cs h = some (h + 1)
  | 1 => ∀ h, h + 2 + 2 * (4 - d) < 31 → z_dr cs h = some (h + 1)
  | 2 => ∀ h, 1 ≤ h → h + 2 * (4 - d) < 31 → z_dr cs h = some h
  | _ => ∀ h, 1 ≤ h → h + 1 + 2 * (4 - d) < 31 → z_dr cs h = some h
theorem z_ts_t {tx : Nat → Nat} {len p q t : Nat} (e : z_ts tx len p = (q, some t)) : t < 1800 := by
  have h1 : p < len := by
    cases h1 : z_oo tx len 6 p with
    | none => unfold z_ts at e; rw [h1] at e; simp at e
    | some a => exact z_oo_p h1
  exact ((z_ts_ok (by omega) e).2.2 t rfl).2
theorem z_nIn {t : Nat} {x : Int32} (ht : t < 2 ^ 31) (hx : x.toInt < 0) : ¬ nI t = x := by
  intro y
  have h1 := nI_toInt ht
  rw [y] at h1
  omega
theorem z_ds_t {t h : Nat} (ht : t < 1800) (hh : h < 31) : z_ds (nI t) h = some (h + 1) := by
  have h2 : (-2 : Int32).toInt < 0 := by decide
  have h3 : (-3 : Int32).toInt < 0 := by decide
  have c1 : ¬ nI t = -1 := z_nm1 (by omega)
  have c2 : ¬ (nI t = -2 ∨ nI t = -3) := fun z => z.elim (z_nIn (by omega) h2) (z_nIn (by omega) h3)
  have c3 : nI t < 1800 := nI_lt (b := 1800) ht (by decide)
  unfold z_ds
  rw [if_neg c1, if_neg c2, if_pos ⟨nI_pos' (by omega), c3, hh⟩]
theorem z_ds_1 {h : Nat} (hh : 1 ≤ h) : z_ds (-1) h = some h := by
  unfold z_ds
  rw [if_pos rfl, if_pos hh]
theorem z_ds_2 {h : Nat} (hh : 1 ≤ h) : z_ds (-2) (h + 1) = some h := by
  unfold z_ds
  rw [if_neg (by decide), if_pos (Or.inl rfl), if_pos (by omega)]
  rfl
theorem z_ds_3 {h : Nat} (hh : 1 ≤ h) : z_ds (-3) (h + 1) = some h := by
  unfold z_ds
  rw [if_neg (by decide), if_pos (Or.inr rfl), if_pos (by omega)]
  rfl
theorem z_dpR (tx : Nat → Nat) (len : Nat) : z_ru tx len z_dpP := by
  refine ⟨?_, ?_, ?_, ?_, ?_, ?_, ?_, ?_, ?_, ?_, ?_, ?_, ?_, ?_, ?_, ?_, ?_, ?_, ?_, ?_⟩
  · intro d p q h0 h1 h2 cs hcs
    cases hcs
  · intro d p q c h0 h1 ih cs hcs hd h hh
    simp only [Option.some.injEq] at hcs
    rw [← hcs, z_dr_app, ih c rfl (by omega) h (by omega)]
    show (z_ds (-1) (h + 1)).bind _ = _
    rw [z_ds_1 (by omega)]
    rfl
  · intro d p q h0 h1 h2 cs hcs
    cases hcs
  · intro d p q c h0 h1 h2 h3 cs hcs
    cases hcs
  · intro d p q c h0 h1 ih h3 cs hcs hd h hh
    simp only [Option.some.injEq] at hcs
    rw [← hcs]
    exact ih c rfl (by omega) h (by omega)
  · intro d p q h0 h1 cs hcs
    cases hcs
  · intro d p q t h0 h1 cs hcs hd h hh
    simp only [Option.some.injEq] at hcs
    rw [← hcs]
    show (z_ds (nI t) h).bind _ = _
    rw [z_ds_t (z_ts_t h1) (by omega)]
    rfl
  · intro d p q h0 cs hcs
    cases hcs
  · intro d p q q2 c h0 h1 cs hcs
    cases hcs
  · intro d p q q2 q3 c c2 h0 h1 h2 cs hcs
    cases hcs
  · intro d p q q2 q3 c c2 c3 i0 i1 i2 cs hcs hd h hh
    simp only [Option.some.injEq] at hcs
    rw [← hcs, z_dr_app, i0 c rfl hd h (by omega)]
    show z_dr (c2 ++ c3) (h + 1) = _
    rw [z_dr_app, i1 c2 rfl hd (h + 1) (by omega) (by omega)]
    exact i2 c3 rfl hd (h + 1) (by omega) (by omega)
  · intro d p h0 cs hcs hd h h1 hh
    simp only [Option.some.injEq] at hcs
    rw [← hcs]
    rfl
  · intro d p q h0 h1 cs hcs
    cases hcs
  · intro d p q q2 c h0 h1 h2 cs hcs
    cases hcs
  · intro d p q q2 c c2 h0 i0 i1 cs hcs hd h h1 hh
    simp only [Option.some.injEq] at hcs
    rw [← hcs, z_dr_app, i0 c rfl hd h (by omega)]
    show (z_ds (-2) (h + 1)).bind _ = _
    rw [z_ds_2 h1]
    exact i1 c2 rfl hd h h1 hh
  · intro d p h0 cs hcs hd h h1 hh
    simp only [Option.some.injEq] at hcs
    rw [← hcs]
    rfl
  · intro d p q h0 h1 cs hcs
    cases hcs
  · intro d p q q2 c h0 h1 h2 cs hcs
    cases hcs
  · intro d p q q2 q3 c c2 h0 h1 h2 h3 cs hcs
    cases hcs
  · intro d p q q2 q3 c c2 c3 h0 i0 i1 i2 cs hcs hd h h1 hh
    simp only [Option.some.injEq] at hcs
    rw [← hcs, z_dr_app, i0 c rfl hd h (by omega)]
    show z_dr (c2 ++ (-3 :: c3)) (h + 1) = _
    rw [z_dr_app, i1 c2 rfl hd (h + 1) (by omega) (by omega)]
    show (z_ds (-3) (h + 1)).bind _ = _
    rw [z_ds_3 h1]
    exact i2 c3 rfl hd h h1 hh
theorem zD_dep {tx : Nat → Nat} {len p q : Nat} {cs : List Int32} (h : zDer tx len 1 0 p q (some cs)) : z_dr cs 0 = some 1 := h _ (z_dpR tx len) cs rfl (by omega) 0 (by omega)
/-! clauses -/
/-- the word that is begun -/
def z_wd (tx : Nat → Nat) (len p : Nat) : Nat := if z_at tx len p 111 = true then 0 else if z_at tx len p 115 = true then 1 else 2
def zClX (tx : Nat → Nat) (len p q : Nat) : Prop :=
  z_nd tx len (z_wd tx len p) (p, false) = (q, true) ∨ (∃ p1, z_nd tx len (z_wd tx len p) (p, false) = (p1, false) ∧ z_nm tx len p1 = (q, none)) ∨
  ∃ p1 n, z_nd tx len (z_wd tx len p) (p, false) = (p1, false) ∧ ¬ z_wd tx len p = 2 ∧ ((z_nm tx len p1 = (q, some n) ∧ ¬ z_at tx len q 32 = true) ∨ ∃ p2, z_nm tx len p1 = (p2, some n) ∧ z_at tx len p2 32 = true ∧ zDer tx len 1 0 (p2 + 1) q none)
def zClS (tx : Nat → Nat) (len p q n : Nat) (cs : List Int32) : Prop :=
  ∃ p1 p2, z_nd tx len (z_wd tx len p) (p, false) = (p1, false) ∧ z_nm tx len p1 = (p2, some n) ∧ ((z_wd tx len p = 2 ∧ q = p2 ∧ cs = []) ∨ (¬ z_wd tx len p = 2 ∧ z_at tx len p2 32 = true ∧ zDer tx len 1 0 (p2 + 1) q (some cs)))
abbrev z_L : Type := List (Nat × (Nat × List Int32))
theorem z_wd_le (tx : Nat → Nat) (len p : Nat) : z_wd tx len p ≤ 2 := by unfold z_wd; (repeat' split) <;> omega
theorem z_ndp_le {tx : Nat → Nat} {len i : Nat} : ∀ (n k : Nat) (s : Nat × Bool), s.1 ≤ len → s.1 ≤ (z_ndp tx len i n k s).1 ∧ (z_ndp tx len i n k s).1 ≤ len := by
  intro n
  induction n with
  | zero => intro k s h; exact ⟨Nat.le_refl _, h⟩
  | succ n ih =>
    intro k s h
    rw [z_ndp]
    by_cases c : (!s.2 && z_at tx len s.1 (z_ch i k).toNatClampNeg) = true
    · rw [if_pos c]
      have h2 : s.1 < len := by
        simp only [Bool.and_eq_true] at c
        exact z_at_p c.2
      have := ih (k + 1) (s.1 + 1, s.2) h2
      exact ⟨by have := this.1; simp only at this; omega, this.2⟩
    · rw [if_neg c]
      exact ih (k + 1) (s.1, true) h
theorem z_nd_le {tx : Nat → Nat} {len i p p1 : Nat} {fl fl1 : Bool} (h : z_nd tx len i (p, fl) = (p1, fl1)) (hp : p ≤ len) : p ≤ p1 ∧ p1 ≤ len := by
  have := z_ndp_le (tx := tx) (len := len) (i := i) (zw_tl.getD i 0) 0 (p, fl) hp
  unfold z_nd at h
  rw [h] at this
  exact this
theorem z_ndp_t {tx : Nat → Nat} {len i : Nat} : ∀ (n k p : Nat), z_ndp tx len i n k (p, true) = (p, true) := by
  intro n
  induction n with
  | zero => intro k p; rfl
  | succ n ih => intro k p; rw [z_ndp, if_neg (by simp)]; exact ih (k + 1) p
theorem z_nd_t {tx : Nat → Nat} {len i p : Nat} : z_nd tx len i (p, true) = (p, true) := z_ndp_t _ _ _
theorem z_nd4 (tx : Nat → Nat) (len p : Nat) (fl : Bool) : z_nd tx len 4 (p, fl) = if (!fl && z_at tx len p 32) = true then (p + 1, fl) else (p, true) := by
  show z_ndp tx len 4 1 0 (p, fl) = _
  rw [z_ndp, z_ndp, show (z_ch 4 0).toNatClampNeg = 32 by decide]
theorem zClS_ok {tx : Nat → Nat} {len p q n : Nat} {cs : List Int32} (h : zClS tx len p q n cs) (hp : p ≤ len) : p + cs.length ≤ q ∧ q ≤ len ∧ n ≤ 99 ∧ (¬ z_wd tx len p = 2 → z_dr cs 0 = some 1) ∧ (z_wd tx len p = 2 → cs = []) := by
  obtain ⟨p1, p2, h1, h2, h3⟩ := h
  have a1 := z_nd_le h1 hp
  have a2 := z_nm_ok a1.2 h2
  have a3 := a2.2.2.2 n rfl
  rcases h3 with ⟨b1, b2, b3⟩ | ⟨b1, b2, b3⟩
  · subst b2; subst b3
    exact ⟨by simp only [List.length_nil]; omega, by omega, by omega, fun z => absurd b1 z, fun _ => rfl⟩
  · have a4 := z_at_p b2
    have a5 := zD_len b3 (by omega)
    have a6 := a5.2.2 cs rfl
    exact ⟨by omega, by omega, by omega, fun _ => zD_dep b3, fun z => absurd z b1⟩
/-- frames of what reads clauses -/
def zFrK (g g2 : Nat → Nat → Int32) (q : Nat) : Prop := ∀ k j, ¬ (k = 39 ∧ (j = 2 ∨ j = 3)) → ¬ (66 + 5 * q ≤ k ∧ k ≤ 70 + 5 * q) → g2 k j = g k j
theorem zFrK_C {g g2 : Nat → Nat → Int32} {q : Nat} (h : zFrC g g2 q) : zFrK g g2 q := fun k j a b => h k j a (by omega) (by omega)
theorem zFrK_tr {g g1 g2 : Nat → Nat → Int32} {q : Nat} (h1 : zFrK g g1 q) (h2 : zFrK g1 g2 q) : zFrK g g2 q := fun k j a b => (h2 k j a b).trans (h1 k j a b)
section P56
variable {l : Launch} {D : va_G} {tc : Nat → ClassId} {A : Nat → Prop} {S : zw_S} {gi : Nat → Nat → Int32} {gl : Nat → Nat → Int64} {f : Option Nat}
theorem t_clear (d q : Nat) (hq : q < 6) {g : Nat → Nat → Int32} : zCall l D tc A mX1_clear d 0 0 [.ref (66 + 5 * q)] (zs g gl f) (zQv fun S' => S' = zs (zw_u (zw_u g (66 + 5 * q) 0 0) (66 + 5 * q) 1 0) gl f) := by
  show zW l D tc A mX1_clear d 0 0 0 0 0 [some (.ref (66 + 5 * q))] [] (zs g gl f) _
  refine zx_aload_n (q := 1) dX1_clear_0 rfl rfl rfl ?_
  refine zx_iconst (q := 2) (v := 0) dX1_clear_1 (by decide) rfl ?_
  refine zy_putI (q := 5) dX1_clear_2 fl_RX1_24 rfl rfl ⟨rfl, rfl⟩ (zr_F (f := none) hq).1 rfl ?_
  refine zx_aload_n (q := 6) dX1_clear_5 rfl rfl rfl ?_
  refine zx_iconst (q := 7) (v := 0) dX1_clear_6 (by decide) rfl ?_
  refine zy_putI (q := 10) dX1_clear_7 fl_RX1_28 rfl rfl ⟨rfl, rfl⟩ (zr_F (f := none) hq).1 rfl ?_
  refine zx_vret dX1_clear_10 rfl (Nat.le_refl _) (Nat.le_refl _) ⟨rfl, ?_⟩
  rfl
theorem t_addC (d q nc : Nat) (hq : q < 6) {g : Nat → Nat → Int32} (x y cl : Int32) (hn : g (66 + 5 * q) 0 = nI nc) (hnc : nc < 10) (hcl : g (66 + 5 * q) 1 = cl) : zCall l D tc A mX1_addClause d 0 0 [.ref (66 + 5 * q), .int x, .int y] (zs g gl f) (zQv fun S' => S' = zs (zw_u (zw_u (zw_u (zw_u g (67 + 5 * q) nc x) (68 + 5 * q) nc y) (69 + 5 * q) nc cl) (66 + 5 * q) 0 (nI (nc + 1))) gl f) := by
  show zW l D tc A mX1_addClause d 0 0 0 0 0 [some (.ref (66 + 5 * q)), some (.int x), some (.int y)] [] (zs g gl f) _
  refine zx_aload_n (q := 1) dX1_addClause_0 rfl rfl rfl ?_
  refine zy_getIe (q := 4) (v := nI nc) dX1_addClause_1 fl_RX1_24 rfl (zr_F (f := none) hq).1 (hn) rfl ?_
  refine zx_bipush (q := 6) (v := 10) dX1_addClause_4 (by decide) rfl ?_
  refine zx_icmp_ge_f (t := 52) (q := 9) dX1_addClause_6 (by decide) rfl (nI_ge (a := nc) (b := 10) hnc (by decide)) ?_
  refine zx_aload_n (q := 10) dX1_addClause_9 rfl rfl rfl ?_
  refine zy_getR (q := 13) dX1_addClause_10 fl_RX1_9 rfl (zr_F (f := none) hq).1 (zr_F hq).2.1.1 rfl ?_
  refine zx_aload_n (q := 14) dX1_addClause_13 rfl rfl rfl ?_
  refine zy_getIe (q := 17) (v := nI nc) dX1_addClause_14 fl_RX1_24 rfl (zr_F (f := none) hq).1 (hn) rfl ?_
  refine zx_iload_n (q := 18) dX1_addClause_17 rfl rfl rfl ?_
  refine zy_iastN (q := 19) dX1_addClause_18 (zr_F (f := none) hq).2.1.2 (by omega) (by first | decide | omega) rfl ?_
  refine zx_aload_n (q := 20) dX1_addClause_19 rfl rfl rfl ?_
  refine zy_getR (q := 23) dX1_addClause_20 fl_RX1_15 rfl (zr_F (f := none) hq).1 (zr_F hq).2.2.1.1 rfl ?_
  refine zx_aload_n (q := 24) dX1_addClause_23 rfl rfl rfl ?_
  refine zy_getIe (q := 27) (v := nI nc) dX1_addClause_24 fl_RX1_24 rfl (zr_F (f := none) hq).1 (by rw [z_u_ne _ _ (by omega)]; exact hn) rfl ?_
  refine zx_iload_n (q := 28) dX1_addClause_27 rfl rfl rfl ?_
  refine zy_iastN (q := 29) dX1_addClause_28 (zr_F (f := none) hq).2.2.1.2 (by omega) (by first | decide | omega) rfl ?_
  refine zx_aload_n (q := 30) dX1_addClause_29 rfl rfl rfl ?_
  refine zy_getR (q := 33) dX1_addClause_30 fl_RX1_18 rfl (zr_F (f := none) hq).1 (zr_F hq).2.2.2.1.1 rfl ?_
  refine zx_aload_n (q := 34) dX1_addClause_33 rfl rfl rfl ?_
  refine zy_getIe (q := 37) (v := nI nc) dX1_addClause_34 fl_RX1_24 rfl (zr_F (f := none) hq).1 (by rw [z_u_ne _ _ (by omega), z_u_ne _ _ (by omega)]; exact hn) rfl ?_
  refine zx_aload_n (q := 38) dX1_addClause_37 rfl rfl rfl ?_
  refine zy_getIe (q := 41) (v := cl) dX1_addClause_38 fl_RX1_28 rfl (zr_F (f := none) hq).1 (by rw [z_u_ne _ _ (by omega), z_u_ne _ _ (by omega)]; exact hcl) rfl ?_
  refine zy_iastN (q := 42) dX1_addClause_41 (zr_F (f := none) hq).2.2.2.1.2 (by omega) (by first | decide | omega) rfl ?_
  refine zx_aload_n (q := 43) dX1_addClause_42 rfl rfl rfl ?_
  refine zx_dup (q := 44) dX1_addClause_43 rfl rfl ?_
  refine zy_getIe (q := 47) (v := nI nc) dX1_addClause_44 fl_RX1_24 rfl (zr_F (f := none) hq).1 (by rw [z_u_ne _ _ (by omega), z_u_ne _ _ (by omega), z_u_ne _ _ (by omega)]; exact hn) rfl ?_
  refine zx_iconst (q := 48) (v := 1) dX1_addClause_47 (by decide) rfl ?_
  refine zx_iadd (q := 49) dX1_addClause_48 rfl ?_
  rw [nI_1]
  refine zy_putI (q := 52) dX1_addClause_49 fl_RX1_24 rfl rfl ⟨rfl, rfl⟩ (zr_F (f := none) hq).1 rfl ?_
  refine zx_vret dX1_addClause_52 rfl (Nat.le_refl _) (Nat.le_refl _) ⟨rfl, ?_⟩
  rfl
theorem t_rc0 (d : Nat) {q : Nat} (hq : q < 6) {tx : Nat → Nat} {len p nc cl : Nat} {g : Nat → Nat → Int32} (K : zTK g tx len p false) (hn : g (66 + 5 * q) 0 = nI nc) (hnc : nc < 10) (hc : g (66 + 5 * q) 1 = nI cl) (hcl : cl ≤ p) (h111 : z_at tx len p 111 = true) : zCall l D tc A mX2_readClause (d + 30) 0 0 [.ref 39] (zs g gl (some (66 + 5 * q))) (zQv fun S' => ∃ g2, S' = zs g2 gl (some (66 + 5 * q)) ∧ zFrK g g2 q ∧ ((∃ q' n cs, zClS tx len p q' n cs ∧ zTK g2 tx len q' false ∧ zCd g g2 q cl cs ∧ g2 (67 + 5 * q) nc = nI (z_wd tx len p) ∧ g2 (68 + 5 * q) nc = nI n ∧ g2 (69 + 5 * q) nc = nI (cl + cs.length) ∧ g2 (66 + 5 * q) 0 = nI (nc + 1) ∧ ∀ k j, k = 67 + 5 * q ∨ k = 68 + 5 * q ∨ k = 69 + 5 * q → j < nc → g2 k j = g k j) ∨ ∃ q', zClX tx len p q' ∧ zTK g2 tx len q' true)) := by
  have hw : z_wd tx len p = 0 := by unfold z_wd; rw [if_pos h111]
  show zW l D tc A mX2_readClause (d + 30) 0 0 0 0 0 [some (.ref 39), none, none] [] (zs g gl (some (66 + 5 * q))) _
  refine zx_aload_n (q := 1) dX2_readClause_0 rfl rfl rfl ?_
  refine zx_bipush (q := 3) (v := 111) dX2_readClause_1 (by decide) rfl ?_
  refine zx_callV1i (q := 6) (y' := mX2_isAt) dX2_readClause_3 ml_RX2_42 ok_mX2_isAt rfl (by decide) rfl (Nat.le_of_ble_eq_true rfl) (Nat.le_of_ble_eq_true rfl) (Nat.le_refl _) (Nat.le_refl _) rfl (t_isAt _ 111 K (by omega)) ?_
  rintro _ _ ⟨rfl, rfl⟩
  refine zx_if_eq_f (t := 13) (q := 9) dX2_readClause_6 (by decide) rfl (zk_t (by simpa using h111)) ?_
  refine zx_iconst (q := 10) (v := 0) dX2_readClause_9 (by decide) rfl ?_
  refine zx_goto (t := 27) dX2_readClause_10 (by decide) ?_
  refine zx_istore1 (q := 28) dX2_readClause_27 rfl rfl ?_
  refine zx_aload_n (q := 29) dX2_readClause_28 rfl rfl rfl ?_
  refine zx_iload_n (q := 30) dX2_readClause_29 rfl rfl rfl ?_
  refine zx_if_ne_f (t := 38) (q := 33) dX2_readClause_30 (by decide) rfl (rfl) ?_
  refine zx_ldcS (i := 0) (q := 35) dX2_readClause_33 (by decide) rfl rfl ?_
  refine zx_goto (t := 50) dX2_readClause_35 (by decide) ?_
  refine zx_callV1v (q := 53) (y' := mX2_need) dX2_readClause_50 ml_RX2_51 ok_mX2_need rfl (by decide) rfl (Nat.le_of_ble_eq_true rfl) (Nat.le_of_ble_eq_true rfl) (Nat.le_refl _) (Nat.le_refl _) rfl (t_need _ 0 (by omega) K) ?_
  rintro _ ⟨g3, rfl, K3, e3⟩
  have hKl := zTK_len K
  cases hnd : z_nd tx len 0 (p, false) with
  | mk p1 f1 =>
    rw [hnd] at K3
    have hnl := z_nd_le hnd hKl.1
    have hnd : z_nd tx len (z_wd tx len p) (p, false) = (p1, f1) := by rw [hw]; exact hnd
    cases f1 with
    | true =>
      refine zx_aload_n (q := 54) dX2_readClause_53 rfl rfl rfl ?_
      refine zx_callV0i (q := 57) (y' := mX2_readNumber) dX2_readClause_54 ml_RX2_55 ok_mX2_readNumber rfl (by decide) rfl (Nat.le_of_ble_eq_true rfl) (Nat.le_of_ble_eq_true rfl) (Nat.le_refl _) (Nat.le_refl _) rfl (t_rnN _ K3 (Or.inl rfl)) ?_
      rintro _ _ ⟨g4, rfl, K4, e4⟩
      refine zx_istore2 (q := 58) dX2_readClause_57 rfl rfl ?_
      refine zx_iload_n (q := 59) dX2_readClause_58 rfl rfl rfl ?_
      refine zx_iconst (q := 60) (v := 2) dX2_readClause_59 (by decide) rfl ?_
      refine zx_icmp_eq_f (t := 74) (q := 63) dX2_readClause_60 (by decide) rfl (by decide) ?_
      refine zx_aload_n (q := 64) dX2_readClause_63 rfl rfl rfl ?_
      refine zx_ldcS (i := 4) (q := 66) dX2_readClause_64 (by decide) rfl rfl ?_
      refine zx_callV1v (q := 69) (y' := mX2_need) dX2_readClause_66 ml_RX2_51 ok_mX2_need rfl (by decide) rfl (Nat.le_of_ble_eq_true rfl) (Nat.le_of_ble_eq_true rfl) (Nat.le_refl _) (Nat.le_refl _) rfl (t_need _ 4 (by omega) K4) ?_
      rintro _ ⟨g5, rfl, K5, e5⟩
      rw [z_nd_t] at K5
      refine zx_aload_n (q := 70) dX2_readClause_69 rfl rfl rfl ?_
      refine zx_iconst (q := 71) (v := 0) dX2_readClause_70 (by decide) rfl ?_
      refine zx_callV1v (q := 74) (y' := mX2_readEither) dX2_readClause_71 ml_RX2_61 ok_mX2_readEither rfl (by decide) rfl (Nat.le_of_ble_eq_true rfl) (Nat.le_of_ble_eq_true rfl) (Nat.le_refl _) (Nat.le_refl _) rfl (t_reX _ q hq ⟨K5, cl, by omega, by rw [e5 _ _ (by omega), e4 _ _ (by omega), e3 _ _ (by omega)]; exact hc⟩ 0) ?_
      rintro _ ⟨g6, rfl, f6, hX6⟩
      refine zx_aload_n (q := 75) dX2_readClause_74 rfl rfl rfl ?_
      refine zy_getR (q := 78) dX2_readClause_75 fl_RX2_19 rfl rfl rfl rfl ?_
      refine zx_iload_n (q := 79) dX2_readClause_78 rfl rfl rfl ?_
      refine zx_iload_n (q := 80) dX2_readClause_79 rfl rfl rfl ?_
      refine zx_callV2v (q := 83) (y' := mX1_addClause) dX2_readClause_80 ml_RX2_65 ok_mX1_addClause (zr_F (f := none) hq).1 (by decide) rfl (Nat.le_of_ble_eq_true rfl) (Nat.le_of_ble_eq_true rfl) (Nat.le_refl _) (Nat.le_refl _) rfl (t_addC _ q nc hq _ _ _ (by rw [f6 _ _ (by omega) (by omega) (by omega), e5 _ _ (by omega), e4 _ _ (by omega), e3 _ _ (by omega)]; exact hn) hnc rfl) ?_
      rintro _ rfl
      refine zx_vret dX2_readClause_83 rfl (Nat.le_refl _) (Nat.le_refl _) ⟨rfl, ?_⟩
      exact ⟨_, rfl, fun k j a b => by rw [z_u_ne _ _ (by omega), z_u_ne _ _ (by omega), z_u_ne _ _ (by omega), z_u_ne _ _ (by omega)]; exact (by rw [f6 _ _ a (by omega) (by omega), e5 _ _ a, e4 _ _ a, e3 _ _ a]), Or.inr ⟨_, Or.inl hnd, zTK_fr hX6.1 (fun k j z => by rw [z_u_ne _ _ (by omega), z_u_ne _ _ (by omega), z_u_ne _ _ (by omega), z_u_ne _ _ (by omega)])⟩⟩
    | false =>
      cases hnm : z_nm tx len p1 with
      | mk p2 o2 =>
        have hml := z_nm_ok hnl.2 hnm
        cases o2 with
        | none =>
          have hp2 : p2 = p1 := (z_nm_no hnm).2
          subst hp2
          refine zx_aload_n (q := 54) dX2_readClause_53 rfl rfl rfl ?_
          refine zx_callV0i (q := 57) (y' := mX2_readNumber) dX2_readClause_54 ml_RX2_55 ok_mX2_readNumber rfl (by decide) rfl (Nat.le_of_ble_eq_true rfl) (Nat.le_of_ble_eq_true rfl) (Nat.le_refl _) (Nat.le_refl _) rfl (t_rnN _ K3 (Or.inr (z_nm_no hnm).1)) ?_
          rintro _ _ ⟨g4, rfl, K4, e4⟩
          refine zx_istore2 (q := 58) dX2_readClause_57 rfl rfl ?_
          refine zx_iload_n (q := 59) dX2_readClause_58 rfl rfl rfl ?_
          refine zx_iconst (q := 60) (v := 2) dX2_readClause_59 (by decide) rfl ?_
          refine zx_icmp_eq_f (t := 74) (q := 63) dX2_readClause_60 (by decide) rfl (by decide) ?_
          refine zx_aload_n (q := 64) dX2_readClause_63 rfl rfl rfl ?_
          refine zx_ldcS (i := 4) (q := 66) dX2_readClause_64 (by decide) rfl rfl ?_
          refine zx_callV1v (q := 69) (y' := mX2_need) dX2_readClause_66 ml_RX2_51 ok_mX2_need rfl (by decide) rfl (Nat.le_of_ble_eq_true rfl) (Nat.le_of_ble_eq_true rfl) (Nat.le_refl _) (Nat.le_refl _) rfl (t_need _ 4 (by omega) K4) ?_
          rintro _ ⟨g5, rfl, K5, e5⟩
          rw [z_nd_t] at K5
          refine zx_aload_n (q := 70) dX2_readClause_69 rfl rfl rfl ?_
          refine zx_iconst (q := 71) (v := 0) dX2_readClause_70 (by decide) rfl ?_
          refine zx_callV1v (q := 74) (y' := mX2_readEither) dX2_readClause_71 ml_RX2_61 ok_mX2_readEither rfl (by decide) rfl (Nat.le_of_ble_eq_true rfl) (Nat.le_of_ble_eq_true rfl) (Nat.le_refl _) (Nat.le_refl _) rfl (t_reX _ q hq ⟨K5, cl, by omega, by rw [e5 _ _ (by omega), e4 _ _ (by omega), e3 _ _ (by omega)]; exact hc⟩ 0) ?_
          rintro _ ⟨g6, rfl, f6, hX6⟩
          refine zx_aload_n (q := 75) dX2_readClause_74 rfl rfl rfl ?_
          refine zy_getR (q := 78) dX2_readClause_75 fl_RX2_19 rfl rfl rfl rfl ?_
          refine zx_iload_n (q := 79) dX2_readClause_78 rfl rfl rfl ?_
          refine zx_iload_n (q := 80) dX2_readClause_79 rfl rfl rfl ?_
          refine zx_callV2v (q := 83) (y' := mX1_addClause) dX2_readClause_80 ml_RX2_65 ok_mX1_addClause (zr_F (f := none) hq).1 (by decide) rfl (Nat.le_of_ble_eq_true rfl) (Nat.le_of_ble_eq_true rfl) (Nat.le_refl _) (Nat.le_refl _) rfl (t_addC _ q nc hq _ _ _ (by rw [f6 _ _ (by omega) (by omega) (by omega), e5 _ _ (by omega), e4 _ _ (by omega), e3 _ _ (by omega)]; exact hn) hnc rfl) ?_
          rintro _ rfl
          refine zx_vret dX2_readClause_83 rfl (Nat.le_refl _) (Nat.le_refl _) ⟨rfl, ?_⟩
          exact ⟨_, rfl, fun k j a b => by rw [z_u_ne _ _ (by omega), z_u_ne _ _ (by omega), z_u_ne _ _ (by omega), z_u_ne _ _ (by omega)]; exact (by rw [f6 _ _ a (by omega) (by omega), e5 _ _ a, e4 _ _ a, e3 _ _ a]), Or.inr ⟨_, Or.inr (Or.inl ⟨_, hnd, hnm⟩), zTK_fr hX6.1 (fun k j z => by rw [z_u_ne _ _ (by omega), z_u_ne _ _ (by omega), z_u_ne _ _ (by omega), z_u_ne _ _ (by omega)])⟩⟩
        | some n =>
          refine zx_aload_n (q := 54) dX2_readClause_53 rfl rfl rfl ?_
          refine zx_callV0i (q := 57) (y' := mX2_readNumber) dX2_readClause_54 ml_RX2_55 ok_mX2_readNumber rfl (by decide) rfl (Nat.le_of_ble_eq_true rfl) (Nat.le_of_ble_eq_true rfl) (Nat.le_refl _) (Nat.le_refl _) rfl (t_rnS _ K3 hnm) ?_
          rintro _ _ ⟨rfl, g4, rfl, K4, e4⟩
          refine zx_istore2 (q := 58) dX2_readClause_57 rfl rfl ?_
          refine zx_iload_n (q := 59) dX2_readClause_58 rfl rfl rfl ?_
          refine zx_iconst (q := 60) (v := 2) dX2_readClause_59 (by decide) rfl ?_
          refine zx_icmp_eq_f (t := 74) (q := 63) dX2_readClause_60 (by decide) rfl (by decide) ?_
          refine zx_aload_n (q := 64) dX2_readClause_63 rfl rfl rfl ?_
          refine zx_ldcS (i := 4) (q := 66) dX2_readClause_64 (by decide) rfl rfl ?_
          refine zx_callV1v (q := 69) (y' := mX2_need) dX2_readClause_66 ml_RX2_51 ok_mX2_need rfl (by decide) rfl (Nat.le_of_ble_eq_true rfl) (Nat.le_of_ble_eq_true rfl) (Nat.le_refl _) (Nat.le_refl _) rfl (t_need _ 4 (by omega) K4) ?_
          rintro _ ⟨g5, rfl, K5, e5⟩
          rw [z_nd4] at K5
          by_cases h32 : z_at tx len p2 32 = true
          · rw [if_pos (show (!false && z_at tx len p2 32) = true from by simpa using h32)] at K5
            have h32p := z_at_p h32
            refine zx_aload_n (q := 70) dX2_readClause_69 rfl rfl rfl ?_
            refine zx_iconst (q := 71) (v := 0) dX2_readClause_70 (by decide) rfl ?_
            refine zx_callV1v (q := 74) (y' := mX2_readEither) dX2_readClause_71 ml_RX2_61 ok_mX2_readEither rfl (by decide) rfl (Nat.le_of_ble_eq_true rfl) (Nat.le_of_ble_eq_true rfl) (Nat.le_refl _) (Nat.le_refl _) rfl ((t_rE0 (l := l) (D := D) (tc := tc) (A := A) (gl := gl) (tx := tx) (len := len) hq 4 0 rfl).2 _ (p2 + 1) cl _ (by omega) K5 (by rw [e5 _ _ (by omega), e4 _ _ (by omega), e3 _ _ (by omega)]; exact hc) (by omega)) ?_
            rintro _ ⟨g6, rfl, f6, hpo⟩
            rcases hpo with ⟨q1, c, hder, K6, hcd⟩ | ⟨q1, hder, hX6⟩
            · refine zx_aload_n (q := 75) dX2_readClause_74 rfl rfl rfl ?_
              refine zy_getR (q := 78) dX2_readClause_75 fl_RX2_19 rfl rfl rfl rfl ?_
              refine zx_iload_n (q := 79) dX2_readClause_78 rfl rfl rfl ?_
              refine zx_iload_n (q := 80) dX2_readClause_79 rfl rfl rfl ?_
              refine zx_callV2v (q := 83) (y' := mX1_addClause) dX2_readClause_80 ml_RX2_65 ok_mX1_addClause (zr_F (f := none) hq).1 (by decide) rfl (Nat.le_of_ble_eq_true rfl) (Nat.le_of_ble_eq_true rfl) (Nat.le_refl _) (Nat.le_refl _) rfl (t_addC _ q nc hq _ _ _ (by rw [f6 _ _ (by omega) (by omega) (by omega), e5 _ _ (by omega), e4 _ _ (by omega), e3 _ _ (by omega)]; exact hn) hnc rfl) ?_
              rintro _ rfl
              refine zx_vret dX2_readClause_83 rfl (Nat.le_refl _) (Nat.le_refl _) ⟨rfl, ?_⟩
              refine ⟨_, rfl, fun k j a b => ?_, Or.inl ⟨q1, n, c, ⟨p1, p2, hnd, hnm, Or.inr ⟨by omega, h32, hder⟩⟩, zTK_fr K6 (fun k j z => by rw [z_u_ne _ _ (by omega), z_u_ne _ _ (by omega), z_u_ne _ _ (by omega), z_u_ne _ _ (by omega)]), zCd_pl (zCd_sf hcd (fun k j z => by rw [z_u_ne _ _ (by omega), z_u_ne _ _ (by omega), z_u_ne _ _ (by omega), z_u_ne _ _ (by omega)])) (fun j => by rw [e5 _ _ (by omega), e4 _ _ (by omega), e3 _ _ (by omega)]), ?_, ?_, ?_, ?_, ?_⟩⟩
              · rw [z_u_ne _ _ (by omega), z_u_ne _ _ (by omega), z_u_ne _ _ (by omega), z_u_ne _ _ (by omega), f6 _ _ a (by omega) (by omega), e5 _ _ a, e4 _ _ (by omega), e3 _ _ a]
              · rw [z_u_ne _ _ (by omega), z_u_ne _ _ (by omega), z_u_ne _ _ (by omega), z_u_at, hw]; rfl
              · rw [z_u_ne _ _ (by omega), z_u_ne _ _ (by omega), z_u_at]
              · rw [z_u_ne _ _ (by omega), z_u_at, hcd.1]
              · rw [z_u_at]
              · intro k j z hj; rw [z_u_ne _ _ (by omega), z_u_ne _ _ (by omega), z_u_ne _ _ (by omega), z_u_ne _ _ (by omega), f6 _ _ (by omega) (by omega) (by omega), e5 _ _ (by omega), e4 _ _ (by omega), e3 _ _ (by omega)]
            · refine zx_aload_n (q := 75) dX2_readClause_74 rfl rfl rfl ?_
              refine zy_getR (q := 78) dX2_readClause_75 fl_RX2_19 rfl rfl rfl rfl ?_
              refine zx_iload_n (q := 79) dX2_readClause_78 rfl rfl rfl ?_
              refine zx_iload_n (q := 80) dX2_readClause_79 rfl rfl rfl ?_
              refine zx_callV2v (q := 83) (y' := mX1_addClause) dX2_readClause_80 ml_RX2_65 ok_mX1_addClause (zr_F (f := none) hq).1 (by decide) rfl (Nat.le_of_ble_eq_true rfl) (Nat.le_of_ble_eq_true rfl) (Nat.le_refl _) (Nat.le_refl _) rfl (t_addC _ q nc hq _ _ _ (by rw [f6 _ _ (by omega) (by omega) (by omega), e5 _ _ (by omega), e4 _ _ (by omega), e3 _ _ (by omega)]; exact hn) hnc rfl) ?_
              rintro _ rfl
              refine zx_vret dX2_readClause_83 rfl (Nat.le_refl _) (Nat.le_refl _) ⟨rfl, ?_⟩
              exact ⟨_, rfl, fun k j a b => by rw [z_u_ne _ _ (by omega), z_u_ne _ _ (by omega), z_u_ne _ _ (by omega), z_u_ne _ _ (by omega)]; exact (by rw [f6 _ _ a (by omega) (by omega), e5 _ _ a, e4 _ _ (by omega), e3 _ _ a]), Or.inr ⟨_, Or.inr (Or.inr ⟨p1, n, hnd, by omega, Or.inr ⟨p2, hnm, h32, hder⟩⟩), zTK_fr hX6.1 (fun k j z => by rw [z_u_ne _ _ (by omega), z_u_ne _ _ (by omega), z_u_ne _ _ (by omega), z_u_ne _ _ (by omega)])⟩⟩
          · rw [if_neg (show ¬ (!false && z_at tx len p2 32) = true from by simpa using h32)] at K5
            refine zx_aload_n (q := 70) dX2_readClause_69 rfl rfl rfl ?_
            refine zx_iconst (q := 71) (v := 0) dX2_readClause_70 (by decide) rfl ?_
            refine zx_callV1v (q := 74) (y' := mX2_readEither) dX2_readClause_71 ml_RX2_61 ok_mX2_readEither rfl (by decide) rfl (Nat.le_of_ble_eq_true rfl) (Nat.le_of_ble_eq_true rfl) (Nat.le_refl _) (Nat.le_refl _) rfl (t_reX _ q hq ⟨K5, cl, by omega, by rw [e5 _ _ (by omega), e4 _ _ (by omega), e3 _ _ (by omega)]; exact hc⟩ 0) ?_
            rintro _ ⟨g6, rfl, f6, hX6⟩
            refine zx_aload_n (q := 75) dX2_readClause_74 rfl rfl rfl ?_
            refine zy_getR (q := 78) dX2_readClause_75 fl_RX2_19 rfl rfl rfl rfl ?_
            refine zx_iload_n (q := 79) dX2_readClause_78 rfl rfl rfl ?_
            refine zx_iload_n (q := 80) dX2_readClause_79 rfl rfl rfl ?_
            refine zx_callV2v (q := 83) (y' := mX1_addClause) dX2_readClause_80 ml_RX2_65 ok_mX1_addClause (zr_F (f := none) hq).1 (by decide) rfl (Nat.le_of_ble_eq_true rfl) (Nat.le_of_ble_eq_true rfl) (Nat.le_refl _) (Nat.le_refl _) rfl (t_addC _ q nc hq _ _ _ (by rw [f6 _ _ (by omega) (by omega) (by omega), e5 _ _ (by omega), e4 _ _ (by omega), e3 _ _ (by omega)]; exact hn) hnc rfl) ?_
            rintro _ rfl
            refine zx_vret dX2_readClause_83 rfl (Nat.le_refl _) (Nat.le_refl _) ⟨rfl, ?_⟩
            exact ⟨_, rfl, fun k j a b => by rw [z_u_ne _ _ (by omega), z_u_ne _ _ (by omega), z_u_ne _ _ (by omega), z_u_ne _ _ (by omega)]; exact (by rw [f6 _ _ a (by omega) (by omega), e5 _ _ a, e4 _ _ (by omega), e3 _ _ a]), Or.inr ⟨_, Or.inr (Or.inr ⟨p1, n, hnd, by omega, Or.inl ⟨hnm, h32⟩⟩), zTK_fr hX6.1 (fun k j z => by rw [z_u_ne _ _ (by omega), z_u_ne _ _ (by omega), z_u_ne _ _ (by omega), z_u_ne _ _ (by omega)])⟩⟩
theorem t_rc1 (d : Nat) {q : Nat} (hq : q < 6) {tx : Nat → Nat} {len p nc cl : Nat} {g : Nat → Nat → Int32} (K : zTK g tx len p false) (hn : g (66 + 5 * q) 0 = nI nc) (hnc : nc < 10) (hc : g (66 + 5 * q) 1 = nI cl) (hcl : cl ≤ p) (h111 : ¬ z_at tx len p 111 = true) (h115 : z_at tx len p 115 = true) : zCall l D tc A mX2_readClause (d + 30) 0 0 [.ref 39] (zs g gl (some (66 + 5 * q))) (zQv fun S' => ∃ g2, S' = zs g2 gl (some (66 + 5 * q)) ∧ zFrK g g2 q ∧ ((∃ q' n cs, zClS tx len p q' n cs ∧ zTK g2 tx len q' false ∧ zCd g g2 q cl cs ∧ g2 (67 + 5 * q) nc = nI (z_wd tx len p) ∧ g2 (68 + 5 * q) nc = nI n ∧ g2 (69 + 5 * q) nc = nI (cl + cs.length) ∧ g2 (66 + 5 * q) 0 = nI (nc + 1) ∧ ∀ k j, k = 67 + 5 * q ∨ k = 68 + 5 * q ∨ k = 69 + 5 * q → j < nc → g2 k j = g k j) ∨ ∃ q', zClX tx len p q' ∧ zTK g2 tx len q' true)) := by
  have hw : z_wd tx len p = 1 := by unfold z_wd; rw [if_neg h111, if_pos h115]
  show zW l D tc A mX2_readClause (d + 30) 0 0 0 0 0 [some (.ref 39), none, none] [] (zs g gl (some (66 + 5 * q))) _
  refine zx_aload_n (q := 1) dX2_readClause_0 rfl rfl rfl ?_
  refine zx_bipush (q := 3) (v := 111) dX2_readClause_1 (by decide) rfl ?_
  refine zx_callV1i (q := 6) (y' := mX2_isAt) dX2_readClause_3 ml_RX2_42 ok_mX2_isAt rfl (by decide) rfl (Nat.le_of_ble_eq_true rfl) (Nat.le_of_ble_eq_true rfl) (Nat.le_refl _) (Nat.le_refl _) rfl (t_isAt _ 111 K (by omega)) ?_
  rintro _ _ ⟨rfl, rfl⟩
  refine zx_if_eq_t (t := 13) (q := 9) dX2_readClause_6 (by decide) rfl (zk_f (by simpa using h111)) ?_
  refine zx_aload_n (q := 14) dX2_readClause_13 rfl rfl rfl ?_
  refine zx_bipush (q := 16) (v := 115) dX2_readClause_14 (by decide) rfl ?_
  refine zx_callV1i (q := 19) (y' := mX2_isAt) dX2_readClause_16 ml_RX2_42 ok_mX2_isAt rfl (by decide) rfl (Nat.le_of_ble_eq_true rfl) (Nat.le_of_ble_eq_true rfl) (Nat.le_refl _) (Nat.le_refl _) rfl (t_isAt _ 115 K (by omega)) ?_
  rintro _ _ ⟨rfl, rfl⟩
  refine zx_if_eq_f (t := 26) (q := 22) dX2_readClause_19 (by decide) rfl (zk_t (by simpa using h115)) ?_
  refine zx_iconst (q := 23) (v := 1) dX2_readClause_22 (by decide) rfl ?_
  refine zx_goto (t := 27) dX2_readClause_23 (by decide) ?_
  refine zx_istore1 (q := 28) dX2_readClause_27 rfl rfl ?_
  refine zx_aload_n (q := 29) dX2_readClause_28 rfl rfl rfl ?_
  refine zx_iload_n (q := 30) dX2_readClause_29 rfl rfl rfl ?_
  refine zx_if_ne_t (t := 38) (q := 33) dX2_readClause_30 (by decide) rfl (by decide) ?_
  refine zx_iload_n (q := 39) dX2_readClause_38 rfl rfl rfl ?_
  refine zx_iconst (q := 40) (v := 1) dX2_readClause_39 (by decide) rfl ?_
  refine zx_icmp_ne_f (t := 48) (q := 43) dX2_readClause_40 (by decide) rfl (rfl) ?_
  refine zx_ldcS (i := 1) (q := 45) dX2_readClause_43 (by decide) rfl rfl ?_
  refine zx_goto (t := 50) dX2_readClause_45 (by decide) ?_
  refine zx_callV1v (q := 53) (y' := mX2_need) dX2_readClause_50 ml_RX2_51 ok_mX2_need rfl (by decide) rfl (Nat.le_of_ble_eq_true rfl) (Nat.le_of_ble_eq_true rfl) (Nat.le_refl _) (Nat.le_refl _) rfl (t_need _ 1 (by omega) K) ?_
  rintro _ ⟨g3, rfl, K3, e3⟩
  have hKl := zTK_len K
  cases hnd : z_nd tx len 1 (p, false) with
  | mk p1 f1 =>
    rw [hnd] at K3
    have hnl := z_nd_le hnd hKl.1
    have hnd : z_nd tx len (z_wd tx len p) (p, false) = (p1, f1) := by rw [hw]; exact hnd
    cases f1 with
    | true =>
      refine zx_aload_n (q := 54) dX2_readClause_53 rfl rfl rfl ?_
      refine zx_callV0i (q := 57) (y' := mX2_readNumber) dX2_readClause_54 ml_RX2_55 ok_mX2_readNumber rfl (by decide) rfl (Nat.le_of_ble_eq_true rfl) (Nat.le_of_ble_eq_true rfl) (Nat.le_refl _) (Nat.le_refl _) rfl (t_rnN _ K3 (Or.inl rfl)) ?_
      rintro _ _ ⟨g4, rfl, K4, e4⟩
      refine zx_istore2 (q := 58) dX2_readClause_57 rfl rfl ?_
      refine zx_iload_n (q := 59) dX2_readClause_58 rfl rfl rfl ?_
      refine zx_iconst (q := 60) (v := 2) dX2_readClause_59 (by decide) rfl ?_
      refine zx_icmp_eq_f (t := 74) (q := 63) dX2_readClause_60 (by decide) rfl (by decide) ?_
      refine zx_aload_n (q := 64) dX2_readClause_63 rfl rfl rfl ?_
      refine zx_ldcS (i := 4) (q := 66) dX2_readClause_64 (by decide) rfl rfl ?_
      refine zx_callV1v (q := 69) (y' := mX2_need) dX2_readClause_66 ml_RX2_51 ok_mX2_need rfl (by decide) rfl (Nat.le_of_ble_eq_true rfl) (Nat.le_of_ble_eq_true rfl) (Nat.le_refl _) (Nat.le_refl _) rfl (t_need _ 4 (by omega) K4) ?_
      rintro _ ⟨g5, rfl, K5, e5⟩
      rw [z_nd_t] at K5
      refine zx_aload_n (q := 70) dX2_readClause_69 rfl rfl rfl ?_
      refine zx_iconst (q := 71) (v := 0) dX2_readClause_70 (by decide) rfl ?_
      refine zx_callV1v (q := 74) (y' := mX2_readEither) dX2_readClause_71 ml_RX2_61 ok_mX2_readEither rfl (by decide) rfl (Nat.le_of_ble_eq_true rfl) (Nat.le_of_ble_eq_true rfl) (Nat.le_refl _) (Nat.le_refl _) rfl (t_reX _ q hq ⟨K5, cl, by omega, by rw [e5 _ _ (by omega), e4 _ _ (by omega), e3 _ _ (by omega)]; exact hc⟩ 0) ?_
      rintro _ ⟨g6, rfl, f6, hX6⟩
      refine zx_aload_n (q := 75) dX2_readClause_74 rfl rfl rfl ?_
      refine zy_getR (q := 78) dX2_readClause_75 fl_RX2_19 rfl rfl rfl rfl ?_
      refine zx_iload_n (q := 79) dX2_readClause_78 rfl rfl rfl ?_
      refine zx_iload_n (q := 80) dX2_readClause_79 rfl rfl rfl ?_
      refine zx_callV2v (q := 83) (y' := mX1_addClause) dX2_readClause_80 ml_RX2_65 ok_mX1_addClause (zr_F (f := none) hq).1 (by decide) rfl (Nat.le_of_ble_eq_true rfl) (Nat.le_of_ble_eq_true rfl) (Nat.le_refl _) (Nat.le_refl _) rfl (t_addC _ q nc hq _ _ _ (by rw [f6 _ _ (by omega) (by omega) (by omega), e5 _ _ (by omega), e4 _ _ (by omega), e3 _ _ (by omega)]; exact hn) hnc rfl) ?_
      rintro _ rfl
      refine zx_vret dX2_readClause_83 rfl (Nat.le_refl _) (Nat.le_refl _) ⟨rfl, ?_⟩
      exact ⟨_, rfl, fun k j a b => by rw [z_u_ne _ _ (by omega), z_u_ne _ _ (by omega), z_u_ne _ _ (by omega), z_u_ne _ _ (by omega)]; exact (by rw [f6 _ _ a (by omega) (by omega), e5 _ _ a, e4 _ _ a, e3 _ _ a]), Or.inr ⟨_, Or.inl hnd, zTK_fr hX6.1 (fun k j z => by rw [z_u_ne _ _ (by omega), z_u_ne _ _ (by omega), z_u_ne _ _ (by omega), z_u_ne _ _ (by omega)])⟩⟩
    | false =>
      cases hnm : z_nm tx len p1 with
      | mk p2 o2 =>
        have hml := z_nm_ok hnl.2 hnm
        cases o2 with
        | none =>
          have hp2 : p2 = p1 := (z_nm_no hnm).2
          subst hp2
          refine zx_aload_n (q := 54) dX2_readClause_53 rfl rfl rfl ?_
          refine zx_callV0i (q := 57) (y' := mX2_readNumber) dX2_readClause_54 ml_RX2_55 ok_mX2_readNumber rfl (by decide) rfl (Nat.le_of_ble_eq_true rfl) (Nat.le_of_ble_eq_true rfl) (Nat.le_refl _) (Nat.le_refl _) rfl (t_rnN _ K3 (Or.inr (z_nm_no hnm).1)) ?_
          rintro _ _ ⟨g4, rfl, K4, e4⟩
          refine zx_istore2 (q := 58) dX2_readClause_57 rfl rfl ?_
          refine zx_iload_n (q := 59) dX2_readClause_58 rfl rfl rfl ?_
          refine zx_iconst (q := 60) (v := 2) dX2_readClause_59 (by decide) rfl ?_
          refine zx_icmp_eq_f (t := 74) (q := 63) dX2_readClause_60 (by decide) rfl (by decide) ?_
          refine zx_aload_n (q := 64) dX2_readClause_63 rfl rfl rfl ?_
          refine zx_ldcS (i := 4) (q := 66) dX2_readClause_64 (by decide) rfl rfl ?_
          refine zx_callV1v (q := 69) (y' := mX2_need) dX2_readClause_66 ml_RX2_51 ok_mX2_need rfl (by decide) rfl (Nat.le_of_ble_eq_true rfl) (Nat.le_of_ble_eq_true rfl) (Nat.le_refl _) (Nat.le_refl _) rfl (t_need _ 4 (by omega) K4) ?_
          rintro _ ⟨g5, rfl, K5, e5⟩
          rw [z_nd_t] at K5
          refine zx_aload_n (q := 70) dX2_readClause_69 rfl rfl rfl ?_
          refine zx_iconst (q := 71) (v := 0) dX2_readClause_70 (by decide) rfl ?_
          refine zx_callV1v (q := 74) (y' := mX2_readEither) dX2_readClause_71 ml_RX2_61 ok_mX2_readEither rfl (by decide) rfl (Nat.le_of_ble_eq_true rfl) (Nat.le_of_ble_eq_true rfl) (Nat.le_refl _) (Nat.le_refl _) rfl (t_reX _ q hq ⟨K5, cl, by omega, by rw [e5 _ _ (by omega), e4 _ _ (by omega), e3 _ _ (by omega)]; exact hc⟩ 0) ?_
          rintro _ ⟨g6, rfl, f6, hX6⟩
          refine zx_aload_n (q := 75) dX2_readClause_74 rfl rfl rfl ?_
          refine zy_getR (q := 78) dX2_readClause_75 fl_RX2_19 rfl rfl rfl rfl ?_
          refine zx_iload_n (q := 79) dX2_readClause_78 rfl rfl rfl ?_
          refine zx_iload_n (q := 80) dX2_readClause_79 rfl rfl rfl ?_
          refine zx_callV2v (q := 83) (y' := mX1_addClause) dX2_readClause_80 ml_RX2_65 ok_mX1_addClause (zr_F (f := none) hq).1 (by decide) rfl (Nat.le_of_ble_eq_true rfl) (Nat.le_of_ble_eq_true rfl) (Nat.le_refl _) (Nat.le_refl _) rfl (t_addC _ q nc hq _ _ _ (by rw [f6 _ _ (by omega) (by omega) (by omega), e5 _ _ (by omega), e4 _ _ (by omega), e3 _ _ (by omega)]; exact hn) hnc rfl) ?_
          rintro _ rfl
          refine zx_vret dX2_readClause_83 rfl (Nat.le_refl _) (Nat.le_refl _) ⟨rfl, ?_⟩
          exact ⟨_, rfl, fun k j a b => by rw [z_u_ne _ _ (by omega), z_u_ne _ _ (by omega), z_u_ne _ _ (by omega), z_u_ne _ _ (by omega)]; exact (by rw [f6 _ _ a (by omega) (by omega), e5 _ _ a, e4 _ _ a, e3 _ _ a]), Or.inr ⟨_, Or.inr (Or.inl ⟨_, hnd, hnm⟩), zTK_fr hX6.1 (fun k j z => by rw [z_u_ne _ _ (by omega), z_u_ne _ _ (by omega), z_u_ne _ _ (by omega), z_u_ne _ _ (by omega)])⟩⟩
        | some n =>
          refine zx_aload_n (q := 54) dX2_readClause_53 rfl rfl rfl ?_
          refine zx_callV0i (q := 57) (y' := mX2_readNumber) dX2_readClause_54 ml_RX2_55 ok_mX2_readNumber rfl (by decide) rfl (Nat.le_of_ble_eq_true rfl) (Nat.le_of_ble_eq_true rfl) (Nat.le_refl _) (Nat.le_refl _) rfl (t_rnS _ K3 hnm) ?_
          rintro _ _ ⟨rfl, g4, rfl, K4, e4⟩
          refine zx_istore2 (q := 58) dX2_readClause_57 rfl rfl ?_
          refine zx_iload_n (q := 59) dX2_readClause_58 rfl rfl rfl ?_
          refine zx_iconst (q := 60) (v := 2) dX2_readClause_59 (by decide) rfl ?_
          refine zx_icmp_eq_f (t := 74) (q := 63) dX2_readClause_60 (by decide) rfl (by decide) ?_
          refine zx_aload_n (q := 64) dX2_readClause_63 rfl rfl rfl ?_
          refine zx_ldcS (i := 4) (q := 66) dX2_readClause_64 (by decide) rfl rfl ?_
          refine zx_callV1v (q := 69) (y' := mX2_need) dX2_readClause_66 ml_RX2_51 ok_mX2_need rfl (by decide) rfl (Nat.le_of_ble_eq_true rfl) (Nat.le_of_ble_eq_true rfl) (Nat.le_refl _) (Nat.le_refl _) rfl (t_need _ 4 (by omega) K4) ?_
          rintro _ ⟨g5, rfl, K5, e5⟩
          rw [z_nd4] at K5
          by_cases h32 : z_at tx len p2 32 = true
          · rw [if_pos (show (!false && z_at tx len p2 32) = true from by simpa using h32)] at K5
            have h32p := z_at_p h32
            refine zx_aload_n (q := 70) dX2_readClause_69 rfl rfl rfl ?_
            refine zx_iconst (q := 71) (v := 0) dX2_readClause_70 (by decide) rfl ?_
            refine zx_callV1v (q := 74) (y' := mX2_readEither) dX2_readClause_71 ml_RX2_61 ok_mX2_readEither rfl (by decide) rfl (Nat.le_of_ble_eq_true rfl) (Nat.le_of_ble_eq_true rfl) (Nat.le_refl _) (Nat.le_refl _) rfl ((t_rE0 (l := l) (D := D) (tc := tc) (A := A) (gl := gl) (tx := tx) (len := len) hq 4 0 rfl).2 _ (p2 + 1) cl _ (by omega) K5 (by rw [e5 _ _ (by omega), e4 _ _ (by omega), e3 _ _ (by omega)]; exact hc) (by omega)) ?_
            rintro _ ⟨g6, rfl, f6, hpo⟩
            rcases hpo with ⟨q1, c, hder, K6, hcd⟩ | ⟨q1, hder, hX6⟩
            · refine zx_aload_n (q := 75) dX2_readClause_74 rfl rfl rfl ?_
              refine zy_getR (q := 78) dX2_readClause_75 fl_RX2_19 rfl rfl rfl rfl ?_
              refine zx_iload_n (q := 79) dX2_readClause_78 rfl rfl rfl ?_
              refine zx_iload_n (q := 80) dX2_readClause_79 rfl rfl rfl ?_
              refine zx_callV2v (q := 83) (y' := mX1_addClause) dX2_readClause_80 ml_RX2_65 ok_mX1_addClause (zr_F (f := none) hq).1 (by decide) rfl (Nat.le_of_ble_eq_true rfl) (Nat.le_of_ble_eq_true rfl) (Nat.le_refl _) (Nat.le_refl _) rfl (t_addC _ q nc hq _ _ _ (by rw [f6 _ _ (by omega) (by omega) (by omega), e5 _ _ (by omega), e4 _ _ (by omega), e3 _ _ (by omega)]; exact hn) hnc rfl) ?_
              rintro _ rfl
              refine zx_vret dX2_readClause_83 rfl (Nat.le_refl _) (Nat.le_refl _) ⟨rfl, ?_⟩
              refine ⟨_, rfl, fun k j a b => ?_, Or.inl ⟨q1, n, c, ⟨p1, p2, hnd, hnm, Or.inr ⟨by omega, h32, hder⟩⟩, zTK_fr K6 (fun k j z => by rw [z_u_ne _ _ (by omega), z_u_ne _ _ (by omega), z_u_ne _ _ (by omega), z_u_ne _ _ (by omega)]), zCd_pl (zCd_sf hcd (fun k j z => by rw [z_u_ne _ _ (by omega), z_u_ne _ _ (by omega), z_u_ne _ _ (by omega), z_u_ne _ _ (by omega)])) (fun j => by rw [e5 _ _ (by omega), e4 _ _ (by omega), e3 _ _ (by omega)]), ?_, ?_, ?_, ?_, ?_⟩⟩
              · rw [z_u_ne _ _ (by omega), z_u_ne _ _ (by omega), z_u_ne _ _ (by omega), z_u_ne _ _ (by omega), f6 _ _ a (by omega) (by omega), e5 _ _ a, e4 _ _ (by omega), e3 _ _ a]
              · rw [z_u_ne _ _ (by omega), z_u_ne _ _ (by omega), z_u_ne _ _ (by omega), z_u_at, hw]; rfl
              · rw [z_u_ne _ _ (by omega), z_u_ne _ _ (by omega), z_u_at]
              · rw [z_u_ne _ _ (by omega), z_u_at, hcd.1]
              · rw [z_u_at]
              · intro k j z hj; rw [z_u_ne _ _ (by omega), z_u_ne _ _ (by omega), z_u_ne _ _ (by omega), z_u_ne _ _ (by omega), f6 _ _ (by omega) (by omega) (by omega), e5 _ _ (by omega), e4 _ _ (by omega), e3 _ _ (by omega)]
            · refine zx_aload_n (q := 75) dX2_readClause_74 rfl rfl rfl ?_
              refine zy_getR (q := 78) dX2_readClause_75 fl_RX2_19 rfl rfl rfl rfl ?_
              refine zx_iload_n (q := 79) dX2_readClause_78 rfl rfl rfl ?_
              refine zx_iload_n (q := 80) dX2_readClause_79 rfl rfl rfl ?_
              refine zx_callV2v (q := 83) (y' := mX1_addClause) dX2_readClause_80 ml_RX2_65 ok_mX1_addClause (zr_F (f := none) hq).1 (by decide) rfl (Nat.le_of_ble_eq_true rfl) (Nat.le_of_ble_eq_true rfl) (Nat.le_refl _) (Nat.le_refl _) rfl (t_addC _ q nc hq _ _ _ (by rw [f6 _ _ (by omega) (by omega) (by omega), e5 _ _ (by omega), e4 _ _ (by omega), e3 _ _ (by omega)]; exact hn) hnc rfl) ?_
              rintro _ rfl
              refine zx_vret dX2_readClause_83 rfl (Nat.le_refl _) (Nat.le_refl _) ⟨rfl, ?_⟩
              exact ⟨_, rfl, fun k j a b => by rw [z_u_ne _ _ (by omega), z_u_ne _ _ (by omega), z_u_ne _ _ (by omega), z_u_ne _ _ (by omega)]; exact (by rw [f6 _ _ a (by omega) (by omega), e5 _ _ a, e4 _ _ (by omega), e3 _ _ a]), Or.inr ⟨_, Or.inr (Or.inr ⟨p1, n, hnd, by omega, Or.inr ⟨p2, hnm, h32, hder⟩⟩), zTK_fr hX6.1 (fun k j z => by rw [z_u_ne _ _ (by omega), z_u_ne _ _ (by omega), z_u_ne _ _ (by omega), z_u_ne _ _ (by omega)])⟩⟩
          · rw [if_neg (show ¬ (!false && z_at tx len p2 32) = true from by simpa using h32)] at K5
            refine zx_aload_n (q := 70) dX2_readClause_69 rfl rfl rfl ?_
            refine zx_iconst (q := 71) (v := 0) dX2_readClause_70 (by decide) rfl ?_
            refine zx_callV1v (q := 74) (y' := mX2_readEither) dX2_readClause_71 ml_RX2_61 ok_mX2_readEither rfl (by decide) rfl (Nat.le_of_ble_eq_true rfl) (Nat.le_of_ble_eq_true rfl) (Nat.le_refl _) (Nat.le_refl _) rfl (t_reX _ q hq ⟨K5, cl, by omega, by rw [e5 _ _ (by omega), e4 _ _ (by omega), e3 _ _ (by omega)]; exact hc⟩ 0) ?_
            rintro _ ⟨g6, rfl, f6, hX6⟩
            refine zx_aload_n (q := 75) dX2_readClause_74 rfl rfl rfl ?_
            refine zy_getR (q := 78) dX2_readClause_75 fl_RX2_19 rfl rfl rfl rfl ?_
            refine zx_iload_n (q := 79) dX2_readClause_78 rfl rfl rfl ?_
            refine zx_iload_n (q := 80) dX2_readClause_79 rfl rfl rfl ?_
            refine zx_callV2v (q := 83) (y' := mX1_addClause) dX2_readClause_80 ml_RX2_65 ok_mX1_addClause (zr_F (f := none) hq).1 (by decide) rfl (Nat.le_of_ble_eq_true rfl) (Nat.le_of_ble_eq_true rfl) (Nat.le_refl _) (Nat.le_refl _) rfl (t_addC _ q nc hq _ _ _ (by rw [f6 _ _ (by omega) (by omega) (by omega), e5 _ _ (by omega), e4 _ _ (by omega), e3 _ _ (by omega)]; exact hn) hnc rfl) ?_
            rintro _ rfl
            refine zx_vret dX2_readClause_83 rfl (Nat.le_refl _) (Nat.le_refl _) ⟨rfl, ?_⟩
            exact ⟨_, rfl, fun k j a b => by rw [z_u_ne _ _ (by omega), z_u_ne _ _ (by omega), z_u_ne _ _ (by omega), z_u_ne _ _ (by omega)]; exact (by rw [f6 _ _ a (by omega) (by omega), e5 _ _ a, e4 _ _ (by omega), e3 _ _ a]), Or.inr ⟨_, Or.inr (Or.inr ⟨p1, n, hnd, by omega, Or.inl ⟨hnm, h32⟩⟩), zTK_fr hX6.1 (fun k j z => by rw [z_u_ne _ _ (by omega), z_u_ne _ _ (by omega), z_u_ne _ _ (by omega), z_u_ne _ _ (by omega)])⟩⟩
theorem t_rc2 (d : Nat) {q : Nat} (hq : q < 6) {tx : Nat → Nat} {len p nc cl : Nat} {g : Nat → Nat → Int32} (K : zTK g tx len p false) (hn : g (66 + 5 * q) 0 = nI nc) (hnc : nc < 10) (hc : g (66 + 5 * q) 1 = nI cl) (hcl : cl ≤ p) (h111 : ¬ z_at tx len p 111 = true) (h115 : ¬ z_at tx len p 115 = true) : zCall l D tc A mX2_readClause (d + 30) 0 0 [.ref 39] (zs g gl (some (66 + 5 * q))) (zQv fun S' => ∃ g2, S' = zs g2 gl (some (66 + 5 * q)) ∧ zFrK g g2 q ∧ ((∃ q' n cs, zClS tx len p q' n cs ∧ zTK g2 tx len q' false ∧ zCd g g2 q cl cs ∧ g2 (67 + 5 * q) nc = nI (z_wd tx len p) ∧ g2 (68 + 5 * q) nc = nI n ∧ g2 (69 + 5 * q) nc = nI (cl + cs.length) ∧ g2 (66 + 5 * q) 0 = nI (nc + 1) ∧ ∀ k j, k = 67 + 5 * q ∨ k = 68 + 5 * q ∨ k = 69 + 5 * q → j < nc → g2 k j = g k j) ∨ ∃ q', zClX tx len p q' ∧ zTK g2 tx len q' true)) := by
  have hw : z_wd tx len p = 2 := by unfold z_wd; rw [if_neg h111, if_neg h115]
  show zW l D tc A mX2_readClause (d + 30) 0 0 0 0 0 [some (.ref 39), none, none] [] (zs g gl (some (66 + 5 * q))) _
  refine zx_aload_n (q := 1) dX2_readClause_0 rfl rfl rfl ?_
  refine zx_bipush (q := 3) (v := 111) dX2_readClause_1 (by decide) rfl ?_
  refine zx_callV1i (q := 6) (y' := mX2_isAt) dX2_readClause_3 ml_RX2_42 ok_mX2_isAt rfl (by decide) rfl (Nat.le_of_ble_eq_true rfl) (Nat.le_of_ble_eq_true rfl) (Nat.le_refl _) (Nat.le_refl _) rfl (t_isAt _ 111 K (by omega)) ?_
  rintro _ _ ⟨rfl, rfl⟩
  refine zx_if_eq_t (t := 13) (q := 9) dX2_readClause_6 (by decide) rfl (zk_f (by simpa using h111)) ?_
  refine zx_aload_n (q := 14) dX2_readClause_13 rfl rfl rfl ?_
  refine zx_bipush (q := 16) (v := 115) dX2_readClause_14 (by decide) rfl ?_
  refine zx_callV1i (q := 19) (y' := mX2_isAt) dX2_readClause_16 ml_RX2_42 ok_mX2_isAt rfl (by decide) rfl (Nat.le_of_ble_eq_true rfl) (Nat.le_of_ble_eq_true rfl) (Nat.le_refl _) (Nat.le_refl _) rfl (t_isAt _ 115 K (by omega)) ?_
  rintro _ _ ⟨rfl, rfl⟩
  refine zx_if_eq_t (t := 26) (q := 22) dX2_readClause_19 (by decide) rfl (zk_f (by simpa using h115)) ?_
  refine zx_iconst (q := 27) (v := 2) dX2_readClause_26 (by decide) rfl ?_
  refine zx_istore1 (q := 28) dX2_readClause_27 rfl rfl ?_
  refine zx_aload_n (q := 29) dX2_readClause_28 rfl rfl rfl ?_
  refine zx_iload_n (q := 30) dX2_readClause_29 rfl rfl rfl ?_
  refine zx_if_ne_t (t := 38) (q := 33) dX2_readClause_30 (by decide) rfl (by decide) ?_
  refine zx_iload_n (q := 39) dX2_readClause_38 rfl rfl rfl ?_
  refine zx_iconst (q := 40) (v := 1) dX2_readClause_39 (by decide) rfl ?_
  refine zx_icmp_ne_t (t := 48) (q := 43) dX2_readClause_40 (by decide) rfl (by decide) ?_
  refine zx_ldcS (i := 2) (q := 50) dX2_readClause_48 (by decide) rfl rfl ?_
  refine zx_callV1v (q := 53) (y' := mX2_need) dX2_readClause_50 ml_RX2_51 ok_mX2_need rfl (by decide) rfl (Nat.le_of_ble_eq_true rfl) (Nat.le_of_ble_eq_true rfl) (Nat.le_refl _) (Nat.le_refl _) rfl (t_need _ 2 (by omega) K) ?_
  rintro _ ⟨g3, rfl, K3, e3⟩
  have hKl := zTK_len K
  cases hnd : z_nd tx len 2 (p, false) with
  | mk p1 f1 =>
    rw [hnd] at K3
    have hnl := z_nd_le hnd hKl.1
    have hnd : z_nd tx len (z_wd tx len p) (p, false) = (p1, f1) := by rw [hw]; exact hnd
    cases f1 with
    | true =>
      refine zx_aload_n (q := 54) dX2_readClause_53 rfl rfl rfl ?_
      refine zx_callV0i (q := 57) (y' := mX2_readNumber) dX2_readClause_54 ml_RX2_55 ok_mX2_readNumber rfl (by decide) rfl (Nat.le_of_ble_eq_true rfl) (Nat.le_of_ble_eq_true rfl) (Nat.le_refl _) (Nat.le_refl _) rfl (t_rnN _ K3 (Or.inl rfl)) ?_
      rintro _ _ ⟨g4, rfl, K4, e4⟩
      refine zx_istore2 (q := 58) dX2_readClause_57 rfl rfl ?_
      refine zx_iload_n (q := 59) dX2_readClause_58 rfl rfl rfl ?_
      refine zx_iconst (q := 60) (v := 2) dX2_readClause_59 (by decide) rfl ?_
      refine zx_icmp_eq_t (t := 74) (q := 63) dX2_readClause_60 (by decide) rfl (rfl) ?_
      refine zx_aload_n (q := 75) dX2_readClause_74 rfl rfl rfl ?_
      refine zy_getR (q := 78) dX2_readClause_75 fl_RX2_19 rfl rfl rfl rfl ?_
      refine zx_iload_n (q := 79) dX2_readClause_78 rfl rfl rfl ?_
      refine zx_iload_n (q := 80) dX2_readClause_79 rfl rfl rfl ?_
      refine zx_callV2v (q := 83) (y' := mX1_addClause) dX2_readClause_80 ml_RX2_65 ok_mX1_addClause (zr_F (f := none) hq).1 (by decide) rfl (Nat.le_of_ble_eq_true rfl) (Nat.le_of_ble_eq_true rfl) (Nat.le_refl _) (Nat.le_refl _) rfl (t_addC _ q nc hq _ _ _ (by rw [e4 _ _ (by omega), e3 _ _ (by omega)]; exact hn) hnc rfl) ?_
      rintro _ rfl
      refine zx_vret dX2_readClause_83 rfl (Nat.le_refl _) (Nat.le_refl _) ⟨rfl, ?_⟩
      exact ⟨_, rfl, fun k j a b => by rw [z_u_ne _ _ (by omega), z_u_ne _ _ (by omega), z_u_ne _ _ (by omega), z_u_ne _ _ (by omega)]; exact (by rw [e4 _ _ a, e3 _ _ a]), Or.inr ⟨_, Or.inl hnd, zTK_fr K4 (fun k j z => by rw [z_u_ne _ _ (by omega), z_u_ne _ _ (by omega), z_u_ne _ _ (by omega), z_u_ne _ _ (by omega)])⟩⟩
    | false =>
      cases hnm : z_nm tx len p1 with
      | mk p2 o2 =>
        have hml := z_nm_ok hnl.2 hnm
        cases o2 with
        | none =>
          have hp2 : p2 = p1 := (z_nm_no hnm).2
          subst hp2
          refine zx_aload_n (q := 54) dX2_readClause_53 rfl rfl rfl ?_
          refine zx_callV0i (q := 57) (y' := mX2_readNumber) dX2_readClause_54 ml_RX2_55 ok_mX2_readNumber rfl (by decide) rfl (Nat.le_of_ble_eq_true rfl) (Nat.le_of_ble_eq_true rfl) (Nat.le_refl _) (Nat.le_refl _) rfl (t_rnN _ K3 (Or.inr (z_nm_no hnm).1)) ?_
          rintro _ _ ⟨g4, rfl, K4, e4⟩
          refine zx_istore2 (q := 58) dX2_readClause_57 rfl rfl ?_
          refine zx_iload_n (q := 59) dX2_readClause_58 rfl rfl rfl ?_
          refine zx_iconst (q := 60) (v := 2) dX2_readClause_59 (by decide) rfl ?_
          refine zx_icmp_eq_t (t := 74) (q := 63) dX2_readClause_60 (by decide) rfl (rfl) ?_
          refine zx_aload_n (q := 75) dX2_readClause_74 rfl rfl rfl ?_
          refine zy_getR (q := 78) dX2_readClause_75 fl_RX2_19 rfl rfl rfl rfl ?_
          refine zx_iload_n (q := 79) dX2_readClause_78 rfl rfl rfl ?_
          refine zx_iload_n (q := 80) dX2_readClause_79 rfl rfl rfl ?_
          refine zx_callV2v (q := 83) (y' := mX1_addClause) dX2_readClause_80 ml_RX2_65 ok_mX1_addClause (zr_F (f := none) hq).1 (by decide) rfl (Nat.le_of_ble_eq_true rfl) (Nat.le_of_ble_eq_true rfl) (Nat.le_refl _) (Nat.le_refl _) rfl (t_addC _ q nc hq _ _ _ (by rw [e4 _ _ (by omega), e3 _ _ (by omega)]; exact hn) hnc rfl) ?_
          rintro _ rfl
          refine zx_vret dX2_readClause_83 rfl (Nat.le_refl _) (Nat.le_refl _) ⟨rfl, ?_⟩
          exact ⟨_, rfl, fun k j a b => by rw [z_u_ne _ _ (by omega), z_u_ne _ _ (by omega), z_u_ne _ _ (by omega), z_u_ne _ _ (by omega)]; exact (by rw [e4 _ _ a, e3 _ _ a]), Or.inr ⟨_, Or.inr (Or.inl ⟨_, hnd, hnm⟩), zTK_fr K4 (fun k j z => by rw [z_u_ne _ _ (by omega), z_u_ne _ _ (by omega), z_u_ne _ _ (by omega), z_u_ne _ _ (by omega)])⟩⟩
        | some n =>
          refine zx_aload_n (q := 54) dX2_readClause_53 rfl rfl rfl ?_
          refine zx_callV0i (q := 57) (y' := mX2_readNumber) dX2_readClause_54 ml_RX2_55 ok_mX2_readNumber rfl (by decide) rfl (Nat.le_of_ble_eq_true rfl) (Nat.le_of_ble_eq_true rfl) (Nat.le_refl _) (Nat.le_refl _) rfl (t_rnS _ K3 hnm) ?_
          rintro _ _ ⟨rfl, g4, rfl, K4, e4⟩
          refine zx_istore2 (q := 58) dX2_readClause_57 rfl rfl ?_
          refine zx_iload_n (q := 59) dX2_readClause_58 rfl rfl rfl ?_
          refine zx_iconst (q := 60) (v := 2) dX2_readClause_59 (by decide) rfl ?_
          refine zx_icmp_eq_t (t := 74) (q := 63) dX2_readClause_60 (by decide) rfl (rfl) ?_
          refine zx_aload_n (q := 75) dX2_readClause_74 rfl rfl rfl ?_
          refine zy_getR (q := 78) dX2_readClause_75 fl_RX2_19 rfl rfl rfl rfl ?_
          refine zx_iload_n (q := 79) dX2_readClause_78 rfl rfl rfl ?_
          refine zx_iload_n (q := 80) dX2_readClause_79 rfl rfl rfl ?_
          refine zx_callV2v (q := 83) (y' := mX1_addClause) dX2_readClause_80 ml_RX2_65 ok_mX1_addClause (zr_F (f := none) hq).1 (by decide) rfl (Nat.le_of_ble_eq_true rfl) (Nat.le_of_ble_eq_true rfl) (Nat.le_refl _) (Nat.le_refl _) rfl (t_addC _ q nc hq _ _ _ (by rw [e4 _ _ (by omega), e3 _ _ (by omega)]; exact hn) hnc rfl) ?_
          rintro _ rfl
          refine zx_vret dX2_readClause_83 rfl (Nat.le_refl _) (Nat.le_refl _) ⟨rfl, ?_⟩
          refine ⟨_, rfl, fun k j a b => ?_, Or.inl ⟨p2, n, [], ⟨p1, p2, hnd, hnm, Or.inl ⟨hw, rfl, rfl⟩⟩, zTK_fr K4 (fun k j z => by rw [z_u_ne _ _ (by omega), z_u_ne _ _ (by omega), z_u_ne _ _ (by omega), z_u_ne _ _ (by omega)]), zCd_nil ?_ (fun j => ?_), ?_, ?_, ?_, ?_, ?_⟩⟩
          · rw [z_u_ne _ _ (by omega), z_u_ne _ _ (by omega), z_u_ne _ _ (by omega), z_u_ne _ _ (by omega), e4 _ _ (by omega), e3 _ _ a]
          · rw [z_u_ne _ _ (by omega), z_u_ne _ _ (by omega), z_u_ne _ _ (by omega), z_u_ne _ _ (by omega), e4 _ _ (by omega), e3 _ _ (by omega)]; exact hc
          · rw [z_u_ne _ _ (by omega), z_u_ne _ _ (by omega), z_u_ne _ _ (by omega), z_u_ne _ _ (by omega), e4 _ _ (by omega), e3 _ _ (by omega)]
          · rw [z_u_ne _ _ (by omega), z_u_ne _ _ (by omega), z_u_ne _ _ (by omega), z_u_at, hw]; rfl
          · rw [z_u_ne _ _ (by omega), z_u_ne _ _ (by omega), z_u_at]
          · rw [z_u_ne _ _ (by omega), z_u_at, e4 _ _ (by omega), e3 _ _ (by omega), hc]; rfl
          · rw [z_u_at]
          · intro k j z hj; rw [z_u_ne _ _ (by omega), z_u_ne _ _ (by omega), z_u_ne _ _ (by omega), z_u_ne _ _ (by omega), e4 _ _ (by omega), e3 _ _ (by omega)]
theorem t_rc (d : Nat) {q : Nat} (hq : q < 6) {tx : Nat → Nat} {len p nc cl : Nat} {g : Nat → Nat → Int32} (K : zTK g tx len p false) (hn : g (66 + 5 * q) 0 = nI nc) (hnc : nc < 10) (hc : g (66 + 5 * q) 1 = nI cl) (hcl : cl ≤ p) : zCall l D tc A mX2_readClause (d + 30) 0 0 [.ref 39] (zs g gl (some (66 + 5 * q))) (zQv fun S' => ∃ g2, S' = zs g2 gl (some (66 + 5 * q)) ∧ zFrK g g2 q ∧ ((∃ q' n cs, zClS tx len p q' n cs ∧ zTK g2 tx len q' false ∧ zCd g g2 q cl cs ∧ g2 (67 + 5 * q) nc = nI (z_wd tx len p) ∧ g2 (68 + 5 * q) nc = nI n ∧ g2 (69 + 5 * q) nc = nI (cl + cs.length) ∧ g2 (66 + 5 * q) 0 = nI (nc + 1) ∧ ∀ k j, k = 67 + 5 * q ∨ k = 68 + 5 * q ∨ k = 69 + 5 * q → j < nc → g2 k j = g k j) ∨ ∃ q', zClX tx len p q' ∧ zTK g2 tx len q' true)) := by
  by_cases h111 : z_at tx len p 111 = true
  · exact t_rc0 d hq K hn hnc hc hcl h111
  · by_cases h115 : z_at tx len p 115 = true
    · exact t_rc1 d hq K hn hnc hc hcl h111 h115
    · exact t_rc2 d hq K hn hnc hc hcl h111 h115
end P56
