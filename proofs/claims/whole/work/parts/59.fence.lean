/-! goesText; op fence -/
def zFrG (g g2 : Nat → Nat → Int32) (fq : Nat) : Prop := ∀ c j, ¬ (c = 108 ∧ (j = 13 ∨ j = 14 ∨ j = 23 ∨ j = 24 ∨ j = 25)) → ¬ c = 124 → ¬ (c = 123 ∧ 100 * fq ≤ j) → ¬ (119 ≤ c ∧ c ≤ 122 ∧ 10 * fq ≤ j) → ¬ (c = 118 ∧ j = fq) → g2 c j = g c j
theorem zG_len {tx : Nat → Nat} {len p q : Nat} {L : z_L} (h : zGo tx len 0 p q (some L)) : L.length ≤ 10 := by
  have key := h (fun k _ _ r => k ≤ 9 → ∀ L : z_L, r = some L → k + L.length ≤ 10) ⟨?_, ?_, ?_, ?_, ?_⟩ (by omega) L rfl
  · omega
  · intro k p q h0 hk L hL; cases hL
  · intro k p q n cs h0 h1 hk L hL; simp only [Option.some.injEq] at hL; rw [← hL]; simp only [List.length_cons, List.length_nil]; omega
  · intro k p q n cs h0 h1 h2 hk L hL; cases hL
  · intro k p q q2 n cs h0 h1 h2 h3 ih hk L hL; cases hL
  · intro k p q q2 n cs L2 h0 h1 h2 h3 ih hk L hL
    simp only [Option.some.injEq] at hL
    rw [← hL]
    have := ih (by omega) L2 rfl
    simp only [List.length_cons]
    omega
theorem z_stFN {g : Nat → Nat → Int32} {q : Nat} (hq : q < 6) : ∀ (L : z_L) (k a : Nat), zStC g q k a L → zStM g q k (100 * q + a) L →
    g (66 + 5 * q) 0 = nI (k + L.length) ∧ g 118 q = nI (k + L.length) ∧ ∀ c, k ≤ c → c < k + L.length → (g (67 + 5 * q) c = g 119 (10 * q + c) ∧ z_rg 0 2 (g 119 (10 * q + c))) ∧ (g (68 + 5 * q) c = g 120 (10 * q + c) ∧ z_rg 0 99 (g 120 (10 * q + c))) ∧
      ∃ a' e fr : Nat, a' ≤ e ∧ e ≤ 100 ∧ fr + (e - a') ≤ 100 * (q + 1) ∧ (c = k → a' = a) ∧ (∀ c', c = c' + 1 → k ≤ c' → g (69 + 5 * q) c' = nI a') ∧ g (69 + 5 * q) c = nI e ∧
        (¬ g 119 (10 * q + c) = 2 → g 121 (10 * q + c) = nI fr ∧ g 122 (10 * q + c) = nI (fr + (e - a')) ∧ (∀ k, k < e - a' → g 123 (fr + k) = z_tok (g (70 + 5 * q) (a' + k))) ∧ z_dep (fun k => g (70 + 5 * q) (a' + k)) (e - a') = some 1) := by
  intro L
  induction L with
  | nil => intro k a h1 h2; exact ⟨h1, h2, fun c c1 c2 => by simp only [List.length_nil] at c2; omega⟩
  | cons x L ih =>
    intro k a h1 h2
    obtain ⟨⟨a1, a2⟩, ⟨a3, a4⟩, ⟨a5, a6⟩, a7, a8, a9⟩ := h1
    obtain ⟨b1, b2, b3, b4⟩ := h2
    rw [Nat.add_assoc] at b4
    obtain ⟨i1, i2, i3⟩ := ih (k + 1) (a + x.2.2.length) a9 b4
    have e1 : k + 1 + L.length = k + (L.length + 1) := by omega
    simp only [List.length_cons]
    refine ⟨by rw [i1, e1], by rw [i2, e1], fun c c1 c2 => ?_⟩
    by_cases hck : c = k
    · subst hck
      refine ⟨⟨a1.trans b1.symm, by rw [b1]; unfold z_rg; rw [nI_toInt (by omega)]; omega⟩, ⟨a3.trans b2.symm, by rw [b2]; unfold z_rg; rw [nI_toInt (by omega)]; omega⟩, a, a + x.2.2.length, 100 * q + a, by omega, a6, by omega, fun _ => rfl, fun c' h1 h2 => by omega, a5, fun hw => ?_⟩
      have hw2 : ¬ x.1 = 2 := fun z => hw (by rw [b1, z]; rfl)
      obtain ⟨d1, d2, d3⟩ := b3 hw2
      have e2 : a + x.2.2.length - a = x.2.2.length := by omega
      rw [e2]
      exact ⟨d1, d2, fun i hi => by rw [d3 i hi, a7 i hi], by rw [z_dep_0 (cs := x.2.2) (fun i hi => a7 i hi)]; exact a8 hw2⟩
    · obtain ⟨j1, j2, a', e, fr, j3, j4, j5, j6, j7, j8, j9⟩ := i3 c (by omega) (by omega)
      refine ⟨j1, j2, a', e, fr, j3, j4, j5, fun z => absurd z hck, fun c' h1 h2 => ?_, j8, j9⟩
      by_cases h3 : c' = k
      · subst h3
        rw [j6 h1, a5]
      · exact j7 c' h1 (by omega)
theorem z_FN_of {g : Nat → Nat → Int32} {q : Nat} (hq : q < 6) {L : z_L} (hL : L.length ≤ 10) (h1 : zStC g q 0 0 L) (h2 : zStM g q 0 (100 * q) L) : zFN g q := by
  obtain ⟨i1, i2, i3⟩ := z_stFN hq L 0 0 h1 h2
  rw [Nat.zero_add] at i1 i2
  refine ⟨L.length, hL, i1, i2, fun c hc => ?_⟩
  obtain ⟨j1, j2, a', e, fr, j3, j4, j5, j6, j7, j8, j9⟩ := i3 c (Nat.zero_le _) (by omega)
  exact ⟨j1, j2, a', e, fr, j3, j4, j5, j6, fun c' h => j7 c' h (Nat.zero_le _), j8, j9⟩
theorem zFN_cg2 {gi gi' : Nat → Nat → Int32} {q : Nat} (h : zFN gi q) (e1 : ∀ k j, 66 + 5 * q ≤ k → k ≤ 70 + 5 * q → gi' k j = gi k j) (e2 : gi' 118 q = gi 118 q) (e3 : ∀ k j, 119 ≤ k → k ≤ 122 → j < 10 * q + 10 → gi' k j = gi k j) (e4 : ∀ j, j < 100 * q + 100 → gi' 123 j = gi 123 j) : zFN gi' q := by
  obtain ⟨nc, h0, h1, h2, h3⟩ := h
  refine ⟨nc, h0, by rw [e1 _ _ (by omega) (by omega)]; exact h1, by rw [e2]; exact h2, fun c hc => ?_⟩
  obtain ⟨g1, g2, a, e, fr, g3, g4, g5, g6, g7, g8, g9⟩ := h3 c hc
  refine ⟨by rw [e1 _ _ (by omega) (by omega), e3 119 _ (by omega) (by omega) (by omega)]; exact g1, by rw [e1 _ _ (by omega) (by omega), e3 120 _ (by omega) (by omega) (by omega)]; exact g2, a, e, fr, g3, g4, g5, g6, fun c' hc' => by rw [e1 _ _ (by omega) (by omega)]; exact g7 c' hc', by rw [e1 _ _ (by omega) (by omega)]; exact g8, fun hw => ?_⟩
  rw [e3 119 _ (by omega) (by omega) (by omega)] at hw
  obtain ⟨i1, i2, i3, i4⟩ := g9 hw
  refine ⟨by rw [e3 121 _ (by omega) (by omega) (by omega)]; exact i1, by rw [e3 122 _ (by omega) (by omega) (by omega)]; exact i2, fun k hk => ?_, ?_⟩
  · rw [e4 _ (by omega), e1 _ _ (by omega) (by omega)]; exact i3 k hk
  · have e : (fun k => gi' (70 + 5 * q) (a + k)) = fun k => gi (70 + 5 * q) (a + k) := funext fun k => e1 _ _ (by omega) (by omega)
    rw [e]; exact i4
section P59
variable {l : Launch} {D : va_G} {tc : Nat → ClassId} {A : Nat → Prop} {S : zw_S} {gi : Nat → Nat → Int32} {gl : Nat → Nat → Int64} {f : Option Nat}
/-- what a reading of the text leaves of what is bound -/
theorem z_rel_fn {G : Nat → Nat → Int32} (hR : zRel gi gl) {nf nf' : Nat} (h6 : gi 0 6 = nI nf) (hnn : nf ≤ nf' ∧ nf' ≤ 6) (hn : G 0 6 = nI nf' ∧ G 108 10 = nI nf') (hx : G 1 9 = G 108 11 ∧ (G 1 9 = -1 ∨ ∃ q, q < nf' ∧ G 1 9 = nI q)) (hl : G 39 1 = 0 ∧ G 108 12 = 0) (hF : ∀ q, nf ≤ q → q < nf' → zFN G q)
    (e : ∀ k j, ¬ k = 39 → ¬ (66 + 5 * nf ≤ k ∧ k ≤ 70 + 5 * nf ∧ k ≤ 95) → ¬ (k = 1 ∧ j = 9) → ¬ (k = 0 ∧ j = 6) → ¬ (k = 108 ∧ ((10 ≤ j ∧ j ≤ 14) ∨ (23 ≤ j ∧ j ≤ 25))) → ¬ k = 124 → ¬ (k = 123 ∧ 100 * nf ≤ j) → ¬ (119 ≤ k ∧ k ≤ 122 ∧ 10 * nf ≤ j) → ¬ (k = 118 ∧ j = nf) → G k j = gi k j) : zRel G gl := by
  obtain ⟨nf0, ⟨h0, h1, h2⟩, h3, ⟨h4, h5⟩, h6', h7, h8, h9, h10, h11⟩ := hR
  have e0 : nf0 = nf := (nI_eq (by omega) (by omega)).mp (h1.symm.trans h6)
  subst e0
  have q : ∀ k j, ¬ k = 39 → ¬ (66 ≤ k ∧ k ≤ 95) → ¬ (k = 1 ∧ j = 9) → ¬ (k = 0 ∧ j = 6) → ¬ (k = 108 ∧ ((10 ≤ j ∧ j ≤ 14) ∨ (23 ≤ j ∧ j ≤ 25))) → ¬ (118 ≤ k ∧ k ≤ 124) → G k j = gi k j := fun k j a b c d e2 f2 => e k j a (by omega) c d e2 (by omega) (by omega) (by omega) (by omega)
  refine ⟨nf', ⟨hnn.2, hn.1, hn.2⟩, ?_, ⟨?_, ?_⟩, ?_, ?_, ?_, ?_, ?_, ?_⟩
  · obtain ⟨ns, nb, mm, g0, g1, g2, g3, g4, g5, g6, g7, g8⟩ := h3
    refine ⟨ns, nb, mm, g0, ?_, ?_, ?_, hx, zSTs_congr g5 g0.1 (fun k j hk => q _ _ (by omega) (by omega) (by omega) (by omega) (by omega) (by omega)) (fun k j hk => q _ _ (by omega) (by omega) (by omega) (by omega) (by omega) (by omega)), zSTn_congr g6 (fun k j a c => q _ _ (by omega) (by omega) (by omega) (by omega) (by omega) (by omega)), zSTt_congr g7 (fun j => q _ _ (by omega) (by omega) (by omega) (by omega) (by omega) (by omega)) (fun j => q _ _ (by omega) (by omega) (by omega) (by omega) (by omega) (by omega)), zSTb_congr g8 (fun j => ⟨q _ _ (by omega) (by omega) (by omega) (by omega) (by omega) (by omega), q _ _ (by omega) (by omega) (by omega) (by omega) (by omega) (by omega)⟩) (fun j => ⟨q _ _ (by omega) (by omega) (by omega) (by omega) (by omega) (by omega), q _ _ (by omega) (by omega) (by omega) (by omega) (by omega) (by omega)⟩)⟩
    · rw [q _ _ (by omega) (by omega) (by omega) (by omega) (by omega) (by omega), q 108 _ (by omega) (by omega) (by omega) (by omega) (by omega) (by omega)]; exact g1
    · rw [q _ _ (by omega) (by omega) (by omega) (by omega) (by omega) (by omega), q 108 _ (by omega) (by omega) (by omega) (by omega) (by omega) (by omega)]; exact g2
    · rw [q _ _ (by omega) (by omega) (by omega) (by omega) (by omega) (by omega), q 108 _ (by omega) (by omega) (by omega) (by omega) (by omega) (by omega)]; exact g3
  · rw [q 0 2 (by omega) (by omega) (by omega) (by omega) (by omega) (by omega), q 108 41 (by omega) (by omega) (by omega) (by omega) (by omega) (by omega)]; exact h4
  · rw [q 0 2 (by omega) (by omega) (by omega) (by omega) (by omega) (by omega)]
    refine h5.imp id (fun z => ⟨z.1, ?_⟩)
    have z2 := zST_congr z.2 (gi' := G) (fun j hj => q _ _ (by omega) (by omega) (by omega) (by omega) (by omega) (by omega)) (fun j hj => q _ _ (by omega) (by omega) (by omega) (by omega) (by omega) (by omega)) (fun k j a b => q _ _ (by omega) (by omega) (by omega) (by omega) (by omega) (by omega)) (fun k j a => q _ _ (by omega) (by omega) (by omega) (by omega) (by omega) (by omega))
    obtain ⟨ns, nb, mm, g0, g1, g2, g3, ⟨g4, g4'⟩, g5⟩ := z2
    exact ⟨ns, nb, mm, g0, g1, g2, g3, ⟨g4, g4'.imp id (fun ⟨q, a, b⟩ => ⟨q, by omega, b⟩)⟩, g5⟩
  · obtain ⟨len, t0, t1, t2, t3⟩ := h6'
    exact ⟨0, by omega, hl.1, hl.2, fun k hk => by rw [q 40 _ (by omega) (by omega) (by omega) (by omega) (by omega) (by omega), q 117 _ (by omega) (by omega) (by omega) (by omega) (by omega) (by omega)]; exact t3 k hk⟩
  · exact zAC_congr h7 (q _ _ (by omega) (by omega) (by omega) (by omega) (by omega) (by omega)) (q _ _ (by omega) (by omega) (by omega) (by omega) (by omega) (by omega)) (fun j => q _ _ (by omega) (by omega) (by omega) (by omega) (by omega) (by omega)) (fun j => q _ _ (by omega) (by omega) (by omega) (by omega) (by omega) (by omega))
  · exact zTP_congr h8 (fun k j a b => q _ _ (by omega) (by omega) (by omega) (by omega) (by omega) (by omega)) (fun j => q _ _ (by omega) (by omega) (by omega) (by omega) (by omega) (by omega)) (fun j => q _ _ (by omega) (by omega) (by omega) (by omega) (by omega) (by omega))
  · rw [q 41 0 (by omega) (by omega) (by omega) (by omega) (by omega) (by omega)]; exact h9
  · intro i hi
    by_cases c : i < nf0
    · exact zFN_cg2 (h10 i c) (fun k j a b => e k j (by omega) (by omega) (by omega) (by omega) (by omega) (by omega) (by omega) (by omega) (by omega)) (e _ _ (by omega) (by omega) (by omega) (by omega) (by omega) (by omega) (by omega) (by omega) (by omega)) (fun k j a b d => e _ _ (by omega) (by omega) (by omega) (by omega) (by omega) (by omega) (by omega) (by omega) (by omega)) (fun j d => e _ _ (by omega) (by omega) (by omega) (by omega) (by omega) (by omega) (by omega) (by omega) (by omega))
    · exact hF i (by omega) hi
  · exact fun k hk => by rw [q 125 k (by omega) (by omega) (by omega) (by omega) (by omega) (by omega)]; exact h11 k hk
theorem t_rI (d : Nat) {q : Nat} (hq : q < 6) {tx : Nat → Nat} {len : Nat} {g : Nat → Nat → Int32} (h1 : g 39 1 = nI len) (h2 : len ≤ 100) (h3 : ∀ k, k < 100 → g 40 k = nI (tx k) ∧ tx k < 128) : zCall l D tc A mX2_readInto (d + 31) 0 0 [.ref 39, .ref (66 + 5 * q)] (zs g gl f) (zQi fun x S' => ∃ q' r g2, S' = zs g2 gl (some (66 + 5 * q)) ∧ zGo tx len 0 0 q' r ∧ zFrK g g2 q ∧ ((r = none ∧ x = nI q' ∧ q' ≤ 100) ∨ ∃ L, r = some L ∧ x = -1 ∧ zStC g2 q 0 0 L)) := by
  show zW l D tc A mX2_readInto (d + 31) 0 0 0 0 0 [some (.ref 39), some (.ref (66 + 5 * q)), none] [] (zs g gl f) _
  refine zx_aload_n (q := 1) dX2_readInto_0 rfl rfl rfl ?_
  refine zx_aload_n (q := 2) dX2_readInto_1 rfl rfl rfl ?_
  refine zy_putF (q := 5) dX2_readInto_2 fl_RX2_19 (by omega) rfl ?_
  refine zx_aload_n (q := 6) dX2_readInto_5 rfl rfl rfl ?_
  refine zy_getR (q := 9) dX2_readInto_6 fl_RX2_19 rfl rfl rfl rfl ?_
  refine zx_callV0v (q := 12) (y' := mX1_clear) dX2_readInto_9 ml_RX2_23 ok_mX1_clear (zr_F (f := none) hq).1 (by decide) rfl (Nat.le_of_ble_eq_true rfl) (Nat.le_of_ble_eq_true rfl) (Nat.le_refl _) (Nat.le_refl _) rfl (t_clear _ q hq) ?_
  rintro _ rfl
  refine zx_aload_n (q := 13) dX2_readInto_12 rfl rfl rfl ?_
  refine zx_iconst (q := 14) (v := 0) dX2_readInto_13 (by decide) rfl ?_
  refine zy_putI (q := 17) dX2_readInto_14 fl_RX2_28 rfl rfl ⟨rfl, rfl⟩ rfl rfl ?_
  refine zx_aload_n (q := 18) dX2_readInto_17 rfl rfl rfl ?_
  refine zx_iconst (q := 19) (v := 0) dX2_readInto_18 (by decide) rfl ?_
  refine zy_putI (q := 22) dX2_readInto_19 fl_RX2_31 rfl rfl ⟨rfl, rfl⟩ rfl rfl ?_
  refine zx_iconst (q := 23) (v := 0) dX2_readInto_22 (by decide) rfl ?_
  refine zx_istore2 (q := 24) dX2_readInto_23 rfl rfl ?_
  refine zW.mono (lp_rI d hq (tx := tx) (len := len) 9 0 0 0 _ (by omega) ⟨?_, ?_, ?_, Nat.zero_le _, h2, fun k hk => ?_⟩ ?_ ?_ (Nat.le_refl _)) ?_
  · rw [z_u_ne _ _ (by omega), z_u_ne _ _ (by omega), z_u_ne _ _ (by omega), z_u_ne _ _ (by omega)]; exact h1
  · rw [z_u_ne _ _ (by omega), z_u_at]; rfl
  · rw [z_u_at]; rfl
  · rw [z_u_ne _ _ (by omega), z_u_ne _ _ (by omega), z_u_ne _ _ (by omega), z_u_ne _ _ (by omega)]; exact h3 k hk
  · rw [z_u_ne _ _ (by omega), z_u_ne _ _ (by omega), z_u_ne _ _ (by omega), z_u_at]; rfl
  · rw [z_u_ne _ _ (by omega), z_u_ne _ _ (by omega), z_u_at]; rfl
  · rintro _ S' ⟨x, hx0, q', r, g2, a1, a2, a3, a4⟩
    refine ⟨x, hx0, q', r, g2, a1, a2, fun k j b c => ?_, a4.imp id (fun ⟨L, c1, c2, _, _, c3⟩ => ⟨L, c1, c2, c3⟩)⟩
    rw [a3 k j b c, z_u_ne _ _ (by omega), z_u_ne _ _ (by omega), z_u_ne _ _ (by omega), z_u_ne _ _ (by omega)]
def zGMx (l : Launch) (D : va_G) (tc : Nat → ClassId) (A : Nat → Prop) (gl : Nat → Nat → Int64) (f : Option Nat) (tx : Nat → Nat) (len dl fq : Nat) (k p q : Nat) : Prop := ∀ (Q : Option Value → zw_S → Prop) (g : Nat → Nat → Int32) (sg : Nat), zRK g tx len p → g 108 23 = nI sg → 100 * fq ≤ sg → sg ≤ 100 * fq + p → k ≤ 9 → fq < 6 → (∀ j, j < 10 → g 125 j = z_lts j) → (∀ g2, g2 108 13 = nI q → zFrG g g2 fq → Q (some (.int 0)) (zs g2 gl f)) → zW l D tc A mX8_goesText (dl + 7) 0 0 0 0 15 [some (.ref 108), some (.int (nI fq)), some (.int (nI k))] [] (zs g gl f) Q
def zGMs (l : Launch) (D : va_G) (tc : Nat → ClassId) (A : Nat → Prop) (gl : Nat → Nat → Int64) (f : Option Nat) (tx : Nat → Nat) (len dl fq : Nat) (k p q : Nat) (L : z_L) : Prop := ∀ (Q : Option Value → zw_S → Prop) (g : Nat → Nat → Int32) (sg : Nat), zRK g tx len p → g 108 23 = nI sg → 100 * fq ≤ sg → sg ≤ 100 * fq + p → k ≤ 9 → fq < 6 → (∀ j, j < 10 → g 125 j = z_lts j) → (∀ g2, zStM g2 fq k sg L → zFrG g g2 fq → (∀ j, j < sg → g2 123 j = g 123 j) → (∀ c j, 119 ≤ c → c ≤ 122 → j < 10 * fq + k → g2 c j = g c j) → Q (some (.int 1)) (zs g2 gl f)) → zW l D tc A mX8_goesText (dl + 7) 0 0 0 0 15 [some (.ref 108), some (.int (nI fq)), some (.int (nI k))] [] (zs g gl f) Q
def zGM (l : Launch) (D : va_G) (tc : Nat → ClassId) (A : Nat → Prop) (gl : Nat → Nat → Int64) (f : Option Nat) (tx : Nat → Nat) (len dl fq : Nat) : Nat → Nat → Nat → Option z_L → Prop := fun k p q r => match r with
  | none => zGMx l D tc A gl f tx len dl fq k p q
  | some L => zGMs l D tc A gl f tx len dl fq k p q L
theorem zGM_1 {tx : Nat → Nat} {len dl fq : Nat} : z_gu1 tx len (zGM l D tc A gl f tx len dl fq) := by
  intro k p q h0 Q g sg K hsg hB hsB hk9 hf6 hL kf
  refine zx_aload_n (q := 16) dX8_goesText_15 rfl rfl rfl ?_
  refine zx_bipush (q := 18) (v := 10) dX8_goesText_16 (by decide) rfl ?_
  refine zx_iload_n (q := 19) dX8_goesText_18 rfl rfl rfl ?_
  refine zx_imul (q := 20) dX8_goesText_19 rfl ?_
  refine zx_iload_n (q := 21) dX8_goesText_20 rfl rfl rfl ?_
  refine zx_iadd (q := 22) dX8_goesText_21 rfl ?_
  rw [show (10 : Int32) * nI fq + nI k = nI (10 * fq + k) from by rw [show (10 : Int32) = nI 10 from rfl, z_mul, nI_add]]
  refine zx_callV1i (q := 25) (y' := mX8_takesClause) dX8_goesText_22 ml_RX8_252 ok_mX8_takesClause rfl (by decide) rfl (Nat.le_of_ble_eq_true rfl) (Nat.le_of_ble_eq_true rfl) (Nat.le_refl _) (Nat.le_refl _) rfl (t_M_clX _ (10 * fq + k) (by omega) K hsg hB hsB (by omega) hL h0) ?_
  rintro _ _ ⟨rfl, g3, rfl, a3, e3⟩
  refine zx_if_ne_f (t := 30) (q := 28) dX8_goesText_25 (by decide) rfl (rfl) ?_
  refine zx_iconst (q := 29) (v := 0) dX8_goesText_28 (by decide) rfl ?_
  refine zx_zret dX8_goesText_29 rfl rfl (Nat.le_refl _) (Nat.le_refl _) ?_
  exact kf g3 a3 (fun c j a b d e1 e2 => e3 c j a b d (by omega))
theorem zGM_2 {tx : Nat → Nat} {len dl fq : Nat} : z_gu2 tx len (zGM l D tc A gl f tx len dl fq) := by
  intro k p q n cs h0 h1 Q g sg K hsg hB hsB hk9 hf6 hL kk
  refine zx_aload_n (q := 16) dX8_goesText_15 rfl rfl rfl ?_
  refine zx_bipush (q := 18) (v := 10) dX8_goesText_16 (by decide) rfl ?_
  refine zx_iload_n (q := 19) dX8_goesText_18 rfl rfl rfl ?_
  refine zx_imul (q := 20) dX8_goesText_19 rfl ?_
  refine zx_iload_n (q := 21) dX8_goesText_20 rfl rfl rfl ?_
  refine zx_iadd (q := 22) dX8_goesText_21 rfl ?_
  rw [show (10 : Int32) * nI fq + nI k = nI (10 * fq + k) from by rw [show (10 : Int32) = nI 10 from rfl, z_mul, nI_add]]
  refine zx_callV1i (q := 25) (y' := mX8_takesClause) dX8_goesText_22 ml_RX8_252 ok_mX8_takesClause rfl (by decide) rfl (Nat.le_of_ble_eq_true rfl) (Nat.le_of_ble_eq_true rfl) (Nat.le_refl _) (Nat.le_refl _) rfl (t_M_clS _ (10 * fq + k) (by omega) K hsg hB hsB (by omega) hL h0) ?_
  rintro _ _ ⟨rfl, g3, rfl, K3, s3, sg3, w3, n3, t3, e3⟩
  obtain ⟨ok1, ok2, ok3, ok4, ok5⟩ := zClS_ok h0 K.2.2.1
  refine zx_if_ne_t (t := 30) (q := 28) dX8_goesText_25 (by decide) rfl (by decide) ?_
  refine zx_iinc2 (q := 33) dX8_goesText_30 rfl rfl ?_
  rw [z_inc]
  refine zx_aload_n (q := 34) dX8_goesText_33 rfl rfl rfl ?_
  refine zy_getR (q := 37) dX8_goesText_34 fl_RX8_59 rfl rfl rfl rfl ?_
  refine zx_iload_n (q := 38) dX8_goesText_37 rfl rfl rfl ?_
  refine zx_iload_n (q := 39) dX8_goesText_38 rfl rfl rfl ?_
  refine zy_iastN (q := 40) dX8_goesText_39 rfl (by omega) (by first | decide | omega) rfl ?_
  refine zx_aload_n (q := 41) dX8_goesText_40 rfl rfl rfl ?_
  refine zy_getIe (q := 44) (v := nI q) dX8_goesText_41 fl_RX8_50 rfl rfl (by rw [z_u_ne _ _ (by omega)]; exact K3.2.1) rfl ?_
  refine zx_aload_n (q := 45) dX8_goesText_44 rfl rfl rfl ?_
  refine zy_getIe (q := 48) (v := nI len) dX8_goesText_45 fl_RX8_47 rfl rfl (by rw [z_u_ne _ _ (by omega)]; exact K3.1) rfl ?_
  refine zx_icmp_ne_f (t := 53) (q := 51) dX8_goesText_48 (by decide) rfl (by rw [h1]) ?_
  refine zx_iconst (q := 52) (v := 1) dX8_goesText_51 (by decide) rfl ?_
  refine zx_zret dX8_goesText_52 rfl rfl (Nat.le_refl _) (Nat.le_refl _) ?_
  exact kk _ ⟨by rw [z_u_ne _ _ (by omega)]; exact w3, by rw [z_u_ne _ _ (by omega)]; exact n3, fun z => ⟨by rw [z_u_ne _ _ (by omega)]; exact (t3 z).1, by rw [z_u_ne _ _ (by omega)]; exact (t3 z).2, fun i hi => by rw [z_u_ne _ _ (by omega)]; exact sg3.1 i hi⟩, z_u_at _ _ _ _⟩ (fun c j a b d e1 e2 => by rw [z_u_ne _ _ (by omega)]; exact e3 c j a b d (by omega)) (fun j hj => by rw [z_u_ne _ _ (by omega)]; exact sg3.2 j hj) (fun c j a b hj => by rw [z_u_ne _ _ (by omega)]; exact e3 c j (by omega) (by omega) (by omega) (by omega))
theorem zGM_3 {tx : Nat → Nat} {len dl fq : Nat} : z_gu3 tx len (zGM l D tc A gl f tx len dl fq) := by
  intro k p q n cs h0 h1 h2 Q g sg K hsg hB hsB hk9 hf6 hL kf
  rcases h2 with h2 | h2
  · refine zx_aload_n (q := 16) dX8_goesText_15 rfl rfl rfl ?_
    refine zx_bipush (q := 18) (v := 10) dX8_goesText_16 (by decide) rfl ?_
    refine zx_iload_n (q := 19) dX8_goesText_18 rfl rfl rfl ?_
    refine zx_imul (q := 20) dX8_goesText_19 rfl ?_
    refine zx_iload_n (q := 21) dX8_goesText_20 rfl rfl rfl ?_
    refine zx_iadd (q := 22) dX8_goesText_21 rfl ?_
    rw [show (10 : Int32) * nI fq + nI k = nI (10 * fq + k) from by rw [show (10 : Int32) = nI 10 from rfl, z_mul, nI_add]]
    refine zx_callV1i (q := 25) (y' := mX8_takesClause) dX8_goesText_22 ml_RX8_252 ok_mX8_takesClause rfl (by decide) rfl (Nat.le_of_ble_eq_true rfl) (Nat.le_of_ble_eq_true rfl) (Nat.le_refl _) (Nat.le_refl _) rfl (t_M_clS _ (10 * fq + k) (by omega) K hsg hB hsB (by omega) hL h0) ?_
    rintro _ _ ⟨rfl, g3, rfl, K3, s3, sg3, w3, n3, t3, e3⟩
    obtain ⟨ok1, ok2, ok3, ok4, ok5⟩ := zClS_ok h0 K.2.2.1
    refine zx_if_ne_t (t := 30) (q := 28) dX8_goesText_25 (by decide) rfl (by decide) ?_
    refine zx_iinc2 (q := 33) dX8_goesText_30 rfl rfl ?_
    rw [z_inc]
    refine zx_aload_n (q := 34) dX8_goesText_33 rfl rfl rfl ?_
    refine zy_getR (q := 37) dX8_goesText_34 fl_RX8_59 rfl rfl rfl rfl ?_
    refine zx_iload_n (q := 38) dX8_goesText_37 rfl rfl rfl ?_
    refine zx_iload_n (q := 39) dX8_goesText_38 rfl rfl rfl ?_
    refine zy_iastN (q := 40) dX8_goesText_39 rfl (by omega) (by first | decide | omega) rfl ?_
    refine zx_aload_n (q := 41) dX8_goesText_40 rfl rfl rfl ?_
    refine zy_getIe (q := 44) (v := nI q) dX8_goesText_41 fl_RX8_50 rfl rfl (by rw [z_u_ne _ _ (by omega)]; exact K3.2.1) rfl ?_
    refine zx_aload_n (q := 45) dX8_goesText_44 rfl rfl rfl ?_
    refine zy_getIe (q := 48) (v := nI len) dX8_goesText_45 fl_RX8_47 rfl rfl (by rw [z_u_ne _ _ (by omega)]; exact K3.1) rfl ?_
    refine zx_icmp_ne_t (t := 53) (q := 51) dX8_goesText_48 (by decide) rfl (fun z => h1 ((nI_eq (by have := K.2.2.2.1; omega) (by have := K.2.2.2.1; omega)).mp z)) ?_
    refine zx_iload_n (q := 54) dX8_goesText_53 rfl rfl rfl ?_
    refine zx_bipush (q := 56) (v := 10) dX8_goesText_54 (by decide) rfl ?_
    refine zx_icmp_eq_t (t := 68) (q := 59) dX8_goesText_56 (by decide) rfl (by rw [h2]; rfl) ?_
    refine zx_iconst (q := 69) (v := 0) dX8_goesText_68 (by decide) rfl ?_
    refine zx_zret dX8_goesText_69 rfl rfl (Nat.le_refl _) (Nat.le_refl _) ?_
    exact kf _ (by rw [z_u_ne _ _ (by omega)]; exact K3.2.1) (fun c j a b d e1 e2 => by rw [z_u_ne _ _ (by omega)]; exact e3 c j a b d (by omega))
  · by_cases hk : k = 9
    · have h2 := hk
      clear hk
      refine zx_aload_n (q := 16) dX8_goesText_15 rfl rfl rfl ?_
      refine zx_bipush (q := 18) (v := 10) dX8_goesText_16 (by decide) rfl ?_
      refine zx_iload_n (q := 19) dX8_goesText_18 rfl rfl rfl ?_
      refine zx_imul (q := 20) dX8_goesText_19 rfl ?_
      refine zx_iload_n (q := 21) dX8_goesText_20 rfl rfl rfl ?_
      refine zx_iadd (q := 22) dX8_goesText_21 rfl ?_
      rw [show (10 : Int32) * nI fq + nI k = nI (10 * fq + k) from by rw [show (10 : Int32) = nI 10 from rfl, z_mul, nI_add]]
      refine zx_callV1i (q := 25) (y' := mX8_takesClause) dX8_goesText_22 ml_RX8_252 ok_mX8_takesClause rfl (by decide) rfl (Nat.le_of_ble_eq_true rfl) (Nat.le_of_ble_eq_true rfl) (Nat.le_refl _) (Nat.le_refl _) rfl (t_M_clS _ (10 * fq + k) (by omega) K hsg hB hsB (by omega) hL h0) ?_
      rintro _ _ ⟨rfl, g3, rfl, K3, s3, sg3, w3, n3, t3, e3⟩
      obtain ⟨ok1, ok2, ok3, ok4, ok5⟩ := zClS_ok h0 K.2.2.1
      refine zx_if_ne_t (t := 30) (q := 28) dX8_goesText_25 (by decide) rfl (by decide) ?_
      refine zx_iinc2 (q := 33) dX8_goesText_30 rfl rfl ?_
      rw [z_inc]
      refine zx_aload_n (q := 34) dX8_goesText_33 rfl rfl rfl ?_
      refine zy_getR (q := 37) dX8_goesText_34 fl_RX8_59 rfl rfl rfl rfl ?_
      refine zx_iload_n (q := 38) dX8_goesText_37 rfl rfl rfl ?_
      refine zx_iload_n (q := 39) dX8_goesText_38 rfl rfl rfl ?_
      refine zy_iastN (q := 40) dX8_goesText_39 rfl (by omega) (by first | decide | omega) rfl ?_
      refine zx_aload_n (q := 41) dX8_goesText_40 rfl rfl rfl ?_
      refine zy_getIe (q := 44) (v := nI q) dX8_goesText_41 fl_RX8_50 rfl rfl (by rw [z_u_ne _ _ (by omega)]; exact K3.2.1) rfl ?_
      refine zx_aload_n (q := 45) dX8_goesText_44 rfl rfl rfl ?_
      refine zy_getIe (q := 48) (v := nI len) dX8_goesText_45 fl_RX8_47 rfl rfl (by rw [z_u_ne _ _ (by omega)]; exact K3.1) rfl ?_
      refine zx_icmp_ne_t (t := 53) (q := 51) dX8_goesText_48 (by decide) rfl (fun z => h1 ((nI_eq (by have := K.2.2.2.1; omega) (by have := K.2.2.2.1; omega)).mp z)) ?_
      refine zx_iload_n (q := 54) dX8_goesText_53 rfl rfl rfl ?_
      refine zx_bipush (q := 56) (v := 10) dX8_goesText_54 (by decide) rfl ?_
      refine zx_icmp_eq_t (t := 68) (q := 59) dX8_goesText_56 (by decide) rfl (by rw [h2]; rfl) ?_
      refine zx_iconst (q := 69) (v := 0) dX8_goesText_68 (by decide) rfl ?_
      refine zx_zret dX8_goesText_69 rfl rfl (Nat.le_refl _) (Nat.le_refl _) ?_
      exact kf _ (by rw [z_u_ne _ _ (by omega)]; exact K3.2.1) (fun c j a b d e1 e2 => by rw [z_u_ne _ _ (by omega)]; exact e3 c j a b d (by omega))
    · refine zx_aload_n (q := 16) dX8_goesText_15 rfl rfl rfl ?_
      refine zx_bipush (q := 18) (v := 10) dX8_goesText_16 (by decide) rfl ?_
      refine zx_iload_n (q := 19) dX8_goesText_18 rfl rfl rfl ?_
      refine zx_imul (q := 20) dX8_goesText_19 rfl ?_
      refine zx_iload_n (q := 21) dX8_goesText_20 rfl rfl rfl ?_
      refine zx_iadd (q := 22) dX8_goesText_21 rfl ?_
      rw [show (10 : Int32) * nI fq + nI k = nI (10 * fq + k) from by rw [show (10 : Int32) = nI 10 from rfl, z_mul, nI_add]]
      refine zx_callV1i (q := 25) (y' := mX8_takesClause) dX8_goesText_22 ml_RX8_252 ok_mX8_takesClause rfl (by decide) rfl (Nat.le_of_ble_eq_true rfl) (Nat.le_of_ble_eq_true rfl) (Nat.le_refl _) (Nat.le_refl _) rfl (t_M_clS _ (10 * fq + k) (by omega) K hsg hB hsB (by omega) hL h0) ?_
      rintro _ _ ⟨rfl, g3, rfl, K3, s3, sg3, w3, n3, t3, e3⟩
      obtain ⟨ok1, ok2, ok3, ok4, ok5⟩ := zClS_ok h0 K.2.2.1
      refine zx_if_ne_t (t := 30) (q := 28) dX8_goesText_25 (by decide) rfl (by decide) ?_
      refine zx_iinc2 (q := 33) dX8_goesText_30 rfl rfl ?_
      rw [z_inc]
      refine zx_aload_n (q := 34) dX8_goesText_33 rfl rfl rfl ?_
      refine zy_getR (q := 37) dX8_goesText_34 fl_RX8_59 rfl rfl rfl rfl ?_
      refine zx_iload_n (q := 38) dX8_goesText_37 rfl rfl rfl ?_
      refine zx_iload_n (q := 39) dX8_goesText_38 rfl rfl rfl ?_
      refine zy_iastN (q := 40) dX8_goesText_39 rfl (by omega) (by first | decide | omega) rfl ?_
      refine zx_aload_n (q := 41) dX8_goesText_40 rfl rfl rfl ?_
      refine zy_getIe (q := 44) (v := nI q) dX8_goesText_41 fl_RX8_50 rfl rfl (by rw [z_u_ne _ _ (by omega)]; exact K3.2.1) rfl ?_
      refine zx_aload_n (q := 45) dX8_goesText_44 rfl rfl rfl ?_
      refine zy_getIe (q := 48) (v := nI len) dX8_goesText_45 fl_RX8_47 rfl rfl (by rw [z_u_ne _ _ (by omega)]; exact K3.1) rfl ?_
      refine zx_icmp_ne_t (t := 53) (q := 51) dX8_goesText_48 (by decide) rfl (fun z => h1 ((nI_eq (by have := K.2.2.2.1; omega) (by have := K.2.2.2.1; omega)).mp z)) ?_
      refine zx_iload_n (q := 54) dX8_goesText_53 rfl rfl rfl ?_
      refine zx_bipush (q := 56) (v := 10) dX8_goesText_54 (by decide) rfl ?_
      refine zx_icmp_eq_f (t := 68) (q := 59) dX8_goesText_56 (by decide) rfl (fun z => absurd ((nI_eq (b := 10) (by omega) (by omega)).mp z) (by omega)) ?_
      refine zx_aload_n (q := 60) dX8_goesText_59 rfl rfl rfl ?_
      refine zx_bipush (q := 62) (v := 59) dX8_goesText_60 (by decide) rfl ?_
      refine zx_callV1i (q := 65) (y' := mX8_takes) dX8_goesText_62 ml_RX8_215 ok_mX8_takes rfl (by decide) rfl (Nat.le_of_ble_eq_true rfl) (Nat.le_of_ble_eq_true rfl) (Nat.le_refl _) (Nat.le_refl _) rfl (t_M_takes _ (zRK_fr K3 (fun k j z => z_u_ne _ _ (by omega))) 59 (by omega)) ?_
      rintro _ _ ⟨rfl, rfl⟩
      rw [if_neg h2]
      refine zx_if_ne_f (t := 15) (q := 68) dX8_goesText_65 (by decide) rfl (zk_f h2) ?_
      refine zx_iconst (q := 69) (v := 0) dX8_goesText_68 (by decide) rfl ?_
      refine zx_zret dX8_goesText_69 rfl rfl (Nat.le_refl _) (Nat.le_refl _) ?_
      exact kf _ (by rw [z_u_ne _ _ (by omega)]; exact K3.2.1) (fun c j a b d e1 e2 => by rw [z_u_ne _ _ (by omega)]; exact e3 c j a b d (by omega))
theorem zGM_4 {tx : Nat → Nat} {len dl fq : Nat} : z_gu4 tx len (zGM l D tc A gl f tx len dl fq) := by
  intro k p q q2 n cs h0 h1 h2 h3 ih Q g sg K hsg hB hsB hk9 hf6 hL kf
  refine zx_aload_n (q := 16) dX8_goesText_15 rfl rfl rfl ?_
  refine zx_bipush (q := 18) (v := 10) dX8_goesText_16 (by decide) rfl ?_
  refine zx_iload_n (q := 19) dX8_goesText_18 rfl rfl rfl ?_
  refine zx_imul (q := 20) dX8_goesText_19 rfl ?_
  refine zx_iload_n (q := 21) dX8_goesText_20 rfl rfl rfl ?_
  refine zx_iadd (q := 22) dX8_goesText_21 rfl ?_
  rw [show (10 : Int32) * nI fq + nI k = nI (10 * fq + k) from by rw [show (10 : Int32) = nI 10 from rfl, z_mul, nI_add]]
  refine zx_callV1i (q := 25) (y' := mX8_takesClause) dX8_goesText_22 ml_RX8_252 ok_mX8_takesClause rfl (by decide) rfl (Nat.le_of_ble_eq_true rfl) (Nat.le_of_ble_eq_true rfl) (Nat.le_refl _) (Nat.le_refl _) rfl (t_M_clS _ (10 * fq + k) (by omega) K hsg hB hsB (by omega) hL h0) ?_
  rintro _ _ ⟨rfl, g3, rfl, K3, s3, sg3, w3, n3, t3, e3⟩
  obtain ⟨ok1, ok2, ok3, ok4, ok5⟩ := zClS_ok h0 K.2.2.1
  refine zx_if_ne_t (t := 30) (q := 28) dX8_goesText_25 (by decide) rfl (by decide) ?_
  refine zx_iinc2 (q := 33) dX8_goesText_30 rfl rfl ?_
  rw [z_inc]
  refine zx_aload_n (q := 34) dX8_goesText_33 rfl rfl rfl ?_
  refine zy_getR (q := 37) dX8_goesText_34 fl_RX8_59 rfl rfl rfl rfl ?_
  refine zx_iload_n (q := 38) dX8_goesText_37 rfl rfl rfl ?_
  refine zx_iload_n (q := 39) dX8_goesText_38 rfl rfl rfl ?_
  refine zy_iastN (q := 40) dX8_goesText_39 rfl (by omega) (by first | decide | omega) rfl ?_
  refine zx_aload_n (q := 41) dX8_goesText_40 rfl rfl rfl ?_
  refine zy_getIe (q := 44) (v := nI q) dX8_goesText_41 fl_RX8_50 rfl rfl (by rw [z_u_ne _ _ (by omega)]; exact K3.2.1) rfl ?_
  refine zx_aload_n (q := 45) dX8_goesText_44 rfl rfl rfl ?_
  refine zy_getIe (q := 48) (v := nI len) dX8_goesText_45 fl_RX8_47 rfl rfl (by rw [z_u_ne _ _ (by omega)]; exact K3.1) rfl ?_
  refine zx_icmp_ne_t (t := 53) (q := 51) dX8_goesText_48 (by decide) rfl (fun z => h1 ((nI_eq (by have := K.2.2.2.1; omega) (by have := K.2.2.2.1; omega)).mp z)) ?_
  refine zx_iload_n (q := 54) dX8_goesText_53 rfl rfl rfl ?_
  refine zx_bipush (q := 56) (v := 10) dX8_goesText_54 (by decide) rfl ?_
  refine zx_icmp_eq_f (t := 68) (q := 59) dX8_goesText_56 (by decide) rfl (fun z => absurd ((nI_eq (b := 10) (by omega) (by omega)).mp z) (by omega)) ?_
  refine zx_aload_n (q := 60) dX8_goesText_59 rfl rfl rfl ?_
  refine zx_bipush (q := 62) (v := 59) dX8_goesText_60 (by decide) rfl ?_
  refine zx_callV1i (q := 65) (y' := mX8_takes) dX8_goesText_62 ml_RX8_215 ok_mX8_takes rfl (by decide) rfl (Nat.le_of_ble_eq_true rfl) (Nat.le_of_ble_eq_true rfl) (Nat.le_refl _) (Nat.le_refl _) rfl (t_M_takes _ (zRK_fr K3 (fun k j z => z_u_ne _ _ (by omega))) 59 (by omega)) ?_
  rintro _ _ ⟨rfl, rfl⟩
  rw [if_pos h3]
  refine zx_if_ne_t (t := 15) (q := 68) dX8_goesText_65 (by decide) rfl (zk_t h3) ?_
  exact ih _ (zw_u (zw_u g3 118 fq (nI (k + 1))) 108 13 (nI (q + 1))) (sg + cs.length) (zRK_adv (zRK_fr K3 (fun k j z => z_u_ne _ _ (by omega))) (z_at_p h3)) (by rw [z_u_ne _ _ (by omega), z_u_ne _ _ (by omega)]; exact s3) (by omega) (by omega) (by omega) hf6 (fun j hj => by rw [z_u_ne _ _ (by omega), z_u_ne _ _ (by omega), e3 _ _ (by omega) (by omega) (by omega) (by omega)]; exact hL j hj) (fun g4 a4 f4 => kf g4 a4 (fun c j a b d e1 e2 => by rw [f4 c j a b d e1 e2, z_u_ne _ _ (by omega), z_u_ne _ _ (by omega)]; exact e3 c j a b d (by omega)))
theorem zGM_5 {tx : Nat → Nat} {len dl fq : Nat} : z_gu5 tx len (zGM l D tc A gl f tx len dl fq) := by
  intro k p q q2 n cs L h0 h1 h2 h3 ih Q g sg K hsg hB hsB hk9 hf6 hL kk
  refine zx_aload_n (q := 16) dX8_goesText_15 rfl rfl rfl ?_
  refine zx_bipush (q := 18) (v := 10) dX8_goesText_16 (by decide) rfl ?_
  refine zx_iload_n (q := 19) dX8_goesText_18 rfl rfl rfl ?_
  refine zx_imul (q := 20) dX8_goesText_19 rfl ?_
  refine zx_iload_n (q := 21) dX8_goesText_20 rfl rfl rfl ?_
  refine zx_iadd (q := 22) dX8_goesText_21 rfl ?_
  rw [show (10 : Int32) * nI fq + nI k = nI (10 * fq + k) from by rw [show (10 : Int32) = nI 10 from rfl, z_mul, nI_add]]
  refine zx_callV1i (q := 25) (y' := mX8_takesClause) dX8_goesText_22 ml_RX8_252 ok_mX8_takesClause rfl (by decide) rfl (Nat.le_of_ble_eq_true rfl) (Nat.le_of_ble_eq_true rfl) (Nat.le_refl _) (Nat.le_refl _) rfl (t_M_clS _ (10 * fq + k) (by omega) K hsg hB hsB (by omega) hL h0) ?_
  rintro _ _ ⟨rfl, g3, rfl, K3, s3, sg3, w3, n3, t3, e3⟩
  obtain ⟨ok1, ok2, ok3, ok4, ok5⟩ := zClS_ok h0 K.2.2.1
  refine zx_if_ne_t (t := 30) (q := 28) dX8_goesText_25 (by decide) rfl (by decide) ?_
  refine zx_iinc2 (q := 33) dX8_goesText_30 rfl rfl ?_
  rw [z_inc]
  refine zx_aload_n (q := 34) dX8_goesText_33 rfl rfl rfl ?_
  refine zy_getR (q := 37) dX8_goesText_34 fl_RX8_59 rfl rfl rfl rfl ?_
  refine zx_iload_n (q := 38) dX8_goesText_37 rfl rfl rfl ?_
  refine zx_iload_n (q := 39) dX8_goesText_38 rfl rfl rfl ?_
  refine zy_iastN (q := 40) dX8_goesText_39 rfl (by omega) (by first | decide | omega) rfl ?_
  refine zx_aload_n (q := 41) dX8_goesText_40 rfl rfl rfl ?_
  refine zy_getIe (q := 44) (v := nI q) dX8_goesText_41 fl_RX8_50 rfl rfl (by rw [z_u_ne _ _ (by omega)]; exact K3.2.1) rfl ?_
  refine zx_aload_n (q := 45) dX8_goesText_44 rfl rfl rfl ?_
  refine zy_getIe (q := 48) (v := nI len) dX8_goesText_45 fl_RX8_47 rfl rfl (by rw [z_u_ne _ _ (by omega)]; exact K3.1) rfl ?_
  refine zx_icmp_ne_t (t := 53) (q := 51) dX8_goesText_48 (by decide) rfl (fun z => h1 ((nI_eq (by have := K.2.2.2.1; omega) (by have := K.2.2.2.1; omega)).mp z)) ?_
  refine zx_iload_n (q := 54) dX8_goesText_53 rfl rfl rfl ?_
  refine zx_bipush (q := 56) (v := 10) dX8_goesText_54 (by decide) rfl ?_
  refine zx_icmp_eq_f (t := 68) (q := 59) dX8_goesText_56 (by decide) rfl (fun z => absurd ((nI_eq (b := 10) (by omega) (by omega)).mp z) (by omega)) ?_
  refine zx_aload_n (q := 60) dX8_goesText_59 rfl rfl rfl ?_
  refine zx_bipush (q := 62) (v := 59) dX8_goesText_60 (by decide) rfl ?_
  refine zx_callV1i (q := 65) (y' := mX8_takes) dX8_goesText_62 ml_RX8_215 ok_mX8_takes rfl (by decide) rfl (Nat.le_of_ble_eq_true rfl) (Nat.le_of_ble_eq_true rfl) (Nat.le_refl _) (Nat.le_refl _) rfl (t_M_takes _ (zRK_fr K3 (fun k j z => z_u_ne _ _ (by omega))) 59 (by omega)) ?_
  rintro _ _ ⟨rfl, rfl⟩
  rw [if_pos h3]
  refine zx_if_ne_t (t := 15) (q := 68) dX8_goesText_65 (by decide) rfl (zk_t h3) ?_
  refine ih _ (zw_u (zw_u g3 118 fq (nI (k + 1))) 108 13 (nI (q + 1))) (sg + cs.length) (zRK_adv (zRK_fr K3 (fun k j z => z_u_ne _ _ (by omega))) (z_at_p h3)) (by rw [z_u_ne _ _ (by omega), z_u_ne _ _ (by omega)]; exact s3) (by omega) (by omega) (by omega) hf6 (fun j hj => by rw [z_u_ne _ _ (by omega), z_u_ne _ _ (by omega), e3 _ _ (by omega) (by omega) (by omega) (by omega)]; exact hL j hj) (fun g4 a4 f4 s4 c4 => kk g4 ⟨?_, ?_, fun z => ⟨?_, ?_, fun i hi => ?_⟩, a4⟩ (fun c j a b d e1 e2 => by rw [f4 c j a b d e1 e2, z_u_ne _ _ (by omega), z_u_ne _ _ (by omega)]; exact e3 c j a b d (by omega)) (fun j hj => ?_) (fun c j a b hj => ?_))
  · rw [c4 _ _ (by omega) (by omega) (by omega), z_u_ne _ _ (by omega), z_u_ne _ _ (by omega)]; exact w3
  · rw [c4 _ _ (by omega) (by omega) (by omega), z_u_ne _ _ (by omega), z_u_ne _ _ (by omega)]; exact n3
  · rw [c4 _ _ (by omega) (by omega) (by omega), z_u_ne _ _ (by omega), z_u_ne _ _ (by omega)]; exact (t3 z).1
  · rw [c4 _ _ (by omega) (by omega) (by omega), z_u_ne _ _ (by omega), z_u_ne _ _ (by omega)]; exact (t3 z).2
  · have hi2 : i < cs.length := hi
    rw [s4 _ (by omega), z_u_ne _ _ (by omega), z_u_ne _ _ (by omega)]; exact sg3.1 i hi2
  · rw [s4 _ (by omega), z_u_ne _ _ (by omega), z_u_ne _ _ (by omega)]; exact sg3.2 j hj
  · rw [c4 _ _ a b (by omega), z_u_ne _ _ (by omega), z_u_ne _ _ (by omega)]; exact e3 c j (by omega) (by omega) (by omega) (by omega)
theorem zGM_ok {tx : Nat → Nat} {len dl fq : Nat} : z_gu tx len (zGM l D tc A gl f tx len dl fq) := ⟨zGM_1, zGM_2, zGM_3, zGM_4, zGM_5⟩
theorem t_M_goX (dl fq : Nat) (hf6 : fq < 6) {tx : Nat → Nat} {len q : Nat} {g : Nat → Nat → Int32} (h1 : g 108 12 = nI len) (h2 : len ≤ 100) (h3 : ∀ k, k < 100 → g 117 k = nI (tx k) ∧ tx k < 128) (hL : ∀ j, j < 10 → g 125 j = z_lts j) (h : zGo tx len 0 0 q none) : zCall l D tc A mX8_goesText (dl + 7) 0 0 [.ref 108, .int (nI fq)] (zs g gl f) (zQi fun x S' => x = 0 ∧ ∃ g2, S' = zs g2 gl f ∧ g2 108 13 = nI q ∧ zFrG g g2 fq) := by
  show zW l D tc A mX8_goesText (dl + 7) 0 0 0 0 0 [some (.ref 108), some (.int (nI fq)), none] [] (zs g gl f) _
  refine zx_aload_n (q := 1) dX8_goesText_0 rfl rfl rfl ?_
  refine zx_iconst (q := 2) (v := 0) dX8_goesText_1 (by decide) rfl ?_
  refine zy_putI (q := 5) dX8_goesText_2 fl_RX8_50 rfl rfl ⟨rfl, rfl⟩ rfl rfl ?_
  refine zx_aload_n (q := 6) dX8_goesText_5 rfl rfl rfl ?_
  refine zx_bipush (q := 8) (v := 100) dX8_goesText_6 (by decide) rfl ?_
  refine zx_iload_n (q := 9) dX8_goesText_8 rfl rfl rfl ?_
  refine zx_imul (q := 10) dX8_goesText_9 rfl ?_
  rw [show (100 : Int32) * nI fq = nI (100 * fq) from by rw [show (100 : Int32) = nI 100 from rfl, z_mul]]
  refine zy_putI (q := 13) dX8_goesText_10 fl_RX8_80 rfl rfl ⟨rfl, rfl⟩ rfl rfl ?_
  refine zx_iconst (q := 14) (v := 0) dX8_goesText_13 (by decide) rfl ?_
  refine zx_istore2 (q := 15) dX8_goesText_14 rfl rfl ?_
  have hm : zGMx l D tc A gl f tx len dl fq 0 0 q := h _ zGM_ok
  exact hm _ (zw_u (zw_u g 108 13 0) 108 23 (nI (100 * fq))) (100 * fq) ⟨by rw [z_u_ne _ _ (by omega), z_u_ne _ _ (by omega)]; exact h1, by rw [z_u_ne _ _ (by omega), z_u_at]; rfl, Nat.zero_le _, h2, fun k hk => by rw [z_u_ne _ _ (by omega), z_u_ne _ _ (by omega)]; exact h3 k hk⟩ (by rw [z_u_at]) (Nat.le_refl _) (by omega) (by omega) hf6 (fun j hj => by rw [z_u_ne _ _ (by omega), z_u_ne _ _ (by omega)]; exact hL j hj) (fun g4 a4 f4 => ⟨_, rfl, rfl, g4, rfl, a4, (fun c j a b d e1 e2 => by rw [f4 c j a b d e1 e2, z_u_ne _ _ (by omega), z_u_ne _ _ (by omega)])⟩)
theorem t_M_goS (dl fq : Nat) (hf6 : fq < 6) {tx : Nat → Nat} {len q : Nat} {g : Nat → Nat → Int32} (h1 : g 108 12 = nI len) (h2 : len ≤ 100) (h3 : ∀ k, k < 100 → g 117 k = nI (tx k) ∧ tx k < 128) (hL : ∀ j, j < 10 → g 125 j = z_lts j) {L : z_L} (h : zGo tx len 0 0 q (some L)) : zCall l D tc A mX8_goesText (dl + 7) 0 0 [.ref 108, .int (nI fq)] (zs g gl f) (zQi fun x S' => x = 1 ∧ ∃ g2, S' = zs g2 gl f ∧ zStM g2 fq 0 (100 * fq) L ∧ zFrG g g2 fq) := by
  show zW l D tc A mX8_goesText (dl + 7) 0 0 0 0 0 [some (.ref 108), some (.int (nI fq)), none] [] (zs g gl f) _
  refine zx_aload_n (q := 1) dX8_goesText_0 rfl rfl rfl ?_
  refine zx_iconst (q := 2) (v := 0) dX8_goesText_1 (by decide) rfl ?_
  refine zy_putI (q := 5) dX8_goesText_2 fl_RX8_50 rfl rfl ⟨rfl, rfl⟩ rfl rfl ?_
  refine zx_aload_n (q := 6) dX8_goesText_5 rfl rfl rfl ?_
  refine zx_bipush (q := 8) (v := 100) dX8_goesText_6 (by decide) rfl ?_
  refine zx_iload_n (q := 9) dX8_goesText_8 rfl rfl rfl ?_
  refine zx_imul (q := 10) dX8_goesText_9 rfl ?_
  rw [show (100 : Int32) * nI fq = nI (100 * fq) from by rw [show (100 : Int32) = nI 100 from rfl, z_mul]]
  refine zy_putI (q := 13) dX8_goesText_10 fl_RX8_80 rfl rfl ⟨rfl, rfl⟩ rfl rfl ?_
  refine zx_iconst (q := 14) (v := 0) dX8_goesText_13 (by decide) rfl ?_
  refine zx_istore2 (q := 15) dX8_goesText_14 rfl rfl ?_
  have hm : zGMs l D tc A gl f tx len dl fq 0 0 q L := h _ zGM_ok
  exact hm _ (zw_u (zw_u g 108 13 0) 108 23 (nI (100 * fq))) (100 * fq) ⟨by rw [z_u_ne _ _ (by omega), z_u_ne _ _ (by omega)]; exact h1, by rw [z_u_ne _ _ (by omega), z_u_at]; rfl, Nat.zero_le _, h2, fun k hk => by rw [z_u_ne _ _ (by omega), z_u_ne _ _ (by omega)]; exact h3 k hk⟩ (by rw [z_u_at]) (Nat.le_refl _) (by omega) (by omega) hf6 (fun j hj => by rw [z_u_ne _ _ (by omega), z_u_ne _ _ (by omega)]; exact hL j hj) (fun g4 a4 f4 _ _ => ⟨_, rfl, rfl, g4, rfl, a4, (fun c j a b d e1 e2 => by rw [f4 c j a b d e1 e2, z_u_ne _ _ (by omega), z_u_ne _ _ (by omega)])⟩)
set_option maxHeartbeats 4000000 in
theorem op_fence (d : Nat)  (hR : zRel gi gl) : zOpI l D tc A mX7_fence mX8_fence (d + 32) [] gi gl f := by
  obtain ⟨nf, ⟨hf0, hf1, hf2⟩, ⟨ns, nb, mm, ⟨hns, hnb, hmm⟩, ⟨hs1, hs2⟩, ⟨hm1, hm2⟩, ⟨hb1, hb2⟩, ⟨hx1, hx2⟩, hSs, hSn, hSt, hSb⟩, ⟨him, hik⟩, ⟨len, hlen, ht1, ht2, ht3⟩, ⟨ra, hra, ha1, ha2, ha3⟩, hTP, ho, hF, hLt⟩ := id hR
  by_cases h6 : nf < 6
  · have htx : ∀ k, k < 100 → gi 117 k = nI (gi 117 k).toNatClampNeg ∧ (gi 117 k).toNatClampNeg < 128 := fun k hk => by obtain ⟨n, hn, e⟩ := z_rgN (n := 127) (ht3 k hk).2; rw [e, nI_clamp (by omega)]; exact ⟨rfl, by omega⟩
    have hlt : ∀ j, j < 10 → gi 125 j = z_lts j := fun j hj => hLt j hj
    have hq : nf < 6 := h6
    show zW l D tc A mX7_fence (d + 32) 0 0 0 0 0 [some (.ref 0), none] [] (zs gi gl f) _
    refine zx_aload_n (q := 1) dX7_fence_0 rfl rfl rfl ?_
    refine zy_getIe (q := 4) (v := nI nf) dX7_fence_1 fl_RX7_123 rfl rfl (hf1) rfl ?_
    refine zx_bipush (q := 6) (v := 6) dX7_fence_4 (by decide) rfl ?_
    refine zx_icmp_lt_t (t := 12) (q := 9) dX7_fence_6 (by decide) rfl (nI_lt (b := 6) h6 (by decide)) ?_
    refine zx_aload_n (q := 13) dX7_fence_12 rfl rfl rfl ?_
    refine zy_getR (q := 16) dX7_fence_13 fl_RX7_24 rfl rfl rfl rfl ?_
    refine zx_aload_n (q := 17) dX7_fence_16 rfl rfl rfl ?_
    refine zy_getR (q := 20) dX7_fence_17 fl_RX7_35 rfl rfl rfl rfl ?_
    refine zx_aload_n (q := 21) dX7_fence_20 rfl rfl rfl ?_
    refine zy_getIe (q := 24) (v := nI nf) dX7_fence_21 fl_RX7_123 rfl rfl (hf1) rfl ?_
    refine zy_aaldN (q := 25) dX7_fence_24 rfl (by decide) (by omega) (by decide) (zr_F (by omega)).2.2.2.2.2 rfl ?_
    refine zx_callV1i (q := 28) (y' := mX2_readInto) dX7_fence_25 ml_RX7_126 ok_mX2_readInto rfl (by decide) rfl (Nat.le_of_ble_eq_true rfl) (Nat.le_of_ble_eq_true rfl) (Nat.le_refl _) (Nat.le_refl _) rfl (t_rI _ hq (tx := fun k => (gi 117 k).toNatClampNeg) ht1 hlen (fun k hk => ⟨(ht3 k hk).1.trans (htx k hk).1, (htx k hk).2⟩)) ?_
    rintro _ _ ⟨q', r, g2, rfl, hgo, f2, hor⟩
    rcases hor with ⟨hr, hx, hq100⟩ | ⟨L, hr, hx, hsc⟩
    · subst hr
      subst hx
      refine zx_istore1 (q := 29) dX7_fence_28 rfl rfl ?_
      refine zx_aload_n (q := 30) dX7_fence_29 rfl rfl rfl ?_
      refine zy_getR (q := 33) dX7_fence_30 fl_RX7_24 rfl rfl rfl rfl ?_
      refine zx_iconst (q := 34) (v := 0) dX7_fence_33 (by decide) rfl ?_
      refine zy_putI (q := 37) dX7_fence_34 fl_RX7_116 rfl rfl ⟨rfl, rfl⟩ rfl rfl ?_
      refine zx_iload_n (q := 38) dX7_fence_37 rfl rfl rfl ?_
      refine zx_if_lt_f (t := 46) (q := 41) dX7_fence_38 (by decide) rfl (nI_pos (by omega)) ?_
      refine zx_bipush (q := 43) (v := (-10)) dX7_fence_41 (by decide) rfl ?_
      refine zx_iload_n (q := 44) dX7_fence_43 rfl rfl rfl ?_
      refine zx_isub (q := 45) dX7_fence_44 rfl ?_
      refine zx_iret dX7_fence_45 rfl (Nat.le_refl _) (Nat.le_refl _) ⟨_, rfl, ?_⟩
      refine ⟨_, _, _, rfl, ?_⟩
      show zW l D tc A mX8_fence (d + 32) 0 0 0 0 0 [some (.ref 108), none] [] (zs (zw_u g2 39 1 0) gl (some (66 + 5 * nf))) _
      refine zx_aload_n (q := 1) dX8_fence_0 rfl rfl rfl ?_
      refine zy_getIe (q := 4) (v := nI nf) dX8_fence_1 fl_RX8_41 rfl rfl (by rw [z_u_ne _ _ (by omega), f2 _ _ (by omega) (by omega)]; exact hf2) rfl ?_
      refine zx_bipush (q := 6) (v := 6) dX8_fence_4 (by decide) rfl ?_
      refine zx_icmp_ne_t (t := 12) (q := 9) dX8_fence_6 (by decide) rfl (fun z => absurd ((nI_eq (b := 6) (by omega) (by omega)).mp z) (by omega)) ?_
      refine zx_aload_n (q := 13) dX8_fence_12 rfl rfl rfl ?_
      refine zx_aload_n (q := 14) dX8_fence_13 rfl rfl rfl ?_
      refine zy_getIe (q := 17) (v := nI nf) dX8_fence_14 fl_RX8_41 rfl rfl (by rw [z_u_ne _ _ (by omega), f2 _ _ (by omega) (by omega)]; exact hf2) rfl ?_
      refine zx_callV1i (q := 20) (y' := mX8_goesText) dX8_fence_17 ml_RX8_255 ok_mX8_goesText rfl (by decide) rfl (Nat.le_of_ble_eq_true rfl) (Nat.le_of_ble_eq_true rfl) (Nat.le_refl _) (Nat.le_refl _) rfl (t_M_goX _ nf hq (by rw [z_u_ne _ _ (by omega), f2 _ _ (by omega) (by omega)]; exact ht2) hlen (tx := fun k => (gi 117 k).toNatClampNeg) (fun k hk => by rw [z_u_ne _ _ (by omega), f2 _ _ (by omega) (by omega)]; exact htx k hk) (fun j hj => by rw [z_u_ne _ _ (by omega), f2 _ _ (by omega) (by omega)]; exact hlt j hj) hgo) ?_
      rintro _ _ ⟨rfl, g4, rfl, a4, f4⟩
      refine zx_istore1 (q := 21) dX8_fence_20 rfl rfl ?_
      refine zx_aload_n (q := 22) dX8_fence_21 rfl rfl rfl ?_
      refine zx_iconst (q := 23) (v := 0) dX8_fence_22 (by decide) rfl ?_
      refine zy_putI (q := 26) dX8_fence_23 fl_RX8_47 rfl rfl ⟨rfl, rfl⟩ rfl rfl ?_
      refine zx_iload_n (q := 27) dX8_fence_26 rfl rfl rfl ?_
      refine zx_if_ne_f (t := 38) (q := 30) dX8_fence_27 (by decide) rfl (rfl) ?_
      refine zx_bipush (q := 32) (v := (-10)) dX8_fence_30 (by decide) rfl ?_
      refine zx_aload_n (q := 33) dX8_fence_32 rfl rfl rfl ?_
      refine zy_getIe (q := 36) (v := nI q') dX8_fence_33 fl_RX8_50 rfl rfl (by rw [z_u_ne _ _ (by omega)]; exact a4) rfl ?_
      refine zx_isub (q := 37) dX8_fence_36 rfl ?_
      refine zx_iret dX8_fence_37 rfl (Nat.le_refl _) (Nat.le_refl _) ⟨_, rfl, ?_⟩
      refine ⟨rfl, _, _, _, rfl, z_rel_fn hR (nf := nf) (nf' := nf) hf1 ⟨Nat.le_refl _, by omega⟩ ⟨?_, ?_⟩ ⟨?_, ?_⟩ ⟨?_, ?_⟩ (fun q h1 h2 => by omega) (fun k j a b c d e1 e2 e3 e4 e5 => ?_)⟩
      · rw [z_u_ne _ _ (by omega), f4 _ _ (by omega) (by omega) (by omega) (by omega) (by omega), z_u_ne _ _ (by omega), f2 _ _ (by omega) (by omega)]; exact hf1
      · rw [z_u_ne _ _ (by omega), f4 _ _ (by omega) (by omega) (by omega) (by omega) (by omega), z_u_ne _ _ (by omega), f2 _ _ (by omega) (by omega)]; exact hf2
      · rw [z_u_ne _ _ (by omega), f4 _ _ (by omega) (by omega) (by omega) (by omega) (by omega), z_u_ne _ _ (by omega), f2 _ _ (by omega) (by omega), z_u_ne _ _ (by omega), f4 _ _ (by omega) (by omega) (by omega) (by omega) (by omega), z_u_ne _ _ (by omega), f2 108 _ (by omega) (by omega)]; exact hx1
      · rw [z_u_ne _ _ (by omega), f4 _ _ (by omega) (by omega) (by omega) (by omega) (by omega), z_u_ne _ _ (by omega), f2 _ _ (by omega) (by omega)]; exact hx2
      · rw [z_u_ne _ _ (by omega), f4 _ _ (by omega) (by omega) (by omega) (by omega) (by omega), z_u_at]
      · rw [z_u_at]
      · rw [z_u_ne _ _ (by omega), f4 _ _ (by omega) (by omega) (by omega) (by omega) (by omega), z_u_ne _ _ (by omega), f2 _ _ (by omega) (by omega)]
    · subst hr
      subst hx
      refine zx_istore1 (q := 29) dX7_fence_28 rfl rfl ?_
      refine zx_aload_n (q := 30) dX7_fence_29 rfl rfl rfl ?_
      refine zy_getR (q := 33) dX7_fence_30 fl_RX7_24 rfl rfl rfl rfl ?_
      refine zx_iconst (q := 34) (v := 0) dX7_fence_33 (by decide) rfl ?_
      refine zy_putI (q := 37) dX7_fence_34 fl_RX7_116 rfl rfl ⟨rfl, rfl⟩ rfl rfl ?_
      refine zx_iload_n (q := 38) dX7_fence_37 rfl rfl rfl ?_
      refine zx_if_lt_t (t := 46) (q := 41) dX7_fence_38 (by decide) rfl (by decide) ?_
      refine zx_aload_n (q := 47) dX7_fence_46 rfl rfl rfl ?_
      refine zy_getR (q := 50) dX7_fence_47 fl_RX7_12 rfl rfl rfl rfl ?_
      refine zx_aload_n (q := 51) dX7_fence_50 rfl rfl rfl ?_
      refine zy_getIe (q := 54) (v := nI nf) dX7_fence_51 fl_RX7_123 rfl rfl (by rw [z_u_ne _ _ (by omega), f2 _ _ (by omega) (by omega)]; exact hf1) rfl ?_
      refine zy_putI (q := 57) dX7_fence_54 fl_RX7_130 rfl rfl ⟨rfl, rfl⟩ rfl rfl ?_
      refine zx_aload_n (q := 58) dX7_fence_57 rfl rfl rfl ?_
      refine zx_dup (q := 59) dX7_fence_58 rfl rfl ?_
      refine zy_getIe (q := 62) (v := nI nf) dX7_fence_59 fl_RX7_123 rfl rfl (by rw [z_u_ne _ _ (by omega), z_u_ne _ _ (by omega), f2 _ _ (by omega) (by omega)]; exact hf1) rfl ?_
      refine zx_iconst (q := 63) (v := 1) dX7_fence_62 (by decide) rfl ?_
      refine zx_iadd (q := 64) dX7_fence_63 rfl ?_
      rw [nI_1]
      refine zy_putI (q := 67) dX7_fence_64 fl_RX7_123 rfl rfl ⟨rfl, rfl⟩ rfl rfl ?_
      refine zx_aload_n (q := 68) dX7_fence_67 rfl rfl rfl ?_
      refine zy_getR (q := 71) dX7_fence_68 fl_RX7_12 rfl rfl rfl rfl ?_
      refine zy_getIe (q := 74) (v := nI nf) dX7_fence_71 fl_RX7_130 rfl rfl (by rw [z_u_ne _ _ (by omega), z_u_at]) rfl ?_
      refine zx_iret dX7_fence_74 rfl (Nat.le_refl _) (Nat.le_refl _) ⟨_, rfl, ?_⟩
      refine ⟨_, _, _, rfl, ?_⟩
      show zW l D tc A mX8_fence (d + 32) 0 0 0 0 0 [some (.ref 108), none] [] (zs (zw_u (zw_u (zw_u g2 39 1 0) 1 9 (nI nf)) 0 6 (nI (nf + 1))) gl (some (66 + 5 * nf))) _
      refine zx_aload_n (q := 1) dX8_fence_0 rfl rfl rfl ?_
      refine zy_getIe (q := 4) (v := nI nf) dX8_fence_1 fl_RX8_41 rfl rfl (by rw [z_u_ne _ _ (by omega), z_u_ne _ _ (by omega), z_u_ne _ _ (by omega), f2 _ _ (by omega) (by omega)]; exact hf2) rfl ?_
      refine zx_bipush (q := 6) (v := 6) dX8_fence_4 (by decide) rfl ?_
      refine zx_icmp_ne_t (t := 12) (q := 9) dX8_fence_6 (by decide) rfl (fun z => absurd ((nI_eq (b := 6) (by omega) (by omega)).mp z) (by omega)) ?_
      refine zx_aload_n (q := 13) dX8_fence_12 rfl rfl rfl ?_
      refine zx_aload_n (q := 14) dX8_fence_13 rfl rfl rfl ?_
      refine zy_getIe (q := 17) (v := nI nf) dX8_fence_14 fl_RX8_41 rfl rfl (by rw [z_u_ne _ _ (by omega), z_u_ne _ _ (by omega), z_u_ne _ _ (by omega), f2 _ _ (by omega) (by omega)]; exact hf2) rfl ?_
      refine zx_callV1i (q := 20) (y' := mX8_goesText) dX8_fence_17 ml_RX8_255 ok_mX8_goesText rfl (by decide) rfl (Nat.le_of_ble_eq_true rfl) (Nat.le_of_ble_eq_true rfl) (Nat.le_refl _) (Nat.le_refl _) rfl (t_M_goS _ nf hq (by rw [z_u_ne _ _ (by omega), z_u_ne _ _ (by omega), z_u_ne _ _ (by omega), f2 _ _ (by omega) (by omega)]; exact ht2) hlen (tx := fun k => (gi 117 k).toNatClampNeg) (fun k hk => by rw [z_u_ne _ _ (by omega), z_u_ne _ _ (by omega), z_u_ne _ _ (by omega), f2 _ _ (by omega) (by omega)]; exact htx k hk) (fun j hj => by rw [z_u_ne _ _ (by omega), z_u_ne _ _ (by omega), z_u_ne _ _ (by omega), f2 _ _ (by omega) (by omega)]; exact hlt j hj) hgo) ?_
      rintro _ _ ⟨rfl, g4, rfl, a4, f4⟩
      refine zx_istore1 (q := 21) dX8_fence_20 rfl rfl ?_
      refine zx_aload_n (q := 22) dX8_fence_21 rfl rfl rfl ?_
      refine zx_iconst (q := 23) (v := 0) dX8_fence_22 (by decide) rfl ?_
      refine zy_putI (q := 26) dX8_fence_23 fl_RX8_47 rfl rfl ⟨rfl, rfl⟩ rfl rfl ?_
      refine zx_iload_n (q := 27) dX8_fence_26 rfl rfl rfl ?_
      refine zx_if_ne_t (t := 38) (q := 30) dX8_fence_27 (by decide) rfl (by decide) ?_
      refine zx_aload_n (q := 39) dX8_fence_38 rfl rfl rfl ?_
      refine zx_aload_n (q := 40) dX8_fence_39 rfl rfl rfl ?_
      refine zy_getIe (q := 43) (v := nI nf) dX8_fence_40 fl_RX8_41 rfl rfl (by rw [z_u_ne _ _ (by omega), f4 _ _ (by omega) (by omega) (by omega) (by omega) (by omega), z_u_ne _ _ (by omega), z_u_ne _ _ (by omega), z_u_ne _ _ (by omega), f2 _ _ (by omega) (by omega)]; exact hf2) rfl ?_
      refine zy_putI (q := 46) dX8_fence_43 fl_RX8_44 rfl rfl ⟨rfl, rfl⟩ rfl rfl ?_
      refine zx_aload_n (q := 47) dX8_fence_46 rfl rfl rfl ?_
      refine zx_dup (q := 48) dX8_fence_47 rfl rfl ?_
      refine zy_getIe (q := 51) (v := nI nf) dX8_fence_48 fl_RX8_41 rfl rfl (by rw [z_u_ne _ _ (by omega), z_u_ne _ _ (by omega), f4 _ _ (by omega) (by omega) (by omega) (by omega) (by omega), z_u_ne _ _ (by omega), z_u_ne _ _ (by omega), z_u_ne _ _ (by omega), f2 _ _ (by omega) (by omega)]; exact hf2) rfl ?_
      refine zx_iconst (q := 52) (v := 1) dX8_fence_51 (by decide) rfl ?_
      refine zx_iadd (q := 53) dX8_fence_52 rfl ?_
      rw [nI_1]
      refine zy_putI (q := 56) dX8_fence_53 fl_RX8_41 rfl rfl ⟨rfl, rfl⟩ rfl rfl ?_
      refine zx_aload_n (q := 57) dX8_fence_56 rfl rfl rfl ?_
      refine zy_getIe (q := 60) (v := nI nf) dX8_fence_57 fl_RX8_44 rfl rfl (by rw [z_u_ne _ _ (by omega), z_u_at]) rfl ?_
      refine zx_iret dX8_fence_60 rfl (Nat.le_refl _) (Nat.le_refl _) ⟨_, rfl, ?_⟩
      refine ⟨rfl, _, _, _, rfl, z_rel_fn hR (nf := nf) (nf' := nf + 1) hf1 ⟨by omega, by omega⟩ ⟨?_, ?_⟩ ⟨?_, Or.inr ⟨nf, by omega, ?_⟩⟩ ⟨?_, ?_⟩ (fun q h1 h2 => ?_) (fun k j a b c d e1 e2 e3 e4 e5 => ?_)⟩
      · rw [z_u_ne _ _ (by omega), z_u_ne _ _ (by omega), z_u_ne _ _ (by omega), f4 _ _ (by omega) (by omega) (by omega) (by omega) (by omega), z_u_at]
      · rw [z_u_at]
      · rw [z_u_ne _ _ (by omega), z_u_ne _ _ (by omega), z_u_ne _ _ (by omega), f4 _ _ (by omega) (by omega) (by omega) (by omega) (by omega), z_u_ne _ _ (by omega), z_u_at, z_u_ne _ _ (by omega), z_u_at]
      · rw [z_u_ne _ _ (by omega), z_u_ne _ _ (by omega), z_u_ne _ _ (by omega), f4 _ _ (by omega) (by omega) (by omega) (by omega) (by omega), z_u_ne _ _ (by omega), z_u_at]
      · rw [z_u_ne _ _ (by omega), z_u_ne _ _ (by omega), z_u_ne _ _ (by omega), f4 _ _ (by omega) (by omega) (by omega) (by omega) (by omega), z_u_ne _ _ (by omega), z_u_ne _ _ (by omega), z_u_at]
      · rw [z_u_ne _ _ (by omega), z_u_ne _ _ (by omega), z_u_at]
      · have hqn : q = nf := by omega
        subst hqn
        exact z_FN_of hq (zG_len hgo) (zStC_fr (fun k j a b => by rw [z_u_ne _ _ (by omega), z_u_ne _ _ (by omega), z_u_ne _ _ (by omega), f4 _ _ (by omega) (by omega) (by omega) (by omega) (by omega), z_u_ne _ _ (by omega), z_u_ne _ _ (by omega), z_u_ne _ _ (by omega)]) L 0 0 hsc) (zStM_fr (fun k j a b => by rw [z_u_ne _ _ (by omega), z_u_ne _ _ (by omega), z_u_ne _ _ (by omega)]) L 0 _ a4)
      · rw [z_u_ne _ _ (by omega), z_u_ne _ _ (by omega), z_u_ne _ _ (by omega), f4 _ _ (by omega) (by omega) (by omega) (by omega) (by omega), z_u_ne _ _ (by omega), z_u_ne _ _ (by omega), z_u_ne _ _ (by omega), f2 _ _ (by omega) (by omega)]
  · show zW l D tc A mX7_fence (d + 32) 0 0 0 0 0 [some (.ref 0), none] [] (zs gi gl f) _
    refine zx_aload_n (q := 1) dX7_fence_0 rfl rfl rfl ?_
    refine zy_getIe (q := 4) (v := nI nf) dX7_fence_1 fl_RX7_123 rfl rfl (hf1) rfl ?_
    refine zx_bipush (q := 6) (v := 6) dX7_fence_4 (by decide) rfl ?_
    refine zx_icmp_lt_f (t := 12) (q := 9) dX7_fence_6 (by decide) rfl (by rw [show nf = 6 by omega]; decide) ?_
    refine zx_bipush (q := 11) (v := (-4)) dX7_fence_9 (by decide) rfl ?_
    refine zx_iret dX7_fence_11 rfl (Nat.le_refl _) (Nat.le_refl _) ⟨_, rfl, ?_⟩
    refine ⟨_, _, _, rfl, ?_⟩
    show zW l D tc A mX8_fence (d + 32) 0 0 0 0 0 [some (.ref 108), none] [] (zs _ _ _) _
    refine zx_aload_n (q := 1) dX8_fence_0 rfl rfl rfl ?_
    refine zy_getIe (q := 4) (v := nI nf) dX8_fence_1 fl_RX8_41 rfl rfl (hf2) rfl ?_
    refine zx_bipush (q := 6) (v := 6) dX8_fence_4 (by decide) rfl ?_
    refine zx_icmp_ne_f (t := 12) (q := 9) dX8_fence_6 (by decide) rfl (by rw [show nf = 6 by omega]; rfl) ?_
    refine zx_bipush (q := 11) (v := (-4)) dX8_fence_9 (by decide) rfl ?_
    refine zx_iret dX8_fence_11 rfl (Nat.le_refl _) (Nat.le_refl _) ⟨_, rfl, ?_⟩
    exact ⟨rfl, _, _, _, rfl, hR⟩
end P59
