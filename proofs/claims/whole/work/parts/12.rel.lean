/-! what binds the class's cells to the reference's -/
def z_rg (lo hi : Int) (x : Int32) : Prop := lo ≤ x.toInt ∧ x.toInt ≤ hi
/-- the sorts that there are -/
def zSTs (gi : Nat → Nat → Int32) (ns b K V B T O Z R : Nat) : Prop := ∀ s, s < ns → (gi (b + 2 + s) 0 = gi K s ∧ z_rg 0 6 (gi K s)) ∧ (gi (b + 2 + s) 1 = gi V s ∧ z_rg 0 9 (gi V s)) ∧ (∀ j, j < 3 → gi (b + 2 + s) (2 + j) = gi B (3 * s + j) ∧ z_rg 0 9 (gi B (3 * s + j))) ∧ (gi (b + 2 + s) 5 = gi T s ∧ z_rg 0 99 (gi T s)) ∧
      (gi (b + 14) s = gi O s ∧ z_rg 0 12 (gi O s)) ∧ (gi (b + 15) s = gi Z s ∧ z_rg 0 12 (gi Z s)) ∧ (∀ j, j < 3 → gi (b + 8 + s) j = gi R (3 * s + j) ∧ z_rg 0 9 (gi R (3 * s + j)))
/-- places of sorts that there aren't -/
def zSTn (gi : Nat → Nat → Int32) (ns b : Nat) : Prop := ∀ s, ns ≤ s → s < 5 → gi (b + 14) s = 0 ∧ gi (b + 15) s = 0 ∧ ∀ j, j < 3 → gi (b + 8 + s) j = 0
/-- what is told -/
def zSTt (gi : Nat → Nat → Int32) (b W : Nat) : Prop := ∀ j, j < 3 → gi (b + 16) j = gi W j ∧ z_rg (-1) 999 (gi W j)
/-- the book -/
def zSTb (gi : Nat → Nat → Int32) (b H M : Nat) : Prop := ∀ k, k < 12 → gi (b + 17) k = gi H k ∧ z_rg 0 2 (gi H k) ∧ gi (b + 18) k = gi M k ∧ z_rg 0 999 (gi M k)
/-- a state of the class at cell b, and the reference's rows of the same -/
def zST (gi : Nat → Nat → Int32) (nf b K V B T O Z R W H M sj mj fj bj : Nat) : Prop :=
  ∃ ns nb mm : Nat, (ns ≤ 5 ∧ nb ≤ 12 ∧ mm < 12) ∧ (gi b 0 = nI ns ∧ gi 108 sj = nI ns) ∧ (gi b 4 = nI mm ∧ gi 108 mj = nI mm) ∧ (gi b 6 = nI nb ∧ gi 108 bj = nI nb) ∧
    (gi b 9 = gi 108 fj ∧ (gi b 9 = -1 ∨ ∃ q : Nat, q < nf ∧ gi b 9 = nI q)) ∧ zSTs gi ns b K V B T O Z R ∧ zSTn gi ns b ∧ zSTt gi b W ∧ zSTb gi b H M
abbrev zNow (gi : Nat → Nat → Int32) (nf : Nat) : Prop := zST gi nf 1 109 110 111 112 113 114 115 116 133 134 0 1 11 38
abbrev zKept (gi : Nat → Nat → Int32) (nf : Nat) : Prop := zST gi nf 20 135 136 137 138 139 140 141 142 143 144 43 44 42 45
/-- the text that is fed -/
def zTX (gi : Nat → Nat → Int32) : Prop := ∃ len : Nat, len ≤ 100 ∧ gi 39 1 = nI len ∧ gi 108 12 = nI len ∧ ∀ k, k < 100 → gi 40 k = gi 117 k ∧ z_rg 0 127 (gi 117 k)
/-- acts -/
def zAC (gi : Nat → Nat → Int32) : Prop := ∃ r : Nat, r ≤ 1000 ∧ gi 63 0 = nI r ∧ gi 108 56 = nI r ∧ ∀ k, k < 20 → gi 64 k = gi 145 k
/-- tapes -/
def zTP (gi : Nat → Nat → Int32) (gl : Nat → Nat → Int64) : Prop := ∀ t, t < 6 → ∃ len : Nat, len ≤ 60 ∧ (gi (96 + 2 * t) 0 = gi 146 t ∧ z_rg (-1) 4 (gi 146 t)) ∧ (gi (96 + 2 * t) 1 = nI len ∧ gi 147 t = nI len) ∧ (gi 146 t = -1 → len = 0) ∧ ∀ k, k < 60 → gl (97 + 2 * t) k = gl 148 (60 * t + k)
/-- what a clause's code is, in neither system's letters: a number below 0 is a sign, else a test -/
def z_tok (c : Int32) : Int32 := if c = -1 then -33 else if c = -2 then -38 else if c = -3 then -124 else 1000 * (c / 300) + 100 * (c / 100 - c / 300 * 3) + (c - c / 100 * 100)
/-- how high the pile of facts is behind a code, if it is never above eleven and never too low -/
def z_dep (g : Nat → Int32) : Nat → Option Nat
  | 0 => some 0
  | n + 1 => match z_dep g n with
    | none => none
    | some h => if g n = -1 then (if 1 ≤ h then some h else none) else if g n = -2 ∨ g n = -3 then (if 2 ≤ h then some (h - 1) else none) else if 0 ≤ g n ∧ g n < 1800 ∧ h < 31 then some (h + 1) else none
/-- the fence q of both -/
def zFN (gi : Nat → Nat → Int32) (q : Nat) : Prop :=
  ∃ nc : Nat, nc ≤ 10 ∧ gi (66 + 5 * q) 0 = nI nc ∧ gi 118 q = nI nc ∧ ∀ c, c < nc → (gi (67 + 5 * q) c = gi 119 (10 * q + c) ∧ z_rg 0 2 (gi 119 (10 * q + c))) ∧ (gi (68 + 5 * q) c = gi 120 (10 * q + c) ∧ z_rg 0 99 (gi 120 (10 * q + c))) ∧
    ∃ a e fr : Nat, a ≤ e ∧ e ≤ 100 ∧ fr + (e - a) ≤ 100 * (q + 1) ∧ (c = 0 → a = 0) ∧ (∀ c', c = c' + 1 → gi (69 + 5 * q) c' = nI a) ∧ gi (69 + 5 * q) c = nI e ∧
      (¬ gi 119 (10 * q + c) = 2 → gi 121 (10 * q + c) = nI fr ∧ gi 122 (10 * q + c) = nI (fr + (e - a)) ∧ (∀ k, k < e - a → gi 123 (fr + k) = z_tok (gi (70 + 5 * q) (a + k))) ∧ z_dep (fun k => gi (70 + 5 * q) (a + k)) (e - a) = some 1)
def zRel (gi : Nat → Nat → Int32) (gl : Nat → Nat → Int64) : Prop :=
  ∃ nf : Nat, (nf ≤ 6 ∧ gi 0 6 = nI nf ∧ gi 108 10 = nI nf) ∧ zNow gi nf ∧ (gi 0 2 = gi 108 41 ∧ (gi 0 2 = 0 ∨ (gi 0 2 = 1 ∧ zKept gi nf))) ∧ zTX gi ∧ zAC gi ∧ zTP gi gl ∧ (gi 41 0 = 0) ∧ (∀ q, q < nf → zFN gi q) ∧ ∀ k, k < 10 → gi 125 k = [(111 : Int32), 119, 101, 115, 101, 101, 109, 111, 115, 116].getD k 0
/-! what is bound stays bound while its cells stay -/
theorem zSTs_congr {gi gi' : Nat → Nat → Int32} {ns b K V B T O Z R : Nat} (h : zSTs gi ns b K V B T O Z R) (hn : ns ≤ 5) (e3 : ∀ k j, (b + 2 ≤ k ∧ k ≤ b + 6) ∨ (b + 8 ≤ k ∧ k ≤ b + 12) ∨ k = b + 14 ∨ k = b + 15 → gi' k j = gi k j) (e4 : ∀ k j, k = K ∨ k = V ∨ k = B ∨ k = T ∨ k = O ∨ k = Z ∨ k = R → gi' k j = gi k j) : zSTs gi' ns b K V B T O Z R := by
  intro s hs
  obtain ⟨g1, g2, g3, g4, g5, g6, g7⟩ := h s hs
  refine ⟨?_, ?_, fun j hj => ?_, ?_, ?_, ?_, fun j hj => ?_⟩
  · rw [e3 _ _ (by omega), e4 K s (by simp)]; exact g1
  · rw [e3 _ _ (by omega), e4 V s (by simp)]; exact g2
  · rw [e3 _ _ (by omega), e4 B _ (by simp)]; exact g3 j hj
  · rw [e3 _ _ (by omega), e4 T s (by simp)]; exact g4
  · rw [e3 _ _ (by omega), e4 O s (by simp)]; exact g5
  · rw [e3 _ _ (by omega), e4 Z s (by simp)]; exact g6
  · rw [e3 _ _ (by omega), e4 R _ (by simp)]; exact g7 j hj
theorem zSTn_congr {gi gi' : Nat → Nat → Int32} {ns b : Nat} (h : zSTn gi ns b) (e3 : ∀ k j, b + 8 ≤ k → k ≤ b + 15 → gi' k j = gi k j) : zSTn gi' ns b := by
  intro s hs hs2
  rw [e3 _ _ (by omega) (by omega), e3 _ _ (by omega) (by omega)]
  obtain ⟨g1, g2, g3⟩ := h s hs hs2
  refine ⟨g1, g2, fun j hj => ?_⟩
  rw [e3 _ _ (by omega) (by omega)]; exact g3 j hj
theorem zSTt_congr {gi gi' : Nat → Nat → Int32} {b W : Nat} (h : zSTt gi b W) (e3 : ∀ j, gi' (b + 16) j = gi (b + 16) j) (e4 : ∀ j, gi' W j = gi W j) : zSTt gi' b W := by
  intro j hj
  rw [e3, e4]; exact h j hj
theorem zSTb_congr {gi gi' : Nat → Nat → Int32} {b H M : Nat} (h : zSTb gi b H M) (e3 : ∀ j, gi' (b + 17) j = gi (b + 17) j ∧ gi' (b + 18) j = gi (b + 18) j) (e4 : ∀ j, gi' H j = gi H j ∧ gi' M j = gi M j) : zSTb gi' b H M := by
  intro k hk
  rw [(e3 k).1, (e3 k).2, (e4 k).1, (e4 k).2]; exact h k hk
theorem zST_congr {gi gi' : Nat → Nat → Int32} {nf b K V B T O Z R W H M sj mj fj bj : Nat} (h : zST gi nf b K V B T O Z R W H M sj mj fj bj)
    (e1 : ∀ j, j = 0 ∨ j = 4 ∨ j = 6 ∨ j = 9 → gi' b j = gi b j) (e2 : ∀ j, j = sj ∨ j = mj ∨ j = fj ∨ j = bj → gi' 108 j = gi 108 j)
    (e3 : ∀ k j, b + 2 ≤ k → k ≤ b + 18 → gi' k j = gi k j) (e4 : ∀ k j, k = K ∨ k = V ∨ k = B ∨ k = T ∨ k = O ∨ k = Z ∨ k = R ∨ k = W ∨ k = H ∨ k = M → gi' k j = gi k j) : zST gi' nf b K V B T O Z R W H M sj mj fj bj := by
  obtain ⟨ns, nb, mm, h0, h1, h2, h3, h4, h5, h6, h7, h8⟩ := h
  refine ⟨ns, nb, mm, h0, ?_, ?_, ?_, ?_, zSTs_congr h5 h0.1 (fun k j hk => e3 k j (by omega) (by omega)) (fun k j hk => e4 k j (by omega)), zSTn_congr h6 (fun k j a c => e3 k j (by omega) (by omega)), zSTt_congr h7 (fun j => e3 _ _ (by omega) (by omega)) (fun j => e4 _ _ (by omega)), zSTb_congr h8 (fun j => ⟨e3 _ _ (by omega) (by omega), e3 _ _ (by omega) (by omega)⟩) (fun j => ⟨e4 _ _ (by omega), e4 _ _ (by omega)⟩)⟩
  · rw [e1 0 (by simp), e2 sj (by simp)]; exact h1
  · rw [e1 4 (by simp), e2 mj (by simp)]; exact h2
  · rw [e1 6 (by simp), e2 bj (by simp)]; exact h3
  · rw [e1 9 (by simp), e2 fj (by simp)]; exact h4
theorem zTX_congr {gi gi' : Nat → Nat → Int32} (h : zTX gi) (e1 : gi' 39 1 = gi 39 1) (e2 : gi' 108 12 = gi 108 12) (e3 : ∀ j, gi' 40 j = gi 40 j) (e4 : ∀ j, gi' 117 j = gi 117 j) : zTX gi' := by
  obtain ⟨len, h0, h1, h2, h3⟩ := h
  exact ⟨len, h0, by rw [e1]; exact h1, by rw [e2]; exact h2, fun k hk => by rw [e3, e4]; exact h3 k hk⟩
theorem zAC_congr {gi gi' : Nat → Nat → Int32} (h : zAC gi) (e1 : gi' 63 0 = gi 63 0) (e2 : gi' 108 56 = gi 108 56) (e3 : ∀ j, gi' 64 j = gi 64 j) (e4 : ∀ j, gi' 145 j = gi 145 j) : zAC gi' := by
  obtain ⟨r, h0, h1, h2, h3⟩ := h
  exact ⟨r, h0, by rw [e1]; exact h1, by rw [e2]; exact h2, fun k hk => by rw [e3, e4]; exact h3 k hk⟩
theorem zTP_congr {gi gi' : Nat → Nat → Int32} {gl : Nat → Nat → Int64} (h : zTP gi gl) (e1 : ∀ k j, 96 ≤ k → k < 108 → gi' k j = gi k j) (e2 : ∀ j, gi' 146 j = gi 146 j) (e3 : ∀ j, gi' 147 j = gi 147 j) : zTP gi' gl := by
  intro t ht
  obtain ⟨len, h0, h1, h2, h3, h4⟩ := h t ht
  refine ⟨len, h0, ?_, ?_, ?_, h4⟩
  · rw [e1 _ _ (by omega) (by omega), e2]; exact h1
  · rw [e1 _ _ (by omega) (by omega), e3]; exact h2
  · rw [e2]; exact h3
theorem zFN_congr {gi gi' : Nat → Nat → Int32} {q : Nat} (h : zFN gi q) (e1 : ∀ k j, 66 + 5 * q ≤ k → k ≤ 70 + 5 * q → gi' k j = gi k j) (e2 : ∀ k j, k = 118 ∨ k = 119 ∨ k = 120 ∨ k = 121 ∨ k = 122 ∨ k = 123 → gi' k j = gi k j) : zFN gi' q := by
  obtain ⟨nc, h0, h1, h2, h3⟩ := h
  refine ⟨nc, h0, by rw [e1 _ _ (by omega) (by omega)]; exact h1, by rw [e2 _ _ (by simp)]; exact h2, fun c hc => ?_⟩
  obtain ⟨g1, g2, a, e, fr, g3, g4, g5, g6, g7, g8, g9⟩ := h3 c hc
  refine ⟨by rw [e1 _ _ (by omega) (by omega), e2 119 _ (by simp)]; exact g1, by rw [e1 _ _ (by omega) (by omega), e2 120 _ (by simp)]; exact g2, a, e, fr, g3, g4, g5, g6, fun c' hc' => by rw [e1 _ _ (by omega) (by omega)]; exact g7 c' hc', by rw [e1 _ _ (by omega) (by omega)]; exact g8, fun hw => ?_⟩
  rw [e2 119 _ (by simp)] at hw
  obtain ⟨i1, i2, i3, i4⟩ := g9 hw
  refine ⟨by rw [e2 121 _ (by simp)]; exact i1, by rw [e2 122 _ (by simp)]; exact i2, fun k hk => ?_, ?_⟩
  · rw [e2 123 _ (by simp), e1 _ _ (by omega) (by omega)]; exact i3 k hk
  · have e : (fun k => gi' (70 + 5 * q) (a + k)) = fun k => gi (70 + 5 * q) (a + k) := funext fun k => e1 _ _ (by omega) (by omega)
    rw [e]; exact i4
/-- the cells (and places of cell 108) that nothing bound rests on -/
def z_scr (k j : Nat) : Prop := (47 ≤ k ∧ k ≤ 62) ∨ (k = 39 ∧ ¬ j = 1) ∨ (k = 63 ∧ ¬ j = 0) ∨ (42 ≤ k ∧ k ≤ 45) ∨ (k = 41 ∧ ¬ j = 0) ∨ k = 124 ∨ (126 ≤ k ∧ k ≤ 132) ∨ (k = 108 ∧ ((13 ≤ j ∧ j ≤ 37)))
theorem zRel_scr {gi gi' : Nat → Nat → Int32} {gl : Nat → Nat → Int64} (h : zRel gi gl) (e : ∀ k j, ¬ z_scr k j → gi' k j = gi k j) : zRel gi' gl := by
  obtain ⟨nf, ⟨h0, h1, h2⟩, h3, ⟨h4, h5⟩, h6, h7, h8, h9, h10, h11⟩ := h
  have q : ∀ k j, ¬ z_scr k j → gi' k j = gi k j := e
  refine ⟨nf, ⟨h0, ?_, ?_⟩, ?_, ⟨?_, ?_⟩, ?_, ?_, ?_, ?_, ?_, ?_⟩
  · rw [q 0 6 (by unfold z_scr; omega)]; exact h1
  · rw [q 108 10 (by unfold z_scr; omega)]; exact h2
  · exact zST_congr h3 (fun j hj => q _ _ (by unfold z_scr; omega)) (fun j hj => q _ _ (by unfold z_scr; omega)) (fun k j a b => q _ _ (by unfold z_scr; omega)) (fun k j a => q _ _ (by unfold z_scr; omega))
  · rw [q 0 2 (by unfold z_scr; omega), q 108 41 (by unfold z_scr; omega)]; exact h4
  · rw [q 0 2 (by unfold z_scr; omega)]
    exact h5.imp id (fun z => ⟨z.1, zST_congr z.2 (fun j hj => q _ _ (by unfold z_scr; omega)) (fun j hj => q _ _ (by unfold z_scr; omega)) (fun k j a b => q _ _ (by unfold z_scr; omega)) (fun k j a => q _ _ (by unfold z_scr; omega))⟩)
  · exact zTX_congr h6 (q _ _ (by unfold z_scr; omega)) (q _ _ (by unfold z_scr; omega)) (fun j => q _ _ (by unfold z_scr; omega)) (fun j => q _ _ (by unfold z_scr; omega))
  · exact zAC_congr h7 (q _ _ (by unfold z_scr; omega)) (q _ _ (by unfold z_scr; omega)) (fun j => q _ _ (by unfold z_scr; omega)) (fun j => q _ _ (by unfold z_scr; omega))
  · exact zTP_congr h8 (fun k j a b => q _ _ (by unfold z_scr; omega)) (fun j => q _ _ (by unfold z_scr; omega)) (fun j => q _ _ (by unfold z_scr; omega))
  · rw [q 41 0 (by unfold z_scr; omega)]; exact h9
  · exact fun i hi => zFN_congr (h10 i hi) (fun k j a b => q _ _ (by unfold z_scr; omega)) (fun k j a => q _ _ (by unfold z_scr; omega))
  · exact fun k hk => by rw [q 125 k (by unfold z_scr; omega)]; exact h11 k hk

/-- the relation, its parts opened -/
theorem zRel_now {gi gi' : Nat → Nat → Int32} {gl : Nat → Nat → Int64} (h : zRel gi gl) (hN : ∀ nf, nf ≤ 6 → zNow gi nf → zNow gi' nf)
    (e : ∀ k j, ¬ (1 ≤ k ∧ k ≤ 19) → ¬ (109 ≤ k ∧ k ≤ 116) → ¬ (k = 133 ∨ k = 134) → ¬ (k = 108 ∧ (j = 0 ∨ j = 1 ∨ j = 11 ∨ j = 38)) → gi' k j = gi k j) : zRel gi' gl := by
  obtain ⟨nf, ⟨h0, h1, h2⟩, h3, ⟨h4, h5⟩, h6, h7, h8, h9, h10, h11⟩ := h
  refine ⟨nf, ⟨h0, ?_, ?_⟩, hN nf h0 h3, ⟨?_, ?_⟩, ?_, ?_, ?_, ?_, ?_, ?_⟩
  · rw [e 0 6 (by omega) (by omega) (by omega) (by omega)]; exact h1
  · rw [e 108 10 (by omega) (by omega) (by omega) (by omega)]; exact h2
  · rw [e 0 2 (by omega) (by omega) (by omega) (by omega), e 108 41 (by omega) (by omega) (by omega) (by omega)]; exact h4
  · rw [e 0 2 (by omega) (by omega) (by omega) (by omega)]
    exact h5.imp id (fun z => ⟨z.1, zST_congr z.2 (fun j hj => e _ _ (by omega) (by omega) (by omega) (by omega)) (fun j hj => e _ _ (by omega) (by omega) (by omega) (by omega)) (fun k j a b => e _ _ (by omega) (by omega) (by omega) (by omega)) (fun k j a => e _ _ (by omega) (by omega) (by omega) (by omega))⟩)
  · exact zTX_congr h6 (e _ _ (by omega) (by omega) (by omega) (by omega)) (e _ _ (by omega) (by omega) (by omega) (by omega)) (fun j => e _ _ (by omega) (by omega) (by omega) (by omega)) (fun j => e _ _ (by omega) (by omega) (by omega) (by omega))
  · exact zAC_congr h7 (e _ _ (by omega) (by omega) (by omega) (by omega)) (e _ _ (by omega) (by omega) (by omega) (by omega)) (fun j => e _ _ (by omega) (by omega) (by omega) (by omega)) (fun j => e _ _ (by omega) (by omega) (by omega) (by omega))
  · exact zTP_congr h8 (fun k j a b => e _ _ (by omega) (by omega) (by omega) (by omega)) (fun j => e _ _ (by omega) (by omega) (by omega) (by omega)) (fun j => e _ _ (by omega) (by omega) (by omega) (by omega))
  · rw [e 41 0 (by omega) (by omega) (by omega) (by omega)]; exact h9
  · exact fun i hi => zFN_congr (h10 i hi) (fun k j a b => e _ _ (by omega) (by omega) (by omega) (by omega)) (fun k j a => e _ _ (by omega) (by omega) (by omega) (by omega))
  · exact fun k hk => by rw [e 125 k (by omega) (by omega) (by omega) (by omega)]; exact h11 k hk
