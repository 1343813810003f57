/-! all herds one by one, as rows of numbers -/
def z_up (r : Nat → Nat) (s v : Nat) : Nat → Nat := fun i => if i = s then v else r i
theorem z_up_at (r : Nat → Nat) (s v : Nat) : z_up r s v s = v := by simp [z_up]
theorem z_up_ne (r : Nat → Nat) {s i : Nat} (v : Nat) (h : ¬ i = s) : z_up r s v i = r i := by simp [z_up, h]
theorem z_up_id {r : Nat → Nat} {s v : Nat} (h : r s = v) : z_up r s v = r := by
  funext i
  by_cases c : i = s
  · subst c; rw [z_up_at, h]
  · rw [z_up_ne _ _ c]
theorem z_sN_up (r : Nat → Nat) (v : Nat) {s n : Nat} (h : n ≤ s) : z_sN n (z_up r s v) = z_sN n r := z_sN_congr n (fun i hi => z_up_ne _ _ (by omega))
/-- how many herds there are of k more sorts, of fewer than m beasts -/
def z_t : Nat → Nat → Nat
  | 0, m => if m = 0 then 0 else 1
  | k + 1, m => z_sN m (fun i => z_t k (i + 1))
theorem z_t_S (k m : Nat) : z_t (k + 1) (m + 1) = z_t (k + 1) m + z_t k (m + 1) := rfl
theorem z_t_0 (k : Nat) : z_t k 0 = 0 := by cases k <;> rfl
def z_hk (K m : Nat) : Nat := z_sN K (fun i => z_t (i + 1) m)
theorem z_hk_S (K m : Nat) : z_hk (K + 1) m = z_hk K m + z_t (K + 1) m := rfl
theorem z_hk_t (m : Nat) : ∀ K, z_hk K m + 1 = z_t K (m + 1) := by
  intro K
  induction K with
  | zero => simp [z_hk, z_sN, z_t]
  | succ K ih => rw [z_hk_S, z_t_S, ← ih]; omega
/-- how many herds there are behind a row -/
def z_rk (ns M : Nat) (r : Nat → Nat) (s : Nat) : Nat := z_sN s (fun i => z_t (ns - i) (M - z_sN (i + 1) r))
theorem z_rk_S (ns M : Nat) (r : Nat → Nat) (s : Nat) : z_rk ns M r (s + 1) = z_rk ns M r s + z_t (ns - s) (M - z_sN (s + 1) r) := rfl
theorem z_rk_up (ns M : Nat) (r : Nat → Nat) (v s : Nat) : z_rk ns M (z_up r s v) s = z_rk ns M r s := z_sN_congr s (fun i hi => by rw [z_sN_up _ _ (by omega)])
/-- the next row; none: there is none -/
def z_nx (M : Nat) : Nat → (Nat → Nat) → Nat → Option ((Nat → Nat) × Nat)
  | 0, _, _ => none
  | s + 1, r, b => if b < M then some (z_up r s (r s + 1), b + 1) else z_nx M s (z_up r s 0) (b - r s)
theorem z_nx_some {ns M : Nat} : ∀ (s : Nat) (r : Nat → Nat) (b : Nat) (r' : Nat → Nat) (b' : Nat), z_nx M s r b = some (r', b') → b = z_sN s r → b ≤ M → s ≤ ns →
    b' = z_sN s r' ∧ b' ≤ M ∧ (∀ i, s ≤ i → r' i = r i) ∧ z_rk ns M r s = 1 + z_rk ns M r' s + z_hk (ns - s) (M - b') := by
  intro s
  induction s with
  | zero => intro r b r' b' h; simp [z_nx] at h
  | succ s ih =>
    intro r b r' b' h hb hM hs
    rw [z_nx] at h
    obtain ⟨K, hK⟩ : ∃ K, ns - s = K + 1 := ⟨ns - s - 1, by omega⟩
    have hK2 : ns - (s + 1) = K := by omega
    rw [z_sN] at hb
    by_cases c : b < M
    · rw [if_pos c] at h
      simp only [Option.some.injEq, Prod.mk.injEq] at h
      obtain ⟨h1, h2⟩ := h
      subst h1
      subst h2
      have e1 : z_sN (s + 1) (z_up r s (r s + 1)) = b + 1 := by rw [z_sN, z_sN_up _ _ (Nat.le_refl _), z_up_at]; omega
      refine ⟨e1.symm, by omega, fun i hi => z_up_ne _ _ (by omega), ?_⟩
      rw [z_rk_S, z_rk_S, z_rk_up, e1, show z_sN (s + 1) r = b from by rw [z_sN]; omega, hK, hK2]
      obtain ⟨m, hm⟩ : ∃ m, M - b = m + 1 := ⟨M - b - 1, by omega⟩
      rw [hm, show M - (b + 1) = m by omega, z_t_S, ← z_hk_t]
      omega
    · rw [if_neg c] at h
      obtain ⟨g1, g2, g3, g4⟩ := ih (z_up r s 0) (b - r s) r' b' h (by rw [z_sN_up _ _ (Nat.le_refl _)]; omega) (by omega) (by omega)
      have e0 : r' s = 0 := by rw [g3 s (Nat.le_refl _), z_up_at]
      have e1 : z_sN (s + 1) r' = b' := by rw [z_sN, e0, ← g1]; omega
      refine ⟨e1.symm, g2, fun i hi => by rw [g3 i (by omega), z_up_ne _ _ (by omega)], ?_⟩
      rw [z_rk_up] at g4
      rw [z_rk_S, z_rk_S, e1, show M - z_sN (s + 1) r = 0 from by rw [z_sN]; omega, z_t_0, g4, hK, hK2, z_hk_S]
      omega
/-- the class's next row, behind a full one or not -/
def z_cx : Nat → (Nat → Nat) → Nat → Bool → Option ((Nat → Nat) × Nat)
  | 0, _, _, _ => none
  | s + 1, r, b, full => if full = false then some (z_up r s (r s + 1), b + 1) else if 0 < r s then z_cx s (z_up r s 0) (b - r s) false else z_cx s r b true
theorem z_cx_nx {M : Nat} : ∀ (s : Nat) (r : Nat → Nat) (b : Nat), b = z_sN s r → b ≤ M → z_cx s r b (decide (M ≤ b)) = z_nx M s r b := by
  intro s
  induction s with
  | zero => intro r b _ _; rfl
  | succ s ih =>
    intro r b hb hM
    rw [z_sN] at hb
    rw [z_cx, z_nx]
    by_cases c : b < M
    · rw [if_pos c, if_pos (by simp; omega)]
    · rw [if_neg c, if_neg (by simp; omega)]
      by_cases c2 : 0 < r s
      · rw [if_pos c2, ← ih (z_up r s 0) (b - r s) (by rw [z_sN_up _ _ (Nat.le_refl _)]; omega) (by omega), show decide (M ≤ b - r s) = false by simp; omega]
      · have e0 : r s = 0 := by omega
        rw [if_neg c2, z_up_id e0, e0, Nat.sub_zero, ← ih r b (by omega) hM, show decide (M ≤ b) = true by simp; omega]
theorem z_cx_dn {r : Nat → Nat} {b s0 : Nat} (h0 : 0 < r s0) : ∀ s, s0 < s → (∀ i, s0 < i → i < s → r i = 0) → z_cx s r b true = z_cx s0 (z_up r s0 0) (b - r s0) false := by
  intro s
  induction s with
  | zero => intro h _; omega
  | succ s ih =>
    intro h hz
    rw [z_cx, if_neg (by simp)]
    by_cases c : s = s0
    · subst c
      rw [if_pos h0]
    · rw [if_neg (by have := hz s (by omega) (by omega); omega)]
      exact ih (by omega) (fun i a c => hz i a (by omega))
/-- rows that only add to another, as long as its head stays -/
def z_bh2 (r : Nat → Nat) (ns s0 : Nat) (q : Nat → Nat) : Prop := (∀ i, i < s0 → q i = r i) ∧ r s0 ≤ q s0 ∧ ∀ i, ns ≤ i → q i = r i
theorem z_nx_bh {M ns s0 : Nat} {r : Nat → Nat} (h0 : 0 < r s0) (hs0 : s0 < ns) (hz : ∀ i, s0 < i → i < ns → r i = 0) : ∀ (s : Nat) (q : Nat → Nat) (c : Nat), s0 < s → s ≤ ns → z_bh2 r ns s0 q → (∀ i, s ≤ i → q i = r i) → c = z_sN s q → c ≤ M →
    (∃ r2 b2, z_nx M s q c = some (r2, b2) ∧ z_bh2 r ns s0 r2) ∨ z_nx M s q c = z_cx s0 (z_up r s0 0) (z_sN s0 r) false := by
  intro s
  induction s with
  | zero => intro q c h; omega
  | succ s ih =>
    intro q c h hs hq hq2 hc hM
    rw [z_sN] at hc
    rw [z_nx]
    by_cases c1 : c < M
    · rw [if_pos c1]
      refine Or.inl ⟨_, _, rfl, fun i hi => ?_, ?_, fun i hi => ?_⟩
      · rw [z_up_ne _ _ (by omega)]; exact hq.1 i hi
      · by_cases e : s0 = s
        · subst e; rw [z_up_at]; have := hq.2.1; omega
        · rw [z_up_ne _ _ e]; exact hq.2.1
      · rw [z_up_ne _ _ (by omega)]; exact hq.2.2 i hi
    · rw [if_neg c1]
      by_cases e : s = s0
      · subst e
        refine Or.inr ?_
        have e1 : z_up q s 0 = z_up r s 0 := by
          funext i
          by_cases ei : i = s
          · subst ei; rw [z_up_at, z_up_at]
          · rw [z_up_ne _ _ ei, z_up_ne _ _ ei]
            rcases Nat.lt_or_ge i s with q1 | q1
            · exact hq.1 i q1
            · exact hq2 i (by omega)
        have e2 : z_sN s q = z_sN s r := z_sN_congr s hq.1
        have h3 := hq.2.1
        rw [e1, show c - q s = z_sN s r by omega, ← z_cx_nx s (z_up r s 0) (z_sN s r) (by rw [z_sN_up _ _ (Nat.le_refl _)]) (by omega), show decide (M ≤ z_sN s r) = false by simp; omega]
      · refine ih (z_up q s 0) (c - q s) (by omega) (by omega) ⟨fun i hi => ?_, ?_, fun i hi => ?_⟩ (fun i hi => ?_) (by rw [z_sN_up _ _ (Nat.le_refl _)]; omega) (by omega)
        · rw [z_up_ne _ _ (by omega)]; exact hq.1 i hi
        · rw [z_up_ne _ _ (by omega)]; exact hq.2.1
        · rw [z_up_ne _ _ (by omega)]; exact hq.2.2 i hi
        · by_cases ei : i = s
          · subst ei; rw [z_up_at, hz i (by omega) (by omega)]
          · rw [z_up_ne _ _ ei]; exact hq2 i (by omega)
section ZGO
variable {α : Type} {M ns : Nat} {F : (Nat → Nat) → Bool} {st : (Nat → Nat) → α → α}
/-- all from a row on -/
def z_run (M ns : Nat) (F : (Nat → Nat) → Bool) (st : (Nat → Nat) → α → α) : Nat → (Nat → Nat) → Nat → α → α
  | 0, _, _, a => a
  | n + 1, r, b, a => match z_nx M ns r b with
    | none => if F r = true then st r a else a
    | some q => z_run M ns F st n q.1 q.2 (if F r = true then st r a else a)
def z_go (M ns : Nat) (F : (Nat → Nat) → Bool) (st : (Nat → Nat) → α → α) (r : Nat → Nat) (b : Nat) (a : α) : α := z_run M ns F st (z_rk ns M r ns + 1) r b a
theorem z_go_none {r : Nat → Nat} {b : Nat} {a : α} (h : z_nx M ns r b = none) : z_go M ns F st r b a = if F r = true then st r a else a := by
  unfold z_go
  rw [z_run, h]
theorem z_go_some {r r' : Nat → Nat} {b b' : Nat} {a : α} (h : z_nx M ns r b = some (r', b')) (hb : b = z_sN ns r) (hM : b ≤ M) : z_go M ns F st r b a = z_go M ns F st r' b' (if F r = true then st r a else a) := by
  unfold z_go
  obtain ⟨_, _, _, h4⟩ := z_nx_some (ns := ns) ns r b r' b' h hb hM (Nat.le_refl _)
  rw [z_run, h]
  have e : z_rk ns M r ns = z_rk ns M r' ns + 1 := by rw [h4, Nat.sub_self]; show 1 + _ + 0 = _; omega
  rw [e]
theorem z_nx_dn {r r' : Nat → Nat} {b b' : Nat} (h : z_nx M ns r b = some (r', b')) (hb : b = z_sN ns r) (hM : b ≤ M) : b' = z_sN ns r' ∧ b' ≤ M ∧ z_rk ns M r ns = z_rk ns M r' ns + 1 := by
  obtain ⟨h1, h2, _, h4⟩ := z_nx_some (ns := ns) ns r b r' b' h hb hM (Nat.le_refl _)
  exact ⟨h1, h2, by rw [h4, Nat.sub_self]; show 1 + _ + 0 = _; omega⟩
/-- what comes of the class's next row where those between are none that fit -/
def z_af (M ns : Nat) (F : (Nat → Nat) → Bool) (st : (Nat → Nat) → α → α) (a : α) : Option ((Nat → Nat) × Nat) → α
  | none => a
  | some q => z_go M ns F st q.1 q.2 a
theorem z_skip {r : Nat → Nat} {s0 : Nat} (h0 : 0 < r s0) (hs0 : s0 < ns) (hz : ∀ i, s0 < i → i < ns → r i = 0) (hF : ∀ q : Nat → Nat, (∀ i, i < ns → r i ≤ q i) → F q = false) (a : α) :
    ∀ (n : Nat) (q : Nat → Nat) (c : Nat), z_rk ns M q ns = n → z_bh2 r ns s0 q → c = z_sN ns q → c ≤ M →
      z_go M ns F st q c a = z_af M ns F st a (z_cx s0 (z_up r s0 0) (z_sN s0 r) false) ∧ ∀ r' b', z_cx s0 (z_up r s0 0) (z_sN s0 r) false = some (r', b') → b' = z_sN ns r' ∧ b' ≤ M ∧ z_rk ns M r' ns < n := by
  intro n
  induction n using Nat.strongRecOn with
  | _ n ih =>
    intro q c hn hq hc hM
    have hFq : F q = false := by
      refine hF q (fun i hi => ?_)
      rcases (by omega : i < s0 ∨ i = s0 ∨ s0 < i) with e | e | e
      · rw [hq.1 i e]; exact Nat.le_refl _
      · subst e; exact hq.2.1
      · rw [hz i e hi]; exact Nat.zero_le _
    rcases z_nx_bh h0 hs0 hz ns q c hs0 (Nat.le_refl _) hq hq.2.2 hc hM with ⟨r2, b2, e, hq2⟩ | e
    · obtain ⟨g1, g2, g3⟩ := z_nx_dn e hc hM
      obtain ⟨i1, i2⟩ := ih (z_rk ns M r2 ns) (by omega) r2 b2 rfl hq2 g1 g2
      refine ⟨?_, fun r' b' h => ?_⟩
      · rw [z_go_some e hc hM, hFq, if_neg (by simp)]; exact i1
      · obtain ⟨j1, j2, j3⟩ := i2 r' b' h
        exact ⟨j1, j2, by omega⟩
    · refine ⟨?_, fun r' b' h => ?_⟩
      · rw [← e]
        cases hx : z_nx M ns q c with
        | none => rw [z_go_none hx, hFq, if_neg (by simp)]; rfl
        | some p => rw [z_go_some (r' := p.1) (b' := p.2) hx hc hM, hFq, if_neg (by simp)]; rfl
      · rw [← e] at h
        obtain ⟨g1, g2, g3⟩ := z_nx_dn h hc hM
        exact ⟨g1, g2, by omega⟩
/-- the last place that is not 0 -/
theorem z_lastNZ {r : Nat → Nat} : ∀ n, (∃ i, i < n ∧ 0 < r i) → ∃ s0, s0 < n ∧ 0 < r s0 ∧ ∀ i, s0 < i → i < n → r i = 0 := by
  intro n
  induction n with
  | zero => rintro ⟨i, h, _⟩; omega
  | succ n ih =>
    rintro ⟨i, h1, h2⟩
    by_cases c : 0 < r n
    · exact ⟨n, by omega, c, fun j a b => by omega⟩
    · obtain ⟨s0, a1, a2, a3⟩ := ih ⟨i, by
        by_cases e : i = n
        · subst e; omega
        · omega, h2⟩
      refine ⟨s0, by omega, a2, fun j b1 b2 => ?_⟩
      by_cases e : j = n
      · subst e; omega
      · exact a3 j b1 (by omega)
/-- the class's step, behind a row that is beyond or not -/
theorem z_stepH {r : Nat → Nat} {b : Nat} (bey : Bool) (hb : b = z_sN ns r) (hM : b ≤ M) (hbey : bey = true → (∃ i, i < ns ∧ 0 < r i) ∧ ∀ q : Nat → Nat, (∀ i, i < ns → r i ≤ q i) → F q = false) (a : α) :
    z_go M ns F st r b a = z_af M ns F st (if F r = true then st r a else a) (z_cx ns r b (bey || decide (M ≤ b))) ∧ ∀ r' b', z_cx ns r b (bey || decide (M ≤ b)) = some (r', b') → b' = z_sN ns r' ∧ b' ≤ M ∧ z_rk ns M r' ns < z_rk ns M r ns := by
  cases bey with
  | false =>
    rw [Bool.false_or, z_cx_nx ns r b hb hM]
    refine ⟨?_, fun r' b' h => ?_⟩
    · cases hx : z_nx M ns r b with
      | none => rw [z_go_none hx]; rfl
      | some p => rw [z_go_some (r' := p.1) (b' := p.2) hx hb hM]; rfl
    · obtain ⟨g1, g2, g3⟩ := z_nx_dn h hb hM
      exact ⟨g1, g2, by omega⟩
  | true =>
    obtain ⟨h1, h2⟩ := hbey rfl
    obtain ⟨s0, a1, a2, a3⟩ := z_lastNZ ns h1
    have hr : F r = false := h2 r (fun i _ => Nat.le_refl _)
    have e2 : b - r s0 = z_sN s0 r := by
      have key : ∀ n, s0 < n → (∀ i, s0 < i → i < n → r i = 0) → z_sN n r = z_sN s0 r + r s0 := by
        intro n
        induction n with
        | zero => intro h _; omega
        | succ n ih =>
          intro h hz
          rw [z_sN]
          by_cases e : n = s0
          · subst e; rfl
          · rw [ih (by omega) (fun i u v => hz i u (by omega)), hz n (by omega) (by omega), Nat.add_zero]
      rw [hb, key ns a1 a3]
      omega
    rw [Bool.true_or, z_cx_dn a2 ns a1 a3, e2, hr, if_neg (by simp)]
    exact z_skip a2 a1 a3 h2 a (z_rk ns M r ns) r b rfl ⟨fun _ _ => rfl, Nat.le_refl _, fun _ _ => rfl⟩ hb hM
end ZGO
theorem z_sN_0 : ∀ n, z_sN n (fun _ => 0) = 0 := by
  intro n
  induction n with
  | zero => rfl
  | succ n ih => rw [z_sN, ih]
theorem z_rk_first {ns M : Nat} (hns : ns ≤ 5) (hM : M ≤ 18) : z_rk ns M (fun _ => 0) ns + 1 ≤ 33649 := by
  have key : ∀ ns, ns ≤ 5 → ∀ M, M ≤ 18 → z_sN ns (fun i => z_t (ns - i) M) + 1 ≤ 33649 := by decide +kernel
  have e : z_rk ns M (fun _ => 0) ns = z_sN ns (fun i => z_t (ns - i) M) := z_sN_congr ns (fun i _ => by rw [z_sN_0, Nat.sub_zero])
  rw [e]
  exact key ns hns M hM
/-- what is told of a hole, as a number or nothing -/
def z_ov : Option Nat → Int32
  | none => -1
  | some v => nI v
def z_fit (w : Nat → Option Nat) (C : Nat → Nat) : Bool := z_al (fun h => match w h with | none => true | some v => decide (C h = v)) 3 0
def z_bey (w : Nat → Option Nat) (C : Nat → Nat) : Bool := !z_al (fun h => match w h with | none => true | some v => decide (C h ≤ v)) 3 0
def z_exn (w : Nat → Option Nat) (C : Nat → Nat) : Nat → Nat → Nat → Option Nat
  | 0, _, x => some x
  | k + 1, h, x => match w h with
    | none => z_exn w C k (h + 1) x
    | some v => if C h < v then none else z_exn w C k (h + 1) (x + (C h - v))
theorem z_al_iff (p : Nat → Bool) : ∀ k h, z_al p k h = true ↔ ∀ i, h ≤ i → i < h + k → p i = true := by
  intro k
  induction k with
  | zero => intro h; simp [z_al]; intro i a b; omega
  | succ k ih =>
    intro h
    rw [z_al, Bool.and_eq_true, ih]
    constructor
    · rintro ⟨a, b⟩ i h1 h2
      by_cases c : i = h
      · subst c; exact a
      · exact b i (by omega) (by omega)
    · intro a
      exact ⟨a h (by omega) (by omega), fun i h1 h2 => a i (by omega) (by omega)⟩
theorem z_fit_iff {w : Nat → Option Nat} {C : Nat → Nat} : z_fit w C = true ↔ ∀ h, h < 3 → ∀ v, w h = some v → C h = v := by
  unfold z_fit
  rw [z_al_iff]
  constructor
  · intro a h hh v hv
    have := a h (by omega) (by omega)
    rw [hv] at this
    simpa using this
  · intro a i _ hi
    cases hv : w i with
    | none => rfl
    | some v => simpa using a i (by omega) v hv
theorem z_bey_iff {w : Nat → Option Nat} {C : Nat → Nat} : z_bey w C = true ↔ ∃ h v, h < 3 ∧ w h = some v ∧ v < C h := by
  unfold z_bey
  constructor
  · intro a
    have h1 : ¬ z_al (fun h => match w h with | none => true | some v => decide (C h ≤ v)) 3 0 = true := by
      intro z
      rw [z] at a
      exact absurd a (by decide)
    apply Classical.byContradiction
    intro hn
    refine h1 ((z_al_iff _ _ _).mpr (fun i _ hi => ?_))
    cases hv : w i with
    | none => rfl
    | some v =>
      simp only [decide_eq_true_eq]
      apply Classical.byContradiction
      intro hh
      exact hn ⟨i, v, by omega, hv, by omega⟩
  · rintro ⟨h, v, hh, hv, hlt⟩
    cases hx : z_al (fun h => match w h with | none => true | some v => decide (C h ≤ v)) 3 0 with
    | false => rfl
    | true =>
      have := (z_al_iff _ _ _).mp hx h (by omega) (by omega)
      simp only [hv, decide_eq_true_eq] at this
      omega
theorem z_exn_le {w : Nat → Option Nat} {C : Nat → Nat} {b : Nat} (hC : ∀ h, h < 3 → C h ≤ b) : ∀ k h x n, h + k = 3 → z_exn w C k h x = some n → n ≤ x + k * b := by
  intro k
  induction k with
  | zero => intro h x n _ e; simp [z_exn] at e; omega
  | succ k ih =>
    intro h x n hk e
    rw [z_exn] at e
    have hb := hC h (by omega)
    rw [Nat.succ_mul]
    cases hv : w h with
    | none =>
      simp only [hv] at e
      have := ih (h + 1) x n (by omega) e
      omega
    | some v =>
      simp only [hv] at e
      by_cases c : C h < v
      · rw [if_pos c] at e; cases e
      · rw [if_neg c] at e
        have := ih (h + 1) _ n (by omega) e
        omega
theorem z_exn_iff {w : Nat → Option Nat} {C : Nat → Nat} : ∀ k h x, h + k = 3 → (z_exn w C k h x = some 0 ↔ x = 0 ∧ ∀ i, h ≤ i → i < 3 → ∀ v, w i = some v → C i = v) := by
  intro k
  induction k with
  | zero =>
    intro h x hk
    simp only [z_exn, Option.some.injEq]
    exact ⟨fun e => ⟨e, fun i a b => by omega⟩, fun e => e.1⟩
  | succ k ih =>
    intro h x hk
    rw [z_exn]
    cases hv : w h with
    | none =>
      simp only []
      rw [ih (h + 1) x (by omega)]
      constructor
      · rintro ⟨a, b⟩
        refine ⟨a, fun i h1 h2 v e => ?_⟩
        by_cases c : i = h
        · subst c; rw [hv] at e; cases e
        · exact b i (by omega) h2 v e
      · rintro ⟨a, b⟩
        exact ⟨a, fun i h1 h2 v e => b i (by omega) h2 v e⟩
    | some v =>
      simp only []
      by_cases c : C h < v
      · rw [if_pos c]
        constructor
        · intro e; cases e
        · rintro ⟨_, b⟩
          have := b h (Nat.le_refl _) (by omega) v hv
          omega
      · rw [if_neg c, ih (h + 1) _ (by omega)]
        constructor
        · rintro ⟨a, b⟩
          refine ⟨by omega, fun i h1 h2 u e => ?_⟩
          by_cases ci : i = h
          · subst ci; rw [hv] at e; cases e; omega
          · exact b i (by omega) h2 u e
        · rintro ⟨a, b⟩
          have := b h (Nat.le_refl _) (by omega) v hv
          exact ⟨by omega, fun i h1 h2 u e => b i (by omega) h2 u e⟩
theorem z_exn_fit {w : Nat → Option Nat} {C : Nat → Nat} : z_exn w C 3 0 0 = some 0 ↔ z_fit w C = true := by
  rw [z_exn_iff 3 0 0 rfl, z_fit_iff]
  constructor
  · rintro ⟨_, b⟩ h hh v e
    exact b h (Nat.zero_le _) hh v e
  · intro a
    exact ⟨rfl, fun i _ h2 v e => a i h2 v e⟩
/-- counts and toll of a row -/
def z_cn (ns : Nat) (sh : Nat → Nat → Nat) (r : Nat → Nat) (h : Nat) : Nat := z_sN ns (fun s => r s * sh s h)
def z_tn (ns : Nat) (ow : Nat → Nat) (r : Nat → Nat) : Nat := z_sN ns (fun s => r s * ow s)
theorem z_sN_mono {g h : Nat → Nat} : ∀ n : Nat, (∀ i, i < n → g i ≤ h i) → z_sN n g ≤ z_sN n h := by
  intro n
  induction n with
  | zero => intro _; exact Nat.le_refl _
  | succ n ih =>
    intro e
    have h1 := ih (fun i hi => e i (by omega))
    have h2 := e n (by omega)
    rw [z_sN, z_sN]
    omega
theorem z_sN_mul (g : Nat → Nat) (b : Nat) : ∀ n : Nat, z_sN n (fun i => g i * b) = z_sN n g * b := by
  intro n
  induction n with
  | zero => simp [z_sN]
  | succ n ih => rw [z_sN, z_sN, ih, Nat.add_mul]
theorem z_cn_mono {ns : Nat} {sh : Nat → Nat → Nat} {r q : Nat → Nat} (h : ∀ i, i < ns → r i ≤ q i) (j : Nat) : z_cn ns sh r j ≤ z_cn ns sh q j := z_sN_mono ns (fun i hi => Nat.mul_le_mul_right _ (h i hi))
theorem z_cn_le {ns M B j : Nat} {sh : Nat → Nat → Nat} {r : Nat → Nat} (hb : z_sN ns r ≤ M) (h : ∀ s, s < ns → sh s j ≤ B) : z_cn ns sh r j ≤ M * B := by
  have h1 := z_sN_mono (g := fun s => r s * sh s j) (h := fun s => r s * B) ns (fun i hi => Nat.mul_le_mul_left _ (h i hi))
  rw [z_sN_mul] at h1
  exact Nat.le_trans h1 (Nat.mul_le_mul_right _ hb)
theorem z_tn_le {ns M B : Nat} {ow : Nat → Nat} {r : Nat → Nat} (hb : z_sN ns r ≤ M) (h : ∀ s, s < ns → ow s ≤ B) : z_tn ns ow r ≤ M * B := by
  have h1 := z_sN_mono (g := fun s => r s * ow s) (h := fun s => r s * B) ns (fun i hi => Nat.mul_le_mul_left _ (h i hi))
  rw [z_sN_mul] at h1
  exact Nat.le_trans h1 (Nat.mul_le_mul_right _ hb)
/-- a row that is beyond: none that only adds to it fits -/
theorem z_bey_no {ns : Nat} {sh : Nat → Nat → Nat} {w : Nat → Option Nat} {r : Nat → Nat} (h : z_bey w (z_cn ns sh r) = true) : (∃ i, i < ns ∧ 0 < r i) ∧ ∀ q : Nat → Nat, (∀ i, i < ns → r i ≤ q i) → z_fit w (z_cn ns sh q) = false := by
  obtain ⟨j, v, hj, hv, hlt⟩ := z_bey_iff.mp h
  constructor
  · apply Classical.byContradiction
    intro hn
    have e : z_cn ns sh r j = 0 := by
      unfold z_cn
      rw [z_sN_congr (h := fun _ => 0) ns (fun i hi => by
        have : r i = 0 := by
          apply Classical.byContradiction
          intro hh
          exact hn ⟨i, hi, by omega⟩
        rw [this, Nat.zero_mul]), z_sN_0]
    omega
  · intro q hq
    cases hf : z_fit w (z_cn ns sh q) with
    | false => rfl
    | true =>
      have h1 := z_fit_iff.mp hf j hj v hv
      have h2 := z_cn_mono (sh := sh) hq j
      omega
/-- what is kept of the herds that fit: how many, least, greatest, the first with the least, how many of a sort, how many herds with it -/
abbrev z_A : Type := Nat × (Nat × (Nat × ((Nat → Nat) × ((Nat → Nat) × (Nat → Nat)))))
def z_kp (T : (Nat → Nat) → Nat) (r : Nat → Nat) (a : z_A) : z_A :=
  (a.1 + 1, (if a.1 = 0 ∨ T r < a.2.1 then T r else a.2.1), max a.2.2.1 (T r), (if a.1 = 0 ∨ T r < a.2.1 then r else a.2.2.2.1), (fun s => a.2.2.2.2.1 s + r s), (fun s => a.2.2.2.2.2 s + if 0 < r s then 1 else 0))
def z_A0 : z_A := (0, 0, 0, (fun _ => 0), (fun _ => 0), (fun _ => 0))
/-- all that fit -/
def z_fd (M ns : Nat) (w : Nat → Option Nat) (sh : Nat → Nat → Nat) (ow : Nat → Nat) : (Nat → Nat) → Nat → z_A → z_A := z_go M ns (fun r => z_fit w (z_cn ns sh r)) (z_kp (z_tn ns ow))
/-- bounds -/
def z_aok (ns : Nat) (a : z_A) : Prop := (a.1 = 0 → a.2.2.1 = 0) ∧ a.1 ≤ 40000 ∧ a.2.1 ≤ 20000 ∧ a.2.2.1 ≤ 20000 ∧ (∀ s, s < ns → a.2.2.2.2.1 s ≤ 18 * a.1) ∧ ∀ s, s < ns → a.2.2.2.2.2 s ≤ a.1
theorem z_aok0 (ns : Nat) : z_aok ns z_A0 := ⟨fun _ => rfl, by simp [z_A0], by simp [z_A0], by simp [z_A0], fun _ _ => Nat.zero_le _, fun _ _ => Nat.zero_le _⟩
theorem z_sN_ge {r : Nat → Nat} : ∀ n i, i < n → r i ≤ z_sN n r := by
  intro n
  induction n with
  | zero => intro i h; omega
  | succ n ih =>
    intro i h
    rw [z_sN]
    by_cases c : i = n
    · subst c; omega
    · have := ih i (by omega); omega
theorem z_aok_kp {ns : Nat} {T : (Nat → Nat) → Nat} {r : Nat → Nat} {a : z_A} (h : z_aok ns a) (h1 : a.1 + 1 ≤ 40000) (hT : T r ≤ 20000) (hr : ∀ s, s < ns → r s ≤ 18) : z_aok ns (z_kp T r a) := by
  obtain ⟨g0, g1, g2, g3, g4, g5⟩ := h
  refine ⟨fun z => absurd z (Nat.succ_ne_zero _), h1, ?_, ?_, fun s hs => ?_, fun s hs => ?_⟩
  · show (if a.1 = 0 ∨ T r < a.2.1 then T r else a.2.1) ≤ 20000
    split <;> omega
  · show max a.2.2.1 (T r) ≤ 20000
    omega
  · show a.2.2.2.2.1 s + r s ≤ 18 * (a.1 + 1)
    have := g4 s hs
    have := hr s hs
    omega
  · show a.2.2.2.2.2 s + (if 0 < r s then 1 else 0) ≤ a.1 + 1
    have := g5 s hs
    split <;> omega
