/-! how a text is read: what is derived of it (0 a factor, 1 an E, 2 the rest of a T, 3 the rest of an E), nested d deep, from p to q -/
def z_ru1 (tx : Nat → Nat) (len : Nat) (P : Nat → Nat → Nat → Nat → Option (List Int32) → Prop) : Prop := ∀ (d : Nat) (p : Nat) (q : Nat), d < 4 → z_at tx len p 33 = true → P 0 (d + 1) (p + 1) q none → P 0 d p q none
def z_ru2 (tx : Nat → Nat) (len : Nat) (P : Nat → Nat → Nat → Nat → Option (List Int32) → Prop) : Prop := ∀ (d : Nat) (p : Nat) (q : Nat) (c : List Int32), d < 4 → z_at tx len p 33 = true → P 0 (d + 1) (p + 1) q (some c) → P 0 d p q (some (c ++ [-1]))
def z_ru3 (tx : Nat → Nat) (len : Nat) (P : Nat → Nat → Nat → Nat → Option (List Int32) → Prop) : Prop := ∀ (d : Nat) (p : Nat) (q : Nat), d < 4 → z_at tx len p 40 = true → P 1 (d + 1) (p + 1) q none → P 0 d p q none
def z_ru4 (tx : Nat → Nat) (len : Nat) (P : Nat → Nat → Nat → Nat → Option (List Int32) → Prop) : Prop := ∀ (d : Nat) (p : Nat) (q : Nat) (c : List Int32), d < 4 → z_at tx len p 40 = true → P 1 (d + 1) (p + 1) q (some c) → ¬ z_at tx len q 41 = true → P 0 d p q none
def z_ru5 (tx : Nat → Nat) (len : Nat) (P : Nat → Nat → Nat → Nat → Option (List Int32) → Prop) : Prop := ∀ (d : Nat) (p : Nat) (q : Nat) (c : List Int32), d < 4 → z_at tx len p 40 = true → P 1 (d + 1) (p + 1) q (some c) → z_at tx len q 41 = true → P 0 d p (q + 1) (some c)
def z_ru6 (tx : Nat → Nat) (len : Nat) (P : Nat → Nat → Nat → Nat → Option (List Int32) → Prop) : Prop := ∀ (d : Nat) (p : Nat) (q : Nat), ¬ (d < 4 ∧ (z_at tx len p 33 = true ∨ z_at tx len p 40 = true)) → z_ts tx len p = (q, none) → P 0 d p q none
def z_ru7 (tx : Nat → Nat) (len : Nat) (P : Nat → Nat → Nat → Nat → Option (List Int32) → Prop) : Prop := ∀ (d : Nat) (p : Nat) (q : Nat) (t : Nat), ¬ (d < 4 ∧ (z_at tx len p 33 = true ∨ z_at tx len p 40 = true)) → z_ts tx len p = (q, some t) → P 0 d p q (some [nI t])
def z_ru8 (tx : Nat → Nat) (len : Nat) (P : Nat → Nat → Nat → Nat → Option (List Int32) → Prop) : Prop := ∀ (d : Nat) (p : Nat) (q : Nat), P 0 d p q none → P 1 d p q none
def z_ru9 (tx : Nat → Nat) (len : Nat) (P : Nat → Nat → Nat → Nat → Option (List Int32) → Prop) : Prop := ∀ (d : Nat) (p : Nat) (q : Nat) (q2 : Nat) (c : List Int32), P 0 d p q (some c) → P 2 d q q2 none → P 1 d p q2 none
def z_ru10 (tx : Nat → Nat) (len : Nat) (P : Nat → Nat → Nat → Nat → Option (List Int32) → Prop) : Prop := ∀ (d : Nat) (p : Nat) (q : Nat) (q2 : Nat) (q3 : Nat) (c : List Int32) (c2 : List Int32), P 0 d p q (some c) → P 2 d q q2 (some c2) → P 3 d q2 q3 none → P 1 d p q3 none
def z_ru11 (tx : Nat → Nat) (len : Nat) (P : Nat → Nat → Nat → Nat → Option (List Int32) → Prop) : Prop := ∀ (d : Nat) (p : Nat) (q : Nat) (q2 : Nat) (q3 : Nat) (c : List Int32) (c2 : List Int32) (c3 : List Int32), P 0 d p q (some c) → P 2 d q q2 (some c2) → P 3 d q2 q3 (some c3) → P 1 d p q3 (some (c ++ (c2 ++ c3)))
def z_ru12 (tx : Nat → Nat) (len : Nat) (P : Nat → Nat → Nat → Nat → Option (List Int32) → Prop) : Prop := ∀ (d : Nat) (p : Nat), ¬ z_at tx len p 38 = true → P 2 d p p (some [])
def z_ru13 (tx : Nat → Nat) (len : Nat) (P : Nat → Nat → Nat → Nat → Option (List Int32) → Prop) : Prop := ∀ (d : Nat) (p : Nat) (q : Nat), z_at tx len p 38 = true → P 0 d (p + 1) q none → P 2 d p q none
def z_ru14 (tx : Nat → Nat) (len : Nat) (P : Nat → Nat → Nat → Nat → Option (List Int32) → Prop) : Prop := ∀ (d : Nat) (p : Nat) (q : Nat) (q2 : Nat) (c : List Int32), z_at tx len p 38 = true → P 0 d (p + 1) q (some c) → P 2 d q q2 none → P 2 d p q2 none
def z_ru15 (tx : Nat → Nat) (len : Nat) (P : Nat → Nat → Nat → Nat → Option (List Int32) → Prop) : Prop := ∀ (d : Nat) (p : Nat) (q : Nat) (q2 : Nat) (c : List Int32) (c2 : List Int32), z_at tx len p 38 = true → P 0 d (p + 1) q (some c) → P 2 d q q2 (some c2) → P 2 d p q2 (some (c ++ (-2 :: c2)))
def z_ru16 (tx : Nat → Nat) (len : Nat) (P : Nat → Nat → Nat → Nat → Option (List Int32) → Prop) : Prop := ∀ (d : Nat) (p : Nat), ¬ z_at tx len p 124 = true → P 3 d p p (some [])
def z_ru17 (tx : Nat → Nat) (len : Nat) (P : Nat → Nat → Nat → Nat → Option (List Int32) → Prop) : Prop := ∀ (d : Nat) (p : Nat) (q : Nat), z_at tx len p 124 = true → P 0 d (p + 1) q none → P 3 d p q none
def z_ru18 (tx : Nat → Nat) (len : Nat) (P : Nat → Nat → Nat → Nat → Option (List Int32) → Prop) : Prop := ∀ (d : Nat) (p : Nat) (q : Nat) (q2 : Nat) (c : List Int32), z_at tx len p 124 = true → P 0 d (p + 1) q (some c) → P 2 d q q2 none → P 3 d p q2 none
def z_ru19 (tx : Nat → Nat) (len : Nat) (P : Nat → Nat → Nat → Nat → Option (List Int32) → Prop) : Prop := ∀ (d : Nat) (p : Nat) (q : Nat) (q2 : Nat) (q3 : Nat) (c : List Int32) (c2 : List Int32), z_at tx len p 124 = true → P 0 d (p + 1) q (some c) → P 2 d q q2 (some c2) → P 3 d q2 q3 none → P 3 d p q3 none
def z_ru20 (tx : Nat → Nat) (len : Nat) (P : Nat → Nat → Nat → Nat → Option (List Int32) → Prop) : Prop := ∀ (d : Nat) (p : Nat) (q : Nat) (q2 : Nat) (q3 : Nat) (c : List Int32) (c2 : List Int32) (c3 : List Int32), z_at tx len p 124 = true → P 0 d (p + 1) q (some c) → P 2 d q q2 (some c2) → P 3 d q2 q3 (some c3) → P 3 d p q3 (some (c ++ (c2 ++ (-3 :: c3))))
def z_ru (tx : Nat → Nat) (len : Nat) (P : Nat → Nat → Nat → Nat → Option (List Int32) → Prop) : Prop := z_ru1 tx len P ∧ z_ru2 tx len P ∧ z_ru3 tx len P ∧ z_ru4 tx len P ∧ z_ru5 tx len P ∧ z_ru6 tx len P ∧ z_ru7 tx len P ∧ z_ru8 tx len P ∧ z_ru9 tx len P ∧ z_ru10 tx len P ∧ z_ru11 tx len P ∧ z_ru12 tx len P ∧ z_ru13 tx len P ∧ z_ru14 tx len P ∧ z_ru15 tx len P ∧ z_ru16 tx len P ∧ z_ru17 tx len P ∧ z_ru18 tx len P ∧ z_ru19 tx len P ∧ z_ru20 tx len P
def zDer (tx : Nat → Nat) (len m d p q : Nat) (r : Option (List Int32)) : Prop := ∀ P : Nat → Nat → Nat → Nat → Option (List Int32) → Prop, z_ru tx len P → P m d p q r
theorem zD_1 {tx : Nat → Nat} {len : Nat} {d : Nat} {p : Nat} {q : Nat} (h0 : d < 4) (h1 : z_at tx len p 33 = true) (h2 : zDer tx len 0 (d + 1) (p + 1) q none) : zDer tx len 0 d p q none := fun P hP => hP.1 _ _ _ h0 h1 (h2 P hP)
theorem zD_2 {tx : Nat → Nat} {len : Nat} {d : Nat} {p : Nat} {q : Nat} {c : List Int32} (h0 : d < 4) (h1 : z_at tx len p 33 = true) (h2 : zDer tx len 0 (d + 1) (p + 1) q (some c)) : zDer tx len 0 d p q (some (c ++ [-1])) := fun P hP => hP.2.1 _ _ _ _ h0 h1 (h2 P hP)
theorem zD_3 {tx : Nat → Nat} {len : Nat} {d : Nat} {p : Nat} {q : Nat} (h0 : d < 4) (h1 : z_at tx len p 40 = true) (h2 : zDer tx len 1 (d + 1) (p + 1) q none) : zDer tx len 0 d p q none := fun P hP => hP.2.2.1 _ _ _ h0 h1 (h2 P hP)
theorem zD_4 {tx : Nat → Nat} {len : Nat} {d : Nat} {p : Nat} {q : Nat} {c : List Int32} (h0 : d < 4) (h1 : z_at tx len p 40 = true) (h2 : zDer tx len 1 (d + 1) (p + 1) q (some c)) (h3 : ¬ z_at tx len q 41 = true) : zDer tx len 0 d p q none := fun P hP => hP.2.2.2.1 _ _ _ _ h0 h1 (h2 P hP) h3
theorem zD_5 {tx : Nat → Nat} {len : Nat} {d : Nat} {p : Nat} {q : Nat} {c : List Int32} (h0 : d < 4) (h1 : z_at tx len p 40 = true) (h2 : zDer tx len 1 (d + 1) (p + 1) q (some c)) (h3 : z_at tx len q 41 = true) : zDer tx len 0 d p (q + 1) (some c) := fun P hP => hP.2.2.2.2.1 _ _ _ _ h0 h1 (h2 P hP) h3
theorem zD_6 {tx : Nat → Nat} {len : Nat} {d : Nat} {p : Nat} {q : Nat} (h0 : ¬ (d < 4 ∧ (z_at tx len p 33 = true ∨ z_at tx len p 40 = true))) (h1 : z_ts tx len p = (q, none)) : zDer tx len 0 d p q none := fun P hP => hP.2.2.2.2.2.1 _ _ _ h0 h1
theorem zD_7 {tx : Nat → Nat} {len : Nat} {d : Nat} {p : Nat} {q : Nat} {t : Nat} (h0 : ¬ (d < 4 ∧ (z_at tx len p 33 = true ∨ z_at tx len p 40 = true))) (h1 : z_ts tx len p = (q, some t)) : zDer tx len 0 d p q (some [nI t]) := fun P hP => hP.2.2.2.2.2.2.1 _ _ _ _ h0 h1
theorem zD_8 {tx : Nat → Nat} {len : Nat} {d : Nat} {p : Nat} {q : Nat} (h0 : zDer tx len 0 d p q none) : zDer tx len 1 d p q none := fun P hP => hP.2.2.2.2.2.2.2.1 _ _ _ (h0 P hP)
theorem zD_9 {tx : Nat → Nat} {len : Nat} {d : Nat} {p : Nat} {q : Nat} {q2 : Nat} {c : List Int32} (h0 : zDer tx len 0 d p q (some c)) (h1 : zDer tx len 2 d q q2 none) : zDer tx len 1 d p q2 none := fun P hP => hP.2.2.2.2.2.2.2.2.1 _ _ _ _ _ (h0 P hP) (h1 P hP)
theorem zD_10 {tx : Nat → Nat} {len : Nat} {d : Nat} {p : Nat} {q : Nat} {q2 : Nat} {q3 : Nat} {c : List Int32} {c2 : List Int32} (h0 : zDer tx len 0 d p q (some c)) (h1 : zDer tx len 2 d q q2 (some c2)) (h2 : zDer tx len 3 d q2 q3 none) : zDer tx len 1 d p q3 none := fun P hP => hP.2.2.2.2.2.2.2.2.2.1 _ _ _ _ _ _ _ (h0 P hP) (h1 P hP) (h2 P hP)
theorem zD_11 {tx : Nat → Nat} {len : Nat} {d : Nat} {p : Nat} {q : Nat} {q2 : Nat} {q3 : Nat} {c : List Int32} {c2 : List Int32} {c3 : List Int32} (h0 : zDer tx len 0 d p q (some c)) (h1 : zDer tx len 2 d q q2 (some c2)) (h2 : zDer tx len 3 d q2 q3 (some c3)) : zDer tx len 1 d p q3 (some (c ++ (c2 ++ c3))) := fun P hP => hP.2.2.2.2.2.2.2.2.2.2.1 _ _ _ _ _ _ _ _ (h0 P hP) (h1 P hP) (h2 P hP)
theorem zD_12 {tx : Nat → Nat} {len : Nat} {d : Nat} {p : Nat} (h0 : ¬ z_at tx len p 38 = true) : zDer tx len 2 d p p (some []) := fun P hP => hP.2.2.2.2.2.2.2.2.2.2.2.1 _ _ h0
theorem zD_13 {tx : Nat → Nat} {len : Nat} {d : Nat} {p : Nat} {q : Nat} (h0 : z_at tx len p 38 = true) (h1 : zDer tx len 0 d (p + 1) q none) : zDer tx len 2 d p q none := fun P hP => hP.2.2.2.2.2.2.2.2.2.2.2.2.1 _ _ _ h0 (h1 P hP)
theorem zD_14 {tx : Nat → Nat} {len : Nat} {d : Nat} {p : Nat} {q : Nat} {q2 : Nat} {c : List Int32} (h0 : z_at tx len p 38 = true) (h1 : zDer tx len 0 d (p + 1) q (some c)) (h2 : zDer tx len 2 d q q2 none) : zDer tx len 2 d p q2 none := fun P hP => hP.2.2.2.2.2.2.2.2.2.2.2.2.2.1 _ _ _ _ _ h0 (h1 P hP) (h2 P hP)
theorem zD_15 {tx : Nat → Nat} {len : Nat} {d : Nat} {p : Nat} {q : Nat} {q2 : Nat} {c : List Int32} {c2 : List Int32} (h0 : z_at tx len p 38 = true) (h1 : zDer tx len 0 d (p + 1) q (some c)) (h2 : zDer tx len 2 d q q2 (some c2)) : zDer tx len 2 d p q2 (some (c ++ (-2 :: c2))) := fun P hP => hP.2.2.2.2.2.2.2.2.2.2.2.2.2.2.1 _ _ _ _ _ _ h0 (h1 P hP) (h2 P hP)
theorem zD_16 {tx : Nat → Nat} {len : Nat} {d : Nat} {p : Nat} (h0 : ¬ z_at tx len p 124 = true) : zDer tx len 3 d p p (some []) := fun P hP => hP.2.2.2.2.2.2.2.2.2.2.2.2.2.2.2.1 _ _ h0
theorem zD_17 {tx : Nat → Nat} {len : Nat} {d : Nat} {p : Nat} {q : Nat} (h0 : z_at tx len p 124 = true) (h1 : zDer tx len 0 d (p + 1) q none) : zDer tx len 3 d p q none := fun P hP => hP.2.2.2.2.2.2.2.2.2.2.2.2.2.2.2.2.1 _ _ _ h0 (h1 P hP)
theorem zD_18 {tx : Nat → Nat} {len : Nat} {d : Nat} {p : Nat} {q : Nat} {q2 : Nat} {c : List Int32} (h0 : z_at tx len p 124 = true) (h1 : zDer tx len 0 d (p + 1) q (some c)) (h2 : zDer tx len 2 d q q2 none) : zDer tx len 3 d p q2 none := fun P hP => hP.2.2.2.2.2.2.2.2.2.2.2.2.2.2.2.2.2.1 _ _ _ _ _ h0 (h1 P hP) (h2 P hP)
theorem zD_19 {tx : Nat → Nat} {len : Nat} {d : Nat} {p : Nat} {q : Nat} {q2 : Nat} {q3 : Nat} {c : List Int32} {c2 : List Int32} (h0 : z_at tx len p 124 = true) (h1 : zDer tx len 0 d (p + 1) q (some c)) (h2 : zDer tx len 2 d q q2 (some c2)) (h3 : zDer tx len 3 d q2 q3 none) : zDer tx len 3 d p q3 none := fun P hP => hP.2.2.2.2.2.2.2.2.2.2.2.2.2.2.2.2.2.2.1 _ _ _ _ _ _ _ h0 (h1 P hP) (h2 P hP) (h3 P hP)
theorem zD_20 {tx : Nat → Nat} {len : Nat} {d : Nat} {p : Nat} {q : Nat} {q2 : Nat} {q3 : Nat} {c : List Int32} {c2 : List Int32} {c3 : List Int32} (h0 : z_at tx len p 124 = true) (h1 : zDer tx len 0 d (p + 1) q (some c)) (h2 : zDer tx len 2 d q q2 (some c2)) (h3 : zDer tx len 3 d q2 q3 (some c3)) : zDer tx len 3 d p q3 (some (c ++ (c2 ++ (-3 :: c3)))) := fun P hP => hP.2.2.2.2.2.2.2.2.2.2.2.2.2.2.2.2.2.2.2 _ _ _ _ _ _ _ _ h0 (h1 P hP) (h2 P hP) (h3 P hP)
theorem z_ts_ok {tx : Nat → Nat} {len p q : Nat} {o : Option Nat} (hp : p ≤ len) (h : z_ts tx len p = (q, o)) : p ≤ q ∧ q ≤ len ∧ ∀ t, o = some t → p + 3 ≤ q ∧ t < 1800 := by
  unfold z_ts at h
  cases h1 : z_oo tx len 6 p with
  | none =>
    rw [h1] at h
    simp only [Prod.mk.injEq] at h
    obtain ⟨e1, e2⟩ := h
    subst e1; subst e2
    exact ⟨Nat.le_refl _, hp, fun t ht => by cases ht⟩
  | some a =>
    have b1 := (z_oo_lt h1).2.1 rfl
    have p1 := z_oo_p h1
    rw [h1] at h
    simp only [] at h
    cases h2 : z_oo tx len 7 (p + 1) with
    | none =>
      rw [h2] at h
      simp only [Prod.mk.injEq] at h
      obtain ⟨e1, e2⟩ := h
      subst e1; subst e2
      exact ⟨by omega, by omega, fun t ht => by cases ht⟩
    | some b =>
      have b2 := (z_oo_lt h2).2.2.1 rfl
      have p2 := z_oo_p h2
      rw [h2] at h
      simp only [] at h
      cases h3 : z_nm tx len (p + 2) with
      | mk q3 o3 =>
        obtain ⟨n1, n2, n3, n4⟩ := z_nm_ok (by omega) h3
        rw [h3] at h
        cases o3 with
        | none =>
          simp only [Prod.mk.injEq] at h
          obtain ⟨e1, e2⟩ := h
          subst e1; subst e2
          exact ⟨by omega, by omega, fun t ht => by cases ht⟩
        | some n =>
          have := n4 n rfl
          simp only [Prod.mk.injEq] at h
          obtain ⟨e1, e2⟩ := h
          subst e1; subst e2
          exact ⟨by omega, by omega, fun t ht => by simp only [Option.some.injEq] at ht; omega⟩
theorem z_at_p {tx : Nat → Nat} {len p b : Nat} (h : z_at tx len p b = true) : p < len := by
  simp only [z_at, Bool.and_eq_true, decide_eq_true_eq] at h
  exact h.1
def z_lnP (len : Nat) : Nat → Nat → Nat → Nat → Option (List Int32) → Prop := fun m _ p q r => p ≤ len → p ≤ q ∧ q ≤ len ∧ ∀ c, r = some c → p + c.length ≤ q ∧ (m ≤ 1 → p < q)
theorem z_lnR (tx : Nat → Nat) (len : Nat) : z_ru tx len (z_lnP len) := by
  refine ⟨?_, ?_, ?_, ?_, ?_, ?_, ?_, ?_, ?_, ?_, ?_, ?_, ?_, ?_, ?_, ?_, ?_, ?_, ?_, ?_⟩
  · intro d p q h0 h1 h2 hp
    have a1 := z_at_p h1
    have i2 := h2 (by omega)
    exact ⟨by omega, by omega, fun c hc => by cases hc⟩
  · intro d p q c h0 h1 h2 hp
    have a1 := z_at_p h1
    have i2 := h2 (by omega)
    have j2 := i2.2.2 c rfl
    refine ⟨by omega, by omega, fun c' hc => ?_⟩
    simp only [Option.some.injEq] at hc
    rw [← hc]
    try simp only [List.length_append, List.length_cons, List.length_nil]
    omega
  · intro d p q h0 h1 h2 hp
    have a1 := z_at_p h1
    have i2 := h2 (by omega)
    exact ⟨by omega, by omega, fun c hc => by cases hc⟩
  · intro d p q c h0 h1 h2 h3 hp
    have a1 := z_at_p h1
    have i2 := h2 (by omega)
    have j2 := i2.2.2 c rfl
    exact ⟨by omega, by omega, fun c hc => by cases hc⟩
  · intro d p q c h0 h1 h2 h3 hp
    have a1 := z_at_p h1
    have i2 := h2 (by omega)
    have j2 := i2.2.2 c rfl
    have a3 := z_at_p h3
    refine ⟨by omega, by omega, fun c' hc => ?_⟩
    simp only [Option.some.injEq] at hc
    rw [← hc]
    try simp only [List.length_append, List.length_cons, List.length_nil]
    omega
  · intro d p q h0 h1 hp
    have i1 := z_ts_ok hp h1
    exact ⟨by omega, by omega, fun c hc => by cases hc⟩
  · intro d p q t h0 h1 hp
    have i1 := z_ts_ok hp h1
    have j1 := i1.2.2 t rfl
    refine ⟨by omega, by omega, fun c' hc => ?_⟩
    simp only [Option.some.injEq] at hc
    rw [← hc]
    try simp only [List.length_append, List.length_cons, List.length_nil]
    omega
  · intro d p q h0 hp
    have i0 := h0 (by omega)
    exact ⟨by omega, by omega, fun c hc => by cases hc⟩
  · intro d p q q2 c h0 h1 hp
    have i0 := h0 (by omega)
    have j0 := i0.2.2 c rfl
    have i1 := h1 (by omega)
    exact ⟨by omega, by omega, fun c hc => by cases hc⟩
  · intro d p q q2 q3 c c2 h0 h1 h2 hp
    have i0 := h0 (by omega)
    have j0 := i0.2.2 c rfl
    have i1 := h1 (by omega)
    have j1 := i1.2.2 c2 rfl
    have i2 := h2 (by omega)
    exact ⟨by omega, by omega, fun c hc => by cases hc⟩
  · intro d p q q2 q3 c c2 c3 h0 h1 h2 hp
    have i0 := h0 (by omega)
    have j0 := i0.2.2 c rfl
    have i1 := h1 (by omega)
    have j1 := i1.2.2 c2 rfl
    have i2 := h2 (by omega)
    have j2 := i2.2.2 c3 rfl
    refine ⟨by omega, by omega, fun c' hc => ?_⟩
    simp only [Option.some.injEq] at hc
    rw [← hc]
    try simp only [List.length_append, List.length_cons, List.length_nil]
    omega
  · intro d p h0 hp
    refine ⟨by omega, by omega, fun c' hc => ?_⟩
    simp only [Option.some.injEq] at hc
    rw [← hc]
    try simp only [List.length_append, List.length_cons, List.length_nil]
    omega
  · intro d p q h0 h1 hp
    have a0 := z_at_p h0
    have i1 := h1 (by omega)
    exact ⟨by omega, by omega, fun c hc => by cases hc⟩
  · intro d p q q2 c h0 h1 h2 hp
    have a0 := z_at_p h0
    have i1 := h1 (by omega)
    have j1 := i1.2.2 c rfl
    have i2 := h2 (by omega)
    exact ⟨by omega, by omega, fun c hc => by cases hc⟩
  · intro d p q q2 c c2 h0 h1 h2 hp
    have a0 := z_at_p h0
    have i1 := h1 (by omega)
    have j1 := i1.2.2 c rfl
    have i2 := h2 (by omega)
    have j2 := i2.2.2 c2 rfl
    refine ⟨by omega, by omega, fun c' hc => ?_⟩
    simp only [Option.some.injEq] at hc
    rw [← hc]
    try simp only [List.length_append, List.length_cons, List.length_nil]
    omega
  · intro d p h0 hp
    refine ⟨by omega, by omega, fun c' hc => ?_⟩
    simp only [Option.some.injEq] at hc
    rw [← hc]
    try simp only [List.length_append, List.length_cons, List.length_nil]
    omega
  · intro d p q h0 h1 hp
    have a0 := z_at_p h0
    have i1 := h1 (by omega)
    exact ⟨by omega, by omega, fun c hc => by cases hc⟩
  · intro d p q q2 c h0 h1 h2 hp
    have a0 := z_at_p h0
    have i1 := h1 (by omega)
    have j1 := i1.2.2 c rfl
    have i2 := h2 (by omega)
    exact ⟨by omega, by omega, fun c hc => by cases hc⟩
  · intro d p q q2 q3 c c2 h0 h1 h2 h3 hp
    have a0 := z_at_p h0
    have i1 := h1 (by omega)
    have j1 := i1.2.2 c rfl
    have i2 := h2 (by omega)
    have j2 := i2.2.2 c2 rfl
    have i3 := h3 (by omega)
    exact ⟨by omega, by omega, fun c hc => by cases hc⟩
  · intro d p q q2 q3 c c2 c3 h0 h1 h2 h3 hp
    have a0 := z_at_p h0
    have i1 := h1 (by omega)
    have j1 := i1.2.2 c rfl
    have i2 := h2 (by omega)
    have j2 := i2.2.2 c2 rfl
    have i3 := h3 (by omega)
    have j3 := i3.2.2 c3 rfl
    refine ⟨by omega, by omega, fun c' hc => ?_⟩
    simp only [Option.some.injEq] at hc
    rw [← hc]
    try simp only [List.length_append, List.length_cons, List.length_nil]
    omega
theorem zD_len {tx : Nat → Nat} {len m d p q : Nat} {r : Option (List Int32)} (h : zDer tx len m d p q r) (hp : p ≤ len) : p ≤ q ∧ q ≤ len ∧ ∀ c, r = some c → p + c.length ≤ q ∧ (m ≤ 1 → p < q) := h _ (z_lnR tx len) hp
theorem zCd_app {g g1 g2 : Nat → Nat → Int32} {q cl : Nat} {c1 c2 : List Int32} (h1 : zCd g g1 q cl c1) (h2 : zCd g1 g2 q (cl + c1.length) c2) : zCd g g2 q cl (c1 ++ c2) := by
  obtain ⟨a1, a2, a3⟩ := h1
  obtain ⟨b1, b2, b3⟩ := h2
  refine ⟨by rw [b1, List.length_append, Nat.add_assoc], fun i hi => ?_, fun j hj => by rw [b3 j (by omega), a3 j hj]⟩
  rw [List.length_append] at hi
  by_cases c : i < c1.length
  · rw [b3 _ (by omega), a2 i c, List.getD_eq_getElem?_getD, List.getD_eq_getElem?_getD, List.getElem?_append_left c]
  · obtain ⟨k, rfl⟩ : ∃ k, i = c1.length + k := ⟨i - c1.length, by omega⟩
    rw [← Nat.add_assoc, b2 k (by omega), List.getD_eq_getElem?_getD, List.getD_eq_getElem?_getD, List.getElem?_append_right (by omega), show c1.length + k - c1.length = k by omega]
theorem zCd_nil {g g2 : Nat → Nat → Int32} {q cl : Nat} (h1 : g2 (66 + 5 * q) 1 = nI cl) (h2 : ∀ j, g2 (70 + 5 * q) j = g (70 + 5 * q) j) : zCd g g2 q cl [] := ⟨h1, fun i hi => by simp at hi, fun j _ => h2 j⟩
theorem zCd_one {g : Nat → Nat → Int32} {q cl : Nat} {x : Int32} : zCd g (zw_u (zw_u g (70 + 5 * q) cl x) (66 + 5 * q) 1 (nI (cl + 1))) q cl [x] := by
  refine ⟨by rw [z_u_at]; rfl, fun i hi => ?_, fun j hj => by rw [z_u_ne _ _ (by omega), z_u_ne _ _ (by omega)]⟩
  have hi0 : i = 0 := by simpa using hi
  subst hi0
  rw [z_u_ne _ _ (by omega), Nat.add_zero, z_u_at]
  rfl
theorem zCd_pl {g g' g2 : Nat → Nat → Int32} {q cl : Nat} {c : List Int32} (h : zCd g' g2 q cl c) (e : ∀ j, g' (70 + 5 * q) j = g (70 + 5 * q) j) : zCd g g2 q cl c := ⟨h.1, h.2.1, fun j hj => (h.2.2 j hj).trans (e j)⟩
theorem zFrC_tr {g g1 g2 : Nat → Nat → Int32} {q : Nat} (h1 : zFrC g g1 q) (h2 : zFrC g1 g2 q) : zFrC g g2 q := fun k j a b c => (h2 k j a b c).trans (h1 k j a b c)
theorem zFrC_p {g : Nat → Nat → Int32} {q p : Nat} : zFrC g (zw_u g 39 2 (nI p)) q := fun k j a _ _ => z_u_ne _ _ (by omega)
theorem zFrC_o {g : Nat → Nat → Int32} {q cl : Nat} {x y : Int32} : zFrC g (zw_u (zw_u g (70 + 5 * q) cl x) (66 + 5 * q) 1 y) q := fun k j _ b c => by rw [z_u_ne _ _ (by omega), z_u_ne _ _ (by omega)]
theorem zTK_o {g : Nat → Nat → Int32} {tx : Nat → Nat} {len p q cl : Nat} {fl : Bool} {x y : Int32} (K : zTK g tx len p fl) : zTK (zw_u (zw_u g (70 + 5 * q) cl x) (66 + 5 * q) 1 y) tx len p fl := zTK_fr K (fun k j z => by rw [z_u_ne _ _ (by omega), z_u_ne _ _ (by omega)])
theorem zTK_len {g : Nat → Nat → Int32} {tx : Nat → Nat} {len p : Nat} {fl : Bool} (K : zTK g tx len p fl) : p ≤ len ∧ len ≤ 100 := ⟨K.2.2.2.1, K.2.2.2.2.1⟩
theorem z_nd5 (tx : Nat → Nat) (len p : Nat) (fl : Bool) : z_nd tx len 5 (p, fl) = if (!fl && z_at tx len p 41) = true then (p + 1, fl) else (p, true) := by
  show z_ndp tx len 5 1 0 (p, fl) = _
  rw [z_ndp, z_ndp, show (z_ch 5 0).toNatClampNeg = 41 by decide]
/-- behind a reader: it has read, or failed -/
def zPo (tx : Nat → Nat) (len m d p q cl : Nat) (g g2 : Nat → Nat → Int32) : Prop := (∃ q' c, zDer tx len m d p q' (some c) ∧ zTK g2 tx len q' false ∧ zCd g g2 q cl c) ∨ ∃ q', zDer tx len m d p q' none ∧ zXf g2 tx len q' q
section P53
variable {l : Launch} {D : va_G} {tc : Nat → ClassId} {A : Nat → Prop} {S : zw_S} {gi : Nat → Nat → Int32} {gl : Nat → Nat → Int64} {f : Option Nat}
def zHF (l : Launch) (D : va_G) (tc : Nat → ClassId) (A : Nat → Prop) (gl : Nat → Nat → Int64) (tx : Nat → Nat) (len q n d : Nat) : Prop := ∀ (dl : Nat) (p cl : Nat) (g : Nat → Nat → Int32), 2 * n + 8 ≤ dl → zTK g tx len p false → g (66 + 5 * q) 1 = nI cl → cl ≤ p → zCall l D tc A mX2_readFactor dl 0 0 [.ref 39, .int (nI d)] (zs g gl (some (66 + 5 * q))) (zQv fun S' => ∃ g2, S' = zs g2 gl (some (66 + 5 * q)) ∧ zFrC g g2 q ∧ zPo tx len 0 d p q cl g g2)
def zHE (l : Launch) (D : va_G) (tc : Nat → ClassId) (A : Nat → Prop) (gl : Nat → Nat → Int64) (tx : Nat → Nat) (len q n d : Nat) : Prop := ∀ (dl : Nat) (p cl : Nat) (g : Nat → Nat → Int32), 2 * n + 9 ≤ dl → zTK g tx len p false → g (66 + 5 * q) 1 = nI cl → cl ≤ p → zCall l D tc A mX2_readEither dl 0 0 [.ref 39, .int (nI d)] (zs g gl (some (66 + 5 * q))) (zQv fun S' => ∃ g2, S' = zs g2 gl (some (66 + 5 * q)) ∧ zFrC g g2 q ∧ zPo tx len 1 d p q cl g g2)
theorem t_rfX (d q : Nat) (hq : q < 6) {tx : Nat → Nat} {len p : Nat} {g : Nat → Nat → Int32} (hX : zXf g tx len p q) (w : Int32) : zCall l D tc A mX2_readFactor (d + 7) 0 0 [.ref 39, .int w] (zs g gl (some (66 + 5 * q))) (zQv fun S' => ∃ g2, S' = zs g2 gl (some (66 + 5 * q)) ∧ zFrC g g2 q ∧ zXf g2 tx len p q) := by
  obtain ⟨K, cl, h100, hc⟩ := id hX
  show zW l D tc A mX2_readFactor (d + 7) 0 0 0 0 0 [some (.ref 39), some (.int w), none, none] [] (zs g gl (some (66 + 5 * q))) _
  refine zx_iload_n (q := 1) dX2_readFactor_0 rfl rfl rfl ?_
  refine zx_istore2 (q := 2) dX2_readFactor_1 rfl rfl ?_
  refine zx_iload_n (q := 3) dX2_readFactor_2 rfl rfl rfl ?_
  refine zx_istore3 (q := 4) dX2_readFactor_3 rfl rfl ?_
  refine zx_iload_n (q := 5) dX2_readFactor_4 rfl rfl rfl ?_
  refine zx_iconst (q := 6) (v := 4) dX2_readFactor_5 (by decide) rfl ?_
  refine zx_icmp_ge (q := 9) (t := 27) dX2_readFactor_6 (by decide) rfl (fun c_6 => ?_) (fun c_6 => ?_)
  · refine zx_iload_n (q := 28) dX2_readFactor_27 rfl rfl rfl ?_
    refine zx_iconst (q := 29) (v := 4) dX2_readFactor_28 (by decide) rfl ?_
    refine zx_icmp_ge (q := 32) (t := 57) dX2_readFactor_29 (by decide) rfl (fun c_29 => ?_) (fun c_29 => ?_)
    · refine zx_aload_n (q := 58) dX2_readFactor_57 rfl rfl rfl ?_
      refine zx_callV0v (q := 61) (y' := mX2_readTest) dX2_readFactor_58 ml_RX2_77 ok_mX2_readTest rfl (by decide) rfl (Nat.le_of_ble_eq_true rfl) (Nat.le_of_ble_eq_true rfl) (Nat.le_refl _) (Nat.le_refl _) rfl (t_rtX1 _ K hq hc h100 (Or.inl rfl)) ?_
      rintro _ ⟨g2, rfl, hX2, e2⟩
      refine zx_iload_n (q := 62) dX2_readFactor_61 rfl rfl rfl ?_
      refine zx_istore3 (q := 63) dX2_readFactor_62 rfl rfl ?_
      refine zx_iload_n (q := 64) dX2_readFactor_63 rfl rfl rfl ?_
      refine zx_iload_n (q := 65) dX2_readFactor_64 rfl rfl rfl ?_
      refine zx_icmp_ge_t (t := 82) (q := 68) dX2_readFactor_65 (by decide) rfl (by rw [Int32.le_iff_toInt_le]; exact Int.le_refl _) ?_
      refine zx_vret dX2_readFactor_82 rfl (Nat.le_refl _) (Nat.le_refl _) ⟨rfl, ?_⟩
      exact ⟨g2, rfl, e2, hX2⟩
    · refine zx_aload_n (q := 33) dX2_readFactor_32 rfl rfl rfl ?_
      refine zx_bipush (q := 35) (v := 40) dX2_readFactor_33 (by decide) rfl ?_
      refine zx_callV1i (q := 38) (y' := mX2_takes) dX2_readFactor_35 ml_RX2_38 ok_mX2_takes rfl (by decide) rfl (Nat.le_of_ble_eq_true rfl) (Nat.le_of_ble_eq_true rfl) (Nat.le_refl _) (Nat.le_refl _) rfl (t_takes _ 40 K (by omega)) ?_
      rintro _ _ ⟨rfl, rfl⟩
      rw [if_neg (show ¬ (!true && z_at tx len p 40) = true from by simp)]
      refine zx_if_eq_t (t := 57) (q := 41) dX2_readFactor_38 (by decide) rfl (rfl) ?_
      refine zx_aload_n (q := 58) dX2_readFactor_57 rfl rfl rfl ?_
      refine zx_callV0v (q := 61) (y' := mX2_readTest) dX2_readFactor_58 ml_RX2_77 ok_mX2_readTest rfl (by decide) rfl (Nat.le_of_ble_eq_true rfl) (Nat.le_of_ble_eq_true rfl) (Nat.le_refl _) (Nat.le_refl _) rfl (t_rtX1 _ K hq hc h100 (Or.inl rfl)) ?_
      rintro _ ⟨g2, rfl, hX2, e2⟩
      refine zx_iload_n (q := 62) dX2_readFactor_61 rfl rfl rfl ?_
      refine zx_istore3 (q := 63) dX2_readFactor_62 rfl rfl ?_
      refine zx_iload_n (q := 64) dX2_readFactor_63 rfl rfl rfl ?_
      refine zx_iload_n (q := 65) dX2_readFactor_64 rfl rfl rfl ?_
      refine zx_icmp_ge_t (t := 82) (q := 68) dX2_readFactor_65 (by decide) rfl (by rw [Int32.le_iff_toInt_le]; exact Int.le_refl _) ?_
      refine zx_vret dX2_readFactor_82 rfl (Nat.le_refl _) (Nat.le_refl _) ⟨rfl, ?_⟩
      exact ⟨g2, rfl, e2, hX2⟩
  · refine zx_aload_n (q := 10) dX2_readFactor_9 rfl rfl rfl ?_
    refine zx_bipush (q := 12) (v := 33) dX2_readFactor_10 (by decide) rfl ?_
    refine zx_callV1i (q := 15) (y' := mX2_takes) dX2_readFactor_12 ml_RX2_38 ok_mX2_takes rfl (by decide) rfl (Nat.le_of_ble_eq_true rfl) (Nat.le_of_ble_eq_true rfl) (Nat.le_refl _) (Nat.le_refl _) rfl (t_takes _ 33 K (by omega)) ?_
    rintro _ _ ⟨rfl, rfl⟩
    rw [if_neg (show ¬ (!true && z_at tx len p 33) = true from by simp)]
    refine zx_if_eq_t (t := 27) (q := 18) dX2_readFactor_15 (by decide) rfl (rfl) ?_
    refine zx_iload_n (q := 28) dX2_readFactor_27 rfl rfl rfl ?_
    refine zx_iconst (q := 29) (v := 4) dX2_readFactor_28 (by decide) rfl ?_
    refine zx_icmp_ge (q := 32) (t := 57) dX2_readFactor_29 (by decide) rfl (fun c_29 => ?_) (fun c_29 => ?_)
    · refine zx_aload_n (q := 58) dX2_readFactor_57 rfl rfl rfl ?_
      refine zx_callV0v (q := 61) (y' := mX2_readTest) dX2_readFactor_58 ml_RX2_77 ok_mX2_readTest rfl (by decide) rfl (Nat.le_of_ble_eq_true rfl) (Nat.le_of_ble_eq_true rfl) (Nat.le_refl _) (Nat.le_refl _) rfl (t_rtX1 _ K hq hc h100 (Or.inl rfl)) ?_
      rintro _ ⟨g2, rfl, hX2, e2⟩
      refine zx_iload_n (q := 62) dX2_readFactor_61 rfl rfl rfl ?_
      refine zx_istore3 (q := 63) dX2_readFactor_62 rfl rfl ?_
      refine zx_iload_n (q := 64) dX2_readFactor_63 rfl rfl rfl ?_
      refine zx_iload_n (q := 65) dX2_readFactor_64 rfl rfl rfl ?_
      refine zx_icmp_ge_t (t := 82) (q := 68) dX2_readFactor_65 (by decide) rfl (by rw [Int32.le_iff_toInt_le]; exact Int.le_refl _) ?_
      refine zx_vret dX2_readFactor_82 rfl (Nat.le_refl _) (Nat.le_refl _) ⟨rfl, ?_⟩
      exact ⟨g2, rfl, e2, hX2⟩
    · refine zx_aload_n (q := 33) dX2_readFactor_32 rfl rfl rfl ?_
      refine zx_bipush (q := 35) (v := 40) dX2_readFactor_33 (by decide) rfl ?_
      refine zx_callV1i (q := 38) (y' := mX2_takes) dX2_readFactor_35 ml_RX2_38 ok_mX2_takes rfl (by decide) rfl (Nat.le_of_ble_eq_true rfl) (Nat.le_of_ble_eq_true rfl) (Nat.le_refl _) (Nat.le_refl _) rfl (t_takes _ 40 K (by omega)) ?_
      rintro _ _ ⟨rfl, rfl⟩
      rw [if_neg (show ¬ (!true && z_at tx len p 40) = true from by simp)]
      refine zx_if_eq_t (t := 57) (q := 41) dX2_readFactor_38 (by decide) rfl (rfl) ?_
      refine zx_aload_n (q := 58) dX2_readFactor_57 rfl rfl rfl ?_
      refine zx_callV0v (q := 61) (y' := mX2_readTest) dX2_readFactor_58 ml_RX2_77 ok_mX2_readTest rfl (by decide) rfl (Nat.le_of_ble_eq_true rfl) (Nat.le_of_ble_eq_true rfl) (Nat.le_refl _) (Nat.le_refl _) rfl (t_rtX1 _ K hq hc h100 (Or.inl rfl)) ?_
      rintro _ ⟨g2, rfl, hX2, e2⟩
      refine zx_iload_n (q := 62) dX2_readFactor_61 rfl rfl rfl ?_
      refine zx_istore3 (q := 63) dX2_readFactor_62 rfl rfl ?_
      refine zx_iload_n (q := 64) dX2_readFactor_63 rfl rfl rfl ?_
      refine zx_iload_n (q := 65) dX2_readFactor_64 rfl rfl rfl ?_
      refine zx_icmp_ge_t (t := 82) (q := 68) dX2_readFactor_65 (by decide) rfl (by rw [Int32.le_iff_toInt_le]; exact Int.le_refl _) ?_
      refine zx_vret dX2_readFactor_82 rfl (Nat.le_refl _) (Nat.le_refl _) ⟨rfl, ?_⟩
      exact ⟨g2, rfl, e2, hX2⟩
theorem zCd_sf {g g2 g3 : Nat → Nat → Int32} {q cl : Nat} {c : List Int32} (h : zCd g g2 q cl c) (e : ∀ k j, (k = 66 + 5 * q ∧ j = 1) ∨ k = 70 + 5 * q → g3 k j = g2 k j) : zCd g g3 q cl c :=
  ⟨by rw [e _ _ (by omega)]; exact h.1, fun i hi => by rw [e _ _ (by omega)]; exact h.2.1 i hi, fun j hj => by rw [e _ _ (by omega)]; exact h.2.2 j hj⟩
theorem zPo_pl {tx : Nat → Nat} {len m d p q cl : Nat} {g g' g2 : Nat → Nat → Int32} (h : zPo tx len m d p q cl g' g2) (e : ∀ j, g' (70 + 5 * q) j = g (70 + 5 * q) j) : zPo tx len m d p q cl g g2 := by
  rcases h with ⟨q1, c, h1, h2, h3⟩ | h
  · exact Or.inl ⟨q1, c, h1, h2, zCd_pl h3 e⟩
  · exact Or.inr h
theorem lp_rf27 {tx : Nat → Nat} {len q dl d0 d p cl : Nat} {g : Nat → Nat → Int32} (hq : q < 6) (w3 : Int32) (K : zTK g tx len p false) (hc : g (66 + 5 * q) 1 = nI cl) (hcl : cl ≤ p) (hn33 : ¬ (d < 4 ∧ z_at tx len p 33 = true)) (hd4 : d ≤ 4) (hE : d < 4 → zHE l D tc A gl tx len q (3 - d) (d + 1)) (hdl : d < 4 → 2 * (3 - d) + 3 ≤ dl) {Q : Option Value → zw_S → Prop}
    (kk : ∀ g3 : Nat → Nat → Int32, zFrC g g3 q → zPo tx len 0 d p q cl g g3 → zW l D tc A mX2_readFactor (dl + 7) 0 0 0 0 61 [some (.ref 39), some (.int (nI d0)), some (.int (nI d)), some (.int w3)] [] (zs g3 gl (some (66 + 5 * q))) Q) : zW l D tc A mX2_readFactor (dl + 7) 0 0 0 0 27 [some (.ref 39), some (.int (nI d0)), some (.int (nI d)), some (.int w3)] [] (zs g gl (some (66 + 5 * q))) Q := by
  have hKl := zTK_len K
  by_cases hd : d < 4
  · by_cases hat : z_at tx len p 40 = true
    · have q0 := z_at_p hat
      refine zx_iload_n (q := 28) dX2_readFactor_27 rfl rfl rfl ?_
      refine zx_iconst (q := 29) (v := 4) dX2_readFactor_28 (by decide) rfl ?_
      refine zx_icmp_ge_f (t := 57) (q := 32) dX2_readFactor_29 (by decide) rfl (nI_ge (a := d) (b := 4) hd (by decide)) ?_
      refine zx_aload_n (q := 33) dX2_readFactor_32 rfl rfl rfl ?_
      refine zx_bipush (q := 35) (v := 40) dX2_readFactor_33 (by decide) rfl ?_
      refine zx_callV1i (q := 38) (y' := mX2_takes) dX2_readFactor_35 ml_RX2_38 ok_mX2_takes rfl (by decide) rfl (Nat.le_of_ble_eq_true rfl) (Nat.le_of_ble_eq_true rfl) (Nat.le_refl _) (Nat.le_refl _) rfl (t_takes _ 40 K (by omega)) ?_
      rintro _ _ ⟨rfl, rfl⟩
      rw [if_pos (show (!false && z_at tx len p 40) = true from by simpa using hat)]
      refine zx_if_eq_f (t := 57) (q := 41) dX2_readFactor_38 (by decide) rfl (zk_t (by simpa using hat)) ?_
      refine zx_aload_n (q := 42) dX2_readFactor_41 rfl rfl rfl ?_
      refine zx_iload_n (q := 43) dX2_readFactor_42 rfl rfl rfl ?_
      refine zx_iconst (q := 44) (v := 1) dX2_readFactor_43 (by decide) rfl ?_
      refine zx_iadd (q := 45) dX2_readFactor_44 rfl ?_
      rw [show nI d + 1 = nI (d + 1) from nI_1 d]
      refine zx_callV1v (q := 48) (y' := mX2_readEither) dX2_readFactor_45 ml_RX2_61 ok_mX2_readEither rfl (by decide) rfl (Nat.le_of_ble_eq_true rfl) (Nat.le_of_ble_eq_true rfl) (Nat.le_refl _) (Nat.le_refl _) rfl (hE hd _ (p + 1) cl _ (by have := hdl hd; omega) (zTK_adv K (z_at_p hat)) (by rw [z_u_ne _ _ (by omega)]; exact hc) (by omega)) ?_
      rintro _ ⟨g3, rfl, e3, hpo⟩
      rcases hpo with ⟨q1, c, hder, K3, hcd⟩ | ⟨q1, hder, K3, cl3, h103, hc3⟩
      · have hln := zD_len hder (by omega)
        have hl2 := hln.2.2 c rfl
        refine zx_aload_n (q := 49) dX2_readFactor_48 rfl rfl rfl ?_
        refine zx_ldcS (i := 5) (q := 51) dX2_readFactor_49 (by decide) rfl rfl ?_
        refine zx_callV1v (q := 54) (y' := mX2_need) dX2_readFactor_51 ml_RX2_51 ok_mX2_need rfl (by decide) rfl (Nat.le_of_ble_eq_true rfl) (Nat.le_of_ble_eq_true rfl) (Nat.le_refl _) (Nat.le_refl _) rfl (t_need _ 5 (by omega) K3) ?_
        rintro _ ⟨g4, rfl, K4, e4⟩
        rw [z_nd5] at K4
        refine zx_goto (t := 61) dX2_readFactor_54 (by decide) ?_
        by_cases h41 : z_at tx len q1 41 = true
        · rw [if_pos (show (!false && z_at tx len q1 41) = true from by simpa using h41)] at K4
          refine kk g4 (zFrC_tr zFrC_p (zFrC_tr e3 (fun k j a _ _ => e4 k j a))) (Or.inl ⟨q1 + 1, c, zD_5 hd hat hder h41, K4, ?_⟩)
          exact zCd_pl (zCd_sf hcd (fun k j z => e4 k j (by omega))) (fun j => z_u_ne _ _ (by omega))
        · rw [if_neg (show ¬ (!false && z_at tx len q1 41) = true from by simpa using h41)] at K4
          exact kk g4 (zFrC_tr zFrC_p (zFrC_tr e3 (fun k j a _ _ => e4 k j a))) (Or.inr ⟨q1, zD_4 hd hat hder h41, K4, cl + c.length, by omega, by rw [e4 _ _ (by omega)]; exact hcd.1⟩)
      · refine zx_aload_n (q := 49) dX2_readFactor_48 rfl rfl rfl ?_
        refine zx_ldcS (i := 5) (q := 51) dX2_readFactor_49 (by decide) rfl rfl ?_
        refine zx_callV1v (q := 54) (y' := mX2_need) dX2_readFactor_51 ml_RX2_51 ok_mX2_need rfl (by decide) rfl (Nat.le_of_ble_eq_true rfl) (Nat.le_of_ble_eq_true rfl) (Nat.le_refl _) (Nat.le_refl _) rfl (t_need _ 5 (by omega) K3) ?_
        rintro _ ⟨g4, rfl, K4, e4⟩
        rw [z_nd5] at K4
        refine zx_goto (t := 61) dX2_readFactor_54 (by decide) ?_
        rw [if_neg (show ¬ (!true && z_at tx len q1 41) = true from by simp)] at K4
        exact kk g4 (zFrC_tr zFrC_p (zFrC_tr e3 (fun k j a _ _ => e4 k j a))) (Or.inr ⟨q1, zD_3 hd hat hder, K4, cl3, h103, by rw [e4 _ _ (by omega)]; exact hc3⟩)
    · have hnd : ¬ (d < 4 ∧ (z_at tx len p 33 = true ∨ z_at tx len p 40 = true)) := fun z => z.2.elim (fun y => hn33 ⟨hd, y⟩) hat
      refine zx_iload_n (q := 28) dX2_readFactor_27 rfl rfl rfl ?_
      refine zx_iconst (q := 29) (v := 4) dX2_readFactor_28 (by decide) rfl ?_
      refine zx_icmp_ge_f (t := 57) (q := 32) dX2_readFactor_29 (by decide) rfl (nI_ge (a := d) (b := 4) hd (by decide)) ?_
      refine zx_aload_n (q := 33) dX2_readFactor_32 rfl rfl rfl ?_
      refine zx_bipush (q := 35) (v := 40) dX2_readFactor_33 (by decide) rfl ?_
      refine zx_callV1i (q := 38) (y' := mX2_takes) dX2_readFactor_35 ml_RX2_38 ok_mX2_takes rfl (by decide) rfl (Nat.le_of_ble_eq_true rfl) (Nat.le_of_ble_eq_true rfl) (Nat.le_refl _) (Nat.le_refl _) rfl (t_takes _ 40 K (by omega)) ?_
      rintro _ _ ⟨rfl, rfl⟩
      rw [if_neg (show ¬ (!false && z_at tx len p 40) = true from by simpa using hat)]
      refine zx_if_eq_t (t := 57) (q := 41) dX2_readFactor_38 (by decide) rfl (zk_f (by simpa using hat)) ?_
      cases hts : z_ts tx len p with
      | mk q1 o =>
        cases o with
        | none =>
          refine zx_aload_n (q := 58) dX2_readFactor_57 rfl rfl rfl ?_
          refine zx_callV0v (q := 61) (y' := mX2_readTest) dX2_readFactor_58 ml_RX2_77 ok_mX2_readTest rfl (by decide) rfl (Nat.le_of_ble_eq_true rfl) (Nat.le_of_ble_eq_true rfl) (Nat.le_refl _) (Nat.le_refl _) rfl (t_rtX _ K hq hc (by omega) hts) ?_
          rintro _ ⟨g2, rfl, hX2, e2⟩
          exact kk g2 e2 (Or.inr ⟨q1, zD_6 hnd hts, hX2⟩)
        | some t =>
          have hto := (z_ts_ok hKl.1 hts).2
          have hto2 := hto.2 t rfl
          refine zx_aload_n (q := 58) dX2_readFactor_57 rfl rfl rfl ?_
          refine zx_callV0v (q := 61) (y' := mX2_readTest) dX2_readFactor_58 ml_RX2_77 ok_mX2_readTest rfl (by decide) rfl (Nat.le_of_ble_eq_true rfl) (Nat.le_of_ble_eq_true rfl) (Nat.le_refl _) (Nat.le_refl _) rfl (t_rtS _ K hq hc (by omega) hts) ?_
          rintro _ ⟨g2, rfl, K2, hcd, e2⟩
          exact kk g2 e2 (Or.inl ⟨q1, [nI t], zD_7 hnd hts, K2, hcd⟩)
  · have hnd : ¬ (d < 4 ∧ (z_at tx len p 33 = true ∨ z_at tx len p 40 = true)) := fun z => hd z.1
    refine zx_iload_n (q := 28) dX2_readFactor_27 rfl rfl rfl ?_
    refine zx_iconst (q := 29) (v := 4) dX2_readFactor_28 (by decide) rfl ?_
    refine zx_icmp_ge_t (t := 57) (q := 32) dX2_readFactor_29 (by decide) rfl (nI_le (a := 4) (b := d) (by omega) (by omega)) ?_
    cases hts : z_ts tx len p with
    | mk q1 o =>
      cases o with
      | none =>
        refine zx_aload_n (q := 58) dX2_readFactor_57 rfl rfl rfl ?_
        refine zx_callV0v (q := 61) (y' := mX2_readTest) dX2_readFactor_58 ml_RX2_77 ok_mX2_readTest rfl (by decide) rfl (Nat.le_of_ble_eq_true rfl) (Nat.le_of_ble_eq_true rfl) (Nat.le_refl _) (Nat.le_refl _) rfl (t_rtX _ K hq hc (by omega) hts) ?_
        rintro _ ⟨g2, rfl, hX2, e2⟩
        exact kk g2 e2 (Or.inr ⟨q1, zD_6 hnd hts, hX2⟩)
      | some t =>
        have hto := (z_ts_ok hKl.1 hts).2
        have hto2 := hto.2 t rfl
        refine zx_aload_n (q := 58) dX2_readFactor_57 rfl rfl rfl ?_
        refine zx_callV0v (q := 61) (y' := mX2_readTest) dX2_readFactor_58 ml_RX2_77 ok_mX2_readTest rfl (by decide) rfl (Nat.le_of_ble_eq_true rfl) (Nat.le_of_ble_eq_true rfl) (Nat.le_refl _) (Nat.le_refl _) rfl (t_rtS _ K hq hc (by omega) hts) ?_
        rintro _ ⟨g2, rfl, K2, hcd, e2⟩
        exact kk g2 e2 (Or.inl ⟨q1, [nI t], zD_7 hnd hts, K2, hcd⟩)
theorem lp_rf4 {tx : Nat → Nat} {len q dl d0 : Nat} (hq : q < 6) (hE : ∀ d, d0 ≤ d → d < 4 → zHE l D tc A gl tx len q (3 - d) (d + 1)) (hdl : 2 * (4 - d0) + 1 ≤ dl) {Q : Option Value → zw_S → Prop} : ∀ (k d p cl : Nat) (g : Nat → Nat → Int32)
    (kk : ∀ (j : Nat) (g3 : Nat → Nat → Int32), d + j ≤ 4 → (∀ x, x < j → z_at tx len (p + x) 33 = true) → zFrC g g3 q → zPo tx len 0 (d + j) (p + j) q cl g g3 → zW l D tc A mX2_readFactor (dl + 7) 0 0 0 0 61 [some (.ref 39), some (.int (nI d0)), some (.int (nI (d + j))), some (.int (nI (d + j)))] [] (zs g3 gl (some (66 + 5 * q))) Q),
    d + k = 4 → d0 ≤ d → zTK g tx len p false → g (66 + 5 * q) 1 = nI cl → cl ≤ p → zW l D tc A mX2_readFactor (dl + 7) 0 0 0 0 4 [some (.ref 39), some (.int (nI d0)), some (.int (nI d)), some (.int (nI d))] [] (zs g gl (some (66 + 5 * q))) Q := by
  intro k
  induction k with
  | zero =>
    intro d p cl g kk hdk hd0 K hc hcl
    refine zx_iload_n (q := 5) dX2_readFactor_4 rfl rfl rfl ?_
    refine zx_iconst (q := 6) (v := 4) dX2_readFactor_5 (by decide) rfl ?_
    refine zx_icmp_ge_t (t := 27) (q := 9) dX2_readFactor_6 (by decide) rfl (nI_le (a := 4) (b := d) (by omega) (by omega)) ?_
    refine lp_rf27 hq (nI d) K hc hcl (fun z => by omega) (by omega) (fun z => by omega) (fun z => by omega) (fun g3 e3 hpo => ?_)
    exact kk 0 g3 (by omega) (fun x hx => by omega) e3 hpo
  | succ k ih =>
    intro d p cl g kk hdk hd0 K hc hcl
    by_cases hat : z_at tx len p 33 = true
    · have q0 := z_at_p hat
      refine zx_iload_n (q := 5) dX2_readFactor_4 rfl rfl rfl ?_
      refine zx_iconst (q := 6) (v := 4) dX2_readFactor_5 (by decide) rfl ?_
      refine zx_icmp_ge_f (t := 27) (q := 9) dX2_readFactor_6 (by decide) rfl (nI_ge (a := d) (b := 4) (by omega) (by decide)) ?_
      refine zx_aload_n (q := 10) dX2_readFactor_9 rfl rfl rfl ?_
      refine zx_bipush (q := 12) (v := 33) dX2_readFactor_10 (by decide) rfl ?_
      refine zx_callV1i (q := 15) (y' := mX2_takes) dX2_readFactor_12 ml_RX2_38 ok_mX2_takes rfl (by decide) rfl (Nat.le_of_ble_eq_true rfl) (Nat.le_of_ble_eq_true rfl) (Nat.le_refl _) (Nat.le_refl _) rfl (t_takes _ 33 K (by omega)) ?_
      rintro _ _ ⟨rfl, rfl⟩
      rw [if_pos (show (!false && z_at tx len p 33) = true from by simpa using hat)]
      refine zx_if_eq_f (t := 27) (q := 18) dX2_readFactor_15 (by decide) rfl (zk_t (by simpa using hat)) ?_
      refine zx_iinc2 (q := 21) dX2_readFactor_18 rfl rfl ?_
      refine zx_iinc3 (q := 24) dX2_readFactor_21 rfl rfl ?_
      refine zx_goto (t := 4) dX2_readFactor_24 (by decide) ?_
      rw [z_inc]
      refine ih (d + 1) (p + 1) cl _ (fun j g3 h1 h2 h3 h4 => ?_) (by omega) (by omega) (zTK_adv K (z_at_p hat)) (by rw [z_u_ne _ _ (by omega)]; exact hc) (by omega)
      rw [show d + 1 + j = d + (j + 1) by omega, show p + 1 + j = p + (j + 1) by omega] at h4
      rw [show d + 1 + j = d + (j + 1) by omega]
      refine kk (j + 1) g3 (by omega) (fun x hx => ?_) (zFrC_tr zFrC_p h3) (zPo_pl h4 (fun j => z_u_ne _ _ (by omega)))
      rcases Nat.eq_zero_or_pos x with hx0 | hx0
      · subst hx0
        exact hat
      · have h5 := h2 (x - 1) (by omega)
        rw [show p + 1 + (x - 1) = p + x by omega] at h5
        exact h5
    · refine zx_iload_n (q := 5) dX2_readFactor_4 rfl rfl rfl ?_
      refine zx_iconst (q := 6) (v := 4) dX2_readFactor_5 (by decide) rfl ?_
      refine zx_icmp_ge_f (t := 27) (q := 9) dX2_readFactor_6 (by decide) rfl (nI_ge (a := d) (b := 4) (by omega) (by decide)) ?_
      refine zx_aload_n (q := 10) dX2_readFactor_9 rfl rfl rfl ?_
      refine zx_bipush (q := 12) (v := 33) dX2_readFactor_10 (by decide) rfl ?_
      refine zx_callV1i (q := 15) (y' := mX2_takes) dX2_readFactor_12 ml_RX2_38 ok_mX2_takes rfl (by decide) rfl (Nat.le_of_ble_eq_true rfl) (Nat.le_of_ble_eq_true rfl) (Nat.le_refl _) (Nat.le_refl _) rfl (t_takes _ 33 K (by omega)) ?_
      rintro _ _ ⟨rfl, rfl⟩
      rw [if_neg (show ¬ (!false && z_at tx len p 33) = true from by simpa using hat)]
      refine zx_if_eq_t (t := 27) (q := 18) dX2_readFactor_15 (by decide) rfl (zk_f (by simpa using hat)) ?_
      refine lp_rf27 hq (nI d) K hc hcl (fun z => hat z.2) (by omega) (fun z => hE d hd0 z) (fun z => by omega) (fun g3 e3 hpo => ?_)
      exact kk 0 g3 (by omega) (fun x hx => by omega) e3 hpo
theorem lp_rfN {tx : Nat → Nat} {len q dl d0 p0 I cl : Nat} {g0 : Nat → Nat → Int32} (hq : q < 6) (hI : I ≤ 4) (hcl : cl ≤ p0) : ∀ (m i q1 : Nat) (c : List Int32) (g : Nat → Nat → Int32), i + m = I → d0 + m ≤ 4 → (∀ x, x < m → z_at tx len (p0 + x) 33 = true) → p0 + m ≤ len → zDer tx len 0 (d0 + m) (p0 + m) q1 (some c) → zTK g tx len q1 false → zCd g0 g q cl c → zFrC g0 g q → zW l D tc A mX2_readFactor (dl + 7) 0 0 0 0 63 [some (.ref 39), some (.int (nI d0)), some (.int (nI I)), some (.int (nI i))] [] (zs g gl (some (66 + 5 * q))) (zQv fun S' => ∃ g2, S' = zs g2 gl (some (66 + 5 * q)) ∧ zFrC g0 g2 q ∧ zPo tx len 0 d0 p0 q cl g0 g2) := by
  intro m
  induction m with
  | zero =>
    intro i q1 c g hi hm hb hp hder K hcd hfr
    refine zx_iload_n (q := 64) dX2_readFactor_63 rfl rfl rfl ?_
    refine zx_iload_n (q := 65) dX2_readFactor_64 rfl rfl rfl ?_
    refine zx_icmp_ge_t (t := 82) (q := 68) dX2_readFactor_65 (by decide) rfl (nI_le (a := I) (b := i) (by omega) (by omega)) ?_
    refine zx_vret dX2_readFactor_82 rfl (Nat.le_refl _) (Nat.le_refl _) ⟨rfl, ?_⟩
    exact ⟨g, rfl, hfr, Or.inl ⟨q1, c, hder, K, hcd⟩⟩
  | succ m ih =>
    intro i q1 c g hi hm hb hp hder K hcd hfr
    have hKl := zTK_len K
    have hln := zD_len hder hp
    have hl2 := hln.2.2 c rfl
    refine zx_iload_n (q := 64) dX2_readFactor_63 rfl rfl rfl ?_
    refine zx_iload_n (q := 65) dX2_readFactor_64 rfl rfl rfl ?_
    refine zx_icmp_ge_f (t := 82) (q := 68) dX2_readFactor_65 (by decide) rfl (nI_ge (a := i) (b := I) (by omega) (by omega)) ?_
    refine zx_aload_n (q := 69) dX2_readFactor_68 rfl rfl rfl ?_
    refine zy_getR (q := 72) dX2_readFactor_69 fl_RX2_19 rfl rfl rfl rfl ?_
    refine zx_iconst (q := 73) (v := (-1)) dX2_readFactor_72 (by decide) rfl ?_
    refine zx_callV1v (q := 76) (y' := mX1_addCode) dX2_readFactor_73 ml_RX2_72 ok_mX1_addCode (zr_F (f := none) hq).1 (by decide) rfl (Nat.le_of_ble_eq_true rfl) (Nat.le_of_ble_eq_true rfl) (Nat.le_refl _) (Nat.le_refl _) rfl (t_code _ (cl + c.length) hq (-1) hcd.1 (by omega)) ?_
    rintro _ rfl
    refine zx_iinc3 (q := 79) dX2_readFactor_76 rfl rfl ?_
    refine zx_goto (t := 63) dX2_readFactor_79 (by decide) ?_
    rw [z_inc]
    exact ih (i + 1) q1 (c ++ [-1]) _ (by omega) (by omega) (fun x hx => hb x (by omega)) (by omega) (zD_2 (by omega) (hb m (by omega)) hder) (zTK_o K) (zCd_app hcd zCd_one) (zFrC_tr hfr zFrC_o)
theorem lp_rfM {tx : Nat → Nat} {len q dl d0 p0 I cl : Nat} {g0 : Nat → Nat → Int32} (hq : q < 6) (hI : I ≤ 4) : ∀ (m i q1 : Nat) (g : Nat → Nat → Int32), i + m = I → d0 + m ≤ 4 → (∀ x, x < m → z_at tx len (p0 + x) 33 = true) → zDer tx len 0 (d0 + m) (p0 + m) q1 none → zXf g tx len q1 q → zFrC g0 g q → zW l D tc A mX2_readFactor (dl + 7) 0 0 0 0 63 [some (.ref 39), some (.int (nI d0)), some (.int (nI I)), some (.int (nI i))] [] (zs g gl (some (66 + 5 * q))) (zQv fun S' => ∃ g2, S' = zs g2 gl (some (66 + 5 * q)) ∧ zFrC g0 g2 q ∧ zPo tx len 0 d0 p0 q cl g0 g2) := by
  intro m
  induction m with
  | zero =>
    intro i q1 g hi hm hb hder hX hfr
    refine zx_iload_n (q := 64) dX2_readFactor_63 rfl rfl rfl ?_
    refine zx_iload_n (q := 65) dX2_readFactor_64 rfl rfl rfl ?_
    refine zx_icmp_ge_t (t := 82) (q := 68) dX2_readFactor_65 (by decide) rfl (nI_le (a := I) (b := i) (by omega) (by omega)) ?_
    refine zx_vret dX2_readFactor_82 rfl (Nat.le_refl _) (Nat.le_refl _) ⟨rfl, ?_⟩
    exact ⟨g, rfl, hfr, Or.inr ⟨q1, hder, hX⟩⟩
  | succ m ih =>
    intro i q1 g hi hm hb hder hX hfr
    obtain ⟨K3, cl3, h103, hc3⟩ := id hX
    refine zx_iload_n (q := 64) dX2_readFactor_63 rfl rfl rfl ?_
    refine zx_iload_n (q := 65) dX2_readFactor_64 rfl rfl rfl ?_
    refine zx_icmp_ge_f (t := 82) (q := 68) dX2_readFactor_65 (by decide) rfl (nI_ge (a := i) (b := I) (by omega) (by omega)) ?_
    refine zx_aload_n (q := 69) dX2_readFactor_68 rfl rfl rfl ?_
    refine zy_getR (q := 72) dX2_readFactor_69 fl_RX2_19 rfl rfl rfl rfl ?_
    refine zx_iconst (q := 73) (v := (-1)) dX2_readFactor_72 (by decide) rfl ?_
    refine zx_callV1v (q := 76) (y' := mX1_addCode) dX2_readFactor_73 ml_RX2_72 ok_mX1_addCode (zr_F (f := none) hq).1 (by decide) rfl (Nat.le_of_ble_eq_true rfl) (Nat.le_of_ble_eq_true rfl) (Nat.le_refl _) (Nat.le_refl _) rfl (t_codeA _ cl3 hq (-1) hc3 h103) ?_
    rintro _ ⟨g4, rfl, hc4, e4⟩
    refine zx_iinc3 (q := 79) dX2_readFactor_76 rfl rfl ?_
    refine zx_goto (t := 63) dX2_readFactor_79 (by decide) ?_
    rw [z_inc]
    exact ih (i + 1) q1 g4 (by omega) (by omega) (fun x hx => hb x (by omega)) (zD_1 (by omega) (hb m (by omega)) hder) ⟨zTK_fr K3 (fun k j z => e4 k j (by omega) (by omega)), hc4⟩ (zFrC_tr hfr (fun k j _ b c => e4 k j b c))
theorem t_rf {tx : Nat → Nat} {len q n d : Nat} (hq : q < 6) (hdn : d + n = 4) (hE : ∀ d', d ≤ d' → d' < 4 → zHE l D tc A gl tx len q (3 - d') (d' + 1)) : zHF l D tc A gl tx len q n d := by
  intro dl p cl g hdl K hc hcl
  have hKl := zTK_len K
  obtain ⟨dl, rfl⟩ : ∃ k, dl = k + 7 := ⟨dl - 7, by omega⟩
  show zW l D tc A mX2_readFactor (dl + 7) 0 0 0 0 0 [some (.ref 39), some (.int (nI d)), none, none] [] (zs g gl (some (66 + 5 * q))) _
  refine zx_iload_n (q := 1) dX2_readFactor_0 rfl rfl rfl ?_
  refine zx_istore2 (q := 2) dX2_readFactor_1 rfl rfl ?_
  refine zx_iload_n (q := 3) dX2_readFactor_2 rfl rfl rfl ?_
  refine zx_istore3 (q := 4) dX2_readFactor_3 rfl rfl ?_
  refine lp_rf4 hq hE (by omega) n d p cl g (fun j g3 h1 h2 h3 h4 => ?_) hdn (Nat.le_refl _) K hc hcl
  have hpl : p + j ≤ len := by
    rcases Nat.eq_zero_or_pos j with hj | hj
    · omega
    · have := z_at_p (h2 (j - 1) (by omega))
      omega
  refine zx_iload_n (q := 62) dX2_readFactor_61 rfl rfl rfl ?_
  refine zx_istore3 (q := 63) dX2_readFactor_62 rfl rfl ?_
  rcases h4 with ⟨q1, c, hder, K3, hcd⟩ | ⟨q1, hder, hX⟩
  · exact lp_rfN hq h1 hcl j d q1 c g3 rfl h1 h2 hpl hder K3 hcd h3
  · exact lp_rfM hq h1 j d q1 g3 rfl h1 h2 hder hX h3
theorem lp_eX {d q : Nat} (hq : q < 6) {tx : Nat → Nat} {len p : Nat} {g : Nat → Nat → Int32} (hX : zXf g tx len p q) (w : Int32) (i : Nat) (hi : 0 < i) (hi2 : i < 1000) (w3 : Int32) : zW l D tc A mX2_readEither (d + 7) 0 0 0 0 2 [some (.ref 39), some (.int w), some (.int (nI i)), some (.int w3)] [] (zs g gl (some (66 + 5 * q))) (zQv fun S' => ∃ g2, S' = zs g2 gl (some (66 + 5 * q)) ∧ zFrC g g2 q ∧ zXf g2 tx len p q) := by
  obtain ⟨K, cl, h100, hc⟩ := id hX
  refine zx_iload_n (q := 3) dX2_readEither_2 rfl rfl rfl ?_
  refine zx_if_eq_f (t := 21) (q := 6) dX2_readEither_3 (by decide) rfl (nI_ne0 hi (by omega)) ?_
  refine zx_iload_n (q := 7) dX2_readEither_6 rfl rfl rfl ?_
  refine zx_bipush (q := 9) (v := 100) dX2_readEither_7 (by decide) rfl ?_
  refine zx_icmp_ge (q := 12) (t := 82) dX2_readEither_9 (by decide) rfl (fun c_9 => ?_) (fun c_9 => ?_)
  · refine zx_vret dX2_readEither_82 rfl (Nat.le_refl _) (Nat.le_refl _) ⟨rfl, ?_⟩
    exact ⟨g, rfl, fun _ _ _ _ _ => rfl, hX⟩
  · refine zx_aload_n (q := 13) dX2_readEither_12 rfl rfl rfl ?_
    refine zx_bipush (q := 15) (v := 124) dX2_readEither_13 (by decide) rfl ?_
    refine zx_callV1i (q := 18) (y' := mX2_takes) dX2_readEither_15 ml_RX2_38 ok_mX2_takes rfl (by decide) rfl (Nat.le_of_ble_eq_true rfl) (Nat.le_of_ble_eq_true rfl) (Nat.le_refl _) (Nat.le_refl _) rfl (t_takes _ 124 K (by omega)) ?_
    rintro _ _ ⟨rfl, rfl⟩
    rw [if_neg (show ¬ (!true && z_at tx len p 124) = true from by simp)]
    refine zx_if_eq_t (t := 82) (q := 21) dX2_readEither_18 (by decide) rfl (rfl) ?_
    refine zx_vret dX2_readEither_82 rfl (Nat.le_refl _) (Nat.le_refl _) ⟨rfl, ?_⟩
    exact ⟨g, rfl, fun _ _ _ _ _ => rfl, hX⟩
theorem lp_eX63 {d q : Nat} (hq : q < 6) {tx : Nat → Nat} {len p : Nat} {g : Nat → Nat → Int32} (hX : zXf g tx len p q) (w : Int32) (i : Nat) (hi2 : i < 900) (w3 : Int32) : zW l D tc A mX2_readEither (d + 7) 0 0 0 0 63 [some (.ref 39), some (.int w), some (.int (nI i)), some (.int w3)] [] (zs g gl (some (66 + 5 * q))) (zQv fun S' => ∃ g2, S' = zs g2 gl (some (66 + 5 * q)) ∧ zFrC g g2 q ∧ zXf g2 tx len p q) := by
  obtain ⟨K, cl, h100, hc⟩ := id hX
  refine zx_iload_n (q := 64) dX2_readEither_63 rfl rfl rfl ?_
  refine zx_if_le (q := 67) (t := 76) dX2_readEither_64 (by decide) rfl (fun c_64 => ?_) (fun c_64 => ?_)
  · refine zx_iinc2 (q := 79) dX2_readEither_76 rfl rfl ?_
    refine zx_goto (t := 2) dX2_readEither_79 (by decide) ?_
    rw [z_inc]
    first
      | (refine zW.mono (lp_eX hq (g := g4) ⟨zTK_fr K (fun k j z => e4 k j (by omega) (by omega)), hc4⟩ w (i + 1) (by omega) (by omega) w3) ?_
         rintro o S' ⟨h0, g5, h1, h2, h3⟩
         exact ⟨h0, g5, h1, zFrC_tr (fun k j _ b c => e4 k j b c) h2, h3⟩)
      | exact lp_eX hq hX w (i + 1) (by omega) (by omega) w3
  · refine zx_aload_n (q := 68) dX2_readEither_67 rfl rfl rfl ?_
    refine zy_getR (q := 71) dX2_readEither_68 fl_RX2_19 rfl rfl rfl rfl ?_
    refine zx_bipush (q := 73) (v := (-3)) dX2_readEither_71 (by decide) rfl ?_
    refine zx_callV1v (q := 76) (y' := mX1_addCode) dX2_readEither_73 ml_RX2_72 ok_mX1_addCode (zr_F (f := none) hq).1 (by decide) rfl (Nat.le_of_ble_eq_true rfl) (Nat.le_of_ble_eq_true rfl) (Nat.le_refl _) (Nat.le_refl _) rfl (t_codeA _ cl hq (-3) hc h100) ?_
    rintro _ ⟨g4, rfl, hc4, e4⟩
    refine zx_iinc2 (q := 79) dX2_readEither_76 rfl rfl ?_
    refine zx_goto (t := 2) dX2_readEither_79 (by decide) ?_
    rw [z_inc]
    first
      | (refine zW.mono (lp_eX hq (g := g4) ⟨zTK_fr K (fun k j z => e4 k j (by omega) (by omega)), hc4⟩ w (i + 1) (by omega) (by omega) w3) ?_
         rintro o S' ⟨h0, g5, h1, h2, h3⟩
         exact ⟨h0, g5, h1, zFrC_tr (fun k j _ b c => e4 k j b c) h2, h3⟩)
      | exact lp_eX hq hX w (i + 1) (by omega) (by omega) w3
theorem lp_eX28 {d q : Nat} (hq : q < 6) {tx : Nat → Nat} {len p : Nat} {g : Nat → Nat → Int32} (hX : zXf g tx len p q) (w : Int32) (i : Nat) (hi2 : i < 900) (j : Int32) : zW l D tc A mX2_readEither (d + 7) 0 0 0 0 28 [some (.ref 39), some (.int w), some (.int (nI i)), some (.int j)] [] (zs g gl (some (66 + 5 * q))) (zQv fun S' => ∃ g2, S' = zs g2 gl (some (66 + 5 * q)) ∧ zFrC g g2 q ∧ zXf g2 tx len p q) := by
  obtain ⟨K, cl, h100, hc⟩ := id hX
  refine zx_iload_n (q := 29) dX2_readEither_28 rfl rfl rfl ?_
  refine zx_bipush (q := 31) (v := 100) dX2_readEither_29 (by decide) rfl ?_
  refine zx_icmp_ge (q := 34) (t := 63) dX2_readEither_31 (by decide) rfl (fun c_31 => ?_) (fun c_31 => ?_)
  · exact lp_eX63 hq hX w i hi2 _
  · refine zx_aload_n (q := 35) dX2_readEither_34 rfl rfl rfl ?_
    refine zx_bipush (q := 37) (v := 38) dX2_readEither_35 (by decide) rfl ?_
    refine zx_callV1i (q := 40) (y' := mX2_takes) dX2_readEither_37 ml_RX2_38 ok_mX2_takes rfl (by decide) rfl (Nat.le_of_ble_eq_true rfl) (Nat.le_of_ble_eq_true rfl) (Nat.le_refl _) (Nat.le_refl _) rfl (t_takes _ 38 K (by omega)) ?_
    rintro _ _ ⟨rfl, rfl⟩
    rw [if_neg (show ¬ (!true && z_at tx len p 38) = true from by simp)]
    refine zx_if_eq_t (t := 63) (q := 43) dX2_readEither_40 (by decide) rfl (rfl) ?_
    exact lp_eX63 hq hX w i hi2 _
theorem lp_eA {dl d q n : Nat} (hq : q < 6) {tx : Nat → Nat} {len : Nat} (hF : zHF l D tc A gl tx len q n d) (hdl : 2 * n + 2 ≤ dl) (i : Nat) (hi2 : i < 900) {Q : Option Value → zw_S → Prop} : ∀ (mm p cl j : Nat) (g : Nat → Nat → Int32) (kS : ∀ (q' : Nat) (c : List Int32) (g2 : Nat → Nat → Int32) (w3 : Int32), zDer tx len 2 d p q' (some c) → zTK g2 tx len q' false → zCd g g2 q cl c → zFrC g g2 q → zW l D tc A mX2_readEither (dl + 7) 0 0 0 0 63 [some (.ref 39), some (.int (nI d)), some (.int (nI i)), some (.int w3)] [] (zs g2 gl (some (66 + 5 * q))) Q) (kX : ∀ (q' : Nat) (o : Option Value) (S' : zw_S) (g2 : Nat → Nat → Int32), zDer tx len 2 d p q' none → o = none → S' = zs g2 gl (some (66 + 5 * q)) → zFrC g g2 q → zXf g2 tx len q' q → Q o S'), len - p = mm → cl ≤ p → j ≤ p → zTK g tx len p false → g (66 + 5 * q) 1 = nI cl → zW l D tc A mX2_readEither (dl + 7) 0 0 0 0 28 [some (.ref 39), some (.int (nI d)), some (.int (nI i)), some (.int (nI j))] [] (zs g gl (some (66 + 5 * q))) Q := by
  intro mm
  induction mm using Nat.strongRecOn with
  | _ mm ih =>
    intro p cl j g kS kX hmm hcl hj K hc
    have hKl := zTK_len K
    by_cases hat : z_at tx len p 38 = true
    · have q0 := z_at_p hat
      refine zx_iload_n (q := 29) dX2_readEither_28 rfl rfl rfl ?_
      refine zx_bipush (q := 31) (v := 100) dX2_readEither_29 (by decide) rfl ?_
      refine zx_icmp_ge_f (t := 63) (q := 34) dX2_readEither_31 (by decide) rfl (nI_ge (a := j) (b := 100) (by omega) (by decide)) ?_
      refine zx_aload_n (q := 35) dX2_readEither_34 rfl rfl rfl ?_
      refine zx_bipush (q := 37) (v := 38) dX2_readEither_35 (by decide) rfl ?_
      refine zx_callV1i (q := 40) (y' := mX2_takes) dX2_readEither_37 ml_RX2_38 ok_mX2_takes rfl (by decide) rfl (Nat.le_of_ble_eq_true rfl) (Nat.le_of_ble_eq_true rfl) (Nat.le_refl _) (Nat.le_refl _) rfl (t_takes _ 38 K (by omega)) ?_
      rintro _ _ ⟨rfl, rfl⟩
      rw [if_pos (show (!false && z_at tx len p 38) = true from by simpa using hat)]
      refine zx_if_eq_f (t := 63) (q := 43) dX2_readEither_40 (by decide) rfl (zk_t (by simpa using hat)) ?_
      refine zx_aload_n (q := 44) dX2_readEither_43 rfl rfl rfl ?_
      refine zx_iload_n (q := 45) dX2_readEither_44 rfl rfl rfl ?_
      refine zx_callV1v (q := 48) (y' := mX2_readFactor) dX2_readEither_45 ml_RX2_69 ok_mX2_readFactor rfl (by decide) rfl (Nat.le_of_ble_eq_true rfl) (Nat.le_of_ble_eq_true rfl) (Nat.le_refl _) (Nat.le_refl _) rfl (hF _ (p + 1) cl _ (by omega) (zTK_adv K (z_at_p hat)) (by rw [z_u_ne _ _ (by omega)]; exact hc) (by omega)) ?_
      rintro _ ⟨g3, rfl, e3, hpo⟩
      rcases hpo with ⟨q1, c, hder, K3, hcd⟩ | ⟨q1, hder, K3, cl3, h103, hc3⟩
      · have hln := zD_len hder (by omega)
        have hl2 := hln.2.2 c rfl
        refine zx_aload_n (q := 49) dX2_readEither_48 rfl rfl rfl ?_
        refine zy_getR (q := 52) dX2_readEither_49 fl_RX2_19 rfl rfl rfl rfl ?_
        refine zx_bipush (q := 54) (v := (-2)) dX2_readEither_52 (by decide) rfl ?_
        refine zx_callV1v (q := 57) (y' := mX1_addCode) dX2_readEither_54 ml_RX2_72 ok_mX1_addCode (zr_F (f := none) hq).1 (by decide) rfl (Nat.le_of_ble_eq_true rfl) (Nat.le_of_ble_eq_true rfl) (Nat.le_refl _) (Nat.le_refl _) rfl (t_code _ (cl + c.length) hq (-2) hcd.1 (by omega)) ?_
        rintro _ rfl
        refine zx_iinc3 (q := 60) dX2_readEither_57 rfl rfl ?_
        refine zx_goto (t := 28) dX2_readEither_60 (by decide) ?_
        rw [z_inc]
        refine ih (len - q1) (by omega) q1 (cl + c.length + 1) (j + 1) _ ?_ ?_ rfl (by omega) (by omega) (zTK_o K3) (z_u_at _ _ _ _)
        · intro q2 c2 g5 w3 t1 t2 t3 t4
          refine kS q2 (c ++ (-2 :: c2)) g5 w3 (zD_15 hat hder t1) t2 ?_ (zFrC_tr zFrC_p (zFrC_tr e3 (zFrC_tr zFrC_o t4)))
          have t5 := zCd_app (zCd_app hcd zCd_one) (c2 := c2) (by rw [List.length_append]; exact t3)
          rw [List.append_assoc] at t5
          exact zCd_pl t5 (fun j => z_u_ne _ _ (by omega))
        · intro q2 o S' g5 t1 t2 t3 t4 t5
          exact kX q2 o S' g5 (zD_14 hat hder t1) t2 t3 (zFrC_tr zFrC_p (zFrC_tr e3 (zFrC_tr zFrC_o t4))) t5
      · refine zx_aload_n (q := 49) dX2_readEither_48 rfl rfl rfl ?_
        refine zy_getR (q := 52) dX2_readEither_49 fl_RX2_19 rfl rfl rfl rfl ?_
        refine zx_bipush (q := 54) (v := (-2)) dX2_readEither_52 (by decide) rfl ?_
        refine zx_callV1v (q := 57) (y' := mX1_addCode) dX2_readEither_54 ml_RX2_72 ok_mX1_addCode (zr_F (f := none) hq).1 (by decide) rfl (Nat.le_of_ble_eq_true rfl) (Nat.le_of_ble_eq_true rfl) (Nat.le_refl _) (Nat.le_refl _) rfl (t_codeA _ cl3 hq (-2) hc3 h103) ?_
        rintro _ ⟨g4, rfl, hc4, e4⟩
        refine zx_iinc3 (q := 60) dX2_readEither_57 rfl rfl ?_
        refine zx_goto (t := 28) dX2_readEither_60 (by decide) ?_
        rw [z_inc]
        refine zW.mono (lp_eX28 hq (g := g4) ⟨zTK_fr K3 (fun k j z => e4 k j (by omega) (by omega)), hc4⟩ _ i hi2 _) ?_
        rintro o S' ⟨h0, g5, h1, h2, h3⟩
        exact kX _ o S' g5 (zD_13 hat hder) h0 h1 (zFrC_tr zFrC_p (zFrC_tr e3 (zFrC_tr (fun k j _ b c => e4 k j b c) h2))) h3
    · refine zx_iload_n (q := 29) dX2_readEither_28 rfl rfl rfl ?_
      refine zx_bipush (q := 31) (v := 100) dX2_readEither_29 (by decide) rfl ?_
      refine zx_icmp_ge (q := 34) (t := 63) dX2_readEither_31 (by decide) rfl (fun c_31 => ?_) (fun c_31 => ?_)
      · exact kS p [] g _ (zD_12 hat) K (zCd_nil hc (fun _ => rfl)) (fun _ _ _ _ _ => rfl)
      · refine zx_aload_n (q := 35) dX2_readEither_34 rfl rfl rfl ?_
        refine zx_bipush (q := 37) (v := 38) dX2_readEither_35 (by decide) rfl ?_
        refine zx_callV1i (q := 40) (y' := mX2_takes) dX2_readEither_37 ml_RX2_38 ok_mX2_takes rfl (by decide) rfl (Nat.le_of_ble_eq_true rfl) (Nat.le_of_ble_eq_true rfl) (Nat.le_refl _) (Nat.le_refl _) rfl (t_takes _ 38 K (by omega)) ?_
        rintro _ _ ⟨rfl, rfl⟩
        rw [if_neg (show ¬ (!false && z_at tx len p 38) = true from by simpa using hat)]
        refine zx_if_eq_t (t := 63) (q := 43) dX2_readEither_40 (by decide) rfl (zk_f (by simpa using hat)) ?_
        exact kS p [] g _ (zD_12 hat) K (zCd_nil hc (fun _ => rfl)) (fun _ _ _ _ _ => rfl)
theorem lp_eO {dl d q n : Nat} (hq : q < 6) {tx : Nat → Nat} {len : Nat} (hF : zHF l D tc A gl tx len q n d) (hdl : 2 * n + 2 ≤ dl) {Q : Option Value → zw_S → Prop} : ∀ (mm p cl i : Nat) (g : Nat → Nat → Int32) (w3 : Int32) (kS : ∀ (q' : Nat) (c : List Int32) (g2 : Nat → Nat → Int32), zDer tx len 3 d p q' (some c) → zTK g2 tx len q' false → zCd g g2 q cl c → zFrC g g2 q → Q none (zs g2 gl (some (66 + 5 * q)))) (kX : ∀ (q' : Nat) (o : Option Value) (S' : zw_S) (g2 : Nat → Nat → Int32), zDer tx len 3 d p q' none → o = none → S' = zs g2 gl (some (66 + 5 * q)) → zFrC g g2 q → zXf g2 tx len q' q → Q o S'), len - p = mm → cl ≤ p → i ≤ p → 0 < i → zTK g tx len p false → g (66 + 5 * q) 1 = nI cl → zW l D tc A mX2_readEither (dl + 7) 0 0 0 0 2 [some (.ref 39), some (.int (nI d)), some (.int (nI i)), some (.int w3)] [] (zs g gl (some (66 + 5 * q))) Q := by
  intro mm
  induction mm using Nat.strongRecOn with
  | _ mm ih =>
    intro p cl i g w3 kS kX hmm hcl hip hi K hc
    have hKl := zTK_len K
    have hi2 : i < 900 := by omega
    by_cases hat : z_at tx len p 124 = true
    · have q0 := z_at_p hat
      refine zx_iload_n (q := 3) dX2_readEither_2 rfl rfl rfl ?_
      refine zx_if_eq_f (t := 21) (q := 6) dX2_readEither_3 (by decide) rfl (nI_ne0 hi (by omega)) ?_
      refine zx_iload_n (q := 7) dX2_readEither_6 rfl rfl rfl ?_
      refine zx_bipush (q := 9) (v := 100) dX2_readEither_7 (by decide) rfl ?_
      refine zx_icmp_ge_f (t := 82) (q := 12) dX2_readEither_9 (by decide) rfl (nI_ge (a := i) (b := 100) (by omega) (by decide)) ?_
      refine zx_aload_n (q := 13) dX2_readEither_12 rfl rfl rfl ?_
      refine zx_bipush (q := 15) (v := 124) dX2_readEither_13 (by decide) rfl ?_
      refine zx_callV1i (q := 18) (y' := mX2_takes) dX2_readEither_15 ml_RX2_38 ok_mX2_takes rfl (by decide) rfl (Nat.le_of_ble_eq_true rfl) (Nat.le_of_ble_eq_true rfl) (Nat.le_refl _) (Nat.le_refl _) rfl (t_takes _ 124 K (by omega)) ?_
      rintro _ _ ⟨rfl, rfl⟩
      rw [if_pos (show (!false && z_at tx len p 124) = true from by simpa using hat)]
      refine zx_if_eq_f (t := 82) (q := 21) dX2_readEither_18 (by decide) rfl (zk_t (by simpa using hat)) ?_
      refine zx_aload_n (q := 22) dX2_readEither_21 rfl rfl rfl ?_
      refine zx_iload_n (q := 23) dX2_readEither_22 rfl rfl rfl ?_
      refine zx_callV1v (q := 26) (y' := mX2_readFactor) dX2_readEither_23 ml_RX2_69 ok_mX2_readFactor rfl (by decide) rfl (Nat.le_of_ble_eq_true rfl) (Nat.le_of_ble_eq_true rfl) (Nat.le_refl _) (Nat.le_refl _) rfl (hF _ (p + 1) cl _ (by omega) (zTK_adv K (z_at_p hat)) (by rw [z_u_ne _ _ (by omega)]; exact hc) (by omega)) ?_
      rintro _ ⟨g3, rfl, e3, hpo⟩
      rcases hpo with ⟨q1, c, hder, K3, hcd⟩ | ⟨q1, hder, K3, cl3, h103, hc3⟩
      · have hln := zD_len hder (by omega)
        have hl2 := hln.2.2 c rfl
        refine zx_iconst (q := 27) (v := 0) dX2_readEither_26 (by decide) rfl ?_
        refine zx_istore3 (q := 28) dX2_readEither_27 rfl rfl ?_
        refine lp_eA hq hF hdl i hi2 (len - q1) q1 (cl + c.length) 0 g3 ?_ ?_ rfl (by omega) (by omega) K3 hcd.1
        · intro q2 c2 g5 w3 t1 t2 t3 t4
          have hln2 := zD_len t1 (by omega)
          have hl3 := hln2.2.2 c2 rfl
          refine zx_iload_n (q := 64) dX2_readEither_63 rfl rfl rfl ?_
          refine zx_if_le_f (t := 76) (q := 67) dX2_readEither_64 (by decide) rfl (nI_nle hi (by omega)) ?_
          refine zx_aload_n (q := 68) dX2_readEither_67 rfl rfl rfl ?_
          refine zy_getR (q := 71) dX2_readEither_68 fl_RX2_19 rfl rfl rfl rfl ?_
          refine zx_bipush (q := 73) (v := (-3)) dX2_readEither_71 (by decide) rfl ?_
          refine zx_callV1v (q := 76) (y' := mX1_addCode) dX2_readEither_73 ml_RX2_72 ok_mX1_addCode (zr_F (f := none) hq).1 (by decide) rfl (Nat.le_of_ble_eq_true rfl) (Nat.le_of_ble_eq_true rfl) (Nat.le_refl _) (Nat.le_refl _) rfl (t_code _ (cl + c.length + c2.length) hq (-3) t3.1 (by omega)) ?_
          rintro _ rfl
          refine zx_iinc2 (q := 79) dX2_readEither_76 rfl rfl ?_
          refine zx_goto (t := 2) dX2_readEither_79 (by decide) ?_
          rw [z_inc]
          refine ih (len - q2) (by omega) q2 (cl + c.length + c2.length + 1) (i + 1) _ _ ?_ ?_ rfl (by omega) (by omega) (by omega) (zTK_o t2) (z_u_at _ _ _ _)
          · intro q3 c3 g6 s1 s2 s3 s4
            refine kS q3 (c ++ (c2 ++ (-3 :: c3))) g6 (zD_20 hat hder t1 s1) s2 ?_ (zFrC_tr zFrC_p (zFrC_tr e3 (zFrC_tr t4 (zFrC_tr zFrC_o s4))))
            have t5 := zCd_app (zCd_app hcd (zCd_app t3 zCd_one)) (c2 := c3) (by rw [List.length_append, List.length_append, ← Nat.add_assoc, ← Nat.add_assoc]; exact s3)
            rw [List.append_assoc, List.append_assoc] at t5
            exact zCd_pl t5 (fun j => z_u_ne _ _ (by omega))
          · intro q3 o S' g6 s1 s2 s3 s4 s5
            exact kX q3 o S' g6 (zD_19 hat hder t1 s1) s2 s3 (zFrC_tr zFrC_p (zFrC_tr e3 (zFrC_tr t4 (zFrC_tr zFrC_o s4)))) s5
        · intro q2 o S' g5 t1 t2 t3 t4 t5
          exact kX q2 o S' g5 (zD_18 hat hder t1) t2 t3 (zFrC_tr zFrC_p (zFrC_tr e3 t4)) t5
      · refine zx_iconst (q := 27) (v := 0) dX2_readEither_26 (by decide) rfl ?_
        refine zx_istore3 (q := 28) dX2_readEither_27 rfl rfl ?_
        refine zW.mono (lp_eX28 hq (g := g3) ⟨K3, cl3, h103, hc3⟩ _ i hi2 _) ?_
        rintro o S' ⟨h0, g5, h1, h2, h3⟩
        exact kX _ o S' g5 (zD_17 hat hder) h0 h1 (zFrC_tr zFrC_p (zFrC_tr e3 h2)) h3
    · refine zx_iload_n (q := 3) dX2_readEither_2 rfl rfl rfl ?_
      refine zx_if_eq_f (t := 21) (q := 6) dX2_readEither_3 (by decide) rfl (nI_ne0 hi (by omega)) ?_
      refine zx_iload_n (q := 7) dX2_readEither_6 rfl rfl rfl ?_
      refine zx_bipush (q := 9) (v := 100) dX2_readEither_7 (by decide) rfl ?_
      refine zx_icmp_ge (q := 12) (t := 82) dX2_readEither_9 (by decide) rfl (fun c_9 => ?_) (fun c_9 => ?_)
      · refine zx_vret dX2_readEither_82 rfl (Nat.le_refl _) (Nat.le_refl _) ?_
        exact kS p [] g (zD_16 hat) K (zCd_nil hc (fun _ => rfl)) (fun _ _ _ _ _ => rfl)
      · refine zx_aload_n (q := 13) dX2_readEither_12 rfl rfl rfl ?_
        refine zx_bipush (q := 15) (v := 124) dX2_readEither_13 (by decide) rfl ?_
        refine zx_callV1i (q := 18) (y' := mX2_takes) dX2_readEither_15 ml_RX2_38 ok_mX2_takes rfl (by decide) rfl (Nat.le_of_ble_eq_true rfl) (Nat.le_of_ble_eq_true rfl) (Nat.le_refl _) (Nat.le_refl _) rfl (t_takes _ 124 K (by omega)) ?_
        rintro _ _ ⟨rfl, rfl⟩
        rw [if_neg (show ¬ (!false && z_at tx len p 124) = true from by simpa using hat)]
        refine zx_if_eq_t (t := 82) (q := 21) dX2_readEither_18 (by decide) rfl (zk_f (by simpa using hat)) ?_
        refine zx_vret dX2_readEither_82 rfl (Nat.le_refl _) (Nat.le_refl _) ?_
        exact kS p [] g (zD_16 hat) K (zCd_nil hc (fun _ => rfl)) (fun _ _ _ _ _ => rfl)
theorem t_re {tx : Nat → Nat} {len q n d : Nat} (hq : q < 6) (hF : zHF l D tc A gl tx len q n d) : zHE l D tc A gl tx len q n d := by
  intro dl p cl g hdl K hc hcl
  have hKl := zTK_len K
  obtain ⟨dl, rfl⟩ : ∃ k, dl = k + 7 := ⟨dl - 7, by omega⟩
  show zW l D tc A mX2_readEither (dl + 7) 0 0 0 0 0 [some (.ref 39), some (.int (nI d)), none, none] [] (zs g gl (some (66 + 5 * q))) _
  refine zx_iconst (q := 1) (v := 0) dX2_readEither_0 (by decide) rfl ?_
  refine zx_istore2 (q := 2) dX2_readEither_1 rfl rfl ?_
  refine zx_iload_n (q := 3) dX2_readEither_2 rfl rfl rfl ?_
  refine zx_if_eq_t (t := 21) (q := 6) dX2_readEither_3 (by decide) rfl (rfl) ?_
  refine zx_aload_n (q := 22) dX2_readEither_21 rfl rfl rfl ?_
  refine zx_iload_n (q := 23) dX2_readEither_22 rfl rfl rfl ?_
  refine zx_callV1v (q := 26) (y' := mX2_readFactor) dX2_readEither_23 ml_RX2_69 ok_mX2_readFactor rfl (by decide) rfl (Nat.le_of_ble_eq_true rfl) (Nat.le_of_ble_eq_true rfl) (Nat.le_refl _) (Nat.le_refl _) rfl (hF _ p cl _ (by omega) K hc hcl) ?_
  rintro _ ⟨g3, rfl, e3, hpo⟩
  rcases hpo with ⟨q1, c, hder, K3, hcd⟩ | ⟨q1, hder, K3, cl3, h103, hc3⟩
  · have hln := zD_len hder (by omega)
    have hl2 := hln.2.2 c rfl
    refine zx_iconst (q := 27) (v := 0) dX2_readEither_26 (by decide) rfl ?_
    refine zx_istore3 (q := 28) dX2_readEither_27 rfl rfl ?_
    refine lp_eA hq hF (by omega) 0 (by omega) (len - q1) q1 (cl + c.length) 0 g3 ?_ ?_ rfl (by omega) (by omega) K3 hcd.1
    · intro q2 c2 g5 w3 t1 t2 t3 t4
      have hln2 := zD_len t1 (by omega)
      have hl3 := hln2.2.2 c2 rfl
      refine zx_iload_n (q := 64) dX2_readEither_63 rfl rfl rfl ?_
      refine zx_if_le_t (t := 76) (q := 67) dX2_readEither_64 (by decide) rfl (by decide) ?_
      refine zx_iinc2 (q := 79) dX2_readEither_76 rfl rfl ?_
      refine zx_goto (t := 2) dX2_readEither_79 (by decide) ?_
      rw [z_inc]
      refine lp_eO hq hF (by omega) (len - q2) q2 (cl + c.length + c2.length) 1 g5 _ ?_ ?_ rfl (by omega) (by omega) (by omega) t2 t3.1
      · intro q3 c3 g6 s1 s2 s3 s4
        refine ⟨rfl, g6, rfl, zFrC_tr e3 (zFrC_tr t4 s4), Or.inl ⟨q3, c ++ (c2 ++ c3), zD_11 hder t1 s1, s2, ?_⟩⟩
        have t5 := zCd_app (zCd_app hcd t3) (c2 := c3) (by rw [List.length_append, ← Nat.add_assoc]; exact s3)
        rw [List.append_assoc] at t5
        exact t5
      · intro q3 o S' g6 s1 s2 s3 s4 s5
        exact ⟨s2, g6, s3, zFrC_tr e3 (zFrC_tr t4 s4), Or.inr ⟨q3, zD_10 hder t1 s1, s5⟩⟩
    · intro q2 o S' g5 t1 t2 t3 t4 t5
      exact ⟨t2, g5, t3, zFrC_tr e3 t4, Or.inr ⟨q2, zD_9 hder t1, t5⟩⟩
  · refine zx_iconst (q := 27) (v := 0) dX2_readEither_26 (by decide) rfl ?_
    refine zx_istore3 (q := 28) dX2_readEither_27 rfl rfl ?_
    refine zW.mono (lp_eX28 hq (g := g3) ⟨K3, cl3, h103, hc3⟩ _ 0 (by omega) _) ?_
    rintro o S' ⟨h0, g5, h1, h2, h3⟩
    exact ⟨h0, g5, h1, zFrC_tr e3 h2, Or.inr ⟨q1, zD_8 hder, h3⟩⟩
theorem t_rE2 {tx : Nat → Nat} {len q d : Nat} (hq : q < 6) (hd : d ≤ 4) (hE : ∀ d', d ≤ d' → d' < 4 → zHE l D tc A gl tx len q (3 - d') (d' + 1)) : zHF l D tc A gl tx len q (4 - d) d ∧ zHE l D tc A gl tx len q (4 - d) d :=
  ⟨t_rf hq (by omega) hE, t_re hq (t_rf hq (by omega) hE)⟩
theorem t_rE1 {tx : Nat → Nat} {len q : Nat} (hq : q < 6) : ∀ n d, d + n = 4 → ∀ d', d ≤ d' → d' ≤ 4 → zHF l D tc A gl tx len q (4 - d') d' ∧ zHE l D tc A gl tx len q (4 - d') d' := by
  intro n
  induction n with
  | zero => intro d hd d' h1 h2; exact t_rE2 hq h2 (fun d2 a b => by omega)
  | succ n ih =>
    intro d hd d' h1 h2
    by_cases hx : d + 1 ≤ d'
    · exact ih (d + 1) (by omega) d' hx h2
    · have e : d' = d := by omega
      rw [e]
      refine t_rE2 hq (by omega) (fun d2 a b => ?_)
      have t := (ih (d + 1) (by omega) (d2 + 1) (by omega) (by omega)).2
      rw [show 4 - (d2 + 1) = 3 - d2 by omega] at t
      exact t
theorem t_rE0 {tx : Nat → Nat} {len q : Nat} (hq : q < 6) : ∀ n d, d + n = 4 → zHF l D tc A gl tx len q n d ∧ zHE l D tc A gl tx len q n d := by
  intro n d h
  have t := t_rE1 (l := l) (D := D) (tc := tc) (A := A) (gl := gl) (tx := tx) (len := len) hq n d h d (Nat.le_refl _) (by omega)
  rw [show 4 - d = n by omega] at t
  exact t
theorem t_reX (d q : Nat) (hq : q < 6) {tx : Nat → Nat} {len p : Nat} {g : Nat → Nat → Int32} (hX : zXf g tx len p q) (w : Int32) : zCall l D tc A mX2_readEither (d + 8) 0 0 [.ref 39, .int w] (zs g gl (some (66 + 5 * q))) (zQv fun S' => ∃ g2, S' = zs g2 gl (some (66 + 5 * q)) ∧ zFrC g g2 q ∧ zXf g2 tx len p q) := by
  show zW l D tc A mX2_readEither (d + 8) 0 0 0 0 0 [some (.ref 39), some (.int w), none, none] [] (zs g gl (some (66 + 5 * q))) _
  refine zx_iconst (q := 1) (v := 0) dX2_readEither_0 (by decide) rfl ?_
  refine zx_istore2 (q := 2) dX2_readEither_1 rfl rfl ?_
  refine zx_iload_n (q := 3) dX2_readEither_2 rfl rfl rfl ?_
  refine zx_if_eq_t (t := 21) (q := 6) dX2_readEither_3 (by decide) rfl (rfl) ?_
  refine zx_aload_n (q := 22) dX2_readEither_21 rfl rfl rfl ?_
  refine zx_iload_n (q := 23) dX2_readEither_22 rfl rfl rfl ?_
  refine zx_callV1v (q := 26) (y' := mX2_readFactor) dX2_readEither_23 ml_RX2_69 ok_mX2_readFactor rfl (by decide) rfl (Nat.le_of_ble_eq_true rfl) (Nat.le_of_ble_eq_true rfl) (Nat.le_refl _) (Nat.le_refl _) rfl (t_rfX _ q hq hX w) ?_
  rintro _ ⟨g3, rfl, e3, hX3⟩
  refine zx_iconst (q := 27) (v := 0) dX2_readEither_26 (by decide) rfl ?_
  refine zx_istore3 (q := 28) dX2_readEither_27 rfl rfl ?_
  refine zW.mono (lp_eX28 hq hX3 w 0 (by omega) _) ?_
  rintro o S' ⟨h0, g5, h1, h2, h3⟩
  exact ⟨h0, g5, h1, zFrC_tr e3 h2, h3⟩
end P53
