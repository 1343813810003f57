/-! what both constructors leave behind them -/
def zX8s : List (Nat × Nat) := [(1, 5), (1, 5), (1, 15), (1, 5), (1, 5), (1, 5), (1, 15), (1, 3), (1, 100), (1, 6), (1, 60), (1, 60), (1, 60), (1, 60), (1, 600), (1, 101), (1, 10), (3, 100), (1, 15), (1, 5), (1, 5), (1, 5), (1, 5), (1, 3), (1, 12), (1, 12), (1, 5), (1, 5), (1, 15), (1, 5), (1, 5), (1, 5), (1, 15), (1, 3), (1, 12), (1, 12), (1, 20), (1, 6), (1, 6), (4, 360), (4, 60)]
def zX8I : List ((Nat × Nat) × Int32) := [((146, 5), -1), ((146, 4), -1), ((146, 3), -1), ((146, 2), -1), ((146, 1), -1), ((146, 0), -1), ((108, 56), 0), ((108, 45), 0), ((108, 44), 0), ((108, 43), 0), ((108, 42), -1), ((108, 41), 0), ((108, 38), 0), ((108, 36), 0), ((108, 35), 0), ((108, 34), 0), ((108, 33), 0), ((125, 9), 116), ((125, 8), 115), ((125, 7), 111), ((125, 6), 109), ((125, 5), 101), ((125, 4), 101), ((125, 3), 115), ((125, 2), 101), ((125, 1), 119), ((125, 0), 111), ((108, 25), 0), ((108, 24), 0), ((108, 23), 0), ((108, 14), 0), ((108, 13), 0), ((108, 12), 0), ((108, 11), -1), ((108, 10), 0), ((116, 2), -1), ((116, 1), -1), ((116, 0), -1), ((108, 1), 0), ((108, 0), 0), ((106, 0), -1), ((104, 0), -1), ((102, 0), -1), ((100, 0), -1), ((98, 0), -1), ((96, 0), -1), ((20, 9), -1), ((36, 2), -1), ((36, 1), -1), ((36, 0), -1), ((1, 9), -1), ((17, 2), -1), ((17, 1), -1), ((17, 0), -1)]
def zX8R : List ((Nat × Nat) × Nat) := [((108, 61), 149), ((108, 60), 148), ((108, 59), 147), ((108, 58), 146), ((108, 57), 145), ((108, 55), 144), ((108, 54), 143), ((108, 53), 142), ((108, 52), 141), ((108, 51), 140), ((108, 50), 139), ((108, 49), 138), ((108, 48), 137), ((108, 47), 136), ((108, 46), 135), ((108, 40), 134), ((108, 39), 133), ((108, 37), 132), ((108, 32), 131), ((108, 31), 130), ((108, 30), 129), ((108, 29), 128), ((108, 28), 127), ((108, 27), 126), ((108, 26), 125), ((108, 22), 124), ((108, 21), 123), ((108, 20), 122), ((108, 19), 121), ((108, 18), 120), ((108, 17), 119), ((108, 16), 118), ((108, 15), 117), ((108, 9), 116), ((108, 8), 115), ((108, 7), 114), ((108, 6), 113), ((108, 5), 112), ((108, 4), 111), ((108, 3), 110), ((108, 2), 109), ((65, 5), 106), ((106, 2), 107), ((65, 4), 104), ((104, 2), 105), ((65, 3), 102), ((102, 2), 103), ((65, 2), 100), ((100, 2), 101), ((65, 1), 98), ((98, 2), 99), ((65, 0), 96), ((96, 2), 97), ((46, 5), 91), ((91, 5), 95), ((91, 4), 94), ((91, 3), 93), ((91, 2), 92), ((46, 4), 86), ((86, 5), 90), ((86, 4), 89), ((86, 3), 88), ((86, 2), 87), ((46, 3), 81), ((81, 5), 85), ((81, 4), 84), ((81, 3), 83), ((81, 2), 82), ((46, 2), 76), ((76, 5), 80), ((76, 4), 79), ((76, 3), 78), ((76, 2), 77), ((46, 1), 71), ((71, 5), 75), ((71, 4), 74), ((71, 3), 73), ((71, 2), 72), ((46, 0), 66), ((66, 5), 70), ((66, 4), 69), ((66, 3), 68), ((66, 2), 67), ((0, 11), 65), ((0, 10), 63), ((63, 1), 64), ((0, 9), 62), ((0, 8), 56), ((56, 0), 47), ((56, 11), 61), ((56, 10), 60), ((56, 9), 59), ((56, 2), 58), ((56, 1), 57), ((0, 7), 47), ((47, 4), 55), ((47, 3), 54), ((47, 2), 48), ((48, 4), 53), ((48, 3), 52), ((48, 2), 51), ((48, 1), 50), ((48, 0), 49), ((0, 5), 46), ((0, 4), 41), ((41, 5), 45), ((41, 4), 44), ((41, 3), 43), ((41, 2), 42), ((0, 3), 39), ((39, 0), 40), ((0, 1), 20), ((20, 8), 38), ((20, 7), 37), ((20, 5), 36), ((20, 3), 33), ((33, 1), 35), ((33, 0), 34), ((20, 2), 27), ((27, 4), 32), ((27, 3), 31), ((27, 2), 30), ((27, 1), 29), ((27, 0), 28), ((20, 1), 21), ((21, 4), 26), ((21, 3), 25), ((21, 2), 24), ((21, 1), 23), ((21, 0), 22), ((0, 0), 1), ((1, 8), 19), ((1, 7), 18), ((1, 5), 17), ((1, 3), 14), ((14, 1), 16), ((14, 0), 15), ((1, 2), 8), ((8, 4), 13), ((8, 3), 12), ((8, 2), 11), ((8, 1), 10), ((8, 0), 9), ((1, 1), 2), ((2, 4), 7), ((2, 3), 6), ((2, 2), 5), ((2, 1), 4), ((2, 0), 3)]
theorem zi_sh : [(0, 7)] ++ (zX7s ++ ((0, 8) :: zX8s)) = zg_sh := by decide +kernel
theorem z_lookup_mem {α : Type} {q : Nat × Nat} {r : α} : ∀ {R : List ((Nat × Nat) × α)}, R.lookup q = some r → (q, r) ∈ R := by
  intro R
  induction R with
  | nil => intro h; cases h
  | cons x R ih =>
    intro h
    rw [List.lookup_cons] at h
    cases hq : (q == x.1) with
    | true =>
      rw [hq] at h
      cases h
      rw [beq_iff_eq] at hq
      rw [hq]
      exact List.mem_cons_self
    | false =>
      rw [hq] at h
      exact List.mem_cons_of_mem _ (ih h)
theorem zi_Rin : ∀ k, k < 150 → ∀ j, j < ((zg_rt none).getD k []).length → zR zX8R k j = zg_rf none k j := by
  unfold zR zg_rf
  decide +kernel
theorem zi_Rmem : ∀ x ∈ zX8R, zg_rf none x.1.1 x.1.2 = some x.2 := by
  unfold zg_rf
  decide +kernel
theorem zi_R : zR zX8R = zg_rf none := by
  funext k j
  by_cases h : k < 150 ∧ j < ((zg_rt none).getD k []).length
  · exact zi_Rin k h.1 j h.2
  · have a : zg_rf none k j = none := by
      unfold zg_rf
      have e : j ≥ ((zg_rt none).getD k []).length := by
        rcases Nat.lt_or_ge k 150 with hk | hk
        · exact Nat.not_lt.mp (fun hj => h ⟨hk, hj⟩)
        · have l1 : (zg_rt none).length = 150 := rfl
          rw [List.getD_eq_getElem?_getD, List.getElem?_eq_none (by omega)]
          exact Nat.zero_le _
      rw [List.getD_eq_getElem?_getD (l := (zg_rt none).getD k []), List.getElem?_eq_none e]
      rfl
    rw [a]
    cases hr : zR zX8R k j with
    | none => rfl
    | some r =>
      have := zi_Rmem _ (z_lookup_mem hr)
      rw [a] at this
      cases this
/-- the state behind both constructors -/
theorem zi_zs : zm ([(0, 7)] ++ (zX7s ++ [(0, 8)])) zX8s zX8I zX8R = zs (zT zX8I) (fun _ _ => 0) none := by
  unfold zm zs
  rw [zi_R]
  have e : [(0, 7)] ++ (zX7s ++ [(0, 8)]) ++ zX8s = zg_sh := by
    rw [← zi_sh]
    simp only [List.append_assoc]
    rfl
  rw [e]
theorem zi_rel : zRel (zT zX8I) (fun _ _ => 0) := by
  refine ⟨0, ⟨by decide, by decide +kernel, by decide +kernel⟩, ⟨0, 0, 0, ⟨by decide, by decide, by decide⟩, ⟨by decide +kernel, by decide +kernel⟩, ⟨by decide +kernel, by decide +kernel⟩, ⟨by decide +kernel, by decide +kernel⟩, ⟨by decide +kernel, Or.inl (by decide +kernel)⟩, fun s hs => absurd hs (Nat.not_lt_zero s), ?_, ?_, ?_⟩, ⟨by decide +kernel, Or.inl (by decide +kernel)⟩, ⟨0, by decide, by decide +kernel, by decide +kernel, ?_⟩, ⟨0, by decide, by decide +kernel, by decide +kernel, ?_⟩, ?_, by decide +kernel, fun q hq => absurd hq (Nat.not_lt_zero q), ?_⟩
  · have key : ∀ s, s < 5 → zT zX8I (1 + 14) s = 0 ∧ zT zX8I (1 + 15) s = 0 ∧ ∀ j, j < 3 → zT zX8I (1 + 8 + s) j = 0 := by decide +kernel
    exact fun s _ hs => key s hs
  · unfold zSTt z_rg
    decide +kernel
  · unfold zSTb z_rg
    decide +kernel
  · unfold z_rg
    decide +kernel
  · decide +kernel
  · have key : ∀ t, t < 6 → (zT zX8I (96 + 2 * t) 0 = zT zX8I 146 t ∧ ((-1 : Int) ≤ (zT zX8I 146 t).toInt ∧ (zT zX8I 146 t).toInt ≤ 4)) ∧ (zT zX8I (96 + 2 * t) 1 = nI 0 ∧ zT zX8I 147 t = nI 0) := by decide +kernel
    exact fun t ht => ⟨0, by decide, (key t ht).1, (key t ht).2, fun _ => rfl, fun k _ => rfl⟩
  · decide +kernel

section ZK
variable {l : Launch} {D : va_G} {tc : Nat → ClassId} {A : Nat → Prop}
/-- the reference's constructor, behind the class's -/
theorem t_X8_at (d : Nat) : zCall l D tc A mX8_init (d + 1) 41 1811 [.ref 108] (zm [(0, 7)] (zX7s ++ [(0, 8)]) zX7I zX7R) (zQv fun S' => S' = zs (zT zX8I) (fun _ _ => 0) none) := by
  have h := t_X8_init (l := l) (D := D) (tc := tc) (A := A) (sh := [(0, 7)] ++ (zX7s ++ [(0, 8)])) (I := zX7I) (R := zX7R) (N := 109) (b := 108) d (by decide +kernel) (by decide +kernel) (by unfold zk; decide +kernel) (by decide)
  rw [zm_nil] at h
  refine zW.mono h (fun r S1 hq => ?_)
  obtain ⟨hr, hS⟩ := hq
  refine ⟨hr, hS.trans ?_⟩
  exact (show _ = zm ([(0, 7)] ++ (zX7s ++ [(0, 8)])) zX8s zX8I zX8R from rfl).trans zi_zs
end ZK
