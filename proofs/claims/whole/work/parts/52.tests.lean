/-! the class's readers of words, numbers, tests -/
def z_cko (i b : Nat) : Option Nat :=
  if i = 3 then (if 48 ≤ b ∧ b ≤ 57 then some (b - 48) else none)
  else if i = 6 then (if b = 115 then some 0 else if b = 107 then some 1 else if b = 118 then some 2 else if b = 102 then some 3 else if b = 109 then some 4 else if b = 104 then some 5 else none)
  else if 60 ≤ b ∧ b ≤ 62 then some (b - 60) else none
theorem z_cko_ok : ∀ b, b < 128 → z_ck 3 (nI b) = z_ov (z_cko 3 b) ∧ z_ck 6 (nI b) = z_ov (z_cko 6 b) ∧ z_ck 7 (nI b) = z_ov (z_cko 7 b) := by decide +kernel
theorem z_cko_eq {i b : Nat} (hi : i = 3 ∨ i = 6 ∨ i = 7) (hb : b < 128) : z_ck i (nI b) = z_ov (z_cko i b) := by
  rcases hi with h | h | h <;> subst h
  · exact (z_cko_ok b hb).1
  · exact (z_cko_ok b hb).2.1
  · exact (z_cko_ok b hb).2.2
theorem z_cko_lt {i b v : Nat} (h : z_cko i b = some v) : (i = 3 → v < 10) ∧ (i = 6 → v < 6) ∧ (i = 7 → v < 3) ∧ v < 10 := by
  unfold z_cko at h
  by_cases h3 : i = 3
  · rw [if_pos h3] at h
    split at h
    · simp only [Option.some.injEq] at h; omega
    · cases h
  · rw [if_neg h3] at h
    by_cases h6 : i = 6
    · rw [if_pos h6] at h
      repeat' split at h
      all_goals first | (cases h; done) | (simp only [Option.some.injEq] at h; omega)
    · rw [if_neg h6] at h
      split at h
      · simp only [Option.some.injEq] at h; omega
      · cases h
/-- which of some signs is at a place -/
def z_oo (tx : Nat → Nat) (len i p : Nat) : Option Nat := if p < len then z_cko i (tx p) else none
theorem z_oo_p {tx : Nat → Nat} {len i p v : Nat} (h : z_oo tx len i p = some v) : p < len := by
  unfold z_oo at h
  split at h
  · assumption
  · cases h
theorem z_oo_lt {tx : Nat → Nat} {len i p v : Nat} (h : z_oo tx len i p = some v) : (i = 3 → v < 10) ∧ (i = 6 → v < 6) ∧ (i = 7 → v < 3) ∧ v < 10 := by
  have h2 := z_oo_p h
  unfold z_oo at h
  rw [if_pos h2] at h
  exact z_cko_lt h
/-- a number -/
def z_nm (tx : Nat → Nat) (len p : Nat) : Nat × Option Nat := match z_oo tx len 3 p with
  | none => (p, none)
  | some a => match z_oo tx len 3 (p + 1) with
    | none => (p + 1, some a)
    | some b => (p + 2, some (10 * a + b))
/-- a test -/
def z_ts (tx : Nat → Nat) (len p : Nat) : Nat × Option Nat := match z_oo tx len 6 p with
  | none => (p, none)
  | some a => match z_oo tx len 7 (p + 1) with
    | none => (p + 1, none)
    | some b => match z_nm tx len (p + 2) with
      | (q, none) => (q, none)
      | (q, some n) => (q, some ((a * 3 + b) * 100 + n))
theorem z_nm_ok {tx : Nat → Nat} {len p q : Nat} {o : Option Nat} (hp : p ≤ len) (h : z_nm tx len p = (q, o)) : p ≤ q ∧ q ≤ len ∧ (o = none → q = p) ∧ ∀ n, o = some n → p < q ∧ n < 100 := by
  unfold z_nm at h
  cases h1 : z_oo tx len 3 p with
  | none =>
    rw [h1] at h
    simp only [Prod.mk.injEq] at h
    obtain ⟨e1, e2⟩ := h
    subst e1; subst e2
    exact ⟨Nat.le_refl _, hp, fun _ => rfl, fun n hn => by cases hn⟩
  | some a =>
    have b1 := (z_oo_lt h1).1 rfl
    have p1 := z_oo_p h1
    rw [h1] at h
    simp only [] at h
    cases h2 : z_oo tx len 3 (p + 1) with
    | none =>
      rw [h2] at h
      simp only [Prod.mk.injEq] at h
      obtain ⟨e1, e2⟩ := h
      subst e1; subst e2
      exact ⟨by omega, by omega, (fun z => by cases z), fun n hn => by simp only [Option.some.injEq] at hn; omega⟩
    | some b =>
      have b2 := (z_oo_lt h2).1 rfl
      have p2 := z_oo_p h2
      rw [h2] at h
      simp only [Prod.mk.injEq] at h
      obtain ⟨e1, e2⟩ := h
      subst e1; subst e2
      exact ⟨by omega, by omega, (fun z => by cases z), fun n hn => by simp only [Option.some.injEq] at hn; omega⟩
def z_ndp (tx : Nat → Nat) (len i : Nat) : Nat → Nat → Nat × Bool → Nat × Bool
  | 0, _, s => s
  | n + 1, k, s => z_ndp tx len i n (k + 1) (if (!s.2 && z_at tx len s.1 (z_ch i k).toNatClampNeg) = true then (s.1 + 1, s.2) else (s.1, true))
def z_nd (tx : Nat → Nat) (len i : Nat) (s : Nat × Bool) : Nat × Bool := z_ndp tx len i (zw_tl.getD i 0) 0 s
theorem z_chN : ∀ i, i < 8 → ∀ k, k < zw_tl.getD i 0 → z_ch i k = nI (z_ch i k).toNatClampNeg ∧ (z_ch i k).toNatClampNeg < 128 := by decide +kernel
def zCd (g g2 : Nat → Nat → Int32) (q cl : Nat) (c : List Int32) : Prop := g2 (66 + 5 * q) 1 = nI (cl + c.length) ∧ (∀ i, i < c.length → g2 (70 + 5 * q) (cl + i) = c.getD i 0) ∧ ∀ j, j < cl → g2 (70 + 5 * q) j = g (70 + 5 * q) j
def zFrC (g g2 : Nat → Nat → Int32) (q : Nat) : Prop := ∀ k j, ¬ (k = 39 ∧ (j = 2 ∨ j = 3)) → ¬ (k = 66 + 5 * q ∧ j = 1) → ¬ k = 70 + 5 * q → g2 k j = g k j
def zXf (g2 : Nat → Nat → Int32) (tx : Nat → Nat) (len p q : Nat) : Prop := zTK g2 tx len p true ∧ ∃ cl, cl ≤ 100 ∧ g2 (66 + 5 * q) 1 = nI cl
section P52
variable {l : Launch} {D : va_G} {tc : Nat → ClassId} {A : Nat → Prop} {S : zw_S} {gi : Nat → Nat → Int32} {gl : Nat → Nat → Int64} {f : Option Nat}
theorem lp_need (d i : Nat) {g : Nat → Nat → Int32} {tx : Nat → Nat} {len : Nat} (hi : i < 8) : ∀ (n k p : Nat) (fl : Bool) (g1 : Nat → Nat → Int32), k + n = zw_tl.getD i 0 → zTK g1 tx len p fl → (∀ k j, ¬ (k = 39 ∧ (j = 2 ∨ j = 3)) → g1 k j = g k j) → zW l D tc A mX2_need (d + 4) 0 0 0 0 2 [some (.ref 39), some (.ref (100000 + i)), some (.int (nI k))] [] (zs g1 gl f) (zQv fun S' => ∃ g2, S' = zs g2 gl f ∧ zTK g2 tx len (z_ndp tx len i n k (p, fl)).1 (z_ndp tx len i n k (p, fl)).2 ∧ (∀ k j, ¬ (k = 39 ∧ (j = 2 ∨ j = 3)) → g2 k j = g k j)) := by
  intro n
  induction n using Nat.strongRecOn with
  | _ n ih =>
    intro k p fl g1 hk K e
    have hl := z_len8 i hi
    refine zx_iload_n (q := 3) dX2_need_2 rfl rfl rfl ?_
    refine zx_aload_n (q := 4) dX2_need_3 rfl rfl rfl ?_
    refine zx_callT0i (q := 7) (y' := mJ0_length_8abf5) dX2_need_4 ml_RX2_94 ok_mJ0_length_8abf5 hi rfl (Nat.le_of_ble_eq_true rfl) (Nat.le_of_ble_eq_true rfl) (Nat.le_refl _) (Nat.le_refl _) rfl (t_tlen _ i hi) ?_
    rintro _ _ ⟨rfl, rfl⟩
    refine zx_icmp_ge (q := 10) (t := 33) dX2_need_7 (by decide) rfl (fun c_7 => ?_) (fun c_7 => ?_)
    · have hn0 : n = 0 := by have := z_ge (x := nI (zw_tl.getD i 0)) rfl (by omega) c_7; omega
      subst hn0
      refine zx_vret dX2_need_33 rfl (Nat.le_refl _) (Nat.le_refl _) ⟨rfl, ?_⟩
      exact ⟨g1, rfl, K, e⟩
    · have hk2 : k < zw_tl.getD i 0 := z_lt (x := nI (zw_tl.getD i 0)) rfl (by omega) c_7
      obtain ⟨n, rfl⟩ : ∃ q, n = q + 1 := ⟨n - 1, by omega⟩
      have hc := z_chN i hi k hk2
      refine zx_aload_n (q := 11) dX2_need_10 rfl rfl rfl ?_
      refine zx_aload_n (q := 12) dX2_need_11 rfl rfl rfl ?_
      refine zx_iload_n (q := 13) dX2_need_12 rfl rfl rfl ?_
      refine zx_callT1i (q := 16) (y' := mJ0_charAt_5068e) dX2_need_13 ml_RX2_98 ok_mJ0_charAt_5068e hi rfl (Nat.le_of_ble_eq_true rfl) (Nat.le_of_ble_eq_true rfl) (Nat.le_refl _) (Nat.le_refl _) rfl (t_chAt _ i hi k hk2) ?_
      rintro _ _ ⟨rfl, rfl⟩
      rw [hc.1]
      refine zx_callV1i (q := 19) (y' := mX2_takes) dX2_need_16 ml_RX2_38 ok_mX2_takes rfl (by decide) rfl (Nat.le_of_ble_eq_true rfl) (Nat.le_of_ble_eq_true rfl) (Nat.le_refl _) (Nat.le_refl _) rfl (t_takes _ _ K hc.2) ?_
      rintro _ _ ⟨rfl, rfl⟩
      refine zx_if_ne (q := 22) (t := 27) dX2_need_19 (by decide) rfl (fun c_19 => ?_) (fun c_19 => ?_)
      · have hz : (!fl && z_at tx len p (z_ch i k).toNatClampNeg) = true := (zb_nz _).mp c_19
        have hpl : p < len := by simp only [z_at, Bool.and_eq_true, decide_eq_true_eq] at hz; omega
        refine zx_iinc2 (q := 30) dX2_need_27 rfl rfl ?_
        refine zx_goto (t := 2) dX2_need_30 (by decide) ?_
        rw [z_inc]
        first
          | (have q1 : (!fl && z_at tx len p (z_ch i k).toNatClampNeg) = true := hz; have e2 : z_ndp tx len i (n + 1) k (p, fl) = z_ndp tx len i n (k + 1) (p + 1, fl) := (by rw [z_ndp]; simp only []; rw [if_pos hz]); rw [e2, if_pos hz]; exact ih n (by omega) (k + 1) (p + 1) fl _ (by omega) (zTK_adv K (by omega)) (fun k j z => by rw [z_u_ne _ _ (by omega)]; exact e k j z))
          | (have q1 : ¬ (!fl && z_at tx len p (z_ch i k).toNatClampNeg) = true := hz; have e2 : z_ndp tx len i (n + 1) k (p, fl) = z_ndp tx len i n (k + 1) (p, true) := (by rw [z_ndp]; simp only []; rw [if_neg hz]); rw [e2, if_neg hz]; exact ih n (by omega) (k + 1) p true _ (by omega) (zTK_fail K) (fun k j z => by rw [z_u_ne _ _ (by omega)]; exact e k j z))
      · have hz : ¬ (!fl && z_at tx len p (z_ch i k).toNatClampNeg) = true := fun z => by rw [z] at c_19; exact absurd c_19 (by decide)
        refine zx_aload_n (q := 23) dX2_need_22 rfl rfl rfl ?_
        refine zx_iconst (q := 24) (v := 1) dX2_need_23 (by decide) rfl ?_
        refine zy_putI (q := 27) dX2_need_24 fl_RX2_31 rfl rfl ⟨rfl, rfl⟩ rfl rfl ?_
        refine zx_iinc2 (q := 30) dX2_need_27 rfl rfl ?_
        refine zx_goto (t := 2) dX2_need_30 (by decide) ?_
        rw [z_inc]
        first
          | (have q1 : (!fl && z_at tx len p (z_ch i k).toNatClampNeg) = true := hz; have e2 : z_ndp tx len i (n + 1) k (p, fl) = z_ndp tx len i n (k + 1) (p + 1, fl) := (by rw [z_ndp]; simp only []; rw [if_pos hz]); rw [e2, if_pos hz]; exact ih n (by omega) (k + 1) (p + 1) fl _ (by omega) (zTK_adv K (by omega)) (fun k j z => by rw [z_u_ne _ _ (by omega)]; exact e k j z))
          | (have q1 : ¬ (!fl && z_at tx len p (z_ch i k).toNatClampNeg) = true := hz; have e2 : z_ndp tx len i (n + 1) k (p, fl) = z_ndp tx len i n (k + 1) (p, true) := (by rw [z_ndp]; simp only []; rw [if_neg hz]); rw [e2, if_neg hz]; exact ih n (by omega) (k + 1) p true _ (by omega) (zTK_fail K) (fun k j z => by rw [z_u_ne _ _ (by omega)]; exact e k j z))
theorem t_need (d i : Nat) {g : Nat → Nat → Int32} {tx : Nat → Nat} {len p : Nat} {fl : Bool} (hi : i < 8) (K : zTK g tx len p fl) : zCall l D tc A mX2_need (d + 4) 0 0 [.ref 39, .ref (100000 + i)] (zs g gl f) (zQv fun S' => ∃ g2, S' = zs g2 gl f ∧ zTK g2 tx len (z_nd tx len i (p, fl)).1 (z_nd tx len i (p, fl)).2 ∧ (∀ k j, ¬ (k = 39 ∧ (j = 2 ∨ j = 3)) → g2 k j = g k j)) := by
  show zW l D tc A mX2_need (d + 4) 0 0 0 0 0 [some (.ref 39), some (.ref (100000 + i)), none] [] (zs g gl f) _
  refine zx_iconst (q := 1) (v := 0) dX2_need_0 (by decide) rfl ?_
  refine zx_istore2 (q := 2) dX2_need_1 rfl rfl ?_
  exact lp_need d i hi (zw_tl.getD i 0) 0 p fl g (by omega) K (fun _ _ _ => rfl)
theorem t_tooS (d : Nat) {g : Nat → Nat → Int32} {tx : Nat → Nat} {len p : Nat} (K : zTK g tx len p false) (i : Nat) (hi : i = 3 ∨ i = 6 ∨ i = 7) (nd : Bool) {v : Nat} (ho : z_oo tx len i p = some v) : zCall l D tc A mX2_takesOneOf (d + 4) 0 0 [.ref 39, .ref (100000 + i), .int (zb nd)] (zs g gl f) (zQi fun r S' => r = nI v ∧ S' = zs (zw_u g 39 2 (nI (p + 1))) gl f) := by
  obtain ⟨K1, K2, K3, K4, K5, K6⟩ := id K
  have hpl := z_oo_p ho
  have hvl := (z_oo_lt ho).2.2.2
  have hov : z_cko i (tx p) = some v := by unfold z_oo at ho; rw [if_pos hpl] at ho; exact ho
  show zW l D tc A mX2_takesOneOf (d + 4) 0 0 0 0 0 [some (.ref 39), some (.ref (100000 + i)), some (.int (zb nd)), none] [] (zs g gl f) _
  refine zx_aload_n (q := 1) dX2_takesOneOf_0 rfl rfl rfl ?_
  refine zy_getIe (q := 4) (v := 0) dX2_takesOneOf_1 fl_RX2_31 rfl rfl (K3) rfl ?_
  refine zx_if_ne_f (t := 18) (q := 7) dX2_takesOneOf_4 (by decide) rfl (rfl) ?_
  refine zx_aload_n (q := 8) dX2_takesOneOf_7 rfl rfl rfl ?_
  refine zy_getIe (q := 11) (v := nI p) dX2_takesOneOf_8 fl_RX2_28 rfl rfl (K2) rfl ?_
  refine zx_aload_n (q := 12) dX2_takesOneOf_11 rfl rfl rfl ?_
  refine zy_getIe (q := 15) (v := nI len) dX2_takesOneOf_12 fl_RX2_15 rfl rfl (K1) rfl ?_
  refine zx_icmp_lt_t (t := 22) (q := 18) dX2_takesOneOf_15 (by decide) rfl (nI_lt hpl (by omega)) ?_
  refine zx_aload_n (q := 23) dX2_takesOneOf_22 rfl rfl rfl ?_
  refine zx_aload_n (q := 24) dX2_takesOneOf_23 rfl rfl rfl ?_
  refine zy_getR (q := 27) dX2_takesOneOf_24 fl_RX2_9 rfl rfl rfl rfl ?_
  refine zx_aload_n (q := 28) dX2_takesOneOf_27 rfl rfl rfl ?_
  refine zy_getIe (q := 31) (v := nI p) dX2_takesOneOf_28 fl_RX2_28 rfl rfl (K2) rfl ?_
  refine zy_bald (q := 32) dX2_takesOneOf_31 rfl (vp_in_nI (by omega) (by omega)) rfl ?_
  rw [nI_clamp (by omega), (K6 p (by omega)).1]
  refine zx_i2c (q := 33) dX2_takesOneOf_32 rfl ?_
  rw [(z_byt (tx p) (K6 p (by omega)).2).2]
  refine zx_callT1i (q := 36) (y' := mJ0_indexOf_0f7a4) dX2_takesOneOf_33 ml_RX2_102 ok_mJ0_indexOf_0f7a4 (show i < 8 by omega) rfl (Nat.le_of_ble_eq_true rfl) (Nat.le_of_ble_eq_true rfl) (Nat.le_refl _) (Nat.le_refl _) rfl (t_ix1 _ i (tx p) (by omega) (K6 p (by omega)).2) ?_
  rintro _ _ ⟨rfl, rfl⟩
  rw [z_cko_eq hi (K6 p (by omega)).2, hov, z_ov_some]
  refine zx_istore3 (q := 37) dX2_takesOneOf_36 rfl rfl ?_
  refine zx_iload_n (q := 38) dX2_takesOneOf_37 rfl rfl rfl ?_
  refine zx_if_lt_f (t := 54) (q := 41) dX2_takesOneOf_38 (by decide) rfl (nI_pos (by omega)) ?_
  refine zx_aload_n (q := 42) dX2_takesOneOf_41 rfl rfl rfl ?_
  refine zx_dup (q := 43) dX2_takesOneOf_42 rfl rfl ?_
  refine zy_getIe (q := 46) (v := nI p) dX2_takesOneOf_43 fl_RX2_28 rfl rfl (K2) rfl ?_
  refine zx_iconst (q := 47) (v := 1) dX2_takesOneOf_46 (by decide) rfl ?_
  refine zx_iadd (q := 48) dX2_takesOneOf_47 rfl ?_
  rw [nI_1]
  refine zy_putI (q := 51) dX2_takesOneOf_48 fl_RX2_28 rfl rfl ⟨rfl, rfl⟩ rfl rfl ?_
  refine zx_goto (t := 63) dX2_takesOneOf_51 (by decide) ?_
  refine zx_iload_n (q := 64) dX2_takesOneOf_63 rfl rfl rfl ?_
  refine zx_iret dX2_takesOneOf_64 rfl (Nat.le_refl _) (Nat.le_refl _) ⟨_, rfl, ?_⟩
  exact ⟨rfl, rfl⟩
theorem t_tooN (d : Nat) {g : Nat → Nat → Int32} {tx : Nat → Nat} {len p : Nat} {fl : Bool} (K : zTK g tx len p fl) (i : Nat) (hi : i = 3 ∨ i = 6 ∨ i = 7) (nd : Bool) (hno : fl = true ∨ z_oo tx len i p = none) : zCall l D tc A mX2_takesOneOf (d + 4) 0 0 [.ref 39, .ref (100000 + i), .int (zb nd)] (zs g gl f) (zQi fun r S' => r = -1 ∧ S' = zs (if nd = true then zw_u g 39 3 1 else g) gl f) := by
  obtain ⟨K1, K2, K3, K4, K5, K6⟩ := id K
  show zW l D tc A mX2_takesOneOf (d + 4) 0 0 0 0 0 [some (.ref 39), some (.ref (100000 + i)), some (.int (zb nd)), none] [] (zs g gl f) _
  refine zx_aload_n (q := 1) dX2_takesOneOf_0 rfl rfl rfl ?_
  refine zy_getIe (q := 4) (v := zb fl) dX2_takesOneOf_1 fl_RX2_31 rfl rfl (K3) rfl ?_
  refine zx_if_ne (q := 7) (t := 18) dX2_takesOneOf_4 (by decide) rfl (fun c_4 => ?_) (fun c_4 => ?_)
  · refine zx_iconst (q := 19) (v := (-1)) dX2_takesOneOf_18 (by decide) rfl ?_
    refine zx_goto (t := 36) dX2_takesOneOf_19 (by decide) ?_
    try rw [z_cko_eq hi (K6 p (by omega)).2, hov, z_ov_none]
    refine zx_istore3 (q := 37) dX2_takesOneOf_36 rfl rfl ?_
    refine zx_iload_n (q := 38) dX2_takesOneOf_37 rfl rfl rfl ?_
    refine zx_if_lt_t (t := 54) (q := 41) dX2_takesOneOf_38 (by decide) rfl (by decide) ?_
    refine zx_iload_n (q := 55) dX2_takesOneOf_54 rfl rfl rfl ?_
    refine zx_if_eq (q := 58) (t := 63) dX2_takesOneOf_55 (by decide) rfl (fun c_55 => ?_) (fun c_55 => ?_)
    · have hnd : ¬ nd = true := fun z => by rw [z] at c_55; exact absurd c_55 (by decide)
      refine zx_iload_n (q := 64) dX2_takesOneOf_63 rfl rfl rfl ?_
      refine zx_iret dX2_takesOneOf_64 rfl (Nat.le_refl _) (Nat.le_refl _) ⟨_, rfl, ?_⟩
      first
        | exact ⟨rfl, by rw [if_pos hnd]⟩
        | exact ⟨rfl, by rw [if_neg hnd]⟩
    · have hnd : nd = true := (zb_nz nd).mp c_55
      refine zx_aload_n (q := 59) dX2_takesOneOf_58 rfl rfl rfl ?_
      refine zx_iconst (q := 60) (v := 1) dX2_takesOneOf_59 (by decide) rfl ?_
      refine zy_putI (q := 63) dX2_takesOneOf_60 fl_RX2_31 rfl rfl ⟨rfl, rfl⟩ rfl rfl ?_
      refine zx_iload_n (q := 64) dX2_takesOneOf_63 rfl rfl rfl ?_
      refine zx_iret dX2_takesOneOf_64 rfl (Nat.le_refl _) (Nat.le_refl _) ⟨_, rfl, ?_⟩
      first
        | exact ⟨rfl, by rw [if_pos hnd]⟩
        | exact ⟨rfl, by rw [if_neg hnd]⟩
  · have hff : fl = false := (zb_z fl).mp (by simpa using c_4)
    refine zx_aload_n (q := 8) dX2_takesOneOf_7 rfl rfl rfl ?_
    refine zy_getIe (q := 11) (v := nI p) dX2_takesOneOf_8 fl_RX2_28 rfl rfl (K2) rfl ?_
    refine zx_aload_n (q := 12) dX2_takesOneOf_11 rfl rfl rfl ?_
    refine zy_getIe (q := 15) (v := nI len) dX2_takesOneOf_12 fl_RX2_15 rfl rfl (K1) rfl ?_
    refine zx_icmp_lt (q := 18) (t := 22) dX2_takesOneOf_15 (by decide) rfl (fun c_15 => ?_) (fun c_15 => ?_)
    · have hpl : p < len := (nI_ltI (by omega) (by omega)).mp c_15
      have hov : z_cko i (tx p) = none := by rcases hno with h | h; (rw [h] at hff; cases hff); unfold z_oo at h; rw [if_pos hpl] at h; exact h
      refine zx_aload_n (q := 23) dX2_takesOneOf_22 rfl rfl rfl ?_
      refine zx_aload_n (q := 24) dX2_takesOneOf_23 rfl rfl rfl ?_
      refine zy_getR (q := 27) dX2_takesOneOf_24 fl_RX2_9 rfl rfl rfl rfl ?_
      refine zx_aload_n (q := 28) dX2_takesOneOf_27 rfl rfl rfl ?_
      refine zy_getIe (q := 31) (v := nI p) dX2_takesOneOf_28 fl_RX2_28 rfl rfl (K2) rfl ?_
      refine zy_bald (q := 32) dX2_takesOneOf_31 rfl (vp_in_nI (by omega) (by omega)) rfl ?_
      rw [nI_clamp (by omega), (K6 p (by omega)).1]
      refine zx_i2c (q := 33) dX2_takesOneOf_32 rfl ?_
      rw [(z_byt (tx p) (K6 p (by omega)).2).2]
      refine zx_callT1i (q := 36) (y' := mJ0_indexOf_0f7a4) dX2_takesOneOf_33 ml_RX2_102 ok_mJ0_indexOf_0f7a4 (show i < 8 by omega) rfl (Nat.le_of_ble_eq_true rfl) (Nat.le_of_ble_eq_true rfl) (Nat.le_refl _) (Nat.le_refl _) rfl (t_ix1 _ i (tx p) (by omega) (K6 p (by omega)).2) ?_
      rintro _ _ ⟨rfl, rfl⟩
      try rw [z_cko_eq hi (K6 p (by omega)).2, hov, z_ov_none]
      refine zx_istore3 (q := 37) dX2_takesOneOf_36 rfl rfl ?_
      refine zx_iload_n (q := 38) dX2_takesOneOf_37 rfl rfl rfl ?_
      refine zx_if_lt_t (t := 54) (q := 41) dX2_takesOneOf_38 (by decide) rfl (by decide) ?_
      refine zx_iload_n (q := 55) dX2_takesOneOf_54 rfl rfl rfl ?_
      refine zx_if_eq (q := 58) (t := 63) dX2_takesOneOf_55 (by decide) rfl (fun c_55 => ?_) (fun c_55 => ?_)
      · have hnd : ¬ nd = true := fun z => by rw [z] at c_55; exact absurd c_55 (by decide)
        refine zx_iload_n (q := 64) dX2_takesOneOf_63 rfl rfl rfl ?_
        refine zx_iret dX2_takesOneOf_64 rfl (Nat.le_refl _) (Nat.le_refl _) ⟨_, rfl, ?_⟩
        first
          | exact ⟨rfl, by rw [if_pos hnd]⟩
          | exact ⟨rfl, by rw [if_neg hnd]⟩
      · have hnd : nd = true := (zb_nz nd).mp c_55
        refine zx_aload_n (q := 59) dX2_takesOneOf_58 rfl rfl rfl ?_
        refine zx_iconst (q := 60) (v := 1) dX2_takesOneOf_59 (by decide) rfl ?_
        refine zy_putI (q := 63) dX2_takesOneOf_60 fl_RX2_31 rfl rfl ⟨rfl, rfl⟩ rfl rfl ?_
        refine zx_iload_n (q := 64) dX2_takesOneOf_63 rfl rfl rfl ?_
        refine zx_iret dX2_takesOneOf_64 rfl (Nat.le_refl _) (Nat.le_refl _) ⟨_, rfl, ?_⟩
        first
          | exact ⟨rfl, by rw [if_pos hnd]⟩
          | exact ⟨rfl, by rw [if_neg hnd]⟩
    · refine zx_iconst (q := 19) (v := (-1)) dX2_takesOneOf_18 (by decide) rfl ?_
      refine zx_goto (t := 36) dX2_takesOneOf_19 (by decide) ?_
      try rw [z_cko_eq hi (K6 p (by omega)).2, hov, z_ov_none]
      refine zx_istore3 (q := 37) dX2_takesOneOf_36 rfl rfl ?_
      refine zx_iload_n (q := 38) dX2_takesOneOf_37 rfl rfl rfl ?_
      refine zx_if_lt_t (t := 54) (q := 41) dX2_takesOneOf_38 (by decide) rfl (by decide) ?_
      refine zx_iload_n (q := 55) dX2_takesOneOf_54 rfl rfl rfl ?_
      refine zx_if_eq (q := 58) (t := 63) dX2_takesOneOf_55 (by decide) rfl (fun c_55 => ?_) (fun c_55 => ?_)
      · have hnd : ¬ nd = true := fun z => by rw [z] at c_55; exact absurd c_55 (by decide)
        refine zx_iload_n (q := 64) dX2_takesOneOf_63 rfl rfl rfl ?_
        refine zx_iret dX2_takesOneOf_64 rfl (Nat.le_refl _) (Nat.le_refl _) ⟨_, rfl, ?_⟩
        first
          | exact ⟨rfl, by rw [if_pos hnd]⟩
          | exact ⟨rfl, by rw [if_neg hnd]⟩
      · have hnd : nd = true := (zb_nz nd).mp c_55
        refine zx_aload_n (q := 59) dX2_takesOneOf_58 rfl rfl rfl ?_
        refine zx_iconst (q := 60) (v := 1) dX2_takesOneOf_59 (by decide) rfl ?_
        refine zy_putI (q := 63) dX2_takesOneOf_60 fl_RX2_31 rfl rfl ⟨rfl, rfl⟩ rfl rfl ?_
        refine zx_iload_n (q := 64) dX2_takesOneOf_63 rfl rfl rfl ?_
        refine zx_iret dX2_takesOneOf_64 rfl (Nat.le_refl _) (Nat.le_refl _) ⟨_, rfl, ?_⟩
        first
          | exact ⟨rfl, by rw [if_pos hnd]⟩
          | exact ⟨rfl, by rw [if_neg hnd]⟩
theorem t_rnS1 (d : Nat) {g : Nat → Nat → Int32} {tx : Nat → Nat} {len p : Nat} (K : zTK g tx len p false) {a : Nat} (h1 : z_oo tx len 3 p = some a) (h2 : z_oo tx len 3 (p + 1) = none) : zCall l D tc A mX2_readNumber (d + 5) 0 0 [.ref 39] (zs g gl f) (zQi fun r S' => r = nI a ∧ ∃ g2, S' = zs g2 gl f ∧ zTK g2 tx len (p + 1) false ∧ (∀ k j, ¬ (k = 39 ∧ (j = 2 ∨ j = 3)) → g2 k j = g k j)) := by
  show zW l D tc A mX2_readNumber (d + 5) 0 0 0 0 0 [some (.ref 39), none, none] [] (zs g gl f) _
  refine zx_aload_n (q := 1) dX2_readNumber_0 rfl rfl rfl ?_
  refine zx_ldcS (i := 3) (q := 3) dX2_readNumber_1 (by decide) rfl rfl ?_
  refine zx_iconst (q := 4) (v := 1) dX2_readNumber_3 (by decide) rfl ?_
  refine zx_callV2i (q := 7) (y' := mX2_takesOneOf) dX2_readNumber_4 ml_RX2_82 ok_mX2_takesOneOf rfl (by decide) rfl (Nat.le_of_ble_eq_true rfl) (Nat.le_of_ble_eq_true rfl) (Nat.le_refl _) (Nat.le_refl _) rfl (t_tooS _ K 3 (Or.inl rfl) true h1) ?_
  rintro _ _ ⟨rfl, rfl⟩
  refine zx_istore1 (q := 8) dX2_readNumber_7 rfl rfl ?_
  refine zx_aload_n (q := 9) dX2_readNumber_8 rfl rfl rfl ?_
  refine zx_ldcS (i := 3) (q := 11) dX2_readNumber_9 (by decide) rfl rfl ?_
  refine zx_iconst (q := 12) (v := 0) dX2_readNumber_11 (by decide) rfl ?_
  refine zx_callV2i (q := 15) (y' := mX2_takesOneOf) dX2_readNumber_12 ml_RX2_82 ok_mX2_takesOneOf rfl (by decide) rfl (Nat.le_of_ble_eq_true rfl) (Nat.le_of_ble_eq_true rfl) (Nat.le_refl _) (Nat.le_refl _) rfl (t_tooN _ (zTK_adv K (z_oo_p h1)) 3 (Or.inl rfl) false (Or.inr h2)) ?_
  rintro _ _ ⟨rfl, rfl⟩
  refine zx_istore2 (q := 16) dX2_readNumber_15 rfl rfl ?_
  refine zx_iload_n (q := 17) dX2_readNumber_16 rfl rfl rfl ?_
  refine zx_if_ge_f (t := 24) (q := 20) dX2_readNumber_17 (by decide) rfl (by decide) ?_
  refine zx_iload_n (q := 21) dX2_readNumber_20 rfl rfl rfl ?_
  refine zx_goto (t := 30) dX2_readNumber_21 (by decide) ?_
  refine zx_iret dX2_readNumber_30 rfl (Nat.le_refl _) (Nat.le_refl _) ⟨_, rfl, ?_⟩
  exact ⟨rfl, _, rfl, zTK_adv K (z_oo_p h1), fun k j z => z_u_ne _ _ (by omega)⟩
theorem t_rnS2 (d : Nat) {g : Nat → Nat → Int32} {tx : Nat → Nat} {len p : Nat} (K : zTK g tx len p false) {a b : Nat} (h1 : z_oo tx len 3 p = some a) (h2 : z_oo tx len 3 (p + 1) = some b) : zCall l D tc A mX2_readNumber (d + 5) 0 0 [.ref 39] (zs g gl f) (zQi fun r S' => r = nI (10 * a + b) ∧ ∃ g2, S' = zs g2 gl f ∧ zTK g2 tx len (p + 2) false ∧ (∀ k j, ¬ (k = 39 ∧ (j = 2 ∨ j = 3)) → g2 k j = g k j)) := by
  show zW l D tc A mX2_readNumber (d + 5) 0 0 0 0 0 [some (.ref 39), none, none] [] (zs g gl f) _
  refine zx_aload_n (q := 1) dX2_readNumber_0 rfl rfl rfl ?_
  refine zx_ldcS (i := 3) (q := 3) dX2_readNumber_1 (by decide) rfl rfl ?_
  refine zx_iconst (q := 4) (v := 1) dX2_readNumber_3 (by decide) rfl ?_
  refine zx_callV2i (q := 7) (y' := mX2_takesOneOf) dX2_readNumber_4 ml_RX2_82 ok_mX2_takesOneOf rfl (by decide) rfl (Nat.le_of_ble_eq_true rfl) (Nat.le_of_ble_eq_true rfl) (Nat.le_refl _) (Nat.le_refl _) rfl (t_tooS _ K 3 (Or.inl rfl) true h1) ?_
  rintro _ _ ⟨rfl, rfl⟩
  refine zx_istore1 (q := 8) dX2_readNumber_7 rfl rfl ?_
  refine zx_aload_n (q := 9) dX2_readNumber_8 rfl rfl rfl ?_
  refine zx_ldcS (i := 3) (q := 11) dX2_readNumber_9 (by decide) rfl rfl ?_
  refine zx_iconst (q := 12) (v := 0) dX2_readNumber_11 (by decide) rfl ?_
  refine zx_callV2i (q := 15) (y' := mX2_takesOneOf) dX2_readNumber_12 ml_RX2_82 ok_mX2_takesOneOf rfl (by decide) rfl (Nat.le_of_ble_eq_true rfl) (Nat.le_of_ble_eq_true rfl) (Nat.le_refl _) (Nat.le_refl _) rfl (t_tooS _ (zTK_adv K (z_oo_p h1)) 3 (Or.inl rfl) false h2) ?_
  rintro _ _ ⟨rfl, rfl⟩
  refine zx_istore2 (q := 16) dX2_readNumber_15 rfl rfl ?_
  refine zx_iload_n (q := 17) dX2_readNumber_16 rfl rfl rfl ?_
  refine zx_if_ge_t (t := 24) (q := 20) dX2_readNumber_17 (by decide) rfl (nI_pos' (by have := (z_oo_lt h2).2.2.2; omega)) ?_
  refine zx_iload_n (q := 25) dX2_readNumber_24 rfl rfl rfl ?_
  refine zx_bipush (q := 27) (v := 10) dX2_readNumber_25 (by decide) rfl ?_
  refine zx_imul (q := 28) dX2_readNumber_27 rfl ?_
  rw [show nI a * 10 = nI (10 * a) from by rw [show (10 : Int32) = nI 10 from rfl, z_mul, Nat.mul_comm]]
  refine zx_iload_n (q := 29) dX2_readNumber_28 rfl rfl rfl ?_
  refine zx_iadd (q := 30) dX2_readNumber_29 rfl ?_
  rw [nI_add]
  refine zx_iret dX2_readNumber_30 rfl (Nat.le_refl _) (Nat.le_refl _) ⟨_, rfl, ?_⟩
  exact ⟨rfl, _, rfl, zTK_adv (zTK_adv K (z_oo_p h1)) (z_oo_p h2), fun k j z => by rw [z_u_ne _ _ (by omega), z_u_ne _ _ (by omega)]⟩
theorem t_rnS (d : Nat) {g : Nat → Nat → Int32} {tx : Nat → Nat} {len p : Nat} (K : zTK g tx len p false) {q n : Nat} (h : z_nm tx len p = (q, some n)) : zCall l D tc A mX2_readNumber (d + 5) 0 0 [.ref 39] (zs g gl f) (zQi fun r S' => r = nI n ∧ ∃ g2, S' = zs g2 gl f ∧ zTK g2 tx len q false ∧ (∀ k j, ¬ (k = 39 ∧ (j = 2 ∨ j = 3)) → g2 k j = g k j)) := by
  unfold z_nm at h
  cases h1 : z_oo tx len 3 p with
  | none => rw [h1] at h; simp at h
  | some a =>
    rw [h1] at h
    simp only [] at h
    cases h2 : z_oo tx len 3 (p + 1) with
    | none =>
      rw [h2] at h
      simp only [Prod.mk.injEq, Option.some.injEq] at h
      obtain ⟨e1, e2⟩ := h
      subst e1; subst e2
      exact t_rnS1 d K h1 h2
    | some b =>
      rw [h2] at h
      simp only [Prod.mk.injEq, Option.some.injEq] at h
      obtain ⟨e1, e2⟩ := h
      subst e1; subst e2
      exact t_rnS2 d K h1 h2
theorem z_nm_no {tx : Nat → Nat} {len p q : Nat} (h : z_nm tx len p = (q, none)) : z_oo tx len 3 p = none ∧ q = p := by
  unfold z_nm at h
  cases h1 : z_oo tx len 3 p with
  | none =>
    rw [h1] at h
    simp only [Prod.mk.injEq] at h
    exact ⟨rfl, h.1.symm⟩
  | some a =>
    rw [h1] at h
    simp only [] at h
    cases h2 : z_oo tx len 3 (p + 1) with
    | none => rw [h2] at h; simp at h
    | some b => rw [h2] at h; simp at h
theorem t_rnN (d : Nat) {g : Nat → Nat → Int32} {tx : Nat → Nat} {len p : Nat} {fl : Bool} (K : zTK g tx len p fl) (hno : fl = true ∨ z_oo tx len 3 p = none) : zCall l D tc A mX2_readNumber (d + 5) 0 0 [.ref 39] (zs g gl f) (zQi fun r S' => ∃ g2, S' = zs g2 gl f ∧ zTK g2 tx len p true ∧ (∀ k j, ¬ (k = 39 ∧ (j = 2 ∨ j = 3)) → g2 k j = g k j)) := by
  show zW l D tc A mX2_readNumber (d + 5) 0 0 0 0 0 [some (.ref 39), none, none] [] (zs g gl f) _
  refine zx_aload_n (q := 1) dX2_readNumber_0 rfl rfl rfl ?_
  refine zx_ldcS (i := 3) (q := 3) dX2_readNumber_1 (by decide) rfl rfl ?_
  refine zx_iconst (q := 4) (v := 1) dX2_readNumber_3 (by decide) rfl ?_
  refine zx_callV2i (q := 7) (y' := mX2_takesOneOf) dX2_readNumber_4 ml_RX2_82 ok_mX2_takesOneOf rfl (by decide) rfl (Nat.le_of_ble_eq_true rfl) (Nat.le_of_ble_eq_true rfl) (Nat.le_refl _) (Nat.le_refl _) rfl (t_tooN _ K 3 (Or.inl rfl) true hno) ?_
  rintro _ _ ⟨rfl, rfl⟩
  rw [if_pos rfl]
  refine zx_istore1 (q := 8) dX2_readNumber_7 rfl rfl ?_
  refine zx_aload_n (q := 9) dX2_readNumber_8 rfl rfl rfl ?_
  refine zx_ldcS (i := 3) (q := 11) dX2_readNumber_9 (by decide) rfl rfl ?_
  refine zx_iconst (q := 12) (v := 0) dX2_readNumber_11 (by decide) rfl ?_
  refine zx_callV2i (q := 15) (y' := mX2_takesOneOf) dX2_readNumber_12 ml_RX2_82 ok_mX2_takesOneOf rfl (by decide) rfl (Nat.le_of_ble_eq_true rfl) (Nat.le_of_ble_eq_true rfl) (Nat.le_refl _) (Nat.le_refl _) rfl (t_tooN _ (zTK_fail K) 3 (Or.inl rfl) false (Or.inl rfl)) ?_
  rintro _ _ ⟨rfl, rfl⟩
  rw [if_neg (by decide)]
  refine zx_istore2 (q := 16) dX2_readNumber_15 rfl rfl ?_
  refine zx_iload_n (q := 17) dX2_readNumber_16 rfl rfl rfl ?_
  refine zx_if_ge_f (t := 24) (q := 20) dX2_readNumber_17 (by decide) rfl (by decide) ?_
  refine zx_iload_n (q := 21) dX2_readNumber_20 rfl rfl rfl ?_
  refine zx_goto (t := 30) dX2_readNumber_21 (by decide) ?_
  refine zx_iret dX2_readNumber_30 rfl (Nat.le_refl _) (Nat.le_refl _) ⟨_, rfl, ?_⟩
  exact ⟨_, rfl, zTK_fail K, fun k j z => z_u_ne _ _ (by omega)⟩
theorem t_code (d cl : Nat) {g : Nat → Nat → Int32} {q : Nat} (hq : q < 6) (x : Int32) (hc : g (66 + 5 * q) 1 = nI cl) (hl : cl < 100) : zCall l D tc A mX1_addCode d 0 0 [.ref (66 + 5 * q), .int x] (zs g gl f) (zQv fun S' => S' = zs (zw_u (zw_u g (70 + 5 * q) cl x) (66 + 5 * q) 1 (nI (cl + 1))) gl f) := by
  show zW l D tc A mX1_addCode d 0 0 0 0 0 [some (.ref (66 + 5 * q)), some (.int x)] [] (zs g gl f) _
  refine zx_aload_n (q := 1) dX1_addCode_0 rfl rfl rfl ?_
  refine zy_getIe (q := 4) (v := nI cl) dX1_addCode_1 fl_RX1_28 rfl (zr_F (f := none) hq).1 (hc) rfl ?_
  refine zx_bipush (q := 6) (v := 100) dX1_addCode_4 (by decide) rfl ?_
  refine zx_icmp_ge_f (t := 29) (q := 9) dX1_addCode_6 (by decide) rfl (nI_ge (a := cl) (b := 100) hl (by decide)) ?_
  refine zx_aload_n (q := 10) dX1_addCode_9 rfl rfl rfl ?_
  refine zy_getR (q := 13) dX1_addCode_10 fl_RX1_21 rfl (zr_F (f := none) hq).1 (zr_F hq).2.2.2.2.1.1 rfl ?_
  refine zx_aload_n (q := 14) dX1_addCode_13 rfl rfl rfl ?_
  refine zy_getIe (q := 17) (v := nI cl) dX1_addCode_14 fl_RX1_28 rfl (zr_F (f := none) hq).1 (hc) rfl ?_
  refine zx_iload_n (q := 18) dX1_addCode_17 rfl rfl rfl ?_
  refine zy_iastN (q := 19) dX1_addCode_18 (zr_F (f := none) hq).2.2.2.2.1.2 (by omega) (by first | decide | omega) rfl ?_
  refine zx_aload_n (q := 20) dX1_addCode_19 rfl rfl rfl ?_
  refine zx_dup (q := 21) dX1_addCode_20 rfl rfl ?_
  refine zy_getIe (q := 24) (v := nI cl) dX1_addCode_21 fl_RX1_28 rfl (zr_F (f := none) hq).1 (by rw [z_u_ne _ _ (by omega)]; exact hc) rfl ?_
  refine zx_iconst (q := 25) (v := 1) dX1_addCode_24 (by decide) rfl ?_
  refine zx_iadd (q := 26) dX1_addCode_25 rfl ?_
  rw [nI_1]
  refine zy_putI (q := 29) dX1_addCode_26 fl_RX1_28 rfl rfl ⟨rfl, rfl⟩ (zr_F (f := none) hq).1 rfl ?_
  refine zx_vret dX1_addCode_29 rfl (Nat.le_refl _) (Nat.le_refl _) ⟨rfl, ?_⟩
  rfl
theorem t_codeX (d cl : Nat) {g : Nat → Nat → Int32} {q : Nat} (hq : q < 6) (x : Int32) (hc : g (66 + 5 * q) 1 = nI cl) (hl : ¬ cl < 100) (h1 : cl ≤ 100) : zCall l D tc A mX1_addCode d 0 0 [.ref (66 + 5 * q), .int x] (zs g gl f) (zQv fun S' => S' = zs g gl f) := by
  show zW l D tc A mX1_addCode d 0 0 0 0 0 [some (.ref (66 + 5 * q)), some (.int x)] [] (zs g gl f) _
  refine zx_aload_n (q := 1) dX1_addCode_0 rfl rfl rfl ?_
  refine zy_getIe (q := 4) (v := nI cl) dX1_addCode_1 fl_RX1_28 rfl (zr_F (f := none) hq).1 (hc) rfl ?_
  refine zx_bipush (q := 6) (v := 100) dX1_addCode_4 (by decide) rfl ?_
  refine zx_icmp_ge_t (t := 29) (q := 9) dX1_addCode_6 (by decide) rfl (nI_le (a := 100) (b := cl) (by omega) (by omega)) ?_
  refine zx_vret dX1_addCode_29 rfl (Nat.le_refl _) (Nat.le_refl _) ⟨rfl, ?_⟩
  rfl
theorem t_codeA (d cl : Nat) {g : Nat → Nat → Int32} {q : Nat} (hq : q < 6) (x : Int32) (hc : g (66 + 5 * q) 1 = nI cl) (h1 : cl ≤ 100) : zCall l D tc A mX1_addCode d 0 0 [.ref (66 + 5 * q), .int x] (zs g gl f) (zQv fun S' => ∃ g2, S' = zs g2 gl f ∧ (∃ cl2, cl2 ≤ 100 ∧ g2 (66 + 5 * q) 1 = nI cl2) ∧ ∀ k j, ¬ (k = 66 + 5 * q ∧ j = 1) → ¬ k = 70 + 5 * q → g2 k j = g k j) := by
  by_cases hl : cl < 100
  · refine zW.mono (t_code d cl hq x hc hl) ?_
    rintro _ S' ⟨h0, rfl⟩
    exact ⟨h0, _, rfl, ⟨cl + 1, by omega, z_u_at _ _ _ _⟩, fun k j a b => by rw [z_u_ne _ _ (by omega), z_u_ne _ _ (by omega)]⟩
  · refine zW.mono (t_codeX d cl hq x hc hl h1) ?_
    rintro _ S' ⟨h0, rfl⟩
    exact ⟨h0, g, rfl, ⟨cl, h1, hc⟩, fun _ _ _ _ => rfl⟩
theorem t_tcd (d : Nat) (a b c : Int32) : zCall l D tc A mX1_testCode d 0 0 [.int a, .int b, .int c] S (zQi fun r S' => r = (a * 3 + b) * 100 + c ∧ S' = S) := by
  show zW l D tc A mX1_testCode d 0 0 0 0 0 [some (.int a), some (.int b), some (.int c)] [] S _
  refine zx_iload_n (q := 1) dX1_testCode_0 rfl rfl rfl ?_
  refine zx_iconst (q := 2) (v := 3) dX1_testCode_1 (by decide) rfl ?_
  refine zx_imul (q := 3) dX1_testCode_2 rfl ?_
  refine zx_iload_n (q := 4) dX1_testCode_3 rfl rfl rfl ?_
  refine zx_iadd (q := 5) dX1_testCode_4 rfl ?_
  refine zx_bipush (q := 7) (v := 100) dX1_testCode_5 (by decide) rfl ?_
  refine zx_imul (q := 8) dX1_testCode_7 rfl ?_
  refine zx_iload_n (q := 9) dX1_testCode_8 rfl rfl rfl ?_
  refine zx_iadd (q := 10) dX1_testCode_9 rfl ?_
  refine zx_iret dX1_testCode_10 rfl (Nat.le_refl _) (Nat.le_refl _) ⟨_, rfl, ?_⟩
  exact ⟨rfl, rfl⟩
theorem t_rtS1 (d : Nat) {g : Nat → Nat → Int32} {tx : Nat → Nat} {len p : Nat} (K : zTK g tx len p false) {q : Nat} (hq : q < 6) {cl : Nat} (hc : g (66 + 5 * q) 1 = nI cl) (hl : cl < 100) {a b q2 n : Nat} (h1 : z_oo tx len 6 p = some a) (h2 : z_oo tx len 7 (p + 1) = some b) (h3 : z_nm tx len (p + 2) = (q2, some n)) : zCall l D tc A mX2_readTest (d + 6) 0 0 [.ref 39] (zs g gl (some (66 + 5 * q))) (zQv fun S' => ∃ g2, S' = zs g2 gl (some (66 + 5 * q)) ∧ zTK g2 tx len q2 false ∧ zCd g g2 q cl [nI ((a * 3 + b) * 100 + n)] ∧ zFrC g g2 q) := by
  show zW l D tc A mX2_readTest (d + 6) 0 0 0 0 0 [some (.ref 39), none, none] [] (zs g gl (some (66 + 5 * q))) _
  refine zx_aload_n (q := 1) dX2_readTest_0 rfl rfl rfl ?_
  refine zx_ldcS (i := 6) (q := 3) dX2_readTest_1 (by decide) rfl rfl ?_
  refine zx_iconst (q := 4) (v := 1) dX2_readTest_3 (by decide) rfl ?_
  refine zx_callV2i (q := 7) (y' := mX2_takesOneOf) dX2_readTest_4 ml_RX2_82 ok_mX2_takesOneOf rfl (by decide) rfl (Nat.le_of_ble_eq_true rfl) (Nat.le_of_ble_eq_true rfl) (Nat.le_refl _) (Nat.le_refl _) rfl (t_tooS _ K 6 (Or.inr (Or.inl rfl)) true h1) ?_
  rintro _ _ ⟨rfl, rfl⟩
  refine zx_istore1 (q := 8) dX2_readTest_7 rfl rfl ?_
  refine zx_aload_n (q := 9) dX2_readTest_8 rfl rfl rfl ?_
  refine zx_ldcS (i := 7) (q := 11) dX2_readTest_9 (by decide) rfl rfl ?_
  refine zx_iconst (q := 12) (v := 1) dX2_readTest_11 (by decide) rfl ?_
  refine zx_callV2i (q := 15) (y' := mX2_takesOneOf) dX2_readTest_12 ml_RX2_82 ok_mX2_takesOneOf rfl (by decide) rfl (Nat.le_of_ble_eq_true rfl) (Nat.le_of_ble_eq_true rfl) (Nat.le_refl _) (Nat.le_refl _) rfl (t_tooS _ (zTK_adv K (z_oo_p h1)) 7 (Or.inr (Or.inr rfl)) true h2) ?_
  rintro _ _ ⟨rfl, rfl⟩
  refine zx_istore2 (q := 16) dX2_readTest_15 rfl rfl ?_
  refine zx_aload_n (q := 17) dX2_readTest_16 rfl rfl rfl ?_
  refine zy_getR (q := 20) dX2_readTest_17 fl_RX2_19 rfl rfl rfl rfl ?_
  refine zx_iload_n (q := 21) dX2_readTest_20 rfl rfl rfl ?_
  refine zx_iload_n (q := 22) dX2_readTest_21 rfl rfl rfl ?_
  refine zx_aload_n (q := 23) dX2_readTest_22 rfl rfl rfl ?_
  refine zx_callV0i (q := 26) (y' := mX2_readNumber) dX2_readTest_23 ml_RX2_55 ok_mX2_readNumber rfl (by decide) rfl (Nat.le_of_ble_eq_true rfl) (Nat.le_of_ble_eq_true rfl) (Nat.le_refl _) (Nat.le_refl _) rfl (t_rnS _ (zTK_adv (zTK_adv K (z_oo_p h1)) (z_oo_p h2)) h3) ?_
  rintro _ _ ⟨rfl, g3, rfl, K3, e3⟩
  refine zx_callS3i (q := 29) (y' := mX1_testCode) dX2_readTest_26 ml_RX2_88 ok_mX1_testCode (Nat.le_of_ble_eq_true rfl) (Nat.le_of_ble_eq_true rfl) (Nat.le_refl _) (Nat.le_refl _) rfl (t_tcd _ _ _ _) ?_
  rintro _ _ ⟨rfl, rfl⟩
  rw [show (3 : Int32) = nI 3 from rfl, show (100 : Int32) = nI 100 from rfl, z_mul, nI_add, z_mul, nI_add]
  refine zx_callV1v (q := 32) (y' := mX1_addCode) dX2_readTest_29 ml_RX2_72 ok_mX1_addCode (zr_F (f := none) hq).1 (by decide) rfl (Nat.le_of_ble_eq_true rfl) (Nat.le_of_ble_eq_true rfl) (Nat.le_refl _) (Nat.le_refl _) rfl (t_code _ cl hq _ (by rw [e3 _ _ (by omega), z_u_ne _ _ (by omega), z_u_ne _ _ (by omega)]; exact hc) hl) ?_
  rintro _ rfl
  refine zx_vret dX2_readTest_32 rfl (Nat.le_refl _) (Nat.le_refl _) ⟨rfl, ?_⟩
  refine ⟨_, rfl, zTK_fr K3 (fun k j z => by rw [z_u_ne _ _ (by omega), z_u_ne _ _ (by omega)]), ⟨by rw [z_u_at]; rfl, fun i hi => ?_, fun j hj => ?_⟩, fun k j a b c => ?_⟩
  · have hi0 : i = 0 := by simpa using hi
    subst hi0
    rw [z_u_ne _ _ (by omega), Nat.add_zero, z_u_at]; rfl
  · rw [z_u_ne _ _ (by omega), z_u_ne _ _ (by omega), e3 _ _ (by omega), z_u_ne _ _ (by omega), z_u_ne _ _ (by omega)]
  · rw [z_u_ne _ _ (by omega), z_u_ne _ _ (by omega), e3 _ _ (by omega), z_u_ne _ _ (by omega), z_u_ne _ _ (by omega)]
theorem t_rtX3 (d : Nat) {g : Nat → Nat → Int32} {tx : Nat → Nat} {len p : Nat} (K : zTK g tx len p false) {q : Nat} (hq : q < 6) {cl : Nat} (hc : g (66 + 5 * q) 1 = nI cl) (h100 : cl ≤ 100) {a b q2 : Nat} (h1 : z_oo tx len 6 p = some a) (h2 : z_oo tx len 7 (p + 1) = some b) (h3 : z_nm tx len (p + 2) = (q2, none)) : zCall l D tc A mX2_readTest (d + 6) 0 0 [.ref 39] (zs g gl (some (66 + 5 * q))) (zQv fun S' => ∃ g2, S' = zs g2 gl (some (66 + 5 * q)) ∧ zXf g2 tx len q2 q ∧ zFrC g g2 q) := by
  show zW l D tc A mX2_readTest (d + 6) 0 0 0 0 0 [some (.ref 39), none, none] [] (zs g gl (some (66 + 5 * q))) _
  refine zx_aload_n (q := 1) dX2_readTest_0 rfl rfl rfl ?_
  refine zx_ldcS (i := 6) (q := 3) dX2_readTest_1 (by decide) rfl rfl ?_
  refine zx_iconst (q := 4) (v := 1) dX2_readTest_3 (by decide) rfl ?_
  refine zx_callV2i (q := 7) (y' := mX2_takesOneOf) dX2_readTest_4 ml_RX2_82 ok_mX2_takesOneOf rfl (by decide) rfl (Nat.le_of_ble_eq_true rfl) (Nat.le_of_ble_eq_true rfl) (Nat.le_refl _) (Nat.le_refl _) rfl (t_tooS _ K 6 (Or.inr (Or.inl rfl)) true h1) ?_
  rintro _ _ ⟨rfl, rfl⟩
  refine zx_istore1 (q := 8) dX2_readTest_7 rfl rfl ?_
  refine zx_aload_n (q := 9) dX2_readTest_8 rfl rfl rfl ?_
  refine zx_ldcS (i := 7) (q := 11) dX2_readTest_9 (by decide) rfl rfl ?_
  refine zx_iconst (q := 12) (v := 1) dX2_readTest_11 (by decide) rfl ?_
  refine zx_callV2i (q := 15) (y' := mX2_takesOneOf) dX2_readTest_12 ml_RX2_82 ok_mX2_takesOneOf rfl (by decide) rfl (Nat.le_of_ble_eq_true rfl) (Nat.le_of_ble_eq_true rfl) (Nat.le_refl _) (Nat.le_refl _) rfl (t_tooS _ (zTK_adv K (z_oo_p h1)) 7 (Or.inr (Or.inr rfl)) true h2) ?_
  rintro _ _ ⟨rfl, rfl⟩
  refine zx_istore2 (q := 16) dX2_readTest_15 rfl rfl ?_
  refine zx_aload_n (q := 17) dX2_readTest_16 rfl rfl rfl ?_
  refine zy_getR (q := 20) dX2_readTest_17 fl_RX2_19 rfl rfl rfl rfl ?_
  refine zx_iload_n (q := 21) dX2_readTest_20 rfl rfl rfl ?_
  refine zx_iload_n (q := 22) dX2_readTest_21 rfl rfl rfl ?_
  refine zx_aload_n (q := 23) dX2_readTest_22 rfl rfl rfl ?_
  refine zx_callV0i (q := 26) (y' := mX2_readNumber) dX2_readTest_23 ml_RX2_55 ok_mX2_readNumber rfl (by decide) rfl (Nat.le_of_ble_eq_true rfl) (Nat.le_of_ble_eq_true rfl) (Nat.le_refl _) (Nat.le_refl _) rfl (t_rnN _ (zTK_adv (zTK_adv K (z_oo_p h1)) (z_oo_p h2)) (Or.inr (z_nm_no h3).1)) ?_
  rintro _ _ ⟨g3, rfl, K3, e3⟩
  refine zx_callS3i (q := 29) (y' := mX1_testCode) dX2_readTest_26 ml_RX2_88 ok_mX1_testCode (Nat.le_of_ble_eq_true rfl) (Nat.le_of_ble_eq_true rfl) (Nat.le_refl _) (Nat.le_refl _) rfl (t_tcd _ _ _ _) ?_
  rintro _ _ ⟨rfl, rfl⟩
  refine zx_callV1v (q := 32) (y' := mX1_addCode) dX2_readTest_29 ml_RX2_72 ok_mX1_addCode (zr_F (f := none) hq).1 (by decide) rfl (Nat.le_of_ble_eq_true rfl) (Nat.le_of_ble_eq_true rfl) (Nat.le_refl _) (Nat.le_refl _) rfl (t_codeA _ cl hq _ (by rw [e3 _ _ (by omega), z_u_ne _ _ (by omega), z_u_ne _ _ (by omega)]; exact hc) h100) ?_
  rintro _ ⟨g4, rfl, hc4, e4⟩
  refine zx_vret dX2_readTest_32 rfl (Nat.le_refl _) (Nat.le_refl _) ⟨rfl, ?_⟩
  rw [(z_nm_no h3).2]
  exact ⟨g4, rfl, ⟨zTK_fr K3 (fun k j z => e4 k j (by omega) (by omega)), hc4⟩, fun k j a b c => by rw [e4 k j b c]; rw [e3 _ _ a, z_u_ne _ _ (by omega), z_u_ne _ _ (by omega)]⟩
theorem t_rtX2 (d : Nat) {g : Nat → Nat → Int32} {tx : Nat → Nat} {len p : Nat} (K : zTK g tx len p false) {q : Nat} (hq : q < 6) {cl : Nat} (hc : g (66 + 5 * q) 1 = nI cl) (h100 : cl ≤ 100) {a : Nat} (h1 : z_oo tx len 6 p = some a) (h2 : z_oo tx len 7 (p + 1) = none) : zCall l D tc A mX2_readTest (d + 6) 0 0 [.ref 39] (zs g gl (some (66 + 5 * q))) (zQv fun S' => ∃ g2, S' = zs g2 gl (some (66 + 5 * q)) ∧ zXf g2 tx len (p + 1) q ∧ zFrC g g2 q) := by
  show zW l D tc A mX2_readTest (d + 6) 0 0 0 0 0 [some (.ref 39), none, none] [] (zs g gl (some (66 + 5 * q))) _
  refine zx_aload_n (q := 1) dX2_readTest_0 rfl rfl rfl ?_
  refine zx_ldcS (i := 6) (q := 3) dX2_readTest_1 (by decide) rfl rfl ?_
  refine zx_iconst (q := 4) (v := 1) dX2_readTest_3 (by decide) rfl ?_
  refine zx_callV2i (q := 7) (y' := mX2_takesOneOf) dX2_readTest_4 ml_RX2_82 ok_mX2_takesOneOf rfl (by decide) rfl (Nat.le_of_ble_eq_true rfl) (Nat.le_of_ble_eq_true rfl) (Nat.le_refl _) (Nat.le_refl _) rfl (t_tooS _ K 6 (Or.inr (Or.inl rfl)) true h1) ?_
  rintro _ _ ⟨rfl, rfl⟩
  refine zx_istore1 (q := 8) dX2_readTest_7 rfl rfl ?_
  refine zx_aload_n (q := 9) dX2_readTest_8 rfl rfl rfl ?_
  refine zx_ldcS (i := 7) (q := 11) dX2_readTest_9 (by decide) rfl rfl ?_
  refine zx_iconst (q := 12) (v := 1) dX2_readTest_11 (by decide) rfl ?_
  refine zx_callV2i (q := 15) (y' := mX2_takesOneOf) dX2_readTest_12 ml_RX2_82 ok_mX2_takesOneOf rfl (by decide) rfl (Nat.le_of_ble_eq_true rfl) (Nat.le_of_ble_eq_true rfl) (Nat.le_refl _) (Nat.le_refl _) rfl (t_tooN _ (zTK_adv K (z_oo_p h1)) 7 (Or.inr (Or.inr rfl)) true (Or.inr h2)) ?_
  rintro _ _ ⟨rfl, rfl⟩
  rw [if_pos rfl]
  refine zx_istore2 (q := 16) dX2_readTest_15 rfl rfl ?_
  refine zx_aload_n (q := 17) dX2_readTest_16 rfl rfl rfl ?_
  refine zy_getR (q := 20) dX2_readTest_17 fl_RX2_19 rfl rfl rfl rfl ?_
  refine zx_iload_n (q := 21) dX2_readTest_20 rfl rfl rfl ?_
  refine zx_iload_n (q := 22) dX2_readTest_21 rfl rfl rfl ?_
  refine zx_aload_n (q := 23) dX2_readTest_22 rfl rfl rfl ?_
  refine zx_callV0i (q := 26) (y' := mX2_readNumber) dX2_readTest_23 ml_RX2_55 ok_mX2_readNumber rfl (by decide) rfl (Nat.le_of_ble_eq_true rfl) (Nat.le_of_ble_eq_true rfl) (Nat.le_refl _) (Nat.le_refl _) rfl (t_rnN _ (zTK_fail (zTK_adv K (z_oo_p h1))) (Or.inl rfl)) ?_
  rintro _ _ ⟨g3, rfl, K3, e3⟩
  refine zx_callS3i (q := 29) (y' := mX1_testCode) dX2_readTest_26 ml_RX2_88 ok_mX1_testCode (Nat.le_of_ble_eq_true rfl) (Nat.le_of_ble_eq_true rfl) (Nat.le_refl _) (Nat.le_refl _) rfl (t_tcd _ _ _ _) ?_
  rintro _ _ ⟨rfl, rfl⟩
  refine zx_callV1v (q := 32) (y' := mX1_addCode) dX2_readTest_29 ml_RX2_72 ok_mX1_addCode (zr_F (f := none) hq).1 (by decide) rfl (Nat.le_of_ble_eq_true rfl) (Nat.le_of_ble_eq_true rfl) (Nat.le_refl _) (Nat.le_refl _) rfl (t_codeA _ cl hq _ (by rw [e3 _ _ (by omega), z_u_ne _ _ (by omega), z_u_ne _ _ (by omega)]; exact hc) h100) ?_
  rintro _ ⟨g4, rfl, hc4, e4⟩
  refine zx_vret dX2_readTest_32 rfl (Nat.le_refl _) (Nat.le_refl _) ⟨rfl, ?_⟩
  exact ⟨g4, rfl, ⟨zTK_fr K3 (fun k j z => e4 k j (by omega) (by omega)), hc4⟩, fun k j a b c => by rw [e4 k j b c]; rw [e3 _ _ a, z_u_ne _ _ (by omega), z_u_ne _ _ (by omega)]⟩
theorem t_rtX1 (d : Nat) {g : Nat → Nat → Int32} {tx : Nat → Nat} {len p : Nat} {fl : Bool} (K : zTK g tx len p fl) {q : Nat} (hq : q < 6) {cl : Nat} (hc : g (66 + 5 * q) 1 = nI cl) (h100 : cl ≤ 100) (hno : fl = true ∨ z_oo tx len 6 p = none) : zCall l D tc A mX2_readTest (d + 6) 0 0 [.ref 39] (zs g gl (some (66 + 5 * q))) (zQv fun S' => ∃ g2, S' = zs g2 gl (some (66 + 5 * q)) ∧ zXf g2 tx len p q ∧ zFrC g g2 q) := by
  show zW l D tc A mX2_readTest (d + 6) 0 0 0 0 0 [some (.ref 39), none, none] [] (zs g gl (some (66 + 5 * q))) _
  refine zx_aload_n (q := 1) dX2_readTest_0 rfl rfl rfl ?_
  refine zx_ldcS (i := 6) (q := 3) dX2_readTest_1 (by decide) rfl rfl ?_
  refine zx_iconst (q := 4) (v := 1) dX2_readTest_3 (by decide) rfl ?_
  refine zx_callV2i (q := 7) (y' := mX2_takesOneOf) dX2_readTest_4 ml_RX2_82 ok_mX2_takesOneOf rfl (by decide) rfl (Nat.le_of_ble_eq_true rfl) (Nat.le_of_ble_eq_true rfl) (Nat.le_refl _) (Nat.le_refl _) rfl (t_tooN _ K 6 (Or.inr (Or.inl rfl)) true hno) ?_
  rintro _ _ ⟨rfl, rfl⟩
  rw [if_pos rfl]
  refine zx_istore1 (q := 8) dX2_readTest_7 rfl rfl ?_
  refine zx_aload_n (q := 9) dX2_readTest_8 rfl rfl rfl ?_
  refine zx_ldcS (i := 7) (q := 11) dX2_readTest_9 (by decide) rfl rfl ?_
  refine zx_iconst (q := 12) (v := 1) dX2_readTest_11 (by decide) rfl ?_
  refine zx_callV2i (q := 15) (y' := mX2_takesOneOf) dX2_readTest_12 ml_RX2_82 ok_mX2_takesOneOf rfl (by decide) rfl (Nat.le_of_ble_eq_true rfl) (Nat.le_of_ble_eq_true rfl) (Nat.le_refl _) (Nat.le_refl _) rfl (t_tooN _ (zTK_fail K) 7 (Or.inr (Or.inr rfl)) true (Or.inl rfl)) ?_
  rintro _ _ ⟨rfl, rfl⟩
  rw [if_pos rfl]
  refine zx_istore2 (q := 16) dX2_readTest_15 rfl rfl ?_
  refine zx_aload_n (q := 17) dX2_readTest_16 rfl rfl rfl ?_
  refine zy_getR (q := 20) dX2_readTest_17 fl_RX2_19 rfl rfl rfl rfl ?_
  refine zx_iload_n (q := 21) dX2_readTest_20 rfl rfl rfl ?_
  refine zx_iload_n (q := 22) dX2_readTest_21 rfl rfl rfl ?_
  refine zx_aload_n (q := 23) dX2_readTest_22 rfl rfl rfl ?_
  refine zx_callV0i (q := 26) (y' := mX2_readNumber) dX2_readTest_23 ml_RX2_55 ok_mX2_readNumber rfl (by decide) rfl (Nat.le_of_ble_eq_true rfl) (Nat.le_of_ble_eq_true rfl) (Nat.le_refl _) (Nat.le_refl _) rfl (t_rnN _ (zTK_fail (zTK_fail K)) (Or.inl rfl)) ?_
  rintro _ _ ⟨g3, rfl, K3, e3⟩
  refine zx_callS3i (q := 29) (y' := mX1_testCode) dX2_readTest_26 ml_RX2_88 ok_mX1_testCode (Nat.le_of_ble_eq_true rfl) (Nat.le_of_ble_eq_true rfl) (Nat.le_refl _) (Nat.le_refl _) rfl (t_tcd _ _ _ _) ?_
  rintro _ _ ⟨rfl, rfl⟩
  refine zx_callV1v (q := 32) (y' := mX1_addCode) dX2_readTest_29 ml_RX2_72 ok_mX1_addCode (zr_F (f := none) hq).1 (by decide) rfl (Nat.le_of_ble_eq_true rfl) (Nat.le_of_ble_eq_true rfl) (Nat.le_refl _) (Nat.le_refl _) rfl (t_codeA _ cl hq _ (by rw [e3 _ _ (by omega), z_u_ne _ _ (by omega), z_u_ne _ _ (by omega)]; exact hc) h100) ?_
  rintro _ ⟨g4, rfl, hc4, e4⟩
  refine zx_vret dX2_readTest_32 rfl (Nat.le_refl _) (Nat.le_refl _) ⟨rfl, ?_⟩
  exact ⟨g4, rfl, ⟨zTK_fr K3 (fun k j z => e4 k j (by omega) (by omega)), hc4⟩, fun k j a b c => by rw [e4 k j b c]; rw [e3 _ _ a, z_u_ne _ _ (by omega), z_u_ne _ _ (by omega)]⟩
theorem t_rtS (d : Nat) {g : Nat → Nat → Int32} {tx : Nat → Nat} {len p : Nat} (K : zTK g tx len p false) {q : Nat} (hq : q < 6) {cl : Nat} (hc : g (66 + 5 * q) 1 = nI cl) (hl : cl < 100) {q2 t : Nat} (h : z_ts tx len p = (q2, some t)) : zCall l D tc A mX2_readTest (d + 6) 0 0 [.ref 39] (zs g gl (some (66 + 5 * q))) (zQv fun S' => ∃ g2, S' = zs g2 gl (some (66 + 5 * q)) ∧ zTK g2 tx len q2 false ∧ zCd g g2 q cl [nI t] ∧ zFrC g g2 q) := by
  unfold z_ts at h
  cases h1 : z_oo tx len 6 p with
  | none => rw [h1] at h; simp at h
  | some a =>
    rw [h1] at h
    simp only [] at h
    cases h2 : z_oo tx len 7 (p + 1) with
    | none => rw [h2] at h; simp at h
    | some b =>
      rw [h2] at h
      simp only [] at h
      cases h3 : z_nm tx len (p + 2) with
      | mk q3 o3 =>
        rw [h3] at h
        cases o3 with
        | none => simp at h
        | some n =>
          simp only [Prod.mk.injEq, Option.some.injEq] at h
          obtain ⟨e1, e2⟩ := h
          subst e1; subst e2
          exact t_rtS1 d K hq hc hl h1 h2 h3
theorem t_rtX (d : Nat) {g : Nat → Nat → Int32} {tx : Nat → Nat} {len p : Nat} (K : zTK g tx len p false) {q : Nat} (hq : q < 6) {cl : Nat} (hc : g (66 + 5 * q) 1 = nI cl) (h100 : cl ≤ 100) {q2 : Nat} (h : z_ts tx len p = (q2, none)) : zCall l D tc A mX2_readTest (d + 6) 0 0 [.ref 39] (zs g gl (some (66 + 5 * q))) (zQv fun S' => ∃ g2, S' = zs g2 gl (some (66 + 5 * q)) ∧ zXf g2 tx len q2 q ∧ zFrC g g2 q) := by
  unfold z_ts at h
  cases h1 : z_oo tx len 6 p with
  | none =>
    rw [h1] at h
    simp only [Prod.mk.injEq] at h
    rw [← h.1]
    exact t_rtX1 d K hq hc h100 (Or.inr h1)
  | some a =>
    rw [h1] at h
    simp only [] at h
    cases h2 : z_oo tx len 7 (p + 1) with
    | none =>
      rw [h2] at h
      simp only [Prod.mk.injEq] at h
      rw [← h.1]
      exact t_rtX2 d K hq hc h100 h1 h2
    | some b =>
      rw [h2] at h
      simp only [] at h
      cases h3 : z_nm tx len (p + 2) with
      | mk q3 o3 =>
        rw [h3] at h
        cases o3 with
        | some n => simp at h
        | none =>
          simp only [Prod.mk.injEq] at h
          rw [← h.1]
          exact t_rtX3 d K hq hc h100 h1 h2 h3
end P52
