/-! divisors; ops odds, mean, bars -/
theorem z_l0 {n : Nat} (h : n < 2 ^ 31) : lN n = 0 ↔ n = 0 := by
  rw [show (0 : Int64) = lN 0 from rfl]
  exact lN_eq h (by omega)
def z_shr (n x j : Nat) : Int64 := if n = 0 then -9223372036854775808 else lN ((if j = 0 then x else n) / Nat.gcd x n)
def z_gl (fn : Nat → Nat) : Nat → Nat → Nat → Nat
  | 0, _, g => g
  | k + 1, s, g => z_gl fn k (s + 1) (Nat.gcd (fn s) g)
theorem z_gl_ok {fn : Nat → Nat} {b : Nat} : ∀ k s g, 0 < g → g ≤ b → 0 < z_gl fn k s g ∧ z_gl fn k s g ≤ b := by
  intro k
  induction k with
  | zero => intro s g h1 h2; exact ⟨h1, h2⟩
  | succ k ih =>
    intro s g h1 h2
    rw [z_gl]
    exact ih (s + 1) _ (Nat.gcd_pos_of_pos_right _ h1) (Nat.le_trans (Nat.gcd_le_right _ h1) h2)
def z_brp (gi : Nat → Nat → Int32) (ns m d h : Nat) : Bool := match z_tw gi h with
  | none => false
  | some v => decide (¬ v % z_gl (fun s => z_sh gi m s h) ns 0 d = 0)
section P47
variable {l : Launch} {D : va_G} {tc : Nat → ClassId} {A : Nat → Prop} {S : zw_S} {gi : Nat → Nat → Int32} {gl : Nat → Nat → Int64} {f : Option Nat}
theorem lp_X7_cd (d : Nat) (a0 b0 : Int64) : ∀ (n i p : Nat) (w9 w10 : Option Value), p < 2 ^ 31 → n < 2 ^ 31 → i + n < 1000000 → zW l D tc A mX7_commonDivisor d 0 0 0 0 9 [some (.long a0), none, some (.long b0), none, some (.long (lN p)), none, some (.long (lN n)), none, some (.int (nI i)), w9, w10] [] S (zQl fun r S' => r = lN (Nat.gcd n p) ∧ S' = S) := by
  intro n
  induction n using Nat.strongRecOn with
  | _ n ih =>
    intro i p w9 w10 hp hn hi
    by_cases hn0 : n = 0
    · subst hn0
      refine zx_iload (q := 11) dX7_commonDivisor_9 rfl rfl ?_
      refine zx_ldcw (q := 14) dX7_commonDivisor_11 kc_RX7_295 rfl ?_
      refine zx_icmp_ge_f (t := 45) (q := 17) dX7_commonDivisor_14 (by decide) rfl (nI_ge (a := i) (b := 1000000) (by omega) (by decide)) ?_
      refine zx_lload (q := 19) dX7_commonDivisor_17 rfl rfl ?_
      refine zx_lconst (q := 20) (v := 0) dX7_commonDivisor_19 (by decide) rfl ?_
      refine zx_lcmp (q := 21) dX7_commonDivisor_20 rfl ?_
      refine zx_if_eq_t (t := 45) (q := 24) dX7_commonDivisor_21 (by decide) rfl ((lg_cmp_eq _ _).mpr rfl) ?_
      refine zx_lload (q := 47) dX7_commonDivisor_45 rfl rfl ?_
      refine zx_lret dX7_commonDivisor_47 rfl (Nat.le_refl _) (Nat.le_refl _) ⟨_, rfl, ?_⟩
      exact ⟨by rw [Nat.gcd_zero_left], rfl⟩
    · have hne : ¬ lN n = 0 := fun z => hn0 ((z_l0 hn).mp z)
      have hlt : p % n < n := Nat.mod_lt _ (by omega)
      refine zx_iload (q := 11) dX7_commonDivisor_9 rfl rfl ?_
      refine zx_ldcw (q := 14) dX7_commonDivisor_11 kc_RX7_295 rfl ?_
      refine zx_icmp_ge_f (t := 45) (q := 17) dX7_commonDivisor_14 (by decide) rfl (nI_ge (a := i) (b := 1000000) (by omega) (by decide)) ?_
      refine zx_lload (q := 19) dX7_commonDivisor_17 rfl rfl ?_
      refine zx_lconst (q := 20) (v := 0) dX7_commonDivisor_19 (by decide) rfl ?_
      refine zx_lcmp (q := 21) dX7_commonDivisor_20 rfl ?_
      refine zx_if_eq_f (t := 45) (q := 24) dX7_commonDivisor_21 (by decide) rfl (fun z => hne ((lg_cmp_eq _ _).mp z)) ?_
      refine zx_lload (q := 26) dX7_commonDivisor_24 rfl rfl ?_
      refine zx_lload (q := 28) dX7_commonDivisor_26 rfl rfl ?_
      refine zx_lrem (q := 29) dX7_commonDivisor_28 hne rfl ?_
      rw [pk_lRem (by omega) (by omega) (by omega)]
      refine zx_lstore9 (q := 31) dX7_commonDivisor_29 rfl rfl ?_
      refine zx_lload (q := 33) dX7_commonDivisor_31 rfl rfl ?_
      refine zx_lstore4 (q := 35) dX7_commonDivisor_33 rfl rfl ?_
      refine zx_lload (q := 37) dX7_commonDivisor_35 rfl rfl ?_
      refine zx_lstore6 (q := 39) dX7_commonDivisor_37 rfl rfl ?_
      refine zx_iinc8 (q := 42) dX7_commonDivisor_39 rfl rfl ?_
      refine zx_goto (t := 9) dX7_commonDivisor_42 (by decide) ?_
      rw [z_inc, show Nat.gcd n p = Nat.gcd (p % n) n from Nat.gcd_rec n p]
      exact ih (p % n) hlt (i + 1) n _ _ hn (by omega) (by omega)
theorem t_X7_cd (d a b : Nat) (ha : a < 2 ^ 31) (hb : b < 1000000) : zCall l D tc A mX7_commonDivisor d 0 0 [.long (lN a), .long (lN b)] S (zQl fun r S' => r = lN (Nat.gcd b a) ∧ S' = S) := by
  show zW l D tc A mX7_commonDivisor d 0 0 0 0 0 [some (.long (lN a)), none, some (.long (lN b)), none, none, none, none, none, none, none, none] [] S _
  refine zx_lload_n (q := 1) dX7_commonDivisor_0 rfl rfl rfl ?_
  refine zx_lstore4 (q := 3) dX7_commonDivisor_1 rfl rfl ?_
  refine zx_lload_n (q := 4) dX7_commonDivisor_3 rfl rfl rfl ?_
  refine zx_lstore6 (q := 6) dX7_commonDivisor_4 rfl rfl ?_
  refine zx_iconst (q := 7) (v := 0) dX7_commonDivisor_6 (by decide) rfl ?_
  refine zx_istore8 (q := 9) dX7_commonDivisor_7 rfl rfl ?_
  exact lp_X7_cd d (lN a) (lN b) b 0 a none none ha (by omega) (by omega)
theorem lp_X8_dv (d : Nat) (a0 b0 : Int32) : ∀ (n p : Nat) (w5 : Option Value), p < 2 ^ 31 → n < 2 ^ 31 → zW l D tc A mX8_divisor d 0 0 0 0 5 [some (.ref 108), some (.int a0), some (.int b0), some (.int (nI p)), some (.int (nI n)), w5] [] S (zQi fun r S' => r = nI (Nat.gcd n p) ∧ S' = S) := by
  intro n
  induction n using Nat.strongRecOn with
  | _ n ih =>
    intro p w5 hp hn
    by_cases hn0 : n = 0
    · subst hn0
      refine zx_iload (q := 7) dX8_divisor_5 rfl rfl ?_
      refine zx_if_eq_t (t := 26) (q := 10) dX8_divisor_7 (by decide) rfl (rfl) ?_
      refine zx_iload_n (q := 27) dX8_divisor_26 rfl rfl rfl ?_
      refine zx_iret dX8_divisor_27 rfl (Nat.le_refl _) (Nat.le_refl _) ⟨_, rfl, ?_⟩
      exact ⟨by rw [Nat.gcd_zero_left], rfl⟩
    · have hne : ¬ nI n = 0 := nI_ne0 (by omega) hn
      have hlt : p % n < n := Nat.mod_lt _ (by omega)
      refine zx_iload (q := 7) dX8_divisor_5 rfl rfl ?_
      refine zx_if_eq_f (t := 26) (q := 10) dX8_divisor_7 (by decide) rfl (hne) ?_
      refine zx_iload_n (q := 11) dX8_divisor_10 rfl rfl rfl ?_
      refine zx_iload (q := 13) dX8_divisor_11 rfl rfl ?_
      refine zx_irem (q := 14) dX8_divisor_13 hne rfl ?_
      rw [z_rem hp hn]
      refine zx_istore5 (q := 16) dX8_divisor_14 rfl rfl ?_
      refine zx_iload (q := 18) dX8_divisor_16 rfl rfl ?_
      refine zx_istore3 (q := 19) dX8_divisor_18 rfl rfl ?_
      refine zx_iload (q := 21) dX8_divisor_19 rfl rfl ?_
      refine zx_istore4 (q := 23) dX8_divisor_21 rfl rfl ?_
      refine zx_goto (t := 5) dX8_divisor_23 (by decide) ?_
      rw [show Nat.gcd n p = Nat.gcd (p % n) n from Nat.gcd_rec n p]
      exact ih (p % n) hlt n _ hn (by omega)
theorem t_X8_dv (d a b : Nat) (ha : a < 2 ^ 31) (hb : b < 2 ^ 31) : zCall l D tc A mX8_divisor d 0 0 [.ref 108, .int (nI a), .int (nI b)] S (zQi fun r S' => r = nI (Nat.gcd b a) ∧ S' = S) := by
  show zW l D tc A mX8_divisor d 0 0 0 0 0 [some (.ref 108), some (.int (nI a)), some (.int (nI b)), none, none, none] [] S _
  refine zx_iload_n (q := 1) dX8_divisor_0 rfl rfl rfl ?_
  refine zx_istore3 (q := 2) dX8_divisor_1 rfl rfl ?_
  refine zx_iload_n (q := 3) dX8_divisor_2 rfl rfl rfl ?_
  refine zx_istore4 (q := 5) dX8_divisor_3 rfl rfl ?_
  exact lp_X8_dv d (nI a) (nI b) b a none ha hb
theorem t_X8_low (d x n j : Nat) (hx : x < 2 ^ 31) (hn : n < 2 ^ 31) (hn0 : 0 < n) (hj : j ≤ 1) : zCall l D tc A mX8_lowest (d + 1) 0 0 [.ref 108, .int (nI x), .int (nI n), .int (nI j)] (zs gi gl f) (zQl fun r S' => r = lN ((if j = 0 then x else n) / Nat.gcd x n) ∧ S' = zs gi gl f) := by
  have hg : 0 < Nat.gcd n x := Nat.gcd_pos_of_pos_left _ hn0
  have hgl : Nat.gcd n x ≤ n := Nat.gcd_le_left _ hn0
  have hgne : ¬ nI (Nat.gcd n x) = 0 := nI_ne0 hg (by omega)
  show zW l D tc A mX8_lowest (d + 1) 0 0 0 0 0 [some (.ref 108), some (.int (nI x)), some (.int (nI n)), some (.int (nI j)), none] [] (zs gi gl f) _
  refine zx_aload_n (q := 1) dX8_lowest_0 rfl rfl rfl ?_
  refine zx_iload_n (q := 2) dX8_lowest_1 rfl rfl rfl ?_
  refine zx_iload_n (q := 3) dX8_lowest_2 rfl rfl rfl ?_
  refine zx_callV2i (q := 6) (y' := mX8_divisor) dX8_lowest_3 ml_RX8_317 ok_mX8_divisor rfl (by decide) rfl (Nat.le_of_ble_eq_true rfl) (Nat.le_of_ble_eq_true rfl) (Nat.le_refl _) (Nat.le_refl _) rfl (t_X8_dv _ x n hx hn) ?_
  rintro _ _ ⟨rfl, rfl⟩
  refine zx_istore4 (q := 8) dX8_lowest_6 rfl rfl ?_
  refine zx_iload_n (q := 9) dX8_lowest_8 rfl rfl rfl ?_
  refine zx_if_ne (q := 12) (t := 20) dX8_lowest_9 (by decide) rfl (fun c_9 => ?_) (fun c_9 => ?_)
  · have hj0 : ¬ j = 0 := fun z => c_9 (by rw [z]; rfl)
    refine zx_iload_n (q := 21) dX8_lowest_20 rfl rfl rfl ?_
    refine zx_iload (q := 23) dX8_lowest_21 rfl rfl ?_
    refine zx_idiv (q := 24) dX8_lowest_23 hgne rfl ?_
    rw [z_div hn (by omega)]
    refine zx_i2l (q := 25) dX8_lowest_24 rfl ?_
    refine zx_lret dX8_lowest_25 rfl (Nat.le_refl _) (Nat.le_refl _) ⟨_, rfl, ?_⟩
    first
      | exact ⟨by rw [if_pos hj0, nI_l (by have := Nat.div_le_self x (Nat.gcd n x); omega), Nat.gcd_comm], rfl⟩
      | exact ⟨by rw [if_neg hj0, nI_l (by have := Nat.div_le_self n (Nat.gcd n x); omega), Nat.gcd_comm], rfl⟩
  · have hj0 : j = 0 := by rcases Nat.eq_zero_or_pos j with q | q; exact q; exact absurd c_9 (nI_ne0 q (by omega))
    refine zx_iload_n (q := 13) dX8_lowest_12 rfl rfl rfl ?_
    refine zx_iload (q := 15) dX8_lowest_13 rfl rfl ?_
    refine zx_idiv (q := 16) dX8_lowest_15 hgne rfl ?_
    rw [z_div hx (by omega)]
    refine zx_i2l (q := 17) dX8_lowest_16 rfl ?_
    refine zx_goto (t := 25) dX8_lowest_17 (by decide) ?_
    refine zx_lret dX8_lowest_25 rfl (Nat.le_refl _) (Nat.le_refl _) ⟨_, rfl, ?_⟩
    first
      | exact ⟨by rw [if_pos hj0, nI_l (by have := Nat.div_le_self x (Nat.gcd n x); omega), Nat.gcd_comm], rfl⟩
      | exact ⟨by rw [if_neg hj0, nI_l (by have := Nat.div_le_self n (Nat.gcd n x); omega), Nat.gcd_comm], rfl⟩
theorem t_X7_share60z (d s j : Nat) {ns m : Nat} {g : Nat → Nat → Int32} (L : zLK gi ns m) (e : g 1 0 = nI ns) (hA : zCA g ns (z_FT gi ns m)) (hok : z_aok ns (z_FT gi ns m)) (hs : s < ns) (hj : j ≤ 1) (hz : (z_FT gi ns m).1 = 0) : zCall l D tc A mX7_sharePerHerdFound (d + 2) 0 0 [.ref 0, .ref 60, .int (nI s), .int (nI j)] (zs g gl f) (zQl fun r S' => r = z_shr (z_FT gi ns m).1 ((z_FT gi ns m).2.2.2.2.2 s) j ∧ S' = zs g gl f) := by
  have hns := L.hns
  show zW l D tc A mX7_sharePerHerdFound (d + 2) 0 0 0 0 0 [some (.ref 0), some (.ref 60), some (.int (nI s)), some (.int (nI j)), none, none] [] (zs g gl f) _
  refine zx_aload_n (q := 1) dX7_sharePerHerdFound_0 rfl rfl rfl ?_
  refine zx_iload_n (q := 2) dX7_sharePerHerdFound_1 rfl rfl rfl ?_
  refine zx_callV1i (q := 5) (y' := mX7_isSort) dX7_sharePerHerdFound_2 ml_RX7_89 ok_mX7_isSort rfl (by decide) rfl (Nat.le_of_ble_eq_true rfl) (Nat.le_of_ble_eq_true rfl) (Nat.le_refl _) (Nat.le_refl _) rfl (t_X7_isSort _ _) ?_
  rintro _ _ ⟨rfl, rfl⟩
  refine zx_if_eq_f (t := 27) (q := 8) dX7_sharePerHerdFound_5 (by decide) rfl (zk_t (by show z_in (nI s) 0 (g 1 0 - 1) = true; rw [e]; exact z_inS_at L.hns hs)) ?_
  refine zx_iload_n (q := 9) dX7_sharePerHerdFound_8 rfl rfl rfl ?_
  refine zx_iconst (q := 10) (v := 0) dX7_sharePerHerdFound_9 (by decide) rfl ?_
  refine zx_iconst (q := 11) (v := 1) dX7_sharePerHerdFound_10 (by decide) rfl ?_
  refine zx_callS3i (q := 14) (y' := mX7_within) dX7_sharePerHerdFound_11 ml_RX7_73 ok_mX7_within (Nat.le_of_ble_eq_true rfl) (Nat.le_of_ble_eq_true rfl) (Nat.le_refl _) (Nat.le_refl _) rfl (t_X7_within _ _ _ _) ?_
  rintro _ _ ⟨rfl, rfl⟩
  refine zx_if_eq_f (t := 27) (q := 17) dX7_sharePerHerdFound_14 (by decide) rfl (zk_t (by rcases (by omega : j = 0 ∨ j = 1) with q | q <;> subst q <;> decide)) ?_
  refine zx_aload_n (q := 18) dX7_sharePerHerdFound_17 rfl rfl rfl ?_
  refine zy_getR (q := 21) dX7_sharePerHerdFound_18 fl_RX7_51 rfl rfl rfl rfl ?_
  refine zy_getIe (q := 24) (v := nI (z_FT gi ns m).1) dX7_sharePerHerdFound_21 fl_RX7_151 rfl rfl (hA.1) rfl ?_
  refine zx_if_ne_f (t := 31) (q := 27) dX7_sharePerHerdFound_24 (by decide) rfl (by rw [hz]; rfl) ?_
  refine zx_ldc2 (q := 30) dX7_sharePerHerdFound_27 kl_RX7_225 rfl ?_
  refine zx_lret dX7_sharePerHerdFound_30 rfl (Nat.le_refl _) (Nat.le_refl _) ⟨_, rfl, ?_⟩
  exact ⟨by unfold z_shr; rw [if_pos hz], rfl⟩
theorem t_X7_share60n (d s j : Nat) {ns m : Nat} {g : Nat → Nat → Int32} (L : zLK gi ns m) (e : g 1 0 = nI ns) (hA : zCA g ns (z_FT gi ns m)) (hok : z_aok ns (z_FT gi ns m)) (hs : s < ns) (hj : j ≤ 1) (hz : ¬ (z_FT gi ns m).1 = 0) : zCall l D tc A mX7_sharePerHerdFound (d + 2) 0 0 [.ref 0, .ref 60, .int (nI s), .int (nI j)] (zs g gl f) (zQl fun r S' => r = z_shr (z_FT gi ns m).1 ((z_FT gi ns m).2.2.2.2.2 s) j ∧ S' = zs g gl f) := by
  have hns := L.hns
  show zW l D tc A mX7_sharePerHerdFound (d + 2) 0 0 0 0 0 [some (.ref 0), some (.ref 60), some (.int (nI s)), some (.int (nI j)), none, none] [] (zs g gl f) _
  refine zx_aload_n (q := 1) dX7_sharePerHerdFound_0 rfl rfl rfl ?_
  refine zx_iload_n (q := 2) dX7_sharePerHerdFound_1 rfl rfl rfl ?_
  refine zx_callV1i (q := 5) (y' := mX7_isSort) dX7_sharePerHerdFound_2 ml_RX7_89 ok_mX7_isSort rfl (by decide) rfl (Nat.le_of_ble_eq_true rfl) (Nat.le_of_ble_eq_true rfl) (Nat.le_refl _) (Nat.le_refl _) rfl (t_X7_isSort _ _) ?_
  rintro _ _ ⟨rfl, rfl⟩
  refine zx_if_eq_f (t := 27) (q := 8) dX7_sharePerHerdFound_5 (by decide) rfl (zk_t (by show z_in (nI s) 0 (g 1 0 - 1) = true; rw [e]; exact z_inS_at L.hns hs)) ?_
  refine zx_iload_n (q := 9) dX7_sharePerHerdFound_8 rfl rfl rfl ?_
  refine zx_iconst (q := 10) (v := 0) dX7_sharePerHerdFound_9 (by decide) rfl ?_
  refine zx_iconst (q := 11) (v := 1) dX7_sharePerHerdFound_10 (by decide) rfl ?_
  refine zx_callS3i (q := 14) (y' := mX7_within) dX7_sharePerHerdFound_11 ml_RX7_73 ok_mX7_within (Nat.le_of_ble_eq_true rfl) (Nat.le_of_ble_eq_true rfl) (Nat.le_refl _) (Nat.le_refl _) rfl (t_X7_within _ _ _ _) ?_
  rintro _ _ ⟨rfl, rfl⟩
  refine zx_if_eq_f (t := 27) (q := 17) dX7_sharePerHerdFound_14 (by decide) rfl (zk_t (by rcases (by omega : j = 0 ∨ j = 1) with q | q <;> subst q <;> decide)) ?_
  refine zx_aload_n (q := 18) dX7_sharePerHerdFound_17 rfl rfl rfl ?_
  refine zy_getR (q := 21) dX7_sharePerHerdFound_18 fl_RX7_51 rfl rfl rfl rfl ?_
  refine zy_getIe (q := 24) (v := nI (z_FT gi ns m).1) dX7_sharePerHerdFound_21 fl_RX7_151 rfl rfl (hA.1) rfl ?_
  refine zx_if_ne_t (t := 31) (q := 27) dX7_sharePerHerdFound_24 (by decide) rfl (z_n0 hok.2.1 hz) ?_
  refine zx_aload_n (q := 32) dX7_sharePerHerdFound_31 rfl rfl rfl ?_
  refine zy_getR (q := 35) dX7_sharePerHerdFound_32 fl_RX7_51 rfl rfl rfl rfl ?_
  refine zy_getIe (q := 38) (v := nI (z_FT gi ns m).1) dX7_sharePerHerdFound_35 fl_RX7_151 rfl rfl (hA.1) rfl ?_
  refine zx_i2l (q := 39) dX7_sharePerHerdFound_38 rfl ?_
  refine zx_aload_n (q := 40) dX7_sharePerHerdFound_39 rfl rfl rfl ?_
  refine zx_iload_n (q := 41) dX7_sharePerHerdFound_40 rfl rfl rfl ?_
  refine zy_ialdN (q := 42) dX7_sharePerHerdFound_41 rfl (by omega) (by first | decide | omega) rfl ?_
  rw [hA.2.2.2.2.2 s hs]
  have hSb : (z_FT gi ns m).2.2.2.2.2 s < 1000000 := by have := hok.2.2.2.2.2 s hs; have := hok.2.1; omega
  rw [nI_l (n := (z_FT gi ns m).1) (by have := hok.2.1; omega)]
  refine zx_i2l (q := 43) dX7_sharePerHerdFound_42 rfl ?_
  rw [nI_l (by omega)]
  refine zx_callS2l (q := 46) (y' := mX7_commonDivisor) dX7_sharePerHerdFound_43 ml_RX7_167 ok_mX7_commonDivisor (Nat.le_of_ble_eq_true rfl) (Nat.le_of_ble_eq_true rfl) (Nat.le_refl _) (Nat.le_refl _) rfl (t_X7_cd _ (z_FT gi ns m).1 _ (by have := hok.2.1; omega) hSb) ?_
  rintro _ _ ⟨rfl, rfl⟩
  refine zx_lstore4 (q := 48) dX7_sharePerHerdFound_46 rfl rfl ?_
  refine zx_lload (q := 50) dX7_sharePerHerdFound_48 rfl rfl ?_
  refine zx_lconst (q := 51) (v := 0) dX7_sharePerHerdFound_50 (by decide) rfl ?_
  refine zx_lcmp (q := 52) dX7_sharePerHerdFound_51 rfl ?_
  have hgp : 0 < Nat.gcd ((z_FT gi ns m).2.2.2.2.2 s) (z_FT gi ns m).1 := Nat.gcd_pos_of_pos_right _ (Nat.pos_of_ne_zero hz)
  have hgl : Nat.gcd ((z_FT gi ns m).2.2.2.2.2 s) (z_FT gi ns m).1 ≤ (z_FT gi ns m).1 := Nat.gcd_le_right _ (Nat.pos_of_ne_zero hz)
  have hq1 := hok.2.1
  refine zx_if_gt_t (t := 59) (q := 55) dX7_sharePerHerdFound_52 (by decide) rfl ((lg_cmp_gt _ _).mpr ((pk_lLT (a := 0) (by omega) (by omega)).mpr hgp)) ?_
  refine zx_iload_n (q := 60) dX7_sharePerHerdFound_59 rfl rfl rfl ?_
  refine zx_if_ne (q := 63) (t := 69) dX7_sharePerHerdFound_60 (by decide) rfl (fun c_60 => ?_) (fun c_60 => ?_)
  · have hj0 : ¬ j = 0 := fun z => c_60 (by rw [z]; rfl)
    refine zx_aload_n (q := 70) dX7_sharePerHerdFound_69 rfl rfl rfl ?_
    refine zy_getR (q := 73) dX7_sharePerHerdFound_70 fl_RX7_51 rfl rfl rfl rfl ?_
    refine zy_getIe (q := 76) (v := nI (z_FT gi ns m).1) dX7_sharePerHerdFound_73 fl_RX7_151 rfl rfl (hA.1) rfl ?_
    first
      | rw [hA.2.2.2.2.2 s hs]
      | skip
    refine zx_i2l (q := 77) dX7_sharePerHerdFound_76 rfl ?_
    rw [nI_l (by omega)]
    refine zx_lload (q := 79) dX7_sharePerHerdFound_77 rfl rfl ?_
    refine zx_ldiv (q := 80) dX7_sharePerHerdFound_79 (fun z => absurd ((z_l0 (by omega)).mp z) (by omega)) rfl ?_
    rw [pk_lDiv (by omega) hgp (by omega)]
    refine zx_lret dX7_sharePerHerdFound_80 rfl (Nat.le_refl _) (Nat.le_refl _) ⟨_, rfl, ?_⟩
    first
      | exact ⟨by unfold z_shr; rw [if_neg hz, if_pos hj0], rfl⟩
      | exact ⟨by unfold z_shr; rw [if_neg hz, if_neg hj0], rfl⟩
  · have hj0 : j = 0 := by rcases Nat.eq_zero_or_pos j with q | q; exact q; exact absurd c_60 (nI_ne0 q (by omega))
    refine zx_aload_n (q := 64) dX7_sharePerHerdFound_63 rfl rfl rfl ?_
    refine zx_iload_n (q := 65) dX7_sharePerHerdFound_64 rfl rfl rfl ?_
    refine zy_ialdN (q := 66) dX7_sharePerHerdFound_65 rfl (by omega) (by first | decide | omega) rfl ?_
    refine zx_goto (t := 76) dX7_sharePerHerdFound_66 (by decide) ?_
    first
      | rw [hA.2.2.2.2.2 s hs]
      | skip
    refine zx_i2l (q := 77) dX7_sharePerHerdFound_76 rfl ?_
    rw [nI_l (by omega)]
    refine zx_lload (q := 79) dX7_sharePerHerdFound_77 rfl rfl ?_
    refine zx_ldiv (q := 80) dX7_sharePerHerdFound_79 (fun z => absurd ((z_l0 (by omega)).mp z) (by omega)) rfl ?_
    rw [pk_lDiv (by omega) hgp (by omega)]
    refine zx_lret dX7_sharePerHerdFound_80 rfl (Nat.le_refl _) (Nat.le_refl _) ⟨_, rfl, ?_⟩
    first
      | exact ⟨by unfold z_shr; rw [if_neg hz, if_pos hj0], rfl⟩
      | exact ⟨by unfold z_shr; rw [if_neg hz, if_neg hj0], rfl⟩
theorem t_X7_share60 (d s j : Nat) {ns m : Nat} {g : Nat → Nat → Int32} (L : zLK gi ns m) (e : g 1 0 = nI ns) (hA : zCA g ns (z_FT gi ns m)) (hok : z_aok ns (z_FT gi ns m)) (hs : s < ns) (hj : j ≤ 1) : zCall l D tc A mX7_sharePerHerdFound (d + 2) 0 0 [.ref 0, .ref 60, .int (nI s), .int (nI j)] (zs g gl f) (zQl fun r S' => r = z_shr (z_FT gi ns m).1 ((z_FT gi ns m).2.2.2.2.2 s) j ∧ S' = zs g gl f) := by
  by_cases hz : (z_FT gi ns m).1 = 0
  · exact t_X7_share60z d s j L e hA hok hs hj hz
  · exact t_X7_share60n d s j L e hA hok hs hj hz
theorem t_X7_share61z (d s j : Nat) {ns m : Nat} {g : Nat → Nat → Int32} (L : zLK gi ns m) (e : g 1 0 = nI ns) (hA : zCA g ns (z_FT gi ns m)) (hok : z_aok ns (z_FT gi ns m)) (hs : s < ns) (hj : j ≤ 1) (hz : (z_FT gi ns m).1 = 0) : zCall l D tc A mX7_sharePerHerdFound (d + 2) 0 0 [.ref 0, .ref 61, .int (nI s), .int (nI j)] (zs g gl f) (zQl fun r S' => r = z_shr (z_FT gi ns m).1 ((z_FT gi ns m).2.2.2.2.1 s) j ∧ S' = zs g gl f) := by
  have hns := L.hns
  show zW l D tc A mX7_sharePerHerdFound (d + 2) 0 0 0 0 0 [some (.ref 0), some (.ref 61), some (.int (nI s)), some (.int (nI j)), none, none] [] (zs g gl f) _
  refine zx_aload_n (q := 1) dX7_sharePerHerdFound_0 rfl rfl rfl ?_
  refine zx_iload_n (q := 2) dX7_sharePerHerdFound_1 rfl rfl rfl ?_
  refine zx_callV1i (q := 5) (y' := mX7_isSort) dX7_sharePerHerdFound_2 ml_RX7_89 ok_mX7_isSort rfl (by decide) rfl (Nat.le_of_ble_eq_true rfl) (Nat.le_of_ble_eq_true rfl) (Nat.le_refl _) (Nat.le_refl _) rfl (t_X7_isSort _ _) ?_
  rintro _ _ ⟨rfl, rfl⟩
  refine zx_if_eq_f (t := 27) (q := 8) dX7_sharePerHerdFound_5 (by decide) rfl (zk_t (by show z_in (nI s) 0 (g 1 0 - 1) = true; rw [e]; exact z_inS_at L.hns hs)) ?_
  refine zx_iload_n (q := 9) dX7_sharePerHerdFound_8 rfl rfl rfl ?_
  refine zx_iconst (q := 10) (v := 0) dX7_sharePerHerdFound_9 (by decide) rfl ?_
  refine zx_iconst (q := 11) (v := 1) dX7_sharePerHerdFound_10 (by decide) rfl ?_
  refine zx_callS3i (q := 14) (y' := mX7_within) dX7_sharePerHerdFound_11 ml_RX7_73 ok_mX7_within (Nat.le_of_ble_eq_true rfl) (Nat.le_of_ble_eq_true rfl) (Nat.le_refl _) (Nat.le_refl _) rfl (t_X7_within _ _ _ _) ?_
  rintro _ _ ⟨rfl, rfl⟩
  refine zx_if_eq_f (t := 27) (q := 17) dX7_sharePerHerdFound_14 (by decide) rfl (zk_t (by rcases (by omega : j = 0 ∨ j = 1) with q | q <;> subst q <;> decide)) ?_
  refine zx_aload_n (q := 18) dX7_sharePerHerdFound_17 rfl rfl rfl ?_
  refine zy_getR (q := 21) dX7_sharePerHerdFound_18 fl_RX7_51 rfl rfl rfl rfl ?_
  refine zy_getIe (q := 24) (v := nI (z_FT gi ns m).1) dX7_sharePerHerdFound_21 fl_RX7_151 rfl rfl (hA.1) rfl ?_
  refine zx_if_ne_f (t := 31) (q := 27) dX7_sharePerHerdFound_24 (by decide) rfl (by rw [hz]; rfl) ?_
  refine zx_ldc2 (q := 30) dX7_sharePerHerdFound_27 kl_RX7_225 rfl ?_
  refine zx_lret dX7_sharePerHerdFound_30 rfl (Nat.le_refl _) (Nat.le_refl _) ⟨_, rfl, ?_⟩
  exact ⟨by unfold z_shr; rw [if_pos hz], rfl⟩
theorem t_X7_share61n (d s j : Nat) {ns m : Nat} {g : Nat → Nat → Int32} (L : zLK gi ns m) (e : g 1 0 = nI ns) (hA : zCA g ns (z_FT gi ns m)) (hok : z_aok ns (z_FT gi ns m)) (hs : s < ns) (hj : j ≤ 1) (hz : ¬ (z_FT gi ns m).1 = 0) : zCall l D tc A mX7_sharePerHerdFound (d + 2) 0 0 [.ref 0, .ref 61, .int (nI s), .int (nI j)] (zs g gl f) (zQl fun r S' => r = z_shr (z_FT gi ns m).1 ((z_FT gi ns m).2.2.2.2.1 s) j ∧ S' = zs g gl f) := by
  have hns := L.hns
  show zW l D tc A mX7_sharePerHerdFound (d + 2) 0 0 0 0 0 [some (.ref 0), some (.ref 61), some (.int (nI s)), some (.int (nI j)), none, none] [] (zs g gl f) _
  refine zx_aload_n (q := 1) dX7_sharePerHerdFound_0 rfl rfl rfl ?_
  refine zx_iload_n (q := 2) dX7_sharePerHerdFound_1 rfl rfl rfl ?_
  refine zx_callV1i (q := 5) (y' := mX7_isSort) dX7_sharePerHerdFound_2 ml_RX7_89 ok_mX7_isSort rfl (by decide) rfl (Nat.le_of_ble_eq_true rfl) (Nat.le_of_ble_eq_true rfl) (Nat.le_refl _) (Nat.le_refl _) rfl (t_X7_isSort _ _) ?_
  rintro _ _ ⟨rfl, rfl⟩
  refine zx_if_eq_f (t := 27) (q := 8) dX7_sharePerHerdFound_5 (by decide) rfl (zk_t (by show z_in (nI s) 0 (g 1 0 - 1) = true; rw [e]; exact z_inS_at L.hns hs)) ?_
  refine zx_iload_n (q := 9) dX7_sharePerHerdFound_8 rfl rfl rfl ?_
  refine zx_iconst (q := 10) (v := 0) dX7_sharePerHerdFound_9 (by decide) rfl ?_
  refine zx_iconst (q := 11) (v := 1) dX7_sharePerHerdFound_10 (by decide) rfl ?_
  refine zx_callS3i (q := 14) (y' := mX7_within) dX7_sharePerHerdFound_11 ml_RX7_73 ok_mX7_within (Nat.le_of_ble_eq_true rfl) (Nat.le_of_ble_eq_true rfl) (Nat.le_refl _) (Nat.le_refl _) rfl (t_X7_within _ _ _ _) ?_
  rintro _ _ ⟨rfl, rfl⟩
  refine zx_if_eq_f (t := 27) (q := 17) dX7_sharePerHerdFound_14 (by decide) rfl (zk_t (by rcases (by omega : j = 0 ∨ j = 1) with q | q <;> subst q <;> decide)) ?_
  refine zx_aload_n (q := 18) dX7_sharePerHerdFound_17 rfl rfl rfl ?_
  refine zy_getR (q := 21) dX7_sharePerHerdFound_18 fl_RX7_51 rfl rfl rfl rfl ?_
  refine zy_getIe (q := 24) (v := nI (z_FT gi ns m).1) dX7_sharePerHerdFound_21 fl_RX7_151 rfl rfl (hA.1) rfl ?_
  refine zx_if_ne_t (t := 31) (q := 27) dX7_sharePerHerdFound_24 (by decide) rfl (z_n0 hok.2.1 hz) ?_
  refine zx_aload_n (q := 32) dX7_sharePerHerdFound_31 rfl rfl rfl ?_
  refine zy_getR (q := 35) dX7_sharePerHerdFound_32 fl_RX7_51 rfl rfl rfl rfl ?_
  refine zy_getIe (q := 38) (v := nI (z_FT gi ns m).1) dX7_sharePerHerdFound_35 fl_RX7_151 rfl rfl (hA.1) rfl ?_
  refine zx_i2l (q := 39) dX7_sharePerHerdFound_38 rfl ?_
  refine zx_aload_n (q := 40) dX7_sharePerHerdFound_39 rfl rfl rfl ?_
  refine zx_iload_n (q := 41) dX7_sharePerHerdFound_40 rfl rfl rfl ?_
  refine zy_ialdN (q := 42) dX7_sharePerHerdFound_41 rfl (by omega) (by first | decide | omega) rfl ?_
  rw [hA.2.2.2.2.1 s hs]
  have hSb : (z_FT gi ns m).2.2.2.2.1 s < 1000000 := by have := hok.2.2.2.2.1 s hs; have := hok.2.1; omega
  rw [nI_l (n := (z_FT gi ns m).1) (by have := hok.2.1; omega)]
  refine zx_i2l (q := 43) dX7_sharePerHerdFound_42 rfl ?_
  rw [nI_l (by omega)]
  refine zx_callS2l (q := 46) (y' := mX7_commonDivisor) dX7_sharePerHerdFound_43 ml_RX7_167 ok_mX7_commonDivisor (Nat.le_of_ble_eq_true rfl) (Nat.le_of_ble_eq_true rfl) (Nat.le_refl _) (Nat.le_refl _) rfl (t_X7_cd _ (z_FT gi ns m).1 _ (by have := hok.2.1; omega) hSb) ?_
  rintro _ _ ⟨rfl, rfl⟩
  refine zx_lstore4 (q := 48) dX7_sharePerHerdFound_46 rfl rfl ?_
  refine zx_lload (q := 50) dX7_sharePerHerdFound_48 rfl rfl ?_
  refine zx_lconst (q := 51) (v := 0) dX7_sharePerHerdFound_50 (by decide) rfl ?_
  refine zx_lcmp (q := 52) dX7_sharePerHerdFound_51 rfl ?_
  have hgp : 0 < Nat.gcd ((z_FT gi ns m).2.2.2.2.1 s) (z_FT gi ns m).1 := Nat.gcd_pos_of_pos_right _ (Nat.pos_of_ne_zero hz)
  have hgl : Nat.gcd ((z_FT gi ns m).2.2.2.2.1 s) (z_FT gi ns m).1 ≤ (z_FT gi ns m).1 := Nat.gcd_le_right _ (Nat.pos_of_ne_zero hz)
  have hq1 := hok.2.1
  refine zx_if_gt_t (t := 59) (q := 55) dX7_sharePerHerdFound_52 (by decide) rfl ((lg_cmp_gt _ _).mpr ((pk_lLT (a := 0) (by omega) (by omega)).mpr hgp)) ?_
  refine zx_iload_n (q := 60) dX7_sharePerHerdFound_59 rfl rfl rfl ?_
  refine zx_if_ne (q := 63) (t := 69) dX7_sharePerHerdFound_60 (by decide) rfl (fun c_60 => ?_) (fun c_60 => ?_)
  · have hj0 : ¬ j = 0 := fun z => c_60 (by rw [z]; rfl)
    refine zx_aload_n (q := 70) dX7_sharePerHerdFound_69 rfl rfl rfl ?_
    refine zy_getR (q := 73) dX7_sharePerHerdFound_70 fl_RX7_51 rfl rfl rfl rfl ?_
    refine zy_getIe (q := 76) (v := nI (z_FT gi ns m).1) dX7_sharePerHerdFound_73 fl_RX7_151 rfl rfl (hA.1) rfl ?_
    first
      | rw [hA.2.2.2.2.1 s hs]
      | skip
    refine zx_i2l (q := 77) dX7_sharePerHerdFound_76 rfl ?_
    rw [nI_l (by omega)]
    refine zx_lload (q := 79) dX7_sharePerHerdFound_77 rfl rfl ?_
    refine zx_ldiv (q := 80) dX7_sharePerHerdFound_79 (fun z => absurd ((z_l0 (by omega)).mp z) (by omega)) rfl ?_
    rw [pk_lDiv (by omega) hgp (by omega)]
    refine zx_lret dX7_sharePerHerdFound_80 rfl (Nat.le_refl _) (Nat.le_refl _) ⟨_, rfl, ?_⟩
    first
      | exact ⟨by unfold z_shr; rw [if_neg hz, if_pos hj0], rfl⟩
      | exact ⟨by unfold z_shr; rw [if_neg hz, if_neg hj0], rfl⟩
  · have hj0 : j = 0 := by rcases Nat.eq_zero_or_pos j with q | q; exact q; exact absurd c_60 (nI_ne0 q (by omega))
    refine zx_aload_n (q := 64) dX7_sharePerHerdFound_63 rfl rfl rfl ?_
    refine zx_iload_n (q := 65) dX7_sharePerHerdFound_64 rfl rfl rfl ?_
    refine zy_ialdN (q := 66) dX7_sharePerHerdFound_65 rfl (by omega) (by first | decide | omega) rfl ?_
    refine zx_goto (t := 76) dX7_sharePerHerdFound_66 (by decide) ?_
    first
      | rw [hA.2.2.2.2.1 s hs]
      | skip
    refine zx_i2l (q := 77) dX7_sharePerHerdFound_76 rfl ?_
    rw [nI_l (by omega)]
    refine zx_lload (q := 79) dX7_sharePerHerdFound_77 rfl rfl ?_
    refine zx_ldiv (q := 80) dX7_sharePerHerdFound_79 (fun z => absurd ((z_l0 (by omega)).mp z) (by omega)) rfl ?_
    rw [pk_lDiv (by omega) hgp (by omega)]
    refine zx_lret dX7_sharePerHerdFound_80 rfl (Nat.le_refl _) (Nat.le_refl _) ⟨_, rfl, ?_⟩
    first
      | exact ⟨by unfold z_shr; rw [if_neg hz, if_pos hj0], rfl⟩
      | exact ⟨by unfold z_shr; rw [if_neg hz, if_neg hj0], rfl⟩
theorem t_X7_share61 (d s j : Nat) {ns m : Nat} {g : Nat → Nat → Int32} (L : zLK gi ns m) (e : g 1 0 = nI ns) (hA : zCA g ns (z_FT gi ns m)) (hok : z_aok ns (z_FT gi ns m)) (hs : s < ns) (hj : j ≤ 1) : zCall l D tc A mX7_sharePerHerdFound (d + 2) 0 0 [.ref 0, .ref 61, .int (nI s), .int (nI j)] (zs g gl f) (zQl fun r S' => r = z_shr (z_FT gi ns m).1 ((z_FT gi ns m).2.2.2.2.1 s) j ∧ S' = zs g gl f) := by
  by_cases hz : (z_FT gi ns m).1 = 0
  · exact t_X7_share61z d s j L e hA hok hs hj hz
  · exact t_X7_share61n d s j L e hA hok hs hj hz
theorem t_X7_shareX (d r : Nat) (a b : Int32) {ns m : Nat} {g : Nat → Nat → Int32} (L : zLK gi ns m) (e : g 1 0 = nI ns) (h : ¬ (z_in a 0 (nI ns - 1) = true ∧ z_in b 0 1 = true)) : zCall l D tc A mX7_sharePerHerdFound (d + 2) 0 0 [.ref 0, .ref r, .int a, .int b] (zs g gl f) (zQl fun r S' => r = -9223372036854775808 ∧ S' = zs g gl f) := by
  show zW l D tc A mX7_sharePerHerdFound (d + 2) 0 0 0 0 0 [some (.ref 0), some (.ref r), some (.int a), some (.int b), none, none] [] (zs g gl f) _
  refine zx_aload_n (q := 1) dX7_sharePerHerdFound_0 rfl rfl rfl ?_
  refine zx_iload_n (q := 2) dX7_sharePerHerdFound_1 rfl rfl rfl ?_
  refine zx_callV1i (q := 5) (y' := mX7_isSort) dX7_sharePerHerdFound_2 ml_RX7_89 ok_mX7_isSort rfl (by decide) rfl (Nat.le_of_ble_eq_true rfl) (Nat.le_of_ble_eq_true rfl) (Nat.le_refl _) (Nat.le_refl _) rfl (t_X7_isSort _ _) ?_
  rintro _ _ ⟨rfl, rfl⟩
  refine zx_if_eq (q := 8) (t := 27) dX7_sharePerHerdFound_5 (by decide) rfl (fun c_5 => ?_) (fun c_5 => ?_)
  · refine zx_ldc2 (q := 30) dX7_sharePerHerdFound_27 kl_RX7_225 rfl ?_
    refine zx_lret dX7_sharePerHerdFound_30 rfl (Nat.le_refl _) (Nat.le_refl _) ⟨_, rfl, ?_⟩
    exact ⟨rfl, rfl⟩
  · have h1 : z_in a 0 (nI ns - 1) = true := by rw [zb_nz] at c_5; rw [← e]; exact c_5
    refine zx_iload_n (q := 9) dX7_sharePerHerdFound_8 rfl rfl rfl ?_
    refine zx_iconst (q := 10) (v := 0) dX7_sharePerHerdFound_9 (by decide) rfl ?_
    refine zx_iconst (q := 11) (v := 1) dX7_sharePerHerdFound_10 (by decide) rfl ?_
    refine zx_callS3i (q := 14) (y' := mX7_within) dX7_sharePerHerdFound_11 ml_RX7_73 ok_mX7_within (Nat.le_of_ble_eq_true rfl) (Nat.le_of_ble_eq_true rfl) (Nat.le_refl _) (Nat.le_refl _) rfl (t_X7_within _ _ _ _) ?_
    rintro _ _ ⟨rfl, rfl⟩
    refine zx_if_eq_t (t := 27) (q := 17) dX7_sharePerHerdFound_14 (by decide) rfl (zk_f (fun z => h ⟨h1, z⟩)) ?_
    refine zx_ldc2 (q := 30) dX7_sharePerHerdFound_27 kl_RX7_225 rfl ?_
    refine zx_lret dX7_sharePerHerdFound_30 rfl (Nat.le_refl _) (Nat.le_refl _) ⟨_, rfl, ?_⟩
    exact ⟨rfl, rfl⟩
theorem z_fd_aok {M ns : Nat} {w : Nat → Option Nat} {sh : Nat → Nat → Nat} {ow : Nat → Nat} (hns : ns ≤ 5) (hM : M ≤ 18) (how : ∀ s, s < ns → ow s ≤ 1089) : z_aok ns (z_fd M ns w sh ow (fun _ => 0) 0 z_A0) := by
  have key : ∀ (n : Nat) (r : Nat → Nat) (b : Nat) (a : z_A), z_rk ns M r ns = n → b = z_sN ns r → b ≤ M → a.1 + n + 1 ≤ 40000 → z_aok ns a → z_aok ns (z_fd M ns w sh ow r b a) := by
    intro n
    induction n using Nat.strongRecOn with
    | _ n ih =>
      intro r b a hn hb hbM hc ha
      have h2 : z_aok ns (if z_fit w (z_cn ns sh r) = true then z_kp (z_tn ns ow) r a else a) ∧ (if z_fit w (z_cn ns sh r) = true then z_kp (z_tn ns ow) r a else a).1 ≤ a.1 + 1 := by
        split
        · exact ⟨z_aok_kp ha (by omega) (Nat.le_trans (z_tn_le (M := 18) (B := 1089) (by omega) how) (by decide)) (fun s hs => by have := z_sN_ge (r := r) ns s hs; omega), Nat.le_refl _⟩
        · exact ⟨ha, by omega⟩
      cases hx : z_nx M ns r b with
      | none => rw [show z_fd M ns w sh ow r b a = _ from z_go_none hx]; exact h2.1
      | some q =>
        obtain ⟨j1, j2, j3⟩ := z_nx_dn (r' := q.1) (b' := q.2) hx hb hbM
        rw [show z_fd M ns w sh ow r b a = _ from z_go_some (r' := q.1) (b' := q.2) hx hb hbM]
        exact ih (z_rk ns M q.1 ns) (by omega) q.1 q.2 _ rfl j1 j2 (by have := h2.2; omega) h2.1
  have hk := z_rk_first hns hM
  exact key _ _ 0 z_A0 rfl (z_sN_0 ns).symm (Nat.zero_le _) (by show 0 + _ + 1 ≤ 40000; omega) (z_aok0 ns)
theorem z_FT_ok {ns m : Nat} (L : zLK gi ns m) : z_aok ns (z_FT gi ns m) := z_fd_aok L.hns (by have := z_most_le gi; omega) (fun s hs => z_ow_le L hs)
set_option maxHeartbeats 4000000 in
theorem op_mean (d : Nat) (a : Int32) (b : Int32) (hR : zRel gi gl) : zOpL l D tc A mX7_mean mX8_mean (d + 7) [.int a, .int b] gi gl f := by
  obtain ⟨ns, m, L⟩ := zLK_of hR
  have hns := L.hns
  by_cases hgood : z_in a 0 (nI ns - 1) = true ∧ z_in b 0 1 = true
  · obtain ⟨s, hs, rfl⟩ := z_inU hns hgood.1
    obtain ⟨j, hj, rfl⟩ := z_inT 1 (by decide) hgood.2
    by_cases hz : (z_FT gi ns m).1 = 0
    · have hok : z_aok ns (z_FT gi ns m) := z_FT_ok L
      have hSb : (z_FT gi ns m).2.2.2.2.1 s < 1000000 := by have := hok.2.2.2.2.1 s hs; have := hok.2.1; omega
      show zW l D tc A mX7_mean (d + 7) 0 0 0 0 0 [some (.ref 0), some (.int (nI s)), some (.int (nI j))] [] (zs gi gl f) _
      refine zx_aload_n (q := 1) dX7_mean_0 rfl rfl rfl ?_
      refine zx_callV0v (q := 4) (y' := mX7_searchFitting) dX7_mean_1 ml_RX7_148 ok_mX7_searchFitting rfl (by decide) rfl (Nat.le_of_ble_eq_true rfl) (Nat.le_of_ble_eq_true rfl) (Nat.le_refl _) (Nat.le_refl _) rfl (t_X7_sF _ L) ?_
      rintro _ ⟨g2, rfl, hA, _, e2⟩
      have hn7 : g2 1 0 = nI ns := (e2 _ _ (by omega)).trans L.hs1
      have hn8 : g2 108 0 = nI ns := (e2 _ _ (by omega)).trans L.hs2
      refine zx_aload_n (q := 5) dX7_mean_4 rfl rfl rfl ?_
      refine zx_aload_n (q := 6) dX7_mean_5 rfl rfl rfl ?_
      refine zy_getR (q := 9) dX7_mean_6 fl_RX7_51 rfl rfl rfl rfl ?_
      refine zy_getR (q := 12) dX7_mean_9 fl_RX7_222 rfl rfl rfl rfl ?_
      refine zx_iload_n (q := 13) dX7_mean_12 rfl rfl rfl ?_
      refine zx_iload_n (q := 14) dX7_mean_13 rfl rfl rfl ?_
      refine zx_callV3l (q := 17) (y' := mX7_sharePerHerdFound) dX7_mean_14 ml_RX7_218 ok_mX7_sharePerHerdFound rfl (by decide) rfl (Nat.le_of_ble_eq_true rfl) (Nat.le_of_ble_eq_true rfl) (Nat.le_refl _) (Nat.le_refl _) rfl (t_X7_share61 _ s j L hn7 hA hok hs hj) ?_
      rintro _ _ ⟨rfl, rfl⟩
      refine zx_lret dX7_mean_17 rfl (Nat.le_refl _) (Nat.le_refl _) ⟨_, rfl, ?_⟩
      refine ⟨_, _, _, rfl, ?_⟩
      show zW l D tc A mX8_mean (d + 7) 0 0 0 0 0 [some (.ref 108), some (.int (nI s)), some (.int (nI j))] [] (zs _ _ _) _
      refine zx_aload_n (q := 1) dX8_mean_0 rfl rfl rfl ?_
      refine zx_iload_n (q := 2) dX8_mean_1 rfl rfl rfl ?_
      refine zx_callV1i (q := 5) (y' := mX8_isSort) dX8_mean_2 ml_RX8_208 ok_mX8_isSort rfl (by decide) rfl (Nat.le_of_ble_eq_true rfl) (Nat.le_of_ble_eq_true rfl) (Nat.le_refl _) (Nat.le_refl _) rfl (t_X8_isSort _ _) ?_
      rintro _ _ ⟨rfl, rfl⟩
      refine zx_if_eq_f (t := 18) (q := 8) dX8_mean_5 (by decide) rfl (zk_t (by show z_in (nI s) 0 (_ - 1) = true; rw [hn8]; exact z_inS_at L.hns hs)) ?_
      refine zx_aload_n (q := 9) dX8_mean_8 rfl rfl rfl ?_
      refine zx_iload_n (q := 10) dX8_mean_9 rfl rfl rfl ?_
      refine zx_iconst (q := 11) (v := 0) dX8_mean_10 (by decide) rfl ?_
      refine zx_iconst (q := 12) (v := 1) dX8_mean_11 (by decide) rfl ?_
      refine zx_callV3i (q := 15) (y' := mX8_in) dX8_mean_12 ml_RX8_200 ok_mX8_in rfl (by decide) rfl (Nat.le_of_ble_eq_true rfl) (Nat.le_of_ble_eq_true rfl) (Nat.le_refl _) (Nat.le_refl _) rfl (t_X8_in _ _ _ _ _) ?_
      rintro _ _ ⟨rfl, rfl⟩
      refine zx_if_ne_t (t := 22) (q := 18) dX8_mean_15 (by decide) rfl (zk_t (by rcases (by omega : j = 0 ∨ j = 1) with q | q <;> subst q <;> decide)) ?_
      refine zx_aload_n (q := 23) dX8_mean_22 rfl rfl rfl ?_
      refine zx_callV0v (q := 26) (y' := mX8_layFits) dX8_mean_23 ml_RX8_314 ok_mX8_layFits rfl (by decide) rfl (Nat.le_of_ble_eq_true rfl) (Nat.le_of_ble_eq_true rfl) (Nat.le_refl _) (Nat.le_refl _) rfl (t_X8_layFits _ L (fun k j a b => e2 k j (by unfold z_scr at a; omega)) (w := z_tw gi) (fun h hh => ⟨by rw [e2 _ _ (by omega)]; exact (z_tw_ok L.hT hh).2.1, fun v hv => by have := (z_tw_ok L.hT hh).2.2 v hv; omega⟩)) ?_
      rintro _ ⟨g3, rfl, hB, h3, e3⟩
      have hB : zMA g3 (z_FT gi ns m) := hB
      refine zx_aload_n (q := 27) dX8_mean_26 rfl rfl rfl ?_
      refine zy_getIe (q := 30) (v := nI (z_FT gi ns m).1) dX8_mean_27 fl_RX8_114 rfl rfl (hB.1) rfl ?_
      refine zx_if_ne_f (t := 39) (q := 33) dX8_mean_30 (by decide) rfl (by rw [hz]; rfl) ?_
      refine zx_ldc2 (q := 36) dX8_mean_33 kl_RX8_336 rfl ?_
      refine zx_goto (t := 54) dX8_mean_36 (by decide) ?_
      refine zx_lret dX8_mean_54 rfl (Nat.le_refl _) (Nat.le_refl _) ⟨_, rfl, ?_⟩
      exact ⟨by unfold z_shr; rw [if_pos hz], _, _, _, rfl, zRel_scr hR (fun k j z => (e3 k j z).trans (e2 k j (by unfold z_scr at z; omega)))⟩
    · have hok : z_aok ns (z_FT gi ns m) := z_FT_ok L
      have hSb : (z_FT gi ns m).2.2.2.2.1 s < 1000000 := by have := hok.2.2.2.2.1 s hs; have := hok.2.1; omega
      show zW l D tc A mX7_mean (d + 7) 0 0 0 0 0 [some (.ref 0), some (.int (nI s)), some (.int (nI j))] [] (zs gi gl f) _
      refine zx_aload_n (q := 1) dX7_mean_0 rfl rfl rfl ?_
      refine zx_callV0v (q := 4) (y' := mX7_searchFitting) dX7_mean_1 ml_RX7_148 ok_mX7_searchFitting rfl (by decide) rfl (Nat.le_of_ble_eq_true rfl) (Nat.le_of_ble_eq_true rfl) (Nat.le_refl _) (Nat.le_refl _) rfl (t_X7_sF _ L) ?_
      rintro _ ⟨g2, rfl, hA, _, e2⟩
      have hn7 : g2 1 0 = nI ns := (e2 _ _ (by omega)).trans L.hs1
      have hn8 : g2 108 0 = nI ns := (e2 _ _ (by omega)).trans L.hs2
      refine zx_aload_n (q := 5) dX7_mean_4 rfl rfl rfl ?_
      refine zx_aload_n (q := 6) dX7_mean_5 rfl rfl rfl ?_
      refine zy_getR (q := 9) dX7_mean_6 fl_RX7_51 rfl rfl rfl rfl ?_
      refine zy_getR (q := 12) dX7_mean_9 fl_RX7_222 rfl rfl rfl rfl ?_
      refine zx_iload_n (q := 13) dX7_mean_12 rfl rfl rfl ?_
      refine zx_iload_n (q := 14) dX7_mean_13 rfl rfl rfl ?_
      refine zx_callV3l (q := 17) (y' := mX7_sharePerHerdFound) dX7_mean_14 ml_RX7_218 ok_mX7_sharePerHerdFound rfl (by decide) rfl (Nat.le_of_ble_eq_true rfl) (Nat.le_of_ble_eq_true rfl) (Nat.le_refl _) (Nat.le_refl _) rfl (t_X7_share61 _ s j L hn7 hA hok hs hj) ?_
      rintro _ _ ⟨rfl, rfl⟩
      refine zx_lret dX7_mean_17 rfl (Nat.le_refl _) (Nat.le_refl _) ⟨_, rfl, ?_⟩
      refine ⟨_, _, _, rfl, ?_⟩
      show zW l D tc A mX8_mean (d + 7) 0 0 0 0 0 [some (.ref 108), some (.int (nI s)), some (.int (nI j))] [] (zs _ _ _) _
      refine zx_aload_n (q := 1) dX8_mean_0 rfl rfl rfl ?_
      refine zx_iload_n (q := 2) dX8_mean_1 rfl rfl rfl ?_
      refine zx_callV1i (q := 5) (y' := mX8_isSort) dX8_mean_2 ml_RX8_208 ok_mX8_isSort rfl (by decide) rfl (Nat.le_of_ble_eq_true rfl) (Nat.le_of_ble_eq_true rfl) (Nat.le_refl _) (Nat.le_refl _) rfl (t_X8_isSort _ _) ?_
      rintro _ _ ⟨rfl, rfl⟩
      refine zx_if_eq_f (t := 18) (q := 8) dX8_mean_5 (by decide) rfl (zk_t (by show z_in (nI s) 0 (_ - 1) = true; rw [hn8]; exact z_inS_at L.hns hs)) ?_
      refine zx_aload_n (q := 9) dX8_mean_8 rfl rfl rfl ?_
      refine zx_iload_n (q := 10) dX8_mean_9 rfl rfl rfl ?_
      refine zx_iconst (q := 11) (v := 0) dX8_mean_10 (by decide) rfl ?_
      refine zx_iconst (q := 12) (v := 1) dX8_mean_11 (by decide) rfl ?_
      refine zx_callV3i (q := 15) (y' := mX8_in) dX8_mean_12 ml_RX8_200 ok_mX8_in rfl (by decide) rfl (Nat.le_of_ble_eq_true rfl) (Nat.le_of_ble_eq_true rfl) (Nat.le_refl _) (Nat.le_refl _) rfl (t_X8_in _ _ _ _ _) ?_
      rintro _ _ ⟨rfl, rfl⟩
      refine zx_if_ne_t (t := 22) (q := 18) dX8_mean_15 (by decide) rfl (zk_t (by rcases (by omega : j = 0 ∨ j = 1) with q | q <;> subst q <;> decide)) ?_
      refine zx_aload_n (q := 23) dX8_mean_22 rfl rfl rfl ?_
      refine zx_callV0v (q := 26) (y' := mX8_layFits) dX8_mean_23 ml_RX8_314 ok_mX8_layFits rfl (by decide) rfl (Nat.le_of_ble_eq_true rfl) (Nat.le_of_ble_eq_true rfl) (Nat.le_refl _) (Nat.le_refl _) rfl (t_X8_layFits _ L (fun k j a b => e2 k j (by unfold z_scr at a; omega)) (w := z_tw gi) (fun h hh => ⟨by rw [e2 _ _ (by omega)]; exact (z_tw_ok L.hT hh).2.1, fun v hv => by have := (z_tw_ok L.hT hh).2.2 v hv; omega⟩)) ?_
      rintro _ ⟨g3, rfl, hB, h3, e3⟩
      have hB : zMA g3 (z_FT gi ns m) := hB
      refine zx_aload_n (q := 27) dX8_mean_26 rfl rfl rfl ?_
      refine zy_getIe (q := 30) (v := nI (z_FT gi ns m).1) dX8_mean_27 fl_RX8_114 rfl rfl (hB.1) rfl ?_
      refine zx_if_ne_t (t := 39) (q := 33) dX8_mean_30 (by decide) rfl (z_n0 hok.2.1 hz) ?_
      refine zx_aload_n (q := 40) dX8_mean_39 rfl rfl rfl ?_
      refine zx_aload_n (q := 41) dX8_mean_40 rfl rfl rfl ?_
      refine zy_getR (q := 44) dX8_mean_41 fl_RX8_108 rfl rfl rfl rfl ?_
      refine zx_iload_n (q := 45) dX8_mean_44 rfl rfl rfl ?_
      refine zy_ialdN (q := 46) dX8_mean_45 rfl (by omega) (by first | decide | omega) rfl ?_
      rw [hB.2.2 s (by omega)]
      refine zx_aload_n (q := 47) dX8_mean_46 rfl rfl rfl ?_
      refine zy_getIe (q := 50) (v := nI (z_FT gi ns m).1) dX8_mean_47 fl_RX8_114 rfl rfl (hB.1) rfl ?_
      refine zx_iload_n (q := 51) dX8_mean_50 rfl rfl rfl ?_
      refine zx_callV3l (q := 54) (y' := mX8_lowest) dX8_mean_51 ml_RX8_338 ok_mX8_lowest rfl (by decide) rfl (Nat.le_of_ble_eq_true rfl) (Nat.le_of_ble_eq_true rfl) (Nat.le_refl _) (Nat.le_refl _) rfl (t_X8_low _ ((z_FT gi ns m).2.2.2.2.1 s) (z_FT gi ns m).1 j (by omega) (by have := hok.2.1; omega) (Nat.pos_of_ne_zero hz) hj) ?_
      rintro _ _ ⟨rfl, rfl⟩
      refine zx_lret dX8_mean_54 rfl (Nat.le_refl _) (Nat.le_refl _) ⟨_, rfl, ?_⟩
      exact ⟨by unfold z_shr; rw [if_neg hz], _, _, _, rfl, zRel_scr hR (fun k j z => (e3 k j z).trans (e2 k j (by unfold z_scr at z; omega)))⟩
  · have hbad := hgood
    show zW l D tc A mX7_mean (d + 7) 0 0 0 0 0 [some (.ref 0), some (.int a), some (.int b)] [] (zs gi gl f) _
    refine zx_aload_n (q := 1) dX7_mean_0 rfl rfl rfl ?_
    refine zx_callV0v (q := 4) (y' := mX7_searchFitting) dX7_mean_1 ml_RX7_148 ok_mX7_searchFitting rfl (by decide) rfl (Nat.le_of_ble_eq_true rfl) (Nat.le_of_ble_eq_true rfl) (Nat.le_refl _) (Nat.le_refl _) rfl (t_X7_sF _ L) ?_
    rintro _ ⟨g2, rfl, hA, _, e2⟩
    have hn7 : g2 1 0 = nI ns := (e2 _ _ (by omega)).trans L.hs1
    have hn8 : g2 108 0 = nI ns := (e2 _ _ (by omega)).trans L.hs2
    refine zx_aload_n (q := 5) dX7_mean_4 rfl rfl rfl ?_
    refine zx_aload_n (q := 6) dX7_mean_5 rfl rfl rfl ?_
    refine zy_getR (q := 9) dX7_mean_6 fl_RX7_51 rfl rfl rfl rfl ?_
    refine zy_getR (q := 12) dX7_mean_9 fl_RX7_222 rfl rfl rfl rfl ?_
    refine zx_iload_n (q := 13) dX7_mean_12 rfl rfl rfl ?_
    refine zx_iload_n (q := 14) dX7_mean_13 rfl rfl rfl ?_
    refine zx_callV3l (q := 17) (y' := mX7_sharePerHerdFound) dX7_mean_14 ml_RX7_218 ok_mX7_sharePerHerdFound rfl (by decide) rfl (Nat.le_of_ble_eq_true rfl) (Nat.le_of_ble_eq_true rfl) (Nat.le_refl _) (Nat.le_refl _) rfl (t_X7_shareX _ _ a b L hn7 hbad) ?_
    rintro _ _ ⟨rfl, rfl⟩
    refine zx_lret dX7_mean_17 rfl (Nat.le_refl _) (Nat.le_refl _) ⟨_, rfl, ?_⟩
    refine ⟨_, _, _, rfl, ?_⟩
    show zW l D tc A mX8_mean (d + 7) 0 0 0 0 0 [some (.ref 108), some (.int a), some (.int b)] [] (zs _ _ _) _
    refine zx_aload_n (q := 1) dX8_mean_0 rfl rfl rfl ?_
    refine zx_iload_n (q := 2) dX8_mean_1 rfl rfl rfl ?_
    refine zx_callV1i (q := 5) (y' := mX8_isSort) dX8_mean_2 ml_RX8_208 ok_mX8_isSort rfl (by decide) rfl (Nat.le_of_ble_eq_true rfl) (Nat.le_of_ble_eq_true rfl) (Nat.le_refl _) (Nat.le_refl _) rfl (t_X8_isSort _ _) ?_
    rintro _ _ ⟨rfl, rfl⟩
    refine zx_if_eq (q := 8) (t := 18) dX8_mean_5 (by decide) rfl (fun e_5 => ?_) (fun e_5 => ?_)
    · refine zx_ldc2 (q := 21) dX8_mean_18 kl_RX8_336 rfl ?_
      refine zx_lret dX8_mean_21 rfl (Nat.le_refl _) (Nat.le_refl _) ⟨_, rfl, ?_⟩
      exact ⟨rfl, _, _, _, rfl, zRel_scr hR (fun k j z => e2 k j (by unfold z_scr at z; omega))⟩
    · have h1 : z_in a 0 (nI ns - 1) = true := by rw [zb_nz] at e_5; rw [← hn8]; exact e_5
      refine zx_aload_n (q := 9) dX8_mean_8 rfl rfl rfl ?_
      refine zx_iload_n (q := 10) dX8_mean_9 rfl rfl rfl ?_
      refine zx_iconst (q := 11) (v := 0) dX8_mean_10 (by decide) rfl ?_
      refine zx_iconst (q := 12) (v := 1) dX8_mean_11 (by decide) rfl ?_
      refine zx_callV3i (q := 15) (y' := mX8_in) dX8_mean_12 ml_RX8_200 ok_mX8_in rfl (by decide) rfl (Nat.le_of_ble_eq_true rfl) (Nat.le_of_ble_eq_true rfl) (Nat.le_refl _) (Nat.le_refl _) rfl (t_X8_in _ _ _ _ _) ?_
      rintro _ _ ⟨rfl, rfl⟩
      refine zx_if_ne_f (t := 22) (q := 18) dX8_mean_15 (by decide) rfl (zk_f (fun z => hbad ⟨h1, z⟩)) ?_
      refine zx_ldc2 (q := 21) dX8_mean_18 kl_RX8_336 rfl ?_
      refine zx_lret dX8_mean_21 rfl (Nat.le_refl _) (Nat.le_refl _) ⟨_, rfl, ?_⟩
      exact ⟨rfl, _, _, _, rfl, zRel_scr hR (fun k j z => e2 k j (by unfold z_scr at z; omega))⟩
end P47
