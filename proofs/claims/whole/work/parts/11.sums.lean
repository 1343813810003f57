/-! sums over sorts -/
def z_sum : Nat → (Nat → Int32) → Int32
  | 0, _ => 0
  | n + 1, g => z_sum n g + g n
theorem z_sum_congr {g h : Nat → Int32} : ∀ n : Nat, (∀ i, i < n → g i = h i) → z_sum n g = z_sum n h := by
  intro n
  induction n with
  | zero => intro _; rfl
  | succ n ih => intro e; rw [z_sum, z_sum, ih (fun i hi => e i (by omega)), e n (by omega)]
theorem z_mul (a b : Nat) : nI a * nI b = nI (a * b) := (Int32.ofNat_mul a b).symm
theorem z_3 (i j : Nat) : (3 : Int32) * nI i + nI j = nI (3 * i + j) := by
  rw [show (3 : Int32) = nI 3 from rfl, z_mul, nI_add]
theorem z_ge {i n : Nat} {x : Int32} (hn : x = nI n) (hN : n < 2 ^ 31) (c : x ≤ nI i) : n ≤ i := by
  rcases Nat.lt_or_ge i n with q | q
  · exact absurd (by rw [← hn]; exact c) (nI_ge q hN)
  · exact q
theorem z_lt {i n : Nat} {x : Int32} (hn : x = nI n) (hi : i < 2 ^ 31) (c : ¬ x ≤ nI i) : i < n := by
  rcases Nat.lt_or_ge i n with q | q
  · exact q
  · exact absurd (by rw [hn]; exact nI_le q hi) c
theorem z_inc (i : Nat) : nI i + Int32.ofInt 1 = nI (i + 1) := nI_1 i
theorem zr_2 {f : Option Nat} {i : Nat} (h : i < 5) : zg_rf f 2 i = some (3 + i) ∧ zg_sh[3 + i]? = some (1, 6) := by
  rcases (by omega : i = 0 ∨ i = 1 ∨ i = 2 ∨ i = 3 ∨ i = 4) with h | h | h | h | h <;> subst h <;> exact ⟨rfl, rfl⟩
theorem zr_8 {f : Option Nat} {i : Nat} (h : i < 5) : zg_rf f 8 i = some (9 + i) ∧ zg_sh[9 + i]? = some (1, 3) := by
  rcases (by omega : i = 0 ∨ i = 1 ∨ i = 2 ∨ i = 3 ∨ i = 4) with h | h | h | h | h <;> subst h <;> exact ⟨rfl, rfl⟩
theorem zr_14 {f : Option Nat} {i : Nat} (h : i < 2) : zg_rf f 14 i = some (15 + i) ∧ zg_sh[15 + i]? = some (1, 5) := by
  rcases (by omega : i = 0 ∨ i = 1) with h | h <;> subst h <;> exact ⟨rfl, rfl⟩
theorem zr_21 {f : Option Nat} {i : Nat} (h : i < 5) : zg_rf f 21 i = some (22 + i) ∧ zg_sh[22 + i]? = some (1, 6) := by
  rcases (by omega : i = 0 ∨ i = 1 ∨ i = 2 ∨ i = 3 ∨ i = 4) with h | h | h | h | h <;> subst h <;> exact ⟨rfl, rfl⟩
theorem zr_27 {f : Option Nat} {i : Nat} (h : i < 5) : zg_rf f 27 i = some (28 + i) ∧ zg_sh[28 + i]? = some (1, 3) := by
  rcases (by omega : i = 0 ∨ i = 1 ∨ i = 2 ∨ i = 3 ∨ i = 4) with h | h | h | h | h <;> subst h <;> exact ⟨rfl, rfl⟩
theorem zr_33 {f : Option Nat} {i : Nat} (h : i < 2) : zg_rf f 33 i = some (34 + i) ∧ zg_sh[34 + i]? = some (1, 5) := by
  rcases (by omega : i = 0 ∨ i = 1) with h | h <;> subst h <;> exact ⟨rfl, rfl⟩
theorem zr_48 {f : Option Nat} {i : Nat} (h : i < 5) : zg_rf f 48 i = some (49 + i) ∧ zg_sh[49 + i]? = some (1, 3) := by
  rcases (by omega : i = 0 ∨ i = 1 ∨ i = 2 ∨ i = 3 ∨ i = 4) with h | h | h | h | h <;> subst h <;> exact ⟨rfl, rfl⟩
section P11
variable {l : Launch} {D : va_G} {tc : Nat → ClassId} {A : Nat → Prop} {S : zw_S} {gi : Nat → Nat → Int32} {gl : Nat → Nat → Int64} {f : Option Nat}
theorem lp_X4_total (d n : Nat) (hk j : Nat) (hn : gi 47 0 = nI n) (h5 : n ≤ 5) (hj : j < 3) (hs : zg_sh[hk]? = some (1, 5)) : ∀ (k i : Nat) (x : Int32), i + k = n → x = z_sum i (fun s => gi hk s * gi (49 + s) j) → zW l D tc A mX4_total d 0 0 0 0 5 [some (.ref 47), some (.ref hk), some (.int (nI j)), some (.int x), some (.int (nI i))] [] (zs gi gl f) (zQi fun r S' => r = z_sum n (fun s => gi hk s * gi (49 + s) j) ∧ S' = zs gi gl f) := by
  intro k
  induction k using Nat.strongRecOn with
  | _ k ih =>
    intro i x hi hx
    refine zx_iload (q := 7) dX4_total_5 rfl rfl ?_
    refine zx_aload_n (q := 8) dX4_total_7 rfl rfl rfl ?_
    refine zy_getI (q := 11) dX4_total_8 fl_RX4_29 rfl rfl rfl ?_
    refine zx_icmp_ge (q := 14) (t := 37) dX4_total_11 (by decide) rfl (fun c_11 => ?_) (fun c_11 => ?_)
    · have hi2 : i = n := by have := z_ge hn (by omega) c_11; omega
      refine zx_iload_n (q := 38) dX4_total_37 rfl rfl rfl ?_
      refine zx_iret dX4_total_38 rfl (Nat.le_refl _) (Nat.le_refl _) ⟨_, rfl, ?_⟩
      exact ⟨by rw [hx, hi2], rfl⟩
    · have hi2 : i < n := z_lt hn (by omega) c_11
      have hin : vp_in (nI i) 5 := vp_in_nI (by omega) (by omega)
      refine zx_iload_n (q := 15) dX4_total_14 rfl rfl rfl ?_
      refine zx_aload_n (q := 16) dX4_total_15 rfl rfl rfl ?_
      refine zx_iload (q := 18) dX4_total_16 rfl rfl ?_
      refine zy_iald (q := 19) dX4_total_18 hs (by first | decide | assumption) rfl ?_
      refine zx_aload_n (q := 20) dX4_total_19 rfl rfl rfl ?_
      refine zy_getR (q := 23) dX4_total_20 fl_RX4_11 rfl rfl rfl rfl ?_
      refine zx_iload (q := 25) dX4_total_23 rfl rfl ?_
      refine zy_aald (q := 26) dX4_total_25 rfl (by decide) hin (by rw [nI_clamp (by omega)]; exact (zr_48 (by omega)).1) rfl ?_
      refine zx_iload_n (q := 27) dX4_total_26 rfl rfl rfl ?_
      refine zy_iald (q := 28) dX4_total_27 (zr_48 (f := f) (by omega)).2 (vp_in_nI hj (by omega)) rfl ?_
      refine zx_imul (q := 29) dX4_total_28 rfl ?_
      refine zx_iadd (q := 30) dX4_total_29 rfl ?_
      refine zx_istore3 (q := 31) dX4_total_30 rfl rfl ?_
      refine zx_iinc4 (q := 34) dX4_total_31 rfl rfl ?_
      refine zx_goto (t := 5) dX4_total_34 (by decide) ?_
      rw [z_inc]
      exact ih (k - 1) (by omega) (i + 1) _ (by omega) (by rw [hx]; rw [nI_clamp (by omega), nI_clamp (by omega)]; rfl)
theorem t_X4_total (d n : Nat) (hk j : Nat) (hn : gi 47 0 = nI n) (h5 : n ≤ 5) (hj : j < 3) (hs : zg_sh[hk]? = some (1, 5)) : zCall l D tc A mX4_total d 0 0 [.ref 47, .ref hk, .int (nI j)] (zs gi gl f) (zQi fun r S' => r = z_sum n (fun s => gi hk s * gi (49 + s) j) ∧ S' = zs gi gl f) := by
  show zW l D tc A mX4_total d 0 0 0 0 0 [some (.ref 47), some (.ref hk), some (.int (nI j)), none, none] [] (zs gi gl f) _
  refine zx_iconst (q := 1) (v := 0) dX4_total_0 (by decide) rfl ?_
  refine zx_istore3 (q := 2) dX4_total_1 rfl rfl ?_
  refine zx_iconst (q := 3) (v := 0) dX4_total_2 (by decide) rfl ?_
  refine zx_istore4 (q := 5) dX4_total_3 rfl rfl ?_
  exact lp_X4_total d n hk j hn h5 hj hs n 0 0 (by omega) rfl
theorem lp_X4_tollOf (d n : Nat) (hk : Nat) (hn : gi 47 0 = nI n) (h5 : n ≤ 5) (hs : zg_sh[hk]? = some (1, 5)) : ∀ (k i : Nat) (x : Int32), i + k = n → x = z_sum i (fun s => gi hk s * gi 54 s) → zW l D tc A mX4_tollOf d 0 0 0 0 4 [some (.ref 47), some (.ref hk), some (.int x), some (.int (nI i))] [] (zs gi gl f) (zQi fun r S' => r = z_sum n (fun s => gi hk s * gi 54 s) ∧ S' = zs gi gl f) := by
  intro k
  induction k using Nat.strongRecOn with
  | _ k ih =>
    intro i x hi hx
    refine zx_iload_n (q := 5) dX4_tollOf_4 rfl rfl rfl ?_
    refine zx_aload_n (q := 6) dX4_tollOf_5 rfl rfl rfl ?_
    refine zy_getI (q := 9) dX4_tollOf_6 fl_RX4_29 rfl rfl rfl ?_
    refine zx_icmp_ge (q := 12) (t := 31) dX4_tollOf_9 (by decide) rfl (fun c_9 => ?_) (fun c_9 => ?_)
    · have hi2 : i = n := by have := z_ge hn (by omega) c_9; omega
      refine zx_iload_n (q := 32) dX4_tollOf_31 rfl rfl rfl ?_
      refine zx_iret dX4_tollOf_32 rfl (Nat.le_refl _) (Nat.le_refl _) ⟨_, rfl, ?_⟩
      exact ⟨by rw [hx, hi2], rfl⟩
    · have hi2 : i < n := z_lt hn (by omega) c_9
      have hin : vp_in (nI i) 5 := vp_in_nI (by omega) (by omega)
      refine zx_iload_n (q := 13) dX4_tollOf_12 rfl rfl rfl ?_
      refine zx_aload_n (q := 14) dX4_tollOf_13 rfl rfl rfl ?_
      refine zx_iload_n (q := 15) dX4_tollOf_14 rfl rfl rfl ?_
      refine zy_iald (q := 16) dX4_tollOf_15 hs (by first | decide | assumption) rfl ?_
      refine zx_aload_n (q := 17) dX4_tollOf_16 rfl rfl rfl ?_
      refine zy_getR (q := 20) dX4_tollOf_17 fl_RX4_16 rfl rfl rfl rfl ?_
      refine zx_iload_n (q := 21) dX4_tollOf_20 rfl rfl rfl ?_
      refine zy_iald (q := 22) dX4_tollOf_21 rfl (by first | decide | assumption) rfl ?_
      refine zx_imul (q := 23) dX4_tollOf_22 rfl ?_
      refine zx_iadd (q := 24) dX4_tollOf_23 rfl ?_
      refine zx_istore2 (q := 25) dX4_tollOf_24 rfl rfl ?_
      refine zx_iinc3 (q := 28) dX4_tollOf_25 rfl rfl ?_
      refine zx_goto (t := 4) dX4_tollOf_28 (by decide) ?_
      rw [z_inc]
      exact ih (k - 1) (by omega) (i + 1) _ (by omega) (by rw [hx]; rw [nI_clamp (by omega)]; rfl)
theorem t_X4_tollOf (d n : Nat) (hk : Nat) (hn : gi 47 0 = nI n) (h5 : n ≤ 5) (hs : zg_sh[hk]? = some (1, 5)) : zCall l D tc A mX4_tollOf d 0 0 [.ref 47, .ref hk] (zs gi gl f) (zQi fun r S' => r = z_sum n (fun s => gi hk s * gi 54 s) ∧ S' = zs gi gl f) := by
  show zW l D tc A mX4_tollOf d 0 0 0 0 0 [some (.ref 47), some (.ref hk), none, none] [] (zs gi gl f) _
  refine zx_iconst (q := 1) (v := 0) dX4_tollOf_0 (by decide) rfl ?_
  refine zx_istore2 (q := 2) dX4_tollOf_1 rfl rfl ?_
  refine zx_iconst (q := 3) (v := 0) dX4_tollOf_2 (by decide) rfl ?_
  refine zx_istore3 (q := 4) dX4_tollOf_3 rfl rfl ?_
  exact lp_X4_tollOf d n hk hn h5 hs n 0 0 (by omega) rfl
theorem lp_X8_ownCount (d n : Nat) (j : Nat) (hn : gi 108 0 = nI n) (h5 : n ≤ 5) (hj : j < 3) : ∀ (k i : Nat) (x : Int32), i + k = n → x = z_sum i (fun s => gi 113 s * gi 127 (3 * s + j)) → zW l D tc A mX8_ownCount d 0 0 0 0 4 [some (.ref 108), some (.int (nI j)), some (.int x), some (.int (nI i))] [] (zs gi gl f) (zQi fun r S' => r = z_sum n (fun s => gi 113 s * gi 127 (3 * s + j)) ∧ S' = zs gi gl f) := by
  intro k
  induction k using Nat.strongRecOn with
  | _ k ih =>
    intro i x hi hx
    refine zx_iload_n (q := 5) dX8_ownCount_4 rfl rfl rfl ?_
    refine zx_aload_n (q := 6) dX8_ownCount_5 rfl rfl rfl ?_
    refine zy_getI (q := 9) dX8_ownCount_6 fl_RX8_7 rfl rfl rfl ?_
    refine zx_icmp_ge (q := 12) (t := 38) dX8_ownCount_9 (by decide) rfl (fun c_9 => ?_) (fun c_9 => ?_)
    · have hi2 : i = n := by have := z_ge hn (by omega) c_9; omega
      refine zx_iload_n (q := 39) dX8_ownCount_38 rfl rfl rfl ?_
      refine zx_iret dX8_ownCount_39 rfl (Nat.le_refl _) (Nat.le_refl _) ⟨_, rfl, ?_⟩
      exact ⟨by rw [hx, hi2], rfl⟩
    · have hi2 : i < n := z_lt hn (by omega) c_9
      have hin : vp_in (nI i) 5 := vp_in_nI (by omega) (by omega)
      refine zx_iload_n (q := 13) dX8_ownCount_12 rfl rfl rfl ?_
      refine zx_aload_n (q := 14) dX8_ownCount_13 rfl rfl rfl ?_
      refine zy_getR (q := 17) dX8_ownCount_14 fl_RX8_29 rfl rfl rfl rfl ?_
      refine zx_iload_n (q := 18) dX8_ownCount_17 rfl rfl rfl ?_
      refine zy_iald (q := 19) dX8_ownCount_18 rfl (by first | decide | assumption) rfl ?_
      refine zx_aload_n (q := 20) dX8_ownCount_19 rfl rfl rfl ?_
      refine zy_getR (q := 23) dX8_ownCount_20 fl_RX8_96 rfl rfl rfl rfl ?_
      refine zx_iconst (q := 24) (v := 3) dX8_ownCount_23 (by decide) rfl ?_
      refine zx_iload_n (q := 25) dX8_ownCount_24 rfl rfl rfl ?_
      refine zx_imul (q := 26) dX8_ownCount_25 rfl ?_
      refine zx_iload_n (q := 27) dX8_ownCount_26 rfl rfl rfl ?_
      refine zx_iadd (q := 28) dX8_ownCount_27 rfl ?_
      refine zy_iald (q := 29) dX8_ownCount_28 rfl (by rw [z_3]; exact vp_in_nI (by omega) (by omega)) rfl ?_
      refine zx_imul (q := 30) dX8_ownCount_29 rfl ?_
      refine zx_iadd (q := 31) dX8_ownCount_30 rfl ?_
      refine zx_istore2 (q := 32) dX8_ownCount_31 rfl rfl ?_
      refine zx_iinc3 (q := 35) dX8_ownCount_32 rfl rfl ?_
      refine zx_goto (t := 4) dX8_ownCount_35 (by decide) ?_
      rw [z_inc]
      exact ih (k - 1) (by omega) (i + 1) _ (by omega) (by rw [hx]; rw [z_3, nI_clamp (by omega), nI_clamp (by omega)]; rfl)
theorem t_X8_ownCount (d n : Nat) (j : Nat) (hn : gi 108 0 = nI n) (h5 : n ≤ 5) (hj : j < 3) : zCall l D tc A mX8_ownCount d 0 0 [.ref 108, .int (nI j)] (zs gi gl f) (zQi fun r S' => r = z_sum n (fun s => gi 113 s * gi 127 (3 * s + j)) ∧ S' = zs gi gl f) := by
  show zW l D tc A mX8_ownCount d 0 0 0 0 0 [some (.ref 108), some (.int (nI j)), none, none] [] (zs gi gl f) _
  refine zx_iconst (q := 1) (v := 0) dX8_ownCount_0 (by decide) rfl ?_
  refine zx_istore2 (q := 2) dX8_ownCount_1 rfl rfl ?_
  refine zx_iconst (q := 3) (v := 0) dX8_ownCount_2 (by decide) rfl ?_
  refine zx_istore3 (q := 4) dX8_ownCount_3 rfl rfl ?_
  exact lp_X8_ownCount d n j hn h5 hj n 0 0 (by omega) rfl
theorem lp_X8_secondCount (d n : Nat) (j : Nat) (hn : gi 108 0 = nI n) (h5 : n ≤ 5) (hj : j < 3) : ∀ (k i : Nat) (x : Int32), i + k = n → x = z_sum i (fun s => gi 114 s * gi 127 (3 * s + j)) → zW l D tc A mX8_secondCount d 0 0 0 0 4 [some (.ref 108), some (.int (nI j)), some (.int x), some (.int (nI i))] [] (zs gi gl f) (zQi fun r S' => r = z_sum n (fun s => gi 114 s * gi 127 (3 * s + j)) ∧ S' = zs gi gl f) := by
  intro k
  induction k using Nat.strongRecOn with
  | _ k ih =>
    intro i x hi hx
    refine zx_iload_n (q := 5) dX8_secondCount_4 rfl rfl rfl ?_
    refine zx_aload_n (q := 6) dX8_secondCount_5 rfl rfl rfl ?_
    refine zy_getI (q := 9) dX8_secondCount_6 fl_RX8_7 rfl rfl rfl ?_
    refine zx_icmp_ge (q := 12) (t := 38) dX8_secondCount_9 (by decide) rfl (fun c_9 => ?_) (fun c_9 => ?_)
    · have hi2 : i = n := by have := z_ge hn (by omega) c_9; omega
      refine zx_iload_n (q := 39) dX8_secondCount_38 rfl rfl rfl ?_
      refine zx_iret dX8_secondCount_39 rfl (Nat.le_refl _) (Nat.le_refl _) ⟨_, rfl, ?_⟩
      exact ⟨by rw [hx, hi2], rfl⟩
    · have hi2 : i < n := z_lt hn (by omega) c_9
      have hin : vp_in (nI i) 5 := vp_in_nI (by omega) (by omega)
      refine zx_iload_n (q := 13) dX8_secondCount_12 rfl rfl rfl ?_
      refine zx_aload_n (q := 14) dX8_secondCount_13 rfl rfl rfl ?_
      refine zy_getR (q := 17) dX8_secondCount_14 fl_RX8_32 rfl rfl rfl rfl ?_
      refine zx_iload_n (q := 18) dX8_secondCount_17 rfl rfl rfl ?_
      refine zy_iald (q := 19) dX8_secondCount_18 rfl (by first | decide | assumption) rfl ?_
      refine zx_aload_n (q := 20) dX8_secondCount_19 rfl rfl rfl ?_
      refine zy_getR (q := 23) dX8_secondCount_20 fl_RX8_96 rfl rfl rfl rfl ?_
      refine zx_iconst (q := 24) (v := 3) dX8_secondCount_23 (by decide) rfl ?_
      refine zx_iload_n (q := 25) dX8_secondCount_24 rfl rfl rfl ?_
      refine zx_imul (q := 26) dX8_secondCount_25 rfl ?_
      refine zx_iload_n (q := 27) dX8_secondCount_26 rfl rfl rfl ?_
      refine zx_iadd (q := 28) dX8_secondCount_27 rfl ?_
      refine zy_iald (q := 29) dX8_secondCount_28 rfl (by rw [z_3]; exact vp_in_nI (by omega) (by omega)) rfl ?_
      refine zx_imul (q := 30) dX8_secondCount_29 rfl ?_
      refine zx_iadd (q := 31) dX8_secondCount_30 rfl ?_
      refine zx_istore2 (q := 32) dX8_secondCount_31 rfl rfl ?_
      refine zx_iinc3 (q := 35) dX8_secondCount_32 rfl rfl ?_
      refine zx_goto (t := 4) dX8_secondCount_35 (by decide) ?_
      rw [z_inc]
      exact ih (k - 1) (by omega) (i + 1) _ (by omega) (by rw [hx]; rw [z_3, nI_clamp (by omega), nI_clamp (by omega)]; rfl)
theorem t_X8_secondCount (d n : Nat) (j : Nat) (hn : gi 108 0 = nI n) (h5 : n ≤ 5) (hj : j < 3) : zCall l D tc A mX8_secondCount d 0 0 [.ref 108, .int (nI j)] (zs gi gl f) (zQi fun r S' => r = z_sum n (fun s => gi 114 s * gi 127 (3 * s + j)) ∧ S' = zs gi gl f) := by
  show zW l D tc A mX8_secondCount d 0 0 0 0 0 [some (.ref 108), some (.int (nI j)), none, none] [] (zs gi gl f) _
  refine zx_iconst (q := 1) (v := 0) dX8_secondCount_0 (by decide) rfl ?_
  refine zx_istore2 (q := 2) dX8_secondCount_1 rfl rfl ?_
  refine zx_iconst (q := 3) (v := 0) dX8_secondCount_2 (by decide) rfl ?_
  refine zx_istore3 (q := 4) dX8_secondCount_3 rfl rfl ?_
  exact lp_X8_secondCount d n j hn h5 hj n 0 0 (by omega) rfl
theorem lp_X8_countNow (d n : Nat) (j : Nat) (hn : gi 108 0 = nI n) (h5 : n ≤ 5) (hj : j < 3) : ∀ (k i : Nat) (x : Int32), i + k = n → x = z_sum i (fun s => gi 129 s * gi 127 (3 * s + j)) → zW l D tc A mX8_countNow d 0 0 0 0 4 [some (.ref 108), some (.int (nI j)), some (.int x), some (.int (nI i))] [] (zs gi gl f) (zQi fun r S' => r = z_sum n (fun s => gi 129 s * gi 127 (3 * s + j)) ∧ S' = zs gi gl f) := by
  intro k
  induction k using Nat.strongRecOn with
  | _ k ih =>
    intro i x hi hx
    refine zx_iload_n (q := 5) dX8_countNow_4 rfl rfl rfl ?_
    refine zx_aload_n (q := 6) dX8_countNow_5 rfl rfl rfl ?_
    refine zy_getI (q := 9) dX8_countNow_6 fl_RX8_7 rfl rfl rfl ?_
    refine zx_icmp_ge (q := 12) (t := 38) dX8_countNow_9 (by decide) rfl (fun c_9 => ?_) (fun c_9 => ?_)
    · have hi2 : i = n := by have := z_ge hn (by omega) c_9; omega
      refine zx_iload_n (q := 39) dX8_countNow_38 rfl rfl rfl ?_
      refine zx_iret dX8_countNow_39 rfl (Nat.le_refl _) (Nat.le_refl _) ⟨_, rfl, ?_⟩
      exact ⟨by rw [hx, hi2], rfl⟩
    · have hi2 : i < n := z_lt hn (by omega) c_9
      have hin : vp_in (nI i) 5 := vp_in_nI (by omega) (by omega)
      refine zx_iload_n (q := 13) dX8_countNow_12 rfl rfl rfl ?_
      refine zx_aload_n (q := 14) dX8_countNow_13 rfl rfl rfl ?_
      refine zy_getR (q := 17) dX8_countNow_14 fl_RX8_102 rfl rfl rfl rfl ?_
      refine zx_iload_n (q := 18) dX8_countNow_17 rfl rfl rfl ?_
      refine zy_iald (q := 19) dX8_countNow_18 rfl (by first | decide | assumption) rfl ?_
      refine zx_aload_n (q := 20) dX8_countNow_19 rfl rfl rfl ?_
      refine zy_getR (q := 23) dX8_countNow_20 fl_RX8_96 rfl rfl rfl rfl ?_
      refine zx_iconst (q := 24) (v := 3) dX8_countNow_23 (by decide) rfl ?_
      refine zx_iload_n (q := 25) dX8_countNow_24 rfl rfl rfl ?_
      refine zx_imul (q := 26) dX8_countNow_25 rfl ?_
      refine zx_iload_n (q := 27) dX8_countNow_26 rfl rfl rfl ?_
      refine zx_iadd (q := 28) dX8_countNow_27 rfl ?_
      refine zy_iald (q := 29) dX8_countNow_28 rfl (by rw [z_3]; exact vp_in_nI (by omega) (by omega)) rfl ?_
      refine zx_imul (q := 30) dX8_countNow_29 rfl ?_
      refine zx_iadd (q := 31) dX8_countNow_30 rfl ?_
      refine zx_istore2 (q := 32) dX8_countNow_31 rfl rfl ?_
      refine zx_iinc3 (q := 35) dX8_countNow_32 rfl rfl ?_
      refine zx_goto (t := 4) dX8_countNow_35 (by decide) ?_
      rw [z_inc]
      exact ih (k - 1) (by omega) (i + 1) _ (by omega) (by rw [hx]; rw [z_3, nI_clamp (by omega), nI_clamp (by omega)]; rfl)
theorem t_X8_countNow (d n : Nat) (j : Nat) (hn : gi 108 0 = nI n) (h5 : n ≤ 5) (hj : j < 3) : zCall l D tc A mX8_countNow d 0 0 [.ref 108, .int (nI j)] (zs gi gl f) (zQi fun r S' => r = z_sum n (fun s => gi 129 s * gi 127 (3 * s + j)) ∧ S' = zs gi gl f) := by
  show zW l D tc A mX8_countNow d 0 0 0 0 0 [some (.ref 108), some (.int (nI j)), none, none] [] (zs gi gl f) _
  refine zx_iconst (q := 1) (v := 0) dX8_countNow_0 (by decide) rfl ?_
  refine zx_istore2 (q := 2) dX8_countNow_1 rfl rfl ?_
  refine zx_iconst (q := 3) (v := 0) dX8_countNow_2 (by decide) rfl ?_
  refine zx_istore3 (q := 4) dX8_countNow_3 rfl rfl ?_
  exact lp_X8_countNow d n j hn h5 hj n 0 0 (by omega) rfl
theorem lp_X8_ownToll (d n : Nat)  (hn : gi 108 0 = nI n) (h5 : n ≤ 5)  : ∀ (k i : Nat) (x : Int32), i + k = n → x = z_sum i (fun s => gi 113 s * gi 128 s) → zW l D tc A mX8_ownToll d 0 0 0 0 4 [some (.ref 108), some (.int x), some (.int (nI i))] [] (zs gi gl f) (zQi fun r S' => r = z_sum n (fun s => gi 113 s * gi 128 s) ∧ S' = zs gi gl f) := by
  intro k
  induction k using Nat.strongRecOn with
  | _ k ih =>
    intro i x hi hx
    refine zx_iload_n (q := 5) dX8_ownToll_4 rfl rfl rfl ?_
    refine zx_aload_n (q := 6) dX8_ownToll_5 rfl rfl rfl ?_
    refine zy_getI (q := 9) dX8_ownToll_6 fl_RX8_7 rfl rfl rfl ?_
    refine zx_icmp_ge (q := 12) (t := 34) dX8_ownToll_9 (by decide) rfl (fun c_9 => ?_) (fun c_9 => ?_)
    · have hi2 : i = n := by have := z_ge hn (by omega) c_9; omega
      refine zx_iload_n (q := 35) dX8_ownToll_34 rfl rfl rfl ?_
      refine zx_iret dX8_ownToll_35 rfl (Nat.le_refl _) (Nat.le_refl _) ⟨_, rfl, ?_⟩
      exact ⟨by rw [hx, hi2], rfl⟩
    · have hi2 : i < n := z_lt hn (by omega) c_9
      have hin : vp_in (nI i) 5 := vp_in_nI (by omega) (by omega)
      refine zx_iload_n (q := 13) dX8_ownToll_12 rfl rfl rfl ?_
      refine zx_aload_n (q := 14) dX8_ownToll_13 rfl rfl rfl ?_
      refine zy_getR (q := 17) dX8_ownToll_14 fl_RX8_29 rfl rfl rfl rfl ?_
      refine zx_iload_n (q := 18) dX8_ownToll_17 rfl rfl rfl ?_
      refine zy_iald (q := 19) dX8_ownToll_18 rfl (by first | decide | assumption) rfl ?_
      refine zx_aload_n (q := 20) dX8_ownToll_19 rfl rfl rfl ?_
      refine zy_getR (q := 23) dX8_ownToll_20 fl_RX8_99 rfl rfl rfl rfl ?_
      refine zx_iload_n (q := 24) dX8_ownToll_23 rfl rfl rfl ?_
      refine zy_iald (q := 25) dX8_ownToll_24 rfl (by first | decide | assumption) rfl ?_
      refine zx_imul (q := 26) dX8_ownToll_25 rfl ?_
      refine zx_iadd (q := 27) dX8_ownToll_26 rfl ?_
      refine zx_istore1 (q := 28) dX8_ownToll_27 rfl rfl ?_
      refine zx_iinc2 (q := 31) dX8_ownToll_28 rfl rfl ?_
      refine zx_goto (t := 4) dX8_ownToll_31 (by decide) ?_
      rw [z_inc]
      exact ih (k - 1) (by omega) (i + 1) _ (by omega) (by rw [hx]; rw [nI_clamp (by omega)]; rfl)
theorem t_X8_ownToll (d n : Nat)  (hn : gi 108 0 = nI n) (h5 : n ≤ 5)  : zCall l D tc A mX8_ownToll d 0 0 [.ref 108] (zs gi gl f) (zQi fun r S' => r = z_sum n (fun s => gi 113 s * gi 128 s) ∧ S' = zs gi gl f) := by
  show zW l D tc A mX8_ownToll d 0 0 0 0 0 [some (.ref 108), none, none] [] (zs gi gl f) _
  refine zx_iconst (q := 1) (v := 0) dX8_ownToll_0 (by decide) rfl ?_
  refine zx_istore1 (q := 2) dX8_ownToll_1 rfl rfl ?_
  refine zx_iconst (q := 3) (v := 0) dX8_ownToll_2 (by decide) rfl ?_
  refine zx_istore2 (q := 4) dX8_ownToll_3 rfl rfl ?_
  exact lp_X8_ownToll d n  hn h5  n 0 0 (by omega) rfl
theorem lp_X8_secondToll (d n : Nat)  (hn : gi 108 0 = nI n) (h5 : n ≤ 5)  : ∀ (k i : Nat) (x : Int32), i + k = n → x = z_sum i (fun s => gi 114 s * gi 128 s) → zW l D tc A mX8_secondToll d 0 0 0 0 4 [some (.ref 108), some (.int x), some (.int (nI i))] [] (zs gi gl f) (zQi fun r S' => r = z_sum n (fun s => gi 114 s * gi 128 s) ∧ S' = zs gi gl f) := by
  intro k
  induction k using Nat.strongRecOn with
  | _ k ih =>
    intro i x hi hx
    refine zx_iload_n (q := 5) dX8_secondToll_4 rfl rfl rfl ?_
    refine zx_aload_n (q := 6) dX8_secondToll_5 rfl rfl rfl ?_
    refine zy_getI (q := 9) dX8_secondToll_6 fl_RX8_7 rfl rfl rfl ?_
    refine zx_icmp_ge (q := 12) (t := 34) dX8_secondToll_9 (by decide) rfl (fun c_9 => ?_) (fun c_9 => ?_)
    · have hi2 : i = n := by have := z_ge hn (by omega) c_9; omega
      refine zx_iload_n (q := 35) dX8_secondToll_34 rfl rfl rfl ?_
      refine zx_iret dX8_secondToll_35 rfl (Nat.le_refl _) (Nat.le_refl _) ⟨_, rfl, ?_⟩
      exact ⟨by rw [hx, hi2], rfl⟩
    · have hi2 : i < n := z_lt hn (by omega) c_9
      have hin : vp_in (nI i) 5 := vp_in_nI (by omega) (by omega)
      refine zx_iload_n (q := 13) dX8_secondToll_12 rfl rfl rfl ?_
      refine zx_aload_n (q := 14) dX8_secondToll_13 rfl rfl rfl ?_
      refine zy_getR (q := 17) dX8_secondToll_14 fl_RX8_32 rfl rfl rfl rfl ?_
      refine zx_iload_n (q := 18) dX8_secondToll_17 rfl rfl rfl ?_
      refine zy_iald (q := 19) dX8_secondToll_18 rfl (by first | decide | assumption) rfl ?_
      refine zx_aload_n (q := 20) dX8_secondToll_19 rfl rfl rfl ?_
      refine zy_getR (q := 23) dX8_secondToll_20 fl_RX8_99 rfl rfl rfl rfl ?_
      refine zx_iload_n (q := 24) dX8_secondToll_23 rfl rfl rfl ?_
      refine zy_iald (q := 25) dX8_secondToll_24 rfl (by first | decide | assumption) rfl ?_
      refine zx_imul (q := 26) dX8_secondToll_25 rfl ?_
      refine zx_iadd (q := 27) dX8_secondToll_26 rfl ?_
      refine zx_istore1 (q := 28) dX8_secondToll_27 rfl rfl ?_
      refine zx_iinc2 (q := 31) dX8_secondToll_28 rfl rfl ?_
      refine zx_goto (t := 4) dX8_secondToll_31 (by decide) ?_
      rw [z_inc]
      exact ih (k - 1) (by omega) (i + 1) _ (by omega) (by rw [hx]; rw [nI_clamp (by omega)]; rfl)
theorem t_X8_secondToll (d n : Nat)  (hn : gi 108 0 = nI n) (h5 : n ≤ 5)  : zCall l D tc A mX8_secondToll d 0 0 [.ref 108] (zs gi gl f) (zQi fun r S' => r = z_sum n (fun s => gi 114 s * gi 128 s) ∧ S' = zs gi gl f) := by
  show zW l D tc A mX8_secondToll d 0 0 0 0 0 [some (.ref 108), none, none] [] (zs gi gl f) _
  refine zx_iconst (q := 1) (v := 0) dX8_secondToll_0 (by decide) rfl ?_
  refine zx_istore1 (q := 2) dX8_secondToll_1 rfl rfl ?_
  refine zx_iconst (q := 3) (v := 0) dX8_secondToll_2 (by decide) rfl ?_
  refine zx_istore2 (q := 4) dX8_secondToll_3 rfl rfl ?_
  exact lp_X8_secondToll d n  hn h5  n 0 0 (by omega) rfl
theorem lp_X8_tollNow (d n : Nat)  (hn : gi 108 0 = nI n) (h5 : n ≤ 5)  : ∀ (k i : Nat) (x : Int32), i + k = n → x = z_sum i (fun s => gi 129 s * gi 128 s) → zW l D tc A mX8_tollNow d 0 0 0 0 4 [some (.ref 108), some (.int x), some (.int (nI i))] [] (zs gi gl f) (zQi fun r S' => r = z_sum n (fun s => gi 129 s * gi 128 s) ∧ S' = zs gi gl f) := by
  intro k
  induction k using Nat.strongRecOn with
  | _ k ih =>
    intro i x hi hx
    refine zx_iload_n (q := 5) dX8_tollNow_4 rfl rfl rfl ?_
    refine zx_aload_n (q := 6) dX8_tollNow_5 rfl rfl rfl ?_
    refine zy_getI (q := 9) dX8_tollNow_6 fl_RX8_7 rfl rfl rfl ?_
    refine zx_icmp_ge (q := 12) (t := 34) dX8_tollNow_9 (by decide) rfl (fun c_9 => ?_) (fun c_9 => ?_)
    · have hi2 : i = n := by have := z_ge hn (by omega) c_9; omega
      refine zx_iload_n (q := 35) dX8_tollNow_34 rfl rfl rfl ?_
      refine zx_iret dX8_tollNow_35 rfl (Nat.le_refl _) (Nat.le_refl _) ⟨_, rfl, ?_⟩
      exact ⟨by rw [hx, hi2], rfl⟩
    · have hi2 : i < n := z_lt hn (by omega) c_9
      have hin : vp_in (nI i) 5 := vp_in_nI (by omega) (by omega)
      refine zx_iload_n (q := 13) dX8_tollNow_12 rfl rfl rfl ?_
      refine zx_aload_n (q := 14) dX8_tollNow_13 rfl rfl rfl ?_
      refine zy_getR (q := 17) dX8_tollNow_14 fl_RX8_102 rfl rfl rfl rfl ?_
      refine zx_iload_n (q := 18) dX8_tollNow_17 rfl rfl rfl ?_
      refine zy_iald (q := 19) dX8_tollNow_18 rfl (by first | decide | assumption) rfl ?_
      refine zx_aload_n (q := 20) dX8_tollNow_19 rfl rfl rfl ?_
      refine zy_getR (q := 23) dX8_tollNow_20 fl_RX8_99 rfl rfl rfl rfl ?_
      refine zx_iload_n (q := 24) dX8_tollNow_23 rfl rfl rfl ?_
      refine zy_iald (q := 25) dX8_tollNow_24 rfl (by first | decide | assumption) rfl ?_
      refine zx_imul (q := 26) dX8_tollNow_25 rfl ?_
      refine zx_iadd (q := 27) dX8_tollNow_26 rfl ?_
      refine zx_istore1 (q := 28) dX8_tollNow_27 rfl rfl ?_
      refine zx_iinc2 (q := 31) dX8_tollNow_28 rfl rfl ?_
      refine zx_goto (t := 4) dX8_tollNow_31 (by decide) ?_
      rw [z_inc]
      exact ih (k - 1) (by omega) (i + 1) _ (by omega) (by rw [hx]; rw [nI_clamp (by omega)]; rfl)
theorem t_X8_tollNow (d n : Nat)  (hn : gi 108 0 = nI n) (h5 : n ≤ 5)  : zCall l D tc A mX8_tollNow d 0 0 [.ref 108] (zs gi gl f) (zQi fun r S' => r = z_sum n (fun s => gi 129 s * gi 128 s) ∧ S' = zs gi gl f) := by
  show zW l D tc A mX8_tollNow d 0 0 0 0 0 [some (.ref 108), none, none] [] (zs gi gl f) _
  refine zx_iconst (q := 1) (v := 0) dX8_tollNow_0 (by decide) rfl ?_
  refine zx_istore1 (q := 2) dX8_tollNow_1 rfl rfl ?_
  refine zx_iconst (q := 3) (v := 0) dX8_tollNow_2 (by decide) rfl ?_
  refine zx_istore2 (q := 4) dX8_tollNow_3 rfl rfl ?_
  exact lp_X8_tollNow d n  hn h5  n 0 0 (by omega) rfl
end P11
