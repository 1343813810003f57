/-! tapes -/
theorem zr_65 {f : Option Nat} {t : Nat} (h : t < 6) : zg_rf f 65 t = some (96 + 2 * t) ∧ zg_sh[96 + 2 * t]? = some (0, 6) ∧ zg_rf f (96 + 2 * t) 2 = some (97 + 2 * t) ∧ zg_sh[97 + 2 * t]? = some (4, 60) := by
  rcases (by omega : t = 0 ∨ t = 1 ∨ t = 2 ∨ t = 3 ∨ t = 4 ∨ t = 5) with h | h | h | h | h | h <;> subst h <;> exact ⟨rfl, rfl, rfl, rfl⟩
theorem z_inG {v : Int32} {m : Nat} (hm : m < 2 ^ 31) (c : z_in v 0 (nI m - 1) = true) : ∃ j : Nat, j < m ∧ v = nI j := by
  have h4 : (0 : Int32).toInt = 0 := by decide
  have h0 : ¬ v < 0 := by
    rw [z_in_tt] at c
    rw [Int32.lt_iff_toInt_lt]
    omega
  obtain ⟨j, hj, rfl⟩ := nI_of h0
  rw [z_in_pred hj hm] at c
  exact ⟨j, by simpa using c, rfl⟩
theorem z_60 (t j : Nat) : (60 : Int32) * nI t + nI j = nI (60 * t + j) := by rw [show (60 : Int32) = nI 60 from rfl, z_mul, nI_add]
def z_cut (s : Int32) (v : Int64) : Int64 := if s = 0 then v.toInt32.toInt8.toInt32.toInt64 else if s = 1 then v.toInt32.toInt16.toInt32.toInt64 else if s = 2 then v.toInt32.toInt64 else if s = 4 then (if v = 0 then 0 else 1) else v
/-- the items of a row, v in the places from a on, b of them -/
def zw_fill {α : Type} (g : Nat → Nat → α) (k lo hi : Nat) (v : α) : Nat → Nat → α := fun a b => if a = k ∧ lo ≤ b ∧ b < hi then v else g a b
theorem zw_fill_0 {α : Type} (g : Nat → Nat → α) (k lo : Nat) (v : α) : zw_fill g k lo lo v = g := by
  funext a b
  unfold zw_fill
  rw [if_neg (by omega)]
theorem zw_fill_s {α : Type} (g : Nat → Nat → α) {k lo i : Nat} (h : lo ≤ i) (v : α) : zw_u (zw_fill g k lo i v) k i v = zw_fill g k lo (i + 1) v := by
  funext a b
  unfold zw_u zw_fill
  by_cases h1 : a = k
  · subst h1
    by_cases h2 : b = i
    · subst h2
      rw [if_pos ⟨rfl, rfl⟩, if_pos ⟨rfl, by omega, by omega⟩]
    · rw [if_neg (fun z => h2 z.2)]
      by_cases h3 : lo ≤ b ∧ b < i
      · rw [if_pos ⟨rfl, h3.1, h3.2⟩, if_pos ⟨rfl, h3.1, by omega⟩]
      · rw [if_neg (fun z => h3 z.2), if_neg (fun z => h3 ⟨z.2.1, by omega⟩)]
  · rw [if_neg (fun z => h1 z.1), if_neg (fun z => h1 z.1), if_neg (fun z => h1 z.1)]
theorem zRel_tape {gi gi' : Nat → Nat → Int32} {gl gl' : Nat → Nat → Int64} (h : zRel gi gl) (hN : zTP gi gl → zTP gi' gl')
    (e : ∀ k j, ¬ (96 ≤ k ∧ k < 108) → ¬ (k = 146 ∨ k = 147) → gi' k j = gi k j) : zRel gi' gl' := by
  obtain ⟨nf, ⟨h0, h1, h2⟩, h3, ⟨h4, h5⟩, h6, h7, h8, h9, h10, h11⟩ := h
  refine ⟨nf, ⟨h0, ?_, ?_⟩, ?_, ⟨?_, ?_⟩, ?_, ?_, hN h8, ?_, ?_, ?_⟩
  · rw [e 0 6 (by omega) (by omega)]; exact h1
  · rw [e 108 10 (by omega) (by omega)]; exact h2
  · exact zST_congr h3 (fun j hj => e _ _ (by omega) (by omega)) (fun j hj => e _ _ (by omega) (by omega)) (fun k j a b => e _ _ (by omega) (by omega)) (fun k j a => e _ _ (by omega) (by omega))
  · rw [e 0 2 (by omega) (by omega), e 108 41 (by omega) (by omega)]; exact h4
  · rw [e 0 2 (by omega) (by omega)]
    exact h5.imp id (fun z => ⟨z.1, zST_congr z.2 (fun j hj => e _ _ (by omega) (by omega)) (fun j hj => e _ _ (by omega) (by omega)) (fun k j a b => e _ _ (by omega) (by omega)) (fun k j a => e _ _ (by omega) (by omega))⟩)
  · exact zTX_congr h6 (e _ _ (by omega) (by omega)) (e _ _ (by omega) (by omega)) (fun j => e _ _ (by omega) (by omega)) (fun j => e _ _ (by omega) (by omega))
  · exact zAC_congr h7 (e _ _ (by omega) (by omega)) (e _ _ (by omega) (by omega)) (fun j => e _ _ (by omega) (by omega)) (fun j => e _ _ (by omega) (by omega))
  · rw [e 41 0 (by omega) (by omega)]; exact h9
  · exact fun i hi => zFN_congr (h10 i hi) (fun k j a b => e _ _ (by omega) (by omega)) (fun k j a => e _ _ (by omega) (by omega))
  · exact fun k hk => by rw [e 125 k (by omega) (by omega)]; exact h11 k hk
section P18
variable {l : Launch} {D : va_G} {tc : Nat → ClassId} {A : Nat → Prop} {S : zw_S} {gi : Nat → Nat → Int32} {gl : Nat → Nat → Int64} {f : Option Nat}
theorem t_X6_has (d t : Nat) (ht : t < 6) (v : Int32) {len : Nat} (hl : gi (96 + 2 * t) 1 = nI len) : zCall l D tc A mX6_has (d + 1) 0 0 [.ref (96 + 2 * t), .int v] (zs gi gl f) (zQi fun r S' => r = zb (z_in v 0 (nI len - 1)) ∧ S' = zs gi gl f) := by
  show zW l D tc A mX6_has (d + 1) 0 0 0 0 0 [some (.ref (96 + 2 * t)), some (.int v)] [] (zs gi gl f) _
  refine zx_iload_n (q := 1) dX6_has_0 rfl rfl rfl ?_
  refine zx_iconst (q := 2) (v := 0) dX6_has_1 (by decide) rfl ?_
  refine zx_aload_n (q := 3) dX6_has_2 rfl rfl rfl ?_
  refine zy_getIe (q := 6) (v := nI len) dX6_has_3 fl_RX6_19 rfl (zr_65 (f := f) ht).2.1 (hl) rfl ?_
  refine zx_iconst (q := 7) (v := 1) dX6_has_6 (by decide) rfl ?_
  refine zx_isub (q := 8) dX6_has_7 rfl ?_
  refine zx_callSN3i (q := 11) (y' := mX7_within) dX6_has_8 (by decide) ok_mX7_within (Nat.le_of_ble_eq_true rfl) (Nat.le_of_ble_eq_true rfl) (Nat.le_refl _) (Nat.le_refl _) rfl (t_X7_within _ _ _ _) ?_
  rintro _ _ ⟨rfl, rfl⟩
  refine zx_zret dX6_has_11 rfl (by first | rfl | exact zb_nar _) (Nat.le_refl _) (Nat.le_refl _) ⟨_, rfl, ?_⟩
  exact ⟨rfl, rfl⟩
theorem t_X6_isEmpty (d t : Nat) (ht : t < 6) : zCall l D tc A mX6_isEmpty d 0 0 [.ref (96 + 2 * t)] (zs gi gl f) (zQi fun r S' => r = zb (decide (gi (96 + 2 * t) 0 = -1)) ∧ S' = zs gi gl f) := by
  show zW l D tc A mX6_isEmpty d 0 0 0 0 0 [some (.ref (96 + 2 * t))] [] (zs gi gl f) _
  refine zx_aload_n (q := 1) dX6_isEmpty_0 rfl rfl rfl ?_
  refine zy_getI (q := 4) dX6_isEmpty_1 fl_RX6_9 rfl (zr_65 (f := f) ht).2.1 rfl ?_
  refine zx_iconst (q := 5) (v := (-1)) dX6_isEmpty_4 (by decide) rfl ?_
  refine zx_icmp_ne (q := 8) (t := 12) dX6_isEmpty_5 (by decide) rfl (fun c_5 => ?_) (fun c_5 => ?_)
  · refine zx_iconst (q := 13) (v := 0) dX6_isEmpty_12 (by decide) rfl ?_
    refine zx_zret dX6_isEmpty_13 rfl (by first | rfl | exact zb_nar _) (Nat.le_refl _) (Nat.le_refl _) ⟨_, rfl, ?_⟩
    exact ⟨by simp [zb, c_5], rfl⟩
  · refine zx_iconst (q := 9) (v := 1) dX6_isEmpty_8 (by decide) rfl ?_
    refine zx_goto (t := 13) dX6_isEmpty_9 (by decide) ?_
    refine zx_zret dX6_isEmpty_13 rfl (by first | rfl | exact zb_nar _) (Nat.le_refl _) (Nat.le_refl _) ⟨_, rfl, ?_⟩
    exact ⟨by simp [zb, c_5], rfl⟩
theorem z_cut_none {s : Int32} {v : Int64} (h0 : ¬ s = 0) (h1 : ¬ s = 1) (h2 : ¬ s = 2) (h4 : ¬ s = 4) : z_cut s v = v := by simp [z_cut, h0, h1, h2, h4]
theorem t_X6_cut (d t : Nat) (ht : t < 6) (v : Int64) : zCall l D tc A mX6_cut d 0 0 [.ref (96 + 2 * t), .long v] (zs gi gl f) (zQl fun r S' => r = z_cut (gi (96 + 2 * t) 0) v ∧ S' = zs gi gl f) := by
  show zW l D tc A mX6_cut d 0 0 0 0 0 [some (.ref (96 + 2 * t)), some (.long v), none] [] (zs gi gl f) _
  refine zx_aload_n (q := 1) dX6_cut_0 rfl rfl rfl ?_
  refine zy_getI (q := 4) dX6_cut_1 fl_RX6_9 rfl (zr_65 (f := f) ht).2.1 rfl ?_
  refine zx_case (v := 0) (fun c_4_0 => ?_) (fun c_4_0 => ?_)
  · refine zx_tblIn (t := 40) (off := 36) dX6_cut_4 (by rw [c_4_0]; decide) (by rw [c_4_0]; decide) (by rw [c_4_0]; rfl) (by decide) ?_
    refine zx_lload_n (q := 41) dX6_cut_40 rfl rfl rfl ?_
    refine zx_l2i (q := 42) dX6_cut_41 rfl ?_
    refine zx_i2b (q := 43) dX6_cut_42 rfl ?_
    refine zx_i2l (q := 44) dX6_cut_43 rfl ?_
    refine zx_lret dX6_cut_44 rfl (Nat.le_refl _) (Nat.le_refl _) ⟨_, rfl, ?_⟩
    exact ⟨by first | (simp [z_cut, *]; done) | (rw [lg_cmp_eq] at c_57; simp [z_cut, *]; done), rfl⟩
  refine zx_case (v := 1) (fun c_4_1 => ?_) (fun c_4_1 => ?_)
  · refine zx_tblIn (t := 45) (off := 41) dX6_cut_4 (by rw [c_4_1]; decide) (by rw [c_4_1]; decide) (by rw [c_4_1]; rfl) (by decide) ?_
    refine zx_lload_n (q := 46) dX6_cut_45 rfl rfl rfl ?_
    refine zx_l2i (q := 47) dX6_cut_46 rfl ?_
    refine zx_i2s (q := 48) dX6_cut_47 rfl ?_
    refine zx_i2l (q := 49) dX6_cut_48 rfl ?_
    refine zx_lret dX6_cut_49 rfl (Nat.le_refl _) (Nat.le_refl _) ⟨_, rfl, ?_⟩
    exact ⟨by first | (simp [z_cut, *]; done) | (rw [lg_cmp_eq] at c_57; simp [z_cut, *]; done), rfl⟩
  refine zx_case (v := 2) (fun c_4_2 => ?_) (fun c_4_2 => ?_)
  · refine zx_tblIn (t := 50) (off := 46) dX6_cut_4 (by rw [c_4_2]; decide) (by rw [c_4_2]; decide) (by rw [c_4_2]; rfl) (by decide) ?_
    refine zx_lload_n (q := 51) dX6_cut_50 rfl rfl rfl ?_
    refine zx_l2i (q := 52) dX6_cut_51 rfl ?_
    refine zx_i2l (q := 53) dX6_cut_52 rfl ?_
    refine zx_lret dX6_cut_53 rfl (Nat.le_refl _) (Nat.le_refl _) ⟨_, rfl, ?_⟩
    exact ⟨by first | (simp [z_cut, *]; done) | (rw [lg_cmp_eq] at c_57; simp [z_cut, *]; done), rfl⟩
  refine zx_case (v := 3) (fun c_4_3 => ?_) (fun c_4_3 => ?_)
  · refine zx_tblIn (t := 66) (off := 62) dX6_cut_4 (by rw [c_4_3]; decide) (by rw [c_4_3]; decide) (by rw [c_4_3]; rfl) (by decide) ?_
    refine zx_lload_n (q := 67) dX6_cut_66 rfl rfl rfl ?_
    refine zx_lret dX6_cut_67 rfl (Nat.le_refl _) (Nat.le_refl _) ⟨_, rfl, ?_⟩
    exact ⟨by first | (simp [z_cut, *]; done) | (rw [lg_cmp_eq] at c_57; simp [z_cut, *]; done), rfl⟩
  refine zx_case (v := 4) (fun c_4_4 => ?_) (fun c_4_4 => ?_)
  · refine zx_tblIn (t := 54) (off := 50) dX6_cut_4 (by rw [c_4_4]; decide) (by rw [c_4_4]; decide) (by rw [c_4_4]; rfl) (by decide) ?_
    refine zx_lload_n (q := 55) dX6_cut_54 rfl rfl rfl ?_
    refine zx_lconst (q := 56) (v := 0) dX6_cut_55 (by decide) rfl ?_
    refine zx_lcmp (q := 57) dX6_cut_56 rfl ?_
    refine zx_if_eq (q := 60) (t := 64) dX6_cut_57 (by decide) rfl (fun c_57 => ?_) (fun c_57 => ?_)
    · refine zx_lconst (q := 65) (v := 0) dX6_cut_64 (by decide) rfl ?_
      refine zx_lret dX6_cut_65 rfl (Nat.le_refl _) (Nat.le_refl _) ⟨_, rfl, ?_⟩
      exact ⟨by first | (simp [z_cut, *]; done) | (rw [lg_cmp_eq] at c_57; simp [z_cut, *]; done), rfl⟩
    · refine zx_lconst (q := 61) (v := 1) dX6_cut_60 (by decide) rfl ?_
      refine zx_goto (t := 65) dX6_cut_61 (by decide) ?_
      refine zx_lret dX6_cut_65 rfl (Nat.le_refl _) (Nat.le_refl _) ⟨_, rfl, ?_⟩
      exact ⟨by first | (simp [z_cut, *]; done) | (rw [lg_cmp_eq] at c_57; simp [z_cut, *]; done), rfl⟩
  refine zx_tblOut (t := 66) dX6_cut_4 (by have z0 := lv_neT (a := 0) c_4_0 (by decide); have z1 := lv_neT (a := 1) c_4_1 (by decide); have z2 := lv_neT (a := 2) c_4_2 (by decide); have z3 := lv_neT (a := 3) c_4_3 (by decide); have z4 := lv_neT (a := 4) c_4_4 (by decide); omega) (by decide) ?_
  refine zx_lload_n (q := 67) dX6_cut_66 rfl rfl rfl ?_
  refine zx_lret dX6_cut_67 rfl (Nat.le_refl _) (Nat.le_refl _) ⟨_, rfl, ?_⟩
  exact ⟨by first | (simp [z_cut, *]; done) | (rw [lg_cmp_eq] at c_57; simp [z_cut, *]; done), rfl⟩
theorem t_X8_narrow (d : Nat) (s : Int32) (v : Int64) : zCall l D tc A mX8_narrow d 0 0 [.ref 108, .int s, .long v] S (zQl fun r S' => r = z_cut s v ∧ S' = S) := by
  show zW l D tc A mX8_narrow d 0 0 0 0 0 [some (.ref 108), some (.int s), some (.long v), none] [] S _
  refine zx_iload_n (q := 1) dX8_narrow_0 rfl rfl rfl ?_
  refine zx_if_ne (q := 4) (t := 11) dX8_narrow_1 (by decide) rfl (fun c_1 => ?_) (fun c_1 => ?_)
  · refine zx_iload_n (q := 12) dX8_narrow_11 rfl rfl rfl ?_
    refine zx_iconst (q := 13) (v := 1) dX8_narrow_12 (by decide) rfl ?_
    refine zx_icmp_ne (q := 16) (t := 23) dX8_narrow_13 (by decide) rfl (fun c_13 => ?_) (fun c_13 => ?_)
    · refine zx_iload_n (q := 24) dX8_narrow_23 rfl rfl rfl ?_
      refine zx_iconst (q := 25) (v := 2) dX8_narrow_24 (by decide) rfl ?_
      refine zx_icmp_ne (q := 28) (t := 34) dX8_narrow_25 (by decide) rfl (fun c_25 => ?_) (fun c_25 => ?_)
      · refine zx_iload_n (q := 35) dX8_narrow_34 rfl rfl rfl ?_
        refine zx_iconst (q := 36) (v := 4) dX8_narrow_35 (by decide) rfl ?_
        refine zx_icmp_ne (q := 39) (t := 53) dX8_narrow_36 (by decide) rfl (fun c_36 => ?_) (fun c_36 => ?_)
        · refine zx_lload_n (q := 54) dX8_narrow_53 rfl rfl rfl ?_
          refine zx_lret dX8_narrow_54 rfl (Nat.le_refl _) (Nat.le_refl _) ⟨_, rfl, ?_⟩
          exact ⟨by first | (simp [z_cut, *]; done) | (rw [lg_cmp_eq] at c_42; simp [z_cut, *]; done), rfl⟩
        · refine zx_lload_n (q := 40) dX8_narrow_39 rfl rfl rfl ?_
          refine zx_lconst (q := 41) (v := 0) dX8_narrow_40 (by decide) rfl ?_
          refine zx_lcmp (q := 42) dX8_narrow_41 rfl ?_
          refine zx_if_eq (q := 45) (t := 49) dX8_narrow_42 (by decide) rfl (fun c_42 => ?_) (fun c_42 => ?_)
          · refine zx_lconst (q := 50) (v := 0) dX8_narrow_49 (by decide) rfl ?_
            refine zx_goto (t := 54) dX8_narrow_50 (by decide) ?_
            refine zx_lret dX8_narrow_54 rfl (Nat.le_refl _) (Nat.le_refl _) ⟨_, rfl, ?_⟩
            exact ⟨by first | (simp [z_cut, *]; done) | (rw [lg_cmp_eq] at c_42; simp [z_cut, *]; done), rfl⟩
          · refine zx_lconst (q := 46) (v := 1) dX8_narrow_45 (by decide) rfl ?_
            refine zx_goto (t := 54) dX8_narrow_46 (by decide) ?_
            refine zx_lret dX8_narrow_54 rfl (Nat.le_refl _) (Nat.le_refl _) ⟨_, rfl, ?_⟩
            exact ⟨by first | (simp [z_cut, *]; done) | (rw [lg_cmp_eq] at c_42; simp [z_cut, *]; done), rfl⟩
      · refine zx_lload_n (q := 29) dX8_narrow_28 rfl rfl rfl ?_
        refine zx_l2i (q := 30) dX8_narrow_29 rfl ?_
        refine zx_i2l (q := 31) dX8_narrow_30 rfl ?_
        refine zx_goto (t := 54) dX8_narrow_31 (by decide) ?_
        refine zx_lret dX8_narrow_54 rfl (Nat.le_refl _) (Nat.le_refl _) ⟨_, rfl, ?_⟩
        exact ⟨by first | (simp [z_cut, *]; done) | (rw [lg_cmp_eq] at c_42; simp [z_cut, *]; done), rfl⟩
    · refine zx_lload_n (q := 17) dX8_narrow_16 rfl rfl rfl ?_
      refine zx_l2i (q := 18) dX8_narrow_17 rfl ?_
      refine zx_i2s (q := 19) dX8_narrow_18 rfl ?_
      refine zx_i2l (q := 20) dX8_narrow_19 rfl ?_
      refine zx_goto (t := 54) dX8_narrow_20 (by decide) ?_
      refine zx_lret dX8_narrow_54 rfl (Nat.le_refl _) (Nat.le_refl _) ⟨_, rfl, ?_⟩
      exact ⟨by first | (simp [z_cut, *]; done) | (rw [lg_cmp_eq] at c_42; simp [z_cut, *]; done), rfl⟩
  · refine zx_lload_n (q := 5) dX8_narrow_4 rfl rfl rfl ?_
    refine zx_l2i (q := 6) dX8_narrow_5 rfl ?_
    refine zx_i2b (q := 7) dX8_narrow_6 rfl ?_
    refine zx_i2l (q := 8) dX8_narrow_7 rfl ?_
    refine zx_goto (t := 54) dX8_narrow_8 (by decide) ?_
    refine zx_lret dX8_narrow_54 rfl (Nat.le_refl _) (Nat.le_refl _) ⟨_, rfl, ?_⟩
    exact ⟨by first | (simp [z_cut, *]; done) | (rw [lg_cmp_eq] at c_42; simp [z_cut, *]; done), rfl⟩
theorem t_X6_put (d t : Nat) (ht : t < 6) (j : Nat) (hj : j < 60) (v : Int64) : zCall l D tc A mX6_put (d + 1) 0 0 [.ref (96 + 2 * t), .int (nI j), .long v] (zs gi gl f) (zQv fun S' => S' = zs gi (zw_u gl (97 + 2 * t) j (z_cut (gi (96 + 2 * t) 0) v)) f) := by
  show zW l D tc A mX6_put (d + 1) 0 0 0 0 0 [some (.ref (96 + 2 * t)), some (.int (nI j)), some (.long v), none] [] (zs gi gl f) _
  refine zx_aload_n (q := 1) dX6_put_0 rfl rfl rfl ?_
  refine zy_getR (q := 4) dX6_put_1 fl_RX6_15 rfl (zr_65 (f := f) ht).2.1 (zr_65 ht).2.2.1 rfl ?_
  refine zx_iload_n (q := 5) dX6_put_4 rfl rfl rfl ?_
  refine zx_aload_n (q := 6) dX6_put_5 rfl rfl rfl ?_
  refine zx_lload_n (q := 7) dX6_put_6 rfl rfl rfl ?_
  refine zx_callV1l (q := 10) (y' := mX6_cut) dX6_put_7 ml_RX6_32 ok_mX6_cut (zr_65 (f := f) ht).2.1 (by decide) rfl (Nat.le_of_ble_eq_true rfl) (Nat.le_of_ble_eq_true rfl) (Nat.le_refl _) (Nat.le_refl _) rfl (t_X6_cut _ t ht v) ?_
  rintro _ _ ⟨rfl, rfl⟩
  refine zy_lastN (q := 11) dX6_put_10 (zr_65 (f := f) ht).2.2.2 (by omega) (by first | decide | omega) rfl ?_
  refine zx_vret dX6_put_11 rfl (Nat.le_refl _) (Nat.le_refl _) ⟨rfl, ?_⟩
  rfl
theorem lp_fill (d b w : Nat) (v : Int64) (hb : zg_sh[b]? = some (4, w)) (hw : w < 1000) : ∀ (k i : Nat), i + k = w → zW l D tc A mJ7_fill_d0a16 d 0 0 0 0 6 [some (.ref b), some (.long v), none, some (.int (nI i)), some (.int (nI w))] [] (zs gi (zw_fill gl b 0 i v) f) (zQv fun S' => S' = zs gi (zw_fill gl b 0 w v) f) := by
  intro k
  induction k using Nat.strongRecOn with
  | _ k ih =>
    intro i hi
    refine zx_iload_n (q := 7) dJ7_fill_d0a16_6 rfl rfl rfl ?_
    refine zx_iload (q := 9) dJ7_fill_d0a16_7 rfl rfl ?_
    refine zx_icmp_ge (q := 12) (t := 22) dJ7_fill_d0a16_9 (by decide) rfl (fun c_9 => ?_) (fun c_9 => ?_)
    · have hi2 : i = w := by have := z_ge (x := nI w) rfl (by omega) c_9; omega
      refine zx_vret dJ7_fill_d0a16_22 rfl (Nat.le_refl _) (Nat.le_refl _) ⟨rfl, ?_⟩
      rw [hi2]
    · have hi2 : i < w := z_lt (x := nI w) rfl (by omega) c_9
      refine zx_aload_n (q := 13) dJ7_fill_d0a16_12 rfl rfl rfl ?_
      refine zx_iload_n (q := 14) dJ7_fill_d0a16_13 rfl rfl rfl ?_
      refine zx_lload_n (q := 15) dJ7_fill_d0a16_14 rfl rfl rfl ?_
      refine zy_lastN (q := 16) dJ7_fill_d0a16_15 hb (by omega) (by first | decide | omega) rfl ?_
      refine zx_iinc3 (q := 19) dJ7_fill_d0a16_16 rfl rfl ?_
      refine zx_goto (t := 6) dJ7_fill_d0a16_19 (by decide) ?_
      rw [z_inc, zw_fill_s _ (by omega)]
      exact ih (k - 1) (by omega) (i + 1) (by omega)
theorem t_fill (d b w : Nat) (v : Int64) (hb : zg_sh[b]? = some (4, w)) (hw : w < 1000) : zCall l D tc A mJ7_fill_d0a16 d 0 0 [.ref b, .long v] (zs gi gl f) (zQv fun S' => S' = zs gi (zw_fill gl b 0 w v) f) := by
  show zW l D tc A mJ7_fill_d0a16 d 0 0 0 0 0 [some (.ref b), some (.long v), none, none, none] [] (zs gi gl f) _
  refine zx_iconst (q := 1) (v := 0) dJ7_fill_d0a16_0 (by decide) rfl ?_
  refine zx_istore3 (q := 2) dJ7_fill_d0a16_1 rfl rfl ?_
  refine zx_aload_n (q := 3) dJ7_fill_d0a16_2 rfl rfl rfl ?_
  refine zy_alen (q := 4) dJ7_fill_d0a16_3 hb (by decide) rfl rfl ?_
  refine zx_istore4 (q := 6) dJ7_fill_d0a16_4 rfl rfl ?_
  have h := lp_fill (l := l) (D := D) (tc := tc) (A := A) (gi := gi) (gl := gl) (f := f) d b w v hb hw w 0 (by omega)
  rw [zw_fill_0] at h
  exact h
theorem z_rel_tape (h : zRel gi gl) {t : Nat} (ht : t < 6) {s : Int32} (hs : z_rg (-1) 4 s) {n : Nat} (hn : n ≤ 60) (h0 : s = -1 → n = 0) : zRel (zw_u (zw_u (zw_u (zw_u gi (96 + 2 * t) 0 s) (96 + 2 * t) 1 (nI n)) 146 t s) 147 t (nI n)) (zw_fill (zw_fill gl (97 + 2 * t) 0 60 0) 148 (60 * t) (60 * t + 60) 0) := by
  refine zRel_tape h (fun hT => ?_) (fun k i a b => by rw [z_u_ne _ _ (by omega), z_u_ne _ _ (by omega), z_u_ne _ _ (by omega), z_u_ne _ _ (by omega)])
  intro q hq
  by_cases e : q = t
  · subst e
    refine ⟨n, hn, ⟨?_, ?_⟩, ⟨?_, ?_⟩, ?_, fun k hk => ?_⟩
    · rw [z_u_ne _ _ (by omega), z_u_ne _ _ (by omega), z_u_ne _ _ (by omega), z_u_at, z_u_ne _ _ (by omega), z_u_at]
    · rw [z_u_ne _ _ (by omega), z_u_at]; exact hs
    · rw [z_u_ne _ _ (by omega), z_u_ne _ _ (by omega), z_u_at]
    · rw [z_u_at]
    · rw [z_u_ne _ _ (by omega), z_u_at]; exact h0
    · unfold zw_fill
      rw [if_neg (by omega), if_pos (by omega), if_pos (by omega)]
  · obtain ⟨len, g0, g1, g2, g3, g4⟩ := hT q hq
    refine ⟨len, g0, ?_, ?_, ?_, fun k hk => ?_⟩
    · rw [z_u_ne _ _ (by omega), z_u_ne _ _ (by omega), z_u_ne _ _ (by omega), z_u_ne _ _ (by omega), z_u_ne _ _ (by omega), z_u_ne _ _ (by omega), z_u_ne _ _ (by omega), z_u_ne _ _ (by omega)]; exact g1
    · rw [z_u_ne _ _ (by omega), z_u_ne _ _ (by omega), z_u_ne _ _ (by omega), z_u_ne _ _ (by omega), z_u_ne _ _ (by omega), z_u_ne _ _ (by omega), z_u_ne _ _ (by omega), z_u_ne _ _ (by omega)]; exact g2
    · rw [z_u_ne _ _ (by omega), z_u_ne _ _ (by omega), z_u_ne _ _ (by omega), z_u_ne _ _ (by omega)]; exact g3
    · unfold zw_fill
      rw [if_neg (by omega), if_neg (by omega), if_neg (by omega), if_neg (by omega)]; exact g4 k hk
theorem z_rel_item (h : zRel gi gl) {t j : Nat} (ht : t < 6) (hj : j < 60) {v : Int64} : zRel gi (zw_u (zw_u gl (97 + 2 * t) j v) 148 (60 * t + j) v) := by
  refine zRel_tape h (fun hT => ?_) (fun k i a b => rfl)
  intro q hq
  obtain ⟨len, g0, g1, g2, g3, g4⟩ := hT q hq
  refine ⟨len, g0, g1, g2, g3, fun k hk => ?_⟩
  by_cases e : q = t ∧ k = j
  · obtain ⟨e1, e2⟩ := e
    subst e1
    subst e2
    rw [z_u_ne _ _ (by omega), z_u_at, z_u_at]
  · rw [z_u_ne _ _ (by omega), z_u_ne _ _ (by omega), z_u_ne _ _ (by omega), z_u_ne _ _ (by omega)]; exact g4 k hk
set_option maxHeartbeats 4000000 in
theorem op_read (d : Nat) (a : Int32) (b : Int32) (hR : zRel gi gl) : zOpL l D tc A mX7_read mX8_read (d + 2) [.int a, .int b] gi gl f := by
  obtain ⟨nf, ⟨hf0, hf1, hf2⟩, ⟨ns, nb, mm, ⟨hns, hnb, hmm⟩, ⟨hs1, hs2⟩, ⟨hm1, hm2⟩, ⟨hb1, hb2⟩, ⟨hx1, hx2⟩, hSs, hSn, hSt, hSb⟩, ⟨him, hik⟩, ⟨len, hlen, ht1, ht2, ht3⟩, ⟨ra, hra, ha1, ha2, ha3⟩, hTP, ho, hF, hLt⟩ := id hR
  by_cases h1 : z_in a 0 5 = true
  · obtain ⟨t, ht0, rfl⟩ := z_inT 5 (by decide) h1
    obtain ⟨ln, hln, ⟨hso, hsr⟩, ⟨hl1, hl2⟩, hemp, hit⟩ := hTP t (by omega)
    by_cases h2 : z_in b 0 (nI ln - 1) = true
    · obtain ⟨j, hj, rfl⟩ := z_inG (by omega) h2
      show zW l D tc A mX7_read (d + 2) 0 0 0 0 0 [some (.ref 0), some (.int (nI t)), some (.int (nI j))] [] (zs gi gl f) _
      refine zx_iload_n (q := 1) dX7_read_0 rfl rfl rfl ?_
      refine zx_callS1i (q := 4) (y' := mX7_isTape) dX7_read_1 ml_RX7_236 ok_mX7_isTape (Nat.le_of_ble_eq_true rfl) (Nat.le_of_ble_eq_true rfl) (Nat.le_refl _) (Nat.le_refl _) rfl (t_X7_isTape _ _) ?_
      rintro _ _ ⟨rfl, rfl⟩
      refine zx_if_eq_f (t := 34) (q := 7) dX7_read_4 (by decide) rfl (zk_t h1) ?_
      refine zx_aload_n (q := 8) dX7_read_7 rfl rfl rfl ?_
      refine zy_getR (q := 11) dX7_read_8 fl_RX7_68 rfl rfl rfl rfl ?_
      refine zx_iload_n (q := 12) dX7_read_11 rfl rfl rfl ?_
      refine zy_aaldN (q := 13) dX7_read_12 rfl (by decide) (by omega) (by decide) (zr_65 (by omega)).1 rfl ?_
      refine zx_iload_n (q := 14) dX7_read_13 rfl rfl rfl ?_
      refine zx_callV1i (q := 17) (y' := mX6_has) dX7_read_14 ml_RX7_246 ok_mX6_has (zr_65 (f := f) (by omega)).2.1 (by decide) rfl (Nat.le_of_ble_eq_true rfl) (Nat.le_of_ble_eq_true rfl) (Nat.le_refl _) (Nat.le_refl _) rfl (t_X6_has _ t (by omega) _ hl1) ?_
      rintro _ _ ⟨rfl, rfl⟩
      refine zx_if_eq_f (t := 34) (q := 20) dX7_read_17 (by decide) rfl (zk_t h2) ?_
      refine zx_aload_n (q := 21) dX7_read_20 rfl rfl rfl ?_
      refine zy_getR (q := 24) dX7_read_21 fl_RX7_68 rfl rfl rfl rfl ?_
      refine zx_iload_n (q := 25) dX7_read_24 rfl rfl rfl ?_
      refine zy_aaldN (q := 26) dX7_read_25 rfl (by decide) (by omega) (by decide) (zr_65 (by omega)).1 rfl ?_
      refine zy_getR (q := 29) dX7_read_26 fl_RX7_249 rfl (zr_65 (f := f) (by omega)).2.1 (zr_65 (by omega)).2.2.1 rfl ?_
      refine zx_iload_n (q := 30) dX7_read_29 rfl rfl rfl ?_
      refine zy_laldN (q := 31) dX7_read_30 (zr_65 (f := f) (by omega)).2.2.2 (by omega) (by first | decide | omega) rfl ?_
      refine zx_goto (t := 37) dX7_read_31 (by decide) ?_
      refine zx_lret dX7_read_37 rfl (Nat.le_refl _) (Nat.le_refl _) ⟨_, rfl, ?_⟩
      refine ⟨_, _, _, rfl, ?_⟩
      show zW l D tc A mX8_read (d + 2) 0 0 0 0 0 [some (.ref 108), some (.int (nI t)), some (.int (nI j))] [] (zs _ _ _) _
      refine zx_aload_n (q := 1) dX8_read_0 rfl rfl rfl ?_
      refine zx_iload_n (q := 2) dX8_read_1 rfl rfl rfl ?_
      refine zx_callV1i (q := 5) (y' := mX8_isTape) dX8_read_2 ml_RX8_342 ok_mX8_isTape rfl (by decide) rfl (Nat.le_of_ble_eq_true rfl) (Nat.le_of_ble_eq_true rfl) (Nat.le_refl _) (Nat.le_refl _) rfl (t_X8_isTape _ _) ?_
      rintro _ _ ⟨rfl, rfl⟩
      refine zx_if_eq_f (t := 34) (q := 8) dX8_read_5 (by decide) rfl (zk_t h1) ?_
      refine zx_aload_n (q := 9) dX8_read_8 rfl rfl rfl ?_
      refine zy_getR (q := 12) dX8_read_9 fl_RX8_187 rfl rfl rfl rfl ?_
      refine zx_iload_n (q := 13) dX8_read_12 rfl rfl rfl ?_
      refine zy_ialdN (q := 14) dX8_read_13 rfl (by omega) (by first | decide | omega) rfl ?_
      refine zx_if_lt_f (t := 34) (q := 17) dX8_read_14 (by decide) rfl (fun z => by rw [← hso] at z hsr; unfold z_rg at hsr; rw [Int32.lt_iff_toInt_lt] at z; have q := hemp (by rw [← hso, z_eqI, z_m1]; simp only [Int32.reduceToInt] at z; omega); omega) ?_
      refine zx_aload_n (q := 18) dX8_read_17 rfl rfl rfl ?_
      refine zx_iload_n (q := 19) dX8_read_18 rfl rfl rfl ?_
      refine zx_iconst (q := 20) (v := 0) dX8_read_19 (by decide) rfl ?_
      refine zx_aload_n (q := 21) dX8_read_20 rfl rfl rfl ?_
      refine zy_getR (q := 24) dX8_read_21 fl_RX8_190 rfl rfl rfl rfl ?_
      refine zx_iload_n (q := 25) dX8_read_24 rfl rfl rfl ?_
      refine zy_ialdN (q := 26) dX8_read_25 rfl (by omega) (by first | decide | omega) rfl ?_
      rw [hl2]
      refine zx_iconst (q := 27) (v := 1) dX8_read_26 (by decide) rfl ?_
      refine zx_isub (q := 28) dX8_read_27 rfl ?_
      refine zx_callV3i (q := 31) (y' := mX8_in) dX8_read_28 ml_RX8_200 ok_mX8_in rfl (by decide) rfl (Nat.le_of_ble_eq_true rfl) (Nat.le_of_ble_eq_true rfl) (Nat.le_refl _) (Nat.le_refl _) rfl (t_X8_in _ _ _ _ _) ?_
      rintro _ _ ⟨rfl, rfl⟩
      refine zx_if_ne_t (t := 40) (q := 34) dX8_read_31 (by decide) rfl (zk_t h2) ?_
      refine zx_aload_n (q := 41) dX8_read_40 rfl rfl rfl ?_
      refine zy_getR (q := 44) dX8_read_41 fl_RX8_193 rfl rfl rfl rfl ?_
      refine zx_bipush (q := 46) (v := 60) dX8_read_44 (by decide) rfl ?_
      refine zx_iload_n (q := 47) dX8_read_46 rfl rfl rfl ?_
      refine zx_imul (q := 48) dX8_read_47 rfl ?_
      refine zx_iload_n (q := 49) dX8_read_48 rfl rfl rfl ?_
      refine zx_iadd (q := 50) dX8_read_49 rfl ?_
      rw [z_60]
      refine zy_laldN (q := 51) dX8_read_50 rfl (by omega) (by first | decide | omega) rfl ?_
      refine zx_lret dX8_read_51 rfl (Nat.le_refl _) (Nat.le_refl _) ⟨_, rfl, ?_⟩
      exact ⟨(hit j (by omega)).symm, _, _, _, rfl, hR⟩
    · show zW l D tc A mX7_read (d + 2) 0 0 0 0 0 [some (.ref 0), some (.int (nI t)), some (.int b)] [] (zs gi gl f) _
      refine zx_iload_n (q := 1) dX7_read_0 rfl rfl rfl ?_
      refine zx_callS1i (q := 4) (y' := mX7_isTape) dX7_read_1 ml_RX7_236 ok_mX7_isTape (Nat.le_of_ble_eq_true rfl) (Nat.le_of_ble_eq_true rfl) (Nat.le_refl _) (Nat.le_refl _) rfl (t_X7_isTape _ _) ?_
      rintro _ _ ⟨rfl, rfl⟩
      refine zx_if_eq_f (t := 34) (q := 7) dX7_read_4 (by decide) rfl (zk_t h1) ?_
      refine zx_aload_n (q := 8) dX7_read_7 rfl rfl rfl ?_
      refine zy_getR (q := 11) dX7_read_8 fl_RX7_68 rfl rfl rfl rfl ?_
      refine zx_iload_n (q := 12) dX7_read_11 rfl rfl rfl ?_
      refine zy_aaldN (q := 13) dX7_read_12 rfl (by decide) (by omega) (by decide) (zr_65 (by omega)).1 rfl ?_
      refine zx_iload_n (q := 14) dX7_read_13 rfl rfl rfl ?_
      refine zx_callV1i (q := 17) (y' := mX6_has) dX7_read_14 ml_RX7_246 ok_mX6_has (zr_65 (f := f) (by omega)).2.1 (by decide) rfl (Nat.le_of_ble_eq_true rfl) (Nat.le_of_ble_eq_true rfl) (Nat.le_refl _) (Nat.le_refl _) rfl (t_X6_has _ t (by omega) _ hl1) ?_
      rintro _ _ ⟨rfl, rfl⟩
      refine zx_if_eq_t (t := 34) (q := 20) dX7_read_17 (by decide) rfl (zk_f h2) ?_
      refine zx_ldc2 (q := 37) dX7_read_34 kl_RX7_225 rfl ?_
      refine zx_lret dX7_read_37 rfl (Nat.le_refl _) (Nat.le_refl _) ⟨_, rfl, ?_⟩
      refine ⟨_, _, _, rfl, ?_⟩
      show zW l D tc A mX8_read (d + 2) 0 0 0 0 0 [some (.ref 108), some (.int (nI t)), some (.int b)] [] (zs _ _ _) _
      refine zx_aload_n (q := 1) dX8_read_0 rfl rfl rfl ?_
      refine zx_iload_n (q := 2) dX8_read_1 rfl rfl rfl ?_
      refine zx_callV1i (q := 5) (y' := mX8_isTape) dX8_read_2 ml_RX8_342 ok_mX8_isTape rfl (by decide) rfl (Nat.le_of_ble_eq_true rfl) (Nat.le_of_ble_eq_true rfl) (Nat.le_refl _) (Nat.le_refl _) rfl (t_X8_isTape _ _) ?_
      rintro _ _ ⟨rfl, rfl⟩
      refine zx_if_eq_f (t := 34) (q := 8) dX8_read_5 (by decide) rfl (zk_t h1) ?_
      refine zx_aload_n (q := 9) dX8_read_8 rfl rfl rfl ?_
      refine zy_getR (q := 12) dX8_read_9 fl_RX8_187 rfl rfl rfl rfl ?_
      refine zx_iload_n (q := 13) dX8_read_12 rfl rfl rfl ?_
      refine zy_ialdN (q := 14) dX8_read_13 rfl (by omega) (by first | decide | omega) rfl ?_
      refine zx_if_lt (q := 17) (t := 34) dX8_read_14 (by decide) rfl (fun e_14 => ?_) (fun e_14 => ?_)
      · refine zx_ldc2 (q := 37) dX8_read_34 kl_RX8_336 rfl ?_
        refine zx_goto (t := 51) dX8_read_37 (by decide) ?_
        refine zx_lret dX8_read_51 rfl (Nat.le_refl _) (Nat.le_refl _) ⟨_, rfl, ?_⟩
        exact ⟨rfl, _, _, _, rfl, hR⟩
      · refine zx_aload_n (q := 18) dX8_read_17 rfl rfl rfl ?_
        refine zx_iload_n (q := 19) dX8_read_18 rfl rfl rfl ?_
        refine zx_iconst (q := 20) (v := 0) dX8_read_19 (by decide) rfl ?_
        refine zx_aload_n (q := 21) dX8_read_20 rfl rfl rfl ?_
        refine zy_getR (q := 24) dX8_read_21 fl_RX8_190 rfl rfl rfl rfl ?_
        refine zx_iload_n (q := 25) dX8_read_24 rfl rfl rfl ?_
        refine zy_ialdN (q := 26) dX8_read_25 rfl (by omega) (by first | decide | omega) rfl ?_
        rw [hl2]
        refine zx_iconst (q := 27) (v := 1) dX8_read_26 (by decide) rfl ?_
        refine zx_isub (q := 28) dX8_read_27 rfl ?_
        refine zx_callV3i (q := 31) (y' := mX8_in) dX8_read_28 ml_RX8_200 ok_mX8_in rfl (by decide) rfl (Nat.le_of_ble_eq_true rfl) (Nat.le_of_ble_eq_true rfl) (Nat.le_refl _) (Nat.le_refl _) rfl (t_X8_in _ _ _ _ _) ?_
        rintro _ _ ⟨rfl, rfl⟩
        refine zx_if_ne_f (t := 40) (q := 34) dX8_read_31 (by decide) rfl (zk_f h2) ?_
        refine zx_ldc2 (q := 37) dX8_read_34 kl_RX8_336 rfl ?_
        refine zx_goto (t := 51) dX8_read_37 (by decide) ?_
        refine zx_lret dX8_read_51 rfl (Nat.le_refl _) (Nat.le_refl _) ⟨_, rfl, ?_⟩
        exact ⟨rfl, _, _, _, rfl, hR⟩
  · show zW l D tc A mX7_read (d + 2) 0 0 0 0 0 [some (.ref 0), some (.int a), some (.int b)] [] (zs gi gl f) _
    refine zx_iload_n (q := 1) dX7_read_0 rfl rfl rfl ?_
    refine zx_callS1i (q := 4) (y' := mX7_isTape) dX7_read_1 ml_RX7_236 ok_mX7_isTape (Nat.le_of_ble_eq_true rfl) (Nat.le_of_ble_eq_true rfl) (Nat.le_refl _) (Nat.le_refl _) rfl (t_X7_isTape _ _) ?_
    rintro _ _ ⟨rfl, rfl⟩
    refine zx_if_eq_t (t := 34) (q := 7) dX7_read_4 (by decide) rfl (zk_f h1) ?_
    refine zx_ldc2 (q := 37) dX7_read_34 kl_RX7_225 rfl ?_
    refine zx_lret dX7_read_37 rfl (Nat.le_refl _) (Nat.le_refl _) ⟨_, rfl, ?_⟩
    refine ⟨_, _, _, rfl, ?_⟩
    show zW l D tc A mX8_read (d + 2) 0 0 0 0 0 [some (.ref 108), some (.int a), some (.int b)] [] (zs _ _ _) _
    refine zx_aload_n (q := 1) dX8_read_0 rfl rfl rfl ?_
    refine zx_iload_n (q := 2) dX8_read_1 rfl rfl rfl ?_
    refine zx_callV1i (q := 5) (y' := mX8_isTape) dX8_read_2 ml_RX8_342 ok_mX8_isTape rfl (by decide) rfl (Nat.le_of_ble_eq_true rfl) (Nat.le_of_ble_eq_true rfl) (Nat.le_refl _) (Nat.le_refl _) rfl (t_X8_isTape _ _) ?_
    rintro _ _ ⟨rfl, rfl⟩
    refine zx_if_eq_t (t := 34) (q := 8) dX8_read_5 (by decide) rfl (zk_f h1) ?_
    refine zx_ldc2 (q := 37) dX8_read_34 kl_RX8_336 rfl ?_
    refine zx_goto (t := 51) dX8_read_37 (by decide) ?_
    refine zx_lret dX8_read_51 rfl (Nat.le_refl _) (Nat.le_refl _) ⟨_, rfl, ?_⟩
    exact ⟨rfl, _, _, _, rfl, hR⟩
set_option maxHeartbeats 4000000 in
theorem op_item (d : Nat) (a : Int32) (b : Int32) (e : Int64) (hR : zRel gi gl) : zOpI l D tc A mX7_item mX8_item (d + 2) [.int a, .int b, .long e] gi gl f := by
  obtain ⟨nf, ⟨hf0, hf1, hf2⟩, ⟨ns, nb, mm, ⟨hns, hnb, hmm⟩, ⟨hs1, hs2⟩, ⟨hm1, hm2⟩, ⟨hb1, hb2⟩, ⟨hx1, hx2⟩, hSs, hSn, hSt, hSb⟩, ⟨him, hik⟩, ⟨len, hlen, ht1, ht2, ht3⟩, ⟨ra, hra, ha1, ha2, ha3⟩, hTP, ho, hF, hLt⟩ := id hR
  by_cases h1 : z_in a 0 5 = true
  · obtain ⟨t, ht0, rfl⟩ := z_inT 5 (by decide) h1
    obtain ⟨ln, hln, ⟨hso, hsr⟩, ⟨hl1, hl2⟩, hemp, hit⟩ := hTP t (by omega)
    by_cases h3 : gi 146 t = -1
    · show zW l D tc A mX7_item (d + 2) 0 0 0 0 0 [some (.ref 0), some (.int (nI t)), some (.int b), some (.long e), none] [] (zs gi gl f) _
      refine zx_iload_n (q := 1) dX7_item_0 rfl rfl rfl ?_
      refine zx_callS1i (q := 4) (y' := mX7_isTape) dX7_item_1 ml_RX7_236 ok_mX7_isTape (Nat.le_of_ble_eq_true rfl) (Nat.le_of_ble_eq_true rfl) (Nat.le_refl _) (Nat.le_refl _) rfl (t_X7_isTape _ _) ?_
      rintro _ _ ⟨rfl, rfl⟩
      refine zx_if_ne_t (t := 9) (q := 7) dX7_item_4 (by decide) rfl (zk_t h1) ?_
      refine zx_aload_n (q := 10) dX7_item_9 rfl rfl rfl ?_
      refine zy_getR (q := 13) dX7_item_10 fl_RX7_68 rfl rfl rfl rfl ?_
      refine zx_iload_n (q := 14) dX7_item_13 rfl rfl rfl ?_
      refine zy_aaldN (q := 15) dX7_item_14 rfl (by decide) (by omega) (by decide) (zr_65 (by omega)).1 rfl ?_
      refine zx_callV0i (q := 18) (y' := mX6_isEmpty) dX7_item_15 ml_RX7_239 ok_mX6_isEmpty (zr_65 (f := f) (by omega)).2.1 (by decide) rfl (Nat.le_of_ble_eq_true rfl) (Nat.le_of_ble_eq_true rfl) (Nat.le_refl _) (Nat.le_refl _) rfl (t_X6_isEmpty _ t (by omega)) ?_
      rintro _ _ ⟨rfl, rfl⟩
      refine zx_if_eq_f (t := 24) (q := 21) dX7_item_18 (by decide) rfl (zk_t (by rw [hso]; simp [h3])) ?_
      refine zx_bipush (q := 23) (v := (-11)) dX7_item_21 (by decide) rfl ?_
      refine zx_iret dX7_item_23 rfl (Nat.le_refl _) (Nat.le_refl _) ⟨_, rfl, ?_⟩
      refine ⟨_, _, _, rfl, ?_⟩
      show zW l D tc A mX8_item (d + 2) 0 0 0 0 0 [some (.ref 108), some (.int (nI t)), some (.int b), some (.long e), none] [] (zs _ _ _) _
      refine zx_aload_n (q := 1) dX8_item_0 rfl rfl rfl ?_
      refine zx_iload_n (q := 2) dX8_item_1 rfl rfl rfl ?_
      refine zx_callV1i (q := 5) (y' := mX8_isTape) dX8_item_2 ml_RX8_342 ok_mX8_isTape rfl (by decide) rfl (Nat.le_of_ble_eq_true rfl) (Nat.le_of_ble_eq_true rfl) (Nat.le_refl _) (Nat.le_refl _) rfl (t_X8_isTape _ _) ?_
      rintro _ _ ⟨rfl, rfl⟩
      refine zx_if_ne_t (t := 10) (q := 8) dX8_item_5 (by decide) rfl (zk_t h1) ?_
      refine zx_aload_n (q := 11) dX8_item_10 rfl rfl rfl ?_
      refine zy_getR (q := 14) dX8_item_11 fl_RX8_187 rfl rfl rfl rfl ?_
      refine zx_iload_n (q := 15) dX8_item_14 rfl rfl rfl ?_
      refine zy_ialdN (q := 16) dX8_item_15 rfl (by omega) (by first | decide | omega) rfl ?_
      refine zx_if_ge_f (t := 22) (q := 19) dX8_item_16 (by decide) rfl (by rw [h3]; decide) ?_
      refine zx_bipush (q := 21) (v := (-11)) dX8_item_19 (by decide) rfl ?_
      refine zx_iret dX8_item_21 rfl (Nat.le_refl _) (Nat.le_refl _) ⟨_, rfl, ?_⟩
      exact ⟨rfl, _, _, _, rfl, hR⟩
    · have h4 : (0 : Int32) ≤ gi 146 t := by unfold z_rg at hsr; rw [z_eqI, z_m1] at h3; rw [Int32.le_iff_toInt_le]; simp only [Int32.reduceToInt]; omega
      by_cases h2 : z_in b 0 (nI ln - 1) = true
      · obtain ⟨j, hj, rfl⟩ := z_inG (by omega) h2
        show zW l D tc A mX7_item (d + 2) 0 0 0 0 0 [some (.ref 0), some (.int (nI t)), some (.int (nI j)), some (.long e), none] [] (zs gi gl f) _
        refine zx_iload_n (q := 1) dX7_item_0 rfl rfl rfl ?_
        refine zx_callS1i (q := 4) (y' := mX7_isTape) dX7_item_1 ml_RX7_236 ok_mX7_isTape (Nat.le_of_ble_eq_true rfl) (Nat.le_of_ble_eq_true rfl) (Nat.le_refl _) (Nat.le_refl _) rfl (t_X7_isTape _ _) ?_
        rintro _ _ ⟨rfl, rfl⟩
        refine zx_if_ne_t (t := 9) (q := 7) dX7_item_4 (by decide) rfl (zk_t h1) ?_
        refine zx_aload_n (q := 10) dX7_item_9 rfl rfl rfl ?_
        refine zy_getR (q := 13) dX7_item_10 fl_RX7_68 rfl rfl rfl rfl ?_
        refine zx_iload_n (q := 14) dX7_item_13 rfl rfl rfl ?_
        refine zy_aaldN (q := 15) dX7_item_14 rfl (by decide) (by omega) (by decide) (zr_65 (by omega)).1 rfl ?_
        refine zx_callV0i (q := 18) (y' := mX6_isEmpty) dX7_item_15 ml_RX7_239 ok_mX6_isEmpty (zr_65 (f := f) (by omega)).2.1 (by decide) rfl (Nat.le_of_ble_eq_true rfl) (Nat.le_of_ble_eq_true rfl) (Nat.le_refl _) (Nat.le_refl _) rfl (t_X6_isEmpty _ t (by omega)) ?_
        rintro _ _ ⟨rfl, rfl⟩
        refine zx_if_eq_t (t := 24) (q := 21) dX7_item_18 (by decide) rfl (zk_f (by rw [hso]; simp [h3])) ?_
        refine zx_aload_n (q := 25) dX7_item_24 rfl rfl rfl ?_
        refine zy_getR (q := 28) dX7_item_25 fl_RX7_68 rfl rfl rfl rfl ?_
        refine zx_iload_n (q := 29) dX7_item_28 rfl rfl rfl ?_
        refine zy_aaldN (q := 30) dX7_item_29 rfl (by decide) (by omega) (by decide) (zr_65 (by omega)).1 rfl ?_
        refine zx_iload_n (q := 31) dX7_item_30 rfl rfl rfl ?_
        refine zx_callV1i (q := 34) (y' := mX6_has) dX7_item_31 ml_RX7_246 ok_mX6_has (zr_65 (f := f) (by omega)).2.1 (by decide) rfl (Nat.le_of_ble_eq_true rfl) (Nat.le_of_ble_eq_true rfl) (Nat.le_refl _) (Nat.le_refl _) rfl (t_X6_has _ t (by omega) _ hl1) ?_
        rintro _ _ ⟨rfl, rfl⟩
        refine zx_if_ne_t (t := 40) (q := 37) dX7_item_34 (by decide) rfl (zk_t h2) ?_
        refine zx_aload_n (q := 41) dX7_item_40 rfl rfl rfl ?_
        refine zy_getR (q := 44) dX7_item_41 fl_RX7_68 rfl rfl rfl rfl ?_
        refine zx_iload_n (q := 45) dX7_item_44 rfl rfl rfl ?_
        refine zy_aaldN (q := 46) dX7_item_45 rfl (by decide) (by omega) (by decide) (zr_65 (by omega)).1 rfl ?_
        refine zx_iload_n (q := 47) dX7_item_46 rfl rfl rfl ?_
        refine zx_lload_n (q := 48) dX7_item_47 rfl rfl rfl ?_
        refine zx_callV2v (q := 51) (y' := mX6_put) dX7_item_48 ml_RX7_285 ok_mX6_put (zr_65 (f := f) (by omega)).2.1 (by decide) rfl (Nat.le_of_ble_eq_true rfl) (Nat.le_of_ble_eq_true rfl) (Nat.le_refl _) (Nat.le_refl _) rfl (t_X6_put _ t (by omega) j (by omega) e) ?_
        rintro _ ⟨rfl⟩
        refine zx_iconst (q := 52) (v := 1) dX7_item_51 (by decide) rfl ?_
        refine zx_iret dX7_item_52 rfl (Nat.le_refl _) (Nat.le_refl _) ⟨_, rfl, ?_⟩
        refine ⟨_, _, _, rfl, ?_⟩
        show zW l D tc A mX8_item (d + 2) 0 0 0 0 0 [some (.ref 108), some (.int (nI t)), some (.int (nI j)), some (.long e), none] [] (zs _ _ _) _
        refine zx_aload_n (q := 1) dX8_item_0 rfl rfl rfl ?_
        refine zx_iload_n (q := 2) dX8_item_1 rfl rfl rfl ?_
        refine zx_callV1i (q := 5) (y' := mX8_isTape) dX8_item_2 ml_RX8_342 ok_mX8_isTape rfl (by decide) rfl (Nat.le_of_ble_eq_true rfl) (Nat.le_of_ble_eq_true rfl) (Nat.le_refl _) (Nat.le_refl _) rfl (t_X8_isTape _ _) ?_
        rintro _ _ ⟨rfl, rfl⟩
        refine zx_if_ne_t (t := 10) (q := 8) dX8_item_5 (by decide) rfl (zk_t h1) ?_
        refine zx_aload_n (q := 11) dX8_item_10 rfl rfl rfl ?_
        refine zy_getR (q := 14) dX8_item_11 fl_RX8_187 rfl rfl rfl rfl ?_
        refine zx_iload_n (q := 15) dX8_item_14 rfl rfl rfl ?_
        refine zy_ialdN (q := 16) dX8_item_15 rfl (by omega) (by first | decide | omega) rfl ?_
        refine zx_if_ge_t (t := 22) (q := 19) dX8_item_16 (by decide) rfl (h4) ?_
        refine zx_aload_n (q := 23) dX8_item_22 rfl rfl rfl ?_
        refine zx_iload_n (q := 24) dX8_item_23 rfl rfl rfl ?_
        refine zx_iconst (q := 25) (v := 0) dX8_item_24 (by decide) rfl ?_
        refine zx_aload_n (q := 26) dX8_item_25 rfl rfl rfl ?_
        refine zy_getR (q := 29) dX8_item_26 fl_RX8_190 rfl rfl rfl rfl ?_
        refine zx_iload_n (q := 30) dX8_item_29 rfl rfl rfl ?_
        refine zy_ialdN (q := 31) dX8_item_30 rfl (by omega) (by first | decide | omega) rfl ?_
        rw [hl2]
        refine zx_iconst (q := 32) (v := 1) dX8_item_31 (by decide) rfl ?_
        refine zx_isub (q := 33) dX8_item_32 rfl ?_
        refine zx_callV3i (q := 36) (y' := mX8_in) dX8_item_33 ml_RX8_200 ok_mX8_in rfl (by decide) rfl (Nat.le_of_ble_eq_true rfl) (Nat.le_of_ble_eq_true rfl) (Nat.le_refl _) (Nat.le_refl _) rfl (t_X8_in _ _ _ _ _) ?_
        rintro _ _ ⟨rfl, rfl⟩
        refine zx_if_ne_t (t := 42) (q := 39) dX8_item_36 (by decide) rfl (zk_t h2) ?_
        refine zx_aload_n (q := 43) dX8_item_42 rfl rfl rfl ?_
        refine zy_getR (q := 46) dX8_item_43 fl_RX8_193 rfl rfl rfl rfl ?_
        refine zx_bipush (q := 48) (v := 60) dX8_item_46 (by decide) rfl ?_
        refine zx_iload_n (q := 49) dX8_item_48 rfl rfl rfl ?_
        refine zx_imul (q := 50) dX8_item_49 rfl ?_
        refine zx_iload_n (q := 51) dX8_item_50 rfl rfl rfl ?_
        refine zx_iadd (q := 52) dX8_item_51 rfl ?_
        rw [z_60]
        refine zx_aload_n (q := 53) dX8_item_52 rfl rfl rfl ?_
        refine zx_aload_n (q := 54) dX8_item_53 rfl rfl rfl ?_
        refine zy_getR (q := 57) dX8_item_54 fl_RX8_187 rfl rfl rfl rfl ?_
        refine zx_iload_n (q := 58) dX8_item_57 rfl rfl rfl ?_
        refine zy_ialdN (q := 59) dX8_item_58 rfl (by omega) (by first | decide | omega) rfl ?_
        refine zx_lload_n (q := 60) dX8_item_59 rfl rfl rfl ?_
        refine zx_callV2l (q := 63) (y' := mX8_narrow) dX8_item_60 ml_RX8_369 ok_mX8_narrow rfl (by decide) rfl (Nat.le_of_ble_eq_true rfl) (Nat.le_of_ble_eq_true rfl) (Nat.le_refl _) (Nat.le_refl _) rfl (t_X8_narrow _ _ _) ?_
        rintro _ _ ⟨rfl, rfl⟩
        refine zy_lastN (q := 64) dX8_item_63 rfl (by omega) (by first | decide | omega) rfl ?_
        refine zx_iconst (q := 65) (v := 1) dX8_item_64 (by decide) rfl ?_
        refine zx_iret dX8_item_65 rfl (Nat.le_refl _) (Nat.le_refl _) ⟨_, rfl, ?_⟩
        exact ⟨rfl, _, _, _, rfl, by rw [hso]; exact z_rel_item hR (by omega) (by omega)⟩
      · show zW l D tc A mX7_item (d + 2) 0 0 0 0 0 [some (.ref 0), some (.int (nI t)), some (.int b), some (.long e), none] [] (zs gi gl f) _
        refine zx_iload_n (q := 1) dX7_item_0 rfl rfl rfl ?_
        refine zx_callS1i (q := 4) (y' := mX7_isTape) dX7_item_1 ml_RX7_236 ok_mX7_isTape (Nat.le_of_ble_eq_true rfl) (Nat.le_of_ble_eq_true rfl) (Nat.le_refl _) (Nat.le_refl _) rfl (t_X7_isTape _ _) ?_
        rintro _ _ ⟨rfl, rfl⟩
        refine zx_if_ne_t (t := 9) (q := 7) dX7_item_4 (by decide) rfl (zk_t h1) ?_
        refine zx_aload_n (q := 10) dX7_item_9 rfl rfl rfl ?_
        refine zy_getR (q := 13) dX7_item_10 fl_RX7_68 rfl rfl rfl rfl ?_
        refine zx_iload_n (q := 14) dX7_item_13 rfl rfl rfl ?_
        refine zy_aaldN (q := 15) dX7_item_14 rfl (by decide) (by omega) (by decide) (zr_65 (by omega)).1 rfl ?_
        refine zx_callV0i (q := 18) (y' := mX6_isEmpty) dX7_item_15 ml_RX7_239 ok_mX6_isEmpty (zr_65 (f := f) (by omega)).2.1 (by decide) rfl (Nat.le_of_ble_eq_true rfl) (Nat.le_of_ble_eq_true rfl) (Nat.le_refl _) (Nat.le_refl _) rfl (t_X6_isEmpty _ t (by omega)) ?_
        rintro _ _ ⟨rfl, rfl⟩
        refine zx_if_eq_t (t := 24) (q := 21) dX7_item_18 (by decide) rfl (zk_f (by rw [hso]; simp [h3])) ?_
        refine zx_aload_n (q := 25) dX7_item_24 rfl rfl rfl ?_
        refine zy_getR (q := 28) dX7_item_25 fl_RX7_68 rfl rfl rfl rfl ?_
        refine zx_iload_n (q := 29) dX7_item_28 rfl rfl rfl ?_
        refine zy_aaldN (q := 30) dX7_item_29 rfl (by decide) (by omega) (by decide) (zr_65 (by omega)).1 rfl ?_
        refine zx_iload_n (q := 31) dX7_item_30 rfl rfl rfl ?_
        refine zx_callV1i (q := 34) (y' := mX6_has) dX7_item_31 ml_RX7_246 ok_mX6_has (zr_65 (f := f) (by omega)).2.1 (by decide) rfl (Nat.le_of_ble_eq_true rfl) (Nat.le_of_ble_eq_true rfl) (Nat.le_refl _) (Nat.le_refl _) rfl (t_X6_has _ t (by omega) _ hl1) ?_
        rintro _ _ ⟨rfl, rfl⟩
        refine zx_if_ne_f (t := 40) (q := 37) dX7_item_34 (by decide) rfl (zk_f h2) ?_
        refine zx_bipush (q := 39) (v := (-13)) dX7_item_37 (by decide) rfl ?_
        refine zx_iret dX7_item_39 rfl (Nat.le_refl _) (Nat.le_refl _) ⟨_, rfl, ?_⟩
        refine ⟨_, _, _, rfl, ?_⟩
        show zW l D tc A mX8_item (d + 2) 0 0 0 0 0 [some (.ref 108), some (.int (nI t)), some (.int b), some (.long e), none] [] (zs _ _ _) _
        refine zx_aload_n (q := 1) dX8_item_0 rfl rfl rfl ?_
        refine zx_iload_n (q := 2) dX8_item_1 rfl rfl rfl ?_
        refine zx_callV1i (q := 5) (y' := mX8_isTape) dX8_item_2 ml_RX8_342 ok_mX8_isTape rfl (by decide) rfl (Nat.le_of_ble_eq_true rfl) (Nat.le_of_ble_eq_true rfl) (Nat.le_refl _) (Nat.le_refl _) rfl (t_X8_isTape _ _) ?_
        rintro _ _ ⟨rfl, rfl⟩
        refine zx_if_ne_t (t := 10) (q := 8) dX8_item_5 (by decide) rfl (zk_t h1) ?_
        refine zx_aload_n (q := 11) dX8_item_10 rfl rfl rfl ?_
        refine zy_getR (q := 14) dX8_item_11 fl_RX8_187 rfl rfl rfl rfl ?_
        refine zx_iload_n (q := 15) dX8_item_14 rfl rfl rfl ?_
        refine zy_ialdN (q := 16) dX8_item_15 rfl (by omega) (by first | decide | omega) rfl ?_
        refine zx_if_ge_t (t := 22) (q := 19) dX8_item_16 (by decide) rfl (h4) ?_
        refine zx_aload_n (q := 23) dX8_item_22 rfl rfl rfl ?_
        refine zx_iload_n (q := 24) dX8_item_23 rfl rfl rfl ?_
        refine zx_iconst (q := 25) (v := 0) dX8_item_24 (by decide) rfl ?_
        refine zx_aload_n (q := 26) dX8_item_25 rfl rfl rfl ?_
        refine zy_getR (q := 29) dX8_item_26 fl_RX8_190 rfl rfl rfl rfl ?_
        refine zx_iload_n (q := 30) dX8_item_29 rfl rfl rfl ?_
        refine zy_ialdN (q := 31) dX8_item_30 rfl (by omega) (by first | decide | omega) rfl ?_
        rw [hl2]
        refine zx_iconst (q := 32) (v := 1) dX8_item_31 (by decide) rfl ?_
        refine zx_isub (q := 33) dX8_item_32 rfl ?_
        refine zx_callV3i (q := 36) (y' := mX8_in) dX8_item_33 ml_RX8_200 ok_mX8_in rfl (by decide) rfl (Nat.le_of_ble_eq_true rfl) (Nat.le_of_ble_eq_true rfl) (Nat.le_refl _) (Nat.le_refl _) rfl (t_X8_in _ _ _ _ _) ?_
        rintro _ _ ⟨rfl, rfl⟩
        refine zx_if_ne_f (t := 42) (q := 39) dX8_item_36 (by decide) rfl (zk_f h2) ?_
        refine zx_bipush (q := 41) (v := (-13)) dX8_item_39 (by decide) rfl ?_
        refine zx_iret dX8_item_41 rfl (Nat.le_refl _) (Nat.le_refl _) ⟨_, rfl, ?_⟩
        exact ⟨rfl, _, _, _, rfl, hR⟩
  · show zW l D tc A mX7_item (d + 2) 0 0 0 0 0 [some (.ref 0), some (.int a), some (.int b), some (.long e), none] [] (zs gi gl f) _
    refine zx_iload_n (q := 1) dX7_item_0 rfl rfl rfl ?_
    refine zx_callS1i (q := 4) (y' := mX7_isTape) dX7_item_1 ml_RX7_236 ok_mX7_isTape (Nat.le_of_ble_eq_true rfl) (Nat.le_of_ble_eq_true rfl) (Nat.le_refl _) (Nat.le_refl _) rfl (t_X7_isTape _ _) ?_
    rintro _ _ ⟨rfl, rfl⟩
    refine zx_if_ne_f (t := 9) (q := 7) dX7_item_4 (by decide) rfl (zk_f h1) ?_
    refine zx_iconst (q := 8) (v := (-1)) dX7_item_7 (by decide) rfl ?_
    refine zx_iret dX7_item_8 rfl (Nat.le_refl _) (Nat.le_refl _) ⟨_, rfl, ?_⟩
    refine ⟨_, _, _, rfl, ?_⟩
    show zW l D tc A mX8_item (d + 2) 0 0 0 0 0 [some (.ref 108), some (.int a), some (.int b), some (.long e), none] [] (zs _ _ _) _
    refine zx_aload_n (q := 1) dX8_item_0 rfl rfl rfl ?_
    refine zx_iload_n (q := 2) dX8_item_1 rfl rfl rfl ?_
    refine zx_callV1i (q := 5) (y' := mX8_isTape) dX8_item_2 ml_RX8_342 ok_mX8_isTape rfl (by decide) rfl (Nat.le_of_ble_eq_true rfl) (Nat.le_of_ble_eq_true rfl) (Nat.le_refl _) (Nat.le_refl _) rfl (t_X8_isTape _ _) ?_
    rintro _ _ ⟨rfl, rfl⟩
    refine zx_if_ne_f (t := 10) (q := 8) dX8_item_5 (by decide) rfl (zk_f h1) ?_
    refine zx_iconst (q := 9) (v := (-1)) dX8_item_8 (by decide) rfl ?_
    refine zx_iret dX8_item_9 rfl (Nat.le_refl _) (Nat.le_refl _) ⟨_, rfl, ?_⟩
    exact ⟨rfl, _, _, _, rfl, hR⟩
end P18
