/-! the reference's sums of clauses -/
section P31
variable {l : Launch} {D : va_G} {tc : Nat → ClassId} {A : Nat → Prop} {S : zw_S} {gi : Nat → Nat → Int32} {gl : Nat → Nat → Int64} {f : Option Nat}
theorem t_X8_begin (d : Nat) (hM : zIsM gi) : zCall l D tc A mX8_begin d 0 0 [.ref 108] (zs gi gl f) (zQi fun r S' => r = nI (z_bg gi) ∧ S' = zs gi gl f) := by
  rcases hM with ⟨h1, h2⟩ | ⟨q, hq, h1, h2, hF⟩
  · show zW l D tc A mX8_begin d 0 0 0 0 0 [some (.ref 108)] [] (zs gi gl f) _
    refine zx_aload_n (q := 1) dX8_begin_0 rfl rfl rfl ?_
    refine zy_getIe (q := 4) (v := -1) dX8_begin_1 fl_RX8_44 rfl rfl (h2) rfl ?_
    refine zx_if_ge_f (t := 11) (q := 7) dX8_begin_4 (by decide) rfl (by decide) ?_
    refine zx_iconst (q := 8) (v := 0) dX8_begin_7 (by decide) rfl ?_
    refine zx_goto (t := 18) dX8_begin_8 (by decide) ?_
    refine zx_iret dX8_begin_18 rfl (Nat.le_refl _) (Nat.le_refl _) ⟨_, rfl, ?_⟩
    exact ⟨by unfold z_bg; rw [if_pos h1]; rfl, rfl⟩
  · obtain ⟨nc, h3, h4, h5, h6⟩ := id hF
    show zW l D tc A mX8_begin d 0 0 0 0 0 [some (.ref 108)] [] (zs gi gl f) _
    refine zx_aload_n (q := 1) dX8_begin_0 rfl rfl rfl ?_
    refine zy_getIe (q := 4) (v := nI q) dX8_begin_1 fl_RX8_44 rfl rfl (h2) rfl ?_
    refine zx_if_ge_t (t := 11) (q := 7) dX8_begin_4 (by decide) rfl (nI_le (a := 0) (by omega) (by omega)) ?_
    refine zx_bipush (q := 13) (v := 10) dX8_begin_11 (by decide) rfl ?_
    refine zx_aload_n (q := 14) dX8_begin_13 rfl rfl rfl ?_
    refine zy_getIe (q := 17) (v := nI q) dX8_begin_14 fl_RX8_44 rfl rfl (h2) rfl ?_
    refine zx_imul (q := 18) dX8_begin_17 rfl ?_
    rw [show (10 : Int32) * nI q = nI (10 * q) from by rw [show (10 : Int32) = nI 10 from rfl, z_mul]]
    refine zx_iret dX8_begin_18 rfl (Nat.le_refl _) (Nat.le_refl _) ⟨_, rfl, ?_⟩
    refine ⟨?_, rfl⟩
    have hbg : z_bg gi = 10 * q := by unfold z_bg; rw [if_neg (by rw [h1]; exact z_nm1 (by omega)), z_q_of hq h1]
    rw [hbg]
theorem t_X8_behind (d : Nat) (hM : zIsM gi) : zCall l D tc A mX8_behind d 0 0 [.ref 108] (zs gi gl f) (zQi fun r S' => r = nI (z_bg gi + z_nc gi) ∧ S' = zs gi gl f) := by
  rcases hM with ⟨h1, h2⟩ | ⟨q, hq, h1, h2, hF⟩
  · show zW l D tc A mX8_behind d 0 0 0 0 0 [some (.ref 108)] [] (zs gi gl f) _
    refine zx_aload_n (q := 1) dX8_behind_0 rfl rfl rfl ?_
    refine zy_getIe (q := 4) (v := -1) dX8_behind_1 fl_RX8_44 rfl rfl (h2) rfl ?_
    refine zx_if_ge_f (t := 11) (q := 7) dX8_behind_4 (by decide) rfl (by decide) ?_
    refine zx_iconst (q := 8) (v := 0) dX8_behind_7 (by decide) rfl ?_
    refine zx_goto (t := 28) dX8_behind_8 (by decide) ?_
    refine zx_iret dX8_behind_28 rfl (Nat.le_refl _) (Nat.le_refl _) ⟨_, rfl, ?_⟩
    exact ⟨by unfold z_bg z_nc; rw [if_pos h1, if_pos h1]; rfl, rfl⟩
  · obtain ⟨nc, h3, h4, h5, h6⟩ := id hF
    show zW l D tc A mX8_behind d 0 0 0 0 0 [some (.ref 108)] [] (zs gi gl f) _
    refine zx_aload_n (q := 1) dX8_behind_0 rfl rfl rfl ?_
    refine zy_getIe (q := 4) (v := nI q) dX8_behind_1 fl_RX8_44 rfl rfl (h2) rfl ?_
    refine zx_if_ge_t (t := 11) (q := 7) dX8_behind_4 (by decide) rfl (nI_le (a := 0) (by omega) (by omega)) ?_
    refine zx_bipush (q := 13) (v := 10) dX8_behind_11 (by decide) rfl ?_
    refine zx_aload_n (q := 14) dX8_behind_13 rfl rfl rfl ?_
    refine zy_getIe (q := 17) (v := nI q) dX8_behind_14 fl_RX8_44 rfl rfl (h2) rfl ?_
    refine zx_imul (q := 18) dX8_behind_17 rfl ?_
    rw [show (10 : Int32) * nI q = nI (10 * q) from by rw [show (10 : Int32) = nI 10 from rfl, z_mul]]
    refine zx_aload_n (q := 19) dX8_behind_18 rfl rfl rfl ?_
    refine zy_getR (q := 22) dX8_behind_19 fl_RX8_59 rfl rfl rfl rfl ?_
    refine zx_aload_n (q := 23) dX8_behind_22 rfl rfl rfl ?_
    refine zy_getIe (q := 26) (v := nI q) dX8_behind_23 fl_RX8_44 rfl rfl (h2) rfl ?_
    refine zy_ialdN (q := 27) dX8_behind_26 rfl (by omega) (by first | decide | omega) rfl ?_
    rw [h5]
    refine zx_iadd (q := 28) dX8_behind_27 rfl ?_
    refine zx_iret dX8_behind_28 rfl (Nat.le_refl _) (Nat.le_refl _) ⟨_, rfl, ?_⟩
    refine ⟨?_, rfl⟩
    have hbg : z_bg gi = 10 * q := by unfold z_bg; rw [if_neg (by rw [h1]; exact z_nm1 (by omega)), z_q_of hq h1]
    rw [hbg, z_nc_of hq h1 h4 h3, ← nI_add]
theorem lp_X8_mostNow (d : Nat) (hM : zIsM gi) : ∀ (n k : Nat) (x : Int32), k + n = z_nc gi → x = nI (z_moN gi k) → zW l D tc A mX8_mostNow (d + 1) 0 0 0 0 8 [some (.ref 108), some (.int x), some (.int (nI (z_bg gi + k)))] [] (zs gi gl f) (zQi fun r S' => r = nI (z_most gi) ∧ S' = zs gi gl f) := by
  intro n
  induction n using Nat.strongRecOn with
  | _ n ih =>
  intro k x hk hx
  have hb6 : z_bg gi ≤ 50 := by have := z_q6 gi; unfold z_bg; split <;> omega
  have hnc := z_nc_le hM
  by_cases hn0 : n = 0
  · have hmo := z_moN_le hM (z_nc gi) (Nat.le_refl _)
    have hkk : k = z_nc gi := by omega
    subst hkk
    rw [hx]
    refine zx_iload_n (q := 9) dX8_mostNow_8 rfl rfl rfl ?_
    refine zx_aload_n (q := 10) dX8_mostNow_9 rfl rfl rfl ?_
    refine zx_callV0i (q := 13) (y' := mX8_behind) dX8_mostNow_10 ml_RX8_261 ok_mX8_behind rfl (by decide) rfl (Nat.le_of_ble_eq_true rfl) (Nat.le_of_ble_eq_true rfl) (Nat.le_refl _) (Nat.le_refl _) rfl (t_X8_behind _ hM) ?_
    rintro _ _ ⟨rfl, rfl⟩
    refine zx_icmp_ge_t (t := 43) (q := 16) dX8_mostNow_13 (by decide) rfl (nI_le (by omega) (by omega)) ?_
    refine zx_iload_n (q := 44) dX8_mostNow_43 rfl rfl rfl ?_
    refine zx_bipush (q := 46) (v := 9) dX8_mostNow_44 (by decide) rfl ?_
    refine zx_icmp_le (q := 49) (t := 54) dX8_mostNow_46 (by decide) rfl (fun c_46 => ?_) (fun c_46 => ?_)
    · have h9 := z_ge (x := nI (z_moN gi (z_nc gi))) rfl (by omega) c_46
      refine zx_iload_n (q := 55) dX8_mostNow_54 rfl rfl rfl ?_
      refine zx_iret dX8_mostNow_55 rfl (Nat.le_refl _) (Nat.le_refl _) ⟨_, rfl, ?_⟩
      refine ⟨?_, rfl⟩
      unfold z_most
      first
        | (rw [Nat.min_eq_left (z_ge (i := 9) rfl (by omega) c_46)])
        | (rw [Nat.min_eq_right (Nat.le_of_lt (z_lt (i := 9) (x := nI (z_moN gi (z_nc gi))) rfl (by omega) c_46))]; rfl)
    · refine zx_bipush (q := 51) (v := 9) dX8_mostNow_49 (by decide) rfl ?_
      refine zx_goto (t := 55) dX8_mostNow_51 (by decide) ?_
      refine zx_iret dX8_mostNow_55 rfl (Nat.le_refl _) (Nat.le_refl _) ⟨_, rfl, ?_⟩
      refine ⟨?_, rfl⟩
      unfold z_most
      first
        | (rw [Nat.min_eq_left (z_ge (i := 9) rfl (by omega) c_46)])
        | (rw [Nat.min_eq_right (Nat.le_of_lt (z_lt (i := 9) (x := nI (z_moN gi (z_nc gi))) rfl (by omega) c_46))]; rfl)
  · refine zx_iload_n (q := 9) dX8_mostNow_8 rfl rfl rfl ?_
    refine zx_aload_n (q := 10) dX8_mostNow_9 rfl rfl rfl ?_
    refine zx_callV0i (q := 13) (y' := mX8_behind) dX8_mostNow_10 ml_RX8_261 ok_mX8_behind rfl (by decide) rfl (Nat.le_of_ble_eq_true rfl) (Nat.le_of_ble_eq_true rfl) (Nat.le_refl _) (Nat.le_refl _) rfl (t_X8_behind _ hM) ?_
    rintro _ _ ⟨rfl, rfl⟩
    refine zx_icmp_ge_f (t := 43) (q := 16) dX8_mostNow_13 (by decide) rfl (nI_ge (by omega) (by omega)) ?_
    have hnc := z_nc_le hM
    obtain ⟨q, hq, h1, h2, hF⟩ : ∃ q, q < 6 ∧ gi 1 9 = nI q ∧ gi 108 11 = nI q ∧ zFN gi q := by
      rcases hM with h | h
      · exfalso; have : z_nc gi = 0 := by unfold z_nc; rw [if_pos h.1]
        omega
      · exact h
    obtain ⟨nc, h3, h4, h5⟩ := id hF
    have hqq := z_q_of hq h1
    have hbg : z_bg gi = 10 * q := by unfold z_bg; rw [if_neg (by rw [h1]; exact z_nm1 (by omega)), hqq]
    have hnn := z_nc_of hq h1 h4 h3
    obtain ⟨c1, ⟨N, d1, d2, d3, d4⟩, a, e, fr, c3, c4, c5, c6, c7, c8, c9, c10⟩ := z_cl hq h1 hF h4 h3 (c := k) (by omega)
    rw [hbg]
    refine zx_aload_n (q := 17) dX8_mostNow_16 rfl rfl rfl ?_
    refine zy_getR (q := 20) dX8_mostNow_17 fl_RX8_62 rfl rfl rfl rfl ?_
    refine zx_iload_n (q := 21) dX8_mostNow_20 rfl rfl rfl ?_
    refine zy_ialdN (q := 22) dX8_mostNow_21 rfl (by omega) (by first | decide | omega) rfl ?_
    rw [← c1.1]
    refine zx_iconst (q := 23) (v := 2) dX8_mostNow_22 (by decide) rfl ?_
    refine zx_icmp_ne (q := 26) (t := 35) dX8_mostNow_23 (by decide) rfl (fun c_23 => ?_) (fun c_23 => ?_)
    · refine zx_iload_n (q := 36) dX8_mostNow_35 rfl rfl rfl ?_
      refine zx_istore1 (q := 37) dX8_mostNow_36 rfl rfl ?_
      refine zx_iinc2 (q := 40) dX8_mostNow_37 rfl rfl ?_
      refine zx_goto (t := 8) dX8_mostNow_40 (by decide) ?_
      rw [z_inc]
      rw [show 10 * q + k + 1 = z_bg gi + (k + 1) by omega]
      exact ih (n - 1) (by omega) (k + 1) _ (by omega) (by
        rw [z_moN, hqq]
        first
        | (rw [if_neg c_23]; exact hx)
        | (rw [if_pos (by simpa using c_23), d2, nI_clamp (by omega)]))
    · refine zx_aload_n (q := 27) dX8_mostNow_26 rfl rfl rfl ?_
      refine zy_getR (q := 30) dX8_mostNow_27 fl_RX8_65 rfl rfl rfl rfl ?_
      refine zx_iload_n (q := 31) dX8_mostNow_30 rfl rfl rfl ?_
      refine zy_ialdN (q := 32) dX8_mostNow_31 rfl (by omega) (by first | decide | omega) rfl ?_
      rw [d3]
      refine zx_goto (t := 36) dX8_mostNow_32 (by decide) ?_
      refine zx_istore1 (q := 37) dX8_mostNow_36 rfl rfl ?_
      refine zx_iinc2 (q := 40) dX8_mostNow_37 rfl rfl ?_
      refine zx_goto (t := 8) dX8_mostNow_40 (by decide) ?_
      rw [z_inc]
      rw [show 10 * q + k + 1 = z_bg gi + (k + 1) by omega]
      exact ih (n - 1) (by omega) (k + 1) _ (by omega) (by
        rw [z_moN, hqq]
        first
        | (rw [if_neg c_23]; exact hx)
        | (rw [if_pos (by simpa using c_23), d2, nI_clamp (by omega)]))
theorem t_X8_mostNow (d : Nat) (hM : zIsM gi) : zCall l D tc A mX8_mostNow (d + 1) 0 0 [.ref 108] (zs gi gl f) (zQi fun r S' => r = nI (z_most gi) ∧ S' = zs gi gl f) := by
  show zW l D tc A mX8_mostNow (d + 1) 0 0 0 0 0 [some (.ref 108), none, none] [] (zs gi gl f) _
  refine zx_bipush (q := 2) (v := 8) dX8_mostNow_0 (by decide) rfl ?_
  refine zx_istore1 (q := 3) dX8_mostNow_2 rfl rfl ?_
  refine zx_aload_n (q := 4) dX8_mostNow_3 rfl rfl rfl ?_
  refine zx_callV0i (q := 7) (y' := mX8_begin) dX8_mostNow_4 ml_RX8_258 ok_mX8_begin rfl (by decide) rfl (Nat.le_of_ble_eq_true rfl) (Nat.le_of_ble_eq_true rfl) (Nat.le_refl _) (Nat.le_refl _) rfl (t_X8_begin _ hM) ?_
  rintro _ _ ⟨rfl, rfl⟩
  refine zx_istore2 (q := 8) dX8_mostNow_7 rfl rfl ?_
  exact lp_X8_mostNow d hM (z_nc gi) 0 8 (by omega) rfl
theorem lp_X8_sumOf (d s : Nat) (w h : Int32) (hM : zIsM gi) (hw : w = 0 ∨ w = 1) (hs : s < 5) : ∀ (n k : Nat) (x : Int32) (g' : Nat → Nat → Int32) (_ : ∀ k j, ¬ k = 126 → g' k j = gi k j), k + n = z_nc gi → x = nI (z_soN gi w (z_lm gi s h) k) → zW l D tc A mX8_sumOf (d + 2) 0 0 0 0 9 [some (.ref 108), some (.int w), some (.int (nI s)), some (.int h), some (.int x), some (.int (nI (z_bg gi + k)))] [] (zs g' gl f) (zQi fun r S' => r = nI (z_soN gi w (z_lm gi s h) (z_nc gi)) ∧ ∃ g', S' = zs g' gl f ∧ ∀ k j, ¬ k = 126 → g' k j = gi k j) := by
  intro n
  induction n using Nat.strongRecOn with
  | _ n ih =>
  intro k x g' g1 hk hx
  have hb6 : z_bg gi ≤ 50 := by have := z_q6 gi; unfold z_bg; split <;> omega
  have hnc := z_nc_le hM
  have e1 : ∀ k j, z_fc k → g' k j = gi k j := fun k j z => g1 k j (by unfold z_fc at z; omega)
  have hM' : zIsM g' := zIsM_cg hM e1 (fun j => ⟨g1 _ _ (by decide), g1 _ _ (by decide), g1 _ _ (by decide), g1 _ _ (by decide), g1 _ _ (by decide), g1 _ _ (by decide), g1 _ _ (by decide)⟩)
  have hlm : z_lm g' s h = z_lm gi s h := by funext j; simp only [z_lm, g1 109 _ (by decide), g1 110 _ (by decide), g1 111 _ (by decide), g1 108 _ (by decide)]
  by_cases hn0 : n = 0
  · refine zx_iload (q := 11) dX8_sumOf_9 rfl rfl ?_
    refine zx_aload_n (q := 12) dX8_sumOf_11 rfl rfl rfl ?_
    refine zx_callV0i (q := 15) (y' := mX8_behind) dX8_sumOf_12 ml_RX8_261 ok_mX8_behind rfl (by decide) rfl (Nat.le_of_ble_eq_true rfl) (Nat.le_of_ble_eq_true rfl) (Nat.le_refl _) (Nat.le_refl _) rfl (t_X8_behind _ hM') ?_
    rintro _ _ ⟨rfl, rfl⟩
    rw [z_bg_cg e1, z_nc_cg e1]
    refine zx_icmp_ge_t (t := 62) (q := 18) dX8_sumOf_15 (by decide) rfl (nI_le (by omega) (by omega)) ?_
    refine zx_iload (q := 64) dX8_sumOf_62 rfl rfl ?_
    refine zx_iret dX8_sumOf_64 rfl (Nat.le_refl _) (Nat.le_refl _) ⟨_, rfl, ?_⟩
    exact ⟨by rw [hx, show k = z_nc gi by omega], g', rfl, g1⟩
  · refine zx_iload (q := 11) dX8_sumOf_9 rfl rfl ?_
    refine zx_aload_n (q := 12) dX8_sumOf_11 rfl rfl rfl ?_
    refine zx_callV0i (q := 15) (y' := mX8_behind) dX8_sumOf_12 ml_RX8_261 ok_mX8_behind rfl (by decide) rfl (Nat.le_of_ble_eq_true rfl) (Nat.le_of_ble_eq_true rfl) (Nat.le_refl _) (Nat.le_refl _) rfl (t_X8_behind _ hM') ?_
    rintro _ _ ⟨rfl, rfl⟩
    rw [z_bg_cg e1, z_nc_cg e1]
    refine zx_icmp_ge_f (t := 62) (q := 18) dX8_sumOf_15 (by decide) rfl (nI_ge (by omega) (by omega)) ?_
    have hnc := z_nc_le hM
    obtain ⟨q, hq, h1, h2, hF⟩ : ∃ q, q < 6 ∧ gi 1 9 = nI q ∧ gi 108 11 = nI q ∧ zFN gi q := by
      rcases hM with h | h
      · exfalso; have : z_nc gi = 0 := by unfold z_nc; rw [if_pos h.1]
        omega
      · exact h
    obtain ⟨nc, h3, h4, h5⟩ := id hF
    have hqq := z_q_of hq h1
    have hbg : z_bg gi = 10 * q := by unfold z_bg; rw [if_neg (by rw [h1]; exact z_nm1 (by omega)), hqq]
    have hnn := z_nc_of hq h1 h4 h3
    obtain ⟨c1, ⟨N, d1, d2, d3, d4⟩, a, e, fr, c3, c4, c5, c6, c7, c8, c9, c10⟩ := z_cl hq h1 hF h4 h3 (c := k) (by omega)
    have hho := fun hw2 : ¬ gi (67 + 5 * q) k = 2 => t_X8_holds (l := l) (D := D) (tc := tc) (A := A) (gi := g') (gl := gl) (f := f) d (10 * q + k) s (e - a) fr h (fun k => gi (70 + 5 * q) (a + k)) (by omega) hs (by rw [g1 _ _ (by decide)]; exact (c10 hw2).1) (by rw [g1 _ _ (by decide)]; exact (c10 hw2).2.1) c5 (fun i hi => by rw [g1 _ _ (by decide)]; exact (c10 hw2).2.2.1 i hi) (c10 hw2).2.2.2
    rw [hlm] at hho
    rw [hbg]
    refine zx_iload (q := 20) dX8_sumOf_18 rfl rfl ?_
    refine zx_aload_n (q := 21) dX8_sumOf_20 rfl rfl rfl ?_
    refine zy_getR (q := 24) dX8_sumOf_21 fl_RX8_62 rfl rfl rfl rfl ?_
    refine zx_iload (q := 26) dX8_sumOf_24 rfl rfl ?_
    refine zy_ialdN (q := 27) dX8_sumOf_26 rfl (by omega) (by first | decide | omega) rfl ?_
    rw [g1 _ _ (by decide), ← c1.1]
    refine zx_iload_n (q := 28) dX8_sumOf_27 rfl rfl rfl ?_
    refine zx_icmp_ne (q := 31) (t := 52) dX8_sumOf_28 (by decide) rfl (fun c_28 => ?_) (fun c_28 => ?_)
    · refine zx_iconst (q := 53) (v := 0) dX8_sumOf_52 (by decide) rfl ?_
      refine zx_iadd (q := 54) dX8_sumOf_53 rfl ?_
      refine zx_istore4 (q := 56) dX8_sumOf_54 rfl rfl ?_
      refine zx_iinc5 (q := 59) dX8_sumOf_56 rfl rfl ?_
      refine zx_goto (t := 9) dX8_sumOf_59 (by decide) ?_
      rw [z_inc]
      rw [show 10 * q + k + 1 = z_bg gi + (k + 1) by omega]
      exact ih (n - 1) (by omega) (k + 1) _ _ (fun a b hab => by first | rw [g3 a b hab, g1 a b hab] | exact g1 a b hab) (by omega) (by
        rw [hx, z_soN, hqq]
        first
        | (rw [if_neg (fun z => c_28 z.1)]; exact Int32.add_zero _)
        | (rw [c9, if_neg (fun z => by rw [z.2] at c_39; exact absurd c_39 (by decide))]; exact Int32.add_zero _)
        | (rw [c9, if_pos ⟨by simpa using c_28, (zb_nz _).mp c_39⟩, d2, nI_clamp (by omega), nI_add]))
    · refine zx_aload_n (q := 32) dX8_sumOf_31 rfl rfl rfl ?_
      refine zx_iload (q := 34) dX8_sumOf_32 rfl rfl ?_
      refine zx_iload_n (q := 35) dX8_sumOf_34 rfl rfl rfl ?_
      refine zx_iload_n (q := 36) dX8_sumOf_35 rfl rfl rfl ?_
      refine zx_callV3i (q := 39) (y' := mX8_holds) dX8_sumOf_36 ml_RX8_268 ok_mX8_holds rfl (by decide) rfl (Nat.le_of_ble_eq_true rfl) (Nat.le_of_ble_eq_true rfl) (Nat.le_refl _) (Nat.le_refl _) rfl (hho (by rw [show gi (67 + 5 * q) k = w by simpa using c_28]; rcases hw with h | h <;> rw [h] <;> decide)) ?_
      rintro _ _ ⟨rfl, g2, rfl, g3⟩
      refine zx_if_eq (q := 42) (t := 52) dX8_sumOf_39 (by decide) rfl (fun c_39 => ?_) (fun c_39 => ?_)
      · refine zx_iconst (q := 53) (v := 0) dX8_sumOf_52 (by decide) rfl ?_
        refine zx_iadd (q := 54) dX8_sumOf_53 rfl ?_
        refine zx_istore4 (q := 56) dX8_sumOf_54 rfl rfl ?_
        refine zx_iinc5 (q := 59) dX8_sumOf_56 rfl rfl ?_
        refine zx_goto (t := 9) dX8_sumOf_59 (by decide) ?_
        rw [z_inc]
        rw [show 10 * q + k + 1 = z_bg gi + (k + 1) by omega]
        exact ih (n - 1) (by omega) (k + 1) _ _ (fun a b hab => by first | rw [g3 a b hab, g1 a b hab] | exact g1 a b hab) (by omega) (by
          rw [hx, z_soN, hqq]
          first
          | (rw [if_neg (fun z => c_28 z.1)]; exact Int32.add_zero _)
          | (rw [c9, if_neg (fun z => by rw [z.2] at c_39; exact absurd c_39 (by decide))]; exact Int32.add_zero _)
          | (rw [c9, if_pos ⟨by simpa using c_28, (zb_nz _).mp c_39⟩, d2, nI_clamp (by omega), nI_add]))
      · refine zx_aload_n (q := 43) dX8_sumOf_42 rfl rfl rfl ?_
        refine zy_getR (q := 46) dX8_sumOf_43 fl_RX8_65 rfl rfl rfl rfl ?_
        refine zx_iload (q := 48) dX8_sumOf_46 rfl rfl ?_
        refine zy_ialdN (q := 49) dX8_sumOf_48 rfl (by omega) (by first | decide | omega) rfl ?_
        rw [g3 _ _ (by decide), g1 _ _ (by decide), d3]
        refine zx_goto (t := 53) dX8_sumOf_49 (by decide) ?_
        refine zx_iadd (q := 54) dX8_sumOf_53 rfl ?_
        refine zx_istore4 (q := 56) dX8_sumOf_54 rfl rfl ?_
        refine zx_iinc5 (q := 59) dX8_sumOf_56 rfl rfl ?_
        refine zx_goto (t := 9) dX8_sumOf_59 (by decide) ?_
        rw [z_inc]
        rw [show 10 * q + k + 1 = z_bg gi + (k + 1) by omega]
        exact ih (n - 1) (by omega) (k + 1) _ _ (fun a b hab => by first | rw [g3 a b hab, g1 a b hab] | exact g1 a b hab) (by omega) (by
          rw [hx, z_soN, hqq]
          first
          | (rw [if_neg (fun z => c_28 z.1)]; exact Int32.add_zero _)
          | (rw [c9, if_neg (fun z => by rw [z.2] at c_39; exact absurd c_39 (by decide))]; exact Int32.add_zero _)
          | (rw [c9, if_pos ⟨by simpa using c_28, (zb_nz _).mp c_39⟩, d2, nI_clamp (by omega), nI_add]))
theorem t_X8_sumOf (d s : Nat) (w h : Int32) (hM : zIsM gi) (hw : w = 0 ∨ w = 1) (hs : s < 5) : zCall l D tc A mX8_sumOf (d + 2) 0 0 [.ref 108, .int w, .int (nI s), .int h] (zs gi gl f) (zQi fun r S' => r = nI (z_soN gi w (z_lm gi s h) (z_nc gi)) ∧ ∃ g', S' = zs g' gl f ∧ ∀ k j, ¬ k = 126 → g' k j = gi k j) := by
  show zW l D tc A mX8_sumOf (d + 2) 0 0 0 0 0 [some (.ref 108), some (.int w), some (.int (nI s)), some (.int h), none, none] [] (zs gi gl f) _
  refine zx_iconst (q := 1) (v := 0) dX8_sumOf_0 (by decide) rfl ?_
  refine zx_istore4 (q := 3) dX8_sumOf_1 rfl rfl ?_
  refine zx_aload_n (q := 4) dX8_sumOf_3 rfl rfl rfl ?_
  refine zx_callV0i (q := 7) (y' := mX8_begin) dX8_sumOf_4 ml_RX8_258 ok_mX8_begin rfl (by decide) rfl (Nat.le_of_ble_eq_true rfl) (Nat.le_of_ble_eq_true rfl) (Nat.le_refl _) (Nat.le_refl _) rfl (t_X8_begin _ hM) ?_
  rintro _ _ ⟨rfl, rfl⟩
  refine zx_istore5 (q := 9) dX8_sumOf_7 rfl rfl ?_
  exact lp_X8_sumOf d s w h hM hw hs (z_nc gi) 0 0 gi (fun _ _ _ => rfl) (by omega) rfl
end P31
