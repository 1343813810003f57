/-! ops fits, alike -/
def z_tw (gi : Nat → Nat → Int32) (h : Nat) : Option Nat := if gi 17 h = -1 then none else some (gi 17 h).toNatClampNeg
def z_cw (gi : Nat → Nat → Int32) (m ns : Nat) (h : Nat) : Option Nat := some (z_ct gi m ns 0 h)
theorem z_tw_ok {gi : Nat → Nat → Int32} (hT : zSTt gi 1 116) {h : Nat} (hh : h < 3) : gi 17 h = z_ov (z_tw gi h) ∧ gi 116 h = z_ov (z_tw gi h) ∧ ∀ v, z_tw gi h = some v → v ≤ 999 := by
  obtain ⟨h1, h2⟩ := hT h hh
  rw [show (1 + 16 : Nat) = 17 from rfl] at h1
  rw [← h1] at h2
  rw [← h1]
  unfold z_tw
  by_cases c : gi 17 h = -1
  · rw [if_pos c]
    exact ⟨c, c, fun v hv => by cases hv⟩
  · rw [if_neg c]
    obtain ⟨n, hn, e⟩ := z_nIof (v := gi 17 h) (n := 999) (by
      unfold z_rg at h2
      rw [z_eqI, z_m1] at c
      omega) h2.2
    rw [e, nI_clamp (by omega)]
    refine ⟨rfl, rfl, fun v hv => ?_⟩
    simp only [Option.some.injEq] at hv
    omega
theorem z_n0 {n : Nat} (h : n ≤ 40000) (h0 : ¬ n = 0) : ¬ nI n = 0 := nI_ne0 (by omega) (by omega)
section P44
variable {l : Launch} {D : va_G} {tc : Nat → ClassId} {A : Nat → Prop} {S : zw_S} {gi : Nat → Nat → Int32} {gl : Nat → Nat → Int64} {f : Option Nat}
/-- all that fit what is told -/
def z_FT (gi : Nat → Nat → Int32) (ns m : Nat) : z_A := z_fd (z_most gi) ns (z_tw gi) (z_sh gi m) (z_ow gi m) (fun _ => 0) 0 z_A0
/-- all that look like the herd -/
def z_FC (gi : Nat → Nat → Int32) (ns m : Nat) : z_A := z_fd (z_most gi) ns (z_cw gi m ns) (z_sh gi m) (z_ow gi m) (fun _ => 0) 0 z_A0
theorem t_X7_sF (d : Nat) {ns m : Nat} (L : zLK gi ns m) : zCall l D tc A mX7_searchFitting (d + 5) 0 0 [.ref 0] (zs gi gl f) (zQv fun S' => ∃ g2, S' = zs g2 gl f ∧ zCA g2 ns (z_FT gi ns m) ∧ z_aok ns (z_FT gi ns m) ∧ ∀ k j, ¬ (47 ≤ k ∧ k ≤ 61) → g2 k j = gi k j) := by
  show zW l D tc A mX7_searchFitting (d + 5) 0 0 0 0 0 [some (.ref 0)] [] (zs gi gl f) _
  refine zx_aload_n (q := 1) dX7_searchFitting_0 rfl rfl rfl ?_
  refine zx_callV0v (q := 4) (y' := mX7_look) dX7_searchFitting_1 ml_RX7_95 ok_mX7_look rfl (by decide) rfl (Nat.le_of_ble_eq_true rfl) (Nat.le_of_ble_eq_true rfl) (Nat.le_refl _) (Nat.le_refl _) rfl (t_X7_look _ L) ?_
  rintro _ ⟨g1, rfl, k1, s1⟩
  refine zx_aload_n (q := 5) dX7_searchFitting_4 rfl rfl rfl ?_
  refine zy_getR (q := 8) dX7_searchFitting_5 fl_RX7_51 rfl rfl rfl rfl ?_
  refine zx_aload_n (q := 9) dX7_searchFitting_8 rfl rfl rfl ?_
  refine zy_getR (q := 12) dX7_searchFitting_9 fl_RX7_42 rfl rfl rfl rfl ?_
  refine zy_getIe (q := 15) (v := nI (z_most gi)) dX7_searchFitting_12 fl_RX7_133 rfl rfl (s1.2.1) rfl ?_
  refine zx_aload_n (q := 16) dX7_searchFitting_15 rfl rfl rfl ?_
  refine zy_getR (q := 19) dX7_searchFitting_16 fl_RX7_12 rfl rfl rfl rfl ?_
  refine zy_getR (q := 22) dX7_searchFitting_19 fl_RX7_113 rfl rfl rfl rfl ?_
  refine zx_callV2v (q := 25) (y' := mX3_find) dX7_searchFitting_22 ml_RX7_180 ok_mX3_find rfl (by decide) rfl (Nat.le_of_ble_eq_true rfl) (Nat.le_of_ble_eq_true rfl) (Nat.le_refl _) (Nat.le_refl _) rfl (t_X3_find _ L.hns s1 (fun s hs h hh => z_sh_le L hs hh) (fun s hs => z_ow_le L hs) (M := z_most gi) (by have := z_most_le gi; omega) (wc := 17) (w := z_tw gi) rfl (by omega) (fun h hh => ⟨by rw [k1 _ _ (by omega)]; exact (z_tw_ok L.hT hh).1, fun v hv => by have := (z_tw_ok L.hT hh).2.2 v hv; omega⟩)) ?_
  rintro _ ⟨g2, rfl, hA, hok, e2⟩
  refine zx_vret dX7_searchFitting_25 rfl (Nat.le_refl _) (Nat.le_refl _) ⟨rfl, ?_⟩
  exact ⟨g2, rfl, hA, hok, fun k j z => (e2 k j (by omega)).trans (k1 k j (by omega))⟩
theorem z_sortw {a : Int32} {ns : Nat} (hns : ns ≤ 5) (h : z_in (a - 10) 0 (nI ns - 1) = true) : ∃ s, s < ns ∧ a = nI (10 + s) := by
  obtain ⟨s, hs, e⟩ := z_inU hns h
  refine ⟨s, hs, ?_⟩
  rw [← nI_add, ← e, Int32.add_comm]
  exact (Int32.sub_add_cancel a 10).symm
theorem z_sortw_at {s ns : Nat} (hns : ns ≤ 5) (hs : s < ns) : z_in (nI (10 + s) - 10) 0 (nI ns - 1) = true := by
  rw [show nI (10 + s) - 10 = nI s from by rw [show (10 : Int32) = nI 10 from rfl, z_subN (by omega)]; congr 1; omega]
  exact z_inS_at hns hs
theorem z_sortw_lt {a : Int32} {ns : Nat} (h : (a - 10).toInt < 0) : ¬ z_in (a - 10) 0 (nI ns - 1) = true := by
  intro z
  rw [z_in_tt] at z
  have h4 : (0 : Int32).toInt = 0 := by decide
  omega
theorem z_sortm {s ns : Nat} (hns : ns ≤ 5) (hs : s < ns) : z_in (nI (10 + s)) 10 (9 + nI ns) = true := by
  rw [show (9 : Int32) + nI ns = nI (9 + ns) from by rw [show (9 : Int32) = nI 9 from rfl, nI_add]]
  exact z_in_at 10 (9 + ns) _ (by decide) (nI_toInt (by omega)) (by omega) (by omega)
theorem z_sortm_no {a : Int32} {ns : Nat} (hns : ns ≤ 5) (h : ¬ z_in (a - 10) 0 (nI ns - 1) = true) : ¬ z_in a 10 (9 + nI ns) = true := by
  intro z
  rw [show (9 : Int32) + nI ns = nI (9 + ns) from by rw [show (9 : Int32) = nI 9 from rfl, nI_add]] at z
  obtain ⟨j, j1, j2, rfl⟩ := z_inR 10 (9 + ns) (by decide) (nI_toInt (by omega)) z
  obtain ⟨s, rfl⟩ : ∃ s, j = 10 + s := ⟨j - 10, by omega⟩
  exact h (z_sortw_at hns (by omega))
set_option maxHeartbeats 4000000 in
theorem op_fits (d : Nat) (a : Int32) (hR : zRel gi gl) : zOpI l D tc A mX7_fits mX8_fits (d + 6) [.int a] gi gl f := by
  obtain ⟨ns, m, L⟩ := zLK_of hR
  have hns := L.hns
  by_cases h1 : z_in a 0 2 = true
  · obtain ⟨j, hj, rfl⟩ := z_inT 2 (by decide) h1
    by_cases j0 : j = 0
    · subst j0
      by_cases hz : (z_FT gi ns m).1 = 0
      · show zW l D tc A mX7_fits (d + 6) 0 0 0 0 0 [some (.ref 0), some (.int 0), none] [] (zs gi gl f) _
        refine zx_aload_n (q := 1) dX7_fits_0 rfl rfl rfl ?_
        refine zx_iload_n (q := 2) dX7_fits_1 rfl rfl rfl ?_
        refine zx_bipush (q := 4) (v := 10) dX7_fits_2 (by decide) rfl ?_
        refine zx_isub (q := 5) dX7_fits_4 rfl ?_
        refine zx_callV1i (q := 8) (y' := mX7_isSort) dX7_fits_5 ml_RX7_89 ok_mX7_isSort rfl (by decide) rfl (Nat.le_of_ble_eq_true rfl) (Nat.le_of_ble_eq_true rfl) (Nat.le_refl _) (Nat.le_refl _) rfl (t_X7_isSort _ _) ?_
        rintro _ _ ⟨rfl, rfl⟩
        refine zx_istore2 (q := 9) dX7_fits_8 rfl rfl ?_
        refine zx_iload_n (q := 10) dX7_fits_9 rfl rfl rfl ?_
        refine zx_if_ne_f (t := 26) (q := 13) dX7_fits_10 (by decide) rfl (zk_f (by show ¬ z_in _ 0 (gi 1 0 - 1) = true; rw [L.hs1]; exact z_sortw_lt (by decide))) ?_
        refine zx_iload_n (q := 14) dX7_fits_13 rfl rfl rfl ?_
        refine zx_iconst (q := 15) (v := 0) dX7_fits_14 (by decide) rfl ?_
        refine zx_iconst (q := 16) (v := 2) dX7_fits_15 (by decide) rfl ?_
        refine zx_callS3i (q := 19) (y' := mX7_within) dX7_fits_16 ml_RX7_73 ok_mX7_within (Nat.le_of_ble_eq_true rfl) (Nat.le_of_ble_eq_true rfl) (Nat.le_refl _) (Nat.le_refl _) rfl (t_X7_within _ _ _ _) ?_
        rintro _ _ ⟨rfl, rfl⟩
        refine zx_if_ne_t (t := 26) (q := 22) dX7_fits_19 (by decide) rfl (zk_t (by decide)) ?_
        refine zx_aload_n (q := 27) dX7_fits_26 rfl rfl rfl ?_
        refine zx_callV0v (q := 30) (y' := mX7_searchFitting) dX7_fits_27 ml_RX7_148 ok_mX7_searchFitting rfl (by decide) rfl (Nat.le_of_ble_eq_true rfl) (Nat.le_of_ble_eq_true rfl) (Nat.le_refl _) (Nat.le_refl _) rfl (t_X7_sF _ L) ?_
        rintro _ ⟨g2, rfl, hA, hok, e2⟩
        refine zx_iload_n (q := 31) dX7_fits_30 rfl rfl rfl ?_
        refine zx_if_ne_f (t := 42) (q := 34) dX7_fits_31 (by decide) rfl (rfl) ?_
        refine zx_aload_n (q := 35) dX7_fits_34 rfl rfl rfl ?_
        refine zy_getR (q := 38) dX7_fits_35 fl_RX7_51 rfl rfl rfl rfl ?_
        refine zy_getIe (q := 41) (v := nI (z_FT gi ns m).1) dX7_fits_38 fl_RX7_151 rfl rfl (hA.1) rfl ?_
        refine zx_iret dX7_fits_41 rfl (Nat.le_refl _) (Nat.le_refl _) ⟨_, rfl, ?_⟩
        refine ⟨_, _, _, rfl, ?_⟩
        show zW l D tc A mX8_fits (d + 6) 0 0 0 0 0 [some (.ref 108), some (.int 0)] [] (zs _ _ _) _
        refine zx_aload_n (q := 1) dX8_fits_0 rfl rfl rfl ?_
        refine zx_iload_n (q := 2) dX8_fits_1 rfl rfl rfl ?_
        refine zx_iconst (q := 3) (v := 0) dX8_fits_2 (by decide) rfl ?_
        refine zx_iconst (q := 4) (v := 2) dX8_fits_3 (by decide) rfl ?_
        refine zx_callV3i (q := 7) (y' := mX8_in) dX8_fits_4 ml_RX8_200 ok_mX8_in rfl (by decide) rfl (Nat.le_of_ble_eq_true rfl) (Nat.le_of_ble_eq_true rfl) (Nat.le_refl _) (Nat.le_refl _) rfl (t_X8_in _ _ _ _ _) ?_
        rintro _ _ ⟨rfl, rfl⟩
        refine zx_if_ne_t (t := 31) (q := 10) dX8_fits_7 (by decide) rfl (zk_t (by decide)) ?_
        refine zx_aload_n (q := 32) dX8_fits_31 rfl rfl rfl ?_
        refine zx_callV0v (q := 35) (y' := mX8_layFits) dX8_fits_32 ml_RX8_314 ok_mX8_layFits rfl (by decide) rfl (Nat.le_of_ble_eq_true rfl) (Nat.le_of_ble_eq_true rfl) (Nat.le_refl _) (Nat.le_refl _) rfl (t_X8_layFits _ L (fun k j a b => e2 k j (by unfold z_scr at a; omega)) (w := z_tw gi) (fun h hh => ⟨by rw [e2 _ _ (by omega)]; exact (z_tw_ok L.hT hh).2.1, fun v hv => by have := (z_tw_ok L.hT hh).2.2 v hv; omega⟩)) ?_
        rintro _ ⟨g3, rfl, hB, h3, e3⟩
        have hB : zMA g3 (z_FT gi ns m) := hB
        refine zx_iload_n (q := 36) dX8_fits_35 rfl rfl rfl ?_
        refine zx_if_ne_f (t := 44) (q := 39) dX8_fits_36 (by decide) rfl (rfl) ?_
        refine zx_aload_n (q := 40) dX8_fits_39 rfl rfl rfl ?_
        refine zy_getIe (q := 43) (v := nI (z_FT gi ns m).1) dX8_fits_40 fl_RX8_114 rfl rfl (hB.1) rfl ?_
        refine zx_iret dX8_fits_43 rfl (Nat.le_refl _) (Nat.le_refl _) ⟨_, rfl, ?_⟩
        exact ⟨rfl, _, _, _, rfl, zRel_scr hR (fun k j z => (e3 k j z).trans (e2 k j (by unfold z_scr at z; omega)))⟩
      · show zW l D tc A mX7_fits (d + 6) 0 0 0 0 0 [some (.ref 0), some (.int 0), none] [] (zs gi gl f) _
        refine zx_aload_n (q := 1) dX7_fits_0 rfl rfl rfl ?_
        refine zx_iload_n (q := 2) dX7_fits_1 rfl rfl rfl ?_
        refine zx_bipush (q := 4) (v := 10) dX7_fits_2 (by decide) rfl ?_
        refine zx_isub (q := 5) dX7_fits_4 rfl ?_
        refine zx_callV1i (q := 8) (y' := mX7_isSort) dX7_fits_5 ml_RX7_89 ok_mX7_isSort rfl (by decide) rfl (Nat.le_of_ble_eq_true rfl) (Nat.le_of_ble_eq_true rfl) (Nat.le_refl _) (Nat.le_refl _) rfl (t_X7_isSort _ _) ?_
        rintro _ _ ⟨rfl, rfl⟩
        refine zx_istore2 (q := 9) dX7_fits_8 rfl rfl ?_
        refine zx_iload_n (q := 10) dX7_fits_9 rfl rfl rfl ?_
        refine zx_if_ne_f (t := 26) (q := 13) dX7_fits_10 (by decide) rfl (zk_f (by show ¬ z_in _ 0 (gi 1 0 - 1) = true; rw [L.hs1]; exact z_sortw_lt (by decide))) ?_
        refine zx_iload_n (q := 14) dX7_fits_13 rfl rfl rfl ?_
        refine zx_iconst (q := 15) (v := 0) dX7_fits_14 (by decide) rfl ?_
        refine zx_iconst (q := 16) (v := 2) dX7_fits_15 (by decide) rfl ?_
        refine zx_callS3i (q := 19) (y' := mX7_within) dX7_fits_16 ml_RX7_73 ok_mX7_within (Nat.le_of_ble_eq_true rfl) (Nat.le_of_ble_eq_true rfl) (Nat.le_refl _) (Nat.le_refl _) rfl (t_X7_within _ _ _ _) ?_
        rintro _ _ ⟨rfl, rfl⟩
        refine zx_if_ne_t (t := 26) (q := 22) dX7_fits_19 (by decide) rfl (zk_t (by decide)) ?_
        refine zx_aload_n (q := 27) dX7_fits_26 rfl rfl rfl ?_
        refine zx_callV0v (q := 30) (y' := mX7_searchFitting) dX7_fits_27 ml_RX7_148 ok_mX7_searchFitting rfl (by decide) rfl (Nat.le_of_ble_eq_true rfl) (Nat.le_of_ble_eq_true rfl) (Nat.le_refl _) (Nat.le_refl _) rfl (t_X7_sF _ L) ?_
        rintro _ ⟨g2, rfl, hA, hok, e2⟩
        refine zx_iload_n (q := 31) dX7_fits_30 rfl rfl rfl ?_
        refine zx_if_ne_f (t := 42) (q := 34) dX7_fits_31 (by decide) rfl (rfl) ?_
        refine zx_aload_n (q := 35) dX7_fits_34 rfl rfl rfl ?_
        refine zy_getR (q := 38) dX7_fits_35 fl_RX7_51 rfl rfl rfl rfl ?_
        refine zy_getIe (q := 41) (v := nI (z_FT gi ns m).1) dX7_fits_38 fl_RX7_151 rfl rfl (hA.1) rfl ?_
        refine zx_iret dX7_fits_41 rfl (Nat.le_refl _) (Nat.le_refl _) ⟨_, rfl, ?_⟩
        refine ⟨_, _, _, rfl, ?_⟩
        show zW l D tc A mX8_fits (d + 6) 0 0 0 0 0 [some (.ref 108), some (.int 0)] [] (zs _ _ _) _
        refine zx_aload_n (q := 1) dX8_fits_0 rfl rfl rfl ?_
        refine zx_iload_n (q := 2) dX8_fits_1 rfl rfl rfl ?_
        refine zx_iconst (q := 3) (v := 0) dX8_fits_2 (by decide) rfl ?_
        refine zx_iconst (q := 4) (v := 2) dX8_fits_3 (by decide) rfl ?_
        refine zx_callV3i (q := 7) (y' := mX8_in) dX8_fits_4 ml_RX8_200 ok_mX8_in rfl (by decide) rfl (Nat.le_of_ble_eq_true rfl) (Nat.le_of_ble_eq_true rfl) (Nat.le_refl _) (Nat.le_refl _) rfl (t_X8_in _ _ _ _ _) ?_
        rintro _ _ ⟨rfl, rfl⟩
        refine zx_if_ne_t (t := 31) (q := 10) dX8_fits_7 (by decide) rfl (zk_t (by decide)) ?_
        refine zx_aload_n (q := 32) dX8_fits_31 rfl rfl rfl ?_
        refine zx_callV0v (q := 35) (y' := mX8_layFits) dX8_fits_32 ml_RX8_314 ok_mX8_layFits rfl (by decide) rfl (Nat.le_of_ble_eq_true rfl) (Nat.le_of_ble_eq_true rfl) (Nat.le_refl _) (Nat.le_refl _) rfl (t_X8_layFits _ L (fun k j a b => e2 k j (by unfold z_scr at a; omega)) (w := z_tw gi) (fun h hh => ⟨by rw [e2 _ _ (by omega)]; exact (z_tw_ok L.hT hh).2.1, fun v hv => by have := (z_tw_ok L.hT hh).2.2 v hv; omega⟩)) ?_
        rintro _ ⟨g3, rfl, hB, h3, e3⟩
        have hB : zMA g3 (z_FT gi ns m) := hB
        refine zx_iload_n (q := 36) dX8_fits_35 rfl rfl rfl ?_
        refine zx_if_ne_f (t := 44) (q := 39) dX8_fits_36 (by decide) rfl (rfl) ?_
        refine zx_aload_n (q := 40) dX8_fits_39 rfl rfl rfl ?_
        refine zy_getIe (q := 43) (v := nI (z_FT gi ns m).1) dX8_fits_40 fl_RX8_114 rfl rfl (hB.1) rfl ?_
        refine zx_iret dX8_fits_43 rfl (Nat.le_refl _) (Nat.le_refl _) ⟨_, rfl, ?_⟩
        exact ⟨rfl, _, _, _, rfl, zRel_scr hR (fun k j z => (e3 k j z).trans (e2 k j (by unfold z_scr at z; omega)))⟩
    · by_cases j1 : j = 1
      · subst j1
        by_cases hz : (z_FT gi ns m).1 = 0
        · show zW l D tc A mX7_fits (d + 6) 0 0 0 0 0 [some (.ref 0), some (.int 1), none] [] (zs gi gl f) _
          refine zx_aload_n (q := 1) dX7_fits_0 rfl rfl rfl ?_
          refine zx_iload_n (q := 2) dX7_fits_1 rfl rfl rfl ?_
          refine zx_bipush (q := 4) (v := 10) dX7_fits_2 (by decide) rfl ?_
          refine zx_isub (q := 5) dX7_fits_4 rfl ?_
          refine zx_callV1i (q := 8) (y' := mX7_isSort) dX7_fits_5 ml_RX7_89 ok_mX7_isSort rfl (by decide) rfl (Nat.le_of_ble_eq_true rfl) (Nat.le_of_ble_eq_true rfl) (Nat.le_refl _) (Nat.le_refl _) rfl (t_X7_isSort _ _) ?_
          rintro _ _ ⟨rfl, rfl⟩
          refine zx_istore2 (q := 9) dX7_fits_8 rfl rfl ?_
          refine zx_iload_n (q := 10) dX7_fits_9 rfl rfl rfl ?_
          refine zx_if_ne_f (t := 26) (q := 13) dX7_fits_10 (by decide) rfl (zk_f (by show ¬ z_in _ 0 (gi 1 0 - 1) = true; rw [L.hs1]; exact z_sortw_lt (by decide))) ?_
          refine zx_iload_n (q := 14) dX7_fits_13 rfl rfl rfl ?_
          refine zx_iconst (q := 15) (v := 0) dX7_fits_14 (by decide) rfl ?_
          refine zx_iconst (q := 16) (v := 2) dX7_fits_15 (by decide) rfl ?_
          refine zx_callS3i (q := 19) (y' := mX7_within) dX7_fits_16 ml_RX7_73 ok_mX7_within (Nat.le_of_ble_eq_true rfl) (Nat.le_of_ble_eq_true rfl) (Nat.le_refl _) (Nat.le_refl _) rfl (t_X7_within _ _ _ _) ?_
          rintro _ _ ⟨rfl, rfl⟩
          refine zx_if_ne_t (t := 26) (q := 22) dX7_fits_19 (by decide) rfl (zk_t (by decide)) ?_
          refine zx_aload_n (q := 27) dX7_fits_26 rfl rfl rfl ?_
          refine zx_callV0v (q := 30) (y' := mX7_searchFitting) dX7_fits_27 ml_RX7_148 ok_mX7_searchFitting rfl (by decide) rfl (Nat.le_of_ble_eq_true rfl) (Nat.le_of_ble_eq_true rfl) (Nat.le_refl _) (Nat.le_refl _) rfl (t_X7_sF _ L) ?_
          rintro _ ⟨g2, rfl, hA, hok, e2⟩
          refine zx_iload_n (q := 31) dX7_fits_30 rfl rfl rfl ?_
          refine zx_if_ne_t (t := 42) (q := 34) dX7_fits_31 (by decide) rfl (by decide) ?_
          refine zx_aload_n (q := 43) dX7_fits_42 rfl rfl rfl ?_
          refine zy_getR (q := 46) dX7_fits_43 fl_RX7_51 rfl rfl rfl rfl ?_
          refine zy_getIe (q := 49) (v := nI (z_FT gi ns m).1) dX7_fits_46 fl_RX7_151 rfl rfl (hA.1) rfl ?_
          refine zx_if_ne_f (t := 55) (q := 52) dX7_fits_49 (by decide) rfl (by rw [hz]; rfl) ?_
          refine zx_bipush (q := 54) (v := (-5)) dX7_fits_52 (by decide) rfl ?_
          refine zx_iret dX7_fits_54 rfl (Nat.le_refl _) (Nat.le_refl _) ⟨_, rfl, ?_⟩
          refine ⟨_, _, _, rfl, ?_⟩
          show zW l D tc A mX8_fits (d + 6) 0 0 0 0 0 [some (.ref 108), some (.int 1)] [] (zs _ _ _) _
          refine zx_aload_n (q := 1) dX8_fits_0 rfl rfl rfl ?_
          refine zx_iload_n (q := 2) dX8_fits_1 rfl rfl rfl ?_
          refine zx_iconst (q := 3) (v := 0) dX8_fits_2 (by decide) rfl ?_
          refine zx_iconst (q := 4) (v := 2) dX8_fits_3 (by decide) rfl ?_
          refine zx_callV3i (q := 7) (y' := mX8_in) dX8_fits_4 ml_RX8_200 ok_mX8_in rfl (by decide) rfl (Nat.le_of_ble_eq_true rfl) (Nat.le_of_ble_eq_true rfl) (Nat.le_refl _) (Nat.le_refl _) rfl (t_X8_in _ _ _ _ _) ?_
          rintro _ _ ⟨rfl, rfl⟩
          refine zx_if_ne_t (t := 31) (q := 10) dX8_fits_7 (by decide) rfl (zk_t (by decide)) ?_
          refine zx_aload_n (q := 32) dX8_fits_31 rfl rfl rfl ?_
          refine zx_callV0v (q := 35) (y' := mX8_layFits) dX8_fits_32 ml_RX8_314 ok_mX8_layFits rfl (by decide) rfl (Nat.le_of_ble_eq_true rfl) (Nat.le_of_ble_eq_true rfl) (Nat.le_refl _) (Nat.le_refl _) rfl (t_X8_layFits _ L (fun k j a b => e2 k j (by unfold z_scr at a; omega)) (w := z_tw gi) (fun h hh => ⟨by rw [e2 _ _ (by omega)]; exact (z_tw_ok L.hT hh).2.1, fun v hv => by have := (z_tw_ok L.hT hh).2.2 v hv; omega⟩)) ?_
          rintro _ ⟨g3, rfl, hB, h3, e3⟩
          have hB : zMA g3 (z_FT gi ns m) := hB
          refine zx_iload_n (q := 36) dX8_fits_35 rfl rfl rfl ?_
          refine zx_if_ne_t (t := 44) (q := 39) dX8_fits_36 (by decide) rfl (by decide) ?_
          refine zx_aload_n (q := 45) dX8_fits_44 rfl rfl rfl ?_
          refine zy_getIe (q := 48) (v := nI (z_FT gi ns m).1) dX8_fits_45 fl_RX8_114 rfl rfl (hB.1) rfl ?_
          refine zx_if_ne_f (t := 56) (q := 51) dX8_fits_48 (by decide) rfl (by rw [hz]; rfl) ?_
          refine zx_bipush (q := 53) (v := (-5)) dX8_fits_51 (by decide) rfl ?_
          refine zx_goto (t := 89) dX8_fits_53 (by decide) ?_
          try rw [(hB.2.1 (by omega)).2.2 s (by omega)]
          refine zx_iret dX8_fits_89 rfl (Nat.le_refl _) (Nat.le_refl _) ⟨_, rfl, ?_⟩
          exact ⟨rfl, _, _, _, rfl, zRel_scr hR (fun k j z => (e3 k j z).trans (e2 k j (by unfold z_scr at z; omega)))⟩
        · show zW l D tc A mX7_fits (d + 6) 0 0 0 0 0 [some (.ref 0), some (.int 1), none] [] (zs gi gl f) _
          refine zx_aload_n (q := 1) dX7_fits_0 rfl rfl rfl ?_
          refine zx_iload_n (q := 2) dX7_fits_1 rfl rfl rfl ?_
          refine zx_bipush (q := 4) (v := 10) dX7_fits_2 (by decide) rfl ?_
          refine zx_isub (q := 5) dX7_fits_4 rfl ?_
          refine zx_callV1i (q := 8) (y' := mX7_isSort) dX7_fits_5 ml_RX7_89 ok_mX7_isSort rfl (by decide) rfl (Nat.le_of_ble_eq_true rfl) (Nat.le_of_ble_eq_true rfl) (Nat.le_refl _) (Nat.le_refl _) rfl (t_X7_isSort _ _) ?_
          rintro _ _ ⟨rfl, rfl⟩
          refine zx_istore2 (q := 9) dX7_fits_8 rfl rfl ?_
          refine zx_iload_n (q := 10) dX7_fits_9 rfl rfl rfl ?_
          refine zx_if_ne_f (t := 26) (q := 13) dX7_fits_10 (by decide) rfl (zk_f (by show ¬ z_in _ 0 (gi 1 0 - 1) = true; rw [L.hs1]; exact z_sortw_lt (by decide))) ?_
          refine zx_iload_n (q := 14) dX7_fits_13 rfl rfl rfl ?_
          refine zx_iconst (q := 15) (v := 0) dX7_fits_14 (by decide) rfl ?_
          refine zx_iconst (q := 16) (v := 2) dX7_fits_15 (by decide) rfl ?_
          refine zx_callS3i (q := 19) (y' := mX7_within) dX7_fits_16 ml_RX7_73 ok_mX7_within (Nat.le_of_ble_eq_true rfl) (Nat.le_of_ble_eq_true rfl) (Nat.le_refl _) (Nat.le_refl _) rfl (t_X7_within _ _ _ _) ?_
          rintro _ _ ⟨rfl, rfl⟩
          refine zx_if_ne_t (t := 26) (q := 22) dX7_fits_19 (by decide) rfl (zk_t (by decide)) ?_
          refine zx_aload_n (q := 27) dX7_fits_26 rfl rfl rfl ?_
          refine zx_callV0v (q := 30) (y' := mX7_searchFitting) dX7_fits_27 ml_RX7_148 ok_mX7_searchFitting rfl (by decide) rfl (Nat.le_of_ble_eq_true rfl) (Nat.le_of_ble_eq_true rfl) (Nat.le_refl _) (Nat.le_refl _) rfl (t_X7_sF _ L) ?_
          rintro _ ⟨g2, rfl, hA, hok, e2⟩
          refine zx_iload_n (q := 31) dX7_fits_30 rfl rfl rfl ?_
          refine zx_if_ne_t (t := 42) (q := 34) dX7_fits_31 (by decide) rfl (by decide) ?_
          refine zx_aload_n (q := 43) dX7_fits_42 rfl rfl rfl ?_
          refine zy_getR (q := 46) dX7_fits_43 fl_RX7_51 rfl rfl rfl rfl ?_
          refine zy_getIe (q := 49) (v := nI (z_FT gi ns m).1) dX7_fits_46 fl_RX7_151 rfl rfl (hA.1) rfl ?_
          refine zx_if_ne_t (t := 55) (q := 52) dX7_fits_49 (by decide) rfl (z_n0 hok.2.1 hz) ?_
          refine zx_iload_n (q := 56) dX7_fits_55 rfl rfl rfl ?_
          refine zx_if_eq_t (t := 72) (q := 59) dX7_fits_56 (by decide) rfl (zk_f (by show ¬ z_in _ 0 (gi 1 0 - 1) = true; rw [L.hs1]; exact z_sortw_lt (by decide))) ?_
          refine zx_iload_n (q := 73) dX7_fits_72 rfl rfl rfl ?_
          refine zx_iconst (q := 74) (v := 1) dX7_fits_73 (by decide) rfl ?_
          refine zx_icmp_ne_f (t := 87) (q := 77) dX7_fits_74 (by decide) rfl (rfl) ?_
          refine zx_aload_n (q := 78) dX7_fits_77 rfl rfl rfl ?_
          refine zy_getR (q := 81) dX7_fits_78 fl_RX7_51 rfl rfl rfl rfl ?_
          refine zy_getIe (q := 84) (v := nI (z_FT gi ns m).2.1) dX7_fits_81 fl_RX7_157 rfl rfl (hA.2.1) rfl ?_
          refine zx_goto (t := 94) dX7_fits_84 (by decide) ?_
          refine zx_iret dX7_fits_94 rfl (Nat.le_refl _) (Nat.le_refl _) ⟨_, rfl, ?_⟩
          refine ⟨_, _, _, rfl, ?_⟩
          show zW l D tc A mX8_fits (d + 6) 0 0 0 0 0 [some (.ref 108), some (.int 1)] [] (zs _ _ _) _
          refine zx_aload_n (q := 1) dX8_fits_0 rfl rfl rfl ?_
          refine zx_iload_n (q := 2) dX8_fits_1 rfl rfl rfl ?_
          refine zx_iconst (q := 3) (v := 0) dX8_fits_2 (by decide) rfl ?_
          refine zx_iconst (q := 4) (v := 2) dX8_fits_3 (by decide) rfl ?_
          refine zx_callV3i (q := 7) (y' := mX8_in) dX8_fits_4 ml_RX8_200 ok_mX8_in rfl (by decide) rfl (Nat.le_of_ble_eq_true rfl) (Nat.le_of_ble_eq_true rfl) (Nat.le_refl _) (Nat.le_refl _) rfl (t_X8_in _ _ _ _ _) ?_
          rintro _ _ ⟨rfl, rfl⟩
          refine zx_if_ne_t (t := 31) (q := 10) dX8_fits_7 (by decide) rfl (zk_t (by decide)) ?_
          refine zx_aload_n (q := 32) dX8_fits_31 rfl rfl rfl ?_
          refine zx_callV0v (q := 35) (y' := mX8_layFits) dX8_fits_32 ml_RX8_314 ok_mX8_layFits rfl (by decide) rfl (Nat.le_of_ble_eq_true rfl) (Nat.le_of_ble_eq_true rfl) (Nat.le_refl _) (Nat.le_refl _) rfl (t_X8_layFits _ L (fun k j a b => e2 k j (by unfold z_scr at a; omega)) (w := z_tw gi) (fun h hh => ⟨by rw [e2 _ _ (by omega)]; exact (z_tw_ok L.hT hh).2.1, fun v hv => by have := (z_tw_ok L.hT hh).2.2 v hv; omega⟩)) ?_
          rintro _ ⟨g3, rfl, hB, h3, e3⟩
          have hB : zMA g3 (z_FT gi ns m) := hB
          refine zx_iload_n (q := 36) dX8_fits_35 rfl rfl rfl ?_
          refine zx_if_ne_t (t := 44) (q := 39) dX8_fits_36 (by decide) rfl (by decide) ?_
          refine zx_aload_n (q := 45) dX8_fits_44 rfl rfl rfl ?_
          refine zy_getIe (q := 48) (v := nI (z_FT gi ns m).1) dX8_fits_45 fl_RX8_114 rfl rfl (hB.1) rfl ?_
          refine zx_if_ne_t (t := 56) (q := 51) dX8_fits_48 (by decide) rfl (z_n0 hok.2.1 hz) ?_
          refine zx_iload_n (q := 57) dX8_fits_56 rfl rfl rfl ?_
          refine zx_iconst (q := 58) (v := 1) dX8_fits_57 (by decide) rfl ?_
          refine zx_icmp_ne_f (t := 68) (q := 61) dX8_fits_58 (by decide) rfl (rfl) ?_
          refine zx_aload_n (q := 62) dX8_fits_61 rfl rfl rfl ?_
          refine zy_getIe (q := 65) (v := nI (z_FT gi ns m).2.1) dX8_fits_62 fl_RX8_117 rfl rfl ((hB.2.1 (by omega)).1) rfl ?_
          refine zx_goto (t := 89) dX8_fits_65 (by decide) ?_
          try rw [(hB.2.1 (by omega)).2.2 s (by omega)]
          refine zx_iret dX8_fits_89 rfl (Nat.le_refl _) (Nat.le_refl _) ⟨_, rfl, ?_⟩
          exact ⟨rfl, _, _, _, rfl, zRel_scr hR (fun k j z => (e3 k j z).trans (e2 k j (by unfold z_scr at z; omega)))⟩
      · have j2 : j = 2 := by omega
        subst j2
        by_cases hz : (z_FT gi ns m).1 = 0
        · show zW l D tc A mX7_fits (d + 6) 0 0 0 0 0 [some (.ref 0), some (.int 2), none] [] (zs gi gl f) _
          refine zx_aload_n (q := 1) dX7_fits_0 rfl rfl rfl ?_
          refine zx_iload_n (q := 2) dX7_fits_1 rfl rfl rfl ?_
          refine zx_bipush (q := 4) (v := 10) dX7_fits_2 (by decide) rfl ?_
          refine zx_isub (q := 5) dX7_fits_4 rfl ?_
          refine zx_callV1i (q := 8) (y' := mX7_isSort) dX7_fits_5 ml_RX7_89 ok_mX7_isSort rfl (by decide) rfl (Nat.le_of_ble_eq_true rfl) (Nat.le_of_ble_eq_true rfl) (Nat.le_refl _) (Nat.le_refl _) rfl (t_X7_isSort _ _) ?_
          rintro _ _ ⟨rfl, rfl⟩
          refine zx_istore2 (q := 9) dX7_fits_8 rfl rfl ?_
          refine zx_iload_n (q := 10) dX7_fits_9 rfl rfl rfl ?_
          refine zx_if_ne_f (t := 26) (q := 13) dX7_fits_10 (by decide) rfl (zk_f (by show ¬ z_in _ 0 (gi 1 0 - 1) = true; rw [L.hs1]; exact z_sortw_lt (by decide))) ?_
          refine zx_iload_n (q := 14) dX7_fits_13 rfl rfl rfl ?_
          refine zx_iconst (q := 15) (v := 0) dX7_fits_14 (by decide) rfl ?_
          refine zx_iconst (q := 16) (v := 2) dX7_fits_15 (by decide) rfl ?_
          refine zx_callS3i (q := 19) (y' := mX7_within) dX7_fits_16 ml_RX7_73 ok_mX7_within (Nat.le_of_ble_eq_true rfl) (Nat.le_of_ble_eq_true rfl) (Nat.le_refl _) (Nat.le_refl _) rfl (t_X7_within _ _ _ _) ?_
          rintro _ _ ⟨rfl, rfl⟩
          refine zx_if_ne_t (t := 26) (q := 22) dX7_fits_19 (by decide) rfl (zk_t (by decide)) ?_
          refine zx_aload_n (q := 27) dX7_fits_26 rfl rfl rfl ?_
          refine zx_callV0v (q := 30) (y' := mX7_searchFitting) dX7_fits_27 ml_RX7_148 ok_mX7_searchFitting rfl (by decide) rfl (Nat.le_of_ble_eq_true rfl) (Nat.le_of_ble_eq_true rfl) (Nat.le_refl _) (Nat.le_refl _) rfl (t_X7_sF _ L) ?_
          rintro _ ⟨g2, rfl, hA, hok, e2⟩
          refine zx_iload_n (q := 31) dX7_fits_30 rfl rfl rfl ?_
          refine zx_if_ne_t (t := 42) (q := 34) dX7_fits_31 (by decide) rfl (by decide) ?_
          refine zx_aload_n (q := 43) dX7_fits_42 rfl rfl rfl ?_
          refine zy_getR (q := 46) dX7_fits_43 fl_RX7_51 rfl rfl rfl rfl ?_
          refine zy_getIe (q := 49) (v := nI (z_FT gi ns m).1) dX7_fits_46 fl_RX7_151 rfl rfl (hA.1) rfl ?_
          refine zx_if_ne_f (t := 55) (q := 52) dX7_fits_49 (by decide) rfl (by rw [hz]; rfl) ?_
          refine zx_bipush (q := 54) (v := (-5)) dX7_fits_52 (by decide) rfl ?_
          refine zx_iret dX7_fits_54 rfl (Nat.le_refl _) (Nat.le_refl _) ⟨_, rfl, ?_⟩
          refine ⟨_, _, _, rfl, ?_⟩
          show zW l D tc A mX8_fits (d + 6) 0 0 0 0 0 [some (.ref 108), some (.int 2)] [] (zs _ _ _) _
          refine zx_aload_n (q := 1) dX8_fits_0 rfl rfl rfl ?_
          refine zx_iload_n (q := 2) dX8_fits_1 rfl rfl rfl ?_
          refine zx_iconst (q := 3) (v := 0) dX8_fits_2 (by decide) rfl ?_
          refine zx_iconst (q := 4) (v := 2) dX8_fits_3 (by decide) rfl ?_
          refine zx_callV3i (q := 7) (y' := mX8_in) dX8_fits_4 ml_RX8_200 ok_mX8_in rfl (by decide) rfl (Nat.le_of_ble_eq_true rfl) (Nat.le_of_ble_eq_true rfl) (Nat.le_refl _) (Nat.le_refl _) rfl (t_X8_in _ _ _ _ _) ?_
          rintro _ _ ⟨rfl, rfl⟩
          refine zx_if_ne_t (t := 31) (q := 10) dX8_fits_7 (by decide) rfl (zk_t (by decide)) ?_
          refine zx_aload_n (q := 32) dX8_fits_31 rfl rfl rfl ?_
          refine zx_callV0v (q := 35) (y' := mX8_layFits) dX8_fits_32 ml_RX8_314 ok_mX8_layFits rfl (by decide) rfl (Nat.le_of_ble_eq_true rfl) (Nat.le_of_ble_eq_true rfl) (Nat.le_refl _) (Nat.le_refl _) rfl (t_X8_layFits _ L (fun k j a b => e2 k j (by unfold z_scr at a; omega)) (w := z_tw gi) (fun h hh => ⟨by rw [e2 _ _ (by omega)]; exact (z_tw_ok L.hT hh).2.1, fun v hv => by have := (z_tw_ok L.hT hh).2.2 v hv; omega⟩)) ?_
          rintro _ ⟨g3, rfl, hB, h3, e3⟩
          have hB : zMA g3 (z_FT gi ns m) := hB
          refine zx_iload_n (q := 36) dX8_fits_35 rfl rfl rfl ?_
          refine zx_if_ne_t (t := 44) (q := 39) dX8_fits_36 (by decide) rfl (by decide) ?_
          refine zx_aload_n (q := 45) dX8_fits_44 rfl rfl rfl ?_
          refine zy_getIe (q := 48) (v := nI (z_FT gi ns m).1) dX8_fits_45 fl_RX8_114 rfl rfl (hB.1) rfl ?_
          refine zx_if_ne_f (t := 56) (q := 51) dX8_fits_48 (by decide) rfl (by rw [hz]; rfl) ?_
          refine zx_bipush (q := 53) (v := (-5)) dX8_fits_51 (by decide) rfl ?_
          refine zx_goto (t := 89) dX8_fits_53 (by decide) ?_
          try rw [(hB.2.1 (by omega)).2.2 s (by omega)]
          refine zx_iret dX8_fits_89 rfl (Nat.le_refl _) (Nat.le_refl _) ⟨_, rfl, ?_⟩
          exact ⟨rfl, _, _, _, rfl, zRel_scr hR (fun k j z => (e3 k j z).trans (e2 k j (by unfold z_scr at z; omega)))⟩
        · show zW l D tc A mX7_fits (d + 6) 0 0 0 0 0 [some (.ref 0), some (.int 2), none] [] (zs gi gl f) _
          refine zx_aload_n (q := 1) dX7_fits_0 rfl rfl rfl ?_
          refine zx_iload_n (q := 2) dX7_fits_1 rfl rfl rfl ?_
          refine zx_bipush (q := 4) (v := 10) dX7_fits_2 (by decide) rfl ?_
          refine zx_isub (q := 5) dX7_fits_4 rfl ?_
          refine zx_callV1i (q := 8) (y' := mX7_isSort) dX7_fits_5 ml_RX7_89 ok_mX7_isSort rfl (by decide) rfl (Nat.le_of_ble_eq_true rfl) (Nat.le_of_ble_eq_true rfl) (Nat.le_refl _) (Nat.le_refl _) rfl (t_X7_isSort _ _) ?_
          rintro _ _ ⟨rfl, rfl⟩
          refine zx_istore2 (q := 9) dX7_fits_8 rfl rfl ?_
          refine zx_iload_n (q := 10) dX7_fits_9 rfl rfl rfl ?_
          refine zx_if_ne_f (t := 26) (q := 13) dX7_fits_10 (by decide) rfl (zk_f (by show ¬ z_in _ 0 (gi 1 0 - 1) = true; rw [L.hs1]; exact z_sortw_lt (by decide))) ?_
          refine zx_iload_n (q := 14) dX7_fits_13 rfl rfl rfl ?_
          refine zx_iconst (q := 15) (v := 0) dX7_fits_14 (by decide) rfl ?_
          refine zx_iconst (q := 16) (v := 2) dX7_fits_15 (by decide) rfl ?_
          refine zx_callS3i (q := 19) (y' := mX7_within) dX7_fits_16 ml_RX7_73 ok_mX7_within (Nat.le_of_ble_eq_true rfl) (Nat.le_of_ble_eq_true rfl) (Nat.le_refl _) (Nat.le_refl _) rfl (t_X7_within _ _ _ _) ?_
          rintro _ _ ⟨rfl, rfl⟩
          refine zx_if_ne_t (t := 26) (q := 22) dX7_fits_19 (by decide) rfl (zk_t (by decide)) ?_
          refine zx_aload_n (q := 27) dX7_fits_26 rfl rfl rfl ?_
          refine zx_callV0v (q := 30) (y' := mX7_searchFitting) dX7_fits_27 ml_RX7_148 ok_mX7_searchFitting rfl (by decide) rfl (Nat.le_of_ble_eq_true rfl) (Nat.le_of_ble_eq_true rfl) (Nat.le_refl _) (Nat.le_refl _) rfl (t_X7_sF _ L) ?_
          rintro _ ⟨g2, rfl, hA, hok, e2⟩
          refine zx_iload_n (q := 31) dX7_fits_30 rfl rfl rfl ?_
          refine zx_if_ne_t (t := 42) (q := 34) dX7_fits_31 (by decide) rfl (by decide) ?_
          refine zx_aload_n (q := 43) dX7_fits_42 rfl rfl rfl ?_
          refine zy_getR (q := 46) dX7_fits_43 fl_RX7_51 rfl rfl rfl rfl ?_
          refine zy_getIe (q := 49) (v := nI (z_FT gi ns m).1) dX7_fits_46 fl_RX7_151 rfl rfl (hA.1) rfl ?_
          refine zx_if_ne_t (t := 55) (q := 52) dX7_fits_49 (by decide) rfl (z_n0 hok.2.1 hz) ?_
          refine zx_iload_n (q := 56) dX7_fits_55 rfl rfl rfl ?_
          refine zx_if_eq_t (t := 72) (q := 59) dX7_fits_56 (by decide) rfl (zk_f (by show ¬ z_in _ 0 (gi 1 0 - 1) = true; rw [L.hs1]; exact z_sortw_lt (by decide))) ?_
          refine zx_iload_n (q := 73) dX7_fits_72 rfl rfl rfl ?_
          refine zx_iconst (q := 74) (v := 1) dX7_fits_73 (by decide) rfl ?_
          refine zx_icmp_ne_t (t := 87) (q := 77) dX7_fits_74 (by decide) rfl (by decide) ?_
          refine zx_aload_n (q := 88) dX7_fits_87 rfl rfl rfl ?_
          refine zy_getR (q := 91) dX7_fits_88 fl_RX7_51 rfl rfl rfl rfl ?_
          refine zy_getIe (q := 94) (v := nI (z_FT gi ns m).2.2.1) dX7_fits_91 fl_RX7_160 rfl rfl (hA.2.2.1) rfl ?_
          refine zx_iret dX7_fits_94 rfl (Nat.le_refl _) (Nat.le_refl _) ⟨_, rfl, ?_⟩
          refine ⟨_, _, _, rfl, ?_⟩
          show zW l D tc A mX8_fits (d + 6) 0 0 0 0 0 [some (.ref 108), some (.int 2)] [] (zs _ _ _) _
          refine zx_aload_n (q := 1) dX8_fits_0 rfl rfl rfl ?_
          refine zx_iload_n (q := 2) dX8_fits_1 rfl rfl rfl ?_
          refine zx_iconst (q := 3) (v := 0) dX8_fits_2 (by decide) rfl ?_
          refine zx_iconst (q := 4) (v := 2) dX8_fits_3 (by decide) rfl ?_
          refine zx_callV3i (q := 7) (y' := mX8_in) dX8_fits_4 ml_RX8_200 ok_mX8_in rfl (by decide) rfl (Nat.le_of_ble_eq_true rfl) (Nat.le_of_ble_eq_true rfl) (Nat.le_refl _) (Nat.le_refl _) rfl (t_X8_in _ _ _ _ _) ?_
          rintro _ _ ⟨rfl, rfl⟩
          refine zx_if_ne_t (t := 31) (q := 10) dX8_fits_7 (by decide) rfl (zk_t (by decide)) ?_
          refine zx_aload_n (q := 32) dX8_fits_31 rfl rfl rfl ?_
          refine zx_callV0v (q := 35) (y' := mX8_layFits) dX8_fits_32 ml_RX8_314 ok_mX8_layFits rfl (by decide) rfl (Nat.le_of_ble_eq_true rfl) (Nat.le_of_ble_eq_true rfl) (Nat.le_refl _) (Nat.le_refl _) rfl (t_X8_layFits _ L (fun k j a b => e2 k j (by unfold z_scr at a; omega)) (w := z_tw gi) (fun h hh => ⟨by rw [e2 _ _ (by omega)]; exact (z_tw_ok L.hT hh).2.1, fun v hv => by have := (z_tw_ok L.hT hh).2.2 v hv; omega⟩)) ?_
          rintro _ ⟨g3, rfl, hB, h3, e3⟩
          have hB : zMA g3 (z_FT gi ns m) := hB
          refine zx_iload_n (q := 36) dX8_fits_35 rfl rfl rfl ?_
          refine zx_if_ne_t (t := 44) (q := 39) dX8_fits_36 (by decide) rfl (by decide) ?_
          refine zx_aload_n (q := 45) dX8_fits_44 rfl rfl rfl ?_
          refine zy_getIe (q := 48) (v := nI (z_FT gi ns m).1) dX8_fits_45 fl_RX8_114 rfl rfl (hB.1) rfl ?_
          refine zx_if_ne_t (t := 56) (q := 51) dX8_fits_48 (by decide) rfl (z_n0 hok.2.1 hz) ?_
          refine zx_iload_n (q := 57) dX8_fits_56 rfl rfl rfl ?_
          refine zx_iconst (q := 58) (v := 1) dX8_fits_57 (by decide) rfl ?_
          refine zx_icmp_ne_t (t := 68) (q := 61) dX8_fits_58 (by decide) rfl (by decide) ?_
          refine zx_iload_n (q := 69) dX8_fits_68 rfl rfl rfl ?_
          refine zx_iconst (q := 70) (v := 2) dX8_fits_69 (by decide) rfl ?_
          refine zx_icmp_ne_f (t := 80) (q := 73) dX8_fits_70 (by decide) rfl (rfl) ?_
          refine zx_aload_n (q := 74) dX8_fits_73 rfl rfl rfl ?_
          refine zy_getIe (q := 77) (v := nI (z_FT gi ns m).2.2.1) dX8_fits_74 fl_RX8_120 rfl rfl ((hB.2.1 (by omega)).2.1) rfl ?_
          refine zx_goto (t := 89) dX8_fits_77 (by decide) ?_
          try rw [(hB.2.1 (by omega)).2.2 s (by omega)]
          refine zx_iret dX8_fits_89 rfl (Nat.le_refl _) (Nat.le_refl _) ⟨_, rfl, ?_⟩
          exact ⟨rfl, _, _, _, rfl, zRel_scr hR (fun k j z => (e3 k j z).trans (e2 k j (by unfold z_scr at z; omega)))⟩
  · by_cases h2 : z_in (a - 10) 0 (nI ns - 1) = true
    · obtain ⟨s, hs, rfl⟩ := z_sortw hns h2
      by_cases hz : (z_FT gi ns m).1 = 0
      · show zW l D tc A mX7_fits (d + 6) 0 0 0 0 0 [some (.ref 0), some (.int (nI (10 + s))), none] [] (zs gi gl f) _
        refine zx_aload_n (q := 1) dX7_fits_0 rfl rfl rfl ?_
        refine zx_iload_n (q := 2) dX7_fits_1 rfl rfl rfl ?_
        refine zx_bipush (q := 4) (v := 10) dX7_fits_2 (by decide) rfl ?_
        refine zx_isub (q := 5) dX7_fits_4 rfl ?_
        refine zx_callV1i (q := 8) (y' := mX7_isSort) dX7_fits_5 ml_RX7_89 ok_mX7_isSort rfl (by decide) rfl (Nat.le_of_ble_eq_true rfl) (Nat.le_of_ble_eq_true rfl) (Nat.le_refl _) (Nat.le_refl _) rfl (t_X7_isSort _ _) ?_
        rintro _ _ ⟨rfl, rfl⟩
        refine zx_istore2 (q := 9) dX7_fits_8 rfl rfl ?_
        refine zx_iload_n (q := 10) dX7_fits_9 rfl rfl rfl ?_
        refine zx_if_ne_t (t := 26) (q := 13) dX7_fits_10 (by decide) rfl (zk_t (by show z_in _ 0 (gi 1 0 - 1) = true; rw [L.hs1]; exact z_sortw_at L.hns hs)) ?_
        refine zx_aload_n (q := 27) dX7_fits_26 rfl rfl rfl ?_
        refine zx_callV0v (q := 30) (y' := mX7_searchFitting) dX7_fits_27 ml_RX7_148 ok_mX7_searchFitting rfl (by decide) rfl (Nat.le_of_ble_eq_true rfl) (Nat.le_of_ble_eq_true rfl) (Nat.le_refl _) (Nat.le_refl _) rfl (t_X7_sF _ L) ?_
        rintro _ ⟨g2, rfl, hA, hok, e2⟩
        refine zx_iload_n (q := 31) dX7_fits_30 rfl rfl rfl ?_
        refine zx_if_ne_t (t := 42) (q := 34) dX7_fits_31 (by decide) rfl (nI_ne0 (by omega) (by omega)) ?_
        refine zx_aload_n (q := 43) dX7_fits_42 rfl rfl rfl ?_
        refine zy_getR (q := 46) dX7_fits_43 fl_RX7_51 rfl rfl rfl rfl ?_
        refine zy_getIe (q := 49) (v := nI (z_FT gi ns m).1) dX7_fits_46 fl_RX7_151 rfl rfl (hA.1) rfl ?_
        refine zx_if_ne_f (t := 55) (q := 52) dX7_fits_49 (by decide) rfl (by rw [hz]; rfl) ?_
        refine zx_bipush (q := 54) (v := (-5)) dX7_fits_52 (by decide) rfl ?_
        refine zx_iret dX7_fits_54 rfl (Nat.le_refl _) (Nat.le_refl _) ⟨_, rfl, ?_⟩
        refine ⟨_, _, _, rfl, ?_⟩
        show zW l D tc A mX8_fits (d + 6) 0 0 0 0 0 [some (.ref 108), some (.int (nI (10 + s)))] [] (zs _ _ _) _
        refine zx_aload_n (q := 1) dX8_fits_0 rfl rfl rfl ?_
        refine zx_iload_n (q := 2) dX8_fits_1 rfl rfl rfl ?_
        refine zx_iconst (q := 3) (v := 0) dX8_fits_2 (by decide) rfl ?_
        refine zx_iconst (q := 4) (v := 2) dX8_fits_3 (by decide) rfl ?_
        refine zx_callV3i (q := 7) (y' := mX8_in) dX8_fits_4 ml_RX8_200 ok_mX8_in rfl (by decide) rfl (Nat.le_of_ble_eq_true rfl) (Nat.le_of_ble_eq_true rfl) (Nat.le_refl _) (Nat.le_refl _) rfl (t_X8_in _ _ _ _ _) ?_
        rintro _ _ ⟨rfl, rfl⟩
        refine zx_if_ne_f (t := 31) (q := 10) dX8_fits_7 (by decide) rfl (zk_f (z_in_no 0 2 _ (by decide) (by decide) (by omega) (by omega))) ?_
        refine zx_aload_n (q := 11) dX8_fits_10 rfl rfl rfl ?_
        refine zx_iload_n (q := 12) dX8_fits_11 rfl rfl rfl ?_
        refine zx_bipush (q := 14) (v := 10) dX8_fits_12 (by decide) rfl ?_
        refine zx_bipush (q := 16) (v := 9) dX8_fits_14 (by decide) rfl ?_
        refine zx_aload_n (q := 17) dX8_fits_16 rfl rfl rfl ?_
        refine zy_getI (q := 20) dX8_fits_17 fl_RX8_7 rfl rfl rfl ?_
        refine zx_iadd (q := 21) dX8_fits_20 rfl ?_
        refine zx_callV3i (q := 24) (y' := mX8_in) dX8_fits_21 ml_RX8_200 ok_mX8_in rfl (by decide) rfl (Nat.le_of_ble_eq_true rfl) (Nat.le_of_ble_eq_true rfl) (Nat.le_refl _) (Nat.le_refl _) rfl (t_X8_in _ _ _ _ _) ?_
        rintro _ _ ⟨rfl, rfl⟩
        refine zx_if_ne_t (t := 31) (q := 27) dX8_fits_24 (by decide) rfl (zk_t (by show z_in _ 10 (9 + g2 108 0) = true; rw [e2 _ _ (by omega), L.hs2]; exact z_sortm L.hns hs)) ?_
        refine zx_aload_n (q := 32) dX8_fits_31 rfl rfl rfl ?_
        refine zx_callV0v (q := 35) (y' := mX8_layFits) dX8_fits_32 ml_RX8_314 ok_mX8_layFits rfl (by decide) rfl (Nat.le_of_ble_eq_true rfl) (Nat.le_of_ble_eq_true rfl) (Nat.le_refl _) (Nat.le_refl _) rfl (t_X8_layFits _ L (fun k j a b => e2 k j (by unfold z_scr at a; omega)) (w := z_tw gi) (fun h hh => ⟨by rw [e2 _ _ (by omega)]; exact (z_tw_ok L.hT hh).2.1, fun v hv => by have := (z_tw_ok L.hT hh).2.2 v hv; omega⟩)) ?_
        rintro _ ⟨g3, rfl, hB, h3, e3⟩
        have hB : zMA g3 (z_FT gi ns m) := hB
        refine zx_iload_n (q := 36) dX8_fits_35 rfl rfl rfl ?_
        refine zx_if_ne_t (t := 44) (q := 39) dX8_fits_36 (by decide) rfl (nI_ne0 (by omega) (by omega)) ?_
        refine zx_aload_n (q := 45) dX8_fits_44 rfl rfl rfl ?_
        refine zy_getIe (q := 48) (v := nI (z_FT gi ns m).1) dX8_fits_45 fl_RX8_114 rfl rfl (hB.1) rfl ?_
        refine zx_if_ne_f (t := 56) (q := 51) dX8_fits_48 (by decide) rfl (by rw [hz]; rfl) ?_
        refine zx_bipush (q := 53) (v := (-5)) dX8_fits_51 (by decide) rfl ?_
        refine zx_goto (t := 89) dX8_fits_53 (by decide) ?_
        try rw [(hB.2.1 (by omega)).2.2 s (by omega)]
        refine zx_iret dX8_fits_89 rfl (Nat.le_refl _) (Nat.le_refl _) ⟨_, rfl, ?_⟩
        exact ⟨rfl, _, _, _, rfl, zRel_scr hR (fun k j z => (e3 k j z).trans (e2 k j (by unfold z_scr at z; omega)))⟩
      · show zW l D tc A mX7_fits (d + 6) 0 0 0 0 0 [some (.ref 0), some (.int (nI (10 + s))), none] [] (zs gi gl f) _
        refine zx_aload_n (q := 1) dX7_fits_0 rfl rfl rfl ?_
        refine zx_iload_n (q := 2) dX7_fits_1 rfl rfl rfl ?_
        refine zx_bipush (q := 4) (v := 10) dX7_fits_2 (by decide) rfl ?_
        refine zx_isub (q := 5) dX7_fits_4 rfl ?_
        refine zx_callV1i (q := 8) (y' := mX7_isSort) dX7_fits_5 ml_RX7_89 ok_mX7_isSort rfl (by decide) rfl (Nat.le_of_ble_eq_true rfl) (Nat.le_of_ble_eq_true rfl) (Nat.le_refl _) (Nat.le_refl _) rfl (t_X7_isSort _ _) ?_
        rintro _ _ ⟨rfl, rfl⟩
        refine zx_istore2 (q := 9) dX7_fits_8 rfl rfl ?_
        refine zx_iload_n (q := 10) dX7_fits_9 rfl rfl rfl ?_
        refine zx_if_ne_t (t := 26) (q := 13) dX7_fits_10 (by decide) rfl (zk_t (by show z_in _ 0 (gi 1 0 - 1) = true; rw [L.hs1]; exact z_sortw_at L.hns hs)) ?_
        refine zx_aload_n (q := 27) dX7_fits_26 rfl rfl rfl ?_
        refine zx_callV0v (q := 30) (y' := mX7_searchFitting) dX7_fits_27 ml_RX7_148 ok_mX7_searchFitting rfl (by decide) rfl (Nat.le_of_ble_eq_true rfl) (Nat.le_of_ble_eq_true rfl) (Nat.le_refl _) (Nat.le_refl _) rfl (t_X7_sF _ L) ?_
        rintro _ ⟨g2, rfl, hA, hok, e2⟩
        refine zx_iload_n (q := 31) dX7_fits_30 rfl rfl rfl ?_
        refine zx_if_ne_t (t := 42) (q := 34) dX7_fits_31 (by decide) rfl (nI_ne0 (by omega) (by omega)) ?_
        refine zx_aload_n (q := 43) dX7_fits_42 rfl rfl rfl ?_
        refine zy_getR (q := 46) dX7_fits_43 fl_RX7_51 rfl rfl rfl rfl ?_
        refine zy_getIe (q := 49) (v := nI (z_FT gi ns m).1) dX7_fits_46 fl_RX7_151 rfl rfl (hA.1) rfl ?_
        refine zx_if_ne_t (t := 55) (q := 52) dX7_fits_49 (by decide) rfl (z_n0 hok.2.1 hz) ?_
        refine zx_iload_n (q := 56) dX7_fits_55 rfl rfl rfl ?_
        refine zx_if_eq_f (t := 72) (q := 59) dX7_fits_56 (by decide) rfl (zk_t (by show z_in _ 0 (gi 1 0 - 1) = true; rw [L.hs1]; exact z_sortw_at L.hns hs)) ?_
        refine zx_aload_n (q := 60) dX7_fits_59 rfl rfl rfl ?_
        refine zy_getR (q := 63) dX7_fits_60 fl_RX7_51 rfl rfl rfl rfl ?_
        refine zy_getR (q := 66) dX7_fits_63 fl_RX7_154 rfl rfl rfl rfl ?_
        refine zx_iload_n (q := 67) dX7_fits_66 rfl rfl rfl ?_
        refine zx_bipush (q := 69) (v := 10) dX7_fits_67 (by decide) rfl ?_
        refine zx_isub (q := 70) dX7_fits_69 rfl ?_
        rw [show nI (10 + s) - 10 = nI s from by rw [show (10 : Int32) = nI 10 from rfl, z_subN (by omega)]; congr 1; omega]
        refine zy_ialdN (q := 71) dX7_fits_70 rfl (by omega) (by first | decide | omega) rfl ?_
        rw [hA.2.2.2.1 (by omega) s hs]
        refine zx_iret dX7_fits_71 rfl (Nat.le_refl _) (Nat.le_refl _) ⟨_, rfl, ?_⟩
        refine ⟨_, _, _, rfl, ?_⟩
        show zW l D tc A mX8_fits (d + 6) 0 0 0 0 0 [some (.ref 108), some (.int (nI (10 + s)))] [] (zs _ _ _) _
        refine zx_aload_n (q := 1) dX8_fits_0 rfl rfl rfl ?_
        refine zx_iload_n (q := 2) dX8_fits_1 rfl rfl rfl ?_
        refine zx_iconst (q := 3) (v := 0) dX8_fits_2 (by decide) rfl ?_
        refine zx_iconst (q := 4) (v := 2) dX8_fits_3 (by decide) rfl ?_
        refine zx_callV3i (q := 7) (y' := mX8_in) dX8_fits_4 ml_RX8_200 ok_mX8_in rfl (by decide) rfl (Nat.le_of_ble_eq_true rfl) (Nat.le_of_ble_eq_true rfl) (Nat.le_refl _) (Nat.le_refl _) rfl (t_X8_in _ _ _ _ _) ?_
        rintro _ _ ⟨rfl, rfl⟩
        refine zx_if_ne_f (t := 31) (q := 10) dX8_fits_7 (by decide) rfl (zk_f (z_in_no 0 2 _ (by decide) (by decide) (by omega) (by omega))) ?_
        refine zx_aload_n (q := 11) dX8_fits_10 rfl rfl rfl ?_
        refine zx_iload_n (q := 12) dX8_fits_11 rfl rfl rfl ?_
        refine zx_bipush (q := 14) (v := 10) dX8_fits_12 (by decide) rfl ?_
        refine zx_bipush (q := 16) (v := 9) dX8_fits_14 (by decide) rfl ?_
        refine zx_aload_n (q := 17) dX8_fits_16 rfl rfl rfl ?_
        refine zy_getI (q := 20) dX8_fits_17 fl_RX8_7 rfl rfl rfl ?_
        refine zx_iadd (q := 21) dX8_fits_20 rfl ?_
        refine zx_callV3i (q := 24) (y' := mX8_in) dX8_fits_21 ml_RX8_200 ok_mX8_in rfl (by decide) rfl (Nat.le_of_ble_eq_true rfl) (Nat.le_of_ble_eq_true rfl) (Nat.le_refl _) (Nat.le_refl _) rfl (t_X8_in _ _ _ _ _) ?_
        rintro _ _ ⟨rfl, rfl⟩
        refine zx_if_ne_t (t := 31) (q := 27) dX8_fits_24 (by decide) rfl (zk_t (by show z_in _ 10 (9 + g2 108 0) = true; rw [e2 _ _ (by omega), L.hs2]; exact z_sortm L.hns hs)) ?_
        refine zx_aload_n (q := 32) dX8_fits_31 rfl rfl rfl ?_
        refine zx_callV0v (q := 35) (y' := mX8_layFits) dX8_fits_32 ml_RX8_314 ok_mX8_layFits rfl (by decide) rfl (Nat.le_of_ble_eq_true rfl) (Nat.le_of_ble_eq_true rfl) (Nat.le_refl _) (Nat.le_refl _) rfl (t_X8_layFits _ L (fun k j a b => e2 k j (by unfold z_scr at a; omega)) (w := z_tw gi) (fun h hh => ⟨by rw [e2 _ _ (by omega)]; exact (z_tw_ok L.hT hh).2.1, fun v hv => by have := (z_tw_ok L.hT hh).2.2 v hv; omega⟩)) ?_
        rintro _ ⟨g3, rfl, hB, h3, e3⟩
        have hB : zMA g3 (z_FT gi ns m) := hB
        refine zx_iload_n (q := 36) dX8_fits_35 rfl rfl rfl ?_
        refine zx_if_ne_t (t := 44) (q := 39) dX8_fits_36 (by decide) rfl (nI_ne0 (by omega) (by omega)) ?_
        refine zx_aload_n (q := 45) dX8_fits_44 rfl rfl rfl ?_
        refine zy_getIe (q := 48) (v := nI (z_FT gi ns m).1) dX8_fits_45 fl_RX8_114 rfl rfl (hB.1) rfl ?_
        refine zx_if_ne_t (t := 56) (q := 51) dX8_fits_48 (by decide) rfl (z_n0 hok.2.1 hz) ?_
        refine zx_iload_n (q := 57) dX8_fits_56 rfl rfl rfl ?_
        refine zx_iconst (q := 58) (v := 1) dX8_fits_57 (by decide) rfl ?_
        refine zx_icmp_ne_t (t := 68) (q := 61) dX8_fits_58 (by decide) rfl (fun z => by rw [show (1 : Int32) = nI 1 from rfl, nI_eq (by omega) (by omega)] at z; omega) ?_
        refine zx_iload_n (q := 69) dX8_fits_68 rfl rfl rfl ?_
        refine zx_iconst (q := 70) (v := 2) dX8_fits_69 (by decide) rfl ?_
        refine zx_icmp_ne_t (t := 80) (q := 73) dX8_fits_70 (by decide) rfl (fun z => by rw [show (2 : Int32) = nI 2 from rfl, nI_eq (by omega) (by omega)] at z; omega) ?_
        refine zx_aload_n (q := 81) dX8_fits_80 rfl rfl rfl ?_
        refine zy_getR (q := 84) dX8_fits_81 fl_RX8_105 rfl rfl rfl rfl ?_
        refine zx_iload_n (q := 85) dX8_fits_84 rfl rfl rfl ?_
        refine zx_bipush (q := 87) (v := 10) dX8_fits_85 (by decide) rfl ?_
        refine zx_isub (q := 88) dX8_fits_87 rfl ?_
        rw [show nI (10 + s) - 10 = nI s from by rw [show (10 : Int32) = nI 10 from rfl, z_subN (by omega)]; congr 1; omega]
        refine zy_ialdN (q := 89) dX8_fits_88 rfl (by omega) (by first | decide | omega) rfl ?_
        try rw [(hB.2.1 (by omega)).2.2 s (by omega)]
        refine zx_iret dX8_fits_89 rfl (Nat.le_refl _) (Nat.le_refl _) ⟨_, rfl, ?_⟩
        exact ⟨rfl, _, _, _, rfl, zRel_scr hR (fun k j z => (e3 k j z).trans (e2 k j (by unfold z_scr at z; omega)))⟩
    · show zW l D tc A mX7_fits (d + 6) 0 0 0 0 0 [some (.ref 0), some (.int a), none] [] (zs gi gl f) _
      refine zx_aload_n (q := 1) dX7_fits_0 rfl rfl rfl ?_
      refine zx_iload_n (q := 2) dX7_fits_1 rfl rfl rfl ?_
      refine zx_bipush (q := 4) (v := 10) dX7_fits_2 (by decide) rfl ?_
      refine zx_isub (q := 5) dX7_fits_4 rfl ?_
      refine zx_callV1i (q := 8) (y' := mX7_isSort) dX7_fits_5 ml_RX7_89 ok_mX7_isSort rfl (by decide) rfl (Nat.le_of_ble_eq_true rfl) (Nat.le_of_ble_eq_true rfl) (Nat.le_refl _) (Nat.le_refl _) rfl (t_X7_isSort _ _) ?_
      rintro _ _ ⟨rfl, rfl⟩
      refine zx_istore2 (q := 9) dX7_fits_8 rfl rfl ?_
      refine zx_iload_n (q := 10) dX7_fits_9 rfl rfl rfl ?_
      refine zx_if_ne_f (t := 26) (q := 13) dX7_fits_10 (by decide) rfl (zk_f (by show ¬ z_in _ 0 (gi 1 0 - 1) = true; rw [L.hs1]; exact h2)) ?_
      refine zx_iload_n (q := 14) dX7_fits_13 rfl rfl rfl ?_
      refine zx_iconst (q := 15) (v := 0) dX7_fits_14 (by decide) rfl ?_
      refine zx_iconst (q := 16) (v := 2) dX7_fits_15 (by decide) rfl ?_
      refine zx_callS3i (q := 19) (y' := mX7_within) dX7_fits_16 ml_RX7_73 ok_mX7_within (Nat.le_of_ble_eq_true rfl) (Nat.le_of_ble_eq_true rfl) (Nat.le_refl _) (Nat.le_refl _) rfl (t_X7_within _ _ _ _) ?_
      rintro _ _ ⟨rfl, rfl⟩
      refine zx_if_ne_f (t := 26) (q := 22) dX7_fits_19 (by decide) rfl (zk_f h1) ?_
      refine zx_sipush (q := 25) (v := (-1001)) dX7_fits_22 (by decide) rfl ?_
      refine zx_iret dX7_fits_25 rfl (Nat.le_refl _) (Nat.le_refl _) ⟨_, rfl, ?_⟩
      refine ⟨_, _, _, rfl, ?_⟩
      show zW l D tc A mX8_fits (d + 6) 0 0 0 0 0 [some (.ref 108), some (.int a)] [] (zs _ _ _) _
      refine zx_aload_n (q := 1) dX8_fits_0 rfl rfl rfl ?_
      refine zx_iload_n (q := 2) dX8_fits_1 rfl rfl rfl ?_
      refine zx_iconst (q := 3) (v := 0) dX8_fits_2 (by decide) rfl ?_
      refine zx_iconst (q := 4) (v := 2) dX8_fits_3 (by decide) rfl ?_
      refine zx_callV3i (q := 7) (y' := mX8_in) dX8_fits_4 ml_RX8_200 ok_mX8_in rfl (by decide) rfl (Nat.le_of_ble_eq_true rfl) (Nat.le_of_ble_eq_true rfl) (Nat.le_refl _) (Nat.le_refl _) rfl (t_X8_in _ _ _ _ _) ?_
      rintro _ _ ⟨rfl, rfl⟩
      refine zx_if_ne_f (t := 31) (q := 10) dX8_fits_7 (by decide) rfl (zk_f h1) ?_
      refine zx_aload_n (q := 11) dX8_fits_10 rfl rfl rfl ?_
      refine zx_iload_n (q := 12) dX8_fits_11 rfl rfl rfl ?_
      refine zx_bipush (q := 14) (v := 10) dX8_fits_12 (by decide) rfl ?_
      refine zx_bipush (q := 16) (v := 9) dX8_fits_14 (by decide) rfl ?_
      refine zx_aload_n (q := 17) dX8_fits_16 rfl rfl rfl ?_
      refine zy_getI (q := 20) dX8_fits_17 fl_RX8_7 rfl rfl rfl ?_
      refine zx_iadd (q := 21) dX8_fits_20 rfl ?_
      refine zx_callV3i (q := 24) (y' := mX8_in) dX8_fits_21 ml_RX8_200 ok_mX8_in rfl (by decide) rfl (Nat.le_of_ble_eq_true rfl) (Nat.le_of_ble_eq_true rfl) (Nat.le_refl _) (Nat.le_refl _) rfl (t_X8_in _ _ _ _ _) ?_
      rintro _ _ ⟨rfl, rfl⟩
      refine zx_if_ne_f (t := 31) (q := 27) dX8_fits_24 (by decide) rfl (zk_f (by show ¬ z_in a 10 (9 + gi 108 0) = true; rw [L.hs2]; exact z_sortm_no L.hns h2)) ?_
      refine zx_sipush (q := 30) (v := (-1001)) dX8_fits_27 (by decide) rfl ?_
      refine zx_iret dX8_fits_30 rfl (Nat.le_refl _) (Nat.le_refl _) ⟨_, rfl, ?_⟩
      exact ⟨rfl, _, _, _, rfl, hR⟩
theorem lp_X7_want (d : Nat) {ns m mo : Nat} {g : Nat → Nat → Int32} (L : zLK gi ns m) (e : ∀ k j, ¬ (47 ≤ k ∧ k ≤ 55) → g k j = gi k j) (hg : zSG g ns mo (z_sh gi m) (z_ow gi m) ns) : ∀ (k h : Nat) (g1 : Nat → Nat → Int32), h + k = 3 → (∀ k j, ¬ k = 62 → g1 k j = g k j) → (∀ i, i < h → g1 62 i = nI (z_ct gi m ns 0 i)) → zW l D tc A mX7_wantCountsOfHerd (d + 1) 0 0 0 0 2 [some (.ref 0), some (.int (nI h))] [] (zs g1 gl f) (zQv fun S' => ∃ g2, S' = zs g2 gl f ∧ (∀ k j, ¬ k = 62 → g2 k j = g k j) ∧ ∀ i, i < 3 → g2 62 i = nI (z_ct gi m ns 0 i)) := by
  intro k
  induction k using Nat.strongRecOn with
  | _ k ih =>
    intro h g1 hh e1 hd
    refine zx_iload_n (q := 3) dX7_wantCountsOfHerd_2 rfl rfl rfl ?_
    refine zx_iconst (q := 4) (v := 3) dX7_wantCountsOfHerd_3 (by decide) rfl ?_
    refine zx_icmp_ge (q := 7) (t := 36) dX7_wantCountsOfHerd_4 (by decide) rfl (fun c_4 => ?_) (fun c_4 => ?_)
    · have hs2 : h = 3 := by have := z_ge (x := nI (3)) rfl (by omega) c_4; omega
      have hk0 : k = 0 := by omega
      subst hk0
      refine zx_vret dX7_wantCountsOfHerd_36 rfl (Nat.le_refl _) (Nat.le_refl _) ⟨rfl, ?_⟩
      exact ⟨g1, rfl, e1, fun i hi => hd i (by omega)⟩
    · have hs2 : h < 3 := z_lt (x := nI (3)) rfl (by omega) c_4
      obtain ⟨k, rfl⟩ : ∃ q, k = q + 1 := ⟨k - 1, by omega⟩
      refine zx_aload_n (q := 8) dX7_wantCountsOfHerd_7 rfl rfl rfl ?_
      refine zy_getR (q := 11) dX7_wantCountsOfHerd_8 fl_RX7_55 rfl rfl rfl rfl ?_
      refine zx_iload_n (q := 12) dX7_wantCountsOfHerd_11 rfl rfl rfl ?_
      refine zx_aload_n (q := 13) dX7_wantCountsOfHerd_12 rfl rfl rfl ?_
      refine zy_getR (q := 16) dX7_wantCountsOfHerd_13 fl_RX7_42 rfl rfl rfl rfl ?_
      refine zx_aload_n (q := 17) dX7_wantCountsOfHerd_16 rfl rfl rfl ?_
      refine zy_getR (q := 20) dX7_wantCountsOfHerd_17 fl_RX7_12 rfl rfl rfl rfl ?_
      refine zy_getR (q := 23) dX7_wantCountsOfHerd_20 fl_RX7_92 rfl rfl rfl rfl ?_
      refine zx_iconst (q := 24) (v := 0) dX7_wantCountsOfHerd_23 (by decide) rfl ?_
      refine zy_aaldN (i := 0) (q := 25) dX7_wantCountsOfHerd_24 rfl (by decide) (by omega) (by decide) rfl rfl ?_
      refine zx_iload_n (q := 26) dX7_wantCountsOfHerd_25 rfl rfl rfl ?_
      refine zx_callV2i (q := 29) (y' := mX4_total) dX7_wantCountsOfHerd_26 ml_RX7_144 ok_mX4_total rfl (by decide) rfl (Nat.le_of_ble_eq_true rfl) (Nat.le_of_ble_eq_true rfl) (Nat.le_refl _) (Nat.le_refl _) rfl (t_totalL _ 0 h L (by omega) (by omega) (fun s => (e1 _ _ (by omega)).trans (e _ _ (by omega))) (zSG_cg hg (fun k j a b => e1 k j (by omega)) L.hns)) ?_
      rintro _ _ ⟨rfl, rfl⟩
      refine zy_iastN (q := 30) dX7_wantCountsOfHerd_29 rfl (by omega) (by first | decide | omega) rfl ?_
      refine zx_iinc1 (q := 33) dX7_wantCountsOfHerd_30 rfl rfl ?_
      refine zx_goto (t := 2) dX7_wantCountsOfHerd_33 (by decide) ?_
      rw [z_inc]
      refine ih k (by omega) (h + 1) _ (by omega) ?_ ?_
      · intro k j z; rw [z_u_ne _ _ (by omega)]; exact e1 k j z
      · intro i hi
        by_cases c : i = h
        · subst c; rw [z_u_at]
        · rw [z_u_ne _ _ (by omega)]; exact hd i (by omega)
theorem t_X7_want (d : Nat) {ns m mo : Nat} {g : Nat → Nat → Int32} (L : zLK gi ns m) (e : ∀ k j, ¬ (47 ≤ k ∧ k ≤ 55) → g k j = gi k j) (hg : zSG g ns mo (z_sh gi m) (z_ow gi m) ns) : zCall l D tc A mX7_wantCountsOfHerd (d + 1) 0 0 [.ref 0] (zs g gl f) (zQv fun S' => ∃ g2, S' = zs g2 gl f ∧ (∀ k j, ¬ k = 62 → g2 k j = g k j) ∧ ∀ i, i < 3 → g2 62 i = nI (z_ct gi m ns 0 i)) := by
  show zW l D tc A mX7_wantCountsOfHerd (d + 1) 0 0 0 0 0 [some (.ref 0), none] [] (zs g gl f) _
  refine zx_iconst (q := 1) (v := 0) dX7_wantCountsOfHerd_0 (by decide) rfl ?_
  refine zx_istore1 (q := 2) dX7_wantCountsOfHerd_1 rfl rfl ?_
  exact lp_X7_want d L e hg 3 0 g (by omega) (fun _ _ _ => rfl) (fun i hi => by omega)
theorem lp_X8_askd (d : Nat) {ns m : Nat} {g : Nat → Nat → Int32} (L : zLK gi ns m) (e : ∀ k j, ¬ (47 ≤ k ∧ k ≤ 62) → ¬ (126 ≤ k ∧ k ≤ 128) → g k j = gi k j) (hg : zSM g (z_sh gi m) (z_ow gi m) ns) {Q : Option Value → zw_S → Prop} (w1 : Int32) (kk : ∀ g1 : Nat → Nat → Int32, (∀ k j, ¬ k = 132 → g1 k j = g k j) → (∀ i, i < 3 → g1 132 i = nI (z_ct gi m ns 0 i)) → zW l D tc A mX8_alike (d + 1) 0 0 0 0 53 [some (.ref 108), some (.int w1), some (.int (nI 3))] [] (zs g1 gl f) Q) : ∀ (k h : Nat) (g1 : Nat → Nat → Int32), h + k = 3 → (∀ k j, ¬ k = 132 → g1 k j = g k j) → (∀ i, i < h → g1 132 i = nI (z_ct gi m ns 0 i)) → zW l D tc A mX8_alike (d + 1) 0 0 0 0 31 [some (.ref 108), some (.int w1), some (.int (nI h))] [] (zs g1 gl f) Q := by
  intro k
  induction k using Nat.strongRecOn with
  | _ k ih =>
    intro h g1 hh e1 hd
    refine zx_iload_n (q := 32) dX8_alike_31 rfl rfl rfl ?_
    refine zx_iconst (q := 33) (v := 3) dX8_alike_32 (by decide) rfl ?_
    refine zx_icmp_ge (q := 36) (t := 53) dX8_alike_33 (by decide) rfl (fun c_33 => ?_) (fun c_33 => ?_)
    · have hs2 : h = 3 := by have := z_ge (x := nI 3) rfl (by omega) c_33; omega
      subst hs2
      exact kk g1 e1 hd
    · have hs2 : h < 3 := z_lt (x := nI (3)) rfl (by omega) c_33
      obtain ⟨k, rfl⟩ : ∃ q, k = q + 1 := ⟨k - 1, by omega⟩
      refine zx_aload_n (q := 37) dX8_alike_36 rfl rfl rfl ?_
      refine zy_getR (q := 40) dX8_alike_37 fl_RX8_123 rfl rfl rfl rfl ?_
      refine zx_iload_n (q := 41) dX8_alike_40 rfl rfl rfl ?_
      refine zx_aload_n (q := 42) dX8_alike_41 rfl rfl rfl ?_
      refine zx_iload_n (q := 43) dX8_alike_42 rfl rfl rfl ?_
      refine zx_callV1i (q := 46) (y' := mX8_ownCount) dX8_alike_43 ml_RX8_281 ok_mX8_ownCount rfl (by decide) rfl (Nat.le_of_ble_eq_true rfl) (Nat.le_of_ble_eq_true rfl) (Nat.le_refl _) (Nat.le_refl _) rfl (t_ownL _ h L (by omega) (by rw [e1 _ _ (by omega), e _ _ (by omega) (by omega)]; exact L.hs2) (fun s => (e1 _ _ (by omega)).trans (e _ _ (by omega) (by omega))) (zSM_fr hg (fun k j z => e1 k j (by omega)))) ?_
      rintro _ _ ⟨rfl, rfl⟩
      refine zy_iastN (q := 47) dX8_alike_46 rfl (by omega) (by first | decide | omega) rfl ?_
      refine zx_iinc2 (q := 50) dX8_alike_47 rfl rfl ?_
      refine zx_goto (t := 31) dX8_alike_50 (by decide) ?_
      rw [z_inc]
      refine ih k (by omega) (h + 1) _ (by omega) ?_ ?_
      · intro k j z; rw [z_u_ne _ _ (by omega)]; exact e1 k j z
      · intro i hi
        by_cases c : i = h
        · subst c; rw [z_u_at]
        · rw [z_u_ne _ _ (by omega)]; exact hd i (by omega)
set_option maxHeartbeats 4000000 in
theorem op_alike (d : Nat) (a : Int32) (hR : zRel gi gl) : zOpI l D tc A mX7_alike mX8_alike (d + 6) [.int a] gi gl f := by
  obtain ⟨ns, m, L⟩ := zLK_of hR
  have hns := L.hns
  by_cases h1 : a = 0
  · subst h1
    by_cases hz : (z_FC gi ns m).1 = 0
    · show zW l D tc A mX7_alike (d + 6) 0 0 0 0 0 [some (.ref 0), some (.int 0), none] [] (zs gi gl f) _
      refine zx_aload_n (q := 1) dX7_alike_0 rfl rfl rfl ?_
      refine zx_iload_n (q := 2) dX7_alike_1 rfl rfl rfl ?_
      refine zx_bipush (q := 4) (v := 10) dX7_alike_2 (by decide) rfl ?_
      refine zx_isub (q := 5) dX7_alike_4 rfl ?_
      refine zx_callV1i (q := 8) (y' := mX7_isSort) dX7_alike_5 ml_RX7_89 ok_mX7_isSort rfl (by decide) rfl (Nat.le_of_ble_eq_true rfl) (Nat.le_of_ble_eq_true rfl) (Nat.le_refl _) (Nat.le_refl _) rfl (t_X7_isSort _ _) ?_
      rintro _ _ ⟨rfl, rfl⟩
      refine zx_istore2 (q := 9) dX7_alike_8 rfl rfl ?_
      refine zx_iload_n (q := 10) dX7_alike_9 rfl rfl rfl ?_
      refine zx_if_ne_f (t := 21) (q := 13) dX7_alike_10 (by decide) rfl (zk_f (by show ¬ z_in _ 0 (gi 1 0 - 1) = true; rw [L.hs1]; exact z_sortw_lt (by decide))) ?_
      refine zx_iload_n (q := 14) dX7_alike_13 rfl rfl rfl ?_
      refine zx_if_eq_t (t := 21) (q := 17) dX7_alike_14 (by decide) rfl (rfl) ?_
      refine zx_aload_n (q := 22) dX7_alike_21 rfl rfl rfl ?_
      refine zx_callV0v (q := 25) (y' := mX7_look) dX7_alike_22 ml_RX7_95 ok_mX7_look rfl (by decide) rfl (Nat.le_of_ble_eq_true rfl) (Nat.le_of_ble_eq_true rfl) (Nat.le_refl _) (Nat.le_refl _) rfl (t_X7_look _ L) ?_
      rintro _ ⟨g1, rfl, k1, s1⟩
      refine zx_aload_n (q := 26) dX7_alike_25 rfl rfl rfl ?_
      refine zx_callV0v (q := 29) (y' := mX7_wantCountsOfHerd) dX7_alike_26 ml_RX7_184 ok_mX7_wantCountsOfHerd rfl (by decide) rfl (Nat.le_of_ble_eq_true rfl) (Nat.le_of_ble_eq_true rfl) (Nat.le_refl _) (Nat.le_refl _) rfl (t_X7_want _ L k1 s1) ?_
      rintro _ ⟨g2, rfl, k2, w2⟩
      refine zx_aload_n (q := 30) dX7_alike_29 rfl rfl rfl ?_
      refine zy_getR (q := 33) dX7_alike_30 fl_RX7_51 rfl rfl rfl rfl ?_
      refine zx_aload_n (q := 34) dX7_alike_33 rfl rfl rfl ?_
      refine zy_getR (q := 37) dX7_alike_34 fl_RX7_42 rfl rfl rfl rfl ?_
      refine zy_getIe (q := 40) (v := nI (z_most gi)) dX7_alike_37 fl_RX7_133 rfl rfl ((k2 _ _ (by omega)).trans s1.2.1) rfl ?_
      refine zx_aload_n (q := 41) dX7_alike_40 rfl rfl rfl ?_
      refine zy_getR (q := 44) dX7_alike_41 fl_RX7_55 rfl rfl rfl rfl ?_
      refine zx_callV2v (q := 47) (y' := mX3_find) dX7_alike_44 ml_RX7_180 ok_mX3_find rfl (by decide) rfl (Nat.le_of_ble_eq_true rfl) (Nat.le_of_ble_eq_true rfl) (Nat.le_refl _) (Nat.le_refl _) rfl (t_X3_find _ L.hns (zSG_cg s1 (fun k j a b => k2 k j (by omega)) L.hns) (fun s hs h hh => z_sh_le L hs hh) (fun s hs => z_ow_le L hs) (M := z_most gi) (by have := z_most_le gi; omega) (wc := 62) (w := z_cw gi m ns) rfl (by omega) (fun h hh => ⟨w2 h hh, fun v hv => by have h9 := z_ct_le (w := 0) (h := h) L (by omega) hh; simp only [z_cw, Option.some.injEq] at hv; omega⟩)) ?_
      rintro _ ⟨g3, rfl, hA, hok, e3⟩
      have hA : zCA g3 ns (z_FC gi ns m) := hA
      have hok : z_aok ns (z_FC gi ns m) := hok
      have e3 : ∀ k j, ¬ (47 ≤ k ∧ k ≤ 62) → g3 k j = gi k j := fun k j z => by rw [e3 _ _ (by omega), k2 _ _ (by omega), k1 _ _ (by omega)]
      refine zx_aload_n (q := 48) dX7_alike_47 rfl rfl rfl ?_
      refine zy_getR (q := 51) dX7_alike_48 fl_RX7_51 rfl rfl rfl rfl ?_
      refine zy_getIe (q := 54) (v := nI (z_FC gi ns m).1) dX7_alike_51 fl_RX7_151 rfl rfl (hA.1) rfl ?_
      refine zx_if_ne_f (t := 60) (q := 57) dX7_alike_54 (by decide) rfl (by rw [hz]; rfl) ?_
      refine zx_bipush (q := 59) (v := (-5)) dX7_alike_57 (by decide) rfl ?_
      refine zx_iret dX7_alike_59 rfl (Nat.le_refl _) (Nat.le_refl _) ⟨_, rfl, ?_⟩
      refine ⟨_, _, _, rfl, ?_⟩
      show zW l D tc A mX8_alike (d + 6) 0 0 0 0 0 [some (.ref 108), some (.int 0), none] [] (zs _ _ _) _
      refine zx_iload_n (q := 1) dX8_alike_0 rfl rfl rfl ?_
      refine zx_if_eq_t (t := 25) (q := 4) dX8_alike_1 (by decide) rfl (rfl) ?_
      refine zx_aload_n (q := 26) dX8_alike_25 rfl rfl rfl ?_
      refine zx_callV0v (q := 29) (y' := mX8_layShows) dX8_alike_26 ml_RX8_278 ok_mX8_layShows rfl (by decide) rfl (Nat.le_of_ble_eq_true rfl) (Nat.le_of_ble_eq_true rfl) (Nat.le_refl _) (Nat.le_refl _) rfl (t_X8_layF _ L (fun k j a b => e3 k j (by unfold z_scr at a; omega))) ?_
      rintro _ ⟨g4, rfl, e4, h4⟩
      have e4 : ∀ k j, ¬ (47 ≤ k ∧ k ≤ 62) → ¬ (126 ≤ k ∧ k ≤ 128) → g4 k j = gi k j := fun k j a b => (e4 k j b).trans (e3 k j a)
      refine zx_iconst (q := 30) (v := 0) dX8_alike_29 (by decide) rfl ?_
      refine zx_istore2 (q := 31) dX8_alike_30 rfl rfl ?_
      refine lp_X8_askd (d + 5) L e4 h4 _ (fun g5 e5 w5 => ?_) 3 0 _ (by omega) (fun _ _ _ => rfl) (fun i hi => by omega)
      have e6 : zFq gi g5 := fun k j a b => by rw [e5 k j (by unfold z_scr at a; omega), e4 k j (by unfold z_scr at a; omega) (by unfold z_scr at a; omega)]
      have h6 : zSM g5 (z_sh gi m) (z_ow gi m) ns := zSM_fr h4 (fun k j z => e5 k j (by omega))
      refine zx_aload_n (q := 54) dX8_alike_53 rfl rfl rfl ?_
      refine zx_aload_n (q := 55) dX8_alike_54 rfl rfl rfl ?_
      refine zx_callV0i (q := 58) (y' := mX8_mostNow) dX8_alike_55 ml_RX8_287 ok_mX8_mostNow rfl (by decide) rfl (Nat.le_of_ble_eq_true rfl) (Nat.le_of_ble_eq_true rfl) (Nat.le_refl _) (Nat.le_refl _) rfl (t_X8_mostF _ L e6) ?_
      rintro _ _ ⟨rfl, rfl⟩
      refine zx_callV1i (q := 61) (y' := mX8_layAlike) dX8_alike_58 ml_RX8_323 ok_mX8_layAlike rfl (by decide) rfl (Nat.le_of_ble_eq_true rfl) (Nat.le_of_ble_eq_true rfl) (Nat.le_refl _) (Nat.le_refl _) rfl (t_X8_alike _ L e6 h6 (w := z_cw gi m ns) (M := z_most gi) (by have := z_most_le gi; omega) (fun h hh => ⟨w5 h hh, fun v hv => by have h9 := z_ct_le (w := 0) (h := h) L (by omega) hh; simp only [z_cw, Option.some.injEq] at hv; omega⟩) (fun h _ => ⟨_, rfl⟩)) ?_
      rintro _ _ ⟨rfl, g7, rfl, hB, e7⟩
      have hB : zMB g7 (z_FC gi ns m) := hB
      refine zx_if_ne_f (t := 67) (q := 64) dX8_alike_61 (by decide) rfl (zk_f (by rw [show (z_fd (z_most gi) ns (z_cw gi m ns) (z_sh gi m) (z_ow gi m) (fun _ => 0) 0 z_A0).1 = 0 from hz]; decide)) ?_
      refine zx_bipush (q := 66) (v := (-5)) dX8_alike_64 (by decide) rfl ?_
      refine zx_iret dX8_alike_66 rfl (Nat.le_refl _) (Nat.le_refl _) ⟨_, rfl, ?_⟩
      exact ⟨rfl, _, _, _, rfl, zRel_scr hR (fun k j z => by rw [e7 k j (by unfold z_scr at z; omega), e5 k j (by unfold z_scr at z; omega), e4 k j (by unfold z_scr at z; omega) (by unfold z_scr at z; omega)])⟩
    · show zW l D tc A mX7_alike (d + 6) 0 0 0 0 0 [some (.ref 0), some (.int 0), none] [] (zs gi gl f) _
      refine zx_aload_n (q := 1) dX7_alike_0 rfl rfl rfl ?_
      refine zx_iload_n (q := 2) dX7_alike_1 rfl rfl rfl ?_
      refine zx_bipush (q := 4) (v := 10) dX7_alike_2 (by decide) rfl ?_
      refine zx_isub (q := 5) dX7_alike_4 rfl ?_
      refine zx_callV1i (q := 8) (y' := mX7_isSort) dX7_alike_5 ml_RX7_89 ok_mX7_isSort rfl (by decide) rfl (Nat.le_of_ble_eq_true rfl) (Nat.le_of_ble_eq_true rfl) (Nat.le_refl _) (Nat.le_refl _) rfl (t_X7_isSort _ _) ?_
      rintro _ _ ⟨rfl, rfl⟩
      refine zx_istore2 (q := 9) dX7_alike_8 rfl rfl ?_
      refine zx_iload_n (q := 10) dX7_alike_9 rfl rfl rfl ?_
      refine zx_if_ne_f (t := 21) (q := 13) dX7_alike_10 (by decide) rfl (zk_f (by show ¬ z_in _ 0 (gi 1 0 - 1) = true; rw [L.hs1]; exact z_sortw_lt (by decide))) ?_
      refine zx_iload_n (q := 14) dX7_alike_13 rfl rfl rfl ?_
      refine zx_if_eq_t (t := 21) (q := 17) dX7_alike_14 (by decide) rfl (rfl) ?_
      refine zx_aload_n (q := 22) dX7_alike_21 rfl rfl rfl ?_
      refine zx_callV0v (q := 25) (y' := mX7_look) dX7_alike_22 ml_RX7_95 ok_mX7_look rfl (by decide) rfl (Nat.le_of_ble_eq_true rfl) (Nat.le_of_ble_eq_true rfl) (Nat.le_refl _) (Nat.le_refl _) rfl (t_X7_look _ L) ?_
      rintro _ ⟨g1, rfl, k1, s1⟩
      refine zx_aload_n (q := 26) dX7_alike_25 rfl rfl rfl ?_
      refine zx_callV0v (q := 29) (y' := mX7_wantCountsOfHerd) dX7_alike_26 ml_RX7_184 ok_mX7_wantCountsOfHerd rfl (by decide) rfl (Nat.le_of_ble_eq_true rfl) (Nat.le_of_ble_eq_true rfl) (Nat.le_refl _) (Nat.le_refl _) rfl (t_X7_want _ L k1 s1) ?_
      rintro _ ⟨g2, rfl, k2, w2⟩
      refine zx_aload_n (q := 30) dX7_alike_29 rfl rfl rfl ?_
      refine zy_getR (q := 33) dX7_alike_30 fl_RX7_51 rfl rfl rfl rfl ?_
      refine zx_aload_n (q := 34) dX7_alike_33 rfl rfl rfl ?_
      refine zy_getR (q := 37) dX7_alike_34 fl_RX7_42 rfl rfl rfl rfl ?_
      refine zy_getIe (q := 40) (v := nI (z_most gi)) dX7_alike_37 fl_RX7_133 rfl rfl ((k2 _ _ (by omega)).trans s1.2.1) rfl ?_
      refine zx_aload_n (q := 41) dX7_alike_40 rfl rfl rfl ?_
      refine zy_getR (q := 44) dX7_alike_41 fl_RX7_55 rfl rfl rfl rfl ?_
      refine zx_callV2v (q := 47) (y' := mX3_find) dX7_alike_44 ml_RX7_180 ok_mX3_find rfl (by decide) rfl (Nat.le_of_ble_eq_true rfl) (Nat.le_of_ble_eq_true rfl) (Nat.le_refl _) (Nat.le_refl _) rfl (t_X3_find _ L.hns (zSG_cg s1 (fun k j a b => k2 k j (by omega)) L.hns) (fun s hs h hh => z_sh_le L hs hh) (fun s hs => z_ow_le L hs) (M := z_most gi) (by have := z_most_le gi; omega) (wc := 62) (w := z_cw gi m ns) rfl (by omega) (fun h hh => ⟨w2 h hh, fun v hv => by have h9 := z_ct_le (w := 0) (h := h) L (by omega) hh; simp only [z_cw, Option.some.injEq] at hv; omega⟩)) ?_
      rintro _ ⟨g3, rfl, hA, hok, e3⟩
      have hA : zCA g3 ns (z_FC gi ns m) := hA
      have hok : z_aok ns (z_FC gi ns m) := hok
      have e3 : ∀ k j, ¬ (47 ≤ k ∧ k ≤ 62) → g3 k j = gi k j := fun k j z => by rw [e3 _ _ (by omega), k2 _ _ (by omega), k1 _ _ (by omega)]
      refine zx_aload_n (q := 48) dX7_alike_47 rfl rfl rfl ?_
      refine zy_getR (q := 51) dX7_alike_48 fl_RX7_51 rfl rfl rfl rfl ?_
      refine zy_getIe (q := 54) (v := nI (z_FC gi ns m).1) dX7_alike_51 fl_RX7_151 rfl rfl (hA.1) rfl ?_
      refine zx_if_ne_t (t := 60) (q := 57) dX7_alike_54 (by decide) rfl (z_n0 hok.2.1 hz) ?_
      refine zx_iload_n (q := 61) dX7_alike_60 rfl rfl rfl ?_
      refine zx_if_eq_t (t := 79) (q := 64) dX7_alike_61 (by decide) rfl (zk_f (by show ¬ z_in _ 0 (gi 1 0 - 1) = true; rw [L.hs1]; exact z_sortw_lt (by decide))) ?_
      refine zx_aload_n (q := 80) dX7_alike_79 rfl rfl rfl ?_
      refine zy_getR (q := 83) dX7_alike_80 fl_RX7_51 rfl rfl rfl rfl ?_
      refine zy_getIe (q := 86) (v := nI (z_FC gi ns m).2.1) dX7_alike_83 fl_RX7_157 rfl rfl (hA.2.1) rfl ?_
      refine zx_iret dX7_alike_86 rfl (Nat.le_refl _) (Nat.le_refl _) ⟨_, rfl, ?_⟩
      refine ⟨_, _, _, rfl, ?_⟩
      show zW l D tc A mX8_alike (d + 6) 0 0 0 0 0 [some (.ref 108), some (.int 0), none] [] (zs _ _ _) _
      refine zx_iload_n (q := 1) dX8_alike_0 rfl rfl rfl ?_
      refine zx_if_eq_t (t := 25) (q := 4) dX8_alike_1 (by decide) rfl (rfl) ?_
      refine zx_aload_n (q := 26) dX8_alike_25 rfl rfl rfl ?_
      refine zx_callV0v (q := 29) (y' := mX8_layShows) dX8_alike_26 ml_RX8_278 ok_mX8_layShows rfl (by decide) rfl (Nat.le_of_ble_eq_true rfl) (Nat.le_of_ble_eq_true rfl) (Nat.le_refl _) (Nat.le_refl _) rfl (t_X8_layF _ L (fun k j a b => e3 k j (by unfold z_scr at a; omega))) ?_
      rintro _ ⟨g4, rfl, e4, h4⟩
      have e4 : ∀ k j, ¬ (47 ≤ k ∧ k ≤ 62) → ¬ (126 ≤ k ∧ k ≤ 128) → g4 k j = gi k j := fun k j a b => (e4 k j b).trans (e3 k j a)
      refine zx_iconst (q := 30) (v := 0) dX8_alike_29 (by decide) rfl ?_
      refine zx_istore2 (q := 31) dX8_alike_30 rfl rfl ?_
      refine lp_X8_askd (d + 5) L e4 h4 _ (fun g5 e5 w5 => ?_) 3 0 _ (by omega) (fun _ _ _ => rfl) (fun i hi => by omega)
      have e6 : zFq gi g5 := fun k j a b => by rw [e5 k j (by unfold z_scr at a; omega), e4 k j (by unfold z_scr at a; omega) (by unfold z_scr at a; omega)]
      have h6 : zSM g5 (z_sh gi m) (z_ow gi m) ns := zSM_fr h4 (fun k j z => e5 k j (by omega))
      refine zx_aload_n (q := 54) dX8_alike_53 rfl rfl rfl ?_
      refine zx_aload_n (q := 55) dX8_alike_54 rfl rfl rfl ?_
      refine zx_callV0i (q := 58) (y' := mX8_mostNow) dX8_alike_55 ml_RX8_287 ok_mX8_mostNow rfl (by decide) rfl (Nat.le_of_ble_eq_true rfl) (Nat.le_of_ble_eq_true rfl) (Nat.le_refl _) (Nat.le_refl _) rfl (t_X8_mostF _ L e6) ?_
      rintro _ _ ⟨rfl, rfl⟩
      refine zx_callV1i (q := 61) (y' := mX8_layAlike) dX8_alike_58 ml_RX8_323 ok_mX8_layAlike rfl (by decide) rfl (Nat.le_of_ble_eq_true rfl) (Nat.le_of_ble_eq_true rfl) (Nat.le_refl _) (Nat.le_refl _) rfl (t_X8_alike _ L e6 h6 (w := z_cw gi m ns) (M := z_most gi) (by have := z_most_le gi; omega) (fun h hh => ⟨w5 h hh, fun v hv => by have h9 := z_ct_le (w := 0) (h := h) L (by omega) hh; simp only [z_cw, Option.some.injEq] at hv; omega⟩) (fun h _ => ⟨_, rfl⟩)) ?_
      rintro _ _ ⟨rfl, g7, rfl, hB, e7⟩
      have hB : zMB g7 (z_FC gi ns m) := hB
      refine zx_if_ne_t (t := 67) (q := 64) dX8_alike_61 (by decide) rfl (zk_t (decide_eq_true (Nat.pos_of_ne_zero hz))) ?_
      refine zx_iload_n (q := 68) dX8_alike_67 rfl rfl rfl ?_
      refine zx_if_ne_f (t := 78) (q := 71) dX8_alike_68 (by decide) rfl (rfl) ?_
      refine zx_aload_n (q := 72) dX8_alike_71 rfl rfl rfl ?_
      refine zy_getIe (q := 75) (v := nI (z_FC gi ns m).2.1) dX8_alike_72 fl_RX8_117 rfl rfl ((hB (Nat.pos_of_ne_zero hz)).1) rfl ?_
      refine zx_goto (t := 87) dX8_alike_75 (by decide) ?_
      try rw [(hB (Nat.pos_of_ne_zero hz)).2 s (by omega)]
      refine zx_iret dX8_alike_87 rfl (Nat.le_refl _) (Nat.le_refl _) ⟨_, rfl, ?_⟩
      exact ⟨rfl, _, _, _, rfl, zRel_scr hR (fun k j z => by rw [e7 k j (by unfold z_scr at z; omega), e5 k j (by unfold z_scr at z; omega), e4 k j (by unfold z_scr at z; omega) (by unfold z_scr at z; omega)])⟩
  · by_cases h2 : z_in (a - 10) 0 (nI ns - 1) = true
    · obtain ⟨s, hs, rfl⟩ := z_sortw hns h2
      by_cases hz : (z_FC gi ns m).1 = 0
      · show zW l D tc A mX7_alike (d + 6) 0 0 0 0 0 [some (.ref 0), some (.int (nI (10 + s))), none] [] (zs gi gl f) _
        refine zx_aload_n (q := 1) dX7_alike_0 rfl rfl rfl ?_
        refine zx_iload_n (q := 2) dX7_alike_1 rfl rfl rfl ?_
        refine zx_bipush (q := 4) (v := 10) dX7_alike_2 (by decide) rfl ?_
        refine zx_isub (q := 5) dX7_alike_4 rfl ?_
        refine zx_callV1i (q := 8) (y' := mX7_isSort) dX7_alike_5 ml_RX7_89 ok_mX7_isSort rfl (by decide) rfl (Nat.le_of_ble_eq_true rfl) (Nat.le_of_ble_eq_true rfl) (Nat.le_refl _) (Nat.le_refl _) rfl (t_X7_isSort _ _) ?_
        rintro _ _ ⟨rfl, rfl⟩
        refine zx_istore2 (q := 9) dX7_alike_8 rfl rfl ?_
        refine zx_iload_n (q := 10) dX7_alike_9 rfl rfl rfl ?_
        refine zx_if_ne_t (t := 21) (q := 13) dX7_alike_10 (by decide) rfl (zk_t (by show z_in _ 0 (gi 1 0 - 1) = true; rw [L.hs1]; exact z_sortw_at L.hns hs)) ?_
        refine zx_aload_n (q := 22) dX7_alike_21 rfl rfl rfl ?_
        refine zx_callV0v (q := 25) (y' := mX7_look) dX7_alike_22 ml_RX7_95 ok_mX7_look rfl (by decide) rfl (Nat.le_of_ble_eq_true rfl) (Nat.le_of_ble_eq_true rfl) (Nat.le_refl _) (Nat.le_refl _) rfl (t_X7_look _ L) ?_
        rintro _ ⟨g1, rfl, k1, s1⟩
        refine zx_aload_n (q := 26) dX7_alike_25 rfl rfl rfl ?_
        refine zx_callV0v (q := 29) (y' := mX7_wantCountsOfHerd) dX7_alike_26 ml_RX7_184 ok_mX7_wantCountsOfHerd rfl (by decide) rfl (Nat.le_of_ble_eq_true rfl) (Nat.le_of_ble_eq_true rfl) (Nat.le_refl _) (Nat.le_refl _) rfl (t_X7_want _ L k1 s1) ?_
        rintro _ ⟨g2, rfl, k2, w2⟩
        refine zx_aload_n (q := 30) dX7_alike_29 rfl rfl rfl ?_
        refine zy_getR (q := 33) dX7_alike_30 fl_RX7_51 rfl rfl rfl rfl ?_
        refine zx_aload_n (q := 34) dX7_alike_33 rfl rfl rfl ?_
        refine zy_getR (q := 37) dX7_alike_34 fl_RX7_42 rfl rfl rfl rfl ?_
        refine zy_getIe (q := 40) (v := nI (z_most gi)) dX7_alike_37 fl_RX7_133 rfl rfl ((k2 _ _ (by omega)).trans s1.2.1) rfl ?_
        refine zx_aload_n (q := 41) dX7_alike_40 rfl rfl rfl ?_
        refine zy_getR (q := 44) dX7_alike_41 fl_RX7_55 rfl rfl rfl rfl ?_
        refine zx_callV2v (q := 47) (y' := mX3_find) dX7_alike_44 ml_RX7_180 ok_mX3_find rfl (by decide) rfl (Nat.le_of_ble_eq_true rfl) (Nat.le_of_ble_eq_true rfl) (Nat.le_refl _) (Nat.le_refl _) rfl (t_X3_find _ L.hns (zSG_cg s1 (fun k j a b => k2 k j (by omega)) L.hns) (fun s hs h hh => z_sh_le L hs hh) (fun s hs => z_ow_le L hs) (M := z_most gi) (by have := z_most_le gi; omega) (wc := 62) (w := z_cw gi m ns) rfl (by omega) (fun h hh => ⟨w2 h hh, fun v hv => by have h9 := z_ct_le (w := 0) (h := h) L (by omega) hh; simp only [z_cw, Option.some.injEq] at hv; omega⟩)) ?_
        rintro _ ⟨g3, rfl, hA, hok, e3⟩
        have hA : zCA g3 ns (z_FC gi ns m) := hA
        have hok : z_aok ns (z_FC gi ns m) := hok
        have e3 : ∀ k j, ¬ (47 ≤ k ∧ k ≤ 62) → g3 k j = gi k j := fun k j z => by rw [e3 _ _ (by omega), k2 _ _ (by omega), k1 _ _ (by omega)]
        refine zx_aload_n (q := 48) dX7_alike_47 rfl rfl rfl ?_
        refine zy_getR (q := 51) dX7_alike_48 fl_RX7_51 rfl rfl rfl rfl ?_
        refine zy_getIe (q := 54) (v := nI (z_FC gi ns m).1) dX7_alike_51 fl_RX7_151 rfl rfl (hA.1) rfl ?_
        refine zx_if_ne_f (t := 60) (q := 57) dX7_alike_54 (by decide) rfl (by rw [hz]; rfl) ?_
        refine zx_bipush (q := 59) (v := (-5)) dX7_alike_57 (by decide) rfl ?_
        refine zx_iret dX7_alike_59 rfl (Nat.le_refl _) (Nat.le_refl _) ⟨_, rfl, ?_⟩
        refine ⟨_, _, _, rfl, ?_⟩
        show zW l D tc A mX8_alike (d + 6) 0 0 0 0 0 [some (.ref 108), some (.int (nI (10 + s))), none] [] (zs _ _ _) _
        refine zx_iload_n (q := 1) dX8_alike_0 rfl rfl rfl ?_
        refine zx_if_eq_f (t := 25) (q := 4) dX8_alike_1 (by decide) rfl (nI_ne0 (by omega) (by omega)) ?_
        refine zx_aload_n (q := 5) dX8_alike_4 rfl rfl rfl ?_
        refine zx_iload_n (q := 6) dX8_alike_5 rfl rfl rfl ?_
        refine zx_bipush (q := 8) (v := 10) dX8_alike_6 (by decide) rfl ?_
        refine zx_bipush (q := 10) (v := 9) dX8_alike_8 (by decide) rfl ?_
        refine zx_aload_n (q := 11) dX8_alike_10 rfl rfl rfl ?_
        refine zy_getI (q := 14) dX8_alike_11 fl_RX8_7 rfl rfl rfl ?_
        refine zx_iadd (q := 15) dX8_alike_14 rfl ?_
        refine zx_callV3i (q := 18) (y' := mX8_in) dX8_alike_15 ml_RX8_200 ok_mX8_in rfl (by decide) rfl (Nat.le_of_ble_eq_true rfl) (Nat.le_of_ble_eq_true rfl) (Nat.le_refl _) (Nat.le_refl _) rfl (t_X8_in _ _ _ _ _) ?_
        rintro _ _ ⟨rfl, rfl⟩
        refine zx_if_ne_t (t := 25) (q := 21) dX8_alike_18 (by decide) rfl (zk_t (by show z_in _ 10 (9 + g3 108 0) = true; rw [e3 _ _ (by omega), L.hs2]; exact z_sortm L.hns hs)) ?_
        refine zx_aload_n (q := 26) dX8_alike_25 rfl rfl rfl ?_
        refine zx_callV0v (q := 29) (y' := mX8_layShows) dX8_alike_26 ml_RX8_278 ok_mX8_layShows rfl (by decide) rfl (Nat.le_of_ble_eq_true rfl) (Nat.le_of_ble_eq_true rfl) (Nat.le_refl _) (Nat.le_refl _) rfl (t_X8_layF _ L (fun k j a b => e3 k j (by unfold z_scr at a; omega))) ?_
        rintro _ ⟨g4, rfl, e4, h4⟩
        have e4 : ∀ k j, ¬ (47 ≤ k ∧ k ≤ 62) → ¬ (126 ≤ k ∧ k ≤ 128) → g4 k j = gi k j := fun k j a b => (e4 k j b).trans (e3 k j a)
        refine zx_iconst (q := 30) (v := 0) dX8_alike_29 (by decide) rfl ?_
        refine zx_istore2 (q := 31) dX8_alike_30 rfl rfl ?_
        refine lp_X8_askd (d + 5) L e4 h4 _ (fun g5 e5 w5 => ?_) 3 0 _ (by omega) (fun _ _ _ => rfl) (fun i hi => by omega)
        have e6 : zFq gi g5 := fun k j a b => by rw [e5 k j (by unfold z_scr at a; omega), e4 k j (by unfold z_scr at a; omega) (by unfold z_scr at a; omega)]
        have h6 : zSM g5 (z_sh gi m) (z_ow gi m) ns := zSM_fr h4 (fun k j z => e5 k j (by omega))
        refine zx_aload_n (q := 54) dX8_alike_53 rfl rfl rfl ?_
        refine zx_aload_n (q := 55) dX8_alike_54 rfl rfl rfl ?_
        refine zx_callV0i (q := 58) (y' := mX8_mostNow) dX8_alike_55 ml_RX8_287 ok_mX8_mostNow rfl (by decide) rfl (Nat.le_of_ble_eq_true rfl) (Nat.le_of_ble_eq_true rfl) (Nat.le_refl _) (Nat.le_refl _) rfl (t_X8_mostF _ L e6) ?_
        rintro _ _ ⟨rfl, rfl⟩
        refine zx_callV1i (q := 61) (y' := mX8_layAlike) dX8_alike_58 ml_RX8_323 ok_mX8_layAlike rfl (by decide) rfl (Nat.le_of_ble_eq_true rfl) (Nat.le_of_ble_eq_true rfl) (Nat.le_refl _) (Nat.le_refl _) rfl (t_X8_alike _ L e6 h6 (w := z_cw gi m ns) (M := z_most gi) (by have := z_most_le gi; omega) (fun h hh => ⟨w5 h hh, fun v hv => by have h9 := z_ct_le (w := 0) (h := h) L (by omega) hh; simp only [z_cw, Option.some.injEq] at hv; omega⟩) (fun h _ => ⟨_, rfl⟩)) ?_
        rintro _ _ ⟨rfl, g7, rfl, hB, e7⟩
        have hB : zMB g7 (z_FC gi ns m) := hB
        refine zx_if_ne_f (t := 67) (q := 64) dX8_alike_61 (by decide) rfl (zk_f (by rw [show (z_fd (z_most gi) ns (z_cw gi m ns) (z_sh gi m) (z_ow gi m) (fun _ => 0) 0 z_A0).1 = 0 from hz]; decide)) ?_
        refine zx_bipush (q := 66) (v := (-5)) dX8_alike_64 (by decide) rfl ?_
        refine zx_iret dX8_alike_66 rfl (Nat.le_refl _) (Nat.le_refl _) ⟨_, rfl, ?_⟩
        exact ⟨rfl, _, _, _, rfl, zRel_scr hR (fun k j z => by rw [e7 k j (by unfold z_scr at z; omega), e5 k j (by unfold z_scr at z; omega), e4 k j (by unfold z_scr at z; omega) (by unfold z_scr at z; omega)])⟩
      · show zW l D tc A mX7_alike (d + 6) 0 0 0 0 0 [some (.ref 0), some (.int (nI (10 + s))), none] [] (zs gi gl f) _
        refine zx_aload_n (q := 1) dX7_alike_0 rfl rfl rfl ?_
        refine zx_iload_n (q := 2) dX7_alike_1 rfl rfl rfl ?_
        refine zx_bipush (q := 4) (v := 10) dX7_alike_2 (by decide) rfl ?_
        refine zx_isub (q := 5) dX7_alike_4 rfl ?_
        refine zx_callV1i (q := 8) (y' := mX7_isSort) dX7_alike_5 ml_RX7_89 ok_mX7_isSort rfl (by decide) rfl (Nat.le_of_ble_eq_true rfl) (Nat.le_of_ble_eq_true rfl) (Nat.le_refl _) (Nat.le_refl _) rfl (t_X7_isSort _ _) ?_
        rintro _ _ ⟨rfl, rfl⟩
        refine zx_istore2 (q := 9) dX7_alike_8 rfl rfl ?_
        refine zx_iload_n (q := 10) dX7_alike_9 rfl rfl rfl ?_
        refine zx_if_ne_t (t := 21) (q := 13) dX7_alike_10 (by decide) rfl (zk_t (by show z_in _ 0 (gi 1 0 - 1) = true; rw [L.hs1]; exact z_sortw_at L.hns hs)) ?_
        refine zx_aload_n (q := 22) dX7_alike_21 rfl rfl rfl ?_
        refine zx_callV0v (q := 25) (y' := mX7_look) dX7_alike_22 ml_RX7_95 ok_mX7_look rfl (by decide) rfl (Nat.le_of_ble_eq_true rfl) (Nat.le_of_ble_eq_true rfl) (Nat.le_refl _) (Nat.le_refl _) rfl (t_X7_look _ L) ?_
        rintro _ ⟨g1, rfl, k1, s1⟩
        refine zx_aload_n (q := 26) dX7_alike_25 rfl rfl rfl ?_
        refine zx_callV0v (q := 29) (y' := mX7_wantCountsOfHerd) dX7_alike_26 ml_RX7_184 ok_mX7_wantCountsOfHerd rfl (by decide) rfl (Nat.le_of_ble_eq_true rfl) (Nat.le_of_ble_eq_true rfl) (Nat.le_refl _) (Nat.le_refl _) rfl (t_X7_want _ L k1 s1) ?_
        rintro _ ⟨g2, rfl, k2, w2⟩
        refine zx_aload_n (q := 30) dX7_alike_29 rfl rfl rfl ?_
        refine zy_getR (q := 33) dX7_alike_30 fl_RX7_51 rfl rfl rfl rfl ?_
        refine zx_aload_n (q := 34) dX7_alike_33 rfl rfl rfl ?_
        refine zy_getR (q := 37) dX7_alike_34 fl_RX7_42 rfl rfl rfl rfl ?_
        refine zy_getIe (q := 40) (v := nI (z_most gi)) dX7_alike_37 fl_RX7_133 rfl rfl ((k2 _ _ (by omega)).trans s1.2.1) rfl ?_
        refine zx_aload_n (q := 41) dX7_alike_40 rfl rfl rfl ?_
        refine zy_getR (q := 44) dX7_alike_41 fl_RX7_55 rfl rfl rfl rfl ?_
        refine zx_callV2v (q := 47) (y' := mX3_find) dX7_alike_44 ml_RX7_180 ok_mX3_find rfl (by decide) rfl (Nat.le_of_ble_eq_true rfl) (Nat.le_of_ble_eq_true rfl) (Nat.le_refl _) (Nat.le_refl _) rfl (t_X3_find _ L.hns (zSG_cg s1 (fun k j a b => k2 k j (by omega)) L.hns) (fun s hs h hh => z_sh_le L hs hh) (fun s hs => z_ow_le L hs) (M := z_most gi) (by have := z_most_le gi; omega) (wc := 62) (w := z_cw gi m ns) rfl (by omega) (fun h hh => ⟨w2 h hh, fun v hv => by have h9 := z_ct_le (w := 0) (h := h) L (by omega) hh; simp only [z_cw, Option.some.injEq] at hv; omega⟩)) ?_
        rintro _ ⟨g3, rfl, hA, hok, e3⟩
        have hA : zCA g3 ns (z_FC gi ns m) := hA
        have hok : z_aok ns (z_FC gi ns m) := hok
        have e3 : ∀ k j, ¬ (47 ≤ k ∧ k ≤ 62) → g3 k j = gi k j := fun k j z => by rw [e3 _ _ (by omega), k2 _ _ (by omega), k1 _ _ (by omega)]
        refine zx_aload_n (q := 48) dX7_alike_47 rfl rfl rfl ?_
        refine zy_getR (q := 51) dX7_alike_48 fl_RX7_51 rfl rfl rfl rfl ?_
        refine zy_getIe (q := 54) (v := nI (z_FC gi ns m).1) dX7_alike_51 fl_RX7_151 rfl rfl (hA.1) rfl ?_
        refine zx_if_ne_t (t := 60) (q := 57) dX7_alike_54 (by decide) rfl (z_n0 hok.2.1 hz) ?_
        refine zx_iload_n (q := 61) dX7_alike_60 rfl rfl rfl ?_
        refine zx_if_eq_f (t := 79) (q := 64) dX7_alike_61 (by decide) rfl (zk_t (by show z_in _ 0 (gi 1 0 - 1) = true; rw [L.hs1]; exact z_sortw_at L.hns hs)) ?_
        refine zx_aload_n (q := 65) dX7_alike_64 rfl rfl rfl ?_
        refine zy_getR (q := 68) dX7_alike_65 fl_RX7_51 rfl rfl rfl rfl ?_
        refine zy_getR (q := 71) dX7_alike_68 fl_RX7_154 rfl rfl rfl rfl ?_
        refine zx_iload_n (q := 72) dX7_alike_71 rfl rfl rfl ?_
        refine zx_bipush (q := 74) (v := 10) dX7_alike_72 (by decide) rfl ?_
        refine zx_isub (q := 75) dX7_alike_74 rfl ?_
        rw [show nI (10 + s) - 10 = nI s from by rw [show (10 : Int32) = nI 10 from rfl, z_subN (by omega)]; congr 1; omega]
        refine zy_ialdN (q := 76) dX7_alike_75 rfl (by omega) (by first | decide | omega) rfl ?_
        rw [hA.2.2.2.1 (by omega) s hs]
        refine zx_goto (t := 86) dX7_alike_76 (by decide) ?_
        refine zx_iret dX7_alike_86 rfl (Nat.le_refl _) (Nat.le_refl _) ⟨_, rfl, ?_⟩
        refine ⟨_, _, _, rfl, ?_⟩
        show zW l D tc A mX8_alike (d + 6) 0 0 0 0 0 [some (.ref 108), some (.int (nI (10 + s))), none] [] (zs _ _ _) _
        refine zx_iload_n (q := 1) dX8_alike_0 rfl rfl rfl ?_
        refine zx_if_eq_f (t := 25) (q := 4) dX8_alike_1 (by decide) rfl (nI_ne0 (by omega) (by omega)) ?_
        refine zx_aload_n (q := 5) dX8_alike_4 rfl rfl rfl ?_
        refine zx_iload_n (q := 6) dX8_alike_5 rfl rfl rfl ?_
        refine zx_bipush (q := 8) (v := 10) dX8_alike_6 (by decide) rfl ?_
        refine zx_bipush (q := 10) (v := 9) dX8_alike_8 (by decide) rfl ?_
        refine zx_aload_n (q := 11) dX8_alike_10 rfl rfl rfl ?_
        refine zy_getI (q := 14) dX8_alike_11 fl_RX8_7 rfl rfl rfl ?_
        refine zx_iadd (q := 15) dX8_alike_14 rfl ?_
        refine zx_callV3i (q := 18) (y' := mX8_in) dX8_alike_15 ml_RX8_200 ok_mX8_in rfl (by decide) rfl (Nat.le_of_ble_eq_true rfl) (Nat.le_of_ble_eq_true rfl) (Nat.le_refl _) (Nat.le_refl _) rfl (t_X8_in _ _ _ _ _) ?_
        rintro _ _ ⟨rfl, rfl⟩
        refine zx_if_ne_t (t := 25) (q := 21) dX8_alike_18 (by decide) rfl (zk_t (by show z_in _ 10 (9 + g3 108 0) = true; rw [e3 _ _ (by omega), L.hs2]; exact z_sortm L.hns hs)) ?_
        refine zx_aload_n (q := 26) dX8_alike_25 rfl rfl rfl ?_
        refine zx_callV0v (q := 29) (y' := mX8_layShows) dX8_alike_26 ml_RX8_278 ok_mX8_layShows rfl (by decide) rfl (Nat.le_of_ble_eq_true rfl) (Nat.le_of_ble_eq_true rfl) (Nat.le_refl _) (Nat.le_refl _) rfl (t_X8_layF _ L (fun k j a b => e3 k j (by unfold z_scr at a; omega))) ?_
        rintro _ ⟨g4, rfl, e4, h4⟩
        have e4 : ∀ k j, ¬ (47 ≤ k ∧ k ≤ 62) → ¬ (126 ≤ k ∧ k ≤ 128) → g4 k j = gi k j := fun k j a b => (e4 k j b).trans (e3 k j a)
        refine zx_iconst (q := 30) (v := 0) dX8_alike_29 (by decide) rfl ?_
        refine zx_istore2 (q := 31) dX8_alike_30 rfl rfl ?_
        refine lp_X8_askd (d + 5) L e4 h4 _ (fun g5 e5 w5 => ?_) 3 0 _ (by omega) (fun _ _ _ => rfl) (fun i hi => by omega)
        have e6 : zFq gi g5 := fun k j a b => by rw [e5 k j (by unfold z_scr at a; omega), e4 k j (by unfold z_scr at a; omega) (by unfold z_scr at a; omega)]
        have h6 : zSM g5 (z_sh gi m) (z_ow gi m) ns := zSM_fr h4 (fun k j z => e5 k j (by omega))
        refine zx_aload_n (q := 54) dX8_alike_53 rfl rfl rfl ?_
        refine zx_aload_n (q := 55) dX8_alike_54 rfl rfl rfl ?_
        refine zx_callV0i (q := 58) (y' := mX8_mostNow) dX8_alike_55 ml_RX8_287 ok_mX8_mostNow rfl (by decide) rfl (Nat.le_of_ble_eq_true rfl) (Nat.le_of_ble_eq_true rfl) (Nat.le_refl _) (Nat.le_refl _) rfl (t_X8_mostF _ L e6) ?_
        rintro _ _ ⟨rfl, rfl⟩
        refine zx_callV1i (q := 61) (y' := mX8_layAlike) dX8_alike_58 ml_RX8_323 ok_mX8_layAlike rfl (by decide) rfl (Nat.le_of_ble_eq_true rfl) (Nat.le_of_ble_eq_true rfl) (Nat.le_refl _) (Nat.le_refl _) rfl (t_X8_alike _ L e6 h6 (w := z_cw gi m ns) (M := z_most gi) (by have := z_most_le gi; omega) (fun h hh => ⟨w5 h hh, fun v hv => by have h9 := z_ct_le (w := 0) (h := h) L (by omega) hh; simp only [z_cw, Option.some.injEq] at hv; omega⟩) (fun h _ => ⟨_, rfl⟩)) ?_
        rintro _ _ ⟨rfl, g7, rfl, hB, e7⟩
        have hB : zMB g7 (z_FC gi ns m) := hB
        refine zx_if_ne_t (t := 67) (q := 64) dX8_alike_61 (by decide) rfl (zk_t (decide_eq_true (Nat.pos_of_ne_zero hz))) ?_
        refine zx_iload_n (q := 68) dX8_alike_67 rfl rfl rfl ?_
        refine zx_if_ne_t (t := 78) (q := 71) dX8_alike_68 (by decide) rfl (nI_ne0 (by omega) (by omega)) ?_
        refine zx_aload_n (q := 79) dX8_alike_78 rfl rfl rfl ?_
        refine zy_getR (q := 82) dX8_alike_79 fl_RX8_105 rfl rfl rfl rfl ?_
        refine zx_iload_n (q := 83) dX8_alike_82 rfl rfl rfl ?_
        refine zx_bipush (q := 85) (v := 10) dX8_alike_83 (by decide) rfl ?_
        refine zx_isub (q := 86) dX8_alike_85 rfl ?_
        rw [show nI (10 + s) - 10 = nI s from by rw [show (10 : Int32) = nI 10 from rfl, z_subN (by omega)]; congr 1; omega]
        refine zy_ialdN (q := 87) dX8_alike_86 rfl (by omega) (by first | decide | omega) rfl ?_
        try rw [(hB (Nat.pos_of_ne_zero hz)).2 s (by omega)]
        refine zx_iret dX8_alike_87 rfl (Nat.le_refl _) (Nat.le_refl _) ⟨_, rfl, ?_⟩
        exact ⟨rfl, _, _, _, rfl, zRel_scr hR (fun k j z => by rw [e7 k j (by unfold z_scr at z; omega), e5 k j (by unfold z_scr at z; omega), e4 k j (by unfold z_scr at z; omega) (by unfold z_scr at z; omega)])⟩
    · show zW l D tc A mX7_alike (d + 6) 0 0 0 0 0 [some (.ref 0), some (.int a), none] [] (zs gi gl f) _
      refine zx_aload_n (q := 1) dX7_alike_0 rfl rfl rfl ?_
      refine zx_iload_n (q := 2) dX7_alike_1 rfl rfl rfl ?_
      refine zx_bipush (q := 4) (v := 10) dX7_alike_2 (by decide) rfl ?_
      refine zx_isub (q := 5) dX7_alike_4 rfl ?_
      refine zx_callV1i (q := 8) (y' := mX7_isSort) dX7_alike_5 ml_RX7_89 ok_mX7_isSort rfl (by decide) rfl (Nat.le_of_ble_eq_true rfl) (Nat.le_of_ble_eq_true rfl) (Nat.le_refl _) (Nat.le_refl _) rfl (t_X7_isSort _ _) ?_
      rintro _ _ ⟨rfl, rfl⟩
      refine zx_istore2 (q := 9) dX7_alike_8 rfl rfl ?_
      refine zx_iload_n (q := 10) dX7_alike_9 rfl rfl rfl ?_
      refine zx_if_ne_f (t := 21) (q := 13) dX7_alike_10 (by decide) rfl (zk_f (by show ¬ z_in _ 0 (gi 1 0 - 1) = true; rw [L.hs1]; exact h2)) ?_
      refine zx_iload_n (q := 14) dX7_alike_13 rfl rfl rfl ?_
      refine zx_if_eq_f (t := 21) (q := 17) dX7_alike_14 (by decide) rfl (h1) ?_
      refine zx_sipush (q := 20) (v := (-1001)) dX7_alike_17 (by decide) rfl ?_
      refine zx_iret dX7_alike_20 rfl (Nat.le_refl _) (Nat.le_refl _) ⟨_, rfl, ?_⟩
      refine ⟨_, _, _, rfl, ?_⟩
      show zW l D tc A mX8_alike (d + 6) 0 0 0 0 0 [some (.ref 108), some (.int a), none] [] (zs _ _ _) _
      refine zx_iload_n (q := 1) dX8_alike_0 rfl rfl rfl ?_
      refine zx_if_eq_f (t := 25) (q := 4) dX8_alike_1 (by decide) rfl (h1) ?_
      refine zx_aload_n (q := 5) dX8_alike_4 rfl rfl rfl ?_
      refine zx_iload_n (q := 6) dX8_alike_5 rfl rfl rfl ?_
      refine zx_bipush (q := 8) (v := 10) dX8_alike_6 (by decide) rfl ?_
      refine zx_bipush (q := 10) (v := 9) dX8_alike_8 (by decide) rfl ?_
      refine zx_aload_n (q := 11) dX8_alike_10 rfl rfl rfl ?_
      refine zy_getI (q := 14) dX8_alike_11 fl_RX8_7 rfl rfl rfl ?_
      refine zx_iadd (q := 15) dX8_alike_14 rfl ?_
      refine zx_callV3i (q := 18) (y' := mX8_in) dX8_alike_15 ml_RX8_200 ok_mX8_in rfl (by decide) rfl (Nat.le_of_ble_eq_true rfl) (Nat.le_of_ble_eq_true rfl) (Nat.le_refl _) (Nat.le_refl _) rfl (t_X8_in _ _ _ _ _) ?_
      rintro _ _ ⟨rfl, rfl⟩
      refine zx_if_ne_f (t := 25) (q := 21) dX8_alike_18 (by decide) rfl (zk_f (by show ¬ z_in a 10 (9 + gi 108 0) = true; rw [L.hs2]; exact z_sortm_no L.hns h2)) ?_
      refine zx_sipush (q := 24) (v := (-1001)) dX8_alike_21 (by decide) rfl ?_
      refine zx_iret dX8_alike_24 rfl (Nat.le_refl _) (Nat.le_refl _) ⟨_, rfl, ?_⟩
      exact ⟨rfl, _, _, _, rfl, hR⟩
end P44
