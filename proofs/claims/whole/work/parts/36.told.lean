/-! op told -/
theorem z_in_at {lo hi : Int32} (a b x : Nat) (h1 : lo.toInt = a) (h2 : hi.toInt = b) (h3 : a ≤ x) (h4 : x ≤ b) : z_in (nI x) lo hi = true := by
  have hb : b < 2 ^ 31 := by have := Int32.toInt_lt hi; omega
  rw [z_in_tt, h1, h2, nI_toInt (by omega)]
  omega
theorem z_in_no {lo hi : Int32} (a b x : Nat) (h1 : lo.toInt = a) (h2 : hi.toInt = b) (hx : x < 2 ^ 31) (h3 : ¬ (a ≤ x ∧ x ≤ b)) : ¬ z_in (nI x) lo hi = true := by
  rw [z_in_tt, h1, h2, nI_toInt hx]
  omega
theorem z_hole_no {c x : Nat} (hc : c < 2 ^ 30) (hx : x < 2 ^ 30) (h : ¬ (c ≤ x ∧ x ≤ c + 2)) : ¬ z_in (nI x - nI c) 0 2 = true := by
  intro z
  obtain ⟨j, hj, e⟩ := z_hole z
  have := (nI_eq (by omega) (by omega)).mp e
  omega
theorem z_not_in {a lo hi : Int32} {c : Nat} (h1 : lo.toInt = c) (h2 : hi.toInt = ((c + 2 : Nat) : Int)) (h : ¬ z_in (a - nI c) 0 2 = true) : ¬ z_in a lo hi = true := by
  intro z
  obtain ⟨j, j1, j2, rfl⟩ := z_inR c (c + 2) h1 h2 z
  obtain ⟨i, rfl⟩ : ∃ i, j = c + i := ⟨j - c, by omega⟩
  exact h (z_hole_at (by omega))
section P36
variable {l : Launch} {D : va_G} {tc : Nat → ClassId} {A : Nat → Prop} {S : zw_S} {gi : Nat → Nat → Int32} {gl : Nat → Nat → Int64} {f : Option Nat}
theorem t_tbh0 (d j : Nat) {ns m mo : Nat} {g : Nat → Nat → Int32} (L : zLK gi ns m) (hj : j ≤ 2) (e : ∀ k j, ¬ (47 ≤ k ∧ k ≤ 55) → g k j = gi k j) (hg : zSG g ns mo (z_sh gi m) (z_ow gi m) ns) : zCall l D tc A mX7_toldByHole (d + 2) 0 0 [.ref 0, .int (nI (10 + j))] (zs g gl f) (zQi fun r S' => r = nI (z_ct gi m ns 0 j) ∧ S' = zs g gl f) := by
  show zW l D tc A mX7_toldByHole (d + 2) 0 0 0 0 0 [some (.ref 0), some (.int (nI (10 + j))), none] [] (zs g gl f) _
  refine zx_iload_n (q := 1) dX7_toldByHole_0 rfl rfl rfl ?_
  refine zx_bipush (q := 3) (v := 10) dX7_toldByHole_1 (by decide) rfl ?_
  refine zx_isub (q := 4) dX7_toldByHole_3 rfl ?_
  refine zx_callS1i (q := 7) (y' := mX7_isHole) dX7_toldByHole_4 ml_RX7_101 ok_mX7_isHole (Nat.le_of_ble_eq_true rfl) (Nat.le_of_ble_eq_true rfl) (Nat.le_refl _) (Nat.le_refl _) rfl (t_X7_isHole _ _) ?_
  rintro _ _ ⟨rfl, rfl⟩
  refine zx_if_eq_f (t := 31) (q := 10) dX7_toldByHole_7 (by decide) rfl (zk_t (z_hole_at (c := 10) hj)) ?_
  refine zx_aload_n (q := 11) dX7_toldByHole_10 rfl rfl rfl ?_
  refine zy_getR (q := 14) dX7_toldByHole_11 fl_RX7_42 rfl rfl rfl rfl ?_
  refine zx_aload_n (q := 15) dX7_toldByHole_14 rfl rfl rfl ?_
  refine zy_getR (q := 18) dX7_toldByHole_15 fl_RX7_12 rfl rfl rfl rfl ?_
  refine zy_getR (q := 21) dX7_toldByHole_18 fl_RX7_92 rfl rfl rfl rfl ?_
  refine zx_iconst (q := 22) (v := 0) dX7_toldByHole_21 (by decide) rfl ?_
  refine zy_aaldN (i := 0) (q := 23) dX7_toldByHole_22 rfl (by decide) (by omega) (by decide) rfl rfl ?_
  refine zx_iload_n (q := 24) dX7_toldByHole_23 rfl rfl rfl ?_
  refine zx_bipush (q := 26) (v := 10) dX7_toldByHole_24 (by decide) rfl ?_
  refine zx_isub (q := 27) dX7_toldByHole_26 rfl ?_
  rw [show nI (10 + j) - 10 = nI j from by rw [show (10 : Int32) = nI 10 from rfl, z_subN (by omega)]; congr 1; omega]
  refine zx_callV2i (q := 30) (y' := mX4_total) dX7_toldByHole_27 ml_RX7_144 ok_mX4_total rfl (by decide) rfl (Nat.le_of_ble_eq_true rfl) (Nat.le_of_ble_eq_true rfl) (Nat.le_refl _) (Nat.le_refl _) rfl (t_totalL _ 0 j L (by omega) (by omega) (fun s => e _ _ (by omega)) hg) ?_
  rintro _ _ ⟨rfl, rfl⟩
  refine zx_iret dX7_toldByHole_30 rfl (Nat.le_refl _) (Nat.le_refl _) ⟨_, rfl, ?_⟩
  exact ⟨rfl, rfl⟩
theorem t_tbh1 (d j : Nat) {ns m mo : Nat} {g : Nat → Nat → Int32} (L : zLK gi ns m) (hj : j ≤ 2) (e : ∀ k j, ¬ (47 ≤ k ∧ k ≤ 55) → g k j = gi k j) (hg : zSG g ns mo (z_sh gi m) (z_ow gi m) ns) : zCall l D tc A mX7_toldByHole (d + 2) 0 0 [.ref 0, .int (nI (20 + j))] (zs g gl f) (zQi fun r S' => r = nI (z_ct gi m ns 1 j) ∧ S' = zs g gl f) := by
  show zW l D tc A mX7_toldByHole (d + 2) 0 0 0 0 0 [some (.ref 0), some (.int (nI (20 + j))), none] [] (zs g gl f) _
  refine zx_iload_n (q := 1) dX7_toldByHole_0 rfl rfl rfl ?_
  refine zx_bipush (q := 3) (v := 10) dX7_toldByHole_1 (by decide) rfl ?_
  refine zx_isub (q := 4) dX7_toldByHole_3 rfl ?_
  refine zx_callS1i (q := 7) (y' := mX7_isHole) dX7_toldByHole_4 ml_RX7_101 ok_mX7_isHole (Nat.le_of_ble_eq_true rfl) (Nat.le_of_ble_eq_true rfl) (Nat.le_refl _) (Nat.le_refl _) rfl (t_X7_isHole _ _) ?_
  rintro _ _ ⟨rfl, rfl⟩
  refine zx_if_eq_t (t := 31) (q := 10) dX7_toldByHole_7 (by decide) rfl (zk_f (z_hole_no (c := 10) (by omega) (by omega) (by omega))) ?_
  refine zx_iload_n (q := 32) dX7_toldByHole_31 rfl rfl rfl ?_
  refine zx_bipush (q := 34) (v := 20) dX7_toldByHole_32 (by decide) rfl ?_
  refine zx_isub (q := 35) dX7_toldByHole_34 rfl ?_
  refine zx_callS1i (q := 38) (y' := mX7_isHole) dX7_toldByHole_35 ml_RX7_101 ok_mX7_isHole (Nat.le_of_ble_eq_true rfl) (Nat.le_of_ble_eq_true rfl) (Nat.le_refl _) (Nat.le_refl _) rfl (t_X7_isHole _ _) ?_
  rintro _ _ ⟨rfl, rfl⟩
  refine zx_if_eq_f (t := 62) (q := 41) dX7_toldByHole_38 (by decide) rfl (zk_t (z_hole_at (c := 20) hj)) ?_
  refine zx_aload_n (q := 42) dX7_toldByHole_41 rfl rfl rfl ?_
  refine zy_getR (q := 45) dX7_toldByHole_42 fl_RX7_42 rfl rfl rfl rfl ?_
  refine zx_aload_n (q := 46) dX7_toldByHole_45 rfl rfl rfl ?_
  refine zy_getR (q := 49) dX7_toldByHole_46 fl_RX7_12 rfl rfl rfl rfl ?_
  refine zy_getR (q := 52) dX7_toldByHole_49 fl_RX7_92 rfl rfl rfl rfl ?_
  refine zx_iconst (q := 53) (v := 1) dX7_toldByHole_52 (by decide) rfl ?_
  refine zy_aaldN (i := 1) (q := 54) dX7_toldByHole_53 rfl (by decide) (by omega) (by decide) rfl rfl ?_
  refine zx_iload_n (q := 55) dX7_toldByHole_54 rfl rfl rfl ?_
  refine zx_bipush (q := 57) (v := 20) dX7_toldByHole_55 (by decide) rfl ?_
  refine zx_isub (q := 58) dX7_toldByHole_57 rfl ?_
  rw [show nI (20 + j) - 20 = nI j from by rw [show (20 : Int32) = nI 20 from rfl, z_subN (by omega)]; congr 1; omega]
  refine zx_callV2i (q := 61) (y' := mX4_total) dX7_toldByHole_58 ml_RX7_144 ok_mX4_total rfl (by decide) rfl (Nat.le_of_ble_eq_true rfl) (Nat.le_of_ble_eq_true rfl) (Nat.le_refl _) (Nat.le_refl _) rfl (t_totalL _ 1 j L (by omega) (by omega) (fun s => e _ _ (by omega)) hg) ?_
  rintro _ _ ⟨rfl, rfl⟩
  refine zx_iret dX7_toldByHole_61 rfl (Nat.le_refl _) (Nat.le_refl _) ⟨_, rfl, ?_⟩
  exact ⟨rfl, rfl⟩
theorem t_tbh2 (d j : Nat) {ns m mo : Nat} {g : Nat → Nat → Int32} (L : zLK gi ns m) (hj : j ≤ 2) (e : ∀ k j, ¬ (47 ≤ k ∧ k ≤ 55) → g k j = gi k j) (hg : zSG g ns mo (z_sh gi m) (z_ow gi m) ns) : zCall l D tc A mX7_toldByHole (d + 2) 0 0 [.ref 0, .int (nI (30 + j))] (zs g gl f) (zQi fun r S' => r = (if gi 17 j = -1 then -5 else gi 17 j) ∧ S' = zs g gl f) := by
  show zW l D tc A mX7_toldByHole (d + 2) 0 0 0 0 0 [some (.ref 0), some (.int (nI (30 + j))), none] [] (zs g gl f) _
  refine zx_iload_n (q := 1) dX7_toldByHole_0 rfl rfl rfl ?_
  refine zx_bipush (q := 3) (v := 10) dX7_toldByHole_1 (by decide) rfl ?_
  refine zx_isub (q := 4) dX7_toldByHole_3 rfl ?_
  refine zx_callS1i (q := 7) (y' := mX7_isHole) dX7_toldByHole_4 ml_RX7_101 ok_mX7_isHole (Nat.le_of_ble_eq_true rfl) (Nat.le_of_ble_eq_true rfl) (Nat.le_refl _) (Nat.le_refl _) rfl (t_X7_isHole _ _) ?_
  rintro _ _ ⟨rfl, rfl⟩
  refine zx_if_eq_t (t := 31) (q := 10) dX7_toldByHole_7 (by decide) rfl (zk_f (z_hole_no (c := 10) (by omega) (by omega) (by omega))) ?_
  refine zx_iload_n (q := 32) dX7_toldByHole_31 rfl rfl rfl ?_
  refine zx_bipush (q := 34) (v := 20) dX7_toldByHole_32 (by decide) rfl ?_
  refine zx_isub (q := 35) dX7_toldByHole_34 rfl ?_
  refine zx_callS1i (q := 38) (y' := mX7_isHole) dX7_toldByHole_35 ml_RX7_101 ok_mX7_isHole (Nat.le_of_ble_eq_true rfl) (Nat.le_of_ble_eq_true rfl) (Nat.le_refl _) (Nat.le_refl _) rfl (t_X7_isHole _ _) ?_
  rintro _ _ ⟨rfl, rfl⟩
  refine zx_if_eq_t (t := 62) (q := 41) dX7_toldByHole_38 (by decide) rfl (zk_f (z_hole_no (c := 20) (by omega) (by omega) (by omega))) ?_
  refine zx_iload_n (q := 63) dX7_toldByHole_62 rfl rfl rfl ?_
  refine zx_bipush (q := 65) (v := 30) dX7_toldByHole_63 (by decide) rfl ?_
  refine zx_isub (q := 66) dX7_toldByHole_65 rfl ?_
  refine zx_callS1i (q := 69) (y' := mX7_isHole) dX7_toldByHole_66 ml_RX7_101 ok_mX7_isHole (Nat.le_of_ble_eq_true rfl) (Nat.le_of_ble_eq_true rfl) (Nat.le_refl _) (Nat.le_refl _) rfl (t_X7_isHole _ _) ?_
  rintro _ _ ⟨rfl, rfl⟩
  refine zx_if_eq_f (t := 97) (q := 72) dX7_toldByHole_69 (by decide) rfl (zk_t (z_hole_at (c := 30) hj)) ?_
  refine zx_aload_n (q := 73) dX7_toldByHole_72 rfl rfl rfl ?_
  refine zy_getR (q := 76) dX7_toldByHole_73 fl_RX7_12 rfl rfl rfl rfl ?_
  refine zy_getR (q := 79) dX7_toldByHole_76 fl_RX7_113 rfl rfl rfl rfl ?_
  refine zx_iload_n (q := 80) dX7_toldByHole_79 rfl rfl rfl ?_
  refine zx_bipush (q := 82) (v := 30) dX7_toldByHole_80 (by decide) rfl ?_
  refine zx_isub (q := 83) dX7_toldByHole_82 rfl ?_
  rw [show nI (30 + j) - 30 = nI j from by rw [show (30 : Int32) = nI 30 from rfl, z_subN (by omega)]; congr 1; omega]
  refine zy_ialdN (q := 84) dX7_toldByHole_83 rfl (by omega) (by first | decide | omega) rfl ?_
  rw [e _ _ (by omega)]
  refine zx_istore2 (q := 85) dX7_toldByHole_84 rfl rfl ?_
  refine zx_iload_n (q := 86) dX7_toldByHole_85 rfl rfl rfl ?_
  refine zx_iconst (q := 87) (v := (-1)) dX7_toldByHole_86 (by decide) rfl ?_
  refine zx_icmp_ne (q := 90) (t := 95) dX7_toldByHole_87 (by decide) rfl (fun c_87 => ?_) (fun c_87 => ?_)
  · have ef : (if gi 17 j = -1 then (-5 : Int32) else gi 17 j) = gi 17 j := if_neg c_87
    refine zx_iload_n (q := 96) dX7_toldByHole_95 rfl rfl rfl ?_
    refine zx_iret dX7_toldByHole_96 rfl (Nat.le_refl _) (Nat.le_refl _) ⟨_, rfl, ?_⟩
    exact ⟨ef.symm, rfl⟩
  · have ef : (if gi 17 j = -1 then (-5 : Int32) else gi 17 j) = -5 := if_pos (by simpa using c_87)
    refine zx_bipush (q := 92) (v := (-5)) dX7_toldByHole_90 (by decide) rfl ?_
    refine zx_goto (t := 96) dX7_toldByHole_92 (by decide) ?_
    refine zx_iret dX7_toldByHole_96 rfl (Nat.le_refl _) (Nat.le_refl _) ⟨_, rfl, ?_⟩
    exact ⟨ef.symm, rfl⟩
theorem t_tbh3 (d : Nat) (a : Int32) (h1 : ¬ z_in (a - 10) 0 2 = true) (h2 : ¬ z_in (a - 20) 0 2 = true) (h3 : ¬ z_in (a - 30) 0 2 = true) : zCall l D tc A mX7_toldByHole (d + 2) 0 0 [.ref 0, .int a] S (zQi fun r S' => r = -1001 ∧ S' = S) := by
  show zW l D tc A mX7_toldByHole (d + 2) 0 0 0 0 0 [some (.ref 0), some (.int a), none] [] S _
  refine zx_iload_n (q := 1) dX7_toldByHole_0 rfl rfl rfl ?_
  refine zx_bipush (q := 3) (v := 10) dX7_toldByHole_1 (by decide) rfl ?_
  refine zx_isub (q := 4) dX7_toldByHole_3 rfl ?_
  refine zx_callS1i (q := 7) (y' := mX7_isHole) dX7_toldByHole_4 ml_RX7_101 ok_mX7_isHole (Nat.le_of_ble_eq_true rfl) (Nat.le_of_ble_eq_true rfl) (Nat.le_refl _) (Nat.le_refl _) rfl (t_X7_isHole _ _) ?_
  rintro _ _ ⟨rfl, rfl⟩
  refine zx_if_eq_t (t := 31) (q := 10) dX7_toldByHole_7 (by decide) rfl (zk_f h1) ?_
  refine zx_iload_n (q := 32) dX7_toldByHole_31 rfl rfl rfl ?_
  refine zx_bipush (q := 34) (v := 20) dX7_toldByHole_32 (by decide) rfl ?_
  refine zx_isub (q := 35) dX7_toldByHole_34 rfl ?_
  refine zx_callS1i (q := 38) (y' := mX7_isHole) dX7_toldByHole_35 ml_RX7_101 ok_mX7_isHole (Nat.le_of_ble_eq_true rfl) (Nat.le_of_ble_eq_true rfl) (Nat.le_refl _) (Nat.le_refl _) rfl (t_X7_isHole _ _) ?_
  rintro _ _ ⟨rfl, rfl⟩
  refine zx_if_eq_t (t := 62) (q := 41) dX7_toldByHole_38 (by decide) rfl (zk_f h2) ?_
  refine zx_iload_n (q := 63) dX7_toldByHole_62 rfl rfl rfl ?_
  refine zx_bipush (q := 65) (v := 30) dX7_toldByHole_63 (by decide) rfl ?_
  refine zx_isub (q := 66) dX7_toldByHole_65 rfl ?_
  refine zx_callS1i (q := 69) (y' := mX7_isHole) dX7_toldByHole_66 ml_RX7_101 ok_mX7_isHole (Nat.le_of_ble_eq_true rfl) (Nat.le_of_ble_eq_true rfl) (Nat.le_refl _) (Nat.le_refl _) rfl (t_X7_isHole _ _) ?_
  rintro _ _ ⟨rfl, rfl⟩
  refine zx_if_eq_t (t := 97) (q := 72) dX7_toldByHole_69 (by decide) rfl (zk_f h3) ?_
  refine zx_sipush (q := 100) (v := (-1001)) dX7_toldByHole_97 (by decide) rfl ?_
  refine zx_iret dX7_toldByHole_100 rfl (Nat.le_refl _) (Nat.le_refl _) ⟨_, rfl, ?_⟩
  exact ⟨rfl, rfl⟩
set_option maxHeartbeats 4000000 in
theorem op_told (d : Nat) (a : Int32) (hR : zRel gi gl) : zOpI l D tc A mX7_told mX8_told (d + 5) [.int a] gi gl f := by
  obtain ⟨ns, m, L⟩ := zLK_of hR
  by_cases h0 : a = 0
  · subst h0
    show zW l D tc A mX7_told (d + 5) 0 0 0 0 0 [some (.ref 0), some (.int 0)] [] (zs gi gl f) _
    refine zx_aload_n (q := 1) dX7_told_0 rfl rfl rfl ?_
    refine zx_callV0v (q := 4) (y' := mX7_look) dX7_told_1 ml_RX7_95 ok_mX7_look rfl (by decide) rfl (Nat.le_of_ble_eq_true rfl) (Nat.le_of_ble_eq_true rfl) (Nat.le_refl _) (Nat.le_refl _) rfl (t_X7_look _ L) ?_
    rintro _ ⟨g1, rfl, k1, s1⟩
    refine zx_iload_n (q := 5) dX7_told_4 rfl rfl rfl ?_
    refine zx_tblIn (t := 36) (off := 31) dX7_told_5 (by decide) (by decide) (by rfl) (by decide) ?_
    refine zx_aload_n (q := 37) dX7_told_36 rfl rfl rfl ?_
    refine zy_getR (q := 40) dX7_told_37 fl_RX7_42 rfl rfl rfl rfl ?_
    refine zy_getI (q := 43) dX7_told_40 fl_RX7_133 rfl rfl rfl ?_
    refine zx_iret dX7_told_43 rfl (Nat.le_refl _) (Nat.le_refl _) ⟨_, rfl, ?_⟩
    refine ⟨_, _, _, rfl, ?_⟩
    show zW l D tc A mX8_told (d + 5) 0 0 0 0 0 [some (.ref 108), some (.int 0)] [] (zs _ _ _) _
    refine zx_aload_n (q := 1) dX8_told_0 rfl rfl rfl ?_
    refine zx_callV0v (q := 4) (y' := mX8_layShows) dX8_told_1 ml_RX8_278 ok_mX8_layShows rfl (by decide) rfl (Nat.le_of_ble_eq_true rfl) (Nat.le_of_ble_eq_true rfl) (Nat.le_refl _) (Nat.le_refl _) rfl (t_X8_layK _ (zLK_fr L (fun k j z => k1 k j (by unfold z_scr at z; omega)) (k1 _ _ (by omega)))) ?_
    rintro _ ⟨g2, rfl, k2, s2⟩
    refine zx_aload_n (q := 5) dX8_told_4 rfl rfl rfl ?_
    refine zx_iload_n (q := 6) dX8_told_5 rfl rfl rfl ?_
    refine zx_bipush (q := 8) (v := 10) dX8_told_6 (by decide) rfl ?_
    refine zx_bipush (q := 10) (v := 12) dX8_told_8 (by decide) rfl ?_
    refine zx_callV3i (q := 13) (y' := mX8_in) dX8_told_10 ml_RX8_200 ok_mX8_in rfl (by decide) rfl (Nat.le_of_ble_eq_true rfl) (Nat.le_of_ble_eq_true rfl) (Nat.le_refl _) (Nat.le_refl _) rfl (t_X8_in _ _ _ _ _) ?_
    rintro _ _ ⟨rfl, rfl⟩
    refine zx_if_eq_t (t := 25) (q := 16) dX8_told_13 (by decide) rfl (zk_f (by decide)) ?_
    refine zx_aload_n (q := 26) dX8_told_25 rfl rfl rfl ?_
    refine zx_iload_n (q := 27) dX8_told_26 rfl rfl rfl ?_
    refine zx_bipush (q := 29) (v := 20) dX8_told_27 (by decide) rfl ?_
    refine zx_bipush (q := 31) (v := 22) dX8_told_29 (by decide) rfl ?_
    refine zx_callV3i (q := 34) (y' := mX8_in) dX8_told_31 ml_RX8_200 ok_mX8_in rfl (by decide) rfl (Nat.le_of_ble_eq_true rfl) (Nat.le_of_ble_eq_true rfl) (Nat.le_refl _) (Nat.le_refl _) rfl (t_X8_in _ _ _ _ _) ?_
    rintro _ _ ⟨rfl, rfl⟩
    refine zx_if_eq_t (t := 46) (q := 37) dX8_told_34 (by decide) rfl (zk_f (by decide)) ?_
    refine zx_aload_n (q := 47) dX8_told_46 rfl rfl rfl ?_
    refine zx_iload_n (q := 48) dX8_told_47 rfl rfl rfl ?_
    refine zx_bipush (q := 50) (v := 30) dX8_told_48 (by decide) rfl ?_
    refine zx_bipush (q := 52) (v := 32) dX8_told_50 (by decide) rfl ?_
    refine zx_callV3i (q := 55) (y' := mX8_in) dX8_told_52 ml_RX8_200 ok_mX8_in rfl (by decide) rfl (Nat.le_of_ble_eq_true rfl) (Nat.le_of_ble_eq_true rfl) (Nat.le_refl _) (Nat.le_refl _) rfl (t_X8_in _ _ _ _ _) ?_
    rintro _ _ ⟨rfl, rfl⟩
    refine zx_if_eq_t (t := 85) (q := 58) dX8_told_55 (by decide) rfl (zk_f (by decide)) ?_
    refine zx_iload_n (q := 86) dX8_told_85 rfl rfl rfl ?_
    refine zx_tblIn (t := 116) (off := 30) dX8_told_86 (by decide) (by decide) (by rfl) (by decide) ?_
    refine zx_aload_n (q := 117) dX8_told_116 rfl rfl rfl ?_
    refine zx_callV0i (q := 120) (y' := mX8_mostNow) dX8_told_117 ml_RX8_287 ok_mX8_mostNow rfl (by decide) rfl (Nat.le_of_ble_eq_true rfl) (Nat.le_of_ble_eq_true rfl) (Nat.le_refl _) (Nat.le_refl _) rfl (t_X8_mostNow _ (zIsM_cg (g' := g2) L.hM (fun k j z => by rw [k2 _ _ (by unfold z_fc at z; omega), k1 _ _ (by unfold z_fc at z; omega)]) (fun j => ⟨by rw [k2 _ _ (by omega), k1 _ _ (by omega)], by rw [k2 _ _ (by omega), k1 _ _ (by omega)], by rw [k2 _ _ (by omega), k1 _ _ (by omega)], by rw [k2 _ _ (by omega), k1 _ _ (by omega)], by rw [k2 _ _ (by omega), k1 _ _ (by omega)], by rw [k2 _ _ (by omega), k1 _ _ (by omega)], by rw [k2 _ _ (by omega), k1 _ _ (by omega)]⟩))) ?_
    rintro _ _ ⟨rfl, rfl⟩
    refine zx_iret dX8_told_120 rfl (Nat.le_refl _) (Nat.le_refl _) ⟨_, rfl, ?_⟩
    exact ⟨by rw [s1.2.1, z_most_cg (fun k j z => by rw [k2 _ _ (by unfold z_fc at z; omega), k1 _ _ (by unfold z_fc at z; omega)])], _, _, _, rfl, zRel_scr hR (fun k j z => by first | rfl | (rw [k2 _ _ (by unfold z_scr at z; omega), k1 _ _ (by unfold z_scr at z; omega)]) | (rw [k2 _ _ (by unfold z_scr at z; omega)]) | (rw [k1 _ _ (by unfold z_scr at z; omega)]))⟩
  · by_cases h1 : a = 1
    · subst h1
      show zW l D tc A mX7_told (d + 5) 0 0 0 0 0 [some (.ref 0), some (.int 1)] [] (zs gi gl f) _
      refine zx_aload_n (q := 1) dX7_told_0 rfl rfl rfl ?_
      refine zx_callV0v (q := 4) (y' := mX7_look) dX7_told_1 ml_RX7_95 ok_mX7_look rfl (by decide) rfl (Nat.le_of_ble_eq_true rfl) (Nat.le_of_ble_eq_true rfl) (Nat.le_refl _) (Nat.le_refl _) rfl (t_X7_look _ L) ?_
      rintro _ ⟨g1, rfl, k1, s1⟩
      refine zx_iload_n (q := 5) dX7_told_4 rfl rfl rfl ?_
      refine zx_tblIn (t := 44) (off := 39) dX7_told_5 (by decide) (by decide) (by rfl) (by decide) ?_
      refine zx_aload_n (q := 45) dX7_told_44 rfl rfl rfl ?_
      refine zy_getR (q := 48) dX7_told_45 fl_RX7_12 rfl rfl rfl rfl ?_
      refine zy_getI (q := 51) dX7_told_48 fl_RX7_110 rfl rfl rfl ?_
      refine zx_iret dX7_told_51 rfl (Nat.le_refl _) (Nat.le_refl _) ⟨_, rfl, ?_⟩
      refine ⟨_, _, _, rfl, ?_⟩
      show zW l D tc A mX8_told (d + 5) 0 0 0 0 0 [some (.ref 108), some (.int 1)] [] (zs _ _ _) _
      refine zx_aload_n (q := 1) dX8_told_0 rfl rfl rfl ?_
      refine zx_callV0v (q := 4) (y' := mX8_layShows) dX8_told_1 ml_RX8_278 ok_mX8_layShows rfl (by decide) rfl (Nat.le_of_ble_eq_true rfl) (Nat.le_of_ble_eq_true rfl) (Nat.le_refl _) (Nat.le_refl _) rfl (t_X8_layK _ (zLK_fr L (fun k j z => k1 k j (by unfold z_scr at z; omega)) (k1 _ _ (by omega)))) ?_
      rintro _ ⟨g2, rfl, k2, s2⟩
      refine zx_aload_n (q := 5) dX8_told_4 rfl rfl rfl ?_
      refine zx_iload_n (q := 6) dX8_told_5 rfl rfl rfl ?_
      refine zx_bipush (q := 8) (v := 10) dX8_told_6 (by decide) rfl ?_
      refine zx_bipush (q := 10) (v := 12) dX8_told_8 (by decide) rfl ?_
      refine zx_callV3i (q := 13) (y' := mX8_in) dX8_told_10 ml_RX8_200 ok_mX8_in rfl (by decide) rfl (Nat.le_of_ble_eq_true rfl) (Nat.le_of_ble_eq_true rfl) (Nat.le_refl _) (Nat.le_refl _) rfl (t_X8_in _ _ _ _ _) ?_
      rintro _ _ ⟨rfl, rfl⟩
      refine zx_if_eq_t (t := 25) (q := 16) dX8_told_13 (by decide) rfl (zk_f (by decide)) ?_
      refine zx_aload_n (q := 26) dX8_told_25 rfl rfl rfl ?_
      refine zx_iload_n (q := 27) dX8_told_26 rfl rfl rfl ?_
      refine zx_bipush (q := 29) (v := 20) dX8_told_27 (by decide) rfl ?_
      refine zx_bipush (q := 31) (v := 22) dX8_told_29 (by decide) rfl ?_
      refine zx_callV3i (q := 34) (y' := mX8_in) dX8_told_31 ml_RX8_200 ok_mX8_in rfl (by decide) rfl (Nat.le_of_ble_eq_true rfl) (Nat.le_of_ble_eq_true rfl) (Nat.le_refl _) (Nat.le_refl _) rfl (t_X8_in _ _ _ _ _) ?_
      rintro _ _ ⟨rfl, rfl⟩
      refine zx_if_eq_t (t := 46) (q := 37) dX8_told_34 (by decide) rfl (zk_f (by decide)) ?_
      refine zx_aload_n (q := 47) dX8_told_46 rfl rfl rfl ?_
      refine zx_iload_n (q := 48) dX8_told_47 rfl rfl rfl ?_
      refine zx_bipush (q := 50) (v := 30) dX8_told_48 (by decide) rfl ?_
      refine zx_bipush (q := 52) (v := 32) dX8_told_50 (by decide) rfl ?_
      refine zx_callV3i (q := 55) (y' := mX8_in) dX8_told_52 ml_RX8_200 ok_mX8_in rfl (by decide) rfl (Nat.le_of_ble_eq_true rfl) (Nat.le_of_ble_eq_true rfl) (Nat.le_refl _) (Nat.le_refl _) rfl (t_X8_in _ _ _ _ _) ?_
      rintro _ _ ⟨rfl, rfl⟩
      refine zx_if_eq_t (t := 85) (q := 58) dX8_told_55 (by decide) rfl (zk_f (by decide)) ?_
      refine zx_iload_n (q := 86) dX8_told_85 rfl rfl rfl ?_
      refine zx_tblIn (t := 121) (off := 35) dX8_told_86 (by decide) (by decide) (by rfl) (by decide) ?_
      refine zx_aload_n (q := 122) dX8_told_121 rfl rfl rfl ?_
      refine zy_getI (q := 125) dX8_told_122 fl_RX8_13 rfl rfl rfl ?_
      refine zx_iret dX8_told_125 rfl (Nat.le_refl _) (Nat.le_refl _) ⟨_, rfl, ?_⟩
      exact ⟨by rw [k2 _ _ (by omega), k1 _ _ (by omega), k1 _ _ (by omega), L.hm1, L.hm2], _, _, _, rfl, zRel_scr hR (fun k j z => by first | rfl | (rw [k2 _ _ (by unfold z_scr at z; omega), k1 _ _ (by unfold z_scr at z; omega)]) | (rw [k2 _ _ (by unfold z_scr at z; omega)]) | (rw [k1 _ _ (by unfold z_scr at z; omega)]))⟩
    · by_cases h2 : a = 2
      · subst h2
        show zW l D tc A mX7_told (d + 5) 0 0 0 0 0 [some (.ref 0), some (.int 2)] [] (zs gi gl f) _
        refine zx_aload_n (q := 1) dX7_told_0 rfl rfl rfl ?_
        refine zx_callV0v (q := 4) (y' := mX7_look) dX7_told_1 ml_RX7_95 ok_mX7_look rfl (by decide) rfl (Nat.le_of_ble_eq_true rfl) (Nat.le_of_ble_eq_true rfl) (Nat.le_refl _) (Nat.le_refl _) rfl (t_X7_look _ L) ?_
        rintro _ ⟨g1, rfl, k1, s1⟩
        refine zx_iload_n (q := 5) dX7_told_4 rfl rfl rfl ?_
        refine zx_tblIn (t := 52) (off := 47) dX7_told_5 (by decide) (by decide) (by rfl) (by decide) ?_
        refine zx_aload_n (q := 53) dX7_told_52 rfl rfl rfl ?_
        refine zy_getR (q := 56) dX7_told_53 fl_RX7_42 rfl rfl rfl rfl ?_
        refine zx_aload_n (q := 57) dX7_told_56 rfl rfl rfl ?_
        refine zy_getR (q := 60) dX7_told_57 fl_RX7_12 rfl rfl rfl rfl ?_
        refine zy_getR (q := 63) dX7_told_60 fl_RX7_92 rfl rfl rfl rfl ?_
        refine zx_iload_n (q := 64) dX7_told_63 rfl rfl rfl ?_
        refine zx_iconst (q := 65) (v := 2) dX7_told_64 (by decide) rfl ?_
        refine zx_isub (q := 66) dX7_told_65 rfl ?_
        refine zy_aaldN (i := 0) (q := 67) dX7_told_66 rfl (by decide) (by omega) (by decide) rfl rfl ?_
        refine zx_callV1i (q := 70) (y' := mX4_tollOf) dX7_told_67 ml_RX7_136 ok_mX4_tollOf rfl (by decide) rfl (Nat.le_of_ble_eq_true rfl) (Nat.le_of_ble_eq_true rfl) (Nat.le_refl _) (Nat.le_refl _) rfl (t_tollL _ 0 L (by omega) (fun s => k1 _ _ (by omega)) s1) ?_
        rintro _ _ ⟨rfl, rfl⟩
        refine zx_iret dX7_told_70 rfl (Nat.le_refl _) (Nat.le_refl _) ⟨_, rfl, ?_⟩
        refine ⟨_, _, _, rfl, ?_⟩
        show zW l D tc A mX8_told (d + 5) 0 0 0 0 0 [some (.ref 108), some (.int 2)] [] (zs _ _ _) _
        refine zx_aload_n (q := 1) dX8_told_0 rfl rfl rfl ?_
        refine zx_callV0v (q := 4) (y' := mX8_layShows) dX8_told_1 ml_RX8_278 ok_mX8_layShows rfl (by decide) rfl (Nat.le_of_ble_eq_true rfl) (Nat.le_of_ble_eq_true rfl) (Nat.le_refl _) (Nat.le_refl _) rfl (t_X8_layK _ (zLK_fr L (fun k j z => k1 k j (by unfold z_scr at z; omega)) (k1 _ _ (by omega)))) ?_
        rintro _ ⟨g2, rfl, k2, s2⟩
        refine zx_aload_n (q := 5) dX8_told_4 rfl rfl rfl ?_
        refine zx_iload_n (q := 6) dX8_told_5 rfl rfl rfl ?_
        refine zx_bipush (q := 8) (v := 10) dX8_told_6 (by decide) rfl ?_
        refine zx_bipush (q := 10) (v := 12) dX8_told_8 (by decide) rfl ?_
        refine zx_callV3i (q := 13) (y' := mX8_in) dX8_told_10 ml_RX8_200 ok_mX8_in rfl (by decide) rfl (Nat.le_of_ble_eq_true rfl) (Nat.le_of_ble_eq_true rfl) (Nat.le_refl _) (Nat.le_refl _) rfl (t_X8_in _ _ _ _ _) ?_
        rintro _ _ ⟨rfl, rfl⟩
        refine zx_if_eq_t (t := 25) (q := 16) dX8_told_13 (by decide) rfl (zk_f (by decide)) ?_
        refine zx_aload_n (q := 26) dX8_told_25 rfl rfl rfl ?_
        refine zx_iload_n (q := 27) dX8_told_26 rfl rfl rfl ?_
        refine zx_bipush (q := 29) (v := 20) dX8_told_27 (by decide) rfl ?_
        refine zx_bipush (q := 31) (v := 22) dX8_told_29 (by decide) rfl ?_
        refine zx_callV3i (q := 34) (y' := mX8_in) dX8_told_31 ml_RX8_200 ok_mX8_in rfl (by decide) rfl (Nat.le_of_ble_eq_true rfl) (Nat.le_of_ble_eq_true rfl) (Nat.le_refl _) (Nat.le_refl _) rfl (t_X8_in _ _ _ _ _) ?_
        rintro _ _ ⟨rfl, rfl⟩
        refine zx_if_eq_t (t := 46) (q := 37) dX8_told_34 (by decide) rfl (zk_f (by decide)) ?_
        refine zx_aload_n (q := 47) dX8_told_46 rfl rfl rfl ?_
        refine zx_iload_n (q := 48) dX8_told_47 rfl rfl rfl ?_
        refine zx_bipush (q := 50) (v := 30) dX8_told_48 (by decide) rfl ?_
        refine zx_bipush (q := 52) (v := 32) dX8_told_50 (by decide) rfl ?_
        refine zx_callV3i (q := 55) (y' := mX8_in) dX8_told_52 ml_RX8_200 ok_mX8_in rfl (by decide) rfl (Nat.le_of_ble_eq_true rfl) (Nat.le_of_ble_eq_true rfl) (Nat.le_refl _) (Nat.le_refl _) rfl (t_X8_in _ _ _ _ _) ?_
        rintro _ _ ⟨rfl, rfl⟩
        refine zx_if_eq_t (t := 85) (q := 58) dX8_told_55 (by decide) rfl (zk_f (by decide)) ?_
        refine zx_iload_n (q := 86) dX8_told_85 rfl rfl rfl ?_
        refine zx_tblIn (t := 126) (off := 40) dX8_told_86 (by decide) (by decide) (by rfl) (by decide) ?_
        refine zx_aload_n (q := 127) dX8_told_126 rfl rfl rfl ?_
        refine zx_callV0i (q := 130) (y' := mX8_ownToll) dX8_told_127 ml_RX8_290 ok_mX8_ownToll rfl (by decide) rfl (Nat.le_of_ble_eq_true rfl) (Nat.le_of_ble_eq_true rfl) (Nat.le_refl _) (Nat.le_refl _) rfl (t_ownTL _ (zLK_fr L (fun k j z => k1 k j (by unfold z_scr at z; omega)) (k1 _ _ (by omega))) (by rw [k2 _ _ (by omega), k1 _ _ (by omega)]; exact L.hs2) (fun s => k2 _ _ (by omega)) s2) ?_
        rintro _ _ ⟨rfl, rfl⟩
        refine zx_iret dX8_told_130 rfl (Nat.le_refl _) (Nat.le_refl _) ⟨_, rfl, ?_⟩
        exact ⟨by rw [z_tl_cg (fun k j z => k1 k j (by omega)) L.hns (by omega)], _, _, _, rfl, zRel_scr hR (fun k j z => by first | rfl | (rw [k2 _ _ (by unfold z_scr at z; omega), k1 _ _ (by unfold z_scr at z; omega)]) | (rw [k2 _ _ (by unfold z_scr at z; omega)]) | (rw [k1 _ _ (by unfold z_scr at z; omega)]))⟩
      · by_cases h3 : a = 3
        · subst h3
          show zW l D tc A mX7_told (d + 5) 0 0 0 0 0 [some (.ref 0), some (.int 3)] [] (zs gi gl f) _
          refine zx_aload_n (q := 1) dX7_told_0 rfl rfl rfl ?_
          refine zx_callV0v (q := 4) (y' := mX7_look) dX7_told_1 ml_RX7_95 ok_mX7_look rfl (by decide) rfl (Nat.le_of_ble_eq_true rfl) (Nat.le_of_ble_eq_true rfl) (Nat.le_refl _) (Nat.le_refl _) rfl (t_X7_look _ L) ?_
          rintro _ ⟨g1, rfl, k1, s1⟩
          refine zx_iload_n (q := 5) dX7_told_4 rfl rfl rfl ?_
          refine zx_tblIn (t := 52) (off := 47) dX7_told_5 (by decide) (by decide) (by rfl) (by decide) ?_
          refine zx_aload_n (q := 53) dX7_told_52 rfl rfl rfl ?_
          refine zy_getR (q := 56) dX7_told_53 fl_RX7_42 rfl rfl rfl rfl ?_
          refine zx_aload_n (q := 57) dX7_told_56 rfl rfl rfl ?_
          refine zy_getR (q := 60) dX7_told_57 fl_RX7_12 rfl rfl rfl rfl ?_
          refine zy_getR (q := 63) dX7_told_60 fl_RX7_92 rfl rfl rfl rfl ?_
          refine zx_iload_n (q := 64) dX7_told_63 rfl rfl rfl ?_
          refine zx_iconst (q := 65) (v := 2) dX7_told_64 (by decide) rfl ?_
          refine zx_isub (q := 66) dX7_told_65 rfl ?_
          refine zy_aaldN (i := 1) (q := 67) dX7_told_66 rfl (by decide) (by omega) (by decide) rfl rfl ?_
          refine zx_callV1i (q := 70) (y' := mX4_tollOf) dX7_told_67 ml_RX7_136 ok_mX4_tollOf rfl (by decide) rfl (Nat.le_of_ble_eq_true rfl) (Nat.le_of_ble_eq_true rfl) (Nat.le_refl _) (Nat.le_refl _) rfl (t_tollL _ 1 L (by omega) (fun s => k1 _ _ (by omega)) s1) ?_
          rintro _ _ ⟨rfl, rfl⟩
          refine zx_iret dX7_told_70 rfl (Nat.le_refl _) (Nat.le_refl _) ⟨_, rfl, ?_⟩
          refine ⟨_, _, _, rfl, ?_⟩
          show zW l D tc A mX8_told (d + 5) 0 0 0 0 0 [some (.ref 108), some (.int 3)] [] (zs _ _ _) _
          refine zx_aload_n (q := 1) dX8_told_0 rfl rfl rfl ?_
          refine zx_callV0v (q := 4) (y' := mX8_layShows) dX8_told_1 ml_RX8_278 ok_mX8_layShows rfl (by decide) rfl (Nat.le_of_ble_eq_true rfl) (Nat.le_of_ble_eq_true rfl) (Nat.le_refl _) (Nat.le_refl _) rfl (t_X8_layK _ (zLK_fr L (fun k j z => k1 k j (by unfold z_scr at z; omega)) (k1 _ _ (by omega)))) ?_
          rintro _ ⟨g2, rfl, k2, s2⟩
          refine zx_aload_n (q := 5) dX8_told_4 rfl rfl rfl ?_
          refine zx_iload_n (q := 6) dX8_told_5 rfl rfl rfl ?_
          refine zx_bipush (q := 8) (v := 10) dX8_told_6 (by decide) rfl ?_
          refine zx_bipush (q := 10) (v := 12) dX8_told_8 (by decide) rfl ?_
          refine zx_callV3i (q := 13) (y' := mX8_in) dX8_told_10 ml_RX8_200 ok_mX8_in rfl (by decide) rfl (Nat.le_of_ble_eq_true rfl) (Nat.le_of_ble_eq_true rfl) (Nat.le_refl _) (Nat.le_refl _) rfl (t_X8_in _ _ _ _ _) ?_
          rintro _ _ ⟨rfl, rfl⟩
          refine zx_if_eq_t (t := 25) (q := 16) dX8_told_13 (by decide) rfl (zk_f (by decide)) ?_
          refine zx_aload_n (q := 26) dX8_told_25 rfl rfl rfl ?_
          refine zx_iload_n (q := 27) dX8_told_26 rfl rfl rfl ?_
          refine zx_bipush (q := 29) (v := 20) dX8_told_27 (by decide) rfl ?_
          refine zx_bipush (q := 31) (v := 22) dX8_told_29 (by decide) rfl ?_
          refine zx_callV3i (q := 34) (y' := mX8_in) dX8_told_31 ml_RX8_200 ok_mX8_in rfl (by decide) rfl (Nat.le_of_ble_eq_true rfl) (Nat.le_of_ble_eq_true rfl) (Nat.le_refl _) (Nat.le_refl _) rfl (t_X8_in _ _ _ _ _) ?_
          rintro _ _ ⟨rfl, rfl⟩
          refine zx_if_eq_t (t := 46) (q := 37) dX8_told_34 (by decide) rfl (zk_f (by decide)) ?_
          refine zx_aload_n (q := 47) dX8_told_46 rfl rfl rfl ?_
          refine zx_iload_n (q := 48) dX8_told_47 rfl rfl rfl ?_
          refine zx_bipush (q := 50) (v := 30) dX8_told_48 (by decide) rfl ?_
          refine zx_bipush (q := 52) (v := 32) dX8_told_50 (by decide) rfl ?_
          refine zx_callV3i (q := 55) (y' := mX8_in) dX8_told_52 ml_RX8_200 ok_mX8_in rfl (by decide) rfl (Nat.le_of_ble_eq_true rfl) (Nat.le_of_ble_eq_true rfl) (Nat.le_refl _) (Nat.le_refl _) rfl (t_X8_in _ _ _ _ _) ?_
          rintro _ _ ⟨rfl, rfl⟩
          refine zx_if_eq_t (t := 85) (q := 58) dX8_told_55 (by decide) rfl (zk_f (by decide)) ?_
          refine zx_iload_n (q := 86) dX8_told_85 rfl rfl rfl ?_
          refine zx_tblIn (t := 131) (off := 45) dX8_told_86 (by decide) (by decide) (by rfl) (by decide) ?_
          refine zx_aload_n (q := 132) dX8_told_131 rfl rfl rfl ?_
          refine zx_callV0i (q := 135) (y' := mX8_secondToll) dX8_told_132 ml_RX8_293 ok_mX8_secondToll rfl (by decide) rfl (Nat.le_of_ble_eq_true rfl) (Nat.le_of_ble_eq_true rfl) (Nat.le_refl _) (Nat.le_refl _) rfl (t_secTL _ (zLK_fr L (fun k j z => k1 k j (by unfold z_scr at z; omega)) (k1 _ _ (by omega))) (by rw [k2 _ _ (by omega), k1 _ _ (by omega)]; exact L.hs2) (fun s => k2 _ _ (by omega)) s2) ?_
          rintro _ _ ⟨rfl, rfl⟩
          refine zx_iret dX8_told_135 rfl (Nat.le_refl _) (Nat.le_refl _) ⟨_, rfl, ?_⟩
          exact ⟨by rw [z_tl_cg (fun k j z => k1 k j (by omega)) L.hns (by omega)], _, _, _, rfl, zRel_scr hR (fun k j z => by first | rfl | (rw [k2 _ _ (by unfold z_scr at z; omega), k1 _ _ (by unfold z_scr at z; omega)]) | (rw [k2 _ _ (by unfold z_scr at z; omega)]) | (rw [k1 _ _ (by unfold z_scr at z; omega)]))⟩
        · by_cases n0 : z_in (a - 10) 0 2 = true
          · obtain ⟨j, hj, rfl⟩ := z_hole (c := 10) n0
            show zW l D tc A mX7_told (d + 5) 0 0 0 0 0 [some (.ref 0), some (.int (nI (10 + j)))] [] (zs gi gl f) _
            refine zx_aload_n (q := 1) dX7_told_0 rfl rfl rfl ?_
            refine zx_callV0v (q := 4) (y' := mX7_look) dX7_told_1 ml_RX7_95 ok_mX7_look rfl (by decide) rfl (Nat.le_of_ble_eq_true rfl) (Nat.le_of_ble_eq_true rfl) (Nat.le_refl _) (Nat.le_refl _) rfl (t_X7_look _ L) ?_
            rintro _ ⟨g1, rfl, k1, s1⟩
            refine zx_iload_n (q := 5) dX7_told_4 rfl rfl rfl ?_
            refine zx_tblOut (t := 71) dX7_told_5 (by have z0 := lv_neT (a := 0) (show ¬ nI (10 + j) = 0 from fun z => by rw [show (0 : Int32) = nI 0 from rfl, nI_eq (by omega) (by omega)] at z; omega) (by decide); have z1 := lv_neT (a := 1) (show ¬ nI (10 + j) = 1 from fun z => by rw [show (1 : Int32) = nI 1 from rfl, nI_eq (by omega) (by omega)] at z; omega) (by decide); have z2 := lv_neT (a := 2) (show ¬ nI (10 + j) = 2 from fun z => by rw [show (2 : Int32) = nI 2 from rfl, nI_eq (by omega) (by omega)] at z; omega) (by decide); have z3 := lv_neT (a := 3) (show ¬ nI (10 + j) = 3 from fun z => by rw [show (3 : Int32) = nI 3 from rfl, nI_eq (by omega) (by omega)] at z; omega) (by decide); omega) (by decide) ?_
            refine zx_aload_n (q := 72) dX7_told_71 rfl rfl rfl ?_
            refine zx_iload_n (q := 73) dX7_told_72 rfl rfl rfl ?_
            refine zx_callV1i (q := 76) (y' := mX7_toldByHole) dX7_told_73 ml_RX7_140 ok_mX7_toldByHole rfl (by decide) rfl (Nat.le_of_ble_eq_true rfl) (Nat.le_of_ble_eq_true rfl) (Nat.le_refl _) (Nat.le_refl _) rfl (t_tbh0 _ j L hj k1 s1) ?_
            rintro _ _ ⟨rfl, rfl⟩
            refine zx_iret dX7_told_76 rfl (Nat.le_refl _) (Nat.le_refl _) ⟨_, rfl, ?_⟩
            refine ⟨_, _, _, rfl, ?_⟩
            show zW l D tc A mX8_told (d + 5) 0 0 0 0 0 [some (.ref 108), some (.int (nI (10 + j)))] [] (zs _ _ _) _
            refine zx_aload_n (q := 1) dX8_told_0 rfl rfl rfl ?_
            refine zx_callV0v (q := 4) (y' := mX8_layShows) dX8_told_1 ml_RX8_278 ok_mX8_layShows rfl (by decide) rfl (Nat.le_of_ble_eq_true rfl) (Nat.le_of_ble_eq_true rfl) (Nat.le_refl _) (Nat.le_refl _) rfl (t_X8_layK _ (zLK_fr L (fun k j z => k1 k j (by unfold z_scr at z; omega)) (k1 _ _ (by omega)))) ?_
            rintro _ ⟨g2, rfl, k2, s2⟩
            refine zx_aload_n (q := 5) dX8_told_4 rfl rfl rfl ?_
            refine zx_iload_n (q := 6) dX8_told_5 rfl rfl rfl ?_
            refine zx_bipush (q := 8) (v := 10) dX8_told_6 (by decide) rfl ?_
            refine zx_bipush (q := 10) (v := 12) dX8_told_8 (by decide) rfl ?_
            refine zx_callV3i (q := 13) (y' := mX8_in) dX8_told_10 ml_RX8_200 ok_mX8_in rfl (by decide) rfl (Nat.le_of_ble_eq_true rfl) (Nat.le_of_ble_eq_true rfl) (Nat.le_refl _) (Nat.le_refl _) rfl (t_X8_in _ _ _ _ _) ?_
            rintro _ _ ⟨rfl, rfl⟩
            refine zx_if_eq_f (t := 25) (q := 16) dX8_told_13 (by decide) rfl (zk_t (z_in_at 10 12 _ (by decide) (by decide) (by omega) (by omega))) ?_
            refine zx_aload_n (q := 17) dX8_told_16 rfl rfl rfl ?_
            refine zx_iload_n (q := 18) dX8_told_17 rfl rfl rfl ?_
            refine zx_bipush (q := 20) (v := 10) dX8_told_18 (by decide) rfl ?_
            refine zx_isub (q := 21) dX8_told_20 rfl ?_
            rw [show nI (10 + j) - 10 = nI j from by rw [show (10 : Int32) = nI 10 from rfl, z_subN (by omega)]; congr 1; omega]
            refine zx_callV1i (q := 24) (y' := mX8_ownCount) dX8_told_21 ml_RX8_281 ok_mX8_ownCount rfl (by decide) rfl (Nat.le_of_ble_eq_true rfl) (Nat.le_of_ble_eq_true rfl) (Nat.le_refl _) (Nat.le_refl _) rfl (t_ownL _ j (zLK_fr L (fun k j z => k1 k j (by unfold z_scr at z; omega)) (k1 _ _ (by omega))) (by omega) (by rw [k2 _ _ (by omega), k1 _ _ (by omega)]; exact L.hs2) (fun s => k2 _ _ (by omega)) s2) ?_
            rintro _ _ ⟨rfl, rfl⟩
            refine zx_iret dX8_told_24 rfl (Nat.le_refl _) (Nat.le_refl _) ⟨_, rfl, ?_⟩
            exact ⟨by rw [z_ct_cg (fun k j z => k1 k j (by omega)) L.hns (by omega)], _, _, _, rfl, zRel_scr hR (fun k j z => by first | rfl | (rw [k2 _ _ (by unfold z_scr at z; omega), k1 _ _ (by unfold z_scr at z; omega)]) | (rw [k2 _ _ (by unfold z_scr at z; omega)]) | (rw [k1 _ _ (by unfold z_scr at z; omega)]))⟩
          · by_cases n1 : z_in (a - 20) 0 2 = true
            · obtain ⟨j, hj, rfl⟩ := z_hole (c := 20) n1
              show zW l D tc A mX7_told (d + 5) 0 0 0 0 0 [some (.ref 0), some (.int (nI (20 + j)))] [] (zs gi gl f) _
              refine zx_aload_n (q := 1) dX7_told_0 rfl rfl rfl ?_
              refine zx_callV0v (q := 4) (y' := mX7_look) dX7_told_1 ml_RX7_95 ok_mX7_look rfl (by decide) rfl (Nat.le_of_ble_eq_true rfl) (Nat.le_of_ble_eq_true rfl) (Nat.le_refl _) (Nat.le_refl _) rfl (t_X7_look _ L) ?_
              rintro _ ⟨g1, rfl, k1, s1⟩
              refine zx_iload_n (q := 5) dX7_told_4 rfl rfl rfl ?_
              refine zx_tblOut (t := 71) dX7_told_5 (by have z0 := lv_neT (a := 0) (show ¬ nI (20 + j) = 0 from fun z => by rw [show (0 : Int32) = nI 0 from rfl, nI_eq (by omega) (by omega)] at z; omega) (by decide); have z1 := lv_neT (a := 1) (show ¬ nI (20 + j) = 1 from fun z => by rw [show (1 : Int32) = nI 1 from rfl, nI_eq (by omega) (by omega)] at z; omega) (by decide); have z2 := lv_neT (a := 2) (show ¬ nI (20 + j) = 2 from fun z => by rw [show (2 : Int32) = nI 2 from rfl, nI_eq (by omega) (by omega)] at z; omega) (by decide); have z3 := lv_neT (a := 3) (show ¬ nI (20 + j) = 3 from fun z => by rw [show (3 : Int32) = nI 3 from rfl, nI_eq (by omega) (by omega)] at z; omega) (by decide); omega) (by decide) ?_
              refine zx_aload_n (q := 72) dX7_told_71 rfl rfl rfl ?_
              refine zx_iload_n (q := 73) dX7_told_72 rfl rfl rfl ?_
              refine zx_callV1i (q := 76) (y' := mX7_toldByHole) dX7_told_73 ml_RX7_140 ok_mX7_toldByHole rfl (by decide) rfl (Nat.le_of_ble_eq_true rfl) (Nat.le_of_ble_eq_true rfl) (Nat.le_refl _) (Nat.le_refl _) rfl (t_tbh1 _ j L hj k1 s1) ?_
              rintro _ _ ⟨rfl, rfl⟩
              refine zx_iret dX7_told_76 rfl (Nat.le_refl _) (Nat.le_refl _) ⟨_, rfl, ?_⟩
              refine ⟨_, _, _, rfl, ?_⟩
              show zW l D tc A mX8_told (d + 5) 0 0 0 0 0 [some (.ref 108), some (.int (nI (20 + j)))] [] (zs _ _ _) _
              refine zx_aload_n (q := 1) dX8_told_0 rfl rfl rfl ?_
              refine zx_callV0v (q := 4) (y' := mX8_layShows) dX8_told_1 ml_RX8_278 ok_mX8_layShows rfl (by decide) rfl (Nat.le_of_ble_eq_true rfl) (Nat.le_of_ble_eq_true rfl) (Nat.le_refl _) (Nat.le_refl _) rfl (t_X8_layK _ (zLK_fr L (fun k j z => k1 k j (by unfold z_scr at z; omega)) (k1 _ _ (by omega)))) ?_
              rintro _ ⟨g2, rfl, k2, s2⟩
              refine zx_aload_n (q := 5) dX8_told_4 rfl rfl rfl ?_
              refine zx_iload_n (q := 6) dX8_told_5 rfl rfl rfl ?_
              refine zx_bipush (q := 8) (v := 10) dX8_told_6 (by decide) rfl ?_
              refine zx_bipush (q := 10) (v := 12) dX8_told_8 (by decide) rfl ?_
              refine zx_callV3i (q := 13) (y' := mX8_in) dX8_told_10 ml_RX8_200 ok_mX8_in rfl (by decide) rfl (Nat.le_of_ble_eq_true rfl) (Nat.le_of_ble_eq_true rfl) (Nat.le_refl _) (Nat.le_refl _) rfl (t_X8_in _ _ _ _ _) ?_
              rintro _ _ ⟨rfl, rfl⟩
              refine zx_if_eq_t (t := 25) (q := 16) dX8_told_13 (by decide) rfl (zk_f (z_in_no 10 12 _ (by decide) (by decide) (by omega) (by omega))) ?_
              refine zx_aload_n (q := 26) dX8_told_25 rfl rfl rfl ?_
              refine zx_iload_n (q := 27) dX8_told_26 rfl rfl rfl ?_
              refine zx_bipush (q := 29) (v := 20) dX8_told_27 (by decide) rfl ?_
              refine zx_bipush (q := 31) (v := 22) dX8_told_29 (by decide) rfl ?_
              refine zx_callV3i (q := 34) (y' := mX8_in) dX8_told_31 ml_RX8_200 ok_mX8_in rfl (by decide) rfl (Nat.le_of_ble_eq_true rfl) (Nat.le_of_ble_eq_true rfl) (Nat.le_refl _) (Nat.le_refl _) rfl (t_X8_in _ _ _ _ _) ?_
              rintro _ _ ⟨rfl, rfl⟩
              refine zx_if_eq_f (t := 46) (q := 37) dX8_told_34 (by decide) rfl (zk_t (z_in_at 20 22 _ (by decide) (by decide) (by omega) (by omega))) ?_
              refine zx_aload_n (q := 38) dX8_told_37 rfl rfl rfl ?_
              refine zx_iload_n (q := 39) dX8_told_38 rfl rfl rfl ?_
              refine zx_bipush (q := 41) (v := 20) dX8_told_39 (by decide) rfl ?_
              refine zx_isub (q := 42) dX8_told_41 rfl ?_
              rw [show nI (20 + j) - 20 = nI j from by rw [show (20 : Int32) = nI 20 from rfl, z_subN (by omega)]; congr 1; omega]
              refine zx_callV1i (q := 45) (y' := mX8_secondCount) dX8_told_42 ml_RX8_284 ok_mX8_secondCount rfl (by decide) rfl (Nat.le_of_ble_eq_true rfl) (Nat.le_of_ble_eq_true rfl) (Nat.le_refl _) (Nat.le_refl _) rfl (t_secL _ j (zLK_fr L (fun k j z => k1 k j (by unfold z_scr at z; omega)) (k1 _ _ (by omega))) (by omega) (by rw [k2 _ _ (by omega), k1 _ _ (by omega)]; exact L.hs2) (fun s => k2 _ _ (by omega)) s2) ?_
              rintro _ _ ⟨rfl, rfl⟩
              refine zx_iret dX8_told_45 rfl (Nat.le_refl _) (Nat.le_refl _) ⟨_, rfl, ?_⟩
              exact ⟨by rw [z_ct_cg (fun k j z => k1 k j (by omega)) L.hns (by omega)], _, _, _, rfl, zRel_scr hR (fun k j z => by first | rfl | (rw [k2 _ _ (by unfold z_scr at z; omega), k1 _ _ (by unfold z_scr at z; omega)]) | (rw [k2 _ _ (by unfold z_scr at z; omega)]) | (rw [k1 _ _ (by unfold z_scr at z; omega)]))⟩
            · by_cases n2 : z_in (a - 30) 0 2 = true
              · obtain ⟨j, hj, rfl⟩ := z_hole (c := 30) n2
                have ht : gi 17 j = gi 116 j ∧ z_rg (-1) 999 (gi 116 j) := L.hT j (by omega)
                show zW l D tc A mX7_told (d + 5) 0 0 0 0 0 [some (.ref 0), some (.int (nI (30 + j)))] [] (zs gi gl f) _
                refine zx_aload_n (q := 1) dX7_told_0 rfl rfl rfl ?_
                refine zx_callV0v (q := 4) (y' := mX7_look) dX7_told_1 ml_RX7_95 ok_mX7_look rfl (by decide) rfl (Nat.le_of_ble_eq_true rfl) (Nat.le_of_ble_eq_true rfl) (Nat.le_refl _) (Nat.le_refl _) rfl (t_X7_look _ L) ?_
                rintro _ ⟨g1, rfl, k1, s1⟩
                refine zx_iload_n (q := 5) dX7_told_4 rfl rfl rfl ?_
                refine zx_tblOut (t := 71) dX7_told_5 (by have z0 := lv_neT (a := 0) (show ¬ nI (30 + j) = 0 from fun z => by rw [show (0 : Int32) = nI 0 from rfl, nI_eq (by omega) (by omega)] at z; omega) (by decide); have z1 := lv_neT (a := 1) (show ¬ nI (30 + j) = 1 from fun z => by rw [show (1 : Int32) = nI 1 from rfl, nI_eq (by omega) (by omega)] at z; omega) (by decide); have z2 := lv_neT (a := 2) (show ¬ nI (30 + j) = 2 from fun z => by rw [show (2 : Int32) = nI 2 from rfl, nI_eq (by omega) (by omega)] at z; omega) (by decide); have z3 := lv_neT (a := 3) (show ¬ nI (30 + j) = 3 from fun z => by rw [show (3 : Int32) = nI 3 from rfl, nI_eq (by omega) (by omega)] at z; omega) (by decide); omega) (by decide) ?_
                refine zx_aload_n (q := 72) dX7_told_71 rfl rfl rfl ?_
                refine zx_iload_n (q := 73) dX7_told_72 rfl rfl rfl ?_
                refine zx_callV1i (q := 76) (y' := mX7_toldByHole) dX7_told_73 ml_RX7_140 ok_mX7_toldByHole rfl (by decide) rfl (Nat.le_of_ble_eq_true rfl) (Nat.le_of_ble_eq_true rfl) (Nat.le_refl _) (Nat.le_refl _) rfl (t_tbh2 _ j L hj k1 s1) ?_
                rintro _ _ ⟨rfl, rfl⟩
                refine zx_iret dX7_told_76 rfl (Nat.le_refl _) (Nat.le_refl _) ⟨_, rfl, ?_⟩
                refine ⟨_, _, _, rfl, ?_⟩
                show zW l D tc A mX8_told (d + 5) 0 0 0 0 0 [some (.ref 108), some (.int (nI (30 + j)))] [] (zs _ _ _) _
                refine zx_aload_n (q := 1) dX8_told_0 rfl rfl rfl ?_
                refine zx_callV0v (q := 4) (y' := mX8_layShows) dX8_told_1 ml_RX8_278 ok_mX8_layShows rfl (by decide) rfl (Nat.le_of_ble_eq_true rfl) (Nat.le_of_ble_eq_true rfl) (Nat.le_refl _) (Nat.le_refl _) rfl (t_X8_layK _ (zLK_fr L (fun k j z => k1 k j (by unfold z_scr at z; omega)) (k1 _ _ (by omega)))) ?_
                rintro _ ⟨g2, rfl, k2, s2⟩
                refine zx_aload_n (q := 5) dX8_told_4 rfl rfl rfl ?_
                refine zx_iload_n (q := 6) dX8_told_5 rfl rfl rfl ?_
                refine zx_bipush (q := 8) (v := 10) dX8_told_6 (by decide) rfl ?_
                refine zx_bipush (q := 10) (v := 12) dX8_told_8 (by decide) rfl ?_
                refine zx_callV3i (q := 13) (y' := mX8_in) dX8_told_10 ml_RX8_200 ok_mX8_in rfl (by decide) rfl (Nat.le_of_ble_eq_true rfl) (Nat.le_of_ble_eq_true rfl) (Nat.le_refl _) (Nat.le_refl _) rfl (t_X8_in _ _ _ _ _) ?_
                rintro _ _ ⟨rfl, rfl⟩
                refine zx_if_eq_t (t := 25) (q := 16) dX8_told_13 (by decide) rfl (zk_f (z_in_no 10 12 _ (by decide) (by decide) (by omega) (by omega))) ?_
                refine zx_aload_n (q := 26) dX8_told_25 rfl rfl rfl ?_
                refine zx_iload_n (q := 27) dX8_told_26 rfl rfl rfl ?_
                refine zx_bipush (q := 29) (v := 20) dX8_told_27 (by decide) rfl ?_
                refine zx_bipush (q := 31) (v := 22) dX8_told_29 (by decide) rfl ?_
                refine zx_callV3i (q := 34) (y' := mX8_in) dX8_told_31 ml_RX8_200 ok_mX8_in rfl (by decide) rfl (Nat.le_of_ble_eq_true rfl) (Nat.le_of_ble_eq_true rfl) (Nat.le_refl _) (Nat.le_refl _) rfl (t_X8_in _ _ _ _ _) ?_
                rintro _ _ ⟨rfl, rfl⟩
                refine zx_if_eq_t (t := 46) (q := 37) dX8_told_34 (by decide) rfl (zk_f (z_in_no 20 22 _ (by decide) (by decide) (by omega) (by omega))) ?_
                refine zx_aload_n (q := 47) dX8_told_46 rfl rfl rfl ?_
                refine zx_iload_n (q := 48) dX8_told_47 rfl rfl rfl ?_
                refine zx_bipush (q := 50) (v := 30) dX8_told_48 (by decide) rfl ?_
                refine zx_bipush (q := 52) (v := 32) dX8_told_50 (by decide) rfl ?_
                refine zx_callV3i (q := 55) (y' := mX8_in) dX8_told_52 ml_RX8_200 ok_mX8_in rfl (by decide) rfl (Nat.le_of_ble_eq_true rfl) (Nat.le_of_ble_eq_true rfl) (Nat.le_refl _) (Nat.le_refl _) rfl (t_X8_in _ _ _ _ _) ?_
                rintro _ _ ⟨rfl, rfl⟩
                refine zx_if_eq_f (t := 85) (q := 58) dX8_told_55 (by decide) rfl (zk_t (z_in_at 30 32 _ (by decide) (by decide) (by omega) (by omega))) ?_
                refine zx_aload_n (q := 59) dX8_told_58 rfl rfl rfl ?_
                refine zy_getR (q := 62) dX8_told_59 fl_RX8_38 rfl rfl rfl rfl ?_
                refine zx_iload_n (q := 63) dX8_told_62 rfl rfl rfl ?_
                refine zx_bipush (q := 65) (v := 30) dX8_told_63 (by decide) rfl ?_
                refine zx_isub (q := 66) dX8_told_65 rfl ?_
                rw [show nI (30 + j) - 30 = nI j from by rw [show (30 : Int32) = nI 30 from rfl, z_subN (by omega)]; congr 1; omega]
                refine zy_ialdN (q := 67) dX8_told_66 rfl (by omega) (by first | decide | omega) rfl ?_
                rw [k2 _ _ (by omega), k1 _ _ (by omega), ← ht.1]
                refine zx_if_ge (q := 70) (t := 75) dX8_told_67 (by decide) rfl (fun e_67 => ?_) (fun e_67 => ?_)
                · have ef : (if gi 17 j = -1 then (-5 : Int32) else gi 17 j) = gi 17 j := if_neg (fun z => by rw [z] at e_67; exact absurd e_67 (by decide))
                  refine zx_aload_n (q := 76) dX8_told_75 rfl rfl rfl ?_
                  refine zy_getR (q := 79) dX8_told_76 fl_RX8_38 rfl rfl rfl rfl ?_
                  refine zx_iload_n (q := 80) dX8_told_79 rfl rfl rfl ?_
                  refine zx_bipush (q := 82) (v := 30) dX8_told_80 (by decide) rfl ?_
                  refine zx_isub (q := 83) dX8_told_82 rfl ?_
                  rw [show nI (30 + j) - 30 = nI j from by rw [show (30 : Int32) = nI 30 from rfl, z_subN (by omega)]; congr 1; omega]
                  refine zy_ialdN (q := 84) dX8_told_83 rfl (by omega) (by first | decide | omega) rfl ?_
                  (try rw [k2 _ j (by omega), k1 _ j (by omega), ← ht.1])
                  refine zx_iret dX8_told_84 rfl (Nat.le_refl _) (Nat.le_refl _) ⟨_, rfl, ?_⟩
                  exact ⟨ef.symm, _, _, _, rfl, zRel_scr hR (fun k j z => by first | rfl | (rw [k2 _ _ (by unfold z_scr at z; omega), k1 _ _ (by unfold z_scr at z; omega)]) | (rw [k2 _ _ (by unfold z_scr at z; omega)]) | (rw [k1 _ _ (by unfold z_scr at z; omega)]))⟩
                · have ef : (if gi 17 j = -1 then (-5 : Int32) else gi 17 j) = -5 := if_pos (by have h9 := ht.2.1; have h8 : ¬ 0 ≤ (gi 17 j).toInt := fun z => e_67 (by rw [Int32.le_iff_toInt_le]; exact z); rw [← ht.1] at h9; rw [z_eqI, z_m1]; omega)
                  refine zx_bipush (q := 72) (v := (-5)) dX8_told_70 (by decide) rfl ?_
                  refine zx_goto (t := 84) dX8_told_72 (by decide) ?_
                  (try rw [k2 _ j (by omega), k1 _ j (by omega), ← ht.1])
                  refine zx_iret dX8_told_84 rfl (Nat.le_refl _) (Nat.le_refl _) ⟨_, rfl, ?_⟩
                  exact ⟨ef.symm, _, _, _, rfl, zRel_scr hR (fun k j z => by first | rfl | (rw [k2 _ _ (by unfold z_scr at z; omega), k1 _ _ (by unfold z_scr at z; omega)]) | (rw [k2 _ _ (by unfold z_scr at z; omega)]) | (rw [k1 _ _ (by unfold z_scr at z; omega)]))⟩
              · show zW l D tc A mX7_told (d + 5) 0 0 0 0 0 [some (.ref 0), some (.int a)] [] (zs gi gl f) _
                refine zx_aload_n (q := 1) dX7_told_0 rfl rfl rfl ?_
                refine zx_callV0v (q := 4) (y' := mX7_look) dX7_told_1 ml_RX7_95 ok_mX7_look rfl (by decide) rfl (Nat.le_of_ble_eq_true rfl) (Nat.le_of_ble_eq_true rfl) (Nat.le_refl _) (Nat.le_refl _) rfl (t_X7_look _ L) ?_
                rintro _ ⟨g1, rfl, k1, s1⟩
                refine zx_iload_n (q := 5) dX7_told_4 rfl rfl rfl ?_
                refine zx_tblOut (t := 71) dX7_told_5 (by have z0 := lv_neT (a := 0) h0 (by decide); have z1 := lv_neT (a := 1) h1 (by decide); have z2 := lv_neT (a := 2) h2 (by decide); have z3 := lv_neT (a := 3) h3 (by decide); omega) (by decide) ?_
                refine zx_aload_n (q := 72) dX7_told_71 rfl rfl rfl ?_
                refine zx_iload_n (q := 73) dX7_told_72 rfl rfl rfl ?_
                refine zx_callV1i (q := 76) (y' := mX7_toldByHole) dX7_told_73 ml_RX7_140 ok_mX7_toldByHole rfl (by decide) rfl (Nat.le_of_ble_eq_true rfl) (Nat.le_of_ble_eq_true rfl) (Nat.le_refl _) (Nat.le_refl _) rfl (t_tbh3 _ a n0 n1 n2) ?_
                rintro _ _ ⟨rfl, rfl⟩
                refine zx_iret dX7_told_76 rfl (Nat.le_refl _) (Nat.le_refl _) ⟨_, rfl, ?_⟩
                refine ⟨_, _, _, rfl, ?_⟩
                show zW l D tc A mX8_told (d + 5) 0 0 0 0 0 [some (.ref 108), some (.int a)] [] (zs _ _ _) _
                refine zx_aload_n (q := 1) dX8_told_0 rfl rfl rfl ?_
                refine zx_callV0v (q := 4) (y' := mX8_layShows) dX8_told_1 ml_RX8_278 ok_mX8_layShows rfl (by decide) rfl (Nat.le_of_ble_eq_true rfl) (Nat.le_of_ble_eq_true rfl) (Nat.le_refl _) (Nat.le_refl _) rfl (t_X8_layK _ (zLK_fr L (fun k j z => k1 k j (by unfold z_scr at z; omega)) (k1 _ _ (by omega)))) ?_
                rintro _ ⟨g2, rfl, k2, s2⟩
                refine zx_aload_n (q := 5) dX8_told_4 rfl rfl rfl ?_
                refine zx_iload_n (q := 6) dX8_told_5 rfl rfl rfl ?_
                refine zx_bipush (q := 8) (v := 10) dX8_told_6 (by decide) rfl ?_
                refine zx_bipush (q := 10) (v := 12) dX8_told_8 (by decide) rfl ?_
                refine zx_callV3i (q := 13) (y' := mX8_in) dX8_told_10 ml_RX8_200 ok_mX8_in rfl (by decide) rfl (Nat.le_of_ble_eq_true rfl) (Nat.le_of_ble_eq_true rfl) (Nat.le_refl _) (Nat.le_refl _) rfl (t_X8_in _ _ _ _ _) ?_
                rintro _ _ ⟨rfl, rfl⟩
                refine zx_if_eq_t (t := 25) (q := 16) dX8_told_13 (by decide) rfl (zk_f (z_not_in (c := 10) (by decide) (by decide) n0)) ?_
                refine zx_aload_n (q := 26) dX8_told_25 rfl rfl rfl ?_
                refine zx_iload_n (q := 27) dX8_told_26 rfl rfl rfl ?_
                refine zx_bipush (q := 29) (v := 20) dX8_told_27 (by decide) rfl ?_
                refine zx_bipush (q := 31) (v := 22) dX8_told_29 (by decide) rfl ?_
                refine zx_callV3i (q := 34) (y' := mX8_in) dX8_told_31 ml_RX8_200 ok_mX8_in rfl (by decide) rfl (Nat.le_of_ble_eq_true rfl) (Nat.le_of_ble_eq_true rfl) (Nat.le_refl _) (Nat.le_refl _) rfl (t_X8_in _ _ _ _ _) ?_
                rintro _ _ ⟨rfl, rfl⟩
                refine zx_if_eq_t (t := 46) (q := 37) dX8_told_34 (by decide) rfl (zk_f (z_not_in (c := 20) (by decide) (by decide) n1)) ?_
                refine zx_aload_n (q := 47) dX8_told_46 rfl rfl rfl ?_
                refine zx_iload_n (q := 48) dX8_told_47 rfl rfl rfl ?_
                refine zx_bipush (q := 50) (v := 30) dX8_told_48 (by decide) rfl ?_
                refine zx_bipush (q := 52) (v := 32) dX8_told_50 (by decide) rfl ?_
                refine zx_callV3i (q := 55) (y' := mX8_in) dX8_told_52 ml_RX8_200 ok_mX8_in rfl (by decide) rfl (Nat.le_of_ble_eq_true rfl) (Nat.le_of_ble_eq_true rfl) (Nat.le_refl _) (Nat.le_refl _) rfl (t_X8_in _ _ _ _ _) ?_
                rintro _ _ ⟨rfl, rfl⟩
                refine zx_if_eq_t (t := 85) (q := 58) dX8_told_55 (by decide) rfl (zk_f (z_not_in (c := 30) (by decide) (by decide) n2)) ?_
                refine zx_iload_n (q := 86) dX8_told_85 rfl rfl rfl ?_
                refine zx_tblOut (t := 136) dX8_told_86 (by have z0 := lv_neT (a := 0) h0 (by decide); have z1 := lv_neT (a := 1) h1 (by decide); have z2 := lv_neT (a := 2) h2 (by decide); have z3 := lv_neT (a := 3) h3 (by decide); omega) (by decide) ?_
                refine zx_sipush (q := 139) (v := (-1001)) dX8_told_136 (by decide) rfl ?_
                refine zx_iret dX8_told_139 rfl (Nat.le_refl _) (Nat.le_refl _) ⟨_, rfl, ?_⟩
                exact ⟨rfl, _, _, _, rfl, zRel_scr hR (fun k j z => by first | rfl | (rw [k2 _ _ (by unfold z_scr at z; omega), k1 _ _ (by unfold z_scr at z; omega)]) | (rw [k2 _ _ (by unfold z_scr at z; omega)]) | (rw [k1 _ _ (by unfold z_scr at z; omega)]))⟩
end P36
