section P16
variable {l : Launch} {D : va_G} {tc : Nat → ClassId} {A : Nat → Prop} {S : zw_S} {gi : Nat → Nat → Int32} {gl : Nat → Nat → Int64} {f : Option Nat}
theorem z_rel_herd0 (h : zRel gi gl) {ns s : Nat} (hns : gi 1 0 = nI ns) (hn5 : ns ≤ 5) (hs : s < ns) {x : Int32} (hx : z_rg 0 12 x) : zRel (zw_u (zw_u gi 15 s x) 113 s x) gl := by
  refine zRel_now h (fun nf hnf hN => ?_) (fun k i a b c e => by rw [z_u_ne _ _ (by omega), z_u_ne _ _ (by omega)])
  obtain ⟨ns', nb, mm, h0, h1, h2, h3, h4, h5, h6, h7, h8⟩ := hN
  have en : ns' = ns := (nI_eq (by omega) (by omega)).mp (h1.1.symm.trans hns)
  subst en
  refine ⟨ns', nb, mm, h0, h1, h2, h3, h4, fun i hi => ?_, fun i hi hi2 => ?_, zSTt_congr h7 (fun i => by rw [z_u_ne _ _ (by omega), z_u_ne _ _ (by omega)]) (fun i => by rw [z_u_ne _ _ (by omega), z_u_ne _ _ (by omega)]), zSTb_congr h8 (fun i => ⟨by rw [z_u_ne _ _ (by omega), z_u_ne _ _ (by omega)], by rw [z_u_ne _ _ (by omega), z_u_ne _ _ (by omega)]⟩) (fun i => ⟨by rw [z_u_ne _ _ (by omega), z_u_ne _ _ (by omega)], by rw [z_u_ne _ _ (by omega), z_u_ne _ _ (by omega)]⟩)⟩
  · obtain ⟨g1, g2, g3, g4, g5, g6, g7⟩ := h5 i hi
    refine ⟨by rw [z_u_ne _ _ (by omega), z_u_ne _ _ (by omega), z_u_ne _ _ (by omega), z_u_ne _ _ (by omega)]; exact g1, by rw [z_u_ne _ _ (by omega), z_u_ne _ _ (by omega), z_u_ne _ _ (by omega), z_u_ne _ _ (by omega)]; exact g2, fun j hj => by rw [z_u_ne _ _ (by omega), z_u_ne _ _ (by omega), z_u_ne _ _ (by omega), z_u_ne _ _ (by omega)]; exact g3 j hj, by rw [z_u_ne _ _ (by omega), z_u_ne _ _ (by omega), z_u_ne _ _ (by omega), z_u_ne _ _ (by omega)]; exact g4, ?_, ?_, fun j hj => by rw [z_u_ne _ _ (by omega), z_u_ne _ _ (by omega), z_u_ne _ _ (by omega), z_u_ne _ _ (by omega)]; exact g7 j hj⟩
    · by_cases e : i = s
      · subst e
        rw [z_u_ne _ _ (by omega), show (1 + 14 : Nat) = 15 from rfl, z_u_at, z_u_at]
        exact ⟨rfl, hx⟩
      · rw [z_u_ne _ _ (by omega), z_u_ne _ _ (by omega), z_u_ne _ _ (by omega), z_u_ne _ _ (by omega)]
        exact g5
    · rw [z_u_ne _ _ (by omega), z_u_ne _ _ (by omega), z_u_ne _ _ (by omega), z_u_ne _ _ (by omega)]; exact g6
  · obtain ⟨g1, g2, g3⟩ := h6 i hi hi2
    exact ⟨by rw [z_u_ne _ _ (by omega), z_u_ne _ _ (by omega)]; exact g1, by rw [z_u_ne _ _ (by omega), z_u_ne _ _ (by omega)]; exact g2, fun j hj => by rw [z_u_ne _ _ (by omega), z_u_ne _ _ (by omega)]; exact g3 j hj⟩
theorem z_rel_herd1 (h : zRel gi gl) {ns s : Nat} (hns : gi 1 0 = nI ns) (hn5 : ns ≤ 5) (hs : s < ns) {x : Int32} (hx : z_rg 0 12 x) : zRel (zw_u (zw_u gi 16 s x) 114 s x) gl := by
  refine zRel_now h (fun nf hnf hN => ?_) (fun k i a b c e => by rw [z_u_ne _ _ (by omega), z_u_ne _ _ (by omega)])
  obtain ⟨ns', nb, mm, h0, h1, h2, h3, h4, h5, h6, h7, h8⟩ := hN
  have en : ns' = ns := (nI_eq (by omega) (by omega)).mp (h1.1.symm.trans hns)
  subst en
  refine ⟨ns', nb, mm, h0, h1, h2, h3, h4, fun i hi => ?_, fun i hi hi2 => ?_, zSTt_congr h7 (fun i => by rw [z_u_ne _ _ (by omega), z_u_ne _ _ (by omega)]) (fun i => by rw [z_u_ne _ _ (by omega), z_u_ne _ _ (by omega)]), zSTb_congr h8 (fun i => ⟨by rw [z_u_ne _ _ (by omega), z_u_ne _ _ (by omega)], by rw [z_u_ne _ _ (by omega), z_u_ne _ _ (by omega)]⟩) (fun i => ⟨by rw [z_u_ne _ _ (by omega), z_u_ne _ _ (by omega)], by rw [z_u_ne _ _ (by omega), z_u_ne _ _ (by omega)]⟩)⟩
  · obtain ⟨g1, g2, g3, g4, g5, g6, g7⟩ := h5 i hi
    refine ⟨by rw [z_u_ne _ _ (by omega), z_u_ne _ _ (by omega), z_u_ne _ _ (by omega), z_u_ne _ _ (by omega)]; exact g1, by rw [z_u_ne _ _ (by omega), z_u_ne _ _ (by omega), z_u_ne _ _ (by omega), z_u_ne _ _ (by omega)]; exact g2, fun j hj => by rw [z_u_ne _ _ (by omega), z_u_ne _ _ (by omega), z_u_ne _ _ (by omega), z_u_ne _ _ (by omega)]; exact g3 j hj, by rw [z_u_ne _ _ (by omega), z_u_ne _ _ (by omega), z_u_ne _ _ (by omega), z_u_ne _ _ (by omega)]; exact g4, ?_, ?_, fun j hj => by rw [z_u_ne _ _ (by omega), z_u_ne _ _ (by omega), z_u_ne _ _ (by omega), z_u_ne _ _ (by omega)]; exact g7 j hj⟩
    · rw [z_u_ne _ _ (by omega), z_u_ne _ _ (by omega), z_u_ne _ _ (by omega), z_u_ne _ _ (by omega)]; exact g5
    · by_cases e : i = s
      · subst e
        rw [z_u_ne _ _ (by omega), show (1 + 15 : Nat) = 16 from rfl, z_u_at, z_u_at]
        exact ⟨rfl, hx⟩
      · rw [z_u_ne _ _ (by omega), z_u_ne _ _ (by omega), z_u_ne _ _ (by omega), z_u_ne _ _ (by omega)]
        exact g6
  · obtain ⟨g1, g2, g3⟩ := h6 i hi hi2
    exact ⟨by rw [z_u_ne _ _ (by omega), z_u_ne _ _ (by omega)]; exact g1, by rw [z_u_ne _ _ (by omega), z_u_ne _ _ (by omega)]; exact g2, fun j hj => by rw [z_u_ne _ _ (by omega), z_u_ne _ _ (by omega)]; exact g3 j hj⟩
theorem z_rel_row (h : zRel gi gl) {ns s j : Nat} (hns : gi 1 0 = nI ns) (hn5 : ns ≤ 5) (hs : s < ns) (hj : j < 3) {x : Int32} (hx : z_rg 0 9 x) : zRel (zw_u (zw_u gi (9 + s) j x) 115 (3 * s + j) x) gl := by
  refine zRel_now h (fun nf hnf hN => ?_) (fun k i a b c e => by rw [z_u_ne _ _ (by omega), z_u_ne _ _ (by omega)])
  obtain ⟨ns', nb, mm, h0, h1, h2, h3, h4, h5, h6, h7, h8⟩ := hN
  have en : ns' = ns := (nI_eq (by omega) (by omega)).mp (h1.1.symm.trans hns)
  subst en
  refine ⟨ns', nb, mm, h0, by rw [z_u_ne _ _ (by omega), z_u_ne _ _ (by omega), z_u_ne _ _ (by omega), z_u_ne _ _ (by omega)]; exact h1, by rw [z_u_ne _ _ (by omega), z_u_ne _ _ (by omega), z_u_ne _ _ (by omega), z_u_ne _ _ (by omega)]; exact h2, by rw [z_u_ne _ _ (by omega), z_u_ne _ _ (by omega), z_u_ne _ _ (by omega), z_u_ne _ _ (by omega)]; exact h3, by rw [z_u_ne _ _ (by omega), z_u_ne _ _ (by omega), z_u_ne _ _ (by omega), z_u_ne _ _ (by omega)]; exact h4, fun i hi => ?_, fun i hi hi2 => ?_, zSTt_congr h7 (fun i => by rw [z_u_ne _ _ (by omega), z_u_ne _ _ (by omega)]) (fun i => by rw [z_u_ne _ _ (by omega), z_u_ne _ _ (by omega)]), zSTb_congr h8 (fun i => ⟨by rw [z_u_ne _ _ (by omega), z_u_ne _ _ (by omega)], by rw [z_u_ne _ _ (by omega), z_u_ne _ _ (by omega)]⟩) (fun i => ⟨by rw [z_u_ne _ _ (by omega), z_u_ne _ _ (by omega)], by rw [z_u_ne _ _ (by omega), z_u_ne _ _ (by omega)]⟩)⟩
  · obtain ⟨g1, g2, g3, g4, g5, g6, g7⟩ := h5 i hi
    refine ⟨by rw [z_u_ne _ _ (by omega), z_u_ne _ _ (by omega), z_u_ne _ _ (by omega), z_u_ne _ _ (by omega)]; exact g1, by rw [z_u_ne _ _ (by omega), z_u_ne _ _ (by omega), z_u_ne _ _ (by omega), z_u_ne _ _ (by omega)]; exact g2, fun j hj => by rw [z_u_ne _ _ (by omega), z_u_ne _ _ (by omega), z_u_ne _ _ (by omega), z_u_ne _ _ (by omega)]; exact g3 j hj, by rw [z_u_ne _ _ (by omega), z_u_ne _ _ (by omega), z_u_ne _ _ (by omega), z_u_ne _ _ (by omega)]; exact g4, by rw [z_u_ne _ _ (by omega), z_u_ne _ _ (by omega), z_u_ne _ _ (by omega), z_u_ne _ _ (by omega)]; exact g5, by rw [z_u_ne _ _ (by omega), z_u_ne _ _ (by omega), z_u_ne _ _ (by omega), z_u_ne _ _ (by omega)]; exact g6, fun q hq => ?_⟩
    by_cases e : i = s ∧ q = j
    · obtain ⟨e1, e2⟩ := e
      subst e1
      subst e2
      rw [z_u_ne _ _ (by omega), show (1 + 8 + i : Nat) = 9 + i by omega, z_u_at, z_u_at]
      exact ⟨rfl, hx⟩
    · rw [z_u_ne _ _ (by omega), z_u_ne _ _ (by omega), z_u_ne _ _ (by omega), z_u_ne _ _ (by omega)]
      exact g7 q hq
  · obtain ⟨g1, g2, g3⟩ := h6 i hi hi2
    exact ⟨by rw [z_u_ne _ _ (by omega), z_u_ne _ _ (by omega)]; exact g1, by rw [z_u_ne _ _ (by omega), z_u_ne _ _ (by omega)]; exact g2, fun j hj => by rw [z_u_ne _ _ (by omega), z_u_ne _ _ (by omega)]; exact g3 j hj⟩
set_option maxHeartbeats 4000000 in
theorem op_herd (d : Nat) (a : Int32) (b : Int32) (c : Int32) (hR : zRel gi gl) : zOpI l D tc A mX7_herd mX8_herd (d + 2) [.int a, .int b, .int c] gi gl f := by
  obtain ⟨nf, ⟨hf0, hf1, hf2⟩, ⟨ns, nb, mm, ⟨hns, hnb, hmm⟩, ⟨hs1, hs2⟩, ⟨hm1, hm2⟩, ⟨hb1, hb2⟩, ⟨hx1, hx2⟩, hSs, hSn, hSt, hSb⟩, ⟨him, hik⟩, ⟨len, hlen, ht1, ht2, ht3⟩, ⟨ra, hra, ha1, ha2, ha3⟩, hTP, ho, hF, hLt⟩ := id hR
  by_cases h1 : z_in a 0 (nI ns - 1) = true
  · obtain ⟨s, hs, rfl⟩ := z_inU hns h1
    by_cases h2 : z_in b 0 1 = true
    · obtain ⟨w, hw, rfl⟩ := z_inT 1 (by decide) h2
      by_cases h3 : z_in c 0 12 = true
      · rcases (by omega : w = 0 ∨ w = 1) with h4 | h4 <;> subst h4
        · show zW l D tc A mX7_herd (d + 2) 0 0 0 0 0 [some (.ref 0), some (.int (nI s)), some (.int (nI 0)), some (.int c), none] [] (zs gi gl f) _
          refine zx_aload_n (q := 1) dX7_herd_0 rfl rfl rfl ?_
          refine zx_iload_n (q := 2) dX7_herd_1 rfl rfl rfl ?_
          refine zx_callV1i (q := 5) (y' := mX7_isSort) dX7_herd_2 ml_RX7_89 ok_mX7_isSort rfl (by decide) rfl (Nat.le_of_ble_eq_true rfl) (Nat.le_of_ble_eq_true rfl) (Nat.le_refl _) (Nat.le_refl _) rfl (t_X7_isSort _ _) ?_
          rintro _ _ ⟨rfl, rfl⟩
          refine zx_if_eq_f (t := 17) (q := 8) dX7_herd_5 (by decide) rfl (zk_t (by show z_in (nI s) 0 (gi 1 0 - 1) = true; rw [hs1]; exact z_inS_at hns hs)) ?_
          refine zx_iload_n (q := 9) dX7_herd_8 rfl rfl rfl ?_
          refine zx_iconst (q := 10) (v := 0) dX7_herd_9 (by decide) rfl ?_
          refine zx_iconst (q := 11) (v := 1) dX7_herd_10 (by decide) rfl ?_
          refine zx_callS3i (q := 14) (y' := mX7_within) dX7_herd_11 ml_RX7_73 ok_mX7_within (Nat.le_of_ble_eq_true rfl) (Nat.le_of_ble_eq_true rfl) (Nat.le_refl _) (Nat.le_refl _) rfl (t_X7_within _ _ _ _) ?_
          rintro _ _ ⟨rfl, rfl⟩
          refine zx_if_ne_t (t := 19) (q := 17) dX7_herd_14 (by decide) rfl (by decide) ?_
          refine zx_iload_n (q := 20) dX7_herd_19 rfl rfl rfl ?_
          refine zx_iconst (q := 21) (v := 0) dX7_herd_20 (by decide) rfl ?_
          refine zx_bipush (q := 23) (v := 12) dX7_herd_21 (by decide) rfl ?_
          refine zx_callS3i (q := 26) (y' := mX7_within) dX7_herd_23 ml_RX7_73 ok_mX7_within (Nat.le_of_ble_eq_true rfl) (Nat.le_of_ble_eq_true rfl) (Nat.le_refl _) (Nat.le_refl _) rfl (t_X7_within _ _ _ _) ?_
          rintro _ _ ⟨rfl, rfl⟩
          refine zx_if_ne_t (t := 32) (q := 29) dX7_herd_26 (by decide) rfl (zk_t h3) ?_
          refine zx_aload_n (q := 33) dX7_herd_32 rfl rfl rfl ?_
          refine zy_getR (q := 36) dX7_herd_33 fl_RX7_12 rfl rfl rfl rfl ?_
          refine zy_getR (q := 39) dX7_herd_36 fl_RX7_92 rfl rfl rfl rfl ?_
          refine zx_iload_n (q := 40) dX7_herd_39 rfl rfl rfl ?_
          refine zy_aaldN (q := 41) dX7_herd_40 rfl (by decide) (i := 0) (by omega) (by decide) rfl rfl ?_
          refine zx_iload_n (q := 42) dX7_herd_41 rfl rfl rfl ?_
          refine zy_ialdN (q := 43) dX7_herd_42 rfl (by omega) (by first | decide | omega) rfl ?_
          refine zx_istore4 (q := 45) dX7_herd_43 rfl rfl ?_
          refine zx_aload_n (q := 46) dX7_herd_45 rfl rfl rfl ?_
          refine zy_getR (q := 49) dX7_herd_46 fl_RX7_12 rfl rfl rfl rfl ?_
          refine zy_getR (q := 52) dX7_herd_49 fl_RX7_92 rfl rfl rfl rfl ?_
          refine zx_iload_n (q := 53) dX7_herd_52 rfl rfl rfl ?_
          refine zy_aaldN (q := 54) dX7_herd_53 rfl (by decide) (i := 0) (by omega) (by decide) rfl rfl ?_
          refine zx_iload_n (q := 55) dX7_herd_54 rfl rfl rfl ?_
          refine zx_iload_n (q := 56) dX7_herd_55 rfl rfl rfl ?_
          refine zy_iastN (q := 57) dX7_herd_56 rfl (by omega) (by first | decide | omega) rfl ?_
          refine zx_iload (q := 59) dX7_herd_57 rfl rfl ?_
          refine zx_iret dX7_herd_59 rfl (Nat.le_refl _) (Nat.le_refl _) ⟨_, rfl, ?_⟩
          refine ⟨_, _, _, rfl, ?_⟩
          show zW l D tc A mX8_herd (d + 2) 0 0 0 0 0 [some (.ref 108), some (.int (nI s)), some (.int (nI 0)), some (.int c), none] [] (zs _ _ _) _
          refine zx_aload_n (q := 1) dX8_herd_0 rfl rfl rfl ?_
          refine zx_iload_n (q := 2) dX8_herd_1 rfl rfl rfl ?_
          refine zx_callV1i (q := 5) (y' := mX8_isSort) dX8_herd_2 ml_RX8_208 ok_mX8_isSort rfl (by decide) rfl (Nat.le_of_ble_eq_true rfl) (Nat.le_of_ble_eq_true rfl) (Nat.le_refl _) (Nat.le_refl _) rfl (t_X8_isSort _ _) ?_
          rintro _ _ ⟨rfl, rfl⟩
          refine zx_if_eq_f (t := 18) (q := 8) dX8_herd_5 (by decide) rfl (zk_t (by show z_in (nI s) 0 (gi 108 0 - 1) = true; rw [hs2]; exact z_inS_at hns hs)) ?_
          refine zx_aload_n (q := 9) dX8_herd_8 rfl rfl rfl ?_
          refine zx_iload_n (q := 10) dX8_herd_9 rfl rfl rfl ?_
          refine zx_iconst (q := 11) (v := 0) dX8_herd_10 (by decide) rfl ?_
          refine zx_iconst (q := 12) (v := 1) dX8_herd_11 (by decide) rfl ?_
          refine zx_callV3i (q := 15) (y' := mX8_in) dX8_herd_12 ml_RX8_200 ok_mX8_in rfl (by decide) rfl (Nat.le_of_ble_eq_true rfl) (Nat.le_of_ble_eq_true rfl) (Nat.le_refl _) (Nat.le_refl _) rfl (t_X8_in _ _ _ _ _) ?_
          rintro _ _ ⟨rfl, rfl⟩
          refine zx_if_ne_t (t := 20) (q := 18) dX8_herd_15 (by decide) rfl (by decide) ?_
          refine zx_aload_n (q := 21) dX8_herd_20 rfl rfl rfl ?_
          refine zx_iload_n (q := 22) dX8_herd_21 rfl rfl rfl ?_
          refine zx_iconst (q := 23) (v := 0) dX8_herd_22 (by decide) rfl ?_
          refine zx_bipush (q := 25) (v := 12) dX8_herd_23 (by decide) rfl ?_
          refine zx_callV3i (q := 28) (y' := mX8_in) dX8_herd_25 ml_RX8_200 ok_mX8_in rfl (by decide) rfl (Nat.le_of_ble_eq_true rfl) (Nat.le_of_ble_eq_true rfl) (Nat.le_refl _) (Nat.le_refl _) rfl (t_X8_in _ _ _ _ _) ?_
          rintro _ _ ⟨rfl, rfl⟩
          refine zx_if_ne_t (t := 34) (q := 31) dX8_herd_28 (by decide) rfl (zk_t h3) ?_
          refine zx_iload_n (q := 35) dX8_herd_34 rfl rfl rfl ?_
          refine zx_if_ne_f (t := 47) (q := 38) dX8_herd_35 (by decide) rfl (rfl) ?_
          refine zx_aload_n (q := 39) dX8_herd_38 rfl rfl rfl ?_
          refine zy_getR (q := 42) dX8_herd_39 fl_RX8_29 rfl rfl rfl rfl ?_
          refine zx_iload_n (q := 43) dX8_herd_42 rfl rfl rfl ?_
          refine zy_ialdN (q := 44) dX8_herd_43 rfl (by omega) (by first | decide | omega) rfl ?_
          refine zx_goto (t := 53) dX8_herd_44 (by decide) ?_
          refine zx_istore4 (q := 55) dX8_herd_53 rfl rfl ?_
          refine zx_iload_n (q := 56) dX8_herd_55 rfl rfl rfl ?_
          refine zx_if_ne_f (t := 69) (q := 59) dX8_herd_56 (by decide) rfl (rfl) ?_
          refine zx_aload_n (q := 60) dX8_herd_59 rfl rfl rfl ?_
          refine zy_getR (q := 63) dX8_herd_60 fl_RX8_29 rfl rfl rfl rfl ?_
          refine zx_iload_n (q := 64) dX8_herd_63 rfl rfl rfl ?_
          refine zx_iload_n (q := 65) dX8_herd_64 rfl rfl rfl ?_
          refine zy_iastN (q := 66) dX8_herd_65 rfl (by omega) (by first | decide | omega) rfl ?_
          refine zx_goto (t := 76) dX8_herd_66 (by decide) ?_
          refine zx_iload (q := 78) dX8_herd_76 rfl rfl ?_
          refine zx_iret dX8_herd_78 rfl (Nat.le_refl _) (Nat.le_refl _) ⟨_, rfl, ?_⟩
          exact ⟨by have g := (hSs s hs).2.2.2.2.1.1; show gi 113 s = gi 15 s; exact g.symm, _, _, _, rfl, z_rel_herd0 hR hs1 hns hs (z_inB (by decide) (by decide) h3)⟩
        · show zW l D tc A mX7_herd (d + 2) 0 0 0 0 0 [some (.ref 0), some (.int (nI s)), some (.int (nI 1)), some (.int c), none] [] (zs gi gl f) _
          refine zx_aload_n (q := 1) dX7_herd_0 rfl rfl rfl ?_
          refine zx_iload_n (q := 2) dX7_herd_1 rfl rfl rfl ?_
          refine zx_callV1i (q := 5) (y' := mX7_isSort) dX7_herd_2 ml_RX7_89 ok_mX7_isSort rfl (by decide) rfl (Nat.le_of_ble_eq_true rfl) (Nat.le_of_ble_eq_true rfl) (Nat.le_refl _) (Nat.le_refl _) rfl (t_X7_isSort _ _) ?_
          rintro _ _ ⟨rfl, rfl⟩
          refine zx_if_eq_f (t := 17) (q := 8) dX7_herd_5 (by decide) rfl (zk_t (by show z_in (nI s) 0 (gi 1 0 - 1) = true; rw [hs1]; exact z_inS_at hns hs)) ?_
          refine zx_iload_n (q := 9) dX7_herd_8 rfl rfl rfl ?_
          refine zx_iconst (q := 10) (v := 0) dX7_herd_9 (by decide) rfl ?_
          refine zx_iconst (q := 11) (v := 1) dX7_herd_10 (by decide) rfl ?_
          refine zx_callS3i (q := 14) (y' := mX7_within) dX7_herd_11 ml_RX7_73 ok_mX7_within (Nat.le_of_ble_eq_true rfl) (Nat.le_of_ble_eq_true rfl) (Nat.le_refl _) (Nat.le_refl _) rfl (t_X7_within _ _ _ _) ?_
          rintro _ _ ⟨rfl, rfl⟩
          refine zx_if_ne_t (t := 19) (q := 17) dX7_herd_14 (by decide) rfl (by decide) ?_
          refine zx_iload_n (q := 20) dX7_herd_19 rfl rfl rfl ?_
          refine zx_iconst (q := 21) (v := 0) dX7_herd_20 (by decide) rfl ?_
          refine zx_bipush (q := 23) (v := 12) dX7_herd_21 (by decide) rfl ?_
          refine zx_callS3i (q := 26) (y' := mX7_within) dX7_herd_23 ml_RX7_73 ok_mX7_within (Nat.le_of_ble_eq_true rfl) (Nat.le_of_ble_eq_true rfl) (Nat.le_refl _) (Nat.le_refl _) rfl (t_X7_within _ _ _ _) ?_
          rintro _ _ ⟨rfl, rfl⟩
          refine zx_if_ne_t (t := 32) (q := 29) dX7_herd_26 (by decide) rfl (zk_t h3) ?_
          refine zx_aload_n (q := 33) dX7_herd_32 rfl rfl rfl ?_
          refine zy_getR (q := 36) dX7_herd_33 fl_RX7_12 rfl rfl rfl rfl ?_
          refine zy_getR (q := 39) dX7_herd_36 fl_RX7_92 rfl rfl rfl rfl ?_
          refine zx_iload_n (q := 40) dX7_herd_39 rfl rfl rfl ?_
          refine zy_aaldN (q := 41) dX7_herd_40 rfl (by decide) (i := 1) (by omega) (by decide) rfl rfl ?_
          refine zx_iload_n (q := 42) dX7_herd_41 rfl rfl rfl ?_
          refine zy_ialdN (q := 43) dX7_herd_42 rfl (by omega) (by first | decide | omega) rfl ?_
          refine zx_istore4 (q := 45) dX7_herd_43 rfl rfl ?_
          refine zx_aload_n (q := 46) dX7_herd_45 rfl rfl rfl ?_
          refine zy_getR (q := 49) dX7_herd_46 fl_RX7_12 rfl rfl rfl rfl ?_
          refine zy_getR (q := 52) dX7_herd_49 fl_RX7_92 rfl rfl rfl rfl ?_
          refine zx_iload_n (q := 53) dX7_herd_52 rfl rfl rfl ?_
          refine zy_aaldN (q := 54) dX7_herd_53 rfl (by decide) (i := 1) (by omega) (by decide) rfl rfl ?_
          refine zx_iload_n (q := 55) dX7_herd_54 rfl rfl rfl ?_
          refine zx_iload_n (q := 56) dX7_herd_55 rfl rfl rfl ?_
          refine zy_iastN (q := 57) dX7_herd_56 rfl (by omega) (by first | decide | omega) rfl ?_
          refine zx_iload (q := 59) dX7_herd_57 rfl rfl ?_
          refine zx_iret dX7_herd_59 rfl (Nat.le_refl _) (Nat.le_refl _) ⟨_, rfl, ?_⟩
          refine ⟨_, _, _, rfl, ?_⟩
          show zW l D tc A mX8_herd (d + 2) 0 0 0 0 0 [some (.ref 108), some (.int (nI s)), some (.int (nI 1)), some (.int c), none] [] (zs _ _ _) _
          refine zx_aload_n (q := 1) dX8_herd_0 rfl rfl rfl ?_
          refine zx_iload_n (q := 2) dX8_herd_1 rfl rfl rfl ?_
          refine zx_callV1i (q := 5) (y' := mX8_isSort) dX8_herd_2 ml_RX8_208 ok_mX8_isSort rfl (by decide) rfl (Nat.le_of_ble_eq_true rfl) (Nat.le_of_ble_eq_true rfl) (Nat.le_refl _) (Nat.le_refl _) rfl (t_X8_isSort _ _) ?_
          rintro _ _ ⟨rfl, rfl⟩
          refine zx_if_eq_f (t := 18) (q := 8) dX8_herd_5 (by decide) rfl (zk_t (by show z_in (nI s) 0 (gi 108 0 - 1) = true; rw [hs2]; exact z_inS_at hns hs)) ?_
          refine zx_aload_n (q := 9) dX8_herd_8 rfl rfl rfl ?_
          refine zx_iload_n (q := 10) dX8_herd_9 rfl rfl rfl ?_
          refine zx_iconst (q := 11) (v := 0) dX8_herd_10 (by decide) rfl ?_
          refine zx_iconst (q := 12) (v := 1) dX8_herd_11 (by decide) rfl ?_
          refine zx_callV3i (q := 15) (y' := mX8_in) dX8_herd_12 ml_RX8_200 ok_mX8_in rfl (by decide) rfl (Nat.le_of_ble_eq_true rfl) (Nat.le_of_ble_eq_true rfl) (Nat.le_refl _) (Nat.le_refl _) rfl (t_X8_in _ _ _ _ _) ?_
          rintro _ _ ⟨rfl, rfl⟩
          refine zx_if_ne_t (t := 20) (q := 18) dX8_herd_15 (by decide) rfl (by decide) ?_
          refine zx_aload_n (q := 21) dX8_herd_20 rfl rfl rfl ?_
          refine zx_iload_n (q := 22) dX8_herd_21 rfl rfl rfl ?_
          refine zx_iconst (q := 23) (v := 0) dX8_herd_22 (by decide) rfl ?_
          refine zx_bipush (q := 25) (v := 12) dX8_herd_23 (by decide) rfl ?_
          refine zx_callV3i (q := 28) (y' := mX8_in) dX8_herd_25 ml_RX8_200 ok_mX8_in rfl (by decide) rfl (Nat.le_of_ble_eq_true rfl) (Nat.le_of_ble_eq_true rfl) (Nat.le_refl _) (Nat.le_refl _) rfl (t_X8_in _ _ _ _ _) ?_
          rintro _ _ ⟨rfl, rfl⟩
          refine zx_if_ne_t (t := 34) (q := 31) dX8_herd_28 (by decide) rfl (zk_t h3) ?_
          refine zx_iload_n (q := 35) dX8_herd_34 rfl rfl rfl ?_
          refine zx_if_ne_t (t := 47) (q := 38) dX8_herd_35 (by decide) rfl (by decide) ?_
          refine zx_aload_n (q := 48) dX8_herd_47 rfl rfl rfl ?_
          refine zy_getR (q := 51) dX8_herd_48 fl_RX8_32 rfl rfl rfl rfl ?_
          refine zx_iload_n (q := 52) dX8_herd_51 rfl rfl rfl ?_
          refine zy_ialdN (q := 53) dX8_herd_52 rfl (by omega) (by first | decide | omega) rfl ?_
          refine zx_istore4 (q := 55) dX8_herd_53 rfl rfl ?_
          refine zx_iload_n (q := 56) dX8_herd_55 rfl rfl rfl ?_
          refine zx_if_ne_t (t := 69) (q := 59) dX8_herd_56 (by decide) rfl (by decide) ?_
          refine zx_aload_n (q := 70) dX8_herd_69 rfl rfl rfl ?_
          refine zy_getR (q := 73) dX8_herd_70 fl_RX8_32 rfl rfl rfl rfl ?_
          refine zx_iload_n (q := 74) dX8_herd_73 rfl rfl rfl ?_
          refine zx_iload_n (q := 75) dX8_herd_74 rfl rfl rfl ?_
          refine zy_iastN (q := 76) dX8_herd_75 rfl (by omega) (by first | decide | omega) rfl ?_
          refine zx_iload (q := 78) dX8_herd_76 rfl rfl ?_
          refine zx_iret dX8_herd_78 rfl (Nat.le_refl _) (Nat.le_refl _) ⟨_, rfl, ?_⟩
          exact ⟨by have g := (hSs s hs).2.2.2.2.2.1.1; show gi 114 s = gi 16 s; exact g.symm, _, _, _, rfl, z_rel_herd1 hR hs1 hns hs (z_inB (by decide) (by decide) h3)⟩
      · show zW l D tc A mX7_herd (d + 2) 0 0 0 0 0 [some (.ref 0), some (.int (nI s)), some (.int (nI w)), some (.int c), none] [] (zs gi gl f) _
        refine zx_aload_n (q := 1) dX7_herd_0 rfl rfl rfl ?_
        refine zx_iload_n (q := 2) dX7_herd_1 rfl rfl rfl ?_
        refine zx_callV1i (q := 5) (y' := mX7_isSort) dX7_herd_2 ml_RX7_89 ok_mX7_isSort rfl (by decide) rfl (Nat.le_of_ble_eq_true rfl) (Nat.le_of_ble_eq_true rfl) (Nat.le_refl _) (Nat.le_refl _) rfl (t_X7_isSort _ _) ?_
        rintro _ _ ⟨rfl, rfl⟩
        refine zx_if_eq_f (t := 17) (q := 8) dX7_herd_5 (by decide) rfl (zk_t (by show z_in (nI s) 0 (gi 1 0 - 1) = true; rw [hs1]; exact z_inS_at hns hs)) ?_
        refine zx_iload_n (q := 9) dX7_herd_8 rfl rfl rfl ?_
        refine zx_iconst (q := 10) (v := 0) dX7_herd_9 (by decide) rfl ?_
        refine zx_iconst (q := 11) (v := 1) dX7_herd_10 (by decide) rfl ?_
        refine zx_callS3i (q := 14) (y' := mX7_within) dX7_herd_11 ml_RX7_73 ok_mX7_within (Nat.le_of_ble_eq_true rfl) (Nat.le_of_ble_eq_true rfl) (Nat.le_refl _) (Nat.le_refl _) rfl (t_X7_within _ _ _ _) ?_
        rintro _ _ ⟨rfl, rfl⟩
        refine zx_if_ne_t (t := 19) (q := 17) dX7_herd_14 (by decide) rfl (zk_t h2) ?_
        refine zx_iload_n (q := 20) dX7_herd_19 rfl rfl rfl ?_
        refine zx_iconst (q := 21) (v := 0) dX7_herd_20 (by decide) rfl ?_
        refine zx_bipush (q := 23) (v := 12) dX7_herd_21 (by decide) rfl ?_
        refine zx_callS3i (q := 26) (y' := mX7_within) dX7_herd_23 ml_RX7_73 ok_mX7_within (Nat.le_of_ble_eq_true rfl) (Nat.le_of_ble_eq_true rfl) (Nat.le_refl _) (Nat.le_refl _) rfl (t_X7_within _ _ _ _) ?_
        rintro _ _ ⟨rfl, rfl⟩
        refine zx_if_ne_f (t := 32) (q := 29) dX7_herd_26 (by decide) rfl (zk_f h3) ?_
        refine zx_bipush (q := 31) (v := (-2)) dX7_herd_29 (by decide) rfl ?_
        refine zx_iret dX7_herd_31 rfl (Nat.le_refl _) (Nat.le_refl _) ⟨_, rfl, ?_⟩
        refine ⟨_, _, _, rfl, ?_⟩
        show zW l D tc A mX8_herd (d + 2) 0 0 0 0 0 [some (.ref 108), some (.int (nI s)), some (.int (nI w)), some (.int c), none] [] (zs _ _ _) _
        refine zx_aload_n (q := 1) dX8_herd_0 rfl rfl rfl ?_
        refine zx_iload_n (q := 2) dX8_herd_1 rfl rfl rfl ?_
        refine zx_callV1i (q := 5) (y' := mX8_isSort) dX8_herd_2 ml_RX8_208 ok_mX8_isSort rfl (by decide) rfl (Nat.le_of_ble_eq_true rfl) (Nat.le_of_ble_eq_true rfl) (Nat.le_refl _) (Nat.le_refl _) rfl (t_X8_isSort _ _) ?_
        rintro _ _ ⟨rfl, rfl⟩
        refine zx_if_eq_f (t := 18) (q := 8) dX8_herd_5 (by decide) rfl (zk_t (by show z_in (nI s) 0 (gi 108 0 - 1) = true; rw [hs2]; exact z_inS_at hns hs)) ?_
        refine zx_aload_n (q := 9) dX8_herd_8 rfl rfl rfl ?_
        refine zx_iload_n (q := 10) dX8_herd_9 rfl rfl rfl ?_
        refine zx_iconst (q := 11) (v := 0) dX8_herd_10 (by decide) rfl ?_
        refine zx_iconst (q := 12) (v := 1) dX8_herd_11 (by decide) rfl ?_
        refine zx_callV3i (q := 15) (y' := mX8_in) dX8_herd_12 ml_RX8_200 ok_mX8_in rfl (by decide) rfl (Nat.le_of_ble_eq_true rfl) (Nat.le_of_ble_eq_true rfl) (Nat.le_refl _) (Nat.le_refl _) rfl (t_X8_in _ _ _ _ _) ?_
        rintro _ _ ⟨rfl, rfl⟩
        refine zx_if_ne_t (t := 20) (q := 18) dX8_herd_15 (by decide) rfl (zk_t h2) ?_
        refine zx_aload_n (q := 21) dX8_herd_20 rfl rfl rfl ?_
        refine zx_iload_n (q := 22) dX8_herd_21 rfl rfl rfl ?_
        refine zx_iconst (q := 23) (v := 0) dX8_herd_22 (by decide) rfl ?_
        refine zx_bipush (q := 25) (v := 12) dX8_herd_23 (by decide) rfl ?_
        refine zx_callV3i (q := 28) (y' := mX8_in) dX8_herd_25 ml_RX8_200 ok_mX8_in rfl (by decide) rfl (Nat.le_of_ble_eq_true rfl) (Nat.le_of_ble_eq_true rfl) (Nat.le_refl _) (Nat.le_refl _) rfl (t_X8_in _ _ _ _ _) ?_
        rintro _ _ ⟨rfl, rfl⟩
        refine zx_if_ne_f (t := 34) (q := 31) dX8_herd_28 (by decide) rfl (zk_f h3) ?_
        refine zx_bipush (q := 33) (v := (-2)) dX8_herd_31 (by decide) rfl ?_
        refine zx_iret dX8_herd_33 rfl (Nat.le_refl _) (Nat.le_refl _) ⟨_, rfl, ?_⟩
        exact ⟨rfl, _, _, _, rfl, hR⟩
    · show zW l D tc A mX7_herd (d + 2) 0 0 0 0 0 [some (.ref 0), some (.int (nI s)), some (.int b), some (.int c), none] [] (zs gi gl f) _
      refine zx_aload_n (q := 1) dX7_herd_0 rfl rfl rfl ?_
      refine zx_iload_n (q := 2) dX7_herd_1 rfl rfl rfl ?_
      refine zx_callV1i (q := 5) (y' := mX7_isSort) dX7_herd_2 ml_RX7_89 ok_mX7_isSort rfl (by decide) rfl (Nat.le_of_ble_eq_true rfl) (Nat.le_of_ble_eq_true rfl) (Nat.le_refl _) (Nat.le_refl _) rfl (t_X7_isSort _ _) ?_
      rintro _ _ ⟨rfl, rfl⟩
      refine zx_if_eq_f (t := 17) (q := 8) dX7_herd_5 (by decide) rfl (zk_t (by show z_in (nI s) 0 (gi 1 0 - 1) = true; rw [hs1]; exact z_inS_at hns hs)) ?_
      refine zx_iload_n (q := 9) dX7_herd_8 rfl rfl rfl ?_
      refine zx_iconst (q := 10) (v := 0) dX7_herd_9 (by decide) rfl ?_
      refine zx_iconst (q := 11) (v := 1) dX7_herd_10 (by decide) rfl ?_
      refine zx_callS3i (q := 14) (y' := mX7_within) dX7_herd_11 ml_RX7_73 ok_mX7_within (Nat.le_of_ble_eq_true rfl) (Nat.le_of_ble_eq_true rfl) (Nat.le_refl _) (Nat.le_refl _) rfl (t_X7_within _ _ _ _) ?_
      rintro _ _ ⟨rfl, rfl⟩
      refine zx_if_ne_f (t := 19) (q := 17) dX7_herd_14 (by decide) rfl (zk_f h2) ?_
      refine zx_iconst (q := 18) (v := (-1)) dX7_herd_17 (by decide) rfl ?_
      refine zx_iret dX7_herd_18 rfl (Nat.le_refl _) (Nat.le_refl _) ⟨_, rfl, ?_⟩
      refine ⟨_, _, _, rfl, ?_⟩
      show zW l D tc A mX8_herd (d + 2) 0 0 0 0 0 [some (.ref 108), some (.int (nI s)), some (.int b), some (.int c), none] [] (zs _ _ _) _
      refine zx_aload_n (q := 1) dX8_herd_0 rfl rfl rfl ?_
      refine zx_iload_n (q := 2) dX8_herd_1 rfl rfl rfl ?_
      refine zx_callV1i (q := 5) (y' := mX8_isSort) dX8_herd_2 ml_RX8_208 ok_mX8_isSort rfl (by decide) rfl (Nat.le_of_ble_eq_true rfl) (Nat.le_of_ble_eq_true rfl) (Nat.le_refl _) (Nat.le_refl _) rfl (t_X8_isSort _ _) ?_
      rintro _ _ ⟨rfl, rfl⟩
      refine zx_if_eq_f (t := 18) (q := 8) dX8_herd_5 (by decide) rfl (zk_t (by show z_in (nI s) 0 (gi 108 0 - 1) = true; rw [hs2]; exact z_inS_at hns hs)) ?_
      refine zx_aload_n (q := 9) dX8_herd_8 rfl rfl rfl ?_
      refine zx_iload_n (q := 10) dX8_herd_9 rfl rfl rfl ?_
      refine zx_iconst (q := 11) (v := 0) dX8_herd_10 (by decide) rfl ?_
      refine zx_iconst (q := 12) (v := 1) dX8_herd_11 (by decide) rfl ?_
      refine zx_callV3i (q := 15) (y' := mX8_in) dX8_herd_12 ml_RX8_200 ok_mX8_in rfl (by decide) rfl (Nat.le_of_ble_eq_true rfl) (Nat.le_of_ble_eq_true rfl) (Nat.le_refl _) (Nat.le_refl _) rfl (t_X8_in _ _ _ _ _) ?_
      rintro _ _ ⟨rfl, rfl⟩
      refine zx_if_ne_f (t := 20) (q := 18) dX8_herd_15 (by decide) rfl (zk_f h2) ?_
      refine zx_iconst (q := 19) (v := (-1)) dX8_herd_18 (by decide) rfl ?_
      refine zx_iret dX8_herd_19 rfl (Nat.le_refl _) (Nat.le_refl _) ⟨_, rfl, ?_⟩
      exact ⟨rfl, _, _, _, rfl, hR⟩
  · show zW l D tc A mX7_herd (d + 2) 0 0 0 0 0 [some (.ref 0), some (.int a), some (.int b), some (.int c), none] [] (zs gi gl f) _
    refine zx_aload_n (q := 1) dX7_herd_0 rfl rfl rfl ?_
    refine zx_iload_n (q := 2) dX7_herd_1 rfl rfl rfl ?_
    refine zx_callV1i (q := 5) (y' := mX7_isSort) dX7_herd_2 ml_RX7_89 ok_mX7_isSort rfl (by decide) rfl (Nat.le_of_ble_eq_true rfl) (Nat.le_of_ble_eq_true rfl) (Nat.le_refl _) (Nat.le_refl _) rfl (t_X7_isSort _ _) ?_
    rintro _ _ ⟨rfl, rfl⟩
    refine zx_if_eq_t (t := 17) (q := 8) dX7_herd_5 (by decide) rfl (zk_f (by show ¬ z_in a 0 (gi 1 0 - 1) = true; rw [hs1]; exact h1)) ?_
    refine zx_iconst (q := 18) (v := (-1)) dX7_herd_17 (by decide) rfl ?_
    refine zx_iret dX7_herd_18 rfl (Nat.le_refl _) (Nat.le_refl _) ⟨_, rfl, ?_⟩
    refine ⟨_, _, _, rfl, ?_⟩
    show zW l D tc A mX8_herd (d + 2) 0 0 0 0 0 [some (.ref 108), some (.int a), some (.int b), some (.int c), none] [] (zs _ _ _) _
    refine zx_aload_n (q := 1) dX8_herd_0 rfl rfl rfl ?_
    refine zx_iload_n (q := 2) dX8_herd_1 rfl rfl rfl ?_
    refine zx_callV1i (q := 5) (y' := mX8_isSort) dX8_herd_2 ml_RX8_208 ok_mX8_isSort rfl (by decide) rfl (Nat.le_of_ble_eq_true rfl) (Nat.le_of_ble_eq_true rfl) (Nat.le_refl _) (Nat.le_refl _) rfl (t_X8_isSort _ _) ?_
    rintro _ _ ⟨rfl, rfl⟩
    refine zx_if_eq_t (t := 18) (q := 8) dX8_herd_5 (by decide) rfl (zk_f (by show ¬ z_in a 0 (gi 108 0 - 1) = true; rw [hs2]; exact h1)) ?_
    refine zx_iconst (q := 19) (v := (-1)) dX8_herd_18 (by decide) rfl ?_
    refine zx_iret dX8_herd_19 rfl (Nat.le_refl _) (Nat.le_refl _) ⟨_, rfl, ?_⟩
    exact ⟨rfl, _, _, _, rfl, hR⟩
set_option maxHeartbeats 4000000 in
theorem op_row (d : Nat) (a : Int32) (b : Int32) (c : Int32) (hR : zRel gi gl) : zOpI l D tc A mX7_row mX8_row (d + 2) [.int a, .int b, .int c] gi gl f := by
  obtain ⟨nf, ⟨hf0, hf1, hf2⟩, ⟨ns, nb, mm, ⟨hns, hnb, hmm⟩, ⟨hs1, hs2⟩, ⟨hm1, hm2⟩, ⟨hb1, hb2⟩, ⟨hx1, hx2⟩, hSs, hSn, hSt, hSb⟩, ⟨him, hik⟩, ⟨len, hlen, ht1, ht2, ht3⟩, ⟨ra, hra, ha1, ha2, ha3⟩, hTP, ho, hF, hLt⟩ := id hR
  by_cases h1 : z_in a 0 (nI ns - 1) = true
  · obtain ⟨s, hs, rfl⟩ := z_inU hns h1
    by_cases h2 : z_in b 0 2 = true
    · obtain ⟨j, hj, rfl⟩ := z_inT 2 (by decide) h2
      by_cases h3 : z_in c 0 9 = true
      · by_cases h4 : gi 109 s = 6
        · show zW l D tc A mX7_row (d + 2) 0 0 0 0 0 [some (.ref 0), some (.int (nI s)), some (.int (nI j)), some (.int c), none] [] (zs gi gl f) _
          refine zx_aload_n (q := 1) dX7_row_0 rfl rfl rfl ?_
          refine zx_iload_n (q := 2) dX7_row_1 rfl rfl rfl ?_
          refine zx_callV1i (q := 5) (y' := mX7_isSort) dX7_row_2 ml_RX7_89 ok_mX7_isSort rfl (by decide) rfl (Nat.le_of_ble_eq_true rfl) (Nat.le_of_ble_eq_true rfl) (Nat.le_refl _) (Nat.le_refl _) rfl (t_X7_isSort _ _) ?_
          rintro _ _ ⟨rfl, rfl⟩
          refine zx_if_eq_f (t := 17) (q := 8) dX7_row_5 (by decide) rfl (zk_t (by show z_in (nI s) 0 (gi 1 0 - 1) = true; rw [hs1]; exact z_inS_at hns hs)) ?_
          refine zx_iload_n (q := 9) dX7_row_8 rfl rfl rfl ?_
          refine zx_iconst (q := 10) (v := 0) dX7_row_9 (by decide) rfl ?_
          refine zx_iconst (q := 11) (v := 2) dX7_row_10 (by decide) rfl ?_
          refine zx_callS3i (q := 14) (y' := mX7_within) dX7_row_11 ml_RX7_73 ok_mX7_within (Nat.le_of_ble_eq_true rfl) (Nat.le_of_ble_eq_true rfl) (Nat.le_refl _) (Nat.le_refl _) rfl (t_X7_within _ _ _ _) ?_
          rintro _ _ ⟨rfl, rfl⟩
          refine zx_if_ne_t (t := 19) (q := 17) dX7_row_14 (by decide) rfl (zk_t h2) ?_
          refine zx_iload_n (q := 20) dX7_row_19 rfl rfl rfl ?_
          refine zx_callS1i (q := 23) (y' := mX7_isDigit) dX7_row_20 ml_RX7_77 ok_mX7_isDigit (Nat.le_of_ble_eq_true rfl) (Nat.le_of_ble_eq_true rfl) (Nat.le_refl _) (Nat.le_refl _) rfl (t_X7_isDigit _ _) ?_
          rintro _ _ ⟨rfl, rfl⟩
          refine zx_if_ne_t (t := 29) (q := 26) dX7_row_23 (by decide) rfl (zk_t h3) ?_
          refine zx_aload_n (q := 30) dX7_row_29 rfl rfl rfl ?_
          refine zy_getR (q := 33) dX7_row_30 fl_RX7_12 rfl rfl rfl rfl ?_
          refine zy_getR (q := 36) dX7_row_33 fl_RX7_85 rfl rfl rfl rfl ?_
          refine zx_iload_n (q := 37) dX7_row_36 rfl rfl rfl ?_
          refine zy_aaldN (q := 38) dX7_row_37 rfl (by decide) (by omega) (by decide) (zr_2 (by omega)).1 rfl ?_
          refine zx_iconst (q := 39) (v := 0) dX7_row_38 (by decide) rfl ?_
          refine zy_iald (q := 40) dX7_row_39 (zr_2 (f := f) (by omega)).2 (vp_in_nI (n := 0) (by decide) (by decide)) rfl ?_
          rw [show gi (3 + s) (0 : Int32).toNatClampNeg = gi 109 s from by rw [show (0 : Int32).toNatClampNeg = 0 from by decide]; exact (hSs s hs).1.1]
          refine zx_bipush (q := 42) (v := 6) dX7_row_40 (by decide) rfl ?_
          refine zx_icmp_eq_t (t := 48) (q := 45) dX7_row_42 (by decide) rfl (h4) ?_
          refine zx_aload_n (q := 49) dX7_row_48 rfl rfl rfl ?_
          refine zy_getR (q := 52) dX7_row_49 fl_RX7_12 rfl rfl rfl rfl ?_
          refine zy_getR (q := 55) dX7_row_52 fl_RX7_107 rfl rfl rfl rfl ?_
          refine zx_iload_n (q := 56) dX7_row_55 rfl rfl rfl ?_
          refine zy_aaldN (q := 57) dX7_row_56 rfl (by decide) (by omega) (by decide) (zr_8 (by omega)).1 rfl ?_
          refine zx_iload_n (q := 58) dX7_row_57 rfl rfl rfl ?_
          refine zy_ialdN (q := 59) dX7_row_58 (zr_8 (f := f) (by omega)).2 (by omega) (by first | decide | omega) rfl ?_
          refine zx_istore4 (q := 61) dX7_row_59 rfl rfl ?_
          refine zx_aload_n (q := 62) dX7_row_61 rfl rfl rfl ?_
          refine zy_getR (q := 65) dX7_row_62 fl_RX7_12 rfl rfl rfl rfl ?_
          refine zy_getR (q := 68) dX7_row_65 fl_RX7_107 rfl rfl rfl rfl ?_
          refine zx_iload_n (q := 69) dX7_row_68 rfl rfl rfl ?_
          refine zy_aaldN (q := 70) dX7_row_69 rfl (by decide) (by omega) (by decide) (zr_8 (by omega)).1 rfl ?_
          refine zx_iload_n (q := 71) dX7_row_70 rfl rfl rfl ?_
          refine zx_iload_n (q := 72) dX7_row_71 rfl rfl rfl ?_
          refine zy_iastN (q := 73) dX7_row_72 (zr_8 (f := f) (by omega)).2 (by omega) (by first | decide | omega) rfl ?_
          refine zx_iload (q := 75) dX7_row_73 rfl rfl ?_
          refine zx_iret dX7_row_75 rfl (Nat.le_refl _) (Nat.le_refl _) ⟨_, rfl, ?_⟩
          refine ⟨_, _, _, rfl, ?_⟩
          show zW l D tc A mX8_row (d + 2) 0 0 0 0 0 [some (.ref 108), some (.int (nI s)), some (.int (nI j)), some (.int c), none] [] (zs _ _ _) _
          refine zx_aload_n (q := 1) dX8_row_0 rfl rfl rfl ?_
          refine zx_iload_n (q := 2) dX8_row_1 rfl rfl rfl ?_
          refine zx_callV1i (q := 5) (y' := mX8_isSort) dX8_row_2 ml_RX8_208 ok_mX8_isSort rfl (by decide) rfl (Nat.le_of_ble_eq_true rfl) (Nat.le_of_ble_eq_true rfl) (Nat.le_refl _) (Nat.le_refl _) rfl (t_X8_isSort _ _) ?_
          rintro _ _ ⟨rfl, rfl⟩
          refine zx_if_eq_f (t := 18) (q := 8) dX8_row_5 (by decide) rfl (zk_t (by rw [z_u_ne _ _ (by omega), hs2]; exact z_inS_at hns hs)) ?_
          refine zx_aload_n (q := 9) dX8_row_8 rfl rfl rfl ?_
          refine zx_iload_n (q := 10) dX8_row_9 rfl rfl rfl ?_
          refine zx_iconst (q := 11) (v := 0) dX8_row_10 (by decide) rfl ?_
          refine zx_iconst (q := 12) (v := 2) dX8_row_11 (by decide) rfl ?_
          refine zx_callV3i (q := 15) (y' := mX8_in) dX8_row_12 ml_RX8_200 ok_mX8_in rfl (by decide) rfl (Nat.le_of_ble_eq_true rfl) (Nat.le_of_ble_eq_true rfl) (Nat.le_refl _) (Nat.le_refl _) rfl (t_X8_in _ _ _ _ _) ?_
          rintro _ _ ⟨rfl, rfl⟩
          refine zx_if_ne_t (t := 20) (q := 18) dX8_row_15 (by decide) rfl (zk_t h2) ?_
          refine zx_aload_n (q := 21) dX8_row_20 rfl rfl rfl ?_
          refine zx_iload_n (q := 22) dX8_row_21 rfl rfl rfl ?_
          refine zx_callV1i (q := 25) (y' := mX8_isDigit9) dX8_row_22 ml_RX8_204 ok_mX8_isDigit9 rfl (by decide) rfl (Nat.le_of_ble_eq_true rfl) (Nat.le_of_ble_eq_true rfl) (Nat.le_refl _) (Nat.le_refl _) rfl (t_X8_isDigit9 _ _) ?_
          rintro _ _ ⟨rfl, rfl⟩
          refine zx_if_ne_t (t := 31) (q := 28) dX8_row_25 (by decide) rfl (zk_t h3) ?_
          refine zx_aload_n (q := 32) dX8_row_31 rfl rfl rfl ?_
          refine zy_getR (q := 35) dX8_row_32 fl_RX8_16 rfl rfl rfl rfl ?_
          refine zx_iload_n (q := 36) dX8_row_35 rfl rfl rfl ?_
          refine zy_ialdN (q := 37) dX8_row_36 rfl (by omega) (by first | decide | omega) rfl ?_
          refine zx_bipush (q := 39) (v := 6) dX8_row_37 (by decide) rfl ?_
          refine zx_icmp_eq_t (t := 45) (q := 42) dX8_row_39 (by decide) rfl (by rw [z_u_ne _ _ (by omega)]; exact h4) ?_
          refine zx_aload_n (q := 46) dX8_row_45 rfl rfl rfl ?_
          refine zy_getR (q := 49) dX8_row_46 fl_RX8_35 rfl rfl rfl rfl ?_
          refine zx_iconst (q := 50) (v := 3) dX8_row_49 (by decide) rfl ?_
          refine zx_iload_n (q := 51) dX8_row_50 rfl rfl rfl ?_
          refine zx_imul (q := 52) dX8_row_51 rfl ?_
          refine zx_iload_n (q := 53) dX8_row_52 rfl rfl rfl ?_
          refine zx_iadd (q := 54) dX8_row_53 rfl ?_
          rw [z_3]
          refine zy_ialdN (q := 55) dX8_row_54 rfl (by omega) (by first | decide | omega) rfl ?_
          refine zx_istore4 (q := 57) dX8_row_55 rfl rfl ?_
          refine zx_aload_n (q := 58) dX8_row_57 rfl rfl rfl ?_
          refine zy_getR (q := 61) dX8_row_58 fl_RX8_35 rfl rfl rfl rfl ?_
          refine zx_iconst (q := 62) (v := 3) dX8_row_61 (by decide) rfl ?_
          refine zx_iload_n (q := 63) dX8_row_62 rfl rfl rfl ?_
          refine zx_imul (q := 64) dX8_row_63 rfl ?_
          refine zx_iload_n (q := 65) dX8_row_64 rfl rfl rfl ?_
          refine zx_iadd (q := 66) dX8_row_65 rfl ?_
          refine zx_iload_n (q := 67) dX8_row_66 rfl rfl rfl ?_
          rw [z_3]
          refine zy_iastN (q := 68) dX8_row_67 rfl (by omega) (by first | decide | omega) rfl ?_
          refine zx_iload (q := 70) dX8_row_68 rfl rfl ?_
          refine zx_iret dX8_row_70 rfl (Nat.le_refl _) (Nat.le_refl _) ⟨_, rfl, ?_⟩
          exact ⟨by have g := ((hSs s hs).2.2.2.2.2.2 j (by omega)).1; rw [z_u_ne _ _ (by omega)]; exact g.symm, _, _, _, rfl, z_rel_row hR hs1 hns hs (by omega) (z_inB (by decide) (by decide) h3)⟩
        · show zW l D tc A mX7_row (d + 2) 0 0 0 0 0 [some (.ref 0), some (.int (nI s)), some (.int (nI j)), some (.int c), none] [] (zs gi gl f) _
          refine zx_aload_n (q := 1) dX7_row_0 rfl rfl rfl ?_
          refine zx_iload_n (q := 2) dX7_row_1 rfl rfl rfl ?_
          refine zx_callV1i (q := 5) (y' := mX7_isSort) dX7_row_2 ml_RX7_89 ok_mX7_isSort rfl (by decide) rfl (Nat.le_of_ble_eq_true rfl) (Nat.le_of_ble_eq_true rfl) (Nat.le_refl _) (Nat.le_refl _) rfl (t_X7_isSort _ _) ?_
          rintro _ _ ⟨rfl, rfl⟩
          refine zx_if_eq_f (t := 17) (q := 8) dX7_row_5 (by decide) rfl (zk_t (by show z_in (nI s) 0 (gi 1 0 - 1) = true; rw [hs1]; exact z_inS_at hns hs)) ?_
          refine zx_iload_n (q := 9) dX7_row_8 rfl rfl rfl ?_
          refine zx_iconst (q := 10) (v := 0) dX7_row_9 (by decide) rfl ?_
          refine zx_iconst (q := 11) (v := 2) dX7_row_10 (by decide) rfl ?_
          refine zx_callS3i (q := 14) (y' := mX7_within) dX7_row_11 ml_RX7_73 ok_mX7_within (Nat.le_of_ble_eq_true rfl) (Nat.le_of_ble_eq_true rfl) (Nat.le_refl _) (Nat.le_refl _) rfl (t_X7_within _ _ _ _) ?_
          rintro _ _ ⟨rfl, rfl⟩
          refine zx_if_ne_t (t := 19) (q := 17) dX7_row_14 (by decide) rfl (zk_t h2) ?_
          refine zx_iload_n (q := 20) dX7_row_19 rfl rfl rfl ?_
          refine zx_callS1i (q := 23) (y' := mX7_isDigit) dX7_row_20 ml_RX7_77 ok_mX7_isDigit (Nat.le_of_ble_eq_true rfl) (Nat.le_of_ble_eq_true rfl) (Nat.le_refl _) (Nat.le_refl _) rfl (t_X7_isDigit _ _) ?_
          rintro _ _ ⟨rfl, rfl⟩
          refine zx_if_ne_t (t := 29) (q := 26) dX7_row_23 (by decide) rfl (zk_t h3) ?_
          refine zx_aload_n (q := 30) dX7_row_29 rfl rfl rfl ?_
          refine zy_getR (q := 33) dX7_row_30 fl_RX7_12 rfl rfl rfl rfl ?_
          refine zy_getR (q := 36) dX7_row_33 fl_RX7_85 rfl rfl rfl rfl ?_
          refine zx_iload_n (q := 37) dX7_row_36 rfl rfl rfl ?_
          refine zy_aaldN (q := 38) dX7_row_37 rfl (by decide) (by omega) (by decide) (zr_2 (by omega)).1 rfl ?_
          refine zx_iconst (q := 39) (v := 0) dX7_row_38 (by decide) rfl ?_
          refine zy_iald (q := 40) dX7_row_39 (zr_2 (f := f) (by omega)).2 (vp_in_nI (n := 0) (by decide) (by decide)) rfl ?_
          rw [show gi (3 + s) (0 : Int32).toNatClampNeg = gi 109 s from by rw [show (0 : Int32).toNatClampNeg = 0 from by decide]; exact (hSs s hs).1.1]
          refine zx_bipush (q := 42) (v := 6) dX7_row_40 (by decide) rfl ?_
          refine zx_icmp_eq_f (t := 48) (q := 45) dX7_row_42 (by decide) rfl (h4) ?_
          refine zx_bipush (q := 47) (v := (-3)) dX7_row_45 (by decide) rfl ?_
          refine zx_iret dX7_row_47 rfl (Nat.le_refl _) (Nat.le_refl _) ⟨_, rfl, ?_⟩
          refine ⟨_, _, _, rfl, ?_⟩
          show zW l D tc A mX8_row (d + 2) 0 0 0 0 0 [some (.ref 108), some (.int (nI s)), some (.int (nI j)), some (.int c), none] [] (zs _ _ _) _
          refine zx_aload_n (q := 1) dX8_row_0 rfl rfl rfl ?_
          refine zx_iload_n (q := 2) dX8_row_1 rfl rfl rfl ?_
          refine zx_callV1i (q := 5) (y' := mX8_isSort) dX8_row_2 ml_RX8_208 ok_mX8_isSort rfl (by decide) rfl (Nat.le_of_ble_eq_true rfl) (Nat.le_of_ble_eq_true rfl) (Nat.le_refl _) (Nat.le_refl _) rfl (t_X8_isSort _ _) ?_
          rintro _ _ ⟨rfl, rfl⟩
          refine zx_if_eq_f (t := 18) (q := 8) dX8_row_5 (by decide) rfl (zk_t (by show z_in (nI s) 0 (gi 108 0 - 1) = true; rw [hs2]; exact z_inS_at hns hs)) ?_
          refine zx_aload_n (q := 9) dX8_row_8 rfl rfl rfl ?_
          refine zx_iload_n (q := 10) dX8_row_9 rfl rfl rfl ?_
          refine zx_iconst (q := 11) (v := 0) dX8_row_10 (by decide) rfl ?_
          refine zx_iconst (q := 12) (v := 2) dX8_row_11 (by decide) rfl ?_
          refine zx_callV3i (q := 15) (y' := mX8_in) dX8_row_12 ml_RX8_200 ok_mX8_in rfl (by decide) rfl (Nat.le_of_ble_eq_true rfl) (Nat.le_of_ble_eq_true rfl) (Nat.le_refl _) (Nat.le_refl _) rfl (t_X8_in _ _ _ _ _) ?_
          rintro _ _ ⟨rfl, rfl⟩
          refine zx_if_ne_t (t := 20) (q := 18) dX8_row_15 (by decide) rfl (zk_t h2) ?_
          refine zx_aload_n (q := 21) dX8_row_20 rfl rfl rfl ?_
          refine zx_iload_n (q := 22) dX8_row_21 rfl rfl rfl ?_
          refine zx_callV1i (q := 25) (y' := mX8_isDigit9) dX8_row_22 ml_RX8_204 ok_mX8_isDigit9 rfl (by decide) rfl (Nat.le_of_ble_eq_true rfl) (Nat.le_of_ble_eq_true rfl) (Nat.le_refl _) (Nat.le_refl _) rfl (t_X8_isDigit9 _ _) ?_
          rintro _ _ ⟨rfl, rfl⟩
          refine zx_if_ne_t (t := 31) (q := 28) dX8_row_25 (by decide) rfl (zk_t h3) ?_
          refine zx_aload_n (q := 32) dX8_row_31 rfl rfl rfl ?_
          refine zy_getR (q := 35) dX8_row_32 fl_RX8_16 rfl rfl rfl rfl ?_
          refine zx_iload_n (q := 36) dX8_row_35 rfl rfl rfl ?_
          refine zy_ialdN (q := 37) dX8_row_36 rfl (by omega) (by first | decide | omega) rfl ?_
          refine zx_bipush (q := 39) (v := 6) dX8_row_37 (by decide) rfl ?_
          refine zx_icmp_eq_f (t := 45) (q := 42) dX8_row_39 (by decide) rfl (h4) ?_
          refine zx_bipush (q := 44) (v := (-3)) dX8_row_42 (by decide) rfl ?_
          refine zx_iret dX8_row_44 rfl (Nat.le_refl _) (Nat.le_refl _) ⟨_, rfl, ?_⟩
          exact ⟨rfl, _, _, _, rfl, hR⟩
      · show zW l D tc A mX7_row (d + 2) 0 0 0 0 0 [some (.ref 0), some (.int (nI s)), some (.int (nI j)), some (.int c), none] [] (zs gi gl f) _
        refine zx_aload_n (q := 1) dX7_row_0 rfl rfl rfl ?_
        refine zx_iload_n (q := 2) dX7_row_1 rfl rfl rfl ?_
        refine zx_callV1i (q := 5) (y' := mX7_isSort) dX7_row_2 ml_RX7_89 ok_mX7_isSort rfl (by decide) rfl (Nat.le_of_ble_eq_true rfl) (Nat.le_of_ble_eq_true rfl) (Nat.le_refl _) (Nat.le_refl _) rfl (t_X7_isSort _ _) ?_
        rintro _ _ ⟨rfl, rfl⟩
        refine zx_if_eq_f (t := 17) (q := 8) dX7_row_5 (by decide) rfl (zk_t (by show z_in (nI s) 0 (gi 1 0 - 1) = true; rw [hs1]; exact z_inS_at hns hs)) ?_
        refine zx_iload_n (q := 9) dX7_row_8 rfl rfl rfl ?_
        refine zx_iconst (q := 10) (v := 0) dX7_row_9 (by decide) rfl ?_
        refine zx_iconst (q := 11) (v := 2) dX7_row_10 (by decide) rfl ?_
        refine zx_callS3i (q := 14) (y' := mX7_within) dX7_row_11 ml_RX7_73 ok_mX7_within (Nat.le_of_ble_eq_true rfl) (Nat.le_of_ble_eq_true rfl) (Nat.le_refl _) (Nat.le_refl _) rfl (t_X7_within _ _ _ _) ?_
        rintro _ _ ⟨rfl, rfl⟩
        refine zx_if_ne_t (t := 19) (q := 17) dX7_row_14 (by decide) rfl (zk_t h2) ?_
        refine zx_iload_n (q := 20) dX7_row_19 rfl rfl rfl ?_
        refine zx_callS1i (q := 23) (y' := mX7_isDigit) dX7_row_20 ml_RX7_77 ok_mX7_isDigit (Nat.le_of_ble_eq_true rfl) (Nat.le_of_ble_eq_true rfl) (Nat.le_refl _) (Nat.le_refl _) rfl (t_X7_isDigit _ _) ?_
        rintro _ _ ⟨rfl, rfl⟩
        refine zx_if_ne_f (t := 29) (q := 26) dX7_row_23 (by decide) rfl (zk_f h3) ?_
        refine zx_bipush (q := 28) (v := (-2)) dX7_row_26 (by decide) rfl ?_
        refine zx_iret dX7_row_28 rfl (Nat.le_refl _) (Nat.le_refl _) ⟨_, rfl, ?_⟩
        refine ⟨_, _, _, rfl, ?_⟩
        show zW l D tc A mX8_row (d + 2) 0 0 0 0 0 [some (.ref 108), some (.int (nI s)), some (.int (nI j)), some (.int c), none] [] (zs _ _ _) _
        refine zx_aload_n (q := 1) dX8_row_0 rfl rfl rfl ?_
        refine zx_iload_n (q := 2) dX8_row_1 rfl rfl rfl ?_
        refine zx_callV1i (q := 5) (y' := mX8_isSort) dX8_row_2 ml_RX8_208 ok_mX8_isSort rfl (by decide) rfl (Nat.le_of_ble_eq_true rfl) (Nat.le_of_ble_eq_true rfl) (Nat.le_refl _) (Nat.le_refl _) rfl (t_X8_isSort _ _) ?_
        rintro _ _ ⟨rfl, rfl⟩
        refine zx_if_eq_f (t := 18) (q := 8) dX8_row_5 (by decide) rfl (zk_t (by show z_in (nI s) 0 (gi 108 0 - 1) = true; rw [hs2]; exact z_inS_at hns hs)) ?_
        refine zx_aload_n (q := 9) dX8_row_8 rfl rfl rfl ?_
        refine zx_iload_n (q := 10) dX8_row_9 rfl rfl rfl ?_
        refine zx_iconst (q := 11) (v := 0) dX8_row_10 (by decide) rfl ?_
        refine zx_iconst (q := 12) (v := 2) dX8_row_11 (by decide) rfl ?_
        refine zx_callV3i (q := 15) (y' := mX8_in) dX8_row_12 ml_RX8_200 ok_mX8_in rfl (by decide) rfl (Nat.le_of_ble_eq_true rfl) (Nat.le_of_ble_eq_true rfl) (Nat.le_refl _) (Nat.le_refl _) rfl (t_X8_in _ _ _ _ _) ?_
        rintro _ _ ⟨rfl, rfl⟩
        refine zx_if_ne_t (t := 20) (q := 18) dX8_row_15 (by decide) rfl (zk_t h2) ?_
        refine zx_aload_n (q := 21) dX8_row_20 rfl rfl rfl ?_
        refine zx_iload_n (q := 22) dX8_row_21 rfl rfl rfl ?_
        refine zx_callV1i (q := 25) (y' := mX8_isDigit9) dX8_row_22 ml_RX8_204 ok_mX8_isDigit9 rfl (by decide) rfl (Nat.le_of_ble_eq_true rfl) (Nat.le_of_ble_eq_true rfl) (Nat.le_refl _) (Nat.le_refl _) rfl (t_X8_isDigit9 _ _) ?_
        rintro _ _ ⟨rfl, rfl⟩
        refine zx_if_ne_f (t := 31) (q := 28) dX8_row_25 (by decide) rfl (zk_f h3) ?_
        refine zx_bipush (q := 30) (v := (-2)) dX8_row_28 (by decide) rfl ?_
        refine zx_iret dX8_row_30 rfl (Nat.le_refl _) (Nat.le_refl _) ⟨_, rfl, ?_⟩
        exact ⟨rfl, _, _, _, rfl, hR⟩
    · show zW l D tc A mX7_row (d + 2) 0 0 0 0 0 [some (.ref 0), some (.int (nI s)), some (.int b), some (.int c), none] [] (zs gi gl f) _
      refine zx_aload_n (q := 1) dX7_row_0 rfl rfl rfl ?_
      refine zx_iload_n (q := 2) dX7_row_1 rfl rfl rfl ?_
      refine zx_callV1i (q := 5) (y' := mX7_isSort) dX7_row_2 ml_RX7_89 ok_mX7_isSort rfl (by decide) rfl (Nat.le_of_ble_eq_true rfl) (Nat.le_of_ble_eq_true rfl) (Nat.le_refl _) (Nat.le_refl _) rfl (t_X7_isSort _ _) ?_
      rintro _ _ ⟨rfl, rfl⟩
      refine zx_if_eq_f (t := 17) (q := 8) dX7_row_5 (by decide) rfl (zk_t (by show z_in (nI s) 0 (gi 1 0 - 1) = true; rw [hs1]; exact z_inS_at hns hs)) ?_
      refine zx_iload_n (q := 9) dX7_row_8 rfl rfl rfl ?_
      refine zx_iconst (q := 10) (v := 0) dX7_row_9 (by decide) rfl ?_
      refine zx_iconst (q := 11) (v := 2) dX7_row_10 (by decide) rfl ?_
      refine zx_callS3i (q := 14) (y' := mX7_within) dX7_row_11 ml_RX7_73 ok_mX7_within (Nat.le_of_ble_eq_true rfl) (Nat.le_of_ble_eq_true rfl) (Nat.le_refl _) (Nat.le_refl _) rfl (t_X7_within _ _ _ _) ?_
      rintro _ _ ⟨rfl, rfl⟩
      refine zx_if_ne_f (t := 19) (q := 17) dX7_row_14 (by decide) rfl (zk_f h2) ?_
      refine zx_iconst (q := 18) (v := (-1)) dX7_row_17 (by decide) rfl ?_
      refine zx_iret dX7_row_18 rfl (Nat.le_refl _) (Nat.le_refl _) ⟨_, rfl, ?_⟩
      refine ⟨_, _, _, rfl, ?_⟩
      show zW l D tc A mX8_row (d + 2) 0 0 0 0 0 [some (.ref 108), some (.int (nI s)), some (.int b), some (.int c), none] [] (zs _ _ _) _
      refine zx_aload_n (q := 1) dX8_row_0 rfl rfl rfl ?_
      refine zx_iload_n (q := 2) dX8_row_1 rfl rfl rfl ?_
      refine zx_callV1i (q := 5) (y' := mX8_isSort) dX8_row_2 ml_RX8_208 ok_mX8_isSort rfl (by decide) rfl (Nat.le_of_ble_eq_true rfl) (Nat.le_of_ble_eq_true rfl) (Nat.le_refl _) (Nat.le_refl _) rfl (t_X8_isSort _ _) ?_
      rintro _ _ ⟨rfl, rfl⟩
      refine zx_if_eq_f (t := 18) (q := 8) dX8_row_5 (by decide) rfl (zk_t (by show z_in (nI s) 0 (gi 108 0 - 1) = true; rw [hs2]; exact z_inS_at hns hs)) ?_
      refine zx_aload_n (q := 9) dX8_row_8 rfl rfl rfl ?_
      refine zx_iload_n (q := 10) dX8_row_9 rfl rfl rfl ?_
      refine zx_iconst (q := 11) (v := 0) dX8_row_10 (by decide) rfl ?_
      refine zx_iconst (q := 12) (v := 2) dX8_row_11 (by decide) rfl ?_
      refine zx_callV3i (q := 15) (y' := mX8_in) dX8_row_12 ml_RX8_200 ok_mX8_in rfl (by decide) rfl (Nat.le_of_ble_eq_true rfl) (Nat.le_of_ble_eq_true rfl) (Nat.le_refl _) (Nat.le_refl _) rfl (t_X8_in _ _ _ _ _) ?_
      rintro _ _ ⟨rfl, rfl⟩
      refine zx_if_ne_f (t := 20) (q := 18) dX8_row_15 (by decide) rfl (zk_f h2) ?_
      refine zx_iconst (q := 19) (v := (-1)) dX8_row_18 (by decide) rfl ?_
      refine zx_iret dX8_row_19 rfl (Nat.le_refl _) (Nat.le_refl _) ⟨_, rfl, ?_⟩
      exact ⟨rfl, _, _, _, rfl, hR⟩
  · show zW l D tc A mX7_row (d + 2) 0 0 0 0 0 [some (.ref 0), some (.int a), some (.int b), some (.int c), none] [] (zs gi gl f) _
    refine zx_aload_n (q := 1) dX7_row_0 rfl rfl rfl ?_
    refine zx_iload_n (q := 2) dX7_row_1 rfl rfl rfl ?_
    refine zx_callV1i (q := 5) (y' := mX7_isSort) dX7_row_2 ml_RX7_89 ok_mX7_isSort rfl (by decide) rfl (Nat.le_of_ble_eq_true rfl) (Nat.le_of_ble_eq_true rfl) (Nat.le_refl _) (Nat.le_refl _) rfl (t_X7_isSort _ _) ?_
    rintro _ _ ⟨rfl, rfl⟩
    refine zx_if_eq_t (t := 17) (q := 8) dX7_row_5 (by decide) rfl (zk_f (by show ¬ z_in a 0 (gi 1 0 - 1) = true; rw [hs1]; exact h1)) ?_
    refine zx_iconst (q := 18) (v := (-1)) dX7_row_17 (by decide) rfl ?_
    refine zx_iret dX7_row_18 rfl (Nat.le_refl _) (Nat.le_refl _) ⟨_, rfl, ?_⟩
    refine ⟨_, _, _, rfl, ?_⟩
    show zW l D tc A mX8_row (d + 2) 0 0 0 0 0 [some (.ref 108), some (.int a), some (.int b), some (.int c), none] [] (zs _ _ _) _
    refine zx_aload_n (q := 1) dX8_row_0 rfl rfl rfl ?_
    refine zx_iload_n (q := 2) dX8_row_1 rfl rfl rfl ?_
    refine zx_callV1i (q := 5) (y' := mX8_isSort) dX8_row_2 ml_RX8_208 ok_mX8_isSort rfl (by decide) rfl (Nat.le_of_ble_eq_true rfl) (Nat.le_of_ble_eq_true rfl) (Nat.le_refl _) (Nat.le_refl _) rfl (t_X8_isSort _ _) ?_
    rintro _ _ ⟨rfl, rfl⟩
    refine zx_if_eq_t (t := 18) (q := 8) dX8_row_5 (by decide) rfl (zk_f (by show ¬ z_in a 0 (gi 108 0 - 1) = true; rw [hs2]; exact h1)) ?_
    refine zx_iconst (q := 19) (v := (-1)) dX8_row_18 (by decide) rfl ?_
    refine zx_iret dX8_row_19 rfl (Nat.le_refl _) (Nat.le_refl _) ⟨_, rfl, ?_⟩
    exact ⟨rfl, _, _, _, rfl, hR⟩
end P16
