/-! more of the relation -/
theorem zRel_text {gi gi' : Nat → Nat → Int32} {gl : Nat → Nat → Int64} (h : zRel gi gl) (hN : zTX gi → zTX gi')
    (e : ∀ k j, ¬ (k = 39 ∧ j = 1) → ¬ (k = 40 ∨ k = 117) → ¬ (k = 108 ∧ j = 12) → gi' k j = gi k j) : zRel gi' gl := by
  obtain ⟨nf, ⟨h0, h1, h2⟩, h3, ⟨h4, h5⟩, h6, h7, h8, h9, h10, h11⟩ := h
  refine ⟨nf, ⟨h0, ?_, ?_⟩, ?_, ⟨?_, ?_⟩, hN h6, ?_, ?_, ?_, ?_, ?_⟩
  · rw [e 0 6 (by omega) (by omega) (by omega)]; exact h1
  · rw [e 108 10 (by omega) (by omega) (by omega)]; exact h2
  · exact zST_congr h3 (fun j hj => e _ _ (by omega) (by omega) (by omega)) (fun j hj => e _ _ (by omega) (by omega) (by omega)) (fun k j a b => e _ _ (by omega) (by omega) (by omega)) (fun k j a => e _ _ (by omega) (by omega) (by omega))
  · rw [e 0 2 (by omega) (by omega) (by omega), e 108 41 (by omega) (by omega) (by omega)]; exact h4
  · rw [e 0 2 (by omega) (by omega) (by omega)]
    exact h5.imp id (fun z => ⟨z.1, zST_congr z.2 (fun j hj => e _ _ (by omega) (by omega) (by omega)) (fun j hj => e _ _ (by omega) (by omega) (by omega)) (fun k j a b => e _ _ (by omega) (by omega) (by omega)) (fun k j a => e _ _ (by omega) (by omega) (by omega))⟩)
  · exact zAC_congr h7 (e _ _ (by omega) (by omega) (by omega)) (e _ _ (by omega) (by omega) (by omega)) (fun j => e _ _ (by omega) (by omega) (by omega)) (fun j => e _ _ (by omega) (by omega) (by omega))
  · exact zTP_congr h8 (fun k j a b => e _ _ (by omega) (by omega) (by omega)) (fun j => e _ _ (by omega) (by omega) (by omega)) (fun j => e _ _ (by omega) (by omega) (by omega))
  · rw [e 41 0 (by omega) (by omega) (by omega)]; exact h9
  · exact fun i hi => zFN_congr (h10 i hi) (fun k j a b => e _ _ (by omega) (by omega) (by omega)) (fun k j a => e _ _ (by omega) (by omega) (by omega))
  · exact fun k hk => by rw [e 125 k (by omega) (by omega) (by omega)]; exact h11 k hk
theorem z_byte : ∀ j : Nat, j < 128 → vp_nar .byte ((nI j).toInt8.toInt32) = nI j := by decide +kernel
theorem z_nIrg {j : Nat} {a b : Int} (hj : j < 2 ^ 31) (h1 : a ≤ j) (h2 : (j : Int) ≤ b) : z_rg a b (nI j) := by
  unfold z_rg
  rw [nI_toInt hj]
  exact ⟨h1, h2⟩
theorem z_rgN {x : Int32} {n : Nat} (h : z_rg 0 n x) : ∃ j : Nat, j ≤ n ∧ x = nI j := z_nIof h.1 h.2
section P15
variable {l : Launch} {D : va_G} {tc : Nat → ClassId} {A : Nat → Prop} {S : zw_S} {gi : Nat → Nat → Int32} {gl : Nat → Nat → Int64} {f : Option Nat}
theorem z_rel_feed (h : zRel gi gl) {len j : Nat} (hl : gi 39 1 = nI len) (hlen : len < 100) (hj : j < 128) : zRel (zw_u (zw_u (zw_u (zw_u gi 40 len (nI j)) 39 1 (nI (len + 1))) 117 len (nI j)) 108 12 (nI (len + 1))) gl := by
  refine zRel_text h (fun hT => ?_) (fun k i a b c => by rw [z_u_ne _ _ (by omega), z_u_ne _ _ (by omega), z_u_ne _ _ (by omega), z_u_ne _ _ (by omega)])
  obtain ⟨len', h0, h1, h2, h3⟩ := hT
  refine ⟨len + 1, by omega, rfl, rfl, fun k hk => ?_⟩
  obtain ⟨g1, g2⟩ := h3 k hk
  by_cases e : k = len
  · subst e
    simp [zw_u]
    exact z_nIrg (by omega) (by omega) (by omega)
  · simp [zw_u, e]
    exact ⟨g1, g2⟩
theorem t_X2_add (d len j : Nat) (hl : gi 39 1 = nI len) (hlen : len < 100) (hj : j < 128) : zCall l D tc A mX2_add d 0 0 [.ref 39, .int (nI j)] (zs gi gl f) (zQv fun S' => S' = zs (zw_u (zw_u gi 40 len (nI j)) 39 1 (nI (len + 1))) gl f) := by
  show zW l D tc A mX2_add d 0 0 0 0 0 [some (.ref 39), some (.int (nI j))] [] (zs gi gl f) _
  refine zx_aload_n (q := 1) dX2_add_0 rfl rfl rfl ?_
  refine zy_getIe (q := 4) (v := nI len) dX2_add_1 fl_RX2_15 rfl rfl (hl) rfl ?_
  refine zx_bipush (q := 6) (v := 100) dX2_add_4 (by decide) rfl ?_
  refine zx_icmp_ge_f (t := 30) (q := 9) dX2_add_6 (by decide) rfl (nI_ge (a := len) (b := 100) hlen (by decide)) ?_
  refine zx_aload_n (q := 10) dX2_add_9 rfl rfl rfl ?_
  refine zy_getR (q := 13) dX2_add_10 fl_RX2_9 rfl rfl rfl rfl ?_
  refine zx_aload_n (q := 14) dX2_add_13 rfl rfl rfl ?_
  refine zy_getIe (q := 17) (v := nI len) dX2_add_14 fl_RX2_15 rfl rfl (hl) rfl ?_
  refine zx_iload_n (q := 18) dX2_add_17 rfl rfl rfl ?_
  refine zx_i2b (q := 19) dX2_add_18 rfl ?_
  refine zy_bastN (q := 20) dX2_add_19 rfl (by omega) (by decide) rfl ?_
  refine zx_aload_n (q := 21) dX2_add_20 rfl rfl rfl ?_
  refine zx_dup (q := 22) dX2_add_21 rfl rfl ?_
  refine zy_getIe (q := 25) (v := nI len) dX2_add_22 fl_RX2_15 rfl rfl (hl) rfl ?_
  refine zx_iconst (q := 26) (v := 1) dX2_add_25 (by decide) rfl ?_
  refine zx_iadd (q := 27) dX2_add_26 rfl ?_
  rw [nI_1]
  refine zy_putI (q := 30) dX2_add_27 fl_RX2_15 rfl rfl ⟨rfl, rfl⟩ rfl rfl ?_
  refine zx_vret dX2_add_30 rfl (Nat.le_refl _) (Nat.le_refl _) ⟨rfl, ?_⟩
  rw [z_byte j hj]
set_option maxHeartbeats 4000000 in
theorem op_feed (d : Nat) (a : Int32) (hR : zRel gi gl) : zOpI l D tc A mX7_feed mX8_feed (d + 2) [.int a] gi gl f := by
  obtain ⟨nf, ⟨hf0, hf1, hf2⟩, ⟨ns, nb, mm, ⟨hns, hnb, hmm⟩, ⟨hs1, hs2⟩, ⟨hm1, hm2⟩, ⟨hb1, hb2⟩, ⟨hx1, hx2⟩, hSs, hSn, hSt, hSb⟩, ⟨him, hik⟩, ⟨len, hlen, ht1, ht2, ht3⟩, ⟨ra, hra, ha1, ha2, ha3⟩, hTP, ho, hF, hLt⟩ := id hR
  by_cases h1 : z_in a 0 127 = true
  · obtain ⟨j, hj, rfl⟩ := z_inT 127 (by decide) h1
    by_cases h3 : len < 100
    · show zW l D tc A mX7_feed (d + 2) 0 0 0 0 0 [some (.ref 0), some (.int (nI j))] [] (zs gi gl f) _
      refine zx_iload_n (q := 1) dX7_feed_0 rfl rfl rfl ?_
      refine zx_iconst (q := 2) (v := 0) dX7_feed_1 (by decide) rfl ?_
      refine zx_bipush (q := 4) (v := 127) dX7_feed_2 (by decide) rfl ?_
      refine zx_callS3i (q := 7) (y' := mX7_within) dX7_feed_4 ml_RX7_73 ok_mX7_within (Nat.le_of_ble_eq_true rfl) (Nat.le_of_ble_eq_true rfl) (Nat.le_refl _) (Nat.le_refl _) rfl (t_X7_within _ _ _ _) ?_
      rintro _ _ ⟨rfl, rfl⟩
      refine zx_if_ne_t (t := 13) (q := 10) dX7_feed_7 (by decide) rfl (zk_t h1) ?_
      refine zx_aload_n (q := 14) dX7_feed_13 rfl rfl rfl ?_
      refine zy_getR (q := 17) dX7_feed_14 fl_RX7_24 rfl rfl rfl rfl ?_
      refine zy_getIe (q := 20) (v := nI len) dX7_feed_17 fl_RX7_116 rfl rfl (ht1) rfl ?_
      refine zx_bipush (q := 22) (v := 100) dX7_feed_20 (by decide) rfl ?_
      refine zx_icmp_lt_t (t := 28) (q := 25) dX7_feed_22 (by decide) rfl (nI_lt (a := len) (b := 100) h3 (by decide)) ?_
      refine zx_aload_n (q := 29) dX7_feed_28 rfl rfl rfl ?_
      refine zy_getR (q := 32) dX7_feed_29 fl_RX7_24 rfl rfl rfl rfl ?_
      refine zx_iload_n (q := 33) dX7_feed_32 rfl rfl rfl ?_
      refine zx_callV1v (q := 36) (y' := mX2_add) dX7_feed_33 ml_RX7_119 ok_mX2_add rfl (by decide) rfl (Nat.le_of_ble_eq_true rfl) (Nat.le_of_ble_eq_true rfl) (Nat.le_refl _) (Nat.le_refl _) rfl (t_X2_add _ len j ht1 h3 (by omega)) ?_
      rintro _ ⟨rfl⟩
      refine zx_aload_n (q := 37) dX7_feed_36 rfl rfl rfl ?_
      refine zy_getR (q := 40) dX7_feed_37 fl_RX7_24 rfl rfl rfl rfl ?_
      refine zy_getIe (q := 43) (v := nI (len + 1)) dX7_feed_40 fl_RX7_116 rfl rfl (rfl) rfl ?_
      refine zx_iret dX7_feed_43 rfl (Nat.le_refl _) (Nat.le_refl _) ⟨_, rfl, ?_⟩
      refine ⟨_, _, _, rfl, ?_⟩
      show zW l D tc A mX8_feed (d + 2) 0 0 0 0 0 [some (.ref 108), some (.int (nI j))] [] (zs _ _ _) _
      refine zx_aload_n (q := 1) dX8_feed_0 rfl rfl rfl ?_
      refine zx_iload_n (q := 2) dX8_feed_1 rfl rfl rfl ?_
      refine zx_iconst (q := 3) (v := 0) dX8_feed_2 (by decide) rfl ?_
      refine zx_bipush (q := 5) (v := 127) dX8_feed_3 (by decide) rfl ?_
      refine zx_callV3i (q := 8) (y' := mX8_in) dX8_feed_5 ml_RX8_200 ok_mX8_in rfl (by decide) rfl (Nat.le_of_ble_eq_true rfl) (Nat.le_of_ble_eq_true rfl) (Nat.le_refl _) (Nat.le_refl _) rfl (t_X8_in _ _ _ _ _) ?_
      rintro _ _ ⟨rfl, rfl⟩
      refine zx_if_ne_t (t := 14) (q := 11) dX8_feed_8 (by decide) rfl (zk_t h1) ?_
      refine zx_aload_n (q := 15) dX8_feed_14 rfl rfl rfl ?_
      refine zy_getIe (q := 18) (v := nI len) dX8_feed_15 fl_RX8_47 rfl rfl (ht2) rfl ?_
      refine zx_bipush (q := 20) (v := 100) dX8_feed_18 (by decide) rfl ?_
      refine zx_icmp_ne_t (t := 26) (q := 23) dX8_feed_20 (by decide) rfl (fun z => by rw [show (100 : Int32) = nI 100 from rfl, nI_eq (by omega) (by omega)] at z; omega) ?_
      refine zx_aload_n (q := 27) dX8_feed_26 rfl rfl rfl ?_
      refine zy_getR (q := 30) dX8_feed_27 fl_RX8_56 rfl rfl rfl rfl ?_
      refine zx_aload_n (q := 31) dX8_feed_30 rfl rfl rfl ?_
      refine zy_getIe (q := 34) (v := nI len) dX8_feed_31 fl_RX8_47 rfl rfl (ht2) rfl ?_
      refine zx_iload_n (q := 35) dX8_feed_34 rfl rfl rfl ?_
      refine zy_iastN (q := 36) dX8_feed_35 rfl (by omega) (by decide) rfl ?_
      refine zx_aload_n (q := 37) dX8_feed_36 rfl rfl rfl ?_
      refine zx_dup (q := 38) dX8_feed_37 rfl rfl ?_
      refine zy_getIe (q := 41) (v := nI len) dX8_feed_38 fl_RX8_47 rfl rfl (ht2) rfl ?_
      refine zx_iconst (q := 42) (v := 1) dX8_feed_41 (by decide) rfl ?_
      refine zx_iadd (q := 43) dX8_feed_42 rfl ?_
      rw [nI_1]
      refine zy_putI (q := 46) dX8_feed_43 fl_RX8_47 rfl rfl ⟨rfl, rfl⟩ rfl rfl ?_
      refine zx_aload_n (q := 47) dX8_feed_46 rfl rfl rfl ?_
      refine zy_getIe (q := 50) (v := nI (len + 1)) dX8_feed_47 fl_RX8_47 rfl rfl (rfl) rfl ?_
      refine zx_iret dX8_feed_50 rfl (Nat.le_refl _) (Nat.le_refl _) ⟨_, rfl, ?_⟩
      exact ⟨rfl, _, _, _, rfl, z_rel_feed hR ht1 h3 (by omega)⟩
    · have h4 : len = 100 := by omega
      subst h4
      show zW l D tc A mX7_feed (d + 2) 0 0 0 0 0 [some (.ref 0), some (.int (nI j))] [] (zs gi gl f) _
      refine zx_iload_n (q := 1) dX7_feed_0 rfl rfl rfl ?_
      refine zx_iconst (q := 2) (v := 0) dX7_feed_1 (by decide) rfl ?_
      refine zx_bipush (q := 4) (v := 127) dX7_feed_2 (by decide) rfl ?_
      refine zx_callS3i (q := 7) (y' := mX7_within) dX7_feed_4 ml_RX7_73 ok_mX7_within (Nat.le_of_ble_eq_true rfl) (Nat.le_of_ble_eq_true rfl) (Nat.le_refl _) (Nat.le_refl _) rfl (t_X7_within _ _ _ _) ?_
      rintro _ _ ⟨rfl, rfl⟩
      refine zx_if_ne_t (t := 13) (q := 10) dX7_feed_7 (by decide) rfl (zk_t h1) ?_
      refine zx_aload_n (q := 14) dX7_feed_13 rfl rfl rfl ?_
      refine zy_getR (q := 17) dX7_feed_14 fl_RX7_24 rfl rfl rfl rfl ?_
      refine zy_getIe (q := 20) (v := 100) dX7_feed_17 fl_RX7_116 rfl rfl (ht1) rfl ?_
      refine zx_bipush (q := 22) (v := 100) dX7_feed_20 (by decide) rfl ?_
      refine zx_icmp_lt_f (t := 28) (q := 25) dX7_feed_22 (by decide) rfl (by decide) ?_
      refine zx_bipush (q := 27) (v := (-4)) dX7_feed_25 (by decide) rfl ?_
      refine zx_iret dX7_feed_27 rfl (Nat.le_refl _) (Nat.le_refl _) ⟨_, rfl, ?_⟩
      refine ⟨_, _, _, rfl, ?_⟩
      show zW l D tc A mX8_feed (d + 2) 0 0 0 0 0 [some (.ref 108), some (.int (nI j))] [] (zs _ _ _) _
      refine zx_aload_n (q := 1) dX8_feed_0 rfl rfl rfl ?_
      refine zx_iload_n (q := 2) dX8_feed_1 rfl rfl rfl ?_
      refine zx_iconst (q := 3) (v := 0) dX8_feed_2 (by decide) rfl ?_
      refine zx_bipush (q := 5) (v := 127) dX8_feed_3 (by decide) rfl ?_
      refine zx_callV3i (q := 8) (y' := mX8_in) dX8_feed_5 ml_RX8_200 ok_mX8_in rfl (by decide) rfl (Nat.le_of_ble_eq_true rfl) (Nat.le_of_ble_eq_true rfl) (Nat.le_refl _) (Nat.le_refl _) rfl (t_X8_in _ _ _ _ _) ?_
      rintro _ _ ⟨rfl, rfl⟩
      refine zx_if_ne_t (t := 14) (q := 11) dX8_feed_8 (by decide) rfl (zk_t h1) ?_
      refine zx_aload_n (q := 15) dX8_feed_14 rfl rfl rfl ?_
      refine zy_getIe (q := 18) (v := 100) dX8_feed_15 fl_RX8_47 rfl rfl (ht2) rfl ?_
      refine zx_bipush (q := 20) (v := 100) dX8_feed_18 (by decide) rfl ?_
      refine zx_icmp_ne_f (t := 26) (q := 23) dX8_feed_20 (by decide) rfl (rfl) ?_
      refine zx_bipush (q := 25) (v := (-4)) dX8_feed_23 (by decide) rfl ?_
      refine zx_iret dX8_feed_25 rfl (Nat.le_refl _) (Nat.le_refl _) ⟨_, rfl, ?_⟩
      exact ⟨rfl, _, _, _, rfl, hR⟩
  · show zW l D tc A mX7_feed (d + 2) 0 0 0 0 0 [some (.ref 0), some (.int a)] [] (zs gi gl f) _
    refine zx_iload_n (q := 1) dX7_feed_0 rfl rfl rfl ?_
    refine zx_iconst (q := 2) (v := 0) dX7_feed_1 (by decide) rfl ?_
    refine zx_bipush (q := 4) (v := 127) dX7_feed_2 (by decide) rfl ?_
    refine zx_callS3i (q := 7) (y' := mX7_within) dX7_feed_4 ml_RX7_73 ok_mX7_within (Nat.le_of_ble_eq_true rfl) (Nat.le_of_ble_eq_true rfl) (Nat.le_refl _) (Nat.le_refl _) rfl (t_X7_within _ _ _ _) ?_
    rintro _ _ ⟨rfl, rfl⟩
    refine zx_if_ne_f (t := 13) (q := 10) dX7_feed_7 (by decide) rfl (zk_f h1) ?_
    refine zx_bipush (q := 12) (v := (-2)) dX7_feed_10 (by decide) rfl ?_
    refine zx_iret dX7_feed_12 rfl (Nat.le_refl _) (Nat.le_refl _) ⟨_, rfl, ?_⟩
    refine ⟨_, _, _, rfl, ?_⟩
    show zW l D tc A mX8_feed (d + 2) 0 0 0 0 0 [some (.ref 108), some (.int a)] [] (zs _ _ _) _
    refine zx_aload_n (q := 1) dX8_feed_0 rfl rfl rfl ?_
    refine zx_iload_n (q := 2) dX8_feed_1 rfl rfl rfl ?_
    refine zx_iconst (q := 3) (v := 0) dX8_feed_2 (by decide) rfl ?_
    refine zx_bipush (q := 5) (v := 127) dX8_feed_3 (by decide) rfl ?_
    refine zx_callV3i (q := 8) (y' := mX8_in) dX8_feed_5 ml_RX8_200 ok_mX8_in rfl (by decide) rfl (Nat.le_of_ble_eq_true rfl) (Nat.le_of_ble_eq_true rfl) (Nat.le_refl _) (Nat.le_refl _) rfl (t_X8_in _ _ _ _ _) ?_
    rintro _ _ ⟨rfl, rfl⟩
    refine zx_if_ne_f (t := 14) (q := 11) dX8_feed_8 (by decide) rfl (zk_f h1) ?_
    refine zx_bipush (q := 13) (v := (-2)) dX8_feed_11 (by decide) rfl ?_
    refine zx_iret dX8_feed_13 rfl (Nat.le_refl _) (Nat.le_refl _) ⟨_, rfl, ?_⟩
    exact ⟨rfl, _, _, _, rfl, hR⟩
set_option maxHeartbeats 4000000 in
theorem op_count (d : Nat) (a : Int32) (hR : zRel gi gl) : zOpI l D tc A mX7_count mX8_count d [.int a] gi gl f := by
  obtain ⟨nf, ⟨hf0, hf1, hf2⟩, ⟨ns, nb, mm, ⟨hns, hnb, hmm⟩, ⟨hs1, hs2⟩, ⟨hm1, hm2⟩, ⟨hb1, hb2⟩, ⟨hx1, hx2⟩, hSs, hSn, hSt, hSb⟩, ⟨him, hik⟩, ⟨len, hlen, ht1, ht2, ht3⟩, ⟨ra, hra, ha1, ha2, ha3⟩, hTP, ho, hF, hLt⟩ := id hR
  by_cases h0 : a = 0
  · subst h0
    show zW l D tc A mX7_count d 0 0 0 0 0 [some (.ref 0), some (.int 0)] [] (zs gi gl f) _
    refine zx_iload_n (q := 1) dX7_count_0 rfl rfl rfl ?_
    refine zx_tblIn (t := 36) (off := 35) dX7_count_1 (by decide) (by decide) (by rfl) (by decide) ?_
    refine zx_aload_n (q := 37) dX7_count_36 rfl rfl rfl ?_
    refine zy_getR (q := 40) dX7_count_37 fl_RX7_12 rfl rfl rfl rfl ?_
    refine zy_getIe (q := 43) (v := nI ns) dX7_count_40 fl_RX7_81 rfl rfl (hs1) rfl ?_
    refine zx_iret dX7_count_43 rfl (Nat.le_refl _) (Nat.le_refl _) ⟨_, rfl, ?_⟩
    refine ⟨_, _, _, rfl, ?_⟩
    show zW l D tc A mX8_count d 0 0 0 0 0 [some (.ref 108), some (.int 0)] [] (zs _ _ _) _
    refine zx_iload_n (q := 1) dX8_count_0 rfl rfl rfl ?_
    refine zx_tblIn (t := 36) (off := 35) dX8_count_1 (by decide) (by decide) (by rfl) (by decide) ?_
    refine zx_aload_n (q := 37) dX8_count_36 rfl rfl rfl ?_
    refine zy_getIe (q := 40) (v := nI ns) dX8_count_37 fl_RX8_7 rfl rfl (hs2) rfl ?_
    refine zx_iret dX8_count_40 rfl (Nat.le_refl _) (Nat.le_refl _) ⟨_, rfl, ?_⟩
    exact ⟨rfl, _, _, _, rfl, hR⟩
  · by_cases h1 : a = 1
    · subst h1
      show zW l D tc A mX7_count d 0 0 0 0 0 [some (.ref 0), some (.int 1)] [] (zs gi gl f) _
      refine zx_iload_n (q := 1) dX7_count_0 rfl rfl rfl ?_
      refine zx_tblIn (t := 44) (off := 43) dX7_count_1 (by decide) (by decide) (by rfl) (by decide) ?_
      refine zx_aload_n (q := 45) dX7_count_44 rfl rfl rfl ?_
      refine zy_getIe (q := 48) (v := nI nf) dX7_count_45 fl_RX7_123 rfl rfl (hf1) rfl ?_
      refine zx_iret dX7_count_48 rfl (Nat.le_refl _) (Nat.le_refl _) ⟨_, rfl, ?_⟩
      refine ⟨_, _, _, rfl, ?_⟩
      show zW l D tc A mX8_count d 0 0 0 0 0 [some (.ref 108), some (.int 1)] [] (zs _ _ _) _
      refine zx_iload_n (q := 1) dX8_count_0 rfl rfl rfl ?_
      refine zx_tblIn (t := 41) (off := 40) dX8_count_1 (by decide) (by decide) (by rfl) (by decide) ?_
      refine zx_aload_n (q := 42) dX8_count_41 rfl rfl rfl ?_
      refine zy_getIe (q := 45) (v := nI nf) dX8_count_42 fl_RX8_41 rfl rfl (hf2) rfl ?_
      refine zx_iret dX8_count_45 rfl (Nat.le_refl _) (Nat.le_refl _) ⟨_, rfl, ?_⟩
      exact ⟨rfl, _, _, _, rfl, hR⟩
    · by_cases h2 : a = 2
      · subst h2
        show zW l D tc A mX7_count d 0 0 0 0 0 [some (.ref 0), some (.int 2)] [] (zs gi gl f) _
        refine zx_iload_n (q := 1) dX7_count_0 rfl rfl rfl ?_
        refine zx_tblIn (t := 49) (off := 48) dX7_count_1 (by decide) (by decide) (by rfl) (by decide) ?_
        refine zx_aload_n (q := 50) dX7_count_49 rfl rfl rfl ?_
        refine zy_getR (q := 53) dX7_count_50 fl_RX7_12 rfl rfl rfl rfl ?_
        refine zy_getIe (q := 56) (v := nI nb) dX7_count_53 fl_RX7_227 rfl rfl (hb1) rfl ?_
        refine zx_iret dX7_count_56 rfl (Nat.le_refl _) (Nat.le_refl _) ⟨_, rfl, ?_⟩
        refine ⟨_, _, _, rfl, ?_⟩
        show zW l D tc A mX8_count d 0 0 0 0 0 [some (.ref 108), some (.int 2)] [] (zs _ _ _) _
        refine zx_iload_n (q := 1) dX8_count_0 rfl rfl rfl ?_
        refine zx_tblIn (t := 46) (off := 45) dX8_count_1 (by decide) (by decide) (by rfl) (by decide) ?_
        refine zx_aload_n (q := 47) dX8_count_46 rfl rfl rfl ?_
        refine zy_getIe (q := 50) (v := nI nb) dX8_count_47 fl_RX8_126 rfl rfl (hb2) rfl ?_
        refine zx_iret dX8_count_50 rfl (Nat.le_refl _) (Nat.le_refl _) ⟨_, rfl, ?_⟩
        exact ⟨rfl, _, _, _, rfl, hR⟩
      · by_cases h3 : a = 3
        · subst h3
          show zW l D tc A mX7_count d 0 0 0 0 0 [some (.ref 0), some (.int 3)] [] (zs gi gl f) _
          refine zx_iload_n (q := 1) dX7_count_0 rfl rfl rfl ?_
          refine zx_tblIn (t := 57) (off := 56) dX7_count_1 (by decide) (by decide) (by rfl) (by decide) ?_
          refine zx_aload_n (q := 58) dX7_count_57 rfl rfl rfl ?_
          refine zy_getR (q := 61) dX7_count_58 fl_RX7_24 rfl rfl rfl rfl ?_
          refine zy_getIe (q := 64) (v := nI len) dX7_count_61 fl_RX7_116 rfl rfl (ht1) rfl ?_
          refine zx_iret dX7_count_64 rfl (Nat.le_refl _) (Nat.le_refl _) ⟨_, rfl, ?_⟩
          refine ⟨_, _, _, rfl, ?_⟩
          show zW l D tc A mX8_count d 0 0 0 0 0 [some (.ref 108), some (.int 3)] [] (zs _ _ _) _
          refine zx_iload_n (q := 1) dX8_count_0 rfl rfl rfl ?_
          refine zx_tblIn (t := 51) (off := 50) dX8_count_1 (by decide) (by decide) (by rfl) (by decide) ?_
          refine zx_aload_n (q := 52) dX8_count_51 rfl rfl rfl ?_
          refine zy_getIe (q := 55) (v := nI len) dX8_count_52 fl_RX8_47 rfl rfl (ht2) rfl ?_
          refine zx_iret dX8_count_55 rfl (Nat.le_refl _) (Nat.le_refl _) ⟨_, rfl, ?_⟩
          exact ⟨rfl, _, _, _, rfl, hR⟩
        · by_cases h4 : a = 4
          · subst h4
            show zW l D tc A mX7_count d 0 0 0 0 0 [some (.ref 0), some (.int 4)] [] (zs gi gl f) _
            refine zx_iload_n (q := 1) dX7_count_0 rfl rfl rfl ?_
            refine zx_tblIn (t := 65) (off := 64) dX7_count_1 (by decide) (by decide) (by rfl) (by decide) ?_
            refine zx_aload_n (q := 66) dX7_count_65 rfl rfl rfl ?_
            refine zy_getR (q := 69) dX7_count_66 fl_RX7_62 rfl rfl rfl rfl ?_
            refine zy_getIe (q := 72) (v := nI ra) dX7_count_69 fl_RX7_268 rfl rfl (ha1) rfl ?_
            refine zx_iret dX7_count_72 rfl (Nat.le_refl _) (Nat.le_refl _) ⟨_, rfl, ?_⟩
            refine ⟨_, _, _, rfl, ?_⟩
            show zW l D tc A mX8_count d 0 0 0 0 0 [some (.ref 108), some (.int 4)] [] (zs _ _ _) _
            refine zx_iload_n (q := 1) dX8_count_0 rfl rfl rfl ?_
            refine zx_tblIn (t := 56) (off := 55) dX8_count_1 (by decide) (by decide) (by rfl) (by decide) ?_
            refine zx_aload_n (q := 57) dX8_count_56 rfl rfl rfl ?_
            refine zy_getIe (q := 60) (v := nI ra) dX8_count_57 fl_RX8_181 rfl rfl (ha2) rfl ?_
            refine zx_iret dX8_count_60 rfl (Nat.le_refl _) (Nat.le_refl _) ⟨_, rfl, ?_⟩
            exact ⟨rfl, _, _, _, rfl, hR⟩
          · show zW l D tc A mX7_count d 0 0 0 0 0 [some (.ref 0), some (.int a)] [] (zs gi gl f) _
            refine zx_iload_n (q := 1) dX7_count_0 rfl rfl rfl ?_
            refine zx_tblOut (t := 73) dX7_count_1 (by have z0 := lv_neT (a := 0) h0 (by decide); have z1 := lv_neT (a := 1) h1 (by decide); have z2 := lv_neT (a := 2) h2 (by decide); have z3 := lv_neT (a := 3) h3 (by decide); have z4 := lv_neT (a := 4) h4 (by decide); omega) (by decide) ?_
            refine zx_bipush (q := 75) (v := (-2)) dX7_count_73 (by decide) rfl ?_
            refine zx_iret dX7_count_75 rfl (Nat.le_refl _) (Nat.le_refl _) ⟨_, rfl, ?_⟩
            refine ⟨_, _, _, rfl, ?_⟩
            show zW l D tc A mX8_count d 0 0 0 0 0 [some (.ref 108), some (.int a)] [] (zs _ _ _) _
            refine zx_iload_n (q := 1) dX8_count_0 rfl rfl rfl ?_
            refine zx_tblOut (t := 61) dX8_count_1 (by have z0 := lv_neT (a := 0) h0 (by decide); have z1 := lv_neT (a := 1) h1 (by decide); have z2 := lv_neT (a := 2) h2 (by decide); have z3 := lv_neT (a := 3) h3 (by decide); have z4 := lv_neT (a := 4) h4 (by decide); omega) (by decide) ?_
            refine zx_bipush (q := 63) (v := (-2)) dX8_count_61 (by decide) rfl ?_
            refine zx_iret dX8_count_63 rfl (Nat.le_refl _) (Nat.le_refl _) ⟨_, rfl, ?_⟩
            exact ⟨rfl, _, _, _, rfl, hR⟩
theorem z_min20 {r : Nat} (h : r ≤ 1000) : (if (20 : Int32) < nI r then (20 : Int32) else nI r) = nI (if r < 20 then r else 20) := by
  by_cases c : r ≤ 20
  · rw [if_neg (by rw [show (20 : Int32) = nI 20 from rfl]; exact nI_nlt c (by decide))]
    split
    · rfl
    · rw [show r = 20 by omega]
  · rw [if_pos (by rw [show (20 : Int32) = nI 20 from rfl]; exact nI_lt (by omega) (by omega)), if_neg (by omega)]
    rfl
theorem z_in_pred {j m : Nat} (hj : j < 2 ^ 31) (hm : m < 2 ^ 31) : z_in (nI j) 0 (nI m - 1) = decide (j < m) := by
  have h4 : (0 : Int32).toInt = 0 := by decide
  cases m with
  | zero =>
    have h1 : ((nI 0 - 1 : Int32)).toInt = -1 := by decide
    rw [show decide (j < 0) = false by simp]
    rw [z_in_ff, h1, nI_toInt hj]
    omega
  | succ m =>
    rw [nI_pred]
    by_cases c : j < m + 1
    · rw [show decide (j < m + 1) = true by simp [c], z_in_tt, nI_toInt hj, nI_toInt (by omega)]
      omega
    · rw [show decide (j < m + 1) = false by simp [c], z_in_ff, nI_toInt hj, nI_toInt (by omega)]
      omega
theorem z_in_pred_no {v : Int32} {m n : Nat} (hm : m ≤ n) (hn : n < 2 ^ 31) (h : ¬ z_in v 0 (nI n - 1) = true) : ¬ z_in v 0 (nI m - 1) = true := by
  intro c
  by_cases h0 : v < 0
  · rw [z_in_tt] at c
    have h4 : (0 : Int32).toInt = 0 := by decide
    rw [Int32.lt_iff_toInt_lt] at h0
    omega
  · obtain ⟨j, hj, rfl⟩ := nI_of h0
    rw [z_in_pred hj (by omega)] at c h
    simp only [decide_eq_true_eq] at c h
    omega
set_option maxHeartbeats 4000000 in
theorem op_trace (d : Nat) (a : Int32) (hR : zRel gi gl) : zOpI l D tc A mX7_trace mX8_trace (d + 2) [.int a] gi gl f := by
  obtain ⟨nf, ⟨hf0, hf1, hf2⟩, ⟨ns, nb, mm, ⟨hns, hnb, hmm⟩, ⟨hs1, hs2⟩, ⟨hm1, hm2⟩, ⟨hb1, hb2⟩, ⟨hx1, hx2⟩, hSs, hSn, hSt, hSb⟩, ⟨him, hik⟩, ⟨len, hlen, ht1, ht2, ht3⟩, ⟨ra, hra, ha1, ha2, ha3⟩, hTP, ho, hF, hLt⟩ := id hR
  by_cases h1 : z_in a 0 19 = true
  · obtain ⟨j, hj, rfl⟩ := z_inT 19 (by decide) h1
    by_cases h2 : j < ra
    · show zW l D tc A mX7_trace (d + 2) 0 0 0 0 0 [some (.ref 0), some (.int (nI j))] [] (zs gi gl f) _
      refine zx_iload_n (q := 1) dX7_trace_0 rfl rfl rfl ?_
      refine zx_iconst (q := 2) (v := 0) dX7_trace_1 (by decide) rfl ?_
      refine zx_aload_n (q := 3) dX7_trace_2 rfl rfl rfl ?_
      refine zy_getR (q := 6) dX7_trace_3 fl_RX7_62 rfl rfl rfl rfl ?_
      refine zy_getIe (q := 9) (v := nI ra) dX7_trace_6 fl_RX7_268 rfl rfl (ha1) rfl ?_
      refine zx_bipush (q := 11) (v := 20) dX7_trace_9 (by decide) rfl ?_
      refine zx_mmin (q := 14) dX7_trace_11 ml_RX7_271 (Nat.le_of_ble_eq_true rfl) (Nat.le_refl _) (Nat.le_refl _) rfl ?_
      rw [z_min20 hra]
      refine zx_iconst (q := 15) (v := 1) dX7_trace_14 (by decide) rfl ?_
      refine zx_isub (q := 16) dX7_trace_15 rfl ?_
      refine zx_callS3i (q := 19) (y' := mX7_within) dX7_trace_16 ml_RX7_73 ok_mX7_within (Nat.le_of_ble_eq_true rfl) (Nat.le_of_ble_eq_true rfl) (Nat.le_refl _) (Nat.le_refl _) rfl (t_X7_within _ _ _ _) ?_
      rintro _ _ ⟨rfl, rfl⟩
      refine zx_if_eq_f (t := 34) (q := 22) dX7_trace_19 (by decide) rfl (zk_t (by rw [z_in_pred (by omega) (by split <;> omega), decide_eq_true_eq]; split <;> omega)) ?_
      refine zx_aload_n (q := 23) dX7_trace_22 rfl rfl rfl ?_
      refine zy_getR (q := 26) dX7_trace_23 fl_RX7_62 rfl rfl rfl rfl ?_
      refine zy_getR (q := 29) dX7_trace_26 fl_RX7_276 rfl rfl rfl rfl ?_
      refine zx_iload_n (q := 30) dX7_trace_29 rfl rfl rfl ?_
      refine zy_ialdN (q := 31) dX7_trace_30 rfl (by omega) (by decide) rfl ?_
      refine zx_goto (t := 35) dX7_trace_31 (by decide) ?_
      refine zx_iret dX7_trace_35 rfl (Nat.le_refl _) (Nat.le_refl _) ⟨_, rfl, ?_⟩
      refine ⟨_, _, _, rfl, ?_⟩
      show zW l D tc A mX8_trace (d + 2) 0 0 0 0 0 [some (.ref 108), some (.int (nI j))] [] (zs _ _ _) _
      refine zx_aload_n (q := 1) dX8_trace_0 rfl rfl rfl ?_
      refine zx_iload_n (q := 2) dX8_trace_1 rfl rfl rfl ?_
      refine zx_iconst (q := 3) (v := 0) dX8_trace_2 (by decide) rfl ?_
      refine zx_bipush (q := 5) (v := 19) dX8_trace_3 (by decide) rfl ?_
      refine zx_callV3i (q := 8) (y' := mX8_in) dX8_trace_5 ml_RX8_200 ok_mX8_in rfl (by decide) rfl (Nat.le_of_ble_eq_true rfl) (Nat.le_of_ble_eq_true rfl) (Nat.le_refl _) (Nat.le_refl _) rfl (t_X8_in _ _ _ _ _) ?_
      rintro _ _ ⟨rfl, rfl⟩
      refine zx_if_eq_f (t := 28) (q := 11) dX8_trace_8 (by decide) rfl (zk_t h1) ?_
      refine zx_iload_n (q := 12) dX8_trace_11 rfl rfl rfl ?_
      refine zx_aload_n (q := 13) dX8_trace_12 rfl rfl rfl ?_
      refine zy_getIe (q := 16) (v := nI ra) dX8_trace_13 fl_RX8_181 rfl rfl (ha2) rfl ?_
      refine zx_icmp_ge_f (t := 28) (q := 19) dX8_trace_16 (by decide) rfl (nI_ge h2 (by omega)) ?_
      refine zx_aload_n (q := 20) dX8_trace_19 rfl rfl rfl ?_
      refine zy_getR (q := 23) dX8_trace_20 fl_RX8_184 rfl rfl rfl rfl ?_
      refine zx_iload_n (q := 24) dX8_trace_23 rfl rfl rfl ?_
      refine zy_ialdN (q := 25) dX8_trace_24 rfl (by omega) (by decide) rfl ?_
      refine zx_goto (t := 29) dX8_trace_25 (by decide) ?_
      refine zx_iret dX8_trace_29 rfl (Nat.le_refl _) (Nat.le_refl _) ⟨_, rfl, ?_⟩
      exact ⟨(ha3 j (by omega)).symm, _, _, _, rfl, hR⟩
    · show zW l D tc A mX7_trace (d + 2) 0 0 0 0 0 [some (.ref 0), some (.int (nI j))] [] (zs gi gl f) _
      refine zx_iload_n (q := 1) dX7_trace_0 rfl rfl rfl ?_
      refine zx_iconst (q := 2) (v := 0) dX7_trace_1 (by decide) rfl ?_
      refine zx_aload_n (q := 3) dX7_trace_2 rfl rfl rfl ?_
      refine zy_getR (q := 6) dX7_trace_3 fl_RX7_62 rfl rfl rfl rfl ?_
      refine zy_getIe (q := 9) (v := nI ra) dX7_trace_6 fl_RX7_268 rfl rfl (ha1) rfl ?_
      refine zx_bipush (q := 11) (v := 20) dX7_trace_9 (by decide) rfl ?_
      refine zx_mmin (q := 14) dX7_trace_11 ml_RX7_271 (Nat.le_of_ble_eq_true rfl) (Nat.le_refl _) (Nat.le_refl _) rfl ?_
      rw [z_min20 hra]
      refine zx_iconst (q := 15) (v := 1) dX7_trace_14 (by decide) rfl ?_
      refine zx_isub (q := 16) dX7_trace_15 rfl ?_
      refine zx_callS3i (q := 19) (y' := mX7_within) dX7_trace_16 ml_RX7_73 ok_mX7_within (Nat.le_of_ble_eq_true rfl) (Nat.le_of_ble_eq_true rfl) (Nat.le_refl _) (Nat.le_refl _) rfl (t_X7_within _ _ _ _) ?_
      rintro _ _ ⟨rfl, rfl⟩
      refine zx_if_eq_t (t := 34) (q := 22) dX7_trace_19 (by decide) rfl (zk_f (by rw [z_in_pred (by omega) (by split <;> omega), decide_eq_true_eq]; split <;> omega)) ?_
      refine zx_iconst (q := 35) (v := (-1)) dX7_trace_34 (by decide) rfl ?_
      refine zx_iret dX7_trace_35 rfl (Nat.le_refl _) (Nat.le_refl _) ⟨_, rfl, ?_⟩
      refine ⟨_, _, _, rfl, ?_⟩
      show zW l D tc A mX8_trace (d + 2) 0 0 0 0 0 [some (.ref 108), some (.int (nI j))] [] (zs _ _ _) _
      refine zx_aload_n (q := 1) dX8_trace_0 rfl rfl rfl ?_
      refine zx_iload_n (q := 2) dX8_trace_1 rfl rfl rfl ?_
      refine zx_iconst (q := 3) (v := 0) dX8_trace_2 (by decide) rfl ?_
      refine zx_bipush (q := 5) (v := 19) dX8_trace_3 (by decide) rfl ?_
      refine zx_callV3i (q := 8) (y' := mX8_in) dX8_trace_5 ml_RX8_200 ok_mX8_in rfl (by decide) rfl (Nat.le_of_ble_eq_true rfl) (Nat.le_of_ble_eq_true rfl) (Nat.le_refl _) (Nat.le_refl _) rfl (t_X8_in _ _ _ _ _) ?_
      rintro _ _ ⟨rfl, rfl⟩
      refine zx_if_eq_f (t := 28) (q := 11) dX8_trace_8 (by decide) rfl (zk_t h1) ?_
      refine zx_iload_n (q := 12) dX8_trace_11 rfl rfl rfl ?_
      refine zx_aload_n (q := 13) dX8_trace_12 rfl rfl rfl ?_
      refine zy_getIe (q := 16) (v := nI ra) dX8_trace_13 fl_RX8_181 rfl rfl (ha2) rfl ?_
      refine zx_icmp_ge_t (t := 28) (q := 19) dX8_trace_16 (by decide) rfl (nI_le (by omega) (by omega)) ?_
      refine zx_iconst (q := 29) (v := (-1)) dX8_trace_28 (by decide) rfl ?_
      refine zx_iret dX8_trace_29 rfl (Nat.le_refl _) (Nat.le_refl _) ⟨_, rfl, ?_⟩
      exact ⟨rfl, _, _, _, rfl, hR⟩
  · show zW l D tc A mX7_trace (d + 2) 0 0 0 0 0 [some (.ref 0), some (.int a)] [] (zs gi gl f) _
    refine zx_iload_n (q := 1) dX7_trace_0 rfl rfl rfl ?_
    refine zx_iconst (q := 2) (v := 0) dX7_trace_1 (by decide) rfl ?_
    refine zx_aload_n (q := 3) dX7_trace_2 rfl rfl rfl ?_
    refine zy_getR (q := 6) dX7_trace_3 fl_RX7_62 rfl rfl rfl rfl ?_
    refine zy_getIe (q := 9) (v := nI ra) dX7_trace_6 fl_RX7_268 rfl rfl (ha1) rfl ?_
    refine zx_bipush (q := 11) (v := 20) dX7_trace_9 (by decide) rfl ?_
    refine zx_mmin (q := 14) dX7_trace_11 ml_RX7_271 (Nat.le_of_ble_eq_true rfl) (Nat.le_refl _) (Nat.le_refl _) rfl ?_
    rw [z_min20 hra]
    refine zx_iconst (q := 15) (v := 1) dX7_trace_14 (by decide) rfl ?_
    refine zx_isub (q := 16) dX7_trace_15 rfl ?_
    refine zx_callS3i (q := 19) (y' := mX7_within) dX7_trace_16 ml_RX7_73 ok_mX7_within (Nat.le_of_ble_eq_true rfl) (Nat.le_of_ble_eq_true rfl) (Nat.le_refl _) (Nat.le_refl _) rfl (t_X7_within _ _ _ _) ?_
    rintro _ _ ⟨rfl, rfl⟩
    refine zx_if_eq_t (t := 34) (q := 22) dX7_trace_19 (by decide) rfl (zk_f (z_in_pred_no (n := 20) (by split <;> omega) (by decide) h1)) ?_
    refine zx_iconst (q := 35) (v := (-1)) dX7_trace_34 (by decide) rfl ?_
    refine zx_iret dX7_trace_35 rfl (Nat.le_refl _) (Nat.le_refl _) ⟨_, rfl, ?_⟩
    refine ⟨_, _, _, rfl, ?_⟩
    show zW l D tc A mX8_trace (d + 2) 0 0 0 0 0 [some (.ref 108), some (.int a)] [] (zs _ _ _) _
    refine zx_aload_n (q := 1) dX8_trace_0 rfl rfl rfl ?_
    refine zx_iload_n (q := 2) dX8_trace_1 rfl rfl rfl ?_
    refine zx_iconst (q := 3) (v := 0) dX8_trace_2 (by decide) rfl ?_
    refine zx_bipush (q := 5) (v := 19) dX8_trace_3 (by decide) rfl ?_
    refine zx_callV3i (q := 8) (y' := mX8_in) dX8_trace_5 ml_RX8_200 ok_mX8_in rfl (by decide) rfl (Nat.le_of_ble_eq_true rfl) (Nat.le_of_ble_eq_true rfl) (Nat.le_refl _) (Nat.le_refl _) rfl (t_X8_in _ _ _ _ _) ?_
    rintro _ _ ⟨rfl, rfl⟩
    refine zx_if_eq_t (t := 28) (q := 11) dX8_trace_8 (by decide) rfl (zk_f h1) ?_
    refine zx_iconst (q := 29) (v := (-1)) dX8_trace_28 (by decide) rfl ?_
    refine zx_iret dX8_trace_29 rfl (Nat.le_refl _) (Nat.le_refl _) ⟨_, rfl, ?_⟩
    exact ⟨rfl, _, _, _, rfl, hR⟩
/-- a kind is another, or under it -/
def z_kof (k m : Nat) : Prop := m = 0 ∨ m = k ∨ (k = 4 ∧ m = 1) ∨ (k = 5 ∧ m = 2) ∨ (k = 6 ∧ m = 3)
theorem z_ka (k m : Nat) (hk : k < 7) (hm : m < 7) : z_kof k m ↔ (nI m = 0 ∨ nI m = nI k ∨ nI m = zw_KA k) := by
  unfold z_kof
  have key : ∀ k, k < 7 → ∀ m, m < 7 → ((m = 0 ∨ m = k ∨ (k = 4 ∧ m = 1) ∨ (k = 5 ∧ m = 2) ∨ (k = 6 ∧ m = 3)) ↔ (nI m = 0 ∨ nI m = nI k ∨ nI m = zw_KA k)) := by decide +kernel
  exact key k hk m hm
theorem t_X7_isKindOf (d k m : Nat) (hk : k < 7) (hm : m < 7) : zCall l D tc A mX7_isKindOf d 0 0 [.int (nI k), .int (nI m)] (zs gi gl f) (zQi fun r S' => S' = zs gi gl f ∧ ((r = 1 ∧ z_kof k m) ∨ (r = 0 ∧ ¬ z_kof k m))) := by
  show zW l D tc A mX7_isKindOf d 0 0 0 0 0 [some (.int (nI k)), some (.int (nI m))] [] (zs gi gl f) _
  refine zx_iload_n (q := 1) dX7_isKindOf_0 rfl rfl rfl ?_
  refine zx_if_eq (q := 4) (t := 18) dX7_isKindOf_1 (by decide) rfl (fun c_1 => ?_) (fun c_1 => ?_)
  · refine zx_iconst (q := 19) (v := 1) dX7_isKindOf_18 (by decide) rfl ?_
    refine zx_goto (t := 23) dX7_isKindOf_19 (by decide) ?_
    refine zx_zret dX7_isKindOf_23 rfl (by first | rfl | exact zb_nar _) (Nat.le_refl _) (Nat.le_refl _) ⟨_, rfl, ?_⟩
    refine ⟨rfl, ?_⟩
    rw [z_ka k m hk hm]
    simp_all
  · refine zx_iload_n (q := 5) dX7_isKindOf_4 rfl rfl rfl ?_
    refine zx_iload_n (q := 6) dX7_isKindOf_5 rfl rfl rfl ?_
    refine zx_icmp_eq (q := 9) (t := 18) dX7_isKindOf_6 (by decide) rfl (fun c_6 => ?_) (fun c_6 => ?_)
    · refine zx_iconst (q := 19) (v := 1) dX7_isKindOf_18 (by decide) rfl ?_
      refine zx_goto (t := 23) dX7_isKindOf_19 (by decide) ?_
      refine zx_zret dX7_isKindOf_23 rfl (by first | rfl | exact zb_nar _) (Nat.le_refl _) (Nat.le_refl _) ⟨_, rfl, ?_⟩
      refine ⟨rfl, ?_⟩
      rw [z_ka k m hk hm]
      simp_all
    · refine zx_iload_n (q := 10) dX7_isKindOf_9 rfl rfl rfl ?_
      refine zx_gsKA (q := 13) dX7_isKindOf_10 sf_RX7_292 rfl ?_
      refine zx_iload_n (q := 14) dX7_isKindOf_13 rfl rfl rfl ?_
      refine zx_taKA (q := 15) dX7_isKindOf_14 (vp_in_nI hk (by decide)) rfl ?_
      rw [nI_clamp (by omega)]
      refine zx_icmp_ne (q := 18) (t := 22) dX7_isKindOf_15 (by decide) rfl (fun c_15 => ?_) (fun c_15 => ?_)
      · refine zx_iconst (q := 23) (v := 0) dX7_isKindOf_22 (by decide) rfl ?_
        refine zx_zret dX7_isKindOf_23 rfl (by first | rfl | exact zb_nar _) (Nat.le_refl _) (Nat.le_refl _) ⟨_, rfl, ?_⟩
        refine ⟨rfl, ?_⟩
        rw [z_ka k m hk hm]
        simp_all
      · refine zx_iconst (q := 19) (v := 1) dX7_isKindOf_18 (by decide) rfl ?_
        refine zx_goto (t := 23) dX7_isKindOf_19 (by decide) ?_
        refine zx_zret dX7_isKindOf_23 rfl (by first | rfl | exact zb_nar _) (Nat.le_refl _) (Nat.le_refl _) ⟨_, rfl, ?_⟩
        refine ⟨rfl, ?_⟩
        rw [z_ka k m hk hm]
        simp_all
set_option maxHeartbeats 4000000 in
theorem op_taken (d : Nat) (a : Int32) (b : Int32) (hR : zRel gi gl) : zOpI l D tc A mX7_taken mX8_taken (d + 2) [.int a, .int b] gi gl f := by
  obtain ⟨nf, ⟨hf0, hf1, hf2⟩, ⟨ns, nb, mm, ⟨hns, hnb, hmm⟩, ⟨hs1, hs2⟩, ⟨hm1, hm2⟩, ⟨hb1, hb2⟩, ⟨hx1, hx2⟩, hSs, hSn, hSt, hSb⟩, ⟨him, hik⟩, ⟨len, hlen, ht1, ht2, ht3⟩, ⟨ra, hra, ha1, ha2, ha3⟩, hTP, ho, hF, hLt⟩ := id hR
  by_cases h1 : z_in b 0 6 = true
  · obtain ⟨m, hm, rfl⟩ := z_inT 6 (by decide) h1
    by_cases h2 : z_in a 0 (nI ns - 1) = true
    · obtain ⟨s, hs, rfl⟩ := z_inU hns h2
      have g := hSs s hs
      have g1 := g.1
      obtain ⟨kk, hkk, hkk2⟩ := z_rgN (n := 6) g1.2
      have hkI : (nI kk).toInt = kk := nI_toInt (by omega)
      have hmI : (nI m).toInt = m := nI_toInt (by omega)
      clear hx2 hik hF hSn hSt hSb hTP hLt
      show zW l D tc A mX7_taken (d + 2) 0 0 0 0 0 [some (.ref 0), some (.int (nI s)), some (.int (nI m)), none] [] (zs gi gl f) _
      refine zx_iload_n (q := 1) dX7_taken_0 rfl rfl rfl ?_
      refine zx_iconst (q := 2) (v := 0) dX7_taken_1 (by decide) rfl ?_
      refine zx_bipush (q := 4) (v := 6) dX7_taken_2 (by decide) rfl ?_
      refine zx_callS3i (q := 7) (y' := mX7_within) dX7_taken_4 ml_RX7_73 ok_mX7_within (Nat.le_of_ble_eq_true rfl) (Nat.le_of_ble_eq_true rfl) (Nat.le_refl _) (Nat.le_refl _) rfl (t_X7_within _ _ _ _) ?_
      rintro _ _ ⟨rfl, rfl⟩
      refine zx_if_ne_t (t := 13) (q := 10) dX7_taken_7 (by decide) rfl (zk_t h1) ?_
      refine zx_aload_n (q := 14) dX7_taken_13 rfl rfl rfl ?_
      refine zx_iload_n (q := 15) dX7_taken_14 rfl rfl rfl ?_
      refine zx_callV1i (q := 18) (y' := mX7_isSort) dX7_taken_15 ml_RX7_89 ok_mX7_isSort rfl (by decide) rfl (Nat.le_of_ble_eq_true rfl) (Nat.le_of_ble_eq_true rfl) (Nat.le_refl _) (Nat.le_refl _) rfl (t_X7_isSort _ _) ?_
      rintro _ _ ⟨rfl, rfl⟩
      refine zx_if_ne_t (t := 24) (q := 21) dX7_taken_18 (by decide) rfl (zk_t (by show z_in (nI s) 0 (gi 1 0 - 1) = true; rw [hs1]; exact z_inS_at hns hs)) ?_
      refine zx_aload_n (q := 25) dX7_taken_24 rfl rfl rfl ?_
      refine zy_getR (q := 28) dX7_taken_25 fl_RX7_12 rfl rfl rfl rfl ?_
      refine zy_getR (q := 31) dX7_taken_28 fl_RX7_85 rfl rfl rfl rfl ?_
      refine zx_iload_n (q := 32) dX7_taken_31 rfl rfl rfl ?_
      refine zy_aaldN (q := 33) dX7_taken_32 rfl (by decide) (by omega) (by decide) (zr_2 (by omega)).1 rfl ?_
      refine zx_iconst (q := 34) (v := 0) dX7_taken_33 (by decide) rfl ?_
      refine zy_iald (q := 35) dX7_taken_34 (zr_2 (f := f) (by omega)).2 (vp_in_nI (n := 0) (by decide) (by decide)) rfl ?_
      rw [show gi (3 + s) (0 : Int32).toNatClampNeg = nI kk from by rw [show (0 : Int32).toNatClampNeg = 0 from by decide]; exact g1.1.trans hkk2]
      refine zx_istore3 (q := 36) dX7_taken_35 rfl rfl ?_
      refine zx_iload_n (q := 37) dX7_taken_36 rfl rfl rfl ?_
      refine zx_iload_n (q := 38) dX7_taken_37 rfl rfl rfl ?_
      refine zx_callS2i (q := 41) (y' := mX7_isKindOf) dX7_taken_38 ml_RX7_279 ok_mX7_isKindOf (Nat.le_of_ble_eq_true rfl) (Nat.le_of_ble_eq_true rfl) (Nat.le_refl _) (Nat.le_refl _) rfl (t_X7_isKindOf _ kk m (by omega) (by omega)) ?_
      rintro r _ ⟨rfl, hr⟩
      rcases hr with ⟨rfl, hr⟩ | ⟨rfl, hr⟩
      · refine zx_if_eq_f (t := 48) (q := 44) dX7_taken_41 (by decide) rfl (by decide) ?_
        refine zx_iload_n (q := 45) dX7_taken_44 rfl rfl rfl ?_
        refine zx_goto (t := 50) dX7_taken_45 (by decide) ?_
        refine zx_iret dX7_taken_50 rfl (Nat.le_refl _) (Nat.le_refl _) ⟨_, rfl, ?_⟩
        refine ⟨_, _, _, rfl, ?_⟩
        show zW l D tc A mX8_taken (d + 2) 0 0 0 0 0 [some (.ref 108), some (.int (nI s)), some (.int (nI m)), none] [] (zs _ _ _) _
        refine zx_aload_n (q := 1) dX8_taken_0 rfl rfl rfl ?_
        refine zx_iload_n (q := 2) dX8_taken_1 rfl rfl rfl ?_
        refine zx_iconst (q := 3) (v := 0) dX8_taken_2 (by decide) rfl ?_
        refine zx_bipush (q := 5) (v := 6) dX8_taken_3 (by decide) rfl ?_
        refine zx_callV3i (q := 8) (y' := mX8_in) dX8_taken_5 ml_RX8_200 ok_mX8_in rfl (by decide) rfl (Nat.le_of_ble_eq_true rfl) (Nat.le_of_ble_eq_true rfl) (Nat.le_refl _) (Nat.le_refl _) rfl (t_X8_in _ _ _ _ _) ?_
        rintro _ _ ⟨rfl, rfl⟩
        refine zx_if_ne_t (t := 14) (q := 11) dX8_taken_8 (by decide) rfl (zk_t h1) ?_
        refine zx_aload_n (q := 15) dX8_taken_14 rfl rfl rfl ?_
        refine zx_iload_n (q := 16) dX8_taken_15 rfl rfl rfl ?_
        refine zx_callV1i (q := 19) (y' := mX8_isSort) dX8_taken_16 ml_RX8_208 ok_mX8_isSort rfl (by decide) rfl (Nat.le_of_ble_eq_true rfl) (Nat.le_of_ble_eq_true rfl) (Nat.le_refl _) (Nat.le_refl _) rfl (t_X8_isSort _ _) ?_
        rintro _ _ ⟨rfl, rfl⟩
        refine zx_if_ne_t (t := 25) (q := 22) dX8_taken_19 (by decide) rfl (zk_t (by show z_in (nI s) 0 (gi 108 0 - 1) = true; rw [hs2]; exact z_inS_at hns hs)) ?_
        refine zx_aload_n (q := 26) dX8_taken_25 rfl rfl rfl ?_
        refine zy_getR (q := 29) dX8_taken_26 fl_RX8_16 rfl rfl rfl rfl ?_
        refine zx_iload_n (q := 30) dX8_taken_29 rfl rfl rfl ?_
        refine zy_ialdN (q := 31) dX8_taken_30 rfl (by omega) (by decide) rfl ?_
        rw [hkk2]
        refine zx_istore3 (q := 32) dX8_taken_31 rfl rfl ?_
        refine zx_iload_n (q := 33) dX8_taken_32 rfl rfl rfl ?_
        refine zx_if_eq (q := 36) (t := 72) dX8_taken_33 (by decide) rfl (fun e_33 => ?_) (fun e_33 => ?_)
        · refine zx_iload_n (q := 73) dX8_taken_72 rfl rfl rfl ?_
          refine zx_goto (t := 78) dX8_taken_73 (by decide) ?_
          refine zx_iret dX8_taken_78 rfl (Nat.le_refl _) (Nat.le_refl _) ⟨_, rfl, ?_⟩
          first
            | exact ⟨rfl, _, _, _, rfl, hR⟩
            | (exfalso; simp only [z_eqI, hkI, hmI, Int32.reduceToInt] at *; unfold z_kof at hr; omega)
        · refine zx_iload_n (q := 37) dX8_taken_36 rfl rfl rfl ?_
          refine zx_iload_n (q := 38) dX8_taken_37 rfl rfl rfl ?_
          refine zx_icmp_eq (q := 41) (t := 72) dX8_taken_38 (by decide) rfl (fun e_38 => ?_) (fun e_38 => ?_)
          · refine zx_iload_n (q := 73) dX8_taken_72 rfl rfl rfl ?_
            refine zx_goto (t := 78) dX8_taken_73 (by decide) ?_
            refine zx_iret dX8_taken_78 rfl (Nat.le_refl _) (Nat.le_refl _) ⟨_, rfl, ?_⟩
            first
              | exact ⟨rfl, _, _, _, rfl, hR⟩
              | (exfalso; simp only [z_eqI, hkI, hmI, Int32.reduceToInt] at *; unfold z_kof at hr; omega)
          · refine zx_iload_n (q := 42) dX8_taken_41 rfl rfl rfl ?_
            refine zx_iconst (q := 43) (v := 1) dX8_taken_42 (by decide) rfl ?_
            refine zx_icmp_ne (q := 46) (t := 51) dX8_taken_43 (by decide) rfl (fun e_43 => ?_) (fun e_43 => ?_)
            · refine zx_iload_n (q := 52) dX8_taken_51 rfl rfl rfl ?_
              refine zx_iconst (q := 53) (v := 2) dX8_taken_52 (by decide) rfl ?_
              refine zx_icmp_ne (q := 56) (t := 61) dX8_taken_53 (by decide) rfl (fun e_53 => ?_) (fun e_53 => ?_)
              · refine zx_iload_n (q := 62) dX8_taken_61 rfl rfl rfl ?_
                refine zx_iconst (q := 63) (v := 3) dX8_taken_62 (by decide) rfl ?_
                refine zx_icmp_ne (q := 66) (t := 76) dX8_taken_63 (by decide) rfl (fun e_63 => ?_) (fun e_63 => ?_)
                · refine zx_bipush (q := 78) (v := (-12)) dX8_taken_76 (by decide) rfl ?_
                  refine zx_iret dX8_taken_78 rfl (Nat.le_refl _) (Nat.le_refl _) ⟨_, rfl, ?_⟩
                  first
                    | exact ⟨rfl, _, _, _, rfl, hR⟩
                    | (exfalso; simp only [z_eqI, hkI, hmI, Int32.reduceToInt] at *; unfold z_kof at hr; omega)
                · refine zx_iload_n (q := 67) dX8_taken_66 rfl rfl rfl ?_
                  refine zx_bipush (q := 69) (v := 6) dX8_taken_67 (by decide) rfl ?_
                  refine zx_icmp_ne (q := 72) (t := 76) dX8_taken_69 (by decide) rfl (fun e_69 => ?_) (fun e_69 => ?_)
                  · refine zx_bipush (q := 78) (v := (-12)) dX8_taken_76 (by decide) rfl ?_
                    refine zx_iret dX8_taken_78 rfl (Nat.le_refl _) (Nat.le_refl _) ⟨_, rfl, ?_⟩
                    first
                      | exact ⟨rfl, _, _, _, rfl, hR⟩
                      | (exfalso; simp only [z_eqI, hkI, hmI, Int32.reduceToInt] at *; unfold z_kof at hr; omega)
                  · refine zx_iload_n (q := 73) dX8_taken_72 rfl rfl rfl ?_
                    refine zx_goto (t := 78) dX8_taken_73 (by decide) ?_
                    refine zx_iret dX8_taken_78 rfl (Nat.le_refl _) (Nat.le_refl _) ⟨_, rfl, ?_⟩
                    first
                      | exact ⟨rfl, _, _, _, rfl, hR⟩
                      | (exfalso; simp only [z_eqI, hkI, hmI, Int32.reduceToInt] at *; unfold z_kof at hr; omega)
              · refine zx_iload_n (q := 57) dX8_taken_56 rfl rfl rfl ?_
                refine zx_iconst (q := 58) (v := 5) dX8_taken_57 (by decide) rfl ?_
                refine zx_icmp_eq (q := 61) (t := 72) dX8_taken_58 (by decide) rfl (fun e_58 => ?_) (fun e_58 => ?_)
                · refine zx_iload_n (q := 73) dX8_taken_72 rfl rfl rfl ?_
                  refine zx_goto (t := 78) dX8_taken_73 (by decide) ?_
                  refine zx_iret dX8_taken_78 rfl (Nat.le_refl _) (Nat.le_refl _) ⟨_, rfl, ?_⟩
                  first
                    | exact ⟨rfl, _, _, _, rfl, hR⟩
                    | (exfalso; simp only [z_eqI, hkI, hmI, Int32.reduceToInt] at *; unfold z_kof at hr; omega)
                · refine zx_iload_n (q := 62) dX8_taken_61 rfl rfl rfl ?_
                  refine zx_iconst (q := 63) (v := 3) dX8_taken_62 (by decide) rfl ?_
                  refine zx_icmp_ne (q := 66) (t := 76) dX8_taken_63 (by decide) rfl (fun e_63 => ?_) (fun e_63 => ?_)
                  · refine zx_bipush (q := 78) (v := (-12)) dX8_taken_76 (by decide) rfl ?_
                    refine zx_iret dX8_taken_78 rfl (Nat.le_refl _) (Nat.le_refl _) ⟨_, rfl, ?_⟩
                    first
                      | exact ⟨rfl, _, _, _, rfl, hR⟩
                      | (exfalso; simp only [z_eqI, hkI, hmI, Int32.reduceToInt] at *; unfold z_kof at hr; omega)
                  · refine zx_iload_n (q := 67) dX8_taken_66 rfl rfl rfl ?_
                    refine zx_bipush (q := 69) (v := 6) dX8_taken_67 (by decide) rfl ?_
                    refine zx_icmp_ne (q := 72) (t := 76) dX8_taken_69 (by decide) rfl (fun e_69 => ?_) (fun e_69 => ?_)
                    · refine zx_bipush (q := 78) (v := (-12)) dX8_taken_76 (by decide) rfl ?_
                      refine zx_iret dX8_taken_78 rfl (Nat.le_refl _) (Nat.le_refl _) ⟨_, rfl, ?_⟩
                      first
                        | exact ⟨rfl, _, _, _, rfl, hR⟩
                        | (exfalso; simp only [z_eqI, hkI, hmI, Int32.reduceToInt] at *; unfold z_kof at hr; omega)
                    · refine zx_iload_n (q := 73) dX8_taken_72 rfl rfl rfl ?_
                      refine zx_goto (t := 78) dX8_taken_73 (by decide) ?_
                      refine zx_iret dX8_taken_78 rfl (Nat.le_refl _) (Nat.le_refl _) ⟨_, rfl, ?_⟩
                      first
                        | exact ⟨rfl, _, _, _, rfl, hR⟩
                        | (exfalso; simp only [z_eqI, hkI, hmI, Int32.reduceToInt] at *; unfold z_kof at hr; omega)
            · refine zx_iload_n (q := 47) dX8_taken_46 rfl rfl rfl ?_
              refine zx_iconst (q := 48) (v := 4) dX8_taken_47 (by decide) rfl ?_
              refine zx_icmp_eq (q := 51) (t := 72) dX8_taken_48 (by decide) rfl (fun e_48 => ?_) (fun e_48 => ?_)
              · refine zx_iload_n (q := 73) dX8_taken_72 rfl rfl rfl ?_
                refine zx_goto (t := 78) dX8_taken_73 (by decide) ?_
                refine zx_iret dX8_taken_78 rfl (Nat.le_refl _) (Nat.le_refl _) ⟨_, rfl, ?_⟩
                first
                  | exact ⟨rfl, _, _, _, rfl, hR⟩
                  | (exfalso; simp only [z_eqI, hkI, hmI, Int32.reduceToInt] at *; unfold z_kof at hr; omega)
              · refine zx_iload_n (q := 52) dX8_taken_51 rfl rfl rfl ?_
                refine zx_iconst (q := 53) (v := 2) dX8_taken_52 (by decide) rfl ?_
                refine zx_icmp_ne (q := 56) (t := 61) dX8_taken_53 (by decide) rfl (fun e_53 => ?_) (fun e_53 => ?_)
                · refine zx_iload_n (q := 62) dX8_taken_61 rfl rfl rfl ?_
                  refine zx_iconst (q := 63) (v := 3) dX8_taken_62 (by decide) rfl ?_
                  refine zx_icmp_ne (q := 66) (t := 76) dX8_taken_63 (by decide) rfl (fun e_63 => ?_) (fun e_63 => ?_)
                  · refine zx_bipush (q := 78) (v := (-12)) dX8_taken_76 (by decide) rfl ?_
                    refine zx_iret dX8_taken_78 rfl (Nat.le_refl _) (Nat.le_refl _) ⟨_, rfl, ?_⟩
                    first
                      | exact ⟨rfl, _, _, _, rfl, hR⟩
                      | (exfalso; simp only [z_eqI, hkI, hmI, Int32.reduceToInt] at *; unfold z_kof at hr; omega)
                  · refine zx_iload_n (q := 67) dX8_taken_66 rfl rfl rfl ?_
                    refine zx_bipush (q := 69) (v := 6) dX8_taken_67 (by decide) rfl ?_
                    refine zx_icmp_ne (q := 72) (t := 76) dX8_taken_69 (by decide) rfl (fun e_69 => ?_) (fun e_69 => ?_)
                    · refine zx_bipush (q := 78) (v := (-12)) dX8_taken_76 (by decide) rfl ?_
                      refine zx_iret dX8_taken_78 rfl (Nat.le_refl _) (Nat.le_refl _) ⟨_, rfl, ?_⟩
                      first
                        | exact ⟨rfl, _, _, _, rfl, hR⟩
                        | (exfalso; simp only [z_eqI, hkI, hmI, Int32.reduceToInt] at *; unfold z_kof at hr; omega)
                    · refine zx_iload_n (q := 73) dX8_taken_72 rfl rfl rfl ?_
                      refine zx_goto (t := 78) dX8_taken_73 (by decide) ?_
                      refine zx_iret dX8_taken_78 rfl (Nat.le_refl _) (Nat.le_refl _) ⟨_, rfl, ?_⟩
                      first
                        | exact ⟨rfl, _, _, _, rfl, hR⟩
                        | (exfalso; simp only [z_eqI, hkI, hmI, Int32.reduceToInt] at *; unfold z_kof at hr; omega)
                · refine zx_iload_n (q := 57) dX8_taken_56 rfl rfl rfl ?_
                  refine zx_iconst (q := 58) (v := 5) dX8_taken_57 (by decide) rfl ?_
                  refine zx_icmp_eq (q := 61) (t := 72) dX8_taken_58 (by decide) rfl (fun e_58 => ?_) (fun e_58 => ?_)
                  · refine zx_iload_n (q := 73) dX8_taken_72 rfl rfl rfl ?_
                    refine zx_goto (t := 78) dX8_taken_73 (by decide) ?_
                    refine zx_iret dX8_taken_78 rfl (Nat.le_refl _) (Nat.le_refl _) ⟨_, rfl, ?_⟩
                    first
                      | exact ⟨rfl, _, _, _, rfl, hR⟩
                      | (exfalso; simp only [z_eqI, hkI, hmI, Int32.reduceToInt] at *; unfold z_kof at hr; omega)
                  · refine zx_iload_n (q := 62) dX8_taken_61 rfl rfl rfl ?_
                    refine zx_iconst (q := 63) (v := 3) dX8_taken_62 (by decide) rfl ?_
                    refine zx_icmp_ne (q := 66) (t := 76) dX8_taken_63 (by decide) rfl (fun e_63 => ?_) (fun e_63 => ?_)
                    · refine zx_bipush (q := 78) (v := (-12)) dX8_taken_76 (by decide) rfl ?_
                      refine zx_iret dX8_taken_78 rfl (Nat.le_refl _) (Nat.le_refl _) ⟨_, rfl, ?_⟩
                      first
                        | exact ⟨rfl, _, _, _, rfl, hR⟩
                        | (exfalso; simp only [z_eqI, hkI, hmI, Int32.reduceToInt] at *; unfold z_kof at hr; omega)
                    · refine zx_iload_n (q := 67) dX8_taken_66 rfl rfl rfl ?_
                      refine zx_bipush (q := 69) (v := 6) dX8_taken_67 (by decide) rfl ?_
                      refine zx_icmp_ne (q := 72) (t := 76) dX8_taken_69 (by decide) rfl (fun e_69 => ?_) (fun e_69 => ?_)
                      · refine zx_bipush (q := 78) (v := (-12)) dX8_taken_76 (by decide) rfl ?_
                        refine zx_iret dX8_taken_78 rfl (Nat.le_refl _) (Nat.le_refl _) ⟨_, rfl, ?_⟩
                        first
                          | exact ⟨rfl, _, _, _, rfl, hR⟩
                          | (exfalso; simp only [z_eqI, hkI, hmI, Int32.reduceToInt] at *; unfold z_kof at hr; omega)
                      · refine zx_iload_n (q := 73) dX8_taken_72 rfl rfl rfl ?_
                        refine zx_goto (t := 78) dX8_taken_73 (by decide) ?_
                        refine zx_iret dX8_taken_78 rfl (Nat.le_refl _) (Nat.le_refl _) ⟨_, rfl, ?_⟩
                        first
                          | exact ⟨rfl, _, _, _, rfl, hR⟩
                          | (exfalso; simp only [z_eqI, hkI, hmI, Int32.reduceToInt] at *; unfold z_kof at hr; omega)
      · refine zx_if_eq_t (t := 48) (q := 44) dX7_taken_41 (by decide) rfl (rfl) ?_
        refine zx_bipush (q := 50) (v := (-12)) dX7_taken_48 (by decide) rfl ?_
        refine zx_iret dX7_taken_50 rfl (Nat.le_refl _) (Nat.le_refl _) ⟨_, rfl, ?_⟩
        refine ⟨_, _, _, rfl, ?_⟩
        show zW l D tc A mX8_taken (d + 2) 0 0 0 0 0 [some (.ref 108), some (.int (nI s)), some (.int (nI m)), none] [] (zs _ _ _) _
        refine zx_aload_n (q := 1) dX8_taken_0 rfl rfl rfl ?_
        refine zx_iload_n (q := 2) dX8_taken_1 rfl rfl rfl ?_
        refine zx_iconst (q := 3) (v := 0) dX8_taken_2 (by decide) rfl ?_
        refine zx_bipush (q := 5) (v := 6) dX8_taken_3 (by decide) rfl ?_
        refine zx_callV3i (q := 8) (y' := mX8_in) dX8_taken_5 ml_RX8_200 ok_mX8_in rfl (by decide) rfl (Nat.le_of_ble_eq_true rfl) (Nat.le_of_ble_eq_true rfl) (Nat.le_refl _) (Nat.le_refl _) rfl (t_X8_in _ _ _ _ _) ?_
        rintro _ _ ⟨rfl, rfl⟩
        refine zx_if_ne_t (t := 14) (q := 11) dX8_taken_8 (by decide) rfl (zk_t h1) ?_
        refine zx_aload_n (q := 15) dX8_taken_14 rfl rfl rfl ?_
        refine zx_iload_n (q := 16) dX8_taken_15 rfl rfl rfl ?_
        refine zx_callV1i (q := 19) (y' := mX8_isSort) dX8_taken_16 ml_RX8_208 ok_mX8_isSort rfl (by decide) rfl (Nat.le_of_ble_eq_true rfl) (Nat.le_of_ble_eq_true rfl) (Nat.le_refl _) (Nat.le_refl _) rfl (t_X8_isSort _ _) ?_
        rintro _ _ ⟨rfl, rfl⟩
        refine zx_if_ne_t (t := 25) (q := 22) dX8_taken_19 (by decide) rfl (zk_t (by show z_in (nI s) 0 (gi 108 0 - 1) = true; rw [hs2]; exact z_inS_at hns hs)) ?_
        refine zx_aload_n (q := 26) dX8_taken_25 rfl rfl rfl ?_
        refine zy_getR (q := 29) dX8_taken_26 fl_RX8_16 rfl rfl rfl rfl ?_
        refine zx_iload_n (q := 30) dX8_taken_29 rfl rfl rfl ?_
        refine zy_ialdN (q := 31) dX8_taken_30 rfl (by omega) (by decide) rfl ?_
        rw [hkk2]
        refine zx_istore3 (q := 32) dX8_taken_31 rfl rfl ?_
        refine zx_iload_n (q := 33) dX8_taken_32 rfl rfl rfl ?_
        refine zx_if_eq (q := 36) (t := 72) dX8_taken_33 (by decide) rfl (fun e_33 => ?_) (fun e_33 => ?_)
        · refine zx_iload_n (q := 73) dX8_taken_72 rfl rfl rfl ?_
          refine zx_goto (t := 78) dX8_taken_73 (by decide) ?_
          refine zx_iret dX8_taken_78 rfl (Nat.le_refl _) (Nat.le_refl _) ⟨_, rfl, ?_⟩
          first
            | exact ⟨rfl, _, _, _, rfl, hR⟩
            | (exfalso; simp only [z_eqI, hkI, hmI, Int32.reduceToInt] at *; unfold z_kof at hr; omega)
        · refine zx_iload_n (q := 37) dX8_taken_36 rfl rfl rfl ?_
          refine zx_iload_n (q := 38) dX8_taken_37 rfl rfl rfl ?_
          refine zx_icmp_eq (q := 41) (t := 72) dX8_taken_38 (by decide) rfl (fun e_38 => ?_) (fun e_38 => ?_)
          · refine zx_iload_n (q := 73) dX8_taken_72 rfl rfl rfl ?_
            refine zx_goto (t := 78) dX8_taken_73 (by decide) ?_
            refine zx_iret dX8_taken_78 rfl (Nat.le_refl _) (Nat.le_refl _) ⟨_, rfl, ?_⟩
            first
              | exact ⟨rfl, _, _, _, rfl, hR⟩
              | (exfalso; simp only [z_eqI, hkI, hmI, Int32.reduceToInt] at *; unfold z_kof at hr; omega)
          · refine zx_iload_n (q := 42) dX8_taken_41 rfl rfl rfl ?_
            refine zx_iconst (q := 43) (v := 1) dX8_taken_42 (by decide) rfl ?_
            refine zx_icmp_ne (q := 46) (t := 51) dX8_taken_43 (by decide) rfl (fun e_43 => ?_) (fun e_43 => ?_)
            · refine zx_iload_n (q := 52) dX8_taken_51 rfl rfl rfl ?_
              refine zx_iconst (q := 53) (v := 2) dX8_taken_52 (by decide) rfl ?_
              refine zx_icmp_ne (q := 56) (t := 61) dX8_taken_53 (by decide) rfl (fun e_53 => ?_) (fun e_53 => ?_)
              · refine zx_iload_n (q := 62) dX8_taken_61 rfl rfl rfl ?_
                refine zx_iconst (q := 63) (v := 3) dX8_taken_62 (by decide) rfl ?_
                refine zx_icmp_ne (q := 66) (t := 76) dX8_taken_63 (by decide) rfl (fun e_63 => ?_) (fun e_63 => ?_)
                · refine zx_bipush (q := 78) (v := (-12)) dX8_taken_76 (by decide) rfl ?_
                  refine zx_iret dX8_taken_78 rfl (Nat.le_refl _) (Nat.le_refl _) ⟨_, rfl, ?_⟩
                  first
                    | exact ⟨rfl, _, _, _, rfl, hR⟩
                    | (exfalso; simp only [z_eqI, hkI, hmI, Int32.reduceToInt] at *; unfold z_kof at hr; omega)
                · refine zx_iload_n (q := 67) dX8_taken_66 rfl rfl rfl ?_
                  refine zx_bipush (q := 69) (v := 6) dX8_taken_67 (by decide) rfl ?_
                  refine zx_icmp_ne (q := 72) (t := 76) dX8_taken_69 (by decide) rfl (fun e_69 => ?_) (fun e_69 => ?_)
                  · refine zx_bipush (q := 78) (v := (-12)) dX8_taken_76 (by decide) rfl ?_
                    refine zx_iret dX8_taken_78 rfl (Nat.le_refl _) (Nat.le_refl _) ⟨_, rfl, ?_⟩
                    first
                      | exact ⟨rfl, _, _, _, rfl, hR⟩
                      | (exfalso; simp only [z_eqI, hkI, hmI, Int32.reduceToInt] at *; unfold z_kof at hr; omega)
                  · refine zx_iload_n (q := 73) dX8_taken_72 rfl rfl rfl ?_
                    refine zx_goto (t := 78) dX8_taken_73 (by decide) ?_
                    refine zx_iret dX8_taken_78 rfl (Nat.le_refl _) (Nat.le_refl _) ⟨_, rfl, ?_⟩
                    first
                      | exact ⟨rfl, _, _, _, rfl, hR⟩
                      | (exfalso; simp only [z_eqI, hkI, hmI, Int32.reduceToInt] at *; unfold z_kof at hr; omega)
              · refine zx_iload_n (q := 57) dX8_taken_56 rfl rfl rfl ?_
                refine zx_iconst (q := 58) (v := 5) dX8_taken_57 (by decide) rfl ?_
                refine zx_icmp_eq (q := 61) (t := 72) dX8_taken_58 (by decide) rfl (fun e_58 => ?_) (fun e_58 => ?_)
                · refine zx_iload_n (q := 73) dX8_taken_72 rfl rfl rfl ?_
                  refine zx_goto (t := 78) dX8_taken_73 (by decide) ?_
                  refine zx_iret dX8_taken_78 rfl (Nat.le_refl _) (Nat.le_refl _) ⟨_, rfl, ?_⟩
                  first
                    | exact ⟨rfl, _, _, _, rfl, hR⟩
                    | (exfalso; simp only [z_eqI, hkI, hmI, Int32.reduceToInt] at *; unfold z_kof at hr; omega)
                · refine zx_iload_n (q := 62) dX8_taken_61 rfl rfl rfl ?_
                  refine zx_iconst (q := 63) (v := 3) dX8_taken_62 (by decide) rfl ?_
                  refine zx_icmp_ne (q := 66) (t := 76) dX8_taken_63 (by decide) rfl (fun e_63 => ?_) (fun e_63 => ?_)
                  · refine zx_bipush (q := 78) (v := (-12)) dX8_taken_76 (by decide) rfl ?_
                    refine zx_iret dX8_taken_78 rfl (Nat.le_refl _) (Nat.le_refl _) ⟨_, rfl, ?_⟩
                    first
                      | exact ⟨rfl, _, _, _, rfl, hR⟩
                      | (exfalso; simp only [z_eqI, hkI, hmI, Int32.reduceToInt] at *; unfold z_kof at hr; omega)
                  · refine zx_iload_n (q := 67) dX8_taken_66 rfl rfl rfl ?_
                    refine zx_bipush (q := 69) (v := 6) dX8_taken_67 (by decide) rfl ?_
                    refine zx_icmp_ne (q := 72) (t := 76) dX8_taken_69 (by decide) rfl (fun e_69 => ?_) (fun e_69 => ?_)
                    · refine zx_bipush (q := 78) (v := (-12)) dX8_taken_76 (by decide) rfl ?_
                      refine zx_iret dX8_taken_78 rfl (Nat.le_refl _) (Nat.le_refl _) ⟨_, rfl, ?_⟩
                      first
                        | exact ⟨rfl, _, _, _, rfl, hR⟩
                        | (exfalso; simp only [z_eqI, hkI, hmI, Int32.reduceToInt] at *; unfold z_kof at hr; omega)
                    · refine zx_iload_n (q := 73) dX8_taken_72 rfl rfl rfl ?_
                      refine zx_goto (t := 78) dX8_taken_73 (by decide) ?_
                      refine zx_iret dX8_taken_78 rfl (Nat.le_refl _) (Nat.le_refl _) ⟨_, rfl, ?_⟩
                      first
                        | exact ⟨rfl, _, _, _, rfl, hR⟩
                        | (exfalso; simp only [z_eqI, hkI, hmI, Int32.reduceToInt] at *; unfold z_kof at hr; omega)
            · refine zx_iload_n (q := 47) dX8_taken_46 rfl rfl rfl ?_
              refine zx_iconst (q := 48) (v := 4) dX8_taken_47 (by decide) rfl ?_
              refine zx_icmp_eq (q := 51) (t := 72) dX8_taken_48 (by decide) rfl (fun e_48 => ?_) (fun e_48 => ?_)
              · refine zx_iload_n (q := 73) dX8_taken_72 rfl rfl rfl ?_
                refine zx_goto (t := 78) dX8_taken_73 (by decide) ?_
                refine zx_iret dX8_taken_78 rfl (Nat.le_refl _) (Nat.le_refl _) ⟨_, rfl, ?_⟩
                first
                  | exact ⟨rfl, _, _, _, rfl, hR⟩
                  | (exfalso; simp only [z_eqI, hkI, hmI, Int32.reduceToInt] at *; unfold z_kof at hr; omega)
              · refine zx_iload_n (q := 52) dX8_taken_51 rfl rfl rfl ?_
                refine zx_iconst (q := 53) (v := 2) dX8_taken_52 (by decide) rfl ?_
                refine zx_icmp_ne (q := 56) (t := 61) dX8_taken_53 (by decide) rfl (fun e_53 => ?_) (fun e_53 => ?_)
                · refine zx_iload_n (q := 62) dX8_taken_61 rfl rfl rfl ?_
                  refine zx_iconst (q := 63) (v := 3) dX8_taken_62 (by decide) rfl ?_
                  refine zx_icmp_ne (q := 66) (t := 76) dX8_taken_63 (by decide) rfl (fun e_63 => ?_) (fun e_63 => ?_)
                  · refine zx_bipush (q := 78) (v := (-12)) dX8_taken_76 (by decide) rfl ?_
                    refine zx_iret dX8_taken_78 rfl (Nat.le_refl _) (Nat.le_refl _) ⟨_, rfl, ?_⟩
                    first
                      | exact ⟨rfl, _, _, _, rfl, hR⟩
                      | (exfalso; simp only [z_eqI, hkI, hmI, Int32.reduceToInt] at *; unfold z_kof at hr; omega)
                  · refine zx_iload_n (q := 67) dX8_taken_66 rfl rfl rfl ?_
                    refine zx_bipush (q := 69) (v := 6) dX8_taken_67 (by decide) rfl ?_
                    refine zx_icmp_ne (q := 72) (t := 76) dX8_taken_69 (by decide) rfl (fun e_69 => ?_) (fun e_69 => ?_)
                    · refine zx_bipush (q := 78) (v := (-12)) dX8_taken_76 (by decide) rfl ?_
                      refine zx_iret dX8_taken_78 rfl (Nat.le_refl _) (Nat.le_refl _) ⟨_, rfl, ?_⟩
                      first
                        | exact ⟨rfl, _, _, _, rfl, hR⟩
                        | (exfalso; simp only [z_eqI, hkI, hmI, Int32.reduceToInt] at *; unfold z_kof at hr; omega)
                    · refine zx_iload_n (q := 73) dX8_taken_72 rfl rfl rfl ?_
                      refine zx_goto (t := 78) dX8_taken_73 (by decide) ?_
                      refine zx_iret dX8_taken_78 rfl (Nat.le_refl _) (Nat.le_refl _) ⟨_, rfl, ?_⟩
                      first
                        | exact ⟨rfl, _, _, _, rfl, hR⟩
                        | (exfalso; simp only [z_eqI, hkI, hmI, Int32.reduceToInt] at *; unfold z_kof at hr; omega)
                · refine zx_iload_n (q := 57) dX8_taken_56 rfl rfl rfl ?_
                  refine zx_iconst (q := 58) (v := 5) dX8_taken_57 (by decide) rfl ?_
                  refine zx_icmp_eq (q := 61) (t := 72) dX8_taken_58 (by decide) rfl (fun e_58 => ?_) (fun e_58 => ?_)
                  · refine zx_iload_n (q := 73) dX8_taken_72 rfl rfl rfl ?_
                    refine zx_goto (t := 78) dX8_taken_73 (by decide) ?_
                    refine zx_iret dX8_taken_78 rfl (Nat.le_refl _) (Nat.le_refl _) ⟨_, rfl, ?_⟩
                    first
                      | exact ⟨rfl, _, _, _, rfl, hR⟩
                      | (exfalso; simp only [z_eqI, hkI, hmI, Int32.reduceToInt] at *; unfold z_kof at hr; omega)
                  · refine zx_iload_n (q := 62) dX8_taken_61 rfl rfl rfl ?_
                    refine zx_iconst (q := 63) (v := 3) dX8_taken_62 (by decide) rfl ?_
                    refine zx_icmp_ne (q := 66) (t := 76) dX8_taken_63 (by decide) rfl (fun e_63 => ?_) (fun e_63 => ?_)
                    · refine zx_bipush (q := 78) (v := (-12)) dX8_taken_76 (by decide) rfl ?_
                      refine zx_iret dX8_taken_78 rfl (Nat.le_refl _) (Nat.le_refl _) ⟨_, rfl, ?_⟩
                      first
                        | exact ⟨rfl, _, _, _, rfl, hR⟩
                        | (exfalso; simp only [z_eqI, hkI, hmI, Int32.reduceToInt] at *; unfold z_kof at hr; omega)
                    · refine zx_iload_n (q := 67) dX8_taken_66 rfl rfl rfl ?_
                      refine zx_bipush (q := 69) (v := 6) dX8_taken_67 (by decide) rfl ?_
                      refine zx_icmp_ne (q := 72) (t := 76) dX8_taken_69 (by decide) rfl (fun e_69 => ?_) (fun e_69 => ?_)
                      · refine zx_bipush (q := 78) (v := (-12)) dX8_taken_76 (by decide) rfl ?_
                        refine zx_iret dX8_taken_78 rfl (Nat.le_refl _) (Nat.le_refl _) ⟨_, rfl, ?_⟩
                        first
                          | exact ⟨rfl, _, _, _, rfl, hR⟩
                          | (exfalso; simp only [z_eqI, hkI, hmI, Int32.reduceToInt] at *; unfold z_kof at hr; omega)
                      · refine zx_iload_n (q := 73) dX8_taken_72 rfl rfl rfl ?_
                        refine zx_goto (t := 78) dX8_taken_73 (by decide) ?_
                        refine zx_iret dX8_taken_78 rfl (Nat.le_refl _) (Nat.le_refl _) ⟨_, rfl, ?_⟩
                        first
                          | exact ⟨rfl, _, _, _, rfl, hR⟩
                          | (exfalso; simp only [z_eqI, hkI, hmI, Int32.reduceToInt] at *; unfold z_kof at hr; omega)
    · show zW l D tc A mX7_taken (d + 2) 0 0 0 0 0 [some (.ref 0), some (.int a), some (.int (nI m)), none] [] (zs gi gl f) _
      refine zx_iload_n (q := 1) dX7_taken_0 rfl rfl rfl ?_
      refine zx_iconst (q := 2) (v := 0) dX7_taken_1 (by decide) rfl ?_
      refine zx_bipush (q := 4) (v := 6) dX7_taken_2 (by decide) rfl ?_
      refine zx_callS3i (q := 7) (y' := mX7_within) dX7_taken_4 ml_RX7_73 ok_mX7_within (Nat.le_of_ble_eq_true rfl) (Nat.le_of_ble_eq_true rfl) (Nat.le_refl _) (Nat.le_refl _) rfl (t_X7_within _ _ _ _) ?_
      rintro _ _ ⟨rfl, rfl⟩
      refine zx_if_ne_t (t := 13) (q := 10) dX7_taken_7 (by decide) rfl (zk_t h1) ?_
      refine zx_aload_n (q := 14) dX7_taken_13 rfl rfl rfl ?_
      refine zx_iload_n (q := 15) dX7_taken_14 rfl rfl rfl ?_
      refine zx_callV1i (q := 18) (y' := mX7_isSort) dX7_taken_15 ml_RX7_89 ok_mX7_isSort rfl (by decide) rfl (Nat.le_of_ble_eq_true rfl) (Nat.le_of_ble_eq_true rfl) (Nat.le_refl _) (Nat.le_refl _) rfl (t_X7_isSort _ _) ?_
      rintro _ _ ⟨rfl, rfl⟩
      refine zx_if_ne_f (t := 24) (q := 21) dX7_taken_18 (by decide) rfl (zk_f (by show ¬ z_in a 0 (gi 1 0 - 1) = true; rw [hs1]; exact h2)) ?_
      refine zx_bipush (q := 23) (v := (-11)) dX7_taken_21 (by decide) rfl ?_
      refine zx_iret dX7_taken_23 rfl (Nat.le_refl _) (Nat.le_refl _) ⟨_, rfl, ?_⟩
      refine ⟨_, _, _, rfl, ?_⟩
      show zW l D tc A mX8_taken (d + 2) 0 0 0 0 0 [some (.ref 108), some (.int a), some (.int (nI m)), none] [] (zs _ _ _) _
      refine zx_aload_n (q := 1) dX8_taken_0 rfl rfl rfl ?_
      refine zx_iload_n (q := 2) dX8_taken_1 rfl rfl rfl ?_
      refine zx_iconst (q := 3) (v := 0) dX8_taken_2 (by decide) rfl ?_
      refine zx_bipush (q := 5) (v := 6) dX8_taken_3 (by decide) rfl ?_
      refine zx_callV3i (q := 8) (y' := mX8_in) dX8_taken_5 ml_RX8_200 ok_mX8_in rfl (by decide) rfl (Nat.le_of_ble_eq_true rfl) (Nat.le_of_ble_eq_true rfl) (Nat.le_refl _) (Nat.le_refl _) rfl (t_X8_in _ _ _ _ _) ?_
      rintro _ _ ⟨rfl, rfl⟩
      refine zx_if_ne_t (t := 14) (q := 11) dX8_taken_8 (by decide) rfl (zk_t h1) ?_
      refine zx_aload_n (q := 15) dX8_taken_14 rfl rfl rfl ?_
      refine zx_iload_n (q := 16) dX8_taken_15 rfl rfl rfl ?_
      refine zx_callV1i (q := 19) (y' := mX8_isSort) dX8_taken_16 ml_RX8_208 ok_mX8_isSort rfl (by decide) rfl (Nat.le_of_ble_eq_true rfl) (Nat.le_of_ble_eq_true rfl) (Nat.le_refl _) (Nat.le_refl _) rfl (t_X8_isSort _ _) ?_
      rintro _ _ ⟨rfl, rfl⟩
      refine zx_if_ne_f (t := 25) (q := 22) dX8_taken_19 (by decide) rfl (zk_f (by show ¬ z_in a 0 (gi 108 0 - 1) = true; rw [hs2]; exact h2)) ?_
      refine zx_bipush (q := 24) (v := (-11)) dX8_taken_22 (by decide) rfl ?_
      refine zx_iret dX8_taken_24 rfl (Nat.le_refl _) (Nat.le_refl _) ⟨_, rfl, ?_⟩
      exact ⟨rfl, _, _, _, rfl, hR⟩
  · show zW l D tc A mX7_taken (d + 2) 0 0 0 0 0 [some (.ref 0), some (.int a), some (.int b), none] [] (zs gi gl f) _
    refine zx_iload_n (q := 1) dX7_taken_0 rfl rfl rfl ?_
    refine zx_iconst (q := 2) (v := 0) dX7_taken_1 (by decide) rfl ?_
    refine zx_bipush (q := 4) (v := 6) dX7_taken_2 (by decide) rfl ?_
    refine zx_callS3i (q := 7) (y' := mX7_within) dX7_taken_4 ml_RX7_73 ok_mX7_within (Nat.le_of_ble_eq_true rfl) (Nat.le_of_ble_eq_true rfl) (Nat.le_refl _) (Nat.le_refl _) rfl (t_X7_within _ _ _ _) ?_
    rintro _ _ ⟨rfl, rfl⟩
    refine zx_if_ne_f (t := 13) (q := 10) dX7_taken_7 (by decide) rfl (zk_f h1) ?_
    refine zx_bipush (q := 12) (v := (-2)) dX7_taken_10 (by decide) rfl ?_
    refine zx_iret dX7_taken_12 rfl (Nat.le_refl _) (Nat.le_refl _) ⟨_, rfl, ?_⟩
    refine ⟨_, _, _, rfl, ?_⟩
    show zW l D tc A mX8_taken (d + 2) 0 0 0 0 0 [some (.ref 108), some (.int a), some (.int b), none] [] (zs _ _ _) _
    refine zx_aload_n (q := 1) dX8_taken_0 rfl rfl rfl ?_
    refine zx_iload_n (q := 2) dX8_taken_1 rfl rfl rfl ?_
    refine zx_iconst (q := 3) (v := 0) dX8_taken_2 (by decide) rfl ?_
    refine zx_bipush (q := 5) (v := 6) dX8_taken_3 (by decide) rfl ?_
    refine zx_callV3i (q := 8) (y' := mX8_in) dX8_taken_5 ml_RX8_200 ok_mX8_in rfl (by decide) rfl (Nat.le_of_ble_eq_true rfl) (Nat.le_of_ble_eq_true rfl) (Nat.le_refl _) (Nat.le_refl _) rfl (t_X8_in _ _ _ _ _) ?_
    rintro _ _ ⟨rfl, rfl⟩
    refine zx_if_ne_f (t := 14) (q := 11) dX8_taken_8 (by decide) rfl (zk_f h1) ?_
    refine zx_bipush (q := 13) (v := (-2)) dX8_taken_11 (by decide) rfl ?_
    refine zx_iret dX8_taken_13 rfl (Nat.le_refl _) (Nat.le_refl _) ⟨_, rfl, ?_⟩
    exact ⟨rfl, _, _, _, rfl, hR⟩
end P15
