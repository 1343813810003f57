section P14
variable {l : Launch} {D : va_G} {tc : Nat → ClassId} {A : Nat → Prop} {S : zw_S} {gi : Nat → Nat → Int32} {gl : Nat → Nat → Int64} {f : Option Nat}
set_option maxHeartbeats 4000000 in
theorem op_tell (d : Nat) (a : Int32) (b : Int32) (hR : zRel gi gl) : zOpI l D tc A mX7_tell mX8_tell (d + 2) [.int a, .int b] gi gl f := by
  by_cases h1 : z_in a 0 2 = true
  · obtain ⟨j, hj, rfl⟩ := z_inT 2 (by decide) h1
    by_cases h2 : z_in b (-1) 999 = true
    · show zW l D tc A mX7_tell (d + 2) 0 0 0 0 0 [some (.ref 0), some (.int (nI j)), some (.int b)] [] (zs gi gl f) _
      refine zx_iload_n (q := 1) dX7_tell_0 rfl rfl rfl ?_
      refine zx_callS1i (q := 4) (y' := mX7_isHole) dX7_tell_1 ml_RX7_101 ok_mX7_isHole (Nat.le_of_ble_eq_true rfl) (Nat.le_of_ble_eq_true rfl) (Nat.le_refl _) (Nat.le_refl _) rfl (t_X7_isHole _ _) ?_
      rintro _ _ ⟨rfl, rfl⟩
      refine zx_if_ne_t (t := 9) (q := 7) dX7_tell_4 (by decide) rfl (zk_t h1) ?_
      refine zx_iload_n (q := 10) dX7_tell_9 rfl rfl rfl ?_
      refine zx_iconst (q := 11) (v := (-1)) dX7_tell_10 (by decide) rfl ?_
      refine zx_icmp_eq (q := 14) (t := 28) dX7_tell_11 (by decide) rfl (fun c_11 => ?_) (fun c_11 => ?_)
      · refine zx_aload_n (q := 29) dX7_tell_28 rfl rfl rfl ?_
        refine zy_getR (q := 32) dX7_tell_29 fl_RX7_12 rfl rfl rfl rfl ?_
        refine zy_getR (q := 35) dX7_tell_32 fl_RX7_113 rfl rfl rfl rfl ?_
        refine zx_iload_n (q := 36) dX7_tell_35 rfl rfl rfl ?_
        refine zx_iload_n (q := 37) dX7_tell_36 rfl rfl rfl ?_
        refine zy_iastN (q := 38) dX7_tell_37 rfl (by omega) (by decide) rfl ?_
        refine zx_iconst (q := 39) (v := 1) dX7_tell_38 (by decide) rfl ?_
        refine zx_iret dX7_tell_39 rfl (Nat.le_refl _) (Nat.le_refl _) ⟨_, rfl, ?_⟩
        refine ⟨_, _, _, rfl, ?_⟩
        show zW l D tc A mX8_tell (d + 2) 0 0 0 0 0 [some (.ref 108), some (.int (nI j)), some (.int b)] [] (zs _ _ _) _
        refine zx_aload_n (q := 1) dX8_tell_0 rfl rfl rfl ?_
        refine zx_iload_n (q := 2) dX8_tell_1 rfl rfl rfl ?_
        refine zx_iconst (q := 3) (v := 0) dX8_tell_2 (by decide) rfl ?_
        refine zx_iconst (q := 4) (v := 2) dX8_tell_3 (by decide) rfl ?_
        refine zx_callV3i (q := 7) (y' := mX8_in) dX8_tell_4 ml_RX8_200 ok_mX8_in rfl (by decide) rfl (Nat.le_of_ble_eq_true rfl) (Nat.le_of_ble_eq_true rfl) (Nat.le_refl _) (Nat.le_refl _) rfl (t_X8_in _ _ _ _ _) ?_
        rintro _ _ ⟨rfl, rfl⟩
        refine zx_if_ne_t (t := 12) (q := 10) dX8_tell_7 (by decide) rfl (zk_t h1) ?_
        refine zx_aload_n (q := 13) dX8_tell_12 rfl rfl rfl ?_
        refine zx_iload_n (q := 14) dX8_tell_13 rfl rfl rfl ?_
        refine zx_iconst (q := 15) (v := (-1)) dX8_tell_14 (by decide) rfl ?_
        refine zx_sipush (q := 18) (v := 999) dX8_tell_15 (by decide) rfl ?_
        refine zx_callV3i (q := 21) (y' := mX8_in) dX8_tell_18 ml_RX8_200 ok_mX8_in rfl (by decide) rfl (Nat.le_of_ble_eq_true rfl) (Nat.le_of_ble_eq_true rfl) (Nat.le_refl _) (Nat.le_refl _) rfl (t_X8_in _ _ _ _ _) ?_
        rintro _ _ ⟨rfl, rfl⟩
        refine zx_if_ne_t (t := 27) (q := 24) dX8_tell_21 (by decide) rfl (zk_t h2) ?_
        refine zx_aload_n (q := 28) dX8_tell_27 rfl rfl rfl ?_
        refine zy_getR (q := 31) dX8_tell_28 fl_RX8_38 rfl rfl rfl rfl ?_
        refine zx_iload_n (q := 32) dX8_tell_31 rfl rfl rfl ?_
        refine zx_iload_n (q := 33) dX8_tell_32 rfl rfl rfl ?_
        refine zy_iastN (q := 34) dX8_tell_33 rfl (by omega) (by decide) rfl ?_
        refine zx_iconst (q := 35) (v := 1) dX8_tell_34 (by decide) rfl ?_
        refine zx_iret dX8_tell_35 rfl (Nat.le_refl _) (Nat.le_refl _) ⟨_, rfl, ?_⟩
        exact ⟨rfl, _, _, _, rfl, z_rel_tell hR (by omega) (z_inB (by decide) (by decide) h2)⟩
      · refine zx_iload_n (q := 15) dX7_tell_14 rfl rfl rfl ?_
        refine zx_iconst (q := 16) (v := 0) dX7_tell_15 (by decide) rfl ?_
        refine zx_sipush (q := 19) (v := 999) dX7_tell_16 (by decide) rfl ?_
        refine zx_callS3i (q := 22) (y' := mX7_within) dX7_tell_19 ml_RX7_73 ok_mX7_within (Nat.le_of_ble_eq_true rfl) (Nat.le_of_ble_eq_true rfl) (Nat.le_refl _) (Nat.le_refl _) rfl (t_X7_within _ _ _ _) ?_
        rintro _ _ ⟨rfl, rfl⟩
        refine zx_if_ne_t (t := 28) (q := 25) dX7_tell_22 (by decide) rfl (zk_t (by simp only [z_in_tt, z_eqI, Int32.lt_iff_toInt_lt, Int32.le_iff_toInt_le, Int32.reduceToInt, z_m1] at h2 c_11 ⊢; omega)) ?_
        refine zx_aload_n (q := 29) dX7_tell_28 rfl rfl rfl ?_
        refine zy_getR (q := 32) dX7_tell_29 fl_RX7_12 rfl rfl rfl rfl ?_
        refine zy_getR (q := 35) dX7_tell_32 fl_RX7_113 rfl rfl rfl rfl ?_
        refine zx_iload_n (q := 36) dX7_tell_35 rfl rfl rfl ?_
        refine zx_iload_n (q := 37) dX7_tell_36 rfl rfl rfl ?_
        refine zy_iastN (q := 38) dX7_tell_37 rfl (by omega) (by decide) rfl ?_
        refine zx_iconst (q := 39) (v := 1) dX7_tell_38 (by decide) rfl ?_
        refine zx_iret dX7_tell_39 rfl (Nat.le_refl _) (Nat.le_refl _) ⟨_, rfl, ?_⟩
        refine ⟨_, _, _, rfl, ?_⟩
        show zW l D tc A mX8_tell (d + 2) 0 0 0 0 0 [some (.ref 108), some (.int (nI j)), some (.int b)] [] (zs _ _ _) _
        refine zx_aload_n (q := 1) dX8_tell_0 rfl rfl rfl ?_
        refine zx_iload_n (q := 2) dX8_tell_1 rfl rfl rfl ?_
        refine zx_iconst (q := 3) (v := 0) dX8_tell_2 (by decide) rfl ?_
        refine zx_iconst (q := 4) (v := 2) dX8_tell_3 (by decide) rfl ?_
        refine zx_callV3i (q := 7) (y' := mX8_in) dX8_tell_4 ml_RX8_200 ok_mX8_in rfl (by decide) rfl (Nat.le_of_ble_eq_true rfl) (Nat.le_of_ble_eq_true rfl) (Nat.le_refl _) (Nat.le_refl _) rfl (t_X8_in _ _ _ _ _) ?_
        rintro _ _ ⟨rfl, rfl⟩
        refine zx_if_ne_t (t := 12) (q := 10) dX8_tell_7 (by decide) rfl (zk_t h1) ?_
        refine zx_aload_n (q := 13) dX8_tell_12 rfl rfl rfl ?_
        refine zx_iload_n (q := 14) dX8_tell_13 rfl rfl rfl ?_
        refine zx_iconst (q := 15) (v := (-1)) dX8_tell_14 (by decide) rfl ?_
        refine zx_sipush (q := 18) (v := 999) dX8_tell_15 (by decide) rfl ?_
        refine zx_callV3i (q := 21) (y' := mX8_in) dX8_tell_18 ml_RX8_200 ok_mX8_in rfl (by decide) rfl (Nat.le_of_ble_eq_true rfl) (Nat.le_of_ble_eq_true rfl) (Nat.le_refl _) (Nat.le_refl _) rfl (t_X8_in _ _ _ _ _) ?_
        rintro _ _ ⟨rfl, rfl⟩
        refine zx_if_ne_t (t := 27) (q := 24) dX8_tell_21 (by decide) rfl (zk_t h2) ?_
        refine zx_aload_n (q := 28) dX8_tell_27 rfl rfl rfl ?_
        refine zy_getR (q := 31) dX8_tell_28 fl_RX8_38 rfl rfl rfl rfl ?_
        refine zx_iload_n (q := 32) dX8_tell_31 rfl rfl rfl ?_
        refine zx_iload_n (q := 33) dX8_tell_32 rfl rfl rfl ?_
        refine zy_iastN (q := 34) dX8_tell_33 rfl (by omega) (by decide) rfl ?_
        refine zx_iconst (q := 35) (v := 1) dX8_tell_34 (by decide) rfl ?_
        refine zx_iret dX8_tell_35 rfl (Nat.le_refl _) (Nat.le_refl _) ⟨_, rfl, ?_⟩
        exact ⟨rfl, _, _, _, rfl, z_rel_tell hR (by omega) (z_inB (by decide) (by decide) h2)⟩
    · show zW l D tc A mX7_tell (d + 2) 0 0 0 0 0 [some (.ref 0), some (.int (nI j)), some (.int b)] [] (zs gi gl f) _
      refine zx_iload_n (q := 1) dX7_tell_0 rfl rfl rfl ?_
      refine zx_callS1i (q := 4) (y' := mX7_isHole) dX7_tell_1 ml_RX7_101 ok_mX7_isHole (Nat.le_of_ble_eq_true rfl) (Nat.le_of_ble_eq_true rfl) (Nat.le_refl _) (Nat.le_refl _) rfl (t_X7_isHole _ _) ?_
      rintro _ _ ⟨rfl, rfl⟩
      refine zx_if_ne_t (t := 9) (q := 7) dX7_tell_4 (by decide) rfl (zk_t h1) ?_
      refine zx_iload_n (q := 10) dX7_tell_9 rfl rfl rfl ?_
      refine zx_iconst (q := 11) (v := (-1)) dX7_tell_10 (by decide) rfl ?_
      refine zx_icmp_eq_f (t := 28) (q := 14) dX7_tell_11 (by decide) rfl (fun e => h2 (by rw [e]; decide)) ?_
      refine zx_iload_n (q := 15) dX7_tell_14 rfl rfl rfl ?_
      refine zx_iconst (q := 16) (v := 0) dX7_tell_15 (by decide) rfl ?_
      refine zx_sipush (q := 19) (v := 999) dX7_tell_16 (by decide) rfl ?_
      refine zx_callS3i (q := 22) (y' := mX7_within) dX7_tell_19 ml_RX7_73 ok_mX7_within (Nat.le_of_ble_eq_true rfl) (Nat.le_of_ble_eq_true rfl) (Nat.le_refl _) (Nat.le_refl _) rfl (t_X7_within _ _ _ _) ?_
      rintro _ _ ⟨rfl, rfl⟩
      refine zx_if_ne_f (t := 28) (q := 25) dX7_tell_22 (by decide) rfl (zk_f (fun z => h2 (by simp only [z_in_tt, z_eqI, Int32.lt_iff_toInt_lt, Int32.le_iff_toInt_le, Int32.reduceToInt, z_m1] at z ⊢; omega))) ?_
      refine zx_bipush (q := 27) (v := (-2)) dX7_tell_25 (by decide) rfl ?_
      refine zx_iret dX7_tell_27 rfl (Nat.le_refl _) (Nat.le_refl _) ⟨_, rfl, ?_⟩
      refine ⟨_, _, _, rfl, ?_⟩
      show zW l D tc A mX8_tell (d + 2) 0 0 0 0 0 [some (.ref 108), some (.int (nI j)), some (.int b)] [] (zs _ _ _) _
      refine zx_aload_n (q := 1) dX8_tell_0 rfl rfl rfl ?_
      refine zx_iload_n (q := 2) dX8_tell_1 rfl rfl rfl ?_
      refine zx_iconst (q := 3) (v := 0) dX8_tell_2 (by decide) rfl ?_
      refine zx_iconst (q := 4) (v := 2) dX8_tell_3 (by decide) rfl ?_
      refine zx_callV3i (q := 7) (y' := mX8_in) dX8_tell_4 ml_RX8_200 ok_mX8_in rfl (by decide) rfl (Nat.le_of_ble_eq_true rfl) (Nat.le_of_ble_eq_true rfl) (Nat.le_refl _) (Nat.le_refl _) rfl (t_X8_in _ _ _ _ _) ?_
      rintro _ _ ⟨rfl, rfl⟩
      refine zx_if_ne_t (t := 12) (q := 10) dX8_tell_7 (by decide) rfl (zk_t h1) ?_
      refine zx_aload_n (q := 13) dX8_tell_12 rfl rfl rfl ?_
      refine zx_iload_n (q := 14) dX8_tell_13 rfl rfl rfl ?_
      refine zx_iconst (q := 15) (v := (-1)) dX8_tell_14 (by decide) rfl ?_
      refine zx_sipush (q := 18) (v := 999) dX8_tell_15 (by decide) rfl ?_
      refine zx_callV3i (q := 21) (y' := mX8_in) dX8_tell_18 ml_RX8_200 ok_mX8_in rfl (by decide) rfl (Nat.le_of_ble_eq_true rfl) (Nat.le_of_ble_eq_true rfl) (Nat.le_refl _) (Nat.le_refl _) rfl (t_X8_in _ _ _ _ _) ?_
      rintro _ _ ⟨rfl, rfl⟩
      refine zx_if_ne_f (t := 27) (q := 24) dX8_tell_21 (by decide) rfl (zk_f h2) ?_
      refine zx_bipush (q := 26) (v := (-2)) dX8_tell_24 (by decide) rfl ?_
      refine zx_iret dX8_tell_26 rfl (Nat.le_refl _) (Nat.le_refl _) ⟨_, rfl, ?_⟩
      exact ⟨rfl, _, _, _, rfl, hR⟩
  · show zW l D tc A mX7_tell (d + 2) 0 0 0 0 0 [some (.ref 0), some (.int a), some (.int b)] [] (zs gi gl f) _
    refine zx_iload_n (q := 1) dX7_tell_0 rfl rfl rfl ?_
    refine zx_callS1i (q := 4) (y' := mX7_isHole) dX7_tell_1 ml_RX7_101 ok_mX7_isHole (Nat.le_of_ble_eq_true rfl) (Nat.le_of_ble_eq_true rfl) (Nat.le_refl _) (Nat.le_refl _) rfl (t_X7_isHole _ _) ?_
    rintro _ _ ⟨rfl, rfl⟩
    refine zx_if_ne_f (t := 9) (q := 7) dX7_tell_4 (by decide) rfl (zk_f h1) ?_
    refine zx_iconst (q := 8) (v := (-1)) dX7_tell_7 (by decide) rfl ?_
    refine zx_iret dX7_tell_8 rfl (Nat.le_refl _) (Nat.le_refl _) ⟨_, rfl, ?_⟩
    refine ⟨_, _, _, rfl, ?_⟩
    show zW l D tc A mX8_tell (d + 2) 0 0 0 0 0 [some (.ref 108), some (.int a), some (.int b)] [] (zs _ _ _) _
    refine zx_aload_n (q := 1) dX8_tell_0 rfl rfl rfl ?_
    refine zx_iload_n (q := 2) dX8_tell_1 rfl rfl rfl ?_
    refine zx_iconst (q := 3) (v := 0) dX8_tell_2 (by decide) rfl ?_
    refine zx_iconst (q := 4) (v := 2) dX8_tell_3 (by decide) rfl ?_
    refine zx_callV3i (q := 7) (y' := mX8_in) dX8_tell_4 ml_RX8_200 ok_mX8_in rfl (by decide) rfl (Nat.le_of_ble_eq_true rfl) (Nat.le_of_ble_eq_true rfl) (Nat.le_refl _) (Nat.le_refl _) rfl (t_X8_in _ _ _ _ _) ?_
    rintro _ _ ⟨rfl, rfl⟩
    refine zx_if_ne_f (t := 12) (q := 10) dX8_tell_7 (by decide) rfl (zk_f h1) ?_
    refine zx_iconst (q := 11) (v := (-1)) dX8_tell_10 (by decide) rfl ?_
    refine zx_iret dX8_tell_11 rfl (Nat.le_refl _) (Nat.le_refl _) ⟨_, rfl, ?_⟩
    exact ⟨rfl, _, _, _, rfl, hR⟩
set_option maxHeartbeats 4000000 in
theorem op_month (d : Nat) (a : Int32) (hR : zRel gi gl) : zOpI l D tc A mX7_month mX8_month (d + 2) [.int a] gi gl f := by
  obtain ⟨nf, ⟨hf0, hf1, hf2⟩, ⟨ns, nb, mm, ⟨hns, hnb, hmm⟩, ⟨hs1, hs2⟩, ⟨hm1, hm2⟩, ⟨hb1, hb2⟩, ⟨hx1, hx2⟩, hSs, hSn, hSt, hSb⟩, ⟨him, hik⟩, ⟨len, hlen, ht1, ht2, ht3⟩, ⟨ra, hra, ha1, ha2, ha3⟩, hTP, ho, hF, hLt⟩ := id hR
  by_cases h1 : z_in a 0 11 = true
  · obtain ⟨j, hj, rfl⟩ := z_inT 11 (by decide) h1
    show zW l D tc A mX7_month (d + 2) 0 0 0 0 0 [some (.ref 0), some (.int (nI j)), none] [] (zs gi gl f) _
    refine zx_iload_n (q := 1) dX7_month_0 rfl rfl rfl ?_
    refine zx_iconst (q := 2) (v := 0) dX7_month_1 (by decide) rfl ?_
    refine zx_bipush (q := 4) (v := 11) dX7_month_2 (by decide) rfl ?_
    refine zx_callS3i (q := 7) (y' := mX7_within) dX7_month_4 ml_RX7_73 ok_mX7_within (Nat.le_of_ble_eq_true rfl) (Nat.le_of_ble_eq_true rfl) (Nat.le_refl _) (Nat.le_refl _) rfl (t_X7_within _ _ _ _) ?_
    rintro _ _ ⟨rfl, rfl⟩
    refine zx_if_ne_t (t := 13) (q := 10) dX7_month_7 (by decide) rfl (zk_t h1) ?_
    refine zx_aload_n (q := 14) dX7_month_13 rfl rfl rfl ?_
    refine zy_getR (q := 17) dX7_month_14 fl_RX7_12 rfl rfl rfl rfl ?_
    refine zy_getI (q := 20) dX7_month_17 fl_RX7_110 rfl rfl rfl ?_
    refine zx_istore2 (q := 21) dX7_month_20 rfl rfl ?_
    refine zx_aload_n (q := 22) dX7_month_21 rfl rfl rfl ?_
    refine zy_getR (q := 25) dX7_month_22 fl_RX7_12 rfl rfl rfl rfl ?_
    refine zx_iload_n (q := 26) dX7_month_25 rfl rfl rfl ?_
    refine zy_putI (q := 29) dX7_month_26 fl_RX7_110 rfl rfl ⟨rfl, rfl⟩ rfl rfl ?_
    refine zx_iload_n (q := 30) dX7_month_29 rfl rfl rfl ?_
    refine zx_iret dX7_month_30 rfl (Nat.le_refl _) (Nat.le_refl _) ⟨_, rfl, ?_⟩
    refine ⟨_, _, _, rfl, ?_⟩
    show zW l D tc A mX8_month (d + 2) 0 0 0 0 0 [some (.ref 108), some (.int (nI j)), none] [] (zs _ _ _) _
    refine zx_aload_n (q := 1) dX8_month_0 rfl rfl rfl ?_
    refine zx_iload_n (q := 2) dX8_month_1 rfl rfl rfl ?_
    refine zx_iconst (q := 3) (v := 0) dX8_month_2 (by decide) rfl ?_
    refine zx_bipush (q := 5) (v := 11) dX8_month_3 (by decide) rfl ?_
    refine zx_callV3i (q := 8) (y' := mX8_in) dX8_month_5 ml_RX8_200 ok_mX8_in rfl (by decide) rfl (Nat.le_of_ble_eq_true rfl) (Nat.le_of_ble_eq_true rfl) (Nat.le_refl _) (Nat.le_refl _) rfl (t_X8_in _ _ _ _ _) ?_
    rintro _ _ ⟨rfl, rfl⟩
    refine zx_if_ne_t (t := 14) (q := 11) dX8_month_8 (by decide) rfl (zk_t h1) ?_
    refine zx_aload_n (q := 15) dX8_month_14 rfl rfl rfl ?_
    refine zy_getI (q := 18) dX8_month_15 fl_RX8_13 rfl rfl rfl ?_
    refine zx_istore2 (q := 19) dX8_month_18 rfl rfl ?_
    refine zx_aload_n (q := 20) dX8_month_19 rfl rfl rfl ?_
    refine zx_iload_n (q := 21) dX8_month_20 rfl rfl rfl ?_
    refine zy_putI (q := 24) dX8_month_21 fl_RX8_13 rfl rfl ⟨rfl, rfl⟩ rfl rfl ?_
    refine zx_iload_n (q := 25) dX8_month_24 rfl rfl rfl ?_
    refine zx_iret dX8_month_25 rfl (Nat.le_refl _) (Nat.le_refl _) ⟨_, rfl, ?_⟩
    exact ⟨by show gi 108 1 = gi 1 4; rw [hm1, hm2], _, _, _, rfl, z_rel_month hR (by omega)⟩
  · show zW l D tc A mX7_month (d + 2) 0 0 0 0 0 [some (.ref 0), some (.int a), none] [] (zs gi gl f) _
    refine zx_iload_n (q := 1) dX7_month_0 rfl rfl rfl ?_
    refine zx_iconst (q := 2) (v := 0) dX7_month_1 (by decide) rfl ?_
    refine zx_bipush (q := 4) (v := 11) dX7_month_2 (by decide) rfl ?_
    refine zx_callS3i (q := 7) (y' := mX7_within) dX7_month_4 ml_RX7_73 ok_mX7_within (Nat.le_of_ble_eq_true rfl) (Nat.le_of_ble_eq_true rfl) (Nat.le_refl _) (Nat.le_refl _) rfl (t_X7_within _ _ _ _) ?_
    rintro _ _ ⟨rfl, rfl⟩
    refine zx_if_ne_f (t := 13) (q := 10) dX7_month_7 (by decide) rfl (zk_f h1) ?_
    refine zx_bipush (q := 12) (v := (-2)) dX7_month_10 (by decide) rfl ?_
    refine zx_iret dX7_month_12 rfl (Nat.le_refl _) (Nat.le_refl _) ⟨_, rfl, ?_⟩
    refine ⟨_, _, _, rfl, ?_⟩
    show zW l D tc A mX8_month (d + 2) 0 0 0 0 0 [some (.ref 108), some (.int a), none] [] (zs _ _ _) _
    refine zx_aload_n (q := 1) dX8_month_0 rfl rfl rfl ?_
    refine zx_iload_n (q := 2) dX8_month_1 rfl rfl rfl ?_
    refine zx_iconst (q := 3) (v := 0) dX8_month_2 (by decide) rfl ?_
    refine zx_bipush (q := 5) (v := 11) dX8_month_3 (by decide) rfl ?_
    refine zx_callV3i (q := 8) (y' := mX8_in) dX8_month_5 ml_RX8_200 ok_mX8_in rfl (by decide) rfl (Nat.le_of_ble_eq_true rfl) (Nat.le_of_ble_eq_true rfl) (Nat.le_refl _) (Nat.le_refl _) rfl (t_X8_in _ _ _ _ _) ?_
    rintro _ _ ⟨rfl, rfl⟩
    refine zx_if_ne_f (t := 14) (q := 11) dX8_month_8 (by decide) rfl (zk_f h1) ?_
    refine zx_bipush (q := 13) (v := (-2)) dX8_month_11 (by decide) rfl ?_
    refine zx_iret dX8_month_13 rfl (Nat.le_refl _) (Nat.le_refl _) ⟨_, rfl, ?_⟩
    exact ⟨rfl, _, _, _, rfl, hR⟩
set_option maxHeartbeats 4000000 in
theorem op_book (d : Nat) (a : Int32) (b : Int32) (hR : zRel gi gl) : zOpI l D tc A mX7_book mX8_book (d + 2) [.int a, .int b] gi gl f := by
  obtain ⟨nf, ⟨hf0, hf1, hf2⟩, ⟨ns, nb, mm, ⟨hns, hnb, hmm⟩, ⟨hs1, hs2⟩, ⟨hm1, hm2⟩, ⟨hb1, hb2⟩, ⟨hx1, hx2⟩, hSs, hSn, hSt, hSb⟩, ⟨him, hik⟩, ⟨len, hlen, ht1, ht2, ht3⟩, ⟨ra, hra, ha1, ha2, ha3⟩, hTP, ho, hF, hLt⟩ := id hR
  by_cases h0 : a = -1
  · subst h0
    show zW l D tc A mX7_book (d + 2) 0 0 0 0 0 [some (.ref 0), some (.int (-1)), some (.int b)] [] (zs gi gl f) _
    refine zx_iload_n (q := 1) dX7_book_0 rfl rfl rfl ?_
    refine zx_iconst (q := 2) (v := (-1)) dX7_book_1 (by decide) rfl ?_
    refine zx_icmp_ne_f (t := 15) (q := 5) dX7_book_2 (by decide) rfl (rfl) ?_
    refine zx_aload_n (q := 6) dX7_book_5 rfl rfl rfl ?_
    refine zy_getR (q := 9) dX7_book_6 fl_RX7_12 rfl rfl rfl rfl ?_
    refine zx_iconst (q := 10) (v := 0) dX7_book_9 (by decide) rfl ?_
    refine zy_putI (q := 13) dX7_book_10 fl_RX7_227 rfl rfl ⟨rfl, rfl⟩ rfl rfl ?_
    refine zx_iconst (q := 14) (v := 0) dX7_book_13 (by decide) rfl ?_
    refine zx_iret dX7_book_14 rfl (Nat.le_refl _) (Nat.le_refl _) ⟨_, rfl, ?_⟩
    refine ⟨_, _, _, rfl, ?_⟩
    show zW l D tc A mX8_book (d + 2) 0 0 0 0 0 [some (.ref 108), some (.int (-1)), some (.int b)] [] (zs _ _ _) _
    refine zx_iload_n (q := 1) dX8_book_0 rfl rfl rfl ?_
    refine zx_iconst (q := 2) (v := (-1)) dX8_book_1 (by decide) rfl ?_
    refine zx_icmp_ne_f (t := 12) (q := 5) dX8_book_2 (by decide) rfl (rfl) ?_
    refine zx_aload_n (q := 6) dX8_book_5 rfl rfl rfl ?_
    refine zx_iconst (q := 7) (v := 0) dX8_book_6 (by decide) rfl ?_
    refine zy_putI (q := 10) dX8_book_7 fl_RX8_126 rfl rfl ⟨rfl, rfl⟩ rfl rfl ?_
    refine zx_iconst (q := 11) (v := 0) dX8_book_10 (by decide) rfl ?_
    refine zx_iret dX8_book_11 rfl (Nat.le_refl _) (Nat.le_refl _) ⟨_, rfl, ?_⟩
    exact ⟨rfl, _, _, _, rfl, z_rel_book0 hR⟩
  · by_cases h1 : z_in a 0 2 = true
    · obtain ⟨j, hj, rfl⟩ := z_inT 2 (by decide) h1
      by_cases h2 : z_in b 0 999 = true
      · by_cases h3 : nb < 12
        · show zW l D tc A mX7_book (d + 2) 0 0 0 0 0 [some (.ref 0), some (.int (nI j)), some (.int b)] [] (zs gi gl f) _
          refine zx_iload_n (q := 1) dX7_book_0 rfl rfl rfl ?_
          refine zx_iconst (q := 2) (v := (-1)) dX7_book_1 (by decide) rfl ?_
          refine zx_icmp_ne_t (t := 15) (q := 5) dX7_book_2 (by decide) rfl (h0) ?_
          refine zx_iload_n (q := 16) dX7_book_15 rfl rfl rfl ?_
          refine zx_callS1i (q := 19) (y' := mX7_isHole) dX7_book_16 ml_RX7_101 ok_mX7_isHole (Nat.le_of_ble_eq_true rfl) (Nat.le_of_ble_eq_true rfl) (Nat.le_refl _) (Nat.le_refl _) rfl (t_X7_isHole _ _) ?_
          rintro _ _ ⟨rfl, rfl⟩
          refine zx_if_ne_t (t := 24) (q := 22) dX7_book_19 (by decide) rfl (zk_t h1) ?_
          refine zx_iload_n (q := 25) dX7_book_24 rfl rfl rfl ?_
          refine zx_iconst (q := 26) (v := 0) dX7_book_25 (by decide) rfl ?_
          refine zx_sipush (q := 29) (v := 999) dX7_book_26 (by decide) rfl ?_
          refine zx_callS3i (q := 32) (y' := mX7_within) dX7_book_29 ml_RX7_73 ok_mX7_within (Nat.le_of_ble_eq_true rfl) (Nat.le_of_ble_eq_true rfl) (Nat.le_refl _) (Nat.le_refl _) rfl (t_X7_within _ _ _ _) ?_
          rintro _ _ ⟨rfl, rfl⟩
          refine zx_if_ne_t (t := 38) (q := 35) dX7_book_32 (by decide) rfl (zk_t h2) ?_
          refine zx_aload_n (q := 39) dX7_book_38 rfl rfl rfl ?_
          refine zy_getR (q := 42) dX7_book_39 fl_RX7_12 rfl rfl rfl rfl ?_
          refine zy_getIe (q := 45) (v := nI nb) dX7_book_42 fl_RX7_227 rfl rfl (hb1) rfl ?_
          refine zx_bipush (q := 47) (v := 12) dX7_book_45 (by decide) rfl ?_
          refine zx_icmp_lt_t (t := 53) (q := 50) dX7_book_47 (by decide) rfl (nI_lt (a := nb) (b := 12) h3 (by decide)) ?_
          refine zx_aload_n (q := 54) dX7_book_53 rfl rfl rfl ?_
          refine zy_getR (q := 57) dX7_book_54 fl_RX7_12 rfl rfl rfl rfl ?_
          refine zy_getR (q := 60) dX7_book_57 fl_RX7_230 rfl rfl rfl rfl ?_
          refine zx_aload_n (q := 61) dX7_book_60 rfl rfl rfl ?_
          refine zy_getR (q := 64) dX7_book_61 fl_RX7_12 rfl rfl rfl rfl ?_
          refine zy_getIe (q := 67) (v := nI nb) dX7_book_64 fl_RX7_227 rfl rfl (hb1) rfl ?_
          refine zx_iload_n (q := 68) dX7_book_67 rfl rfl rfl ?_
          refine zy_iastN (q := 69) dX7_book_68 rfl (by omega) (by decide) rfl ?_
          refine zx_aload_n (q := 70) dX7_book_69 rfl rfl rfl ?_
          refine zy_getR (q := 73) dX7_book_70 fl_RX7_12 rfl rfl rfl rfl ?_
          refine zy_getR (q := 76) dX7_book_73 fl_RX7_233 rfl rfl rfl rfl ?_
          refine zx_aload_n (q := 77) dX7_book_76 rfl rfl rfl ?_
          refine zy_getR (q := 80) dX7_book_77 fl_RX7_12 rfl rfl rfl rfl ?_
          refine zy_getIe (q := 83) (v := nI nb) dX7_book_80 fl_RX7_227 rfl rfl (hb1) rfl ?_
          refine zx_iload_n (q := 84) dX7_book_83 rfl rfl rfl ?_
          refine zy_iastN (q := 85) dX7_book_84 rfl (by omega) (by decide) rfl ?_
          refine zx_aload_n (q := 86) dX7_book_85 rfl rfl rfl ?_
          refine zy_getR (q := 89) dX7_book_86 fl_RX7_12 rfl rfl rfl rfl ?_
          refine zx_dup (q := 90) dX7_book_89 rfl rfl ?_
          refine zy_getIe (q := 93) (v := nI nb) dX7_book_90 fl_RX7_227 rfl rfl (hb1) rfl ?_
          refine zx_iconst (q := 94) (v := 1) dX7_book_93 (by decide) rfl ?_
          refine zx_iadd (q := 95) dX7_book_94 rfl ?_
          rw [nI_1]
          refine zy_putI (q := 98) dX7_book_95 fl_RX7_227 rfl rfl ⟨rfl, rfl⟩ rfl rfl ?_
          refine zx_aload_n (q := 99) dX7_book_98 rfl rfl rfl ?_
          refine zy_getR (q := 102) dX7_book_99 fl_RX7_12 rfl rfl rfl rfl ?_
          refine zy_getI (q := 105) dX7_book_102 fl_RX7_227 rfl rfl rfl ?_
          refine zx_iret dX7_book_105 rfl (Nat.le_refl _) (Nat.le_refl _) ⟨_, rfl, ?_⟩
          refine ⟨_, _, _, rfl, ?_⟩
          show zW l D tc A mX8_book (d + 2) 0 0 0 0 0 [some (.ref 108), some (.int (nI j)), some (.int b)] [] (zs _ _ _) _
          refine zx_iload_n (q := 1) dX8_book_0 rfl rfl rfl ?_
          refine zx_iconst (q := 2) (v := (-1)) dX8_book_1 (by decide) rfl ?_
          refine zx_icmp_ne_t (t := 12) (q := 5) dX8_book_2 (by decide) rfl (h0) ?_
          refine zx_aload_n (q := 13) dX8_book_12 rfl rfl rfl ?_
          refine zx_iload_n (q := 14) dX8_book_13 rfl rfl rfl ?_
          refine zx_iconst (q := 15) (v := 0) dX8_book_14 (by decide) rfl ?_
          refine zx_iconst (q := 16) (v := 2) dX8_book_15 (by decide) rfl ?_
          refine zx_callV3i (q := 19) (y' := mX8_in) dX8_book_16 ml_RX8_200 ok_mX8_in rfl (by decide) rfl (Nat.le_of_ble_eq_true rfl) (Nat.le_of_ble_eq_true rfl) (Nat.le_refl _) (Nat.le_refl _) rfl (t_X8_in _ _ _ _ _) ?_
          rintro _ _ ⟨rfl, rfl⟩
          refine zx_if_ne_t (t := 24) (q := 22) dX8_book_19 (by decide) rfl (zk_t h1) ?_
          refine zx_aload_n (q := 25) dX8_book_24 rfl rfl rfl ?_
          refine zx_iload_n (q := 26) dX8_book_25 rfl rfl rfl ?_
          refine zx_iconst (q := 27) (v := 0) dX8_book_26 (by decide) rfl ?_
          refine zx_sipush (q := 30) (v := 999) dX8_book_27 (by decide) rfl ?_
          refine zx_callV3i (q := 33) (y' := mX8_in) dX8_book_30 ml_RX8_200 ok_mX8_in rfl (by decide) rfl (Nat.le_of_ble_eq_true rfl) (Nat.le_of_ble_eq_true rfl) (Nat.le_refl _) (Nat.le_refl _) rfl (t_X8_in _ _ _ _ _) ?_
          rintro _ _ ⟨rfl, rfl⟩
          refine zx_if_ne_t (t := 39) (q := 36) dX8_book_33 (by decide) rfl (zk_t h2) ?_
          refine zx_aload_n (q := 40) dX8_book_39 rfl rfl rfl ?_
          refine zy_getIe (q := 43) (v := nI nb) dX8_book_40 fl_RX8_126 rfl rfl (hb2) rfl ?_
          refine zx_bipush (q := 45) (v := 12) dX8_book_43 (by decide) rfl ?_
          refine zx_icmp_ne_t (t := 51) (q := 48) dX8_book_45 (by decide) rfl (fun z => by rw [show (12 : Int32) = nI 12 from rfl, nI_eq (by omega) (by omega)] at z; omega) ?_
          refine zx_aload_n (q := 52) dX8_book_51 rfl rfl rfl ?_
          refine zy_getR (q := 55) dX8_book_52 fl_RX8_129 rfl rfl rfl rfl ?_
          refine zx_aload_n (q := 56) dX8_book_55 rfl rfl rfl ?_
          refine zy_getIe (q := 59) (v := nI nb) dX8_book_56 fl_RX8_126 rfl rfl (hb2) rfl ?_
          refine zx_iload_n (q := 60) dX8_book_59 rfl rfl rfl ?_
          refine zy_iastN (q := 61) dX8_book_60 rfl (by omega) (by decide) rfl ?_
          refine zx_aload_n (q := 62) dX8_book_61 rfl rfl rfl ?_
          refine zy_getR (q := 65) dX8_book_62 fl_RX8_132 rfl rfl rfl rfl ?_
          refine zx_aload_n (q := 66) dX8_book_65 rfl rfl rfl ?_
          refine zy_getIe (q := 69) (v := nI nb) dX8_book_66 fl_RX8_126 rfl rfl (hb2) rfl ?_
          refine zx_iload_n (q := 70) dX8_book_69 rfl rfl rfl ?_
          refine zy_iastN (q := 71) dX8_book_70 rfl (by omega) (by decide) rfl ?_
          refine zx_aload_n (q := 72) dX8_book_71 rfl rfl rfl ?_
          refine zx_dup (q := 73) dX8_book_72 rfl rfl ?_
          refine zy_getIe (q := 76) (v := nI nb) dX8_book_73 fl_RX8_126 rfl rfl (hb2) rfl ?_
          refine zx_iconst (q := 77) (v := 1) dX8_book_76 (by decide) rfl ?_
          refine zx_iadd (q := 78) dX8_book_77 rfl ?_
          rw [nI_1]
          refine zy_putI (q := 81) dX8_book_78 fl_RX8_126 rfl rfl ⟨rfl, rfl⟩ rfl rfl ?_
          refine zx_aload_n (q := 82) dX8_book_81 rfl rfl rfl ?_
          refine zy_getI (q := 85) dX8_book_82 fl_RX8_126 rfl rfl rfl ?_
          refine zx_iret dX8_book_85 rfl (Nat.le_refl _) (Nat.le_refl _) ⟨_, rfl, ?_⟩
          exact ⟨rfl, _, _, _, rfl, z_rel_book hR h3 (z_inB (by decide) (by decide) h1) (z_inB (by decide) (by decide) h2)⟩
        · have h4 : nb = 12 := by omega
          subst h4
          show zW l D tc A mX7_book (d + 2) 0 0 0 0 0 [some (.ref 0), some (.int (nI j)), some (.int b)] [] (zs gi gl f) _
          refine zx_iload_n (q := 1) dX7_book_0 rfl rfl rfl ?_
          refine zx_iconst (q := 2) (v := (-1)) dX7_book_1 (by decide) rfl ?_
          refine zx_icmp_ne_t (t := 15) (q := 5) dX7_book_2 (by decide) rfl (h0) ?_
          refine zx_iload_n (q := 16) dX7_book_15 rfl rfl rfl ?_
          refine zx_callS1i (q := 19) (y' := mX7_isHole) dX7_book_16 ml_RX7_101 ok_mX7_isHole (Nat.le_of_ble_eq_true rfl) (Nat.le_of_ble_eq_true rfl) (Nat.le_refl _) (Nat.le_refl _) rfl (t_X7_isHole _ _) ?_
          rintro _ _ ⟨rfl, rfl⟩
          refine zx_if_ne_t (t := 24) (q := 22) dX7_book_19 (by decide) rfl (zk_t h1) ?_
          refine zx_iload_n (q := 25) dX7_book_24 rfl rfl rfl ?_
          refine zx_iconst (q := 26) (v := 0) dX7_book_25 (by decide) rfl ?_
          refine zx_sipush (q := 29) (v := 999) dX7_book_26 (by decide) rfl ?_
          refine zx_callS3i (q := 32) (y' := mX7_within) dX7_book_29 ml_RX7_73 ok_mX7_within (Nat.le_of_ble_eq_true rfl) (Nat.le_of_ble_eq_true rfl) (Nat.le_refl _) (Nat.le_refl _) rfl (t_X7_within _ _ _ _) ?_
          rintro _ _ ⟨rfl, rfl⟩
          refine zx_if_ne_t (t := 38) (q := 35) dX7_book_32 (by decide) rfl (zk_t h2) ?_
          refine zx_aload_n (q := 39) dX7_book_38 rfl rfl rfl ?_
          refine zy_getR (q := 42) dX7_book_39 fl_RX7_12 rfl rfl rfl rfl ?_
          refine zy_getIe (q := 45) (v := 12) dX7_book_42 fl_RX7_227 rfl rfl (hb1) rfl ?_
          refine zx_bipush (q := 47) (v := 12) dX7_book_45 (by decide) rfl ?_
          refine zx_icmp_lt_f (t := 53) (q := 50) dX7_book_47 (by decide) rfl (by decide) ?_
          refine zx_bipush (q := 52) (v := (-4)) dX7_book_50 (by decide) rfl ?_
          refine zx_iret dX7_book_52 rfl (Nat.le_refl _) (Nat.le_refl _) ⟨_, rfl, ?_⟩
          refine ⟨_, _, _, rfl, ?_⟩
          show zW l D tc A mX8_book (d + 2) 0 0 0 0 0 [some (.ref 108), some (.int (nI j)), some (.int b)] [] (zs _ _ _) _
          refine zx_iload_n (q := 1) dX8_book_0 rfl rfl rfl ?_
          refine zx_iconst (q := 2) (v := (-1)) dX8_book_1 (by decide) rfl ?_
          refine zx_icmp_ne_t (t := 12) (q := 5) dX8_book_2 (by decide) rfl (h0) ?_
          refine zx_aload_n (q := 13) dX8_book_12 rfl rfl rfl ?_
          refine zx_iload_n (q := 14) dX8_book_13 rfl rfl rfl ?_
          refine zx_iconst (q := 15) (v := 0) dX8_book_14 (by decide) rfl ?_
          refine zx_iconst (q := 16) (v := 2) dX8_book_15 (by decide) rfl ?_
          refine zx_callV3i (q := 19) (y' := mX8_in) dX8_book_16 ml_RX8_200 ok_mX8_in rfl (by decide) rfl (Nat.le_of_ble_eq_true rfl) (Nat.le_of_ble_eq_true rfl) (Nat.le_refl _) (Nat.le_refl _) rfl (t_X8_in _ _ _ _ _) ?_
          rintro _ _ ⟨rfl, rfl⟩
          refine zx_if_ne_t (t := 24) (q := 22) dX8_book_19 (by decide) rfl (zk_t h1) ?_
          refine zx_aload_n (q := 25) dX8_book_24 rfl rfl rfl ?_
          refine zx_iload_n (q := 26) dX8_book_25 rfl rfl rfl ?_
          refine zx_iconst (q := 27) (v := 0) dX8_book_26 (by decide) rfl ?_
          refine zx_sipush (q := 30) (v := 999) dX8_book_27 (by decide) rfl ?_
          refine zx_callV3i (q := 33) (y' := mX8_in) dX8_book_30 ml_RX8_200 ok_mX8_in rfl (by decide) rfl (Nat.le_of_ble_eq_true rfl) (Nat.le_of_ble_eq_true rfl) (Nat.le_refl _) (Nat.le_refl _) rfl (t_X8_in _ _ _ _ _) ?_
          rintro _ _ ⟨rfl, rfl⟩
          refine zx_if_ne_t (t := 39) (q := 36) dX8_book_33 (by decide) rfl (zk_t h2) ?_
          refine zx_aload_n (q := 40) dX8_book_39 rfl rfl rfl ?_
          refine zy_getIe (q := 43) (v := 12) dX8_book_40 fl_RX8_126 rfl rfl (hb2) rfl ?_
          refine zx_bipush (q := 45) (v := 12) dX8_book_43 (by decide) rfl ?_
          refine zx_icmp_ne_f (t := 51) (q := 48) dX8_book_45 (by decide) rfl (rfl) ?_
          refine zx_bipush (q := 50) (v := (-4)) dX8_book_48 (by decide) rfl ?_
          refine zx_iret dX8_book_50 rfl (Nat.le_refl _) (Nat.le_refl _) ⟨_, rfl, ?_⟩
          exact ⟨rfl, _, _, _, rfl, hR⟩
      · show zW l D tc A mX7_book (d + 2) 0 0 0 0 0 [some (.ref 0), some (.int (nI j)), some (.int b)] [] (zs gi gl f) _
        refine zx_iload_n (q := 1) dX7_book_0 rfl rfl rfl ?_
        refine zx_iconst (q := 2) (v := (-1)) dX7_book_1 (by decide) rfl ?_
        refine zx_icmp_ne_t (t := 15) (q := 5) dX7_book_2 (by decide) rfl (h0) ?_
        refine zx_iload_n (q := 16) dX7_book_15 rfl rfl rfl ?_
        refine zx_callS1i (q := 19) (y' := mX7_isHole) dX7_book_16 ml_RX7_101 ok_mX7_isHole (Nat.le_of_ble_eq_true rfl) (Nat.le_of_ble_eq_true rfl) (Nat.le_refl _) (Nat.le_refl _) rfl (t_X7_isHole _ _) ?_
        rintro _ _ ⟨rfl, rfl⟩
        refine zx_if_ne_t (t := 24) (q := 22) dX7_book_19 (by decide) rfl (zk_t h1) ?_
        refine zx_iload_n (q := 25) dX7_book_24 rfl rfl rfl ?_
        refine zx_iconst (q := 26) (v := 0) dX7_book_25 (by decide) rfl ?_
        refine zx_sipush (q := 29) (v := 999) dX7_book_26 (by decide) rfl ?_
        refine zx_callS3i (q := 32) (y' := mX7_within) dX7_book_29 ml_RX7_73 ok_mX7_within (Nat.le_of_ble_eq_true rfl) (Nat.le_of_ble_eq_true rfl) (Nat.le_refl _) (Nat.le_refl _) rfl (t_X7_within _ _ _ _) ?_
        rintro _ _ ⟨rfl, rfl⟩
        refine zx_if_ne_f (t := 38) (q := 35) dX7_book_32 (by decide) rfl (zk_f h2) ?_
        refine zx_bipush (q := 37) (v := (-2)) dX7_book_35 (by decide) rfl ?_
        refine zx_iret dX7_book_37 rfl (Nat.le_refl _) (Nat.le_refl _) ⟨_, rfl, ?_⟩
        refine ⟨_, _, _, rfl, ?_⟩
        show zW l D tc A mX8_book (d + 2) 0 0 0 0 0 [some (.ref 108), some (.int (nI j)), some (.int b)] [] (zs _ _ _) _
        refine zx_iload_n (q := 1) dX8_book_0 rfl rfl rfl ?_
        refine zx_iconst (q := 2) (v := (-1)) dX8_book_1 (by decide) rfl ?_
        refine zx_icmp_ne_t (t := 12) (q := 5) dX8_book_2 (by decide) rfl (h0) ?_
        refine zx_aload_n (q := 13) dX8_book_12 rfl rfl rfl ?_
        refine zx_iload_n (q := 14) dX8_book_13 rfl rfl rfl ?_
        refine zx_iconst (q := 15) (v := 0) dX8_book_14 (by decide) rfl ?_
        refine zx_iconst (q := 16) (v := 2) dX8_book_15 (by decide) rfl ?_
        refine zx_callV3i (q := 19) (y' := mX8_in) dX8_book_16 ml_RX8_200 ok_mX8_in rfl (by decide) rfl (Nat.le_of_ble_eq_true rfl) (Nat.le_of_ble_eq_true rfl) (Nat.le_refl _) (Nat.le_refl _) rfl (t_X8_in _ _ _ _ _) ?_
        rintro _ _ ⟨rfl, rfl⟩
        refine zx_if_ne_t (t := 24) (q := 22) dX8_book_19 (by decide) rfl (zk_t h1) ?_
        refine zx_aload_n (q := 25) dX8_book_24 rfl rfl rfl ?_
        refine zx_iload_n (q := 26) dX8_book_25 rfl rfl rfl ?_
        refine zx_iconst (q := 27) (v := 0) dX8_book_26 (by decide) rfl ?_
        refine zx_sipush (q := 30) (v := 999) dX8_book_27 (by decide) rfl ?_
        refine zx_callV3i (q := 33) (y' := mX8_in) dX8_book_30 ml_RX8_200 ok_mX8_in rfl (by decide) rfl (Nat.le_of_ble_eq_true rfl) (Nat.le_of_ble_eq_true rfl) (Nat.le_refl _) (Nat.le_refl _) rfl (t_X8_in _ _ _ _ _) ?_
        rintro _ _ ⟨rfl, rfl⟩
        refine zx_if_ne_f (t := 39) (q := 36) dX8_book_33 (by decide) rfl (zk_f h2) ?_
        refine zx_bipush (q := 38) (v := (-2)) dX8_book_36 (by decide) rfl ?_
        refine zx_iret dX8_book_38 rfl (Nat.le_refl _) (Nat.le_refl _) ⟨_, rfl, ?_⟩
        exact ⟨rfl, _, _, _, rfl, hR⟩
    · show zW l D tc A mX7_book (d + 2) 0 0 0 0 0 [some (.ref 0), some (.int a), some (.int b)] [] (zs gi gl f) _
      refine zx_iload_n (q := 1) dX7_book_0 rfl rfl rfl ?_
      refine zx_iconst (q := 2) (v := (-1)) dX7_book_1 (by decide) rfl ?_
      refine zx_icmp_ne_t (t := 15) (q := 5) dX7_book_2 (by decide) rfl (h0) ?_
      refine zx_iload_n (q := 16) dX7_book_15 rfl rfl rfl ?_
      refine zx_callS1i (q := 19) (y' := mX7_isHole) dX7_book_16 ml_RX7_101 ok_mX7_isHole (Nat.le_of_ble_eq_true rfl) (Nat.le_of_ble_eq_true rfl) (Nat.le_refl _) (Nat.le_refl _) rfl (t_X7_isHole _ _) ?_
      rintro _ _ ⟨rfl, rfl⟩
      refine zx_if_ne_f (t := 24) (q := 22) dX7_book_19 (by decide) rfl (zk_f h1) ?_
      refine zx_iconst (q := 23) (v := (-1)) dX7_book_22 (by decide) rfl ?_
      refine zx_iret dX7_book_23 rfl (Nat.le_refl _) (Nat.le_refl _) ⟨_, rfl, ?_⟩
      refine ⟨_, _, _, rfl, ?_⟩
      show zW l D tc A mX8_book (d + 2) 0 0 0 0 0 [some (.ref 108), some (.int a), some (.int b)] [] (zs _ _ _) _
      refine zx_iload_n (q := 1) dX8_book_0 rfl rfl rfl ?_
      refine zx_iconst (q := 2) (v := (-1)) dX8_book_1 (by decide) rfl ?_
      refine zx_icmp_ne_t (t := 12) (q := 5) dX8_book_2 (by decide) rfl (h0) ?_
      refine zx_aload_n (q := 13) dX8_book_12 rfl rfl rfl ?_
      refine zx_iload_n (q := 14) dX8_book_13 rfl rfl rfl ?_
      refine zx_iconst (q := 15) (v := 0) dX8_book_14 (by decide) rfl ?_
      refine zx_iconst (q := 16) (v := 2) dX8_book_15 (by decide) rfl ?_
      refine zx_callV3i (q := 19) (y' := mX8_in) dX8_book_16 ml_RX8_200 ok_mX8_in rfl (by decide) rfl (Nat.le_of_ble_eq_true rfl) (Nat.le_of_ble_eq_true rfl) (Nat.le_refl _) (Nat.le_refl _) rfl (t_X8_in _ _ _ _ _) ?_
      rintro _ _ ⟨rfl, rfl⟩
      refine zx_if_ne_f (t := 24) (q := 22) dX8_book_19 (by decide) rfl (zk_f h1) ?_
      refine zx_iconst (q := 23) (v := (-1)) dX8_book_22 (by decide) rfl ?_
      refine zx_iret dX8_book_23 rfl (Nat.le_refl _) (Nat.le_refl _) ⟨_, rfl, ?_⟩
      exact ⟨rfl, _, _, _, rfl, hR⟩
end P14
