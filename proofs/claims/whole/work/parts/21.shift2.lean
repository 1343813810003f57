theorem z_subI {a b : Nat} (ha : a < 2 ^ 31) (hb : b < 2 ^ 31) : (nI a - nI b).toInt = (a : Int) - b := by
  rw [Int32.toInt_sub, nI_toInt ha, nI_toInt hb]
  exact Int.bmod_eq_of_le (by omega) (by omega)
section P21
variable {l : Launch} {D : va_G} {tc : Nat → ClassId} {A : Nat → Prop} {S : zw_S} {gi : Nat → Nat → Int32} {gl : Nat → Nat → Int64} {f : Option Nat}
set_option maxHeartbeats 4000000 in
theorem op_shift (d : Nat) (a : Int32) (b : Int32) (c : Int32) (e : Int32) (g : Int32) (hR : zRel gi gl) : zOpI l D tc A mX7_shift mX8_shift (d + 2) [.int a, .int b, .int c, .int e, .int g] gi gl f := by
  obtain ⟨nf, ⟨hf0, hf1, hf2⟩, ⟨ns, nb, mm, ⟨hns, hnb, hmm⟩, ⟨hs1, hs2⟩, ⟨hm1, hm2⟩, ⟨hb1, hb2⟩, ⟨hx1, hx2⟩, hSs, hSn, hSt, hSb⟩, ⟨him, hik⟩, ⟨len, hlen, ht1, ht2, ht3⟩, ⟨ra, hra, ha1, ha2, ha3⟩, hTP, ho, hF, hLt⟩ := id hR
  by_cases h1 : z_in a 0 5 = true
  · by_cases h2 : z_in c 0 5 = true
    · obtain ⟨t, ht0, rfl⟩ := z_inT 5 (by decide) h1
      obtain ⟨o, ho0, rfl⟩ := z_inT 5 (by decide) h2
      obtain ⟨ln, hln, ⟨hso, hsr⟩, ⟨hl1, hl2⟩, hemp, hit⟩ := hTP t (by omega)
      obtain ⟨ln2, hln2, ⟨hso2, hsr2⟩, ⟨hl12, hl22⟩, hemp2, hit2⟩ := hTP o (by omega)
      by_cases h3 : gi 146 t = -1
      · show zW l D tc A mX7_shift (d + 2) 0 0 0 0 0 [some (.ref 0), some (.int (nI t)), some (.int b), some (.int (nI o)), some (.int e), some (.int g), none, none] [] (zs gi gl f) _
        refine zx_iload_n (q := 1) dX7_shift_0 rfl rfl rfl ?_
        refine zx_callS1i (q := 4) (y' := mX7_isTape) dX7_shift_1 ml_RX7_236 ok_mX7_isTape (Nat.le_of_ble_eq_true rfl) (Nat.le_of_ble_eq_true rfl) (Nat.le_refl _) (Nat.le_refl _) rfl (t_X7_isTape _ _) ?_
        rintro _ _ ⟨rfl, rfl⟩
        refine zx_if_eq_f (t := 14) (q := 7) dX7_shift_4 (by decide) rfl (zk_t h1) ?_
        refine zx_iload_n (q := 8) dX7_shift_7 rfl rfl rfl ?_
        refine zx_callS1i (q := 11) (y' := mX7_isTape) dX7_shift_8 ml_RX7_236 ok_mX7_isTape (Nat.le_of_ble_eq_true rfl) (Nat.le_of_ble_eq_true rfl) (Nat.le_refl _) (Nat.le_refl _) rfl (t_X7_isTape _ _) ?_
        rintro _ _ ⟨rfl, rfl⟩
        refine zx_if_ne_t (t := 16) (q := 14) dX7_shift_11 (by decide) rfl (zk_t h2) ?_
        refine zx_aload_n (q := 17) dX7_shift_16 rfl rfl rfl ?_
        refine zy_getR (q := 20) dX7_shift_17 fl_RX7_68 rfl rfl rfl rfl ?_
        refine zx_iload_n (q := 21) dX7_shift_20 rfl rfl rfl ?_
        refine zy_aaldN (q := 22) dX7_shift_21 rfl (by decide) (by omega) (by decide) (zr_65 (by omega)).1 rfl ?_
        refine zx_astore6 (q := 24) dX7_shift_22 rfl rfl ?_
        refine zx_aload_n (q := 25) dX7_shift_24 rfl rfl rfl ?_
        refine zy_getR (q := 28) dX7_shift_25 fl_RX7_68 rfl rfl rfl rfl ?_
        refine zx_iload_n (q := 29) dX7_shift_28 rfl rfl rfl ?_
        refine zy_aaldN (q := 30) dX7_shift_29 rfl (by decide) (by omega) (by decide) (zr_65 (by omega)).1 rfl ?_
        refine zx_astore7 (q := 32) dX7_shift_30 rfl rfl ?_
        refine zx_aload (q := 34) dX7_shift_32 rfl rfl ?_
        refine zx_callV0i (q := 37) (y' := mX6_isEmpty) dX7_shift_34 ml_RX7_239 ok_mX6_isEmpty (zr_65 (f := f) (by omega)).2.1 (by decide) rfl (Nat.le_of_ble_eq_true rfl) (Nat.le_of_ble_eq_true rfl) (Nat.le_refl _) (Nat.le_refl _) rfl (t_X6_isEmpty _ t (by omega)) ?_
        rintro _ _ ⟨rfl, rfl⟩
        refine zx_if_ne_t (t := 48) (q := 40) dX7_shift_37 (by decide) rfl (zk_t (by rw [hso]; simp [h3])) ?_
        refine zx_bipush (q := 50) (v := (-11)) dX7_shift_48 (by decide) rfl ?_
        refine zx_iret dX7_shift_50 rfl (Nat.le_refl _) (Nat.le_refl _) ⟨_, rfl, ?_⟩
        refine ⟨_, _, _, rfl, ?_⟩
        show zW l D tc A mX8_shift (d + 2) 0 0 0 0 0 [some (.ref 108), some (.int (nI t)), some (.int b), some (.int (nI o)), some (.int e), some (.int g), none] [] (zs _ _ _) _
        refine zx_aload_n (q := 1) dX8_shift_0 rfl rfl rfl ?_
        refine zx_iload_n (q := 2) dX8_shift_1 rfl rfl rfl ?_
        refine zx_callV1i (q := 5) (y' := mX8_isTape) dX8_shift_2 ml_RX8_342 ok_mX8_isTape rfl (by decide) rfl (Nat.le_of_ble_eq_true rfl) (Nat.le_of_ble_eq_true rfl) (Nat.le_refl _) (Nat.le_refl _) rfl (t_X8_isTape _ _) ?_
        rintro _ _ ⟨rfl, rfl⟩
        refine zx_if_eq_f (t := 16) (q := 8) dX8_shift_5 (by decide) rfl (zk_t h1) ?_
        refine zx_aload_n (q := 9) dX8_shift_8 rfl rfl rfl ?_
        refine zx_iload_n (q := 10) dX8_shift_9 rfl rfl rfl ?_
        refine zx_callV1i (q := 13) (y' := mX8_isTape) dX8_shift_10 ml_RX8_342 ok_mX8_isTape rfl (by decide) rfl (Nat.le_of_ble_eq_true rfl) (Nat.le_of_ble_eq_true rfl) (Nat.le_refl _) (Nat.le_refl _) rfl (t_X8_isTape _ _) ?_
        rintro _ _ ⟨rfl, rfl⟩
        refine zx_if_ne_t (t := 18) (q := 16) dX8_shift_13 (by decide) rfl (zk_t h2) ?_
        refine zx_aload_n (q := 19) dX8_shift_18 rfl rfl rfl ?_
        refine zy_getR (q := 22) dX8_shift_19 fl_RX8_187 rfl rfl rfl rfl ?_
        refine zx_iload_n (q := 23) dX8_shift_22 rfl rfl rfl ?_
        refine zy_ialdN (q := 24) dX8_shift_23 rfl (by omega) (by first | decide | omega) rfl ?_
        refine zx_if_lt_t (t := 36) (q := 27) dX8_shift_24 (by decide) rfl (by rw [h3]; decide) ?_
        refine zx_bipush (q := 38) (v := (-11)) dX8_shift_36 (by decide) rfl ?_
        refine zx_iret dX8_shift_38 rfl (Nat.le_refl _) (Nat.le_refl _) ⟨_, rfl, ?_⟩
        exact ⟨rfl, _, _, _, rfl, hR⟩
      · have h3p : (0 : Int32) ≤ gi 146 t := by have hq := hsr; unfold z_rg at hq; rw [z_eqI, z_m1] at h3; rw [Int32.le_iff_toInt_le]; simp only [Int32.reduceToInt]; omega
        by_cases h4 : gi 146 o = -1
        · show zW l D tc A mX7_shift (d + 2) 0 0 0 0 0 [some (.ref 0), some (.int (nI t)), some (.int b), some (.int (nI o)), some (.int e), some (.int g), none, none] [] (zs gi gl f) _
          refine zx_iload_n (q := 1) dX7_shift_0 rfl rfl rfl ?_
          refine zx_callS1i (q := 4) (y' := mX7_isTape) dX7_shift_1 ml_RX7_236 ok_mX7_isTape (Nat.le_of_ble_eq_true rfl) (Nat.le_of_ble_eq_true rfl) (Nat.le_refl _) (Nat.le_refl _) rfl (t_X7_isTape _ _) ?_
          rintro _ _ ⟨rfl, rfl⟩
          refine zx_if_eq_f (t := 14) (q := 7) dX7_shift_4 (by decide) rfl (zk_t h1) ?_
          refine zx_iload_n (q := 8) dX7_shift_7 rfl rfl rfl ?_
          refine zx_callS1i (q := 11) (y' := mX7_isTape) dX7_shift_8 ml_RX7_236 ok_mX7_isTape (Nat.le_of_ble_eq_true rfl) (Nat.le_of_ble_eq_true rfl) (Nat.le_refl _) (Nat.le_refl _) rfl (t_X7_isTape _ _) ?_
          rintro _ _ ⟨rfl, rfl⟩
          refine zx_if_ne_t (t := 16) (q := 14) dX7_shift_11 (by decide) rfl (zk_t h2) ?_
          refine zx_aload_n (q := 17) dX7_shift_16 rfl rfl rfl ?_
          refine zy_getR (q := 20) dX7_shift_17 fl_RX7_68 rfl rfl rfl rfl ?_
          refine zx_iload_n (q := 21) dX7_shift_20 rfl rfl rfl ?_
          refine zy_aaldN (q := 22) dX7_shift_21 rfl (by decide) (by omega) (by decide) (zr_65 (by omega)).1 rfl ?_
          refine zx_astore6 (q := 24) dX7_shift_22 rfl rfl ?_
          refine zx_aload_n (q := 25) dX7_shift_24 rfl rfl rfl ?_
          refine zy_getR (q := 28) dX7_shift_25 fl_RX7_68 rfl rfl rfl rfl ?_
          refine zx_iload_n (q := 29) dX7_shift_28 rfl rfl rfl ?_
          refine zy_aaldN (q := 30) dX7_shift_29 rfl (by decide) (by omega) (by decide) (zr_65 (by omega)).1 rfl ?_
          refine zx_astore7 (q := 32) dX7_shift_30 rfl rfl ?_
          refine zx_aload (q := 34) dX7_shift_32 rfl rfl ?_
          refine zx_callV0i (q := 37) (y' := mX6_isEmpty) dX7_shift_34 ml_RX7_239 ok_mX6_isEmpty (zr_65 (f := f) (by omega)).2.1 (by decide) rfl (Nat.le_of_ble_eq_true rfl) (Nat.le_of_ble_eq_true rfl) (Nat.le_refl _) (Nat.le_refl _) rfl (t_X6_isEmpty _ t (by omega)) ?_
          rintro _ _ ⟨rfl, rfl⟩
          refine zx_if_ne_f (t := 48) (q := 40) dX7_shift_37 (by decide) rfl (zk_f (by rw [hso]; simp [h3])) ?_
          refine zx_aload (q := 42) dX7_shift_40 rfl rfl ?_
          refine zx_callV0i (q := 45) (y' := mX6_isEmpty) dX7_shift_42 ml_RX7_239 ok_mX6_isEmpty (zr_65 (f := f) (by omega)).2.1 (by decide) rfl (Nat.le_of_ble_eq_true rfl) (Nat.le_of_ble_eq_true rfl) (Nat.le_refl _) (Nat.le_refl _) rfl (t_X6_isEmpty _ o (by omega)) ?_
          rintro _ _ ⟨rfl, rfl⟩
          refine zx_if_eq_f (t := 51) (q := 48) dX7_shift_45 (by decide) rfl (zk_t (by rw [hso2]; simp [h4])) ?_
          refine zx_bipush (q := 50) (v := (-11)) dX7_shift_48 (by decide) rfl ?_
          refine zx_iret dX7_shift_50 rfl (Nat.le_refl _) (Nat.le_refl _) ⟨_, rfl, ?_⟩
          refine ⟨_, _, _, rfl, ?_⟩
          show zW l D tc A mX8_shift (d + 2) 0 0 0 0 0 [some (.ref 108), some (.int (nI t)), some (.int b), some (.int (nI o)), some (.int e), some (.int g), none] [] (zs _ _ _) _
          refine zx_aload_n (q := 1) dX8_shift_0 rfl rfl rfl ?_
          refine zx_iload_n (q := 2) dX8_shift_1 rfl rfl rfl ?_
          refine zx_callV1i (q := 5) (y' := mX8_isTape) dX8_shift_2 ml_RX8_342 ok_mX8_isTape rfl (by decide) rfl (Nat.le_of_ble_eq_true rfl) (Nat.le_of_ble_eq_true rfl) (Nat.le_refl _) (Nat.le_refl _) rfl (t_X8_isTape _ _) ?_
          rintro _ _ ⟨rfl, rfl⟩
          refine zx_if_eq_f (t := 16) (q := 8) dX8_shift_5 (by decide) rfl (zk_t h1) ?_
          refine zx_aload_n (q := 9) dX8_shift_8 rfl rfl rfl ?_
          refine zx_iload_n (q := 10) dX8_shift_9 rfl rfl rfl ?_
          refine zx_callV1i (q := 13) (y' := mX8_isTape) dX8_shift_10 ml_RX8_342 ok_mX8_isTape rfl (by decide) rfl (Nat.le_of_ble_eq_true rfl) (Nat.le_of_ble_eq_true rfl) (Nat.le_refl _) (Nat.le_refl _) rfl (t_X8_isTape _ _) ?_
          rintro _ _ ⟨rfl, rfl⟩
          refine zx_if_ne_t (t := 18) (q := 16) dX8_shift_13 (by decide) rfl (zk_t h2) ?_
          refine zx_aload_n (q := 19) dX8_shift_18 rfl rfl rfl ?_
          refine zy_getR (q := 22) dX8_shift_19 fl_RX8_187 rfl rfl rfl rfl ?_
          refine zx_iload_n (q := 23) dX8_shift_22 rfl rfl rfl ?_
          refine zy_ialdN (q := 24) dX8_shift_23 rfl (by omega) (by first | decide | omega) rfl ?_
          refine zx_if_lt_f (t := 36) (q := 27) dX8_shift_24 (by decide) rfl (Int32.not_lt.mpr h3p) ?_
          refine zx_aload_n (q := 28) dX8_shift_27 rfl rfl rfl ?_
          refine zy_getR (q := 31) dX8_shift_28 fl_RX8_187 rfl rfl rfl rfl ?_
          refine zx_iload_n (q := 32) dX8_shift_31 rfl rfl rfl ?_
          refine zy_ialdN (q := 33) dX8_shift_32 rfl (by omega) (by first | decide | omega) rfl ?_
          refine zx_if_ge_f (t := 39) (q := 36) dX8_shift_33 (by decide) rfl (by rw [h4]; decide) ?_
          refine zx_bipush (q := 38) (v := (-11)) dX8_shift_36 (by decide) rfl ?_
          refine zx_iret dX8_shift_38 rfl (Nat.le_refl _) (Nat.le_refl _) ⟨_, rfl, ?_⟩
          exact ⟨rfl, _, _, _, rfl, hR⟩
        · have h4p : (0 : Int32) ≤ gi 146 o := by have hq := hsr2; unfold z_rg at hq; rw [z_eqI, z_m1] at h4; rw [Int32.le_iff_toInt_le]; simp only [Int32.reduceToInt]; omega
          by_cases h5 : gi 146 t = gi 146 o
          · by_cases h6 : (0 ≤ b.toInt ∧ 0 ≤ g.toInt ∧ b.toInt + g.toInt ≤ ln)
            · by_cases h7 : (0 ≤ e.toInt ∧ 0 ≤ g.toInt ∧ e.toInt + g.toInt ≤ ln2)
              · obtain ⟨i', hi', rfl⟩ := z_nIof (n := 60) h6.1 (by omega)
                obtain ⟨n', hn', rfl⟩ := z_nIof (n := 60) h6.2.1 (by omega)
                obtain ⟨j', hj', rfl⟩ := z_nIof (n := 60) h7.1 (by omega)
                have h6' := h6
                have h7' := h7
                rw [nI_toInt (by omega), nI_toInt (by omega)] at h6' h7'
                show zW l D tc A mX7_shift (d + 2) 0 0 0 0 0 [some (.ref 0), some (.int (nI t)), some (.int (nI i')), some (.int (nI o)), some (.int (nI j')), some (.int (nI n')), none, none] [] (zs gi gl f) _
                refine zx_iload_n (q := 1) dX7_shift_0 rfl rfl rfl ?_
                refine zx_callS1i (q := 4) (y' := mX7_isTape) dX7_shift_1 ml_RX7_236 ok_mX7_isTape (Nat.le_of_ble_eq_true rfl) (Nat.le_of_ble_eq_true rfl) (Nat.le_refl _) (Nat.le_refl _) rfl (t_X7_isTape _ _) ?_
                rintro _ _ ⟨rfl, rfl⟩
                refine zx_if_eq_f (t := 14) (q := 7) dX7_shift_4 (by decide) rfl (zk_t h1) ?_
                refine zx_iload_n (q := 8) dX7_shift_7 rfl rfl rfl ?_
                refine zx_callS1i (q := 11) (y' := mX7_isTape) dX7_shift_8 ml_RX7_236 ok_mX7_isTape (Nat.le_of_ble_eq_true rfl) (Nat.le_of_ble_eq_true rfl) (Nat.le_refl _) (Nat.le_refl _) rfl (t_X7_isTape _ _) ?_
                rintro _ _ ⟨rfl, rfl⟩
                refine zx_if_ne_t (t := 16) (q := 14) dX7_shift_11 (by decide) rfl (zk_t h2) ?_
                refine zx_aload_n (q := 17) dX7_shift_16 rfl rfl rfl ?_
                refine zy_getR (q := 20) dX7_shift_17 fl_RX7_68 rfl rfl rfl rfl ?_
                refine zx_iload_n (q := 21) dX7_shift_20 rfl rfl rfl ?_
                refine zy_aaldN (q := 22) dX7_shift_21 rfl (by decide) (by omega) (by decide) (zr_65 (by omega)).1 rfl ?_
                refine zx_astore6 (q := 24) dX7_shift_22 rfl rfl ?_
                refine zx_aload_n (q := 25) dX7_shift_24 rfl rfl rfl ?_
                refine zy_getR (q := 28) dX7_shift_25 fl_RX7_68 rfl rfl rfl rfl ?_
                refine zx_iload_n (q := 29) dX7_shift_28 rfl rfl rfl ?_
                refine zy_aaldN (q := 30) dX7_shift_29 rfl (by decide) (by omega) (by decide) (zr_65 (by omega)).1 rfl ?_
                refine zx_astore7 (q := 32) dX7_shift_30 rfl rfl ?_
                refine zx_aload (q := 34) dX7_shift_32 rfl rfl ?_
                refine zx_callV0i (q := 37) (y' := mX6_isEmpty) dX7_shift_34 ml_RX7_239 ok_mX6_isEmpty (zr_65 (f := f) (by omega)).2.1 (by decide) rfl (Nat.le_of_ble_eq_true rfl) (Nat.le_of_ble_eq_true rfl) (Nat.le_refl _) (Nat.le_refl _) rfl (t_X6_isEmpty _ t (by omega)) ?_
                rintro _ _ ⟨rfl, rfl⟩
                refine zx_if_ne_f (t := 48) (q := 40) dX7_shift_37 (by decide) rfl (zk_f (by rw [hso]; simp [h3])) ?_
                refine zx_aload (q := 42) dX7_shift_40 rfl rfl ?_
                refine zx_callV0i (q := 45) (y' := mX6_isEmpty) dX7_shift_42 ml_RX7_239 ok_mX6_isEmpty (zr_65 (f := f) (by omega)).2.1 (by decide) rfl (Nat.le_of_ble_eq_true rfl) (Nat.le_of_ble_eq_true rfl) (Nat.le_refl _) (Nat.le_refl _) rfl (t_X6_isEmpty _ o (by omega)) ?_
                rintro _ _ ⟨rfl, rfl⟩
                refine zx_if_eq_t (t := 51) (q := 48) dX7_shift_45 (by decide) rfl (zk_f (by rw [hso2]; simp [h4])) ?_
                refine zx_aload (q := 53) dX7_shift_51 rfl rfl ?_
                refine zy_getIe (q := 56) (v := gi 146 t) dX7_shift_53 fl_RX7_243 rfl (zr_65 (f := f) (by omega)).2.1 (hso) rfl ?_
                refine zx_aload (q := 58) dX7_shift_56 rfl rfl ?_
                refine zy_getIe (q := 61) (v := gi 146 o) dX7_shift_58 fl_RX7_243 rfl (zr_65 (f := f) (by omega)).2.1 (hso2) rfl ?_
                refine zx_icmp_eq_t (t := 67) (q := 64) dX7_shift_61 (by decide) rfl (h5) ?_
                refine zx_aload (q := 69) dX7_shift_67 rfl rfl ?_
                refine zx_iload_n (q := 70) dX7_shift_69 rfl rfl rfl ?_
                refine zx_iload (q := 72) dX7_shift_70 rfl rfl ?_
                refine zx_callV2i (q := 75) (y' := mX6_hasRun) dX7_shift_72 ml_RX7_289 ok_mX6_hasRun (zr_65 (f := f) (by omega)).2.1 (by decide) rfl (Nat.le_of_ble_eq_true rfl) (Nat.le_of_ble_eq_true rfl) (Nat.le_refl _) (Nat.le_refl _) rfl (t_X6_hasRun _ t (by omega) _ _ hl1 hln) ?_
                rintro r1 _ ⟨rfl, hq⟩
                obtain ⟨rfl, -⟩ := hq.resolve_right (fun z => z.2 h6)
                refine zx_if_eq_f (t := 90) (q := 78) dX7_shift_75 (by decide) rfl (by decide) ?_
                refine zx_aload (q := 80) dX7_shift_78 rfl rfl ?_
                refine zx_iload (q := 82) dX7_shift_80 rfl rfl ?_
                refine zx_iload (q := 84) dX7_shift_82 rfl rfl ?_
                refine zx_callV2i (q := 87) (y' := mX6_hasRun) dX7_shift_84 ml_RX7_289 ok_mX6_hasRun (zr_65 (f := f) (by omega)).2.1 (by decide) rfl (Nat.le_of_ble_eq_true rfl) (Nat.le_of_ble_eq_true rfl) (Nat.le_refl _) (Nat.le_refl _) rfl (t_X6_hasRun _ o (by omega) _ _ hl12 hln2) ?_
                rintro r2 _ ⟨rfl, hq⟩
                obtain ⟨rfl, -⟩ := hq.resolve_right (fun z => z.2 h7)
                refine zx_if_ne_t (t := 93) (q := 90) dX7_shift_87 (by decide) rfl (by decide) ?_
                refine zx_aload (q := 95) dX7_shift_93 rfl rfl ?_
                refine zy_getR (q := 98) dX7_shift_95 fl_RX7_249 rfl (zr_65 (f := f) (by omega)).2.1 (zr_65 (by omega)).2.2.1 rfl ?_
                refine zx_iload_n (q := 99) dX7_shift_98 rfl rfl rfl ?_
                refine zx_aload (q := 101) dX7_shift_99 rfl rfl ?_
                refine zy_getR (q := 104) dX7_shift_101 fl_RX7_249 rfl (zr_65 (f := f) (by omega)).2.1 (zr_65 (by omega)).2.2.1 rfl ?_
                refine zx_iload (q := 106) dX7_shift_104 rfl rfl ?_
                refine zx_iload (q := 108) dX7_shift_106 rfl rfl ?_
                refine zy_copyL (q := 111) dX7_shift_108 ml_RX7_174 (zr_65 (f := f) (by omega)).2.2.2 (zr_65 (f := f) (by omega)).2.2.2 (nI_pos (by omega)) (nI_pos (by omega)) (nI_pos (by omega)) (by rw [nI_clamp (by omega), nI_clamp (by omega)]; omega) (by rw [nI_clamp (by omega), nI_clamp (by omega)]; omega) (Nat.le_of_ble_eq_true rfl) rfl ?_
                refine zx_iload (q := 113) dX7_shift_111 rfl rfl ?_
                refine zx_iret dX7_shift_113 rfl (Nat.le_refl _) (Nat.le_refl _) ⟨_, rfl, ?_⟩
                refine ⟨_, _, _, rfl, ?_⟩
                show zW l D tc A mX8_shift (d + 2) 0 0 0 0 0 [some (.ref 108), some (.int (nI t)), some (.int (nI i')), some (.int (nI o)), some (.int (nI j')), some (.int (nI n')), none] [] (zs _ _ _) _
                refine zx_aload_n (q := 1) dX8_shift_0 rfl rfl rfl ?_
                refine zx_iload_n (q := 2) dX8_shift_1 rfl rfl rfl ?_
                refine zx_callV1i (q := 5) (y' := mX8_isTape) dX8_shift_2 ml_RX8_342 ok_mX8_isTape rfl (by decide) rfl (Nat.le_of_ble_eq_true rfl) (Nat.le_of_ble_eq_true rfl) (Nat.le_refl _) (Nat.le_refl _) rfl (t_X8_isTape _ _) ?_
                rintro _ _ ⟨rfl, rfl⟩
                refine zx_if_eq_f (t := 16) (q := 8) dX8_shift_5 (by decide) rfl (zk_t h1) ?_
                refine zx_aload_n (q := 9) dX8_shift_8 rfl rfl rfl ?_
                refine zx_iload_n (q := 10) dX8_shift_9 rfl rfl rfl ?_
                refine zx_callV1i (q := 13) (y' := mX8_isTape) dX8_shift_10 ml_RX8_342 ok_mX8_isTape rfl (by decide) rfl (Nat.le_of_ble_eq_true rfl) (Nat.le_of_ble_eq_true rfl) (Nat.le_refl _) (Nat.le_refl _) rfl (t_X8_isTape _ _) ?_
                rintro _ _ ⟨rfl, rfl⟩
                refine zx_if_ne_t (t := 18) (q := 16) dX8_shift_13 (by decide) rfl (zk_t h2) ?_
                refine zx_aload_n (q := 19) dX8_shift_18 rfl rfl rfl ?_
                refine zy_getR (q := 22) dX8_shift_19 fl_RX8_187 rfl rfl rfl rfl ?_
                refine zx_iload_n (q := 23) dX8_shift_22 rfl rfl rfl ?_
                refine zy_ialdN (q := 24) dX8_shift_23 rfl (by omega) (by first | decide | omega) rfl ?_
                refine zx_if_lt_f (t := 36) (q := 27) dX8_shift_24 (by decide) rfl (Int32.not_lt.mpr h3p) ?_
                refine zx_aload_n (q := 28) dX8_shift_27 rfl rfl rfl ?_
                refine zy_getR (q := 31) dX8_shift_28 fl_RX8_187 rfl rfl rfl rfl ?_
                refine zx_iload_n (q := 32) dX8_shift_31 rfl rfl rfl ?_
                refine zy_ialdN (q := 33) dX8_shift_32 rfl (by omega) (by first | decide | omega) rfl ?_
                refine zx_if_ge_t (t := 39) (q := 36) dX8_shift_33 (by decide) rfl (h4p) ?_
                refine zx_aload_n (q := 40) dX8_shift_39 rfl rfl rfl ?_
                refine zy_getR (q := 43) dX8_shift_40 fl_RX8_187 rfl rfl rfl rfl ?_
                refine zx_iload_n (q := 44) dX8_shift_43 rfl rfl rfl ?_
                refine zy_ialdN (q := 45) dX8_shift_44 rfl (by omega) (by first | decide | omega) rfl ?_
                refine zx_aload_n (q := 46) dX8_shift_45 rfl rfl rfl ?_
                refine zy_getR (q := 49) dX8_shift_46 fl_RX8_187 rfl rfl rfl rfl ?_
                refine zx_iload_n (q := 50) dX8_shift_49 rfl rfl rfl ?_
                refine zy_ialdN (q := 51) dX8_shift_50 rfl (by omega) (by first | decide | omega) rfl ?_
                refine zx_icmp_eq_t (t := 57) (q := 54) dX8_shift_51 (by decide) rfl (h5) ?_
                refine zx_iload (q := 59) dX8_shift_57 rfl rfl ?_
                refine zx_if_lt_f (t := 98) (q := 62) dX8_shift_59 (by decide) rfl (nI_pos (by omega)) ?_
                refine zx_iload_n (q := 63) dX8_shift_62 rfl rfl rfl ?_
                refine zx_if_lt_f (t := 98) (q := 66) dX8_shift_63 (by decide) rfl (nI_pos (by omega)) ?_
                refine zx_iload (q := 68) dX8_shift_66 rfl rfl ?_
                refine zx_if_lt_f (t := 98) (q := 71) dX8_shift_68 (by decide) rfl (nI_pos (by omega)) ?_
                refine zx_iload_n (q := 72) dX8_shift_71 rfl rfl rfl ?_
                refine zx_aload_n (q := 73) dX8_shift_72 rfl rfl rfl ?_
                refine zy_getR (q := 76) dX8_shift_73 fl_RX8_190 rfl rfl rfl rfl ?_
                refine zx_iload_n (q := 77) dX8_shift_76 rfl rfl rfl ?_
                refine zy_ialdN (q := 78) dX8_shift_77 rfl (by omega) (by first | decide | omega) rfl ?_
                refine zx_iload (q := 80) dX8_shift_78 rfl rfl ?_
                refine zx_isub (q := 81) dX8_shift_80 rfl ?_
                rw [hl2, z_subN (by omega)]
                refine zx_icmp_gt_f (t := 98) (q := 84) dX8_shift_81 (by decide) rfl (nI_nlt (by omega) (by omega)) ?_
                refine zx_iload (q := 86) dX8_shift_84 rfl rfl ?_
                refine zx_aload_n (q := 87) dX8_shift_86 rfl rfl rfl ?_
                refine zy_getR (q := 90) dX8_shift_87 fl_RX8_190 rfl rfl rfl rfl ?_
                refine zx_iload_n (q := 91) dX8_shift_90 rfl rfl rfl ?_
                refine zy_ialdN (q := 92) dX8_shift_91 rfl (by omega) (by first | decide | omega) rfl ?_
                refine zx_iload (q := 94) dX8_shift_92 rfl rfl ?_
                refine zx_isub (q := 95) dX8_shift_94 rfl ?_
                rw [hl22, z_subN (by omega)]
                refine zx_icmp_le_t (t := 101) (q := 98) dX8_shift_95 (by decide) rfl (nI_le (by omega) (by omega)) ?_
                refine zx_iconst (q := 102) (v := 0) dX8_shift_101 (by decide) rfl ?_
                refine zx_istore6 (q := 104) dX8_shift_102 rfl rfl ?_
                rw [nI_clamp (by omega), nI_clamp (by omega), nI_clamp (by omega)]
                have h := lp_X8_shift1 (l := l) (D := D) (tc := tc) (A := A) (gi := gi) (gl := zw_row gl (97 + 2 * o) (va_cpy (gl (97 + 2 * t)) (gl (97 + 2 * o)) i' j' n')) (f := f) (d + 2) t o i' j' n' (by omega) (by omega) (by omega) (by omega) n' 0 (by omega)
                rw [zw_mv_0] at h
                refine h.mono ?_
                rintro _ _ ⟨x, rfl, rfl, rfl⟩
                exact ⟨_, rfl, rfl, _, _, _, rfl, z_rel_shift (lt := 0) (lo := 0) hR (by omega) (by omega) (by omega) (by omega)⟩
              · have h6 := h6
                show zW l D tc A mX7_shift (d + 2) 0 0 0 0 0 [some (.ref 0), some (.int (nI t)), some (.int b), some (.int (nI o)), some (.int e), some (.int g), none, none] [] (zs gi gl f) _
                refine zx_iload_n (q := 1) dX7_shift_0 rfl rfl rfl ?_
                refine zx_callS1i (q := 4) (y' := mX7_isTape) dX7_shift_1 ml_RX7_236 ok_mX7_isTape (Nat.le_of_ble_eq_true rfl) (Nat.le_of_ble_eq_true rfl) (Nat.le_refl _) (Nat.le_refl _) rfl (t_X7_isTape _ _) ?_
                rintro _ _ ⟨rfl, rfl⟩
                refine zx_if_eq_f (t := 14) (q := 7) dX7_shift_4 (by decide) rfl (zk_t h1) ?_
                refine zx_iload_n (q := 8) dX7_shift_7 rfl rfl rfl ?_
                refine zx_callS1i (q := 11) (y' := mX7_isTape) dX7_shift_8 ml_RX7_236 ok_mX7_isTape (Nat.le_of_ble_eq_true rfl) (Nat.le_of_ble_eq_true rfl) (Nat.le_refl _) (Nat.le_refl _) rfl (t_X7_isTape _ _) ?_
                rintro _ _ ⟨rfl, rfl⟩
                refine zx_if_ne_t (t := 16) (q := 14) dX7_shift_11 (by decide) rfl (zk_t h2) ?_
                refine zx_aload_n (q := 17) dX7_shift_16 rfl rfl rfl ?_
                refine zy_getR (q := 20) dX7_shift_17 fl_RX7_68 rfl rfl rfl rfl ?_
                refine zx_iload_n (q := 21) dX7_shift_20 rfl rfl rfl ?_
                refine zy_aaldN (q := 22) dX7_shift_21 rfl (by decide) (by omega) (by decide) (zr_65 (by omega)).1 rfl ?_
                refine zx_astore6 (q := 24) dX7_shift_22 rfl rfl ?_
                refine zx_aload_n (q := 25) dX7_shift_24 rfl rfl rfl ?_
                refine zy_getR (q := 28) dX7_shift_25 fl_RX7_68 rfl rfl rfl rfl ?_
                refine zx_iload_n (q := 29) dX7_shift_28 rfl rfl rfl ?_
                refine zy_aaldN (q := 30) dX7_shift_29 rfl (by decide) (by omega) (by decide) (zr_65 (by omega)).1 rfl ?_
                refine zx_astore7 (q := 32) dX7_shift_30 rfl rfl ?_
                refine zx_aload (q := 34) dX7_shift_32 rfl rfl ?_
                refine zx_callV0i (q := 37) (y' := mX6_isEmpty) dX7_shift_34 ml_RX7_239 ok_mX6_isEmpty (zr_65 (f := f) (by omega)).2.1 (by decide) rfl (Nat.le_of_ble_eq_true rfl) (Nat.le_of_ble_eq_true rfl) (Nat.le_refl _) (Nat.le_refl _) rfl (t_X6_isEmpty _ t (by omega)) ?_
                rintro _ _ ⟨rfl, rfl⟩
                refine zx_if_ne_f (t := 48) (q := 40) dX7_shift_37 (by decide) rfl (zk_f (by rw [hso]; simp [h3])) ?_
                refine zx_aload (q := 42) dX7_shift_40 rfl rfl ?_
                refine zx_callV0i (q := 45) (y' := mX6_isEmpty) dX7_shift_42 ml_RX7_239 ok_mX6_isEmpty (zr_65 (f := f) (by omega)).2.1 (by decide) rfl (Nat.le_of_ble_eq_true rfl) (Nat.le_of_ble_eq_true rfl) (Nat.le_refl _) (Nat.le_refl _) rfl (t_X6_isEmpty _ o (by omega)) ?_
                rintro _ _ ⟨rfl, rfl⟩
                refine zx_if_eq_t (t := 51) (q := 48) dX7_shift_45 (by decide) rfl (zk_f (by rw [hso2]; simp [h4])) ?_
                refine zx_aload (q := 53) dX7_shift_51 rfl rfl ?_
                refine zy_getIe (q := 56) (v := gi 146 t) dX7_shift_53 fl_RX7_243 rfl (zr_65 (f := f) (by omega)).2.1 (hso) rfl ?_
                refine zx_aload (q := 58) dX7_shift_56 rfl rfl ?_
                refine zy_getIe (q := 61) (v := gi 146 o) dX7_shift_58 fl_RX7_243 rfl (zr_65 (f := f) (by omega)).2.1 (hso2) rfl ?_
                refine zx_icmp_eq_t (t := 67) (q := 64) dX7_shift_61 (by decide) rfl (h5) ?_
                refine zx_aload (q := 69) dX7_shift_67 rfl rfl ?_
                refine zx_iload_n (q := 70) dX7_shift_69 rfl rfl rfl ?_
                refine zx_iload (q := 72) dX7_shift_70 rfl rfl ?_
                refine zx_callV2i (q := 75) (y' := mX6_hasRun) dX7_shift_72 ml_RX7_289 ok_mX6_hasRun (zr_65 (f := f) (by omega)).2.1 (by decide) rfl (Nat.le_of_ble_eq_true rfl) (Nat.le_of_ble_eq_true rfl) (Nat.le_refl _) (Nat.le_refl _) rfl (t_X6_hasRun _ t (by omega) _ _ hl1 hln) ?_
                rintro r1 _ ⟨rfl, hq⟩
                obtain ⟨rfl, -⟩ := hq.resolve_right (fun z => z.2 h6)
                refine zx_if_eq_f (t := 90) (q := 78) dX7_shift_75 (by decide) rfl (by decide) ?_
                refine zx_aload (q := 80) dX7_shift_78 rfl rfl ?_
                refine zx_iload (q := 82) dX7_shift_80 rfl rfl ?_
                refine zx_iload (q := 84) dX7_shift_82 rfl rfl ?_
                refine zx_callV2i (q := 87) (y' := mX6_hasRun) dX7_shift_84 ml_RX7_289 ok_mX6_hasRun (zr_65 (f := f) (by omega)).2.1 (by decide) rfl (Nat.le_of_ble_eq_true rfl) (Nat.le_of_ble_eq_true rfl) (Nat.le_refl _) (Nat.le_refl _) rfl (t_X6_hasRun _ o (by omega) _ _ hl12 hln2) ?_
                rintro r2 _ ⟨rfl, hq⟩
                obtain ⟨rfl, -⟩ := hq.resolve_left (fun z => h7 z.2)
                refine zx_if_ne_f (t := 93) (q := 90) dX7_shift_87 (by decide) rfl (rfl) ?_
                refine zx_bipush (q := 92) (v := (-13)) dX7_shift_90 (by decide) rfl ?_
                refine zx_iret dX7_shift_92 rfl (Nat.le_refl _) (Nat.le_refl _) ⟨_, rfl, ?_⟩
                refine ⟨_, _, _, rfl, ?_⟩
                show zW l D tc A mX8_shift (d + 2) 0 0 0 0 0 [some (.ref 108), some (.int (nI t)), some (.int b), some (.int (nI o)), some (.int e), some (.int g), none] [] (zs _ _ _) _
                refine zx_aload_n (q := 1) dX8_shift_0 rfl rfl rfl ?_
                refine zx_iload_n (q := 2) dX8_shift_1 rfl rfl rfl ?_
                refine zx_callV1i (q := 5) (y' := mX8_isTape) dX8_shift_2 ml_RX8_342 ok_mX8_isTape rfl (by decide) rfl (Nat.le_of_ble_eq_true rfl) (Nat.le_of_ble_eq_true rfl) (Nat.le_refl _) (Nat.le_refl _) rfl (t_X8_isTape _ _) ?_
                rintro _ _ ⟨rfl, rfl⟩
                refine zx_if_eq_f (t := 16) (q := 8) dX8_shift_5 (by decide) rfl (zk_t h1) ?_
                refine zx_aload_n (q := 9) dX8_shift_8 rfl rfl rfl ?_
                refine zx_iload_n (q := 10) dX8_shift_9 rfl rfl rfl ?_
                refine zx_callV1i (q := 13) (y' := mX8_isTape) dX8_shift_10 ml_RX8_342 ok_mX8_isTape rfl (by decide) rfl (Nat.le_of_ble_eq_true rfl) (Nat.le_of_ble_eq_true rfl) (Nat.le_refl _) (Nat.le_refl _) rfl (t_X8_isTape _ _) ?_
                rintro _ _ ⟨rfl, rfl⟩
                refine zx_if_ne_t (t := 18) (q := 16) dX8_shift_13 (by decide) rfl (zk_t h2) ?_
                refine zx_aload_n (q := 19) dX8_shift_18 rfl rfl rfl ?_
                refine zy_getR (q := 22) dX8_shift_19 fl_RX8_187 rfl rfl rfl rfl ?_
                refine zx_iload_n (q := 23) dX8_shift_22 rfl rfl rfl ?_
                refine zy_ialdN (q := 24) dX8_shift_23 rfl (by omega) (by first | decide | omega) rfl ?_
                refine zx_if_lt_f (t := 36) (q := 27) dX8_shift_24 (by decide) rfl (Int32.not_lt.mpr h3p) ?_
                refine zx_aload_n (q := 28) dX8_shift_27 rfl rfl rfl ?_
                refine zy_getR (q := 31) dX8_shift_28 fl_RX8_187 rfl rfl rfl rfl ?_
                refine zx_iload_n (q := 32) dX8_shift_31 rfl rfl rfl ?_
                refine zy_ialdN (q := 33) dX8_shift_32 rfl (by omega) (by first | decide | omega) rfl ?_
                refine zx_if_ge_t (t := 39) (q := 36) dX8_shift_33 (by decide) rfl (h4p) ?_
                refine zx_aload_n (q := 40) dX8_shift_39 rfl rfl rfl ?_
                refine zy_getR (q := 43) dX8_shift_40 fl_RX8_187 rfl rfl rfl rfl ?_
                refine zx_iload_n (q := 44) dX8_shift_43 rfl rfl rfl ?_
                refine zy_ialdN (q := 45) dX8_shift_44 rfl (by omega) (by first | decide | omega) rfl ?_
                refine zx_aload_n (q := 46) dX8_shift_45 rfl rfl rfl ?_
                refine zy_getR (q := 49) dX8_shift_46 fl_RX8_187 rfl rfl rfl rfl ?_
                refine zx_iload_n (q := 50) dX8_shift_49 rfl rfl rfl ?_
                refine zy_ialdN (q := 51) dX8_shift_50 rfl (by omega) (by first | decide | omega) rfl ?_
                refine zx_icmp_eq_t (t := 57) (q := 54) dX8_shift_51 (by decide) rfl (h5) ?_
                refine zx_iload (q := 59) dX8_shift_57 rfl rfl ?_
                refine zx_if_lt (q := 62) (t := 98) dX8_shift_59 (by decide) rfl (fun e_59 => ?_) (fun e_59 => ?_)
                · refine zx_bipush (q := 100) (v := (-13)) dX8_shift_98 (by decide) rfl ?_
                  refine zx_iret dX8_shift_100 rfl (Nat.le_refl _) (Nat.le_refl _) ⟨_, rfl, ?_⟩
                  exact ⟨rfl, _, _, _, rfl, hR⟩
                · refine zx_iload_n (q := 63) dX8_shift_62 rfl rfl rfl ?_
                  refine zx_if_lt (q := 66) (t := 98) dX8_shift_63 (by decide) rfl (fun e_63 => ?_) (fun e_63 => ?_)
                  · refine zx_bipush (q := 100) (v := (-13)) dX8_shift_98 (by decide) rfl ?_
                    refine zx_iret dX8_shift_100 rfl (Nat.le_refl _) (Nat.le_refl _) ⟨_, rfl, ?_⟩
                    exact ⟨rfl, _, _, _, rfl, hR⟩
                  · refine zx_iload (q := 68) dX8_shift_66 rfl rfl ?_
                    refine zx_if_lt (q := 71) (t := 98) dX8_shift_68 (by decide) rfl (fun e_68 => ?_) (fun e_68 => ?_)
                    · refine zx_bipush (q := 100) (v := (-13)) dX8_shift_98 (by decide) rfl ?_
                      refine zx_iret dX8_shift_100 rfl (Nat.le_refl _) (Nat.le_refl _) ⟨_, rfl, ?_⟩
                      exact ⟨rfl, _, _, _, rfl, hR⟩
                    · refine zx_iload_n (q := 72) dX8_shift_71 rfl rfl rfl ?_
                      refine zx_aload_n (q := 73) dX8_shift_72 rfl rfl rfl ?_
                      refine zy_getR (q := 76) dX8_shift_73 fl_RX8_190 rfl rfl rfl rfl ?_
                      refine zx_iload_n (q := 77) dX8_shift_76 rfl rfl rfl ?_
                      refine zy_ialdN (q := 78) dX8_shift_77 rfl (by omega) (by first | decide | omega) rfl ?_
                      refine zx_iload (q := 80) dX8_shift_78 rfl rfl ?_
                      refine zx_isub (q := 81) dX8_shift_80 rfl ?_
                      refine zx_icmp_gt (q := 84) (t := 98) dX8_shift_81 (by decide) rfl (fun e_81 => ?_) (fun e_81 => ?_)
                      · refine zx_bipush (q := 100) (v := (-13)) dX8_shift_98 (by decide) rfl ?_
                        refine zx_iret dX8_shift_100 rfl (Nat.le_refl _) (Nat.le_refl _) ⟨_, rfl, ?_⟩
                        exact ⟨rfl, _, _, _, rfl, hR⟩
                      · refine zx_iload (q := 86) dX8_shift_84 rfl rfl ?_
                        refine zx_aload_n (q := 87) dX8_shift_86 rfl rfl rfl ?_
                        refine zy_getR (q := 90) dX8_shift_87 fl_RX8_190 rfl rfl rfl rfl ?_
                        refine zx_iload_n (q := 91) dX8_shift_90 rfl rfl rfl ?_
                        refine zy_ialdN (q := 92) dX8_shift_91 rfl (by omega) (by first | decide | omega) rfl ?_
                        refine zx_iload (q := 94) dX8_shift_92 rfl rfl ?_
                        refine zx_isub (q := 95) dX8_shift_94 rfl ?_
                        refine zx_icmp_le (q := 98) (t := 101) dX8_shift_95 (by decide) rfl (fun e_95 => ?_) (fun e_95 => ?_)
                        · exfalso
                          obtain ⟨n', hn', rfl⟩ := nI_of e_59
                          obtain ⟨i', hi', rfl⟩ := nI_of e_63
                          obtain ⟨j', hj', rfl⟩ := nI_of e_68
                          rw [hl2, Int32.lt_iff_toInt_lt, z_subI (by omega) (by omega), nI_toInt (by omega)] at e_81
                          rw [hl22, Int32.le_iff_toInt_le, z_subI (by omega) (by omega), nI_toInt (by omega)] at e_95
                          rw [nI_toInt (by omega), nI_toInt (by omega)] at h6
                          try rw [nI_toInt (by omega), nI_toInt (by omega)] at h7
                          omega
                        · refine zx_bipush (q := 100) (v := (-13)) dX8_shift_98 (by decide) rfl ?_
                          refine zx_iret dX8_shift_100 rfl (Nat.le_refl _) (Nat.le_refl _) ⟨_, rfl, ?_⟩
                          exact ⟨rfl, _, _, _, rfl, hR⟩
            · have h7 : True := trivial
              show zW l D tc A mX7_shift (d + 2) 0 0 0 0 0 [some (.ref 0), some (.int (nI t)), some (.int b), some (.int (nI o)), some (.int e), some (.int g), none, none] [] (zs gi gl f) _
              refine zx_iload_n (q := 1) dX7_shift_0 rfl rfl rfl ?_
              refine zx_callS1i (q := 4) (y' := mX7_isTape) dX7_shift_1 ml_RX7_236 ok_mX7_isTape (Nat.le_of_ble_eq_true rfl) (Nat.le_of_ble_eq_true rfl) (Nat.le_refl _) (Nat.le_refl _) rfl (t_X7_isTape _ _) ?_
              rintro _ _ ⟨rfl, rfl⟩
              refine zx_if_eq_f (t := 14) (q := 7) dX7_shift_4 (by decide) rfl (zk_t h1) ?_
              refine zx_iload_n (q := 8) dX7_shift_7 rfl rfl rfl ?_
              refine zx_callS1i (q := 11) (y' := mX7_isTape) dX7_shift_8 ml_RX7_236 ok_mX7_isTape (Nat.le_of_ble_eq_true rfl) (Nat.le_of_ble_eq_true rfl) (Nat.le_refl _) (Nat.le_refl _) rfl (t_X7_isTape _ _) ?_
              rintro _ _ ⟨rfl, rfl⟩
              refine zx_if_ne_t (t := 16) (q := 14) dX7_shift_11 (by decide) rfl (zk_t h2) ?_
              refine zx_aload_n (q := 17) dX7_shift_16 rfl rfl rfl ?_
              refine zy_getR (q := 20) dX7_shift_17 fl_RX7_68 rfl rfl rfl rfl ?_
              refine zx_iload_n (q := 21) dX7_shift_20 rfl rfl rfl ?_
              refine zy_aaldN (q := 22) dX7_shift_21 rfl (by decide) (by omega) (by decide) (zr_65 (by omega)).1 rfl ?_
              refine zx_astore6 (q := 24) dX7_shift_22 rfl rfl ?_
              refine zx_aload_n (q := 25) dX7_shift_24 rfl rfl rfl ?_
              refine zy_getR (q := 28) dX7_shift_25 fl_RX7_68 rfl rfl rfl rfl ?_
              refine zx_iload_n (q := 29) dX7_shift_28 rfl rfl rfl ?_
              refine zy_aaldN (q := 30) dX7_shift_29 rfl (by decide) (by omega) (by decide) (zr_65 (by omega)).1 rfl ?_
              refine zx_astore7 (q := 32) dX7_shift_30 rfl rfl ?_
              refine zx_aload (q := 34) dX7_shift_32 rfl rfl ?_
              refine zx_callV0i (q := 37) (y' := mX6_isEmpty) dX7_shift_34 ml_RX7_239 ok_mX6_isEmpty (zr_65 (f := f) (by omega)).2.1 (by decide) rfl (Nat.le_of_ble_eq_true rfl) (Nat.le_of_ble_eq_true rfl) (Nat.le_refl _) (Nat.le_refl _) rfl (t_X6_isEmpty _ t (by omega)) ?_
              rintro _ _ ⟨rfl, rfl⟩
              refine zx_if_ne_f (t := 48) (q := 40) dX7_shift_37 (by decide) rfl (zk_f (by rw [hso]; simp [h3])) ?_
              refine zx_aload (q := 42) dX7_shift_40 rfl rfl ?_
              refine zx_callV0i (q := 45) (y' := mX6_isEmpty) dX7_shift_42 ml_RX7_239 ok_mX6_isEmpty (zr_65 (f := f) (by omega)).2.1 (by decide) rfl (Nat.le_of_ble_eq_true rfl) (Nat.le_of_ble_eq_true rfl) (Nat.le_refl _) (Nat.le_refl _) rfl (t_X6_isEmpty _ o (by omega)) ?_
              rintro _ _ ⟨rfl, rfl⟩
              refine zx_if_eq_t (t := 51) (q := 48) dX7_shift_45 (by decide) rfl (zk_f (by rw [hso2]; simp [h4])) ?_
              refine zx_aload (q := 53) dX7_shift_51 rfl rfl ?_
              refine zy_getIe (q := 56) (v := gi 146 t) dX7_shift_53 fl_RX7_243 rfl (zr_65 (f := f) (by omega)).2.1 (hso) rfl ?_
              refine zx_aload (q := 58) dX7_shift_56 rfl rfl ?_
              refine zy_getIe (q := 61) (v := gi 146 o) dX7_shift_58 fl_RX7_243 rfl (zr_65 (f := f) (by omega)).2.1 (hso2) rfl ?_
              refine zx_icmp_eq_t (t := 67) (q := 64) dX7_shift_61 (by decide) rfl (h5) ?_
              refine zx_aload (q := 69) dX7_shift_67 rfl rfl ?_
              refine zx_iload_n (q := 70) dX7_shift_69 rfl rfl rfl ?_
              refine zx_iload (q := 72) dX7_shift_70 rfl rfl ?_
              refine zx_callV2i (q := 75) (y' := mX6_hasRun) dX7_shift_72 ml_RX7_289 ok_mX6_hasRun (zr_65 (f := f) (by omega)).2.1 (by decide) rfl (Nat.le_of_ble_eq_true rfl) (Nat.le_of_ble_eq_true rfl) (Nat.le_refl _) (Nat.le_refl _) rfl (t_X6_hasRun _ t (by omega) _ _ hl1 hln) ?_
              rintro r1 _ ⟨rfl, hq⟩
              obtain ⟨rfl, -⟩ := hq.resolve_left (fun z => h6 z.2)
              refine zx_if_eq_t (t := 90) (q := 78) dX7_shift_75 (by decide) rfl (rfl) ?_
              refine zx_bipush (q := 92) (v := (-13)) dX7_shift_90 (by decide) rfl ?_
              refine zx_iret dX7_shift_92 rfl (Nat.le_refl _) (Nat.le_refl _) ⟨_, rfl, ?_⟩
              refine ⟨_, _, _, rfl, ?_⟩
              show zW l D tc A mX8_shift (d + 2) 0 0 0 0 0 [some (.ref 108), some (.int (nI t)), some (.int b), some (.int (nI o)), some (.int e), some (.int g), none] [] (zs _ _ _) _
              refine zx_aload_n (q := 1) dX8_shift_0 rfl rfl rfl ?_
              refine zx_iload_n (q := 2) dX8_shift_1 rfl rfl rfl ?_
              refine zx_callV1i (q := 5) (y' := mX8_isTape) dX8_shift_2 ml_RX8_342 ok_mX8_isTape rfl (by decide) rfl (Nat.le_of_ble_eq_true rfl) (Nat.le_of_ble_eq_true rfl) (Nat.le_refl _) (Nat.le_refl _) rfl (t_X8_isTape _ _) ?_
              rintro _ _ ⟨rfl, rfl⟩
              refine zx_if_eq_f (t := 16) (q := 8) dX8_shift_5 (by decide) rfl (zk_t h1) ?_
              refine zx_aload_n (q := 9) dX8_shift_8 rfl rfl rfl ?_
              refine zx_iload_n (q := 10) dX8_shift_9 rfl rfl rfl ?_
              refine zx_callV1i (q := 13) (y' := mX8_isTape) dX8_shift_10 ml_RX8_342 ok_mX8_isTape rfl (by decide) rfl (Nat.le_of_ble_eq_true rfl) (Nat.le_of_ble_eq_true rfl) (Nat.le_refl _) (Nat.le_refl _) rfl (t_X8_isTape _ _) ?_
              rintro _ _ ⟨rfl, rfl⟩
              refine zx_if_ne_t (t := 18) (q := 16) dX8_shift_13 (by decide) rfl (zk_t h2) ?_
              refine zx_aload_n (q := 19) dX8_shift_18 rfl rfl rfl ?_
              refine zy_getR (q := 22) dX8_shift_19 fl_RX8_187 rfl rfl rfl rfl ?_
              refine zx_iload_n (q := 23) dX8_shift_22 rfl rfl rfl ?_
              refine zy_ialdN (q := 24) dX8_shift_23 rfl (by omega) (by first | decide | omega) rfl ?_
              refine zx_if_lt_f (t := 36) (q := 27) dX8_shift_24 (by decide) rfl (Int32.not_lt.mpr h3p) ?_
              refine zx_aload_n (q := 28) dX8_shift_27 rfl rfl rfl ?_
              refine zy_getR (q := 31) dX8_shift_28 fl_RX8_187 rfl rfl rfl rfl ?_
              refine zx_iload_n (q := 32) dX8_shift_31 rfl rfl rfl ?_
              refine zy_ialdN (q := 33) dX8_shift_32 rfl (by omega) (by first | decide | omega) rfl ?_
              refine zx_if_ge_t (t := 39) (q := 36) dX8_shift_33 (by decide) rfl (h4p) ?_
              refine zx_aload_n (q := 40) dX8_shift_39 rfl rfl rfl ?_
              refine zy_getR (q := 43) dX8_shift_40 fl_RX8_187 rfl rfl rfl rfl ?_
              refine zx_iload_n (q := 44) dX8_shift_43 rfl rfl rfl ?_
              refine zy_ialdN (q := 45) dX8_shift_44 rfl (by omega) (by first | decide | omega) rfl ?_
              refine zx_aload_n (q := 46) dX8_shift_45 rfl rfl rfl ?_
              refine zy_getR (q := 49) dX8_shift_46 fl_RX8_187 rfl rfl rfl rfl ?_
              refine zx_iload_n (q := 50) dX8_shift_49 rfl rfl rfl ?_
              refine zy_ialdN (q := 51) dX8_shift_50 rfl (by omega) (by first | decide | omega) rfl ?_
              refine zx_icmp_eq_t (t := 57) (q := 54) dX8_shift_51 (by decide) rfl (h5) ?_
              refine zx_iload (q := 59) dX8_shift_57 rfl rfl ?_
              refine zx_if_lt (q := 62) (t := 98) dX8_shift_59 (by decide) rfl (fun e_59 => ?_) (fun e_59 => ?_)
              · refine zx_bipush (q := 100) (v := (-13)) dX8_shift_98 (by decide) rfl ?_
                refine zx_iret dX8_shift_100 rfl (Nat.le_refl _) (Nat.le_refl _) ⟨_, rfl, ?_⟩
                exact ⟨rfl, _, _, _, rfl, hR⟩
              · refine zx_iload_n (q := 63) dX8_shift_62 rfl rfl rfl ?_
                refine zx_if_lt (q := 66) (t := 98) dX8_shift_63 (by decide) rfl (fun e_63 => ?_) (fun e_63 => ?_)
                · refine zx_bipush (q := 100) (v := (-13)) dX8_shift_98 (by decide) rfl ?_
                  refine zx_iret dX8_shift_100 rfl (Nat.le_refl _) (Nat.le_refl _) ⟨_, rfl, ?_⟩
                  exact ⟨rfl, _, _, _, rfl, hR⟩
                · refine zx_iload (q := 68) dX8_shift_66 rfl rfl ?_
                  refine zx_if_lt (q := 71) (t := 98) dX8_shift_68 (by decide) rfl (fun e_68 => ?_) (fun e_68 => ?_)
                  · refine zx_bipush (q := 100) (v := (-13)) dX8_shift_98 (by decide) rfl ?_
                    refine zx_iret dX8_shift_100 rfl (Nat.le_refl _) (Nat.le_refl _) ⟨_, rfl, ?_⟩
                    exact ⟨rfl, _, _, _, rfl, hR⟩
                  · refine zx_iload_n (q := 72) dX8_shift_71 rfl rfl rfl ?_
                    refine zx_aload_n (q := 73) dX8_shift_72 rfl rfl rfl ?_
                    refine zy_getR (q := 76) dX8_shift_73 fl_RX8_190 rfl rfl rfl rfl ?_
                    refine zx_iload_n (q := 77) dX8_shift_76 rfl rfl rfl ?_
                    refine zy_ialdN (q := 78) dX8_shift_77 rfl (by omega) (by first | decide | omega) rfl ?_
                    refine zx_iload (q := 80) dX8_shift_78 rfl rfl ?_
                    refine zx_isub (q := 81) dX8_shift_80 rfl ?_
                    refine zx_icmp_gt (q := 84) (t := 98) dX8_shift_81 (by decide) rfl (fun e_81 => ?_) (fun e_81 => ?_)
                    · refine zx_bipush (q := 100) (v := (-13)) dX8_shift_98 (by decide) rfl ?_
                      refine zx_iret dX8_shift_100 rfl (Nat.le_refl _) (Nat.le_refl _) ⟨_, rfl, ?_⟩
                      exact ⟨rfl, _, _, _, rfl, hR⟩
                    · refine zx_iload (q := 86) dX8_shift_84 rfl rfl ?_
                      refine zx_aload_n (q := 87) dX8_shift_86 rfl rfl rfl ?_
                      refine zy_getR (q := 90) dX8_shift_87 fl_RX8_190 rfl rfl rfl rfl ?_
                      refine zx_iload_n (q := 91) dX8_shift_90 rfl rfl rfl ?_
                      refine zy_ialdN (q := 92) dX8_shift_91 rfl (by omega) (by first | decide | omega) rfl ?_
                      refine zx_iload (q := 94) dX8_shift_92 rfl rfl ?_
                      refine zx_isub (q := 95) dX8_shift_94 rfl ?_
                      refine zx_icmp_le (q := 98) (t := 101) dX8_shift_95 (by decide) rfl (fun e_95 => ?_) (fun e_95 => ?_)
                      · exfalso
                        obtain ⟨n', hn', rfl⟩ := nI_of e_59
                        obtain ⟨i', hi', rfl⟩ := nI_of e_63
                        obtain ⟨j', hj', rfl⟩ := nI_of e_68
                        rw [hl2, Int32.lt_iff_toInt_lt, z_subI (by omega) (by omega), nI_toInt (by omega)] at e_81
                        rw [hl22, Int32.le_iff_toInt_le, z_subI (by omega) (by omega), nI_toInt (by omega)] at e_95
                        rw [nI_toInt (by omega), nI_toInt (by omega)] at h6
                        try rw [nI_toInt (by omega), nI_toInt (by omega)] at h7
                        omega
                      · refine zx_bipush (q := 100) (v := (-13)) dX8_shift_98 (by decide) rfl ?_
                        refine zx_iret dX8_shift_100 rfl (Nat.le_refl _) (Nat.le_refl _) ⟨_, rfl, ?_⟩
                        exact ⟨rfl, _, _, _, rfl, hR⟩
          · show zW l D tc A mX7_shift (d + 2) 0 0 0 0 0 [some (.ref 0), some (.int (nI t)), some (.int b), some (.int (nI o)), some (.int e), some (.int g), none, none] [] (zs gi gl f) _
            refine zx_iload_n (q := 1) dX7_shift_0 rfl rfl rfl ?_
            refine zx_callS1i (q := 4) (y' := mX7_isTape) dX7_shift_1 ml_RX7_236 ok_mX7_isTape (Nat.le_of_ble_eq_true rfl) (Nat.le_of_ble_eq_true rfl) (Nat.le_refl _) (Nat.le_refl _) rfl (t_X7_isTape _ _) ?_
            rintro _ _ ⟨rfl, rfl⟩
            refine zx_if_eq_f (t := 14) (q := 7) dX7_shift_4 (by decide) rfl (zk_t h1) ?_
            refine zx_iload_n (q := 8) dX7_shift_7 rfl rfl rfl ?_
            refine zx_callS1i (q := 11) (y' := mX7_isTape) dX7_shift_8 ml_RX7_236 ok_mX7_isTape (Nat.le_of_ble_eq_true rfl) (Nat.le_of_ble_eq_true rfl) (Nat.le_refl _) (Nat.le_refl _) rfl (t_X7_isTape _ _) ?_
            rintro _ _ ⟨rfl, rfl⟩
            refine zx_if_ne_t (t := 16) (q := 14) dX7_shift_11 (by decide) rfl (zk_t h2) ?_
            refine zx_aload_n (q := 17) dX7_shift_16 rfl rfl rfl ?_
            refine zy_getR (q := 20) dX7_shift_17 fl_RX7_68 rfl rfl rfl rfl ?_
            refine zx_iload_n (q := 21) dX7_shift_20 rfl rfl rfl ?_
            refine zy_aaldN (q := 22) dX7_shift_21 rfl (by decide) (by omega) (by decide) (zr_65 (by omega)).1 rfl ?_
            refine zx_astore6 (q := 24) dX7_shift_22 rfl rfl ?_
            refine zx_aload_n (q := 25) dX7_shift_24 rfl rfl rfl ?_
            refine zy_getR (q := 28) dX7_shift_25 fl_RX7_68 rfl rfl rfl rfl ?_
            refine zx_iload_n (q := 29) dX7_shift_28 rfl rfl rfl ?_
            refine zy_aaldN (q := 30) dX7_shift_29 rfl (by decide) (by omega) (by decide) (zr_65 (by omega)).1 rfl ?_
            refine zx_astore7 (q := 32) dX7_shift_30 rfl rfl ?_
            refine zx_aload (q := 34) dX7_shift_32 rfl rfl ?_
            refine zx_callV0i (q := 37) (y' := mX6_isEmpty) dX7_shift_34 ml_RX7_239 ok_mX6_isEmpty (zr_65 (f := f) (by omega)).2.1 (by decide) rfl (Nat.le_of_ble_eq_true rfl) (Nat.le_of_ble_eq_true rfl) (Nat.le_refl _) (Nat.le_refl _) rfl (t_X6_isEmpty _ t (by omega)) ?_
            rintro _ _ ⟨rfl, rfl⟩
            refine zx_if_ne_f (t := 48) (q := 40) dX7_shift_37 (by decide) rfl (zk_f (by rw [hso]; simp [h3])) ?_
            refine zx_aload (q := 42) dX7_shift_40 rfl rfl ?_
            refine zx_callV0i (q := 45) (y' := mX6_isEmpty) dX7_shift_42 ml_RX7_239 ok_mX6_isEmpty (zr_65 (f := f) (by omega)).2.1 (by decide) rfl (Nat.le_of_ble_eq_true rfl) (Nat.le_of_ble_eq_true rfl) (Nat.le_refl _) (Nat.le_refl _) rfl (t_X6_isEmpty _ o (by omega)) ?_
            rintro _ _ ⟨rfl, rfl⟩
            refine zx_if_eq_t (t := 51) (q := 48) dX7_shift_45 (by decide) rfl (zk_f (by rw [hso2]; simp [h4])) ?_
            refine zx_aload (q := 53) dX7_shift_51 rfl rfl ?_
            refine zy_getIe (q := 56) (v := gi 146 t) dX7_shift_53 fl_RX7_243 rfl (zr_65 (f := f) (by omega)).2.1 (hso) rfl ?_
            refine zx_aload (q := 58) dX7_shift_56 rfl rfl ?_
            refine zy_getIe (q := 61) (v := gi 146 o) dX7_shift_58 fl_RX7_243 rfl (zr_65 (f := f) (by omega)).2.1 (hso2) rfl ?_
            refine zx_icmp_eq_f (t := 67) (q := 64) dX7_shift_61 (by decide) rfl (h5) ?_
            refine zx_bipush (q := 66) (v := (-12)) dX7_shift_64 (by decide) rfl ?_
            refine zx_iret dX7_shift_66 rfl (Nat.le_refl _) (Nat.le_refl _) ⟨_, rfl, ?_⟩
            refine ⟨_, _, _, rfl, ?_⟩
            show zW l D tc A mX8_shift (d + 2) 0 0 0 0 0 [some (.ref 108), some (.int (nI t)), some (.int b), some (.int (nI o)), some (.int e), some (.int g), none] [] (zs _ _ _) _
            refine zx_aload_n (q := 1) dX8_shift_0 rfl rfl rfl ?_
            refine zx_iload_n (q := 2) dX8_shift_1 rfl rfl rfl ?_
            refine zx_callV1i (q := 5) (y' := mX8_isTape) dX8_shift_2 ml_RX8_342 ok_mX8_isTape rfl (by decide) rfl (Nat.le_of_ble_eq_true rfl) (Nat.le_of_ble_eq_true rfl) (Nat.le_refl _) (Nat.le_refl _) rfl (t_X8_isTape _ _) ?_
            rintro _ _ ⟨rfl, rfl⟩
            refine zx_if_eq_f (t := 16) (q := 8) dX8_shift_5 (by decide) rfl (zk_t h1) ?_
            refine zx_aload_n (q := 9) dX8_shift_8 rfl rfl rfl ?_
            refine zx_iload_n (q := 10) dX8_shift_9 rfl rfl rfl ?_
            refine zx_callV1i (q := 13) (y' := mX8_isTape) dX8_shift_10 ml_RX8_342 ok_mX8_isTape rfl (by decide) rfl (Nat.le_of_ble_eq_true rfl) (Nat.le_of_ble_eq_true rfl) (Nat.le_refl _) (Nat.le_refl _) rfl (t_X8_isTape _ _) ?_
            rintro _ _ ⟨rfl, rfl⟩
            refine zx_if_ne_t (t := 18) (q := 16) dX8_shift_13 (by decide) rfl (zk_t h2) ?_
            refine zx_aload_n (q := 19) dX8_shift_18 rfl rfl rfl ?_
            refine zy_getR (q := 22) dX8_shift_19 fl_RX8_187 rfl rfl rfl rfl ?_
            refine zx_iload_n (q := 23) dX8_shift_22 rfl rfl rfl ?_
            refine zy_ialdN (q := 24) dX8_shift_23 rfl (by omega) (by first | decide | omega) rfl ?_
            refine zx_if_lt_f (t := 36) (q := 27) dX8_shift_24 (by decide) rfl (Int32.not_lt.mpr h3p) ?_
            refine zx_aload_n (q := 28) dX8_shift_27 rfl rfl rfl ?_
            refine zy_getR (q := 31) dX8_shift_28 fl_RX8_187 rfl rfl rfl rfl ?_
            refine zx_iload_n (q := 32) dX8_shift_31 rfl rfl rfl ?_
            refine zy_ialdN (q := 33) dX8_shift_32 rfl (by omega) (by first | decide | omega) rfl ?_
            refine zx_if_ge_t (t := 39) (q := 36) dX8_shift_33 (by decide) rfl (h4p) ?_
            refine zx_aload_n (q := 40) dX8_shift_39 rfl rfl rfl ?_
            refine zy_getR (q := 43) dX8_shift_40 fl_RX8_187 rfl rfl rfl rfl ?_
            refine zx_iload_n (q := 44) dX8_shift_43 rfl rfl rfl ?_
            refine zy_ialdN (q := 45) dX8_shift_44 rfl (by omega) (by first | decide | omega) rfl ?_
            refine zx_aload_n (q := 46) dX8_shift_45 rfl rfl rfl ?_
            refine zy_getR (q := 49) dX8_shift_46 fl_RX8_187 rfl rfl rfl rfl ?_
            refine zx_iload_n (q := 50) dX8_shift_49 rfl rfl rfl ?_
            refine zy_ialdN (q := 51) dX8_shift_50 rfl (by omega) (by first | decide | omega) rfl ?_
            refine zx_icmp_eq_f (t := 57) (q := 54) dX8_shift_51 (by decide) rfl (h5) ?_
            refine zx_bipush (q := 56) (v := (-12)) dX8_shift_54 (by decide) rfl ?_
            refine zx_iret dX8_shift_56 rfl (Nat.le_refl _) (Nat.le_refl _) ⟨_, rfl, ?_⟩
            exact ⟨rfl, _, _, _, rfl, hR⟩
    · show zW l D tc A mX7_shift (d + 2) 0 0 0 0 0 [some (.ref 0), some (.int a), some (.int b), some (.int c), some (.int e), some (.int g), none, none] [] (zs gi gl f) _
      refine zx_iload_n (q := 1) dX7_shift_0 rfl rfl rfl ?_
      refine zx_callS1i (q := 4) (y' := mX7_isTape) dX7_shift_1 ml_RX7_236 ok_mX7_isTape (Nat.le_of_ble_eq_true rfl) (Nat.le_of_ble_eq_true rfl) (Nat.le_refl _) (Nat.le_refl _) rfl (t_X7_isTape _ _) ?_
      rintro _ _ ⟨rfl, rfl⟩
      refine zx_if_eq_f (t := 14) (q := 7) dX7_shift_4 (by decide) rfl (zk_t h1) ?_
      refine zx_iload_n (q := 8) dX7_shift_7 rfl rfl rfl ?_
      refine zx_callS1i (q := 11) (y' := mX7_isTape) dX7_shift_8 ml_RX7_236 ok_mX7_isTape (Nat.le_of_ble_eq_true rfl) (Nat.le_of_ble_eq_true rfl) (Nat.le_refl _) (Nat.le_refl _) rfl (t_X7_isTape _ _) ?_
      rintro _ _ ⟨rfl, rfl⟩
      refine zx_if_ne_f (t := 16) (q := 14) dX7_shift_11 (by decide) rfl (zk_f h2) ?_
      refine zx_iconst (q := 15) (v := (-1)) dX7_shift_14 (by decide) rfl ?_
      refine zx_iret dX7_shift_15 rfl (Nat.le_refl _) (Nat.le_refl _) ⟨_, rfl, ?_⟩
      refine ⟨_, _, _, rfl, ?_⟩
      show zW l D tc A mX8_shift (d + 2) 0 0 0 0 0 [some (.ref 108), some (.int a), some (.int b), some (.int c), some (.int e), some (.int g), none] [] (zs _ _ _) _
      refine zx_aload_n (q := 1) dX8_shift_0 rfl rfl rfl ?_
      refine zx_iload_n (q := 2) dX8_shift_1 rfl rfl rfl ?_
      refine zx_callV1i (q := 5) (y' := mX8_isTape) dX8_shift_2 ml_RX8_342 ok_mX8_isTape rfl (by decide) rfl (Nat.le_of_ble_eq_true rfl) (Nat.le_of_ble_eq_true rfl) (Nat.le_refl _) (Nat.le_refl _) rfl (t_X8_isTape _ _) ?_
      rintro _ _ ⟨rfl, rfl⟩
      refine zx_if_eq_f (t := 16) (q := 8) dX8_shift_5 (by decide) rfl (zk_t h1) ?_
      refine zx_aload_n (q := 9) dX8_shift_8 rfl rfl rfl ?_
      refine zx_iload_n (q := 10) dX8_shift_9 rfl rfl rfl ?_
      refine zx_callV1i (q := 13) (y' := mX8_isTape) dX8_shift_10 ml_RX8_342 ok_mX8_isTape rfl (by decide) rfl (Nat.le_of_ble_eq_true rfl) (Nat.le_of_ble_eq_true rfl) (Nat.le_refl _) (Nat.le_refl _) rfl (t_X8_isTape _ _) ?_
      rintro _ _ ⟨rfl, rfl⟩
      refine zx_if_ne_f (t := 18) (q := 16) dX8_shift_13 (by decide) rfl (zk_f h2) ?_
      refine zx_iconst (q := 17) (v := (-1)) dX8_shift_16 (by decide) rfl ?_
      refine zx_iret dX8_shift_17 rfl (Nat.le_refl _) (Nat.le_refl _) ⟨_, rfl, ?_⟩
      exact ⟨rfl, _, _, _, rfl, hR⟩
  · show zW l D tc A mX7_shift (d + 2) 0 0 0 0 0 [some (.ref 0), some (.int a), some (.int b), some (.int c), some (.int e), some (.int g), none, none] [] (zs gi gl f) _
    refine zx_iload_n (q := 1) dX7_shift_0 rfl rfl rfl ?_
    refine zx_callS1i (q := 4) (y' := mX7_isTape) dX7_shift_1 ml_RX7_236 ok_mX7_isTape (Nat.le_of_ble_eq_true rfl) (Nat.le_of_ble_eq_true rfl) (Nat.le_refl _) (Nat.le_refl _) rfl (t_X7_isTape _ _) ?_
    rintro _ _ ⟨rfl, rfl⟩
    refine zx_if_eq_t (t := 14) (q := 7) dX7_shift_4 (by decide) rfl (zk_f h1) ?_
    refine zx_iconst (q := 15) (v := (-1)) dX7_shift_14 (by decide) rfl ?_
    refine zx_iret dX7_shift_15 rfl (Nat.le_refl _) (Nat.le_refl _) ⟨_, rfl, ?_⟩
    refine ⟨_, _, _, rfl, ?_⟩
    show zW l D tc A mX8_shift (d + 2) 0 0 0 0 0 [some (.ref 108), some (.int a), some (.int b), some (.int c), some (.int e), some (.int g), none] [] (zs _ _ _) _
    refine zx_aload_n (q := 1) dX8_shift_0 rfl rfl rfl ?_
    refine zx_iload_n (q := 2) dX8_shift_1 rfl rfl rfl ?_
    refine zx_callV1i (q := 5) (y' := mX8_isTape) dX8_shift_2 ml_RX8_342 ok_mX8_isTape rfl (by decide) rfl (Nat.le_of_ble_eq_true rfl) (Nat.le_of_ble_eq_true rfl) (Nat.le_refl _) (Nat.le_refl _) rfl (t_X8_isTape _ _) ?_
    rintro _ _ ⟨rfl, rfl⟩
    refine zx_if_eq_t (t := 16) (q := 8) dX8_shift_5 (by decide) rfl (zk_f h1) ?_
    refine zx_iconst (q := 17) (v := (-1)) dX8_shift_16 (by decide) rfl ?_
    refine zx_iret dX8_shift_17 rfl (Nat.le_refl _) (Nat.le_refl _) ⟨_, rfl, ?_⟩
    exact ⟨rfl, _, _, _, rfl, hR⟩
end P21
