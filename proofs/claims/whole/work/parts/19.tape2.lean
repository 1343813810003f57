section P19
variable {l : Launch} {D : va_G} {tc : Nat → ClassId} {A : Nat → Prop} {S : zw_S} {gi : Nat → Nat → Int32} {gl : Nat → Nat → Int64} {f : Option Nat}
theorem t_X6_become (d t : Nat) (ht : t < 6) (s n : Int32) : zCall l D tc A mX6_become (d + 1) 0 0 [.ref (96 + 2 * t), .int s, .int n] (zs gi gl f) (zQv fun S' => S' = zs (zw_u (zw_u gi (96 + 2 * t) 0 s) (96 + 2 * t) 1 (if s = -1 then 0 else n)) (zw_fill gl (97 + 2 * t) 0 60 0) f) := by
  show zW l D tc A mX6_become (d + 1) 0 0 0 0 0 [some (.ref (96 + 2 * t)), some (.int s), some (.int n)] [] (zs gi gl f) _
  refine zx_aload_n (q := 1) dX6_become_0 rfl rfl rfl ?_
  refine zx_iload_n (q := 2) dX6_become_1 rfl rfl rfl ?_
  refine zy_putI (q := 5) dX6_become_2 fl_RX6_9 rfl rfl ⟨rfl, rfl⟩ (zr_65 (f := f) ht).2.1 rfl ?_
  refine zx_aload_n (q := 6) dX6_become_5 rfl rfl rfl ?_
  refine zx_iload_n (q := 7) dX6_become_6 rfl rfl rfl ?_
  refine zx_iconst (q := 8) (v := (-1)) dX6_become_7 (by decide) rfl ?_
  refine zx_icmp_ne (q := 11) (t := 15) dX6_become_8 (by decide) rfl (fun c_8 => ?_) (fun c_8 => ?_)
  · refine zx_iload_n (q := 16) dX6_become_15 rfl rfl rfl ?_
    refine zy_putI (q := 19) dX6_become_16 fl_RX6_19 rfl rfl ⟨rfl, rfl⟩ (zr_65 (f := f) ht).2.1 rfl ?_
    refine zx_aload_n (q := 20) dX6_become_19 rfl rfl rfl ?_
    refine zy_getR (q := 23) dX6_become_20 fl_RX6_15 rfl (zr_65 (f := f) ht).2.1 (zr_65 ht).2.2.1 rfl ?_
    refine zx_lconst (q := 24) (v := 0) dX6_become_23 (by decide) rfl ?_
    refine zx_callS2v (q := 27) (y' := mJ7_fill_d0a16) dX6_become_24 ml_RX6_22 ok_mJ7_fill_d0a16 (Nat.le_of_ble_eq_true rfl) (Nat.le_of_ble_eq_true rfl) (Nat.le_refl _) (Nat.le_refl _) rfl (t_fill _ _ 60 0 (zr_65 (f := f) ht).2.2.2 (by decide)) ?_
    rintro _ ⟨rfl⟩
    refine zx_vret dX6_become_27 rfl (Nat.le_refl _) (Nat.le_refl _) ⟨rfl, ?_⟩
    simp [c_8]
  · refine zx_iconst (q := 12) (v := 0) dX6_become_11 (by decide) rfl ?_
    refine zx_goto (t := 16) dX6_become_12 (by decide) ?_
    refine zy_putI (q := 19) dX6_become_16 fl_RX6_19 rfl rfl ⟨rfl, rfl⟩ (zr_65 (f := f) ht).2.1 rfl ?_
    refine zx_aload_n (q := 20) dX6_become_19 rfl rfl rfl ?_
    refine zy_getR (q := 23) dX6_become_20 fl_RX6_15 rfl (zr_65 (f := f) ht).2.1 (zr_65 ht).2.2.1 rfl ?_
    refine zx_lconst (q := 24) (v := 0) dX6_become_23 (by decide) rfl ?_
    refine zx_callS2v (q := 27) (y' := mJ7_fill_d0a16) dX6_become_24 ml_RX6_22 ok_mJ7_fill_d0a16 (Nat.le_of_ble_eq_true rfl) (Nat.le_of_ble_eq_true rfl) (Nat.le_refl _) (Nat.le_refl _) rfl (t_fill _ _ 60 0 (zr_65 (f := f) ht).2.2.2 (by decide)) ?_
    rintro _ ⟨rfl⟩
    refine zx_vret dX6_become_27 rfl (Nat.le_refl _) (Nat.le_refl _) ⟨rfl, ?_⟩
    simp [c_8]
theorem lp_X8_tape (d t : Nat) (ht : t < 6) (s n : Int32) : ∀ (k i : Nat), i + k = 60 → zW l D tc A mX8_tape d 0 0 0 0 69 [some (.ref 108), some (.int (nI t)), some (.int s), some (.int n), some (.int (nI i))] [] (zs gi (zw_fill gl 148 (60 * t) (60 * t + i) 0) f) (zQi fun r S' => r = 1 ∧ S' = zs gi (zw_fill gl 148 (60 * t) (60 * t + 60) 0) f) := by
  intro k
  induction k using Nat.strongRecOn with
  | _ k ih =>
    intro i hi
    refine zx_iload (q := 71) dX8_tape_69 rfl rfl ?_
    refine zx_bipush (q := 73) (v := 60) dX8_tape_71 (by decide) rfl ?_
    refine zx_icmp_ge (q := 76) (t := 95) dX8_tape_73 (by decide) rfl (fun c_73 => ?_) (fun c_73 => ?_)
    · have hi2 : i = 60 := by have := z_ge (x := 60) (n := 60) rfl (by omega) c_73; omega
      refine zx_iconst (q := 96) (v := 1) dX8_tape_95 (by decide) rfl ?_
      refine zx_iret dX8_tape_96 rfl (Nat.le_refl _) (Nat.le_refl _) ⟨_, rfl, ?_⟩
      exact ⟨rfl, by rw [hi2]⟩
    · have hi2 : i < 60 := z_lt (x := 60) (n := 60) rfl (by omega) c_73
      refine zx_aload_n (q := 77) dX8_tape_76 rfl rfl rfl ?_
      refine zy_getR (q := 80) dX8_tape_77 fl_RX8_193 rfl rfl rfl rfl ?_
      refine zx_bipush (q := 82) (v := 60) dX8_tape_80 (by decide) rfl ?_
      refine zx_iload_n (q := 83) dX8_tape_82 rfl rfl rfl ?_
      refine zx_imul (q := 84) dX8_tape_83 rfl ?_
      refine zx_iload (q := 86) dX8_tape_84 rfl rfl ?_
      refine zx_iadd (q := 87) dX8_tape_86 rfl ?_
      refine zx_lconst (q := 88) (v := 0) dX8_tape_87 (by decide) rfl ?_
      rw [z_60]
      refine zy_lastN (q := 89) dX8_tape_88 rfl (by omega) (by first | decide | omega) rfl ?_
      refine zx_iinc4 (q := 92) dX8_tape_89 rfl rfl ?_
      refine zx_goto (t := 69) dX8_tape_92 (by decide) ?_
      rw [z_inc, zw_fill_s _ (by omega)]
      exact ih (k - 1) (by omega) (i + 1) (by omega)
set_option maxHeartbeats 4000000 in
theorem op_tape (d : Nat) (a : Int32) (b : Int32) (c : Int32) (hR : zRel gi gl) : zOpI l D tc A mX7_tape mX8_tape (d + 2) [.int a, .int b, .int c] gi gl f := by
  obtain ⟨nf, ⟨hf0, hf1, hf2⟩, ⟨ns, nb, mm, ⟨hns, hnb, hmm⟩, ⟨hs1, hs2⟩, ⟨hm1, hm2⟩, ⟨hb1, hb2⟩, ⟨hx1, hx2⟩, hSs, hSn, hSt, hSb⟩, ⟨him, hik⟩, ⟨len, hlen, ht1, ht2, ht3⟩, ⟨ra, hra, ha1, ha2, ha3⟩, hTP, ho, hF, hLt⟩ := id hR
  by_cases h1 : z_in a 0 5 = true
  · obtain ⟨t, ht0, rfl⟩ := z_inT 5 (by decide) h1
    by_cases h2 : z_in b (-1) 4 = true
    · by_cases h3 : b = -1
      · subst h3
        show zW l D tc A mX7_tape (d + 2) 0 0 0 0 0 [some (.ref 0), some (.int (nI t)), some (.int (-1)), some (.int c)] [] (zs gi gl f) _
        refine zx_iload_n (q := 1) dX7_tape_0 rfl rfl rfl ?_
        refine zx_callS1i (q := 4) (y' := mX7_isTape) dX7_tape_1 ml_RX7_236 ok_mX7_isTape (Nat.le_of_ble_eq_true rfl) (Nat.le_of_ble_eq_true rfl) (Nat.le_refl _) (Nat.le_refl _) rfl (t_X7_isTape _ _) ?_
        rintro _ _ ⟨rfl, rfl⟩
        refine zx_if_ne_t (t := 9) (q := 7) dX7_tape_4 (by decide) rfl (zk_t h1) ?_
        refine zx_iload_n (q := 10) dX7_tape_9 rfl rfl rfl ?_
        refine zx_iconst (q := 11) (v := (-1)) dX7_tape_10 (by decide) rfl ?_
        refine zx_iconst (q := 12) (v := 4) dX7_tape_11 (by decide) rfl ?_
        refine zx_callS3i (q := 15) (y' := mX7_within) dX7_tape_12 ml_RX7_73 ok_mX7_within (Nat.le_of_ble_eq_true rfl) (Nat.le_of_ble_eq_true rfl) (Nat.le_refl _) (Nat.le_refl _) rfl (t_X7_within _ _ _ _) ?_
        rintro _ _ ⟨rfl, rfl⟩
        refine zx_if_ne_t (t := 21) (q := 18) dX7_tape_15 (by decide) rfl (by decide) ?_
        refine zx_iload_n (q := 22) dX7_tape_21 rfl rfl rfl ?_
        refine zx_iconst (q := 23) (v := (-1)) dX7_tape_22 (by decide) rfl ?_
        refine zx_icmp_eq_t (t := 35) (q := 26) dX7_tape_23 (by decide) rfl (rfl) ?_
        refine zx_iload_n (q := 36) dX7_tape_35 rfl rfl rfl ?_
        refine zx_iconst (q := 37) (v := (-1)) dX7_tape_36 (by decide) rfl ?_
        refine zx_icmp_eq_t (t := 47) (q := 40) dX7_tape_37 (by decide) rfl (rfl) ?_
        refine zx_aload_n (q := 48) dX7_tape_47 rfl rfl rfl ?_
        refine zy_getR (q := 51) dX7_tape_48 fl_RX7_68 rfl rfl rfl rfl ?_
        refine zx_iload_n (q := 52) dX7_tape_51 rfl rfl rfl ?_
        refine zy_aaldN (q := 53) dX7_tape_52 rfl (by decide) (by omega) (by decide) (zr_65 (by omega)).1 rfl ?_
        refine zx_iload_n (q := 54) dX7_tape_53 rfl rfl rfl ?_
        refine zx_iload_n (q := 55) dX7_tape_54 rfl rfl rfl ?_
        refine zx_callV2v (q := 58) (y' := mX6_become) dX7_tape_55 ml_RX7_282 ok_mX6_become (zr_65 (f := f) (by omega)).2.1 (by decide) rfl (Nat.le_of_ble_eq_true rfl) (Nat.le_of_ble_eq_true rfl) (Nat.le_refl _) (Nat.le_refl _) rfl (t_X6_become _ t (by omega) _ _) ?_
        rintro _ ⟨rfl⟩
        refine zx_iconst (q := 59) (v := 1) dX7_tape_58 (by decide) rfl ?_
        refine zx_iret dX7_tape_59 rfl (Nat.le_refl _) (Nat.le_refl _) ⟨_, rfl, ?_⟩
        refine ⟨_, _, _, rfl, ?_⟩
        show zW l D tc A mX8_tape (d + 2) 0 0 0 0 0 [some (.ref 108), some (.int (nI t)), some (.int (-1)), some (.int c), none] [] (zs _ _ _) _
        refine zx_aload_n (q := 1) dX8_tape_0 rfl rfl rfl ?_
        refine zx_iload_n (q := 2) dX8_tape_1 rfl rfl rfl ?_
        refine zx_callV1i (q := 5) (y' := mX8_isTape) dX8_tape_2 ml_RX8_342 ok_mX8_isTape rfl (by decide) rfl (Nat.le_of_ble_eq_true rfl) (Nat.le_of_ble_eq_true rfl) (Nat.le_refl _) (Nat.le_refl _) rfl (t_X8_isTape _ _) ?_
        rintro _ _ ⟨rfl, rfl⟩
        refine zx_if_ne_t (t := 10) (q := 8) dX8_tape_5 (by decide) rfl (zk_t h1) ?_
        refine zx_aload_n (q := 11) dX8_tape_10 rfl rfl rfl ?_
        refine zx_iload_n (q := 12) dX8_tape_11 rfl rfl rfl ?_
        refine zx_iconst (q := 13) (v := (-1)) dX8_tape_12 (by decide) rfl ?_
        refine zx_iconst (q := 14) (v := 4) dX8_tape_13 (by decide) rfl ?_
        refine zx_callV3i (q := 17) (y' := mX8_in) dX8_tape_14 ml_RX8_200 ok_mX8_in rfl (by decide) rfl (Nat.le_of_ble_eq_true rfl) (Nat.le_of_ble_eq_true rfl) (Nat.le_refl _) (Nat.le_refl _) rfl (t_X8_in _ _ _ _ _) ?_
        rintro _ _ ⟨rfl, rfl⟩
        refine zx_if_eq_f (t := 30) (q := 20) dX8_tape_17 (by decide) rfl (by decide) ?_
        refine zx_iload_n (q := 21) dX8_tape_20 rfl rfl rfl ?_
        refine zx_if_lt_t (t := 33) (q := 24) dX8_tape_21 (by decide) rfl (by decide) ?_
        refine zx_iload_n (q := 34) dX8_tape_33 rfl rfl rfl ?_
        refine zx_if_lt_t (t := 44) (q := 37) dX8_tape_34 (by decide) rfl (by decide) ?_
        refine zx_aload_n (q := 45) dX8_tape_44 rfl rfl rfl ?_
        refine zy_getR (q := 48) dX8_tape_45 fl_RX8_187 rfl rfl rfl rfl ?_
        refine zx_iload_n (q := 49) dX8_tape_48 rfl rfl rfl ?_
        refine zx_iload_n (q := 50) dX8_tape_49 rfl rfl rfl ?_
        refine zy_iastN (q := 51) dX8_tape_50 rfl (by omega) (by first | decide | omega) rfl ?_
        refine zx_aload_n (q := 52) dX8_tape_51 rfl rfl rfl ?_
        refine zy_getR (q := 55) dX8_tape_52 fl_RX8_190 rfl rfl rfl rfl ?_
        refine zx_iload_n (q := 56) dX8_tape_55 rfl rfl rfl ?_
        refine zx_iload_n (q := 57) dX8_tape_56 rfl rfl rfl ?_
        refine zx_if_ge_f (t := 64) (q := 60) dX8_tape_57 (by decide) rfl (by decide) ?_
        refine zx_iconst (q := 61) (v := 0) dX8_tape_60 (by decide) rfl ?_
        refine zx_goto (t := 65) dX8_tape_61 (by decide) ?_
        refine zy_iastN (q := 66) dX8_tape_65 rfl (by omega) (by first | decide | omega) rfl ?_
        refine zx_iconst (q := 67) (v := 0) dX8_tape_66 (by decide) rfl ?_
        refine zx_istore4 (q := 69) dX8_tape_67 rfl rfl ?_
        have h := fun gi gl => lp_X8_tape (l := l) (D := D) (tc := tc) (A := A) (gi := gi) (gl := gl) (f := f) (d + 2) t (by omega) (-1) c 60 0 (by omega)
        simp only [Nat.add_zero, zw_fill_0] at h
        refine (h _ _).mono ?_
        rintro _ _ ⟨x, rfl, rfl, rfl⟩
        exact ⟨1, rfl, rfl, _, _, _, rfl, z_rel_tape hR (by omega) (by unfold z_rg; decide) (n := 0) (by omega) (fun _ => rfl)⟩
      · have h4 : 0 ≤ b.toInt := by rw [z_in_tt, z_m1] at h2; rw [z_eqI, z_m1] at h3; omega
        by_cases h5 : c ≤ 60
        · by_cases h6 : c < 0
          · show zW l D tc A mX7_tape (d + 2) 0 0 0 0 0 [some (.ref 0), some (.int (nI t)), some (.int b), some (.int c)] [] (zs gi gl f) _
            refine zx_iload_n (q := 1) dX7_tape_0 rfl rfl rfl ?_
            refine zx_callS1i (q := 4) (y' := mX7_isTape) dX7_tape_1 ml_RX7_236 ok_mX7_isTape (Nat.le_of_ble_eq_true rfl) (Nat.le_of_ble_eq_true rfl) (Nat.le_refl _) (Nat.le_refl _) rfl (t_X7_isTape _ _) ?_
            rintro _ _ ⟨rfl, rfl⟩
            refine zx_if_ne_t (t := 9) (q := 7) dX7_tape_4 (by decide) rfl (zk_t h1) ?_
            refine zx_iload_n (q := 10) dX7_tape_9 rfl rfl rfl ?_
            refine zx_iconst (q := 11) (v := (-1)) dX7_tape_10 (by decide) rfl ?_
            refine zx_iconst (q := 12) (v := 4) dX7_tape_11 (by decide) rfl ?_
            refine zx_callS3i (q := 15) (y' := mX7_within) dX7_tape_12 ml_RX7_73 ok_mX7_within (Nat.le_of_ble_eq_true rfl) (Nat.le_of_ble_eq_true rfl) (Nat.le_refl _) (Nat.le_refl _) rfl (t_X7_within _ _ _ _) ?_
            rintro _ _ ⟨rfl, rfl⟩
            refine zx_if_ne_t (t := 21) (q := 18) dX7_tape_15 (by decide) rfl (zk_t h2) ?_
            refine zx_iload_n (q := 22) dX7_tape_21 rfl rfl rfl ?_
            refine zx_iconst (q := 23) (v := (-1)) dX7_tape_22 (by decide) rfl ?_
            refine zx_icmp_eq_f (t := 35) (q := 26) dX7_tape_23 (by decide) rfl (h3) ?_
            refine zx_iload_n (q := 27) dX7_tape_26 rfl rfl rfl ?_
            refine zx_bipush (q := 29) (v := 60) dX7_tape_27 (by decide) rfl ?_
            refine zx_icmp_le_t (t := 35) (q := 32) dX7_tape_29 (by decide) rfl (h5) ?_
            refine zx_iload_n (q := 36) dX7_tape_35 rfl rfl rfl ?_
            refine zx_iconst (q := 37) (v := (-1)) dX7_tape_36 (by decide) rfl ?_
            refine zx_icmp_eq_f (t := 47) (q := 40) dX7_tape_37 (by decide) rfl (h3) ?_
            refine zx_iload_n (q := 41) dX7_tape_40 rfl rfl rfl ?_
            refine zx_if_ge_f (t := 47) (q := 44) dX7_tape_41 (by decide) rfl (by rw [Int32.not_le]; exact h6) ?_
            refine zx_bipush (q := 46) (v := (-14)) dX7_tape_44 (by decide) rfl ?_
            refine zx_iret dX7_tape_46 rfl (Nat.le_refl _) (Nat.le_refl _) ⟨_, rfl, ?_⟩
            refine ⟨_, _, _, rfl, ?_⟩
            show zW l D tc A mX8_tape (d + 2) 0 0 0 0 0 [some (.ref 108), some (.int (nI t)), some (.int b), some (.int c), none] [] (zs _ _ _) _
            refine zx_aload_n (q := 1) dX8_tape_0 rfl rfl rfl ?_
            refine zx_iload_n (q := 2) dX8_tape_1 rfl rfl rfl ?_
            refine zx_callV1i (q := 5) (y' := mX8_isTape) dX8_tape_2 ml_RX8_342 ok_mX8_isTape rfl (by decide) rfl (Nat.le_of_ble_eq_true rfl) (Nat.le_of_ble_eq_true rfl) (Nat.le_refl _) (Nat.le_refl _) rfl (t_X8_isTape _ _) ?_
            rintro _ _ ⟨rfl, rfl⟩
            refine zx_if_ne_t (t := 10) (q := 8) dX8_tape_5 (by decide) rfl (zk_t h1) ?_
            refine zx_aload_n (q := 11) dX8_tape_10 rfl rfl rfl ?_
            refine zx_iload_n (q := 12) dX8_tape_11 rfl rfl rfl ?_
            refine zx_iconst (q := 13) (v := (-1)) dX8_tape_12 (by decide) rfl ?_
            refine zx_iconst (q := 14) (v := 4) dX8_tape_13 (by decide) rfl ?_
            refine zx_callV3i (q := 17) (y' := mX8_in) dX8_tape_14 ml_RX8_200 ok_mX8_in rfl (by decide) rfl (Nat.le_of_ble_eq_true rfl) (Nat.le_of_ble_eq_true rfl) (Nat.le_refl _) (Nat.le_refl _) rfl (t_X8_in _ _ _ _ _) ?_
            rintro _ _ ⟨rfl, rfl⟩
            refine zx_if_eq_f (t := 30) (q := 20) dX8_tape_17 (by decide) rfl (zk_t h2) ?_
            refine zx_iload_n (q := 21) dX8_tape_20 rfl rfl rfl ?_
            refine zx_if_lt_f (t := 33) (q := 24) dX8_tape_21 (by decide) rfl (by rw [Int32.lt_iff_toInt_lt]; simp only [Int32.reduceToInt]; omega) ?_
            refine zx_iload_n (q := 25) dX8_tape_24 rfl rfl rfl ?_
            refine zx_bipush (q := 27) (v := 60) dX8_tape_25 (by decide) rfl ?_
            refine zx_icmp_le_t (t := 33) (q := 30) dX8_tape_27 (by decide) rfl (h5) ?_
            refine zx_iload_n (q := 34) dX8_tape_33 rfl rfl rfl ?_
            refine zx_if_lt_f (t := 44) (q := 37) dX8_tape_34 (by decide) rfl (by rw [Int32.lt_iff_toInt_lt]; simp only [Int32.reduceToInt]; omega) ?_
            refine zx_iload_n (q := 38) dX8_tape_37 rfl rfl rfl ?_
            refine zx_if_ge_f (t := 44) (q := 41) dX8_tape_38 (by decide) rfl (by rw [Int32.not_le]; exact h6) ?_
            refine zx_bipush (q := 43) (v := (-14)) dX8_tape_41 (by decide) rfl ?_
            refine zx_iret dX8_tape_43 rfl (Nat.le_refl _) (Nat.le_refl _) ⟨_, rfl, ?_⟩
            exact ⟨rfl, _, _, _, rfl, hR⟩
          · obtain ⟨n, hn, rfl⟩ := nI_of2 (M := 60) (n := 60) (by decide) h6 h5
            show zW l D tc A mX7_tape (d + 2) 0 0 0 0 0 [some (.ref 0), some (.int (nI t)), some (.int b), some (.int (nI n))] [] (zs gi gl f) _
            refine zx_iload_n (q := 1) dX7_tape_0 rfl rfl rfl ?_
            refine zx_callS1i (q := 4) (y' := mX7_isTape) dX7_tape_1 ml_RX7_236 ok_mX7_isTape (Nat.le_of_ble_eq_true rfl) (Nat.le_of_ble_eq_true rfl) (Nat.le_refl _) (Nat.le_refl _) rfl (t_X7_isTape _ _) ?_
            rintro _ _ ⟨rfl, rfl⟩
            refine zx_if_ne_t (t := 9) (q := 7) dX7_tape_4 (by decide) rfl (zk_t h1) ?_
            refine zx_iload_n (q := 10) dX7_tape_9 rfl rfl rfl ?_
            refine zx_iconst (q := 11) (v := (-1)) dX7_tape_10 (by decide) rfl ?_
            refine zx_iconst (q := 12) (v := 4) dX7_tape_11 (by decide) rfl ?_
            refine zx_callS3i (q := 15) (y' := mX7_within) dX7_tape_12 ml_RX7_73 ok_mX7_within (Nat.le_of_ble_eq_true rfl) (Nat.le_of_ble_eq_true rfl) (Nat.le_refl _) (Nat.le_refl _) rfl (t_X7_within _ _ _ _) ?_
            rintro _ _ ⟨rfl, rfl⟩
            refine zx_if_ne_t (t := 21) (q := 18) dX7_tape_15 (by decide) rfl (zk_t h2) ?_
            refine zx_iload_n (q := 22) dX7_tape_21 rfl rfl rfl ?_
            refine zx_iconst (q := 23) (v := (-1)) dX7_tape_22 (by decide) rfl ?_
            refine zx_icmp_eq_f (t := 35) (q := 26) dX7_tape_23 (by decide) rfl (h3) ?_
            refine zx_iload_n (q := 27) dX7_tape_26 rfl rfl rfl ?_
            refine zx_bipush (q := 29) (v := 60) dX7_tape_27 (by decide) rfl ?_
            refine zx_icmp_le_t (t := 35) (q := 32) dX7_tape_29 (by decide) rfl (h5) ?_
            refine zx_iload_n (q := 36) dX7_tape_35 rfl rfl rfl ?_
            refine zx_iconst (q := 37) (v := (-1)) dX7_tape_36 (by decide) rfl ?_
            refine zx_icmp_eq_f (t := 47) (q := 40) dX7_tape_37 (by decide) rfl (h3) ?_
            refine zx_iload_n (q := 41) dX7_tape_40 rfl rfl rfl ?_
            refine zx_if_ge_t (t := 47) (q := 44) dX7_tape_41 (by decide) rfl (nI_pos' (by omega)) ?_
            refine zx_aload_n (q := 48) dX7_tape_47 rfl rfl rfl ?_
            refine zy_getR (q := 51) dX7_tape_48 fl_RX7_68 rfl rfl rfl rfl ?_
            refine zx_iload_n (q := 52) dX7_tape_51 rfl rfl rfl ?_
            refine zy_aaldN (q := 53) dX7_tape_52 rfl (by decide) (by omega) (by decide) (zr_65 (by omega)).1 rfl ?_
            refine zx_iload_n (q := 54) dX7_tape_53 rfl rfl rfl ?_
            refine zx_iload_n (q := 55) dX7_tape_54 rfl rfl rfl ?_
            refine zx_callV2v (q := 58) (y' := mX6_become) dX7_tape_55 ml_RX7_282 ok_mX6_become (zr_65 (f := f) (by omega)).2.1 (by decide) rfl (Nat.le_of_ble_eq_true rfl) (Nat.le_of_ble_eq_true rfl) (Nat.le_refl _) (Nat.le_refl _) rfl (t_X6_become _ t (by omega) _ _) ?_
            rintro _ ⟨rfl⟩
            refine zx_iconst (q := 59) (v := 1) dX7_tape_58 (by decide) rfl ?_
            refine zx_iret dX7_tape_59 rfl (Nat.le_refl _) (Nat.le_refl _) ⟨_, rfl, ?_⟩
            refine ⟨_, _, _, rfl, ?_⟩
            show zW l D tc A mX8_tape (d + 2) 0 0 0 0 0 [some (.ref 108), some (.int (nI t)), some (.int b), some (.int (nI n)), none] [] (zs _ _ _) _
            refine zx_aload_n (q := 1) dX8_tape_0 rfl rfl rfl ?_
            refine zx_iload_n (q := 2) dX8_tape_1 rfl rfl rfl ?_
            refine zx_callV1i (q := 5) (y' := mX8_isTape) dX8_tape_2 ml_RX8_342 ok_mX8_isTape rfl (by decide) rfl (Nat.le_of_ble_eq_true rfl) (Nat.le_of_ble_eq_true rfl) (Nat.le_refl _) (Nat.le_refl _) rfl (t_X8_isTape _ _) ?_
            rintro _ _ ⟨rfl, rfl⟩
            refine zx_if_ne_t (t := 10) (q := 8) dX8_tape_5 (by decide) rfl (zk_t h1) ?_
            refine zx_aload_n (q := 11) dX8_tape_10 rfl rfl rfl ?_
            refine zx_iload_n (q := 12) dX8_tape_11 rfl rfl rfl ?_
            refine zx_iconst (q := 13) (v := (-1)) dX8_tape_12 (by decide) rfl ?_
            refine zx_iconst (q := 14) (v := 4) dX8_tape_13 (by decide) rfl ?_
            refine zx_callV3i (q := 17) (y' := mX8_in) dX8_tape_14 ml_RX8_200 ok_mX8_in rfl (by decide) rfl (Nat.le_of_ble_eq_true rfl) (Nat.le_of_ble_eq_true rfl) (Nat.le_refl _) (Nat.le_refl _) rfl (t_X8_in _ _ _ _ _) ?_
            rintro _ _ ⟨rfl, rfl⟩
            refine zx_if_eq_f (t := 30) (q := 20) dX8_tape_17 (by decide) rfl (zk_t h2) ?_
            refine zx_iload_n (q := 21) dX8_tape_20 rfl rfl rfl ?_
            refine zx_if_lt_f (t := 33) (q := 24) dX8_tape_21 (by decide) rfl (by rw [Int32.lt_iff_toInt_lt]; simp only [Int32.reduceToInt]; omega) ?_
            refine zx_iload_n (q := 25) dX8_tape_24 rfl rfl rfl ?_
            refine zx_bipush (q := 27) (v := 60) dX8_tape_25 (by decide) rfl ?_
            refine zx_icmp_le_t (t := 33) (q := 30) dX8_tape_27 (by decide) rfl (h5) ?_
            refine zx_iload_n (q := 34) dX8_tape_33 rfl rfl rfl ?_
            refine zx_if_lt_f (t := 44) (q := 37) dX8_tape_34 (by decide) rfl (by rw [Int32.lt_iff_toInt_lt]; simp only [Int32.reduceToInt]; omega) ?_
            refine zx_iload_n (q := 38) dX8_tape_37 rfl rfl rfl ?_
            refine zx_if_ge_t (t := 44) (q := 41) dX8_tape_38 (by decide) rfl (nI_pos' (by omega)) ?_
            refine zx_aload_n (q := 45) dX8_tape_44 rfl rfl rfl ?_
            refine zy_getR (q := 48) dX8_tape_45 fl_RX8_187 rfl rfl rfl rfl ?_
            refine zx_iload_n (q := 49) dX8_tape_48 rfl rfl rfl ?_
            refine zx_iload_n (q := 50) dX8_tape_49 rfl rfl rfl ?_
            refine zy_iastN (q := 51) dX8_tape_50 rfl (by omega) (by first | decide | omega) rfl ?_
            refine zx_aload_n (q := 52) dX8_tape_51 rfl rfl rfl ?_
            refine zy_getR (q := 55) dX8_tape_52 fl_RX8_190 rfl rfl rfl rfl ?_
            refine zx_iload_n (q := 56) dX8_tape_55 rfl rfl rfl ?_
            refine zx_iload_n (q := 57) dX8_tape_56 rfl rfl rfl ?_
            refine zx_if_ge_t (t := 64) (q := 60) dX8_tape_57 (by decide) rfl (by rw [Int32.le_iff_toInt_le]; simp only [Int32.reduceToInt]; omega) ?_
            refine zx_iload_n (q := 65) dX8_tape_64 rfl rfl rfl ?_
            refine zy_iastN (q := 66) dX8_tape_65 rfl (by omega) (by first | decide | omega) rfl ?_
            refine zx_iconst (q := 67) (v := 0) dX8_tape_66 (by decide) rfl ?_
            refine zx_istore4 (q := 69) dX8_tape_67 rfl rfl ?_
            have h := fun gi gl => lp_X8_tape (l := l) (D := D) (tc := tc) (A := A) (gi := gi) (gl := gl) (f := f) (d + 2) t (by omega) b (nI n) 60 0 (by omega)
            simp only [Nat.add_zero, zw_fill_0] at h
            refine (h _ _).mono ?_
            rintro _ _ ⟨x, rfl, rfl, rfl⟩
            exact ⟨1, rfl, rfl, _, _, _, rfl, by rw [if_neg h3]; exact z_rel_tape hR (by omega) (z_inB (by decide) (by decide) h2) hn (fun z => absurd z h3)⟩
        · show zW l D tc A mX7_tape (d + 2) 0 0 0 0 0 [some (.ref 0), some (.int (nI t)), some (.int b), some (.int c)] [] (zs gi gl f) _
          refine zx_iload_n (q := 1) dX7_tape_0 rfl rfl rfl ?_
          refine zx_callS1i (q := 4) (y' := mX7_isTape) dX7_tape_1 ml_RX7_236 ok_mX7_isTape (Nat.le_of_ble_eq_true rfl) (Nat.le_of_ble_eq_true rfl) (Nat.le_refl _) (Nat.le_refl _) rfl (t_X7_isTape _ _) ?_
          rintro _ _ ⟨rfl, rfl⟩
          refine zx_if_ne_t (t := 9) (q := 7) dX7_tape_4 (by decide) rfl (zk_t h1) ?_
          refine zx_iload_n (q := 10) dX7_tape_9 rfl rfl rfl ?_
          refine zx_iconst (q := 11) (v := (-1)) dX7_tape_10 (by decide) rfl ?_
          refine zx_iconst (q := 12) (v := 4) dX7_tape_11 (by decide) rfl ?_
          refine zx_callS3i (q := 15) (y' := mX7_within) dX7_tape_12 ml_RX7_73 ok_mX7_within (Nat.le_of_ble_eq_true rfl) (Nat.le_of_ble_eq_true rfl) (Nat.le_refl _) (Nat.le_refl _) rfl (t_X7_within _ _ _ _) ?_
          rintro _ _ ⟨rfl, rfl⟩
          refine zx_if_ne_t (t := 21) (q := 18) dX7_tape_15 (by decide) rfl (zk_t h2) ?_
          refine zx_iload_n (q := 22) dX7_tape_21 rfl rfl rfl ?_
          refine zx_iconst (q := 23) (v := (-1)) dX7_tape_22 (by decide) rfl ?_
          refine zx_icmp_eq_f (t := 35) (q := 26) dX7_tape_23 (by decide) rfl (h3) ?_
          refine zx_iload_n (q := 27) dX7_tape_26 rfl rfl rfl ?_
          refine zx_bipush (q := 29) (v := 60) dX7_tape_27 (by decide) rfl ?_
          refine zx_icmp_le_f (t := 35) (q := 32) dX7_tape_29 (by decide) rfl (h5) ?_
          refine zx_bipush (q := 34) (v := (-2)) dX7_tape_32 (by decide) rfl ?_
          refine zx_iret dX7_tape_34 rfl (Nat.le_refl _) (Nat.le_refl _) ⟨_, rfl, ?_⟩
          refine ⟨_, _, _, rfl, ?_⟩
          show zW l D tc A mX8_tape (d + 2) 0 0 0 0 0 [some (.ref 108), some (.int (nI t)), some (.int b), some (.int c), none] [] (zs _ _ _) _
          refine zx_aload_n (q := 1) dX8_tape_0 rfl rfl rfl ?_
          refine zx_iload_n (q := 2) dX8_tape_1 rfl rfl rfl ?_
          refine zx_callV1i (q := 5) (y' := mX8_isTape) dX8_tape_2 ml_RX8_342 ok_mX8_isTape rfl (by decide) rfl (Nat.le_of_ble_eq_true rfl) (Nat.le_of_ble_eq_true rfl) (Nat.le_refl _) (Nat.le_refl _) rfl (t_X8_isTape _ _) ?_
          rintro _ _ ⟨rfl, rfl⟩
          refine zx_if_ne_t (t := 10) (q := 8) dX8_tape_5 (by decide) rfl (zk_t h1) ?_
          refine zx_aload_n (q := 11) dX8_tape_10 rfl rfl rfl ?_
          refine zx_iload_n (q := 12) dX8_tape_11 rfl rfl rfl ?_
          refine zx_iconst (q := 13) (v := (-1)) dX8_tape_12 (by decide) rfl ?_
          refine zx_iconst (q := 14) (v := 4) dX8_tape_13 (by decide) rfl ?_
          refine zx_callV3i (q := 17) (y' := mX8_in) dX8_tape_14 ml_RX8_200 ok_mX8_in rfl (by decide) rfl (Nat.le_of_ble_eq_true rfl) (Nat.le_of_ble_eq_true rfl) (Nat.le_refl _) (Nat.le_refl _) rfl (t_X8_in _ _ _ _ _) ?_
          rintro _ _ ⟨rfl, rfl⟩
          refine zx_if_eq_f (t := 30) (q := 20) dX8_tape_17 (by decide) rfl (zk_t h2) ?_
          refine zx_iload_n (q := 21) dX8_tape_20 rfl rfl rfl ?_
          refine zx_if_lt_f (t := 33) (q := 24) dX8_tape_21 (by decide) rfl (by rw [Int32.lt_iff_toInt_lt]; simp only [Int32.reduceToInt]; omega) ?_
          refine zx_iload_n (q := 25) dX8_tape_24 rfl rfl rfl ?_
          refine zx_bipush (q := 27) (v := 60) dX8_tape_25 (by decide) rfl ?_
          refine zx_icmp_le_f (t := 33) (q := 30) dX8_tape_27 (by decide) rfl (h5) ?_
          refine zx_bipush (q := 32) (v := (-2)) dX8_tape_30 (by decide) rfl ?_
          refine zx_iret dX8_tape_32 rfl (Nat.le_refl _) (Nat.le_refl _) ⟨_, rfl, ?_⟩
          exact ⟨rfl, _, _, _, rfl, hR⟩
    · show zW l D tc A mX7_tape (d + 2) 0 0 0 0 0 [some (.ref 0), some (.int (nI t)), some (.int b), some (.int c)] [] (zs gi gl f) _
      refine zx_iload_n (q := 1) dX7_tape_0 rfl rfl rfl ?_
      refine zx_callS1i (q := 4) (y' := mX7_isTape) dX7_tape_1 ml_RX7_236 ok_mX7_isTape (Nat.le_of_ble_eq_true rfl) (Nat.le_of_ble_eq_true rfl) (Nat.le_refl _) (Nat.le_refl _) rfl (t_X7_isTape _ _) ?_
      rintro _ _ ⟨rfl, rfl⟩
      refine zx_if_ne_t (t := 9) (q := 7) dX7_tape_4 (by decide) rfl (zk_t h1) ?_
      refine zx_iload_n (q := 10) dX7_tape_9 rfl rfl rfl ?_
      refine zx_iconst (q := 11) (v := (-1)) dX7_tape_10 (by decide) rfl ?_
      refine zx_iconst (q := 12) (v := 4) dX7_tape_11 (by decide) rfl ?_
      refine zx_callS3i (q := 15) (y' := mX7_within) dX7_tape_12 ml_RX7_73 ok_mX7_within (Nat.le_of_ble_eq_true rfl) (Nat.le_of_ble_eq_true rfl) (Nat.le_refl _) (Nat.le_refl _) rfl (t_X7_within _ _ _ _) ?_
      rintro _ _ ⟨rfl, rfl⟩
      refine zx_if_ne_f (t := 21) (q := 18) dX7_tape_15 (by decide) rfl (zk_f h2) ?_
      refine zx_bipush (q := 20) (v := (-2)) dX7_tape_18 (by decide) rfl ?_
      refine zx_iret dX7_tape_20 rfl (Nat.le_refl _) (Nat.le_refl _) ⟨_, rfl, ?_⟩
      refine ⟨_, _, _, rfl, ?_⟩
      show zW l D tc A mX8_tape (d + 2) 0 0 0 0 0 [some (.ref 108), some (.int (nI t)), some (.int b), some (.int c), none] [] (zs _ _ _) _
      refine zx_aload_n (q := 1) dX8_tape_0 rfl rfl rfl ?_
      refine zx_iload_n (q := 2) dX8_tape_1 rfl rfl rfl ?_
      refine zx_callV1i (q := 5) (y' := mX8_isTape) dX8_tape_2 ml_RX8_342 ok_mX8_isTape rfl (by decide) rfl (Nat.le_of_ble_eq_true rfl) (Nat.le_of_ble_eq_true rfl) (Nat.le_refl _) (Nat.le_refl _) rfl (t_X8_isTape _ _) ?_
      rintro _ _ ⟨rfl, rfl⟩
      refine zx_if_ne_t (t := 10) (q := 8) dX8_tape_5 (by decide) rfl (zk_t h1) ?_
      refine zx_aload_n (q := 11) dX8_tape_10 rfl rfl rfl ?_
      refine zx_iload_n (q := 12) dX8_tape_11 rfl rfl rfl ?_
      refine zx_iconst (q := 13) (v := (-1)) dX8_tape_12 (by decide) rfl ?_
      refine zx_iconst (q := 14) (v := 4) dX8_tape_13 (by decide) rfl ?_
      refine zx_callV3i (q := 17) (y' := mX8_in) dX8_tape_14 ml_RX8_200 ok_mX8_in rfl (by decide) rfl (Nat.le_of_ble_eq_true rfl) (Nat.le_of_ble_eq_true rfl) (Nat.le_refl _) (Nat.le_refl _) rfl (t_X8_in _ _ _ _ _) ?_
      rintro _ _ ⟨rfl, rfl⟩
      refine zx_if_eq_t (t := 30) (q := 20) dX8_tape_17 (by decide) rfl (zk_f h2) ?_
      refine zx_bipush (q := 32) (v := (-2)) dX8_tape_30 (by decide) rfl ?_
      refine zx_iret dX8_tape_32 rfl (Nat.le_refl _) (Nat.le_refl _) ⟨_, rfl, ?_⟩
      exact ⟨rfl, _, _, _, rfl, hR⟩
  · show zW l D tc A mX7_tape (d + 2) 0 0 0 0 0 [some (.ref 0), some (.int a), some (.int b), some (.int c)] [] (zs gi gl f) _
    refine zx_iload_n (q := 1) dX7_tape_0 rfl rfl rfl ?_
    refine zx_callS1i (q := 4) (y' := mX7_isTape) dX7_tape_1 ml_RX7_236 ok_mX7_isTape (Nat.le_of_ble_eq_true rfl) (Nat.le_of_ble_eq_true rfl) (Nat.le_refl _) (Nat.le_refl _) rfl (t_X7_isTape _ _) ?_
    rintro _ _ ⟨rfl, rfl⟩
    refine zx_if_ne_f (t := 9) (q := 7) dX7_tape_4 (by decide) rfl (zk_f h1) ?_
    refine zx_iconst (q := 8) (v := (-1)) dX7_tape_7 (by decide) rfl ?_
    refine zx_iret dX7_tape_8 rfl (Nat.le_refl _) (Nat.le_refl _) ⟨_, rfl, ?_⟩
    refine ⟨_, _, _, rfl, ?_⟩
    show zW l D tc A mX8_tape (d + 2) 0 0 0 0 0 [some (.ref 108), some (.int a), some (.int b), some (.int c), none] [] (zs _ _ _) _
    refine zx_aload_n (q := 1) dX8_tape_0 rfl rfl rfl ?_
    refine zx_iload_n (q := 2) dX8_tape_1 rfl rfl rfl ?_
    refine zx_callV1i (q := 5) (y' := mX8_isTape) dX8_tape_2 ml_RX8_342 ok_mX8_isTape rfl (by decide) rfl (Nat.le_of_ble_eq_true rfl) (Nat.le_of_ble_eq_true rfl) (Nat.le_refl _) (Nat.le_refl _) rfl (t_X8_isTape _ _) ?_
    rintro _ _ ⟨rfl, rfl⟩
    refine zx_if_ne_f (t := 10) (q := 8) dX8_tape_5 (by decide) rfl (zk_f h1) ?_
    refine zx_iconst (q := 9) (v := (-1)) dX8_tape_8 (by decide) rfl ?_
    refine zx_iret dX8_tape_9 rfl (Nat.le_refl _) (Nat.le_refl _) ⟨_, rfl, ?_⟩
    exact ⟨rfl, _, _, _, rfl, hR⟩
end P19
