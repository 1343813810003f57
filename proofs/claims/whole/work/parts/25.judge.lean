/-- how far a herd is read off a row -/
def z_jd (it : Nat → Int64) (ow : Nat → Int32) (len i : Nat) : Nat → Nat → Int32
  | 0, _ => -5
  | k + 1, s => if i + s < len then (if it (i + s) = (ow s).toInt64 then z_jd it ow len i k (s + 1) else nI s) else 100 + nI s
theorem z_sub2 : ∀ len, len ≤ 60 → ∀ s, s ≤ 5 → (nI len - nI s - 1).toInt = (len : Int) - s - 1 := by decide +kernel
theorem z_in_none {v : Int32} : ¬ z_in v 0 (nI 0 - 1) = true := by
  rw [z_in_tt]
  have h1 : ((nI 0 - 1 : Int32)).toInt = -1 := by decide
  have h2 : (0 : Int32).toInt = 0 := by decide
  omega
section P25
variable {l : Launch} {D : va_G} {tc : Nat → ClassId} {A : Nat → Prop} {S : zw_S} {gi : Nat → Nat → Int32} {gl : Nat → Nat → Int64} {f : Option Nat} {Q : Option Value → zw_S → Prop}
theorem lp_X7_judge (d t i ns len : Nat) (ht : t < 6) (hns : ns ≤ 5) (hs1 : gi 1 0 = nI ns) (hl1 : gi (96 + 2 * t) 1 = nI len) (hlen : len ≤ 60) (hi : i < len) : ∀ (k s : Nat), s + k = ns → zW l D tc A mX7_judge (d + 2) 0 0 0 0 36 [some (.ref 0), some (.int (nI t)), some (.int (nI i)), some (.ref (96 + 2 * t)), some (.int (nI s))] [] (zs gi gl f) (zQi fun r S' => r = z_jd (gl (97 + 2 * t)) (gi 15) len i k s ∧ S' = zs gi gl f) := by
  intro k
  induction k using Nat.strongRecOn with
  | _ k ih =>
    intro s hs
    refine zx_iload (q := 38) dX7_judge_36 rfl rfl ?_
    refine zx_aload_n (q := 39) dX7_judge_38 rfl rfl rfl ?_
    refine zy_getR (q := 42) dX7_judge_39 fl_RX7_12 rfl rfl rfl rfl ?_
    refine zy_getIe (q := 45) (v := nI ns) dX7_judge_42 fl_RX7_81 rfl rfl (hs1) rfl ?_
    refine zx_icmp_ge (q := 48) (t := 100) dX7_judge_45 (by decide) rfl (fun c_45 => ?_) (fun c_45 => ?_)
    · have hs2 : s = ns := by have := z_ge (x := nI ns) rfl (by omega) c_45; omega
      have hk0 : k = 0 := by omega
      subst hk0
      refine zx_bipush (q := 102) (v := (-5)) dX7_judge_100 (by decide) rfl ?_
      refine zx_iret dX7_judge_102 rfl (Nat.le_refl _) (Nat.le_refl _) ⟨_, rfl, ?_⟩
      exact ⟨rfl, rfl⟩
    · have hs2 : s < ns := z_lt (x := nI ns) rfl (by omega) c_45
      obtain ⟨k, rfl⟩ : ∃ q, k = q + 1 := ⟨k - 1, by omega⟩
      refine zx_aload_n (q := 49) dX7_judge_48 rfl rfl rfl ?_
      refine zx_iload_n (q := 50) dX7_judge_49 rfl rfl rfl ?_
      refine zx_iload (q := 52) dX7_judge_50 rfl rfl ?_
      refine zx_iadd (q := 53) dX7_judge_52 rfl ?_
      rw [nI_add]
      refine zx_callV1i (q := 56) (y' := mX6_has) dX7_judge_53 ml_RX7_246 ok_mX6_has (zr_65 (f := f) (by omega)).2.1 (by decide) rfl (Nat.le_of_ble_eq_true rfl) (Nat.le_of_ble_eq_true rfl) (Nat.le_refl _) (Nat.le_refl _) rfl (t_X6_has _ t (by omega) _ hl1) ?_
      rintro _ _ ⟨rfl, rfl⟩
      rw [z_in_pred (by omega) (by omega)]
      refine zx_if_ne (q := 59) (t := 65) dX7_judge_56 (by decide) rfl (fun c_56 => ?_) (fun c_56 => ?_)
      · have h1 : i + s < len := by simpa using (zb_nz _).mp c_56
        refine zx_aload_n (q := 66) dX7_judge_65 rfl rfl rfl ?_
        refine zy_getR (q := 69) dX7_judge_66 fl_RX7_249 rfl (zr_65 (f := f) (by omega)).2.1 (zr_65 (by omega)).2.2.1 rfl ?_
        refine zx_iload_n (q := 70) dX7_judge_69 rfl rfl rfl ?_
        refine zx_iload (q := 72) dX7_judge_70 rfl rfl ?_
        refine zx_iadd (q := 73) dX7_judge_72 rfl ?_
        rw [nI_add]
        refine zy_laldN (q := 74) dX7_judge_73 (zr_65 (f := f) (by omega)).2.2.2 (by omega) (by first | decide | omega) rfl ?_
        refine zx_aload_n (q := 75) dX7_judge_74 rfl rfl rfl ?_
        refine zy_getR (q := 78) dX7_judge_75 fl_RX7_12 rfl rfl rfl rfl ?_
        refine zy_getR (q := 81) dX7_judge_78 fl_RX7_92 rfl rfl rfl rfl ?_
        refine zx_iconst (q := 82) (v := 0) dX7_judge_81 (by decide) rfl ?_
        refine zy_aaldN (q := 83) dX7_judge_82 rfl (by decide) (i := 0) (by omega) (by decide) rfl rfl ?_
        refine zx_iload (q := 85) dX7_judge_83 rfl rfl ?_
        refine zy_ialdN (q := 86) dX7_judge_85 rfl (by omega) (by first | decide | omega) rfl ?_
        refine zx_i2l (q := 87) dX7_judge_86 rfl ?_
        refine zx_lcmp (q := 88) dX7_judge_87 rfl ?_
        refine zx_if_eq (q := 91) (t := 94) dX7_judge_88 (by decide) rfl (fun c_88 => ?_) (fun c_88 => ?_)
        · refine zx_iinc4 (q := 97) dX7_judge_94 rfl rfl ?_
          refine zx_goto (t := 36) dX7_judge_97 (by decide) ?_
          rw [lg_cmp_eq] at c_88
          rw [z_inc, z_jd, if_pos h1, if_pos c_88]
          exact ih k (by omega) (s + 1) (by omega)
        · refine zx_iload (q := 93) dX7_judge_91 rfl rfl ?_
          refine zx_iret dX7_judge_93 rfl (Nat.le_refl _) (Nat.le_refl _) ⟨_, rfl, ?_⟩
          rw [lg_cmp_eq] at c_88
          exact ⟨by rw [z_jd, if_pos h1, if_neg c_88], rfl⟩
      · have h1 : ¬ i + s < len := by simpa using (zb_z _).mp c_56
        refine zx_bipush (q := 61) (v := 100) dX7_judge_59 (by decide) rfl ?_
        refine zx_iload (q := 63) dX7_judge_61 rfl rfl ?_
        refine zx_iadd (q := 64) dX7_judge_63 rfl ?_
        refine zx_iret dX7_judge_64 rfl (Nat.le_refl _) (Nat.le_refl _) ⟨_, rfl, ?_⟩
        exact ⟨by rw [z_jd, if_neg h1], rfl⟩
theorem lp_X8_judge (d t i ns len : Nat) (ht : t < 6) (hns : ns ≤ 5) (hs1 : gi 108 0 = nI ns) (hso : gi 146 t = 0) (hl1 : gi 147 t = nI len) (hlen : len ≤ 60) (hi : i < len) : ∀ (k s : Nat), s + k = ns → zW l D tc A mX8_judge d 0 0 0 0 24 [some (.ref 108), some (.int (nI t)), some (.int (nI i)), some (.int (nI s))] [] (zs gi gl f) (zQi fun r S' => r = z_jd (fun q => gl 148 (60 * t + q)) (gi 113) len i k s ∧ S' = zs gi gl f) := by
  intro k
  induction k using Nat.strongRecOn with
  | _ k ih =>
    intro s hs
    refine zx_iload_n (q := 25) dX8_judge_24 rfl rfl rfl ?_
    refine zx_aload_n (q := 26) dX8_judge_25 rfl rfl rfl ?_
    refine zy_getIe (q := 29) (v := nI ns) dX8_judge_26 fl_RX8_7 rfl rfl (hs1) rfl ?_
    refine zx_icmp_ge (q := 32) (t := 96) dX8_judge_29 (by decide) rfl (fun c_29 => ?_) (fun c_29 => ?_)
    · have hs2 : s = ns := by have := z_ge (x := nI ns) rfl (by omega) c_29; omega
      have hk0 : k = 0 := by omega
      subst hk0
      refine zx_bipush (q := 98) (v := (-5)) dX8_judge_96 (by decide) rfl ?_
      refine zx_iret dX8_judge_98 rfl (Nat.le_refl _) (Nat.le_refl _) ⟨_, rfl, ?_⟩
      exact ⟨rfl, rfl⟩
    · have hs2 : s < ns := z_lt (x := nI ns) rfl (by omega) c_29
      obtain ⟨k, rfl⟩ : ∃ q, k = q + 1 := ⟨k - 1, by omega⟩
      refine zx_aload_n (q := 33) dX8_judge_32 rfl rfl rfl ?_
      refine zy_getR (q := 36) dX8_judge_33 fl_RX8_187 rfl rfl rfl rfl ?_
      refine zx_iload_n (q := 37) dX8_judge_36 rfl rfl rfl ?_
      refine zy_ialdN (q := 38) dX8_judge_37 rfl (by omega) (by first | decide | omega) rfl ?_
      refine zx_if_lt_f (t := 59) (q := 41) dX8_judge_38 (by decide) rfl (by rw [hso]; decide) ?_
      refine zx_iload_n (q := 42) dX8_judge_41 rfl rfl rfl ?_
      refine zx_if_lt_f (t := 59) (q := 45) dX8_judge_42 (by decide) rfl (nI_pos (by omega)) ?_
      refine zx_iload_n (q := 46) dX8_judge_45 rfl rfl rfl ?_
      refine zx_aload_n (q := 47) dX8_judge_46 rfl rfl rfl ?_
      refine zy_getR (q := 50) dX8_judge_47 fl_RX8_190 rfl rfl rfl rfl ?_
      refine zx_iload_n (q := 51) dX8_judge_50 rfl rfl rfl ?_
      refine zy_ialdN (q := 52) dX8_judge_51 rfl (by omega) (by first | decide | omega) rfl ?_
      rw [hl1]
      refine zx_iload_n (q := 53) dX8_judge_52 rfl rfl rfl ?_
      refine zx_isub (q := 54) dX8_judge_53 rfl ?_
      refine zx_iconst (q := 55) (v := 1) dX8_judge_54 (by decide) rfl ?_
      refine zx_isub (q := 56) dX8_judge_55 rfl ?_
      refine zx_icmp_le (q := 59) (t := 64) dX8_judge_56 (by decide) rfl (fun c_56 => ?_) (fun c_56 => ?_)
      · have h1 : i + s < len := by rw [Int32.le_iff_toInt_le, z_sub2 len hlen s (by omega), nI_toInt (by omega)] at c_56; omega
        refine zx_aload_n (q := 65) dX8_judge_64 rfl rfl rfl ?_
        refine zy_getR (q := 68) dX8_judge_65 fl_RX8_193 rfl rfl rfl rfl ?_
        refine zx_bipush (q := 70) (v := 60) dX8_judge_68 (by decide) rfl ?_
        refine zx_iload_n (q := 71) dX8_judge_70 rfl rfl rfl ?_
        refine zx_imul (q := 72) dX8_judge_71 rfl ?_
        refine zx_iload_n (q := 73) dX8_judge_72 rfl rfl rfl ?_
        refine zx_iadd (q := 74) dX8_judge_73 rfl ?_
        refine zx_iload_n (q := 75) dX8_judge_74 rfl rfl rfl ?_
        refine zx_iadd (q := 76) dX8_judge_75 rfl ?_
        rw [z_60, nI_add]
        refine zy_laldN (q := 77) dX8_judge_76 rfl (by omega) (by first | decide | omega) rfl ?_
        refine zx_aload_n (q := 78) dX8_judge_77 rfl rfl rfl ?_
        refine zy_getR (q := 81) dX8_judge_78 fl_RX8_29 rfl rfl rfl rfl ?_
        refine zx_iload_n (q := 82) dX8_judge_81 rfl rfl rfl ?_
        refine zy_ialdN (q := 83) dX8_judge_82 rfl (by omega) (by first | decide | omega) rfl ?_
        refine zx_i2l (q := 84) dX8_judge_83 rfl ?_
        refine zx_lcmp (q := 85) dX8_judge_84 rfl ?_
        refine zx_if_eq (q := 88) (t := 90) dX8_judge_85 (by decide) rfl (fun c_85 => ?_) (fun c_85 => ?_)
        · refine zx_iinc3 (q := 93) dX8_judge_90 rfl rfl ?_
          refine zx_goto (t := 24) dX8_judge_93 (by decide) ?_
          rw [lg_cmp_eq] at c_85
          rw [Nat.add_assoc] at c_85
          rw [z_inc, z_jd, if_pos h1, if_pos c_85]
          exact ih k (by omega) (s + 1) (by omega)
        · refine zx_iload_n (q := 89) dX8_judge_88 rfl rfl rfl ?_
          refine zx_iret dX8_judge_89 rfl (Nat.le_refl _) (Nat.le_refl _) ⟨_, rfl, ?_⟩
          rw [lg_cmp_eq] at c_85
          rw [Nat.add_assoc] at c_85
          exact ⟨by rw [z_jd, if_pos h1, if_neg c_85], rfl⟩
      · have h1 : ¬ i + s < len := by rw [Int32.le_iff_toInt_le, z_sub2 len hlen s (by omega), nI_toInt (by omega)] at c_56; omega
        refine zx_bipush (q := 61) (v := 100) dX8_judge_59 (by decide) rfl ?_
        refine zx_iload_n (q := 62) dX8_judge_61 rfl rfl rfl ?_
        refine zx_iadd (q := 63) dX8_judge_62 rfl ?_
        refine zx_iret dX8_judge_63 rfl (Nat.le_refl _) (Nat.le_refl _) ⟨_, rfl, ?_⟩
        exact ⟨by rw [z_jd, if_neg h1], rfl⟩
theorem z_jd_congr {it it' : Nat → Int64} {ow ow' : Nat → Int32} {len i ns : Nat} (h1 : ∀ k, k < len → it k = it' k) (h2 : ∀ s, s < ns → ow s = ow' s) : ∀ k s, s + k = ns → z_jd it ow len i k s = z_jd it' ow' len i k s := by
  intro k
  induction k with
  | zero => intro s _; rfl
  | succ k ih =>
    intro s hs
    rw [z_jd, z_jd]
    by_cases c : i + s < len
    · rw [if_pos c, if_pos c, h1 _ c, h2 s (by omega), ih (s + 1) (by omega)]
    · rw [if_neg c, if_neg c]
set_option maxHeartbeats 4000000 in
theorem op_judge (d : Nat) (a : Int32) (b : Int32) (hR : zRel gi gl) : zOpI l D tc A mX7_judge mX8_judge (d + 3) [.int a, .int b] gi gl f := by
  obtain ⟨nf, ⟨hf0, hf1, hf2⟩, ⟨ns, nb, mm, ⟨hns, hnb, hmm⟩, ⟨hs1, hs2⟩, ⟨hm1, hm2⟩, ⟨hb1, hb2⟩, ⟨hx1, hx2⟩, hSs, hSn, hSt, hSb⟩, ⟨him, hik⟩, ⟨len, hlen, ht1, ht2, ht3⟩, ⟨ra, hra, ha1, ha2, ha3⟩, hTP, ho, hF, hLt⟩ := id hR
  by_cases h1 : z_in a 0 5 = true
  · obtain ⟨t, ht0, rfl⟩ := z_inT 5 (by decide) h1
    obtain ⟨ln, hln, ⟨hso, hsr⟩, ⟨hl1, hl2⟩, hemp, hit⟩ := hTP t (by omega)
    by_cases h3 : gi 146 t = 0
    · by_cases h4 : z_in b 0 (nI ln - 1) = true
      · obtain ⟨j, hj, rfl⟩ := z_inG (by omega) h4
        show zW l D tc A mX7_judge (d + 3) 0 0 0 0 0 [some (.ref 0), some (.int (nI t)), some (.int (nI j)), none, none] [] (zs gi gl f) _
        refine zx_iload_n (q := 1) dX7_judge_0 rfl rfl rfl ?_
        refine zx_callS1i (q := 4) (y' := mX7_isTape) dX7_judge_1 ml_RX7_236 ok_mX7_isTape (Nat.le_of_ble_eq_true rfl) (Nat.le_of_ble_eq_true rfl) (Nat.le_refl _) (Nat.le_refl _) rfl (t_X7_isTape _ _) ?_
        rintro _ _ ⟨rfl, rfl⟩
        refine zx_if_ne_t (t := 9) (q := 7) dX7_judge_4 (by decide) rfl (zk_t h1) ?_
        refine zx_aload_n (q := 10) dX7_judge_9 rfl rfl rfl ?_
        refine zy_getR (q := 13) dX7_judge_10 fl_RX7_68 rfl rfl rfl rfl ?_
        refine zx_iload_n (q := 14) dX7_judge_13 rfl rfl rfl ?_
        refine zy_aaldN (q := 15) dX7_judge_14 rfl (by decide) (by omega) (by decide) (zr_65 (by omega)).1 rfl ?_
        refine zx_astore3 (q := 16) dX7_judge_15 rfl rfl ?_
        refine zx_aload_n (q := 17) dX7_judge_16 rfl rfl rfl ?_
        refine zx_callV0i (q := 20) (y' := mX6_isEmpty) dX7_judge_17 ml_RX7_239 ok_mX6_isEmpty (zr_65 (f := f) (by omega)).2.1 (by decide) rfl (Nat.le_of_ble_eq_true rfl) (Nat.le_of_ble_eq_true rfl) (Nat.le_refl _) (Nat.le_refl _) rfl (t_X6_isEmpty _ t (by omega)) ?_
        rintro _ _ ⟨rfl, rfl⟩
        refine zx_if_ne_f (t := 33) (q := 23) dX7_judge_20 (by decide) rfl (zk_f (by rw [hso, h3]; decide)) ?_
        refine zx_aload_n (q := 24) dX7_judge_23 rfl rfl rfl ?_
        refine zy_getIe (q := 27) (v := 0) dX7_judge_24 fl_RX7_243 rfl (zr_65 (f := f) (by omega)).2.1 (hso.trans h3) rfl ?_
        refine zx_if_eq_t (t := 33) (q := 30) dX7_judge_27 (by decide) rfl (rfl) ?_
        refine zx_iconst (q := 34) (v := 0) dX7_judge_33 (by decide) rfl ?_
        refine zx_istore4 (q := 36) dX7_judge_34 rfl rfl ?_
        refine zW.mono (lp_X7_judge (d + 1) t j ns ln (by omega) hns hs1 hl1 hln hj ns 0 (by omega)) ?_
        rintro _ _ ⟨r, rfl, rfl, rfl⟩
        refine ⟨_, rfl, _, _, _, rfl, ?_⟩
        show zW l D tc A mX8_judge (d + 3) 0 0 0 0 0 [some (.ref 108), some (.int (nI t)), some (.int (nI j)), none] [] (zs _ _ _) _
        refine zx_aload_n (q := 1) dX8_judge_0 rfl rfl rfl ?_
        refine zx_iload_n (q := 2) dX8_judge_1 rfl rfl rfl ?_
        refine zx_callV1i (q := 5) (y' := mX8_isTape) dX8_judge_2 ml_RX8_342 ok_mX8_isTape rfl (by decide) rfl (Nat.le_of_ble_eq_true rfl) (Nat.le_of_ble_eq_true rfl) (Nat.le_refl _) (Nat.le_refl _) rfl (t_X8_isTape _ _) ?_
        rintro _ _ ⟨rfl, rfl⟩
        refine zx_if_ne_t (t := 10) (q := 8) dX8_judge_5 (by decide) rfl (zk_t h1) ?_
        refine zx_aload_n (q := 11) dX8_judge_10 rfl rfl rfl ?_
        refine zy_getR (q := 14) dX8_judge_11 fl_RX8_187 rfl rfl rfl rfl ?_
        refine zx_iload_n (q := 15) dX8_judge_14 rfl rfl rfl ?_
        refine zy_ialdN (q := 16) dX8_judge_15 rfl (by omega) (by first | decide | omega) rfl ?_
        refine zx_if_le_t (t := 22) (q := 19) dX8_judge_16 (by decide) rfl (by rw [h3]; decide) ?_
        refine zx_iconst (q := 23) (v := 0) dX8_judge_22 (by decide) rfl ?_
        refine zx_istore3 (q := 24) dX8_judge_23 rfl rfl ?_
        refine zW.mono (lp_X8_judge (d + 3) t j ns ln (by omega) hns hs2 h3 hl2 hln hj ns 0 (by omega)) ?_
        rintro _ _ ⟨r2, rfl, rfl, rfl⟩
        exact ⟨_, rfl, (z_jd_congr (fun k hk => hit k (by omega)) (fun s hs => (hSs s hs).2.2.2.2.1.1) ns 0 (by omega)).symm, _, _, _, rfl, hR⟩
      · by_cases h5 : ns = 0
        · show zW l D tc A mX7_judge (d + 3) 0 0 0 0 0 [some (.ref 0), some (.int (nI t)), some (.int b), none, none] [] (zs gi gl f) _
          refine zx_iload_n (q := 1) dX7_judge_0 rfl rfl rfl ?_
          refine zx_callS1i (q := 4) (y' := mX7_isTape) dX7_judge_1 ml_RX7_236 ok_mX7_isTape (Nat.le_of_ble_eq_true rfl) (Nat.le_of_ble_eq_true rfl) (Nat.le_refl _) (Nat.le_refl _) rfl (t_X7_isTape _ _) ?_
          rintro _ _ ⟨rfl, rfl⟩
          refine zx_if_ne_t (t := 9) (q := 7) dX7_judge_4 (by decide) rfl (zk_t h1) ?_
          refine zx_aload_n (q := 10) dX7_judge_9 rfl rfl rfl ?_
          refine zy_getR (q := 13) dX7_judge_10 fl_RX7_68 rfl rfl rfl rfl ?_
          refine zx_iload_n (q := 14) dX7_judge_13 rfl rfl rfl ?_
          refine zy_aaldN (q := 15) dX7_judge_14 rfl (by decide) (by omega) (by decide) (zr_65 (by omega)).1 rfl ?_
          refine zx_astore3 (q := 16) dX7_judge_15 rfl rfl ?_
          refine zx_aload_n (q := 17) dX7_judge_16 rfl rfl rfl ?_
          refine zx_callV0i (q := 20) (y' := mX6_isEmpty) dX7_judge_17 ml_RX7_239 ok_mX6_isEmpty (zr_65 (f := f) (by omega)).2.1 (by decide) rfl (Nat.le_of_ble_eq_true rfl) (Nat.le_of_ble_eq_true rfl) (Nat.le_refl _) (Nat.le_refl _) rfl (t_X6_isEmpty _ t (by omega)) ?_
          rintro _ _ ⟨rfl, rfl⟩
          refine zx_if_ne_f (t := 33) (q := 23) dX7_judge_20 (by decide) rfl (zk_f (by rw [hso, h3]; decide)) ?_
          refine zx_aload_n (q := 24) dX7_judge_23 rfl rfl rfl ?_
          refine zy_getIe (q := 27) (v := 0) dX7_judge_24 fl_RX7_243 rfl (zr_65 (f := f) (by omega)).2.1 (hso.trans h3) rfl ?_
          refine zx_if_eq_t (t := 33) (q := 30) dX7_judge_27 (by decide) rfl (rfl) ?_
          refine zx_iconst (q := 34) (v := 0) dX7_judge_33 (by decide) rfl ?_
          refine zx_istore4 (q := 36) dX7_judge_34 rfl rfl ?_
          refine zx_iload (q := 38) dX7_judge_36 rfl rfl ?_
          refine zx_aload_n (q := 39) dX7_judge_38 rfl rfl rfl ?_
          refine zy_getR (q := 42) dX7_judge_39 fl_RX7_12 rfl rfl rfl rfl ?_
          refine zy_getIe (q := 45) (v := nI ns) dX7_judge_42 fl_RX7_81 rfl rfl (hs1) rfl ?_
          refine zx_icmp_ge_t (t := 100) (q := 48) dX7_judge_45 (by decide) rfl (by rw [h5]; decide) ?_
          refine zx_bipush (q := 102) (v := (-5)) dX7_judge_100 (by decide) rfl ?_
          refine zx_iret dX7_judge_102 rfl (Nat.le_refl _) (Nat.le_refl _) ⟨_, rfl, ?_⟩
          refine ⟨_, _, _, rfl, ?_⟩
          show zW l D tc A mX8_judge (d + 3) 0 0 0 0 0 [some (.ref 108), some (.int (nI t)), some (.int b), none] [] (zs _ _ _) _
          refine zx_aload_n (q := 1) dX8_judge_0 rfl rfl rfl ?_
          refine zx_iload_n (q := 2) dX8_judge_1 rfl rfl rfl ?_
          refine zx_callV1i (q := 5) (y' := mX8_isTape) dX8_judge_2 ml_RX8_342 ok_mX8_isTape rfl (by decide) rfl (Nat.le_of_ble_eq_true rfl) (Nat.le_of_ble_eq_true rfl) (Nat.le_refl _) (Nat.le_refl _) rfl (t_X8_isTape _ _) ?_
          rintro _ _ ⟨rfl, rfl⟩
          refine zx_if_ne_t (t := 10) (q := 8) dX8_judge_5 (by decide) rfl (zk_t h1) ?_
          refine zx_aload_n (q := 11) dX8_judge_10 rfl rfl rfl ?_
          refine zy_getR (q := 14) dX8_judge_11 fl_RX8_187 rfl rfl rfl rfl ?_
          refine zx_iload_n (q := 15) dX8_judge_14 rfl rfl rfl ?_
          refine zy_ialdN (q := 16) dX8_judge_15 rfl (by omega) (by first | decide | omega) rfl ?_
          refine zx_if_le_t (t := 22) (q := 19) dX8_judge_16 (by decide) rfl (by rw [h3]; decide) ?_
          refine zx_iconst (q := 23) (v := 0) dX8_judge_22 (by decide) rfl ?_
          refine zx_istore3 (q := 24) dX8_judge_23 rfl rfl ?_
          refine zx_iload_n (q := 25) dX8_judge_24 rfl rfl rfl ?_
          refine zx_aload_n (q := 26) dX8_judge_25 rfl rfl rfl ?_
          refine zy_getIe (q := 29) (v := nI ns) dX8_judge_26 fl_RX8_7 rfl rfl (hs2) rfl ?_
          refine zx_icmp_ge_t (t := 96) (q := 32) dX8_judge_29 (by decide) rfl (by rw [h5]; decide) ?_
          refine zx_bipush (q := 98) (v := (-5)) dX8_judge_96 (by decide) rfl ?_
          refine zx_iret dX8_judge_98 rfl (Nat.le_refl _) (Nat.le_refl _) ⟨_, rfl, ?_⟩
          exact ⟨rfl, _, _, _, rfl, hR⟩
        · show zW l D tc A mX7_judge (d + 3) 0 0 0 0 0 [some (.ref 0), some (.int (nI t)), some (.int b), none, none] [] (zs gi gl f) _
          refine zx_iload_n (q := 1) dX7_judge_0 rfl rfl rfl ?_
          refine zx_callS1i (q := 4) (y' := mX7_isTape) dX7_judge_1 ml_RX7_236 ok_mX7_isTape (Nat.le_of_ble_eq_true rfl) (Nat.le_of_ble_eq_true rfl) (Nat.le_refl _) (Nat.le_refl _) rfl (t_X7_isTape _ _) ?_
          rintro _ _ ⟨rfl, rfl⟩
          refine zx_if_ne_t (t := 9) (q := 7) dX7_judge_4 (by decide) rfl (zk_t h1) ?_
          refine zx_aload_n (q := 10) dX7_judge_9 rfl rfl rfl ?_
          refine zy_getR (q := 13) dX7_judge_10 fl_RX7_68 rfl rfl rfl rfl ?_
          refine zx_iload_n (q := 14) dX7_judge_13 rfl rfl rfl ?_
          refine zy_aaldN (q := 15) dX7_judge_14 rfl (by decide) (by omega) (by decide) (zr_65 (by omega)).1 rfl ?_
          refine zx_astore3 (q := 16) dX7_judge_15 rfl rfl ?_
          refine zx_aload_n (q := 17) dX7_judge_16 rfl rfl rfl ?_
          refine zx_callV0i (q := 20) (y' := mX6_isEmpty) dX7_judge_17 ml_RX7_239 ok_mX6_isEmpty (zr_65 (f := f) (by omega)).2.1 (by decide) rfl (Nat.le_of_ble_eq_true rfl) (Nat.le_of_ble_eq_true rfl) (Nat.le_refl _) (Nat.le_refl _) rfl (t_X6_isEmpty _ t (by omega)) ?_
          rintro _ _ ⟨rfl, rfl⟩
          refine zx_if_ne_f (t := 33) (q := 23) dX7_judge_20 (by decide) rfl (zk_f (by rw [hso, h3]; decide)) ?_
          refine zx_aload_n (q := 24) dX7_judge_23 rfl rfl rfl ?_
          refine zy_getIe (q := 27) (v := 0) dX7_judge_24 fl_RX7_243 rfl (zr_65 (f := f) (by omega)).2.1 (hso.trans h3) rfl ?_
          refine zx_if_eq_t (t := 33) (q := 30) dX7_judge_27 (by decide) rfl (rfl) ?_
          refine zx_iconst (q := 34) (v := 0) dX7_judge_33 (by decide) rfl ?_
          refine zx_istore4 (q := 36) dX7_judge_34 rfl rfl ?_
          refine zx_iload (q := 38) dX7_judge_36 rfl rfl ?_
          refine zx_aload_n (q := 39) dX7_judge_38 rfl rfl rfl ?_
          refine zy_getR (q := 42) dX7_judge_39 fl_RX7_12 rfl rfl rfl rfl ?_
          refine zy_getIe (q := 45) (v := nI ns) dX7_judge_42 fl_RX7_81 rfl rfl (hs1) rfl ?_
          refine zx_icmp_ge_f (t := 100) (q := 48) dX7_judge_45 (by decide) rfl (nI_ge (a := 0) (by omega) (by omega)) ?_
          refine zx_aload_n (q := 49) dX7_judge_48 rfl rfl rfl ?_
          refine zx_iload_n (q := 50) dX7_judge_49 rfl rfl rfl ?_
          refine zx_iload (q := 52) dX7_judge_50 rfl rfl ?_
          refine zx_iadd (q := 53) dX7_judge_52 rfl ?_
          refine zx_callV1i (q := 56) (y' := mX6_has) dX7_judge_53 ml_RX7_246 ok_mX6_has (zr_65 (f := f) (by omega)).2.1 (by decide) rfl (Nat.le_of_ble_eq_true rfl) (Nat.le_of_ble_eq_true rfl) (Nat.le_refl _) (Nat.le_refl _) rfl (t_X6_has _ t (by omega) _ hl1) ?_
          rintro _ _ ⟨rfl, rfl⟩
          refine zx_if_ne_f (t := 65) (q := 59) dX7_judge_56 (by decide) rfl (zk_f (by first | exact z_in_none | (rw [Int32.add_zero]; exact h4))) ?_
          refine zx_bipush (q := 61) (v := 100) dX7_judge_59 (by decide) rfl ?_
          refine zx_iload (q := 63) dX7_judge_61 rfl rfl ?_
          refine zx_iadd (q := 64) dX7_judge_63 rfl ?_
          refine zx_iret dX7_judge_64 rfl (Nat.le_refl _) (Nat.le_refl _) ⟨_, rfl, ?_⟩
          refine ⟨_, _, _, rfl, ?_⟩
          show zW l D tc A mX8_judge (d + 3) 0 0 0 0 0 [some (.ref 108), some (.int (nI t)), some (.int b), none] [] (zs _ _ _) _
          refine zx_aload_n (q := 1) dX8_judge_0 rfl rfl rfl ?_
          refine zx_iload_n (q := 2) dX8_judge_1 rfl rfl rfl ?_
          refine zx_callV1i (q := 5) (y' := mX8_isTape) dX8_judge_2 ml_RX8_342 ok_mX8_isTape rfl (by decide) rfl (Nat.le_of_ble_eq_true rfl) (Nat.le_of_ble_eq_true rfl) (Nat.le_refl _) (Nat.le_refl _) rfl (t_X8_isTape _ _) ?_
          rintro _ _ ⟨rfl, rfl⟩
          refine zx_if_ne_t (t := 10) (q := 8) dX8_judge_5 (by decide) rfl (zk_t h1) ?_
          refine zx_aload_n (q := 11) dX8_judge_10 rfl rfl rfl ?_
          refine zy_getR (q := 14) dX8_judge_11 fl_RX8_187 rfl rfl rfl rfl ?_
          refine zx_iload_n (q := 15) dX8_judge_14 rfl rfl rfl ?_
          refine zy_ialdN (q := 16) dX8_judge_15 rfl (by omega) (by first | decide | omega) rfl ?_
          refine zx_if_le_t (t := 22) (q := 19) dX8_judge_16 (by decide) rfl (by rw [h3]; decide) ?_
          refine zx_iconst (q := 23) (v := 0) dX8_judge_22 (by decide) rfl ?_
          refine zx_istore3 (q := 24) dX8_judge_23 rfl rfl ?_
          refine zx_iload_n (q := 25) dX8_judge_24 rfl rfl rfl ?_
          refine zx_aload_n (q := 26) dX8_judge_25 rfl rfl rfl ?_
          refine zy_getIe (q := 29) (v := nI ns) dX8_judge_26 fl_RX8_7 rfl rfl (hs2) rfl ?_
          refine zx_icmp_ge_f (t := 96) (q := 32) dX8_judge_29 (by decide) rfl (nI_ge (a := 0) (by omega) (by omega)) ?_
          refine zx_aload_n (q := 33) dX8_judge_32 rfl rfl rfl ?_
          refine zy_getR (q := 36) dX8_judge_33 fl_RX8_187 rfl rfl rfl rfl ?_
          refine zx_iload_n (q := 37) dX8_judge_36 rfl rfl rfl ?_
          refine zy_ialdN (q := 38) dX8_judge_37 rfl (by omega) (by first | decide | omega) rfl ?_
          refine zx_if_lt_f (t := 59) (q := 41) dX8_judge_38 (by decide) rfl (by rw [h3]; decide) ?_
          refine zx_iload_n (q := 42) dX8_judge_41 rfl rfl rfl ?_
          refine zx_if_lt (q := 45) (t := 59) dX8_judge_42 (by decide) rfl (fun e_42 => ?_) (fun e_42 => ?_)
          · refine zx_bipush (q := 61) (v := 100) dX8_judge_59 (by decide) rfl ?_
            refine zx_iload_n (q := 62) dX8_judge_61 rfl rfl rfl ?_
            refine zx_iadd (q := 63) dX8_judge_62 rfl ?_
            refine zx_iret dX8_judge_63 rfl (Nat.le_refl _) (Nat.le_refl _) ⟨_, rfl, ?_⟩
            exact ⟨rfl, _, _, _, rfl, hR⟩
          · refine zx_iload_n (q := 46) dX8_judge_45 rfl rfl rfl ?_
            refine zx_aload_n (q := 47) dX8_judge_46 rfl rfl rfl ?_
            refine zy_getR (q := 50) dX8_judge_47 fl_RX8_190 rfl rfl rfl rfl ?_
            refine zx_iload_n (q := 51) dX8_judge_50 rfl rfl rfl ?_
            refine zy_ialdN (q := 52) dX8_judge_51 rfl (by omega) (by first | decide | omega) rfl ?_
            rw [hl2]
            refine zx_iload_n (q := 53) dX8_judge_52 rfl rfl rfl ?_
            refine zx_isub (q := 54) dX8_judge_53 rfl ?_
            refine zx_iconst (q := 55) (v := 1) dX8_judge_54 (by decide) rfl ?_
            refine zx_isub (q := 56) dX8_judge_55 rfl ?_
            refine zx_icmp_le_f (t := 64) (q := 59) dX8_judge_56 (by decide) rfl (fun z => h4 (by rw [Int32.not_lt] at e_42; obtain ⟨q, hq, rfl⟩ := nI_of (Int32.not_lt.mpr e_42); rw [show (0 : Int32) = nI 0 from rfl, Int32.le_iff_toInt_le, z_sub2 ln hln 0 (by omega), nI_toInt (by omega)] at z; rw [z_in_pred hq (by omega), decide_eq_true_eq]; omega)) ?_
            refine zx_bipush (q := 61) (v := 100) dX8_judge_59 (by decide) rfl ?_
            refine zx_iload_n (q := 62) dX8_judge_61 rfl rfl rfl ?_
            refine zx_iadd (q := 63) dX8_judge_62 rfl ?_
            refine zx_iret dX8_judge_63 rfl (Nat.le_refl _) (Nat.le_refl _) ⟨_, rfl, ?_⟩
            exact ⟨rfl, _, _, _, rfl, hR⟩
    · by_cases h6 : gi 146 t = -1
      · clear h3
        have h3 := h6
        have hln0 : ln = 0 := hemp h3
        subst hln0
        by_cases h5 : ns = 0
        · show zW l D tc A mX7_judge (d + 3) 0 0 0 0 0 [some (.ref 0), some (.int (nI t)), some (.int b), none, none] [] (zs gi gl f) _
          refine zx_iload_n (q := 1) dX7_judge_0 rfl rfl rfl ?_
          refine zx_callS1i (q := 4) (y' := mX7_isTape) dX7_judge_1 ml_RX7_236 ok_mX7_isTape (Nat.le_of_ble_eq_true rfl) (Nat.le_of_ble_eq_true rfl) (Nat.le_refl _) (Nat.le_refl _) rfl (t_X7_isTape _ _) ?_
          rintro _ _ ⟨rfl, rfl⟩
          refine zx_if_ne_t (t := 9) (q := 7) dX7_judge_4 (by decide) rfl (zk_t h1) ?_
          refine zx_aload_n (q := 10) dX7_judge_9 rfl rfl rfl ?_
          refine zy_getR (q := 13) dX7_judge_10 fl_RX7_68 rfl rfl rfl rfl ?_
          refine zx_iload_n (q := 14) dX7_judge_13 rfl rfl rfl ?_
          refine zy_aaldN (q := 15) dX7_judge_14 rfl (by decide) (by omega) (by decide) (zr_65 (by omega)).1 rfl ?_
          refine zx_astore3 (q := 16) dX7_judge_15 rfl rfl ?_
          refine zx_aload_n (q := 17) dX7_judge_16 rfl rfl rfl ?_
          refine zx_callV0i (q := 20) (y' := mX6_isEmpty) dX7_judge_17 ml_RX7_239 ok_mX6_isEmpty (zr_65 (f := f) (by omega)).2.1 (by decide) rfl (Nat.le_of_ble_eq_true rfl) (Nat.le_of_ble_eq_true rfl) (Nat.le_refl _) (Nat.le_refl _) rfl (t_X6_isEmpty _ t (by omega)) ?_
          rintro _ _ ⟨rfl, rfl⟩
          refine zx_if_ne_t (t := 33) (q := 23) dX7_judge_20 (by decide) rfl (zk_t (by rw [hso, h3]; decide)) ?_
          refine zx_iconst (q := 34) (v := 0) dX7_judge_33 (by decide) rfl ?_
          refine zx_istore4 (q := 36) dX7_judge_34 rfl rfl ?_
          refine zx_iload (q := 38) dX7_judge_36 rfl rfl ?_
          refine zx_aload_n (q := 39) dX7_judge_38 rfl rfl rfl ?_
          refine zy_getR (q := 42) dX7_judge_39 fl_RX7_12 rfl rfl rfl rfl ?_
          refine zy_getIe (q := 45) (v := nI ns) dX7_judge_42 fl_RX7_81 rfl rfl (hs1) rfl ?_
          refine zx_icmp_ge_t (t := 100) (q := 48) dX7_judge_45 (by decide) rfl (by rw [h5]; decide) ?_
          refine zx_bipush (q := 102) (v := (-5)) dX7_judge_100 (by decide) rfl ?_
          refine zx_iret dX7_judge_102 rfl (Nat.le_refl _) (Nat.le_refl _) ⟨_, rfl, ?_⟩
          refine ⟨_, _, _, rfl, ?_⟩
          show zW l D tc A mX8_judge (d + 3) 0 0 0 0 0 [some (.ref 108), some (.int (nI t)), some (.int b), none] [] (zs _ _ _) _
          refine zx_aload_n (q := 1) dX8_judge_0 rfl rfl rfl ?_
          refine zx_iload_n (q := 2) dX8_judge_1 rfl rfl rfl ?_
          refine zx_callV1i (q := 5) (y' := mX8_isTape) dX8_judge_2 ml_RX8_342 ok_mX8_isTape rfl (by decide) rfl (Nat.le_of_ble_eq_true rfl) (Nat.le_of_ble_eq_true rfl) (Nat.le_refl _) (Nat.le_refl _) rfl (t_X8_isTape _ _) ?_
          rintro _ _ ⟨rfl, rfl⟩
          refine zx_if_ne_t (t := 10) (q := 8) dX8_judge_5 (by decide) rfl (zk_t h1) ?_
          refine zx_aload_n (q := 11) dX8_judge_10 rfl rfl rfl ?_
          refine zy_getR (q := 14) dX8_judge_11 fl_RX8_187 rfl rfl rfl rfl ?_
          refine zx_iload_n (q := 15) dX8_judge_14 rfl rfl rfl ?_
          refine zy_ialdN (q := 16) dX8_judge_15 rfl (by omega) (by first | decide | omega) rfl ?_
          refine zx_if_le_t (t := 22) (q := 19) dX8_judge_16 (by decide) rfl (by rw [h3]; decide) ?_
          refine zx_iconst (q := 23) (v := 0) dX8_judge_22 (by decide) rfl ?_
          refine zx_istore3 (q := 24) dX8_judge_23 rfl rfl ?_
          refine zx_iload_n (q := 25) dX8_judge_24 rfl rfl rfl ?_
          refine zx_aload_n (q := 26) dX8_judge_25 rfl rfl rfl ?_
          refine zy_getIe (q := 29) (v := nI ns) dX8_judge_26 fl_RX8_7 rfl rfl (hs2) rfl ?_
          refine zx_icmp_ge_t (t := 96) (q := 32) dX8_judge_29 (by decide) rfl (by rw [h5]; decide) ?_
          refine zx_bipush (q := 98) (v := (-5)) dX8_judge_96 (by decide) rfl ?_
          refine zx_iret dX8_judge_98 rfl (Nat.le_refl _) (Nat.le_refl _) ⟨_, rfl, ?_⟩
          exact ⟨rfl, _, _, _, rfl, hR⟩
        · show zW l D tc A mX7_judge (d + 3) 0 0 0 0 0 [some (.ref 0), some (.int (nI t)), some (.int b), none, none] [] (zs gi gl f) _
          refine zx_iload_n (q := 1) dX7_judge_0 rfl rfl rfl ?_
          refine zx_callS1i (q := 4) (y' := mX7_isTape) dX7_judge_1 ml_RX7_236 ok_mX7_isTape (Nat.le_of_ble_eq_true rfl) (Nat.le_of_ble_eq_true rfl) (Nat.le_refl _) (Nat.le_refl _) rfl (t_X7_isTape _ _) ?_
          rintro _ _ ⟨rfl, rfl⟩
          refine zx_if_ne_t (t := 9) (q := 7) dX7_judge_4 (by decide) rfl (zk_t h1) ?_
          refine zx_aload_n (q := 10) dX7_judge_9 rfl rfl rfl ?_
          refine zy_getR (q := 13) dX7_judge_10 fl_RX7_68 rfl rfl rfl rfl ?_
          refine zx_iload_n (q := 14) dX7_judge_13 rfl rfl rfl ?_
          refine zy_aaldN (q := 15) dX7_judge_14 rfl (by decide) (by omega) (by decide) (zr_65 (by omega)).1 rfl ?_
          refine zx_astore3 (q := 16) dX7_judge_15 rfl rfl ?_
          refine zx_aload_n (q := 17) dX7_judge_16 rfl rfl rfl ?_
          refine zx_callV0i (q := 20) (y' := mX6_isEmpty) dX7_judge_17 ml_RX7_239 ok_mX6_isEmpty (zr_65 (f := f) (by omega)).2.1 (by decide) rfl (Nat.le_of_ble_eq_true rfl) (Nat.le_of_ble_eq_true rfl) (Nat.le_refl _) (Nat.le_refl _) rfl (t_X6_isEmpty _ t (by omega)) ?_
          rintro _ _ ⟨rfl, rfl⟩
          refine zx_if_ne_t (t := 33) (q := 23) dX7_judge_20 (by decide) rfl (zk_t (by rw [hso, h3]; decide)) ?_
          refine zx_iconst (q := 34) (v := 0) dX7_judge_33 (by decide) rfl ?_
          refine zx_istore4 (q := 36) dX7_judge_34 rfl rfl ?_
          refine zx_iload (q := 38) dX7_judge_36 rfl rfl ?_
          refine zx_aload_n (q := 39) dX7_judge_38 rfl rfl rfl ?_
          refine zy_getR (q := 42) dX7_judge_39 fl_RX7_12 rfl rfl rfl rfl ?_
          refine zy_getIe (q := 45) (v := nI ns) dX7_judge_42 fl_RX7_81 rfl rfl (hs1) rfl ?_
          refine zx_icmp_ge_f (t := 100) (q := 48) dX7_judge_45 (by decide) rfl (nI_ge (a := 0) (by omega) (by omega)) ?_
          refine zx_aload_n (q := 49) dX7_judge_48 rfl rfl rfl ?_
          refine zx_iload_n (q := 50) dX7_judge_49 rfl rfl rfl ?_
          refine zx_iload (q := 52) dX7_judge_50 rfl rfl ?_
          refine zx_iadd (q := 53) dX7_judge_52 rfl ?_
          refine zx_callV1i (q := 56) (y' := mX6_has) dX7_judge_53 ml_RX7_246 ok_mX6_has (zr_65 (f := f) (by omega)).2.1 (by decide) rfl (Nat.le_of_ble_eq_true rfl) (Nat.le_of_ble_eq_true rfl) (Nat.le_refl _) (Nat.le_refl _) rfl (t_X6_has _ t (by omega) _ hl1) ?_
          rintro _ _ ⟨rfl, rfl⟩
          refine zx_if_ne_f (t := 65) (q := 59) dX7_judge_56 (by decide) rfl (zk_f (by first | exact z_in_none | (rw [Int32.add_zero]; exact h4))) ?_
          refine zx_bipush (q := 61) (v := 100) dX7_judge_59 (by decide) rfl ?_
          refine zx_iload (q := 63) dX7_judge_61 rfl rfl ?_
          refine zx_iadd (q := 64) dX7_judge_63 rfl ?_
          refine zx_iret dX7_judge_64 rfl (Nat.le_refl _) (Nat.le_refl _) ⟨_, rfl, ?_⟩
          refine ⟨_, _, _, rfl, ?_⟩
          show zW l D tc A mX8_judge (d + 3) 0 0 0 0 0 [some (.ref 108), some (.int (nI t)), some (.int b), none] [] (zs _ _ _) _
          refine zx_aload_n (q := 1) dX8_judge_0 rfl rfl rfl ?_
          refine zx_iload_n (q := 2) dX8_judge_1 rfl rfl rfl ?_
          refine zx_callV1i (q := 5) (y' := mX8_isTape) dX8_judge_2 ml_RX8_342 ok_mX8_isTape rfl (by decide) rfl (Nat.le_of_ble_eq_true rfl) (Nat.le_of_ble_eq_true rfl) (Nat.le_refl _) (Nat.le_refl _) rfl (t_X8_isTape _ _) ?_
          rintro _ _ ⟨rfl, rfl⟩
          refine zx_if_ne_t (t := 10) (q := 8) dX8_judge_5 (by decide) rfl (zk_t h1) ?_
          refine zx_aload_n (q := 11) dX8_judge_10 rfl rfl rfl ?_
          refine zy_getR (q := 14) dX8_judge_11 fl_RX8_187 rfl rfl rfl rfl ?_
          refine zx_iload_n (q := 15) dX8_judge_14 rfl rfl rfl ?_
          refine zy_ialdN (q := 16) dX8_judge_15 rfl (by omega) (by first | decide | omega) rfl ?_
          refine zx_if_le_t (t := 22) (q := 19) dX8_judge_16 (by decide) rfl (by rw [h3]; decide) ?_
          refine zx_iconst (q := 23) (v := 0) dX8_judge_22 (by decide) rfl ?_
          refine zx_istore3 (q := 24) dX8_judge_23 rfl rfl ?_
          refine zx_iload_n (q := 25) dX8_judge_24 rfl rfl rfl ?_
          refine zx_aload_n (q := 26) dX8_judge_25 rfl rfl rfl ?_
          refine zy_getIe (q := 29) (v := nI ns) dX8_judge_26 fl_RX8_7 rfl rfl (hs2) rfl ?_
          refine zx_icmp_ge_f (t := 96) (q := 32) dX8_judge_29 (by decide) rfl (nI_ge (a := 0) (by omega) (by omega)) ?_
          refine zx_aload_n (q := 33) dX8_judge_32 rfl rfl rfl ?_
          refine zy_getR (q := 36) dX8_judge_33 fl_RX8_187 rfl rfl rfl rfl ?_
          refine zx_iload_n (q := 37) dX8_judge_36 rfl rfl rfl ?_
          refine zy_ialdN (q := 38) dX8_judge_37 rfl (by omega) (by first | decide | omega) rfl ?_
          refine zx_if_lt_t (t := 59) (q := 41) dX8_judge_38 (by decide) rfl (by rw [h3]; decide) ?_
          refine zx_bipush (q := 61) (v := 100) dX8_judge_59 (by decide) rfl ?_
          refine zx_iload_n (q := 62) dX8_judge_61 rfl rfl rfl ?_
          refine zx_iadd (q := 63) dX8_judge_62 rfl ?_
          refine zx_iret dX8_judge_63 rfl (Nat.le_refl _) (Nat.le_refl _) ⟨_, rfl, ?_⟩
          exact ⟨rfl, _, _, _, rfl, hR⟩
      · show zW l D tc A mX7_judge (d + 3) 0 0 0 0 0 [some (.ref 0), some (.int (nI t)), some (.int b), none, none] [] (zs gi gl f) _
        refine zx_iload_n (q := 1) dX7_judge_0 rfl rfl rfl ?_
        refine zx_callS1i (q := 4) (y' := mX7_isTape) dX7_judge_1 ml_RX7_236 ok_mX7_isTape (Nat.le_of_ble_eq_true rfl) (Nat.le_of_ble_eq_true rfl) (Nat.le_refl _) (Nat.le_refl _) rfl (t_X7_isTape _ _) ?_
        rintro _ _ ⟨rfl, rfl⟩
        refine zx_if_ne_t (t := 9) (q := 7) dX7_judge_4 (by decide) rfl (zk_t h1) ?_
        refine zx_aload_n (q := 10) dX7_judge_9 rfl rfl rfl ?_
        refine zy_getR (q := 13) dX7_judge_10 fl_RX7_68 rfl rfl rfl rfl ?_
        refine zx_iload_n (q := 14) dX7_judge_13 rfl rfl rfl ?_
        refine zy_aaldN (q := 15) dX7_judge_14 rfl (by decide) (by omega) (by decide) (zr_65 (by omega)).1 rfl ?_
        refine zx_astore3 (q := 16) dX7_judge_15 rfl rfl ?_
        refine zx_aload_n (q := 17) dX7_judge_16 rfl rfl rfl ?_
        refine zx_callV0i (q := 20) (y' := mX6_isEmpty) dX7_judge_17 ml_RX7_239 ok_mX6_isEmpty (zr_65 (f := f) (by omega)).2.1 (by decide) rfl (Nat.le_of_ble_eq_true rfl) (Nat.le_of_ble_eq_true rfl) (Nat.le_refl _) (Nat.le_refl _) rfl (t_X6_isEmpty _ t (by omega)) ?_
        rintro _ _ ⟨rfl, rfl⟩
        refine zx_if_ne_f (t := 33) (q := 23) dX7_judge_20 (by decide) rfl (zk_f (by rw [hso]; simp [h6])) ?_
        refine zx_aload_n (q := 24) dX7_judge_23 rfl rfl rfl ?_
        refine zy_getIe (q := 27) (v := gi 146 t) dX7_judge_24 fl_RX7_243 rfl (zr_65 (f := f) (by omega)).2.1 (hso) rfl ?_
        refine zx_if_eq_f (t := 33) (q := 30) dX7_judge_27 (by decide) rfl (h3) ?_
        refine zx_bipush (q := 32) (v := (-12)) dX7_judge_30 (by decide) rfl ?_
        refine zx_iret dX7_judge_32 rfl (Nat.le_refl _) (Nat.le_refl _) ⟨_, rfl, ?_⟩
        refine ⟨_, _, _, rfl, ?_⟩
        show zW l D tc A mX8_judge (d + 3) 0 0 0 0 0 [some (.ref 108), some (.int (nI t)), some (.int b), none] [] (zs _ _ _) _
        refine zx_aload_n (q := 1) dX8_judge_0 rfl rfl rfl ?_
        refine zx_iload_n (q := 2) dX8_judge_1 rfl rfl rfl ?_
        refine zx_callV1i (q := 5) (y' := mX8_isTape) dX8_judge_2 ml_RX8_342 ok_mX8_isTape rfl (by decide) rfl (Nat.le_of_ble_eq_true rfl) (Nat.le_of_ble_eq_true rfl) (Nat.le_refl _) (Nat.le_refl _) rfl (t_X8_isTape _ _) ?_
        rintro _ _ ⟨rfl, rfl⟩
        refine zx_if_ne_t (t := 10) (q := 8) dX8_judge_5 (by decide) rfl (zk_t h1) ?_
        refine zx_aload_n (q := 11) dX8_judge_10 rfl rfl rfl ?_
        refine zy_getR (q := 14) dX8_judge_11 fl_RX8_187 rfl rfl rfl rfl ?_
        refine zx_iload_n (q := 15) dX8_judge_14 rfl rfl rfl ?_
        refine zy_ialdN (q := 16) dX8_judge_15 rfl (by omega) (by first | decide | omega) rfl ?_
        refine zx_if_le_f (t := 22) (q := 19) dX8_judge_16 (by decide) rfl (by intro z; unfold z_rg at hsr; rw [Int32.le_iff_toInt_le] at z; rw [z_eqI] at h3; rw [z_eqI, z_m1] at h6; simp only [Int32.reduceToInt] at z h3; omega) ?_
        refine zx_bipush (q := 21) (v := (-12)) dX8_judge_19 (by decide) rfl ?_
        refine zx_iret dX8_judge_21 rfl (Nat.le_refl _) (Nat.le_refl _) ⟨_, rfl, ?_⟩
        exact ⟨rfl, _, _, _, rfl, hR⟩
  · show zW l D tc A mX7_judge (d + 3) 0 0 0 0 0 [some (.ref 0), some (.int a), some (.int b), none, none] [] (zs gi gl f) _
    refine zx_iload_n (q := 1) dX7_judge_0 rfl rfl rfl ?_
    refine zx_callS1i (q := 4) (y' := mX7_isTape) dX7_judge_1 ml_RX7_236 ok_mX7_isTape (Nat.le_of_ble_eq_true rfl) (Nat.le_of_ble_eq_true rfl) (Nat.le_refl _) (Nat.le_refl _) rfl (t_X7_isTape _ _) ?_
    rintro _ _ ⟨rfl, rfl⟩
    refine zx_if_ne_f (t := 9) (q := 7) dX7_judge_4 (by decide) rfl (zk_f h1) ?_
    refine zx_iconst (q := 8) (v := (-1)) dX7_judge_7 (by decide) rfl ?_
    refine zx_iret dX7_judge_8 rfl (Nat.le_refl _) (Nat.le_refl _) ⟨_, rfl, ?_⟩
    refine ⟨_, _, _, rfl, ?_⟩
    show zW l D tc A mX8_judge (d + 3) 0 0 0 0 0 [some (.ref 108), some (.int a), some (.int b), none] [] (zs _ _ _) _
    refine zx_aload_n (q := 1) dX8_judge_0 rfl rfl rfl ?_
    refine zx_iload_n (q := 2) dX8_judge_1 rfl rfl rfl ?_
    refine zx_callV1i (q := 5) (y' := mX8_isTape) dX8_judge_2 ml_RX8_342 ok_mX8_isTape rfl (by decide) rfl (Nat.le_of_ble_eq_true rfl) (Nat.le_of_ble_eq_true rfl) (Nat.le_refl _) (Nat.le_refl _) rfl (t_X8_isTape _ _) ?_
    rintro _ _ ⟨rfl, rfl⟩
    refine zx_if_ne_f (t := 10) (q := 8) dX8_judge_5 (by decide) rfl (zk_f h1) ?_
    refine zx_iconst (q := 9) (v := (-1)) dX8_judge_8 (by decide) rfl ?_
    refine zx_iret dX8_judge_9 rfl (Nat.le_refl _) (Nat.le_refl _) ⟨_, rfl, ?_⟩
    exact ⟨rfl, _, _, _, rfl, hR⟩
end P25
