section P28
variable {l : Launch} {D : va_G} {tc : Nat → ClassId} {A : Nat → Prop} {S : zw_S} {gi : Nat → Nat → Int32} {gl : Nat → Nat → Int64} {f : Option Nat} {Q : Option Value → zw_S → Prop}
theorem z_rel_act0 (h : zRel gi gl) : zRel (zw_u (zw_u gi 63 0 0) 108 56 0) gl := by
  refine zRel_acts h ?_ (fun k j a b => by rw [z_u_ne _ _ (by omega), z_u_ne _ _ (by omega)])
  obtain ⟨_, _, _, _, _, ⟨r, h0, h1, h2, h3⟩, _⟩ := h
  exact ⟨0, by omega, rfl, rfl, fun k hk => by rw [z_u_ne _ _ (by omega), z_u_ne _ _ (by omega), z_u_ne _ _ (by omega), z_u_ne _ _ (by omega)]; exact h3 k hk⟩
theorem z_rel_act (h : zRel gi gl) (L : List Int32) (hL : L.length ≤ 12) (K v N : Int32) : zRel (z_tr 108 56 145 (zw_u (z_tr 63 0 64 (zw_u (zw_u (zw_u (zw_u gi 63 0 0) 63 2 K) 63 4 v) 63 3 N) 0 L) 108 56 0) 0 L) gl := by
  refine zRel_acts h ?_ (fun k j a b => by rw [z_tr_ne (by omega) (by omega), z_u_ne _ _ (by omega), z_tr_ne (by omega) (by omega), z_u_ne _ _ (by omega), z_u_ne _ _ (by omega), z_u_ne _ _ (by omega), z_u_ne _ _ (by omega)])
  obtain ⟨_, _, _, _, _, ⟨r, h0, h1, h2, h3⟩, _⟩ := h
  refine ⟨L.length, by omega, ?_, ?_, fun k hk => ?_⟩
  · rw [z_tr_ne (by omega) (by omega), z_u_ne _ _ (by omega), z_tr_at L _ 0 rfl, Nat.zero_add]
  · rw [z_tr_at L _ 0 rfl, Nat.zero_add]
  · rw [z_tr_ne (by omega) (by omega), z_u_ne _ _ (by omega), z_tr_val (by omega), z_tr_val (by omega), z_u_ne _ _ (by omega), z_u_ne _ _ (by omega), z_u_ne _ _ (by omega), z_u_ne _ _ (by omega), z_u_ne _ _ (by omega), z_tr_ne (by omega) (by omega), z_u_ne _ _ (by omega), z_u_ne _ _ (by omega), z_u_ne _ _ (by omega), z_u_ne _ _ (by omega), h3 k hk]
theorem t_X0_forget (d : Nat) : zCall l D tc A mX0_forget d 0 0 [.ref 63] (zs gi gl f) (zQv fun S' => S' = zs (zw_u gi 63 0 0) gl f) := by
  show zW l D tc A mX0_forget d 0 0 0 0 0 [some (.ref 63)] [] (zs gi gl f) _
  refine zx_aload_n (q := 1) dX0_forget_0 rfl rfl rfl ?_
  refine zx_iconst (q := 2) (v := 0) dX0_forget_1 (by decide) rfl ?_
  refine zy_putI (q := 5) dX0_forget_2 fl_RX0_15 rfl rfl ⟨rfl, rfl⟩ rfl rfl ?_
  refine zx_vret dX0_forget_5 rfl (Nat.le_refl _) (Nat.le_refl _) ⟨rfl, ?_⟩
  rfl
theorem t_X0_start (d s k a : Nat) (v x : Int32) (hs : s < 5) (hk : k < 7) (ha : a < 3) (hk0 : gi (3 + s) 0 = nI k) (hv : gi (3 + s) 1 = v) (hz : gi 63 0 = nI 0) (hlen : (z_rn k (nI s) v 20 a k x).2.length ≤ 12) : zCall l D tc A mX0_start (d + 42) 0 0 [.ref 63, .ref (3 + s), .int (nI s), .int (nI a), .int x] (zs gi gl f) (zQi fun q S' => q = (z_rn k (nI s) v 20 a k x).1 ∧ S' = zs (z_tr 63 0 64 (zw_u (zw_u (zw_u gi 63 2 (nI k)) 63 4 v) 63 3 (nI s)) 0 (z_rn k (nI s) v 20 a k x).2) gl f) := by
  show zW l D tc A mX0_start (d + 42) 0 0 0 0 0 [some (.ref 63), some (.ref (3 + s)), some (.int (nI s)), some (.int (nI a)), some (.int x)] [] (zs gi gl f) _
  refine zx_aload_n (q := 1) dX0_start_0 rfl rfl rfl ?_
  refine zx_aload_n (q := 2) dX0_start_1 rfl rfl rfl ?_
  refine zx_iconst (q := 3) (v := 0) dX0_start_2 (by decide) rfl ?_
  refine zy_ialdN (i := 0) (q := 4) dX0_start_3 (zr_2 (f := f) hs).2 (by omega) (by first | decide | omega) rfl ?_
  rw [hk0]
  refine zy_putI (q := 7) dX0_start_4 fl_RX0_19 rfl rfl ⟨rfl, rfl⟩ rfl rfl ?_
  refine zx_aload_n (q := 8) dX0_start_7 rfl rfl rfl ?_
  refine zx_aload_n (q := 9) dX0_start_8 rfl rfl rfl ?_
  refine zx_iconst (q := 10) (v := 1) dX0_start_9 (by decide) rfl ?_
  refine zy_ialdN (i := 1) (q := 11) dX0_start_10 (zr_2 (f := f) hs).2 (by omega) (by first | decide | omega) rfl ?_
  rw [z_u_ne _ _ (by omega), hv]
  refine zy_putI (q := 14) dX0_start_11 fl_RX0_22 rfl rfl ⟨rfl, rfl⟩ rfl rfl ?_
  refine zx_aload_n (q := 15) dX0_start_14 rfl rfl rfl ?_
  refine zx_iload_n (q := 16) dX0_start_15 rfl rfl rfl ?_
  refine zy_putI (q := 19) dX0_start_16 fl_RX0_25 rfl rfl ⟨rfl, rfl⟩ rfl rfl ?_
  refine zx_aload_n (q := 20) dX0_start_19 rfl rfl rfl ?_
  refine zx_iload_n (q := 21) dX0_start_20 rfl rfl rfl ?_
  refine zx_aload_n (q := 22) dX0_start_21 rfl rfl rfl ?_
  refine zy_getIe (q := 25) (v := nI k) dX0_start_22 fl_RX0_19 rfl rfl (rfl) rfl ?_
  refine zx_iload (q := 27) dX0_start_25 rfl rfl ?_
  refine zx_iconst (q := 28) (v := 0) dX0_start_27 (by decide) rfl ?_
  refine zx_callV4i (q := 31) (y' := mX0_run) dX0_start_28 ml_RX0_28 ok_mX0_run rfl (by decide) rfl (Nat.le_of_ble_eq_true rfl) (Nat.le_of_ble_eq_true rfl) (Nat.le_refl _) (Nat.le_refl _) rfl (t_X0_run d k (nI s) v hk 20 a k x 0 _ ha hk rfl rfl rfl hz (by omega) (by omega)) ?_
  rintro _ _ ⟨rfl, rfl⟩
  refine zx_iret dX0_start_31 rfl (Nat.le_refl _) (Nat.le_refl _) ⟨_, rfl, ?_⟩
  exact ⟨rfl, rfl⟩
set_option maxHeartbeats 4000000 in
theorem op_act (d : Nat) (a : Int32) (b : Int32) (c : Int32) (hR : zRel gi gl) : zOpI l D tc A mX7_act mX8_act (d + 43) [.int a, .int b, .int c] gi gl f := by
  obtain ⟨nf, ⟨hf0, hf1, hf2⟩, ⟨ns, nb, mm, ⟨hns, hnb, hmm⟩, ⟨hs1, hs2⟩, ⟨hm1, hm2⟩, ⟨hb1, hb2⟩, ⟨hx1, hx2⟩, hSs, hSn, hSt, hSb⟩, ⟨him, hik⟩, ⟨len, hlen, ht1, ht2, ht3⟩, ⟨ra, hra, ha1, ha2, ha3⟩, hTP, ho, hF, hLt⟩ := id hR
  by_cases h1 : z_in a 0 (nI ns - 1) = true
  · obtain ⟨s, hs, rfl⟩ := z_inU hns h1
    by_cases h2 : z_in b 0 2 = true
    · obtain ⟨w, hw, rfl⟩ := z_inT 2 (by decide) h2
      have g := hSs s hs
      have g1 := g.1
      have g2 := g.2.1
      obtain ⟨kk, hkk, hkk2⟩ := z_rgN (n := 6) g1.2
      rcases (by omega : w = 0 ∨ w = 1 ∨ w = 2) with h4 | h4 | h4 <;> subst h4
      · show zW l D tc A mX7_act (d + 43) 0 0 0 0 0 [some (.ref 0), some (.int (nI s)), some (.int (nI 0)), some (.int c)] [] (zs gi gl f) _
        refine zx_aload_n (q := 1) dX7_act_0 rfl rfl rfl ?_
        refine zy_getR (q := 4) dX7_act_1 fl_RX7_62 rfl rfl rfl rfl ?_
        refine zx_callV0v (q := 7) (y' := mX0_forget) dX7_act_4 ml_RX7_261 ok_mX0_forget rfl (by decide) rfl (Nat.le_of_ble_eq_true rfl) (Nat.le_of_ble_eq_true rfl) (Nat.le_refl _) (Nat.le_refl _) rfl (t_X0_forget _) ?_
        rintro _ ⟨rfl⟩
        refine zx_aload_n (q := 8) dX7_act_7 rfl rfl rfl ?_
        refine zx_iload_n (q := 9) dX7_act_8 rfl rfl rfl ?_
        refine zx_callV1i (q := 12) (y' := mX7_isSort) dX7_act_9 ml_RX7_89 ok_mX7_isSort rfl (by decide) rfl (Nat.le_of_ble_eq_true rfl) (Nat.le_of_ble_eq_true rfl) (Nat.le_refl _) (Nat.le_refl _) rfl (t_X7_isSort _ _) ?_
        rintro _ _ ⟨rfl, rfl⟩
        refine zx_if_eq_f (t := 24) (q := 15) dX7_act_12 (by decide) rfl (zk_t (by show z_in (nI s) 0 (gi 1 0 - 1) = true; rw [hs1]; exact z_inS_at hns hs)) ?_
        refine zx_iload_n (q := 16) dX7_act_15 rfl rfl rfl ?_
        refine zx_iconst (q := 17) (v := 0) dX7_act_16 (by decide) rfl ?_
        refine zx_iconst (q := 18) (v := 2) dX7_act_17 (by decide) rfl ?_
        refine zx_callS3i (q := 21) (y' := mX7_within) dX7_act_18 ml_RX7_73 ok_mX7_within (Nat.le_of_ble_eq_true rfl) (Nat.le_of_ble_eq_true rfl) (Nat.le_refl _) (Nat.le_refl _) rfl (t_X7_within _ _ _ _) ?_
        rintro _ _ ⟨rfl, rfl⟩
        refine zx_if_ne_t (t := 26) (q := 24) dX7_act_21 (by decide) rfl (by decide) ?_
        refine zx_aload_n (q := 27) dX7_act_26 rfl rfl rfl ?_
        refine zy_getR (q := 30) dX7_act_27 fl_RX7_62 rfl rfl rfl rfl ?_
        refine zx_aload_n (q := 31) dX7_act_30 rfl rfl rfl ?_
        refine zy_getR (q := 34) dX7_act_31 fl_RX7_12 rfl rfl rfl rfl ?_
        refine zy_getR (q := 37) dX7_act_34 fl_RX7_85 rfl rfl rfl rfl ?_
        refine zx_iload_n (q := 38) dX7_act_37 rfl rfl rfl ?_
        refine zy_aaldN (q := 39) dX7_act_38 rfl (by decide) (by omega) (by decide) (zr_2 (by omega)).1 rfl ?_
        refine zx_iload_n (q := 40) dX7_act_39 rfl rfl rfl ?_
        refine zx_iload_n (q := 41) dX7_act_40 rfl rfl rfl ?_
        refine zx_iload_n (q := 42) dX7_act_41 rfl rfl rfl ?_
        refine zx_callV4i (q := 45) (y' := mX0_start) dX7_act_42 ml_RX7_264 ok_mX0_start rfl (by decide) rfl (Nat.le_of_ble_eq_true rfl) (Nat.le_of_ble_eq_true rfl) (Nat.le_refl _) (Nat.le_refl _) rfl (t_X0_start _ s kk 0 (gi 110 s) c (by omega) (by omega) (by omega) (by rw [z_u_ne _ _ (by omega)]; exact g1.1.trans hkk2) (by rw [z_u_ne _ _ (by omega)]; exact g2.1) rfl (by rw [z_rn_g kk (by omega)]; have := z_gA_len kk (nI s) (gi 110 s) c; omega)) ?_
        rintro _ _ ⟨rfl, rfl⟩
        refine zx_iret dX7_act_45 rfl (Nat.le_refl _) (Nat.le_refl _) ⟨_, rfl, ?_⟩
        refine ⟨_, _, _, rfl, ?_⟩
        show zW l D tc A mX8_act (d + 43) 0 0 0 0 0 [some (.ref 108), some (.int (nI s)), some (.int (nI 0)), some (.int c)] [] (zs _ _ _) _
        refine zx_aload_n (q := 1) dX8_act_0 rfl rfl rfl ?_
        refine zx_iconst (q := 2) (v := 0) dX8_act_1 (by decide) rfl ?_
        refine zy_putI (q := 5) dX8_act_2 fl_RX8_181 rfl rfl ⟨rfl, rfl⟩ rfl rfl ?_
        refine zx_aload_n (q := 6) dX8_act_5 rfl rfl rfl ?_
        refine zx_iload_n (q := 7) dX8_act_6 rfl rfl rfl ?_
        refine zx_callV1i (q := 10) (y' := mX8_isSort) dX8_act_7 ml_RX8_208 ok_mX8_isSort rfl (by decide) rfl (Nat.le_of_ble_eq_true rfl) (Nat.le_of_ble_eq_true rfl) (Nat.le_refl _) (Nat.le_refl _) rfl (t_X8_isSort _ _) ?_
        rintro _ _ ⟨rfl, rfl⟩
        refine zx_if_eq_f (t := 23) (q := 13) dX8_act_10 (by decide) rfl (zk_t (by rw [z_u_ne _ _ (by omega), z_tr_ne (by omega) (by omega), z_u_ne _ _ (by omega), z_u_ne _ _ (by omega), z_u_ne _ _ (by omega), z_u_ne _ _ (by omega), hs2]; exact z_inS_at hns hs)) ?_
        refine zx_aload_n (q := 14) dX8_act_13 rfl rfl rfl ?_
        refine zx_iload_n (q := 15) dX8_act_14 rfl rfl rfl ?_
        refine zx_iconst (q := 16) (v := 0) dX8_act_15 (by decide) rfl ?_
        refine zx_iconst (q := 17) (v := 2) dX8_act_16 (by decide) rfl ?_
        refine zx_callV3i (q := 20) (y' := mX8_in) dX8_act_17 ml_RX8_200 ok_mX8_in rfl (by decide) rfl (Nat.le_of_ble_eq_true rfl) (Nat.le_of_ble_eq_true rfl) (Nat.le_refl _) (Nat.le_refl _) rfl (t_X8_in _ _ _ _ _) ?_
        rintro _ _ ⟨rfl, rfl⟩
        refine zx_if_ne_t (t := 25) (q := 23) dX8_act_20 (by decide) rfl (by decide) ?_
        refine zx_iload_n (q := 26) dX8_act_25 rfl rfl rfl ?_
        refine zx_if_ne_f (t := 38) (q := 29) dX8_act_26 (by decide) rfl (rfl) ?_
        refine zx_aload_n (q := 30) dX8_act_29 rfl rfl rfl ?_
        refine zx_iload_n (q := 31) dX8_act_30 rfl rfl rfl ?_
        refine zx_iload_n (q := 32) dX8_act_31 rfl rfl rfl ?_
        refine zx_callV2i (q := 35) (y' := mX8_goesAct) dX8_act_32 ml_RX8_351 ok_mX8_goesAct rfl (by decide) rfl (Nat.le_of_ble_eq_true rfl) (Nat.le_of_ble_eq_true rfl) (Nat.le_refl _) (Nat.le_refl _) rfl (t_X8_goesAct _ s kk 0 (gi 110 s) c (by omega) (by omega) (by rw [z_u_ne _ _ (by omega), z_tr_ne (by omega) (by omega), z_u_ne _ _ (by omega), z_u_ne _ _ (by omega), z_u_ne _ _ (by omega), z_u_ne _ _ (by omega), hkk2]) (by rw [z_u_ne _ _ (by omega), z_tr_ne (by omega) (by omega), z_u_ne _ _ (by omega), z_u_ne _ _ (by omega), z_u_ne _ _ (by omega), z_u_ne _ _ (by omega)]) rfl (by omega)) ?_
        rintro _ _ ⟨rfl, rfl⟩
        refine zx_goto (t := 58) dX8_act_35 (by decide) ?_
        refine zx_iret dX8_act_58 rfl (Nat.le_refl _) (Nat.le_refl _) ⟨_, rfl, ?_⟩
        exact ⟨by rw [z_rn_g kk (by omega)], _, _, _, rfl, by rw [z_rn_g kk (by omega)]; exact z_rel_act hR _ (by have := z_gA_len kk (nI s) (gi 110 s) c; omega) _ _ _⟩
      · show zW l D tc A mX7_act (d + 43) 0 0 0 0 0 [some (.ref 0), some (.int (nI s)), some (.int (nI 1)), some (.int c)] [] (zs gi gl f) _
        refine zx_aload_n (q := 1) dX7_act_0 rfl rfl rfl ?_
        refine zy_getR (q := 4) dX7_act_1 fl_RX7_62 rfl rfl rfl rfl ?_
        refine zx_callV0v (q := 7) (y' := mX0_forget) dX7_act_4 ml_RX7_261 ok_mX0_forget rfl (by decide) rfl (Nat.le_of_ble_eq_true rfl) (Nat.le_of_ble_eq_true rfl) (Nat.le_refl _) (Nat.le_refl _) rfl (t_X0_forget _) ?_
        rintro _ ⟨rfl⟩
        refine zx_aload_n (q := 8) dX7_act_7 rfl rfl rfl ?_
        refine zx_iload_n (q := 9) dX7_act_8 rfl rfl rfl ?_
        refine zx_callV1i (q := 12) (y' := mX7_isSort) dX7_act_9 ml_RX7_89 ok_mX7_isSort rfl (by decide) rfl (Nat.le_of_ble_eq_true rfl) (Nat.le_of_ble_eq_true rfl) (Nat.le_refl _) (Nat.le_refl _) rfl (t_X7_isSort _ _) ?_
        rintro _ _ ⟨rfl, rfl⟩
        refine zx_if_eq_f (t := 24) (q := 15) dX7_act_12 (by decide) rfl (zk_t (by show z_in (nI s) 0 (gi 1 0 - 1) = true; rw [hs1]; exact z_inS_at hns hs)) ?_
        refine zx_iload_n (q := 16) dX7_act_15 rfl rfl rfl ?_
        refine zx_iconst (q := 17) (v := 0) dX7_act_16 (by decide) rfl ?_
        refine zx_iconst (q := 18) (v := 2) dX7_act_17 (by decide) rfl ?_
        refine zx_callS3i (q := 21) (y' := mX7_within) dX7_act_18 ml_RX7_73 ok_mX7_within (Nat.le_of_ble_eq_true rfl) (Nat.le_of_ble_eq_true rfl) (Nat.le_refl _) (Nat.le_refl _) rfl (t_X7_within _ _ _ _) ?_
        rintro _ _ ⟨rfl, rfl⟩
        refine zx_if_ne_t (t := 26) (q := 24) dX7_act_21 (by decide) rfl (by decide) ?_
        refine zx_aload_n (q := 27) dX7_act_26 rfl rfl rfl ?_
        refine zy_getR (q := 30) dX7_act_27 fl_RX7_62 rfl rfl rfl rfl ?_
        refine zx_aload_n (q := 31) dX7_act_30 rfl rfl rfl ?_
        refine zy_getR (q := 34) dX7_act_31 fl_RX7_12 rfl rfl rfl rfl ?_
        refine zy_getR (q := 37) dX7_act_34 fl_RX7_85 rfl rfl rfl rfl ?_
        refine zx_iload_n (q := 38) dX7_act_37 rfl rfl rfl ?_
        refine zy_aaldN (q := 39) dX7_act_38 rfl (by decide) (by omega) (by decide) (zr_2 (by omega)).1 rfl ?_
        refine zx_iload_n (q := 40) dX7_act_39 rfl rfl rfl ?_
        refine zx_iload_n (q := 41) dX7_act_40 rfl rfl rfl ?_
        refine zx_iload_n (q := 42) dX7_act_41 rfl rfl rfl ?_
        refine zx_callV4i (q := 45) (y' := mX0_start) dX7_act_42 ml_RX7_264 ok_mX0_start rfl (by decide) rfl (Nat.le_of_ble_eq_true rfl) (Nat.le_of_ble_eq_true rfl) (Nat.le_refl _) (Nat.le_refl _) rfl (t_X0_start _ s kk 1 (gi 110 s) c (by omega) (by omega) (by omega) (by rw [z_u_ne _ _ (by omega)]; exact g1.1.trans hkk2) (by rw [z_u_ne _ _ (by omega)]; exact g2.1) rfl (by rw [z_rn_s kk (by omega)]; have := z_sA_len kk (nI s) (gi 110 s) c; omega)) ?_
        rintro _ _ ⟨rfl, rfl⟩
        refine zx_iret dX7_act_45 rfl (Nat.le_refl _) (Nat.le_refl _) ⟨_, rfl, ?_⟩
        refine ⟨_, _, _, rfl, ?_⟩
        show zW l D tc A mX8_act (d + 43) 0 0 0 0 0 [some (.ref 108), some (.int (nI s)), some (.int (nI 1)), some (.int c)] [] (zs _ _ _) _
        refine zx_aload_n (q := 1) dX8_act_0 rfl rfl rfl ?_
        refine zx_iconst (q := 2) (v := 0) dX8_act_1 (by decide) rfl ?_
        refine zy_putI (q := 5) dX8_act_2 fl_RX8_181 rfl rfl ⟨rfl, rfl⟩ rfl rfl ?_
        refine zx_aload_n (q := 6) dX8_act_5 rfl rfl rfl ?_
        refine zx_iload_n (q := 7) dX8_act_6 rfl rfl rfl ?_
        refine zx_callV1i (q := 10) (y' := mX8_isSort) dX8_act_7 ml_RX8_208 ok_mX8_isSort rfl (by decide) rfl (Nat.le_of_ble_eq_true rfl) (Nat.le_of_ble_eq_true rfl) (Nat.le_refl _) (Nat.le_refl _) rfl (t_X8_isSort _ _) ?_
        rintro _ _ ⟨rfl, rfl⟩
        refine zx_if_eq_f (t := 23) (q := 13) dX8_act_10 (by decide) rfl (zk_t (by rw [z_u_ne _ _ (by omega), z_tr_ne (by omega) (by omega), z_u_ne _ _ (by omega), z_u_ne _ _ (by omega), z_u_ne _ _ (by omega), z_u_ne _ _ (by omega), hs2]; exact z_inS_at hns hs)) ?_
        refine zx_aload_n (q := 14) dX8_act_13 rfl rfl rfl ?_
        refine zx_iload_n (q := 15) dX8_act_14 rfl rfl rfl ?_
        refine zx_iconst (q := 16) (v := 0) dX8_act_15 (by decide) rfl ?_
        refine zx_iconst (q := 17) (v := 2) dX8_act_16 (by decide) rfl ?_
        refine zx_callV3i (q := 20) (y' := mX8_in) dX8_act_17 ml_RX8_200 ok_mX8_in rfl (by decide) rfl (Nat.le_of_ble_eq_true rfl) (Nat.le_of_ble_eq_true rfl) (Nat.le_refl _) (Nat.le_refl _) rfl (t_X8_in _ _ _ _ _) ?_
        rintro _ _ ⟨rfl, rfl⟩
        refine zx_if_ne_t (t := 25) (q := 23) dX8_act_20 (by decide) rfl (by decide) ?_
        refine zx_iload_n (q := 26) dX8_act_25 rfl rfl rfl ?_
        refine zx_if_ne_t (t := 38) (q := 29) dX8_act_26 (by decide) rfl (by decide) ?_
        refine zx_iload_n (q := 39) dX8_act_38 rfl rfl rfl ?_
        refine zx_iconst (q := 40) (v := 1) dX8_act_39 (by decide) rfl ?_
        refine zx_icmp_ne_f (t := 52) (q := 43) dX8_act_40 (by decide) rfl (rfl) ?_
        refine zx_aload_n (q := 44) dX8_act_43 rfl rfl rfl ?_
        refine zx_iload_n (q := 45) dX8_act_44 rfl rfl rfl ?_
        refine zx_iload_n (q := 46) dX8_act_45 rfl rfl rfl ?_
        refine zx_callV2i (q := 49) (y' := mX8_showsAct) dX8_act_46 ml_RX8_360 ok_mX8_showsAct rfl (by decide) rfl (Nat.le_of_ble_eq_true rfl) (Nat.le_of_ble_eq_true rfl) (Nat.le_refl _) (Nat.le_refl _) rfl (t_X8_showsAct _ s kk 0 (gi 110 s) c (by omega) (by omega) (by rw [z_u_ne _ _ (by omega), z_tr_ne (by omega) (by omega), z_u_ne _ _ (by omega), z_u_ne _ _ (by omega), z_u_ne _ _ (by omega), z_u_ne _ _ (by omega), hkk2]) (by rw [z_u_ne _ _ (by omega), z_tr_ne (by omega) (by omega), z_u_ne _ _ (by omega), z_u_ne _ _ (by omega), z_u_ne _ _ (by omega), z_u_ne _ _ (by omega)]) rfl (by omega)) ?_
        rintro _ _ ⟨rfl, rfl⟩
        refine zx_goto (t := 58) dX8_act_49 (by decide) ?_
        refine zx_iret dX8_act_58 rfl (Nat.le_refl _) (Nat.le_refl _) ⟨_, rfl, ?_⟩
        exact ⟨by rw [z_rn_s kk (by omega)], _, _, _, rfl, by rw [z_rn_s kk (by omega)]; exact z_rel_act hR _ (by have := z_sA_len kk (nI s) (gi 110 s) c; omega) _ _ _⟩
      · show zW l D tc A mX7_act (d + 43) 0 0 0 0 0 [some (.ref 0), some (.int (nI s)), some (.int (nI 2)), some (.int c)] [] (zs gi gl f) _
        refine zx_aload_n (q := 1) dX7_act_0 rfl rfl rfl ?_
        refine zy_getR (q := 4) dX7_act_1 fl_RX7_62 rfl rfl rfl rfl ?_
        refine zx_callV0v (q := 7) (y' := mX0_forget) dX7_act_4 ml_RX7_261 ok_mX0_forget rfl (by decide) rfl (Nat.le_of_ble_eq_true rfl) (Nat.le_of_ble_eq_true rfl) (Nat.le_refl _) (Nat.le_refl _) rfl (t_X0_forget _) ?_
        rintro _ ⟨rfl⟩
        refine zx_aload_n (q := 8) dX7_act_7 rfl rfl rfl ?_
        refine zx_iload_n (q := 9) dX7_act_8 rfl rfl rfl ?_
        refine zx_callV1i (q := 12) (y' := mX7_isSort) dX7_act_9 ml_RX7_89 ok_mX7_isSort rfl (by decide) rfl (Nat.le_of_ble_eq_true rfl) (Nat.le_of_ble_eq_true rfl) (Nat.le_refl _) (Nat.le_refl _) rfl (t_X7_isSort _ _) ?_
        rintro _ _ ⟨rfl, rfl⟩
        refine zx_if_eq_f (t := 24) (q := 15) dX7_act_12 (by decide) rfl (zk_t (by show z_in (nI s) 0 (gi 1 0 - 1) = true; rw [hs1]; exact z_inS_at hns hs)) ?_
        refine zx_iload_n (q := 16) dX7_act_15 rfl rfl rfl ?_
        refine zx_iconst (q := 17) (v := 0) dX7_act_16 (by decide) rfl ?_
        refine zx_iconst (q := 18) (v := 2) dX7_act_17 (by decide) rfl ?_
        refine zx_callS3i (q := 21) (y' := mX7_within) dX7_act_18 ml_RX7_73 ok_mX7_within (Nat.le_of_ble_eq_true rfl) (Nat.le_of_ble_eq_true rfl) (Nat.le_refl _) (Nat.le_refl _) rfl (t_X7_within _ _ _ _) ?_
        rintro _ _ ⟨rfl, rfl⟩
        refine zx_if_ne_t (t := 26) (q := 24) dX7_act_21 (by decide) rfl (by decide) ?_
        refine zx_aload_n (q := 27) dX7_act_26 rfl rfl rfl ?_
        refine zy_getR (q := 30) dX7_act_27 fl_RX7_62 rfl rfl rfl rfl ?_
        refine zx_aload_n (q := 31) dX7_act_30 rfl rfl rfl ?_
        refine zy_getR (q := 34) dX7_act_31 fl_RX7_12 rfl rfl rfl rfl ?_
        refine zy_getR (q := 37) dX7_act_34 fl_RX7_85 rfl rfl rfl rfl ?_
        refine zx_iload_n (q := 38) dX7_act_37 rfl rfl rfl ?_
        refine zy_aaldN (q := 39) dX7_act_38 rfl (by decide) (by omega) (by decide) (zr_2 (by omega)).1 rfl ?_
        refine zx_iload_n (q := 40) dX7_act_39 rfl rfl rfl ?_
        refine zx_iload_n (q := 41) dX7_act_40 rfl rfl rfl ?_
        refine zx_iload_n (q := 42) dX7_act_41 rfl rfl rfl ?_
        refine zx_callV4i (q := 45) (y' := mX0_start) dX7_act_42 ml_RX7_264 ok_mX0_start rfl (by decide) rfl (Nat.le_of_ble_eq_true rfl) (Nat.le_of_ble_eq_true rfl) (Nat.le_refl _) (Nat.le_refl _) rfl (t_X0_start _ s kk 2 (gi 110 s) c (by omega) (by omega) (by omega) (by rw [z_u_ne _ _ (by omega)]; exact g1.1.trans hkk2) (by rw [z_u_ne _ _ (by omega)]; exact g2.1) rfl (by rw [z_rn_t kk (by omega)]; have := z_tA_len kk (nI s) (gi 110 s) c; omega)) ?_
        rintro _ _ ⟨rfl, rfl⟩
        refine zx_iret dX7_act_45 rfl (Nat.le_refl _) (Nat.le_refl _) ⟨_, rfl, ?_⟩
        refine ⟨_, _, _, rfl, ?_⟩
        show zW l D tc A mX8_act (d + 43) 0 0 0 0 0 [some (.ref 108), some (.int (nI s)), some (.int (nI 2)), some (.int c)] [] (zs _ _ _) _
        refine zx_aload_n (q := 1) dX8_act_0 rfl rfl rfl ?_
        refine zx_iconst (q := 2) (v := 0) dX8_act_1 (by decide) rfl ?_
        refine zy_putI (q := 5) dX8_act_2 fl_RX8_181 rfl rfl ⟨rfl, rfl⟩ rfl rfl ?_
        refine zx_aload_n (q := 6) dX8_act_5 rfl rfl rfl ?_
        refine zx_iload_n (q := 7) dX8_act_6 rfl rfl rfl ?_
        refine zx_callV1i (q := 10) (y' := mX8_isSort) dX8_act_7 ml_RX8_208 ok_mX8_isSort rfl (by decide) rfl (Nat.le_of_ble_eq_true rfl) (Nat.le_of_ble_eq_true rfl) (Nat.le_refl _) (Nat.le_refl _) rfl (t_X8_isSort _ _) ?_
        rintro _ _ ⟨rfl, rfl⟩
        refine zx_if_eq_f (t := 23) (q := 13) dX8_act_10 (by decide) rfl (zk_t (by rw [z_u_ne _ _ (by omega), z_tr_ne (by omega) (by omega), z_u_ne _ _ (by omega), z_u_ne _ _ (by omega), z_u_ne _ _ (by omega), z_u_ne _ _ (by omega), hs2]; exact z_inS_at hns hs)) ?_
        refine zx_aload_n (q := 14) dX8_act_13 rfl rfl rfl ?_
        refine zx_iload_n (q := 15) dX8_act_14 rfl rfl rfl ?_
        refine zx_iconst (q := 16) (v := 0) dX8_act_15 (by decide) rfl ?_
        refine zx_iconst (q := 17) (v := 2) dX8_act_16 (by decide) rfl ?_
        refine zx_callV3i (q := 20) (y' := mX8_in) dX8_act_17 ml_RX8_200 ok_mX8_in rfl (by decide) rfl (Nat.le_of_ble_eq_true rfl) (Nat.le_of_ble_eq_true rfl) (Nat.le_refl _) (Nat.le_refl _) rfl (t_X8_in _ _ _ _ _) ?_
        rintro _ _ ⟨rfl, rfl⟩
        refine zx_if_ne_t (t := 25) (q := 23) dX8_act_20 (by decide) rfl (by decide) ?_
        refine zx_iload_n (q := 26) dX8_act_25 rfl rfl rfl ?_
        refine zx_if_ne_t (t := 38) (q := 29) dX8_act_26 (by decide) rfl (by decide) ?_
        refine zx_iload_n (q := 39) dX8_act_38 rfl rfl rfl ?_
        refine zx_iconst (q := 40) (v := 1) dX8_act_39 (by decide) rfl ?_
        refine zx_icmp_ne_t (t := 52) (q := 43) dX8_act_40 (by decide) rfl (by decide) ?_
        refine zx_aload_n (q := 53) dX8_act_52 rfl rfl rfl ?_
        refine zx_iload_n (q := 54) dX8_act_53 rfl rfl rfl ?_
        refine zx_iload_n (q := 55) dX8_act_54 rfl rfl rfl ?_
        refine zx_callV2i (q := 58) (y' := mX8_tellsAct) dX8_act_55 ml_RX8_366 ok_mX8_tellsAct rfl (by decide) rfl (Nat.le_of_ble_eq_true rfl) (Nat.le_of_ble_eq_true rfl) (Nat.le_refl _) (Nat.le_refl _) rfl (t_X8_tellsAct _ s kk 0 (gi 110 s) c (by omega) (by omega) (by rw [z_u_ne _ _ (by omega), z_tr_ne (by omega) (by omega), z_u_ne _ _ (by omega), z_u_ne _ _ (by omega), z_u_ne _ _ (by omega), z_u_ne _ _ (by omega), hkk2]) (by rw [z_u_ne _ _ (by omega), z_tr_ne (by omega) (by omega), z_u_ne _ _ (by omega), z_u_ne _ _ (by omega), z_u_ne _ _ (by omega), z_u_ne _ _ (by omega)]) rfl (by omega)) ?_
        rintro _ _ ⟨rfl, rfl⟩
        refine zx_iret dX8_act_58 rfl (Nat.le_refl _) (Nat.le_refl _) ⟨_, rfl, ?_⟩
        exact ⟨by rw [z_rn_t kk (by omega)], _, _, _, rfl, by rw [z_rn_t kk (by omega)]; exact z_rel_act hR _ (by have := z_tA_len kk (nI s) (gi 110 s) c; omega) _ _ _⟩
    · show zW l D tc A mX7_act (d + 43) 0 0 0 0 0 [some (.ref 0), some (.int (nI s)), some (.int b), some (.int c)] [] (zs gi gl f) _
      refine zx_aload_n (q := 1) dX7_act_0 rfl rfl rfl ?_
      refine zy_getR (q := 4) dX7_act_1 fl_RX7_62 rfl rfl rfl rfl ?_
      refine zx_callV0v (q := 7) (y' := mX0_forget) dX7_act_4 ml_RX7_261 ok_mX0_forget rfl (by decide) rfl (Nat.le_of_ble_eq_true rfl) (Nat.le_of_ble_eq_true rfl) (Nat.le_refl _) (Nat.le_refl _) rfl (t_X0_forget _) ?_
      rintro _ ⟨rfl⟩
      refine zx_aload_n (q := 8) dX7_act_7 rfl rfl rfl ?_
      refine zx_iload_n (q := 9) dX7_act_8 rfl rfl rfl ?_
      refine zx_callV1i (q := 12) (y' := mX7_isSort) dX7_act_9 ml_RX7_89 ok_mX7_isSort rfl (by decide) rfl (Nat.le_of_ble_eq_true rfl) (Nat.le_of_ble_eq_true rfl) (Nat.le_refl _) (Nat.le_refl _) rfl (t_X7_isSort _ _) ?_
      rintro _ _ ⟨rfl, rfl⟩
      refine zx_if_eq_f (t := 24) (q := 15) dX7_act_12 (by decide) rfl (zk_t (by show z_in (nI s) 0 (gi 1 0 - 1) = true; rw [hs1]; exact z_inS_at hns hs)) ?_
      refine zx_iload_n (q := 16) dX7_act_15 rfl rfl rfl ?_
      refine zx_iconst (q := 17) (v := 0) dX7_act_16 (by decide) rfl ?_
      refine zx_iconst (q := 18) (v := 2) dX7_act_17 (by decide) rfl ?_
      refine zx_callS3i (q := 21) (y' := mX7_within) dX7_act_18 ml_RX7_73 ok_mX7_within (Nat.le_of_ble_eq_true rfl) (Nat.le_of_ble_eq_true rfl) (Nat.le_refl _) (Nat.le_refl _) rfl (t_X7_within _ _ _ _) ?_
      rintro _ _ ⟨rfl, rfl⟩
      refine zx_if_ne_f (t := 26) (q := 24) dX7_act_21 (by decide) rfl (zk_f h2) ?_
      refine zx_iconst (q := 25) (v := 0) dX7_act_24 (by decide) rfl ?_
      refine zx_iret dX7_act_25 rfl (Nat.le_refl _) (Nat.le_refl _) ⟨_, rfl, ?_⟩
      refine ⟨_, _, _, rfl, ?_⟩
      show zW l D tc A mX8_act (d + 43) 0 0 0 0 0 [some (.ref 108), some (.int (nI s)), some (.int b), some (.int c)] [] (zs _ _ _) _
      refine zx_aload_n (q := 1) dX8_act_0 rfl rfl rfl ?_
      refine zx_iconst (q := 2) (v := 0) dX8_act_1 (by decide) rfl ?_
      refine zy_putI (q := 5) dX8_act_2 fl_RX8_181 rfl rfl ⟨rfl, rfl⟩ rfl rfl ?_
      refine zx_aload_n (q := 6) dX8_act_5 rfl rfl rfl ?_
      refine zx_iload_n (q := 7) dX8_act_6 rfl rfl rfl ?_
      refine zx_callV1i (q := 10) (y' := mX8_isSort) dX8_act_7 ml_RX8_208 ok_mX8_isSort rfl (by decide) rfl (Nat.le_of_ble_eq_true rfl) (Nat.le_of_ble_eq_true rfl) (Nat.le_refl _) (Nat.le_refl _) rfl (t_X8_isSort _ _) ?_
      rintro _ _ ⟨rfl, rfl⟩
      refine zx_if_eq_f (t := 23) (q := 13) dX8_act_10 (by decide) rfl (zk_t (by show z_in (nI s) 0 (gi 108 0 - 1) = true; rw [hs2]; exact z_inS_at hns hs)) ?_
      refine zx_aload_n (q := 14) dX8_act_13 rfl rfl rfl ?_
      refine zx_iload_n (q := 15) dX8_act_14 rfl rfl rfl ?_
      refine zx_iconst (q := 16) (v := 0) dX8_act_15 (by decide) rfl ?_
      refine zx_iconst (q := 17) (v := 2) dX8_act_16 (by decide) rfl ?_
      refine zx_callV3i (q := 20) (y' := mX8_in) dX8_act_17 ml_RX8_200 ok_mX8_in rfl (by decide) rfl (Nat.le_of_ble_eq_true rfl) (Nat.le_of_ble_eq_true rfl) (Nat.le_refl _) (Nat.le_refl _) rfl (t_X8_in _ _ _ _ _) ?_
      rintro _ _ ⟨rfl, rfl⟩
      refine zx_if_ne_f (t := 25) (q := 23) dX8_act_20 (by decide) rfl (zk_f h2) ?_
      refine zx_iconst (q := 24) (v := 0) dX8_act_23 (by decide) rfl ?_
      refine zx_iret dX8_act_24 rfl (Nat.le_refl _) (Nat.le_refl _) ⟨_, rfl, ?_⟩
      exact ⟨rfl, _, _, _, rfl, z_rel_act0 hR⟩
  · show zW l D tc A mX7_act (d + 43) 0 0 0 0 0 [some (.ref 0), some (.int a), some (.int b), some (.int c)] [] (zs gi gl f) _
    refine zx_aload_n (q := 1) dX7_act_0 rfl rfl rfl ?_
    refine zy_getR (q := 4) dX7_act_1 fl_RX7_62 rfl rfl rfl rfl ?_
    refine zx_callV0v (q := 7) (y' := mX0_forget) dX7_act_4 ml_RX7_261 ok_mX0_forget rfl (by decide) rfl (Nat.le_of_ble_eq_true rfl) (Nat.le_of_ble_eq_true rfl) (Nat.le_refl _) (Nat.le_refl _) rfl (t_X0_forget _) ?_
    rintro _ ⟨rfl⟩
    refine zx_aload_n (q := 8) dX7_act_7 rfl rfl rfl ?_
    refine zx_iload_n (q := 9) dX7_act_8 rfl rfl rfl ?_
    refine zx_callV1i (q := 12) (y' := mX7_isSort) dX7_act_9 ml_RX7_89 ok_mX7_isSort rfl (by decide) rfl (Nat.le_of_ble_eq_true rfl) (Nat.le_of_ble_eq_true rfl) (Nat.le_refl _) (Nat.le_refl _) rfl (t_X7_isSort _ _) ?_
    rintro _ _ ⟨rfl, rfl⟩
    refine zx_if_eq_t (t := 24) (q := 15) dX7_act_12 (by decide) rfl (zk_f (by show ¬ z_in a 0 (gi 1 0 - 1) = true; rw [hs1]; exact h1)) ?_
    refine zx_iconst (q := 25) (v := 0) dX7_act_24 (by decide) rfl ?_
    refine zx_iret dX7_act_25 rfl (Nat.le_refl _) (Nat.le_refl _) ⟨_, rfl, ?_⟩
    refine ⟨_, _, _, rfl, ?_⟩
    show zW l D tc A mX8_act (d + 43) 0 0 0 0 0 [some (.ref 108), some (.int a), some (.int b), some (.int c)] [] (zs _ _ _) _
    refine zx_aload_n (q := 1) dX8_act_0 rfl rfl rfl ?_
    refine zx_iconst (q := 2) (v := 0) dX8_act_1 (by decide) rfl ?_
    refine zy_putI (q := 5) dX8_act_2 fl_RX8_181 rfl rfl ⟨rfl, rfl⟩ rfl rfl ?_
    refine zx_aload_n (q := 6) dX8_act_5 rfl rfl rfl ?_
    refine zx_iload_n (q := 7) dX8_act_6 rfl rfl rfl ?_
    refine zx_callV1i (q := 10) (y' := mX8_isSort) dX8_act_7 ml_RX8_208 ok_mX8_isSort rfl (by decide) rfl (Nat.le_of_ble_eq_true rfl) (Nat.le_of_ble_eq_true rfl) (Nat.le_refl _) (Nat.le_refl _) rfl (t_X8_isSort _ _) ?_
    rintro _ _ ⟨rfl, rfl⟩
    refine zx_if_eq_t (t := 23) (q := 13) dX8_act_10 (by decide) rfl (zk_f (by show ¬ z_in a 0 (gi 108 0 - 1) = true; rw [hs2]; exact h1)) ?_
    refine zx_iconst (q := 24) (v := 0) dX8_act_23 (by decide) rfl ?_
    refine zx_iret dX8_act_24 rfl (Nat.le_refl _) (Nat.le_refl _) ⟨_, rfl, ?_⟩
    exact ⟨rfl, _, _, _, rfl, z_rel_act0 hR⟩
end P28
