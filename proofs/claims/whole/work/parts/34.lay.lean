/-! the reference looks; both under the relation -/
section P34
variable {l : Launch} {D : va_G} {tc : Nat → ClassId} {A : Nat → Prop} {S : zw_S} {gi : Nat → Nat → Int32} {gl : Nat → Nat → Int64} {f : Option Nat}
theorem z_lm_ls {ns s m : Nat} (hS : zSNow gi ns) (hs : s < ns) (hm2 : gi 108 1 = nI m) (h : Int32) : ∀ j, j < 6 → z_lm gi s h j = z_ls gi s m h j := by
  intro j hj
  obtain ⟨k, v, t, hk, hv, ht, hB, hR, _, _⟩ := z_srt hS hs
  obtain ⟨b, hb, hb1, hb2⟩ := hB 0 (by omega)
  unfold z_lm z_ls
  rw [hk.2.1, hk.2.2, hv.2.1, hv.2.2, hm2, show gi 111 (3 * s) = nI b from hb2, show gi (3 + s) 2 = nI b from hb1]
theorem lp_X8_layH (d ns m : Nat) (hM : zIsM gi) (hS : zSNow gi ns) (hns : ns ≤ 5) (hm : m < 12) (hs2 : gi 108 0 = nI ns) (hm2 : gi 108 1 = nI m) (s : Nat) (hs : s < ns) {Q : Option Value → zw_S → Prop}
    (kk : ∀ (g : Nat → Nat → Int32), (∀ k j, ¬ (126 ≤ k ∧ k ≤ 128) → g k j = gi k j) → zSM g (z_sh gi m) (z_ow gi m) s → g 128 s = nI (z_ow gi m s) → (∀ h', h' < 3 → g 127 (3 * s + h') = nI (z_sh gi m s h')) → zW l D tc A mX8_layShows (d + 4) 0 0 0 0 60 [some (.ref 108), some (.int (nI s)), some (.int (nI 3))] [] (zs g gl f) Q) :
    ∀ (n h : Nat) (g : Nat → Nat → Int32), h + n = 3 → (∀ k j, ¬ (126 ≤ k ∧ k ≤ 128) → g k j = gi k j) → zSM g (z_sh gi m) (z_ow gi m) s → g 128 s = nI (z_ow gi m s) → (∀ h', h' < h → g 127 (3 * s + h') = nI (z_sh gi m s h')) → zW l D tc A mX8_layShows (d + 4) 0 0 0 0 33 [some (.ref 108), some (.int (nI s)), some (.int (nI h))] [] (zs g gl f) Q := by
  intro n
  induction n using Nat.strongRecOn with
  | _ n ih =>
  intro h g hh e1 e3 e4 e5
  by_cases hn : n = 0
  · have h3 : h = 3 := by omega
    subst h3
    refine zx_iload_n (q := 34) dX8_layShows_33 rfl rfl rfl ?_
    refine zx_iconst (q := 35) (v := 3) dX8_layShows_34 (by decide) rfl ?_
    refine zx_icmp_ge_t (t := 60) (q := 38) dX8_layShows_35 (by decide) rfl (by decide) ?_
    exact kk g e1 e3 e4 e5
  · obtain ⟨k, v, t, hk, hv, ht, hB, hR, _, _⟩ := z_srt hS hs
    obtain ⟨b, hb9, hb, hb2⟩ := hB h (by omega)
    obtain ⟨T, hT9, hT, hT2⟩ := hR (m % 3) (by omega)
    have e2 : ∀ k j, z_fc k → g k j = gi k j := fun k j z => e1 k j (by unfold z_fc at z; omega)
    have hM' : zIsM g := zIsM_cg hM e2 (fun j => ⟨e1 _ _ (by omega), e1 _ _ (by omega), e1 _ _ (by omega), e1 _ _ (by omega), e1 _ _ (by omega), e1 _ _ (by omega), e1 _ _ (by omega)⟩)
    have hlm : ∀ h, z_lm g s h = z_lm gi s h := by intro h; funext j; simp only [z_lm, e1 109 _ (by omega), e1 110 _ (by omega), e1 111 _ (by omega), e1 108 _ (by omega)]
    have hnc := z_nc_le hM
    have hsh : z_sh gi m s h = z_shw k v (b + z_soN g 1 (z_lm g s (nI h)) (z_nc g)) h m T := by
      rw [z_nc_cg e2, z_soN_cg e2, hlm, z_soN_congr hM (by decide) (z_lm_ls hS hs hm2 (nI h)) _ (Nat.le_refl _)]
      unfold z_sh
      rw [hk.2.1, hv.2.1, hb, hT, nI_clamp (by omega), nI_clamp (by omega), nI_clamp (by omega), nI_clamp (by omega)]
    refine zx_iload_n (q := 34) dX8_layShows_33 rfl rfl rfl ?_
    refine zx_iconst (q := 35) (v := 3) dX8_layShows_34 (by decide) rfl ?_
    refine zx_icmp_ge_f (t := 60) (q := 38) dX8_layShows_35 (by decide) rfl (nI_ge (a := h) (b := 3) (by omega) (by decide)) ?_
    refine zx_aload_n (q := 39) dX8_layShows_38 rfl rfl rfl ?_
    refine zy_getR (q := 42) dX8_layShows_39 fl_RX8_96 rfl rfl rfl rfl ?_
    refine zx_iconst (q := 43) (v := 3) dX8_layShows_42 (by decide) rfl ?_
    refine zx_iload_n (q := 44) dX8_layShows_43 rfl rfl rfl ?_
    refine zx_imul (q := 45) dX8_layShows_44 rfl ?_
    refine zx_iload_n (q := 46) dX8_layShows_45 rfl rfl rfl ?_
    refine zx_iadd (q := 47) dX8_layShows_46 rfl ?_
    rw [z_3]
    refine zx_aload_n (q := 48) dX8_layShows_47 rfl rfl rfl ?_
    refine zx_iload_n (q := 49) dX8_layShows_48 rfl rfl rfl ?_
    refine zx_iload_n (q := 50) dX8_layShows_49 rfl rfl rfl ?_
    refine zx_callV2i (q := 53) (y' := mX8_showsOf) dX8_layShows_50 ml_RX8_274 ok_mX8_showsOf rfl (by decide) rfl (Nat.le_of_ble_eq_true rfl) (Nat.le_of_ble_eq_true rfl) (Nat.le_refl _) (Nat.le_refl _) rfl (t_X8_showsOf _ s k v b h m T hM' (by omega) (by rw [e1 _ _ (by omega)]; exact hk.2.2) (by rw [e1 _ _ (by omega)]; exact hv.2.2) (by rw [e1 _ _ (by omega)]; exact hb2) (by rw [e1 _ _ (by omega)]; exact hT2) (by rw [e1 _ _ (by omega)]; exact hm2) hk.1 hv.1 hb9 (by omega) hm) ?_
    rintro _ _ ⟨rfl, g2, rfl, g3⟩
    refine zy_iastN (q := 54) dX8_layShows_53 rfl (by omega) (by first | decide | omega) rfl ?_
    refine zx_iinc2 (q := 57) dX8_layShows_54 rfl rfl ?_
    refine zx_goto (t := 33) dX8_layShows_57 (by decide) ?_
    rw [z_inc]
    refine ih (n - 1) (by omega) (h + 1) _ (by omega) ?_ ?_ ?_ ?_
    · intro a c hac
      rw [z_u_ne _ _ (by omega), g3 _ _ (by omega)]; exact e1 a c hac
    · refine fun s' hs' => ⟨?_, fun h' hh' => ?_⟩
      · rw [z_u_ne _ _ (by omega), g3 _ _ (by omega)]; exact (e3 s' hs').1
      · rw [z_u_ne _ _ (by omega), g3 _ _ (by omega)]; exact (e3 s' hs').2 h' hh'
    · rw [z_u_ne _ _ (by omega), g3 _ _ (by omega)]; exact e4
    · intro h' hh'
      by_cases c : h' = h
      · subst c
        rw [z_u_at]
        exact congrArg nI hsh.symm
      · rw [z_u_ne _ _ (by omega), g3 _ _ (by omega)]; exact e5 h' (by omega)
theorem lp_X8_lay (d ns m : Nat) (hM : zIsM gi) (hS : zSNow gi ns) (hns : ns ≤ 5) (hm : m < 12) (hs2 : gi 108 0 = nI ns) (hm2 : gi 108 1 = nI m) : ∀ (n s : Nat) (g : Nat → Nat → Int32) (w2 : Option Value), s + n = ns → (∀ k j, ¬ (126 ≤ k ∧ k ≤ 128) → g k j = gi k j) → zSM g (z_sh gi m) (z_ow gi m) s → zW l D tc A mX8_layShows (d + 4) 0 0 0 0 2 [some (.ref 108), some (.int (nI s)), w2] [] (zs g gl f) (zQv fun S' => ∃ g, S' = zs g gl f ∧ (∀ k j, ¬ (126 ≤ k ∧ k ≤ 128) → g k j = gi k j) ∧ zSM g (z_sh gi m) (z_ow gi m) ns) := by
  intro n
  induction n using Nat.strongRecOn with
  | _ n ih =>
  intro s g w2 hh e1 e3
  by_cases hn : n = 0
  · have hs3 : s = ns := by omega
    subst hs3
    refine zx_iload_n (q := 3) dX8_layShows_2 rfl rfl rfl ?_
    refine zx_aload_n (q := 4) dX8_layShows_3 rfl rfl rfl ?_
    refine zy_getIe (q := 7) (v := nI s) dX8_layShows_4 fl_RX8_7 rfl rfl ((e1 _ _ (by omega)).trans hs2) rfl ?_
    refine zx_icmp_ge_t (t := 66) (q := 10) dX8_layShows_7 (by decide) rfl (nI_le (Nat.le_refl _) (by omega)) ?_
    refine zx_vret dX8_layShows_66 rfl (Nat.le_refl _) (Nat.le_refl _) ⟨rfl, ?_⟩
    exact ⟨g, rfl, e1, e3⟩
  · obtain ⟨k, v, t, hk, hv, ht, hB, hR, _, _⟩ := z_srt hS (s := s) (by omega)
    have e2 : ∀ k j, z_fc k → g k j = gi k j := fun k j z => e1 k j (by unfold z_fc at z; omega)
    have hM' : zIsM g := zIsM_cg hM e2 (fun j => ⟨e1 _ _ (by omega), e1 _ _ (by omega), e1 _ _ (by omega), e1 _ _ (by omega), e1 _ _ (by omega), e1 _ _ (by omega), e1 _ _ (by omega)⟩)
    have hlm : ∀ h, z_lm g s h = z_lm gi s h := by intro h; funext j; simp only [z_lm, e1 109 _ (by omega), e1 110 _ (by omega), e1 111 _ (by omega), e1 108 _ (by omega)]
    have hnc := z_nc_le hM
    refine zx_iload_n (q := 3) dX8_layShows_2 rfl rfl rfl ?_
    refine zx_aload_n (q := 4) dX8_layShows_3 rfl rfl rfl ?_
    refine zy_getIe (q := 7) (v := nI ns) dX8_layShows_4 fl_RX8_7 rfl rfl ((e1 _ _ (by omega)).trans hs2) rfl ?_
    refine zx_icmp_ge_f (t := 66) (q := 10) dX8_layShows_7 (by decide) rfl (nI_ge (by omega) (by omega)) ?_
    refine zx_aload_n (q := 11) dX8_layShows_10 rfl rfl rfl ?_
    refine zy_getR (q := 14) dX8_layShows_11 fl_RX8_99 rfl rfl rfl rfl ?_
    refine zx_iload_n (q := 15) dX8_layShows_14 rfl rfl rfl ?_
    refine zx_aload_n (q := 16) dX8_layShows_15 rfl rfl rfl ?_
    refine zy_getR (q := 19) dX8_layShows_16 fl_RX8_26 rfl rfl rfl rfl ?_
    refine zx_iload_n (q := 20) dX8_layShows_19 rfl rfl rfl ?_
    refine zy_ialdN (q := 21) dX8_layShows_20 rfl (by omega) (by first | decide | omega) rfl ?_
    rw [e1 _ _ (by omega), ht.2.2]
    refine zx_aload_n (q := 22) dX8_layShows_21 rfl rfl rfl ?_
    refine zx_iconst (q := 23) (v := 0) dX8_layShows_22 (by decide) rfl ?_
    refine zx_iload_n (q := 24) dX8_layShows_23 rfl rfl rfl ?_
    refine zx_bipush (q := 26) (v := 9) dX8_layShows_24 (by decide) rfl ?_
    refine zx_callV3i (q := 29) (y' := mX8_sumOf) dX8_layShows_26 ml_RX8_271 ok_mX8_sumOf rfl (by decide) rfl (Nat.le_of_ble_eq_true rfl) (Nat.le_of_ble_eq_true rfl) (Nat.le_refl _) (Nat.le_refl _) rfl (t_X8_sumOf _ s 0 9 hM' (Or.inl rfl) (by omega)) ?_
    rintro _ _ ⟨rfl, g2, rfl, g3⟩
    refine zx_iadd (q := 30) dX8_layShows_29 rfl ?_
    rw [nI_add]
    refine zy_iastN (q := 31) dX8_layShows_30 rfl (by omega) (by first | decide | omega) rfl ?_
    refine zx_iconst (q := 32) (v := 0) dX8_layShows_31 (by decide) rfl ?_
    refine zx_istore2 (q := 33) dX8_layShows_32 rfl rfl ?_
    refine lp_X8_layH d ns m hM hS hns hm hs2 hm2 s (by omega) ?_ 3 0 _ (by omega) ?_ ?_ ?_ ?_
    · intro g4 f1 f3 f4 f5
      refine zx_iinc1 (q := 63) dX8_layShows_60 rfl rfl ?_
      refine zx_goto (t := 2) dX8_layShows_63 (by decide) ?_
      rw [z_inc]
      refine ih (n - 1) (by omega) (s + 1) g4 _ (by omega) f1 (fun s' hs' => ?_)
      by_cases c : s' = s
      · subst c; exact ⟨f4, f5⟩
      · exact f3 s' (by omega)
    · intro a c hac
      rw [z_u_ne _ _ (by omega), g3 _ _ (by omega)]; exact e1 a c hac
    · refine fun s' hs' => ⟨?_, fun h' hh' => ?_⟩
      · rw [z_u_ne _ _ (by omega), g3 _ _ (by omega)]; exact (e3 s' hs').1
      · rw [z_u_ne _ _ (by omega), g3 _ _ (by omega)]; exact (e3 s' hs').2 h' hh'
    · rw [z_u_at]
      rw [z_nc_cg e2, z_soN_cg e2, hlm, z_soN_congr hM (by decide) (z_lm_ls hS (by omega) hm2 9) _ (Nat.le_refl _)]
      unfold z_ow; rw [ht.2.1, nI_clamp (by omega)]
    · intro h' hh'; omega
theorem t_X8_layShows (d ns m : Nat) (hM : zIsM gi) (hS : zSNow gi ns) (hns : ns ≤ 5) (hm : m < 12) (hs2 : gi 108 0 = nI ns) (hm2 : gi 108 1 = nI m) : zCall l D tc A mX8_layShows (d + 4) 0 0 [.ref 108] (zs gi gl f) (zQv fun S' => ∃ g, S' = zs g gl f ∧ (∀ k j, ¬ (126 ≤ k ∧ k ≤ 128) → g k j = gi k j) ∧ zSM g (z_sh gi m) (z_ow gi m) ns) := by
  show zW l D tc A mX8_layShows (d + 4) 0 0 0 0 0 [some (.ref 108), none, none] [] (zs gi gl f) _
  refine zx_iconst (q := 1) (v := 0) dX8_layShows_0 (by decide) rfl ?_
  refine zx_istore1 (q := 2) dX8_layShows_1 rfl rfl ?_
  exact lp_X8_lay d ns m hM hS hns hm hs2 hm2 ns 0 gi none (by omega) (fun _ _ _ => rfl) (fun _ z => absurd z (Nat.not_lt_zero _))
def z_F (gi : Nat → Nat → Int32) : Nat := if gi 1 9 = -1 then 41 else 66 + 5 * z_q gi
theorem z_F_is {nf : Nat} (hnf : nf ≤ 6) (hx : gi 1 9 = -1 ∨ ∃ q : Nat, q < nf ∧ gi 1 9 = nI q) (ho : gi 41 0 = 0) (hF : ∀ q, q < nf → zFN gi q) : zIsF gi (z_F gi) := by
  rcases hx with h | ⟨q, hq, h⟩
  · exact Or.inl ⟨h, by unfold z_F; rw [if_pos h], ho⟩
  · exact Or.inr ⟨q, by omega, h, by unfold z_F; rw [if_neg (by rw [h]; exact z_nm1 (by omega)), z_q_of (by omega) h], hF q hq⟩
theorem z_M_is {nf : Nat} (hnf : nf ≤ 6) (hx1 : gi 1 9 = gi 108 11) (hx : gi 1 9 = -1 ∨ ∃ q : Nat, q < nf ∧ gi 1 9 = nI q) (hF : ∀ q, q < nf → zFN gi q) : zIsM gi := by
  rcases hx with h | ⟨q, hq, h⟩
  · exact Or.inl ⟨h, by rw [← hx1, h]⟩
  · exact Or.inr ⟨q, by omega, h, by rw [← hx1, h], hF q hq⟩
theorem t_X7_holdingFence (d : Nat) (hx : gi 1 9 = -1 ∨ ∃ q : Nat, q < 6 ∧ gi 1 9 = nI q) : zCall l D tc A mX7_holdingFence (d + 1) 0 0 [.ref 0] (zs gi gl f) (zQr fun r S' => r = z_F gi ∧ S' = zs gi gl f) := by
  rcases hx with h | ⟨q, hq, h⟩
  · show zW l D tc A mX7_holdingFence (d + 1) 0 0 0 0 0 [some (.ref 0)] [] (zs gi gl f) _
    refine zx_aload_n (q := 1) dX7_holdingFence_0 rfl rfl rfl ?_
    refine zy_getR (q := 4) dX7_holdingFence_1 fl_RX7_12 rfl rfl rfl rfl ?_
    refine zy_getIe (q := 7) (v := -1) dX7_holdingFence_4 fl_RX7_130 rfl rfl (h) rfl ?_
    refine zx_iconst (q := 8) (v := 0) dX7_holdingFence_7 (by decide) rfl ?_
    refine zx_iconst (q := 9) (v := 5) dX7_holdingFence_8 (by decide) rfl ?_
    refine zx_callS3i (q := 12) (y' := mX7_within) dX7_holdingFence_9 ml_RX7_73 ok_mX7_within (Nat.le_of_ble_eq_true rfl) (Nat.le_of_ble_eq_true rfl) (Nat.le_refl _) (Nat.le_refl _) rfl (t_X7_within _ _ _ _) ?_
    rintro _ _ ⟨rfl, rfl⟩
    refine zx_if_eq_t (t := 30) (q := 15) dX7_holdingFence_12 (by decide) rfl (zk_f (by decide)) ?_
    refine zx_aload_n (q := 31) dX7_holdingFence_30 rfl rfl rfl ?_
    refine zy_getR (q := 34) dX7_holdingFence_31 fl_RX7_31 rfl rfl rfl rfl ?_
    refine zx_aret dX7_holdingFence_34 rfl (Nat.le_refl _) (Nat.le_refl _) ⟨_, rfl, ?_⟩
    exact ⟨by unfold z_F; rw [if_pos h], rfl⟩
  · show zW l D tc A mX7_holdingFence (d + 1) 0 0 0 0 0 [some (.ref 0)] [] (zs gi gl f) _
    refine zx_aload_n (q := 1) dX7_holdingFence_0 rfl rfl rfl ?_
    refine zy_getR (q := 4) dX7_holdingFence_1 fl_RX7_12 rfl rfl rfl rfl ?_
    refine zy_getIe (q := 7) (v := nI q) dX7_holdingFence_4 fl_RX7_130 rfl rfl (h) rfl ?_
    refine zx_iconst (q := 8) (v := 0) dX7_holdingFence_7 (by decide) rfl ?_
    refine zx_iconst (q := 9) (v := 5) dX7_holdingFence_8 (by decide) rfl ?_
    refine zx_callS3i (q := 12) (y' := mX7_within) dX7_holdingFence_9 ml_RX7_73 ok_mX7_within (Nat.le_of_ble_eq_true rfl) (Nat.le_of_ble_eq_true rfl) (Nat.le_refl _) (Nat.le_refl _) rfl (t_X7_within _ _ _ _) ?_
    rintro _ _ ⟨rfl, rfl⟩
    refine zx_if_eq_f (t := 30) (q := 15) dX7_holdingFence_12 (by decide) rfl (zk_t (by rw [z_in_tt, nI_toInt (by omega), show (0 : Int32).toInt = 0 by decide, show (5 : Int32).toInt = 5 by decide]; omega)) ?_
    refine zx_aload_n (q := 16) dX7_holdingFence_15 rfl rfl rfl ?_
    refine zy_getR (q := 19) dX7_holdingFence_16 fl_RX7_35 rfl rfl rfl rfl ?_
    refine zx_aload_n (q := 20) dX7_holdingFence_19 rfl rfl rfl ?_
    refine zy_getR (q := 23) dX7_holdingFence_20 fl_RX7_12 rfl rfl rfl rfl ?_
    refine zy_getIe (q := 26) (v := nI q) dX7_holdingFence_23 fl_RX7_130 rfl rfl (h) rfl ?_
    refine zy_aaldN (q := 27) dX7_holdingFence_26 rfl (by decide) (by omega) (by decide) (zr_F (by omega)).2.2.2.2.2 rfl ?_
    refine zx_goto (t := 34) dX7_holdingFence_27 (by decide) ?_
    refine zx_aret dX7_holdingFence_34 rfl (Nat.le_refl _) (Nat.le_refl _) ⟨_, rfl, ?_⟩
    exact ⟨by unfold z_F; rw [if_neg (by rw [h]; exact z_nm1 (by omega)), z_q_of (by omega) h], rfl⟩
/-- what the bound cells are, of what a look needs -/
def zLK (gi : Nat → Nat → Int32) (ns m : Nat) : Prop := (zIsM gi) ∧ (zIsF gi (z_F gi)) ∧ (gi 1 9 = -1 ∨ ∃ q : Nat, q < 6 ∧ gi 1 9 = nI q) ∧ (zSNow gi ns) ∧ (ns ≤ 5) ∧ (m < 12) ∧ (gi 1 0 = nI ns) ∧ (gi 108 0 = nI ns) ∧ (gi 1 4 = nI m) ∧ (gi 108 1 = nI m) ∧ (zSTt gi 1 116)
theorem zLK.hM {ns m : Nat} (h : zLK gi ns m) : zIsM gi := h.1
theorem zLK.hF {ns m : Nat} (h : zLK gi ns m) : zIsF gi (z_F gi) := h.2.1
theorem zLK.hx {ns m : Nat} (h : zLK gi ns m) : gi 1 9 = -1 ∨ ∃ q : Nat, q < 6 ∧ gi 1 9 = nI q := h.2.2.1
theorem zLK.hS {ns m : Nat} (h : zLK gi ns m) : zSNow gi ns := h.2.2.2.1
theorem zLK.hns {ns m : Nat} (h : zLK gi ns m) : ns ≤ 5 := h.2.2.2.2.1
theorem zLK.hm {ns m : Nat} (h : zLK gi ns m) : m < 12 := h.2.2.2.2.2.1
theorem zLK.hs1 {ns m : Nat} (h : zLK gi ns m) : gi 1 0 = nI ns := h.2.2.2.2.2.2.1
theorem zLK.hs2 {ns m : Nat} (h : zLK gi ns m) : gi 108 0 = nI ns := h.2.2.2.2.2.2.2.1
theorem zLK.hm1 {ns m : Nat} (h : zLK gi ns m) : gi 1 4 = nI m := h.2.2.2.2.2.2.2.2.1
theorem zLK.hm2 {ns m : Nat} (h : zLK gi ns m) : gi 108 1 = nI m := h.2.2.2.2.2.2.2.2.2.1
theorem zLK.hT {ns m : Nat} (h : zLK gi ns m) : zSTt gi 1 116 := h.2.2.2.2.2.2.2.2.2.2
theorem zLK_of (hR : zRel gi gl) : ∃ ns m, zLK gi ns m := by
  obtain ⟨nf, ⟨hf0, hf1, hf2⟩, ⟨ns, nb, mm, ⟨hns, hnb, hmm⟩, ⟨hs1, hs2⟩, ⟨hm1, hm2⟩, ⟨hb1, hb2⟩, ⟨hx1, hx2⟩, hSs, hSn, hSt, hSb⟩, _, _, _, _, ho, hF, _⟩ := id hR
  exact ⟨ns, mm, z_M_is hf0 hx1 hx2 hF, z_F_is hf0 hx2 ho hF, hx2.imp id (fun ⟨q, h1, h2⟩ => ⟨q, by omega, h2⟩), hSs, hns, hmm, hs1, hs2, hm1, hm2, hSt⟩
def zFr (gi g : Nat → Nat → Int32) : Prop := ∀ k j, ¬ z_scr k j → g k j = gi k j
theorem zLK_fr {ns m : Nat} {g : Nat → Nat → Int32} (h : zLK gi ns m) (e : zFr gi g) (ho : g 41 0 = gi 41 0) : zLK g ns m := by
  have e2 : ∀ k j, z_fc k → g k j = gi k j := fun k j z => e k j (by unfold z_fc at z; unfold z_scr; omega)
  have hxx : g 1 9 = gi 1 9 := e 1 9 (by unfold z_scr; omega)
  refine ⟨zIsM_cg h.hM e2 (fun j => ⟨e _ _ (by unfold z_scr; omega), e _ _ (by unfold z_scr; omega), e _ _ (by unfold z_scr; omega), e _ _ (by unfold z_scr; omega), e _ _ (by unfold z_scr; omega), e _ _ (by unfold z_scr; omega), e _ _ (by unfold z_scr; omega)⟩), ?_, by rw [hxx]; exact h.hx,
    zSTs_congr h.hS h.hns (fun k j hk => e _ _ (by unfold z_scr; omega)) (fun k j hk => e _ _ (by unfold z_scr; omega)), h.hns, h.hm, ?_, ?_, ?_, ?_, zSTt_congr h.hT (fun j => e _ _ (by unfold z_scr; omega)) (fun j => e _ _ (by unfold z_scr; omega))⟩
  · have hq : z_F g = z_F gi := by unfold z_F; rw [hxx, z_q_cg e2]
    rw [hq]
    exact zIsF_cg h.hF e2 (fun j => ⟨ho, e _ _ (by unfold z_scr; omega), e _ _ (by unfold z_scr; omega), e _ _ (by unfold z_scr; omega), e _ _ (by unfold z_scr; omega), e _ _ (by unfold z_scr; omega), e _ _ (by unfold z_scr; omega)⟩)
  · rw [e _ _ (by unfold z_scr; omega)]; exact h.hs1
  · rw [e _ _ (by unfold z_scr; omega)]; exact h.hs2
  · rw [e _ _ (by unfold z_scr; omega)]; exact h.hm1
  · rw [e _ _ (by unfold z_scr; omega)]; exact h.hm2
/-- the numbers seen stay while the bound cells stay -/
theorem z_sh_cg {g : Nat → Nat → Int32} (e : ∀ k j, (1 ≤ k ∧ k ≤ 19) ∨ (66 ≤ k ∧ k ≤ 95) → g k j = gi k j) {m s : Nat} (hs : s < 5) (h : Nat) : z_sh g m s h = z_sh gi m s h := by
  have e2 : ∀ k j, z_fc k → g k j = gi k j := fun k j z => e k j (by unfold z_fc at z; omega)
  have e3 : z_ls g s m (nI h) = z_ls gi s m (nI h) := by funext j; simp only [z_ls, e (3 + s) _ (by omega)]
  unfold z_sh
  rw [e (3 + s) _ (by omega), e (3 + s) _ (by omega), e (3 + s) _ (by omega), e (9 + s) _ (by omega), z_nc_cg e2, z_soN_cg e2, e3]
theorem z_ow_cg {g : Nat → Nat → Int32} (e : ∀ k j, (1 ≤ k ∧ k ≤ 19) ∨ (66 ≤ k ∧ k ≤ 95) → g k j = gi k j) {m s : Nat} (hs : s < 5) : z_ow g m s = z_ow gi m s := by
  have e2 : ∀ k j, z_fc k → g k j = gi k j := fun k j z => e k j (by unfold z_fc at z; omega)
  have e3 : z_ls g s m 9 = z_ls gi s m 9 := by funext j; simp only [z_ls, e (3 + s) _ (by omega)]
  unfold z_ow
  rw [e (3 + s) _ (by omega), z_nc_cg e2, z_soN_cg e2, e3]
theorem z_sh_le {ns m s h : Nat} (L : zLK gi ns m) (hs : s < ns) (hh : h < 3) : z_sh gi m s h ≤ 1998 := by
  obtain ⟨k, v, t, hk, hv, ht, hB, hR, _, _⟩ := z_srt L.hS hs
  obtain ⟨b, hb9, hb, hb2⟩ := hB h hh
  have hm := L.hm
  obtain ⟨T, hT9, hT, hT2⟩ := hR (m % 3) (by omega)
  have hso := z_soN_le L.hM 1 (z_ls gi s m (nI h)) (z_nc gi) (Nat.le_refl _)
  have hnc := z_nc_le L.hM
  unfold z_sh z_shw
  rw [hk.2.1, hv.2.1, hb, hT, nI_clamp (by omega), nI_clamp (by omega), nI_clamp (by omega), nI_clamp (by omega)]
  (repeat' split) <;> omega
theorem z_ow_le {ns m s : Nat} (L : zLK gi ns m) (hs : s < ns) : z_ow gi m s ≤ 1089 := by
  obtain ⟨k, v, t, hk, hv, ht, hB, hR, _, _⟩ := z_srt L.hS hs
  have hso := z_soN_le L.hM 0 (z_ls gi s m 9) (z_nc gi) (Nat.le_refl _)
  have hnc := z_nc_le L.hM
  unfold z_ow
  rw [ht.2.1, nI_clamp (by omega)]
  omega
theorem z_most_le (gi : Nat → Nat → Int32) : z_most gi ≤ 9 := by unfold z_most; omega
theorem t_X7_look (d : Nat) {ns m : Nat} (L : zLK gi ns m) : zCall l D tc A mX7_look (d + 4) 0 0 [.ref 0] (zs gi gl f) (zQv fun S' => ∃ g, S' = zs g gl f ∧ (∀ k j, ¬ (47 ≤ k ∧ k ≤ 55) → g k j = gi k j) ∧ zSG g ns (z_most gi) (z_sh gi m) (z_ow gi m) ns) := by
  show zW l D tc A mX7_look (d + 4) 0 0 0 0 0 [some (.ref 0)] [] (zs gi gl f) _
  refine zx_aload_n (q := 1) dX7_look_0 rfl rfl rfl ?_
  refine zy_getR (q := 4) dX7_look_1 fl_RX7_42 rfl rfl rfl rfl ?_
  refine zx_aload_n (q := 5) dX7_look_4 rfl rfl rfl ?_
  refine zy_getR (q := 8) dX7_look_5 fl_RX7_12 rfl rfl rfl rfl ?_
  refine zx_aload_n (q := 9) dX7_look_8 rfl rfl rfl ?_
  refine zx_callV0r (q := 12) (y' := mX7_holdingFence) dX7_look_9 ml_RX7_208 ok_mX7_holdingFence rfl (by decide) rfl (Nat.le_of_ble_eq_true rfl) (Nat.le_of_ble_eq_true rfl) (Nat.le_refl _) (Nat.le_refl _) rfl (t_X7_holdingFence _ L.hx) ?_
  rintro _ _ ⟨rfl, rfl⟩
  refine zx_aload_n (q := 13) dX7_look_12 rfl rfl rfl ?_
  refine zy_getR (q := 16) dX7_look_13 fl_RX7_12 rfl rfl rfl rfl ?_
  refine zy_getIe (q := 19) (v := nI m) dX7_look_16 fl_RX7_110 rfl rfl (L.hm1) rfl ?_
  refine zx_callV3v (q := 22) (y' := mX4_look) dX7_look_19 ml_RX7_212 ok_mX4_look rfl (by decide) rfl (Nat.le_of_ble_eq_true rfl) (Nat.le_of_ble_eq_true rfl) (Nat.le_refl _) (Nat.le_refl _) rfl (t_X4_look _ (z_F gi) ns m L.hF L.hM L.hS L.hns L.hm L.hs1) ?_
  rintro _ ⟨g, rfl, g1, g2⟩
  refine zx_vret dX7_look_22 rfl (Nat.le_refl _) (Nat.le_refl _) ⟨rfl, ?_⟩
  exact ⟨g, rfl, g1, g2⟩
theorem t_X8_layK (d : Nat) {ns m : Nat} (L : zLK gi ns m) : zCall l D tc A mX8_layShows (d + 4) 0 0 [.ref 108] (zs gi gl f) (zQv fun S' => ∃ g, S' = zs g gl f ∧ (∀ k j, ¬ (126 ≤ k ∧ k ≤ 128) → g k j = gi k j) ∧ zSM g (z_sh gi m) (z_ow gi m) ns) :=
  t_X8_layShows d ns m L.hM L.hS L.hns L.hm L.hs2 L.hm2
end P34
