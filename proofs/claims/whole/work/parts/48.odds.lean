/-! ops odds, bars -/
theorem z_a0 (n : Nat) : nI n + 0 = nI n := nI_add n 0
section P48
variable {l : Launch} {D : va_G} {tc : Nat → ClassId} {A : Nat → Prop} {S : zw_S} {gi : Nat → Nat → Int32} {gl : Nat → Nat → Int64} {f : Option Nat}
theorem lp_X8_odds (d s : Nat) (wj : Int32) {ns m : Nat} {g0 : Nat → Nat → Int32} (L : zLK gi ns m) (hs : s < ns) (e0 : zFq gi g0) (hg : zSM g0 (z_sh gi m) (z_ow gi m) ns) {w : Nat → Option Nat} (hw : z_wt g0 116 w) {Q : Option Value → zw_S → Prop} : ∀ (n : Nat) (r : Nat → Nat) (b : Nat) (a : z_A) (g1 : Nat → Nat → Int32) (w6 : Option Value)
    (kk : ∀ (A' : z_A) (g2 : Nat → Nat → Int32) (w6 : Option Value), A' = z_fd (z_most gi) ns w (z_sh gi m) (z_ow gi m) r b a → zLF g0 g2 → zW l D tc A mX8_odds (d + 5) 0 0 0 0 99 [some (.ref 108), some (.int (nI s)), some (.int wj), some (.int (nI A'.1)), some (.int (nI (A'.2.2.2.2.2 s))), some (.int 0), w6] [] (zs g2 gl f) Q), z_rk ns (z_most gi) r ns = n → b = z_sN ns r → b ≤ (z_most gi) → zMS g1 r b → zLF g0 g1 → zW l D tc A mX8_odds (d + 5) 0 0 0 0 38 [some (.ref 108), some (.int (nI s)), some (.int wj), some (.int (nI a.1)), some (.int (nI (a.2.2.2.2.2 s))), some (.int 1), w6] [] (zs g1 gl f) Q := by
  intro n
  induction n using Nat.strongRecOn with
  | _ n ih =>
    intro r b a g1 w6 kk hn hb hbM hC e3
    have hns := L.hns
    have hn8 : g1 108 0 = nI ns := (zFq_M L (zLF_q e0 e3)).2.2.2.1
    have hM9 := z_most_le gi
    have hrb : ∀ s, s < ns → r s ≤ 18 := fun s hs => by have := z_sN_ge (r := r) ns s hs; omega
    have h86 : ∀ (a3 : z_A) (w6 : Option Value), a3 = (if z_fit w (z_cn ns (z_sh gi m) r) = true then z_kp (z_tn ns (z_ow gi m)) r a else a) → zW l D tc A mX8_odds (d + 5) 0 0 0 0 86 [some (.ref 108), some (.int (nI s)), some (.int wj), some (.int (nI a3.1)), some (.int (nI (a3.2.2.2.2.2 s))), some (.int 1), w6] [] (zs g1 gl f) Q := by
      intro a3 w6 ha3
      refine zx_aload_n (q := 87) dX8_odds_86 rfl rfl rfl ?_
      refine zx_aload_n (q := 88) dX8_odds_87 rfl rfl rfl ?_
      refine zx_callV0i (q := 91) (y' := mX8_mostNow) dX8_odds_88 ml_RX8_287 ok_mX8_mostNow rfl (by decide) rfl (Nat.le_of_ble_eq_true rfl) (Nat.le_of_ble_eq_true rfl) (Nat.le_refl _) (Nat.le_refl _) rfl (t_X8_mostF _ L (zLF_q e0 e3)) ?_
      rintro _ _ ⟨rfl, rfl⟩
      refine zx_callV1i (q := 94) (y' := mX8_nextHerd) dX8_odds_91 ml_RX8_311 ok_mX8_nextHerd rfl (by decide) rfl (Nat.le_of_ble_eq_true rfl) (Nat.le_of_ble_eq_true rfl) (Nat.le_refl _) (Nat.le_refl _) rfl (t_X8_next _ (z_most gi) hns hn8 (by omega) hC hb (by omega)) ?_
      rintro _ _ ⟨rfl, g4, rfl, hv, e4⟩
      refine zx_istore5 (q := 96) dX8_odds_94 rfl rfl ?_
      refine zx_goto (t := 38) dX8_odds_96 (by decide) ?_
      have e5 : zLF g0 g4 := fun k j z => (e4 k j (by omega)).trans (e3 k j z)
      cases hx : z_nx (z_most gi) ns r b with
      | none =>
        have hfin : z_fd (z_most gi) ns w (z_sh gi m) (z_ow gi m) r b a = a3 := by rw [show z_fd (z_most gi) ns w (z_sh gi m) (z_ow gi m) r b a = _ from z_go_none hx, ← ha3]
        refine zx_iload (q := 40) dX8_odds_38 rfl rfl ?_
        refine zx_if_eq_t (t := 99) (q := 43) dX8_odds_40 (by decide) rfl (rfl) ?_
        exact kk a3 g4 _ hfin.symm e5
      | some q =>
        obtain ⟨j1, j2, j3⟩ := z_nx_dn (r' := q.1) (b' := q.2) hx hb hbM
        rw [show zb (Option.isSome (some q)) = 1 from rfl]
        refine ih (z_rk ns (z_most gi) q.1 ns) (by omega) q.1 q.2 a3 g4 _ (fun A g w6 hA => kk A g w6 (hA.trans ?_)) rfl j1 j2 (hv q.1 q.2 hx) e5
        rw [show z_fd (z_most gi) ns w (z_sh gi m) (z_ow gi m) r b a = _ from z_go_some (r' := q.1) (b' := q.2) hx hb hbM, ← ha3]
        rfl
    by_cases hfit : z_fit w (z_cn ns (z_sh gi m) r) = true
    · by_cases hp : 0 < r s
      · refine zx_iload (q := 40) dX8_odds_38 rfl rfl ?_
        refine zx_if_eq_f (t := 99) (q := 43) dX8_odds_40 (by decide) rfl (by decide) ?_
        refine zx_aload_n (q := 44) dX8_odds_43 rfl rfl rfl ?_
        refine zx_callV0i (q := 47) (y' := mX8_fitsNow) dX8_odds_44 ml_RX8_305 ok_mX8_fitsNow rfl (by decide) rfl (Nat.le_of_ble_eq_true rfl) (Nat.le_of_ble_eq_true rfl) (Nat.le_refl _) (Nat.le_refl _) rfl (t_X8_fits _ hns (zLF_s hg e3) hn8 hC (zLF_w (Or.inl rfl) hw e3) (fun h hh => Nat.le_trans (z_cn_le (M := 18) (B := 1998) (by omega) (fun s hs => z_sh_le L hs hh)) (by decide))) ?_
        rintro _ _ ⟨rfl, rfl⟩
        refine zx_istore6 (q := 49) dX8_odds_47 rfl rfl ?_
        refine zx_iload_n (q := 50) dX8_odds_49 rfl rfl rfl ?_
        refine zx_iload (q := 52) dX8_odds_50 rfl rfl ?_
        refine zx_if_eq_f (t := 59) (q := 55) dX8_odds_52 (by decide) rfl (zk_t hfit) ?_
        refine zx_iconst (q := 56) (v := 1) dX8_odds_55 (by decide) rfl ?_
        refine zx_goto (t := 60) dX8_odds_56 (by decide) ?_
        refine zx_iadd (q := 61) dX8_odds_60 rfl ?_
        rw [nI_1]
        refine zx_istore3 (q := 62) dX8_odds_61 rfl rfl ?_
        refine zx_iload (q := 64) dX8_odds_62 rfl rfl ?_
        refine zx_iload (q := 66) dX8_odds_64 rfl rfl ?_
        refine zx_if_eq_f (t := 82) (q := 69) dX8_odds_66 (by decide) rfl (zk_t hfit) ?_
        refine zx_aload_n (q := 70) dX8_odds_69 rfl rfl rfl ?_
        refine zy_getR (q := 73) dX8_odds_70 fl_RX8_102 rfl rfl rfl rfl ?_
        refine zx_iload_n (q := 74) dX8_odds_73 rfl rfl rfl ?_
        refine zy_ialdN (q := 75) dX8_odds_74 rfl (by omega) (by first | decide | omega) rfl ?_
        rw [hC.1 s (by omega)]
        refine zx_if_le_f (t := 82) (q := 78) dX8_odds_75 (by decide) rfl (nI_nle hp (by have := hrb s hs; omega)) ?_
        refine zx_iconst (q := 79) (v := 1) dX8_odds_78 (by decide) rfl ?_
        refine zx_goto (t := 83) dX8_odds_79 (by decide) ?_
        refine zx_iadd (q := 84) dX8_odds_83 rfl ?_
        rw [nI_1]
        refine zx_istore4 (q := 86) dX8_odds_84 rfl rfl ?_
        have e2 : (z_kp (z_tn ns (z_ow gi m)) r a).2.2.2.2.2 s = a.2.2.2.2.2 s + 1 := by
          show a.2.2.2.2.2 s + (if 0 < r s then 1 else 0) = _
          rw [if_pos hp]
        rw [← e2]
        exact h86 (z_kp (z_tn ns (z_ow gi m)) r a) _ (by rw [if_pos hfit])
      · refine zx_iload (q := 40) dX8_odds_38 rfl rfl ?_
        refine zx_if_eq_f (t := 99) (q := 43) dX8_odds_40 (by decide) rfl (by decide) ?_
        refine zx_aload_n (q := 44) dX8_odds_43 rfl rfl rfl ?_
        refine zx_callV0i (q := 47) (y' := mX8_fitsNow) dX8_odds_44 ml_RX8_305 ok_mX8_fitsNow rfl (by decide) rfl (Nat.le_of_ble_eq_true rfl) (Nat.le_of_ble_eq_true rfl) (Nat.le_refl _) (Nat.le_refl _) rfl (t_X8_fits _ hns (zLF_s hg e3) hn8 hC (zLF_w (Or.inl rfl) hw e3) (fun h hh => Nat.le_trans (z_cn_le (M := 18) (B := 1998) (by omega) (fun s hs => z_sh_le L hs hh)) (by decide))) ?_
        rintro _ _ ⟨rfl, rfl⟩
        refine zx_istore6 (q := 49) dX8_odds_47 rfl rfl ?_
        refine zx_iload_n (q := 50) dX8_odds_49 rfl rfl rfl ?_
        refine zx_iload (q := 52) dX8_odds_50 rfl rfl ?_
        refine zx_if_eq_f (t := 59) (q := 55) dX8_odds_52 (by decide) rfl (zk_t hfit) ?_
        refine zx_iconst (q := 56) (v := 1) dX8_odds_55 (by decide) rfl ?_
        refine zx_goto (t := 60) dX8_odds_56 (by decide) ?_
        refine zx_iadd (q := 61) dX8_odds_60 rfl ?_
        rw [nI_1]
        refine zx_istore3 (q := 62) dX8_odds_61 rfl rfl ?_
        refine zx_iload (q := 64) dX8_odds_62 rfl rfl ?_
        refine zx_iload (q := 66) dX8_odds_64 rfl rfl ?_
        refine zx_if_eq_f (t := 82) (q := 69) dX8_odds_66 (by decide) rfl (zk_t hfit) ?_
        refine zx_aload_n (q := 70) dX8_odds_69 rfl rfl rfl ?_
        refine zy_getR (q := 73) dX8_odds_70 fl_RX8_102 rfl rfl rfl rfl ?_
        refine zx_iload_n (q := 74) dX8_odds_73 rfl rfl rfl ?_
        refine zy_ialdN (q := 75) dX8_odds_74 rfl (by omega) (by first | decide | omega) rfl ?_
        rw [hC.1 s (by omega)]
        refine zx_if_le_t (t := 82) (q := 78) dX8_odds_75 (by decide) rfl (by rw [show r s = 0 by omega]; decide) ?_
        refine zx_iconst (q := 83) (v := 0) dX8_odds_82 (by decide) rfl ?_
        refine zx_iadd (q := 84) dX8_odds_83 rfl ?_
        rw [z_a0]
        refine zx_istore4 (q := 86) dX8_odds_84 rfl rfl ?_
        have e2 : (z_kp (z_tn ns (z_ow gi m)) r a).2.2.2.2.2 s = a.2.2.2.2.2 s := by
          show a.2.2.2.2.2 s + (if 0 < r s then 1 else 0) = _
          rw [if_neg hp, Nat.add_zero]
        rw [← e2]
        exact h86 (z_kp (z_tn ns (z_ow gi m)) r a) _ (by rw [if_pos hfit])
    · refine zx_iload (q := 40) dX8_odds_38 rfl rfl ?_
      refine zx_if_eq_f (t := 99) (q := 43) dX8_odds_40 (by decide) rfl (by decide) ?_
      refine zx_aload_n (q := 44) dX8_odds_43 rfl rfl rfl ?_
      refine zx_callV0i (q := 47) (y' := mX8_fitsNow) dX8_odds_44 ml_RX8_305 ok_mX8_fitsNow rfl (by decide) rfl (Nat.le_of_ble_eq_true rfl) (Nat.le_of_ble_eq_true rfl) (Nat.le_refl _) (Nat.le_refl _) rfl (t_X8_fits _ hns (zLF_s hg e3) hn8 hC (zLF_w (Or.inl rfl) hw e3) (fun h hh => Nat.le_trans (z_cn_le (M := 18) (B := 1998) (by omega) (fun s hs => z_sh_le L hs hh)) (by decide))) ?_
      rintro _ _ ⟨rfl, rfl⟩
      refine zx_istore6 (q := 49) dX8_odds_47 rfl rfl ?_
      refine zx_iload_n (q := 50) dX8_odds_49 rfl rfl rfl ?_
      refine zx_iload (q := 52) dX8_odds_50 rfl rfl ?_
      refine zx_if_eq_t (t := 59) (q := 55) dX8_odds_52 (by decide) rfl (zk_f hfit) ?_
      refine zx_iconst (q := 60) (v := 0) dX8_odds_59 (by decide) rfl ?_
      refine zx_iadd (q := 61) dX8_odds_60 rfl ?_
      rw [z_a0]
      refine zx_istore3 (q := 62) dX8_odds_61 rfl rfl ?_
      refine zx_iload (q := 64) dX8_odds_62 rfl rfl ?_
      refine zx_iload (q := 66) dX8_odds_64 rfl rfl ?_
      refine zx_if_eq_t (t := 82) (q := 69) dX8_odds_66 (by decide) rfl (zk_f hfit) ?_
      refine zx_iconst (q := 83) (v := 0) dX8_odds_82 (by decide) rfl ?_
      refine zx_iadd (q := 84) dX8_odds_83 rfl ?_
      rw [z_a0]
      refine zx_istore4 (q := 86) dX8_odds_84 rfl rfl ?_
      exact h86 a _ (by rw [if_neg hfit])
set_option maxHeartbeats 4000000 in
theorem op_odds (d : Nat) (a : Int32) (b : Int32) (hR : zRel gi gl) : zOpL l D tc A mX7_odds mX8_odds (d + 7) [.int a, .int b] gi gl f := by
  obtain ⟨ns, m, L⟩ := zLK_of hR
  have hns := L.hns
  by_cases hgood : z_in a 0 (nI ns - 1) = true ∧ z_in b 0 1 = true
  · obtain ⟨s, hs, rfl⟩ := z_inU hns hgood.1
    obtain ⟨j, hj, rfl⟩ := z_inT 1 (by decide) hgood.2
    by_cases hz : (z_FT gi ns m).1 = 0
    · have hok : z_aok ns (z_FT gi ns m) := z_FT_ok L
      show zW l D tc A mX7_odds (d + 7) 0 0 0 0 0 [some (.ref 0), some (.int (nI s)), some (.int (nI j))] [] (zs gi gl f) _
      refine zx_aload_n (q := 1) dX7_odds_0 rfl rfl rfl ?_
      refine zx_callV0v (q := 4) (y' := mX7_searchFitting) dX7_odds_1 ml_RX7_148 ok_mX7_searchFitting rfl (by decide) rfl (Nat.le_of_ble_eq_true rfl) (Nat.le_of_ble_eq_true rfl) (Nat.le_refl _) (Nat.le_refl _) rfl (t_X7_sF _ L) ?_
      rintro _ ⟨g2, rfl, hA0, _, e2⟩
      have hn7 : g2 1 0 = nI ns := (e2 _ _ (by omega)).trans L.hs1
      have hn8 : g2 108 0 = nI ns := (e2 _ _ (by omega)).trans L.hs2
      refine zx_aload_n (q := 5) dX7_odds_4 rfl rfl rfl ?_
      refine zx_aload_n (q := 6) dX7_odds_5 rfl rfl rfl ?_
      refine zy_getR (q := 9) dX7_odds_6 fl_RX7_51 rfl rfl rfl rfl ?_
      refine zy_getR (q := 12) dX7_odds_9 fl_RX7_215 rfl rfl rfl rfl ?_
      refine zx_iload_n (q := 13) dX7_odds_12 rfl rfl rfl ?_
      refine zx_iload_n (q := 14) dX7_odds_13 rfl rfl rfl ?_
      refine zx_callV3l (q := 17) (y' := mX7_sharePerHerdFound) dX7_odds_14 ml_RX7_218 ok_mX7_sharePerHerdFound rfl (by decide) rfl (Nat.le_of_ble_eq_true rfl) (Nat.le_of_ble_eq_true rfl) (Nat.le_refl _) (Nat.le_refl _) rfl (t_X7_share60 _ s j L hn7 hA0 hok hs hj) ?_
      rintro _ _ ⟨rfl, rfl⟩
      refine zx_lret dX7_odds_17 rfl (Nat.le_refl _) (Nat.le_refl _) ⟨_, rfl, ?_⟩
      refine ⟨_, _, _, rfl, ?_⟩
      show zW l D tc A mX8_odds (d + 7) 0 0 0 0 0 [some (.ref 108), some (.int (nI s)), some (.int (nI j)), none, none, none, none] [] (zs _ _ _) _
      refine zx_aload_n (q := 1) dX8_odds_0 rfl rfl rfl ?_
      refine zx_iload_n (q := 2) dX8_odds_1 rfl rfl rfl ?_
      refine zx_callV1i (q := 5) (y' := mX8_isSort) dX8_odds_2 ml_RX8_208 ok_mX8_isSort rfl (by decide) rfl (Nat.le_of_ble_eq_true rfl) (Nat.le_of_ble_eq_true rfl) (Nat.le_refl _) (Nat.le_refl _) rfl (t_X8_isSort _ _) ?_
      rintro _ _ ⟨rfl, rfl⟩
      refine zx_if_eq_f (t := 18) (q := 8) dX8_odds_5 (by decide) rfl (zk_t (by show z_in (nI s) 0 (_ - 1) = true; rw [hn8]; exact z_inS_at L.hns hs)) ?_
      refine zx_aload_n (q := 9) dX8_odds_8 rfl rfl rfl ?_
      refine zx_iload_n (q := 10) dX8_odds_9 rfl rfl rfl ?_
      refine zx_iconst (q := 11) (v := 0) dX8_odds_10 (by decide) rfl ?_
      refine zx_iconst (q := 12) (v := 1) dX8_odds_11 (by decide) rfl ?_
      refine zx_callV3i (q := 15) (y' := mX8_in) dX8_odds_12 ml_RX8_200 ok_mX8_in rfl (by decide) rfl (Nat.le_of_ble_eq_true rfl) (Nat.le_of_ble_eq_true rfl) (Nat.le_refl _) (Nat.le_refl _) rfl (t_X8_in _ _ _ _ _) ?_
      rintro _ _ ⟨rfl, rfl⟩
      refine zx_if_ne_t (t := 22) (q := 18) dX8_odds_15 (by decide) rfl (zk_t (by rcases (by omega : j = 0 ∨ j = 1) with q | q <;> subst q <;> decide)) ?_
      refine zx_aload_n (q := 23) dX8_odds_22 rfl rfl rfl ?_
      refine zx_callV0v (q := 26) (y' := mX8_layShows) dX8_odds_23 ml_RX8_278 ok_mX8_layShows rfl (by decide) rfl (Nat.le_of_ble_eq_true rfl) (Nat.le_of_ble_eq_true rfl) (Nat.le_refl _) (Nat.le_refl _) rfl (t_X8_layF _ L (fun k j a b => e2 k j (by unfold z_scr at a; omega))) ?_
      rintro _ ⟨g4, rfl, e4, h4⟩
      have e4 : ∀ k j, ¬ (47 ≤ k ∧ k ≤ 62) → ¬ (126 ≤ k ∧ k ≤ 128) → g4 k j = gi k j := fun k j a b => (e4 k j b).trans (e2 k j (by omega))
      refine zx_iconst (q := 27) (v := 0) dX8_odds_26 (by decide) rfl ?_
      refine zx_istore3 (q := 28) dX8_odds_27 rfl rfl ?_
      refine zx_iconst (q := 29) (v := 0) dX8_odds_28 (by decide) rfl ?_
      refine zx_istore4 (q := 31) dX8_odds_29 rfl rfl ?_
      refine zx_aload_n (q := 32) dX8_odds_31 rfl rfl rfl ?_
      refine zx_callV0v (q := 35) (y' := mX8_firstHerd) dX8_odds_32 ml_RX8_302 ok_mX8_firstHerd rfl (by decide) rfl (Nat.le_of_ble_eq_true rfl) (Nat.le_of_ble_eq_true rfl) (Nat.le_refl _) (Nat.le_refl _) rfl (t_X8_first _) ?_
      rintro _ ⟨g5, rfl, hC5, e5⟩
      refine zx_iconst (q := 36) (v := 1) dX8_odds_35 (by decide) rfl ?_
      refine zx_istore5 (q := 38) dX8_odds_36 rfl rfl ?_
      have e6 : zFq gi g5 := fun k j a b => by rw [e5 k j (by unfold z_scr at a; omega), e4 k j (by unfold z_scr at a; omega) (by unfold z_scr at a; omega)]
      have h6 : zSM g5 (z_sh gi m) (z_ow gi m) ns := zSM_fr h4 (fun k j z => e5 k j (by omega))
      refine lp_X8_odds (d + 2) s _ L hs e6 h6 (w := z_tw gi) (fun h hh => ⟨by rw [e5 _ _ (by omega), e4 _ _ (by omega) (by omega)]; exact (z_tw_ok L.hT hh).2.1, fun v hv => by have := (z_tw_ok L.hT hh).2.2 v hv; omega⟩) (z_rk ns (z_most gi) (fun _ => 0) ns) (fun _ => 0) 0 z_A0 g5 none (fun A' g7 w6 hA e7 => ?_) rfl (z_sN_0 ns).symm (Nat.zero_le _) hC5 (fun _ _ _ => rfl)
      have hA : A' = z_FT gi ns m := hA
      subst hA
      refine zx_iload_n (q := 100) dX8_odds_99 rfl rfl rfl ?_
      refine zx_if_ne_f (t := 109) (q := 103) dX8_odds_100 (by decide) rfl (by rw [hz]; rfl) ?_
      refine zx_ldc2 (q := 106) dX8_odds_103 kl_RX8_336 rfl ?_
      refine zx_goto (t := 117) dX8_odds_106 (by decide) ?_
      refine zx_lret dX8_odds_117 rfl (Nat.le_refl _) (Nat.le_refl _) ⟨_, rfl, ?_⟩
      exact ⟨by unfold z_shr; rw [if_pos hz], _, _, _, rfl, zRel_scr hR (fun k j z => by rw [e7 k j (by unfold z_scr at z; omega), e5 k j (by unfold z_scr at z; omega), e4 k j (by unfold z_scr at z; omega) (by unfold z_scr at z; omega)])⟩
    · have hok : z_aok ns (z_FT gi ns m) := z_FT_ok L
      show zW l D tc A mX7_odds (d + 7) 0 0 0 0 0 [some (.ref 0), some (.int (nI s)), some (.int (nI j))] [] (zs gi gl f) _
      refine zx_aload_n (q := 1) dX7_odds_0 rfl rfl rfl ?_
      refine zx_callV0v (q := 4) (y' := mX7_searchFitting) dX7_odds_1 ml_RX7_148 ok_mX7_searchFitting rfl (by decide) rfl (Nat.le_of_ble_eq_true rfl) (Nat.le_of_ble_eq_true rfl) (Nat.le_refl _) (Nat.le_refl _) rfl (t_X7_sF _ L) ?_
      rintro _ ⟨g2, rfl, hA0, _, e2⟩
      have hn7 : g2 1 0 = nI ns := (e2 _ _ (by omega)).trans L.hs1
      have hn8 : g2 108 0 = nI ns := (e2 _ _ (by omega)).trans L.hs2
      refine zx_aload_n (q := 5) dX7_odds_4 rfl rfl rfl ?_
      refine zx_aload_n (q := 6) dX7_odds_5 rfl rfl rfl ?_
      refine zy_getR (q := 9) dX7_odds_6 fl_RX7_51 rfl rfl rfl rfl ?_
      refine zy_getR (q := 12) dX7_odds_9 fl_RX7_215 rfl rfl rfl rfl ?_
      refine zx_iload_n (q := 13) dX7_odds_12 rfl rfl rfl ?_
      refine zx_iload_n (q := 14) dX7_odds_13 rfl rfl rfl ?_
      refine zx_callV3l (q := 17) (y' := mX7_sharePerHerdFound) dX7_odds_14 ml_RX7_218 ok_mX7_sharePerHerdFound rfl (by decide) rfl (Nat.le_of_ble_eq_true rfl) (Nat.le_of_ble_eq_true rfl) (Nat.le_refl _) (Nat.le_refl _) rfl (t_X7_share60 _ s j L hn7 hA0 hok hs hj) ?_
      rintro _ _ ⟨rfl, rfl⟩
      refine zx_lret dX7_odds_17 rfl (Nat.le_refl _) (Nat.le_refl _) ⟨_, rfl, ?_⟩
      refine ⟨_, _, _, rfl, ?_⟩
      show zW l D tc A mX8_odds (d + 7) 0 0 0 0 0 [some (.ref 108), some (.int (nI s)), some (.int (nI j)), none, none, none, none] [] (zs _ _ _) _
      refine zx_aload_n (q := 1) dX8_odds_0 rfl rfl rfl ?_
      refine zx_iload_n (q := 2) dX8_odds_1 rfl rfl rfl ?_
      refine zx_callV1i (q := 5) (y' := mX8_isSort) dX8_odds_2 ml_RX8_208 ok_mX8_isSort rfl (by decide) rfl (Nat.le_of_ble_eq_true rfl) (Nat.le_of_ble_eq_true rfl) (Nat.le_refl _) (Nat.le_refl _) rfl (t_X8_isSort _ _) ?_
      rintro _ _ ⟨rfl, rfl⟩
      refine zx_if_eq_f (t := 18) (q := 8) dX8_odds_5 (by decide) rfl (zk_t (by show z_in (nI s) 0 (_ - 1) = true; rw [hn8]; exact z_inS_at L.hns hs)) ?_
      refine zx_aload_n (q := 9) dX8_odds_8 rfl rfl rfl ?_
      refine zx_iload_n (q := 10) dX8_odds_9 rfl rfl rfl ?_
      refine zx_iconst (q := 11) (v := 0) dX8_odds_10 (by decide) rfl ?_
      refine zx_iconst (q := 12) (v := 1) dX8_odds_11 (by decide) rfl ?_
      refine zx_callV3i (q := 15) (y' := mX8_in) dX8_odds_12 ml_RX8_200 ok_mX8_in rfl (by decide) rfl (Nat.le_of_ble_eq_true rfl) (Nat.le_of_ble_eq_true rfl) (Nat.le_refl _) (Nat.le_refl _) rfl (t_X8_in _ _ _ _ _) ?_
      rintro _ _ ⟨rfl, rfl⟩
      refine zx_if_ne_t (t := 22) (q := 18) dX8_odds_15 (by decide) rfl (zk_t (by rcases (by omega : j = 0 ∨ j = 1) with q | q <;> subst q <;> decide)) ?_
      refine zx_aload_n (q := 23) dX8_odds_22 rfl rfl rfl ?_
      refine zx_callV0v (q := 26) (y' := mX8_layShows) dX8_odds_23 ml_RX8_278 ok_mX8_layShows rfl (by decide) rfl (Nat.le_of_ble_eq_true rfl) (Nat.le_of_ble_eq_true rfl) (Nat.le_refl _) (Nat.le_refl _) rfl (t_X8_layF _ L (fun k j a b => e2 k j (by unfold z_scr at a; omega))) ?_
      rintro _ ⟨g4, rfl, e4, h4⟩
      have e4 : ∀ k j, ¬ (47 ≤ k ∧ k ≤ 62) → ¬ (126 ≤ k ∧ k ≤ 128) → g4 k j = gi k j := fun k j a b => (e4 k j b).trans (e2 k j (by omega))
      refine zx_iconst (q := 27) (v := 0) dX8_odds_26 (by decide) rfl ?_
      refine zx_istore3 (q := 28) dX8_odds_27 rfl rfl ?_
      refine zx_iconst (q := 29) (v := 0) dX8_odds_28 (by decide) rfl ?_
      refine zx_istore4 (q := 31) dX8_odds_29 rfl rfl ?_
      refine zx_aload_n (q := 32) dX8_odds_31 rfl rfl rfl ?_
      refine zx_callV0v (q := 35) (y' := mX8_firstHerd) dX8_odds_32 ml_RX8_302 ok_mX8_firstHerd rfl (by decide) rfl (Nat.le_of_ble_eq_true rfl) (Nat.le_of_ble_eq_true rfl) (Nat.le_refl _) (Nat.le_refl _) rfl (t_X8_first _) ?_
      rintro _ ⟨g5, rfl, hC5, e5⟩
      refine zx_iconst (q := 36) (v := 1) dX8_odds_35 (by decide) rfl ?_
      refine zx_istore5 (q := 38) dX8_odds_36 rfl rfl ?_
      have e6 : zFq gi g5 := fun k j a b => by rw [e5 k j (by unfold z_scr at a; omega), e4 k j (by unfold z_scr at a; omega) (by unfold z_scr at a; omega)]
      have h6 : zSM g5 (z_sh gi m) (z_ow gi m) ns := zSM_fr h4 (fun k j z => e5 k j (by omega))
      refine lp_X8_odds (d + 2) s _ L hs e6 h6 (w := z_tw gi) (fun h hh => ⟨by rw [e5 _ _ (by omega), e4 _ _ (by omega) (by omega)]; exact (z_tw_ok L.hT hh).2.1, fun v hv => by have := (z_tw_ok L.hT hh).2.2 v hv; omega⟩) (z_rk ns (z_most gi) (fun _ => 0) ns) (fun _ => 0) 0 z_A0 g5 none (fun A' g7 w6 hA e7 => ?_) rfl (z_sN_0 ns).symm (Nat.zero_le _) hC5 (fun _ _ _ => rfl)
      have hA : A' = z_FT gi ns m := hA
      subst hA
      refine zx_iload_n (q := 100) dX8_odds_99 rfl rfl rfl ?_
      refine zx_if_ne_t (t := 109) (q := 103) dX8_odds_100 (by decide) rfl (z_n0 hok.2.1 hz) ?_
      refine zx_aload_n (q := 110) dX8_odds_109 rfl rfl rfl ?_
      refine zx_iload (q := 112) dX8_odds_110 rfl rfl ?_
      refine zx_iload_n (q := 113) dX8_odds_112 rfl rfl rfl ?_
      refine zx_iload_n (q := 114) dX8_odds_113 rfl rfl rfl ?_
      refine zx_callV3l (q := 117) (y' := mX8_lowest) dX8_odds_114 ml_RX8_338 ok_mX8_lowest rfl (by decide) rfl (Nat.le_of_ble_eq_true rfl) (Nat.le_of_ble_eq_true rfl) (Nat.le_refl _) (Nat.le_refl _) rfl (t_X8_low _ ((z_FT gi ns m).2.2.2.2.2 s) (z_FT gi ns m).1 j (by have := hok.2.2.2.2.2 s hs; have := hok.2.1; omega) (by have := hok.2.1; omega) (Nat.pos_of_ne_zero hz) hj) ?_
      rintro _ _ ⟨rfl, rfl⟩
      refine zx_lret dX8_odds_117 rfl (Nat.le_refl _) (Nat.le_refl _) ⟨_, rfl, ?_⟩
      exact ⟨by unfold z_shr; rw [if_neg hz], _, _, _, rfl, zRel_scr hR (fun k j z => by rw [e7 k j (by unfold z_scr at z; omega), e5 k j (by unfold z_scr at z; omega), e4 k j (by unfold z_scr at z; omega) (by unfold z_scr at z; omega)])⟩
  · have hbad := hgood
    show zW l D tc A mX7_odds (d + 7) 0 0 0 0 0 [some (.ref 0), some (.int a), some (.int b)] [] (zs gi gl f) _
    refine zx_aload_n (q := 1) dX7_odds_0 rfl rfl rfl ?_
    refine zx_callV0v (q := 4) (y' := mX7_searchFitting) dX7_odds_1 ml_RX7_148 ok_mX7_searchFitting rfl (by decide) rfl (Nat.le_of_ble_eq_true rfl) (Nat.le_of_ble_eq_true rfl) (Nat.le_refl _) (Nat.le_refl _) rfl (t_X7_sF _ L) ?_
    rintro _ ⟨g2, rfl, hA, _, e2⟩
    have hn7 : g2 1 0 = nI ns := (e2 _ _ (by omega)).trans L.hs1
    have hn8 : g2 108 0 = nI ns := (e2 _ _ (by omega)).trans L.hs2
    refine zx_aload_n (q := 5) dX7_odds_4 rfl rfl rfl ?_
    refine zx_aload_n (q := 6) dX7_odds_5 rfl rfl rfl ?_
    refine zy_getR (q := 9) dX7_odds_6 fl_RX7_51 rfl rfl rfl rfl ?_
    refine zy_getR (q := 12) dX7_odds_9 fl_RX7_215 rfl rfl rfl rfl ?_
    refine zx_iload_n (q := 13) dX7_odds_12 rfl rfl rfl ?_
    refine zx_iload_n (q := 14) dX7_odds_13 rfl rfl rfl ?_
    refine zx_callV3l (q := 17) (y' := mX7_sharePerHerdFound) dX7_odds_14 ml_RX7_218 ok_mX7_sharePerHerdFound rfl (by decide) rfl (Nat.le_of_ble_eq_true rfl) (Nat.le_of_ble_eq_true rfl) (Nat.le_refl _) (Nat.le_refl _) rfl (t_X7_shareX _ _ a b L hn7 hbad) ?_
    rintro _ _ ⟨rfl, rfl⟩
    refine zx_lret dX7_odds_17 rfl (Nat.le_refl _) (Nat.le_refl _) ⟨_, rfl, ?_⟩
    refine ⟨_, _, _, rfl, ?_⟩
    show zW l D tc A mX8_odds (d + 7) 0 0 0 0 0 [some (.ref 108), some (.int a), some (.int b), none, none, none, none] [] (zs _ _ _) _
    refine zx_aload_n (q := 1) dX8_odds_0 rfl rfl rfl ?_
    refine zx_iload_n (q := 2) dX8_odds_1 rfl rfl rfl ?_
    refine zx_callV1i (q := 5) (y' := mX8_isSort) dX8_odds_2 ml_RX8_208 ok_mX8_isSort rfl (by decide) rfl (Nat.le_of_ble_eq_true rfl) (Nat.le_of_ble_eq_true rfl) (Nat.le_refl _) (Nat.le_refl _) rfl (t_X8_isSort _ _) ?_
    rintro _ _ ⟨rfl, rfl⟩
    refine zx_if_eq (q := 8) (t := 18) dX8_odds_5 (by decide) rfl (fun e_5 => ?_) (fun e_5 => ?_)
    · refine zx_ldc2 (q := 21) dX8_odds_18 kl_RX8_336 rfl ?_
      refine zx_lret dX8_odds_21 rfl (Nat.le_refl _) (Nat.le_refl _) ⟨_, rfl, ?_⟩
      exact ⟨rfl, _, _, _, rfl, zRel_scr hR (fun k j z => e2 k j (by unfold z_scr at z; omega))⟩
    · have h1 : z_in a 0 (nI ns - 1) = true := by rw [zb_nz] at e_5; rw [← hn8]; exact e_5
      refine zx_aload_n (q := 9) dX8_odds_8 rfl rfl rfl ?_
      refine zx_iload_n (q := 10) dX8_odds_9 rfl rfl rfl ?_
      refine zx_iconst (q := 11) (v := 0) dX8_odds_10 (by decide) rfl ?_
      refine zx_iconst (q := 12) (v := 1) dX8_odds_11 (by decide) rfl ?_
      refine zx_callV3i (q := 15) (y' := mX8_in) dX8_odds_12 ml_RX8_200 ok_mX8_in rfl (by decide) rfl (Nat.le_of_ble_eq_true rfl) (Nat.le_of_ble_eq_true rfl) (Nat.le_refl _) (Nat.le_refl _) rfl (t_X8_in _ _ _ _ _) ?_
      rintro _ _ ⟨rfl, rfl⟩
      refine zx_if_ne_f (t := 22) (q := 18) dX8_odds_15 (by decide) rfl (zk_f (fun z => hbad ⟨h1, z⟩)) ?_
      refine zx_ldc2 (q := 21) dX8_odds_18 kl_RX8_336 rfl ?_
      refine zx_lret dX8_odds_21 rfl (Nat.le_refl _) (Nat.le_refl _) ⟨_, rfl, ?_⟩
      exact ⟨rfl, _, _, _, rfl, zRel_scr hR (fun k j z => e2 k j (by unfold z_scr at z; omega))⟩
theorem lp_X7_isB (d : Nat) {ns m mo : Nat} {g : Nat → Nat → Int32} (L : zLK gi ns m) (e : ∀ k j, ¬ (47 ≤ k ∧ k ≤ 55) → g k j = gi k j) (hg : zSG g ns mo (z_sh gi m) (z_ow gi m) ns) (dd h v : Nat) (hh : h < 3) (hv : gi 17 h = nI v) (hv9 : v ≤ 999) : ∀ (k s x : Nat), s + k = ns → 0 < x → x ≤ 30 → zW l D tc A mX7_isBarred (d + 1) 0 0 0 0 6 [some (.ref 0), some (.int (nI dd)), some (.int (nI h)), some (.long (lN x)), none, some (.int (nI s))] [] (zs g gl f) (zQi fun r S' => r = zb (decide (¬ v % z_gl (fun s => z_sh gi m s h) k s x = 0)) ∧ S' = zs g gl f) := by
  intro k
  induction k using Nat.strongRecOn with
  | _ k ih =>
    intro s x hk hx0 hx9
    have hns := L.hns
    refine zx_iload (q := 8) dX7_isBarred_6 rfl rfl ?_
    refine zx_aload_n (q := 9) dX7_isBarred_8 rfl rfl rfl ?_
    refine zy_getR (q := 12) dX7_isBarred_9 fl_RX7_12 rfl rfl rfl rfl ?_
    refine zy_getIe (q := 15) (v := nI ns) dX7_isBarred_12 fl_RX7_81 rfl rfl ((e _ _ (by omega)).trans L.hs1) rfl ?_
    refine zx_icmp_ge (q := 18) (t := 42) dX7_isBarred_15 (by decide) rfl (fun c_15 => ?_) (fun c_15 => ?_)
    · have hs2 : s = ns := by have := z_ge (x := nI ns) rfl (by omega) c_15; omega
      have hk0 : k = 0 := by omega
      subst hk0
      refine zx_lload_n (q := 43) dX7_isBarred_42 rfl rfl rfl ?_
      refine zx_lconst (q := 44) (v := 0) dX7_isBarred_43 (by decide) rfl ?_
      refine zx_lcmp (q := 45) dX7_isBarred_44 rfl ?_
      refine zx_if_le_f (t := 69) (q := 48) dX7_isBarred_45 (by decide) rfl (fun z => absurd ((lg_cmp_le _ _).mp z) (fun y => by have y2 := (pk_lLE (b := 0) (by omega) (by omega)).mp y; omega)) ?_
      refine zx_aload_n (q := 49) dX7_isBarred_48 rfl rfl rfl ?_
      refine zy_getR (q := 52) dX7_isBarred_49 fl_RX7_12 rfl rfl rfl rfl ?_
      refine zy_getR (q := 55) dX7_isBarred_52 fl_RX7_113 rfl rfl rfl rfl ?_
      refine zx_iload_n (q := 56) dX7_isBarred_55 rfl rfl rfl ?_
      refine zy_ialdN (q := 57) dX7_isBarred_56 rfl (by omega) (by first | decide | omega) rfl ?_
      rw [e _ _ (by omega), hv]
      refine zx_i2l (q := 58) dX7_isBarred_57 rfl ?_
      rw [nI_l (by omega)]
      refine zx_lload_n (q := 59) dX7_isBarred_58 rfl rfl rfl ?_
      refine zx_lrem (q := 60) dX7_isBarred_59 (fun z => absurd ((z_l0 (by omega)).mp z) (by omega)) rfl ?_
      rw [pk_lRem (by omega) (by omega) (by omega)]
      refine zx_lconst (q := 61) (v := 0) dX7_isBarred_60 (by decide) rfl ?_
      refine zx_lcmp (q := 62) dX7_isBarred_61 rfl ?_
      refine zx_if_eq (q := 65) (t := 69) dX7_isBarred_62 (by decide) rfl (fun c_62 => ?_) (fun c_62 => ?_)
      · have hmz : v % x = 0 := (z_l0 (by have := Nat.mod_lt v hx0; omega)).mp ((lg_cmp_eq _ _).mp c_62)
        refine zx_iconst (q := 70) (v := 0) dX7_isBarred_69 (by decide) rfl ?_
        refine zx_zret dX7_isBarred_70 rfl (by first | rfl | exact zb_nar _) (Nat.le_refl _) (Nat.le_refl _) ⟨_, rfl, ?_⟩
        first
          | exact ⟨by show (0 : Int32) = zb (decide (¬ v % x = 0)); rw [decide_eq_false (fun z => z hmz)]; rfl, rfl⟩
          | exact ⟨by show (1 : Int32) = zb (decide (¬ v % x = 0)); rw [decide_eq_true hmz]; rfl, rfl⟩
      · have hmz : ¬ v % x = 0 := fun z => c_62 ((lg_cmp_eq _ _).mpr (by rw [z]; rfl))
        refine zx_iconst (q := 66) (v := 1) dX7_isBarred_65 (by decide) rfl ?_
        refine zx_goto (t := 70) dX7_isBarred_66 (by decide) ?_
        refine zx_zret dX7_isBarred_70 rfl (by first | rfl | exact zb_nar _) (Nat.le_refl _) (Nat.le_refl _) ⟨_, rfl, ?_⟩
        first
          | exact ⟨by show (0 : Int32) = zb (decide (¬ v % x = 0)); rw [decide_eq_false (fun z => z hmz)]; rfl, rfl⟩
          | exact ⟨by show (1 : Int32) = zb (decide (¬ v % x = 0)); rw [decide_eq_true hmz]; rfl, rfl⟩
    · have hs2 : s < ns := z_lt (x := nI ns) rfl (by omega) c_15
      obtain ⟨k, rfl⟩ : ∃ q, k = q + 1 := ⟨k - 1, by omega⟩
      have hshb := z_sh_le L hs2 hh
      refine zx_lload_n (q := 19) dX7_isBarred_18 rfl rfl rfl ?_
      refine zx_aload_n (q := 20) dX7_isBarred_19 rfl rfl rfl ?_
      refine zy_getR (q := 23) dX7_isBarred_20 fl_RX7_42 rfl rfl rfl rfl ?_
      refine zy_getR (q := 26) dX7_isBarred_23 fl_RX7_104 rfl rfl rfl rfl ?_
      refine zx_iload (q := 28) dX7_isBarred_26 rfl rfl ?_
      refine zy_aaldN (q := 29) dX7_isBarred_28 rfl (by decide) (by omega) (by decide) (zr_48 (by omega)).1 rfl ?_
      refine zx_iload_n (q := 30) dX7_isBarred_29 rfl rfl rfl ?_
      refine zy_ialdN (q := 31) dX7_isBarred_30 (zr_48 (f := f) (by omega)).2 (by omega) (by first | decide | omega) rfl ?_
      rw [(hg.2.2 s hs2).2 h hh]
      refine zx_i2l (q := 32) dX7_isBarred_31 rfl ?_
      rw [nI_l (by omega)]
      refine zx_callS2l (q := 35) (y' := mX7_commonDivisor) dX7_isBarred_32 ml_RX7_167 ok_mX7_commonDivisor (Nat.le_of_ble_eq_true rfl) (Nat.le_of_ble_eq_true rfl) (Nat.le_refl _) (Nat.le_refl _) rfl (t_X7_cd _ x _ (by omega) (by omega)) ?_
      rintro _ _ ⟨rfl, rfl⟩
      refine zx_lstore3 (q := 36) dX7_isBarred_35 rfl rfl ?_
      refine zx_iinc5 (q := 39) dX7_isBarred_36 rfl rfl ?_
      refine zx_goto (t := 6) dX7_isBarred_39 (by decide) ?_
      rw [z_inc, z_gl]
      exact ih k (by omega) (s + 1) _ (by omega) (Nat.gcd_pos_of_pos_right _ hx0) (Nat.le_trans (Nat.gcd_le_right _ hx0) hx9)
theorem t_X7_isB (d : Nat) {ns m mo : Nat} {g : Nat → Nat → Int32} (L : zLK gi ns m) (e : ∀ k j, ¬ (47 ≤ k ∧ k ≤ 55) → g k j = gi k j) (hg : zSG g ns mo (z_sh gi m) (z_ow gi m) ns) (dd h v : Nat) (hh : h < 3) (hv : gi 17 h = nI v) (hv9 : v ≤ 999) (hd0 : 0 < dd) (hd9 : dd ≤ 30) : zCall l D tc A mX7_isBarred (d + 1) 0 0 [.ref 0, .int (nI dd), .int (nI h)] (zs g gl f) (zQi fun r S' => r = zb (decide (¬ v % z_gl (fun s => z_sh gi m s h) ns 0 dd = 0)) ∧ S' = zs g gl f) := by
  show zW l D tc A mX7_isBarred (d + 1) 0 0 0 0 0 [some (.ref 0), some (.int (nI dd)), some (.int (nI h)), none, none, none] [] (zs g gl f) _
  refine zx_iload_n (q := 1) dX7_isBarred_0 rfl rfl rfl ?_
  refine zx_i2l (q := 2) dX7_isBarred_1 rfl ?_
  rw [nI_l (by omega)]
  refine zx_lstore3 (q := 3) dX7_isBarred_2 rfl rfl ?_
  refine zx_iconst (q := 4) (v := 0) dX7_isBarred_3 (by decide) rfl ?_
  refine zx_istore5 (q := 6) dX7_isBarred_4 rfl rfl ?_
  exact lp_X7_isB d L e hg dd h v hh hv hv9 ns 0 dd (by omega) hd0 hd9
theorem lp_C_barI (d : Nat) {ns m mo : Nat} {g : Nat → Nat → Int32} (L : zLK gi ns m) (e : ∀ k j, ¬ (47 ≤ k ∧ k ≤ 55) → g k j = gi k j) (hg : zSG g ns mo (z_sh gi m) (z_ow gi m) ns) (dd : Nat) (hd0 : 2 ≤ dd) (hd9 : dd ≤ 30) (R : Int32) (kk : zW l D tc A mX7_bars (d + 2) 0 0 0 0 54 [some (.ref 0), some (.int (nI dd)), some (.int (nI 3))] [] (zs g gl f) (zQi fun r S' => r = R ∧ S' = zs g gl f)) : ∀ (k h : Nat), h + k = 3 → zW l D tc A mX7_bars (d + 2) 0 0 0 0 14 [some (.ref 0), some (.int (nI dd)), some (.int (nI h))] [] (zs g gl f) (zQi fun r S' => r = z_hin (z_brp gi ns m dd) dd R k h ∧ S' = zs g gl f) := by
  intro k
  induction k using Nat.strongRecOn with
  | _ k ih =>
    intro h hh
    refine zx_iload_n (q := 15) dX7_bars_14 rfl rfl rfl ?_
    refine zx_iconst (q := 16) (v := 3) dX7_bars_15 (by decide) rfl ?_
    refine zx_icmp_ge (q := 19) (t := 54) dX7_bars_16 (by decide) rfl (fun c_16 => ?_) (fun c_16 => ?_)
    · have hs2 : h = 3 := by have := z_ge (x := nI (3)) rfl (by omega) c_16; omega
      have hk0 : k = 0 := by omega
      subst hk0
      have hh3 : h = 3 := by omega
      subst hh3
      exact kk
    · have hs2 : h < 3 := z_lt (x := nI (3)) rfl (by omega) c_16
      obtain ⟨k, rfl⟩ : ∃ q, k = q + 1 := ⟨k - 1, by omega⟩
      refine zx_aload_n (q := 20) dX7_bars_19 rfl rfl rfl ?_
      refine zy_getR (q := 23) dX7_bars_20 fl_RX7_12 rfl rfl rfl rfl ?_
      refine zy_getR (q := 26) dX7_bars_23 fl_RX7_113 rfl rfl rfl rfl ?_
      refine zx_iload_n (q := 27) dX7_bars_26 rfl rfl rfl ?_
      refine zy_ialdN (q := 28) dX7_bars_27 rfl (by omega) (by first | decide | omega) rfl ?_
      rw [e _ _ (by omega), (z_tw_ok L.hT (h := h) (by omega)).1]
      have hwb := (z_tw_ok L.hT (h := h) (by omega)).2.2
      refine zx_iconst (q := 29) (v := (-1)) dX7_bars_28 (by decide) rfl ?_
      refine zx_icmp_eq (q := 32) (t := 48) dX7_bars_29 (by decide) rfl (fun c_29 => ?_) (fun c_29 => ?_)
      · have hv : z_tw gi h = none := (z_ov_m1 (fun v hv => by have := hwb v hv; omega)).mp c_29
        have hpp : ¬ z_brp gi ns m dd h = true := by unfold z_brp; rw [hv]; simp
        refine zx_iinc2 (q := 51) dX7_bars_48 rfl rfl ?_
        refine zx_goto (t := 14) dX7_bars_51 (by decide) ?_
        rw [z_inc, z_hin, if_neg hpp]
        exact ih k (by omega) (h + 1) (by omega)
      · obtain ⟨v, hv⟩ : ∃ v, z_tw gi h = some v := by cases hx : z_tw gi h with | none => exact absurd (by rw [hx]; rfl) c_29 | some v => exact ⟨v, rfl⟩
        have hv9 := hwb v hv
        have hpe : z_brp gi ns m dd h = decide (¬ v % z_gl (fun s => z_sh gi m s h) ns 0 dd = 0) := by unfold z_brp; rw [hv]
        refine zx_aload_n (q := 33) dX7_bars_32 rfl rfl rfl ?_
        refine zx_iload_n (q := 34) dX7_bars_33 rfl rfl rfl ?_
        refine zx_iload_n (q := 35) dX7_bars_34 rfl rfl rfl ?_
        refine zx_callV2i (q := 38) (y' := mX7_isBarred) dX7_bars_35 ml_RX7_163 ok_mX7_isBarred rfl (by decide) rfl (Nat.le_of_ble_eq_true rfl) (Nat.le_of_ble_eq_true rfl) (Nat.le_refl _) (Nat.le_refl _) rfl (t_X7_isB _ L e hg dd h v (by omega) (by rw [(z_tw_ok L.hT (h := h) (by omega)).1, hv]; rfl) hv9 (by omega) (by omega)) ?_
        rintro _ _ ⟨rfl, rfl⟩
        refine zx_if_eq (q := 41) (t := 48) dX7_bars_38 (by decide) rfl (fun c_38 => ?_) (fun c_38 => ?_)
        · have hpp : ¬ z_brp gi ns m dd h = true := by rw [zb_z] at c_38; rw [hpe, c_38]; decide
          refine zx_iinc2 (q := 51) dX7_bars_48 rfl rfl ?_
          refine zx_goto (t := 14) dX7_bars_51 (by decide) ?_
          rw [z_inc, z_hin, if_neg hpp]
          exact ih k (by omega) (h + 1) (by omega)
        · have hpp : z_brp gi ns m dd h = true := by rw [zb_nz] at c_38; rw [hpe]; exact c_38
          refine zx_bipush (q := 43) (v := 100) dX7_bars_41 (by decide) rfl ?_
          refine zx_iload_n (q := 44) dX7_bars_43 rfl rfl rfl ?_
          refine zx_imul (q := 45) dX7_bars_44 rfl ?_
          refine zx_iload_n (q := 46) dX7_bars_45 rfl rfl rfl ?_
          refine zx_iadd (q := 47) dX7_bars_46 rfl ?_
          refine zx_iret dX7_bars_47 rfl (Nat.le_refl _) (Nat.le_refl _) ⟨_, rfl, ?_⟩
          exact ⟨by rw [z_hin, if_pos hpp, show (100 : Int32) = nI 100 from rfl, z_mul, nI_add], rfl⟩
theorem lp_C_bars (d : Nat) {ns m mo : Nat} {g : Nat → Nat → Int32} (L : zLK gi ns m) (e : ∀ k j, ¬ (47 ≤ k ∧ k ≤ 55) → g k j = gi k j) (hg : zSG g ns mo (z_sh gi m) (z_ow gi m) ns) : ∀ (k dd : Nat) (w2 : Option Value), dd + k = 31 → 2 ≤ dd → zW l D tc A mX7_bars (d + 2) 0 0 0 0 6 [some (.ref 0), some (.int (nI dd)), w2] [] (zs g gl f) (zQi fun r S' => r = z_hou (z_brp gi ns m) (fun _ => 3) 0 k dd ∧ S' = zs g gl f) := by
  intro k
  induction k using Nat.strongRecOn with
  | _ k ih =>
    intro dd w2 hk hd2
    refine zx_iload_n (q := 7) dX7_bars_6 rfl rfl rfl ?_
    refine zx_bipush (q := 9) (v := 30) dX7_bars_7 (by decide) rfl ?_
    refine zx_icmp_gt (q := 12) (t := 60) dX7_bars_9 (by decide) rfl (fun c_9 => ?_) (fun c_9 => ?_)
    · have hk0 : k = 0 := by rw [show (30 : Int32) = nI 30 from rfl, nI_ltI (by omega) (by omega)] at c_9; omega
      subst hk0
      refine zx_bipush (q := 62) (v := (-5)) dX7_bars_60 (by decide) rfl ?_
      refine zx_iret dX7_bars_62 rfl (Nat.le_refl _) (Nat.le_refl _) ⟨_, rfl, ?_⟩
      exact ⟨rfl, rfl⟩
    · have hd9 : dd ≤ 30 := by rw [show (30 : Int32) = nI 30 from rfl, nI_ltI (by omega) (by omega)] at c_9; omega
      obtain ⟨k, rfl⟩ : ∃ q, k = q + 1 := ⟨k - 1, by omega⟩
      refine zx_iconst (q := 13) (v := 0) dX7_bars_12 (by decide) rfl ?_
      refine zx_istore2 (q := 14) dX7_bars_13 rfl rfl ?_
      rw [z_hou]
      refine lp_C_barI d L e hg dd hd2 hd9 _ ?_ 3 0 (by omega)
      refine zx_iinc1 (q := 57) dX7_bars_54 rfl rfl ?_
      refine zx_goto (t := 6) dX7_bars_57 (by decide) ?_
      rw [z_inc]
      exact ih k (by omega) (dd + 1) _ (by omega) (by omega)
theorem lp_M_barG (d : Nat) {ns m : Nat} {g : Nat → Nat → Int32} (L : zLK gi ns m) (e : ∀ k j, ¬ (47 ≤ k ∧ k ≤ 55) → ¬ (126 ≤ k ∧ k ≤ 128) → g k j = gi k j) (hg : zSM g (z_sh gi m) (z_ow gi m) ns) (dd h : Nat) (hh : h < 3) {Q : Option Value → zw_S → Prop} : ∀ (k s x : Nat) (kk : ∀ s', zW l D tc A mX8_bars (d + 1) 0 0 0 0 56 [some (.ref 108), some (.int (nI dd)), some (.int (nI h)), some (.int (nI (z_gl (fun s => z_sh gi m s h) k s x))), some (.int (nI s'))] [] (zs g gl f) Q), s + k = ns → 0 < x → x ≤ 30 → zW l D tc A mX8_bars (d + 1) 0 0 0 0 24 [some (.ref 108), some (.int (nI dd)), some (.int (nI h)), some (.int (nI x)), some (.int (nI s))] [] (zs g gl f) Q := by
  intro k
  induction k using Nat.strongRecOn with
  | _ k ih =>
    intro s x kk hk hx0 hx9
    have hns := L.hns
    refine zx_iload (q := 26) dX8_bars_24 rfl rfl ?_
    refine zx_aload_n (q := 27) dX8_bars_26 rfl rfl rfl ?_
    refine zy_getIe (q := 30) (v := nI ns) dX8_bars_27 fl_RX8_7 rfl rfl ((e _ _ (by omega) (by omega)).trans L.hs2) rfl ?_
    refine zx_icmp_ge (q := 33) (t := 56) dX8_bars_30 (by decide) rfl (fun c_30 => ?_) (fun c_30 => ?_)
    · have hs2 : s = ns := by have := z_ge (x := nI ns) rfl (by omega) c_30; omega
      have hk0 : k = 0 := by omega
      subst hk0
      exact kk s
    · have hs2 : s < ns := z_lt (x := nI ns) rfl (by omega) c_30
      obtain ⟨k, rfl⟩ : ∃ q, k = q + 1 := ⟨k - 1, by omega⟩
      have hshb := z_sh_le L hs2 hh
      refine zx_aload_n (q := 34) dX8_bars_33 rfl rfl rfl ?_
      refine zx_iload_n (q := 35) dX8_bars_34 rfl rfl rfl ?_
      refine zx_aload_n (q := 36) dX8_bars_35 rfl rfl rfl ?_
      refine zy_getR (q := 39) dX8_bars_36 fl_RX8_96 rfl rfl rfl rfl ?_
      refine zx_iconst (q := 40) (v := 3) dX8_bars_39 (by decide) rfl ?_
      refine zx_iload (q := 42) dX8_bars_40 rfl rfl ?_
      refine zx_imul (q := 43) dX8_bars_42 rfl ?_
      refine zx_iload_n (q := 44) dX8_bars_43 rfl rfl rfl ?_
      refine zx_iadd (q := 45) dX8_bars_44 rfl ?_
      rw [z_3]
      refine zy_ialdN (q := 46) dX8_bars_45 rfl (by omega) (by first | decide | omega) rfl ?_
      rw [(hg s hs2).2 h hh]
      refine zx_callV2i (q := 49) (y' := mX8_divisor) dX8_bars_46 ml_RX8_317 ok_mX8_divisor rfl (by decide) rfl (Nat.le_of_ble_eq_true rfl) (Nat.le_of_ble_eq_true rfl) (Nat.le_refl _) (Nat.le_refl _) rfl (t_X8_dv _ x _ (by omega) (by omega)) ?_
      rintro _ _ ⟨rfl, rfl⟩
      refine zx_istore3 (q := 50) dX8_bars_49 rfl rfl ?_
      refine zx_iinc4 (q := 53) dX8_bars_50 rfl rfl ?_
      refine zx_goto (t := 24) dX8_bars_53 (by decide) ?_
      rw [z_inc]
      exact ih k (by omega) (s + 1) _ kk (by omega) (Nat.gcd_pos_of_pos_right _ hx0) (Nat.le_trans (Nat.gcd_le_right _ hx0) hx9)
theorem lp_M_barI (d : Nat) {ns m : Nat} {g : Nat → Nat → Int32} (L : zLK gi ns m) (e : ∀ k j, ¬ (47 ≤ k ∧ k ≤ 55) → ¬ (126 ≤ k ∧ k ≤ 128) → g k j = gi k j) (hg : zSM g (z_sh gi m) (z_ow gi m) ns) (dd : Nat) (hd0 : 2 ≤ dd) (hd9 : dd ≤ 30) (R : Int32) (kk : ∀ (w3 w4 : Option Value), zW l D tc A mX8_bars (d + 1) 0 0 0 0 89 [some (.ref 108), some (.int (nI dd)), some (.int (nI 3)), w3, w4] [] (zs g gl f) (zQi fun r S' => r = R ∧ S' = zs g gl f)) : ∀ (k h : Nat) (w3 w4 : Option Value), h + k = 3 → zW l D tc A mX8_bars (d + 1) 0 0 0 0 14 [some (.ref 108), some (.int (nI dd)), some (.int (nI h)), w3, w4] [] (zs g gl f) (zQi fun r S' => r = z_hin (z_brp gi ns m dd) dd R k h ∧ S' = zs g gl f) := by
  intro k
  induction k using Nat.strongRecOn with
  | _ k ih =>
    intro h w3 w4 hh
    refine zx_iload_n (q := 15) dX8_bars_14 rfl rfl rfl ?_
    refine zx_iconst (q := 16) (v := 3) dX8_bars_15 (by decide) rfl ?_
    refine zx_icmp_ge (q := 19) (t := 89) dX8_bars_16 (by decide) rfl (fun c_16 => ?_) (fun c_16 => ?_)
    · have hs2 : h = 3 := by have := z_ge (x := nI (3)) rfl (by omega) c_16; omega
      have hk0 : k = 0 := by omega
      subst hk0
      have hh3 : h = 3 := by omega
      subst hh3
      exact kk _ _
    · have hs2 : h < 3 := z_lt (x := nI (3)) rfl (by omega) c_16
      obtain ⟨k, rfl⟩ : ∃ q, k = q + 1 := ⟨k - 1, by omega⟩
      refine zx_iload_n (q := 20) dX8_bars_19 rfl rfl rfl ?_
      refine zx_istore3 (q := 21) dX8_bars_20 rfl rfl ?_
      refine zx_iconst (q := 22) (v := 0) dX8_bars_21 (by decide) rfl ?_
      refine zx_istore4 (q := 24) dX8_bars_22 rfl rfl ?_
      refine lp_M_barG d L e hg dd h (by omega) ns 0 dd (fun s' => ?_) (by omega) (by omega) (by omega)
      have hgp := z_gl_ok (fn := (fun s => z_sh gi m s h)) (b := 30) ns 0 dd (by omega) (by omega)
      have hgne : ¬ nI (z_gl (fun s => z_sh gi m s h) ns 0 dd) = 0 := nI_ne0 hgp.1 (by omega)
      refine zx_aload_n (q := 57) dX8_bars_56 rfl rfl rfl ?_
      refine zy_getR (q := 60) dX8_bars_57 fl_RX8_38 rfl rfl rfl rfl ?_
      refine zx_iload_n (q := 61) dX8_bars_60 rfl rfl rfl ?_
      refine zy_ialdN (q := 62) dX8_bars_61 rfl (by omega) (by first | decide | omega) rfl ?_
      rw [e _ _ (by omega) (by omega), (z_tw_ok L.hT (h := h) (by omega)).2.1]
      have hwb := (z_tw_ok L.hT (h := h) (by omega)).2.2
      refine zx_if_lt (q := 65) (t := 83) dX8_bars_62 (by decide) rfl (fun c_62 => ?_) (fun c_62 => ?_)
      · have hv : z_tw gi h = none := (z_ov_neg (fun v hv => by have := hwb v hv; omega)).mp c_62
        have hpp : ¬ z_brp gi ns m dd h = true := by unfold z_brp; rw [hv]; simp
        refine zx_iinc2 (q := 86) dX8_bars_83 rfl rfl ?_
        refine zx_goto (t := 14) dX8_bars_86 (by decide) ?_
        rw [z_inc, z_hin, if_neg hpp]
        exact ih k (by omega) (h + 1) _ _ (by omega)
      · obtain ⟨v, hv⟩ : ∃ v, z_tw gi h = some v := by cases hx : z_tw gi h with | none => exact absurd (by rw [hx]; decide) c_62 | some v => exact ⟨v, rfl⟩
        have hv9 := hwb v hv
        have hpe : z_brp gi ns m dd h = decide (¬ v % z_gl (fun s => z_sh gi m s h) ns 0 dd = 0) := by unfold z_brp; rw [hv]
        refine zx_aload_n (q := 66) dX8_bars_65 rfl rfl rfl ?_
        refine zy_getR (q := 69) dX8_bars_66 fl_RX8_38 rfl rfl rfl rfl ?_
        refine zx_iload_n (q := 70) dX8_bars_69 rfl rfl rfl ?_
        refine zy_ialdN (q := 71) dX8_bars_70 rfl (by omega) (by first | decide | omega) rfl ?_
        rw [e _ _ (by omega) (by omega), (z_tw_ok L.hT (h := h) (by omega)).2.1, hv, z_ov_some]
        refine zx_iload_n (q := 72) dX8_bars_71 rfl rfl rfl ?_
        refine zx_irem (q := 73) dX8_bars_72 hgne rfl ?_
        rw [z_rem (by omega) (by omega)]
        refine zx_if_eq (q := 76) (t := 83) dX8_bars_73 (by decide) rfl (fun c_73 => ?_) (fun c_73 => ?_)
        · have hpp : ¬ z_brp gi ns m dd h = true := by rw [hpe, decide_eq_true_eq]; intro z; exact z ((nI_eq (a := v % z_gl (fun s => z_sh gi m s h) ns 0 dd) (b := 0) (by have := Nat.mod_lt v hgp.1; omega) (by omega)).mp c_73)
          refine zx_iinc2 (q := 86) dX8_bars_83 rfl rfl ?_
          refine zx_goto (t := 14) dX8_bars_86 (by decide) ?_
          rw [z_inc, z_hin, if_neg hpp]
          exact ih k (by omega) (h + 1) _ _ (by omega)
        · have hpp : z_brp gi ns m dd h = true := by rw [hpe, decide_eq_true_eq]; intro z; exact c_73 (by rw [z]; rfl)
          refine zx_bipush (q := 78) (v := 100) dX8_bars_76 (by decide) rfl ?_
          refine zx_iload_n (q := 79) dX8_bars_78 rfl rfl rfl ?_
          refine zx_imul (q := 80) dX8_bars_79 rfl ?_
          refine zx_iload_n (q := 81) dX8_bars_80 rfl rfl rfl ?_
          refine zx_iadd (q := 82) dX8_bars_81 rfl ?_
          refine zx_iret dX8_bars_82 rfl (Nat.le_refl _) (Nat.le_refl _) ⟨_, rfl, ?_⟩
          exact ⟨by rw [z_hin, if_pos hpp, show (100 : Int32) = nI 100 from rfl, z_mul, nI_add], rfl⟩
theorem lp_M_bars (d : Nat) {ns m : Nat} {g : Nat → Nat → Int32} (L : zLK gi ns m) (e : ∀ k j, ¬ (47 ≤ k ∧ k ≤ 55) → ¬ (126 ≤ k ∧ k ≤ 128) → g k j = gi k j) (hg : zSM g (z_sh gi m) (z_ow gi m) ns) : ∀ (k dd : Nat) (w2 : Option Value) (w3 w4 : Option Value), dd + k = 31 → 2 ≤ dd → zW l D tc A mX8_bars (d + 1) 0 0 0 0 6 [some (.ref 108), some (.int (nI dd)), w2, w3, w4] [] (zs g gl f) (zQi fun r S' => r = z_hou (z_brp gi ns m) (fun _ => 3) 0 k dd ∧ S' = zs g gl f) := by
  intro k
  induction k using Nat.strongRecOn with
  | _ k ih =>
    intro dd w2 w3 w4 hk hd2
    refine zx_iload_n (q := 7) dX8_bars_6 rfl rfl rfl ?_
    refine zx_bipush (q := 9) (v := 31) dX8_bars_7 (by decide) rfl ?_
    refine zx_icmp_ge (q := 12) (t := 95) dX8_bars_9 (by decide) rfl (fun c_9 => ?_) (fun c_9 => ?_)
    · have hk0 : k = 0 := by rw [show (31 : Int32) = nI 31 from rfl, nI_leI (by omega) (by omega)] at c_9; omega
      subst hk0
      refine zx_bipush (q := 97) (v := (-5)) dX8_bars_95 (by decide) rfl ?_
      refine zx_iret dX8_bars_97 rfl (Nat.le_refl _) (Nat.le_refl _) ⟨_, rfl, ?_⟩
      exact ⟨rfl, rfl⟩
    · have hd9 : dd ≤ 30 := by rw [show (31 : Int32) = nI 31 from rfl, nI_leI (by omega) (by omega)] at c_9; omega
      obtain ⟨k, rfl⟩ : ∃ q, k = q + 1 := ⟨k - 1, by omega⟩
      refine zx_iconst (q := 13) (v := 0) dX8_bars_12 (by decide) rfl ?_
      refine zx_istore2 (q := 14) dX8_bars_13 rfl rfl ?_
      rw [z_hou]
      refine lp_M_barI d L e hg dd hd2 hd9 _ (fun w3 w4 => ?_) 3 0 _ _ (by omega)
      refine zx_iinc1 (q := 92) dX8_bars_89 rfl rfl ?_
      refine zx_goto (t := 6) dX8_bars_92 (by decide) ?_
      rw [z_inc]
      exact ih k (by omega) (dd + 1) _ _ _ (by omega) (by omega)
set_option maxHeartbeats 4000000 in
theorem op_bars (d : Nat)  (hR : zRel gi gl) : zOpI l D tc A mX7_bars mX8_bars (d + 5) [] gi gl f := by
  obtain ⟨ns, m, L⟩ := zLK_of hR
  show zW l D tc A mX7_bars (d + 5) 0 0 0 0 0 [some (.ref 0), none, none] [] (zs gi gl f) _
  refine zx_aload_n (q := 1) dX7_bars_0 rfl rfl rfl ?_
  refine zx_callV0v (q := 4) (y' := mX7_look) dX7_bars_1 ml_RX7_95 ok_mX7_look rfl (by decide) rfl (Nat.le_of_ble_eq_true rfl) (Nat.le_of_ble_eq_true rfl) (Nat.le_refl _) (Nat.le_refl _) rfl (t_X7_look _ L) ?_
  rintro _ ⟨g1, rfl, k1, s1⟩
  refine zx_iconst (q := 5) (v := 2) dX7_bars_4 (by decide) rfl ?_
  refine zx_istore1 (q := 6) dX7_bars_5 rfl rfl ?_
  refine zW.mono (lp_C_bars (d + 3) L k1 s1 29 2 _ (by omega) (by omega)) ?_
  rintro _ _ ⟨r, rfl, rfl, rfl⟩
  refine ⟨_, rfl, _, _, _, rfl, ?_⟩
  show zW l D tc A mX8_bars (d + 5) 0 0 0 0 0 [some (.ref 108), none, none, none, none] [] (zs _ _ _) _
  refine zx_aload_n (q := 1) dX8_bars_0 rfl rfl rfl ?_
  refine zx_callV0v (q := 4) (y' := mX8_layShows) dX8_bars_1 ml_RX8_278 ok_mX8_layShows rfl (by decide) rfl (Nat.le_of_ble_eq_true rfl) (Nat.le_of_ble_eq_true rfl) (Nat.le_refl _) (Nat.le_refl _) rfl (t_X8_layK _ (zLK_fr L (fun k j z => k1 k j (by unfold z_scr at z; omega)) (k1 _ _ (by omega)))) ?_
  rintro _ ⟨g2, rfl, k2, s2⟩
  have s2 := zSM_cg s2 L.hns (fun k j z => k1 k j (by omega))
  have k2 : ∀ k j, ¬ (47 ≤ k ∧ k ≤ 55) → ¬ (126 ≤ k ∧ k ≤ 128) → g2 k j = gi k j := fun k j a b => (k2 k j b).trans (k1 k j a)
  refine zx_iconst (q := 5) (v := 2) dX8_bars_4 (by decide) rfl ?_
  refine zx_istore1 (q := 6) dX8_bars_5 rfl rfl ?_
  refine zW.mono (lp_M_bars (d + 4) L k2 s2 29 2 _ _ _ (by omega) (by omega)) ?_
  rintro _ _ ⟨r, rfl, rfl, rfl⟩
  exact ⟨_, rfl, rfl, _, _, _, rfl, zRel_scr hR (fun k j z => k2 k j (by unfold z_scr at z; omega) (by unfold z_scr at z; omega))⟩
end P48
