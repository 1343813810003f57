/-! op months -/
theorem z_hdS {gi : Nat → Nat → Int32} {ns s : Nat} (h : zSNow gi ns) (hs : s < ns) : z_hd gi 0 s ≤ 12 ∧ gi 15 s = nI (z_hd gi 0 s) ∧ gi 113 s = nI (z_hd gi 0 s) := by
  obtain ⟨k, v, t, _, _, _, _, _, ⟨n, hn, h1, h2⟩, _⟩ := z_srt h hs
  have e : z_hd gi 0 s = n := by unfold z_hd; rw [show gi (15 + 0) s = nI n from h1, nI_clamp (by omega)]
  rw [e]
  exact ⟨hn, h1, h2⟩
/-- does the hole h show what is told, in the month m -/
def z_mq (gi : Nat → Nat → Int32) (ns m h : Nat) : Bool := decide (gi 17 h = -1) || decide (gi 17 h = nI (z_ct gi m ns 0 h))
def z_mb (gi : Nat → Nat → Int32) (ns : Nat) : Nat → Nat → Int32 → Int32
  | 0, _, x => x
  | k + 1, m, x => z_mb gi ns k (m + 1) (if z_al (z_mq gi ns m) 3 0 = true then x ||| (1 <<< (nI m &&& 31)) else x)
section P50
variable {l : Launch} {D : va_G} {tc : Nat → ClassId} {A : Nat → Prop} {S : zw_S} {gi : Nat → Nat → Int32} {gl : Nat → Nat → Int64} {f : Option Nat}
theorem t_totalS (d h : Nat) {ns m mo : Nat} {g : Nat → Nat → Int32} (hS : zSNow gi ns) (hns : ns ≤ 5) (hh : h < 3) (e : ∀ s, g 15 s = gi 15 s) (hg : zSG g ns mo (z_sh gi m) (z_ow gi m) ns) :
    zCall l D tc A mX4_total d 0 0 [.ref 47, .ref 15, .int (nI h)] (zs g gl f) (zQi fun r S' => r = nI (z_ct gi m ns 0 h) ∧ S' = zs g gl f) := by
  refine zW.mono (t_X4_total d ns 15 h hg.1 hns hh rfl) ?_
  rintro r S' ⟨x, hx, h1, h2⟩
  refine ⟨x, hx, ?_, h2⟩
  rw [h1]
  exact z_sum_nI ns (fun s hs => by rw [e, (z_hdS hS hs).2.1, (hg.2.2 s hs).2 h hh, z_mul])
theorem t_ownS (d h : Nat) {ns m : Nat} {g : Nat → Nat → Int32} (hS : zSNow gi ns) (hns : ns ≤ 5) (hh : h < 3) (hn : g 108 0 = nI ns) (e : ∀ s, g 113 s = gi 113 s) (hg : zSM g (z_sh gi m) (z_ow gi m) ns) :
    zCall l D tc A mX8_ownCount d 0 0 [.ref 108, .int (nI h)] (zs g gl f) (zQi fun r S' => r = nI (z_ct gi m ns 0 h) ∧ S' = zs g gl f) := by
  refine zW.mono (t_X8_ownCount d ns h hn hns hh) ?_
  rintro r S' ⟨x, hx, h1, h2⟩
  refine ⟨x, hx, ?_, h2⟩
  rw [h1]
  exact z_sum_nI ns (fun s hs => by rw [e, (z_hdS hS hs).2.2, (hg s hs).2 h hh, z_mul])
theorem z_zm (x y : Int32) : x - nI 0 * y = x := by
  rw [show nI 0 = (0 : Int32) from rfl, Int32.zero_mul]
  exact Int32.sub_zero x
theorem lp_X7_itm (d : Nat) {ns m mo : Nat} {g : Nat → Nat → Int32} (hS : zSNow gi ns) (hns : ns ≤ 5) (e : ∀ k j, ¬ (47 ≤ k ∧ k ≤ 55) → g k j = gi k j) (hg : zSG g ns mo (z_sh gi m) (z_ow gi m) ns) : ∀ (k h : Nat) (w : Option Value), h + k = 3 → zW l D tc A mX7_isToldWithout (d + 1) 0 0 0 0 2 [some (.ref 0), some (.int (nI 0)), some (.int (nI 0)), some (.int (nI h)), w] [] (zs g gl f) (zQi fun r S' => r = zb (z_al (z_mq gi ns m) k h) ∧ S' = zs g gl f) := by
  intro k
  induction k using Nat.strongRecOn with
  | _ k ih =>
    intro h w hh
    refine zx_iload_n (q := 3) dX7_isToldWithout_2 rfl rfl rfl ?_
    refine zx_iconst (q := 4) (v := 3) dX7_isToldWithout_3 (by decide) rfl ?_
    refine zx_icmp_ge (q := 7) (t := 75) dX7_isToldWithout_4 (by decide) rfl (fun c_4 => ?_) (fun c_4 => ?_)
    · have hs2 : h = 3 := by have := z_ge (x := nI (3)) rfl (by omega) c_4; omega
      have hk0 : k = 0 := by omega
      subst hk0
      refine zx_iconst (q := 76) (v := 1) dX7_isToldWithout_75 (by decide) rfl ?_
      refine zx_zret dX7_isToldWithout_76 rfl (by first | rfl | exact zb_nar _) (Nat.le_refl _) (Nat.le_refl _) ⟨_, rfl, ?_⟩
      exact ⟨rfl, rfl⟩
    · have hs2 : h < 3 := z_lt (x := nI (3)) rfl (by omega) c_4
      obtain ⟨k, rfl⟩ : ∃ q, k = q + 1 := ⟨k - 1, by omega⟩
      refine zx_aload_n (q := 8) dX7_isToldWithout_7 rfl rfl rfl ?_
      refine zy_getR (q := 11) dX7_isToldWithout_8 fl_RX7_42 rfl rfl rfl rfl ?_
      refine zx_aload_n (q := 12) dX7_isToldWithout_11 rfl rfl rfl ?_
      refine zy_getR (q := 15) dX7_isToldWithout_12 fl_RX7_12 rfl rfl rfl rfl ?_
      refine zy_getR (q := 18) dX7_isToldWithout_15 fl_RX7_92 rfl rfl rfl rfl ?_
      refine zx_iconst (q := 19) (v := 0) dX7_isToldWithout_18 (by decide) rfl ?_
      refine zy_aaldN (i := 0) (q := 20) dX7_isToldWithout_19 rfl (by decide) (by omega) (by decide) rfl rfl ?_
      refine zx_iload_n (q := 21) dX7_isToldWithout_20 rfl rfl rfl ?_
      refine zx_callV2i (q := 24) (y' := mX4_total) dX7_isToldWithout_21 ml_RX7_144 ok_mX4_total rfl (by decide) rfl (Nat.le_of_ble_eq_true rfl) (Nat.le_of_ble_eq_true rfl) (Nat.le_refl _) (Nat.le_refl _) rfl (t_totalS _ h hS hns (by omega) (fun s => e _ _ (by omega)) hg) ?_
      rintro _ _ ⟨rfl, rfl⟩
      refine zx_iload_n (q := 25) dX7_isToldWithout_24 rfl rfl rfl ?_
      refine zx_aload_n (q := 26) dX7_isToldWithout_25 rfl rfl rfl ?_
      refine zy_getR (q := 29) dX7_isToldWithout_26 fl_RX7_42 rfl rfl rfl rfl ?_
      refine zy_getR (q := 32) dX7_isToldWithout_29 fl_RX7_104 rfl rfl rfl rfl ?_
      refine zx_iload_n (q := 33) dX7_isToldWithout_32 rfl rfl rfl ?_
      refine zy_aaldN (i := 0) (q := 34) dX7_isToldWithout_33 rfl (by decide) (by omega) (by decide) rfl rfl ?_
      refine zx_iload_n (q := 35) dX7_isToldWithout_34 rfl rfl rfl ?_
      refine zy_ialdN (q := 36) dX7_isToldWithout_35 rfl (by omega) (by first | decide | omega) rfl ?_
      refine zx_imul (q := 37) dX7_isToldWithout_36 rfl ?_
      refine zx_isub (q := 38) dX7_isToldWithout_37 rfl ?_
      rw [z_zm]
      refine zx_istore4 (q := 40) dX7_isToldWithout_38 rfl rfl ?_
      refine zx_aload_n (q := 41) dX7_isToldWithout_40 rfl rfl rfl ?_
      refine zy_getR (q := 44) dX7_isToldWithout_41 fl_RX7_12 rfl rfl rfl rfl ?_
      refine zy_getR (q := 47) dX7_isToldWithout_44 fl_RX7_113 rfl rfl rfl rfl ?_
      refine zx_iload_n (q := 48) dX7_isToldWithout_47 rfl rfl rfl ?_
      refine zy_ialdN (q := 49) dX7_isToldWithout_48 rfl (by omega) (by first | decide | omega) rfl ?_
      rw [e 17 _ (by omega)]
      refine zx_iconst (q := 50) (v := (-1)) dX7_isToldWithout_49 (by decide) rfl ?_
      refine zx_icmp_eq (q := 53) (t := 69) dX7_isToldWithout_50 (by decide) rfl (fun c_50 => ?_) (fun c_50 => ?_)
      · refine zx_iinc3 (q := 72) dX7_isToldWithout_69 rfl rfl ?_
        refine zx_goto (t := 2) dX7_isToldWithout_72 (by decide) ?_
        rw [z_inc, z_al, show z_mq gi ns m h = true from by simp_all [z_mq], Bool.true_and]
        exact ih k (by omega) (h + 1) _ (by omega)
      · refine zx_aload_n (q := 54) dX7_isToldWithout_53 rfl rfl rfl ?_
        refine zy_getR (q := 57) dX7_isToldWithout_54 fl_RX7_12 rfl rfl rfl rfl ?_
        refine zy_getR (q := 60) dX7_isToldWithout_57 fl_RX7_113 rfl rfl rfl rfl ?_
        refine zx_iload_n (q := 61) dX7_isToldWithout_60 rfl rfl rfl ?_
        refine zy_ialdN (q := 62) dX7_isToldWithout_61 rfl (by omega) (by first | decide | omega) rfl ?_
        rw [e 17 _ (by omega)]
        refine zx_iload (q := 64) dX7_isToldWithout_62 rfl rfl ?_
        refine zx_icmp_eq (q := 67) (t := 69) dX7_isToldWithout_64 (by decide) rfl (fun c_64 => ?_) (fun c_64 => ?_)
        · refine zx_iinc3 (q := 72) dX7_isToldWithout_69 rfl rfl ?_
          refine zx_goto (t := 2) dX7_isToldWithout_72 (by decide) ?_
          rw [z_inc, z_al, show z_mq gi ns m h = true from by simp_all [z_mq], Bool.true_and]
          exact ih k (by omega) (h + 1) _ (by omega)
        · refine zx_iconst (q := 68) (v := 0) dX7_isToldWithout_67 (by decide) rfl ?_
          refine zx_zret dX7_isToldWithout_68 rfl (by first | rfl | exact zb_nar _) (Nat.le_refl _) (Nat.le_refl _) ⟨_, rfl, ?_⟩
          exact ⟨by rw [z_al, show z_mq gi ns m h = false from by simp [z_mq, c_50, c_64]]; rfl, rfl⟩
theorem t_X7_itm (d : Nat) {ns m mo : Nat} {g : Nat → Nat → Int32} (hS : zSNow gi ns) (hns : ns ≤ 5) (e : ∀ k j, ¬ (47 ≤ k ∧ k ≤ 55) → g k j = gi k j) (hg : zSG g ns mo (z_sh gi m) (z_ow gi m) ns) : zCall l D tc A mX7_isToldWithout (d + 1) 0 0 [.ref 0, .int 0, .int 0] (zs g gl f) (zQi fun r S' => r = zb (z_al (z_mq gi ns m) 3 0) ∧ S' = zs g gl f) := by
  show zW l D tc A mX7_isToldWithout (d + 1) 0 0 0 0 0 [some (.ref 0), some (.int 0), some (.int 0), none, none] [] (zs g gl f) _
  refine zx_iconst (q := 1) (v := 0) dX7_isToldWithout_0 (by decide) rfl ?_
  refine zx_istore3 (q := 2) dX7_isToldWithout_1 rfl rfl ?_
  exact lp_X7_itm d hS hns e hg 3 0 none (by omega)
theorem zLK_g {ns mm : Nat} {g : Nat → Nat → Int32} (L : zLK gi ns mm) (e : ∀ k j, ¬ (47 ≤ k ∧ k ≤ 55) → g k j = gi k j) : zIsF g (z_F g) ∧ zIsM g ∧ zSNow g ns ∧ (∀ m s h, s < 5 → z_sh g m s h = z_sh gi m s h) ∧ (∀ m s, s < 5 → z_ow g m s = z_ow gi m s) := by
  have L2 : zLK g ns mm := zLK_fr L (fun k j z => e k j (by unfold z_scr at z; omega)) (e _ _ (by omega))
  exact ⟨L2.hF, L2.hM, L2.hS, fun m s h hs => z_sh_cg (fun k j z => e k j (by omega)) hs h, fun m s hs => z_ow_cg (fun k j z => e k j (by omega)) hs⟩
theorem zSG_sw {ns mo : Nat} {g : Nat → Nat → Int32} {sh sh' : Nat → Nat → Nat} {ow ow' : Nat → Nat} (h : zSG g ns mo sh ow ns) (e1 : ∀ s, s < ns → ∀ j, sh s j = sh' s j) (e2 : ∀ s, s < ns → ow s = ow' s) : zSG g ns mo sh' ow' ns :=
  ⟨h.1, h.2.1, fun s hs => ⟨by rw [← e2 s hs]; exact (h.2.2 s hs).1, fun j hj => by rw [← e1 s hs]; exact (h.2.2 s hs).2 j hj⟩⟩
theorem lp_X7_months (d : Nat) {ns mm : Nat} (L : zLK gi ns mm) : ∀ (k m : Nat) (x : Int32) (g : Nat → Nat → Int32), m + k = 12 → (∀ k j, ¬ (47 ≤ k ∧ k ≤ 55) → g k j = gi k j) → zW l D tc A mX7_months (d + 4) 0 0 0 0 4 [some (.ref 0), some (.int x), some (.int (nI m))] [] (zs g gl f) (zQi fun r S' => r = z_mb gi ns k m x ∧ ∃ g2, S' = zs g2 gl f ∧ ∀ k j, ¬ (47 ≤ k ∧ k ≤ 55) → g2 k j = gi k j) := by
  intro k
  induction k using Nat.strongRecOn with
  | _ k ih =>
    intro m x g hm e
    have hns := L.hns
    refine zx_iload_n (q := 5) dX7_months_4 rfl rfl rfl ?_
    refine zx_bipush (q := 7) (v := 12) dX7_months_5 (by decide) rfl ?_
    refine zx_icmp_ge (q := 10) (t := 47) dX7_months_7 (by decide) rfl (fun c_7 => ?_) (fun c_7 => ?_)
    · have hk0 : k = 0 := by rw [show (12 : Int32) = nI 12 from rfl, nI_leI (by omega) (by omega)] at c_7; omega
      subst hk0
      refine zx_iload_n (q := 48) dX7_months_47 rfl rfl rfl ?_
      refine zx_iret dX7_months_48 rfl (Nat.le_refl _) (Nat.le_refl _) ⟨_, rfl, ?_⟩
      exact ⟨rfl, g, rfl, e⟩
    · have hm9 : m < 12 := by rw [show (12 : Int32) = nI 12 from rfl, nI_leI (by omega) (by omega)] at c_7; omega
      obtain ⟨k, rfl⟩ : ∃ q, k = q + 1 := ⟨k - 1, by omega⟩
      obtain ⟨q1, q2, q3, q4, q5⟩ := zLK_g L e
      refine zx_aload_n (q := 11) dX7_months_10 rfl rfl rfl ?_
      refine zy_getR (q := 14) dX7_months_11 fl_RX7_42 rfl rfl rfl rfl ?_
      refine zx_aload_n (q := 15) dX7_months_14 rfl rfl rfl ?_
      refine zy_getR (q := 18) dX7_months_15 fl_RX7_12 rfl rfl rfl rfl ?_
      refine zx_aload_n (q := 19) dX7_months_18 rfl rfl rfl ?_
      refine zx_callV0r (q := 22) (y' := mX7_holdingFence) dX7_months_19 ml_RX7_208 ok_mX7_holdingFence rfl (by decide) rfl (Nat.le_of_ble_eq_true rfl) (Nat.le_of_ble_eq_true rfl) (Nat.le_refl _) (Nat.le_refl _) rfl (t_X7_holdingFence _ (by rw [e _ _ (by omega)]; exact L.hx)) ?_
      rintro _ _ ⟨rfl, rfl⟩
      refine zx_iload_n (q := 23) dX7_months_22 rfl rfl rfl ?_
      refine zx_callV3v (q := 26) (y' := mX4_look) dX7_months_23 ml_RX7_212 ok_mX4_look rfl (by decide) rfl (Nat.le_of_ble_eq_true rfl) (Nat.le_of_ble_eq_true rfl) (Nat.le_refl _) (Nat.le_refl _) rfl (t_X4_look _ (z_F g) ns m q1 q2 q3 L.hns hm9 ((e _ _ (by omega)).trans L.hs1)) ?_
      rintro _ ⟨g1, rfl, k1, s1⟩
      have s1 := zSG_sw s1 (fun s hs j => q4 m s j (by omega)) (fun s hs => q5 m s (by omega))
      have k1 : ∀ k j, ¬ (47 ≤ k ∧ k ≤ 55) → g1 k j = gi k j := fun k j z => (k1 k j z).trans (e k j z)
      refine zx_aload_n (q := 27) dX7_months_26 rfl rfl rfl ?_
      refine zx_iconst (q := 28) (v := 0) dX7_months_27 (by decide) rfl ?_
      refine zx_iconst (q := 29) (v := 0) dX7_months_28 (by decide) rfl ?_
      refine zx_callV2i (q := 32) (y' := mX7_isToldWithout) dX7_months_29 ml_RX7_205 ok_mX7_isToldWithout rfl (by decide) rfl (Nat.le_of_ble_eq_true rfl) (Nat.le_of_ble_eq_true rfl) (Nat.le_refl _) (Nat.le_refl _) rfl (t_X7_itm _ L.hS L.hns k1 s1) ?_
      rintro _ _ ⟨rfl, rfl⟩
      refine zx_if_eq (q := 35) (t := 41) dX7_months_32 (by decide) rfl (fun c_32 => ?_) (fun c_32 => ?_)
      · have hif : ¬ z_al (z_mq gi ns m) 3 0 = true := fun z => by rw [z] at c_32; exact absurd c_32 (by decide)
        refine zx_iinc2 (q := 44) dX7_months_41 rfl rfl ?_
        refine zx_goto (t := 4) dX7_months_44 (by decide) ?_
        rw [z_inc, z_mb]
        first
          | (rw [if_neg hif]; exact ih k (by omega) (m + 1) x g1 (by omega) k1)
          | (rw [if_pos hif]; exact ih k (by omega) (m + 1) _ g1 (by omega) k1)
      · have hif : z_al (z_mq gi ns m) 3 0 = true := (zb_nz _).mp c_32
        refine zx_iload_n (q := 36) dX7_months_35 rfl rfl rfl ?_
        refine zx_iconst (q := 37) (v := 1) dX7_months_36 (by decide) rfl ?_
        refine zx_iload_n (q := 38) dX7_months_37 rfl rfl rfl ?_
        refine zx_ishl (q := 39) dX7_months_38 rfl ?_
        refine zx_ior (q := 40) dX7_months_39 rfl ?_
        refine zx_istore1 (q := 41) dX7_months_40 rfl rfl ?_
        refine zx_iinc2 (q := 44) dX7_months_41 rfl rfl ?_
        refine zx_goto (t := 4) dX7_months_44 (by decide) ?_
        rw [z_inc, z_mb]
        first
          | (rw [if_neg hif]; exact ih k (by omega) (m + 1) x g1 (by omega) k1)
          | (rw [if_pos hif]; exact ih k (by omega) (m + 1) _ g1 (by omega) k1)
theorem lp_X8_moI (d : Nat) {ns m : Nat} {g : Nat → Nat → Int32} (hS : zSNow gi ns) (hns : ns ≤ 5) (hT : zSTt gi 1 116) (hn8 : g 108 0 = nI ns) (e13 : ∀ s, g 113 s = gi 113 s) (e16 : ∀ s, g 116 s = gi 116 s) (hg : zSM g (z_sh gi m) (z_ow gi m) ns) (w1 w2 : Int32) {Q : Option Value → zw_S → Prop} : ∀ (k h : Nat) (B : Bool) (kk : zW l D tc A mX8_months (d + 1) 0 0 0 0 80 [some (.ref 108), some (.int w1), some (.int w2), some (.int (nI m)), some (.int (zb (B && z_al (z_mq gi ns m) k h))), some (.int (nI 3))] [] (zs g gl f) Q), h + k = 3 → zW l D tc A mX8_months (d + 1) 0 0 0 0 30 [some (.ref 108), some (.int w1), some (.int w2), some (.int (nI m)), some (.int (zb (B))), some (.int (nI h))] [] (zs g gl f) Q := by
  intro k
  induction k using Nat.strongRecOn with
  | _ k ih =>
    intro h B kk hh
    refine zx_iload (q := 32) dX8_months_30 rfl rfl ?_
    refine zx_iconst (q := 33) (v := 3) dX8_months_32 (by decide) rfl ?_
    refine zx_icmp_ge (q := 36) (t := 80) dX8_months_33 (by decide) rfl (fun c_33 => ?_) (fun c_33 => ?_)
    · have hs2 : h = 3 := by have := z_ge (x := nI 3) rfl (by omega) c_33; omega
      have hk0 : k = 0 := by omega
      subst hk0
      subst hs2
      rw [show (B && z_al (z_mq gi ns m) 0 3) = B from by simp [z_al]] at kk
      exact kk
    · have hs2 : h < 3 := z_lt (x := nI (3)) rfl (by omega) c_33
      obtain ⟨k, rfl⟩ : ∃ q, k = q + 1 := ⟨k - 1, by omega⟩
      refine zx_iload (q := 38) dX8_months_36 rfl rfl ?_
      refine zx_if_eq (q := 41) (t := 71) dX8_months_38 (by decide) rfl (fun c_38 => ?_) (fun c_38 => ?_)
      · have hB : B = false := (zb_z B).mp c_38
        subst hB
        have hBf : zb false = 0 := rfl
        refine zx_iconst (q := 72) (v := 0) dX8_months_71 (by decide) rfl ?_
        refine zx_istore4 (q := 74) dX8_months_72 rfl rfl ?_
        refine zx_iinc5 (q := 77) dX8_months_74 rfl rfl ?_
        refine zx_goto (t := 30) dX8_months_77 (by decide) ?_
        rw [z_inc]
        rw [z_al] at kk
        first
          | (have q0 := hBf; refine ih k (by omega) (h + 1) false ?_ (by omega); simpa using kk)
          | (have q1 : z_mq gi ns m h = true := hmq; refine ih k (by omega) (h + 1) true ?_ (by omega); rw [hmq] at kk; simpa using kk)
          | (have q1 : z_mq gi ns m h = false := hmq; refine ih k (by omega) (h + 1) false ?_ (by omega); rw [hmq] at kk; simpa using kk)
      · have hB : B = true := (zb_nz B).mp c_38
        subst hB
        refine zx_aload_n (q := 42) dX8_months_41 rfl rfl rfl ?_
        refine zy_getR (q := 45) dX8_months_42 fl_RX8_38 rfl rfl rfl rfl ?_
        refine zx_iload (q := 47) dX8_months_45 rfl rfl ?_
        refine zy_ialdN (q := 48) dX8_months_47 rfl (by omega) (by first | decide | omega) rfl ?_
        rw [e16, ← (hT h (by omega)).1]
        refine zx_if_lt (q := 51) (t := 67) dX8_months_48 (by decide) rfl (fun c_48 => ?_) (fun c_48 => ?_)
        · have hm1 : gi 17 h = -1 := (z_neg_iff (by rw [show gi 17 h = gi 116 h from (hT h (by omega)).1]; exact (hT h (by omega)).2)).mp c_48
          have hmq : z_mq gi ns m h = true := by simp [z_mq, hm1]
          refine zx_iconst (q := 68) (v := 1) dX8_months_67 (by decide) rfl ?_
          refine zx_goto (t := 72) dX8_months_68 (by decide) ?_
          refine zx_istore4 (q := 74) dX8_months_72 rfl rfl ?_
          refine zx_iinc5 (q := 77) dX8_months_74 rfl rfl ?_
          refine zx_goto (t := 30) dX8_months_77 (by decide) ?_
          rw [z_inc]
          rw [z_al] at kk
          first
            | (have q0 := hBf; refine ih k (by omega) (h + 1) false ?_ (by omega); simpa using kk)
            | (have q1 : z_mq gi ns m h = true := hmq; refine ih k (by omega) (h + 1) true ?_ (by omega); rw [hmq] at kk; simpa using kk)
            | (have q1 : z_mq gi ns m h = false := hmq; refine ih k (by omega) (h + 1) false ?_ (by omega); rw [hmq] at kk; simpa using kk)
        · have hm1 : ¬ gi 17 h = -1 := fun z => c_48 ((z_neg_iff (by rw [show gi 17 h = gi 116 h from (hT h (by omega)).1]; exact (hT h (by omega)).2)).mpr z)
          refine zx_aload_n (q := 52) dX8_months_51 rfl rfl rfl ?_
          refine zx_iload (q := 54) dX8_months_52 rfl rfl ?_
          refine zx_callV1i (q := 57) (y' := mX8_ownCount) dX8_months_54 ml_RX8_281 ok_mX8_ownCount rfl (by decide) rfl (Nat.le_of_ble_eq_true rfl) (Nat.le_of_ble_eq_true rfl) (Nat.le_refl _) (Nat.le_refl _) rfl (t_ownS _ h hS hns (by omega) hn8 e13 hg) ?_
          rintro _ _ ⟨rfl, rfl⟩
          refine zx_aload_n (q := 58) dX8_months_57 rfl rfl rfl ?_
          refine zy_getR (q := 61) dX8_months_58 fl_RX8_38 rfl rfl rfl rfl ?_
          refine zx_iload (q := 63) dX8_months_61 rfl rfl ?_
          refine zy_ialdN (q := 64) dX8_months_63 rfl (by omega) (by first | decide | omega) rfl ?_
          rw [e16, ← (hT h (by omega)).1]
          refine zx_icmp_ne (q := 67) (t := 71) dX8_months_64 (by decide) rfl (fun c_64 => ?_) (fun c_64 => ?_)
          · have hm2 : ¬ gi 17 h = nI (z_ct gi m ns 0 h) := fun z => c_64 z.symm
            have hmq : z_mq gi ns m h = false := by simp [z_mq, hm1, hm2]
            refine zx_iconst (q := 72) (v := 0) dX8_months_71 (by decide) rfl ?_
            refine zx_istore4 (q := 74) dX8_months_72 rfl rfl ?_
            refine zx_iinc5 (q := 77) dX8_months_74 rfl rfl ?_
            refine zx_goto (t := 30) dX8_months_77 (by decide) ?_
            rw [z_inc]
            rw [z_al] at kk
            first
              | (have q0 := hBf; refine ih k (by omega) (h + 1) false ?_ (by omega); simpa using kk)
              | (have q1 : z_mq gi ns m h = true := hmq; refine ih k (by omega) (h + 1) true ?_ (by omega); rw [hmq] at kk; simpa using kk)
              | (have q1 : z_mq gi ns m h = false := hmq; refine ih k (by omega) (h + 1) false ?_ (by omega); rw [hmq] at kk; simpa using kk)
          · have hm2 : gi 17 h = nI (z_ct gi m ns 0 h) := c_64.symm
            have hmq : z_mq gi ns m h = true := by unfold z_mq; rw [decide_eq_true hm2, Bool.or_true]
            refine zx_iconst (q := 68) (v := 1) dX8_months_67 (by decide) rfl ?_
            refine zx_goto (t := 72) dX8_months_68 (by decide) ?_
            refine zx_istore4 (q := 74) dX8_months_72 rfl rfl ?_
            refine zx_iinc5 (q := 77) dX8_months_74 rfl rfl ?_
            refine zx_goto (t := 30) dX8_months_77 (by decide) ?_
            rw [z_inc]
            rw [z_al] at kk
            first
              | (have q0 := hBf; refine ih k (by omega) (h + 1) false ?_ (by omega); simpa using kk)
              | (have q1 : z_mq gi ns m h = true := hmq; refine ih k (by omega) (h + 1) true ?_ (by omega); rw [hmq] at kk; simpa using kk)
              | (have q1 : z_mq gi ns m h = false := hmq; refine ih k (by omega) (h + 1) false ?_ (by omega); rw [hmq] at kk; simpa using kk)
theorem lp_X8_months (d : Nat) {ns mm : Nat} (L : zLK gi ns mm) : ∀ (k m : Nat) (x : Int32) (g : Nat → Nat → Int32) (w4 w5 : Option Value), m + k = 12 → (∀ k j, ¬ z_scr k j → ¬ (k = 108 ∧ j = 1) → g k j = gi k j) → zW l D tc A mX8_months (d + 5) 0 0 0 0 9 [some (.ref 108), some (.int (nI mm)), some (.int x), some (.int (nI m)), w4, w5] [] (zs g gl f) (zQi fun r S' => r = z_mb gi ns k m x ∧ ∃ g2, S' = zs g2 gl f ∧ ∀ k j, ¬ z_scr k j → g2 k j = gi k j) := by
  intro k
  induction k using Nat.strongRecOn with
  | _ k ih =>
    intro m x g w4 w5 hm e
    have hns := L.hns
    refine zx_iload_n (q := 10) dX8_months_9 rfl rfl rfl ?_
    refine zx_bipush (q := 12) (v := 12) dX8_months_10 (by decide) rfl ?_
    refine zx_icmp_ge (q := 15) (t := 101) dX8_months_12 (by decide) rfl (fun c_12 => ?_) (fun c_12 => ?_)
    · have hk0 : k = 0 := by rw [show (12 : Int32) = nI 12 from rfl, nI_leI (by omega) (by omega)] at c_12; omega
      subst hk0
      refine zx_aload_n (q := 102) dX8_months_101 rfl rfl rfl ?_
      refine zx_iload_n (q := 103) dX8_months_102 rfl rfl rfl ?_
      refine zy_putI (q := 106) dX8_months_103 fl_RX8_13 rfl rfl ⟨rfl, rfl⟩ rfl rfl ?_
      refine zx_iload_n (q := 107) dX8_months_106 rfl rfl rfl ?_
      refine zx_iret dX8_months_107 rfl (Nat.le_refl _) (Nat.le_refl _) ⟨_, rfl, ?_⟩
      refine ⟨rfl, _, rfl, fun k j z => ?_⟩
      by_cases c : k = 108 ∧ j = 1
      · obtain ⟨c1, c2⟩ := c; subst c1; subst c2; rw [z_u_at]; exact L.hm2.symm
      · rw [z_u_ne _ _ c]; exact e k j z c
    · have hm9 : m < 12 := by rw [show (12 : Int32) = nI 12 from rfl, nI_leI (by omega) (by omega)] at c_12; omega
      obtain ⟨k, rfl⟩ : ∃ q, k = q + 1 := ⟨k - 1, by omega⟩
      have eU : ∀ k j, ¬ z_scr k j → ¬ (k = 108 ∧ j = 1) → zw_u g 108 1 (nI m) k j = gi k j := fun k j a b => by rw [z_u_ne _ _ b]; exact e k j a b
      have hM2 : zIsM (zw_u g 108 1 (nI m)) := zIsM_cg L.hM (fun k j z => eU k j (by unfold z_fc at z; unfold z_scr; omega) (by unfold z_fc at z; omega)) (fun j => ⟨eU _ _ (by unfold z_scr; omega) (by omega), eU _ _ (by unfold z_scr; omega) (by omega), eU _ _ (by unfold z_scr; omega) (by omega), eU _ _ (by unfold z_scr; omega) (by omega), eU _ _ (by unfold z_scr; omega) (by omega), eU _ _ (by unfold z_scr; omega) (by omega), eU _ _ (by unfold z_scr; omega) (by omega)⟩)
      have hS2 : zSNow (zw_u g 108 1 (nI m)) ns := zSTs_congr L.hS L.hns (fun k j hk => eU _ _ (by unfold z_scr; omega) (by omega)) (fun k j hk => eU _ _ (by unfold z_scr; omega) (by omega))
      refine zx_aload_n (q := 16) dX8_months_15 rfl rfl rfl ?_
      refine zx_iload_n (q := 17) dX8_months_16 rfl rfl rfl ?_
      refine zy_putI (q := 20) dX8_months_17 fl_RX8_13 rfl rfl ⟨rfl, rfl⟩ rfl rfl ?_
      refine zx_aload_n (q := 21) dX8_months_20 rfl rfl rfl ?_
      refine zx_callV0v (q := 24) (y' := mX8_layShows) dX8_months_21 ml_RX8_278 ok_mX8_layShows rfl (by decide) rfl (Nat.le_of_ble_eq_true rfl) (Nat.le_of_ble_eq_true rfl) (Nat.le_refl _) (Nat.le_refl _) rfl (t_X8_layShows _ ns m hM2 hS2 hns hm9 (by rw [eU _ _ (by unfold z_scr; omega) (by omega)]; exact L.hs2) (z_u_at _ _ _ _)) ?_
      rintro _ ⟨g2, rfl, k2, s2⟩
      have s2 := zSM_cg s2 hns (fun k j z => eU k j (by unfold z_scr; omega) (by omega))
      have e2 : ∀ k j, ¬ z_scr k j → ¬ (k = 108 ∧ j = 1) → g2 k j = gi k j := fun k j a b => by rw [k2 _ _ (by unfold z_scr at a; omega)]; exact eU k j a b
      refine zx_iconst (q := 25) (v := 1) dX8_months_24 (by decide) rfl ?_
      refine zx_istore4 (q := 27) dX8_months_25 rfl rfl ?_
      refine zx_iconst (q := 28) (v := 0) dX8_months_27 (by decide) rfl ?_
      refine zx_istore5 (q := 30) dX8_months_28 rfl rfl ?_
      refine lp_X8_moI (d + 4) L.hS hns L.hT (by rw [e2 _ _ (by unfold z_scr; omega) (by omega)]; exact L.hs2) (fun s => e2 _ _ (by unfold z_scr; omega) (by omega)) (fun s => e2 _ _ (by unfold z_scr; omega) (by omega)) s2 _ _ 3 0 true ?_ (by omega)
      rw [Bool.true_and]
      refine zx_iload_n (q := 81) dX8_months_80 rfl rfl rfl ?_
      refine zx_iload (q := 83) dX8_months_81 rfl rfl ?_
      refine zx_if_eq (q := 86) (t := 92) dX8_months_83 (by decide) rfl (fun c_83 => ?_) (fun c_83 => ?_)
      · have hif : ¬ z_al (z_mq gi ns m) 3 0 = true := fun z => by rw [z] at c_83; exact absurd c_83 (by decide)
        refine zx_iconst (q := 93) (v := 0) dX8_months_92 (by decide) rfl ?_
        refine zx_ior (q := 94) dX8_months_93 rfl ?_
        refine zx_istore2 (q := 95) dX8_months_94 rfl rfl ?_
        refine zx_iinc3 (q := 98) dX8_months_95 rfl rfl ?_
        refine zx_goto (t := 9) dX8_months_98 (by decide) ?_
        rw [z_inc, z_mb]
        first
          | (rw [if_neg hif, Int32.or_zero]; exact ih k (by omega) (m + 1) x g2 _ _ (by omega) e2)
          | (rw [if_pos hif]; exact ih k (by omega) (m + 1) _ g2 _ _ (by omega) e2)
      · have hif : z_al (z_mq gi ns m) 3 0 = true := by simpa using (zb_nz _).mp c_83
        refine zx_iconst (q := 87) (v := 1) dX8_months_86 (by decide) rfl ?_
        refine zx_iload_n (q := 88) dX8_months_87 rfl rfl rfl ?_
        refine zx_ishl (q := 89) dX8_months_88 rfl ?_
        refine zx_goto (t := 93) dX8_months_89 (by decide) ?_
        refine zx_ior (q := 94) dX8_months_93 rfl ?_
        refine zx_istore2 (q := 95) dX8_months_94 rfl rfl ?_
        refine zx_iinc3 (q := 98) dX8_months_95 rfl rfl ?_
        refine zx_goto (t := 9) dX8_months_98 (by decide) ?_
        rw [z_inc, z_mb]
        first
          | (rw [if_neg hif, Int32.or_zero]; exact ih k (by omega) (m + 1) x g2 _ _ (by omega) e2)
          | (rw [if_pos hif]; exact ih k (by omega) (m + 1) _ g2 _ _ (by omega) e2)
set_option maxHeartbeats 4000000 in
theorem op_months (d : Nat)  (hR : zRel gi gl) : zOpI l D tc A mX7_months mX8_months (d + 5) [] gi gl f := by
  obtain ⟨ns, m, L⟩ := zLK_of hR
  show zW l D tc A mX7_months (d + 5) 0 0 0 0 0 [some (.ref 0), none, none] [] (zs gi gl f) _
  refine zx_iconst (q := 1) (v := 0) dX7_months_0 (by decide) rfl ?_
  refine zx_istore1 (q := 2) dX7_months_1 rfl rfl ?_
  refine zx_iconst (q := 3) (v := 0) dX7_months_2 (by decide) rfl ?_
  refine zx_istore2 (q := 4) dX7_months_3 rfl rfl ?_
  refine zW.mono (lp_X7_months (d + 1) L 12 0 0 gi (by omega) (fun _ _ _ => rfl)) ?_
  rintro _ _ ⟨x, rfl, rfl, g2, rfl, e2⟩
  refine ⟨_, rfl, _, _, _, rfl, ?_⟩
  show zW l D tc A mX8_months (d + 5) 0 0 0 0 0 [some (.ref 108), none, none, none, none, none] [] (zs _ _ _) _
  refine zx_aload_n (q := 1) dX8_months_0 rfl rfl rfl ?_
  refine zy_getIe (q := 4) (v := nI m) dX8_months_1 fl_RX8_13 rfl rfl ((e2 _ _ (by omega)).trans L.hm2) rfl ?_
  refine zx_istore1 (q := 5) dX8_months_4 rfl rfl ?_
  refine zx_iconst (q := 6) (v := 0) dX8_months_5 (by decide) rfl ?_
  refine zx_istore2 (q := 7) dX8_months_6 rfl rfl ?_
  refine zx_iconst (q := 8) (v := 0) dX8_months_7 (by decide) rfl ?_
  refine zx_istore3 (q := 9) dX8_months_8 rfl rfl ?_
  refine zW.mono (lp_X8_months d L 12 0 0 g2 none none (by omega) (fun k j a b => e2 k j (by unfold z_scr at a; omega))) ?_
  rintro _ _ ⟨x, rfl, rfl, g3, rfl, e3⟩
  exact ⟨_, rfl, rfl, _, _, _, rfl, zRel_scr hR e3⟩
end P50
