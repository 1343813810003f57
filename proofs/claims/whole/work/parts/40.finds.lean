/-! the class's search: what it finds -/
def z_mi : Option Nat → Option Nat → Option Nat
  | none, e => e
  | some n, none => some n
  | some n, some e => some (if e < n then e else n)
theorem z_ov_some (v : Nat) : z_ov (some v) = nI v := rfl
theorem z_ov_none : z_ov none = -1 := rfl
section P40
variable {l : Launch} {D : va_G} {tc : Nat → ClassId} {A : Nat → Prop} {S : zw_S} {gi : Nat → Nat → Int32} {gl : Nat → Nat → Int64} {f : Option Nat}
theorem lp_X3_exc (d : Nat) {g : Nat → Nat → Int32} {ns mo : Nat} {sh : Nat → Nat → Nat} {ow : Nat → Nat} (hns : ns ≤ 5) (hg : zSG g ns mo sh ow ns) {r : Nat → Nat} {b : Nat} (hC : zCS g ns sh ow r b) {wc : Nat} {w : Nat → Option Nat} (hwc : zg_sh[wc]? = some (1, 3)) (hw : z_wt g wc w) (hCb : ∀ h, h < 3 → z_cn ns sh r h ≤ 40000) : ∀ (k h x : Nat), h + k = 3 → zW l D tc A mX3_excess d 0 0 0 0 4 [some (.ref 56), some (.ref wc), some (.int (nI x)), some (.int (nI h))] [] (zs g gl f) (zQi fun r' S' => r' = z_ov (z_exn w (z_cn ns sh r) k h x) ∧ S' = zs g gl f) := by
  intro k
  induction k using Nat.strongRecOn with
  | _ k ih =>
    intro h x hh
    refine zx_iload_n (q := 5) dX3_excess_4 rfl rfl rfl ?_
    refine zx_iconst (q := 6) (v := 3) dX3_excess_5 (by decide) rfl ?_
    refine zx_icmp_ge (q := 9) (t := 49) dX3_excess_6 (by decide) rfl (fun c_6 => ?_) (fun c_6 => ?_)
    · have hs2 : h = 3 := by have := z_ge (x := nI (3)) rfl (by omega) c_6; omega
      have hk0 : k = 0 := by omega
      subst hk0
      refine zx_iload_n (q := 50) dX3_excess_49 rfl rfl rfl ?_
      refine zx_iret dX3_excess_50 rfl (Nat.le_refl _) (Nat.le_refl _) ⟨_, rfl, ?_⟩
      exact ⟨rfl, rfl⟩
    · have hs2 : h < 3 := z_lt (x := nI (3)) rfl (by omega) c_6
      obtain ⟨k, rfl⟩ : ∃ q, k = q + 1 := ⟨k - 1, by omega⟩
      refine zx_aload_n (q := 10) dX3_excess_9 rfl rfl rfl ?_
      refine zx_iload_n (q := 11) dX3_excess_10 rfl rfl rfl ?_
      refine zy_ialdN (q := 12) dX3_excess_11 hwc (by omega) (by first | decide | omega) rfl ?_
      obtain ⟨hw1, hw2⟩ := hw h (by omega)
      have hC2 := hC.2.1 h (by omega)
      have hCb2 := hCb h (by omega)
      rw [hw1]
      refine zx_iconst (q := 13) (v := (-1)) dX3_excess_12 (by decide) rfl ?_
      refine zx_icmp_eq (q := 16) (t := 43) dX3_excess_13 (by decide) rfl (fun c_13 => ?_) (fun c_13 => ?_)
      · have hn : w h = none := (z_ov_m1 hw2).mp c_13
        refine zx_iinc3 (q := 46) dX3_excess_43 rfl rfl ?_
        refine zx_goto (t := 4) dX3_excess_46 (by decide) ?_
        rw [z_inc, z_exn]
        first
          | (rw [hn]; exact ih k (by omega) (h + 1) x (by omega))
          | (rw [hv]; simp only []; rw [if_neg (by omega)]; exact ih k (by omega) (h + 1) _ (by omega))
      · obtain ⟨v, hv⟩ : ∃ v, w h = some v := by cases hx : w h with | none => exact absurd (by rw [hx]; rfl) c_13 | some v => exact ⟨v, rfl⟩
        have hv2 := hw2 v hv
        refine zx_aload_n (q := 17) dX3_excess_16 rfl rfl rfl ?_
        refine zy_getR (q := 20) dX3_excess_17 fl_RX3_15 rfl rfl rfl rfl ?_
        refine zx_iload_n (q := 21) dX3_excess_20 rfl rfl rfl ?_
        refine zy_ialdN (q := 22) dX3_excess_21 rfl (by omega) (by first | decide | omega) rfl ?_
        refine zx_aload_n (q := 23) dX3_excess_22 rfl rfl rfl ?_
        refine zx_iload_n (q := 24) dX3_excess_23 rfl rfl rfl ?_
        refine zy_ialdN (q := 25) dX3_excess_24 hwc (by omega) (by first | decide | omega) rfl ?_
        rw [hw1, hC2, hv, z_ov_some]
        refine zx_icmp_ge (q := 28) (t := 30) dX3_excess_25 (by decide) rfl (fun c_25 => ?_) (fun c_25 => ?_)
        · rw [nI_leI (by omega) (by omega)] at c_25
          refine zx_iload_n (q := 31) dX3_excess_30 rfl rfl rfl ?_
          refine zx_aload_n (q := 32) dX3_excess_31 rfl rfl rfl ?_
          refine zy_getR (q := 35) dX3_excess_32 fl_RX3_15 rfl rfl rfl rfl ?_
          refine zx_iload_n (q := 36) dX3_excess_35 rfl rfl rfl ?_
          refine zy_ialdN (q := 37) dX3_excess_36 rfl (by omega) (by first | decide | omega) rfl ?_
          refine zx_aload_n (q := 38) dX3_excess_37 rfl rfl rfl ?_
          refine zx_iload_n (q := 39) dX3_excess_38 rfl rfl rfl ?_
          refine zy_ialdN (q := 40) dX3_excess_39 hwc (by omega) (by first | decide | omega) rfl ?_
          rw [hw1, hC2, hv, z_ov_some]
          refine zx_isub (q := 41) dX3_excess_40 rfl ?_
          rw [z_subN (by omega)]
          refine zx_iadd (q := 42) dX3_excess_41 rfl ?_
          rw [nI_add]
          refine zx_istore2 (q := 43) dX3_excess_42 rfl rfl ?_
          refine zx_iinc3 (q := 46) dX3_excess_43 rfl rfl ?_
          refine zx_goto (t := 4) dX3_excess_46 (by decide) ?_
          rw [z_inc, z_exn]
          first
            | (rw [hn]; exact ih k (by omega) (h + 1) x (by omega))
            | (rw [hv]; simp only []; rw [if_neg (by omega)]; exact ih k (by omega) (h + 1) _ (by omega))
        · rw [nI_leI (by omega) (by omega)] at c_25
          refine zx_iconst (q := 29) (v := (-1)) dX3_excess_28 (by decide) rfl ?_
          refine zx_iret dX3_excess_29 rfl (Nat.le_refl _) (Nat.le_refl _) ⟨_, rfl, ?_⟩
          exact ⟨by rw [z_exn, hv]; simp only []; rw [if_pos (by omega)]; rfl, rfl⟩
theorem t_X3_exc (d : Nat) {g : Nat → Nat → Int32} {ns mo : Nat} {sh : Nat → Nat → Nat} {ow : Nat → Nat} (hns : ns ≤ 5) (hg : zSG g ns mo sh ow ns) {r : Nat → Nat} {b : Nat} (hC : zCS g ns sh ow r b) {wc : Nat} {w : Nat → Option Nat} (hwc : zg_sh[wc]? = some (1, 3)) (hw : z_wt g wc w) (hCb : ∀ h, h < 3 → z_cn ns sh r h ≤ 40000) : zCall l D tc A mX3_excess d 0 0 [.ref 56, .ref wc] (zs g gl f) (zQi fun r' S' => r' = z_ov (z_exn w (z_cn ns sh r) 3 0 0) ∧ S' = zs g gl f) := by
  show zW l D tc A mX3_excess d 0 0 0 0 0 [some (.ref 56), some (.ref wc), none, none] [] (zs g gl f) _
  refine zx_iconst (q := 1) (v := 0) dX3_excess_0 (by decide) rfl ?_
  refine zx_istore2 (q := 2) dX3_excess_1 rfl rfl ?_
  refine zx_iconst (q := 3) (v := 0) dX3_excess_2 (by decide) rfl ?_
  refine zx_istore3 (q := 4) dX3_excess_3 rfl rfl ?_
  exact lp_X3_exc d hns hg hC hwc hw hCb 3 0 0 (by omega)
theorem lp_X3_bey (d : Nat) {g : Nat → Nat → Int32} {ns mo : Nat} {sh : Nat → Nat → Nat} {ow : Nat → Nat} (hns : ns ≤ 5) (hg : zSG g ns mo sh ow ns) {r : Nat → Nat} {b : Nat} (hC : zCS g ns sh ow r b) {wc : Nat} {w : Nat → Option Nat} (hwc : zg_sh[wc]? = some (1, 3)) (hw : z_wt g wc w) (hCb : ∀ h, h < 3 → z_cn ns sh r h ≤ 40000) : ∀ (k h : Nat), h + k = 3 → zW l D tc A mX3_isBeyond d 0 0 0 0 2 [some (.ref 56), some (.ref wc), some (.int (nI h))] [] (zs g gl f) (zQi fun r' S' => r' = zb (!z_al (fun h => match w h with | none => true | some v => decide (z_cn ns sh r h ≤ v)) k h) ∧ S' = zs g gl f) := by
  intro k
  induction k using Nat.strongRecOn with
  | _ k ih =>
    intro h hh
    refine zx_iload_n (q := 3) dX3_isBeyond_2 rfl rfl rfl ?_
    refine zx_iconst (q := 4) (v := 3) dX3_isBeyond_3 (by decide) rfl ?_
    refine zx_icmp_ge (q := 7) (t := 34) dX3_isBeyond_4 (by decide) rfl (fun c_4 => ?_) (fun c_4 => ?_)
    · have hs2 : h = 3 := by have := z_ge (x := nI (3)) rfl (by omega) c_4; omega
      have hk0 : k = 0 := by omega
      subst hk0
      refine zx_iconst (q := 35) (v := 0) dX3_isBeyond_34 (by decide) rfl ?_
      refine zx_zret dX3_isBeyond_35 rfl (by first | rfl | exact zb_nar _) (Nat.le_refl _) (Nat.le_refl _) ⟨_, rfl, ?_⟩
      exact ⟨rfl, rfl⟩
    · have hs2 : h < 3 := z_lt (x := nI (3)) rfl (by omega) c_4
      obtain ⟨k, rfl⟩ : ∃ q, k = q + 1 := ⟨k - 1, by omega⟩
      refine zx_aload_n (q := 8) dX3_isBeyond_7 rfl rfl rfl ?_
      refine zx_iload_n (q := 9) dX3_isBeyond_8 rfl rfl rfl ?_
      refine zy_ialdN (q := 10) dX3_isBeyond_9 hwc (by omega) (by first | decide | omega) rfl ?_
      obtain ⟨hw1, hw2⟩ := hw h (by omega)
      have hC2 := hC.2.1 h (by omega)
      have hCb2 := hCb h (by omega)
      rw [hw1]
      refine zx_iconst (q := 11) (v := (-1)) dX3_isBeyond_10 (by decide) rfl ?_
      refine zx_icmp_eq (q := 14) (t := 28) dX3_isBeyond_11 (by decide) rfl (fun c_11 => ?_) (fun c_11 => ?_)
      · have hn : w h = none := (z_ov_m1 hw2).mp c_11
        refine zx_iinc2 (q := 31) dX3_isBeyond_28 rfl rfl ?_
        refine zx_goto (t := 2) dX3_isBeyond_31 (by decide) ?_
        rw [z_inc, z_al]
        first
          | (rw [hn]; simp only []; rw [Bool.true_and]; exact ih k (by omega) (h + 1) (by omega))
          | (rw [hv]; simp only []; rw [show decide (z_cn ns sh r h ≤ v) = true by simp; omega, Bool.true_and]; exact ih k (by omega) (h + 1) (by omega))
      · obtain ⟨v, hv⟩ : ∃ v, w h = some v := by cases hx : w h with | none => exact absurd (by rw [hx]; rfl) c_11 | some v => exact ⟨v, rfl⟩
        have hv2 := hw2 v hv
        refine zx_aload_n (q := 15) dX3_isBeyond_14 rfl rfl rfl ?_
        refine zy_getR (q := 18) dX3_isBeyond_15 fl_RX3_15 rfl rfl rfl rfl ?_
        refine zx_iload_n (q := 19) dX3_isBeyond_18 rfl rfl rfl ?_
        refine zy_ialdN (q := 20) dX3_isBeyond_19 rfl (by omega) (by first | decide | omega) rfl ?_
        refine zx_aload_n (q := 21) dX3_isBeyond_20 rfl rfl rfl ?_
        refine zx_iload_n (q := 22) dX3_isBeyond_21 rfl rfl rfl ?_
        refine zy_ialdN (q := 23) dX3_isBeyond_22 hwc (by omega) (by first | decide | omega) rfl ?_
        rw [hw1, hC2, hv, z_ov_some]
        refine zx_icmp_le (q := 26) (t := 28) dX3_isBeyond_23 (by decide) rfl (fun c_23 => ?_) (fun c_23 => ?_)
        · rw [nI_leI (by omega) (by omega)] at c_23
          refine zx_iinc2 (q := 31) dX3_isBeyond_28 rfl rfl ?_
          refine zx_goto (t := 2) dX3_isBeyond_31 (by decide) ?_
          rw [z_inc, z_al]
          first
            | (rw [hn]; simp only []; rw [Bool.true_and]; exact ih k (by omega) (h + 1) (by omega))
            | (rw [hv]; simp only []; rw [show decide (z_cn ns sh r h ≤ v) = true by simp; omega, Bool.true_and]; exact ih k (by omega) (h + 1) (by omega))
        · rw [nI_leI (by omega) (by omega)] at c_23
          refine zx_iconst (q := 27) (v := 1) dX3_isBeyond_26 (by decide) rfl ?_
          refine zx_zret dX3_isBeyond_27 rfl (by first | rfl | exact zb_nar _) (Nat.le_refl _) (Nat.le_refl _) ⟨_, rfl, ?_⟩
          exact ⟨by rw [z_al, hv]; simp only []; rw [show decide (z_cn ns sh r h ≤ v) = false by simp; omega]; rfl, rfl⟩
theorem t_X3_bey (d : Nat) {g : Nat → Nat → Int32} {ns mo : Nat} {sh : Nat → Nat → Nat} {ow : Nat → Nat} (hns : ns ≤ 5) (hg : zSG g ns mo sh ow ns) {r : Nat → Nat} {b : Nat} (hC : zCS g ns sh ow r b) {wc : Nat} {w : Nat → Option Nat} (hwc : zg_sh[wc]? = some (1, 3)) (hw : z_wt g wc w) (hCb : ∀ h, h < 3 → z_cn ns sh r h ≤ 40000) : zCall l D tc A mX3_isBeyond d 0 0 [.ref 56, .ref wc] (zs g gl f) (zQi fun r' S' => r' = zb (z_bey w (z_cn ns sh r)) ∧ S' = zs g gl f) := by
  show zW l D tc A mX3_isBeyond d 0 0 0 0 0 [some (.ref 56), some (.ref wc), none] [] (zs g gl f) _
  refine zx_iconst (q := 1) (v := 0) dX3_isBeyond_0 (by decide) rfl ?_
  refine zx_istore2 (q := 2) dX3_isBeyond_1 rfl rfl ?_
  exact lp_X3_bey d hns hg hC hwc hw hCb 3 0 (by omega)
theorem lp_X3_keep (d : Nat) {g : Nat → Nat → Int32} {ns mo : Nat} {sh : Nat → Nat → Nat} {ow : Nat → Nat} (hns : ns ≤ 5) (hg : zSG g ns mo sh ow ns) {r : Nat → Nat} {b : Nat} (hC : zCS g ns sh ow r b) {a : z_A} (hr : ∀ s, s < 5 → g 57 s = nI (r s)) (hr2 : ∀ s, s < ns → r s ≤ 18) : ∀ (k s : Nat) (g1 : Nat → Nat → Int32), s + k = ns → (∀ k j, ¬ ((59 ≤ k ∧ k ≤ 61) ∨ (k = 56 ∧ (j = 6 ∨ j = 7 ∨ j = 8))) → g1 k j = g k j) → g1 56 6 = nI (a.1 + 1) → g1 56 7 = nI (if a.1 = 0 ∨ z_tn ns ow r < a.2.1 then z_tn ns ow r else a.2.1) → g1 56 8 = nI (max a.2.2.1 (z_tn ns ow r)) →
    (∀ s, s < ns → g1 59 s = nI ((if a.1 = 0 ∨ z_tn ns ow r < a.2.1 then r else a.2.2.2.1) s)) → (∀ i, i < s → g1 61 i = nI (a.2.2.2.2.1 i + r i)) → (∀ i, s ≤ i → i < ns → g1 61 i = nI (a.2.2.2.2.1 i)) → (∀ i, i < s → g1 60 i = nI (a.2.2.2.2.2 i + if 0 < r i then 1 else 0)) → (∀ i, s ≤ i → i < ns → g1 60 i = nI (a.2.2.2.2.2 i)) →
    zW l D tc A mX3_keep (d + 1) 0 0 0 0 67 [some (.ref 56), some (.int (nI s))] [] (zs g1 gl f) (zQv fun S' => ∃ g2, S' = zs g2 gl f ∧ zCA g2 ns (z_kp (z_tn ns ow) r a) ∧ (∀ k j, ¬ ((59 ≤ k ∧ k ≤ 61) ∨ (k = 56 ∧ (j = 6 ∨ j = 7 ∨ j = 8))) → g2 k j = g k j)) := by
  intro k
  induction k using Nat.strongRecOn with
  | _ k ih =>
    intro s g1 hs e h6 h7 h8 h59 hd61 hn61 hd60 hn60
    have hg0 : g1 47 0 = nI ns := by rw [e _ _ (by omega)]; exact hg.1
    have hr : ∀ s, s < 5 → g1 57 s = nI (r s) := fun s hs => by rw [e _ _ (by omega)]; exact hr s hs
    refine zx_iload_n (q := 68) dX3_keep_67 rfl rfl rfl ?_
    refine zx_aload_n (q := 69) dX3_keep_68 rfl rfl rfl ?_
    refine zy_getR (q := 72) dX3_keep_69 fl_RX3_27 rfl rfl rfl rfl ?_
    refine zy_getIe (q := 75) (v := nI ns) dX3_keep_72 fl_RX3_76 rfl rfl (hg0) rfl ?_
    refine zx_icmp_ge (q := 78) (t := 122) dX3_keep_75 (by decide) rfl (fun c_75 => ?_) (fun c_75 => ?_)
    · have hs2 : s = ns := by have := z_ge (x := nI (ns)) rfl (by omega) c_75; omega
      have hk0 : k = 0 := by omega
      subst hk0
      refine zx_vret dX3_keep_122 rfl (Nat.le_refl _) (Nat.le_refl _) ⟨rfl, ?_⟩
      exact ⟨g1, rfl, ⟨h6, h7, h8, fun _ => h59, fun i hi => hd61 i (by omega), fun i hi => hd60 i (by omega)⟩, e⟩
    · have hs2 : s < ns := z_lt (x := nI (ns)) rfl (by omega) c_75
      obtain ⟨k, rfl⟩ : ∃ q, k = q + 1 := ⟨k - 1, by omega⟩
      refine zx_aload_n (q := 79) dX3_keep_78 rfl rfl rfl ?_
      refine zy_getR (q := 82) dX3_keep_79 fl_RX3_21 rfl rfl rfl rfl ?_
      refine zx_iload_n (q := 83) dX3_keep_82 rfl rfl rfl ?_
      refine zx_dup2 (q := 84) dX3_keep_83 rfl rfl rfl ?_
      refine zy_ialdN (q := 85) dX3_keep_84 rfl (by omega) (by first | decide | omega) rfl ?_
      refine zx_aload_n (q := 86) dX3_keep_85 rfl rfl rfl ?_
      refine zy_getR (q := 89) dX3_keep_86 fl_RX3_9 rfl rfl rfl rfl ?_
      refine zx_iload_n (q := 90) dX3_keep_89 rfl rfl rfl ?_
      refine zy_ialdN (q := 91) dX3_keep_90 rfl (by omega) (by first | decide | omega) rfl ?_
      rw [hr s (by omega)]
      refine zx_if_le (q := 94) (t := 98) dX3_keep_91 (by decide) rfl (fun c_91 => ?_) (fun c_91 => ?_)
      · have hp0 : (if 0 < r s then 1 else 0) = 0 := if_neg (by intro z; exact absurd c_91 (nI_nle z (by have := hr2 s (by omega); omega)))
        refine zx_iconst (q := 99) (v := 0) dX3_keep_98 (by decide) rfl ?_
        rw [hn60 s (Nat.le_refl _) (by omega)]
        refine zx_iadd (q := 100) dX3_keep_99 rfl ?_
        first | rw [nI_1] | rw [show nI (a.2.2.2.2.2 s) + 0 = nI (a.2.2.2.2.2 s + 0) from nI_add _ 0]
        refine zy_iastN (q := 101) dX3_keep_100 rfl (by omega) (by first | decide | omega) rfl ?_
        refine zx_aload_n (q := 102) dX3_keep_101 rfl rfl rfl ?_
        refine zy_getR (q := 105) dX3_keep_102 fl_RX3_24 rfl rfl rfl rfl ?_
        refine zx_iload_n (q := 106) dX3_keep_105 rfl rfl rfl ?_
        refine zx_dup2 (q := 107) dX3_keep_106 rfl rfl rfl ?_
        refine zy_ialdN (q := 108) dX3_keep_107 rfl (by omega) (by first | decide | omega) rfl ?_
        refine zx_aload_n (q := 109) dX3_keep_108 rfl rfl rfl ?_
        refine zy_getR (q := 112) dX3_keep_109 fl_RX3_9 rfl rfl rfl rfl ?_
        refine zx_iload_n (q := 113) dX3_keep_112 rfl rfl rfl ?_
        refine zy_ialdN (q := 114) dX3_keep_113 rfl (by omega) (by first | decide | omega) rfl ?_
        rw [z_u_ne _ _ (by omega), z_u_ne _ _ (by omega), hn61 s (Nat.le_refl _) (by omega), hr s (by omega)]
        refine zx_iadd (q := 115) dX3_keep_114 rfl ?_
        rw [nI_add]
        refine zy_iastN (q := 116) dX3_keep_115 rfl (by omega) (by first | decide | omega) rfl ?_
        refine zx_iinc1 (q := 119) dX3_keep_116 rfl rfl ?_
        refine zx_goto (t := 67) dX3_keep_119 (by decide) ?_
        rw [z_inc]
        refine ih k (by omega) (s + 1) _ (by omega) ?_ ?_ ?_ ?_ ?_ ?_ ?_ ?_ ?_
        · intro k j z; rw [z_u_ne _ _ (by omega), z_u_ne _ _ (by omega)]; exact e k j z
        · rw [z_u_ne _ _ (by omega), z_u_ne _ _ (by omega)]; exact h6
        · rw [z_u_ne _ _ (by omega), z_u_ne _ _ (by omega)]; exact h7
        · rw [z_u_ne _ _ (by omega), z_u_ne _ _ (by omega)]; exact h8
        · intro i hi; rw [z_u_ne _ _ (by omega), z_u_ne _ _ (by omega)]; exact h59 i hi
        · intro i hi
          by_cases c : i = s
          · subst c; rw [z_u_at]
          · rw [z_u_ne _ _ (by omega), z_u_ne _ _ (by omega)]; exact hd61 i (by omega)
        · intro i hi hi2; rw [z_u_ne _ _ (by omega), z_u_ne _ _ (by omega)]; exact hn61 i (by omega) hi2
        · intro i hi
          by_cases c : i = s
          · subst c; rw [z_u_ne _ _ (by omega), z_u_at, hp0]
          · rw [z_u_ne _ _ (by omega), z_u_ne _ _ (by omega)]; exact hd60 i (by omega)
        · intro i hi hi2; rw [z_u_ne _ _ (by omega), z_u_ne _ _ (by omega)]; exact hn60 i (by omega) hi2
      · have hp0 : (if 0 < r s then 1 else 0) = 1 := if_pos (by rcases Nat.eq_zero_or_pos (r s) with q | q; exact absurd (by rw [q]; decide) c_91; exact q)
        refine zx_iconst (q := 95) (v := 1) dX3_keep_94 (by decide) rfl ?_
        refine zx_goto (t := 99) dX3_keep_95 (by decide) ?_
        rw [hn60 s (Nat.le_refl _) (by omega)]
        refine zx_iadd (q := 100) dX3_keep_99 rfl ?_
        first | rw [nI_1] | rw [show nI (a.2.2.2.2.2 s) + 0 = nI (a.2.2.2.2.2 s + 0) from nI_add _ 0]
        refine zy_iastN (q := 101) dX3_keep_100 rfl (by omega) (by first | decide | omega) rfl ?_
        refine zx_aload_n (q := 102) dX3_keep_101 rfl rfl rfl ?_
        refine zy_getR (q := 105) dX3_keep_102 fl_RX3_24 rfl rfl rfl rfl ?_
        refine zx_iload_n (q := 106) dX3_keep_105 rfl rfl rfl ?_
        refine zx_dup2 (q := 107) dX3_keep_106 rfl rfl rfl ?_
        refine zy_ialdN (q := 108) dX3_keep_107 rfl (by omega) (by first | decide | omega) rfl ?_
        refine zx_aload_n (q := 109) dX3_keep_108 rfl rfl rfl ?_
        refine zy_getR (q := 112) dX3_keep_109 fl_RX3_9 rfl rfl rfl rfl ?_
        refine zx_iload_n (q := 113) dX3_keep_112 rfl rfl rfl ?_
        refine zy_ialdN (q := 114) dX3_keep_113 rfl (by omega) (by first | decide | omega) rfl ?_
        rw [z_u_ne _ _ (by omega), z_u_ne _ _ (by omega), hn61 s (Nat.le_refl _) (by omega), hr s (by omega)]
        refine zx_iadd (q := 115) dX3_keep_114 rfl ?_
        rw [nI_add]
        refine zy_iastN (q := 116) dX3_keep_115 rfl (by omega) (by first | decide | omega) rfl ?_
        refine zx_iinc1 (q := 119) dX3_keep_116 rfl rfl ?_
        refine zx_goto (t := 67) dX3_keep_119 (by decide) ?_
        rw [z_inc]
        refine ih k (by omega) (s + 1) _ (by omega) ?_ ?_ ?_ ?_ ?_ ?_ ?_ ?_ ?_
        · intro k j z; rw [z_u_ne _ _ (by omega), z_u_ne _ _ (by omega)]; exact e k j z
        · rw [z_u_ne _ _ (by omega), z_u_ne _ _ (by omega)]; exact h6
        · rw [z_u_ne _ _ (by omega), z_u_ne _ _ (by omega)]; exact h7
        · rw [z_u_ne _ _ (by omega), z_u_ne _ _ (by omega)]; exact h8
        · intro i hi; rw [z_u_ne _ _ (by omega), z_u_ne _ _ (by omega)]; exact h59 i hi
        · intro i hi
          by_cases c : i = s
          · subst c; rw [z_u_at]
          · rw [z_u_ne _ _ (by omega), z_u_ne _ _ (by omega)]; exact hd61 i (by omega)
        · intro i hi hi2; rw [z_u_ne _ _ (by omega), z_u_ne _ _ (by omega)]; exact hn61 i (by omega) hi2
        · intro i hi
          by_cases c : i = s
          · subst c; rw [z_u_ne _ _ (by omega), z_u_at, hp0]
          · rw [z_u_ne _ _ (by omega), z_u_ne _ _ (by omega)]; exact hd60 i (by omega)
        · intro i hi hi2; rw [z_u_ne _ _ (by omega), z_u_ne _ _ (by omega)]; exact hn60 i (by omega) hi2
theorem z_maxN {a b : Nat} (ha : a < 2 ^ 31) (hb : b < 2 ^ 31) : (if nI a < nI b then nI b else nI a) = nI (max a b) := by
  by_cases c : a < b
  · rw [if_pos ((nI_ltI ha hb).mpr c)]
    congr 1
    omega
  · rw [if_neg (fun z => c ((nI_ltI ha hb).mp z))]
    congr 1
    omega
theorem t_X3_keep (d : Nat) {g : Nat → Nat → Int32} {ns mo : Nat} {sh : Nat → Nat → Nat} {ow : Nat → Nat} (hns : ns ≤ 5) (hg : zSG g ns mo sh ow ns) {r : Nat → Nat} {b : Nat} (hC : zCS g ns sh ow r b) {a : z_A} (hA : zCA g ns a) (ha : z_aok ns a) (hT : z_tn ns ow r ≤ 20000) (hr2 : ∀ s, s < ns → r s ≤ 18) : zCall l D tc A mX3_keep (d + 1) 0 0 [.ref 56] (zs g gl f) (zQv fun S' => ∃ g2, S' = zs g2 gl f ∧ zCA g2 ns (z_kp (z_tn ns ow) r a) ∧ (∀ k j, ¬ ((59 ≤ k ∧ k ≤ 61) ∨ (k = 56 ∧ (j = 6 ∨ j = 7 ∨ j = 8))) → g2 k j = g k j)) := by
  obtain ⟨_, ha1, ha2, ha3, _, _⟩ := id ha
  show zW l D tc A mX3_keep (d + 1) 0 0 0 0 0 [some (.ref 56), none] [] (zs g gl f) _
  refine zx_aload_n (q := 1) dX3_keep_0 rfl rfl rfl ?_
  refine zy_getIe (q := 4) (v := nI a.1) dX3_keep_1 fl_RX3_31 rfl rfl (hA.1) rfl ?_
  refine zx_if_eq (q := 7) (t := 18) dX3_keep_4 (by decide) rfl (fun c_4 => ?_) (fun c_4 => ?_)
  · have hif : a.1 = 0 ∨ z_tn ns ow r < a.2.1 := Or.inl (by rw [show (0 : Int32) = nI 0 from rfl, nI_eq (by omega) (by omega)] at c_4; exact c_4)
    refine zx_aload_n (q := 19) dX3_keep_18 rfl rfl rfl ?_
    refine zx_aload_n (q := 20) dX3_keep_19 rfl rfl rfl ?_
    refine zy_getI (q := 23) dX3_keep_20 fl_RX3_73 rfl rfl rfl ?_
    rw [hC.2.2.2]
    refine zy_putI (q := 26) dX3_keep_23 fl_RX3_35 rfl rfl ⟨rfl, rfl⟩ rfl rfl ?_
    refine zx_aload_n (q := 27) dX3_keep_26 rfl rfl rfl ?_
    refine zy_getR (q := 30) dX3_keep_27 fl_RX3_9 rfl rfl rfl rfl ?_
    refine zx_iconst (q := 31) (v := 0) dX3_keep_30 (by decide) rfl ?_
    refine zx_aload_n (q := 32) dX3_keep_31 rfl rfl rfl ?_
    refine zy_getR (q := 35) dX3_keep_32 fl_RX3_18 rfl rfl rfl rfl ?_
    refine zx_iconst (q := 36) (v := 0) dX3_keep_35 (by decide) rfl ?_
    refine zx_iconst (q := 37) (v := 5) dX3_keep_36 (by decide) rfl ?_
    refine zy_copyG (q := 40) dX3_keep_37 ml_RX3_92 rfl rfl rfl (by decide) (by omega) (Nat.le_of_ble_eq_true rfl) rfl (fun g1 h1 k1 => ?_)
    refine zx_aload_n (q := 41) dX3_keep_40 rfl rfl rfl ?_
    refine zx_aload_n (q := 42) dX3_keep_41 rfl rfl rfl ?_
    refine zy_getI (q := 45) dX3_keep_42 fl_RX3_38 rfl rfl rfl ?_
    refine zx_aload_n (q := 46) dX3_keep_45 rfl rfl rfl ?_
    refine zy_getI (q := 49) dX3_keep_46 fl_RX3_73 rfl rfl rfl ?_
    rw [h1 56 8 (by omega), z_u_ne _ _ (by omega), hA.2.2.1, h1 56 4 (by omega), z_u_ne _ _ (by omega), hC.2.2.2]
    refine zx_mmax (q := 52) dX3_keep_49 ml_RX3_98 (Nat.le_of_ble_eq_true rfl) (Nat.le_refl _) (Nat.le_refl _) rfl ?_
    rw [z_maxN (by omega) (by omega)]
    refine zy_putI (q := 55) dX3_keep_52 fl_RX3_38 rfl rfl ⟨rfl, rfl⟩ rfl rfl ?_
    refine zx_aload_n (q := 56) dX3_keep_55 rfl rfl rfl ?_
    refine zx_dup (q := 57) dX3_keep_56 rfl rfl ?_
    refine zy_getI (q := 60) dX3_keep_57 fl_RX3_31 rfl rfl rfl ?_
    rw [z_u_ne _ _ (by omega), h1 56 6 (by omega), z_u_ne _ _ (by omega), hA.1]
    refine zx_iconst (q := 61) (v := 1) dX3_keep_60 (by decide) rfl ?_
    refine zx_iadd (q := 62) dX3_keep_61 rfl ?_
    rw [nI_1]
    refine zy_putI (q := 65) dX3_keep_62 fl_RX3_31 rfl rfl ⟨rfl, rfl⟩ rfl rfl ?_
    refine zx_iconst (q := 66) (v := 0) dX3_keep_65 (by decide) rfl ?_
    refine zx_istore1 (q := 67) dX3_keep_66 rfl rfl ?_
    refine lp_X3_keep d hns hg hC (a := a) hC.1 hr2 ns 0 _ (by omega) ?_ ?_ ?_ ?_ ?_ ?_ ?_ ?_ ?_
    · intro k j z; first | (rw [z_u_ne _ _ (by omega), z_u_ne _ _ (by omega), h1 _ _ (by omega), z_u_ne _ _ (by omega)]; done) | rw [z_u_ne _ _ (by omega), z_u_ne _ _ (by omega)]
    · rw [z_u_at]
    · first | (rw [z_u_ne _ _ (by omega), z_u_ne _ _ (by omega), h1 _ _ (by omega), z_u_at, if_pos hif]; done) | (rw [z_u_ne _ _ (by omega), z_u_ne _ _ (by omega), if_neg hif]; exact hA.2.1)
    · rw [z_u_ne _ _ (by omega), z_u_at]
    · intro s hs; first | (rw [z_u_ne _ _ (by omega), z_u_ne _ _ (by omega), k1 s (by omega), z_u_ne _ _ (by omega), hC.1 s (by omega), if_pos hif]; done) | (rw [z_u_ne _ _ (by omega), z_u_ne _ _ (by omega), if_neg hif]; exact hA.2.2.2.1 (by omega) s hs)
    · intro i hi; omega
    · intro i _ hi; first | (rw [z_u_ne _ _ (by omega), z_u_ne _ _ (by omega), h1 _ _ (by omega), z_u_ne _ _ (by omega)]; exact hA.2.2.2.2.1 i hi) | (rw [z_u_ne _ _ (by omega), z_u_ne _ _ (by omega)]; exact hA.2.2.2.2.1 i hi)
    · intro i hi; omega
    · intro i _ hi; first | (rw [z_u_ne _ _ (by omega), z_u_ne _ _ (by omega), h1 _ _ (by omega), z_u_ne _ _ (by omega)]; exact hA.2.2.2.2.2 i hi) | (rw [z_u_ne _ _ (by omega), z_u_ne _ _ (by omega)]; exact hA.2.2.2.2.2 i hi)
  · have h40 : ¬ a.1 = 0 := fun z => c_4 (by rw [z]; rfl)
    refine zx_aload_n (q := 8) dX3_keep_7 rfl rfl rfl ?_
    refine zy_getI (q := 11) dX3_keep_8 fl_RX3_73 rfl rfl rfl ?_
    refine zx_aload_n (q := 12) dX3_keep_11 rfl rfl rfl ?_
    refine zy_getI (q := 15) dX3_keep_12 fl_RX3_35 rfl rfl rfl ?_
    rw [hC.2.2.2, hA.2.1]
    refine zx_icmp_ge (q := 18) (t := 40) dX3_keep_15 (by decide) rfl (fun c_15 => ?_) (fun c_15 => ?_)
    · have hif : ¬ (a.1 = 0 ∨ z_tn ns ow r < a.2.1) := by rw [nI_leI (by omega) (by omega)] at c_15; omega
      refine zx_aload_n (q := 41) dX3_keep_40 rfl rfl rfl ?_
      refine zx_aload_n (q := 42) dX3_keep_41 rfl rfl rfl ?_
      refine zy_getI (q := 45) dX3_keep_42 fl_RX3_38 rfl rfl rfl ?_
      refine zx_aload_n (q := 46) dX3_keep_45 rfl rfl rfl ?_
      refine zy_getI (q := 49) dX3_keep_46 fl_RX3_73 rfl rfl rfl ?_
      rw [hA.2.2.1, hC.2.2.2]
      refine zx_mmax (q := 52) dX3_keep_49 ml_RX3_98 (Nat.le_of_ble_eq_true rfl) (Nat.le_refl _) (Nat.le_refl _) rfl ?_
      rw [z_maxN (by omega) (by omega)]
      refine zy_putI (q := 55) dX3_keep_52 fl_RX3_38 rfl rfl ⟨rfl, rfl⟩ rfl rfl ?_
      refine zx_aload_n (q := 56) dX3_keep_55 rfl rfl rfl ?_
      refine zx_dup (q := 57) dX3_keep_56 rfl rfl ?_
      refine zy_getI (q := 60) dX3_keep_57 fl_RX3_31 rfl rfl rfl ?_
      rw [z_u_ne _ _ (by omega), hA.1]
      refine zx_iconst (q := 61) (v := 1) dX3_keep_60 (by decide) rfl ?_
      refine zx_iadd (q := 62) dX3_keep_61 rfl ?_
      rw [nI_1]
      refine zy_putI (q := 65) dX3_keep_62 fl_RX3_31 rfl rfl ⟨rfl, rfl⟩ rfl rfl ?_
      refine zx_iconst (q := 66) (v := 0) dX3_keep_65 (by decide) rfl ?_
      refine zx_istore1 (q := 67) dX3_keep_66 rfl rfl ?_
      refine lp_X3_keep d hns hg hC (a := a) hC.1 hr2 ns 0 _ (by omega) ?_ ?_ ?_ ?_ ?_ ?_ ?_ ?_ ?_
      · intro k j z; first | (rw [z_u_ne _ _ (by omega), z_u_ne _ _ (by omega), h1 _ _ (by omega), z_u_ne _ _ (by omega)]; done) | rw [z_u_ne _ _ (by omega), z_u_ne _ _ (by omega)]
      · rw [z_u_at]
      · first | (rw [z_u_ne _ _ (by omega), z_u_ne _ _ (by omega), h1 _ _ (by omega), z_u_at, if_pos hif]; done) | (rw [z_u_ne _ _ (by omega), z_u_ne _ _ (by omega), if_neg hif]; exact hA.2.1)
      · rw [z_u_ne _ _ (by omega), z_u_at]
      · intro s hs; first | (rw [z_u_ne _ _ (by omega), z_u_ne _ _ (by omega), k1 s (by omega), z_u_ne _ _ (by omega), hC.1 s (by omega), if_pos hif]; done) | (rw [z_u_ne _ _ (by omega), z_u_ne _ _ (by omega), if_neg hif]; exact hA.2.2.2.1 (by omega) s hs)
      · intro i hi; omega
      · intro i _ hi; first | (rw [z_u_ne _ _ (by omega), z_u_ne _ _ (by omega), h1 _ _ (by omega), z_u_ne _ _ (by omega)]; exact hA.2.2.2.2.1 i hi) | (rw [z_u_ne _ _ (by omega), z_u_ne _ _ (by omega)]; exact hA.2.2.2.2.1 i hi)
      · intro i hi; omega
      · intro i _ hi; first | (rw [z_u_ne _ _ (by omega), z_u_ne _ _ (by omega), h1 _ _ (by omega), z_u_ne _ _ (by omega)]; exact hA.2.2.2.2.2 i hi) | (rw [z_u_ne _ _ (by omega), z_u_ne _ _ (by omega)]; exact hA.2.2.2.2.2 i hi)
    · have hif : a.1 = 0 ∨ z_tn ns ow r < a.2.1 := by rw [nI_leI (by omega) (by omega)] at c_15; omega
      refine zx_aload_n (q := 19) dX3_keep_18 rfl rfl rfl ?_
      refine zx_aload_n (q := 20) dX3_keep_19 rfl rfl rfl ?_
      refine zy_getI (q := 23) dX3_keep_20 fl_RX3_73 rfl rfl rfl ?_
      rw [hC.2.2.2]
      refine zy_putI (q := 26) dX3_keep_23 fl_RX3_35 rfl rfl ⟨rfl, rfl⟩ rfl rfl ?_
      refine zx_aload_n (q := 27) dX3_keep_26 rfl rfl rfl ?_
      refine zy_getR (q := 30) dX3_keep_27 fl_RX3_9 rfl rfl rfl rfl ?_
      refine zx_iconst (q := 31) (v := 0) dX3_keep_30 (by decide) rfl ?_
      refine zx_aload_n (q := 32) dX3_keep_31 rfl rfl rfl ?_
      refine zy_getR (q := 35) dX3_keep_32 fl_RX3_18 rfl rfl rfl rfl ?_
      refine zx_iconst (q := 36) (v := 0) dX3_keep_35 (by decide) rfl ?_
      refine zx_iconst (q := 37) (v := 5) dX3_keep_36 (by decide) rfl ?_
      refine zy_copyG (q := 40) dX3_keep_37 ml_RX3_92 rfl rfl rfl (by decide) (by omega) (Nat.le_of_ble_eq_true rfl) rfl (fun g1 h1 k1 => ?_)
      refine zx_aload_n (q := 41) dX3_keep_40 rfl rfl rfl ?_
      refine zx_aload_n (q := 42) dX3_keep_41 rfl rfl rfl ?_
      refine zy_getI (q := 45) dX3_keep_42 fl_RX3_38 rfl rfl rfl ?_
      refine zx_aload_n (q := 46) dX3_keep_45 rfl rfl rfl ?_
      refine zy_getI (q := 49) dX3_keep_46 fl_RX3_73 rfl rfl rfl ?_
      rw [h1 56 8 (by omega), z_u_ne _ _ (by omega), hA.2.2.1, h1 56 4 (by omega), z_u_ne _ _ (by omega), hC.2.2.2]
      refine zx_mmax (q := 52) dX3_keep_49 ml_RX3_98 (Nat.le_of_ble_eq_true rfl) (Nat.le_refl _) (Nat.le_refl _) rfl ?_
      rw [z_maxN (by omega) (by omega)]
      refine zy_putI (q := 55) dX3_keep_52 fl_RX3_38 rfl rfl ⟨rfl, rfl⟩ rfl rfl ?_
      refine zx_aload_n (q := 56) dX3_keep_55 rfl rfl rfl ?_
      refine zx_dup (q := 57) dX3_keep_56 rfl rfl ?_
      refine zy_getI (q := 60) dX3_keep_57 fl_RX3_31 rfl rfl rfl ?_
      rw [z_u_ne _ _ (by omega), h1 56 6 (by omega), z_u_ne _ _ (by omega), hA.1]
      refine zx_iconst (q := 61) (v := 1) dX3_keep_60 (by decide) rfl ?_
      refine zx_iadd (q := 62) dX3_keep_61 rfl ?_
      rw [nI_1]
      refine zy_putI (q := 65) dX3_keep_62 fl_RX3_31 rfl rfl ⟨rfl, rfl⟩ rfl rfl ?_
      refine zx_iconst (q := 66) (v := 0) dX3_keep_65 (by decide) rfl ?_
      refine zx_istore1 (q := 67) dX3_keep_66 rfl rfl ?_
      refine lp_X3_keep d hns hg hC (a := a) hC.1 hr2 ns 0 _ (by omega) ?_ ?_ ?_ ?_ ?_ ?_ ?_ ?_ ?_
      · intro k j z; first | (rw [z_u_ne _ _ (by omega), z_u_ne _ _ (by omega), h1 _ _ (by omega), z_u_ne _ _ (by omega)]; done) | rw [z_u_ne _ _ (by omega), z_u_ne _ _ (by omega)]
      · rw [z_u_at]
      · first | (rw [z_u_ne _ _ (by omega), z_u_ne _ _ (by omega), h1 _ _ (by omega), z_u_at, if_pos hif]; done) | (rw [z_u_ne _ _ (by omega), z_u_ne _ _ (by omega), if_neg hif]; exact hA.2.1)
      · rw [z_u_ne _ _ (by omega), z_u_at]
      · intro s hs; first | (rw [z_u_ne _ _ (by omega), z_u_ne _ _ (by omega), k1 s (by omega), z_u_ne _ _ (by omega), hC.1 s (by omega), if_pos hif]; done) | (rw [z_u_ne _ _ (by omega), z_u_ne _ _ (by omega), if_neg hif]; exact hA.2.2.2.1 (by omega) s hs)
      · intro i hi; omega
      · intro i _ hi; first | (rw [z_u_ne _ _ (by omega), z_u_ne _ _ (by omega), h1 _ _ (by omega), z_u_ne _ _ (by omega)]; exact hA.2.2.2.2.1 i hi) | (rw [z_u_ne _ _ (by omega), z_u_ne _ _ (by omega)]; exact hA.2.2.2.2.1 i hi)
      · intro i hi; omega
      · intro i _ hi; first | (rw [z_u_ne _ _ (by omega), z_u_ne _ _ (by omega), h1 _ _ (by omega), z_u_ne _ _ (by omega)]; exact hA.2.2.2.2.2 i hi) | (rw [z_u_ne _ _ (by omega), z_u_ne _ _ (by omega)]; exact hA.2.2.2.2.2 i hi)
theorem t_X3_begin (d : Nat) {g : Nat → Nat → Int32} (ns : Nat) (sh : Nat → Nat → Nat) (ow : Nat → Nat) : zCall l D tc A mX3_begin (d + 1) 0 0 [.ref 56] (zs g gl f) (zQv fun S' => ∃ g2, S' = zs g2 gl f ∧ zCS g2 ns sh ow (fun _ => 0) 0 ∧ g2 56 5 = 0 ∧ (∀ k j, ¬ (k = 57 ∨ k = 58 ∨ (k = 56 ∧ (j = 3 ∨ j = 4 ∨ j = 5))) → g2 k j = g k j)) := by
  show zW l D tc A mX3_begin (d + 1) 0 0 0 0 0 [some (.ref 56)] [] (zs g gl f) _
  refine zx_aload_n (q := 1) dX3_begin_0 rfl rfl rfl ?_
  refine zy_getR (q := 4) dX3_begin_1 fl_RX3_9 rfl rfl rfl rfl ?_
  refine zx_iconst (q := 5) (v := 0) dX3_begin_4 (by decide) rfl ?_
  refine zx_callS2v (q := 8) (y' := mJ7_fill_53178) dX3_begin_5 ml_RX3_41 ok_mJ7_fill_53178 (Nat.le_of_ble_eq_true rfl) (Nat.le_of_ble_eq_true rfl) (Nat.le_refl _) (Nat.le_refl _) rfl (t_fillI _ 57 5 0 rfl (by omega)) ?_
  rintro _ rfl
  refine zx_aload_n (q := 9) dX3_begin_8 rfl rfl rfl ?_
  refine zy_getR (q := 12) dX3_begin_9 fl_RX3_15 rfl rfl rfl rfl ?_
  refine zx_iconst (q := 13) (v := 0) dX3_begin_12 (by decide) rfl ?_
  refine zx_callS2v (q := 16) (y' := mJ7_fill_53178) dX3_begin_13 ml_RX3_41 ok_mJ7_fill_53178 (Nat.le_of_ble_eq_true rfl) (Nat.le_of_ble_eq_true rfl) (Nat.le_refl _) (Nat.le_refl _) rfl (t_fillI _ 58 3 0 rfl (by omega)) ?_
  rintro _ rfl
  refine zx_aload_n (q := 17) dX3_begin_16 rfl rfl rfl ?_
  refine zx_iconst (q := 18) (v := 0) dX3_begin_17 (by decide) rfl ?_
  refine zy_putI (q := 21) dX3_begin_18 fl_RX3_70 rfl rfl ⟨rfl, rfl⟩ rfl rfl ?_
  refine zx_aload_n (q := 22) dX3_begin_21 rfl rfl rfl ?_
  refine zx_iconst (q := 23) (v := 0) dX3_begin_22 (by decide) rfl ?_
  refine zy_putI (q := 26) dX3_begin_23 fl_RX3_73 rfl rfl ⟨rfl, rfl⟩ rfl rfl ?_
  refine zx_aload_n (q := 27) dX3_begin_26 rfl rfl rfl ?_
  refine zx_iconst (q := 28) (v := 0) dX3_begin_27 (by decide) rfl ?_
  refine zy_putI (q := 31) dX3_begin_28 fl_RX3_51 rfl rfl ⟨rfl, rfl⟩ rfl rfl ?_
  refine zx_vret dX3_begin_31 rfl (Nat.le_refl _) (Nat.le_refl _) ⟨rfl, ?_⟩
  refine ⟨_, rfl, ⟨fun s hs => ?_, fun h hh => ?_, ?_, ?_⟩, ?_, fun k j z => ?_⟩
  · rw [z_u_ne _ _ (by omega), z_u_ne _ _ (by omega), z_u_ne _ _ (by omega)]; unfold zw_fill; rw [if_neg (by omega), if_pos (by omega)]; rfl
  · rw [z_u_ne _ _ (by omega), z_u_ne _ _ (by omega), z_u_ne _ _ (by omega)]; unfold zw_fill; rw [if_pos (by omega)]; unfold z_cn; rw [z_sN_congr (h := fun _ => 0) ns (fun i _ => Nat.zero_mul _), z_sN_0]; rfl
  · rw [z_u_ne _ _ (by omega), z_u_ne _ _ (by omega), z_u_at]; rfl
  · rw [z_u_ne _ _ (by omega), z_u_at]; unfold z_tn; rw [z_sN_congr (h := fun _ => 0) ns (fun i _ => Nat.zero_mul _), z_sN_0]; rfl
  · rw [z_u_at]
  · rw [z_u_ne _ _ (by omega), z_u_ne _ _ (by omega), z_u_ne _ _ (by omega)]; unfold zw_fill; rw [if_neg (by omega), if_neg (by omega)]
theorem z_ov_0 {o : Option Nat} (h : ∀ v, o = some v → v < 2 ^ 31) (e : z_ov o = 0) : o = some 0 := by
  cases o with
  | none => exact absurd e (by decide)
  | some v =>
    rw [z_ov_some, show (0 : Int32) = nI 0 from rfl, nI_eq (h v rfl) (by omega)] at e
    rw [e]
theorem lp_X3_find (d : Nat) {g : Nat → Nat → Int32} {ns mo : Nat} {sh : Nat → Nat → Nat} {ow : Nat → Nat} (hns : ns ≤ 5) (hg : zSG g ns mo sh ow ns) (hsh : ∀ s, s < ns → ∀ h, h < 3 → sh s h ≤ 1998) (how : ∀ s, s < ns → ow s ≤ 1089) {M : Nat} (hM : M ≤ 18) {wc : Nat} {w : Nat → Option Nat} (hwc : zg_sh[wc]? = some (1, 3)) (hwx : ¬ (56 ≤ wc ∧ wc ≤ 61)) (hw : z_wt g wc w) : ∀ (n i : Nat) (r : Nat → Nat) (b : Nat) (a : z_A) (g1 : Nat → Nat → Int32), z_rk ns M r ns = n → i + n < 100000 → a.1 + n + 1 ≤ 40000 → b = z_sN ns r → b ≤ M → zCS g1 ns sh ow r b → zCA g1 ns a → z_aok ns a → g1 56 5 = 0 → (∀ k j, ¬ (56 ≤ k ∧ k ≤ 61) → g1 k j = g k j) →
    zW l D tc A mX3_find (d + 2) 0 0 0 0 37 [some (.ref 56), some (.int (nI M)), some (.ref wc), some (.int (nI i))] [] (zs g1 gl f) (zQv fun S' => ∃ g2, S' = zs g2 gl f ∧ zCA g2 ns (z_fd M ns w sh ow r b a) ∧ z_aok ns (z_fd M ns w sh ow r b a) ∧ (∀ k j, ¬ (56 ≤ k ∧ k ≤ 61) → g2 k j = g k j)) := by
  intro n
  induction n using Nat.strongRecOn with
  | _ n ih =>
    intro i r b a g1 hn hi ha1 hb hbM hC hA hok h5 e
    have hsG : ∀ g' : Nat → Nat → Int32, (∀ k j, ¬ (56 ≤ k ∧ k ≤ 61) → g' k j = g k j) → zSG g' ns mo sh ow ns := fun g' z => zSG_cg hg (fun k j a c => z k j (by omega)) hns
    have hwG : ∀ g' : Nat → Nat → Int32, (∀ k j, ¬ (56 ≤ k ∧ k ≤ 61) → g' k j = g k j) → z_wt g' wc w := fun g' z h hh => ⟨by rw [z _ _ hwx]; exact (hw h hh).1, (hw h hh).2⟩
    have hTb : z_tn ns ow r ≤ 20000 := Nat.le_trans (z_tn_le (M := 18) (B := 1089) (by omega) how) (by decide)
    have hrb : ∀ s, s < ns → r s ≤ 18 := fun s hs => by have := z_sN_ge (r := r) ns s hs; omega
    have h62 : ∀ (g3 : Nat → Nat → Int32) (a3 : z_A), a3 = (if z_fit w (z_cn ns sh r) = true then z_kp (z_tn ns ow) r a else a) → zCS g3 ns sh ow r b → zCA g3 ns a3 → z_aok ns a3 → a3.1 ≤ a.1 + 1 → g3 56 5 = 0 → (∀ k j, ¬ (56 ≤ k ∧ k ≤ 61) → g3 k j = g k j) →
        zW l D tc A mX3_find (d + 2) 0 0 0 0 62 [some (.ref 56), some (.int (nI M)), some (.ref wc), some (.int (nI i))] [] (zs g3 gl f) (zQv fun S' => ∃ g2, S' = zs g2 gl f ∧ zCA g2 ns (z_fd M ns w sh ow r b a) ∧ z_aok ns (z_fd M ns w sh ow r b a) ∧ (∀ k j, ¬ (56 ≤ k ∧ k ≤ 61) → g2 k j = g k j)) := by
      intro g3 a3 ha3 hC3 hA3 hok3 hle h35 e3
      refine zx_aload_n (q := 63) dX3_find_62 rfl rfl rfl ?_
      refine zx_iload_n (q := 64) dX3_find_63 rfl rfl rfl ?_
      refine zx_aload_n (q := 65) dX3_find_64 rfl rfl rfl ?_
      refine zx_aload_n (q := 66) dX3_find_65 rfl rfl rfl ?_
      refine zx_callV1i (q := 69) (y' := mX3_isBeyond) dX3_find_66 ml_RX3_62 ok_mX3_isBeyond rfl (by decide) rfl (Nat.le_of_ble_eq_true rfl) (Nat.le_of_ble_eq_true rfl) (Nat.le_refl _) (Nat.le_refl _) rfl (t_X3_bey _ hns (hsG g3 e3) hC3 hwc (hwG g3 e3) (fun h hh => Nat.le_trans (z_cn_le (M := 18) (B := 1998) (by omega) (fun s hs => hsh s hs h hh)) (by decide))) ?_
      rintro _ _ ⟨rfl, rfl⟩
      refine zx_callV2v (q := 72) (y' := mX3_advance) dX3_find_69 ml_RX3_66 ok_mX3_advance rfl (by decide) rfl (Nat.le_of_ble_eq_true rfl) (Nat.le_of_ble_eq_true rfl) (Nat.le_refl _) (Nat.le_refl _) rfl (t_X3_adv _ hns (hsG g3 e3) hC3 M _ hb (by omega) (by omega) h35) ?_
      rintro _ ⟨g4, rfl, hv, e4⟩
      refine zx_iinc3 (q := 75) dX3_find_72 rfl rfl ?_
      refine zx_goto (t := 37) dX3_find_75 (by decide) ?_
      rw [z_inc]
      have hst := z_stepH (F := fun r => z_fit w (z_cn ns sh r)) (st := z_kp (z_tn ns ow)) (M := M) (ns := ns) (z_bey w (z_cn ns sh r)) hb hbM (fun z => z_bey_no z) a
      rw [show z_fd M ns w sh ow r b a = _ from hst.1, ← ha3]
      have e5 : ∀ k j, ¬ (56 ≤ k ∧ k ≤ 61) → g4 k j = g k j := fun k j z => (e4 k j (by omega)).trans (e3 k j z)
      have hA4 : zCA g4 ns a3 := zCA_cg hA3 e4
      cases hx : z_cx ns r b (z_bey w (z_cn ns sh r) || decide (M ≤ b)) with
      | none =>
        rw [hx] at hv
        have hv1 : g4 56 5 = 1 := hv
        refine zx_iload_n (q := 38) dX3_find_37 rfl rfl rfl ?_
        refine zx_ldc (q := 40) dX3_find_38 kc_RX3_50 rfl ?_
        refine zx_icmp_ge_f (t := 78) (q := 43) dX3_find_40 (by decide) rfl (nI_ge (a := i + 1) (b := 1000000) (by omega) (by decide)) ?_
        refine zx_aload_n (q := 44) dX3_find_43 rfl rfl rfl ?_
        refine zy_getIe (q := 47) (v := 1) dX3_find_44 fl_RX3_51 rfl rfl (hv1) rfl ?_
        refine zx_if_ne_t (t := 78) (q := 50) dX3_find_47 (by decide) rfl (by decide) ?_
        refine zx_vret dX3_find_78 rfl (Nat.le_refl _) (Nat.le_refl _) ⟨rfl, ?_⟩
        exact ⟨g4, rfl, hA4, hok3, e5⟩
      | some q =>
        obtain ⟨j1, j2, j3⟩ := hst.2 q.1 q.2 (by rw [hx])
        rw [hx] at hv
        exact ih (z_rk ns M q.1 ns) (by omega) (i + 1) q.1 q.2 a3 g4 rfl (by omega) (by omega) j1 j2 hv.1 hA4 hok3 hv.2 e5
    refine zx_iload_n (q := 38) dX3_find_37 rfl rfl rfl ?_
    refine zx_ldc (q := 40) dX3_find_38 kc_RX3_50 rfl ?_
    refine zx_icmp_ge_f (t := 78) (q := 43) dX3_find_40 (by decide) rfl (nI_ge (a := i) (b := 1000000) (by omega) (by decide)) ?_
    refine zx_aload_n (q := 44) dX3_find_43 rfl rfl rfl ?_
    refine zy_getIe (q := 47) (v := 0) dX3_find_44 fl_RX3_51 rfl rfl (h5) rfl ?_
    refine zx_if_ne_f (t := 78) (q := 50) dX3_find_47 (by decide) rfl (rfl) ?_
    refine zx_aload_n (q := 51) dX3_find_50 rfl rfl rfl ?_
    refine zx_aload_n (q := 52) dX3_find_51 rfl rfl rfl ?_
    refine zx_callV1i (q := 55) (y' := mX3_excess) dX3_find_52 ml_RX3_55 ok_mX3_excess rfl (by decide) rfl (Nat.le_of_ble_eq_true rfl) (Nat.le_of_ble_eq_true rfl) (Nat.le_refl _) (Nat.le_refl _) rfl (t_X3_exc _ hns (hsG g1 e) hC hwc (hwG g1 e) (fun h hh => Nat.le_trans (z_cn_le (M := 18) (B := 1998) (by omega) (fun s hs => hsh s hs h hh)) (by decide))) ?_
    rintro _ _ ⟨rfl, rfl⟩
    refine zx_if_ne (q := 58) (t := 62) dX3_find_55 (by decide) rfl (fun c_55 => ?_) (fun c_55 => ?_)
    · have hfit : ¬ z_fit w (z_cn ns sh r) = true := fun z => c_55 (by rw [z_exn_fit.mpr z]; rfl)
      first
        | (have hfx : ¬ z_fit w (z_cn ns sh r) = true := hfit; exact h62 g1 a (by rw [if_neg hfit]) hC hA hok (by omega) h5 e)
        | exact h62 g3 _ (by rw [if_pos hfit]) (zCS_cg hC (fun k j z => e3 k j (by omega))) hA3 (z_aok_kp hok (by omega) hTb hrb) (Nat.le_refl _) (by rw [e3 _ _ (by omega)]; exact h5) (fun k j z => (e3 k j (by omega)).trans (e k j z))
    · have hfit : z_fit w (z_cn ns sh r) = true := z_exn_fit.mp (z_ov_0 (fun v hv => by have h7 := z_exn_le (b := 40000) (fun h hh => Nat.le_trans (z_cn_le (M := 18) (B := 1998) (by omega) (fun s hs => hsh s hs h hh)) (by decide)) 3 0 0 v (by omega) hv; omega) c_55)
      refine zx_aload_n (q := 59) dX3_find_58 rfl rfl rfl ?_
      refine zx_callV0v (q := 62) (y' := mX3_keep) dX3_find_59 ml_RX3_59 ok_mX3_keep rfl (by decide) rfl (Nat.le_of_ble_eq_true rfl) (Nat.le_of_ble_eq_true rfl) (Nat.le_refl _) (Nat.le_refl _) rfl (t_X3_keep _ hns (hsG g1 e) hC hA hok hTb hrb) ?_
      rintro _ ⟨g3, rfl, hA3, e3⟩
      first
        | (have hfx : ¬ z_fit w (z_cn ns sh r) = true := hfit; exact h62 g1 a (by rw [if_neg hfit]) hC hA hok (by omega) h5 e)
        | exact h62 g3 _ (by rw [if_pos hfit]) (zCS_cg hC (fun k j z => e3 k j (by omega))) hA3 (z_aok_kp hok (by omega) hTb hrb) (Nat.le_refl _) (by rw [e3 _ _ (by omega)]; exact h5) (fun k j z => (e3 k j (by omega)).trans (e k j z))
theorem t_X3_find (d : Nat) {g : Nat → Nat → Int32} {ns mo : Nat} {sh : Nat → Nat → Nat} {ow : Nat → Nat} (hns : ns ≤ 5) (hg : zSG g ns mo sh ow ns) (hsh : ∀ s, s < ns → ∀ h, h < 3 → sh s h ≤ 1998) (how : ∀ s, s < ns → ow s ≤ 1089) {M : Nat} (hM : M ≤ 18) {wc : Nat} {w : Nat → Option Nat} (hwc : zg_sh[wc]? = some (1, 3)) (hwx : ¬ (56 ≤ wc ∧ wc ≤ 61)) (hw : z_wt g wc w) : zCall l D tc A mX3_find (d + 2) 0 0 [.ref 56, .int (nI M), .ref wc] (zs g gl f) (zQv fun S' => ∃ g2, S' = zs g2 gl f ∧ zCA g2 ns (z_fd M ns w sh ow (fun _ => 0) 0 z_A0) ∧ z_aok ns (z_fd M ns w sh ow (fun _ => 0) 0 z_A0) ∧ (∀ k j, ¬ (56 ≤ k ∧ k ≤ 61) → g2 k j = g k j)) := by
  show zW l D tc A mX3_find (d + 2) 0 0 0 0 0 [some (.ref 56), some (.int (nI M)), some (.ref wc), none] [] (zs g gl f) _
  refine zx_aload_n (q := 1) dX3_find_0 rfl rfl rfl ?_
  refine zx_iconst (q := 2) (v := 0) dX3_find_1 (by decide) rfl ?_
  refine zy_putI (q := 5) dX3_find_2 fl_RX3_31 rfl rfl ⟨rfl, rfl⟩ rfl rfl ?_
  refine zx_aload_n (q := 6) dX3_find_5 rfl rfl rfl ?_
  refine zx_iconst (q := 7) (v := 0) dX3_find_6 (by decide) rfl ?_
  refine zy_putI (q := 10) dX3_find_7 fl_RX3_35 rfl rfl ⟨rfl, rfl⟩ rfl rfl ?_
  refine zx_aload_n (q := 11) dX3_find_10 rfl rfl rfl ?_
  refine zx_iconst (q := 12) (v := 0) dX3_find_11 (by decide) rfl ?_
  refine zy_putI (q := 15) dX3_find_12 fl_RX3_38 rfl rfl ⟨rfl, rfl⟩ rfl rfl ?_
  refine zx_aload_n (q := 16) dX3_find_15 rfl rfl rfl ?_
  refine zy_getR (q := 19) dX3_find_16 fl_RX3_21 rfl rfl rfl rfl ?_
  refine zx_iconst (q := 20) (v := 0) dX3_find_19 (by decide) rfl ?_
  refine zx_callS2v (q := 23) (y' := mJ7_fill_53178) dX3_find_20 ml_RX3_41 ok_mJ7_fill_53178 (Nat.le_of_ble_eq_true rfl) (Nat.le_of_ble_eq_true rfl) (Nat.le_refl _) (Nat.le_refl _) rfl (t_fillI _ 60 5 0 rfl (by omega)) ?_
  rintro _ rfl
  refine zx_aload_n (q := 24) dX3_find_23 rfl rfl rfl ?_
  refine zy_getR (q := 27) dX3_find_24 fl_RX3_24 rfl rfl rfl rfl ?_
  refine zx_iconst (q := 28) (v := 0) dX3_find_27 (by decide) rfl ?_
  refine zx_callS2v (q := 31) (y' := mJ7_fill_53178) dX3_find_28 ml_RX3_41 ok_mJ7_fill_53178 (Nat.le_of_ble_eq_true rfl) (Nat.le_of_ble_eq_true rfl) (Nat.le_refl _) (Nat.le_refl _) rfl (t_fillI _ 61 5 0 rfl (by omega)) ?_
  rintro _ rfl
  refine zx_aload_n (q := 32) dX3_find_31 rfl rfl rfl ?_
  refine zx_callV0v (q := 35) (y' := mX3_begin) dX3_find_32 ml_RX3_47 ok_mX3_begin rfl (by decide) rfl (Nat.le_of_ble_eq_true rfl) (Nat.le_of_ble_eq_true rfl) (Nat.le_refl _) (Nat.le_refl _) rfl (t_X3_begin _ ns sh ow) ?_
  rintro _ ⟨g1, rfl, hC1, h15, e1⟩
  refine zx_iconst (q := 36) (v := 0) dX3_find_35 (by decide) rfl ?_
  refine zx_istore3 (q := 37) dX3_find_36 rfl rfl ?_
  have hgf : ∀ k j, ¬ (56 ≤ k ∧ k ≤ 61) → g1 k j = g k j := fun k j z => by rw [e1 k j (by omega)]; unfold zw_fill; rw [if_neg (by omega), if_neg (by omega), z_u_ne _ _ (by omega), z_u_ne _ _ (by omega), z_u_ne _ _ (by omega)]
  have hk := z_rk_first (ns := ns) (M := M) hns hM
  refine lp_X3_find d hns hg hsh how hM hwc hwx hw (z_rk ns M (fun _ => 0) ns) 0 (fun _ => 0) 0 z_A0 g1 rfl (by omega) (by show 0 + _ + 1 ≤ 40000; omega) (z_sN_0 ns).symm (Nat.zero_le _) hC1 ⟨?_, ?_, ?_, fun z => absurd z (Nat.lt_irrefl 0), fun s hs => ?_, fun s hs => ?_⟩ (z_aok0 ns) h15 hgf
  · rw [e1 _ _ (by omega)]; rfl
  · rw [e1 _ _ (by omega)]; rfl
  · rw [e1 _ _ (by omega)]; rfl
  · rw [e1 _ _ (by omega)]; unfold zw_fill; rw [if_pos (by omega)]; rfl
  · rw [e1 _ _ (by omega)]; unfold zw_fill; rw [if_neg (by omega), if_pos (by omega)]; rfl
end P40
