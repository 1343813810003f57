/-! the reference's searches -/
theorem z_ov_some' {o : Option Nat} {x : Int32} (h : ∀ v, o = some v → v < 2 ^ 30) (e : ¬ z_ov o < 0) : ∃ v, o = some v := by
  cases o with
  | none => exact absurd (by decide) e
  | some v => exact ⟨v, rfl⟩
section P42
variable {l : Launch} {D : va_G} {tc : Nat → ClassId} {A : Nat → Prop} {S : zw_S} {gi : Nat → Nat → Int32} {gl : Nat → Nat → Int64} {f : Option Nat}
def zFq (gi g : Nat → Nat → Int32) : Prop := ∀ k j, ¬ z_scr k j → ¬ k = 116 → g k j = gi k j
theorem zFq_M {ns m : Nat} {g : Nat → Nat → Int32} (L : zLK gi ns m) (e : zFq gi g) : zIsM g ∧ z_most g = z_most gi ∧ zSNow g ns ∧ g 108 0 = nI ns ∧ g 108 1 = nI m := by
  have e2 : ∀ k j, z_fc k → g k j = gi k j := fun k j z => e k j (by unfold z_fc at z; unfold z_scr; omega) (by unfold z_fc at z; omega)
  refine ⟨zIsM_cg L.hM e2 (fun j => ⟨e _ _ (by unfold z_scr; omega) (by omega), e _ _ (by unfold z_scr; omega) (by omega), e _ _ (by unfold z_scr; omega) (by omega), e _ _ (by unfold z_scr; omega) (by omega), e _ _ (by unfold z_scr; omega) (by omega), e _ _ (by unfold z_scr; omega) (by omega), e _ _ (by unfold z_scr; omega) (by omega)⟩), z_most_cg e2,
    zSTs_congr L.hS L.hns (fun k j hk => e _ _ (by unfold z_scr; omega) (by omega)) (fun k j hk => e _ _ (by unfold z_scr; omega) (by omega)), ?_, ?_⟩
  · rw [e _ _ (by unfold z_scr; omega) (by omega)]; exact L.hs2
  · rw [e _ _ (by unfold z_scr; omega) (by omega)]; exact L.hm2
theorem t_X8_mostF (d : Nat) {ns m : Nat} {g : Nat → Nat → Int32} (L : zLK gi ns m) (e : zFq gi g) : zCall l D tc A mX8_mostNow (d + 1) 0 0 [.ref 108] (zs g gl f) (zQi fun r S' => r = nI (z_most gi) ∧ S' = zs g gl f) := by
  rw [← (zFq_M L e).2.1]
  exact t_X8_mostNow d (zFq_M L e).1
theorem t_X8_layF (d : Nat) {ns m : Nat} {g : Nat → Nat → Int32} (L : zLK gi ns m) (e : zFq gi g) : zCall l D tc A mX8_layShows (d + 4) 0 0 [.ref 108] (zs g gl f) (zQv fun S' => ∃ g2, S' = zs g2 gl f ∧ (∀ k j, ¬ (126 ≤ k ∧ k ≤ 128) → g2 k j = g k j) ∧ zSM g2 (z_sh gi m) (z_ow gi m) ns) := by
  obtain ⟨h1, _, h3, h4, h5⟩ := zFq_M L e
  refine zW.mono (t_X8_layShows d ns m h1 h3 L.hns L.hm h4 h5) ?_
  rintro _ S' ⟨h0, g2, h6, h7, h8⟩
  exact ⟨h0, g2, h6, h7, zSM_cg h8 L.hns (fun k j z => e k j (by unfold z_scr; omega) (by omega))⟩
theorem lp_X8_fits (d : Nat) {g : Nat → Nat → Int32} {ns : Nat} {sh : Nat → Nat → Nat} {ow : Nat → Nat} (hns : ns ≤ 5) (hg : zSM g sh ow ns) (hn8 : g 108 0 = nI ns) {r : Nat → Nat} {b : Nat} (hC : zMS g r b) {w : Nat → Option Nat} (hw : z_wt g 116 w) (hCb : ∀ h, h < 3 → z_cn ns sh r h ≤ 40000) : ∀ (k h : Nat), h + k = 3 → zW l D tc A mX8_fitsNow (d + 1) 0 0 0 0 2 [some (.ref 108), some (.int (nI h))] [] (zs g gl f) (zQi fun x S' => x = zb (z_al (fun h => match w h with | none => true | some v => decide (z_cn ns sh r h = v)) k h) ∧ S' = zs g gl f) := by
  intro k
  induction k using Nat.strongRecOn with
  | _ k ih =>
    intro h hh
    refine zx_iload_n (q := 3) dX8_fitsNow_2 rfl rfl rfl ?_
    refine zx_iconst (q := 4) (v := 3) dX8_fitsNow_3 (by decide) rfl ?_
    refine zx_icmp_ge (q := 7) (t := 38) dX8_fitsNow_4 (by decide) rfl (fun c_4 => ?_) (fun c_4 => ?_)
    · have hs2 : h = 3 := by have := z_ge (x := nI (3)) rfl (by omega) c_4; omega
      have hk0 : k = 0 := by omega
      subst hk0
      refine zx_iconst (q := 39) (v := 1) dX8_fitsNow_38 (by decide) rfl ?_
      refine zx_zret dX8_fitsNow_39 rfl (by first | rfl | exact zb_nar _) (Nat.le_refl _) (Nat.le_refl _) ⟨_, rfl, ?_⟩
      exact ⟨rfl, rfl⟩
    · have hs2 : h < 3 := z_lt (x := nI (3)) rfl (by omega) c_4
      obtain ⟨k, rfl⟩ : ∃ q, k = q + 1 := ⟨k - 1, by omega⟩
      refine zx_aload_n (q := 8) dX8_fitsNow_7 rfl rfl rfl ?_
      refine zy_getR (q := 11) dX8_fitsNow_8 fl_RX8_38 rfl rfl rfl rfl ?_
      refine zx_iload_n (q := 12) dX8_fitsNow_11 rfl rfl rfl ?_
      refine zy_ialdN (q := 13) dX8_fitsNow_12 rfl (by omega) (by first | decide | omega) rfl ?_
      obtain ⟨hw1, hw2⟩ := hw h (by omega)
      have hCb2 := hCb h (by omega)
      rw [hw1]
      refine zx_if_lt (q := 16) (t := 32) dX8_fitsNow_13 (by decide) rfl (fun c_13 => ?_) (fun c_13 => ?_)
      · have hn : w h = none := (z_ov_neg (fun v hv => by have := hw2 v hv; omega)).mp c_13
        refine zx_iinc1 (q := 35) dX8_fitsNow_32 rfl rfl ?_
        refine zx_goto (t := 2) dX8_fitsNow_35 (by decide) ?_
        rw [z_inc, z_al]
        first
          | (rw [hn]; simp only []; rw [Bool.true_and]; exact ih k (by omega) (h + 1) (by omega))
          | (rw [hv]; simp only []; rw [show decide (z_cn ns sh r h = v) = true by simp; omega, Bool.true_and]; exact ih k (by omega) (h + 1) (by omega))
      · obtain ⟨v, hv⟩ := z_ov_some' (x := 0) hw2 c_13
        have hv2 := hw2 v hv
        refine zx_aload_n (q := 17) dX8_fitsNow_16 rfl rfl rfl ?_
        refine zx_iload_n (q := 18) dX8_fitsNow_17 rfl rfl rfl ?_
        refine zx_callV1i (q := 21) (y' := mX8_countNow) dX8_fitsNow_18 ml_RX8_296 ok_mX8_countNow rfl (by decide) rfl (Nat.le_of_ble_eq_true rfl) (Nat.le_of_ble_eq_true rfl) (Nat.le_refl _) (Nat.le_refl _) rfl (t_X8_cnR _ hns hg hn8 hC h (by omega)) ?_
        rintro _ _ ⟨rfl, rfl⟩
        refine zx_aload_n (q := 22) dX8_fitsNow_21 rfl rfl rfl ?_
        refine zy_getR (q := 25) dX8_fitsNow_22 fl_RX8_38 rfl rfl rfl rfl ?_
        refine zx_iload_n (q := 26) dX8_fitsNow_25 rfl rfl rfl ?_
        refine zy_ialdN (q := 27) dX8_fitsNow_26 rfl (by omega) (by first | decide | omega) rfl ?_
        rw [hw1, hv, z_ov_some]
        refine zx_icmp_eq (q := 30) (t := 32) dX8_fitsNow_27 (by decide) rfl (fun c_27 => ?_) (fun c_27 => ?_)
        · rw [nI_eq (by omega) (by omega)] at c_27
          refine zx_iinc1 (q := 35) dX8_fitsNow_32 rfl rfl ?_
          refine zx_goto (t := 2) dX8_fitsNow_35 (by decide) ?_
          rw [z_inc, z_al]
          first
            | (rw [hn]; simp only []; rw [Bool.true_and]; exact ih k (by omega) (h + 1) (by omega))
            | (rw [hv]; simp only []; rw [show decide (z_cn ns sh r h = v) = true by simp; omega, Bool.true_and]; exact ih k (by omega) (h + 1) (by omega))
        · rw [nI_eq (by omega) (by omega)] at c_27
          refine zx_iconst (q := 31) (v := 0) dX8_fitsNow_30 (by decide) rfl ?_
          refine zx_zret dX8_fitsNow_31 rfl (by first | rfl | exact zb_nar _) (Nat.le_refl _) (Nat.le_refl _) ⟨_, rfl, ?_⟩
          exact ⟨by rw [z_al, hv]; simp only []; rw [show decide (z_cn ns sh r h = v) = false by simp; omega]; rfl, rfl⟩
theorem t_X8_fits (d : Nat) {g : Nat → Nat → Int32} {ns : Nat} {sh : Nat → Nat → Nat} {ow : Nat → Nat} (hns : ns ≤ 5) (hg : zSM g sh ow ns) (hn8 : g 108 0 = nI ns) {r : Nat → Nat} {b : Nat} (hC : zMS g r b) {w : Nat → Option Nat} (hw : z_wt g 116 w) (hCb : ∀ h, h < 3 → z_cn ns sh r h ≤ 40000) : zCall l D tc A mX8_fitsNow (d + 1) 0 0 [.ref 108] (zs g gl f) (zQi fun x S' => x = zb (z_fit w (z_cn ns sh r)) ∧ S' = zs g gl f) := by
  show zW l D tc A mX8_fitsNow (d + 1) 0 0 0 0 0 [some (.ref 108), none] [] (zs g gl f) _
  refine zx_iconst (q := 1) (v := 0) dX8_fitsNow_0 (by decide) rfl ?_
  refine zx_istore1 (q := 2) dX8_fitsNow_1 rfl rfl ?_
  exact lp_X8_fits d hns hg hn8 hC hw hCb 3 0 (by omega)
theorem lp_X8_asked (d : Nat) {g : Nat → Nat → Int32} {ns : Nat} {sh : Nat → Nat → Nat} {ow : Nat → Nat} (hns : ns ≤ 5) (hg : zSM g sh ow ns) (hn8 : g 108 0 = nI ns) {r : Nat → Nat} {b : Nat} (hC : zMS g r b) {w : Nat → Option Nat} (hw : z_wt g 132 w) (hs : ∀ h, h < 3 → ∃ v, w h = some v) (hCb : ∀ h, h < 3 → z_cn ns sh r h ≤ 40000) : ∀ (k h : Nat), h + k = 3 → zW l D tc A mX8_isAsked (d + 1) 0 0 0 0 2 [some (.ref 108), some (.int (nI h))] [] (zs g gl f) (zQi fun x S' => x = zb (z_al (fun h => match w h with | none => true | some v => decide (z_cn ns sh r h = v)) k h) ∧ S' = zs g gl f) := by
  intro k
  induction k using Nat.strongRecOn with
  | _ k ih =>
    intro h hh
    refine zx_iload_n (q := 3) dX8_isAsked_2 rfl rfl rfl ?_
    refine zx_iconst (q := 4) (v := 3) dX8_isAsked_3 (by decide) rfl ?_
    refine zx_icmp_ge (q := 7) (t := 29) dX8_isAsked_4 (by decide) rfl (fun c_4 => ?_) (fun c_4 => ?_)
    · have hs2 : h = 3 := by have := z_ge (x := nI (3)) rfl (by omega) c_4; omega
      have hk0 : k = 0 := by omega
      subst hk0
      refine zx_iconst (q := 30) (v := 1) dX8_isAsked_29 (by decide) rfl ?_
      refine zx_zret dX8_isAsked_30 rfl (by first | rfl | exact zb_nar _) (Nat.le_refl _) (Nat.le_refl _) ⟨_, rfl, ?_⟩
      exact ⟨rfl, rfl⟩
    · have hs2 : h < 3 := z_lt (x := nI (3)) rfl (by omega) c_4
      obtain ⟨k, rfl⟩ : ∃ q, k = q + 1 := ⟨k - 1, by omega⟩
      refine zx_aload_n (q := 8) dX8_isAsked_7 rfl rfl rfl ?_
      refine zx_iload_n (q := 9) dX8_isAsked_8 rfl rfl rfl ?_
      refine zx_callV1i (q := 12) (y' := mX8_countNow) dX8_isAsked_9 ml_RX8_296 ok_mX8_countNow rfl (by decide) rfl (Nat.le_of_ble_eq_true rfl) (Nat.le_of_ble_eq_true rfl) (Nat.le_refl _) (Nat.le_refl _) rfl (t_X8_cnR _ hns hg hn8 hC h (by omega)) ?_
      rintro _ _ ⟨rfl, rfl⟩
      refine zx_aload_n (q := 13) dX8_isAsked_12 rfl rfl rfl ?_
      refine zy_getR (q := 16) dX8_isAsked_13 fl_RX8_123 rfl rfl rfl rfl ?_
      refine zx_iload_n (q := 17) dX8_isAsked_16 rfl rfl rfl ?_
      refine zy_ialdN (q := 18) dX8_isAsked_17 rfl (by omega) (by first | decide | omega) rfl ?_
      obtain ⟨hw1, hw2⟩ := hw h (by omega)
      have hCb2 := hCb h (by omega)
      obtain ⟨v, hv⟩ := hs h (by omega)
      have hv2 := hw2 v hv
      rw [hw1, hv, z_ov_some]
      refine zx_icmp_eq (q := 21) (t := 23) dX8_isAsked_18 (by decide) rfl (fun c_18 => ?_) (fun c_18 => ?_)
      · rw [nI_eq (by omega) (by omega)] at c_18
        refine zx_iinc1 (q := 26) dX8_isAsked_23 rfl rfl ?_
        refine zx_goto (t := 2) dX8_isAsked_26 (by decide) ?_
        rw [z_inc, z_al, hv]
        simp only []
        rw [show decide (z_cn ns sh r h = v) = true by simp; omega, Bool.true_and]
        exact ih k (by omega) (h + 1) (by omega)
      · rw [nI_eq (by omega) (by omega)] at c_18
        refine zx_iconst (q := 22) (v := 0) dX8_isAsked_21 (by decide) rfl ?_
        refine zx_zret dX8_isAsked_22 rfl (by first | rfl | exact zb_nar _) (Nat.le_refl _) (Nat.le_refl _) ⟨_, rfl, ?_⟩
        exact ⟨by rw [z_al, hv]; simp only []; rw [show decide (z_cn ns sh r h = v) = false by simp; omega]; rfl, rfl⟩
theorem t_X8_asked (d : Nat) {g : Nat → Nat → Int32} {ns : Nat} {sh : Nat → Nat → Nat} {ow : Nat → Nat} (hns : ns ≤ 5) (hg : zSM g sh ow ns) (hn8 : g 108 0 = nI ns) {r : Nat → Nat} {b : Nat} (hC : zMS g r b) {w : Nat → Option Nat} (hw : z_wt g 132 w) (hs : ∀ h, h < 3 → ∃ v, w h = some v) (hCb : ∀ h, h < 3 → z_cn ns sh r h ≤ 40000) : zCall l D tc A mX8_isAsked (d + 1) 0 0 [.ref 108] (zs g gl f) (zQi fun x S' => x = zb (z_fit w (z_cn ns sh r)) ∧ S' = zs g gl f) := by
  show zW l D tc A mX8_isAsked (d + 1) 0 0 0 0 0 [some (.ref 108), none] [] (zs g gl f) _
  refine zx_iconst (q := 1) (v := 0) dX8_isAsked_0 (by decide) rfl ?_
  refine zx_istore1 (q := 2) dX8_isAsked_1 rfl rfl ?_
  exact lp_X8_asked d hns hg hn8 hC hw hs hCb 3 0 (by omega)
theorem z_sub_neg {a b : Nat} (h : a < b) (hb : b < 2 ^ 31) : nI a - nI b < 0 := by
  rw [Int32.lt_iff_toInt_lt, Int32.toInt_sub, nI_toInt (by omega), nI_toInt hb, show (0 : Int32).toInt = 0 by decide]
  show ((a : Int) - (b : Int)).bmod 4294967296 < 0
  unfold Int.bmod
  dsimp only
  split <;> omega
theorem lp_X8_more (d : Nat) {g : Nat → Nat → Int32} {ns : Nat} {sh : Nat → Nat → Nat} {ow : Nat → Nat} (hns : ns ≤ 5) (hg : zSM g sh ow ns) (hn8 : g 108 0 = nI ns) {r : Nat → Nat} {b : Nat} (hC : zMS g r b) {w : Nat → Option Nat} (hw : z_wt g 116 w) (hCb : ∀ h, h < 3 → z_cn ns sh r h ≤ 40000) : ∀ (k h x : Nat) (w3 : Option Value), h + k = 3 → zW l D tc A mX8_moreNow (d + 1) 0 0 0 0 4 [some (.ref 108), some (.int (nI x)), some (.int (nI h)), w3] [] (zs g gl f) (zQi fun y S' => y = z_ov (z_exn w (z_cn ns sh r) k h x) ∧ S' = zs g gl f) := by
  intro k
  induction k using Nat.strongRecOn with
  | _ k ih =>
    intro h x w3 hh
    refine zx_iload_n (q := 5) dX8_moreNow_4 rfl rfl rfl ?_
    refine zx_iconst (q := 6) (v := 3) dX8_moreNow_5 (by decide) rfl ?_
    refine zx_icmp_ge (q := 9) (t := 50) dX8_moreNow_6 (by decide) rfl (fun c_6 => ?_) (fun c_6 => ?_)
    · have hs2 : h = 3 := by have := z_ge (x := nI (3)) rfl (by omega) c_6; omega
      have hk0 : k = 0 := by omega
      subst hk0
      refine zx_iload_n (q := 51) dX8_moreNow_50 rfl rfl rfl ?_
      refine zx_iret dX8_moreNow_51 rfl (Nat.le_refl _) (Nat.le_refl _) ⟨_, rfl, ?_⟩
      exact ⟨rfl, rfl⟩
    · have hs2 : h < 3 := z_lt (x := nI (3)) rfl (by omega) c_6
      obtain ⟨k, rfl⟩ : ∃ q, k = q + 1 := ⟨k - 1, by omega⟩
      refine zx_aload_n (q := 10) dX8_moreNow_9 rfl rfl rfl ?_
      refine zy_getR (q := 13) dX8_moreNow_10 fl_RX8_38 rfl rfl rfl rfl ?_
      refine zx_iload_n (q := 14) dX8_moreNow_13 rfl rfl rfl ?_
      refine zy_ialdN (q := 15) dX8_moreNow_14 rfl (by omega) (by first | decide | omega) rfl ?_
      obtain ⟨hw1, hw2⟩ := hw h (by omega)
      have hCb2 := hCb h (by omega)
      rw [hw1]
      refine zx_if_ge (q := 18) (t := 21) dX8_moreNow_15 (by decide) rfl (fun c_15 => ?_) (fun c_15 => ?_)
      · obtain ⟨v, hv⟩ := z_ov_some' (x := 0) hw2 (Int32.not_lt.mpr c_15)
        have hv2 := hw2 v hv
        refine zx_aload_n (q := 22) dX8_moreNow_21 rfl rfl rfl ?_
        refine zx_iload_n (q := 23) dX8_moreNow_22 rfl rfl rfl ?_
        refine zx_callV1i (q := 26) (y' := mX8_countNow) dX8_moreNow_23 ml_RX8_296 ok_mX8_countNow rfl (by decide) rfl (Nat.le_of_ble_eq_true rfl) (Nat.le_of_ble_eq_true rfl) (Nat.le_refl _) (Nat.le_refl _) rfl (t_X8_cnR _ hns hg hn8 hC h (by omega)) ?_
        rintro _ _ ⟨rfl, rfl⟩
        refine zx_aload_n (q := 27) dX8_moreNow_26 rfl rfl rfl ?_
        refine zy_getR (q := 30) dX8_moreNow_27 fl_RX8_38 rfl rfl rfl rfl ?_
        refine zx_iload_n (q := 31) dX8_moreNow_30 rfl rfl rfl ?_
        refine zy_ialdN (q := 32) dX8_moreNow_31 rfl (by omega) (by first | decide | omega) rfl ?_
        rw [hw1, hv, z_ov_some]
        refine zx_isub (q := 33) dX8_moreNow_32 rfl ?_
        refine zx_istore3 (q := 34) dX8_moreNow_33 rfl rfl ?_
        refine zx_iload_n (q := 35) dX8_moreNow_34 rfl rfl rfl ?_
        refine zx_if_ge (q := 38) (t := 40) dX8_moreNow_35 (by decide) rfl (fun c_35 => ?_) (fun c_35 => ?_)
        · have hle : ¬ z_cn ns sh r h < v := fun z => absurd c_35 (Int32.not_le.mpr (z_sub_neg z (by omega)))
          refine zx_iload_n (q := 41) dX8_moreNow_40 rfl rfl rfl ?_
          refine zx_iload_n (q := 42) dX8_moreNow_41 rfl rfl rfl ?_
          rw [z_subN (Nat.le_of_not_lt hle)]
          refine zx_iadd (q := 43) dX8_moreNow_42 rfl ?_
          rw [nI_add]
          refine zx_istore1 (q := 44) dX8_moreNow_43 rfl rfl ?_
          refine zx_iinc2 (q := 47) dX8_moreNow_44 rfl rfl ?_
          refine zx_goto (t := 4) dX8_moreNow_47 (by decide) ?_
          rw [z_inc, z_exn]
          first
            | (rw [hn]; exact ih k (by omega) (h + 1) x _ (by omega))
            | (rw [hv]; simp only []; rw [if_neg hle]; exact ih k (by omega) (h + 1) _ _ (by omega))
        · have hle : z_cn ns sh r h < v := by rcases Nat.lt_or_ge (z_cn ns sh r h) v with q | q; exact q; exact absurd (by rw [z_subN q]; exact nI_pos' (by omega)) c_35
          refine zx_iconst (q := 39) (v := (-1)) dX8_moreNow_38 (by decide) rfl ?_
          refine zx_iret dX8_moreNow_39 rfl (Nat.le_refl _) (Nat.le_refl _) ⟨_, rfl, ?_⟩
          exact ⟨by rw [z_exn, hv]; simp only []; rw [if_pos hle]; rfl, rfl⟩
      · have hn : w h = none := (z_ov_neg (fun v hv => by have := hw2 v hv; omega)).mp (Int32.not_le.mp c_15)
        refine zx_goto (t := 44) dX8_moreNow_18 (by decide) ?_
        refine zx_iinc2 (q := 47) dX8_moreNow_44 rfl rfl ?_
        refine zx_goto (t := 4) dX8_moreNow_47 (by decide) ?_
        rw [z_inc, z_exn]
        first
          | (rw [hn]; exact ih k (by omega) (h + 1) x _ (by omega))
          | (rw [hv]; simp only []; rw [if_neg hle]; exact ih k (by omega) (h + 1) _ _ (by omega))
theorem t_X8_more (d : Nat) {g : Nat → Nat → Int32} {ns : Nat} {sh : Nat → Nat → Nat} {ow : Nat → Nat} (hns : ns ≤ 5) (hg : zSM g sh ow ns) (hn8 : g 108 0 = nI ns) {r : Nat → Nat} {b : Nat} (hC : zMS g r b) {w : Nat → Option Nat} (hw : z_wt g 116 w) (hCb : ∀ h, h < 3 → z_cn ns sh r h ≤ 40000) : zCall l D tc A mX8_moreNow (d + 1) 0 0 [.ref 108] (zs g gl f) (zQi fun y S' => y = z_ov (z_exn w (z_cn ns sh r) 3 0 0) ∧ S' = zs g gl f) := by
  show zW l D tc A mX8_moreNow (d + 1) 0 0 0 0 0 [some (.ref 108), none, none, none] [] (zs g gl f) _
  refine zx_iconst (q := 1) (v := 0) dX8_moreNow_0 (by decide) rfl ?_
  refine zx_istore1 (q := 2) dX8_moreNow_1 rfl rfl ?_
  refine zx_iconst (q := 3) (v := 0) dX8_moreNow_2 (by decide) rfl ?_
  refine zx_istore2 (q := 4) dX8_moreNow_3 rfl rfl ?_
  exact lp_X8_more d hns hg hn8 hC hw hCb 3 0 0 none (by omega)
theorem lp_X8_tkS (d T : Nat) {g : Nat → Nat → Int32} {ns : Nat} {ow : Nat → Nat} {r : Nat → Nat} {a : z_A} (h129 : ∀ s, s < 5 → g 129 s = nI (r s)) : ∀ (k s : Nat) (g1 : Nat → Nat → Int32), s + k = 5 → (∀ k j, ¬ (k = 130 ∨ k = 131 ∨ (k = 108 ∧ (j = 34 ∨ j = 35 ∨ j = 36))) → g1 k j = g k j) → g1 108 34 = nI (a.1 + 1) → g1 108 35 = nI (z_kp (z_tn ns ow) r a).2.1 → g1 108 36 = nI (z_kp (z_tn ns ow) r a).2.2.1 → (∀ s, s < 5 → g1 130 s = nI ((z_kp (z_tn ns ow) r a).2.2.2.1 s)) →
    (∀ i, i < s → g1 131 i = nI (a.2.2.2.2.1 i + r i)) → (∀ i, s ≤ i → i < 5 → g1 131 i = nI (a.2.2.2.2.1 i)) → zW l D tc A mX8_takeNow d 0 0 0 0 89 [some (.ref 108), some (.int (nI T)), some (.int (nI s))] [] (zs g1 gl f) (zQv fun S' => ∃ g2, S' = zs g2 gl f ∧ zMA g2 (z_kp (z_tn ns ow) r a) ∧ (∀ k j, ¬ (k = 130 ∨ k = 131 ∨ (k = 108 ∧ (j = 34 ∨ j = 35 ∨ j = 36))) → g2 k j = g k j)) := by
  intro k
  induction k using Nat.strongRecOn with
  | _ k ih =>
    intro s g1 hs e h4 h5 h6 h7 hd hn
    refine zx_iload_n (q := 90) dX8_takeNow_89 rfl rfl rfl ?_
    refine zx_iconst (q := 91) (v := 5) dX8_takeNow_90 (by decide) rfl ?_
    refine zx_icmp_ge (q := 94) (t := 115) dX8_takeNow_91 (by decide) rfl (fun c_91 => ?_) (fun c_91 => ?_)
    · have hs2 : s = 5 := by have := z_ge (x := nI (5)) rfl (by omega) c_91; omega
      have hk0 : k = 0 := by omega
      subst hk0
      refine zx_vret dX8_takeNow_115 rfl (Nat.le_refl _) (Nat.le_refl _) ⟨rfl, ?_⟩
      exact ⟨g1, rfl, ⟨h4, fun _ => ⟨h5, h6, h7⟩, fun i hi => hd i (by omega)⟩, e⟩
    · have hs2 : s < 5 := z_lt (x := nI (5)) rfl (by omega) c_91
      obtain ⟨k, rfl⟩ : ∃ q, k = q + 1 := ⟨k - 1, by omega⟩
      refine zx_aload_n (q := 95) dX8_takeNow_94 rfl rfl rfl ?_
      refine zy_getR (q := 98) dX8_takeNow_95 fl_RX8_108 rfl rfl rfl rfl ?_
      refine zx_iload_n (q := 99) dX8_takeNow_98 rfl rfl rfl ?_
      refine zx_dup2 (q := 100) dX8_takeNow_99 rfl rfl rfl ?_
      refine zy_ialdN (q := 101) dX8_takeNow_100 rfl (by omega) (by first | decide | omega) rfl ?_
      refine zx_aload_n (q := 102) dX8_takeNow_101 rfl rfl rfl ?_
      refine zy_getR (q := 105) dX8_takeNow_102 fl_RX8_102 rfl rfl rfl rfl ?_
      refine zx_iload_n (q := 106) dX8_takeNow_105 rfl rfl rfl ?_
      refine zy_ialdN (q := 107) dX8_takeNow_106 rfl (by omega) (by first | decide | omega) rfl ?_
      rw [hn s (Nat.le_refl _) (by omega), e _ _ (by omega), h129 s (by omega)]
      refine zx_iadd (q := 108) dX8_takeNow_107 rfl ?_
      rw [nI_add]
      refine zy_iastN (q := 109) dX8_takeNow_108 rfl (by omega) (by first | decide | omega) rfl ?_
      refine zx_iinc2 (q := 112) dX8_takeNow_109 rfl rfl ?_
      refine zx_goto (t := 89) dX8_takeNow_112 (by decide) ?_
      rw [z_inc]
      refine ih k (by omega) (s + 1) _ (by omega) ?_ ?_ ?_ ?_ ?_ ?_ ?_
      · intro k j z; rw [z_u_ne _ _ (by omega)]; exact e k j z
      · rw [z_u_ne _ _ (by omega)]; exact h4
      · rw [z_u_ne _ _ (by omega)]; exact h5
      · rw [z_u_ne _ _ (by omega)]; exact h6
      · intro i hi; rw [z_u_ne _ _ (by omega)]; exact h7 i hi
      · intro i hi
        by_cases c : i = s
        · subst c; rw [z_u_at]
        · rw [z_u_ne _ _ (by omega)]; exact hd i (by omega)
      · intro i hi hi2; rw [z_u_ne _ _ (by omega)]; exact hn i (by omega) hi2
theorem lp_X8_tkB (d T : Nat) {g : Nat → Nat → Int32} {r : Nat → Nat} {Q : Option Value → zw_S → Prop} (h129 : ∀ s, s < 5 → g 129 s = nI (r s)) (kk : ∀ (g1 : Nat → Nat → Int32), (∀ k j, ¬ k = 130 → g1 k j = g k j) → (∀ i, i < 5 → g1 130 i = nI (r i)) → zW l D tc A mX8_takeNow d 0 0 0 0 50 [some (.ref 108), some (.int (nI T)), some (.int (nI 5))] [] (zs g1 gl f) Q) : ∀ (k s : Nat) (g1 : Nat → Nat → Int32), s + k = 5 → (∀ k j, ¬ k = 130 → g1 k j = g k j) → (∀ i, i < s → g1 130 i = nI (r i)) →
    zW l D tc A mX8_takeNow d 0 0 0 0 27 [some (.ref 108), some (.int (nI T)), some (.int (nI s))] [] (zs g1 gl f) Q := by
  intro k
  induction k using Nat.strongRecOn with
  | _ k ih =>
    intro s g1 hs e hd
    refine zx_iload_n (q := 28) dX8_takeNow_27 rfl rfl rfl ?_
    refine zx_iconst (q := 29) (v := 5) dX8_takeNow_28 (by decide) rfl ?_
    refine zx_icmp_ge (q := 32) (t := 50) dX8_takeNow_29 (by decide) rfl (fun c_29 => ?_) (fun c_29 => ?_)
    · have hs2 : s = 5 := by have := z_ge (x := nI 5) rfl (by omega) c_29; omega
      subst hs2
      exact kk g1 e hd
    · have hs2 : s < 5 := z_lt (x := nI (5)) rfl (by omega) c_29
      obtain ⟨k, rfl⟩ : ∃ q, k = q + 1 := ⟨k - 1, by omega⟩
      refine zx_aload_n (q := 33) dX8_takeNow_32 rfl rfl rfl ?_
      refine zy_getR (q := 36) dX8_takeNow_33 fl_RX8_105 rfl rfl rfl rfl ?_
      refine zx_iload_n (q := 37) dX8_takeNow_36 rfl rfl rfl ?_
      refine zx_aload_n (q := 38) dX8_takeNow_37 rfl rfl rfl ?_
      refine zy_getR (q := 41) dX8_takeNow_38 fl_RX8_102 rfl rfl rfl rfl ?_
      refine zx_iload_n (q := 42) dX8_takeNow_41 rfl rfl rfl ?_
      refine zy_ialdN (q := 43) dX8_takeNow_42 rfl (by omega) (by first | decide | omega) rfl ?_
      rw [e _ _ (by omega), h129 s (by omega)]
      refine zy_iastN (q := 44) dX8_takeNow_43 rfl (by omega) (by first | decide | omega) rfl ?_
      refine zx_iinc2 (q := 47) dX8_takeNow_44 rfl rfl ?_
      refine zx_goto (t := 27) dX8_takeNow_47 (by decide) ?_
      rw [z_inc]
      refine ih k (by omega) (s + 1) _ (by omega) ?_ ?_
      · intro k j z; rw [z_u_ne _ _ (by omega)]; exact e k j z
      · intro i hi
        by_cases c : i = s
        · subst c; rw [z_u_at]
        · rw [z_u_ne _ _ (by omega)]; exact hd i (by omega)
theorem t_X8_take (d : Nat) {g : Nat → Nat → Int32} {ns : Nat} {sh : Nat → Nat → Nat} {ow : Nat → Nat} (hns : ns ≤ 5) (hg : zSM g sh ow ns) (hn8 : g 108 0 = nI ns) {r : Nat → Nat} {b : Nat} (hC : zMS g r b) {a : z_A} (hA : zMA g a) (ha : z_aok ns a) (hT : z_tn ns ow r ≤ 20000) : zCall l D tc A mX8_takeNow (d + 1) 0 0 [.ref 108] (zs g gl f) (zQv fun S' => ∃ g2, S' = zs g2 gl f ∧ zMA g2 (z_kp (z_tn ns ow) r a) ∧ (∀ k j, ¬ (k = 130 ∨ k = 131 ∨ (k = 108 ∧ (j = 34 ∨ j = 35 ∨ j = 36))) → g2 k j = g k j)) := by
  obtain ⟨hag, ha1, ha2, ha3, _, _⟩ := id ha
  have h50 : ∀ (g1 : Nat → Nat → Int32) (w2 : Option Value), (∀ k j, ¬ (k = 130 ∨ k = 131 ∨ (k = 108 ∧ (j = 34 ∨ j = 35 ∨ j = 36))) → g1 k j = g k j) → g1 108 34 = nI a.1 → g1 108 35 = nI (z_kp (z_tn ns ow) r a).2.1 → (0 < a.1 → g1 108 36 = nI a.2.2.1) → (∀ s, s < 5 → g1 130 s = nI ((z_kp (z_tn ns ow) r a).2.2.2.1 s)) → (∀ i, i < 5 → g1 131 i = nI (a.2.2.2.2.1 i)) → zW l D tc A mX8_takeNow (d + 1) 0 0 0 0 50 [some (.ref 108), some (.int (nI (z_tn ns ow r))), w2] [] (zs g1 gl f) (zQv fun S' => ∃ g2, S' = zs g2 gl f ∧ zMA g2 (z_kp (z_tn ns ow) r a) ∧ (∀ k j, ¬ (k = 130 ∨ k = 131 ∨ (k = 108 ∧ (j = 34 ∨ j = 35 ∨ j = 36))) → g2 k j = g k j)) := by
    intro g1 w2 e h4 h5 h6 h7 h8
    refine zx_aload_n (q := 51) dX8_takeNow_50 rfl rfl rfl ?_
    refine zx_aload_n (q := 52) dX8_takeNow_51 rfl rfl rfl ?_
    refine zy_getIe (q := 55) (v := nI a.1) dX8_takeNow_52 fl_RX8_114 rfl rfl (h4) rfl ?_
    refine zx_if_eq (q := 58) (t := 66) dX8_takeNow_55 (by decide) rfl (fun c_55 => ?_) (fun c_55 => ?_)
    · have ha0 : a.1 = 0 := by rw [show (0 : Int32) = nI 0 from rfl, nI_eq (by omega) (by omega)] at c_55; exact c_55
      have hmx : nI (z_tn ns ow r) = nI (max a.2.2.1 (z_tn ns ow r)) := congrArg nI (by have := hag ha0; omega)
      refine zx_iload_n (q := 67) dX8_takeNow_66 rfl rfl rfl ?_
      refine zx_goto (t := 74) dX8_takeNow_67 (by decide) ?_
      try rw [h6 (by omega)]
      refine zy_putI (q := 77) dX8_takeNow_74 fl_RX8_120 rfl rfl ⟨rfl, rfl⟩ rfl rfl ?_
      refine zx_aload_n (q := 78) dX8_takeNow_77 rfl rfl rfl ?_
      refine zx_dup (q := 79) dX8_takeNow_78 rfl rfl ?_
      refine zy_getI (q := 82) dX8_takeNow_79 fl_RX8_114 rfl rfl rfl ?_
      rw [z_u_ne _ _ (by omega), h4]
      refine zx_iconst (q := 83) (v := 1) dX8_takeNow_82 (by decide) rfl ?_
      refine zx_iadd (q := 84) dX8_takeNow_83 rfl ?_
      rw [nI_1]
      refine zy_putI (q := 87) dX8_takeNow_84 fl_RX8_114 rfl rfl ⟨rfl, rfl⟩ rfl rfl ?_
      refine zx_iconst (q := 88) (v := 0) dX8_takeNow_87 (by decide) rfl ?_
      refine zx_istore2 (q := 89) dX8_takeNow_88 rfl rfl ?_
      refine lp_X8_tkS (d + 1) (z_tn ns ow r) (g := g) (ns := ns) (ow := ow) (r := r) (a := a) hC.1 5 0 _ (by omega) ?_ ?_ ?_ ?_ ?_ ?_ ?_
      · intro k j z; rw [z_u_ne _ _ (by omega), z_u_ne _ _ (by omega)]; exact e k j z
      · rw [z_u_at]
      · rw [z_u_ne _ _ (by omega), z_u_ne _ _ (by omega)]; exact h5
      · rw [z_u_ne _ _ (by omega), z_u_at]; exact hmx
      · intro i hi; rw [z_u_ne _ _ (by omega), z_u_ne _ _ (by omega)]; exact h7 i hi
      · intro i hi; omega
      · intro i _ hi; rw [z_u_ne _ _ (by omega), z_u_ne _ _ (by omega)]; exact h8 i hi
    · have ha0 : ¬ a.1 = 0 := fun z => c_55 (by rw [z]; rfl)
      refine zx_iload_n (q := 59) dX8_takeNow_58 rfl rfl rfl ?_
      refine zx_aload_n (q := 60) dX8_takeNow_59 rfl rfl rfl ?_
      refine zy_getI (q := 63) dX8_takeNow_60 fl_RX8_120 rfl rfl rfl ?_
      rw [h6 (by omega)]
      refine zx_icmp_le (q := 66) (t := 70) dX8_takeNow_63 (by decide) rfl (fun c_63 => ?_) (fun c_63 => ?_)
      · rw [nI_leI (by omega) (by omega)] at c_63
        have hmx : nI a.2.2.1 = nI (max a.2.2.1 (z_tn ns ow r)) := congrArg nI (by omega)
        refine zx_aload_n (q := 71) dX8_takeNow_70 rfl rfl rfl ?_
        refine zy_getI (q := 74) dX8_takeNow_71 fl_RX8_120 rfl rfl rfl ?_
        try rw [h6 (by omega)]
        refine zy_putI (q := 77) dX8_takeNow_74 fl_RX8_120 rfl rfl ⟨rfl, rfl⟩ rfl rfl ?_
        refine zx_aload_n (q := 78) dX8_takeNow_77 rfl rfl rfl ?_
        refine zx_dup (q := 79) dX8_takeNow_78 rfl rfl ?_
        refine zy_getI (q := 82) dX8_takeNow_79 fl_RX8_114 rfl rfl rfl ?_
        rw [z_u_ne _ _ (by omega), h4]
        refine zx_iconst (q := 83) (v := 1) dX8_takeNow_82 (by decide) rfl ?_
        refine zx_iadd (q := 84) dX8_takeNow_83 rfl ?_
        rw [nI_1]
        refine zy_putI (q := 87) dX8_takeNow_84 fl_RX8_114 rfl rfl ⟨rfl, rfl⟩ rfl rfl ?_
        refine zx_iconst (q := 88) (v := 0) dX8_takeNow_87 (by decide) rfl ?_
        refine zx_istore2 (q := 89) dX8_takeNow_88 rfl rfl ?_
        refine lp_X8_tkS (d + 1) (z_tn ns ow r) (g := g) (ns := ns) (ow := ow) (r := r) (a := a) hC.1 5 0 _ (by omega) ?_ ?_ ?_ ?_ ?_ ?_ ?_
        · intro k j z; rw [z_u_ne _ _ (by omega), z_u_ne _ _ (by omega)]; exact e k j z
        · rw [z_u_at]
        · rw [z_u_ne _ _ (by omega), z_u_ne _ _ (by omega)]; exact h5
        · rw [z_u_ne _ _ (by omega), z_u_at]; exact hmx
        · intro i hi; rw [z_u_ne _ _ (by omega), z_u_ne _ _ (by omega)]; exact h7 i hi
        · intro i hi; omega
        · intro i _ hi; rw [z_u_ne _ _ (by omega), z_u_ne _ _ (by omega)]; exact h8 i hi
      · rw [nI_leI (by omega) (by omega)] at c_63
        have hmx : nI (z_tn ns ow r) = nI (max a.2.2.1 (z_tn ns ow r)) := congrArg nI (by omega)
        refine zx_iload_n (q := 67) dX8_takeNow_66 rfl rfl rfl ?_
        refine zx_goto (t := 74) dX8_takeNow_67 (by decide) ?_
        try rw [h6 (by omega)]
        refine zy_putI (q := 77) dX8_takeNow_74 fl_RX8_120 rfl rfl ⟨rfl, rfl⟩ rfl rfl ?_
        refine zx_aload_n (q := 78) dX8_takeNow_77 rfl rfl rfl ?_
        refine zx_dup (q := 79) dX8_takeNow_78 rfl rfl ?_
        refine zy_getI (q := 82) dX8_takeNow_79 fl_RX8_114 rfl rfl rfl ?_
        rw [z_u_ne _ _ (by omega), h4]
        refine zx_iconst (q := 83) (v := 1) dX8_takeNow_82 (by decide) rfl ?_
        refine zx_iadd (q := 84) dX8_takeNow_83 rfl ?_
        rw [nI_1]
        refine zy_putI (q := 87) dX8_takeNow_84 fl_RX8_114 rfl rfl ⟨rfl, rfl⟩ rfl rfl ?_
        refine zx_iconst (q := 88) (v := 0) dX8_takeNow_87 (by decide) rfl ?_
        refine zx_istore2 (q := 89) dX8_takeNow_88 rfl rfl ?_
        refine lp_X8_tkS (d + 1) (z_tn ns ow r) (g := g) (ns := ns) (ow := ow) (r := r) (a := a) hC.1 5 0 _ (by omega) ?_ ?_ ?_ ?_ ?_ ?_ ?_
        · intro k j z; rw [z_u_ne _ _ (by omega), z_u_ne _ _ (by omega)]; exact e k j z
        · rw [z_u_at]
        · rw [z_u_ne _ _ (by omega), z_u_ne _ _ (by omega)]; exact h5
        · rw [z_u_ne _ _ (by omega), z_u_at]; exact hmx
        · intro i hi; rw [z_u_ne _ _ (by omega), z_u_ne _ _ (by omega)]; exact h7 i hi
        · intro i hi; omega
        · intro i _ hi; rw [z_u_ne _ _ (by omega), z_u_ne _ _ (by omega)]; exact h8 i hi
  show zW l D tc A mX8_takeNow (d + 1) 0 0 0 0 0 [some (.ref 108), none, none] [] (zs g gl f) _
  refine zx_aload_n (q := 1) dX8_takeNow_0 rfl rfl rfl ?_
  refine zx_callV0i (q := 4) (y' := mX8_tollNow) dX8_takeNow_1 ml_RX8_299 ok_mX8_tollNow rfl (by decide) rfl (Nat.le_of_ble_eq_true rfl) (Nat.le_of_ble_eq_true rfl) (Nat.le_refl _) (Nat.le_refl _) rfl (t_X8_tnR _ hns hg hn8 hC) ?_
  rintro _ _ ⟨rfl, rfl⟩
  refine zx_istore1 (q := 5) dX8_takeNow_4 rfl rfl ?_
  refine zx_aload_n (q := 6) dX8_takeNow_5 rfl rfl rfl ?_
  refine zy_getIe (q := 9) (v := nI a.1) dX8_takeNow_6 fl_RX8_114 rfl rfl (hA.1) rfl ?_
  refine zx_if_eq (q := 12) (t := 20) dX8_takeNow_9 (by decide) rfl (fun c_9 => ?_) (fun c_9 => ?_)
  · have hif : a.1 = 0 ∨ z_tn ns ow r < a.2.1 := Or.inl (by rw [show (0 : Int32) = nI 0 from rfl, nI_eq (by omega) (by omega)] at c_9; exact c_9)
    refine zx_aload_n (q := 21) dX8_takeNow_20 rfl rfl rfl ?_
    refine zx_iload_n (q := 22) dX8_takeNow_21 rfl rfl rfl ?_
    refine zy_putI (q := 25) dX8_takeNow_22 fl_RX8_117 rfl rfl ⟨rfl, rfl⟩ rfl rfl ?_
    refine zx_iconst (q := 26) (v := 0) dX8_takeNow_25 (by decide) rfl ?_
    refine zx_istore2 (q := 27) dX8_takeNow_26 rfl rfl ?_
    refine lp_X8_tkB (d + 1) (z_tn ns ow r) (r := r) (g := zw_u g 108 35 (nI (z_tn ns ow r))) (fun s hs => by rw [z_u_ne _ _ (by omega)]; exact hC.1 s hs) (fun g1 e1 e2 => ?_) 5 0 _ (by omega) (fun _ _ _ => rfl) (fun i hi => by omega)
    refine h50 g1 _ (fun k j z => by rw [e1 _ _ (by omega), z_u_ne _ _ (by omega)]) (by rw [e1 _ _ (by omega), z_u_ne _ _ (by omega)]; exact hA.1) (by rw [show (z_kp (z_tn ns ow) r a).2.1 = z_tn ns ow r from if_pos hif, e1 _ _ (by omega), z_u_at]) (fun z => by rw [e1 _ _ (by omega), z_u_ne _ _ (by omega)]; exact (hA.2.1 z).2.1) (fun i hi => by rw [show (z_kp (z_tn ns ow) r a).2.2.2.1 = r from if_pos hif]; exact e2 i hi) (fun i hi => by rw [e1 _ _ (by omega), z_u_ne _ _ (by omega)]; exact hA.2.2 i hi)
  · have h40 : ¬ a.1 = 0 := fun z => c_9 (by rw [z]; rfl)
    refine zx_iload_n (q := 13) dX8_takeNow_12 rfl rfl rfl ?_
    refine zx_aload_n (q := 14) dX8_takeNow_13 rfl rfl rfl ?_
    refine zy_getI (q := 17) dX8_takeNow_14 fl_RX8_117 rfl rfl rfl ?_
    rw [(hA.2.1 (by omega)).1]
    refine zx_icmp_ge (q := 20) (t := 50) dX8_takeNow_17 (by decide) rfl (fun c_17 => ?_) (fun c_17 => ?_)
    · have hif : ¬ (a.1 = 0 ∨ z_tn ns ow r < a.2.1) := by rw [nI_leI (by omega) (by omega)] at c_17; omega
      refine h50 g _ (fun _ _ _ => rfl) hA.1 (by rw [show (z_kp (z_tn ns ow) r a).2.1 = a.2.1 from if_neg hif]; exact (hA.2.1 (by omega)).1) (fun z => (hA.2.1 z).2.1) (fun i hi => by rw [show (z_kp (z_tn ns ow) r a).2.2.2.1 = a.2.2.2.1 from if_neg hif]; exact (hA.2.1 (by omega)).2.2 i hi) hA.2.2
    · have hif : a.1 = 0 ∨ z_tn ns ow r < a.2.1 := by rw [nI_leI (by omega) (by omega)] at c_17; omega
      refine zx_aload_n (q := 21) dX8_takeNow_20 rfl rfl rfl ?_
      refine zx_iload_n (q := 22) dX8_takeNow_21 rfl rfl rfl ?_
      refine zy_putI (q := 25) dX8_takeNow_22 fl_RX8_117 rfl rfl ⟨rfl, rfl⟩ rfl rfl ?_
      refine zx_iconst (q := 26) (v := 0) dX8_takeNow_25 (by decide) rfl ?_
      refine zx_istore2 (q := 27) dX8_takeNow_26 rfl rfl ?_
      refine lp_X8_tkB (d + 1) (z_tn ns ow r) (r := r) (g := zw_u g 108 35 (nI (z_tn ns ow r))) (fun s hs => by rw [z_u_ne _ _ (by omega)]; exact hC.1 s hs) (fun g1 e1 e2 => ?_) 5 0 _ (by omega) (fun _ _ _ => rfl) (fun i hi => by omega)
      refine h50 g1 _ (fun k j z => by rw [e1 _ _ (by omega), z_u_ne _ _ (by omega)]) (by rw [e1 _ _ (by omega), z_u_ne _ _ (by omega)]; exact hA.1) (by rw [show (z_kp (z_tn ns ow) r a).2.1 = z_tn ns ow r from if_pos hif, e1 _ _ (by omega), z_u_at]) (fun z => by rw [e1 _ _ (by omega), z_u_ne _ _ (by omega)]; exact (hA.2.1 z).2.1) (fun i hi => by rw [show (z_kp (z_tn ns ow) r a).2.2.2.1 = r from if_pos hif]; exact e2 i hi) (fun i hi => by rw [e1 _ _ (by omega), z_u_ne _ _ (by omega)]; exact hA.2.2 i hi)
end P42
