/-! counts and tolls of herds, as numbers -/
def z_sN : Nat → (Nat → Nat) → Nat
  | 0, _ => 0
  | n + 1, g => z_sN n g + g n
theorem z_sN_congr {g h : Nat → Nat} : ∀ n : Nat, (∀ i, i < n → g i = h i) → z_sN n g = z_sN n h := by
  intro n
  induction n with
  | zero => intro _; rfl
  | succ n ih => intro e; rw [z_sN, z_sN, ih (fun i hi => e i (by omega)), e n (by omega)]
theorem z_sN_le {g : Nat → Nat} {b : Nat} : ∀ n : Nat, (∀ i, i < n → g i ≤ b) → z_sN n g ≤ n * b := by
  intro n
  induction n with
  | zero => intro _; simp [z_sN]
  | succ n ih =>
    intro e
    have h1 := ih (fun i hi => e i (by omega))
    have h2 := e n (by omega)
    rw [z_sN, Nat.succ_mul]
    omega
theorem z_sum_nI {g : Nat → Int32} {G : Nat → Nat} : ∀ n : Nat, (∀ i, i < n → g i = nI (G i)) → z_sum n g = nI (z_sN n G) := by
  intro n
  induction n with
  | zero => intro _; rfl
  | succ n ih => intro e; rw [z_sum, z_sN, ih (fun i hi => e i (by omega)), e n (by omega), nI_add]
def z_hd (gi : Nat → Nat → Int32) (w s : Nat) : Nat := (gi (15 + w) s).toNatClampNeg
def z_ct (gi : Nat → Nat → Int32) (m ns w h : Nat) : Nat := z_sN ns (fun s => z_hd gi w s * z_sh gi m s h)
def z_tl (gi : Nat → Nat → Int32) (m ns w : Nat) : Nat := z_sN ns (fun s => z_hd gi w s * z_ow gi m s)
theorem z_hd0 {gi : Nat → Nat → Int32} {ns m s : Nat} (L : zLK gi ns m) (hs : s < ns) : z_hd gi 0 s ≤ 12 ∧ gi 15 s = nI (z_hd gi 0 s) ∧ gi 113 s = nI (z_hd gi 0 s) := by
  obtain ⟨k, v, t, _, _, _, _, _, ⟨n, hn, h1, h2⟩, _⟩ := z_srt L.hS hs
  have e : z_hd gi 0 s = n := by unfold z_hd; rw [show gi (15 + 0) s = nI n from h1, nI_clamp (by omega)]
  rw [e]
  exact ⟨hn, h1, h2⟩
theorem z_hd1 {gi : Nat → Nat → Int32} {ns m s : Nat} (L : zLK gi ns m) (hs : s < ns) : z_hd gi 1 s ≤ 12 ∧ gi 16 s = nI (z_hd gi 1 s) ∧ gi 114 s = nI (z_hd gi 1 s) := by
  obtain ⟨k, v, t, _, _, _, _, _, _, ⟨n, hn, h1, h2⟩⟩ := z_srt L.hS hs
  have e : z_hd gi 1 s = n := by unfold z_hd; rw [show gi (15 + 1) s = nI n from h1, nI_clamp (by omega)]
  rw [e]
  exact ⟨hn, h1, h2⟩
theorem z_hdw {gi : Nat → Nat → Int32} {ns m s w : Nat} (L : zLK gi ns m) (hw : w < 2) (hs : s < ns) : z_hd gi w s ≤ 12 ∧ gi (15 + w) s = nI (z_hd gi w s) := by
  rcases (by omega : w = 0 ∨ w = 1) with h | h <;> subst h
  · exact ⟨(z_hd0 L hs).1, (z_hd0 L hs).2.1⟩
  · exact ⟨(z_hd1 L hs).1, (z_hd1 L hs).2.1⟩
theorem z_ct_le {gi : Nat → Nat → Int32} {ns m w h : Nat} (L : zLK gi ns m) (hw : w < 2) (hh : h < 3) : z_ct gi m ns w h ≤ 119880 := by
  have h1 := z_sN_le (g := fun s => z_hd gi w s * z_sh gi m s h) (b := 12 * 1998) ns (fun i hi => Nat.mul_le_mul (z_hdw L hw hi).1 (z_sh_le L hi hh))
  have h2 := L.hns
  have h3 : ns * (12 * 1998) ≤ 5 * (12 * 1998) := Nat.mul_le_mul_right _ h2
  unfold z_ct
  omega
theorem z_tl_le {gi : Nat → Nat → Int32} {ns m w : Nat} (L : zLK gi ns m) (hw : w < 2) : z_tl gi m ns w ≤ 65340 := by
  have h1 := z_sN_le (g := fun s => z_hd gi w s * z_ow gi m s) (b := 12 * 1089) ns (fun i hi => Nat.mul_le_mul (z_hdw L hw hi).1 (z_ow_le L hi))
  have h2 := L.hns
  have h3 : ns * (12 * 1089) ≤ 5 * (12 * 1089) := Nat.mul_le_mul_right _ h2
  unfold z_tl
  omega
theorem z_ct_cg {g gi : Nat → Nat → Int32} (e : ∀ k j, (1 ≤ k ∧ k ≤ 19) ∨ (66 ≤ k ∧ k ≤ 95) → g k j = gi k j) {m ns w h : Nat} (hns : ns ≤ 5) (hw : w < 2) : z_ct g m ns w h = z_ct gi m ns w h :=
  z_sN_congr ns (fun s hs => by rw [z_sh_cg e (by omega)]; unfold z_hd; rw [e _ _ (by omega)])
theorem z_tl_cg {g gi : Nat → Nat → Int32} (e : ∀ k j, (1 ≤ k ∧ k ≤ 19) ∨ (66 ≤ k ∧ k ≤ 95) → g k j = gi k j) {m ns w : Nat} (hns : ns ≤ 5) (hw : w < 2) : z_tl g m ns w = z_tl gi m ns w :=
  z_sN_congr ns (fun s hs => by rw [z_ow_cg e (by omega)]; unfold z_hd; rw [e _ _ (by omega)])
theorem z_hole {w : Int32} {c : Nat} (h : z_in (w - nI c) 0 2 = true) : ∃ j, j ≤ 2 ∧ w = nI (c + j) := by
  obtain ⟨j, hj, e⟩ := z_inT 2 (by decide) h
  refine ⟨j, hj, ?_⟩
  rw [← nI_add, ← e, Int32.add_comm, Int32.sub_add_cancel]
theorem z_hole_at {c j : Nat} (hj : j ≤ 2) : z_in (nI (c + j) - nI c) 0 2 = true := by
  rw [z_subN (by omega), show c + j - c = j by omega, z_in_tt, nI_toInt (by omega), show (0 : Int32).toInt = 0 by decide, show (2 : Int32).toInt = 2 by decide]
  omega
theorem z_inR {w lo hi : Int32} (a b : Nat) (h1 : lo.toInt = a) (h2 : hi.toInt = b) (h : z_in w lo hi = true) : ∃ j, a ≤ j ∧ j ≤ b ∧ w = nI j := by
  rw [z_in_tt, h1, h2] at h
  obtain ⟨j, hj, e⟩ := z_nIof (v := w) (n := b) (by omega) h.2
  have hb : b < 2 ^ 31 := by have := Int32.toInt_lt hi; omega
  rw [e, nI_toInt (by omega)] at h
  exact ⟨j, by omega, hj, e⟩
theorem z_3c (s a c : Nat) (h : c ≤ a) : (3 : Int32) * nI s + nI a - nI c = nI (3 * s + (a - c)) := by
  rw [z_3, z_subN (by omega)]
  congr 1
  omega
section P35
variable {l : Launch} {D : va_G} {tc : Nat → ClassId} {A : Nat → Prop} {S : zw_S} {gi : Nat → Nat → Int32} {gl : Nat → Nat → Int64} {f : Option Nat}
theorem t_totalL (d w h : Nat) {ns m mo : Nat} {g : Nat → Nat → Int32} (L : zLK gi ns m) (hw : w < 2) (hh : h < 3) (e : ∀ s, g (15 + w) s = gi (15 + w) s) (hg : zSG g ns mo (z_sh gi m) (z_ow gi m) ns) :
    zCall l D tc A mX4_total d 0 0 [.ref 47, .ref (15 + w), .int (nI h)] (zs g gl f) (zQi fun r S' => r = nI (z_ct gi m ns w h) ∧ S' = zs g gl f) := by
  refine zW.mono (t_X4_total d ns (15 + w) h hg.1 L.hns hh (zr_14 (f := f) hw).2) ?_
  rintro r S' ⟨x, hx, h1, h2⟩
  refine ⟨x, hx, ?_, h2⟩
  rw [h1]
  exact z_sum_nI ns (fun s hs => by rw [e, (z_hdw L hw hs).2, (hg.2.2 s hs).2 h hh, z_mul])
theorem t_tollL (d w : Nat) {ns m mo : Nat} {g : Nat → Nat → Int32} (L : zLK gi ns m) (hw : w < 2) (e : ∀ s, g (15 + w) s = gi (15 + w) s) (hg : zSG g ns mo (z_sh gi m) (z_ow gi m) ns) :
    zCall l D tc A mX4_tollOf d 0 0 [.ref 47, .ref (15 + w)] (zs g gl f) (zQi fun r S' => r = nI (z_tl gi m ns w) ∧ S' = zs g gl f) := by
  refine zW.mono (t_X4_tollOf d ns (15 + w) hg.1 L.hns (zr_14 (f := f) hw).2) ?_
  rintro r S' ⟨x, hx, h1, h2⟩
  refine ⟨x, hx, ?_, h2⟩
  rw [h1]
  exact z_sum_nI ns (fun s hs => by rw [e, (z_hdw L hw hs).2, (hg.2.2 s hs).1, z_mul])
theorem t_ownL (d h : Nat) {ns m : Nat} {g : Nat → Nat → Int32} (L : zLK gi ns m) (hh : h < 3) (hn : g 108 0 = nI ns) (e : ∀ s, g 113 s = gi 113 s) (hg : zSM g (z_sh gi m) (z_ow gi m) ns) :
    zCall l D tc A mX8_ownCount d 0 0 [.ref 108, .int (nI h)] (zs g gl f) (zQi fun r S' => r = nI (z_ct gi m ns 0 h) ∧ S' = zs g gl f) := by
  refine zW.mono (t_X8_ownCount d ns h hn L.hns hh) ?_
  rintro r S' ⟨x, hx, h1, h2⟩
  refine ⟨x, hx, ?_, h2⟩
  rw [h1]
  exact z_sum_nI ns (fun s hs => by rw [e, (z_hd0 L hs).2.2, (hg s hs).2 h hh, z_mul])
theorem t_secL (d h : Nat) {ns m : Nat} {g : Nat → Nat → Int32} (L : zLK gi ns m) (hh : h < 3) (hn : g 108 0 = nI ns) (e : ∀ s, g 114 s = gi 114 s) (hg : zSM g (z_sh gi m) (z_ow gi m) ns) :
    zCall l D tc A mX8_secondCount d 0 0 [.ref 108, .int (nI h)] (zs g gl f) (zQi fun r S' => r = nI (z_ct gi m ns 1 h) ∧ S' = zs g gl f) := by
  refine zW.mono (t_X8_secondCount d ns h hn L.hns hh) ?_
  rintro r S' ⟨x, hx, h1, h2⟩
  refine ⟨x, hx, ?_, h2⟩
  rw [h1]
  exact z_sum_nI ns (fun s hs => by rw [e, (z_hd1 L hs).2.2, (hg s hs).2 h hh, z_mul])
theorem t_ownTL (d : Nat) {ns m : Nat} {g : Nat → Nat → Int32} (L : zLK gi ns m) (hn : g 108 0 = nI ns) (e : ∀ s, g 113 s = gi 113 s) (hg : zSM g (z_sh gi m) (z_ow gi m) ns) :
    zCall l D tc A mX8_ownToll d 0 0 [.ref 108] (zs g gl f) (zQi fun r S' => r = nI (z_tl gi m ns 0) ∧ S' = zs g gl f) := by
  refine zW.mono (t_X8_ownToll d ns hn L.hns) ?_
  rintro r S' ⟨x, hx, h1, h2⟩
  refine ⟨x, hx, ?_, h2⟩
  rw [h1]
  exact z_sum_nI ns (fun s hs => by rw [e, (z_hd0 L hs).2.2, (hg s hs).1, z_mul])
theorem t_secTL (d : Nat) {ns m : Nat} {g : Nat → Nat → Int32} (L : zLK gi ns m) (hn : g 108 0 = nI ns) (e : ∀ s, g 114 s = gi 114 s) (hg : zSM g (z_sh gi m) (z_ow gi m) ns) :
    zCall l D tc A mX8_secondToll d 0 0 [.ref 108] (zs g gl f) (zQi fun r S' => r = nI (z_tl gi m ns 1) ∧ S' = zs g gl f) := by
  refine zW.mono (t_X8_secondToll d ns hn L.hns) ?_
  rintro r S' ⟨x, hx, h1, h2⟩
  refine ⟨x, hx, ?_, h2⟩
  rw [h1]
  exact z_sum_nI ns (fun s hs => by rw [e, (z_hd1 L hs).2.2, (hg s hs).1, z_mul])
set_option maxHeartbeats 4000000 in
theorem op_of (d : Nat) (a : Int32) (b : Int32) (hR : zRel gi gl) : zOpI l D tc A mX7_of mX8_of (d + 5) [.int a, .int b] gi gl f := by
  obtain ⟨ns, m, L⟩ := zLK_of hR
  by_cases h1 : z_in a 0 (nI ns - 1) = true
  · obtain ⟨s, hs, rfl⟩ := z_inU L.hns h1
    obtain ⟨k, v, t, hk, hv, ht, hB, hR9, _, _⟩ := z_srt L.hS hs
    have hs5 : s < 5 := by have := L.hns; omega
    by_cases h0 : b = 0
    · subst h0
      show zW l D tc A mX7_of (d + 5) 0 0 0 0 0 [some (.ref 0), some (.int (nI s)), some (.int 0)] [] (zs gi gl f) _
      refine zx_aload_n (q := 1) dX7_of_0 rfl rfl rfl ?_
      refine zx_iload_n (q := 2) dX7_of_1 rfl rfl rfl ?_
      refine zx_callV1i (q := 5) (y' := mX7_isSort) dX7_of_2 ml_RX7_89 ok_mX7_isSort rfl (by decide) rfl (Nat.le_of_ble_eq_true rfl) (Nat.le_of_ble_eq_true rfl) (Nat.le_refl _) (Nat.le_refl _) rfl (t_X7_isSort _ _) ?_
      rintro _ _ ⟨rfl, rfl⟩
      refine zx_if_ne_t (t := 10) (q := 8) dX7_of_5 (by decide) rfl (zk_t (by show z_in (nI s) 0 (gi 1 0 - 1) = true; rw [L.hs1]; exact z_inS_at L.hns hs)) ?_
      refine zx_iload_n (q := 11) dX7_of_10 rfl rfl rfl ?_
      refine zx_iconst (q := 12) (v := 0) dX7_of_11 (by decide) rfl ?_
      refine zx_iconst (q := 13) (v := 5) dX7_of_12 (by decide) rfl ?_
      refine zx_callS3i (q := 16) (y' := mX7_within) dX7_of_13 ml_RX7_73 ok_mX7_within (Nat.le_of_ble_eq_true rfl) (Nat.le_of_ble_eq_true rfl) (Nat.le_refl _) (Nat.le_refl _) rfl (t_X7_within _ _ _ _) ?_
      rintro _ _ ⟨rfl, rfl⟩
      refine zx_if_eq_f (t := 31) (q := 19) dX7_of_16 (by decide) rfl (zk_t (by decide)) ?_
      refine zx_aload_n (q := 20) dX7_of_19 rfl rfl rfl ?_
      refine zy_getR (q := 23) dX7_of_20 fl_RX7_12 rfl rfl rfl rfl ?_
      refine zy_getR (q := 26) dX7_of_23 fl_RX7_85 rfl rfl rfl rfl ?_
      refine zx_iload_n (q := 27) dX7_of_26 rfl rfl rfl ?_
      refine zy_aaldN (q := 28) dX7_of_27 rfl (by decide) (by omega) (by decide) (zr_2 (by omega)).1 rfl ?_
      refine zx_iload_n (q := 29) dX7_of_28 rfl rfl rfl ?_
      refine zy_ialdN (i := 0) (q := 30) dX7_of_29 (zr_2 (f := f) (by omega)).2 (by omega) (by first | decide | omega) rfl ?_
      refine zx_iret dX7_of_30 rfl (Nat.le_refl _) (Nat.le_refl _) ⟨_, rfl, ?_⟩
      refine ⟨_, _, _, rfl, ?_⟩
      show zW l D tc A mX8_of (d + 5) 0 0 0 0 0 [some (.ref 108), some (.int (nI s)), some (.int 0)] [] (zs _ _ _) _
      refine zx_aload_n (q := 1) dX8_of_0 rfl rfl rfl ?_
      refine zx_iload_n (q := 2) dX8_of_1 rfl rfl rfl ?_
      refine zx_callV1i (q := 5) (y' := mX8_isSort) dX8_of_2 ml_RX8_208 ok_mX8_isSort rfl (by decide) rfl (Nat.le_of_ble_eq_true rfl) (Nat.le_of_ble_eq_true rfl) (Nat.le_refl _) (Nat.le_refl _) rfl (t_X8_isSort _ _) ?_
      rintro _ _ ⟨rfl, rfl⟩
      refine zx_if_ne_t (t := 10) (q := 8) dX8_of_5 (by decide) rfl (zk_t (by first | (show z_in (nI s) 0 (gi 108 0 - 1) = true; rw [L.hs2]; exact z_inS_at L.hns hs) | (show z_in (nI s) 0 (g1 108 0 - 1) = true; rw [k1 _ _ (by omega), L.hs2]; exact z_inS_at L.hns hs))) ?_
      refine zx_aload_n (q := 11) dX8_of_10 rfl rfl rfl ?_
      refine zx_callV0v (q := 14) (y' := mX8_layShows) dX8_of_11 ml_RX8_278 ok_mX8_layShows rfl (by decide) rfl (Nat.le_of_ble_eq_true rfl) (Nat.le_of_ble_eq_true rfl) (Nat.le_refl _) (Nat.le_refl _) rfl (t_X8_layK _ L) ?_
      rintro _ ⟨g2, rfl, k2, s2⟩
      refine zx_aload_n (q := 15) dX8_of_14 rfl rfl rfl ?_
      refine zx_iload_n (q := 16) dX8_of_15 rfl rfl rfl ?_
      refine zx_bipush (q := 18) (v := 10) dX8_of_16 (by decide) rfl ?_
      refine zx_bipush (q := 20) (v := 12) dX8_of_18 (by decide) rfl ?_
      refine zx_callV3i (q := 23) (y' := mX8_in) dX8_of_20 ml_RX8_200 ok_mX8_in rfl (by decide) rfl (Nat.le_of_ble_eq_true rfl) (Nat.le_of_ble_eq_true rfl) (Nat.le_refl _) (Nat.le_refl _) rfl (t_X8_in _ _ _ _ _) ?_
      rintro _ _ ⟨rfl, rfl⟩
      refine zx_if_eq_t (t := 40) (q := 26) dX8_of_23 (by decide) rfl (zk_f (by decide)) ?_
      refine zx_aload_n (q := 41) dX8_of_40 rfl rfl rfl ?_
      refine zx_iload_n (q := 42) dX8_of_41 rfl rfl rfl ?_
      refine zx_iconst (q := 43) (v := 2) dX8_of_42 (by decide) rfl ?_
      refine zx_iconst (q := 44) (v := 4) dX8_of_43 (by decide) rfl ?_
      refine zx_callV3i (q := 47) (y' := mX8_in) dX8_of_44 ml_RX8_200 ok_mX8_in rfl (by decide) rfl (Nat.le_of_ble_eq_true rfl) (Nat.le_of_ble_eq_true rfl) (Nat.le_refl _) (Nat.le_refl _) rfl (t_X8_in _ _ _ _ _) ?_
      rintro _ _ ⟨rfl, rfl⟩
      refine zx_if_eq_t (t := 63) (q := 50) dX8_of_47 (by decide) rfl (zk_f (by decide)) ?_
      refine zx_iload_n (q := 64) dX8_of_63 rfl rfl rfl ?_
      refine zx_tblIn (t := 116) (off := 52) dX8_of_64 (by decide) (by decide) (by rfl) (by decide) ?_
      refine zx_aload_n (q := 117) dX8_of_116 rfl rfl rfl ?_
      refine zy_getR (q := 120) dX8_of_117 fl_RX8_16 rfl rfl rfl rfl ?_
      refine zx_iload_n (q := 121) dX8_of_120 rfl rfl rfl ?_
      refine zy_ialdN (q := 122) dX8_of_121 rfl (by omega) (by first | decide | omega) rfl ?_
      refine zx_iret dX8_of_122 rfl (Nat.le_refl _) (Nat.le_refl _) ⟨_, rfl, ?_⟩
      exact ⟨by rw [k2 _ _ (by omega)]; exact hk.2.2.trans hk.2.1.symm, _, _, _, rfl, zRel_scr hR (fun k j z => by first | rfl | (rw [k2 _ _ (by unfold z_scr at z; omega), k1 _ _ (by unfold z_scr at z; omega)]) | (rw [k2 _ _ (by unfold z_scr at z; omega)]) | (rw [k1 _ _ (by unfold z_scr at z; omega)]))⟩
    · by_cases h1 : b = 1
      · subst h1
        show zW l D tc A mX7_of (d + 5) 0 0 0 0 0 [some (.ref 0), some (.int (nI s)), some (.int 1)] [] (zs gi gl f) _
        refine zx_aload_n (q := 1) dX7_of_0 rfl rfl rfl ?_
        refine zx_iload_n (q := 2) dX7_of_1 rfl rfl rfl ?_
        refine zx_callV1i (q := 5) (y' := mX7_isSort) dX7_of_2 ml_RX7_89 ok_mX7_isSort rfl (by decide) rfl (Nat.le_of_ble_eq_true rfl) (Nat.le_of_ble_eq_true rfl) (Nat.le_refl _) (Nat.le_refl _) rfl (t_X7_isSort _ _) ?_
        rintro _ _ ⟨rfl, rfl⟩
        refine zx_if_ne_t (t := 10) (q := 8) dX7_of_5 (by decide) rfl (zk_t (by show z_in (nI s) 0 (gi 1 0 - 1) = true; rw [L.hs1]; exact z_inS_at L.hns hs)) ?_
        refine zx_iload_n (q := 11) dX7_of_10 rfl rfl rfl ?_
        refine zx_iconst (q := 12) (v := 0) dX7_of_11 (by decide) rfl ?_
        refine zx_iconst (q := 13) (v := 5) dX7_of_12 (by decide) rfl ?_
        refine zx_callS3i (q := 16) (y' := mX7_within) dX7_of_13 ml_RX7_73 ok_mX7_within (Nat.le_of_ble_eq_true rfl) (Nat.le_of_ble_eq_true rfl) (Nat.le_refl _) (Nat.le_refl _) rfl (t_X7_within _ _ _ _) ?_
        rintro _ _ ⟨rfl, rfl⟩
        refine zx_if_eq_f (t := 31) (q := 19) dX7_of_16 (by decide) rfl (zk_t (by decide)) ?_
        refine zx_aload_n (q := 20) dX7_of_19 rfl rfl rfl ?_
        refine zy_getR (q := 23) dX7_of_20 fl_RX7_12 rfl rfl rfl rfl ?_
        refine zy_getR (q := 26) dX7_of_23 fl_RX7_85 rfl rfl rfl rfl ?_
        refine zx_iload_n (q := 27) dX7_of_26 rfl rfl rfl ?_
        refine zy_aaldN (q := 28) dX7_of_27 rfl (by decide) (by omega) (by decide) (zr_2 (by omega)).1 rfl ?_
        refine zx_iload_n (q := 29) dX7_of_28 rfl rfl rfl ?_
        refine zy_ialdN (i := 1) (q := 30) dX7_of_29 (zr_2 (f := f) (by omega)).2 (by omega) (by first | decide | omega) rfl ?_
        refine zx_iret dX7_of_30 rfl (Nat.le_refl _) (Nat.le_refl _) ⟨_, rfl, ?_⟩
        refine ⟨_, _, _, rfl, ?_⟩
        show zW l D tc A mX8_of (d + 5) 0 0 0 0 0 [some (.ref 108), some (.int (nI s)), some (.int 1)] [] (zs _ _ _) _
        refine zx_aload_n (q := 1) dX8_of_0 rfl rfl rfl ?_
        refine zx_iload_n (q := 2) dX8_of_1 rfl rfl rfl ?_
        refine zx_callV1i (q := 5) (y' := mX8_isSort) dX8_of_2 ml_RX8_208 ok_mX8_isSort rfl (by decide) rfl (Nat.le_of_ble_eq_true rfl) (Nat.le_of_ble_eq_true rfl) (Nat.le_refl _) (Nat.le_refl _) rfl (t_X8_isSort _ _) ?_
        rintro _ _ ⟨rfl, rfl⟩
        refine zx_if_ne_t (t := 10) (q := 8) dX8_of_5 (by decide) rfl (zk_t (by first | (show z_in (nI s) 0 (gi 108 0 - 1) = true; rw [L.hs2]; exact z_inS_at L.hns hs) | (show z_in (nI s) 0 (g1 108 0 - 1) = true; rw [k1 _ _ (by omega), L.hs2]; exact z_inS_at L.hns hs))) ?_
        refine zx_aload_n (q := 11) dX8_of_10 rfl rfl rfl ?_
        refine zx_callV0v (q := 14) (y' := mX8_layShows) dX8_of_11 ml_RX8_278 ok_mX8_layShows rfl (by decide) rfl (Nat.le_of_ble_eq_true rfl) (Nat.le_of_ble_eq_true rfl) (Nat.le_refl _) (Nat.le_refl _) rfl (t_X8_layK _ L) ?_
        rintro _ ⟨g2, rfl, k2, s2⟩
        refine zx_aload_n (q := 15) dX8_of_14 rfl rfl rfl ?_
        refine zx_iload_n (q := 16) dX8_of_15 rfl rfl rfl ?_
        refine zx_bipush (q := 18) (v := 10) dX8_of_16 (by decide) rfl ?_
        refine zx_bipush (q := 20) (v := 12) dX8_of_18 (by decide) rfl ?_
        refine zx_callV3i (q := 23) (y' := mX8_in) dX8_of_20 ml_RX8_200 ok_mX8_in rfl (by decide) rfl (Nat.le_of_ble_eq_true rfl) (Nat.le_of_ble_eq_true rfl) (Nat.le_refl _) (Nat.le_refl _) rfl (t_X8_in _ _ _ _ _) ?_
        rintro _ _ ⟨rfl, rfl⟩
        refine zx_if_eq_t (t := 40) (q := 26) dX8_of_23 (by decide) rfl (zk_f (by decide)) ?_
        refine zx_aload_n (q := 41) dX8_of_40 rfl rfl rfl ?_
        refine zx_iload_n (q := 42) dX8_of_41 rfl rfl rfl ?_
        refine zx_iconst (q := 43) (v := 2) dX8_of_42 (by decide) rfl ?_
        refine zx_iconst (q := 44) (v := 4) dX8_of_43 (by decide) rfl ?_
        refine zx_callV3i (q := 47) (y' := mX8_in) dX8_of_44 ml_RX8_200 ok_mX8_in rfl (by decide) rfl (Nat.le_of_ble_eq_true rfl) (Nat.le_of_ble_eq_true rfl) (Nat.le_refl _) (Nat.le_refl _) rfl (t_X8_in _ _ _ _ _) ?_
        rintro _ _ ⟨rfl, rfl⟩
        refine zx_if_eq_t (t := 63) (q := 50) dX8_of_47 (by decide) rfl (zk_f (by decide)) ?_
        refine zx_iload_n (q := 64) dX8_of_63 rfl rfl rfl ?_
        refine zx_tblIn (t := 123) (off := 59) dX8_of_64 (by decide) (by decide) (by rfl) (by decide) ?_
        refine zx_aload_n (q := 124) dX8_of_123 rfl rfl rfl ?_
        refine zy_getR (q := 127) dX8_of_124 fl_RX8_20 rfl rfl rfl rfl ?_
        refine zx_iload_n (q := 128) dX8_of_127 rfl rfl rfl ?_
        refine zy_ialdN (q := 129) dX8_of_128 rfl (by omega) (by first | decide | omega) rfl ?_
        refine zx_iret dX8_of_129 rfl (Nat.le_refl _) (Nat.le_refl _) ⟨_, rfl, ?_⟩
        exact ⟨by rw [k2 _ _ (by omega)]; exact hv.2.2.trans hv.2.1.symm, _, _, _, rfl, zRel_scr hR (fun k j z => by first | rfl | (rw [k2 _ _ (by unfold z_scr at z; omega), k1 _ _ (by unfold z_scr at z; omega)]) | (rw [k2 _ _ (by unfold z_scr at z; omega)]) | (rw [k1 _ _ (by unfold z_scr at z; omega)]))⟩
      · by_cases h2 : b = 2
        · subst h2
          show zW l D tc A mX7_of (d + 5) 0 0 0 0 0 [some (.ref 0), some (.int (nI s)), some (.int 2)] [] (zs gi gl f) _
          refine zx_aload_n (q := 1) dX7_of_0 rfl rfl rfl ?_
          refine zx_iload_n (q := 2) dX7_of_1 rfl rfl rfl ?_
          refine zx_callV1i (q := 5) (y' := mX7_isSort) dX7_of_2 ml_RX7_89 ok_mX7_isSort rfl (by decide) rfl (Nat.le_of_ble_eq_true rfl) (Nat.le_of_ble_eq_true rfl) (Nat.le_refl _) (Nat.le_refl _) rfl (t_X7_isSort _ _) ?_
          rintro _ _ ⟨rfl, rfl⟩
          refine zx_if_ne_t (t := 10) (q := 8) dX7_of_5 (by decide) rfl (zk_t (by show z_in (nI s) 0 (gi 1 0 - 1) = true; rw [L.hs1]; exact z_inS_at L.hns hs)) ?_
          refine zx_iload_n (q := 11) dX7_of_10 rfl rfl rfl ?_
          refine zx_iconst (q := 12) (v := 0) dX7_of_11 (by decide) rfl ?_
          refine zx_iconst (q := 13) (v := 5) dX7_of_12 (by decide) rfl ?_
          refine zx_callS3i (q := 16) (y' := mX7_within) dX7_of_13 ml_RX7_73 ok_mX7_within (Nat.le_of_ble_eq_true rfl) (Nat.le_of_ble_eq_true rfl) (Nat.le_refl _) (Nat.le_refl _) rfl (t_X7_within _ _ _ _) ?_
          rintro _ _ ⟨rfl, rfl⟩
          refine zx_if_eq_f (t := 31) (q := 19) dX7_of_16 (by decide) rfl (zk_t (by decide)) ?_
          refine zx_aload_n (q := 20) dX7_of_19 rfl rfl rfl ?_
          refine zy_getR (q := 23) dX7_of_20 fl_RX7_12 rfl rfl rfl rfl ?_
          refine zy_getR (q := 26) dX7_of_23 fl_RX7_85 rfl rfl rfl rfl ?_
          refine zx_iload_n (q := 27) dX7_of_26 rfl rfl rfl ?_
          refine zy_aaldN (q := 28) dX7_of_27 rfl (by decide) (by omega) (by decide) (zr_2 (by omega)).1 rfl ?_
          refine zx_iload_n (q := 29) dX7_of_28 rfl rfl rfl ?_
          refine zy_ialdN (i := 2) (q := 30) dX7_of_29 (zr_2 (f := f) (by omega)).2 (by omega) (by first | decide | omega) rfl ?_
          refine zx_iret dX7_of_30 rfl (Nat.le_refl _) (Nat.le_refl _) ⟨_, rfl, ?_⟩
          refine ⟨_, _, _, rfl, ?_⟩
          show zW l D tc A mX8_of (d + 5) 0 0 0 0 0 [some (.ref 108), some (.int (nI s)), some (.int 2)] [] (zs _ _ _) _
          refine zx_aload_n (q := 1) dX8_of_0 rfl rfl rfl ?_
          refine zx_iload_n (q := 2) dX8_of_1 rfl rfl rfl ?_
          refine zx_callV1i (q := 5) (y' := mX8_isSort) dX8_of_2 ml_RX8_208 ok_mX8_isSort rfl (by decide) rfl (Nat.le_of_ble_eq_true rfl) (Nat.le_of_ble_eq_true rfl) (Nat.le_refl _) (Nat.le_refl _) rfl (t_X8_isSort _ _) ?_
          rintro _ _ ⟨rfl, rfl⟩
          refine zx_if_ne_t (t := 10) (q := 8) dX8_of_5 (by decide) rfl (zk_t (by first | (show z_in (nI s) 0 (gi 108 0 - 1) = true; rw [L.hs2]; exact z_inS_at L.hns hs) | (show z_in (nI s) 0 (g1 108 0 - 1) = true; rw [k1 _ _ (by omega), L.hs2]; exact z_inS_at L.hns hs))) ?_
          refine zx_aload_n (q := 11) dX8_of_10 rfl rfl rfl ?_
          refine zx_callV0v (q := 14) (y' := mX8_layShows) dX8_of_11 ml_RX8_278 ok_mX8_layShows rfl (by decide) rfl (Nat.le_of_ble_eq_true rfl) (Nat.le_of_ble_eq_true rfl) (Nat.le_refl _) (Nat.le_refl _) rfl (t_X8_layK _ L) ?_
          rintro _ ⟨g2, rfl, k2, s2⟩
          refine zx_aload_n (q := 15) dX8_of_14 rfl rfl rfl ?_
          refine zx_iload_n (q := 16) dX8_of_15 rfl rfl rfl ?_
          refine zx_bipush (q := 18) (v := 10) dX8_of_16 (by decide) rfl ?_
          refine zx_bipush (q := 20) (v := 12) dX8_of_18 (by decide) rfl ?_
          refine zx_callV3i (q := 23) (y' := mX8_in) dX8_of_20 ml_RX8_200 ok_mX8_in rfl (by decide) rfl (Nat.le_of_ble_eq_true rfl) (Nat.le_of_ble_eq_true rfl) (Nat.le_refl _) (Nat.le_refl _) rfl (t_X8_in _ _ _ _ _) ?_
          rintro _ _ ⟨rfl, rfl⟩
          refine zx_if_eq_t (t := 40) (q := 26) dX8_of_23 (by decide) rfl (zk_f (by decide)) ?_
          refine zx_aload_n (q := 41) dX8_of_40 rfl rfl rfl ?_
          refine zx_iload_n (q := 42) dX8_of_41 rfl rfl rfl ?_
          refine zx_iconst (q := 43) (v := 2) dX8_of_42 (by decide) rfl ?_
          refine zx_iconst (q := 44) (v := 4) dX8_of_43 (by decide) rfl ?_
          refine zx_callV3i (q := 47) (y' := mX8_in) dX8_of_44 ml_RX8_200 ok_mX8_in rfl (by decide) rfl (Nat.le_of_ble_eq_true rfl) (Nat.le_of_ble_eq_true rfl) (Nat.le_refl _) (Nat.le_refl _) rfl (t_X8_in _ _ _ _ _) ?_
          rintro _ _ ⟨rfl, rfl⟩
          refine zx_if_eq_f (t := 63) (q := 50) dX8_of_47 (by decide) rfl (zk_t (by decide)) ?_
          refine zx_aload_n (q := 51) dX8_of_50 rfl rfl rfl ?_
          refine zy_getR (q := 54) dX8_of_51 fl_RX8_23 rfl rfl rfl rfl ?_
          refine zx_iconst (q := 55) (v := 3) dX8_of_54 (by decide) rfl ?_
          refine zx_iload_n (q := 56) dX8_of_55 rfl rfl rfl ?_
          refine zx_imul (q := 57) dX8_of_56 rfl ?_
          refine zx_iload_n (q := 58) dX8_of_57 rfl rfl rfl ?_
          refine zx_iadd (q := 59) dX8_of_58 rfl ?_
          refine zx_iconst (q := 60) (v := 2) dX8_of_59 (by decide) rfl ?_
          refine zx_isub (q := 61) dX8_of_60 rfl ?_
          rw [show (3 : Int32) * nI s + 2 - 2 = nI (3 * s + 0) from z_3c s 2 2 (by omega)]
          refine zy_ialdN (q := 62) dX8_of_61 rfl (by omega) (by first | decide | omega) rfl ?_
          refine zx_iret dX8_of_62 rfl (Nat.le_refl _) (Nat.le_refl _) ⟨_, rfl, ?_⟩
          exact ⟨by rw [k2 _ _ (by omega)]; exact (by obtain ⟨b, _, b1, b2⟩ := hB 0 (by omega); exact b2.trans b1.symm), _, _, _, rfl, zRel_scr hR (fun k j z => by first | rfl | (rw [k2 _ _ (by unfold z_scr at z; omega), k1 _ _ (by unfold z_scr at z; omega)]) | (rw [k2 _ _ (by unfold z_scr at z; omega)]) | (rw [k1 _ _ (by unfold z_scr at z; omega)]))⟩
        · by_cases h3 : b = 3
          · subst h3
            show zW l D tc A mX7_of (d + 5) 0 0 0 0 0 [some (.ref 0), some (.int (nI s)), some (.int 3)] [] (zs gi gl f) _
            refine zx_aload_n (q := 1) dX7_of_0 rfl rfl rfl ?_
            refine zx_iload_n (q := 2) dX7_of_1 rfl rfl rfl ?_
            refine zx_callV1i (q := 5) (y' := mX7_isSort) dX7_of_2 ml_RX7_89 ok_mX7_isSort rfl (by decide) rfl (Nat.le_of_ble_eq_true rfl) (Nat.le_of_ble_eq_true rfl) (Nat.le_refl _) (Nat.le_refl _) rfl (t_X7_isSort _ _) ?_
            rintro _ _ ⟨rfl, rfl⟩
            refine zx_if_ne_t (t := 10) (q := 8) dX7_of_5 (by decide) rfl (zk_t (by show z_in (nI s) 0 (gi 1 0 - 1) = true; rw [L.hs1]; exact z_inS_at L.hns hs)) ?_
            refine zx_iload_n (q := 11) dX7_of_10 rfl rfl rfl ?_
            refine zx_iconst (q := 12) (v := 0) dX7_of_11 (by decide) rfl ?_
            refine zx_iconst (q := 13) (v := 5) dX7_of_12 (by decide) rfl ?_
            refine zx_callS3i (q := 16) (y' := mX7_within) dX7_of_13 ml_RX7_73 ok_mX7_within (Nat.le_of_ble_eq_true rfl) (Nat.le_of_ble_eq_true rfl) (Nat.le_refl _) (Nat.le_refl _) rfl (t_X7_within _ _ _ _) ?_
            rintro _ _ ⟨rfl, rfl⟩
            refine zx_if_eq_f (t := 31) (q := 19) dX7_of_16 (by decide) rfl (zk_t (by decide)) ?_
            refine zx_aload_n (q := 20) dX7_of_19 rfl rfl rfl ?_
            refine zy_getR (q := 23) dX7_of_20 fl_RX7_12 rfl rfl rfl rfl ?_
            refine zy_getR (q := 26) dX7_of_23 fl_RX7_85 rfl rfl rfl rfl ?_
            refine zx_iload_n (q := 27) dX7_of_26 rfl rfl rfl ?_
            refine zy_aaldN (q := 28) dX7_of_27 rfl (by decide) (by omega) (by decide) (zr_2 (by omega)).1 rfl ?_
            refine zx_iload_n (q := 29) dX7_of_28 rfl rfl rfl ?_
            refine zy_ialdN (i := 3) (q := 30) dX7_of_29 (zr_2 (f := f) (by omega)).2 (by omega) (by first | decide | omega) rfl ?_
            refine zx_iret dX7_of_30 rfl (Nat.le_refl _) (Nat.le_refl _) ⟨_, rfl, ?_⟩
            refine ⟨_, _, _, rfl, ?_⟩
            show zW l D tc A mX8_of (d + 5) 0 0 0 0 0 [some (.ref 108), some (.int (nI s)), some (.int 3)] [] (zs _ _ _) _
            refine zx_aload_n (q := 1) dX8_of_0 rfl rfl rfl ?_
            refine zx_iload_n (q := 2) dX8_of_1 rfl rfl rfl ?_
            refine zx_callV1i (q := 5) (y' := mX8_isSort) dX8_of_2 ml_RX8_208 ok_mX8_isSort rfl (by decide) rfl (Nat.le_of_ble_eq_true rfl) (Nat.le_of_ble_eq_true rfl) (Nat.le_refl _) (Nat.le_refl _) rfl (t_X8_isSort _ _) ?_
            rintro _ _ ⟨rfl, rfl⟩
            refine zx_if_ne_t (t := 10) (q := 8) dX8_of_5 (by decide) rfl (zk_t (by first | (show z_in (nI s) 0 (gi 108 0 - 1) = true; rw [L.hs2]; exact z_inS_at L.hns hs) | (show z_in (nI s) 0 (g1 108 0 - 1) = true; rw [k1 _ _ (by omega), L.hs2]; exact z_inS_at L.hns hs))) ?_
            refine zx_aload_n (q := 11) dX8_of_10 rfl rfl rfl ?_
            refine zx_callV0v (q := 14) (y' := mX8_layShows) dX8_of_11 ml_RX8_278 ok_mX8_layShows rfl (by decide) rfl (Nat.le_of_ble_eq_true rfl) (Nat.le_of_ble_eq_true rfl) (Nat.le_refl _) (Nat.le_refl _) rfl (t_X8_layK _ L) ?_
            rintro _ ⟨g2, rfl, k2, s2⟩
            refine zx_aload_n (q := 15) dX8_of_14 rfl rfl rfl ?_
            refine zx_iload_n (q := 16) dX8_of_15 rfl rfl rfl ?_
            refine zx_bipush (q := 18) (v := 10) dX8_of_16 (by decide) rfl ?_
            refine zx_bipush (q := 20) (v := 12) dX8_of_18 (by decide) rfl ?_
            refine zx_callV3i (q := 23) (y' := mX8_in) dX8_of_20 ml_RX8_200 ok_mX8_in rfl (by decide) rfl (Nat.le_of_ble_eq_true rfl) (Nat.le_of_ble_eq_true rfl) (Nat.le_refl _) (Nat.le_refl _) rfl (t_X8_in _ _ _ _ _) ?_
            rintro _ _ ⟨rfl, rfl⟩
            refine zx_if_eq_t (t := 40) (q := 26) dX8_of_23 (by decide) rfl (zk_f (by decide)) ?_
            refine zx_aload_n (q := 41) dX8_of_40 rfl rfl rfl ?_
            refine zx_iload_n (q := 42) dX8_of_41 rfl rfl rfl ?_
            refine zx_iconst (q := 43) (v := 2) dX8_of_42 (by decide) rfl ?_
            refine zx_iconst (q := 44) (v := 4) dX8_of_43 (by decide) rfl ?_
            refine zx_callV3i (q := 47) (y' := mX8_in) dX8_of_44 ml_RX8_200 ok_mX8_in rfl (by decide) rfl (Nat.le_of_ble_eq_true rfl) (Nat.le_of_ble_eq_true rfl) (Nat.le_refl _) (Nat.le_refl _) rfl (t_X8_in _ _ _ _ _) ?_
            rintro _ _ ⟨rfl, rfl⟩
            refine zx_if_eq_f (t := 63) (q := 50) dX8_of_47 (by decide) rfl (zk_t (by decide)) ?_
            refine zx_aload_n (q := 51) dX8_of_50 rfl rfl rfl ?_
            refine zy_getR (q := 54) dX8_of_51 fl_RX8_23 rfl rfl rfl rfl ?_
            refine zx_iconst (q := 55) (v := 3) dX8_of_54 (by decide) rfl ?_
            refine zx_iload_n (q := 56) dX8_of_55 rfl rfl rfl ?_
            refine zx_imul (q := 57) dX8_of_56 rfl ?_
            refine zx_iload_n (q := 58) dX8_of_57 rfl rfl rfl ?_
            refine zx_iadd (q := 59) dX8_of_58 rfl ?_
            refine zx_iconst (q := 60) (v := 2) dX8_of_59 (by decide) rfl ?_
            refine zx_isub (q := 61) dX8_of_60 rfl ?_
            rw [show (3 : Int32) * nI s + 3 - 2 = nI (3 * s + 1) from z_3c s 3 2 (by omega)]
            refine zy_ialdN (q := 62) dX8_of_61 rfl (by omega) (by first | decide | omega) rfl ?_
            refine zx_iret dX8_of_62 rfl (Nat.le_refl _) (Nat.le_refl _) ⟨_, rfl, ?_⟩
            exact ⟨by rw [k2 _ _ (by omega)]; exact (by obtain ⟨b, _, b1, b2⟩ := hB 1 (by omega); exact b2.trans b1.symm), _, _, _, rfl, zRel_scr hR (fun k j z => by first | rfl | (rw [k2 _ _ (by unfold z_scr at z; omega), k1 _ _ (by unfold z_scr at z; omega)]) | (rw [k2 _ _ (by unfold z_scr at z; omega)]) | (rw [k1 _ _ (by unfold z_scr at z; omega)]))⟩
          · by_cases h4 : b = 4
            · subst h4
              show zW l D tc A mX7_of (d + 5) 0 0 0 0 0 [some (.ref 0), some (.int (nI s)), some (.int 4)] [] (zs gi gl f) _
              refine zx_aload_n (q := 1) dX7_of_0 rfl rfl rfl ?_
              refine zx_iload_n (q := 2) dX7_of_1 rfl rfl rfl ?_
              refine zx_callV1i (q := 5) (y' := mX7_isSort) dX7_of_2 ml_RX7_89 ok_mX7_isSort rfl (by decide) rfl (Nat.le_of_ble_eq_true rfl) (Nat.le_of_ble_eq_true rfl) (Nat.le_refl _) (Nat.le_refl _) rfl (t_X7_isSort _ _) ?_
              rintro _ _ ⟨rfl, rfl⟩
              refine zx_if_ne_t (t := 10) (q := 8) dX7_of_5 (by decide) rfl (zk_t (by show z_in (nI s) 0 (gi 1 0 - 1) = true; rw [L.hs1]; exact z_inS_at L.hns hs)) ?_
              refine zx_iload_n (q := 11) dX7_of_10 rfl rfl rfl ?_
              refine zx_iconst (q := 12) (v := 0) dX7_of_11 (by decide) rfl ?_
              refine zx_iconst (q := 13) (v := 5) dX7_of_12 (by decide) rfl ?_
              refine zx_callS3i (q := 16) (y' := mX7_within) dX7_of_13 ml_RX7_73 ok_mX7_within (Nat.le_of_ble_eq_true rfl) (Nat.le_of_ble_eq_true rfl) (Nat.le_refl _) (Nat.le_refl _) rfl (t_X7_within _ _ _ _) ?_
              rintro _ _ ⟨rfl, rfl⟩
              refine zx_if_eq_f (t := 31) (q := 19) dX7_of_16 (by decide) rfl (zk_t (by decide)) ?_
              refine zx_aload_n (q := 20) dX7_of_19 rfl rfl rfl ?_
              refine zy_getR (q := 23) dX7_of_20 fl_RX7_12 rfl rfl rfl rfl ?_
              refine zy_getR (q := 26) dX7_of_23 fl_RX7_85 rfl rfl rfl rfl ?_
              refine zx_iload_n (q := 27) dX7_of_26 rfl rfl rfl ?_
              refine zy_aaldN (q := 28) dX7_of_27 rfl (by decide) (by omega) (by decide) (zr_2 (by omega)).1 rfl ?_
              refine zx_iload_n (q := 29) dX7_of_28 rfl rfl rfl ?_
              refine zy_ialdN (i := 4) (q := 30) dX7_of_29 (zr_2 (f := f) (by omega)).2 (by omega) (by first | decide | omega) rfl ?_
              refine zx_iret dX7_of_30 rfl (Nat.le_refl _) (Nat.le_refl _) ⟨_, rfl, ?_⟩
              refine ⟨_, _, _, rfl, ?_⟩
              show zW l D tc A mX8_of (d + 5) 0 0 0 0 0 [some (.ref 108), some (.int (nI s)), some (.int 4)] [] (zs _ _ _) _
              refine zx_aload_n (q := 1) dX8_of_0 rfl rfl rfl ?_
              refine zx_iload_n (q := 2) dX8_of_1 rfl rfl rfl ?_
              refine zx_callV1i (q := 5) (y' := mX8_isSort) dX8_of_2 ml_RX8_208 ok_mX8_isSort rfl (by decide) rfl (Nat.le_of_ble_eq_true rfl) (Nat.le_of_ble_eq_true rfl) (Nat.le_refl _) (Nat.le_refl _) rfl (t_X8_isSort _ _) ?_
              rintro _ _ ⟨rfl, rfl⟩
              refine zx_if_ne_t (t := 10) (q := 8) dX8_of_5 (by decide) rfl (zk_t (by first | (show z_in (nI s) 0 (gi 108 0 - 1) = true; rw [L.hs2]; exact z_inS_at L.hns hs) | (show z_in (nI s) 0 (g1 108 0 - 1) = true; rw [k1 _ _ (by omega), L.hs2]; exact z_inS_at L.hns hs))) ?_
              refine zx_aload_n (q := 11) dX8_of_10 rfl rfl rfl ?_
              refine zx_callV0v (q := 14) (y' := mX8_layShows) dX8_of_11 ml_RX8_278 ok_mX8_layShows rfl (by decide) rfl (Nat.le_of_ble_eq_true rfl) (Nat.le_of_ble_eq_true rfl) (Nat.le_refl _) (Nat.le_refl _) rfl (t_X8_layK _ L) ?_
              rintro _ ⟨g2, rfl, k2, s2⟩
              refine zx_aload_n (q := 15) dX8_of_14 rfl rfl rfl ?_
              refine zx_iload_n (q := 16) dX8_of_15 rfl rfl rfl ?_
              refine zx_bipush (q := 18) (v := 10) dX8_of_16 (by decide) rfl ?_
              refine zx_bipush (q := 20) (v := 12) dX8_of_18 (by decide) rfl ?_
              refine zx_callV3i (q := 23) (y' := mX8_in) dX8_of_20 ml_RX8_200 ok_mX8_in rfl (by decide) rfl (Nat.le_of_ble_eq_true rfl) (Nat.le_of_ble_eq_true rfl) (Nat.le_refl _) (Nat.le_refl _) rfl (t_X8_in _ _ _ _ _) ?_
              rintro _ _ ⟨rfl, rfl⟩
              refine zx_if_eq_t (t := 40) (q := 26) dX8_of_23 (by decide) rfl (zk_f (by decide)) ?_
              refine zx_aload_n (q := 41) dX8_of_40 rfl rfl rfl ?_
              refine zx_iload_n (q := 42) dX8_of_41 rfl rfl rfl ?_
              refine zx_iconst (q := 43) (v := 2) dX8_of_42 (by decide) rfl ?_
              refine zx_iconst (q := 44) (v := 4) dX8_of_43 (by decide) rfl ?_
              refine zx_callV3i (q := 47) (y' := mX8_in) dX8_of_44 ml_RX8_200 ok_mX8_in rfl (by decide) rfl (Nat.le_of_ble_eq_true rfl) (Nat.le_of_ble_eq_true rfl) (Nat.le_refl _) (Nat.le_refl _) rfl (t_X8_in _ _ _ _ _) ?_
              rintro _ _ ⟨rfl, rfl⟩
              refine zx_if_eq_f (t := 63) (q := 50) dX8_of_47 (by decide) rfl (zk_t (by decide)) ?_
              refine zx_aload_n (q := 51) dX8_of_50 rfl rfl rfl ?_
              refine zy_getR (q := 54) dX8_of_51 fl_RX8_23 rfl rfl rfl rfl ?_
              refine zx_iconst (q := 55) (v := 3) dX8_of_54 (by decide) rfl ?_
              refine zx_iload_n (q := 56) dX8_of_55 rfl rfl rfl ?_
              refine zx_imul (q := 57) dX8_of_56 rfl ?_
              refine zx_iload_n (q := 58) dX8_of_57 rfl rfl rfl ?_
              refine zx_iadd (q := 59) dX8_of_58 rfl ?_
              refine zx_iconst (q := 60) (v := 2) dX8_of_59 (by decide) rfl ?_
              refine zx_isub (q := 61) dX8_of_60 rfl ?_
              rw [show (3 : Int32) * nI s + 4 - 2 = nI (3 * s + 2) from z_3c s 4 2 (by omega)]
              refine zy_ialdN (q := 62) dX8_of_61 rfl (by omega) (by first | decide | omega) rfl ?_
              refine zx_iret dX8_of_62 rfl (Nat.le_refl _) (Nat.le_refl _) ⟨_, rfl, ?_⟩
              exact ⟨by rw [k2 _ _ (by omega)]; exact (by obtain ⟨b, _, b1, b2⟩ := hB 2 (by omega); exact b2.trans b1.symm), _, _, _, rfl, zRel_scr hR (fun k j z => by first | rfl | (rw [k2 _ _ (by unfold z_scr at z; omega), k1 _ _ (by unfold z_scr at z; omega)]) | (rw [k2 _ _ (by unfold z_scr at z; omega)]) | (rw [k1 _ _ (by unfold z_scr at z; omega)]))⟩
            · by_cases h5 : b = 5
              · subst h5
                show zW l D tc A mX7_of (d + 5) 0 0 0 0 0 [some (.ref 0), some (.int (nI s)), some (.int 5)] [] (zs gi gl f) _
                refine zx_aload_n (q := 1) dX7_of_0 rfl rfl rfl ?_
                refine zx_iload_n (q := 2) dX7_of_1 rfl rfl rfl ?_
                refine zx_callV1i (q := 5) (y' := mX7_isSort) dX7_of_2 ml_RX7_89 ok_mX7_isSort rfl (by decide) rfl (Nat.le_of_ble_eq_true rfl) (Nat.le_of_ble_eq_true rfl) (Nat.le_refl _) (Nat.le_refl _) rfl (t_X7_isSort _ _) ?_
                rintro _ _ ⟨rfl, rfl⟩
                refine zx_if_ne_t (t := 10) (q := 8) dX7_of_5 (by decide) rfl (zk_t (by show z_in (nI s) 0 (gi 1 0 - 1) = true; rw [L.hs1]; exact z_inS_at L.hns hs)) ?_
                refine zx_iload_n (q := 11) dX7_of_10 rfl rfl rfl ?_
                refine zx_iconst (q := 12) (v := 0) dX7_of_11 (by decide) rfl ?_
                refine zx_iconst (q := 13) (v := 5) dX7_of_12 (by decide) rfl ?_
                refine zx_callS3i (q := 16) (y' := mX7_within) dX7_of_13 ml_RX7_73 ok_mX7_within (Nat.le_of_ble_eq_true rfl) (Nat.le_of_ble_eq_true rfl) (Nat.le_refl _) (Nat.le_refl _) rfl (t_X7_within _ _ _ _) ?_
                rintro _ _ ⟨rfl, rfl⟩
                refine zx_if_eq_f (t := 31) (q := 19) dX7_of_16 (by decide) rfl (zk_t (by decide)) ?_
                refine zx_aload_n (q := 20) dX7_of_19 rfl rfl rfl ?_
                refine zy_getR (q := 23) dX7_of_20 fl_RX7_12 rfl rfl rfl rfl ?_
                refine zy_getR (q := 26) dX7_of_23 fl_RX7_85 rfl rfl rfl rfl ?_
                refine zx_iload_n (q := 27) dX7_of_26 rfl rfl rfl ?_
                refine zy_aaldN (q := 28) dX7_of_27 rfl (by decide) (by omega) (by decide) (zr_2 (by omega)).1 rfl ?_
                refine zx_iload_n (q := 29) dX7_of_28 rfl rfl rfl ?_
                refine zy_ialdN (i := 5) (q := 30) dX7_of_29 (zr_2 (f := f) (by omega)).2 (by omega) (by first | decide | omega) rfl ?_
                refine zx_iret dX7_of_30 rfl (Nat.le_refl _) (Nat.le_refl _) ⟨_, rfl, ?_⟩
                refine ⟨_, _, _, rfl, ?_⟩
                show zW l D tc A mX8_of (d + 5) 0 0 0 0 0 [some (.ref 108), some (.int (nI s)), some (.int 5)] [] (zs _ _ _) _
                refine zx_aload_n (q := 1) dX8_of_0 rfl rfl rfl ?_
                refine zx_iload_n (q := 2) dX8_of_1 rfl rfl rfl ?_
                refine zx_callV1i (q := 5) (y' := mX8_isSort) dX8_of_2 ml_RX8_208 ok_mX8_isSort rfl (by decide) rfl (Nat.le_of_ble_eq_true rfl) (Nat.le_of_ble_eq_true rfl) (Nat.le_refl _) (Nat.le_refl _) rfl (t_X8_isSort _ _) ?_
                rintro _ _ ⟨rfl, rfl⟩
                refine zx_if_ne_t (t := 10) (q := 8) dX8_of_5 (by decide) rfl (zk_t (by first | (show z_in (nI s) 0 (gi 108 0 - 1) = true; rw [L.hs2]; exact z_inS_at L.hns hs) | (show z_in (nI s) 0 (g1 108 0 - 1) = true; rw [k1 _ _ (by omega), L.hs2]; exact z_inS_at L.hns hs))) ?_
                refine zx_aload_n (q := 11) dX8_of_10 rfl rfl rfl ?_
                refine zx_callV0v (q := 14) (y' := mX8_layShows) dX8_of_11 ml_RX8_278 ok_mX8_layShows rfl (by decide) rfl (Nat.le_of_ble_eq_true rfl) (Nat.le_of_ble_eq_true rfl) (Nat.le_refl _) (Nat.le_refl _) rfl (t_X8_layK _ L) ?_
                rintro _ ⟨g2, rfl, k2, s2⟩
                refine zx_aload_n (q := 15) dX8_of_14 rfl rfl rfl ?_
                refine zx_iload_n (q := 16) dX8_of_15 rfl rfl rfl ?_
                refine zx_bipush (q := 18) (v := 10) dX8_of_16 (by decide) rfl ?_
                refine zx_bipush (q := 20) (v := 12) dX8_of_18 (by decide) rfl ?_
                refine zx_callV3i (q := 23) (y' := mX8_in) dX8_of_20 ml_RX8_200 ok_mX8_in rfl (by decide) rfl (Nat.le_of_ble_eq_true rfl) (Nat.le_of_ble_eq_true rfl) (Nat.le_refl _) (Nat.le_refl _) rfl (t_X8_in _ _ _ _ _) ?_
                rintro _ _ ⟨rfl, rfl⟩
                refine zx_if_eq_t (t := 40) (q := 26) dX8_of_23 (by decide) rfl (zk_f (by decide)) ?_
                refine zx_aload_n (q := 41) dX8_of_40 rfl rfl rfl ?_
                refine zx_iload_n (q := 42) dX8_of_41 rfl rfl rfl ?_
                refine zx_iconst (q := 43) (v := 2) dX8_of_42 (by decide) rfl ?_
                refine zx_iconst (q := 44) (v := 4) dX8_of_43 (by decide) rfl ?_
                refine zx_callV3i (q := 47) (y' := mX8_in) dX8_of_44 ml_RX8_200 ok_mX8_in rfl (by decide) rfl (Nat.le_of_ble_eq_true rfl) (Nat.le_of_ble_eq_true rfl) (Nat.le_refl _) (Nat.le_refl _) rfl (t_X8_in _ _ _ _ _) ?_
                rintro _ _ ⟨rfl, rfl⟩
                refine zx_if_eq_t (t := 63) (q := 50) dX8_of_47 (by decide) rfl (zk_f (by decide)) ?_
                refine zx_iload_n (q := 64) dX8_of_63 rfl rfl rfl ?_
                refine zx_tblIn (t := 130) (off := 66) dX8_of_64 (by decide) (by decide) (by rfl) (by decide) ?_
                refine zx_aload_n (q := 131) dX8_of_130 rfl rfl rfl ?_
                refine zy_getR (q := 134) dX8_of_131 fl_RX8_26 rfl rfl rfl rfl ?_
                refine zx_iload_n (q := 135) dX8_of_134 rfl rfl rfl ?_
                refine zy_ialdN (q := 136) dX8_of_135 rfl (by omega) (by first | decide | omega) rfl ?_
                refine zx_iret dX8_of_136 rfl (Nat.le_refl _) (Nat.le_refl _) ⟨_, rfl, ?_⟩
                exact ⟨by rw [k2 _ _ (by omega)]; exact ht.2.2.trans ht.2.1.symm, _, _, _, rfl, zRel_scr hR (fun k j z => by first | rfl | (rw [k2 _ _ (by unfold z_scr at z; omega), k1 _ _ (by unfold z_scr at z; omega)]) | (rw [k2 _ _ (by unfold z_scr at z; omega)]) | (rw [k1 _ _ (by unfold z_scr at z; omega)]))⟩
              · by_cases h6 : b = 6
                · subst h6
                  show zW l D tc A mX7_of (d + 5) 0 0 0 0 0 [some (.ref 0), some (.int (nI s)), some (.int 6)] [] (zs gi gl f) _
                  refine zx_aload_n (q := 1) dX7_of_0 rfl rfl rfl ?_
                  refine zx_iload_n (q := 2) dX7_of_1 rfl rfl rfl ?_
                  refine zx_callV1i (q := 5) (y' := mX7_isSort) dX7_of_2 ml_RX7_89 ok_mX7_isSort rfl (by decide) rfl (Nat.le_of_ble_eq_true rfl) (Nat.le_of_ble_eq_true rfl) (Nat.le_refl _) (Nat.le_refl _) rfl (t_X7_isSort _ _) ?_
                  rintro _ _ ⟨rfl, rfl⟩
                  refine zx_if_ne_t (t := 10) (q := 8) dX7_of_5 (by decide) rfl (zk_t (by show z_in (nI s) 0 (gi 1 0 - 1) = true; rw [L.hs1]; exact z_inS_at L.hns hs)) ?_
                  refine zx_iload_n (q := 11) dX7_of_10 rfl rfl rfl ?_
                  refine zx_iconst (q := 12) (v := 0) dX7_of_11 (by decide) rfl ?_
                  refine zx_iconst (q := 13) (v := 5) dX7_of_12 (by decide) rfl ?_
                  refine zx_callS3i (q := 16) (y' := mX7_within) dX7_of_13 ml_RX7_73 ok_mX7_within (Nat.le_of_ble_eq_true rfl) (Nat.le_of_ble_eq_true rfl) (Nat.le_refl _) (Nat.le_refl _) rfl (t_X7_within _ _ _ _) ?_
                  rintro _ _ ⟨rfl, rfl⟩
                  refine zx_if_eq_t (t := 31) (q := 19) dX7_of_16 (by decide) rfl (zk_f (by decide)) ?_
                  refine zx_iload_n (q := 32) dX7_of_31 rfl rfl rfl ?_
                  refine zx_bipush (q := 34) (v := 7) dX7_of_32 (by decide) rfl ?_
                  refine zx_icmp_eq_f (t := 43) (q := 37) dX7_of_34 (by decide) rfl (by decide) ?_
                  refine zx_iload_n (q := 38) dX7_of_37 rfl rfl rfl ?_
                  refine zx_bipush (q := 40) (v := 8) dX7_of_38 (by decide) rfl ?_
                  refine zx_icmp_ne_t (t := 58) (q := 43) dX7_of_40 (by decide) rfl (by decide) ?_
                  refine zx_aload_n (q := 59) dX7_of_58 rfl rfl rfl ?_
                  refine zx_callV0v (q := 62) (y' := mX7_look) dX7_of_59 ml_RX7_95 ok_mX7_look rfl (by decide) rfl (Nat.le_of_ble_eq_true rfl) (Nat.le_of_ble_eq_true rfl) (Nat.le_refl _) (Nat.le_refl _) rfl (t_X7_look _ L) ?_
                  rintro _ ⟨g1, rfl, k1, s1⟩
                  refine zx_iload_n (q := 63) dX7_of_62 rfl rfl rfl ?_
                  refine zx_bipush (q := 65) (v := 6) dX7_of_63 (by decide) rfl ?_
                  refine zx_icmp_ne_f (t := 78) (q := 68) dX7_of_65 (by decide) rfl (rfl) ?_
                  refine zx_aload_n (q := 69) dX7_of_68 rfl rfl rfl ?_
                  refine zy_getR (q := 72) dX7_of_69 fl_RX7_42 rfl rfl rfl rfl ?_
                  refine zy_getR (q := 75) dX7_of_72 fl_RX7_98 rfl rfl rfl rfl ?_
                  refine zx_iload_n (q := 76) dX7_of_75 rfl rfl rfl ?_
                  refine zy_ialdN (q := 77) dX7_of_76 rfl (by omega) (by first | decide | omega) rfl ?_
                  refine zx_iret dX7_of_77 rfl (Nat.le_refl _) (Nat.le_refl _) ⟨_, rfl, ?_⟩
                  refine ⟨_, _, _, rfl, ?_⟩
                  show zW l D tc A mX8_of (d + 5) 0 0 0 0 0 [some (.ref 108), some (.int (nI s)), some (.int 6)] [] (zs _ _ _) _
                  refine zx_aload_n (q := 1) dX8_of_0 rfl rfl rfl ?_
                  refine zx_iload_n (q := 2) dX8_of_1 rfl rfl rfl ?_
                  refine zx_callV1i (q := 5) (y' := mX8_isSort) dX8_of_2 ml_RX8_208 ok_mX8_isSort rfl (by decide) rfl (Nat.le_of_ble_eq_true rfl) (Nat.le_of_ble_eq_true rfl) (Nat.le_refl _) (Nat.le_refl _) rfl (t_X8_isSort _ _) ?_
                  rintro _ _ ⟨rfl, rfl⟩
                  refine zx_if_ne_t (t := 10) (q := 8) dX8_of_5 (by decide) rfl (zk_t (by first | (show z_in (nI s) 0 (gi 108 0 - 1) = true; rw [L.hs2]; exact z_inS_at L.hns hs) | (show z_in (nI s) 0 (g1 108 0 - 1) = true; rw [k1 _ _ (by omega), L.hs2]; exact z_inS_at L.hns hs))) ?_
                  refine zx_aload_n (q := 11) dX8_of_10 rfl rfl rfl ?_
                  refine zx_callV0v (q := 14) (y' := mX8_layShows) dX8_of_11 ml_RX8_278 ok_mX8_layShows rfl (by decide) rfl (Nat.le_of_ble_eq_true rfl) (Nat.le_of_ble_eq_true rfl) (Nat.le_refl _) (Nat.le_refl _) rfl (t_X8_layK _ (zLK_fr L (fun k j z => k1 k j (by unfold z_scr at z; omega)) (k1 _ _ (by omega)))) ?_
                  rintro _ ⟨g2, rfl, k2, s2⟩
                  refine zx_aload_n (q := 15) dX8_of_14 rfl rfl rfl ?_
                  refine zx_iload_n (q := 16) dX8_of_15 rfl rfl rfl ?_
                  refine zx_bipush (q := 18) (v := 10) dX8_of_16 (by decide) rfl ?_
                  refine zx_bipush (q := 20) (v := 12) dX8_of_18 (by decide) rfl ?_
                  refine zx_callV3i (q := 23) (y' := mX8_in) dX8_of_20 ml_RX8_200 ok_mX8_in rfl (by decide) rfl (Nat.le_of_ble_eq_true rfl) (Nat.le_of_ble_eq_true rfl) (Nat.le_refl _) (Nat.le_refl _) rfl (t_X8_in _ _ _ _ _) ?_
                  rintro _ _ ⟨rfl, rfl⟩
                  refine zx_if_eq_t (t := 40) (q := 26) dX8_of_23 (by decide) rfl (zk_f (by decide)) ?_
                  refine zx_aload_n (q := 41) dX8_of_40 rfl rfl rfl ?_
                  refine zx_iload_n (q := 42) dX8_of_41 rfl rfl rfl ?_
                  refine zx_iconst (q := 43) (v := 2) dX8_of_42 (by decide) rfl ?_
                  refine zx_iconst (q := 44) (v := 4) dX8_of_43 (by decide) rfl ?_
                  refine zx_callV3i (q := 47) (y' := mX8_in) dX8_of_44 ml_RX8_200 ok_mX8_in rfl (by decide) rfl (Nat.le_of_ble_eq_true rfl) (Nat.le_of_ble_eq_true rfl) (Nat.le_refl _) (Nat.le_refl _) rfl (t_X8_in _ _ _ _ _) ?_
                  rintro _ _ ⟨rfl, rfl⟩
                  refine zx_if_eq_t (t := 63) (q := 50) dX8_of_47 (by decide) rfl (zk_f (by decide)) ?_
                  refine zx_iload_n (q := 64) dX8_of_63 rfl rfl rfl ?_
                  refine zx_tblIn (t := 137) (off := 73) dX8_of_64 (by decide) (by decide) (by rfl) (by decide) ?_
                  refine zx_aload_n (q := 138) dX8_of_137 rfl rfl rfl ?_
                  refine zy_getR (q := 141) dX8_of_138 fl_RX8_99 rfl rfl rfl rfl ?_
                  refine zx_iload_n (q := 142) dX8_of_141 rfl rfl rfl ?_
                  refine zy_ialdN (q := 143) dX8_of_142 rfl (by omega) (by first | decide | omega) rfl ?_
                  refine zx_iret dX8_of_143 rfl (Nat.le_refl _) (Nat.le_refl _) ⟨_, rfl, ?_⟩
                  exact ⟨by rw [(s2 s hs).1, (s1.2.2 s hs).1, z_ow_cg (fun k j z => k1 k j (by omega)) hs5], _, _, _, rfl, zRel_scr hR (fun k j z => by first | rfl | (rw [k2 _ _ (by unfold z_scr at z; omega), k1 _ _ (by unfold z_scr at z; omega)]) | (rw [k2 _ _ (by unfold z_scr at z; omega)]) | (rw [k1 _ _ (by unfold z_scr at z; omega)]))⟩
                · by_cases h7 : b = 7
                  · subst h7
                    show zW l D tc A mX7_of (d + 5) 0 0 0 0 0 [some (.ref 0), some (.int (nI s)), some (.int 7)] [] (zs gi gl f) _
                    refine zx_aload_n (q := 1) dX7_of_0 rfl rfl rfl ?_
                    refine zx_iload_n (q := 2) dX7_of_1 rfl rfl rfl ?_
                    refine zx_callV1i (q := 5) (y' := mX7_isSort) dX7_of_2 ml_RX7_89 ok_mX7_isSort rfl (by decide) rfl (Nat.le_of_ble_eq_true rfl) (Nat.le_of_ble_eq_true rfl) (Nat.le_refl _) (Nat.le_refl _) rfl (t_X7_isSort _ _) ?_
                    rintro _ _ ⟨rfl, rfl⟩
                    refine zx_if_ne_t (t := 10) (q := 8) dX7_of_5 (by decide) rfl (zk_t (by show z_in (nI s) 0 (gi 1 0 - 1) = true; rw [L.hs1]; exact z_inS_at L.hns hs)) ?_
                    refine zx_iload_n (q := 11) dX7_of_10 rfl rfl rfl ?_
                    refine zx_iconst (q := 12) (v := 0) dX7_of_11 (by decide) rfl ?_
                    refine zx_iconst (q := 13) (v := 5) dX7_of_12 (by decide) rfl ?_
                    refine zx_callS3i (q := 16) (y' := mX7_within) dX7_of_13 ml_RX7_73 ok_mX7_within (Nat.le_of_ble_eq_true rfl) (Nat.le_of_ble_eq_true rfl) (Nat.le_refl _) (Nat.le_refl _) rfl (t_X7_within _ _ _ _) ?_
                    rintro _ _ ⟨rfl, rfl⟩
                    refine zx_if_eq_t (t := 31) (q := 19) dX7_of_16 (by decide) rfl (zk_f (by decide)) ?_
                    refine zx_iload_n (q := 32) dX7_of_31 rfl rfl rfl ?_
                    refine zx_bipush (q := 34) (v := 7) dX7_of_32 (by decide) rfl ?_
                    refine zx_icmp_eq_t (t := 43) (q := 37) dX7_of_34 (by decide) rfl (rfl) ?_
                    refine zx_aload_n (q := 44) dX7_of_43 rfl rfl rfl ?_
                    refine zy_getR (q := 47) dX7_of_44 fl_RX7_12 rfl rfl rfl rfl ?_
                    refine zy_getR (q := 50) dX7_of_47 fl_RX7_92 rfl rfl rfl rfl ?_
                    refine zx_iload_n (q := 51) dX7_of_50 rfl rfl rfl ?_
                    refine zx_bipush (q := 53) (v := 7) dX7_of_51 (by decide) rfl ?_
                    refine zx_isub (q := 54) dX7_of_53 rfl ?_
                    refine zy_aaldN (i := 0) (q := 55) dX7_of_54 rfl (by decide) (by omega) (by decide) rfl rfl ?_
                    refine zx_iload_n (q := 56) dX7_of_55 rfl rfl rfl ?_
                    refine zy_ialdN (q := 57) dX7_of_56 rfl (by omega) (by first | decide | omega) rfl ?_
                    refine zx_iret dX7_of_57 rfl (Nat.le_refl _) (Nat.le_refl _) ⟨_, rfl, ?_⟩
                    refine ⟨_, _, _, rfl, ?_⟩
                    show zW l D tc A mX8_of (d + 5) 0 0 0 0 0 [some (.ref 108), some (.int (nI s)), some (.int 7)] [] (zs _ _ _) _
                    refine zx_aload_n (q := 1) dX8_of_0 rfl rfl rfl ?_
                    refine zx_iload_n (q := 2) dX8_of_1 rfl rfl rfl ?_
                    refine zx_callV1i (q := 5) (y' := mX8_isSort) dX8_of_2 ml_RX8_208 ok_mX8_isSort rfl (by decide) rfl (Nat.le_of_ble_eq_true rfl) (Nat.le_of_ble_eq_true rfl) (Nat.le_refl _) (Nat.le_refl _) rfl (t_X8_isSort _ _) ?_
                    rintro _ _ ⟨rfl, rfl⟩
                    refine zx_if_ne_t (t := 10) (q := 8) dX8_of_5 (by decide) rfl (zk_t (by first | (show z_in (nI s) 0 (gi 108 0 - 1) = true; rw [L.hs2]; exact z_inS_at L.hns hs) | (show z_in (nI s) 0 (g1 108 0 - 1) = true; rw [k1 _ _ (by omega), L.hs2]; exact z_inS_at L.hns hs))) ?_
                    refine zx_aload_n (q := 11) dX8_of_10 rfl rfl rfl ?_
                    refine zx_callV0v (q := 14) (y' := mX8_layShows) dX8_of_11 ml_RX8_278 ok_mX8_layShows rfl (by decide) rfl (Nat.le_of_ble_eq_true rfl) (Nat.le_of_ble_eq_true rfl) (Nat.le_refl _) (Nat.le_refl _) rfl (t_X8_layK _ L) ?_
                    rintro _ ⟨g2, rfl, k2, s2⟩
                    refine zx_aload_n (q := 15) dX8_of_14 rfl rfl rfl ?_
                    refine zx_iload_n (q := 16) dX8_of_15 rfl rfl rfl ?_
                    refine zx_bipush (q := 18) (v := 10) dX8_of_16 (by decide) rfl ?_
                    refine zx_bipush (q := 20) (v := 12) dX8_of_18 (by decide) rfl ?_
                    refine zx_callV3i (q := 23) (y' := mX8_in) dX8_of_20 ml_RX8_200 ok_mX8_in rfl (by decide) rfl (Nat.le_of_ble_eq_true rfl) (Nat.le_of_ble_eq_true rfl) (Nat.le_refl _) (Nat.le_refl _) rfl (t_X8_in _ _ _ _ _) ?_
                    rintro _ _ ⟨rfl, rfl⟩
                    refine zx_if_eq_t (t := 40) (q := 26) dX8_of_23 (by decide) rfl (zk_f (by decide)) ?_
                    refine zx_aload_n (q := 41) dX8_of_40 rfl rfl rfl ?_
                    refine zx_iload_n (q := 42) dX8_of_41 rfl rfl rfl ?_
                    refine zx_iconst (q := 43) (v := 2) dX8_of_42 (by decide) rfl ?_
                    refine zx_iconst (q := 44) (v := 4) dX8_of_43 (by decide) rfl ?_
                    refine zx_callV3i (q := 47) (y' := mX8_in) dX8_of_44 ml_RX8_200 ok_mX8_in rfl (by decide) rfl (Nat.le_of_ble_eq_true rfl) (Nat.le_of_ble_eq_true rfl) (Nat.le_refl _) (Nat.le_refl _) rfl (t_X8_in _ _ _ _ _) ?_
                    rintro _ _ ⟨rfl, rfl⟩
                    refine zx_if_eq_t (t := 63) (q := 50) dX8_of_47 (by decide) rfl (zk_f (by decide)) ?_
                    refine zx_iload_n (q := 64) dX8_of_63 rfl rfl rfl ?_
                    refine zx_tblIn (t := 144) (off := 80) dX8_of_64 (by decide) (by decide) (by rfl) (by decide) ?_
                    refine zx_aload_n (q := 145) dX8_of_144 rfl rfl rfl ?_
                    refine zy_getR (q := 148) dX8_of_145 fl_RX8_29 rfl rfl rfl rfl ?_
                    refine zx_iload_n (q := 149) dX8_of_148 rfl rfl rfl ?_
                    refine zy_ialdN (q := 150) dX8_of_149 rfl (by omega) (by first | decide | omega) rfl ?_
                    refine zx_iret dX8_of_150 rfl (Nat.le_refl _) (Nat.le_refl _) ⟨_, rfl, ?_⟩
                    exact ⟨by rw [k2 _ _ (by omega)]; exact (z_hd0 L hs).2.2.trans (z_hd0 L hs).2.1.symm, _, _, _, rfl, zRel_scr hR (fun k j z => by first | rfl | (rw [k2 _ _ (by unfold z_scr at z; omega), k1 _ _ (by unfold z_scr at z; omega)]) | (rw [k2 _ _ (by unfold z_scr at z; omega)]) | (rw [k1 _ _ (by unfold z_scr at z; omega)]))⟩
                  · by_cases h8 : b = 8
                    · subst h8
                      show zW l D tc A mX7_of (d + 5) 0 0 0 0 0 [some (.ref 0), some (.int (nI s)), some (.int 8)] [] (zs gi gl f) _
                      refine zx_aload_n (q := 1) dX7_of_0 rfl rfl rfl ?_
                      refine zx_iload_n (q := 2) dX7_of_1 rfl rfl rfl ?_
                      refine zx_callV1i (q := 5) (y' := mX7_isSort) dX7_of_2 ml_RX7_89 ok_mX7_isSort rfl (by decide) rfl (Nat.le_of_ble_eq_true rfl) (Nat.le_of_ble_eq_true rfl) (Nat.le_refl _) (Nat.le_refl _) rfl (t_X7_isSort _ _) ?_
                      rintro _ _ ⟨rfl, rfl⟩
                      refine zx_if_ne_t (t := 10) (q := 8) dX7_of_5 (by decide) rfl (zk_t (by show z_in (nI s) 0 (gi 1 0 - 1) = true; rw [L.hs1]; exact z_inS_at L.hns hs)) ?_
                      refine zx_iload_n (q := 11) dX7_of_10 rfl rfl rfl ?_
                      refine zx_iconst (q := 12) (v := 0) dX7_of_11 (by decide) rfl ?_
                      refine zx_iconst (q := 13) (v := 5) dX7_of_12 (by decide) rfl ?_
                      refine zx_callS3i (q := 16) (y' := mX7_within) dX7_of_13 ml_RX7_73 ok_mX7_within (Nat.le_of_ble_eq_true rfl) (Nat.le_of_ble_eq_true rfl) (Nat.le_refl _) (Nat.le_refl _) rfl (t_X7_within _ _ _ _) ?_
                      rintro _ _ ⟨rfl, rfl⟩
                      refine zx_if_eq_t (t := 31) (q := 19) dX7_of_16 (by decide) rfl (zk_f (by decide)) ?_
                      refine zx_iload_n (q := 32) dX7_of_31 rfl rfl rfl ?_
                      refine zx_bipush (q := 34) (v := 7) dX7_of_32 (by decide) rfl ?_
                      refine zx_icmp_eq_f (t := 43) (q := 37) dX7_of_34 (by decide) rfl (by decide) ?_
                      refine zx_iload_n (q := 38) dX7_of_37 rfl rfl rfl ?_
                      refine zx_bipush (q := 40) (v := 8) dX7_of_38 (by decide) rfl ?_
                      refine zx_icmp_ne_f (t := 58) (q := 43) dX7_of_40 (by decide) rfl (rfl) ?_
                      refine zx_aload_n (q := 44) dX7_of_43 rfl rfl rfl ?_
                      refine zy_getR (q := 47) dX7_of_44 fl_RX7_12 rfl rfl rfl rfl ?_
                      refine zy_getR (q := 50) dX7_of_47 fl_RX7_92 rfl rfl rfl rfl ?_
                      refine zx_iload_n (q := 51) dX7_of_50 rfl rfl rfl ?_
                      refine zx_bipush (q := 53) (v := 7) dX7_of_51 (by decide) rfl ?_
                      refine zx_isub (q := 54) dX7_of_53 rfl ?_
                      refine zy_aaldN (i := 1) (q := 55) dX7_of_54 rfl (by decide) (by omega) (by decide) rfl rfl ?_
                      refine zx_iload_n (q := 56) dX7_of_55 rfl rfl rfl ?_
                      refine zy_ialdN (q := 57) dX7_of_56 rfl (by omega) (by first | decide | omega) rfl ?_
                      refine zx_iret dX7_of_57 rfl (Nat.le_refl _) (Nat.le_refl _) ⟨_, rfl, ?_⟩
                      refine ⟨_, _, _, rfl, ?_⟩
                      show zW l D tc A mX8_of (d + 5) 0 0 0 0 0 [some (.ref 108), some (.int (nI s)), some (.int 8)] [] (zs _ _ _) _
                      refine zx_aload_n (q := 1) dX8_of_0 rfl rfl rfl ?_
                      refine zx_iload_n (q := 2) dX8_of_1 rfl rfl rfl ?_
                      refine zx_callV1i (q := 5) (y' := mX8_isSort) dX8_of_2 ml_RX8_208 ok_mX8_isSort rfl (by decide) rfl (Nat.le_of_ble_eq_true rfl) (Nat.le_of_ble_eq_true rfl) (Nat.le_refl _) (Nat.le_refl _) rfl (t_X8_isSort _ _) ?_
                      rintro _ _ ⟨rfl, rfl⟩
                      refine zx_if_ne_t (t := 10) (q := 8) dX8_of_5 (by decide) rfl (zk_t (by first | (show z_in (nI s) 0 (gi 108 0 - 1) = true; rw [L.hs2]; exact z_inS_at L.hns hs) | (show z_in (nI s) 0 (g1 108 0 - 1) = true; rw [k1 _ _ (by omega), L.hs2]; exact z_inS_at L.hns hs))) ?_
                      refine zx_aload_n (q := 11) dX8_of_10 rfl rfl rfl ?_
                      refine zx_callV0v (q := 14) (y' := mX8_layShows) dX8_of_11 ml_RX8_278 ok_mX8_layShows rfl (by decide) rfl (Nat.le_of_ble_eq_true rfl) (Nat.le_of_ble_eq_true rfl) (Nat.le_refl _) (Nat.le_refl _) rfl (t_X8_layK _ L) ?_
                      rintro _ ⟨g2, rfl, k2, s2⟩
                      refine zx_aload_n (q := 15) dX8_of_14 rfl rfl rfl ?_
                      refine zx_iload_n (q := 16) dX8_of_15 rfl rfl rfl ?_
                      refine zx_bipush (q := 18) (v := 10) dX8_of_16 (by decide) rfl ?_
                      refine zx_bipush (q := 20) (v := 12) dX8_of_18 (by decide) rfl ?_
                      refine zx_callV3i (q := 23) (y' := mX8_in) dX8_of_20 ml_RX8_200 ok_mX8_in rfl (by decide) rfl (Nat.le_of_ble_eq_true rfl) (Nat.le_of_ble_eq_true rfl) (Nat.le_refl _) (Nat.le_refl _) rfl (t_X8_in _ _ _ _ _) ?_
                      rintro _ _ ⟨rfl, rfl⟩
                      refine zx_if_eq_t (t := 40) (q := 26) dX8_of_23 (by decide) rfl (zk_f (by decide)) ?_
                      refine zx_aload_n (q := 41) dX8_of_40 rfl rfl rfl ?_
                      refine zx_iload_n (q := 42) dX8_of_41 rfl rfl rfl ?_
                      refine zx_iconst (q := 43) (v := 2) dX8_of_42 (by decide) rfl ?_
                      refine zx_iconst (q := 44) (v := 4) dX8_of_43 (by decide) rfl ?_
                      refine zx_callV3i (q := 47) (y' := mX8_in) dX8_of_44 ml_RX8_200 ok_mX8_in rfl (by decide) rfl (Nat.le_of_ble_eq_true rfl) (Nat.le_of_ble_eq_true rfl) (Nat.le_refl _) (Nat.le_refl _) rfl (t_X8_in _ _ _ _ _) ?_
                      rintro _ _ ⟨rfl, rfl⟩
                      refine zx_if_eq_t (t := 63) (q := 50) dX8_of_47 (by decide) rfl (zk_f (by decide)) ?_
                      refine zx_iload_n (q := 64) dX8_of_63 rfl rfl rfl ?_
                      refine zx_tblIn (t := 151) (off := 87) dX8_of_64 (by decide) (by decide) (by rfl) (by decide) ?_
                      refine zx_aload_n (q := 152) dX8_of_151 rfl rfl rfl ?_
                      refine zy_getR (q := 155) dX8_of_152 fl_RX8_32 rfl rfl rfl rfl ?_
                      refine zx_iload_n (q := 156) dX8_of_155 rfl rfl rfl ?_
                      refine zy_ialdN (q := 157) dX8_of_156 rfl (by omega) (by first | decide | omega) rfl ?_
                      refine zx_iret dX8_of_157 rfl (Nat.le_refl _) (Nat.le_refl _) ⟨_, rfl, ?_⟩
                      exact ⟨by rw [k2 _ _ (by omega)]; exact (z_hd1 L hs).2.2.trans (z_hd1 L hs).2.1.symm, _, _, _, rfl, zRel_scr hR (fun k j z => by first | rfl | (rw [k2 _ _ (by unfold z_scr at z; omega), k1 _ _ (by unfold z_scr at z; omega)]) | (rw [k2 _ _ (by unfold z_scr at z; omega)]) | (rw [k1 _ _ (by unfold z_scr at z; omega)]))⟩
                    · by_cases h10 : b = 10
                      · subst h10
                        show zW l D tc A mX7_of (d + 5) 0 0 0 0 0 [some (.ref 0), some (.int (nI s)), some (.int 10)] [] (zs gi gl f) _
                        refine zx_aload_n (q := 1) dX7_of_0 rfl rfl rfl ?_
                        refine zx_iload_n (q := 2) dX7_of_1 rfl rfl rfl ?_
                        refine zx_callV1i (q := 5) (y' := mX7_isSort) dX7_of_2 ml_RX7_89 ok_mX7_isSort rfl (by decide) rfl (Nat.le_of_ble_eq_true rfl) (Nat.le_of_ble_eq_true rfl) (Nat.le_refl _) (Nat.le_refl _) rfl (t_X7_isSort _ _) ?_
                        rintro _ _ ⟨rfl, rfl⟩
                        refine zx_if_ne_t (t := 10) (q := 8) dX7_of_5 (by decide) rfl (zk_t (by show z_in (nI s) 0 (gi 1 0 - 1) = true; rw [L.hs1]; exact z_inS_at L.hns hs)) ?_
                        refine zx_iload_n (q := 11) dX7_of_10 rfl rfl rfl ?_
                        refine zx_iconst (q := 12) (v := 0) dX7_of_11 (by decide) rfl ?_
                        refine zx_iconst (q := 13) (v := 5) dX7_of_12 (by decide) rfl ?_
                        refine zx_callS3i (q := 16) (y' := mX7_within) dX7_of_13 ml_RX7_73 ok_mX7_within (Nat.le_of_ble_eq_true rfl) (Nat.le_of_ble_eq_true rfl) (Nat.le_refl _) (Nat.le_refl _) rfl (t_X7_within _ _ _ _) ?_
                        rintro _ _ ⟨rfl, rfl⟩
                        refine zx_if_eq_t (t := 31) (q := 19) dX7_of_16 (by decide) rfl (zk_f (by decide)) ?_
                        refine zx_iload_n (q := 32) dX7_of_31 rfl rfl rfl ?_
                        refine zx_bipush (q := 34) (v := 7) dX7_of_32 (by decide) rfl ?_
                        refine zx_icmp_eq_f (t := 43) (q := 37) dX7_of_34 (by decide) rfl (by decide) ?_
                        refine zx_iload_n (q := 38) dX7_of_37 rfl rfl rfl ?_
                        refine zx_bipush (q := 40) (v := 8) dX7_of_38 (by decide) rfl ?_
                        refine zx_icmp_ne_t (t := 58) (q := 43) dX7_of_40 (by decide) rfl (by decide) ?_
                        refine zx_aload_n (q := 59) dX7_of_58 rfl rfl rfl ?_
                        refine zx_callV0v (q := 62) (y' := mX7_look) dX7_of_59 ml_RX7_95 ok_mX7_look rfl (by decide) rfl (Nat.le_of_ble_eq_true rfl) (Nat.le_of_ble_eq_true rfl) (Nat.le_refl _) (Nat.le_refl _) rfl (t_X7_look _ L) ?_
                        rintro _ ⟨g1, rfl, k1, s1⟩
                        refine zx_iload_n (q := 63) dX7_of_62 rfl rfl rfl ?_
                        refine zx_bipush (q := 65) (v := 6) dX7_of_63 (by decide) rfl ?_
                        refine zx_icmp_ne_t (t := 78) (q := 68) dX7_of_65 (by decide) rfl (by decide) ?_
                        refine zx_iload_n (q := 79) dX7_of_78 rfl rfl rfl ?_
                        refine zx_bipush (q := 81) (v := 10) dX7_of_79 (by decide) rfl ?_
                        refine zx_isub (q := 82) dX7_of_81 rfl ?_
                        refine zx_callS1i (q := 85) (y' := mX7_isHole) dX7_of_82 ml_RX7_101 ok_mX7_isHole (Nat.le_of_ble_eq_true rfl) (Nat.le_of_ble_eq_true rfl) (Nat.le_refl _) (Nat.le_refl _) rfl (t_X7_isHole _ _) ?_
                        rintro _ _ ⟨rfl, rfl⟩
                        refine zx_if_eq_f (t := 105) (q := 88) dX7_of_85 (by decide) rfl (zk_t (by decide)) ?_
                        refine zx_aload_n (q := 89) dX7_of_88 rfl rfl rfl ?_
                        refine zy_getR (q := 92) dX7_of_89 fl_RX7_42 rfl rfl rfl rfl ?_
                        refine zy_getR (q := 95) dX7_of_92 fl_RX7_104 rfl rfl rfl rfl ?_
                        refine zx_iload_n (q := 96) dX7_of_95 rfl rfl rfl ?_
                        refine zy_aaldN (q := 97) dX7_of_96 rfl (by decide) (by omega) (by decide) (zr_48 (by omega)).1 rfl ?_
                        refine zx_iload_n (q := 98) dX7_of_97 rfl rfl rfl ?_
                        refine zx_bipush (q := 100) (v := 10) dX7_of_98 (by decide) rfl ?_
                        refine zx_isub (q := 101) dX7_of_100 rfl ?_
                        refine zy_ialdN (i := 0) (q := 102) dX7_of_101 (zr_48 (f := f) (by omega)).2 (by omega) (by first | decide | omega) rfl ?_
                        refine zx_goto (t := 106) dX7_of_102 (by decide) ?_
                        refine zx_iret dX7_of_106 rfl (Nat.le_refl _) (Nat.le_refl _) ⟨_, rfl, ?_⟩
                        refine ⟨_, _, _, rfl, ?_⟩
                        show zW l D tc A mX8_of (d + 5) 0 0 0 0 0 [some (.ref 108), some (.int (nI s)), some (.int 10)] [] (zs _ _ _) _
                        refine zx_aload_n (q := 1) dX8_of_0 rfl rfl rfl ?_
                        refine zx_iload_n (q := 2) dX8_of_1 rfl rfl rfl ?_
                        refine zx_callV1i (q := 5) (y' := mX8_isSort) dX8_of_2 ml_RX8_208 ok_mX8_isSort rfl (by decide) rfl (Nat.le_of_ble_eq_true rfl) (Nat.le_of_ble_eq_true rfl) (Nat.le_refl _) (Nat.le_refl _) rfl (t_X8_isSort _ _) ?_
                        rintro _ _ ⟨rfl, rfl⟩
                        refine zx_if_ne_t (t := 10) (q := 8) dX8_of_5 (by decide) rfl (zk_t (by first | (show z_in (nI s) 0 (gi 108 0 - 1) = true; rw [L.hs2]; exact z_inS_at L.hns hs) | (show z_in (nI s) 0 (g1 108 0 - 1) = true; rw [k1 _ _ (by omega), L.hs2]; exact z_inS_at L.hns hs))) ?_
                        refine zx_aload_n (q := 11) dX8_of_10 rfl rfl rfl ?_
                        refine zx_callV0v (q := 14) (y' := mX8_layShows) dX8_of_11 ml_RX8_278 ok_mX8_layShows rfl (by decide) rfl (Nat.le_of_ble_eq_true rfl) (Nat.le_of_ble_eq_true rfl) (Nat.le_refl _) (Nat.le_refl _) rfl (t_X8_layK _ (zLK_fr L (fun k j z => k1 k j (by unfold z_scr at z; omega)) (k1 _ _ (by omega)))) ?_
                        rintro _ ⟨g2, rfl, k2, s2⟩
                        refine zx_aload_n (q := 15) dX8_of_14 rfl rfl rfl ?_
                        refine zx_iload_n (q := 16) dX8_of_15 rfl rfl rfl ?_
                        refine zx_bipush (q := 18) (v := 10) dX8_of_16 (by decide) rfl ?_
                        refine zx_bipush (q := 20) (v := 12) dX8_of_18 (by decide) rfl ?_
                        refine zx_callV3i (q := 23) (y' := mX8_in) dX8_of_20 ml_RX8_200 ok_mX8_in rfl (by decide) rfl (Nat.le_of_ble_eq_true rfl) (Nat.le_of_ble_eq_true rfl) (Nat.le_refl _) (Nat.le_refl _) rfl (t_X8_in _ _ _ _ _) ?_
                        rintro _ _ ⟨rfl, rfl⟩
                        refine zx_if_eq_f (t := 40) (q := 26) dX8_of_23 (by decide) rfl (zk_t (by decide)) ?_
                        refine zx_aload_n (q := 27) dX8_of_26 rfl rfl rfl ?_
                        refine zy_getR (q := 30) dX8_of_27 fl_RX8_96 rfl rfl rfl rfl ?_
                        refine zx_iconst (q := 31) (v := 3) dX8_of_30 (by decide) rfl ?_
                        refine zx_iload_n (q := 32) dX8_of_31 rfl rfl rfl ?_
                        refine zx_imul (q := 33) dX8_of_32 rfl ?_
                        refine zx_iload_n (q := 34) dX8_of_33 rfl rfl rfl ?_
                        refine zx_iadd (q := 35) dX8_of_34 rfl ?_
                        refine zx_bipush (q := 37) (v := 10) dX8_of_35 (by decide) rfl ?_
                        refine zx_isub (q := 38) dX8_of_37 rfl ?_
                        rw [show (3 : Int32) * nI s + 10 - 10 = nI (3 * s + 0) from z_3c s 10 10 (by omega)]
                        refine zy_ialdN (q := 39) dX8_of_38 rfl (by omega) (by first | decide | omega) rfl ?_
                        refine zx_iret dX8_of_39 rfl (Nat.le_refl _) (Nat.le_refl _) ⟨_, rfl, ?_⟩
                        exact ⟨by rw [(s2 s hs).2 0 (by omega), (s1.2.2 s hs).2 0 (by omega), z_sh_cg (fun k j z => k1 k j (by omega)) hs5], _, _, _, rfl, zRel_scr hR (fun k j z => by first | rfl | (rw [k2 _ _ (by unfold z_scr at z; omega), k1 _ _ (by unfold z_scr at z; omega)]) | (rw [k2 _ _ (by unfold z_scr at z; omega)]) | (rw [k1 _ _ (by unfold z_scr at z; omega)]))⟩
                      · by_cases h11 : b = 11
                        · subst h11
                          show zW l D tc A mX7_of (d + 5) 0 0 0 0 0 [some (.ref 0), some (.int (nI s)), some (.int 11)] [] (zs gi gl f) _
                          refine zx_aload_n (q := 1) dX7_of_0 rfl rfl rfl ?_
                          refine zx_iload_n (q := 2) dX7_of_1 rfl rfl rfl ?_
                          refine zx_callV1i (q := 5) (y' := mX7_isSort) dX7_of_2 ml_RX7_89 ok_mX7_isSort rfl (by decide) rfl (Nat.le_of_ble_eq_true rfl) (Nat.le_of_ble_eq_true rfl) (Nat.le_refl _) (Nat.le_refl _) rfl (t_X7_isSort _ _) ?_
                          rintro _ _ ⟨rfl, rfl⟩
                          refine zx_if_ne_t (t := 10) (q := 8) dX7_of_5 (by decide) rfl (zk_t (by show z_in (nI s) 0 (gi 1 0 - 1) = true; rw [L.hs1]; exact z_inS_at L.hns hs)) ?_
                          refine zx_iload_n (q := 11) dX7_of_10 rfl rfl rfl ?_
                          refine zx_iconst (q := 12) (v := 0) dX7_of_11 (by decide) rfl ?_
                          refine zx_iconst (q := 13) (v := 5) dX7_of_12 (by decide) rfl ?_
                          refine zx_callS3i (q := 16) (y' := mX7_within) dX7_of_13 ml_RX7_73 ok_mX7_within (Nat.le_of_ble_eq_true rfl) (Nat.le_of_ble_eq_true rfl) (Nat.le_refl _) (Nat.le_refl _) rfl (t_X7_within _ _ _ _) ?_
                          rintro _ _ ⟨rfl, rfl⟩
                          refine zx_if_eq_t (t := 31) (q := 19) dX7_of_16 (by decide) rfl (zk_f (by decide)) ?_
                          refine zx_iload_n (q := 32) dX7_of_31 rfl rfl rfl ?_
                          refine zx_bipush (q := 34) (v := 7) dX7_of_32 (by decide) rfl ?_
                          refine zx_icmp_eq_f (t := 43) (q := 37) dX7_of_34 (by decide) rfl (by decide) ?_
                          refine zx_iload_n (q := 38) dX7_of_37 rfl rfl rfl ?_
                          refine zx_bipush (q := 40) (v := 8) dX7_of_38 (by decide) rfl ?_
                          refine zx_icmp_ne_t (t := 58) (q := 43) dX7_of_40 (by decide) rfl (by decide) ?_
                          refine zx_aload_n (q := 59) dX7_of_58 rfl rfl rfl ?_
                          refine zx_callV0v (q := 62) (y' := mX7_look) dX7_of_59 ml_RX7_95 ok_mX7_look rfl (by decide) rfl (Nat.le_of_ble_eq_true rfl) (Nat.le_of_ble_eq_true rfl) (Nat.le_refl _) (Nat.le_refl _) rfl (t_X7_look _ L) ?_
                          rintro _ ⟨g1, rfl, k1, s1⟩
                          refine zx_iload_n (q := 63) dX7_of_62 rfl rfl rfl ?_
                          refine zx_bipush (q := 65) (v := 6) dX7_of_63 (by decide) rfl ?_
                          refine zx_icmp_ne_t (t := 78) (q := 68) dX7_of_65 (by decide) rfl (by decide) ?_
                          refine zx_iload_n (q := 79) dX7_of_78 rfl rfl rfl ?_
                          refine zx_bipush (q := 81) (v := 10) dX7_of_79 (by decide) rfl ?_
                          refine zx_isub (q := 82) dX7_of_81 rfl ?_
                          refine zx_callS1i (q := 85) (y' := mX7_isHole) dX7_of_82 ml_RX7_101 ok_mX7_isHole (Nat.le_of_ble_eq_true rfl) (Nat.le_of_ble_eq_true rfl) (Nat.le_refl _) (Nat.le_refl _) rfl (t_X7_isHole _ _) ?_
                          rintro _ _ ⟨rfl, rfl⟩
                          refine zx_if_eq_f (t := 105) (q := 88) dX7_of_85 (by decide) rfl (zk_t (by decide)) ?_
                          refine zx_aload_n (q := 89) dX7_of_88 rfl rfl rfl ?_
                          refine zy_getR (q := 92) dX7_of_89 fl_RX7_42 rfl rfl rfl rfl ?_
                          refine zy_getR (q := 95) dX7_of_92 fl_RX7_104 rfl rfl rfl rfl ?_
                          refine zx_iload_n (q := 96) dX7_of_95 rfl rfl rfl ?_
                          refine zy_aaldN (q := 97) dX7_of_96 rfl (by decide) (by omega) (by decide) (zr_48 (by omega)).1 rfl ?_
                          refine zx_iload_n (q := 98) dX7_of_97 rfl rfl rfl ?_
                          refine zx_bipush (q := 100) (v := 10) dX7_of_98 (by decide) rfl ?_
                          refine zx_isub (q := 101) dX7_of_100 rfl ?_
                          refine zy_ialdN (i := 1) (q := 102) dX7_of_101 (zr_48 (f := f) (by omega)).2 (by omega) (by first | decide | omega) rfl ?_
                          refine zx_goto (t := 106) dX7_of_102 (by decide) ?_
                          refine zx_iret dX7_of_106 rfl (Nat.le_refl _) (Nat.le_refl _) ⟨_, rfl, ?_⟩
                          refine ⟨_, _, _, rfl, ?_⟩
                          show zW l D tc A mX8_of (d + 5) 0 0 0 0 0 [some (.ref 108), some (.int (nI s)), some (.int 11)] [] (zs _ _ _) _
                          refine zx_aload_n (q := 1) dX8_of_0 rfl rfl rfl ?_
                          refine zx_iload_n (q := 2) dX8_of_1 rfl rfl rfl ?_
                          refine zx_callV1i (q := 5) (y' := mX8_isSort) dX8_of_2 ml_RX8_208 ok_mX8_isSort rfl (by decide) rfl (Nat.le_of_ble_eq_true rfl) (Nat.le_of_ble_eq_true rfl) (Nat.le_refl _) (Nat.le_refl _) rfl (t_X8_isSort _ _) ?_
                          rintro _ _ ⟨rfl, rfl⟩
                          refine zx_if_ne_t (t := 10) (q := 8) dX8_of_5 (by decide) rfl (zk_t (by first | (show z_in (nI s) 0 (gi 108 0 - 1) = true; rw [L.hs2]; exact z_inS_at L.hns hs) | (show z_in (nI s) 0 (g1 108 0 - 1) = true; rw [k1 _ _ (by omega), L.hs2]; exact z_inS_at L.hns hs))) ?_
                          refine zx_aload_n (q := 11) dX8_of_10 rfl rfl rfl ?_
                          refine zx_callV0v (q := 14) (y' := mX8_layShows) dX8_of_11 ml_RX8_278 ok_mX8_layShows rfl (by decide) rfl (Nat.le_of_ble_eq_true rfl) (Nat.le_of_ble_eq_true rfl) (Nat.le_refl _) (Nat.le_refl _) rfl (t_X8_layK _ (zLK_fr L (fun k j z => k1 k j (by unfold z_scr at z; omega)) (k1 _ _ (by omega)))) ?_
                          rintro _ ⟨g2, rfl, k2, s2⟩
                          refine zx_aload_n (q := 15) dX8_of_14 rfl rfl rfl ?_
                          refine zx_iload_n (q := 16) dX8_of_15 rfl rfl rfl ?_
                          refine zx_bipush (q := 18) (v := 10) dX8_of_16 (by decide) rfl ?_
                          refine zx_bipush (q := 20) (v := 12) dX8_of_18 (by decide) rfl ?_
                          refine zx_callV3i (q := 23) (y' := mX8_in) dX8_of_20 ml_RX8_200 ok_mX8_in rfl (by decide) rfl (Nat.le_of_ble_eq_true rfl) (Nat.le_of_ble_eq_true rfl) (Nat.le_refl _) (Nat.le_refl _) rfl (t_X8_in _ _ _ _ _) ?_
                          rintro _ _ ⟨rfl, rfl⟩
                          refine zx_if_eq_f (t := 40) (q := 26) dX8_of_23 (by decide) rfl (zk_t (by decide)) ?_
                          refine zx_aload_n (q := 27) dX8_of_26 rfl rfl rfl ?_
                          refine zy_getR (q := 30) dX8_of_27 fl_RX8_96 rfl rfl rfl rfl ?_
                          refine zx_iconst (q := 31) (v := 3) dX8_of_30 (by decide) rfl ?_
                          refine zx_iload_n (q := 32) dX8_of_31 rfl rfl rfl ?_
                          refine zx_imul (q := 33) dX8_of_32 rfl ?_
                          refine zx_iload_n (q := 34) dX8_of_33 rfl rfl rfl ?_
                          refine zx_iadd (q := 35) dX8_of_34 rfl ?_
                          refine zx_bipush (q := 37) (v := 10) dX8_of_35 (by decide) rfl ?_
                          refine zx_isub (q := 38) dX8_of_37 rfl ?_
                          rw [show (3 : Int32) * nI s + 11 - 10 = nI (3 * s + 1) from z_3c s 11 10 (by omega)]
                          refine zy_ialdN (q := 39) dX8_of_38 rfl (by omega) (by first | decide | omega) rfl ?_
                          refine zx_iret dX8_of_39 rfl (Nat.le_refl _) (Nat.le_refl _) ⟨_, rfl, ?_⟩
                          exact ⟨by rw [(s2 s hs).2 1 (by omega), (s1.2.2 s hs).2 1 (by omega), z_sh_cg (fun k j z => k1 k j (by omega)) hs5], _, _, _, rfl, zRel_scr hR (fun k j z => by first | rfl | (rw [k2 _ _ (by unfold z_scr at z; omega), k1 _ _ (by unfold z_scr at z; omega)]) | (rw [k2 _ _ (by unfold z_scr at z; omega)]) | (rw [k1 _ _ (by unfold z_scr at z; omega)]))⟩
                        · by_cases h12 : b = 12
                          · subst h12
                            show zW l D tc A mX7_of (d + 5) 0 0 0 0 0 [some (.ref 0), some (.int (nI s)), some (.int 12)] [] (zs gi gl f) _
                            refine zx_aload_n (q := 1) dX7_of_0 rfl rfl rfl ?_
                            refine zx_iload_n (q := 2) dX7_of_1 rfl rfl rfl ?_
                            refine zx_callV1i (q := 5) (y' := mX7_isSort) dX7_of_2 ml_RX7_89 ok_mX7_isSort rfl (by decide) rfl (Nat.le_of_ble_eq_true rfl) (Nat.le_of_ble_eq_true rfl) (Nat.le_refl _) (Nat.le_refl _) rfl (t_X7_isSort _ _) ?_
                            rintro _ _ ⟨rfl, rfl⟩
                            refine zx_if_ne_t (t := 10) (q := 8) dX7_of_5 (by decide) rfl (zk_t (by show z_in (nI s) 0 (gi 1 0 - 1) = true; rw [L.hs1]; exact z_inS_at L.hns hs)) ?_
                            refine zx_iload_n (q := 11) dX7_of_10 rfl rfl rfl ?_
                            refine zx_iconst (q := 12) (v := 0) dX7_of_11 (by decide) rfl ?_
                            refine zx_iconst (q := 13) (v := 5) dX7_of_12 (by decide) rfl ?_
                            refine zx_callS3i (q := 16) (y' := mX7_within) dX7_of_13 ml_RX7_73 ok_mX7_within (Nat.le_of_ble_eq_true rfl) (Nat.le_of_ble_eq_true rfl) (Nat.le_refl _) (Nat.le_refl _) rfl (t_X7_within _ _ _ _) ?_
                            rintro _ _ ⟨rfl, rfl⟩
                            refine zx_if_eq_t (t := 31) (q := 19) dX7_of_16 (by decide) rfl (zk_f (by decide)) ?_
                            refine zx_iload_n (q := 32) dX7_of_31 rfl rfl rfl ?_
                            refine zx_bipush (q := 34) (v := 7) dX7_of_32 (by decide) rfl ?_
                            refine zx_icmp_eq_f (t := 43) (q := 37) dX7_of_34 (by decide) rfl (by decide) ?_
                            refine zx_iload_n (q := 38) dX7_of_37 rfl rfl rfl ?_
                            refine zx_bipush (q := 40) (v := 8) dX7_of_38 (by decide) rfl ?_
                            refine zx_icmp_ne_t (t := 58) (q := 43) dX7_of_40 (by decide) rfl (by decide) ?_
                            refine zx_aload_n (q := 59) dX7_of_58 rfl rfl rfl ?_
                            refine zx_callV0v (q := 62) (y' := mX7_look) dX7_of_59 ml_RX7_95 ok_mX7_look rfl (by decide) rfl (Nat.le_of_ble_eq_true rfl) (Nat.le_of_ble_eq_true rfl) (Nat.le_refl _) (Nat.le_refl _) rfl (t_X7_look _ L) ?_
                            rintro _ ⟨g1, rfl, k1, s1⟩
                            refine zx_iload_n (q := 63) dX7_of_62 rfl rfl rfl ?_
                            refine zx_bipush (q := 65) (v := 6) dX7_of_63 (by decide) rfl ?_
                            refine zx_icmp_ne_t (t := 78) (q := 68) dX7_of_65 (by decide) rfl (by decide) ?_
                            refine zx_iload_n (q := 79) dX7_of_78 rfl rfl rfl ?_
                            refine zx_bipush (q := 81) (v := 10) dX7_of_79 (by decide) rfl ?_
                            refine zx_isub (q := 82) dX7_of_81 rfl ?_
                            refine zx_callS1i (q := 85) (y' := mX7_isHole) dX7_of_82 ml_RX7_101 ok_mX7_isHole (Nat.le_of_ble_eq_true rfl) (Nat.le_of_ble_eq_true rfl) (Nat.le_refl _) (Nat.le_refl _) rfl (t_X7_isHole _ _) ?_
                            rintro _ _ ⟨rfl, rfl⟩
                            refine zx_if_eq_f (t := 105) (q := 88) dX7_of_85 (by decide) rfl (zk_t (by decide)) ?_
                            refine zx_aload_n (q := 89) dX7_of_88 rfl rfl rfl ?_
                            refine zy_getR (q := 92) dX7_of_89 fl_RX7_42 rfl rfl rfl rfl ?_
                            refine zy_getR (q := 95) dX7_of_92 fl_RX7_104 rfl rfl rfl rfl ?_
                            refine zx_iload_n (q := 96) dX7_of_95 rfl rfl rfl ?_
                            refine zy_aaldN (q := 97) dX7_of_96 rfl (by decide) (by omega) (by decide) (zr_48 (by omega)).1 rfl ?_
                            refine zx_iload_n (q := 98) dX7_of_97 rfl rfl rfl ?_
                            refine zx_bipush (q := 100) (v := 10) dX7_of_98 (by decide) rfl ?_
                            refine zx_isub (q := 101) dX7_of_100 rfl ?_
                            refine zy_ialdN (i := 2) (q := 102) dX7_of_101 (zr_48 (f := f) (by omega)).2 (by omega) (by first | decide | omega) rfl ?_
                            refine zx_goto (t := 106) dX7_of_102 (by decide) ?_
                            refine zx_iret dX7_of_106 rfl (Nat.le_refl _) (Nat.le_refl _) ⟨_, rfl, ?_⟩
                            refine ⟨_, _, _, rfl, ?_⟩
                            show zW l D tc A mX8_of (d + 5) 0 0 0 0 0 [some (.ref 108), some (.int (nI s)), some (.int 12)] [] (zs _ _ _) _
                            refine zx_aload_n (q := 1) dX8_of_0 rfl rfl rfl ?_
                            refine zx_iload_n (q := 2) dX8_of_1 rfl rfl rfl ?_
                            refine zx_callV1i (q := 5) (y' := mX8_isSort) dX8_of_2 ml_RX8_208 ok_mX8_isSort rfl (by decide) rfl (Nat.le_of_ble_eq_true rfl) (Nat.le_of_ble_eq_true rfl) (Nat.le_refl _) (Nat.le_refl _) rfl (t_X8_isSort _ _) ?_
                            rintro _ _ ⟨rfl, rfl⟩
                            refine zx_if_ne_t (t := 10) (q := 8) dX8_of_5 (by decide) rfl (zk_t (by first | (show z_in (nI s) 0 (gi 108 0 - 1) = true; rw [L.hs2]; exact z_inS_at L.hns hs) | (show z_in (nI s) 0 (g1 108 0 - 1) = true; rw [k1 _ _ (by omega), L.hs2]; exact z_inS_at L.hns hs))) ?_
                            refine zx_aload_n (q := 11) dX8_of_10 rfl rfl rfl ?_
                            refine zx_callV0v (q := 14) (y' := mX8_layShows) dX8_of_11 ml_RX8_278 ok_mX8_layShows rfl (by decide) rfl (Nat.le_of_ble_eq_true rfl) (Nat.le_of_ble_eq_true rfl) (Nat.le_refl _) (Nat.le_refl _) rfl (t_X8_layK _ (zLK_fr L (fun k j z => k1 k j (by unfold z_scr at z; omega)) (k1 _ _ (by omega)))) ?_
                            rintro _ ⟨g2, rfl, k2, s2⟩
                            refine zx_aload_n (q := 15) dX8_of_14 rfl rfl rfl ?_
                            refine zx_iload_n (q := 16) dX8_of_15 rfl rfl rfl ?_
                            refine zx_bipush (q := 18) (v := 10) dX8_of_16 (by decide) rfl ?_
                            refine zx_bipush (q := 20) (v := 12) dX8_of_18 (by decide) rfl ?_
                            refine zx_callV3i (q := 23) (y' := mX8_in) dX8_of_20 ml_RX8_200 ok_mX8_in rfl (by decide) rfl (Nat.le_of_ble_eq_true rfl) (Nat.le_of_ble_eq_true rfl) (Nat.le_refl _) (Nat.le_refl _) rfl (t_X8_in _ _ _ _ _) ?_
                            rintro _ _ ⟨rfl, rfl⟩
                            refine zx_if_eq_f (t := 40) (q := 26) dX8_of_23 (by decide) rfl (zk_t (by decide)) ?_
                            refine zx_aload_n (q := 27) dX8_of_26 rfl rfl rfl ?_
                            refine zy_getR (q := 30) dX8_of_27 fl_RX8_96 rfl rfl rfl rfl ?_
                            refine zx_iconst (q := 31) (v := 3) dX8_of_30 (by decide) rfl ?_
                            refine zx_iload_n (q := 32) dX8_of_31 rfl rfl rfl ?_
                            refine zx_imul (q := 33) dX8_of_32 rfl ?_
                            refine zx_iload_n (q := 34) dX8_of_33 rfl rfl rfl ?_
                            refine zx_iadd (q := 35) dX8_of_34 rfl ?_
                            refine zx_bipush (q := 37) (v := 10) dX8_of_35 (by decide) rfl ?_
                            refine zx_isub (q := 38) dX8_of_37 rfl ?_
                            rw [show (3 : Int32) * nI s + 12 - 10 = nI (3 * s + 2) from z_3c s 12 10 (by omega)]
                            refine zy_ialdN (q := 39) dX8_of_38 rfl (by omega) (by first | decide | omega) rfl ?_
                            refine zx_iret dX8_of_39 rfl (Nat.le_refl _) (Nat.le_refl _) ⟨_, rfl, ?_⟩
                            exact ⟨by rw [(s2 s hs).2 2 (by omega), (s1.2.2 s hs).2 2 (by omega), z_sh_cg (fun k j z => k1 k j (by omega)) hs5], _, _, _, rfl, zRel_scr hR (fun k j z => by first | rfl | (rw [k2 _ _ (by unfold z_scr at z; omega), k1 _ _ (by unfold z_scr at z; omega)]) | (rw [k2 _ _ (by unfold z_scr at z; omega)]) | (rw [k1 _ _ (by unfold z_scr at z; omega)]))⟩
                          · show zW l D tc A mX7_of (d + 5) 0 0 0 0 0 [some (.ref 0), some (.int (nI s)), some (.int b)] [] (zs gi gl f) _
                            refine zx_aload_n (q := 1) dX7_of_0 rfl rfl rfl ?_
                            refine zx_iload_n (q := 2) dX7_of_1 rfl rfl rfl ?_
                            refine zx_callV1i (q := 5) (y' := mX7_isSort) dX7_of_2 ml_RX7_89 ok_mX7_isSort rfl (by decide) rfl (Nat.le_of_ble_eq_true rfl) (Nat.le_of_ble_eq_true rfl) (Nat.le_refl _) (Nat.le_refl _) rfl (t_X7_isSort _ _) ?_
                            rintro _ _ ⟨rfl, rfl⟩
                            refine zx_if_ne_t (t := 10) (q := 8) dX7_of_5 (by decide) rfl (zk_t (by show z_in (nI s) 0 (gi 1 0 - 1) = true; rw [L.hs1]; exact z_inS_at L.hns hs)) ?_
                            refine zx_iload_n (q := 11) dX7_of_10 rfl rfl rfl ?_
                            refine zx_iconst (q := 12) (v := 0) dX7_of_11 (by decide) rfl ?_
                            refine zx_iconst (q := 13) (v := 5) dX7_of_12 (by decide) rfl ?_
                            refine zx_callS3i (q := 16) (y' := mX7_within) dX7_of_13 ml_RX7_73 ok_mX7_within (Nat.le_of_ble_eq_true rfl) (Nat.le_of_ble_eq_true rfl) (Nat.le_refl _) (Nat.le_refl _) rfl (t_X7_within _ _ _ _) ?_
                            rintro _ _ ⟨rfl, rfl⟩
                            refine zx_if_eq_t (t := 31) (q := 19) dX7_of_16 (by decide) rfl (zk_f (fun c => by obtain ⟨j, j1, j2, rfl⟩ := z_inR 0 5 (by decide) (by decide) c; rcases (by omega : j = 0 ∨ j = 1 ∨ j = 2 ∨ j = 3 ∨ j = 4 ∨ j = 5) with q | q | q | q | q | q <;> subst q <;> (first | exact h0 rfl | exact h1 rfl | exact h2 rfl | exact h3 rfl | exact h4 rfl | exact h5 rfl | exact h6 rfl | exact h7 rfl | exact h8 rfl | exact h10 rfl | exact h11 rfl | exact h12 rfl))) ?_
                            refine zx_iload_n (q := 32) dX7_of_31 rfl rfl rfl ?_
                            refine zx_bipush (q := 34) (v := 7) dX7_of_32 (by decide) rfl ?_
                            refine zx_icmp_eq_f (t := 43) (q := 37) dX7_of_34 (by decide) rfl (h7) ?_
                            refine zx_iload_n (q := 38) dX7_of_37 rfl rfl rfl ?_
                            refine zx_bipush (q := 40) (v := 8) dX7_of_38 (by decide) rfl ?_
                            refine zx_icmp_ne_t (t := 58) (q := 43) dX7_of_40 (by decide) rfl (h8) ?_
                            refine zx_aload_n (q := 59) dX7_of_58 rfl rfl rfl ?_
                            refine zx_callV0v (q := 62) (y' := mX7_look) dX7_of_59 ml_RX7_95 ok_mX7_look rfl (by decide) rfl (Nat.le_of_ble_eq_true rfl) (Nat.le_of_ble_eq_true rfl) (Nat.le_refl _) (Nat.le_refl _) rfl (t_X7_look _ L) ?_
                            rintro _ ⟨g1, rfl, k1, s1⟩
                            refine zx_iload_n (q := 63) dX7_of_62 rfl rfl rfl ?_
                            refine zx_bipush (q := 65) (v := 6) dX7_of_63 (by decide) rfl ?_
                            refine zx_icmp_ne_t (t := 78) (q := 68) dX7_of_65 (by decide) rfl (h6) ?_
                            refine zx_iload_n (q := 79) dX7_of_78 rfl rfl rfl ?_
                            refine zx_bipush (q := 81) (v := 10) dX7_of_79 (by decide) rfl ?_
                            refine zx_isub (q := 82) dX7_of_81 rfl ?_
                            refine zx_callS1i (q := 85) (y' := mX7_isHole) dX7_of_82 ml_RX7_101 ok_mX7_isHole (Nat.le_of_ble_eq_true rfl) (Nat.le_of_ble_eq_true rfl) (Nat.le_refl _) (Nat.le_refl _) rfl (t_X7_isHole _ _) ?_
                            rintro _ _ ⟨rfl, rfl⟩
                            refine zx_if_eq_t (t := 105) (q := 88) dX7_of_85 (by decide) rfl (zk_f (fun c => by obtain ⟨j, j1, rfl⟩ := z_hole (c := 10) c; rcases (by omega : j = 0 ∨ j = 1 ∨ j = 2) with q | q | q <;> subst q <;> (first | exact h0 rfl | exact h1 rfl | exact h2 rfl | exact h3 rfl | exact h4 rfl | exact h5 rfl | exact h6 rfl | exact h7 rfl | exact h8 rfl | exact h10 rfl | exact h11 rfl | exact h12 rfl))) ?_
                            refine zx_iconst (q := 106) (v := (-1)) dX7_of_105 (by decide) rfl ?_
                            refine zx_iret dX7_of_106 rfl (Nat.le_refl _) (Nat.le_refl _) ⟨_, rfl, ?_⟩
                            refine ⟨_, _, _, rfl, ?_⟩
                            show zW l D tc A mX8_of (d + 5) 0 0 0 0 0 [some (.ref 108), some (.int (nI s)), some (.int b)] [] (zs _ _ _) _
                            refine zx_aload_n (q := 1) dX8_of_0 rfl rfl rfl ?_
                            refine zx_iload_n (q := 2) dX8_of_1 rfl rfl rfl ?_
                            refine zx_callV1i (q := 5) (y' := mX8_isSort) dX8_of_2 ml_RX8_208 ok_mX8_isSort rfl (by decide) rfl (Nat.le_of_ble_eq_true rfl) (Nat.le_of_ble_eq_true rfl) (Nat.le_refl _) (Nat.le_refl _) rfl (t_X8_isSort _ _) ?_
                            rintro _ _ ⟨rfl, rfl⟩
                            refine zx_if_ne_t (t := 10) (q := 8) dX8_of_5 (by decide) rfl (zk_t (by first | (show z_in (nI s) 0 (gi 108 0 - 1) = true; rw [L.hs2]; exact z_inS_at L.hns hs) | (show z_in (nI s) 0 (g1 108 0 - 1) = true; rw [k1 _ _ (by omega), L.hs2]; exact z_inS_at L.hns hs))) ?_
                            refine zx_aload_n (q := 11) dX8_of_10 rfl rfl rfl ?_
                            refine zx_callV0v (q := 14) (y' := mX8_layShows) dX8_of_11 ml_RX8_278 ok_mX8_layShows rfl (by decide) rfl (Nat.le_of_ble_eq_true rfl) (Nat.le_of_ble_eq_true rfl) (Nat.le_refl _) (Nat.le_refl _) rfl (t_X8_layK _ (zLK_fr L (fun k j z => k1 k j (by unfold z_scr at z; omega)) (k1 _ _ (by omega)))) ?_
                            rintro _ ⟨g2, rfl, k2, s2⟩
                            refine zx_aload_n (q := 15) dX8_of_14 rfl rfl rfl ?_
                            refine zx_iload_n (q := 16) dX8_of_15 rfl rfl rfl ?_
                            refine zx_bipush (q := 18) (v := 10) dX8_of_16 (by decide) rfl ?_
                            refine zx_bipush (q := 20) (v := 12) dX8_of_18 (by decide) rfl ?_
                            refine zx_callV3i (q := 23) (y' := mX8_in) dX8_of_20 ml_RX8_200 ok_mX8_in rfl (by decide) rfl (Nat.le_of_ble_eq_true rfl) (Nat.le_of_ble_eq_true rfl) (Nat.le_refl _) (Nat.le_refl _) rfl (t_X8_in _ _ _ _ _) ?_
                            rintro _ _ ⟨rfl, rfl⟩
                            refine zx_if_eq_t (t := 40) (q := 26) dX8_of_23 (by decide) rfl (zk_f (fun c => by obtain ⟨j, j1, j2, rfl⟩ := z_inR 10 12 (by decide) (by decide) c; rcases (by omega : j = 10 ∨ j = 11 ∨ j = 12) with q | q | q <;> subst q <;> (first | exact h0 rfl | exact h1 rfl | exact h2 rfl | exact h3 rfl | exact h4 rfl | exact h5 rfl | exact h6 rfl | exact h7 rfl | exact h8 rfl | exact h10 rfl | exact h11 rfl | exact h12 rfl))) ?_
                            refine zx_aload_n (q := 41) dX8_of_40 rfl rfl rfl ?_
                            refine zx_iload_n (q := 42) dX8_of_41 rfl rfl rfl ?_
                            refine zx_iconst (q := 43) (v := 2) dX8_of_42 (by decide) rfl ?_
                            refine zx_iconst (q := 44) (v := 4) dX8_of_43 (by decide) rfl ?_
                            refine zx_callV3i (q := 47) (y' := mX8_in) dX8_of_44 ml_RX8_200 ok_mX8_in rfl (by decide) rfl (Nat.le_of_ble_eq_true rfl) (Nat.le_of_ble_eq_true rfl) (Nat.le_refl _) (Nat.le_refl _) rfl (t_X8_in _ _ _ _ _) ?_
                            rintro _ _ ⟨rfl, rfl⟩
                            refine zx_if_eq_t (t := 63) (q := 50) dX8_of_47 (by decide) rfl (zk_f (fun c => by obtain ⟨j, j1, j2, rfl⟩ := z_inR 2 4 (by decide) (by decide) c; rcases (by omega : j = 2 ∨ j = 3 ∨ j = 4) with q | q | q <;> subst q <;> (first | exact h0 rfl | exact h1 rfl | exact h2 rfl | exact h3 rfl | exact h4 rfl | exact h5 rfl | exact h6 rfl | exact h7 rfl | exact h8 rfl | exact h10 rfl | exact h11 rfl | exact h12 rfl))) ?_
                            refine zx_iload_n (q := 64) dX8_of_63 rfl rfl rfl ?_
                            refine zx_tblOut (t := 158) dX8_of_64 (by have z0 := lv_neT (a := 0) h0 (by decide); have z1 := lv_neT (a := 1) h1 (by decide); have z2 := lv_neT (a := 2) h2 (by decide); have z3 := lv_neT (a := 3) h3 (by decide); have z4 := lv_neT (a := 4) h4 (by decide); have z5 := lv_neT (a := 5) h5 (by decide); have z6 := lv_neT (a := 6) h6 (by decide); have z7 := lv_neT (a := 7) h7 (by decide); have z8 := lv_neT (a := 8) h8 (by decide); omega) (by decide) ?_
                            refine zx_iconst (q := 159) (v := (-1)) dX8_of_158 (by decide) rfl ?_
                            refine zx_iret dX8_of_159 rfl (Nat.le_refl _) (Nat.le_refl _) ⟨_, rfl, ?_⟩
                            exact ⟨rfl, _, _, _, rfl, zRel_scr hR (fun k j z => by first | rfl | (rw [k2 _ _ (by unfold z_scr at z; omega), k1 _ _ (by unfold z_scr at z; omega)]) | (rw [k2 _ _ (by unfold z_scr at z; omega)]) | (rw [k1 _ _ (by unfold z_scr at z; omega)]))⟩
  · show zW l D tc A mX7_of (d + 5) 0 0 0 0 0 [some (.ref 0), some (.int a), some (.int b)] [] (zs gi gl f) _
    refine zx_aload_n (q := 1) dX7_of_0 rfl rfl rfl ?_
    refine zx_iload_n (q := 2) dX7_of_1 rfl rfl rfl ?_
    refine zx_callV1i (q := 5) (y' := mX7_isSort) dX7_of_2 ml_RX7_89 ok_mX7_isSort rfl (by decide) rfl (Nat.le_of_ble_eq_true rfl) (Nat.le_of_ble_eq_true rfl) (Nat.le_refl _) (Nat.le_refl _) rfl (t_X7_isSort _ _) ?_
    rintro _ _ ⟨rfl, rfl⟩
    refine zx_if_ne_f (t := 10) (q := 8) dX7_of_5 (by decide) rfl (zk_f (by show ¬ z_in a 0 (gi 1 0 - 1) = true; rw [L.hs1]; exact h1)) ?_
    refine zx_iconst (q := 9) (v := (-1)) dX7_of_8 (by decide) rfl ?_
    refine zx_iret dX7_of_9 rfl (Nat.le_refl _) (Nat.le_refl _) ⟨_, rfl, ?_⟩
    refine ⟨_, _, _, rfl, ?_⟩
    show zW l D tc A mX8_of (d + 5) 0 0 0 0 0 [some (.ref 108), some (.int a), some (.int b)] [] (zs _ _ _) _
    refine zx_aload_n (q := 1) dX8_of_0 rfl rfl rfl ?_
    refine zx_iload_n (q := 2) dX8_of_1 rfl rfl rfl ?_
    refine zx_callV1i (q := 5) (y' := mX8_isSort) dX8_of_2 ml_RX8_208 ok_mX8_isSort rfl (by decide) rfl (Nat.le_of_ble_eq_true rfl) (Nat.le_of_ble_eq_true rfl) (Nat.le_refl _) (Nat.le_refl _) rfl (t_X8_isSort _ _) ?_
    rintro _ _ ⟨rfl, rfl⟩
    refine zx_if_ne_f (t := 10) (q := 8) dX8_of_5 (by decide) rfl (zk_f (by show ¬ z_in a 0 (gi 108 0 - 1) = true; rw [L.hs2]; exact h1)) ?_
    refine zx_iconst (q := 9) (v := (-1)) dX8_of_8 (by decide) rfl ?_
    refine zx_iret dX8_of_9 rfl (Nat.le_refl _) (Nat.le_refl _) ⟨_, rfl, ?_⟩
    exact ⟨rfl, _, _, _, rfl, hR⟩
end P35
