/-! looked, hid: the first that is so -/
def z_fst (p : Nat → Bool) : Nat → Nat → Int32
  | 0, _ => -5
  | k + 1, i => if p i = true then nI i else z_fst p k (i + 1)
def z_al (p : Nat → Bool) : Nat → Nat → Bool
  | 0, _ => true
  | k + 1, h => p h && z_al p k (h + 1)
def z_hin (p : Nat → Bool) (s : Nat) (R : Int32) : Nat → Nat → Int32
  | 0, _ => R
  | k + 1, n => if p n = true then nI (100 * s + n) else z_hin p s R k (n + 1)
def z_hou (p : Nat → Nat → Bool) (N : Nat → Nat) (b : Nat) : Nat → Nat → Int32
  | 0, _ => -5
  | k + 1, s => z_hin (p s) s (z_hou p N b k (s + 1)) (N s) b
theorem z_fst_congr {p q : Nat → Bool} : ∀ k i, (∀ j, i ≤ j → j < i + k → p j = q j) → z_fst p k i = z_fst q k i := by
  intro k
  induction k with
  | zero => intro i _; rfl
  | succ k ih => intro i h; rw [z_fst, z_fst, h i (by omega) (by omega), ih (i + 1) (fun j a b => h j (by omega) (by omega))]
theorem z_hin_congr {p q : Nat → Bool} {s : Nat} {R R' : Int32} (hR : R = R') : ∀ k n, (∀ j, n ≤ j → j < n + k → p j = q j) → z_hin p s R k n = z_hin q s R' k n := by
  subst hR
  intro k
  induction k with
  | zero => intro n _; rfl
  | succ k ih => intro n h; rw [z_hin, z_hin, h n (by omega) (by omega), ih (n + 1) (fun j a b => h j (by omega) (by omega))]
theorem z_hou_congr {p q : Nat → Nat → Bool} {N N' : Nat → Nat} {b : Nat} : ∀ k s, (∀ i, s ≤ i → i < s + k → N i = N' i ∧ ∀ j, b ≤ j → j < b + N i → p i j = q i j) → z_hou p N b k s = z_hou q N' b k s := by
  intro k
  induction k with
  | zero => intro s _; rfl
  | succ k ih =>
    intro s h
    obtain ⟨h1, h2⟩ := h s (by omega) (by omega)
    rw [z_hou, z_hou, ← h1]
    exact z_hin_congr (ih (s + 1) (fun i a c => h i (by omega) (by omega))) _ _ (fun j a c => h2 j a c)
theorem z_neg_iff {x : Int32} (h : z_rg (-1) 999 x) : x < 0 ↔ x = -1 := by
  rw [Int32.lt_iff_toInt_lt, z_eqI, z_m1]
  unfold z_rg at h
  have : (0 : Int32).toInt = 0 := by decide
  omega
theorem zSM_cg {g gi g2 : Nat → Nat → Int32} {ns m : Nat} (h : zSM g2 (z_sh g m) (z_ow g m) ns) (hns : ns ≤ 5) (e : ∀ k j, (1 ≤ k ∧ k ≤ 19) ∨ (66 ≤ k ∧ k ≤ 95) → g k j = gi k j) : zSM g2 (z_sh gi m) (z_ow gi m) ns := by
  intro s hs
  rw [← z_ow_cg e (by omega)]
  refine ⟨(h s hs).1, fun j hj => ?_⟩
  rw [← z_sh_cg e (by omega)]
  exact (h s hs).2 j hj
/-- the hole of a row of the book -/
def z_bh (gi : Nat → Nat → Int32) (k : Nat) : Nat := (gi 18 k).toNatClampNeg
def z_bp (gi : Nat → Nat → Int32) (m ns k : Nat) : Bool := decide (¬ gi 19 k = nI (z_ct gi m ns 0 (z_bh gi k)))
theorem z_bk {gi : Nat → Nat → Int32} (h : zSTb gi 1 133 134) {k : Nat} (hk : k < 12) : z_bh gi k < 3 ∧ gi 18 k = nI (z_bh gi k) ∧ gi 133 k = nI (z_bh gi k) ∧ gi 134 k = gi 19 k := by
  obtain ⟨g1, g2, g3, g4⟩ := h k hk
  rw [show 1 + 17 = 18 from rfl] at g1
  rw [show 1 + 18 = 19 from rfl] at g3
  obtain ⟨n, hn, en⟩ := z_rgN (n := 2) g2
  have e : z_bh gi k = n := by unfold z_bh; rw [g1, en, nI_clamp (by omega)]
  rw [e]
  exact ⟨by omega, by rw [g1, en], en, g3.symm⟩
/-- left out n of the sort s, does the hole h show what is told -/
def z_wp (gi : Nat → Nat → Int32) (m ns n : Nat) (x : Nat → Int32) (h : Nat) : Bool := decide (gi 17 h = -1) || decide (gi 17 h = nI (z_ct gi m ns 0 h) - nI n * x h)
section P37
variable {l : Launch} {D : va_G} {tc : Nat → ClassId} {A : Nat → Prop} {S : zw_S} {gi : Nat → Nat → Int32} {gl : Nat → Nat → Int64} {f : Option Nat}
theorem lp_X7_looked (d : Nat) {ns m mo : Nat} {g : Nat → Nat → Int32} (L : zLK gi ns m) {nb : Nat} (hnb : nb ≤ 12) (hb : gi 1 6 = nI nb) (hB : zSTb gi 1 133 134) (e : (∀ k j, ¬ (47 ≤ k ∧ k ≤ 55) → g k j = gi k j)) (hg : zSG g ns mo (z_sh gi m) (z_ow gi m) ns) : ∀ (k i : Nat), i + k = nb → zW l D tc A mX7_looked (d + 1) 0 0 0 0 6 [some (.ref 0), some (.int (nI i))] [] (zs g gl f) (zQi fun r S' => r = z_fst (z_bp gi m ns) k i ∧ S' = zs g gl f) := by
  intro k
  induction k using Nat.strongRecOn with
  | _ k ih =>
    intro i hi
    refine zx_iload_n (q := 7) dX7_looked_6 rfl rfl rfl ?_
    refine zx_aload_n (q := 8) dX7_looked_7 rfl rfl rfl ?_
    refine zy_getR (q := 11) dX7_looked_8 fl_RX7_12 rfl rfl rfl rfl ?_
    refine zy_getIe (q := 14) (v := nI nb) dX7_looked_11 fl_RX7_227 rfl rfl ((e _ _ (by omega)).trans hb) rfl ?_
    refine zx_icmp_ge (q := 17) (t := 62) dX7_looked_14 (by decide) rfl (fun c_14 => ?_) (fun c_14 => ?_)
    · have hs2 : i = nb := by have := z_ge (x := nI (nb)) rfl (by omega) c_14; omega
      have hk0 : k = 0 := by omega
      subst hk0
      refine zx_bipush (q := 64) (v := (-5)) dX7_looked_62 (by decide) rfl ?_
      refine zx_iret dX7_looked_64 rfl (Nat.le_refl _) (Nat.le_refl _) ⟨_, rfl, ?_⟩
      exact ⟨rfl, rfl⟩
    · have hs2 : i < nb := z_lt (x := nI (nb)) rfl (by omega) c_14
      obtain ⟨k, rfl⟩ : ∃ q, k = q + 1 := ⟨k - 1, by omega⟩
      refine zx_aload_n (q := 18) dX7_looked_17 rfl rfl rfl ?_
      refine zy_getR (q := 21) dX7_looked_18 fl_RX7_12 rfl rfl rfl rfl ?_
      refine zy_getR (q := 24) dX7_looked_21 fl_RX7_233 rfl rfl rfl rfl ?_
      refine zx_iload_n (q := 25) dX7_looked_24 rfl rfl rfl ?_
      refine zy_ialdN (q := 26) dX7_looked_25 rfl (by omega) (by first | decide | omega) rfl ?_
      refine zx_aload_n (q := 27) dX7_looked_26 rfl rfl rfl ?_
      refine zy_getR (q := 30) dX7_looked_27 fl_RX7_42 rfl rfl rfl rfl ?_
      refine zx_aload_n (q := 31) dX7_looked_30 rfl rfl rfl ?_
      refine zy_getR (q := 34) dX7_looked_31 fl_RX7_12 rfl rfl rfl rfl ?_
      refine zy_getR (q := 37) dX7_looked_34 fl_RX7_92 rfl rfl rfl rfl ?_
      refine zx_iconst (q := 38) (v := 0) dX7_looked_37 (by decide) rfl ?_
      refine zy_aaldN (i := 0) (q := 39) dX7_looked_38 rfl (by decide) (by omega) (by decide) rfl rfl ?_
      refine zx_aload_n (q := 40) dX7_looked_39 rfl rfl rfl ?_
      refine zy_getR (q := 43) dX7_looked_40 fl_RX7_12 rfl rfl rfl rfl ?_
      refine zy_getR (q := 46) dX7_looked_43 fl_RX7_230 rfl rfl rfl rfl ?_
      refine zx_iload_n (q := 47) dX7_looked_46 rfl rfl rfl ?_
      refine zy_ialdN (q := 48) dX7_looked_47 rfl (by omega) (by first | decide | omega) rfl ?_
      rw [e 18 _ (by omega), (z_bk hB (k := i) (by omega)).2.1, e 19 _ (by omega)]
      refine zx_callV2i (q := 51) (y' := mX4_total) dX7_looked_48 ml_RX7_144 ok_mX4_total rfl (by decide) rfl (Nat.le_of_ble_eq_true rfl) (Nat.le_of_ble_eq_true rfl) (Nat.le_refl _) (Nat.le_refl _) rfl (t_totalL _ 0 _ L (by omega) (z_bk hB (k := i) (by omega)).1 (fun s => e _ _ (by omega)) hg) ?_
      rintro _ _ ⟨rfl, rfl⟩
      refine zx_icmp_eq (q := 54) (t := 56) dX7_looked_51 (by decide) rfl (fun c_51 => ?_) (fun c_51 => ?_)
      · refine zx_iinc1 (q := 59) dX7_looked_56 rfl rfl ?_
        refine zx_goto (t := 6) dX7_looked_59 (by decide) ?_
        rw [z_inc, z_fst, if_neg (by unfold z_bp; simpa using c_51)]
        exact ih k (by omega) (i + 1) (by omega)
      · refine zx_iload_n (q := 55) dX7_looked_54 rfl rfl rfl ?_
        refine zx_iret dX7_looked_55 rfl (Nat.le_refl _) (Nat.le_refl _) ⟨_, rfl, ?_⟩
        exact ⟨by rw [z_fst, if_pos (by unfold z_bp; exact decide_eq_true c_51)], rfl⟩
theorem lp_X8_looked (d : Nat) {ns m : Nat} {g : Nat → Nat → Int32} (L : zLK gi ns m) {nb : Nat} (hnb : nb ≤ 12) (hb : gi 108 38 = nI nb) (hB : zSTb gi 1 133 134) (e : (∀ k j, ¬ (47 ≤ k ∧ k ≤ 55) → ¬ (126 ≤ k ∧ k ≤ 128) → g k j = gi k j)) (hg : zSM g (z_sh gi m) (z_ow gi m) ns) : ∀ (k i : Nat), i + k = nb → zW l D tc A mX8_looked (d + 1) 0 0 0 0 6 [some (.ref 108), some (.int (nI i))] [] (zs g gl f) (zQi fun r S' => r = z_fst (z_bp gi m ns) k i ∧ S' = zs g gl f) := by
  intro k
  induction k using Nat.strongRecOn with
  | _ k ih =>
    intro i hi
    refine zx_iload_n (q := 7) dX8_looked_6 rfl rfl rfl ?_
    refine zx_aload_n (q := 8) dX8_looked_7 rfl rfl rfl ?_
    refine zy_getIe (q := 11) (v := nI nb) dX8_looked_8 fl_RX8_126 rfl rfl ((e _ _ (by omega) (by omega)).trans hb) rfl ?_
    refine zx_icmp_ge (q := 14) (t := 41) dX8_looked_11 (by decide) rfl (fun c_11 => ?_) (fun c_11 => ?_)
    · have hs2 : i = nb := by have := z_ge (x := nI (nb)) rfl (by omega) c_11; omega
      have hk0 : k = 0 := by omega
      subst hk0
      refine zx_bipush (q := 43) (v := (-5)) dX8_looked_41 (by decide) rfl ?_
      refine zx_iret dX8_looked_43 rfl (Nat.le_refl _) (Nat.le_refl _) ⟨_, rfl, ?_⟩
      exact ⟨rfl, rfl⟩
    · have hs2 : i < nb := z_lt (x := nI (nb)) rfl (by omega) c_11
      obtain ⟨k, rfl⟩ : ∃ q, k = q + 1 := ⟨k - 1, by omega⟩
      refine zx_aload_n (q := 15) dX8_looked_14 rfl rfl rfl ?_
      refine zx_aload_n (q := 16) dX8_looked_15 rfl rfl rfl ?_
      refine zy_getR (q := 19) dX8_looked_16 fl_RX8_129 rfl rfl rfl rfl ?_
      refine zx_iload_n (q := 20) dX8_looked_19 rfl rfl rfl ?_
      refine zy_ialdN (q := 21) dX8_looked_20 rfl (by omega) (by first | decide | omega) rfl ?_
      rw [e 133 _ (by omega) (by omega), (z_bk hB (k := i) (by omega)).2.2.1]
      refine zx_callV1i (q := 24) (y' := mX8_ownCount) dX8_looked_21 ml_RX8_281 ok_mX8_ownCount rfl (by decide) rfl (Nat.le_of_ble_eq_true rfl) (Nat.le_of_ble_eq_true rfl) (Nat.le_refl _) (Nat.le_refl _) rfl (t_ownL _ _ L (z_bk hB (k := i) (by omega)).1 (by rw [e _ _ (by omega) (by omega)]; exact L.hs2) (fun s => e _ _ (by omega) (by omega)) hg) ?_
      rintro _ _ ⟨rfl, rfl⟩
      refine zx_aload_n (q := 25) dX8_looked_24 rfl rfl rfl ?_
      refine zy_getR (q := 28) dX8_looked_25 fl_RX8_132 rfl rfl rfl rfl ?_
      refine zx_iload_n (q := 29) dX8_looked_28 rfl rfl rfl ?_
      refine zy_ialdN (q := 30) dX8_looked_29 rfl (by omega) (by first | decide | omega) rfl ?_
      rw [e 134 _ (by omega) (by omega), (z_bk hB (k := i) (by omega)).2.2.2]
      refine zx_icmp_eq (q := 33) (t := 35) dX8_looked_30 (by decide) rfl (fun c_30 => ?_) (fun c_30 => ?_)
      · refine zx_iinc1 (q := 38) dX8_looked_35 rfl rfl ?_
        refine zx_goto (t := 6) dX8_looked_38 (by decide) ?_
        rw [z_inc, z_fst, if_neg (by unfold z_bp; simpa using c_30.symm)]
        exact ih k (by omega) (i + 1) (by omega)
      · refine zx_iload_n (q := 34) dX8_looked_33 rfl rfl rfl ?_
        refine zx_iret dX8_looked_34 rfl (Nat.le_refl _) (Nat.le_refl _) ⟨_, rfl, ?_⟩
        exact ⟨by rw [z_fst, if_pos (by unfold z_bp; exact decide_eq_true (fun z => c_30 z.symm))], rfl⟩
set_option maxHeartbeats 4000000 in
theorem op_looked (d : Nat)  (hR : zRel gi gl) : zOpI l D tc A mX7_looked mX8_looked (d + 5) [] gi gl f := by
  obtain ⟨nf, ⟨hf0, hf1, hf2⟩, ⟨ns, nb, mm, ⟨hns, hnb, hmm⟩, ⟨hs1, hs2⟩, ⟨hm1, hm2⟩, ⟨hb1, hb2⟩, ⟨hx1, hx2⟩, hSs, hSn, hSt, hSb⟩, ⟨him, hik⟩, ⟨len, hlen, ht1, ht2, ht3⟩, ⟨ra, hra, ha1, ha2, ha3⟩, hTP, ho, hF, hLt⟩ := id hR
  obtain ⟨n2, m, L⟩ := zLK_of hR
  show zW l D tc A mX7_looked (d + 5) 0 0 0 0 0 [some (.ref 0), none] [] (zs gi gl f) _
  refine zx_aload_n (q := 1) dX7_looked_0 rfl rfl rfl ?_
  refine zx_callV0v (q := 4) (y' := mX7_look) dX7_looked_1 ml_RX7_95 ok_mX7_look rfl (by decide) rfl (Nat.le_of_ble_eq_true rfl) (Nat.le_of_ble_eq_true rfl) (Nat.le_refl _) (Nat.le_refl _) rfl (t_X7_look _ L) ?_
  rintro _ ⟨g1, rfl, k1, s1⟩
  refine zx_iconst (q := 5) (v := 0) dX7_looked_4 (by decide) rfl ?_
  refine zx_istore1 (q := 6) dX7_looked_5 rfl rfl ?_
  refine zW.mono (lp_X7_looked (d + 4) L hnb hb1 hSb k1 s1 nb 0 (by omega)) ?_
  rintro _ _ ⟨r, rfl, rfl, rfl⟩
  refine ⟨_, rfl, _, _, _, rfl, ?_⟩
  show zW l D tc A mX8_looked (d + 5) 0 0 0 0 0 [some (.ref 108), none] [] (zs _ _ _) _
  refine zx_aload_n (q := 1) dX8_looked_0 rfl rfl rfl ?_
  refine zx_callV0v (q := 4) (y' := mX8_layShows) dX8_looked_1 ml_RX8_278 ok_mX8_layShows rfl (by decide) rfl (Nat.le_of_ble_eq_true rfl) (Nat.le_of_ble_eq_true rfl) (Nat.le_refl _) (Nat.le_refl _) rfl (t_X8_layK _ (zLK_fr L (fun k j z => k1 k j (by unfold z_scr at z; omega)) (k1 _ _ (by omega)))) ?_
  rintro _ ⟨g2, rfl, k2, s2⟩
  have s2 := zSM_cg s2 L.hns (fun k j z => k1 k j (by omega))
  have k2 : ∀ k j, ¬ (47 ≤ k ∧ k ≤ 55) → ¬ (126 ≤ k ∧ k ≤ 128) → g2 k j = gi k j := fun k j a b => (k2 k j b).trans (k1 k j a)
  refine zx_iconst (q := 5) (v := 0) dX8_looked_4 (by decide) rfl ?_
  refine zx_istore1 (q := 6) dX8_looked_5 rfl rfl ?_
  refine zW.mono (lp_X8_looked (d + 4) L hnb hb2 hSb k2 s2 nb 0 (by omega)) ?_
  rintro _ _ ⟨r, rfl, rfl, rfl⟩
  exact ⟨_, rfl, rfl, _, _, _, rfl, zRel_scr hR (fun k j z => k2 k j (by unfold z_scr at z; omega) (by unfold z_scr at z; omega))⟩
theorem lp_X7_itw (d : Nat) {ns m mo : Nat} {g : Nat → Nat → Int32} (L : zLK gi ns m) (s n : Nat) (x : Nat → Int32) (hs5 : s < 5) (hx : ∀ h, h < 3 → g (49 + s) h = x h) (e : (∀ k j, ¬ (47 ≤ k ∧ k ≤ 55) → g k j = gi k j)) (hg : zSG g ns mo (z_sh gi m) (z_ow gi m) ns) : ∀ (k h : Nat) (w : Option Value), h + k = 3 → zW l D tc A mX7_isToldWithout (d + 1) 0 0 0 0 2 [some (.ref 0), some (.int (nI s)), some (.int (nI n)), some (.int (nI h)), w] [] (zs g gl f) (zQi fun r S' => r = zb (z_al (z_wp gi m ns n x) k h) ∧ S' = zs g gl f) := by
  intro k
  induction k using Nat.strongRecOn with
  | _ k ih =>
    intro h w hh
    refine zx_iload_n (q := 3) dX7_isToldWithout_2 rfl rfl rfl ?_
    refine zx_iconst (q := 4) (v := 3) dX7_isToldWithout_3 (by decide) rfl ?_
    refine zx_icmp_ge (q := 7) (t := 75) dX7_isToldWithout_4 (by decide) rfl (fun c_4 => ?_) (fun c_4 => ?_)
    · have hs2 : h = 3 := by have := z_ge (x := nI (3)) rfl (by omega) c_4; omega
      have hk0 : k = 0 := by omega
      subst hk0
      refine zx_iconst (q := 76) (v := 1) dX7_isToldWithout_75 (by decide) rfl ?_
      refine zx_zret dX7_isToldWithout_76 rfl (by first | rfl | exact zb_nar _) (Nat.le_refl _) (Nat.le_refl _) ⟨_, rfl, ?_⟩
      exact ⟨rfl, rfl⟩
    · have hs2 : h < 3 := z_lt (x := nI (3)) rfl (by omega) c_4
      obtain ⟨k, rfl⟩ : ∃ q, k = q + 1 := ⟨k - 1, by omega⟩
      refine zx_aload_n (q := 8) dX7_isToldWithout_7 rfl rfl rfl ?_
      refine zy_getR (q := 11) dX7_isToldWithout_8 fl_RX7_42 rfl rfl rfl rfl ?_
      refine zx_aload_n (q := 12) dX7_isToldWithout_11 rfl rfl rfl ?_
      refine zy_getR (q := 15) dX7_isToldWithout_12 fl_RX7_12 rfl rfl rfl rfl ?_
      refine zy_getR (q := 18) dX7_isToldWithout_15 fl_RX7_92 rfl rfl rfl rfl ?_
      refine zx_iconst (q := 19) (v := 0) dX7_isToldWithout_18 (by decide) rfl ?_
      refine zy_aaldN (i := 0) (q := 20) dX7_isToldWithout_19 rfl (by decide) (by omega) (by decide) rfl rfl ?_
      refine zx_iload_n (q := 21) dX7_isToldWithout_20 rfl rfl rfl ?_
      refine zx_callV2i (q := 24) (y' := mX4_total) dX7_isToldWithout_21 ml_RX7_144 ok_mX4_total rfl (by decide) rfl (Nat.le_of_ble_eq_true rfl) (Nat.le_of_ble_eq_true rfl) (Nat.le_refl _) (Nat.le_refl _) rfl (t_totalL _ 0 h L (by omega) (by omega) (fun s => e _ _ (by omega)) hg) ?_
      rintro _ _ ⟨rfl, rfl⟩
      refine zx_iload_n (q := 25) dX7_isToldWithout_24 rfl rfl rfl ?_
      refine zx_aload_n (q := 26) dX7_isToldWithout_25 rfl rfl rfl ?_
      refine zy_getR (q := 29) dX7_isToldWithout_26 fl_RX7_42 rfl rfl rfl rfl ?_
      refine zy_getR (q := 32) dX7_isToldWithout_29 fl_RX7_104 rfl rfl rfl rfl ?_
      refine zx_iload_n (q := 33) dX7_isToldWithout_32 rfl rfl rfl ?_
      refine zy_aaldN (q := 34) dX7_isToldWithout_33 rfl (by decide) (by omega) (by decide) (zr_48 (by omega)).1 rfl ?_
      refine zx_iload_n (q := 35) dX7_isToldWithout_34 rfl rfl rfl ?_
      refine zy_ialdN (q := 36) dX7_isToldWithout_35 (zr_48 (f := f) (by omega)).2 (by omega) (by first | decide | omega) rfl ?_
      rw [hx h (by omega)]
      refine zx_imul (q := 37) dX7_isToldWithout_36 rfl ?_
      refine zx_isub (q := 38) dX7_isToldWithout_37 rfl ?_
      refine zx_istore4 (q := 40) dX7_isToldWithout_38 rfl rfl ?_
      refine zx_aload_n (q := 41) dX7_isToldWithout_40 rfl rfl rfl ?_
      refine zy_getR (q := 44) dX7_isToldWithout_41 fl_RX7_12 rfl rfl rfl rfl ?_
      refine zy_getR (q := 47) dX7_isToldWithout_44 fl_RX7_113 rfl rfl rfl rfl ?_
      refine zx_iload_n (q := 48) dX7_isToldWithout_47 rfl rfl rfl ?_
      refine zy_ialdN (q := 49) dX7_isToldWithout_48 rfl (by omega) (by first | decide | omega) rfl ?_
      rw [e 17 _ (by omega)]
      refine zx_iconst (q := 50) (v := (-1)) dX7_isToldWithout_49 (by decide) rfl ?_
      refine zx_icmp_eq (q := 53) (t := 69) dX7_isToldWithout_50 (by decide) rfl (fun c_50 => ?_) (fun c_50 => ?_)
      · refine zx_iinc3 (q := 72) dX7_isToldWithout_69 rfl rfl ?_
        refine zx_goto (t := 2) dX7_isToldWithout_72 (by decide) ?_
        rw [z_inc, z_al, show z_wp gi m ns n x h = true from by simp_all [z_wp], Bool.true_and]
        exact ih k (by omega) (h + 1) _ (by omega)
      · refine zx_aload_n (q := 54) dX7_isToldWithout_53 rfl rfl rfl ?_
        refine zy_getR (q := 57) dX7_isToldWithout_54 fl_RX7_12 rfl rfl rfl rfl ?_
        refine zy_getR (q := 60) dX7_isToldWithout_57 fl_RX7_113 rfl rfl rfl rfl ?_
        refine zx_iload_n (q := 61) dX7_isToldWithout_60 rfl rfl rfl ?_
        refine zy_ialdN (q := 62) dX7_isToldWithout_61 rfl (by omega) (by first | decide | omega) rfl ?_
        rw [e 17 _ (by omega)]
        refine zx_iload (q := 64) dX7_isToldWithout_62 rfl rfl ?_
        refine zx_icmp_eq (q := 67) (t := 69) dX7_isToldWithout_64 (by decide) rfl (fun c_64 => ?_) (fun c_64 => ?_)
        · refine zx_iinc3 (q := 72) dX7_isToldWithout_69 rfl rfl ?_
          refine zx_goto (t := 2) dX7_isToldWithout_72 (by decide) ?_
          rw [z_inc, z_al, show z_wp gi m ns n x h = true from by simp_all [z_wp], Bool.true_and]
          exact ih k (by omega) (h + 1) _ (by omega)
        · refine zx_iconst (q := 68) (v := 0) dX7_isToldWithout_67 (by decide) rfl ?_
          refine zx_zret dX7_isToldWithout_68 rfl (by first | rfl | exact zb_nar _) (Nat.le_refl _) (Nat.le_refl _) ⟨_, rfl, ?_⟩
          exact ⟨by rw [z_al, show z_wp gi m ns n x h = false from by simp [z_wp, c_50, c_64]]; rfl, rfl⟩
theorem t_X7_itw (d : Nat) {ns m mo : Nat} {g : Nat → Nat → Int32} (L : zLK gi ns m) (s n : Nat) (x : Nat → Int32) (hs5 : s < 5) (hx : ∀ h, h < 3 → g (49 + s) h = x h) (e : (∀ k j, ¬ (47 ≤ k ∧ k ≤ 55) → g k j = gi k j)) (hg : zSG g ns mo (z_sh gi m) (z_ow gi m) ns) : zCall l D tc A mX7_isToldWithout (d + 1) 0 0 [.ref 0, .int (nI s), .int (nI n)] (zs g gl f) (zQi fun r S' => r = zb (z_al (z_wp gi m ns n x) 3 0) ∧ S' = zs g gl f) := by
  show zW l D tc A mX7_isToldWithout (d + 1) 0 0 0 0 0 [some (.ref 0), some (.int (nI s)), some (.int (nI n)), none, none] [] (zs g gl f) _
  refine zx_iconst (q := 1) (v := 0) dX7_isToldWithout_0 (by decide) rfl ?_
  refine zx_istore3 (q := 2) dX7_isToldWithout_1 rfl rfl ?_
  exact lp_X7_itw d L s n x hs5 hx e hg 3 0 none (by omega)
theorem lp_X8_isW (d : Nat) {ns m : Nat} {g : Nat → Nat → Int32} (L : zLK gi ns m) (s n : Nat) (hs : s < ns) (hT : zSTt gi 1 116) (e : (∀ k j, ¬ (47 ≤ k ∧ k ≤ 55) → ¬ (126 ≤ k ∧ k ≤ 128) → g k j = gi k j)) (hg : zSM g (z_sh gi m) (z_ow gi m) ns) : ∀ (k h : Nat), h + k = 3 → zW l D tc A mX8_isWithout (d + 1) 0 0 0 0 2 [some (.ref 108), some (.int (nI s)), some (.int (nI n)), some (.int (nI h))] [] (zs g gl f) (zQi fun r S' => r = zb (z_al (z_wp gi m ns n (fun h => nI (z_sh gi m s h))) k h) ∧ S' = zs g gl f) := by
  intro k
  induction k using Nat.strongRecOn with
  | _ k ih =>
    intro h hh
    have hns := L.hns
    refine zx_iload_n (q := 3) dX8_isWithout_2 rfl rfl rfl ?_
    refine zx_iconst (q := 4) (v := 3) dX8_isWithout_3 (by decide) rfl ?_
    refine zx_icmp_ge (q := 7) (t := 51) dX8_isWithout_4 (by decide) rfl (fun c_4 => ?_) (fun c_4 => ?_)
    · have hs2 : h = 3 := by have := z_ge (x := nI (3)) rfl (by omega) c_4; omega
      have hk0 : k = 0 := by omega
      subst hk0
      refine zx_iconst (q := 52) (v := 1) dX8_isWithout_51 (by decide) rfl ?_
      refine zx_zret dX8_isWithout_52 rfl (by first | rfl | exact zb_nar _) (Nat.le_refl _) (Nat.le_refl _) ⟨_, rfl, ?_⟩
      exact ⟨rfl, rfl⟩
    · have hs2 : h < 3 := z_lt (x := nI (3)) rfl (by omega) c_4
      obtain ⟨k, rfl⟩ : ∃ q, k = q + 1 := ⟨k - 1, by omega⟩
      refine zx_aload_n (q := 8) dX8_isWithout_7 rfl rfl rfl ?_
      refine zy_getR (q := 11) dX8_isWithout_8 fl_RX8_38 rfl rfl rfl rfl ?_
      refine zx_iload_n (q := 12) dX8_isWithout_11 rfl rfl rfl ?_
      refine zy_ialdN (q := 13) dX8_isWithout_12 rfl (by omega) (by first | decide | omega) rfl ?_
      rw [e 116 _ (by omega) (by omega), ← (hT h (by omega)).1]
      refine zx_if_lt (q := 16) (t := 45) dX8_isWithout_13 (by decide) rfl (fun c_13 => ?_) (fun c_13 => ?_)
      · have hm1 : gi 17 h = -1 := (z_neg_iff (by rw [show gi 17 h = gi 116 h from (hT h (by omega)).1]; exact (hT h (by omega)).2)).mp c_13
        refine zx_iinc3 (q := 48) dX8_isWithout_45 rfl rfl ?_
        refine zx_goto (t := 2) dX8_isWithout_48 (by decide) ?_
        rw [z_inc, z_al, show z_wp gi m ns n (fun h => nI (z_sh gi m s h)) h = true from by first | (simp [z_wp, hm1]; done) | (simp [z_wp, c_40.symm]; done) | (simp [z_wp, ← c_40]; done), Bool.true_and]
        exact ih k (by omega) (h + 1) (by omega)
      · have hm1 : ¬ gi 17 h = -1 := fun z => c_13 ((z_neg_iff (by rw [show gi 17 h = gi 116 h from (hT h (by omega)).1]; exact (hT h (by omega)).2)).mpr z)
        refine zx_aload_n (q := 17) dX8_isWithout_16 rfl rfl rfl ?_
        refine zx_iload_n (q := 18) dX8_isWithout_17 rfl rfl rfl ?_
        refine zx_callV1i (q := 21) (y' := mX8_ownCount) dX8_isWithout_18 ml_RX8_281 ok_mX8_ownCount rfl (by decide) rfl (Nat.le_of_ble_eq_true rfl) (Nat.le_of_ble_eq_true rfl) (Nat.le_refl _) (Nat.le_refl _) rfl (t_ownL _ h L (by omega) (by rw [e _ _ (by omega) (by omega)]; exact L.hs2) (fun s => e _ _ (by omega) (by omega)) hg) ?_
        rintro _ _ ⟨rfl, rfl⟩
        refine zx_iload_n (q := 22) dX8_isWithout_21 rfl rfl rfl ?_
        refine zx_aload_n (q := 23) dX8_isWithout_22 rfl rfl rfl ?_
        refine zy_getR (q := 26) dX8_isWithout_23 fl_RX8_96 rfl rfl rfl rfl ?_
        refine zx_iconst (q := 27) (v := 3) dX8_isWithout_26 (by decide) rfl ?_
        refine zx_iload_n (q := 28) dX8_isWithout_27 rfl rfl rfl ?_
        refine zx_imul (q := 29) dX8_isWithout_28 rfl ?_
        refine zx_iload_n (q := 30) dX8_isWithout_29 rfl rfl rfl ?_
        refine zx_iadd (q := 31) dX8_isWithout_30 rfl ?_
        rw [z_3]
        refine zy_ialdN (q := 32) dX8_isWithout_31 rfl (by omega) (by first | decide | omega) rfl ?_
        rw [(hg s hs).2 h (by omega)]
        refine zx_imul (q := 33) dX8_isWithout_32 rfl ?_
        refine zx_isub (q := 34) dX8_isWithout_33 rfl ?_
        refine zx_aload_n (q := 35) dX8_isWithout_34 rfl rfl rfl ?_
        refine zy_getR (q := 38) dX8_isWithout_35 fl_RX8_38 rfl rfl rfl rfl ?_
        refine zx_iload_n (q := 39) dX8_isWithout_38 rfl rfl rfl ?_
        refine zy_ialdN (q := 40) dX8_isWithout_39 rfl (by omega) (by first | decide | omega) rfl ?_
        rw [e 116 _ (by omega) (by omega), ← (hT h (by omega)).1]
        refine zx_icmp_eq (q := 43) (t := 45) dX8_isWithout_40 (by decide) rfl (fun c_40 => ?_) (fun c_40 => ?_)
        · refine zx_iinc3 (q := 48) dX8_isWithout_45 rfl rfl ?_
          refine zx_goto (t := 2) dX8_isWithout_48 (by decide) ?_
          rw [z_inc, z_al, show z_wp gi m ns n (fun h => nI (z_sh gi m s h)) h = true from by first | (simp [z_wp, hm1]; done) | (simp [z_wp, c_40.symm]; done) | (simp [z_wp, ← c_40]; done), Bool.true_and]
          exact ih k (by omega) (h + 1) (by omega)
        · refine zx_iconst (q := 44) (v := 0) dX8_isWithout_43 (by decide) rfl ?_
          refine zx_zret dX8_isWithout_44 rfl (by first | rfl | exact zb_nar _) (Nat.le_refl _) (Nat.le_refl _) ⟨_, rfl, ?_⟩
          exact ⟨by rw [z_al, show z_wp gi m ns n (fun h => nI (z_sh gi m s h)) h = false from by simp only [z_wp, Bool.or_eq_false_iff, decide_eq_false_iff_not]; exact ⟨hm1, fun z => c_40 z.symm⟩]; rfl, rfl⟩
theorem t_X8_isW (d : Nat) {ns m : Nat} {g : Nat → Nat → Int32} (L : zLK gi ns m) (s n : Nat) (hs : s < ns) (hT : zSTt gi 1 116) (e : (∀ k j, ¬ (47 ≤ k ∧ k ≤ 55) → ¬ (126 ≤ k ∧ k ≤ 128) → g k j = gi k j)) (hg : zSM g (z_sh gi m) (z_ow gi m) ns) : zCall l D tc A mX8_isWithout (d + 1) 0 0 [.ref 108, .int (nI s), .int (nI n)] (zs g gl f) (zQi fun r S' => r = zb (z_al (z_wp gi m ns n (fun h => nI (z_sh gi m s h))) 3 0) ∧ S' = zs g gl f) := by
  show zW l D tc A mX8_isWithout (d + 1) 0 0 0 0 0 [some (.ref 108), some (.int (nI s)), some (.int (nI n)), none] [] (zs g gl f) _
  refine zx_iconst (q := 1) (v := 0) dX8_isWithout_0 (by decide) rfl ?_
  refine zx_istore3 (q := 2) dX8_isWithout_1 rfl rfl ?_
  exact lp_X8_isW d L s n hs hT e hg 3 0 (by omega)
/-- hid -/
def z_hp (gi : Nat → Nat → Int32) (m ns s n : Nat) : Bool := z_al (z_wp gi m ns n (fun h => nI (z_sh gi m s h))) 3 0
theorem lp_C_hidI (d : Nat) {ns m mo : Nat} {g : Nat → Nat → Int32} (L : zLK gi ns m) (s : Nat) (hs : s < ns) (e : (∀ k j, ¬ (47 ≤ k ∧ k ≤ 55) → g k j = gi k j)) (hg : zSG g ns mo (z_sh gi m) (z_ow gi m) ns) (R : Int32) (kk : ∀ n : Nat, zW l D tc A mX7_hid (d + 2) 0 0 0 0 56 [some (.ref 0), some (.int (nI s)), some (.int (nI n))] [] (zs g gl f) (zQi fun r S' => r = R ∧ S' = zs g gl f)) : ∀ (k n : Nat), n + k = z_hd gi 0 s + 1 → zW l D tc A mX7_hid (d + 2) 0 0 0 0 19 [some (.ref 0), some (.int (nI s)), some (.int (nI n))] [] (zs g gl f) (zQi fun r S' => r = z_hin (z_hp gi m ns s) s R k n ∧ S' = zs g gl f) := by
  intro k
  induction k using Nat.strongRecOn with
  | _ k ih =>
    intro n hn
    have hns := L.hns
    have hd12 := (z_hd0 L hs).1
    refine zx_iload_n (q := 20) dX7_hid_19 rfl rfl rfl ?_
    refine zx_aload_n (q := 21) dX7_hid_20 rfl rfl rfl ?_
    refine zy_getR (q := 24) dX7_hid_21 fl_RX7_12 rfl rfl rfl rfl ?_
    refine zy_getR (q := 27) dX7_hid_24 fl_RX7_92 rfl rfl rfl rfl ?_
    refine zx_iconst (q := 28) (v := 0) dX7_hid_27 (by decide) rfl ?_
    refine zy_aaldN (i := 0) (q := 29) dX7_hid_28 rfl (by decide) (by omega) (by decide) rfl rfl ?_
    refine zx_iload_n (q := 30) dX7_hid_29 rfl rfl rfl ?_
    refine zy_ialdN (q := 31) dX7_hid_30 rfl (by omega) (by first | decide | omega) rfl ?_
    rw [e 15 _ (by omega), (z_hd0 L hs).2.1]
    refine zx_icmp_gt (q := 34) (t := 56) dX7_hid_31 (by decide) rfl (fun c_31 => ?_) (fun c_31 => ?_)
    · have hk0 : k = 0 := by rw [nI_ltI (by omega) (by omega)] at c_31; omega
      subst hk0
      exact kk n
    · have hk1 : n ≤ z_hd gi 0 s := by rw [nI_ltI (by omega) (by omega)] at c_31; omega
      obtain ⟨k, rfl⟩ : ∃ q, k = q + 1 := ⟨k - 1, by omega⟩
      refine zx_aload_n (q := 35) dX7_hid_34 rfl rfl rfl ?_
      refine zx_iload_n (q := 36) dX7_hid_35 rfl rfl rfl ?_
      refine zx_iload_n (q := 37) dX7_hid_36 rfl rfl rfl ?_
      refine zx_callV2i (q := 40) (y' := mX7_isToldWithout) dX7_hid_37 ml_RX7_205 ok_mX7_isToldWithout rfl (by decide) rfl (Nat.le_of_ble_eq_true rfl) (Nat.le_of_ble_eq_true rfl) (Nat.le_refl _) (Nat.le_refl _) rfl (t_X7_itw d L s n (fun h => nI (z_sh gi m s h)) (by omega) (fun h hh => (hg.2.2 s hs).2 h hh) e hg) ?_
      rintro _ _ ⟨rfl, rfl⟩
      refine zx_if_eq (q := 43) (t := 50) dX7_hid_40 (by decide) rfl (fun c_40 => ?_) (fun c_40 => ?_)
      · refine zx_iinc2 (q := 53) dX7_hid_50 rfl rfl ?_
        refine zx_goto (t := 19) dX7_hid_53 (by decide) ?_
        rw [z_inc, z_hin, if_neg (show ¬ z_hp gi m ns s n = true from by rw [zb_z] at c_40; unfold z_hp; rw [c_40]; decide)]
        exact ih k (by omega) (n + 1) (by omega)
      · refine zx_bipush (q := 45) (v := 100) dX7_hid_43 (by decide) rfl ?_
        refine zx_iload_n (q := 46) dX7_hid_45 rfl rfl rfl ?_
        refine zx_imul (q := 47) dX7_hid_46 rfl ?_
        refine zx_iload_n (q := 48) dX7_hid_47 rfl rfl rfl ?_
        refine zx_iadd (q := 49) dX7_hid_48 rfl ?_
        refine zx_iret dX7_hid_49 rfl (Nat.le_refl _) (Nat.le_refl _) ⟨_, rfl, ?_⟩
        rw [zb_nz] at c_40
        exact ⟨by rw [z_hin, if_pos (show z_hp gi m ns s n = true from c_40), show (100 : Int32) = nI 100 from rfl, z_mul, nI_add], rfl⟩
theorem lp_C_hid (d : Nat) {ns m mo : Nat} {g : Nat → Nat → Int32} (L : zLK gi ns m) (e : (∀ k j, ¬ (47 ≤ k ∧ k ≤ 55) → g k j = gi k j)) (hg : zSG g ns mo (z_sh gi m) (z_ow gi m) ns) : ∀ (k s : Nat) (w : Option Value), s + k = ns → zW l D tc A mX7_hid (d + 2) 0 0 0 0 6 [some (.ref 0), some (.int (nI s)), w] [] (zs g gl f) (zQi fun r S' => r = z_hou (z_hp gi m ns) (z_hd gi 0) 1 k s ∧ S' = zs g gl f) := by
  intro k
  induction k using Nat.strongRecOn with
  | _ k ih =>
    intro s w hs
    have hns := L.hns
    refine zx_iload_n (q := 7) dX7_hid_6 rfl rfl rfl ?_
    refine zx_aload_n (q := 8) dX7_hid_7 rfl rfl rfl ?_
    refine zy_getR (q := 11) dX7_hid_8 fl_RX7_12 rfl rfl rfl rfl ?_
    refine zy_getIe (q := 14) (v := nI ns) dX7_hid_11 fl_RX7_81 rfl rfl ((e _ _ (by omega)).trans L.hs1) rfl ?_
    refine zx_icmp_ge (q := 17) (t := 62) dX7_hid_14 (by decide) rfl (fun c_14 => ?_) (fun c_14 => ?_)
    · have hs2 : s = ns := by have := z_ge (x := nI (ns)) rfl (by omega) c_14; omega
      have hk0 : k = 0 := by omega
      subst hk0
      refine zx_bipush (q := 64) (v := (-5)) dX7_hid_62 (by decide) rfl ?_
      refine zx_iret dX7_hid_64 rfl (Nat.le_refl _) (Nat.le_refl _) ⟨_, rfl, ?_⟩
      exact ⟨rfl, rfl⟩
    · have hs2 : s < ns := z_lt (x := nI (ns)) rfl (by omega) c_14
      obtain ⟨k, rfl⟩ : ∃ q, k = q + 1 := ⟨k - 1, by omega⟩
      refine zx_iconst (q := 18) (v := 1) dX7_hid_17 (by decide) rfl ?_
      refine zx_istore2 (q := 19) dX7_hid_18 rfl rfl ?_
      rw [z_hou]
      refine lp_C_hidI d L s hs2 e hg _ (fun n => ?_) (z_hd gi 0 s) 1 (by omega)
      refine zx_iinc1 (q := 59) dX7_hid_56 rfl rfl ?_
      refine zx_goto (t := 6) dX7_hid_59 (by decide) ?_
      rw [z_inc]
      exact ih k (by omega) (s + 1) _ (by omega)
theorem lp_M_hidI (d : Nat) {ns m : Nat} {g : Nat → Nat → Int32} (L : zLK gi ns m) (s : Nat) (hs : s < ns) (e : (∀ k j, ¬ (47 ≤ k ∧ k ≤ 55) → ¬ (126 ≤ k ∧ k ≤ 128) → g k j = gi k j)) (hg : zSM g (z_sh gi m) (z_ow gi m) ns) (R : Int32) (kk : ∀ n : Nat, zW l D tc A mX8_hid (d + 2) 0 0 0 0 48 [some (.ref 108), some (.int (nI s)), some (.int (nI n))] [] (zs g gl f) (zQi fun r S' => r = R ∧ S' = zs g gl f)) : ∀ (k n : Nat), n + k = z_hd gi 0 s + 1 → zW l D tc A mX8_hid (d + 2) 0 0 0 0 16 [some (.ref 108), some (.int (nI s)), some (.int (nI n))] [] (zs g gl f) (zQi fun r S' => r = z_hin (z_hp gi m ns s) s R k n ∧ S' = zs g gl f) := by
  intro k
  induction k using Nat.strongRecOn with
  | _ k ih =>
    intro n hn
    have hns := L.hns
    have hd12 := (z_hd0 L hs).1
    refine zx_iload_n (q := 17) dX8_hid_16 rfl rfl rfl ?_
    refine zx_aload_n (q := 18) dX8_hid_17 rfl rfl rfl ?_
    refine zy_getR (q := 21) dX8_hid_18 fl_RX8_29 rfl rfl rfl rfl ?_
    refine zx_iload_n (q := 22) dX8_hid_21 rfl rfl rfl ?_
    refine zy_ialdN (q := 23) dX8_hid_22 rfl (by omega) (by first | decide | omega) rfl ?_
    rw [e 113 _ (by omega) (by omega), (z_hd0 L hs).2.2]
    refine zx_icmp_gt (q := 26) (t := 48) dX8_hid_23 (by decide) rfl (fun c_23 => ?_) (fun c_23 => ?_)
    · have hk0 : k = 0 := by rw [nI_ltI (by omega) (by omega)] at c_23; omega
      subst hk0
      exact kk n
    · have hk1 : n ≤ z_hd gi 0 s := by rw [nI_ltI (by omega) (by omega)] at c_23; omega
      obtain ⟨k, rfl⟩ : ∃ q, k = q + 1 := ⟨k - 1, by omega⟩
      refine zx_aload_n (q := 27) dX8_hid_26 rfl rfl rfl ?_
      refine zx_iload_n (q := 28) dX8_hid_27 rfl rfl rfl ?_
      refine zx_iload_n (q := 29) dX8_hid_28 rfl rfl rfl ?_
      refine zx_callV2i (q := 32) (y' := mX8_isWithout) dX8_hid_29 ml_RX8_333 ok_mX8_isWithout rfl (by decide) rfl (Nat.le_of_ble_eq_true rfl) (Nat.le_of_ble_eq_true rfl) (Nat.le_refl _) (Nat.le_refl _) rfl (t_X8_isW d L s n hs L.hT e hg) ?_
      rintro _ _ ⟨rfl, rfl⟩
      refine zx_if_eq (q := 35) (t := 42) dX8_hid_32 (by decide) rfl (fun c_32 => ?_) (fun c_32 => ?_)
      · refine zx_iinc2 (q := 45) dX8_hid_42 rfl rfl ?_
        refine zx_goto (t := 16) dX8_hid_45 (by decide) ?_
        rw [z_inc, z_hin, if_neg (show ¬ z_hp gi m ns s n = true from by rw [zb_z] at c_32; unfold z_hp; rw [c_32]; decide)]
        exact ih k (by omega) (n + 1) (by omega)
      · refine zx_bipush (q := 37) (v := 100) dX8_hid_35 (by decide) rfl ?_
        refine zx_iload_n (q := 38) dX8_hid_37 rfl rfl rfl ?_
        refine zx_imul (q := 39) dX8_hid_38 rfl ?_
        refine zx_iload_n (q := 40) dX8_hid_39 rfl rfl rfl ?_
        refine zx_iadd (q := 41) dX8_hid_40 rfl ?_
        refine zx_iret dX8_hid_41 rfl (Nat.le_refl _) (Nat.le_refl _) ⟨_, rfl, ?_⟩
        rw [zb_nz] at c_32
        exact ⟨by rw [z_hin, if_pos (show z_hp gi m ns s n = true from c_32), show (100 : Int32) = nI 100 from rfl, z_mul, nI_add], rfl⟩
theorem lp_M_hid (d : Nat) {ns m : Nat} {g : Nat → Nat → Int32} (L : zLK gi ns m) (e : (∀ k j, ¬ (47 ≤ k ∧ k ≤ 55) → ¬ (126 ≤ k ∧ k ≤ 128) → g k j = gi k j)) (hg : zSM g (z_sh gi m) (z_ow gi m) ns) : ∀ (k s : Nat) (w : Option Value), s + k = ns → zW l D tc A mX8_hid (d + 2) 0 0 0 0 6 [some (.ref 108), some (.int (nI s)), w] [] (zs g gl f) (zQi fun r S' => r = z_hou (z_hp gi m ns) (z_hd gi 0) 1 k s ∧ S' = zs g gl f) := by
  intro k
  induction k using Nat.strongRecOn with
  | _ k ih =>
    intro s w hs
    have hns := L.hns
    refine zx_iload_n (q := 7) dX8_hid_6 rfl rfl rfl ?_
    refine zx_aload_n (q := 8) dX8_hid_7 rfl rfl rfl ?_
    refine zy_getIe (q := 11) (v := nI ns) dX8_hid_8 fl_RX8_7 rfl rfl ((e _ _ (by omega) (by omega)).trans L.hs2) rfl ?_
    refine zx_icmp_ge (q := 14) (t := 54) dX8_hid_11 (by decide) rfl (fun c_11 => ?_) (fun c_11 => ?_)
    · have hs2 : s = ns := by have := z_ge (x := nI (ns)) rfl (by omega) c_11; omega
      have hk0 : k = 0 := by omega
      subst hk0
      refine zx_bipush (q := 56) (v := (-5)) dX8_hid_54 (by decide) rfl ?_
      refine zx_iret dX8_hid_56 rfl (Nat.le_refl _) (Nat.le_refl _) ⟨_, rfl, ?_⟩
      exact ⟨rfl, rfl⟩
    · have hs2 : s < ns := z_lt (x := nI (ns)) rfl (by omega) c_11
      obtain ⟨k, rfl⟩ : ∃ q, k = q + 1 := ⟨k - 1, by omega⟩
      refine zx_iconst (q := 15) (v := 1) dX8_hid_14 (by decide) rfl ?_
      refine zx_istore2 (q := 16) dX8_hid_15 rfl rfl ?_
      rw [z_hou]
      refine lp_M_hidI d L s hs2 e hg _ (fun n => ?_) (z_hd gi 0 s) 1 (by omega)
      refine zx_iinc1 (q := 51) dX8_hid_48 rfl rfl ?_
      refine zx_goto (t := 6) dX8_hid_51 (by decide) ?_
      rw [z_inc]
      exact ih k (by omega) (s + 1) _ (by omega)
set_option maxHeartbeats 4000000 in
theorem op_hid (d : Nat)  (hR : zRel gi gl) : zOpI l D tc A mX7_hid mX8_hid (d + 5) [] gi gl f := by
  obtain ⟨ns, m, L⟩ := zLK_of hR
  show zW l D tc A mX7_hid (d + 5) 0 0 0 0 0 [some (.ref 0), none, none] [] (zs gi gl f) _
  refine zx_aload_n (q := 1) dX7_hid_0 rfl rfl rfl ?_
  refine zx_callV0v (q := 4) (y' := mX7_look) dX7_hid_1 ml_RX7_95 ok_mX7_look rfl (by decide) rfl (Nat.le_of_ble_eq_true rfl) (Nat.le_of_ble_eq_true rfl) (Nat.le_refl _) (Nat.le_refl _) rfl (t_X7_look _ L) ?_
  rintro _ ⟨g1, rfl, k1, s1⟩
  refine zx_iconst (q := 5) (v := 0) dX7_hid_4 (by decide) rfl ?_
  refine zx_istore1 (q := 6) dX7_hid_5 rfl rfl ?_
  refine zW.mono (lp_C_hid (d + 3) L k1 s1 ns 0 _ (by omega)) ?_
  rintro _ _ ⟨r, rfl, rfl, rfl⟩
  refine ⟨_, rfl, _, _, _, rfl, ?_⟩
  show zW l D tc A mX8_hid (d + 5) 0 0 0 0 0 [some (.ref 108), none, none] [] (zs _ _ _) _
  refine zx_aload_n (q := 1) dX8_hid_0 rfl rfl rfl ?_
  refine zx_callV0v (q := 4) (y' := mX8_layShows) dX8_hid_1 ml_RX8_278 ok_mX8_layShows rfl (by decide) rfl (Nat.le_of_ble_eq_true rfl) (Nat.le_of_ble_eq_true rfl) (Nat.le_refl _) (Nat.le_refl _) rfl (t_X8_layK _ (zLK_fr L (fun k j z => k1 k j (by unfold z_scr at z; omega)) (k1 _ _ (by omega)))) ?_
  rintro _ ⟨g2, rfl, k2, s2⟩
  have s2 := zSM_cg s2 L.hns (fun k j z => k1 k j (by omega))
  have k2 : ∀ k j, ¬ (47 ≤ k ∧ k ≤ 55) → ¬ (126 ≤ k ∧ k ≤ 128) → g2 k j = gi k j := fun k j a b => (k2 k j b).trans (k1 k j a)
  refine zx_iconst (q := 5) (v := 0) dX8_hid_4 (by decide) rfl ?_
  refine zx_istore1 (q := 6) dX8_hid_5 rfl rfl ?_
  refine zW.mono (lp_M_hid (d + 3) L k2 s2 ns 0 _ (by omega)) ?_
  rintro _ _ ⟨r, rfl, rfl, rfl⟩
  exact ⟨_, rfl, rfl, _, _, _, rfl, zRel_scr hR (fun k j z => k2 k j (by unfold z_scr at z; omega) (by unfold z_scr at z; omega))⟩
end P37
