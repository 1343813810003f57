/-! the reference's loops over all herds -/
def zMB (g : Nat → Nat → Int32) (a : z_A) : Prop := 0 < a.1 → g 108 35 = nI a.2.1 ∧ ∀ s, s < 5 → g 130 s = nI (a.2.2.2.1 s)
def z_o5 : Option Nat → Int32
  | none => -5
  | some v => nI v
theorem z_o5_neg {o : Option Nat} (h : ∀ v, o = some v → v < 2 ^ 31) : z_o5 o < 0 ↔ o = none := by
  cases o with
  | none => exact ⟨fun _ => rfl, fun _ => by decide⟩
  | some v => exact ⟨fun z => absurd z (nI_pos (h v rfl)), fun z => by cases z⟩
section P43
variable {l : Launch} {D : va_G} {tc : Nat → ClassId} {A : Nat → Prop} {S : zw_S} {gi : Nat → Nat → Int32} {gl : Nat → Nat → Int64} {f : Option Nat}
/-- nothing else than the search's own cells differs -/
def zLF (g0 g : Nat → Nat → Int32) : Prop := ∀ k j, ¬ ((129 ≤ k ∧ k ≤ 131) ∨ (k = 108 ∧ 33 ≤ j ∧ j ≤ 36)) → g k j = g0 k j
theorem zLF_q {g0 g : Nat → Nat → Int32} (e0 : zFq gi g0) (e : zLF g0 g) : zFq gi g := fun k j a b => (e k j (by unfold z_scr at a; omega)).trans (e0 k j a b)
theorem zLF_w {g0 g : Nat → Nat → Int32} {wc : Nat} {w : Nat → Option Nat} (hc : wc = 116 ∨ wc = 132) (h : z_wt g0 wc w) (e : zLF g0 g) : z_wt g wc w := fun i hi => ⟨by rw [e _ _ (by omega)]; exact (h i hi).1, (h i hi).2⟩
theorem zLF_s {g0 g : Nat → Nat → Int32} {sh : Nat → Nat → Nat} {ow : Nat → Nat} {n : Nat} (h : zSM g0 sh ow n) (e : zLF g0 g) : zSM g sh ow n := zSM_fr h (fun k j z => e k j (by omega))
theorem lp_X8_layFits (d : Nat) {ns m : Nat} {g0 : Nat → Nat → Int32} (L : zLK gi ns m) (e0 : zFq gi g0) (hg : zSM g0 (z_sh gi m) (z_ow gi m) ns) {w : Nat → Option Nat} (hw : z_wt g0 116 w) : ∀ (n : Nat) (r : Nat → Nat) (b : Nat) (a : z_A) (g1 : Nat → Nat → Int32), z_rk ns (z_most gi) r ns = n → a.1 + n + 1 ≤ 40000 → b = z_sN ns r → b ≤ (z_most gi) → zMS g1 r b → zMA g1 a → z_aok ns a → zLF g0 g1 → zW l D tc A mX8_layFits (d + 5) 0 0 0 0 35 [some (.ref 108), some (.int 1)] [] (zs g1 gl f) (zQv fun S' => ∃ g2, S' = zs g2 gl f ∧ zMA g2 (z_fd (z_most gi) ns w (z_sh gi m) (z_ow gi m) r b a) ∧ zLF g0 g2) := by
  intro n
  induction n using Nat.strongRecOn with
  | _ n ih =>
    intro r b a g1 hn ha1 hb hbM hC hA hok e
    have hns := L.hns
    have hn8 : g1 108 0 = nI ns := (zFq_M L (zLF_q e0 e)).2.2.2.1
    have hM9 := z_most_le gi
    have hTb : z_tn ns (z_ow gi m) r ≤ 20000 := Nat.le_trans (z_tn_le (M := 18) (B := 1089) (by omega) (fun s hs => z_ow_le L hs)) (by decide)
    have hrb : ∀ s, s < ns → r s ≤ 18 := fun s hs => by have := z_sN_ge (r := r) ns s hs; omega
    have h50 : ∀ (g3 : Nat → Nat → Int32) (a3 : z_A), a3 = (if z_fit w (z_cn ns (z_sh gi m) r) = true then z_kp (z_tn ns (z_ow gi m)) r a else a) → zMS g3 r b → zMA g3 a3 → z_aok ns a3 → a3.1 ≤ a.1 + 1 → zLF g0 g3 → zW l D tc A mX8_layFits (d + 5) 0 0 0 0 50 [some (.ref 108), some (.int 1)] [] (zs g3 gl f) (zQv fun S' => ∃ g2, S' = zs g2 gl f ∧ zMA g2 (z_fd (z_most gi) ns w (z_sh gi m) (z_ow gi m) r b a) ∧ zLF g0 g2) := by
      intro g3 a3 ha3 hC3 hA3 hok3 hle e3
      have hn83 : g3 108 0 = nI ns := (zFq_M L (zLF_q e0 e3)).2.2.2.1
      refine zx_aload_n (q := 51) dX8_layFits_50 rfl rfl rfl ?_
      refine zx_aload_n (q := 52) dX8_layFits_51 rfl rfl rfl ?_
      refine zx_callV0i (q := 55) (y' := mX8_mostNow) dX8_layFits_52 ml_RX8_287 ok_mX8_mostNow rfl (by decide) rfl (Nat.le_of_ble_eq_true rfl) (Nat.le_of_ble_eq_true rfl) (Nat.le_refl _) (Nat.le_refl _) rfl (t_X8_mostF _ L (zLF_q e0 e3)) ?_
      rintro _ _ ⟨rfl, rfl⟩
      refine zx_callV1i (q := 58) (y' := mX8_nextHerd) dX8_layFits_55 ml_RX8_311 ok_mX8_nextHerd rfl (by decide) rfl (Nat.le_of_ble_eq_true rfl) (Nat.le_of_ble_eq_true rfl) (Nat.le_refl _) (Nat.le_refl _) rfl (t_X8_next _ (z_most gi) hns hn83 (by omega) hC3 hb (by omega)) ?_
      rintro _ _ ⟨rfl, g4, rfl, hv, e4⟩
      refine zx_istore1 (q := 59) dX8_layFits_58 rfl rfl ?_
      refine zx_goto (t := 35) dX8_layFits_59 (by decide) ?_
      have e5 : zLF g0 g4 := fun k j z => (e4 k j (by omega)).trans (e3 k j z)
      have hA4 : zMA g4 a3 := zMA_fr hA3 (fun k j z => e4 k j (by omega))
      cases hx : z_nx (z_most gi) ns r b with
      | none =>
        rw [show z_fd (z_most gi) ns w (z_sh gi m) (z_ow gi m) r b a = _ from z_go_none hx, ← ha3]
        refine zx_iload_n (q := 36) dX8_layFits_35 rfl rfl rfl ?_
        refine zx_if_eq_t (t := 62) (q := 39) dX8_layFits_36 (by decide) rfl (rfl) ?_
        refine zx_vret dX8_layFits_62 rfl (Nat.le_refl _) (Nat.le_refl _) ⟨rfl, ?_⟩
        exact ⟨g4, rfl, hA4, e5⟩
      | some q =>
        obtain ⟨j1, j2, j3⟩ := z_nx_dn (r' := q.1) (b' := q.2) hx hb hbM
        rw [show zb (Option.isSome (some q)) = 1 from rfl]
        rw [show z_fd (z_most gi) ns w (z_sh gi m) (z_ow gi m) r b a = _ from z_go_some (r' := q.1) (b' := q.2) hx hb hbM, ← ha3]
        exact ih (z_rk ns (z_most gi) q.1 ns) (by omega) q.1 q.2 a3 g4 rfl (by omega) j1 j2 (hv q.1 q.2 hx) hA4 hok3 e5
    refine zx_iload_n (q := 36) dX8_layFits_35 rfl rfl rfl ?_
    refine zx_if_eq_f (t := 62) (q := 39) dX8_layFits_36 (by decide) rfl (by decide) ?_
    refine zx_aload_n (q := 40) dX8_layFits_39 rfl rfl rfl ?_
    refine zx_callV0i (q := 43) (y' := mX8_fitsNow) dX8_layFits_40 ml_RX8_305 ok_mX8_fitsNow rfl (by decide) rfl (Nat.le_of_ble_eq_true rfl) (Nat.le_of_ble_eq_true rfl) (Nat.le_refl _) (Nat.le_refl _) rfl (t_X8_fits _ hns (zLF_s hg e) hn8 hC (zLF_w (Or.inl rfl) hw e) (fun h hh => Nat.le_trans (z_cn_le (M := 18) (B := 1998) (by omega) (fun s hs => z_sh_le L hs hh)) (by decide))) ?_
    rintro _ _ ⟨rfl, rfl⟩
    refine zx_if_eq (q := 46) (t := 50) dX8_layFits_43 (by decide) rfl (fun c_43 => ?_) (fun c_43 => ?_)
    · have hfit : ¬ z_fit w (z_cn ns (z_sh gi m) r) = true := by rw [zb_z] at c_43; rw [c_43]; decide
      first
        | (have hfx : ¬ z_fit w (z_cn ns (z_sh gi m) r) = true := hfit; exact h50 g1 a (by rw [if_neg hfit]) hC hA hok (by omega) e)
        | exact h50 g3 _ (by rw [if_pos hfit]) (zMS_fr hC (fun k j z => e3 k j (by omega))) hA3 (z_aok_kp hok (by omega) hTb hrb) (Nat.le_refl _) (fun k j z => (e3 k j (by omega)).trans (e k j z))
    · have hfit : z_fit w (z_cn ns (z_sh gi m) r) = true := (zb_nz _).mp c_43
      refine zx_aload_n (q := 47) dX8_layFits_46 rfl rfl rfl ?_
      refine zx_callV0v (q := 50) (y' := mX8_takeNow) dX8_layFits_47 ml_RX8_308 ok_mX8_takeNow rfl (by decide) rfl (Nat.le_of_ble_eq_true rfl) (Nat.le_of_ble_eq_true rfl) (Nat.le_refl _) (Nat.le_refl _) rfl (t_X8_take _ hns (zLF_s hg e) hn8 hC hA hok hTb) ?_
      rintro _ ⟨g3, rfl, hA3, e3⟩
      first
        | (have hfx : ¬ z_fit w (z_cn ns (z_sh gi m) r) = true := hfit; exact h50 g1 a (by rw [if_neg hfit]) hC hA hok (by omega) e)
        | exact h50 g3 _ (by rw [if_pos hfit]) (zMS_fr hC (fun k j z => e3 k j (by omega))) hA3 (z_aok_kp hok (by omega) hTb hrb) (Nat.le_refl _) (fun k j z => (e3 k j (by omega)).trans (e k j z))
theorem lp_X8_lf0 (d : Nat) {g : Nat → Nat → Int32} {Q : Option Value → zw_S → Prop} (kk : ∀ (g1 : Nat → Nat → Int32), (∀ k j, ¬ k = 131 → g1 k j = g k j) → (∀ i, i < 5 → g1 131 i = 0) → zW l D tc A mX8_layFits d 0 0 0 0 29 [some (.ref 108), some (.int (nI 5))] [] (zs g1 gl f) Q) : ∀ (k s : Nat) (g1 : Nat → Nat → Int32), s + k = 5 → (∀ k j, ¬ k = 131 → g1 k j = g k j) → (∀ i, i < s → g1 131 i = 0) →
    zW l D tc A mX8_layFits d 0 0 0 0 11 [some (.ref 108), some (.int (nI s))] [] (zs g1 gl f) Q := by
  intro k
  induction k using Nat.strongRecOn with
  | _ k ih =>
    intro s g1 hs e hd
    refine zx_iload_n (q := 12) dX8_layFits_11 rfl rfl rfl ?_
    refine zx_iconst (q := 13) (v := 5) dX8_layFits_12 (by decide) rfl ?_
    refine zx_icmp_ge (q := 16) (t := 29) dX8_layFits_13 (by decide) rfl (fun c_13 => ?_) (fun c_13 => ?_)
    · have hs2 : s = 5 := by have := z_ge (x := nI 5) rfl (by omega) c_13; omega
      subst hs2
      exact kk g1 e hd
    · have hs2 : s < 5 := z_lt (x := nI (5)) rfl (by omega) c_13
      obtain ⟨k, rfl⟩ : ∃ q, k = q + 1 := ⟨k - 1, by omega⟩
      refine zx_aload_n (q := 17) dX8_layFits_16 rfl rfl rfl ?_
      refine zy_getR (q := 20) dX8_layFits_17 fl_RX8_108 rfl rfl rfl rfl ?_
      refine zx_iload_n (q := 21) dX8_layFits_20 rfl rfl rfl ?_
      refine zx_iconst (q := 22) (v := 0) dX8_layFits_21 (by decide) rfl ?_
      refine zy_iastN (q := 23) dX8_layFits_22 rfl (by omega) (by first | decide | omega) rfl ?_
      refine zx_iinc1 (q := 26) dX8_layFits_23 rfl rfl ?_
      refine zx_goto (t := 11) dX8_layFits_26 (by decide) ?_
      rw [z_inc]
      refine ih k (by omega) (s + 1) _ (by omega) ?_ ?_
      · intro k j z; rw [z_u_ne _ _ (by omega)]; exact e k j z
      · intro i hi
        by_cases c : i = s
        · subst c; rw [z_u_at]
        · rw [z_u_ne _ _ (by omega)]; exact hd i (by omega)
theorem t_X8_layFits (d : Nat) {ns m : Nat} {g : Nat → Nat → Int32} (L : zLK gi ns m) (e : zFq gi g) {w : Nat → Option Nat} (hw : z_wt g 116 w) : zCall l D tc A mX8_layFits (d + 5) 0 0 [.ref 108] (zs g gl f) (zQv fun S' => ∃ g2, S' = zs g2 gl f ∧ zMA g2 (z_fd (z_most gi) ns w (z_sh gi m) (z_ow gi m) (fun _ => 0) 0 z_A0) ∧ zSM g2 (z_sh gi m) (z_ow gi m) ns ∧ ∀ k j, ¬ z_scr k j → g2 k j = g k j) := by
  show zW l D tc A mX8_layFits (d + 5) 0 0 0 0 0 [some (.ref 108), none] [] (zs g gl f) _
  refine zx_aload_n (q := 1) dX8_layFits_0 rfl rfl rfl ?_
  refine zx_callV0v (q := 4) (y' := mX8_layShows) dX8_layFits_1 ml_RX8_278 ok_mX8_layShows rfl (by decide) rfl (Nat.le_of_ble_eq_true rfl) (Nat.le_of_ble_eq_true rfl) (Nat.le_refl _) (Nat.le_refl _) rfl (t_X8_layF _ L e) ?_
  rintro _ ⟨g2, rfl, e2, h2⟩
  refine zx_aload_n (q := 5) dX8_layFits_4 rfl rfl rfl ?_
  refine zx_iconst (q := 6) (v := 0) dX8_layFits_5 (by decide) rfl ?_
  refine zy_putI (q := 9) dX8_layFits_6 fl_RX8_114 rfl rfl ⟨rfl, rfl⟩ rfl rfl ?_
  refine zx_iconst (q := 10) (v := 0) dX8_layFits_9 (by decide) rfl ?_
  refine zx_istore1 (q := 11) dX8_layFits_10 rfl rfl ?_
  refine lp_X8_lf0 (d + 5) (fun g3 e3 h3 => ?_) 5 0 _ (by omega) (fun _ _ _ => rfl) (fun i hi => by omega)
  refine zx_aload_n (q := 30) dX8_layFits_29 rfl rfl rfl ?_
  refine zx_callV0v (q := 33) (y' := mX8_firstHerd) dX8_layFits_30 ml_RX8_302 ok_mX8_firstHerd rfl (by decide) rfl (Nat.le_of_ble_eq_true rfl) (Nat.le_of_ble_eq_true rfl) (Nat.le_refl _) (Nat.le_refl _) rfl (t_X8_first _) ?_
  rintro _ ⟨g4, rfl, hC4, e4⟩
  refine zx_iconst (q := 34) (v := 1) dX8_layFits_33 (by decide) rfl ?_
  refine zx_istore1 (q := 35) dX8_layFits_34 rfl rfl ?_
  have hk := z_rk_first (ns := ns) (M := z_most gi) L.hns (by have := z_most_le gi; omega)
  have e5 : ∀ k j, ¬ (126 ≤ k ∧ k ≤ 131) → ¬ (k = 108 ∧ (j = 33 ∨ j = 34)) → g4 k j = g k j := fun k j z1 z2 => by rw [e4 _ _ (by omega), e3 _ _ (by omega), z_u_ne _ _ (by omega), e2 _ _ (by omega)]
  have hg4 : zSM g4 (z_sh gi m) (z_ow gi m) ns := zSM_fr h2 (fun k j z => by rw [e4 _ _ (by omega), e3 _ _ (by omega), z_u_ne _ _ (by omega)])
  have ef : zFq gi g4 := fun k j a b => (e5 k j (by unfold z_scr at a; omega) (by unfold z_scr at a; omega)).trans (e k j a b)
  refine zW.mono (lp_X8_layFits d L ef hg4 (fun h hh => ⟨by rw [e5 _ _ (by omega) (by omega)]; exact (hw h hh).1, (hw h hh).2⟩) (z_rk ns (z_most gi) (fun _ => 0) ns) (fun _ => 0) 0 z_A0 g4 rfl (by show 0 + _ + 1 ≤ 40000; omega) (z_sN_0 ns).symm (Nat.zero_le _) hC4 ⟨?_, fun z => absurd z (Nat.lt_irrefl 0), fun s hs => ?_⟩ (z_aok0 ns) (fun _ _ _ => rfl)) ?_
  · rw [e4 _ _ (by omega), e3 _ _ (by omega), z_u_at]; rfl
  · rw [e4 _ _ (by omega)]; exact h3 s hs
  · rintro _ S' ⟨h0, g5, h6, h7, h8⟩
    exact ⟨h0, g5, h6, h7, zLF_s hg4 h8, fun k j z => by rw [h8 k j (by unfold z_scr at z; omega)]; exact e5 k j (by unfold z_scr at z; omega) (by unfold z_scr at z; omega)⟩
theorem lp_X8_alB (d M : Nat) {g : Nat → Nat → Int32} {r : Nat → Nat} {Q : Option Value → zw_S → Prop} (h129 : ∀ s, s < 5 → g 129 s = nI (r s)) (kk : ∀ (g1 : Nat → Nat → Int32), (∀ k j, ¬ k = 130 → g1 k j = g k j) → (∀ i, i < 5 → g1 130 i = nI (r i)) → zW l D tc A mX8_layAlike d 0 0 0 0 73 [some (.ref 108), some (.int (nI M)), some (.int (1)), some (.int 1), some (.int (nI 5))] [] (zs g1 gl f) Q) : ∀ (k s : Nat) (g1 : Nat → Nat → Int32), s + k = 5 → (∀ k j, ¬ k = 130 → g1 k j = g k j) → (∀ i, i < s → g1 130 i = nI (r i)) →
    zW l D tc A mX8_layAlike d 0 0 0 0 47 [some (.ref 108), some (.int (nI M)), some (.int (1)), some (.int 1), some (.int (nI s))] [] (zs g1 gl f) Q := by
  intro k
  induction k using Nat.strongRecOn with
  | _ k ih =>
    intro s g1 hs e hd
    refine zx_iload (q := 49) dX8_layAlike_47 rfl rfl ?_
    refine zx_iconst (q := 50) (v := 5) dX8_layAlike_49 (by decide) rfl ?_
    refine zx_icmp_ge (q := 53) (t := 73) dX8_layAlike_50 (by decide) rfl (fun c_50 => ?_) (fun c_50 => ?_)
    · have hs2 : s = 5 := by have := z_ge (x := nI 5) rfl (by omega) c_50; omega
      subst hs2
      exact kk g1 e hd
    · have hs2 : s < 5 := z_lt (x := nI (5)) rfl (by omega) c_50
      obtain ⟨k, rfl⟩ : ∃ q, k = q + 1 := ⟨k - 1, by omega⟩
      refine zx_aload_n (q := 54) dX8_layAlike_53 rfl rfl rfl ?_
      refine zy_getR (q := 57) dX8_layAlike_54 fl_RX8_105 rfl rfl rfl rfl ?_
      refine zx_iload (q := 59) dX8_layAlike_57 rfl rfl ?_
      refine zx_aload_n (q := 60) dX8_layAlike_59 rfl rfl rfl ?_
      refine zy_getR (q := 63) dX8_layAlike_60 fl_RX8_102 rfl rfl rfl rfl ?_
      refine zx_iload (q := 65) dX8_layAlike_63 rfl rfl ?_
      refine zy_ialdN (q := 66) dX8_layAlike_65 rfl (by omega) (by first | decide | omega) rfl ?_
      rw [e _ _ (by omega), h129 s (by omega)]
      refine zy_iastN (q := 67) dX8_layAlike_66 rfl (by omega) (by first | decide | omega) rfl ?_
      refine zx_iinc4 (q := 70) dX8_layAlike_67 rfl rfl ?_
      refine zx_goto (t := 47) dX8_layAlike_70 (by decide) ?_
      rw [z_inc]
      refine ih k (by omega) (s + 1) _ (by omega) ?_ ?_
      · intro k j z; rw [z_u_ne _ _ (by omega)]; exact e k j z
      · intro i hi
        by_cases c : i = s
        · subst c; rw [z_u_at]
        · rw [z_u_ne _ _ (by omega)]; exact hd i (by omega)
theorem lp_X8_alike (d : Nat) {ns m : Nat} {g0 : Nat → Nat → Int32} (L : zLK gi ns m) (e0 : zFq gi g0) (hg : zSM g0 (z_sh gi m) (z_ow gi m) ns) {w : Nat → Option Nat} {M : Nat} (hM : M ≤ 18) (hw : z_wt g0 132 w) (hws : ∀ h, h < 3 → ∃ v, w h = some v) : ∀ (n : Nat) (r : Nat → Nat) (b : Nat) (a : z_A) (g1 : Nat → Nat → Int32) (w4 : Option Value), z_rk ns M r ns = n → a.1 + n + 1 ≤ 40000 → b = z_sN ns r → b ≤ M → zMS g1 r b → zMB g1 a → z_aok ns a → zLF g0 g1 → zW l D tc A mX8_layAlike (d + 2) 0 0 0 0 8 [some (.ref 108), some (.int (nI M)), some (.int (zb (decide (0 < a.1)))), some (.int 1), w4] [] (zs g1 gl f) (zQi fun x S' => x = zb (decide (0 < (z_fd M ns w (z_sh gi m) (z_ow gi m) r b a).1)) ∧ ∃ g2, S' = zs g2 gl f ∧ zMB g2 (z_fd M ns w (z_sh gi m) (z_ow gi m) r b a) ∧ zLF g0 g2) := by
  intro n
  induction n using Nat.strongRecOn with
  | _ n ih =>
    intro r b a g1 w4 hn ha1 hb hbM hC hA hok e
    have hns := L.hns
    have hn8 : g1 108 0 = nI ns := (zFq_M L (zLF_q e0 e)).2.2.2.1
    have hM9 := z_most_le gi
    have hTb : z_tn ns (z_ow gi m) r ≤ 20000 := Nat.le_trans (z_tn_le (M := 18) (B := 1089) (by omega) (fun s hs => z_ow_le L hs)) (by decide)
    have hrb : ∀ s, s < ns → r s ≤ 18 := fun s hs => by have := z_sN_ge (r := r) ns s hs; omega
    obtain ⟨_, hq1, hq2, hq3, _, _⟩ := id hok
    have h73 : ∀ (g3 : Nat → Nat → Int32) (a3 : z_A) (x : Int32) (w4 : Option Value), a3 = (if z_fit w (z_cn ns (z_sh gi m) r) = true then z_kp (z_tn ns (z_ow gi m)) r a else a) → x = zb (decide (0 < a3.1)) → zMS g3 r b → zMB g3 a3 → z_aok ns a3 → a3.1 ≤ a.1 + 1 → zLF g0 g3 → zW l D tc A mX8_layAlike (d + 2) 0 0 0 0 73 [some (.ref 108), some (.int (nI M)), some (.int (x)), some (.int 1), w4] [] (zs g3 gl f) (zQi fun x S' => x = zb (decide (0 < (z_fd M ns w (z_sh gi m) (z_ow gi m) r b a).1)) ∧ ∃ g2, S' = zs g2 gl f ∧ zMB g2 (z_fd M ns w (z_sh gi m) (z_ow gi m) r b a) ∧ zLF g0 g2) := by
      intro g3 a3 x w4 ha3 hhas hC3 hA3 hok3 hle e3
      have hn83 : g3 108 0 = nI ns := (zFq_M L (zLF_q e0 e3)).2.2.2.1
      refine zx_aload_n (q := 74) dX8_layAlike_73 rfl rfl rfl ?_
      refine zx_iload_n (q := 75) dX8_layAlike_74 rfl rfl rfl ?_
      refine zx_callV1i (q := 78) (y' := mX8_nextHerd) dX8_layAlike_75 ml_RX8_311 ok_mX8_nextHerd rfl (by decide) rfl (Nat.le_of_ble_eq_true rfl) (Nat.le_of_ble_eq_true rfl) (Nat.le_refl _) (Nat.le_refl _) rfl (t_X8_next _ M hns hn83 (by omega) hC3 hb (by omega)) ?_
      rintro _ _ ⟨rfl, g4, rfl, hv, e4⟩
      refine zx_istore3 (q := 79) dX8_layAlike_78 rfl rfl ?_
      refine zx_goto (t := 8) dX8_layAlike_79 (by decide) ?_
      have e5 : zLF g0 g4 := fun k j z => (e4 k j (by omega)).trans (e3 k j z)
      have hA4 : zMB g4 a3 := fun z => ⟨by rw [e4 _ _ (by omega)]; exact (hA3 z).1, fun s hs => by rw [e4 _ _ (by omega)]; exact (hA3 z).2 s hs⟩
      cases hx : z_nx M ns r b with
      | none =>
        rw [show z_fd M ns w (z_sh gi m) (z_ow gi m) r b a = _ from z_go_none hx, ← ha3]
        rw [hhas]
        refine zx_iload_n (q := 9) dX8_layAlike_8 rfl rfl rfl ?_
        refine zx_if_eq_t (t := 82) (q := 12) dX8_layAlike_9 (by decide) rfl (rfl) ?_
        refine zx_iload_n (q := 83) dX8_layAlike_82 rfl rfl rfl ?_
        refine zx_zret dX8_layAlike_83 rfl (by first | rfl | exact zb_nar _) (Nat.le_refl _) (Nat.le_refl _) ⟨_, rfl, ?_⟩
        exact ⟨rfl, g4, rfl, hA4, e5⟩
      | some q =>
        obtain ⟨j1, j2, j3⟩ := z_nx_dn (r' := q.1) (b' := q.2) hx hb hbM
        rw [show zb (Option.isSome (some q)) = 1 from rfl]
        rw [show z_fd M ns w (z_sh gi m) (z_ow gi m) r b a = _ from z_go_some (r' := q.1) (b' := q.2) hx hb hbM, ← ha3]
        rw [hhas]
        exact ih (z_rk ns M q.1 ns) (by omega) q.1 q.2 a3 g4 _ rfl (by omega) j1 j2 (hv q.1 q.2 hx) hA4 hok3 e5
    refine zx_iload_n (q := 9) dX8_layAlike_8 rfl rfl rfl ?_
    refine zx_if_eq_f (t := 82) (q := 12) dX8_layAlike_9 (by decide) rfl (by decide) ?_
    refine zx_aload_n (q := 13) dX8_layAlike_12 rfl rfl rfl ?_
    refine zx_callV0i (q := 16) (y' := mX8_isAsked) dX8_layAlike_13 ml_RX8_320 ok_mX8_isAsked rfl (by decide) rfl (Nat.le_of_ble_eq_true rfl) (Nat.le_of_ble_eq_true rfl) (Nat.le_refl _) (Nat.le_refl _) rfl (t_X8_asked _ hns (zLF_s hg e) hn8 hC (zLF_w (Or.inr rfl) hw e) hws (fun h hh => Nat.le_trans (z_cn_le (M := 18) (B := 1998) (by omega) (fun s hs => z_sh_le L hs hh)) (by decide))) ?_
    rintro _ _ ⟨rfl, rfl⟩
    refine zx_if_eq (q := 19) (t := 73) dX8_layAlike_16 (by decide) rfl (fun c_16 => ?_) (fun c_16 => ?_)
    · have hfit : ¬ z_fit w (z_cn ns (z_sh gi m) r) = true := by rw [zb_z] at c_16; rw [c_16]; decide
      first
        | (have hfx : ¬ z_fit w (z_cn ns (z_sh gi m) r) = true := hfit; exact h73 g1 a _ _ (by rw [if_neg hfit]) rfl hC hA hok (by omega) e)
        | (have hfx : ¬ (a.1 = 0 ∨ z_tn ns (z_ow gi m) r < a.2.1) := hif; exact h73 g1 _ _ _ (by rw [if_pos hfit]) (by rw [show decide (0 < a.1) = true by simpa using hp]; rfl) hC (fun _ => by rw [show (z_kp (z_tn ns (z_ow gi m)) r a).2.1 = a.2.1 from if_neg hif, show (z_kp (z_tn ns (z_ow gi m)) r a).2.2.2.1 = a.2.2.2.1 from if_neg hif]; exact hA hp) (z_aok_kp hok (by omega) hTb hrb) (Nat.le_refl _) e)
    · have hfit : z_fit w (z_cn ns (z_sh gi m) r) = true := (zb_nz _).mp c_16
      refine zx_iload_n (q := 20) dX8_layAlike_19 rfl rfl rfl ?_
      refine zx_if_eq (q := 23) (t := 34) dX8_layAlike_20 (by decide) rfl (fun c_20 => ?_) (fun c_20 => ?_)
      · have hif : a.1 = 0 ∨ z_tn ns (z_ow gi m) r < a.2.1 := Or.inl (by rw [zb_z, decide_eq_false_iff_not] at c_20; omega)
        refine zx_iconst (q := 35) (v := 1) dX8_layAlike_34 (by decide) rfl ?_
        refine zx_istore2 (q := 36) dX8_layAlike_35 rfl rfl ?_
        refine zx_aload_n (q := 37) dX8_layAlike_36 rfl rfl rfl ?_
        refine zx_aload_n (q := 38) dX8_layAlike_37 rfl rfl rfl ?_
        refine zx_callV0i (q := 41) (y' := mX8_tollNow) dX8_layAlike_38 ml_RX8_299 ok_mX8_tollNow rfl (by decide) rfl (Nat.le_of_ble_eq_true rfl) (Nat.le_of_ble_eq_true rfl) (Nat.le_refl _) (Nat.le_refl _) rfl (t_X8_tnR _ hns (zLF_s hg e) hn8 hC) ?_
        rintro _ _ ⟨rfl, rfl⟩
        refine zy_putI (q := 44) dX8_layAlike_41 fl_RX8_117 rfl rfl ⟨rfl, rfl⟩ rfl rfl ?_
        refine zx_iconst (q := 45) (v := 0) dX8_layAlike_44 (by decide) rfl ?_
        refine zx_istore4 (q := 47) dX8_layAlike_45 rfl rfl ?_
        refine lp_X8_alB (d + 2) M (r := r) (g := zw_u g1 108 35 (nI (z_tn ns (z_ow gi m) r))) (fun s hs => by rw [z_u_ne _ _ (by omega)]; exact hC.1 s hs) (fun g3 q1 q2 => ?_) 5 0 _ (by omega) (fun _ _ _ => rfl) (fun i hi => by omega)
        exact h73 g3 _ _ _ (by rw [if_pos hfit]) rfl (zMS_fr hC (fun k j z => by rw [q1 _ _ (by omega), z_u_ne _ _ (by omega)])) (fun _ => by rw [show (z_kp (z_tn ns (z_ow gi m)) r a).2.1 = z_tn ns (z_ow gi m) r from if_pos hif, show (z_kp (z_tn ns (z_ow gi m)) r a).2.2.2.1 = r from if_pos hif]; exact ⟨by rw [q1 _ _ (by omega), z_u_at], q2⟩) (z_aok_kp hok (by omega) hTb hrb) (Nat.le_refl _) (fun k j z => by rw [q1 _ _ (by omega), z_u_ne _ _ (by omega)]; exact e k j z)
      · have hp : 0 < a.1 := by rw [zb_nz, decide_eq_true_eq] at c_20; exact c_20
        refine zx_aload_n (q := 24) dX8_layAlike_23 rfl rfl rfl ?_
        refine zx_callV0i (q := 27) (y' := mX8_tollNow) dX8_layAlike_24 ml_RX8_299 ok_mX8_tollNow rfl (by decide) rfl (Nat.le_of_ble_eq_true rfl) (Nat.le_of_ble_eq_true rfl) (Nat.le_refl _) (Nat.le_refl _) rfl (t_X8_tnR _ hns (zLF_s hg e) hn8 hC) ?_
        rintro _ _ ⟨rfl, rfl⟩
        refine zx_aload_n (q := 28) dX8_layAlike_27 rfl rfl rfl ?_
        refine zy_getI (q := 31) dX8_layAlike_28 fl_RX8_117 rfl rfl rfl ?_
        rw [(hA hp).1]
        refine zx_icmp_ge (q := 34) (t := 73) dX8_layAlike_31 (by decide) rfl (fun c_31 => ?_) (fun c_31 => ?_)
        · have hif : ¬ (a.1 = 0 ∨ z_tn ns (z_ow gi m) r < a.2.1) := by rw [nI_leI (by omega) (by omega)] at c_31; omega
          first
            | (have hfx : ¬ z_fit w (z_cn ns (z_sh gi m) r) = true := hfit; exact h73 g1 a _ _ (by rw [if_neg hfit]) rfl hC hA hok (by omega) e)
            | (have hfx : ¬ (a.1 = 0 ∨ z_tn ns (z_ow gi m) r < a.2.1) := hif; exact h73 g1 _ _ _ (by rw [if_pos hfit]) (by rw [show decide (0 < a.1) = true by simpa using hp]; rfl) hC (fun _ => by rw [show (z_kp (z_tn ns (z_ow gi m)) r a).2.1 = a.2.1 from if_neg hif, show (z_kp (z_tn ns (z_ow gi m)) r a).2.2.2.1 = a.2.2.2.1 from if_neg hif]; exact hA hp) (z_aok_kp hok (by omega) hTb hrb) (Nat.le_refl _) e)
        · have hif : a.1 = 0 ∨ z_tn ns (z_ow gi m) r < a.2.1 := by rw [nI_leI (by omega) (by omega)] at c_31; omega
          refine zx_iconst (q := 35) (v := 1) dX8_layAlike_34 (by decide) rfl ?_
          refine zx_istore2 (q := 36) dX8_layAlike_35 rfl rfl ?_
          refine zx_aload_n (q := 37) dX8_layAlike_36 rfl rfl rfl ?_
          refine zx_aload_n (q := 38) dX8_layAlike_37 rfl rfl rfl ?_
          refine zx_callV0i (q := 41) (y' := mX8_tollNow) dX8_layAlike_38 ml_RX8_299 ok_mX8_tollNow rfl (by decide) rfl (Nat.le_of_ble_eq_true rfl) (Nat.le_of_ble_eq_true rfl) (Nat.le_refl _) (Nat.le_refl _) rfl (t_X8_tnR _ hns (zLF_s hg e) hn8 hC) ?_
          rintro _ _ ⟨rfl, rfl⟩
          refine zy_putI (q := 44) dX8_layAlike_41 fl_RX8_117 rfl rfl ⟨rfl, rfl⟩ rfl rfl ?_
          refine zx_iconst (q := 45) (v := 0) dX8_layAlike_44 (by decide) rfl ?_
          refine zx_istore4 (q := 47) dX8_layAlike_45 rfl rfl ?_
          refine lp_X8_alB (d + 2) M (r := r) (g := zw_u g1 108 35 (nI (z_tn ns (z_ow gi m) r))) (fun s hs => by rw [z_u_ne _ _ (by omega)]; exact hC.1 s hs) (fun g3 q1 q2 => ?_) 5 0 _ (by omega) (fun _ _ _ => rfl) (fun i hi => by omega)
          exact h73 g3 _ _ _ (by rw [if_pos hfit]) rfl (zMS_fr hC (fun k j z => by rw [q1 _ _ (by omega), z_u_ne _ _ (by omega)])) (fun _ => by rw [show (z_kp (z_tn ns (z_ow gi m)) r a).2.1 = z_tn ns (z_ow gi m) r from if_pos hif, show (z_kp (z_tn ns (z_ow gi m)) r a).2.2.2.1 = r from if_pos hif]; exact ⟨by rw [q1 _ _ (by omega), z_u_at], q2⟩) (z_aok_kp hok (by omega) hTb hrb) (Nat.le_refl _) (fun k j z => by rw [q1 _ _ (by omega), z_u_ne _ _ (by omega)]; exact e k j z)
theorem t_X8_alike (d : Nat) {ns m : Nat} {g0 : Nat → Nat → Int32} (L : zLK gi ns m) (e0 : zFq gi g0) (hg : zSM g0 (z_sh gi m) (z_ow gi m) ns) {w : Nat → Option Nat} {M : Nat} (hM : M ≤ 18) (hw : z_wt g0 132 w) (hws : ∀ h, h < 3 → ∃ v, w h = some v) : zCall l D tc A mX8_layAlike (d + 2) 0 0 [.ref 108, .int (nI M)] (zs g0 gl f) (zQi fun x S' => x = zb (decide (0 < (z_fd M ns w (z_sh gi m) (z_ow gi m) (fun _ => 0) 0 z_A0).1)) ∧ ∃ g2, S' = zs g2 gl f ∧ zMB g2 (z_fd M ns w (z_sh gi m) (z_ow gi m) (fun _ => 0) 0 z_A0) ∧ zLF g0 g2) := by
  show zW l D tc A mX8_layAlike (d + 2) 0 0 0 0 0 [some (.ref 108), some (.int (nI M)), none, none, none] [] (zs g0 gl f) _
  refine zx_iconst (q := 1) (v := 0) dX8_layAlike_0 (by decide) rfl ?_
  refine zx_istore2 (q := 2) dX8_layAlike_1 rfl rfl ?_
  refine zx_aload_n (q := 3) dX8_layAlike_2 rfl rfl rfl ?_
  refine zx_callV0v (q := 6) (y' := mX8_firstHerd) dX8_layAlike_3 ml_RX8_302 ok_mX8_firstHerd rfl (by decide) rfl (Nat.le_of_ble_eq_true rfl) (Nat.le_of_ble_eq_true rfl) (Nat.le_refl _) (Nat.le_refl _) rfl (t_X8_first _) ?_
  rintro _ ⟨g4, rfl, hC4, e4⟩
  refine zx_iconst (q := 7) (v := 1) dX8_layAlike_6 (by decide) rfl ?_
  refine zx_istore3 (q := 8) dX8_layAlike_7 rfl rfl ?_
  have hk := z_rk_first (ns := ns) (M := M) L.hns hM
  exact lp_X8_alike d L e0 hg hM hw hws (z_rk ns M (fun _ => 0) ns) (fun _ => 0) 0 z_A0 g4 none rfl (by show 0 + _ + 1 ≤ 40000; omega) (z_sN_0 ns).symm (Nat.zero_le _) hC4 (fun z => absurd z (Nat.lt_irrefl 0)) (z_aok0 ns) (fun k j z => e4 k j (by omega))
end P43
