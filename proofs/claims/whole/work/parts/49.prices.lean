/-! op prices -/
def z_pr (p h : Nat) : Nat := if h = 0 then p / 100 else if h = 1 then p / 10 % 10 else p % 10
def z_py (p : Nat) (C : Nat → Nat) : Nat := z_sN 3 (fun h => z_pr p h * C h)
theorem z_pr_le {p : Nat} (hp : p < 1000) (h : Nat) : z_pr p h ≤ 9 := by
  unfold z_pr
  (repeat' split) <;> omega
theorem z_py_le {p B : Nat} {C : Nat → Nat} (hp : p < 1000) (hC : ∀ h, h < 3 → C h ≤ B) : z_py p C ≤ 3 * (9 * B) := z_sN_le (b := 9 * B) 3 (fun h hh => Nat.mul_le_mul (z_pr_le hp h) (hC h hh))
def z_fr (ns : Nat) (sh : Nat → Nat → Nat) (ow : Nat → Nat) (p : Nat) : Bool := z_al (fun s => decide (z_py p (sh s) ≤ ow s)) ns 0
def z_bst (C : Nat → Nat) (fr : Nat → Bool) : Nat → Nat → Nat → Nat
  | 0, _, b => b
  | k + 1, p, b => z_bst C fr k (p + 1) (if z_py b C < z_py p C ∧ fr p = true then p else b)
theorem z_bst_lt {C : Nat → Nat} {fr : Nat → Bool} : ∀ k p b, b < 1000 → p + k ≤ 1000 → z_bst C fr k p b < 1000 := by
  intro k
  induction k with
  | zero => intro p b h _; exact h
  | succ k ih =>
    intro p b h1 h2
    rw [z_bst]
    refine ih (p + 1) _ ?_ (by omega)
    split <;> omega
theorem z_fr0 (ns : Nat) (sh : Nat → Nat → Nat) (ow : Nat → Nat) : z_fr ns sh ow 0 = true := by
  unfold z_fr
  rw [z_al_iff]
  intro i _ _
  simp [z_py, z_sN, z_pr]
def z_C (gi : Nat → Nat → Int32) (m ns : Nat) : Nat → Nat := z_ct gi m ns 0
def z_best (gi : Nat → Nat → Int32) (m ns : Nat) : Nat := z_bst (z_ct gi m ns 0) (z_fr ns (z_sh gi m) (z_ow gi m)) 999 1 0
section P49
variable {l : Launch} {D : va_G} {tc : Nat → ClassId} {A : Nat → Prop} {S : zw_S} {gi : Nat → Nat → Int32} {gl : Nat → Nat → Int64} {f : Option Nat}
theorem t_X7_pb (d p h : Nat) (hp : p < 1000) (hh : h < 3) : zCall l D tc A mX7_priceBy d 0 0 [.int (nI p), .int (nI h)] S (zQi fun r S' => r = nI (z_pr p h) ∧ S' = S) := by
  show zW l D tc A mX7_priceBy d 0 0 0 0 0 [some (.int (nI p)), some (.int (nI h))] [] S _
  refine zx_iload_n (q := 1) dX7_priceBy_0 rfl rfl rfl ?_
  refine zx_if_ne (q := 4) (t := 9) dX7_priceBy_1 (by decide) rfl (fun c_1 => ?_) (fun c_1 => ?_)
  · have h0 : ¬ h = 0 := fun z => c_1 (by rw [z]; rfl)
    refine zx_iload_n (q := 10) dX7_priceBy_9 rfl rfl rfl ?_
    refine zx_iconst (q := 11) (v := 1) dX7_priceBy_10 (by decide) rfl ?_
    refine zx_icmp_ne (q := 14) (t := 24) dX7_priceBy_11 (by decide) rfl (fun c_11 => ?_) (fun c_11 => ?_)
    · have h1 : ¬ h = 1 := fun z => c_11 (by rw [z]; rfl)
      refine zx_iload_n (q := 25) dX7_priceBy_24 rfl rfl rfl ?_
      refine zx_bipush (q := 27) (v := 10) dX7_priceBy_25 (by decide) rfl ?_
      refine zx_irem (q := 28) dX7_priceBy_27 (by decide) rfl ?_
      first
        | rw [show (10 : Int32) = nI 10 from rfl, z_rem (by omega) (by omega)]
        | skip
      refine zx_iret dX7_priceBy_28 rfl (Nat.le_refl _) (Nat.le_refl _) ⟨_, rfl, ?_⟩
      first
        | exact ⟨by unfold z_pr; rw [if_pos h0], rfl⟩
        | exact ⟨by unfold z_pr; rw [if_neg h0, if_pos h1], rfl⟩
        | exact ⟨by unfold z_pr; rw [if_neg h0, if_neg h1], rfl⟩
    · have h1 : h = 1 := by rw [show (1 : Int32) = nI 1 from rfl, nI_eq (by omega) (by omega)] at c_11; exact c_11
      refine zx_iload_n (q := 15) dX7_priceBy_14 rfl rfl rfl ?_
      refine zx_bipush (q := 17) (v := 10) dX7_priceBy_15 (by decide) rfl ?_
      refine zx_idiv (q := 18) dX7_priceBy_17 (by decide) rfl ?_
      rw [show (10 : Int32) = nI 10 from rfl, z_div (by omega) (by omega)]
      refine zx_bipush (q := 20) (v := 10) dX7_priceBy_18 (by decide) rfl ?_
      refine zx_irem (q := 21) dX7_priceBy_20 (by decide) rfl ?_
      rw [show (10 : Int32) = nI 10 from rfl, z_rem (by omega) (by omega)]
      refine zx_goto (t := 28) dX7_priceBy_21 (by decide) ?_
      first
        | rw [show (10 : Int32) = nI 10 from rfl, z_rem (by omega) (by omega)]
        | skip
      refine zx_iret dX7_priceBy_28 rfl (Nat.le_refl _) (Nat.le_refl _) ⟨_, rfl, ?_⟩
      first
        | exact ⟨by unfold z_pr; rw [if_pos h0], rfl⟩
        | exact ⟨by unfold z_pr; rw [if_neg h0, if_pos h1], rfl⟩
        | exact ⟨by unfold z_pr; rw [if_neg h0, if_neg h1], rfl⟩
  · have h0 : h = 0 := by rcases Nat.eq_zero_or_pos h with q | q; exact q; exact absurd c_1 (nI_ne0 q (by omega))
    refine zx_iload_n (q := 5) dX7_priceBy_4 rfl rfl rfl ?_
    refine zx_bipush (q := 7) (v := 100) dX7_priceBy_5 (by decide) rfl ?_
    refine zx_idiv (q := 8) dX7_priceBy_7 (by decide) rfl ?_
    rw [show (100 : Int32) = nI 100 from rfl, z_div (by omega) (by omega)]
    refine zx_iret dX7_priceBy_8 rfl (Nat.le_refl _) (Nat.le_refl _) ⟨_, rfl, ?_⟩
    first
      | exact ⟨by unfold z_pr; rw [if_pos h0], rfl⟩
      | exact ⟨by unfold z_pr; rw [if_neg h0, if_pos h1], rfl⟩
      | exact ⟨by unfold z_pr; rw [if_neg h0, if_neg h1], rfl⟩
theorem lp_X7_pays (d p c : Nat) {g : Nat → Nat → Int32} {C : Nat → Nat} (hp : p < 1000) (hc : zg_sh[c]? = some (1, 3)) (hC : ∀ h, h < 3 → g c h = nI (C h)) : ∀ (k h x : Nat), h + k = 3 → x = z_sN h (fun h => z_pr p h * C h) → zW l D tc A mX7_pays (d + 1) 0 0 0 0 4 [some (.int (nI p)), some (.ref c), some (.int (nI x)), some (.int (nI h))] [] (zs g gl f) (zQi fun r S' => r = nI (z_py p C) ∧ S' = zs g gl f) := by
  intro k
  induction k using Nat.strongRecOn with
  | _ k ih =>
    intro h x hh hx
    refine zx_iload_n (q := 5) dX7_pays_4 rfl rfl rfl ?_
    refine zx_iconst (q := 6) (v := 3) dX7_pays_5 (by decide) rfl ?_
    refine zx_icmp_ge (q := 9) (t := 27) dX7_pays_6 (by decide) rfl (fun c_6 => ?_) (fun c_6 => ?_)
    · have hs2 : h = 3 := by have := z_ge (x := nI 3) rfl (by omega) c_6; omega
      subst hs2
      refine zx_iload_n (q := 28) dX7_pays_27 rfl rfl rfl ?_
      refine zx_iret dX7_pays_28 rfl (Nat.le_refl _) (Nat.le_refl _) ⟨_, rfl, ?_⟩
      exact ⟨by rw [hx]; rfl, rfl⟩
    · have hs2 : h < 3 := z_lt (x := nI (3)) rfl (by omega) c_6
      obtain ⟨k, rfl⟩ : ∃ q, k = q + 1 := ⟨k - 1, by omega⟩
      refine zx_iload_n (q := 10) dX7_pays_9 rfl rfl rfl ?_
      refine zx_iload_n (q := 11) dX7_pays_10 rfl rfl rfl ?_
      refine zx_iload_n (q := 12) dX7_pays_11 rfl rfl rfl ?_
      refine zx_callS2i (q := 15) (y' := mX7_priceBy) dX7_pays_12 ml_RX7_195 ok_mX7_priceBy (Nat.le_of_ble_eq_true rfl) (Nat.le_of_ble_eq_true rfl) (Nat.le_refl _) (Nat.le_refl _) rfl (t_X7_pb _ p h hp (by omega)) ?_
      rintro _ _ ⟨rfl, rfl⟩
      refine zx_aload_n (q := 16) dX7_pays_15 rfl rfl rfl ?_
      refine zx_iload_n (q := 17) dX7_pays_16 rfl rfl rfl ?_
      refine zy_ialdN (q := 18) dX7_pays_17 hc (by omega) (by first | decide | omega) rfl ?_
      rw [hC h (by omega)]
      refine zx_imul (q := 19) dX7_pays_18 rfl ?_
      rw [z_mul]
      refine zx_iadd (q := 20) dX7_pays_19 rfl ?_
      rw [nI_add]
      refine zx_istore2 (q := 21) dX7_pays_20 rfl rfl ?_
      refine zx_iinc3 (q := 24) dX7_pays_21 rfl rfl ?_
      refine zx_goto (t := 4) dX7_pays_24 (by decide) ?_
      rw [z_inc]
      exact ih k (by omega) (h + 1) _ (by omega) (by rw [hx]; rfl)
theorem t_X7_pays (d p c : Nat) {g : Nat → Nat → Int32} {C : Nat → Nat} (hp : p < 1000) (hc : zg_sh[c]? = some (1, 3)) (hC : ∀ h, h < 3 → g c h = nI (C h)) : zCall l D tc A mX7_pays (d + 1) 0 0 [.int (nI p), .ref c] (zs g gl f) (zQi fun r S' => r = nI (z_py p C) ∧ S' = zs g gl f) := by
  show zW l D tc A mX7_pays (d + 1) 0 0 0 0 0 [some (.int (nI p)), some (.ref c), none, none] [] (zs g gl f) _
  refine zx_iconst (q := 1) (v := 0) dX7_pays_0 (by decide) rfl ?_
  refine zx_istore2 (q := 2) dX7_pays_1 rfl rfl ?_
  refine zx_iconst (q := 3) (v := 0) dX7_pays_2 (by decide) rfl ?_
  refine zx_istore3 (q := 4) dX7_pays_3 rfl rfl ?_
  exact lp_X7_pays d p c hp hc hC 3 0 0 (by omega) rfl
theorem lp_X7_fair (d : Nat) {ns m mo : Nat} {g : Nat → Nat → Int32} (L : zLK gi ns m) (hs1 : g 1 0 = nI ns) (hg : zSG g ns mo (z_sh gi m) (z_ow gi m) ns) (p : Nat) (hp : p < 1000) : ∀ (k s : Nat), s + k = ns → zW l D tc A mX7_isFair (d + 2) 0 0 0 0 2 [some (.ref 0), some (.int (nI p)), some (.int (nI s))] [] (zs g gl f) (zQi fun r S' => r = zb (z_al (fun s => decide (z_py p (z_sh gi m s) ≤ z_ow gi m s)) k s) ∧ S' = zs g gl f) := by
  intro k
  induction k using Nat.strongRecOn with
  | _ k ih =>
    intro s hk
    have hns := L.hns
    refine zx_iload_n (q := 3) dX7_isFair_2 rfl rfl rfl ?_
    refine zx_aload_n (q := 4) dX7_isFair_3 rfl rfl rfl ?_
    refine zy_getR (q := 7) dX7_isFair_4 fl_RX7_12 rfl rfl rfl rfl ?_
    refine zy_getIe (q := 10) (v := nI ns) dX7_isFair_7 fl_RX7_81 rfl rfl (hs1) rfl ?_
    refine zx_icmp_ge (q := 13) (t := 46) dX7_isFair_10 (by decide) rfl (fun c_10 => ?_) (fun c_10 => ?_)
    · have hs2 : s = ns := by have := z_ge (x := nI (ns)) rfl (by omega) c_10; omega
      have hk0 : k = 0 := by omega
      subst hk0
      refine zx_iconst (q := 47) (v := 1) dX7_isFair_46 (by decide) rfl ?_
      refine zx_zret dX7_isFair_47 rfl (by first | rfl | exact zb_nar _) (Nat.le_refl _) (Nat.le_refl _) ⟨_, rfl, ?_⟩
      exact ⟨rfl, rfl⟩
    · have hs2 : s < ns := z_lt (x := nI (ns)) rfl (by omega) c_10
      obtain ⟨k, rfl⟩ : ∃ q, k = q + 1 := ⟨k - 1, by omega⟩
      have hsb : z_py p (z_sh gi m s) ≤ 3 * (9 * 1998) := z_py_le hp (fun h hh => z_sh_le L (by omega) hh)
      have hob := z_ow_le L (s := s) (by omega)
      refine zx_iload_n (q := 14) dX7_isFair_13 rfl rfl rfl ?_
      refine zx_aload_n (q := 15) dX7_isFair_14 rfl rfl rfl ?_
      refine zy_getR (q := 18) dX7_isFair_15 fl_RX7_42 rfl rfl rfl rfl ?_
      refine zy_getR (q := 21) dX7_isFair_18 fl_RX7_104 rfl rfl rfl rfl ?_
      refine zx_iload_n (q := 22) dX7_isFair_21 rfl rfl rfl ?_
      refine zy_aaldN (q := 23) dX7_isFair_22 rfl (by decide) (by omega) (by decide) (zr_48 (by omega)).1 rfl ?_
      refine zx_callS2i (q := 26) (y' := mX7_pays) dX7_isFair_23 ml_RX7_199 ok_mX7_pays (Nat.le_of_ble_eq_true rfl) (Nat.le_of_ble_eq_true rfl) (Nat.le_refl _) (Nat.le_refl _) rfl (t_X7_pays _ p (49 + s) hp (zr_48 (f := f) (by omega)).2 (fun h hh => (hg.2.2 s (by omega)).2 h hh)) ?_
      rintro _ _ ⟨rfl, rfl⟩
      refine zx_aload_n (q := 27) dX7_isFair_26 rfl rfl rfl ?_
      refine zy_getR (q := 30) dX7_isFair_27 fl_RX7_42 rfl rfl rfl rfl ?_
      refine zy_getR (q := 33) dX7_isFair_30 fl_RX7_98 rfl rfl rfl rfl ?_
      refine zx_iload_n (q := 34) dX7_isFair_33 rfl rfl rfl ?_
      refine zy_ialdN (q := 35) dX7_isFair_34 rfl (by omega) (by first | decide | omega) rfl ?_
      rw [(hg.2.2 s (by omega)).1]
      refine zx_icmp_le (q := 38) (t := 40) dX7_isFair_35 (by decide) rfl (fun c_35 => ?_) (fun c_35 => ?_)
      · rw [nI_leI (by omega) (by omega)] at c_35
        refine zx_iinc2 (q := 43) dX7_isFair_40 rfl rfl ?_
        refine zx_goto (t := 2) dX7_isFair_43 (by decide) ?_
        rw [z_inc, z_al, decide_eq_true c_35, Bool.true_and]
        exact ih k (by omega) (s + 1) (by omega)
      · rw [nI_leI (by omega) (by omega)] at c_35
        refine zx_iconst (q := 39) (v := 0) dX7_isFair_38 (by decide) rfl ?_
        refine zx_zret dX7_isFair_39 rfl (by first | rfl | exact zb_nar _) (Nat.le_refl _) (Nat.le_refl _) ⟨_, rfl, ?_⟩
        exact ⟨by rw [z_al, decide_eq_false c_35]; rfl, rfl⟩
theorem t_X7_fair (d : Nat) {ns m mo : Nat} {g : Nat → Nat → Int32} (L : zLK gi ns m) (hs1 : g 1 0 = nI ns) (hg : zSG g ns mo (z_sh gi m) (z_ow gi m) ns) (p : Nat) (hp : p < 1000) : zCall l D tc A mX7_isFair (d + 2) 0 0 [.ref 0, .int (nI p)] (zs g gl f) (zQi fun r S' => r = zb (z_fr ns (z_sh gi m) (z_ow gi m) p) ∧ S' = zs g gl f) := by
  show zW l D tc A mX7_isFair (d + 2) 0 0 0 0 0 [some (.ref 0), some (.int (nI p)), none] [] (zs g gl f) _
  refine zx_iconst (q := 1) (v := 0) dX7_isFair_0 (by decide) rfl ?_
  refine zx_istore2 (q := 2) dX7_isFair_1 rfl rfl ?_
  exact lp_X7_fair d L hs1 hg p hp ns 0 (by omega)
theorem lp_X7_best (d : Nat) {ns m mo : Nat} {g : Nat → Nat → Int32} (L : zLK gi ns m) (hs1 : g 1 0 = nI ns) (hg : zSG g ns mo (z_sh gi m) (z_ow gi m) ns) (hC : ∀ h, h < 3 → g 62 h = nI (z_ct gi m ns 0 h)) : ∀ (k p b : Nat), p + k = 1000 → b < 1000 → zW l D tc A mX7_bestPrices (d + 3) 0 0 0 0 4 [some (.ref 0), some (.ref 62), some (.int (nI b)), some (.int (nI p))] [] (zs g gl f) (zQi fun r S' => r = nI (z_bst (z_ct gi m ns 0) (z_fr ns (z_sh gi m) (z_ow gi m)) k p b) ∧ S' = zs g gl f) := by
  intro k
  induction k using Nat.strongRecOn with
  | _ k ih =>
    intro p b hp hb
    refine zx_iload_n (q := 5) dX7_bestPrices_4 rfl rfl rfl ?_
    refine zx_sipush (q := 8) (v := 1000) dX7_bestPrices_5 (by decide) rfl ?_
    refine zx_icmp_ge (q := 11) (t := 40) dX7_bestPrices_8 (by decide) rfl (fun c_8 => ?_) (fun c_8 => ?_)
    · have hk0 : k = 0 := by rw [show (1000 : Int32) = nI 1000 from rfl, nI_leI (by omega) (by omega)] at c_8; omega
      subst hk0
      refine zx_iload_n (q := 41) dX7_bestPrices_40 rfl rfl rfl ?_
      refine zx_iret dX7_bestPrices_41 rfl (Nat.le_refl _) (Nat.le_refl _) ⟨_, rfl, ?_⟩
      exact ⟨rfl, rfl⟩
    · have hp9 : p < 1000 := by rw [show (1000 : Int32) = nI 1000 from rfl, nI_leI (by omega) (by omega)] at c_8; omega
      obtain ⟨k, rfl⟩ : ∃ q, k = q + 1 := ⟨k - 1, by omega⟩
      have hb1 := z_py_le (C := (z_ct gi m ns 0)) (B := 119880) hp9 (fun h hh => z_ct_le (w := 0) L (by omega) hh)
      have hb2 := z_py_le (C := (z_ct gi m ns 0)) (B := 119880) hb (fun h hh => z_ct_le (w := 0) L (by omega) hh)
      refine zx_iload_n (q := 12) dX7_bestPrices_11 rfl rfl rfl ?_
      refine zx_aload_n (q := 13) dX7_bestPrices_12 rfl rfl rfl ?_
      refine zx_callS2i (q := 16) (y' := mX7_pays) dX7_bestPrices_13 ml_RX7_199 ok_mX7_pays (Nat.le_of_ble_eq_true rfl) (Nat.le_of_ble_eq_true rfl) (Nat.le_refl _) (Nat.le_refl _) rfl (t_X7_pays _ p 62 hp9 rfl hC) ?_
      rintro _ _ ⟨rfl, rfl⟩
      refine zx_iload_n (q := 17) dX7_bestPrices_16 rfl rfl rfl ?_
      refine zx_aload_n (q := 18) dX7_bestPrices_17 rfl rfl rfl ?_
      refine zx_callS2i (q := 21) (y' := mX7_pays) dX7_bestPrices_18 ml_RX7_199 ok_mX7_pays (Nat.le_of_ble_eq_true rfl) (Nat.le_of_ble_eq_true rfl) (Nat.le_refl _) (Nat.le_refl _) rfl (t_X7_pays _ b 62 hb rfl hC) ?_
      rintro _ _ ⟨rfl, rfl⟩
      refine zx_icmp_le (q := 24) (t := 34) dX7_bestPrices_21 (by decide) rfl (fun c_21 => ?_) (fun c_21 => ?_)
      · rw [nI_leI (by omega) (by omega)] at c_21
        have hif : ¬ (z_py b (z_ct gi m ns 0) < z_py p (z_ct gi m ns 0) ∧ (z_fr ns (z_sh gi m) (z_ow gi m)) p = true) := by omega
        refine zx_iinc3 (q := 37) dX7_bestPrices_34 rfl rfl ?_
        refine zx_goto (t := 4) dX7_bestPrices_37 (by decide) ?_
        rw [z_inc, z_bst]
        first
          | (rw [if_neg hif]; exact ih k (by omega) (p + 1) b (by omega) hb)
          | (rw [if_pos hif]; exact ih k (by omega) (p + 1) p (by omega) hp9)
      · rw [nI_leI (by omega) (by omega)] at c_21
        refine zx_aload_n (q := 25) dX7_bestPrices_24 rfl rfl rfl ?_
        refine zx_iload_n (q := 26) dX7_bestPrices_25 rfl rfl rfl ?_
        refine zx_callV1i (q := 29) (y' := mX7_isFair) dX7_bestPrices_26 ml_RX7_202 ok_mX7_isFair rfl (by decide) rfl (Nat.le_of_ble_eq_true rfl) (Nat.le_of_ble_eq_true rfl) (Nat.le_refl _) (Nat.le_refl _) rfl (t_X7_fair _ L hs1 hg p hp9) ?_
        rintro _ _ ⟨rfl, rfl⟩
        refine zx_if_eq (q := 32) (t := 34) dX7_bestPrices_29 (by decide) rfl (fun c_29 => ?_) (fun c_29 => ?_)
        · have hif : ¬ (z_py b (z_ct gi m ns 0) < z_py p (z_ct gi m ns 0) ∧ (z_fr ns (z_sh gi m) (z_ow gi m)) p = true) := fun z => by rw [zb_z] at c_29; rw [c_29] at z; exact absurd z.2 (by decide)
          refine zx_iinc3 (q := 37) dX7_bestPrices_34 rfl rfl ?_
          refine zx_goto (t := 4) dX7_bestPrices_37 (by decide) ?_
          rw [z_inc, z_bst]
          first
            | (rw [if_neg hif]; exact ih k (by omega) (p + 1) b (by omega) hb)
            | (rw [if_pos hif]; exact ih k (by omega) (p + 1) p (by omega) hp9)
        · have hif : z_py b (z_ct gi m ns 0) < z_py p (z_ct gi m ns 0) ∧ (z_fr ns (z_sh gi m) (z_ow gi m)) p = true := ⟨by omega, by rw [zb_nz] at c_29; exact c_29⟩
          refine zx_iload_n (q := 33) dX7_bestPrices_32 rfl rfl rfl ?_
          refine zx_istore2 (q := 34) dX7_bestPrices_33 rfl rfl ?_
          refine zx_iinc3 (q := 37) dX7_bestPrices_34 rfl rfl ?_
          refine zx_goto (t := 4) dX7_bestPrices_37 (by decide) ?_
          rw [z_inc, z_bst]
          first
            | (rw [if_neg hif]; exact ih k (by omega) (p + 1) b (by omega) hb)
            | (rw [if_pos hif]; exact ih k (by omega) (p + 1) p (by omega) hp9)
theorem t_X7_best (d : Nat) {ns m mo : Nat} {g : Nat → Nat → Int32} (L : zLK gi ns m) (hs1 : g 1 0 = nI ns) (hg : zSG g ns mo (z_sh gi m) (z_ow gi m) ns) (hC : ∀ h, h < 3 → g 62 h = nI (z_ct gi m ns 0 h)) : zCall l D tc A mX7_bestPrices (d + 3) 0 0 [.ref 0, .ref 62] (zs g gl f) (zQi fun r S' => r = nI (z_best gi m ns) ∧ S' = zs g gl f) := by
  show zW l D tc A mX7_bestPrices (d + 3) 0 0 0 0 0 [some (.ref 0), some (.ref 62), none, none] [] (zs g gl f) _
  refine zx_iconst (q := 1) (v := 0) dX7_bestPrices_0 (by decide) rfl ?_
  refine zx_istore2 (q := 2) dX7_bestPrices_1 rfl rfl ?_
  refine zx_iconst (q := 3) (v := 1) dX7_bestPrices_2 (by decide) rfl ?_
  refine zx_istore3 (q := 4) dX7_bestPrices_3 rfl rfl ?_
  exact lp_X7_best d L hs1 hg hC 999 1 0 (by omega) (by omega)
theorem lp_X8_fair (d : Nat) {ns m : Nat} {g : Nat → Nat → Int32} (L : zLK gi ns m) (hn8 : g 108 0 = nI ns) (hg : zSM g (z_sh gi m) (z_ow gi m) ns) (p : Nat) (hp : p < 1000) : ∀ (k s : Nat), s + k = ns → zW l D tc A mX8_isFair d 0 0 0 0 3 [some (.ref 108), some (.int (nI (z_pr p 0))), some (.int (nI (z_pr p 1))), some (.int (nI (z_pr p 2))), some (.int (nI s))] [] (zs g gl f) (zQi fun r S' => r = zb (z_al (fun s => decide (z_py p (z_sh gi m s) ≤ z_ow gi m s)) k s) ∧ S' = zs g gl f) := by
  intro k
  induction k using Nat.strongRecOn with
  | _ k ih =>
    intro s hk
    have hns := L.hns
    refine zx_iload (q := 5) dX8_isFair_3 rfl rfl ?_
    refine zx_aload_n (q := 6) dX8_isFair_5 rfl rfl rfl ?_
    refine zy_getIe (q := 9) (v := nI ns) dX8_isFair_6 fl_RX8_7 rfl rfl (hn8) rfl ?_
    refine zx_icmp_ge (q := 12) (t := 69) dX8_isFair_9 (by decide) rfl (fun c_9 => ?_) (fun c_9 => ?_)
    · have hs2 : s = ns := by have := z_ge (x := nI (ns)) rfl (by omega) c_9; omega
      have hk0 : k = 0 := by omega
      subst hk0
      refine zx_iconst (q := 70) (v := 1) dX8_isFair_69 (by decide) rfl ?_
      refine zx_zret dX8_isFair_70 rfl (by first | rfl | exact zb_nar _) (Nat.le_refl _) (Nat.le_refl _) ⟨_, rfl, ?_⟩
      exact ⟨rfl, rfl⟩
    · have hs2 : s < ns := z_lt (x := nI (ns)) rfl (by omega) c_9
      obtain ⟨k, rfl⟩ : ∃ q, k = q + 1 := ⟨k - 1, by omega⟩
      have hsb : z_py p (z_sh gi m s) ≤ 3 * (9 * 1998) := z_py_le hp (fun h hh => z_sh_le L (by omega) hh)
      have hob := z_ow_le L (s := s) (by omega)
      refine zx_iload_n (q := 13) dX8_isFair_12 rfl rfl rfl ?_
      refine zx_aload_n (q := 14) dX8_isFair_13 rfl rfl rfl ?_
      refine zy_getR (q := 17) dX8_isFair_14 fl_RX8_96 rfl rfl rfl rfl ?_
      refine zx_iconst (q := 18) (v := 3) dX8_isFair_17 (by decide) rfl ?_
      refine zx_iload (q := 20) dX8_isFair_18 rfl rfl ?_
      refine zx_imul (q := 21) dX8_isFair_20 rfl ?_
      rw [show (3 : Int32) * nI s = nI (3 * s) from by rw [show (3 : Int32) = nI 3 from rfl, z_mul]]
      refine zy_ialdN (q := 22) dX8_isFair_21 rfl (by omega) (by first | decide | omega) rfl ?_
      rw [show g 127 (3 * s) = nI (z_sh gi m s 0) from (hg s (by omega)).2 0 (by omega)]
      refine zx_imul (q := 23) dX8_isFair_22 rfl ?_
      refine zx_iload_n (q := 24) dX8_isFair_23 rfl rfl rfl ?_
      refine zx_aload_n (q := 25) dX8_isFair_24 rfl rfl rfl ?_
      refine zy_getR (q := 28) dX8_isFair_25 fl_RX8_96 rfl rfl rfl rfl ?_
      refine zx_iconst (q := 29) (v := 3) dX8_isFair_28 (by decide) rfl ?_
      refine zx_iload (q := 31) dX8_isFair_29 rfl rfl ?_
      refine zx_imul (q := 32) dX8_isFair_31 rfl ?_
      refine zx_iconst (q := 33) (v := 1) dX8_isFair_32 (by decide) rfl ?_
      refine zx_iadd (q := 34) dX8_isFair_33 rfl ?_
      rw [show (3 : Int32) * nI s + 1 = nI (3 * s + 1) from z_3 s 1]
      refine zy_ialdN (q := 35) dX8_isFair_34 rfl (by omega) (by first | decide | omega) rfl ?_
      rw [show g 127 (3 * s + 1) = nI (z_sh gi m s 1) from (hg s (by omega)).2 1 (by omega)]
      refine zx_imul (q := 36) dX8_isFair_35 rfl ?_
      refine zx_iadd (q := 37) dX8_isFair_36 rfl ?_
      refine zx_iload_n (q := 38) dX8_isFair_37 rfl rfl rfl ?_
      refine zx_aload_n (q := 39) dX8_isFair_38 rfl rfl rfl ?_
      refine zy_getR (q := 42) dX8_isFair_39 fl_RX8_96 rfl rfl rfl rfl ?_
      refine zx_iconst (q := 43) (v := 3) dX8_isFair_42 (by decide) rfl ?_
      refine zx_iload (q := 45) dX8_isFair_43 rfl rfl ?_
      refine zx_imul (q := 46) dX8_isFair_45 rfl ?_
      refine zx_iconst (q := 47) (v := 2) dX8_isFair_46 (by decide) rfl ?_
      refine zx_iadd (q := 48) dX8_isFair_47 rfl ?_
      rw [show (3 : Int32) * nI s + 2 = nI (3 * s + 2) from z_3 s 2]
      refine zy_ialdN (q := 49) dX8_isFair_48 rfl (by omega) (by first | decide | omega) rfl ?_
      rw [show g 127 (3 * s + 2) = nI (z_sh gi m s 2) from (hg s (by omega)).2 2 (by omega)]
      refine zx_imul (q := 50) dX8_isFair_49 rfl ?_
      refine zx_iadd (q := 51) dX8_isFair_50 rfl ?_
      rw [z_mul, z_mul, z_mul, nI_add, nI_add, show z_pr p 0 * z_sh gi m s 0 + z_pr p 1 * z_sh gi m s 1 + z_pr p 2 * z_sh gi m s 2 = z_py p (z_sh gi m s) from by simp [z_py, z_sN]]
      refine zx_aload_n (q := 52) dX8_isFair_51 rfl rfl rfl ?_
      refine zy_getR (q := 55) dX8_isFair_52 fl_RX8_99 rfl rfl rfl rfl ?_
      refine zx_iload (q := 57) dX8_isFair_55 rfl rfl ?_
      refine zy_ialdN (q := 58) dX8_isFair_57 rfl (by omega) (by first | decide | omega) rfl ?_
      rw [(hg s (by omega)).1]
      refine zx_icmp_le (q := 61) (t := 63) dX8_isFair_58 (by decide) rfl (fun c_58 => ?_) (fun c_58 => ?_)
      · rw [nI_leI (by omega) (by omega)] at c_58
        refine zx_iinc4 (q := 66) dX8_isFair_63 rfl rfl ?_
        refine zx_goto (t := 3) dX8_isFair_66 (by decide) ?_
        rw [z_inc, z_al, decide_eq_true c_58, Bool.true_and]
        exact ih k (by omega) (s + 1) (by omega)
      · rw [nI_leI (by omega) (by omega)] at c_58
        refine zx_iconst (q := 62) (v := 0) dX8_isFair_61 (by decide) rfl ?_
        refine zx_zret dX8_isFair_62 rfl (by first | rfl | exact zb_nar _) (Nat.le_refl _) (Nat.le_refl _) ⟨_, rfl, ?_⟩
        exact ⟨by rw [z_al, decide_eq_false c_58]; rfl, rfl⟩
theorem t_X8_fair (d : Nat) {ns m : Nat} {g : Nat → Nat → Int32} (L : zLK gi ns m) (hn8 : g 108 0 = nI ns) (hg : zSM g (z_sh gi m) (z_ow gi m) ns) (p : Nat) (hp : p < 1000) : zCall l D tc A mX8_isFair d 0 0 [.ref 108, .int (nI (z_pr p 0)), .int (nI (z_pr p 1)), .int (nI (z_pr p 2))] (zs g gl f) (zQi fun r S' => r = zb (z_fr ns (z_sh gi m) (z_ow gi m) p) ∧ S' = zs g gl f) := by
  show zW l D tc A mX8_isFair d 0 0 0 0 0 [some (.ref 108), some (.int (nI (z_pr p 0))), some (.int (nI (z_pr p 1))), some (.int (nI (z_pr p 2))), none] [] (zs g gl f) _
  refine zx_iconst (q := 1) (v := 0) dX8_isFair_0 (by decide) rfl ?_
  refine zx_istore4 (q := 3) dX8_isFair_1 rfl rfl ?_
  exact lp_X8_fair d L hn8 hg p hp ns 0 (by omega)
theorem lp_X8_prB (d : Nat) {ns m : Nat} {g : Nat → Nat → Int32} (L : zLK gi ns m) (hn8 : g 108 0 = nI ns) (hg : zSM g (z_sh gi m) (z_ow gi m) ns) (e13 : ∀ s, g 113 s = gi 113 s) (wa : Int32) (p : Nat) (hp : p < 1000) (fo mo : Int32) {Q : Option Value → zw_S → Prop}
    (kT : ¬ nI (z_py p (z_ct gi m ns 0)) ≤ mo → (z_fr ns (z_sh gi m) (z_ow gi m)) p = true → ∀ v5 v6 v7 v8, zW l D tc A mX8_prices (d + 1) 0 0 0 0 111 [some (.ref 108), some (.int wa), some (.int (nI p)), some (.int (nI (z_py p (z_ct gi m ns 0)))), some (.int (nI p)), v5, v6, v7, v8] [] (zs g gl f) Q)
    (kF : ¬ (¬ nI (z_py p (z_ct gi m ns 0)) ≤ mo ∧ (z_fr ns (z_sh gi m) (z_ow gi m)) p = true) → ∀ v5 v6 v7 v8, zW l D tc A mX8_prices (d + 1) 0 0 0 0 111 [some (.ref 108), some (.int wa), some (.int fo), some (.int mo), some (.int (nI p)), v5, v6, v7, v8] [] (zs g gl f) Q) (v5 v6 v7 v8 : Option Value) :
    zW l D tc A mX8_prices (d + 1) 0 0 0 0 31 [some (.ref 108), some (.int wa), some (.int fo), some (.int mo), some (.int (nI p)), v5, v6, v7, v8] [] (zs g gl f) Q := by
  refine zx_iload (q := 33) dX8_prices_31 rfl rfl ?_
  refine zx_bipush (q := 35) (v := 100) dX8_prices_33 (by decide) rfl ?_
  refine zx_idiv (q := 36) dX8_prices_35 (by decide) rfl ?_
  rw [show (100 : Int32) = nI 100 from rfl, z_div (by omega) (by omega)]
  rw [show p / 100 = z_pr p 0 from rfl]
  refine zx_istore5 (q := 38) dX8_prices_36 rfl rfl ?_
  refine zx_iload (q := 40) dX8_prices_38 rfl rfl ?_
  refine zx_bipush (q := 42) (v := 10) dX8_prices_40 (by decide) rfl ?_
  refine zx_idiv (q := 43) dX8_prices_42 (by decide) rfl ?_
  rw [show (10 : Int32) = nI 10 from rfl, z_div (by omega) (by omega)]
  refine zx_bipush (q := 45) (v := 10) dX8_prices_43 (by decide) rfl ?_
  refine zx_irem (q := 46) dX8_prices_45 (by decide) rfl ?_
  rw [show (10 : Int32) = nI 10 from rfl, z_rem (by omega) (by omega)]
  rw [show p / 10 % 10 = z_pr p 1 from rfl]
  refine zx_istore6 (q := 48) dX8_prices_46 rfl rfl ?_
  refine zx_iload (q := 50) dX8_prices_48 rfl rfl ?_
  refine zx_bipush (q := 52) (v := 10) dX8_prices_50 (by decide) rfl ?_
  refine zx_irem (q := 53) dX8_prices_52 (by decide) rfl ?_
  rw [show (10 : Int32) = nI 10 from rfl, z_rem (by omega) (by omega)]
  rw [show p % 10 = z_pr p 2 from rfl]
  refine zx_istore7 (q := 55) dX8_prices_53 rfl rfl ?_
  refine zx_iload (q := 57) dX8_prices_55 rfl rfl ?_
  refine zx_aload_n (q := 58) dX8_prices_57 rfl rfl rfl ?_
  refine zx_iconst (q := 59) (v := 0) dX8_prices_58 (by decide) rfl ?_
  refine zx_callV1i (q := 62) (y' := mX8_ownCount) dX8_prices_59 ml_RX8_281 ok_mX8_ownCount rfl (by decide) rfl (Nat.le_of_ble_eq_true rfl) (Nat.le_of_ble_eq_true rfl) (Nat.le_refl _) (Nat.le_refl _) rfl (t_ownL _ 0 L (by omega) hn8 e13 hg) ?_
  rintro _ _ ⟨rfl, rfl⟩
  refine zx_imul (q := 63) dX8_prices_62 rfl ?_
  refine zx_iload (q := 65) dX8_prices_63 rfl rfl ?_
  refine zx_aload_n (q := 66) dX8_prices_65 rfl rfl rfl ?_
  refine zx_iconst (q := 67) (v := 1) dX8_prices_66 (by decide) rfl ?_
  refine zx_callV1i (q := 70) (y' := mX8_ownCount) dX8_prices_67 ml_RX8_281 ok_mX8_ownCount rfl (by decide) rfl (Nat.le_of_ble_eq_true rfl) (Nat.le_of_ble_eq_true rfl) (Nat.le_refl _) (Nat.le_refl _) rfl (t_ownL _ 1 L (by omega) hn8 e13 hg) ?_
  rintro _ _ ⟨rfl, rfl⟩
  refine zx_imul (q := 71) dX8_prices_70 rfl ?_
  refine zx_iadd (q := 72) dX8_prices_71 rfl ?_
  refine zx_iload (q := 74) dX8_prices_72 rfl rfl ?_
  refine zx_aload_n (q := 75) dX8_prices_74 rfl rfl rfl ?_
  refine zx_iconst (q := 76) (v := 2) dX8_prices_75 (by decide) rfl ?_
  refine zx_callV1i (q := 79) (y' := mX8_ownCount) dX8_prices_76 ml_RX8_281 ok_mX8_ownCount rfl (by decide) rfl (Nat.le_of_ble_eq_true rfl) (Nat.le_of_ble_eq_true rfl) (Nat.le_refl _) (Nat.le_refl _) rfl (t_ownL _ 2 L (by omega) hn8 e13 hg) ?_
  rintro _ _ ⟨rfl, rfl⟩
  refine zx_imul (q := 80) dX8_prices_79 rfl ?_
  refine zx_iadd (q := 81) dX8_prices_80 rfl ?_
  rw [z_mul, z_mul, z_mul, nI_add, nI_add, show z_pr p 0 * z_ct gi m ns 0 0 + z_pr p 1 * z_ct gi m ns 0 1 + z_pr p 2 * z_ct gi m ns 0 2 = z_py p (z_ct gi m ns 0) from by simp [z_py, z_sN]]
  refine zx_istore8 (q := 83) dX8_prices_81 rfl rfl ?_
  refine zx_iload (q := 85) dX8_prices_83 rfl rfl ?_
  refine zx_iload_n (q := 86) dX8_prices_85 rfl rfl rfl ?_
  refine zx_icmp_le (q := 89) (t := 111) dX8_prices_86 (by decide) rfl (fun c_86 => ?_) (fun c_86 => ?_)
  · first
      | (have q1 := hfy; exact kT c_86 hfy _ _ _ _)
      | (have q1 := hfz; exact kF (fun z => hfz z.2) _ _ _ _)
      | exact kF (fun z => z.1 c_86) _ _ _ _
  · refine zx_aload_n (q := 90) dX8_prices_89 rfl rfl rfl ?_
    refine zx_iload (q := 92) dX8_prices_90 rfl rfl ?_
    refine zx_iload (q := 94) dX8_prices_92 rfl rfl ?_
    refine zx_iload (q := 96) dX8_prices_94 rfl rfl ?_
    refine zx_callV3i (q := 99) (y' := mX8_isFair) dX8_prices_96 ml_RX8_330 ok_mX8_isFair rfl (by decide) rfl (Nat.le_of_ble_eq_true rfl) (Nat.le_of_ble_eq_true rfl) (Nat.le_refl _) (Nat.le_refl _) rfl (t_X8_fair _ L hn8 hg p hp) ?_
    rintro _ _ ⟨rfl, rfl⟩
    refine zx_if_ne (q := 102) (t := 105) dX8_prices_99 (by decide) rfl (fun c_99 => ?_) (fun c_99 => ?_)
    · have hfy : (z_fr ns (z_sh gi m) (z_ow gi m)) p = true := (zb_nz _).mp c_99
      refine zx_iload (q := 107) dX8_prices_105 rfl rfl ?_
      refine zx_istore2 (q := 108) dX8_prices_107 rfl rfl ?_
      refine zx_iload (q := 110) dX8_prices_108 rfl rfl ?_
      refine zx_istore3 (q := 111) dX8_prices_110 rfl rfl ?_
      first
        | (have q1 := hfy; exact kT c_86 hfy _ _ _ _)
        | (have q1 := hfz; exact kF (fun z => hfz z.2) _ _ _ _)
        | exact kF (fun z => z.1 c_86) _ _ _ _
    · have hfz : ¬ (z_fr ns (z_sh gi m) (z_ow gi m)) p = true := fun z => by rw [z] at c_99; exact absurd c_99 (by decide)
      refine zx_goto (t := 111) dX8_prices_102 (by decide) ?_
      first
        | (have q1 := hfy; exact kT c_86 hfy _ _ _ _)
        | (have q1 := hfz; exact kF (fun z => hfz z.2) _ _ _ _)
        | exact kF (fun z => z.1 c_86) _ _ _ _
theorem lp_X8_prices (d : Nat) {ns m : Nat} {g : Nat → Nat → Int32} (L : zLK gi ns m) (hn8 : g 108 0 = nI ns) (hg : zSM g (z_sh gi m) (z_ow gi m) ns) (e13 : ∀ s, g 113 s = gi 113 s) (wa : Int32) {Q : Option Value → zw_S → Prop} (kk : ∀ b v5 v6 v7 v8, b = z_best gi m ns → zW l D tc A mX8_prices (d + 1) 0 0 0 0 117 [some (.ref 108), some (.int wa), some (.int (nI b)), some (.int (nI (z_py b (z_ct gi m ns 0)))), some (.int (nI 1000)), v5, v6, v7, v8] [] (zs g gl f) Q) : ∀ (k p b : Nat) (v5 v6 v7 v8 : Option Value), p + k = 1000 → b < 1000 → z_bst (z_ct gi m ns 0) (z_fr ns (z_sh gi m) (z_ow gi m)) k p b = z_best gi m ns → zW l D tc A mX8_prices (d + 1) 0 0 0 0 23 [some (.ref 108), some (.int wa), some (.int (nI b)), some (.int (nI (z_py b (z_ct gi m ns 0)))), some (.int (nI p)), v5, v6, v7, v8] [] (zs g gl f) Q := by
  intro k
  induction k using Nat.strongRecOn with
  | _ k ih =>
    intro p b v5 v6 v7 v8 hp hb hz
    refine zx_iload (q := 25) dX8_prices_23 rfl rfl ?_
    refine zx_sipush (q := 28) (v := 1000) dX8_prices_25 (by decide) rfl ?_
    refine zx_icmp_ge (q := 31) (t := 117) dX8_prices_28 (by decide) rfl (fun c_28 => ?_) (fun c_28 => ?_)
    · have hk0 : k = 0 := by rw [show (1000 : Int32) = nI 1000 from rfl, nI_leI (by omega) (by omega)] at c_28; omega
      subst hk0
      have hp1 : p = 1000 := by omega
      subst hp1
      exact kk b _ _ _ _ hz
    · have hp9 : p < 1000 := by rw [show (1000 : Int32) = nI 1000 from rfl, nI_leI (by omega) (by omega)] at c_28; omega
      obtain ⟨k, rfl⟩ : ∃ q, k = q + 1 := ⟨k - 1, by omega⟩
      have hb1 := z_py_le (C := (z_ct gi m ns 0)) (B := 119880) hp9 (fun h hh => z_ct_le (w := 0) L (by omega) hh)
      have hb2 := z_py_le (C := (z_ct gi m ns 0)) (B := 119880) hb (fun h hh => z_ct_le (w := 0) L (by omega) hh)
      rw [z_bst] at hz
      refine lp_X8_prB d L hn8 hg e13 wa p hp9 _ _ (fun t1 t2 v5 v6 v7 v8 => ?_) (fun t1 v5 v6 v7 v8 => ?_) _ _ _ _
      · rw [nI_leI (by omega) (by omega)] at t1
        rw [if_pos ⟨by omega, t2⟩] at hz
        refine zx_iinc4 (q := 114) dX8_prices_111 rfl rfl ?_
        refine zx_goto (t := 23) dX8_prices_114 (by decide) ?_
        rw [z_inc]
        exact ih k (by omega) (p + 1) p _ _ _ _ (by omega) hp9 hz
      · rw [nI_leI (by omega) (by omega)] at t1
        rw [if_neg (fun z => t1 ⟨by omega, z.2⟩)] at hz
        refine zx_iinc4 (q := 114) dX8_prices_111 rfl rfl ?_
        refine zx_goto (t := 23) dX8_prices_114 (by decide) ?_
        rw [z_inc]
        exact ih k (by omega) (p + 1) b _ _ _ _ (by omega) hb hz
set_option maxHeartbeats 4000000 in
theorem op_prices (d : Nat) (a : Int32) (hR : zRel gi gl) : zOpI l D tc A mX7_prices mX8_prices (d + 5) [.int a] gi gl f := by
  obtain ⟨ns, m, L⟩ := zLK_of hR
  have hns := L.hns
  by_cases h0 : a = 0
  · subst h0
    have hbl : z_best gi m ns < 1000 := z_bst_lt 999 1 0 (by omega) (by omega)
    show zW l D tc A mX7_prices (d + 5) 0 0 0 0 0 [some (.ref 0), some (.int 0), none, none] [] (zs gi gl f) _
    refine zx_iload_n (q := 1) dX7_prices_0 rfl rfl rfl ?_
    refine zx_iconst (q := 2) (v := 1) dX7_prices_1 (by decide) rfl ?_
    refine zx_isub (q := 3) dX7_prices_2 rfl ?_
    refine zx_callS1i (q := 6) (y' := mX7_isHole) dX7_prices_3 ml_RX7_101 ok_mX7_isHole (Nat.le_of_ble_eq_true rfl) (Nat.le_of_ble_eq_true rfl) (Nat.le_refl _) (Nat.le_refl _) rfl (t_X7_isHole _ _) ?_
    rintro _ _ ⟨rfl, rfl⟩
    refine zx_istore2 (q := 7) dX7_prices_6 rfl rfl ?_
    refine zx_iload_n (q := 8) dX7_prices_7 rfl rfl rfl ?_
    refine zx_if_ne_f (t := 17) (q := 11) dX7_prices_8 (by decide) rfl (zk_f (by decide)) ?_
    refine zx_iload_n (q := 12) dX7_prices_11 rfl rfl rfl ?_
    refine zx_if_eq_t (t := 17) (q := 15) dX7_prices_12 (by decide) rfl (rfl) ?_
    refine zx_aload_n (q := 18) dX7_prices_17 rfl rfl rfl ?_
    refine zx_callV0v (q := 21) (y' := mX7_look) dX7_prices_18 ml_RX7_95 ok_mX7_look rfl (by decide) rfl (Nat.le_of_ble_eq_true rfl) (Nat.le_of_ble_eq_true rfl) (Nat.le_refl _) (Nat.le_refl _) rfl (t_X7_look _ L) ?_
    rintro _ ⟨g1, rfl, k1, s1⟩
    refine zx_aload_n (q := 22) dX7_prices_21 rfl rfl rfl ?_
    refine zx_callV0v (q := 25) (y' := mX7_wantCountsOfHerd) dX7_prices_22 ml_RX7_184 ok_mX7_wantCountsOfHerd rfl (by decide) rfl (Nat.le_of_ble_eq_true rfl) (Nat.le_of_ble_eq_true rfl) (Nat.le_refl _) (Nat.le_refl _) rfl (t_X7_want _ L k1 s1) ?_
    rintro _ ⟨g2, rfl, k2, w2⟩
    have hs2 : zSG g2 ns (z_most gi) (z_sh gi m) (z_ow gi m) ns := zSG_cg s1 (fun k j a b => k2 k j (by omega)) L.hns
    have e2 : ∀ k j, ¬ (47 ≤ k ∧ k ≤ 62) → g2 k j = gi k j := fun k j z => by rw [k2 _ _ (by omega), k1 _ _ (by omega)]
    refine zx_aload_n (q := 26) dX7_prices_25 rfl rfl rfl ?_
    refine zx_aload_n (q := 27) dX7_prices_26 rfl rfl rfl ?_
    refine zy_getR (q := 30) dX7_prices_27 fl_RX7_55 rfl rfl rfl rfl ?_
    refine zx_callV1i (q := 33) (y' := mX7_bestPrices) dX7_prices_30 ml_RX7_192 ok_mX7_bestPrices rfl (by decide) rfl (Nat.le_of_ble_eq_true rfl) (Nat.le_of_ble_eq_true rfl) (Nat.le_refl _) (Nat.le_refl _) rfl (t_X7_best _ L ((e2 _ _ (by omega)).trans L.hs1) hs2 w2) ?_
    rintro _ _ ⟨rfl, rfl⟩
    refine zx_istore3 (q := 34) dX7_prices_33 rfl rfl ?_
    refine zx_iload_n (q := 35) dX7_prices_34 rfl rfl rfl ?_
    refine zx_if_eq_t (t := 48) (q := 38) dX7_prices_35 (by decide) rfl (zk_f (by decide)) ?_
    refine zx_iload_n (q := 49) dX7_prices_48 rfl rfl rfl ?_
    refine zx_aload_n (q := 50) dX7_prices_49 rfl rfl rfl ?_
    refine zy_getR (q := 53) dX7_prices_50 fl_RX7_55 rfl rfl rfl rfl ?_
    refine zx_callS2i (q := 56) (y' := mX7_pays) dX7_prices_53 ml_RX7_199 ok_mX7_pays (Nat.le_of_ble_eq_true rfl) (Nat.le_of_ble_eq_true rfl) (Nat.le_refl _) (Nat.le_refl _) rfl (t_X7_pays _ (z_best gi m ns) 62 hbl rfl w2) ?_
    rintro _ _ ⟨rfl, rfl⟩
    refine zx_iret dX7_prices_56 rfl (Nat.le_refl _) (Nat.le_refl _) ⟨_, rfl, ?_⟩
    refine ⟨_, _, _, rfl, ?_⟩
    show zW l D tc A mX8_prices (d + 5) 0 0 0 0 0 [some (.ref 108), some (.int 0), none, none, none, none, none, none, none] [] (zs _ _ _) _
    refine zx_aload_n (q := 1) dX8_prices_0 rfl rfl rfl ?_
    refine zx_iload_n (q := 2) dX8_prices_1 rfl rfl rfl ?_
    refine zx_iconst (q := 3) (v := 0) dX8_prices_2 (by decide) rfl ?_
    refine zx_iconst (q := 4) (v := 3) dX8_prices_3 (by decide) rfl ?_
    refine zx_callV3i (q := 7) (y' := mX8_in) dX8_prices_4 ml_RX8_200 ok_mX8_in rfl (by decide) rfl (Nat.le_of_ble_eq_true rfl) (Nat.le_of_ble_eq_true rfl) (Nat.le_refl _) (Nat.le_refl _) rfl (t_X8_in _ _ _ _ _) ?_
    rintro _ _ ⟨rfl, rfl⟩
    refine zx_if_ne_t (t := 12) (q := 10) dX8_prices_7 (by decide) rfl (zk_t (by decide)) ?_
    refine zx_aload_n (q := 13) dX8_prices_12 rfl rfl rfl ?_
    refine zx_callV0v (q := 16) (y' := mX8_layShows) dX8_prices_13 ml_RX8_278 ok_mX8_layShows rfl (by decide) rfl (Nat.le_of_ble_eq_true rfl) (Nat.le_of_ble_eq_true rfl) (Nat.le_refl _) (Nat.le_refl _) rfl (t_X8_layF _ L (fun k j a b => e2 k j (by unfold z_scr at a; omega))) ?_
    rintro _ ⟨g4, rfl, e4, h4⟩
    have e4 : ∀ k j, ¬ (47 ≤ k ∧ k ≤ 62) → ¬ (126 ≤ k ∧ k ≤ 128) → g4 k j = gi k j := fun k j a b => (e4 k j b).trans (e2 k j (by omega))
    refine zx_iconst (q := 17) (v := 0) dX8_prices_16 (by decide) rfl ?_
    refine zx_istore2 (q := 18) dX8_prices_17 rfl rfl ?_
    refine zx_iconst (q := 19) (v := (-1)) dX8_prices_18 (by decide) rfl ?_
    refine zx_istore3 (q := 20) dX8_prices_19 rfl rfl ?_
    refine zx_iconst (q := 21) (v := 0) dX8_prices_20 (by decide) rfl ?_
    refine zx_istore4 (q := 23) dX8_prices_21 rfl rfl ?_
    have hn8 : g4 108 0 = nI ns := (e4 _ _ (by omega) (by omega)).trans L.hs2
    have e13 : ∀ s, g4 113 s = gi 113 s := fun s => e4 _ _ (by omega) (by omega)
    refine zx_iload (q := 25) dX8_prices_23 rfl rfl ?_
    refine zx_sipush (q := 28) (v := 1000) dX8_prices_25 (by decide) rfl ?_
    refine zx_icmp_ge_f (t := 117) (q := 31) dX8_prices_28 (by decide) rfl (by decide) ?_
    refine lp_X8_prB (d + 4) L hn8 h4 e13 _ 0 (by omega) _ _ (fun t1 t2 v5 v6 v7 v8 => ?_) (fun t1 v5 v6 v7 v8 => ?_) _ _ _ _
    · refine zx_iinc4 (q := 114) dX8_prices_111 rfl rfl ?_
      refine zx_goto (t := 23) dX8_prices_114 (by decide) ?_
      rw [z_inc]
      refine lp_X8_prices (d + 4) L hn8 h4 e13 _ (fun b v5 v6 v7 v8 hbe => ?_) 999 1 0 _ _ _ _ (by omega) (by omega) rfl
      rw [hbe]
      refine zx_iload_n (q := 118) dX8_prices_117 rfl rfl rfl ?_
      refine zx_if_ne_f (t := 125) (q := 121) dX8_prices_118 (by decide) rfl (rfl) ?_
      refine zx_iload_n (q := 122) dX8_prices_121 rfl rfl rfl ?_
      refine zx_goto (t := 156) dX8_prices_122 (by decide) ?_
      refine zx_iret dX8_prices_156 rfl (Nat.le_refl _) (Nat.le_refl _) ⟨_, rfl, ?_⟩
      exact ⟨rfl, _, _, _, rfl, zRel_scr hR (fun k j z => e4 k j (by unfold z_scr at z; omega) (by unfold z_scr at z; omega))⟩
    · exact absurd ⟨(show ¬ nI (z_py 0 (z_ct gi m ns 0)) ≤ -1 from by rw [show z_py 0 (z_ct gi m ns 0) = 0 from by simp [z_py, z_sN, z_pr]]; decide), z_fr0 ns (z_sh gi m) (z_ow gi m)⟩ t1
  · by_cases h1 : a = 1
    · subst h1
      have hbl : z_best gi m ns < 1000 := z_bst_lt 999 1 0 (by omega) (by omega)
      show zW l D tc A mX7_prices (d + 5) 0 0 0 0 0 [some (.ref 0), some (.int 1), none, none] [] (zs gi gl f) _
      refine zx_iload_n (q := 1) dX7_prices_0 rfl rfl rfl ?_
      refine zx_iconst (q := 2) (v := 1) dX7_prices_1 (by decide) rfl ?_
      refine zx_isub (q := 3) dX7_prices_2 rfl ?_
      refine zx_callS1i (q := 6) (y' := mX7_isHole) dX7_prices_3 ml_RX7_101 ok_mX7_isHole (Nat.le_of_ble_eq_true rfl) (Nat.le_of_ble_eq_true rfl) (Nat.le_refl _) (Nat.le_refl _) rfl (t_X7_isHole _ _) ?_
      rintro _ _ ⟨rfl, rfl⟩
      refine zx_istore2 (q := 7) dX7_prices_6 rfl rfl ?_
      refine zx_iload_n (q := 8) dX7_prices_7 rfl rfl rfl ?_
      refine zx_if_ne_t (t := 17) (q := 11) dX7_prices_8 (by decide) rfl (zk_t (by decide)) ?_
      refine zx_aload_n (q := 18) dX7_prices_17 rfl rfl rfl ?_
      refine zx_callV0v (q := 21) (y' := mX7_look) dX7_prices_18 ml_RX7_95 ok_mX7_look rfl (by decide) rfl (Nat.le_of_ble_eq_true rfl) (Nat.le_of_ble_eq_true rfl) (Nat.le_refl _) (Nat.le_refl _) rfl (t_X7_look _ L) ?_
      rintro _ ⟨g1, rfl, k1, s1⟩
      refine zx_aload_n (q := 22) dX7_prices_21 rfl rfl rfl ?_
      refine zx_callV0v (q := 25) (y' := mX7_wantCountsOfHerd) dX7_prices_22 ml_RX7_184 ok_mX7_wantCountsOfHerd rfl (by decide) rfl (Nat.le_of_ble_eq_true rfl) (Nat.le_of_ble_eq_true rfl) (Nat.le_refl _) (Nat.le_refl _) rfl (t_X7_want _ L k1 s1) ?_
      rintro _ ⟨g2, rfl, k2, w2⟩
      have hs2 : zSG g2 ns (z_most gi) (z_sh gi m) (z_ow gi m) ns := zSG_cg s1 (fun k j a b => k2 k j (by omega)) L.hns
      have e2 : ∀ k j, ¬ (47 ≤ k ∧ k ≤ 62) → g2 k j = gi k j := fun k j z => by rw [k2 _ _ (by omega), k1 _ _ (by omega)]
      refine zx_aload_n (q := 26) dX7_prices_25 rfl rfl rfl ?_
      refine zx_aload_n (q := 27) dX7_prices_26 rfl rfl rfl ?_
      refine zy_getR (q := 30) dX7_prices_27 fl_RX7_55 rfl rfl rfl rfl ?_
      refine zx_callV1i (q := 33) (y' := mX7_bestPrices) dX7_prices_30 ml_RX7_192 ok_mX7_bestPrices rfl (by decide) rfl (Nat.le_of_ble_eq_true rfl) (Nat.le_of_ble_eq_true rfl) (Nat.le_refl _) (Nat.le_refl _) rfl (t_X7_best _ L ((e2 _ _ (by omega)).trans L.hs1) hs2 w2) ?_
      rintro _ _ ⟨rfl, rfl⟩
      refine zx_istore3 (q := 34) dX7_prices_33 rfl rfl ?_
      refine zx_iload_n (q := 35) dX7_prices_34 rfl rfl rfl ?_
      refine zx_if_eq_f (t := 48) (q := 38) dX7_prices_35 (by decide) rfl (zk_t (by decide)) ?_
      refine zx_iload_n (q := 39) dX7_prices_38 rfl rfl rfl ?_
      refine zx_iload_n (q := 40) dX7_prices_39 rfl rfl rfl ?_
      refine zx_iconst (q := 41) (v := 1) dX7_prices_40 (by decide) rfl ?_
      refine zx_isub (q := 42) dX7_prices_41 rfl ?_
      rw [show (1 : Int32) - 1 = nI 0 from by decide]
      refine zx_callS2i (q := 45) (y' := mX7_priceBy) dX7_prices_42 ml_RX7_195 ok_mX7_priceBy (Nat.le_of_ble_eq_true rfl) (Nat.le_of_ble_eq_true rfl) (Nat.le_refl _) (Nat.le_refl _) rfl (t_X7_pb _ (z_best gi m ns) 0 hbl (by omega)) ?_
      rintro _ _ ⟨rfl, rfl⟩
      refine zx_goto (t := 56) dX7_prices_45 (by decide) ?_
      refine zx_iret dX7_prices_56 rfl (Nat.le_refl _) (Nat.le_refl _) ⟨_, rfl, ?_⟩
      refine ⟨_, _, _, rfl, ?_⟩
      show zW l D tc A mX8_prices (d + 5) 0 0 0 0 0 [some (.ref 108), some (.int 1), none, none, none, none, none, none, none] [] (zs _ _ _) _
      refine zx_aload_n (q := 1) dX8_prices_0 rfl rfl rfl ?_
      refine zx_iload_n (q := 2) dX8_prices_1 rfl rfl rfl ?_
      refine zx_iconst (q := 3) (v := 0) dX8_prices_2 (by decide) rfl ?_
      refine zx_iconst (q := 4) (v := 3) dX8_prices_3 (by decide) rfl ?_
      refine zx_callV3i (q := 7) (y' := mX8_in) dX8_prices_4 ml_RX8_200 ok_mX8_in rfl (by decide) rfl (Nat.le_of_ble_eq_true rfl) (Nat.le_of_ble_eq_true rfl) (Nat.le_refl _) (Nat.le_refl _) rfl (t_X8_in _ _ _ _ _) ?_
      rintro _ _ ⟨rfl, rfl⟩
      refine zx_if_ne_t (t := 12) (q := 10) dX8_prices_7 (by decide) rfl (zk_t (by decide)) ?_
      refine zx_aload_n (q := 13) dX8_prices_12 rfl rfl rfl ?_
      refine zx_callV0v (q := 16) (y' := mX8_layShows) dX8_prices_13 ml_RX8_278 ok_mX8_layShows rfl (by decide) rfl (Nat.le_of_ble_eq_true rfl) (Nat.le_of_ble_eq_true rfl) (Nat.le_refl _) (Nat.le_refl _) rfl (t_X8_layF _ L (fun k j a b => e2 k j (by unfold z_scr at a; omega))) ?_
      rintro _ ⟨g4, rfl, e4, h4⟩
      have e4 : ∀ k j, ¬ (47 ≤ k ∧ k ≤ 62) → ¬ (126 ≤ k ∧ k ≤ 128) → g4 k j = gi k j := fun k j a b => (e4 k j b).trans (e2 k j (by omega))
      refine zx_iconst (q := 17) (v := 0) dX8_prices_16 (by decide) rfl ?_
      refine zx_istore2 (q := 18) dX8_prices_17 rfl rfl ?_
      refine zx_iconst (q := 19) (v := (-1)) dX8_prices_18 (by decide) rfl ?_
      refine zx_istore3 (q := 20) dX8_prices_19 rfl rfl ?_
      refine zx_iconst (q := 21) (v := 0) dX8_prices_20 (by decide) rfl ?_
      refine zx_istore4 (q := 23) dX8_prices_21 rfl rfl ?_
      have hn8 : g4 108 0 = nI ns := (e4 _ _ (by omega) (by omega)).trans L.hs2
      have e13 : ∀ s, g4 113 s = gi 113 s := fun s => e4 _ _ (by omega) (by omega)
      refine zx_iload (q := 25) dX8_prices_23 rfl rfl ?_
      refine zx_sipush (q := 28) (v := 1000) dX8_prices_25 (by decide) rfl ?_
      refine zx_icmp_ge_f (t := 117) (q := 31) dX8_prices_28 (by decide) rfl (by decide) ?_
      refine lp_X8_prB (d + 4) L hn8 h4 e13 _ 0 (by omega) _ _ (fun t1 t2 v5 v6 v7 v8 => ?_) (fun t1 v5 v6 v7 v8 => ?_) _ _ _ _
      · refine zx_iinc4 (q := 114) dX8_prices_111 rfl rfl ?_
        refine zx_goto (t := 23) dX8_prices_114 (by decide) ?_
        rw [z_inc]
        refine lp_X8_prices (d + 4) L hn8 h4 e13 _ (fun b v5 v6 v7 v8 hbe => ?_) 999 1 0 _ _ _ _ (by omega) (by omega) rfl
        rw [hbe]
        refine zx_iload_n (q := 118) dX8_prices_117 rfl rfl rfl ?_
        refine zx_if_ne_t (t := 125) (q := 121) dX8_prices_118 (by decide) rfl (by decide) ?_
        refine zx_iload_n (q := 126) dX8_prices_125 rfl rfl rfl ?_
        refine zx_iconst (q := 127) (v := 1) dX8_prices_126 (by decide) rfl ?_
        refine zx_icmp_ne_f (t := 137) (q := 130) dX8_prices_127 (by decide) rfl (rfl) ?_
        refine zx_iload_n (q := 131) dX8_prices_130 rfl rfl rfl ?_
        refine zx_bipush (q := 133) (v := 100) dX8_prices_131 (by decide) rfl ?_
        refine zx_idiv (q := 134) dX8_prices_133 (by decide) rfl ?_
        refine zx_goto (t := 156) dX8_prices_134 (by decide) ?_
        refine zx_iret dX8_prices_156 rfl (Nat.le_refl _) (Nat.le_refl _) ⟨_, rfl, ?_⟩
        exact ⟨by rw [show (100 : Int32) = nI 100 from rfl, z_div (by omega) (by omega)]; rfl, _, _, _, rfl, zRel_scr hR (fun k j z => e4 k j (by unfold z_scr at z; omega) (by unfold z_scr at z; omega))⟩
      · exact absurd ⟨(show ¬ nI (z_py 0 (z_ct gi m ns 0)) ≤ -1 from by rw [show z_py 0 (z_ct gi m ns 0) = 0 from by simp [z_py, z_sN, z_pr]]; decide), z_fr0 ns (z_sh gi m) (z_ow gi m)⟩ t1
    · by_cases h2 : a = 2
      · subst h2
        have hbl : z_best gi m ns < 1000 := z_bst_lt 999 1 0 (by omega) (by omega)
        show zW l D tc A mX7_prices (d + 5) 0 0 0 0 0 [some (.ref 0), some (.int 2), none, none] [] (zs gi gl f) _
        refine zx_iload_n (q := 1) dX7_prices_0 rfl rfl rfl ?_
        refine zx_iconst (q := 2) (v := 1) dX7_prices_1 (by decide) rfl ?_
        refine zx_isub (q := 3) dX7_prices_2 rfl ?_
        refine zx_callS1i (q := 6) (y' := mX7_isHole) dX7_prices_3 ml_RX7_101 ok_mX7_isHole (Nat.le_of_ble_eq_true rfl) (Nat.le_of_ble_eq_true rfl) (Nat.le_refl _) (Nat.le_refl _) rfl (t_X7_isHole _ _) ?_
        rintro _ _ ⟨rfl, rfl⟩
        refine zx_istore2 (q := 7) dX7_prices_6 rfl rfl ?_
        refine zx_iload_n (q := 8) dX7_prices_7 rfl rfl rfl ?_
        refine zx_if_ne_t (t := 17) (q := 11) dX7_prices_8 (by decide) rfl (zk_t (by decide)) ?_
        refine zx_aload_n (q := 18) dX7_prices_17 rfl rfl rfl ?_
        refine zx_callV0v (q := 21) (y' := mX7_look) dX7_prices_18 ml_RX7_95 ok_mX7_look rfl (by decide) rfl (Nat.le_of_ble_eq_true rfl) (Nat.le_of_ble_eq_true rfl) (Nat.le_refl _) (Nat.le_refl _) rfl (t_X7_look _ L) ?_
        rintro _ ⟨g1, rfl, k1, s1⟩
        refine zx_aload_n (q := 22) dX7_prices_21 rfl rfl rfl ?_
        refine zx_callV0v (q := 25) (y' := mX7_wantCountsOfHerd) dX7_prices_22 ml_RX7_184 ok_mX7_wantCountsOfHerd rfl (by decide) rfl (Nat.le_of_ble_eq_true rfl) (Nat.le_of_ble_eq_true rfl) (Nat.le_refl _) (Nat.le_refl _) rfl (t_X7_want _ L k1 s1) ?_
        rintro _ ⟨g2, rfl, k2, w2⟩
        have hs2 : zSG g2 ns (z_most gi) (z_sh gi m) (z_ow gi m) ns := zSG_cg s1 (fun k j a b => k2 k j (by omega)) L.hns
        have e2 : ∀ k j, ¬ (47 ≤ k ∧ k ≤ 62) → g2 k j = gi k j := fun k j z => by rw [k2 _ _ (by omega), k1 _ _ (by omega)]
        refine zx_aload_n (q := 26) dX7_prices_25 rfl rfl rfl ?_
        refine zx_aload_n (q := 27) dX7_prices_26 rfl rfl rfl ?_
        refine zy_getR (q := 30) dX7_prices_27 fl_RX7_55 rfl rfl rfl rfl ?_
        refine zx_callV1i (q := 33) (y' := mX7_bestPrices) dX7_prices_30 ml_RX7_192 ok_mX7_bestPrices rfl (by decide) rfl (Nat.le_of_ble_eq_true rfl) (Nat.le_of_ble_eq_true rfl) (Nat.le_refl _) (Nat.le_refl _) rfl (t_X7_best _ L ((e2 _ _ (by omega)).trans L.hs1) hs2 w2) ?_
        rintro _ _ ⟨rfl, rfl⟩
        refine zx_istore3 (q := 34) dX7_prices_33 rfl rfl ?_
        refine zx_iload_n (q := 35) dX7_prices_34 rfl rfl rfl ?_
        refine zx_if_eq_f (t := 48) (q := 38) dX7_prices_35 (by decide) rfl (zk_t (by decide)) ?_
        refine zx_iload_n (q := 39) dX7_prices_38 rfl rfl rfl ?_
        refine zx_iload_n (q := 40) dX7_prices_39 rfl rfl rfl ?_
        refine zx_iconst (q := 41) (v := 1) dX7_prices_40 (by decide) rfl ?_
        refine zx_isub (q := 42) dX7_prices_41 rfl ?_
        rw [show (2 : Int32) - 1 = nI 1 from by decide]
        refine zx_callS2i (q := 45) (y' := mX7_priceBy) dX7_prices_42 ml_RX7_195 ok_mX7_priceBy (Nat.le_of_ble_eq_true rfl) (Nat.le_of_ble_eq_true rfl) (Nat.le_refl _) (Nat.le_refl _) rfl (t_X7_pb _ (z_best gi m ns) 1 hbl (by omega)) ?_
        rintro _ _ ⟨rfl, rfl⟩
        refine zx_goto (t := 56) dX7_prices_45 (by decide) ?_
        refine zx_iret dX7_prices_56 rfl (Nat.le_refl _) (Nat.le_refl _) ⟨_, rfl, ?_⟩
        refine ⟨_, _, _, rfl, ?_⟩
        show zW l D tc A mX8_prices (d + 5) 0 0 0 0 0 [some (.ref 108), some (.int 2), none, none, none, none, none, none, none] [] (zs _ _ _) _
        refine zx_aload_n (q := 1) dX8_prices_0 rfl rfl rfl ?_
        refine zx_iload_n (q := 2) dX8_prices_1 rfl rfl rfl ?_
        refine zx_iconst (q := 3) (v := 0) dX8_prices_2 (by decide) rfl ?_
        refine zx_iconst (q := 4) (v := 3) dX8_prices_3 (by decide) rfl ?_
        refine zx_callV3i (q := 7) (y' := mX8_in) dX8_prices_4 ml_RX8_200 ok_mX8_in rfl (by decide) rfl (Nat.le_of_ble_eq_true rfl) (Nat.le_of_ble_eq_true rfl) (Nat.le_refl _) (Nat.le_refl _) rfl (t_X8_in _ _ _ _ _) ?_
        rintro _ _ ⟨rfl, rfl⟩
        refine zx_if_ne_t (t := 12) (q := 10) dX8_prices_7 (by decide) rfl (zk_t (by decide)) ?_
        refine zx_aload_n (q := 13) dX8_prices_12 rfl rfl rfl ?_
        refine zx_callV0v (q := 16) (y' := mX8_layShows) dX8_prices_13 ml_RX8_278 ok_mX8_layShows rfl (by decide) rfl (Nat.le_of_ble_eq_true rfl) (Nat.le_of_ble_eq_true rfl) (Nat.le_refl _) (Nat.le_refl _) rfl (t_X8_layF _ L (fun k j a b => e2 k j (by unfold z_scr at a; omega))) ?_
        rintro _ ⟨g4, rfl, e4, h4⟩
        have e4 : ∀ k j, ¬ (47 ≤ k ∧ k ≤ 62) → ¬ (126 ≤ k ∧ k ≤ 128) → g4 k j = gi k j := fun k j a b => (e4 k j b).trans (e2 k j (by omega))
        refine zx_iconst (q := 17) (v := 0) dX8_prices_16 (by decide) rfl ?_
        refine zx_istore2 (q := 18) dX8_prices_17 rfl rfl ?_
        refine zx_iconst (q := 19) (v := (-1)) dX8_prices_18 (by decide) rfl ?_
        refine zx_istore3 (q := 20) dX8_prices_19 rfl rfl ?_
        refine zx_iconst (q := 21) (v := 0) dX8_prices_20 (by decide) rfl ?_
        refine zx_istore4 (q := 23) dX8_prices_21 rfl rfl ?_
        have hn8 : g4 108 0 = nI ns := (e4 _ _ (by omega) (by omega)).trans L.hs2
        have e13 : ∀ s, g4 113 s = gi 113 s := fun s => e4 _ _ (by omega) (by omega)
        refine zx_iload (q := 25) dX8_prices_23 rfl rfl ?_
        refine zx_sipush (q := 28) (v := 1000) dX8_prices_25 (by decide) rfl ?_
        refine zx_icmp_ge_f (t := 117) (q := 31) dX8_prices_28 (by decide) rfl (by decide) ?_
        refine lp_X8_prB (d + 4) L hn8 h4 e13 _ 0 (by omega) _ _ (fun t1 t2 v5 v6 v7 v8 => ?_) (fun t1 v5 v6 v7 v8 => ?_) _ _ _ _
        · refine zx_iinc4 (q := 114) dX8_prices_111 rfl rfl ?_
          refine zx_goto (t := 23) dX8_prices_114 (by decide) ?_
          rw [z_inc]
          refine lp_X8_prices (d + 4) L hn8 h4 e13 _ (fun b v5 v6 v7 v8 hbe => ?_) 999 1 0 _ _ _ _ (by omega) (by omega) rfl
          rw [hbe]
          refine zx_iload_n (q := 118) dX8_prices_117 rfl rfl rfl ?_
          refine zx_if_ne_t (t := 125) (q := 121) dX8_prices_118 (by decide) rfl (by decide) ?_
          refine zx_iload_n (q := 126) dX8_prices_125 rfl rfl rfl ?_
          refine zx_iconst (q := 127) (v := 1) dX8_prices_126 (by decide) rfl ?_
          refine zx_icmp_ne_t (t := 137) (q := 130) dX8_prices_127 (by decide) rfl (by decide) ?_
          refine zx_iload_n (q := 138) dX8_prices_137 rfl rfl rfl ?_
          refine zx_iconst (q := 139) (v := 2) dX8_prices_138 (by decide) rfl ?_
          refine zx_icmp_ne_f (t := 152) (q := 142) dX8_prices_139 (by decide) rfl (rfl) ?_
          refine zx_iload_n (q := 143) dX8_prices_142 rfl rfl rfl ?_
          refine zx_bipush (q := 145) (v := 10) dX8_prices_143 (by decide) rfl ?_
          refine zx_idiv (q := 146) dX8_prices_145 (by decide) rfl ?_
          refine zx_bipush (q := 148) (v := 10) dX8_prices_146 (by decide) rfl ?_
          refine zx_irem (q := 149) dX8_prices_148 (by decide) rfl ?_
          refine zx_goto (t := 156) dX8_prices_149 (by decide) ?_
          refine zx_iret dX8_prices_156 rfl (Nat.le_refl _) (Nat.le_refl _) ⟨_, rfl, ?_⟩
          exact ⟨by rw [show (10 : Int32) = nI 10 from rfl, z_div (by omega) (by omega), z_rem (by omega) (by omega)]; rfl, _, _, _, rfl, zRel_scr hR (fun k j z => e4 k j (by unfold z_scr at z; omega) (by unfold z_scr at z; omega))⟩
        · exact absurd ⟨(show ¬ nI (z_py 0 (z_ct gi m ns 0)) ≤ -1 from by rw [show z_py 0 (z_ct gi m ns 0) = 0 from by simp [z_py, z_sN, z_pr]]; decide), z_fr0 ns (z_sh gi m) (z_ow gi m)⟩ t1
      · by_cases h3 : a = 3
        · subst h3
          have hbl : z_best gi m ns < 1000 := z_bst_lt 999 1 0 (by omega) (by omega)
          show zW l D tc A mX7_prices (d + 5) 0 0 0 0 0 [some (.ref 0), some (.int 3), none, none] [] (zs gi gl f) _
          refine zx_iload_n (q := 1) dX7_prices_0 rfl rfl rfl ?_
          refine zx_iconst (q := 2) (v := 1) dX7_prices_1 (by decide) rfl ?_
          refine zx_isub (q := 3) dX7_prices_2 rfl ?_
          refine zx_callS1i (q := 6) (y' := mX7_isHole) dX7_prices_3 ml_RX7_101 ok_mX7_isHole (Nat.le_of_ble_eq_true rfl) (Nat.le_of_ble_eq_true rfl) (Nat.le_refl _) (Nat.le_refl _) rfl (t_X7_isHole _ _) ?_
          rintro _ _ ⟨rfl, rfl⟩
          refine zx_istore2 (q := 7) dX7_prices_6 rfl rfl ?_
          refine zx_iload_n (q := 8) dX7_prices_7 rfl rfl rfl ?_
          refine zx_if_ne_t (t := 17) (q := 11) dX7_prices_8 (by decide) rfl (zk_t (by decide)) ?_
          refine zx_aload_n (q := 18) dX7_prices_17 rfl rfl rfl ?_
          refine zx_callV0v (q := 21) (y' := mX7_look) dX7_prices_18 ml_RX7_95 ok_mX7_look rfl (by decide) rfl (Nat.le_of_ble_eq_true rfl) (Nat.le_of_ble_eq_true rfl) (Nat.le_refl _) (Nat.le_refl _) rfl (t_X7_look _ L) ?_
          rintro _ ⟨g1, rfl, k1, s1⟩
          refine zx_aload_n (q := 22) dX7_prices_21 rfl rfl rfl ?_
          refine zx_callV0v (q := 25) (y' := mX7_wantCountsOfHerd) dX7_prices_22 ml_RX7_184 ok_mX7_wantCountsOfHerd rfl (by decide) rfl (Nat.le_of_ble_eq_true rfl) (Nat.le_of_ble_eq_true rfl) (Nat.le_refl _) (Nat.le_refl _) rfl (t_X7_want _ L k1 s1) ?_
          rintro _ ⟨g2, rfl, k2, w2⟩
          have hs2 : zSG g2 ns (z_most gi) (z_sh gi m) (z_ow gi m) ns := zSG_cg s1 (fun k j a b => k2 k j (by omega)) L.hns
          have e2 : ∀ k j, ¬ (47 ≤ k ∧ k ≤ 62) → g2 k j = gi k j := fun k j z => by rw [k2 _ _ (by omega), k1 _ _ (by omega)]
          refine zx_aload_n (q := 26) dX7_prices_25 rfl rfl rfl ?_
          refine zx_aload_n (q := 27) dX7_prices_26 rfl rfl rfl ?_
          refine zy_getR (q := 30) dX7_prices_27 fl_RX7_55 rfl rfl rfl rfl ?_
          refine zx_callV1i (q := 33) (y' := mX7_bestPrices) dX7_prices_30 ml_RX7_192 ok_mX7_bestPrices rfl (by decide) rfl (Nat.le_of_ble_eq_true rfl) (Nat.le_of_ble_eq_true rfl) (Nat.le_refl _) (Nat.le_refl _) rfl (t_X7_best _ L ((e2 _ _ (by omega)).trans L.hs1) hs2 w2) ?_
          rintro _ _ ⟨rfl, rfl⟩
          refine zx_istore3 (q := 34) dX7_prices_33 rfl rfl ?_
          refine zx_iload_n (q := 35) dX7_prices_34 rfl rfl rfl ?_
          refine zx_if_eq_f (t := 48) (q := 38) dX7_prices_35 (by decide) rfl (zk_t (by decide)) ?_
          refine zx_iload_n (q := 39) dX7_prices_38 rfl rfl rfl ?_
          refine zx_iload_n (q := 40) dX7_prices_39 rfl rfl rfl ?_
          refine zx_iconst (q := 41) (v := 1) dX7_prices_40 (by decide) rfl ?_
          refine zx_isub (q := 42) dX7_prices_41 rfl ?_
          rw [show (3 : Int32) - 1 = nI 2 from by decide]
          refine zx_callS2i (q := 45) (y' := mX7_priceBy) dX7_prices_42 ml_RX7_195 ok_mX7_priceBy (Nat.le_of_ble_eq_true rfl) (Nat.le_of_ble_eq_true rfl) (Nat.le_refl _) (Nat.le_refl _) rfl (t_X7_pb _ (z_best gi m ns) 2 hbl (by omega)) ?_
          rintro _ _ ⟨rfl, rfl⟩
          refine zx_goto (t := 56) dX7_prices_45 (by decide) ?_
          refine zx_iret dX7_prices_56 rfl (Nat.le_refl _) (Nat.le_refl _) ⟨_, rfl, ?_⟩
          refine ⟨_, _, _, rfl, ?_⟩
          show zW l D tc A mX8_prices (d + 5) 0 0 0 0 0 [some (.ref 108), some (.int 3), none, none, none, none, none, none, none] [] (zs _ _ _) _
          refine zx_aload_n (q := 1) dX8_prices_0 rfl rfl rfl ?_
          refine zx_iload_n (q := 2) dX8_prices_1 rfl rfl rfl ?_
          refine zx_iconst (q := 3) (v := 0) dX8_prices_2 (by decide) rfl ?_
          refine zx_iconst (q := 4) (v := 3) dX8_prices_3 (by decide) rfl ?_
          refine zx_callV3i (q := 7) (y' := mX8_in) dX8_prices_4 ml_RX8_200 ok_mX8_in rfl (by decide) rfl (Nat.le_of_ble_eq_true rfl) (Nat.le_of_ble_eq_true rfl) (Nat.le_refl _) (Nat.le_refl _) rfl (t_X8_in _ _ _ _ _) ?_
          rintro _ _ ⟨rfl, rfl⟩
          refine zx_if_ne_t (t := 12) (q := 10) dX8_prices_7 (by decide) rfl (zk_t (by decide)) ?_
          refine zx_aload_n (q := 13) dX8_prices_12 rfl rfl rfl ?_
          refine zx_callV0v (q := 16) (y' := mX8_layShows) dX8_prices_13 ml_RX8_278 ok_mX8_layShows rfl (by decide) rfl (Nat.le_of_ble_eq_true rfl) (Nat.le_of_ble_eq_true rfl) (Nat.le_refl _) (Nat.le_refl _) rfl (t_X8_layF _ L (fun k j a b => e2 k j (by unfold z_scr at a; omega))) ?_
          rintro _ ⟨g4, rfl, e4, h4⟩
          have e4 : ∀ k j, ¬ (47 ≤ k ∧ k ≤ 62) → ¬ (126 ≤ k ∧ k ≤ 128) → g4 k j = gi k j := fun k j a b => (e4 k j b).trans (e2 k j (by omega))
          refine zx_iconst (q := 17) (v := 0) dX8_prices_16 (by decide) rfl ?_
          refine zx_istore2 (q := 18) dX8_prices_17 rfl rfl ?_
          refine zx_iconst (q := 19) (v := (-1)) dX8_prices_18 (by decide) rfl ?_
          refine zx_istore3 (q := 20) dX8_prices_19 rfl rfl ?_
          refine zx_iconst (q := 21) (v := 0) dX8_prices_20 (by decide) rfl ?_
          refine zx_istore4 (q := 23) dX8_prices_21 rfl rfl ?_
          have hn8 : g4 108 0 = nI ns := (e4 _ _ (by omega) (by omega)).trans L.hs2
          have e13 : ∀ s, g4 113 s = gi 113 s := fun s => e4 _ _ (by omega) (by omega)
          refine zx_iload (q := 25) dX8_prices_23 rfl rfl ?_
          refine zx_sipush (q := 28) (v := 1000) dX8_prices_25 (by decide) rfl ?_
          refine zx_icmp_ge_f (t := 117) (q := 31) dX8_prices_28 (by decide) rfl (by decide) ?_
          refine lp_X8_prB (d + 4) L hn8 h4 e13 _ 0 (by omega) _ _ (fun t1 t2 v5 v6 v7 v8 => ?_) (fun t1 v5 v6 v7 v8 => ?_) _ _ _ _
          · refine zx_iinc4 (q := 114) dX8_prices_111 rfl rfl ?_
            refine zx_goto (t := 23) dX8_prices_114 (by decide) ?_
            rw [z_inc]
            refine lp_X8_prices (d + 4) L hn8 h4 e13 _ (fun b v5 v6 v7 v8 hbe => ?_) 999 1 0 _ _ _ _ (by omega) (by omega) rfl
            rw [hbe]
            refine zx_iload_n (q := 118) dX8_prices_117 rfl rfl rfl ?_
            refine zx_if_ne_t (t := 125) (q := 121) dX8_prices_118 (by decide) rfl (by decide) ?_
            refine zx_iload_n (q := 126) dX8_prices_125 rfl rfl rfl ?_
            refine zx_iconst (q := 127) (v := 1) dX8_prices_126 (by decide) rfl ?_
            refine zx_icmp_ne_t (t := 137) (q := 130) dX8_prices_127 (by decide) rfl (by decide) ?_
            refine zx_iload_n (q := 138) dX8_prices_137 rfl rfl rfl ?_
            refine zx_iconst (q := 139) (v := 2) dX8_prices_138 (by decide) rfl ?_
            refine zx_icmp_ne_t (t := 152) (q := 142) dX8_prices_139 (by decide) rfl (by decide) ?_
            refine zx_iload_n (q := 153) dX8_prices_152 rfl rfl rfl ?_
            refine zx_bipush (q := 155) (v := 10) dX8_prices_153 (by decide) rfl ?_
            refine zx_irem (q := 156) dX8_prices_155 (by decide) rfl ?_
            refine zx_iret dX8_prices_156 rfl (Nat.le_refl _) (Nat.le_refl _) ⟨_, rfl, ?_⟩
            exact ⟨by rw [show (10 : Int32) = nI 10 from rfl, z_rem (by omega) (by omega)]; rfl, _, _, _, rfl, zRel_scr hR (fun k j z => e4 k j (by unfold z_scr at z; omega) (by unfold z_scr at z; omega))⟩
          · exact absurd ⟨(show ¬ nI (z_py 0 (z_ct gi m ns 0)) ≤ -1 from by rw [show z_py 0 (z_ct gi m ns 0) = 0 from by simp [z_py, z_sN, z_pr]]; decide), z_fr0 ns (z_sh gi m) (z_ow gi m)⟩ t1
        · show zW l D tc A mX7_prices (d + 5) 0 0 0 0 0 [some (.ref 0), some (.int a), none, none] [] (zs gi gl f) _
          refine zx_iload_n (q := 1) dX7_prices_0 rfl rfl rfl ?_
          refine zx_iconst (q := 2) (v := 1) dX7_prices_1 (by decide) rfl ?_
          refine zx_isub (q := 3) dX7_prices_2 rfl ?_
          refine zx_callS1i (q := 6) (y' := mX7_isHole) dX7_prices_3 ml_RX7_101 ok_mX7_isHole (Nat.le_of_ble_eq_true rfl) (Nat.le_of_ble_eq_true rfl) (Nat.le_refl _) (Nat.le_refl _) rfl (t_X7_isHole _ _) ?_
          rintro _ _ ⟨rfl, rfl⟩
          refine zx_istore2 (q := 7) dX7_prices_6 rfl rfl ?_
          refine zx_iload_n (q := 8) dX7_prices_7 rfl rfl rfl ?_
          refine zx_if_ne_f (t := 17) (q := 11) dX7_prices_8 (by decide) rfl (zk_f (fun z => by obtain ⟨j, hj, e⟩ := z_hole (c := 1) z; rcases (by omega : j = 0 ∨ j = 1 ∨ j = 2) with q | q | q <;> subst q <;> first | exact h1 e | exact h2 e | exact h3 e)) ?_
          refine zx_iload_n (q := 12) dX7_prices_11 rfl rfl rfl ?_
          refine zx_if_eq_f (t := 17) (q := 15) dX7_prices_12 (by decide) rfl (h0) ?_
          refine zx_iconst (q := 16) (v := (-1)) dX7_prices_15 (by decide) rfl ?_
          refine zx_iret dX7_prices_16 rfl (Nat.le_refl _) (Nat.le_refl _) ⟨_, rfl, ?_⟩
          refine ⟨_, _, _, rfl, ?_⟩
          show zW l D tc A mX8_prices (d + 5) 0 0 0 0 0 [some (.ref 108), some (.int a), none, none, none, none, none, none, none] [] (zs _ _ _) _
          refine zx_aload_n (q := 1) dX8_prices_0 rfl rfl rfl ?_
          refine zx_iload_n (q := 2) dX8_prices_1 rfl rfl rfl ?_
          refine zx_iconst (q := 3) (v := 0) dX8_prices_2 (by decide) rfl ?_
          refine zx_iconst (q := 4) (v := 3) dX8_prices_3 (by decide) rfl ?_
          refine zx_callV3i (q := 7) (y' := mX8_in) dX8_prices_4 ml_RX8_200 ok_mX8_in rfl (by decide) rfl (Nat.le_of_ble_eq_true rfl) (Nat.le_of_ble_eq_true rfl) (Nat.le_refl _) (Nat.le_refl _) rfl (t_X8_in _ _ _ _ _) ?_
          rintro _ _ ⟨rfl, rfl⟩
          refine zx_if_ne_f (t := 12) (q := 10) dX8_prices_7 (by decide) rfl (zk_f (fun z => by obtain ⟨j, hj, e⟩ := z_inT 3 (by decide) z; rcases (by omega : j = 0 ∨ j = 1 ∨ j = 2 ∨ j = 3) with q | q | q | q <;> subst q <;> first | exact h0 e | exact h1 e | exact h2 e | exact h3 e)) ?_
          refine zx_iconst (q := 11) (v := (-1)) dX8_prices_10 (by decide) rfl ?_
          refine zx_iret dX8_prices_11 rfl (Nat.le_refl _) (Nat.le_refl _) ⟨_, rfl, ?_⟩
          exact ⟨rfl, _, _, _, rfl, hR⟩
end P49
