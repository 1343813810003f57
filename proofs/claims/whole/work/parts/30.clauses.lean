/-! what the fence that stands says, as numbers -/
def z_q (gi : Nat → Nat → Int32) : Nat := (gi 1 9).toNatClampNeg % 6
def z_nc (gi : Nat → Nat → Int32) : Nat := if gi 1 9 = -1 then 0 else (gi (66 + 5 * z_q gi) 0).toNatClampNeg
def z_bg (gi : Nat → Nat → Int32) : Nat := if gi 1 9 = -1 then 0 else 10 * z_q gi
def z_ca (gi : Nat → Nat → Int32) (c : Nat) : Nat := if c = 0 then 0 else (gi (69 + 5 * z_q gi) (c - 1)).toNatClampNeg
def z_hc (gi : Nat → Nat → Int32) (ls : Nat → Int32) (c : Nat) : Bool :=
  (z_ev (fun k => gi (70 + 5 * z_q gi) (z_ca gi c + k)) ls ((gi (69 + 5 * z_q gi) c).toNatClampNeg - z_ca gi c)).headD false
def z_soN (gi : Nat → Nat → Int32) (w : Int32) (ls : Nat → Int32) : Nat → Nat
  | 0 => 0
  | n + 1 => z_soN gi w ls n + (if gi (67 + 5 * z_q gi) n = w ∧ z_hc gi ls n = true then (gi (68 + 5 * z_q gi) n).toNatClampNeg else 0)
def z_moN (gi : Nat → Nat → Int32) : Nat → Nat
  | 0 => 8
  | n + 1 => if gi (67 + 5 * z_q gi) n = 2 then (gi (68 + 5 * z_q gi) n).toNatClampNeg else z_moN gi n
/-- the most beasts -/
def z_most (gi : Nat → Nat → Int32) : Nat := min (z_moN gi (z_nc gi)) 9
def zIsF (gi : Nat → Nat → Int32) (F : Nat) : Prop := (gi 1 9 = -1 ∧ F = 41 ∧ gi 41 0 = 0) ∨ ∃ q, q < 6 ∧ gi 1 9 = nI q ∧ F = 66 + 5 * q ∧ zFN gi q
def zIsM (gi : Nat → Nat → Int32) : Prop := (gi 1 9 = -1 ∧ gi 108 11 = -1) ∨ ∃ q, q < 6 ∧ gi 1 9 = nI q ∧ gi 108 11 = nI q ∧ zFN gi q
theorem z_nm1 {q : Nat} (h : q < 2 ^ 31) : ¬ nI q = -1 := fun z => by
  have := congrArg Int32.toInt z
  rw [nI_toInt h, show (-1 : Int32).toInt = -1 by decide] at this
  omega
theorem z_q_of {gi : Nat → Nat → Int32} {q : Nat} (hq : q < 6) (h : gi 1 9 = nI q) : z_q gi = q := by
  unfold z_q
  rw [h, nI_clamp (by omega)]
  omega
theorem z_nc_of {gi : Nat → Nat → Int32} {q nc : Nat} (hq : q < 6) (h : gi 1 9 = nI q) (h2 : gi (66 + 5 * q) 0 = nI nc) (h3 : nc ≤ 10) : z_nc gi = nc := by
  unfold z_nc
  rw [z_q_of hq h, h2, if_neg (by rw [h]; exact z_nm1 (by omega)), nI_clamp (by omega)]
theorem z_nc_le {gi : Nat → Nat → Int32} (h : zIsM gi) : z_nc gi ≤ 10 := by
  rcases h with h | ⟨q, hq, h1, h2, nc, h3, h4, h5⟩
  · unfold z_nc; rw [if_pos h.1]; omega
  · rw [z_nc_of hq h1 h4 h3]; exact h3
/-- one clause -/
theorem z_cl {gi : Nat → Nat → Int32} {q nc c : Nat} (hq : q < 6) (h : gi 1 9 = nI q) (hF : zFN gi q) (hn : gi (66 + 5 * q) 0 = nI nc) (hn2 : nc ≤ 10) (hc : c < nc) :
    (gi (67 + 5 * q) c = gi 119 (10 * q + c) ∧ z_rg 0 2 (gi (67 + 5 * q) c)) ∧ (∃ N : Nat, N ≤ 99 ∧ gi (68 + 5 * q) c = nI N ∧ gi 120 (10 * q + c) = nI N ∧ (gi (68 + 5 * z_q gi) c).toNatClampNeg = N) ∧
    ∃ a e fr : Nat, a ≤ e ∧ e ≤ 100 ∧ fr + (e - a) ≤ 600 ∧ (c = 0 → a = 0) ∧ (∀ c', c = c' + 1 → gi (69 + 5 * q) c' = nI a) ∧ gi (69 + 5 * q) c = nI e ∧
      (∀ ls, z_hc gi ls c = (z_ev (fun k => gi (70 + 5 * q) (a + k)) ls (e - a)).headD false) ∧
      (¬ gi (67 + 5 * q) c = 2 → gi 121 (10 * q + c) = nI fr ∧ gi 122 (10 * q + c) = nI (fr + (e - a)) ∧ (∀ k, k < e - a → gi 123 (fr + k) = z_tok (gi (70 + 5 * q) (a + k))) ∧ z_dep (fun k => gi (70 + 5 * q) (a + k)) (e - a) = some 1) := by
  obtain ⟨nc', h0, h1, h2, h3⟩ := hF
  have e0 : nc' = nc := (nI_eq (by omega) (by omega)).mp (h1.symm.trans hn)
  subst e0
  obtain ⟨g1, g2, a, e, fr, g3, g4, g5, g6, g7, g8, g9⟩ := h3 c hc
  have hqq := z_q_of hq h
  obtain ⟨N, hN, hN2⟩ := z_rgN (n := 99) g2.2
  refine ⟨⟨g1.1, by rw [g1.1]; exact g1.2⟩, ⟨N, hN, by rw [g2.1, hN2], hN2, by rw [hqq, g2.1, hN2, nI_clamp (by omega)]⟩, a, e, fr, g3, g4, by omega, g6, g7, g8, fun ls => ?_, by rw [g1.1]; exact g9⟩
  unfold z_hc
  have ha : z_ca gi c = a := by
    unfold z_ca
    rcases Nat.eq_zero_or_pos c with z | z
    · rw [if_pos z, g6 z]
    · rw [if_neg (by omega), hqq, g7 (c - 1) (by omega), nI_clamp (by omega)]
  rw [ha, hqq, g8, nI_clamp (by omega)]
theorem z_tst_congr {ls ls' : Nat → Int32} (h : ∀ j, j < 6 → ls j = ls' j) {m : Nat} (hm : m < 1800) : z_tst ls m = z_tst ls' m := by
  unfold z_tst
  rw [h (m / 300) (by omega)]
theorem z_ev_congr {g ls ls' : Nat → Int32} (h : ∀ j, j < 6 → ls j = ls' j) {n r : Nat} (hd : z_dep g n = some r) : ∀ k, k ≤ n → z_ev g ls k = z_ev g ls' k := by
  intro k
  induction k with
  | zero => intro _; rfl
  | succ k ih =>
    intro hk
    have ih := ih (by omega)
    rcases z_step ls hd (k := k) (by omega) with ⟨e1, b0, t, e2, e3, e4⟩ | ⟨e1, b0, b1, t, e2, e3, e4⟩ | ⟨e1, b0, b1, t, e2, e3, e4⟩ | ⟨m, hm, e1, e3, e4⟩
    · rw [e3, z_ev, if_pos e1, ← ih, e2]
    · rw [e3, z_ev, if_neg (by rw [e1]; decide), if_pos e1, ← ih, e2]
    · rw [e3, z_ev, if_neg (by rw [e1]; decide), if_neg (by rw [e1]; decide), if_pos e1, ← ih, e2]
    · have n1 : ¬ nI m = -1 := z_nm1 (by omega)
      have n2 : ¬ nI m = -2 := fun z => by have := congrArg Int32.toInt z; rw [nI_toInt (by omega), show (-2 : Int32).toInt = -2 by decide] at this; omega
      have n3 : ¬ nI m = -3 := fun z => by have := congrArg Int32.toInt z; rw [nI_toInt (by omega), show (-3 : Int32).toInt = -3 by decide] at this; omega
      rw [e3, z_ev, e1, if_neg n1, if_neg n2, if_neg n3, nI_clamp (by omega), z_tst_congr h hm, ih]
theorem z_soN_congr {gi : Nat → Nat → Int32} (hM : zIsM gi) {w : Int32} (hw : ¬ w = 2) {ls ls' : Nat → Int32} (h : ∀ j, j < 6 → ls j = ls' j) : ∀ n, n ≤ z_nc gi → z_soN gi w ls n = z_soN gi w ls' n := by
  intro n
  induction n with
  | zero => intro _; rfl
  | succ n ih =>
    intro hn
    rw [z_soN, z_soN, ih (by omega)]
    rcases hM with hM | ⟨q, hq, h1, h2, hF⟩
    · unfold z_nc at hn; rw [if_pos hM.1] at hn; omega
    · obtain ⟨nc, h3, h4, h5⟩ := id hF
      rw [z_nc_of hq h1 h4 h3] at hn
      obtain ⟨c1, c2, a, e, fr, c3, c4, c5, c6, c7, c8, c9, c10⟩ := z_cl hq h1 hF h4 h3 (c := n) (by omega)
      rw [z_q_of hq h1]
      by_cases hww : gi (67 + 5 * q) n = w
      · have c11 := (c10 (by rw [hww]; exact hw)).2.2.2
        rw [c9, c9, z_ev_congr h c11 _ (Nat.le_refl _)]
      · rw [if_neg (fun z => hww z.1), if_neg (fun z => hww z.1)]
theorem z_soN_le {gi : Nat → Nat → Int32} (hM : zIsM gi) (w : Int32) (ls : Nat → Int32) : ∀ n, n ≤ z_nc gi → z_soN gi w ls n ≤ 99 * n := by
  intro n
  induction n with
  | zero => intro _; exact Nat.le_refl _
  | succ n ih =>
    intro hn
    have h0 := ih (by omega)
    rw [z_soN]
    rcases hM with hM | ⟨q, hq, h1, h2, hF⟩
    · unfold z_nc at hn; rw [if_pos hM.1] at hn; omega
    · obtain ⟨nc, h3, h4, h5⟩ := id hF
      rw [z_nc_of hq h1 h4 h3] at hn
      obtain ⟨c1, ⟨N, d1, d2, d3, d4⟩, _⟩ := z_cl hq h1 hF h4 h3 (c := n) (by omega)
      rw [d4]
      split <;> omega
theorem z_moN_le {gi : Nat → Nat → Int32} (hM : zIsM gi) : ∀ n, n ≤ z_nc gi → z_moN gi n ≤ 99 := by
  intro n
  induction n with
  | zero => intro _; rw [z_moN]; omega
  | succ n ih =>
    intro hn
    have h0 := ih (by omega)
    rw [z_moN]
    rcases hM with hM | ⟨q, hq, h1, h2, hF⟩
    · unfold z_nc at hn; rw [if_pos hM.1] at hn; omega
    · obtain ⟨nc, h3, h4, h5⟩ := id hF
      rw [z_nc_of hq h1 h4 h3] at hn
      obtain ⟨c1, ⟨N, d1, d2, d3, d4⟩, _⟩ := z_cl hq h1 hF h4 h3 (c := n) (by omega)
      rw [d4]
      split <;> omega
/-- the cells that the fence rests on -/
def z_fc (k : Nat) : Prop := k = 1 ∨ (66 ≤ k ∧ k ≤ 95)
theorem z_q_cg {g' gi : Nat → Nat → Int32} (e : ∀ k j, z_fc k → g' k j = gi k j) : z_q g' = z_q gi := by unfold z_q; rw [e _ _ (by unfold z_fc; omega)]
theorem z_q6 (gi : Nat → Nat → Int32) : z_q gi < 6 := by unfold z_q; omega
theorem z_nc_cg {g' gi : Nat → Nat → Int32} (e : ∀ k j, z_fc k → g' k j = gi k j) : z_nc g' = z_nc gi := by
  have := z_q6 gi
  unfold z_nc
  rw [z_q_cg e, e 1 _ (by unfold z_fc; omega), e _ _ (by unfold z_fc; omega)]
theorem z_bg_cg {g' gi : Nat → Nat → Int32} (e : ∀ k j, z_fc k → g' k j = gi k j) : z_bg g' = z_bg gi := by
  unfold z_bg
  rw [z_q_cg e, e 1 _ (by unfold z_fc; omega)]
theorem z_hc_cg {g' gi : Nat → Nat → Int32} (e : ∀ k j, z_fc k → g' k j = gi k j) (ls : Nat → Int32) (c : Nat) : z_hc g' ls c = z_hc gi ls c := by
  have := z_q6 gi
  have h1 : z_ca g' c = z_ca gi c := by unfold z_ca; rw [z_q_cg e, e _ _ (by unfold z_fc; omega)]
  unfold z_hc
  rw [h1, z_q_cg e, e _ c (by unfold z_fc; omega)]
  congr 2
  funext k
  exact e _ _ (by unfold z_fc; omega)
theorem z_soN_cg {g' gi : Nat → Nat → Int32} (e : ∀ k j, z_fc k → g' k j = gi k j) (w : Int32) (ls : Nat → Int32) : ∀ n, z_soN g' w ls n = z_soN gi w ls n := by
  intro n
  have := z_q6 gi
  induction n with
  | zero => rfl
  | succ n ih => rw [z_soN, z_soN, ih, z_hc_cg e, z_q_cg e, e _ _ (by unfold z_fc; omega), e _ _ (by unfold z_fc; omega)]
theorem z_most_cg {g' gi : Nat → Nat → Int32} (e : ∀ k j, z_fc k → g' k j = gi k j) : z_most g' = z_most gi := by
  have := z_q6 gi
  have h : ∀ n, z_moN g' n = z_moN gi n := by
    intro n
    induction n with
    | zero => rfl
    | succ n ih => rw [z_moN, z_moN, ih, z_q_cg e, e _ _ (by unfold z_fc; omega), e _ _ (by unfold z_fc; omega)]
  unfold z_most
  rw [z_nc_cg e, h]
theorem zIsM_cg {g' gi : Nat → Nat → Int32} (h : zIsM gi) (e : ∀ k j, z_fc k → g' k j = gi k j) (e2 : ∀ j, g' 108 11 = gi 108 11 ∧ g' 118 j = gi 118 j ∧ g' 119 j = gi 119 j ∧ g' 120 j = gi 120 j ∧ g' 121 j = gi 121 j ∧ g' 122 j = gi 122 j ∧ g' 123 j = gi 123 j) : zIsM g' := by
  rcases h with h | ⟨q, hq, h1, h2, hF⟩
  · exact Or.inl ⟨by rw [e 1 _ (by unfold z_fc; omega)]; exact h.1, by rw [(e2 0).1]; exact h.2⟩
  · refine Or.inr ⟨q, hq, by rw [e 1 _ (by unfold z_fc; omega)]; exact h1, by rw [(e2 0).1]; exact h2, zFN_congr hF (fun k j a b => e _ _ (by unfold z_fc; omega)) (fun k j a => ?_)⟩
    obtain ⟨_, b1, b2, b3, b4, b5, b6⟩ := e2 j
    rcases a with a | a | a | a | a | a <;> subst a <;> assumption
theorem zIsF_cg {g' gi : Nat → Nat → Int32} {F : Nat} (h : zIsF gi F) (e : ∀ k j, z_fc k → g' k j = gi k j) (e2 : ∀ j, g' 41 0 = gi 41 0 ∧ g' 118 j = gi 118 j ∧ g' 119 j = gi 119 j ∧ g' 120 j = gi 120 j ∧ g' 121 j = gi 121 j ∧ g' 122 j = gi 122 j ∧ g' 123 j = gi 123 j) : zIsF g' F := by
  rcases h with h | ⟨q, hq, h1, h2, hF⟩
  · exact Or.inl ⟨by rw [e 1 _ (by unfold z_fc; omega)]; exact h.1, h.2.1, by rw [(e2 0).1]; exact h.2.2⟩
  · refine Or.inr ⟨q, hq, by rw [e 1 _ (by unfold z_fc; omega)]; exact h1, h2, zFN_congr hF (fun k j a b => e _ _ (by unfold z_fc; omega)) (fun k j a => ?_)⟩
    obtain ⟨_, b1, b2, b3, b4, b5, b6⟩ := e2 j
    rcases a with a | a | a | a | a | a <;> subst a <;> assumption
section P30
variable {l : Launch} {D : va_G} {tc : Nat → ClassId} {A : Nat → Prop} {S : zw_S} {gi : Nat → Nat → Int32} {gl : Nat → Nat → Int64} {f : Option Nat}
theorem lp_X1_sumOf (d q nc : Nat) (w : Int32) (hq : q < 6) (h1 : gi 1 9 = nI q) (hF : zFN gi q) (hn : gi (66 + 5 * q) 0 = nI nc) (hn2 : nc ≤ 10) (hw : w = 0 ∨ w = 1) : ∀ (n k : Nat) (x : Int32), k + n = nc → x = nI (z_soN gi w (gi 55) k) → zW l D tc A mX1_sumOf (d + 2) 0 0 0 0 5 [some (.ref (66 + 5 * q)), some (.int w), some (.ref 55), some (.int x), some (.int (nI k))] [] (zs gi gl f) (zQi fun r S' => r = nI (z_soN gi w (gi 55) (z_nc gi)) ∧ S' = zs gi gl f) := by
  intro n
  induction n using Nat.strongRecOn with
  | _ n ih =>
  intro k x hk hx
  have hqq := z_q_of hq h1
  by_cases hn0 : n = 0
  · refine zx_iload (q := 7) dX1_sumOf_5 rfl rfl ?_
    refine zx_aload_n (q := 8) dX1_sumOf_7 rfl rfl rfl ?_
    refine zy_getIe (q := 11) (v := nI nc) dX1_sumOf_8 fl_RX1_24 rfl (zr_F (f := f) hq).1 (hn) rfl ?_
    refine zx_icmp_ge_t (t := 51) (q := 14) dX1_sumOf_11 (by decide) rfl (nI_le (by omega) (by omega)) ?_
    refine zx_iload_n (q := 52) dX1_sumOf_51 rfl rfl rfl ?_
    refine zx_iret dX1_sumOf_52 rfl (Nat.le_refl _) (Nat.le_refl _) ⟨_, rfl, ?_⟩
    exact ⟨by rw [hx, z_nc_of hq h1 hn hn2, show k = nc by omega], rfl⟩
  · refine zx_iload (q := 7) dX1_sumOf_5 rfl rfl ?_
    refine zx_aload_n (q := 8) dX1_sumOf_7 rfl rfl rfl ?_
    refine zy_getIe (q := 11) (v := nI nc) dX1_sumOf_8 fl_RX1_24 rfl (zr_F (f := f) hq).1 (hn) rfl ?_
    refine zx_icmp_ge_f (t := 51) (q := 14) dX1_sumOf_11 (by decide) rfl (nI_ge (by omega) (by omega)) ?_
    obtain ⟨c1, ⟨N, d1, d2, d3, d4⟩, a, e, fr, c3, c4, c5, c6, c7, c8, c9, c10⟩ := z_cl hq h1 hF hn hn2 (c := k) (by omega)
    refine zx_aload_n (q := 15) dX1_sumOf_14 rfl rfl rfl ?_
    refine zy_getR (q := 18) dX1_sumOf_15 fl_RX1_9 rfl (zr_F (f := f) hq).1 (zr_F hq).2.1.1 rfl ?_
    refine zx_iload (q := 20) dX1_sumOf_18 rfl rfl ?_
    refine zy_ialdN (q := 21) dX1_sumOf_20 (zr_F (f := f) hq).2.1.2 (by omega) (by first | decide | omega) rfl ?_
    refine zx_iload_n (q := 22) dX1_sumOf_21 rfl rfl rfl ?_
    refine zx_icmp_ne (q := 25) (t := 45) dX1_sumOf_22 (by decide) rfl (fun c_22 => ?_) (fun c_22 => ?_)
    · refine zx_iinc4 (q := 48) dX1_sumOf_45 rfl rfl ?_
      refine zx_goto (t := 5) dX1_sumOf_48 (by decide) ?_
      rw [z_inc]
      exact ih (n - 1) (by omega) (k + 1) _ (by omega) (by
        rw [hx, z_soN, hqq]
        first
        | (rw [if_neg (fun z => c_22 z.1)]; rfl)
        | (rw [c9, if_neg (fun z => by rw [z.2] at c_32; exact absurd c_32 (by decide))]; rfl)
        | (rw [c9, if_pos ⟨by simpa using c_22, (zb_nz _).mp c_32⟩, d2, nI_clamp (by omega), nI_add]))
    · refine zx_aload_n (q := 26) dX1_sumOf_25 rfl rfl rfl ?_
      refine zx_iload (q := 28) dX1_sumOf_26 rfl rfl ?_
      refine zx_aload_n (q := 29) dX1_sumOf_28 rfl rfl rfl ?_
      refine zx_callV2i (q := 32) (y' := mX1_holds) dX1_sumOf_29 ml_RX1_37 ok_mX1_holds (zr_F (f := f) hq).1 (by decide) rfl (Nat.le_of_ble_eq_true rfl) (Nat.le_of_ble_eq_true rfl) (Nat.le_refl _) (Nat.le_refl _) rfl (t_X1_holds _ q k a e hq (by omega) c3 c4 c8 (c10 (by rw [show gi (67 + 5 * q) k = w by simpa using c_22]; rcases hw with h | h <;> rw [h] <;> decide)).2.2.2 c6 c7) ?_
      rintro _ _ ⟨rfl, rfl⟩
      refine zx_if_eq (q := 35) (t := 45) dX1_sumOf_32 (by decide) rfl (fun c_32 => ?_) (fun c_32 => ?_)
      · refine zx_iinc4 (q := 48) dX1_sumOf_45 rfl rfl ?_
        refine zx_goto (t := 5) dX1_sumOf_48 (by decide) ?_
        rw [z_inc]
        exact ih (n - 1) (by omega) (k + 1) _ (by omega) (by
          rw [hx, z_soN, hqq]
          first
          | (rw [if_neg (fun z => c_22 z.1)]; rfl)
          | (rw [c9, if_neg (fun z => by rw [z.2] at c_32; exact absurd c_32 (by decide))]; rfl)
          | (rw [c9, if_pos ⟨by simpa using c_22, (zb_nz _).mp c_32⟩, d2, nI_clamp (by omega), nI_add]))
      · refine zx_iload_n (q := 36) dX1_sumOf_35 rfl rfl rfl ?_
        refine zx_aload_n (q := 37) dX1_sumOf_36 rfl rfl rfl ?_
        refine zy_getR (q := 40) dX1_sumOf_37 fl_RX1_15 rfl (zr_F (f := f) hq).1 (zr_F hq).2.2.1.1 rfl ?_
        refine zx_iload (q := 42) dX1_sumOf_40 rfl rfl ?_
        refine zy_ialdN (q := 43) dX1_sumOf_42 (zr_F (f := f) hq).2.2.1.2 (by omega) (by first | decide | omega) rfl ?_
        refine zx_iadd (q := 44) dX1_sumOf_43 rfl ?_
        refine zx_istore3 (q := 45) dX1_sumOf_44 rfl rfl ?_
        refine zx_iinc4 (q := 48) dX1_sumOf_45 rfl rfl ?_
        refine zx_goto (t := 5) dX1_sumOf_48 (by decide) ?_
        rw [z_inc]
        exact ih (n - 1) (by omega) (k + 1) _ (by omega) (by
          rw [hx, z_soN, hqq]
          first
          | (rw [if_neg (fun z => c_22 z.1)]; rfl)
          | (rw [c9, if_neg (fun z => by rw [z.2] at c_32; exact absurd c_32 (by decide))]; rfl)
          | (rw [c9, if_pos ⟨by simpa using c_22, (zb_nz _).mp c_32⟩, d2, nI_clamp (by omega), nI_add]))
theorem t_X1_sumOf (d F : Nat) (w : Int32) (hF : zIsF gi F) (hw : w = 0 ∨ w = 1) : zCall l D tc A mX1_sumOf (d + 2) 0 0 [.ref F, .int w, .ref 55] (zs gi gl f) (zQi fun r S' => r = nI (z_soN gi w (gi 55) (z_nc gi)) ∧ S' = zs gi gl f) := by
  rcases hF with ⟨h1, rfl, h2⟩ | ⟨q, hq, h1, rfl, hF⟩
  · show zW l D tc A mX1_sumOf (d + 2) 0 0 0 0 0 [some (.ref 41), some (.int w), some (.ref 55), none, none] [] (zs gi gl f) _
    refine zx_iconst (q := 1) (v := 0) dX1_sumOf_0 (by decide) rfl ?_
    refine zx_istore3 (q := 2) dX1_sumOf_1 rfl rfl ?_
    refine zx_iconst (q := 3) (v := 0) dX1_sumOf_2 (by decide) rfl ?_
    refine zx_istore4 (q := 5) dX1_sumOf_3 rfl rfl ?_
    refine zx_iload (q := 7) dX1_sumOf_5 rfl rfl ?_
    refine zx_aload_n (q := 8) dX1_sumOf_7 rfl rfl rfl ?_
    refine zy_getIe (q := 11) (v := 0) dX1_sumOf_8 fl_RX1_24 rfl rfl (h2) rfl ?_
    refine zx_icmp_ge_t (t := 51) (q := 14) dX1_sumOf_11 (by decide) rfl (by decide) ?_
    refine zx_iload_n (q := 52) dX1_sumOf_51 rfl rfl rfl ?_
    refine zx_iret dX1_sumOf_52 rfl (Nat.le_refl _) (Nat.le_refl _) ⟨_, rfl, ?_⟩
    exact ⟨by unfold z_nc; rw [if_pos h1]; rfl, rfl⟩
  · obtain ⟨nc, h3, h4, h5⟩ := id hF
    show zW l D tc A mX1_sumOf (d + 2) 0 0 0 0 0 [some (.ref (66 + 5 * q)), some (.int w), some (.ref 55), none, none] [] (zs gi gl f) _
    refine zx_iconst (q := 1) (v := 0) dX1_sumOf_0 (by decide) rfl ?_
    refine zx_istore3 (q := 2) dX1_sumOf_1 rfl rfl ?_
    refine zx_iconst (q := 3) (v := 0) dX1_sumOf_2 (by decide) rfl ?_
    refine zx_istore4 (q := 5) dX1_sumOf_3 rfl rfl ?_
    exact lp_X1_sumOf d q nc w hq h1 hF h4 h3 hw nc 0 0 (by omega) rfl
theorem z_cap9 {N : Nat} (h : N < 2 ^ 31) : (if (9 : Int32) < nI N then (9 : Int32) else nI N) = nI (min N 9) := by
  by_cases c : N ≤ 9
  · rw [if_neg (by rw [show (9 : Int32) = nI 9 from rfl]; exact nI_nlt c (by decide)), Nat.min_eq_left c]
  · rw [if_pos (by rw [show (9 : Int32) = nI 9 from rfl]; exact nI_lt (by omega) h), Nat.min_eq_right (by omega)]
    rfl
theorem lp_X1_most (d q nc : Nat) (hq : q < 6) (h1 : gi 1 9 = nI q) (hF : zFN gi q) (hn : gi (66 + 5 * q) 0 = nI nc) (hn2 : nc ≤ 10) : ∀ (n k : Nat) (x : Int32), k + n = nc → x = nI (min (z_moN gi k) 9) → zW l D tc A mX1_mostBeasts (d + 1) 0 0 0 0 5 [some (.ref (66 + 5 * q)), some (.int x), some (.int (nI k))] [] (zs gi gl f) (zQi fun r S' => r = nI (z_most gi) ∧ S' = zs gi gl f) := by
  intro n
  induction n using Nat.strongRecOn with
  | _ n ih =>
  intro k x hk hx
  have hqq := z_q_of hq h1
  by_cases hn0 : n = 0
  · refine zx_iload_n (q := 6) dX1_mostBeasts_5 rfl rfl rfl ?_
    refine zx_aload_n (q := 7) dX1_mostBeasts_6 rfl rfl rfl ?_
    refine zy_getIe (q := 10) (v := nI nc) dX1_mostBeasts_7 fl_RX1_24 rfl (zr_F (f := f) hq).1 (hn) rfl ?_
    refine zx_icmp_ge_t (t := 41) (q := 13) dX1_mostBeasts_10 (by decide) rfl (nI_le (by omega) (by omega)) ?_
    refine zx_iload_n (q := 42) dX1_mostBeasts_41 rfl rfl rfl ?_
    refine zx_iret dX1_mostBeasts_42 rfl (Nat.le_refl _) (Nat.le_refl _) ⟨_, rfl, ?_⟩
    exact ⟨by rw [hx, z_most, z_nc_of hq h1 hn hn2, show k = nc by omega], rfl⟩
  · refine zx_iload_n (q := 6) dX1_mostBeasts_5 rfl rfl rfl ?_
    refine zx_aload_n (q := 7) dX1_mostBeasts_6 rfl rfl rfl ?_
    refine zy_getIe (q := 10) (v := nI nc) dX1_mostBeasts_7 fl_RX1_24 rfl (zr_F (f := f) hq).1 (hn) rfl ?_
    refine zx_icmp_ge_f (t := 41) (q := 13) dX1_mostBeasts_10 (by decide) rfl (nI_ge (by omega) (by omega)) ?_
    obtain ⟨c1, ⟨N, d1, d2, d3, d4⟩, _⟩ := z_cl hq h1 hF hn hn2 (c := k) (by omega)
    refine zx_aload_n (q := 14) dX1_mostBeasts_13 rfl rfl rfl ?_
    refine zy_getR (q := 17) dX1_mostBeasts_14 fl_RX1_9 rfl (zr_F (f := f) hq).1 (zr_F hq).2.1.1 rfl ?_
    refine zx_iload_n (q := 18) dX1_mostBeasts_17 rfl rfl rfl ?_
    refine zy_ialdN (q := 19) dX1_mostBeasts_18 (zr_F (f := f) hq).2.1.2 (by omega) (by first | decide | omega) rfl ?_
    refine zx_iconst (q := 20) (v := 2) dX1_mostBeasts_19 (by decide) rfl ?_
    refine zx_icmp_ne (q := 23) (t := 35) dX1_mostBeasts_20 (by decide) rfl (fun c_20 => ?_) (fun c_20 => ?_)
    · refine zx_iinc2 (q := 38) dX1_mostBeasts_35 rfl rfl ?_
      refine zx_goto (t := 5) dX1_mostBeasts_38 (by decide) ?_
      rw [z_inc]
      exact ih (n - 1) (by omega) (k + 1) _ (by omega) (by
        rw [z_moN, hqq]
        first
        | (rw [if_neg c_20]; exact hx)
        | (rw [show (if gi (67 + 5 * q) k = 2 then (gi (68 + 5 * q) k).toNatClampNeg else z_moN gi k) = N from by rw [if_pos (by simpa using c_20), d2, nI_clamp (by omega)], d2]; exact z_cap9 (by omega)))
    · refine zx_aload_n (q := 24) dX1_mostBeasts_23 rfl rfl rfl ?_
      refine zy_getR (q := 27) dX1_mostBeasts_24 fl_RX1_15 rfl (zr_F (f := f) hq).1 (zr_F hq).2.2.1.1 rfl ?_
      refine zx_iload_n (q := 28) dX1_mostBeasts_27 rfl rfl rfl ?_
      refine zy_ialdN (q := 29) dX1_mostBeasts_28 (zr_F (f := f) hq).2.2.1.2 (by omega) (by first | decide | omega) rfl ?_
      refine zx_bipush (q := 31) (v := 9) dX1_mostBeasts_29 (by decide) rfl ?_
      refine zx_mmin (q := 34) dX1_mostBeasts_31 ml_RX1_31 (Nat.le_of_ble_eq_true rfl) (Nat.le_refl _) (Nat.le_refl _) rfl ?_
      refine zx_istore1 (q := 35) dX1_mostBeasts_34 rfl rfl ?_
      refine zx_iinc2 (q := 38) dX1_mostBeasts_35 rfl rfl ?_
      refine zx_goto (t := 5) dX1_mostBeasts_38 (by decide) ?_
      rw [z_inc]
      exact ih (n - 1) (by omega) (k + 1) _ (by omega) (by
        rw [z_moN, hqq]
        first
        | (rw [if_neg c_20]; exact hx)
        | (rw [show (if gi (67 + 5 * q) k = 2 then (gi (68 + 5 * q) k).toNatClampNeg else z_moN gi k) = N from by rw [if_pos (by simpa using c_20), d2, nI_clamp (by omega)], d2]; exact z_cap9 (by omega)))
theorem t_X1_mostBeasts (d F : Nat) (hF : zIsF gi F) : zCall l D tc A mX1_mostBeasts (d + 1) 0 0 [.ref F] (zs gi gl f) (zQi fun r S' => r = nI (z_most gi) ∧ S' = zs gi gl f) := by
  rcases hF with ⟨h1, rfl, h2⟩ | ⟨q, hq, h1, rfl, hF⟩
  · show zW l D tc A mX1_mostBeasts (d + 1) 0 0 0 0 0 [some (.ref 41), none, none] [] (zs gi gl f) _
    refine zx_bipush (q := 2) (v := 8) dX1_mostBeasts_0 (by decide) rfl ?_
    refine zx_istore1 (q := 3) dX1_mostBeasts_2 rfl rfl ?_
    refine zx_iconst (q := 4) (v := 0) dX1_mostBeasts_3 (by decide) rfl ?_
    refine zx_istore2 (q := 5) dX1_mostBeasts_4 rfl rfl ?_
    refine zx_iload_n (q := 6) dX1_mostBeasts_5 rfl rfl rfl ?_
    refine zx_aload_n (q := 7) dX1_mostBeasts_6 rfl rfl rfl ?_
    refine zy_getIe (q := 10) (v := 0) dX1_mostBeasts_7 fl_RX1_24 rfl rfl (h2) rfl ?_
    refine zx_icmp_ge_t (t := 41) (q := 13) dX1_mostBeasts_10 (by decide) rfl (by decide) ?_
    refine zx_iload_n (q := 42) dX1_mostBeasts_41 rfl rfl rfl ?_
    refine zx_iret dX1_mostBeasts_42 rfl (Nat.le_refl _) (Nat.le_refl _) ⟨_, rfl, ?_⟩
    exact ⟨by unfold z_most z_nc; rw [if_pos h1]; rfl, rfl⟩
  · obtain ⟨nc, h3, h4, h5⟩ := id hF
    show zW l D tc A mX1_mostBeasts (d + 1) 0 0 0 0 0 [some (.ref (66 + 5 * q)), none, none] [] (zs gi gl f) _
    refine zx_bipush (q := 2) (v := 8) dX1_mostBeasts_0 (by decide) rfl ?_
    refine zx_istore1 (q := 3) dX1_mostBeasts_2 rfl rfl ?_
    refine zx_iconst (q := 4) (v := 0) dX1_mostBeasts_3 (by decide) rfl ?_
    refine zx_istore2 (q := 5) dX1_mostBeasts_4 rfl rfl ?_
    exact lp_X1_most d q nc hq h1 hF h4 h3 nc 0 8 (by omega) rfl
end P30
