/-! whole texts: from the k-th clause on -/
def z_gu1 (tx : Nat → Nat) (len : Nat) (P : Nat → Nat → Nat → Option z_L → Prop) : Prop := ∀ (k : Nat) (p : Nat) (q : Nat), zClX tx len p q → P k p q none
def z_gu2 (tx : Nat → Nat) (len : Nat) (P : Nat → Nat → Nat → Option z_L → Prop) : Prop := ∀ (k : Nat) (p : Nat) (q : Nat) (n : Nat) (cs : List Int32), zClS tx len p q n cs → q = len → P k p q (some [(z_wd tx len p, (n, cs))])
def z_gu3 (tx : Nat → Nat) (len : Nat) (P : Nat → Nat → Nat → Option z_L → Prop) : Prop := ∀ (k : Nat) (p : Nat) (q : Nat) (n : Nat) (cs : List Int32), zClS tx len p q n cs → ¬ q = len → k = 9 ∨ ¬ z_at tx len q 59 = true → P k p q none
def z_gu4 (tx : Nat → Nat) (len : Nat) (P : Nat → Nat → Nat → Option z_L → Prop) : Prop := ∀ (k : Nat) (p : Nat) (q : Nat) (q2 : Nat) (n : Nat) (cs : List Int32), zClS tx len p q n cs → ¬ q = len → ¬ k = 9 → z_at tx len q 59 = true → P (k + 1) (q + 1) q2 none → P k p q2 none
def z_gu5 (tx : Nat → Nat) (len : Nat) (P : Nat → Nat → Nat → Option z_L → Prop) : Prop := ∀ (k : Nat) (p : Nat) (q : Nat) (q2 : Nat) (n : Nat) (cs : List Int32) (L : z_L), zClS tx len p q n cs → ¬ q = len → ¬ k = 9 → z_at tx len q 59 = true → P (k + 1) (q + 1) q2 (some L) → P k p q2 (some ((z_wd tx len p, (n, cs)) :: L))
def z_gu (tx : Nat → Nat) (len : Nat) (P : Nat → Nat → Nat → Option z_L → Prop) : Prop := z_gu1 tx len P ∧ z_gu2 tx len P ∧ z_gu3 tx len P ∧ z_gu4 tx len P ∧ z_gu5 tx len P
def zGo (tx : Nat → Nat) (len k p q : Nat) (r : Option z_L) : Prop := ∀ P : Nat → Nat → Nat → Option z_L → Prop, z_gu tx len P → P k p q r
theorem zG_1 {tx : Nat → Nat} {len : Nat} {k : Nat} {p : Nat} {q : Nat} (h0 : zClX tx len p q) : zGo tx len k p q none := fun P hP => hP.1 _ _ _ h0
theorem zG_2 {tx : Nat → Nat} {len : Nat} {k : Nat} {p : Nat} {q : Nat} {n : Nat} {cs : List Int32} (h0 : zClS tx len p q n cs) (h1 : q = len) : zGo tx len k p q (some [(z_wd tx len p, (n, cs))]) := fun P hP => hP.2.1 _ _ _ _ _ h0 h1
theorem zG_3 {tx : Nat → Nat} {len : Nat} {k : Nat} {p : Nat} {q : Nat} {n : Nat} {cs : List Int32} (h0 : zClS tx len p q n cs) (h1 : ¬ q = len) (h2 : k = 9 ∨ ¬ z_at tx len q 59 = true) : zGo tx len k p q none := fun P hP => hP.2.2.1 _ _ _ _ _ h0 h1 h2
theorem zG_4 {tx : Nat → Nat} {len : Nat} {k : Nat} {p : Nat} {q : Nat} {q2 : Nat} {n : Nat} {cs : List Int32} (h0 : zClS tx len p q n cs) (h1 : ¬ q = len) (h2 : ¬ k = 9) (h3 : z_at tx len q 59 = true) (h4 : zGo tx len (k + 1) (q + 1) q2 none) : zGo tx len k p q2 none := fun P hP => hP.2.2.2.1 _ _ _ _ _ _ h0 h1 h2 h3 (h4 P hP)
theorem zG_5 {tx : Nat → Nat} {len : Nat} {k : Nat} {p : Nat} {q : Nat} {q2 : Nat} {n : Nat} {cs : List Int32} {L : z_L} (h0 : zClS tx len p q n cs) (h1 : ¬ q = len) (h2 : ¬ k = 9) (h3 : z_at tx len q 59 = true) (h4 : zGo tx len (k + 1) (q + 1) q2 (some L)) : zGo tx len k p q2 (some ((z_wd tx len p, (n, cs)) :: L)) := fun P hP => hP.2.2.2.2 _ _ _ _ _ _ _ h0 h1 h2 h3 (h4 P hP)
/-- what the class has stored of clauses -/
def zStC (g : Nat → Nat → Int32) (q : Nat) : Nat → Nat → z_L → Prop
  | k, _, [] => g (66 + 5 * q) 0 = nI k
  | k, cl, e :: L => (g (67 + 5 * q) k = nI e.1 ∧ e.1 ≤ 2) ∧ (g (68 + 5 * q) k = nI e.2.1 ∧ e.2.1 ≤ 99) ∧ (g (69 + 5 * q) k = nI (cl + e.2.2.length) ∧ cl + e.2.2.length ≤ 100) ∧ (∀ i, i < e.2.2.length → g (70 + 5 * q) (cl + i) = e.2.2.getD i 0) ∧ (¬ e.1 = 2 → z_dr e.2.2 0 = some 1) ∧ zStC g q (k + 1) (cl + e.2.2.length) L
/-- what the reference has stored of clauses -/
def zStM (g : Nat → Nat → Int32) (q : Nat) : Nat → Nat → z_L → Prop
  | k, _, [] => g 118 q = nI k
  | k, sg, e :: L => g 119 (10 * q + k) = nI e.1 ∧ g 120 (10 * q + k) = nI e.2.1 ∧ (¬ e.1 = 2 → g 121 (10 * q + k) = nI sg ∧ g 122 (10 * q + k) = nI (sg + e.2.2.length) ∧ ∀ i, i < e.2.2.length → g 123 (sg + i) = z_tok (e.2.2.getD i 0)) ∧ zStM g q (k + 1) (sg + e.2.2.length) L
theorem zStC_fr {g g' : Nat → Nat → Int32} {q : Nat} (e : ∀ k j, 66 + 5 * q ≤ k → k ≤ 70 + 5 * q → g' k j = g k j) : ∀ (L : z_L) (k cl : Nat), zStC g q k cl L → zStC g' q k cl L := by
  intro L
  induction L with
  | nil => intro k cl h; show g' _ _ = _; rw [e _ _ (by omega) (by omega)]; exact h
  | cons x L ih =>
    intro k cl h
    obtain ⟨h1, h2, h3, h4, h5, h6⟩ := h
    exact ⟨⟨by rw [e _ _ (by omega) (by omega)]; exact h1.1, h1.2⟩, ⟨by rw [e _ _ (by omega) (by omega)]; exact h2.1, h2.2⟩, ⟨by rw [e _ _ (by omega) (by omega)]; exact h3.1, h3.2⟩, fun i hi => by rw [e _ _ (by omega) (by omega)]; exact h4 i hi, h5, ih _ _ h6⟩
theorem zStM_fr {g g' : Nat → Nat → Int32} {q : Nat} (e : ∀ k j, 118 ≤ k → k ≤ 123 → g' k j = g k j) : ∀ (L : z_L) (k cl : Nat), zStM g q k cl L → zStM g' q k cl L := by
  intro L
  induction L with
  | nil => intro k cl h; show g' _ _ = _; rw [e _ _ (by omega) (by omega)]; exact h
  | cons x L ih =>
    intro k cl h
    obtain ⟨h1, h2, h3, h4⟩ := h
    exact ⟨by rw [e _ _ (by omega) (by omega)]; exact h1, by rw [e _ _ (by omega) (by omega)]; exact h2, fun z => ⟨by rw [e _ _ (by omega) (by omega)]; exact (h3 z).1, by rw [e _ _ (by omega) (by omega)]; exact (h3 z).2.1, fun i hi => by rw [e _ _ (by omega) (by omega)]; exact (h3 z).2.2 i hi⟩, ih _ _ h4⟩
section P57
variable {l : Launch} {D : va_G} {tc : Nat → ClassId} {A : Nat → Prop} {S : zw_S} {gi : Nat → Nat → Int32} {gl : Nat → Nat → Int64} {f : Option Nat}
theorem lp_rI (d : Nat) {q : Nat} (hq : q < 6) {tx : Nat → Nat} {len : Nat} : ∀ (n k p cl : Nat) (g : Nat → Nat → Int32), k + n = 9 → zTK g tx len p false → g (66 + 5 * q) 0 = nI k → g (66 + 5 * q) 1 = nI cl → cl ≤ p → zW l D tc A mX2_readInto (d + 31) 0 0 0 0 24 [some (.ref 39), some (.ref (66 + 5 * q)), some (.int (nI k))] [] (zs g gl (some (66 + 5 * q))) (zQi fun x S' => ∃ q' r g2, S' = zs g2 gl (some (66 + 5 * q)) ∧ zGo tx len k p q' r ∧ zFrK g g2 q ∧ ((r = none ∧ x = nI q' ∧ q' ≤ 100) ∨ ∃ L, r = some L ∧ x = -1 ∧ (∀ c j, c = 67 + 5 * q ∨ c = 68 + 5 * q ∨ c = 69 + 5 * q → j < k → g2 c j = g c j) ∧ (∀ j, j < cl → g2 (70 + 5 * q) j = g (70 + 5 * q) j) ∧ zStC g2 q k cl L)) := by
  intro n
  induction n using Nat.strongRecOn with
  | _ n ih0 =>
    intro k p cl g hk K hn hc hcl
    have hKl := zTK_len K
    have ih : ∀ (k' p cl : Nat) (g : Nat → Nat → Int32), k' + (n - 1) = 9 ∧ 0 < n → zTK g tx len p false → g (66 + 5 * q) 0 = nI k' → g (66 + 5 * q) 1 = nI cl → cl ≤ p → zW l D tc A mX2_readInto (d + 31) 0 0 0 0 24 [some (.ref 39), some (.ref (66 + 5 * q)), some (.int (nI k'))] [] (zs g gl (some (66 + 5 * q))) (zQi fun x S' => ∃ q' r g2, S' = zs g2 gl (some (66 + 5 * q)) ∧ zGo tx len k' p q' r ∧ zFrK g g2 q ∧ ((r = none ∧ x = nI q' ∧ q' ≤ 100) ∨ ∃ L, r = some L ∧ x = -1 ∧ (∀ c j, c = 67 + 5 * q ∨ c = 68 + 5 * q ∨ c = 69 + 5 * q → j < k' → g2 c j = g c j) ∧ (∀ j, j < cl → g2 (70 + 5 * q) j = g (70 + 5 * q) j) ∧ zStC g2 q k' cl L)) := fun k' p cl g h => ih0 (n - 1) (by omega) k' p cl g h.1
    refine zx_iload_n (q := 25) dX2_readInto_24 rfl rfl rfl ?_
    refine zx_bipush (q := 27) (v := 10) dX2_readInto_25 (by decide) rfl ?_
    refine zx_icmp_ge_f (t := 78) (q := 30) dX2_readInto_27 (by decide) rfl (nI_ge (a := k) (b := 10) (by omega) (by decide)) ?_
    refine zx_aload_n (q := 31) dX2_readInto_30 rfl rfl rfl ?_
    refine zx_callV0v (q := 34) (y' := mX2_readClause) dX2_readInto_31 ml_RX2_35 ok_mX2_readClause rfl (by decide) rfl (Nat.le_of_ble_eq_true rfl) (Nat.le_of_ble_eq_true rfl) (Nat.le_refl _) (Nat.le_refl _) rfl (t_rc _ hq K hn (by omega) hc hcl) ?_
    rintro _ ⟨g3, rfl, f3, hpo⟩
    rcases hpo with ⟨q1, n1, cs, hS, K3, hcd, hw1, hw2, hw3, hw4, hst⟩ | ⟨q1, hx, K3⟩
    · obtain ⟨ok1, ok2, ok3, ok4, ok5⟩ := zClS_ok hS hKl.1
      have hK3 := zTK_len K3
      by_cases hql : q1 = len
      · refine zx_aload_n (q := 35) dX2_readInto_34 rfl rfl rfl ?_
        refine zy_getIe (q := 38) (v := 0) dX2_readInto_35 fl_RX2_31 rfl rfl (K3.2.2.1) rfl ?_
        refine zx_if_ne_f (t := 54) (q := 41) dX2_readInto_38 (by decide) rfl (rfl) ?_
        refine zx_aload_n (q := 42) dX2_readInto_41 rfl rfl rfl ?_
        refine zy_getIe (q := 45) (v := nI q1) dX2_readInto_42 fl_RX2_28 rfl rfl (K3.2.1) rfl ?_
        refine zx_aload_n (q := 46) dX2_readInto_45 rfl rfl rfl ?_
        refine zy_getIe (q := 49) (v := nI len) dX2_readInto_46 fl_RX2_15 rfl rfl (K3.1) rfl ?_
        refine zx_icmp_ne_f (t := 54) (q := 52) dX2_readInto_49 (by decide) rfl (by rw [hql]) ?_
        refine zx_iconst (q := 53) (v := (-1)) dX2_readInto_52 (by decide) rfl ?_
        refine zx_iret dX2_readInto_53 rfl (Nat.le_refl _) (Nat.le_refl _) ⟨_, rfl, ?_⟩
        exact ⟨q1, _, g3, rfl, zG_2 hS hql, f3, Or.inr ⟨_, rfl, rfl, fun c j z hj => hst c j z hj, hcd.2.2, ⟨hw1, z_wd_le _ _ _⟩, ⟨hw2, ok3⟩, ⟨hw3, by show cl + cs.length ≤ 100; omega⟩, hcd.2.1, ok4, hw4⟩⟩
      · by_cases hk9 : k = 9
        · refine zx_aload_n (q := 35) dX2_readInto_34 rfl rfl rfl ?_
          refine zy_getIe (q := 38) (v := 0) dX2_readInto_35 fl_RX2_31 rfl rfl (K3.2.2.1) rfl ?_
          refine zx_if_ne_f (t := 54) (q := 41) dX2_readInto_38 (by decide) rfl (rfl) ?_
          refine zx_aload_n (q := 42) dX2_readInto_41 rfl rfl rfl ?_
          refine zy_getIe (q := 45) (v := nI q1) dX2_readInto_42 fl_RX2_28 rfl rfl (K3.2.1) rfl ?_
          refine zx_aload_n (q := 46) dX2_readInto_45 rfl rfl rfl ?_
          refine zy_getIe (q := 49) (v := nI len) dX2_readInto_46 fl_RX2_15 rfl rfl (K3.1) rfl ?_
          refine zx_icmp_ne_t (t := 54) (q := 52) dX2_readInto_49 (by decide) rfl (fun z => hql ((nI_eq (by omega) (by omega)).mp z)) ?_
          refine zx_iload_n (q := 55) dX2_readInto_54 rfl rfl rfl ?_
          refine zx_bipush (q := 57) (v := 9) dX2_readInto_55 (by decide) rfl ?_
          refine zx_icmp_eq_t (t := 78) (q := 60) dX2_readInto_57 (by decide) rfl (by rw [hk9]; rfl) ?_
          refine zx_aload_n (q := 79) dX2_readInto_78 rfl rfl rfl ?_
          refine zy_getIe (q := 82) (v := nI q1) dX2_readInto_79 fl_RX2_28 rfl rfl (K3.2.1) rfl ?_
          refine zx_iret dX2_readInto_82 rfl (Nat.le_refl _) (Nat.le_refl _) ⟨_, rfl, ?_⟩
          exact ⟨q1, none, g3, rfl, zG_3 hS hql (Or.inl hk9), f3, Or.inl ⟨rfl, rfl, by omega⟩⟩
        · by_cases h59 : z_at tx len q1 59 = true
          · have h59p := z_at_p h59
            refine zx_aload_n (q := 35) dX2_readInto_34 rfl rfl rfl ?_
            refine zy_getIe (q := 38) (v := 0) dX2_readInto_35 fl_RX2_31 rfl rfl (K3.2.2.1) rfl ?_
            refine zx_if_ne_f (t := 54) (q := 41) dX2_readInto_38 (by decide) rfl (rfl) ?_
            refine zx_aload_n (q := 42) dX2_readInto_41 rfl rfl rfl ?_
            refine zy_getIe (q := 45) (v := nI q1) dX2_readInto_42 fl_RX2_28 rfl rfl (K3.2.1) rfl ?_
            refine zx_aload_n (q := 46) dX2_readInto_45 rfl rfl rfl ?_
            refine zy_getIe (q := 49) (v := nI len) dX2_readInto_46 fl_RX2_15 rfl rfl (K3.1) rfl ?_
            refine zx_icmp_ne_t (t := 54) (q := 52) dX2_readInto_49 (by decide) rfl (fun z => hql ((nI_eq (by omega) (by omega)).mp z)) ?_
            refine zx_iload_n (q := 55) dX2_readInto_54 rfl rfl rfl ?_
            refine zx_bipush (q := 57) (v := 9) dX2_readInto_55 (by decide) rfl ?_
            refine zx_icmp_eq_f (t := 78) (q := 60) dX2_readInto_57 (by decide) rfl (fun z => hk9 ((nI_eq (b := 9) (by omega) (by omega)).mp z)) ?_
            refine zx_aload_n (q := 61) dX2_readInto_60 rfl rfl rfl ?_
            refine zx_bipush (q := 63) (v := 59) dX2_readInto_61 (by decide) rfl ?_
            refine zx_callV1i (q := 66) (y' := mX2_takes) dX2_readInto_63 ml_RX2_38 ok_mX2_takes rfl (by decide) rfl (Nat.le_of_ble_eq_true rfl) (Nat.le_of_ble_eq_true rfl) (Nat.le_refl _) (Nat.le_refl _) rfl (t_takes _ 59 K3 (by omega)) ?_
            rintro _ _ ⟨rfl, rfl⟩
            rw [if_pos (show (!false && z_at tx len q1 59) = true from by simpa using h59)]
            refine zx_if_ne_t (t := 72) (q := 69) dX2_readInto_66 (by decide) rfl (zk_t (by simpa using h59)) ?_
            refine zx_iinc2 (q := 75) dX2_readInto_72 rfl rfl ?_
            refine zx_goto (t := 24) dX2_readInto_75 (by decide) ?_
            rw [z_inc]
            refine zW.mono (ih (k + 1) (q1 + 1) (cl + cs.length) _ ⟨by omega, by omega⟩ (zTK_adv K3 h59p) (by rw [z_u_ne _ _ (by omega)]; exact hw4) (by rw [z_u_ne _ _ (by omega)]; exact hcd.1) (by omega)) ?_
            rintro _ S' ⟨x, hx0, q2, r, g4, hS4, hgo, f4, hor⟩
            have f5 : zFrK g g4 q := zFrK_tr f3 (fun c j a b => by rw [f4 c j a b, z_u_ne _ _ (by omega)])
            rcases hor with ⟨hr, hx1, hq2⟩ | ⟨L, hr, hx1, s4, b4, hL⟩
            · subst hr
              exact ⟨x, hx0, q2, none, g4, hS4, zG_4 hS hql hk9 h59 hgo, f5, Or.inl ⟨rfl, hx1, hq2⟩⟩
            · subst hr
              have s5 : ∀ c j, c = 67 + 5 * q ∨ c = 68 + 5 * q ∨ c = 69 + 5 * q → j < k + 1 → g4 c j = g3 c j := fun c j z hj => by rw [s4 c j z hj, z_u_ne _ _ (by omega)]
              have b5 : ∀ j, j < cl + cs.length → g4 (70 + 5 * q) j = g3 (70 + 5 * q) j := fun j hj => by rw [b4 j hj, z_u_ne _ _ (by omega)]
              refine ⟨x, hx0, q2, _, g4, hS4, zG_5 hS hql hk9 h59 hgo, f5, Or.inr ⟨_, rfl, hx1, fun c j z hj => by rw [s5 c j z (by omega)]; exact hst c j z hj, fun j hj => by rw [b5 j (by omega)]; exact hcd.2.2 j hj, ⟨by rw [s5 _ _ (by omega) (by omega)]; exact hw1, z_wd_le _ _ _⟩, ⟨by rw [s5 _ _ (by omega) (by omega)]; exact hw2, ok3⟩, ⟨by rw [s5 _ _ (by omega) (by omega)]; exact hw3, by show cl + cs.length ≤ 100; omega⟩, fun i hi => ?_, ok4, hL⟩⟩
              have hi2 : i < cs.length := hi
              rw [b5 _ (by omega)]
              exact hcd.2.1 i hi
          · refine zx_aload_n (q := 35) dX2_readInto_34 rfl rfl rfl ?_
            refine zy_getIe (q := 38) (v := 0) dX2_readInto_35 fl_RX2_31 rfl rfl (K3.2.2.1) rfl ?_
            refine zx_if_ne_f (t := 54) (q := 41) dX2_readInto_38 (by decide) rfl (rfl) ?_
            refine zx_aload_n (q := 42) dX2_readInto_41 rfl rfl rfl ?_
            refine zy_getIe (q := 45) (v := nI q1) dX2_readInto_42 fl_RX2_28 rfl rfl (K3.2.1) rfl ?_
            refine zx_aload_n (q := 46) dX2_readInto_45 rfl rfl rfl ?_
            refine zy_getIe (q := 49) (v := nI len) dX2_readInto_46 fl_RX2_15 rfl rfl (K3.1) rfl ?_
            refine zx_icmp_ne_t (t := 54) (q := 52) dX2_readInto_49 (by decide) rfl (fun z => hql ((nI_eq (by omega) (by omega)).mp z)) ?_
            refine zx_iload_n (q := 55) dX2_readInto_54 rfl rfl rfl ?_
            refine zx_bipush (q := 57) (v := 9) dX2_readInto_55 (by decide) rfl ?_
            refine zx_icmp_eq_f (t := 78) (q := 60) dX2_readInto_57 (by decide) rfl (fun z => hk9 ((nI_eq (b := 9) (by omega) (by omega)).mp z)) ?_
            refine zx_aload_n (q := 61) dX2_readInto_60 rfl rfl rfl ?_
            refine zx_bipush (q := 63) (v := 59) dX2_readInto_61 (by decide) rfl ?_
            refine zx_callV1i (q := 66) (y' := mX2_takes) dX2_readInto_63 ml_RX2_38 ok_mX2_takes rfl (by decide) rfl (Nat.le_of_ble_eq_true rfl) (Nat.le_of_ble_eq_true rfl) (Nat.le_refl _) (Nat.le_refl _) rfl (t_takes _ 59 K3 (by omega)) ?_
            rintro _ _ ⟨rfl, rfl⟩
            rw [if_neg (show ¬ (!false && z_at tx len q1 59) = true from by simpa using h59)]
            refine zx_if_ne_f (t := 72) (q := 69) dX2_readInto_66 (by decide) rfl (zk_f (by simpa using h59)) ?_
            refine zx_goto (t := 78) dX2_readInto_69 (by decide) ?_
            refine zx_aload_n (q := 79) dX2_readInto_78 rfl rfl rfl ?_
            refine zy_getIe (q := 82) (v := nI q1) dX2_readInto_79 fl_RX2_28 rfl rfl (K3.2.1) rfl ?_
            refine zx_iret dX2_readInto_82 rfl (Nat.le_refl _) (Nat.le_refl _) ⟨_, rfl, ?_⟩
            exact ⟨q1, none, g3, rfl, zG_3 hS hql (Or.inr h59), f3, Or.inl ⟨rfl, rfl, by omega⟩⟩
    · refine zx_aload_n (q := 35) dX2_readInto_34 rfl rfl rfl ?_
      refine zy_getIe (q := 38) (v := 1) dX2_readInto_35 fl_RX2_31 rfl rfl (K3.2.2.1) rfl ?_
      refine zx_if_ne_t (t := 54) (q := 41) dX2_readInto_38 (by decide) rfl (by decide) ?_
      refine zx_iload_n (q := 55) dX2_readInto_54 rfl rfl rfl ?_
      refine zx_bipush (q := 57) (v := 9) dX2_readInto_55 (by decide) rfl ?_
      refine zx_icmp_eq (q := 60) (t := 78) dX2_readInto_57 (by decide) rfl (fun c_57 => ?_) (fun c_57 => ?_)
      · refine zx_aload_n (q := 79) dX2_readInto_78 rfl rfl rfl ?_
        refine zy_getIe (q := 82) (v := nI q1) dX2_readInto_79 fl_RX2_28 rfl rfl (K3.2.1) rfl ?_
        refine zx_iret dX2_readInto_82 rfl (Nat.le_refl _) (Nat.le_refl _) ⟨_, rfl, ?_⟩
        exact ⟨q1, none, g3, rfl, zG_1 hx, f3, Or.inl ⟨rfl, rfl, by have := zTK_len K3; omega⟩⟩
      · refine zx_aload_n (q := 61) dX2_readInto_60 rfl rfl rfl ?_
        refine zx_bipush (q := 63) (v := 59) dX2_readInto_61 (by decide) rfl ?_
        refine zx_callV1i (q := 66) (y' := mX2_takes) dX2_readInto_63 ml_RX2_38 ok_mX2_takes rfl (by decide) rfl (Nat.le_of_ble_eq_true rfl) (Nat.le_of_ble_eq_true rfl) (Nat.le_refl _) (Nat.le_refl _) rfl (t_takes _ 59 K3 (by omega)) ?_
        rintro _ _ ⟨rfl, rfl⟩
        rw [if_neg (show ¬ (!true && z_at tx len q1 59) = true from by simp)]
        refine zx_if_ne_f (t := 72) (q := 69) dX2_readInto_66 (by decide) rfl (rfl) ?_
        refine zx_goto (t := 78) dX2_readInto_69 (by decide) ?_
        refine zx_aload_n (q := 79) dX2_readInto_78 rfl rfl rfl ?_
        refine zy_getIe (q := 82) (v := nI q1) dX2_readInto_79 fl_RX2_28 rfl rfl (K3.2.1) rfl ?_
        refine zx_iret dX2_readInto_82 rfl (Nat.le_refl _) (Nat.le_refl _) ⟨_, rfl, ?_⟩
        exact ⟨q1, none, g3, rfl, zG_1 hx, f3, Or.inl ⟨rfl, rfl, by have := zTK_len K3; omega⟩⟩
end P57
