/-! leastExcess; the reference's herds -/
theorem z_mi_le {a e : Option Nat} {b : Nat} (h1 : ∀ v, a = some v → v ≤ b) (h2 : ∀ v, e = some v → v ≤ b) : ∀ v, z_mi a e = some v → v ≤ b := by
  intro v h
  cases a with
  | none => exact h2 v h
  | some n =>
    cases e with
    | none => exact h1 v h
    | some m =>
      have h3 := h1 n rfl
      have h4 := h2 m rfl
      simp only [z_mi, Option.some.injEq] at h
      rw [← h]
      split <;> omega
theorem z_ov_neg {o : Option Nat} (h : ∀ v, o = some v → v < 2 ^ 31) : z_ov o < 0 ↔ o = none := by
  cases o with
  | none => exact ⟨fun _ => rfl, fun _ => by decide⟩
  | some v => exact ⟨fun z => absurd z (nI_pos (h v rfl)), fun z => by cases z⟩
/-- the least of what is above -/
def z_le (M ns : Nat) (w : Nat → Option Nat) (sh : Nat → Nat → Nat) : (Nat → Nat) → Nat → Option Nat → Option Nat := z_go M ns (fun _ => true) (fun r a => z_mi a (z_exn w (z_cn ns sh r) 3 0 0))
/-- the reference is at the row r -/
def zMS (g : Nat → Nat → Int32) (r : Nat → Nat) (b : Nat) : Prop := (∀ s, s < 5 → g 129 s = nI (r s)) ∧ g 108 33 = nI b
/-- what it has found -/
def zMA (g : Nat → Nat → Int32) (a : z_A) : Prop := g 108 34 = nI a.1 ∧ (0 < a.1 → g 108 35 = nI a.2.1 ∧ g 108 36 = nI a.2.2.1 ∧ ∀ s, s < 5 → g 130 s = nI (a.2.2.2.1 s)) ∧ ∀ s, s < 5 → g 131 s = nI (a.2.2.2.2.1 s)
theorem zSM_fr {g g' : Nat → Nat → Int32} {sh : Nat → Nat → Nat} {ow : Nat → Nat} {n : Nat} (h : zSM g sh ow n) (e : ∀ k j, k = 127 ∨ k = 128 → g' k j = g k j) : zSM g' sh ow n :=
  fun s hs => ⟨by rw [e _ _ (by omega)]; exact (h s hs).1, fun j hj => by rw [e _ _ (by omega)]; exact (h s hs).2 j hj⟩
theorem zMA_fr {g g' : Nat → Nat → Int32} {a : z_A} (h : zMA g a) (e : ∀ k j, k = 130 ∨ k = 131 ∨ (k = 108 ∧ (j = 34 ∨ j = 35 ∨ j = 36)) → g' k j = g k j) : zMA g' a :=
  ⟨by rw [e _ _ (by omega)]; exact h.1, fun z => ⟨by rw [e _ _ (by omega)]; exact (h.2.1 z).1, by rw [e _ _ (by omega)]; exact (h.2.1 z).2.1, fun s hs => by rw [e _ _ (by omega)]; exact (h.2.1 z).2.2 s hs⟩, fun s hs => by rw [e _ _ (by omega)]; exact h.2.2 s hs⟩
theorem zMS_fr {g g' : Nat → Nat → Int32} {r : Nat → Nat} {b : Nat} (h : zMS g r b) (e : ∀ k j, k = 129 ∨ (k = 108 ∧ j = 33) → g' k j = g k j) : zMS g' r b :=
  ⟨fun s hs => by rw [e _ _ (by omega)]; exact h.1 s hs, by rw [e _ _ (by omega)]; exact h.2⟩
section P41
variable {l : Launch} {D : va_G} {tc : Nat → ClassId} {A : Nat → Prop} {S : zw_S} {gi : Nat → Nat → Int32} {gl : Nat → Nat → Int64} {f : Option Nat}
theorem lp_X3_least (d : Nat) {g : Nat → Nat → Int32} {ns mo : Nat} {sh : Nat → Nat → Nat} {ow : Nat → Nat} (hns : ns ≤ 5) (hg : zSG g ns mo sh ow ns) (hsh : ∀ s, s < ns → ∀ h, h < 3 → sh s h ≤ 1998) {M : Nat} (hM : M ≤ 18) {wc : Nat} {w : Nat → Option Nat} (hwc : zg_sh[wc]? = some (1, 3)) (hwx : ¬ (56 ≤ wc ∧ wc ≤ 61)) (hw : z_wt g wc w) : ∀ (n i : Nat) (r : Nat → Nat) (b : Nat) (a : Option Nat) (g1 : Nat → Nat → Int32) (w5 : Option Value), z_rk ns M r ns = n → i + n < 100000 → b = z_sN ns r → b ≤ M → (∀ v, a = some v → v ≤ 120000) → zCS g1 ns sh ow r b → g1 56 5 = 0 → (∀ k j, ¬ (56 ≤ k ∧ k ≤ 61) → g1 k j = g k j) →
    zW l D tc A mX3_leastExcess (d + 2) 0 0 0 0 9 [some (.ref 56), some (.int (nI M)), some (.ref wc), some (.int (z_ov a)), some (.int (nI i)), w5] [] (zs g1 gl f) (zQi fun x S' => x = z_ov (z_le M ns w sh r b a) ∧ ∃ g2, S' = zs g2 gl f ∧ (∀ k j, ¬ (56 ≤ k ∧ k ≤ 61) → g2 k j = g k j)) := by
  intro n
  induction n using Nat.strongRecOn with
  | _ n ih =>
    intro i r b a g1 w5 hn hi hb hbM hab hC h5 e
    have hsG : ∀ g' : Nat → Nat → Int32, (∀ k j, ¬ (56 ≤ k ∧ k ≤ 61) → g' k j = g k j) → zSG g' ns mo sh ow ns := fun g' z => zSG_cg hg (fun k j a c => z k j (by omega)) hns
    have hwG : ∀ g' : Nat → Nat → Int32, (∀ k j, ¬ (56 ≤ k ∧ k ≤ 61) → g' k j = g k j) → z_wt g' wc w := fun g' z h hh => ⟨by rw [z _ _ hwx]; exact (hw h hh).1, (hw h hh).2⟩
    have hexb : ∀ v, z_exn w (z_cn ns sh r) 3 0 0 = some v → v ≤ 120000 := fun v hv => by
      have h7 := z_exn_le (b := 40000) (fun h hh => Nat.le_trans (z_cn_le (M := 18) (B := 1998) (by omega) (fun s hs => hsh s hs h hh)) (by decide)) 3 0 0 v (by omega) hv
      omega
    have h48 : ∀ (a3 : Option Nat) (w5 : Option Value), a3 = z_mi a (z_exn w (z_cn ns sh r) 3 0 0) →
        zW l D tc A mX3_leastExcess (d + 2) 0 0 0 0 48 [some (.ref 56), some (.int (nI M)), some (.ref wc), some (.int (z_ov a3)), some (.int (nI i)), w5] [] (zs g1 gl f) (zQi fun x S' => x = z_ov (z_le M ns w sh r b a) ∧ ∃ g2, S' = zs g2 gl f ∧ (∀ k j, ¬ (56 ≤ k ∧ k ≤ 61) → g2 k j = g k j)) := by
      intro a3 w5 ha3
      refine zx_aload_n (q := 49) dX3_leastExcess_48 rfl rfl rfl ?_
      refine zx_iload_n (q := 50) dX3_leastExcess_49 rfl rfl rfl ?_
      refine zx_iconst (q := 51) (v := 0) dX3_leastExcess_50 (by decide) rfl ?_
      refine zx_callV2v (q := 54) (y' := mX3_advance) dX3_leastExcess_51 ml_RX3_66 ok_mX3_advance rfl (by decide) rfl (Nat.le_of_ble_eq_true rfl) (Nat.le_of_ble_eq_true rfl) (Nat.le_refl _) (Nat.le_refl _) rfl (t_X3_adv _ hns (hsG g1 e) hC M false hb (by omega) (by omega) h5) ?_
      rintro _ ⟨g4, rfl, hv, e4⟩
      refine zx_iinc4 (q := 57) dX3_leastExcess_54 rfl rfl ?_
      refine zx_goto (t := 9) dX3_leastExcess_57 (by decide) ?_
      rw [z_inc]
      have hst := z_stepH (F := fun _ => true) (st := fun r a => z_mi a (z_exn w (z_cn ns sh r) 3 0 0)) (M := M) (ns := ns) (r := r) false hb hbM (fun z => by cases z) a
      rw [show z_le M ns w sh r b a = _ from hst.1, if_pos rfl]
      have e5 : ∀ k j, ¬ (56 ≤ k ∧ k ≤ 61) → g4 k j = g k j := fun k j z => (e4 k j (by omega)).trans (e k j z)
      cases hx : z_cx ns r b (false || decide (M ≤ b)) with
      | none =>
        rw [hx] at hv
        have hv1 : g4 56 5 = 1 := hv
        refine zx_iload (q := 11) dX3_leastExcess_9 rfl rfl ?_
        refine zx_ldc (q := 13) dX3_leastExcess_11 kc_RX3_50 rfl ?_
        refine zx_icmp_ge_f (t := 60) (q := 16) dX3_leastExcess_13 (by decide) rfl (nI_ge (a := i + 1) (b := 1000000) (by omega) (by decide)) ?_
        refine zx_aload_n (q := 17) dX3_leastExcess_16 rfl rfl rfl ?_
        refine zy_getIe (q := 20) (v := 1) dX3_leastExcess_17 fl_RX3_51 rfl rfl (hv1) rfl ?_
        refine zx_if_ne_t (t := 60) (q := 23) dX3_leastExcess_20 (by decide) rfl (by decide) ?_
        refine zx_iload_n (q := 61) dX3_leastExcess_60 rfl rfl rfl ?_
        refine zx_iret dX3_leastExcess_61 rfl (Nat.le_refl _) (Nat.le_refl _) ⟨_, rfl, ?_⟩
        exact ⟨by rw [ha3]; rfl, g4, rfl, e5⟩
      | some q =>
        obtain ⟨j1, j2, j3⟩ := hst.2 q.1 q.2 (by rw [hx])
        rw [hx] at hv
        rw [ha3]
        exact ih (z_rk ns M q.1 ns) (by omega) (i + 1) q.1 q.2 _ g4 _ rfl (by omega) j1 j2 (z_mi_le hab hexb) hv.1 hv.2 e5
    refine zx_iload (q := 11) dX3_leastExcess_9 rfl rfl ?_
    refine zx_ldc (q := 13) dX3_leastExcess_11 kc_RX3_50 rfl ?_
    refine zx_icmp_ge_f (t := 60) (q := 16) dX3_leastExcess_13 (by decide) rfl (nI_ge (a := i) (b := 1000000) (by omega) (by decide)) ?_
    refine zx_aload_n (q := 17) dX3_leastExcess_16 rfl rfl rfl ?_
    refine zy_getIe (q := 20) (v := 0) dX3_leastExcess_17 fl_RX3_51 rfl rfl (h5) rfl ?_
    refine zx_if_ne_f (t := 60) (q := 23) dX3_leastExcess_20 (by decide) rfl (rfl) ?_
    refine zx_aload_n (q := 24) dX3_leastExcess_23 rfl rfl rfl ?_
    refine zx_aload_n (q := 25) dX3_leastExcess_24 rfl rfl rfl ?_
    refine zx_callV1i (q := 28) (y' := mX3_excess) dX3_leastExcess_25 ml_RX3_55 ok_mX3_excess rfl (by decide) rfl (Nat.le_of_ble_eq_true rfl) (Nat.le_of_ble_eq_true rfl) (Nat.le_refl _) (Nat.le_refl _) rfl (t_X3_exc _ hns (hsG g1 e) hC hwc (hwG g1 e) (fun h hh => Nat.le_trans (z_cn_le (M := 18) (B := 1998) (by omega) (fun s hs => hsh s hs h hh)) (by decide))) ?_
    rintro _ _ ⟨rfl, rfl⟩
    refine zx_istore5 (q := 30) dX3_leastExcess_28 rfl rfl ?_
    refine zx_iload (q := 32) dX3_leastExcess_30 rfl rfl ?_
    refine zx_if_lt (q := 35) (t := 48) dX3_leastExcess_32 (by decide) rfl (fun c_32 => ?_) (fun c_32 => ?_)
    · have hx0 : z_exn w (z_cn ns sh r) 3 0 0 = none := (z_ov_neg (fun v hv => by have := hexb v hv; omega)).mp c_32
      first
        | (have q1 := hx0; exact h48 _ _ (by rw [hx0]; cases a <;> rfl))
        | (have q1 := ha0; exact h48 _ _ (by rw [hev, ha0]; rfl))
        | exact h48 (some av) _ (by rw [hev]; simp only [z_mi]; rw [if_neg (by omega)])
        | exact h48 (some ev) _ (by rw [hev]; simp only [z_mi]; rw [if_pos (by omega)])
    · obtain ⟨ev, hev⟩ : ∃ ev, z_exn w (z_cn ns sh r) 3 0 0 = some ev := by cases hx : z_exn w (z_cn ns sh r) 3 0 0 with | none => exact absurd ((z_ov_neg (fun v hv => by have := hexb v hv; omega)).mpr hx) c_32 | some v => exact ⟨v, rfl⟩
      have hev2 := hexb ev hev
      refine zx_iload_n (q := 36) dX3_leastExcess_35 rfl rfl rfl ?_
      refine zx_if_lt (q := 39) (t := 45) dX3_leastExcess_36 (by decide) rfl (fun c_36 => ?_) (fun c_36 => ?_)
      · have ha0 : a = none := (z_ov_neg (fun v hv => by have := hab v hv; omega)).mp c_36
        refine zx_iload (q := 47) dX3_leastExcess_45 rfl rfl ?_
        refine zx_istore3 (q := 48) dX3_leastExcess_47 rfl rfl ?_
        first
          | (have q1 := hx0; exact h48 _ _ (by rw [hx0]; cases a <;> rfl))
          | (have q1 := ha0; exact h48 _ _ (by rw [hev, ha0]; rfl))
          | exact h48 (some av) _ (by rw [hev]; simp only [z_mi]; rw [if_neg (by omega)])
          | exact h48 (some ev) _ (by rw [hev]; simp only [z_mi]; rw [if_pos (by omega)])
      · obtain ⟨av, hav⟩ : ∃ av, a = some av := by cases hx : a with | none => exact absurd ((z_ov_neg (fun v hv => by have := hab v hv; omega)).mpr hx) c_36 | some v => exact ⟨v, rfl⟩
        subst hav
        have hav2 := hab av rfl
        refine zx_iload (q := 41) dX3_leastExcess_39 rfl rfl ?_
        refine zx_iload_n (q := 42) dX3_leastExcess_41 rfl rfl rfl ?_
        rw [hev, z_ov_some, z_ov_some]
        refine zx_icmp_ge (q := 45) (t := 48) dX3_leastExcess_42 (by decide) rfl (fun c_42 => ?_) (fun c_42 => ?_)
        · rw [nI_leI (by omega) (by omega)] at c_42
          first
            | (have q1 := hx0; exact h48 _ _ (by rw [hx0]; cases a <;> rfl))
            | (have q1 := ha0; exact h48 _ _ (by rw [hev, ha0]; rfl))
            | exact h48 (some av) _ (by rw [hev]; simp only [z_mi]; rw [if_neg (by omega)])
            | exact h48 (some ev) _ (by rw [hev]; simp only [z_mi]; rw [if_pos (by omega)])
        · rw [nI_leI (by omega) (by omega)] at c_42
          refine zx_iload (q := 47) dX3_leastExcess_45 rfl rfl ?_
          refine zx_istore3 (q := 48) dX3_leastExcess_47 rfl rfl ?_
          first
            | (have q1 := hx0; exact h48 _ _ (by rw [hx0]; cases a <;> rfl))
            | (have q1 := ha0; exact h48 _ _ (by rw [hev, ha0]; rfl))
            | exact h48 (some av) _ (by rw [hev]; simp only [z_mi]; rw [if_neg (by omega)])
            | exact h48 (some ev) _ (by rw [hev]; simp only [z_mi]; rw [if_pos (by omega)])
theorem t_X3_least (d : Nat) {g : Nat → Nat → Int32} {ns mo : Nat} {sh : Nat → Nat → Nat} {ow : Nat → Nat} (hns : ns ≤ 5) (hg : zSG g ns mo sh ow ns) (hsh : ∀ s, s < ns → ∀ h, h < 3 → sh s h ≤ 1998) {M : Nat} (hM : M ≤ 18) {wc : Nat} {w : Nat → Option Nat} (hwc : zg_sh[wc]? = some (1, 3)) (hwx : ¬ (56 ≤ wc ∧ wc ≤ 61)) (hw : z_wt g wc w) : zCall l D tc A mX3_leastExcess (d + 2) 0 0 [.ref 56, .int (nI M), .ref wc] (zs g gl f) (zQi fun x S' => x = z_ov (z_le M ns w sh (fun _ => 0) 0 none) ∧ ∃ g2, S' = zs g2 gl f ∧ (∀ k j, ¬ (56 ≤ k ∧ k ≤ 61) → g2 k j = g k j)) := by
  show zW l D tc A mX3_leastExcess (d + 2) 0 0 0 0 0 [some (.ref 56), some (.int (nI M)), some (.ref wc), none, none, none] [] (zs g gl f) _
  refine zx_iconst (q := 1) (v := (-1)) dX3_leastExcess_0 (by decide) rfl ?_
  refine zx_istore3 (q := 2) dX3_leastExcess_1 rfl rfl ?_
  refine zx_aload_n (q := 3) dX3_leastExcess_2 rfl rfl rfl ?_
  refine zx_callV0v (q := 6) (y' := mX3_begin) dX3_leastExcess_3 ml_RX3_47 ok_mX3_begin rfl (by decide) rfl (Nat.le_of_ble_eq_true rfl) (Nat.le_of_ble_eq_true rfl) (Nat.le_refl _) (Nat.le_refl _) rfl (t_X3_begin _ ns sh ow) ?_
  rintro _ ⟨g1, rfl, hC1, h15, e1⟩
  refine zx_iconst (q := 7) (v := 0) dX3_leastExcess_6 (by decide) rfl ?_
  refine zx_istore4 (q := 9) dX3_leastExcess_7 rfl rfl ?_
  have hk := z_rk_first (ns := ns) (M := M) hns hM
  exact lp_X3_least d hns hg hsh hM hwc hwx hw (z_rk ns M (fun _ => 0) ns) 0 (fun _ => 0) 0 none g1 none rfl (by omega) (z_sN_0 ns).symm (Nat.zero_le _) (fun v hv => by cases hv) hC1 h15 (fun k j z => e1 k j (by omega))
theorem lp_X8_first (d : Nat) {g : Nat → Nat → Int32} : ∀ (k s : Nat) (g1 : Nat → Nat → Int32), s + k = 5 → (∀ k j, ¬ (k = 129 ∨ (k = 108 ∧ j = 33)) → g1 k j = g k j) → (∀ i, i < s → g1 129 i = 0) → zW l D tc A mX8_firstHerd d 0 0 0 0 2 [some (.ref 108), some (.int (nI s))] [] (zs g1 gl f) (zQv fun S' => ∃ g2, S' = zs g2 gl f ∧ zMS g2 (fun _ => 0) 0 ∧ (∀ k j, ¬ (k = 129 ∨ (k = 108 ∧ j = 33)) → g2 k j = g k j)) := by
  intro k
  induction k using Nat.strongRecOn with
  | _ k ih =>
    intro s g1 hs e hd
    refine zx_iload_n (q := 3) dX8_firstHerd_2 rfl rfl rfl ?_
    refine zx_iconst (q := 4) (v := 5) dX8_firstHerd_3 (by decide) rfl ?_
    refine zx_icmp_ge (q := 7) (t := 20) dX8_firstHerd_4 (by decide) rfl (fun c_4 => ?_) (fun c_4 => ?_)
    · have hs2 : s = 5 := by have := z_ge (x := nI (5)) rfl (by omega) c_4; omega
      have hk0 : k = 0 := by omega
      subst hk0
      refine zx_aload_n (q := 21) dX8_firstHerd_20 rfl rfl rfl ?_
      refine zx_iconst (q := 22) (v := 0) dX8_firstHerd_21 (by decide) rfl ?_
      refine zy_putI (q := 25) dX8_firstHerd_22 fl_RX8_111 rfl rfl ⟨rfl, rfl⟩ rfl rfl ?_
      refine zx_vret dX8_firstHerd_25 rfl (Nat.le_refl _) (Nat.le_refl _) ⟨rfl, ?_⟩
      refine ⟨_, rfl, ⟨fun i hi => ?_, ?_⟩, fun k j z => ?_⟩
      · rw [z_u_ne _ _ (by omega)]; exact hd i (by omega)
      · rw [z_u_at]; rfl
      · rw [z_u_ne _ _ (by omega)]; exact e k j z
    · have hs2 : s < 5 := z_lt (x := nI (5)) rfl (by omega) c_4
      obtain ⟨k, rfl⟩ : ∃ q, k = q + 1 := ⟨k - 1, by omega⟩
      refine zx_aload_n (q := 8) dX8_firstHerd_7 rfl rfl rfl ?_
      refine zy_getR (q := 11) dX8_firstHerd_8 fl_RX8_102 rfl rfl rfl rfl ?_
      refine zx_iload_n (q := 12) dX8_firstHerd_11 rfl rfl rfl ?_
      refine zx_iconst (q := 13) (v := 0) dX8_firstHerd_12 (by decide) rfl ?_
      refine zy_iastN (q := 14) dX8_firstHerd_13 rfl (by omega) (by first | decide | omega) rfl ?_
      refine zx_iinc1 (q := 17) dX8_firstHerd_14 rfl rfl ?_
      refine zx_goto (t := 2) dX8_firstHerd_17 (by decide) ?_
      rw [z_inc]
      refine ih k (by omega) (s + 1) _ (by omega) ?_ ?_
      · intro k j z; rw [z_u_ne _ _ (by omega)]; exact e k j z
      · intro i hi
        by_cases c : i = s
        · subst c; rw [z_u_at]
        · rw [z_u_ne _ _ (by omega)]; exact hd i (by omega)
theorem t_X8_first (d : Nat) {g : Nat → Nat → Int32} : zCall l D tc A mX8_firstHerd d 0 0 [.ref 108] (zs g gl f) (zQv fun S' => ∃ g2, S' = zs g2 gl f ∧ zMS g2 (fun _ => 0) 0 ∧ (∀ k j, ¬ (k = 129 ∨ (k = 108 ∧ j = 33)) → g2 k j = g k j)) := by
  show zW l D tc A mX8_firstHerd d 0 0 0 0 0 [some (.ref 108), none] [] (zs g gl f) _
  refine zx_iconst (q := 1) (v := 0) dX8_firstHerd_0 (by decide) rfl ?_
  refine zx_istore1 (q := 2) dX8_firstHerd_1 rfl rfl ?_
  exact lp_X8_first d 5 0 g (by omega) (fun _ _ _ => rfl) (fun i hi => by omega)
theorem t_X8_cnR (d : Nat) {g : Nat → Nat → Int32} {ns : Nat} {sh : Nat → Nat → Nat} {ow : Nat → Nat} (hns : ns ≤ 5) (hg : zSM g sh ow ns) (hs2 : g 108 0 = nI ns) {r : Nat → Nat} {b : Nat} (hC : zMS g r b) (h : Nat) (hh : h < 3) : zCall l D tc A mX8_countNow d 0 0 [.ref 108, .int (nI h)] (zs g gl f) (zQi fun x S' => x = nI (z_cn ns sh r h) ∧ S' = zs g gl f) := by
  refine zW.mono (t_X8_countNow d ns h hs2 hns hh) ?_
  rintro _ S' ⟨x, hx, h1, h2⟩
  refine ⟨x, hx, ?_, h2⟩
  rw [h1]
  exact z_sum_nI ns (fun s hs => by rw [hC.1 s (by omega), (hg s hs).2 h hh, z_mul])
theorem t_X8_tnR (d : Nat) {g : Nat → Nat → Int32} {ns : Nat} {sh : Nat → Nat → Nat} {ow : Nat → Nat} (hns : ns ≤ 5) (hg : zSM g sh ow ns) (hs2 : g 108 0 = nI ns) {r : Nat → Nat} {b : Nat} (hC : zMS g r b) : zCall l D tc A mX8_tollNow d 0 0 [.ref 108] (zs g gl f) (zQi fun x S' => x = nI (z_tn ns ow r) ∧ S' = zs g gl f) := by
  refine zW.mono (t_X8_tollNow d ns hs2 hns) ?_
  rintro _ S' ⟨x, hx, h1, h2⟩
  refine ⟨x, hx, ?_, h2⟩
  rw [h1]
  exact z_sum_nI ns (fun s hs => by rw [hC.1 s (by omega), (hg s hs).1, z_mul])
theorem lp_X8_next (d M : Nat) (hM : M < 1000) : ∀ (n : Nat) (g : Nat → Nat → Int32) (r : Nat → Nat) (b : Nat), n ≤ 5 → zMS g r b → b = z_sN n r → b < 1000 →
    zW l D tc A mX8_nextHerd d 0 0 0 0 7 [some (.ref 108), some (.int (nI M)), some (.int (nI n - 1))] [] (zs g gl f) (zQi fun x S' => x = zb (z_nx M n r b).isSome ∧ ∃ g2, S' = zs g2 gl f ∧ (∀ r' b', z_nx M n r b = some (r', b') → zMS g2 r' b') ∧ (∀ k j, ¬ (k = 129 ∨ (k = 108 ∧ j = 33)) → g2 k j = g k j)) := by
  intro n
  induction n using Nat.strongRecOn with
  | _ n ih =>
    intro g r b hn hC hb hb3
    refine zx_iload_n (q := 8) dX8_nextHerd_7 rfl rfl rfl ?_
    refine zx_if_lt (q := 11) (t := 69) dX8_nextHerd_8 (by decide) rfl (fun c_8 => ?_) (fun c_8 => ?_)
    · have hs0 : n = 0 := by rcases Nat.eq_zero_or_pos n with q | q; exact q; obtain ⟨s, rfl⟩ : ∃ s, n = s + 1 := ⟨n - 1, by omega⟩; rw [nI_pred] at c_8; exact absurd c_8 (nI_pos (by omega))
      subst hs0
      refine zx_iconst (q := 70) (v := 0) dX8_nextHerd_69 (by decide) rfl ?_
      refine zx_zret dX8_nextHerd_70 rfl (by first | rfl | exact zb_nar _) (Nat.le_refl _) (Nat.le_refl _) ⟨_, rfl, ?_⟩
      exact ⟨rfl, g, rfl, fun r' b' hx => (by cases hx), fun _ _ _ => rfl⟩
    · obtain ⟨s, rfl⟩ : ∃ s, n = s + 1 := ⟨n - 1, by cases n with | zero => exact absurd (by decide : (nI 0 - 1 : Int32) < 0) c_8 | succ n => rfl⟩
      have hrs : r s ≤ b := by rw [hb]; exact z_sN_ge (s + 1) s (by omega)
      refine zx_aload_n (q := 12) dX8_nextHerd_11 rfl rfl rfl ?_
      refine zy_getIe (q := 15) (v := nI b) dX8_nextHerd_12 fl_RX8_111 rfl rfl (hC.2) rfl ?_
      refine zx_iload_n (q := 16) dX8_nextHerd_15 rfl rfl rfl ?_
      refine zx_icmp_ge (q := 19) (t := 41) dX8_nextHerd_16 (by decide) rfl (fun c_16 => ?_) (fun c_16 => ?_)
      · have hcm : ¬ b < M := by rw [nI_leI (by omega) (by omega)] at c_16; omega
        refine zx_aload_n (q := 42) dX8_nextHerd_41 rfl rfl rfl ?_
        refine zx_dup (q := 43) dX8_nextHerd_42 rfl rfl ?_
        refine zy_getIe (q := 46) (v := nI b) dX8_nextHerd_43 fl_RX8_111 rfl rfl (hC.2) rfl ?_
        (try rw [nI_pred])
        refine zx_aload_n (q := 47) dX8_nextHerd_46 rfl rfl rfl ?_
        refine zy_getR (q := 50) dX8_nextHerd_47 fl_RX8_102 rfl rfl rfl rfl ?_
        refine zx_iload_n (q := 51) dX8_nextHerd_50 rfl rfl rfl ?_
        refine zy_ialdN (q := 52) dX8_nextHerd_51 rfl (by omega) (by first | decide | omega) rfl ?_
        rw [hC.1 s (by omega)]
        refine zx_isub (q := 53) dX8_nextHerd_52 rfl ?_
        rw [z_subN hrs]
        refine zy_putI (q := 56) dX8_nextHerd_53 fl_RX8_111 rfl rfl ⟨rfl, rfl⟩ rfl rfl ?_
        refine zx_aload_n (q := 57) dX8_nextHerd_56 rfl rfl rfl ?_
        refine zy_getR (q := 60) dX8_nextHerd_57 fl_RX8_102 rfl rfl rfl rfl ?_
        refine zx_iload_n (q := 61) dX8_nextHerd_60 rfl rfl rfl ?_
        refine zx_iconst (q := 62) (v := 0) dX8_nextHerd_61 (by decide) rfl ?_
        refine zy_iastN (q := 63) dX8_nextHerd_62 rfl (by omega) (by first | decide | omega) rfl ?_
        refine zx_iinc2 (q := 66) dX8_nextHerd_63 rfl rfl ?_
        refine zx_goto (t := 7) dX8_nextHerd_66 (by decide) ?_
        rw [z_dcr]
        refine zW.mono (ih s (by omega) _ (z_up r s 0) (b - r s) (by omega) ⟨fun i hi => ?_, ?_⟩ (by rw [z_sN_up _ _ (Nat.le_refl _), hb, z_sN]; omega) (by omega)) ?_
        · by_cases c : i = s
          · subst c; rw [z_u_at, z_up_at]; rfl
          · rw [z_u_ne _ _ (by omega), z_u_ne _ _ (by omega), z_up_ne _ _ c]; exact hC.1 i hi
        · rw [z_u_ne _ _ (by omega), z_u_at]
        · rintro _ S' ⟨x, hx, h1, g2, h2, h3, h4⟩
          refine ⟨x, hx, by rw [z_nx, if_neg hcm]; exact h1, g2, h2, fun r' b' hz => h3 r' b' (by rw [z_nx, if_neg hcm] at hz; exact hz), fun k j z => ?_⟩
          rw [h4 k j z, z_u_ne _ _ (by omega), z_u_ne _ _ (by omega)]
      · have hcm : b < M := by rw [nI_leI (by omega) (by omega)] at c_16; omega
        refine zx_aload_n (q := 20) dX8_nextHerd_19 rfl rfl rfl ?_
        refine zy_getR (q := 23) dX8_nextHerd_20 fl_RX8_102 rfl rfl rfl rfl ?_
        refine zx_iload_n (q := 24) dX8_nextHerd_23 rfl rfl rfl ?_
        rw [nI_pred]
        refine zx_dup2 (q := 25) dX8_nextHerd_24 rfl rfl rfl ?_
        refine zy_ialdN (q := 26) dX8_nextHerd_25 rfl (by omega) (by first | decide | omega) rfl ?_
        rw [hC.1 s (by omega)]
        refine zx_iconst (q := 27) (v := 1) dX8_nextHerd_26 (by decide) rfl ?_
        refine zx_iadd (q := 28) dX8_nextHerd_27 rfl ?_
        rw [nI_1]
        refine zy_iastN (q := 29) dX8_nextHerd_28 rfl (by omega) (by first | decide | omega) rfl ?_
        refine zx_aload_n (q := 30) dX8_nextHerd_29 rfl rfl rfl ?_
        refine zx_dup (q := 31) dX8_nextHerd_30 rfl rfl ?_
        refine zy_getI (q := 34) dX8_nextHerd_31 fl_RX8_111 rfl rfl rfl ?_
        rw [z_u_ne _ _ (by omega), hC.2]
        refine zx_iconst (q := 35) (v := 1) dX8_nextHerd_34 (by decide) rfl ?_
        refine zx_iadd (q := 36) dX8_nextHerd_35 rfl ?_
        rw [nI_1]
        refine zy_putI (q := 39) dX8_nextHerd_36 fl_RX8_111 rfl rfl ⟨rfl, rfl⟩ rfl rfl ?_
        refine zx_iconst (q := 40) (v := 1) dX8_nextHerd_39 (by decide) rfl ?_
        refine zx_zret dX8_nextHerd_40 rfl (by first | rfl | exact zb_nar _) (Nat.le_refl _) (Nat.le_refl _) ⟨_, rfl, ?_⟩
        refine ⟨by rw [z_nx, if_pos hcm]; rfl, _, rfl, fun r' b' hx => ?_, fun k j z => ?_⟩
        · rw [z_nx, if_pos hcm] at hx
          simp only [Option.some.injEq, Prod.mk.injEq] at hx
          obtain ⟨hx1, hx2⟩ := hx
          subst hx1
          subst hx2
          refine ⟨fun i hi => ?_, by rw [z_u_at]⟩
          rw [z_u_ne _ _ (by omega)]
          by_cases c : i = s
          · subst c; rw [z_u_at, z_up_at]
          · rw [z_u_ne _ _ (by omega), z_up_ne _ _ c]; exact hC.1 i hi
        · rw [z_u_ne _ _ (by omega), z_u_ne _ _ (by omega)]
theorem t_X8_next (d M : Nat) {g : Nat → Nat → Int32} {n : Nat} (hns : n ≤ 5) (hs2 : g 108 0 = nI n) {r : Nat → Nat} {b : Nat} (hM : M < 1000) (hC : zMS g r b) (hb : b = z_sN n r) (hb3 : b < 1000) : zCall l D tc A mX8_nextHerd d 0 0 [.ref 108, .int (nI M)] (zs g gl f) (zQi fun x S' => x = zb (z_nx M n r b).isSome ∧ ∃ g2, S' = zs g2 gl f ∧ (∀ r' b', z_nx M n r b = some (r', b') → zMS g2 r' b') ∧ (∀ k j, ¬ (k = 129 ∨ (k = 108 ∧ j = 33)) → g2 k j = g k j)) := by
  show zW l D tc A mX8_nextHerd d 0 0 0 0 0 [some (.ref 108), some (.int (nI M)), none] [] (zs g gl f) _
  refine zx_aload_n (q := 1) dX8_nextHerd_0 rfl rfl rfl ?_
  refine zy_getIe (q := 4) (v := nI n) dX8_nextHerd_1 fl_RX8_7 rfl rfl (hs2) rfl ?_
  refine zx_iconst (q := 5) (v := 1) dX8_nextHerd_4 (by decide) rfl ?_
  refine zx_isub (q := 6) dX8_nextHerd_5 rfl ?_
  refine zx_istore2 (q := 7) dX8_nextHerd_6 rfl rfl ?_
  exact lp_X8_next d M hM n g r b hns hC hb hb3
end P41
