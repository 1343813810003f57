/-! ops mix, hole -/
theorem z_go_cnt {M ns : Nat} {F : (Nat → Nat) → Bool} {T : (Nat → Nat) → Nat} : ∀ (n : Nat) (r : Nat → Nat) (b : Nat) (a : z_A), z_rk ns M r ns = n → b = z_sN ns r → b ≤ M → (z_go M ns F (z_kp T) r b a).1 ≤ a.1 + n + 1 := by
  intro n
  induction n using Nat.strongRecOn with
  | _ n ih =>
    intro r b a hn hb hM
    have h2 : (if F r = true then z_kp T r a else a).1 ≤ a.1 + 1 := by
      split
      · exact Nat.le_refl _
      · omega
    cases hx : z_nx M ns r b with
    | none => rw [z_go_none hx]; omega
    | some q =>
      obtain ⟨j1, j2, j3⟩ := z_nx_dn (r' := q.1) (b' := q.2) hx hb hM
      rw [z_go_some (r' := q.1) (b' := q.2) hx hb hM]
      have := ih (z_rk ns M q.1 ns) (by omega) q.1 q.2 (if F r = true then z_kp T r a else a) rfl j1 j2
      omega
theorem z_fd_cnt {M ns : Nat} {w : Nat → Option Nat} {sh : Nat → Nat → Nat} {ow : Nat → Nat} (hns : ns ≤ 5) (hM : M ≤ 18) : (z_fd M ns w sh ow (fun _ => 0) 0 z_A0).1 ≤ 40000 := by
  have h1 := z_go_cnt (F := fun r => z_fit w (z_cn ns sh r)) (T := z_tn ns ow) (z_rk ns M (fun _ => 0) ns) (fun _ => 0) 0 z_A0 rfl (z_sN_0 ns).symm (Nat.zero_le M)
  have h2 := z_rk_first hns hM
  have h3 : z_A0.1 = 0 := rfl
  unfold z_fd
  omega
def z_xw (gi : Nat → Nat → Int32) (m ns : Nat) (h : Nat) : Option Nat := some (z_ct gi m ns 0 h + z_ct gi m ns 1 h)
section P46
variable {l : Launch} {D : va_G} {tc : Nat → ClassId} {A : Nat → Prop} {S : zw_S} {gi : Nat → Nat → Int32} {gl : Nat → Nat → Int64} {f : Option Nat}
def z_FX (gi : Nat → Nat → Int32) (ns m : Nat) : z_A := z_fd (2 * z_most gi) ns (z_xw gi m ns) (z_sh gi m) (z_ow gi m) (fun _ => 0) 0 z_A0
/-- how many herds fit if the hole h were told, too -/
def z_hw (gi : Nat → Nat → Int32) (ns m h i : Nat) : Option Nat := if i = h then some (z_ct gi m ns 0 h) else z_tw gi i
def z_hf (gi : Nat → Nat → Int32) (ns m h : Nat) : Nat := (z_fd (z_most gi) ns (z_hw gi ns m h) (z_sh gi m) (z_ow gi m) (fun _ => 0) 0 z_A0).1
def z_hs (gi : Nat → Nat → Int32) (ns m : Nat) (o : Option (Nat × Nat)) (h : Nat) : Option (Nat × Nat) :=
  match z_tw gi h with
  | some _ => o
  | none => match o with
    | none => some (h, z_hf gi ns m h)
    | some q => if z_hf gi ns m h < q.2 then some (h, z_hf gi ns m h) else some q
def z_hl (gi : Nat → Nat → Int32) (ns m : Nat) (o : Option (Nat × Nat)) : Nat → Nat → Option (Nat × Nat)
  | 0, _ => o
  | k + 1, h => z_hl gi ns m (z_hs gi ns m o h) k (h + 1)
def z_h1 : Option (Nat × Nat) → Int32
  | none => -5
  | some q => nI q.1
def z_h2 (x : Int32) : Option (Nat × Nat) → Int32
  | none => x
  | some q => nI q.2
def z_hb (o : Option (Nat × Nat)) : Prop := ∀ q, o = some q → q.1 < 3 ∧ q.2 ≤ 40000
theorem z_hf_le {ns m : Nat} (L : zLK gi ns m) (h : Nat) : z_hf gi ns m h ≤ 40000 := z_fd_cnt L.hns (by have := z_most_le gi; omega)
theorem z_hl_z (ns m : Nat) (o : Option (Nat × Nat)) (h : Nat) : z_hl gi ns m o 0 h = o := rfl
theorem z_hl_S (ns m : Nat) (o : Option (Nat × Nat)) (k h : Nat) : z_hl gi ns m o (k + 1) h = z_hl gi ns m (z_hs gi ns m o h) k (h + 1) := rfl
theorem z_hs_t {ns m h v : Nat} (o : Option (Nat × Nat)) (e : z_tw gi h = some v) : z_hs gi ns m o h = o := by unfold z_hs; rw [e]
theorem z_hs_n {ns m h : Nat} (e : z_tw gi h = none) : z_hs gi ns m none h = some (h, z_hf gi ns m h) := by unfold z_hs; rw [e]
theorem z_hs_s {ns m h : Nat} (q : Nat × Nat) (e : z_tw gi h = none) : z_hs gi ns m (some q) h = if z_hf gi ns m h < q.2 then some (h, z_hf gi ns m h) else some q := by unfold z_hs; rw [e]
theorem z_back {ns m h : Nat} {g g2 g3 : Nat → Nat → Int32} {x : Int32} (L : zLK gi ns m) (hh : h < 3) (hv : z_tw gi h = none) (e3 : ∀ k j, ¬ z_scr k j → g3 k j = zw_u g2 116 h x k j) (e2 : ∀ k j, ¬ (126 ≤ k ∧ k ≤ 128) → g2 k j = g k j) (e : ∀ k j, ¬ z_scr k j → g k j = gi k j) : ∀ k j, ¬ z_scr k j → zw_u g3 116 h (-1) k j = gi k j := by
  intro k j z
  by_cases c : k = 116 ∧ j = h
  · obtain ⟨c1, c2⟩ := c
    subst c1
    subst c2
    rw [z_u_at, (z_tw_ok L.hT hh).2.1, hv]
    rfl
  · rw [z_u_ne _ _ c, e3 _ _ z, z_u_ne _ _ c, e2 _ _ (by unfold z_scr at z; omega), e _ _ z]
theorem z_n5 {n : Nat} (h : n < 2 ^ 31) : ¬ nI n = -5 := fun z => by
  have h1 := nI_toInt h
  rw [z] at h1
  have h2 : (-5 : Int32).toInt = -5 := by decide
  omega
theorem lp_X7_mix (d : Nat) {ns m mo : Nat} {g : Nat → Nat → Int32} (L : zLK gi ns m) (e : ∀ k j, ¬ (47 ≤ k ∧ k ≤ 62) → g k j = gi k j) (hg : zSG g ns mo (z_sh gi m) (z_ow gi m) ns) {Q : Option Value → zw_S → Prop} (kk : ∀ g1 : Nat → Nat → Int32, (∀ k j, ¬ k = 62 → g1 k j = g k j) → (∀ i, i < 3 → g1 62 i = nI (z_ct gi m ns 0 i + z_ct gi m ns 1 i)) → zW l D tc A mX7_mix (d + 1) 0 0 0 0 47 [some (.ref 0), some (.int (nI 3))] [] (zs g1 gl f) Q) : ∀ (k h : Nat) (g1 : Nat → Nat → Int32), h + k = 3 → (∀ k j, ¬ k = 62 → g1 k j = g k j) → (∀ i, i < h → g1 62 i = nI (z_ct gi m ns 0 i + z_ct gi m ns 1 i)) → (∀ i, h ≤ i → i < 3 → g1 62 i = nI (z_ct gi m ns 0 i)) → zW l D tc A mX7_mix (d + 1) 0 0 0 0 10 [some (.ref 0), some (.int (nI h))] [] (zs g1 gl f) Q := by
  intro k
  induction k using Nat.strongRecOn with
  | _ k ih =>
    intro h g1 hh e1 hd hn
    refine zx_iload_n (q := 11) dX7_mix_10 rfl rfl rfl ?_
    refine zx_iconst (q := 12) (v := 3) dX7_mix_11 (by decide) rfl ?_
    refine zx_icmp_ge (q := 15) (t := 47) dX7_mix_12 (by decide) rfl (fun c_12 => ?_) (fun c_12 => ?_)
    · have hs2 : h = 3 := by have := z_ge (x := nI 3) rfl (by omega) c_12; omega
      subst hs2
      exact kk g1 e1 hd
    · have hs2 : h < 3 := z_lt (x := nI (3)) rfl (by omega) c_12
      obtain ⟨k, rfl⟩ : ∃ q, k = q + 1 := ⟨k - 1, by omega⟩
      refine zx_aload_n (q := 16) dX7_mix_15 rfl rfl rfl ?_
      refine zy_getR (q := 19) dX7_mix_16 fl_RX7_55 rfl rfl rfl rfl ?_
      refine zx_iload_n (q := 20) dX7_mix_19 rfl rfl rfl ?_
      refine zx_dup2 (q := 21) dX7_mix_20 rfl rfl rfl ?_
      refine zy_ialdN (q := 22) dX7_mix_21 rfl (by omega) (by first | decide | omega) rfl ?_
      refine zx_aload_n (q := 23) dX7_mix_22 rfl rfl rfl ?_
      refine zy_getR (q := 26) dX7_mix_23 fl_RX7_42 rfl rfl rfl rfl ?_
      refine zx_aload_n (q := 27) dX7_mix_26 rfl rfl rfl ?_
      refine zy_getR (q := 30) dX7_mix_27 fl_RX7_12 rfl rfl rfl rfl ?_
      refine zy_getR (q := 33) dX7_mix_30 fl_RX7_92 rfl rfl rfl rfl ?_
      refine zx_iconst (q := 34) (v := 1) dX7_mix_33 (by decide) rfl ?_
      refine zy_aaldN (i := 1) (q := 35) dX7_mix_34 rfl (by decide) (by omega) (by decide) rfl rfl ?_
      refine zx_iload_n (q := 36) dX7_mix_35 rfl rfl rfl ?_
      refine zx_callV2i (q := 39) (y' := mX4_total) dX7_mix_36 ml_RX7_144 ok_mX4_total rfl (by decide) rfl (Nat.le_of_ble_eq_true rfl) (Nat.le_of_ble_eq_true rfl) (Nat.le_refl _) (Nat.le_refl _) rfl (t_totalL _ 1 h L (by omega) (by omega) (fun s => (e1 _ _ (by omega)).trans (e _ _ (by omega))) (zSG_cg hg (fun k j a b => e1 k j (by omega)) L.hns)) ?_
      rintro _ _ ⟨rfl, rfl⟩
      rw [hn h (Nat.le_refl _) (by omega)]
      refine zx_iadd (q := 40) dX7_mix_39 rfl ?_
      rw [nI_add]
      refine zy_iastN (q := 41) dX7_mix_40 rfl (by omega) (by first | decide | omega) rfl ?_
      refine zx_iinc1 (q := 44) dX7_mix_41 rfl rfl ?_
      refine zx_goto (t := 10) dX7_mix_44 (by decide) ?_
      rw [z_inc]
      refine ih k (by omega) (h + 1) _ (by omega) ?_ ?_ ?_
      · intro k j z; rw [z_u_ne _ _ (by omega)]; exact e1 k j z
      · intro i hi
        by_cases c : i = h
        · subst c; rw [z_u_at]
        · rw [z_u_ne _ _ (by omega)]; exact hd i (by omega)
      · intro i hi hi2; rw [z_u_ne _ _ (by omega)]; exact hn i (by omega) hi2
theorem lp_X8_mix (d : Nat) {ns m : Nat} {g : Nat → Nat → Int32} (L : zLK gi ns m) (e : ∀ k j, ¬ (47 ≤ k ∧ k ≤ 62) → ¬ (126 ≤ k ∧ k ≤ 128) → g k j = gi k j) (hg : zSM g (z_sh gi m) (z_ow gi m) ns) {Q : Option Value → zw_S → Prop} (kk : ∀ g1 : Nat → Nat → Int32, (∀ k j, ¬ k = 132 → g1 k j = g k j) → (∀ i, i < 3 → g1 132 i = nI (z_ct gi m ns 0 i + z_ct gi m ns 1 i)) → zW l D tc A mX8_mix (d + 1) 0 0 0 0 34 [some (.ref 108), some (.int (nI 3))] [] (zs g1 gl f) Q) : ∀ (k h : Nat) (g1 : Nat → Nat → Int32), h + k = 3 → (∀ k j, ¬ k = 132 → g1 k j = g k j) → (∀ i, i < h → g1 132 i = nI (z_ct gi m ns 0 i + z_ct gi m ns 1 i)) → zW l D tc A mX8_mix (d + 1) 0 0 0 0 6 [some (.ref 108), some (.int (nI h))] [] (zs g1 gl f) Q := by
  intro k
  induction k using Nat.strongRecOn with
  | _ k ih =>
    intro h g1 hh e1 hd
    refine zx_iload_n (q := 7) dX8_mix_6 rfl rfl rfl ?_
    refine zx_iconst (q := 8) (v := 3) dX8_mix_7 (by decide) rfl ?_
    refine zx_icmp_ge (q := 11) (t := 34) dX8_mix_8 (by decide) rfl (fun c_8 => ?_) (fun c_8 => ?_)
    · have hs2 : h = 3 := by have := z_ge (x := nI 3) rfl (by omega) c_8; omega
      subst hs2
      exact kk g1 e1 hd
    · have hs2 : h < 3 := z_lt (x := nI (3)) rfl (by omega) c_8
      obtain ⟨k, rfl⟩ : ∃ q, k = q + 1 := ⟨k - 1, by omega⟩
      refine zx_aload_n (q := 12) dX8_mix_11 rfl rfl rfl ?_
      refine zy_getR (q := 15) dX8_mix_12 fl_RX8_123 rfl rfl rfl rfl ?_
      refine zx_iload_n (q := 16) dX8_mix_15 rfl rfl rfl ?_
      refine zx_aload_n (q := 17) dX8_mix_16 rfl rfl rfl ?_
      refine zx_iload_n (q := 18) dX8_mix_17 rfl rfl rfl ?_
      refine zx_callV1i (q := 21) (y' := mX8_ownCount) dX8_mix_18 ml_RX8_281 ok_mX8_ownCount rfl (by decide) rfl (Nat.le_of_ble_eq_true rfl) (Nat.le_of_ble_eq_true rfl) (Nat.le_refl _) (Nat.le_refl _) rfl (t_ownL _ h L (by omega) (by rw [e1 _ _ (by omega), e _ _ (by omega) (by omega)]; exact L.hs2) (fun s => (e1 _ _ (by omega)).trans (e _ _ (by omega) (by omega))) (zSM_fr hg (fun k j z => e1 k j (by omega)))) ?_
      rintro _ _ ⟨rfl, rfl⟩
      refine zx_aload_n (q := 22) dX8_mix_21 rfl rfl rfl ?_
      refine zx_iload_n (q := 23) dX8_mix_22 rfl rfl rfl ?_
      refine zx_callV1i (q := 26) (y' := mX8_secondCount) dX8_mix_23 ml_RX8_284 ok_mX8_secondCount rfl (by decide) rfl (Nat.le_of_ble_eq_true rfl) (Nat.le_of_ble_eq_true rfl) (Nat.le_refl _) (Nat.le_refl _) rfl (t_secL _ h L (by omega) (by rw [e1 _ _ (by omega), e _ _ (by omega) (by omega)]; exact L.hs2) (fun s => (e1 _ _ (by omega)).trans (e _ _ (by omega) (by omega))) (zSM_fr hg (fun k j z => e1 k j (by omega)))) ?_
      rintro _ _ ⟨rfl, rfl⟩
      refine zx_iadd (q := 27) dX8_mix_26 rfl ?_
      rw [nI_add]
      refine zy_iastN (q := 28) dX8_mix_27 rfl (by omega) (by first | decide | omega) rfl ?_
      refine zx_iinc1 (q := 31) dX8_mix_28 rfl rfl ?_
      refine zx_goto (t := 6) dX8_mix_31 (by decide) ?_
      rw [z_inc]
      refine ih k (by omega) (h + 1) _ (by omega) ?_ ?_
      · intro k j z; rw [z_u_ne _ _ (by omega)]; exact e1 k j z
      · intro i hi
        by_cases c : i = h
        · subst c; rw [z_u_at]
        · rw [z_u_ne _ _ (by omega)]; exact hd i (by omega)
set_option maxHeartbeats 4000000 in
theorem op_mix (d : Nat)  (hR : zRel gi gl) : zOpI l D tc A mX7_mix mX8_mix (d + 5) [] gi gl f := by
  obtain ⟨ns, m, L⟩ := zLK_of hR
  have hns := L.hns
  by_cases hz : (z_FX gi ns m).1 = 0
  · show zW l D tc A mX7_mix (d + 5) 0 0 0 0 0 [some (.ref 0), none] [] (zs gi gl f) _
    refine zx_aload_n (q := 1) dX7_mix_0 rfl rfl rfl ?_
    refine zx_callV0v (q := 4) (y' := mX7_look) dX7_mix_1 ml_RX7_95 ok_mX7_look rfl (by decide) rfl (Nat.le_of_ble_eq_true rfl) (Nat.le_of_ble_eq_true rfl) (Nat.le_refl _) (Nat.le_refl _) rfl (t_X7_look _ L) ?_
    rintro _ ⟨g1, rfl, k1, s1⟩
    refine zx_aload_n (q := 5) dX7_mix_4 rfl rfl rfl ?_
    refine zx_callV0v (q := 8) (y' := mX7_wantCountsOfHerd) dX7_mix_5 ml_RX7_184 ok_mX7_wantCountsOfHerd rfl (by decide) rfl (Nat.le_of_ble_eq_true rfl) (Nat.le_of_ble_eq_true rfl) (Nat.le_refl _) (Nat.le_refl _) rfl (t_X7_want _ L k1 s1) ?_
    rintro _ ⟨g2, rfl, k2, w2⟩
    refine zx_iconst (q := 9) (v := 0) dX7_mix_8 (by decide) rfl ?_
    refine zx_istore1 (q := 10) dX7_mix_9 rfl rfl ?_
    refine lp_X7_mix (d + 4) L (fun k j z => (k2 k j (by omega)).trans (k1 k j (by omega))) (zSG_cg s1 (fun k j a b => k2 k j (by omega)) L.hns) (fun g3 k3 w3 => ?_) 3 0 _ (by omega) (fun _ _ _ => rfl) (fun i hi => by omega) (fun i _ hi => w2 i hi)
    refine zx_aload_n (q := 48) dX7_mix_47 rfl rfl rfl ?_
    refine zy_getR (q := 51) dX7_mix_48 fl_RX7_51 rfl rfl rfl rfl ?_
    refine zx_iconst (q := 52) (v := 2) dX7_mix_51 (by decide) rfl ?_
    refine zx_aload_n (q := 53) dX7_mix_52 rfl rfl rfl ?_
    refine zy_getR (q := 56) dX7_mix_53 fl_RX7_42 rfl rfl rfl rfl ?_
    refine zy_getIe (q := 59) (v := nI (z_most gi)) dX7_mix_56 fl_RX7_133 rfl rfl (by rw [k3 _ _ (by omega), k2 _ _ (by omega)]; exact s1.2.1) rfl ?_
    refine zx_imul (q := 60) dX7_mix_59 rfl ?_
    rw [show (2 : Int32) = nI 2 from rfl, z_mul]
    refine zx_aload_n (q := 61) dX7_mix_60 rfl rfl rfl ?_
    refine zy_getR (q := 64) dX7_mix_61 fl_RX7_55 rfl rfl rfl rfl ?_
    refine zx_callV2v (q := 67) (y' := mX3_find) dX7_mix_64 ml_RX7_180 ok_mX3_find rfl (by decide) rfl (Nat.le_of_ble_eq_true rfl) (Nat.le_of_ble_eq_true rfl) (Nat.le_refl _) (Nat.le_refl _) rfl (t_X3_find _ L.hns (zSG_cg s1 (fun k j a b => by rw [k3 _ _ (by omega), k2 _ _ (by omega)]) L.hns) (fun s hs h hh => z_sh_le L hs hh) (fun s hs => z_ow_le L hs) (M := 2 * z_most gi) (by have := z_most_le gi; omega) (wc := 62) (w := z_xw gi m ns) rfl (by omega) (fun h hh => ⟨w3 h hh, fun v hv => by have h9 := z_ct_le (w := 0) (h := h) L (by omega) hh; have h10 := z_ct_le (w := 1) (h := h) L (by omega) hh; simp only [z_xw, Option.some.injEq] at hv; omega⟩)) ?_
    rintro _ ⟨g4, rfl, hA, hok, e4⟩
    have hA : zCA g4 ns (z_FX gi ns m) := hA
    have hok : z_aok ns (z_FX gi ns m) := hok
    have hs4 : zSG g4 ns (z_most gi) (z_sh gi m) (z_ow gi m) ns := zSG_cg s1 (fun k j a b => by rw [e4 _ _ (by omega), k3 _ _ (by omega), k2 _ _ (by omega)]) L.hns
    have e4 : ∀ k j, ¬ (47 ≤ k ∧ k ≤ 62) → g4 k j = gi k j := fun k j z => by rw [e4 _ _ (by omega), k3 _ _ (by omega), k2 _ _ (by omega), k1 _ _ (by omega)]
    refine zx_aload_n (q := 68) dX7_mix_67 rfl rfl rfl ?_
    refine zy_getR (q := 71) dX7_mix_68 fl_RX7_51 rfl rfl rfl rfl ?_
    refine zy_getIe (q := 74) (v := nI (z_FX gi ns m).1) dX7_mix_71 fl_RX7_151 rfl rfl (hA.1) rfl ?_
    refine zx_if_ne_f (t := 80) (q := 77) dX7_mix_74 (by decide) rfl (by rw [hz]; rfl) ?_
    refine zx_ldc (q := 79) dX7_mix_77 kc_RX7_191 rfl ?_
    refine zx_iret dX7_mix_79 rfl (Nat.le_refl _) (Nat.le_refl _) ⟨_, rfl, ?_⟩
    refine ⟨_, _, _, rfl, ?_⟩
    show zW l D tc A mX8_mix (d + 5) 0 0 0 0 0 [some (.ref 108), none] [] (zs _ _ _) _
    refine zx_aload_n (q := 1) dX8_mix_0 rfl rfl rfl ?_
    refine zx_callV0v (q := 4) (y' := mX8_layShows) dX8_mix_1 ml_RX8_278 ok_mX8_layShows rfl (by decide) rfl (Nat.le_of_ble_eq_true rfl) (Nat.le_of_ble_eq_true rfl) (Nat.le_refl _) (Nat.le_refl _) rfl (t_X8_layF _ L (fun k j a b => e4 k j (by unfold z_scr at a; omega))) ?_
    rintro _ ⟨g5, rfl, e5, h5⟩
    have e5 : ∀ k j, ¬ (47 ≤ k ∧ k ≤ 62) → ¬ (126 ≤ k ∧ k ≤ 128) → g5 k j = gi k j := fun k j a b => (e5 k j b).trans (e4 k j a)
    refine zx_iconst (q := 5) (v := 0) dX8_mix_4 (by decide) rfl ?_
    refine zx_istore1 (q := 6) dX8_mix_5 rfl rfl ?_
    refine lp_X8_mix (d + 4) L e5 h5 (fun g6 e6 w6 => ?_) 3 0 _ (by omega) (fun _ _ _ => rfl) (fun i hi => by omega)
    have e7 : zFq gi g6 := fun k j a b => by rw [e6 k j (by unfold z_scr at a; omega), e5 k j (by unfold z_scr at a; omega) (by unfold z_scr at a; omega)]
    have h7 : zSM g6 (z_sh gi m) (z_ow gi m) ns := zSM_fr h5 (fun k j z => e6 k j (by omega))
    refine zx_aload_n (q := 35) dX8_mix_34 rfl rfl rfl ?_
    refine zx_iconst (q := 36) (v := 2) dX8_mix_35 (by decide) rfl ?_
    refine zx_aload_n (q := 37) dX8_mix_36 rfl rfl rfl ?_
    refine zx_callV0i (q := 40) (y' := mX8_mostNow) dX8_mix_37 ml_RX8_287 ok_mX8_mostNow rfl (by decide) rfl (Nat.le_of_ble_eq_true rfl) (Nat.le_of_ble_eq_true rfl) (Nat.le_refl _) (Nat.le_refl _) rfl (t_X8_mostF _ L e7) ?_
    rintro _ _ ⟨rfl, rfl⟩
    rw [show (2 : Int32) = nI 2 from rfl]
    refine zx_imul (q := 41) dX8_mix_40 rfl ?_
    rw [z_mul]
    refine zx_callV1i (q := 44) (y' := mX8_layAlike) dX8_mix_41 ml_RX8_323 ok_mX8_layAlike rfl (by decide) rfl (Nat.le_of_ble_eq_true rfl) (Nat.le_of_ble_eq_true rfl) (Nat.le_refl _) (Nat.le_refl _) rfl (t_X8_alike _ L e7 h7 (w := z_xw gi m ns) (M := 2 * z_most gi) (by have := z_most_le gi; omega) (fun h hh => ⟨w6 h hh, fun v hv => by have h9 := z_ct_le (w := 0) (h := h) L (by omega) hh; have h10 := z_ct_le (w := 1) (h := h) L (by omega) hh; simp only [z_xw, Option.some.injEq] at hv; omega⟩) (fun h _ => ⟨_, rfl⟩)) ?_
    rintro _ _ ⟨rfl, g8, rfl, hB, e8⟩
    have hB : zMB g8 (z_FX gi ns m) := hB
    have h8 := zLF_s h7 e8
    have e8 : ∀ k j, ¬ z_scr k j → g8 k j = gi k j := fun k j z => by rw [e8 k j (by unfold z_scr at z; omega), e6 k j (by unfold z_scr at z; omega), e5 k j (by unfold z_scr at z; omega) (by unfold z_scr at z; omega)]
    refine zx_if_eq_t (t := 64) (q := 47) dX8_mix_44 (by decide) rfl (zk_f (by rw [show (z_fd (2 * z_most gi) ns (z_xw gi m ns) (z_sh gi m) (z_ow gi m) (fun _ => 0) 0 z_A0).1 = 0 from hz]; decide)) ?_
    refine zx_ldcw (q := 67) dX8_mix_64 kc_RX8_329 rfl ?_
    refine zx_iret dX8_mix_67 rfl (Nat.le_refl _) (Nat.le_refl _) ⟨_, rfl, ?_⟩
    exact ⟨rfl, _, _, _, rfl, zRel_scr hR e8⟩
  · show zW l D tc A mX7_mix (d + 5) 0 0 0 0 0 [some (.ref 0), none] [] (zs gi gl f) _
    refine zx_aload_n (q := 1) dX7_mix_0 rfl rfl rfl ?_
    refine zx_callV0v (q := 4) (y' := mX7_look) dX7_mix_1 ml_RX7_95 ok_mX7_look rfl (by decide) rfl (Nat.le_of_ble_eq_true rfl) (Nat.le_of_ble_eq_true rfl) (Nat.le_refl _) (Nat.le_refl _) rfl (t_X7_look _ L) ?_
    rintro _ ⟨g1, rfl, k1, s1⟩
    refine zx_aload_n (q := 5) dX7_mix_4 rfl rfl rfl ?_
    refine zx_callV0v (q := 8) (y' := mX7_wantCountsOfHerd) dX7_mix_5 ml_RX7_184 ok_mX7_wantCountsOfHerd rfl (by decide) rfl (Nat.le_of_ble_eq_true rfl) (Nat.le_of_ble_eq_true rfl) (Nat.le_refl _) (Nat.le_refl _) rfl (t_X7_want _ L k1 s1) ?_
    rintro _ ⟨g2, rfl, k2, w2⟩
    refine zx_iconst (q := 9) (v := 0) dX7_mix_8 (by decide) rfl ?_
    refine zx_istore1 (q := 10) dX7_mix_9 rfl rfl ?_
    refine lp_X7_mix (d + 4) L (fun k j z => (k2 k j (by omega)).trans (k1 k j (by omega))) (zSG_cg s1 (fun k j a b => k2 k j (by omega)) L.hns) (fun g3 k3 w3 => ?_) 3 0 _ (by omega) (fun _ _ _ => rfl) (fun i hi => by omega) (fun i _ hi => w2 i hi)
    refine zx_aload_n (q := 48) dX7_mix_47 rfl rfl rfl ?_
    refine zy_getR (q := 51) dX7_mix_48 fl_RX7_51 rfl rfl rfl rfl ?_
    refine zx_iconst (q := 52) (v := 2) dX7_mix_51 (by decide) rfl ?_
    refine zx_aload_n (q := 53) dX7_mix_52 rfl rfl rfl ?_
    refine zy_getR (q := 56) dX7_mix_53 fl_RX7_42 rfl rfl rfl rfl ?_
    refine zy_getIe (q := 59) (v := nI (z_most gi)) dX7_mix_56 fl_RX7_133 rfl rfl (by rw [k3 _ _ (by omega), k2 _ _ (by omega)]; exact s1.2.1) rfl ?_
    refine zx_imul (q := 60) dX7_mix_59 rfl ?_
    rw [show (2 : Int32) = nI 2 from rfl, z_mul]
    refine zx_aload_n (q := 61) dX7_mix_60 rfl rfl rfl ?_
    refine zy_getR (q := 64) dX7_mix_61 fl_RX7_55 rfl rfl rfl rfl ?_
    refine zx_callV2v (q := 67) (y' := mX3_find) dX7_mix_64 ml_RX7_180 ok_mX3_find rfl (by decide) rfl (Nat.le_of_ble_eq_true rfl) (Nat.le_of_ble_eq_true rfl) (Nat.le_refl _) (Nat.le_refl _) rfl (t_X3_find _ L.hns (zSG_cg s1 (fun k j a b => by rw [k3 _ _ (by omega), k2 _ _ (by omega)]) L.hns) (fun s hs h hh => z_sh_le L hs hh) (fun s hs => z_ow_le L hs) (M := 2 * z_most gi) (by have := z_most_le gi; omega) (wc := 62) (w := z_xw gi m ns) rfl (by omega) (fun h hh => ⟨w3 h hh, fun v hv => by have h9 := z_ct_le (w := 0) (h := h) L (by omega) hh; have h10 := z_ct_le (w := 1) (h := h) L (by omega) hh; simp only [z_xw, Option.some.injEq] at hv; omega⟩)) ?_
    rintro _ ⟨g4, rfl, hA, hok, e4⟩
    have hA : zCA g4 ns (z_FX gi ns m) := hA
    have hok : z_aok ns (z_FX gi ns m) := hok
    have hs4 : zSG g4 ns (z_most gi) (z_sh gi m) (z_ow gi m) ns := zSG_cg s1 (fun k j a b => by rw [e4 _ _ (by omega), k3 _ _ (by omega), k2 _ _ (by omega)]) L.hns
    have e4 : ∀ k j, ¬ (47 ≤ k ∧ k ≤ 62) → g4 k j = gi k j := fun k j z => by rw [e4 _ _ (by omega), k3 _ _ (by omega), k2 _ _ (by omega), k1 _ _ (by omega)]
    refine zx_aload_n (q := 68) dX7_mix_67 rfl rfl rfl ?_
    refine zy_getR (q := 71) dX7_mix_68 fl_RX7_51 rfl rfl rfl rfl ?_
    refine zy_getIe (q := 74) (v := nI (z_FX gi ns m).1) dX7_mix_71 fl_RX7_151 rfl rfl (hA.1) rfl ?_
    refine zx_if_ne_t (t := 80) (q := 77) dX7_mix_74 (by decide) rfl (z_n0 hok.2.1 hz) ?_
    refine zx_aload_n (q := 81) dX7_mix_80 rfl rfl rfl ?_
    refine zy_getR (q := 84) dX7_mix_81 fl_RX7_42 rfl rfl rfl rfl ?_
    refine zx_aload_n (q := 85) dX7_mix_84 rfl rfl rfl ?_
    refine zy_getR (q := 88) dX7_mix_85 fl_RX7_12 rfl rfl rfl rfl ?_
    refine zy_getR (q := 91) dX7_mix_88 fl_RX7_92 rfl rfl rfl rfl ?_
    refine zx_iconst (q := 92) (v := 0) dX7_mix_91 (by decide) rfl ?_
    refine zy_aaldN (i := 0) (q := 93) dX7_mix_92 rfl (by decide) (by omega) (by decide) rfl rfl ?_
    refine zx_callV1i (q := 96) (y' := mX4_tollOf) dX7_mix_93 ml_RX7_136 ok_mX4_tollOf rfl (by decide) rfl (Nat.le_of_ble_eq_true rfl) (Nat.le_of_ble_eq_true rfl) (Nat.le_refl _) (Nat.le_refl _) rfl (t_tollL _ 0 L (by omega) (fun s => e4 _ _ (by omega)) hs4) ?_
    rintro _ _ ⟨rfl, rfl⟩
    refine zx_aload_n (q := 97) dX7_mix_96 rfl rfl rfl ?_
    refine zy_getR (q := 100) dX7_mix_97 fl_RX7_42 rfl rfl rfl rfl ?_
    refine zx_aload_n (q := 101) dX7_mix_100 rfl rfl rfl ?_
    refine zy_getR (q := 104) dX7_mix_101 fl_RX7_12 rfl rfl rfl rfl ?_
    refine zy_getR (q := 107) dX7_mix_104 fl_RX7_92 rfl rfl rfl rfl ?_
    refine zx_iconst (q := 108) (v := 1) dX7_mix_107 (by decide) rfl ?_
    refine zy_aaldN (i := 1) (q := 109) dX7_mix_108 rfl (by decide) (by omega) (by decide) rfl rfl ?_
    refine zx_callV1i (q := 112) (y' := mX4_tollOf) dX7_mix_109 ml_RX7_136 ok_mX4_tollOf rfl (by decide) rfl (Nat.le_of_ble_eq_true rfl) (Nat.le_of_ble_eq_true rfl) (Nat.le_refl _) (Nat.le_refl _) rfl (t_tollL _ 1 L (by omega) (fun s => e4 _ _ (by omega)) hs4) ?_
    rintro _ _ ⟨rfl, rfl⟩
    refine zx_iadd (q := 113) dX7_mix_112 rfl ?_
    refine zx_aload_n (q := 114) dX7_mix_113 rfl rfl rfl ?_
    refine zy_getR (q := 117) dX7_mix_114 fl_RX7_51 rfl rfl rfl rfl ?_
    refine zy_getIe (q := 120) (v := nI (z_FX gi ns m).2.1) dX7_mix_117 fl_RX7_157 rfl rfl (hA.2.1) rfl ?_
    refine zx_isub (q := 121) dX7_mix_120 rfl ?_
    refine zx_iret dX7_mix_121 rfl (Nat.le_refl _) (Nat.le_refl _) ⟨_, rfl, ?_⟩
    refine ⟨_, _, _, rfl, ?_⟩
    show zW l D tc A mX8_mix (d + 5) 0 0 0 0 0 [some (.ref 108), none] [] (zs _ _ _) _
    refine zx_aload_n (q := 1) dX8_mix_0 rfl rfl rfl ?_
    refine zx_callV0v (q := 4) (y' := mX8_layShows) dX8_mix_1 ml_RX8_278 ok_mX8_layShows rfl (by decide) rfl (Nat.le_of_ble_eq_true rfl) (Nat.le_of_ble_eq_true rfl) (Nat.le_refl _) (Nat.le_refl _) rfl (t_X8_layF _ L (fun k j a b => e4 k j (by unfold z_scr at a; omega))) ?_
    rintro _ ⟨g5, rfl, e5, h5⟩
    have e5 : ∀ k j, ¬ (47 ≤ k ∧ k ≤ 62) → ¬ (126 ≤ k ∧ k ≤ 128) → g5 k j = gi k j := fun k j a b => (e5 k j b).trans (e4 k j a)
    refine zx_iconst (q := 5) (v := 0) dX8_mix_4 (by decide) rfl ?_
    refine zx_istore1 (q := 6) dX8_mix_5 rfl rfl ?_
    refine lp_X8_mix (d + 4) L e5 h5 (fun g6 e6 w6 => ?_) 3 0 _ (by omega) (fun _ _ _ => rfl) (fun i hi => by omega)
    have e7 : zFq gi g6 := fun k j a b => by rw [e6 k j (by unfold z_scr at a; omega), e5 k j (by unfold z_scr at a; omega) (by unfold z_scr at a; omega)]
    have h7 : zSM g6 (z_sh gi m) (z_ow gi m) ns := zSM_fr h5 (fun k j z => e6 k j (by omega))
    refine zx_aload_n (q := 35) dX8_mix_34 rfl rfl rfl ?_
    refine zx_iconst (q := 36) (v := 2) dX8_mix_35 (by decide) rfl ?_
    refine zx_aload_n (q := 37) dX8_mix_36 rfl rfl rfl ?_
    refine zx_callV0i (q := 40) (y' := mX8_mostNow) dX8_mix_37 ml_RX8_287 ok_mX8_mostNow rfl (by decide) rfl (Nat.le_of_ble_eq_true rfl) (Nat.le_of_ble_eq_true rfl) (Nat.le_refl _) (Nat.le_refl _) rfl (t_X8_mostF _ L e7) ?_
    rintro _ _ ⟨rfl, rfl⟩
    rw [show (2 : Int32) = nI 2 from rfl]
    refine zx_imul (q := 41) dX8_mix_40 rfl ?_
    rw [z_mul]
    refine zx_callV1i (q := 44) (y' := mX8_layAlike) dX8_mix_41 ml_RX8_323 ok_mX8_layAlike rfl (by decide) rfl (Nat.le_of_ble_eq_true rfl) (Nat.le_of_ble_eq_true rfl) (Nat.le_refl _) (Nat.le_refl _) rfl (t_X8_alike _ L e7 h7 (w := z_xw gi m ns) (M := 2 * z_most gi) (by have := z_most_le gi; omega) (fun h hh => ⟨w6 h hh, fun v hv => by have h9 := z_ct_le (w := 0) (h := h) L (by omega) hh; have h10 := z_ct_le (w := 1) (h := h) L (by omega) hh; simp only [z_xw, Option.some.injEq] at hv; omega⟩) (fun h _ => ⟨_, rfl⟩)) ?_
    rintro _ _ ⟨rfl, g8, rfl, hB, e8⟩
    have hB : zMB g8 (z_FX gi ns m) := hB
    have h8 := zLF_s h7 e8
    have e8 : ∀ k j, ¬ z_scr k j → g8 k j = gi k j := fun k j z => by rw [e8 k j (by unfold z_scr at z; omega), e6 k j (by unfold z_scr at z; omega), e5 k j (by unfold z_scr at z; omega) (by unfold z_scr at z; omega)]
    refine zx_if_eq_f (t := 64) (q := 47) dX8_mix_44 (by decide) rfl (zk_t (decide_eq_true (Nat.pos_of_ne_zero hz))) ?_
    refine zx_aload_n (q := 48) dX8_mix_47 rfl rfl rfl ?_
    refine zx_callV0i (q := 51) (y' := mX8_ownToll) dX8_mix_48 ml_RX8_290 ok_mX8_ownToll rfl (by decide) rfl (Nat.le_of_ble_eq_true rfl) (Nat.le_of_ble_eq_true rfl) (Nat.le_refl _) (Nat.le_refl _) rfl (t_ownTL _ L (by rw [e8 _ _ (by unfold z_scr; omega)]; exact L.hs2) (fun s => e8 _ _ (by unfold z_scr; omega)) h8) ?_
    rintro _ _ ⟨rfl, rfl⟩
    refine zx_aload_n (q := 52) dX8_mix_51 rfl rfl rfl ?_
    refine zx_callV0i (q := 55) (y' := mX8_secondToll) dX8_mix_52 ml_RX8_293 ok_mX8_secondToll rfl (by decide) rfl (Nat.le_of_ble_eq_true rfl) (Nat.le_of_ble_eq_true rfl) (Nat.le_refl _) (Nat.le_refl _) rfl (t_secTL _ L (by rw [e8 _ _ (by unfold z_scr; omega)]; exact L.hs2) (fun s => e8 _ _ (by unfold z_scr; omega)) h8) ?_
    rintro _ _ ⟨rfl, rfl⟩
    refine zx_iadd (q := 56) dX8_mix_55 rfl ?_
    refine zx_aload_n (q := 57) dX8_mix_56 rfl rfl rfl ?_
    refine zy_getIe (q := 60) (v := nI (z_FX gi ns m).2.1) dX8_mix_57 fl_RX8_117 rfl rfl ((hB (Nat.pos_of_ne_zero hz)).1) rfl ?_
    refine zx_isub (q := 61) dX8_mix_60 rfl ?_
    refine zx_goto (t := 67) dX8_mix_61 (by decide) ?_
    refine zx_iret dX8_mix_67 rfl (Nat.le_refl _) (Nat.le_refl _) ⟨_, rfl, ?_⟩
    exact ⟨rfl, _, _, _, rfl, zRel_scr hR e8⟩
theorem t_X7_fit (d h : Nat) {ns m : Nat} {g : Nat → Nat → Int32} (L : zLK gi ns m) (e : ∀ k j, ¬ (47 ≤ k ∧ k ≤ 62) → g k j = gi k j) (hg : zSG g ns (z_most gi) (z_sh gi m) (z_ow gi m) ns) (hh : h < 3) : zCall l D tc A mX7_foundIfTold (d + 3) 0 0 [.ref 0, .int (nI h)] (zs g gl f) (zQi fun x S' => x = nI (z_hf gi ns m h) ∧ ∃ g2, S' = zs g2 gl f ∧ ∀ k j, ¬ (56 ≤ k ∧ k ≤ 62) → g2 k j = g k j) := by
  show zW l D tc A mX7_foundIfTold (d + 3) 0 0 0 0 0 [some (.ref 0), some (.int (nI h))] [] (zs g gl f) _
  refine zx_aload_n (q := 1) dX7_foundIfTold_0 rfl rfl rfl ?_
  refine zy_getR (q := 4) dX7_foundIfTold_1 fl_RX7_12 rfl rfl rfl rfl ?_
  refine zy_getR (q := 7) dX7_foundIfTold_4 fl_RX7_113 rfl rfl rfl rfl ?_
  refine zx_iconst (q := 8) (v := 0) dX7_foundIfTold_7 (by decide) rfl ?_
  refine zx_aload_n (q := 9) dX7_foundIfTold_8 rfl rfl rfl ?_
  refine zy_getR (q := 12) dX7_foundIfTold_9 fl_RX7_55 rfl rfl rfl rfl ?_
  refine zx_iconst (q := 13) (v := 0) dX7_foundIfTold_12 (by decide) rfl ?_
  refine zx_iconst (q := 14) (v := 3) dX7_foundIfTold_13 (by decide) rfl ?_
  refine zy_copyG (q := 17) dX7_foundIfTold_14 ml_RX7_174 rfl rfl rfl (by decide) (by omega) (Nat.le_of_ble_eq_true rfl) rfl (fun g1 h1 k1 => ?_)
  refine zx_aload_n (q := 18) dX7_foundIfTold_17 rfl rfl rfl ?_
  refine zy_getR (q := 21) dX7_foundIfTold_18 fl_RX7_55 rfl rfl rfl rfl ?_
  refine zx_iload_n (q := 22) dX7_foundIfTold_21 rfl rfl rfl ?_
  refine zx_aload_n (q := 23) dX7_foundIfTold_22 rfl rfl rfl ?_
  refine zy_getR (q := 26) dX7_foundIfTold_23 fl_RX7_42 rfl rfl rfl rfl ?_
  refine zx_aload_n (q := 27) dX7_foundIfTold_26 rfl rfl rfl ?_
  refine zy_getR (q := 30) dX7_foundIfTold_27 fl_RX7_12 rfl rfl rfl rfl ?_
  refine zy_getR (q := 33) dX7_foundIfTold_30 fl_RX7_92 rfl rfl rfl rfl ?_
  refine zx_iconst (q := 34) (v := 0) dX7_foundIfTold_33 (by decide) rfl ?_
  refine zy_aaldN (i := 0) (q := 35) dX7_foundIfTold_34 rfl (by decide) (by omega) (by decide) rfl rfl ?_
  refine zx_iload_n (q := 36) dX7_foundIfTold_35 rfl rfl rfl ?_
  refine zx_callV2i (q := 39) (y' := mX4_total) dX7_foundIfTold_36 ml_RX7_144 ok_mX4_total rfl (by decide) rfl (Nat.le_of_ble_eq_true rfl) (Nat.le_of_ble_eq_true rfl) (Nat.le_refl _) (Nat.le_refl _) rfl (t_totalL _ 0 h L (by omega) hh (fun s => (h1 _ _ (by omega)).trans (e _ _ (by omega))) (zSG_cg hg (fun k j a b => h1 k j (by omega)) L.hns)) ?_
  rintro _ _ ⟨rfl, rfl⟩
  refine zy_iastN (q := 40) dX7_foundIfTold_39 rfl (by omega) (by first | decide | omega) rfl ?_
  refine zx_aload_n (q := 41) dX7_foundIfTold_40 rfl rfl rfl ?_
  refine zy_getR (q := 44) dX7_foundIfTold_41 fl_RX7_51 rfl rfl rfl rfl ?_
  refine zx_aload_n (q := 45) dX7_foundIfTold_44 rfl rfl rfl ?_
  refine zy_getR (q := 48) dX7_foundIfTold_45 fl_RX7_42 rfl rfl rfl rfl ?_
  refine zy_getIe (q := 51) (v := nI (z_most gi)) dX7_foundIfTold_48 fl_RX7_133 rfl rfl (by rw [z_u_ne _ _ (by omega), h1 _ _ (by omega)]; exact hg.2.1) rfl ?_
  refine zx_aload_n (q := 52) dX7_foundIfTold_51 rfl rfl rfl ?_
  refine zy_getR (q := 55) dX7_foundIfTold_52 fl_RX7_55 rfl rfl rfl rfl ?_
  have hwt : z_wt (zw_u g1 62 h (nI (z_ct gi m ns 0 h))) 62 (z_hw gi ns m h) := by
    intro i hi
    unfold z_hw
    by_cases c : i = h
    · subst c
      rw [if_pos rfl, z_u_at]
      refine ⟨rfl, fun v hv => ?_⟩
      have h9 := z_ct_le (w := 0) (h := i) L (by omega) hi
      simp only [Option.some.injEq] at hv
      omega
    · rw [if_neg c, z_u_ne _ _ (by omega), k1 i hi, e _ _ (by omega)]
      exact ⟨(z_tw_ok L.hT hi).1, fun v hv => by have := (z_tw_ok L.hT hi).2.2 v hv; omega⟩
  refine zx_callV2v (q := 58) (y' := mX3_find) dX7_foundIfTold_55 ml_RX7_180 ok_mX3_find rfl (by decide) rfl (Nat.le_of_ble_eq_true rfl) (Nat.le_of_ble_eq_true rfl) (Nat.le_refl _) (Nat.le_refl _) rfl (t_X3_find _ L.hns (zSG_cg hg (fun k j a b => by rw [z_u_ne _ _ (by omega), h1 _ _ (by omega)]) L.hns) (fun s hs h hh => z_sh_le L hs hh) (fun s hs => z_ow_le L hs) (M := z_most gi) (by have := z_most_le gi; omega) (wc := 62) (w := z_hw gi ns m h) rfl (by omega) hwt) ?_
  rintro _ ⟨g3, rfl, hA, _, e3⟩
  refine zx_aload_n (q := 59) dX7_foundIfTold_58 rfl rfl rfl ?_
  refine zy_getR (q := 62) dX7_foundIfTold_59 fl_RX7_51 rfl rfl rfl rfl ?_
  refine zy_getIe (q := 65) (v := nI (z_hf gi ns m h)) dX7_foundIfTold_62 fl_RX7_151 rfl rfl (hA.1) rfl ?_
  refine zx_iret dX7_foundIfTold_65 rfl (Nat.le_refl _) (Nat.le_refl _) ⟨_, rfl, ?_⟩
  exact ⟨rfl, g3, rfl, fun k j z => by rw [e3 _ _ (by omega), z_u_ne _ _ (by omega), h1 _ _ (by omega)]⟩
theorem lp_X7_hole (d : Nat) {ns m : Nat} (L : zLK gi ns m) (a : Int32) : ∀ (k h : Nat) (o : Option (Nat × Nat)) (g : Nat → Nat → Int32) (w5 : Option Value), h + k = 3 → z_hb o → (∀ k j, ¬ (47 ≤ k ∧ k ≤ 62) → g k j = gi k j) → zSG g ns (z_most gi) (z_sh gi m) (z_ow gi m) ns → zW l D tc A mX7_hole (d + 4) 0 0 0 0 24 [some (.ref 0), some (.int a), some (.int (z_h1 o)), some (.int (z_h2 (-5) o)), some (.int (nI h)), w5] [] (zs g gl f) (zQi fun x S' => x = (if a = 0 then z_h1 (z_hl gi ns m o k h) else z_h2 (-5) (z_hl gi ns m o k h)) ∧ ∃ g2, S' = zs g2 gl f ∧ (∀ k j, ¬ (47 ≤ k ∧ k ≤ 62) → g2 k j = gi k j)) := by
  intro k
  induction k using Nat.strongRecOn with
  | _ k ih =>
    intro h o g w5 hh hob e hg
    refine zx_iload (q := 26) dX7_hole_24 rfl rfl ?_
    refine zx_iconst (q := 27) (v := 3) dX7_hole_26 (by decide) rfl ?_
    refine zx_icmp_ge (q := 30) (t := 76) dX7_hole_27 (by decide) rfl (fun c_27 => ?_) (fun c_27 => ?_)
    · have hs2 : h = 3 := by have := z_ge (x := nI (3)) rfl (by omega) c_27; omega
      have hk0 : k = 0 := by omega
      subst hk0
      refine zx_iload_n (q := 77) dX7_hole_76 rfl rfl rfl ?_
      refine zx_if_ne (q := 80) (t := 84) dX7_hole_77 (by decide) rfl (fun c_77 => ?_) (fun c_77 => ?_)
      · have ha0 : ¬ a = 0 := c_77
        refine zx_iload_n (q := 85) dX7_hole_84 rfl rfl rfl ?_
        refine zx_iret dX7_hole_85 rfl (Nat.le_refl _) (Nat.le_refl _) ⟨_, rfl, ?_⟩
        first
          | exact ⟨by rw [if_pos ha0]; rfl, g, rfl, e⟩
          | exact ⟨by rw [if_neg ha0]; rfl, g, rfl, e⟩
      · have ha0 : a = 0 := by simpa using c_77
        refine zx_iload_n (q := 81) dX7_hole_80 rfl rfl rfl ?_
        refine zx_goto (t := 85) dX7_hole_81 (by decide) ?_
        refine zx_iret dX7_hole_85 rfl (Nat.le_refl _) (Nat.le_refl _) ⟨_, rfl, ?_⟩
        first
          | exact ⟨by rw [if_pos ha0]; rfl, g, rfl, e⟩
          | exact ⟨by rw [if_neg ha0]; rfl, g, rfl, e⟩
    · have hs2 : h < 3 := z_lt (x := nI (3)) rfl (by omega) c_27
      obtain ⟨k, rfl⟩ : ∃ q, k = q + 1 := ⟨k - 1, by omega⟩
      refine zx_aload_n (q := 31) dX7_hole_30 rfl rfl rfl ?_
      refine zy_getR (q := 34) dX7_hole_31 fl_RX7_12 rfl rfl rfl rfl ?_
      refine zy_getR (q := 37) dX7_hole_34 fl_RX7_113 rfl rfl rfl rfl ?_
      refine zx_iload (q := 39) dX7_hole_37 rfl rfl ?_
      refine zy_ialdN (q := 40) dX7_hole_39 rfl (by omega) (by first | decide | omega) rfl ?_
      rw [e _ _ (by omega), (z_tw_ok L.hT (h := h) (by omega)).1]
      have hwb := (z_tw_ok L.hT (h := h) (by omega)).2.2
      refine zx_iconst (q := 41) (v := (-1)) dX7_hole_40 (by decide) rfl ?_
      refine zx_icmp_ne (q := 44) (t := 70) dX7_hole_41 (by decide) rfl (fun c_41 => ?_) (fun c_41 => ?_)
      · obtain ⟨v, hv⟩ : ∃ v, z_tw gi h = some v := by cases hx : z_tw gi h with | none => exact absurd (by rw [hx]; rfl) c_41 | some v => exact ⟨v, rfl⟩
        refine zx_iinc4 (q := 73) dX7_hole_70 rfl rfl ?_
        refine zx_goto (t := 24) dX7_hole_73 (by decide) ?_
        first
          | (rw [z_inc, z_hl_S, z_hs_t o hv]; exact ih k (by omega) (h + 1) _ g _ (by omega) hob e hg)
          | (rw [z_inc, z_hl_S, z_hs_n hv]; exact ih k (by omega) (h + 1) (some (h, z_hf gi ns m h)) g2 _ (by omega) (fun q hq => by simp only [Option.some.injEq] at hq; rw [← hq]; exact ⟨by omega, z_hf_le L h⟩) (fun k j z => (e2 k j (by omega)).trans (e k j z)) (zSG_cg hg (fun k j a b => e2 k j (by omega)) L.hns))
          | (rw [z_inc, z_hl_S, z_hs_s q hv, if_pos (show z_hf gi ns m h < q.2 by omega)]; exact ih k (by omega) (h + 1) (some (h, z_hf gi ns m h)) g2 _ (by omega) (fun q hq => by simp only [Option.some.injEq] at hq; rw [← hq]; exact ⟨by omega, z_hf_le L h⟩) (fun k j z => (e2 k j (by omega)).trans (e k j z)) (zSG_cg hg (fun k j a b => e2 k j (by omega)) L.hns))
          | (rw [z_inc, z_hl_S, z_hs_s q hv, if_neg (show ¬ z_hf gi ns m h < q.2 by omega)]; exact ih k (by omega) (h + 1) (some q) g2 _ (by omega) hob (fun k j z => (e2 k j (by omega)).trans (e k j z)) (zSG_cg hg (fun k j a b => e2 k j (by omega)) L.hns))
      · have hv : z_tw gi h = none := (z_ov_m1 (fun v hv => by have := hwb v hv; omega)).mp c_41
        refine zx_aload_n (q := 45) dX7_hole_44 rfl rfl rfl ?_
        refine zx_iload (q := 47) dX7_hole_45 rfl rfl ?_
        refine zx_callV1i (q := 50) (y' := mX7_foundIfTold) dX7_hole_47 ml_RX7_171 ok_mX7_foundIfTold rfl (by decide) rfl (Nat.le_of_ble_eq_true rfl) (Nat.le_of_ble_eq_true rfl) (Nat.le_refl _) (Nat.le_refl _) rfl (t_X7_fit _ h L e hg (by omega)) ?_
        rintro _ _ ⟨rfl, g2, rfl, e2⟩
        refine zx_istore5 (q := 52) dX7_hole_50 rfl rfl ?_
        refine zx_iload_n (q := 53) dX7_hole_52 rfl rfl rfl ?_
        refine zx_bipush (q := 55) (v := (-5)) dX7_hole_53 (by decide) rfl ?_
        refine zx_icmp_eq (q := 58) (t := 64) dX7_hole_55 (by decide) rfl (fun c_55 => ?_) (fun c_55 => ?_)
        · have ho : o = none := by cases hx : o with | none => rfl | some q => rw [hx] at c_55; exact absurd c_55 (z_n5 (by have := (hob q hx).1; omega))
          subst ho
          refine zx_iload (q := 66) dX7_hole_64 rfl rfl ?_
          refine zx_istore2 (q := 67) dX7_hole_66 rfl rfl ?_
          refine zx_iload (q := 69) dX7_hole_67 rfl rfl ?_
          refine zx_istore3 (q := 70) dX7_hole_69 rfl rfl ?_
          refine zx_iinc4 (q := 73) dX7_hole_70 rfl rfl ?_
          refine zx_goto (t := 24) dX7_hole_73 (by decide) ?_
          first
            | (rw [z_inc, z_hl_S, z_hs_t o hv]; exact ih k (by omega) (h + 1) _ g _ (by omega) hob e hg)
            | (rw [z_inc, z_hl_S, z_hs_n hv]; exact ih k (by omega) (h + 1) (some (h, z_hf gi ns m h)) g2 _ (by omega) (fun q hq => by simp only [Option.some.injEq] at hq; rw [← hq]; exact ⟨by omega, z_hf_le L h⟩) (fun k j z => (e2 k j (by omega)).trans (e k j z)) (zSG_cg hg (fun k j a b => e2 k j (by omega)) L.hns))
            | (rw [z_inc, z_hl_S, z_hs_s q hv, if_pos (show z_hf gi ns m h < q.2 by omega)]; exact ih k (by omega) (h + 1) (some (h, z_hf gi ns m h)) g2 _ (by omega) (fun q hq => by simp only [Option.some.injEq] at hq; rw [← hq]; exact ⟨by omega, z_hf_le L h⟩) (fun k j z => (e2 k j (by omega)).trans (e k j z)) (zSG_cg hg (fun k j a b => e2 k j (by omega)) L.hns))
            | (rw [z_inc, z_hl_S, z_hs_s q hv, if_neg (show ¬ z_hf gi ns m h < q.2 by omega)]; exact ih k (by omega) (h + 1) (some q) g2 _ (by omega) hob (fun k j z => (e2 k j (by omega)).trans (e k j z)) (zSG_cg hg (fun k j a b => e2 k j (by omega)) L.hns))
        · obtain ⟨q, hq⟩ : ∃ q, o = some q := by cases hx : o with | none => exact absurd (by rw [hx]; rfl) c_55 | some q => exact ⟨q, rfl⟩
          subst hq
          have hq2 := (hob q rfl).2
          have hf2 := z_hf_le L h
          refine zx_iload (q := 60) dX7_hole_58 rfl rfl ?_
          refine zx_iload_n (q := 61) dX7_hole_60 rfl rfl rfl ?_
          refine zx_icmp_ge (q := 64) (t := 70) dX7_hole_61 (by decide) rfl (fun c_61 => ?_) (fun c_61 => ?_)
          · rw [show z_h2 (-5) (some q) = nI q.2 from rfl, nI_leI (by omega) (by omega)] at c_61
            refine zx_iinc4 (q := 73) dX7_hole_70 rfl rfl ?_
            refine zx_goto (t := 24) dX7_hole_73 (by decide) ?_
            first
              | (rw [z_inc, z_hl_S, z_hs_t o hv]; exact ih k (by omega) (h + 1) _ g _ (by omega) hob e hg)
              | (rw [z_inc, z_hl_S, z_hs_n hv]; exact ih k (by omega) (h + 1) (some (h, z_hf gi ns m h)) g2 _ (by omega) (fun q hq => by simp only [Option.some.injEq] at hq; rw [← hq]; exact ⟨by omega, z_hf_le L h⟩) (fun k j z => (e2 k j (by omega)).trans (e k j z)) (zSG_cg hg (fun k j a b => e2 k j (by omega)) L.hns))
              | (rw [z_inc, z_hl_S, z_hs_s q hv, if_pos (show z_hf gi ns m h < q.2 by omega)]; exact ih k (by omega) (h + 1) (some (h, z_hf gi ns m h)) g2 _ (by omega) (fun q hq => by simp only [Option.some.injEq] at hq; rw [← hq]; exact ⟨by omega, z_hf_le L h⟩) (fun k j z => (e2 k j (by omega)).trans (e k j z)) (zSG_cg hg (fun k j a b => e2 k j (by omega)) L.hns))
              | (rw [z_inc, z_hl_S, z_hs_s q hv, if_neg (show ¬ z_hf gi ns m h < q.2 by omega)]; exact ih k (by omega) (h + 1) (some q) g2 _ (by omega) hob (fun k j z => (e2 k j (by omega)).trans (e k j z)) (zSG_cg hg (fun k j a b => e2 k j (by omega)) L.hns))
          · rw [show z_h2 (-5) (some q) = nI q.2 from rfl, nI_leI (by omega) (by omega)] at c_61
            refine zx_iload (q := 66) dX7_hole_64 rfl rfl ?_
            refine zx_istore2 (q := 67) dX7_hole_66 rfl rfl ?_
            refine zx_iload (q := 69) dX7_hole_67 rfl rfl ?_
            refine zx_istore3 (q := 70) dX7_hole_69 rfl rfl ?_
            refine zx_iinc4 (q := 73) dX7_hole_70 rfl rfl ?_
            refine zx_goto (t := 24) dX7_hole_73 (by decide) ?_
            first
              | (rw [z_inc, z_hl_S, z_hs_t o hv]; exact ih k (by omega) (h + 1) _ g _ (by omega) hob e hg)
              | (rw [z_inc, z_hl_S, z_hs_n hv]; exact ih k (by omega) (h + 1) (some (h, z_hf gi ns m h)) g2 _ (by omega) (fun q hq => by simp only [Option.some.injEq] at hq; rw [← hq]; exact ⟨by omega, z_hf_le L h⟩) (fun k j z => (e2 k j (by omega)).trans (e k j z)) (zSG_cg hg (fun k j a b => e2 k j (by omega)) L.hns))
              | (rw [z_inc, z_hl_S, z_hs_s q hv, if_pos (show z_hf gi ns m h < q.2 by omega)]; exact ih k (by omega) (h + 1) (some (h, z_hf gi ns m h)) g2 _ (by omega) (fun q hq => by simp only [Option.some.injEq] at hq; rw [← hq]; exact ⟨by omega, z_hf_le L h⟩) (fun k j z => (e2 k j (by omega)).trans (e k j z)) (zSG_cg hg (fun k j a b => e2 k j (by omega)) L.hns))
              | (rw [z_inc, z_hl_S, z_hs_s q hv, if_neg (show ¬ z_hf gi ns m h < q.2 by omega)]; exact ih k (by omega) (h + 1) (some q) g2 _ (by omega) hob (fun k j z => (e2 k j (by omega)).trans (e k j z)) (zSG_cg hg (fun k j a b => e2 k j (by omega)) L.hns))
theorem lp_X8_hole (d : Nat) {ns m : Nat} (L : zLK gi ns m) (a : Int32) : ∀ (k h : Nat) (o : Option (Nat × Nat)) (g : Nat → Nat → Int32), h + k = 3 → z_hb o → (∀ k j, ¬ z_scr k j → g k j = gi k j) → zW l D tc A mX8_hole (d + 6) 0 0 0 0 20 [some (.ref 108), some (.int a), some (.int (z_h1 o)), some (.int (z_h2 0 o)), some (.int (nI h))] [] (zs g gl f) (zQi fun x S' => x = (if a = 0 then z_h1 (z_hl gi ns m o k h) else z_h2 (-5) (z_hl gi ns m o k h)) ∧ ∃ g2, S' = zs g2 gl f ∧ (∀ k j, ¬ z_scr k j → g2 k j = gi k j)) := by
  intro k
  induction k using Nat.strongRecOn with
  | _ k ih =>
    intro h o g hh hob e
    have hns := L.hns
    refine zx_iload (q := 22) dX8_hole_20 rfl rfl ?_
    refine zx_iconst (q := 23) (v := 3) dX8_hole_22 (by decide) rfl ?_
    refine zx_icmp_ge (q := 26) (t := 97) dX8_hole_23 (by decide) rfl (fun c_23 => ?_) (fun c_23 => ?_)
    · have hs2 : h = 3 := by have := z_ge (x := nI (3)) rfl (by omega) c_23; omega
      have hk0 : k = 0 := by omega
      subst hk0
      refine zx_iload_n (q := 98) dX8_hole_97 rfl rfl rfl ?_
      refine zx_if_lt (q := 101) (t := 105) dX8_hole_98 (by decide) rfl (fun c_98 => ?_) (fun c_98 => ?_)
      · have ho : o = none := by cases hx : o with | none => rfl | some q => rw [hx] at c_98; exact absurd c_98 (nI_pos (by have := (hob q hx).1; omega))
        subst ho
        refine zx_iload_n (q := 106) dX8_hole_105 rfl rfl rfl ?_
        refine zx_goto (t := 110) dX8_hole_106 (by decide) ?_
        refine zx_iret dX8_hole_110 rfl (Nat.le_refl _) (Nat.le_refl _) ⟨_, rfl, ?_⟩
        first
          | exact ⟨by rw [if_pos ha0]; rfl, g, rfl, e⟩
          | exact ⟨by rw [if_neg ha0]; rfl, g, rfl, e⟩
          | exact ⟨by split <;> rfl, g, rfl, e⟩
      · obtain ⟨q, hq⟩ : ∃ q, o = some q := by cases hx : o with | none => exact absurd (by rw [hx]; decide) c_98 | some q => exact ⟨q, rfl⟩
        subst hq
        refine zx_iload_n (q := 102) dX8_hole_101 rfl rfl rfl ?_
        refine zx_if_ne (q := 105) (t := 109) dX8_hole_102 (by decide) rfl (fun c_102 => ?_) (fun c_102 => ?_)
        · have ha0 : ¬ a = 0 := c_102
          refine zx_iload_n (q := 110) dX8_hole_109 rfl rfl rfl ?_
          refine zx_iret dX8_hole_110 rfl (Nat.le_refl _) (Nat.le_refl _) ⟨_, rfl, ?_⟩
          first
            | exact ⟨by rw [if_pos ha0]; rfl, g, rfl, e⟩
            | exact ⟨by rw [if_neg ha0]; rfl, g, rfl, e⟩
            | exact ⟨by split <;> rfl, g, rfl, e⟩
        · have ha0 : a = 0 := by simpa using c_102
          refine zx_iload_n (q := 106) dX8_hole_105 rfl rfl rfl ?_
          refine zx_goto (t := 110) dX8_hole_106 (by decide) ?_
          refine zx_iret dX8_hole_110 rfl (Nat.le_refl _) (Nat.le_refl _) ⟨_, rfl, ?_⟩
          first
            | exact ⟨by rw [if_pos ha0]; rfl, g, rfl, e⟩
            | exact ⟨by rw [if_neg ha0]; rfl, g, rfl, e⟩
            | exact ⟨by split <;> rfl, g, rfl, e⟩
    · have hs2 : h < 3 := z_lt (x := nI (3)) rfl (by omega) c_23
      obtain ⟨k, rfl⟩ : ∃ q, k = q + 1 := ⟨k - 1, by omega⟩
      refine zx_aload_n (q := 27) dX8_hole_26 rfl rfl rfl ?_
      refine zy_getR (q := 30) dX8_hole_27 fl_RX8_38 rfl rfl rfl rfl ?_
      refine zx_iload (q := 32) dX8_hole_30 rfl rfl ?_
      refine zy_ialdN (q := 33) dX8_hole_32 rfl (by omega) (by first | decide | omega) rfl ?_
      rw [e _ _ (by unfold z_scr; omega), (z_tw_ok L.hT (h := h) (by omega)).2.1]
      have hwb := (z_tw_ok L.hT (h := h) (by omega)).2.2
      refine zx_if_lt (q := 36) (t := 39) dX8_hole_33 (by decide) rfl (fun c_33 => ?_) (fun c_33 => ?_)
      · have hv : z_tw gi h = none := (z_ov_neg (fun v hv => by have := hwb v hv; omega)).mp c_33
        refine zx_aload_n (q := 40) dX8_hole_39 rfl rfl rfl ?_
        refine zx_callV0v (q := 43) (y' := mX8_layShows) dX8_hole_40 ml_RX8_278 ok_mX8_layShows rfl (by decide) rfl (Nat.le_of_ble_eq_true rfl) (Nat.le_of_ble_eq_true rfl) (Nat.le_refl _) (Nat.le_refl _) rfl (t_X8_layF _ L (fun k j a b => e k j a)) ?_
        rintro _ ⟨g2, rfl, e2, h2⟩
        refine zx_aload_n (q := 44) dX8_hole_43 rfl rfl rfl ?_
        refine zy_getR (q := 47) dX8_hole_44 fl_RX8_38 rfl rfl rfl rfl ?_
        refine zx_iload (q := 49) dX8_hole_47 rfl rfl ?_
        refine zx_aload_n (q := 50) dX8_hole_49 rfl rfl rfl ?_
        refine zx_iload (q := 52) dX8_hole_50 rfl rfl ?_
        refine zx_callV1i (q := 55) (y' := mX8_ownCount) dX8_hole_52 ml_RX8_281 ok_mX8_ownCount rfl (by decide) rfl (Nat.le_of_ble_eq_true rfl) (Nat.le_of_ble_eq_true rfl) (Nat.le_refl _) (Nat.le_refl _) rfl (t_ownL _ h L (by omega) (by rw [e2 _ _ (by omega), e _ _ (by unfold z_scr; omega)]; exact L.hs2) (fun s => by rw [e2 _ _ (by omega), e _ _ (by unfold z_scr; omega)]) h2) ?_
        rintro _ _ ⟨rfl, rfl⟩
        refine zy_iastN (q := 56) dX8_hole_55 rfl (by omega) (by first | decide | omega) rfl ?_
        refine zx_aload_n (q := 57) dX8_hole_56 rfl rfl rfl ?_
        have hwt : z_wt (zw_u g2 116 h (nI (z_ct gi m ns 0 h))) 116 (z_hw gi ns m h) := by
          intro i hi
          unfold z_hw
          by_cases c : i = h
          · subst c
            rw [if_pos rfl, z_u_at]
            refine ⟨rfl, fun v hv => ?_⟩
            have h9 := z_ct_le (w := 0) (h := i) L (by omega) hi
            simp only [Option.some.injEq] at hv
            omega
          · rw [if_neg c, z_u_ne _ _ (by omega), e2 _ _ (by omega), e _ _ (by unfold z_scr; omega)]
            exact ⟨(z_tw_ok L.hT hi).2.1, fun v hv => by have := (z_tw_ok L.hT hi).2.2 v hv; omega⟩
        refine zx_callV0v (q := 60) (y' := mX8_layFits) dX8_hole_57 ml_RX8_314 ok_mX8_layFits rfl (by decide) rfl (Nat.le_of_ble_eq_true rfl) (Nat.le_of_ble_eq_true rfl) (Nat.le_refl _) (Nat.le_refl _) rfl (t_X8_layFits _ L (fun k j a b => by rw [z_u_ne _ _ (by omega), e2 _ _ (by unfold z_scr at a; omega), e _ _ a]) hwt) ?_
        rintro _ ⟨g3, rfl, hB, h3, e3⟩
        have hB1 : g3 108 34 = nI (z_hf gi ns m h) := hB.1
        refine zx_aload_n (q := 61) dX8_hole_60 rfl rfl rfl ?_
        refine zy_getR (q := 64) dX8_hole_61 fl_RX8_38 rfl rfl rfl rfl ?_
        refine zx_iload (q := 66) dX8_hole_64 rfl rfl ?_
        refine zx_iconst (q := 67) (v := (-1)) dX8_hole_66 (by decide) rfl ?_
        refine zy_iastN (q := 68) dX8_hole_67 rfl (by omega) (by first | decide | omega) rfl ?_
        refine zx_iload_n (q := 69) dX8_hole_68 rfl rfl rfl ?_
        refine zx_if_lt (q := 72) (t := 83) dX8_hole_69 (by decide) rfl (fun c_69 => ?_) (fun c_69 => ?_)
        · have ho : o = none := by cases hx : o with | none => rfl | some q => rw [hx] at c_69; exact absurd c_69 (nI_pos (by have := (hob q hx).1; omega))
          subst ho
          refine zx_iload (q := 85) dX8_hole_83 rfl rfl ?_
          refine zx_istore2 (q := 86) dX8_hole_85 rfl rfl ?_
          refine zx_aload_n (q := 87) dX8_hole_86 rfl rfl rfl ?_
          refine zy_getIe (q := 90) (v := nI (z_hf gi ns m h)) dX8_hole_87 fl_RX8_114 rfl rfl (by rw [z_u_ne _ _ (by omega)]; exact hB1) rfl ?_
          refine zx_istore3 (q := 91) dX8_hole_90 rfl rfl ?_
          refine zx_iinc4 (q := 94) dX8_hole_91 rfl rfl ?_
          refine zx_goto (t := 20) dX8_hole_94 (by decide) ?_
          first
            | (rw [z_inc, z_hl_S, z_hs_t o hv]; exact ih k (by omega) (h + 1) _ g (by omega) hob e)
            | (rw [z_inc, z_hl_S, z_hs_n hv]; exact ih k (by omega) (h + 1) (some (h, z_hf gi ns m h)) _ (by omega) (fun q hq => by simp only [Option.some.injEq] at hq; rw [← hq]; exact ⟨by omega, z_hf_le L h⟩) (z_back L (by omega) hv e3 e2 e))
            | (rw [z_inc, z_hl_S, z_hs_s q hv, if_pos (show z_hf gi ns m h < q.2 by omega)]; exact ih k (by omega) (h + 1) (some (h, z_hf gi ns m h)) _ (by omega) (fun q hq => by simp only [Option.some.injEq] at hq; rw [← hq]; exact ⟨by omega, z_hf_le L h⟩) (z_back L (by omega) hv e3 e2 e))
            | (rw [z_inc, z_hl_S, z_hs_s q hv, if_neg (show ¬ z_hf gi ns m h < q.2 by omega)]; exact ih k (by omega) (h + 1) (some q) _ (by omega) hob (z_back L (by omega) hv e3 e2 e))
        · obtain ⟨q, hq⟩ : ∃ q, o = some q := by cases hx : o with | none => exact absurd (by rw [hx]; decide) c_69 | some q => exact ⟨q, rfl⟩
          subst hq
          have hq2 := (hob q rfl).2
          have hf2 := z_hf_le L h
          refine zx_aload_n (q := 73) dX8_hole_72 rfl rfl rfl ?_
          refine zy_getIe (q := 76) (v := nI (z_hf gi ns m h)) dX8_hole_73 fl_RX8_114 rfl rfl (by rw [z_u_ne _ _ (by omega)]; exact hB1) rfl ?_
          refine zx_iload_n (q := 77) dX8_hole_76 rfl rfl rfl ?_
          refine zx_icmp_lt (q := 80) (t := 83) dX8_hole_77 (by decide) rfl (fun c_77 => ?_) (fun c_77 => ?_)
          · rw [show z_h2 0 (some q) = nI q.2 from rfl, nI_ltI (by omega) (by omega)] at c_77
            refine zx_iload (q := 85) dX8_hole_83 rfl rfl ?_
            refine zx_istore2 (q := 86) dX8_hole_85 rfl rfl ?_
            refine zx_aload_n (q := 87) dX8_hole_86 rfl rfl rfl ?_
            refine zy_getIe (q := 90) (v := nI (z_hf gi ns m h)) dX8_hole_87 fl_RX8_114 rfl rfl (by rw [z_u_ne _ _ (by omega)]; exact hB1) rfl ?_
            refine zx_istore3 (q := 91) dX8_hole_90 rfl rfl ?_
            refine zx_iinc4 (q := 94) dX8_hole_91 rfl rfl ?_
            refine zx_goto (t := 20) dX8_hole_94 (by decide) ?_
            first
              | (rw [z_inc, z_hl_S, z_hs_t o hv]; exact ih k (by omega) (h + 1) _ g (by omega) hob e)
              | (rw [z_inc, z_hl_S, z_hs_n hv]; exact ih k (by omega) (h + 1) (some (h, z_hf gi ns m h)) _ (by omega) (fun q hq => by simp only [Option.some.injEq] at hq; rw [← hq]; exact ⟨by omega, z_hf_le L h⟩) (z_back L (by omega) hv e3 e2 e))
              | (rw [z_inc, z_hl_S, z_hs_s q hv, if_pos (show z_hf gi ns m h < q.2 by omega)]; exact ih k (by omega) (h + 1) (some (h, z_hf gi ns m h)) _ (by omega) (fun q hq => by simp only [Option.some.injEq] at hq; rw [← hq]; exact ⟨by omega, z_hf_le L h⟩) (z_back L (by omega) hv e3 e2 e))
              | (rw [z_inc, z_hl_S, z_hs_s q hv, if_neg (show ¬ z_hf gi ns m h < q.2 by omega)]; exact ih k (by omega) (h + 1) (some q) _ (by omega) hob (z_back L (by omega) hv e3 e2 e))
          · rw [show z_h2 0 (some q) = nI q.2 from rfl, nI_ltI (by omega) (by omega)] at c_77
            refine zx_goto (t := 91) dX8_hole_80 (by decide) ?_
            refine zx_iinc4 (q := 94) dX8_hole_91 rfl rfl ?_
            refine zx_goto (t := 20) dX8_hole_94 (by decide) ?_
            first
              | (rw [z_inc, z_hl_S, z_hs_t o hv]; exact ih k (by omega) (h + 1) _ g (by omega) hob e)
              | (rw [z_inc, z_hl_S, z_hs_n hv]; exact ih k (by omega) (h + 1) (some (h, z_hf gi ns m h)) _ (by omega) (fun q hq => by simp only [Option.some.injEq] at hq; rw [← hq]; exact ⟨by omega, z_hf_le L h⟩) (z_back L (by omega) hv e3 e2 e))
              | (rw [z_inc, z_hl_S, z_hs_s q hv, if_pos (show z_hf gi ns m h < q.2 by omega)]; exact ih k (by omega) (h + 1) (some (h, z_hf gi ns m h)) _ (by omega) (fun q hq => by simp only [Option.some.injEq] at hq; rw [← hq]; exact ⟨by omega, z_hf_le L h⟩) (z_back L (by omega) hv e3 e2 e))
              | (rw [z_inc, z_hl_S, z_hs_s q hv, if_neg (show ¬ z_hf gi ns m h < q.2 by omega)]; exact ih k (by omega) (h + 1) (some q) _ (by omega) hob (z_back L (by omega) hv e3 e2 e))
      · obtain ⟨v, hv⟩ : ∃ v, z_tw gi h = some v := by cases hx : z_tw gi h with | none => exact absurd (by rw [hx]; decide) c_33 | some v => exact ⟨v, rfl⟩
        refine zx_goto (t := 91) dX8_hole_36 (by decide) ?_
        refine zx_iinc4 (q := 94) dX8_hole_91 rfl rfl ?_
        refine zx_goto (t := 20) dX8_hole_94 (by decide) ?_
        first
          | (rw [z_inc, z_hl_S, z_hs_t o hv]; exact ih k (by omega) (h + 1) _ g (by omega) hob e)
          | (rw [z_inc, z_hl_S, z_hs_n hv]; exact ih k (by omega) (h + 1) (some (h, z_hf gi ns m h)) _ (by omega) (fun q hq => by simp only [Option.some.injEq] at hq; rw [← hq]; exact ⟨by omega, z_hf_le L h⟩) (z_back L (by omega) hv e3 e2 e))
          | (rw [z_inc, z_hl_S, z_hs_s q hv, if_pos (show z_hf gi ns m h < q.2 by omega)]; exact ih k (by omega) (h + 1) (some (h, z_hf gi ns m h)) _ (by omega) (fun q hq => by simp only [Option.some.injEq] at hq; rw [← hq]; exact ⟨by omega, z_hf_le L h⟩) (z_back L (by omega) hv e3 e2 e))
          | (rw [z_inc, z_hl_S, z_hs_s q hv, if_neg (show ¬ z_hf gi ns m h < q.2 by omega)]; exact ih k (by omega) (h + 1) (some q) _ (by omega) hob (z_back L (by omega) hv e3 e2 e))
set_option maxHeartbeats 4000000 in
theorem op_hole (d : Nat) (a : Int32) (hR : zRel gi gl) : zOpI l D tc A mX7_hole mX8_hole (d + 6) [.int a] gi gl f := by
  obtain ⟨ns, m, L⟩ := zLK_of hR
  have hns := L.hns
  by_cases h1 : z_in a 0 1 = true
  · show zW l D tc A mX7_hole (d + 6) 0 0 0 0 0 [some (.ref 0), some (.int a), none, none, none, none] [] (zs gi gl f) _
    refine zx_iload_n (q := 1) dX7_hole_0 rfl rfl rfl ?_
    refine zx_iconst (q := 2) (v := 0) dX7_hole_1 (by decide) rfl ?_
    refine zx_iconst (q := 3) (v := 1) dX7_hole_2 (by decide) rfl ?_
    refine zx_callS3i (q := 6) (y' := mX7_within) dX7_hole_3 ml_RX7_73 ok_mX7_within (Nat.le_of_ble_eq_true rfl) (Nat.le_of_ble_eq_true rfl) (Nat.le_refl _) (Nat.le_refl _) rfl (t_X7_within _ _ _ _) ?_
    rintro _ _ ⟨rfl, rfl⟩
    refine zx_if_ne_t (t := 11) (q := 9) dX7_hole_6 (by decide) rfl (zk_t h1) ?_
    refine zx_aload_n (q := 12) dX7_hole_11 rfl rfl rfl ?_
    refine zx_callV0v (q := 15) (y' := mX7_look) dX7_hole_12 ml_RX7_95 ok_mX7_look rfl (by decide) rfl (Nat.le_of_ble_eq_true rfl) (Nat.le_of_ble_eq_true rfl) (Nat.le_refl _) (Nat.le_refl _) rfl (t_X7_look _ L) ?_
    rintro _ ⟨g1, rfl, k1, s1⟩
    refine zx_bipush (q := 17) (v := (-5)) dX7_hole_15 (by decide) rfl ?_
    refine zx_istore2 (q := 18) dX7_hole_17 rfl rfl ?_
    refine zx_bipush (q := 20) (v := (-5)) dX7_hole_18 (by decide) rfl ?_
    refine zx_istore3 (q := 21) dX7_hole_20 rfl rfl ?_
    refine zx_iconst (q := 22) (v := 0) dX7_hole_21 (by decide) rfl ?_
    refine zx_istore4 (q := 24) dX7_hole_22 rfl rfl ?_
    refine zW.mono (lp_X7_hole (d + 2) L a 3 0 none g1 none (by omega) (fun q hq => by cases hq) (fun k j z => k1 k j (by omega)) s1) ?_
    rintro _ _ ⟨x, rfl, rfl, g2, rfl, e2⟩
    refine ⟨_, rfl, _, _, _, rfl, ?_⟩
    show zW l D tc A mX8_hole (d + 6) 0 0 0 0 0 [some (.ref 108), some (.int a), none, none, none] [] (zs _ _ _) _
    refine zx_aload_n (q := 1) dX8_hole_0 rfl rfl rfl ?_
    refine zx_iload_n (q := 2) dX8_hole_1 rfl rfl rfl ?_
    refine zx_iconst (q := 3) (v := 0) dX8_hole_2 (by decide) rfl ?_
    refine zx_iconst (q := 4) (v := 1) dX8_hole_3 (by decide) rfl ?_
    refine zx_callV3i (q := 7) (y' := mX8_in) dX8_hole_4 ml_RX8_200 ok_mX8_in rfl (by decide) rfl (Nat.le_of_ble_eq_true rfl) (Nat.le_of_ble_eq_true rfl) (Nat.le_refl _) (Nat.le_refl _) rfl (t_X8_in _ _ _ _ _) ?_
    rintro _ _ ⟨rfl, rfl⟩
    refine zx_if_ne_t (t := 12) (q := 10) dX8_hole_7 (by decide) rfl (zk_t h1) ?_
    refine zx_bipush (q := 14) (v := (-5)) dX8_hole_12 (by decide) rfl ?_
    refine zx_istore2 (q := 15) dX8_hole_14 rfl rfl ?_
    refine zx_iconst (q := 16) (v := 0) dX8_hole_15 (by decide) rfl ?_
    refine zx_istore3 (q := 17) dX8_hole_16 rfl rfl ?_
    refine zx_iconst (q := 18) (v := 0) dX8_hole_17 (by decide) rfl ?_
    refine zx_istore4 (q := 20) dX8_hole_18 rfl rfl ?_
    refine zW.mono (lp_X8_hole d L a 3 0 none g2 (by omega) (fun q hq => by cases hq) (fun k j z => e2 k j (by unfold z_scr at z; omega))) ?_
    rintro _ _ ⟨x, rfl, rfl, g3, rfl, e3⟩
    exact ⟨_, rfl, rfl, _, _, _, rfl, zRel_scr hR e3⟩
  · show zW l D tc A mX7_hole (d + 6) 0 0 0 0 0 [some (.ref 0), some (.int a), none, none, none, none] [] (zs gi gl f) _
    refine zx_iload_n (q := 1) dX7_hole_0 rfl rfl rfl ?_
    refine zx_iconst (q := 2) (v := 0) dX7_hole_1 (by decide) rfl ?_
    refine zx_iconst (q := 3) (v := 1) dX7_hole_2 (by decide) rfl ?_
    refine zx_callS3i (q := 6) (y' := mX7_within) dX7_hole_3 ml_RX7_73 ok_mX7_within (Nat.le_of_ble_eq_true rfl) (Nat.le_of_ble_eq_true rfl) (Nat.le_refl _) (Nat.le_refl _) rfl (t_X7_within _ _ _ _) ?_
    rintro _ _ ⟨rfl, rfl⟩
    refine zx_if_ne_f (t := 11) (q := 9) dX7_hole_6 (by decide) rfl (zk_f h1) ?_
    refine zx_iconst (q := 10) (v := (-1)) dX7_hole_9 (by decide) rfl ?_
    refine zx_iret dX7_hole_10 rfl (Nat.le_refl _) (Nat.le_refl _) ⟨_, rfl, ?_⟩
    refine ⟨_, _, _, rfl, ?_⟩
    show zW l D tc A mX8_hole (d + 6) 0 0 0 0 0 [some (.ref 108), some (.int a), none, none, none] [] (zs _ _ _) _
    refine zx_aload_n (q := 1) dX8_hole_0 rfl rfl rfl ?_
    refine zx_iload_n (q := 2) dX8_hole_1 rfl rfl rfl ?_
    refine zx_iconst (q := 3) (v := 0) dX8_hole_2 (by decide) rfl ?_
    refine zx_iconst (q := 4) (v := 1) dX8_hole_3 (by decide) rfl ?_
    refine zx_callV3i (q := 7) (y' := mX8_in) dX8_hole_4 ml_RX8_200 ok_mX8_in rfl (by decide) rfl (Nat.le_of_ble_eq_true rfl) (Nat.le_of_ble_eq_true rfl) (Nat.le_refl _) (Nat.le_refl _) rfl (t_X8_in _ _ _ _ _) ?_
    rintro _ _ ⟨rfl, rfl⟩
    refine zx_if_ne_f (t := 12) (q := 10) dX8_hole_7 (by decide) rfl (zk_f h1) ?_
    refine zx_iconst (q := 11) (v := (-1)) dX8_hole_10 (by decide) rfl ?_
    refine zx_iret dX8_hole_11 rfl (Nat.le_refl _) (Nat.le_refl _) ⟨_, rfl, ?_⟩
    exact ⟨rfl, _, _, _, rfl, hR⟩
end P46
