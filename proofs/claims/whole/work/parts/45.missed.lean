/-! ops missed, mix -/
theorem z_o5_ov {o : Option Nat} (h : ∀ v, o = some v → v < 2 ^ 31) : (if 0 ≤ z_ov o then z_ov o else -5) = z_o5 o := by
  cases o with
  | none => rw [if_neg (by decide)]; rfl
  | some v => rw [z_ov_some, if_pos (nI_pos' (h v rfl))]; rfl
theorem z_go_ind {α : Type} {M ns : Nat} {F : (Nat → Nat) → Bool} {st : (Nat → Nat) → α → α} (P : α → Prop) (hst : ∀ r a, z_sN ns r ≤ M → P a → P (st r a)) : ∀ (n : Nat) (r : Nat → Nat) (b : Nat) (a : α), z_rk ns M r ns = n → b = z_sN ns r → b ≤ M → P a → P (z_go M ns F st r b a) := by
  intro n
  induction n using Nat.strongRecOn with
  | _ n ih =>
    intro r b a hn hb hM ha
    have h2 : P (if F r = true then st r a else a) := by
      split
      · exact hst r a (by omega) ha
      · exact ha
    cases hx : z_nx M ns r b with
    | none => rw [z_go_none hx]; exact h2
    | some q =>
      obtain ⟨j1, j2, j3⟩ := z_nx_dn (r' := q.1) (b' := q.2) hx hb hM
      rw [z_go_some (r' := q.1) (b' := q.2) hx hb hM]
      exact ih (z_rk ns M q.1 ns) (by omega) q.1 q.2 _ rfl j1 j2 h2
section P45
variable {l : Launch} {D : va_G} {tc : Nat → ClassId} {A : Nat → Prop} {S : zw_S} {gi : Nat → Nat → Int32} {gl : Nat → Nat → Int64} {f : Option Nat}
def z_LT (gi : Nat → Nat → Int32) (ns m : Nat) : Option Nat := z_le (z_most gi) ns (z_tw gi) (z_sh gi m) (fun _ => 0) 0 none
theorem z_LT_le {ns m : Nat} (L : zLK gi ns m) : ∀ v, z_LT gi ns m = some v → v ≤ 120000 := by
  have hM9 := z_most_le gi
  exact z_go_ind (M := z_most gi) (ns := ns) (F := fun _ => true) (st := fun r a => z_mi a (z_exn (z_tw gi) (z_cn ns (z_sh gi m) r) 3 0 0)) (fun a : Option Nat => ∀ v, a = some v → v ≤ 120000) (fun r a hr ha => z_mi_le ha (fun v hv => by
    have h7 := z_exn_le (b := 40000) (fun h hh => Nat.le_trans (z_cn_le (M := 18) (B := 1998) (by omega) (fun s hs => z_sh_le L hs hh)) (by decide)) 3 0 0 v (by omega) hv
    omega)) _ _ _ _ rfl (z_sN_0 ns).symm (Nat.zero_le _) (fun v hv => by cases hv)
theorem lp_X8_missed (d : Nat) {ns m : Nat} {g0 : Nat → Nat → Int32} (L : zLK gi ns m) (e0 : zFq gi g0) (hg : zSM g0 (z_sh gi m) (z_ow gi m) ns) {w : Nat → Option Nat} (hw : z_wt g0 116 w) : ∀ (n : Nat) (r : Nat → Nat) (b : Nat) (a : Option Nat) (g1 : Nat → Nat → Int32) (w3 : Option Value), z_rk ns (z_most gi) r ns = n → b = z_sN ns r → b ≤ (z_most gi) → zMS g1 r b → (∀ v, a = some v → v ≤ 120000) → zLF g0 g1 → zW l D tc A mX8_missed (d + 5) 0 0 0 0 13 [some (.ref 108), some (.int (z_o5 a)), some (.int 1), w3] [] (zs g1 gl f) (zQi fun x S' => x = z_o5 (z_le (z_most gi) ns w (z_sh gi m) r b a) ∧ ∃ g2, S' = zs g2 gl f ∧ zLF g0 g2) := by
  intro n
  induction n using Nat.strongRecOn with
  | _ n ih =>
    intro r b a g1 w3 hn hb hbM hC hab e3
    have hns := L.hns
    have hn8 : g1 108 0 = nI ns := (zFq_M L (zLF_q e0 e3)).2.2.2.1
    have hM9 := z_most_le gi
    have hexb : ∀ v, (z_exn w (z_cn ns (z_sh gi m) r) 3 0 0) = some v → v ≤ 120000 := fun v hv => by
      have h7 := z_exn_le (b := 40000) (fun h hh => Nat.le_trans (z_cn_le (M := 18) (B := 1998) (by omega) (fun s hs => z_sh_le L hs hh)) (by decide)) 3 0 0 v (by omega) hv
      omega
    have h40 : ∀ (a3 : Option Nat) (w3 : Option Value), a3 = z_mi a (z_exn w (z_cn ns (z_sh gi m) r) 3 0 0) → zW l D tc A mX8_missed (d + 5) 0 0 0 0 41 [some (.ref 108), some (.int (z_o5 a3)), some (.int 1), w3] [] (zs g1 gl f) (zQi fun x S' => x = z_o5 (z_le (z_most gi) ns w (z_sh gi m) r b a) ∧ ∃ g2, S' = zs g2 gl f ∧ zLF g0 g2) := by
      intro a3 w3 ha3
      refine zx_aload_n (q := 42) dX8_missed_41 rfl rfl rfl ?_
      refine zx_aload_n (q := 43) dX8_missed_42 rfl rfl rfl ?_
      refine zx_callV0i (q := 46) (y' := mX8_mostNow) dX8_missed_43 ml_RX8_287 ok_mX8_mostNow rfl (by decide) rfl (Nat.le_of_ble_eq_true rfl) (Nat.le_of_ble_eq_true rfl) (Nat.le_refl _) (Nat.le_refl _) rfl (t_X8_mostF _ L (zLF_q e0 e3)) ?_
      rintro _ _ ⟨rfl, rfl⟩
      refine zx_callV1i (q := 49) (y' := mX8_nextHerd) dX8_missed_46 ml_RX8_311 ok_mX8_nextHerd rfl (by decide) rfl (Nat.le_of_ble_eq_true rfl) (Nat.le_of_ble_eq_true rfl) (Nat.le_refl _) (Nat.le_refl _) rfl (t_X8_next _ (z_most gi) hns hn8 (by omega) hC hb (by omega)) ?_
      rintro _ _ ⟨rfl, g4, rfl, hv, e4⟩
      refine zx_istore2 (q := 50) dX8_missed_49 rfl rfl ?_
      refine zx_goto (t := 13) dX8_missed_50 (by decide) ?_
      have e5 : zLF g0 g4 := fun k j z => (e4 k j (by omega)).trans (e3 k j z)
      cases hx : z_nx (z_most gi) ns r b with
      | none =>
        rw [show z_le (z_most gi) ns w (z_sh gi m) r b a = _ from z_go_none hx, if_pos rfl, ← ha3]
        refine zx_iload_n (q := 14) dX8_missed_13 rfl rfl rfl ?_
        refine zx_if_eq_t (t := 53) (q := 17) dX8_missed_14 (by decide) rfl (rfl) ?_
        refine zx_iload_n (q := 54) dX8_missed_53 rfl rfl rfl ?_
        refine zx_iret dX8_missed_54 rfl (Nat.le_refl _) (Nat.le_refl _) ⟨_, rfl, ?_⟩
        exact ⟨rfl, g4, rfl, e5⟩
      | some q =>
        obtain ⟨j1, j2, j3⟩ := z_nx_dn (r' := q.1) (b' := q.2) hx hb hbM
        rw [show zb (Option.isSome (some q)) = 1 from rfl]
        rw [show z_le (z_most gi) ns w (z_sh gi m) r b a = _ from z_go_some (r' := q.1) (b' := q.2) hx hb hbM, if_pos rfl]
        rw [ha3]
        exact ih (z_rk ns (z_most gi) q.1 ns) (by omega) q.1 q.2 _ g4 _ rfl j1 j2 (hv q.1 q.2 hx) (z_mi_le hab hexb) e5
    refine zx_iload_n (q := 14) dX8_missed_13 rfl rfl rfl ?_
    refine zx_if_eq_f (t := 53) (q := 17) dX8_missed_14 (by decide) rfl (by decide) ?_
    refine zx_aload_n (q := 18) dX8_missed_17 rfl rfl rfl ?_
    refine zx_callV0i (q := 21) (y' := mX8_moreNow) dX8_missed_18 ml_RX8_326 ok_mX8_moreNow rfl (by decide) rfl (Nat.le_of_ble_eq_true rfl) (Nat.le_of_ble_eq_true rfl) (Nat.le_refl _) (Nat.le_refl _) rfl (t_X8_more _ hns (zLF_s hg e3) hn8 hC (zLF_w (Or.inl rfl) hw e3) (fun h hh => Nat.le_trans (z_cn_le (M := 18) (B := 1998) (by omega) (fun s hs => z_sh_le L hs hh)) (by decide))) ?_
    rintro _ _ ⟨rfl, rfl⟩
    refine zx_istore3 (q := 22) dX8_missed_21 rfl rfl ?_
    refine zx_iload_n (q := 23) dX8_missed_22 rfl rfl rfl ?_
    refine zx_if_lt (q := 26) (t := 39) dX8_missed_23 (by decide) rfl (fun c_23 => ?_) (fun c_23 => ?_)
    · have hx0 : (z_exn w (z_cn ns (z_sh gi m) r) 3 0 0) = none := (z_ov_neg (fun v hv => by have := hexb v hv; omega)).mp c_23
      refine zx_iload_n (q := 40) dX8_missed_39 rfl rfl rfl ?_
      refine zx_istore1 (q := 41) dX8_missed_40 rfl rfl ?_
      first
        | (have q1 := hx0; exact h40 _ _ (by rw [hx0]; cases a <;> rfl))
        | (have q1 := ha0; rw [hev]; exact h40 (some ev) _ (by rw [hev, ha0]; rfl))
        | exact h40 (some av) _ (by rw [hev]; simp only [z_mi]; rw [if_neg (by omega)])
        | exact h40 (some ev) _ (by rw [hev]; simp only [z_mi]; rw [if_pos (by omega)])
    · obtain ⟨ev, hev⟩ : ∃ ev, (z_exn w (z_cn ns (z_sh gi m) r) 3 0 0) = some ev := by cases hx : (z_exn w (z_cn ns (z_sh gi m) r) 3 0 0) with | none => exact absurd ((z_ov_neg (fun v hv => by have := hexb v hv; omega)).mpr hx) c_23 | some v => exact ⟨v, rfl⟩
      have hev2 := hexb ev hev
      refine zx_iload_n (q := 27) dX8_missed_26 rfl rfl rfl ?_
      refine zx_if_lt (q := 30) (t := 35) dX8_missed_27 (by decide) rfl (fun c_27 => ?_) (fun c_27 => ?_)
      · have ha0 : a = none := (z_o5_neg (fun v hv => by have := hab v hv; omega)).mp c_27
        refine zx_iload_n (q := 36) dX8_missed_35 rfl rfl rfl ?_
        refine zx_goto (t := 40) dX8_missed_36 (by decide) ?_
        refine zx_istore1 (q := 41) dX8_missed_40 rfl rfl ?_
        first
          | (have q1 := hx0; exact h40 _ _ (by rw [hx0]; cases a <;> rfl))
          | (have q1 := ha0; rw [hev]; exact h40 (some ev) _ (by rw [hev, ha0]; rfl))
          | exact h40 (some av) _ (by rw [hev]; simp only [z_mi]; rw [if_neg (by omega)])
          | exact h40 (some ev) _ (by rw [hev]; simp only [z_mi]; rw [if_pos (by omega)])
      · obtain ⟨av, hav⟩ : ∃ av, a = some av := by cases hx : a with | none => exact absurd ((z_o5_neg (fun v hv => by have := hab v hv; omega)).mpr hx) c_27 | some v => exact ⟨v, rfl⟩
        subst hav
        have hav2 := hab av rfl
        refine zx_iload_n (q := 31) dX8_missed_30 rfl rfl rfl ?_
        refine zx_iload_n (q := 32) dX8_missed_31 rfl rfl rfl ?_
        rw [hev, z_ov_some, show z_o5 (some av) = nI av from rfl]
        refine zx_icmp_ge (q := 35) (t := 39) dX8_missed_32 (by decide) rfl (fun c_32 => ?_) (fun c_32 => ?_)
        · rw [nI_leI (by omega) (by omega)] at c_32
          refine zx_iload_n (q := 40) dX8_missed_39 rfl rfl rfl ?_
          refine zx_istore1 (q := 41) dX8_missed_40 rfl rfl ?_
          first
            | (have q1 := hx0; exact h40 _ _ (by rw [hx0]; cases a <;> rfl))
            | (have q1 := ha0; rw [hev]; exact h40 (some ev) _ (by rw [hev, ha0]; rfl))
            | exact h40 (some av) _ (by rw [hev]; simp only [z_mi]; rw [if_neg (by omega)])
            | exact h40 (some ev) _ (by rw [hev]; simp only [z_mi]; rw [if_pos (by omega)])
        · rw [nI_leI (by omega) (by omega)] at c_32
          refine zx_iload_n (q := 36) dX8_missed_35 rfl rfl rfl ?_
          refine zx_goto (t := 40) dX8_missed_36 (by decide) ?_
          refine zx_istore1 (q := 41) dX8_missed_40 rfl rfl ?_
          first
            | (have q1 := hx0; exact h40 _ _ (by rw [hx0]; cases a <;> rfl))
            | (have q1 := ha0; rw [hev]; exact h40 (some ev) _ (by rw [hev, ha0]; rfl))
            | exact h40 (some av) _ (by rw [hev]; simp only [z_mi]; rw [if_neg (by omega)])
            | exact h40 (some ev) _ (by rw [hev]; simp only [z_mi]; rw [if_pos (by omega)])
set_option maxHeartbeats 4000000 in
theorem op_missed (d : Nat)  (hR : zRel gi gl) : zOpI l D tc A mX7_missed mX8_missed (d + 5) [] gi gl f := by
  obtain ⟨ns, m, L⟩ := zLK_of hR
  have hns := L.hns
  show zW l D tc A mX7_missed (d + 5) 0 0 0 0 0 [some (.ref 0), none] [] (zs gi gl f) _
  refine zx_aload_n (q := 1) dX7_missed_0 rfl rfl rfl ?_
  refine zx_callV0v (q := 4) (y' := mX7_look) dX7_missed_1 ml_RX7_95 ok_mX7_look rfl (by decide) rfl (Nat.le_of_ble_eq_true rfl) (Nat.le_of_ble_eq_true rfl) (Nat.le_refl _) (Nat.le_refl _) rfl (t_X7_look _ L) ?_
  rintro _ ⟨g1, rfl, k1, s1⟩
  refine zx_aload_n (q := 5) dX7_missed_4 rfl rfl rfl ?_
  refine zy_getR (q := 8) dX7_missed_5 fl_RX7_51 rfl rfl rfl rfl ?_
  refine zx_aload_n (q := 9) dX7_missed_8 rfl rfl rfl ?_
  refine zy_getR (q := 12) dX7_missed_9 fl_RX7_42 rfl rfl rfl rfl ?_
  refine zy_getIe (q := 15) (v := nI (z_most gi)) dX7_missed_12 fl_RX7_133 rfl rfl (s1.2.1) rfl ?_
  refine zx_aload_n (q := 16) dX7_missed_15 rfl rfl rfl ?_
  refine zy_getR (q := 19) dX7_missed_16 fl_RX7_12 rfl rfl rfl rfl ?_
  refine zy_getR (q := 22) dX7_missed_19 fl_RX7_113 rfl rfl rfl rfl ?_
  refine zx_callV2i (q := 25) (y' := mX3_leastExcess) dX7_missed_22 ml_RX7_187 ok_mX3_leastExcess rfl (by decide) rfl (Nat.le_of_ble_eq_true rfl) (Nat.le_of_ble_eq_true rfl) (Nat.le_refl _) (Nat.le_refl _) rfl (t_X3_least _ hns s1 (fun s hs h hh => z_sh_le L hs hh) (M := z_most gi) (by have := z_most_le gi; omega) (wc := 17) (w := z_tw gi) rfl (by omega) (fun h hh => ⟨by rw [k1 _ _ (by omega)]; exact (z_tw_ok L.hT hh).1, fun v hv => by have := (z_tw_ok L.hT hh).2.2 v hv; omega⟩)) ?_
  rintro _ _ ⟨rfl, g2, rfl, e2⟩
  rw [show z_le (z_most gi) ns (z_tw gi) (z_sh gi m) (fun _ => 0) 0 none = z_LT gi ns m from rfl]
  have e2 : ∀ k j, ¬ (47 ≤ k ∧ k ≤ 62) → g2 k j = gi k j := fun k j z => by rw [e2 _ _ (by omega), k1 _ _ (by omega)]
  refine zx_istore1 (q := 26) dX7_missed_25 rfl rfl ?_
  refine zx_iload_n (q := 27) dX7_missed_26 rfl rfl rfl ?_
  refine zx_if_ge (q := 30) (t := 35) dX7_missed_27 (by decide) rfl (fun c_27 => ?_) (fun c_27 => ?_)
  · have ho5 : z_ov (z_LT gi ns m) = z_o5 (z_LT gi ns m) := by rw [← z_o5_ov (fun v hv => by have := z_LT_le L v hv; omega), if_pos c_27]
    refine zx_iload_n (q := 36) dX7_missed_35 rfl rfl rfl ?_
    refine zx_iret dX7_missed_36 rfl (Nat.le_refl _) (Nat.le_refl _) ⟨_, rfl, ?_⟩
    refine ⟨_, _, _, rfl, ?_⟩
    show zW l D tc A mX8_missed (d + 5) 0 0 0 0 0 [some (.ref 108), none, none, none] [] (zs _ _ _) _
    refine zx_aload_n (q := 1) dX8_missed_0 rfl rfl rfl ?_
    refine zx_callV0v (q := 4) (y' := mX8_layShows) dX8_missed_1 ml_RX8_278 ok_mX8_layShows rfl (by decide) rfl (Nat.le_of_ble_eq_true rfl) (Nat.le_of_ble_eq_true rfl) (Nat.le_refl _) (Nat.le_refl _) rfl (t_X8_layF _ L (fun k j a b => e2 k j (by unfold z_scr at a; omega))) ?_
    rintro _ ⟨g4, rfl, e4, h4⟩
    have e4 : ∀ k j, ¬ (47 ≤ k ∧ k ≤ 62) → ¬ (126 ≤ k ∧ k ≤ 128) → g4 k j = gi k j := fun k j a b => (e4 k j b).trans (e2 k j a)
    refine zx_bipush (q := 6) (v := (-5)) dX8_missed_4 (by decide) rfl ?_
    refine zx_istore1 (q := 7) dX8_missed_6 rfl rfl ?_
    refine zx_aload_n (q := 8) dX8_missed_7 rfl rfl rfl ?_
    refine zx_callV0v (q := 11) (y' := mX8_firstHerd) dX8_missed_8 ml_RX8_302 ok_mX8_firstHerd rfl (by decide) rfl (Nat.le_of_ble_eq_true rfl) (Nat.le_of_ble_eq_true rfl) (Nat.le_refl _) (Nat.le_refl _) rfl (t_X8_first _) ?_
    rintro _ ⟨g5, rfl, hC5, e5⟩
    refine zx_iconst (q := 12) (v := 1) dX8_missed_11 (by decide) rfl ?_
    refine zx_istore2 (q := 13) dX8_missed_12 rfl rfl ?_
    have e6 : zFq gi g5 := fun k j a b => by rw [e5 k j (by unfold z_scr at a; omega), e4 k j (by unfold z_scr at a; omega) (by unfold z_scr at a; omega)]
    have h6 : zSM g5 (z_sh gi m) (z_ow gi m) ns := zSM_fr h4 (fun k j z => e5 k j (by omega))
    refine zW.mono (lp_X8_missed d L e6 h6 (w := z_tw gi) (fun h hh => ⟨by rw [e5 _ _ (by omega), e4 _ _ (by omega) (by omega)]; exact (z_tw_ok L.hT hh).2.1, fun v hv => by have := (z_tw_ok L.hT hh).2.2 v hv; omega⟩) (z_rk ns (z_most gi) (fun _ => 0) ns) (fun _ => 0) 0 none g5 none rfl (z_sN_0 ns).symm (Nat.zero_le _) hC5 (fun v hv => by cases hv) (fun _ _ _ => rfl)) ?_
    rintro _ _ ⟨x, rfl, rfl, g7, rfl, e7⟩
    refine ⟨_, rfl, ho5.symm, _, _, _, rfl, ?_⟩
    exact zRel_scr hR (fun k j z => by rw [e7 k j (by unfold z_scr at z; omega), e5 k j (by unfold z_scr at z; omega), e4 k j (by unfold z_scr at z; omega) (by unfold z_scr at z; omega)])
  · have ho5 : (-5 : Int32) = z_o5 (z_LT gi ns m) := by rw [← z_o5_ov (fun v hv => by have := z_LT_le L v hv; omega), if_neg c_27]
    refine zx_bipush (q := 32) (v := (-5)) dX7_missed_30 (by decide) rfl ?_
    refine zx_goto (t := 36) dX7_missed_32 (by decide) ?_
    refine zx_iret dX7_missed_36 rfl (Nat.le_refl _) (Nat.le_refl _) ⟨_, rfl, ?_⟩
    refine ⟨_, _, _, rfl, ?_⟩
    show zW l D tc A mX8_missed (d + 5) 0 0 0 0 0 [some (.ref 108), none, none, none] [] (zs _ _ _) _
    refine zx_aload_n (q := 1) dX8_missed_0 rfl rfl rfl ?_
    refine zx_callV0v (q := 4) (y' := mX8_layShows) dX8_missed_1 ml_RX8_278 ok_mX8_layShows rfl (by decide) rfl (Nat.le_of_ble_eq_true rfl) (Nat.le_of_ble_eq_true rfl) (Nat.le_refl _) (Nat.le_refl _) rfl (t_X8_layF _ L (fun k j a b => e2 k j (by unfold z_scr at a; omega))) ?_
    rintro _ ⟨g4, rfl, e4, h4⟩
    have e4 : ∀ k j, ¬ (47 ≤ k ∧ k ≤ 62) → ¬ (126 ≤ k ∧ k ≤ 128) → g4 k j = gi k j := fun k j a b => (e4 k j b).trans (e2 k j a)
    refine zx_bipush (q := 6) (v := (-5)) dX8_missed_4 (by decide) rfl ?_
    refine zx_istore1 (q := 7) dX8_missed_6 rfl rfl ?_
    refine zx_aload_n (q := 8) dX8_missed_7 rfl rfl rfl ?_
    refine zx_callV0v (q := 11) (y' := mX8_firstHerd) dX8_missed_8 ml_RX8_302 ok_mX8_firstHerd rfl (by decide) rfl (Nat.le_of_ble_eq_true rfl) (Nat.le_of_ble_eq_true rfl) (Nat.le_refl _) (Nat.le_refl _) rfl (t_X8_first _) ?_
    rintro _ ⟨g5, rfl, hC5, e5⟩
    refine zx_iconst (q := 12) (v := 1) dX8_missed_11 (by decide) rfl ?_
    refine zx_istore2 (q := 13) dX8_missed_12 rfl rfl ?_
    have e6 : zFq gi g5 := fun k j a b => by rw [e5 k j (by unfold z_scr at a; omega), e4 k j (by unfold z_scr at a; omega) (by unfold z_scr at a; omega)]
    have h6 : zSM g5 (z_sh gi m) (z_ow gi m) ns := zSM_fr h4 (fun k j z => e5 k j (by omega))
    refine zW.mono (lp_X8_missed d L e6 h6 (w := z_tw gi) (fun h hh => ⟨by rw [e5 _ _ (by omega), e4 _ _ (by omega) (by omega)]; exact (z_tw_ok L.hT hh).2.1, fun v hv => by have := (z_tw_ok L.hT hh).2.2 v hv; omega⟩) (z_rk ns (z_most gi) (fun _ => 0) ns) (fun _ => 0) 0 none g5 none rfl (z_sN_0 ns).symm (Nat.zero_le _) hC5 (fun v hv => by cases hv) (fun _ _ _ => rfl)) ?_
    rintro _ _ ⟨x, rfl, rfl, g7, rfl, e7⟩
    refine ⟨_, rfl, ho5.symm, _, _, _, rfl, ?_⟩
    exact zRel_scr hR (fun k j z => by rw [e7 k j (by unfold z_scr at z; omega), e5 k j (by unfold z_scr at z; omega), e4 k j (by unfold z_scr at z; omega) (by unfold z_scr at z; omega)])
end P45
