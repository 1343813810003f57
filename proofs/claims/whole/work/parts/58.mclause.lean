/-! the reference's clauses -/
def z_lts (j : Nat) : Int32 := [(111 : Int32), 119, 101, 115, 101, 101, 109, 111, 115, 116].getD j 0
def zFrW (g g2 : Nat → Nat → Int32) : Prop := ∀ k j, ¬ (k = 108 ∧ j = 13) → g2 k j = g k j
/-- what may differ behind a clause -/
def zFrT (g g2 : Nat → Nat → Int32) (c B : Nat) : Prop := ∀ k j, ¬ (k = 108 ∧ (j = 13 ∨ j = 14 ∨ j = 23 ∨ j = 24 ∨ j = 25)) → ¬ k = 124 → ¬ (k = 123 ∧ B ≤ j) → ¬ (119 ≤ k ∧ k ≤ 122 ∧ j = c) → g2 k j = g k j
section P58
variable {l : Launch} {D : va_G} {tc : Nat → ClassId} {A : Nat → Prop} {S : zw_S} {gi : Nat → Nat → Int32} {gl : Nat → Nat → Int64} {f : Option Nat}
theorem lp_M_word (d : Nat) {tx : Nat → Nat} {len : Nat} {g : Nat → Nat → Int32} (w fr many : Nat) (hw : w < 8) (hfm : fr + many ≤ 10) (hm : zw_tl.getD w 0 = many + 1) (h32 : z_ch w many = 32) (hL : ∀ k, k < many → g 125 (fr + k) = z_ch w k) : ∀ (n k p : Nat) (g1 : Nat → Nat → Int32), k + n = many → zRK g1 tx len p → zFrW g g1 → zW l D tc A mX8_takesWord (d + 2) 0 0 0 0 2 [some (.ref 108), some (.int (nI fr)), some (.int (nI many)), some (.int (nI k))] [] (zs g1 gl f) (zQi fun x S' => x = zb (!(z_ndp tx len w (n + 1) k (p, false)).2) ∧ ∃ g2, S' = zs g2 gl f ∧ zRK g2 tx len (z_ndp tx len w (n + 1) k (p, false)).1 ∧ zFrW g g2) := by
  intro n
  induction n using Nat.strongRecOn with
  | _ n ih =>
    intro k p g1 hk K1 e
    refine zx_iload_n (q := 3) dX8_takesWord_2 rfl rfl rfl ?_
    refine zx_iload_n (q := 4) dX8_takesWord_3 rfl rfl rfl ?_
    refine zx_icmp_ge (q := 7) (t := 30) dX8_takesWord_4 (by decide) rfl (fun c_4 => ?_) (fun c_4 => ?_)
    · have hn0 : n = 0 := by rw [nI_leI (by omega) (by omega)] at c_4; omega
      subst hn0
      have hk2 : k = many := by omega
      subst hk2
      refine zx_aload_n (q := 31) dX8_takesWord_30 rfl rfl rfl ?_
      refine zx_bipush (q := 33) (v := 32) dX8_takesWord_31 (by decide) rfl ?_
      refine zx_callV1i (q := 36) (y' := mX8_takes) dX8_takesWord_33 ml_RX8_215 ok_mX8_takes rfl (by decide) rfl (Nat.le_of_ble_eq_true rfl) (Nat.le_of_ble_eq_true rfl) (Nat.le_refl _) (Nat.le_refl _) rfl (t_M_takes _ K1 32 (by omega)) ?_
      rintro _ _ ⟨rfl, rfl⟩
      refine zx_zret dX8_takesWord_36 rfl (zb_nar _) (Nat.le_refl _) (Nat.le_refl _) ⟨_, rfl, ?_⟩
      have e3 : (z_ch w k).toNatClampNeg = 32 := by rw [h32]; decide
      by_cases h : z_at tx len p 32 = true
      · have e2 : z_ndp tx len w (0 + 1) k (p, false) = (p + 1, false) := by rw [z_ndp, if_pos (by rw [e3]; simpa using h)]; rfl
        rw [e2, if_pos h, h]
        exact ⟨rfl, _, rfl, zRK_adv K1 (z_at_p h), fun c j z => by rw [z_u_ne _ _ (by omega)]; exact e c j z⟩
      · have e2 : z_ndp tx len w (0 + 1) k (p, false) = (p, true) := by rw [z_ndp, if_neg (by rw [e3]; simpa using h)]; rfl
        rw [e2, if_neg h]
        rw [Bool.not_eq_true] at h
        rw [h]
        exact ⟨rfl, g1, rfl, K1, e⟩
    · have hk2 : k < many := by rw [nI_leI (by omega) (by omega)] at c_4; omega
      obtain ⟨n, rfl⟩ : ∃ q, n = q + 1 := ⟨n - 1, by omega⟩
      have hc := z_chN w hw k (by omega)
      refine zx_aload_n (q := 8) dX8_takesWord_7 rfl rfl rfl ?_
      refine zx_aload_n (q := 9) dX8_takesWord_8 rfl rfl rfl ?_
      refine zy_getR (q := 12) dX8_takesWord_9 fl_RX8_89 rfl rfl rfl rfl ?_
      refine zx_iload_n (q := 13) dX8_takesWord_12 rfl rfl rfl ?_
      refine zx_iload_n (q := 14) dX8_takesWord_13 rfl rfl rfl ?_
      refine zx_iadd (q := 15) dX8_takesWord_14 rfl ?_
      rw [nI_add]
      refine zy_ialdN (q := 16) dX8_takesWord_15 rfl (by omega) (by first | decide | omega) rfl ?_
      rw [e _ _ (by omega), hL k hk2, hc.1]
      refine zx_callV1i (q := 19) (y' := mX8_takes) dX8_takesWord_16 ml_RX8_215 ok_mX8_takes rfl (by decide) rfl (Nat.le_of_ble_eq_true rfl) (Nat.le_of_ble_eq_true rfl) (Nat.le_refl _) (Nat.le_refl _) rfl (t_M_takes _ K1 _ hc.2) ?_
      rintro _ _ ⟨rfl, rfl⟩
      refine zx_if_ne (q := 22) (t := 24) dX8_takesWord_19 (by decide) rfl (fun c_19 => ?_) (fun c_19 => ?_)
      · have hz : z_at tx len p (z_ch w k).toNatClampNeg = true := (zb_nz _).mp c_19
        have hpl := z_at_p hz
        refine zx_iinc3 (q := 27) dX8_takesWord_24 rfl rfl ?_
        refine zx_goto (t := 2) dX8_takesWord_27 (by decide) ?_
        rw [z_inc, if_pos hz]
        have e2 : z_ndp tx len w (n + 1 + 1) k (p, false) = z_ndp tx len w (n + 1) (k + 1) (p + 1, false) := by rw [z_ndp, if_pos (by simpa using hz)]
        rw [e2]
        exact ih n (by omega) (k + 1) (p + 1) _ (by omega) (zRK_adv K1 hpl) (fun c j z => by rw [z_u_ne _ _ (by omega)]; exact e c j z)
      · have hz : ¬ z_at tx len p (z_ch w k).toNatClampNeg = true := fun z => by rw [z] at c_19; exact absurd c_19 (by decide)
        refine zx_iconst (q := 23) (v := 0) dX8_takesWord_22 (by decide) rfl ?_
        refine zx_zret dX8_takesWord_23 rfl rfl (Nat.le_refl _) (Nat.le_refl _) ⟨_, rfl, ?_⟩
        rw [if_neg hz]
        have e2 : z_ndp tx len w (n + 1 + 1) k (p, false) = (p, true) := by rw [z_ndp, if_neg (by simpa using hz)]; exact z_ndp_t _ _ _
        rw [e2]
        exact ⟨rfl, g1, rfl, K1, e⟩
theorem t_M_word (d : Nat) {p : Nat} {tx : Nat → Nat} {len : Nat} {g : Nat → Nat → Int32} (w fr many : Nat) (hw : w < 8) (hfm : fr + many ≤ 10) (hm : zw_tl.getD w 0 = many + 1) (h32 : z_ch w many = 32) (hL : ∀ k, k < many → g 125 (fr + k) = z_ch w k) (K : zRK g tx len p) : zCall l D tc A mX8_takesWord (d + 2) 0 0 [.ref 108, .int (nI fr), .int (nI many)] (zs g gl f) (zQi fun x S' => x = zb (!(z_nd tx len w (p, false)).2) ∧ ∃ g2, S' = zs g2 gl f ∧ zRK g2 tx len (z_nd tx len w (p, false)).1 ∧ zFrW g g2) := by
  show zW l D tc A mX8_takesWord (d + 2) 0 0 0 0 0 [some (.ref 108), some (.int (nI fr)), some (.int (nI many)), none] [] (zs g gl f) _
  refine zx_iconst (q := 1) (v := 0) dX8_takesWord_0 (by decide) rfl ?_
  refine zx_istore3 (q := 2) dX8_takesWord_1 rfl rfl ?_
  have h := lp_M_word (l := l) (D := D) (tc := tc) (A := A) (gl := gl) (f := f) d w fr many hw hfm hm h32 hL many 0 p g (by omega) K (fun _ _ _ => rfl)
  rw [← hm] at h
  exact h
theorem t_M_head0 (d c : Nat) (hc : c < 60) {tx : Nat → Nat} {len p : Nat} {g : Nat → Nat → Int32} (K : zRK g tx len p) (hL : ∀ j, j < 10 → g 125 j = z_lts j) (h111 : z_at tx len p 111 = true) : zCall l D tc A mX8_takesHead (d + 3) 0 0 [.ref 108, .int (nI c)] (zs g gl f) (zQi fun x S' => x = zb (!(z_nd tx len (z_wd tx len p) (p, false)).2) ∧ ∃ g2, S' = zs g2 gl f ∧ zRK g2 tx len (z_nd tx len (z_wd tx len p) (p, false)).1 ∧ g2 119 c = nI (z_wd tx len p) ∧ ∀ k j, ¬ (k = 108 ∧ j = 13) → ¬ (k = 119 ∧ j = c) → g2 k j = g k j) := by
  have hw : z_wd tx len p = 0 := by unfold z_wd; rw [if_pos h111]
  show zW l D tc A mX8_takesHead (d + 3) 0 0 0 0 0 [some (.ref 108), some (.int (nI c))] [] (zs g gl f) _
  refine zx_aload_n (q := 1) dX8_takesHead_0 rfl rfl rfl ?_
  refine zx_callV0i (q := 4) (y' := mX8_next) dX8_takesHead_1 ml_RX8_211 ok_mX8_next rfl (by decide) rfl (Nat.le_of_ble_eq_true rfl) (Nat.le_of_ble_eq_true rfl) (Nat.le_refl _) (Nat.le_refl _) rfl (t_M_next _ K) ?_
  rintro _ _ ⟨rfl, rfl⟩
  rw [(z_nt_at K (b := 111) (by omega)).mpr h111]
  refine zx_lookup (t := 32) (off := 28) dX8_takesHead_4 (by decide) (by decide) (by decide) ?_
  refine zx_aload_n (q := 33) dX8_takesHead_32 rfl rfl rfl ?_
  refine zy_getR (q := 36) dX8_takesHead_33 fl_RX8_62 rfl rfl rfl rfl ?_
  refine zx_iload_n (q := 37) dX8_takesHead_36 rfl rfl rfl ?_
  refine zx_iconst (q := 38) (v := 0) dX8_takesHead_37 (by decide) rfl ?_
  refine zy_iastN (q := 39) dX8_takesHead_38 rfl (by omega) (by first | decide | omega) rfl ?_
  refine zx_aload_n (q := 40) dX8_takesHead_39 rfl rfl rfl ?_
  refine zx_iconst (q := 41) (v := 0) dX8_takesHead_40 (by decide) rfl ?_
  refine zx_iconst (q := 42) (v := 3) dX8_takesHead_41 (by decide) rfl ?_
  refine zx_callV2i (q := 45) (y' := mX8_takesWord) dX8_takesHead_42 ml_RX8_242 ok_mX8_takesWord rfl (by decide) rfl (Nat.le_of_ble_eq_true rfl) (Nat.le_of_ble_eq_true rfl) (Nat.le_refl _) (Nat.le_refl _) rfl (t_M_word _ 0 0 3 (by omega) (by omega) rfl (by decide) (fun k hk => by rw [z_u_ne _ _ (by omega), hL _ (by omega)]; rcases (by omega : k = 0 ∨ k = 1 ∨ k = 2) with q | q | q <;> subst q <;> decide) (zRK_fr K (fun k j z => z_u_ne _ _ (by omega)))) ?_
  rintro _ _ ⟨rfl, g2, rfl, K2, e2⟩
  refine zx_zret dX8_takesHead_45 rfl (zb_nar _) (Nat.le_refl _) (Nat.le_refl _) ⟨_, rfl, ?_⟩
  rw [hw]
  exact ⟨rfl, g2, rfl, K2, by rw [e2 _ _ (by omega), z_u_at]; rfl, fun k j a b => by rw [e2 _ _ a, z_u_ne _ _ b]⟩
theorem t_M_head1 (d c : Nat) (hc : c < 60) {tx : Nat → Nat} {len p : Nat} {g : Nat → Nat → Int32} (K : zRK g tx len p) (hL : ∀ j, j < 10 → g 125 j = z_lts j) (h111 : ¬ z_at tx len p 111 = true) (h115 : z_at tx len p 115 = true) : zCall l D tc A mX8_takesHead (d + 3) 0 0 [.ref 108, .int (nI c)] (zs g gl f) (zQi fun x S' => x = zb (!(z_nd tx len (z_wd tx len p) (p, false)).2) ∧ ∃ g2, S' = zs g2 gl f ∧ zRK g2 tx len (z_nd tx len (z_wd tx len p) (p, false)).1 ∧ g2 119 c = nI (z_wd tx len p) ∧ ∀ k j, ¬ (k = 108 ∧ j = 13) → ¬ (k = 119 ∧ j = c) → g2 k j = g k j) := by
  have hw : z_wd tx len p = 1 := by unfold z_wd; rw [if_neg h111, if_pos h115]
  show zW l D tc A mX8_takesHead (d + 3) 0 0 0 0 0 [some (.ref 108), some (.int (nI c))] [] (zs g gl f) _
  refine zx_aload_n (q := 1) dX8_takesHead_0 rfl rfl rfl ?_
  refine zx_callV0i (q := 4) (y' := mX8_next) dX8_takesHead_1 ml_RX8_211 ok_mX8_next rfl (by decide) rfl (Nat.le_of_ble_eq_true rfl) (Nat.le_of_ble_eq_true rfl) (Nat.le_refl _) (Nat.le_refl _) rfl (t_M_next _ K) ?_
  rintro _ _ ⟨rfl, rfl⟩
  rw [(z_nt_at K (b := 115) (by omega)).mpr h115]
  refine zx_lookup (t := 46) (off := 42) dX8_takesHead_4 (by decide) (by decide) (by decide) ?_
  refine zx_aload_n (q := 47) dX8_takesHead_46 rfl rfl rfl ?_
  refine zy_getR (q := 50) dX8_takesHead_47 fl_RX8_62 rfl rfl rfl rfl ?_
  refine zx_iload_n (q := 51) dX8_takesHead_50 rfl rfl rfl ?_
  refine zx_iconst (q := 52) (v := 1) dX8_takesHead_51 (by decide) rfl ?_
  refine zy_iastN (q := 53) dX8_takesHead_52 rfl (by omega) (by first | decide | omega) rfl ?_
  refine zx_aload_n (q := 54) dX8_takesHead_53 rfl rfl rfl ?_
  refine zx_iconst (q := 55) (v := 3) dX8_takesHead_54 (by decide) rfl ?_
  refine zx_iconst (q := 56) (v := 3) dX8_takesHead_55 (by decide) rfl ?_
  refine zx_callV2i (q := 59) (y' := mX8_takesWord) dX8_takesHead_56 ml_RX8_242 ok_mX8_takesWord rfl (by decide) rfl (Nat.le_of_ble_eq_true rfl) (Nat.le_of_ble_eq_true rfl) (Nat.le_refl _) (Nat.le_refl _) rfl (t_M_word _ 1 3 3 (by omega) (by omega) rfl (by decide) (fun k hk => by rw [z_u_ne _ _ (by omega), hL _ (by omega)]; rcases (by omega : k = 0 ∨ k = 1 ∨ k = 2) with q | q | q <;> subst q <;> decide) (zRK_fr K (fun k j z => z_u_ne _ _ (by omega)))) ?_
  rintro _ _ ⟨rfl, g2, rfl, K2, e2⟩
  refine zx_zret dX8_takesHead_59 rfl (zb_nar _) (Nat.le_refl _) (Nat.le_refl _) ⟨_, rfl, ?_⟩
  rw [hw]
  exact ⟨rfl, g2, rfl, K2, by rw [e2 _ _ (by omega), z_u_at]; rfl, fun k j a b => by rw [e2 _ _ a, z_u_ne _ _ b]⟩
theorem t_M_head2 (d c : Nat) (hc : c < 60) {tx : Nat → Nat} {len p : Nat} {g : Nat → Nat → Int32} (K : zRK g tx len p) (hL : ∀ j, j < 10 → g 125 j = z_lts j) (h111 : ¬ z_at tx len p 111 = true) (h115 : ¬ z_at tx len p 115 = true) : zCall l D tc A mX8_takesHead (d + 3) 0 0 [.ref 108, .int (nI c)] (zs g gl f) (zQi fun x S' => x = zb (!(z_nd tx len (z_wd tx len p) (p, false)).2) ∧ ∃ g2, S' = zs g2 gl f ∧ zRK g2 tx len (z_nd tx len (z_wd tx len p) (p, false)).1 ∧ g2 119 c = nI (z_wd tx len p) ∧ ∀ k j, ¬ (k = 108 ∧ j = 13) → ¬ (k = 119 ∧ j = c) → g2 k j = g k j) := by
  have hw : z_wd tx len p = 2 := by unfold z_wd; rw [if_neg h111, if_neg h115]
  show zW l D tc A mX8_takesHead (d + 3) 0 0 0 0 0 [some (.ref 108), some (.int (nI c))] [] (zs g gl f) _
  refine zx_aload_n (q := 1) dX8_takesHead_0 rfl rfl rfl ?_
  refine zx_callV0i (q := 4) (y' := mX8_next) dX8_takesHead_1 ml_RX8_211 ok_mX8_next rfl (by decide) rfl (Nat.le_of_ble_eq_true rfl) (Nat.le_of_ble_eq_true rfl) (Nat.le_refl _) (Nat.le_refl _) rfl (t_M_next _ K) ?_
  rintro _ _ ⟨rfl, rfl⟩
  refine zx_lookup (t := 60) (off := 56) dX8_takesHead_4 (by decide) (by show Op.lookupswitch.offset _ _ _ = _; rw [lv_osw (show ¬ z_nt tx len p = 111 from fun z => h111 ((z_nt_at K (b := 111) (by omega)).mp z)) (by decide)]; rw [lv_osw (show ¬ z_nt tx len p = 115 from fun z => h115 ((z_nt_at K (b := 115) (by omega)).mp z)) (by decide)]; rfl) (by decide) ?_
  refine zx_aload_n (q := 61) dX8_takesHead_60 rfl rfl rfl ?_
  refine zy_getR (q := 64) dX8_takesHead_61 fl_RX8_62 rfl rfl rfl rfl ?_
  refine zx_iload_n (q := 65) dX8_takesHead_64 rfl rfl rfl ?_
  refine zx_iconst (q := 66) (v := 2) dX8_takesHead_65 (by decide) rfl ?_
  refine zy_iastN (q := 67) dX8_takesHead_66 rfl (by omega) (by first | decide | omega) rfl ?_
  refine zx_aload_n (q := 68) dX8_takesHead_67 rfl rfl rfl ?_
  refine zx_bipush (q := 70) (v := 6) dX8_takesHead_68 (by decide) rfl ?_
  refine zx_iconst (q := 71) (v := 4) dX8_takesHead_70 (by decide) rfl ?_
  refine zx_callV2i (q := 74) (y' := mX8_takesWord) dX8_takesHead_71 ml_RX8_242 ok_mX8_takesWord rfl (by decide) rfl (Nat.le_of_ble_eq_true rfl) (Nat.le_of_ble_eq_true rfl) (Nat.le_refl _) (Nat.le_refl _) rfl (t_M_word _ 2 6 4 (by omega) (by omega) rfl (by decide) (fun k hk => by rw [z_u_ne _ _ (by omega), hL _ (by omega)]; rcases (by omega : k = 0 ∨ k = 1 ∨ k = 2 ∨ k = 3) with q | q | q | q <;> subst q <;> decide) (zRK_fr K (fun k j z => z_u_ne _ _ (by omega)))) ?_
  rintro _ _ ⟨rfl, g2, rfl, K2, e2⟩
  refine zx_zret dX8_takesHead_74 rfl (zb_nar _) (Nat.le_refl _) (Nat.le_refl _) ⟨_, rfl, ?_⟩
  rw [hw]
  exact ⟨rfl, g2, rfl, K2, by rw [e2 _ _ (by omega), z_u_at]; rfl, fun k j a b => by rw [e2 _ _ a, z_u_ne _ _ b]⟩
theorem t_M_head (d c : Nat) (hc : c < 60) {tx : Nat → Nat} {len p : Nat} {g : Nat → Nat → Int32} (K : zRK g tx len p) (hL : ∀ j, j < 10 → g 125 j = z_lts j) : zCall l D tc A mX8_takesHead (d + 3) 0 0 [.ref 108, .int (nI c)] (zs g gl f) (zQi fun x S' => x = zb (!(z_nd tx len (z_wd tx len p) (p, false)).2) ∧ ∃ g2, S' = zs g2 gl f ∧ zRK g2 tx len (z_nd tx len (z_wd tx len p) (p, false)).1 ∧ g2 119 c = nI (z_wd tx len p) ∧ ∀ k j, ¬ (k = 108 ∧ j = 13) → ¬ (k = 119 ∧ j = c) → g2 k j = g k j) := by
  by_cases h111 : z_at tx len p 111 = true
  · exact t_M_head0 d c hc K hL h111
  · by_cases h115 : z_at tx len p 115 = true
    · exact t_M_head1 d c hc K hL h111 h115
    · exact t_M_head2 d c hc K hL h111 h115
theorem t_M_ES (dl c : Nat) (hc : c < 60) {tx : Nat → Nat} {len p q sg B : Nat} {g : Nat → Nat → Int32} (K : zRK g tx len p) (hsg : g 108 23 = nI sg) (hB : B ≤ sg) (hsB : sg ≤ B + p) (hB5 : B ≤ 500) {cs : List Int32} (h : zDer tx len 1 0 p q (some cs)) : zCall l D tc A mX8_takesE (dl + 5) 0 0 [.ref 108, .int (nI c)] (zs g gl f) (zQi fun x S' => x = 1 ∧ ∃ g2, S' = zs g2 gl f ∧ zRK g2 tx len q ∧ g2 108 23 = nI (sg + cs.length) ∧ zSg g g2 sg cs ∧ g2 121 c = nI sg ∧ g2 122 c = nI (sg + cs.length) ∧ ∀ k j, ¬ (k = 108 ∧ (j = 13 ∨ j = 14 ∨ j = 23 ∨ j = 24 ∨ j = 25)) → ¬ k = 124 → ¬ (k = 123 ∧ B ≤ j) → ¬ ((k = 121 ∨ k = 122) ∧ j = c) → g2 k j = g k j) := by
  show zW l D tc A mX8_takesE (dl + 5) 0 0 0 0 0 [some (.ref 108), some (.int (nI c)), none, none] [] (zs g gl f) _
  refine zx_aload_n (q := 1) dX8_takesE_0 rfl rfl rfl ?_
  refine zx_iconst (q := 2) (v := 0) dX8_takesE_1 (by decide) rfl ?_
  refine zy_putI (q := 5) dX8_takesE_2 fl_RX8_83 rfl rfl ⟨rfl, rfl⟩ rfl rfl ?_
  refine zx_aload_n (q := 6) dX8_takesE_5 rfl rfl rfl ?_
  refine zx_iconst (q := 7) (v := 0) dX8_takesE_6 (by decide) rfl ?_
  refine zy_putI (q := 10) dX8_takesE_7 fl_RX8_86 rfl rfl ⟨rfl, rfl⟩ rfl rfl ?_
  refine zx_aload_n (q := 11) dX8_takesE_10 rfl rfl rfl ?_
  refine zy_getR (q := 14) dX8_takesE_11 fl_RX8_68 rfl rfl rfl rfl ?_
  refine zx_iload_n (q := 15) dX8_takesE_14 rfl rfl rfl ?_
  refine zx_aload_n (q := 16) dX8_takesE_15 rfl rfl rfl ?_
  refine zy_getIe (q := 19) (v := nI sg) dX8_takesE_16 fl_RX8_80 rfl rfl (by rw [z_u_ne _ _ (by omega), z_u_ne _ _ (by omega)]; exact hsg) rfl ?_
  refine zy_iastN (q := 20) dX8_takesE_19 rfl (by omega) (by first | decide | omega) rfl ?_
  refine zx_iconst (q := 21) (v := 1) dX8_takesE_20 (by decide) rfl ?_
  refine zx_istore2 (q := 22) dX8_takesE_21 rfl rfl ?_
  have hR0 : zRC (zw_u (zw_u (zw_u g 108 24 0) 108 25 0) 121 c (nI sg)) tx len p [] sg B := ⟨zRK_fr K (fun k j z => by rw [z_u_ne _ _ (by omega), z_u_ne _ _ (by omega), z_u_ne _ _ (by omega)]), trivial, by rw [z_u_ne _ _ (by omega), z_u_ne _ _ (by omega), z_u_at]; rfl, by rw [z_u_ne _ _ (by omega), z_u_at]; rfl, by rw [z_u_ne _ _ (by omega), z_u_ne _ _ (by omega), z_u_ne _ _ (by omega)]; exact hsg, hB, by simp only [List.length_nil]; omega, hB5⟩
  have hm : zM1s l D tc A gl f tx len dl c B 0 p q cs := h _ (zMM_ok (l := l) (D := D) (tc := tc) (A := A) (gl := gl) (f := f) (dl := dl) (B := B) hc)
  refine hm _ _ [] sg _ hR0 rfl (by omega) (Or.inl rfl) (fun g2 h2 h3 h4 => ?_)
  obtain ⟨R1, R2, R3, R4, R5, R6, R7, R8⟩ := id h2
  refine zx_aload_n (q := 169) dX8_takesE_168 rfl rfl rfl ?_
  refine zy_getR (q := 172) dX8_takesE_169 fl_RX8_71 rfl rfl rfl rfl ?_
  refine zx_iload_n (q := 173) dX8_takesE_172 rfl rfl rfl ?_
  refine zx_aload_n (q := 174) dX8_takesE_173 rfl rfl rfl ?_
  refine zy_getIe (q := 177) (v := nI (sg + cs.length)) dX8_takesE_174 fl_RX8_80 rfl rfl (R5) rfl ?_
  refine zy_iastN (q := 178) dX8_takesE_177 rfl (by omega) (by first | decide | omega) rfl ?_
  refine zx_aload_n (q := 179) dX8_takesE_178 rfl rfl rfl ?_
  refine zy_getIe (q := 182) (v := nI 0) dX8_takesE_179 fl_RX8_83 rfl rfl (by rw [z_u_ne _ _ (by omega)]; exact R3) rfl ?_
  refine zx_if_ne_f (t := 187) (q := 185) dX8_takesE_182 (by decide) rfl (rfl) ?_
  refine zx_iconst (q := 186) (v := 1) dX8_takesE_185 (by decide) rfl ?_
  refine zx_zret dX8_takesE_186 rfl rfl (Nat.le_refl _) (Nat.le_refl _) ⟨_, rfl, ?_⟩
  refine ⟨rfl, _, rfl, zRK_fr R1 (fun k j z => z_u_ne _ _ (by omega)), by rw [z_u_ne _ _ (by omega)]; exact R5, zSg_pl (zSg_sf h3 (fun j => z_u_ne _ _ (by omega))) (fun j => by rw [z_u_ne _ _ (by omega), z_u_ne _ _ (by omega), z_u_ne _ _ (by omega)]), ?_, by rw [z_u_at], fun k j a b d e => ?_⟩
  · rw [z_u_ne _ _ (by omega), h4 _ _ (by omega) (by omega) (by omega) (by omega), z_u_at]
  · rw [z_u_ne _ _ (by omega), h4 _ _ (by omega) (by omega) (by omega) (by omega), z_u_ne _ _ (by omega), z_u_ne _ _ (by omega), z_u_ne _ _ (by omega)]
theorem t_M_EX (dl c : Nat) (hc : c < 60) {tx : Nat → Nat} {len p q sg B : Nat} {g : Nat → Nat → Int32} (K : zRK g tx len p) (hsg : g 108 23 = nI sg) (hB : B ≤ sg) (hsB : sg ≤ B + p) (hB5 : B ≤ 500) (h : zDer tx len 1 0 p q none) : zCall l D tc A mX8_takesE (dl + 5) 0 0 [.ref 108, .int (nI c)] (zs g gl f) (zQi fun x S' => x = 0 ∧ ∃ g2, S' = zs g2 gl f ∧ g2 108 13 = nI q ∧ ∀ k j, ¬ (k = 108 ∧ (j = 13 ∨ j = 14 ∨ j = 23 ∨ j = 24 ∨ j = 25)) → ¬ k = 124 → ¬ (k = 123 ∧ B ≤ j) → ¬ ((k = 121 ∨ k = 122) ∧ j = c) → g2 k j = g k j) := by
  show zW l D tc A mX8_takesE (dl + 5) 0 0 0 0 0 [some (.ref 108), some (.int (nI c)), none, none] [] (zs g gl f) _
  refine zx_aload_n (q := 1) dX8_takesE_0 rfl rfl rfl ?_
  refine zx_iconst (q := 2) (v := 0) dX8_takesE_1 (by decide) rfl ?_
  refine zy_putI (q := 5) dX8_takesE_2 fl_RX8_83 rfl rfl ⟨rfl, rfl⟩ rfl rfl ?_
  refine zx_aload_n (q := 6) dX8_takesE_5 rfl rfl rfl ?_
  refine zx_iconst (q := 7) (v := 0) dX8_takesE_6 (by decide) rfl ?_
  refine zy_putI (q := 10) dX8_takesE_7 fl_RX8_86 rfl rfl ⟨rfl, rfl⟩ rfl rfl ?_
  refine zx_aload_n (q := 11) dX8_takesE_10 rfl rfl rfl ?_
  refine zy_getR (q := 14) dX8_takesE_11 fl_RX8_68 rfl rfl rfl rfl ?_
  refine zx_iload_n (q := 15) dX8_takesE_14 rfl rfl rfl ?_
  refine zx_aload_n (q := 16) dX8_takesE_15 rfl rfl rfl ?_
  refine zy_getIe (q := 19) (v := nI sg) dX8_takesE_16 fl_RX8_80 rfl rfl (by rw [z_u_ne _ _ (by omega), z_u_ne _ _ (by omega)]; exact hsg) rfl ?_
  refine zy_iastN (q := 20) dX8_takesE_19 rfl (by omega) (by first | decide | omega) rfl ?_
  refine zx_iconst (q := 21) (v := 1) dX8_takesE_20 (by decide) rfl ?_
  refine zx_istore2 (q := 22) dX8_takesE_21 rfl rfl ?_
  have hR0 : zRC (zw_u (zw_u (zw_u g 108 24 0) 108 25 0) 121 c (nI sg)) tx len p [] sg B := ⟨zRK_fr K (fun k j z => by rw [z_u_ne _ _ (by omega), z_u_ne _ _ (by omega), z_u_ne _ _ (by omega)]), trivial, by rw [z_u_ne _ _ (by omega), z_u_ne _ _ (by omega), z_u_at]; rfl, by rw [z_u_ne _ _ (by omega), z_u_at]; rfl, by rw [z_u_ne _ _ (by omega), z_u_ne _ _ (by omega), z_u_ne _ _ (by omega)]; exact hsg, hB, by simp only [List.length_nil]; omega, hB5⟩
  have hm : zM1x l D tc A gl f tx len dl c B 0 p q := h _ (zMM_ok (l := l) (D := D) (tc := tc) (A := A) (gl := gl) (f := f) (dl := dl) (B := B) hc)
  exact hm _ _ [] sg _ hR0 rfl (by omega) (Or.inl rfl) (fun g2 h2 h4 => ⟨_, rfl, rfl, g2, rfl, h2, fun k j a b d e => by rw [h4 k j a b d (by omega), z_u_ne _ _ (by omega), z_u_ne _ _ (by omega), z_u_ne _ _ (by omega)]⟩)
theorem t_M_clS2 (dl c : Nat) (hc : c < 60) {tx : Nat → Nat} {len p q sg B : Nat} {g : Nat → Nat → Int32} (K : zRK g tx len p) (hsg : g 108 23 = nI sg) (hB : B ≤ sg) (hsB : sg ≤ B + p) (hB5 : B ≤ 500) (hL : ∀ j, j < 10 → g 125 j = z_lts j) {p1 n : Nat} (hnd : z_nd tx len (z_wd tx len p) (p, false) = (p1, false)) (hnm : z_nm tx len p1 = (q, some n)) (hw2 : z_wd tx len p = 2) : zCall l D tc A mX8_takesClause (dl + 6) 0 0 [.ref 108, .int (nI c)] (zs g gl f) (zQi fun x S' => x = 1 ∧ ∃ g2, S' = zs g2 gl f ∧ zRK g2 tx len q ∧ g2 108 23 = nI (sg + ([] : List Int32).length) ∧ zSg g g2 sg [] ∧ g2 119 c = nI (z_wd tx len p) ∧ g2 120 c = nI n ∧ (¬ z_wd tx len p = 2 → g2 121 c = nI sg ∧ g2 122 c = nI (sg + ([] : List Int32).length)) ∧ zFrT g g2 c B) := by
  show zW l D tc A mX8_takesClause (dl + 6) 0 0 0 0 0 [some (.ref 108), some (.int (nI c))] [] (zs g gl f) _
  refine zx_aload_n (q := 1) dX8_takesClause_0 rfl rfl rfl ?_
  refine zx_iload_n (q := 2) dX8_takesClause_1 rfl rfl rfl ?_
  refine zx_callV1i (q := 5) (y' := mX8_takesHead) dX8_takesClause_2 ml_RX8_246 ok_mX8_takesHead rfl (by decide) rfl (Nat.le_of_ble_eq_true rfl) (Nat.le_of_ble_eq_true rfl) (Nat.le_refl _) (Nat.le_refl _) rfl (t_M_head _ c hc K hL) ?_
  rintro _ _ ⟨rfl, g2, rfl, K2, w2, e2⟩
  rw [hnd] at K2 ⊢
  refine zx_if_eq_f (t := 15) (q := 8) dX8_takesClause_5 (by decide) rfl (zk_t rfl) ?_
  refine zx_aload_n (q := 9) dX8_takesClause_8 rfl rfl rfl ?_
  refine zx_callV0i (q := 12) (y' := mX8_takesNumber) dX8_takesClause_9 ml_RX8_230 ok_mX8_takesNumber rfl (by decide) rfl (Nat.le_of_ble_eq_true rfl) (Nat.le_of_ble_eq_true rfl) (Nat.le_refl _) (Nat.le_refl _) rfl (t_M_numS _ K2 hnm) ?_
  rintro _ _ ⟨rfl, g3, rfl, K3, d3, e3⟩
  refine zx_if_ne_t (t := 17) (q := 15) dX8_takesClause_12 (by decide) rfl (by decide) ?_
  refine zx_aload_n (q := 18) dX8_takesClause_17 rfl rfl rfl ?_
  refine zy_getR (q := 21) dX8_takesClause_18 fl_RX8_65 rfl rfl rfl rfl ?_
  refine zx_iload_n (q := 22) dX8_takesClause_21 rfl rfl rfl ?_
  refine zx_aload_n (q := 23) dX8_takesClause_22 rfl rfl rfl ?_
  refine zy_getIe (q := 26) (v := nI n) dX8_takesClause_23 fl_RX8_53 rfl rfl (d3) rfl ?_
  refine zy_iastN (q := 27) dX8_takesClause_26 rfl (by omega) (by first | decide | omega) rfl ?_
  refine zx_aload_n (q := 28) dX8_takesClause_27 rfl rfl rfl ?_
  refine zy_getR (q := 31) dX8_takesClause_28 fl_RX8_62 rfl rfl rfl rfl ?_
  refine zx_iload_n (q := 32) dX8_takesClause_31 rfl rfl rfl ?_
  refine zy_ialdN (q := 33) dX8_takesClause_32 rfl (by omega) (by first | decide | omega) rfl ?_
  rw [show zw_u g3 120 c (nI n) 119 c = nI (z_wd tx len p) from by rw [z_u_ne _ _ (by omega), e3 _ _ (by omega)]; exact w2]
  refine zx_iconst (q := 34) (v := 2) dX8_takesClause_33 (by decide) rfl ?_
  refine zx_icmp_eq_t (t := 54) (q := 37) dX8_takesClause_34 (by decide) rfl (by rw [hw2]; rfl) ?_
  refine zx_iconst (q := 55) (v := 1) dX8_takesClause_54 (by decide) rfl ?_
  refine zx_goto (t := 59) dX8_takesClause_55 (by decide) ?_
  refine zx_zret dX8_takesClause_59 rfl rfl (Nat.le_refl _) (Nat.le_refl _) ⟨_, rfl, ?_⟩
  refine ⟨rfl, _, rfl, (zRK_fr K3 (fun k j z => z_u_ne _ _ (by omega))), ?_, zSg_nil (fun j _ => ?_), ?_, by rw [z_u_at], fun z => absurd hw2 z, fun k j a b d e => ?_⟩
  · rw [z_u_ne _ _ (by omega), e3 _ _ (by omega), e2 _ _ (by omega) (by omega), hsg]; rfl
  · rw [z_u_ne _ _ (by omega), e3 _ _ (by omega), e2 _ _ (by omega) (by omega)]
  · rw [z_u_ne _ _ (by omega), e3 _ _ (by omega)]; exact w2
  · rw [z_u_ne _ _ (by omega), e3 _ _ (by omega), e2 _ _ (by omega) (by omega)]
theorem t_M_clSE (dl c : Nat) (hc : c < 60) {tx : Nat → Nat} {len p q sg B : Nat} {g : Nat → Nat → Int32} (K : zRK g tx len p) (hsg : g 108 23 = nI sg) (hB : B ≤ sg) (hsB : sg ≤ B + p) (hB5 : B ≤ 500) (hL : ∀ j, j < 10 → g 125 j = z_lts j) {p1 p2 n : Nat} {cs : List Int32} (hnd : z_nd tx len (z_wd tx len p) (p, false) = (p1, false)) (hnm : z_nm tx len p1 = (p2, some n)) (hwn : ¬ z_wd tx len p = 2) (h32 : z_at tx len p2 32 = true) (hder : zDer tx len 1 0 (p2 + 1) q (some cs)) : zCall l D tc A mX8_takesClause (dl + 6) 0 0 [.ref 108, .int (nI c)] (zs g gl f) (zQi fun x S' => x = 1 ∧ ∃ g2, S' = zs g2 gl f ∧ zRK g2 tx len q ∧ g2 108 23 = nI (sg + cs.length) ∧ zSg g g2 sg cs ∧ g2 119 c = nI (z_wd tx len p) ∧ g2 120 c = nI n ∧ (¬ z_wd tx len p = 2 → g2 121 c = nI sg ∧ g2 122 c = nI (sg + cs.length)) ∧ zFrT g g2 c B) := by
  have hnl := z_nd_le hnd K.2.2.1
  have hml := z_nm_ok hnl.2 hnm
  show zW l D tc A mX8_takesClause (dl + 6) 0 0 0 0 0 [some (.ref 108), some (.int (nI c))] [] (zs g gl f) _
  refine zx_aload_n (q := 1) dX8_takesClause_0 rfl rfl rfl ?_
  refine zx_iload_n (q := 2) dX8_takesClause_1 rfl rfl rfl ?_
  refine zx_callV1i (q := 5) (y' := mX8_takesHead) dX8_takesClause_2 ml_RX8_246 ok_mX8_takesHead rfl (by decide) rfl (Nat.le_of_ble_eq_true rfl) (Nat.le_of_ble_eq_true rfl) (Nat.le_refl _) (Nat.le_refl _) rfl (t_M_head _ c hc K hL) ?_
  rintro _ _ ⟨rfl, g2, rfl, K2, w2, e2⟩
  rw [hnd] at K2 ⊢
  refine zx_if_eq_f (t := 15) (q := 8) dX8_takesClause_5 (by decide) rfl (zk_t rfl) ?_
  refine zx_aload_n (q := 9) dX8_takesClause_8 rfl rfl rfl ?_
  refine zx_callV0i (q := 12) (y' := mX8_takesNumber) dX8_takesClause_9 ml_RX8_230 ok_mX8_takesNumber rfl (by decide) rfl (Nat.le_of_ble_eq_true rfl) (Nat.le_of_ble_eq_true rfl) (Nat.le_refl _) (Nat.le_refl _) rfl (t_M_numS _ K2 hnm) ?_
  rintro _ _ ⟨rfl, g3, rfl, K3, d3, e3⟩
  refine zx_if_ne_t (t := 17) (q := 15) dX8_takesClause_12 (by decide) rfl (by decide) ?_
  refine zx_aload_n (q := 18) dX8_takesClause_17 rfl rfl rfl ?_
  refine zy_getR (q := 21) dX8_takesClause_18 fl_RX8_65 rfl rfl rfl rfl ?_
  refine zx_iload_n (q := 22) dX8_takesClause_21 rfl rfl rfl ?_
  refine zx_aload_n (q := 23) dX8_takesClause_22 rfl rfl rfl ?_
  refine zy_getIe (q := 26) (v := nI n) dX8_takesClause_23 fl_RX8_53 rfl rfl (d3) rfl ?_
  refine zy_iastN (q := 27) dX8_takesClause_26 rfl (by omega) (by first | decide | omega) rfl ?_
  refine zx_aload_n (q := 28) dX8_takesClause_27 rfl rfl rfl ?_
  refine zy_getR (q := 31) dX8_takesClause_28 fl_RX8_62 rfl rfl rfl rfl ?_
  refine zx_iload_n (q := 32) dX8_takesClause_31 rfl rfl rfl ?_
  refine zy_ialdN (q := 33) dX8_takesClause_32 rfl (by omega) (by first | decide | omega) rfl ?_
  rw [show zw_u g3 120 c (nI n) 119 c = nI (z_wd tx len p) from by rw [z_u_ne _ _ (by omega), e3 _ _ (by omega)]; exact w2]
  refine zx_iconst (q := 34) (v := 2) dX8_takesClause_33 (by decide) rfl ?_
  refine zx_icmp_eq_f (t := 54) (q := 37) dX8_takesClause_34 (by decide) rfl (fun z => hwn ((nI_eq (b := 2) (by have := z_wd_le tx len p; omega) (by omega)).mp z)) ?_
  refine zx_aload_n (q := 38) dX8_takesClause_37 rfl rfl rfl ?_
  refine zx_bipush (q := 40) (v := 32) dX8_takesClause_38 (by decide) rfl ?_
  refine zx_callV1i (q := 43) (y' := mX8_takes) dX8_takesClause_40 ml_RX8_215 ok_mX8_takes rfl (by decide) rfl (Nat.le_of_ble_eq_true rfl) (Nat.le_of_ble_eq_true rfl) (Nat.le_refl _) (Nat.le_refl _) rfl (t_M_takes _ (zRK_fr K3 (fun k j z => z_u_ne _ _ (by omega))) 32 (by omega)) ?_
  rintro _ _ ⟨rfl, rfl⟩
  rw [if_pos h32]
  refine zx_if_eq_f (t := 58) (q := 46) dX8_takesClause_43 (by decide) rfl (zk_t h32) ?_
  refine zx_aload_n (q := 47) dX8_takesClause_46 rfl rfl rfl ?_
  refine zx_iload_n (q := 48) dX8_takesClause_47 rfl rfl rfl ?_
  refine zx_callV1i (q := 51) (y' := mX8_takesE) dX8_takesClause_48 ml_RX8_249 ok_mX8_takesE rfl (by decide) rfl (Nat.le_of_ble_eq_true rfl) (Nat.le_of_ble_eq_true rfl) (Nat.le_refl _) (Nat.le_refl _) rfl (t_M_ES _ c hc (zRK_adv (zRK_fr K3 (fun k j z => z_u_ne _ _ (by omega))) (z_at_p h32)) (by rw [z_u_ne _ _ (by omega), z_u_ne _ _ (by omega), e3 _ _ (by omega), e2 _ _ (by omega) (by omega)]; exact hsg) hB (by omega) hB5 hder) ?_
  rintro _ _ ⟨rfl, g5, rfl, K5, s5, sg5, f5, t5, e5⟩
  refine zx_if_eq_f (t := 58) (q := 54) dX8_takesClause_51 (by decide) rfl (by decide) ?_
  refine zx_iconst (q := 55) (v := 1) dX8_takesClause_54 (by decide) rfl ?_
  refine zx_goto (t := 59) dX8_takesClause_55 (by decide) ?_
  refine zx_zret dX8_takesClause_59 rfl rfl (Nat.le_refl _) (Nat.le_refl _) ⟨_, rfl, ?_⟩
  refine ⟨rfl, g5, rfl, K5, s5, zSg_pl sg5 (fun j => ?_), ?_, ?_, fun _ => ⟨f5, t5⟩, fun k j a b d e => by rw [e5 k j a b d (by omega), z_u_ne _ _ (by omega), z_u_ne _ _ (by omega), e3 _ _ (by omega), e2 _ _ (by omega) (by omega)]⟩
  · rw [z_u_ne _ _ (by omega), z_u_ne _ _ (by omega), e3 _ _ (by omega), e2 _ _ (by omega) (by omega)]
  · rw [e5 _ _ (by omega) (by omega) (by omega) (by omega), z_u_ne _ _ (by omega), z_u_ne _ _ (by omega), e3 _ _ (by omega)]; exact w2
  · rw [e5 _ _ (by omega) (by omega) (by omega) (by omega), z_u_ne _ _ (by omega), z_u_at]
theorem t_M_clX1 (dl c : Nat) (hc : c < 60) {tx : Nat → Nat} {len p q sg B : Nat} {g : Nat → Nat → Int32} (K : zRK g tx len p) (hsg : g 108 23 = nI sg) (hB : B ≤ sg) (hsB : sg ≤ B + p) (hB5 : B ≤ 500) (hL : ∀ j, j < 10 → g 125 j = z_lts j) (hnd : z_nd tx len (z_wd tx len p) (p, false) = (q, true)) : zCall l D tc A mX8_takesClause (dl + 6) 0 0 [.ref 108, .int (nI c)] (zs g gl f) (zQi fun x S' => x = 0 ∧ ∃ g2, S' = zs g2 gl f ∧ g2 108 13 = nI q ∧ zFrT g g2 c B) := by
  show zW l D tc A mX8_takesClause (dl + 6) 0 0 0 0 0 [some (.ref 108), some (.int (nI c))] [] (zs g gl f) _
  refine zx_aload_n (q := 1) dX8_takesClause_0 rfl rfl rfl ?_
  refine zx_iload_n (q := 2) dX8_takesClause_1 rfl rfl rfl ?_
  refine zx_callV1i (q := 5) (y' := mX8_takesHead) dX8_takesClause_2 ml_RX8_246 ok_mX8_takesHead rfl (by decide) rfl (Nat.le_of_ble_eq_true rfl) (Nat.le_of_ble_eq_true rfl) (Nat.le_refl _) (Nat.le_refl _) rfl (t_M_head _ c hc K hL) ?_
  rintro _ _ ⟨rfl, g2, rfl, K2, w2, e2⟩
  rw [hnd] at K2 ⊢
  refine zx_if_eq_t (t := 15) (q := 8) dX8_takesClause_5 (by decide) rfl (rfl) ?_
  refine zx_iconst (q := 16) (v := 0) dX8_takesClause_15 (by decide) rfl ?_
  refine zx_zret dX8_takesClause_16 rfl rfl (Nat.le_refl _) (Nat.le_refl _) ⟨_, rfl, ?_⟩
  exact ⟨rfl, g2, rfl, K2.2.1, fun k j a b d e => e2 k j (by omega) (by omega)⟩
theorem t_M_clX2 (dl c : Nat) (hc : c < 60) {tx : Nat → Nat} {len p q sg B : Nat} {g : Nat → Nat → Int32} (K : zRK g tx len p) (hsg : g 108 23 = nI sg) (hB : B ≤ sg) (hsB : sg ≤ B + p) (hB5 : B ≤ 500) (hL : ∀ j, j < 10 → g 125 j = z_lts j) {p1 : Nat} (hnd : z_nd tx len (z_wd tx len p) (p, false) = (p1, false)) (hnm : z_nm tx len p1 = (q, none)) : zCall l D tc A mX8_takesClause (dl + 6) 0 0 [.ref 108, .int (nI c)] (zs g gl f) (zQi fun x S' => x = 0 ∧ ∃ g2, S' = zs g2 gl f ∧ g2 108 13 = nI q ∧ zFrT g g2 c B) := by
  show zW l D tc A mX8_takesClause (dl + 6) 0 0 0 0 0 [some (.ref 108), some (.int (nI c))] [] (zs g gl f) _
  refine zx_aload_n (q := 1) dX8_takesClause_0 rfl rfl rfl ?_
  refine zx_iload_n (q := 2) dX8_takesClause_1 rfl rfl rfl ?_
  refine zx_callV1i (q := 5) (y' := mX8_takesHead) dX8_takesClause_2 ml_RX8_246 ok_mX8_takesHead rfl (by decide) rfl (Nat.le_of_ble_eq_true rfl) (Nat.le_of_ble_eq_true rfl) (Nat.le_refl _) (Nat.le_refl _) rfl (t_M_head _ c hc K hL) ?_
  rintro _ _ ⟨rfl, g2, rfl, K2, w2, e2⟩
  rw [hnd] at K2 ⊢
  refine zx_if_eq_f (t := 15) (q := 8) dX8_takesClause_5 (by decide) rfl (zk_t rfl) ?_
  refine zx_aload_n (q := 9) dX8_takesClause_8 rfl rfl rfl ?_
  refine zx_callV0i (q := 12) (y' := mX8_takesNumber) dX8_takesClause_9 ml_RX8_230 ok_mX8_takesNumber rfl (by decide) rfl (Nat.le_of_ble_eq_true rfl) (Nat.le_of_ble_eq_true rfl) (Nat.le_refl _) (Nat.le_refl _) rfl (t_M_numX _ K2 (z_nm_no hnm).1) ?_
  rintro _ _ ⟨rfl, rfl⟩
  refine zx_if_ne_f (t := 17) (q := 15) dX8_takesClause_12 (by decide) rfl (rfl) ?_
  refine zx_iconst (q := 16) (v := 0) dX8_takesClause_15 (by decide) rfl ?_
  refine zx_zret dX8_takesClause_16 rfl rfl (Nat.le_refl _) (Nat.le_refl _) ⟨_, rfl, ?_⟩
  exact ⟨rfl, g2, rfl, by rw [(z_nm_no hnm).2]; exact K2.2.1, fun k j a b d e => e2 k j (by omega) (by omega)⟩
theorem t_M_clX3 (dl c : Nat) (hc : c < 60) {tx : Nat → Nat} {len p q sg B : Nat} {g : Nat → Nat → Int32} (K : zRK g tx len p) (hsg : g 108 23 = nI sg) (hB : B ≤ sg) (hsB : sg ≤ B + p) (hB5 : B ≤ 500) (hL : ∀ j, j < 10 → g 125 j = z_lts j) {p1 n : Nat} (hnd : z_nd tx len (z_wd tx len p) (p, false) = (p1, false)) (hnm : z_nm tx len p1 = (q, some n)) (hwn : ¬ z_wd tx len p = 2) (h32 : ¬ z_at tx len q 32 = true) : zCall l D tc A mX8_takesClause (dl + 6) 0 0 [.ref 108, .int (nI c)] (zs g gl f) (zQi fun x S' => x = 0 ∧ ∃ g2, S' = zs g2 gl f ∧ g2 108 13 = nI q ∧ zFrT g g2 c B) := by
  show zW l D tc A mX8_takesClause (dl + 6) 0 0 0 0 0 [some (.ref 108), some (.int (nI c))] [] (zs g gl f) _
  refine zx_aload_n (q := 1) dX8_takesClause_0 rfl rfl rfl ?_
  refine zx_iload_n (q := 2) dX8_takesClause_1 rfl rfl rfl ?_
  refine zx_callV1i (q := 5) (y' := mX8_takesHead) dX8_takesClause_2 ml_RX8_246 ok_mX8_takesHead rfl (by decide) rfl (Nat.le_of_ble_eq_true rfl) (Nat.le_of_ble_eq_true rfl) (Nat.le_refl _) (Nat.le_refl _) rfl (t_M_head _ c hc K hL) ?_
  rintro _ _ ⟨rfl, g2, rfl, K2, w2, e2⟩
  rw [hnd] at K2 ⊢
  refine zx_if_eq_f (t := 15) (q := 8) dX8_takesClause_5 (by decide) rfl (zk_t rfl) ?_
  refine zx_aload_n (q := 9) dX8_takesClause_8 rfl rfl rfl ?_
  refine zx_callV0i (q := 12) (y' := mX8_takesNumber) dX8_takesClause_9 ml_RX8_230 ok_mX8_takesNumber rfl (by decide) rfl (Nat.le_of_ble_eq_true rfl) (Nat.le_of_ble_eq_true rfl) (Nat.le_refl _) (Nat.le_refl _) rfl (t_M_numS _ K2 hnm) ?_
  rintro _ _ ⟨rfl, g3, rfl, K3, d3, e3⟩
  refine zx_if_ne_t (t := 17) (q := 15) dX8_takesClause_12 (by decide) rfl (by decide) ?_
  refine zx_aload_n (q := 18) dX8_takesClause_17 rfl rfl rfl ?_
  refine zy_getR (q := 21) dX8_takesClause_18 fl_RX8_65 rfl rfl rfl rfl ?_
  refine zx_iload_n (q := 22) dX8_takesClause_21 rfl rfl rfl ?_
  refine zx_aload_n (q := 23) dX8_takesClause_22 rfl rfl rfl ?_
  refine zy_getIe (q := 26) (v := nI n) dX8_takesClause_23 fl_RX8_53 rfl rfl (d3) rfl ?_
  refine zy_iastN (q := 27) dX8_takesClause_26 rfl (by omega) (by first | decide | omega) rfl ?_
  refine zx_aload_n (q := 28) dX8_takesClause_27 rfl rfl rfl ?_
  refine zy_getR (q := 31) dX8_takesClause_28 fl_RX8_62 rfl rfl rfl rfl ?_
  refine zx_iload_n (q := 32) dX8_takesClause_31 rfl rfl rfl ?_
  refine zy_ialdN (q := 33) dX8_takesClause_32 rfl (by omega) (by first | decide | omega) rfl ?_
  rw [show zw_u g3 120 c (nI n) 119 c = nI (z_wd tx len p) from by rw [z_u_ne _ _ (by omega), e3 _ _ (by omega)]; exact w2]
  refine zx_iconst (q := 34) (v := 2) dX8_takesClause_33 (by decide) rfl ?_
  refine zx_icmp_eq_f (t := 54) (q := 37) dX8_takesClause_34 (by decide) rfl (fun z => hwn ((nI_eq (b := 2) (by have := z_wd_le tx len p; omega) (by omega)).mp z)) ?_
  refine zx_aload_n (q := 38) dX8_takesClause_37 rfl rfl rfl ?_
  refine zx_bipush (q := 40) (v := 32) dX8_takesClause_38 (by decide) rfl ?_
  refine zx_callV1i (q := 43) (y' := mX8_takes) dX8_takesClause_40 ml_RX8_215 ok_mX8_takes rfl (by decide) rfl (Nat.le_of_ble_eq_true rfl) (Nat.le_of_ble_eq_true rfl) (Nat.le_refl _) (Nat.le_refl _) rfl (t_M_takes _ (zRK_fr K3 (fun k j z => z_u_ne _ _ (by omega))) 32 (by omega)) ?_
  rintro _ _ ⟨rfl, rfl⟩
  rw [if_neg h32]
  refine zx_if_eq_t (t := 58) (q := 46) dX8_takesClause_43 (by decide) rfl (zk_f h32) ?_
  refine zx_iconst (q := 59) (v := 0) dX8_takesClause_58 (by decide) rfl ?_
  refine zx_zret dX8_takesClause_59 rfl rfl (Nat.le_refl _) (Nat.le_refl _) ⟨_, rfl, ?_⟩
  exact ⟨rfl, _, rfl, by rw [z_u_ne _ _ (by omega)]; exact K3.2.1, fun k j a b d e => by show zw_u g3 120 c (nI n) k j = g k j; rw [z_u_ne _ _ (by omega), e3 _ _ (by omega), e2 _ _ (by omega) (by omega)]⟩
theorem t_M_clX4 (dl c : Nat) (hc : c < 60) {tx : Nat → Nat} {len p q sg B : Nat} {g : Nat → Nat → Int32} (K : zRK g tx len p) (hsg : g 108 23 = nI sg) (hB : B ≤ sg) (hsB : sg ≤ B + p) (hB5 : B ≤ 500) (hL : ∀ j, j < 10 → g 125 j = z_lts j) {p1 p2 n : Nat} (hnd : z_nd tx len (z_wd tx len p) (p, false) = (p1, false)) (hnm : z_nm tx len p1 = (p2, some n)) (hwn : ¬ z_wd tx len p = 2) (h32 : z_at tx len p2 32 = true) (hder : zDer tx len 1 0 (p2 + 1) q none) : zCall l D tc A mX8_takesClause (dl + 6) 0 0 [.ref 108, .int (nI c)] (zs g gl f) (zQi fun x S' => x = 0 ∧ ∃ g2, S' = zs g2 gl f ∧ g2 108 13 = nI q ∧ zFrT g g2 c B) := by
  have hnl := z_nd_le hnd K.2.2.1
  have hml := z_nm_ok hnl.2 hnm
  show zW l D tc A mX8_takesClause (dl + 6) 0 0 0 0 0 [some (.ref 108), some (.int (nI c))] [] (zs g gl f) _
  refine zx_aload_n (q := 1) dX8_takesClause_0 rfl rfl rfl ?_
  refine zx_iload_n (q := 2) dX8_takesClause_1 rfl rfl rfl ?_
  refine zx_callV1i (q := 5) (y' := mX8_takesHead) dX8_takesClause_2 ml_RX8_246 ok_mX8_takesHead rfl (by decide) rfl (Nat.le_of_ble_eq_true rfl) (Nat.le_of_ble_eq_true rfl) (Nat.le_refl _) (Nat.le_refl _) rfl (t_M_head _ c hc K hL) ?_
  rintro _ _ ⟨rfl, g2, rfl, K2, w2, e2⟩
  rw [hnd] at K2 ⊢
  refine zx_if_eq_f (t := 15) (q := 8) dX8_takesClause_5 (by decide) rfl (zk_t rfl) ?_
  refine zx_aload_n (q := 9) dX8_takesClause_8 rfl rfl rfl ?_
  refine zx_callV0i (q := 12) (y' := mX8_takesNumber) dX8_takesClause_9 ml_RX8_230 ok_mX8_takesNumber rfl (by decide) rfl (Nat.le_of_ble_eq_true rfl) (Nat.le_of_ble_eq_true rfl) (Nat.le_refl _) (Nat.le_refl _) rfl (t_M_numS _ K2 hnm) ?_
  rintro _ _ ⟨rfl, g3, rfl, K3, d3, e3⟩
  refine zx_if_ne_t (t := 17) (q := 15) dX8_takesClause_12 (by decide) rfl (by decide) ?_
  refine zx_aload_n (q := 18) dX8_takesClause_17 rfl rfl rfl ?_
  refine zy_getR (q := 21) dX8_takesClause_18 fl_RX8_65 rfl rfl rfl rfl ?_
  refine zx_iload_n (q := 22) dX8_takesClause_21 rfl rfl rfl ?_
  refine zx_aload_n (q := 23) dX8_takesClause_22 rfl rfl rfl ?_
  refine zy_getIe (q := 26) (v := nI n) dX8_takesClause_23 fl_RX8_53 rfl rfl (d3) rfl ?_
  refine zy_iastN (q := 27) dX8_takesClause_26 rfl (by omega) (by first | decide | omega) rfl ?_
  refine zx_aload_n (q := 28) dX8_takesClause_27 rfl rfl rfl ?_
  refine zy_getR (q := 31) dX8_takesClause_28 fl_RX8_62 rfl rfl rfl rfl ?_
  refine zx_iload_n (q := 32) dX8_takesClause_31 rfl rfl rfl ?_
  refine zy_ialdN (q := 33) dX8_takesClause_32 rfl (by omega) (by first | decide | omega) rfl ?_
  rw [show zw_u g3 120 c (nI n) 119 c = nI (z_wd tx len p) from by rw [z_u_ne _ _ (by omega), e3 _ _ (by omega)]; exact w2]
  refine zx_iconst (q := 34) (v := 2) dX8_takesClause_33 (by decide) rfl ?_
  refine zx_icmp_eq_f (t := 54) (q := 37) dX8_takesClause_34 (by decide) rfl (fun z => hwn ((nI_eq (b := 2) (by have := z_wd_le tx len p; omega) (by omega)).mp z)) ?_
  refine zx_aload_n (q := 38) dX8_takesClause_37 rfl rfl rfl ?_
  refine zx_bipush (q := 40) (v := 32) dX8_takesClause_38 (by decide) rfl ?_
  refine zx_callV1i (q := 43) (y' := mX8_takes) dX8_takesClause_40 ml_RX8_215 ok_mX8_takes rfl (by decide) rfl (Nat.le_of_ble_eq_true rfl) (Nat.le_of_ble_eq_true rfl) (Nat.le_refl _) (Nat.le_refl _) rfl (t_M_takes _ (zRK_fr K3 (fun k j z => z_u_ne _ _ (by omega))) 32 (by omega)) ?_
  rintro _ _ ⟨rfl, rfl⟩
  rw [if_pos h32]
  refine zx_if_eq_f (t := 58) (q := 46) dX8_takesClause_43 (by decide) rfl (zk_t h32) ?_
  refine zx_aload_n (q := 47) dX8_takesClause_46 rfl rfl rfl ?_
  refine zx_iload_n (q := 48) dX8_takesClause_47 rfl rfl rfl ?_
  refine zx_callV1i (q := 51) (y' := mX8_takesE) dX8_takesClause_48 ml_RX8_249 ok_mX8_takesE rfl (by decide) rfl (Nat.le_of_ble_eq_true rfl) (Nat.le_of_ble_eq_true rfl) (Nat.le_refl _) (Nat.le_refl _) rfl (t_M_EX _ c hc (zRK_adv (zRK_fr K3 (fun k j z => z_u_ne _ _ (by omega))) (z_at_p h32)) (by rw [z_u_ne _ _ (by omega), z_u_ne _ _ (by omega), e3 _ _ (by omega), e2 _ _ (by omega) (by omega)]; exact hsg) hB (by omega) hB5 hder) ?_
  rintro _ _ ⟨rfl, g5, rfl, a5, e5⟩
  refine zx_if_eq_t (t := 58) (q := 54) dX8_takesClause_51 (by decide) rfl (rfl) ?_
  refine zx_iconst (q := 59) (v := 0) dX8_takesClause_58 (by decide) rfl ?_
  refine zx_zret dX8_takesClause_59 rfl rfl (Nat.le_refl _) (Nat.le_refl _) ⟨_, rfl, ?_⟩
  exact ⟨rfl, g5, rfl, a5, fun k j a b d e => by rw [e5 k j a b d (by omega), z_u_ne _ _ (by omega), z_u_ne _ _ (by omega), e3 _ _ (by omega), e2 _ _ (by omega) (by omega)]⟩
theorem t_M_clS (dl c : Nat) (hc : c < 60) {tx : Nat → Nat} {len p q sg B : Nat} {g : Nat → Nat → Int32} (K : zRK g tx len p) (hsg : g 108 23 = nI sg) (hB : B ≤ sg) (hsB : sg ≤ B + p) (hB5 : B ≤ 500) (hL : ∀ j, j < 10 → g 125 j = z_lts j) {n : Nat} {cs : List Int32} (h : zClS tx len p q n cs) : zCall l D tc A mX8_takesClause (dl + 6) 0 0 [.ref 108, .int (nI c)] (zs g gl f) (zQi fun x S' => x = 1 ∧ ∃ g2, S' = zs g2 gl f ∧ zRK g2 tx len q ∧ g2 108 23 = nI (sg + cs.length) ∧ zSg g g2 sg cs ∧ g2 119 c = nI (z_wd tx len p) ∧ g2 120 c = nI n ∧ (¬ z_wd tx len p = 2 → g2 121 c = nI sg ∧ g2 122 c = nI (sg + cs.length)) ∧ zFrT g g2 c B) := by
  obtain ⟨p1, p2, h1, h2, h3⟩ := h
  rcases h3 with ⟨b1, b2, b3⟩ | ⟨b1, b2, b3⟩
  · subst b2; subst b3
    exact t_M_clS2 dl c hc K hsg hB hsB hB5 hL h1 h2 b1
  · exact t_M_clSE dl c hc K hsg hB hsB hB5 hL h1 h2 b1 b2 b3
theorem t_M_clX (dl c : Nat) (hc : c < 60) {tx : Nat → Nat} {len p q sg B : Nat} {g : Nat → Nat → Int32} (K : zRK g tx len p) (hsg : g 108 23 = nI sg) (hB : B ≤ sg) (hsB : sg ≤ B + p) (hB5 : B ≤ 500) (hL : ∀ j, j < 10 → g 125 j = z_lts j) (h : zClX tx len p q) : zCall l D tc A mX8_takesClause (dl + 6) 0 0 [.ref 108, .int (nI c)] (zs g gl f) (zQi fun x S' => x = 0 ∧ ∃ g2, S' = zs g2 gl f ∧ g2 108 13 = nI q ∧ zFrT g g2 c B) := by
  rcases h with h1 | ⟨p1, h1, h2⟩ | ⟨p1, n, h1, hw, h2 | ⟨p2, h2, h3, h4⟩⟩
  · exact t_M_clX1 dl c hc K hsg hB hsB hB5 hL h1
  · exact t_M_clX2 dl c hc K hsg hB hsB hB5 hL h1 h2
  · exact t_M_clX3 dl c hc K hsg hB hsB hB5 hL h1 h2.1 hw h2.2
  · exact t_M_clX4 dl c hc K hsg hB hsB hB5 hL h1 h2 hw h3 h4
end P58
