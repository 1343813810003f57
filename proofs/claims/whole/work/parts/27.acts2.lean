def z_gA (k : Nat) (i v x : Int32) : Int32 × List Int32 := if k = 2 ∨ k = 5 then (x * 3 + i, [30, 10]) else if k = 4 then (-(x + i), [50, 10]) else if k = 6 then ((x + i) ^^^ v, [71, 10]) else (x + i, [10])
def z_bS (k : Nat) (i v x : Int32) : Int32 × List Int32 := ((z_gA k i v x).1 - v, 11 :: (z_gA k i v x).2)
def z_hS (k : Nat) (i v x : Int32) : Int32 × List Int32 := ((z_bS k i v x).1 ^^^ 6, 20 :: (z_bS k i v x).2)
def z_sA (k : Nat) (i v x : Int32) : Int32 × List Int32 := if k = 1 then z_hS k i v x else if k = 4 then ((z_hS k i v (x + 1)).1, 51 :: (z_hS k i v (x + 1)).2) else if k = 6 then ((z_bS k i v x).1 + (2 + i), 70 :: ((z_bS k i v x).2 ++ [10])) else z_bS k i v x
def z_bT (k : Nat) (i v x : Int32) : Int32 × List Int32 := ((z_sA k i v x).1 * 2, 12 :: (z_sA k i v x).2)
def z_tA (k : Nat) (i v x : Int32) : Int32 × List Int32 := if k = 3 ∨ k = 6 then ((z_bT k i v x).1 + (z_sA k i v 1).1, 40 :: ((z_bT k i v x).2 ++ (z_sA k i v 1).2)) else if k = 5 then ((z_bT k i v (x - i)).1, 60 :: (z_bT k i v (x - i)).2) else z_bT k i v x
theorem z_rn_g (k : Nat) (hk : k < 7) (i v x : Int32) : z_rn k i v 20 0 k x = z_gA k i v x := by
  rcases (by omega : k = 0 ∨ k = 1 ∨ k = 2 ∨ k = 3 ∨ k = 4 ∨ k = 5 ∨ k = 6) with h | h | h | h | h | h | h <;> subst h <;> rfl
theorem z_rn_s (k : Nat) (hk : k < 7) (i v x : Int32) : z_rn k i v 20 1 k x = z_sA k i v x := by
  rcases (by omega : k = 0 ∨ k = 1 ∨ k = 2 ∨ k = 3 ∨ k = 4 ∨ k = 5 ∨ k = 6) with h | h | h | h | h | h | h <;> subst h <;> rfl
theorem z_rn_t (k : Nat) (hk : k < 7) (i v x : Int32) : z_rn k i v 20 2 k x = z_tA k i v x := by
  rcases (by omega : k = 0 ∨ k = 1 ∨ k = 2 ∨ k = 3 ∨ k = 4 ∨ k = 5 ∨ k = 6) with h | h | h | h | h | h | h <;> subst h <;> rfl
theorem z_gA_len (k : Nat) (i v x : Int32) : (z_gA k i v x).2.length ≤ 2 := by unfold z_gA; (repeat' split) <;> simp
theorem z_bS_len (k : Nat) (i v x : Int32) : (z_bS k i v x).2.length ≤ 3 := by have := z_gA_len k i v x; unfold z_bS; simp only [List.length_cons]; omega
theorem z_hS_len (k : Nat) (i v x : Int32) : (z_hS k i v x).2.length ≤ 4 := by have := z_bS_len k i v x; unfold z_hS; simp only [List.length_cons]; omega
theorem z_sA_len (k : Nat) (i v x : Int32) : (z_sA k i v x).2.length ≤ 5 := by
  have h1 := z_bS_len k i v x
  have h2 := z_hS_len k i v x
  have h3 := z_hS_len k i v (x + 1)
  unfold z_sA
  repeat' split
  · omega
  · simp only [List.length_cons]; omega
  · simp only [List.length_cons, List.length_append, List.length_nil]; omega
  · omega
theorem z_bT_len (k : Nat) (i v x : Int32) : (z_bT k i v x).2.length ≤ 6 := by have := z_sA_len k i v x; unfold z_bT; simp only [List.length_cons]; omega
theorem z_tA_len (k : Nat) (i v x : Int32) : (z_tA k i v x).2.length ≤ 12 := by
  have h1 := z_bT_len k i v x
  have h2 := z_sA_len k i v 1
  have h3 := z_bT_len k i v (x - i)
  unfold z_tA
  repeat' split
  · simp only [List.length_cons, List.length_append]; omega
  · simp only [List.length_cons]; omega
  · omega
theorem z_tr_val {c j b : Nat} (hb : ¬ b = c) : ∀ (l : List Int32) (g : Nat → Nat → Int32) (r k : Nat), z_tr c j b g r l b k = if r ≤ k ∧ k < r + l.length ∧ k < 20 then l.getD (k - r) 0 else g b k := by
  intro l
  induction l with
  | nil =>
    intro g r k
    rw [z_tr, if_neg (by simp only [List.length_nil]; omega)]
  | cons x l ih =>
    intro g r k
    rw [z_tr, ih]
    unfold z_t1
    rw [z_u_ne _ _ (fun z => hb z.1), List.length_cons]
    by_cases e : k = r
    · subst e
      rw [if_neg (by omega)]
      by_cases c20 : k < 20
      · rw [if_pos c20, z_u_at, if_pos (by omega), Nat.sub_self]
        rfl
      · rw [if_neg c20, if_neg (by omega)]
    · have e2 : (if r < 20 then zw_u g b r x else g) b k = g b k := by
        split
        · rw [z_u_ne _ _ (by omega)]
        · rfl
      rw [e2]
      by_cases q : r + 1 ≤ k ∧ k < r + 1 + l.length ∧ k < 20
      · rw [if_pos q, if_pos (by omega)]
        rw [show k - r = (k - (r + 1)) + 1 by omega]
        rfl
      · rw [if_neg q, if_neg (by omega)]
theorem zRel_acts {gi gi' : Nat → Nat → Int32} {gl : Nat → Nat → Int64} (h : zRel gi gl) (hN : zAC gi')
    (e : ∀ k j, ¬ (k = 63 ∨ k = 64 ∨ k = 145) → ¬ (k = 108 ∧ j = 56) → gi' k j = gi k j) : zRel gi' gl := by
  obtain ⟨nf, ⟨h0, h1, h2⟩, h3, ⟨h4, h5⟩, h6, h7, h8, h9, h10, h11⟩ := h
  refine ⟨nf, ⟨h0, ?_, ?_⟩, ?_, ⟨?_, ?_⟩, ?_, hN, ?_, ?_, ?_, ?_⟩
  · rw [e 0 6 (by omega) (by omega)]; exact h1
  · rw [e 108 10 (by omega) (by omega)]; exact h2
  · exact zST_congr h3 (fun j hj => e _ _ (by omega) (by omega)) (fun j hj => e _ _ (by omega) (by omega)) (fun k j a b => e _ _ (by omega) (by omega)) (fun k j a => e _ _ (by omega) (by omega))
  · rw [e 0 2 (by omega) (by omega), e 108 41 (by omega) (by omega)]; exact h4
  · rw [e 0 2 (by omega) (by omega)]
    exact h5.imp id (fun z => ⟨z.1, zST_congr z.2 (fun j hj => e _ _ (by omega) (by omega)) (fun j hj => e _ _ (by omega) (by omega)) (fun k j a b => e _ _ (by omega) (by omega)) (fun k j a => e _ _ (by omega) (by omega))⟩)
  · exact zTX_congr h6 (e _ _ (by omega) (by omega)) (e _ _ (by omega) (by omega)) (fun j => e _ _ (by omega) (by omega)) (fun j => e _ _ (by omega) (by omega))
  · exact zTP_congr h8 (fun k j a b => e _ _ (by omega) (by omega)) (fun j => e _ _ (by omega) (by omega)) (fun j => e _ _ (by omega) (by omega))
  · rw [e 41 0 (by omega) (by omega)]; exact h9
  · exact fun i hi => zFN_congr (h10 i hi) (fun k j a b => e _ _ (by omega) (by omega)) (fun k j a => e _ _ (by omega) (by omega))
  · exact fun k hk => by rw [e 125 k (by omega) (by omega)]; exact h11 k hk
section P27
variable {l : Launch} {D : va_G} {tc : Nat → ClassId} {A : Nat → Prop} {S : zw_S} {gi : Nat → Nat → Int32} {gl : Nat → Nat → Int64} {f : Option Nat} {Q : Option Value → zw_S → Prop}
theorem t_X8_beastGoes (d s k r : Nat) (v x : Int32) (hs : s < 5) (hk : k < 7) (hK : gi 109 s = nI k) (hV : gi 110 s = v) (hr : gi 108 56 = nI r) (hr2 : r < 1990) : zCall l D tc A mX8_beastGoes (d + 1) 0 0 [.ref 108, .int (nI s), .int x] (zs gi gl f) (zQi fun q S' => q = x + nI s ∧ S' = zs (z_tr 108 56 145 gi r [10]) gl f) := by
  show zW l D tc A mX8_beastGoes (d + 1) 0 0 0 0 0 [some (.ref 108), some (.int (nI s)), some (.int x)] [] (zs gi gl f) _
  refine zx_aload_n (q := 1) dX8_beastGoes_0 rfl rfl rfl ?_
  refine zx_bipush (q := 3) (v := 10) dX8_beastGoes_1 (by decide) rfl ?_
  refine zx_callV1v (q := 6) (y' := mX8_body) dX8_beastGoes_3 ml_RX8_345 ok_mX8_body rfl (by decide) rfl (Nat.le_of_ble_eq_true rfl) (Nat.le_of_ble_eq_true rfl) (Nat.le_refl _) (Nat.le_refl _) rfl (t_X8_body _ r _ hr (by omega)) ?_
  rintro _ ⟨rfl⟩
  refine zx_iload_n (q := 7) dX8_beastGoes_6 rfl rfl rfl ?_
  refine zx_iload_n (q := 8) dX8_beastGoes_7 rfl rfl rfl ?_
  refine zx_iadd (q := 9) dX8_beastGoes_8 rfl ?_
  refine zx_iret dX8_beastGoes_9 rfl (Nat.le_refl _) (Nat.le_refl _) ⟨_, rfl, ?_⟩
  exact ⟨rfl, rfl⟩
theorem t_X8_goesAct (d s k r : Nat) (v x : Int32) (hs : s < 5) (hk : k < 7) (hK : gi 109 s = nI k) (hV : gi 110 s = v) (hr : gi 108 56 = nI r) (hr2 : r < 1980) : zCall l D tc A mX8_goesAct (d + 2) 0 0 [.ref 108, .int (nI s), .int x] (zs gi gl f) (zQi fun q S' => q = (z_gA k (nI s) v x).1 ∧ S' = zs (z_tr 108 56 145 gi r (z_gA k (nI s) v x).2) gl f) := by
  rcases (by omega : k = 0 ∨ k = 1 ∨ k = 2 ∨ k = 3 ∨ k = 4 ∨ k = 5 ∨ k = 6) with h | h | h | h | h | h | h <;> subst h
  · show zW l D tc A mX8_goesAct (d + 2) 0 0 0 0 0 [some (.ref 108), some (.int (nI s)), some (.int x)] [] (zs gi gl f) _
    refine zx_aload_n (q := 1) dX8_goesAct_0 rfl rfl rfl ?_
    refine zy_getR (q := 4) dX8_goesAct_1 fl_RX8_16 rfl rfl rfl rfl ?_
    refine zx_iload_n (q := 5) dX8_goesAct_4 rfl rfl rfl ?_
    refine zy_ialdN (q := 6) dX8_goesAct_5 rfl (by omega) (by first | decide | omega) rfl ?_
    rw [hK]
    refine zx_tblOut (t := 89) dX8_goesAct_6 (by have z0 := lv_neT (a := 2) (show ¬ nI 0 = 2 from by decide) (by decide); have z1 := lv_neT (a := 3) (show ¬ nI 0 = 3 from by decide) (by decide); have z2 := lv_neT (a := 4) (show ¬ nI 0 = 4 from by decide) (by decide); have z3 := lv_neT (a := 5) (show ¬ nI 0 = 5 from by decide) (by decide); have z4 := lv_neT (a := 6) (show ¬ nI 0 = 6 from by decide) (by decide); omega) (by decide) ?_
    refine zx_aload_n (q := 90) dX8_goesAct_89 rfl rfl rfl ?_
    refine zx_iload_n (q := 91) dX8_goesAct_90 rfl rfl rfl ?_
    refine zx_iload_n (q := 92) dX8_goesAct_91 rfl rfl rfl ?_
    refine zx_callV2i (q := 95) (y' := mX8_beastGoes) dX8_goesAct_92 ml_RX8_348 ok_mX8_beastGoes rfl (by decide) rfl (Nat.le_of_ble_eq_true rfl) (Nat.le_of_ble_eq_true rfl) (Nat.le_refl _) (Nat.le_refl _) rfl (t_X8_beastGoes _ s 0 r v x hs hk hK hV hr (by omega)) ?_
    rintro _ _ ⟨rfl, rfl⟩
    refine zx_iret dX8_goesAct_95 rfl (Nat.le_refl _) (Nat.le_refl _) ⟨_, rfl, ?_⟩
    exact ⟨rfl, rfl⟩
  · show zW l D tc A mX8_goesAct (d + 2) 0 0 0 0 0 [some (.ref 108), some (.int (nI s)), some (.int x)] [] (zs gi gl f) _
    refine zx_aload_n (q := 1) dX8_goesAct_0 rfl rfl rfl ?_
    refine zy_getR (q := 4) dX8_goesAct_1 fl_RX8_16 rfl rfl rfl rfl ?_
    refine zx_iload_n (q := 5) dX8_goesAct_4 rfl rfl rfl ?_
    refine zy_ialdN (q := 6) dX8_goesAct_5 rfl (by omega) (by first | decide | omega) rfl ?_
    rw [hK]
    refine zx_tblOut (t := 89) dX8_goesAct_6 (by have z0 := lv_neT (a := 2) (show ¬ nI 1 = 2 from by decide) (by decide); have z1 := lv_neT (a := 3) (show ¬ nI 1 = 3 from by decide) (by decide); have z2 := lv_neT (a := 4) (show ¬ nI 1 = 4 from by decide) (by decide); have z3 := lv_neT (a := 5) (show ¬ nI 1 = 5 from by decide) (by decide); have z4 := lv_neT (a := 6) (show ¬ nI 1 = 6 from by decide) (by decide); omega) (by decide) ?_
    refine zx_aload_n (q := 90) dX8_goesAct_89 rfl rfl rfl ?_
    refine zx_iload_n (q := 91) dX8_goesAct_90 rfl rfl rfl ?_
    refine zx_iload_n (q := 92) dX8_goesAct_91 rfl rfl rfl ?_
    refine zx_callV2i (q := 95) (y' := mX8_beastGoes) dX8_goesAct_92 ml_RX8_348 ok_mX8_beastGoes rfl (by decide) rfl (Nat.le_of_ble_eq_true rfl) (Nat.le_of_ble_eq_true rfl) (Nat.le_refl _) (Nat.le_refl _) rfl (t_X8_beastGoes _ s 1 r v x hs hk hK hV hr (by omega)) ?_
    rintro _ _ ⟨rfl, rfl⟩
    refine zx_iret dX8_goesAct_95 rfl (Nat.le_refl _) (Nat.le_refl _) ⟨_, rfl, ?_⟩
    exact ⟨rfl, rfl⟩
  · show zW l D tc A mX8_goesAct (d + 2) 0 0 0 0 0 [some (.ref 108), some (.int (nI s)), some (.int x)] [] (zs gi gl f) _
    refine zx_aload_n (q := 1) dX8_goesAct_0 rfl rfl rfl ?_
    refine zy_getR (q := 4) dX8_goesAct_1 fl_RX8_16 rfl rfl rfl rfl ?_
    refine zx_iload_n (q := 5) dX8_goesAct_4 rfl rfl rfl ?_
    refine zy_ialdN (q := 6) dX8_goesAct_5 rfl (by omega) (by first | decide | omega) rfl ?_
    rw [hK]
    refine zx_tblIn (t := 40) (off := 34) dX8_goesAct_6 (by decide) (by decide) (by rfl) (by decide) ?_
    refine zx_aload_n (q := 41) dX8_goesAct_40 rfl rfl rfl ?_
    refine zx_bipush (q := 43) (v := 30) dX8_goesAct_41 (by decide) rfl ?_
    refine zx_callV1v (q := 46) (y' := mX8_body) dX8_goesAct_43 ml_RX8_345 ok_mX8_body rfl (by decide) rfl (Nat.le_of_ble_eq_true rfl) (Nat.le_of_ble_eq_true rfl) (Nat.le_refl _) (Nat.le_refl _) rfl (t_X8_body _ r _ hr (by omega)) ?_
    rintro _ ⟨rfl⟩
    refine zx_aload_n (q := 47) dX8_goesAct_46 rfl rfl rfl ?_
    refine zx_iload_n (q := 48) dX8_goesAct_47 rfl rfl rfl ?_
    refine zx_iload_n (q := 49) dX8_goesAct_48 rfl rfl rfl ?_
    refine zx_iconst (q := 50) (v := 3) dX8_goesAct_49 (by decide) rfl ?_
    refine zx_imul (q := 51) dX8_goesAct_50 rfl ?_
    refine zx_callV2i (q := 54) (y' := mX8_beastGoes) dX8_goesAct_51 ml_RX8_348 ok_mX8_beastGoes rfl (by decide) rfl (Nat.le_of_ble_eq_true rfl) (Nat.le_of_ble_eq_true rfl) (Nat.le_refl _) (Nat.le_refl _) rfl (t_X8_beastGoes _ s 2 (r + 1) v _ hs hk ((z_t1_ne (by omega) (by omega)).trans hK) ((z_t1_ne (by omega) (by omega)).trans hV) z_t1_at (by omega)) ?_
    rintro _ _ ⟨rfl, rfl⟩
    refine zx_iret dX8_goesAct_54 rfl (Nat.le_refl _) (Nat.le_refl _) ⟨_, rfl, ?_⟩
    exact ⟨rfl, rfl⟩
  · show zW l D tc A mX8_goesAct (d + 2) 0 0 0 0 0 [some (.ref 108), some (.int (nI s)), some (.int x)] [] (zs gi gl f) _
    refine zx_aload_n (q := 1) dX8_goesAct_0 rfl rfl rfl ?_
    refine zy_getR (q := 4) dX8_goesAct_1 fl_RX8_16 rfl rfl rfl rfl ?_
    refine zx_iload_n (q := 5) dX8_goesAct_4 rfl rfl rfl ?_
    refine zy_ialdN (q := 6) dX8_goesAct_5 rfl (by omega) (by first | decide | omega) rfl ?_
    rw [hK]
    refine zx_tblIn (t := 89) (off := 83) dX8_goesAct_6 (by decide) (by decide) (by rfl) (by decide) ?_
    refine zx_aload_n (q := 90) dX8_goesAct_89 rfl rfl rfl ?_
    refine zx_iload_n (q := 91) dX8_goesAct_90 rfl rfl rfl ?_
    refine zx_iload_n (q := 92) dX8_goesAct_91 rfl rfl rfl ?_
    refine zx_callV2i (q := 95) (y' := mX8_beastGoes) dX8_goesAct_92 ml_RX8_348 ok_mX8_beastGoes rfl (by decide) rfl (Nat.le_of_ble_eq_true rfl) (Nat.le_of_ble_eq_true rfl) (Nat.le_refl _) (Nat.le_refl _) rfl (t_X8_beastGoes _ s 3 r v x hs hk hK hV hr (by omega)) ?_
    rintro _ _ ⟨rfl, rfl⟩
    refine zx_iret dX8_goesAct_95 rfl (Nat.le_refl _) (Nat.le_refl _) ⟨_, rfl, ?_⟩
    exact ⟨rfl, rfl⟩
  · show zW l D tc A mX8_goesAct (d + 2) 0 0 0 0 0 [some (.ref 108), some (.int (nI s)), some (.int x)] [] (zs gi gl f) _
    refine zx_aload_n (q := 1) dX8_goesAct_0 rfl rfl rfl ?_
    refine zy_getR (q := 4) dX8_goesAct_1 fl_RX8_16 rfl rfl rfl rfl ?_
    refine zx_iload_n (q := 5) dX8_goesAct_4 rfl rfl rfl ?_
    refine zy_ialdN (q := 6) dX8_goesAct_5 rfl (by omega) (by first | decide | omega) rfl ?_
    rw [hK]
    refine zx_tblIn (t := 55) (off := 49) dX8_goesAct_6 (by decide) (by decide) (by rfl) (by decide) ?_
    refine zx_aload_n (q := 56) dX8_goesAct_55 rfl rfl rfl ?_
    refine zx_bipush (q := 58) (v := 50) dX8_goesAct_56 (by decide) rfl ?_
    refine zx_callV1v (q := 61) (y' := mX8_body) dX8_goesAct_58 ml_RX8_345 ok_mX8_body rfl (by decide) rfl (Nat.le_of_ble_eq_true rfl) (Nat.le_of_ble_eq_true rfl) (Nat.le_refl _) (Nat.le_refl _) rfl (t_X8_body _ r _ hr (by omega)) ?_
    rintro _ ⟨rfl⟩
    refine zx_aload_n (q := 62) dX8_goesAct_61 rfl rfl rfl ?_
    refine zx_iload_n (q := 63) dX8_goesAct_62 rfl rfl rfl ?_
    refine zx_iload_n (q := 64) dX8_goesAct_63 rfl rfl rfl ?_
    refine zx_callV2i (q := 67) (y' := mX8_beastGoes) dX8_goesAct_64 ml_RX8_348 ok_mX8_beastGoes rfl (by decide) rfl (Nat.le_of_ble_eq_true rfl) (Nat.le_of_ble_eq_true rfl) (Nat.le_refl _) (Nat.le_refl _) rfl (t_X8_beastGoes _ s 4 (r + 1) v _ hs hk ((z_t1_ne (by omega) (by omega)).trans hK) ((z_t1_ne (by omega) (by omega)).trans hV) z_t1_at (by omega)) ?_
    rintro _ _ ⟨rfl, rfl⟩
    refine zx_ineg (q := 68) dX8_goesAct_67 rfl ?_
    refine zx_iret dX8_goesAct_68 rfl (Nat.le_refl _) (Nat.le_refl _) ⟨_, rfl, ?_⟩
    exact ⟨rfl, rfl⟩
  · show zW l D tc A mX8_goesAct (d + 2) 0 0 0 0 0 [some (.ref 108), some (.int (nI s)), some (.int x)] [] (zs gi gl f) _
    refine zx_aload_n (q := 1) dX8_goesAct_0 rfl rfl rfl ?_
    refine zy_getR (q := 4) dX8_goesAct_1 fl_RX8_16 rfl rfl rfl rfl ?_
    refine zx_iload_n (q := 5) dX8_goesAct_4 rfl rfl rfl ?_
    refine zy_ialdN (q := 6) dX8_goesAct_5 rfl (by omega) (by first | decide | omega) rfl ?_
    rw [hK]
    refine zx_tblIn (t := 40) (off := 34) dX8_goesAct_6 (by decide) (by decide) (by rfl) (by decide) ?_
    refine zx_aload_n (q := 41) dX8_goesAct_40 rfl rfl rfl ?_
    refine zx_bipush (q := 43) (v := 30) dX8_goesAct_41 (by decide) rfl ?_
    refine zx_callV1v (q := 46) (y' := mX8_body) dX8_goesAct_43 ml_RX8_345 ok_mX8_body rfl (by decide) rfl (Nat.le_of_ble_eq_true rfl) (Nat.le_of_ble_eq_true rfl) (Nat.le_refl _) (Nat.le_refl _) rfl (t_X8_body _ r _ hr (by omega)) ?_
    rintro _ ⟨rfl⟩
    refine zx_aload_n (q := 47) dX8_goesAct_46 rfl rfl rfl ?_
    refine zx_iload_n (q := 48) dX8_goesAct_47 rfl rfl rfl ?_
    refine zx_iload_n (q := 49) dX8_goesAct_48 rfl rfl rfl ?_
    refine zx_iconst (q := 50) (v := 3) dX8_goesAct_49 (by decide) rfl ?_
    refine zx_imul (q := 51) dX8_goesAct_50 rfl ?_
    refine zx_callV2i (q := 54) (y' := mX8_beastGoes) dX8_goesAct_51 ml_RX8_348 ok_mX8_beastGoes rfl (by decide) rfl (Nat.le_of_ble_eq_true rfl) (Nat.le_of_ble_eq_true rfl) (Nat.le_refl _) (Nat.le_refl _) rfl (t_X8_beastGoes _ s 5 (r + 1) v _ hs hk ((z_t1_ne (by omega) (by omega)).trans hK) ((z_t1_ne (by omega) (by omega)).trans hV) z_t1_at (by omega)) ?_
    rintro _ _ ⟨rfl, rfl⟩
    refine zx_iret dX8_goesAct_54 rfl (Nat.le_refl _) (Nat.le_refl _) ⟨_, rfl, ?_⟩
    exact ⟨rfl, rfl⟩
  · show zW l D tc A mX8_goesAct (d + 2) 0 0 0 0 0 [some (.ref 108), some (.int (nI s)), some (.int x)] [] (zs gi gl f) _
    refine zx_aload_n (q := 1) dX8_goesAct_0 rfl rfl rfl ?_
    refine zy_getR (q := 4) dX8_goesAct_1 fl_RX8_16 rfl rfl rfl rfl ?_
    refine zx_iload_n (q := 5) dX8_goesAct_4 rfl rfl rfl ?_
    refine zy_ialdN (q := 6) dX8_goesAct_5 rfl (by omega) (by first | decide | omega) rfl ?_
    rw [hK]
    refine zx_tblIn (t := 69) (off := 63) dX8_goesAct_6 (by decide) (by decide) (by rfl) (by decide) ?_
    refine zx_aload_n (q := 70) dX8_goesAct_69 rfl rfl rfl ?_
    refine zx_bipush (q := 72) (v := 71) dX8_goesAct_70 (by decide) rfl ?_
    refine zx_callV1v (q := 75) (y' := mX8_body) dX8_goesAct_72 ml_RX8_345 ok_mX8_body rfl (by decide) rfl (Nat.le_of_ble_eq_true rfl) (Nat.le_of_ble_eq_true rfl) (Nat.le_refl _) (Nat.le_refl _) rfl (t_X8_body _ r _ hr (by omega)) ?_
    rintro _ ⟨rfl⟩
    refine zx_aload_n (q := 76) dX8_goesAct_75 rfl rfl rfl ?_
    refine zx_iload_n (q := 77) dX8_goesAct_76 rfl rfl rfl ?_
    refine zx_iload_n (q := 78) dX8_goesAct_77 rfl rfl rfl ?_
    refine zx_callV2i (q := 81) (y' := mX8_beastGoes) dX8_goesAct_78 ml_RX8_348 ok_mX8_beastGoes rfl (by decide) rfl (Nat.le_of_ble_eq_true rfl) (Nat.le_of_ble_eq_true rfl) (Nat.le_refl _) (Nat.le_refl _) rfl (t_X8_beastGoes _ s 6 (r + 1) v _ hs hk ((z_t1_ne (by omega) (by omega)).trans hK) ((z_t1_ne (by omega) (by omega)).trans hV) z_t1_at (by omega)) ?_
    rintro _ _ ⟨rfl, rfl⟩
    refine zx_aload_n (q := 82) dX8_goesAct_81 rfl rfl rfl ?_
    refine zy_getR (q := 85) dX8_goesAct_82 fl_RX8_20 rfl rfl rfl rfl ?_
    refine zx_iload_n (q := 86) dX8_goesAct_85 rfl rfl rfl ?_
    refine zy_ialdN (q := 87) dX8_goesAct_86 rfl (by omega) (by first | decide | omega) rfl ?_
    rw [z_tr_ne (by omega) (by omega), z_t1_ne (by omega) (by omega), hV]
    refine zx_ixor (q := 88) dX8_goesAct_87 rfl ?_
    refine zx_iret dX8_goesAct_88 rfl (Nat.le_refl _) (Nat.le_refl _) ⟨_, rfl, ?_⟩
    exact ⟨rfl, rfl⟩
theorem t_X8_beastShows (d s k r : Nat) (v x : Int32) (hs : s < 5) (hk : k < 7) (hK : gi 109 s = nI k) (hV : gi 110 s = v) (hr : gi 108 56 = nI r) (hr2 : r < 1970) : zCall l D tc A mX8_beastShows (d + 3) 0 0 [.ref 108, .int (nI s), .int x] (zs gi gl f) (zQi fun q S' => q = (z_bS k (nI s) v x).1 ∧ S' = zs (z_tr 108 56 145 gi r (z_bS k (nI s) v x).2) gl f) := by
  show zW l D tc A mX8_beastShows (d + 3) 0 0 0 0 0 [some (.ref 108), some (.int (nI s)), some (.int x)] [] (zs gi gl f) _
  refine zx_aload_n (q := 1) dX8_beastShows_0 rfl rfl rfl ?_
  refine zx_bipush (q := 3) (v := 11) dX8_beastShows_1 (by decide) rfl ?_
  refine zx_callV1v (q := 6) (y' := mX8_body) dX8_beastShows_3 ml_RX8_345 ok_mX8_body rfl (by decide) rfl (Nat.le_of_ble_eq_true rfl) (Nat.le_of_ble_eq_true rfl) (Nat.le_refl _) (Nat.le_refl _) rfl (t_X8_body _ r _ hr (by omega)) ?_
  rintro _ ⟨rfl⟩
  refine zx_aload_n (q := 7) dX8_beastShows_6 rfl rfl rfl ?_
  refine zx_iload_n (q := 8) dX8_beastShows_7 rfl rfl rfl ?_
  refine zx_iload_n (q := 9) dX8_beastShows_8 rfl rfl rfl ?_
  refine zx_callV2i (q := 12) (y' := mX8_goesAct) dX8_beastShows_9 ml_RX8_351 ok_mX8_goesAct rfl (by decide) rfl (Nat.le_of_ble_eq_true rfl) (Nat.le_of_ble_eq_true rfl) (Nat.le_refl _) (Nat.le_refl _) rfl (t_X8_goesAct _ s k (r + 1) v x hs hk ((z_t1_ne (by omega) (by omega)).trans hK) ((z_t1_ne (by omega) (by omega)).trans hV) z_t1_at (by omega)) ?_
  rintro _ _ ⟨rfl, rfl⟩
  refine zx_aload_n (q := 13) dX8_beastShows_12 rfl rfl rfl ?_
  refine zy_getR (q := 16) dX8_beastShows_13 fl_RX8_20 rfl rfl rfl rfl ?_
  refine zx_iload_n (q := 17) dX8_beastShows_16 rfl rfl rfl ?_
  refine zy_ialdN (q := 18) dX8_beastShows_17 rfl (by omega) (by first | decide | omega) rfl ?_
  rw [z_tr_ne (by omega) (by omega), z_t1_ne (by omega) (by omega), hV]
  refine zx_isub (q := 19) dX8_beastShows_18 rfl ?_
  refine zx_iret dX8_beastShows_19 rfl (Nat.le_refl _) (Nat.le_refl _) ⟨_, rfl, ?_⟩
  exact ⟨rfl, rfl⟩
theorem t_X8_hornedShows (d s k r : Nat) (v x : Int32) (hs : s < 5) (hk : k < 7) (hK : gi 109 s = nI k) (hV : gi 110 s = v) (hr : gi 108 56 = nI r) (hr2 : r < 1960) : zCall l D tc A mX8_hornedShows (d + 4) 0 0 [.ref 108, .int (nI s), .int x] (zs gi gl f) (zQi fun q S' => q = (z_hS k (nI s) v x).1 ∧ S' = zs (z_tr 108 56 145 gi r (z_hS k (nI s) v x).2) gl f) := by
  show zW l D tc A mX8_hornedShows (d + 4) 0 0 0 0 0 [some (.ref 108), some (.int (nI s)), some (.int x)] [] (zs gi gl f) _
  refine zx_aload_n (q := 1) dX8_hornedShows_0 rfl rfl rfl ?_
  refine zx_bipush (q := 3) (v := 20) dX8_hornedShows_1 (by decide) rfl ?_
  refine zx_callV1v (q := 6) (y' := mX8_body) dX8_hornedShows_3 ml_RX8_345 ok_mX8_body rfl (by decide) rfl (Nat.le_of_ble_eq_true rfl) (Nat.le_of_ble_eq_true rfl) (Nat.le_refl _) (Nat.le_refl _) rfl (t_X8_body _ r _ hr (by omega)) ?_
  rintro _ ⟨rfl⟩
  refine zx_aload_n (q := 7) dX8_hornedShows_6 rfl rfl rfl ?_
  refine zx_iload_n (q := 8) dX8_hornedShows_7 rfl rfl rfl ?_
  refine zx_iload_n (q := 9) dX8_hornedShows_8 rfl rfl rfl ?_
  refine zx_callV2i (q := 12) (y' := mX8_beastShows) dX8_hornedShows_9 ml_RX8_354 ok_mX8_beastShows rfl (by decide) rfl (Nat.le_of_ble_eq_true rfl) (Nat.le_of_ble_eq_true rfl) (Nat.le_refl _) (Nat.le_refl _) rfl (t_X8_beastShows _ s k (r + 1) v x hs hk ((z_t1_ne (by omega) (by omega)).trans hK) ((z_t1_ne (by omega) (by omega)).trans hV) z_t1_at (by omega)) ?_
  rintro _ _ ⟨rfl, rfl⟩
  refine zx_bipush (q := 14) (v := 6) dX8_hornedShows_12 (by decide) rfl ?_
  refine zx_ixor (q := 15) dX8_hornedShows_14 rfl ?_
  refine zx_iret dX8_hornedShows_15 rfl (Nat.le_refl _) (Nat.le_refl _) ⟨_, rfl, ?_⟩
  exact ⟨rfl, rfl⟩
theorem t_X8_showsAct (d s k r : Nat) (v x : Int32) (hs : s < 5) (hk : k < 7) (hK : gi 109 s = nI k) (hV : gi 110 s = v) (hr : gi 108 56 = nI r) (hr2 : r < 1940) : zCall l D tc A mX8_showsAct (d + 5) 0 0 [.ref 108, .int (nI s), .int x] (zs gi gl f) (zQi fun q S' => q = (z_sA k (nI s) v x).1 ∧ S' = zs (z_tr 108 56 145 gi r (z_sA k (nI s) v x).2) gl f) := by
  rcases (by omega : k = 0 ∨ k = 1 ∨ k = 2 ∨ k = 3 ∨ k = 4 ∨ k = 5 ∨ k = 6) with h | h | h | h | h | h | h <;> subst h
  · show zW l D tc A mX8_showsAct (d + 5) 0 0 0 0 0 [some (.ref 108), some (.int (nI s)), some (.int x), none] [] (zs gi gl f) _
    refine zx_aload_n (q := 1) dX8_showsAct_0 rfl rfl rfl ?_
    refine zy_getR (q := 4) dX8_showsAct_1 fl_RX8_16 rfl rfl rfl rfl ?_
    refine zx_iload_n (q := 5) dX8_showsAct_4 rfl rfl rfl ?_
    refine zy_ialdN (q := 6) dX8_showsAct_5 rfl (by omega) (by first | decide | omega) rfl ?_
    rw [hK]
    refine zx_lookup (t := 84) (off := 78) dX8_showsAct_6 (by decide) (by show Op.lookupswitch.offset _ _ _ = _; rw [lv_osw (show ¬ nI 0 = 1 from by decide) (by decide)]; rw [lv_osw (show ¬ nI 0 = 4 from by decide) (by decide)]; rw [lv_osw (show ¬ nI 0 = 6 from by decide) (by decide)]; rfl) (by decide) ?_
    refine zx_aload_n (q := 85) dX8_showsAct_84 rfl rfl rfl ?_
    refine zx_iload_n (q := 86) dX8_showsAct_85 rfl rfl rfl ?_
    refine zx_iload_n (q := 87) dX8_showsAct_86 rfl rfl rfl ?_
    refine zx_callV2i (q := 90) (y' := mX8_beastShows) dX8_showsAct_87 ml_RX8_354 ok_mX8_beastShows rfl (by decide) rfl (Nat.le_of_ble_eq_true rfl) (Nat.le_of_ble_eq_true rfl) (Nat.le_refl _) (Nat.le_refl _) rfl (t_X8_beastShows _ s 0 r v x hs hk hK hV hr (by omega)) ?_
    rintro _ _ ⟨rfl, rfl⟩
    refine zx_iret dX8_showsAct_90 rfl (Nat.le_refl _) (Nat.le_refl _) ⟨_, rfl, ?_⟩
    exact ⟨rfl, rfl⟩
  · show zW l D tc A mX8_showsAct (d + 5) 0 0 0 0 0 [some (.ref 108), some (.int (nI s)), some (.int x), none] [] (zs gi gl f) _
    refine zx_aload_n (q := 1) dX8_showsAct_0 rfl rfl rfl ?_
    refine zy_getR (q := 4) dX8_showsAct_1 fl_RX8_16 rfl rfl rfl rfl ?_
    refine zx_iload_n (q := 5) dX8_showsAct_4 rfl rfl rfl ?_
    refine zy_ialdN (q := 6) dX8_showsAct_5 rfl (by omega) (by first | decide | omega) rfl ?_
    rw [hK]
    refine zx_lookup (t := 40) (off := 34) dX8_showsAct_6 (by decide) (by decide) (by decide) ?_
    refine zx_aload_n (q := 41) dX8_showsAct_40 rfl rfl rfl ?_
    refine zx_iload_n (q := 42) dX8_showsAct_41 rfl rfl rfl ?_
    refine zx_iload_n (q := 43) dX8_showsAct_42 rfl rfl rfl ?_
    refine zx_callV2i (q := 46) (y' := mX8_hornedShows) dX8_showsAct_43 ml_RX8_357 ok_mX8_hornedShows rfl (by decide) rfl (Nat.le_of_ble_eq_true rfl) (Nat.le_of_ble_eq_true rfl) (Nat.le_refl _) (Nat.le_refl _) rfl (t_X8_hornedShows _ s 1 r v x hs hk hK hV hr (by omega)) ?_
    rintro _ _ ⟨rfl, rfl⟩
    refine zx_iret dX8_showsAct_46 rfl (Nat.le_refl _) (Nat.le_refl _) ⟨_, rfl, ?_⟩
    exact ⟨rfl, rfl⟩
  · show zW l D tc A mX8_showsAct (d + 5) 0 0 0 0 0 [some (.ref 108), some (.int (nI s)), some (.int x), none] [] (zs gi gl f) _
    refine zx_aload_n (q := 1) dX8_showsAct_0 rfl rfl rfl ?_
    refine zy_getR (q := 4) dX8_showsAct_1 fl_RX8_16 rfl rfl rfl rfl ?_
    refine zx_iload_n (q := 5) dX8_showsAct_4 rfl rfl rfl ?_
    refine zy_ialdN (q := 6) dX8_showsAct_5 rfl (by omega) (by first | decide | omega) rfl ?_
    rw [hK]
    refine zx_lookup (t := 84) (off := 78) dX8_showsAct_6 (by decide) (by show Op.lookupswitch.offset _ _ _ = _; rw [lv_osw (show ¬ nI 2 = 1 from by decide) (by decide)]; rw [lv_osw (show ¬ nI 2 = 4 from by decide) (by decide)]; rw [lv_osw (show ¬ nI 2 = 6 from by decide) (by decide)]; rfl) (by decide) ?_
    refine zx_aload_n (q := 85) dX8_showsAct_84 rfl rfl rfl ?_
    refine zx_iload_n (q := 86) dX8_showsAct_85 rfl rfl rfl ?_
    refine zx_iload_n (q := 87) dX8_showsAct_86 rfl rfl rfl ?_
    refine zx_callV2i (q := 90) (y' := mX8_beastShows) dX8_showsAct_87 ml_RX8_354 ok_mX8_beastShows rfl (by decide) rfl (Nat.le_of_ble_eq_true rfl) (Nat.le_of_ble_eq_true rfl) (Nat.le_refl _) (Nat.le_refl _) rfl (t_X8_beastShows _ s 2 r v x hs hk hK hV hr (by omega)) ?_
    rintro _ _ ⟨rfl, rfl⟩
    refine zx_iret dX8_showsAct_90 rfl (Nat.le_refl _) (Nat.le_refl _) ⟨_, rfl, ?_⟩
    exact ⟨rfl, rfl⟩
  · show zW l D tc A mX8_showsAct (d + 5) 0 0 0 0 0 [some (.ref 108), some (.int (nI s)), some (.int x), none] [] (zs gi gl f) _
    refine zx_aload_n (q := 1) dX8_showsAct_0 rfl rfl rfl ?_
    refine zy_getR (q := 4) dX8_showsAct_1 fl_RX8_16 rfl rfl rfl rfl ?_
    refine zx_iload_n (q := 5) dX8_showsAct_4 rfl rfl rfl ?_
    refine zy_ialdN (q := 6) dX8_showsAct_5 rfl (by omega) (by first | decide | omega) rfl ?_
    rw [hK]
    refine zx_lookup (t := 84) (off := 78) dX8_showsAct_6 (by decide) (by show Op.lookupswitch.offset _ _ _ = _; rw [lv_osw (show ¬ nI 3 = 1 from by decide) (by decide)]; rw [lv_osw (show ¬ nI 3 = 4 from by decide) (by decide)]; rw [lv_osw (show ¬ nI 3 = 6 from by decide) (by decide)]; rfl) (by decide) ?_
    refine zx_aload_n (q := 85) dX8_showsAct_84 rfl rfl rfl ?_
    refine zx_iload_n (q := 86) dX8_showsAct_85 rfl rfl rfl ?_
    refine zx_iload_n (q := 87) dX8_showsAct_86 rfl rfl rfl ?_
    refine zx_callV2i (q := 90) (y' := mX8_beastShows) dX8_showsAct_87 ml_RX8_354 ok_mX8_beastShows rfl (by decide) rfl (Nat.le_of_ble_eq_true rfl) (Nat.le_of_ble_eq_true rfl) (Nat.le_refl _) (Nat.le_refl _) rfl (t_X8_beastShows _ s 3 r v x hs hk hK hV hr (by omega)) ?_
    rintro _ _ ⟨rfl, rfl⟩
    refine zx_iret dX8_showsAct_90 rfl (Nat.le_refl _) (Nat.le_refl _) ⟨_, rfl, ?_⟩
    exact ⟨rfl, rfl⟩
  · show zW l D tc A mX8_showsAct (d + 5) 0 0 0 0 0 [some (.ref 108), some (.int (nI s)), some (.int x), none] [] (zs gi gl f) _
    refine zx_aload_n (q := 1) dX8_showsAct_0 rfl rfl rfl ?_
    refine zy_getR (q := 4) dX8_showsAct_1 fl_RX8_16 rfl rfl rfl rfl ?_
    refine zx_iload_n (q := 5) dX8_showsAct_4 rfl rfl rfl ?_
    refine zy_ialdN (q := 6) dX8_showsAct_5 rfl (by omega) (by first | decide | omega) rfl ?_
    rw [hK]
    refine zx_lookup (t := 47) (off := 41) dX8_showsAct_6 (by decide) (by decide) (by decide) ?_
    refine zx_aload_n (q := 48) dX8_showsAct_47 rfl rfl rfl ?_
    refine zx_bipush (q := 50) (v := 51) dX8_showsAct_48 (by decide) rfl ?_
    refine zx_callV1v (q := 53) (y' := mX8_body) dX8_showsAct_50 ml_RX8_345 ok_mX8_body rfl (by decide) rfl (Nat.le_of_ble_eq_true rfl) (Nat.le_of_ble_eq_true rfl) (Nat.le_refl _) (Nat.le_refl _) rfl (t_X8_body _ r _ hr (by omega)) ?_
    rintro _ ⟨rfl⟩
    refine zx_aload_n (q := 54) dX8_showsAct_53 rfl rfl rfl ?_
    refine zx_iload_n (q := 55) dX8_showsAct_54 rfl rfl rfl ?_
    refine zx_iload_n (q := 56) dX8_showsAct_55 rfl rfl rfl ?_
    refine zx_iconst (q := 57) (v := 1) dX8_showsAct_56 (by decide) rfl ?_
    refine zx_iadd (q := 58) dX8_showsAct_57 rfl ?_
    refine zx_callV2i (q := 61) (y' := mX8_hornedShows) dX8_showsAct_58 ml_RX8_357 ok_mX8_hornedShows rfl (by decide) rfl (Nat.le_of_ble_eq_true rfl) (Nat.le_of_ble_eq_true rfl) (Nat.le_refl _) (Nat.le_refl _) rfl (t_X8_hornedShows _ s 4 (r + 1) v _ hs hk ((z_t1_ne (by omega) (by omega)).trans hK) ((z_t1_ne (by omega) (by omega)).trans hV) z_t1_at (by omega)) ?_
    rintro _ _ ⟨rfl, rfl⟩
    refine zx_iret dX8_showsAct_61 rfl (Nat.le_refl _) (Nat.le_refl _) ⟨_, rfl, ?_⟩
    exact ⟨rfl, rfl⟩
  · show zW l D tc A mX8_showsAct (d + 5) 0 0 0 0 0 [some (.ref 108), some (.int (nI s)), some (.int x), none] [] (zs gi gl f) _
    refine zx_aload_n (q := 1) dX8_showsAct_0 rfl rfl rfl ?_
    refine zy_getR (q := 4) dX8_showsAct_1 fl_RX8_16 rfl rfl rfl rfl ?_
    refine zx_iload_n (q := 5) dX8_showsAct_4 rfl rfl rfl ?_
    refine zy_ialdN (q := 6) dX8_showsAct_5 rfl (by omega) (by first | decide | omega) rfl ?_
    rw [hK]
    refine zx_lookup (t := 84) (off := 78) dX8_showsAct_6 (by decide) (by show Op.lookupswitch.offset _ _ _ = _; rw [lv_osw (show ¬ nI 5 = 1 from by decide) (by decide)]; rw [lv_osw (show ¬ nI 5 = 4 from by decide) (by decide)]; rw [lv_osw (show ¬ nI 5 = 6 from by decide) (by decide)]; rfl) (by decide) ?_
    refine zx_aload_n (q := 85) dX8_showsAct_84 rfl rfl rfl ?_
    refine zx_iload_n (q := 86) dX8_showsAct_85 rfl rfl rfl ?_
    refine zx_iload_n (q := 87) dX8_showsAct_86 rfl rfl rfl ?_
    refine zx_callV2i (q := 90) (y' := mX8_beastShows) dX8_showsAct_87 ml_RX8_354 ok_mX8_beastShows rfl (by decide) rfl (Nat.le_of_ble_eq_true rfl) (Nat.le_of_ble_eq_true rfl) (Nat.le_refl _) (Nat.le_refl _) rfl (t_X8_beastShows _ s 5 r v x hs hk hK hV hr (by omega)) ?_
    rintro _ _ ⟨rfl, rfl⟩
    refine zx_iret dX8_showsAct_90 rfl (Nat.le_refl _) (Nat.le_refl _) ⟨_, rfl, ?_⟩
    exact ⟨rfl, rfl⟩
  · show zW l D tc A mX8_showsAct (d + 5) 0 0 0 0 0 [some (.ref 108), some (.int (nI s)), some (.int x), none] [] (zs gi gl f) _
    refine zx_aload_n (q := 1) dX8_showsAct_0 rfl rfl rfl ?_
    refine zy_getR (q := 4) dX8_showsAct_1 fl_RX8_16 rfl rfl rfl rfl ?_
    refine zx_iload_n (q := 5) dX8_showsAct_4 rfl rfl rfl ?_
    refine zy_ialdN (q := 6) dX8_showsAct_5 rfl (by omega) (by first | decide | omega) rfl ?_
    rw [hK]
    refine zx_lookup (t := 62) (off := 56) dX8_showsAct_6 (by decide) (by decide) (by decide) ?_
    refine zx_aload_n (q := 63) dX8_showsAct_62 rfl rfl rfl ?_
    refine zx_bipush (q := 65) (v := 70) dX8_showsAct_63 (by decide) rfl ?_
    refine zx_callV1v (q := 68) (y' := mX8_body) dX8_showsAct_65 ml_RX8_345 ok_mX8_body rfl (by decide) rfl (Nat.le_of_ble_eq_true rfl) (Nat.le_of_ble_eq_true rfl) (Nat.le_refl _) (Nat.le_refl _) rfl (t_X8_body _ r _ hr (by omega)) ?_
    rintro _ ⟨rfl⟩
    refine zx_aload_n (q := 69) dX8_showsAct_68 rfl rfl rfl ?_
    refine zx_iload_n (q := 70) dX8_showsAct_69 rfl rfl rfl ?_
    refine zx_iload_n (q := 71) dX8_showsAct_70 rfl rfl rfl ?_
    refine zx_callV2i (q := 74) (y' := mX8_beastShows) dX8_showsAct_71 ml_RX8_354 ok_mX8_beastShows rfl (by decide) rfl (Nat.le_of_ble_eq_true rfl) (Nat.le_of_ble_eq_true rfl) (Nat.le_refl _) (Nat.le_refl _) rfl (t_X8_beastShows _ s 6 (r + 1) v x hs hk ((z_t1_ne (by omega) (by omega)).trans hK) ((z_t1_ne (by omega) (by omega)).trans hV) z_t1_at (by omega)) ?_
    rintro _ _ ⟨rfl, rfl⟩
    refine zx_istore3 (q := 75) dX8_showsAct_74 rfl rfl ?_
    refine zx_iload_n (q := 76) dX8_showsAct_75 rfl rfl rfl ?_
    refine zx_aload_n (q := 77) dX8_showsAct_76 rfl rfl rfl ?_
    refine zx_iload_n (q := 78) dX8_showsAct_77 rfl rfl rfl ?_
    refine zx_iconst (q := 79) (v := 2) dX8_showsAct_78 (by decide) rfl ?_
    refine zx_callV2i (q := 82) (y' := mX8_beastGoes) dX8_showsAct_79 ml_RX8_348 ok_mX8_beastGoes rfl (by decide) rfl (Nat.le_of_ble_eq_true rfl) (Nat.le_of_ble_eq_true rfl) (Nat.le_refl _) (Nat.le_refl _) rfl (t_X8_beastGoes _ s 6 (r + 1 + (z_bS 6 (nI s) v x).2.length) v 2 hs hk ((z_tr_ne (by omega) (by omega) _ _ _).trans ((z_t1_ne (by omega) (by omega)).trans hK)) ((z_tr_ne (by omega) (by omega) _ _ _).trans ((z_t1_ne (by omega) (by omega)).trans hV)) (z_tr_at _ _ _ z_t1_at) (by have := z_bS_len 6 (nI s) v x; omega)) ?_
    rintro _ _ ⟨rfl, rfl⟩
    refine zx_iadd (q := 83) dX8_showsAct_82 rfl ?_
    refine zx_iret dX8_showsAct_83 rfl (Nat.le_refl _) (Nat.le_refl _) ⟨_, rfl, ?_⟩
    refine ⟨rfl, ?_⟩
    exact congrArg (fun g => zs g gl f) (z_tr_app (z_bS 6 (nI s) v x).2 [10] _ (r + 1)).symm
theorem t_X8_beastTells (d s k r : Nat) (v x : Int32) (hs : s < 5) (hk : k < 7) (hK : gi 109 s = nI k) (hV : gi 110 s = v) (hr : gi 108 56 = nI r) (hr2 : r < 1930) : zCall l D tc A mX8_beastTells (d + 6) 0 0 [.ref 108, .int (nI s), .int x] (zs gi gl f) (zQi fun q S' => q = (z_bT k (nI s) v x).1 ∧ S' = zs (z_tr 108 56 145 gi r (z_bT k (nI s) v x).2) gl f) := by
  show zW l D tc A mX8_beastTells (d + 6) 0 0 0 0 0 [some (.ref 108), some (.int (nI s)), some (.int x)] [] (zs gi gl f) _
  refine zx_aload_n (q := 1) dX8_beastTells_0 rfl rfl rfl ?_
  refine zx_bipush (q := 3) (v := 12) dX8_beastTells_1 (by decide) rfl ?_
  refine zx_callV1v (q := 6) (y' := mX8_body) dX8_beastTells_3 ml_RX8_345 ok_mX8_body rfl (by decide) rfl (Nat.le_of_ble_eq_true rfl) (Nat.le_of_ble_eq_true rfl) (Nat.le_refl _) (Nat.le_refl _) rfl (t_X8_body _ r _ hr (by omega)) ?_
  rintro _ ⟨rfl⟩
  refine zx_aload_n (q := 7) dX8_beastTells_6 rfl rfl rfl ?_
  refine zx_iload_n (q := 8) dX8_beastTells_7 rfl rfl rfl ?_
  refine zx_iload_n (q := 9) dX8_beastTells_8 rfl rfl rfl ?_
  refine zx_callV2i (q := 12) (y' := mX8_showsAct) dX8_beastTells_9 ml_RX8_360 ok_mX8_showsAct rfl (by decide) rfl (Nat.le_of_ble_eq_true rfl) (Nat.le_of_ble_eq_true rfl) (Nat.le_refl _) (Nat.le_refl _) rfl (t_X8_showsAct _ s k (r + 1) v x hs hk ((z_t1_ne (by omega) (by omega)).trans hK) ((z_t1_ne (by omega) (by omega)).trans hV) z_t1_at (by omega)) ?_
  rintro _ _ ⟨rfl, rfl⟩
  refine zx_iconst (q := 13) (v := 2) dX8_beastTells_12 (by decide) rfl ?_
  refine zx_imul (q := 14) dX8_beastTells_13 rfl ?_
  refine zx_iret dX8_beastTells_14 rfl (Nat.le_refl _) (Nat.le_refl _) ⟨_, rfl, ?_⟩
  exact ⟨rfl, rfl⟩
theorem t_X8_tellsAct (d s k r : Nat) (v x : Int32) (hs : s < 5) (hk : k < 7) (hK : gi 109 s = nI k) (hV : gi 110 s = v) (hr : gi 108 56 = nI r) (hr2 : r < 1900) : zCall l D tc A mX8_tellsAct (d + 7) 0 0 [.ref 108, .int (nI s), .int x] (zs gi gl f) (zQi fun q S' => q = (z_tA k (nI s) v x).1 ∧ S' = zs (z_tr 108 56 145 gi r (z_tA k (nI s) v x).2) gl f) := by
  rcases (by omega : k = 0 ∨ k = 1 ∨ k = 2 ∨ k = 3 ∨ k = 4 ∨ k = 5 ∨ k = 6) with h | h | h | h | h | h | h <;> subst h
  · show zW l D tc A mX8_tellsAct (d + 7) 0 0 0 0 0 [some (.ref 108), some (.int (nI s)), some (.int x), none] [] (zs gi gl f) _
    refine zx_aload_n (q := 1) dX8_tellsAct_0 rfl rfl rfl ?_
    refine zy_getR (q := 4) dX8_tellsAct_1 fl_RX8_16 rfl rfl rfl rfl ?_
    refine zx_iload_n (q := 5) dX8_tellsAct_4 rfl rfl rfl ?_
    refine zy_ialdN (q := 6) dX8_tellsAct_5 rfl (by omega) (by first | decide | omega) rfl ?_
    rw [hK]
    refine zx_tblOut (t := 73) dX8_tellsAct_6 (by have z0 := lv_neT (a := 3) (show ¬ nI 0 = 3 from by decide) (by decide); have z1 := lv_neT (a := 4) (show ¬ nI 0 = 4 from by decide) (by decide); have z2 := lv_neT (a := 5) (show ¬ nI 0 = 5 from by decide) (by decide); have z3 := lv_neT (a := 6) (show ¬ nI 0 = 6 from by decide) (by decide); omega) (by decide) ?_
    refine zx_aload_n (q := 74) dX8_tellsAct_73 rfl rfl rfl ?_
    refine zx_iload_n (q := 75) dX8_tellsAct_74 rfl rfl rfl ?_
    refine zx_iload_n (q := 76) dX8_tellsAct_75 rfl rfl rfl ?_
    refine zx_callV2i (q := 79) (y' := mX8_beastTells) dX8_tellsAct_76 ml_RX8_363 ok_mX8_beastTells rfl (by decide) rfl (Nat.le_of_ble_eq_true rfl) (Nat.le_of_ble_eq_true rfl) (Nat.le_refl _) (Nat.le_refl _) rfl (t_X8_beastTells _ s 0 r v x hs hk hK hV hr (by omega)) ?_
    rintro _ _ ⟨rfl, rfl⟩
    refine zx_iret dX8_tellsAct_79 rfl (Nat.le_refl _) (Nat.le_refl _) ⟨_, rfl, ?_⟩
    exact ⟨rfl, rfl⟩
  · show zW l D tc A mX8_tellsAct (d + 7) 0 0 0 0 0 [some (.ref 108), some (.int (nI s)), some (.int x), none] [] (zs gi gl f) _
    refine zx_aload_n (q := 1) dX8_tellsAct_0 rfl rfl rfl ?_
    refine zy_getR (q := 4) dX8_tellsAct_1 fl_RX8_16 rfl rfl rfl rfl ?_
    refine zx_iload_n (q := 5) dX8_tellsAct_4 rfl rfl rfl ?_
    refine zy_ialdN (q := 6) dX8_tellsAct_5 rfl (by omega) (by first | decide | omega) rfl ?_
    rw [hK]
    refine zx_tblOut (t := 73) dX8_tellsAct_6 (by have z0 := lv_neT (a := 3) (show ¬ nI 1 = 3 from by decide) (by decide); have z1 := lv_neT (a := 4) (show ¬ nI 1 = 4 from by decide) (by decide); have z2 := lv_neT (a := 5) (show ¬ nI 1 = 5 from by decide) (by decide); have z3 := lv_neT (a := 6) (show ¬ nI 1 = 6 from by decide) (by decide); omega) (by decide) ?_
    refine zx_aload_n (q := 74) dX8_tellsAct_73 rfl rfl rfl ?_
    refine zx_iload_n (q := 75) dX8_tellsAct_74 rfl rfl rfl ?_
    refine zx_iload_n (q := 76) dX8_tellsAct_75 rfl rfl rfl ?_
    refine zx_callV2i (q := 79) (y' := mX8_beastTells) dX8_tellsAct_76 ml_RX8_363 ok_mX8_beastTells rfl (by decide) rfl (Nat.le_of_ble_eq_true rfl) (Nat.le_of_ble_eq_true rfl) (Nat.le_refl _) (Nat.le_refl _) rfl (t_X8_beastTells _ s 1 r v x hs hk hK hV hr (by omega)) ?_
    rintro _ _ ⟨rfl, rfl⟩
    refine zx_iret dX8_tellsAct_79 rfl (Nat.le_refl _) (Nat.le_refl _) ⟨_, rfl, ?_⟩
    exact ⟨rfl, rfl⟩
  · show zW l D tc A mX8_tellsAct (d + 7) 0 0 0 0 0 [some (.ref 108), some (.int (nI s)), some (.int x), none] [] (zs gi gl f) _
    refine zx_aload_n (q := 1) dX8_tellsAct_0 rfl rfl rfl ?_
    refine zy_getR (q := 4) dX8_tellsAct_1 fl_RX8_16 rfl rfl rfl rfl ?_
    refine zx_iload_n (q := 5) dX8_tellsAct_4 rfl rfl rfl ?_
    refine zy_ialdN (q := 6) dX8_tellsAct_5 rfl (by omega) (by first | decide | omega) rfl ?_
    rw [hK]
    refine zx_tblOut (t := 73) dX8_tellsAct_6 (by have z0 := lv_neT (a := 3) (show ¬ nI 2 = 3 from by decide) (by decide); have z1 := lv_neT (a := 4) (show ¬ nI 2 = 4 from by decide) (by decide); have z2 := lv_neT (a := 5) (show ¬ nI 2 = 5 from by decide) (by decide); have z3 := lv_neT (a := 6) (show ¬ nI 2 = 6 from by decide) (by decide); omega) (by decide) ?_
    refine zx_aload_n (q := 74) dX8_tellsAct_73 rfl rfl rfl ?_
    refine zx_iload_n (q := 75) dX8_tellsAct_74 rfl rfl rfl ?_
    refine zx_iload_n (q := 76) dX8_tellsAct_75 rfl rfl rfl ?_
    refine zx_callV2i (q := 79) (y' := mX8_beastTells) dX8_tellsAct_76 ml_RX8_363 ok_mX8_beastTells rfl (by decide) rfl (Nat.le_of_ble_eq_true rfl) (Nat.le_of_ble_eq_true rfl) (Nat.le_refl _) (Nat.le_refl _) rfl (t_X8_beastTells _ s 2 r v x hs hk hK hV hr (by omega)) ?_
    rintro _ _ ⟨rfl, rfl⟩
    refine zx_iret dX8_tellsAct_79 rfl (Nat.le_refl _) (Nat.le_refl _) ⟨_, rfl, ?_⟩
    exact ⟨rfl, rfl⟩
  · show zW l D tc A mX8_tellsAct (d + 7) 0 0 0 0 0 [some (.ref 108), some (.int (nI s)), some (.int x), none] [] (zs gi gl f) _
    refine zx_aload_n (q := 1) dX8_tellsAct_0 rfl rfl rfl ?_
    refine zy_getR (q := 4) dX8_tellsAct_1 fl_RX8_16 rfl rfl rfl rfl ?_
    refine zx_iload_n (q := 5) dX8_tellsAct_4 rfl rfl rfl ?_
    refine zy_ialdN (q := 6) dX8_tellsAct_5 rfl (by omega) (by first | decide | omega) rfl ?_
    rw [hK]
    refine zx_tblIn (t := 36) (off := 30) dX8_tellsAct_6 (by decide) (by decide) (by rfl) (by decide) ?_
    refine zx_aload_n (q := 37) dX8_tellsAct_36 rfl rfl rfl ?_
    refine zx_bipush (q := 39) (v := 40) dX8_tellsAct_37 (by decide) rfl ?_
    refine zx_callV1v (q := 42) (y' := mX8_body) dX8_tellsAct_39 ml_RX8_345 ok_mX8_body rfl (by decide) rfl (Nat.le_of_ble_eq_true rfl) (Nat.le_of_ble_eq_true rfl) (Nat.le_refl _) (Nat.le_refl _) rfl (t_X8_body _ r _ hr (by omega)) ?_
    rintro _ ⟨rfl⟩
    refine zx_aload_n (q := 43) dX8_tellsAct_42 rfl rfl rfl ?_
    refine zx_iload_n (q := 44) dX8_tellsAct_43 rfl rfl rfl ?_
    refine zx_iload_n (q := 45) dX8_tellsAct_44 rfl rfl rfl ?_
    refine zx_callV2i (q := 48) (y' := mX8_beastTells) dX8_tellsAct_45 ml_RX8_363 ok_mX8_beastTells rfl (by decide) rfl (Nat.le_of_ble_eq_true rfl) (Nat.le_of_ble_eq_true rfl) (Nat.le_refl _) (Nat.le_refl _) rfl (t_X8_beastTells _ s 3 (r + 1) v x hs hk ((z_t1_ne (by omega) (by omega)).trans hK) ((z_t1_ne (by omega) (by omega)).trans hV) z_t1_at (by omega)) ?_
    rintro _ _ ⟨rfl, rfl⟩
    refine zx_istore3 (q := 49) dX8_tellsAct_48 rfl rfl ?_
    refine zx_iload_n (q := 50) dX8_tellsAct_49 rfl rfl rfl ?_
    refine zx_aload_n (q := 51) dX8_tellsAct_50 rfl rfl rfl ?_
    refine zx_iload_n (q := 52) dX8_tellsAct_51 rfl rfl rfl ?_
    refine zx_iconst (q := 53) (v := 1) dX8_tellsAct_52 (by decide) rfl ?_
    refine zx_callV2i (q := 56) (y' := mX8_showsAct) dX8_tellsAct_53 ml_RX8_360 ok_mX8_showsAct rfl (by decide) rfl (Nat.le_of_ble_eq_true rfl) (Nat.le_of_ble_eq_true rfl) (Nat.le_refl _) (Nat.le_refl _) rfl (t_X8_showsAct _ s 3 (r + 1 + (z_bT 3 (nI s) v x).2.length) v 1 hs hk ((z_tr_ne (by omega) (by omega) _ _ _).trans ((z_t1_ne (by omega) (by omega)).trans hK)) ((z_tr_ne (by omega) (by omega) _ _ _).trans ((z_t1_ne (by omega) (by omega)).trans hV)) (z_tr_at _ _ _ z_t1_at) (by have := z_bT_len 3 (nI s) v x; omega)) ?_
    rintro _ _ ⟨rfl, rfl⟩
    refine zx_iadd (q := 57) dX8_tellsAct_56 rfl ?_
    refine zx_iret dX8_tellsAct_57 rfl (Nat.le_refl _) (Nat.le_refl _) ⟨_, rfl, ?_⟩
    refine ⟨rfl, ?_⟩
    show zs _ gl f = zs (z_tr 108 56 145 gi r (40 :: ((z_bT 3 (nI s) v x).2 ++ (z_sA 3 (nI s) v 1).2))) gl f
    rw [z_tr, z_tr_app]
  · show zW l D tc A mX8_tellsAct (d + 7) 0 0 0 0 0 [some (.ref 108), some (.int (nI s)), some (.int x), none] [] (zs gi gl f) _
    refine zx_aload_n (q := 1) dX8_tellsAct_0 rfl rfl rfl ?_
    refine zy_getR (q := 4) dX8_tellsAct_1 fl_RX8_16 rfl rfl rfl rfl ?_
    refine zx_iload_n (q := 5) dX8_tellsAct_4 rfl rfl rfl ?_
    refine zy_ialdN (q := 6) dX8_tellsAct_5 rfl (by omega) (by first | decide | omega) rfl ?_
    rw [hK]
    refine zx_tblIn (t := 73) (off := 67) dX8_tellsAct_6 (by decide) (by decide) (by rfl) (by decide) ?_
    refine zx_aload_n (q := 74) dX8_tellsAct_73 rfl rfl rfl ?_
    refine zx_iload_n (q := 75) dX8_tellsAct_74 rfl rfl rfl ?_
    refine zx_iload_n (q := 76) dX8_tellsAct_75 rfl rfl rfl ?_
    refine zx_callV2i (q := 79) (y' := mX8_beastTells) dX8_tellsAct_76 ml_RX8_363 ok_mX8_beastTells rfl (by decide) rfl (Nat.le_of_ble_eq_true rfl) (Nat.le_of_ble_eq_true rfl) (Nat.le_refl _) (Nat.le_refl _) rfl (t_X8_beastTells _ s 4 r v x hs hk hK hV hr (by omega)) ?_
    rintro _ _ ⟨rfl, rfl⟩
    refine zx_iret dX8_tellsAct_79 rfl (Nat.le_refl _) (Nat.le_refl _) ⟨_, rfl, ?_⟩
    exact ⟨rfl, rfl⟩
  · show zW l D tc A mX8_tellsAct (d + 7) 0 0 0 0 0 [some (.ref 108), some (.int (nI s)), some (.int x), none] [] (zs gi gl f) _
    refine zx_aload_n (q := 1) dX8_tellsAct_0 rfl rfl rfl ?_
    refine zy_getR (q := 4) dX8_tellsAct_1 fl_RX8_16 rfl rfl rfl rfl ?_
    refine zx_iload_n (q := 5) dX8_tellsAct_4 rfl rfl rfl ?_
    refine zy_ialdN (q := 6) dX8_tellsAct_5 rfl (by omega) (by first | decide | omega) rfl ?_
    rw [hK]
    refine zx_tblIn (t := 58) (off := 52) dX8_tellsAct_6 (by decide) (by decide) (by rfl) (by decide) ?_
    refine zx_aload_n (q := 59) dX8_tellsAct_58 rfl rfl rfl ?_
    refine zx_bipush (q := 61) (v := 60) dX8_tellsAct_59 (by decide) rfl ?_
    refine zx_callV1v (q := 64) (y' := mX8_body) dX8_tellsAct_61 ml_RX8_345 ok_mX8_body rfl (by decide) rfl (Nat.le_of_ble_eq_true rfl) (Nat.le_of_ble_eq_true rfl) (Nat.le_refl _) (Nat.le_refl _) rfl (t_X8_body _ r _ hr (by omega)) ?_
    rintro _ ⟨rfl⟩
    refine zx_aload_n (q := 65) dX8_tellsAct_64 rfl rfl rfl ?_
    refine zx_iload_n (q := 66) dX8_tellsAct_65 rfl rfl rfl ?_
    refine zx_iload_n (q := 67) dX8_tellsAct_66 rfl rfl rfl ?_
    refine zx_iload_n (q := 68) dX8_tellsAct_67 rfl rfl rfl ?_
    refine zx_isub (q := 69) dX8_tellsAct_68 rfl ?_
    refine zx_callV2i (q := 72) (y' := mX8_beastTells) dX8_tellsAct_69 ml_RX8_363 ok_mX8_beastTells rfl (by decide) rfl (Nat.le_of_ble_eq_true rfl) (Nat.le_of_ble_eq_true rfl) (Nat.le_refl _) (Nat.le_refl _) rfl (t_X8_beastTells _ s 5 (r + 1) v _ hs hk ((z_t1_ne (by omega) (by omega)).trans hK) ((z_t1_ne (by omega) (by omega)).trans hV) z_t1_at (by omega)) ?_
    rintro _ _ ⟨rfl, rfl⟩
    refine zx_iret dX8_tellsAct_72 rfl (Nat.le_refl _) (Nat.le_refl _) ⟨_, rfl, ?_⟩
    exact ⟨rfl, rfl⟩
  · show zW l D tc A mX8_tellsAct (d + 7) 0 0 0 0 0 [some (.ref 108), some (.int (nI s)), some (.int x), none] [] (zs gi gl f) _
    refine zx_aload_n (q := 1) dX8_tellsAct_0 rfl rfl rfl ?_
    refine zy_getR (q := 4) dX8_tellsAct_1 fl_RX8_16 rfl rfl rfl rfl ?_
    refine zx_iload_n (q := 5) dX8_tellsAct_4 rfl rfl rfl ?_
    refine zy_ialdN (q := 6) dX8_tellsAct_5 rfl (by omega) (by first | decide | omega) rfl ?_
    rw [hK]
    refine zx_tblIn (t := 36) (off := 30) dX8_tellsAct_6 (by decide) (by decide) (by rfl) (by decide) ?_
    refine zx_aload_n (q := 37) dX8_tellsAct_36 rfl rfl rfl ?_
    refine zx_bipush (q := 39) (v := 40) dX8_tellsAct_37 (by decide) rfl ?_
    refine zx_callV1v (q := 42) (y' := mX8_body) dX8_tellsAct_39 ml_RX8_345 ok_mX8_body rfl (by decide) rfl (Nat.le_of_ble_eq_true rfl) (Nat.le_of_ble_eq_true rfl) (Nat.le_refl _) (Nat.le_refl _) rfl (t_X8_body _ r _ hr (by omega)) ?_
    rintro _ ⟨rfl⟩
    refine zx_aload_n (q := 43) dX8_tellsAct_42 rfl rfl rfl ?_
    refine zx_iload_n (q := 44) dX8_tellsAct_43 rfl rfl rfl ?_
    refine zx_iload_n (q := 45) dX8_tellsAct_44 rfl rfl rfl ?_
    refine zx_callV2i (q := 48) (y' := mX8_beastTells) dX8_tellsAct_45 ml_RX8_363 ok_mX8_beastTells rfl (by decide) rfl (Nat.le_of_ble_eq_true rfl) (Nat.le_of_ble_eq_true rfl) (Nat.le_refl _) (Nat.le_refl _) rfl (t_X8_beastTells _ s 6 (r + 1) v x hs hk ((z_t1_ne (by omega) (by omega)).trans hK) ((z_t1_ne (by omega) (by omega)).trans hV) z_t1_at (by omega)) ?_
    rintro _ _ ⟨rfl, rfl⟩
    refine zx_istore3 (q := 49) dX8_tellsAct_48 rfl rfl ?_
    refine zx_iload_n (q := 50) dX8_tellsAct_49 rfl rfl rfl ?_
    refine zx_aload_n (q := 51) dX8_tellsAct_50 rfl rfl rfl ?_
    refine zx_iload_n (q := 52) dX8_tellsAct_51 rfl rfl rfl ?_
    refine zx_iconst (q := 53) (v := 1) dX8_tellsAct_52 (by decide) rfl ?_
    refine zx_callV2i (q := 56) (y' := mX8_showsAct) dX8_tellsAct_53 ml_RX8_360 ok_mX8_showsAct rfl (by decide) rfl (Nat.le_of_ble_eq_true rfl) (Nat.le_of_ble_eq_true rfl) (Nat.le_refl _) (Nat.le_refl _) rfl (t_X8_showsAct _ s 6 (r + 1 + (z_bT 6 (nI s) v x).2.length) v 1 hs hk ((z_tr_ne (by omega) (by omega) _ _ _).trans ((z_t1_ne (by omega) (by omega)).trans hK)) ((z_tr_ne (by omega) (by omega) _ _ _).trans ((z_t1_ne (by omega) (by omega)).trans hV)) (z_tr_at _ _ _ z_t1_at) (by have := z_bT_len 6 (nI s) v x; omega)) ?_
    rintro _ _ ⟨rfl, rfl⟩
    refine zx_iadd (q := 57) dX8_tellsAct_56 rfl ?_
    refine zx_iret dX8_tellsAct_57 rfl (Nat.le_refl _) (Nat.le_refl _) ⟨_, rfl, ?_⟩
    refine ⟨rfl, ?_⟩
    show zs _ gl f = zs (z_tr 108 56 145 gi r (40 :: ((z_bT 6 (nI s) v x).2 ++ (z_sA 6 (nI s) v 1).2))) gl f
    rw [z_tr, z_tr_app]
end P27
