/-! the image -/
section P22A
variable {l : Launch} {D : va_G} {tc : Nat → ClassId} {A : Nat → Prop} {y : zw_M} {d mc ms k n pc q : Nat} {L : List (Option Value)} {st : List Value} {gi : Nat → Nat → Int32} {gl : Nat → Nat → Int64} {f : Option Nat} {Q : Option Value → zw_S → Prop}
theorem zy_copyG {b0 b1 w idx : Nat} {wn : Int32} (hd : decode y.2.1 pc = .ok (.invokestatic idx, 3)) (hl : Cond.methodLink y.1.cls idx arraycopyName ∈ zw_Tb) (h0 : zg_sh[b0]? = some (1, w)) (h1 : zg_sh[b1]? = some (1, w)) (hw : wn = nI w) (hw2 : w < 1000) (hne : b0 ≠ b1) (hst : (st.map fun v => v.category).sum ≤ 8) (hq : pc + 3 = q)
    (kk : ∀ g' : Nat → Nat → Int32, (∀ k j, k ≠ b1 → g' k j = gi k j) → (∀ j, j < w → g' b1 j = gi b0 j) → zW l D tc A y (d + 1) mc ms k n q L st (zs g' gl f) Q) : zW l D tc A y (d + 1) mc ms k n pc L (.int wn :: .int 0 :: .ref b1 :: .int 0 :: .ref b0 :: st) (zs gi gl f) Q := by
  subst hw
  have z : (0 : Int32).toNatClampNeg = 0 := by decide
  refine zy_copyI hd hl h0 h1 (by decide) (by decide) (nI_pos (by omega)) (by rw [z, nI_clamp (by omega)]; omega) (by rw [z, nI_clamp (by omega)]; omega) hst hq (kk _ (fun k j hk => zw_row_off _ _ hk ▸ rfl) (fun j hj => ?_))
  rw [zw_row_at, z, nI_clamp (by omega)]
  unfold va_cpy
  rw [if_pos ⟨by omega, by omega⟩]
  congr 1
  omega
end P22A
theorem zST_move {gi gi' : Nat → Nat → Int32} {nf b K V B T O Z R W H M sj mj fj bj b' K' V' B' T' O' Z' R' W' H' M' sj' mj' fj' bj' : Nat} (h : zST gi nf b K V B T O Z R W H M sj mj fj bj)
    (e1 : ∀ j, j = 0 ∨ j = 4 ∨ j = 6 ∨ j = 9 → gi' b' j = gi b j) (e2 : gi' 108 sj' = gi 108 sj ∧ gi' 108 mj' = gi 108 mj ∧ gi' 108 fj' = gi 108 fj ∧ gi' 108 bj' = gi 108 bj)
    (e3 : ∀ s, s < 5 → (∀ j, j < 6 → gi' (b' + 2 + s) j = gi (b + 2 + s) j) ∧ (∀ j, j < 3 → gi' (b' + 8 + s) j = gi (b + 8 + s) j) ∧ gi' (b' + 14) s = gi (b + 14) s ∧ gi' (b' + 15) s = gi (b + 15) s)
    (e4 : ∀ j, j < 3 → gi' (b' + 16) j = gi (b + 16) j ∧ gi' W' j = gi W j) (e5 : ∀ k, k < 12 → gi' (b' + 17) k = gi (b + 17) k ∧ gi' (b' + 18) k = gi (b + 18) k ∧ gi' H' k = gi H k ∧ gi' M' k = gi M k)
    (e6 : ∀ s, s < 5 → gi' K' s = gi K s ∧ gi' V' s = gi V s ∧ gi' T' s = gi T s ∧ gi' O' s = gi O s ∧ gi' Z' s = gi Z s) (e7 : ∀ k, k < 15 → gi' B' k = gi B k ∧ gi' R' k = gi R k) : zST gi' nf b' K' V' B' T' O' Z' R' W' H' M' sj' mj' fj' bj' := by
  obtain ⟨ns, nb, mm, h0, h1, h2, h3, h4, h5, h6, h7, h8⟩ := h
  refine ⟨ns, nb, mm, h0, ?_, ?_, ?_, ?_, fun s hs => ?_, fun s hs hs2 => ?_, fun j hj => ?_, fun k hk => ?_⟩
  · rw [e1 0 (by simp), e2.1]; exact h1
  · rw [e1 4 (by simp), e2.2.1]; exact h2
  · rw [e1 6 (by simp), e2.2.2.2]; exact h3
  · rw [e1 9 (by simp), e2.2.2.1]; exact h4
  · obtain ⟨g1, g2, g3, g4, g5, g6, g7⟩ := h5 s hs
    obtain ⟨a1, a2, a3, a4⟩ := e3 s (by omega)
    obtain ⟨c1, c2, c3, c4, c5⟩ := e6 s (by omega)
    refine ⟨?_, ?_, fun j hj => ?_, ?_, ?_, ?_, fun j hj => ?_⟩
    · rw [a1 0 (by omega), c1]; exact g1
    · rw [a1 1 (by omega), c2]; exact g2
    · rw [a1 (2 + j) (by omega), (e7 (3 * s + j) (by omega)).1]; exact g3 j hj
    · rw [a1 5 (by omega), c3]; exact g4
    · rw [a3, c4]; exact g5
    · rw [a4, c5]; exact g6
    · rw [a2 j hj, (e7 (3 * s + j) (by omega)).2]; exact g7 j hj
  · obtain ⟨g1, g2, g3⟩ := h6 s hs hs2
    obtain ⟨a1, a2, a3, a4⟩ := e3 s (by omega)
    exact ⟨by rw [a3]; exact g1, by rw [a4]; exact g2, fun j hj => by rw [a2 j hj]; exact g3 j hj⟩
  · rw [(e4 j hj).1, (e4 j hj).2]; exact h7 j hj
  · obtain ⟨a1, a2, a3, a4⟩ := e5 k hk
    rw [a1, a2, a3, a4]; exact h8 k hk
section P22
variable {l : Launch} {D : va_G} {tc : Nat → ClassId} {A : Nat → Prop} {S : zw_S} {gi : Nat → Nat → Int32} {gl : Nat → Nat → Int64} {f : Option Nat} {Q : Option Value → zw_S → Prop}
theorem lp_become20 (d : Nat) : ∀ (k i : Nat) (gi : Nat → Nat → Int32), i + k = 5 → (∀ g' : Nat → Nat → Int32, (∀ c j, ¬ (20 + 2 + i ≤ c ∧ c ≤ 20 + 6) → ¬ (20 + 8 + i ≤ c ∧ c ≤ 20 + 12) → g' c j = gi c j) → (∀ s, i ≤ s → s < 5 → (∀ j, j < 6 → g' (20 + 2 + s) j = gi (1 + 2 + s) j) ∧ (∀ j, j < 3 → g' (20 + 8 + s) j = gi (1 + 8 + s) j)) → zW l D tc A mX5_become (d + 1) 0 0 0 0 58 [some (.ref 20), some (.ref 1), some (.int (nI 5))] [] (zs g' gl f) Q) →
    zW l D tc A mX5_become (d + 1) 0 0 0 0 10 [some (.ref 20), some (.ref 1), some (.int (nI i))] [] (zs gi gl f) Q := by
  intro k
  induction k using Nat.strongRecOn with
  | _ k ih =>
    intro i gi hi hQ
    refine zx_iload_n (q := 11) dX5_become_10 rfl rfl rfl ?_
    refine zx_iconst (q := 12) (v := 5) dX5_become_11 (by decide) rfl ?_
    refine zx_icmp_ge (q := 15) (t := 58) dX5_become_12 (by decide) rfl (fun c_12 => ?_) (fun c_12 => ?_)
    · have hi2 : i = 5 := by have := z_ge (x := 5) (n := 5) rfl (by omega) c_12; omega
      subst hi2
      exact hQ gi (fun c j _ _ => rfl) (fun s a b => by omega)
    · have hi2 : i < 5 := z_lt (x := 5) (n := 5) rfl (by omega) c_12
      refine zx_aload_n (q := 16) dX5_become_15 rfl rfl rfl ?_
      refine zy_getR (q := 19) dX5_become_16 fl_RX5_11 rfl rfl rfl rfl ?_
      refine zx_iload_n (q := 20) dX5_become_19 rfl rfl rfl ?_
      refine zy_aaldN (q := 21) dX5_become_20 rfl (by decide) (by omega) (by decide) (zr_2 (by omega)).1 rfl ?_
      refine zx_iconst (q := 22) (v := 0) dX5_become_21 (by decide) rfl ?_
      refine zx_aload_n (q := 23) dX5_become_22 rfl rfl rfl ?_
      refine zy_getR (q := 26) dX5_become_23 fl_RX5_11 rfl rfl rfl rfl ?_
      refine zx_iload_n (q := 27) dX5_become_26 rfl rfl rfl ?_
      refine zy_aaldN (q := 28) dX5_become_27 rfl (by decide) (by omega) (by decide) (zr_21 (by omega)).1 rfl ?_
      refine zx_iconst (q := 29) (v := 0) dX5_become_28 (by decide) rfl ?_
      refine zx_bipush (q := 31) (v := 6) dX5_become_29 (by decide) rfl ?_
      refine zy_copyG (q := 34) dX5_become_31 ml_RX5_39 (zr_2 (f := f) (by omega)).2 (zr_21 (f := f) (by omega)).2 rfl (by decide) (by omega) (Nat.le_of_ble_eq_true rfl) rfl (fun g1 h1 k1 => ?_)
      refine zx_aload_n (q := 35) dX5_become_34 rfl rfl rfl ?_
      refine zy_getR (q := 38) dX5_become_35 fl_RX5_16 rfl rfl rfl rfl ?_
      refine zx_iload_n (q := 39) dX5_become_38 rfl rfl rfl ?_
      refine zy_aaldN (q := 40) dX5_become_39 rfl (by decide) (by omega) (by decide) (zr_8 (by omega)).1 rfl ?_
      refine zx_iconst (q := 41) (v := 0) dX5_become_40 (by decide) rfl ?_
      refine zx_aload_n (q := 42) dX5_become_41 rfl rfl rfl ?_
      refine zy_getR (q := 45) dX5_become_42 fl_RX5_16 rfl rfl rfl rfl ?_
      refine zx_iload_n (q := 46) dX5_become_45 rfl rfl rfl ?_
      refine zy_aaldN (q := 47) dX5_become_46 rfl (by decide) (by omega) (by decide) (zr_27 (by omega)).1 rfl ?_
      refine zx_iconst (q := 48) (v := 0) dX5_become_47 (by decide) rfl ?_
      refine zx_iconst (q := 49) (v := 3) dX5_become_48 (by decide) rfl ?_
      refine zy_copyG (q := 52) dX5_become_49 ml_RX5_39 (zr_8 (f := f) (by omega)).2 (zr_27 (f := f) (by omega)).2 rfl (by decide) (by omega) (Nat.le_of_ble_eq_true rfl) rfl (fun g2 h2 k2 => ?_)
      refine zx_iinc2 (q := 55) dX5_become_52 rfl rfl ?_
      refine zx_goto (t := 10) dX5_become_55 (by decide) ?_
      rw [z_inc]
      refine ih (k - 1) (by omega) (i + 1) g2 (by omega) (fun g3 h3 k3 => hQ g3 (fun c j a b => ?_) (fun s a b => ?_))
      · rw [h3 c j (by omega) (by omega), h2 c j (by omega), h1 c j (by omega)]
      · by_cases e : s = i
        · subst e
          exact ⟨fun j hj => by rw [h3 _ _ (by omega) (by omega), h2 _ _ (by omega)]; exact k1 j hj, fun j hj => by rw [h3 _ _ (by omega) (by omega), k2 j hj, h1 _ _ (by omega)]⟩
        · obtain ⟨a1, a2⟩ := k3 s (by omega) b
          exact ⟨fun j hj => by rw [a1 j hj, h2 _ _ (by omega), h1 _ _ (by omega)], fun j hj => by rw [a2 j hj, h2 _ _ (by omega), h1 _ _ (by omega)]⟩
set_option maxHeartbeats 4000000 in
theorem t_become20 (d : Nat) : zCall l D tc A mX5_become (d + 1) 0 0 [.ref 20, .ref 1] (zs gi gl f) (zQv fun S' => ∃ g', S' = zs g' gl f ∧ (∀ k j, ¬ (20 ≤ k ∧ k ≤ 20 + 18) → g' k j = gi k j) ∧ (∀ j, j = 0 ∨ j = 4 ∨ j = 6 ∨ j = 9 → g' 20 j = gi 1 j) ∧ (∀ s, s < 5 → (∀ j, j < 6 → g' (20 + 2 + s) j = gi (1 + 2 + s) j) ∧ (∀ j, j < 3 → g' (20 + 8 + s) j = gi (1 + 8 + s) j) ∧ g' (20 + 14) s = gi (1 + 14) s ∧ g' (20 + 15) s = gi (1 + 15) s) ∧ (∀ j, j < 3 → g' (20 + 16) j = gi (1 + 16) j) ∧ (∀ k, k < 12 → g' (20 + 17) k = gi (1 + 17) k ∧ g' (20 + 18) k = gi (1 + 18) k)) := by
  show zW l D tc A mX5_become (d + 1) 0 0 0 0 0 [some (.ref 20), some (.ref 1), none] [] (zs gi gl f) _
  refine zx_aload_n (q := 1) dX5_become_0 rfl rfl rfl ?_
  refine zx_aload_n (q := 2) dX5_become_1 rfl rfl rfl ?_
  refine zy_getI (q := 5) dX5_become_2 fl_RX5_36 rfl rfl rfl ?_
  refine zy_putI (q := 8) dX5_become_5 fl_RX5_36 rfl rfl ⟨rfl, rfl⟩ rfl rfl ?_
  refine zx_iconst (q := 9) (v := 0) dX5_become_8 (by decide) rfl ?_
  refine zx_istore2 (q := 10) dX5_become_9 rfl rfl ?_
  refine lp_become20 d 5 0 _ (by omega) (fun g1 hF kF => ?_)
  refine zx_aload_n (q := 59) dX5_become_58 rfl rfl rfl ?_
  refine zy_getR (q := 62) dX5_become_59 fl_RX5_19 rfl rfl rfl rfl ?_
  refine zx_iconst (q := 63) (v := 0) dX5_become_62 (by decide) rfl ?_
  refine zy_aaldN (q := 64) dX5_become_63 rfl (by decide) (i := 0) (by omega) (by decide) rfl rfl ?_
  refine zx_iconst (q := 65) (v := 0) dX5_become_64 (by decide) rfl ?_
  refine zx_aload_n (q := 66) dX5_become_65 rfl rfl rfl ?_
  refine zy_getR (q := 69) dX5_become_66 fl_RX5_19 rfl rfl rfl rfl ?_
  refine zx_iconst (q := 70) (v := 0) dX5_become_69 (by decide) rfl ?_
  refine zy_aaldN (q := 71) dX5_become_70 rfl (by decide) (i := 0) (by omega) (by decide) rfl rfl ?_
  refine zx_iconst (q := 72) (v := 0) dX5_become_71 (by decide) rfl ?_
  refine zx_iconst (q := 73) (v := 5) dX5_become_72 (by decide) rfl ?_
  refine zy_copyG (q := 76) dX5_become_73 ml_RX5_39 rfl rfl rfl (by decide) (by omega) (Nat.le_of_ble_eq_true rfl) rfl (fun g2 h2 k2 => ?_)
  refine zx_aload_n (q := 77) dX5_become_76 rfl rfl rfl ?_
  refine zy_getR (q := 80) dX5_become_77 fl_RX5_19 rfl rfl rfl rfl ?_
  refine zx_iconst (q := 81) (v := 1) dX5_become_80 (by decide) rfl ?_
  refine zy_aaldN (q := 82) dX5_become_81 rfl (by decide) (i := 1) (by omega) (by decide) rfl rfl ?_
  refine zx_iconst (q := 83) (v := 0) dX5_become_82 (by decide) rfl ?_
  refine zx_aload_n (q := 84) dX5_become_83 rfl rfl rfl ?_
  refine zy_getR (q := 87) dX5_become_84 fl_RX5_19 rfl rfl rfl rfl ?_
  refine zx_iconst (q := 88) (v := 1) dX5_become_87 (by decide) rfl ?_
  refine zy_aaldN (q := 89) dX5_become_88 rfl (by decide) (i := 1) (by omega) (by decide) rfl rfl ?_
  refine zx_iconst (q := 90) (v := 0) dX5_become_89 (by decide) rfl ?_
  refine zx_iconst (q := 91) (v := 5) dX5_become_90 (by decide) rfl ?_
  refine zy_copyG (q := 94) dX5_become_91 ml_RX5_39 rfl rfl rfl (by decide) (by omega) (Nat.le_of_ble_eq_true rfl) rfl (fun g3 h3 k3 => ?_)
  refine zx_aload_n (q := 95) dX5_become_94 rfl rfl rfl ?_
  refine zx_aload_n (q := 96) dX5_become_95 rfl rfl rfl ?_
  refine zy_getI (q := 99) dX5_become_96 fl_RX5_45 rfl rfl rfl ?_
  refine zy_putI (q := 102) dX5_become_99 fl_RX5_45 rfl rfl ⟨rfl, rfl⟩ rfl rfl ?_
  refine zx_aload_n (q := 103) dX5_become_102 rfl rfl rfl ?_
  refine zy_getR (q := 106) dX5_become_103 fl_RX5_22 rfl rfl rfl rfl ?_
  refine zx_iconst (q := 107) (v := 0) dX5_become_106 (by decide) rfl ?_
  refine zx_aload_n (q := 108) dX5_become_107 rfl rfl rfl ?_
  refine zy_getR (q := 111) dX5_become_108 fl_RX5_22 rfl rfl rfl rfl ?_
  refine zx_iconst (q := 112) (v := 0) dX5_become_111 (by decide) rfl ?_
  refine zx_iconst (q := 113) (v := 3) dX5_become_112 (by decide) rfl ?_
  refine zy_copyG (q := 116) dX5_become_113 ml_RX5_39 rfl rfl rfl (by decide) (by omega) (Nat.le_of_ble_eq_true rfl) rfl (fun g4 h4 k4 => ?_)
  refine zx_aload_n (q := 117) dX5_become_116 rfl rfl rfl ?_
  refine zx_aload_n (q := 118) dX5_become_117 rfl rfl rfl ?_
  refine zy_getI (q := 121) dX5_become_118 fl_RX5_48 rfl rfl rfl ?_
  refine zy_putI (q := 124) dX5_become_121 fl_RX5_48 rfl rfl ⟨rfl, rfl⟩ rfl rfl ?_
  refine zx_aload_n (q := 125) dX5_become_124 rfl rfl rfl ?_
  refine zy_getR (q := 128) dX5_become_125 fl_RX5_26 rfl rfl rfl rfl ?_
  refine zx_iconst (q := 129) (v := 0) dX5_become_128 (by decide) rfl ?_
  refine zx_aload_n (q := 130) dX5_become_129 rfl rfl rfl ?_
  refine zy_getR (q := 133) dX5_become_130 fl_RX5_26 rfl rfl rfl rfl ?_
  refine zx_iconst (q := 134) (v := 0) dX5_become_133 (by decide) rfl ?_
  refine zx_bipush (q := 136) (v := 12) dX5_become_134 (by decide) rfl ?_
  refine zy_copyG (q := 139) dX5_become_136 ml_RX5_39 rfl rfl rfl (by decide) (by omega) (Nat.le_of_ble_eq_true rfl) rfl (fun g5 h5 k5 => ?_)
  refine zx_aload_n (q := 140) dX5_become_139 rfl rfl rfl ?_
  refine zy_getR (q := 143) dX5_become_140 fl_RX5_29 rfl rfl rfl rfl ?_
  refine zx_iconst (q := 144) (v := 0) dX5_become_143 (by decide) rfl ?_
  refine zx_aload_n (q := 145) dX5_become_144 rfl rfl rfl ?_
  refine zy_getR (q := 148) dX5_become_145 fl_RX5_29 rfl rfl rfl rfl ?_
  refine zx_iconst (q := 149) (v := 0) dX5_become_148 (by decide) rfl ?_
  refine zx_bipush (q := 151) (v := 12) dX5_become_149 (by decide) rfl ?_
  refine zy_copyG (q := 154) dX5_become_151 ml_RX5_39 rfl rfl rfl (by decide) (by omega) (Nat.le_of_ble_eq_true rfl) rfl (fun g6 h6 k6 => ?_)
  refine zx_aload_n (q := 155) dX5_become_154 rfl rfl rfl ?_
  refine zx_aload_n (q := 156) dX5_become_155 rfl rfl rfl ?_
  refine zy_getI (q := 159) dX5_become_156 fl_RX5_32 rfl rfl rfl ?_
  refine zy_putI (q := 162) dX5_become_159 fl_RX5_32 rfl rfl ⟨rfl, rfl⟩ rfl rfl ?_
  refine zx_vret dX5_become_162 rfl (Nat.le_refl _) (Nat.le_refl _) ⟨rfl, ?_⟩
  refine ⟨_, rfl, fun k j hk => ?_, fun j hj => ?_, fun s hs => ?_, fun j hj => ?_, fun k hk => ?_⟩
  · rw [z_u_ne _ _ (by omega), h6 _ _ (by omega), h5 _ _ (by omega), z_u_ne _ _ (by omega), h4 _ _ (by omega), z_u_ne _ _ (by omega), h3 _ _ (by omega), h2 _ _ (by omega), hF _ _ (by omega) (by omega), z_u_ne _ _ (by omega)]
  · rcases hj with hj | hj | hj | hj <;> subst hj
    · rw [z_u_ne _ _ (by omega), h6 _ _ (by omega), h5 _ _ (by omega), z_u_ne _ _ (by omega), h4 _ _ (by omega), z_u_ne _ _ (by omega), h3 _ _ (by omega), h2 _ _ (by omega), hF _ _ (by omega) (by omega), z_u_at]
    · rw [z_u_ne _ _ (by omega), h6 _ _ (by omega), h5 _ _ (by omega), z_u_ne _ _ (by omega), h4 _ _ (by omega), z_u_at, h3 _ _ (by omega), h2 _ _ (by omega), hF _ _ (by omega) (by omega), z_u_ne _ _ (by omega)]
    · rw [z_u_ne _ _ (by omega), h6 _ _ (by omega), h5 _ _ (by omega), z_u_at, h4 _ _ (by omega), z_u_ne _ _ (by omega), h3 _ _ (by omega), h2 _ _ (by omega), hF _ _ (by omega) (by omega), z_u_ne _ _ (by omega)]
    · rw [z_u_at, h6 _ _ (by omega), h5 _ _ (by omega), z_u_ne _ _ (by omega), h4 _ _ (by omega), z_u_ne _ _ (by omega), h3 _ _ (by omega), h2 _ _ (by omega), hF _ _ (by omega) (by omega), z_u_ne _ _ (by omega)]
  · obtain ⟨a1, a2⟩ := kF s (by omega) hs
    refine ⟨fun j hj => ?_, fun j hj => ?_, ?_, ?_⟩
    · rw [z_u_ne _ _ (by omega), h6 _ _ (by omega), h5 _ _ (by omega), z_u_ne _ _ (by omega), h4 _ _ (by omega), z_u_ne _ _ (by omega), h3 _ _ (by omega), h2 _ _ (by omega), a1 j hj, z_u_ne _ _ (by omega)]
    · rw [z_u_ne _ _ (by omega), h6 _ _ (by omega), h5 _ _ (by omega), z_u_ne _ _ (by omega), h4 _ _ (by omega), z_u_ne _ _ (by omega), h3 _ _ (by omega), h2 _ _ (by omega), a2 j hj, z_u_ne _ _ (by omega)]
    · rw [z_u_ne _ _ (by omega), h6 _ _ (by omega), h5 _ _ (by omega), z_u_ne _ _ (by omega), h4 _ _ (by omega), z_u_ne _ _ (by omega), h3 _ _ (by omega), k2 s hs, hF _ _ (by omega) (by omega), z_u_ne _ _ (by omega)]
    · rw [z_u_ne _ _ (by omega), h6 _ _ (by omega), h5 _ _ (by omega), z_u_ne _ _ (by omega), h4 _ _ (by omega), z_u_ne _ _ (by omega), k3 s hs, h2 _ _ (by omega), hF _ _ (by omega) (by omega), z_u_ne _ _ (by omega)]
  · rw [z_u_ne _ _ (by omega), h6 _ _ (by omega), h5 _ _ (by omega), z_u_ne _ _ (by omega), k4 j hj, z_u_ne _ _ (by omega), h3 _ _ (by omega), h2 _ _ (by omega), hF _ _ (by omega) (by omega), z_u_ne _ _ (by omega)]
  · exact ⟨by rw [z_u_ne _ _ (by omega), h6 _ _ (by omega), k5 k hk, z_u_ne _ _ (by omega), h4 _ _ (by omega), z_u_ne _ _ (by omega), h3 _ _ (by omega), h2 _ _ (by omega), hF _ _ (by omega) (by omega), z_u_ne _ _ (by omega)], by rw [z_u_ne _ _ (by omega), k6 k hk, h5 _ _ (by omega), z_u_ne _ _ (by omega), h4 _ _ (by omega), z_u_ne _ _ (by omega), h3 _ _ (by omega), h2 _ _ (by omega), hF _ _ (by omega) (by omega), z_u_ne _ _ (by omega)]⟩
theorem lp_become1 (d : Nat) : ∀ (k i : Nat) (gi : Nat → Nat → Int32), i + k = 5 → (∀ g' : Nat → Nat → Int32, (∀ c j, ¬ (1 + 2 + i ≤ c ∧ c ≤ 1 + 6) → ¬ (1 + 8 + i ≤ c ∧ c ≤ 1 + 12) → g' c j = gi c j) → (∀ s, i ≤ s → s < 5 → (∀ j, j < 6 → g' (1 + 2 + s) j = gi (20 + 2 + s) j) ∧ (∀ j, j < 3 → g' (1 + 8 + s) j = gi (20 + 8 + s) j)) → zW l D tc A mX5_become (d + 1) 0 0 0 0 58 [some (.ref 1), some (.ref 20), some (.int (nI 5))] [] (zs g' gl f) Q) →
    zW l D tc A mX5_become (d + 1) 0 0 0 0 10 [some (.ref 1), some (.ref 20), some (.int (nI i))] [] (zs gi gl f) Q := by
  intro k
  induction k using Nat.strongRecOn with
  | _ k ih =>
    intro i gi hi hQ
    refine zx_iload_n (q := 11) dX5_become_10 rfl rfl rfl ?_
    refine zx_iconst (q := 12) (v := 5) dX5_become_11 (by decide) rfl ?_
    refine zx_icmp_ge (q := 15) (t := 58) dX5_become_12 (by decide) rfl (fun c_12 => ?_) (fun c_12 => ?_)
    · have hi2 : i = 5 := by have := z_ge (x := 5) (n := 5) rfl (by omega) c_12; omega
      subst hi2
      exact hQ gi (fun c j _ _ => rfl) (fun s a b => by omega)
    · have hi2 : i < 5 := z_lt (x := 5) (n := 5) rfl (by omega) c_12
      refine zx_aload_n (q := 16) dX5_become_15 rfl rfl rfl ?_
      refine zy_getR (q := 19) dX5_become_16 fl_RX5_11 rfl rfl rfl rfl ?_
      refine zx_iload_n (q := 20) dX5_become_19 rfl rfl rfl ?_
      refine zy_aaldN (q := 21) dX5_become_20 rfl (by decide) (by omega) (by decide) (zr_21 (by omega)).1 rfl ?_
      refine zx_iconst (q := 22) (v := 0) dX5_become_21 (by decide) rfl ?_
      refine zx_aload_n (q := 23) dX5_become_22 rfl rfl rfl ?_
      refine zy_getR (q := 26) dX5_become_23 fl_RX5_11 rfl rfl rfl rfl ?_
      refine zx_iload_n (q := 27) dX5_become_26 rfl rfl rfl ?_
      refine zy_aaldN (q := 28) dX5_become_27 rfl (by decide) (by omega) (by decide) (zr_2 (by omega)).1 rfl ?_
      refine zx_iconst (q := 29) (v := 0) dX5_become_28 (by decide) rfl ?_
      refine zx_bipush (q := 31) (v := 6) dX5_become_29 (by decide) rfl ?_
      refine zy_copyG (q := 34) dX5_become_31 ml_RX5_39 (zr_21 (f := f) (by omega)).2 (zr_2 (f := f) (by omega)).2 rfl (by decide) (by omega) (Nat.le_of_ble_eq_true rfl) rfl (fun g1 h1 k1 => ?_)
      refine zx_aload_n (q := 35) dX5_become_34 rfl rfl rfl ?_
      refine zy_getR (q := 38) dX5_become_35 fl_RX5_16 rfl rfl rfl rfl ?_
      refine zx_iload_n (q := 39) dX5_become_38 rfl rfl rfl ?_
      refine zy_aaldN (q := 40) dX5_become_39 rfl (by decide) (by omega) (by decide) (zr_27 (by omega)).1 rfl ?_
      refine zx_iconst (q := 41) (v := 0) dX5_become_40 (by decide) rfl ?_
      refine zx_aload_n (q := 42) dX5_become_41 rfl rfl rfl ?_
      refine zy_getR (q := 45) dX5_become_42 fl_RX5_16 rfl rfl rfl rfl ?_
      refine zx_iload_n (q := 46) dX5_become_45 rfl rfl rfl ?_
      refine zy_aaldN (q := 47) dX5_become_46 rfl (by decide) (by omega) (by decide) (zr_8 (by omega)).1 rfl ?_
      refine zx_iconst (q := 48) (v := 0) dX5_become_47 (by decide) rfl ?_
      refine zx_iconst (q := 49) (v := 3) dX5_become_48 (by decide) rfl ?_
      refine zy_copyG (q := 52) dX5_become_49 ml_RX5_39 (zr_27 (f := f) (by omega)).2 (zr_8 (f := f) (by omega)).2 rfl (by decide) (by omega) (Nat.le_of_ble_eq_true rfl) rfl (fun g2 h2 k2 => ?_)
      refine zx_iinc2 (q := 55) dX5_become_52 rfl rfl ?_
      refine zx_goto (t := 10) dX5_become_55 (by decide) ?_
      rw [z_inc]
      refine ih (k - 1) (by omega) (i + 1) g2 (by omega) (fun g3 h3 k3 => hQ g3 (fun c j a b => ?_) (fun s a b => ?_))
      · rw [h3 c j (by omega) (by omega), h2 c j (by omega), h1 c j (by omega)]
      · by_cases e : s = i
        · subst e
          exact ⟨fun j hj => by rw [h3 _ _ (by omega) (by omega), h2 _ _ (by omega)]; exact k1 j hj, fun j hj => by rw [h3 _ _ (by omega) (by omega), k2 j hj, h1 _ _ (by omega)]⟩
        · obtain ⟨a1, a2⟩ := k3 s (by omega) b
          exact ⟨fun j hj => by rw [a1 j hj, h2 _ _ (by omega), h1 _ _ (by omega)], fun j hj => by rw [a2 j hj, h2 _ _ (by omega), h1 _ _ (by omega)]⟩
set_option maxHeartbeats 4000000 in
theorem t_become1 (d : Nat) : zCall l D tc A mX5_become (d + 1) 0 0 [.ref 1, .ref 20] (zs gi gl f) (zQv fun S' => ∃ g', S' = zs g' gl f ∧ (∀ k j, ¬ (1 ≤ k ∧ k ≤ 1 + 18) → g' k j = gi k j) ∧ (∀ j, j = 0 ∨ j = 4 ∨ j = 6 ∨ j = 9 → g' 1 j = gi 20 j) ∧ (∀ s, s < 5 → (∀ j, j < 6 → g' (1 + 2 + s) j = gi (20 + 2 + s) j) ∧ (∀ j, j < 3 → g' (1 + 8 + s) j = gi (20 + 8 + s) j) ∧ g' (1 + 14) s = gi (20 + 14) s ∧ g' (1 + 15) s = gi (20 + 15) s) ∧ (∀ j, j < 3 → g' (1 + 16) j = gi (20 + 16) j) ∧ (∀ k, k < 12 → g' (1 + 17) k = gi (20 + 17) k ∧ g' (1 + 18) k = gi (20 + 18) k)) := by
  show zW l D tc A mX5_become (d + 1) 0 0 0 0 0 [some (.ref 1), some (.ref 20), none] [] (zs gi gl f) _
  refine zx_aload_n (q := 1) dX5_become_0 rfl rfl rfl ?_
  refine zx_aload_n (q := 2) dX5_become_1 rfl rfl rfl ?_
  refine zy_getI (q := 5) dX5_become_2 fl_RX5_36 rfl rfl rfl ?_
  refine zy_putI (q := 8) dX5_become_5 fl_RX5_36 rfl rfl ⟨rfl, rfl⟩ rfl rfl ?_
  refine zx_iconst (q := 9) (v := 0) dX5_become_8 (by decide) rfl ?_
  refine zx_istore2 (q := 10) dX5_become_9 rfl rfl ?_
  refine lp_become1 d 5 0 _ (by omega) (fun g1 hF kF => ?_)
  refine zx_aload_n (q := 59) dX5_become_58 rfl rfl rfl ?_
  refine zy_getR (q := 62) dX5_become_59 fl_RX5_19 rfl rfl rfl rfl ?_
  refine zx_iconst (q := 63) (v := 0) dX5_become_62 (by decide) rfl ?_
  refine zy_aaldN (q := 64) dX5_become_63 rfl (by decide) (i := 0) (by omega) (by decide) rfl rfl ?_
  refine zx_iconst (q := 65) (v := 0) dX5_become_64 (by decide) rfl ?_
  refine zx_aload_n (q := 66) dX5_become_65 rfl rfl rfl ?_
  refine zy_getR (q := 69) dX5_become_66 fl_RX5_19 rfl rfl rfl rfl ?_
  refine zx_iconst (q := 70) (v := 0) dX5_become_69 (by decide) rfl ?_
  refine zy_aaldN (q := 71) dX5_become_70 rfl (by decide) (i := 0) (by omega) (by decide) rfl rfl ?_
  refine zx_iconst (q := 72) (v := 0) dX5_become_71 (by decide) rfl ?_
  refine zx_iconst (q := 73) (v := 5) dX5_become_72 (by decide) rfl ?_
  refine zy_copyG (q := 76) dX5_become_73 ml_RX5_39 rfl rfl rfl (by decide) (by omega) (Nat.le_of_ble_eq_true rfl) rfl (fun g2 h2 k2 => ?_)
  refine zx_aload_n (q := 77) dX5_become_76 rfl rfl rfl ?_
  refine zy_getR (q := 80) dX5_become_77 fl_RX5_19 rfl rfl rfl rfl ?_
  refine zx_iconst (q := 81) (v := 1) dX5_become_80 (by decide) rfl ?_
  refine zy_aaldN (q := 82) dX5_become_81 rfl (by decide) (i := 1) (by omega) (by decide) rfl rfl ?_
  refine zx_iconst (q := 83) (v := 0) dX5_become_82 (by decide) rfl ?_
  refine zx_aload_n (q := 84) dX5_become_83 rfl rfl rfl ?_
  refine zy_getR (q := 87) dX5_become_84 fl_RX5_19 rfl rfl rfl rfl ?_
  refine zx_iconst (q := 88) (v := 1) dX5_become_87 (by decide) rfl ?_
  refine zy_aaldN (q := 89) dX5_become_88 rfl (by decide) (i := 1) (by omega) (by decide) rfl rfl ?_
  refine zx_iconst (q := 90) (v := 0) dX5_become_89 (by decide) rfl ?_
  refine zx_iconst (q := 91) (v := 5) dX5_become_90 (by decide) rfl ?_
  refine zy_copyG (q := 94) dX5_become_91 ml_RX5_39 rfl rfl rfl (by decide) (by omega) (Nat.le_of_ble_eq_true rfl) rfl (fun g3 h3 k3 => ?_)
  refine zx_aload_n (q := 95) dX5_become_94 rfl rfl rfl ?_
  refine zx_aload_n (q := 96) dX5_become_95 rfl rfl rfl ?_
  refine zy_getI (q := 99) dX5_become_96 fl_RX5_45 rfl rfl rfl ?_
  refine zy_putI (q := 102) dX5_become_99 fl_RX5_45 rfl rfl ⟨rfl, rfl⟩ rfl rfl ?_
  refine zx_aload_n (q := 103) dX5_become_102 rfl rfl rfl ?_
  refine zy_getR (q := 106) dX5_become_103 fl_RX5_22 rfl rfl rfl rfl ?_
  refine zx_iconst (q := 107) (v := 0) dX5_become_106 (by decide) rfl ?_
  refine zx_aload_n (q := 108) dX5_become_107 rfl rfl rfl ?_
  refine zy_getR (q := 111) dX5_become_108 fl_RX5_22 rfl rfl rfl rfl ?_
  refine zx_iconst (q := 112) (v := 0) dX5_become_111 (by decide) rfl ?_
  refine zx_iconst (q := 113) (v := 3) dX5_become_112 (by decide) rfl ?_
  refine zy_copyG (q := 116) dX5_become_113 ml_RX5_39 rfl rfl rfl (by decide) (by omega) (Nat.le_of_ble_eq_true rfl) rfl (fun g4 h4 k4 => ?_)
  refine zx_aload_n (q := 117) dX5_become_116 rfl rfl rfl ?_
  refine zx_aload_n (q := 118) dX5_become_117 rfl rfl rfl ?_
  refine zy_getI (q := 121) dX5_become_118 fl_RX5_48 rfl rfl rfl ?_
  refine zy_putI (q := 124) dX5_become_121 fl_RX5_48 rfl rfl ⟨rfl, rfl⟩ rfl rfl ?_
  refine zx_aload_n (q := 125) dX5_become_124 rfl rfl rfl ?_
  refine zy_getR (q := 128) dX5_become_125 fl_RX5_26 rfl rfl rfl rfl ?_
  refine zx_iconst (q := 129) (v := 0) dX5_become_128 (by decide) rfl ?_
  refine zx_aload_n (q := 130) dX5_become_129 rfl rfl rfl ?_
  refine zy_getR (q := 133) dX5_become_130 fl_RX5_26 rfl rfl rfl rfl ?_
  refine zx_iconst (q := 134) (v := 0) dX5_become_133 (by decide) rfl ?_
  refine zx_bipush (q := 136) (v := 12) dX5_become_134 (by decide) rfl ?_
  refine zy_copyG (q := 139) dX5_become_136 ml_RX5_39 rfl rfl rfl (by decide) (by omega) (Nat.le_of_ble_eq_true rfl) rfl (fun g5 h5 k5 => ?_)
  refine zx_aload_n (q := 140) dX5_become_139 rfl rfl rfl ?_
  refine zy_getR (q := 143) dX5_become_140 fl_RX5_29 rfl rfl rfl rfl ?_
  refine zx_iconst (q := 144) (v := 0) dX5_become_143 (by decide) rfl ?_
  refine zx_aload_n (q := 145) dX5_become_144 rfl rfl rfl ?_
  refine zy_getR (q := 148) dX5_become_145 fl_RX5_29 rfl rfl rfl rfl ?_
  refine zx_iconst (q := 149) (v := 0) dX5_become_148 (by decide) rfl ?_
  refine zx_bipush (q := 151) (v := 12) dX5_become_149 (by decide) rfl ?_
  refine zy_copyG (q := 154) dX5_become_151 ml_RX5_39 rfl rfl rfl (by decide) (by omega) (Nat.le_of_ble_eq_true rfl) rfl (fun g6 h6 k6 => ?_)
  refine zx_aload_n (q := 155) dX5_become_154 rfl rfl rfl ?_
  refine zx_aload_n (q := 156) dX5_become_155 rfl rfl rfl ?_
  refine zy_getI (q := 159) dX5_become_156 fl_RX5_32 rfl rfl rfl ?_
  refine zy_putI (q := 162) dX5_become_159 fl_RX5_32 rfl rfl ⟨rfl, rfl⟩ rfl rfl ?_
  refine zx_vret dX5_become_162 rfl (Nat.le_refl _) (Nat.le_refl _) ⟨rfl, ?_⟩
  refine ⟨_, rfl, fun k j hk => ?_, fun j hj => ?_, fun s hs => ?_, fun j hj => ?_, fun k hk => ?_⟩
  · rw [z_u_ne _ _ (by omega), h6 _ _ (by omega), h5 _ _ (by omega), z_u_ne _ _ (by omega), h4 _ _ (by omega), z_u_ne _ _ (by omega), h3 _ _ (by omega), h2 _ _ (by omega), hF _ _ (by omega) (by omega), z_u_ne _ _ (by omega)]
  · rcases hj with hj | hj | hj | hj <;> subst hj
    · rw [z_u_ne _ _ (by omega), h6 _ _ (by omega), h5 _ _ (by omega), z_u_ne _ _ (by omega), h4 _ _ (by omega), z_u_ne _ _ (by omega), h3 _ _ (by omega), h2 _ _ (by omega), hF _ _ (by omega) (by omega), z_u_at]
    · rw [z_u_ne _ _ (by omega), h6 _ _ (by omega), h5 _ _ (by omega), z_u_ne _ _ (by omega), h4 _ _ (by omega), z_u_at, h3 _ _ (by omega), h2 _ _ (by omega), hF _ _ (by omega) (by omega), z_u_ne _ _ (by omega)]
    · rw [z_u_ne _ _ (by omega), h6 _ _ (by omega), h5 _ _ (by omega), z_u_at, h4 _ _ (by omega), z_u_ne _ _ (by omega), h3 _ _ (by omega), h2 _ _ (by omega), hF _ _ (by omega) (by omega), z_u_ne _ _ (by omega)]
    · rw [z_u_at, h6 _ _ (by omega), h5 _ _ (by omega), z_u_ne _ _ (by omega), h4 _ _ (by omega), z_u_ne _ _ (by omega), h3 _ _ (by omega), h2 _ _ (by omega), hF _ _ (by omega) (by omega), z_u_ne _ _ (by omega)]
  · obtain ⟨a1, a2⟩ := kF s (by omega) hs
    refine ⟨fun j hj => ?_, fun j hj => ?_, ?_, ?_⟩
    · rw [z_u_ne _ _ (by omega), h6 _ _ (by omega), h5 _ _ (by omega), z_u_ne _ _ (by omega), h4 _ _ (by omega), z_u_ne _ _ (by omega), h3 _ _ (by omega), h2 _ _ (by omega), a1 j hj, z_u_ne _ _ (by omega)]
    · rw [z_u_ne _ _ (by omega), h6 _ _ (by omega), h5 _ _ (by omega), z_u_ne _ _ (by omega), h4 _ _ (by omega), z_u_ne _ _ (by omega), h3 _ _ (by omega), h2 _ _ (by omega), a2 j hj, z_u_ne _ _ (by omega)]
    · rw [z_u_ne _ _ (by omega), h6 _ _ (by omega), h5 _ _ (by omega), z_u_ne _ _ (by omega), h4 _ _ (by omega), z_u_ne _ _ (by omega), h3 _ _ (by omega), k2 s hs, hF _ _ (by omega) (by omega), z_u_ne _ _ (by omega)]
    · rw [z_u_ne _ _ (by omega), h6 _ _ (by omega), h5 _ _ (by omega), z_u_ne _ _ (by omega), h4 _ _ (by omega), z_u_ne _ _ (by omega), k3 s hs, h2 _ _ (by omega), hF _ _ (by omega) (by omega), z_u_ne _ _ (by omega)]
  · rw [z_u_ne _ _ (by omega), h6 _ _ (by omega), h5 _ _ (by omega), z_u_ne _ _ (by omega), k4 j hj, z_u_ne _ _ (by omega), h3 _ _ (by omega), h2 _ _ (by omega), hF _ _ (by omega) (by omega), z_u_ne _ _ (by omega)]
  · exact ⟨by rw [z_u_ne _ _ (by omega), h6 _ _ (by omega), k5 k hk, z_u_ne _ _ (by omega), h4 _ _ (by omega), z_u_ne _ _ (by omega), h3 _ _ (by omega), h2 _ _ (by omega), hF _ _ (by omega) (by omega), z_u_ne _ _ (by omega)], by rw [z_u_ne _ _ (by omega), k6 k hk, h5 _ _ (by omega), z_u_ne _ _ (by omega), h4 _ _ (by omega), z_u_ne _ _ (by omega), h3 _ _ (by omega), h2 _ _ (by omega), hF _ _ (by omega) (by omega), z_u_ne _ _ (by omega)]⟩
end P22
