section P23
variable {l : Launch} {D : va_G} {tc : Nat → ClassId} {A : Nat → Prop} {S : zw_S} {gi : Nat → Nat → Int32} {gl : Nat → Nat → Int64} {f : Option Nat} {Q : Option Value → zw_S → Prop}
theorem lp_im1 (d : Nat) : ∀ (k i : Nat) (gi : Nat → Nat → Int32), i + k = 5 → (∀ g' : Nat → Nat → Int32, (∀ c j, ¬ ((c = 135 ∨ c = 136 ∨ c = 138 ∨ c = 139 ∨ c = 140) ∧ i ≤ j ∧ j < 5) → g' c j = gi c j) → (∀ j, i ≤ j → j < 5 → g' 135 j = gi 109 j ∧ g' 136 j = gi 110 j ∧ g' 138 j = gi 112 j ∧ g' 139 j = gi 113 j ∧ g' 140 j = gi 114 j) → zW l D tc A mX8_image d 0 0 0 0 110 [some (.ref 108), some (.int (nI 5))] [] (zs g' gl f) Q) →
    zW l D tc A mX8_image d 0 0 0 0 39 [some (.ref 108), some (.int (nI i))] [] (zs gi gl f) Q := by
  intro k
  induction k using Nat.strongRecOn with
  | _ k ih =>
    intro i gi hi hQ
    refine zx_iload_n (q := 40) dX8_image_39 rfl rfl rfl ?_
    refine zx_iconst (q := 41) (v := 5) dX8_image_40 (by decide) rfl ?_
    refine zx_icmp_ge (q := 44) (t := 110) dX8_image_41 (by decide) rfl (fun c_41 => ?_) (fun c_41 => ?_)
    · have hi2 : i = 5 := by have := z_ge (x := 5) (n := 5) rfl (by omega) c_41; omega
      subst hi2
      exact hQ gi (fun c j _ => rfl) (fun j a b => by omega)
    · have hi2 : i < 5 := z_lt (x := 5) (n := 5) rfl (by omega) c_41
      refine zx_aload_n (q := 45) dX8_image_44 rfl rfl rfl ?_
      refine zy_getR (q := 48) dX8_image_45 fl_RX8_151 rfl rfl rfl rfl ?_
      refine zx_iload_n (q := 49) dX8_image_48 rfl rfl rfl ?_
      refine zx_aload_n (q := 50) dX8_image_49 rfl rfl rfl ?_
      refine zy_getR (q := 53) dX8_image_50 fl_RX8_16 rfl rfl rfl rfl ?_
      refine zx_iload_n (q := 54) dX8_image_53 rfl rfl rfl ?_
      refine zy_ialdN (q := 55) dX8_image_54 rfl (by omega) (by first | decide | omega) rfl ?_
      refine zy_iastN (q := 56) dX8_image_55 rfl (by omega) (by first | decide | omega) rfl ?_
      refine zx_aload_n (q := 57) dX8_image_56 rfl rfl rfl ?_
      refine zy_getR (q := 60) dX8_image_57 fl_RX8_154 rfl rfl rfl rfl ?_
      refine zx_iload_n (q := 61) dX8_image_60 rfl rfl rfl ?_
      refine zx_aload_n (q := 62) dX8_image_61 rfl rfl rfl ?_
      refine zy_getR (q := 65) dX8_image_62 fl_RX8_20 rfl rfl rfl rfl ?_
      refine zx_iload_n (q := 66) dX8_image_65 rfl rfl rfl ?_
      refine zy_ialdN (q := 67) dX8_image_66 rfl (by omega) (by first | decide | omega) rfl ?_
      refine zy_iastN (q := 68) dX8_image_67 rfl (by omega) (by first | decide | omega) rfl ?_
      refine zx_aload_n (q := 69) dX8_image_68 rfl rfl rfl ?_
      refine zy_getR (q := 72) dX8_image_69 fl_RX8_160 rfl rfl rfl rfl ?_
      refine zx_iload_n (q := 73) dX8_image_72 rfl rfl rfl ?_
      refine zx_aload_n (q := 74) dX8_image_73 rfl rfl rfl ?_
      refine zy_getR (q := 77) dX8_image_74 fl_RX8_26 rfl rfl rfl rfl ?_
      refine zx_iload_n (q := 78) dX8_image_77 rfl rfl rfl ?_
      refine zy_ialdN (q := 79) dX8_image_78 rfl (by omega) (by first | decide | omega) rfl ?_
      refine zy_iastN (q := 80) dX8_image_79 rfl (by omega) (by first | decide | omega) rfl ?_
      refine zx_aload_n (q := 81) dX8_image_80 rfl rfl rfl ?_
      refine zy_getR (q := 84) dX8_image_81 fl_RX8_163 rfl rfl rfl rfl ?_
      refine zx_iload_n (q := 85) dX8_image_84 rfl rfl rfl ?_
      refine zx_aload_n (q := 86) dX8_image_85 rfl rfl rfl ?_
      refine zy_getR (q := 89) dX8_image_86 fl_RX8_29 rfl rfl rfl rfl ?_
      refine zx_iload_n (q := 90) dX8_image_89 rfl rfl rfl ?_
      refine zy_ialdN (q := 91) dX8_image_90 rfl (by omega) (by first | decide | omega) rfl ?_
      refine zy_iastN (q := 92) dX8_image_91 rfl (by omega) (by first | decide | omega) rfl ?_
      refine zx_aload_n (q := 93) dX8_image_92 rfl rfl rfl ?_
      refine zy_getR (q := 96) dX8_image_93 fl_RX8_166 rfl rfl rfl rfl ?_
      refine zx_iload_n (q := 97) dX8_image_96 rfl rfl rfl ?_
      refine zx_aload_n (q := 98) dX8_image_97 rfl rfl rfl ?_
      refine zy_getR (q := 101) dX8_image_98 fl_RX8_32 rfl rfl rfl rfl ?_
      refine zx_iload_n (q := 102) dX8_image_101 rfl rfl rfl ?_
      refine zy_ialdN (q := 103) dX8_image_102 rfl (by omega) (by first | decide | omega) rfl ?_
      refine zy_iastN (q := 104) dX8_image_103 rfl (by omega) (by first | decide | omega) rfl ?_
      refine zx_iinc1 (q := 107) dX8_image_104 rfl rfl ?_
      refine zx_goto (t := 39) dX8_image_107 (by decide) ?_
      rw [z_inc]
      refine ih (k - 1) (by omega) (i + 1) _ (by omega) (fun g3 h3 k3 => hQ g3 (fun c j a => ?_) (fun j a b => ?_))
      · rw [h3 c j (by omega), z_u_ne _ _ (by omega), z_u_ne _ _ (by omega), z_u_ne _ _ (by omega), z_u_ne _ _ (by omega), z_u_ne _ _ (by omega)]
      · by_cases e : j = i
        · subst e
          refine ⟨by rw [h3 135 j (by omega), z_u_ne _ _ (by omega), z_u_ne _ _ (by omega), z_u_ne _ _ (by omega), z_u_ne _ _ (by omega), z_u_at], by rw [h3 136 j (by omega), z_u_ne _ _ (by omega), z_u_ne _ _ (by omega), z_u_ne _ _ (by omega), z_u_at, z_u_ne _ _ (by omega)], by rw [h3 138 j (by omega), z_u_ne _ _ (by omega), z_u_ne _ _ (by omega), z_u_at, z_u_ne _ _ (by omega), z_u_ne _ _ (by omega)], by rw [h3 139 j (by omega), z_u_ne _ _ (by omega), z_u_at, z_u_ne _ _ (by omega), z_u_ne _ _ (by omega), z_u_ne _ _ (by omega)], by rw [h3 140 j (by omega), z_u_at, z_u_ne _ _ (by omega), z_u_ne _ _ (by omega), z_u_ne _ _ (by omega), z_u_ne _ _ (by omega)]⟩
        · have q := k3 j (by omega) b
          refine ⟨by rw [q.1, z_u_ne _ _ (by omega), z_u_ne _ _ (by omega), z_u_ne _ _ (by omega), z_u_ne _ _ (by omega), z_u_ne _ _ (by omega)], by rw [q.2.1, z_u_ne _ _ (by omega), z_u_ne _ _ (by omega), z_u_ne _ _ (by omega), z_u_ne _ _ (by omega), z_u_ne _ _ (by omega)], by rw [q.2.2.1, z_u_ne _ _ (by omega), z_u_ne _ _ (by omega), z_u_ne _ _ (by omega), z_u_ne _ _ (by omega), z_u_ne _ _ (by omega)], by rw [q.2.2.2.1, z_u_ne _ _ (by omega), z_u_ne _ _ (by omega), z_u_ne _ _ (by omega), z_u_ne _ _ (by omega), z_u_ne _ _ (by omega)], by rw [q.2.2.2.2, z_u_ne _ _ (by omega), z_u_ne _ _ (by omega), z_u_ne _ _ (by omega), z_u_ne _ _ (by omega), z_u_ne _ _ (by omega)]⟩
theorem lp_im2 (d : Nat) : ∀ (k i : Nat) (gi : Nat → Nat → Int32), i + k = 15 → (∀ g' : Nat → Nat → Int32, (∀ c j, ¬ ((c = 137 ∨ c = 141) ∧ i ≤ j ∧ j < 15) → g' c j = gi c j) → (∀ j, i ≤ j → j < 15 → g' 137 j = gi 111 j ∧ g' 141 j = gi 115 j) → zW l D tc A mX8_image d 0 0 0 0 148 [some (.ref 108), some (.int (nI 15))] [] (zs g' gl f) Q) →
    zW l D tc A mX8_image d 0 0 0 0 112 [some (.ref 108), some (.int (nI i))] [] (zs gi gl f) Q := by
  intro k
  induction k using Nat.strongRecOn with
  | _ k ih =>
    intro i gi hi hQ
    refine zx_iload_n (q := 113) dX8_image_112 rfl rfl rfl ?_
    refine zx_bipush (q := 115) (v := 15) dX8_image_113 (by decide) rfl ?_
    refine zx_icmp_ge (q := 118) (t := 148) dX8_image_115 (by decide) rfl (fun c_115 => ?_) (fun c_115 => ?_)
    · have hi2 : i = 15 := by have := z_ge (x := 15) (n := 15) rfl (by omega) c_115; omega
      subst hi2
      exact hQ gi (fun c j _ => rfl) (fun j a b => by omega)
    · have hi2 : i < 15 := z_lt (x := 15) (n := 15) rfl (by omega) c_115
      refine zx_aload_n (q := 119) dX8_image_118 rfl rfl rfl ?_
      refine zy_getR (q := 122) dX8_image_119 fl_RX8_157 rfl rfl rfl rfl ?_
      refine zx_iload_n (q := 123) dX8_image_122 rfl rfl rfl ?_
      refine zx_aload_n (q := 124) dX8_image_123 rfl rfl rfl ?_
      refine zy_getR (q := 127) dX8_image_124 fl_RX8_23 rfl rfl rfl rfl ?_
      refine zx_iload_n (q := 128) dX8_image_127 rfl rfl rfl ?_
      refine zy_ialdN (q := 129) dX8_image_128 rfl (by omega) (by first | decide | omega) rfl ?_
      refine zy_iastN (q := 130) dX8_image_129 rfl (by omega) (by first | decide | omega) rfl ?_
      refine zx_aload_n (q := 131) dX8_image_130 rfl rfl rfl ?_
      refine zy_getR (q := 134) dX8_image_131 fl_RX8_169 rfl rfl rfl rfl ?_
      refine zx_iload_n (q := 135) dX8_image_134 rfl rfl rfl ?_
      refine zx_aload_n (q := 136) dX8_image_135 rfl rfl rfl ?_
      refine zy_getR (q := 139) dX8_image_136 fl_RX8_35 rfl rfl rfl rfl ?_
      refine zx_iload_n (q := 140) dX8_image_139 rfl rfl rfl ?_
      refine zy_ialdN (q := 141) dX8_image_140 rfl (by omega) (by first | decide | omega) rfl ?_
      refine zy_iastN (q := 142) dX8_image_141 rfl (by omega) (by first | decide | omega) rfl ?_
      refine zx_iinc1 (q := 145) dX8_image_142 rfl rfl ?_
      refine zx_goto (t := 112) dX8_image_145 (by decide) ?_
      rw [z_inc]
      refine ih (k - 1) (by omega) (i + 1) _ (by omega) (fun g3 h3 k3 => hQ g3 (fun c j a => ?_) (fun j a b => ?_))
      · rw [h3 c j (by omega), z_u_ne _ _ (by omega), z_u_ne _ _ (by omega)]
      · by_cases e : j = i
        · subst e
          refine ⟨by rw [h3 137 j (by omega), z_u_ne _ _ (by omega), z_u_at], by rw [h3 141 j (by omega), z_u_at, z_u_ne _ _ (by omega)]⟩
        · have q := k3 j (by omega) b
          refine ⟨by rw [q.1, z_u_ne _ _ (by omega), z_u_ne _ _ (by omega)], by rw [q.2, z_u_ne _ _ (by omega), z_u_ne _ _ (by omega)]⟩
theorem lp_im3 (d : Nat) : ∀ (k i : Nat) (gi : Nat → Nat → Int32), i + k = 3 → (∀ g' : Nat → Nat → Int32, (∀ c j, ¬ ((c = 142) ∧ i ≤ j ∧ j < 3) → g' c j = gi c j) → (∀ j, i ≤ j → j < 3 → g' 142 j = gi 116 j) → zW l D tc A mX8_image d 0 0 0 0 173 [some (.ref 108), some (.int (nI 3))] [] (zs g' gl f) Q) →
    zW l D tc A mX8_image d 0 0 0 0 150 [some (.ref 108), some (.int (nI i))] [] (zs gi gl f) Q := by
  intro k
  induction k using Nat.strongRecOn with
  | _ k ih =>
    intro i gi hi hQ
    refine zx_iload_n (q := 151) dX8_image_150 rfl rfl rfl ?_
    refine zx_iconst (q := 152) (v := 3) dX8_image_151 (by decide) rfl ?_
    refine zx_icmp_ge (q := 155) (t := 173) dX8_image_152 (by decide) rfl (fun c_152 => ?_) (fun c_152 => ?_)
    · have hi2 : i = 3 := by have := z_ge (x := 3) (n := 3) rfl (by omega) c_152; omega
      subst hi2
      exact hQ gi (fun c j _ => rfl) (fun j a b => by omega)
    · have hi2 : i < 3 := z_lt (x := 3) (n := 3) rfl (by omega) c_152
      refine zx_aload_n (q := 156) dX8_image_155 rfl rfl rfl ?_
      refine zy_getR (q := 159) dX8_image_156 fl_RX8_172 rfl rfl rfl rfl ?_
      refine zx_iload_n (q := 160) dX8_image_159 rfl rfl rfl ?_
      refine zx_aload_n (q := 161) dX8_image_160 rfl rfl rfl ?_
      refine zy_getR (q := 164) dX8_image_161 fl_RX8_38 rfl rfl rfl rfl ?_
      refine zx_iload_n (q := 165) dX8_image_164 rfl rfl rfl ?_
      refine zy_ialdN (q := 166) dX8_image_165 rfl (by omega) (by first | decide | omega) rfl ?_
      refine zy_iastN (q := 167) dX8_image_166 rfl (by omega) (by first | decide | omega) rfl ?_
      refine zx_iinc1 (q := 170) dX8_image_167 rfl rfl ?_
      refine zx_goto (t := 150) dX8_image_170 (by decide) ?_
      rw [z_inc]
      refine ih (k - 1) (by omega) (i + 1) _ (by omega) (fun g3 h3 k3 => hQ g3 (fun c j a => ?_) (fun j a b => ?_))
      · rw [h3 c j (by omega), z_u_ne _ _ (by omega)]
      · by_cases e : j = i
        · subst e
          exact (by rw [h3 142 j (by omega), z_u_at])
        · have q := k3 j (by omega) b
          exact (by rw [q, z_u_ne _ _ (by omega)])
theorem lp_im4 (d : Nat) : ∀ (k i : Nat) (gi : Nat → Nat → Int32), i + k = 12 → (∀ g' : Nat → Nat → Int32, (∀ c j, ¬ ((c = 143 ∨ c = 144) ∧ i ≤ j ∧ j < 12) → g' c j = gi c j) → (∀ j, i ≤ j → j < 12 → g' 143 j = gi 133 j ∧ g' 144 j = gi 134 j) → zW l D tc A mX8_image d 0 0 0 0 211 [some (.ref 108), some (.int (nI 12))] [] (zs g' gl f) Q) →
    zW l D tc A mX8_image d 0 0 0 0 175 [some (.ref 108), some (.int (nI i))] [] (zs gi gl f) Q := by
  intro k
  induction k using Nat.strongRecOn with
  | _ k ih =>
    intro i gi hi hQ
    refine zx_iload_n (q := 176) dX8_image_175 rfl rfl rfl ?_
    refine zx_bipush (q := 178) (v := 12) dX8_image_176 (by decide) rfl ?_
    refine zx_icmp_ge (q := 181) (t := 211) dX8_image_178 (by decide) rfl (fun c_178 => ?_) (fun c_178 => ?_)
    · have hi2 : i = 12 := by have := z_ge (x := 12) (n := 12) rfl (by omega) c_178; omega
      subst hi2
      exact hQ gi (fun c j _ => rfl) (fun j a b => by omega)
    · have hi2 : i < 12 := z_lt (x := 12) (n := 12) rfl (by omega) c_178
      refine zx_aload_n (q := 182) dX8_image_181 rfl rfl rfl ?_
      refine zy_getR (q := 185) dX8_image_182 fl_RX8_175 rfl rfl rfl rfl ?_
      refine zx_iload_n (q := 186) dX8_image_185 rfl rfl rfl ?_
      refine zx_aload_n (q := 187) dX8_image_186 rfl rfl rfl ?_
      refine zy_getR (q := 190) dX8_image_187 fl_RX8_129 rfl rfl rfl rfl ?_
      refine zx_iload_n (q := 191) dX8_image_190 rfl rfl rfl ?_
      refine zy_ialdN (q := 192) dX8_image_191 rfl (by omega) (by first | decide | omega) rfl ?_
      refine zy_iastN (q := 193) dX8_image_192 rfl (by omega) (by first | decide | omega) rfl ?_
      refine zx_aload_n (q := 194) dX8_image_193 rfl rfl rfl ?_
      refine zy_getR (q := 197) dX8_image_194 fl_RX8_178 rfl rfl rfl rfl ?_
      refine zx_iload_n (q := 198) dX8_image_197 rfl rfl rfl ?_
      refine zx_aload_n (q := 199) dX8_image_198 rfl rfl rfl ?_
      refine zy_getR (q := 202) dX8_image_199 fl_RX8_132 rfl rfl rfl rfl ?_
      refine zx_iload_n (q := 203) dX8_image_202 rfl rfl rfl ?_
      refine zy_ialdN (q := 204) dX8_image_203 rfl (by omega) (by first | decide | omega) rfl ?_
      refine zy_iastN (q := 205) dX8_image_204 rfl (by omega) (by first | decide | omega) rfl ?_
      refine zx_iinc1 (q := 208) dX8_image_205 rfl rfl ?_
      refine zx_goto (t := 175) dX8_image_208 (by decide) ?_
      rw [z_inc]
      refine ih (k - 1) (by omega) (i + 1) _ (by omega) (fun g3 h3 k3 => hQ g3 (fun c j a => ?_) (fun j a b => ?_))
      · rw [h3 c j (by omega), z_u_ne _ _ (by omega), z_u_ne _ _ (by omega)]
      · by_cases e : j = i
        · subst e
          refine ⟨by rw [h3 143 j (by omega), z_u_ne _ _ (by omega), z_u_at], by rw [h3 144 j (by omega), z_u_at, z_u_ne _ _ (by omega)]⟩
        · have q := k3 j (by omega) b
          refine ⟨by rw [q.1, z_u_ne _ _ (by omega), z_u_ne _ _ (by omega)], by rw [q.2, z_u_ne _ _ (by omega), z_u_ne _ _ (by omega)]⟩
theorem lp_un1 (d : Nat) : ∀ (k i : Nat) (gi : Nat → Nat → Int32), i + k = 5 → (∀ g' : Nat → Nat → Int32, (∀ c j, ¬ ((c = 109 ∨ c = 110 ∨ c = 112 ∨ c = 113 ∨ c = 114) ∧ i ≤ j ∧ j < 5) → g' c j = gi c j) → (∀ j, i ≤ j → j < 5 → g' 109 j = gi 135 j ∧ g' 110 j = gi 136 j ∧ g' 112 j = gi 138 j ∧ g' 113 j = gi 139 j ∧ g' 114 j = gi 140 j) → zW l D tc A mX8_undo d 0 0 0 0 115 [some (.ref 108), some (.int (nI 5))] [] (zs g' gl f) Q) →
    zW l D tc A mX8_undo d 0 0 0 0 44 [some (.ref 108), some (.int (nI i))] [] (zs gi gl f) Q := by
  intro k
  induction k using Nat.strongRecOn with
  | _ k ih =>
    intro i gi hi hQ
    refine zx_iload_n (q := 45) dX8_undo_44 rfl rfl rfl ?_
    refine zx_iconst (q := 46) (v := 5) dX8_undo_45 (by decide) rfl ?_
    refine zx_icmp_ge (q := 49) (t := 115) dX8_undo_46 (by decide) rfl (fun c_46 => ?_) (fun c_46 => ?_)
    · have hi2 : i = 5 := by have := z_ge (x := 5) (n := 5) rfl (by omega) c_46; omega
      subst hi2
      exact hQ gi (fun c j _ => rfl) (fun j a b => by omega)
    · have hi2 : i < 5 := z_lt (x := 5) (n := 5) rfl (by omega) c_46
      refine zx_aload_n (q := 50) dX8_undo_49 rfl rfl rfl ?_
      refine zy_getR (q := 53) dX8_undo_50 fl_RX8_16 rfl rfl rfl rfl ?_
      refine zx_iload_n (q := 54) dX8_undo_53 rfl rfl rfl ?_
      refine zx_aload_n (q := 55) dX8_undo_54 rfl rfl rfl ?_
      refine zy_getR (q := 58) dX8_undo_55 fl_RX8_151 rfl rfl rfl rfl ?_
      refine zx_iload_n (q := 59) dX8_undo_58 rfl rfl rfl ?_
      refine zy_ialdN (q := 60) dX8_undo_59 rfl (by omega) (by first | decide | omega) rfl ?_
      refine zy_iastN (q := 61) dX8_undo_60 rfl (by omega) (by first | decide | omega) rfl ?_
      refine zx_aload_n (q := 62) dX8_undo_61 rfl rfl rfl ?_
      refine zy_getR (q := 65) dX8_undo_62 fl_RX8_20 rfl rfl rfl rfl ?_
      refine zx_iload_n (q := 66) dX8_undo_65 rfl rfl rfl ?_
      refine zx_aload_n (q := 67) dX8_undo_66 rfl rfl rfl ?_
      refine zy_getR (q := 70) dX8_undo_67 fl_RX8_154 rfl rfl rfl rfl ?_
      refine zx_iload_n (q := 71) dX8_undo_70 rfl rfl rfl ?_
      refine zy_ialdN (q := 72) dX8_undo_71 rfl (by omega) (by first | decide | omega) rfl ?_
      refine zy_iastN (q := 73) dX8_undo_72 rfl (by omega) (by first | decide | omega) rfl ?_
      refine zx_aload_n (q := 74) dX8_undo_73 rfl rfl rfl ?_
      refine zy_getR (q := 77) dX8_undo_74 fl_RX8_26 rfl rfl rfl rfl ?_
      refine zx_iload_n (q := 78) dX8_undo_77 rfl rfl rfl ?_
      refine zx_aload_n (q := 79) dX8_undo_78 rfl rfl rfl ?_
      refine zy_getR (q := 82) dX8_undo_79 fl_RX8_160 rfl rfl rfl rfl ?_
      refine zx_iload_n (q := 83) dX8_undo_82 rfl rfl rfl ?_
      refine zy_ialdN (q := 84) dX8_undo_83 rfl (by omega) (by first | decide | omega) rfl ?_
      refine zy_iastN (q := 85) dX8_undo_84 rfl (by omega) (by first | decide | omega) rfl ?_
      refine zx_aload_n (q := 86) dX8_undo_85 rfl rfl rfl ?_
      refine zy_getR (q := 89) dX8_undo_86 fl_RX8_29 rfl rfl rfl rfl ?_
      refine zx_iload_n (q := 90) dX8_undo_89 rfl rfl rfl ?_
      refine zx_aload_n (q := 91) dX8_undo_90 rfl rfl rfl ?_
      refine zy_getR (q := 94) dX8_undo_91 fl_RX8_163 rfl rfl rfl rfl ?_
      refine zx_iload_n (q := 95) dX8_undo_94 rfl rfl rfl ?_
      refine zy_ialdN (q := 96) dX8_undo_95 rfl (by omega) (by first | decide | omega) rfl ?_
      refine zy_iastN (q := 97) dX8_undo_96 rfl (by omega) (by first | decide | omega) rfl ?_
      refine zx_aload_n (q := 98) dX8_undo_97 rfl rfl rfl ?_
      refine zy_getR (q := 101) dX8_undo_98 fl_RX8_32 rfl rfl rfl rfl ?_
      refine zx_iload_n (q := 102) dX8_undo_101 rfl rfl rfl ?_
      refine zx_aload_n (q := 103) dX8_undo_102 rfl rfl rfl ?_
      refine zy_getR (q := 106) dX8_undo_103 fl_RX8_166 rfl rfl rfl rfl ?_
      refine zx_iload_n (q := 107) dX8_undo_106 rfl rfl rfl ?_
      refine zy_ialdN (q := 108) dX8_undo_107 rfl (by omega) (by first | decide | omega) rfl ?_
      refine zy_iastN (q := 109) dX8_undo_108 rfl (by omega) (by first | decide | omega) rfl ?_
      refine zx_iinc1 (q := 112) dX8_undo_109 rfl rfl ?_
      refine zx_goto (t := 44) dX8_undo_112 (by decide) ?_
      rw [z_inc]
      refine ih (k - 1) (by omega) (i + 1) _ (by omega) (fun g3 h3 k3 => hQ g3 (fun c j a => ?_) (fun j a b => ?_))
      · rw [h3 c j (by omega), z_u_ne _ _ (by omega), z_u_ne _ _ (by omega), z_u_ne _ _ (by omega), z_u_ne _ _ (by omega), z_u_ne _ _ (by omega)]
      · by_cases e : j = i
        · subst e
          refine ⟨by rw [h3 109 j (by omega), z_u_ne _ _ (by omega), z_u_ne _ _ (by omega), z_u_ne _ _ (by omega), z_u_ne _ _ (by omega), z_u_at], by rw [h3 110 j (by omega), z_u_ne _ _ (by omega), z_u_ne _ _ (by omega), z_u_ne _ _ (by omega), z_u_at, z_u_ne _ _ (by omega)], by rw [h3 112 j (by omega), z_u_ne _ _ (by omega), z_u_ne _ _ (by omega), z_u_at, z_u_ne _ _ (by omega), z_u_ne _ _ (by omega)], by rw [h3 113 j (by omega), z_u_ne _ _ (by omega), z_u_at, z_u_ne _ _ (by omega), z_u_ne _ _ (by omega), z_u_ne _ _ (by omega)], by rw [h3 114 j (by omega), z_u_at, z_u_ne _ _ (by omega), z_u_ne _ _ (by omega), z_u_ne _ _ (by omega), z_u_ne _ _ (by omega)]⟩
        · have q := k3 j (by omega) b
          refine ⟨by rw [q.1, z_u_ne _ _ (by omega), z_u_ne _ _ (by omega), z_u_ne _ _ (by omega), z_u_ne _ _ (by omega), z_u_ne _ _ (by omega)], by rw [q.2.1, z_u_ne _ _ (by omega), z_u_ne _ _ (by omega), z_u_ne _ _ (by omega), z_u_ne _ _ (by omega), z_u_ne _ _ (by omega)], by rw [q.2.2.1, z_u_ne _ _ (by omega), z_u_ne _ _ (by omega), z_u_ne _ _ (by omega), z_u_ne _ _ (by omega), z_u_ne _ _ (by omega)], by rw [q.2.2.2.1, z_u_ne _ _ (by omega), z_u_ne _ _ (by omega), z_u_ne _ _ (by omega), z_u_ne _ _ (by omega), z_u_ne _ _ (by omega)], by rw [q.2.2.2.2, z_u_ne _ _ (by omega), z_u_ne _ _ (by omega), z_u_ne _ _ (by omega), z_u_ne _ _ (by omega), z_u_ne _ _ (by omega)]⟩
theorem lp_un2 (d : Nat) : ∀ (k i : Nat) (gi : Nat → Nat → Int32), i + k = 15 → (∀ g' : Nat → Nat → Int32, (∀ c j, ¬ ((c = 111 ∨ c = 115) ∧ i ≤ j ∧ j < 15) → g' c j = gi c j) → (∀ j, i ≤ j → j < 15 → g' 111 j = gi 137 j ∧ g' 115 j = gi 141 j) → zW l D tc A mX8_undo d 0 0 0 0 153 [some (.ref 108), some (.int (nI 15))] [] (zs g' gl f) Q) →
    zW l D tc A mX8_undo d 0 0 0 0 117 [some (.ref 108), some (.int (nI i))] [] (zs gi gl f) Q := by
  intro k
  induction k using Nat.strongRecOn with
  | _ k ih =>
    intro i gi hi hQ
    refine zx_iload_n (q := 118) dX8_undo_117 rfl rfl rfl ?_
    refine zx_bipush (q := 120) (v := 15) dX8_undo_118 (by decide) rfl ?_
    refine zx_icmp_ge (q := 123) (t := 153) dX8_undo_120 (by decide) rfl (fun c_120 => ?_) (fun c_120 => ?_)
    · have hi2 : i = 15 := by have := z_ge (x := 15) (n := 15) rfl (by omega) c_120; omega
      subst hi2
      exact hQ gi (fun c j _ => rfl) (fun j a b => by omega)
    · have hi2 : i < 15 := z_lt (x := 15) (n := 15) rfl (by omega) c_120
      refine zx_aload_n (q := 124) dX8_undo_123 rfl rfl rfl ?_
      refine zy_getR (q := 127) dX8_undo_124 fl_RX8_23 rfl rfl rfl rfl ?_
      refine zx_iload_n (q := 128) dX8_undo_127 rfl rfl rfl ?_
      refine zx_aload_n (q := 129) dX8_undo_128 rfl rfl rfl ?_
      refine zy_getR (q := 132) dX8_undo_129 fl_RX8_157 rfl rfl rfl rfl ?_
      refine zx_iload_n (q := 133) dX8_undo_132 rfl rfl rfl ?_
      refine zy_ialdN (q := 134) dX8_undo_133 rfl (by omega) (by first | decide | omega) rfl ?_
      refine zy_iastN (q := 135) dX8_undo_134 rfl (by omega) (by first | decide | omega) rfl ?_
      refine zx_aload_n (q := 136) dX8_undo_135 rfl rfl rfl ?_
      refine zy_getR (q := 139) dX8_undo_136 fl_RX8_35 rfl rfl rfl rfl ?_
      refine zx_iload_n (q := 140) dX8_undo_139 rfl rfl rfl ?_
      refine zx_aload_n (q := 141) dX8_undo_140 rfl rfl rfl ?_
      refine zy_getR (q := 144) dX8_undo_141 fl_RX8_169 rfl rfl rfl rfl ?_
      refine zx_iload_n (q := 145) dX8_undo_144 rfl rfl rfl ?_
      refine zy_ialdN (q := 146) dX8_undo_145 rfl (by omega) (by first | decide | omega) rfl ?_
      refine zy_iastN (q := 147) dX8_undo_146 rfl (by omega) (by first | decide | omega) rfl ?_
      refine zx_iinc1 (q := 150) dX8_undo_147 rfl rfl ?_
      refine zx_goto (t := 117) dX8_undo_150 (by decide) ?_
      rw [z_inc]
      refine ih (k - 1) (by omega) (i + 1) _ (by omega) (fun g3 h3 k3 => hQ g3 (fun c j a => ?_) (fun j a b => ?_))
      · rw [h3 c j (by omega), z_u_ne _ _ (by omega), z_u_ne _ _ (by omega)]
      · by_cases e : j = i
        · subst e
          refine ⟨by rw [h3 111 j (by omega), z_u_ne _ _ (by omega), z_u_at], by rw [h3 115 j (by omega), z_u_at, z_u_ne _ _ (by omega)]⟩
        · have q := k3 j (by omega) b
          refine ⟨by rw [q.1, z_u_ne _ _ (by omega), z_u_ne _ _ (by omega)], by rw [q.2, z_u_ne _ _ (by omega), z_u_ne _ _ (by omega)]⟩
theorem lp_un3 (d : Nat) : ∀ (k i : Nat) (gi : Nat → Nat → Int32), i + k = 3 → (∀ g' : Nat → Nat → Int32, (∀ c j, ¬ ((c = 116) ∧ i ≤ j ∧ j < 3) → g' c j = gi c j) → (∀ j, i ≤ j → j < 3 → g' 116 j = gi 142 j) → zW l D tc A mX8_undo d 0 0 0 0 178 [some (.ref 108), some (.int (nI 3))] [] (zs g' gl f) Q) →
    zW l D tc A mX8_undo d 0 0 0 0 155 [some (.ref 108), some (.int (nI i))] [] (zs gi gl f) Q := by
  intro k
  induction k using Nat.strongRecOn with
  | _ k ih =>
    intro i gi hi hQ
    refine zx_iload_n (q := 156) dX8_undo_155 rfl rfl rfl ?_
    refine zx_iconst (q := 157) (v := 3) dX8_undo_156 (by decide) rfl ?_
    refine zx_icmp_ge (q := 160) (t := 178) dX8_undo_157 (by decide) rfl (fun c_157 => ?_) (fun c_157 => ?_)
    · have hi2 : i = 3 := by have := z_ge (x := 3) (n := 3) rfl (by omega) c_157; omega
      subst hi2
      exact hQ gi (fun c j _ => rfl) (fun j a b => by omega)
    · have hi2 : i < 3 := z_lt (x := 3) (n := 3) rfl (by omega) c_157
      refine zx_aload_n (q := 161) dX8_undo_160 rfl rfl rfl ?_
      refine zy_getR (q := 164) dX8_undo_161 fl_RX8_38 rfl rfl rfl rfl ?_
      refine zx_iload_n (q := 165) dX8_undo_164 rfl rfl rfl ?_
      refine zx_aload_n (q := 166) dX8_undo_165 rfl rfl rfl ?_
      refine zy_getR (q := 169) dX8_undo_166 fl_RX8_172 rfl rfl rfl rfl ?_
      refine zx_iload_n (q := 170) dX8_undo_169 rfl rfl rfl ?_
      refine zy_ialdN (q := 171) dX8_undo_170 rfl (by omega) (by first | decide | omega) rfl ?_
      refine zy_iastN (q := 172) dX8_undo_171 rfl (by omega) (by first | decide | omega) rfl ?_
      refine zx_iinc1 (q := 175) dX8_undo_172 rfl rfl ?_
      refine zx_goto (t := 155) dX8_undo_175 (by decide) ?_
      rw [z_inc]
      refine ih (k - 1) (by omega) (i + 1) _ (by omega) (fun g3 h3 k3 => hQ g3 (fun c j a => ?_) (fun j a b => ?_))
      · rw [h3 c j (by omega), z_u_ne _ _ (by omega)]
      · by_cases e : j = i
        · subst e
          exact (by rw [h3 116 j (by omega), z_u_at])
        · have q := k3 j (by omega) b
          exact (by rw [q, z_u_ne _ _ (by omega)])
theorem lp_un4 (d : Nat) : ∀ (k i : Nat) (gi : Nat → Nat → Int32), i + k = 12 → (∀ g' : Nat → Nat → Int32, (∀ c j, ¬ ((c = 133 ∨ c = 134) ∧ i ≤ j ∧ j < 12) → g' c j = gi c j) → (∀ j, i ≤ j → j < 12 → g' 133 j = gi 143 j ∧ g' 134 j = gi 144 j) → zW l D tc A mX8_undo d 0 0 0 0 216 [some (.ref 108), some (.int (nI 12))] [] (zs g' gl f) Q) →
    zW l D tc A mX8_undo d 0 0 0 0 180 [some (.ref 108), some (.int (nI i))] [] (zs gi gl f) Q := by
  intro k
  induction k using Nat.strongRecOn with
  | _ k ih =>
    intro i gi hi hQ
    refine zx_iload_n (q := 181) dX8_undo_180 rfl rfl rfl ?_
    refine zx_bipush (q := 183) (v := 12) dX8_undo_181 (by decide) rfl ?_
    refine zx_icmp_ge (q := 186) (t := 216) dX8_undo_183 (by decide) rfl (fun c_183 => ?_) (fun c_183 => ?_)
    · have hi2 : i = 12 := by have := z_ge (x := 12) (n := 12) rfl (by omega) c_183; omega
      subst hi2
      exact hQ gi (fun c j _ => rfl) (fun j a b => by omega)
    · have hi2 : i < 12 := z_lt (x := 12) (n := 12) rfl (by omega) c_183
      refine zx_aload_n (q := 187) dX8_undo_186 rfl rfl rfl ?_
      refine zy_getR (q := 190) dX8_undo_187 fl_RX8_129 rfl rfl rfl rfl ?_
      refine zx_iload_n (q := 191) dX8_undo_190 rfl rfl rfl ?_
      refine zx_aload_n (q := 192) dX8_undo_191 rfl rfl rfl ?_
      refine zy_getR (q := 195) dX8_undo_192 fl_RX8_175 rfl rfl rfl rfl ?_
      refine zx_iload_n (q := 196) dX8_undo_195 rfl rfl rfl ?_
      refine zy_ialdN (q := 197) dX8_undo_196 rfl (by omega) (by first | decide | omega) rfl ?_
      refine zy_iastN (q := 198) dX8_undo_197 rfl (by omega) (by first | decide | omega) rfl ?_
      refine zx_aload_n (q := 199) dX8_undo_198 rfl rfl rfl ?_
      refine zy_getR (q := 202) dX8_undo_199 fl_RX8_132 rfl rfl rfl rfl ?_
      refine zx_iload_n (q := 203) dX8_undo_202 rfl rfl rfl ?_
      refine zx_aload_n (q := 204) dX8_undo_203 rfl rfl rfl ?_
      refine zy_getR (q := 207) dX8_undo_204 fl_RX8_178 rfl rfl rfl rfl ?_
      refine zx_iload_n (q := 208) dX8_undo_207 rfl rfl rfl ?_
      refine zy_ialdN (q := 209) dX8_undo_208 rfl (by omega) (by first | decide | omega) rfl ?_
      refine zy_iastN (q := 210) dX8_undo_209 rfl (by omega) (by first | decide | omega) rfl ?_
      refine zx_iinc1 (q := 213) dX8_undo_210 rfl rfl ?_
      refine zx_goto (t := 180) dX8_undo_213 (by decide) ?_
      rw [z_inc]
      refine ih (k - 1) (by omega) (i + 1) _ (by omega) (fun g3 h3 k3 => hQ g3 (fun c j a => ?_) (fun j a b => ?_))
      · rw [h3 c j (by omega), z_u_ne _ _ (by omega), z_u_ne _ _ (by omega)]
      · by_cases e : j = i
        · subst e
          refine ⟨by rw [h3 133 j (by omega), z_u_ne _ _ (by omega), z_u_at], by rw [h3 134 j (by omega), z_u_at, z_u_ne _ _ (by omega)]⟩
        · have q := k3 j (by omega) b
          refine ⟨by rw [q.1, z_u_ne _ _ (by omega), z_u_ne _ _ (by omega)], by rw [q.2, z_u_ne _ _ (by omega), z_u_ne _ _ (by omega)]⟩
set_option maxHeartbeats 4000000 in
theorem t_X8_image (d : Nat) : zCall l D tc A mX8_image d 0 0 [.ref 108] (zs gi gl f) (zQi fun r S' => r = gi 108 0 ∧ ∃ g', S' = zs g' gl f ∧ (∀ c j, ¬ c = 135 ∧ ¬ c = 136 ∧ ¬ c = 137 ∧ ¬ c = 138 ∧ ¬ c = 139 ∧ ¬ c = 140 ∧ ¬ c = 141 ∧ ¬ c = 142 ∧ ¬ c = 143 ∧ ¬ c = 144 → ¬ (c = 108 ∧ (j = 41 ∨ j = 42 ∨ j = 43 ∨ j = 44 ∨ j = 45)) → g' c j = gi c j) ∧ (g' 108 42 = gi 108 11 ∧ g' 108 43 = gi 108 0 ∧ g' 108 44 = gi 108 1 ∧ g' 108 45 = gi 108 38 ∧ g' 108 41 = 1) ∧ (∀ s, s < 5 → g' 135 s = gi 109 s ∧ g' 136 s = gi 110 s ∧ g' 138 s = gi 112 s ∧ g' 139 s = gi 113 s ∧ g' 140 s = gi 114 s) ∧ (∀ k, k < 15 → g' 137 k = gi 111 k ∧ g' 141 k = gi 115 k) ∧ (∀ j, j < 3 → g' 142 j = gi 116 j) ∧ (∀ k, k < 12 → g' 143 k = gi 133 k ∧ g' 144 k = gi 134 k)) := by
  show zW l D tc A mX8_image d 0 0 0 0 0 [some (.ref 108), none] [] (zs gi gl f) _
  refine zx_aload_n (q := 1) dX8_image_0 rfl rfl rfl ?_
  refine zx_iconst (q := 2) (v := 1) dX8_image_1 (by decide) rfl ?_
  refine zy_putI (q := 5) dX8_image_2 fl_RX8_135 rfl rfl ⟨rfl, rfl⟩ rfl rfl ?_
  refine zx_aload_n (q := 6) dX8_image_5 rfl rfl rfl ?_
  refine zx_aload_n (q := 7) dX8_image_6 rfl rfl rfl ?_
  refine zy_getI (q := 10) dX8_image_7 fl_RX8_44 rfl rfl rfl ?_
  refine zy_putI (q := 13) dX8_image_10 fl_RX8_139 rfl rfl ⟨rfl, rfl⟩ rfl rfl ?_
  refine zx_aload_n (q := 14) dX8_image_13 rfl rfl rfl ?_
  refine zx_aload_n (q := 15) dX8_image_14 rfl rfl rfl ?_
  refine zy_getI (q := 18) dX8_image_15 fl_RX8_7 rfl rfl rfl ?_
  refine zy_putI (q := 21) dX8_image_18 fl_RX8_142 rfl rfl ⟨rfl, rfl⟩ rfl rfl ?_
  refine zx_aload_n (q := 22) dX8_image_21 rfl rfl rfl ?_
  refine zx_aload_n (q := 23) dX8_image_22 rfl rfl rfl ?_
  refine zy_getI (q := 26) dX8_image_23 fl_RX8_13 rfl rfl rfl ?_
  refine zy_putI (q := 29) dX8_image_26 fl_RX8_145 rfl rfl ⟨rfl, rfl⟩ rfl rfl ?_
  refine zx_aload_n (q := 30) dX8_image_29 rfl rfl rfl ?_
  refine zx_aload_n (q := 31) dX8_image_30 rfl rfl rfl ?_
  refine zy_getI (q := 34) dX8_image_31 fl_RX8_126 rfl rfl rfl ?_
  refine zy_putI (q := 37) dX8_image_34 fl_RX8_148 rfl rfl ⟨rfl, rfl⟩ rfl rfl ?_
  refine zx_iconst (q := 38) (v := 0) dX8_image_37 (by decide) rfl ?_
  refine zx_istore1 (q := 39) dX8_image_38 rfl rfl ?_
  refine lp_im1 d 5 0 _ (by omega) (fun g1 h1 k1 => ?_)
  refine zx_iconst (q := 111) (v := 0) dX8_image_110 (by decide) rfl ?_
  refine zx_istore1 (q := 112) dX8_image_111 rfl rfl ?_
  refine lp_im2 d 15 0 _ (by omega) (fun g2 h2 k2 => ?_)
  refine zx_iconst (q := 149) (v := 0) dX8_image_148 (by decide) rfl ?_
  refine zx_istore1 (q := 150) dX8_image_149 rfl rfl ?_
  refine lp_im3 d 3 0 _ (by omega) (fun g3 h3 k3 => ?_)
  refine zx_iconst (q := 174) (v := 0) dX8_image_173 (by decide) rfl ?_
  refine zx_istore1 (q := 175) dX8_image_174 rfl rfl ?_
  refine lp_im4 d 12 0 _ (by omega) (fun g4 h4 k4 => ?_)
  refine zx_aload_n (q := 212) dX8_image_211 rfl rfl rfl ?_
  refine zy_getI (q := 215) dX8_image_212 fl_RX8_7 rfl rfl rfl ?_
  refine zx_iret dX8_image_215 rfl (Nat.le_refl _) (Nat.le_refl _) ⟨_, rfl, ?_⟩
  refine ⟨by rw [h4 _ _ (by omega), h3 _ _ (by omega), h2 _ _ (by omega), h1 _ _ (by omega), z_u_ne _ _ (by omega), z_u_ne _ _ (by omega), z_u_ne _ _ (by omega), z_u_ne _ _ (by omega), z_u_ne _ _ (by omega)], _, rfl, fun c j hc hj => ?_, ?_, fun s hs => ?_, fun k hk => ?_, fun j hj => ?_, fun k hk => ?_⟩
  · rw [h4 _ _ (by omega), h3 _ _ (by omega), h2 _ _ (by omega), h1 _ _ (by omega), z_u_ne _ _ (by omega), z_u_ne _ _ (by omega), z_u_ne _ _ (by omega), z_u_ne _ _ (by omega), z_u_ne _ _ (by omega)]
  · exact ⟨by rw [h4 _ _ (by omega), h3 _ _ (by omega), h2 _ _ (by omega), h1 _ _ (by omega), z_u_ne _ _ (by omega), z_u_ne _ _ (by omega), z_u_ne _ _ (by omega), z_u_at, z_u_ne _ _ (by omega)], by rw [h4 _ _ (by omega), h3 _ _ (by omega), h2 _ _ (by omega), h1 _ _ (by omega), z_u_ne _ _ (by omega), z_u_ne _ _ (by omega), z_u_at, z_u_ne _ _ (by omega), z_u_ne _ _ (by omega)], by rw [h4 _ _ (by omega), h3 _ _ (by omega), h2 _ _ (by omega), h1 _ _ (by omega), z_u_ne _ _ (by omega), z_u_at, z_u_ne _ _ (by omega), z_u_ne _ _ (by omega), z_u_ne _ _ (by omega)], by rw [h4 _ _ (by omega), h3 _ _ (by omega), h2 _ _ (by omega), h1 _ _ (by omega), z_u_at, z_u_ne _ _ (by omega), z_u_ne _ _ (by omega), z_u_ne _ _ (by omega), z_u_ne _ _ (by omega)], by rw [h4 _ _ (by omega), h3 _ _ (by omega), h2 _ _ (by omega), h1 _ _ (by omega), z_u_ne _ _ (by omega), z_u_ne _ _ (by omega), z_u_ne _ _ (by omega), z_u_ne _ _ (by omega), z_u_at]⟩
  · have q := k1 s (by omega) hs
    exact ⟨by rw [h4 _ _ (by omega), h3 _ _ (by omega), h2 _ _ (by omega), q.1, z_u_ne _ _ (by omega), z_u_ne _ _ (by omega), z_u_ne _ _ (by omega), z_u_ne _ _ (by omega), z_u_ne _ _ (by omega)], by rw [h4 _ _ (by omega), h3 _ _ (by omega), h2 _ _ (by omega), q.2.1, z_u_ne _ _ (by omega), z_u_ne _ _ (by omega), z_u_ne _ _ (by omega), z_u_ne _ _ (by omega), z_u_ne _ _ (by omega)], by rw [h4 _ _ (by omega), h3 _ _ (by omega), h2 _ _ (by omega), q.2.2.1, z_u_ne _ _ (by omega), z_u_ne _ _ (by omega), z_u_ne _ _ (by omega), z_u_ne _ _ (by omega), z_u_ne _ _ (by omega)], by rw [h4 _ _ (by omega), h3 _ _ (by omega), h2 _ _ (by omega), q.2.2.2.1, z_u_ne _ _ (by omega), z_u_ne _ _ (by omega), z_u_ne _ _ (by omega), z_u_ne _ _ (by omega), z_u_ne _ _ (by omega)], by rw [h4 _ _ (by omega), h3 _ _ (by omega), h2 _ _ (by omega), q.2.2.2.2, z_u_ne _ _ (by omega), z_u_ne _ _ (by omega), z_u_ne _ _ (by omega), z_u_ne _ _ (by omega), z_u_ne _ _ (by omega)]⟩
  · have q := k2 k (by omega) hk
    exact ⟨by rw [h4 _ _ (by omega), h3 _ _ (by omega), q.1, h1 _ _ (by omega), z_u_ne _ _ (by omega), z_u_ne _ _ (by omega), z_u_ne _ _ (by omega), z_u_ne _ _ (by omega), z_u_ne _ _ (by omega)], by rw [h4 _ _ (by omega), h3 _ _ (by omega), q.2, h1 _ _ (by omega), z_u_ne _ _ (by omega), z_u_ne _ _ (by omega), z_u_ne _ _ (by omega), z_u_ne _ _ (by omega), z_u_ne _ _ (by omega)]⟩
  · have q := k3 j (by omega) hj
    exact (by rw [h4 _ _ (by omega), q, h2 _ _ (by omega), h1 _ _ (by omega), z_u_ne _ _ (by omega), z_u_ne _ _ (by omega), z_u_ne _ _ (by omega), z_u_ne _ _ (by omega), z_u_ne _ _ (by omega)])
  · have q := k4 k (by omega) hk
    exact ⟨by rw [q.1, h3 _ _ (by omega), h2 _ _ (by omega), h1 _ _ (by omega), z_u_ne _ _ (by omega), z_u_ne _ _ (by omega), z_u_ne _ _ (by omega), z_u_ne _ _ (by omega), z_u_ne _ _ (by omega)], by rw [q.2, h3 _ _ (by omega), h2 _ _ (by omega), h1 _ _ (by omega), z_u_ne _ _ (by omega), z_u_ne _ _ (by omega), z_u_ne _ _ (by omega), z_u_ne _ _ (by omega), z_u_ne _ _ (by omega)]⟩
set_option maxHeartbeats 4000000 in
theorem t_X8_undo (d : Nat) (him : gi 108 41 = 1) : zCall l D tc A mX8_undo d 0 0 [.ref 108] (zs gi gl f) (zQi fun r S' => r = gi 108 43 ∧ ∃ g', S' = zs g' gl f ∧ (∀ c j, ¬ c = 109 ∧ ¬ c = 110 ∧ ¬ c = 111 ∧ ¬ c = 112 ∧ ¬ c = 113 ∧ ¬ c = 114 ∧ ¬ c = 115 ∧ ¬ c = 116 ∧ ¬ c = 133 ∧ ¬ c = 134 → ¬ (c = 108 ∧ (j = 11 ∨ j = 0 ∨ j = 1 ∨ j = 38)) → g' c j = gi c j) ∧ (g' 108 11 = gi 108 42 ∧ g' 108 0 = gi 108 43 ∧ g' 108 1 = gi 108 44 ∧ g' 108 38 = gi 108 45) ∧ (∀ s, s < 5 → g' 109 s = gi 135 s ∧ g' 110 s = gi 136 s ∧ g' 112 s = gi 138 s ∧ g' 113 s = gi 139 s ∧ g' 114 s = gi 140 s) ∧ (∀ k, k < 15 → g' 111 k = gi 137 k ∧ g' 115 k = gi 141 k) ∧ (∀ j, j < 3 → g' 116 j = gi 142 j) ∧ (∀ k, k < 12 → g' 133 k = gi 143 k ∧ g' 134 k = gi 144 k)) := by
  show zW l D tc A mX8_undo d 0 0 0 0 0 [some (.ref 108), none] [] (zs gi gl f) _
  refine zx_aload_n (q := 1) dX8_undo_0 rfl rfl rfl ?_
  refine zy_getI (q := 4) dX8_undo_1 fl_RX8_135 rfl rfl rfl ?_
  refine zx_if_ne_t (t := 10) (q := 7) dX8_undo_4 (by decide) rfl (by rw [him]; decide) ?_
  refine zx_aload_n (q := 11) dX8_undo_10 rfl rfl rfl ?_
  refine zx_aload_n (q := 12) dX8_undo_11 rfl rfl rfl ?_
  refine zy_getI (q := 15) dX8_undo_12 fl_RX8_139 rfl rfl rfl ?_
  refine zy_putI (q := 18) dX8_undo_15 fl_RX8_44 rfl rfl ⟨rfl, rfl⟩ rfl rfl ?_
  refine zx_aload_n (q := 19) dX8_undo_18 rfl rfl rfl ?_
  refine zx_aload_n (q := 20) dX8_undo_19 rfl rfl rfl ?_
  refine zy_getI (q := 23) dX8_undo_20 fl_RX8_142 rfl rfl rfl ?_
  refine zy_putI (q := 26) dX8_undo_23 fl_RX8_7 rfl rfl ⟨rfl, rfl⟩ rfl rfl ?_
  refine zx_aload_n (q := 27) dX8_undo_26 rfl rfl rfl ?_
  refine zx_aload_n (q := 28) dX8_undo_27 rfl rfl rfl ?_
  refine zy_getI (q := 31) dX8_undo_28 fl_RX8_145 rfl rfl rfl ?_
  refine zy_putI (q := 34) dX8_undo_31 fl_RX8_13 rfl rfl ⟨rfl, rfl⟩ rfl rfl ?_
  refine zx_aload_n (q := 35) dX8_undo_34 rfl rfl rfl ?_
  refine zx_aload_n (q := 36) dX8_undo_35 rfl rfl rfl ?_
  refine zy_getI (q := 39) dX8_undo_36 fl_RX8_148 rfl rfl rfl ?_
  refine zy_putI (q := 42) dX8_undo_39 fl_RX8_126 rfl rfl ⟨rfl, rfl⟩ rfl rfl ?_
  refine zx_iconst (q := 43) (v := 0) dX8_undo_42 (by decide) rfl ?_
  refine zx_istore1 (q := 44) dX8_undo_43 rfl rfl ?_
  refine lp_un1 d 5 0 _ (by omega) (fun g1 h1 k1 => ?_)
  refine zx_iconst (q := 116) (v := 0) dX8_undo_115 (by decide) rfl ?_
  refine zx_istore1 (q := 117) dX8_undo_116 rfl rfl ?_
  refine lp_un2 d 15 0 _ (by omega) (fun g2 h2 k2 => ?_)
  refine zx_iconst (q := 154) (v := 0) dX8_undo_153 (by decide) rfl ?_
  refine zx_istore1 (q := 155) dX8_undo_154 rfl rfl ?_
  refine lp_un3 d 3 0 _ (by omega) (fun g3 h3 k3 => ?_)
  refine zx_iconst (q := 179) (v := 0) dX8_undo_178 (by decide) rfl ?_
  refine zx_istore1 (q := 180) dX8_undo_179 rfl rfl ?_
  refine lp_un4 d 12 0 _ (by omega) (fun g4 h4 k4 => ?_)
  refine zx_aload_n (q := 217) dX8_undo_216 rfl rfl rfl ?_
  refine zy_getI (q := 220) dX8_undo_217 fl_RX8_7 rfl rfl rfl ?_
  refine zx_iret dX8_undo_220 rfl (Nat.le_refl _) (Nat.le_refl _) ⟨_, rfl, ?_⟩
  refine ⟨by rw [h4 _ _ (by omega), h3 _ _ (by omega), h2 _ _ (by omega), h1 _ _ (by omega), z_u_ne _ _ (by omega), z_u_ne _ _ (by omega), z_u_at, z_u_ne _ _ (by omega)], _, rfl, fun c j hc hj => ?_, ?_, fun s hs => ?_, fun k hk => ?_, fun j hj => ?_, fun k hk => ?_⟩
  · rw [h4 _ _ (by omega), h3 _ _ (by omega), h2 _ _ (by omega), h1 _ _ (by omega), z_u_ne _ _ (by omega), z_u_ne _ _ (by omega), z_u_ne _ _ (by omega), z_u_ne _ _ (by omega)]
  · exact ⟨by rw [h4 _ _ (by omega), h3 _ _ (by omega), h2 _ _ (by omega), h1 _ _ (by omega), z_u_ne _ _ (by omega), z_u_ne _ _ (by omega), z_u_ne _ _ (by omega), z_u_at], by rw [h4 _ _ (by omega), h3 _ _ (by omega), h2 _ _ (by omega), h1 _ _ (by omega), z_u_ne _ _ (by omega), z_u_ne _ _ (by omega), z_u_at, z_u_ne _ _ (by omega)], by rw [h4 _ _ (by omega), h3 _ _ (by omega), h2 _ _ (by omega), h1 _ _ (by omega), z_u_ne _ _ (by omega), z_u_at, z_u_ne _ _ (by omega), z_u_ne _ _ (by omega)], by rw [h4 _ _ (by omega), h3 _ _ (by omega), h2 _ _ (by omega), h1 _ _ (by omega), z_u_at, z_u_ne _ _ (by omega), z_u_ne _ _ (by omega), z_u_ne _ _ (by omega)]⟩
  · have q := k1 s (by omega) hs
    exact ⟨by rw [h4 _ _ (by omega), h3 _ _ (by omega), h2 _ _ (by omega), q.1, z_u_ne _ _ (by omega), z_u_ne _ _ (by omega), z_u_ne _ _ (by omega), z_u_ne _ _ (by omega)], by rw [h4 _ _ (by omega), h3 _ _ (by omega), h2 _ _ (by omega), q.2.1, z_u_ne _ _ (by omega), z_u_ne _ _ (by omega), z_u_ne _ _ (by omega), z_u_ne _ _ (by omega)], by rw [h4 _ _ (by omega), h3 _ _ (by omega), h2 _ _ (by omega), q.2.2.1, z_u_ne _ _ (by omega), z_u_ne _ _ (by omega), z_u_ne _ _ (by omega), z_u_ne _ _ (by omega)], by rw [h4 _ _ (by omega), h3 _ _ (by omega), h2 _ _ (by omega), q.2.2.2.1, z_u_ne _ _ (by omega), z_u_ne _ _ (by omega), z_u_ne _ _ (by omega), z_u_ne _ _ (by omega)], by rw [h4 _ _ (by omega), h3 _ _ (by omega), h2 _ _ (by omega), q.2.2.2.2, z_u_ne _ _ (by omega), z_u_ne _ _ (by omega), z_u_ne _ _ (by omega), z_u_ne _ _ (by omega)]⟩
  · have q := k2 k (by omega) hk
    exact ⟨by rw [h4 _ _ (by omega), h3 _ _ (by omega), q.1, h1 _ _ (by omega), z_u_ne _ _ (by omega), z_u_ne _ _ (by omega), z_u_ne _ _ (by omega), z_u_ne _ _ (by omega)], by rw [h4 _ _ (by omega), h3 _ _ (by omega), q.2, h1 _ _ (by omega), z_u_ne _ _ (by omega), z_u_ne _ _ (by omega), z_u_ne _ _ (by omega), z_u_ne _ _ (by omega)]⟩
  · have q := k3 j (by omega) hj
    exact (by rw [h4 _ _ (by omega), q, h2 _ _ (by omega), h1 _ _ (by omega), z_u_ne _ _ (by omega), z_u_ne _ _ (by omega), z_u_ne _ _ (by omega), z_u_ne _ _ (by omega)])
  · have q := k4 k (by omega) hk
    exact ⟨by rw [q.1, h3 _ _ (by omega), h2 _ _ (by omega), h1 _ _ (by omega), z_u_ne _ _ (by omega), z_u_ne _ _ (by omega), z_u_ne _ _ (by omega), z_u_ne _ _ (by omega)], by rw [q.2, h3 _ _ (by omega), h2 _ _ (by omega), h1 _ _ (by omega), z_u_ne _ _ (by omega), z_u_ne _ _ (by omega), z_u_ne _ _ (by omega), z_u_ne _ _ (by omega)]⟩
end P23
