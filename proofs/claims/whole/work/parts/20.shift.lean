/-- a row, n of whose places from lo on hold h -/
def zw_mv {α : Type} (g : Nat → Nat → α) (k lo n : Nat) (h : Nat → α) : Nat → Nat → α := fun a b => if a = k ∧ lo ≤ b ∧ b < lo + n then h (b - lo) else g a b
theorem zw_mv_0 {α : Type} (g : Nat → Nat → α) (k lo : Nat) (h : Nat → α) : zw_mv g k lo 0 h = g := by
  funext a b
  unfold zw_mv
  rw [if_neg (by omega)]
theorem zw_mv_s {α : Type} (g : Nat → Nat → α) (k lo n : Nat) (h : Nat → α) : zw_u (zw_mv g k lo n h) k (lo + n) (h n) = zw_mv g k lo (n + 1) h := by
  funext a b
  unfold zw_u zw_mv
  by_cases h1 : a = k
  · subst h1
    by_cases h2 : b = lo + n
    · subst h2
      rw [if_pos ⟨rfl, rfl⟩, if_pos ⟨rfl, by omega, by omega⟩]
      rw [show lo + n - lo = n by omega]
    · rw [if_neg (fun z => h2 z.2)]
      by_cases h3 : lo ≤ b ∧ b < lo + n
      · rw [if_pos ⟨rfl, h3.1, h3.2⟩, if_pos ⟨rfl, h3.1, by omega⟩]
      · rw [if_neg (fun z => h3 z.2), if_neg (fun z => h3 ⟨z.2.1, by omega⟩)]
  · rw [if_neg (fun z => h1 z.1), if_neg (fun z => h1 z.1), if_neg (fun z => h1 z.1)]
theorem z_subN {a b : Nat} (h : b ≤ a) : nI a - nI b = nI (a - b) := by
  have e : nI a = nI (a - b) + nI b := by rw [nI_add, Nat.sub_add_cancel h]
  rw [e]
  exact Int32.add_sub_cancel _ _
section P20
variable {l : Launch} {D : va_G} {tc : Nat → ClassId} {A : Nat → Prop} {S : zw_S} {gi : Nat → Nat → Int32} {gl : Nat → Nat → Int64} {f : Option Nat}
theorem t_X6_hasRun (d t : Nat) (ht : t < 6) (v w : Int32) {len : Nat} (hl : gi (96 + 2 * t) 1 = nI len) (hlen : len ≤ 60) : zCall l D tc A mX6_hasRun d 0 0 [.ref (96 + 2 * t), .int v, .int w] (zs gi gl f) (zQi fun r S' => S' = zs gi gl f ∧ ((r = 1 ∧ 0 ≤ v.toInt ∧ 0 ≤ w.toInt ∧ v.toInt + w.toInt ≤ len) ∨ (r = 0 ∧ ¬ (0 ≤ v.toInt ∧ 0 ≤ w.toInt ∧ v.toInt + w.toInt ≤ len)))) := by
  show zW l D tc A mX6_hasRun d 0 0 0 0 0 [some (.ref (96 + 2 * t)), some (.int v), some (.int w)] [] (zs gi gl f) _
  refine zx_iload_n (q := 1) dX6_hasRun_0 rfl rfl rfl ?_
  refine zx_if_lt (q := 4) (t := 30) dX6_hasRun_1 (by decide) rfl (fun c_1 => ?_) (fun c_1 => ?_)
  · refine zx_iconst (q := 31) (v := 0) dX6_hasRun_30 (by decide) rfl ?_
    refine zx_zret dX6_hasRun_31 rfl (by first | rfl | exact zb_nar _) (Nat.le_refl _) (Nat.le_refl _) ⟨_, rfl, ?_⟩
    refine ⟨rfl, ?_⟩
    have q := nI_toInt (n := len) (by omega)
    have z0 : (0 : Int32).toInt = 0 := by decide
    try rw [Int32.lt_iff_toInt_lt, z0] at c_1
    try rw [Int32.lt_iff_toInt_lt, z0] at c_5
    try rw [Int32.lt_iff_toInt_lt, q] at c_13
    try rw [Int32.lt_iff_toInt_lt, nI_toInt (by omega)] at c_23
    try rw [nI_toInt (n := v') (by omega)]
    first
      | exact Or.inr ⟨rfl, by omega⟩
      | exact Or.inl ⟨rfl, by omega, by omega, by omega⟩
  · refine zx_iload_n (q := 5) dX6_hasRun_4 rfl rfl rfl ?_
    refine zx_if_lt (q := 8) (t := 30) dX6_hasRun_5 (by decide) rfl (fun c_5 => ?_) (fun c_5 => ?_)
    · refine zx_iconst (q := 31) (v := 0) dX6_hasRun_30 (by decide) rfl ?_
      refine zx_zret dX6_hasRun_31 rfl (by first | rfl | exact zb_nar _) (Nat.le_refl _) (Nat.le_refl _) ⟨_, rfl, ?_⟩
      refine ⟨rfl, ?_⟩
      have q := nI_toInt (n := len) (by omega)
      have z0 : (0 : Int32).toInt = 0 := by decide
      try rw [Int32.lt_iff_toInt_lt, z0] at c_1
      try rw [Int32.lt_iff_toInt_lt, z0] at c_5
      try rw [Int32.lt_iff_toInt_lt, q] at c_13
      try rw [Int32.lt_iff_toInt_lt, nI_toInt (by omega)] at c_23
      try rw [nI_toInt (n := v') (by omega)]
      first
        | exact Or.inr ⟨rfl, by omega⟩
        | exact Or.inl ⟨rfl, by omega, by omega, by omega⟩
    · refine zx_iload_n (q := 9) dX6_hasRun_8 rfl rfl rfl ?_
      refine zx_aload_n (q := 10) dX6_hasRun_9 rfl rfl rfl ?_
      refine zy_getIe (q := 13) (v := nI len) dX6_hasRun_10 fl_RX6_19 rfl (zr_65 (f := f) ht).2.1 (hl) rfl ?_
      refine zx_icmp_gt (q := 16) (t := 30) dX6_hasRun_13 (by decide) rfl (fun c_13 => ?_) (fun c_13 => ?_)
      · refine zx_iconst (q := 31) (v := 0) dX6_hasRun_30 (by decide) rfl ?_
        refine zx_zret dX6_hasRun_31 rfl (by first | rfl | exact zb_nar _) (Nat.le_refl _) (Nat.le_refl _) ⟨_, rfl, ?_⟩
        refine ⟨rfl, ?_⟩
        have q := nI_toInt (n := len) (by omega)
        have z0 : (0 : Int32).toInt = 0 := by decide
        try rw [Int32.lt_iff_toInt_lt, z0] at c_1
        try rw [Int32.lt_iff_toInt_lt, z0] at c_5
        try rw [Int32.lt_iff_toInt_lt, q] at c_13
        try rw [Int32.lt_iff_toInt_lt, nI_toInt (by omega)] at c_23
        try rw [nI_toInt (n := v') (by omega)]
        first
          | exact Or.inr ⟨rfl, by omega⟩
          | exact Or.inl ⟨rfl, by omega, by omega, by omega⟩
      · obtain ⟨v', hv', rfl⟩ := nI_of c_5
        have hv2 : v' ≤ len := by rw [Int32.lt_iff_toInt_lt, nI_toInt (by omega), nI_toInt hv'] at c_13; omega
        refine zx_iload_n (q := 17) dX6_hasRun_16 rfl rfl rfl ?_
        refine zx_aload_n (q := 18) dX6_hasRun_17 rfl rfl rfl ?_
        refine zy_getIe (q := 21) (v := nI len) dX6_hasRun_18 fl_RX6_19 rfl (zr_65 (f := f) ht).2.1 (hl) rfl ?_
        refine zx_iload_n (q := 22) dX6_hasRun_21 rfl rfl rfl ?_
        refine zx_isub (q := 23) dX6_hasRun_22 rfl ?_
        rw [z_subN hv2]
        refine zx_icmp_gt (q := 26) (t := 30) dX6_hasRun_23 (by decide) rfl (fun c_23 => ?_) (fun c_23 => ?_)
        · refine zx_iconst (q := 31) (v := 0) dX6_hasRun_30 (by decide) rfl ?_
          refine zx_zret dX6_hasRun_31 rfl (by first | rfl | exact zb_nar _) (Nat.le_refl _) (Nat.le_refl _) ⟨_, rfl, ?_⟩
          refine ⟨rfl, ?_⟩
          have q := nI_toInt (n := len) (by omega)
          have z0 : (0 : Int32).toInt = 0 := by decide
          try rw [Int32.lt_iff_toInt_lt, z0] at c_1
          try rw [Int32.lt_iff_toInt_lt, z0] at c_5
          try rw [Int32.lt_iff_toInt_lt, q] at c_13
          try rw [Int32.lt_iff_toInt_lt, nI_toInt (by omega)] at c_23
          try rw [nI_toInt (n := v') (by omega)]
          first
            | exact Or.inr ⟨rfl, by omega⟩
            | exact Or.inl ⟨rfl, by omega, by omega, by omega⟩
        · refine zx_iconst (q := 27) (v := 1) dX6_hasRun_26 (by decide) rfl ?_
          refine zx_goto (t := 31) dX6_hasRun_27 (by decide) ?_
          refine zx_zret dX6_hasRun_31 rfl (by first | rfl | exact zb_nar _) (Nat.le_refl _) (Nat.le_refl _) ⟨_, rfl, ?_⟩
          refine ⟨rfl, ?_⟩
          have q := nI_toInt (n := len) (by omega)
          have z0 : (0 : Int32).toInt = 0 := by decide
          try rw [Int32.lt_iff_toInt_lt, z0] at c_1
          try rw [Int32.lt_iff_toInt_lt, z0] at c_5
          try rw [Int32.lt_iff_toInt_lt, q] at c_13
          try rw [Int32.lt_iff_toInt_lt, nI_toInt (by omega)] at c_23
          try rw [nI_toInt (n := v') (by omega)]
          first
            | exact Or.inr ⟨rfl, by omega⟩
            | exact Or.inl ⟨rfl, by omega, by omega, by omega⟩
theorem lp_X8_shift2 (d t o i j n : Nat) (ht : t < 6) (ho : o < 6) (hi : i + n ≤ 60) (hj : j + n ≤ 60) : ∀ (r k : Nat), k + r = n → zW l D tc A mX8_shift d 0 0 0 0 141 [some (.ref 108), some (.int (nI t)), some (.int (nI i)), some (.int (nI o)), some (.int (nI j)), some (.int (nI n)), some (.int (nI k))] [] (zs gi (zw_mv gl 148 (60 * o + j) k (fun q => gl 149 q)) f) (zQi fun r S' => r = nI n ∧ S' = zs gi (zw_mv gl 148 (60 * o + j) n (fun q => gl 149 q)) f) := by
  intro r
  induction r using Nat.strongRecOn with
  | _ r ih =>
    intro k hk
    refine zx_iload (q := 143) dX8_shift_141 rfl rfl ?_
    refine zx_iload (q := 145) dX8_shift_143 rfl rfl ?_
    refine zx_icmp_ge (q := 148) (t := 176) dX8_shift_145 (by decide) rfl (fun c_145 => ?_) (fun c_145 => ?_)
    · have hk2 : k = n := by have := z_ge (x := nI n) rfl (by omega) c_145; omega
      refine zx_iload (q := 178) dX8_shift_176 rfl rfl ?_
      refine zx_iret dX8_shift_178 rfl (Nat.le_refl _) (Nat.le_refl _) ⟨_, rfl, ?_⟩
      exact ⟨rfl, by rw [hk2]⟩
    · have hk2 : k < n := z_lt (x := nI n) rfl (by omega) c_145
      refine zx_aload_n (q := 149) dX8_shift_148 rfl rfl rfl ?_
      refine zy_getR (q := 152) dX8_shift_149 fl_RX8_193 rfl rfl rfl rfl ?_
      refine zx_bipush (q := 154) (v := 60) dX8_shift_152 (by decide) rfl ?_
      refine zx_iload_n (q := 155) dX8_shift_154 rfl rfl rfl ?_
      refine zx_imul (q := 156) dX8_shift_155 rfl ?_
      refine zx_iload (q := 158) dX8_shift_156 rfl rfl ?_
      refine zx_iadd (q := 159) dX8_shift_158 rfl ?_
      refine zx_iload (q := 161) dX8_shift_159 rfl rfl ?_
      refine zx_iadd (q := 162) dX8_shift_161 rfl ?_
      rw [z_60, nI_add]
      refine zx_aload_n (q := 163) dX8_shift_162 rfl rfl rfl ?_
      refine zy_getR (q := 166) dX8_shift_163 fl_RX8_197 rfl rfl rfl rfl ?_
      refine zx_iload (q := 168) dX8_shift_166 rfl rfl ?_
      refine zy_laldN (q := 169) dX8_shift_168 rfl (by omega) (by first | decide | omega) rfl ?_
      refine zy_lastN (q := 170) dX8_shift_169 rfl (by omega) (by first | decide | omega) rfl ?_
      refine zx_iinc6 (q := 173) dX8_shift_170 rfl rfl ?_
      refine zx_goto (t := 141) dX8_shift_173 (by decide) ?_
      rw [z_inc, show zw_mv gl 148 (60 * o + j) k (fun q => gl 149 q) 149 k = (fun q => gl 149 q) k from by unfold zw_mv; rw [if_neg (by omega)], zw_mv_s]
      exact ih (r - 1) (by omega) (k + 1) (by omega)
theorem lp_X8_shift1 (d t o i j n : Nat) (ht : t < 6) (ho : o < 6) (hi : i + n ≤ 60) (hj : j + n ≤ 60) : ∀ (r k : Nat), k + r = n → zW l D tc A mX8_shift d 0 0 0 0 104 [some (.ref 108), some (.int (nI t)), some (.int (nI i)), some (.int (nI o)), some (.int (nI j)), some (.int (nI n)), some (.int (nI k))] [] (zs gi (zw_mv gl 149 0 k (fun q => gl 148 (60 * t + i + q))) f) (zQi fun r S' => r = nI n ∧ S' = zs gi (zw_mv (zw_mv gl 149 0 n (fun q => gl 148 (60 * t + i + q))) 148 (60 * o + j) n (fun q => zw_mv gl 149 0 n (fun q => gl 148 (60 * t + i + q)) 149 q)) f) := by
  intro r
  induction r using Nat.strongRecOn with
  | _ r ih =>
    intro k hk
    refine zx_iload (q := 106) dX8_shift_104 rfl rfl ?_
    refine zx_iload (q := 108) dX8_shift_106 rfl rfl ?_
    refine zx_icmp_ge (q := 111) (t := 138) dX8_shift_108 (by decide) rfl (fun c_108 => ?_) (fun c_108 => ?_)
    · have hk2 : k = n := by have := z_ge (x := nI n) rfl (by omega) c_108; omega
      subst hk2
      refine zx_iconst (q := 139) (v := 0) dX8_shift_138 (by decide) rfl ?_
      refine zx_istore6 (q := 141) dX8_shift_139 rfl rfl ?_
      have h := lp_X8_shift2 (l := l) (D := D) (tc := tc) (A := A) (gi := gi) (gl := zw_mv gl 149 0 k (fun q => gl 148 (60 * t + i + q))) (f := f) d t o i j k ht ho hi hj k 0 (by omega)
      rw [zw_mv_0] at h
      exact h
    · have hk2 : k < n := z_lt (x := nI n) rfl (by omega) c_108
      refine zx_aload_n (q := 112) dX8_shift_111 rfl rfl rfl ?_
      refine zy_getR (q := 115) dX8_shift_112 fl_RX8_197 rfl rfl rfl rfl ?_
      refine zx_iload (q := 117) dX8_shift_115 rfl rfl ?_
      refine zx_aload_n (q := 118) dX8_shift_117 rfl rfl rfl ?_
      refine zy_getR (q := 121) dX8_shift_118 fl_RX8_193 rfl rfl rfl rfl ?_
      refine zx_bipush (q := 123) (v := 60) dX8_shift_121 (by decide) rfl ?_
      refine zx_iload_n (q := 124) dX8_shift_123 rfl rfl rfl ?_
      refine zx_imul (q := 125) dX8_shift_124 rfl ?_
      refine zx_iload_n (q := 126) dX8_shift_125 rfl rfl rfl ?_
      refine zx_iadd (q := 127) dX8_shift_126 rfl ?_
      refine zx_iload (q := 129) dX8_shift_127 rfl rfl ?_
      refine zx_iadd (q := 130) dX8_shift_129 rfl ?_
      rw [z_60, nI_add]
      refine zy_laldN (q := 131) dX8_shift_130 rfl (by omega) (by first | decide | omega) rfl ?_
      refine zy_lastN (q := 132) dX8_shift_131 rfl (by omega) (by first | decide | omega) rfl ?_
      refine zx_iinc6 (q := 135) dX8_shift_132 rfl rfl ?_
      refine zx_goto (t := 104) dX8_shift_135 (by decide) ?_
      have e1 : zw_mv gl 149 0 k (fun q => gl 148 (60 * t + i + q)) 148 (60 * t + i + k) = (fun q => gl 148 (60 * t + i + q)) k := by unfold zw_mv; rw [if_neg (by omega)]
      have e2 := zw_mv_s gl 149 0 k (fun q => gl 148 (60 * t + i + q))
      rw [Nat.zero_add] at e2
      rw [z_inc, e1, e2]
      exact ih (r - 1) (by omega) (k + 1) (by omega)
theorem z_rel_shift (h : zRel gi gl) {t o i j n lt lo : Nat} (ht : t < 6) (ho : o < 6) (hi : i + n ≤ 60) (hj : j + n ≤ 60) : zRel gi (zw_mv (zw_mv (zw_row gl (97 + 2 * o) (va_cpy (gl (97 + 2 * t)) (gl (97 + 2 * o)) i j n)) 149 0 n (fun q => zw_row gl (97 + 2 * o) (va_cpy (gl (97 + 2 * t)) (gl (97 + 2 * o)) i j n) 148 (60 * t + i + q))) 148 (60 * o + j) n (fun q => zw_mv (zw_row gl (97 + 2 * o) (va_cpy (gl (97 + 2 * t)) (gl (97 + 2 * o)) i j n)) 149 0 n (fun q => zw_row gl (97 + 2 * o) (va_cpy (gl (97 + 2 * t)) (gl (97 + 2 * o)) i j n) 148 (60 * t + i + q)) 149 q)) := by
  refine zRel_tape h (fun hT => ?_) (fun k i a b => rfl)
  intro q hq
  obtain ⟨len, g0, g1, g2, g3, g4⟩ := hT q hq
  obtain ⟨_, _, _, _, _, gt⟩ := hT t ht
  refine ⟨len, g0, g1, g2, g3, fun k hk => ?_⟩
  have eC : ∀ a b, ¬ a = 148 → ¬ a = 149 → zw_mv (zw_mv (zw_row gl (97 + 2 * o) (va_cpy (gl (97 + 2 * t)) (gl (97 + 2 * o)) i j n)) 149 0 n (fun q => zw_row gl (97 + 2 * o) (va_cpy (gl (97 + 2 * t)) (gl (97 + 2 * o)) i j n) 148 (60 * t + i + q))) 148 (60 * o + j) n (fun q => zw_mv (zw_row gl (97 + 2 * o) (va_cpy (gl (97 + 2 * t)) (gl (97 + 2 * o)) i j n)) 149 0 n (fun q => zw_row gl (97 + 2 * o) (va_cpy (gl (97 + 2 * t)) (gl (97 + 2 * o)) i j n) 148 (60 * t + i + q)) 149 q) a b = zw_row gl (97 + 2 * o) (va_cpy (gl (97 + 2 * t)) (gl (97 + 2 * o)) i j n) a b := by
    intro a b h1 h2
    simp only [zw_mv]
    rw [if_neg (fun z => h1 z.1), if_neg (fun z => h2 z.1)]
  rw [eC _ _ (by omega) (by omega)]
  have e148 : ∀ b, zw_row gl (97 + 2 * o) (va_cpy (gl (97 + 2 * t)) (gl (97 + 2 * o)) i j n) 148 b = gl 148 b := fun b => by unfold zw_row; rw [if_neg (by omega)]
  by_cases c : 60 * o + j ≤ 60 * q + k ∧ 60 * q + k < 60 * o + j + n
  · have eo : q = o := by omega
    subst eo
    simp only [zw_mv]
    rw [if_pos ⟨trivial, c.1, c.2⟩, if_pos ⟨trivial, by omega, by omega⟩, e148]
    unfold zw_row
    rw [if_pos rfl]
    unfold va_cpy
    rw [if_pos ⟨by omega, by omega⟩, gt _ (by omega)]
    congr 1
    omega
  · simp only [zw_mv]
    rw [if_neg (fun z => c z.2), if_neg (by omega), e148]
    unfold zw_row
    by_cases eo : q = o
    · subst eo
      rw [if_pos rfl]
      unfold va_cpy
      rw [if_neg (by omega)]
      exact g4 k hk
    · rw [if_neg (by omega)]
      exact g4 k hk
end P20
