/-! looking at all sorts -/
def z_ls (gi : Nat → Nat → Int32) (s m : Nat) (h : Int32) : Nat → Int32 := fun j => if j = 0 then nI s else if j = 1 then gi (3 + s) 0 else if j = 2 then gi (3 + s) 1 else if j = 3 then gi (3 + s) 2 else if j = 4 then nI m else h
def z_ow (gi : Nat → Nat → Int32) (m s : Nat) : Nat := (gi (3 + s) 5).toNatClampNeg + z_soN gi 0 (z_ls gi s m 9) (z_nc gi)
def z_sh (gi : Nat → Nat → Int32) (m s h : Nat) : Nat :=
  z_shw (gi (3 + s) 0).toNatClampNeg (gi (3 + s) 1).toNatClampNeg ((gi (3 + s) (2 + h)).toNatClampNeg + z_soN gi 1 (z_ls gi s m (nI h)) (z_nc gi)) h m (gi (9 + s) (m % 3)).toNatClampNeg
abbrev zSNow (gi : Nat → Nat → Int32) (ns : Nat) : Prop := zSTs gi ns 1 109 110 111 112 113 114 115
theorem z_srt {gi : Nat → Nat → Int32} {ns s : Nat} (h : zSNow gi ns) (hs : s < ns) : ∃ k v t : Nat, (k ≤ 6 ∧ gi (3 + s) 0 = nI k ∧ gi 109 s = nI k) ∧ (v ≤ 9 ∧ gi (3 + s) 1 = nI v ∧ gi 110 s = nI v) ∧ (t ≤ 99 ∧ gi (3 + s) 5 = nI t ∧ gi 112 s = nI t) ∧
    (∀ j, j < 3 → ∃ b : Nat, b ≤ 9 ∧ gi (3 + s) (2 + j) = nI b ∧ gi 111 (3 * s + j) = nI b) ∧ (∀ j, j < 3 → ∃ b : Nat, b ≤ 9 ∧ gi (9 + s) j = nI b ∧ gi 115 (3 * s + j) = nI b) ∧
    (∃ n : Nat, n ≤ 12 ∧ gi 15 s = nI n ∧ gi 113 s = nI n) ∧ (∃ n : Nat, n ≤ 12 ∧ gi 16 s = nI n ∧ gi 114 s = nI n) := by
  obtain ⟨g1, g2, g3, g4, g5, g6, g7⟩ := h s hs
  obtain ⟨k, hk, ek⟩ := z_rgN (n := 6) g1.2
  obtain ⟨v, hv, ev⟩ := z_rgN (n := 9) g2.2
  obtain ⟨t, ht, et⟩ := z_rgN (n := 99) g4.2
  obtain ⟨n, hn, en⟩ := z_rgN (n := 12) g5.2
  obtain ⟨n', hn', en'⟩ := z_rgN (n := 12) g6.2
  rw [show 1 + 2 + s = 3 + s by omega] at g1 g2 g3 g4
  refine ⟨k, v, t, ⟨hk, g1.1.trans ek, ek⟩, ⟨hv, g2.1.trans ev, ev⟩, ⟨ht, g4.1.trans et, et⟩, fun j hj => ?_, fun j hj => ?_, ⟨n, hn, g5.1.trans en, en⟩, ⟨n', hn', g6.1.trans en', en'⟩⟩
  · obtain ⟨b, hb, eb⟩ := z_rgN (n := 9) (g3 j hj).2
    exact ⟨b, hb, (g3 j hj).1.trans eb, eb⟩
  · obtain ⟨b, hb, eb⟩ := z_rgN (n := 9) (g7 j hj).2
    rw [show 1 + 8 + s = 9 + s by omega] at g7
    exact ⟨b, hb, (g7 j hj).1.trans eb, eb⟩
/-- what the class has seen of the first s sorts -/
def zSG (g : Nat → Nat → Int32) (ns mo : Nat) (sh : Nat → Nat → Nat) (ow : Nat → Nat) (s : Nat) : Prop :=
  g 47 0 = nI ns ∧ g 47 1 = nI mo ∧ ∀ s', s' < s → g 54 s' = nI (ow s') ∧ ∀ h, h < 3 → g (49 + s') h = nI (sh s' h)
/-- what the reference has seen of the first s sorts -/
def zSM (g : Nat → Nat → Int32) (sh : Nat → Nat → Nat) (ow : Nat → Nat) (s : Nat) : Prop :=
  ∀ s', s' < s → g 128 s' = nI (ow s') ∧ ∀ h, h < 3 → g 127 (3 * s' + h) = nI (sh s' h)
theorem zIsF_sh {gi : Nat → Nat → Int32} {F : Nat} (h : zIsF gi F) : zg_sh[F]? = some (0, 1) := by
  rcases h with h | ⟨q, hq, h1, h2, _⟩
  · rw [h.2.1]; rfl
  · rw [h2]; exact (zr_F (f := none) hq).1
section P33
variable {l : Launch} {D : va_G} {tc : Nat → ClassId} {A : Nat → Prop} {S : zw_S} {gi : Nat → Nat → Int32} {gl : Nat → Nat → Int64} {f : Option Nat}
theorem t_sumL (d F s m : Nat) (w h : Int32) {g : Nat → Nat → Int32} (hF : zIsF gi F) (hM : zIsM gi) (hw : w = 0 ∨ w = 1) (e1 : ∀ k j, ¬ (47 ≤ k ∧ k ≤ 55) → g k j = gi k j) (hls : ∀ j, j < 6 → g 55 j = z_ls gi s m h j) :
    zCall l D tc A mX1_sumOf (d + 2) 0 0 [.ref F, .int w, .ref 55] (zs g gl f) (zQi fun r S' => r = nI (z_soN gi w (z_ls gi s m h) (z_nc gi)) ∧ S' = zs g gl f) := by
  have e2 : ∀ k j, z_fc k → g k j = gi k j := fun k j z => e1 k j (by unfold z_fc at z; omega)
  have hF' : zIsF g F := zIsF_cg hF e2 (fun j => ⟨e1 _ _ (by omega), e1 _ _ (by omega), e1 _ _ (by omega), e1 _ _ (by omega), e1 _ _ (by omega), e1 _ _ (by omega), e1 _ _ (by omega)⟩)
  refine zW.mono (t_X1_sumOf d F w hF' hw) ?_
  rintro r S' ⟨x, hx, h1, h2⟩
  refine ⟨x, hx, ?_, h2⟩
  rw [h1, z_nc_cg e2, z_soN_cg e2, z_soN_congr hM (by rcases hw with h | h <;> rw [h] <;> decide) hls _ (Nat.le_refl _)]
theorem t_mostL (d F : Nat) {g : Nat → Nat → Int32} (hF : zIsF gi F) (e1 : ∀ k j, ¬ (47 ≤ k ∧ k ≤ 55) → g k j = gi k j) :
    zCall l D tc A mX1_mostBeasts (d + 1) 0 0 [.ref F] (zs g gl f) (zQi fun r S' => r = nI (z_most gi) ∧ S' = zs g gl f) := by
  have e2 : ∀ k j, z_fc k → g k j = gi k j := fun k j z => e1 k j (by unfold z_fc at z; omega)
  have hF' : zIsF g F := zIsF_cg hF e2 (fun j => ⟨e1 _ _ (by omega), e1 _ _ (by omega), e1 _ _ (by omega), e1 _ _ (by omega), e1 _ _ (by omega), e1 _ _ (by omega), e1 _ _ (by omega)⟩)
  refine zW.mono (t_X1_mostBeasts d F hF') ?_
  rintro r S' ⟨x, hx, h1, h2⟩
  exact ⟨x, hx, by rw [h1, z_most_cg e2], h2⟩
theorem lp_X4_lookH (d F ns m : Nat) (hF : zIsF gi F) (hM : zIsM gi) (hS : zSNow gi ns) (hns : ns ≤ 5) (hm : m < 12) (s : Nat) (hs : s < ns) {Q : Option Value → zw_S → Prop}
    (kk : ∀ (g : Nat → Nat → Int32) (w7 : Option Value), (∀ k j, ¬ (47 ≤ k ∧ k ≤ 55) → g k j = gi k j) → zSG g ns (z_most gi) (z_sh gi m) (z_ow gi m) s → g 54 s = nI (z_ow gi m s) → (∀ h', h' < 3 → g (49 + s) h' = nI (z_sh gi m s h')) → (∀ j, j < 5 → g 55 j = z_ls gi s m 0 j) → zW l D tc A mX4_look (d + 3) 0 0 0 0 184 [some (.ref 47), some (.ref 1), some (.ref F), some (.int (nI m)), some (.int (nI s)), some (.ref (3 + s)), some (.int (nI 3)), w7] [] (zs g gl f) Q) :
    ∀ (n h : Nat) (g : Nat → Nat → Int32) (w7 : Option Value), h + n = 3 → (∀ k j, ¬ (47 ≤ k ∧ k ≤ 55) → g k j = gi k j) → zSG g ns (z_most gi) (z_sh gi m) (z_ow gi m) s → g 54 s = nI (z_ow gi m s) → (∀ h', h' < h → g (49 + s) h' = nI (z_sh gi m s h')) → (∀ j, j < 5 → g 55 j = z_ls gi s m 0 j) → zW l D tc A mX4_look (d + 3) 0 0 0 0 114 [some (.ref 47), some (.ref 1), some (.ref F), some (.int (nI m)), some (.int (nI s)), some (.ref (3 + s)), some (.int (nI h)), w7] [] (zs g gl f) Q := by
  intro n
  induction n using Nat.strongRecOn with
  | _ n ih =>
  intro h g w7 hh e1 e3 e4 e5 e6
  by_cases hn : n = 0
  · have h3 : h = 3 := by omega
    subst h3
    refine zx_iload (q := 116) dX4_look_114 rfl rfl ?_
    refine zx_iconst (q := 117) (v := 3) dX4_look_116 (by decide) rfl ?_
    refine zx_icmp_ge_t (t := 184) (q := 120) dX4_look_117 (by decide) rfl (by decide) ?_
    exact kk g w7 e1 e3 e4 e5 e6
  · obtain ⟨k, v, t, hk, hv, ht, hB, hR, _, _⟩ := z_srt hS hs
    obtain ⟨b, hb9, hb, _⟩ := hB h (by omega)
    obtain ⟨T, hT9, hT, _⟩ := hR (m % 3) (by omega)
    have hso := z_soN_le hM 1 (z_ls gi s m (nI h)) (z_nc gi) (Nat.le_refl _)
    have hnc := z_nc_le hM
    have hsh : z_sh gi m s h = z_shw k v (b + z_soN gi 1 (z_ls gi s m (nI h)) (z_nc gi)) h m T := by
      unfold z_sh
      rw [hk.2.1, hv.2.1, hb, hT, nI_clamp (by omega), nI_clamp (by omega), nI_clamp (by omega), nI_clamp (by omega)]
    have e2 : ∀ (k' j : Nat), ¬ (47 ≤ k' ∧ k' ≤ 55) → zw_u g 55 5 (nI h) k' j = gi k' j := fun k' j z => by rw [z_u_ne _ _ (by omega)]; exact e1 k' j z
    have hls : ∀ j, j < 6 → zw_u g 55 5 (nI h) 55 j = z_ls gi s m (nI h) j := by
      intro j hj
      by_cases c : j = 5
      · subst c; rw [z_u_at]; rfl
      · rw [z_u_ne _ _ (by omega), e6 j (by omega)]
        unfold z_ls
        rcases (by omega : j = 0 ∨ j = 1 ∨ j = 2 ∨ j = 3 ∨ j = 4) with c | c | c | c | c <;> subst c <;> rfl
    refine zx_iload (q := 116) dX4_look_114 rfl rfl ?_
    refine zx_iconst (q := 117) (v := 3) dX4_look_116 (by decide) rfl ?_
    refine zx_icmp_ge_f (t := 184) (q := 120) dX4_look_117 (by decide) rfl (nI_ge (a := h) (b := 3) (by omega) (by decide)) ?_
    refine zx_aload_n (q := 121) dX4_look_120 rfl rfl rfl ?_
    refine zy_getR (q := 124) dX4_look_121 fl_RX4_20 rfl rfl rfl rfl ?_
    refine zx_iconst (q := 125) (v := 5) dX4_look_124 (by decide) rfl ?_
    refine zx_iload (q := 127) dX4_look_125 rfl rfl ?_
    refine zy_iastN (i := 5) (q := 128) dX4_look_127 rfl (by omega) (by first | decide | omega) rfl ?_
    refine zx_aload (q := 130) dX4_look_128 rfl rfl ?_
    refine zx_iconst (q := 131) (v := 2) dX4_look_130 (by decide) rfl ?_
    refine zx_iload (q := 133) dX4_look_131 rfl rfl ?_
    refine zx_iadd (q := 134) dX4_look_133 rfl ?_
    rw [show (2 : Int32) + nI h = nI (2 + h) from by rw [show (2 : Int32) = nI 2 from rfl, nI_add]]
    refine zy_ialdN (q := 135) dX4_look_134 (zr_2 (f := f) (by omega)).2 (by omega) (by first | decide | omega) rfl ?_
    rw [z_u_ne _ _ (by omega), e1 _ _ (by omega), hb]
    refine zx_aload_n (q := 136) dX4_look_135 rfl rfl rfl ?_
    refine zx_iconst (q := 137) (v := 1) dX4_look_136 (by decide) rfl ?_
    refine zx_aload_n (q := 138) dX4_look_137 rfl rfl rfl ?_
    refine zy_getR (q := 141) dX4_look_138 fl_RX4_20 rfl rfl rfl rfl ?_
    refine zx_callV2i (q := 144) (y' := mX1_sumOf) dX4_look_141 ml_RX4_42 ok_mX1_sumOf (zIsF_sh hF) (by decide) rfl (Nat.le_of_ble_eq_true rfl) (Nat.le_of_ble_eq_true rfl) (Nat.le_refl _) (Nat.le_refl _) rfl (t_sumL _ F s m 1 (nI h) hF hM (Or.inr rfl) e2 hls) ?_
    rintro _ _ ⟨rfl, rfl⟩
    refine zx_iadd (q := 145) dX4_look_144 rfl ?_
    rw [nI_add]
    refine zx_istore7 (q := 147) dX4_look_145 rfl rfl ?_
    refine zx_aload_n (q := 148) dX4_look_147 rfl rfl rfl ?_
    refine zy_getR (q := 151) dX4_look_148 fl_RX4_11 rfl rfl rfl rfl ?_
    refine zx_iload (q := 153) dX4_look_151 rfl rfl ?_
    refine zy_aaldN (q := 154) dX4_look_153 rfl (by decide) (by omega) (by decide) (zr_48 (by omega)).1 rfl ?_
    refine zx_iload (q := 156) dX4_look_154 rfl rfl ?_
    refine zx_aload (q := 158) dX4_look_156 rfl rfl ?_
    refine zx_iload (q := 160) dX4_look_158 rfl rfl ?_
    refine zx_iload (q := 162) dX4_look_160 rfl rfl ?_
    refine zx_iload_n (q := 163) dX4_look_162 rfl rfl rfl ?_
    refine zx_aload_n (q := 164) dX4_look_163 rfl rfl rfl ?_
    refine zy_getR (q := 167) dX4_look_164 fl_RX4_46 rfl rfl rfl rfl ?_
    refine zx_iload (q := 169) dX4_look_167 rfl rfl ?_
    refine zy_aaldN (q := 170) dX4_look_169 rfl (by decide) (by omega) (by decide) (zr_8 (by omega)).1 rfl ?_
    refine zx_iload_n (q := 171) dX4_look_170 rfl rfl rfl ?_
    refine zx_iconst (q := 172) (v := 3) dX4_look_171 (by decide) rfl ?_
    refine zx_irem (q := 173) dX4_look_172 (by decide) rfl ?_
    rw [show nI m - nI m / 3 * 3 = nI (m % 3) from by rw [show (3 : Int32) = nI 3 from rfl, z_rem (by omega) (by omega)]]
    refine zy_ialdN (q := 174) dX4_look_173 (zr_8 (f := f) (by omega)).2 (by omega) (by first | decide | omega) rfl ?_
    rw [z_u_ne _ _ (by omega), e1 _ _ (by omega), hT]
    refine zx_callS5i (q := 177) (y' := mX4_shown) dX4_look_174 ml_RX4_49 ok_mX4_shown (Nat.le_of_ble_eq_true rfl) (Nat.le_of_ble_eq_true rfl) (Nat.le_refl _) (Nat.le_refl _) rfl (t_X4_shown _ s k v _ h m T (by omega) (by rw [z_u_ne _ _ (by omega), e1 _ _ (by omega)]; exact hk.2.1) (by rw [z_u_ne _ _ (by omega), e1 _ _ (by omega)]; exact hv.2.1) hk.1 hv.1 (by omega) (by omega) hm) ?_
    rintro _ _ ⟨rfl, rfl⟩
    refine zy_iastN (q := 178) dX4_look_177 (zr_48 (f := f) (by omega)).2 (by omega) (by first | decide | omega) rfl ?_
    refine zx_iinc6 (q := 181) dX4_look_178 rfl rfl ?_
    refine zx_goto (t := 114) dX4_look_181 (by decide) ?_
    rw [z_inc]
    refine ih (n - 1) (by omega) (h + 1) _ _ (by omega) ?_ ?_ ?_ ?_ ?_
    · intro a c hac
      rw [z_u_ne _ _ (by omega), z_u_ne _ _ (by omega)]; exact e1 a c hac
    · refine ⟨?_, ?_, fun s' hs' => ⟨?_, fun h' hh' => ?_⟩⟩
      · rw [z_u_ne _ _ (by omega), z_u_ne _ _ (by omega)]; exact e3.1
      · rw [z_u_ne _ _ (by omega), z_u_ne _ _ (by omega)]; exact e3.2.1
      · rw [z_u_ne _ _ (by omega), z_u_ne _ _ (by omega)]; exact (e3.2.2 s' hs').1
      · rw [z_u_ne _ _ (by omega), z_u_ne _ _ (by omega)]; exact (e3.2.2 s' hs').2 h' hh'
    · rw [z_u_ne _ _ (by omega), z_u_ne _ _ (by omega)]; exact e4
    · intro h' hh'
      by_cases c : h' = h
      · subst c
        rw [z_u_at]
        exact congrArg nI hsh.symm
      · rw [z_u_ne _ _ (by omega), z_u_ne _ _ (by omega)]; exact e5 h' (by omega)
    · intro j hj
      rw [z_u_ne _ _ (by omega), z_u_ne _ _ (by omega)]; exact e6 j hj
theorem lp_X4_look (d F ns m : Nat) (hF : zIsF gi F) (hM : zIsM gi) (hS : zSNow gi ns) (hns : ns ≤ 5) (hm : m < 12) : ∀ (n s : Nat) (g : Nat → Nat → Int32) (w5 w6 w7 : Option Value), s + n = ns → (∀ k j, ¬ (47 ≤ k ∧ k ≤ 55) → g k j = gi k j) → zSG g ns (z_most gi) (z_sh gi m) (z_ow gi m) s → zW l D tc A mX4_look (d + 3) 0 0 0 0 19 [some (.ref 47), some (.ref 1), some (.ref F), some (.int (nI m)), some (.int (nI s)), w5, w6, w7] [] (zs g gl f) (zQv fun S' => ∃ g, S' = zs g gl f ∧ (∀ k j, ¬ (47 ≤ k ∧ k ≤ 55) → g k j = gi k j) ∧ zSG g ns (z_most gi) (z_sh gi m) (z_ow gi m) ns) := by
  intro n
  induction n using Nat.strongRecOn with
  | _ n ih =>
  intro s g w5 w6 w7 hh e1 e3
  by_cases hn : n = 0
  · have hs3 : s = ns := by omega
    subst hs3
    refine zx_iload (q := 21) dX4_look_19 rfl rfl ?_
    refine zx_aload_n (q := 22) dX4_look_21 rfl rfl rfl ?_
    refine zy_getIe (q := 25) (v := nI s) dX4_look_22 fl_RX4_29 rfl rfl (e3.1) rfl ?_
    refine zx_icmp_ge_t (t := 190) (q := 28) dX4_look_25 (by decide) rfl (nI_le (Nat.le_refl _) (by omega)) ?_
    refine zx_vret dX4_look_190 rfl (Nat.le_refl _) (Nat.le_refl _) ⟨rfl, ?_⟩
    exact ⟨g, rfl, e1, e3⟩
  · obtain ⟨k, v, t, hk, hv, ht, hB, hR, _, _⟩ := z_srt hS (s := s) (by omega)
    refine zx_iload (q := 21) dX4_look_19 rfl rfl ?_
    refine zx_aload_n (q := 22) dX4_look_21 rfl rfl rfl ?_
    refine zy_getIe (q := 25) (v := nI ns) dX4_look_22 fl_RX4_29 rfl rfl (e3.1) rfl ?_
    refine zx_icmp_ge_f (t := 190) (q := 28) dX4_look_25 (by decide) rfl (nI_ge (by omega) (by omega)) ?_
    refine zx_aload_n (q := 29) dX4_look_28 rfl rfl rfl ?_
    refine zy_getR (q := 32) dX4_look_29 fl_RX4_39 rfl rfl rfl rfl ?_
    refine zx_iload (q := 34) dX4_look_32 rfl rfl ?_
    refine zy_aaldN (q := 35) dX4_look_34 rfl (by decide) (by omega) (by decide) (zr_2 (by omega)).1 rfl ?_
    refine zx_astore5 (q := 37) dX4_look_35 rfl rfl ?_
    refine zx_aload_n (q := 38) dX4_look_37 rfl rfl rfl ?_
    refine zy_getR (q := 41) dX4_look_38 fl_RX4_20 rfl rfl rfl rfl ?_
    refine zx_iconst (q := 42) (v := 0) dX4_look_41 (by decide) rfl ?_
    refine zx_iload (q := 44) dX4_look_42 rfl rfl ?_
    refine zy_iastN (i := 0) (q := 45) dX4_look_44 rfl (by omega) (by first | decide | omega) rfl ?_
    refine zx_aload_n (q := 46) dX4_look_45 rfl rfl rfl ?_
    refine zy_getR (q := 49) dX4_look_46 fl_RX4_20 rfl rfl rfl rfl ?_
    refine zx_iconst (q := 50) (v := 1) dX4_look_49 (by decide) rfl ?_
    refine zx_aload (q := 52) dX4_look_50 rfl rfl ?_
    refine zx_iconst (q := 53) (v := 0) dX4_look_52 (by decide) rfl ?_
    refine zy_ialdN (i := 0) (q := 54) dX4_look_53 (zr_2 (f := f) (by omega)).2 (by omega) (by first | decide | omega) rfl ?_
    rw [z_u_ne _ _ (by omega), e1 _ _ (by omega)]
    refine zy_iastN (i := 1) (q := 55) dX4_look_54 rfl (by omega) (by first | decide | omega) rfl ?_
    refine zx_aload_n (q := 56) dX4_look_55 rfl rfl rfl ?_
    refine zy_getR (q := 59) dX4_look_56 fl_RX4_20 rfl rfl rfl rfl ?_
    refine zx_iconst (q := 60) (v := 2) dX4_look_59 (by decide) rfl ?_
    refine zx_aload (q := 62) dX4_look_60 rfl rfl ?_
    refine zx_iconst (q := 63) (v := 1) dX4_look_62 (by decide) rfl ?_
    refine zy_ialdN (i := 1) (q := 64) dX4_look_63 (zr_2 (f := f) (by omega)).2 (by omega) (by first | decide | omega) rfl ?_
    rw [z_u_ne _ _ (by omega), z_u_ne _ _ (by omega), e1 _ _ (by omega)]
    refine zy_iastN (i := 2) (q := 65) dX4_look_64 rfl (by omega) (by first | decide | omega) rfl ?_
    refine zx_aload_n (q := 66) dX4_look_65 rfl rfl rfl ?_
    refine zy_getR (q := 69) dX4_look_66 fl_RX4_20 rfl rfl rfl rfl ?_
    refine zx_iconst (q := 70) (v := 3) dX4_look_69 (by decide) rfl ?_
    refine zx_aload (q := 72) dX4_look_70 rfl rfl ?_
    refine zx_iconst (q := 73) (v := 2) dX4_look_72 (by decide) rfl ?_
    refine zy_ialdN (i := 2) (q := 74) dX4_look_73 (zr_2 (f := f) (by omega)).2 (by omega) (by first | decide | omega) rfl ?_
    rw [z_u_ne _ _ (by omega), z_u_ne _ _ (by omega), z_u_ne _ _ (by omega), e1 _ _ (by omega)]
    refine zy_iastN (i := 3) (q := 75) dX4_look_74 rfl (by omega) (by first | decide | omega) rfl ?_
    refine zx_aload_n (q := 76) dX4_look_75 rfl rfl rfl ?_
    refine zy_getR (q := 79) dX4_look_76 fl_RX4_20 rfl rfl rfl rfl ?_
    refine zx_iconst (q := 80) (v := 4) dX4_look_79 (by decide) rfl ?_
    refine zx_iload_n (q := 81) dX4_look_80 rfl rfl rfl ?_
    refine zy_iastN (i := 4) (q := 82) dX4_look_81 rfl (by omega) (by first | decide | omega) rfl ?_
    refine zx_aload_n (q := 83) dX4_look_82 rfl rfl rfl ?_
    refine zy_getR (q := 86) dX4_look_83 fl_RX4_20 rfl rfl rfl rfl ?_
    refine zx_iconst (q := 87) (v := 5) dX4_look_86 (by decide) rfl ?_
    refine zx_bipush (q := 89) (v := 9) dX4_look_87 (by decide) rfl ?_
    refine zy_iastN (i := 5) (q := 90) dX4_look_89 rfl (by omega) (by first | decide | omega) rfl ?_
    refine zx_aload_n (q := 91) dX4_look_90 rfl rfl rfl ?_
    refine zy_getR (q := 94) dX4_look_91 fl_RX4_16 rfl rfl rfl rfl ?_
    refine zx_iload (q := 96) dX4_look_94 rfl rfl ?_
    refine zx_aload (q := 98) dX4_look_96 rfl rfl ?_
    refine zx_iconst (q := 99) (v := 5) dX4_look_98 (by decide) rfl ?_
    refine zy_ialdN (i := 5) (q := 100) dX4_look_99 (zr_2 (f := f) (by omega)).2 (by omega) (by first | decide | omega) rfl ?_
    rw [z_u_ne _ _ (by omega), z_u_ne _ _ (by omega), z_u_ne _ _ (by omega), z_u_ne _ _ (by omega), z_u_ne _ _ (by omega), z_u_ne _ _ (by omega), e1 _ _ (by omega), ht.2.1]
    refine zx_aload_n (q := 101) dX4_look_100 rfl rfl rfl ?_
    refine zx_iconst (q := 102) (v := 0) dX4_look_101 (by decide) rfl ?_
    refine zx_aload_n (q := 103) dX4_look_102 rfl rfl rfl ?_
    refine zy_getR (q := 106) dX4_look_103 fl_RX4_20 rfl rfl rfl rfl ?_
    refine zx_callV2i (q := 109) (y' := mX1_sumOf) dX4_look_106 ml_RX4_42 ok_mX1_sumOf (zIsF_sh hF) (by decide) rfl (Nat.le_of_ble_eq_true rfl) (Nat.le_of_ble_eq_true rfl) (Nat.le_refl _) (Nat.le_refl _) rfl (t_sumL _ F s m 0 9 hF hM (Or.inl rfl) (fun a c z => by rw [z_u_ne _ _ (by omega), z_u_ne _ _ (by omega), z_u_ne _ _ (by omega), z_u_ne _ _ (by omega), z_u_ne _ _ (by omega), z_u_ne _ _ (by omega)]; exact e1 a c z) (fun j hj => by rcases (by omega : j = 0 ∨ j = 1 ∨ j = 2 ∨ j = 3 ∨ j = 4 ∨ j = 5) with c | c | c | c | c | c <;> subst c <;> rfl)) ?_
    rintro _ _ ⟨rfl, rfl⟩
    refine zx_iadd (q := 110) dX4_look_109 rfl ?_
    rw [nI_add]
    refine zy_iastN (q := 111) dX4_look_110 rfl (by omega) (by first | decide | omega) rfl ?_
    refine zx_iconst (q := 112) (v := 0) dX4_look_111 (by decide) rfl ?_
    refine zx_istore6 (q := 114) dX4_look_112 rfl rfl ?_
    refine lp_X4_lookH d F ns m hF hM hS hns hm s (by omega) ?_ 3 0 _ _ (by omega) ?_ ?_ ?_ ?_ ?_
    · intro g2 w8 f1 f3 f4 f5 f6
      refine zx_iinc4 (q := 187) dX4_look_184 rfl rfl ?_
      refine zx_goto (t := 19) dX4_look_187 (by decide) ?_
      rw [z_inc]
      refine ih (n - 1) (by omega) (s + 1) g2 _ _ _ (by omega) f1 ⟨f3.1, f3.2.1, fun s' hs' => ?_⟩
      by_cases c : s' = s
      · subst c; exact ⟨f4, f5⟩
      · exact f3.2.2 s' (by omega)
    · intro a c hac
      rw [z_u_ne _ _ (by omega), z_u_ne _ _ (by omega), z_u_ne _ _ (by omega), z_u_ne _ _ (by omega), z_u_ne _ _ (by omega), z_u_ne _ _ (by omega), z_u_ne _ _ (by omega)]; exact e1 a c hac
    · refine ⟨?_, ?_, fun s' hs' => ⟨?_, fun h' hh' => ?_⟩⟩
      · rw [z_u_ne _ _ (by omega), z_u_ne _ _ (by omega), z_u_ne _ _ (by omega), z_u_ne _ _ (by omega), z_u_ne _ _ (by omega), z_u_ne _ _ (by omega), z_u_ne _ _ (by omega)]; exact e3.1
      · rw [z_u_ne _ _ (by omega), z_u_ne _ _ (by omega), z_u_ne _ _ (by omega), z_u_ne _ _ (by omega), z_u_ne _ _ (by omega), z_u_ne _ _ (by omega), z_u_ne _ _ (by omega)]; exact e3.2.1
      · rw [z_u_ne _ _ (by omega), z_u_ne _ _ (by omega), z_u_ne _ _ (by omega), z_u_ne _ _ (by omega), z_u_ne _ _ (by omega), z_u_ne _ _ (by omega), z_u_ne _ _ (by omega)]; exact (e3.2.2 s' hs').1
      · rw [z_u_ne _ _ (by omega), z_u_ne _ _ (by omega), z_u_ne _ _ (by omega), z_u_ne _ _ (by omega), z_u_ne _ _ (by omega), z_u_ne _ _ (by omega), z_u_ne _ _ (by omega)]; exact (e3.2.2 s' hs').2 h' hh'
    · rw [z_u_at]; unfold z_ow; rw [ht.2.1, nI_clamp (by omega)]
    · intro h' hh'; omega
    · intro j hj
      rcases (by omega : j = 0 ∨ j = 1 ∨ j = 2 ∨ j = 3 ∨ j = 4) with c | c | c | c | c <;> subst c <;> rfl
theorem t_X4_look (d F ns m : Nat) (hF : zIsF gi F) (hM : zIsM gi) (hS : zSNow gi ns) (hns : ns ≤ 5) (hm : m < 12) (hs1 : gi 1 0 = nI ns) : zCall l D tc A mX4_look (d + 3) 0 0 [.ref 47, .ref 1, .ref F, .int (nI m)] (zs gi gl f) (zQv fun S' => ∃ g, S' = zs g gl f ∧ (∀ k j, ¬ (47 ≤ k ∧ k ≤ 55) → g k j = gi k j) ∧ zSG g ns (z_most gi) (z_sh gi m) (z_ow gi m) ns) := by
  show zW l D tc A mX4_look (d + 3) 0 0 0 0 0 [some (.ref 47), some (.ref 1), some (.ref F), some (.int (nI m)), none, none, none, none] [] (zs gi gl f) _
  refine zx_aload_n (q := 1) dX4_look_0 rfl rfl rfl ?_
  refine zx_aload_n (q := 2) dX4_look_1 rfl rfl rfl ?_
  refine zy_getIe (q := 5) (v := nI ns) dX4_look_2 fl_RX4_23 rfl rfl (hs1) rfl ?_
  refine zy_putI (q := 8) dX4_look_5 fl_RX4_29 rfl rfl ⟨rfl, rfl⟩ rfl rfl ?_
  refine zx_aload_n (q := 9) dX4_look_8 rfl rfl rfl ?_
  refine zx_aload_n (q := 10) dX4_look_9 rfl rfl rfl ?_
  refine zx_callV0i (q := 13) (y' := mX1_mostBeasts) dX4_look_10 ml_RX4_30 ok_mX1_mostBeasts (zIsF_sh hF) (by decide) rfl (Nat.le_of_ble_eq_true rfl) (Nat.le_of_ble_eq_true rfl) (Nat.le_refl _) (Nat.le_refl _) rfl (t_mostL _ F hF (fun a c z => z_u_ne _ _ (by omega))) ?_
  rintro _ _ ⟨rfl, rfl⟩
  refine zy_putI (q := 16) dX4_look_13 fl_RX4_36 rfl rfl ⟨rfl, rfl⟩ rfl rfl ?_
  refine zx_iconst (q := 17) (v := 0) dX4_look_16 (by decide) rfl ?_
  refine zx_istore4 (q := 19) dX4_look_17 rfl rfl ?_
  refine lp_X4_look d F ns m hF hM hS hns hm ns 0 _ none none none (by omega) (fun a c z => by rw [z_u_ne _ _ (by omega), z_u_ne _ _ (by omega)]) ⟨rfl, rfl, fun _ z => absurd z (Nat.not_lt_zero _)⟩
end P33
