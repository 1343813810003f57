/-! the class's search -/
/-- a step by x takes r to v -/
def z_dl (x : Int32) (rs v : Nat) : Prop := ∀ C C' y : Nat, C' + rs * y = C + v * y → nI C + x * nI y = nI C'
theorem z_dl_1 (rs : Nat) : z_dl 1 rs (rs + 1) := by
  intro C C' y h
  rw [Int32.one_mul, nI_add]
  congr 1
  rw [Nat.add_mul] at h
  omega
theorem z_dl_0 (rs : Nat) : z_dl (-(nI rs)) rs 0 := by
  intro C C' y h
  rw [Int32.neg_mul, z_mul, ← Int32.sub_eq_add_neg, z_subN (by omega)]
  congr 1
  omega
theorem z_sN_upd (r m : Nat → Nat) (s v : Nat) : ∀ n, s < n → z_sN n (fun i => z_up r s v i * m i) + r s * m s = z_sN n (fun i => r i * m i) + v * m s := by
  intro n
  induction n with
  | zero => intro h; omega
  | succ n ih =>
    intro h
    rw [z_sN, z_sN]
    by_cases c : s = n
    · subst c
      rw [z_up_at, z_sN_congr (h := fun i => r i * m i) s (fun i hi => by rw [z_up_ne _ _ (by omega)])]
      omega
    · have := ih (by omega)
      rw [z_up_ne _ _ (Ne.symm c)]
      omega
theorem z_sN_upd1 (r : Nat → Nat) (s v : Nat) {n : Nat} (h : s < n) : z_sN n (z_up r s v) + r s = z_sN n r + v := by
  have := z_sN_upd r (fun _ => 1) s v n h
  simpa using this
/-- the class's search is at the row r -/
def zCS (g : Nat → Nat → Int32) (ns : Nat) (sh : Nat → Nat → Nat) (ow : Nat → Nat) (r : Nat → Nat) (b : Nat) : Prop :=
  (∀ s, s < 5 → g 57 s = nI (r s)) ∧ (∀ h, h < 3 → g 58 h = nI (z_cn ns sh r h)) ∧ g 56 3 = nI b ∧ g 56 4 = nI (z_tn ns ow r)
/-- what it has found -/
def zCA (g : Nat → Nat → Int32) (ns : Nat) (a : z_A) : Prop :=
  g 56 6 = nI a.1 ∧ g 56 7 = nI a.2.1 ∧ g 56 8 = nI a.2.2.1 ∧ (0 < a.1 → ∀ s, s < ns → g 59 s = nI (a.2.2.2.1 s)) ∧ (∀ s, s < ns → g 61 s = nI (a.2.2.2.2.1 s)) ∧ ∀ s, s < ns → g 60 s = nI (a.2.2.2.2.2 s)
theorem zCA_cg {g g' : Nat → Nat → Int32} {ns : Nat} {a : z_A} (h : zCA g ns a) (e : ∀ k j, ¬ (k = 57 ∨ k = 58 ∨ (k = 56 ∧ (j = 3 ∨ j = 4 ∨ j = 5))) → g' k j = g k j) : zCA g' ns a := by
  obtain ⟨h1, h2, h3, h4, h5, h6⟩ := h
  exact ⟨by rw [e _ _ (by omega)]; exact h1, by rw [e _ _ (by omega)]; exact h2, by rw [e _ _ (by omega)]; exact h3, fun z s hs => by rw [e _ _ (by omega)]; exact h4 z s hs, fun s hs => by rw [e _ _ (by omega)]; exact h5 s hs, fun s hs => by rw [e _ _ (by omega)]; exact h6 s hs⟩
theorem zCS_cg {g g' : Nat → Nat → Int32} {ns : Nat} {sh : Nat → Nat → Nat} {ow : Nat → Nat} {r : Nat → Nat} {b : Nat} (h : zCS g ns sh ow r b) (e : ∀ k j, k = 57 ∨ k = 58 ∨ (k = 56 ∧ (j = 3 ∨ j = 4)) → g' k j = g k j) : zCS g' ns sh ow r b := by
  obtain ⟨h1, h2, h3, h4⟩ := h
  exact ⟨fun s hs => by rw [e _ _ (by omega)]; exact h1 s hs, fun j hj => by rw [e _ _ (by omega)]; exact h2 j hj, by rw [e _ _ (by omega)]; exact h3, by rw [e _ _ (by omega)]; exact h4⟩
theorem zSG_cg {g g' : Nat → Nat → Int32} {ns mo : Nat} {sh : Nat → Nat → Nat} {ow : Nat → Nat} {n : Nat} (h : zSG g ns mo sh ow n) (e : ∀ k j, 47 ≤ k → k ≤ 54 → g' k j = g k j) (hn : n ≤ 5) : zSG g' ns mo sh ow n :=
  ⟨by rw [e _ _ (by omega) (by omega)]; exact h.1, by rw [e _ _ (by omega) (by omega)]; exact h.2.1, fun s hs => ⟨by rw [e _ _ (by omega) (by omega)]; exact (h.2.2 s hs).1, fun j hj => by rw [e _ _ (by omega) (by omega)]; exact (h.2.2 s hs).2 j hj⟩⟩
/-- what a hole's number is -/
def z_wt (g : Nat → Nat → Int32) (wc : Nat) (w : Nat → Option Nat) : Prop := ∀ h, h < 3 → g wc h = z_ov (w h) ∧ ∀ v, w h = some v → v < 2 ^ 30
theorem z_ov_m1 {o : Option Nat} (h : ∀ v, o = some v → v < 2 ^ 30) : z_ov o = -1 ↔ o = none := by
  cases o with
  | none => exact ⟨fun _ => rfl, fun _ => rfl⟩
  | some v =>
    have := h v rfl
    exact ⟨fun e => absurd e (z_nm1 (by omega)), fun e => by cases e⟩
theorem z_dcr (s : Nat) : nI s + Int32.ofInt (-1) = nI s - 1 := by
  rw [Int32.sub_eq_add_neg]
  rfl
section P39
variable {l : Launch} {D : va_G} {tc : Nat → ClassId} {A : Nat → Prop} {S : zw_S} {gi : Nat → Nat → Int32} {gl : Nat → Nat → Int64} {f : Option Nat}
theorem lp_fillI (d b w : Nat) (v : Int32) (hb : zg_sh[b]? = some (1, w)) (hw : w < 1000) : ∀ (k i : Nat), i + k = w → zW l D tc A mJ7_fill_53178 d 0 0 0 0 5 [some (.ref b), some (.int v), some (.int (nI i)), some (.int (nI w))] [] (zs (zw_fill gi b 0 i v) gl f) (zQv fun S' => S' = zs (zw_fill gi b 0 w v) gl f) := by
  intro k
  induction k using Nat.strongRecOn with
  | _ k ih =>
    intro i hi
    refine zx_iload_n (q := 6) dJ7_fill_53178_5 rfl rfl rfl ?_
    refine zx_iload_n (q := 7) dJ7_fill_53178_6 rfl rfl rfl ?_
    refine zx_icmp_ge (q := 10) (t := 20) dJ7_fill_53178_7 (by decide) rfl (fun c_7 => ?_) (fun c_7 => ?_)
    · have hi2 : i = w := by have := z_ge (x := nI w) rfl (by omega) c_7; omega
      refine zx_vret dJ7_fill_53178_20 rfl (Nat.le_refl _) (Nat.le_refl _) ⟨rfl, ?_⟩
      rw [hi2]
    · have hi2 : i < w := z_lt (x := nI w) rfl (by omega) c_7
      refine zx_aload_n (q := 11) dJ7_fill_53178_10 rfl rfl rfl ?_
      refine zx_iload_n (q := 12) dJ7_fill_53178_11 rfl rfl rfl ?_
      refine zx_iload_n (q := 13) dJ7_fill_53178_12 rfl rfl rfl ?_
      refine zy_iastN (q := 14) dJ7_fill_53178_13 hb (by omega) (by first | decide | omega) rfl ?_
      refine zx_iinc2 (q := 17) dJ7_fill_53178_14 rfl rfl ?_
      refine zx_goto (t := 5) dJ7_fill_53178_17 (by decide) ?_
      rw [z_inc, zw_fill_s _ (by omega)]
      exact ih (k - 1) (by omega) (i + 1) (by omega)
theorem t_fillI (d b w : Nat) (v : Int32) (hb : zg_sh[b]? = some (1, w)) (hw : w < 1000) : zCall l D tc A mJ7_fill_53178 d 0 0 [.ref b, .int v] (zs gi gl f) (zQv fun S' => S' = zs (zw_fill gi b 0 w v) gl f) := by
  show zW l D tc A mJ7_fill_53178 d 0 0 0 0 0 [some (.ref b), some (.int v), none, none] [] (zs gi gl f) _
  refine zx_iconst (q := 1) (v := 0) dJ7_fill_53178_0 (by decide) rfl ?_
  refine zx_istore2 (q := 2) dJ7_fill_53178_1 rfl rfl ?_
  refine zx_aload_n (q := 3) dJ7_fill_53178_2 rfl rfl rfl ?_
  refine zy_alen (q := 4) dJ7_fill_53178_3 hb (by decide) rfl rfl ?_
  refine zx_istore3 (q := 5) dJ7_fill_53178_4 rfl rfl ?_
  have h := lp_fillI (l := l) (D := D) (tc := tc) (A := A) (gi := gi) (gl := gl) (f := f) d b w v hb hw w 0 (by omega)
  rw [zw_fill_0] at h
  exact h
theorem lp_X3_add (d : Nat) {g : Nat → Nat → Int32} {ns mo : Nat} {sh : Nat → Nat → Nat} {ow : Nat → Nat} (hns : ns ≤ 5) (hg : zSG g ns mo sh ow ns) {r : Nat → Nat} {b2 : Nat} (s v : Nat) (x : Int32) (hs : s < ns) (hx : z_dl x (r s) v) : ∀ (n h : Nat) (g1 : Nat → Nat → Int32), h + n = 3 → (∀ k j, ¬ (k = 57 ∨ k = 58 ∨ (k = 56 ∧ (j = 3 ∨ j = 4))) → g1 k j = g k j) → (∀ i, i < 5 → g1 57 i = nI (z_up r s v i)) → g1 56 3 = nI b2 → g1 56 4 = nI (z_tn ns ow (z_up r s v)) → (∀ i, i < h → g1 58 i = nI (z_cn ns sh (z_up r s v) i)) → (∀ i, h ≤ i → i < 3 → g1 58 i = nI (z_cn ns sh r i)) →
    zW l D tc A mX3_addBeasts d 0 0 0 0 42 [some (.ref 56), some (.int (nI s)), some (.int x), some (.int (nI h))] [] (zs g1 gl f) (zQv fun S' => ∃ g2, S' = zs g2 gl f ∧ zCS g2 ns sh ow (z_up r s v) b2 ∧ (∀ k j, ¬ (k = 57 ∨ k = 58 ∨ (k = 56 ∧ (j = 3 ∨ j = 4))) → g2 k j = g k j)) := by
  intro n
  induction n using Nat.strongRecOn with
  | _ n ih =>
    intro h g1 hh e h57 h3 h4 hd hn
    have hg1 : ∀ s, s < ns → g1 54 s = nI (ow s) ∧ ∀ h, h < 3 → g1 (49 + s) h = nI (sh s h) := fun s hs => ⟨by rw [e _ _ (by omega)]; exact (hg.2.2 s hs).1, fun h hh => by rw [e _ _ (by omega)]; exact (hg.2.2 s hs).2 h hh⟩
    refine zx_iload_n (q := 43) dX3_addBeasts_42 rfl rfl rfl ?_
    refine zx_iconst (q := 44) (v := 3) dX3_addBeasts_43 (by decide) rfl ?_
    refine zx_icmp_ge (q := 47) (t := 75) dX3_addBeasts_44 (by decide) rfl (fun c_44 => ?_) (fun c_44 => ?_)
    · have hs2 : h = 3 := by have := z_ge (x := nI (3)) rfl (by omega) c_44; omega
      have hk0 : n = 0 := by omega
      subst hk0
      refine zx_vret dX3_addBeasts_75 rfl (Nat.le_refl _) (Nat.le_refl _) ⟨rfl, ?_⟩
      exact ⟨g1, rfl, ⟨h57, fun i hi => hd i (by omega), h3, h4⟩, e⟩
    · have hs2 : h < 3 := z_lt (x := nI (3)) rfl (by omega) c_44
      obtain ⟨n, rfl⟩ : ∃ q, n = q + 1 := ⟨n - 1, by omega⟩
      refine zx_aload_n (q := 48) dX3_addBeasts_47 rfl rfl rfl ?_
      refine zy_getR (q := 51) dX3_addBeasts_48 fl_RX3_15 rfl rfl rfl rfl ?_
      refine zx_iload_n (q := 52) dX3_addBeasts_51 rfl rfl rfl ?_
      refine zx_dup2 (q := 53) dX3_addBeasts_52 rfl rfl rfl ?_
      refine zy_ialdN (q := 54) dX3_addBeasts_53 rfl (by omega) (by first | decide | omega) rfl ?_
      refine zx_iload_n (q := 55) dX3_addBeasts_54 rfl rfl rfl ?_
      refine zx_aload_n (q := 56) dX3_addBeasts_55 rfl rfl rfl ?_
      refine zy_getR (q := 59) dX3_addBeasts_56 fl_RX3_27 rfl rfl rfl rfl ?_
      refine zy_getR (q := 62) dX3_addBeasts_59 fl_RX3_88 rfl rfl rfl rfl ?_
      refine zx_iload_n (q := 63) dX3_addBeasts_62 rfl rfl rfl ?_
      refine zy_aaldN (q := 64) dX3_addBeasts_63 rfl (by decide) (by omega) (by decide) (zr_48 (by omega)).1 rfl ?_
      refine zx_iload_n (q := 65) dX3_addBeasts_64 rfl rfl rfl ?_
      refine zy_ialdN (q := 66) dX3_addBeasts_65 (zr_48 (f := f) (by omega)).2 (by omega) (by first | decide | omega) rfl ?_
      rw [((hg1 s hs).2 h (by omega)), hn h (Nat.le_refl _) (by omega)]
      refine zx_imul (q := 67) dX3_addBeasts_66 rfl ?_
      refine zx_iadd (q := 68) dX3_addBeasts_67 rfl ?_
      rw [hx (z_cn ns sh r h) (z_cn ns sh (z_up r s v) h) (sh s h) (z_sN_upd r (fun i => sh i h) s v ns hs)]
      refine zy_iastN (q := 69) dX3_addBeasts_68 rfl (by omega) (by first | decide | omega) rfl ?_
      refine zx_iinc3 (q := 72) dX3_addBeasts_69 rfl rfl ?_
      refine zx_goto (t := 42) dX3_addBeasts_72 (by decide) ?_
      rw [z_inc]
      refine ih n (by omega) (h + 1) _ (by omega) ?_ ?_ ?_ ?_ ?_ ?_
      · intro k j z; rw [z_u_ne _ _ (by omega)]; exact e k j z
      · intro i hi; rw [z_u_ne _ _ (by omega)]; exact h57 i hi
      · rw [z_u_ne _ _ (by omega)]; exact h3
      · rw [z_u_ne _ _ (by omega)]; exact h4
      · intro i hi
        by_cases c : i = h
        · subst c; rw [z_u_at]
        · rw [z_u_ne _ _ (by omega)]; exact hd i (by omega)
      · intro i hi hi2; rw [z_u_ne _ _ (by omega)]; exact hn i (by omega) hi2
theorem t_X3_add (d : Nat) {g : Nat → Nat → Int32} {ns mo : Nat} {sh : Nat → Nat → Nat} {ow : Nat → Nat} (hns : ns ≤ 5) (hg : zSG g ns mo sh ow ns) {r : Nat → Nat} {b : Nat} (hC : zCS g ns sh ow r b) (s v b2 : Nat) (x : Int32) (hs : s < ns) (hx : z_dl x (r s) v) (hb : b2 + r s = b + v) : zCall l D tc A mX3_addBeasts d 0 0 [.ref 56, .int (nI s), .int x] (zs g gl f) (zQv fun S' => ∃ g2, S' = zs g2 gl f ∧ zCS g2 ns sh ow (z_up r s v) b2 ∧ (∀ k j, ¬ (k = 57 ∨ k = 58 ∨ (k = 56 ∧ (j = 3 ∨ j = 4))) → g2 k j = g k j)) := by
  show zW l D tc A mX3_addBeasts d 0 0 0 0 0 [some (.ref 56), some (.int (nI s)), some (.int x), none] [] (zs g gl f) _
  refine zx_aload_n (q := 1) dX3_addBeasts_0 rfl rfl rfl ?_
  refine zy_getR (q := 4) dX3_addBeasts_1 fl_RX3_9 rfl rfl rfl rfl ?_
  refine zx_iload_n (q := 5) dX3_addBeasts_4 rfl rfl rfl ?_
  refine zx_dup2 (q := 6) dX3_addBeasts_5 rfl rfl rfl ?_
  refine zy_ialdN (q := 7) dX3_addBeasts_6 rfl (by omega) (by first | decide | omega) rfl ?_
  refine zx_iload_n (q := 8) dX3_addBeasts_7 rfl rfl rfl ?_
  refine zx_iadd (q := 9) dX3_addBeasts_8 rfl ?_
  rw [hC.1 s (by omega), show nI (r s) + x = nI v from by have := hx (r s) v 1 (by omega); rw [← this]; congr 1; exact (Int32.mul_one x).symm]
  refine zy_iastN (q := 10) dX3_addBeasts_9 rfl (by omega) (by first | decide | omega) rfl ?_
  refine zx_aload_n (q := 11) dX3_addBeasts_10 rfl rfl rfl ?_
  refine zx_dup (q := 12) dX3_addBeasts_11 rfl rfl ?_
  refine zy_getI (q := 15) dX3_addBeasts_12 fl_RX3_70 rfl rfl rfl ?_
  refine zx_iload_n (q := 16) dX3_addBeasts_15 rfl rfl rfl ?_
  refine zx_iadd (q := 17) dX3_addBeasts_16 rfl ?_
  rw [z_u_ne _ _ (by omega), hC.2.2.1, show nI b + x = nI b2 from by have := hx b b2 1 (by omega); rw [← this]; congr 1; exact (Int32.mul_one x).symm]
  refine zy_putI (q := 20) dX3_addBeasts_17 fl_RX3_70 rfl rfl ⟨rfl, rfl⟩ rfl rfl ?_
  refine zx_aload_n (q := 21) dX3_addBeasts_20 rfl rfl rfl ?_
  refine zx_dup (q := 22) dX3_addBeasts_21 rfl rfl ?_
  refine zy_getI (q := 25) dX3_addBeasts_22 fl_RX3_73 rfl rfl rfl ?_
  refine zx_iload_n (q := 26) dX3_addBeasts_25 rfl rfl rfl ?_
  refine zx_aload_n (q := 27) dX3_addBeasts_26 rfl rfl rfl ?_
  refine zy_getR (q := 30) dX3_addBeasts_27 fl_RX3_27 rfl rfl rfl rfl ?_
  refine zy_getR (q := 33) dX3_addBeasts_30 fl_RX3_85 rfl rfl rfl rfl ?_
  refine zx_iload_n (q := 34) dX3_addBeasts_33 rfl rfl rfl ?_
  refine zy_ialdN (q := 35) dX3_addBeasts_34 rfl (by omega) (by first | decide | omega) rfl ?_
  refine zx_imul (q := 36) dX3_addBeasts_35 rfl ?_
  refine zx_iadd (q := 37) dX3_addBeasts_36 rfl ?_
  rw [z_u_ne _ _ (by omega), z_u_ne _ _ (by omega), hC.2.2.2, z_u_ne _ _ (by omega), z_u_ne _ _ (by omega), (hg.2.2 s hs).1, hx (z_tn ns ow r) (z_tn ns ow (z_up r s v)) (ow s) (z_sN_upd r ow s v ns hs)]
  refine zy_putI (q := 40) dX3_addBeasts_37 fl_RX3_73 rfl rfl ⟨rfl, rfl⟩ rfl rfl ?_
  refine zx_iconst (q := 41) (v := 0) dX3_addBeasts_40 (by decide) rfl ?_
  refine zx_istore3 (q := 42) dX3_addBeasts_41 rfl rfl ?_
  refine lp_X3_add d hns hg s v x hs hx 3 0 _ (by omega) ?_ ?_ ?_ ?_ ?_ ?_
  · intro k j z; rw [z_u_ne _ _ (by omega), z_u_ne _ _ (by omega), z_u_ne _ _ (by omega)]
  · intro i hi
    rw [z_u_ne _ _ (by omega), z_u_ne _ _ (by omega)]
    by_cases c : i = s
    · subst c; rw [z_u_at, z_up_at]
    · rw [z_u_ne _ _ (by omega), z_up_ne _ _ c]; exact hC.1 i hi
  · rw [z_u_ne _ _ (by omega), z_u_at]
  · rw [z_u_at]
  · intro i hi; omega
  · intro i _ hi; rw [z_u_ne _ _ (by omega), z_u_ne _ _ (by omega), z_u_ne _ _ (by omega)]; exact hC.2.1 i hi
/-- behind a step: at the next row, or at the end -/
def zAdv (g : Nat → Nat → Int32) (ns : Nat) (sh : Nat → Nat → Nat) (ow : Nat → Nat) : Option ((Nat → Nat) × Nat) → Prop
  | none => g 56 5 = 1
  | some q => zCS g ns sh ow q.1 q.2 ∧ g 56 5 = 0
theorem lp_X3_adv (d : Nat) {ns mo : Nat} {sh : Nat → Nat → Nat} {ow : Nat → Nat} (hns : ns ≤ 5) (w1 w2 : Int32) : ∀ (n : Nat) (g : Nat → Nat → Int32) (r : Nat → Nat) (b : Nat) (full : Bool), n ≤ ns → zSG g ns mo sh ow ns → zCS g ns sh ow r b → b = z_sN ns r → b < 1000 → g 56 5 = 0 →
    zW l D tc A mX3_advance (d + 1) 0 0 0 0 29 [some (.ref 56), some (.int w1), some (.int w2), some (.int (zb full)), some (.int (nI n - 1))] [] (zs g gl f) (zQv fun S' => ∃ g2, S' = zs g2 gl f ∧ zAdv g2 ns sh ow (z_cx n r b full) ∧ (∀ k j, ¬ (k = 57 ∨ k = 58 ∨ (k = 56 ∧ (j = 3 ∨ j = 4 ∨ j = 5))) → g2 k j = g k j)) := by
  intro n
  induction n using Nat.strongRecOn with
  | _ n ih =>
    intro g r b full hn hg hC hb hb3 h5
    refine zx_iload (q := 31) dX3_advance_29 rfl rfl ?_
    refine zx_if_lt (q := 34) (t := 78) dX3_advance_31 (by decide) rfl (fun c_31 => ?_) (fun c_31 => ?_)
    · have hs0 : n = 0 := by rcases Nat.eq_zero_or_pos n with q | q; exact q; obtain ⟨s, rfl⟩ : ∃ s, n = s + 1 := ⟨n - 1, by omega⟩; rw [nI_pred] at c_31; exact absurd c_31 (nI_pos (by omega))
      subst hs0
      refine zx_aload_n (q := 79) dX3_advance_78 rfl rfl rfl ?_
      refine zx_iconst (q := 80) (v := 1) dX3_advance_79 (by decide) rfl ?_
      refine zy_putI (q := 83) dX3_advance_80 fl_RX3_51 rfl rfl ⟨rfl, rfl⟩ rfl rfl ?_
      refine zx_vret dX3_advance_83 rfl (Nat.le_refl _) (Nat.le_refl _) ⟨rfl, ?_⟩
      exact ⟨_, rfl, z_u_at _ _ _ _, fun k j z => z_u_ne _ _ (by omega)⟩
    · obtain ⟨s, rfl⟩ : ∃ s, n = s + 1 := ⟨n - 1, by cases n with | zero => exact absurd (by decide : (nI 0 - 1 : Int32) < 0) c_31 | succ n => rfl⟩
      have hrs : r s ≤ z_sN ns r := z_sN_ge ns s (by omega)
      refine zx_iload_n (q := 35) dX3_advance_34 rfl rfl rfl ?_
      refine zx_if_ne (q := 38) (t := 46) dX3_advance_35 (by decide) rfl (fun c_35 => ?_) (fun c_35 => ?_)
      · have hfu : full = true := (zb_nz full).mp c_35
        subst hfu
        refine zx_aload_n (q := 47) dX3_advance_46 rfl rfl rfl ?_
        refine zy_getR (q := 50) dX3_advance_47 fl_RX3_9 rfl rfl rfl rfl ?_
        refine zx_iload (q := 52) dX3_advance_50 rfl rfl ?_
        rw [nI_pred]
        refine zy_ialdN (q := 53) dX3_advance_52 rfl (by omega) (by first | decide | omega) rfl ?_
        rw [hC.1 s (by omega)]
        refine zx_if_le (q := 56) (t := 72) dX3_advance_53 (by decide) rfl (fun c_53 => ?_) (fun c_53 => ?_)
        · have hr0 : ¬ 0 < r s := by intro z; exact absurd c_53 (nI_nle z (by omega))
          refine zx_iinc4 (q := 75) dX3_advance_72 rfl rfl ?_
          refine zx_goto (t := 29) dX3_advance_75 (by decide) ?_
          rw [z_dcr]
          first
            | (refine zW.mono (ih s (by omega) _ (z_up r s 0) (b - r s) false (by omega) (zSG_cg hg (fun k j a b => e1 k j (by omega)) (by omega)) hC1 (by have := z_sN_upd1 r s 0 (n := ns) (by omega); omega) (by omega) (by rw [e1 _ _ (by omega)]; exact h5)) ?_
               rintro o S' ⟨ho, g2, h0, h1, h2⟩
               exact ⟨ho, g2, h0, by rw [z_cx, if_neg (by simp), if_pos hr0]; exact h1, fun k j z => (h2 k j z).trans (e1 k j (by omega))⟩)
            | (refine zW.mono (ih s (by omega) g r b true (by omega) hg hC hb hb3 h5) ?_
               rintro o S' ⟨ho, g2, h0, h1, h2⟩
               exact ⟨ho, g2, h0, by rw [z_cx, if_neg (by simp), if_neg hr0]; exact h1, h2⟩)
        · have hr0 : 0 < r s := by rcases Nat.eq_zero_or_pos (r s) with q | q; exact absurd (by rw [q]; decide) c_53; exact q
          refine zx_aload_n (q := 57) dX3_advance_56 rfl rfl rfl ?_
          refine zx_iload (q := 59) dX3_advance_57 rfl rfl ?_
          refine zx_aload_n (q := 60) dX3_advance_59 rfl rfl rfl ?_
          refine zy_getR (q := 63) dX3_advance_60 fl_RX3_9 rfl rfl rfl rfl ?_
          refine zx_iload (q := 65) dX3_advance_63 rfl rfl ?_
          refine zy_ialdN (q := 66) dX3_advance_65 rfl (by omega) (by first | decide | omega) rfl ?_
          rw [hC.1 s (by omega)]
          refine zx_ineg (q := 67) dX3_advance_66 rfl ?_
          refine zx_callV2v (q := 70) (y' := mX3_addBeasts) dX3_advance_67 ml_RX3_81 ok_mX3_addBeasts rfl (by decide) rfl (Nat.le_of_ble_eq_true rfl) (Nat.le_of_ble_eq_true rfl) (Nat.le_refl _) (Nat.le_refl _) rfl (t_X3_add _ hns hg hC s 0 (b - r s) (-(nI (r s))) (by omega) (z_dl_0 _) (by omega)) ?_
          rintro _ ⟨g1, rfl, hC1, e1⟩
          refine zx_iconst (q := 71) (v := 0) dX3_advance_70 (by decide) rfl ?_
          refine zx_istore3 (q := 72) dX3_advance_71 rfl rfl ?_
          refine zx_iinc4 (q := 75) dX3_advance_72 rfl rfl ?_
          refine zx_goto (t := 29) dX3_advance_75 (by decide) ?_
          rw [z_dcr]
          first
            | (refine zW.mono (ih s (by omega) _ (z_up r s 0) (b - r s) false (by omega) (zSG_cg hg (fun k j a b => e1 k j (by omega)) (by omega)) hC1 (by have := z_sN_upd1 r s 0 (n := ns) (by omega); omega) (by omega) (by rw [e1 _ _ (by omega)]; exact h5)) ?_
               rintro o S' ⟨ho, g2, h0, h1, h2⟩
               exact ⟨ho, g2, h0, by rw [z_cx, if_neg (by simp), if_pos hr0]; exact h1, fun k j z => (h2 k j z).trans (e1 k j (by omega))⟩)
            | (refine zW.mono (ih s (by omega) g r b true (by omega) hg hC hb hb3 h5) ?_
               rintro o S' ⟨ho, g2, h0, h1, h2⟩
               exact ⟨ho, g2, h0, by rw [z_cx, if_neg (by simp), if_neg hr0]; exact h1, h2⟩)
      · have hfu : full = false := (zb_z full).mp (by simpa using c_35)
        subst hfu
        refine zx_aload_n (q := 39) dX3_advance_38 rfl rfl rfl ?_
        refine zx_iload (q := 41) dX3_advance_39 rfl rfl ?_
        rw [nI_pred]
        refine zx_iconst (q := 42) (v := 1) dX3_advance_41 (by decide) rfl ?_
        refine zx_callV2v (q := 45) (y' := mX3_addBeasts) dX3_advance_42 ml_RX3_81 ok_mX3_addBeasts rfl (by decide) rfl (Nat.le_of_ble_eq_true rfl) (Nat.le_of_ble_eq_true rfl) (Nat.le_refl _) (Nat.le_refl _) rfl (t_X3_add _ hns hg hC s (r s + 1) (b + 1) 1 (by omega) (z_dl_1 _) (by omega)) ?_
        rintro _ ⟨g1, rfl, hC1, e1⟩
        refine zx_vret dX3_advance_45 rfl (Nat.le_refl _) (Nat.le_refl _) ⟨rfl, ?_⟩
        exact ⟨_, rfl, by rw [z_cx, if_pos rfl]; exact ⟨hC1, by rw [e1 _ _ (by omega)]; exact h5⟩, fun k j z => e1 k j (by omega)⟩
theorem t_X3_adv (d : Nat) {g : Nat → Nat → Int32} {ns mo : Nat} {sh : Nat → Nat → Nat} {ow : Nat → Nat} (hns : ns ≤ 5) (hg : zSG g ns mo sh ow ns) {r : Nat → Nat} {b : Nat} (hC : zCS g ns sh ow r b) (M : Nat) (bey : Bool) (hb : b = z_sN ns r) (hb3 : b < 1000) (hM : M < 1000) (h5 : g 56 5 = 0) : zCall l D tc A mX3_advance (d + 1) 0 0 [.ref 56, .int (nI M), .int (zb bey)] (zs g gl f) (zQv fun S' => ∃ g2, S' = zs g2 gl f ∧ zAdv g2 ns sh ow (z_cx ns r b (bey || decide (M ≤ b))) ∧ (∀ k j, ¬ (k = 57 ∨ k = 58 ∨ (k = 56 ∧ (j = 3 ∨ j = 4 ∨ j = 5))) → g2 k j = g k j)) := by
  show zW l D tc A mX3_advance (d + 1) 0 0 0 0 0 [some (.ref 56), some (.int (nI M)), some (.int (zb bey)), none, none] [] (zs g gl f) _
  refine zx_iload_n (q := 1) dX3_advance_0 rfl rfl rfl ?_
  refine zx_if_ne (q := 4) (t := 12) dX3_advance_1 (by decide) rfl (fun c_1 => ?_) (fun c_1 => ?_)
  · have ef : (bey || decide (M ≤ b)) = true := by rw [(zb_nz bey).mp c_1]; rfl
    rw [ef]
    refine zx_iconst (q := 13) (v := 1) dX3_advance_12 (by decide) rfl ?_
    refine zx_goto (t := 17) dX3_advance_13 (by decide) ?_
    refine zx_istore3 (q := 18) dX3_advance_17 rfl rfl ?_
    refine zx_aload_n (q := 19) dX3_advance_18 rfl rfl rfl ?_
    refine zy_getR (q := 22) dX3_advance_19 fl_RX3_27 rfl rfl rfl rfl ?_
    refine zy_getIe (q := 25) (v := nI ns) dX3_advance_22 fl_RX3_76 rfl rfl (hg.1) rfl ?_
    refine zx_iconst (q := 26) (v := 1) dX3_advance_25 (by decide) rfl ?_
    refine zx_isub (q := 27) dX3_advance_26 rfl ?_
    refine zx_istore4 (q := 29) dX3_advance_27 rfl rfl ?_
    first | exact lp_X3_adv d hns _ _ ns g r b true (Nat.le_refl _) hg hC hb hb3 h5 | exact lp_X3_adv d hns _ _ ns g r b false (Nat.le_refl _) hg hC hb hb3 h5
  · refine zx_aload_n (q := 5) dX3_advance_4 rfl rfl rfl ?_
    refine zy_getIe (q := 8) (v := nI b) dX3_advance_5 fl_RX3_70 rfl rfl (hC.2.2.1) rfl ?_
    refine zx_iload_n (q := 9) dX3_advance_8 rfl rfl rfl ?_
    refine zx_icmp_lt (q := 12) (t := 16) dX3_advance_9 (by decide) rfl (fun c_9 => ?_) (fun c_9 => ?_)
    · have ef : (bey || decide (M ≤ b)) = false := by rw [(zb_z bey).mp (by simpa using c_1)]; rw [nI_ltI (by omega) (by omega)] at c_9; simp; omega
      rw [ef]
      refine zx_iconst (q := 17) (v := 0) dX3_advance_16 (by decide) rfl ?_
      refine zx_istore3 (q := 18) dX3_advance_17 rfl rfl ?_
      refine zx_aload_n (q := 19) dX3_advance_18 rfl rfl rfl ?_
      refine zy_getR (q := 22) dX3_advance_19 fl_RX3_27 rfl rfl rfl rfl ?_
      refine zy_getIe (q := 25) (v := nI ns) dX3_advance_22 fl_RX3_76 rfl rfl (hg.1) rfl ?_
      refine zx_iconst (q := 26) (v := 1) dX3_advance_25 (by decide) rfl ?_
      refine zx_isub (q := 27) dX3_advance_26 rfl ?_
      refine zx_istore4 (q := 29) dX3_advance_27 rfl rfl ?_
      first | exact lp_X3_adv d hns _ _ ns g r b true (Nat.le_refl _) hg hC hb hb3 h5 | exact lp_X3_adv d hns _ _ ns g r b false (Nat.le_refl _) hg hC hb hb3 h5
    · have ef : (bey || decide (M ≤ b)) = true := by rw [nI_ltI (by omega) (by omega)] at c_9; simp; omega
      rw [ef]
      refine zx_iconst (q := 13) (v := 1) dX3_advance_12 (by decide) rfl ?_
      refine zx_goto (t := 17) dX3_advance_13 (by decide) ?_
      refine zx_istore3 (q := 18) dX3_advance_17 rfl rfl ?_
      refine zx_aload_n (q := 19) dX3_advance_18 rfl rfl rfl ?_
      refine zy_getR (q := 22) dX3_advance_19 fl_RX3_27 rfl rfl rfl rfl ?_
      refine zy_getIe (q := 25) (v := nI ns) dX3_advance_22 fl_RX3_76 rfl rfl (hg.1) rfl ?_
      refine zx_iconst (q := 26) (v := 1) dX3_advance_25 (by decide) rfl ?_
      refine zx_isub (q := 27) dX3_advance_26 rfl ?_
      refine zx_istore4 (q := 29) dX3_advance_27 rfl rfl ?_
      first | exact lp_X3_adv d hns _ _ ns g r b true (Nat.le_refl _) hg hC hb hb3 h5 | exact lp_X3_adv d hns _ _ ns g r b false (Nat.le_refl _) hg hC hb hb3 h5
end P39
