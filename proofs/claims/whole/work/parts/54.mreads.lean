/-! the reference's smallest readers -/
/-- the text, and the place -/
def zRK (g : Nat → Nat → Int32) (tx : Nat → Nat) (len p : Nat) : Prop := g 108 12 = nI len ∧ g 108 13 = nI p ∧ p ≤ len ∧ len ≤ 100 ∧ ∀ k, k < 100 → g 117 k = nI (tx k) ∧ tx k < 128
theorem zRK_fr {g g' : Nat → Nat → Int32} {tx : Nat → Nat} {len p : Nat} (h : zRK g tx len p) (e : ∀ k j, k = 117 ∨ (k = 108 ∧ (j = 12 ∨ j = 13)) → g' k j = g k j) : zRK g' tx len p :=
  ⟨by rw [e _ _ (by omega)]; exact h.1, by rw [e _ _ (by omega)]; exact h.2.1, h.2.2.1, h.2.2.2.1, fun k hk => by rw [e _ _ (by omega)]; exact h.2.2.2.2 k hk⟩
theorem zRK_adv {g : Nat → Nat → Int32} {tx : Nat → Nat} {len p p' : Nat} (h : zRK g tx len p) (hp : p' ≤ len) : zRK (zw_u g 108 13 (nI p')) tx len p' :=
  ⟨by rw [z_u_ne _ _ (by omega)]; exact h.1, by rw [z_u_at], hp, h.2.2.2.1, fun k hk => by rw [z_u_ne _ _ (by omega)]; exact h.2.2.2.2 k hk⟩
def z_nt (tx : Nat → Nat) (len p : Nat) : Int32 := if p < len then nI (tx p) else -1
theorem z_nt_at {g : Nat → Nat → Int32} {tx : Nat → Nat} {len p b : Nat} (K : zRK g tx len p) (hb : b < 128) : z_nt tx len p = nI b ↔ z_at tx len p b = true := by
  unfold z_nt z_at
  by_cases c : p < len
  · rw [if_pos c, nI_eq (by have := (K.2.2.2.2 p (by have := K.2.2.2.1; omega)).2; omega) (by omega)]
    simp [c]
  · rw [if_neg c]
    simp [c]
    exact fun z => z_nm1 (by omega) z.symm
def z_plc (w : Int32) : Int32 := if w = 115 then 0 else if w = 107 then 1 else if w = 118 then 2 else if w = 102 then 3 else if w = 109 then 4 else if w = 104 then 5 else -1
theorem z_plc_ok : (∀ b, b < 128 → z_plc (nI b) = z_ov (z_cko 6 b)) ∧ z_plc (-1) = -1 := by
  have h1 : ∀ b, b < 128 → z_plc (nI b) = z_ov (z_cko 6 b) := by decide +kernel
  exact ⟨h1, by decide⟩
theorem z_plc_nt {g : Nat → Nat → Int32} {tx : Nat → Nat} {len p : Nat} (K : zRK g tx len p) : z_plc (z_nt tx len p) = z_ov (z_oo tx len 6 p) := by
  unfold z_nt z_oo
  by_cases c : p < len
  · rw [if_pos c, if_pos c, z_plc_ok.1 _ (K.2.2.2.2 p (by have := K.2.2.2.1; omega)).2]
  · rw [if_neg c, if_neg c, z_plc_ok.2]; rfl
theorem z_rg3 : ∀ b, b < 128 → (z_in (nI b) 60 62 = (z_cko 7 b).isSome ∧ z_in (nI b) 48 57 = (z_cko 3 b).isSome) := by decide +kernel
theorem z_rgn : z_in (-1) 60 62 = false ∧ z_in (-1) 48 57 = false := by decide
theorem z_in7 {g : Nat → Nat → Int32} {tx : Nat → Nat} {len p : Nat} (K : zRK g tx len p) : z_in (z_nt tx len p) 60 62 = (z_oo tx len 7 p).isSome := by
  unfold z_nt z_oo
  by_cases c : p < len
  · rw [if_pos c, if_pos c, (z_rg3 _ (K.2.2.2.2 p (by have := K.2.2.2.1; omega)).2).1]
  · rw [if_neg c, if_neg c, z_rgn.1]; rfl
theorem z_in3 {g : Nat → Nat → Int32} {tx : Nat → Nat} {len p : Nat} (K : zRK g tx len p) : z_in (z_nt tx len p) 48 57 = (z_oo tx len 3 p).isSome := by
  unfold z_nt z_oo
  by_cases c : p < len
  · rw [if_pos c, if_pos c, (z_rg3 _ (K.2.2.2.2 p (by have := K.2.2.2.1; omega)).2).2]
  · rw [if_neg c, if_neg c, z_rgn.2]; rfl
theorem z_dgv {tx : Nat → Nat} {len p v : Nat} (h : z_oo tx len 3 p = some v) : z_nt tx len p = nI (v + 48) := by
  have h2 := z_oo_p h
  unfold z_oo at h
  rw [if_pos h2] at h
  unfold z_nt
  rw [if_pos h2]
  unfold z_cko at h
  rw [if_pos rfl] at h
  split at h
  · simp only [Option.some.injEq] at h; congr 1; omega
  · cases h
theorem z_rlv {tx : Nat → Nat} {len p v : Nat} (h : z_oo tx len 7 p = some v) : z_nt tx len p = nI (v + 60) := by
  have h2 := z_oo_p h
  unfold z_oo at h
  rw [if_pos h2] at h
  unfold z_nt
  rw [if_pos h2]
  unfold z_cko at h
  rw [if_neg (by decide), if_neg (by decide)] at h
  split at h
  · simp only [Option.some.injEq] at h; congr 1; omega
  · cases h
theorem z_tokT : ∀ a, a < 6 → ∀ b, b < 3 → ∀ n, n < 100 → z_tok (nI ((a * 3 + b) * 100 + n)) = nI (1000 * a + 100 * b + n) := by decide +kernel
/-- what waits, the top first -/
def zSK (g : Nat → Nat → Int32) : List Nat → Prop
  | [] => True
  | b :: r => (g 124 r.length = nI b ∧ b < 128) ∧ zSK g r
theorem zSK_fr {g g' : Nat → Nat → Int32} : ∀ {st : List Nat}, zSK g st → (∀ j, j < st.length → g' 124 j = g 124 j) → zSK g' st := by
  intro st
  induction st with
  | nil => intro _ _; trivial
  | cons b r ih =>
    intro h e
    refine ⟨⟨by rw [e _ (by simp)]; exact h.1.1, h.1.2⟩, ih h.2 (fun j hj => e j (by simp only [List.length_cons]; omega))⟩
def zOp : List Nat → Nat
  | [] => 0
  | b :: r => (if b = 33 ∨ b = 40 then 1 else 0) + zOp r
def z_wn : List Nat → Nat
  | [] => 0
  | b :: r => if b = 33 then z_wn r + 1 else 0
def z_wr : List Nat → List Nat
  | [] => []
  | b :: r => if b = 33 then z_wr r else b :: r
theorem z_w_len : ∀ st : List Nat, z_wn st + (z_wr st).length = st.length := by
  intro st
  induction st with
  | nil => rfl
  | cons b r ih =>
    rw [z_wn, z_wr]
    split
    · simp only [List.length_cons]; omega
    · simp
def z_sp (s : Nat) : List Nat → List Int32
  | [] => []
  | b :: r => if b = 38 then -2 :: z_sp s r else if b = 124 ∧ ¬ s = 38 then -3 :: z_sp s r else []
def z_sr (s : Nat) : List Nat → List Nat
  | [] => []
  | b :: r => if b = 38 then z_sr s r else if b = 124 ∧ ¬ s = 38 then z_sr s r else b :: r
theorem z_s_len (s : Nat) : ∀ st : List Nat, (z_sp s st).length + (z_sr s st).length = st.length := by
  intro st
  induction st with
  | nil => rfl
  | cons b r ih =>
    rw [z_sp, z_sr]
    by_cases c : b = 38
    · rw [if_pos c, if_pos c]; simp only [List.length_cons]; omega
    · rw [if_neg c, if_neg c]
      by_cases c2 : b = 124 ∧ ¬ s = 38
      · rw [if_pos c2, if_pos c2]; simp only [List.length_cons]; omega
      · rw [if_neg c2, if_neg c2]; simp
theorem z_s_op (s : Nat) : ∀ st : List Nat, zOp (z_sr s st) = zOp st := by
  intro st
  induction st with
  | nil => rfl
  | cons b r ih =>
    rw [z_sr]
    by_cases c : b = 38
    · rw [if_pos c, ih, zOp, if_neg (by omega), Nat.zero_add]
    · rw [if_neg c]
      by_cases c2 : b = 124 ∧ ¬ s = 38
      · rw [if_pos c2, ih, zOp, if_neg (by omega), Nat.zero_add]
      · rw [if_neg c2]
/-- the reference at a place, with what waits and so many signs -/
def zRC (g : Nat → Nat → Int32) (tx : Nat → Nat) (len p : Nat) (st : List Nat) (sg B : Nat) : Prop :=
  zRK g tx len p ∧ zSK g st ∧ g 108 24 = nI st.length ∧ g 108 25 = nI (zOp st) ∧ g 108 23 = nI sg ∧ B ≤ sg ∧ sg + st.length ≤ B + p ∧ B ≤ 500
def zSg (g g2 : Nat → Nat → Int32) (sg : Nat) (em : List Int32) : Prop := (∀ i, i < em.length → g2 123 (sg + i) = z_tok (em.getD i 0)) ∧ ∀ j, j < sg → g2 123 j = g 123 j
theorem zSg_app {g g1 g2 : Nat → Nat → Int32} {sg : Nat} {c1 c2 : List Int32} (h1 : zSg g g1 sg c1) (h2 : zSg g1 g2 (sg + c1.length) c2) : zSg g g2 sg (c1 ++ c2) := by
  obtain ⟨a2, a3⟩ := h1
  obtain ⟨b2, b3⟩ := h2
  refine ⟨fun i hi => ?_, fun j hj => by rw [b3 j (by omega), a3 j hj]⟩
  rw [List.length_append] at hi
  by_cases c : i < c1.length
  · rw [b3 _ (by omega), a2 i c, List.getD_eq_getElem?_getD, List.getD_eq_getElem?_getD, List.getElem?_append_left c]
  · obtain ⟨k, rfl⟩ : ∃ k, i = c1.length + k := ⟨i - c1.length, by omega⟩
    rw [← Nat.add_assoc, b2 k (by omega), List.getD_eq_getElem?_getD, List.getD_eq_getElem?_getD, List.getElem?_append_right (by omega), show c1.length + k - c1.length = k by omega]
theorem zSg_nil {g g2 : Nat → Nat → Int32} {sg : Nat} (h : ∀ j, j < sg → g2 123 j = g 123 j) : zSg g g2 sg [] := ⟨fun i hi => by simp at hi, h⟩
theorem zSg_pl {g g' g2 : Nat → Nat → Int32} {sg : Nat} {c : List Int32} (h : zSg g' g2 sg c) (e : ∀ j, g' 123 j = g 123 j) : zSg g g2 sg c := ⟨h.1, fun j hj => (h.2 j hj).trans (e j)⟩
theorem zSg_sf {g g2 g3 : Nat → Nat → Int32} {sg : Nat} {c : List Int32} (h : zSg g g2 sg c) (e : ∀ j, g3 123 j = g2 123 j) : zSg g g3 sg c := ⟨fun i hi => by rw [e]; exact h.1 i hi, fun j hj => by rw [e]; exact h.2 j hj⟩
/-- what may differ -/
def zFrR (g g2 : Nat → Nat → Int32) (c B : Nat) : Prop := ∀ k j, ¬ (k = 108 ∧ (j = 13 ∨ j = 14 ∨ j = 23 ∨ j = 24 ∨ j = 25)) → ¬ k = 124 → ¬ (k = 123 ∧ B ≤ j) → ¬ (k = 122 ∧ j = c) → g2 k j = g k j
theorem zFrR_tr {g g1 g2 : Nat → Nat → Int32} {c B : Nat} (h1 : zFrR g g1 c B) (h2 : zFrR g1 g2 c B) : zFrR g g2 c B := fun k j a b d e => (h2 k j a b d e).trans (h1 k j a b d e)
theorem zFrR_rf {g : Nat → Nat → Int32} {c B : Nat} : zFrR g g c B := fun _ _ _ _ _ _ => rfl
section P54
variable {l : Launch} {D : va_G} {tc : Nat → ClassId} {A : Nat → Prop} {S : zw_S} {gi : Nat → Nat → Int32} {gl : Nat → Nat → Int64} {f : Option Nat}
theorem t_M_next (d : Nat) {g : Nat → Nat → Int32} {tx : Nat → Nat} {len p : Nat} (K : zRK g tx len p) : zCall l D tc A mX8_next d 0 0 [.ref 108] (zs g gl f) (zQi fun r S' => r = z_nt tx len p ∧ S' = zs g gl f) := by
  obtain ⟨K1, K2, K3, K4, K5⟩ := id K
  show zW l D tc A mX8_next d 0 0 0 0 0 [some (.ref 108)] [] (zs g gl f) _
  refine zx_aload_n (q := 1) dX8_next_0 rfl rfl rfl ?_
  refine zy_getIe (q := 4) (v := nI p) dX8_next_1 fl_RX8_50 rfl rfl (K2) rfl ?_
  refine zx_aload_n (q := 5) dX8_next_4 rfl rfl rfl ?_
  refine zy_getIe (q := 8) (v := nI len) dX8_next_5 fl_RX8_47 rfl rfl (K1) rfl ?_
  refine zx_icmp_ge (q := 11) (t := 23) dX8_next_8 (by decide) rfl (fun c_8 => ?_) (fun c_8 => ?_)
  · rw [nI_leI (by omega) (by omega)] at c_8
    refine zx_iconst (q := 24) (v := (-1)) dX8_next_23 (by decide) rfl ?_
    refine zx_iret dX8_next_24 rfl (Nat.le_refl _) (Nat.le_refl _) ⟨_, rfl, ?_⟩
    first
      | exact ⟨by unfold z_nt; rw [if_neg (by omega)], rfl⟩
      | exact ⟨by unfold z_nt; rw [if_pos (by omega)], rfl⟩
  · rw [nI_leI (by omega) (by omega)] at c_8
    refine zx_aload_n (q := 12) dX8_next_11 rfl rfl rfl ?_
    refine zy_getR (q := 15) dX8_next_12 fl_RX8_56 rfl rfl rfl rfl ?_
    refine zx_aload_n (q := 16) dX8_next_15 rfl rfl rfl ?_
    refine zy_getIe (q := 19) (v := nI p) dX8_next_16 fl_RX8_50 rfl rfl (K2) rfl ?_
    refine zy_ialdN (q := 20) dX8_next_19 rfl (by omega) (by first | decide | omega) rfl ?_
    rw [(K5 p (by omega)).1]
    refine zx_goto (t := 24) dX8_next_20 (by decide) ?_
    refine zx_iret dX8_next_24 rfl (Nat.le_refl _) (Nat.le_refl _) ⟨_, rfl, ?_⟩
    first
      | exact ⟨by unfold z_nt; rw [if_neg (by omega)], rfl⟩
      | exact ⟨by unfold z_nt; rw [if_pos (by omega)], rfl⟩
theorem t_M_takes (d : Nat) {g : Nat → Nat → Int32} {tx : Nat → Nat} {len p : Nat} (K : zRK g tx len p) (b : Nat) (hb : b < 128) : zCall l D tc A mX8_takes (d + 1) 0 0 [.ref 108, .int (nI b)] (zs g gl f) (zQi fun r S' => r = zb (z_at tx len p b) ∧ S' = zs (if z_at tx len p b = true then zw_u g 108 13 (nI (p + 1)) else g) gl f) := by
  obtain ⟨K1, K2, K3, K4, K5⟩ := id K
  show zW l D tc A mX8_takes (d + 1) 0 0 0 0 0 [some (.ref 108), some (.int (nI b))] [] (zs g gl f) _
  refine zx_aload_n (q := 1) dX8_takes_0 rfl rfl rfl ?_
  refine zx_callV0i (q := 4) (y' := mX8_next) dX8_takes_1 ml_RX8_211 ok_mX8_next rfl (by decide) rfl (Nat.le_of_ble_eq_true rfl) (Nat.le_of_ble_eq_true rfl) (Nat.le_refl _) (Nat.le_refl _) rfl (t_M_next _ K) ?_
  rintro _ _ ⟨rfl, rfl⟩
  refine zx_iload_n (q := 5) dX8_takes_4 rfl rfl rfl ?_
  refine zx_icmp_eq (q := 8) (t := 10) dX8_takes_5 (by decide) rfl (fun c_5 => ?_) (fun c_5 => ?_)
  · have hz : z_at tx len p b = true := (z_nt_at K hb).mp c_5
    refine zx_aload_n (q := 11) dX8_takes_10 rfl rfl rfl ?_
    refine zx_dup (q := 12) dX8_takes_11 rfl rfl ?_
    refine zy_getIe (q := 15) (v := nI p) dX8_takes_12 fl_RX8_50 rfl rfl (K2) rfl ?_
    refine zx_iconst (q := 16) (v := 1) dX8_takes_15 (by decide) rfl ?_
    refine zx_iadd (q := 17) dX8_takes_16 rfl ?_
    rw [nI_1]
    refine zy_putI (q := 20) dX8_takes_17 fl_RX8_50 rfl rfl ⟨rfl, rfl⟩ rfl rfl ?_
    refine zx_iconst (q := 21) (v := 1) dX8_takes_20 (by decide) rfl ?_
    refine zx_zret dX8_takes_21 rfl rfl (Nat.le_refl _) (Nat.le_refl _) ⟨_, rfl, ?_⟩
    first
      | (have q1 : z_at tx len p b = true := hz; exact ⟨by rw [hz]; rfl, by rw [if_pos hz]⟩)
      | exact ⟨by rw [Bool.not_eq_true] at hz; rw [hz]; rfl, by rw [if_neg hz]⟩
  · have hz : ¬ z_at tx len p b = true := fun z => c_5 ((z_nt_at K hb).mpr z)
    refine zx_iconst (q := 9) (v := 0) dX8_takes_8 (by decide) rfl ?_
    refine zx_zret dX8_takes_9 rfl rfl (Nat.le_refl _) (Nat.le_refl _) ⟨_, rfl, ?_⟩
    first
      | (have q1 : z_at tx len p b = true := hz; exact ⟨by rw [hz]; rfl, by rw [if_pos hz]⟩)
      | exact ⟨by rw [Bool.not_eq_true] at hz; rw [hz]; rfl, by rw [if_neg hz]⟩
theorem t_M_isD (d : Nat) {g : Nat → Nat → Int32} {tx : Nat → Nat} {len p : Nat} (K : zRK g tx len p) : zCall l D tc A mX8_isDigit (d + 1) 0 0 [.ref 108] (zs g gl f) (zQi fun r S' => r = zb (z_oo tx len 3 p).isSome ∧ S' = zs g gl f) := by
  show zW l D tc A mX8_isDigit (d + 1) 0 0 0 0 0 [some (.ref 108)] [] (zs g gl f) _
  refine zx_aload_n (q := 1) dX8_isDigit_0 rfl rfl rfl ?_
  refine zx_aload_n (q := 2) dX8_isDigit_1 rfl rfl rfl ?_
  refine zx_callV0i (q := 5) (y' := mX8_next) dX8_isDigit_2 ml_RX8_211 ok_mX8_next rfl (by decide) rfl (Nat.le_of_ble_eq_true rfl) (Nat.le_of_ble_eq_true rfl) (Nat.le_refl _) (Nat.le_refl _) rfl (t_M_next _ K) ?_
  rintro _ _ ⟨rfl, rfl⟩
  refine zx_bipush (q := 7) (v := 48) dX8_isDigit_5 (by decide) rfl ?_
  refine zx_bipush (q := 9) (v := 57) dX8_isDigit_7 (by decide) rfl ?_
  refine zx_callV3i (q := 12) (y' := mX8_in) dX8_isDigit_9 ml_RX8_200 ok_mX8_in rfl (by decide) rfl (Nat.le_of_ble_eq_true rfl) (Nat.le_of_ble_eq_true rfl) (Nat.le_refl _) (Nat.le_refl _) rfl (t_X8_in _ _ _ _ _) ?_
  rintro _ _ ⟨rfl, rfl⟩
  refine zx_zret dX8_isDigit_12 rfl (zb_nar _) (Nat.le_refl _) (Nat.le_refl _) ⟨_, rfl, ?_⟩
  exact ⟨by rw [z_in3 K], rfl⟩
theorem t_M_place (d : Nat) (w : Int32) : zCall l D tc A mX8_place d 0 0 [.ref 108, .int w] S (zQi fun r S' => r = z_plc w ∧ S' = S) := by
  show zW l D tc A mX8_place d 0 0 0 0 0 [some (.ref 108), some (.int w)] [] S _
  refine zx_iload_n (q := 1) dX8_place_0 rfl rfl rfl ?_
  refine zx_case (v := 102) (fun c_1_102 => ?_) (fun c_1_102 => ?_)
  · refine zx_tblIn (t := 90) (off := 89) dX8_place_1 (by rw [c_1_102]; decide) (by rw [c_1_102]; decide) (by rw [c_1_102]; rfl) (by decide) ?_
    refine zx_iconst (q := 91) (v := 3) dX8_place_90 (by decide) rfl ?_
    refine zx_iret dX8_place_91 rfl (Nat.le_refl _) (Nat.le_refl _) ⟨_, rfl, ?_⟩
    exact ⟨by simp [z_plc, *], rfl⟩
  refine zx_case (v := 103) (fun c_1_103 => ?_) (fun c_1_103 => ?_)
  · refine zx_tblIn (t := 96) (off := 95) dX8_place_1 (by rw [c_1_103]; decide) (by rw [c_1_103]; decide) (by rw [c_1_103]; rfl) (by decide) ?_
    refine zx_iconst (q := 97) (v := (-1)) dX8_place_96 (by decide) rfl ?_
    refine zx_iret dX8_place_97 rfl (Nat.le_refl _) (Nat.le_refl _) ⟨_, rfl, ?_⟩
    exact ⟨by simp [z_plc, *], rfl⟩
  refine zx_case (v := 104) (fun c_1_104 => ?_) (fun c_1_104 => ?_)
  · refine zx_tblIn (t := 94) (off := 93) dX8_place_1 (by rw [c_1_104]; decide) (by rw [c_1_104]; decide) (by rw [c_1_104]; rfl) (by decide) ?_
    refine zx_iconst (q := 95) (v := 5) dX8_place_94 (by decide) rfl ?_
    refine zx_iret dX8_place_95 rfl (Nat.le_refl _) (Nat.le_refl _) ⟨_, rfl, ?_⟩
    exact ⟨by simp [z_plc, *], rfl⟩
  refine zx_case (v := 105) (fun c_1_105 => ?_) (fun c_1_105 => ?_)
  · refine zx_tblIn (t := 96) (off := 95) dX8_place_1 (by rw [c_1_105]; decide) (by rw [c_1_105]; decide) (by rw [c_1_105]; rfl) (by decide) ?_
    refine zx_iconst (q := 97) (v := (-1)) dX8_place_96 (by decide) rfl ?_
    refine zx_iret dX8_place_97 rfl (Nat.le_refl _) (Nat.le_refl _) ⟨_, rfl, ?_⟩
    exact ⟨by simp [z_plc, *], rfl⟩
  refine zx_case (v := 106) (fun c_1_106 => ?_) (fun c_1_106 => ?_)
  · refine zx_tblIn (t := 96) (off := 95) dX8_place_1 (by rw [c_1_106]; decide) (by rw [c_1_106]; decide) (by rw [c_1_106]; rfl) (by decide) ?_
    refine zx_iconst (q := 97) (v := (-1)) dX8_place_96 (by decide) rfl ?_
    refine zx_iret dX8_place_97 rfl (Nat.le_refl _) (Nat.le_refl _) ⟨_, rfl, ?_⟩
    exact ⟨by simp [z_plc, *], rfl⟩
  refine zx_case (v := 107) (fun c_1_107 => ?_) (fun c_1_107 => ?_)
  · refine zx_tblIn (t := 86) (off := 85) dX8_place_1 (by rw [c_1_107]; decide) (by rw [c_1_107]; decide) (by rw [c_1_107]; rfl) (by decide) ?_
    refine zx_iconst (q := 87) (v := 1) dX8_place_86 (by decide) rfl ?_
    refine zx_iret dX8_place_87 rfl (Nat.le_refl _) (Nat.le_refl _) ⟨_, rfl, ?_⟩
    exact ⟨by simp [z_plc, *], rfl⟩
  refine zx_case (v := 108) (fun c_1_108 => ?_) (fun c_1_108 => ?_)
  · refine zx_tblIn (t := 96) (off := 95) dX8_place_1 (by rw [c_1_108]; decide) (by rw [c_1_108]; decide) (by rw [c_1_108]; rfl) (by decide) ?_
    refine zx_iconst (q := 97) (v := (-1)) dX8_place_96 (by decide) rfl ?_
    refine zx_iret dX8_place_97 rfl (Nat.le_refl _) (Nat.le_refl _) ⟨_, rfl, ?_⟩
    exact ⟨by simp [z_plc, *], rfl⟩
  refine zx_case (v := 109) (fun c_1_109 => ?_) (fun c_1_109 => ?_)
  · refine zx_tblIn (t := 92) (off := 91) dX8_place_1 (by rw [c_1_109]; decide) (by rw [c_1_109]; decide) (by rw [c_1_109]; rfl) (by decide) ?_
    refine zx_iconst (q := 93) (v := 4) dX8_place_92 (by decide) rfl ?_
    refine zx_iret dX8_place_93 rfl (Nat.le_refl _) (Nat.le_refl _) ⟨_, rfl, ?_⟩
    exact ⟨by simp [z_plc, *], rfl⟩
  refine zx_case (v := 110) (fun c_1_110 => ?_) (fun c_1_110 => ?_)
  · refine zx_tblIn (t := 96) (off := 95) dX8_place_1 (by rw [c_1_110]; decide) (by rw [c_1_110]; decide) (by rw [c_1_110]; rfl) (by decide) ?_
    refine zx_iconst (q := 97) (v := (-1)) dX8_place_96 (by decide) rfl ?_
    refine zx_iret dX8_place_97 rfl (Nat.le_refl _) (Nat.le_refl _) ⟨_, rfl, ?_⟩
    exact ⟨by simp [z_plc, *], rfl⟩
  refine zx_case (v := 111) (fun c_1_111 => ?_) (fun c_1_111 => ?_)
  · refine zx_tblIn (t := 96) (off := 95) dX8_place_1 (by rw [c_1_111]; decide) (by rw [c_1_111]; decide) (by rw [c_1_111]; rfl) (by decide) ?_
    refine zx_iconst (q := 97) (v := (-1)) dX8_place_96 (by decide) rfl ?_
    refine zx_iret dX8_place_97 rfl (Nat.le_refl _) (Nat.le_refl _) ⟨_, rfl, ?_⟩
    exact ⟨by simp [z_plc, *], rfl⟩
  refine zx_case (v := 112) (fun c_1_112 => ?_) (fun c_1_112 => ?_)
  · refine zx_tblIn (t := 96) (off := 95) dX8_place_1 (by rw [c_1_112]; decide) (by rw [c_1_112]; decide) (by rw [c_1_112]; rfl) (by decide) ?_
    refine zx_iconst (q := 97) (v := (-1)) dX8_place_96 (by decide) rfl ?_
    refine zx_iret dX8_place_97 rfl (Nat.le_refl _) (Nat.le_refl _) ⟨_, rfl, ?_⟩
    exact ⟨by simp [z_plc, *], rfl⟩
  refine zx_case (v := 113) (fun c_1_113 => ?_) (fun c_1_113 => ?_)
  · refine zx_tblIn (t := 96) (off := 95) dX8_place_1 (by rw [c_1_113]; decide) (by rw [c_1_113]; decide) (by rw [c_1_113]; rfl) (by decide) ?_
    refine zx_iconst (q := 97) (v := (-1)) dX8_place_96 (by decide) rfl ?_
    refine zx_iret dX8_place_97 rfl (Nat.le_refl _) (Nat.le_refl _) ⟨_, rfl, ?_⟩
    exact ⟨by simp [z_plc, *], rfl⟩
  refine zx_case (v := 114) (fun c_1_114 => ?_) (fun c_1_114 => ?_)
  · refine zx_tblIn (t := 96) (off := 95) dX8_place_1 (by rw [c_1_114]; decide) (by rw [c_1_114]; decide) (by rw [c_1_114]; rfl) (by decide) ?_
    refine zx_iconst (q := 97) (v := (-1)) dX8_place_96 (by decide) rfl ?_
    refine zx_iret dX8_place_97 rfl (Nat.le_refl _) (Nat.le_refl _) ⟨_, rfl, ?_⟩
    exact ⟨by simp [z_plc, *], rfl⟩
  refine zx_case (v := 115) (fun c_1_115 => ?_) (fun c_1_115 => ?_)
  · refine zx_tblIn (t := 84) (off := 83) dX8_place_1 (by rw [c_1_115]; decide) (by rw [c_1_115]; decide) (by rw [c_1_115]; rfl) (by decide) ?_
    refine zx_iconst (q := 85) (v := 0) dX8_place_84 (by decide) rfl ?_
    refine zx_iret dX8_place_85 rfl (Nat.le_refl _) (Nat.le_refl _) ⟨_, rfl, ?_⟩
    exact ⟨by simp [z_plc, *], rfl⟩
  refine zx_case (v := 116) (fun c_1_116 => ?_) (fun c_1_116 => ?_)
  · refine zx_tblIn (t := 96) (off := 95) dX8_place_1 (by rw [c_1_116]; decide) (by rw [c_1_116]; decide) (by rw [c_1_116]; rfl) (by decide) ?_
    refine zx_iconst (q := 97) (v := (-1)) dX8_place_96 (by decide) rfl ?_
    refine zx_iret dX8_place_97 rfl (Nat.le_refl _) (Nat.le_refl _) ⟨_, rfl, ?_⟩
    exact ⟨by simp [z_plc, *], rfl⟩
  refine zx_case (v := 117) (fun c_1_117 => ?_) (fun c_1_117 => ?_)
  · refine zx_tblIn (t := 96) (off := 95) dX8_place_1 (by rw [c_1_117]; decide) (by rw [c_1_117]; decide) (by rw [c_1_117]; rfl) (by decide) ?_
    refine zx_iconst (q := 97) (v := (-1)) dX8_place_96 (by decide) rfl ?_
    refine zx_iret dX8_place_97 rfl (Nat.le_refl _) (Nat.le_refl _) ⟨_, rfl, ?_⟩
    exact ⟨by simp [z_plc, *], rfl⟩
  refine zx_case (v := 118) (fun c_1_118 => ?_) (fun c_1_118 => ?_)
  · refine zx_tblIn (t := 88) (off := 87) dX8_place_1 (by rw [c_1_118]; decide) (by rw [c_1_118]; decide) (by rw [c_1_118]; rfl) (by decide) ?_
    refine zx_iconst (q := 89) (v := 2) dX8_place_88 (by decide) rfl ?_
    refine zx_iret dX8_place_89 rfl (Nat.le_refl _) (Nat.le_refl _) ⟨_, rfl, ?_⟩
    exact ⟨by simp [z_plc, *], rfl⟩
  refine zx_tblOut (t := 96) dX8_place_1 (by have z0 := lv_neT (a := 102) c_1_102 (by decide); have z1 := lv_neT (a := 103) c_1_103 (by decide); have z2 := lv_neT (a := 104) c_1_104 (by decide); have z3 := lv_neT (a := 105) c_1_105 (by decide); have z4 := lv_neT (a := 106) c_1_106 (by decide); have z5 := lv_neT (a := 107) c_1_107 (by decide); have z6 := lv_neT (a := 108) c_1_108 (by decide); have z7 := lv_neT (a := 109) c_1_109 (by decide); have z8 := lv_neT (a := 110) c_1_110 (by decide); have z9 := lv_neT (a := 111) c_1_111 (by decide); have z10 := lv_neT (a := 112) c_1_112 (by decide); have z11 := lv_neT (a := 113) c_1_113 (by decide); have z12 := lv_neT (a := 114) c_1_114 (by decide); have z13 := lv_neT (a := 115) c_1_115 (by decide); have z14 := lv_neT (a := 116) c_1_116 (by decide); have z15 := lv_neT (a := 117) c_1_117 (by decide); have z16 := lv_neT (a := 118) c_1_118 (by decide); omega) (by decide) ?_
  refine zx_iconst (q := 97) (v := (-1)) dX8_place_96 (by decide) rfl ?_
  refine zx_iret dX8_place_97 rfl (Nat.le_refl _) (Nat.le_refl _) ⟨_, rfl, ?_⟩
  exact ⟨by simp [z_plc, *], rfl⟩
theorem t_M_num1 (d : Nat) {g : Nat → Nat → Int32} {tx : Nat → Nat} {len p : Nat} (K : zRK g tx len p) {a : Nat} (h1 : z_oo tx len 3 p = some a) (h2 : z_oo tx len 3 (p + 1) = none) : zCall l D tc A mX8_takesNumber (d + 2) 0 0 [.ref 108] (zs g gl f) (zQi fun r S' => r = 1 ∧ ∃ g2, S' = zs g2 gl f ∧ zRK g2 tx len (p + 1) ∧ g2 108 14 = nI a ∧ ∀ k j, ¬ (k = 108 ∧ (j = 13 ∨ j = 14)) → g2 k j = g k j) := by
  show zW l D tc A mX8_takesNumber (d + 2) 0 0 0 0 0 [some (.ref 108), none] [] (zs g gl f) _
  have ha9 := (z_oo_lt h1).1 rfl
  refine zx_aload_n (q := 1) dX8_takesNumber_0 rfl rfl rfl ?_
  refine zx_callV0i (q := 4) (y' := mX8_isDigit) dX8_takesNumber_1 ml_RX8_218 ok_mX8_isDigit rfl (by decide) rfl (Nat.le_of_ble_eq_true rfl) (Nat.le_of_ble_eq_true rfl) (Nat.le_refl _) (Nat.le_refl _) rfl (t_M_isD _ K) ?_
  rintro _ _ ⟨rfl, rfl⟩
  rw [h1]
  refine zx_if_ne_t (t := 9) (q := 7) dX8_takesNumber_4 (by decide) rfl (zk_t rfl) ?_
  refine zx_aload_n (q := 10) dX8_takesNumber_9 rfl rfl rfl ?_
  refine zx_iconst (q := 11) (v := 0) dX8_takesNumber_10 (by decide) rfl ?_
  refine zy_putI (q := 14) dX8_takesNumber_11 fl_RX8_53 rfl rfl ⟨rfl, rfl⟩ rfl rfl ?_
  refine zx_iconst (q := 15) (v := 0) dX8_takesNumber_14 (by decide) rfl ?_
  refine zx_istore1 (q := 16) dX8_takesNumber_15 rfl rfl ?_
  refine zx_iload_n (q := 17) dX8_takesNumber_16 rfl rfl rfl ?_
  refine zx_iconst (q := 18) (v := 2) dX8_takesNumber_17 (by decide) rfl ?_
  refine zx_icmp_ge_f (t := 63) (q := 21) dX8_takesNumber_18 (by decide) rfl (by decide) ?_
  refine zx_aload_n (q := 22) dX8_takesNumber_21 rfl rfl rfl ?_
  refine zx_callV0i (q := 25) (y' := mX8_isDigit) dX8_takesNumber_22 ml_RX8_218 ok_mX8_isDigit rfl (by decide) rfl (Nat.le_of_ble_eq_true rfl) (Nat.le_of_ble_eq_true rfl) (Nat.le_refl _) (Nat.le_refl _) rfl (t_M_isD _ (zRK_fr K (fun k j z => z_u_ne _ _ (by omega)))) ?_
  rintro _ _ ⟨rfl, rfl⟩
  rw [h1]
  refine zx_if_eq_f (t := 63) (q := 28) dX8_takesNumber_25 (by decide) rfl (zk_t rfl) ?_
  refine zx_aload_n (q := 29) dX8_takesNumber_28 rfl rfl rfl ?_
  refine zx_bipush (q := 31) (v := 10) dX8_takesNumber_29 (by decide) rfl ?_
  refine zx_aload_n (q := 32) dX8_takesNumber_31 rfl rfl rfl ?_
  refine zy_getIe (q := 35) (v := nI 0) dX8_takesNumber_32 fl_RX8_53 rfl rfl (by rw [z_u_at]; rfl) rfl ?_
  refine zx_imul (q := 36) dX8_takesNumber_35 rfl ?_
  refine zx_aload_n (q := 37) dX8_takesNumber_36 rfl rfl rfl ?_
  refine zx_callV0i (q := 40) (y' := mX8_next) dX8_takesNumber_37 ml_RX8_211 ok_mX8_next rfl (by decide) rfl (Nat.le_of_ble_eq_true rfl) (Nat.le_of_ble_eq_true rfl) (Nat.le_refl _) (Nat.le_refl _) rfl (t_M_next _ (zRK_fr K (fun k j z => z_u_ne _ _ (by omega)))) ?_
  rintro _ _ ⟨rfl, rfl⟩
  rw [z_dgv h1]
  refine zx_iadd (q := 41) dX8_takesNumber_40 rfl ?_
  refine zx_bipush (q := 43) (v := 48) dX8_takesNumber_41 (by decide) rfl ?_
  refine zx_isub (q := 44) dX8_takesNumber_43 rfl ?_
  rw [show (10 : Int32) * nI 0 + nI (a + 48) - 48 = nI (10 * 0 + a) from by rw [show (10 : Int32) = nI 10 from rfl, z_mul, nI_add, show (48 : Int32) = nI 48 from rfl, z_subN (by omega)]; congr 1 <;> omega]
  refine zy_putI (q := 47) dX8_takesNumber_44 fl_RX8_53 rfl rfl ⟨rfl, rfl⟩ rfl rfl ?_
  refine zx_aload_n (q := 48) dX8_takesNumber_47 rfl rfl rfl ?_
  refine zx_dup (q := 49) dX8_takesNumber_48 rfl rfl ?_
  refine zy_getIe (q := 52) (v := nI p) dX8_takesNumber_49 fl_RX8_50 rfl rfl (by rw [z_u_ne _ _ (by omega), z_u_ne _ _ (by omega)]; exact K.2.1) rfl ?_
  refine zx_iconst (q := 53) (v := 1) dX8_takesNumber_52 (by decide) rfl ?_
  refine zx_iadd (q := 54) dX8_takesNumber_53 rfl ?_
  rw [nI_1]
  refine zy_putI (q := 57) dX8_takesNumber_54 fl_RX8_50 rfl rfl ⟨rfl, rfl⟩ rfl rfl ?_
  refine zx_iinc1 (q := 60) dX8_takesNumber_57 rfl rfl ?_
  refine zx_goto (t := 16) dX8_takesNumber_60 (by decide) ?_
  refine zx_iload_n (q := 17) dX8_takesNumber_16 rfl rfl rfl ?_
  refine zx_iconst (q := 18) (v := 2) dX8_takesNumber_17 (by decide) rfl ?_
  refine zx_icmp_ge_f (t := 63) (q := 21) dX8_takesNumber_18 (by decide) rfl (by decide) ?_
  refine zx_aload_n (q := 22) dX8_takesNumber_21 rfl rfl rfl ?_
  refine zx_callV0i (q := 25) (y' := mX8_isDigit) dX8_takesNumber_22 ml_RX8_218 ok_mX8_isDigit rfl (by decide) rfl (Nat.le_of_ble_eq_true rfl) (Nat.le_of_ble_eq_true rfl) (Nat.le_refl _) (Nat.le_refl _) rfl (t_M_isD _ (zRK_adv (zRK_fr (g' := zw_u (zw_u g 108 14 0) 108 14 (nI (10 * 0 + a))) K (fun k j z => by rw [z_u_ne _ _ (by omega), z_u_ne _ _ (by omega)])) (z_oo_p h1))) ?_
  rintro _ _ ⟨rfl, rfl⟩
  rw [h2]
  refine zx_if_eq_t (t := 63) (q := 28) dX8_takesNumber_25 (by decide) rfl (rfl) ?_
  refine zx_iconst (q := 64) (v := 1) dX8_takesNumber_63 (by decide) rfl ?_
  refine zx_zret dX8_takesNumber_64 rfl (by first | rfl | exact zb_nar _) (Nat.le_refl _) (Nat.le_refl _) ⟨_, rfl, ?_⟩
  refine ⟨rfl, _, rfl, (zRK_adv (zRK_fr (g' := zw_u (zw_u g 108 14 0) 108 14 (nI (10 * 0 + a))) K (fun k j z => by rw [z_u_ne _ _ (by omega), z_u_ne _ _ (by omega)])) (z_oo_p h1)), ?_, fun k j z => ?_⟩
  · rw [z_u_ne _ _ (by omega), z_u_at]; congr 1; omega
  · rw [z_u_ne _ _ (by omega), z_u_ne _ _ (by omega), z_u_ne _ _ (by omega)]
theorem t_M_num2 (d : Nat) {g : Nat → Nat → Int32} {tx : Nat → Nat} {len p : Nat} (K : zRK g tx len p) {a b : Nat} (h1 : z_oo tx len 3 p = some a) (h2 : z_oo tx len 3 (p + 1) = some b) : zCall l D tc A mX8_takesNumber (d + 2) 0 0 [.ref 108] (zs g gl f) (zQi fun r S' => r = 1 ∧ ∃ g2, S' = zs g2 gl f ∧ zRK g2 tx len (p + 2) ∧ g2 108 14 = nI (10 * a + b) ∧ ∀ k j, ¬ (k = 108 ∧ (j = 13 ∨ j = 14)) → g2 k j = g k j) := by
  show zW l D tc A mX8_takesNumber (d + 2) 0 0 0 0 0 [some (.ref 108), none] [] (zs g gl f) _
  have ha9 := (z_oo_lt h1).1 rfl
  have hb9 := (z_oo_lt h2).1 rfl
  refine zx_aload_n (q := 1) dX8_takesNumber_0 rfl rfl rfl ?_
  refine zx_callV0i (q := 4) (y' := mX8_isDigit) dX8_takesNumber_1 ml_RX8_218 ok_mX8_isDigit rfl (by decide) rfl (Nat.le_of_ble_eq_true rfl) (Nat.le_of_ble_eq_true rfl) (Nat.le_refl _) (Nat.le_refl _) rfl (t_M_isD _ K) ?_
  rintro _ _ ⟨rfl, rfl⟩
  rw [h1]
  refine zx_if_ne_t (t := 9) (q := 7) dX8_takesNumber_4 (by decide) rfl (zk_t rfl) ?_
  refine zx_aload_n (q := 10) dX8_takesNumber_9 rfl rfl rfl ?_
  refine zx_iconst (q := 11) (v := 0) dX8_takesNumber_10 (by decide) rfl ?_
  refine zy_putI (q := 14) dX8_takesNumber_11 fl_RX8_53 rfl rfl ⟨rfl, rfl⟩ rfl rfl ?_
  refine zx_iconst (q := 15) (v := 0) dX8_takesNumber_14 (by decide) rfl ?_
  refine zx_istore1 (q := 16) dX8_takesNumber_15 rfl rfl ?_
  refine zx_iload_n (q := 17) dX8_takesNumber_16 rfl rfl rfl ?_
  refine zx_iconst (q := 18) (v := 2) dX8_takesNumber_17 (by decide) rfl ?_
  refine zx_icmp_ge_f (t := 63) (q := 21) dX8_takesNumber_18 (by decide) rfl (by decide) ?_
  refine zx_aload_n (q := 22) dX8_takesNumber_21 rfl rfl rfl ?_
  refine zx_callV0i (q := 25) (y' := mX8_isDigit) dX8_takesNumber_22 ml_RX8_218 ok_mX8_isDigit rfl (by decide) rfl (Nat.le_of_ble_eq_true rfl) (Nat.le_of_ble_eq_true rfl) (Nat.le_refl _) (Nat.le_refl _) rfl (t_M_isD _ (zRK_fr K (fun k j z => z_u_ne _ _ (by omega)))) ?_
  rintro _ _ ⟨rfl, rfl⟩
  rw [h1]
  refine zx_if_eq_f (t := 63) (q := 28) dX8_takesNumber_25 (by decide) rfl (zk_t rfl) ?_
  refine zx_aload_n (q := 29) dX8_takesNumber_28 rfl rfl rfl ?_
  refine zx_bipush (q := 31) (v := 10) dX8_takesNumber_29 (by decide) rfl ?_
  refine zx_aload_n (q := 32) dX8_takesNumber_31 rfl rfl rfl ?_
  refine zy_getIe (q := 35) (v := nI 0) dX8_takesNumber_32 fl_RX8_53 rfl rfl (by rw [z_u_at]; rfl) rfl ?_
  refine zx_imul (q := 36) dX8_takesNumber_35 rfl ?_
  refine zx_aload_n (q := 37) dX8_takesNumber_36 rfl rfl rfl ?_
  refine zx_callV0i (q := 40) (y' := mX8_next) dX8_takesNumber_37 ml_RX8_211 ok_mX8_next rfl (by decide) rfl (Nat.le_of_ble_eq_true rfl) (Nat.le_of_ble_eq_true rfl) (Nat.le_refl _) (Nat.le_refl _) rfl (t_M_next _ (zRK_fr K (fun k j z => z_u_ne _ _ (by omega)))) ?_
  rintro _ _ ⟨rfl, rfl⟩
  rw [z_dgv h1]
  refine zx_iadd (q := 41) dX8_takesNumber_40 rfl ?_
  refine zx_bipush (q := 43) (v := 48) dX8_takesNumber_41 (by decide) rfl ?_
  refine zx_isub (q := 44) dX8_takesNumber_43 rfl ?_
  rw [show (10 : Int32) * nI 0 + nI (a + 48) - 48 = nI (10 * 0 + a) from by rw [show (10 : Int32) = nI 10 from rfl, z_mul, nI_add, show (48 : Int32) = nI 48 from rfl, z_subN (by omega)]; congr 1 <;> omega]
  refine zy_putI (q := 47) dX8_takesNumber_44 fl_RX8_53 rfl rfl ⟨rfl, rfl⟩ rfl rfl ?_
  refine zx_aload_n (q := 48) dX8_takesNumber_47 rfl rfl rfl ?_
  refine zx_dup (q := 49) dX8_takesNumber_48 rfl rfl ?_
  refine zy_getIe (q := 52) (v := nI p) dX8_takesNumber_49 fl_RX8_50 rfl rfl (by rw [z_u_ne _ _ (by omega), z_u_ne _ _ (by omega)]; exact K.2.1) rfl ?_
  refine zx_iconst (q := 53) (v := 1) dX8_takesNumber_52 (by decide) rfl ?_
  refine zx_iadd (q := 54) dX8_takesNumber_53 rfl ?_
  rw [nI_1]
  refine zy_putI (q := 57) dX8_takesNumber_54 fl_RX8_50 rfl rfl ⟨rfl, rfl⟩ rfl rfl ?_
  refine zx_iinc1 (q := 60) dX8_takesNumber_57 rfl rfl ?_
  refine zx_goto (t := 16) dX8_takesNumber_60 (by decide) ?_
  refine zx_iload_n (q := 17) dX8_takesNumber_16 rfl rfl rfl ?_
  refine zx_iconst (q := 18) (v := 2) dX8_takesNumber_17 (by decide) rfl ?_
  refine zx_icmp_ge_f (t := 63) (q := 21) dX8_takesNumber_18 (by decide) rfl (by decide) ?_
  refine zx_aload_n (q := 22) dX8_takesNumber_21 rfl rfl rfl ?_
  refine zx_callV0i (q := 25) (y' := mX8_isDigit) dX8_takesNumber_22 ml_RX8_218 ok_mX8_isDigit rfl (by decide) rfl (Nat.le_of_ble_eq_true rfl) (Nat.le_of_ble_eq_true rfl) (Nat.le_refl _) (Nat.le_refl _) rfl (t_M_isD _ (zRK_adv (zRK_fr (g' := zw_u (zw_u g 108 14 0) 108 14 (nI (10 * 0 + a))) K (fun k j z => by rw [z_u_ne _ _ (by omega), z_u_ne _ _ (by omega)])) (z_oo_p h1))) ?_
  rintro _ _ ⟨rfl, rfl⟩
  rw [h2]
  refine zx_if_eq_f (t := 63) (q := 28) dX8_takesNumber_25 (by decide) rfl (zk_t rfl) ?_
  refine zx_aload_n (q := 29) dX8_takesNumber_28 rfl rfl rfl ?_
  refine zx_bipush (q := 31) (v := 10) dX8_takesNumber_29 (by decide) rfl ?_
  refine zx_aload_n (q := 32) dX8_takesNumber_31 rfl rfl rfl ?_
  refine zy_getIe (q := 35) (v := nI (10 * 0 + a)) dX8_takesNumber_32 fl_RX8_53 rfl rfl (by rw [z_u_ne _ _ (by omega), z_u_at]) rfl ?_
  refine zx_imul (q := 36) dX8_takesNumber_35 rfl ?_
  refine zx_aload_n (q := 37) dX8_takesNumber_36 rfl rfl rfl ?_
  refine zx_callV0i (q := 40) (y' := mX8_next) dX8_takesNumber_37 ml_RX8_211 ok_mX8_next rfl (by decide) rfl (Nat.le_of_ble_eq_true rfl) (Nat.le_of_ble_eq_true rfl) (Nat.le_refl _) (Nat.le_refl _) rfl (t_M_next _ (zRK_adv (zRK_fr (g' := zw_u (zw_u g 108 14 0) 108 14 (nI (10 * 0 + a))) K (fun k j z => by rw [z_u_ne _ _ (by omega), z_u_ne _ _ (by omega)])) (z_oo_p h1))) ?_
  rintro _ _ ⟨rfl, rfl⟩
  rw [z_dgv h2]
  refine zx_iadd (q := 41) dX8_takesNumber_40 rfl ?_
  refine zx_bipush (q := 43) (v := 48) dX8_takesNumber_41 (by decide) rfl ?_
  refine zx_isub (q := 44) dX8_takesNumber_43 rfl ?_
  rw [show (10 : Int32) * nI (10 * 0 + a) + nI (b + 48) - 48 = nI (10 * (10 * 0 + a) + b) from by rw [show (10 : Int32) = nI 10 from rfl, z_mul, nI_add, show (48 : Int32) = nI 48 from rfl, z_subN (by omega)]; congr 1 <;> omega]
  refine zy_putI (q := 47) dX8_takesNumber_44 fl_RX8_53 rfl rfl ⟨rfl, rfl⟩ rfl rfl ?_
  refine zx_aload_n (q := 48) dX8_takesNumber_47 rfl rfl rfl ?_
  refine zx_dup (q := 49) dX8_takesNumber_48 rfl rfl ?_
  refine zy_getIe (q := 52) (v := nI (p + 1)) dX8_takesNumber_49 fl_RX8_50 rfl rfl (by rw [z_u_ne _ _ (by omega), z_u_at]) rfl ?_
  refine zx_iconst (q := 53) (v := 1) dX8_takesNumber_52 (by decide) rfl ?_
  refine zx_iadd (q := 54) dX8_takesNumber_53 rfl ?_
  rw [nI_1]
  refine zy_putI (q := 57) dX8_takesNumber_54 fl_RX8_50 rfl rfl ⟨rfl, rfl⟩ rfl rfl ?_
  refine zx_iinc1 (q := 60) dX8_takesNumber_57 rfl rfl ?_
  refine zx_goto (t := 16) dX8_takesNumber_60 (by decide) ?_
  refine zx_iload_n (q := 17) dX8_takesNumber_16 rfl rfl rfl ?_
  refine zx_iconst (q := 18) (v := 2) dX8_takesNumber_17 (by decide) rfl ?_
  refine zx_icmp_ge_t (t := 63) (q := 21) dX8_takesNumber_18 (by decide) rfl (by decide) ?_
  refine zx_iconst (q := 64) (v := 1) dX8_takesNumber_63 (by decide) rfl ?_
  refine zx_zret dX8_takesNumber_64 rfl (by first | rfl | exact zb_nar _) (Nat.le_refl _) (Nat.le_refl _) ⟨_, rfl, ?_⟩
  refine ⟨rfl, _, rfl, ?_, ?_, fun k j z => ?_⟩
  · exact zRK_adv (zRK_fr (zRK_adv (zRK_fr (g' := zw_u (zw_u g 108 14 0) 108 14 (nI (10 * 0 + a))) K (fun k j z => by rw [z_u_ne _ _ (by omega), z_u_ne _ _ (by omega)])) (z_oo_p h1)) (fun k j z => z_u_ne _ _ (by omega))) (z_oo_p h2)
  · rw [z_u_ne _ _ (by omega), z_u_at]; congr 1; omega
  · rw [z_u_ne _ _ (by omega), z_u_ne _ _ (by omega), z_u_ne _ _ (by omega), z_u_ne _ _ (by omega), z_u_ne _ _ (by omega)]
theorem t_M_numS (d : Nat) {g : Nat → Nat → Int32} {tx : Nat → Nat} {len p : Nat} (K : zRK g tx len p) {q n : Nat} (h : z_nm tx len p = (q, some n)) : zCall l D tc A mX8_takesNumber (d + 2) 0 0 [.ref 108] (zs g gl f) (zQi fun r S' => r = 1 ∧ ∃ g2, S' = zs g2 gl f ∧ zRK g2 tx len q ∧ g2 108 14 = nI n ∧ ∀ k j, ¬ (k = 108 ∧ (j = 13 ∨ j = 14)) → g2 k j = g k j) := by
  unfold z_nm at h
  cases h1 : z_oo tx len 3 p with
  | none => rw [h1] at h; simp at h
  | some a =>
    rw [h1] at h
    simp only [] at h
    cases h2 : z_oo tx len 3 (p + 1) with
    | none =>
      rw [h2] at h
      simp only [Prod.mk.injEq, Option.some.injEq] at h
      obtain ⟨e1, e2⟩ := h
      subst e1; subst e2
      exact t_M_num1 d K h1 h2
    | some b =>
      rw [h2] at h
      simp only [Prod.mk.injEq, Option.some.injEq] at h
      obtain ⟨e1, e2⟩ := h
      subst e1; subst e2
      exact t_M_num2 d K h1 h2
theorem t_M_numX (d : Nat) {g : Nat → Nat → Int32} {tx : Nat → Nat} {len p : Nat} (K : zRK g tx len p) (h : z_oo tx len 3 p = none) : zCall l D tc A mX8_takesNumber (d + 2) 0 0 [.ref 108] (zs g gl f) (zQi fun r S' => r = 0 ∧ S' = zs g gl f) := by
  show zW l D tc A mX8_takesNumber (d + 2) 0 0 0 0 0 [some (.ref 108), none] [] (zs g gl f) _
  refine zx_aload_n (q := 1) dX8_takesNumber_0 rfl rfl rfl ?_
  refine zx_callV0i (q := 4) (y' := mX8_isDigit) dX8_takesNumber_1 ml_RX8_218 ok_mX8_isDigit rfl (by decide) rfl (Nat.le_of_ble_eq_true rfl) (Nat.le_of_ble_eq_true rfl) (Nat.le_refl _) (Nat.le_refl _) rfl (t_M_isD _ K) ?_
  rintro _ _ ⟨rfl, rfl⟩
  rw [h]
  refine zx_if_ne_f (t := 9) (q := 7) dX8_takesNumber_4 (by decide) rfl (rfl) ?_
  refine zx_iconst (q := 8) (v := 0) dX8_takesNumber_7 (by decide) rfl ?_
  refine zx_zret dX8_takesNumber_8 rfl rfl (Nat.le_refl _) (Nat.le_refl _) ⟨_, rfl, ?_⟩
  exact ⟨rfl, rfl⟩
theorem t_M_emit (d sg : Nat) {g : Nat → Nat → Int32} (x : Int32) (h : g 108 23 = nI sg) (hs : sg < 600) : zCall l D tc A mX8_emits d 0 0 [.ref 108, .int x] (zs g gl f) (zQv fun S' => S' = zs (zw_u (zw_u g 123 sg x) 108 23 (nI (sg + 1))) gl f) := by
  show zW l D tc A mX8_emits d 0 0 0 0 0 [some (.ref 108), some (.int x)] [] (zs g gl f) _
  refine zx_aload_n (q := 1) dX8_emits_0 rfl rfl rfl ?_
  refine zy_getR (q := 4) dX8_emits_1 fl_RX8_74 rfl rfl rfl rfl ?_
  refine zx_aload_n (q := 5) dX8_emits_4 rfl rfl rfl ?_
  refine zy_getIe (q := 8) (v := nI sg) dX8_emits_5 fl_RX8_80 rfl rfl (h) rfl ?_
  refine zx_iload_n (q := 9) dX8_emits_8 rfl rfl rfl ?_
  refine zy_iastN (q := 10) dX8_emits_9 rfl (by omega) (by first | decide | omega) rfl ?_
  refine zx_aload_n (q := 11) dX8_emits_10 rfl rfl rfl ?_
  refine zx_dup (q := 12) dX8_emits_11 rfl rfl ?_
  refine zy_getIe (q := 15) (v := nI sg) dX8_emits_12 fl_RX8_80 rfl rfl (by rw [z_u_ne _ _ (by omega)]; exact h) rfl ?_
  refine zx_iconst (q := 16) (v := 1) dX8_emits_15 (by decide) rfl ?_
  refine zx_iadd (q := 17) dX8_emits_16 rfl ?_
  rw [nI_1]
  refine zy_putI (q := 20) dX8_emits_17 fl_RX8_80 rfl rfl ⟨rfl, rfl⟩ rfl rfl ?_
  refine zx_vret dX8_emits_20 rfl (Nat.le_refl _) (Nat.le_refl _) ⟨rfl, ?_⟩
  rfl
theorem t_M_whole (d c : Nat) {tx : Nat → Nat} {len p B : Nat} : ∀ (st : List Nat) (sg : Nat) (g : Nat → Nat → Int32) (hR : zRC g tx len p st sg B), zCall l D tc A mX8_whole (d + 1) 0 0 [.ref 108] (zs g gl f) (zQv fun S' => ∃ g2, S' = zs g2 gl f ∧ zRC g2 tx len p (z_wr st) (sg + z_wn st) B ∧ zSg g g2 sg (List.replicate (z_wn st) (-1)) ∧ zFrR g g2 c B) := by
  intro st
  induction st with
  | nil =>
    intro sg g hR
    obtain ⟨R1, R2, R3, R4, R5, R6, R7, R8⟩ := id hR
    obtain ⟨_, _, hp, hlen, _⟩ := id R1
    show zW l D tc A mX8_whole (d + 1) 0 0 0 0 0 [some (.ref 108)] [] (zs g gl f) _
    refine zx_aload_n (q := 1) dX8_whole_0 rfl rfl rfl ?_
    refine zy_getIe (q := 4) (v := nI 0) dX8_whole_1 fl_RX8_83 rfl rfl (R3) rfl ?_
    refine zx_if_le_t (t := 52) (q := 7) dX8_whole_4 (by decide) rfl (by decide) ?_
    refine zx_vret dX8_whole_52 rfl (Nat.le_refl _) (Nat.le_refl _) ⟨rfl, ?_⟩
    exact ⟨g, rfl, hR, zSg_nil (fun _ _ => rfl), zFrR_rf⟩
  | cons b r ih =>
    intro sg g hR
    obtain ⟨R1, R2, R3, R4, R5, R6, R7, R8⟩ := id hR
    obtain ⟨_, _, hp, hlen, _⟩ := id R1
    have hb := R2.1.2
    simp only [List.length_cons] at R3 R7
    have hR3 : nI (r.length + 1) - 1 = nI r.length := nI_pred _
    show zW l D tc A mX8_whole (d + 1) 0 0 0 0 0 [some (.ref 108)] [] (zs g gl f) _
    by_cases c33 : b = 33
    · subst c33
      have hop : zOp (33 :: r) = zOp r + 1 := by rw [zOp, if_pos (by omega)]; omega
      rw [hop] at R4
      refine zx_aload_n (q := 1) dX8_whole_0 rfl rfl rfl ?_
      refine zy_getIe (q := 4) (v := nI (r.length + 1)) dX8_whole_1 fl_RX8_83 rfl rfl (R3) rfl ?_
      refine zx_if_le_f (t := 52) (q := 7) dX8_whole_4 (by decide) rfl (nI_nle (by omega) (by omega)) ?_
      refine zx_aload_n (q := 8) dX8_whole_7 rfl rfl rfl ?_
      refine zy_getR (q := 11) dX8_whole_8 fl_RX8_77 rfl rfl rfl rfl ?_
      refine zx_aload_n (q := 12) dX8_whole_11 rfl rfl rfl ?_
      refine zy_getIe (q := 15) (v := nI (r.length + 1)) dX8_whole_12 fl_RX8_83 rfl rfl (R3) rfl ?_
      refine zx_iconst (q := 16) (v := 1) dX8_whole_15 (by decide) rfl ?_
      refine zx_isub (q := 17) dX8_whole_16 rfl ?_
      rw [hR3]
      refine zy_ialdN (q := 18) dX8_whole_17 rfl (by omega) (by first | decide | omega) rfl ?_
      rw [R2.1.1]
      refine zx_bipush (q := 20) (v := 33) dX8_whole_18 (by decide) rfl ?_
      refine zx_icmp_ne_f (t := 52) (q := 23) dX8_whole_20 (by decide) rfl (rfl) ?_
      refine zx_aload_n (q := 24) dX8_whole_23 rfl rfl rfl ?_
      refine zx_bipush (q := 26) (v := (-33)) dX8_whole_24 (by decide) rfl ?_
      refine zx_callV1v (q := 29) (y' := mX8_emits) dX8_whole_26 ml_RX8_222 ok_mX8_emits rfl (by decide) rfl (Nat.le_of_ble_eq_true rfl) (Nat.le_of_ble_eq_true rfl) (Nat.le_refl _) (Nat.le_refl _) rfl (t_M_emit _ sg (-33) R5 (by omega)) ?_
      rintro _ rfl
      refine zx_aload_n (q := 30) dX8_whole_29 rfl rfl rfl ?_
      refine zx_dup (q := 31) dX8_whole_30 rfl rfl ?_
      refine zy_getIe (q := 34) (v := nI (r.length + 1)) dX8_whole_31 fl_RX8_83 rfl rfl (by rw [z_u_ne _ _ (by omega), z_u_ne _ _ (by omega)]; exact R3) rfl ?_
      refine zx_iconst (q := 35) (v := 1) dX8_whole_34 (by decide) rfl ?_
      refine zx_isub (q := 36) dX8_whole_35 rfl ?_
      rw [hR3]
      refine zy_putI (q := 39) dX8_whole_36 fl_RX8_83 rfl rfl ⟨rfl, rfl⟩ rfl rfl ?_
      refine zx_aload_n (q := 40) dX8_whole_39 rfl rfl rfl ?_
      refine zx_dup (q := 41) dX8_whole_40 rfl rfl ?_
      refine zy_getIe (q := 44) (v := nI (zOp r + 1)) dX8_whole_41 fl_RX8_86 rfl rfl (by rw [z_u_ne _ _ (by omega), z_u_ne _ _ (by omega), z_u_ne _ _ (by omega)]; exact R4) rfl ?_
      refine zx_iconst (q := 45) (v := 1) dX8_whole_44 (by decide) rfl ?_
      refine zx_isub (q := 46) dX8_whole_45 rfl ?_
      rw [nI_pred]
      refine zy_putI (q := 49) dX8_whole_46 fl_RX8_86 rfl rfl ⟨rfl, rfl⟩ rfl rfl ?_
      refine zx_goto (t := 0) dX8_whole_49 (by decide) ?_
      have hU : zRC (zw_u (zw_u (zw_u (zw_u g 123 sg (-33)) 108 23 (nI (sg + 1))) 108 24 (nI r.length)) 108 25 (nI (zOp r))) tx len p r (sg + 1) B := ⟨zRK_fr R1 (fun k j z => by rw [z_u_ne _ _ (by omega), z_u_ne _ _ (by omega), z_u_ne _ _ (by omega), z_u_ne _ _ (by omega)]), zSK_fr R2.2 (fun j hj => by rw [z_u_ne _ _ (by omega), z_u_ne _ _ (by omega), z_u_ne _ _ (by omega), z_u_ne _ _ (by omega)]), by rw [z_u_ne _ _ (by omega), z_u_at], by rw [z_u_at], by rw [z_u_ne _ _ (by omega), z_u_ne _ _ (by omega), z_u_at], by omega, by omega, R8⟩
      refine zW.mono (ih (sg + 1) _ hU) ?_
      rintro _ S' ⟨h0, g2, h1, h2, h3, h4⟩
      refine ⟨h0, g2, h1, by rw [z_wr, if_pos rfl, z_wn, if_pos rfl, show sg + (z_wn r + 1) = sg + 1 + z_wn r by omega]; exact h2, ?_, zFrR_tr (fun k j a1 a2 a3 a4 => by rw [z_u_ne _ _ (by omega), z_u_ne _ _ (by omega), z_u_ne _ _ (by omega), z_u_ne _ _ (by omega)]) h4⟩
      rw [z_wn, if_pos rfl, List.replicate_succ]
      have h5 : zSg g (zw_u (zw_u (zw_u (zw_u g 123 sg (-33)) 108 23 (nI (sg + 1))) 108 24 (nI r.length)) 108 25 (nI (zOp r))) sg [-1] := ⟨fun i hi => by have hi0 : i = 0 := (by simpa using hi); subst hi0; rw [z_u_ne _ _ (by omega), z_u_ne _ _ (by omega), z_u_ne _ _ (by omega), Nat.add_zero, z_u_at]; decide, fun j hj => by rw [z_u_ne _ _ (by omega), z_u_ne _ _ (by omega), z_u_ne _ _ (by omega), z_u_ne _ _ (by omega)]⟩
      exact zSg_app h5 h3
    · refine zx_aload_n (q := 1) dX8_whole_0 rfl rfl rfl ?_
      refine zy_getIe (q := 4) (v := nI (r.length + 1)) dX8_whole_1 fl_RX8_83 rfl rfl (R3) rfl ?_
      refine zx_if_le_f (t := 52) (q := 7) dX8_whole_4 (by decide) rfl (nI_nle (by omega) (by omega)) ?_
      refine zx_aload_n (q := 8) dX8_whole_7 rfl rfl rfl ?_
      refine zy_getR (q := 11) dX8_whole_8 fl_RX8_77 rfl rfl rfl rfl ?_
      refine zx_aload_n (q := 12) dX8_whole_11 rfl rfl rfl ?_
      refine zy_getIe (q := 15) (v := nI (r.length + 1)) dX8_whole_12 fl_RX8_83 rfl rfl (R3) rfl ?_
      refine zx_iconst (q := 16) (v := 1) dX8_whole_15 (by decide) rfl ?_
      refine zx_isub (q := 17) dX8_whole_16 rfl ?_
      rw [hR3]
      refine zy_ialdN (q := 18) dX8_whole_17 rfl (by omega) (by first | decide | omega) rfl ?_
      rw [R2.1.1]
      refine zx_bipush (q := 20) (v := 33) dX8_whole_18 (by decide) rfl ?_
      refine zx_icmp_ne_t (t := 52) (q := 23) dX8_whole_20 (by decide) rfl (fun z => c33 (by rw [show (33 : Int32) = nI 33 from rfl, nI_eq (by omega) (by omega)] at z; exact z)) ?_
      refine zx_vret dX8_whole_52 rfl (Nat.le_refl _) (Nat.le_refl _) ⟨rfl, ?_⟩
      exact ⟨g, rfl, by rw [z_wr, if_neg c33, z_wn, if_neg c33]; exact hR, by rw [z_wn, if_neg c33]; exact zSg_nil (fun _ _ => rfl), zFrR_rf⟩
theorem t_M_settle (d c s : Nat) (hs : s < 128) {tx : Nat → Nat} {len p B : Nat} : ∀ (st : List Nat) (sg : Nat) (g : Nat → Nat → Int32) (hR : zRC g tx len p st sg B), zCall l D tc A mX8_settle (d + 1) 0 0 [.ref 108, .int (nI s)] (zs g gl f) (zQv fun S' => ∃ g2, S' = zs g2 gl f ∧ zRC g2 tx len p (z_sr s st) (sg + (z_sp s st).length) B ∧ zSg g g2 sg (z_sp s st) ∧ zFrR g g2 c B) := by
  intro st
  induction st with
  | nil =>
    intro sg g hR
    obtain ⟨R1, R2, R3, R4, R5, R6, R7, R8⟩ := id hR
    obtain ⟨_, _, hp, hlen, _⟩ := id R1
    show zW l D tc A mX8_settle (d + 1) 0 0 0 0 0 [some (.ref 108), some (.int (nI s))] [] (zs g gl f) _
    refine zx_aload_n (q := 1) dX8_settle_0 rfl rfl rfl ?_
    refine zy_getIe (q := 4) (v := nI 0) dX8_settle_1 fl_RX8_83 rfl rfl (R3) rfl ?_
    refine zx_if_le_t (t := 72) (q := 7) dX8_settle_4 (by decide) rfl (by decide) ?_
    refine zx_vret dX8_settle_72 rfl (Nat.le_refl _) (Nat.le_refl _) ⟨rfl, ?_⟩
    exact ⟨g, rfl, hR, zSg_nil (fun _ _ => rfl), zFrR_rf⟩
  | cons b r ih =>
    intro sg g hR
    obtain ⟨R1, R2, R3, R4, R5, R6, R7, R8⟩ := id hR
    obtain ⟨_, _, hp, hlen, _⟩ := id R1
    have hb := R2.1.2
    simp only [List.length_cons] at R3 R7
    have hR3 : nI (r.length + 1) - 1 = nI r.length := nI_pred _
    show zW l D tc A mX8_settle (d + 1) 0 0 0 0 0 [some (.ref 108), some (.int (nI s))] [] (zs g gl f) _
    by_cases c38 : b = 38
    · subst c38
      refine zx_aload_n (q := 1) dX8_settle_0 rfl rfl rfl ?_
      refine zy_getIe (q := 4) (v := nI (r.length + 1)) dX8_settle_1 fl_RX8_83 rfl rfl (R3) rfl ?_
      refine zx_if_le_f (t := 72) (q := 7) dX8_settle_4 (by decide) rfl (nI_nle (by omega) (by omega)) ?_
      refine zx_aload_n (q := 8) dX8_settle_7 rfl rfl rfl ?_
      refine zy_getR (q := 11) dX8_settle_8 fl_RX8_77 rfl rfl rfl rfl ?_
      refine zx_aload_n (q := 12) dX8_settle_11 rfl rfl rfl ?_
      refine zy_getIe (q := 15) (v := nI (r.length + 1)) dX8_settle_12 fl_RX8_83 rfl rfl (R3) rfl ?_
      refine zx_iconst (q := 16) (v := 1) dX8_settle_15 (by decide) rfl ?_
      refine zx_isub (q := 17) dX8_settle_16 rfl ?_
      rw [hR3]
      refine zy_ialdN (q := 18) dX8_settle_17 rfl (by omega) (by first | decide | omega) rfl ?_
      rw [R2.1.1]
      refine zx_bipush (q := 20) (v := 38) dX8_settle_18 (by decide) rfl ?_
      refine zx_icmp_eq_t (t := 45) (q := 23) dX8_settle_20 (by decide) rfl (rfl) ?_
      refine zx_aload_n (q := 46) dX8_settle_45 rfl rfl rfl ?_
      refine zx_dup (q := 47) dX8_settle_46 rfl rfl ?_
      refine zy_getIe (q := 50) (v := nI (r.length + 1)) dX8_settle_47 fl_RX8_83 rfl rfl (R3) rfl ?_
      refine zx_iconst (q := 51) (v := 1) dX8_settle_50 (by decide) rfl ?_
      refine zx_isub (q := 52) dX8_settle_51 rfl ?_
      rw [hR3]
      refine zy_putI (q := 55) dX8_settle_52 fl_RX8_83 rfl rfl ⟨rfl, rfl⟩ rfl rfl ?_
      refine zx_aload_n (q := 56) dX8_settle_55 rfl rfl rfl ?_
      refine zx_aload_n (q := 57) dX8_settle_56 rfl rfl rfl ?_
      refine zy_getR (q := 60) dX8_settle_57 fl_RX8_77 rfl rfl rfl rfl ?_
      refine zx_aload_n (q := 61) dX8_settle_60 rfl rfl rfl ?_
      refine zy_getIe (q := 64) (v := nI r.length) dX8_settle_61 fl_RX8_83 rfl rfl (z_u_at _ _ _ _) rfl ?_
      refine zy_ialdN (q := 65) dX8_settle_64 rfl (by omega) (by first | decide | omega) rfl ?_
      rw [z_u_ne _ _ (by omega), R2.1.1]
      refine zx_ineg (q := 66) dX8_settle_65 rfl ?_
      rw [show -(nI 38) = (-38 : Int32) from by decide]
      refine zx_callV1v (q := 69) (y' := mX8_emits) dX8_settle_66 ml_RX8_222 ok_mX8_emits rfl (by decide) rfl (Nat.le_of_ble_eq_true rfl) (Nat.le_of_ble_eq_true rfl) (Nat.le_refl _) (Nat.le_refl _) rfl (t_M_emit _ sg (-38) (by rw [z_u_ne _ _ (by omega)]; exact R5) (by omega)) ?_
      rintro _ rfl
      refine zx_goto (t := 0) dX8_settle_69 (by decide) ?_
      have hU : zRC (zw_u (zw_u (zw_u g 108 24 (nI r.length)) 123 sg (-38)) 108 23 (nI (sg + 1))) tx len p r (sg + 1) B := ⟨zRK_fr R1 (fun k j z => by rw [z_u_ne _ _ (by omega), z_u_ne _ _ (by omega), z_u_ne _ _ (by omega)]), zSK_fr R2.2 (fun j hj => by rw [z_u_ne _ _ (by omega), z_u_ne _ _ (by omega), z_u_ne _ _ (by omega)]), by rw [z_u_ne _ _ (by omega), z_u_ne _ _ (by omega), z_u_at], by rw [z_u_ne _ _ (by omega), z_u_ne _ _ (by omega), z_u_ne _ _ (by omega), R4, zOp, if_neg (by omega), Nat.zero_add], by rw [z_u_at], by omega, by omega, R8⟩
      refine zW.mono (ih (sg + 1) _ hU) ?_
      rintro _ S' ⟨h0, g2, h1, h2, h3, h4⟩
      rw [z_sp, if_pos rfl, z_sr, if_pos rfl]
      refine ⟨h0, g2, h1, by rw [List.length_cons, show sg + ((z_sp s r).length + 1) = sg + 1 + (z_sp s r).length by omega]; exact h2, ?_, zFrR_tr (fun k j a1 a2 a3 a4 => by rw [z_u_ne _ _ (by omega), z_u_ne _ _ (by omega), z_u_ne _ _ (by omega)]) h4⟩
      have h5 : zSg g (zw_u (zw_u (zw_u g 108 24 (nI r.length)) 123 sg (-38)) 108 23 (nI (sg + 1))) sg [-2] := ⟨fun i hi => by have hi0 : i = 0 := (by simpa using hi); subst hi0; rw [z_u_ne _ _ (by omega), Nat.add_zero, z_u_at]; decide, fun j hj => by rw [z_u_ne _ _ (by omega), z_u_ne _ _ (by omega), z_u_ne _ _ (by omega)]⟩
      exact zSg_app h5 h3
    · by_cases c124 : b = 124 ∧ ¬ s = 38
      · obtain ⟨c1, c2⟩ := c124
        subst c1
        refine zx_aload_n (q := 1) dX8_settle_0 rfl rfl rfl ?_
        refine zy_getIe (q := 4) (v := nI (r.length + 1)) dX8_settle_1 fl_RX8_83 rfl rfl (R3) rfl ?_
        refine zx_if_le_f (t := 72) (q := 7) dX8_settle_4 (by decide) rfl (nI_nle (by omega) (by omega)) ?_
        refine zx_aload_n (q := 8) dX8_settle_7 rfl rfl rfl ?_
        refine zy_getR (q := 11) dX8_settle_8 fl_RX8_77 rfl rfl rfl rfl ?_
        refine zx_aload_n (q := 12) dX8_settle_11 rfl rfl rfl ?_
        refine zy_getIe (q := 15) (v := nI (r.length + 1)) dX8_settle_12 fl_RX8_83 rfl rfl (R3) rfl ?_
        refine zx_iconst (q := 16) (v := 1) dX8_settle_15 (by decide) rfl ?_
        refine zx_isub (q := 17) dX8_settle_16 rfl ?_
        rw [hR3]
        refine zy_ialdN (q := 18) dX8_settle_17 rfl (by omega) (by first | decide | omega) rfl ?_
        rw [R2.1.1]
        refine zx_bipush (q := 20) (v := 38) dX8_settle_18 (by decide) rfl ?_
        refine zx_icmp_eq_f (t := 45) (q := 23) dX8_settle_20 (by decide) rfl (by decide) ?_
        refine zx_aload_n (q := 24) dX8_settle_23 rfl rfl rfl ?_
        refine zy_getR (q := 27) dX8_settle_24 fl_RX8_77 rfl rfl rfl rfl ?_
        refine zx_aload_n (q := 28) dX8_settle_27 rfl rfl rfl ?_
        refine zy_getIe (q := 31) (v := nI (r.length + 1)) dX8_settle_28 fl_RX8_83 rfl rfl (R3) rfl ?_
        refine zx_iconst (q := 32) (v := 1) dX8_settle_31 (by decide) rfl ?_
        refine zx_isub (q := 33) dX8_settle_32 rfl ?_
        rw [hR3]
        refine zy_ialdN (q := 34) dX8_settle_33 rfl (by omega) (by first | decide | omega) rfl ?_
        rw [R2.1.1]
        refine zx_bipush (q := 36) (v := 124) dX8_settle_34 (by decide) rfl ?_
        refine zx_icmp_ne_f (t := 72) (q := 39) dX8_settle_36 (by decide) rfl (rfl) ?_
        refine zx_iload_n (q := 40) dX8_settle_39 rfl rfl rfl ?_
        refine zx_bipush (q := 42) (v := 38) dX8_settle_40 (by decide) rfl ?_
        refine zx_icmp_eq_f (t := 72) (q := 45) dX8_settle_42 (by decide) rfl (fun z => c2 (by rw [show (38 : Int32) = nI 38 from rfl, nI_eq (by omega) (by omega)] at z; exact z)) ?_
        refine zx_aload_n (q := 46) dX8_settle_45 rfl rfl rfl ?_
        refine zx_dup (q := 47) dX8_settle_46 rfl rfl ?_
        refine zy_getIe (q := 50) (v := nI (r.length + 1)) dX8_settle_47 fl_RX8_83 rfl rfl (R3) rfl ?_
        refine zx_iconst (q := 51) (v := 1) dX8_settle_50 (by decide) rfl ?_
        refine zx_isub (q := 52) dX8_settle_51 rfl ?_
        rw [hR3]
        refine zy_putI (q := 55) dX8_settle_52 fl_RX8_83 rfl rfl ⟨rfl, rfl⟩ rfl rfl ?_
        refine zx_aload_n (q := 56) dX8_settle_55 rfl rfl rfl ?_
        refine zx_aload_n (q := 57) dX8_settle_56 rfl rfl rfl ?_
        refine zy_getR (q := 60) dX8_settle_57 fl_RX8_77 rfl rfl rfl rfl ?_
        refine zx_aload_n (q := 61) dX8_settle_60 rfl rfl rfl ?_
        refine zy_getIe (q := 64) (v := nI r.length) dX8_settle_61 fl_RX8_83 rfl rfl (z_u_at _ _ _ _) rfl ?_
        refine zy_ialdN (q := 65) dX8_settle_64 rfl (by omega) (by first | decide | omega) rfl ?_
        rw [z_u_ne _ _ (by omega), R2.1.1]
        refine zx_ineg (q := 66) dX8_settle_65 rfl ?_
        rw [show -(nI 124) = (-124 : Int32) from by decide]
        refine zx_callV1v (q := 69) (y' := mX8_emits) dX8_settle_66 ml_RX8_222 ok_mX8_emits rfl (by decide) rfl (Nat.le_of_ble_eq_true rfl) (Nat.le_of_ble_eq_true rfl) (Nat.le_refl _) (Nat.le_refl _) rfl (t_M_emit _ sg (-124) (by rw [z_u_ne _ _ (by omega)]; exact R5) (by omega)) ?_
        rintro _ rfl
        refine zx_goto (t := 0) dX8_settle_69 (by decide) ?_
        have hU : zRC (zw_u (zw_u (zw_u g 108 24 (nI r.length)) 123 sg (-124)) 108 23 (nI (sg + 1))) tx len p r (sg + 1) B := ⟨zRK_fr R1 (fun k j z => by rw [z_u_ne _ _ (by omega), z_u_ne _ _ (by omega), z_u_ne _ _ (by omega)]), zSK_fr R2.2 (fun j hj => by rw [z_u_ne _ _ (by omega), z_u_ne _ _ (by omega), z_u_ne _ _ (by omega)]), by rw [z_u_ne _ _ (by omega), z_u_ne _ _ (by omega), z_u_at], by rw [z_u_ne _ _ (by omega), z_u_ne _ _ (by omega), z_u_ne _ _ (by omega), R4, zOp, if_neg (by omega), Nat.zero_add], by rw [z_u_at], by omega, by omega, R8⟩
        refine zW.mono (ih (sg + 1) _ hU) ?_
        rintro _ S' ⟨h0, g2, h1, h2, h3, h4⟩
        rw [z_sp, if_neg (show ¬ 124 = 38 by decide), if_pos (show 124 = 124 ∧ ¬ s = 38 from ⟨rfl, c2⟩), z_sr, if_neg (show ¬ 124 = 38 by decide), if_pos (show 124 = 124 ∧ ¬ s = 38 from ⟨rfl, c2⟩)]
        refine ⟨h0, g2, h1, by rw [List.length_cons, show sg + ((z_sp s r).length + 1) = sg + 1 + (z_sp s r).length by omega]; exact h2, ?_, zFrR_tr (fun k j a1 a2 a3 a4 => by rw [z_u_ne _ _ (by omega), z_u_ne _ _ (by omega), z_u_ne _ _ (by omega)]) h4⟩
        have h5 : zSg g (zw_u (zw_u (zw_u g 108 24 (nI r.length)) 123 sg (-124)) 108 23 (nI (sg + 1))) sg [-3] := ⟨fun i hi => by have hi0 : i = 0 := (by simpa using hi); subst hi0; rw [z_u_ne _ _ (by omega), Nat.add_zero, z_u_at]; decide, fun j hj => by rw [z_u_ne _ _ (by omega), z_u_ne _ _ (by omega), z_u_ne _ _ (by omega)]⟩
        exact zSg_app h5 h3
      · refine zx_aload_n (q := 1) dX8_settle_0 rfl rfl rfl ?_
        refine zy_getIe (q := 4) (v := nI (r.length + 1)) dX8_settle_1 fl_RX8_83 rfl rfl (R3) rfl ?_
        refine zx_if_le_f (t := 72) (q := 7) dX8_settle_4 (by decide) rfl (nI_nle (by omega) (by omega)) ?_
        refine zx_aload_n (q := 8) dX8_settle_7 rfl rfl rfl ?_
        refine zy_getR (q := 11) dX8_settle_8 fl_RX8_77 rfl rfl rfl rfl ?_
        refine zx_aload_n (q := 12) dX8_settle_11 rfl rfl rfl ?_
        refine zy_getIe (q := 15) (v := nI (r.length + 1)) dX8_settle_12 fl_RX8_83 rfl rfl (R3) rfl ?_
        refine zx_iconst (q := 16) (v := 1) dX8_settle_15 (by decide) rfl ?_
        refine zx_isub (q := 17) dX8_settle_16 rfl ?_
        rw [hR3]
        refine zy_ialdN (q := 18) dX8_settle_17 rfl (by omega) (by first | decide | omega) rfl ?_
        rw [R2.1.1]
        refine zx_bipush (q := 20) (v := 38) dX8_settle_18 (by decide) rfl ?_
        refine zx_icmp_eq_f (t := 45) (q := 23) dX8_settle_20 (by decide) rfl (fun z => c38 (by rw [show (38 : Int32) = nI 38 from rfl, nI_eq (by omega) (by omega)] at z; exact z)) ?_
        refine zx_aload_n (q := 24) dX8_settle_23 rfl rfl rfl ?_
        refine zy_getR (q := 27) dX8_settle_24 fl_RX8_77 rfl rfl rfl rfl ?_
        refine zx_aload_n (q := 28) dX8_settle_27 rfl rfl rfl ?_
        refine zy_getIe (q := 31) (v := nI (r.length + 1)) dX8_settle_28 fl_RX8_83 rfl rfl (R3) rfl ?_
        refine zx_iconst (q := 32) (v := 1) dX8_settle_31 (by decide) rfl ?_
        refine zx_isub (q := 33) dX8_settle_32 rfl ?_
        rw [hR3]
        refine zy_ialdN (q := 34) dX8_settle_33 rfl (by omega) (by first | decide | omega) rfl ?_
        rw [R2.1.1]
        refine zx_bipush (q := 36) (v := 124) dX8_settle_34 (by decide) rfl ?_
        refine zx_icmp_ne (q := 39) (t := 72) dX8_settle_36 (by decide) rfl (fun c_36 => ?_) (fun c_36 => ?_)
        · refine zx_vret dX8_settle_72 rfl (Nat.le_refl _) (Nat.le_refl _) ⟨rfl, ?_⟩
          exact ⟨g, rfl, by rw [z_sr, if_neg c38, if_neg c124, z_sp, if_neg c38, if_neg c124]; exact hR, by rw [z_sp, if_neg c38, if_neg c124]; exact zSg_nil (fun _ _ => rfl), zFrR_rf⟩
        · have hb124 : b = 124 := by rw [show (124 : Int32) = nI 124 from rfl, nI_eq (by omega) (by omega)] at c_36; exact c_36
          refine zx_iload_n (q := 40) dX8_settle_39 rfl rfl rfl ?_
          refine zx_bipush (q := 42) (v := 38) dX8_settle_40 (by decide) rfl ?_
          refine zx_icmp_eq_t (t := 72) (q := 45) dX8_settle_42 (by decide) rfl (by have hs : s = 38 := (by apply Classical.byContradiction; intro hh; exact c124 ⟨hb124, hh⟩); rw [hs]; rfl) ?_
          refine zx_vret dX8_settle_72 rfl (Nat.le_refl _) (Nat.le_refl _) ⟨rfl, ?_⟩
          exact ⟨g, rfl, by rw [z_sr, if_neg c38, if_neg c124, z_sp, if_neg c38, if_neg c124]; exact hR, by rw [z_sp, if_neg c38, if_neg c124]; exact zSg_nil (fun _ _ => rfl), zFrR_rf⟩
end P54
