/-! the reference's takesE, along a derivation -/
def zCn (st : List Nat) : Prop := st = [] ∨ ∃ r, st = 40 :: r
def zCm (st : List Nat) : Prop := zCn st ∨ ∃ r, st = 124 :: r ∧ zCn r
def z_pa (a : Bool) (t : List Nat) : List Nat := if a = true then 38 :: t else t
def z_po (o : Bool) (t : List Nat) : List Nat := if o = true then 124 :: t else t
def z_pd (a : Bool) : List Int32 := if a = true then [-2] else []
def z_pe (o : Bool) : List Int32 := if o = true then [-3] else []
theorem z_s38 {t : List Nat} (h : zCm t) (a : Bool) : z_sr 38 (z_pa a t) = t ∧ z_sp 38 (z_pa a t) = z_pd a := by
  rcases h with (h | ⟨r, h⟩) | ⟨r, h, _⟩ <;> subst h <;> cases a <;> simp [z_pa, z_sr, z_sp, z_pd]
theorem z_s124 {t : List Nat} (h : zCn t) (a o : Bool) : z_sr 124 (z_pa a (z_po o t)) = t ∧ z_sp 124 (z_pa a (z_po o t)) = z_pd a ++ z_pe o := by
  rcases h with h | ⟨r, h⟩ <;> subst h <;> cases a <;> cases o <;> simp [z_pa, z_po, z_sr, z_sp, z_pd, z_pe]
theorem z_op_pa (a : Bool) (t : List Nat) : zOp (z_pa a t) = zOp t := by cases a <;> simp [z_pa, zOp]
theorem z_op_po (o : Bool) (t : List Nat) : zOp (z_po o t) = zOp t := by cases o <;> simp [z_po, zOp]
theorem z_cn_w {t : List Nat} (h : zCn t) : z_wn t = 0 ∧ z_wr t = t := by
  rcases h with h | ⟨r, h⟩ <;> subst h <;> simp [z_wn, z_wr]
theorem zCm_po {t : List Nat} (h : zCn t) (o : Bool) : zCm (z_po o t) := by
  cases o
  · exact Or.inl h
  · exact Or.inr ⟨t, rfl, h⟩
/-- the state behind a push -/
def z_psh (g : Nat → Nat → Int32) (st : List Nat) (b p : Nat) : Nat → Nat → Int32 := zw_u (zw_u (zw_u (zw_u g 108 25 (nI (zOp st + 1))) 124 st.length (nI b)) 108 24 (nI (st.length + 1))) 108 13 (nI (p + 1))
theorem z_psh_ok {g : Nat → Nat → Int32} {tx : Nat → Nat} {len p sg B b : Nat} {st : List Nat} (hR : zRC g tx len p st sg B) (hp : p < len) (hb : b = 33 ∨ b = 40) : zRC (z_psh g st b p) tx len (p + 1) (b :: st) sg B := by
  obtain ⟨R1, R2, R3, R4, R5, R6, R7, R8⟩ := hR
  unfold z_psh
  refine ⟨zRK_adv (zRK_fr R1 (fun k j z => by rw [z_u_ne _ _ (by omega), z_u_ne _ _ (by omega), z_u_ne _ _ (by omega)])) hp, ⟨⟨?_, by omega⟩, zSK_fr R2 (fun j hj => ?_)⟩, ?_, ?_, ?_, R6, ?_, R8⟩
  · rw [z_u_ne _ _ (by omega), z_u_ne _ _ (by omega), z_u_at]
  · rw [z_u_ne _ _ (by omega), z_u_ne _ _ (by omega), z_u_ne _ _ (by omega), z_u_ne _ _ (by omega)]
  · rw [z_u_ne _ _ (by omega), z_u_at]; rfl
  · rw [z_u_ne _ _ (by omega), z_u_ne _ _ (by omega), z_u_ne _ _ (by omega), z_u_at, zOp, if_pos hb, Nat.add_comm]
  · rw [z_u_ne _ _ (by omega), z_u_ne _ _ (by omega), z_u_ne _ _ (by omega), z_u_ne _ _ (by omega)]; exact R5
  · simp only [List.length_cons]; omega
theorem z_psh_fr {g : Nat → Nat → Int32} {st : List Nat} {b p c B : Nat} : zFrR g (z_psh g st b p) c B := fun k j h1 h2 h3 h4 => by
  unfold z_psh
  rw [z_u_ne _ _ (by omega), z_u_ne _ _ (by omega), z_u_ne _ _ (by omega), z_u_ne _ _ (by omega)]
theorem z_psh_s {g : Nat → Nat → Int32} {st : List Nat} {b p : Nat} (j : Nat) : z_psh g st b p 123 j = g 123 j := by
  unfold z_psh
  rw [z_u_ne _ _ (by omega), z_u_ne _ _ (by omega), z_u_ne _ _ (by omega), z_u_ne _ _ (by omega)]
theorem z_rep (c : List Int32) (n : Nat) : c ++ List.replicate (n + 1) (-1) = (c ++ [-1]) ++ List.replicate n (-1) := by
  rw [List.replicate_succ, List.append_assoc]
  rfl
section P55
variable {l : Launch} {D : va_G} {tc : Nat → ClassId} {A : Nat → Prop} {S : zw_S} {gi : Nat → Nat → Int32} {gl : Nat → Nat → Int64} {f : Option Nat}
theorem t_M_tsS (d : Nat) {g : Nat → Nat → Int32} {tx : Nat → Nat} {len p sg B c : Nat} {st : List Nat} (hR : zRC g tx len p st sg B) {a b q n : Nat} (h1 : z_oo tx len 6 p = some a) (h2 : z_oo tx len 7 (p + 1) = some b) (h3 : z_nm tx len (p + 2) = (q, some n)) : zCall l D tc A mX8_takesTest (d + 3) 0 0 [.ref 108] (zs g gl f) (zQi fun x S' => x = 1 ∧ ∃ g2, S' = zs g2 gl f ∧ zRC g2 tx len q (z_wr st) (sg + 1 + z_wn st) B ∧ zSg g g2 sg ([nI ((a * 3 + b) * 100 + n)] ++ List.replicate (z_wn st) (-1)) ∧ zFrR g g2 c B) := by
  obtain ⟨R1, R2, R3, R4, R5, R6, R7, R8⟩ := id hR
  obtain ⟨R11, R12, hp, hlen, _⟩ := id R1
  have ha := (z_oo_lt h1).2.1 rfl
  have hbb := (z_oo_lt h2).2.2.1 rfl
  have hp2 := z_oo_p h2
  have hnm := z_nm_ok (by omega) h3
  have hn9 := hnm.2.2.2 n rfl
  show zW l D tc A mX8_takesTest (d + 3) 0 0 0 0 0 [some (.ref 108), none, none] [] (zs g gl f) _
  refine zx_aload_n (q := 1) dX8_takesTest_0 rfl rfl rfl ?_
  refine zx_aload_n (q := 2) dX8_takesTest_1 rfl rfl rfl ?_
  refine zx_callV0i (q := 5) (y' := mX8_next) dX8_takesTest_2 ml_RX8_211 ok_mX8_next rfl (by decide) rfl (Nat.le_of_ble_eq_true rfl) (Nat.le_of_ble_eq_true rfl) (Nat.le_refl _) (Nat.le_refl _) rfl (t_M_next _ R1) ?_
  rintro _ _ ⟨rfl, rfl⟩
  refine zx_callV1i (q := 8) (y' := mX8_place) dX8_takesTest_5 ml_RX8_226 ok_mX8_place rfl (by decide) rfl (Nat.le_of_ble_eq_true rfl) (Nat.le_of_ble_eq_true rfl) (Nat.le_refl _) (Nat.le_refl _) rfl (t_M_place _ _) ?_
  rintro _ _ ⟨rfl, rfl⟩
  rw [z_plc_nt R1, h1]
  refine zx_istore1 (q := 9) dX8_takesTest_8 rfl rfl ?_
  refine zx_iload_n (q := 10) dX8_takesTest_9 rfl rfl rfl ?_
  refine zx_if_ge_t (t := 15) (q := 13) dX8_takesTest_10 (by decide) rfl (nI_pos' (by have := (z_oo_lt h1).2.2.2; omega)) ?_
  refine zx_aload_n (q := 16) dX8_takesTest_15 rfl rfl rfl ?_
  refine zx_dup (q := 17) dX8_takesTest_16 rfl rfl ?_
  refine zy_getIe (q := 20) (v := nI p) dX8_takesTest_17 fl_RX8_50 rfl rfl (R12) rfl ?_
  refine zx_iconst (q := 21) (v := 1) dX8_takesTest_20 (by decide) rfl ?_
  refine zx_iadd (q := 22) dX8_takesTest_21 rfl ?_
  rw [nI_1]
  refine zy_putI (q := 25) dX8_takesTest_22 fl_RX8_50 rfl rfl ⟨rfl, rfl⟩ rfl rfl ?_
  refine zx_aload_n (q := 26) dX8_takesTest_25 rfl rfl rfl ?_
  refine zx_callV0i (q := 29) (y' := mX8_next) dX8_takesTest_26 ml_RX8_211 ok_mX8_next rfl (by decide) rfl (Nat.le_of_ble_eq_true rfl) (Nat.le_of_ble_eq_true rfl) (Nat.le_refl _) (Nat.le_refl _) rfl (t_M_next _ (zRK_adv R1 (z_oo_p h1))) ?_
  rintro _ _ ⟨rfl, rfl⟩
  refine zx_istore2 (q := 30) dX8_takesTest_29 rfl rfl ?_
  refine zx_aload_n (q := 31) dX8_takesTest_30 rfl rfl rfl ?_
  refine zx_iload_n (q := 32) dX8_takesTest_31 rfl rfl rfl ?_
  refine zx_bipush (q := 34) (v := 60) dX8_takesTest_32 (by decide) rfl ?_
  refine zx_bipush (q := 36) (v := 62) dX8_takesTest_34 (by decide) rfl ?_
  refine zx_callV3i (q := 39) (y' := mX8_in) dX8_takesTest_36 ml_RX8_200 ok_mX8_in rfl (by decide) rfl (Nat.le_of_ble_eq_true rfl) (Nat.le_of_ble_eq_true rfl) (Nat.le_refl _) (Nat.le_refl _) rfl (t_X8_in _ _ _ _ _) ?_
  rintro _ _ ⟨rfl, rfl⟩
  rw [z_in7 (zRK_adv R1 (z_oo_p h1)), h2]
  refine zx_if_ne_t (t := 44) (q := 42) dX8_takesTest_39 (by decide) rfl (zk_t rfl) ?_
  refine zx_aload_n (q := 45) dX8_takesTest_44 rfl rfl rfl ?_
  refine zx_dup (q := 46) dX8_takesTest_45 rfl rfl ?_
  refine zy_getIe (q := 49) (v := nI (p + 1)) dX8_takesTest_46 fl_RX8_50 rfl rfl (z_u_at _ _ _ _) rfl ?_
  refine zx_iconst (q := 50) (v := 1) dX8_takesTest_49 (by decide) rfl ?_
  refine zx_iadd (q := 51) dX8_takesTest_50 rfl ?_
  rw [nI_1]
  refine zy_putI (q := 54) dX8_takesTest_51 fl_RX8_50 rfl rfl ⟨rfl, rfl⟩ rfl rfl ?_
  refine zx_aload_n (q := 55) dX8_takesTest_54 rfl rfl rfl ?_
  refine zx_callV0i (q := 58) (y' := mX8_takesNumber) dX8_takesTest_55 ml_RX8_230 ok_mX8_takesNumber rfl (by decide) rfl (Nat.le_of_ble_eq_true rfl) (Nat.le_of_ble_eq_true rfl) (Nat.le_refl _) (Nat.le_refl _) rfl (t_M_numS _ (zRK_adv (zRK_adv R1 (z_oo_p h1)) (z_oo_p h2)) h3) ?_
  rintro _ _ ⟨rfl, g3, rfl, K3, hdg, e3⟩
  refine zx_if_ne_t (t := 63) (q := 61) dX8_takesTest_58 (by decide) rfl (by decide) ?_
  refine zx_aload_n (q := 64) dX8_takesTest_63 rfl rfl rfl ?_
  refine zx_sipush (q := 67) (v := 1000) dX8_takesTest_64 (by decide) rfl ?_
  refine zx_iload_n (q := 68) dX8_takesTest_67 rfl rfl rfl ?_
  refine zx_imul (q := 69) dX8_takesTest_68 rfl ?_
  refine zx_bipush (q := 71) (v := 100) dX8_takesTest_69 (by decide) rfl ?_
  refine zx_iload_n (q := 72) dX8_takesTest_71 rfl rfl rfl ?_
  refine zx_bipush (q := 74) (v := 60) dX8_takesTest_72 (by decide) rfl ?_
  refine zx_isub (q := 75) dX8_takesTest_74 rfl ?_
  refine zx_imul (q := 76) dX8_takesTest_75 rfl ?_
  refine zx_iadd (q := 77) dX8_takesTest_76 rfl ?_
  refine zx_aload_n (q := 78) dX8_takesTest_77 rfl rfl rfl ?_
  refine zy_getIe (q := 81) (v := nI n) dX8_takesTest_78 fl_RX8_53 rfl rfl (hdg) rfl ?_
  refine zx_iadd (q := 82) dX8_takesTest_81 rfl ?_
  rw [z_rlv h2, z_ov_some, show (1000 : Int32) * nI a + 100 * (nI (b + 60) - 60) + nI n = nI (1000 * a + 100 * b + n) from by rw [show (60 : Int32) = nI 60 from rfl, z_subN (by omega), show (1000 : Int32) = nI 1000 from rfl, show (100 : Int32) = nI 100 from rfl, z_mul, z_mul, nI_add, nI_add]; congr 1 <;> omega]
  refine zx_callV1v (q := 85) (y' := mX8_emits) dX8_takesTest_82 ml_RX8_222 ok_mX8_emits rfl (by decide) rfl (Nat.le_of_ble_eq_true rfl) (Nat.le_of_ble_eq_true rfl) (Nat.le_refl _) (Nat.le_refl _) rfl (t_M_emit _ sg _ (by rw [e3 _ _ (by omega), z_u_ne _ _ (by omega), z_u_ne _ _ (by omega)]; exact R5) (by omega)) ?_
  rintro _ rfl
  refine zx_aload_n (q := 86) dX8_takesTest_85 rfl rfl rfl ?_
  have e4 : ∀ k j, ¬ (k = 108 ∧ (j = 13 ∨ j = 14)) → g3 k j = g k j := fun k j z => by rw [e3 k j z, z_u_ne _ _ (by omega), z_u_ne _ _ (by omega)]
  have hU : zRC (zw_u (zw_u g3 123 sg (nI (1000 * a + 100 * b + n))) 108 23 (nI (sg + 1))) tx len q st (sg + 1) B := ⟨zRK_fr K3 (fun k j z => by rw [z_u_ne _ _ (by omega), z_u_ne _ _ (by omega)]), zSK_fr R2 (fun j hj => by rw [z_u_ne _ _ (by omega), z_u_ne _ _ (by omega), e4 _ _ (by omega)]), by rw [z_u_ne _ _ (by omega), z_u_ne _ _ (by omega), e4 _ _ (by omega)]; exact R3, by rw [z_u_ne _ _ (by omega), z_u_ne _ _ (by omega), e4 _ _ (by omega)]; exact R4, z_u_at _ _ _ _, by omega, by omega, R8⟩
  refine zx_callV0v (q := 89) (y' := mX8_whole) dX8_takesTest_86 ml_RX8_233 ok_mX8_whole rfl (by decide) rfl (Nat.le_of_ble_eq_true rfl) (Nat.le_of_ble_eq_true rfl) (Nat.le_refl _) (Nat.le_refl _) rfl (t_M_whole _ c st (sg + 1) _ hU) ?_
  rintro _ ⟨g4, rfl, h4, h5, h6⟩
  refine zx_iconst (q := 90) (v := 1) dX8_takesTest_89 (by decide) rfl ?_
  refine zx_zret dX8_takesTest_90 rfl rfl (Nat.le_refl _) (Nat.le_refl _) ⟨_, rfl, ?_⟩
  refine ⟨rfl, g4, rfl, h4, ?_, zFrR_tr (fun k j t1 t2 t3 t4 => by rw [z_u_ne _ _ (by omega), z_u_ne _ _ (by omega), e4 _ _ (by omega)]) h6⟩
  refine zSg_app (g1 := zw_u (zw_u g3 123 sg (nI (1000 * a + 100 * b + n))) 108 23 (nI (sg + 1))) ⟨fun i hi => ?_, fun j hj => by rw [z_u_ne _ _ (by omega), z_u_ne _ _ (by omega), e4 _ _ (by omega)]⟩ h5
  have hi0 : i = 0 := by simpa using hi
  subst hi0
  rw [z_u_ne _ _ (by omega), Nat.add_zero, z_u_at]
  exact (z_tokT a ha b hbb n hn9.2).symm
theorem t_M_tsX1 (d : Nat) {g : Nat → Nat → Int32} {tx : Nat → Nat} {len p sg B c : Nat} {st : List Nat} (hR : zRC g tx len p st sg B) (h1 : z_oo tx len 6 p = none) : zCall l D tc A mX8_takesTest (d + 3) 0 0 [.ref 108] (zs g gl f) (zQi fun x S' => x = 0 ∧ ∃ g2, S' = zs g2 gl f ∧ g2 108 13 = nI p ∧ zFrR g g2 c B) := by
  obtain ⟨R1, R2, R3, R4, R5, R6, R7, R8⟩ := id hR
  obtain ⟨R11, R12, hp, hlen, _⟩ := id R1
  show zW l D tc A mX8_takesTest (d + 3) 0 0 0 0 0 [some (.ref 108), none, none] [] (zs g gl f) _
  refine zx_aload_n (q := 1) dX8_takesTest_0 rfl rfl rfl ?_
  refine zx_aload_n (q := 2) dX8_takesTest_1 rfl rfl rfl ?_
  refine zx_callV0i (q := 5) (y' := mX8_next) dX8_takesTest_2 ml_RX8_211 ok_mX8_next rfl (by decide) rfl (Nat.le_of_ble_eq_true rfl) (Nat.le_of_ble_eq_true rfl) (Nat.le_refl _) (Nat.le_refl _) rfl (t_M_next _ R1) ?_
  rintro _ _ ⟨rfl, rfl⟩
  refine zx_callV1i (q := 8) (y' := mX8_place) dX8_takesTest_5 ml_RX8_226 ok_mX8_place rfl (by decide) rfl (Nat.le_of_ble_eq_true rfl) (Nat.le_of_ble_eq_true rfl) (Nat.le_refl _) (Nat.le_refl _) rfl (t_M_place _ _) ?_
  rintro _ _ ⟨rfl, rfl⟩
  rw [z_plc_nt R1, h1]
  refine zx_istore1 (q := 9) dX8_takesTest_8 rfl rfl ?_
  refine zx_iload_n (q := 10) dX8_takesTest_9 rfl rfl rfl ?_
  refine zx_if_ge_f (t := 15) (q := 13) dX8_takesTest_10 (by decide) rfl (by decide) ?_
  refine zx_iconst (q := 14) (v := 0) dX8_takesTest_13 (by decide) rfl ?_
  refine zx_zret dX8_takesTest_14 rfl rfl (Nat.le_refl _) (Nat.le_refl _) ⟨_, rfl, ?_⟩
  exact ⟨rfl, g, rfl, R12, zFrR_rf⟩
theorem t_M_tsX2 (d : Nat) {g : Nat → Nat → Int32} {tx : Nat → Nat} {len p sg B c : Nat} {st : List Nat} (hR : zRC g tx len p st sg B) {a : Nat} (h1 : z_oo tx len 6 p = some a) (h2 : z_oo tx len 7 (p + 1) = none) : zCall l D tc A mX8_takesTest (d + 3) 0 0 [.ref 108] (zs g gl f) (zQi fun x S' => x = 0 ∧ ∃ g2, S' = zs g2 gl f ∧ g2 108 13 = nI (p + 1) ∧ zFrR g g2 c B) := by
  obtain ⟨R1, R2, R3, R4, R5, R6, R7, R8⟩ := id hR
  obtain ⟨R11, R12, hp, hlen, _⟩ := id R1
  show zW l D tc A mX8_takesTest (d + 3) 0 0 0 0 0 [some (.ref 108), none, none] [] (zs g gl f) _
  refine zx_aload_n (q := 1) dX8_takesTest_0 rfl rfl rfl ?_
  refine zx_aload_n (q := 2) dX8_takesTest_1 rfl rfl rfl ?_
  refine zx_callV0i (q := 5) (y' := mX8_next) dX8_takesTest_2 ml_RX8_211 ok_mX8_next rfl (by decide) rfl (Nat.le_of_ble_eq_true rfl) (Nat.le_of_ble_eq_true rfl) (Nat.le_refl _) (Nat.le_refl _) rfl (t_M_next _ R1) ?_
  rintro _ _ ⟨rfl, rfl⟩
  refine zx_callV1i (q := 8) (y' := mX8_place) dX8_takesTest_5 ml_RX8_226 ok_mX8_place rfl (by decide) rfl (Nat.le_of_ble_eq_true rfl) (Nat.le_of_ble_eq_true rfl) (Nat.le_refl _) (Nat.le_refl _) rfl (t_M_place _ _) ?_
  rintro _ _ ⟨rfl, rfl⟩
  rw [z_plc_nt R1, h1]
  refine zx_istore1 (q := 9) dX8_takesTest_8 rfl rfl ?_
  refine zx_iload_n (q := 10) dX8_takesTest_9 rfl rfl rfl ?_
  refine zx_if_ge_t (t := 15) (q := 13) dX8_takesTest_10 (by decide) rfl (nI_pos' (by have := (z_oo_lt h1).2.2.2; omega)) ?_
  refine zx_aload_n (q := 16) dX8_takesTest_15 rfl rfl rfl ?_
  refine zx_dup (q := 17) dX8_takesTest_16 rfl rfl ?_
  refine zy_getIe (q := 20) (v := nI p) dX8_takesTest_17 fl_RX8_50 rfl rfl (R12) rfl ?_
  refine zx_iconst (q := 21) (v := 1) dX8_takesTest_20 (by decide) rfl ?_
  refine zx_iadd (q := 22) dX8_takesTest_21 rfl ?_
  rw [nI_1]
  refine zy_putI (q := 25) dX8_takesTest_22 fl_RX8_50 rfl rfl ⟨rfl, rfl⟩ rfl rfl ?_
  refine zx_aload_n (q := 26) dX8_takesTest_25 rfl rfl rfl ?_
  refine zx_callV0i (q := 29) (y' := mX8_next) dX8_takesTest_26 ml_RX8_211 ok_mX8_next rfl (by decide) rfl (Nat.le_of_ble_eq_true rfl) (Nat.le_of_ble_eq_true rfl) (Nat.le_refl _) (Nat.le_refl _) rfl (t_M_next _ (zRK_adv R1 (z_oo_p h1))) ?_
  rintro _ _ ⟨rfl, rfl⟩
  refine zx_istore2 (q := 30) dX8_takesTest_29 rfl rfl ?_
  refine zx_aload_n (q := 31) dX8_takesTest_30 rfl rfl rfl ?_
  refine zx_iload_n (q := 32) dX8_takesTest_31 rfl rfl rfl ?_
  refine zx_bipush (q := 34) (v := 60) dX8_takesTest_32 (by decide) rfl ?_
  refine zx_bipush (q := 36) (v := 62) dX8_takesTest_34 (by decide) rfl ?_
  refine zx_callV3i (q := 39) (y' := mX8_in) dX8_takesTest_36 ml_RX8_200 ok_mX8_in rfl (by decide) rfl (Nat.le_of_ble_eq_true rfl) (Nat.le_of_ble_eq_true rfl) (Nat.le_refl _) (Nat.le_refl _) rfl (t_X8_in _ _ _ _ _) ?_
  rintro _ _ ⟨rfl, rfl⟩
  rw [z_in7 (zRK_adv R1 (z_oo_p h1)), h2]
  refine zx_if_ne_f (t := 44) (q := 42) dX8_takesTest_39 (by decide) rfl (rfl) ?_
  refine zx_iconst (q := 43) (v := 0) dX8_takesTest_42 (by decide) rfl ?_
  refine zx_zret dX8_takesTest_43 rfl rfl (Nat.le_refl _) (Nat.le_refl _) ⟨_, rfl, ?_⟩
  exact ⟨rfl, _, rfl, z_u_at _ _ _ _, fun k j t1 t2 t3 t4 => z_u_ne _ _ (by omega)⟩
theorem t_M_tsX3 (d : Nat) {g : Nat → Nat → Int32} {tx : Nat → Nat} {len p sg B c : Nat} {st : List Nat} (hR : zRC g tx len p st sg B) {a b q : Nat} (h1 : z_oo tx len 6 p = some a) (h2 : z_oo tx len 7 (p + 1) = some b) (h3 : z_nm tx len (p + 2) = (q, none)) : zCall l D tc A mX8_takesTest (d + 3) 0 0 [.ref 108] (zs g gl f) (zQi fun x S' => x = 0 ∧ ∃ g2, S' = zs g2 gl f ∧ g2 108 13 = nI q ∧ zFrR g g2 c B) := by
  obtain ⟨R1, R2, R3, R4, R5, R6, R7, R8⟩ := id hR
  obtain ⟨R11, R12, hp, hlen, _⟩ := id R1
  show zW l D tc A mX8_takesTest (d + 3) 0 0 0 0 0 [some (.ref 108), none, none] [] (zs g gl f) _
  refine zx_aload_n (q := 1) dX8_takesTest_0 rfl rfl rfl ?_
  refine zx_aload_n (q := 2) dX8_takesTest_1 rfl rfl rfl ?_
  refine zx_callV0i (q := 5) (y' := mX8_next) dX8_takesTest_2 ml_RX8_211 ok_mX8_next rfl (by decide) rfl (Nat.le_of_ble_eq_true rfl) (Nat.le_of_ble_eq_true rfl) (Nat.le_refl _) (Nat.le_refl _) rfl (t_M_next _ R1) ?_
  rintro _ _ ⟨rfl, rfl⟩
  refine zx_callV1i (q := 8) (y' := mX8_place) dX8_takesTest_5 ml_RX8_226 ok_mX8_place rfl (by decide) rfl (Nat.le_of_ble_eq_true rfl) (Nat.le_of_ble_eq_true rfl) (Nat.le_refl _) (Nat.le_refl _) rfl (t_M_place _ _) ?_
  rintro _ _ ⟨rfl, rfl⟩
  rw [z_plc_nt R1, h1]
  refine zx_istore1 (q := 9) dX8_takesTest_8 rfl rfl ?_
  refine zx_iload_n (q := 10) dX8_takesTest_9 rfl rfl rfl ?_
  refine zx_if_ge_t (t := 15) (q := 13) dX8_takesTest_10 (by decide) rfl (nI_pos' (by have := (z_oo_lt h1).2.2.2; omega)) ?_
  refine zx_aload_n (q := 16) dX8_takesTest_15 rfl rfl rfl ?_
  refine zx_dup (q := 17) dX8_takesTest_16 rfl rfl ?_
  refine zy_getIe (q := 20) (v := nI p) dX8_takesTest_17 fl_RX8_50 rfl rfl (R12) rfl ?_
  refine zx_iconst (q := 21) (v := 1) dX8_takesTest_20 (by decide) rfl ?_
  refine zx_iadd (q := 22) dX8_takesTest_21 rfl ?_
  rw [nI_1]
  refine zy_putI (q := 25) dX8_takesTest_22 fl_RX8_50 rfl rfl ⟨rfl, rfl⟩ rfl rfl ?_
  refine zx_aload_n (q := 26) dX8_takesTest_25 rfl rfl rfl ?_
  refine zx_callV0i (q := 29) (y' := mX8_next) dX8_takesTest_26 ml_RX8_211 ok_mX8_next rfl (by decide) rfl (Nat.le_of_ble_eq_true rfl) (Nat.le_of_ble_eq_true rfl) (Nat.le_refl _) (Nat.le_refl _) rfl (t_M_next _ (zRK_adv R1 (z_oo_p h1))) ?_
  rintro _ _ ⟨rfl, rfl⟩
  refine zx_istore2 (q := 30) dX8_takesTest_29 rfl rfl ?_
  refine zx_aload_n (q := 31) dX8_takesTest_30 rfl rfl rfl ?_
  refine zx_iload_n (q := 32) dX8_takesTest_31 rfl rfl rfl ?_
  refine zx_bipush (q := 34) (v := 60) dX8_takesTest_32 (by decide) rfl ?_
  refine zx_bipush (q := 36) (v := 62) dX8_takesTest_34 (by decide) rfl ?_
  refine zx_callV3i (q := 39) (y' := mX8_in) dX8_takesTest_36 ml_RX8_200 ok_mX8_in rfl (by decide) rfl (Nat.le_of_ble_eq_true rfl) (Nat.le_of_ble_eq_true rfl) (Nat.le_refl _) (Nat.le_refl _) rfl (t_X8_in _ _ _ _ _) ?_
  rintro _ _ ⟨rfl, rfl⟩
  rw [z_in7 (zRK_adv R1 (z_oo_p h1)), h2]
  refine zx_if_ne_t (t := 44) (q := 42) dX8_takesTest_39 (by decide) rfl (zk_t rfl) ?_
  refine zx_aload_n (q := 45) dX8_takesTest_44 rfl rfl rfl ?_
  refine zx_dup (q := 46) dX8_takesTest_45 rfl rfl ?_
  refine zy_getIe (q := 49) (v := nI (p + 1)) dX8_takesTest_46 fl_RX8_50 rfl rfl (z_u_at _ _ _ _) rfl ?_
  refine zx_iconst (q := 50) (v := 1) dX8_takesTest_49 (by decide) rfl ?_
  refine zx_iadd (q := 51) dX8_takesTest_50 rfl ?_
  rw [nI_1]
  refine zy_putI (q := 54) dX8_takesTest_51 fl_RX8_50 rfl rfl ⟨rfl, rfl⟩ rfl rfl ?_
  refine zx_aload_n (q := 55) dX8_takesTest_54 rfl rfl rfl ?_
  refine zx_callV0i (q := 58) (y' := mX8_takesNumber) dX8_takesTest_55 ml_RX8_230 ok_mX8_takesNumber rfl (by decide) rfl (Nat.le_of_ble_eq_true rfl) (Nat.le_of_ble_eq_true rfl) (Nat.le_refl _) (Nat.le_refl _) rfl (t_M_numX _ (zRK_adv (zRK_adv R1 (z_oo_p h1)) (z_oo_p h2)) (z_nm_no h3).1) ?_
  rintro _ _ ⟨rfl, rfl⟩
  refine zx_if_ne_f (t := 63) (q := 61) dX8_takesTest_58 (by decide) rfl (rfl) ?_
  refine zx_iconst (q := 62) (v := 0) dX8_takesTest_61 (by decide) rfl ?_
  refine zx_zret dX8_takesTest_62 rfl rfl (Nat.le_refl _) (Nat.le_refl _) ⟨_, rfl, ?_⟩
  exact ⟨rfl, _, rfl, by rw [z_u_at, (z_nm_no h3).2], fun k j t1 t2 t3 t4 => by rw [z_u_ne _ _ (by omega), z_u_ne _ _ (by omega)]⟩
theorem t_M_tS (d : Nat) {g : Nat → Nat → Int32} {tx : Nat → Nat} {len p sg B c : Nat} {st : List Nat} (hR : zRC g tx len p st sg B) {q t : Nat} (h : z_ts tx len p = (q, some t)) : zCall l D tc A mX8_takesTest (d + 3) 0 0 [.ref 108] (zs g gl f) (zQi fun x S' => x = 1 ∧ ∃ g2, S' = zs g2 gl f ∧ zRC g2 tx len q (z_wr st) (sg + 1 + z_wn st) B ∧ zSg g g2 sg ([nI t] ++ List.replicate (z_wn st) (-1)) ∧ zFrR g g2 c B) := by
  unfold z_ts at h
  cases h1 : z_oo tx len 6 p with
  | none => rw [h1] at h; simp at h
  | some a =>
    rw [h1] at h
    simp only [] at h
    cases h2 : z_oo tx len 7 (p + 1) with
    | none => rw [h2] at h; simp at h
    | some b =>
      rw [h2] at h
      simp only [] at h
      cases h3 : z_nm tx len (p + 2) with
      | mk q3 o3 =>
        rw [h3] at h
        cases o3 with
        | none => simp at h
        | some n =>
          simp only [Prod.mk.injEq, Option.some.injEq] at h
          obtain ⟨e1, e2⟩ := h
          subst e1; subst e2
          exact t_M_tsS d hR h1 h2 h3
theorem t_M_tX (d : Nat) {g : Nat → Nat → Int32} {tx : Nat → Nat} {len p sg B c : Nat} {st : List Nat} (hR : zRC g tx len p st sg B) {q : Nat} (h : z_ts tx len p = (q, none)) : zCall l D tc A mX8_takesTest (d + 3) 0 0 [.ref 108] (zs g gl f) (zQi fun x S' => x = 0 ∧ ∃ g2, S' = zs g2 gl f ∧ g2 108 13 = nI q ∧ zFrR g g2 c B) := by
  unfold z_ts at h
  cases h1 : z_oo tx len 6 p with
  | none =>
    rw [h1] at h
    simp only [Prod.mk.injEq] at h
    rw [← h.1]
    exact t_M_tsX1 d hR h1
  | some a =>
    rw [h1] at h
    simp only [] at h
    cases h2 : z_oo tx len 7 (p + 1) with
    | none =>
      rw [h2] at h
      simp only [Prod.mk.injEq] at h
      rw [← h.1]
      exact t_M_tsX2 d hR h1 h2
    | some b =>
      rw [h2] at h
      simp only [] at h
      cases h3 : z_nm tx len (p + 2) with
      | mk q3 o3 =>
        rw [h3] at h
        cases o3 with
        | some n => simp at h
        | none =>
          simp only [Prod.mk.injEq] at h
          rw [← h.1]
          exact t_M_tsX3 d hR h1 h2 h3
theorem lp_push (dl : Nat) {g : Nat → Nat → Int32} {tx : Nat → Nat} {len p sg B c : Nat} {st : List Nat} (hR : zRC g tx len p st sg B) {b : Nat} (hb : b = 33 ∨ b = 40) (hat : z_at tx len p b = true) (hop : zOp st < 4) (w3 : Option Value) {Q : Option Value → zw_S → Prop} (kk : zW l D tc A mX8_takesE (dl + 5) 0 0 0 0 22 [some (.ref 108), some (.int (nI c)), some (.int 1), some (.int (nI b))] [] (zs (z_psh g st b p) gl f) Q) : zW l D tc A mX8_takesE (dl + 5) 0 0 0 0 22 [some (.ref 108), some (.int (nI c)), some (.int 1), w3] [] (zs g gl f) Q := by
  obtain ⟨R1, R2, R3, R4, R5, R6, R7, R8⟩ := id hR
  obtain ⟨R11, R12, hp, hlen, _⟩ := id R1
  have hpl := z_at_p hat
  rcases hb with h | h <;> subst h
  · refine zx_aload_n (q := 23) dX8_takesE_22 rfl rfl rfl ?_
    refine zx_callV0i (q := 26) (y' := mX8_next) dX8_takesE_23 ml_RX8_211 ok_mX8_next rfl (by decide) rfl (Nat.le_of_ble_eq_true rfl) (Nat.le_of_ble_eq_true rfl) (Nat.le_refl _) (Nat.le_refl _) rfl (t_M_next _ R1) ?_
    rintro _ _ ⟨rfl, rfl⟩
    rw [(z_nt_at R1 (b := 33) (by omega)).mpr hat]
    refine zx_istore3 (q := 27) dX8_takesE_26 rfl rfl ?_
    refine zx_iload_n (q := 28) dX8_takesE_27 rfl rfl rfl ?_
    refine zx_if_eq_f (t := 110) (q := 31) dX8_takesE_28 (by decide) rfl (by decide) ?_
    refine zx_iload_n (q := 32) dX8_takesE_31 rfl rfl rfl ?_
    refine zx_bipush (q := 34) (v := 33) dX8_takesE_32 (by decide) rfl ?_
    refine zx_icmp_eq_t (t := 43) (q := 37) dX8_takesE_34 (by decide) rfl (rfl) ?_
    refine zx_aload_n (q := 44) dX8_takesE_43 rfl rfl rfl ?_
    refine zy_getIe (q := 47) (v := nI (zOp st)) dX8_takesE_44 fl_RX8_86 rfl rfl (R4) rfl ?_
    refine zx_iconst (q := 48) (v := 4) dX8_takesE_47 (by decide) rfl ?_
    refine zx_icmp_ne_t (t := 53) (q := 51) dX8_takesE_48 (by decide) rfl (fun z => by rw [show (4 : Int32) = nI 4 from rfl, nI_eq (by omega) (by omega)] at z; omega) ?_
    refine zx_aload_n (q := 54) dX8_takesE_53 rfl rfl rfl ?_
    refine zx_dup (q := 55) dX8_takesE_54 rfl rfl ?_
    refine zy_getIe (q := 58) (v := nI (zOp st)) dX8_takesE_55 fl_RX8_86 rfl rfl (R4) rfl ?_
    refine zx_iconst (q := 59) (v := 1) dX8_takesE_58 (by decide) rfl ?_
    refine zx_iadd (q := 60) dX8_takesE_59 rfl ?_
    rw [nI_1]
    refine zy_putI (q := 63) dX8_takesE_60 fl_RX8_86 rfl rfl ⟨rfl, rfl⟩ rfl rfl ?_
    refine zx_aload_n (q := 64) dX8_takesE_63 rfl rfl rfl ?_
    refine zy_getR (q := 67) dX8_takesE_64 fl_RX8_77 rfl rfl rfl rfl ?_
    refine zx_aload_n (q := 68) dX8_takesE_67 rfl rfl rfl ?_
    refine zy_getIe (q := 71) (v := nI st.length) dX8_takesE_68 fl_RX8_83 rfl rfl (by rw [z_u_ne _ _ (by omega)]; exact R3) rfl ?_
    refine zx_iload_n (q := 72) dX8_takesE_71 rfl rfl rfl ?_
    refine zy_iastN (q := 73) dX8_takesE_72 rfl (by omega) (by first | decide | omega) rfl ?_
    refine zx_aload_n (q := 74) dX8_takesE_73 rfl rfl rfl ?_
    refine zx_dup (q := 75) dX8_takesE_74 rfl rfl ?_
    refine zy_getIe (q := 78) (v := nI st.length) dX8_takesE_75 fl_RX8_83 rfl rfl (by rw [z_u_ne _ _ (by omega), z_u_ne _ _ (by omega)]; exact R3) rfl ?_
    refine zx_iconst (q := 79) (v := 1) dX8_takesE_78 (by decide) rfl ?_
    refine zx_iadd (q := 80) dX8_takesE_79 rfl ?_
    rw [nI_1]
    refine zy_putI (q := 83) dX8_takesE_80 fl_RX8_83 rfl rfl ⟨rfl, rfl⟩ rfl rfl ?_
    refine zx_aload_n (q := 84) dX8_takesE_83 rfl rfl rfl ?_
    refine zx_dup (q := 85) dX8_takesE_84 rfl rfl ?_
    refine zy_getIe (q := 88) (v := nI p) dX8_takesE_85 fl_RX8_50 rfl rfl (by rw [z_u_ne _ _ (by omega), z_u_ne _ _ (by omega), z_u_ne _ _ (by omega)]; exact R12) rfl ?_
    refine zx_iconst (q := 89) (v := 1) dX8_takesE_88 (by decide) rfl ?_
    refine zx_iadd (q := 90) dX8_takesE_89 rfl ?_
    rw [nI_1]
    refine zy_putI (q := 93) dX8_takesE_90 fl_RX8_50 rfl rfl ⟨rfl, rfl⟩ rfl rfl ?_
    refine zx_goto (t := 22) dX8_takesE_93 (by decide) ?_
    exact kk
  · refine zx_aload_n (q := 23) dX8_takesE_22 rfl rfl rfl ?_
    refine zx_callV0i (q := 26) (y' := mX8_next) dX8_takesE_23 ml_RX8_211 ok_mX8_next rfl (by decide) rfl (Nat.le_of_ble_eq_true rfl) (Nat.le_of_ble_eq_true rfl) (Nat.le_refl _) (Nat.le_refl _) rfl (t_M_next _ R1) ?_
    rintro _ _ ⟨rfl, rfl⟩
    rw [(z_nt_at R1 (b := 40) (by omega)).mpr hat]
    refine zx_istore3 (q := 27) dX8_takesE_26 rfl rfl ?_
    refine zx_iload_n (q := 28) dX8_takesE_27 rfl rfl rfl ?_
    refine zx_if_eq_f (t := 110) (q := 31) dX8_takesE_28 (by decide) rfl (by decide) ?_
    refine zx_iload_n (q := 32) dX8_takesE_31 rfl rfl rfl ?_
    refine zx_bipush (q := 34) (v := 33) dX8_takesE_32 (by decide) rfl ?_
    refine zx_icmp_eq_f (t := 43) (q := 37) dX8_takesE_34 (by decide) rfl (by decide) ?_
    refine zx_iload_n (q := 38) dX8_takesE_37 rfl rfl rfl ?_
    refine zx_bipush (q := 40) (v := 40) dX8_takesE_38 (by decide) rfl ?_
    refine zx_icmp_ne_f (t := 96) (q := 43) dX8_takesE_40 (by decide) rfl (rfl) ?_
    refine zx_aload_n (q := 44) dX8_takesE_43 rfl rfl rfl ?_
    refine zy_getIe (q := 47) (v := nI (zOp st)) dX8_takesE_44 fl_RX8_86 rfl rfl (R4) rfl ?_
    refine zx_iconst (q := 48) (v := 4) dX8_takesE_47 (by decide) rfl ?_
    refine zx_icmp_ne_t (t := 53) (q := 51) dX8_takesE_48 (by decide) rfl (fun z => by rw [show (4 : Int32) = nI 4 from rfl, nI_eq (by omega) (by omega)] at z; omega) ?_
    refine zx_aload_n (q := 54) dX8_takesE_53 rfl rfl rfl ?_
    refine zx_dup (q := 55) dX8_takesE_54 rfl rfl ?_
    refine zy_getIe (q := 58) (v := nI (zOp st)) dX8_takesE_55 fl_RX8_86 rfl rfl (R4) rfl ?_
    refine zx_iconst (q := 59) (v := 1) dX8_takesE_58 (by decide) rfl ?_
    refine zx_iadd (q := 60) dX8_takesE_59 rfl ?_
    rw [nI_1]
    refine zy_putI (q := 63) dX8_takesE_60 fl_RX8_86 rfl rfl ⟨rfl, rfl⟩ rfl rfl ?_
    refine zx_aload_n (q := 64) dX8_takesE_63 rfl rfl rfl ?_
    refine zy_getR (q := 67) dX8_takesE_64 fl_RX8_77 rfl rfl rfl rfl ?_
    refine zx_aload_n (q := 68) dX8_takesE_67 rfl rfl rfl ?_
    refine zy_getIe (q := 71) (v := nI st.length) dX8_takesE_68 fl_RX8_83 rfl rfl (by rw [z_u_ne _ _ (by omega)]; exact R3) rfl ?_
    refine zx_iload_n (q := 72) dX8_takesE_71 rfl rfl rfl ?_
    refine zy_iastN (q := 73) dX8_takesE_72 rfl (by omega) (by first | decide | omega) rfl ?_
    refine zx_aload_n (q := 74) dX8_takesE_73 rfl rfl rfl ?_
    refine zx_dup (q := 75) dX8_takesE_74 rfl rfl ?_
    refine zy_getIe (q := 78) (v := nI st.length) dX8_takesE_75 fl_RX8_83 rfl rfl (by rw [z_u_ne _ _ (by omega), z_u_ne _ _ (by omega)]; exact R3) rfl ?_
    refine zx_iconst (q := 79) (v := 1) dX8_takesE_78 (by decide) rfl ?_
    refine zx_iadd (q := 80) dX8_takesE_79 rfl ?_
    rw [nI_1]
    refine zy_putI (q := 83) dX8_takesE_80 fl_RX8_83 rfl rfl ⟨rfl, rfl⟩ rfl rfl ?_
    refine zx_aload_n (q := 84) dX8_takesE_83 rfl rfl rfl ?_
    refine zx_dup (q := 85) dX8_takesE_84 rfl rfl ?_
    refine zy_getIe (q := 88) (v := nI p) dX8_takesE_85 fl_RX8_50 rfl rfl (by rw [z_u_ne _ _ (by omega), z_u_ne _ _ (by omega), z_u_ne _ _ (by omega)]; exact R12) rfl ?_
    refine zx_iconst (q := 89) (v := 1) dX8_takesE_88 (by decide) rfl ?_
    refine zx_iadd (q := 90) dX8_takesE_89 rfl ?_
    rw [nI_1]
    refine zy_putI (q := 93) dX8_takesE_90 fl_RX8_50 rfl rfl ⟨rfl, rfl⟩ rfl rfl ?_
    refine zx_goto (t := 22) dX8_takesE_93 (by decide) ?_
    exact kk
theorem lp_oper (dl : Nat) {g : Nat → Nat → Int32} {tx : Nat → Nat} {len p sg B c : Nat} {st : List Nat} (hR : zRC g tx len p st sg B) {b : Nat} (hb : b = 38 ∨ b = 124) (hat : z_at tx len p b = true) (w3 : Option Value) {Q : Option Value → zw_S → Prop} (kk : ∀ g2, zRC g2 tx len (p + 1) (b :: z_sr b st) (sg + (z_sp b st).length) B → zSg g g2 sg (z_sp b st) → zFrR g g2 c B → zW l D tc A mX8_takesE (dl + 5) 0 0 0 0 22 [some (.ref 108), some (.int (nI c)), some (.int 1), some (.int (nI b))] [] (zs g2 gl f) Q) : zW l D tc A mX8_takesE (dl + 5) 0 0 0 0 22 [some (.ref 108), some (.int (nI c)), some (.int 0), w3] [] (zs g gl f) Q := by
  obtain ⟨R1, R2, R3, R4, R5, R6, R7, R8⟩ := id hR
  obtain ⟨R11, R12, hp, hlen, _⟩ := id R1
  have hpl := z_at_p hat
  rcases hb with h | h <;> subst h
  · refine zx_aload_n (q := 23) dX8_takesE_22 rfl rfl rfl ?_
    refine zx_callV0i (q := 26) (y' := mX8_next) dX8_takesE_23 ml_RX8_211 ok_mX8_next rfl (by decide) rfl (Nat.le_of_ble_eq_true rfl) (Nat.le_of_ble_eq_true rfl) (Nat.le_refl _) (Nat.le_refl _) rfl (t_M_next _ R1) ?_
    rintro _ _ ⟨rfl, rfl⟩
    rw [(z_nt_at R1 (b := 38) (by omega)).mpr hat]
    refine zx_istore3 (q := 27) dX8_takesE_26 rfl rfl ?_
    refine zx_iload_n (q := 28) dX8_takesE_27 rfl rfl rfl ?_
    refine zx_if_eq_t (t := 110) (q := 31) dX8_takesE_28 (by decide) rfl (rfl) ?_
    refine zx_iload_n (q := 111) dX8_takesE_110 rfl rfl rfl ?_
    refine zx_bipush (q := 113) (v := 38) dX8_takesE_111 (by decide) rfl ?_
    refine zx_icmp_eq_t (t := 122) (q := 116) dX8_takesE_113 (by decide) rfl (rfl) ?_
    refine zx_aload_n (q := 123) dX8_takesE_122 rfl rfl rfl ?_
    refine zx_iload_n (q := 124) dX8_takesE_123 rfl rfl rfl ?_
    refine zx_callV1v (q := 127) (y' := mX8_settle) dX8_takesE_124 ml_RX8_239 ok_mX8_settle rfl (by decide) rfl (Nat.le_of_ble_eq_true rfl) (Nat.le_of_ble_eq_true rfl) (Nat.le_refl _) (Nat.le_refl _) rfl (t_M_settle _ c 38 (by omega) st sg g hR) ?_
    rintro _ ⟨g2, rfl, h2, h3, h4⟩
    obtain ⟨S1, S2, S3, S4, S5, S6, S7, S8⟩ := id h2
    obtain ⟨_, S12, _, _, _⟩ := id S1
    refine zx_aload_n (q := 128) dX8_takesE_127 rfl rfl rfl ?_
    refine zy_getR (q := 131) dX8_takesE_128 fl_RX8_77 rfl rfl rfl rfl ?_
    refine zx_aload_n (q := 132) dX8_takesE_131 rfl rfl rfl ?_
    refine zy_getIe (q := 135) (v := nI (z_sr 38 st).length) dX8_takesE_132 fl_RX8_83 rfl rfl (S3) rfl ?_
    refine zx_iload_n (q := 136) dX8_takesE_135 rfl rfl rfl ?_
    refine zy_iastN (q := 137) dX8_takesE_136 rfl (by have := z_s_len 38 st; omega) (by first | decide | omega) rfl ?_
    refine zx_aload_n (q := 138) dX8_takesE_137 rfl rfl rfl ?_
    refine zx_dup (q := 139) dX8_takesE_138 rfl rfl ?_
    refine zy_getIe (q := 142) (v := nI (z_sr 38 st).length) dX8_takesE_139 fl_RX8_83 rfl rfl (by rw [z_u_ne _ _ (by omega)]; exact S3) rfl ?_
    refine zx_iconst (q := 143) (v := 1) dX8_takesE_142 (by decide) rfl ?_
    refine zx_iadd (q := 144) dX8_takesE_143 rfl ?_
    rw [nI_1]
    refine zy_putI (q := 147) dX8_takesE_144 fl_RX8_83 rfl rfl ⟨rfl, rfl⟩ rfl rfl ?_
    refine zx_iconst (q := 148) (v := 1) dX8_takesE_147 (by decide) rfl ?_
    refine zx_istore2 (q := 149) dX8_takesE_148 rfl rfl ?_
    refine zx_aload_n (q := 150) dX8_takesE_149 rfl rfl rfl ?_
    refine zx_dup (q := 151) dX8_takesE_150 rfl rfl ?_
    refine zy_getIe (q := 154) (v := nI p) dX8_takesE_151 fl_RX8_50 rfl rfl (by rw [z_u_ne _ _ (by omega), z_u_ne _ _ (by omega)]; exact S12) rfl ?_
    refine zx_iconst (q := 155) (v := 1) dX8_takesE_154 (by decide) rfl ?_
    refine zx_iadd (q := 156) dX8_takesE_155 rfl ?_
    rw [nI_1]
    refine zy_putI (q := 159) dX8_takesE_156 fl_RX8_50 rfl rfl ⟨rfl, rfl⟩ rfl rfl ?_
    refine zx_goto (t := 22) dX8_takesE_159 (by decide) ?_
    refine kk _ ⟨zRK_adv (zRK_fr S1 (fun k j z => by rw [z_u_ne _ _ (by omega), z_u_ne _ _ (by omega)])) hpl, ⟨⟨?_, by omega⟩, zSK_fr S2 (fun j hj => ?_)⟩, ?_, ?_, ?_, S6, ?_, S8⟩ (zSg_sf h3 (fun j => by rw [z_u_ne _ _ (by omega), z_u_ne _ _ (by omega), z_u_ne _ _ (by omega)])) (zFrR_tr h4 (fun k j t1 t2 t3 t4 => by rw [z_u_ne _ _ (by omega), z_u_ne _ _ (by omega), z_u_ne _ _ (by omega)]))
    · rw [z_u_ne _ _ (by omega), z_u_ne _ _ (by omega), z_u_at]
    · rw [z_u_ne _ _ (by omega), z_u_ne _ _ (by omega), z_u_ne _ _ (by omega)]
    · rw [z_u_ne _ _ (by omega), z_u_at]; rfl
    · rw [z_u_ne _ _ (by omega), z_u_ne _ _ (by omega), z_u_ne _ _ (by omega), S4, zOp, if_neg (by omega), Nat.zero_add]
    · rw [z_u_ne _ _ (by omega), z_u_ne _ _ (by omega), z_u_ne _ _ (by omega)]; exact S5
    · simp only [List.length_cons]; omega
  · refine zx_aload_n (q := 23) dX8_takesE_22 rfl rfl rfl ?_
    refine zx_callV0i (q := 26) (y' := mX8_next) dX8_takesE_23 ml_RX8_211 ok_mX8_next rfl (by decide) rfl (Nat.le_of_ble_eq_true rfl) (Nat.le_of_ble_eq_true rfl) (Nat.le_refl _) (Nat.le_refl _) rfl (t_M_next _ R1) ?_
    rintro _ _ ⟨rfl, rfl⟩
    rw [(z_nt_at R1 (b := 124) (by omega)).mpr hat]
    refine zx_istore3 (q := 27) dX8_takesE_26 rfl rfl ?_
    refine zx_iload_n (q := 28) dX8_takesE_27 rfl rfl rfl ?_
    refine zx_if_eq_t (t := 110) (q := 31) dX8_takesE_28 (by decide) rfl (rfl) ?_
    refine zx_iload_n (q := 111) dX8_takesE_110 rfl rfl rfl ?_
    refine zx_bipush (q := 113) (v := 38) dX8_takesE_111 (by decide) rfl ?_
    refine zx_icmp_eq_f (t := 122) (q := 116) dX8_takesE_113 (by decide) rfl (by decide) ?_
    refine zx_iload_n (q := 117) dX8_takesE_116 rfl rfl rfl ?_
    refine zx_bipush (q := 119) (v := 124) dX8_takesE_117 (by decide) rfl ?_
    refine zx_icmp_ne_f (t := 162) (q := 122) dX8_takesE_119 (by decide) rfl (rfl) ?_
    refine zx_aload_n (q := 123) dX8_takesE_122 rfl rfl rfl ?_
    refine zx_iload_n (q := 124) dX8_takesE_123 rfl rfl rfl ?_
    refine zx_callV1v (q := 127) (y' := mX8_settle) dX8_takesE_124 ml_RX8_239 ok_mX8_settle rfl (by decide) rfl (Nat.le_of_ble_eq_true rfl) (Nat.le_of_ble_eq_true rfl) (Nat.le_refl _) (Nat.le_refl _) rfl (t_M_settle _ c 124 (by omega) st sg g hR) ?_
    rintro _ ⟨g2, rfl, h2, h3, h4⟩
    obtain ⟨S1, S2, S3, S4, S5, S6, S7, S8⟩ := id h2
    obtain ⟨_, S12, _, _, _⟩ := id S1
    refine zx_aload_n (q := 128) dX8_takesE_127 rfl rfl rfl ?_
    refine zy_getR (q := 131) dX8_takesE_128 fl_RX8_77 rfl rfl rfl rfl ?_
    refine zx_aload_n (q := 132) dX8_takesE_131 rfl rfl rfl ?_
    refine zy_getIe (q := 135) (v := nI (z_sr 124 st).length) dX8_takesE_132 fl_RX8_83 rfl rfl (S3) rfl ?_
    refine zx_iload_n (q := 136) dX8_takesE_135 rfl rfl rfl ?_
    refine zy_iastN (q := 137) dX8_takesE_136 rfl (by have := z_s_len 124 st; omega) (by first | decide | omega) rfl ?_
    refine zx_aload_n (q := 138) dX8_takesE_137 rfl rfl rfl ?_
    refine zx_dup (q := 139) dX8_takesE_138 rfl rfl ?_
    refine zy_getIe (q := 142) (v := nI (z_sr 124 st).length) dX8_takesE_139 fl_RX8_83 rfl rfl (by rw [z_u_ne _ _ (by omega)]; exact S3) rfl ?_
    refine zx_iconst (q := 143) (v := 1) dX8_takesE_142 (by decide) rfl ?_
    refine zx_iadd (q := 144) dX8_takesE_143 rfl ?_
    rw [nI_1]
    refine zy_putI (q := 147) dX8_takesE_144 fl_RX8_83 rfl rfl ⟨rfl, rfl⟩ rfl rfl ?_
    refine zx_iconst (q := 148) (v := 1) dX8_takesE_147 (by decide) rfl ?_
    refine zx_istore2 (q := 149) dX8_takesE_148 rfl rfl ?_
    refine zx_aload_n (q := 150) dX8_takesE_149 rfl rfl rfl ?_
    refine zx_dup (q := 151) dX8_takesE_150 rfl rfl ?_
    refine zy_getIe (q := 154) (v := nI p) dX8_takesE_151 fl_RX8_50 rfl rfl (by rw [z_u_ne _ _ (by omega), z_u_ne _ _ (by omega)]; exact S12) rfl ?_
    refine zx_iconst (q := 155) (v := 1) dX8_takesE_154 (by decide) rfl ?_
    refine zx_iadd (q := 156) dX8_takesE_155 rfl ?_
    rw [nI_1]
    refine zy_putI (q := 159) dX8_takesE_156 fl_RX8_50 rfl rfl ⟨rfl, rfl⟩ rfl rfl ?_
    refine zx_goto (t := 22) dX8_takesE_159 (by decide) ?_
    refine kk _ ⟨zRK_adv (zRK_fr S1 (fun k j z => by rw [z_u_ne _ _ (by omega), z_u_ne _ _ (by omega)])) hpl, ⟨⟨?_, by omega⟩, zSK_fr S2 (fun j hj => ?_)⟩, ?_, ?_, ?_, S6, ?_, S8⟩ (zSg_sf h3 (fun j => by rw [z_u_ne _ _ (by omega), z_u_ne _ _ (by omega), z_u_ne _ _ (by omega)])) (zFrR_tr h4 (fun k j t1 t2 t3 t4 => by rw [z_u_ne _ _ (by omega), z_u_ne _ _ (by omega), z_u_ne _ _ (by omega)]))
    · rw [z_u_ne _ _ (by omega), z_u_ne _ _ (by omega), z_u_at]
    · rw [z_u_ne _ _ (by omega), z_u_ne _ _ (by omega), z_u_ne _ _ (by omega)]
    · rw [z_u_ne _ _ (by omega), z_u_at]; rfl
    · rw [z_u_ne _ _ (by omega), z_u_ne _ _ (by omega), z_u_ne _ _ (by omega), S4, zOp, if_neg (by omega), Nat.zero_add]
    · rw [z_u_ne _ _ (by omega), z_u_ne _ _ (by omega), z_u_ne _ _ (by omega)]; exact S5
    · simp only [List.length_cons]; omega
theorem lp_close (dl : Nat) {g : Nat → Nat → Int32} {tx : Nat → Nat} {len p sg B c : Nat} {st : List Nat} (hR : zRC g tx len p st sg B) (h38 : ¬ z_at tx len p 38 = true) (h124 : ¬ z_at tx len p 124 = true) (w3 : Option Value) {Q : Option Value → zw_S → Prop} (kk : ∀ g2, zRC g2 tx len p (z_sr 124 st) (sg + (z_sp 124 st).length) B → zSg g g2 sg (z_sp 124 st) → zFrR g g2 c B → zW l D tc A mX8_takesE (dl + 5) 0 0 0 0 168 [some (.ref 108), some (.int (nI c)), some (.int 0), some (.int (z_nt tx len p))] [] (zs g2 gl f) Q) : zW l D tc A mX8_takesE (dl + 5) 0 0 0 0 22 [some (.ref 108), some (.int (nI c)), some (.int 0), w3] [] (zs g gl f) Q := by
  obtain ⟨R1, R2, R3, R4, R5, R6, R7, R8⟩ := id hR
  obtain ⟨R11, R12, hp, hlen, _⟩ := id R1
  refine zx_aload_n (q := 23) dX8_takesE_22 rfl rfl rfl ?_
  refine zx_callV0i (q := 26) (y' := mX8_next) dX8_takesE_23 ml_RX8_211 ok_mX8_next rfl (by decide) rfl (Nat.le_of_ble_eq_true rfl) (Nat.le_of_ble_eq_true rfl) (Nat.le_refl _) (Nat.le_refl _) rfl (t_M_next _ R1) ?_
  rintro _ _ ⟨rfl, rfl⟩
  refine zx_istore3 (q := 27) dX8_takesE_26 rfl rfl ?_
  refine zx_iload_n (q := 28) dX8_takesE_27 rfl rfl rfl ?_
  refine zx_if_eq_t (t := 110) (q := 31) dX8_takesE_28 (by decide) rfl (rfl) ?_
  refine zx_iload_n (q := 111) dX8_takesE_110 rfl rfl rfl ?_
  refine zx_bipush (q := 113) (v := 38) dX8_takesE_111 (by decide) rfl ?_
  refine zx_icmp_eq_f (t := 122) (q := 116) dX8_takesE_113 (by decide) rfl (fun z => h38 ((z_nt_at R1 (b := 38) (by omega)).mp z)) ?_
  refine zx_iload_n (q := 117) dX8_takesE_116 rfl rfl rfl ?_
  refine zx_bipush (q := 119) (v := 124) dX8_takesE_117 (by decide) rfl ?_
  refine zx_icmp_ne_t (t := 162) (q := 122) dX8_takesE_119 (by decide) rfl (fun z => h124 ((z_nt_at R1 (b := 124) (by omega)).mp z)) ?_
  refine zx_aload_n (q := 163) dX8_takesE_162 rfl rfl rfl ?_
  refine zx_bipush (q := 165) (v := 124) dX8_takesE_163 (by decide) rfl ?_
  refine zx_callV1v (q := 168) (y' := mX8_settle) dX8_takesE_165 ml_RX8_239 ok_mX8_settle rfl (by decide) rfl (Nat.le_of_ble_eq_true rfl) (Nat.le_of_ble_eq_true rfl) (Nat.le_refl _) (Nat.le_refl _) rfl (t_M_settle _ c 124 (by omega) st sg g hR) ?_
  rintro _ ⟨g2, rfl, h2, h3, h4⟩
  exact kk g2 h2 h3 h4
theorem lp_cls5 (dl : Nat) {g : Nat → Nat → Int32} {tx : Nat → Nat} {len p sg B c : Nat} {st : List Nat} (hR : zRC g tx len p (40 :: st) sg B) (hc : c < 60) (hat : z_at tx len p 41 = true) {Q : Option Value → zw_S → Prop} (kk : ∀ g2 w3, zRC g2 tx len (p + 1) (z_wr st) (sg + z_wn st) B → zSg g g2 sg (List.replicate (z_wn st) (-1)) → zFrR g g2 c B → zW l D tc A mX8_takesE (dl + 5) 0 0 0 0 22 [some (.ref 108), some (.int (nI c)), some (.int 0), w3] [] (zs g2 gl f) Q) : zW l D tc A mX8_takesE (dl + 5) 0 0 0 0 168 [some (.ref 108), some (.int (nI c)), some (.int 0), some (.int (z_nt tx len p))] [] (zs g gl f) Q := by
  obtain ⟨R1, R2, R3, R4, R5, R6, R7, R8⟩ := id hR
  obtain ⟨R11, R12, hp, hlen, _⟩ := id R1
  simp only [List.length_cons] at R3 R7
  have hop : zOp (40 :: st) = zOp st + 1 := by rw [zOp, if_pos (by omega)]; omega
  rw [hop] at R4
  have hpl := z_at_p hat
  refine zx_aload_n (q := 169) dX8_takesE_168 rfl rfl rfl ?_
  refine zy_getR (q := 172) dX8_takesE_169 fl_RX8_71 rfl rfl rfl rfl ?_
  refine zx_iload_n (q := 173) dX8_takesE_172 rfl rfl rfl ?_
  refine zx_aload_n (q := 174) dX8_takesE_173 rfl rfl rfl ?_
  refine zy_getIe (q := 177) (v := nI sg) dX8_takesE_174 fl_RX8_80 rfl rfl (R5) rfl ?_
  refine zy_iastN (q := 178) dX8_takesE_177 rfl (by omega) (by first | decide | omega) rfl ?_
  refine zx_aload_n (q := 179) dX8_takesE_178 rfl rfl rfl ?_
  refine zy_getIe (q := 182) (v := nI (st.length + 1)) dX8_takesE_179 fl_RX8_83 rfl rfl (by rw [z_u_ne _ _ (by omega)]; exact R3) rfl ?_
  refine zx_if_ne_t (t := 187) (q := 185) dX8_takesE_182 (by decide) rfl (nI_ne0 (by omega) (by omega)) ?_
  refine zx_iload_n (q := 188) dX8_takesE_187 rfl rfl rfl ?_
  refine zx_bipush (q := 190) (v := 41) dX8_takesE_188 (by decide) rfl ?_
  refine zx_icmp_eq_t (t := 195) (q := 193) dX8_takesE_190 (by decide) rfl ((z_nt_at R1 (b := 41) (by omega)).mpr hat) ?_
  refine zx_aload_n (q := 196) dX8_takesE_195 rfl rfl rfl ?_
  refine zx_dup (q := 197) dX8_takesE_196 rfl rfl ?_
  refine zy_getIe (q := 200) (v := nI (st.length + 1)) dX8_takesE_197 fl_RX8_83 rfl rfl (by rw [z_u_ne _ _ (by omega)]; exact R3) rfl ?_
  refine zx_iconst (q := 201) (v := 1) dX8_takesE_200 (by decide) rfl ?_
  refine zx_isub (q := 202) dX8_takesE_201 rfl ?_
  rw [nI_pred]
  refine zy_putI (q := 205) dX8_takesE_202 fl_RX8_83 rfl rfl ⟨rfl, rfl⟩ rfl rfl ?_
  refine zx_aload_n (q := 206) dX8_takesE_205 rfl rfl rfl ?_
  refine zx_dup (q := 207) dX8_takesE_206 rfl rfl ?_
  refine zy_getIe (q := 210) (v := nI (zOp st + 1)) dX8_takesE_207 fl_RX8_86 rfl rfl (by rw [z_u_ne _ _ (by omega), z_u_ne _ _ (by omega)]; exact R4) rfl ?_
  refine zx_iconst (q := 211) (v := 1) dX8_takesE_210 (by decide) rfl ?_
  refine zx_isub (q := 212) dX8_takesE_211 rfl ?_
  rw [nI_pred]
  refine zy_putI (q := 215) dX8_takesE_212 fl_RX8_86 rfl rfl ⟨rfl, rfl⟩ rfl rfl ?_
  refine zx_aload_n (q := 216) dX8_takesE_215 rfl rfl rfl ?_
  refine zx_dup (q := 217) dX8_takesE_216 rfl rfl ?_
  refine zy_getIe (q := 220) (v := nI p) dX8_takesE_217 fl_RX8_50 rfl rfl (by rw [z_u_ne _ _ (by omega), z_u_ne _ _ (by omega), z_u_ne _ _ (by omega)]; exact R12) rfl ?_
  refine zx_iconst (q := 221) (v := 1) dX8_takesE_220 (by decide) rfl ?_
  refine zx_iadd (q := 222) dX8_takesE_221 rfl ?_
  rw [nI_1]
  refine zy_putI (q := 225) dX8_takesE_222 fl_RX8_50 rfl rfl ⟨rfl, rfl⟩ rfl rfl ?_
  refine zx_aload_n (q := 226) dX8_takesE_225 rfl rfl rfl ?_
  have hU : zRC (zw_u (zw_u (zw_u (zw_u g 122 c (nI sg)) 108 24 (nI st.length)) 108 25 (nI (zOp st))) 108 13 (nI (p + 1))) tx len (p + 1) st sg B := ⟨zRK_adv (zRK_fr R1 (fun k j z => by rw [z_u_ne _ _ (by omega), z_u_ne _ _ (by omega), z_u_ne _ _ (by omega)])) hpl, zSK_fr R2.2 (fun j hj => by rw [z_u_ne _ _ (by omega), z_u_ne _ _ (by omega), z_u_ne _ _ (by omega), z_u_ne _ _ (by omega)]), by rw [z_u_ne _ _ (by omega), z_u_ne _ _ (by omega), z_u_at], by rw [z_u_ne _ _ (by omega), z_u_at], by rw [z_u_ne _ _ (by omega), z_u_ne _ _ (by omega), z_u_ne _ _ (by omega), z_u_ne _ _ (by omega)]; exact R5, R6, by omega, R8⟩
  refine zx_callV0v (q := 229) (y' := mX8_whole) dX8_takesE_226 ml_RX8_233 ok_mX8_whole rfl (by decide) rfl (Nat.le_of_ble_eq_true rfl) (Nat.le_of_ble_eq_true rfl) (Nat.le_refl _) (Nat.le_refl _) rfl (t_M_whole _ c st sg _ hU) ?_
  rintro _ ⟨g2, rfl, h2, h3, h4⟩
  refine zx_goto (t := 22) dX8_takesE_229 (by decide) ?_
  exact kk g2 _ h2 (zSg_pl h3 (fun j => by rw [z_u_ne _ _ (by omega), z_u_ne _ _ (by omega), z_u_ne _ _ (by omega), z_u_ne _ _ (by omega)])) (zFrR_tr (fun k j t1 t2 t3 t4 => by rw [z_u_ne _ _ (by omega), z_u_ne _ _ (by omega), z_u_ne _ _ (by omega), z_u_ne _ _ (by omega)]) h4)
theorem lp_cls4 (dl : Nat) {g : Nat → Nat → Int32} {tx : Nat → Nat} {len p sg B c : Nat} {st : List Nat} (hR : zRC g tx len p (40 :: st) sg B) (hc : c < 60) (hat : ¬ z_at tx len p 41 = true) {Q : Option Value → zw_S → Prop} (kf : ∀ g2, g2 108 13 = nI p → zFrR g g2 c B → Q (some (.int 0)) (zs g2 gl f)) : zW l D tc A mX8_takesE (dl + 5) 0 0 0 0 168 [some (.ref 108), some (.int (nI c)), some (.int 0), some (.int (z_nt tx len p))] [] (zs g gl f) Q := by
  obtain ⟨R1, R2, R3, R4, R5, R6, R7, R8⟩ := id hR
  obtain ⟨R11, R12, hp, hlen, _⟩ := id R1
  simp only [List.length_cons] at R3 R7
  have hop : zOp (40 :: st) = zOp st + 1 := by rw [zOp, if_pos (by omega)]; omega
  rw [hop] at R4
  refine zx_aload_n (q := 169) dX8_takesE_168 rfl rfl rfl ?_
  refine zy_getR (q := 172) dX8_takesE_169 fl_RX8_71 rfl rfl rfl rfl ?_
  refine zx_iload_n (q := 173) dX8_takesE_172 rfl rfl rfl ?_
  refine zx_aload_n (q := 174) dX8_takesE_173 rfl rfl rfl ?_
  refine zy_getIe (q := 177) (v := nI sg) dX8_takesE_174 fl_RX8_80 rfl rfl (R5) rfl ?_
  refine zy_iastN (q := 178) dX8_takesE_177 rfl (by omega) (by first | decide | omega) rfl ?_
  refine zx_aload_n (q := 179) dX8_takesE_178 rfl rfl rfl ?_
  refine zy_getIe (q := 182) (v := nI (st.length + 1)) dX8_takesE_179 fl_RX8_83 rfl rfl (by rw [z_u_ne _ _ (by omega)]; exact R3) rfl ?_
  refine zx_if_ne_t (t := 187) (q := 185) dX8_takesE_182 (by decide) rfl (nI_ne0 (by omega) (by omega)) ?_
  refine zx_iload_n (q := 188) dX8_takesE_187 rfl rfl rfl ?_
  refine zx_bipush (q := 190) (v := 41) dX8_takesE_188 (by decide) rfl ?_
  refine zx_icmp_eq_f (t := 195) (q := 193) dX8_takesE_190 (by decide) rfl (fun z => hat ((z_nt_at R1 (b := 41) (by omega)).mp z)) ?_
  refine zx_iconst (q := 194) (v := 0) dX8_takesE_193 (by decide) rfl ?_
  refine zx_zret dX8_takesE_194 rfl rfl (Nat.le_refl _) (Nat.le_refl _) ?_
  exact kf _ (by rw [z_u_ne _ _ (by omega)]; exact R12) (fun k j t1 t2 t3 t4 => z_u_ne _ _ (by omega))
theorem lp_tstS (dl : Nat) {g : Nat → Nat → Int32} {tx : Nat → Nat} {len p sg B c : Nat} {st : List Nat} (hR : zRC g tx len p st sg B) (hx : ¬ z_at tx len p 33 = true) (hy : ¬ z_at tx len p 40 = true) {q t : Nat} (h : z_ts tx len p = (q, some t)) (w3 : Option Value) {Q : Option Value → zw_S → Prop} (kk : ∀ g2 w3, zRC g2 tx len q (z_wr st) (sg + 1 + z_wn st) B → zSg g g2 sg ([nI t] ++ List.replicate (z_wn st) (-1)) → zFrR g g2 c B → zW l D tc A mX8_takesE (dl + 5) 0 0 0 0 22 [some (.ref 108), some (.int (nI c)), some (.int 0), w3] [] (zs g2 gl f) Q) : zW l D tc A mX8_takesE (dl + 5) 0 0 0 0 22 [some (.ref 108), some (.int (nI c)), some (.int 1), w3] [] (zs g gl f) Q := by
  obtain ⟨R1, R2, R3, R4, R5, R6, R7, R8⟩ := id hR
  obtain ⟨R11, R12, hp, hlen, _⟩ := id R1
  refine zx_aload_n (q := 23) dX8_takesE_22 rfl rfl rfl ?_
  refine zx_callV0i (q := 26) (y' := mX8_next) dX8_takesE_23 ml_RX8_211 ok_mX8_next rfl (by decide) rfl (Nat.le_of_ble_eq_true rfl) (Nat.le_of_ble_eq_true rfl) (Nat.le_refl _) (Nat.le_refl _) rfl (t_M_next _ R1) ?_
  rintro _ _ ⟨rfl, rfl⟩
  refine zx_istore3 (q := 27) dX8_takesE_26 rfl rfl ?_
  refine zx_iload_n (q := 28) dX8_takesE_27 rfl rfl rfl ?_
  refine zx_if_eq_f (t := 110) (q := 31) dX8_takesE_28 (by decide) rfl (by decide) ?_
  refine zx_iload_n (q := 32) dX8_takesE_31 rfl rfl rfl ?_
  refine zx_bipush (q := 34) (v := 33) dX8_takesE_32 (by decide) rfl ?_
  refine zx_icmp_eq_f (t := 43) (q := 37) dX8_takesE_34 (by decide) rfl (fun z => hx ((z_nt_at R1 (b := 33) (by omega)).mp z)) ?_
  refine zx_iload_n (q := 38) dX8_takesE_37 rfl rfl rfl ?_
  refine zx_bipush (q := 40) (v := 40) dX8_takesE_38 (by decide) rfl ?_
  refine zx_icmp_ne_t (t := 96) (q := 43) dX8_takesE_40 (by decide) rfl (fun z => hy ((z_nt_at R1 (b := 40) (by omega)).mp z)) ?_
  refine zx_aload_n (q := 97) dX8_takesE_96 rfl rfl rfl ?_
  refine zx_callV0i (q := 100) (y' := mX8_takesTest) dX8_takesE_97 ml_RX8_236 ok_mX8_takesTest rfl (by decide) rfl (Nat.le_of_ble_eq_true rfl) (Nat.le_of_ble_eq_true rfl) (Nat.le_refl _) (Nat.le_refl _) rfl (t_M_tS _ (c := c) hR h) ?_
  rintro _ _ ⟨rfl, g2, rfl, h2, h3, h4⟩
  refine zx_if_eq_f (t := 108) (q := 103) dX8_takesE_100 (by decide) rfl (by decide) ?_
  refine zx_iconst (q := 104) (v := 0) dX8_takesE_103 (by decide) rfl ?_
  refine zx_istore2 (q := 105) dX8_takesE_104 rfl rfl ?_
  refine zx_goto (t := 22) dX8_takesE_105 (by decide) ?_
  exact kk g2 _ h2 h3 h4
theorem lp_tstX (dl : Nat) {g : Nat → Nat → Int32} {tx : Nat → Nat} {len p sg B c : Nat} {st : List Nat} (hR : zRC g tx len p st sg B) (hx : ¬ z_at tx len p 33 = true) (hy : ¬ z_at tx len p 40 = true) {q : Nat} (h : z_ts tx len p = (q, none)) (w3 : Option Value) {Q : Option Value → zw_S → Prop} (kf : ∀ g2, g2 108 13 = nI q → zFrR g g2 c B → Q (some (.int 0)) (zs g2 gl f)) : zW l D tc A mX8_takesE (dl + 5) 0 0 0 0 22 [some (.ref 108), some (.int (nI c)), some (.int 1), w3] [] (zs g gl f) Q := by
  obtain ⟨R1, R2, R3, R4, R5, R6, R7, R8⟩ := id hR
  obtain ⟨R11, R12, hp, hlen, _⟩ := id R1
  refine zx_aload_n (q := 23) dX8_takesE_22 rfl rfl rfl ?_
  refine zx_callV0i (q := 26) (y' := mX8_next) dX8_takesE_23 ml_RX8_211 ok_mX8_next rfl (by decide) rfl (Nat.le_of_ble_eq_true rfl) (Nat.le_of_ble_eq_true rfl) (Nat.le_refl _) (Nat.le_refl _) rfl (t_M_next _ R1) ?_
  rintro _ _ ⟨rfl, rfl⟩
  refine zx_istore3 (q := 27) dX8_takesE_26 rfl rfl ?_
  refine zx_iload_n (q := 28) dX8_takesE_27 rfl rfl rfl ?_
  refine zx_if_eq_f (t := 110) (q := 31) dX8_takesE_28 (by decide) rfl (by decide) ?_
  refine zx_iload_n (q := 32) dX8_takesE_31 rfl rfl rfl ?_
  refine zx_bipush (q := 34) (v := 33) dX8_takesE_32 (by decide) rfl ?_
  refine zx_icmp_eq_f (t := 43) (q := 37) dX8_takesE_34 (by decide) rfl (fun z => hx ((z_nt_at R1 (b := 33) (by omega)).mp z)) ?_
  refine zx_iload_n (q := 38) dX8_takesE_37 rfl rfl rfl ?_
  refine zx_bipush (q := 40) (v := 40) dX8_takesE_38 (by decide) rfl ?_
  refine zx_icmp_ne_t (t := 96) (q := 43) dX8_takesE_40 (by decide) rfl (fun z => hy ((z_nt_at R1 (b := 40) (by omega)).mp z)) ?_
  refine zx_aload_n (q := 97) dX8_takesE_96 rfl rfl rfl ?_
  refine zx_callV0i (q := 100) (y' := mX8_takesTest) dX8_takesE_97 ml_RX8_236 ok_mX8_takesTest rfl (by decide) rfl (Nat.le_of_ble_eq_true rfl) (Nat.le_of_ble_eq_true rfl) (Nat.le_refl _) (Nat.le_refl _) rfl (t_M_tX _ (c := c) hR h) ?_
  rintro _ _ ⟨rfl, g2, rfl, h2, h4⟩
  refine zx_if_eq_t (t := 108) (q := 103) dX8_takesE_100 (by decide) rfl (rfl) ?_
  refine zx_iconst (q := 109) (v := 0) dX8_takesE_108 (by decide) rfl ?_
  refine zx_zret dX8_takesE_109 rfl rfl (Nat.le_refl _) (Nat.le_refl _) ?_
  exact kf g2 h2 h4
theorem lp_full (dl : Nat) {g : Nat → Nat → Int32} {tx : Nat → Nat} {len p sg B c : Nat} {st : List Nat} (hR : zRC g tx len p st sg B) {b : Nat} (hb : b = 33 ∨ b = 40) (hat : z_at tx len p b = true) (hop : zOp st = 4) (w3 : Option Value) {Q : Option Value → zw_S → Prop} (kf : ∀ g2, g2 108 13 = nI p → zFrR g g2 c B → Q (some (.int 0)) (zs g2 gl f)) : zW l D tc A mX8_takesE (dl + 5) 0 0 0 0 22 [some (.ref 108), some (.int (nI c)), some (.int 1), w3] [] (zs g gl f) Q := by
  obtain ⟨R1, R2, R3, R4, R5, R6, R7, R8⟩ := id hR
  obtain ⟨R11, R12, hp, hlen, _⟩ := id R1
  rcases hb with h | h <;> subst h
  · refine zx_aload_n (q := 23) dX8_takesE_22 rfl rfl rfl ?_
    refine zx_callV0i (q := 26) (y' := mX8_next) dX8_takesE_23 ml_RX8_211 ok_mX8_next rfl (by decide) rfl (Nat.le_of_ble_eq_true rfl) (Nat.le_of_ble_eq_true rfl) (Nat.le_refl _) (Nat.le_refl _) rfl (t_M_next _ R1) ?_
    rintro _ _ ⟨rfl, rfl⟩
    rw [(z_nt_at R1 (b := 33) (by omega)).mpr hat]
    refine zx_istore3 (q := 27) dX8_takesE_26 rfl rfl ?_
    refine zx_iload_n (q := 28) dX8_takesE_27 rfl rfl rfl ?_
    refine zx_if_eq_f (t := 110) (q := 31) dX8_takesE_28 (by decide) rfl (by decide) ?_
    refine zx_iload_n (q := 32) dX8_takesE_31 rfl rfl rfl ?_
    refine zx_bipush (q := 34) (v := 33) dX8_takesE_32 (by decide) rfl ?_
    refine zx_icmp_eq_t (t := 43) (q := 37) dX8_takesE_34 (by decide) rfl (rfl) ?_
    refine zx_aload_n (q := 44) dX8_takesE_43 rfl rfl rfl ?_
    refine zy_getIe (q := 47) (v := 4) dX8_takesE_44 fl_RX8_86 rfl rfl (by rw [R4, hop]; rfl) rfl ?_
    refine zx_iconst (q := 48) (v := 4) dX8_takesE_47 (by decide) rfl ?_
    refine zx_icmp_ne_f (t := 53) (q := 51) dX8_takesE_48 (by decide) rfl (rfl) ?_
    refine zx_iconst (q := 52) (v := 0) dX8_takesE_51 (by decide) rfl ?_
    refine zx_zret dX8_takesE_52 rfl rfl (Nat.le_refl _) (Nat.le_refl _) ?_
    exact kf g R12 zFrR_rf
  · refine zx_aload_n (q := 23) dX8_takesE_22 rfl rfl rfl ?_
    refine zx_callV0i (q := 26) (y' := mX8_next) dX8_takesE_23 ml_RX8_211 ok_mX8_next rfl (by decide) rfl (Nat.le_of_ble_eq_true rfl) (Nat.le_of_ble_eq_true rfl) (Nat.le_refl _) (Nat.le_refl _) rfl (t_M_next _ R1) ?_
    rintro _ _ ⟨rfl, rfl⟩
    rw [(z_nt_at R1 (b := 40) (by omega)).mpr hat]
    refine zx_istore3 (q := 27) dX8_takesE_26 rfl rfl ?_
    refine zx_iload_n (q := 28) dX8_takesE_27 rfl rfl rfl ?_
    refine zx_if_eq_f (t := 110) (q := 31) dX8_takesE_28 (by decide) rfl (by decide) ?_
    refine zx_iload_n (q := 32) dX8_takesE_31 rfl rfl rfl ?_
    refine zx_bipush (q := 34) (v := 33) dX8_takesE_32 (by decide) rfl ?_
    refine zx_icmp_eq_f (t := 43) (q := 37) dX8_takesE_34 (by decide) rfl (by decide) ?_
    refine zx_iload_n (q := 38) dX8_takesE_37 rfl rfl rfl ?_
    refine zx_bipush (q := 40) (v := 40) dX8_takesE_38 (by decide) rfl ?_
    refine zx_icmp_ne_f (t := 96) (q := 43) dX8_takesE_40 (by decide) rfl (rfl) ?_
    refine zx_aload_n (q := 44) dX8_takesE_43 rfl rfl rfl ?_
    refine zy_getIe (q := 47) (v := 4) dX8_takesE_44 fl_RX8_86 rfl rfl (by rw [R4, hop]; rfl) rfl ?_
    refine zx_iconst (q := 48) (v := 4) dX8_takesE_47 (by decide) rfl ?_
    refine zx_icmp_ne_f (t := 53) (q := 51) dX8_takesE_48 (by decide) rfl (rfl) ?_
    refine zx_iconst (q := 52) (v := 0) dX8_takesE_51 (by decide) rfl ?_
    refine zx_zret dX8_takesE_52 rfl rfl (Nat.le_refl _) (Nat.le_refl _) ?_
    exact kf g R12 zFrR_rf
def zM0x (l : Launch) (D : va_G) (tc : Nat → ClassId) (A : Nat → Prop) (gl : Nat → Nat → Int64) (f : Option Nat) (tx : Nat → Nat) (len dl c B : Nat) (d p q : Nat) : Prop := ∀ (Q : Option Value → zw_S → Prop) (g : Nat → Nat → Int32) (st : List Nat) (sg : Nat) (w3 : Option Value), zRC g tx len p st sg B → zOp st = d → d ≤ 4 → (∀ g2, g2 108 13 = nI q → zFrR g g2 c B → Q (some (.int 0)) (zs g2 gl f)) → zW l D tc A mX8_takesE (dl + 5) 0 0 0 0 22 [some (.ref 108), some (.int (nI c)), some (.int 1), w3] [] (zs g gl f) Q
def zM0s (l : Launch) (D : va_G) (tc : Nat → ClassId) (A : Nat → Prop) (gl : Nat → Nat → Int64) (f : Option Nat) (tx : Nat → Nat) (len dl c B : Nat) (d p q : Nat) (cs : List Int32) : Prop := ∀ (Q : Option Value → zw_S → Prop) (g : Nat → Nat → Int32) (st : List Nat) (sg : Nat) (w3 : Option Value), zRC g tx len p st sg B → zOp st = d → d ≤ 4 → (∀ g2 w3, zRC g2 tx len q (z_wr st) (sg + cs.length + z_wn st) B → zSg g g2 sg (cs ++ List.replicate (z_wn st) (-1)) → zFrR g g2 c B → zW l D tc A mX8_takesE (dl + 5) 0 0 0 0 22 [some (.ref 108), some (.int (nI c)), some (.int 0), w3] [] (zs g2 gl f) Q) → zW l D tc A mX8_takesE (dl + 5) 0 0 0 0 22 [some (.ref 108), some (.int (nI c)), some (.int 1), w3] [] (zs g gl f) Q
def zM0 (l : Launch) (D : va_G) (tc : Nat → ClassId) (A : Nat → Prop) (gl : Nat → Nat → Int64) (f : Option Nat) (tx : Nat → Nat) (len dl c B : Nat) (d p q : Nat) : Option (List Int32) → Prop
  | none => zM0x l D tc A gl f tx len dl c B d p q
  | some cs => zM0s l D tc A gl f tx len dl c B d p q cs
def zM1x (l : Launch) (D : va_G) (tc : Nat → ClassId) (A : Nat → Prop) (gl : Nat → Nat → Int64) (f : Option Nat) (tx : Nat → Nat) (len dl c B : Nat) (d p q : Nat) : Prop := ∀ (Q : Option Value → zw_S → Prop) (g : Nat → Nat → Int32) (st : List Nat) (sg : Nat) (w3 : Option Value), zRC g tx len p st sg B → zOp st = d → d ≤ 4 → zCn st → (∀ g2, g2 108 13 = nI q → zFrR g g2 c B → Q (some (.int 0)) (zs g2 gl f)) → zW l D tc A mX8_takesE (dl + 5) 0 0 0 0 22 [some (.ref 108), some (.int (nI c)), some (.int 1), w3] [] (zs g gl f) Q
def zM1s (l : Launch) (D : va_G) (tc : Nat → ClassId) (A : Nat → Prop) (gl : Nat → Nat → Int64) (f : Option Nat) (tx : Nat → Nat) (len dl c B : Nat) (d p q : Nat) (cs : List Int32) : Prop := ∀ (Q : Option Value → zw_S → Prop) (g : Nat → Nat → Int32) (st : List Nat) (sg : Nat) (w3 : Option Value), zRC g tx len p st sg B → zOp st = d → d ≤ 4 → zCn st → (∀ g2, zRC g2 tx len q st (sg + cs.length) B → zSg g g2 sg cs → zFrR g g2 c B → zW l D tc A mX8_takesE (dl + 5) 0 0 0 0 168 [some (.ref 108), some (.int (nI c)), some (.int 0), some (.int (z_nt tx len q))] [] (zs g2 gl f) Q) → zW l D tc A mX8_takesE (dl + 5) 0 0 0 0 22 [some (.ref 108), some (.int (nI c)), some (.int 1), w3] [] (zs g gl f) Q
def zM1 (l : Launch) (D : va_G) (tc : Nat → ClassId) (A : Nat → Prop) (gl : Nat → Nat → Int64) (f : Option Nat) (tx : Nat → Nat) (len dl c B : Nat) (d p q : Nat) : Option (List Int32) → Prop
  | none => zM1x l D tc A gl f tx len dl c B d p q
  | some cs => zM1s l D tc A gl f tx len dl c B d p q cs
def zM2x (l : Launch) (D : va_G) (tc : Nat → ClassId) (A : Nat → Prop) (gl : Nat → Nat → Int64) (f : Option Nat) (tx : Nat → Nat) (len dl c B : Nat) (d p q : Nat) : Prop := ∀ (Q : Option Value → zw_S → Prop) (g : Nat → Nat → Int32) (st : List Nat) (a : Bool) (sg : Nat) (w3 : Option Value), zRC g tx len p (z_pa a st) sg B → zOp st = d → d ≤ 4 → zCm st → (∀ g2, g2 108 13 = nI q → zFrR g g2 c B → Q (some (.int 0)) (zs g2 gl f)) → zW l D tc A mX8_takesE (dl + 5) 0 0 0 0 22 [some (.ref 108), some (.int (nI c)), some (.int 0), w3] [] (zs g gl f) Q
def zM2s (l : Launch) (D : va_G) (tc : Nat → ClassId) (A : Nat → Prop) (gl : Nat → Nat → Int64) (f : Option Nat) (tx : Nat → Nat) (len dl c B : Nat) (d p q : Nat) (cs : List Int32) : Prop := ∀ (Q : Option Value → zw_S → Prop) (g : Nat → Nat → Int32) (st : List Nat) (a : Bool) (sg : Nat) (w3 : Option Value), zRC g tx len p (z_pa a st) sg B → zOp st = d → d ≤ 4 → zCm st → (∀ g2 a' em w3, em ++ z_pd a' = z_pd a ++ cs → zRC g2 tx len q (z_pa a' st) (sg + em.length) B → zSg g g2 sg em → ¬ z_at tx len q 38 = true → zFrR g g2 c B → zW l D tc A mX8_takesE (dl + 5) 0 0 0 0 22 [some (.ref 108), some (.int (nI c)), some (.int 0), w3] [] (zs g2 gl f) Q) → zW l D tc A mX8_takesE (dl + 5) 0 0 0 0 22 [some (.ref 108), some (.int (nI c)), some (.int 0), w3] [] (zs g gl f) Q
def zM2 (l : Launch) (D : va_G) (tc : Nat → ClassId) (A : Nat → Prop) (gl : Nat → Nat → Int64) (f : Option Nat) (tx : Nat → Nat) (len dl c B : Nat) (d p q : Nat) : Option (List Int32) → Prop
  | none => zM2x l D tc A gl f tx len dl c B d p q
  | some cs => zM2s l D tc A gl f tx len dl c B d p q cs
def zM3x (l : Launch) (D : va_G) (tc : Nat → ClassId) (A : Nat → Prop) (gl : Nat → Nat → Int64) (f : Option Nat) (tx : Nat → Nat) (len dl c B : Nat) (d p q : Nat) : Prop := ∀ (Q : Option Value → zw_S → Prop) (g : Nat → Nat → Int32) (st : List Nat) (a o : Bool) (sg : Nat) (w3 : Option Value), zRC g tx len p (z_pa a (z_po o st)) sg B → zOp st = d → d ≤ 4 → zCn st → ¬ z_at tx len p 38 = true → (∀ g2, g2 108 13 = nI q → zFrR g g2 c B → Q (some (.int 0)) (zs g2 gl f)) → zW l D tc A mX8_takesE (dl + 5) 0 0 0 0 22 [some (.ref 108), some (.int (nI c)), some (.int 0), w3] [] (zs g gl f) Q
def zM3s (l : Launch) (D : va_G) (tc : Nat → ClassId) (A : Nat → Prop) (gl : Nat → Nat → Int64) (f : Option Nat) (tx : Nat → Nat) (len dl c B : Nat) (d p q : Nat) (cs : List Int32) : Prop := ∀ (Q : Option Value → zw_S → Prop) (g : Nat → Nat → Int32) (st : List Nat) (a o : Bool) (sg : Nat) (w3 : Option Value), zRC g tx len p (z_pa a (z_po o st)) sg B → zOp st = d → d ≤ 4 → zCn st → ¬ z_at tx len p 38 = true → (∀ g2, zRC g2 tx len q st (sg + ((z_pd a ++ z_pe o) ++ cs).length) B → zSg g g2 sg ((z_pd a ++ z_pe o) ++ cs) → zFrR g g2 c B → zW l D tc A mX8_takesE (dl + 5) 0 0 0 0 168 [some (.ref 108), some (.int (nI c)), some (.int 0), some (.int (z_nt tx len q))] [] (zs g2 gl f) Q) → zW l D tc A mX8_takesE (dl + 5) 0 0 0 0 22 [some (.ref 108), some (.int (nI c)), some (.int 0), w3] [] (zs g gl f) Q
def zM3 (l : Launch) (D : va_G) (tc : Nat → ClassId) (A : Nat → Prop) (gl : Nat → Nat → Int64) (f : Option Nat) (tx : Nat → Nat) (len dl c B : Nat) (d p q : Nat) : Option (List Int32) → Prop
  | none => zM3x l D tc A gl f tx len dl c B d p q
  | some cs => zM3s l D tc A gl f tx len dl c B d p q cs
def zMM (l : Launch) (D : va_G) (tc : Nat → ClassId) (A : Nat → Prop) (gl : Nat → Nat → Int64) (f : Option Nat) (tx : Nat → Nat) (len dl c B : Nat) : Nat → Nat → Nat → Nat → Option (List Int32) → Prop := fun m => match m with
  | 0 => zM0 l D tc A gl f tx len dl c B
  | 1 => zM1 l D tc A gl f tx len dl c B
  | 2 => zM2 l D tc A gl f tx len dl c B
  | _ => zM3 l D tc A gl f tx len dl c B
theorem z_ts_33 {tx : Nat → Nat} {len p q : Nat} {r : Option Nat} (h : z_at tx len p 33 = true ∨ z_at tx len p 40 = true) (e : z_ts tx len p = (q, r)) : q = p := by
  have h1 : z_oo tx len 6 p = none := by
    unfold z_oo
    split
    · rcases h with h | h <;> simp only [z_at, Bool.and_eq_true, decide_eq_true_eq] at h <;> rw [h.2] <;> decide
    · rfl
  unfold z_ts at e
  rw [h1] at e
  simp only [Prod.mk.injEq] at e
  exact e.1.symm
theorem z_ts_no {tx : Nat → Nat} {len p q t : Nat} (e : z_ts tx len p = (q, some t)) : ¬ z_at tx len p 33 = true ∧ ¬ z_at tx len p 40 = true := by
  have key : ¬ (z_at tx len p 33 = true ∨ z_at tx len p 40 = true) := by
    intro h
    have h1 : z_oo tx len 6 p = none := by
      unfold z_oo
      split
      · rcases h with h | h <;> simp only [z_at, Bool.and_eq_true, decide_eq_true_eq] at h <;> rw [h.2] <;> decide
      · rfl
    unfold z_ts at e
    rw [h1] at e
    simp at e
  exact ⟨fun z => key (Or.inl z), fun z => key (Or.inr z)⟩
theorem zMM_1 {tx : Nat → Nat} {len dl c B : Nat} (hc : c < 60) : z_ru1 tx len (zMM l D tc A gl f tx len dl c B) := by
  intro d p q h0 h1 ih Q g st sg w3 hR hop hd kf
  exact lp_push dl hR (Or.inl rfl) h1 (by omega) w3 (ih Q _ (33 :: st) sg _ (z_psh_ok hR (z_at_p h1) (Or.inl rfl)) (by rw [zOp, if_pos (by omega), hop]; omega) (by omega) (fun g2 a1 a2 => kf g2 a1 (zFrR_tr z_psh_fr a2)))
theorem zMM_2 {tx : Nat → Nat} {len dl c B : Nat} (hc : c < 60) : z_ru2 tx len (zMM l D tc A gl f tx len dl c B) := by
  intro d p q c1 h0 h1 ih Q g st sg w3 hR hop hd kk
  refine lp_push dl hR (Or.inl rfl) h1 (by omega) w3 (ih Q _ (33 :: st) sg _ (z_psh_ok hR (z_at_p h1) (Or.inl rfl)) (by rw [zOp, if_pos (by omega), hop]; omega) (by omega) (fun g2 w4 a1 a2 a3 => ?_))
  rw [z_wr, if_pos rfl, z_wn, if_pos rfl] at a1
  rw [z_wn, if_pos rfl, z_rep] at a2
  refine kk g2 w4 ?_ (zSg_pl a2 z_psh_s) (zFrR_tr z_psh_fr a3)
  rw [List.length_append, List.length_singleton, show sg + (c1.length + 1) + z_wn st = sg + c1.length + (z_wn st + 1) by omega]
  exact a1
theorem zMM_3 {tx : Nat → Nat} {len dl c B : Nat} (hc : c < 60) : z_ru3 tx len (zMM l D tc A gl f tx len dl c B) := by
  intro d p q h0 h1 ih Q g st sg w3 hR hop hd kf
  exact lp_push dl hR (Or.inr rfl) h1 (by omega) w3 (ih Q _ (40 :: st) sg _ (z_psh_ok hR (z_at_p h1) (Or.inr rfl)) (by rw [zOp, if_pos (by omega), hop]; omega) (by omega) (Or.inr ⟨st, rfl⟩) (fun g2 a1 a2 => kf g2 a1 (zFrR_tr z_psh_fr a2)))
theorem zMM_4 {tx : Nat → Nat} {len dl c B : Nat} (hc : c < 60) : z_ru4 tx len (zMM l D tc A gl f tx len dl c B) := by
  intro d p q c1 h0 h1 ih h3 Q g st sg w3 hR hop hd kf
  exact lp_push dl hR (Or.inr rfl) h1 (by omega) w3 (ih Q _ (40 :: st) sg _ (z_psh_ok hR (z_at_p h1) (Or.inr rfl)) (by rw [zOp, if_pos (by omega), hop]; omega) (by omega) (Or.inr ⟨st, rfl⟩) (fun g2 a1 a2 a3 => lp_cls4 dl a1 hc h3 (fun g3 b1 b2 => kf g3 b1 (zFrR_tr z_psh_fr (zFrR_tr a3 b2)))))
theorem zMM_5 {tx : Nat → Nat} {len dl c B : Nat} (hc : c < 60) : z_ru5 tx len (zMM l D tc A gl f tx len dl c B) := by
  intro d p q c1 h0 h1 ih h3 Q g st sg w3 hR hop hd kk
  exact lp_push dl hR (Or.inr rfl) h1 (by omega) w3 (ih Q _ (40 :: st) sg _ (z_psh_ok hR (z_at_p h1) (Or.inr rfl)) (by rw [zOp, if_pos (by omega), hop]; omega) (by omega) (Or.inr ⟨st, rfl⟩) (fun g2 a1 a2 a3 => lp_cls5 dl a1 hc h3 (fun g3 w4 b1 b2 b3 => kk g3 w4 b1 (zSg_app (zSg_pl a2 z_psh_s) b2) (zFrR_tr z_psh_fr (zFrR_tr a3 b3)))))
theorem zMM_6 {tx : Nat → Nat} {len dl c B : Nat} (hc : c < 60) : z_ru6 tx len (zMM l D tc A gl f tx len dl c B) := by
  intro d p q h0 h1 Q g st sg w3 hR hop hd kf
  by_cases hx : z_at tx len p 33 = true
  · have hq : q = p := z_ts_33 (Or.inl hx) h1
    subst hq
    exact lp_full dl hR (Or.inl rfl) hx (by rw [hop]; apply Classical.byContradiction; intro hh; exact h0 ⟨by omega, Or.inl hx⟩) w3 kf
  · by_cases hy : z_at tx len p 40 = true
    · have hq : q = p := z_ts_33 (Or.inr hy) h1
      subst hq
      exact lp_full dl hR (Or.inr rfl) hy (by rw [hop]; apply Classical.byContradiction; intro hh; exact h0 ⟨by omega, Or.inr hy⟩) w3 kf
    · exact lp_tstX dl hR hx hy h1 w3 kf
theorem zMM_7 {tx : Nat → Nat} {len dl c B : Nat} (hc : c < 60) : z_ru7 tx len (zMM l D tc A gl f tx len dl c B) := by
  intro d p q t h0 h1 Q g st sg w3 hR hop hd kk
  have hno := z_ts_no h1
  exact lp_tstS dl hR hno.1 hno.2 h1 w3 kk
theorem zMM_8 {tx : Nat → Nat} {len dl c B : Nat} (hc : c < 60) : z_ru8 tx len (zMM l D tc A gl f tx len dl c B) := by
  intro d p q ih Q g st sg w3 hR hop hd hcn kf
  exact ih Q g st sg w3 hR hop hd kf
theorem zMM_9 {tx : Nat → Nat} {len dl c B : Nat} (hc : c < 60) : z_ru9 tx len (zMM l D tc A gl f tx len dl c B) := by
  intro d p q q2 c1 ih0 ih1 Q g st sg w3 hR hop hd hcn kf
  have hw := z_cn_w hcn
  refine ih0 Q g st sg w3 hR hop hd (fun g2 w4 a1 a2 a3 => ?_)
  rw [hw.1, hw.2, Nat.add_zero] at a1
  rw [hw.1, List.replicate_zero, List.append_nil] at a2
  exact ih1 Q g2 st false _ w4 a1 hop hd (Or.inl hcn) (fun g3 b1 b2 => kf g3 b1 (zFrR_tr a3 b2))
theorem zMM_10 {tx : Nat → Nat} {len dl c B : Nat} (hc : c < 60) : z_ru10 tx len (zMM l D tc A gl f tx len dl c B) := by
  intro d p q q2 q3 c1 c2 ih0 ih1 ih2 Q g st sg w3 hR hop hd hcn kf
  have hw := z_cn_w hcn
  refine ih0 Q g st sg w3 hR hop hd (fun g2 w4 a1 a2 a3 => ?_)
  rw [hw.1, hw.2, Nat.add_zero] at a1
  rw [hw.1, List.replicate_zero, List.append_nil] at a2
  refine ih1 Q g2 st false _ w4 a1 hop hd (Or.inl hcn) (fun g3 a' em w5 b1 b2 b3 b4 b5 => ?_)
  exact ih2 Q g3 st a' false _ w5 b2 hop hd hcn b4 (fun g4 d1 d2 => kf g4 d1 (zFrR_tr a3 (zFrR_tr b5 d2)))
theorem zMM_11 {tx : Nat → Nat} {len dl c B : Nat} (hc : c < 60) : z_ru11 tx len (zMM l D tc A gl f tx len dl c B) := by
  intro d p q q2 q3 c1 c2 c3 ih0 ih1 ih2 Q g st sg w3 hR hop hd hcn kk
  have hw := z_cn_w hcn
  refine ih0 Q g st sg w3 hR hop hd (fun g2 w4 a1 a2 a3 => ?_)
  rw [hw.1, hw.2, Nat.add_zero] at a1
  rw [hw.1, List.replicate_zero, List.append_nil] at a2
  refine ih1 Q g2 st false _ w4 a1 hop hd (Or.inl hcn) (fun g3 a' em w5 b1 b2 b3 b4 b5 => ?_)
  refine ih2 Q g3 st a' false _ w5 b2 hop hd hcn b4 (fun g4 d1 d2 d3 => ?_)
  have e1 : em ++ ((z_pd a' ++ z_pe false) ++ c3) = c2 ++ c3 := by rw [show z_pe false = [] from rfl, List.append_nil, ← List.append_assoc, b1]; rfl
  have e2 := zSg_app a2 (zSg_app b3 d2)
  rw [e1] at e2
  refine kk g4 ?_ e2 (zFrR_tr a3 (zFrR_tr b5 d3))
  have e3 : sg + (c1 ++ (c2 ++ c3)).length = sg + c1.length + em.length + ((z_pd a' ++ z_pe false) ++ c3).length := by rw [List.length_append, ← e1, List.length_append]; omega
  rw [e3]
  exact d1
theorem zMM_12 {tx : Nat → Nat} {len dl c B : Nat} (hc : c < 60) : z_ru12 tx len (zMM l D tc A gl f tx len dl c B) := by
  intro d p h0 Q g st a sg w3 hR hop hd hcm kk
  exact kk g a [] w3 (by rw [List.append_nil]; rfl) hR (zSg_nil (fun _ _ => rfl)) h0 zFrR_rf
theorem zMM_13 {tx : Nat → Nat} {len dl c B : Nat} (hc : c < 60) : z_ru13 tx len (zMM l D tc A gl f tx len dl c B) := by
  intro d p q h0 ih0 Q g st a sg w3 hR hop hd hcm kf
  have hs := z_s38 hcm a
  refine lp_oper dl hR (Or.inl rfl) h0 w3 (fun g2 a1 a2 a3 => ?_)
  rw [hs.1, hs.2] at a1
  rw [hs.2] at a2
  have hop2 : zOp (38 :: st) = d := by rw [zOp, if_neg (by omega), hop, Nat.zero_add]
  exact ih0 Q g2 (38 :: st) _ _ a1 hop2 hd (fun g3 b1 b2 => kf g3 b1 (zFrR_tr a3 b2))
theorem zMM_14 {tx : Nat → Nat} {len dl c B : Nat} (hc : c < 60) : z_ru14 tx len (zMM l D tc A gl f tx len dl c B) := by
  intro d p q q2 c1 h0 ih0 ih1 Q g st a sg w3 hR hop hd hcm kf
  have hs := z_s38 hcm a
  refine lp_oper dl hR (Or.inl rfl) h0 w3 (fun g2 a1 a2 a3 => ?_)
  rw [hs.1, hs.2] at a1
  rw [hs.2] at a2
  have hop2 : zOp (38 :: st) = d := by rw [zOp, if_neg (by omega), hop, Nat.zero_add]
  refine ih0 Q g2 (38 :: st) _ _ a1 hop2 hd (fun g3 w4 b1 b2 b3 => ?_)
  rw [show z_wn (38 :: st) = 0 from rfl, show z_wr (38 :: st) = z_pa true st from rfl, Nat.add_zero] at b1
  rw [show z_wn (38 :: st) = 0 from rfl, List.replicate_zero, List.append_nil] at b2
  exact ih1 Q g3 st true _ w4 b1 hop hd hcm (fun g4 d1 d2 => kf g4 d1 (zFrR_tr a3 (zFrR_tr b3 d2)))
theorem zMM_15 {tx : Nat → Nat} {len dl c B : Nat} (hc : c < 60) : z_ru15 tx len (zMM l D tc A gl f tx len dl c B) := by
  intro d p q q2 c1 c2 h0 ih0 ih1 Q g st a sg w3 hR hop hd hcm kk
  have hs := z_s38 hcm a
  refine lp_oper dl hR (Or.inl rfl) h0 w3 (fun g2 a1 a2 a3 => ?_)
  rw [hs.1, hs.2] at a1
  rw [hs.2] at a2
  have hop2 : zOp (38 :: st) = d := by rw [zOp, if_neg (by omega), hop, Nat.zero_add]
  refine ih0 Q g2 (38 :: st) _ _ a1 hop2 hd (fun g3 w4 b1 b2 b3 => ?_)
  rw [show z_wn (38 :: st) = 0 from rfl, show z_wr (38 :: st) = z_pa true st from rfl, Nat.add_zero] at b1
  rw [show z_wn (38 :: st) = 0 from rfl, List.replicate_zero, List.append_nil] at b2
  refine ih1 Q g3 st true _ w4 b1 hop hd hcm (fun g4 a' em w5 d1 d2 d3 d4 d5 => ?_)
  have e2 := zSg_app a2 (zSg_app b2 d3)
  refine kk g4 a' (z_pd a ++ (c1 ++ em)) w5 ?_ ?_ e2 d4 (zFrR_tr a3 (zFrR_tr b3 d5))
  · rw [List.append_assoc, List.append_assoc, d1]; rfl
  · rw [List.length_append, List.length_append, ← Nat.add_assoc, ← Nat.add_assoc]; exact d2
theorem zMM_16 {tx : Nat → Nat} {len dl c B : Nat} (hc : c < 60) : z_ru16 tx len (zMM l D tc A gl f tx len dl c B) := by
  intro d p h0 Q g st a o sg w3 hR hop hd hcn h38 kk
  have hs := z_s124 hcn a o
  refine lp_close dl hR h38 h0 w3 (fun g2 a1 a2 a3 => ?_)
  rw [hs.1, hs.2] at a1
  rw [hs.2] at a2
  exact kk g2 (by rw [List.append_nil]; exact a1) (by rw [List.append_nil]; exact a2) a3
theorem zMM_17 {tx : Nat → Nat} {len dl c B : Nat} (hc : c < 60) : z_ru17 tx len (zMM l D tc A gl f tx len dl c B) := by
  intro d p q h0 ih0 Q g st a o sg w3 hR hop hd hcn h38 kf
  have hs := z_s124 hcn a o
  refine lp_oper dl hR (Or.inr rfl) h0 w3 (fun g2 a1 a2 a3 => ?_)
  rw [hs.1, hs.2] at a1
  rw [hs.2] at a2
  have hop2 : zOp (124 :: st) = d := by rw [zOp, if_neg (by omega), hop, Nat.zero_add]
  exact ih0 Q g2 (124 :: st) _ _ a1 hop2 hd (fun g3 b1 b2 => kf g3 b1 (zFrR_tr a3 b2))
theorem zMM_18 {tx : Nat → Nat} {len dl c B : Nat} (hc : c < 60) : z_ru18 tx len (zMM l D tc A gl f tx len dl c B) := by
  intro d p q q2 c1 h0 ih0 ih1 Q g st a o sg w3 hR hop hd hcn h38 kf
  have hs := z_s124 hcn a o
  refine lp_oper dl hR (Or.inr rfl) h0 w3 (fun g2 a1 a2 a3 => ?_)
  rw [hs.1, hs.2] at a1
  rw [hs.2] at a2
  have hop2 : zOp (124 :: st) = d := by rw [zOp, if_neg (by omega), hop, Nat.zero_add]
  refine ih0 Q g2 (124 :: st) _ _ a1 hop2 hd (fun g3 w4 b1 b2 b3 => ?_)
  rw [show z_wn (124 :: st) = 0 from rfl, show z_wr (124 :: st) = z_pa false (z_po true st) from rfl, Nat.add_zero] at b1
  rw [show z_wn (124 :: st) = 0 from rfl, List.replicate_zero, List.append_nil] at b2
  exact ih1 Q g3 (z_po true st) false _ w4 b1 (by rw [z_op_po]; exact hop) hd (zCm_po hcn true) (fun g4 d1 d2 => kf g4 d1 (zFrR_tr a3 (zFrR_tr b3 d2)))
theorem zMM_19 {tx : Nat → Nat} {len dl c B : Nat} (hc : c < 60) : z_ru19 tx len (zMM l D tc A gl f tx len dl c B) := by
  intro d p q q2 q3 c1 c2 h0 ih0 ih1 ih2 Q g st a o sg w3 hR hop hd hcn h38 kf
  have hs := z_s124 hcn a o
  refine lp_oper dl hR (Or.inr rfl) h0 w3 (fun g2 a1 a2 a3 => ?_)
  rw [hs.1, hs.2] at a1
  rw [hs.2] at a2
  have hop2 : zOp (124 :: st) = d := by rw [zOp, if_neg (by omega), hop, Nat.zero_add]
  refine ih0 Q g2 (124 :: st) _ _ a1 hop2 hd (fun g3 w4 b1 b2 b3 => ?_)
  rw [show z_wn (124 :: st) = 0 from rfl, show z_wr (124 :: st) = z_pa false (z_po true st) from rfl, Nat.add_zero] at b1
  rw [show z_wn (124 :: st) = 0 from rfl, List.replicate_zero, List.append_nil] at b2
  refine ih1 Q g3 (z_po true st) false _ w4 b1 (by rw [z_op_po]; exact hop) hd (zCm_po hcn true) (fun g4 a' em w5 d1 d2 d3 d4 d5 => ?_)
  exact ih2 Q g4 st a' true _ w5 d2 hop hd hcn d4 (fun g5 e1 e2 => kf g5 e1 (zFrR_tr a3 (zFrR_tr b3 (zFrR_tr d5 e2))))
theorem zMM_20 {tx : Nat → Nat} {len dl c B : Nat} (hc : c < 60) : z_ru20 tx len (zMM l D tc A gl f tx len dl c B) := by
  intro d p q q2 q3 c1 c2 c3 h0 ih0 ih1 ih2 Q g st a o sg w3 hR hop hd hcn h38 kk
  have hs := z_s124 hcn a o
  refine lp_oper dl hR (Or.inr rfl) h0 w3 (fun g2 a1 a2 a3 => ?_)
  rw [hs.1, hs.2] at a1
  rw [hs.2] at a2
  have hop2 : zOp (124 :: st) = d := by rw [zOp, if_neg (by omega), hop, Nat.zero_add]
  refine ih0 Q g2 (124 :: st) _ _ a1 hop2 hd (fun g3 w4 b1 b2 b3 => ?_)
  rw [show z_wn (124 :: st) = 0 from rfl, show z_wr (124 :: st) = z_pa false (z_po true st) from rfl, Nat.add_zero] at b1
  rw [show z_wn (124 :: st) = 0 from rfl, List.replicate_zero, List.append_nil] at b2
  refine ih1 Q g3 (z_po true st) false _ w4 b1 (by rw [z_op_po]; exact hop) hd (zCm_po hcn true) (fun g4 a' em w5 d1 d2 d3 d4 d5 => ?_)
  refine ih2 Q g4 st a' true _ w5 d2 hop hd hcn d4 (fun g5 e1 e2 e3 => ?_)
  have x1 : em ++ ((z_pd a' ++ z_pe true) ++ c3) = c2 ++ (-3 :: c3) := by rw [List.append_assoc, ← List.append_assoc, d1]; rfl
  have x2 := zSg_app a2 (zSg_app b2 (zSg_app d3 e2))
  rw [x1] at x2
  refine kk g5 ?_ x2 (zFrR_tr a3 (zFrR_tr b3 (zFrR_tr d5 e3)))
  have x3 : sg + ((z_pd a ++ z_pe o) ++ (c1 ++ (c2 ++ (-3 :: c3)))).length = sg + (z_pd a ++ z_pe o).length + c1.length + em.length + ((z_pd a' ++ z_pe true) ++ c3).length := by rw [List.length_append, List.length_append (as := c1), ← x1, List.length_append (as := em)]; omega
  rw [x3]
  exact e1
theorem zMM_ok {tx : Nat → Nat} {len dl c B : Nat} (hc : c < 60) : z_ru tx len (zMM l D tc A gl f tx len dl c B) := ⟨zMM_1 hc, zMM_2 hc, zMM_3 hc, zMM_4 hc, zMM_5 hc, zMM_6 hc, zMM_7 hc, zMM_8 hc, zMM_9 hc, zMM_10 hc, zMM_11 hc, zMM_12 hc, zMM_13 hc, zMM_14 hc, zMM_15 hc, zMM_16 hc, zMM_17 hc, zMM_18 hc, zMM_19 hc, zMM_20 hc⟩
end P55
