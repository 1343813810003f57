section P24
variable {l : Launch} {D : va_G} {tc : Nat → ClassId} {A : Nat → Prop} {S : zw_S} {gi : Nat → Nat → Int32} {gl : Nat → Nat → Int64} {f : Option Nat} {Q : Option Value → zw_S → Prop}
/-- the relation where a state was moved: the cells of the other parts stay -/
theorem zRel_other {gi g2 : Nat → Nat → Int32} {gl : Nat → Nat → Int64} (h : zRel gi gl) (hfr : ∀ c j, ¬ (1 ≤ c ∧ c ≤ 38) → ¬ (109 ≤ c ∧ c ≤ 116) → ¬ (133 ≤ c ∧ c ≤ 144) → ¬ (c = 0 ∧ j = 2) → ¬ (c = 108 ∧ (j = 0 ∨ j = 1 ∨ j = 11 ∨ j = 38 ∨ (41 ≤ j ∧ j ≤ 45))) → g2 c j = gi c j)
    (hN : ∀ nf, nf ≤ 6 → zNow gi nf → (gi 0 2 = 0 ∨ (gi 0 2 = 1 ∧ zKept gi nf)) → zNow g2 nf ∧ zKept g2 nf) (h2 : g2 0 2 = 1 ∧ g2 108 41 = 1) : zRel g2 gl := by
  obtain ⟨nf, ⟨h0, h1, h2'⟩, h3, ⟨h4, h5⟩, h6, h7, h8, h9, h10, h11⟩ := h
  obtain ⟨n1, n2⟩ := hN nf h0 h3 h5
  have e : ∀ c j, ¬ (1 ≤ c ∧ c ≤ 38) ∧ ¬ (109 ≤ c ∧ c ≤ 116) ∧ ¬ (133 ≤ c ∧ c ≤ 144) ∧ ¬ (c = 0 ∧ j = 2) ∧ ¬ (c = 108 ∧ (j = 0 ∨ j = 1 ∨ j = 11 ∨ j = 38 ∨ (41 ≤ j ∧ j ≤ 45))) → g2 c j = gi c j := fun c j q => hfr c j q.1 q.2.1 q.2.2.1 q.2.2.2.1 q.2.2.2.2
  refine ⟨nf, ⟨h0, ?_, ?_⟩, n1, ⟨by rw [h2.1, h2.2], Or.inr ⟨h2.1, n2⟩⟩, ?_, ?_, ?_, ?_, ?_, ?_⟩
  · rw [e 0 6 (by omega)]; exact h1
  · rw [e 108 10 (by omega)]; exact h2'
  · exact zTX_congr h6 (e _ _ (by omega)) (e _ _ (by omega)) (fun j => e _ _ (by omega)) (fun j => e _ _ (by omega))
  · exact zAC_congr h7 (e _ _ (by omega)) (e _ _ (by omega)) (fun j => e _ _ (by omega)) (fun j => e _ _ (by omega))
  · exact zTP_congr h8 (fun k j a b => e _ _ (by omega)) (fun j => e _ _ (by omega)) (fun j => e _ _ (by omega))
  · rw [e 41 0 (by omega)]; exact h9
  · exact fun i hi => zFN_congr (h10 i hi) (fun k j a b => e _ _ (by omega)) (fun k j a => e _ _ (by omega))
  · exact fun k hk => by rw [e 125 k (by omega)]; exact h11 k hk
set_option maxHeartbeats 4000000 in
theorem op_image (d : Nat)  (hR : zRel gi gl) : zOpI l D tc A mX7_image mX8_image (d + 2) [] gi gl f := by
  obtain ⟨nf, ⟨hf0, hf1, hf2⟩, ⟨ns, nb, mm, ⟨hns, hnb, hmm⟩, ⟨hs1, hs2⟩, ⟨hm1, hm2⟩, ⟨hb1, hb2⟩, ⟨hx1, hx2⟩, hSs, hSn, hSt, hSb⟩, ⟨him, hik⟩, ⟨len, hlen, ht1, ht2, ht3⟩, ⟨ra, hra, ha1, ha2, ha3⟩, hTP, ho, hF, hLt⟩ := id hR
  show zW l D tc A mX7_image (d + 2) 0 0 0 0 0 [some (.ref 0)] [] (zs gi gl f) _
  refine zx_aload_n (q := 1) dX7_image_0 rfl rfl rfl ?_
  refine zy_getR (q := 4) dX7_image_1 fl_RX7_18 rfl rfl rfl rfl ?_
  refine zx_aload_n (q := 5) dX7_image_4 rfl rfl rfl ?_
  refine zy_getR (q := 8) dX7_image_5 fl_RX7_12 rfl rfl rfl rfl ?_
  refine zx_callV1v (q := 11) (y' := mX5_become) dX7_image_8 ml_RX7_253 ok_mX5_become rfl (by decide) rfl (Nat.le_of_ble_eq_true rfl) (Nat.le_of_ble_eq_true rfl) (Nat.le_refl _) (Nat.le_refl _) rfl (t_become20 _) ?_
  rintro _ ⟨g1, rfl, c1, c2, c3, c4, c5⟩
  refine zx_aload_n (q := 12) dX7_image_11 rfl rfl rfl ?_
  refine zx_iconst (q := 13) (v := 1) dX7_image_12 (by decide) rfl ?_
  refine zy_putI (q := 16) dX7_image_13 fl_RX7_257 rfl rfl ⟨rfl, rfl⟩ rfl rfl ?_
  refine zx_aload_n (q := 17) dX7_image_16 rfl rfl rfl ?_
  refine zy_getR (q := 20) dX7_image_17 fl_RX7_12 rfl rfl rfl rfl ?_
  refine zy_getI (q := 23) dX7_image_20 fl_RX7_81 rfl rfl rfl ?_
  refine zx_iret dX7_image_23 rfl (Nat.le_refl _) (Nat.le_refl _) ⟨_, rfl, ?_⟩
  refine ⟨_, _, _, rfl, zW.mono (t_X8_image (d + 2)) ?_⟩
  rintro _ _ ⟨r, rfl, hr, g2, rfl, e1, e2, e3, e4, e5, e6⟩
  refine ⟨_, rfl, ?_, g2, _, _, rfl, ?_⟩
  · rw [hr, z_u_ne _ _ (by omega), z_u_ne _ _ (by omega), c1 _ _ (by omega), c1 _ _ (by omega), hs1, hs2]
  · have hC : ∀ c j, ¬ (20 ≤ c ∧ c ≤ 38) → ¬ (135 ≤ c ∧ c ≤ 144) → ¬ (c = 0 ∧ j = 2) → ¬ (c = 108 ∧ (41 ≤ j ∧ j ≤ 45)) → g2 c j = gi c j := fun c j a1 a2 a3 a4 => by rw [e1 c j (by omega) (by omega), z_u_ne _ _ (by omega), c1 _ _ (by omega)]
    have hK : ∀ c j, (20 ≤ c ∧ c ≤ 38) → g2 c j = g1 c j := fun c j a1 => by rw [e1 c j (by omega) (by omega), z_u_ne _ _ (by omega)]
    have hM : ∀ c j, (109 ≤ c ∧ c ≤ 134) ∨ (c = 108 ∧ j ≤ 40) → zw_u g1 0 2 1 c j = gi c j := fun c j a1 => by rw [z_u_ne _ _ (by omega), c1 _ _ (by omega)]
    refine zRel_other hR (fun c j a1 a2 a3 a4 a5 => hC c j (by omega) (by omega) (by omega) (by omega)) (fun nf hnf hN _ => ⟨?_, ?_⟩) ⟨by rw [e1 _ _ (by omega) (by omega), z_u_at], e2.2.2.2.2⟩
    · exact zST_congr hN (fun j hj => hC _ _ (by omega) (by omega) (by omega) (by omega)) (fun j hj => hC _ _ (by omega) (by omega) (by omega) (by omega)) (fun k j a b => hC _ _ (by omega) (by omega) (by omega) (by omega)) (fun k j a => hC _ _ (by omega) (by omega) (by omega) (by omega))
    · refine zST_move hN (fun j hj => by rw [hK _ _ (by omega)]; exact c2 j hj) ⟨by rw [e2.2.1, hM _ _ (by omega)], by rw [e2.2.2.1, hM _ _ (by omega)], by rw [e2.1, hM _ _ (by omega)], by rw [e2.2.2.2.1, hM _ _ (by omega)]⟩ (fun s hs => ?_) (fun j hj => ⟨by rw [hK _ _ (by omega)]; exact c4 j hj, by rw [e5 j hj, hM _ _ (by omega)]⟩) (fun k hk => ⟨by rw [hK _ _ (by omega)]; exact (c5 k hk).1, by rw [hK _ _ (by omega)]; exact (c5 k hk).2, by rw [(e6 k hk).1, hM _ _ (by omega)], by rw [(e6 k hk).2, hM _ _ (by omega)]⟩) (fun s hs => ?_) (fun k hk => ⟨by rw [(e4 k hk).1, hM _ _ (by omega)], by rw [(e4 k hk).2, hM _ _ (by omega)]⟩)
      · obtain ⟨a1, a2, a3, a4⟩ := c3 s hs
        exact ⟨fun j hj => by rw [hK _ _ (by omega)]; exact a1 j hj, fun j hj => by rw [hK _ _ (by omega)]; exact a2 j hj, by rw [hK _ _ (by omega)]; exact a3, by rw [hK _ _ (by omega)]; exact a4⟩
      · obtain ⟨a1, a2, a3, a4, a5⟩ := e3 s hs
        exact ⟨by rw [a1, hM _ _ (by omega)], by rw [a2, hM _ _ (by omega)], by rw [a3, hM _ _ (by omega)], by rw [a4, hM _ _ (by omega)], by rw [a5, hM _ _ (by omega)]⟩
set_option maxHeartbeats 4000000 in
theorem op_undo (d : Nat)  (hR : zRel gi gl) : zOpI l D tc A mX7_undo mX8_undo (d + 2) [] gi gl f := by
  obtain ⟨nf, ⟨hf0, hf1, hf2⟩, ⟨ns, nb, mm, ⟨hns, hnb, hmm⟩, ⟨hs1, hs2⟩, ⟨hm1, hm2⟩, ⟨hb1, hb2⟩, ⟨hx1, hx2⟩, hSs, hSn, hSt, hSb⟩, ⟨him, hik⟩, ⟨len, hlen, ht1, ht2, ht3⟩, ⟨ra, hra, ha1, ha2, ha3⟩, hTP, ho, hF, hLt⟩ := id hR
  rcases hik with hi1 | ⟨hi1, hKe⟩
  · show zW l D tc A mX7_undo (d + 2) 0 0 0 0 0 [some (.ref 0)] [] (zs gi gl f) _
    refine zx_aload_n (q := 1) dX7_undo_0 rfl rfl rfl ?_
    refine zy_getI (q := 4) dX7_undo_1 fl_RX7_257 rfl rfl rfl ?_
    refine zx_if_ne_f (t := 10) (q := 7) dX7_undo_4 (by decide) rfl (hi1) ?_
    refine zx_bipush (q := 9) (v := (-3)) dX7_undo_7 (by decide) rfl ?_
    refine zx_iret dX7_undo_9 rfl (Nat.le_refl _) (Nat.le_refl _) ⟨_, rfl, ?_⟩
    refine ⟨_, _, _, rfl, ?_⟩
    show zW l D tc A mX8_undo (d + 2) 0 0 0 0 0 [some (.ref 108), none] [] (zs _ _ _) _
    refine zx_aload_n (q := 1) dX8_undo_0 rfl rfl rfl ?_
    refine zy_getI (q := 4) dX8_undo_1 fl_RX8_135 rfl rfl rfl ?_
    refine zx_if_ne_f (t := 10) (q := 7) dX8_undo_4 (by decide) rfl (him.symm.trans hi1) ?_
    refine zx_bipush (q := 9) (v := (-3)) dX8_undo_7 (by decide) rfl ?_
    refine zx_iret dX8_undo_9 rfl (Nat.le_refl _) (Nat.le_refl _) ⟨_, rfl, ?_⟩
    exact ⟨rfl, _, _, _, rfl, hR⟩
  · show zW l D tc A mX7_undo (d + 2) 0 0 0 0 0 [some (.ref 0)] [] (zs gi gl f) _
    refine zx_aload_n (q := 1) dX7_undo_0 rfl rfl rfl ?_
    refine zy_getI (q := 4) dX7_undo_1 fl_RX7_257 rfl rfl rfl ?_
    refine zx_if_ne_t (t := 10) (q := 7) dX7_undo_4 (by decide) rfl (by rw [hi1]; decide) ?_
    refine zx_aload_n (q := 11) dX7_undo_10 rfl rfl rfl ?_
    refine zy_getR (q := 14) dX7_undo_11 fl_RX7_12 rfl rfl rfl rfl ?_
    refine zx_aload_n (q := 15) dX7_undo_14 rfl rfl rfl ?_
    refine zy_getR (q := 18) dX7_undo_15 fl_RX7_18 rfl rfl rfl rfl ?_
    refine zx_callV1v (q := 21) (y' := mX5_become) dX7_undo_18 ml_RX7_253 ok_mX5_become rfl (by decide) rfl (Nat.le_of_ble_eq_true rfl) (Nat.le_of_ble_eq_true rfl) (Nat.le_refl _) (Nat.le_refl _) rfl (t_become1 _) ?_
    rintro _ ⟨g1, rfl, c1, c2, c3, c4, c5⟩
    refine zx_aload_n (q := 22) dX7_undo_21 rfl rfl rfl ?_
    refine zy_getR (q := 25) dX7_undo_22 fl_RX7_12 rfl rfl rfl rfl ?_
    refine zy_getI (q := 28) dX7_undo_25 fl_RX7_81 rfl rfl rfl ?_
    refine zx_iret dX7_undo_28 rfl (Nat.le_refl _) (Nat.le_refl _) ⟨_, rfl, ?_⟩
    refine ⟨_, _, _, rfl, zW.mono (t_X8_undo (d + 2) (by rw [c1 _ _ (by omega), ← him]; exact hi1)) ?_⟩
    rintro _ _ ⟨r, rfl, hr, g2, rfl, e1, e2, e3, e4, e5, e6⟩
    refine ⟨_, rfl, ?_, g2, _, _, rfl, ?_⟩
    · obtain ⟨_, _, _, _, ⟨q1, q2⟩, _⟩ := hKe
      rw [hr, c1 _ _ (by omega), c2 0 (by omega), q1, q2]
    · have hC : ∀ c j, ¬ (1 ≤ c ∧ c ≤ 19) → ¬ (109 ≤ c ∧ c ≤ 116) → ¬ (c = 133 ∨ c = 134) → ¬ (c = 108 ∧ (j = 0 ∨ j = 1 ∨ j = 11 ∨ j = 38)) → g2 c j = gi c j := fun c j a1 a2 a3 a4 => by rw [e1 c j (by omega) (by omega), c1 _ _ (by omega)]
      have hK : ∀ c j, (1 ≤ c ∧ c ≤ 19) → g2 c j = g1 c j := fun c j a1 => e1 c j (by omega) (by omega)
      have hM : ∀ c j, (135 ≤ c ∧ c ≤ 144) ∨ (c = 108 ∧ 41 ≤ j) → g1 c j = gi c j := fun c j a1 => c1 _ _ (by omega)
      refine zRel_other hR (fun c j a1 a2 a3 a4 a5 => hC c j (by omega) (by omega) (by omega) (by omega)) (fun nf hnf hN hKK => ⟨?_, ?_⟩) ⟨by rw [hC _ _ (by omega) (by omega) (by omega) (by omega)]; exact hi1, by rw [hC _ _ (by omega) (by omega) (by omega) (by omega), ← him]; exact hi1⟩
      · have hN := (hKK.resolve_left (fun z => by rw [hi1] at z; exact absurd z (by decide))).2
        refine zST_move hN (fun j hj => by rw [hK _ _ (by omega)]; exact c2 j hj) ⟨by rw [e2.2.1, hM _ _ (by omega)], by rw [e2.2.2.1, hM _ _ (by omega)], by rw [e2.1, hM _ _ (by omega)], by rw [e2.2.2.2, hM _ _ (by omega)]⟩ (fun s hs => ?_) (fun j hj => ⟨by rw [hK _ _ (by omega)]; exact c4 j hj, by rw [e5 j hj, hM _ _ (by omega)]⟩) (fun k hk => ⟨by rw [hK _ _ (by omega)]; exact (c5 k hk).1, by rw [hK _ _ (by omega)]; exact (c5 k hk).2, by rw [(e6 k hk).1, hM _ _ (by omega)], by rw [(e6 k hk).2, hM _ _ (by omega)]⟩) (fun s hs => ?_) (fun k hk => ⟨by rw [(e4 k hk).1, hM _ _ (by omega)], by rw [(e4 k hk).2, hM _ _ (by omega)]⟩)
        · obtain ⟨a1, a2, a3, a4⟩ := c3 s hs
          exact ⟨fun j hj => by rw [hK _ _ (by omega)]; exact a1 j hj, fun j hj => by rw [hK _ _ (by omega)]; exact a2 j hj, by rw [hK _ _ (by omega)]; exact a3, by rw [hK _ _ (by omega)]; exact a4⟩
        · obtain ⟨a1, a2, a3, a4, a5⟩ := e3 s hs
          exact ⟨by rw [a1, hM _ _ (by omega)], by rw [a2, hM _ _ (by omega)], by rw [a3, hM _ _ (by omega)], by rw [a4, hM _ _ (by omega)], by rw [a5, hM _ _ (by omega)]⟩
      · have hN := (hKK.resolve_left (fun z => by rw [hi1] at z; exact absurd z (by decide))).2
        exact zST_congr hN (fun j hj => hC _ _ (by omega) (by omega) (by omega) (by omega)) (fun j hj => hC _ _ (by omega) (by omega) (by omega) (by omega)) (fun k j a b => hC _ _ (by omega) (by omega) (by omega) (by omega)) (fun k j a => hC _ _ (by omega) (by omega) (by omega) (by omega))
end P24
