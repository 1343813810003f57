section P17
variable {l : Launch} {D : va_G} {tc : Nat → ClassId} {A : Nat → Prop} {S : zw_S} {gi : Nat → Nat → Int32} {gl : Nat → Nat → Int64} {f : Option Nat}
set_option maxHeartbeats 8000000 in
theorem z_rel_sort (h : zRel gi gl) {ns : Nat} (hns : gi 1 0 = nI ns) (hn5 : ns < 5) {a b c e g t : Int32} (ha : z_rg 0 6 a) (hb : z_rg 0 9 b) (hc : z_rg 0 9 c) (he : z_rg 0 9 e) (hg : z_rg 0 9 g) (ht : z_rg 0 99 t) : zRel (zw_u (zw_u (zw_u (zw_u (zw_u (zw_u (zw_u (zw_u (zw_u (zw_u (zw_u (zw_u (zw_u (zw_u (zw_u (zw_u (zw_u (zw_u (zw_u gi (3 + ns) 0 a) (3 + ns) 1 b) (3 + ns) 2 c) (3 + ns) 3 e) (3 + ns) 4 g) (3 + ns) 5 t) 1 0 (nI (ns + 1))) 109 ns a) 110 ns b) 111 (3 * ns) c) 111 (3 * ns + 1) e) 111 (3 * ns + 2) g) 112 ns t) 113 ns 0) 114 ns 0) 115 (3 * ns + 0) 0) 115 (3 * ns + 1) 0) 115 (3 * ns + 2) 0) 108 0 (nI (ns + 1))) gl := by
  refine zRel_now h (fun nf hnf hN => ?_) (fun k i a b c e => by rw [z_u_ne _ _ (by omega), z_u_ne _ _ (by omega), z_u_ne _ _ (by omega), z_u_ne _ _ (by omega), z_u_ne _ _ (by omega), z_u_ne _ _ (by omega), z_u_ne _ _ (by omega), z_u_ne _ _ (by omega), z_u_ne _ _ (by omega), z_u_ne _ _ (by omega), z_u_ne _ _ (by omega), z_u_ne _ _ (by omega), z_u_ne _ _ (by omega), z_u_ne _ _ (by omega), z_u_ne _ _ (by omega), z_u_ne _ _ (by omega), z_u_ne _ _ (by omega), z_u_ne _ _ (by omega), z_u_ne _ _ (by omega)])
  obtain ⟨ns', nb, mm, h0, h1, h2, h3, h4, h5, h6, h7, h8⟩ := hN
  have en : ns' = ns := (nI_eq (by omega) (by omega)).mp (h1.1.symm.trans hns)
  subst en
  have z0 : z_rg 0 12 0 := by unfold z_rg; decide
  have z9 : z_rg 0 9 0 := by unfold z_rg; decide
  refine ⟨ns' + 1, nb, mm, by omega, ⟨by rw [z_u_ne _ _ (by omega), z_u_ne _ _ (by omega), z_u_ne _ _ (by omega), z_u_ne _ _ (by omega), z_u_ne _ _ (by omega), z_u_ne _ _ (by omega), z_u_ne _ _ (by omega), z_u_ne _ _ (by omega), z_u_ne _ _ (by omega), z_u_ne _ _ (by omega), z_u_ne _ _ (by omega), z_u_ne _ _ (by omega), z_u_at], by rw [z_u_at]⟩, by rw [z_u_ne _ _ (by omega), z_u_ne _ _ (by omega), z_u_ne _ _ (by omega), z_u_ne _ _ (by omega), z_u_ne _ _ (by omega), z_u_ne _ _ (by omega), z_u_ne _ _ (by omega), z_u_ne _ _ (by omega), z_u_ne _ _ (by omega), z_u_ne _ _ (by omega), z_u_ne _ _ (by omega), z_u_ne _ _ (by omega), z_u_ne _ _ (by omega), z_u_ne _ _ (by omega), z_u_ne _ _ (by omega), z_u_ne _ _ (by omega), z_u_ne _ _ (by omega), z_u_ne _ _ (by omega), z_u_ne _ _ (by omega), z_u_ne _ _ (by omega), z_u_ne _ _ (by omega), z_u_ne _ _ (by omega), z_u_ne _ _ (by omega), z_u_ne _ _ (by omega), z_u_ne _ _ (by omega), z_u_ne _ _ (by omega), z_u_ne _ _ (by omega), z_u_ne _ _ (by omega), z_u_ne _ _ (by omega), z_u_ne _ _ (by omega), z_u_ne _ _ (by omega), z_u_ne _ _ (by omega), z_u_ne _ _ (by omega), z_u_ne _ _ (by omega), z_u_ne _ _ (by omega), z_u_ne _ _ (by omega), z_u_ne _ _ (by omega), z_u_ne _ _ (by omega)]; exact h2, by rw [z_u_ne _ _ (by omega), z_u_ne _ _ (by omega), z_u_ne _ _ (by omega), z_u_ne _ _ (by omega), z_u_ne _ _ (by omega), z_u_ne _ _ (by omega), z_u_ne _ _ (by omega), z_u_ne _ _ (by omega), z_u_ne _ _ (by omega), z_u_ne _ _ (by omega), z_u_ne _ _ (by omega), z_u_ne _ _ (by omega), z_u_ne _ _ (by omega), z_u_ne _ _ (by omega), z_u_ne _ _ (by omega), z_u_ne _ _ (by omega), z_u_ne _ _ (by omega), z_u_ne _ _ (by omega), z_u_ne _ _ (by omega), z_u_ne _ _ (by omega), z_u_ne _ _ (by omega), z_u_ne _ _ (by omega), z_u_ne _ _ (by omega), z_u_ne _ _ (by omega), z_u_ne _ _ (by omega), z_u_ne _ _ (by omega), z_u_ne _ _ (by omega), z_u_ne _ _ (by omega), z_u_ne _ _ (by omega), z_u_ne _ _ (by omega), z_u_ne _ _ (by omega), z_u_ne _ _ (by omega), z_u_ne _ _ (by omega), z_u_ne _ _ (by omega), z_u_ne _ _ (by omega), z_u_ne _ _ (by omega), z_u_ne _ _ (by omega), z_u_ne _ _ (by omega)]; exact h3, by rw [z_u_ne _ _ (by omega), z_u_ne _ _ (by omega), z_u_ne _ _ (by omega), z_u_ne _ _ (by omega), z_u_ne _ _ (by omega), z_u_ne _ _ (by omega), z_u_ne _ _ (by omega), z_u_ne _ _ (by omega), z_u_ne _ _ (by omega), z_u_ne _ _ (by omega), z_u_ne _ _ (by omega), z_u_ne _ _ (by omega), z_u_ne _ _ (by omega), z_u_ne _ _ (by omega), z_u_ne _ _ (by omega), z_u_ne _ _ (by omega), z_u_ne _ _ (by omega), z_u_ne _ _ (by omega), z_u_ne _ _ (by omega), z_u_ne _ _ (by omega), z_u_ne _ _ (by omega), z_u_ne _ _ (by omega), z_u_ne _ _ (by omega), z_u_ne _ _ (by omega), z_u_ne _ _ (by omega), z_u_ne _ _ (by omega), z_u_ne _ _ (by omega), z_u_ne _ _ (by omega), z_u_ne _ _ (by omega), z_u_ne _ _ (by omega), z_u_ne _ _ (by omega), z_u_ne _ _ (by omega), z_u_ne _ _ (by omega), z_u_ne _ _ (by omega), z_u_ne _ _ (by omega), z_u_ne _ _ (by omega), z_u_ne _ _ (by omega), z_u_ne _ _ (by omega)]; exact h4, fun i hi => ?_, fun i hi hi2 => ?_, zSTt_congr h7 (fun i => by rw [z_u_ne _ _ (by omega), z_u_ne _ _ (by omega), z_u_ne _ _ (by omega), z_u_ne _ _ (by omega), z_u_ne _ _ (by omega), z_u_ne _ _ (by omega), z_u_ne _ _ (by omega), z_u_ne _ _ (by omega), z_u_ne _ _ (by omega), z_u_ne _ _ (by omega), z_u_ne _ _ (by omega), z_u_ne _ _ (by omega), z_u_ne _ _ (by omega), z_u_ne _ _ (by omega), z_u_ne _ _ (by omega), z_u_ne _ _ (by omega), z_u_ne _ _ (by omega), z_u_ne _ _ (by omega), z_u_ne _ _ (by omega)]) (fun i => by rw [z_u_ne _ _ (by omega), z_u_ne _ _ (by omega), z_u_ne _ _ (by omega), z_u_ne _ _ (by omega), z_u_ne _ _ (by omega), z_u_ne _ _ (by omega), z_u_ne _ _ (by omega), z_u_ne _ _ (by omega), z_u_ne _ _ (by omega), z_u_ne _ _ (by omega), z_u_ne _ _ (by omega), z_u_ne _ _ (by omega), z_u_ne _ _ (by omega), z_u_ne _ _ (by omega), z_u_ne _ _ (by omega), z_u_ne _ _ (by omega), z_u_ne _ _ (by omega), z_u_ne _ _ (by omega), z_u_ne _ _ (by omega)]), zSTb_congr h8 (fun i => ⟨by rw [z_u_ne _ _ (by omega), z_u_ne _ _ (by omega), z_u_ne _ _ (by omega), z_u_ne _ _ (by omega), z_u_ne _ _ (by omega), z_u_ne _ _ (by omega), z_u_ne _ _ (by omega), z_u_ne _ _ (by omega), z_u_ne _ _ (by omega), z_u_ne _ _ (by omega), z_u_ne _ _ (by omega), z_u_ne _ _ (by omega), z_u_ne _ _ (by omega), z_u_ne _ _ (by omega), z_u_ne _ _ (by omega), z_u_ne _ _ (by omega), z_u_ne _ _ (by omega), z_u_ne _ _ (by omega), z_u_ne _ _ (by omega)], by rw [z_u_ne _ _ (by omega), z_u_ne _ _ (by omega), z_u_ne _ _ (by omega), z_u_ne _ _ (by omega), z_u_ne _ _ (by omega), z_u_ne _ _ (by omega), z_u_ne _ _ (by omega), z_u_ne _ _ (by omega), z_u_ne _ _ (by omega), z_u_ne _ _ (by omega), z_u_ne _ _ (by omega), z_u_ne _ _ (by omega), z_u_ne _ _ (by omega), z_u_ne _ _ (by omega), z_u_ne _ _ (by omega), z_u_ne _ _ (by omega), z_u_ne _ _ (by omega), z_u_ne _ _ (by omega), z_u_ne _ _ (by omega)]⟩) (fun i => ⟨by rw [z_u_ne _ _ (by omega), z_u_ne _ _ (by omega), z_u_ne _ _ (by omega), z_u_ne _ _ (by omega), z_u_ne _ _ (by omega), z_u_ne _ _ (by omega), z_u_ne _ _ (by omega), z_u_ne _ _ (by omega), z_u_ne _ _ (by omega), z_u_ne _ _ (by omega), z_u_ne _ _ (by omega), z_u_ne _ _ (by omega), z_u_ne _ _ (by omega), z_u_ne _ _ (by omega), z_u_ne _ _ (by omega), z_u_ne _ _ (by omega), z_u_ne _ _ (by omega), z_u_ne _ _ (by omega), z_u_ne _ _ (by omega)], by rw [z_u_ne _ _ (by omega), z_u_ne _ _ (by omega), z_u_ne _ _ (by omega), z_u_ne _ _ (by omega), z_u_ne _ _ (by omega), z_u_ne _ _ (by omega), z_u_ne _ _ (by omega), z_u_ne _ _ (by omega), z_u_ne _ _ (by omega), z_u_ne _ _ (by omega), z_u_ne _ _ (by omega), z_u_ne _ _ (by omega), z_u_ne _ _ (by omega), z_u_ne _ _ (by omega), z_u_ne _ _ (by omega), z_u_ne _ _ (by omega), z_u_ne _ _ (by omega), z_u_ne _ _ (by omega), z_u_ne _ _ (by omega)]⟩)⟩
  · by_cases q : i = ns'
    · subst q
      obtain ⟨k1, k2, k3⟩ := h6 i (by omega) (by omega)
      refine ⟨?_, ?_, fun j hj => ?_, ?_, ?_, ?_, fun j hj => ?_⟩
      · rw [show 1 + 2 + i = 3 + i by omega]; rw [z_u_ne _ _ (by omega), z_u_ne _ _ (by omega), z_u_ne _ _ (by omega), z_u_ne _ _ (by omega), z_u_ne _ _ (by omega), z_u_ne _ _ (by omega), z_u_ne _ _ (by omega), z_u_ne _ _ (by omega), z_u_ne _ _ (by omega), z_u_ne _ _ (by omega), z_u_ne _ _ (by omega), z_u_ne _ _ (by omega), z_u_ne _ _ (by omega), z_u_ne _ _ (by omega), z_u_ne _ _ (by omega), z_u_ne _ _ (by omega), z_u_ne _ _ (by omega), z_u_ne _ _ (by omega), z_u_at, z_u_ne _ _ (by omega), z_u_ne _ _ (by omega), z_u_ne _ _ (by omega), z_u_ne _ _ (by omega), z_u_ne _ _ (by omega), z_u_ne _ _ (by omega), z_u_ne _ _ (by omega), z_u_ne _ _ (by omega), z_u_ne _ _ (by omega), z_u_ne _ _ (by omega), z_u_ne _ _ (by omega), z_u_at]; exact ⟨rfl, ha⟩
      · rw [show 1 + 2 + i = 3 + i by omega]; rw [z_u_ne _ _ (by omega), z_u_ne _ _ (by omega), z_u_ne _ _ (by omega), z_u_ne _ _ (by omega), z_u_ne _ _ (by omega), z_u_ne _ _ (by omega), z_u_ne _ _ (by omega), z_u_ne _ _ (by omega), z_u_ne _ _ (by omega), z_u_ne _ _ (by omega), z_u_ne _ _ (by omega), z_u_ne _ _ (by omega), z_u_ne _ _ (by omega), z_u_ne _ _ (by omega), z_u_ne _ _ (by omega), z_u_ne _ _ (by omega), z_u_ne _ _ (by omega), z_u_at, z_u_ne _ _ (by omega), z_u_ne _ _ (by omega), z_u_ne _ _ (by omega), z_u_ne _ _ (by omega), z_u_ne _ _ (by omega), z_u_ne _ _ (by omega), z_u_ne _ _ (by omega), z_u_ne _ _ (by omega), z_u_ne _ _ (by omega), z_u_ne _ _ (by omega), z_u_at]; exact ⟨rfl, hb⟩
      · rw [show 1 + 2 + i = 3 + i by omega]
        rcases (by omega : j = 0 ∨ j = 1 ∨ j = 2) with q | q | q <;> subst q
        · rw [show 3 * i + 0 = 3 * i by omega, show 2 + 0 = 2 by omega]; rw [z_u_ne _ _ (by omega), z_u_ne _ _ (by omega), z_u_ne _ _ (by omega), z_u_ne _ _ (by omega), z_u_ne _ _ (by omega), z_u_ne _ _ (by omega), z_u_ne _ _ (by omega), z_u_ne _ _ (by omega), z_u_ne _ _ (by omega), z_u_ne _ _ (by omega), z_u_ne _ _ (by omega), z_u_ne _ _ (by omega), z_u_ne _ _ (by omega), z_u_ne _ _ (by omega), z_u_ne _ _ (by omega), z_u_ne _ _ (by omega), z_u_at, z_u_ne _ _ (by omega), z_u_ne _ _ (by omega), z_u_ne _ _ (by omega), z_u_ne _ _ (by omega), z_u_ne _ _ (by omega), z_u_ne _ _ (by omega), z_u_ne _ _ (by omega), z_u_ne _ _ (by omega), z_u_ne _ _ (by omega), z_u_at]; exact ⟨rfl, hc⟩
        · rw [show 2 + 1 = 3 by omega]; rw [z_u_ne _ _ (by omega), z_u_ne _ _ (by omega), z_u_ne _ _ (by omega), z_u_ne _ _ (by omega), z_u_ne _ _ (by omega), z_u_ne _ _ (by omega), z_u_ne _ _ (by omega), z_u_ne _ _ (by omega), z_u_ne _ _ (by omega), z_u_ne _ _ (by omega), z_u_ne _ _ (by omega), z_u_ne _ _ (by omega), z_u_ne _ _ (by omega), z_u_ne _ _ (by omega), z_u_ne _ _ (by omega), z_u_at, z_u_ne _ _ (by omega), z_u_ne _ _ (by omega), z_u_ne _ _ (by omega), z_u_ne _ _ (by omega), z_u_ne _ _ (by omega), z_u_ne _ _ (by omega), z_u_ne _ _ (by omega), z_u_ne _ _ (by omega), z_u_at]; exact ⟨rfl, he⟩
        · rw [show 2 + 2 = 4 by omega]; rw [z_u_ne _ _ (by omega), z_u_ne _ _ (by omega), z_u_ne _ _ (by omega), z_u_ne _ _ (by omega), z_u_ne _ _ (by omega), z_u_ne _ _ (by omega), z_u_ne _ _ (by omega), z_u_ne _ _ (by omega), z_u_ne _ _ (by omega), z_u_ne _ _ (by omega), z_u_ne _ _ (by omega), z_u_ne _ _ (by omega), z_u_ne _ _ (by omega), z_u_ne _ _ (by omega), z_u_at, z_u_ne _ _ (by omega), z_u_ne _ _ (by omega), z_u_ne _ _ (by omega), z_u_ne _ _ (by omega), z_u_ne _ _ (by omega), z_u_ne _ _ (by omega), z_u_ne _ _ (by omega), z_u_at]; exact ⟨rfl, hg⟩
      · rw [show 1 + 2 + i = 3 + i by omega]; rw [z_u_ne _ _ (by omega), z_u_ne _ _ (by omega), z_u_ne _ _ (by omega), z_u_ne _ _ (by omega), z_u_ne _ _ (by omega), z_u_ne _ _ (by omega), z_u_ne _ _ (by omega), z_u_ne _ _ (by omega), z_u_ne _ _ (by omega), z_u_ne _ _ (by omega), z_u_ne _ _ (by omega), z_u_ne _ _ (by omega), z_u_ne _ _ (by omega), z_u_at, z_u_ne _ _ (by omega), z_u_ne _ _ (by omega), z_u_ne _ _ (by omega), z_u_ne _ _ (by omega), z_u_ne _ _ (by omega), z_u_ne _ _ (by omega), z_u_at]; exact ⟨rfl, ht⟩
      · rw [z_u_ne _ _ (by omega), z_u_ne _ _ (by omega), z_u_ne _ _ (by omega), z_u_ne _ _ (by omega), z_u_ne _ _ (by omega), z_u_ne _ _ (by omega), z_u_ne _ _ (by omega), z_u_ne _ _ (by omega), z_u_ne _ _ (by omega), z_u_ne _ _ (by omega), z_u_ne _ _ (by omega), z_u_ne _ _ (by omega), z_u_ne _ _ (by omega), z_u_ne _ _ (by omega), z_u_ne _ _ (by omega), z_u_ne _ _ (by omega), z_u_ne _ _ (by omega), z_u_ne _ _ (by omega), z_u_ne _ _ (by omega), z_u_ne _ _ (by omega), z_u_ne _ _ (by omega), z_u_ne _ _ (by omega), z_u_ne _ _ (by omega), z_u_ne _ _ (by omega), z_u_at]; exact ⟨k1, z0⟩
      · rw [z_u_ne _ _ (by omega), z_u_ne _ _ (by omega), z_u_ne _ _ (by omega), z_u_ne _ _ (by omega), z_u_ne _ _ (by omega), z_u_ne _ _ (by omega), z_u_ne _ _ (by omega), z_u_ne _ _ (by omega), z_u_ne _ _ (by omega), z_u_ne _ _ (by omega), z_u_ne _ _ (by omega), z_u_ne _ _ (by omega), z_u_ne _ _ (by omega), z_u_ne _ _ (by omega), z_u_ne _ _ (by omega), z_u_ne _ _ (by omega), z_u_ne _ _ (by omega), z_u_ne _ _ (by omega), z_u_ne _ _ (by omega), z_u_ne _ _ (by omega), z_u_ne _ _ (by omega), z_u_ne _ _ (by omega), z_u_ne _ _ (by omega), z_u_at]; exact ⟨k2, z0⟩
      · rcases (by omega : j = 0 ∨ j = 1 ∨ j = 2) with q | q | q <;> subst q
        · rw [z_u_ne _ _ (by omega), z_u_ne _ _ (by omega), z_u_ne _ _ (by omega), z_u_ne _ _ (by omega), z_u_ne _ _ (by omega), z_u_ne _ _ (by omega), z_u_ne _ _ (by omega), z_u_ne _ _ (by omega), z_u_ne _ _ (by omega), z_u_ne _ _ (by omega), z_u_ne _ _ (by omega), z_u_ne _ _ (by omega), z_u_ne _ _ (by omega), z_u_ne _ _ (by omega), z_u_ne _ _ (by omega), z_u_ne _ _ (by omega), z_u_ne _ _ (by omega), z_u_ne _ _ (by omega), z_u_ne _ _ (by omega), z_u_ne _ _ (by omega), z_u_ne _ _ (by omega), z_u_ne _ _ (by omega), z_u_at]; exact ⟨k3 0 (by omega), z9⟩
        · rw [z_u_ne _ _ (by omega), z_u_ne _ _ (by omega), z_u_ne _ _ (by omega), z_u_ne _ _ (by omega), z_u_ne _ _ (by omega), z_u_ne _ _ (by omega), z_u_ne _ _ (by omega), z_u_ne _ _ (by omega), z_u_ne _ _ (by omega), z_u_ne _ _ (by omega), z_u_ne _ _ (by omega), z_u_ne _ _ (by omega), z_u_ne _ _ (by omega), z_u_ne _ _ (by omega), z_u_ne _ _ (by omega), z_u_ne _ _ (by omega), z_u_ne _ _ (by omega), z_u_ne _ _ (by omega), z_u_ne _ _ (by omega), z_u_ne _ _ (by omega), z_u_ne _ _ (by omega), z_u_at]; exact ⟨k3 1 (by omega), z9⟩
        · rw [z_u_ne _ _ (by omega), z_u_ne _ _ (by omega), z_u_ne _ _ (by omega), z_u_ne _ _ (by omega), z_u_ne _ _ (by omega), z_u_ne _ _ (by omega), z_u_ne _ _ (by omega), z_u_ne _ _ (by omega), z_u_ne _ _ (by omega), z_u_ne _ _ (by omega), z_u_ne _ _ (by omega), z_u_ne _ _ (by omega), z_u_ne _ _ (by omega), z_u_ne _ _ (by omega), z_u_ne _ _ (by omega), z_u_ne _ _ (by omega), z_u_ne _ _ (by omega), z_u_ne _ _ (by omega), z_u_ne _ _ (by omega), z_u_ne _ _ (by omega), z_u_at]; exact ⟨k3 2 (by omega), z9⟩
    · obtain ⟨g1, g2, g3, g4, g5, g6, g7⟩ := h5 i (by omega)
      exact ⟨by rw [z_u_ne _ _ (by omega), z_u_ne _ _ (by omega), z_u_ne _ _ (by omega), z_u_ne _ _ (by omega), z_u_ne _ _ (by omega), z_u_ne _ _ (by omega), z_u_ne _ _ (by omega), z_u_ne _ _ (by omega), z_u_ne _ _ (by omega), z_u_ne _ _ (by omega), z_u_ne _ _ (by omega), z_u_ne _ _ (by omega), z_u_ne _ _ (by omega), z_u_ne _ _ (by omega), z_u_ne _ _ (by omega), z_u_ne _ _ (by omega), z_u_ne _ _ (by omega), z_u_ne _ _ (by omega), z_u_ne _ _ (by omega), z_u_ne _ _ (by omega), z_u_ne _ _ (by omega), z_u_ne _ _ (by omega), z_u_ne _ _ (by omega), z_u_ne _ _ (by omega), z_u_ne _ _ (by omega), z_u_ne _ _ (by omega), z_u_ne _ _ (by omega), z_u_ne _ _ (by omega), z_u_ne _ _ (by omega), z_u_ne _ _ (by omega), z_u_ne _ _ (by omega), z_u_ne _ _ (by omega), z_u_ne _ _ (by omega), z_u_ne _ _ (by omega), z_u_ne _ _ (by omega), z_u_ne _ _ (by omega), z_u_ne _ _ (by omega), z_u_ne _ _ (by omega)]; exact g1, by rw [z_u_ne _ _ (by omega), z_u_ne _ _ (by omega), z_u_ne _ _ (by omega), z_u_ne _ _ (by omega), z_u_ne _ _ (by omega), z_u_ne _ _ (by omega), z_u_ne _ _ (by omega), z_u_ne _ _ (by omega), z_u_ne _ _ (by omega), z_u_ne _ _ (by omega), z_u_ne _ _ (by omega), z_u_ne _ _ (by omega), z_u_ne _ _ (by omega), z_u_ne _ _ (by omega), z_u_ne _ _ (by omega), z_u_ne _ _ (by omega), z_u_ne _ _ (by omega), z_u_ne _ _ (by omega), z_u_ne _ _ (by omega), z_u_ne _ _ (by omega), z_u_ne _ _ (by omega), z_u_ne _ _ (by omega), z_u_ne _ _ (by omega), z_u_ne _ _ (by omega), z_u_ne _ _ (by omega), z_u_ne _ _ (by omega), z_u_ne _ _ (by omega), z_u_ne _ _ (by omega), z_u_ne _ _ (by omega), z_u_ne _ _ (by omega), z_u_ne _ _ (by omega), z_u_ne _ _ (by omega), z_u_ne _ _ (by omega), z_u_ne _ _ (by omega), z_u_ne _ _ (by omega), z_u_ne _ _ (by omega), z_u_ne _ _ (by omega), z_u_ne _ _ (by omega)]; exact g2, fun j hj => by rw [z_u_ne _ _ (by omega), z_u_ne _ _ (by omega), z_u_ne _ _ (by omega), z_u_ne _ _ (by omega), z_u_ne _ _ (by omega), z_u_ne _ _ (by omega), z_u_ne _ _ (by omega), z_u_ne _ _ (by omega), z_u_ne _ _ (by omega), z_u_ne _ _ (by omega), z_u_ne _ _ (by omega), z_u_ne _ _ (by omega), z_u_ne _ _ (by omega), z_u_ne _ _ (by omega), z_u_ne _ _ (by omega), z_u_ne _ _ (by omega), z_u_ne _ _ (by omega), z_u_ne _ _ (by omega), z_u_ne _ _ (by omega), z_u_ne _ _ (by omega), z_u_ne _ _ (by omega), z_u_ne _ _ (by omega), z_u_ne _ _ (by omega), z_u_ne _ _ (by omega), z_u_ne _ _ (by omega), z_u_ne _ _ (by omega), z_u_ne _ _ (by omega), z_u_ne _ _ (by omega), z_u_ne _ _ (by omega), z_u_ne _ _ (by omega), z_u_ne _ _ (by omega), z_u_ne _ _ (by omega), z_u_ne _ _ (by omega), z_u_ne _ _ (by omega), z_u_ne _ _ (by omega), z_u_ne _ _ (by omega), z_u_ne _ _ (by omega), z_u_ne _ _ (by omega)]; exact g3 j hj, by rw [z_u_ne _ _ (by omega), z_u_ne _ _ (by omega), z_u_ne _ _ (by omega), z_u_ne _ _ (by omega), z_u_ne _ _ (by omega), z_u_ne _ _ (by omega), z_u_ne _ _ (by omega), z_u_ne _ _ (by omega), z_u_ne _ _ (by omega), z_u_ne _ _ (by omega), z_u_ne _ _ (by omega), z_u_ne _ _ (by omega), z_u_ne _ _ (by omega), z_u_ne _ _ (by omega), z_u_ne _ _ (by omega), z_u_ne _ _ (by omega), z_u_ne _ _ (by omega), z_u_ne _ _ (by omega), z_u_ne _ _ (by omega), z_u_ne _ _ (by omega), z_u_ne _ _ (by omega), z_u_ne _ _ (by omega), z_u_ne _ _ (by omega), z_u_ne _ _ (by omega), z_u_ne _ _ (by omega), z_u_ne _ _ (by omega), z_u_ne _ _ (by omega), z_u_ne _ _ (by omega), z_u_ne _ _ (by omega), z_u_ne _ _ (by omega), z_u_ne _ _ (by omega), z_u_ne _ _ (by omega), z_u_ne _ _ (by omega), z_u_ne _ _ (by omega), z_u_ne _ _ (by omega), z_u_ne _ _ (by omega), z_u_ne _ _ (by omega), z_u_ne _ _ (by omega)]; exact g4, by rw [z_u_ne _ _ (by omega), z_u_ne _ _ (by omega), z_u_ne _ _ (by omega), z_u_ne _ _ (by omega), z_u_ne _ _ (by omega), z_u_ne _ _ (by omega), z_u_ne _ _ (by omega), z_u_ne _ _ (by omega), z_u_ne _ _ (by omega), z_u_ne _ _ (by omega), z_u_ne _ _ (by omega), z_u_ne _ _ (by omega), z_u_ne _ _ (by omega), z_u_ne _ _ (by omega), z_u_ne _ _ (by omega), z_u_ne _ _ (by omega), z_u_ne _ _ (by omega), z_u_ne _ _ (by omega), z_u_ne _ _ (by omega), z_u_ne _ _ (by omega), z_u_ne _ _ (by omega), z_u_ne _ _ (by omega), z_u_ne _ _ (by omega), z_u_ne _ _ (by omega), z_u_ne _ _ (by omega), z_u_ne _ _ (by omega), z_u_ne _ _ (by omega), z_u_ne _ _ (by omega), z_u_ne _ _ (by omega), z_u_ne _ _ (by omega), z_u_ne _ _ (by omega), z_u_ne _ _ (by omega), z_u_ne _ _ (by omega), z_u_ne _ _ (by omega), z_u_ne _ _ (by omega), z_u_ne _ _ (by omega), z_u_ne _ _ (by omega), z_u_ne _ _ (by omega)]; exact g5, by rw [z_u_ne _ _ (by omega), z_u_ne _ _ (by omega), z_u_ne _ _ (by omega), z_u_ne _ _ (by omega), z_u_ne _ _ (by omega), z_u_ne _ _ (by omega), z_u_ne _ _ (by omega), z_u_ne _ _ (by omega), z_u_ne _ _ (by omega), z_u_ne _ _ (by omega), z_u_ne _ _ (by omega), z_u_ne _ _ (by omega), z_u_ne _ _ (by omega), z_u_ne _ _ (by omega), z_u_ne _ _ (by omega), z_u_ne _ _ (by omega), z_u_ne _ _ (by omega), z_u_ne _ _ (by omega), z_u_ne _ _ (by omega), z_u_ne _ _ (by omega), z_u_ne _ _ (by omega), z_u_ne _ _ (by omega), z_u_ne _ _ (by omega), z_u_ne _ _ (by omega), z_u_ne _ _ (by omega), z_u_ne _ _ (by omega), z_u_ne _ _ (by omega), z_u_ne _ _ (by omega), z_u_ne _ _ (by omega), z_u_ne _ _ (by omega), z_u_ne _ _ (by omega), z_u_ne _ _ (by omega), z_u_ne _ _ (by omega), z_u_ne _ _ (by omega), z_u_ne _ _ (by omega), z_u_ne _ _ (by omega), z_u_ne _ _ (by omega), z_u_ne _ _ (by omega)]; exact g6, fun j hj => by rw [z_u_ne _ _ (by omega), z_u_ne _ _ (by omega), z_u_ne _ _ (by omega), z_u_ne _ _ (by omega), z_u_ne _ _ (by omega), z_u_ne _ _ (by omega), z_u_ne _ _ (by omega), z_u_ne _ _ (by omega), z_u_ne _ _ (by omega), z_u_ne _ _ (by omega), z_u_ne _ _ (by omega), z_u_ne _ _ (by omega), z_u_ne _ _ (by omega), z_u_ne _ _ (by omega), z_u_ne _ _ (by omega), z_u_ne _ _ (by omega), z_u_ne _ _ (by omega), z_u_ne _ _ (by omega), z_u_ne _ _ (by omega), z_u_ne _ _ (by omega), z_u_ne _ _ (by omega), z_u_ne _ _ (by omega), z_u_ne _ _ (by omega), z_u_ne _ _ (by omega), z_u_ne _ _ (by omega), z_u_ne _ _ (by omega), z_u_ne _ _ (by omega), z_u_ne _ _ (by omega), z_u_ne _ _ (by omega), z_u_ne _ _ (by omega), z_u_ne _ _ (by omega), z_u_ne _ _ (by omega), z_u_ne _ _ (by omega), z_u_ne _ _ (by omega), z_u_ne _ _ (by omega), z_u_ne _ _ (by omega), z_u_ne _ _ (by omega), z_u_ne _ _ (by omega)]; exact g7 j hj⟩
  · obtain ⟨g1, g2, g3⟩ := h6 i (by omega) hi2
    exact ⟨by rw [z_u_ne _ _ (by omega), z_u_ne _ _ (by omega), z_u_ne _ _ (by omega), z_u_ne _ _ (by omega), z_u_ne _ _ (by omega), z_u_ne _ _ (by omega), z_u_ne _ _ (by omega), z_u_ne _ _ (by omega), z_u_ne _ _ (by omega), z_u_ne _ _ (by omega), z_u_ne _ _ (by omega), z_u_ne _ _ (by omega), z_u_ne _ _ (by omega), z_u_ne _ _ (by omega), z_u_ne _ _ (by omega), z_u_ne _ _ (by omega), z_u_ne _ _ (by omega), z_u_ne _ _ (by omega), z_u_ne _ _ (by omega)]; exact g1, by rw [z_u_ne _ _ (by omega), z_u_ne _ _ (by omega), z_u_ne _ _ (by omega), z_u_ne _ _ (by omega), z_u_ne _ _ (by omega), z_u_ne _ _ (by omega), z_u_ne _ _ (by omega), z_u_ne _ _ (by omega), z_u_ne _ _ (by omega), z_u_ne _ _ (by omega), z_u_ne _ _ (by omega), z_u_ne _ _ (by omega), z_u_ne _ _ (by omega), z_u_ne _ _ (by omega), z_u_ne _ _ (by omega), z_u_ne _ _ (by omega), z_u_ne _ _ (by omega), z_u_ne _ _ (by omega), z_u_ne _ _ (by omega)]; exact g2, fun j hj => by rw [z_u_ne _ _ (by omega), z_u_ne _ _ (by omega), z_u_ne _ _ (by omega), z_u_ne _ _ (by omega), z_u_ne _ _ (by omega), z_u_ne _ _ (by omega), z_u_ne _ _ (by omega), z_u_ne _ _ (by omega), z_u_ne _ _ (by omega), z_u_ne _ _ (by omega), z_u_ne _ _ (by omega), z_u_ne _ _ (by omega), z_u_ne _ _ (by omega), z_u_ne _ _ (by omega), z_u_ne _ _ (by omega), z_u_ne _ _ (by omega), z_u_ne _ _ (by omega), z_u_ne _ _ (by omega), z_u_ne _ _ (by omega)]; exact g3 j hj⟩
set_option maxHeartbeats 4000000 in
theorem op_sort (d : Nat) (a : Int32) (b : Int32) (c : Int32) (e : Int32) (g : Int32) (t : Int32) (hR : zRel gi gl) : zOpI l D tc A mX7_sort mX8_sort (d + 2) [.int a, .int b, .int c, .int e, .int g, .int t] gi gl f := by
  obtain ⟨nf, ⟨hf0, hf1, hf2⟩, ⟨ns, nb, mm, ⟨hns, hnb, hmm⟩, ⟨hs1, hs2⟩, ⟨hm1, hm2⟩, ⟨hb1, hb2⟩, ⟨hx1, hx2⟩, hSs, hSn, hSt, hSb⟩, ⟨him, hik⟩, ⟨len, hlen, ht1, ht2, ht3⟩, ⟨ra, hra, ha1, ha2, ha3⟩, hTP, ho, hF, hLt⟩ := id hR
  by_cases h1 : z_in a 0 6 = true
  · by_cases h2 : z_in b 0 9 = true
    · by_cases h3 : z_in c 0 9 = true
      · by_cases h4 : z_in e 0 9 = true
        · by_cases h5 : z_in g 0 9 = true
          · by_cases h6 : z_in t 0 99 = true
            · by_cases h7 : ns < 5
              · show zW l D tc A mX7_sort (d + 2) 0 0 0 0 0 [some (.ref 0), some (.int a), some (.int b), some (.int c), some (.int e), some (.int g), some (.int t), none, none] [] (zs gi gl f) _
                refine zx_iload_n (q := 1) dX7_sort_0 rfl rfl rfl ?_
                refine zx_iconst (q := 2) (v := 0) dX7_sort_1 (by decide) rfl ?_
                refine zx_bipush (q := 4) (v := 6) dX7_sort_2 (by decide) rfl ?_
                refine zx_callS3i (q := 7) (y' := mX7_within) dX7_sort_4 ml_RX7_73 ok_mX7_within (Nat.le_of_ble_eq_true rfl) (Nat.le_of_ble_eq_true rfl) (Nat.le_refl _) (Nat.le_refl _) rfl (t_X7_within _ _ _ _) ?_
                rintro _ _ ⟨rfl, rfl⟩
                refine zx_if_ne_t (t := 12) (q := 10) dX7_sort_7 (by decide) rfl (zk_t h1) ?_
                refine zx_iload_n (q := 13) dX7_sort_12 rfl rfl rfl ?_
                refine zx_callS1i (q := 16) (y' := mX7_isDigit) dX7_sort_13 ml_RX7_77 ok_mX7_isDigit (Nat.le_of_ble_eq_true rfl) (Nat.le_of_ble_eq_true rfl) (Nat.le_refl _) (Nat.le_refl _) rfl (t_X7_isDigit _ _) ?_
                rintro _ _ ⟨rfl, rfl⟩
                refine zx_if_eq_f (t := 53) (q := 19) dX7_sort_16 (by decide) rfl (zk_t h2) ?_
                refine zx_iload_n (q := 20) dX7_sort_19 rfl rfl rfl ?_
                refine zx_callS1i (q := 23) (y' := mX7_isDigit) dX7_sort_20 ml_RX7_77 ok_mX7_isDigit (Nat.le_of_ble_eq_true rfl) (Nat.le_of_ble_eq_true rfl) (Nat.le_refl _) (Nat.le_refl _) rfl (t_X7_isDigit _ _) ?_
                rintro _ _ ⟨rfl, rfl⟩
                refine zx_if_eq_f (t := 53) (q := 26) dX7_sort_23 (by decide) rfl (zk_t h3) ?_
                refine zx_iload (q := 28) dX7_sort_26 rfl rfl ?_
                refine zx_callS1i (q := 31) (y' := mX7_isDigit) dX7_sort_28 ml_RX7_77 ok_mX7_isDigit (Nat.le_of_ble_eq_true rfl) (Nat.le_of_ble_eq_true rfl) (Nat.le_refl _) (Nat.le_refl _) rfl (t_X7_isDigit _ _) ?_
                rintro _ _ ⟨rfl, rfl⟩
                refine zx_if_eq_f (t := 53) (q := 34) dX7_sort_31 (by decide) rfl (zk_t h4) ?_
                refine zx_iload (q := 36) dX7_sort_34 rfl rfl ?_
                refine zx_callS1i (q := 39) (y' := mX7_isDigit) dX7_sort_36 ml_RX7_77 ok_mX7_isDigit (Nat.le_of_ble_eq_true rfl) (Nat.le_of_ble_eq_true rfl) (Nat.le_refl _) (Nat.le_refl _) rfl (t_X7_isDigit _ _) ?_
                rintro _ _ ⟨rfl, rfl⟩
                refine zx_if_eq_f (t := 53) (q := 42) dX7_sort_39 (by decide) rfl (zk_t h5) ?_
                refine zx_iload (q := 44) dX7_sort_42 rfl rfl ?_
                refine zx_iconst (q := 45) (v := 0) dX7_sort_44 (by decide) rfl ?_
                refine zx_bipush (q := 47) (v := 99) dX7_sort_45 (by decide) rfl ?_
                refine zx_callS3i (q := 50) (y' := mX7_within) dX7_sort_47 ml_RX7_73 ok_mX7_within (Nat.le_of_ble_eq_true rfl) (Nat.le_of_ble_eq_true rfl) (Nat.le_refl _) (Nat.le_refl _) rfl (t_X7_within _ _ _ _) ?_
                rintro _ _ ⟨rfl, rfl⟩
                refine zx_if_ne_t (t := 56) (q := 53) dX7_sort_50 (by decide) rfl (zk_t h6) ?_
                refine zx_aload_n (q := 57) dX7_sort_56 rfl rfl rfl ?_
                refine zy_getR (q := 60) dX7_sort_57 fl_RX7_12 rfl rfl rfl rfl ?_
                refine zy_getIe (q := 63) (v := nI ns) dX7_sort_60 fl_RX7_81 rfl rfl (hs1) rfl ?_
                refine zx_iconst (q := 64) (v := 5) dX7_sort_63 (by decide) rfl ?_
                refine zx_icmp_lt_t (t := 70) (q := 67) dX7_sort_64 (by decide) rfl (nI_lt (a := ns) (b := 5) h7 (by decide)) ?_
                refine zx_aload_n (q := 71) dX7_sort_70 rfl rfl rfl ?_
                refine zy_getR (q := 74) dX7_sort_71 fl_RX7_12 rfl rfl rfl rfl ?_
                refine zy_getIe (q := 77) (v := nI ns) dX7_sort_74 fl_RX7_81 rfl rfl (hs1) rfl ?_
                refine zx_istore7 (q := 79) dX7_sort_77 rfl rfl ?_
                refine zx_aload_n (q := 80) dX7_sort_79 rfl rfl rfl ?_
                refine zy_getR (q := 83) dX7_sort_80 fl_RX7_12 rfl rfl rfl rfl ?_
                refine zy_getR (q := 86) dX7_sort_83 fl_RX7_85 rfl rfl rfl rfl ?_
                refine zx_iload (q := 88) dX7_sort_86 rfl rfl ?_
                refine zy_aaldN (q := 89) dX7_sort_88 rfl (by decide) (by omega) (by decide) (zr_2 (by omega)).1 rfl ?_
                refine zx_astore8 (q := 91) dX7_sort_89 rfl rfl ?_
                refine zx_aload (q := 93) dX7_sort_91 rfl rfl ?_
                refine zx_iconst (q := 94) (v := 0) dX7_sort_93 (by decide) rfl ?_
                refine zx_iload_n (q := 95) dX7_sort_94 rfl rfl rfl ?_
                refine zy_iastN (i := 0) (q := 96) dX7_sort_95 (zr_2 (f := f) (by omega)).2 (by omega) (by decide) rfl ?_
                refine zx_aload (q := 98) dX7_sort_96 rfl rfl ?_
                refine zx_iconst (q := 99) (v := 1) dX7_sort_98 (by decide) rfl ?_
                refine zx_iload_n (q := 100) dX7_sort_99 rfl rfl rfl ?_
                refine zy_iastN (i := 1) (q := 101) dX7_sort_100 (zr_2 (f := f) (by omega)).2 (by omega) (by decide) rfl ?_
                refine zx_aload (q := 103) dX7_sort_101 rfl rfl ?_
                refine zx_iconst (q := 104) (v := 2) dX7_sort_103 (by decide) rfl ?_
                refine zx_iload_n (q := 105) dX7_sort_104 rfl rfl rfl ?_
                refine zy_iastN (i := 2) (q := 106) dX7_sort_105 (zr_2 (f := f) (by omega)).2 (by omega) (by decide) rfl ?_
                refine zx_aload (q := 108) dX7_sort_106 rfl rfl ?_
                refine zx_iconst (q := 109) (v := 3) dX7_sort_108 (by decide) rfl ?_
                refine zx_iload (q := 111) dX7_sort_109 rfl rfl ?_
                refine zy_iastN (i := 3) (q := 112) dX7_sort_111 (zr_2 (f := f) (by omega)).2 (by omega) (by decide) rfl ?_
                refine zx_aload (q := 114) dX7_sort_112 rfl rfl ?_
                refine zx_iconst (q := 115) (v := 4) dX7_sort_114 (by decide) rfl ?_
                refine zx_iload (q := 117) dX7_sort_115 rfl rfl ?_
                refine zy_iastN (i := 4) (q := 118) dX7_sort_117 (zr_2 (f := f) (by omega)).2 (by omega) (by decide) rfl ?_
                refine zx_aload (q := 120) dX7_sort_118 rfl rfl ?_
                refine zx_iconst (q := 121) (v := 5) dX7_sort_120 (by decide) rfl ?_
                refine zx_iload (q := 123) dX7_sort_121 rfl rfl ?_
                refine zy_iastN (i := 5) (q := 124) dX7_sort_123 (zr_2 (f := f) (by omega)).2 (by omega) (by decide) rfl ?_
                refine zx_aload_n (q := 125) dX7_sort_124 rfl rfl rfl ?_
                refine zy_getR (q := 128) dX7_sort_125 fl_RX7_12 rfl rfl rfl rfl ?_
                refine zx_iload (q := 130) dX7_sort_128 rfl rfl ?_
                refine zx_iconst (q := 131) (v := 1) dX7_sort_130 (by decide) rfl ?_
                refine zx_iadd (q := 132) dX7_sort_131 rfl ?_
                rw [nI_1]
                refine zy_putI (q := 135) dX7_sort_132 fl_RX7_81 rfl rfl ⟨rfl, rfl⟩ rfl rfl ?_
                refine zx_iload (q := 137) dX7_sort_135 rfl rfl ?_
                refine zx_iret dX7_sort_137 rfl (Nat.le_refl _) (Nat.le_refl _) ⟨_, rfl, ?_⟩
                refine ⟨_, _, _, rfl, ?_⟩
                show zW l D tc A mX8_sort (d + 2) 0 0 0 0 0 [some (.ref 108), some (.int a), some (.int b), some (.int c), some (.int e), some (.int g), some (.int t), none] [] (zs _ _ _) _
                refine zx_aload_n (q := 1) dX8_sort_0 rfl rfl rfl ?_
                refine zx_iload_n (q := 2) dX8_sort_1 rfl rfl rfl ?_
                refine zx_iconst (q := 3) (v := 0) dX8_sort_2 (by decide) rfl ?_
                refine zx_bipush (q := 5) (v := 6) dX8_sort_3 (by decide) rfl ?_
                refine zx_callV3i (q := 8) (y' := mX8_in) dX8_sort_5 ml_RX8_200 ok_mX8_in rfl (by decide) rfl (Nat.le_of_ble_eq_true rfl) (Nat.le_of_ble_eq_true rfl) (Nat.le_refl _) (Nat.le_refl _) rfl (t_X8_in _ _ _ _ _) ?_
                rintro _ _ ⟨rfl, rfl⟩
                refine zx_if_ne_t (t := 13) (q := 11) dX8_sort_8 (by decide) rfl (zk_t h1) ?_
                refine zx_aload_n (q := 14) dX8_sort_13 rfl rfl rfl ?_
                refine zx_iload_n (q := 15) dX8_sort_14 rfl rfl rfl ?_
                refine zx_callV1i (q := 18) (y' := mX8_isDigit9) dX8_sort_15 ml_RX8_204 ok_mX8_isDigit9 rfl (by decide) rfl (Nat.le_of_ble_eq_true rfl) (Nat.le_of_ble_eq_true rfl) (Nat.le_refl _) (Nat.le_refl _) rfl (t_X8_isDigit9 _ _) ?_
                rintro _ _ ⟨rfl, rfl⟩
                refine zx_if_eq_f (t := 59) (q := 21) dX8_sort_18 (by decide) rfl (zk_t h2) ?_
                refine zx_aload_n (q := 22) dX8_sort_21 rfl rfl rfl ?_
                refine zx_iload_n (q := 23) dX8_sort_22 rfl rfl rfl ?_
                refine zx_callV1i (q := 26) (y' := mX8_isDigit9) dX8_sort_23 ml_RX8_204 ok_mX8_isDigit9 rfl (by decide) rfl (Nat.le_of_ble_eq_true rfl) (Nat.le_of_ble_eq_true rfl) (Nat.le_refl _) (Nat.le_refl _) rfl (t_X8_isDigit9 _ _) ?_
                rintro _ _ ⟨rfl, rfl⟩
                refine zx_if_eq_f (t := 59) (q := 29) dX8_sort_26 (by decide) rfl (zk_t h3) ?_
                refine zx_aload_n (q := 30) dX8_sort_29 rfl rfl rfl ?_
                refine zx_iload (q := 32) dX8_sort_30 rfl rfl ?_
                refine zx_callV1i (q := 35) (y' := mX8_isDigit9) dX8_sort_32 ml_RX8_204 ok_mX8_isDigit9 rfl (by decide) rfl (Nat.le_of_ble_eq_true rfl) (Nat.le_of_ble_eq_true rfl) (Nat.le_refl _) (Nat.le_refl _) rfl (t_X8_isDigit9 _ _) ?_
                rintro _ _ ⟨rfl, rfl⟩
                refine zx_if_eq_f (t := 59) (q := 38) dX8_sort_35 (by decide) rfl (zk_t h4) ?_
                refine zx_aload_n (q := 39) dX8_sort_38 rfl rfl rfl ?_
                refine zx_iload (q := 41) dX8_sort_39 rfl rfl ?_
                refine zx_callV1i (q := 44) (y' := mX8_isDigit9) dX8_sort_41 ml_RX8_204 ok_mX8_isDigit9 rfl (by decide) rfl (Nat.le_of_ble_eq_true rfl) (Nat.le_of_ble_eq_true rfl) (Nat.le_refl _) (Nat.le_refl _) rfl (t_X8_isDigit9 _ _) ?_
                rintro _ _ ⟨rfl, rfl⟩
                refine zx_if_eq_f (t := 59) (q := 47) dX8_sort_44 (by decide) rfl (zk_t h5) ?_
                refine zx_aload_n (q := 48) dX8_sort_47 rfl rfl rfl ?_
                refine zx_iload (q := 50) dX8_sort_48 rfl rfl ?_
                refine zx_iconst (q := 51) (v := 0) dX8_sort_50 (by decide) rfl ?_
                refine zx_bipush (q := 53) (v := 99) dX8_sort_51 (by decide) rfl ?_
                refine zx_callV3i (q := 56) (y' := mX8_in) dX8_sort_53 ml_RX8_200 ok_mX8_in rfl (by decide) rfl (Nat.le_of_ble_eq_true rfl) (Nat.le_of_ble_eq_true rfl) (Nat.le_refl _) (Nat.le_refl _) rfl (t_X8_in _ _ _ _ _) ?_
                rintro _ _ ⟨rfl, rfl⟩
                refine zx_if_ne_t (t := 62) (q := 59) dX8_sort_56 (by decide) rfl (zk_t h6) ?_
                refine zx_aload_n (q := 63) dX8_sort_62 rfl rfl rfl ?_
                refine zy_getIe (q := 66) (v := nI ns) dX8_sort_63 fl_RX8_7 rfl rfl (by (repeat rw [z_u_ne _ _ (by omega)]); exact hs2) rfl ?_
                refine zx_iconst (q := 67) (v := 5) dX8_sort_66 (by decide) rfl ?_
                refine zx_icmp_ne_t (t := 73) (q := 70) dX8_sort_67 (by decide) rfl (fun z => by rw [show (5 : Int32) = nI 5 from rfl, nI_eq (by omega) (by omega)] at z; omega) ?_
                refine zx_aload_n (q := 74) dX8_sort_73 rfl rfl rfl ?_
                refine zy_getR (q := 77) dX8_sort_74 fl_RX8_16 rfl rfl rfl rfl ?_
                refine zx_aload_n (q := 78) dX8_sort_77 rfl rfl rfl ?_
                refine zy_getIe (q := 81) (v := nI ns) dX8_sort_78 fl_RX8_7 rfl rfl (by (repeat rw [z_u_ne _ _ (by omega)]); exact hs2) rfl ?_
                refine zx_iload_n (q := 82) dX8_sort_81 rfl rfl rfl ?_
                refine zy_iastN (q := 83) dX8_sort_82 rfl (by omega) (by decide) rfl ?_
                refine zx_aload_n (q := 84) dX8_sort_83 rfl rfl rfl ?_
                refine zy_getR (q := 87) dX8_sort_84 fl_RX8_20 rfl rfl rfl rfl ?_
                refine zx_aload_n (q := 88) dX8_sort_87 rfl rfl rfl ?_
                refine zy_getIe (q := 91) (v := nI ns) dX8_sort_88 fl_RX8_7 rfl rfl (by (repeat rw [z_u_ne _ _ (by omega)]); exact hs2) rfl ?_
                refine zx_iload_n (q := 92) dX8_sort_91 rfl rfl rfl ?_
                refine zy_iastN (q := 93) dX8_sort_92 rfl (by omega) (by decide) rfl ?_
                refine zx_aload_n (q := 94) dX8_sort_93 rfl rfl rfl ?_
                refine zy_getR (q := 97) dX8_sort_94 fl_RX8_23 rfl rfl rfl rfl ?_
                refine zx_iconst (q := 98) (v := 3) dX8_sort_97 (by decide) rfl ?_
                refine zx_aload_n (q := 99) dX8_sort_98 rfl rfl rfl ?_
                refine zy_getIe (q := 102) (v := nI ns) dX8_sort_99 fl_RX8_7 rfl rfl (by (repeat rw [z_u_ne _ _ (by omega)]); exact hs2) rfl ?_
                refine zx_imul (q := 103) dX8_sort_102 rfl ?_
                refine zx_iload_n (q := 104) dX8_sort_103 rfl rfl rfl ?_
                rw [show (3 : Int32) * nI ns = nI (3 * ns) from z_mul 3 ns]
                refine zy_iastN (q := 105) dX8_sort_104 rfl (by omega) (by decide) rfl ?_
                refine zx_aload_n (q := 106) dX8_sort_105 rfl rfl rfl ?_
                refine zy_getR (q := 109) dX8_sort_106 fl_RX8_23 rfl rfl rfl rfl ?_
                refine zx_iconst (q := 110) (v := 3) dX8_sort_109 (by decide) rfl ?_
                refine zx_aload_n (q := 111) dX8_sort_110 rfl rfl rfl ?_
                refine zy_getIe (q := 114) (v := nI ns) dX8_sort_111 fl_RX8_7 rfl rfl (by (repeat rw [z_u_ne _ _ (by omega)]); exact hs2) rfl ?_
                refine zx_imul (q := 115) dX8_sort_114 rfl ?_
                refine zx_iconst (q := 116) (v := 1) dX8_sort_115 (by decide) rfl ?_
                refine zx_iadd (q := 117) dX8_sort_116 rfl ?_
                refine zx_iload (q := 119) dX8_sort_117 rfl rfl ?_
                rw [show (3 : Int32) * nI ns + 1 = nI (3 * ns + 1) from z_3 ns 1]
                refine zy_iastN (q := 120) dX8_sort_119 rfl (by omega) (by decide) rfl ?_
                refine zx_aload_n (q := 121) dX8_sort_120 rfl rfl rfl ?_
                refine zy_getR (q := 124) dX8_sort_121 fl_RX8_23 rfl rfl rfl rfl ?_
                refine zx_iconst (q := 125) (v := 3) dX8_sort_124 (by decide) rfl ?_
                refine zx_aload_n (q := 126) dX8_sort_125 rfl rfl rfl ?_
                refine zy_getIe (q := 129) (v := nI ns) dX8_sort_126 fl_RX8_7 rfl rfl (by (repeat rw [z_u_ne _ _ (by omega)]); exact hs2) rfl ?_
                refine zx_imul (q := 130) dX8_sort_129 rfl ?_
                refine zx_iconst (q := 131) (v := 2) dX8_sort_130 (by decide) rfl ?_
                refine zx_iadd (q := 132) dX8_sort_131 rfl ?_
                refine zx_iload (q := 134) dX8_sort_132 rfl rfl ?_
                rw [show (3 : Int32) * nI ns + 2 = nI (3 * ns + 2) from z_3 ns 2]
                refine zy_iastN (q := 135) dX8_sort_134 rfl (by omega) (by decide) rfl ?_
                refine zx_aload_n (q := 136) dX8_sort_135 rfl rfl rfl ?_
                refine zy_getR (q := 139) dX8_sort_136 fl_RX8_26 rfl rfl rfl rfl ?_
                refine zx_aload_n (q := 140) dX8_sort_139 rfl rfl rfl ?_
                refine zy_getIe (q := 143) (v := nI ns) dX8_sort_140 fl_RX8_7 rfl rfl (by (repeat rw [z_u_ne _ _ (by omega)]); exact hs2) rfl ?_
                refine zx_iload (q := 145) dX8_sort_143 rfl rfl ?_
                refine zy_iastN (q := 146) dX8_sort_145 rfl (by omega) (by decide) rfl ?_
                refine zx_aload_n (q := 147) dX8_sort_146 rfl rfl rfl ?_
                refine zy_getR (q := 150) dX8_sort_147 fl_RX8_29 rfl rfl rfl rfl ?_
                refine zx_aload_n (q := 151) dX8_sort_150 rfl rfl rfl ?_
                refine zy_getIe (q := 154) (v := nI ns) dX8_sort_151 fl_RX8_7 rfl rfl (by (repeat rw [z_u_ne _ _ (by omega)]); exact hs2) rfl ?_
                refine zx_iconst (q := 155) (v := 0) dX8_sort_154 (by decide) rfl ?_
                refine zy_iastN (q := 156) dX8_sort_155 rfl (by omega) (by decide) rfl ?_
                refine zx_aload_n (q := 157) dX8_sort_156 rfl rfl rfl ?_
                refine zy_getR (q := 160) dX8_sort_157 fl_RX8_32 rfl rfl rfl rfl ?_
                refine zx_aload_n (q := 161) dX8_sort_160 rfl rfl rfl ?_
                refine zy_getIe (q := 164) (v := nI ns) dX8_sort_161 fl_RX8_7 rfl rfl (by (repeat rw [z_u_ne _ _ (by omega)]); exact hs2) rfl ?_
                refine zx_iconst (q := 165) (v := 0) dX8_sort_164 (by decide) rfl ?_
                refine zy_iastN (q := 166) dX8_sort_165 rfl (by omega) (by decide) rfl ?_
                refine zx_iconst (q := 167) (v := 0) dX8_sort_166 (by decide) rfl ?_
                refine zx_istore7 (q := 169) dX8_sort_167 rfl rfl ?_
                refine zx_iload (q := 171) dX8_sort_169 rfl rfl ?_
                refine zx_iconst (q := 172) (v := 3) dX8_sort_171 (by decide) rfl ?_
                refine zx_icmp_ge_f (t := 196) (q := 175) dX8_sort_172 (by decide) rfl (by decide) ?_
                refine zx_aload_n (q := 176) dX8_sort_175 rfl rfl rfl ?_
                refine zy_getR (q := 179) dX8_sort_176 fl_RX8_35 rfl rfl rfl rfl ?_
                refine zx_iconst (q := 180) (v := 3) dX8_sort_179 (by decide) rfl ?_
                refine zx_aload_n (q := 181) dX8_sort_180 rfl rfl rfl ?_
                refine zy_getIe (q := 184) (v := nI ns) dX8_sort_181 fl_RX8_7 rfl rfl (by (repeat rw [z_u_ne _ _ (by omega)]); exact hs2) rfl ?_
                refine zx_imul (q := 185) dX8_sort_184 rfl ?_
                refine zx_iload (q := 187) dX8_sort_185 rfl rfl ?_
                refine zx_iadd (q := 188) dX8_sort_187 rfl ?_
                refine zx_iconst (q := 189) (v := 0) dX8_sort_188 (by decide) rfl ?_
                rw [show (3 : Int32) * nI ns + 0 = nI (3 * ns + 0) from z_3 ns 0]
                refine zy_iastN (q := 190) dX8_sort_189 rfl (by omega) (by decide) rfl ?_
                refine zx_iinc7 (q := 193) dX8_sort_190 rfl rfl ?_
                refine zx_goto (t := 169) dX8_sort_193 (by decide) ?_
                refine zx_iload (q := 171) dX8_sort_169 rfl rfl ?_
                refine zx_iconst (q := 172) (v := 3) dX8_sort_171 (by decide) rfl ?_
                refine zx_icmp_ge_f (t := 196) (q := 175) dX8_sort_172 (by decide) rfl (by decide) ?_
                refine zx_aload_n (q := 176) dX8_sort_175 rfl rfl rfl ?_
                refine zy_getR (q := 179) dX8_sort_176 fl_RX8_35 rfl rfl rfl rfl ?_
                refine zx_iconst (q := 180) (v := 3) dX8_sort_179 (by decide) rfl ?_
                refine zx_aload_n (q := 181) dX8_sort_180 rfl rfl rfl ?_
                refine zy_getIe (q := 184) (v := nI ns) dX8_sort_181 fl_RX8_7 rfl rfl (by (repeat rw [z_u_ne _ _ (by omega)]); exact hs2) rfl ?_
                refine zx_imul (q := 185) dX8_sort_184 rfl ?_
                refine zx_iload (q := 187) dX8_sort_185 rfl rfl ?_
                refine zx_iadd (q := 188) dX8_sort_187 rfl ?_
                refine zx_iconst (q := 189) (v := 0) dX8_sort_188 (by decide) rfl ?_
                rw [show (3 : Int32) * nI ns + (0 + Int32.ofInt 1) = nI (3 * ns + 1) from z_3 ns 1]
                refine zy_iastN (q := 190) dX8_sort_189 rfl (by omega) (by decide) rfl ?_
                refine zx_iinc7 (q := 193) dX8_sort_190 rfl rfl ?_
                refine zx_goto (t := 169) dX8_sort_193 (by decide) ?_
                refine zx_iload (q := 171) dX8_sort_169 rfl rfl ?_
                refine zx_iconst (q := 172) (v := 3) dX8_sort_171 (by decide) rfl ?_
                refine zx_icmp_ge_f (t := 196) (q := 175) dX8_sort_172 (by decide) rfl (by decide) ?_
                refine zx_aload_n (q := 176) dX8_sort_175 rfl rfl rfl ?_
                refine zy_getR (q := 179) dX8_sort_176 fl_RX8_35 rfl rfl rfl rfl ?_
                refine zx_iconst (q := 180) (v := 3) dX8_sort_179 (by decide) rfl ?_
                refine zx_aload_n (q := 181) dX8_sort_180 rfl rfl rfl ?_
                refine zy_getIe (q := 184) (v := nI ns) dX8_sort_181 fl_RX8_7 rfl rfl (by (repeat rw [z_u_ne _ _ (by omega)]); exact hs2) rfl ?_
                refine zx_imul (q := 185) dX8_sort_184 rfl ?_
                refine zx_iload (q := 187) dX8_sort_185 rfl rfl ?_
                refine zx_iadd (q := 188) dX8_sort_187 rfl ?_
                refine zx_iconst (q := 189) (v := 0) dX8_sort_188 (by decide) rfl ?_
                rw [show (3 : Int32) * nI ns + (0 + Int32.ofInt 1 + Int32.ofInt 1) = nI (3 * ns + 2) from z_3 ns 2]
                refine zy_iastN (q := 190) dX8_sort_189 rfl (by omega) (by decide) rfl ?_
                refine zx_iinc7 (q := 193) dX8_sort_190 rfl rfl ?_
                refine zx_goto (t := 169) dX8_sort_193 (by decide) ?_
                refine zx_iload (q := 171) dX8_sort_169 rfl rfl ?_
                refine zx_iconst (q := 172) (v := 3) dX8_sort_171 (by decide) rfl ?_
                refine zx_icmp_ge_t (t := 196) (q := 175) dX8_sort_172 (by decide) rfl (by decide) ?_
                refine zx_aload_n (q := 197) dX8_sort_196 rfl rfl rfl ?_
                refine zx_dup (q := 198) dX8_sort_197 rfl rfl ?_
                refine zy_getIe (q := 201) (v := nI ns) dX8_sort_198 fl_RX8_7 rfl rfl (by (repeat rw [z_u_ne _ _ (by omega)]); exact hs2) rfl ?_
                refine zx_iconst (q := 202) (v := 1) dX8_sort_201 (by decide) rfl ?_
                refine zx_iadd (q := 203) dX8_sort_202 rfl ?_
                rw [nI_1]
                refine zy_putI (q := 206) dX8_sort_203 fl_RX8_7 rfl rfl ⟨rfl, rfl⟩ rfl rfl ?_
                refine zx_aload_n (q := 207) dX8_sort_206 rfl rfl rfl ?_
                refine zy_getIe (q := 210) (v := nI (ns + 1)) dX8_sort_207 fl_RX8_7 rfl rfl (rfl) rfl ?_
                refine zx_iconst (q := 211) (v := 1) dX8_sort_210 (by decide) rfl ?_
                refine zx_isub (q := 212) dX8_sort_211 rfl ?_
                refine zx_iret dX8_sort_212 rfl (Nat.le_refl _) (Nat.le_refl _) ⟨_, rfl, ?_⟩
                exact ⟨nI_pred ns, _, _, _, rfl, z_rel_sort hR hs1 h7 (z_inB (by decide) (by decide) h1) (z_inB (by decide) (by decide) h2) (z_inB (by decide) (by decide) h3) (z_inB (by decide) (by decide) h4) (z_inB (by decide) (by decide) h5) (z_inB (by decide) (by decide) h6)⟩
              · have h8 : ns = 5 := by omega
                subst h8
                show zW l D tc A mX7_sort (d + 2) 0 0 0 0 0 [some (.ref 0), some (.int a), some (.int b), some (.int c), some (.int e), some (.int g), some (.int t), none, none] [] (zs gi gl f) _
                refine zx_iload_n (q := 1) dX7_sort_0 rfl rfl rfl ?_
                refine zx_iconst (q := 2) (v := 0) dX7_sort_1 (by decide) rfl ?_
                refine zx_bipush (q := 4) (v := 6) dX7_sort_2 (by decide) rfl ?_
                refine zx_callS3i (q := 7) (y' := mX7_within) dX7_sort_4 ml_RX7_73 ok_mX7_within (Nat.le_of_ble_eq_true rfl) (Nat.le_of_ble_eq_true rfl) (Nat.le_refl _) (Nat.le_refl _) rfl (t_X7_within _ _ _ _) ?_
                rintro _ _ ⟨rfl, rfl⟩
                refine zx_if_ne_t (t := 12) (q := 10) dX7_sort_7 (by decide) rfl (zk_t h1) ?_
                refine zx_iload_n (q := 13) dX7_sort_12 rfl rfl rfl ?_
                refine zx_callS1i (q := 16) (y' := mX7_isDigit) dX7_sort_13 ml_RX7_77 ok_mX7_isDigit (Nat.le_of_ble_eq_true rfl) (Nat.le_of_ble_eq_true rfl) (Nat.le_refl _) (Nat.le_refl _) rfl (t_X7_isDigit _ _) ?_
                rintro _ _ ⟨rfl, rfl⟩
                refine zx_if_eq_f (t := 53) (q := 19) dX7_sort_16 (by decide) rfl (zk_t h2) ?_
                refine zx_iload_n (q := 20) dX7_sort_19 rfl rfl rfl ?_
                refine zx_callS1i (q := 23) (y' := mX7_isDigit) dX7_sort_20 ml_RX7_77 ok_mX7_isDigit (Nat.le_of_ble_eq_true rfl) (Nat.le_of_ble_eq_true rfl) (Nat.le_refl _) (Nat.le_refl _) rfl (t_X7_isDigit _ _) ?_
                rintro _ _ ⟨rfl, rfl⟩
                refine zx_if_eq_f (t := 53) (q := 26) dX7_sort_23 (by decide) rfl (zk_t h3) ?_
                refine zx_iload (q := 28) dX7_sort_26 rfl rfl ?_
                refine zx_callS1i (q := 31) (y' := mX7_isDigit) dX7_sort_28 ml_RX7_77 ok_mX7_isDigit (Nat.le_of_ble_eq_true rfl) (Nat.le_of_ble_eq_true rfl) (Nat.le_refl _) (Nat.le_refl _) rfl (t_X7_isDigit _ _) ?_
                rintro _ _ ⟨rfl, rfl⟩
                refine zx_if_eq_f (t := 53) (q := 34) dX7_sort_31 (by decide) rfl (zk_t h4) ?_
                refine zx_iload (q := 36) dX7_sort_34 rfl rfl ?_
                refine zx_callS1i (q := 39) (y' := mX7_isDigit) dX7_sort_36 ml_RX7_77 ok_mX7_isDigit (Nat.le_of_ble_eq_true rfl) (Nat.le_of_ble_eq_true rfl) (Nat.le_refl _) (Nat.le_refl _) rfl (t_X7_isDigit _ _) ?_
                rintro _ _ ⟨rfl, rfl⟩
                refine zx_if_eq_f (t := 53) (q := 42) dX7_sort_39 (by decide) rfl (zk_t h5) ?_
                refine zx_iload (q := 44) dX7_sort_42 rfl rfl ?_
                refine zx_iconst (q := 45) (v := 0) dX7_sort_44 (by decide) rfl ?_
                refine zx_bipush (q := 47) (v := 99) dX7_sort_45 (by decide) rfl ?_
                refine zx_callS3i (q := 50) (y' := mX7_within) dX7_sort_47 ml_RX7_73 ok_mX7_within (Nat.le_of_ble_eq_true rfl) (Nat.le_of_ble_eq_true rfl) (Nat.le_refl _) (Nat.le_refl _) rfl (t_X7_within _ _ _ _) ?_
                rintro _ _ ⟨rfl, rfl⟩
                refine zx_if_ne_t (t := 56) (q := 53) dX7_sort_50 (by decide) rfl (zk_t h6) ?_
                refine zx_aload_n (q := 57) dX7_sort_56 rfl rfl rfl ?_
                refine zy_getR (q := 60) dX7_sort_57 fl_RX7_12 rfl rfl rfl rfl ?_
                refine zy_getIe (q := 63) (v := 5) dX7_sort_60 fl_RX7_81 rfl rfl (hs1) rfl ?_
                refine zx_iconst (q := 64) (v := 5) dX7_sort_63 (by decide) rfl ?_
                refine zx_icmp_lt_f (t := 70) (q := 67) dX7_sort_64 (by decide) rfl (by decide) ?_
                refine zx_bipush (q := 69) (v := (-4)) dX7_sort_67 (by decide) rfl ?_
                refine zx_iret dX7_sort_69 rfl (Nat.le_refl _) (Nat.le_refl _) ⟨_, rfl, ?_⟩
                refine ⟨_, _, _, rfl, ?_⟩
                show zW l D tc A mX8_sort (d + 2) 0 0 0 0 0 [some (.ref 108), some (.int a), some (.int b), some (.int c), some (.int e), some (.int g), some (.int t), none] [] (zs _ _ _) _
                refine zx_aload_n (q := 1) dX8_sort_0 rfl rfl rfl ?_
                refine zx_iload_n (q := 2) dX8_sort_1 rfl rfl rfl ?_
                refine zx_iconst (q := 3) (v := 0) dX8_sort_2 (by decide) rfl ?_
                refine zx_bipush (q := 5) (v := 6) dX8_sort_3 (by decide) rfl ?_
                refine zx_callV3i (q := 8) (y' := mX8_in) dX8_sort_5 ml_RX8_200 ok_mX8_in rfl (by decide) rfl (Nat.le_of_ble_eq_true rfl) (Nat.le_of_ble_eq_true rfl) (Nat.le_refl _) (Nat.le_refl _) rfl (t_X8_in _ _ _ _ _) ?_
                rintro _ _ ⟨rfl, rfl⟩
                refine zx_if_ne_t (t := 13) (q := 11) dX8_sort_8 (by decide) rfl (zk_t h1) ?_
                refine zx_aload_n (q := 14) dX8_sort_13 rfl rfl rfl ?_
                refine zx_iload_n (q := 15) dX8_sort_14 rfl rfl rfl ?_
                refine zx_callV1i (q := 18) (y' := mX8_isDigit9) dX8_sort_15 ml_RX8_204 ok_mX8_isDigit9 rfl (by decide) rfl (Nat.le_of_ble_eq_true rfl) (Nat.le_of_ble_eq_true rfl) (Nat.le_refl _) (Nat.le_refl _) rfl (t_X8_isDigit9 _ _) ?_
                rintro _ _ ⟨rfl, rfl⟩
                refine zx_if_eq_f (t := 59) (q := 21) dX8_sort_18 (by decide) rfl (zk_t h2) ?_
                refine zx_aload_n (q := 22) dX8_sort_21 rfl rfl rfl ?_
                refine zx_iload_n (q := 23) dX8_sort_22 rfl rfl rfl ?_
                refine zx_callV1i (q := 26) (y' := mX8_isDigit9) dX8_sort_23 ml_RX8_204 ok_mX8_isDigit9 rfl (by decide) rfl (Nat.le_of_ble_eq_true rfl) (Nat.le_of_ble_eq_true rfl) (Nat.le_refl _) (Nat.le_refl _) rfl (t_X8_isDigit9 _ _) ?_
                rintro _ _ ⟨rfl, rfl⟩
                refine zx_if_eq_f (t := 59) (q := 29) dX8_sort_26 (by decide) rfl (zk_t h3) ?_
                refine zx_aload_n (q := 30) dX8_sort_29 rfl rfl rfl ?_
                refine zx_iload (q := 32) dX8_sort_30 rfl rfl ?_
                refine zx_callV1i (q := 35) (y' := mX8_isDigit9) dX8_sort_32 ml_RX8_204 ok_mX8_isDigit9 rfl (by decide) rfl (Nat.le_of_ble_eq_true rfl) (Nat.le_of_ble_eq_true rfl) (Nat.le_refl _) (Nat.le_refl _) rfl (t_X8_isDigit9 _ _) ?_
                rintro _ _ ⟨rfl, rfl⟩
                refine zx_if_eq_f (t := 59) (q := 38) dX8_sort_35 (by decide) rfl (zk_t h4) ?_
                refine zx_aload_n (q := 39) dX8_sort_38 rfl rfl rfl ?_
                refine zx_iload (q := 41) dX8_sort_39 rfl rfl ?_
                refine zx_callV1i (q := 44) (y' := mX8_isDigit9) dX8_sort_41 ml_RX8_204 ok_mX8_isDigit9 rfl (by decide) rfl (Nat.le_of_ble_eq_true rfl) (Nat.le_of_ble_eq_true rfl) (Nat.le_refl _) (Nat.le_refl _) rfl (t_X8_isDigit9 _ _) ?_
                rintro _ _ ⟨rfl, rfl⟩
                refine zx_if_eq_f (t := 59) (q := 47) dX8_sort_44 (by decide) rfl (zk_t h5) ?_
                refine zx_aload_n (q := 48) dX8_sort_47 rfl rfl rfl ?_
                refine zx_iload (q := 50) dX8_sort_48 rfl rfl ?_
                refine zx_iconst (q := 51) (v := 0) dX8_sort_50 (by decide) rfl ?_
                refine zx_bipush (q := 53) (v := 99) dX8_sort_51 (by decide) rfl ?_
                refine zx_callV3i (q := 56) (y' := mX8_in) dX8_sort_53 ml_RX8_200 ok_mX8_in rfl (by decide) rfl (Nat.le_of_ble_eq_true rfl) (Nat.le_of_ble_eq_true rfl) (Nat.le_refl _) (Nat.le_refl _) rfl (t_X8_in _ _ _ _ _) ?_
                rintro _ _ ⟨rfl, rfl⟩
                refine zx_if_ne_t (t := 62) (q := 59) dX8_sort_56 (by decide) rfl (zk_t h6) ?_
                refine zx_aload_n (q := 63) dX8_sort_62 rfl rfl rfl ?_
                refine zy_getIe (q := 66) (v := 5) dX8_sort_63 fl_RX8_7 rfl rfl (hs2) rfl ?_
                refine zx_iconst (q := 67) (v := 5) dX8_sort_66 (by decide) rfl ?_
                refine zx_icmp_ne_f (t := 73) (q := 70) dX8_sort_67 (by decide) rfl (rfl) ?_
                refine zx_bipush (q := 72) (v := (-4)) dX8_sort_70 (by decide) rfl ?_
                refine zx_iret dX8_sort_72 rfl (Nat.le_refl _) (Nat.le_refl _) ⟨_, rfl, ?_⟩
                exact ⟨rfl, _, _, _, rfl, hR⟩
            · show zW l D tc A mX7_sort (d + 2) 0 0 0 0 0 [some (.ref 0), some (.int a), some (.int b), some (.int c), some (.int e), some (.int g), some (.int t), none, none] [] (zs gi gl f) _
              refine zx_iload_n (q := 1) dX7_sort_0 rfl rfl rfl ?_
              refine zx_iconst (q := 2) (v := 0) dX7_sort_1 (by decide) rfl ?_
              refine zx_bipush (q := 4) (v := 6) dX7_sort_2 (by decide) rfl ?_
              refine zx_callS3i (q := 7) (y' := mX7_within) dX7_sort_4 ml_RX7_73 ok_mX7_within (Nat.le_of_ble_eq_true rfl) (Nat.le_of_ble_eq_true rfl) (Nat.le_refl _) (Nat.le_refl _) rfl (t_X7_within _ _ _ _) ?_
              rintro _ _ ⟨rfl, rfl⟩
              refine zx_if_ne_t (t := 12) (q := 10) dX7_sort_7 (by decide) rfl (zk_t h1) ?_
              refine zx_iload_n (q := 13) dX7_sort_12 rfl rfl rfl ?_
              refine zx_callS1i (q := 16) (y' := mX7_isDigit) dX7_sort_13 ml_RX7_77 ok_mX7_isDigit (Nat.le_of_ble_eq_true rfl) (Nat.le_of_ble_eq_true rfl) (Nat.le_refl _) (Nat.le_refl _) rfl (t_X7_isDigit _ _) ?_
              rintro _ _ ⟨rfl, rfl⟩
              refine zx_if_eq_f (t := 53) (q := 19) dX7_sort_16 (by decide) rfl (zk_t h2) ?_
              refine zx_iload_n (q := 20) dX7_sort_19 rfl rfl rfl ?_
              refine zx_callS1i (q := 23) (y' := mX7_isDigit) dX7_sort_20 ml_RX7_77 ok_mX7_isDigit (Nat.le_of_ble_eq_true rfl) (Nat.le_of_ble_eq_true rfl) (Nat.le_refl _) (Nat.le_refl _) rfl (t_X7_isDigit _ _) ?_
              rintro _ _ ⟨rfl, rfl⟩
              refine zx_if_eq_f (t := 53) (q := 26) dX7_sort_23 (by decide) rfl (zk_t h3) ?_
              refine zx_iload (q := 28) dX7_sort_26 rfl rfl ?_
              refine zx_callS1i (q := 31) (y' := mX7_isDigit) dX7_sort_28 ml_RX7_77 ok_mX7_isDigit (Nat.le_of_ble_eq_true rfl) (Nat.le_of_ble_eq_true rfl) (Nat.le_refl _) (Nat.le_refl _) rfl (t_X7_isDigit _ _) ?_
              rintro _ _ ⟨rfl, rfl⟩
              refine zx_if_eq_f (t := 53) (q := 34) dX7_sort_31 (by decide) rfl (zk_t h4) ?_
              refine zx_iload (q := 36) dX7_sort_34 rfl rfl ?_
              refine zx_callS1i (q := 39) (y' := mX7_isDigit) dX7_sort_36 ml_RX7_77 ok_mX7_isDigit (Nat.le_of_ble_eq_true rfl) (Nat.le_of_ble_eq_true rfl) (Nat.le_refl _) (Nat.le_refl _) rfl (t_X7_isDigit _ _) ?_
              rintro _ _ ⟨rfl, rfl⟩
              refine zx_if_eq_f (t := 53) (q := 42) dX7_sort_39 (by decide) rfl (zk_t h5) ?_
              refine zx_iload (q := 44) dX7_sort_42 rfl rfl ?_
              refine zx_iconst (q := 45) (v := 0) dX7_sort_44 (by decide) rfl ?_
              refine zx_bipush (q := 47) (v := 99) dX7_sort_45 (by decide) rfl ?_
              refine zx_callS3i (q := 50) (y' := mX7_within) dX7_sort_47 ml_RX7_73 ok_mX7_within (Nat.le_of_ble_eq_true rfl) (Nat.le_of_ble_eq_true rfl) (Nat.le_refl _) (Nat.le_refl _) rfl (t_X7_within _ _ _ _) ?_
              rintro _ _ ⟨rfl, rfl⟩
              refine zx_if_ne_f (t := 56) (q := 53) dX7_sort_50 (by decide) rfl (zk_f h6) ?_
              refine zx_bipush (q := 55) (v := (-2)) dX7_sort_53 (by decide) rfl ?_
              refine zx_iret dX7_sort_55 rfl (Nat.le_refl _) (Nat.le_refl _) ⟨_, rfl, ?_⟩
              refine ⟨_, _, _, rfl, ?_⟩
              show zW l D tc A mX8_sort (d + 2) 0 0 0 0 0 [some (.ref 108), some (.int a), some (.int b), some (.int c), some (.int e), some (.int g), some (.int t), none] [] (zs _ _ _) _
              refine zx_aload_n (q := 1) dX8_sort_0 rfl rfl rfl ?_
              refine zx_iload_n (q := 2) dX8_sort_1 rfl rfl rfl ?_
              refine zx_iconst (q := 3) (v := 0) dX8_sort_2 (by decide) rfl ?_
              refine zx_bipush (q := 5) (v := 6) dX8_sort_3 (by decide) rfl ?_
              refine zx_callV3i (q := 8) (y' := mX8_in) dX8_sort_5 ml_RX8_200 ok_mX8_in rfl (by decide) rfl (Nat.le_of_ble_eq_true rfl) (Nat.le_of_ble_eq_true rfl) (Nat.le_refl _) (Nat.le_refl _) rfl (t_X8_in _ _ _ _ _) ?_
              rintro _ _ ⟨rfl, rfl⟩
              refine zx_if_ne_t (t := 13) (q := 11) dX8_sort_8 (by decide) rfl (zk_t h1) ?_
              refine zx_aload_n (q := 14) dX8_sort_13 rfl rfl rfl ?_
              refine zx_iload_n (q := 15) dX8_sort_14 rfl rfl rfl ?_
              refine zx_callV1i (q := 18) (y' := mX8_isDigit9) dX8_sort_15 ml_RX8_204 ok_mX8_isDigit9 rfl (by decide) rfl (Nat.le_of_ble_eq_true rfl) (Nat.le_of_ble_eq_true rfl) (Nat.le_refl _) (Nat.le_refl _) rfl (t_X8_isDigit9 _ _) ?_
              rintro _ _ ⟨rfl, rfl⟩
              refine zx_if_eq_f (t := 59) (q := 21) dX8_sort_18 (by decide) rfl (zk_t h2) ?_
              refine zx_aload_n (q := 22) dX8_sort_21 rfl rfl rfl ?_
              refine zx_iload_n (q := 23) dX8_sort_22 rfl rfl rfl ?_
              refine zx_callV1i (q := 26) (y' := mX8_isDigit9) dX8_sort_23 ml_RX8_204 ok_mX8_isDigit9 rfl (by decide) rfl (Nat.le_of_ble_eq_true rfl) (Nat.le_of_ble_eq_true rfl) (Nat.le_refl _) (Nat.le_refl _) rfl (t_X8_isDigit9 _ _) ?_
              rintro _ _ ⟨rfl, rfl⟩
              refine zx_if_eq_f (t := 59) (q := 29) dX8_sort_26 (by decide) rfl (zk_t h3) ?_
              refine zx_aload_n (q := 30) dX8_sort_29 rfl rfl rfl ?_
              refine zx_iload (q := 32) dX8_sort_30 rfl rfl ?_
              refine zx_callV1i (q := 35) (y' := mX8_isDigit9) dX8_sort_32 ml_RX8_204 ok_mX8_isDigit9 rfl (by decide) rfl (Nat.le_of_ble_eq_true rfl) (Nat.le_of_ble_eq_true rfl) (Nat.le_refl _) (Nat.le_refl _) rfl (t_X8_isDigit9 _ _) ?_
              rintro _ _ ⟨rfl, rfl⟩
              refine zx_if_eq_f (t := 59) (q := 38) dX8_sort_35 (by decide) rfl (zk_t h4) ?_
              refine zx_aload_n (q := 39) dX8_sort_38 rfl rfl rfl ?_
              refine zx_iload (q := 41) dX8_sort_39 rfl rfl ?_
              refine zx_callV1i (q := 44) (y' := mX8_isDigit9) dX8_sort_41 ml_RX8_204 ok_mX8_isDigit9 rfl (by decide) rfl (Nat.le_of_ble_eq_true rfl) (Nat.le_of_ble_eq_true rfl) (Nat.le_refl _) (Nat.le_refl _) rfl (t_X8_isDigit9 _ _) ?_
              rintro _ _ ⟨rfl, rfl⟩
              refine zx_if_eq_f (t := 59) (q := 47) dX8_sort_44 (by decide) rfl (zk_t h5) ?_
              refine zx_aload_n (q := 48) dX8_sort_47 rfl rfl rfl ?_
              refine zx_iload (q := 50) dX8_sort_48 rfl rfl ?_
              refine zx_iconst (q := 51) (v := 0) dX8_sort_50 (by decide) rfl ?_
              refine zx_bipush (q := 53) (v := 99) dX8_sort_51 (by decide) rfl ?_
              refine zx_callV3i (q := 56) (y' := mX8_in) dX8_sort_53 ml_RX8_200 ok_mX8_in rfl (by decide) rfl (Nat.le_of_ble_eq_true rfl) (Nat.le_of_ble_eq_true rfl) (Nat.le_refl _) (Nat.le_refl _) rfl (t_X8_in _ _ _ _ _) ?_
              rintro _ _ ⟨rfl, rfl⟩
              refine zx_if_ne_f (t := 62) (q := 59) dX8_sort_56 (by decide) rfl (zk_f h6) ?_
              refine zx_bipush (q := 61) (v := (-2)) dX8_sort_59 (by decide) rfl ?_
              refine zx_iret dX8_sort_61 rfl (Nat.le_refl _) (Nat.le_refl _) ⟨_, rfl, ?_⟩
              exact ⟨rfl, _, _, _, rfl, hR⟩
          · show zW l D tc A mX7_sort (d + 2) 0 0 0 0 0 [some (.ref 0), some (.int a), some (.int b), some (.int c), some (.int e), some (.int g), some (.int t), none, none] [] (zs gi gl f) _
            refine zx_iload_n (q := 1) dX7_sort_0 rfl rfl rfl ?_
            refine zx_iconst (q := 2) (v := 0) dX7_sort_1 (by decide) rfl ?_
            refine zx_bipush (q := 4) (v := 6) dX7_sort_2 (by decide) rfl ?_
            refine zx_callS3i (q := 7) (y' := mX7_within) dX7_sort_4 ml_RX7_73 ok_mX7_within (Nat.le_of_ble_eq_true rfl) (Nat.le_of_ble_eq_true rfl) (Nat.le_refl _) (Nat.le_refl _) rfl (t_X7_within _ _ _ _) ?_
            rintro _ _ ⟨rfl, rfl⟩
            refine zx_if_ne_t (t := 12) (q := 10) dX7_sort_7 (by decide) rfl (zk_t h1) ?_
            refine zx_iload_n (q := 13) dX7_sort_12 rfl rfl rfl ?_
            refine zx_callS1i (q := 16) (y' := mX7_isDigit) dX7_sort_13 ml_RX7_77 ok_mX7_isDigit (Nat.le_of_ble_eq_true rfl) (Nat.le_of_ble_eq_true rfl) (Nat.le_refl _) (Nat.le_refl _) rfl (t_X7_isDigit _ _) ?_
            rintro _ _ ⟨rfl, rfl⟩
            refine zx_if_eq_f (t := 53) (q := 19) dX7_sort_16 (by decide) rfl (zk_t h2) ?_
            refine zx_iload_n (q := 20) dX7_sort_19 rfl rfl rfl ?_
            refine zx_callS1i (q := 23) (y' := mX7_isDigit) dX7_sort_20 ml_RX7_77 ok_mX7_isDigit (Nat.le_of_ble_eq_true rfl) (Nat.le_of_ble_eq_true rfl) (Nat.le_refl _) (Nat.le_refl _) rfl (t_X7_isDigit _ _) ?_
            rintro _ _ ⟨rfl, rfl⟩
            refine zx_if_eq_f (t := 53) (q := 26) dX7_sort_23 (by decide) rfl (zk_t h3) ?_
            refine zx_iload (q := 28) dX7_sort_26 rfl rfl ?_
            refine zx_callS1i (q := 31) (y' := mX7_isDigit) dX7_sort_28 ml_RX7_77 ok_mX7_isDigit (Nat.le_of_ble_eq_true rfl) (Nat.le_of_ble_eq_true rfl) (Nat.le_refl _) (Nat.le_refl _) rfl (t_X7_isDigit _ _) ?_
            rintro _ _ ⟨rfl, rfl⟩
            refine zx_if_eq_f (t := 53) (q := 34) dX7_sort_31 (by decide) rfl (zk_t h4) ?_
            refine zx_iload (q := 36) dX7_sort_34 rfl rfl ?_
            refine zx_callS1i (q := 39) (y' := mX7_isDigit) dX7_sort_36 ml_RX7_77 ok_mX7_isDigit (Nat.le_of_ble_eq_true rfl) (Nat.le_of_ble_eq_true rfl) (Nat.le_refl _) (Nat.le_refl _) rfl (t_X7_isDigit _ _) ?_
            rintro _ _ ⟨rfl, rfl⟩
            refine zx_if_eq_t (t := 53) (q := 42) dX7_sort_39 (by decide) rfl (zk_f h5) ?_
            refine zx_bipush (q := 55) (v := (-2)) dX7_sort_53 (by decide) rfl ?_
            refine zx_iret dX7_sort_55 rfl (Nat.le_refl _) (Nat.le_refl _) ⟨_, rfl, ?_⟩
            refine ⟨_, _, _, rfl, ?_⟩
            show zW l D tc A mX8_sort (d + 2) 0 0 0 0 0 [some (.ref 108), some (.int a), some (.int b), some (.int c), some (.int e), some (.int g), some (.int t), none] [] (zs _ _ _) _
            refine zx_aload_n (q := 1) dX8_sort_0 rfl rfl rfl ?_
            refine zx_iload_n (q := 2) dX8_sort_1 rfl rfl rfl ?_
            refine zx_iconst (q := 3) (v := 0) dX8_sort_2 (by decide) rfl ?_
            refine zx_bipush (q := 5) (v := 6) dX8_sort_3 (by decide) rfl ?_
            refine zx_callV3i (q := 8) (y' := mX8_in) dX8_sort_5 ml_RX8_200 ok_mX8_in rfl (by decide) rfl (Nat.le_of_ble_eq_true rfl) (Nat.le_of_ble_eq_true rfl) (Nat.le_refl _) (Nat.le_refl _) rfl (t_X8_in _ _ _ _ _) ?_
            rintro _ _ ⟨rfl, rfl⟩
            refine zx_if_ne_t (t := 13) (q := 11) dX8_sort_8 (by decide) rfl (zk_t h1) ?_
            refine zx_aload_n (q := 14) dX8_sort_13 rfl rfl rfl ?_
            refine zx_iload_n (q := 15) dX8_sort_14 rfl rfl rfl ?_
            refine zx_callV1i (q := 18) (y' := mX8_isDigit9) dX8_sort_15 ml_RX8_204 ok_mX8_isDigit9 rfl (by decide) rfl (Nat.le_of_ble_eq_true rfl) (Nat.le_of_ble_eq_true rfl) (Nat.le_refl _) (Nat.le_refl _) rfl (t_X8_isDigit9 _ _) ?_
            rintro _ _ ⟨rfl, rfl⟩
            refine zx_if_eq_f (t := 59) (q := 21) dX8_sort_18 (by decide) rfl (zk_t h2) ?_
            refine zx_aload_n (q := 22) dX8_sort_21 rfl rfl rfl ?_
            refine zx_iload_n (q := 23) dX8_sort_22 rfl rfl rfl ?_
            refine zx_callV1i (q := 26) (y' := mX8_isDigit9) dX8_sort_23 ml_RX8_204 ok_mX8_isDigit9 rfl (by decide) rfl (Nat.le_of_ble_eq_true rfl) (Nat.le_of_ble_eq_true rfl) (Nat.le_refl _) (Nat.le_refl _) rfl (t_X8_isDigit9 _ _) ?_
            rintro _ _ ⟨rfl, rfl⟩
            refine zx_if_eq_f (t := 59) (q := 29) dX8_sort_26 (by decide) rfl (zk_t h3) ?_
            refine zx_aload_n (q := 30) dX8_sort_29 rfl rfl rfl ?_
            refine zx_iload (q := 32) dX8_sort_30 rfl rfl ?_
            refine zx_callV1i (q := 35) (y' := mX8_isDigit9) dX8_sort_32 ml_RX8_204 ok_mX8_isDigit9 rfl (by decide) rfl (Nat.le_of_ble_eq_true rfl) (Nat.le_of_ble_eq_true rfl) (Nat.le_refl _) (Nat.le_refl _) rfl (t_X8_isDigit9 _ _) ?_
            rintro _ _ ⟨rfl, rfl⟩
            refine zx_if_eq_f (t := 59) (q := 38) dX8_sort_35 (by decide) rfl (zk_t h4) ?_
            refine zx_aload_n (q := 39) dX8_sort_38 rfl rfl rfl ?_
            refine zx_iload (q := 41) dX8_sort_39 rfl rfl ?_
            refine zx_callV1i (q := 44) (y' := mX8_isDigit9) dX8_sort_41 ml_RX8_204 ok_mX8_isDigit9 rfl (by decide) rfl (Nat.le_of_ble_eq_true rfl) (Nat.le_of_ble_eq_true rfl) (Nat.le_refl _) (Nat.le_refl _) rfl (t_X8_isDigit9 _ _) ?_
            rintro _ _ ⟨rfl, rfl⟩
            refine zx_if_eq_t (t := 59) (q := 47) dX8_sort_44 (by decide) rfl (zk_f h5) ?_
            refine zx_bipush (q := 61) (v := (-2)) dX8_sort_59 (by decide) rfl ?_
            refine zx_iret dX8_sort_61 rfl (Nat.le_refl _) (Nat.le_refl _) ⟨_, rfl, ?_⟩
            exact ⟨rfl, _, _, _, rfl, hR⟩
        · show zW l D tc A mX7_sort (d + 2) 0 0 0 0 0 [some (.ref 0), some (.int a), some (.int b), some (.int c), some (.int e), some (.int g), some (.int t), none, none] [] (zs gi gl f) _
          refine zx_iload_n (q := 1) dX7_sort_0 rfl rfl rfl ?_
          refine zx_iconst (q := 2) (v := 0) dX7_sort_1 (by decide) rfl ?_
          refine zx_bipush (q := 4) (v := 6) dX7_sort_2 (by decide) rfl ?_
          refine zx_callS3i (q := 7) (y' := mX7_within) dX7_sort_4 ml_RX7_73 ok_mX7_within (Nat.le_of_ble_eq_true rfl) (Nat.le_of_ble_eq_true rfl) (Nat.le_refl _) (Nat.le_refl _) rfl (t_X7_within _ _ _ _) ?_
          rintro _ _ ⟨rfl, rfl⟩
          refine zx_if_ne_t (t := 12) (q := 10) dX7_sort_7 (by decide) rfl (zk_t h1) ?_
          refine zx_iload_n (q := 13) dX7_sort_12 rfl rfl rfl ?_
          refine zx_callS1i (q := 16) (y' := mX7_isDigit) dX7_sort_13 ml_RX7_77 ok_mX7_isDigit (Nat.le_of_ble_eq_true rfl) (Nat.le_of_ble_eq_true rfl) (Nat.le_refl _) (Nat.le_refl _) rfl (t_X7_isDigit _ _) ?_
          rintro _ _ ⟨rfl, rfl⟩
          refine zx_if_eq_f (t := 53) (q := 19) dX7_sort_16 (by decide) rfl (zk_t h2) ?_
          refine zx_iload_n (q := 20) dX7_sort_19 rfl rfl rfl ?_
          refine zx_callS1i (q := 23) (y' := mX7_isDigit) dX7_sort_20 ml_RX7_77 ok_mX7_isDigit (Nat.le_of_ble_eq_true rfl) (Nat.le_of_ble_eq_true rfl) (Nat.le_refl _) (Nat.le_refl _) rfl (t_X7_isDigit _ _) ?_
          rintro _ _ ⟨rfl, rfl⟩
          refine zx_if_eq_f (t := 53) (q := 26) dX7_sort_23 (by decide) rfl (zk_t h3) ?_
          refine zx_iload (q := 28) dX7_sort_26 rfl rfl ?_
          refine zx_callS1i (q := 31) (y' := mX7_isDigit) dX7_sort_28 ml_RX7_77 ok_mX7_isDigit (Nat.le_of_ble_eq_true rfl) (Nat.le_of_ble_eq_true rfl) (Nat.le_refl _) (Nat.le_refl _) rfl (t_X7_isDigit _ _) ?_
          rintro _ _ ⟨rfl, rfl⟩
          refine zx_if_eq_t (t := 53) (q := 34) dX7_sort_31 (by decide) rfl (zk_f h4) ?_
          refine zx_bipush (q := 55) (v := (-2)) dX7_sort_53 (by decide) rfl ?_
          refine zx_iret dX7_sort_55 rfl (Nat.le_refl _) (Nat.le_refl _) ⟨_, rfl, ?_⟩
          refine ⟨_, _, _, rfl, ?_⟩
          show zW l D tc A mX8_sort (d + 2) 0 0 0 0 0 [some (.ref 108), some (.int a), some (.int b), some (.int c), some (.int e), some (.int g), some (.int t), none] [] (zs _ _ _) _
          refine zx_aload_n (q := 1) dX8_sort_0 rfl rfl rfl ?_
          refine zx_iload_n (q := 2) dX8_sort_1 rfl rfl rfl ?_
          refine zx_iconst (q := 3) (v := 0) dX8_sort_2 (by decide) rfl ?_
          refine zx_bipush (q := 5) (v := 6) dX8_sort_3 (by decide) rfl ?_
          refine zx_callV3i (q := 8) (y' := mX8_in) dX8_sort_5 ml_RX8_200 ok_mX8_in rfl (by decide) rfl (Nat.le_of_ble_eq_true rfl) (Nat.le_of_ble_eq_true rfl) (Nat.le_refl _) (Nat.le_refl _) rfl (t_X8_in _ _ _ _ _) ?_
          rintro _ _ ⟨rfl, rfl⟩
          refine zx_if_ne_t (t := 13) (q := 11) dX8_sort_8 (by decide) rfl (zk_t h1) ?_
          refine zx_aload_n (q := 14) dX8_sort_13 rfl rfl rfl ?_
          refine zx_iload_n (q := 15) dX8_sort_14 rfl rfl rfl ?_
          refine zx_callV1i (q := 18) (y' := mX8_isDigit9) dX8_sort_15 ml_RX8_204 ok_mX8_isDigit9 rfl (by decide) rfl (Nat.le_of_ble_eq_true rfl) (Nat.le_of_ble_eq_true rfl) (Nat.le_refl _) (Nat.le_refl _) rfl (t_X8_isDigit9 _ _) ?_
          rintro _ _ ⟨rfl, rfl⟩
          refine zx_if_eq_f (t := 59) (q := 21) dX8_sort_18 (by decide) rfl (zk_t h2) ?_
          refine zx_aload_n (q := 22) dX8_sort_21 rfl rfl rfl ?_
          refine zx_iload_n (q := 23) dX8_sort_22 rfl rfl rfl ?_
          refine zx_callV1i (q := 26) (y' := mX8_isDigit9) dX8_sort_23 ml_RX8_204 ok_mX8_isDigit9 rfl (by decide) rfl (Nat.le_of_ble_eq_true rfl) (Nat.le_of_ble_eq_true rfl) (Nat.le_refl _) (Nat.le_refl _) rfl (t_X8_isDigit9 _ _) ?_
          rintro _ _ ⟨rfl, rfl⟩
          refine zx_if_eq_f (t := 59) (q := 29) dX8_sort_26 (by decide) rfl (zk_t h3) ?_
          refine zx_aload_n (q := 30) dX8_sort_29 rfl rfl rfl ?_
          refine zx_iload (q := 32) dX8_sort_30 rfl rfl ?_
          refine zx_callV1i (q := 35) (y' := mX8_isDigit9) dX8_sort_32 ml_RX8_204 ok_mX8_isDigit9 rfl (by decide) rfl (Nat.le_of_ble_eq_true rfl) (Nat.le_of_ble_eq_true rfl) (Nat.le_refl _) (Nat.le_refl _) rfl (t_X8_isDigit9 _ _) ?_
          rintro _ _ ⟨rfl, rfl⟩
          refine zx_if_eq_t (t := 59) (q := 38) dX8_sort_35 (by decide) rfl (zk_f h4) ?_
          refine zx_bipush (q := 61) (v := (-2)) dX8_sort_59 (by decide) rfl ?_
          refine zx_iret dX8_sort_61 rfl (Nat.le_refl _) (Nat.le_refl _) ⟨_, rfl, ?_⟩
          exact ⟨rfl, _, _, _, rfl, hR⟩
      · show zW l D tc A mX7_sort (d + 2) 0 0 0 0 0 [some (.ref 0), some (.int a), some (.int b), some (.int c), some (.int e), some (.int g), some (.int t), none, none] [] (zs gi gl f) _
        refine zx_iload_n (q := 1) dX7_sort_0 rfl rfl rfl ?_
        refine zx_iconst (q := 2) (v := 0) dX7_sort_1 (by decide) rfl ?_
        refine zx_bipush (q := 4) (v := 6) dX7_sort_2 (by decide) rfl ?_
        refine zx_callS3i (q := 7) (y' := mX7_within) dX7_sort_4 ml_RX7_73 ok_mX7_within (Nat.le_of_ble_eq_true rfl) (Nat.le_of_ble_eq_true rfl) (Nat.le_refl _) (Nat.le_refl _) rfl (t_X7_within _ _ _ _) ?_
        rintro _ _ ⟨rfl, rfl⟩
        refine zx_if_ne_t (t := 12) (q := 10) dX7_sort_7 (by decide) rfl (zk_t h1) ?_
        refine zx_iload_n (q := 13) dX7_sort_12 rfl rfl rfl ?_
        refine zx_callS1i (q := 16) (y' := mX7_isDigit) dX7_sort_13 ml_RX7_77 ok_mX7_isDigit (Nat.le_of_ble_eq_true rfl) (Nat.le_of_ble_eq_true rfl) (Nat.le_refl _) (Nat.le_refl _) rfl (t_X7_isDigit _ _) ?_
        rintro _ _ ⟨rfl, rfl⟩
        refine zx_if_eq_f (t := 53) (q := 19) dX7_sort_16 (by decide) rfl (zk_t h2) ?_
        refine zx_iload_n (q := 20) dX7_sort_19 rfl rfl rfl ?_
        refine zx_callS1i (q := 23) (y' := mX7_isDigit) dX7_sort_20 ml_RX7_77 ok_mX7_isDigit (Nat.le_of_ble_eq_true rfl) (Nat.le_of_ble_eq_true rfl) (Nat.le_refl _) (Nat.le_refl _) rfl (t_X7_isDigit _ _) ?_
        rintro _ _ ⟨rfl, rfl⟩
        refine zx_if_eq_t (t := 53) (q := 26) dX7_sort_23 (by decide) rfl (zk_f h3) ?_
        refine zx_bipush (q := 55) (v := (-2)) dX7_sort_53 (by decide) rfl ?_
        refine zx_iret dX7_sort_55 rfl (Nat.le_refl _) (Nat.le_refl _) ⟨_, rfl, ?_⟩
        refine ⟨_, _, _, rfl, ?_⟩
        show zW l D tc A mX8_sort (d + 2) 0 0 0 0 0 [some (.ref 108), some (.int a), some (.int b), some (.int c), some (.int e), some (.int g), some (.int t), none] [] (zs _ _ _) _
        refine zx_aload_n (q := 1) dX8_sort_0 rfl rfl rfl ?_
        refine zx_iload_n (q := 2) dX8_sort_1 rfl rfl rfl ?_
        refine zx_iconst (q := 3) (v := 0) dX8_sort_2 (by decide) rfl ?_
        refine zx_bipush (q := 5) (v := 6) dX8_sort_3 (by decide) rfl ?_
        refine zx_callV3i (q := 8) (y' := mX8_in) dX8_sort_5 ml_RX8_200 ok_mX8_in rfl (by decide) rfl (Nat.le_of_ble_eq_true rfl) (Nat.le_of_ble_eq_true rfl) (Nat.le_refl _) (Nat.le_refl _) rfl (t_X8_in _ _ _ _ _) ?_
        rintro _ _ ⟨rfl, rfl⟩
        refine zx_if_ne_t (t := 13) (q := 11) dX8_sort_8 (by decide) rfl (zk_t h1) ?_
        refine zx_aload_n (q := 14) dX8_sort_13 rfl rfl rfl ?_
        refine zx_iload_n (q := 15) dX8_sort_14 rfl rfl rfl ?_
        refine zx_callV1i (q := 18) (y' := mX8_isDigit9) dX8_sort_15 ml_RX8_204 ok_mX8_isDigit9 rfl (by decide) rfl (Nat.le_of_ble_eq_true rfl) (Nat.le_of_ble_eq_true rfl) (Nat.le_refl _) (Nat.le_refl _) rfl (t_X8_isDigit9 _ _) ?_
        rintro _ _ ⟨rfl, rfl⟩
        refine zx_if_eq_f (t := 59) (q := 21) dX8_sort_18 (by decide) rfl (zk_t h2) ?_
        refine zx_aload_n (q := 22) dX8_sort_21 rfl rfl rfl ?_
        refine zx_iload_n (q := 23) dX8_sort_22 rfl rfl rfl ?_
        refine zx_callV1i (q := 26) (y' := mX8_isDigit9) dX8_sort_23 ml_RX8_204 ok_mX8_isDigit9 rfl (by decide) rfl (Nat.le_of_ble_eq_true rfl) (Nat.le_of_ble_eq_true rfl) (Nat.le_refl _) (Nat.le_refl _) rfl (t_X8_isDigit9 _ _) ?_
        rintro _ _ ⟨rfl, rfl⟩
        refine zx_if_eq_t (t := 59) (q := 29) dX8_sort_26 (by decide) rfl (zk_f h3) ?_
        refine zx_bipush (q := 61) (v := (-2)) dX8_sort_59 (by decide) rfl ?_
        refine zx_iret dX8_sort_61 rfl (Nat.le_refl _) (Nat.le_refl _) ⟨_, rfl, ?_⟩
        exact ⟨rfl, _, _, _, rfl, hR⟩
    · show zW l D tc A mX7_sort (d + 2) 0 0 0 0 0 [some (.ref 0), some (.int a), some (.int b), some (.int c), some (.int e), some (.int g), some (.int t), none, none] [] (zs gi gl f) _
      refine zx_iload_n (q := 1) dX7_sort_0 rfl rfl rfl ?_
      refine zx_iconst (q := 2) (v := 0) dX7_sort_1 (by decide) rfl ?_
      refine zx_bipush (q := 4) (v := 6) dX7_sort_2 (by decide) rfl ?_
      refine zx_callS3i (q := 7) (y' := mX7_within) dX7_sort_4 ml_RX7_73 ok_mX7_within (Nat.le_of_ble_eq_true rfl) (Nat.le_of_ble_eq_true rfl) (Nat.le_refl _) (Nat.le_refl _) rfl (t_X7_within _ _ _ _) ?_
      rintro _ _ ⟨rfl, rfl⟩
      refine zx_if_ne_t (t := 12) (q := 10) dX7_sort_7 (by decide) rfl (zk_t h1) ?_
      refine zx_iload_n (q := 13) dX7_sort_12 rfl rfl rfl ?_
      refine zx_callS1i (q := 16) (y' := mX7_isDigit) dX7_sort_13 ml_RX7_77 ok_mX7_isDigit (Nat.le_of_ble_eq_true rfl) (Nat.le_of_ble_eq_true rfl) (Nat.le_refl _) (Nat.le_refl _) rfl (t_X7_isDigit _ _) ?_
      rintro _ _ ⟨rfl, rfl⟩
      refine zx_if_eq_t (t := 53) (q := 19) dX7_sort_16 (by decide) rfl (zk_f h2) ?_
      refine zx_bipush (q := 55) (v := (-2)) dX7_sort_53 (by decide) rfl ?_
      refine zx_iret dX7_sort_55 rfl (Nat.le_refl _) (Nat.le_refl _) ⟨_, rfl, ?_⟩
      refine ⟨_, _, _, rfl, ?_⟩
      show zW l D tc A mX8_sort (d + 2) 0 0 0 0 0 [some (.ref 108), some (.int a), some (.int b), some (.int c), some (.int e), some (.int g), some (.int t), none] [] (zs _ _ _) _
      refine zx_aload_n (q := 1) dX8_sort_0 rfl rfl rfl ?_
      refine zx_iload_n (q := 2) dX8_sort_1 rfl rfl rfl ?_
      refine zx_iconst (q := 3) (v := 0) dX8_sort_2 (by decide) rfl ?_
      refine zx_bipush (q := 5) (v := 6) dX8_sort_3 (by decide) rfl ?_
      refine zx_callV3i (q := 8) (y' := mX8_in) dX8_sort_5 ml_RX8_200 ok_mX8_in rfl (by decide) rfl (Nat.le_of_ble_eq_true rfl) (Nat.le_of_ble_eq_true rfl) (Nat.le_refl _) (Nat.le_refl _) rfl (t_X8_in _ _ _ _ _) ?_
      rintro _ _ ⟨rfl, rfl⟩
      refine zx_if_ne_t (t := 13) (q := 11) dX8_sort_8 (by decide) rfl (zk_t h1) ?_
      refine zx_aload_n (q := 14) dX8_sort_13 rfl rfl rfl ?_
      refine zx_iload_n (q := 15) dX8_sort_14 rfl rfl rfl ?_
      refine zx_callV1i (q := 18) (y' := mX8_isDigit9) dX8_sort_15 ml_RX8_204 ok_mX8_isDigit9 rfl (by decide) rfl (Nat.le_of_ble_eq_true rfl) (Nat.le_of_ble_eq_true rfl) (Nat.le_refl _) (Nat.le_refl _) rfl (t_X8_isDigit9 _ _) ?_
      rintro _ _ ⟨rfl, rfl⟩
      refine zx_if_eq_t (t := 59) (q := 21) dX8_sort_18 (by decide) rfl (zk_f h2) ?_
      refine zx_bipush (q := 61) (v := (-2)) dX8_sort_59 (by decide) rfl ?_
      refine zx_iret dX8_sort_61 rfl (Nat.le_refl _) (Nat.le_refl _) ⟨_, rfl, ?_⟩
      exact ⟨rfl, _, _, _, rfl, hR⟩
  · show zW l D tc A mX7_sort (d + 2) 0 0 0 0 0 [some (.ref 0), some (.int a), some (.int b), some (.int c), some (.int e), some (.int g), some (.int t), none, none] [] (zs gi gl f) _
    refine zx_iload_n (q := 1) dX7_sort_0 rfl rfl rfl ?_
    refine zx_iconst (q := 2) (v := 0) dX7_sort_1 (by decide) rfl ?_
    refine zx_bipush (q := 4) (v := 6) dX7_sort_2 (by decide) rfl ?_
    refine zx_callS3i (q := 7) (y' := mX7_within) dX7_sort_4 ml_RX7_73 ok_mX7_within (Nat.le_of_ble_eq_true rfl) (Nat.le_of_ble_eq_true rfl) (Nat.le_refl _) (Nat.le_refl _) rfl (t_X7_within _ _ _ _) ?_
    rintro _ _ ⟨rfl, rfl⟩
    refine zx_if_ne_f (t := 12) (q := 10) dX7_sort_7 (by decide) rfl (zk_f h1) ?_
    refine zx_iconst (q := 11) (v := (-1)) dX7_sort_10 (by decide) rfl ?_
    refine zx_iret dX7_sort_11 rfl (Nat.le_refl _) (Nat.le_refl _) ⟨_, rfl, ?_⟩
    refine ⟨_, _, _, rfl, ?_⟩
    show zW l D tc A mX8_sort (d + 2) 0 0 0 0 0 [some (.ref 108), some (.int a), some (.int b), some (.int c), some (.int e), some (.int g), some (.int t), none] [] (zs _ _ _) _
    refine zx_aload_n (q := 1) dX8_sort_0 rfl rfl rfl ?_
    refine zx_iload_n (q := 2) dX8_sort_1 rfl rfl rfl ?_
    refine zx_iconst (q := 3) (v := 0) dX8_sort_2 (by decide) rfl ?_
    refine zx_bipush (q := 5) (v := 6) dX8_sort_3 (by decide) rfl ?_
    refine zx_callV3i (q := 8) (y' := mX8_in) dX8_sort_5 ml_RX8_200 ok_mX8_in rfl (by decide) rfl (Nat.le_of_ble_eq_true rfl) (Nat.le_of_ble_eq_true rfl) (Nat.le_refl _) (Nat.le_refl _) rfl (t_X8_in _ _ _ _ _) ?_
    rintro _ _ ⟨rfl, rfl⟩
    refine zx_if_ne_f (t := 13) (q := 11) dX8_sort_8 (by decide) rfl (zk_f h1) ?_
    refine zx_iconst (q := 12) (v := (-1)) dX8_sort_11 (by decide) rfl ?_
    refine zx_iret dX8_sort_12 rfl (Nat.le_refl _) (Nat.le_refl _) ⟨_, rfl, ?_⟩
    exact ⟨rfl, _, _, _, rfl, hR⟩
end P17
