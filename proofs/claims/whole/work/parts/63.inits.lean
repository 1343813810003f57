/-! the constructors -/
theorem zw_wl1 {b M : Nat} (h : b < M) : zw_wl M [some (.ref b)] = true := by
  show ((decide (b < M) || decide (100000 ≤ b)) && true) = true
  rw [decide_eq_true h]
  rfl
theorem zw_wl2 {b a M : Nat} (h : b < M) (h2 : a < M) : zw_wl M [some (.ref b), some (.ref a)] = true := by
  show ((decide (b < M) || decide (100000 ≤ b)) && ((decide (a < M) || decide (100000 ≤ a)) && true)) = true
  rw [decide_eq_true h, decide_eq_true h2]
  rfl
theorem zw_st1 {b M : Nat} (h : b < M) : ([.ref b] : List Value).all (zw_wv M) = true := by
  show ((decide (b < M) || decide (100000 ≤ b)) && true) = true
  rw [decide_eq_true h]
  rfl
section ZI
variable {l : Launch} {D : va_G} {tc : Nat → ClassId} {A : Nat → Prop} {y y' : zw_M} {mc ms k n mc' ms' pc q N M : Nat} {L : List (Option Value)} {st : List Value} {Q : Option Value → zw_S → Prop} {sh X X' Y : List (Nat × Nat)} {I I' : List ((Nat × Nat) × Int32)} {R R' : List ((Nat × Nat) × Nat)}
theorem zi_in0 : Cond.instantiable (zw_R 0) (zw_N 0) ∈ zw_Tb ∧ Cond.initialized (zw_R 0) ∈ zw_Tb := ⟨zw_mem 293 (by decide +kernel) (by decide +kernel), zw_mem 92 (by decide +kernel) (by decide +kernel)⟩
theorem zi_in1 : Cond.instantiable (zw_R 1) (zw_N 1) ∈ zw_Tb ∧ Cond.initialized (zw_R 1) ∈ zw_Tb := ⟨zw_mem 189 (by decide +kernel) (by decide +kernel), zw_mem 89 (by decide +kernel) (by decide +kernel)⟩
theorem zi_in2 : Cond.instantiable (zw_R 2) (zw_N 2) ∈ zw_Tb ∧ Cond.initialized (zw_R 2) ∈ zw_Tb := ⟨zw_mem 165 (by decide +kernel) (by decide +kernel), zw_mem 88 (by decide +kernel) (by decide +kernel)⟩
theorem zi_in3 : Cond.instantiable (zw_R 3) (zw_N 3) ∈ zw_Tb ∧ Cond.initialized (zw_R 3) ∈ zw_Tb := ⟨zw_mem 244 (by decide +kernel) (by decide +kernel), zw_mem 91 (by decide +kernel) (by decide +kernel)⟩
theorem zi_in4 : Cond.instantiable (zw_R 4) (zw_N 4) ∈ zw_Tb ∧ Cond.initialized (zw_R 4) ∈ zw_Tb := ⟨zw_mem 215 (by decide +kernel) (by decide +kernel), zw_mem 90 (by decide +kernel) (by decide +kernel)⟩
theorem zi_in5 : Cond.instantiable (zw_R 5) (zw_N 5) ∈ zw_Tb ∧ Cond.initialized (zw_R 5) ∈ zw_Tb := ⟨zw_mem 112 (by decide +kernel) (by decide +kernel), zw_mem 87 (by decide +kernel) (by decide +kernel)⟩
theorem zi_in6 : Cond.instantiable (zw_R 6) (zw_N 6) ∈ zw_Tb ∧ Cond.initialized (zw_R 6) ∈ zw_Tb := ⟨zw_mem 318 (by decide +kernel) (by decide +kernel), zw_mem 93 (by decide +kernel) (by decide +kernel)⟩
theorem zi_in7 : Cond.instantiable (zw_R 7) (zw_N 7) ∈ zw_Tb ∧ Cond.initialized (zw_R 7) ∈ zw_Tb := ⟨zw_mem 104 (by decide +kernel) (by decide +kernel), zw_mem 86 (by decide +kernel) (by decide +kernel)⟩
theorem zi_in8 : Cond.instantiable (zw_R 8) (zw_N 8) ∈ zw_Tb ∧ Cond.initialized (zw_R 8) ∈ zw_Tb := ⟨zw_mem 887 (by decide +kernel) (by decide +kernel), zw_mem 94 (by decide +kernel) (by decide +kernel)⟩
set_option maxHeartbeats 4000000 in
theorem t_X5_init {b : Nat} (d : Nat) (hN : sh.length = N) (hb : sh[b]? = some (0, 5)) (hz : zk N I R) (hlt : N < 90000) : zCall l D tc A mX5_init (d + 1) 18 94 [.ref b] (zm sh [] I R) (zQv fun S' => S' = zm sh [(5, 5), (1, 6), (1, 6), (1, 6), (1, 6), (1, 6), (5, 5), (1, 3), (1, 3), (1, 3), (1, 3), (1, 3), (5, 2), (1, 5), (1, 5), (1, 3), (1, 12), (1, 12)] (((b, 9), -1) :: (((N + 15), 2), -1) :: (((N + 15), 1), -1) :: (((N + 15), 0), -1) :: I) (((b, 8), (N + 17)) :: ((b, 7), (N + 16)) :: ((b, 5), (N + 15)) :: ((b, 3), (N + 12)) :: (((N + 12), 1), (N + 14)) :: (((N + 12), 0), (N + 13)) :: ((b, 2), (N + 6)) :: (((N + 6), 4), (N + 11)) :: (((N + 6), 3), (N + 10)) :: (((N + 6), 2), (N + 9)) :: (((N + 6), 1), (N + 8)) :: (((N + 6), 0), (N + 7)) :: ((b, 1), (N + 0)) :: (((N + 0), 4), (N + 5)) :: (((N + 0), 3), (N + 4)) :: (((N + 0), 2), (N + 3)) :: (((N + 0), 1), (N + 2)) :: (((N + 0), 0), (N + 1)) :: R)) := by
  have hbN : b < N := by rw [← hN]; exact (List.getElem?_eq_some_iff.mp hb).1
  show zW l D tc A mX5_init (d + 1) 18 94 0 0 0 [some (.ref b)] [] _ _
  refine zx_aload_n (i := 0) dX5_init_0 rfl rfl rfl ?_
  refine zx_objI dX5_init_1 ml_RX5_3 (by decide) rfl ?_
  refine zx_aload_n (i := 0) dX5_init_4 rfl rfl rfl ?_
  refine zx_iconst (v := 5) dX5_init_5 rfl rfl ?_
  refine zx_bipush (v := 6) dX5_init_6 rfl rfl ?_
  refine zm_mna (nn := 5) (mm := 6) (X' := [(5, 5), (1, 6), (1, 6), (1, 6), (1, 6), (1, 6)]) (R' := (((N + 0), 4), (N + 5)) :: (((N + 0), 3), (N + 4)) :: (((N + 0), 2), (N + 3)) :: (((N + 0), 1), (N + 2)) :: (((N + 0), 0), (N + 1)) :: R) (M := N + 0) dX5_init_8 kk_RX5_9 (by decide) (by decide) rfl rfl (by decide) (by decide) (hz.mono (by omega)) (zm_len (i := 0) hN rfl) rfl rfl (by omega) (by omega) (by omega) (zw_wl1 (by omega)) (zw_st1 (by omega)) rfl ?_
  have hz1 := (((((hz.mono (show _ ≤ N + 6 by omega)).consR (k := N + 0) (j := 0) (v := N + 1) (by omega)).consR (k := N + 0) (j := 1) (v := N + 2) (by omega)).consR (k := N + 0) (j := 2) (v := N + 3) (by omega)).consR (k := N + 0) (j := 3) (v := N + 4) (by omega)).consR (k := N + 0) (j := 4) (v := N + 5) (by omega)
  refine zm_putRF dX5_init_12 fl_RX5_11 rfl rfl rfl rfl (zm_own hb) (by rw [zm_len (i := 6) hN rfl]; omega) rfl ?_
  have hz2 := (hz1.mono (show _ ≤ N + 6 by omega)).consR (k := b) (j := 1) (v := (N + 0)) (by omega)
  refine zx_aload_n (i := 0) dX5_init_15 rfl rfl rfl ?_
  refine zx_iconst (v := 5) dX5_init_16 rfl rfl ?_
  refine zx_iconst (v := 3) dX5_init_17 rfl rfl ?_
  refine zm_mna (nn := 5) (mm := 3) (X' := [(5, 5), (1, 6), (1, 6), (1, 6), (1, 6), (1, 6), (5, 5), (1, 3), (1, 3), (1, 3), (1, 3), (1, 3)]) (R' := (((N + 6), 4), (N + 11)) :: (((N + 6), 3), (N + 10)) :: (((N + 6), 2), (N + 9)) :: (((N + 6), 1), (N + 8)) :: (((N + 6), 0), (N + 7)) :: ((b, 1), (N + 0)) :: (((N + 0), 4), (N + 5)) :: (((N + 0), 3), (N + 4)) :: (((N + 0), 2), (N + 3)) :: (((N + 0), 1), (N + 2)) :: (((N + 0), 0), (N + 1)) :: R) (M := N + 6) dX5_init_18 kk_RX5_9 (by decide) (by decide) rfl rfl (by decide) (by decide) (hz2.mono (by omega)) (zm_len (i := 6) hN rfl) rfl rfl (by omega) (by omega) (by omega) (zw_wl1 (by omega)) (zw_st1 (by omega)) rfl ?_
  have hz3 := (((((hz2.mono (show _ ≤ N + 12 by omega)).consR (k := N + 6) (j := 0) (v := N + 7) (by omega)).consR (k := N + 6) (j := 1) (v := N + 8) (by omega)).consR (k := N + 6) (j := 2) (v := N + 9) (by omega)).consR (k := N + 6) (j := 3) (v := N + 10) (by omega)).consR (k := N + 6) (j := 4) (v := N + 11) (by omega)
  refine zm_putRF dX5_init_22 fl_RX5_16 rfl rfl rfl rfl (zm_own hb) (by rw [zm_len (i := 12) hN rfl]; omega) rfl ?_
  have hz4 := (hz3.mono (show _ ≤ N + 12 by omega)).consR (k := b) (j := 2) (v := (N + 6)) (by omega)
  refine zx_aload_n (i := 0) dX5_init_25 rfl rfl rfl ?_
  refine zx_iconst (v := 2) dX5_init_26 rfl rfl ?_
  refine zx_iconst (v := 5) dX5_init_27 rfl rfl ?_
  refine zm_mna (nn := 2) (mm := 5) (X' := [(5, 5), (1, 6), (1, 6), (1, 6), (1, 6), (1, 6), (5, 5), (1, 3), (1, 3), (1, 3), (1, 3), (1, 3), (5, 2), (1, 5), (1, 5)]) (R' := (((N + 12), 1), (N + 14)) :: (((N + 12), 0), (N + 13)) :: ((b, 2), (N + 6)) :: (((N + 6), 4), (N + 11)) :: (((N + 6), 3), (N + 10)) :: (((N + 6), 2), (N + 9)) :: (((N + 6), 1), (N + 8)) :: (((N + 6), 0), (N + 7)) :: ((b, 1), (N + 0)) :: (((N + 0), 4), (N + 5)) :: (((N + 0), 3), (N + 4)) :: (((N + 0), 2), (N + 3)) :: (((N + 0), 1), (N + 2)) :: (((N + 0), 0), (N + 1)) :: R) (M := N + 12) dX5_init_28 kk_RX5_9 (by decide) (by decide) rfl rfl (by decide) (by decide) (hz4.mono (by omega)) (zm_len (i := 12) hN rfl) rfl rfl (by omega) (by omega) (by omega) (zw_wl1 (by omega)) (zw_st1 (by omega)) rfl ?_
  have hz5 := ((hz4.mono (show _ ≤ N + 15 by omega)).consR (k := N + 12) (j := 0) (v := N + 13) (by omega)).consR (k := N + 12) (j := 1) (v := N + 14) (by omega)
  refine zm_putRF dX5_init_32 fl_RX5_19 rfl rfl rfl rfl (zm_own hb) (by rw [zm_len (i := 15) hN rfl]; omega) rfl ?_
  have hz6 := (hz5.mono (show _ ≤ N + 15 by omega)).consR (k := b) (j := 3) (v := (N + 12)) (by omega)
  refine zx_aload_n (i := 0) dX5_init_35 rfl rfl rfl ?_
  refine zx_iconst (v := 3) dX5_init_36 rfl rfl ?_
  refine zm_newaI (nn := 3) (X' := [(5, 5), (1, 6), (1, 6), (1, 6), (1, 6), (1, 6), (5, 5), (1, 3), (1, 3), (1, 3), (1, 3), (1, 3), (5, 2), (1, 5), (1, 5), (1, 3)]) (M := N + 15) dX5_init_37 (by decide) rfl (by decide) (hz6.mono (by omega)) (zm_len (i := 15) hN rfl) rfl (by omega) (by omega) (by omega) (zw_wl1 (by omega)) (zw_st1 (by omega)) rfl ?_
  refine zx_dup dX5_init_39 rfl rfl ?_
  refine zx_iconst (v := 0) dX5_init_40 rfl rfl ?_
  refine zx_iconst (v := (-1)) dX5_init_41 rfl rfl ?_
  refine zm_iast (j := 0) dX5_init_42 (zm_row hN rfl) (by unfold vp_in; decide) rfl rfl ?_
  have hz7 := (hz6.mono (show _ ≤ N + 16 by omega)).consI (k := (N + 15)) (j := 0) (v := (-1)) (by omega)
  refine zx_dup dX5_init_43 rfl rfl ?_
  refine zx_iconst (v := 1) dX5_init_44 rfl rfl ?_
  refine zx_iconst (v := (-1)) dX5_init_45 rfl rfl ?_
  refine zm_iast (j := 1) dX5_init_46 (zm_row hN rfl) (by unfold vp_in; decide) rfl rfl ?_
  have hz8 := (hz7.mono (show _ ≤ N + 16 by omega)).consI (k := (N + 15)) (j := 1) (v := (-1)) (by omega)
  refine zx_dup dX5_init_47 rfl rfl ?_
  refine zx_iconst (v := 2) dX5_init_48 rfl rfl ?_
  refine zx_iconst (v := (-1)) dX5_init_49 rfl rfl ?_
  refine zm_iast (j := 2) dX5_init_50 (zm_row hN rfl) (by unfold vp_in; decide) rfl rfl ?_
  have hz9 := (hz8.mono (show _ ≤ N + 16 by omega)).consI (k := (N + 15)) (j := 2) (v := (-1)) (by omega)
  refine zm_putRF dX5_init_51 fl_RX5_22 rfl rfl rfl rfl (zm_own hb) (by rw [zm_len (i := 16) hN rfl]; omega) rfl ?_
  have hz10 := (hz9.mono (show _ ≤ N + 16 by omega)).consR (k := b) (j := 5) (v := (N + 15)) (by omega)
  refine zx_aload_n (i := 0) dX5_init_54 rfl rfl rfl ?_
  refine zx_bipush (v := 12) dX5_init_55 rfl rfl ?_
  refine zm_newaI (nn := 12) (X' := [(5, 5), (1, 6), (1, 6), (1, 6), (1, 6), (1, 6), (5, 5), (1, 3), (1, 3), (1, 3), (1, 3), (1, 3), (5, 2), (1, 5), (1, 5), (1, 3), (1, 12)]) (M := N + 16) dX5_init_57 (by decide) rfl (by decide) (hz10.mono (by omega)) (zm_len (i := 16) hN rfl) rfl (by omega) (by omega) (by omega) (zw_wl1 (by omega)) (zw_st1 (by omega)) rfl ?_
  refine zm_putRF dX5_init_59 fl_RX5_26 rfl rfl rfl rfl (zm_own hb) (by rw [zm_len (i := 17) hN rfl]; omega) rfl ?_
  have hz11 := (hz10.mono (show _ ≤ N + 17 by omega)).consR (k := b) (j := 7) (v := (N + 16)) (by omega)
  refine zx_aload_n (i := 0) dX5_init_62 rfl rfl rfl ?_
  refine zx_bipush (v := 12) dX5_init_63 rfl rfl ?_
  refine zm_newaI (nn := 12) (X' := [(5, 5), (1, 6), (1, 6), (1, 6), (1, 6), (1, 6), (5, 5), (1, 3), (1, 3), (1, 3), (1, 3), (1, 3), (5, 2), (1, 5), (1, 5), (1, 3), (1, 12), (1, 12)]) (M := N + 17) dX5_init_65 (by decide) rfl (by decide) (hz11.mono (by omega)) (zm_len (i := 17) hN rfl) rfl (by omega) (by omega) (by omega) (zw_wl1 (by omega)) (zw_st1 (by omega)) rfl ?_
  refine zm_putRF dX5_init_67 fl_RX5_29 rfl rfl rfl rfl (zm_own hb) (by rw [zm_len (i := 18) hN rfl]; omega) rfl ?_
  have hz12 := (hz11.mono (show _ ≤ N + 18 by omega)).consR (k := b) (j := 8) (v := (N + 17)) (by omega)
  refine zx_aload_n (i := 0) dX5_init_70 rfl rfl rfl ?_
  refine zx_iconst (v := (-1)) dX5_init_71 rfl rfl ?_
  refine zm_putI dX5_init_72 fl_RX5_32 rfl rfl ⟨rfl, rfl⟩ (zm_own hb) rfl ?_
  have hz13 := (hz12.mono (show _ ≤ N + 18 by omega)).consI (k := b) (j := 9) (v := (-1)) (by omega)
  exact zx_vret dX5_init_75 rfl (by omega) (by omega) ⟨rfl, rfl⟩
set_option maxHeartbeats 4000000 in
theorem t_X2_init {b : Nat} (d : Nat) (hN : sh.length = N) (hb : sh[b]? = some (0, 2)) (hz : zk N I R) (hlt : N < 90000) : zCall l D tc A mX2_init (d + 1) 1 100 [.ref b] (zm sh [] I R) (zQv fun S' => S' = zm sh [(2, 100)] (I) (((b, 0), (N + 0)) :: R)) := by
  have hbN : b < N := by rw [← hN]; exact (List.getElem?_eq_some_iff.mp hb).1
  show zW l D tc A mX2_init (d + 1) 1 100 0 0 0 [some (.ref b)] [] _ _
  refine zx_aload_n (i := 0) dX2_init_0 rfl rfl rfl ?_
  refine zx_objI dX2_init_1 ml_RX2_3 (by decide) rfl ?_
  refine zx_aload_n (i := 0) dX2_init_4 rfl rfl rfl ?_
  refine zx_bipush (v := 100) dX2_init_5 rfl rfl ?_
  refine zm_newaB (nn := 100) (X' := [(2, 100)]) (M := N + 0) dX2_init_7 (by decide) rfl (by decide) (hz.mono (by omega)) (zm_len (i := 0) hN rfl) rfl (by omega) (by omega) (by omega) (zw_wl1 (by omega)) (zw_st1 (by omega)) rfl ?_
  refine zm_putRF dX2_init_9 fl_RX2_9 rfl rfl rfl rfl (zm_own hb) (by rw [zm_len (i := 1) hN rfl]; omega) rfl ?_
  have hz1 := (hz.mono (show _ ≤ N + 1 by omega)).consR (k := b) (j := 0) (v := (N + 0)) (by omega)
  exact zx_vret dX2_init_12 rfl (by omega) (by omega) ⟨rfl, rfl⟩
set_option maxHeartbeats 4000000 in
theorem t_X1_init {b : Nat} (d : Nat) (hN : sh.length = N) (hb : sh[b]? = some (0, 1)) (hz : zk N I R) (hlt : N < 90000) : zCall l D tc A mX1_init (d + 1) 4 130 [.ref b] (zm sh [] I R) (zQv fun S' => S' = zm sh [(1, 10), (1, 10), (1, 10), (1, 100)] (I) (((b, 5), (N + 3)) :: ((b, 4), (N + 2)) :: ((b, 3), (N + 1)) :: ((b, 2), (N + 0)) :: R)) := by
  have hbN : b < N := by rw [← hN]; exact (List.getElem?_eq_some_iff.mp hb).1
  show zW l D tc A mX1_init (d + 1) 4 130 0 0 0 [some (.ref b)] [] _ _
  refine zx_aload_n (i := 0) dX1_init_0 rfl rfl rfl ?_
  refine zx_objI dX1_init_1 ml_RX1_3 (by decide) rfl ?_
  refine zx_aload_n (i := 0) dX1_init_4 rfl rfl rfl ?_
  refine zx_bipush (v := 10) dX1_init_5 rfl rfl ?_
  refine zm_newaI (nn := 10) (X' := [(1, 10)]) (M := N + 0) dX1_init_7 (by decide) rfl (by decide) (hz.mono (by omega)) (zm_len (i := 0) hN rfl) rfl (by omega) (by omega) (by omega) (zw_wl1 (by omega)) (zw_st1 (by omega)) rfl ?_
  refine zm_putRF dX1_init_9 fl_RX1_9 rfl rfl rfl rfl (zm_own hb) (by rw [zm_len (i := 1) hN rfl]; omega) rfl ?_
  have hz1 := (hz.mono (show _ ≤ N + 1 by omega)).consR (k := b) (j := 2) (v := (N + 0)) (by omega)
  refine zx_aload_n (i := 0) dX1_init_12 rfl rfl rfl ?_
  refine zx_bipush (v := 10) dX1_init_13 rfl rfl ?_
  refine zm_newaI (nn := 10) (X' := [(1, 10), (1, 10)]) (M := N + 1) dX1_init_15 (by decide) rfl (by decide) (hz1.mono (by omega)) (zm_len (i := 1) hN rfl) rfl (by omega) (by omega) (by omega) (zw_wl1 (by omega)) (zw_st1 (by omega)) rfl ?_
  refine zm_putRF dX1_init_17 fl_RX1_15 rfl rfl rfl rfl (zm_own hb) (by rw [zm_len (i := 2) hN rfl]; omega) rfl ?_
  have hz2 := (hz1.mono (show _ ≤ N + 2 by omega)).consR (k := b) (j := 3) (v := (N + 1)) (by omega)
  refine zx_aload_n (i := 0) dX1_init_20 rfl rfl rfl ?_
  refine zx_bipush (v := 10) dX1_init_21 rfl rfl ?_
  refine zm_newaI (nn := 10) (X' := [(1, 10), (1, 10), (1, 10)]) (M := N + 2) dX1_init_23 (by decide) rfl (by decide) (hz2.mono (by omega)) (zm_len (i := 2) hN rfl) rfl (by omega) (by omega) (by omega) (zw_wl1 (by omega)) (zw_st1 (by omega)) rfl ?_
  refine zm_putRF dX1_init_25 fl_RX1_18 rfl rfl rfl rfl (zm_own hb) (by rw [zm_len (i := 3) hN rfl]; omega) rfl ?_
  have hz3 := (hz2.mono (show _ ≤ N + 3 by omega)).consR (k := b) (j := 4) (v := (N + 2)) (by omega)
  refine zx_aload_n (i := 0) dX1_init_28 rfl rfl rfl ?_
  refine zx_bipush (v := 100) dX1_init_29 rfl rfl ?_
  refine zm_newaI (nn := 100) (X' := [(1, 10), (1, 10), (1, 10), (1, 100)]) (M := N + 3) dX1_init_31 (by decide) rfl (by decide) (hz3.mono (by omega)) (zm_len (i := 3) hN rfl) rfl (by omega) (by omega) (by omega) (zw_wl1 (by omega)) (zw_st1 (by omega)) rfl ?_
  refine zm_putRF dX1_init_33 fl_RX1_21 rfl rfl rfl rfl (zm_own hb) (by rw [zm_len (i := 4) hN rfl]; omega) rfl ?_
  have hz4 := (hz3.mono (show _ ≤ N + 4 by omega)).consR (k := b) (j := 5) (v := (N + 3)) (by omega)
  exact zx_vret dX1_init_36 rfl (by omega) (by omega) ⟨rfl, rfl⟩
set_option maxHeartbeats 4000000 in
theorem t_X4_init {b : Nat} (d : Nat) (hN : sh.length = N) (hb : sh[b]? = some (0, 4)) (hz : zk N I R) (hlt : N < 90000) : zCall l D tc A mX4_init (d + 1) 8 31 [.ref b] (zm sh [] I R) (zQv fun S' => S' = zm sh [(5, 5), (1, 3), (1, 3), (1, 3), (1, 3), (1, 3), (1, 5), (1, 6)] (I) (((b, 4), (N + 7)) :: ((b, 3), (N + 6)) :: ((b, 2), (N + 0)) :: (((N + 0), 4), (N + 5)) :: (((N + 0), 3), (N + 4)) :: (((N + 0), 2), (N + 3)) :: (((N + 0), 1), (N + 2)) :: (((N + 0), 0), (N + 1)) :: R)) := by
  have hbN : b < N := by rw [← hN]; exact (List.getElem?_eq_some_iff.mp hb).1
  show zW l D tc A mX4_init (d + 1) 8 31 0 0 0 [some (.ref b)] [] _ _
  refine zx_aload_n (i := 0) dX4_init_0 rfl rfl rfl ?_
  refine zx_objI dX4_init_1 ml_RX4_3 (by decide) rfl ?_
  refine zx_aload_n (i := 0) dX4_init_4 rfl rfl rfl ?_
  refine zx_iconst (v := 5) dX4_init_5 rfl rfl ?_
  refine zx_iconst (v := 3) dX4_init_6 rfl rfl ?_
  refine zm_mna (nn := 5) (mm := 3) (X' := [(5, 5), (1, 3), (1, 3), (1, 3), (1, 3), (1, 3)]) (R' := (((N + 0), 4), (N + 5)) :: (((N + 0), 3), (N + 4)) :: (((N + 0), 2), (N + 3)) :: (((N + 0), 1), (N + 2)) :: (((N + 0), 0), (N + 1)) :: R) (M := N + 0) dX4_init_7 kk_RX4_9 (by decide) (by decide) rfl rfl (by decide) (by decide) (hz.mono (by omega)) (zm_len (i := 0) hN rfl) rfl rfl (by omega) (by omega) (by omega) (zw_wl1 (by omega)) (zw_st1 (by omega)) rfl ?_
  have hz1 := (((((hz.mono (show _ ≤ N + 6 by omega)).consR (k := N + 0) (j := 0) (v := N + 1) (by omega)).consR (k := N + 0) (j := 1) (v := N + 2) (by omega)).consR (k := N + 0) (j := 2) (v := N + 3) (by omega)).consR (k := N + 0) (j := 3) (v := N + 4) (by omega)).consR (k := N + 0) (j := 4) (v := N + 5) (by omega)
  refine zm_putRF dX4_init_11 fl_RX4_11 rfl rfl rfl rfl (zm_own hb) (by rw [zm_len (i := 6) hN rfl]; omega) rfl ?_
  have hz2 := (hz1.mono (show _ ≤ N + 6 by omega)).consR (k := b) (j := 2) (v := (N + 0)) (by omega)
  refine zx_aload_n (i := 0) dX4_init_14 rfl rfl rfl ?_
  refine zx_iconst (v := 5) dX4_init_15 rfl rfl ?_
  refine zm_newaI (nn := 5) (X' := [(5, 5), (1, 3), (1, 3), (1, 3), (1, 3), (1, 3), (1, 5)]) (M := N + 6) dX4_init_16 (by decide) rfl (by decide) (hz2.mono (by omega)) (zm_len (i := 6) hN rfl) rfl (by omega) (by omega) (by omega) (zw_wl1 (by omega)) (zw_st1 (by omega)) rfl ?_
  refine zm_putRF dX4_init_18 fl_RX4_16 rfl rfl rfl rfl (zm_own hb) (by rw [zm_len (i := 7) hN rfl]; omega) rfl ?_
  have hz3 := (hz2.mono (show _ ≤ N + 7 by omega)).consR (k := b) (j := 3) (v := (N + 6)) (by omega)
  refine zx_aload_n (i := 0) dX4_init_21 rfl rfl rfl ?_
  refine zx_bipush (v := 6) dX4_init_22 rfl rfl ?_
  refine zm_newaI (nn := 6) (X' := [(5, 5), (1, 3), (1, 3), (1, 3), (1, 3), (1, 3), (1, 5), (1, 6)]) (M := N + 7) dX4_init_24 (by decide) rfl (by decide) (hz3.mono (by omega)) (zm_len (i := 7) hN rfl) rfl (by omega) (by omega) (by omega) (zw_wl1 (by omega)) (zw_st1 (by omega)) rfl ?_
  refine zm_putRF dX4_init_26 fl_RX4_20 rfl rfl rfl rfl (zm_own hb) (by rw [zm_len (i := 8) hN rfl]; omega) rfl ?_
  have hz4 := (hz3.mono (show _ ≤ N + 8 by omega)).consR (k := b) (j := 4) (v := (N + 7)) (by omega)
  exact zx_vret dX4_init_29 rfl (by omega) (by omega) ⟨rfl, rfl⟩
set_option maxHeartbeats 4000000 in
theorem t_X3_init {b : Nat} {a : Nat} (d : Nat) (hN : sh.length = N) (hb : sh[b]? = some (0, 3)) (haN : a < N) (hz : zk N I R) (hlt : N < 90000) : zCall l D tc A mX3_init (d + 1) 5 23 [.ref b, .ref a] (zm sh [] I R) (zQv fun S' => S' = zm sh [(1, 5), (1, 3), (1, 5), (1, 5), (1, 5)] (I) (((b, 0), a) :: ((b, 11), (N + 4)) :: ((b, 10), (N + 3)) :: ((b, 9), (N + 2)) :: ((b, 2), (N + 1)) :: ((b, 1), (N + 0)) :: R)) := by
  have hbN : b < N := by rw [← hN]; exact (List.getElem?_eq_some_iff.mp hb).1
  show zW l D tc A mX3_init (d + 1) 5 23 0 0 0 [some (.ref b), some (.ref a)] [] _ _
  refine zx_aload_n (i := 0) dX3_init_0 rfl rfl rfl ?_
  refine zx_objI dX3_init_1 ml_RX3_3 (by decide) rfl ?_
  refine zx_aload_n (i := 0) dX3_init_4 rfl rfl rfl ?_
  refine zx_iconst (v := 5) dX3_init_5 rfl rfl ?_
  refine zm_newaI (nn := 5) (X' := [(1, 5)]) (M := N + 0) dX3_init_6 (by decide) rfl (by decide) (hz.mono (by omega)) (zm_len (i := 0) hN rfl) rfl (by omega) (by omega) (by omega) (zw_wl2 (by omega) (by omega)) (zw_st1 (by omega)) rfl ?_
  refine zm_putRF dX3_init_8 fl_RX3_9 rfl rfl rfl rfl (zm_own hb) (by rw [zm_len (i := 1) hN rfl]; omega) rfl ?_
  have hz1 := (hz.mono (show _ ≤ N + 1 by omega)).consR (k := b) (j := 1) (v := (N + 0)) (by omega)
  refine zx_aload_n (i := 0) dX3_init_11 rfl rfl rfl ?_
  refine zx_iconst (v := 3) dX3_init_12 rfl rfl ?_
  refine zm_newaI (nn := 3) (X' := [(1, 5), (1, 3)]) (M := N + 1) dX3_init_13 (by decide) rfl (by decide) (hz1.mono (by omega)) (zm_len (i := 1) hN rfl) rfl (by omega) (by omega) (by omega) (zw_wl2 (by omega) (by omega)) (zw_st1 (by omega)) rfl ?_
  refine zm_putRF dX3_init_15 fl_RX3_15 rfl rfl rfl rfl (zm_own hb) (by rw [zm_len (i := 2) hN rfl]; omega) rfl ?_
  have hz2 := (hz1.mono (show _ ≤ N + 2 by omega)).consR (k := b) (j := 2) (v := (N + 1)) (by omega)
  refine zx_aload_n (i := 0) dX3_init_18 rfl rfl rfl ?_
  refine zx_iconst (v := 5) dX3_init_19 rfl rfl ?_
  refine zm_newaI (nn := 5) (X' := [(1, 5), (1, 3), (1, 5)]) (M := N + 2) dX3_init_20 (by decide) rfl (by decide) (hz2.mono (by omega)) (zm_len (i := 2) hN rfl) rfl (by omega) (by omega) (by omega) (zw_wl2 (by omega) (by omega)) (zw_st1 (by omega)) rfl ?_
  refine zm_putRF dX3_init_22 fl_RX3_18 rfl rfl rfl rfl (zm_own hb) (by rw [zm_len (i := 3) hN rfl]; omega) rfl ?_
  have hz3 := (hz2.mono (show _ ≤ N + 3 by omega)).consR (k := b) (j := 9) (v := (N + 2)) (by omega)
  refine zx_aload_n (i := 0) dX3_init_25 rfl rfl rfl ?_
  refine zx_iconst (v := 5) dX3_init_26 rfl rfl ?_
  refine zm_newaI (nn := 5) (X' := [(1, 5), (1, 3), (1, 5), (1, 5)]) (M := N + 3) dX3_init_27 (by decide) rfl (by decide) (hz3.mono (by omega)) (zm_len (i := 3) hN rfl) rfl (by omega) (by omega) (by omega) (zw_wl2 (by omega) (by omega)) (zw_st1 (by omega)) rfl ?_
  refine zm_putRF dX3_init_29 fl_RX3_21 rfl rfl rfl rfl (zm_own hb) (by rw [zm_len (i := 4) hN rfl]; omega) rfl ?_
  have hz4 := (hz3.mono (show _ ≤ N + 4 by omega)).consR (k := b) (j := 10) (v := (N + 3)) (by omega)
  refine zx_aload_n (i := 0) dX3_init_32 rfl rfl rfl ?_
  refine zx_iconst (v := 5) dX3_init_33 rfl rfl ?_
  refine zm_newaI (nn := 5) (X' := [(1, 5), (1, 3), (1, 5), (1, 5), (1, 5)]) (M := N + 4) dX3_init_34 (by decide) rfl (by decide) (hz4.mono (by omega)) (zm_len (i := 4) hN rfl) rfl (by omega) (by omega) (by omega) (zw_wl2 (by omega) (by omega)) (zw_st1 (by omega)) rfl ?_
  refine zm_putRF dX3_init_36 fl_RX3_24 rfl rfl rfl rfl (zm_own hb) (by rw [zm_len (i := 5) hN rfl]; omega) rfl ?_
  have hz5 := (hz4.mono (show _ ≤ N + 5 by omega)).consR (k := b) (j := 11) (v := (N + 4)) (by omega)
  refine zx_aload_n (i := 0) dX3_init_39 rfl rfl rfl ?_
  refine zx_aload_n (i := 1) dX3_init_40 rfl rfl rfl ?_
  refine zm_putRF dX3_init_41 fl_RX3_27 rfl rfl rfl rfl (zm_own hb) (by rw [zm_len (i := 5) hN rfl]; omega) rfl ?_
  have hz6 := (hz5.mono (show _ ≤ N + 5 by omega)).consR (k := b) (j := 0) (v := a) (by omega)
  exact zx_vret dX3_init_44 rfl (by omega) (by omega) ⟨rfl, rfl⟩
set_option maxHeartbeats 4000000 in
theorem t_X0_init {b : Nat} (d : Nat) (hN : sh.length = N) (hb : sh[b]? = some (0, 0)) (hz : zk N I R) (hlt : N < 90000) : zCall l D tc A mX0_init (d + 1) 1 20 [.ref b] (zm sh [] I R) (zQv fun S' => S' = zm sh [(1, 20)] (I) (((b, 1), (N + 0)) :: R)) := by
  have hbN : b < N := by rw [← hN]; exact (List.getElem?_eq_some_iff.mp hb).1
  show zW l D tc A mX0_init (d + 1) 1 20 0 0 0 [some (.ref b)] [] _ _
  refine zx_aload_n (i := 0) dX0_init_0 rfl rfl rfl ?_
  refine zx_objI dX0_init_1 ml_RX0_3 (by decide) rfl ?_
  refine zx_aload_n (i := 0) dX0_init_4 rfl rfl rfl ?_
  refine zx_bipush (v := 20) dX0_init_5 rfl rfl ?_
  refine zm_newaI (nn := 20) (X' := [(1, 20)]) (M := N + 0) dX0_init_7 (by decide) rfl (by decide) (hz.mono (by omega)) (zm_len (i := 0) hN rfl) rfl (by omega) (by omega) (by omega) (zw_wl1 (by omega)) (zw_st1 (by omega)) rfl ?_
  refine zm_putRF dX0_init_9 fl_RX0_9 rfl rfl rfl rfl (zm_own hb) (by rw [zm_len (i := 1) hN rfl]; omega) rfl ?_
  have hz1 := (hz.mono (show _ ≤ N + 1 by omega)).consR (k := b) (j := 1) (v := (N + 0)) (by omega)
  exact zx_vret dX0_init_12 rfl (by omega) (by omega) ⟨rfl, rfl⟩
set_option maxHeartbeats 4000000 in
theorem t_X6_init {b : Nat} (d : Nat) (hN : sh.length = N) (hb : sh[b]? = some (0, 6)) (hz : zk N I R) (hlt : N < 90000) : zCall l D tc A mX6_init (d + 1) 1 60 [.ref b] (zm sh [] I R) (zQv fun S' => S' = zm sh [(4, 60)] (((b, 0), -1) :: I) (((b, 2), (N + 0)) :: R)) := by
  have hbN : b < N := by rw [← hN]; exact (List.getElem?_eq_some_iff.mp hb).1
  show zW l D tc A mX6_init (d + 1) 1 60 0 0 0 [some (.ref b)] [] _ _
  refine zx_aload_n (i := 0) dX6_init_0 rfl rfl rfl ?_
  refine zx_objI dX6_init_1 ml_RX6_3 (by decide) rfl ?_
  refine zx_aload_n (i := 0) dX6_init_4 rfl rfl rfl ?_
  refine zx_iconst (v := (-1)) dX6_init_5 rfl rfl ?_
  refine zm_putI dX6_init_6 fl_RX6_9 rfl rfl ⟨rfl, rfl⟩ (zm_own hb) rfl ?_
  have hz1 := (hz.mono (show _ ≤ N + 0 by omega)).consI (k := b) (j := 0) (v := (-1)) (by omega)
  refine zx_aload_n (i := 0) dX6_init_9 rfl rfl rfl ?_
  refine zx_bipush (v := 60) dX6_init_10 rfl rfl ?_
  refine zm_newaJ (nn := 60) (X' := [(4, 60)]) (M := N + 0) dX6_init_12 (by decide) rfl (by decide) (hz1.mono (by omega)) (zm_len (i := 0) hN rfl) rfl (by omega) (by omega) (by omega) (zw_wl1 (by omega)) (zw_st1 (by omega)) rfl ?_
  refine zm_putRF dX6_init_14 fl_RX6_15 rfl rfl rfl rfl (zm_own hb) (by rw [zm_len (i := 1) hN rfl]; omega) rfl ?_
  have hz2 := (hz1.mono (show _ ≤ N + 1 by omega)).consR (k := b) (j := 2) (v := (N + 0)) (by omega)
  exact zx_vret dX6_init_17 rfl (by omega) (by omega) ⟨rfl, rfl⟩
set_option maxHeartbeats 4000000 in
theorem t_X8_init {b : Nat} (d : Nat) (hN : sh.length = N) (hb : sh[b]? = some (0, 8)) (hz : zk N I R) (hlt : N < 90000) : zCall l D tc A mX8_init (d + 1) 41 1811 [.ref b] (zm sh [] I R) (zQv fun S' => S' = zm sh [(1, 5), (1, 5), (1, 15), (1, 5), (1, 5), (1, 5), (1, 15), (1, 3), (1, 100), (1, 6), (1, 60), (1, 60), (1, 60), (1, 60), (1, 600), (1, 101), (1, 10), (3, 100), (1, 15), (1, 5), (1, 5), (1, 5), (1, 5), (1, 3), (1, 12), (1, 12), (1, 5), (1, 5), (1, 15), (1, 5), (1, 5), (1, 5), (1, 15), (1, 3), (1, 12), (1, 12), (1, 20), (1, 6), (1, 6), (4, 360), (4, 60)] ((((N + 37), 5), -1) :: (((N + 37), 4), -1) :: (((N + 37), 3), -1) :: (((N + 37), 2), -1) :: (((N + 37), 1), -1) :: (((N + 37), 0), -1) :: ((b, 56), 0) :: ((b, 45), 0) :: ((b, 44), 0) :: ((b, 43), 0) :: ((b, 42), -1) :: ((b, 41), 0) :: ((b, 38), 0) :: ((b, 36), 0) :: ((b, 35), 0) :: ((b, 34), 0) :: ((b, 33), 0) :: (((N + 16), 9), 116) :: (((N + 16), 8), 115) :: (((N + 16), 7), 111) :: (((N + 16), 6), 109) :: (((N + 16), 5), 101) :: (((N + 16), 4), 101) :: (((N + 16), 3), 115) :: (((N + 16), 2), 101) :: (((N + 16), 1), 119) :: (((N + 16), 0), 111) :: ((b, 25), 0) :: ((b, 24), 0) :: ((b, 23), 0) :: ((b, 14), 0) :: ((b, 13), 0) :: ((b, 12), 0) :: ((b, 11), -1) :: ((b, 10), 0) :: (((N + 7), 2), -1) :: (((N + 7), 1), -1) :: (((N + 7), 0), -1) :: ((b, 1), 0) :: ((b, 0), 0) :: I) (((b, 61), (N + 40)) :: ((b, 60), (N + 39)) :: ((b, 59), (N + 38)) :: ((b, 58), (N + 37)) :: ((b, 57), (N + 36)) :: ((b, 55), (N + 35)) :: ((b, 54), (N + 34)) :: ((b, 53), (N + 33)) :: ((b, 52), (N + 32)) :: ((b, 51), (N + 31)) :: ((b, 50), (N + 30)) :: ((b, 49), (N + 29)) :: ((b, 48), (N + 28)) :: ((b, 47), (N + 27)) :: ((b, 46), (N + 26)) :: ((b, 40), (N + 25)) :: ((b, 39), (N + 24)) :: ((b, 37), (N + 23)) :: ((b, 32), (N + 22)) :: ((b, 31), (N + 21)) :: ((b, 30), (N + 20)) :: ((b, 29), (N + 19)) :: ((b, 28), (N + 18)) :: ((b, 27), (N + 17)) :: ((b, 26), (N + 16)) :: ((b, 22), (N + 15)) :: ((b, 21), (N + 14)) :: ((b, 20), (N + 13)) :: ((b, 19), (N + 12)) :: ((b, 18), (N + 11)) :: ((b, 17), (N + 10)) :: ((b, 16), (N + 9)) :: ((b, 15), (N + 8)) :: ((b, 9), (N + 7)) :: ((b, 8), (N + 6)) :: ((b, 7), (N + 5)) :: ((b, 6), (N + 4)) :: ((b, 5), (N + 3)) :: ((b, 4), (N + 2)) :: ((b, 3), (N + 1)) :: ((b, 2), (N + 0)) :: R)) := by
  have hbN : b < N := by rw [← hN]; exact (List.getElem?_eq_some_iff.mp hb).1
  show zW l D tc A mX8_init (d + 1) 41 1811 0 0 0 [some (.ref b)] [] _ _
  refine zx_aload_n (i := 0) dX8_init_0 rfl rfl rfl ?_
  refine zx_objI dX8_init_1 ml_RX8_1 (by decide) rfl ?_
  refine zx_aload_n (i := 0) dX8_init_4 rfl rfl rfl ?_
  refine zx_iconst (v := 0) dX8_init_5 rfl rfl ?_
  refine zm_putI dX8_init_6 fl_RX8_7 rfl rfl ⟨rfl, rfl⟩ (zm_own hb) rfl ?_
  have hz1 := (hz.mono (show _ ≤ N + 0 by omega)).consI (k := b) (j := 0) (v := 0) (by omega)
  refine zx_aload_n (i := 0) dX8_init_9 rfl rfl rfl ?_
  refine zx_iconst (v := 0) dX8_init_10 rfl rfl ?_
  refine zm_putI dX8_init_11 fl_RX8_13 rfl rfl ⟨rfl, rfl⟩ (zm_own hb) rfl ?_
  have hz2 := (hz1.mono (show _ ≤ N + 0 by omega)).consI (k := b) (j := 1) (v := 0) (by omega)
  refine zx_aload_n (i := 0) dX8_init_14 rfl rfl rfl ?_
  refine zx_iconst (v := 5) dX8_init_15 rfl rfl ?_
  refine zm_newaI (nn := 5) (X' := [(1, 5)]) (M := N + 0) dX8_init_16 (by decide) rfl (by decide) (hz2.mono (by omega)) (zm_len (i := 0) hN rfl) rfl (by omega) (by omega) (by omega) (zw_wl1 (by omega)) (zw_st1 (by omega)) rfl ?_
  refine zm_putRF dX8_init_18 fl_RX8_16 rfl rfl rfl rfl (zm_own hb) (by rw [zm_len (i := 1) hN rfl]; omega) rfl ?_
  have hz3 := (hz2.mono (show _ ≤ N + 1 by omega)).consR (k := b) (j := 2) (v := (N + 0)) (by omega)
  refine zx_aload_n (i := 0) dX8_init_21 rfl rfl rfl ?_
  refine zx_iconst (v := 5) dX8_init_22 rfl rfl ?_
  refine zm_newaI (nn := 5) (X' := [(1, 5), (1, 5)]) (M := N + 1) dX8_init_23 (by decide) rfl (by decide) (hz3.mono (by omega)) (zm_len (i := 1) hN rfl) rfl (by omega) (by omega) (by omega) (zw_wl1 (by omega)) (zw_st1 (by omega)) rfl ?_
  refine zm_putRF dX8_init_25 fl_RX8_20 rfl rfl rfl rfl (zm_own hb) (by rw [zm_len (i := 2) hN rfl]; omega) rfl ?_
  have hz4 := (hz3.mono (show _ ≤ N + 2 by omega)).consR (k := b) (j := 3) (v := (N + 1)) (by omega)
  refine zx_aload_n (i := 0) dX8_init_28 rfl rfl rfl ?_
  refine zx_bipush (v := 15) dX8_init_29 rfl rfl ?_
  refine zm_newaI (nn := 15) (X' := [(1, 5), (1, 5), (1, 15)]) (M := N + 2) dX8_init_31 (by decide) rfl (by decide) (hz4.mono (by omega)) (zm_len (i := 2) hN rfl) rfl (by omega) (by omega) (by omega) (zw_wl1 (by omega)) (zw_st1 (by omega)) rfl ?_
  refine zm_putRF dX8_init_33 fl_RX8_23 rfl rfl rfl rfl (zm_own hb) (by rw [zm_len (i := 3) hN rfl]; omega) rfl ?_
  have hz5 := (hz4.mono (show _ ≤ N + 3 by omega)).consR (k := b) (j := 4) (v := (N + 2)) (by omega)
  refine zx_aload_n (i := 0) dX8_init_36 rfl rfl rfl ?_
  refine zx_iconst (v := 5) dX8_init_37 rfl rfl ?_
  refine zm_newaI (nn := 5) (X' := [(1, 5), (1, 5), (1, 15), (1, 5)]) (M := N + 3) dX8_init_38 (by decide) rfl (by decide) (hz5.mono (by omega)) (zm_len (i := 3) hN rfl) rfl (by omega) (by omega) (by omega) (zw_wl1 (by omega)) (zw_st1 (by omega)) rfl ?_
  refine zm_putRF dX8_init_40 fl_RX8_26 rfl rfl rfl rfl (zm_own hb) (by rw [zm_len (i := 4) hN rfl]; omega) rfl ?_
  have hz6 := (hz5.mono (show _ ≤ N + 4 by omega)).consR (k := b) (j := 5) (v := (N + 3)) (by omega)
  refine zx_aload_n (i := 0) dX8_init_43 rfl rfl rfl ?_
  refine zx_iconst (v := 5) dX8_init_44 rfl rfl ?_
  refine zm_newaI (nn := 5) (X' := [(1, 5), (1, 5), (1, 15), (1, 5), (1, 5)]) (M := N + 4) dX8_init_45 (by decide) rfl (by decide) (hz6.mono (by omega)) (zm_len (i := 4) hN rfl) rfl (by omega) (by omega) (by omega) (zw_wl1 (by omega)) (zw_st1 (by omega)) rfl ?_
  refine zm_putRF dX8_init_47 fl_RX8_29 rfl rfl rfl rfl (zm_own hb) (by rw [zm_len (i := 5) hN rfl]; omega) rfl ?_
  have hz7 := (hz6.mono (show _ ≤ N + 5 by omega)).consR (k := b) (j := 6) (v := (N + 4)) (by omega)
  refine zx_aload_n (i := 0) dX8_init_50 rfl rfl rfl ?_
  refine zx_iconst (v := 5) dX8_init_51 rfl rfl ?_
  refine zm_newaI (nn := 5) (X' := [(1, 5), (1, 5), (1, 15), (1, 5), (1, 5), (1, 5)]) (M := N + 5) dX8_init_52 (by decide) rfl (by decide) (hz7.mono (by omega)) (zm_len (i := 5) hN rfl) rfl (by omega) (by omega) (by omega) (zw_wl1 (by omega)) (zw_st1 (by omega)) rfl ?_
  refine zm_putRF dX8_init_54 fl_RX8_32 rfl rfl rfl rfl (zm_own hb) (by rw [zm_len (i := 6) hN rfl]; omega) rfl ?_
  have hz8 := (hz7.mono (show _ ≤ N + 6 by omega)).consR (k := b) (j := 7) (v := (N + 5)) (by omega)
  refine zx_aload_n (i := 0) dX8_init_57 rfl rfl rfl ?_
  refine zx_bipush (v := 15) dX8_init_58 rfl rfl ?_
  refine zm_newaI (nn := 15) (X' := [(1, 5), (1, 5), (1, 15), (1, 5), (1, 5), (1, 5), (1, 15)]) (M := N + 6) dX8_init_60 (by decide) rfl (by decide) (hz8.mono (by omega)) (zm_len (i := 6) hN rfl) rfl (by omega) (by omega) (by omega) (zw_wl1 (by omega)) (zw_st1 (by omega)) rfl ?_
  refine zm_putRF dX8_init_62 fl_RX8_35 rfl rfl rfl rfl (zm_own hb) (by rw [zm_len (i := 7) hN rfl]; omega) rfl ?_
  have hz9 := (hz8.mono (show _ ≤ N + 7 by omega)).consR (k := b) (j := 8) (v := (N + 6)) (by omega)
  refine zx_aload_n (i := 0) dX8_init_65 rfl rfl rfl ?_
  refine zx_iconst (v := 3) dX8_init_66 rfl rfl ?_
  refine zm_newaI (nn := 3) (X' := [(1, 5), (1, 5), (1, 15), (1, 5), (1, 5), (1, 5), (1, 15), (1, 3)]) (M := N + 7) dX8_init_67 (by decide) rfl (by decide) (hz9.mono (by omega)) (zm_len (i := 7) hN rfl) rfl (by omega) (by omega) (by omega) (zw_wl1 (by omega)) (zw_st1 (by omega)) rfl ?_
  refine zx_dup dX8_init_69 rfl rfl ?_
  refine zx_iconst (v := 0) dX8_init_70 rfl rfl ?_
  refine zx_iconst (v := (-1)) dX8_init_71 rfl rfl ?_
  refine zm_iast (j := 0) dX8_init_72 (zm_row hN rfl) (by unfold vp_in; decide) rfl rfl ?_
  have hz10 := (hz9.mono (show _ ≤ N + 8 by omega)).consI (k := (N + 7)) (j := 0) (v := (-1)) (by omega)
  refine zx_dup dX8_init_73 rfl rfl ?_
  refine zx_iconst (v := 1) dX8_init_74 rfl rfl ?_
  refine zx_iconst (v := (-1)) dX8_init_75 rfl rfl ?_
  refine zm_iast (j := 1) dX8_init_76 (zm_row hN rfl) (by unfold vp_in; decide) rfl rfl ?_
  have hz11 := (hz10.mono (show _ ≤ N + 8 by omega)).consI (k := (N + 7)) (j := 1) (v := (-1)) (by omega)
  refine zx_dup dX8_init_77 rfl rfl ?_
  refine zx_iconst (v := 2) dX8_init_78 rfl rfl ?_
  refine zx_iconst (v := (-1)) dX8_init_79 rfl rfl ?_
  refine zm_iast (j := 2) dX8_init_80 (zm_row hN rfl) (by unfold vp_in; decide) rfl rfl ?_
  have hz12 := (hz11.mono (show _ ≤ N + 8 by omega)).consI (k := (N + 7)) (j := 2) (v := (-1)) (by omega)
  refine zm_putRF dX8_init_81 fl_RX8_38 rfl rfl rfl rfl (zm_own hb) (by rw [zm_len (i := 8) hN rfl]; omega) rfl ?_
  have hz13 := (hz12.mono (show _ ≤ N + 8 by omega)).consR (k := b) (j := 9) (v := (N + 7)) (by omega)
  refine zx_aload_n (i := 0) dX8_init_84 rfl rfl rfl ?_
  refine zx_iconst (v := 0) dX8_init_85 rfl rfl ?_
  refine zm_putI dX8_init_86 fl_RX8_41 rfl rfl ⟨rfl, rfl⟩ (zm_own hb) rfl ?_
  have hz14 := (hz13.mono (show _ ≤ N + 8 by omega)).consI (k := b) (j := 10) (v := 0) (by omega)
  refine zx_aload_n (i := 0) dX8_init_89 rfl rfl rfl ?_
  refine zx_iconst (v := (-1)) dX8_init_90 rfl rfl ?_
  refine zm_putI dX8_init_91 fl_RX8_44 rfl rfl ⟨rfl, rfl⟩ (zm_own hb) rfl ?_
  have hz15 := (hz14.mono (show _ ≤ N + 8 by omega)).consI (k := b) (j := 11) (v := (-1)) (by omega)
  refine zx_aload_n (i := 0) dX8_init_94 rfl rfl rfl ?_
  refine zx_iconst (v := 0) dX8_init_95 rfl rfl ?_
  refine zm_putI dX8_init_96 fl_RX8_47 rfl rfl ⟨rfl, rfl⟩ (zm_own hb) rfl ?_
  have hz16 := (hz15.mono (show _ ≤ N + 8 by omega)).consI (k := b) (j := 12) (v := 0) (by omega)
  refine zx_aload_n (i := 0) dX8_init_99 rfl rfl rfl ?_
  refine zx_iconst (v := 0) dX8_init_100 rfl rfl ?_
  refine zm_putI dX8_init_101 fl_RX8_50 rfl rfl ⟨rfl, rfl⟩ (zm_own hb) rfl ?_
  have hz17 := (hz16.mono (show _ ≤ N + 8 by omega)).consI (k := b) (j := 13) (v := 0) (by omega)
  refine zx_aload_n (i := 0) dX8_init_104 rfl rfl rfl ?_
  refine zx_iconst (v := 0) dX8_init_105 rfl rfl ?_
  refine zm_putI dX8_init_106 fl_RX8_53 rfl rfl ⟨rfl, rfl⟩ (zm_own hb) rfl ?_
  have hz18 := (hz17.mono (show _ ≤ N + 8 by omega)).consI (k := b) (j := 14) (v := 0) (by omega)
  refine zx_aload_n (i := 0) dX8_init_109 rfl rfl rfl ?_
  refine zx_bipush (v := 100) dX8_init_110 rfl rfl ?_
  refine zm_newaI (nn := 100) (X' := [(1, 5), (1, 5), (1, 15), (1, 5), (1, 5), (1, 5), (1, 15), (1, 3), (1, 100)]) (M := N + 8) dX8_init_112 (by decide) rfl (by decide) (hz18.mono (by omega)) (zm_len (i := 8) hN rfl) rfl (by omega) (by omega) (by omega) (zw_wl1 (by omega)) (zw_st1 (by omega)) rfl ?_
  refine zm_putRF dX8_init_114 fl_RX8_56 rfl rfl rfl rfl (zm_own hb) (by rw [zm_len (i := 9) hN rfl]; omega) rfl ?_
  have hz19 := (hz18.mono (show _ ≤ N + 9 by omega)).consR (k := b) (j := 15) (v := (N + 8)) (by omega)
  refine zx_aload_n (i := 0) dX8_init_117 rfl rfl rfl ?_
  refine zx_bipush (v := 6) dX8_init_118 rfl rfl ?_
  refine zm_newaI (nn := 6) (X' := [(1, 5), (1, 5), (1, 15), (1, 5), (1, 5), (1, 5), (1, 15), (1, 3), (1, 100), (1, 6)]) (M := N + 9) dX8_init_120 (by decide) rfl (by decide) (hz19.mono (by omega)) (zm_len (i := 9) hN rfl) rfl (by omega) (by omega) (by omega) (zw_wl1 (by omega)) (zw_st1 (by omega)) rfl ?_
  refine zm_putRF dX8_init_122 fl_RX8_59 rfl rfl rfl rfl (zm_own hb) (by rw [zm_len (i := 10) hN rfl]; omega) rfl ?_
  have hz20 := (hz19.mono (show _ ≤ N + 10 by omega)).consR (k := b) (j := 16) (v := (N + 9)) (by omega)
  refine zx_aload_n (i := 0) dX8_init_125 rfl rfl rfl ?_
  refine zx_bipush (v := 60) dX8_init_126 rfl rfl ?_
  refine zm_newaI (nn := 60) (X' := [(1, 5), (1, 5), (1, 15), (1, 5), (1, 5), (1, 5), (1, 15), (1, 3), (1, 100), (1, 6), (1, 60)]) (M := N + 10) dX8_init_128 (by decide) rfl (by decide) (hz20.mono (by omega)) (zm_len (i := 10) hN rfl) rfl (by omega) (by omega) (by omega) (zw_wl1 (by omega)) (zw_st1 (by omega)) rfl ?_
  refine zm_putRF dX8_init_130 fl_RX8_62 rfl rfl rfl rfl (zm_own hb) (by rw [zm_len (i := 11) hN rfl]; omega) rfl ?_
  have hz21 := (hz20.mono (show _ ≤ N + 11 by omega)).consR (k := b) (j := 17) (v := (N + 10)) (by omega)
  refine zx_aload_n (i := 0) dX8_init_133 rfl rfl rfl ?_
  refine zx_bipush (v := 60) dX8_init_134 rfl rfl ?_
  refine zm_newaI (nn := 60) (X' := [(1, 5), (1, 5), (1, 15), (1, 5), (1, 5), (1, 5), (1, 15), (1, 3), (1, 100), (1, 6), (1, 60), (1, 60)]) (M := N + 11) dX8_init_136 (by decide) rfl (by decide) (hz21.mono (by omega)) (zm_len (i := 11) hN rfl) rfl (by omega) (by omega) (by omega) (zw_wl1 (by omega)) (zw_st1 (by omega)) rfl ?_
  refine zm_putRF dX8_init_138 fl_RX8_65 rfl rfl rfl rfl (zm_own hb) (by rw [zm_len (i := 12) hN rfl]; omega) rfl ?_
  have hz22 := (hz21.mono (show _ ≤ N + 12 by omega)).consR (k := b) (j := 18) (v := (N + 11)) (by omega)
  refine zx_aload_n (i := 0) dX8_init_141 rfl rfl rfl ?_
  refine zx_bipush (v := 60) dX8_init_142 rfl rfl ?_
  refine zm_newaI (nn := 60) (X' := [(1, 5), (1, 5), (1, 15), (1, 5), (1, 5), (1, 5), (1, 15), (1, 3), (1, 100), (1, 6), (1, 60), (1, 60), (1, 60)]) (M := N + 12) dX8_init_144 (by decide) rfl (by decide) (hz22.mono (by omega)) (zm_len (i := 12) hN rfl) rfl (by omega) (by omega) (by omega) (zw_wl1 (by omega)) (zw_st1 (by omega)) rfl ?_
  refine zm_putRF dX8_init_146 fl_RX8_68 rfl rfl rfl rfl (zm_own hb) (by rw [zm_len (i := 13) hN rfl]; omega) rfl ?_
  have hz23 := (hz22.mono (show _ ≤ N + 13 by omega)).consR (k := b) (j := 19) (v := (N + 12)) (by omega)
  refine zx_aload_n (i := 0) dX8_init_149 rfl rfl rfl ?_
  refine zx_bipush (v := 60) dX8_init_150 rfl rfl ?_
  refine zm_newaI (nn := 60) (X' := [(1, 5), (1, 5), (1, 15), (1, 5), (1, 5), (1, 5), (1, 15), (1, 3), (1, 100), (1, 6), (1, 60), (1, 60), (1, 60), (1, 60)]) (M := N + 13) dX8_init_152 (by decide) rfl (by decide) (hz23.mono (by omega)) (zm_len (i := 13) hN rfl) rfl (by omega) (by omega) (by omega) (zw_wl1 (by omega)) (zw_st1 (by omega)) rfl ?_
  refine zm_putRF dX8_init_154 fl_RX8_71 rfl rfl rfl rfl (zm_own hb) (by rw [zm_len (i := 14) hN rfl]; omega) rfl ?_
  have hz24 := (hz23.mono (show _ ≤ N + 14 by omega)).consR (k := b) (j := 20) (v := (N + 13)) (by omega)
  refine zx_aload_n (i := 0) dX8_init_157 rfl rfl rfl ?_
  refine zx_sipush (v := 600) dX8_init_158 rfl rfl ?_
  refine zm_newaI (nn := 600) (X' := [(1, 5), (1, 5), (1, 15), (1, 5), (1, 5), (1, 5), (1, 15), (1, 3), (1, 100), (1, 6), (1, 60), (1, 60), (1, 60), (1, 60), (1, 600)]) (M := N + 14) dX8_init_161 (by decide) rfl (by decide) (hz24.mono (by omega)) (zm_len (i := 14) hN rfl) rfl (by omega) (by omega) (by omega) (zw_wl1 (by omega)) (zw_st1 (by omega)) rfl ?_
  refine zm_putRF dX8_init_163 fl_RX8_74 rfl rfl rfl rfl (zm_own hb) (by rw [zm_len (i := 15) hN rfl]; omega) rfl ?_
  have hz25 := (hz24.mono (show _ ≤ N + 15 by omega)).consR (k := b) (j := 21) (v := (N + 14)) (by omega)
  refine zx_aload_n (i := 0) dX8_init_166 rfl rfl rfl ?_
  refine zx_bipush (v := 101) dX8_init_167 rfl rfl ?_
  refine zm_newaI (nn := 101) (X' := [(1, 5), (1, 5), (1, 15), (1, 5), (1, 5), (1, 5), (1, 15), (1, 3), (1, 100), (1, 6), (1, 60), (1, 60), (1, 60), (1, 60), (1, 600), (1, 101)]) (M := N + 15) dX8_init_169 (by decide) rfl (by decide) (hz25.mono (by omega)) (zm_len (i := 15) hN rfl) rfl (by omega) (by omega) (by omega) (zw_wl1 (by omega)) (zw_st1 (by omega)) rfl ?_
  refine zm_putRF dX8_init_171 fl_RX8_77 rfl rfl rfl rfl (zm_own hb) (by rw [zm_len (i := 16) hN rfl]; omega) rfl ?_
  have hz26 := (hz25.mono (show _ ≤ N + 16 by omega)).consR (k := b) (j := 22) (v := (N + 15)) (by omega)
  refine zx_aload_n (i := 0) dX8_init_174 rfl rfl rfl ?_
  refine zx_iconst (v := 0) dX8_init_175 rfl rfl ?_
  refine zm_putI dX8_init_176 fl_RX8_80 rfl rfl ⟨rfl, rfl⟩ (zm_own hb) rfl ?_
  have hz27 := (hz26.mono (show _ ≤ N + 16 by omega)).consI (k := b) (j := 23) (v := 0) (by omega)
  refine zx_aload_n (i := 0) dX8_init_179 rfl rfl rfl ?_
  refine zx_iconst (v := 0) dX8_init_180 rfl rfl ?_
  refine zm_putI dX8_init_181 fl_RX8_83 rfl rfl ⟨rfl, rfl⟩ (zm_own hb) rfl ?_
  have hz28 := (hz27.mono (show _ ≤ N + 16 by omega)).consI (k := b) (j := 24) (v := 0) (by omega)
  refine zx_aload_n (i := 0) dX8_init_184 rfl rfl rfl ?_
  refine zx_iconst (v := 0) dX8_init_185 rfl rfl ?_
  refine zm_putI dX8_init_186 fl_RX8_86 rfl rfl ⟨rfl, rfl⟩ (zm_own hb) rfl ?_
  have hz29 := (hz28.mono (show _ ≤ N + 16 by omega)).consI (k := b) (j := 25) (v := 0) (by omega)
  refine zx_aload_n (i := 0) dX8_init_189 rfl rfl rfl ?_
  refine zx_bipush (v := 10) dX8_init_190 rfl rfl ?_
  refine zm_newaI (nn := 10) (X' := [(1, 5), (1, 5), (1, 15), (1, 5), (1, 5), (1, 5), (1, 15), (1, 3), (1, 100), (1, 6), (1, 60), (1, 60), (1, 60), (1, 60), (1, 600), (1, 101), (1, 10)]) (M := N + 16) dX8_init_192 (by decide) rfl (by decide) (hz29.mono (by omega)) (zm_len (i := 16) hN rfl) rfl (by omega) (by omega) (by omega) (zw_wl1 (by omega)) (zw_st1 (by omega)) rfl ?_
  refine zx_dup dX8_init_194 rfl rfl ?_
  refine zx_iconst (v := 0) dX8_init_195 rfl rfl ?_
  refine zx_bipush (v := 111) dX8_init_196 rfl rfl ?_
  refine zm_iast (j := 0) dX8_init_198 (zm_row hN rfl) (by unfold vp_in; decide) rfl rfl ?_
  have hz30 := (hz29.mono (show _ ≤ N + 17 by omega)).consI (k := (N + 16)) (j := 0) (v := 111) (by omega)
  refine zx_dup dX8_init_199 rfl rfl ?_
  refine zx_iconst (v := 1) dX8_init_200 rfl rfl ?_
  refine zx_bipush (v := 119) dX8_init_201 rfl rfl ?_
  refine zm_iast (j := 1) dX8_init_203 (zm_row hN rfl) (by unfold vp_in; decide) rfl rfl ?_
  have hz31 := (hz30.mono (show _ ≤ N + 17 by omega)).consI (k := (N + 16)) (j := 1) (v := 119) (by omega)
  refine zx_dup dX8_init_204 rfl rfl ?_
  refine zx_iconst (v := 2) dX8_init_205 rfl rfl ?_
  refine zx_bipush (v := 101) dX8_init_206 rfl rfl ?_
  refine zm_iast (j := 2) dX8_init_208 (zm_row hN rfl) (by unfold vp_in; decide) rfl rfl ?_
  have hz32 := (hz31.mono (show _ ≤ N + 17 by omega)).consI (k := (N + 16)) (j := 2) (v := 101) (by omega)
  refine zx_dup dX8_init_209 rfl rfl ?_
  refine zx_iconst (v := 3) dX8_init_210 rfl rfl ?_
  refine zx_bipush (v := 115) dX8_init_211 rfl rfl ?_
  refine zm_iast (j := 3) dX8_init_213 (zm_row hN rfl) (by unfold vp_in; decide) rfl rfl ?_
  have hz33 := (hz32.mono (show _ ≤ N + 17 by omega)).consI (k := (N + 16)) (j := 3) (v := 115) (by omega)
  refine zx_dup dX8_init_214 rfl rfl ?_
  refine zx_iconst (v := 4) dX8_init_215 rfl rfl ?_
  refine zx_bipush (v := 101) dX8_init_216 rfl rfl ?_
  refine zm_iast (j := 4) dX8_init_218 (zm_row hN rfl) (by unfold vp_in; decide) rfl rfl ?_
  have hz34 := (hz33.mono (show _ ≤ N + 17 by omega)).consI (k := (N + 16)) (j := 4) (v := 101) (by omega)
  refine zx_dup dX8_init_219 rfl rfl ?_
  refine zx_iconst (v := 5) dX8_init_220 rfl rfl ?_
  refine zx_bipush (v := 101) dX8_init_221 rfl rfl ?_
  refine zm_iast (j := 5) dX8_init_223 (zm_row hN rfl) (by unfold vp_in; decide) rfl rfl ?_
  have hz35 := (hz34.mono (show _ ≤ N + 17 by omega)).consI (k := (N + 16)) (j := 5) (v := 101) (by omega)
  refine zx_dup dX8_init_224 rfl rfl ?_
  refine zx_bipush (v := 6) dX8_init_225 rfl rfl ?_
  refine zx_bipush (v := 109) dX8_init_227 rfl rfl ?_
  refine zm_iast (j := 6) dX8_init_229 (zm_row hN rfl) (by unfold vp_in; decide) rfl rfl ?_
  have hz36 := (hz35.mono (show _ ≤ N + 17 by omega)).consI (k := (N + 16)) (j := 6) (v := 109) (by omega)
  refine zx_dup dX8_init_230 rfl rfl ?_
  refine zx_bipush (v := 7) dX8_init_231 rfl rfl ?_
  refine zx_bipush (v := 111) dX8_init_233 rfl rfl ?_
  refine zm_iast (j := 7) dX8_init_235 (zm_row hN rfl) (by unfold vp_in; decide) rfl rfl ?_
  have hz37 := (hz36.mono (show _ ≤ N + 17 by omega)).consI (k := (N + 16)) (j := 7) (v := 111) (by omega)
  refine zx_dup dX8_init_236 rfl rfl ?_
  refine zx_bipush (v := 8) dX8_init_237 rfl rfl ?_
  refine zx_bipush (v := 115) dX8_init_239 rfl rfl ?_
  refine zm_iast (j := 8) dX8_init_241 (zm_row hN rfl) (by unfold vp_in; decide) rfl rfl ?_
  have hz38 := (hz37.mono (show _ ≤ N + 17 by omega)).consI (k := (N + 16)) (j := 8) (v := 115) (by omega)
  refine zx_dup dX8_init_242 rfl rfl ?_
  refine zx_bipush (v := 9) dX8_init_243 rfl rfl ?_
  refine zx_bipush (v := 116) dX8_init_245 rfl rfl ?_
  refine zm_iast (j := 9) dX8_init_247 (zm_row hN rfl) (by unfold vp_in; decide) rfl rfl ?_
  have hz39 := (hz38.mono (show _ ≤ N + 17 by omega)).consI (k := (N + 16)) (j := 9) (v := 116) (by omega)
  refine zm_putRF dX8_init_248 fl_RX8_89 rfl rfl rfl rfl (zm_own hb) (by rw [zm_len (i := 17) hN rfl]; omega) rfl ?_
  have hz40 := (hz39.mono (show _ ≤ N + 17 by omega)).consR (k := b) (j := 26) (v := (N + 16)) (by omega)
  refine zx_aload_n (i := 0) dX8_init_251 rfl rfl rfl ?_
  refine zx_bipush (v := 100) dX8_init_252 rfl rfl ?_
  refine zm_newaZ (nn := 100) (X' := [(1, 5), (1, 5), (1, 15), (1, 5), (1, 5), (1, 5), (1, 15), (1, 3), (1, 100), (1, 6), (1, 60), (1, 60), (1, 60), (1, 60), (1, 600), (1, 101), (1, 10), (3, 100)]) (M := N + 17) dX8_init_254 (by decide) rfl (by decide) (hz40.mono (by omega)) (zm_len (i := 17) hN rfl) rfl (by omega) (by omega) (by omega) (zw_wl1 (by omega)) (zw_st1 (by omega)) rfl ?_
  refine zm_putRF dX8_init_256 fl_RX8_92 rfl rfl rfl rfl (zm_own hb) (by rw [zm_len (i := 18) hN rfl]; omega) rfl ?_
  have hz41 := (hz40.mono (show _ ≤ N + 18 by omega)).consR (k := b) (j := 27) (v := (N + 17)) (by omega)
  refine zx_aload_n (i := 0) dX8_init_259 rfl rfl rfl ?_
  refine zx_bipush (v := 15) dX8_init_260 rfl rfl ?_
  refine zm_newaI (nn := 15) (X' := [(1, 5), (1, 5), (1, 15), (1, 5), (1, 5), (1, 5), (1, 15), (1, 3), (1, 100), (1, 6), (1, 60), (1, 60), (1, 60), (1, 60), (1, 600), (1, 101), (1, 10), (3, 100), (1, 15)]) (M := N + 18) dX8_init_262 (by decide) rfl (by decide) (hz41.mono (by omega)) (zm_len (i := 18) hN rfl) rfl (by omega) (by omega) (by omega) (zw_wl1 (by omega)) (zw_st1 (by omega)) rfl ?_
  refine zm_putRF dX8_init_264 fl_RX8_96 rfl rfl rfl rfl (zm_own hb) (by rw [zm_len (i := 19) hN rfl]; omega) rfl ?_
  have hz42 := (hz41.mono (show _ ≤ N + 19 by omega)).consR (k := b) (j := 28) (v := (N + 18)) (by omega)
  refine zx_aload_n (i := 0) dX8_init_267 rfl rfl rfl ?_
  refine zx_iconst (v := 5) dX8_init_268 rfl rfl ?_
  refine zm_newaI (nn := 5) (X' := [(1, 5), (1, 5), (1, 15), (1, 5), (1, 5), (1, 5), (1, 15), (1, 3), (1, 100), (1, 6), (1, 60), (1, 60), (1, 60), (1, 60), (1, 600), (1, 101), (1, 10), (3, 100), (1, 15), (1, 5)]) (M := N + 19) dX8_init_269 (by decide) rfl (by decide) (hz42.mono (by omega)) (zm_len (i := 19) hN rfl) rfl (by omega) (by omega) (by omega) (zw_wl1 (by omega)) (zw_st1 (by omega)) rfl ?_
  refine zm_putRF dX8_init_271 fl_RX8_99 rfl rfl rfl rfl (zm_own hb) (by rw [zm_len (i := 20) hN rfl]; omega) rfl ?_
  have hz43 := (hz42.mono (show _ ≤ N + 20 by omega)).consR (k := b) (j := 29) (v := (N + 19)) (by omega)
  refine zx_aload_n (i := 0) dX8_init_274 rfl rfl rfl ?_
  refine zx_iconst (v := 5) dX8_init_275 rfl rfl ?_
  refine zm_newaI (nn := 5) (X' := [(1, 5), (1, 5), (1, 15), (1, 5), (1, 5), (1, 5), (1, 15), (1, 3), (1, 100), (1, 6), (1, 60), (1, 60), (1, 60), (1, 60), (1, 600), (1, 101), (1, 10), (3, 100), (1, 15), (1, 5), (1, 5)]) (M := N + 20) dX8_init_276 (by decide) rfl (by decide) (hz43.mono (by omega)) (zm_len (i := 20) hN rfl) rfl (by omega) (by omega) (by omega) (zw_wl1 (by omega)) (zw_st1 (by omega)) rfl ?_
  refine zm_putRF dX8_init_278 fl_RX8_102 rfl rfl rfl rfl (zm_own hb) (by rw [zm_len (i := 21) hN rfl]; omega) rfl ?_
  have hz44 := (hz43.mono (show _ ≤ N + 21 by omega)).consR (k := b) (j := 30) (v := (N + 20)) (by omega)
  refine zx_aload_n (i := 0) dX8_init_281 rfl rfl rfl ?_
  refine zx_iconst (v := 5) dX8_init_282 rfl rfl ?_
  refine zm_newaI (nn := 5) (X' := [(1, 5), (1, 5), (1, 15), (1, 5), (1, 5), (1, 5), (1, 15), (1, 3), (1, 100), (1, 6), (1, 60), (1, 60), (1, 60), (1, 60), (1, 600), (1, 101), (1, 10), (3, 100), (1, 15), (1, 5), (1, 5), (1, 5)]) (M := N + 21) dX8_init_283 (by decide) rfl (by decide) (hz44.mono (by omega)) (zm_len (i := 21) hN rfl) rfl (by omega) (by omega) (by omega) (zw_wl1 (by omega)) (zw_st1 (by omega)) rfl ?_
  refine zm_putRF dX8_init_285 fl_RX8_105 rfl rfl rfl rfl (zm_own hb) (by rw [zm_len (i := 22) hN rfl]; omega) rfl ?_
  have hz45 := (hz44.mono (show _ ≤ N + 22 by omega)).consR (k := b) (j := 31) (v := (N + 21)) (by omega)
  refine zx_aload_n (i := 0) dX8_init_288 rfl rfl rfl ?_
  refine zx_iconst (v := 5) dX8_init_289 rfl rfl ?_
  refine zm_newaI (nn := 5) (X' := [(1, 5), (1, 5), (1, 15), (1, 5), (1, 5), (1, 5), (1, 15), (1, 3), (1, 100), (1, 6), (1, 60), (1, 60), (1, 60), (1, 60), (1, 600), (1, 101), (1, 10), (3, 100), (1, 15), (1, 5), (1, 5), (1, 5), (1, 5)]) (M := N + 22) dX8_init_290 (by decide) rfl (by decide) (hz45.mono (by omega)) (zm_len (i := 22) hN rfl) rfl (by omega) (by omega) (by omega) (zw_wl1 (by omega)) (zw_st1 (by omega)) rfl ?_
  refine zm_putRF dX8_init_292 fl_RX8_108 rfl rfl rfl rfl (zm_own hb) (by rw [zm_len (i := 23) hN rfl]; omega) rfl ?_
  have hz46 := (hz45.mono (show _ ≤ N + 23 by omega)).consR (k := b) (j := 32) (v := (N + 22)) (by omega)
  refine zx_aload_n (i := 0) dX8_init_295 rfl rfl rfl ?_
  refine zx_iconst (v := 0) dX8_init_296 rfl rfl ?_
  refine zm_putI dX8_init_297 fl_RX8_111 rfl rfl ⟨rfl, rfl⟩ (zm_own hb) rfl ?_
  have hz47 := (hz46.mono (show _ ≤ N + 23 by omega)).consI (k := b) (j := 33) (v := 0) (by omega)
  refine zx_aload_n (i := 0) dX8_init_300 rfl rfl rfl ?_
  refine zx_iconst (v := 0) dX8_init_301 rfl rfl ?_
  refine zm_putI dX8_init_302 fl_RX8_114 rfl rfl ⟨rfl, rfl⟩ (zm_own hb) rfl ?_
  have hz48 := (hz47.mono (show _ ≤ N + 23 by omega)).consI (k := b) (j := 34) (v := 0) (by omega)
  refine zx_aload_n (i := 0) dX8_init_305 rfl rfl rfl ?_
  refine zx_iconst (v := 0) dX8_init_306 rfl rfl ?_
  refine zm_putI dX8_init_307 fl_RX8_117 rfl rfl ⟨rfl, rfl⟩ (zm_own hb) rfl ?_
  have hz49 := (hz48.mono (show _ ≤ N + 23 by omega)).consI (k := b) (j := 35) (v := 0) (by omega)
  refine zx_aload_n (i := 0) dX8_init_310 rfl rfl rfl ?_
  refine zx_iconst (v := 0) dX8_init_311 rfl rfl ?_
  refine zm_putI dX8_init_312 fl_RX8_120 rfl rfl ⟨rfl, rfl⟩ (zm_own hb) rfl ?_
  have hz50 := (hz49.mono (show _ ≤ N + 23 by omega)).consI (k := b) (j := 36) (v := 0) (by omega)
  refine zx_aload_n (i := 0) dX8_init_315 rfl rfl rfl ?_
  refine zx_iconst (v := 3) dX8_init_316 rfl rfl ?_
  refine zm_newaI (nn := 3) (X' := [(1, 5), (1, 5), (1, 15), (1, 5), (1, 5), (1, 5), (1, 15), (1, 3), (1, 100), (1, 6), (1, 60), (1, 60), (1, 60), (1, 60), (1, 600), (1, 101), (1, 10), (3, 100), (1, 15), (1, 5), (1, 5), (1, 5), (1, 5), (1, 3)]) (M := N + 23) dX8_init_317 (by decide) rfl (by decide) (hz50.mono (by omega)) (zm_len (i := 23) hN rfl) rfl (by omega) (by omega) (by omega) (zw_wl1 (by omega)) (zw_st1 (by omega)) rfl ?_
  refine zm_putRF dX8_init_319 fl_RX8_123 rfl rfl rfl rfl (zm_own hb) (by rw [zm_len (i := 24) hN rfl]; omega) rfl ?_
  have hz51 := (hz50.mono (show _ ≤ N + 24 by omega)).consR (k := b) (j := 37) (v := (N + 23)) (by omega)
  refine zx_aload_n (i := 0) dX8_init_322 rfl rfl rfl ?_
  refine zx_iconst (v := 0) dX8_init_323 rfl rfl ?_
  refine zm_putI dX8_init_324 fl_RX8_126 rfl rfl ⟨rfl, rfl⟩ (zm_own hb) rfl ?_
  have hz52 := (hz51.mono (show _ ≤ N + 24 by omega)).consI (k := b) (j := 38) (v := 0) (by omega)
  refine zx_aload_n (i := 0) dX8_init_327 rfl rfl rfl ?_
  refine zx_bipush (v := 12) dX8_init_328 rfl rfl ?_
  refine zm_newaI (nn := 12) (X' := [(1, 5), (1, 5), (1, 15), (1, 5), (1, 5), (1, 5), (1, 15), (1, 3), (1, 100), (1, 6), (1, 60), (1, 60), (1, 60), (1, 60), (1, 600), (1, 101), (1, 10), (3, 100), (1, 15), (1, 5), (1, 5), (1, 5), (1, 5), (1, 3), (1, 12)]) (M := N + 24) dX8_init_330 (by decide) rfl (by decide) (hz52.mono (by omega)) (zm_len (i := 24) hN rfl) rfl (by omega) (by omega) (by omega) (zw_wl1 (by omega)) (zw_st1 (by omega)) rfl ?_
  refine zm_putRF dX8_init_332 fl_RX8_129 rfl rfl rfl rfl (zm_own hb) (by rw [zm_len (i := 25) hN rfl]; omega) rfl ?_
  have hz53 := (hz52.mono (show _ ≤ N + 25 by omega)).consR (k := b) (j := 39) (v := (N + 24)) (by omega)
  refine zx_aload_n (i := 0) dX8_init_335 rfl rfl rfl ?_
  refine zx_bipush (v := 12) dX8_init_336 rfl rfl ?_
  refine zm_newaI (nn := 12) (X' := [(1, 5), (1, 5), (1, 15), (1, 5), (1, 5), (1, 5), (1, 15), (1, 3), (1, 100), (1, 6), (1, 60), (1, 60), (1, 60), (1, 60), (1, 600), (1, 101), (1, 10), (3, 100), (1, 15), (1, 5), (1, 5), (1, 5), (1, 5), (1, 3), (1, 12), (1, 12)]) (M := N + 25) dX8_init_338 (by decide) rfl (by decide) (hz53.mono (by omega)) (zm_len (i := 25) hN rfl) rfl (by omega) (by omega) (by omega) (zw_wl1 (by omega)) (zw_st1 (by omega)) rfl ?_
  refine zm_putRF dX8_init_340 fl_RX8_132 rfl rfl rfl rfl (zm_own hb) (by rw [zm_len (i := 26) hN rfl]; omega) rfl ?_
  have hz54 := (hz53.mono (show _ ≤ N + 26 by omega)).consR (k := b) (j := 40) (v := (N + 25)) (by omega)
  refine zx_aload_n (i := 0) dX8_init_343 rfl rfl rfl ?_
  refine zx_iconst (v := 0) dX8_init_344 rfl rfl ?_
  refine zm_putI dX8_init_345 fl_RX8_135 rfl rfl ⟨rfl, rfl⟩ (zm_own hb) rfl ?_
  have hz55 := (hz54.mono (show _ ≤ N + 26 by omega)).consI (k := b) (j := 41) (v := 0) (by omega)
  refine zx_aload_n (i := 0) dX8_init_348 rfl rfl rfl ?_
  refine zx_iconst (v := (-1)) dX8_init_349 rfl rfl ?_
  refine zm_putI dX8_init_350 fl_RX8_139 rfl rfl ⟨rfl, rfl⟩ (zm_own hb) rfl ?_
  have hz56 := (hz55.mono (show _ ≤ N + 26 by omega)).consI (k := b) (j := 42) (v := (-1)) (by omega)
  refine zx_aload_n (i := 0) dX8_init_353 rfl rfl rfl ?_
  refine zx_iconst (v := 0) dX8_init_354 rfl rfl ?_
  refine zm_putI dX8_init_355 fl_RX8_142 rfl rfl ⟨rfl, rfl⟩ (zm_own hb) rfl ?_
  have hz57 := (hz56.mono (show _ ≤ N + 26 by omega)).consI (k := b) (j := 43) (v := 0) (by omega)
  refine zx_aload_n (i := 0) dX8_init_358 rfl rfl rfl ?_
  refine zx_iconst (v := 0) dX8_init_359 rfl rfl ?_
  refine zm_putI dX8_init_360 fl_RX8_145 rfl rfl ⟨rfl, rfl⟩ (zm_own hb) rfl ?_
  have hz58 := (hz57.mono (show _ ≤ N + 26 by omega)).consI (k := b) (j := 44) (v := 0) (by omega)
  refine zx_aload_n (i := 0) dX8_init_363 rfl rfl rfl ?_
  refine zx_iconst (v := 0) dX8_init_364 rfl rfl ?_
  refine zm_putI dX8_init_365 fl_RX8_148 rfl rfl ⟨rfl, rfl⟩ (zm_own hb) rfl ?_
  have hz59 := (hz58.mono (show _ ≤ N + 26 by omega)).consI (k := b) (j := 45) (v := 0) (by omega)
  refine zx_aload_n (i := 0) dX8_init_368 rfl rfl rfl ?_
  refine zx_iconst (v := 5) dX8_init_369 rfl rfl ?_
  refine zm_newaI (nn := 5) (X' := [(1, 5), (1, 5), (1, 15), (1, 5), (1, 5), (1, 5), (1, 15), (1, 3), (1, 100), (1, 6), (1, 60), (1, 60), (1, 60), (1, 60), (1, 600), (1, 101), (1, 10), (3, 100), (1, 15), (1, 5), (1, 5), (1, 5), (1, 5), (1, 3), (1, 12), (1, 12), (1, 5)]) (M := N + 26) dX8_init_370 (by decide) rfl (by decide) (hz59.mono (by omega)) (zm_len (i := 26) hN rfl) rfl (by omega) (by omega) (by omega) (zw_wl1 (by omega)) (zw_st1 (by omega)) rfl ?_
  refine zm_putRF dX8_init_372 fl_RX8_151 rfl rfl rfl rfl (zm_own hb) (by rw [zm_len (i := 27) hN rfl]; omega) rfl ?_
  have hz60 := (hz59.mono (show _ ≤ N + 27 by omega)).consR (k := b) (j := 46) (v := (N + 26)) (by omega)
  refine zx_aload_n (i := 0) dX8_init_375 rfl rfl rfl ?_
  refine zx_iconst (v := 5) dX8_init_376 rfl rfl ?_
  refine zm_newaI (nn := 5) (X' := [(1, 5), (1, 5), (1, 15), (1, 5), (1, 5), (1, 5), (1, 15), (1, 3), (1, 100), (1, 6), (1, 60), (1, 60), (1, 60), (1, 60), (1, 600), (1, 101), (1, 10), (3, 100), (1, 15), (1, 5), (1, 5), (1, 5), (1, 5), (1, 3), (1, 12), (1, 12), (1, 5), (1, 5)]) (M := N + 27) dX8_init_377 (by decide) rfl (by decide) (hz60.mono (by omega)) (zm_len (i := 27) hN rfl) rfl (by omega) (by omega) (by omega) (zw_wl1 (by omega)) (zw_st1 (by omega)) rfl ?_
  refine zm_putRF dX8_init_379 fl_RX8_154 rfl rfl rfl rfl (zm_own hb) (by rw [zm_len (i := 28) hN rfl]; omega) rfl ?_
  have hz61 := (hz60.mono (show _ ≤ N + 28 by omega)).consR (k := b) (j := 47) (v := (N + 27)) (by omega)
  refine zx_aload_n (i := 0) dX8_init_382 rfl rfl rfl ?_
  refine zx_bipush (v := 15) dX8_init_383 rfl rfl ?_
  refine zm_newaI (nn := 15) (X' := [(1, 5), (1, 5), (1, 15), (1, 5), (1, 5), (1, 5), (1, 15), (1, 3), (1, 100), (1, 6), (1, 60), (1, 60), (1, 60), (1, 60), (1, 600), (1, 101), (1, 10), (3, 100), (1, 15), (1, 5), (1, 5), (1, 5), (1, 5), (1, 3), (1, 12), (1, 12), (1, 5), (1, 5), (1, 15)]) (M := N + 28) dX8_init_385 (by decide) rfl (by decide) (hz61.mono (by omega)) (zm_len (i := 28) hN rfl) rfl (by omega) (by omega) (by omega) (zw_wl1 (by omega)) (zw_st1 (by omega)) rfl ?_
  refine zm_putRF dX8_init_387 fl_RX8_157 rfl rfl rfl rfl (zm_own hb) (by rw [zm_len (i := 29) hN rfl]; omega) rfl ?_
  have hz62 := (hz61.mono (show _ ≤ N + 29 by omega)).consR (k := b) (j := 48) (v := (N + 28)) (by omega)
  refine zx_aload_n (i := 0) dX8_init_390 rfl rfl rfl ?_
  refine zx_iconst (v := 5) dX8_init_391 rfl rfl ?_
  refine zm_newaI (nn := 5) (X' := [(1, 5), (1, 5), (1, 15), (1, 5), (1, 5), (1, 5), (1, 15), (1, 3), (1, 100), (1, 6), (1, 60), (1, 60), (1, 60), (1, 60), (1, 600), (1, 101), (1, 10), (3, 100), (1, 15), (1, 5), (1, 5), (1, 5), (1, 5), (1, 3), (1, 12), (1, 12), (1, 5), (1, 5), (1, 15), (1, 5)]) (M := N + 29) dX8_init_392 (by decide) rfl (by decide) (hz62.mono (by omega)) (zm_len (i := 29) hN rfl) rfl (by omega) (by omega) (by omega) (zw_wl1 (by omega)) (zw_st1 (by omega)) rfl ?_
  refine zm_putRF dX8_init_394 fl_RX8_160 rfl rfl rfl rfl (zm_own hb) (by rw [zm_len (i := 30) hN rfl]; omega) rfl ?_
  have hz63 := (hz62.mono (show _ ≤ N + 30 by omega)).consR (k := b) (j := 49) (v := (N + 29)) (by omega)
  refine zx_aload_n (i := 0) dX8_init_397 rfl rfl rfl ?_
  refine zx_iconst (v := 5) dX8_init_398 rfl rfl ?_
  refine zm_newaI (nn := 5) (X' := [(1, 5), (1, 5), (1, 15), (1, 5), (1, 5), (1, 5), (1, 15), (1, 3), (1, 100), (1, 6), (1, 60), (1, 60), (1, 60), (1, 60), (1, 600), (1, 101), (1, 10), (3, 100), (1, 15), (1, 5), (1, 5), (1, 5), (1, 5), (1, 3), (1, 12), (1, 12), (1, 5), (1, 5), (1, 15), (1, 5), (1, 5)]) (M := N + 30) dX8_init_399 (by decide) rfl (by decide) (hz63.mono (by omega)) (zm_len (i := 30) hN rfl) rfl (by omega) (by omega) (by omega) (zw_wl1 (by omega)) (zw_st1 (by omega)) rfl ?_
  refine zm_putRF dX8_init_401 fl_RX8_163 rfl rfl rfl rfl (zm_own hb) (by rw [zm_len (i := 31) hN rfl]; omega) rfl ?_
  have hz64 := (hz63.mono (show _ ≤ N + 31 by omega)).consR (k := b) (j := 50) (v := (N + 30)) (by omega)
  refine zx_aload_n (i := 0) dX8_init_404 rfl rfl rfl ?_
  refine zx_iconst (v := 5) dX8_init_405 rfl rfl ?_
  refine zm_newaI (nn := 5) (X' := [(1, 5), (1, 5), (1, 15), (1, 5), (1, 5), (1, 5), (1, 15), (1, 3), (1, 100), (1, 6), (1, 60), (1, 60), (1, 60), (1, 60), (1, 600), (1, 101), (1, 10), (3, 100), (1, 15), (1, 5), (1, 5), (1, 5), (1, 5), (1, 3), (1, 12), (1, 12), (1, 5), (1, 5), (1, 15), (1, 5), (1, 5), (1, 5)]) (M := N + 31) dX8_init_406 (by decide) rfl (by decide) (hz64.mono (by omega)) (zm_len (i := 31) hN rfl) rfl (by omega) (by omega) (by omega) (zw_wl1 (by omega)) (zw_st1 (by omega)) rfl ?_
  refine zm_putRF dX8_init_408 fl_RX8_166 rfl rfl rfl rfl (zm_own hb) (by rw [zm_len (i := 32) hN rfl]; omega) rfl ?_
  have hz65 := (hz64.mono (show _ ≤ N + 32 by omega)).consR (k := b) (j := 51) (v := (N + 31)) (by omega)
  refine zx_aload_n (i := 0) dX8_init_411 rfl rfl rfl ?_
  refine zx_bipush (v := 15) dX8_init_412 rfl rfl ?_
  refine zm_newaI (nn := 15) (X' := [(1, 5), (1, 5), (1, 15), (1, 5), (1, 5), (1, 5), (1, 15), (1, 3), (1, 100), (1, 6), (1, 60), (1, 60), (1, 60), (1, 60), (1, 600), (1, 101), (1, 10), (3, 100), (1, 15), (1, 5), (1, 5), (1, 5), (1, 5), (1, 3), (1, 12), (1, 12), (1, 5), (1, 5), (1, 15), (1, 5), (1, 5), (1, 5), (1, 15)]) (M := N + 32) dX8_init_414 (by decide) rfl (by decide) (hz65.mono (by omega)) (zm_len (i := 32) hN rfl) rfl (by omega) (by omega) (by omega) (zw_wl1 (by omega)) (zw_st1 (by omega)) rfl ?_
  refine zm_putRF dX8_init_416 fl_RX8_169 rfl rfl rfl rfl (zm_own hb) (by rw [zm_len (i := 33) hN rfl]; omega) rfl ?_
  have hz66 := (hz65.mono (show _ ≤ N + 33 by omega)).consR (k := b) (j := 52) (v := (N + 32)) (by omega)
  refine zx_aload_n (i := 0) dX8_init_419 rfl rfl rfl ?_
  refine zx_iconst (v := 3) dX8_init_420 rfl rfl ?_
  refine zm_newaI (nn := 3) (X' := [(1, 5), (1, 5), (1, 15), (1, 5), (1, 5), (1, 5), (1, 15), (1, 3), (1, 100), (1, 6), (1, 60), (1, 60), (1, 60), (1, 60), (1, 600), (1, 101), (1, 10), (3, 100), (1, 15), (1, 5), (1, 5), (1, 5), (1, 5), (1, 3), (1, 12), (1, 12), (1, 5), (1, 5), (1, 15), (1, 5), (1, 5), (1, 5), (1, 15), (1, 3)]) (M := N + 33) dX8_init_421 (by decide) rfl (by decide) (hz66.mono (by omega)) (zm_len (i := 33) hN rfl) rfl (by omega) (by omega) (by omega) (zw_wl1 (by omega)) (zw_st1 (by omega)) rfl ?_
  refine zm_putRF dX8_init_423 fl_RX8_172 rfl rfl rfl rfl (zm_own hb) (by rw [zm_len (i := 34) hN rfl]; omega) rfl ?_
  have hz67 := (hz66.mono (show _ ≤ N + 34 by omega)).consR (k := b) (j := 53) (v := (N + 33)) (by omega)
  refine zx_aload_n (i := 0) dX8_init_426 rfl rfl rfl ?_
  refine zx_bipush (v := 12) dX8_init_427 rfl rfl ?_
  refine zm_newaI (nn := 12) (X' := [(1, 5), (1, 5), (1, 15), (1, 5), (1, 5), (1, 5), (1, 15), (1, 3), (1, 100), (1, 6), (1, 60), (1, 60), (1, 60), (1, 60), (1, 600), (1, 101), (1, 10), (3, 100), (1, 15), (1, 5), (1, 5), (1, 5), (1, 5), (1, 3), (1, 12), (1, 12), (1, 5), (1, 5), (1, 15), (1, 5), (1, 5), (1, 5), (1, 15), (1, 3), (1, 12)]) (M := N + 34) dX8_init_429 (by decide) rfl (by decide) (hz67.mono (by omega)) (zm_len (i := 34) hN rfl) rfl (by omega) (by omega) (by omega) (zw_wl1 (by omega)) (zw_st1 (by omega)) rfl ?_
  refine zm_putRF dX8_init_431 fl_RX8_175 rfl rfl rfl rfl (zm_own hb) (by rw [zm_len (i := 35) hN rfl]; omega) rfl ?_
  have hz68 := (hz67.mono (show _ ≤ N + 35 by omega)).consR (k := b) (j := 54) (v := (N + 34)) (by omega)
  refine zx_aload_n (i := 0) dX8_init_434 rfl rfl rfl ?_
  refine zx_bipush (v := 12) dX8_init_435 rfl rfl ?_
  refine zm_newaI (nn := 12) (X' := [(1, 5), (1, 5), (1, 15), (1, 5), (1, 5), (1, 5), (1, 15), (1, 3), (1, 100), (1, 6), (1, 60), (1, 60), (1, 60), (1, 60), (1, 600), (1, 101), (1, 10), (3, 100), (1, 15), (1, 5), (1, 5), (1, 5), (1, 5), (1, 3), (1, 12), (1, 12), (1, 5), (1, 5), (1, 15), (1, 5), (1, 5), (1, 5), (1, 15), (1, 3), (1, 12), (1, 12)]) (M := N + 35) dX8_init_437 (by decide) rfl (by decide) (hz68.mono (by omega)) (zm_len (i := 35) hN rfl) rfl (by omega) (by omega) (by omega) (zw_wl1 (by omega)) (zw_st1 (by omega)) rfl ?_
  refine zm_putRF dX8_init_439 fl_RX8_178 rfl rfl rfl rfl (zm_own hb) (by rw [zm_len (i := 36) hN rfl]; omega) rfl ?_
  have hz69 := (hz68.mono (show _ ≤ N + 36 by omega)).consR (k := b) (j := 55) (v := (N + 35)) (by omega)
  refine zx_aload_n (i := 0) dX8_init_442 rfl rfl rfl ?_
  refine zx_iconst (v := 0) dX8_init_443 rfl rfl ?_
  refine zm_putI dX8_init_444 fl_RX8_181 rfl rfl ⟨rfl, rfl⟩ (zm_own hb) rfl ?_
  have hz70 := (hz69.mono (show _ ≤ N + 36 by omega)).consI (k := b) (j := 56) (v := 0) (by omega)
  refine zx_aload_n (i := 0) dX8_init_447 rfl rfl rfl ?_
  refine zx_bipush (v := 20) dX8_init_448 rfl rfl ?_
  refine zm_newaI (nn := 20) (X' := [(1, 5), (1, 5), (1, 15), (1, 5), (1, 5), (1, 5), (1, 15), (1, 3), (1, 100), (1, 6), (1, 60), (1, 60), (1, 60), (1, 60), (1, 600), (1, 101), (1, 10), (3, 100), (1, 15), (1, 5), (1, 5), (1, 5), (1, 5), (1, 3), (1, 12), (1, 12), (1, 5), (1, 5), (1, 15), (1, 5), (1, 5), (1, 5), (1, 15), (1, 3), (1, 12), (1, 12), (1, 20)]) (M := N + 36) dX8_init_450 (by decide) rfl (by decide) (hz70.mono (by omega)) (zm_len (i := 36) hN rfl) rfl (by omega) (by omega) (by omega) (zw_wl1 (by omega)) (zw_st1 (by omega)) rfl ?_
  refine zm_putRF dX8_init_452 fl_RX8_184 rfl rfl rfl rfl (zm_own hb) (by rw [zm_len (i := 37) hN rfl]; omega) rfl ?_
  have hz71 := (hz70.mono (show _ ≤ N + 37 by omega)).consR (k := b) (j := 57) (v := (N + 36)) (by omega)
  refine zx_aload_n (i := 0) dX8_init_455 rfl rfl rfl ?_
  refine zx_bipush (v := 6) dX8_init_456 rfl rfl ?_
  refine zm_newaI (nn := 6) (X' := [(1, 5), (1, 5), (1, 15), (1, 5), (1, 5), (1, 5), (1, 15), (1, 3), (1, 100), (1, 6), (1, 60), (1, 60), (1, 60), (1, 60), (1, 600), (1, 101), (1, 10), (3, 100), (1, 15), (1, 5), (1, 5), (1, 5), (1, 5), (1, 3), (1, 12), (1, 12), (1, 5), (1, 5), (1, 15), (1, 5), (1, 5), (1, 5), (1, 15), (1, 3), (1, 12), (1, 12), (1, 20), (1, 6)]) (M := N + 37) dX8_init_458 (by decide) rfl (by decide) (hz71.mono (by omega)) (zm_len (i := 37) hN rfl) rfl (by omega) (by omega) (by omega) (zw_wl1 (by omega)) (zw_st1 (by omega)) rfl ?_
  refine zx_dup dX8_init_460 rfl rfl ?_
  refine zx_iconst (v := 0) dX8_init_461 rfl rfl ?_
  refine zx_iconst (v := (-1)) dX8_init_462 rfl rfl ?_
  refine zm_iast (j := 0) dX8_init_463 (zm_row hN rfl) (by unfold vp_in; decide) rfl rfl ?_
  have hz72 := (hz71.mono (show _ ≤ N + 38 by omega)).consI (k := (N + 37)) (j := 0) (v := (-1)) (by omega)
  refine zx_dup dX8_init_464 rfl rfl ?_
  refine zx_iconst (v := 1) dX8_init_465 rfl rfl ?_
  refine zx_iconst (v := (-1)) dX8_init_466 rfl rfl ?_
  refine zm_iast (j := 1) dX8_init_467 (zm_row hN rfl) (by unfold vp_in; decide) rfl rfl ?_
  have hz73 := (hz72.mono (show _ ≤ N + 38 by omega)).consI (k := (N + 37)) (j := 1) (v := (-1)) (by omega)
  refine zx_dup dX8_init_468 rfl rfl ?_
  refine zx_iconst (v := 2) dX8_init_469 rfl rfl ?_
  refine zx_iconst (v := (-1)) dX8_init_470 rfl rfl ?_
  refine zm_iast (j := 2) dX8_init_471 (zm_row hN rfl) (by unfold vp_in; decide) rfl rfl ?_
  have hz74 := (hz73.mono (show _ ≤ N + 38 by omega)).consI (k := (N + 37)) (j := 2) (v := (-1)) (by omega)
  refine zx_dup dX8_init_472 rfl rfl ?_
  refine zx_iconst (v := 3) dX8_init_473 rfl rfl ?_
  refine zx_iconst (v := (-1)) dX8_init_474 rfl rfl ?_
  refine zm_iast (j := 3) dX8_init_475 (zm_row hN rfl) (by unfold vp_in; decide) rfl rfl ?_
  have hz75 := (hz74.mono (show _ ≤ N + 38 by omega)).consI (k := (N + 37)) (j := 3) (v := (-1)) (by omega)
  refine zx_dup dX8_init_476 rfl rfl ?_
  refine zx_iconst (v := 4) dX8_init_477 rfl rfl ?_
  refine zx_iconst (v := (-1)) dX8_init_478 rfl rfl ?_
  refine zm_iast (j := 4) dX8_init_479 (zm_row hN rfl) (by unfold vp_in; decide) rfl rfl ?_
  have hz76 := (hz75.mono (show _ ≤ N + 38 by omega)).consI (k := (N + 37)) (j := 4) (v := (-1)) (by omega)
  refine zx_dup dX8_init_480 rfl rfl ?_
  refine zx_iconst (v := 5) dX8_init_481 rfl rfl ?_
  refine zx_iconst (v := (-1)) dX8_init_482 rfl rfl ?_
  refine zm_iast (j := 5) dX8_init_483 (zm_row hN rfl) (by unfold vp_in; decide) rfl rfl ?_
  have hz77 := (hz76.mono (show _ ≤ N + 38 by omega)).consI (k := (N + 37)) (j := 5) (v := (-1)) (by omega)
  refine zm_putRF dX8_init_484 fl_RX8_187 rfl rfl rfl rfl (zm_own hb) (by rw [zm_len (i := 38) hN rfl]; omega) rfl ?_
  have hz78 := (hz77.mono (show _ ≤ N + 38 by omega)).consR (k := b) (j := 58) (v := (N + 37)) (by omega)
  refine zx_aload_n (i := 0) dX8_init_487 rfl rfl rfl ?_
  refine zx_bipush (v := 6) dX8_init_488 rfl rfl ?_
  refine zm_newaI (nn := 6) (X' := [(1, 5), (1, 5), (1, 15), (1, 5), (1, 5), (1, 5), (1, 15), (1, 3), (1, 100), (1, 6), (1, 60), (1, 60), (1, 60), (1, 60), (1, 600), (1, 101), (1, 10), (3, 100), (1, 15), (1, 5), (1, 5), (1, 5), (1, 5), (1, 3), (1, 12), (1, 12), (1, 5), (1, 5), (1, 15), (1, 5), (1, 5), (1, 5), (1, 15), (1, 3), (1, 12), (1, 12), (1, 20), (1, 6), (1, 6)]) (M := N + 38) dX8_init_490 (by decide) rfl (by decide) (hz78.mono (by omega)) (zm_len (i := 38) hN rfl) rfl (by omega) (by omega) (by omega) (zw_wl1 (by omega)) (zw_st1 (by omega)) rfl ?_
  refine zm_putRF dX8_init_492 fl_RX8_190 rfl rfl rfl rfl (zm_own hb) (by rw [zm_len (i := 39) hN rfl]; omega) rfl ?_
  have hz79 := (hz78.mono (show _ ≤ N + 39 by omega)).consR (k := b) (j := 59) (v := (N + 38)) (by omega)
  refine zx_aload_n (i := 0) dX8_init_495 rfl rfl rfl ?_
  refine zx_sipush (v := 360) dX8_init_496 rfl rfl ?_
  refine zm_newaJ (nn := 360) (X' := [(1, 5), (1, 5), (1, 15), (1, 5), (1, 5), (1, 5), (1, 15), (1, 3), (1, 100), (1, 6), (1, 60), (1, 60), (1, 60), (1, 60), (1, 600), (1, 101), (1, 10), (3, 100), (1, 15), (1, 5), (1, 5), (1, 5), (1, 5), (1, 3), (1, 12), (1, 12), (1, 5), (1, 5), (1, 15), (1, 5), (1, 5), (1, 5), (1, 15), (1, 3), (1, 12), (1, 12), (1, 20), (1, 6), (1, 6), (4, 360)]) (M := N + 39) dX8_init_499 (by decide) rfl (by decide) (hz79.mono (by omega)) (zm_len (i := 39) hN rfl) rfl (by omega) (by omega) (by omega) (zw_wl1 (by omega)) (zw_st1 (by omega)) rfl ?_
  refine zm_putRF dX8_init_501 fl_RX8_193 rfl rfl rfl rfl (zm_own hb) (by rw [zm_len (i := 40) hN rfl]; omega) rfl ?_
  have hz80 := (hz79.mono (show _ ≤ N + 40 by omega)).consR (k := b) (j := 60) (v := (N + 39)) (by omega)
  refine zx_aload_n (i := 0) dX8_init_504 rfl rfl rfl ?_
  refine zx_bipush (v := 60) dX8_init_505 rfl rfl ?_
  refine zm_newaJ (nn := 60) (X' := [(1, 5), (1, 5), (1, 15), (1, 5), (1, 5), (1, 5), (1, 15), (1, 3), (1, 100), (1, 6), (1, 60), (1, 60), (1, 60), (1, 60), (1, 600), (1, 101), (1, 10), (3, 100), (1, 15), (1, 5), (1, 5), (1, 5), (1, 5), (1, 3), (1, 12), (1, 12), (1, 5), (1, 5), (1, 15), (1, 5), (1, 5), (1, 5), (1, 15), (1, 3), (1, 12), (1, 12), (1, 20), (1, 6), (1, 6), (4, 360), (4, 60)]) (M := N + 40) dX8_init_507 (by decide) rfl (by decide) (hz80.mono (by omega)) (zm_len (i := 40) hN rfl) rfl (by omega) (by omega) (by omega) (zw_wl1 (by omega)) (zw_st1 (by omega)) rfl ?_
  refine zm_putRF dX8_init_509 fl_RX8_197 rfl rfl rfl rfl (zm_own hb) (by rw [zm_len (i := 41) hN rfl]; omega) rfl ?_
  have hz81 := (hz80.mono (show _ ≤ N + 41 by omega)).consR (k := b) (j := 61) (v := (N + 40)) (by omega)
  exact zx_vret dX8_init_512 rfl (by omega) (by omega) ⟨rfl, rfl⟩
end ZI
