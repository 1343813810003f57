/-! the law from its entry -/
def zl_W : List Cond := flatC (Jvm.Cond.and given_1 narrow_1)
theorem zl_mK : (Cond.arrayOf (.static RX7 "KIND_ABOVE" "[I") .int ∈ zl_W ∧ Cond.eq (.length (.static RX7 "KIND_ABOVE" "[I")) (.int (Int32.ofNat 7)) ∈ zl_W) ∧ ∀ j, j < 7 → Cond.eq (.elem (.static RX7 "KIND_ABOVE" "[I") (.int (Int32.ofNat j))) (.int (zw_KA j)) ∈ zl_W := by decide +kernel
theorem zl_mB : (Cond.arrayOf (.static RX0 "BODIES" "[I") .int ∈ zl_W ∧ Cond.eq (.length (.static RX0 "BODIES" "[I")) (.int (Int32.ofNat 21)) ∈ zl_W) ∧ ∀ j, j < 21 → Cond.eq (.elem (.static RX0 "BODIES" "[I") (.int (Int32.ofNat j))) (.int (zw_BD j)) ∈ zl_W := by decide +kernel
theorem zl_mC : Cond.eq (.static RJ0 "COMPACT_STRINGS" "Z") (.int 1) ∈ zl_W ∧ Cond.isRef (.static RJ3 "SIOOBE_FORMATTER" "Ljava/util/function/BiFunction;") ∈ zl_W := by decide +kernel
def zl_tm (i : Nat) : Term := .string RX2 (zw_tn i)
theorem zl_mT1 : ∀ i, i < 8 → Cond.exactly (zl_tm i) "java/lang/String" ∈ zl_W ∧ Cond.eq (.field (zl_tm i) "java/lang/String" "coder" "B") (.int 0) ∈ zl_W ∧ Cond.arrayOf (.field (zl_tm i) "java/lang/String" "value" "[B") .byte ∈ zl_W ∧ Cond.eq (.length (.field (zl_tm i) "java/lang/String" "value" "[B")) (.int (Int32.ofNat (zw_tl.getD i 0))) ∈ zl_W := by decide +kernel
theorem zl_mT2 : ∀ i, i < 8 → ∀ j, j < zw_tl.getD i 0 → Cond.eq (.elem (.field (zl_tm i) "java/lang/String" "value" "[B") (.int (Int32.ofNat j))) (.int ((zw_tb.getD i []).getD j 0)) ∈ zl_W := by decide +kernel
theorem zl_mT3 : ∀ i, i < 8 → ∀ j, j < 8 → i ≠ j → Cond.not (Cond.eq (zl_tm i) (zl_tm j)) ∈ zl_W ∨ Cond.not (Cond.eq (zl_tm j) (zl_tm i)) ∈ zl_W := by decide +kernel
theorem zl_mS {i : Nat} (hi : i < 8) : Cond.stringRef RX2 (zw_tn i) (zw_tx i) ∈ lw_tbl := by
  rcases (by omega : i = 0 ∨ i = 1 ∨ i = 2 ∨ i = 3 ∨ i = 4 ∨ i = 5 ∨ i = 6 ∨ i = 7) with h | h | h | h | h | h | h | h <;> subst h
  · exact List.mem_of_getElem? (i := 479) (by decide +kernel)
  · exact List.mem_of_getElem? (i := 480) (by decide +kernel)
  · exact List.mem_of_getElem? (i := 481) (by decide +kernel)
  · exact List.mem_of_getElem? (i := 542) (by decide +kernel)
  · exact List.mem_of_getElem? (i := 602) (by decide +kernel)
  · exact List.mem_of_getElem? (i := 611) (by decide +kernel)
  · exact List.mem_of_getElem? (i := 616) (by decide +kernel)
  · exact List.mem_of_getElem? (i := 617) (by decide +kernel)
theorem zl_mN : ∀ q ∈ zw_nest, Cond.methodLinkNest q.1 q.2.1 q.2.2 RX7 ∈ lw_tbl := List.forall_mem_cons.mpr ⟨List.mem_of_getElem? (i := 113) (by decide +kernel), List.forall_mem_cons.mpr ⟨List.mem_of_getElem? (i := 166) (by decide +kernel), List.forall_mem_cons.mpr ⟨List.mem_of_getElem? (i := 190) (by decide +kernel), List.forall_mem_cons.mpr ⟨List.mem_of_getElem? (i := 216) (by decide +kernel), List.forall_mem_cons.mpr ⟨List.mem_of_getElem? (i := 294) (by decide +kernel), List.forall_mem_cons.mpr ⟨List.mem_of_getElem? (i := 319) (by decide +kernel), List.forall_mem_cons.mpr ⟨List.mem_of_getElem? (i := 424) (by decide +kernel), List.forall_mem_cons.mpr ⟨List.mem_of_getElem? (i := 797) (by decide +kernel), fun _ h => absurd h List.not_mem_nil⟩⟩⟩⟩⟩⟩⟩⟩
theorem zi_inst {ci : Nat} (h : ci < 9) : Cond.instantiable (zw_R ci) (zw_N ci) ∈ zw_Tb := by
  rcases (by omega : ci = 0 ∨ ci = 1 ∨ ci = 2 ∨ ci = 3 ∨ ci = 4 ∨ ci = 5 ∨ ci = 6 ∨ ci = 7 ∨ ci = 8) with h | h | h | h | h | h | h | h | h <;> subst h
  · exact zi_in0.1
  · exact zi_in1.1
  · exact zi_in2.1
  · exact zi_in3.1
  · exact zi_in4.1
  · exact zi_in5.1
  · exact zi_in6.1
  · exact zi_in7.1
  · exact zi_in8.1
section ZQ
variable {p : Program} {e : Env} {s : State} {m : MethodId} {below : List Frame} {meth : Method} {c : Code} {b Lx : Nat} {xs : Nat → Int32}
/-- the classes -/
theorem zl_classes (hts : ∀ w ∈ lw_tbl, w.before #[Value.ref b] s = true) : ∃ D : va_G, ∀ (k : Nat) (q : vw_C), zw_cl[k]? = some q → u_Kn s q.1 q.2.1 q.2.2 (D.1 k) (D.2 k) := by
  have hT : ∀ w ∈ zw_Tb, w.before #[Value.ref b] s = true := fun w hw => hts w (List.mem_filter.mp hw).1
  have h0 : ∀ ci : Nat, ∃ q : ClassId × (Nat → Nat), ci < 9 → u_Kn s (zw_R ci) (zw_T ci) (zw_N ci) q.1 q.2 := by
    intro ci
    by_cases h : ci < 9
    · obtain ⟨cC, iS, hk⟩ := u_known (C := zw_R ci) (T := zw_T ci) (N := zw_N ci) hT (zw_lays_ok h) (hT _ (zi_inst h))
      exact ⟨(cC, iS), fun _ => hk⟩
    · exact ⟨(0, fun _ => 0), fun z => absurd z h⟩
  obtain ⟨F, hF⟩ := Classical.axiomOfChoice h0
  refine ⟨(fun k => (F k).1, fun k => (F k).2), fun k q hq => ?_⟩
  have hk : k < 9 := (List.getElem?_eq_some_iff.mp hq).1
  rw [zw_cl_at hk] at hq
  cases hq
  exact hF k hk
/-- the classes of arrays -/
theorem zl_arrays (hts : ∀ w ∈ lw_tbl, w.before #[Value.ref b] s = true) : ∃ tc : Nat → ClassId, ∀ (k : Nat) (q : ClassId × FieldType), (zw_tys tc)[k]? = some q → ArrOfT s q.1 q.2 ∧ va_RA s q.1 q.2 := by
  have hT : ∀ w ∈ zw_Tb, w.before #[Value.ref b] s = true := fun w hw => hts w (List.mem_filter.mp hw).1
  have hI : ∃ q : ClassId, ArrOfT s q .int ∧ va_RA s q .int := by
    obtain ⟨q, kA, comp, h1, h2, h3⟩ := Cond.arrayClass_spec (hT _ zw_arcI)
    exact ⟨q, fun n z => ⟨fun k h => (by cases h), kA, h2, comp, h3⟩, h1⟩
  have h0 : ∀ t : Nat, ∃ q : ClassId, t < 8 → ArrOfT s q (zw_at t) ∧ va_RA s q (zw_at t) := by
    intro t
    by_cases ht : t < 8
    · rcases (by omega : t = 0 ∨ t = 1 ∨ t = 2 ∨ t = 3 ∨ t = 4 ∨ t = 5 ∨ t = 6 ∨ t = 7) with h | h | h | h | h | h | h | h <;> subst h
      · obtain ⟨q, h⟩ := hI
        exact ⟨q, fun _ => h⟩
      · obtain ⟨q, h⟩ := hI
        exact ⟨q, fun _ => h⟩
      · obtain ⟨q, kA, comp, h1, h2, h3⟩ := Cond.arrayClass_spec (hT _ zw_arcB)
        exact ⟨q, fun _ => ⟨fun n z => ⟨fun k h => (by cases h), kA, h2, comp, h3⟩, h1⟩⟩
      · obtain ⟨q, kA, comp, h1, h2, h3⟩ := Cond.arrayClass_spec (hT _ zw_arcZ)
        exact ⟨q, fun _ => ⟨fun n z => ⟨fun k h => (by cases h), kA, h2, comp, h3⟩, h1⟩⟩
      · obtain ⟨q, kA, comp, h1, h2, h3⟩ := Cond.arrayClass_spec (hT _ zw_arcJ)
        exact ⟨q, fun _ => ⟨fun n z => ⟨fun k h => (by cases h), kA, h2, comp, h3⟩, h1⟩⟩
      · obtain ⟨comp, q, kA, h1, -, h2, h3, h4⟩ := Jvm.Stand.arrayOver_specB (hts (.arrayOver (.array .int)) (List.mem_of_getElem? (i := 118) (by decide +kernel)))
        exact ⟨q, fun _ => ⟨fun n z => ⟨fun k h => (by cases h), kA, h2, comp, h3⟩, h4⟩⟩
      · obtain ⟨comp, q, kA, h1, -, h2, h3, h4⟩ := Cond.arrayOver_spec (hts (.arrayOver (.object RX1)) (List.mem_of_getElem? (i := 213) (by decide +kernel)))
        exact ⟨q, fun _ => ⟨fun n z => ⟨fun k h => (by cases h), kA, h2, comp, h3⟩, kA, comp, h2, h3, h1, h4⟩⟩
      · obtain ⟨comp, q, kA, h1, -, h2, h3, h4⟩ := Cond.arrayOver_spec (hts (.arrayOver (.object RX6)) (List.mem_of_getElem? (i := 317) (by decide +kernel)))
        exact ⟨q, fun _ => ⟨fun n z => ⟨fun k h => (by cases h), kA, h2, comp, h3⟩, kA, comp, h2, h3, h1, h4⟩⟩
    · exact ⟨0, fun z => absurd z ht⟩
  obtain ⟨F, hF⟩ := Classical.axiomOfChoice h0
  refine ⟨F, fun k q hq => ?_⟩
  have hk : k < 8 := by
    have := (List.getElem?_eq_some_iff.mp hq).1
    unfold zw_tys at this
    rw [List.length_map, List.length_range] at this
    exact this
  rw [zw_tys_at F hk] at hq
  cases hq
  exact hF k hk
/-- what never changes -/
theorem zl_given (hts : ∀ w ∈ lw_tbl, w.before #[Value.ref b] s = true) (hgv : (Jvm.Cond.and given_1 narrow_1).before #[Value.ref b] s = true) : ∃ adB : Nat → Nat, zw_G adB (fun q => s.heap.size ≤ q) s s.heap ∧ adB 500000 = b := by
  have hs : ∀ w ∈ zl_W, w.before #[Value.ref b] s = true := flat_of_before _ hgv
  have hA : ∀ a : Nat, a < s.heap.size → ¬ (fun q : Nat => s.heap.size ≤ q) a := fun a h => Nat.not_le.mpr h
  obtain ⟨tK, k1, k2⟩ := va_Tof (f := fun j => .int (zw_KA j)) (A := fun q => s.heap.size ≤ q) (by decide) (hs _ zl_mK.1.1) (va_eqt (hs _ zl_mK.1.2)) (fun j hj => va_eqt (hs _ (zl_mK.2 j hj))) hA
  obtain ⟨tB, b1, b2⟩ := va_Tof (f := fun j => .int (zw_BD j)) (A := fun q => s.heap.size ≤ q) (by decide) (hs _ zl_mB.1.1) (va_eqt (hs _ zl_mB.1.2)) (fun j hj => va_eqt (hs _ (zl_mB.2 j hj))) hA
  have zK := va_Zref (A := fun q => s.heap.size ≤ q) (hts (.laysStatic RX7 "KIND_ABOVE" "[I") (List.mem_of_getElem? (i := 428) (by decide +kernel))) (hts (.initialized RX7) (List.mem_of_getElem? (i := 86) (by decide +kernel))) k1 hA
  have zB := va_Zref (A := fun q => s.heap.size ≤ q) (hts (.laysStatic RX0 "BODIES" "[I") (List.mem_of_getElem? (i := 828) (by decide +kernel))) (hts (.initialized RX0) (List.mem_of_getElem? (i := 92) (by decide +kernel))) b1 hA
  have zC := va_Zof (v := .int 1) (A := fun q => s.heap.size ≤ q) (hts (.laysStatic RJ0 "COMPACT_STRINGS" "Z") (List.mem_of_getElem? (i := 495) (by decide +kernel))) (hts (.initialized RJ0) (List.mem_of_getElem? (i := 96) (by decide +kernel))) (va_eqt (hs _ zl_mC.1)) hA
  have zF := va_Zqof (A := fun q => s.heap.size ≤ q) (hts (.laysStatic RJ3 "SIOOBE_FORMATTER" "Ljava/util/function/BiFunction;") (List.mem_of_getElem? (i := 511) (by decide +kernel))) (hts (.initialized RJ3) (List.mem_of_getElem? (i := 98) (by decide +kernel))) (hs _ zl_mC.2) hA
  obtain ⟨tF, zF⟩ : ∃ tF : Nat, va_Z RJ3 "SIOOBE_FORMATTER" "Ljava/util/function/BiFunction;" .null (fun q => s.heap.size ≤ q) s s.heap ∨ va_Z RJ3 "SIOOBE_FORMATTER" "Ljava/util/function/BiFunction;" (.ref tF) (fun q => s.heap.size ≤ q) s s.heap := by
    rcases zF with h | ⟨t, h⟩
    · exact ⟨0, Or.inl h⟩
    · exact ⟨t, Or.inr h⟩
  obtain ⟨adK, adV, hS, hev⟩ := vk_Sof (N := 8) (tm := zl_tm) (len := zw_tl) (byt := zw_tb) (A := fun q => s.heap.size ≤ q) (by decide +kernel) (fun i hi => hs _ (zl_mT1 i hi).1) (fun i hi => hs _ (zl_mT1 i hi).2.1) (fun i hi => hs _ (zl_mT1 i hi).2.2.1) (fun i hi => hs _ (zl_mT1 i hi).2.2.2) (fun i hi j hj => hs _ (zl_mT2 i hi j hj)) (fun i j hi hj hne => (zl_mT3 i hi j hj hne).imp (hs _) (hs _)) hA
  generalize hadB : (fun k : Nat => if k = 300000 then tK else if k = 300001 then tB else if k = 400000 then tF else if k = 500000 then b else if 200000 ≤ k then adV (k - 200000) else adK (k - 100000)) = adB
  have e1 : adB 300000 = tK := by rw [← hadB]; rfl
  have e2 : adB 300001 = tB := by rw [← hadB]; rfl
  have e3 : adB 400000 = tF := by rw [← hadB]; rfl
  have e4 : adB 500000 = b := by rw [← hadB]; rfl
  have e5 : ∀ i, i < 8 → adB (100000 + i) = adK i := by
    intro i hi
    rw [← hadB]
    dsimp only
    rw [if_neg (by omega), if_neg (by omega), if_neg (by omega), if_neg (by omega), if_neg (by omega), show 100000 + i - 100000 = i by omega]
  have e6 : ∀ i, i < 8 → adB (200000 + i) = adV i := by
    intro i hi
    rw [← hadB]
    dsimp only
    rw [if_neg (by omega), if_neg (by omega), if_neg (by omega), if_neg (by omega), if_pos (by omega), show 200000 + i - 200000 = i by omega]
  refine ⟨adB, ⟨⟨by rw [e1]; exact zK, by rw [e1]; exact k2⟩, ⟨by rw [e2]; exact zB, by rw [e2]; exact b2⟩, zC, by rw [e3]; exact zF, ⟨fun i hi => ?_, fun i j hi hj he => ?_⟩, fun i hi => ?_, fun q hq => va_Nw.of rfl (hts _ (zl_mN q hq)), va_AO.of (hts (.arrayOver (.object RX1)) (List.mem_of_getElem? (i := 213) (by decide +kernel))), va_AO.of (hts (.arrayOver (.object RX6)) (List.mem_of_getElem? (i := 317) (by decide +kernel))), hts (.arrayOver (.array .int)) (List.mem_of_getElem? (i := 118) (by decide +kernel))⟩, e4⟩
  · show va_O "java/lang/String" (adB (100000 + i)) _ _ _ ∧ va_OF "java/lang/String" "coder" "B" (.int 0) (adB (100000 + i)) _ _ _ ∧ va_OF "java/lang/String" "value" "[B" (.ref (adB (200000 + i))) (adB (100000 + i)) _ _ _ ∧ va_T .byte (adB (200000 + i)) _ _ _ _ _
    rw [e5 i hi, e6 i hi]
    exact hS.1 i hi
  · have he' : adB (100000 + i) = adB (100000 + j) := he
    rw [e5 i hi, e5 j hj] at he'
    exact hS.2 i j hi hj he'
  · rw [e5 i hi]
    exact vk_R.of (hts _ (zl_mS hi)) (hev i hi)
end ZQ
/-- from the entry, for every script of at most 3584 ints, the law comes to its end with true -/
theorem whole_start {p : Program} {e : Env} {s : State} {m : MethodId} {below : List Frame} {meth : Method} {c : Code} (l : Launch) (hflags : l.flags = flags0) {b L : Nat} {xs : Nat → Int32} (hL : L ≤ 3584) (C0 : lw_At p s m meth c b L xs) : W p l e room_1 s m #[Value.ref b] below meth c s.heap [] 0 0 (lw_Z below #[Value.ref b] s) (entryFrame m ([Value.ref b] : List Value).toArray 4) := by
  obtain ⟨D, hD⟩ := zl_classes C0.2.2.2.2.2.1
  obtain ⟨tc, htc⟩ := zl_arrays C0.2.2.2.2.2.1
  obtain ⟨adB, hG, e5⟩ := zl_given C0.2.2.2.2.2.1 C0.2.2.2.2.2.2.2.2.2
  have hE : lE p s m meth c b L xs D tc adB := ⟨C0, ⟨hD, htc⟩, hG, e5⟩
  have hV : zV p l e s m below meth c b D tc adB 0 0 0 [some (.ref 500000), none, none, none] [] (zm [] [] [] []) := by
    refine zl_new (ci := 7) (N := 0) hE dL_law_0 (by decide) kk_RL_7 zi_in7.1 zi_in7.2 (zm_cln (M := 0) ⟨fun _ h => absurd h List.not_mem_nil, fun _ h => absurd h List.not_mem_nil⟩ rfl) rfl (by decide) (Nat.le_of_ble_eq_true rfl) (Nat.le_of_ble_eq_true rfl) rfl rfl rfl ?_
    show zV p l e s m below meth c b D tc adB 1 12 3 _ [.ref 0] (zm [(0, 7)] [] [] [])
    refine zl_dup hE dL_law_3 rfl rfl ?_
    refine zl_callI (y' := mX7_init) (As := []) (b' := 0) (st := [.ref 0]) hE dL_law_4 ml_RL_9 ok_mX7_init (by decide) (Nat.le_of_ble_eq_true rfl) (Nat.le_of_ble_eq_true rfl) (Nat.le_of_ble_eq_true rfl) (Nat.le_of_ble_eq_true rfl) (Or.inr ⟨rfl, rfl⟩) (t_X7_init 0) ?_
    rintro r S1 ⟨rfl, rfl⟩
    show zV p l e s m below meth c b D tc adB 108 1766 7 _ [.ref 0] (zm [(0, 7)] zX7s zX7I zX7R)
    refine zl_astore_n (i := 1) hE dL_law_7 rfl (by decide) rfl rfl ?_
    refine zl_new (ci := 8) (N := 108) hE dL_law_8 (by decide) kk_RL_10 zi_in8.1 zi_in8.2 (zm_cln (M := 108) (by unfold zk; decide +kernel) (by decide +kernel)) (by decide +kernel) (by decide) (Nat.le_of_ble_eq_true rfl) (Nat.le_of_ble_eq_true rfl) (by decide +kernel) rfl rfl ?_
    rw [zm_app]
    refine zl_dup hE dL_law_11 rfl rfl ?_
    refine zl_callI (y' := mX8_init) (As := []) (b' := 108) (st := [.ref 108]) hE dL_law_12 ml_RL_12 ok_mX8_init (by decide) (Nat.le_of_ble_eq_true rfl) (Nat.le_of_ble_eq_true rfl) (Nat.le_of_ble_eq_true rfl) (Nat.le_of_ble_eq_true rfl) (Or.inr ⟨by decide +kernel, by decide +kernel⟩) (t_X8_at 0) ?_
    rintro r S1 ⟨rfl, rfl⟩
    show zV p l e s m below meth c b D tc adB _ _ 15 _ [.ref 108] (zs (zT zX8I) (fun _ _ => 0) none)
    refine zl_astore_n (i := 2) hE dL_law_15 rfl (by decide) rfl rfl ?_
    refine zl_iconst (v := nI 0) hE dL_law_16 rfl rfl ?_
    refine zl_istore_n (i := 3) hE dL_law_17 rfl (by decide) rfl rfl ?_
    exact lc_loop hE hL (Nat.le_of_ble_eq_true rfl) (Nat.le_of_ble_eq_true rfl) (L + 8) 0 _ _ _ (by omega) (by omega) zi_rel
  have hl := zw_L.entry (ad := adB) (vs := [.ref 500000]) (n := 4) (Nat.le_of_ble_eq_true rfl)
  have em : ([.ref 500000] : List Value).map (zw_v adB) = [.ref b] := by
    show [Value.ref (adB 500000)] = _
    rw [e5]
  rw [em] at hl
  rw [lg_entry_eq]
  exact hV adB s.heap [] _ (fun _ _ => rfl) (fun k q h => by simp [zw_ws, zm] at h) ⟨fun i j p q h => by simp [zw_ws, zm] at h, fun k q h => by simp [zw_ws, zm] at h⟩ va_S.rf hl (fun k j r h => by cases h)
