/-! the shapes of both systems behind their constructors: cells 0.. are the class's, from 108 on the reference's -/
def zg_sh0 : List (Nat × Nat) := [(0, 7), (0, 5), (5, 5), (1, 6), (1, 6), (1, 6), (1, 6), (1, 6), (5, 5), (1, 3), (1, 3), (1, 3), (1, 3), (1, 3), (5, 2), (1, 5), (1, 5), (1, 3), (1, 12), (1, 12), (0, 5), (5, 5), (1, 6), (1, 6), (1, 6), (1, 6), (1, 6), (5, 5), (1, 3), (1, 3), (1, 3), (1, 3), (1, 3), (5, 2), (1, 5), (1, 5), (1, 3), (1, 12), (1, 12), (0, 2)]
def zg_sh1 : List (Nat × Nat) := [(2, 100), (0, 1), (1, 10), (1, 10), (1, 10), (1, 100), (6, 6), (0, 4), (5, 5), (1, 3), (1, 3), (1, 3), (1, 3), (1, 3), (1, 5), (1, 6), (0, 3), (1, 5), (1, 3), (1, 5), (1, 5), (1, 5), (1, 3), (0, 0), (1, 20), (7, 6), (0, 1), (1, 10), (1, 10), (1, 10), (1, 100), (0, 1), (1, 10), (1, 10), (1, 10), (1, 100), (0, 1), (1, 10), (1, 10), (1, 10)]
def zg_sh2 : List (Nat × Nat) := [(1, 100), (0, 1), (1, 10), (1, 10), (1, 10), (1, 100), (0, 1), (1, 10), (1, 10), (1, 10), (1, 100), (0, 1), (1, 10), (1, 10), (1, 10), (1, 100), (0, 6), (4, 60), (0, 6), (4, 60), (0, 6), (4, 60), (0, 6), (4, 60), (0, 6), (4, 60), (0, 6), (4, 60), (0, 8), (1, 5), (1, 5), (1, 15), (1, 5), (1, 5), (1, 5), (1, 15), (1, 3), (1, 100), (1, 6), (1, 60)]
def zg_sh3 : List (Nat × Nat) := [(1, 60), (1, 60), (1, 60), (1, 600), (1, 101), (1, 10), (3, 100), (1, 15), (1, 5), (1, 5), (1, 5), (1, 5), (1, 3), (1, 12), (1, 12), (1, 5), (1, 5), (1, 15), (1, 5), (1, 5), (1, 5), (1, 15), (1, 3), (1, 12), (1, 12), (1, 20), (1, 6), (1, 6), (4, 360), (4, 60)]
def zg_sh : List (Nat × Nat) := zg_sh0 ++ (zg_sh1 ++ (zg_sh2 ++ (zg_sh3)))
def zg_rt0 (f : Option Nat) : List (List (Option Nat)) := [[some 1, some 20, none, some 39, some 41, some 46, none, some 47, some 56, some 62, some 63, some 65], [none, some 2, some 8, some 14, none, some 17, none, some 18, some 19, none], [some 3, some 4, some 5, some 6, some 7], [], [], [], [], [], [some 9, some 10, some 11, some 12, some 13], [], [], [], [], [], [some 15, some 16], [], [], [], [], [], [none, some 21, some 27, some 33, none, some 36, none, some 37, some 38, none], [some 22, some 23, some 24, some 25, some 26], [], [], [], [], [], [some 28, some 29, some 30, some 31, some 32], [], [], [], [], [], [some 34, some 35], [], [], [], [], [], [some 40, none, none, none, f]]
def zg_rt1 (f : Option Nat) : List (List (Option Nat)) := [[], [none, none, some 42, some 43, some 44, some 45], [], [], [], [], [some 66, some 71, some 76, some 81, some 86, some 91], [none, none, some 48, some 54, some 55], [some 49, some 50, some 51, some 52, some 53], [], [], [], [], [], [], [], [some 47, some 57, some 58, none, none, none, none, none, none, some 59, some 60, some 61], [], [], [], [], [], [], [none, some 64, none, none, none], [], [some 96, some 98, some 100, some 102, some 104, some 106], [none, none, some 67, some 68, some 69, some 70], [], [], [], [], [none, none, some 72, some 73, some 74, some 75], [], [], [], [], [none, none, some 77, some 78, some 79, some 80], [], [], []]
def zg_rt2 (f : Option Nat) : List (List (Option Nat)) := [[], [none, none, some 82, some 83, some 84, some 85], [], [], [], [], [none, none, some 87, some 88, some 89, some 90], [], [], [], [], [none, none, some 92, some 93, some 94, some 95], [], [], [], [], [none, none, some 97], [], [none, none, some 99], [], [none, none, some 101], [], [none, none, some 103], [], [none, none, some 105], [], [none, none, some 107], [], [none, none, some 109, some 110, some 111, some 112, some 113, some 114, some 115, some 116, none, none, none, none, none, some 117, some 118, some 119, some 120, some 121, some 122, some 123, some 124, none, none, none, some 125, some 126, some 127, some 128, some 129, some 130, some 131, none, none, none, none, some 132, none, some 133, some 134, none, none, none, none, none, some 135, some 136, some 137, some 138, some 139, some 140, some 141, some 142, some 143, some 144, none, some 145, some 146, some 147, some 148, some 149], [], [], [], [], [], [], [], [], [], [], []]
def zg_rt3 (f : Option Nat) : List (List (Option Nat)) := [[], [], [], [], [], [], [], [], [], [], [], [], [], [], [], [], [], [], [], [], [], [], [], [], [], [], [], [], [], []]
def zg_rt (f : Option Nat) : List (List (Option Nat)) := zg_rt0 f ++ (zg_rt1 f ++ (zg_rt2 f ++ (zg_rt3 f)))
def zg_rf (f : Option Nat) (k j : Nat) : Option Nat := ((zg_rt f).getD k []).getD j none
/-- a state of both systems behind their constructors: ints, longs, the fence that is being read into -/
def zs (gi : Nat → Nat → Int32) (gl : Nat → Nat → Int64) (f : Option Nat) : zw_S := (zg_sh, gi, gl, zg_rf f)
theorem zg_len : zg_sh.length = 150 := by decide +kernel
theorem zg_rf_put (f : Option Nat) (v : Nat) : zw_u (zg_rf f) 39 4 (some v) = zg_rf (some v) := by
  funext k j
  by_cases h : k = 39 ∧ j = 4
  · obtain ⟨h1, h2⟩ := h
    subst h1
    subst h2
    rfl
  · have e : zw_u (zg_rf f) 39 4 (some v) k j = zg_rf f k j := by simp only [zw_u, if_neg h]
    rw [e]
    by_cases hk : k = 39
    · subst hk
      match j, h with
      | 0, _ => rfl
      | 1, _ => rfl
      | 2, _ => rfl
      | 3, _ => rfl
      | 4, h => exact absurd ⟨rfl, rfl⟩ h
      | j + 5, _ => rfl
    · have e2 : (zg_rt f).getD k [] = (zg_rt (some v)).getD k [] := by
        by_cases hl : k < 150
        · have key : ∀ k : Nat, k < 150 → k ≠ 39 → (zg_rt f).getD k [] = (zg_rt (some v)).getD k [] := by
            intro k hk1 hk2
            revert hk2
            revert k
            have h0 : ∀ i : Nat, i < 150 → i ≠ 39 → (zg_rt f)[i]? = (zg_rt (some v))[i]? := by
              intro i hi hne
              rcases Nat.lt_or_ge i 39 with q | q
              · have a1 : (zg_rt f).take 39 = (zg_rt (some v)).take 39 := rfl
                have a2 := congrArg (fun z : List (List (Option Nat)) => z[i]?) a1
                simpa [List.getElem?_take, q] using a2
              · have a1 : (zg_rt f).drop 40 = (zg_rt (some v)).drop 40 := rfl
                have a2 := congrArg (fun z : List (List (Option Nat)) => z[i - 40]?) a1
                simp only [List.getElem?_drop] at a2
                rw [show 40 + (i - 40) = i by omega] at a2
                exact a2
            intro i hi hne
            rw [List.getD_eq_getElem?_getD, List.getD_eq_getElem?_getD, h0 i hi hne]
          exact key k hl hk
        · have l1 : (zg_rt f).length = 150 := rfl
          have l2 : (zg_rt (some v)).length = 150 := rfl
          rw [List.getD_eq_getElem?_getD, List.getD_eq_getElem?_getD, List.getElem?_eq_none (by omega), List.getElem?_eq_none (by omega)]
      unfold zg_rf
      rw [e2]
section ZY
variable {l : Launch} {D : va_G} {tc : Nat → ClassId} {A : Nat → Prop} {y : zw_M} {d mc ms k n pc q : Nat} {L : List (Option Value)} {st : List Value} {gi : Nat → Nat → Int32} {gl : Nat → Nat → Int64} {f : Option Nat} {Q : Option Value → zw_S → Prop}
theorem zy_getI {idx ci b j : Nat} (hd : decode y.2.1 pc = .ok (.getfield idx, 3)) (hf : zw_fl y.1.cls idx ci j) (ht : zw_isI (zw_ft ci j) = true) (hsh : zg_sh[b]? = some (0, ci)) (hq : pc + 3 = q) (kk : zW l D tc A y d mc ms k n q L (.int (gi b j) :: st) (zs gi gl f) Q) : zW l D tc A y d mc ms k n pc L (.ref b :: st) (zs gi gl f) Q := zx_getI hd hf ht hsh hq kk
theorem zy_getR {idx ci b j r : Nat} (hd : decode y.2.1 pc = .ok (.getfield idx, 3)) (hf : zw_fl y.1.cls idx ci j) (ht : zw_isR (zw_ft ci j) = true) (hsh : zg_sh[b]? = some (0, ci)) (hr : zg_rf f b j = some r) (hq : pc + 3 = q) (kk : zW l D tc A y d mc ms k n q L (.ref r :: st) (zs gi gl f) Q) : zW l D tc A y d mc ms k n pc L (.ref b :: st) (zs gi gl f) Q := zx_getR hd hf ht hsh hr hq kk
theorem zy_putI {idx ci b j : Nat} {x : Int32} (hd : decode y.2.1 pc = .ok (.putfield idx, 3)) (hf : zw_fl y.1.cls idx ci j) (ht : zw_isI (zw_ft ci j) = true) (hfin : (zw_T ci j).2.2.2 = false) (hx : narrow (zw_ft ci j) (.int x) = .int x ∧ fits (zw_ft ci j) (.int x) = true) (hsh : zg_sh[b]? = some (0, ci)) (hq : pc + 3 = q) (kk : zW l D tc A y d mc ms k n q L st (zs (zw_u gi b j x) gl f) Q) : zW l D tc A y d mc ms k n pc L (.int x :: .ref b :: st) (zs gi gl f) Q := zx_putI hd hf ht hfin hx hsh hq kk
theorem zy_putF {idx v : Nat} (hd : decode y.2.1 pc = .ok (.putfield idx, 3)) (hf : zw_fl y.1.cls idx 2 4) (hv : v < 150) (hq : pc + 3 = q) (kk : zW l D tc A y d mc ms k n q L st (zs gi gl (some v)) Q) : zW l D tc A y d mc ms k n pc L (.ref v :: .ref 39 :: st) (zs gi gl f) Q := by
  refine zx_putR hd hf rfl rfl rfl (by show v < zg_sh.length; rw [zg_len]; exact hv) hq ?_
  show zW l D tc A y d mc ms k n q L st (zg_sh, gi, gl, zw_u (zg_rf f) 39 4 (some v)) Q
  rw [zg_rf_put]
  exact kk
theorem zy_iald {b w : Nat} {i : Int32} (hd : decode y.2.1 pc = .ok (.iaload, 1)) (hsh : zg_sh[b]? = some (1, w)) (hin : vp_in i w) (hq : pc + 1 = q) (kk : zW l D tc A y d mc ms k n q L (.int (gi b i.toNatClampNeg) :: st) (zs gi gl f) Q) : zW l D tc A y d mc ms k n pc L (.int i :: .ref b :: st) (zs gi gl f) Q := zx_iald hd hsh hin hq kk
theorem zy_bald {b w : Nat} {i : Int32} (hd : decode y.2.1 pc = .ok (.baload, 1)) (hsh : zg_sh[b]? = some (2, w)) (hin : vp_in i w) (hq : pc + 1 = q) (kk : zW l D tc A y d mc ms k n q L (.int (gi b i.toNatClampNeg) :: st) (zs gi gl f) Q) : zW l D tc A y d mc ms k n pc L (.int i :: .ref b :: st) (zs gi gl f) Q := zx_bald hd hsh hin hq kk
theorem zy_zald {b w : Nat} {i : Int32} (hd : decode y.2.1 pc = .ok (.baload, 1)) (hsh : zg_sh[b]? = some (3, w)) (hin : vp_in i w) (hq : pc + 1 = q) (kk : zW l D tc A y d mc ms k n q L (.int (gi b i.toNatClampNeg) :: st) (zs gi gl f) Q) : zW l D tc A y d mc ms k n pc L (.int i :: .ref b :: st) (zs gi gl f) Q := zx_zald hd hsh hin hq kk
theorem zy_lald {b w : Nat} {i : Int32} (hd : decode y.2.1 pc = .ok (.laload, 1)) (hsh : zg_sh[b]? = some (4, w)) (hin : vp_in i w) (hq : pc + 1 = q) (kk : zW l D tc A y d mc ms k n q L (.long (gl b i.toNatClampNeg) :: st) (zs gi gl f) Q) : zW l D tc A y d mc ms k n pc L (.int i :: .ref b :: st) (zs gi gl f) Q := zx_lald hd hsh hin hq kk
theorem zy_iast {b w : Nat} {i x : Int32} (hd : decode y.2.1 pc = .ok (.iastore, 1)) (hsh : zg_sh[b]? = some (1, w)) (hin : vp_in i w) (hq : pc + 1 = q) (kk : zW l D tc A y d mc ms k n q L st (zs (zw_u gi b i.toNatClampNeg x) gl f) Q) : zW l D tc A y d mc ms k n pc L (.int x :: .int i :: .ref b :: st) (zs gi gl f) Q := zx_iast hd hsh hin hq kk
theorem zy_bast {b w : Nat} {i x : Int32} (hd : decode y.2.1 pc = .ok (.bastore, 1)) (hsh : zg_sh[b]? = some (2, w)) (hin : vp_in i w) (hq : pc + 1 = q) (kk : zW l D tc A y d mc ms k n q L st (zs (zw_u gi b i.toNatClampNeg (vp_nar .byte x)) gl f) Q) : zW l D tc A y d mc ms k n pc L (.int x :: .int i :: .ref b :: st) (zs gi gl f) Q := zx_bast hd hsh hin hq kk
theorem zy_zast {b w : Nat} {i x : Int32} (hd : decode y.2.1 pc = .ok (.bastore, 1)) (hsh : zg_sh[b]? = some (3, w)) (hin : vp_in i w) (hq : pc + 1 = q) (kk : zW l D tc A y d mc ms k n q L st (zs (zw_u gi b i.toNatClampNeg (vp_nar .boolean x)) gl f) Q) : zW l D tc A y d mc ms k n pc L (.int x :: .int i :: .ref b :: st) (zs gi gl f) Q := zx_zast hd hsh hin hq kk
theorem zy_last {b w : Nat} {i : Int32} {x : Int64} (hd : decode y.2.1 pc = .ok (.lastore, 1)) (hsh : zg_sh[b]? = some (4, w)) (hin : vp_in i w) (hq : pc + 1 = q) (kk : zW l D tc A y d mc ms k n q L st (zs gi (zw_u gl b i.toNatClampNeg x) f) Q) : zW l D tc A y d mc ms k n pc L (.long x :: .int i :: .ref b :: st) (zs gi gl f) Q := zx_last hd hsh hin hq kk
theorem zy_alen {b t w : Nat} {v : Int32} (hd : decode y.2.1 pc = .ok (.arraylength, 1)) (hsh : zg_sh[b]? = some (t, w)) (ht : 1 ≤ t ∧ t < 8) (hv : Int32.ofNat w = v) (hq : pc + 1 = q) (kk : zW l D tc A y d mc ms k n q L (.int v :: st) (zs gi gl f) Q) : zW l D tc A y d mc ms k n pc L (.ref b :: st) (zs gi gl f) Q := zx_alen hd hsh ht hv hq kk
theorem zy_aald {b t w r : Nat} {i : Int32} (hd : decode y.2.1 pc = .ok (.aaload, 1)) (hsh : zg_sh[b]? = some (t, w)) (ht : 5 ≤ t ∧ t < 8) (hin : vp_in i w) (hr : zg_rf f b i.toNatClampNeg = some r) (hq : pc + 1 = q) (kk : zW l D tc A y d mc ms k n q L (.ref r :: st) (zs gi gl f) Q) : zW l D tc A y d mc ms k n pc L (.int i :: .ref b :: st) (zs gi gl f) Q := zx_aald hd hsh ht hin hr hq kk
end ZY
section ZYC
variable {l : Launch} {D : va_G} {tc : Nat → ClassId} {A : Nat → Prop} {y : zw_M} {d mc ms k n pc q : Nat} {L : List (Option Value)} {st : List Value} {gi : Nat → Nat → Int32} {gl : Nat → Nat → Int64} {f : Option Nat} {Q : Option Value → zw_S → Prop}
theorem zy_copyI {b0 b1 w0 w1 idx : Nat} {sp dp w : Int32} (hd : decode y.2.1 pc = .ok (.invokestatic idx, 3)) (hl : Cond.methodLink y.1.cls idx arraycopyName ∈ zw_Tb) (h0 : zg_sh[b0]? = some (1, w0)) (h1 : zg_sh[b1]? = some (1, w1)) (g1 : ¬ sp < 0) (g2 : ¬ dp < 0) (g3 : ¬ w < 0) (g4 : sp.toNatClampNeg + w.toNatClampNeg ≤ w0) (g5 : dp.toNatClampNeg + w.toNatClampNeg ≤ w1) (hst : (st.map fun v => v.category).sum ≤ 8) (hq : pc + 3 = q)
    (kk : zW l D tc A y (d + 1) mc ms k n q L st (zs (zw_row gi b1 (va_cpy (gi b0) (gi b1) sp.toNatClampNeg dp.toNatClampNeg w.toNatClampNeg)) gl f) Q) : zW l D tc A y (d + 1) mc ms k n pc L (.int w :: .int dp :: .ref b1 :: .int sp :: .ref b0 :: st) (zs gi gl f) Q := zx_copyI hd hl h0 h1 g1 g2 g3 g4 g5 hst hq kk
theorem zy_copyL {b0 b1 w0 w1 idx : Nat} {sp dp w : Int32} (hd : decode y.2.1 pc = .ok (.invokestatic idx, 3)) (hl : Cond.methodLink y.1.cls idx arraycopyName ∈ zw_Tb) (h0 : zg_sh[b0]? = some (4, w0)) (h1 : zg_sh[b1]? = some (4, w1)) (g1 : ¬ sp < 0) (g2 : ¬ dp < 0) (g3 : ¬ w < 0) (g4 : sp.toNatClampNeg + w.toNatClampNeg ≤ w0) (g5 : dp.toNatClampNeg + w.toNatClampNeg ≤ w1) (hst : (st.map fun v => v.category).sum ≤ 8) (hq : pc + 3 = q)
    (kk : zW l D tc A y (d + 1) mc ms k n q L st (zs gi (zw_row gl b1 (va_cpy (gl b0) (gl b1) sp.toNatClampNeg dp.toNatClampNeg w.toNatClampNeg)) f) Q) : zW l D tc A y (d + 1) mc ms k n pc L (.int w :: .int dp :: .ref b1 :: .int sp :: .ref b0 :: st) (zs gi gl f) Q := zx_copyL hd hl h0 h1 g1 g2 g3 g4 g5 hst hq kk
end ZYC
theorem zx_mmin_w : Cond.static Lib.Math.min.name ∈ zw_Tb ∧ Cond.initialized "java/lang/Math" ∈ zw_Tb ∧ Cond.code Lib.Math.min.name Lib.Math.min.code 2 (some .int) ∈ zw_Tb := by
  refine ⟨List.mem_filter.mpr ⟨?_, rfl⟩, List.mem_filter.mpr ⟨?_, rfl⟩, List.mem_filter.mpr ⟨?_, rfl⟩⟩ <;> decide +kernel
theorem zx_mmin {l : Launch} {D : va_G} {tc : Nat → ClassId} {A : Nat → Prop} {y : zw_M} {d mc ms k n pc q idx : Nat} {L : List (Option Value)} {st : List Value} {S : zw_S} {Q : Option Value → zw_S → Prop} {x y2 : Int32} (hd : decode y.2.1 pc = .ok (.invokestatic idx, 3)) (hl : Cond.methodLink y.1.cls idx Lib.Math.min.name ∈ zw_Tb) (hst : (st.map fun v => v.category).sum ≤ 8) (hk : k ≤ mc) (hks : n ≤ ms) (hq : pc + 3 = q) (kk : zW l D tc A y (d + 1) mc ms k n q L (.int (if y2 < x then y2 else x) :: st) S Q) : zW l D tc A y (d + 1) mc ms k n pc L (.int y2 :: .int x :: st) S Q := by
  subst hq
  intro p e s m args below meth c ad ad0 n0 H locs ls C hP hD hS hL hn ha hm
  have hw := C.2.2.2.2.2.1
  refine va_mmin C.1 C.2.1 (C.2.2.2.1.trans hL.1.1.symm) C.2.2.2.2.1 (hw _ hl) (hw _ zx_mmin_w.1) (hw _ zx_mmin_w.2.1) (hw _ zx_mmin_w.2.2) ?_ ?_ ?_ ?_ hd (kk p e s m args below meth c ad ad0 n0 H locs ls C hP hD hS hL hn ha hm)
  · unfold zw_rm; dsimp only; omega
  · rw [zw_sum]; unfold zw_rm; dsimp only; omega
  · exact hk
  · exact hks
theorem zx_mmax_w : Cond.static Lib.Math.max.name ∈ zw_Tb ∧ Cond.initialized "java/lang/Math" ∈ zw_Tb ∧ Cond.code Lib.Math.max.name Lib.Math.max.code 2 (some .int) ∈ zw_Tb := by
  refine ⟨List.mem_filter.mpr ⟨?_, rfl⟩, List.mem_filter.mpr ⟨?_, rfl⟩, List.mem_filter.mpr ⟨?_, rfl⟩⟩ <;> decide +kernel
theorem zx_mmax {l : Launch} {D : va_G} {tc : Nat → ClassId} {A : Nat → Prop} {y : zw_M} {d mc ms k n pc q idx : Nat} {L : List (Option Value)} {st : List Value} {S : zw_S} {Q : Option Value → zw_S → Prop} {x y2 : Int32} (hd : decode y.2.1 pc = .ok (.invokestatic idx, 3)) (hl : Cond.methodLink y.1.cls idx Lib.Math.max.name ∈ zw_Tb) (hst : (st.map fun v => v.category).sum ≤ 8) (hk : k ≤ mc) (hks : n ≤ ms) (hq : pc + 3 = q) (kk : zW l D tc A y (d + 1) mc ms k n q L (.int (if x < y2 then y2 else x) :: st) S Q) : zW l D tc A y (d + 1) mc ms k n pc L (.int y2 :: .int x :: st) S Q := by
  subst hq
  intro p e s m args below meth c ad ad0 n0 H locs ls C hP hD hS hL hn ha hm
  have hw := C.2.2.2.2.2.1
  refine va_mmax C.1 C.2.1 (C.2.2.2.1.trans hL.1.1.symm) C.2.2.2.2.1 (hw _ hl) (hw _ zx_mmax_w.1) (hw _ zx_mmax_w.2.1) (hw _ zx_mmax_w.2.2) ?_ ?_ ?_ ?_ hd (kk p e s m args below meth c ad ad0 n0 H locs ls C hP hD hS hL hn ha hm)
  · unfold zw_rm; dsimp only; omega
  · rw [zw_sum]; unfold zw_rm; dsimp only; omega
  · exact hk
  · exact hks
