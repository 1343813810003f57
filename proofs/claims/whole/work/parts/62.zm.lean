/-! rules over the states of constructors -/
section ZL
variable {l : Launch} {D : va_G} {tc : Nat → ClassId} {A : Nat → Prop} {y y' : zw_M} {d mc ms k n mc' ms' pc q N M : Nat} {L : List (Option Value)} {st : List Value} {Q : Option Value → zw_S → Prop} {sh X X' Y : List (Nat × Nat)} {I I' : List ((Nat × Nat) × Int32)} {R R' : List ((Nat × Nat) × Nat)}
theorem zm_own {b : Nat} {x : Nat × Nat} (h : sh[b]? = some x) : (sh ++ X)[b]? = some x := (List.getElem?_append_left (List.getElem?_eq_some_iff.mp h).1).trans h
theorem zm_row {i : Nat} {x : Nat × Nat} (hN : sh.length = N) (h : X[i]? = some x) : (sh ++ X)[N + i]? = some x := by
  rw [List.getElem?_append_right (by omega), show N + i - sh.length = i by omega]
  exact h
theorem zm_len {i : Nat} (hN : sh.length = N) (hX : X.length = i) : (sh ++ X).length = N + i := by rw [List.length_append, hN, hX]
theorem zm_app {x : List (Nat × Nat)} : zw_app (zm sh X I R) x = zm sh (X ++ x) I R := by
  unfold zw_app zm
  rw [List.append_assoc]
theorem zm_pi {b j : Nat} {v : Int32} : zw_pi (zm sh X I R) b j v = zm sh X (((b, j), v) :: I) R := by
  unfold zw_pi zm
  rw [← zT_u]
theorem zm_pr {b j v : Nat} : zw_pr (zm sh X I R) b j (some v) = zm sh X I (((b, j), v) :: R) := by
  unfold zw_pr zm
  rw [← zR_u]
theorem zm_nil : zm (sh ++ X) [] I R = zm sh X I R := by
  unfold zm
  rw [List.append_nil]
theorem zm_in : zm (sh ++ X) Y I R = zm sh (X ++ Y) I R := by
  unfold zm
  rw [List.append_assoc]
theorem zm_cast (h1 : X = X') (h2 : I = I') (h3 : R = R') (kk : zW l D tc A y d mc ms k n pc L st (zm sh X' I' R') Q) : zW l D tc A y d mc ms k n pc L st (zm sh X I R) Q := by
  subst h1
  subst h2
  subst h3
  exact kk
theorem zm_newaI {w : Int32} {nn : Nat} (hd : decode y.2.1 pc = .ok (.newarray .int, 2)) (hw : ¬ w < 0) (hN : w.toNatClampNeg = nn) (hb : nn ≤ 1000) (hz : zk M I R) (hl : (sh ++ X).length = M) (hX : X ++ [(1, nn)] = X') (hlt : M < 100000) (hk : k + 1 ≤ mc) (hks : n + nn ≤ ms) (hlw : zw_wl M L = true) (hst : st.all (zw_wv M) = true) (hq : pc + 2 = q) (kk : zW l D tc A y d mc ms (k + 1) (n + nn) q L (.ref M :: st) (zm sh X' I R) Q) : zW l D tc A y d mc ms k n pc L (.int w :: st) (zm sh X I R) Q := by
  subst hX
  refine zx_newaI hd hw hN hb (zm_cln hz hl) hl hlt hk hks hlw hst hq ?_
  rw [zm_app]
  exact kk
theorem zm_newaB {w : Int32} {nn : Nat} (hd : decode y.2.1 pc = .ok (.newarray .byte, 2)) (hw : ¬ w < 0) (hN : w.toNatClampNeg = nn) (hb : nn ≤ 1000) (hz : zk M I R) (hl : (sh ++ X).length = M) (hX : X ++ [(2, nn)] = X') (hlt : M < 100000) (hk : k + 1 ≤ mc) (hks : n + nn ≤ ms) (hlw : zw_wl M L = true) (hst : st.all (zw_wv M) = true) (hq : pc + 2 = q) (kk : zW l D tc A y d mc ms (k + 1) (n + nn) q L (.ref M :: st) (zm sh X' I R) Q) : zW l D tc A y d mc ms k n pc L (.int w :: st) (zm sh X I R) Q := by
  subst hX
  refine zx_newaB hd hw hN hb (zm_cln hz hl) hl hlt hk hks hlw hst hq ?_
  rw [zm_app]
  exact kk
theorem zm_newaZ {w : Int32} {nn : Nat} (hd : decode y.2.1 pc = .ok (.newarray .boolean, 2)) (hw : ¬ w < 0) (hN : w.toNatClampNeg = nn) (hb : nn ≤ 1000) (hz : zk M I R) (hl : (sh ++ X).length = M) (hX : X ++ [(3, nn)] = X') (hlt : M < 100000) (hk : k + 1 ≤ mc) (hks : n + nn ≤ ms) (hlw : zw_wl M L = true) (hst : st.all (zw_wv M) = true) (hq : pc + 2 = q) (kk : zW l D tc A y d mc ms (k + 1) (n + nn) q L (.ref M :: st) (zm sh X' I R) Q) : zW l D tc A y d mc ms k n pc L (.int w :: st) (zm sh X I R) Q := by
  subst hX
  refine zx_newaZ hd hw hN hb (zm_cln hz hl) hl hlt hk hks hlw hst hq ?_
  rw [zm_app]
  exact kk
theorem zm_newaJ {w : Int32} {nn : Nat} (hd : decode y.2.1 pc = .ok (.newarray .long, 2)) (hw : ¬ w < 0) (hN : w.toNatClampNeg = nn) (hb : nn ≤ 1000) (hz : zk M I R) (hl : (sh ++ X).length = M) (hX : X ++ [(4, nn)] = X') (hlt : M < 100000) (hk : k + 1 ≤ mc) (hks : n + nn ≤ ms) (hlw : zw_wl M L = true) (hst : st.all (zw_wv M) = true) (hq : pc + 2 = q) (kk : zW l D tc A y d mc ms (k + 1) (n + nn) q L (.ref M :: st) (zm sh X' I R) Q) : zW l D tc A y d mc ms k n pc L (.int w :: st) (zm sh X I R) Q := by
  subst hX
  refine zx_newaJ hd hw hN hb (zm_cln hz hl) hl hlt hk hks hlw hst hq ?_
  rw [zm_app]
  exact kk
theorem zm_new {idx ci : Nat} (hd : decode y.2.1 pc = .ok (.new idx, 3)) (hci : ci < 9) (hcl : Cond.classLink y.1.cls idx (zw_R ci) ∈ zw_Tb) (hin : Cond.instantiable (zw_R ci) (zw_N ci) ∈ zw_Tb) (hini : Cond.initialized (zw_R ci) ∈ zw_Tb) (hz : zk M I R) (hl : (sh ++ X).length = M) (hX : X ++ [(0, ci)] = X') (hlt : M < 100000) (hk : k + 1 ≤ mc) (hks : n + zw_N ci ≤ ms) (hlw : zw_wl M L = true) (hst : st.all (zw_wv M) = true) (hq : pc + 3 = q) (kk : zW l D tc A y d mc ms (k + 1) (n + zw_N ci) q L (.ref M :: st) (zm sh X' I R) Q) : zW l D tc A y d mc ms k n pc L st (zm sh X I R) Q := by
  subst hX
  refine zx_new hd hci hcl hin hini (zm_cln hz hl) hl hlt hk hks hlw hst hq ?_
  rw [zm_app]
  exact kk
theorem zm_newqF {idx nn : Nat} {w : Int32} (hd : decode y.2.1 pc = .ok (.anewarray idx, 3)) (hcl : Cond.classLink y.1.cls idx RX1 ∈ zw_Tb) (hw : ¬ w < 0) (hN : w.toNatClampNeg = nn) (hb : nn ≤ 1000) (hz : zk M I R) (hl : (sh ++ X).length = M) (hX : X ++ [(6, nn)] = X') (hlt : M < 100000) (hk : k + 1 ≤ mc) (hks : n + nn ≤ ms) (hlw : zw_wl M L = true) (hst : st.all (zw_wv M) = true) (hq : pc + 3 = q) (kk : zW l D tc A y d mc ms (k + 1) (n + nn) q L (.ref M :: st) (zm sh X' I R) Q) : zW l D tc A y d mc ms k n pc L (.int w :: st) (zm sh X I R) Q := by
  subst hX
  refine zx_newqF hd hcl hw hN hb (zm_cln hz hl) hl hlt hk hks hlw hst hq ?_
  rw [zm_app]
  exact kk
theorem zm_newqT {idx nn : Nat} {w : Int32} (hd : decode y.2.1 pc = .ok (.anewarray idx, 3)) (hcl : Cond.classLink y.1.cls idx RX6 ∈ zw_Tb) (hw : ¬ w < 0) (hN : w.toNatClampNeg = nn) (hb : nn ≤ 1000) (hz : zk M I R) (hl : (sh ++ X).length = M) (hX : X ++ [(7, nn)] = X') (hlt : M < 100000) (hk : k + 1 ≤ mc) (hks : n + nn ≤ ms) (hlw : zw_wl M L = true) (hst : st.all (zw_wv M) = true) (hq : pc + 3 = q) (kk : zW l D tc A y d mc ms (k + 1) (n + nn) q L (.ref M :: st) (zm sh X' I R) Q) : zW l D tc A y d mc ms k n pc L (.int w :: st) (zm sh X I R) Q := by
  subst hX
  refine zx_newqT hd hcl hw hN hb (zm_cln hz hl) hl hlt hk hks hlw hst hq ?_
  rw [zm_app]
  exact kk
theorem zm_mna {idx nn mm : Nat} {w v : Int32} (hd : decode y.2.1 pc = .ok (.multianewarray idx 2, 4)) (hcl : Cond.classLink y.1.cls idx "[[I" ∈ zw_Tb) (hw : ¬ w < 0) (hv : ¬ v < 0) (hN : w.toNatClampNeg = nn) (hM : v.toNatClampNeg = mm) (hb : nn ≤ 1000) (hb2 : mm ≤ 1000) (hz : zk M I R) (hl : (sh ++ X).length = M) (hX : X ++ ((5, nn) :: List.replicate nn (1, mm)) = X') (hR : ((List.range nn).map (fun j => ((M, j), M + 1 + j))).reverse ++ R = R') (hlt : M + 1 + nn ≤ 100000) (hk : k + (1 + nn) ≤ mc) (hks : n + (nn + nn * mm) ≤ ms) (hlw : zw_wl M L = true) (hst : st.all (zw_wv M) = true) (hq : pc + 4 = q)
    (kk : zW l D tc A y d mc ms (k + 1 + nn) (n + nn + nn * mm) q L (.ref M :: st) (zm sh X' I R') Q) : zW l D tc A y d mc ms k n pc L (.int v :: .int w :: st) (zm sh X I R) Q := by
  subst hX
  subst hR
  refine zx_mna hd hcl hw hv hN hM hb hb2 (zm_cln hz hl) hl hlt hk hks hlw hst hq ?_
  have e : zw_mna (zm sh X I R) nn mm = zm sh (X ++ ((5, nn) :: List.replicate nn (1, mm))) I (((List.range nn).map (fun j => ((M, j), M + 1 + j))).reverse ++ R) := by
    unfold zw_mna zm
    dsimp only
    rw [List.append_assoc, hl, zR_row (fun j => z_lookup_none (fun x hx => hz.2 x hx))]
  rw [e]
  exact kk
theorem zm_putR {idx ci b j v : Nat} (hd : decode y.2.1 pc = .ok (.putfield idx, 3)) (hf : zw_fl y.1.cls idx ci j) (ht : zw_isR (zw_ft ci j) = true) (hfin : (zw_T ci j).2.2.2 = false) (hsh : (sh ++ X)[b]? = some (0, ci)) (hv : v < (sh ++ X).length) (hq : pc + 3 = q) (kk : zW l D tc A y d mc ms k n q L st (zm sh X I (((b, j), v) :: R)) Q) : zW l D tc A y d mc ms k n pc L (.ref v :: .ref b :: st) (zm sh X I R) Q := by
  refine zx_putR hd hf ht hfin hsh hv hq ?_
  rw [zm_pr]
  exact kk
theorem zm_putRF {idx ci b j v : Nat} (hd : decode y.2.1 pc = .ok (.putfield idx, 3)) (hf : zw_fl y.1.cls idx ci j) (ht : zw_isR (zw_ft ci j) = true) (hfin : (zw_T ci j).2.2.2 = true) (hin : y.1.name = "<init>") (hdc : (zw_T ci j).1 = y.1.cls) (hsh : (sh ++ X)[b]? = some (0, ci)) (hv : v < (sh ++ X).length) (hq : pc + 3 = q) (kk : zW l D tc A y d mc ms k n q L st (zm sh X I (((b, j), v) :: R)) Q) : zW l D tc A y d mc ms k n pc L (.ref v :: .ref b :: st) (zm sh X I R) Q := by
  refine zx_putRF hd hf ht hfin hin hdc hsh hv hq ?_
  rw [zm_pr]
  exact kk
theorem zm_putI {idx ci b j : Nat} {x : Int32} (hd : decode y.2.1 pc = .ok (.putfield idx, 3)) (hf : zw_fl y.1.cls idx ci j) (ht : zw_isI (zw_ft ci j) = true) (hfin : (zw_T ci j).2.2.2 = false) (hx : narrow (zw_ft ci j) (.int x) = .int x ∧ fits (zw_ft ci j) (.int x) = true) (hsh : (sh ++ X)[b]? = some (0, ci)) (hq : pc + 3 = q) (kk : zW l D tc A y d mc ms k n q L st (zm sh X (((b, j), x) :: I) R) Q) : zW l D tc A y d mc ms k n pc L (.int x :: .ref b :: st) (zm sh X I R) Q := by
  refine zx_putI hd hf ht hfin hx hsh hq ?_
  rw [zm_pi]
  exact kk
theorem zm_iast {b w j : Nat} {i x : Int32} (hd : decode y.2.1 pc = .ok (.iastore, 1)) (hsh : (sh ++ X)[b]? = some (1, w)) (hin : vp_in i w) (hj : i.toNatClampNeg = j) (hq : pc + 1 = q) (kk : zW l D tc A y d mc ms k n q L st (zm sh X (((b, j), x) :: I) R) Q) : zW l D tc A y d mc ms k n pc L (.int x :: .int i :: .ref b :: st) (zm sh X I R) Q := by
  subst hj
  refine zx_iast hd hsh hin hq ?_
  rw [zm_pi]
  exact kk
theorem zm_aast {b t w v ci j : Nat} {i : Int32} (hd : decode y.2.1 pc = .ok (.aastore, 1)) (hsh : (sh ++ X)[b]? = some (t, w)) (ht : 5 ≤ t ∧ t < 8) (hin : vp_in i w) (hv : (sh ++ X)[v]? = some (0, ci)) (hci : ci < 9) (hty : zw_at t = .object (zw_R ci)) (hj : i.toNatClampNeg = j) (hq : pc + 1 = q) (kk : zW l D tc A y d mc ms k n q L st (zm sh X I (((b, j), v) :: R)) Q) : zW l D tc A y d mc ms k n pc L (.ref v :: .int i :: .ref b :: st) (zm sh X I R) Q := by
  subst hj
  refine zx_aast hd hsh ht hin hv hci hty hq ?_
  rw [zm_pr]
  exact kk
theorem zm_getR {idx ci b j r : Nat} (hd : decode y.2.1 pc = .ok (.getfield idx, 3)) (hf : zw_fl y.1.cls idx ci j) (ht : zw_isR (zw_ft ci j) = true) (hsh : (sh ++ X)[b]? = some (0, ci)) (hr : R.lookup (b, j) = some r) (hq : pc + 3 = q) (kk : zW l D tc A y d mc ms k n q L (.ref r :: st) (zm sh X I R) Q) : zW l D tc A y d mc ms k n pc L (.ref b :: st) (zm sh X I R) Q := zx_getR hd hf ht hsh hr hq kk
theorem zm_callN0 {b idx : Nat} (hd : decode y.2.1 pc = .ok (.invokespecial idx, 3)) (hlk : (y.1.cls, (idx, y'.1)) ∈ zw_nest) (hok : zw_okI y' 0) (hen : (zw_en (.ref b :: [])).length ≤ y'.2.2.1) (hst : (st.map fun v => v.category).sum ≤ 8) (hk : k + mc' ≤ mc) (hks : n + ms' ≤ ms) (hwf : zw_wl (sh ++ X).length L = true ∧ st.all (zw_wv (sh ++ X).length) = true) (hz : zCall l D tc A y' d mc' ms' (.ref b :: []) (zm (sh ++ X) [] I R) (zQv fun S' => S' = zm (sh ++ X) Y I' R')) (hX : X ++ Y = X') (hq : pc + 3 = q) (kk : zW l D tc A y (d + 1) mc ms (k + mc') (n + ms') q L st (zm sh X' I' R') Q) : zW l D tc A y (d + 1) mc ms k n pc L (.ref b :: st) (zm sh X I R) Q := by
  subst hX
  subst hq
  rw [zm_nil] at hz
  refine zx_callIN (As := []) hd hlk hok hen hst hk hks (Or.inr hwf) hz ?_
  rintro r S1 ⟨rfl, rfl⟩
  rw [zm_in]
  exact kk
theorem zm_callN1 {b idx : Nat} {a0 : Value} (hd : decode y.2.1 pc = .ok (.invokespecial idx, 3)) (hlk : (y.1.cls, (idx, y'.1)) ∈ zw_nest) (hok : zw_okI y' 1) (hen : (zw_en (.ref b :: [a0])).length ≤ y'.2.2.1) (hst : (st.map fun v => v.category).sum ≤ 8) (hk : k + mc' ≤ mc) (hks : n + ms' ≤ ms) (hwf : zw_wl (sh ++ X).length L = true ∧ st.all (zw_wv (sh ++ X).length) = true) (hz : zCall l D tc A y' d mc' ms' (.ref b :: [a0]) (zm (sh ++ X) [] I R) (zQv fun S' => S' = zm (sh ++ X) Y I' R')) (hX : X ++ Y = X') (hq : pc + 3 = q) (kk : zW l D tc A y (d + 1) mc ms (k + mc') (n + ms') q L st (zm sh X' I' R') Q) : zW l D tc A y (d + 1) mc ms k n pc L (a0 :: .ref b :: st) (zm sh X I R) Q := by
  subst hX
  subst hq
  rw [zm_nil] at hz
  refine zx_callIN (As := [a0]) hd hlk hok hen hst hk hks (Or.inr hwf) hz ?_
  rintro r S1 ⟨rfl, rfl⟩
  rw [zm_in]
  exact kk
theorem zm_callI0 {b idx : Nat} (hd : decode y.2.1 pc = .ok (.invokespecial idx, 3)) (hlk : Cond.methodLink y.1.cls idx y'.1 ∈ zw_Tb) (hok : zw_okI y' 0) (hen : (zw_en (.ref b :: [])).length ≤ y'.2.2.1) (hst : (st.map fun v => v.category).sum ≤ 8) (hk : k + mc' ≤ mc) (hks : n + ms' ≤ ms) (hwf : zw_wl (sh ++ X).length L = true ∧ st.all (zw_wv (sh ++ X).length) = true) (hz : zCall l D tc A y' d mc' ms' (.ref b :: []) (zm (sh ++ X) [] I R) (zQv fun S' => S' = zm (sh ++ X) Y I' R')) (hX : X ++ Y = X') (hq : pc + 3 = q) (kk : zW l D tc A y (d + 1) mc ms (k + mc') (n + ms') q L st (zm sh X' I' R') Q) : zW l D tc A y (d + 1) mc ms k n pc L (.ref b :: st) (zm sh X I R) Q := by
  subst hX
  subst hq
  rw [zm_nil] at hz
  refine zx_callI (As := []) hd hlk hok hen hst hk hks (Or.inr hwf) hz ?_
  rintro r S1 ⟨rfl, rfl⟩
  rw [zm_in]
  exact kk
theorem zm_callI1 {b idx : Nat} {a0 : Value} (hd : decode y.2.1 pc = .ok (.invokespecial idx, 3)) (hlk : Cond.methodLink y.1.cls idx y'.1 ∈ zw_Tb) (hok : zw_okI y' 1) (hen : (zw_en (.ref b :: [a0])).length ≤ y'.2.2.1) (hst : (st.map fun v => v.category).sum ≤ 8) (hk : k + mc' ≤ mc) (hks : n + ms' ≤ ms) (hwf : zw_wl (sh ++ X).length L = true ∧ st.all (zw_wv (sh ++ X).length) = true) (hz : zCall l D tc A y' d mc' ms' (.ref b :: [a0]) (zm (sh ++ X) [] I R) (zQv fun S' => S' = zm (sh ++ X) Y I' R')) (hX : X ++ Y = X') (hq : pc + 3 = q) (kk : zW l D tc A y (d + 1) mc ms (k + mc') (n + ms') q L st (zm sh X' I' R') Q) : zW l D tc A y (d + 1) mc ms k n pc L (a0 :: .ref b :: st) (zm sh X I R) Q := by
  subst hX
  subst hq
  rw [zm_nil] at hz
  refine zx_callI (As := [a0]) hd hlk hok hen hst hk hks (Or.inr hwf) hz ?_
  rintro r S1 ⟨rfl, rfl⟩
  rw [zm_in]
  exact kk
theorem zm_iinc1 {v0 : Option Value} {w : Int} {x x' : Int32} {S : zw_S} (hd : decode y.2.1 pc = .ok (.iinc 1 w, 3)) (hz : zw_nl [v0] 1 = true) (hx : x + Int32.ofInt w = x') (hq : pc + 3 = q) (kk : zW l D tc A y d mc ms k n q (v0 :: some (.int x') :: L) st S Q) : zW l D tc A y d mc ms k n pc (v0 :: some (.int x) :: L) st S Q := by
  subst hx
  exact zx_iinc1 hd hz hq kk
end ZL
