/-! pairs: a call of the class, then the same of the reference: the same answer, and what is bound stays bound -/
def zOpI (l : Launch) (D : va_G) (tc : Nat → ClassId) (A : Nat → Prop) (mC mM : zw_M) (d : Nat) (vs : List Value) (gi : Nat → Nat → Int32) (gl : Nat → Nat → Int64) (f : Option Nat) : Prop :=
  zCall l D tc A mC d 0 0 (.ref 0 :: vs) (zs gi gl f) (zQi fun r S1 => ∃ gi1 gl1 f1, S1 = zs gi1 gl1 f1 ∧ zCall l D tc A mM d 0 0 (.ref 108 :: vs) (zs gi1 gl1 f1) (zQi fun r2 S2 => r2 = r ∧ ∃ gi2 gl2 f2, S2 = zs gi2 gl2 f2 ∧ zRel gi2 gl2))
def zOpL (l : Launch) (D : va_G) (tc : Nat → ClassId) (A : Nat → Prop) (mC mM : zw_M) (d : Nat) (vs : List Value) (gi : Nat → Nat → Int32) (gl : Nat → Nat → Int64) (f : Option Nat) : Prop :=
  zCall l D tc A mC d 0 0 (.ref 0 :: vs) (zs gi gl f) (zQl fun r S1 => ∃ gi1 gl1 f1, S1 = zs gi1 gl1 f1 ∧ zCall l D tc A mM d 0 0 (.ref 108 :: vs) (zs gi1 gl1 f1) (zQl fun r2 S2 => r2 = r ∧ ∃ gi2 gl2 f2, S2 = zs gi2 gl2 f2 ∧ zRel gi2 gl2))
theorem z_in_tt {v lo hi : Int32} : z_in v lo hi = true ↔ lo.toInt ≤ v.toInt ∧ v.toInt ≤ hi.toInt := by simp [z_in, Int32.le_iff_toInt_le]
theorem z_in_ff {v lo hi : Int32} : z_in v lo hi = false ↔ ¬ (lo.toInt ≤ v.toInt ∧ v.toInt ≤ hi.toInt) := by simp [z_in, Int32.le_iff_toInt_le, ← Int.not_lt]
theorem z_eqI {x y : Int32} : x = y ↔ x.toInt = y.toInt := Int32.toInt_inj.symm
theorem z_m1 : (-1 : Int32).toInt = -1 := by decide
theorem z_u_at {α : Type} (g : Nat → Nat → α) (k j : Nat) (v : α) : zw_u g k j v k j = v := by simp [zw_u]
theorem z_u_ne {α : Type} (g : Nat → Nat → α) {k j a b : Nat} (v : α) (h : ¬ (a = k ∧ b = j)) : zw_u g k j v a b = g a b := by simp only [zw_u, if_neg h]
theorem z_nIof {v : Int32} {n : Nat} (h0 : 0 ≤ v.toInt) (h1 : v.toInt ≤ n) : ∃ j : Nat, j ≤ n ∧ v = nI j := by
  obtain ⟨j, hj, rfl⟩ := nI_of (x := v) (by rw [Int32.lt_iff_toInt_lt]; simpa using h0)
  rw [nI_toInt hj] at h1
  exact ⟨j, by omega, rfl⟩
/-- a place in a short row -/
theorem z_vin {v : Int32} {n : Nat} (hn : n < 2 ^ 31) (h0 : 0 ≤ v.toInt) (h1 : v.toInt < n) : vp_in v n := by
  obtain ⟨j, hj, rfl⟩ := nI_of (x := v) (by rw [Int32.lt_iff_toInt_lt]; simpa using h0)
  rw [nI_toInt hj] at h1
  exact vp_in_nI (by omega) hn
theorem z_inN {v hi : Int32} (n : Nat) (hn : hi.toInt = n) (c : ¬ zb (z_in v 0 hi) = 0) : ∃ j : Nat, j ≤ n ∧ v = nI j := by
  rw [zb_nz, z_in_tt] at c
  exact z_nIof (by have := c.1; simpa using this) (by rw [← hn]; exact c.2)
theorem z_inS {v : Int32} {ns : Nat} (hns : ns ≤ 5) (c : ¬ zb (z_in v 0 (nI ns - 1)) = 0) : ∃ j : Nat, j < ns ∧ v = nI j := by
  cases ns with
  | zero =>
    rw [zb_nz, z_in_tt] at c
    exfalso
    have h1 : ((nI 0 - 1 : Int32)).toInt = -1 := by decide
    have h2 := c.1
    have h3 := c.2
    rw [h1] at h3
    have h4 : (0 : Int32).toInt = 0 := by decide
    omega
  | succ ns =>
    rw [nI_pred] at c
    obtain ⟨j, hj, e⟩ := z_inN (v := v) ns (nI_toInt (by omega)) c
    exact ⟨j, by omega, e⟩
theorem z_inS_at {ns j : Nat} (hns : ns ≤ 5) (hj : j < ns) : z_in (nI j) 0 (nI ns - 1) = true := by
  cases ns with
  | zero => omega
  | succ ns =>
    rw [nI_pred, z_in_tt, nI_toInt (by omega), nI_toInt (by omega)]
    have h4 : (0 : Int32).toInt = 0 := by decide
    omega
section P13R
variable {l : Launch} {D : va_G} {tc : Nat → ClassId} {A : Nat → Prop} {y : zw_M} {d mc ms k n pc q : Nat} {L : List (Option Value)} {st : List Value} {gi : Nat → Nat → Int32} {gl : Nat → Nat → Int64} {f : Option Nat} {Q : Option Value → zw_S → Prop}
theorem zy_getIe {v : Int32} {idx ci b j : Nat} (hd : decode y.2.1 pc = .ok (.getfield idx, 3)) (hf : zw_fl y.1.cls idx ci j) (ht : zw_isI (zw_ft ci j) = true) (hsh : zg_sh[b]? = some (0, ci)) (hv : gi b j = v) (hq : pc + 3 = q) (kk : zW l D tc A y d mc ms k n q L (.int v :: st) (zs gi gl f) Q) : zW l D tc A y d mc ms k n pc L (.ref b :: st) (zs gi gl f) Q := by
  subst hv
  exact zy_getI hd hf ht hsh hq kk
theorem zy_ialdN {b w i : Nat} (hd : decode y.2.1 pc = .ok (.iaload, 1)) (hsh : zg_sh[b]? = some (1, w)) (hi : i < w) (hw : w < 2 ^ 31) (hq : pc + 1 = q) (kk : zW l D tc A y d mc ms k n q L (.int (gi b i) :: st) (zs gi gl f) Q) : zW l D tc A y d mc ms k n pc L (.int (nI i) :: .ref b :: st) (zs gi gl f) Q :=
  zy_iald hd hsh (vp_in_nI hi hw) hq (by rw [nI_clamp (by omega)]; exact kk)
theorem zy_iastN {b w i : Nat} {x : Int32} (hd : decode y.2.1 pc = .ok (.iastore, 1)) (hsh : zg_sh[b]? = some (1, w)) (hi : i < w) (hw : w < 2 ^ 31) (hq : pc + 1 = q) (kk : zW l D tc A y d mc ms k n q L st (zs (zw_u gi b i x) gl f) Q) : zW l D tc A y d mc ms k n pc L (.int x :: .int (nI i) :: .ref b :: st) (zs gi gl f) Q :=
  zy_iast hd hsh (vp_in_nI hi hw) hq (by rw [nI_clamp (by omega)]; exact kk)
theorem zy_bastN {b w i : Nat} {x : Int32} (hd : decode y.2.1 pc = .ok (.bastore, 1)) (hsh : zg_sh[b]? = some (2, w)) (hi : i < w) (hw : w < 2 ^ 31) (hq : pc + 1 = q) (kk : zW l D tc A y d mc ms k n q L st (zs (zw_u gi b i (vp_nar .byte x)) gl f) Q) : zW l D tc A y d mc ms k n pc L (.int x :: .int (nI i) :: .ref b :: st) (zs gi gl f) Q :=
  zy_bast hd hsh (vp_in_nI hi hw) hq (by rw [nI_clamp (by omega)]; exact kk)
theorem zy_laldN {b w i : Nat} (hd : decode y.2.1 pc = .ok (.laload, 1)) (hsh : zg_sh[b]? = some (4, w)) (hi : i < w) (hw : w < 2 ^ 31) (hq : pc + 1 = q) (kk : zW l D tc A y d mc ms k n q L (.long (gl b i) :: st) (zs gi gl f) Q) : zW l D tc A y d mc ms k n pc L (.int (nI i) :: .ref b :: st) (zs gi gl f) Q :=
  zy_lald hd hsh (vp_in_nI hi hw) hq (by rw [nI_clamp (by omega)]; exact kk)
theorem zy_lastN {b w i : Nat} {x : Int64} (hd : decode y.2.1 pc = .ok (.lastore, 1)) (hsh : zg_sh[b]? = some (4, w)) (hi : i < w) (hw : w < 2 ^ 31) (hq : pc + 1 = q) (kk : zW l D tc A y d mc ms k n q L st (zs gi (zw_u gl b i x) f) Q) : zW l D tc A y d mc ms k n pc L (.long x :: .int (nI i) :: .ref b :: st) (zs gi gl f) Q :=
  zy_last hd hsh (vp_in_nI hi hw) hq (by rw [nI_clamp (by omega)]; exact kk)
theorem zy_aaldN {b t w r i : Nat} (hd : decode y.2.1 pc = .ok (.aaload, 1)) (hsh : zg_sh[b]? = some (t, w)) (ht : 5 ≤ t ∧ t < 8) (hi : i < w) (hw : w < 2 ^ 31) (hr : zg_rf f b i = some r) (hq : pc + 1 = q) (kk : zW l D tc A y d mc ms k n q L (.ref r :: st) (zs gi gl f) Q) : zW l D tc A y d mc ms k n pc L (.int (nI i) :: .ref b :: st) (zs gi gl f) Q :=
  zy_aald hd hsh ht (vp_in_nI hi hw) (by rw [nI_clamp (by omega)]; exact hr) hq kk
end P13R
section P13D
variable {l : Launch} {D : va_G} {tc : Nat → ClassId} {A : Nat → Prop} {y : zw_M} {d mc ms k n pc q : Nat} {L : List (Option Value)} {st : List Value} {S : zw_S} {Q : Option Value → zw_S → Prop}
theorem zx_if_eq_t {x : Int32} {off : Int} {t : Nat} (hd : decode y.2.1 pc = .ok (.ifCond .eq off, 3)) (ht : (pc : Int) + off = (t : Int)) (hq : pc + 3 = q) (h : x = 0) (kk : zW l D tc A y d mc ms k n t L st S Q) : zW l D tc A y d mc ms k n pc L (.int x :: st) S Q := zx_if_eq hd ht hq (fun _ => kk) (fun z => absurd h (by simpa using z))
theorem zx_if_eq_f {x : Int32} {off : Int} {t : Nat} (hd : decode y.2.1 pc = .ok (.ifCond .eq off, 3)) (ht : (pc : Int) + off = (t : Int)) (hq : pc + 3 = q) (h : ¬ x = 0) (kk : zW l D tc A y d mc ms k n q L st S Q) : zW l D tc A y d mc ms k n pc L (.int x :: st) S Q := zx_if_eq hd ht hq (fun z => absurd z (by simpa using h)) (fun _ => kk)
theorem zx_if_ne_t {x : Int32} {off : Int} {t : Nat} (hd : decode y.2.1 pc = .ok (.ifCond .ne off, 3)) (ht : (pc : Int) + off = (t : Int)) (hq : pc + 3 = q) (h : ¬ x = 0) (kk : zW l D tc A y d mc ms k n t L st S Q) : zW l D tc A y d mc ms k n pc L (.int x :: st) S Q := zx_if_ne hd ht hq (fun _ => kk) (fun z => absurd h (by simpa using z))
theorem zx_if_ne_f {x : Int32} {off : Int} {t : Nat} (hd : decode y.2.1 pc = .ok (.ifCond .ne off, 3)) (ht : (pc : Int) + off = (t : Int)) (hq : pc + 3 = q) (h : x = 0) (kk : zW l D tc A y d mc ms k n q L st S Q) : zW l D tc A y d mc ms k n pc L (.int x :: st) S Q := zx_if_ne hd ht hq (fun z => absurd z (by simpa using h)) (fun _ => kk)
theorem zx_if_lt_t {x : Int32} {off : Int} {t : Nat} (hd : decode y.2.1 pc = .ok (.ifCond .lt off, 3)) (ht : (pc : Int) + off = (t : Int)) (hq : pc + 3 = q) (h : x < 0) (kk : zW l D tc A y d mc ms k n t L st S Q) : zW l D tc A y d mc ms k n pc L (.int x :: st) S Q := zx_if_lt hd ht hq (fun _ => kk) (fun z => absurd h (by simpa using z))
theorem zx_if_lt_f {x : Int32} {off : Int} {t : Nat} (hd : decode y.2.1 pc = .ok (.ifCond .lt off, 3)) (ht : (pc : Int) + off = (t : Int)) (hq : pc + 3 = q) (h : ¬ x < 0) (kk : zW l D tc A y d mc ms k n q L st S Q) : zW l D tc A y d mc ms k n pc L (.int x :: st) S Q := zx_if_lt hd ht hq (fun z => absurd z (by simpa using h)) (fun _ => kk)
theorem zx_if_ge_t {x : Int32} {off : Int} {t : Nat} (hd : decode y.2.1 pc = .ok (.ifCond .ge off, 3)) (ht : (pc : Int) + off = (t : Int)) (hq : pc + 3 = q) (h : 0 ≤ x) (kk : zW l D tc A y d mc ms k n t L st S Q) : zW l D tc A y d mc ms k n pc L (.int x :: st) S Q := zx_if_ge hd ht hq (fun _ => kk) (fun z => absurd h (by simpa using z))
theorem zx_if_ge_f {x : Int32} {off : Int} {t : Nat} (hd : decode y.2.1 pc = .ok (.ifCond .ge off, 3)) (ht : (pc : Int) + off = (t : Int)) (hq : pc + 3 = q) (h : ¬ 0 ≤ x) (kk : zW l D tc A y d mc ms k n q L st S Q) : zW l D tc A y d mc ms k n pc L (.int x :: st) S Q := zx_if_ge hd ht hq (fun z => absurd z (by simpa using h)) (fun _ => kk)
theorem zx_if_gt_t {x : Int32} {off : Int} {t : Nat} (hd : decode y.2.1 pc = .ok (.ifCond .gt off, 3)) (ht : (pc : Int) + off = (t : Int)) (hq : pc + 3 = q) (h : 0 < x) (kk : zW l D tc A y d mc ms k n t L st S Q) : zW l D tc A y d mc ms k n pc L (.int x :: st) S Q := zx_if_gt hd ht hq (fun _ => kk) (fun z => absurd h (by simpa using z))
theorem zx_if_gt_f {x : Int32} {off : Int} {t : Nat} (hd : decode y.2.1 pc = .ok (.ifCond .gt off, 3)) (ht : (pc : Int) + off = (t : Int)) (hq : pc + 3 = q) (h : ¬ 0 < x) (kk : zW l D tc A y d mc ms k n q L st S Q) : zW l D tc A y d mc ms k n pc L (.int x :: st) S Q := zx_if_gt hd ht hq (fun z => absurd z (by simpa using h)) (fun _ => kk)
theorem zx_if_le_t {x : Int32} {off : Int} {t : Nat} (hd : decode y.2.1 pc = .ok (.ifCond .le off, 3)) (ht : (pc : Int) + off = (t : Int)) (hq : pc + 3 = q) (h : x ≤ 0) (kk : zW l D tc A y d mc ms k n t L st S Q) : zW l D tc A y d mc ms k n pc L (.int x :: st) S Q := zx_if_le hd ht hq (fun _ => kk) (fun z => absurd h (by simpa using z))
theorem zx_if_le_f {x : Int32} {off : Int} {t : Nat} (hd : decode y.2.1 pc = .ok (.ifCond .le off, 3)) (ht : (pc : Int) + off = (t : Int)) (hq : pc + 3 = q) (h : ¬ x ≤ 0) (kk : zW l D tc A y d mc ms k n q L st S Q) : zW l D tc A y d mc ms k n pc L (.int x :: st) S Q := zx_if_le hd ht hq (fun z => absurd z (by simpa using h)) (fun _ => kk)
theorem zx_icmp_eq_t {x y2 : Int32} {off : Int} {t : Nat} (hd : decode y.2.1 pc = .ok (.if_icmp .eq off, 3)) (ht : (pc : Int) + off = (t : Int)) (hq : pc + 3 = q) (h : x = y2) (kk : zW l D tc A y d mc ms k n t L st S Q) : zW l D tc A y d mc ms k n pc L (.int y2 :: .int x :: st) S Q := zx_icmp_eq hd ht hq (fun _ => kk) (fun z => absurd h (by simpa using z))
theorem zx_icmp_eq_f {x y2 : Int32} {off : Int} {t : Nat} (hd : decode y.2.1 pc = .ok (.if_icmp .eq off, 3)) (ht : (pc : Int) + off = (t : Int)) (hq : pc + 3 = q) (h : ¬ x = y2) (kk : zW l D tc A y d mc ms k n q L st S Q) : zW l D tc A y d mc ms k n pc L (.int y2 :: .int x :: st) S Q := zx_icmp_eq hd ht hq (fun z => absurd z (by simpa using h)) (fun _ => kk)
theorem zx_icmp_ne_t {x y2 : Int32} {off : Int} {t : Nat} (hd : decode y.2.1 pc = .ok (.if_icmp .ne off, 3)) (ht : (pc : Int) + off = (t : Int)) (hq : pc + 3 = q) (h : ¬ x = y2) (kk : zW l D tc A y d mc ms k n t L st S Q) : zW l D tc A y d mc ms k n pc L (.int y2 :: .int x :: st) S Q := zx_icmp_ne hd ht hq (fun _ => kk) (fun z => absurd h (by simpa using z))
theorem zx_icmp_ne_f {x y2 : Int32} {off : Int} {t : Nat} (hd : decode y.2.1 pc = .ok (.if_icmp .ne off, 3)) (ht : (pc : Int) + off = (t : Int)) (hq : pc + 3 = q) (h : x = y2) (kk : zW l D tc A y d mc ms k n q L st S Q) : zW l D tc A y d mc ms k n pc L (.int y2 :: .int x :: st) S Q := zx_icmp_ne hd ht hq (fun z => absurd z (by simpa using h)) (fun _ => kk)
theorem zx_icmp_lt_t {x y2 : Int32} {off : Int} {t : Nat} (hd : decode y.2.1 pc = .ok (.if_icmp .lt off, 3)) (ht : (pc : Int) + off = (t : Int)) (hq : pc + 3 = q) (h : x < y2) (kk : zW l D tc A y d mc ms k n t L st S Q) : zW l D tc A y d mc ms k n pc L (.int y2 :: .int x :: st) S Q := zx_icmp_lt hd ht hq (fun _ => kk) (fun z => absurd h (by simpa using z))
theorem zx_icmp_lt_f {x y2 : Int32} {off : Int} {t : Nat} (hd : decode y.2.1 pc = .ok (.if_icmp .lt off, 3)) (ht : (pc : Int) + off = (t : Int)) (hq : pc + 3 = q) (h : ¬ x < y2) (kk : zW l D tc A y d mc ms k n q L st S Q) : zW l D tc A y d mc ms k n pc L (.int y2 :: .int x :: st) S Q := zx_icmp_lt hd ht hq (fun z => absurd z (by simpa using h)) (fun _ => kk)
theorem zx_icmp_ge_t {x y2 : Int32} {off : Int} {t : Nat} (hd : decode y.2.1 pc = .ok (.if_icmp .ge off, 3)) (ht : (pc : Int) + off = (t : Int)) (hq : pc + 3 = q) (h : y2 ≤ x) (kk : zW l D tc A y d mc ms k n t L st S Q) : zW l D tc A y d mc ms k n pc L (.int y2 :: .int x :: st) S Q := zx_icmp_ge hd ht hq (fun _ => kk) (fun z => absurd h (by simpa using z))
theorem zx_icmp_ge_f {x y2 : Int32} {off : Int} {t : Nat} (hd : decode y.2.1 pc = .ok (.if_icmp .ge off, 3)) (ht : (pc : Int) + off = (t : Int)) (hq : pc + 3 = q) (h : ¬ y2 ≤ x) (kk : zW l D tc A y d mc ms k n q L st S Q) : zW l D tc A y d mc ms k n pc L (.int y2 :: .int x :: st) S Q := zx_icmp_ge hd ht hq (fun z => absurd z (by simpa using h)) (fun _ => kk)
theorem zx_icmp_gt_t {x y2 : Int32} {off : Int} {t : Nat} (hd : decode y.2.1 pc = .ok (.if_icmp .gt off, 3)) (ht : (pc : Int) + off = (t : Int)) (hq : pc + 3 = q) (h : y2 < x) (kk : zW l D tc A y d mc ms k n t L st S Q) : zW l D tc A y d mc ms k n pc L (.int y2 :: .int x :: st) S Q := zx_icmp_gt hd ht hq (fun _ => kk) (fun z => absurd h (by simpa using z))
theorem zx_icmp_gt_f {x y2 : Int32} {off : Int} {t : Nat} (hd : decode y.2.1 pc = .ok (.if_icmp .gt off, 3)) (ht : (pc : Int) + off = (t : Int)) (hq : pc + 3 = q) (h : ¬ y2 < x) (kk : zW l D tc A y d mc ms k n q L st S Q) : zW l D tc A y d mc ms k n pc L (.int y2 :: .int x :: st) S Q := zx_icmp_gt hd ht hq (fun z => absurd z (by simpa using h)) (fun _ => kk)
theorem zx_icmp_le_t {x y2 : Int32} {off : Int} {t : Nat} (hd : decode y.2.1 pc = .ok (.if_icmp .le off, 3)) (ht : (pc : Int) + off = (t : Int)) (hq : pc + 3 = q) (h : x ≤ y2) (kk : zW l D tc A y d mc ms k n t L st S Q) : zW l D tc A y d mc ms k n pc L (.int y2 :: .int x :: st) S Q := zx_icmp_le hd ht hq (fun _ => kk) (fun z => absurd h (by simpa using z))
theorem zx_icmp_le_f {x y2 : Int32} {off : Int} {t : Nat} (hd : decode y.2.1 pc = .ok (.if_icmp .le off, 3)) (ht : (pc : Int) + off = (t : Int)) (hq : pc + 3 = q) (h : ¬ x ≤ y2) (kk : zW l D tc A y d mc ms k n q L st S Q) : zW l D tc A y d mc ms k n pc L (.int y2 :: .int x :: st) S Q := zx_icmp_le hd ht hq (fun z => absurd z (by simpa using h)) (fun _ => kk)
end P13D
theorem zk_t {b : Bool} (h : b = true) : ¬ zb b = 0 := (zb_nz b).mpr h
theorem zk_f {b : Bool} (h : ¬ b = true) : zb b = 0 := (zb_z b).mpr (by cases b <;> simp_all)
theorem z_inT {v hi : Int32} (n : Nat) (hn : hi.toInt = n) (c : z_in v 0 hi = true) : ∃ j : Nat, j ≤ n ∧ v = nI j := z_inN n hn (zk_t c)
theorem z_inU {v : Int32} {ns : Nat} (hns : ns ≤ 5) (c : z_in v 0 (nI ns - 1) = true) : ∃ j : Nat, j < ns ∧ v = nI j := z_inS hns (zk_t c)
theorem z_inB {v lo hi : Int32} {a b : Int} (h1 : lo.toInt = a) (h2 : hi.toInt = b) (c : z_in v lo hi = true) : z_rg a b v := by
  rw [z_in_tt, h1, h2] at c
  exact c

section P13
variable {l : Launch} {D : va_G} {tc : Nat → ClassId} {A : Nat → Prop} {S : zw_S} {gi : Nat → Nat → Int32} {gl : Nat → Nat → Int64} {f : Option Nat}
theorem z_rel_tell (h : zRel gi gl) {j : Nat} (hj : j < 3) {x : Int32} (hx : z_rg (-1) 999 x) : zRel (zw_u (zw_u gi 17 j x) 116 j x) gl := by
  refine zRel_now h (fun nf hnf hN => ?_) (fun k i a b c e => by rw [z_u_ne _ _ (by omega), z_u_ne _ _ (by omega)])
  obtain ⟨ns, nb, mm, h0, h1, h2, h3, h4, h5, h6, h7, h8⟩ := hN
  refine ⟨ns, nb, mm, h0, h1, h2, h3, h4, zSTs_congr h5 h0.1 (fun k i hk => by rw [z_u_ne _ _ (by omega), z_u_ne _ _ (by omega)]) (fun k i hk => by rw [z_u_ne _ _ (by omega), z_u_ne _ _ (by omega)]), zSTn_congr h6 (fun k i a b => by rw [z_u_ne _ _ (by omega), z_u_ne _ _ (by omega)]), fun i hi => ?_, zSTb_congr h8 (fun i => ⟨by rw [z_u_ne _ _ (by omega), z_u_ne _ _ (by omega)], by rw [z_u_ne _ _ (by omega), z_u_ne _ _ (by omega)]⟩) (fun i => ⟨by rw [z_u_ne _ _ (by omega), z_u_ne _ _ (by omega)], by rw [z_u_ne _ _ (by omega), z_u_ne _ _ (by omega)]⟩)⟩
  by_cases e : i = j
  · subst e
    simp only [z_u_at]
    rw [z_u_ne _ _ (by omega), show (1 + 16 : Nat) = 17 from rfl, z_u_at]
    exact ⟨rfl, hx⟩
  · rw [z_u_ne _ _ (by omega), z_u_ne _ _ (by omega), z_u_ne _ _ (by omega), z_u_ne _ _ (by omega)]
    exact h7 i hi
theorem z_rel_month (h : zRel gi gl) {j : Nat} (hj : j < 12) : zRel (zw_u (zw_u gi 1 4 (nI j)) 108 1 (nI j)) gl := by
  refine zRel_now h (fun nf hnf hN => ?_) (fun k i a b c e => by rw [z_u_ne _ _ (by omega), z_u_ne _ _ (by omega)])
  obtain ⟨ns, nb, mm, h0, h1, h2, h3, h4, h5, h6, h7, h8⟩ := hN
  exact ⟨ns, nb, j, ⟨h0.1, h0.2.1, hj⟩, h1, ⟨rfl, rfl⟩, h3, h4, zSTs_congr h5 h0.1 (fun k i hk => by rw [z_u_ne _ _ (by omega), z_u_ne _ _ (by omega)]) (fun k i hk => by rw [z_u_ne _ _ (by omega), z_u_ne _ _ (by omega)]), zSTn_congr h6 (fun k i a b => by rw [z_u_ne _ _ (by omega), z_u_ne _ _ (by omega)]), zSTt_congr h7 (fun i => by rw [z_u_ne _ _ (by omega), z_u_ne _ _ (by omega)]) (fun i => by rw [z_u_ne _ _ (by omega), z_u_ne _ _ (by omega)]), zSTb_congr h8 (fun i => ⟨by rw [z_u_ne _ _ (by omega), z_u_ne _ _ (by omega)], by rw [z_u_ne _ _ (by omega), z_u_ne _ _ (by omega)]⟩) (fun i => ⟨by rw [z_u_ne _ _ (by omega), z_u_ne _ _ (by omega)], by rw [z_u_ne _ _ (by omega), z_u_ne _ _ (by omega)]⟩)⟩
theorem z_rel_book0 (h : zRel gi gl) : zRel (zw_u (zw_u gi 1 6 0) 108 38 0) gl := by
  refine zRel_now h (fun nf hnf hN => ?_) (fun k i a b c e => by rw [z_u_ne _ _ (by omega), z_u_ne _ _ (by omega)])
  obtain ⟨ns, nb, mm, h0, h1, h2, h3, h4, h5, h6, h7, h8⟩ := hN
  exact ⟨ns, 0, mm, ⟨h0.1, by omega, h0.2.2⟩, h1, h2, ⟨rfl, rfl⟩, h4, zSTs_congr h5 h0.1 (fun k i hk => by rw [z_u_ne _ _ (by omega), z_u_ne _ _ (by omega)]) (fun k i hk => by rw [z_u_ne _ _ (by omega), z_u_ne _ _ (by omega)]), zSTn_congr h6 (fun k i a b => by rw [z_u_ne _ _ (by omega), z_u_ne _ _ (by omega)]), zSTt_congr h7 (fun i => by rw [z_u_ne _ _ (by omega), z_u_ne _ _ (by omega)]) (fun i => by rw [z_u_ne _ _ (by omega), z_u_ne _ _ (by omega)]), zSTb_congr h8 (fun i => ⟨by rw [z_u_ne _ _ (by omega), z_u_ne _ _ (by omega)], by rw [z_u_ne _ _ (by omega), z_u_ne _ _ (by omega)]⟩) (fun i => ⟨by rw [z_u_ne _ _ (by omega), z_u_ne _ _ (by omega)], by rw [z_u_ne _ _ (by omega), z_u_ne _ _ (by omega)]⟩)⟩
theorem z_rel_book (h : zRel gi gl) {nb : Nat} (hnb : nb < 12) {x w : Int32} (hx : z_rg 0 2 x) (hw : z_rg 0 999 w) : zRel (zw_u (zw_u (zw_u (zw_u (zw_u (zw_u gi 18 nb x) 19 nb w) 1 6 (nI (nb + 1))) 133 nb x) 134 nb w) 108 38 (nI (nb + 1))) gl := by
  refine zRel_now h (fun nf hnf hN => ?_) (fun k i a b c e => by rw [z_u_ne _ _ (by omega), z_u_ne _ _ (by omega), z_u_ne _ _ (by omega), z_u_ne _ _ (by omega), z_u_ne _ _ (by omega), z_u_ne _ _ (by omega)])
  obtain ⟨ns, nb', mm, h0, h1, h2, h3, h4, h5, h6, h7, h8⟩ := hN
  refine ⟨ns, nb + 1, mm, ⟨h0.1, by omega, h0.2.2⟩, h1, h2, ⟨rfl, rfl⟩, h4, zSTs_congr h5 h0.1 (fun k i hk => by rw [z_u_ne _ _ (by omega), z_u_ne _ _ (by omega), z_u_ne _ _ (by omega), z_u_ne _ _ (by omega), z_u_ne _ _ (by omega), z_u_ne _ _ (by omega)]) (fun k i hk => by rw [z_u_ne _ _ (by omega), z_u_ne _ _ (by omega), z_u_ne _ _ (by omega), z_u_ne _ _ (by omega), z_u_ne _ _ (by omega), z_u_ne _ _ (by omega)]), zSTn_congr h6 (fun k i a b => by rw [z_u_ne _ _ (by omega), z_u_ne _ _ (by omega), z_u_ne _ _ (by omega), z_u_ne _ _ (by omega), z_u_ne _ _ (by omega), z_u_ne _ _ (by omega)]), zSTt_congr h7 (fun i => by rw [z_u_ne _ _ (by omega), z_u_ne _ _ (by omega), z_u_ne _ _ (by omega), z_u_ne _ _ (by omega), z_u_ne _ _ (by omega), z_u_ne _ _ (by omega)]) (fun i => by rw [z_u_ne _ _ (by omega), z_u_ne _ _ (by omega), z_u_ne _ _ (by omega), z_u_ne _ _ (by omega), z_u_ne _ _ (by omega), z_u_ne _ _ (by omega)]), fun i hi => ?_⟩
  obtain ⟨g1, g2, g3, g4⟩ := h8 i hi
  by_cases e : i = nb
  · subst e
    simp [zw_u]
    exact ⟨hx, hw⟩
  · simp [zw_u, e]
    exact ⟨g1, g2, g3, g4⟩
end P13
