/-! whether a clause holds -/
theorem z_div {m n : Nat} (hm : m < 2 ^ 31) (hn : n < 2 ^ 31) : nI m / nI n = nI (m / n) := by
  apply Int32.toInt_inj.mp
  have h1 : m / n ≤ m := Nat.div_le_self _ _
  rw [Int32.toInt_div, nI_toInt hm, nI_toInt hn, nI_toInt (by omega)]
  rw [← Int.ofNat_tdiv]
  obtain ⟨c, hc⟩ : ∃ c, c = m / n := ⟨_, rfl⟩
  rw [← hc] at h1 ⊢
  rw [Int.bmod_eq_of_le] <;> omega
theorem z_rem {m n : Nat} (hm : m < 2 ^ 31) (hn : n < 2 ^ 31) : nI m - nI m / nI n * nI n = nI (m % n) := by
  rw [z_div hm hn, z_mul]
  have h := Nat.div_add_mod m n
  rw [Nat.mul_comm] at h
  rw [z_subN (by omega)]
  congr 1
  omega
theorem zc_top (x : Int32) (a : Bool) : ((x <<< (1 &&& 31 : Int32)) ||| zb a) &&& 1 = zb a := by
  apply Int32.toBitVec_inj.mp
  cases a <;> simp [zb] <;> ext i hi <;> simp <;> omega
theorem zc_not (x : Int32) (a : Bool) : ((x <<< (1 &&& 31: Int32)) ||| zb a) ^^^ 1 = (x <<< (1 &&& 31 : Int32)) ||| zb (!a) := by
  apply Int32.toBitVec_inj.mp
  cases a <;> simp [zb] <;> ext i hi <;> rcases i with _ | i <;> simp
theorem zc_and (x : Int32) (a b : Bool) : ((x <<< (1 &&& 31: Int32)) ||| zb b) &&& (zb a ||| -2) = (x <<< (1 &&& 31 : Int32)) ||| zb (b && a) := by
  apply Int32.toBitVec_inj.mp
  have k1 : ∀ i, i < 31 → (4294967294#32).getLsbD (i + 1) = true := by decide +kernel
  have k2 : ∀ i, i < 31 → (4294967295#32).getLsbD (i + 1) = true := by decide +kernel
  cases a <;> cases b <;> simp [zb] <;> ext i hi <;> rcases i with _ | i <;> simp <;> intro _ <;> first | exact k1 i (by omega) | exact k2 i (by omega)
theorem zc_or (x : Int32) (a b : Bool) : ((x <<< (1 &&& 31: Int32)) ||| zb b) ||| zb a = (x <<< (1 &&& 31 : Int32)) ||| zb (b || a) := by
  apply Int32.toBitVec_inj.mp
  cases a <;> cases b <;> simp [zb] <;> ext i hi <;> rcases i with _ | i <;> simp
theorem zc_shr (x : Int32) (a : Bool) (h2 : x.toBitVec.getLsbD 31 = false) : (((x <<< (1 &&& 31: Int32)) ||| zb a).toUInt32 >>> ((1 : Int32).toUInt32 &&& Int32.toUInt32 31)).toInt32 = x := by
  apply Int32.toBitVec_inj.mp
  have key : ((x.toBitVec <<< 1 ||| (zb a).toBitVec) >>> 1) = x.toBitVec := by
    have e1 : (zb a).toBitVec >>> 1 = 0#32 := by cases a <;> decide
    rw [BitVec.ushiftRight_or_distrib, e1]
    ext i hi
    by_cases q : i = 31
    · subst q; simpa using h2
    · simp only [BitVec.or_zero, BitVec.getElem_ushiftRight, BitVec.getLsbD_shiftLeft]
      rw [show decide (1 + i < 32) = true by simp; omega, show decide (1 + i < 1) = false by simp, show 1 + i - 1 = i by omega]
      simp [BitVec.getLsbD_eq_getElem hi]
  have e3 : ((1 : Int32).toUInt32 &&& Int32.toUInt32 31) = 1 := by decide
  have e4 : ((1 : Int32) &&& 31) = 1 := by decide
  rw [e3, e4]
  exact key
/-- a pile of facts as the bits of an int -/
def z_bt : List Bool → Int32
  | [] => 0
  | a :: t => (z_bt t <<< (1 &&& 31 : Int32)) ||| zb a
theorem z_bt_hi : ∀ (st : List Bool) (i : Nat), st.length ≤ i → (z_bt st).toBitVec.getLsbD i = false := by
  intro st
  induction st with
  | nil => intro i _; simp [z_bt]
  | cons a t ih =>
    intro i hi
    simp only [List.length_cons] at hi
    have e4 : ((1 : Int32) &&& 31) = 1 := by decide
    have h1 := ih (i - 1) (by omega)
    have e5 : (z_bt t <<< (1 : Int32)).toBitVec = (z_bt t).toBitVec <<< 1 := rfl
    have e6 : ∀ j, 0 < j → (zb a).toBitVec.getLsbD j = false := by
      intro j hj
      cases a
      · simp [zb]
      · simp [zb]; omega
    rw [z_bt, e4, Int32.toBitVec_or, BitVec.getLsbD_or, e5, e6 i (by omega), BitVec.getLsbD_shiftLeft, h1]
    simp
/-- a test of a clause's code, of the letters' numbers -/
def z_tst (ls : Nat → Int32) (m : Nat) : Bool :=
  if m / 100 % 3 = 0 then decide (ls (m / 300) < nI (m % 100)) else if m / 100 % 3 = 1 then decide (ls (m / 300) = nI (m % 100)) else decide (nI (m % 100) < ls (m / 300))
/-- the pile behind n pieces of a code -/
def z_ev (g : Nat → Int32) (ls : Nat → Int32) : Nat → List Bool
  | 0 => []
  | n + 1 => if g n = -1 then (match z_ev g ls n with | a :: t => (!a) :: t | [] => []) else if g n = -2 then (match z_ev g ls n with | a :: b :: t => (b && a) :: t | _ => [])
    else if g n = -3 then (match z_ev g ls n with | a :: b :: t => (b || a) :: t | _ => []) else z_tst ls (g n).toNatClampNeg :: z_ev g ls n
theorem z_dep_ev {g ls : Nat → Int32} : ∀ (n h : Nat), z_dep g n = some h → (z_ev g ls n).length = h := by
  intro n
  induction n with
  | zero => intro h e; rw [z_dep] at e; cases e; rfl
  | succ n ih =>
    intro h e
    rw [z_dep] at e
    split at e
    · cases e
    · rename_i h' e'
      have hl := ih h' e'
      rw [z_ev]
      split at e
      · rename_i c1
        rw [if_pos c1]
        split at e
        · cases e
          match hz : z_ev g ls n, hl with
          | a :: t, hl => simpa using hl
          | [], hl => simp at hl; omega
        · cases e
      · rename_i c1
        rw [if_neg c1]
        split at e
        · rename_i c2
          split at e
          · cases e
            match hz : z_ev g ls n, hl with
            | a :: b :: t, hl => simp at hl; rcases c2 with c2 | c2 <;> simp [c2] <;> omega
            | [_], hl => simp at hl; omega
            | [], hl => simp at hl; omega
          · cases e
        · rename_i c2
          rw [if_neg (fun z => c2 (Or.inl z)), if_neg (fun z => c2 (Or.inr z))]
          split at e
          · cases e; simp [hl]
          · cases e
theorem z_dep_pre {g : Nat → Int32} {n h : Nat} (e : z_dep g n = some h) : ∀ k, k ≤ n → ∃ h', z_dep g k = some h' := by
  induction n generalizing h with
  | zero => intro k hk; exact ⟨h, by rw [show k = 0 by omega]; exact e⟩
  | succ n ih =>
    intro k hk
    by_cases q : k = n + 1
    · subst q; exact ⟨h, e⟩
    · rw [z_dep] at e
      split at e
      · cases e
      · rename_i h' e'
        exact ih e' k (by omega)
/-- what a step of the code finds on the pile and leaves there -/
theorem z_step {g : Nat → Int32} (ls : Nat → Int32) {n k h : Nat} (e : z_dep g n = some h) (hk : k < n) :
    (g k = -1 ∧ ∃ a t, z_ev g ls k = a :: t ∧ z_ev g ls (k + 1) = (!a) :: t ∧ t.length < 31) ∨
    (g k = -2 ∧ ∃ a b t, z_ev g ls k = a :: b :: t ∧ z_ev g ls (k + 1) = (b && a) :: t ∧ t.length < 30) ∨
    (g k = -3 ∧ ∃ a b t, z_ev g ls k = a :: b :: t ∧ z_ev g ls (k + 1) = (b || a) :: t ∧ t.length < 30) ∨
    (∃ m, m < 1800 ∧ g k = nI m ∧ z_ev g ls (k + 1) = z_tst ls m :: z_ev g ls k ∧ (z_ev g ls k).length < 31) := by
  obtain ⟨h2, e2⟩ := z_dep_pre e (k + 1) (by omega)
  obtain ⟨h1, e1⟩ := z_dep_pre e k (by omega)
  have l1 := z_dep_ev (ls := ls) k h1 e1
  have b1 : h1 ≤ 31 := by
    cases k with
    | zero => rw [z_dep] at e1; cases e1; omega
    | succ k =>
      have key : ∀ n h, z_dep g n = some h → h ≤ 31 := by
        intro n
        induction n with
        | zero => intro h e; rw [z_dep] at e; cases e; omega
        | succ n ih =>
          intro h e
          rw [z_dep] at e
          split at e
          · cases e
          · rename_i h' e'
            have := ih h' e'
            split at e
            · split at e <;> cases e; omega
            · split at e
              · split at e <;> cases e; omega
              · split at e
                · cases e; omega
                · cases e
      exact key _ _ e1
  rw [z_dep, e1] at e2
  dsimp only at e2
  by_cases c1 : g k = -1
  · rw [if_pos c1] at e2
    split at e2
    · refine Or.inl ⟨c1, ?_⟩
      match hz : z_ev g ls k, l1 with
      | a :: t, l1 => exact ⟨a, t, rfl, by rw [z_ev, if_pos c1, hz], by simp at l1; omega⟩
      | [], l1 => simp at l1; omega
    · cases e2
  · rw [if_neg c1] at e2
    by_cases c2 : g k = -2
    · rw [if_pos (Or.inl c2)] at e2
      split at e2
      · refine Or.inr (Or.inl ⟨c2, ?_⟩)
        match hz : z_ev g ls k, l1 with
        | a :: b :: t, l1 => exact ⟨a, b, t, rfl, by rw [z_ev, if_neg c1, if_pos c2, hz], by simp at l1; omega⟩
        | [_], l1 => simp at l1; omega
        | [], l1 => simp at l1; omega
      · cases e2
    · by_cases c3 : g k = -3
      · rw [if_pos (Or.inr c3)] at e2
        split at e2
        · refine Or.inr (Or.inr (Or.inl ⟨c3, ?_⟩))
          match hz : z_ev g ls k, l1 with
          | a :: b :: t, l1 => exact ⟨a, b, t, rfl, by rw [z_ev, if_neg c1, if_neg c2, if_pos c3, hz], by simp at l1; omega⟩
          | [_], l1 => simp at l1; omega
          | [], l1 => simp at l1; omega
        · cases e2
      · rw [if_neg (fun z => z.elim c2 c3)] at e2
        split at e2
        · rename_i c4
          refine Or.inr (Or.inr (Or.inr ?_))
          have h0 : ¬ g k < 0 := by
            have := c4.1
            rw [Int32.le_iff_toInt_le] at this
            rw [Int32.lt_iff_toInt_lt]
            omega
          obtain ⟨m, hm, hg⟩ := nI_of h0
          have hm2 : m < 1800 := by
            have := c4.2.1
            rw [Int32.lt_iff_toInt_lt, hg, nI_toInt hm, show (1800 : Int32).toInt = 1800 by decide] at this
            omega
          refine ⟨m, hm2, hg, ?_, by omega⟩
          rw [z_ev, if_neg c1, if_neg c2, if_neg c3, hg, nI_clamp (by omega)]
        · cases e2
/-- the letters of z_tok -/
theorem z_tok_m : ∀ m, m < 1800 → z_tok (nI m) = nI (1000 * (m / 300) + 100 * (m / 100 % 3) + m % 100) := by decide +kernel
theorem zr_F {f : Option Nat} {q : Nat} (h : q < 6) : zg_sh[66 + 5 * q]? = some (0, 1) ∧ (zg_rf f (66 + 5 * q) 2 = some (67 + 5 * q) ∧ zg_sh[67 + 5 * q]? = some (1, 10)) ∧ (zg_rf f (66 + 5 * q) 3 = some (68 + 5 * q) ∧ zg_sh[68 + 5 * q]? = some (1, 10)) ∧ (zg_rf f (66 + 5 * q) 4 = some (69 + 5 * q) ∧ zg_sh[69 + 5 * q]? = some (1, 10)) ∧ (zg_rf f (66 + 5 * q) 5 = some (70 + 5 * q) ∧ zg_sh[70 + 5 * q]? = some (1, 100)) ∧ zg_rf f 46 q = some (66 + 5 * q) := by
  rcases (by omega : q = 0 ∨ q = 1 ∨ q = 2 ∨ q = 3 ∨ q = 4 ∨ q = 5) with h | h | h | h | h | h <;> subst h <;> exact ⟨rfl, ⟨rfl, rfl⟩, ⟨rfl, rfl⟩, ⟨rfl, rfl⟩, ⟨rfl, rfl⟩, rfl⟩
section P29
variable {l : Launch} {D : va_G} {tc : Nat → ClassId} {A : Nat → Prop} {S : zw_S} {gi : Nat → Nat → Int32} {gl : Nat → Nat → Int64} {f : Option Nat}
theorem t_X1_testHolds (d m : Nat) (hm : m < 1800) : zCall l D tc A mX1_testHolds d 0 0 [.int (nI m), .ref 55] (zs gi gl f) (zQi fun r S' => r = zb (z_tst (gi 55) m) ∧ S' = zs gi gl f) := by
  have hd : nI m / 300 = nI (m / 300) := by rw [show (300 : Int32) = nI 300 from rfl, z_div (by omega) (by omega)]
  have hr : nI m - nI m / 100 * 100 = nI (m % 100) := by rw [show (100 : Int32) = nI 100 from rfl, z_rem (by omega) (by omega)]
  have hs : nI m / 100 - nI m / 100 / 3 * 3 = nI (m / 100 % 3) := by rw [show (100 : Int32) = nI 100 from rfl, z_div (by omega) (by omega), show (3 : Int32) = nI 3 from rfl, z_rem (by omega) (by omega)]
  show zW l D tc A mX1_testHolds d 0 0 0 0 0 [some (.int (nI m)), some (.ref 55), none, none] [] (zs gi gl f) _
  refine zx_aload_n (q := 1) dX1_testHolds_0 rfl rfl rfl ?_
  refine zx_iload_n (q := 2) dX1_testHolds_1 rfl rfl rfl ?_
  refine zx_sipush (q := 5) (v := 300) dX1_testHolds_2 (by decide) rfl ?_
  refine zx_idiv (q := 6) dX1_testHolds_5 (by decide) rfl ?_
  rw [hd]
  refine zy_ialdN (q := 7) dX1_testHolds_6 rfl (by omega) (by first | decide | omega) rfl ?_
  refine zx_istore2 (q := 8) dX1_testHolds_7 rfl rfl ?_
  refine zx_iload_n (q := 9) dX1_testHolds_8 rfl rfl rfl ?_
  refine zx_bipush (q := 11) (v := 100) dX1_testHolds_9 (by decide) rfl ?_
  refine zx_irem (q := 12) dX1_testHolds_11 (by decide) rfl ?_
  rw [hr]
  refine zx_istore3 (q := 13) dX1_testHolds_12 rfl rfl ?_
  refine zx_iload_n (q := 14) dX1_testHolds_13 rfl rfl rfl ?_
  refine zx_bipush (q := 16) (v := 100) dX1_testHolds_14 (by decide) rfl ?_
  refine zx_idiv (q := 17) dX1_testHolds_16 (by decide) rfl ?_
  refine zx_iconst (q := 18) (v := 3) dX1_testHolds_17 (by decide) rfl ?_
  refine zx_irem (q := 19) dX1_testHolds_18 (by decide) rfl ?_
  rw [hs]
  refine zx_case (v := 0) (fun c_19_0 => ?_) (fun c_19_0 => ?_)
  · refine zx_lookup (t := 44) (off := 25) dX1_testHolds_19 (by decide) (by rw [c_19_0]; decide) (by decide) ?_
    have e0 : m / 100 % 3 = 0 := by have := (nI_eq (a := m / 100 % 3) (b := 0) (by omega) (by omega)).mp c_19_0; exact this
    refine zx_iload_n (q := 45) dX1_testHolds_44 rfl rfl rfl ?_
    refine zx_iload_n (q := 46) dX1_testHolds_45 rfl rfl rfl ?_
    refine zx_icmp_ge (q := 49) (t := 53) dX1_testHolds_46 (by decide) rfl (fun c_46 => ?_) (fun c_46 => ?_)
    · refine zx_iconst (q := 54) (v := 0) dX1_testHolds_53 (by decide) rfl ?_
      refine zx_zret dX1_testHolds_54 rfl (by first | rfl | exact zb_nar _) (Nat.le_refl _) (Nat.le_refl _) ⟨_, rfl, ?_⟩
      refine ⟨?_, rfl⟩
      unfold z_tst
      first
        | (rw [if_pos e0]; simp [zb, Int32.not_le, Int32.not_lt] at *; simp [*]; done)
        | (rw [if_neg e0, if_pos e1]; simp [zb] at *; simp [*]; done)
        | (rw [if_neg e0, if_neg e1]; simp [zb, Int32.not_le, Int32.not_lt] at *; simp [*]; done)
    · refine zx_iconst (q := 50) (v := 1) dX1_testHolds_49 (by decide) rfl ?_
      refine zx_goto (t := 54) dX1_testHolds_50 (by decide) ?_
      refine zx_zret dX1_testHolds_54 rfl (by first | rfl | exact zb_nar _) (Nat.le_refl _) (Nat.le_refl _) ⟨_, rfl, ?_⟩
      refine ⟨?_, rfl⟩
      unfold z_tst
      first
        | (rw [if_pos e0]; simp [zb, Int32.not_le, Int32.not_lt] at *; simp [*]; done)
        | (rw [if_neg e0, if_pos e1]; simp [zb] at *; simp [*]; done)
        | (rw [if_neg e0, if_neg e1]; simp [zb, Int32.not_le, Int32.not_lt] at *; simp [*]; done)
  refine zx_case (v := 1) (fun c_19_1 => ?_) (fun c_19_1 => ?_)
  · refine zx_lookup (t := 55) (off := 36) dX1_testHolds_19 (by decide) (by rw [c_19_1]; decide) (by decide) ?_
    have e0 : ¬ m / 100 % 3 = 0 := fun z => c_19_0 (by rw [z]; rfl)
    have e1 : m / 100 % 3 = 1 := by have := (nI_eq (a := m / 100 % 3) (b := 1) (by omega) (by omega)).mp c_19_1; exact this
    refine zx_iload_n (q := 56) dX1_testHolds_55 rfl rfl rfl ?_
    refine zx_iload_n (q := 57) dX1_testHolds_56 rfl rfl rfl ?_
    refine zx_icmp_ne (q := 60) (t := 64) dX1_testHolds_57 (by decide) rfl (fun c_57 => ?_) (fun c_57 => ?_)
    · refine zx_iconst (q := 65) (v := 0) dX1_testHolds_64 (by decide) rfl ?_
      refine zx_zret dX1_testHolds_65 rfl (by first | rfl | exact zb_nar _) (Nat.le_refl _) (Nat.le_refl _) ⟨_, rfl, ?_⟩
      refine ⟨?_, rfl⟩
      unfold z_tst
      first
        | (rw [if_pos e0]; simp [zb, Int32.not_le, Int32.not_lt] at *; simp [*]; done)
        | (rw [if_neg e0, if_pos e1]; simp [zb] at *; simp [*]; done)
        | (rw [if_neg e0, if_neg e1]; simp [zb, Int32.not_le, Int32.not_lt] at *; simp [*]; done)
    · refine zx_iconst (q := 61) (v := 1) dX1_testHolds_60 (by decide) rfl ?_
      refine zx_goto (t := 65) dX1_testHolds_61 (by decide) ?_
      refine zx_zret dX1_testHolds_65 rfl (by first | rfl | exact zb_nar _) (Nat.le_refl _) (Nat.le_refl _) ⟨_, rfl, ?_⟩
      refine ⟨?_, rfl⟩
      unfold z_tst
      first
        | (rw [if_pos e0]; simp [zb, Int32.not_le, Int32.not_lt] at *; simp [*]; done)
        | (rw [if_neg e0, if_pos e1]; simp [zb] at *; simp [*]; done)
        | (rw [if_neg e0, if_neg e1]; simp [zb, Int32.not_le, Int32.not_lt] at *; simp [*]; done)
  refine zx_lookup (t := 66) (off := 47) dX1_testHolds_19 (by decide) (by show Op.lookupswitch.offset _ _ _ = _; rw [lv_osw c_19_0 (by decide)]; rw [lv_osw c_19_1 (by decide)]; rfl) (by decide) ?_
  have e0 : ¬ m / 100 % 3 = 0 := fun z => c_19_0 (by rw [z]; rfl)
  have e1 : ¬ m / 100 % 3 = 1 := fun z => c_19_1 (by rw [z]; rfl)
  refine zx_iload_n (q := 67) dX1_testHolds_66 rfl rfl rfl ?_
  refine zx_iload_n (q := 68) dX1_testHolds_67 rfl rfl rfl ?_
  refine zx_icmp_le (q := 71) (t := 75) dX1_testHolds_68 (by decide) rfl (fun c_68 => ?_) (fun c_68 => ?_)
  · refine zx_iconst (q := 76) (v := 0) dX1_testHolds_75 (by decide) rfl ?_
    refine zx_zret dX1_testHolds_76 rfl (by first | rfl | exact zb_nar _) (Nat.le_refl _) (Nat.le_refl _) ⟨_, rfl, ?_⟩
    refine ⟨?_, rfl⟩
    unfold z_tst
    first
      | (rw [if_pos e0]; simp [zb, Int32.not_le, Int32.not_lt] at *; simp [*]; done)
      | (rw [if_neg e0, if_pos e1]; simp [zb] at *; simp [*]; done)
      | (rw [if_neg e0, if_neg e1]; simp [zb, Int32.not_le, Int32.not_lt] at *; simp [*]; done)
  · refine zx_iconst (q := 72) (v := 1) dX1_testHolds_71 (by decide) rfl ?_
    refine zx_goto (t := 76) dX1_testHolds_72 (by decide) ?_
    refine zx_zret dX1_testHolds_76 rfl (by first | rfl | exact zb_nar _) (Nat.le_refl _) (Nat.le_refl _) ⟨_, rfl, ?_⟩
    refine ⟨?_, rfl⟩
    unfold z_tst
    first
      | (rw [if_pos e0]; simp [zb, Int32.not_le, Int32.not_lt] at *; simp [*]; done)
      | (rw [if_neg e0, if_pos e1]; simp [zb] at *; simp [*]; done)
      | (rw [if_neg e0, if_neg e1]; simp [zb, Int32.not_le, Int32.not_lt] at *; simp [*]; done)
theorem lp_X1_holds (d q c a e : Nat) {h : Nat} (hq : q < 6) (hc : c < 10) (hae : a ≤ e) (he100 : e ≤ 100) (he : gi (69 + 5 * q) c = nI e) (hd : z_dep (fun k => gi (70 + 5 * q) (a + k)) (e - a) = some h) : ∀ (n k : Nat) (x : Int32) (w : Option Value), k + n = e - a → x = z_bt (z_ev (fun k => gi (70 + 5 * q) (a + k)) (gi 55) k) → zW l D tc A mX1_holds (d + 1) 0 0 0 0 20 [some (.ref (66 + 5 * q)), some (.int (nI c)), some (.ref 55), some (.int x), some (.int (nI (a + k))), w] [] (zs gi gl f) (zQi fun r S' => r = zb ((z_ev (fun k => gi (70 + 5 * q) (a + k)) (gi 55) (e - a)).headD false) ∧ S' = zs gi gl f) := by
  intro n
  induction n using Nat.strongRecOn with
  | _ n ih =>
  intro k x w hk hx
  by_cases hn : n = 0
  · refine zx_iload (q := 22) dX1_holds_20 rfl rfl ?_
    refine zx_aload_n (q := 23) dX1_holds_22 rfl rfl rfl ?_
    refine zy_getR (q := 26) dX1_holds_23 fl_RX1_18 rfl (zr_F (f := f) hq).1 (zr_F hq).2.2.2.1.1 rfl ?_
    refine zx_iload_n (q := 27) dX1_holds_26 rfl rfl rfl ?_
    refine zy_ialdN (q := 28) dX1_holds_27 (zr_F (f := f) hq).2.2.2.1.2 (by omega) (by first | decide | omega) rfl ?_
    rw [he]
    refine zx_icmp_ge_t (t := 128) (q := 31) dX1_holds_28 (by decide) rfl (nI_le (by omega) (by omega)) ?_
    refine zx_iload_n (q := 129) dX1_holds_128 rfl rfl rfl ?_
    refine zx_iconst (q := 130) (v := 1) dX1_holds_129 (by decide) rfl ?_
    refine zx_iand (q := 131) dX1_holds_130 rfl ?_
    refine zx_iconst (q := 132) (v := 1) dX1_holds_131 (by decide) rfl ?_
    refine zx_icmp_ne (q := 135) (t := 139) dX1_holds_132 (by decide) rfl (fun c_132 => ?_) (fun c_132 => ?_)
    · refine zx_iconst (q := 140) (v := 0) dX1_holds_139 (by decide) rfl ?_
      refine zx_zret dX1_holds_140 rfl (by first | rfl | exact zb_nar _) (Nat.le_refl _) (Nat.le_refl _) ⟨_, rfl, ?_⟩
      refine ⟨?_, rfl⟩
      rw [show e - a = k by omega]
      rw [hx] at c_132
      match hz : z_ev (fun k => gi (70 + 5 * q) (a + k)) (gi 55) k with
      | [] => rw [hz] at c_132; simp [z_bt, zb] at c_132 ⊢
      | b :: t => rw [hz, z_bt, zc_top] at c_132; cases b <;> simp [zb] at c_132 ⊢
    · refine zx_iconst (q := 136) (v := 1) dX1_holds_135 (by decide) rfl ?_
      refine zx_goto (t := 140) dX1_holds_136 (by decide) ?_
      refine zx_zret dX1_holds_140 rfl (by first | rfl | exact zb_nar _) (Nat.le_refl _) (Nat.le_refl _) ⟨_, rfl, ?_⟩
      refine ⟨?_, rfl⟩
      rw [show e - a = k by omega]
      rw [hx] at c_132
      match hz : z_ev (fun k => gi (70 + 5 * q) (a + k)) (gi 55) k with
      | [] => rw [hz] at c_132; simp [z_bt, zb] at c_132 ⊢
      | b :: t => rw [hz, z_bt, zc_top] at c_132; cases b <;> simp [zb] at c_132 ⊢
  · refine zx_iload (q := 22) dX1_holds_20 rfl rfl ?_
    refine zx_aload_n (q := 23) dX1_holds_22 rfl rfl rfl ?_
    refine zy_getR (q := 26) dX1_holds_23 fl_RX1_18 rfl (zr_F (f := f) hq).1 (zr_F hq).2.2.2.1.1 rfl ?_
    refine zx_iload_n (q := 27) dX1_holds_26 rfl rfl rfl ?_
    refine zy_ialdN (q := 28) dX1_holds_27 (zr_F (f := f) hq).2.2.2.1.2 (by omega) (by first | decide | omega) rfl ?_
    rw [he]
    refine zx_icmp_ge_f (t := 128) (q := 31) dX1_holds_28 (by decide) rfl (nI_ge (by omega) (by omega)) ?_
    refine zx_iload_n (q := 32) dX1_holds_31 rfl rfl rfl ?_
    refine zx_iconst (q := 33) (v := 1) dX1_holds_32 (by decide) rfl ?_
    refine zx_iand (q := 34) dX1_holds_33 rfl ?_
    refine zx_istore5 (q := 36) dX1_holds_34 rfl rfl ?_
    refine zx_aload_n (q := 37) dX1_holds_36 rfl rfl rfl ?_
    refine zy_getR (q := 40) dX1_holds_37 fl_RX1_21 rfl (zr_F (f := f) hq).1 (zr_F hq).2.2.2.2.1.1 rfl ?_
    refine zx_iload (q := 42) dX1_holds_40 rfl rfl ?_
    refine zy_ialdN (q := 43) dX1_holds_42 (zr_F (f := f) hq).2.2.2.2.1.2 (by omega) (by first | decide | omega) rfl ?_
    have hs := z_step (gi 55) hd (k := k) (by omega)
    rcases hs with ⟨e1, b0, t, e2, e3, e4⟩ | ⟨e1, b0, b1, t, e2, e3, e4⟩ | ⟨e1, b0, b1, t, e2, e3, e4⟩ | ⟨m, hm, e1, e3, e4⟩
    · rw [show gi (70 + 5 * q) (a + k) = -1 from e1]
      refine zx_tblIn (t := 68) (off := 25) dX1_holds_43 (by decide) (by decide) (by rfl) (by decide) ?_
      refine zx_iload_n (q := 69) dX1_holds_68 rfl rfl rfl ?_
      refine zx_iconst (q := 70) (v := 1) dX1_holds_69 (by decide) rfl ?_
      refine zx_ixor (q := 71) dX1_holds_70 rfl ?_
      refine zx_istore3 (q := 72) dX1_holds_71 rfl rfl ?_
      refine zx_goto (t := 122) dX1_holds_72 (by decide) ?_
      refine zx_iinc4 (q := 125) dX1_holds_122 rfl rfl ?_
      refine zx_goto (t := 20) dX1_holds_125 (by decide) ?_
      rw [z_inc, show a + k + 1 = a + (k + 1) by omega]
      exact ih (n - 1) (by omega) (k + 1) _ _ (by omega) (by rw [e3, hx, e2, z_bt, zc_not]; rfl)
    · rw [show gi (70 + 5 * q) (a + k) = -2 from e1]
      refine zx_tblIn (t := 75) (off := 32) dX1_holds_43 (by decide) (by decide) (by rfl) (by decide) ?_
      refine zx_iload_n (q := 76) dX1_holds_75 rfl rfl rfl ?_
      refine zx_iconst (q := 77) (v := 1) dX1_holds_76 (by decide) rfl ?_
      refine zx_iushr (q := 78) dX1_holds_77 rfl rfl ?_
      refine zx_iload (q := 80) dX1_holds_78 rfl rfl ?_
      refine zx_bipush (q := 82) (v := (-2)) dX1_holds_80 (by decide) rfl ?_
      refine zx_ior (q := 83) dX1_holds_82 rfl ?_
      refine zx_iand (q := 84) dX1_holds_83 rfl ?_
      refine zx_istore3 (q := 85) dX1_holds_84 rfl rfl ?_
      refine zx_goto (t := 122) dX1_holds_85 (by decide) ?_
      refine zx_iinc4 (q := 125) dX1_holds_122 rfl rfl ?_
      refine zx_goto (t := 20) dX1_holds_125 (by decide) ?_
      rw [z_inc, show a + k + 1 = a + (k + 1) by omega]
      exact ih (n - 1) (by omega) (k + 1) _ _ (by omega) (by rw [e3, hx, e2, z_bt, zc_top, zc_shr _ _ (z_bt_hi _ _ (by simp; omega)), z_bt, zc_and]; rfl)
    · rw [show gi (70 + 5 * q) (a + k) = -3 from e1]
      refine zx_tblIn (t := 88) (off := 45) dX1_holds_43 (by decide) (by decide) (by rfl) (by decide) ?_
      refine zx_iload_n (q := 89) dX1_holds_88 rfl rfl rfl ?_
      refine zx_iconst (q := 90) (v := 1) dX1_holds_89 (by decide) rfl ?_
      refine zx_iushr (q := 91) dX1_holds_90 rfl rfl ?_
      refine zx_iload (q := 93) dX1_holds_91 rfl rfl ?_
      refine zx_ior (q := 94) dX1_holds_93 rfl ?_
      refine zx_istore3 (q := 95) dX1_holds_94 rfl rfl ?_
      refine zx_goto (t := 122) dX1_holds_95 (by decide) ?_
      refine zx_iinc4 (q := 125) dX1_holds_122 rfl rfl ?_
      refine zx_goto (t := 20) dX1_holds_125 (by decide) ?_
      rw [z_inc, show a + k + 1 = a + (k + 1) by omega]
      exact ih (n - 1) (by omega) (k + 1) _ _ (by omega) (by rw [e3, hx, e2, z_bt, zc_top, zc_shr _ _ (z_bt_hi _ _ (by simp; omega)), z_bt, zc_or]; rfl)
    · rw [show gi (70 + 5 * q) (a + k) = nI m from e1]
      have n1 : ¬ nI m = -1 := fun z => by have := congrArg Int32.toInt z; rw [nI_toInt (by omega), show (-1 : Int32).toInt = -1 by decide] at this; omega
      have n2 : ¬ nI m = -2 := fun z => by have := congrArg Int32.toInt z; rw [nI_toInt (by omega), show (-2 : Int32).toInt = -2 by decide] at this; omega
      have n3 : ¬ nI m = -3 := fun z => by have := congrArg Int32.toInt z; rw [nI_toInt (by omega), show (-3 : Int32).toInt = -3 by decide] at this; omega
      refine zx_tblOut (t := 98) dX1_holds_43 (by have z0 := lv_neT (a := (-3)) n3 (by decide); have z1 := lv_neT (a := (-2)) n2 (by decide); have z2 := lv_neT (a := (-1)) n1 (by decide); omega) (by decide) ?_
      refine zx_iload_n (q := 99) dX1_holds_98 rfl rfl rfl ?_
      refine zx_iconst (q := 100) (v := 1) dX1_holds_99 (by decide) rfl ?_
      refine zx_ishl (q := 101) dX1_holds_100 rfl ?_
      refine zx_aload_n (q := 102) dX1_holds_101 rfl rfl rfl ?_
      refine zy_getR (q := 105) dX1_holds_102 fl_RX1_21 rfl (zr_F (f := f) hq).1 (zr_F hq).2.2.2.2.1.1 rfl ?_
      refine zx_iload (q := 107) dX1_holds_105 rfl rfl ?_
      refine zy_ialdN (q := 108) dX1_holds_107 (zr_F (f := f) hq).2.2.2.2.1.2 (by omega) (by first | decide | omega) rfl ?_
      rw [show gi (70 + 5 * q) (a + k) = nI m from e1]
      refine zx_aload_n (q := 109) dX1_holds_108 rfl rfl rfl ?_
      refine zx_callS2i (q := 112) (y' := mX1_testHolds) dX1_holds_109 ml_RX1_41 ok_mX1_testHolds (Nat.le_of_ble_eq_true rfl) (Nat.le_of_ble_eq_true rfl) (Nat.le_refl _) (Nat.le_refl _) rfl (t_X1_testHolds _ m hm) ?_
      rintro _ _ ⟨rfl, rfl⟩
      refine zx_if_eq (q := 115) (t := 119) dX1_holds_112 (by decide) rfl (fun c_112 => ?_) (fun c_112 => ?_)
      · refine zx_iconst (q := 120) (v := 0) dX1_holds_119 (by decide) rfl ?_
        refine zx_ior (q := 121) dX1_holds_120 rfl ?_
        refine zx_istore3 (q := 122) dX1_holds_121 rfl rfl ?_
        refine zx_iinc4 (q := 125) dX1_holds_122 rfl rfl ?_
        refine zx_goto (t := 20) dX1_holds_125 (by decide) ?_
        rw [z_inc, show a + k + 1 = a + (k + 1) by omega]
        exact ih (n - 1) (by omega) (k + 1) _ _ (by omega) (by rw [e3, hx]; cases hb : z_tst (gi 55) m <;> simp [hb, zb] at c_112 <;> rfl)
      · refine zx_iconst (q := 116) (v := 1) dX1_holds_115 (by decide) rfl ?_
        refine zx_goto (t := 120) dX1_holds_116 (by decide) ?_
        refine zx_ior (q := 121) dX1_holds_120 rfl ?_
        refine zx_istore3 (q := 122) dX1_holds_121 rfl rfl ?_
        refine zx_iinc4 (q := 125) dX1_holds_122 rfl rfl ?_
        refine zx_goto (t := 20) dX1_holds_125 (by decide) ?_
        rw [z_inc, show a + k + 1 = a + (k + 1) by omega]
        exact ih (n - 1) (by omega) (k + 1) _ _ (by omega) (by rw [e3, hx]; cases hb : z_tst (gi 55) m <;> simp [hb, zb] at c_112 <;> rfl)
theorem t_X1_holds (d q c a e : Nat) {h : Nat} (hq : q < 6) (hc : c < 10) (hae : a ≤ e) (he100 : e ≤ 100) (he : gi (69 + 5 * q) c = nI e) (hd : z_dep (fun k => gi (70 + 5 * q) (a + k)) (e - a) = some h) (ha0 : c = 0 → a = 0) (ha1 : ∀ c', c = c' + 1 → gi (69 + 5 * q) c' = nI a) : zCall l D tc A mX1_holds (d + 1) 0 0 [.ref (66 + 5 * q), .int (nI c), .ref 55] (zs gi gl f) (zQi fun r S' => r = zb ((z_ev (fun k => gi (70 + 5 * q) (a + k)) (gi 55) (e - a)).headD false) ∧ S' = zs gi gl f) := by
  show zW l D tc A mX1_holds (d + 1) 0 0 0 0 0 [some (.ref (66 + 5 * q)), some (.int (nI c)), some (.ref 55), none, none, none] [] (zs gi gl f) _
  rcases Nat.eq_zero_or_pos c with h0 | h0
  · subst h0
    have h1 := ha0 rfl
    subst h1
    refine zx_iconst (q := 1) (v := 0) dX1_holds_0 (by decide) rfl ?_
    refine zx_istore3 (q := 2) dX1_holds_1 rfl rfl ?_
    refine zx_iload_n (q := 3) dX1_holds_2 rfl rfl rfl ?_
    refine zx_if_ne_f (t := 10) (q := 6) dX1_holds_3 (by decide) rfl (rfl) ?_
    refine zx_iconst (q := 7) (v := 0) dX1_holds_6 (by decide) rfl ?_
    refine zx_goto (t := 18) dX1_holds_7 (by decide) ?_
    refine zx_istore4 (q := 20) dX1_holds_18 rfl rfl ?_
    exact lp_X1_holds d q _ _ e hq hc hae he100 he hd (e - 0) 0 0 none (by omega) rfl
  · obtain ⟨c', rfl⟩ : ∃ c', c = c' + 1 := ⟨c - 1, by omega⟩
    refine zx_iconst (q := 1) (v := 0) dX1_holds_0 (by decide) rfl ?_
    refine zx_istore3 (q := 2) dX1_holds_1 rfl rfl ?_
    refine zx_iload_n (q := 3) dX1_holds_2 rfl rfl rfl ?_
    refine zx_if_ne_t (t := 10) (q := 6) dX1_holds_3 (by decide) rfl (fun z => by rw [show (0 : Int32) = nI 0 from rfl, nI_eq (by omega) (by omega)] at z; omega) ?_
    refine zx_aload_n (q := 11) dX1_holds_10 rfl rfl rfl ?_
    refine zy_getR (q := 14) dX1_holds_11 fl_RX1_18 rfl (zr_F (f := f) hq).1 (zr_F hq).2.2.2.1.1 rfl ?_
    refine zx_iload_n (q := 15) dX1_holds_14 rfl rfl rfl ?_
    refine zx_iconst (q := 16) (v := 1) dX1_holds_15 (by decide) rfl ?_
    refine zx_isub (q := 17) dX1_holds_16 rfl ?_
    rw [nI_pred]
    refine zy_ialdN (q := 18) dX1_holds_17 (zr_F (f := f) hq).2.2.2.1.2 (by omega) (by first | decide | omega) rfl ?_
    rw [ha1 _ rfl]
    refine zx_istore4 (q := 20) dX1_holds_18 rfl rfl ?_
    exact lp_X1_holds d q _ a e hq hc hae he100 he hd (e - a) 0 0 none (by omega) rfl
theorem zy_zaldN {y : zw_M} {d mc ms k n pc q : Nat} {L : List (Option Value)} {st : List Value} {Q : Option Value → zw_S → Prop} {b w i : Nat} (hd : decode y.2.1 pc = .ok (.baload, 1)) (hsh : zg_sh[b]? = some (3, w)) (hi : i < w) (hw : w < 2 ^ 31) (hq : pc + 1 = q) (kk : zW l D tc A y d mc ms k n q L (.int (gi b i) :: st) (zs gi gl f) Q) : zW l D tc A y d mc ms k n pc L (.int (nI i) :: .ref b :: st) (zs gi gl f) Q :=
  zy_zald hd hsh (vp_in_nI hi hw) hq (by rw [nI_clamp (by omega)]; exact kk)
theorem zy_zastN {y : zw_M} {d mc ms k n pc q : Nat} {L : List (Option Value)} {st : List Value} {Q : Option Value → zw_S → Prop} {b w i : Nat} {x : Int32} (hd : decode y.2.1 pc = .ok (.bastore, 1)) (hsh : zg_sh[b]? = some (3, w)) (hi : i < w) (hw : w < 2 ^ 31) (hq : pc + 1 = q) (kk : zW l D tc A y d mc ms k n q L st (zs (zw_u gi b i (vp_nar .boolean x)) gl f) Q) : zW l D tc A y d mc ms k n pc L (.int x :: .int (nI i) :: .ref b :: st) (zs gi gl f) Q :=
  zy_zast hd hsh (vp_in_nI hi hw) hq (by rw [nI_clamp (by omega)]; exact kk)
theorem z_dec (n : Nat) : nI (n + 1) + Int32.ofInt (-1) = nI n := by
  have := nI_pred n
  rw [Int32.sub_eq_add_neg] at this
  exact this
/-- the letters, as the reference has them -/
def z_lm (gi : Nat → Nat → Int32) (s : Nat) (h : Int32) : Nat → Int32 := fun j => if j = 0 then nI s else if j = 1 then gi 109 s else if j = 2 then gi 110 s else if j = 3 then gi 111 (3 * s) else if j = 4 then gi 108 1 else h
/-- the pile lies in an array -/
def z_pl (p : Nat → Int32) : List Bool → Prop
  | [] => True
  | a :: t => p t.length = zb a ∧ z_pl p t
theorem z_pl_congr {p p' : Nat → Int32} : ∀ (t : List Bool), (∀ i, i < t.length → p' i = p i) → z_pl p t → z_pl p' t := by
  intro t
  induction t with
  | nil => intro _ _; trivial
  | cons a t ih => intro e h; exact ⟨by rw [e _ (by simp)]; exact h.1, ih (fun i hi => e i (by simp; omega)) h.2⟩
theorem t_X8_factOf (d j s : Nat) (h : Int32) (hj : j < 6) (hs : s < 5) : zCall l D tc A mX8_factOf d 0 0 [.ref 108, .int (nI j), .int (nI s), .int h] (zs gi gl f) (zQi fun r S' => r = z_lm gi s h j ∧ S' = zs gi gl f) := by
  rcases (by omega : j = 0 ∨ j = 1 ∨ j = 2 ∨ j = 3 ∨ j = 4 ∨ j = 5) with h | h | h | h | h | h <;> subst h
  · show zW l D tc A mX8_factOf d 0 0 0 0 0 [some (.ref 108), some (.int (nI 0)), some (.int (nI s)), some (.int h)] [] (zs gi gl f) _
    refine zx_iload_n (q := 1) dX8_factOf_0 rfl rfl rfl ?_
    refine zx_tblIn (t := 36) (off := 35) dX8_factOf_1 (by decide) (by decide) (by rfl) (by decide) ?_
    refine zx_iload_n (q := 37) dX8_factOf_36 rfl rfl rfl ?_
    refine zx_iret dX8_factOf_37 rfl (Nat.le_refl _) (Nat.le_refl _) ⟨_, rfl, ?_⟩
    exact ⟨rfl, rfl⟩
  · show zW l D tc A mX8_factOf d 0 0 0 0 0 [some (.ref 108), some (.int (nI 1)), some (.int (nI s)), some (.int h)] [] (zs gi gl f) _
    refine zx_iload_n (q := 1) dX8_factOf_0 rfl rfl rfl ?_
    refine zx_tblIn (t := 38) (off := 37) dX8_factOf_1 (by decide) (by decide) (by rfl) (by decide) ?_
    refine zx_aload_n (q := 39) dX8_factOf_38 rfl rfl rfl ?_
    refine zy_getR (q := 42) dX8_factOf_39 fl_RX8_16 rfl rfl rfl rfl ?_
    refine zx_iload_n (q := 43) dX8_factOf_42 rfl rfl rfl ?_
    refine zy_ialdN (q := 44) dX8_factOf_43 rfl (by omega) (by first | decide | omega) rfl ?_
    refine zx_iret dX8_factOf_44 rfl (Nat.le_refl _) (Nat.le_refl _) ⟨_, rfl, ?_⟩
    exact ⟨rfl, rfl⟩
  · show zW l D tc A mX8_factOf d 0 0 0 0 0 [some (.ref 108), some (.int (nI 2)), some (.int (nI s)), some (.int h)] [] (zs gi gl f) _
    refine zx_iload_n (q := 1) dX8_factOf_0 rfl rfl rfl ?_
    refine zx_tblIn (t := 45) (off := 44) dX8_factOf_1 (by decide) (by decide) (by rfl) (by decide) ?_
    refine zx_aload_n (q := 46) dX8_factOf_45 rfl rfl rfl ?_
    refine zy_getR (q := 49) dX8_factOf_46 fl_RX8_20 rfl rfl rfl rfl ?_
    refine zx_iload_n (q := 50) dX8_factOf_49 rfl rfl rfl ?_
    refine zy_ialdN (q := 51) dX8_factOf_50 rfl (by omega) (by first | decide | omega) rfl ?_
    refine zx_iret dX8_factOf_51 rfl (Nat.le_refl _) (Nat.le_refl _) ⟨_, rfl, ?_⟩
    exact ⟨rfl, rfl⟩
  · show zW l D tc A mX8_factOf d 0 0 0 0 0 [some (.ref 108), some (.int (nI 3)), some (.int (nI s)), some (.int h)] [] (zs gi gl f) _
    refine zx_iload_n (q := 1) dX8_factOf_0 rfl rfl rfl ?_
    refine zx_tblIn (t := 52) (off := 51) dX8_factOf_1 (by decide) (by decide) (by rfl) (by decide) ?_
    refine zx_aload_n (q := 53) dX8_factOf_52 rfl rfl rfl ?_
    refine zy_getR (q := 56) dX8_factOf_53 fl_RX8_23 rfl rfl rfl rfl ?_
    refine zx_iconst (q := 57) (v := 3) dX8_factOf_56 (by decide) rfl ?_
    refine zx_iload_n (q := 58) dX8_factOf_57 rfl rfl rfl ?_
    refine zx_imul (q := 59) dX8_factOf_58 rfl ?_
    rw [show (3 : Int32) * nI s = nI (3 * s) from by rw [show (3 : Int32) = nI 3 from rfl, z_mul]]
    refine zy_ialdN (q := 60) dX8_factOf_59 rfl (by omega) (by first | decide | omega) rfl ?_
    refine zx_iret dX8_factOf_60 rfl (Nat.le_refl _) (Nat.le_refl _) ⟨_, rfl, ?_⟩
    exact ⟨rfl, rfl⟩
  · show zW l D tc A mX8_factOf d 0 0 0 0 0 [some (.ref 108), some (.int (nI 4)), some (.int (nI s)), some (.int h)] [] (zs gi gl f) _
    refine zx_iload_n (q := 1) dX8_factOf_0 rfl rfl rfl ?_
    refine zx_tblIn (t := 61) (off := 60) dX8_factOf_1 (by decide) (by decide) (by rfl) (by decide) ?_
    refine zx_aload_n (q := 62) dX8_factOf_61 rfl rfl rfl ?_
    refine zy_getI (q := 65) dX8_factOf_62 fl_RX8_13 rfl rfl rfl ?_
    refine zx_iret dX8_factOf_65 rfl (Nat.le_refl _) (Nat.le_refl _) ⟨_, rfl, ?_⟩
    exact ⟨rfl, rfl⟩
  · show zW l D tc A mX8_factOf d 0 0 0 0 0 [some (.ref 108), some (.int (nI 5)), some (.int (nI s)), some (.int h)] [] (zs gi gl f) _
    refine zx_iload_n (q := 1) dX8_factOf_0 rfl rfl rfl ?_
    refine zx_tblOut (t := 66) dX8_factOf_1 (by have z0 := lv_neT (a := 0) (show ¬ nI 5 = 0 by decide) (by decide); have z1 := lv_neT (a := 1) (show ¬ nI 5 = 1 by decide) (by decide); have z2 := lv_neT (a := 2) (show ¬ nI 5 = 2 by decide) (by decide); have z3 := lv_neT (a := 3) (show ¬ nI 5 = 3 by decide) (by decide); have z4 := lv_neT (a := 4) (show ¬ nI 5 = 4 by decide) (by decide); omega) (by decide) ?_
    refine zx_iload_n (q := 67) dX8_factOf_66 rfl rfl rfl ?_
    refine zx_iret dX8_factOf_67 rfl (Nat.le_refl _) (Nat.le_refl _) ⟨_, rfl, ?_⟩
    exact ⟨rfl, rfl⟩
theorem lp_X8_holds (d C s n fr : Nat) (h : Int32) (g : Nat → Int32) (hC : C < 60) (hs : s < 5) (hfr : gi 121 C = nI fr) (hto : gi 122 C = nI (fr + n)) (h600 : fr + n ≤ 600) (htk : ∀ k, k < n → gi 123 (fr + k) = z_tok (g k)) (hd : z_dep g n = some 1) : ∀ (N k : Nat) (g' : Nat → Nat → Int32) (w1 w2 w3 : Option Value), k + N = n → (∀ k j, ¬ k = 126 → g' k j = gi k j) → z_pl (g' 126) (z_ev g (z_lm gi s h) k) → zW l D tc A mX8_holds (d + 1) 0 0 0 0 11 [some (.ref 108), some (.int (nI C)), some (.int (nI s)), some (.int h), some (.int (nI (z_ev g (z_lm gi s h) k).length)), some (.int (nI (fr + k))), w1, w2, w3] [] (zs g' gl f) (zQi fun r S' => r = zb ((z_ev g (z_lm gi s h) n).headD false) ∧ ∃ g', S' = zs g' gl f ∧ ∀ k j, ¬ k = 126 → g' k j = gi k j) := by
  intro N
  induction N using Nat.strongRecOn with
  | _ N ih =>
  intro k g' w1 w2 w3 hk g1 hpl
  have hlm : z_lm g' s h = z_lm gi s h := by funext j; simp only [z_lm, g1 109 _ (by decide), g1 110 _ (by decide), g1 111 _ (by decide), g1 108 _ (by decide)]
  by_cases hn : N = 0
  · refine zx_iload (q := 13) dX8_holds_11 rfl rfl ?_
    refine zx_aload_n (q := 14) dX8_holds_13 rfl rfl rfl ?_
    refine zy_getR (q := 17) dX8_holds_14 fl_RX8_71 rfl rfl rfl rfl ?_
    refine zx_iload_n (q := 18) dX8_holds_17 rfl rfl rfl ?_
    refine zy_ialdN (q := 19) dX8_holds_18 rfl (by omega) (by first | decide | omega) rfl ?_
    rw [g1 _ _ (by decide), hto]
    refine zx_icmp_ge_t (t := 253) (q := 22) dX8_holds_19 (by decide) rfl (nI_le (by omega) (by omega)) ?_
    refine zx_aload_n (q := 254) dX8_holds_253 rfl rfl rfl ?_
    refine zy_getR (q := 257) dX8_holds_254 fl_RX8_92 rfl rfl rfl rfl ?_
    refine zx_iconst (q := 258) (v := 0) dX8_holds_257 (by decide) rfl ?_
    refine zy_zald (q := 259) dX8_holds_258 rfl (vp_in_nI (n := 0) (by decide) (by decide)) rfl ?_
    rw [show k = n by omega] at hpl
    have hl := z_dep_ev (ls := z_lm gi s h) n 1 hd
    have hp : g' 126 (Int32.toNatClampNeg 0) = zb ((z_ev g (z_lm gi s h) n).headD false) := by
      match hz : z_ev g (z_lm gi s h) n, hl with
      | [a], _ => rw [hz] at hpl; exact hpl.1
      | [], hl => simp at hl
      | _ :: _ :: _, hl => simp at hl
    rw [hp]
    refine zx_zret dX8_holds_259 rfl (by first | rfl | exact zb_nar _) (Nat.le_refl _) (Nat.le_refl _) ⟨_, rfl, ?_⟩
    exact ⟨rfl, g', rfl, g1⟩
  · refine zx_iload (q := 13) dX8_holds_11 rfl rfl ?_
    refine zx_aload_n (q := 14) dX8_holds_13 rfl rfl rfl ?_
    refine zy_getR (q := 17) dX8_holds_14 fl_RX8_71 rfl rfl rfl rfl ?_
    refine zx_iload_n (q := 18) dX8_holds_17 rfl rfl rfl ?_
    refine zy_ialdN (q := 19) dX8_holds_18 rfl (by omega) (by first | decide | omega) rfl ?_
    rw [g1 _ _ (by decide), hto]
    refine zx_icmp_ge_f (t := 253) (q := 22) dX8_holds_19 (by decide) rfl (nI_ge (by omega) (by omega)) ?_
    refine zx_aload_n (q := 23) dX8_holds_22 rfl rfl rfl ?_
    refine zy_getR (q := 26) dX8_holds_23 fl_RX8_74 rfl rfl rfl rfl ?_
    refine zx_iload (q := 28) dX8_holds_26 rfl rfl ?_
    refine zy_ialdN (q := 29) dX8_holds_28 rfl (by omega) (by first | decide | omega) rfl ?_
    refine zx_istore6 (q := 31) dX8_holds_29 rfl rfl ?_
    rw [g1 _ _ (by decide), htk k (by omega)]
    have hs0 := z_step (z_lm gi s h) hd (k := k) (by omega)
    rcases hs0 with ⟨e1, b0, t, e2, e3, e4⟩ | ⟨e1, b0, b1, t, e2, e3, e4⟩ | ⟨e1, b0, b1, t, e2, e3, e4⟩ | ⟨m, hm, e1, e3, e4⟩
    · rw [e2] at hpl ⊢
      rw [e1, show z_tok (-1) = -33 from by decide]
      simp only [List.length_cons] at *
      refine zx_iload (q := 33) dX8_holds_31 rfl rfl ?_
      refine zx_bipush (q := 35) (v := (-33)) dX8_holds_33 (by decide) rfl ?_
      refine zx_icmp_ne_f (t := 67) (q := 38) dX8_holds_35 (by decide) rfl (rfl) ?_
      refine zx_aload_n (q := 39) dX8_holds_38 rfl rfl rfl ?_
      refine zy_getR (q := 42) dX8_holds_39 fl_RX8_92 rfl rfl rfl rfl ?_
      refine zx_iload (q := 44) dX8_holds_42 rfl rfl ?_
      refine zx_iconst (q := 45) (v := 1) dX8_holds_44 (by decide) rfl ?_
      refine zx_isub (q := 46) dX8_holds_45 rfl ?_
      rw [nI_pred]
      refine zx_aload_n (q := 47) dX8_holds_46 rfl rfl rfl ?_
      refine zy_getR (q := 50) dX8_holds_47 fl_RX8_92 rfl rfl rfl rfl ?_
      refine zx_iload (q := 52) dX8_holds_50 rfl rfl ?_
      refine zx_iconst (q := 53) (v := 1) dX8_holds_52 (by decide) rfl ?_
      refine zx_isub (q := 54) dX8_holds_53 rfl ?_
      rw [nI_pred]
      refine zy_zaldN (q := 55) dX8_holds_54 rfl (by omega) (by first | decide | omega) rfl ?_
      rw [hpl.1]
      refine zx_if_ne (q := 58) (t := 62) dX8_holds_55 (by decide) rfl (fun c_55 => ?_) (fun c_55 => ?_)
      · refine zx_iconst (q := 63) (v := 0) dX8_holds_62 (by decide) rfl ?_
        refine zy_zastN (q := 64) dX8_holds_63 rfl (by omega) (by first | decide | omega) rfl ?_
        refine zx_goto (t := 247) dX8_holds_64 (by decide) ?_
        refine zx_iinc5 (q := 250) dX8_holds_247 rfl rfl ?_
        refine zx_goto (t := 11) dX8_holds_250 (by decide) ?_
        rw [z_inc, show fr + k + 1 = fr + (k + 1) by omega]
        rw [show t.length + 1 = (z_ev g (z_lm gi s h) (k + 1)).length by rw [e3]; rfl]
        refine ih (N - 1) (by omega) (k + 1) _ _ _ _ (by omega) ?_ ?_
        · intro a b hab
          rw [z_u_ne _ _ (by omega)]; exact g1 a b hab
        · rw [e3]
          refine ⟨?_, z_pl_congr t (fun i hi => z_u_ne _ _ (by omega)) hpl.2⟩
          rw [z_u_at]
          cases b0 <;> first | rfl | (exfalso; first | exact c_55 rfl | exact absurd c_55 (by decide) | exact c_99 rfl | exact absurd c_99 (by decide) | exact c_109 rfl | exact absurd c_109 (by decide) | exact c_129 rfl | exact absurd c_129 (by decide) | exact c_139 rfl | exact absurd c_139 (by decide))
      · refine zx_iconst (q := 59) (v := 1) dX8_holds_58 (by decide) rfl ?_
        refine zx_goto (t := 63) dX8_holds_59 (by decide) ?_
        refine zy_zastN (q := 64) dX8_holds_63 rfl (by omega) (by first | decide | omega) rfl ?_
        refine zx_goto (t := 247) dX8_holds_64 (by decide) ?_
        refine zx_iinc5 (q := 250) dX8_holds_247 rfl rfl ?_
        refine zx_goto (t := 11) dX8_holds_250 (by decide) ?_
        rw [z_inc, show fr + k + 1 = fr + (k + 1) by omega]
        rw [show t.length + 1 = (z_ev g (z_lm gi s h) (k + 1)).length by rw [e3]; rfl]
        refine ih (N - 1) (by omega) (k + 1) _ _ _ _ (by omega) ?_ ?_
        · intro a b hab
          rw [z_u_ne _ _ (by omega)]; exact g1 a b hab
        · rw [e3]
          refine ⟨?_, z_pl_congr t (fun i hi => z_u_ne _ _ (by omega)) hpl.2⟩
          rw [z_u_at]
          cases b0 <;> first | rfl | (exfalso; first | exact c_55 rfl | exact absurd c_55 (by decide) | exact c_99 rfl | exact absurd c_99 (by decide) | exact c_109 rfl | exact absurd c_109 (by decide) | exact c_129 rfl | exact absurd c_129 (by decide) | exact c_139 rfl | exact absurd c_139 (by decide))
    · rw [e2] at hpl ⊢
      rw [e1, show z_tok (-2) = -38 from by decide]
      simp only [List.length_cons] at *
      refine zx_iload (q := 33) dX8_holds_31 rfl rfl ?_
      refine zx_bipush (q := 35) (v := (-33)) dX8_holds_33 (by decide) rfl ?_
      refine zx_icmp_ne_t (t := 67) (q := 38) dX8_holds_35 (by decide) rfl (by decide) ?_
      refine zx_iload (q := 69) dX8_holds_67 rfl rfl ?_
      refine zx_if_ge_f (t := 151) (q := 72) dX8_holds_69 (by decide) rfl (by decide) ?_
      refine zx_iinc4 (q := 75) dX8_holds_72 rfl rfl ?_
      rw [z_dec]
      refine zx_aload_n (q := 76) dX8_holds_75 rfl rfl rfl ?_
      refine zy_getR (q := 79) dX8_holds_76 fl_RX8_92 rfl rfl rfl rfl ?_
      refine zx_iload (q := 81) dX8_holds_79 rfl rfl ?_
      refine zx_iconst (q := 82) (v := 1) dX8_holds_81 (by decide) rfl ?_
      refine zx_isub (q := 83) dX8_holds_82 rfl ?_
      rw [nI_pred]
      refine zx_iload (q := 85) dX8_holds_83 rfl rfl ?_
      refine zx_bipush (q := 87) (v := (-38)) dX8_holds_85 (by decide) rfl ?_
      refine zx_icmp_ne_f (t := 120) (q := 90) dX8_holds_87 (by decide) rfl (rfl) ?_
      refine zx_aload_n (q := 91) dX8_holds_90 rfl rfl rfl ?_
      refine zy_getR (q := 94) dX8_holds_91 fl_RX8_92 rfl rfl rfl rfl ?_
      refine zx_iload (q := 96) dX8_holds_94 rfl rfl ?_
      refine zx_iconst (q := 97) (v := 1) dX8_holds_96 (by decide) rfl ?_
      refine zx_isub (q := 98) dX8_holds_97 rfl ?_
      rw [nI_pred]
      refine zy_zaldN (q := 99) dX8_holds_98 rfl (by omega) (by first | decide | omega) rfl ?_
      rw [hpl.2.1]
      refine zx_if_eq (q := 102) (t := 116) dX8_holds_99 (by decide) rfl (fun c_99 => ?_) (fun c_99 => ?_)
      · refine zx_iconst (q := 117) (v := 0) dX8_holds_116 (by decide) rfl ?_
        refine zx_goto (t := 147) dX8_holds_117 (by decide) ?_
        refine zy_zastN (q := 148) dX8_holds_147 rfl (by omega) (by first | decide | omega) rfl ?_
        refine zx_goto (t := 247) dX8_holds_148 (by decide) ?_
        refine zx_iinc5 (q := 250) dX8_holds_247 rfl rfl ?_
        refine zx_goto (t := 11) dX8_holds_250 (by decide) ?_
        rw [z_inc, show fr + k + 1 = fr + (k + 1) by omega]
        rw [show t.length + 1 = (z_ev g (z_lm gi s h) (k + 1)).length by rw [e3]; rfl]
        refine ih (N - 1) (by omega) (k + 1) _ _ _ _ (by omega) ?_ ?_
        · intro a b hab
          rw [z_u_ne _ _ (by omega)]; exact g1 a b hab
        · rw [e3]
          refine ⟨?_, z_pl_congr t (fun i hi => z_u_ne _ _ (by omega)) hpl.2.2⟩
          rw [z_u_at]
          cases b0 <;> cases b1 <;> first | rfl | (exfalso; first | exact c_55 rfl | exact absurd c_55 (by decide) | exact c_99 rfl | exact absurd c_99 (by decide) | exact c_109 rfl | exact absurd c_109 (by decide) | exact c_129 rfl | exact absurd c_129 (by decide) | exact c_139 rfl | exact absurd c_139 (by decide))
      · refine zx_aload_n (q := 103) dX8_holds_102 rfl rfl rfl ?_
        refine zy_getR (q := 106) dX8_holds_103 fl_RX8_92 rfl rfl rfl rfl ?_
        refine zx_iload (q := 108) dX8_holds_106 rfl rfl ?_
        refine zy_zaldN (q := 109) dX8_holds_108 rfl (by omega) (by first | decide | omega) rfl ?_
        rw [show g' 126 (t.length + 1) = zb b0 from hpl.1]
        refine zx_if_eq (q := 112) (t := 116) dX8_holds_109 (by decide) rfl (fun c_109 => ?_) (fun c_109 => ?_)
        · refine zx_iconst (q := 117) (v := 0) dX8_holds_116 (by decide) rfl ?_
          refine zx_goto (t := 147) dX8_holds_117 (by decide) ?_
          refine zy_zastN (q := 148) dX8_holds_147 rfl (by omega) (by first | decide | omega) rfl ?_
          refine zx_goto (t := 247) dX8_holds_148 (by decide) ?_
          refine zx_iinc5 (q := 250) dX8_holds_247 rfl rfl ?_
          refine zx_goto (t := 11) dX8_holds_250 (by decide) ?_
          rw [z_inc, show fr + k + 1 = fr + (k + 1) by omega]
          rw [show t.length + 1 = (z_ev g (z_lm gi s h) (k + 1)).length by rw [e3]; rfl]
          refine ih (N - 1) (by omega) (k + 1) _ _ _ _ (by omega) ?_ ?_
          · intro a b hab
            rw [z_u_ne _ _ (by omega)]; exact g1 a b hab
          · rw [e3]
            refine ⟨?_, z_pl_congr t (fun i hi => z_u_ne _ _ (by omega)) hpl.2.2⟩
            rw [z_u_at]
            cases b0 <;> cases b1 <;> first | rfl | (exfalso; first | exact c_55 rfl | exact absurd c_55 (by decide) | exact c_99 rfl | exact absurd c_99 (by decide) | exact c_109 rfl | exact absurd c_109 (by decide) | exact c_129 rfl | exact absurd c_129 (by decide) | exact c_139 rfl | exact absurd c_139 (by decide))
        · refine zx_iconst (q := 113) (v := 1) dX8_holds_112 (by decide) rfl ?_
          refine zx_goto (t := 147) dX8_holds_113 (by decide) ?_
          refine zy_zastN (q := 148) dX8_holds_147 rfl (by omega) (by first | decide | omega) rfl ?_
          refine zx_goto (t := 247) dX8_holds_148 (by decide) ?_
          refine zx_iinc5 (q := 250) dX8_holds_247 rfl rfl ?_
          refine zx_goto (t := 11) dX8_holds_250 (by decide) ?_
          rw [z_inc, show fr + k + 1 = fr + (k + 1) by omega]
          rw [show t.length + 1 = (z_ev g (z_lm gi s h) (k + 1)).length by rw [e3]; rfl]
          refine ih (N - 1) (by omega) (k + 1) _ _ _ _ (by omega) ?_ ?_
          · intro a b hab
            rw [z_u_ne _ _ (by omega)]; exact g1 a b hab
          · rw [e3]
            refine ⟨?_, z_pl_congr t (fun i hi => z_u_ne _ _ (by omega)) hpl.2.2⟩
            rw [z_u_at]
            cases b0 <;> cases b1 <;> first | rfl | (exfalso; first | exact c_55 rfl | exact absurd c_55 (by decide) | exact c_99 rfl | exact absurd c_99 (by decide) | exact c_109 rfl | exact absurd c_109 (by decide) | exact c_129 rfl | exact absurd c_129 (by decide) | exact c_139 rfl | exact absurd c_139 (by decide))
    · rw [e2] at hpl ⊢
      rw [e1, show z_tok (-3) = -124 from by decide]
      simp only [List.length_cons] at *
      refine zx_iload (q := 33) dX8_holds_31 rfl rfl ?_
      refine zx_bipush (q := 35) (v := (-33)) dX8_holds_33 (by decide) rfl ?_
      refine zx_icmp_ne_t (t := 67) (q := 38) dX8_holds_35 (by decide) rfl (by decide) ?_
      refine zx_iload (q := 69) dX8_holds_67 rfl rfl ?_
      refine zx_if_ge_f (t := 151) (q := 72) dX8_holds_69 (by decide) rfl (by decide) ?_
      refine zx_iinc4 (q := 75) dX8_holds_72 rfl rfl ?_
      rw [z_dec]
      refine zx_aload_n (q := 76) dX8_holds_75 rfl rfl rfl ?_
      refine zy_getR (q := 79) dX8_holds_76 fl_RX8_92 rfl rfl rfl rfl ?_
      refine zx_iload (q := 81) dX8_holds_79 rfl rfl ?_
      refine zx_iconst (q := 82) (v := 1) dX8_holds_81 (by decide) rfl ?_
      refine zx_isub (q := 83) dX8_holds_82 rfl ?_
      rw [nI_pred]
      refine zx_iload (q := 85) dX8_holds_83 rfl rfl ?_
      refine zx_bipush (q := 87) (v := (-38)) dX8_holds_85 (by decide) rfl ?_
      refine zx_icmp_ne_t (t := 120) (q := 90) dX8_holds_87 (by decide) rfl (by decide) ?_
      refine zx_aload_n (q := 121) dX8_holds_120 rfl rfl rfl ?_
      refine zy_getR (q := 124) dX8_holds_121 fl_RX8_92 rfl rfl rfl rfl ?_
      refine zx_iload (q := 126) dX8_holds_124 rfl rfl ?_
      refine zx_iconst (q := 127) (v := 1) dX8_holds_126 (by decide) rfl ?_
      refine zx_isub (q := 128) dX8_holds_127 rfl ?_
      rw [nI_pred]
      refine zy_zaldN (q := 129) dX8_holds_128 rfl (by omega) (by first | decide | omega) rfl ?_
      rw [hpl.2.1]
      refine zx_if_ne (q := 132) (t := 142) dX8_holds_129 (by decide) rfl (fun c_129 => ?_) (fun c_129 => ?_)
      · refine zx_iconst (q := 143) (v := 1) dX8_holds_142 (by decide) rfl ?_
        refine zx_goto (t := 147) dX8_holds_143 (by decide) ?_
        refine zy_zastN (q := 148) dX8_holds_147 rfl (by omega) (by first | decide | omega) rfl ?_
        refine zx_goto (t := 247) dX8_holds_148 (by decide) ?_
        refine zx_iinc5 (q := 250) dX8_holds_247 rfl rfl ?_
        refine zx_goto (t := 11) dX8_holds_250 (by decide) ?_
        rw [z_inc, show fr + k + 1 = fr + (k + 1) by omega]
        rw [show t.length + 1 = (z_ev g (z_lm gi s h) (k + 1)).length by rw [e3]; rfl]
        refine ih (N - 1) (by omega) (k + 1) _ _ _ _ (by omega) ?_ ?_
        · intro a b hab
          rw [z_u_ne _ _ (by omega)]; exact g1 a b hab
        · rw [e3]
          refine ⟨?_, z_pl_congr t (fun i hi => z_u_ne _ _ (by omega)) hpl.2.2⟩
          rw [z_u_at]
          cases b0 <;> cases b1 <;> first | rfl | (exfalso; first | exact c_55 rfl | exact absurd c_55 (by decide) | exact c_99 rfl | exact absurd c_99 (by decide) | exact c_109 rfl | exact absurd c_109 (by decide) | exact c_129 rfl | exact absurd c_129 (by decide) | exact c_139 rfl | exact absurd c_139 (by decide))
      · refine zx_aload_n (q := 133) dX8_holds_132 rfl rfl rfl ?_
        refine zy_getR (q := 136) dX8_holds_133 fl_RX8_92 rfl rfl rfl rfl ?_
        refine zx_iload (q := 138) dX8_holds_136 rfl rfl ?_
        refine zy_zaldN (q := 139) dX8_holds_138 rfl (by omega) (by first | decide | omega) rfl ?_
        rw [show g' 126 (t.length + 1) = zb b0 from hpl.1]
        refine zx_if_eq (q := 142) (t := 146) dX8_holds_139 (by decide) rfl (fun c_139 => ?_) (fun c_139 => ?_)
        · refine zx_iconst (q := 147) (v := 0) dX8_holds_146 (by decide) rfl ?_
          refine zy_zastN (q := 148) dX8_holds_147 rfl (by omega) (by first | decide | omega) rfl ?_
          refine zx_goto (t := 247) dX8_holds_148 (by decide) ?_
          refine zx_iinc5 (q := 250) dX8_holds_247 rfl rfl ?_
          refine zx_goto (t := 11) dX8_holds_250 (by decide) ?_
          rw [z_inc, show fr + k + 1 = fr + (k + 1) by omega]
          rw [show t.length + 1 = (z_ev g (z_lm gi s h) (k + 1)).length by rw [e3]; rfl]
          refine ih (N - 1) (by omega) (k + 1) _ _ _ _ (by omega) ?_ ?_
          · intro a b hab
            rw [z_u_ne _ _ (by omega)]; exact g1 a b hab
          · rw [e3]
            refine ⟨?_, z_pl_congr t (fun i hi => z_u_ne _ _ (by omega)) hpl.2.2⟩
            rw [z_u_at]
            cases b0 <;> cases b1 <;> first | rfl | (exfalso; first | exact c_55 rfl | exact absurd c_55 (by decide) | exact c_99 rfl | exact absurd c_99 (by decide) | exact c_109 rfl | exact absurd c_109 (by decide) | exact c_129 rfl | exact absurd c_129 (by decide) | exact c_139 rfl | exact absurd c_139 (by decide))
        · refine zx_iconst (q := 143) (v := 1) dX8_holds_142 (by decide) rfl ?_
          refine zx_goto (t := 147) dX8_holds_143 (by decide) ?_
          refine zy_zastN (q := 148) dX8_holds_147 rfl (by omega) (by first | decide | omega) rfl ?_
          refine zx_goto (t := 247) dX8_holds_148 (by decide) ?_
          refine zx_iinc5 (q := 250) dX8_holds_247 rfl rfl ?_
          refine zx_goto (t := 11) dX8_holds_250 (by decide) ?_
          rw [z_inc, show fr + k + 1 = fr + (k + 1) by omega]
          rw [show t.length + 1 = (z_ev g (z_lm gi s h) (k + 1)).length by rw [e3]; rfl]
          refine ih (N - 1) (by omega) (k + 1) _ _ _ _ (by omega) ?_ ?_
          · intro a b hab
            rw [z_u_ne _ _ (by omega)]; exact g1 a b hab
          · rw [e3]
            refine ⟨?_, z_pl_congr t (fun i hi => z_u_ne _ _ (by omega)) hpl.2.2⟩
            rw [z_u_at]
            cases b0 <;> cases b1 <;> first | rfl | (exfalso; first | exact c_55 rfl | exact absurd c_55 (by decide) | exact c_99 rfl | exact absurd c_99 (by decide) | exact c_109 rfl | exact absurd c_109 (by decide) | exact c_129 rfl | exact absurd c_129 (by decide) | exact c_139 rfl | exact absurd c_139 (by decide))
    · rw [e1, z_tok_m m hm]
      have hT : (1000 * (m / 300) + 100 * (m / 100 % 3) + m % 100) < 6000 := by omega
      have ht1 : ¬ nI (1000 * (m / 300) + 100 * (m / 100 % 3) + m % 100) = -33 := fun z => by have := congrArg Int32.toInt z; rw [nI_toInt (by omega), show (-33 : Int32).toInt = -33 by decide] at this; omega
      have ht2 : (0 : Int32) ≤ nI (1000 * (m / 300) + 100 * (m / 100 % 3) + m % 100) := by rw [Int32.le_iff_toInt_le, nI_toInt (by omega), show (0 : Int32).toInt = 0 by decide]; omega
      have hq1 : nI (1000 * (m / 300) + 100 * (m / 100 % 3) + m % 100) / 1000 = nI (m / 300) := by rw [show (1000 : Int32) = nI 1000 from rfl, z_div (by omega) (by omega)]; congr 1; omega
      have hq2 : nI (1000 * (m / 300) + 100 * (m / 100 % 3) + m % 100) / 100 - nI (1000 * (m / 300) + 100 * (m / 100 % 3) + m % 100) / 100 / 10 * 10 = nI (m / 100 % 3) := by rw [show (100 : Int32) = nI 100 from rfl, z_div (by omega) (by omega), show (10 : Int32) = nI 10 from rfl, z_rem (by omega) (by omega)]; congr 1; omega
      have hq3 : nI (1000 * (m / 300) + 100 * (m / 100 % 3) + m % 100) - nI (1000 * (m / 300) + 100 * (m / 100 % 3) + m % 100) / 100 * 100 = nI (m % 100) := by rw [show (100 : Int32) = nI 100 from rfl, z_rem (by omega) (by omega)]; congr 1; omega
      refine zx_iload (q := 33) dX8_holds_31 rfl rfl ?_
      refine zx_bipush (q := 35) (v := (-33)) dX8_holds_33 (by decide) rfl ?_
      refine zx_icmp_ne_t (t := 67) (q := 38) dX8_holds_35 (by decide) rfl (ht1) ?_
      refine zx_iload (q := 69) dX8_holds_67 rfl rfl ?_
      refine zx_if_ge_t (t := 151) (q := 72) dX8_holds_69 (by decide) rfl (ht2) ?_
      refine zx_aload_n (q := 152) dX8_holds_151 rfl rfl rfl ?_
      refine zx_iload (q := 154) dX8_holds_152 rfl rfl ?_
      refine zx_sipush (q := 157) (v := 1000) dX8_holds_154 (by decide) rfl ?_
      refine zx_idiv (q := 158) dX8_holds_157 (by decide) rfl ?_
      rw [hq1]
      refine zx_iload_n (q := 159) dX8_holds_158 rfl rfl rfl ?_
      refine zx_iload_n (q := 160) dX8_holds_159 rfl rfl rfl ?_
      refine zx_callV3i (q := 163) (y' := mX8_factOf) dX8_holds_160 ml_RX8_264 ok_mX8_factOf rfl (by decide) rfl (Nat.le_of_ble_eq_true rfl) (Nat.le_of_ble_eq_true rfl) (Nat.le_refl _) (Nat.le_refl _) rfl (t_X8_factOf _ (m / 300) s h (by omega) hs) ?_
      rintro _ _ ⟨rfl, rfl⟩
      rw [hlm]
      refine zx_istore7 (q := 165) dX8_holds_163 rfl rfl ?_
      refine zx_iload (q := 167) dX8_holds_165 rfl rfl ?_
      refine zx_bipush (q := 169) (v := 100) dX8_holds_167 (by decide) rfl ?_
      refine zx_idiv (q := 170) dX8_holds_169 (by decide) rfl ?_
      refine zx_bipush (q := 172) (v := 10) dX8_holds_170 (by decide) rfl ?_
      refine zx_irem (q := 173) dX8_holds_172 (by decide) rfl ?_
      rw [hq2]
      refine zx_istore8 (q := 175) dX8_holds_173 rfl rfl ?_
      refine zx_aload_n (q := 176) dX8_holds_175 rfl rfl rfl ?_
      refine zy_getR (q := 179) dX8_holds_176 fl_RX8_92 rfl rfl rfl rfl ?_
      refine zx_iload (q := 181) dX8_holds_179 rfl rfl ?_
      refine zx_iload (q := 183) dX8_holds_181 rfl rfl ?_
      refine zx_if_ne (q := 186) (t := 204) dX8_holds_183 (by decide) rfl (fun c_183 => ?_) (fun c_183 => ?_)
      · have e0 : ¬ m / 100 % 3 = 0 := fun z => c_183 (by rw [z]; rfl)
        refine zx_iload (q := 206) dX8_holds_204 rfl rfl ?_
        refine zx_iconst (q := 207) (v := 1) dX8_holds_206 (by decide) rfl ?_
        refine zx_icmp_ne (q := 210) (t := 228) dX8_holds_207 (by decide) rfl (fun c_207 => ?_) (fun c_207 => ?_)
        · have e1 : ¬ m / 100 % 3 = 1 := fun z => c_207 (by rw [z]; rfl)
          refine zx_iload (q := 230) dX8_holds_228 rfl rfl ?_
          refine zx_iload (q := 232) dX8_holds_230 rfl rfl ?_
          refine zx_bipush (q := 234) (v := 100) dX8_holds_232 (by decide) rfl ?_
          refine zx_irem (q := 235) dX8_holds_234 (by decide) rfl ?_
          rw [hq3]
          refine zx_icmp_le (q := 238) (t := 242) dX8_holds_235 (by decide) rfl (fun c_235 => ?_) (fun c_235 => ?_)
          · refine zx_iconst (q := 243) (v := 0) dX8_holds_242 (by decide) rfl ?_
            refine zy_zastN (q := 244) dX8_holds_243 rfl (by omega) (by first | decide | omega) rfl ?_
            refine zx_iinc4 (q := 247) dX8_holds_244 rfl rfl ?_
            refine zx_iinc5 (q := 250) dX8_holds_247 rfl rfl ?_
            refine zx_goto (t := 11) dX8_holds_250 (by decide) ?_
            rw [z_inc]
            rw [z_inc, show fr + k + 1 = fr + (k + 1) by omega]
            rw [show (z_ev g (z_lm gi s h) k).length + 1 = (z_ev g (z_lm gi s h) (k + 1)).length by rw [e3]; rfl]
            refine ih (N - 1) (by omega) (k + 1) _ _ _ _ (by omega) ?_ ?_
            · intro a b hab
              rw [z_u_ne _ _ (by omega)]; exact g1 a b hab
            · rw [e3]
              refine ⟨?_, z_pl_congr _ (fun i hi => z_u_ne _ _ (by omega)) hpl⟩
              rw [z_u_at]
              unfold z_tst
              first
                | (rw [if_pos e0, decide_eq_true (Int32.not_le.mp c_193)]; rfl)
                | (rw [if_pos e0, decide_eq_false (Int32.not_lt.mpr c_193)]; rfl)
                | (rw [if_neg e0, if_pos e1, decide_eq_true (by simpa using c_217)]; rfl)
                | (rw [if_neg e0, if_pos e1, decide_eq_false (by simpa using c_217)]; rfl)
                | (rw [if_neg e0, if_neg e1, decide_eq_true (Int32.not_le.mp c_235)]; rfl)
                | (rw [if_neg e0, if_neg e1, decide_eq_false (Int32.not_lt.mpr c_235)]; rfl)
          · refine zx_iconst (q := 239) (v := 1) dX8_holds_238 (by decide) rfl ?_
            refine zx_goto (t := 243) dX8_holds_239 (by decide) ?_
            refine zy_zastN (q := 244) dX8_holds_243 rfl (by omega) (by first | decide | omega) rfl ?_
            refine zx_iinc4 (q := 247) dX8_holds_244 rfl rfl ?_
            refine zx_iinc5 (q := 250) dX8_holds_247 rfl rfl ?_
            refine zx_goto (t := 11) dX8_holds_250 (by decide) ?_
            rw [z_inc]
            rw [z_inc, show fr + k + 1 = fr + (k + 1) by omega]
            rw [show (z_ev g (z_lm gi s h) k).length + 1 = (z_ev g (z_lm gi s h) (k + 1)).length by rw [e3]; rfl]
            refine ih (N - 1) (by omega) (k + 1) _ _ _ _ (by omega) ?_ ?_
            · intro a b hab
              rw [z_u_ne _ _ (by omega)]; exact g1 a b hab
            · rw [e3]
              refine ⟨?_, z_pl_congr _ (fun i hi => z_u_ne _ _ (by omega)) hpl⟩
              rw [z_u_at]
              unfold z_tst
              first
                | (rw [if_pos e0, decide_eq_true (Int32.not_le.mp c_193)]; rfl)
                | (rw [if_pos e0, decide_eq_false (Int32.not_lt.mpr c_193)]; rfl)
                | (rw [if_neg e0, if_pos e1, decide_eq_true (by simpa using c_217)]; rfl)
                | (rw [if_neg e0, if_pos e1, decide_eq_false (by simpa using c_217)]; rfl)
                | (rw [if_neg e0, if_neg e1, decide_eq_true (Int32.not_le.mp c_235)]; rfl)
                | (rw [if_neg e0, if_neg e1, decide_eq_false (Int32.not_lt.mpr c_235)]; rfl)
        · have e1 : m / 100 % 3 = 1 := by have := (nI_eq (a := m / 100 % 3) (b := 1) (by omega) (by omega)).mp c_207; exact this
          refine zx_iload (q := 212) dX8_holds_210 rfl rfl ?_
          refine zx_iload (q := 214) dX8_holds_212 rfl rfl ?_
          refine zx_bipush (q := 216) (v := 100) dX8_holds_214 (by decide) rfl ?_
          refine zx_irem (q := 217) dX8_holds_216 (by decide) rfl ?_
          rw [hq3]
          refine zx_icmp_ne (q := 220) (t := 224) dX8_holds_217 (by decide) rfl (fun c_217 => ?_) (fun c_217 => ?_)
          · refine zx_iconst (q := 225) (v := 0) dX8_holds_224 (by decide) rfl ?_
            refine zx_goto (t := 243) dX8_holds_225 (by decide) ?_
            refine zy_zastN (q := 244) dX8_holds_243 rfl (by omega) (by first | decide | omega) rfl ?_
            refine zx_iinc4 (q := 247) dX8_holds_244 rfl rfl ?_
            refine zx_iinc5 (q := 250) dX8_holds_247 rfl rfl ?_
            refine zx_goto (t := 11) dX8_holds_250 (by decide) ?_
            rw [z_inc]
            rw [z_inc, show fr + k + 1 = fr + (k + 1) by omega]
            rw [show (z_ev g (z_lm gi s h) k).length + 1 = (z_ev g (z_lm gi s h) (k + 1)).length by rw [e3]; rfl]
            refine ih (N - 1) (by omega) (k + 1) _ _ _ _ (by omega) ?_ ?_
            · intro a b hab
              rw [z_u_ne _ _ (by omega)]; exact g1 a b hab
            · rw [e3]
              refine ⟨?_, z_pl_congr _ (fun i hi => z_u_ne _ _ (by omega)) hpl⟩
              rw [z_u_at]
              unfold z_tst
              first
                | (rw [if_pos e0, decide_eq_true (Int32.not_le.mp c_193)]; rfl)
                | (rw [if_pos e0, decide_eq_false (Int32.not_lt.mpr c_193)]; rfl)
                | (rw [if_neg e0, if_pos e1, decide_eq_true (by simpa using c_217)]; rfl)
                | (rw [if_neg e0, if_pos e1, decide_eq_false (by simpa using c_217)]; rfl)
                | (rw [if_neg e0, if_neg e1, decide_eq_true (Int32.not_le.mp c_235)]; rfl)
                | (rw [if_neg e0, if_neg e1, decide_eq_false (Int32.not_lt.mpr c_235)]; rfl)
          · refine zx_iconst (q := 221) (v := 1) dX8_holds_220 (by decide) rfl ?_
            refine zx_goto (t := 243) dX8_holds_221 (by decide) ?_
            refine zy_zastN (q := 244) dX8_holds_243 rfl (by omega) (by first | decide | omega) rfl ?_
            refine zx_iinc4 (q := 247) dX8_holds_244 rfl rfl ?_
            refine zx_iinc5 (q := 250) dX8_holds_247 rfl rfl ?_
            refine zx_goto (t := 11) dX8_holds_250 (by decide) ?_
            rw [z_inc]
            rw [z_inc, show fr + k + 1 = fr + (k + 1) by omega]
            rw [show (z_ev g (z_lm gi s h) k).length + 1 = (z_ev g (z_lm gi s h) (k + 1)).length by rw [e3]; rfl]
            refine ih (N - 1) (by omega) (k + 1) _ _ _ _ (by omega) ?_ ?_
            · intro a b hab
              rw [z_u_ne _ _ (by omega)]; exact g1 a b hab
            · rw [e3]
              refine ⟨?_, z_pl_congr _ (fun i hi => z_u_ne _ _ (by omega)) hpl⟩
              rw [z_u_at]
              unfold z_tst
              first
                | (rw [if_pos e0, decide_eq_true (Int32.not_le.mp c_193)]; rfl)
                | (rw [if_pos e0, decide_eq_false (Int32.not_lt.mpr c_193)]; rfl)
                | (rw [if_neg e0, if_pos e1, decide_eq_true (by simpa using c_217)]; rfl)
                | (rw [if_neg e0, if_pos e1, decide_eq_false (by simpa using c_217)]; rfl)
                | (rw [if_neg e0, if_neg e1, decide_eq_true (Int32.not_le.mp c_235)]; rfl)
                | (rw [if_neg e0, if_neg e1, decide_eq_false (Int32.not_lt.mpr c_235)]; rfl)
      · have e0 : m / 100 % 3 = 0 := by have := (nI_eq (a := m / 100 % 3) (b := 0) (by omega) (by omega)).mp c_183; exact this
        refine zx_iload (q := 188) dX8_holds_186 rfl rfl ?_
        refine zx_iload (q := 190) dX8_holds_188 rfl rfl ?_
        refine zx_bipush (q := 192) (v := 100) dX8_holds_190 (by decide) rfl ?_
        refine zx_irem (q := 193) dX8_holds_192 (by decide) rfl ?_
        rw [hq3]
        refine zx_icmp_ge (q := 196) (t := 200) dX8_holds_193 (by decide) rfl (fun c_193 => ?_) (fun c_193 => ?_)
        · refine zx_iconst (q := 201) (v := 0) dX8_holds_200 (by decide) rfl ?_
          refine zx_goto (t := 243) dX8_holds_201 (by decide) ?_
          refine zy_zastN (q := 244) dX8_holds_243 rfl (by omega) (by first | decide | omega) rfl ?_
          refine zx_iinc4 (q := 247) dX8_holds_244 rfl rfl ?_
          refine zx_iinc5 (q := 250) dX8_holds_247 rfl rfl ?_
          refine zx_goto (t := 11) dX8_holds_250 (by decide) ?_
          rw [z_inc]
          rw [z_inc, show fr + k + 1 = fr + (k + 1) by omega]
          rw [show (z_ev g (z_lm gi s h) k).length + 1 = (z_ev g (z_lm gi s h) (k + 1)).length by rw [e3]; rfl]
          refine ih (N - 1) (by omega) (k + 1) _ _ _ _ (by omega) ?_ ?_
          · intro a b hab
            rw [z_u_ne _ _ (by omega)]; exact g1 a b hab
          · rw [e3]
            refine ⟨?_, z_pl_congr _ (fun i hi => z_u_ne _ _ (by omega)) hpl⟩
            rw [z_u_at]
            unfold z_tst
            first
              | (rw [if_pos e0, decide_eq_true (Int32.not_le.mp c_193)]; rfl)
              | (rw [if_pos e0, decide_eq_false (Int32.not_lt.mpr c_193)]; rfl)
              | (rw [if_neg e0, if_pos e1, decide_eq_true (by simpa using c_217)]; rfl)
              | (rw [if_neg e0, if_pos e1, decide_eq_false (by simpa using c_217)]; rfl)
              | (rw [if_neg e0, if_neg e1, decide_eq_true (Int32.not_le.mp c_235)]; rfl)
              | (rw [if_neg e0, if_neg e1, decide_eq_false (Int32.not_lt.mpr c_235)]; rfl)
        · refine zx_iconst (q := 197) (v := 1) dX8_holds_196 (by decide) rfl ?_
          refine zx_goto (t := 243) dX8_holds_197 (by decide) ?_
          refine zy_zastN (q := 244) dX8_holds_243 rfl (by omega) (by first | decide | omega) rfl ?_
          refine zx_iinc4 (q := 247) dX8_holds_244 rfl rfl ?_
          refine zx_iinc5 (q := 250) dX8_holds_247 rfl rfl ?_
          refine zx_goto (t := 11) dX8_holds_250 (by decide) ?_
          rw [z_inc]
          rw [z_inc, show fr + k + 1 = fr + (k + 1) by omega]
          rw [show (z_ev g (z_lm gi s h) k).length + 1 = (z_ev g (z_lm gi s h) (k + 1)).length by rw [e3]; rfl]
          refine ih (N - 1) (by omega) (k + 1) _ _ _ _ (by omega) ?_ ?_
          · intro a b hab
            rw [z_u_ne _ _ (by omega)]; exact g1 a b hab
          · rw [e3]
            refine ⟨?_, z_pl_congr _ (fun i hi => z_u_ne _ _ (by omega)) hpl⟩
            rw [z_u_at]
            unfold z_tst
            first
              | (rw [if_pos e0, decide_eq_true (Int32.not_le.mp c_193)]; rfl)
              | (rw [if_pos e0, decide_eq_false (Int32.not_lt.mpr c_193)]; rfl)
              | (rw [if_neg e0, if_pos e1, decide_eq_true (by simpa using c_217)]; rfl)
              | (rw [if_neg e0, if_pos e1, decide_eq_false (by simpa using c_217)]; rfl)
              | (rw [if_neg e0, if_neg e1, decide_eq_true (Int32.not_le.mp c_235)]; rfl)
              | (rw [if_neg e0, if_neg e1, decide_eq_false (Int32.not_lt.mpr c_235)]; rfl)
theorem t_X8_holds (d C s n fr : Nat) (h : Int32) (g : Nat → Int32) (hC : C < 60) (hs : s < 5) (hfr : gi 121 C = nI fr) (hto : gi 122 C = nI (fr + n)) (h600 : fr + n ≤ 600) (htk : ∀ k, k < n → gi 123 (fr + k) = z_tok (g k)) (hd : z_dep g n = some 1) : zCall l D tc A mX8_holds (d + 1) 0 0 [.ref 108, .int (nI C), .int (nI s), .int h] (zs gi gl f) (zQi fun r S' => r = zb ((z_ev g (z_lm gi s h) n).headD false) ∧ ∃ g', S' = zs g' gl f ∧ ∀ k j, ¬ k = 126 → g' k j = gi k j) := by
  show zW l D tc A mX8_holds (d + 1) 0 0 0 0 0 [some (.ref 108), some (.int (nI C)), some (.int (nI s)), some (.int h), none, none, none, none, none] [] (zs gi gl f) _
  refine zx_iconst (q := 1) (v := 0) dX8_holds_0 (by decide) rfl ?_
  refine zx_istore4 (q := 3) dX8_holds_1 rfl rfl ?_
  refine zx_aload_n (q := 4) dX8_holds_3 rfl rfl rfl ?_
  refine zy_getR (q := 7) dX8_holds_4 fl_RX8_68 rfl rfl rfl rfl ?_
  refine zx_iload_n (q := 8) dX8_holds_7 rfl rfl rfl ?_
  refine zy_ialdN (q := 9) dX8_holds_8 rfl (by omega) (by first | decide | omega) rfl ?_
  rw [hfr]
  refine zx_istore5 (q := 11) dX8_holds_9 rfl rfl ?_
  exact lp_X8_holds d C s n fr h g hC hs hfr hto h600 htk hd n 0 gi none none none (by omega) (fun _ _ _ => rfl) trivial
end P29
