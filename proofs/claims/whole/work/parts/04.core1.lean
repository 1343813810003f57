/-! THE MACHINE OF SHAPES: a state of both systems is a list of shapes (what each cell is) and three tables (ints, longs, references), cells are numbered by the order of their making; 'ad' says at which address a cell lies. -/
/-- the tables' words that stay good when classes warm -/
def zw_Tb : List Cond := lw_tbl.filter goodWord
theorem zw_mem {w : Cond} (i : Nat) (h : lw_tbl[i]? = some w) (hg : goodWord w = true) : w ∈ zw_Tb := List.mem_filter.mpr ⟨List.mem_of_getElem? h, hg⟩
theorem zw_good : GoodIn zw_Tb zw_Tb := fun w hw => ⟨hw, good_of_word (List.mem_filter.mp hw).2⟩
abbrev zw_S : Type := List (Nat × Nat) × ((Nat → Nat → Int32) × ((Nat → Nat → Int64) × (Nat → Nat → Option Nat)))
/-- a method: its name, its code, how many locals, what it returns -/
abbrev zw_M : Type := MethodName × (ByteArray × (Nat × Option FieldType))
def zw_v (ad : Nat → Nat) : Value → Value
  | .ref k => .ref (ad k)
  | v => v
theorem zw_v_cat (ad : Nat → Nat) (v : Value) : (zw_v ad v).category = v.category := by cases v <;> rfl
def zw_cl : List vw_C := [(RX0, TX0, 5), (RX1, TX1, 6), (RX2, TX2, 5), (RX3, TX3, 12), (RX4, TX4, 5), (RX5, TX5, 10), (RX6, TX6, 3), (RX7, TX7, 12), (RX8, TX8, 62)]
def zw_N : Nat → Nat
  | 0 => 5
  | 1 => 6
  | 2 => 5
  | 3 => 12
  | 4 => 5
  | 5 => 10
  | 6 => 3
  | 7 => 12
  | _ => 62
def zw_T : Nat → u_T
  | 0 => TX0
  | 1 => TX1
  | 2 => TX2
  | 3 => TX3
  | 4 => TX4
  | 5 => TX5
  | 6 => TX6
  | 7 => TX7
  | _ => TX8
def zw_ft : Nat → Nat → FieldType
  | 0 => tyX0
  | 1 => tyX1
  | 2 => tyX2
  | 3 => tyX3
  | 4 => tyX4
  | 5 => tyX5
  | 6 => tyX6
  | 7 => tyX7
  | _ => tyX8
def zw_R : Nat → String
  | 0 => RX0
  | 1 => RX1
  | 2 => RX2
  | 3 => RX3
  | 4 => RX4
  | 5 => RX5
  | 6 => RX6
  | 7 => RX7
  | _ => RX8
theorem zw_cl_at {ci : Nat} (h : ci < 9) : zw_cl[ci]? = some (zw_R ci, zw_T ci, zw_N ci) := by
  rcases (by omega : ci = 0 ∨ ci = 1 ∨ ci = 2 ∨ ci = 3 ∨ ci = 4 ∨ ci = 5 ∨ ci = 6 ∨ ci = 7 ∨ ci = 8) with h | h | h | h | h | h | h | h | h <;> subst h <;> rfl
theorem zw_nm {ci : Nat} (h : ci < 9) : ∀ a, a < zw_N ci → ∀ b, b < zw_N ci → a ≠ b → (zw_T ci a).2.1 ≠ (zw_T ci b).2.1 := by
  rcases (by omega : ci = 0 ∨ ci = 1 ∨ ci = 2 ∨ ci = 3 ∨ ci = 4 ∨ ci = 5 ∨ ci = 6 ∨ ci = 7 ∨ ci = 8) with h | h | h | h | h | h | h | h | h <;> subst h
  · exact nmX0
  · exact nmX1
  · exact nmX2
  · exact nmX3
  · exact nmX4
  · exact nmX5
  · exact nmX6
  · exact nmX7
  · exact nmX8
theorem zw_ty {ci : Nat} (h : ci < 9) : ∀ k, k < zw_N ci → parseFieldDescriptor (zw_T ci k).2.2.1 = some (zw_ft ci k) := by
  rcases (by omega : ci = 0 ∨ ci = 1 ∨ ci = 2 ∨ ci = 3 ∨ ci = 4 ∨ ci = 5 ∨ ci = 6 ∨ ci = 7 ∨ ci = 8) with h | h | h | h | h | h | h | h | h <;> subst h
  · exact tyX0_ok
  · exact tyX1_ok
  · exact tyX2_ok
  · exact tyX3_ok
  · exact tyX4_ok
  · exact tyX5_ok
  · exact tyX6_ok
  · exact tyX7_ok
  · exact tyX8_ok
def zw_lays (ci : Nat) : List Cond := u_ws (zw_R ci) (zw_T ci) (zw_N ci)
theorem zw_lays_ok {ci : Nat} (h : ci < 9) : ∀ w ∈ zw_lays ci, w ∈ zw_Tb := by
  have key : ∀ ci, ci < 9 → (zw_lays ci).all (fun w => decide (w ∈ lw_tbl) && goodWord w) = true := by
    intro ci h
    rcases (by omega : ci = 0 ∨ ci = 1 ∨ ci = 2 ∨ ci = 3 ∨ ci = 4 ∨ ci = 5 ∨ ci = 6 ∨ ci = 7 ∨ ci = 8) with h | h | h | h | h | h | h | h | h <;> subst h <;> decide +kernel
  intro w hw
  have h1 := List.all_eq_true.mp (key ci h) w hw
  simp only [Bool.and_eq_true, decide_eq_true_eq] at h1
  exact List.mem_filter.mpr h1
/-- what a field holds -/
def zw_fv (ad : Nat → Nat) (S : zw_S) (k j : Nat) : FieldType → Value
  | .array _ => va_rf ((S.2.2.2 k j).map ad)
  | .object _ => va_rf ((S.2.2.2 k j).map ad)
  | .long => .long (S.2.2.1 k j)
  | _ => .int (S.2.1 k j)
def zw_fs (ad : Nat → Nat) (S : zw_S) (k ci : Nat) : List Value := (List.range (zw_N ci)).map (fun j => zw_fv ad S k j (zw_ft ci j))
/-- the kinds of arrays -/
def zw_at : Nat → FieldType
  | 2 => .byte
  | 3 => .boolean
  | 4 => .long
  | 5 => .array .int
  | 6 => .object RX1
  | 7 => .object RX6
  | _ => .int
def zw_ac (tc : Nat → ClassId) (ad : Nat → Nat) (S : zw_S) (k : Nat) : Nat × Nat → va_E
  | (0, ci) => .inr (ci, zw_fs ad S k ci)
  | (1, n) => .inl (tc 1, n, .inl (S.2.1 k))
  | (2, n) => .inl (tc 2, n, .inl (S.2.1 k))
  | (3, n) => .inl (tc 3, n, .inl (S.2.1 k))
  | (4, n) => .inl (tc 4, n, .inr (.inl (S.2.2.1 k)))
  | (t, n) => .inl (tc t, n, .inr (.inr (.inr (.inr (fun j => (S.2.2.2 k j).map ad)))))
def zw_ws (tc : Nat → ClassId) (ad : Nat → Nat) (S : zw_S) : va_W := S.1.mapIdx (fun k q => (ad k, zw_ac tc ad S k q))
def zw_tys (tc : Nat → ClassId) : List (ClassId × FieldType) := (List.range 8).map (fun i => (tc i, zw_at i))
theorem zw_tys_at (tc : Nat → ClassId) {i : Nat} (h : i < 8) : (zw_tys tc)[i]? = some (tc i, zw_at i) := by
  unfold zw_tys
  rw [List.getElem?_map, List.getElem?_range h]
  rfl
theorem zw_get {tc : Nat → ClassId} {ad : Nat → Nat} {S : zw_S} {k : Nat} {q : Nat × Nat} (h : S.1[k]? = some q) : (zw_ws tc ad S)[k]? = some (ad k, zw_ac tc ad S k q) := by
  unfold zw_ws
  rw [List.getElem?_mapIdx, h]
  rfl
theorem zw_ac_congr {tc : Nat → ClassId} {ad : Nat → Nat} {S S' : zw_S} {k : Nat} (h1 : S'.2.1 k = S.2.1 k) (h2 : S'.2.2.1 k = S.2.2.1 k) (h3 : S'.2.2.2 k = S.2.2.2 k) (q : Nat × Nat) : zw_ac tc ad S' k q = zw_ac tc ad S k q := by
  have e : ∀ j ty, zw_fv ad S' k j ty = zw_fv ad S k j ty := by
    intro j ty
    unfold zw_fv
    cases ty <;> simp only [h1, h2, h3]
  have e2 : ∀ ci, zw_fs ad S' k ci = zw_fs ad S k ci := by
    intro ci
    unfold zw_fs
    exact List.map_congr_left (fun j _ => e j _)
  unfold zw_ac
  split <;> simp only [h1, h2, h3, e2]
theorem zw_set {tc : Nat → ClassId} {ad : Nat → Nat} {S S' : zw_S} {k : Nat} {q : Nat × Nat} {e : va_E} (h : S.1[k]? = some q) (hs : S'.1 = S.1) (he : zw_ac tc ad S' k q = e)
    (ho : ∀ j, j ≠ k → S'.2.1 j = S.2.1 j ∧ S'.2.2.1 j = S.2.2.1 j ∧ S'.2.2.2 j = S.2.2.2 j) : (zw_ws tc ad S).set k (ad k, e) = zw_ws tc ad S' := by
  have hl : k < S.1.length := (List.getElem?_eq_some_iff.mp h).1
  apply List.ext_getElem?
  intro i
  by_cases hi : i = k
  · subst hi
    rw [List.getElem?_set_self (by unfold zw_ws; rw [List.length_mapIdx]; exact hl), zw_get (S := S') (by rw [hs]; exact h), he]
  · rw [List.getElem?_set_ne (Ne.symm hi)]
    unfold zw_ws
    rw [List.getElem?_mapIdx, List.getElem?_mapIdx, hs]
    obtain ⟨a, b, c⟩ := ho i hi
    cases S.1[i]? with
    | none => rfl
    | some r =>
      show some (ad i, zw_ac tc ad S i r) = some (ad i, zw_ac tc ad S' i r)
      rw [zw_ac_congr a b c]
/-- a table, but v at (k, j) -/
def zw_u {α : Type} (f : Nat → Nat → α) (k j : Nat) (v : α) : Nat → Nat → α := fun a b => if a = k ∧ b = j then v else f a b
def zw_pi (S : zw_S) (k j : Nat) (v : Int32) : zw_S := (S.1, zw_u S.2.1 k j v, S.2.2)
def zw_pl (S : zw_S) (k j : Nat) (v : Int64) : zw_S := (S.1, S.2.1, zw_u S.2.2.1 k j v, S.2.2.2)
def zw_pr (S : zw_S) (k j : Nat) (v : Option Nat) : zw_S := (S.1, S.2.1, S.2.2.1, zw_u S.2.2.2 k j v)
/-- a table, but the row f at k -/
def zw_row {α : Type} (g : Nat → Nat → α) (k : Nat) (f : Nat → α) : Nat → Nat → α := fun a => if a = k then f else g a
def zw_ri (S : zw_S) (k : Nat) (f : Nat → Int32) : zw_S := (S.1, zw_row S.2.1 k f, S.2.2)
def zw_rl (S : zw_S) (k : Nat) (f : Nat → Int64) : zw_S := (S.1, S.2.1, zw_row S.2.2.1 k f, S.2.2.2)
theorem zw_u_row {α : Type} (f : Nat → Nat → α) (k j : Nat) (v : α) : zw_u f k j v k = fun b => if b = j then v else f k b := by
  funext b
  simp [zw_u]
theorem zw_u_off {α : Type} (f : Nat → Nat → α) {k a : Nat} (j : Nat) (v : α) (h : a ≠ k) : zw_u f k j v a = f a := by
  funext b
  simp [zw_u, h]
theorem zw_row_at {α : Type} (g : Nat → Nat → α) (k : Nat) (f : Nat → α) : zw_row g k f k = f := by simp [zw_row]
theorem zw_row_off {α : Type} (g : Nat → Nat → α) {k a : Nat} (f : Nat → α) (h : a ≠ k) : zw_row g k f a = g a := by simp [zw_row, h]
theorem zw_put_i {tc : Nat → ClassId} {ad : Nat → Nat} {S : zw_S} {k n j : Nat} {t : Nat} {v : Int32} (ht : t = 1 ∨ t = 2 ∨ t = 3) (h : S.1[k]? = some (t, n)) : (zw_ws tc ad S).set k (ad k, .inl (tc t, n, .inl (upd (S.2.1 k) j v))) = zw_ws tc ad (zw_pi S k j v) := by
  refine zw_set h rfl ?_ (fun i hi => ⟨zw_u_off _ _ _ hi, rfl, rfl⟩)
  rcases ht with ht | ht | ht <;> subst ht <;> simp only [zw_ac, zw_pi, zw_u_row] <;> rfl
theorem zw_put_l {tc : Nat → ClassId} {ad : Nat → Nat} {S : zw_S} {k n j : Nat} {v : Int64} (h : S.1[k]? = some (4, n)) : (zw_ws tc ad S).set k (ad k, .inl (tc 4, n, .inr (.inl (vp_updL (S.2.2.1 k) j v)))) = zw_ws tc ad (zw_pl S k j v) := by
  refine zw_set h rfl ?_ (fun i hi => ⟨rfl, zw_u_off _ _ _ hi, rfl⟩)
  simp only [zw_ac, zw_pl, zw_u_row]
  rfl
theorem zw_row_i {tc : Nat → ClassId} {ad : Nat → Nat} {S : zw_S} {k n : Nat} {f : Nat → Int32} (h : S.1[k]? = some (1, n)) : (zw_ws tc ad S).set k (ad k, .inl (tc 1, n, .inl f)) = zw_ws tc ad (zw_ri S k f) := by
  refine zw_set h rfl ?_ (fun i hi => ⟨zw_row_off _ _ hi, rfl, rfl⟩)
  simp only [zw_ac, zw_ri, zw_row_at]
theorem zw_row_l {tc : Nat → ClassId} {ad : Nat → Nat} {S : zw_S} {k n : Nat} {f : Nat → Int64} (h : S.1[k]? = some (4, n)) : (zw_ws tc ad S).set k (ad k, .inl (tc 4, n, .inr (.inl f))) = zw_ws tc ad (zw_rl S k f) := by
  refine zw_set h rfl ?_ (fun i hi => ⟨rfl, zw_row_off _ _ hi, rfl⟩)
  simp only [zw_ac, zw_rl, zw_row_at]
theorem zw_put_q {tc : Nat → ClassId} {ad : Nat → Nat} {S : zw_S} {k n j t v : Nat} (ht : 5 ≤ t) (h : S.1[k]? = some (t, n)) : (zw_ws tc ad S).set k (ad k, .inl (tc t, n, .inr (.inr (.inr (.inr (va_up (fun j => (S.2.2.2 k j).map ad) j (some (ad v)))))))) = zw_ws tc ad (zw_pr S k j (some v)) := by
  refine zw_set h rfl ?_ (fun i hi => ⟨rfl, rfl, zw_u_off _ _ _ hi⟩)
  match t, ht with
  | t + 5, _ =>
    simp only [zw_ac, zw_pr, zw_u_row]
    congr 7
    funext b
    by_cases hb : b = j <;> simp [va_up, hb]
theorem zw_fs_len (ad : Nat → Nat) (S : zw_S) (k ci : Nat) : (zw_fs ad S k ci).length = zw_N ci := by simp [zw_fs]
theorem zw_fs_at {ad : Nat → Nat} {S : zw_S} {k ci j : Nat} (h : j < zw_N ci) : (zw_fs ad S k ci)[j]? = some (zw_fv ad S k j (zw_ft ci j)) := by
  unfold zw_fs
  rw [List.getElem?_map, List.getElem?_range h]
  rfl
theorem zw_fs_set {ad : Nat → Nat} {S S' : zw_S} {k ci j : Nat} {v : Value} (hv : zw_fv ad S' k j (zw_ft ci j) = v) (ho : ∀ i, i ≠ j → zw_fv ad S' k i (zw_ft ci i) = zw_fv ad S k i (zw_ft ci i)) : (zw_fs ad S k ci).set j v = zw_fs ad S' k ci := by
  apply List.ext_getElem?
  intro i
  by_cases hl : i < zw_N ci
  · by_cases hi : i = j
    · subst hi
      rw [List.getElem?_set_self (by rw [zw_fs_len]; exact hl), zw_fs_at hl, hv]
    · rw [List.getElem?_set_ne (Ne.symm hi), zw_fs_at hl, zw_fs_at hl, ho i hi]
  · rw [List.getElem?_eq_none (by rw [List.length_set, zw_fs_len]; omega), List.getElem?_eq_none (by rw [zw_fs_len]; omega)]
theorem zw_putf {tc : Nat → ClassId} {ad : Nat → Nat} {S S' : zw_S} {k ci j : Nat} {v : Value} (h : S.1[k]? = some (0, ci)) (hs : S'.1 = S.1) (hv : zw_fv ad S' k j (zw_ft ci j) = v) (ho : ∀ i, i ≠ j → zw_fv ad S' k i (zw_ft ci i) = zw_fv ad S k i (zw_ft ci i))
    (hr : ∀ i, i ≠ k → S'.2.1 i = S.2.1 i ∧ S'.2.2.1 i = S.2.2.1 i ∧ S'.2.2.2 i = S.2.2.2 i) : (zw_ws tc ad S).set k (ad k, .inr (ci, (zw_fs ad S k ci).set j v)) = zw_ws tc ad S' :=
  zw_set h hs (by simp only [zw_ac]; rw [zw_fs_set hv ho]) hr
theorem zw_fv_pi {ad : Nat → Nat} {S : zw_S} {k j i : Nat} {v : Int32} (h : i ≠ j) (ty : FieldType) : zw_fv ad (zw_pi S k j v) k i ty = zw_fv ad S k i ty := by
  cases ty <;> simp [zw_fv, zw_pi, zw_u, h]
theorem zw_fv_pr {ad : Nat → Nat} {S : zw_S} {k j i : Nat} {v : Option Nat} (h : i ≠ j) (ty : FieldType) : zw_fv ad (zw_pr S k j v) k i ty = zw_fv ad S k i ty := by
  cases ty <;> simp [zw_fv, zw_pr, zw_u, h]
/-- is a field of this type an int's, one of a reference -/
def zw_isI : FieldType → Bool
  | .int => true
  | .boolean => true
  | _ => false
def zw_isR : FieldType → Bool
  | .array _ => true
  | .object _ => true
  | _ => false
theorem zw_putfi {tc : Nat → ClassId} {ad : Nat → Nat} {S : zw_S} {k ci j : Nat} {v : Int32} (h : S.1[k]? = some (0, ci)) (ht : zw_isI (zw_ft ci j) = true) : (zw_ws tc ad S).set k (ad k, .inr (ci, (zw_fs ad S k ci).set j (.int v))) = zw_ws tc ad (zw_pi S k j v) := by
  refine zw_putf h rfl ?_ (fun i hi => zw_fv_pi hi _) (fun i hi => ⟨zw_u_off _ _ _ hi, rfl, rfl⟩)
  generalize zw_ft ci j = ty at ht ⊢
  cases ty <;> first | (simp [zw_isI] at ht; done) | simp [zw_fv, zw_pi, zw_u]
theorem zw_putfr {tc : Nat → ClassId} {ad : Nat → Nat} {S : zw_S} {k ci j v : Nat} (h : S.1[k]? = some (0, ci)) (ht : zw_isR (zw_ft ci j) = true) : (zw_ws tc ad S).set k (ad k, .inr (ci, (zw_fs ad S k ci).set j (.ref (ad v)))) = zw_ws tc ad (zw_pr S k j (some v)) := by
  refine zw_putf h rfl ?_ (fun i hi => zw_fv_pr hi _) (fun i hi => ⟨rfl, rfl, zw_u_off _ _ _ hi⟩)
  generalize zw_ft ci j = ty at ht ⊢
  cases ty <;> first | (simp [zw_isR] at ht; done) | simp [zw_fv, zw_pr, zw_u, va_rf]
