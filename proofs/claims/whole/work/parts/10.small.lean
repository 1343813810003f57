/-! small words for answers, and the smallest methods -/
def zb (b : Bool) : Int32 := if b then 1 else 0
theorem zb_nar (b : Bool) : narrow .boolean (.int (zb b)) = .int (zb b) := by cases b <;> rfl
theorem zb_fit (b : Bool) : narrow .boolean (.int (zb b)) = .int (zb b) ∧ fits .boolean (.int (zb b)) = true := by cases b <;> exact ⟨rfl, rfl⟩
theorem zb_z (b : Bool) : zb b = 0 ↔ b = false := by cases b <;> decide
theorem zb_nz (b : Bool) : ¬ zb b = 0 ↔ b = true := by cases b <;> decide
theorem zb_one (b : Bool) : zb b = 1 ↔ b = true := by cases b <;> decide
theorem zb_t : zb true = 1 := rfl
theorem zb_f : zb false = 0 := rfl
/-- low ≤ v ≤ high -/
def z_in (v lo hi : Int32) : Bool := decide (lo ≤ v) && decide (v ≤ hi)
theorem z_in_iff {v lo hi : Int32} : z_in v lo hi = true ↔ lo ≤ v ∧ v ≤ hi := by simp [z_in]
theorem zi_nlt {a b : Int32} : ¬ a < b ↔ b ≤ a := Int32.not_lt
theorem zi_nle {a b : Int32} : ¬ a ≤ b ↔ b < a := Int32.not_le
theorem zx_case {l : Launch} {D : va_G} {tc : Nat → ClassId} {A : Nat → Prop} {y : zw_M} {d mc ms k n pc : Nat} {L : List (Option Value)} {st : List Value} {S : zw_S} {Q : Option Value → zw_S → Prop} {x v : Int32}
    (k1 : x = v → zW l D tc A y d mc ms k n pc L (.int x :: st) S Q) (k2 : ¬ x = v → zW l D tc A y d mc ms k n pc L (.int x :: st) S Q) : zW l D tc A y d mc ms k n pc L (.int x :: st) S Q := by
  by_cases h : x = v
  · exact k1 h
  · exact k2 h
section P10
variable {l : Launch} {D : va_G} {tc : Nat → ClassId} {A : Nat → Prop} {S : zw_S} {gi : Nat → Nat → Int32} {gl : Nat → Nat → Int64} {f : Option Nat}
theorem t_X7_within (d : Nat) (v lo hi : Int32) : zCall l D tc A mX7_within d 0 0 [.int v, .int lo, .int hi] S (zQi fun r S' => r = zb (z_in v lo hi) ∧ S' = S) := by
  show zW l D tc A mX7_within d 0 0 0 0 0 [some (.int v), some (.int lo), some (.int hi)] [] S _
  refine zx_iload_n (q := 1) dX7_within_0 rfl rfl rfl ?_
  refine zx_iload_n (q := 2) dX7_within_1 rfl rfl rfl ?_
  refine zx_icmp_lt (q := 5) (t := 14) dX7_within_2 (by decide) rfl (fun c_2 => ?_) (fun c_2 => ?_)
  · refine zx_iconst (q := 15) (v := 0) dX7_within_14 (by decide) rfl ?_
    refine zx_zret dX7_within_15 rfl (by first | rfl | exact zb_nar _) (Nat.le_refl _) (Nat.le_refl _) ⟨_, rfl, ?_⟩
    exact ⟨by simp only [Int32.lt_iff_toInt_lt] at *; simp [zb, z_in, Int32.le_iff_toInt_le]; omega, rfl⟩
  · refine zx_iload_n (q := 6) dX7_within_5 rfl rfl rfl ?_
    refine zx_iload_n (q := 7) dX7_within_6 rfl rfl rfl ?_
    refine zx_icmp_gt (q := 10) (t := 14) dX7_within_7 (by decide) rfl (fun c_7 => ?_) (fun c_7 => ?_)
    · refine zx_iconst (q := 15) (v := 0) dX7_within_14 (by decide) rfl ?_
      refine zx_zret dX7_within_15 rfl (by first | rfl | exact zb_nar _) (Nat.le_refl _) (Nat.le_refl _) ⟨_, rfl, ?_⟩
      exact ⟨by simp only [Int32.lt_iff_toInt_lt] at *; simp [zb, z_in, Int32.le_iff_toInt_le]; omega, rfl⟩
    · refine zx_iconst (q := 11) (v := 1) dX7_within_10 (by decide) rfl ?_
      refine zx_goto (t := 15) dX7_within_11 (by decide) ?_
      refine zx_zret dX7_within_15 rfl (by first | rfl | exact zb_nar _) (Nat.le_refl _) (Nat.le_refl _) ⟨_, rfl, ?_⟩
      exact ⟨by simp only [Int32.lt_iff_toInt_lt] at *; simp [zb, z_in, Int32.le_iff_toInt_le]; omega, rfl⟩
theorem t_X8_in (d : Nat) (o : Nat) (v lo hi : Int32) : zCall l D tc A mX8_in d 0 0 [.ref o, .int v, .int lo, .int hi] S (zQi fun r S' => r = zb (z_in v lo hi) ∧ S' = S) := by
  show zW l D tc A mX8_in d 0 0 0 0 0 [some (.ref o), some (.int v), some (.int lo), some (.int hi)] [] S _
  refine zx_iload_n (q := 1) dX8_in_0 rfl rfl rfl ?_
  refine zx_iload_n (q := 2) dX8_in_1 rfl rfl rfl ?_
  refine zx_icmp_lt (q := 5) (t := 14) dX8_in_2 (by decide) rfl (fun c_2 => ?_) (fun c_2 => ?_)
  · refine zx_iconst (q := 15) (v := 0) dX8_in_14 (by decide) rfl ?_
    refine zx_zret dX8_in_15 rfl (by first | rfl | exact zb_nar _) (Nat.le_refl _) (Nat.le_refl _) ⟨_, rfl, ?_⟩
    exact ⟨by simp only [Int32.lt_iff_toInt_lt] at *; simp [zb, z_in, Int32.le_iff_toInt_le]; omega, rfl⟩
  · refine zx_iload_n (q := 6) dX8_in_5 rfl rfl rfl ?_
    refine zx_iload_n (q := 7) dX8_in_6 rfl rfl rfl ?_
    refine zx_icmp_gt (q := 10) (t := 14) dX8_in_7 (by decide) rfl (fun c_7 => ?_) (fun c_7 => ?_)
    · refine zx_iconst (q := 15) (v := 0) dX8_in_14 (by decide) rfl ?_
      refine zx_zret dX8_in_15 rfl (by first | rfl | exact zb_nar _) (Nat.le_refl _) (Nat.le_refl _) ⟨_, rfl, ?_⟩
      exact ⟨by simp only [Int32.lt_iff_toInt_lt] at *; simp [zb, z_in, Int32.le_iff_toInt_le]; omega, rfl⟩
    · refine zx_iconst (q := 11) (v := 1) dX8_in_10 (by decide) rfl ?_
      refine zx_goto (t := 15) dX8_in_11 (by decide) ?_
      refine zx_zret dX8_in_15 rfl (by first | rfl | exact zb_nar _) (Nat.le_refl _) (Nat.le_refl _) ⟨_, rfl, ?_⟩
      exact ⟨by simp only [Int32.lt_iff_toInt_lt] at *; simp [zb, z_in, Int32.le_iff_toInt_le]; omega, rfl⟩
theorem t_X7_isDigit (d : Nat) (v : Int32) : zCall l D tc A mX7_isDigit (d + 1) 0 0 [.int v] S (zQi fun r S' => r = zb (z_in v 0 9) ∧ S' = S) := by
  show zW l D tc A mX7_isDigit (d + 1) 0 0 0 0 0 [some (.int v)] [] S _
  refine zx_iload_n (q := 1) dX7_isDigit_0 rfl rfl rfl ?_
  refine zx_iconst (q := 2) (v := 0) dX7_isDigit_1 (by decide) rfl ?_
  refine zx_bipush (q := 4) (v := 9) dX7_isDigit_2 (by decide) rfl ?_
  refine zx_callS3i (q := 7) (y' := mX7_within) dX7_isDigit_4 ml_RX7_73 ok_mX7_within (Nat.le_of_ble_eq_true rfl) (Nat.le_of_ble_eq_true rfl) (Nat.le_refl _) (Nat.le_refl _) rfl (t_X7_within _ _ _ _) ?_
  rintro _ _ ⟨rfl, rfl⟩
  refine zx_zret dX7_isDigit_7 rfl (by first | rfl | exact zb_nar _) (Nat.le_refl _) (Nat.le_refl _) ⟨_, rfl, ?_⟩
  exact ⟨rfl, rfl⟩
theorem t_X7_isHole (d : Nat) (v : Int32) : zCall l D tc A mX7_isHole (d + 1) 0 0 [.int v] S (zQi fun r S' => r = zb (z_in v 0 2) ∧ S' = S) := by
  show zW l D tc A mX7_isHole (d + 1) 0 0 0 0 0 [some (.int v)] [] S _
  refine zx_iload_n (q := 1) dX7_isHole_0 rfl rfl rfl ?_
  refine zx_iconst (q := 2) (v := 0) dX7_isHole_1 (by decide) rfl ?_
  refine zx_iconst (q := 3) (v := 2) dX7_isHole_2 (by decide) rfl ?_
  refine zx_callS3i (q := 6) (y' := mX7_within) dX7_isHole_3 ml_RX7_73 ok_mX7_within (Nat.le_of_ble_eq_true rfl) (Nat.le_of_ble_eq_true rfl) (Nat.le_refl _) (Nat.le_refl _) rfl (t_X7_within _ _ _ _) ?_
  rintro _ _ ⟨rfl, rfl⟩
  refine zx_zret dX7_isHole_6 rfl (by first | rfl | exact zb_nar _) (Nat.le_refl _) (Nat.le_refl _) ⟨_, rfl, ?_⟩
  exact ⟨rfl, rfl⟩
theorem t_X7_isTape (d : Nat) (v : Int32) : zCall l D tc A mX7_isTape (d + 1) 0 0 [.int v] S (zQi fun r S' => r = zb (z_in v 0 5) ∧ S' = S) := by
  show zW l D tc A mX7_isTape (d + 1) 0 0 0 0 0 [some (.int v)] [] S _
  refine zx_iload_n (q := 1) dX7_isTape_0 rfl rfl rfl ?_
  refine zx_iconst (q := 2) (v := 0) dX7_isTape_1 (by decide) rfl ?_
  refine zx_iconst (q := 3) (v := 5) dX7_isTape_2 (by decide) rfl ?_
  refine zx_callS3i (q := 6) (y' := mX7_within) dX7_isTape_3 ml_RX7_73 ok_mX7_within (Nat.le_of_ble_eq_true rfl) (Nat.le_of_ble_eq_true rfl) (Nat.le_refl _) (Nat.le_refl _) rfl (t_X7_within _ _ _ _) ?_
  rintro _ _ ⟨rfl, rfl⟩
  refine zx_zret dX7_isTape_6 rfl (by first | rfl | exact zb_nar _) (Nat.le_refl _) (Nat.le_refl _) ⟨_, rfl, ?_⟩
  exact ⟨rfl, rfl⟩
theorem t_X7_isSort (d : Nat) (v : Int32) : zCall l D tc A mX7_isSort (d + 1) 0 0 [.ref 0, .int v] (zs gi gl f) (zQi fun r S' => r = zb (z_in v 0 (gi 1 0 - 1)) ∧ S' = zs gi gl f) := by
  show zW l D tc A mX7_isSort (d + 1) 0 0 0 0 0 [some (.ref 0), some (.int v)] [] (zs gi gl f) _
  refine zx_iload_n (q := 1) dX7_isSort_0 rfl rfl rfl ?_
  refine zx_iconst (q := 2) (v := 0) dX7_isSort_1 (by decide) rfl ?_
  refine zx_aload_n (q := 3) dX7_isSort_2 rfl rfl rfl ?_
  refine zy_getR (q := 6) dX7_isSort_3 fl_RX7_12 rfl rfl rfl rfl ?_
  refine zy_getI (q := 9) dX7_isSort_6 fl_RX7_81 rfl rfl rfl ?_
  refine zx_iconst (q := 10) (v := 1) dX7_isSort_9 (by decide) rfl ?_
  refine zx_isub (q := 11) dX7_isSort_10 rfl ?_
  refine zx_callS3i (q := 14) (y' := mX7_within) dX7_isSort_11 ml_RX7_73 ok_mX7_within (Nat.le_of_ble_eq_true rfl) (Nat.le_of_ble_eq_true rfl) (Nat.le_refl _) (Nat.le_refl _) rfl (t_X7_within _ _ _ _) ?_
  rintro _ _ ⟨rfl, rfl⟩
  refine zx_zret dX7_isSort_14 rfl (by first | rfl | exact zb_nar _) (Nat.le_refl _) (Nat.le_refl _) ⟨_, rfl, ?_⟩
  exact ⟨rfl, rfl⟩
theorem t_X8_isDigit9 (d : Nat) (v : Int32) : zCall l D tc A mX8_isDigit9 (d + 1) 0 0 [.ref 108, .int v] (zs gi gl f) (zQi fun r S' => r = zb (z_in v 0 9) ∧ S' = zs gi gl f) := by
  show zW l D tc A mX8_isDigit9 (d + 1) 0 0 0 0 0 [some (.ref 108), some (.int v)] [] (zs gi gl f) _
  refine zx_aload_n (q := 1) dX8_isDigit9_0 rfl rfl rfl ?_
  refine zx_iload_n (q := 2) dX8_isDigit9_1 rfl rfl rfl ?_
  refine zx_iconst (q := 3) (v := 0) dX8_isDigit9_2 (by decide) rfl ?_
  refine zx_bipush (q := 5) (v := 9) dX8_isDigit9_3 (by decide) rfl ?_
  refine zx_callV3i (q := 8) (y' := mX8_in) dX8_isDigit9_5 ml_RX8_200 ok_mX8_in rfl (by decide) rfl (Nat.le_of_ble_eq_true rfl) (Nat.le_of_ble_eq_true rfl) (Nat.le_refl _) (Nat.le_refl _) rfl (t_X8_in _ _ _ _ _) ?_
  rintro _ _ ⟨rfl, rfl⟩
  refine zx_zret dX8_isDigit9_8 rfl (by first | rfl | exact zb_nar _) (Nat.le_refl _) (Nat.le_refl _) ⟨_, rfl, ?_⟩
  exact ⟨rfl, rfl⟩
theorem t_X8_isTape (d : Nat) (v : Int32) : zCall l D tc A mX8_isTape (d + 1) 0 0 [.ref 108, .int v] (zs gi gl f) (zQi fun r S' => r = zb (z_in v 0 5) ∧ S' = zs gi gl f) := by
  show zW l D tc A mX8_isTape (d + 1) 0 0 0 0 0 [some (.ref 108), some (.int v)] [] (zs gi gl f) _
  refine zx_aload_n (q := 1) dX8_isTape_0 rfl rfl rfl ?_
  refine zx_iload_n (q := 2) dX8_isTape_1 rfl rfl rfl ?_
  refine zx_iconst (q := 3) (v := 0) dX8_isTape_2 (by decide) rfl ?_
  refine zx_iconst (q := 4) (v := 5) dX8_isTape_3 (by decide) rfl ?_
  refine zx_callV3i (q := 7) (y' := mX8_in) dX8_isTape_4 ml_RX8_200 ok_mX8_in rfl (by decide) rfl (Nat.le_of_ble_eq_true rfl) (Nat.le_of_ble_eq_true rfl) (Nat.le_refl _) (Nat.le_refl _) rfl (t_X8_in _ _ _ _ _) ?_
  rintro _ _ ⟨rfl, rfl⟩
  refine zx_zret dX8_isTape_7 rfl (by first | rfl | exact zb_nar _) (Nat.le_refl _) (Nat.le_refl _) ⟨_, rfl, ?_⟩
  exact ⟨rfl, rfl⟩
theorem t_X8_isSort (d : Nat) (v : Int32) : zCall l D tc A mX8_isSort (d + 1) 0 0 [.ref 108, .int v] (zs gi gl f) (zQi fun r S' => r = zb (z_in v 0 (gi 108 0 - 1)) ∧ S' = zs gi gl f) := by
  show zW l D tc A mX8_isSort (d + 1) 0 0 0 0 0 [some (.ref 108), some (.int v)] [] (zs gi gl f) _
  refine zx_aload_n (q := 1) dX8_isSort_0 rfl rfl rfl ?_
  refine zx_iload_n (q := 2) dX8_isSort_1 rfl rfl rfl ?_
  refine zx_iconst (q := 3) (v := 0) dX8_isSort_2 (by decide) rfl ?_
  refine zx_aload_n (q := 4) dX8_isSort_3 rfl rfl rfl ?_
  refine zy_getI (q := 7) dX8_isSort_4 fl_RX8_7 rfl rfl rfl ?_
  refine zx_iconst (q := 8) (v := 1) dX8_isSort_7 (by decide) rfl ?_
  refine zx_isub (q := 9) dX8_isSort_8 rfl ?_
  refine zx_callV3i (q := 12) (y' := mX8_in) dX8_isSort_9 ml_RX8_200 ok_mX8_in rfl (by decide) rfl (Nat.le_of_ble_eq_true rfl) (Nat.le_of_ble_eq_true rfl) (Nat.le_refl _) (Nat.le_refl _) rfl (t_X8_in _ _ _ _ _) ?_
  rintro _ _ ⟨rfl, rfl⟩
  refine zx_zret dX8_isSort_12 rfl (by first | rfl | exact zb_nar _) (Nat.le_refl _) (Nat.le_refl _) ⟨_, rfl, ?_⟩
  exact ⟨rfl, rfl⟩
theorem t_X7_month (d : Nat) (v : Int32) : zCall l D tc A mX7_month (d + 2) 0 0 [.ref 0, .int v] (zs gi gl f) (zQi fun r S' => (z_in v 0 11 = true → r = gi 1 4 ∧ S' = zs (zw_u gi 1 4 v) gl f) ∧ (z_in v 0 11 = false → r = -2 ∧ S' = zs gi gl f)) := by
  show zW l D tc A mX7_month (d + 2) 0 0 0 0 0 [some (.ref 0), some (.int v), none] [] (zs gi gl f) _
  refine zx_iload_n (q := 1) dX7_month_0 rfl rfl rfl ?_
  refine zx_iconst (q := 2) (v := 0) dX7_month_1 (by decide) rfl ?_
  refine zx_bipush (q := 4) (v := 11) dX7_month_2 (by decide) rfl ?_
  refine zx_callS3i (q := 7) (y' := mX7_within) dX7_month_4 ml_RX7_73 ok_mX7_within (Nat.le_of_ble_eq_true rfl) (Nat.le_of_ble_eq_true rfl) (Nat.le_refl _) (Nat.le_refl _) rfl (t_X7_within _ _ _ _) ?_
  rintro _ _ ⟨rfl, rfl⟩
  refine zx_if_ne (q := 10) (t := 13) dX7_month_7 (by decide) rfl (fun c_7 => ?_) (fun c_7 => ?_)
  · refine zx_aload_n (q := 14) dX7_month_13 rfl rfl rfl ?_
    refine zy_getR (q := 17) dX7_month_14 fl_RX7_12 rfl rfl rfl rfl ?_
    refine zy_getI (q := 20) dX7_month_17 fl_RX7_110 rfl rfl rfl ?_
    refine zx_istore2 (q := 21) dX7_month_20 rfl rfl ?_
    refine zx_aload_n (q := 22) dX7_month_21 rfl rfl rfl ?_
    refine zy_getR (q := 25) dX7_month_22 fl_RX7_12 rfl rfl rfl rfl ?_
    refine zx_iload_n (q := 26) dX7_month_25 rfl rfl rfl ?_
    refine zy_putI (q := 29) dX7_month_26 fl_RX7_110 rfl rfl ⟨rfl, rfl⟩ rfl rfl ?_
    refine zx_iload_n (q := 30) dX7_month_29 rfl rfl rfl ?_
    refine zx_iret dX7_month_30 rfl (Nat.le_refl _) (Nat.le_refl _) ⟨_, rfl, ?_⟩
    simp_all [zb_z, zb_nz]
  · refine zx_bipush (q := 12) (v := (-2)) dX7_month_10 (by decide) rfl ?_
    refine zx_iret dX7_month_12 rfl (Nat.le_refl _) (Nat.le_refl _) ⟨_, rfl, ?_⟩
    simp_all [zb_z, zb_nz]
theorem t_X8_month (d : Nat) (v : Int32) : zCall l D tc A mX8_month (d + 2) 0 0 [.ref 108, .int v] (zs gi gl f) (zQi fun r S' => (z_in v 0 11 = true → r = gi 108 1 ∧ S' = zs (zw_u gi 108 1 v) gl f) ∧ (z_in v 0 11 = false → r = -2 ∧ S' = zs gi gl f)) := by
  show zW l D tc A mX8_month (d + 2) 0 0 0 0 0 [some (.ref 108), some (.int v), none] [] (zs gi gl f) _
  refine zx_aload_n (q := 1) dX8_month_0 rfl rfl rfl ?_
  refine zx_iload_n (q := 2) dX8_month_1 rfl rfl rfl ?_
  refine zx_iconst (q := 3) (v := 0) dX8_month_2 (by decide) rfl ?_
  refine zx_bipush (q := 5) (v := 11) dX8_month_3 (by decide) rfl ?_
  refine zx_callV3i (q := 8) (y' := mX8_in) dX8_month_5 ml_RX8_200 ok_mX8_in rfl (by decide) rfl (Nat.le_of_ble_eq_true rfl) (Nat.le_of_ble_eq_true rfl) (Nat.le_refl _) (Nat.le_refl _) rfl (t_X8_in _ _ _ _ _) ?_
  rintro _ _ ⟨rfl, rfl⟩
  refine zx_if_ne (q := 11) (t := 14) dX8_month_8 (by decide) rfl (fun c_8 => ?_) (fun c_8 => ?_)
  · refine zx_aload_n (q := 15) dX8_month_14 rfl rfl rfl ?_
    refine zy_getI (q := 18) dX8_month_15 fl_RX8_13 rfl rfl rfl ?_
    refine zx_istore2 (q := 19) dX8_month_18 rfl rfl ?_
    refine zx_aload_n (q := 20) dX8_month_19 rfl rfl rfl ?_
    refine zx_iload_n (q := 21) dX8_month_20 rfl rfl rfl ?_
    refine zy_putI (q := 24) dX8_month_21 fl_RX8_13 rfl rfl ⟨rfl, rfl⟩ rfl rfl ?_
    refine zx_iload_n (q := 25) dX8_month_24 rfl rfl rfl ?_
    refine zx_iret dX8_month_25 rfl (Nat.le_refl _) (Nat.le_refl _) ⟨_, rfl, ?_⟩
    simp_all [zb_z, zb_nz]
  · refine zx_bipush (q := 13) (v := (-2)) dX8_month_11 (by decide) rfl ?_
    refine zx_iret dX8_month_13 rfl (Nat.le_refl _) (Nat.le_refl _) ⟨_, rfl, ?_⟩
    simp_all [zb_z, zb_nz]
end P10
