/-! acts -/
def z_rn (k : Nat) (i v : Int32) : Nat → Nat → Nat → Int32 → Int32 × List Int32
  | 0, _, _, _ => (0, [])
  | n + 1, a, s, x => if zw_BD (3 * s + a) = 10 then (x + i, 10 :: []) else if zw_BD (3 * s + a) = 11 then ((z_rn k i v n 0 k x).1 - v, 11 :: ((z_rn k i v n 0 k x).2)) else if zw_BD (3 * s + a) = 12 then ((z_rn k i v n 1 k x).1 * 2, 12 :: ((z_rn k i v n 1 k x).2)) else if zw_BD (3 * s + a) = 20 then ((z_rn k i v n 1 0 x).1 ^^^ 6, 20 :: ((z_rn k i v n 1 0 x).2)) else if zw_BD (3 * s + a) = 30 then ((z_rn k i v n 0 0 (x * 3)).1, 30 :: ((z_rn k i v n 0 0 (x * 3)).2)) else if zw_BD (3 * s + a) = 40 then ((z_rn k i v n 2 0 x).1 + (z_rn k i v n 1 k 1).1, 40 :: ((z_rn k i v n 2 0 x).2 ++ (z_rn k i v n 1 k 1).2)) else if zw_BD (3 * s + a) = 50 then (-(z_rn k i v n 0 1 x).1, 50 :: ((z_rn k i v n 0 1 x).2)) else if zw_BD (3 * s + a) = 51 then ((z_rn k i v n 1 1 (x + 1)).1, 51 :: ((z_rn k i v n 1 1 (x + 1)).2)) else if zw_BD (3 * s + a) = 60 then ((z_rn k i v n 2 2 (x - i)).1, 60 :: ((z_rn k i v n 2 2 (x - i)).2)) else if zw_BD (3 * s + a) = 70 then ((z_rn k i v n 1 3 x).1 + (z_rn k i v n 0 3 2).1, 70 :: ((z_rn k i v n 1 3 x).2 ++ (z_rn k i v n 0 3 2).2)) else ((z_rn k i v n 0 3 x).1 ^^^ v, 71 :: ((z_rn k i v n 0 3 x).2))
theorem z_rn_10 {k n a s : Nat} {i v x : Int32} (h : zw_BD (3 * s + a) = 10) : z_rn k i v (n + 1) a s x = (x + i, 10 :: []) := by
  rw [z_rn]
  rw [if_pos h]
theorem z_rn_11 {k n a s : Nat} {i v x : Int32} (h : zw_BD (3 * s + a) = 11) : z_rn k i v (n + 1) a s x = ((z_rn k i v n 0 k x).1 - v, 11 :: ((z_rn k i v n 0 k x).2)) := by
  rw [z_rn]
  rw [if_neg (by rw [h]; decide)]
  rw [if_pos h]
theorem z_rn_12 {k n a s : Nat} {i v x : Int32} (h : zw_BD (3 * s + a) = 12) : z_rn k i v (n + 1) a s x = ((z_rn k i v n 1 k x).1 * 2, 12 :: ((z_rn k i v n 1 k x).2)) := by
  rw [z_rn]
  rw [if_neg (by rw [h]; decide)]
  rw [if_neg (by rw [h]; decide)]
  rw [if_pos h]
theorem z_rn_20 {k n a s : Nat} {i v x : Int32} (h : zw_BD (3 * s + a) = 20) : z_rn k i v (n + 1) a s x = ((z_rn k i v n 1 0 x).1 ^^^ 6, 20 :: ((z_rn k i v n 1 0 x).2)) := by
  rw [z_rn]
  rw [if_neg (by rw [h]; decide)]
  rw [if_neg (by rw [h]; decide)]
  rw [if_neg (by rw [h]; decide)]
  rw [if_pos h]
theorem z_rn_30 {k n a s : Nat} {i v x : Int32} (h : zw_BD (3 * s + a) = 30) : z_rn k i v (n + 1) a s x = ((z_rn k i v n 0 0 (x * 3)).1, 30 :: ((z_rn k i v n 0 0 (x * 3)).2)) := by
  rw [z_rn]
  rw [if_neg (by rw [h]; decide)]
  rw [if_neg (by rw [h]; decide)]
  rw [if_neg (by rw [h]; decide)]
  rw [if_neg (by rw [h]; decide)]
  rw [if_pos h]
theorem z_rn_40 {k n a s : Nat} {i v x : Int32} (h : zw_BD (3 * s + a) = 40) : z_rn k i v (n + 1) a s x = ((z_rn k i v n 2 0 x).1 + (z_rn k i v n 1 k 1).1, 40 :: ((z_rn k i v n 2 0 x).2 ++ (z_rn k i v n 1 k 1).2)) := by
  rw [z_rn]
  rw [if_neg (by rw [h]; decide)]
  rw [if_neg (by rw [h]; decide)]
  rw [if_neg (by rw [h]; decide)]
  rw [if_neg (by rw [h]; decide)]
  rw [if_neg (by rw [h]; decide)]
  rw [if_pos h]
theorem z_rn_50 {k n a s : Nat} {i v x : Int32} (h : zw_BD (3 * s + a) = 50) : z_rn k i v (n + 1) a s x = (-(z_rn k i v n 0 1 x).1, 50 :: ((z_rn k i v n 0 1 x).2)) := by
  rw [z_rn]
  rw [if_neg (by rw [h]; decide)]
  rw [if_neg (by rw [h]; decide)]
  rw [if_neg (by rw [h]; decide)]
  rw [if_neg (by rw [h]; decide)]
  rw [if_neg (by rw [h]; decide)]
  rw [if_neg (by rw [h]; decide)]
  rw [if_pos h]
theorem z_rn_51 {k n a s : Nat} {i v x : Int32} (h : zw_BD (3 * s + a) = 51) : z_rn k i v (n + 1) a s x = ((z_rn k i v n 1 1 (x + 1)).1, 51 :: ((z_rn k i v n 1 1 (x + 1)).2)) := by
  rw [z_rn]
  rw [if_neg (by rw [h]; decide)]
  rw [if_neg (by rw [h]; decide)]
  rw [if_neg (by rw [h]; decide)]
  rw [if_neg (by rw [h]; decide)]
  rw [if_neg (by rw [h]; decide)]
  rw [if_neg (by rw [h]; decide)]
  rw [if_neg (by rw [h]; decide)]
  rw [if_pos h]
theorem z_rn_60 {k n a s : Nat} {i v x : Int32} (h : zw_BD (3 * s + a) = 60) : z_rn k i v (n + 1) a s x = ((z_rn k i v n 2 2 (x - i)).1, 60 :: ((z_rn k i v n 2 2 (x - i)).2)) := by
  rw [z_rn]
  rw [if_neg (by rw [h]; decide)]
  rw [if_neg (by rw [h]; decide)]
  rw [if_neg (by rw [h]; decide)]
  rw [if_neg (by rw [h]; decide)]
  rw [if_neg (by rw [h]; decide)]
  rw [if_neg (by rw [h]; decide)]
  rw [if_neg (by rw [h]; decide)]
  rw [if_neg (by rw [h]; decide)]
  rw [if_pos h]
theorem z_rn_70 {k n a s : Nat} {i v x : Int32} (h : zw_BD (3 * s + a) = 70) : z_rn k i v (n + 1) a s x = ((z_rn k i v n 1 3 x).1 + (z_rn k i v n 0 3 2).1, 70 :: ((z_rn k i v n 1 3 x).2 ++ (z_rn k i v n 0 3 2).2)) := by
  rw [z_rn]
  rw [if_neg (by rw [h]; decide)]
  rw [if_neg (by rw [h]; decide)]
  rw [if_neg (by rw [h]; decide)]
  rw [if_neg (by rw [h]; decide)]
  rw [if_neg (by rw [h]; decide)]
  rw [if_neg (by rw [h]; decide)]
  rw [if_neg (by rw [h]; decide)]
  rw [if_neg (by rw [h]; decide)]
  rw [if_neg (by rw [h]; decide)]
  rw [if_pos h]
theorem z_rn_71 {k n a s : Nat} {i v x : Int32} (hb : zw_BD (3 * s + a) = 71) (h10 : ¬ zw_BD (3 * s + a) = 10) (h11 : ¬ zw_BD (3 * s + a) = 11) (h12 : ¬ zw_BD (3 * s + a) = 12) (h20 : ¬ zw_BD (3 * s + a) = 20) (h30 : ¬ zw_BD (3 * s + a) = 30) (h40 : ¬ zw_BD (3 * s + a) = 40) (h50 : ¬ zw_BD (3 * s + a) = 50) (h51 : ¬ zw_BD (3 * s + a) = 51) (h60 : ¬ zw_BD (3 * s + a) = 60) (h70 : ¬ zw_BD (3 * s + a) = 70) : z_rn k i v (n + 1) a s x = ((z_rn k i v n 0 3 x).1 ^^^ v, 71 :: ((z_rn k i v n 0 3 x).2)) := by
  rw [z_rn, if_neg h10, if_neg h11, if_neg h12, if_neg h20, if_neg h30, if_neg h40, if_neg h50, if_neg h51, if_neg h60, if_neg h70]
theorem z_BD_all : ∀ j, j < 21 → zw_BD j = 10 ∨ zw_BD j = 11 ∨ zw_BD j = 12 ∨ zw_BD j = 20 ∨ zw_BD j = 30 ∨ zw_BD j = 40 ∨ zw_BD j = 50 ∨ zw_BD j = 51 ∨ zw_BD j = 60 ∨ zw_BD j = 70 ∨ zw_BD j = 71 := by decide +kernel
theorem z_BD_71 (j : Nat) (hj : j < 21) (h1 : ¬ zw_BD j = 10) (h2 : ¬ zw_BD j = 11) (h3 : ¬ zw_BD j = 12) (h4 : ¬ zw_BD j = 20) (h5 : ¬ zw_BD j = 30) (h6 : ¬ zw_BD j = 40) (h7 : ¬ zw_BD j = 50) (h8 : ¬ zw_BD j = 51) (h9 : ¬ zw_BD j = 60) (h10 : ¬ zw_BD j = 70) : zw_BD j = 71 := by
  rcases z_BD_all j hj with h | h | h | h | h | h | h | h | h | h | h <;> first | exact h | contradiction
/-- one more body in a trace: the count at (c, j), the bodies at b -/
def z_t1 (c j b : Nat) (g : Nat → Nat → Int32) (r : Nat) (x : Int32) : Nat → Nat → Int32 := zw_u (if r < 20 then zw_u g b r x else g) c j (nI (r + 1))
def z_tr (c j b : Nat) (g : Nat → Nat → Int32) (r : Nat) : List Int32 → Nat → Nat → Int32
  | [] => g
  | x :: l => z_tr c j b (z_t1 c j b g r x) (r + 1) l
theorem z_t1_ne {c j b : Nat} {g : Nat → Nat → Int32} {r : Nat} {x : Int32} {p q : Nat} (h1 : ¬ (p = c ∧ q = j)) (h2 : ¬ p = b) : z_t1 c j b g r x p q = g p q := by
  unfold z_t1
  rw [z_u_ne _ _ h1]
  split
  · rw [z_u_ne _ _ (fun z => h2 z.1)]
  · rfl
theorem z_t1_at {c j b : Nat} {g : Nat → Nat → Int32} {r : Nat} {x : Int32} : z_t1 c j b g r x c j = nI (r + 1) := by
  unfold z_t1
  rw [z_u_at]
theorem z_tr_ne {c j b : Nat} {p q : Nat} (h1 : ¬ (p = c ∧ q = j)) (h2 : ¬ p = b) : ∀ (l : List Int32) (g : Nat → Nat → Int32) (r : Nat), z_tr c j b g r l p q = g p q := by
  intro l
  induction l with
  | nil => intro g r; rfl
  | cons x l ih => intro g r; rw [z_tr, ih, z_t1_ne h1 h2]
theorem z_tr_at {c j b : Nat} : ∀ (l : List Int32) (g : Nat → Nat → Int32) (r : Nat), g c j = nI r → z_tr c j b g r l c j = nI (r + l.length) := by
  intro l
  induction l with
  | nil => intro g r h; exact h
  | cons x l ih =>
    intro g r h
    rw [z_tr, ih _ _ z_t1_at]
    rw [List.length_cons]
    congr 1
    omega
theorem z_tr_app {c j b : Nat} : ∀ (l1 l2 : List Int32) (g : Nat → Nat → Int32) (r : Nat), z_tr c j b g r (l1 ++ l2) = z_tr c j b (z_tr c j b g r l1) (r + l1.length) l2 := by
  intro l1
  induction l1 with
  | nil => intro l2 g r; rfl
  | cons x l ih =>
    intro l2 g r
    rw [List.cons_append, z_tr, z_tr, ih, List.length_cons]
    congr 1
    omega
theorem z_3r (s a : Nat) : nI s * 3 + nI a = nI (3 * s + a) := by
  rw [show (3 : Int32) = nI 3 from rfl, z_mul, nI_add, Nat.mul_comm]
section P26
variable {l : Launch} {D : va_G} {tc : Nat → ClassId} {A : Nat → Prop} {S : zw_S} {gi : Nat → Nat → Int32} {gl : Nat → Nat → Int64} {f : Option Nat} {Q : Option Value → zw_S → Prop}
theorem t_X0_begins (d r : Nat) (x : Int32) (hr : gi 63 0 = nI r) (hr2 : r < 2000) : zCall l D tc A mX0_begins d 0 0 [.ref 63, .int x] (zs gi gl f) (zQv fun S' => S' = zs (z_t1 63 0 64 gi r x) gl f) := by
  show zW l D tc A mX0_begins d 0 0 0 0 0 [some (.ref 63), some (.int x)] [] (zs gi gl f) _
  refine zx_aload_n (q := 1) dX0_begins_0 rfl rfl rfl ?_
  refine zy_getIe (q := 4) (v := nI r) dX0_begins_1 fl_RX0_15 rfl rfl (hr) rfl ?_
  refine zx_bipush (q := 6) (v := 20) dX0_begins_4 (by decide) rfl ?_
  refine zx_icmp_ge (q := 9) (t := 19) dX0_begins_6 (by decide) rfl (fun c_6 => ?_) (fun c_6 => ?_)
  · have h20 : ¬ r < 20 := fun z => nI_ge (a := r) (b := 20) z (by decide) c_6
    refine zx_aload_n (q := 20) dX0_begins_19 rfl rfl rfl ?_
    refine zx_dup (q := 21) dX0_begins_20 rfl rfl ?_
    refine zy_getIe (q := 24) (v := nI r) dX0_begins_21 fl_RX0_15 rfl rfl (hr) rfl ?_
    refine zx_iconst (q := 25) (v := 1) dX0_begins_24 (by decide) rfl ?_
    refine zx_iadd (q := 26) dX0_begins_25 rfl ?_
    rw [nI_1]
    refine zy_putI (q := 29) dX0_begins_26 fl_RX0_15 rfl rfl ⟨rfl, rfl⟩ rfl rfl ?_
    refine zx_vret dX0_begins_29 rfl (Nat.le_refl _) (Nat.le_refl _) ⟨rfl, ?_⟩
    unfold z_t1
    first
      | (rw [if_pos h20]; done)
      | (rw [if_neg h20]; done)
      | rw [if_pos h20]
      | rw [if_neg h20]
  · have h20 : r < 20 := (Nat.lt_or_ge r 20).resolve_right (fun q => absurd (nI_le q (by omega)) c_6)
    refine zx_aload_n (q := 10) dX0_begins_9 rfl rfl rfl ?_
    refine zy_getR (q := 13) dX0_begins_10 fl_RX0_9 rfl rfl rfl rfl ?_
    refine zx_aload_n (q := 14) dX0_begins_13 rfl rfl rfl ?_
    refine zy_getIe (q := 17) (v := nI r) dX0_begins_14 fl_RX0_15 rfl rfl (hr) rfl ?_
    refine zx_iload_n (q := 18) dX0_begins_17 rfl rfl rfl ?_
    refine zy_iastN (q := 19) dX0_begins_18 rfl (by omega) (by first | decide | omega) rfl ?_
    refine zx_aload_n (q := 20) dX0_begins_19 rfl rfl rfl ?_
    refine zx_dup (q := 21) dX0_begins_20 rfl rfl ?_
    refine zy_getIe (q := 24) (v := nI r) dX0_begins_21 fl_RX0_15 rfl rfl (hr) rfl ?_
    refine zx_iconst (q := 25) (v := 1) dX0_begins_24 (by decide) rfl ?_
    refine zx_iadd (q := 26) dX0_begins_25 rfl ?_
    rw [nI_1]
    refine zy_putI (q := 29) dX0_begins_26 fl_RX0_15 rfl rfl ⟨rfl, rfl⟩ rfl rfl ?_
    refine zx_vret dX0_begins_29 rfl (Nat.le_refl _) (Nat.le_refl _) ⟨rfl, ?_⟩
    unfold z_t1
    first
      | (rw [if_pos h20]; done)
      | (rw [if_neg h20]; done)
      | rw [if_pos h20]
      | rw [if_neg h20]
theorem t_X8_body (d r : Nat) (x : Int32) (hr : gi 108 56 = nI r) (hr2 : r < 2000) : zCall l D tc A mX8_body d 0 0 [.ref 108, .int x] (zs gi gl f) (zQv fun S' => S' = zs (z_t1 108 56 145 gi r x) gl f) := by
  show zW l D tc A mX8_body d 0 0 0 0 0 [some (.ref 108), some (.int x)] [] (zs gi gl f) _
  refine zx_aload_n (q := 1) dX8_body_0 rfl rfl rfl ?_
  refine zy_getIe (q := 4) (v := nI r) dX8_body_1 fl_RX8_181 rfl rfl (hr) rfl ?_
  refine zx_bipush (q := 6) (v := 20) dX8_body_4 (by decide) rfl ?_
  refine zx_icmp_ge (q := 9) (t := 19) dX8_body_6 (by decide) rfl (fun c_6 => ?_) (fun c_6 => ?_)
  · have h20 : ¬ r < 20 := fun z => nI_ge (a := r) (b := 20) z (by decide) c_6
    refine zx_aload_n (q := 20) dX8_body_19 rfl rfl rfl ?_
    refine zx_dup (q := 21) dX8_body_20 rfl rfl ?_
    refine zy_getIe (q := 24) (v := nI r) dX8_body_21 fl_RX8_181 rfl rfl (hr) rfl ?_
    refine zx_iconst (q := 25) (v := 1) dX8_body_24 (by decide) rfl ?_
    refine zx_iadd (q := 26) dX8_body_25 rfl ?_
    rw [nI_1]
    refine zy_putI (q := 29) dX8_body_26 fl_RX8_181 rfl rfl ⟨rfl, rfl⟩ rfl rfl ?_
    refine zx_vret dX8_body_29 rfl (Nat.le_refl _) (Nat.le_refl _) ⟨rfl, ?_⟩
    unfold z_t1
    first
      | (rw [if_pos h20]; done)
      | (rw [if_neg h20]; done)
      | rw [if_pos h20]
      | rw [if_neg h20]
  · have h20 : r < 20 := (Nat.lt_or_ge r 20).resolve_right (fun q => absurd (nI_le q (by omega)) c_6)
    refine zx_aload_n (q := 10) dX8_body_9 rfl rfl rfl ?_
    refine zy_getR (q := 13) dX8_body_10 fl_RX8_184 rfl rfl rfl rfl ?_
    refine zx_aload_n (q := 14) dX8_body_13 rfl rfl rfl ?_
    refine zy_getIe (q := 17) (v := nI r) dX8_body_14 fl_RX8_181 rfl rfl (hr) rfl ?_
    refine zx_iload_n (q := 18) dX8_body_17 rfl rfl rfl ?_
    refine zy_iastN (q := 19) dX8_body_18 rfl (by omega) (by first | decide | omega) rfl ?_
    refine zx_aload_n (q := 20) dX8_body_19 rfl rfl rfl ?_
    refine zx_dup (q := 21) dX8_body_20 rfl rfl ?_
    refine zy_getIe (q := 24) (v := nI r) dX8_body_21 fl_RX8_181 rfl rfl (hr) rfl ?_
    refine zx_iconst (q := 25) (v := 1) dX8_body_24 (by decide) rfl ?_
    refine zx_iadd (q := 26) dX8_body_25 rfl ?_
    rw [nI_1]
    refine zy_putI (q := 29) dX8_body_26 fl_RX8_181 rfl rfl ⟨rfl, rfl⟩ rfl rfl ?_
    refine zx_vret dX8_body_29 rfl (Nat.le_refl _) (Nat.le_refl _) ⟨rfl, ?_⟩
    unfold z_t1
    first
      | (rw [if_pos h20]; done)
      | (rw [if_neg h20]; done)
      | rw [if_pos h20]
      | rw [if_neg h20]
set_option maxHeartbeats 4000000 in
theorem t_X0_run (d k : Nat) (i v : Int32) (hk : k < 7) : ∀ (n a s : Nat) (x : Int32) (r : Nat) (gi : Nat → Nat → Int32), a < 3 → s < 7 → gi 63 2 = nI k → gi 63 3 = i → gi 63 4 = v → gi 63 0 = nI r → n ≤ 20 → r + (z_rn k i v n a s x).2.length < 1000 →
    zCall l D tc A mX0_run (d + n + 1) 0 0 [.ref 63, .int (nI a), .int (nI s), .int x, .int (nI (20 - n))] (zs gi gl f) (zQi fun q S' => q = (z_rn k i v n a s x).1 ∧ S' = zs (z_tr 63 0 64 gi r (z_rn k i v n a s x).2) gl f) := by
  intro n
  induction n with
  | zero =>
    intro a s x r gi ha hs hK hI hV hr hn hlen
    show zW l D tc A mX0_run (d + 0 + 1) 0 0 0 0 0 [some (.ref 63), some (.int (nI a)), some (.int (nI s)), some (.int x), some (.int (nI 20)), none, none] [] (zs gi gl f) _
    refine zx_iload (q := 2) dX0_run_0 rfl rfl ?_
    refine zx_bipush (q := 4) (v := 20) dX0_run_2 (by decide) rfl ?_
    refine zx_icmp_lt_f (t := 9) (q := 7) dX0_run_4 (by decide) rfl (by decide) ?_
    refine zx_iconst (q := 8) (v := 0) dX0_run_7 (by decide) rfl ?_
    refine zx_iret dX0_run_8 rfl (Nat.le_refl _) (Nat.le_refl _) ⟨_, rfl, ?_⟩
    exact ⟨rfl, rfl⟩
  | succ n ih =>
    intro a s x r gi ha hs hK hI hV hr hn hlen
    show zW l D tc A mX0_run (d + n + 1 + 1) 0 0 0 0 0 [some (.ref 63), some (.int (nI a)), some (.int (nI s)), some (.int x), some (.int (nI (20 - (n + 1)))), none, none] [] (zs gi gl f) _
    refine zx_iload (q := 2) dX0_run_0 rfl rfl ?_
    refine zx_bipush (q := 4) (v := 20) dX0_run_2 (by decide) rfl ?_
    refine zx_icmp_lt_t (t := 9) (q := 7) dX0_run_4 (by decide) rfl (nI_lt (a := 20 - (n + 1)) (b := 20) (by omega) (by decide)) ?_
    refine zx_gsBD (q := 12) dX0_run_9 sf_RX0_32 rfl ?_
    refine zx_iload_n (q := 13) dX0_run_12 rfl rfl rfl ?_
    refine zx_iconst (q := 14) (v := 3) dX0_run_13 (by decide) rfl ?_
    refine zx_imul (q := 15) dX0_run_14 rfl ?_
    refine zx_iload_n (q := 16) dX0_run_15 rfl rfl rfl ?_
    refine zx_iadd (q := 17) dX0_run_16 rfl ?_
    refine zx_taBD (q := 18) dX0_run_17 (by rw [z_3r]; exact vp_in_nI (by omega) (by decide)) rfl ?_
    rw [z_3r, nI_clamp (by omega)]
    refine zx_istore5 (q := 20) dX0_run_18 rfl rfl ?_
    refine zx_aload_n (q := 21) dX0_run_20 rfl rfl rfl ?_
    refine zx_iload (q := 23) dX0_run_21 rfl rfl ?_
    refine zx_callV1v (q := 26) (y' := mX0_begins) dX0_run_23 ml_RX0_35 ok_mX0_begins rfl (by decide) rfl (Nat.le_of_ble_eq_true rfl) (Nat.le_of_ble_eq_true rfl) (Nat.le_refl _) (Nat.le_refl _) rfl (t_X0_begins _ r _ hr (by omega)) ?_
    rintro _ ⟨rfl⟩
    refine zx_iload (q := 28) dX0_run_26 rfl rfl ?_
    refine zx_iconst (q := 29) (v := 1) dX0_run_28 (by decide) rfl ?_
    refine zx_iadd (q := 30) dX0_run_29 rfl ?_
    rw [show nI (20 - (n + 1)) + 1 = nI (20 - n) from by rw [nI_1]; congr 1; omega]
    refine zx_istore6 (q := 32) dX0_run_30 rfl rfl ?_
    refine zx_iload (q := 34) dX0_run_32 rfl rfl ?_
    refine zx_case (v := 10) (fun c_34_10 => ?_) (fun c_34_10 => ?_)
    · refine zx_lookup (t := 124) (off := 90) dX0_run_34 (by decide) (by rw [c_34_10]; decide) (by decide) ?_
      skip
      refine zx_iload_n (q := 125) dX0_run_124 rfl rfl rfl ?_
      refine zx_aload_n (q := 126) dX0_run_125 rfl rfl rfl ?_
      refine zy_getIe (q := 129) (v := i) dX0_run_126 fl_RX0_25 rfl rfl (((z_t1_ne (by omega) (by omega)).trans hI)) rfl ?_
      refine zx_iadd (q := 130) dX0_run_129 rfl ?_
      refine zx_iret dX0_run_130 rfl (Nat.le_refl _) (Nat.le_refl _) ⟨_, rfl, ?_⟩
      rw [z_rn_10 c_34_10, c_34_10]
      exact ⟨rfl, rfl⟩
    refine zx_case (v := 11) (fun c_34_11 => ?_) (fun c_34_11 => ?_)
    · refine zx_lookup (t := 131) (off := 97) dX0_run_34 (by decide) (by rw [c_34_11]; decide) (by decide) ?_
      rw [z_rn_11 c_34_11] at hlen
      try simp only [List.length_cons, List.length_append] at hlen
      refine zx_aload_n (q := 132) dX0_run_131 rfl rfl rfl ?_
      refine zx_iconst (q := 133) (v := 0) dX0_run_132 (by decide) rfl ?_
      refine zx_aload_n (q := 134) dX0_run_133 rfl rfl rfl ?_
      refine zy_getIe (q := 137) (v := nI k) dX0_run_134 fl_RX0_19 rfl rfl (((z_t1_ne (by omega) (by omega)).trans hK)) rfl ?_
      refine zx_iload_n (q := 138) dX0_run_137 rfl rfl rfl ?_
      refine zx_iload (q := 140) dX0_run_138 rfl rfl ?_
      refine zx_callV4i (q := 143) (y' := mX0_run) dX0_run_140 ml_RX0_28 ok_mX0_run rfl (by decide) rfl (Nat.le_of_ble_eq_true rfl) (Nat.le_of_ble_eq_true rfl) (Nat.le_refl _) (Nat.le_refl _) rfl (ih 0 k x (r + 1) _ (by decide) (by omega) ((z_t1_ne (by omega) (by omega)).trans hK) ((z_t1_ne (by omega) (by omega)).trans hI) ((z_t1_ne (by omega) (by omega)).trans hV) z_t1_at (by omega) (by omega)) ?_
      rintro _ _ ⟨rfl, rfl⟩
      refine zx_aload_n (q := 144) dX0_run_143 rfl rfl rfl ?_
      refine zy_getIe (q := 147) (v := v) dX0_run_144 fl_RX0_22 rfl rfl (((z_tr_ne (by omega) (by omega) _ _ _).trans ((z_t1_ne (by omega) (by omega)).trans hV))) rfl ?_
      refine zx_isub (q := 148) dX0_run_147 rfl ?_
      refine zx_iret dX0_run_148 rfl (Nat.le_refl _) (Nat.le_refl _) ⟨_, rfl, ?_⟩
      rw [z_rn_11 c_34_11, c_34_11]
      exact ⟨rfl, rfl⟩
    refine zx_case (v := 12) (fun c_34_12 => ?_) (fun c_34_12 => ?_)
    · refine zx_lookup (t := 149) (off := 115) dX0_run_34 (by decide) (by rw [c_34_12]; decide) (by decide) ?_
      rw [z_rn_12 c_34_12] at hlen
      try simp only [List.length_cons, List.length_append] at hlen
      refine zx_aload_n (q := 150) dX0_run_149 rfl rfl rfl ?_
      refine zx_iconst (q := 151) (v := 1) dX0_run_150 (by decide) rfl ?_
      refine zx_aload_n (q := 152) dX0_run_151 rfl rfl rfl ?_
      refine zy_getIe (q := 155) (v := nI k) dX0_run_152 fl_RX0_19 rfl rfl (((z_t1_ne (by omega) (by omega)).trans hK)) rfl ?_
      refine zx_iload_n (q := 156) dX0_run_155 rfl rfl rfl ?_
      refine zx_iload (q := 158) dX0_run_156 rfl rfl ?_
      refine zx_callV4i (q := 161) (y' := mX0_run) dX0_run_158 ml_RX0_28 ok_mX0_run rfl (by decide) rfl (Nat.le_of_ble_eq_true rfl) (Nat.le_of_ble_eq_true rfl) (Nat.le_refl _) (Nat.le_refl _) rfl (ih 1 k x (r + 1) _ (by decide) (by omega) ((z_t1_ne (by omega) (by omega)).trans hK) ((z_t1_ne (by omega) (by omega)).trans hI) ((z_t1_ne (by omega) (by omega)).trans hV) z_t1_at (by omega) (by omega)) ?_
      rintro _ _ ⟨rfl, rfl⟩
      refine zx_iconst (q := 162) (v := 2) dX0_run_161 (by decide) rfl ?_
      refine zx_imul (q := 163) dX0_run_162 rfl ?_
      refine zx_iret dX0_run_163 rfl (Nat.le_refl _) (Nat.le_refl _) ⟨_, rfl, ?_⟩
      rw [z_rn_12 c_34_12, c_34_12]
      exact ⟨rfl, rfl⟩
    refine zx_case (v := 20) (fun c_34_20 => ?_) (fun c_34_20 => ?_)
    · refine zx_lookup (t := 164) (off := 130) dX0_run_34 (by decide) (by rw [c_34_20]; decide) (by decide) ?_
      rw [z_rn_20 c_34_20] at hlen
      try simp only [List.length_cons, List.length_append] at hlen
      refine zx_aload_n (q := 165) dX0_run_164 rfl rfl rfl ?_
      refine zx_iconst (q := 166) (v := 1) dX0_run_165 (by decide) rfl ?_
      refine zx_iconst (q := 167) (v := 0) dX0_run_166 (by decide) rfl ?_
      refine zx_iload_n (q := 168) dX0_run_167 rfl rfl rfl ?_
      refine zx_iload (q := 170) dX0_run_168 rfl rfl ?_
      refine zx_callV4i (q := 173) (y' := mX0_run) dX0_run_170 ml_RX0_28 ok_mX0_run rfl (by decide) rfl (Nat.le_of_ble_eq_true rfl) (Nat.le_of_ble_eq_true rfl) (Nat.le_refl _) (Nat.le_refl _) rfl (ih 1 0 x (r + 1) _ (by decide) (by omega) ((z_t1_ne (by omega) (by omega)).trans hK) ((z_t1_ne (by omega) (by omega)).trans hI) ((z_t1_ne (by omega) (by omega)).trans hV) z_t1_at (by omega) (by omega)) ?_
      rintro _ _ ⟨rfl, rfl⟩
      refine zx_bipush (q := 175) (v := 6) dX0_run_173 (by decide) rfl ?_
      refine zx_ixor (q := 176) dX0_run_175 rfl ?_
      refine zx_iret dX0_run_176 rfl (Nat.le_refl _) (Nat.le_refl _) ⟨_, rfl, ?_⟩
      rw [z_rn_20 c_34_20, c_34_20]
      exact ⟨rfl, rfl⟩
    refine zx_case (v := 30) (fun c_34_30 => ?_) (fun c_34_30 => ?_)
    · refine zx_lookup (t := 177) (off := 143) dX0_run_34 (by decide) (by rw [c_34_30]; decide) (by decide) ?_
      rw [z_rn_30 c_34_30] at hlen
      try simp only [List.length_cons, List.length_append] at hlen
      refine zx_aload_n (q := 178) dX0_run_177 rfl rfl rfl ?_
      refine zx_iconst (q := 179) (v := 0) dX0_run_178 (by decide) rfl ?_
      refine zx_iconst (q := 180) (v := 0) dX0_run_179 (by decide) rfl ?_
      refine zx_iload_n (q := 181) dX0_run_180 rfl rfl rfl ?_
      refine zx_iconst (q := 182) (v := 3) dX0_run_181 (by decide) rfl ?_
      refine zx_imul (q := 183) dX0_run_182 rfl ?_
      refine zx_iload (q := 185) dX0_run_183 rfl rfl ?_
      refine zx_callV4i (q := 188) (y' := mX0_run) dX0_run_185 ml_RX0_28 ok_mX0_run rfl (by decide) rfl (Nat.le_of_ble_eq_true rfl) (Nat.le_of_ble_eq_true rfl) (Nat.le_refl _) (Nat.le_refl _) rfl (ih 0 0 (x * 3) (r + 1) _ (by decide) (by omega) ((z_t1_ne (by omega) (by omega)).trans hK) ((z_t1_ne (by omega) (by omega)).trans hI) ((z_t1_ne (by omega) (by omega)).trans hV) z_t1_at (by omega) (by omega)) ?_
      rintro _ _ ⟨rfl, rfl⟩
      refine zx_iret dX0_run_188 rfl (Nat.le_refl _) (Nat.le_refl _) ⟨_, rfl, ?_⟩
      rw [z_rn_30 c_34_30, c_34_30]
      exact ⟨rfl, rfl⟩
    refine zx_case (v := 40) (fun c_34_40 => ?_) (fun c_34_40 => ?_)
    · refine zx_lookup (t := 189) (off := 155) dX0_run_34 (by decide) (by rw [c_34_40]; decide) (by decide) ?_
      rw [z_rn_40 c_34_40] at hlen
      try simp only [List.length_cons, List.length_append] at hlen
      refine zx_aload_n (q := 190) dX0_run_189 rfl rfl rfl ?_
      refine zx_iconst (q := 191) (v := 2) dX0_run_190 (by decide) rfl ?_
      refine zx_iconst (q := 192) (v := 0) dX0_run_191 (by decide) rfl ?_
      refine zx_iload_n (q := 193) dX0_run_192 rfl rfl rfl ?_
      refine zx_iload (q := 195) dX0_run_193 rfl rfl ?_
      refine zx_callV4i (q := 198) (y' := mX0_run) dX0_run_195 ml_RX0_28 ok_mX0_run rfl (by decide) rfl (Nat.le_of_ble_eq_true rfl) (Nat.le_of_ble_eq_true rfl) (Nat.le_refl _) (Nat.le_refl _) rfl (ih 2 0 x (r + 1) _ (by decide) (by omega) ((z_t1_ne (by omega) (by omega)).trans hK) ((z_t1_ne (by omega) (by omega)).trans hI) ((z_t1_ne (by omega) (by omega)).trans hV) z_t1_at (by omega) (by omega)) ?_
      rintro _ _ ⟨rfl, rfl⟩
      refine zx_aload_n (q := 199) dX0_run_198 rfl rfl rfl ?_
      refine zx_iconst (q := 200) (v := 1) dX0_run_199 (by decide) rfl ?_
      refine zx_aload_n (q := 201) dX0_run_200 rfl rfl rfl ?_
      refine zy_getIe (q := 204) (v := nI k) dX0_run_201 fl_RX0_19 rfl rfl (((z_tr_ne (by omega) (by omega) _ _ _).trans ((z_t1_ne (by omega) (by omega)).trans hK))) rfl ?_
      refine zx_iconst (q := 205) (v := 1) dX0_run_204 (by decide) rfl ?_
      refine zx_iload (q := 207) dX0_run_205 rfl rfl ?_
      refine zx_callV4i (q := 210) (y' := mX0_run) dX0_run_207 ml_RX0_28 ok_mX0_run rfl (by decide) rfl (Nat.le_of_ble_eq_true rfl) (Nat.le_of_ble_eq_true rfl) (Nat.le_refl _) (Nat.le_refl _) rfl (ih 1 k 1 (r + 1 + (z_rn k i v n 2 0 x).2.length) _ (by decide) (by omega) ((z_tr_ne (by omega) (by omega) _ _ _).trans ((z_t1_ne (by omega) (by omega)).trans hK)) ((z_tr_ne (by omega) (by omega) _ _ _).trans ((z_t1_ne (by omega) (by omega)).trans hI)) ((z_tr_ne (by omega) (by omega) _ _ _).trans ((z_t1_ne (by omega) (by omega)).trans hV)) (z_tr_at _ _ _ z_t1_at) (by omega) (by omega)) ?_
      rintro _ _ ⟨rfl, rfl⟩
      refine zx_iadd (q := 211) dX0_run_210 rfl ?_
      refine zx_iret dX0_run_211 rfl (Nat.le_refl _) (Nat.le_refl _) ⟨_, rfl, ?_⟩
      rw [z_rn_40 c_34_40, c_34_40]
      exact ⟨rfl, by rw [z_tr, z_tr_app]⟩
    refine zx_case (v := 50) (fun c_34_50 => ?_) (fun c_34_50 => ?_)
    · refine zx_lookup (t := 212) (off := 178) dX0_run_34 (by decide) (by rw [c_34_50]; decide) (by decide) ?_
      rw [z_rn_50 c_34_50] at hlen
      try simp only [List.length_cons, List.length_append] at hlen
      refine zx_aload_n (q := 213) dX0_run_212 rfl rfl rfl ?_
      refine zx_iconst (q := 214) (v := 0) dX0_run_213 (by decide) rfl ?_
      refine zx_iconst (q := 215) (v := 1) dX0_run_214 (by decide) rfl ?_
      refine zx_iload_n (q := 216) dX0_run_215 rfl rfl rfl ?_
      refine zx_iload (q := 218) dX0_run_216 rfl rfl ?_
      refine zx_callV4i (q := 221) (y' := mX0_run) dX0_run_218 ml_RX0_28 ok_mX0_run rfl (by decide) rfl (Nat.le_of_ble_eq_true rfl) (Nat.le_of_ble_eq_true rfl) (Nat.le_refl _) (Nat.le_refl _) rfl (ih 0 1 x (r + 1) _ (by decide) (by omega) ((z_t1_ne (by omega) (by omega)).trans hK) ((z_t1_ne (by omega) (by omega)).trans hI) ((z_t1_ne (by omega) (by omega)).trans hV) z_t1_at (by omega) (by omega)) ?_
      rintro _ _ ⟨rfl, rfl⟩
      refine zx_ineg (q := 222) dX0_run_221 rfl ?_
      refine zx_iret dX0_run_222 rfl (Nat.le_refl _) (Nat.le_refl _) ⟨_, rfl, ?_⟩
      rw [z_rn_50 c_34_50, c_34_50]
      exact ⟨rfl, rfl⟩
    refine zx_case (v := 51) (fun c_34_51 => ?_) (fun c_34_51 => ?_)
    · refine zx_lookup (t := 223) (off := 189) dX0_run_34 (by decide) (by rw [c_34_51]; decide) (by decide) ?_
      rw [z_rn_51 c_34_51] at hlen
      try simp only [List.length_cons, List.length_append] at hlen
      refine zx_aload_n (q := 224) dX0_run_223 rfl rfl rfl ?_
      refine zx_iconst (q := 225) (v := 1) dX0_run_224 (by decide) rfl ?_
      refine zx_iconst (q := 226) (v := 1) dX0_run_225 (by decide) rfl ?_
      refine zx_iload_n (q := 227) dX0_run_226 rfl rfl rfl ?_
      refine zx_iconst (q := 228) (v := 1) dX0_run_227 (by decide) rfl ?_
      refine zx_iadd (q := 229) dX0_run_228 rfl ?_
      refine zx_iload (q := 231) dX0_run_229 rfl rfl ?_
      refine zx_callV4i (q := 234) (y' := mX0_run) dX0_run_231 ml_RX0_28 ok_mX0_run rfl (by decide) rfl (Nat.le_of_ble_eq_true rfl) (Nat.le_of_ble_eq_true rfl) (Nat.le_refl _) (Nat.le_refl _) rfl (ih 1 1 (x + 1) (r + 1) _ (by decide) (by omega) ((z_t1_ne (by omega) (by omega)).trans hK) ((z_t1_ne (by omega) (by omega)).trans hI) ((z_t1_ne (by omega) (by omega)).trans hV) z_t1_at (by omega) (by omega)) ?_
      rintro _ _ ⟨rfl, rfl⟩
      refine zx_iret dX0_run_234 rfl (Nat.le_refl _) (Nat.le_refl _) ⟨_, rfl, ?_⟩
      rw [z_rn_51 c_34_51, c_34_51]
      exact ⟨rfl, rfl⟩
    refine zx_case (v := 60) (fun c_34_60 => ?_) (fun c_34_60 => ?_)
    · refine zx_lookup (t := 235) (off := 201) dX0_run_34 (by decide) (by rw [c_34_60]; decide) (by decide) ?_
      rw [z_rn_60 c_34_60] at hlen
      try simp only [List.length_cons, List.length_append] at hlen
      refine zx_aload_n (q := 236) dX0_run_235 rfl rfl rfl ?_
      refine zx_iconst (q := 237) (v := 2) dX0_run_236 (by decide) rfl ?_
      refine zx_iconst (q := 238) (v := 2) dX0_run_237 (by decide) rfl ?_
      refine zx_iload_n (q := 239) dX0_run_238 rfl rfl rfl ?_
      refine zx_aload_n (q := 240) dX0_run_239 rfl rfl rfl ?_
      refine zy_getIe (q := 243) (v := i) dX0_run_240 fl_RX0_25 rfl rfl (((z_t1_ne (by omega) (by omega)).trans hI)) rfl ?_
      refine zx_isub (q := 244) dX0_run_243 rfl ?_
      refine zx_iload (q := 246) dX0_run_244 rfl rfl ?_
      refine zx_callV4i (q := 249) (y' := mX0_run) dX0_run_246 ml_RX0_28 ok_mX0_run rfl (by decide) rfl (Nat.le_of_ble_eq_true rfl) (Nat.le_of_ble_eq_true rfl) (Nat.le_refl _) (Nat.le_refl _) rfl (ih 2 2 (x - i) (r + 1) _ (by decide) (by omega) ((z_t1_ne (by omega) (by omega)).trans hK) ((z_t1_ne (by omega) (by omega)).trans hI) ((z_t1_ne (by omega) (by omega)).trans hV) z_t1_at (by omega) (by omega)) ?_
      rintro _ _ ⟨rfl, rfl⟩
      refine zx_iret dX0_run_249 rfl (Nat.le_refl _) (Nat.le_refl _) ⟨_, rfl, ?_⟩
      rw [z_rn_60 c_34_60, c_34_60]
      exact ⟨rfl, rfl⟩
    refine zx_case (v := 70) (fun c_34_70 => ?_) (fun c_34_70 => ?_)
    · refine zx_lookup (t := 250) (off := 216) dX0_run_34 (by decide) (by rw [c_34_70]; decide) (by decide) ?_
      rw [z_rn_70 c_34_70] at hlen
      try simp only [List.length_cons, List.length_append] at hlen
      refine zx_aload_n (q := 251) dX0_run_250 rfl rfl rfl ?_
      refine zx_iconst (q := 252) (v := 1) dX0_run_251 (by decide) rfl ?_
      refine zx_iconst (q := 253) (v := 3) dX0_run_252 (by decide) rfl ?_
      refine zx_iload_n (q := 254) dX0_run_253 rfl rfl rfl ?_
      refine zx_iload (q := 256) dX0_run_254 rfl rfl ?_
      refine zx_callV4i (q := 259) (y' := mX0_run) dX0_run_256 ml_RX0_28 ok_mX0_run rfl (by decide) rfl (Nat.le_of_ble_eq_true rfl) (Nat.le_of_ble_eq_true rfl) (Nat.le_refl _) (Nat.le_refl _) rfl (ih 1 3 x (r + 1) _ (by decide) (by omega) ((z_t1_ne (by omega) (by omega)).trans hK) ((z_t1_ne (by omega) (by omega)).trans hI) ((z_t1_ne (by omega) (by omega)).trans hV) z_t1_at (by omega) (by omega)) ?_
      rintro _ _ ⟨rfl, rfl⟩
      refine zx_aload_n (q := 260) dX0_run_259 rfl rfl rfl ?_
      refine zx_iconst (q := 261) (v := 0) dX0_run_260 (by decide) rfl ?_
      refine zx_iconst (q := 262) (v := 3) dX0_run_261 (by decide) rfl ?_
      refine zx_iconst (q := 263) (v := 2) dX0_run_262 (by decide) rfl ?_
      refine zx_iload (q := 265) dX0_run_263 rfl rfl ?_
      refine zx_callV4i (q := 268) (y' := mX0_run) dX0_run_265 ml_RX0_28 ok_mX0_run rfl (by decide) rfl (Nat.le_of_ble_eq_true rfl) (Nat.le_of_ble_eq_true rfl) (Nat.le_refl _) (Nat.le_refl _) rfl (ih 0 3 2 (r + 1 + (z_rn k i v n 1 3 x).2.length) _ (by decide) (by omega) ((z_tr_ne (by omega) (by omega) _ _ _).trans ((z_t1_ne (by omega) (by omega)).trans hK)) ((z_tr_ne (by omega) (by omega) _ _ _).trans ((z_t1_ne (by omega) (by omega)).trans hI)) ((z_tr_ne (by omega) (by omega) _ _ _).trans ((z_t1_ne (by omega) (by omega)).trans hV)) (z_tr_at _ _ _ z_t1_at) (by omega) (by omega)) ?_
      rintro _ _ ⟨rfl, rfl⟩
      refine zx_iadd (q := 269) dX0_run_268 rfl ?_
      refine zx_iret dX0_run_269 rfl (Nat.le_refl _) (Nat.le_refl _) ⟨_, rfl, ?_⟩
      rw [z_rn_70 c_34_70, c_34_70]
      exact ⟨rfl, by rw [z_tr, z_tr_app]⟩
    refine zx_lookup (t := 270) (off := 236) dX0_run_34 (by decide) (by show Op.lookupswitch.offset _ _ _ = _; rw [lv_osw c_34_10 (by decide)]; rw [lv_osw c_34_11 (by decide)]; rw [lv_osw c_34_12 (by decide)]; rw [lv_osw c_34_20 (by decide)]; rw [lv_osw c_34_30 (by decide)]; rw [lv_osw c_34_40 (by decide)]; rw [lv_osw c_34_50 (by decide)]; rw [lv_osw c_34_51 (by decide)]; rw [lv_osw c_34_60 (by decide)]; rw [lv_osw c_34_70 (by decide)]; rfl) (by decide) ?_
    have h71 := z_BD_71 (3 * s + a) (by omega) c_34_10 c_34_11 c_34_12 c_34_20 c_34_30 c_34_40 c_34_50 c_34_51 c_34_60 c_34_70
    rw [z_rn_71 h71 c_34_10 c_34_11 c_34_12 c_34_20 c_34_30 c_34_40 c_34_50 c_34_51 c_34_60 c_34_70] at hlen
    simp only [List.length_cons] at hlen
    refine zx_aload_n (q := 271) dX0_run_270 rfl rfl rfl ?_
    refine zx_iconst (q := 272) (v := 0) dX0_run_271 (by decide) rfl ?_
    refine zx_iconst (q := 273) (v := 3) dX0_run_272 (by decide) rfl ?_
    refine zx_iload_n (q := 274) dX0_run_273 rfl rfl rfl ?_
    refine zx_iload (q := 276) dX0_run_274 rfl rfl ?_
    refine zx_callV4i (q := 279) (y' := mX0_run) dX0_run_276 ml_RX0_28 ok_mX0_run rfl (by decide) rfl (Nat.le_of_ble_eq_true rfl) (Nat.le_of_ble_eq_true rfl) (Nat.le_refl _) (Nat.le_refl _) rfl (ih 0 3 x (r + 1) _ (by decide) (by omega) ((z_t1_ne (by omega) (by omega)).trans hK) ((z_t1_ne (by omega) (by omega)).trans hI) ((z_t1_ne (by omega) (by omega)).trans hV) z_t1_at (by omega) (by omega)) ?_
    rintro _ _ ⟨rfl, rfl⟩
    refine zx_aload_n (q := 280) dX0_run_279 rfl rfl rfl ?_
    refine zy_getIe (q := 283) (v := v) dX0_run_280 fl_RX0_22 rfl rfl (((z_tr_ne (by omega) (by omega) _ _ _).trans ((z_t1_ne (by omega) (by omega)).trans hV))) rfl ?_
    refine zx_ixor (q := 284) dX0_run_283 rfl ?_
    refine zx_iret dX0_run_284 rfl (Nat.le_refl _) (Nat.le_refl _) ⟨_, rfl, ?_⟩
    rw [z_rn_71 h71 c_34_10 c_34_11 c_34_12 c_34_20 c_34_30 c_34_40 c_34_50 c_34_51 c_34_60 c_34_70, h71]
    exact ⟨rfl, rfl⟩
end P26
