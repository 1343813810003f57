/-! acts -/
def z_rn (k : Nat) (i v : Int32) : Nat → Nat → Nat → Int32 → Int32 × List Int32
  | 0, _, _, _ => (0, [])
  | n + 1, a, s, x => if zw_BD (3 * s + a) = 10 then (x + i, 10 :: []) else if zw_BD (3 * s + a) = 11 then ((z_rn k i v n 0 k x).1 - v, 11 :: ((z_rn k i v n 0 k x).2)) else if zw_BD (3 * s + a) = 12 then ((z_rn k i v n 1 k x).1 * 2, 12 :: ((z_rn k i v n 1 k x).2)) else if zw_BD (3 * s + a) = 20 then ((z_rn k i v n 1 0 x).1 ^^^ 6, 20 :: ((z_rn k i v n 1 0 x).2)) else if zw_BD (3 * s + a) = 30 then ((z_rn k i v n 0 0 (x * 3)).1, 30 :: ((z_rn k i v n 0 0 (x * 3)).2)) else if zw_BD (3 * s + a) = 40 then ((z_rn k i v n 2 0 x).1 + (z_rn k i v n 1 k 1).1, 40 :: ((z_rn k i v n 2 0 x).2 ++ (z_rn k i v n 1 k 1).2)) else if zw_BD (3 * s + a) = 50 then (-(z_rn k i v n 0 1 x).1, 50 :: ((z_rn k i v n 0 1 x).2)) else if zw_BD (3 * s + a) = 51 then ((z_rn k i v n 1 1 (x + 1)).1, 51 :: ((z_rn k i v n 1 1 (x + 1)).2)) else if zw_BD (3 * s + a) = 60 then ((z_rn k i v n 2 2 (x - i)).1, 60 :: ((z_rn k i v n 2 2 (x - i)).2)) else if zw_BD (3 * s + a) = 70 then ((z_rn k i v n 1 3 x).1 + (z_rn k i v n 0 3 2).1, 70 :: ((z_rn k i v n 1 3 x).2 ++ (z_rn k i v n 0 3 2).2)) else ((z_rn k i v n 0 3 x).1 ^^^ v, 71 :: ((z_rn k i v n 0 3 x).2))
theorem z_rn_10 {k n a s : Nat} {i v x : Int32} (h : zw_BD (3 * s + a) = 10) : z_rn k i v (n + 1) a s x = (x + i, 10 :: []) := by
  rw [z_rn]
  rw [if_pos h]
theorem z_rn_11 {k n a s : Nat} {i v x : Int32} (h : zw_BD (3 * s + a) = 11) : z_rn k i v (n + 1) a s x = ((z_rn k i v n 0 k x).1 - v, 11 :: ((z_rn k i v n 0 k x).2)) := by
  rw [z_rn]
  rw [if_neg (by rw [h]; decide)]
  rw [if_pos h]
theorem z_rn_12 {k n a s : Nat} {i v x : Int32} (h : zw_BD (3 * s + a) = 12) : z_rn k i v (n + 1) a s x = ((z_rn k i v n 1 k x).1 * 2, 12 :: ((z_rn k i v n 1 k x).2)) := by
  rw [z_rn]
  rw [if_neg (by rw [h]; decide)]
  rw [if_neg (by rw [h]; decide)]
  rw [if_pos h]
theorem z_rn_20 {k n a s : Nat} {i v x : Int32} (h : zw_BD (3 * s + a) = 20) : z_rn k i v (n + 1) a s x = ((z_rn k i v n 1 0 x).1 ^^^ 6, 20 :: ((z_rn k i v n 1 0 x).2)) := by
  rw [z_rn]
  rw [if_neg (by rw [h]; decide)]
  rw [if_neg (by rw [h]; decide)]
  rw [if_neg (by rw [h]; decide)]
  rw [if_pos h]
theorem z_rn_30 {k n a s : Nat} {i v x : Int32} (h : zw_BD (3 * s + a) = 30) : z_rn k i v (n + 1) a s x = ((z_rn k i v n 0 0 (x * 3)).1, 30 :: ((z_rn k i v n 0 0 (x * 3)).2)) := by
  rw [z_rn]
  rw [if_neg (by rw [h]; decide)]
  rw [if_neg (by rw [h]; decide)]
  rw [if_neg (by rw [h]; decide)]
  rw [if_neg (by rw [h]; decide)]
  rw [if_pos h]
theorem z_rn_40 {k n a s : Nat} {i v x : Int32} (h : zw_BD (3 * s + a) = 40) : z_rn k i v (n + 1) a s x = ((z_rn k i v n 2 0 x).1 + (z_rn k i v n 1 k 1).1, 40 :: ((z_rn k i v n 2 0 x).2 ++ (z_rn k i v n 1 k 1).2)) := by
  rw [z_rn]
  rw [if_neg (by rw [h]; decide)]
  rw [if_neg (by rw [h]; decide)]
  rw [if_neg (by rw [h]; decide)]
  rw [if_neg (by rw [h]; decide)]
  rw [if_neg (by rw [h]; decide)]
  rw [if_pos h]
theorem z_rn_50 {k n a s : Nat} {i v x : Int32} (h : zw_BD (3 * s + a) = 50) : z_rn k i v (n + 1) a s x = (-(z_rn k i v n 0 1 x).1, 50 :: ((z_rn k i v n 0 1 x).2)) := by
  rw [z_rn]
  rw [if_neg (by rw [h]; decide)]
  rw [if_neg (by rw [h]; decide)]
  rw [if_neg (by rw [h]; decide)]
  rw [if_neg (by rw [h]; decide)]
  rw [if_neg (by rw [h]; decide)]
  rw [if_neg (by rw [h]; decide)]
  rw [if_pos h]
theorem z_rn_51 {k n a s : Nat} {i v x : Int32} (h : zw_BD (3 * s + a) = 51) : z_rn k i v (n + 1) a s x = ((z_rn k i v n 1 1 (x + 1)).1, 51 :: ((z_rn k i v n 1 1 (x + 1)).2)) := by
  rw [z_rn]
  rw [if_neg (by rw [h]; decide)]
  rw [if_neg (by rw [h]; decide)]
  rw [if_neg (by rw [h]; decide)]
  rw [if_neg (by rw [h]; decide)]
  rw [if_neg (by rw [h]; decide)]
  rw [if_neg (by rw [h]; decide)]
  rw [if_neg (by rw [h]; decide)]
  rw [if_pos h]
theorem z_rn_60 {k n a s : Nat} {i v x : Int32} (h : zw_BD (3 * s + a) = 60) : z_rn k i v (n + 1) a s x = ((z_rn k i v n 2 2 (x - i)).1, 60 :: ((z_rn k i v n 2 2 (x - i)).2)) := by
  rw [z_rn]
  rw [if_neg (by rw [h]; decide)]
  rw [if_neg (by rw [h]; decide)]
  rw [if_neg (by rw [h]; decide)]
  rw [if_neg (by rw [h]; decide)]
  rw [if_neg (by rw [h]; decide)]
  rw [if_neg (by rw [h]; decide)]
  rw [if_neg (by rw [h]; decide)]
  rw [if_neg (by rw [h]; decide)]
  rw [if_pos h]
theorem z_rn_70 {k n a s : Nat} {i v x : Int32} (h : zw_BD (3 * s + a) = 70) : z_rn k i v (n + 1) a s x = ((z_rn k i v n 1 3 x).1 + (z_rn k i v n 0 3 2).1, 70 :: ((z_rn k i v n 1 3 x).2 ++ (z_rn k i v n 0 3 2).2)) := by
  rw [z_rn]
  rw [if_neg (by rw [h]; decide)]
  rw [if_neg (by rw [h]; decide)]
  rw [if_neg (by rw [h]; decide)]
  rw [if_neg (by rw [h]; decide)]
  rw [if_neg (by rw [h]; decide)]
  rw [if_neg (by rw [h]; decide)]
  rw [if_neg (by rw [h]; decide)]
  rw [if_neg (by rw [h]; decide)]
  rw [if_neg (by rw [h]; decide)]
  rw [if_pos h]
theorem z_rn_71 {k n a s : Nat} {i v x : Int32} (hb : zw_BD (3 * s + a) = 71) (h10 : ¬ zw_BD (3 * s + a) = 10) (h11 : ¬ zw_BD (3 * s + a) = 11) (h12 : ¬ zw_BD (3 * s + a) = 12) (h20 : ¬ zw_BD (3 * s + a) = 20) (h30 : ¬ zw_BD (3 * s + a) = 30) (h40 : ¬ zw_BD (3 * s + a) = 40) (h50 : ¬ zw_BD (3 * s + a) = 50) (h51 : ¬ zw_BD (3 * s + a) = 51) (h60 : ¬ zw_BD (3 * s + a) = 60) (h70 : ¬ zw_BD (3 * s + a) = 70) : z_rn k i v (n + 1) a s x = ((z_rn k i v n 0 3 x).1 ^^^ v, 71 :: ((z_rn k i v n 0 3 x).2)) := by
  rw [z_rn, if_neg h10, if_neg h11, if_neg h12, if_neg h20, if_neg h30, if_neg h40, if_neg h50, if_neg h51, if_neg h60, if_neg h70]
theorem z_BD_all : ∀ j, j < 21 → zw_BD j = 10 ∨ zw_BD j = 11 ∨ zw_BD j = 12 ∨ zw_BD j = 20 ∨ zw_BD j = 30 ∨ zw_BD j = 40 ∨ zw_BD j = 50 ∨ zw_BD j = 51 ∨ zw_BD j = 60 ∨ zw_BD j = 70 ∨ zw_BD j = 71 := by decide +kernel
theorem z_BD_71 (j : Nat) (hj : j < 21) (h1 : ¬ zw_BD j = 10) (h2 : ¬ zw_BD j = 11) (h3 : ¬ zw_BD j = 12) (h4 : ¬ zw_BD j = 20) (h5 : ¬ zw_BD j = 30) (h6 : ¬ zw_BD j = 40) (h7 : ¬ zw_BD j = 50) (h8 : ¬ zw_BD j = 51) (h9 : ¬ zw_BD j = 60) (h10 : ¬ zw_BD j = 70) : zw_BD j = 71 := by
  rcases z_BD_all j hj with h | h | h | h | h | h | h | h | h | h | h <;> first | exact h | contradiction
/-- one more body in a trace: the count at (c, j), the bodies at b -/
def z_t1 (c j b : Nat) (g : Nat → Nat → Int32) (r : Nat) (x : Int32) : Nat → Nat → Int32 := zw_u (if r < 20 then zw_u g b r x else g) c j (nI (r + 1))
def z_tr (c j b : Nat) (g : Nat → Nat → Int32) (r : Nat) : List Int32 → Nat → Nat → Int32
  | [] => g
  | x :: l => z_tr c j b (z_t1 c j b g r x) (r + 1) l
theorem z_t1_ne {c j b : Nat} {g : Nat → Nat → Int32} {r : Nat} {x : Int32} {p q : Nat} (h1 : ¬ (p = c ∧ q = j)) (h2 : ¬ p = b) : z_t1 c j b g r x p q = g p q := by
  unfold z_t1
  rw [z_u_ne _ _ h1]
  split
  · rw [z_u_ne _ _ (fun z => h2 z.1)]
  · rfl
theorem z_t1_at {c j b : Nat} {g : Nat → Nat → Int32} {r : Nat} {x : Int32} : z_t1 c j b g r x c j = nI (r + 1) := by
  unfold z_t1
  rw [z_u_at]
theorem z_tr_ne {c j b : Nat} {p q : Nat} (h1 : ¬ (p = c ∧ q = j)) (h2 : ¬ p = b) : ∀ (l : List Int32) (g : Nat → Nat → Int32) (r : Nat), z_tr c j b g r l p q = g p q := by
  intro l
  induction l with
  | nil => intro g r; rfl
  | cons x l ih => intro g r; rw [z_tr, ih, z_t1_ne h1 h2]
theorem z_tr_at {c j b : Nat} : ∀ (l : List Int32) (g : Nat → Nat → Int32) (r : Nat), g c j = nI r → z_tr c j b g r l c j = nI (r + l.length) := by
  intro l
  induction l with
  | nil => intro g r h; exact h
  | cons x l ih =>
    intro g r h
    rw [z_tr, ih _ _ z_t1_at]
    rw [List.length_cons]
    congr 1
    omega
theorem z_tr_app {c j b : Nat} : ∀ (l1 l2 : List Int32) (g : Nat → Nat → Int32) (r : Nat), z_tr c j b g r (l1 ++ l2) = z_tr c j b (z_tr c j b g r l1) (r + l1.length) l2 := by
  intro l1
  induction l1 with
  | nil => intro l2 g r; rfl
  | cons x l ih =>
    intro l2 g r
    rw [List.cons_append, z_tr, z_tr, ih, List.length_cons]
    congr 1
    omega
theorem z_3r (s a : Nat) : nI s * 3 + nI a = nI (3 * s + a) := by
  rw [show (3 : Int32) = nI 3 from rfl, z_mul, nI_add, Nat.mul_comm]
section P26
variable {l : Launch} {D : va_G} {tc : Nat → ClassId} {A : Nat → Prop} {S : zw_S} {gi : Nat → Nat → Int32} {gl : Nat → Nat → Int64} {f : Option Nat} {Q : Option Value → zw_S → Prop}
theorem t_X0_begins (d r : Nat) (x : Int32) (hr : gi 63 0 = nI r) (hr2 : r < 2000) : zCall l D tc A mX0_begins d 0 0 [.ref 63, .int x] (zs gi gl f) (zQv fun S' => S' = zs (z_t1 63 0 64 gi r x) gl f) := by
  show zW l D tc A mX0_begins d 0 0 0 0 0 [some (.ref 63), some (.int x)] [] (zs gi gl f) _
  refine zx_aload_n (q := 1) dX0_begins_0 rfl rfl rfl ?_
  refine zy_getIe (q := 4) (v := nI r) dX0_begins_1 fl_RX0_15 rfl rfl (hr) rfl ?_
  refine zx_bipush (q := 6) (v := 20) dX0_begins_4 (by decide) rfl ?_
  refine zx_icmp_ge (q := 9) (t := 19) dX0_begins_6 (by decide) rfl (fun c_6 => ?_) (fun c_6 => ?_)
  · have h20 : ¬ r < 20 := fun z => nI_ge (a := r) (b := 20) z (by decide) c_6
    refine zx_aload_n (q := 20) dX0_begins_19 rfl rfl rfl ?_
    refine zx_dup (q := 21) dX0_begins_20 rfl rfl ?_
    refine zy_getIe (q := 24) (v := nI r) dX0_begins_21 fl_RX0_15 rfl rfl (hr) rfl ?_
    refine zx_iconst (q := 25) (v := 1) dX0_begins_24 (by decide) rfl ?_
    refine zx_iadd (q := 26) dX0_begins_25 rfl ?_
    rw [nI_1]
    refine zy_putI (q := 29) dX0_begins_26 fl_RX0_15 rfl rfl ⟨rfl, rfl⟩ rfl rfl ?_
    refine zx_vret dX0_begins_29 rfl (Nat.le_refl _) (Nat.le_refl _) ⟨rfl, ?_⟩
    unfold z_t1
    first
      | (rw [if_pos h20]; done)
      | (rw [if_neg h20]; done)
      | rw [if_pos h20]
      | rw [if_neg h20]
  · have h20 : r < 20 := (Nat.lt_or_ge r 20).resolve_right (fun q => absurd (nI_le q (by omega)) c_6)
    refine zx_aload_n (q := 10) dX0_begins_9 rfl rfl rfl ?_
    refine zy_getR (q := 13) dX0_begins_10 fl_RX0_9 rfl rfl rfl rfl ?_
    refine zx_aload_n (q := 14) dX0_begins_13 rfl rfl rfl ?_
    refine zy_getIe (q := 17) (v := nI r) dX0_begins_14 fl_RX0_15 rfl rfl (hr) rfl ?_
    refine zx_iload_n (q := 18) dX0_begins_17 rfl rfl rfl ?_
    refine zy_iastN (q := 19) dX0_begins_18 rfl (by omega) (by first | decide | omega) rfl ?_
    refine zx_aload_n (q := 20) dX0_begins_19 rfl rfl rfl ?_
    refine zx_dup (q := 21) dX0_begins_20 rfl rfl ?_
    refine zy_getIe (q := 24) (v := nI r) dX0_begins_21 fl_RX0_15 rfl rfl (hr) rfl ?_
    refine zx_iconst (q := 25) (v := 1) dX0_begins_24 (by decide) rfl ?_
    refine zx_iadd (q := 26) dX0_begins_25 rfl ?_
    rw [nI_1]
    refine zy_putI (q := 29) dX0_begins_26 fl_RX0_15 rfl rfl ⟨rfl, rfl⟩ rfl rfl ?_
    refine zx_vret dX0_begins_29 rfl (Nat.le_refl _) (Nat.le_refl _) ⟨rfl, ?_⟩
    unfold z_t1
    first
      | (rw [if_pos h20]; done)
      | (rw [if_neg h20]; done)
      | rw [if_pos h20]
      | rw [if_neg h20]
theorem t_X8_body (d r : Nat) (x : Int32) (hr : gi 108 56 = nI r) (hr2 : r < 2000) : zCall l D tc A mX8_body d 0 0 [.ref 108, .int x] (zs gi gl f) (zQv fun S' => S' = zs (z_t1 108 56 145 gi r x) gl f) := by
  show zW l D tc A mX8_body d 0 0 0 0 0 [some (.ref 108), some (.int x)] [] (zs gi gl f) _
  refine zx_aload_n (q := 1) dX8_body_0 rfl rfl rfl ?_
  refine zy_getIe (q := 4) (v := nI r) dX8_body_1 fl_RX8_181 rfl rfl (hr) rfl ?_
  refine zx_bipush (q := 6) (v := 20) dX8_body_4 (by decide) rfl ?_
  refine zx_icmp_ge (q := 9) (t := 19) dX8_body_6 (by decide) rfl (fun c_6 => ?_) (fun c_6 => ?_)
  · have h20 : ¬ r < 20 := fun z => nI_ge (a := r) (b := 20) z (by decide) c_6
    refine zx_aload_n (q := 20) dX8_body_19 rfl rfl rfl ?_
    refine zx_dup (q := 21) dX8_body_20 rfl rfl ?_
    refine zy_getIe (q := 24) (v := nI r) dX8_body_21 fl_RX8_181 rfl rfl (hr) rfl ?_
    refine zx_iconst (q := 25) (v := 1) dX8_body_24 (by decide) rfl ?_
    refine zx_iadd (q := 26) dX8_body_25 rfl ?_
    rw [nI_1]
    refine zy_putI (q := 29) dX8_body_26 fl_RX8_181 rfl rfl ⟨rfl, rfl⟩ rfl rfl ?_
    refine zx_vret dX8_body_29 rfl (Nat.le_refl _) (Nat.le_refl _) ⟨rfl, ?_⟩
    unfold z_t1
    first
      | (rw [if_pos h20]; done)
      | (rw [if_neg h20]; done)
      | rw [if_pos h20]
      | rw [if_neg h20]
  · have h20 : r < 20 := (Nat.lt_or_ge r 20).resolve_right (fun q => absurd (nI_le q (by omega)) c_6)
    refine zx_aload_n (q := 10) dX8_body_9 rfl rfl rfl ?_
    refine zy_getR (q := 13) dX8_body_10 fl_RX8_184 rfl rfl rfl rfl ?_
    refine zx_aload_n (q := 14) dX8_body_13 rfl rfl rfl ?_
    refine zy_getIe (q := 17) (v := nI r) dX8_body_14 fl_RX8_181 rfl rfl (hr) rfl ?_
    refine zx_iload_n (q := 18) dX8_body_17 rfl rfl rfl ?_
    refine zy_iastN (q := 19) dX8_body_18 rfl (by omega) (by first | decide | omega) rfl ?_
    refine zx_aload_n (q := 20) dX8_body_19 rfl rfl rfl ?_
    refine zx_dup (q := 21) dX8_body_20 rfl rfl ?_
    refine zy_getIe (q := 24) (v := nI r) dX8_body_21 fl_RX8_181 rfl rfl (hr) rfl ?_
    refine zx_iconst (q := 25) (v := 1) dX8_body_24 (by decide) rfl ?_
    refine zx_iadd (q := 26) dX8_body_25 rfl ?_
    rw [nI_1]
    refine zy_putI (q := 29) dX8_body_26 fl_RX8_181 rfl rfl ⟨rfl, rfl⟩ rfl rfl ?_
    refine zx_vret dX8_body_29 rfl (Nat.le_refl _) (Nat.le_refl _) ⟨rfl, ?_⟩
    unfold z_t1
    first
      | (rw [if_pos h20]; done)
      | (rw [if_neg h20]; done)
      | rw [if_pos h20]
      | rw [if_neg h20]
set_option maxHeartbeats 4000000 in
theorem t_X0_done (d k n : Nat) (i v : Int32) (hk : k < 7) (ih : ∀ (a s : Nat) (x : Int32) (r : Nat) (gi : Nat → Nat → Int32), a < 3 → s < 7 → gi 63 2 = nI k → gi 63 3 = i → gi 63 4 = v → gi 63 0 = nI r → n ≤ 20 → r + (z_rn k i v n a s x).2.length < 1000 → zCall l D tc A mX0_run (d + 2 * n + 1) 0 0 [.ref 63, .int (nI a), .int (nI s), .int x, .int (nI (20 - n))] (zs gi gl f) (zQi fun q S' => q = (z_rn k i v n a s x).1 ∧ S' = zs (z_tr 63 0 64 gi r (z_rn k i v n a s x).2) gl f)) (a s : Nat) (x : Int32) (r : Nat) (gi : Nat → Nat → Int32) (ha : a < 3) (hs : s < 7) (hK : gi 63 2 = nI k) (hI : gi 63 3 = i) (hV : gi 63 4 = v) (hn : n + 1 ≤ 20) (hlen : r + (z_rn k i v (n + 1) a s x).2.length < 1000) :
    zCall l D tc A mX0_done (d + 2 * n + 1 + 1) 0 0 [.ref 63, .int (zw_BD (3 * s + a)), .int x, .int (nI (20 - n))] (zs (z_t1 63 0 64 gi r (zw_BD (3 * s + a))) gl f) (zQi fun q S' => q = (z_rn k i v (n + 1) a s x).1 ∧ S' = zs (z_tr 63 0 64 gi r (z_rn k i v (n + 1) a s x).2) gl f) := by
  show zW l D tc A mX0_done (d + 2 * n + 1 + 1) 0 0 0 0 0 [some (.ref 63), some (.int (zw_BD (3 * s + a))), some (.int x), some (.int (nI (20 - n)))] [] (zs (z_t1 63 0 64 gi r (zw_BD (3 * s + a))) gl f) _
  refine zx_iload_n (q := 1) dX0_done_0 rfl rfl rfl ?_
  refine zx_case (v := 10) (fun c_1_10 => ?_) (fun c_1_10 => ?_)
  · refine zx_lookup (t := 92) (off := 91) dX0_done_1 (by decide) (by rw [c_1_10]; decide) (by decide) ?_
    skip
    refine zx_iload_n (q := 93) dX0_done_92 rfl rfl rfl ?_
    refine zx_aload_n (q := 94) dX0_done_93 rfl rfl rfl ?_
    refine zy_getIe (q := 97) (v := i) dX0_done_94 fl_RX0_25 rfl rfl (((z_t1_ne (by omega) (by omega)).trans hI)) rfl ?_
    refine zx_iadd (q := 98) dX0_done_97 rfl ?_
    refine zx_iret dX0_done_98 rfl (Nat.le_refl _) (Nat.le_refl _) ⟨_, rfl, ?_⟩
    rw [z_rn_10 c_1_10, c_1_10]
    exact ⟨rfl, rfl⟩
  refine zx_case (v := 11) (fun c_1_11 => ?_) (fun c_1_11 => ?_)
  · refine zx_lookup (t := 99) (off := 98) dX0_done_1 (by decide) (by rw [c_1_11]; decide) (by decide) ?_
    rw [z_rn_11 c_1_11] at hlen
    try simp only [List.length_cons, List.length_append] at hlen
    refine zx_aload_n (q := 100) dX0_done_99 rfl rfl rfl ?_
    refine zx_iconst (q := 101) (v := 0) dX0_done_100 (by decide) rfl ?_
    refine zx_aload_n (q := 102) dX0_done_101 rfl rfl rfl ?_
    refine zy_getIe (q := 105) (v := nI k) dX0_done_102 fl_RX0_19 rfl rfl (((z_t1_ne (by omega) (by omega)).trans hK)) rfl ?_
    refine zx_iload_n (q := 106) dX0_done_105 rfl rfl rfl ?_
    refine zx_iload_n (q := 107) dX0_done_106 rfl rfl rfl ?_
    refine zx_callV4i (q := 110) (y' := mX0_run) dX0_done_107 ml_RX0_28 ok_mX0_run rfl (by decide) rfl (Nat.le_of_ble_eq_true rfl) (Nat.le_of_ble_eq_true rfl) (Nat.le_refl _) (Nat.le_refl _) rfl (ih 0 k x (r + 1) _ (by decide) (by omega) ((z_t1_ne (by omega) (by omega)).trans hK) ((z_t1_ne (by omega) (by omega)).trans hI) ((z_t1_ne (by omega) (by omega)).trans hV) z_t1_at (by omega) (by omega)) ?_
    rintro _ _ ⟨rfl, rfl⟩
    refine zx_aload_n (q := 111) dX0_done_110 rfl rfl rfl ?_
    refine zy_getIe (q := 114) (v := v) dX0_done_111 fl_RX0_22 rfl rfl (((z_tr_ne (by omega) (by omega) _ _ _).trans ((z_t1_ne (by omega) (by omega)).trans hV))) rfl ?_
    refine zx_isub (q := 115) dX0_done_114 rfl ?_
    refine zx_iret dX0_done_115 rfl (Nat.le_refl _) (Nat.le_refl _) ⟨_, rfl, ?_⟩
    rw [z_rn_11 c_1_11, c_1_11]
    exact ⟨rfl, rfl⟩
  refine zx_case (v := 12) (fun c_1_12 => ?_) (fun c_1_12 => ?_)
  · refine zx_lookup (t := 116) (off := 115) dX0_done_1 (by decide) (by rw [c_1_12]; decide) (by decide) ?_
    rw [z_rn_12 c_1_12] at hlen
    try simp only [List.length_cons, List.length_append] at hlen
    refine zx_aload_n (q := 117) dX0_done_116 rfl rfl rfl ?_
    refine zx_iconst (q := 118) (v := 1) dX0_done_117 (by decide) rfl ?_
    refine zx_aload_n (q := 119) dX0_done_118 rfl rfl rfl ?_
    refine zy_getIe (q := 122) (v := nI k) dX0_done_119 fl_RX0_19 rfl rfl (((z_t1_ne (by omega) (by omega)).trans hK)) rfl ?_
    refine zx_iload_n (q := 123) dX0_done_122 rfl rfl rfl ?_
    refine zx_iload_n (q := 124) dX0_done_123 rfl rfl rfl ?_
    refine zx_callV4i (q := 127) (y' := mX0_run) dX0_done_124 ml_RX0_28 ok_mX0_run rfl (by decide) rfl (Nat.le_of_ble_eq_true rfl) (Nat.le_of_ble_eq_true rfl) (Nat.le_refl _) (Nat.le_refl _) rfl (ih 1 k x (r + 1) _ (by decide) (by omega) ((z_t1_ne (by omega) (by omega)).trans hK) ((z_t1_ne (by omega) (by omega)).trans hI) ((z_t1_ne (by omega) (by omega)).trans hV) z_t1_at (by omega) (by omega)) ?_
    rintro _ _ ⟨rfl, rfl⟩
    refine zx_iconst (q := 128) (v := 2) dX0_done_127 (by decide) rfl ?_
    refine zx_imul (q := 129) dX0_done_128 rfl ?_
    refine zx_iret dX0_done_129 rfl (Nat.le_refl _) (Nat.le_refl _) ⟨_, rfl, ?_⟩
    rw [z_rn_12 c_1_12, c_1_12]
    exact ⟨rfl, rfl⟩
  refine zx_case (v := 20) (fun c_1_20 => ?_) (fun c_1_20 => ?_)
  · refine zx_lookup (t := 130) (off := 129) dX0_done_1 (by decide) (by rw [c_1_20]; decide) (by decide) ?_
    rw [z_rn_20 c_1_20] at hlen
    try simp only [List.length_cons, List.length_append] at hlen
    refine zx_aload_n (q := 131) dX0_done_130 rfl rfl rfl ?_
    refine zx_iconst (q := 132) (v := 1) dX0_done_131 (by decide) rfl ?_
    refine zx_iconst (q := 133) (v := 0) dX0_done_132 (by decide) rfl ?_
    refine zx_iload_n (q := 134) dX0_done_133 rfl rfl rfl ?_
    refine zx_iload_n (q := 135) dX0_done_134 rfl rfl rfl ?_
    refine zx_callV4i (q := 138) (y' := mX0_run) dX0_done_135 ml_RX0_28 ok_mX0_run rfl (by decide) rfl (Nat.le_of_ble_eq_true rfl) (Nat.le_of_ble_eq_true rfl) (Nat.le_refl _) (Nat.le_refl _) rfl (ih 1 0 x (r + 1) _ (by decide) (by omega) ((z_t1_ne (by omega) (by omega)).trans hK) ((z_t1_ne (by omega) (by omega)).trans hI) ((z_t1_ne (by omega) (by omega)).trans hV) z_t1_at (by omega) (by omega)) ?_
    rintro _ _ ⟨rfl, rfl⟩
    refine zx_bipush (q := 140) (v := 6) dX0_done_138 (by decide) rfl ?_
    refine zx_ixor (q := 141) dX0_done_140 rfl ?_
    refine zx_iret dX0_done_141 rfl (Nat.le_refl _) (Nat.le_refl _) ⟨_, rfl, ?_⟩
    rw [z_rn_20 c_1_20, c_1_20]
    exact ⟨rfl, rfl⟩
  refine zx_case (v := 30) (fun c_1_30 => ?_) (fun c_1_30 => ?_)
  · refine zx_lookup (t := 142) (off := 141) dX0_done_1 (by decide) (by rw [c_1_30]; decide) (by decide) ?_
    rw [z_rn_30 c_1_30] at hlen
    try simp only [List.length_cons, List.length_append] at hlen
    refine zx_aload_n (q := 143) dX0_done_142 rfl rfl rfl ?_
    refine zx_iconst (q := 144) (v := 0) dX0_done_143 (by decide) rfl ?_
    refine zx_iconst (q := 145) (v := 0) dX0_done_144 (by decide) rfl ?_
    refine zx_iload_n (q := 146) dX0_done_145 rfl rfl rfl ?_
    refine zx_iconst (q := 147) (v := 3) dX0_done_146 (by decide) rfl ?_
    refine zx_imul (q := 148) dX0_done_147 rfl ?_
    refine zx_iload_n (q := 149) dX0_done_148 rfl rfl rfl ?_
    refine zx_callV4i (q := 152) (y' := mX0_run) dX0_done_149 ml_RX0_28 ok_mX0_run rfl (by decide) rfl (Nat.le_of_ble_eq_true rfl) (Nat.le_of_ble_eq_true rfl) (Nat.le_refl _) (Nat.le_refl _) rfl (ih 0 0 (x * 3) (r + 1) _ (by decide) (by omega) ((z_t1_ne (by omega) (by omega)).trans hK) ((z_t1_ne (by omega) (by omega)).trans hI) ((z_t1_ne (by omega) (by omega)).trans hV) z_t1_at (by omega) (by omega)) ?_
    rintro _ _ ⟨rfl, rfl⟩
    refine zx_iret dX0_done_152 rfl (Nat.le_refl _) (Nat.le_refl _) ⟨_, rfl, ?_⟩
    rw [z_rn_30 c_1_30, c_1_30]
    exact ⟨rfl, rfl⟩
  refine zx_case (v := 40) (fun c_1_40 => ?_) (fun c_1_40 => ?_)
  · refine zx_lookup (t := 153) (off := 152) dX0_done_1 (by decide) (by rw [c_1_40]; decide) (by decide) ?_
    rw [z_rn_40 c_1_40] at hlen
    try simp only [List.length_cons, List.length_append] at hlen
    refine zx_aload_n (q := 154) dX0_done_153 rfl rfl rfl ?_
    refine zx_iconst (q := 155) (v := 2) dX0_done_154 (by decide) rfl ?_
    refine zx_iconst (q := 156) (v := 0) dX0_done_155 (by decide) rfl ?_
    refine zx_iload_n (q := 157) dX0_done_156 rfl rfl rfl ?_
    refine zx_iload_n (q := 158) dX0_done_157 rfl rfl rfl ?_
    refine zx_callV4i (q := 161) (y' := mX0_run) dX0_done_158 ml_RX0_28 ok_mX0_run rfl (by decide) rfl (Nat.le_of_ble_eq_true rfl) (Nat.le_of_ble_eq_true rfl) (Nat.le_refl _) (Nat.le_refl _) rfl (ih 2 0 x (r + 1) _ (by decide) (by omega) ((z_t1_ne (by omega) (by omega)).trans hK) ((z_t1_ne (by omega) (by omega)).trans hI) ((z_t1_ne (by omega) (by omega)).trans hV) z_t1_at (by omega) (by omega)) ?_
    rintro _ _ ⟨rfl, rfl⟩
    refine zx_aload_n (q := 162) dX0_done_161 rfl rfl rfl ?_
    refine zx_iconst (q := 163) (v := 1) dX0_done_162 (by decide) rfl ?_
    refine zx_aload_n (q := 164) dX0_done_163 rfl rfl rfl ?_
    refine zy_getIe (q := 167) (v := nI k) dX0_done_164 fl_RX0_19 rfl rfl (((z_tr_ne (by omega) (by omega) _ _ _).trans ((z_t1_ne (by omega) (by omega)).trans hK))) rfl ?_
    refine zx_iconst (q := 168) (v := 1) dX0_done_167 (by decide) rfl ?_
    refine zx_iload_n (q := 169) dX0_done_168 rfl rfl rfl ?_
    refine zx_callV4i (q := 172) (y' := mX0_run) dX0_done_169 ml_RX0_28 ok_mX0_run rfl (by decide) rfl (Nat.le_of_ble_eq_true rfl) (Nat.le_of_ble_eq_true rfl) (Nat.le_refl _) (Nat.le_refl _) rfl (ih 1 k 1 (r + 1 + (z_rn k i v n 2 0 x).2.length) _ (by decide) (by omega) ((z_tr_ne (by omega) (by omega) _ _ _).trans ((z_t1_ne (by omega) (by omega)).trans hK)) ((z_tr_ne (by omega) (by omega) _ _ _).trans ((z_t1_ne (by omega) (by omega)).trans hI)) ((z_tr_ne (by omega) (by omega) _ _ _).trans ((z_t1_ne (by omega) (by omega)).trans hV)) (z_tr_at _ _ _ z_t1_at) (by omega) (by omega)) ?_
    rintro _ _ ⟨rfl, rfl⟩
    refine zx_iadd (q := 173) dX0_done_172 rfl ?_
    refine zx_iret dX0_done_173 rfl (Nat.le_refl _) (Nat.le_refl _) ⟨_, rfl, ?_⟩
    rw [z_rn_40 c_1_40, c_1_40]
    exact ⟨rfl, by rw [z_tr, z_tr_app]⟩
  refine zx_case (v := 50) (fun c_1_50 => ?_) (fun c_1_50 => ?_)
  · refine zx_lookup (t := 174) (off := 173) dX0_done_1 (by decide) (by rw [c_1_50]; decide) (by decide) ?_
    rw [z_rn_50 c_1_50] at hlen
    try simp only [List.length_cons, List.length_append] at hlen
    refine zx_aload_n (q := 175) dX0_done_174 rfl rfl rfl ?_
    refine zx_iconst (q := 176) (v := 0) dX0_done_175 (by decide) rfl ?_
    refine zx_iconst (q := 177) (v := 1) dX0_done_176 (by decide) rfl ?_
    refine zx_iload_n (q := 178) dX0_done_177 rfl rfl rfl ?_
    refine zx_iload_n (q := 179) dX0_done_178 rfl rfl rfl ?_
    refine zx_callV4i (q := 182) (y' := mX0_run) dX0_done_179 ml_RX0_28 ok_mX0_run rfl (by decide) rfl (Nat.le_of_ble_eq_true rfl) (Nat.le_of_ble_eq_true rfl) (Nat.le_refl _) (Nat.le_refl _) rfl (ih 0 1 x (r + 1) _ (by decide) (by omega) ((z_t1_ne (by omega) (by omega)).trans hK) ((z_t1_ne (by omega) (by omega)).trans hI) ((z_t1_ne (by omega) (by omega)).trans hV) z_t1_at (by omega) (by omega)) ?_
    rintro _ _ ⟨rfl, rfl⟩
    refine zx_ineg (q := 183) dX0_done_182 rfl ?_
    refine zx_iret dX0_done_183 rfl (Nat.le_refl _) (Nat.le_refl _) ⟨_, rfl, ?_⟩
    rw [z_rn_50 c_1_50, c_1_50]
    exact ⟨rfl, rfl⟩
  refine zx_case (v := 51) (fun c_1_51 => ?_) (fun c_1_51 => ?_)
  · refine zx_lookup (t := 184) (off := 183) dX0_done_1 (by decide) (by rw [c_1_51]; decide) (by decide) ?_
    rw [z_rn_51 c_1_51] at hlen
    try simp only [List.length_cons, List.length_append] at hlen
    refine zx_aload_n (q := 185) dX0_done_184 rfl rfl rfl ?_
    refine zx_iconst (q := 186) (v := 1) dX0_done_185 (by decide) rfl ?_
    refine zx_iconst (q := 187) (v := 1) dX0_done_186 (by decide) rfl ?_
    refine zx_iload_n (q := 188) dX0_done_187 rfl rfl rfl ?_
    refine zx_iconst (q := 189) (v := 1) dX0_done_188 (by decide) rfl ?_
    refine zx_iadd (q := 190) dX0_done_189 rfl ?_
    refine zx_iload_n (q := 191) dX0_done_190 rfl rfl rfl ?_
    refine zx_callV4i (q := 194) (y' := mX0_run) dX0_done_191 ml_RX0_28 ok_mX0_run rfl (by decide) rfl (Nat.le_of_ble_eq_true rfl) (Nat.le_of_ble_eq_true rfl) (Nat.le_refl _) (Nat.le_refl _) rfl (ih 1 1 (x + 1) (r + 1) _ (by decide) (by omega) ((z_t1_ne (by omega) (by omega)).trans hK) ((z_t1_ne (by omega) (by omega)).trans hI) ((z_t1_ne (by omega) (by omega)).trans hV) z_t1_at (by omega) (by omega)) ?_
    rintro _ _ ⟨rfl, rfl⟩
    refine zx_iret dX0_done_194 rfl (Nat.le_refl _) (Nat.le_refl _) ⟨_, rfl, ?_⟩
    rw [z_rn_51 c_1_51, c_1_51]
    exact ⟨rfl, rfl⟩
  refine zx_case (v := 60) (fun c_1_60 => ?_) (fun c_1_60 => ?_)
  · refine zx_lookup (t := 195) (off := 194) dX0_done_1 (by decide) (by rw [c_1_60]; decide) (by decide) ?_
    rw [z_rn_60 c_1_60] at hlen
    try simp only [List.length_cons, List.length_append] at hlen
    refine zx_aload_n (q := 196) dX0_done_195 rfl rfl rfl ?_
    refine zx_iconst (q := 197) (v := 2) dX0_done_196 (by decide) rfl ?_
    refine zx_iconst (q := 198) (v := 2) dX0_done_197 (by decide) rfl ?_
    refine zx_iload_n (q := 199) dX0_done_198 rfl rfl rfl ?_
    refine zx_aload_n (q := 200) dX0_done_199 rfl rfl rfl ?_
    refine zy_getIe (q := 203) (v := i) dX0_done_200 fl_RX0_25 rfl rfl (((z_t1_ne (by omega) (by omega)).trans hI)) rfl ?_
    refine zx_isub (q := 204) dX0_done_203 rfl ?_
    refine zx_iload_n (q := 205) dX0_done_204 rfl rfl rfl ?_
    refine zx_callV4i (q := 208) (y' := mX0_run) dX0_done_205 ml_RX0_28 ok_mX0_run rfl (by decide) rfl (Nat.le_of_ble_eq_true rfl) (Nat.le_of_ble_eq_true rfl) (Nat.le_refl _) (Nat.le_refl _) rfl (ih 2 2 (x - i) (r + 1) _ (by decide) (by omega) ((z_t1_ne (by omega) (by omega)).trans hK) ((z_t1_ne (by omega) (by omega)).trans hI) ((z_t1_ne (by omega) (by omega)).trans hV) z_t1_at (by omega) (by omega)) ?_
    rintro _ _ ⟨rfl, rfl⟩
    refine zx_iret dX0_done_208 rfl (Nat.le_refl _) (Nat.le_refl _) ⟨_, rfl, ?_⟩
    rw [z_rn_60 c_1_60, c_1_60]
    exact ⟨rfl, rfl⟩
  refine zx_case (v := 70) (fun c_1_70 => ?_) (fun c_1_70 => ?_)
  · refine zx_lookup (t := 209) (off := 208) dX0_done_1 (by decide) (by rw [c_1_70]; decide) (by decide) ?_
    rw [z_rn_70 c_1_70] at hlen
    try simp only [List.length_cons, List.length_append] at hlen
    refine zx_aload_n (q := 210) dX0_done_209 rfl rfl rfl ?_
    refine zx_iconst (q := 211) (v := 1) dX0_done_210 (by decide) rfl ?_
    refine zx_iconst (q := 212) (v := 3) dX0_done_211 (by decide) rfl ?_
    refine zx_iload_n (q := 213) dX0_done_212 rfl rfl rfl ?_
    refine zx_iload_n (q := 214) dX0_done_213 rfl rfl rfl ?_
    refine zx_callV4i (q := 217) (y' := mX0_run) dX0_done_214 ml_RX0_28 ok_mX0_run rfl (by decide) rfl (Nat.le_of_ble_eq_true rfl) (Nat.le_of_ble_eq_true rfl) (Nat.le_refl _) (Nat.le_refl _) rfl (ih 1 3 x (r + 1) _ (by decide) (by omega) ((z_t1_ne (by omega) (by omega)).trans hK) ((z_t1_ne (by omega) (by omega)).trans hI) ((z_t1_ne (by omega) (by omega)).trans hV) z_t1_at (by omega) (by omega)) ?_
    rintro _ _ ⟨rfl, rfl⟩
    refine zx_aload_n (q := 218) dX0_done_217 rfl rfl rfl ?_
    refine zx_iconst (q := 219) (v := 0) dX0_done_218 (by decide) rfl ?_
    refine zx_iconst (q := 220) (v := 3) dX0_done_219 (by decide) rfl ?_
    refine zx_iconst (q := 221) (v := 2) dX0_done_220 (by decide) rfl ?_
    refine zx_iload_n (q := 222) dX0_done_221 rfl rfl rfl ?_
    refine zx_callV4i (q := 225) (y' := mX0_run) dX0_done_222 ml_RX0_28 ok_mX0_run rfl (by decide) rfl (Nat.le_of_ble_eq_true rfl) (Nat.le_of_ble_eq_true rfl) (Nat.le_refl _) (Nat.le_refl _) rfl (ih 0 3 2 (r + 1 + (z_rn k i v n 1 3 x).2.length) _ (by decide) (by omega) ((z_tr_ne (by omega) (by omega) _ _ _).trans ((z_t1_ne (by omega) (by omega)).trans hK)) ((z_tr_ne (by omega) (by omega) _ _ _).trans ((z_t1_ne (by omega) (by omega)).trans hI)) ((z_tr_ne (by omega) (by omega) _ _ _).trans ((z_t1_ne (by omega) (by omega)).trans hV)) (z_tr_at _ _ _ z_t1_at) (by omega) (by omega)) ?_
    rintro _ _ ⟨rfl, rfl⟩
    refine zx_iadd (q := 226) dX0_done_225 rfl ?_
    refine zx_iret dX0_done_226 rfl (Nat.le_refl _) (Nat.le_refl _) ⟨_, rfl, ?_⟩
    rw [z_rn_70 c_1_70, c_1_70]
    exact ⟨rfl, by rw [z_tr, z_tr_app]⟩
  refine zx_lookup (t := 227) (off := 226) dX0_done_1 (by decide) (by show Op.lookupswitch.offset _ _ _ = _; rw [lv_osw c_1_10 (by decide)]; rw [lv_osw c_1_11 (by decide)]; rw [lv_osw c_1_12 (by decide)]; rw [lv_osw c_1_20 (by decide)]; rw [lv_osw c_1_30 (by decide)]; rw [lv_osw c_1_40 (by decide)]; rw [lv_osw c_1_50 (by decide)]; rw [lv_osw c_1_51 (by decide)]; rw [lv_osw c_1_60 (by decide)]; rw [lv_osw c_1_70 (by decide)]; rfl) (by decide) ?_
  have h71 := z_BD_71 (3 * s + a) (by omega) c_1_10 c_1_11 c_1_12 c_1_20 c_1_30 c_1_40 c_1_50 c_1_51 c_1_60 c_1_70
  rw [z_rn_71 h71 c_1_10 c_1_11 c_1_12 c_1_20 c_1_30 c_1_40 c_1_50 c_1_51 c_1_60 c_1_70] at hlen
  simp only [List.length_cons] at hlen
  refine zx_aload_n (q := 228) dX0_done_227 rfl rfl rfl ?_
  refine zx_iconst (q := 229) (v := 0) dX0_done_228 (by decide) rfl ?_
  refine zx_iconst (q := 230) (v := 3) dX0_done_229 (by decide) rfl ?_
  refine zx_iload_n (q := 231) dX0_done_230 rfl rfl rfl ?_
  refine zx_iload_n (q := 232) dX0_done_231 rfl rfl rfl ?_
  refine zx_callV4i (q := 235) (y' := mX0_run) dX0_done_232 ml_RX0_28 ok_mX0_run rfl (by decide) rfl (Nat.le_of_ble_eq_true rfl) (Nat.le_of_ble_eq_true rfl) (Nat.le_refl _) (Nat.le_refl _) rfl (ih 0 3 x (r + 1) _ (by decide) (by omega) ((z_t1_ne (by omega) (by omega)).trans hK) ((z_t1_ne (by omega) (by omega)).trans hI) ((z_t1_ne (by omega) (by omega)).trans hV) z_t1_at (by omega) (by omega)) ?_
  rintro _ _ ⟨rfl, rfl⟩
  refine zx_aload_n (q := 236) dX0_done_235 rfl rfl rfl ?_
  refine zy_getIe (q := 239) (v := v) dX0_done_236 fl_RX0_22 rfl rfl (((z_tr_ne (by omega) (by omega) _ _ _).trans ((z_t1_ne (by omega) (by omega)).trans hV))) rfl ?_
  refine zx_ixor (q := 240) dX0_done_239 rfl ?_
  refine zx_iret dX0_done_240 rfl (Nat.le_refl _) (Nat.le_refl _) ⟨_, rfl, ?_⟩
  rw [z_rn_71 h71 c_1_10 c_1_11 c_1_12 c_1_20 c_1_30 c_1_40 c_1_50 c_1_51 c_1_60 c_1_70, h71]
  exact ⟨rfl, rfl⟩
set_option maxHeartbeats 4000000 in
theorem t_X0_run (d k : Nat) (i v : Int32) (hk : k < 7) : ∀ (n : Nat), ∀ (a s : Nat) (x : Int32) (r : Nat) (gi : Nat → Nat → Int32), a < 3 → s < 7 → gi 63 2 = nI k → gi 63 3 = i → gi 63 4 = v → gi 63 0 = nI r → n ≤ 20 → r + (z_rn k i v n a s x).2.length < 1000 → zCall l D tc A mX0_run (d + 2 * n + 1) 0 0 [.ref 63, .int (nI a), .int (nI s), .int x, .int (nI (20 - n))] (zs gi gl f) (zQi fun q S' => q = (z_rn k i v n a s x).1 ∧ S' = zs (z_tr 63 0 64 gi r (z_rn k i v n a s x).2) gl f) := by
  intro n
  induction n with
  | zero =>
    intro a s x r gi ha hs hK hI hV hr hn hlen
    show zW l D tc A mX0_run (d + 2 * 0 + 1) 0 0 0 0 0 [some (.ref 63), some (.int (nI a)), some (.int (nI s)), some (.int x), some (.int (nI 20)), none] [] (zs gi gl f) _
    refine zx_iload (q := 2) dX0_run_0 rfl rfl ?_
    refine zx_bipush (q := 4) (v := 20) dX0_run_2 (by decide) rfl ?_
    refine zx_icmp_lt_f (t := 9) (q := 7) dX0_run_4 (by decide) rfl (by decide) ?_
    refine zx_iconst (q := 8) (v := 0) dX0_run_7 (by decide) rfl ?_
    refine zx_iret dX0_run_8 rfl (Nat.le_refl _) (Nat.le_refl _) ⟨_, rfl, ?_⟩
    exact ⟨rfl, rfl⟩
  | succ n ih =>
    intro a s x r gi ha hs hK hI hV hr hn hlen
    rw [show d + 2 * (n + 1) + 1 = d + 2 * n + 1 + 1 + 1 from by omega]
    show zW l D tc A mX0_run (d + 2 * n + 1 + 1 + 1) 0 0 0 0 0 [some (.ref 63), some (.int (nI a)), some (.int (nI s)), some (.int x), some (.int (nI (20 - (n + 1)))), none] [] (zs gi gl f) _
    refine zx_iload (q := 2) dX0_run_0 rfl rfl ?_
    refine zx_bipush (q := 4) (v := 20) dX0_run_2 (by decide) rfl ?_
    refine zx_icmp_lt_t (t := 9) (q := 7) dX0_run_4 (by decide) rfl (nI_lt (a := 20 - (n + 1)) (b := 20) (by omega) (by decide)) ?_
    refine zx_gsBD (q := 12) dX0_run_9 sf_RX0_32 rfl ?_
    refine zx_iload_n (q := 13) dX0_run_12 rfl rfl rfl ?_
    refine zx_iconst (q := 14) (v := 3) dX0_run_13 (by decide) rfl ?_
    refine zx_imul (q := 15) dX0_run_14 rfl ?_
    refine zx_iload_n (q := 16) dX0_run_15 rfl rfl rfl ?_
    refine zx_iadd (q := 17) dX0_run_16 rfl ?_
    refine zx_taBD (q := 18) dX0_run_17 (by rw [z_3r]; exact vp_in_nI (by omega) (by decide)) rfl ?_
    rw [z_3r, nI_clamp (by omega)]
    refine zx_istore5 (q := 20) dX0_run_18 rfl rfl ?_
    refine zx_aload_n (q := 21) dX0_run_20 rfl rfl rfl ?_
    refine zx_iload (q := 23) dX0_run_21 rfl rfl ?_
    refine zx_callV1v (q := 26) (y' := mX0_begins) dX0_run_23 ml_RX0_35 ok_mX0_begins rfl (by decide) rfl (Nat.le_of_ble_eq_true rfl) (Nat.le_of_ble_eq_true rfl) (Nat.le_refl _) (Nat.le_refl _) rfl (t_X0_begins _ r _ hr (by omega)) ?_
    rintro _ ⟨rfl⟩
    refine zx_aload_n (q := 27) dX0_run_26 rfl rfl rfl ?_
    refine zx_iload (q := 29) dX0_run_27 rfl rfl ?_
    refine zx_iload_n (q := 30) dX0_run_29 rfl rfl rfl ?_
    refine zx_iload (q := 32) dX0_run_30 rfl rfl ?_
    refine zx_iconst (q := 33) (v := 1) dX0_run_32 (by decide) rfl ?_
    refine zx_iadd (q := 34) dX0_run_33 rfl ?_
    rw [show nI (20 - (n + 1)) + 1 = nI (20 - n) from by rw [nI_1]; congr 1; omega]
    refine zx_callV3i (q := 37) (y' := mX0_done) dX0_run_34 ml_RX0_39 ok_mX0_done rfl (by decide) rfl (Nat.le_of_ble_eq_true rfl) (Nat.le_of_ble_eq_true rfl) (Nat.le_refl _) (Nat.le_refl _) rfl (t_X0_done d k n i v hk ih a s x r gi ha hs hK hI hV hn hlen) ?_
    rintro _ _ ⟨rfl, rfl⟩
    refine zx_iret dX0_run_37 rfl (Nat.le_refl _) (Nat.le_refl _) ⟨_, rfl, ?_⟩
    exact ⟨rfl, rfl⟩
end P26
