/-! what one beast shows -/
def z_shw (k v pl h m T : Nat) : Nat :=
  if k = 5 ∧ m = v then 0
  else if h = 0 then (if k = 3 ∨ k = 6 then pl - 1 else pl)
  else if h = 1 then (if (k = 2 ∨ k = 5) ∧ m < 5 then 0 else if k = 1 ∨ k = 4 then pl + v % 2 else pl)
  else if k = 6 then T else if k = 4 then 2 * pl else pl
theorem z_max0 {N : Nat} (h : N < 2 ^ 31) : (if (nI N - 1 : Int32) < 0 then (0 : Int32) else nI N - 1) = nI (N - 1) := by
  cases N with
  | zero => decide
  | succ N => rw [nI_pred, if_neg (by rw [show (0 : Int32) = nI 0 from rfl]; exact nI_nlt (by omega) (by omega))]; rfl
theorem z_max0' {N : Nat} (h : N < 2 ^ 31) : (if (0 : Int32) < (nI N - 1 : Int32) then (nI N - 1 : Int32) else 0) = nI (N - 1) := by
  cases N with
  | zero => decide
  | succ N =>
    rw [nI_pred]
    cases N with
    | zero => decide
    | succ N => rw [if_pos (by rw [show (0 : Int32) = nI 0 from rfl]; exact nI_lt (by omega) (by omega))]; rfl
section P32
variable {l : Launch} {D : va_G} {tc : Nat → ClassId} {A : Nat → Prop} {S : zw_S} {gi : Nat → Nat → Int32} {gl : Nat → Nat → Int64} {f : Option Nat}
set_option maxHeartbeats 4000000 in
theorem t_X4_shown (d s k v pl h m T : Nat) (hs : s < 5) (hk : gi (3 + s) 0 = nI k) (hv : gi (3 + s) 1 = nI v) (hk6 : k ≤ 6) (hv9 : v ≤ 9) (hpl : pl < 10000) (hh : h < 3) (hm : m < 12) : zCall l D tc A mX4_shown (d + 1) 0 0 [.ref (3 + s), .int (nI h), .int (nI pl), .int (nI m), .int (nI T)] (zs gi gl f) (zQi fun r S' => r = nI (z_shw k v pl h m T) ∧ S' = zs gi gl f) := by
  show zW l D tc A mX4_shown (d + 1) 0 0 0 0 0 [some (.ref (3 + s)), some (.int (nI h)), some (.int (nI pl)), some (.int (nI m)), some (.int (nI T)), none] [] (zs gi gl f) _
  refine zx_aload_n (q := 1) dX4_shown_0 rfl rfl rfl ?_
  refine zx_iconst (q := 2) (v := 0) dX4_shown_1 (by decide) rfl ?_
  refine zy_iald (q := 3) dX4_shown_2 (zr_2 (f := f) hs).2 (vp_in_nI (n := 0) (by decide) (by decide)) rfl ?_
  rw [show gi (3 + s) (0 : Int32).toNatClampNeg = nI k from hk]
  refine zx_istore5 (q := 5) dX4_shown_3 rfl rfl ?_
  refine zx_iload (q := 7) dX4_shown_5 rfl rfl ?_
  refine zx_iconst (q := 8) (v := 5) dX4_shown_7 (by decide) rfl ?_
  refine zx_icmp_ne (q := 11) (t := 20) dX4_shown_8 (by decide) rfl (fun c_8 => ?_) (fun c_8 => ?_)
  · have a8 : ¬ k = 5 := fun z => c_8 (by subst z; rfl)
    refine zx_iload_n (q := 21) dX4_shown_20 rfl rfl rfl ?_
    refine zx_if_ne (q := 24) (t := 45) dX4_shown_21 (by decide) rfl (fun c_21 => ?_) (fun c_21 => ?_)
    · have a21 : ¬ h = 0 := fun z => c_21 (by subst z; rfl)
      refine zx_iload_n (q := 46) dX4_shown_45 rfl rfl rfl ?_
      refine zx_iconst (q := 47) (v := 1) dX4_shown_46 (by decide) rfl ?_
      refine zx_icmp_ne (q := 50) (t := 87) dX4_shown_47 (by decide) rfl (fun c_47 => ?_) (fun c_47 => ?_)
      · have a47 : ¬ h = 1 := fun z => c_47 (by subst z; rfl)
        refine zx_iload (q := 89) dX4_shown_87 rfl rfl ?_
        refine zx_bipush (q := 91) (v := 6) dX4_shown_89 (by decide) rfl ?_
        refine zx_icmp_ne (q := 94) (t := 97) dX4_shown_91 (by decide) rfl (fun c_91 => ?_) (fun c_91 => ?_)
        · have a91 : ¬ k = 6 := fun z => c_91 (by subst z; rfl)
          refine zx_iload (q := 99) dX4_shown_97 rfl rfl ?_
          refine zx_iconst (q := 100) (v := 4) dX4_shown_99 (by decide) rfl ?_
          refine zx_icmp_ne (q := 103) (t := 109) dX4_shown_100 (by decide) rfl (fun c_100 => ?_) (fun c_100 => ?_)
          · have a100 : ¬ k = 4 := fun z => c_100 (by subst z; rfl)
            refine zx_iload_n (q := 110) dX4_shown_109 rfl rfl rfl ?_
            refine zx_iret dX4_shown_110 rfl (Nat.le_refl _) (Nat.le_refl _) ⟨_, rfl, ?_⟩
            refine ⟨?_, rfl⟩
            refine congrArg nI ?_
            unfold z_shw
            unfold z_kof at *
            (repeat' split) <;> omega
          · have a100 : k = 4 := (nI_eq (a := k) (b := 4) (by omega) (by omega)).mp c_100
            refine zx_iconst (q := 104) (v := 2) dX4_shown_103 (by decide) rfl ?_
            refine zx_iload_n (q := 105) dX4_shown_104 rfl rfl rfl ?_
            refine zx_imul (q := 106) dX4_shown_105 rfl ?_
            rw [show (2 : Int32) * nI pl = nI (2 * pl) from by rw [show (2 : Int32) = nI 2 from rfl, z_mul]]
            refine zx_goto (t := 110) dX4_shown_106 (by decide) ?_
            refine zx_iret dX4_shown_110 rfl (Nat.le_refl _) (Nat.le_refl _) ⟨_, rfl, ?_⟩
            refine ⟨?_, rfl⟩
            refine congrArg nI ?_
            unfold z_shw
            unfold z_kof at *
            (repeat' split) <;> omega
        · have a91 : k = 6 := (nI_eq (a := k) (b := 6) (by omega) (by omega)).mp c_91
          refine zx_iload (q := 96) dX4_shown_94 rfl rfl ?_
          refine zx_iret dX4_shown_96 rfl (Nat.le_refl _) (Nat.le_refl _) ⟨_, rfl, ?_⟩
          refine ⟨?_, rfl⟩
          refine congrArg nI ?_
          unfold z_shw
          unfold z_kof at *
          (repeat' split) <;> omega
      · have a47 : h = 1 := (nI_eq (a := h) (b := 1) (by omega) (by omega)).mp c_47
        refine zx_iload (q := 52) dX4_shown_50 rfl rfl ?_
        refine zx_iconst (q := 53) (v := 2) dX4_shown_52 (by decide) rfl ?_
        refine zx_callSN2i (q := 56) (y' := mX7_isKindOf) dX4_shown_53 (by decide) ok_mX7_isKindOf (Nat.le_of_ble_eq_true rfl) (Nat.le_of_ble_eq_true rfl) (Nat.le_refl _) (Nat.le_refl _) rfl (t_X7_isKindOf _ k 2 (by omega) (by omega)) ?_
        rintro r _ ⟨rfl, hr⟩
        refine zx_if_eq (q := 59) (t := 66) dX4_shown_56 (by decide) rfl (fun c_56 => ?_) (fun c_56 => ?_)
        · have a56 : ¬ z_kof k 2 := by
            rcases hr with ⟨z1, z2⟩ | ⟨z1, z2⟩
            · rw [c_56] at z1; exact absurd z1 (by decide)
            · exact z2
          refine zx_iload (q := 68) dX4_shown_66 rfl rfl ?_
          refine zx_iconst (q := 69) (v := 1) dX4_shown_68 (by decide) rfl ?_
          refine zx_callSN2i (q := 72) (y' := mX7_isKindOf) dX4_shown_69 (by decide) ok_mX7_isKindOf (Nat.le_of_ble_eq_true rfl) (Nat.le_of_ble_eq_true rfl) (Nat.le_refl _) (Nat.le_refl _) rfl (t_X7_isKindOf _ k 1 (by omega) (by omega)) ?_
          rintro r _ ⟨rfl, hr⟩
          refine zx_if_eq (q := 75) (t := 85) dX4_shown_72 (by decide) rfl (fun c_72 => ?_) (fun c_72 => ?_)
          · have a72 : ¬ z_kof k 1 := by
              rcases hr with ⟨z1, z2⟩ | ⟨z1, z2⟩
              · rw [c_72] at z1; exact absurd z1 (by decide)
              · exact z2
            refine zx_iload_n (q := 86) dX4_shown_85 rfl rfl rfl ?_
            refine zx_iret dX4_shown_86 rfl (Nat.le_refl _) (Nat.le_refl _) ⟨_, rfl, ?_⟩
            refine ⟨?_, rfl⟩
            refine congrArg nI ?_
            unfold z_shw
            unfold z_kof at *
            (repeat' split) <;> omega
          · have a72 : z_kof k 1 := by
              rcases hr with ⟨z1, z2⟩ | ⟨z1, z2⟩
              · exact z2
              · exact absurd z1 c_72
            refine zx_iload_n (q := 76) dX4_shown_75 rfl rfl rfl ?_
            refine zx_aload_n (q := 77) dX4_shown_76 rfl rfl rfl ?_
            refine zx_iconst (q := 78) (v := 1) dX4_shown_77 (by decide) rfl ?_
            refine zy_iald (q := 79) dX4_shown_78 (zr_2 (f := f) hs).2 (vp_in_nI (n := 1) (by decide) (by decide)) rfl ?_
            rw [show gi (3 + s) (1 : Int32).toNatClampNeg = nI v from hv]
            refine zx_iconst (q := 80) (v := 2) dX4_shown_79 (by decide) rfl ?_
            refine zx_irem (q := 81) dX4_shown_80 (by decide) rfl ?_
            rw [show nI v - nI v / 2 * 2 = nI (v % 2) from by rw [show (2 : Int32) = nI 2 from rfl, z_rem (by omega) (by omega)]]
            refine zx_iadd (q := 82) dX4_shown_81 rfl ?_
            rw [nI_add]
            refine zx_goto (t := 86) dX4_shown_82 (by decide) ?_
            refine zx_iret dX4_shown_86 rfl (Nat.le_refl _) (Nat.le_refl _) ⟨_, rfl, ?_⟩
            refine ⟨?_, rfl⟩
            refine congrArg nI ?_
            unfold z_shw
            unfold z_kof at *
            (repeat' split) <;> omega
        · have a56 : z_kof k 2 := by
            rcases hr with ⟨z1, z2⟩ | ⟨z1, z2⟩
            · exact z2
            · exact absurd z1 c_56
          refine zx_iload_n (q := 60) dX4_shown_59 rfl rfl rfl ?_
          refine zx_iconst (q := 61) (v := 5) dX4_shown_60 (by decide) rfl ?_
          refine zx_icmp_ge (q := 64) (t := 66) dX4_shown_61 (by decide) rfl (fun c_61 => ?_) (fun c_61 => ?_)
          · have a61 : 5 ≤ m := z_ge (x := 5) (n := 5) rfl (by omega) c_61
            refine zx_iload (q := 68) dX4_shown_66 rfl rfl ?_
            refine zx_iconst (q := 69) (v := 1) dX4_shown_68 (by decide) rfl ?_
            refine zx_callSN2i (q := 72) (y' := mX7_isKindOf) dX4_shown_69 (by decide) ok_mX7_isKindOf (Nat.le_of_ble_eq_true rfl) (Nat.le_of_ble_eq_true rfl) (Nat.le_refl _) (Nat.le_refl _) rfl (t_X7_isKindOf _ k 1 (by omega) (by omega)) ?_
            rintro r _ ⟨rfl, hr⟩
            refine zx_if_eq (q := 75) (t := 85) dX4_shown_72 (by decide) rfl (fun c_72 => ?_) (fun c_72 => ?_)
            · have a72 : ¬ z_kof k 1 := by
                rcases hr with ⟨z1, z2⟩ | ⟨z1, z2⟩
                · rw [c_72] at z1; exact absurd z1 (by decide)
                · exact z2
              refine zx_iload_n (q := 86) dX4_shown_85 rfl rfl rfl ?_
              refine zx_iret dX4_shown_86 rfl (Nat.le_refl _) (Nat.le_refl _) ⟨_, rfl, ?_⟩
              refine ⟨?_, rfl⟩
              refine congrArg nI ?_
              unfold z_shw
              unfold z_kof at *
              (repeat' split) <;> omega
            · have a72 : z_kof k 1 := by
                rcases hr with ⟨z1, z2⟩ | ⟨z1, z2⟩
                · exact z2
                · exact absurd z1 c_72
              refine zx_iload_n (q := 76) dX4_shown_75 rfl rfl rfl ?_
              refine zx_aload_n (q := 77) dX4_shown_76 rfl rfl rfl ?_
              refine zx_iconst (q := 78) (v := 1) dX4_shown_77 (by decide) rfl ?_
              refine zy_iald (q := 79) dX4_shown_78 (zr_2 (f := f) hs).2 (vp_in_nI (n := 1) (by decide) (by decide)) rfl ?_
              rw [show gi (3 + s) (1 : Int32).toNatClampNeg = nI v from hv]
              refine zx_iconst (q := 80) (v := 2) dX4_shown_79 (by decide) rfl ?_
              refine zx_irem (q := 81) dX4_shown_80 (by decide) rfl ?_
              rw [show nI v - nI v / 2 * 2 = nI (v % 2) from by rw [show (2 : Int32) = nI 2 from rfl, z_rem (by omega) (by omega)]]
              refine zx_iadd (q := 82) dX4_shown_81 rfl ?_
              rw [nI_add]
              refine zx_goto (t := 86) dX4_shown_82 (by decide) ?_
              refine zx_iret dX4_shown_86 rfl (Nat.le_refl _) (Nat.le_refl _) ⟨_, rfl, ?_⟩
              refine ⟨?_, rfl⟩
              refine congrArg nI ?_
              unfold z_shw
              unfold z_kof at *
              (repeat' split) <;> omega
          · have a61 : m < 5 := z_lt (x := 5) (n := 5) rfl (by omega) c_61
            refine zx_iconst (q := 65) (v := 0) dX4_shown_64 (by decide) rfl ?_
            refine zx_iret dX4_shown_65 rfl (Nat.le_refl _) (Nat.le_refl _) ⟨_, rfl, ?_⟩
            refine ⟨?_, rfl⟩
            rw [show (0 : Int32) = nI 0 from rfl]
            refine congrArg nI ?_
            unfold z_shw
            unfold z_kof at *
            (repeat' split) <;> omega
    · have a21 : h = 0 := (nI_eq (a := h) (b := 0) (by omega) (by omega)).mp c_21
      refine zx_iload (q := 26) dX4_shown_24 rfl rfl ?_
      refine zx_iconst (q := 27) (v := 3) dX4_shown_26 (by decide) rfl ?_
      refine zx_callSN2i (q := 30) (y' := mX7_isKindOf) dX4_shown_27 (by decide) ok_mX7_isKindOf (Nat.le_of_ble_eq_true rfl) (Nat.le_of_ble_eq_true rfl) (Nat.le_refl _) (Nat.le_refl _) rfl (t_X7_isKindOf _ k 3 (by omega) (by omega)) ?_
      rintro r _ ⟨rfl, hr⟩
      refine zx_if_eq (q := 33) (t := 43) dX4_shown_30 (by decide) rfl (fun c_30 => ?_) (fun c_30 => ?_)
      · have a30 : ¬ z_kof k 3 := by
          rcases hr with ⟨z1, z2⟩ | ⟨z1, z2⟩
          · rw [c_30] at z1; exact absurd z1 (by decide)
          · exact z2
        refine zx_iload_n (q := 44) dX4_shown_43 rfl rfl rfl ?_
        refine zx_iret dX4_shown_44 rfl (Nat.le_refl _) (Nat.le_refl _) ⟨_, rfl, ?_⟩
        refine ⟨?_, rfl⟩
        refine congrArg nI ?_
        unfold z_shw
        unfold z_kof at *
        (repeat' split) <;> omega
      · have a30 : z_kof k 3 := by
          rcases hr with ⟨z1, z2⟩ | ⟨z1, z2⟩
          · exact z2
          · exact absurd z1 c_30
        refine zx_iconst (q := 34) (v := 0) dX4_shown_33 (by decide) rfl ?_
        refine zx_iload_n (q := 35) dX4_shown_34 rfl rfl rfl ?_
        refine zx_iconst (q := 36) (v := 1) dX4_shown_35 (by decide) rfl ?_
        refine zx_isub (q := 37) dX4_shown_36 rfl ?_
        refine zx_mmax (q := 40) dX4_shown_37 ml_RX4_57 (Nat.le_of_ble_eq_true rfl) (Nat.le_refl _) (Nat.le_refl _) rfl ?_
        first
          | rw [z_max0 (by omega)]
          | rw [z_max0' (by omega)]
        refine zx_goto (t := 44) dX4_shown_40 (by decide) ?_
        refine zx_iret dX4_shown_44 rfl (Nat.le_refl _) (Nat.le_refl _) ⟨_, rfl, ?_⟩
        refine ⟨?_, rfl⟩
        refine congrArg nI ?_
        unfold z_shw
        unfold z_kof at *
        (repeat' split) <;> omega
  · have a8 : k = 5 := (nI_eq (a := k) (b := 5) (by omega) (by omega)).mp c_8
    refine zx_iload_n (q := 12) dX4_shown_11 rfl rfl rfl ?_
    refine zx_aload_n (q := 13) dX4_shown_12 rfl rfl rfl ?_
    refine zx_iconst (q := 14) (v := 1) dX4_shown_13 (by decide) rfl ?_
    refine zy_iald (q := 15) dX4_shown_14 (zr_2 (f := f) hs).2 (vp_in_nI (n := 1) (by decide) (by decide)) rfl ?_
    rw [show gi (3 + s) (1 : Int32).toNatClampNeg = nI v from hv]
    refine zx_icmp_ne (q := 18) (t := 20) dX4_shown_15 (by decide) rfl (fun c_15 => ?_) (fun c_15 => ?_)
    · have a15 : ¬ m = v := fun z => c_15 (by subst z; rfl)
      refine zx_iload_n (q := 21) dX4_shown_20 rfl rfl rfl ?_
      refine zx_if_ne (q := 24) (t := 45) dX4_shown_21 (by decide) rfl (fun c_21 => ?_) (fun c_21 => ?_)
      · have a21 : ¬ h = 0 := fun z => c_21 (by subst z; rfl)
        refine zx_iload_n (q := 46) dX4_shown_45 rfl rfl rfl ?_
        refine zx_iconst (q := 47) (v := 1) dX4_shown_46 (by decide) rfl ?_
        refine zx_icmp_ne (q := 50) (t := 87) dX4_shown_47 (by decide) rfl (fun c_47 => ?_) (fun c_47 => ?_)
        · have a47 : ¬ h = 1 := fun z => c_47 (by subst z; rfl)
          refine zx_iload (q := 89) dX4_shown_87 rfl rfl ?_
          refine zx_bipush (q := 91) (v := 6) dX4_shown_89 (by decide) rfl ?_
          refine zx_icmp_ne (q := 94) (t := 97) dX4_shown_91 (by decide) rfl (fun c_91 => ?_) (fun c_91 => ?_)
          · have a91 : ¬ k = 6 := fun z => c_91 (by subst z; rfl)
            refine zx_iload (q := 99) dX4_shown_97 rfl rfl ?_
            refine zx_iconst (q := 100) (v := 4) dX4_shown_99 (by decide) rfl ?_
            refine zx_icmp_ne (q := 103) (t := 109) dX4_shown_100 (by decide) rfl (fun c_100 => ?_) (fun c_100 => ?_)
            · have a100 : ¬ k = 4 := fun z => c_100 (by subst z; rfl)
              refine zx_iload_n (q := 110) dX4_shown_109 rfl rfl rfl ?_
              refine zx_iret dX4_shown_110 rfl (Nat.le_refl _) (Nat.le_refl _) ⟨_, rfl, ?_⟩
              refine ⟨?_, rfl⟩
              refine congrArg nI ?_
              unfold z_shw
              unfold z_kof at *
              (repeat' split) <;> omega
            · have a100 : k = 4 := (nI_eq (a := k) (b := 4) (by omega) (by omega)).mp c_100
              refine zx_iconst (q := 104) (v := 2) dX4_shown_103 (by decide) rfl ?_
              refine zx_iload_n (q := 105) dX4_shown_104 rfl rfl rfl ?_
              refine zx_imul (q := 106) dX4_shown_105 rfl ?_
              rw [show (2 : Int32) * nI pl = nI (2 * pl) from by rw [show (2 : Int32) = nI 2 from rfl, z_mul]]
              refine zx_goto (t := 110) dX4_shown_106 (by decide) ?_
              refine zx_iret dX4_shown_110 rfl (Nat.le_refl _) (Nat.le_refl _) ⟨_, rfl, ?_⟩
              refine ⟨?_, rfl⟩
              refine congrArg nI ?_
              unfold z_shw
              unfold z_kof at *
              (repeat' split) <;> omega
          · have a91 : k = 6 := (nI_eq (a := k) (b := 6) (by omega) (by omega)).mp c_91
            refine zx_iload (q := 96) dX4_shown_94 rfl rfl ?_
            refine zx_iret dX4_shown_96 rfl (Nat.le_refl _) (Nat.le_refl _) ⟨_, rfl, ?_⟩
            refine ⟨?_, rfl⟩
            refine congrArg nI ?_
            unfold z_shw
            unfold z_kof at *
            (repeat' split) <;> omega
        · have a47 : h = 1 := (nI_eq (a := h) (b := 1) (by omega) (by omega)).mp c_47
          refine zx_iload (q := 52) dX4_shown_50 rfl rfl ?_
          refine zx_iconst (q := 53) (v := 2) dX4_shown_52 (by decide) rfl ?_
          refine zx_callSN2i (q := 56) (y' := mX7_isKindOf) dX4_shown_53 (by decide) ok_mX7_isKindOf (Nat.le_of_ble_eq_true rfl) (Nat.le_of_ble_eq_true rfl) (Nat.le_refl _) (Nat.le_refl _) rfl (t_X7_isKindOf _ k 2 (by omega) (by omega)) ?_
          rintro r _ ⟨rfl, hr⟩
          refine zx_if_eq (q := 59) (t := 66) dX4_shown_56 (by decide) rfl (fun c_56 => ?_) (fun c_56 => ?_)
          · have a56 : ¬ z_kof k 2 := by
              rcases hr with ⟨z1, z2⟩ | ⟨z1, z2⟩
              · rw [c_56] at z1; exact absurd z1 (by decide)
              · exact z2
            refine zx_iload (q := 68) dX4_shown_66 rfl rfl ?_
            refine zx_iconst (q := 69) (v := 1) dX4_shown_68 (by decide) rfl ?_
            refine zx_callSN2i (q := 72) (y' := mX7_isKindOf) dX4_shown_69 (by decide) ok_mX7_isKindOf (Nat.le_of_ble_eq_true rfl) (Nat.le_of_ble_eq_true rfl) (Nat.le_refl _) (Nat.le_refl _) rfl (t_X7_isKindOf _ k 1 (by omega) (by omega)) ?_
            rintro r _ ⟨rfl, hr⟩
            refine zx_if_eq (q := 75) (t := 85) dX4_shown_72 (by decide) rfl (fun c_72 => ?_) (fun c_72 => ?_)
            · have a72 : ¬ z_kof k 1 := by
                rcases hr with ⟨z1, z2⟩ | ⟨z1, z2⟩
                · rw [c_72] at z1; exact absurd z1 (by decide)
                · exact z2
              refine zx_iload_n (q := 86) dX4_shown_85 rfl rfl rfl ?_
              refine zx_iret dX4_shown_86 rfl (Nat.le_refl _) (Nat.le_refl _) ⟨_, rfl, ?_⟩
              refine ⟨?_, rfl⟩
              refine congrArg nI ?_
              unfold z_shw
              unfold z_kof at *
              (repeat' split) <;> omega
            · have a72 : z_kof k 1 := by
                rcases hr with ⟨z1, z2⟩ | ⟨z1, z2⟩
                · exact z2
                · exact absurd z1 c_72
              refine zx_iload_n (q := 76) dX4_shown_75 rfl rfl rfl ?_
              refine zx_aload_n (q := 77) dX4_shown_76 rfl rfl rfl ?_
              refine zx_iconst (q := 78) (v := 1) dX4_shown_77 (by decide) rfl ?_
              refine zy_iald (q := 79) dX4_shown_78 (zr_2 (f := f) hs).2 (vp_in_nI (n := 1) (by decide) (by decide)) rfl ?_
              rw [show gi (3 + s) (1 : Int32).toNatClampNeg = nI v from hv]
              refine zx_iconst (q := 80) (v := 2) dX4_shown_79 (by decide) rfl ?_
              refine zx_irem (q := 81) dX4_shown_80 (by decide) rfl ?_
              rw [show nI v - nI v / 2 * 2 = nI (v % 2) from by rw [show (2 : Int32) = nI 2 from rfl, z_rem (by omega) (by omega)]]
              refine zx_iadd (q := 82) dX4_shown_81 rfl ?_
              rw [nI_add]
              refine zx_goto (t := 86) dX4_shown_82 (by decide) ?_
              refine zx_iret dX4_shown_86 rfl (Nat.le_refl _) (Nat.le_refl _) ⟨_, rfl, ?_⟩
              refine ⟨?_, rfl⟩
              refine congrArg nI ?_
              unfold z_shw
              unfold z_kof at *
              (repeat' split) <;> omega
          · have a56 : z_kof k 2 := by
              rcases hr with ⟨z1, z2⟩ | ⟨z1, z2⟩
              · exact z2
              · exact absurd z1 c_56
            refine zx_iload_n (q := 60) dX4_shown_59 rfl rfl rfl ?_
            refine zx_iconst (q := 61) (v := 5) dX4_shown_60 (by decide) rfl ?_
            refine zx_icmp_ge (q := 64) (t := 66) dX4_shown_61 (by decide) rfl (fun c_61 => ?_) (fun c_61 => ?_)
            · have a61 : 5 ≤ m := z_ge (x := 5) (n := 5) rfl (by omega) c_61
              refine zx_iload (q := 68) dX4_shown_66 rfl rfl ?_
              refine zx_iconst (q := 69) (v := 1) dX4_shown_68 (by decide) rfl ?_
              refine zx_callSN2i (q := 72) (y' := mX7_isKindOf) dX4_shown_69 (by decide) ok_mX7_isKindOf (Nat.le_of_ble_eq_true rfl) (Nat.le_of_ble_eq_true rfl) (Nat.le_refl _) (Nat.le_refl _) rfl (t_X7_isKindOf _ k 1 (by omega) (by omega)) ?_
              rintro r _ ⟨rfl, hr⟩
              refine zx_if_eq (q := 75) (t := 85) dX4_shown_72 (by decide) rfl (fun c_72 => ?_) (fun c_72 => ?_)
              · have a72 : ¬ z_kof k 1 := by
                  rcases hr with ⟨z1, z2⟩ | ⟨z1, z2⟩
                  · rw [c_72] at z1; exact absurd z1 (by decide)
                  · exact z2
                refine zx_iload_n (q := 86) dX4_shown_85 rfl rfl rfl ?_
                refine zx_iret dX4_shown_86 rfl (Nat.le_refl _) (Nat.le_refl _) ⟨_, rfl, ?_⟩
                refine ⟨?_, rfl⟩
                refine congrArg nI ?_
                unfold z_shw
                unfold z_kof at *
                (repeat' split) <;> omega
              · have a72 : z_kof k 1 := by
                  rcases hr with ⟨z1, z2⟩ | ⟨z1, z2⟩
                  · exact z2
                  · exact absurd z1 c_72
                refine zx_iload_n (q := 76) dX4_shown_75 rfl rfl rfl ?_
                refine zx_aload_n (q := 77) dX4_shown_76 rfl rfl rfl ?_
                refine zx_iconst (q := 78) (v := 1) dX4_shown_77 (by decide) rfl ?_
                refine zy_iald (q := 79) dX4_shown_78 (zr_2 (f := f) hs).2 (vp_in_nI (n := 1) (by decide) (by decide)) rfl ?_
                rw [show gi (3 + s) (1 : Int32).toNatClampNeg = nI v from hv]
                refine zx_iconst (q := 80) (v := 2) dX4_shown_79 (by decide) rfl ?_
                refine zx_irem (q := 81) dX4_shown_80 (by decide) rfl ?_
                rw [show nI v - nI v / 2 * 2 = nI (v % 2) from by rw [show (2 : Int32) = nI 2 from rfl, z_rem (by omega) (by omega)]]
                refine zx_iadd (q := 82) dX4_shown_81 rfl ?_
                rw [nI_add]
                refine zx_goto (t := 86) dX4_shown_82 (by decide) ?_
                refine zx_iret dX4_shown_86 rfl (Nat.le_refl _) (Nat.le_refl _) ⟨_, rfl, ?_⟩
                refine ⟨?_, rfl⟩
                refine congrArg nI ?_
                unfold z_shw
                unfold z_kof at *
                (repeat' split) <;> omega
            · have a61 : m < 5 := z_lt (x := 5) (n := 5) rfl (by omega) c_61
              refine zx_iconst (q := 65) (v := 0) dX4_shown_64 (by decide) rfl ?_
              refine zx_iret dX4_shown_65 rfl (Nat.le_refl _) (Nat.le_refl _) ⟨_, rfl, ?_⟩
              refine ⟨?_, rfl⟩
              rw [show (0 : Int32) = nI 0 from rfl]
              refine congrArg nI ?_
              unfold z_shw
              unfold z_kof at *
              (repeat' split) <;> omega
      · have a21 : h = 0 := (nI_eq (a := h) (b := 0) (by omega) (by omega)).mp c_21
        refine zx_iload (q := 26) dX4_shown_24 rfl rfl ?_
        refine zx_iconst (q := 27) (v := 3) dX4_shown_26 (by decide) rfl ?_
        refine zx_callSN2i (q := 30) (y' := mX7_isKindOf) dX4_shown_27 (by decide) ok_mX7_isKindOf (Nat.le_of_ble_eq_true rfl) (Nat.le_of_ble_eq_true rfl) (Nat.le_refl _) (Nat.le_refl _) rfl (t_X7_isKindOf _ k 3 (by omega) (by omega)) ?_
        rintro r _ ⟨rfl, hr⟩
        refine zx_if_eq (q := 33) (t := 43) dX4_shown_30 (by decide) rfl (fun c_30 => ?_) (fun c_30 => ?_)
        · have a30 : ¬ z_kof k 3 := by
            rcases hr with ⟨z1, z2⟩ | ⟨z1, z2⟩
            · rw [c_30] at z1; exact absurd z1 (by decide)
            · exact z2
          refine zx_iload_n (q := 44) dX4_shown_43 rfl rfl rfl ?_
          refine zx_iret dX4_shown_44 rfl (Nat.le_refl _) (Nat.le_refl _) ⟨_, rfl, ?_⟩
          refine ⟨?_, rfl⟩
          refine congrArg nI ?_
          unfold z_shw
          unfold z_kof at *
          (repeat' split) <;> omega
        · have a30 : z_kof k 3 := by
            rcases hr with ⟨z1, z2⟩ | ⟨z1, z2⟩
            · exact z2
            · exact absurd z1 c_30
          refine zx_iconst (q := 34) (v := 0) dX4_shown_33 (by decide) rfl ?_
          refine zx_iload_n (q := 35) dX4_shown_34 rfl rfl rfl ?_
          refine zx_iconst (q := 36) (v := 1) dX4_shown_35 (by decide) rfl ?_
          refine zx_isub (q := 37) dX4_shown_36 rfl ?_
          refine zx_mmax (q := 40) dX4_shown_37 ml_RX4_57 (Nat.le_of_ble_eq_true rfl) (Nat.le_refl _) (Nat.le_refl _) rfl ?_
          first
            | rw [z_max0 (by omega)]
            | rw [z_max0' (by omega)]
          refine zx_goto (t := 44) dX4_shown_40 (by decide) ?_
          refine zx_iret dX4_shown_44 rfl (Nat.le_refl _) (Nat.le_refl _) ⟨_, rfl, ?_⟩
          refine ⟨?_, rfl⟩
          refine congrArg nI ?_
          unfold z_shw
          unfold z_kof at *
          (repeat' split) <;> omega
    · have a15 : m = v := (nI_eq (a := m) (b := v) (by omega) (by omega)).mp c_15
      refine zx_iconst (q := 19) (v := 0) dX4_shown_18 (by decide) rfl ?_
      refine zx_iret dX4_shown_19 rfl (Nat.le_refl _) (Nat.le_refl _) ⟨_, rfl, ?_⟩
      refine ⟨?_, rfl⟩
      rw [show (0 : Int32) = nI 0 from rfl]
      refine congrArg nI ?_
      unfold z_shw
      unfold z_kof at *
      (repeat' split) <;> omega
set_option maxHeartbeats 4000000 in
theorem t_X8_showsOf (d s k v b h m T : Nat) (hM : zIsM gi) (hs : s < 5) (hk : gi 109 s = nI k) (hv : gi 110 s = nI v) (hb : gi 111 (3 * s + h) = nI b) (hT : gi 115 (3 * s + m % 3) = nI T) (hm : gi 108 1 = nI m) (hk6 : k ≤ 6) (hv9 : v ≤ 9) (hb9 : b ≤ 9) (hh : h < 3) (hm12 : m < 12) : zCall l D tc A mX8_showsOf (d + 3) 0 0 [.ref 108, .int (nI s), .int (nI h)] (zs gi gl f) (zQi fun r S' => r = nI (z_shw k v (b + z_soN gi 1 (z_lm gi s (nI h)) (z_nc gi)) h m T) ∧ ∃ g', S' = zs g' gl f ∧ ∀ k j, ¬ k = 126 → g' k j = gi k j) := by
  show zW l D tc A mX8_showsOf (d + 3) 0 0 0 0 0 [some (.ref 108), some (.int (nI s)), some (.int (nI h)), none] [] (zs gi gl f) _
  refine zx_aload_n (q := 1) dX8_showsOf_0 rfl rfl rfl ?_
  refine zy_getR (q := 4) dX8_showsOf_1 fl_RX8_23 rfl rfl rfl rfl ?_
  refine zx_iconst (q := 5) (v := 3) dX8_showsOf_4 (by decide) rfl ?_
  refine zx_iload_n (q := 6) dX8_showsOf_5 rfl rfl rfl ?_
  refine zx_imul (q := 7) dX8_showsOf_6 rfl ?_
  refine zx_iload_n (q := 8) dX8_showsOf_7 rfl rfl rfl ?_
  refine zx_iadd (q := 9) dX8_showsOf_8 rfl ?_
  rw [z_3]
  refine zy_ialdN (q := 10) dX8_showsOf_9 rfl (by omega) (by first | decide | omega) rfl ?_
  rw [hb]
  refine zx_aload_n (q := 11) dX8_showsOf_10 rfl rfl rfl ?_
  refine zx_iconst (q := 12) (v := 1) dX8_showsOf_11 (by decide) rfl ?_
  refine zx_iload_n (q := 13) dX8_showsOf_12 rfl rfl rfl ?_
  refine zx_iload_n (q := 14) dX8_showsOf_13 rfl rfl rfl ?_
  refine zx_callV3i (q := 17) (y' := mX8_sumOf) dX8_showsOf_14 ml_RX8_271 ok_mX8_sumOf rfl (by decide) rfl (Nat.le_of_ble_eq_true rfl) (Nat.le_of_ble_eq_true rfl) (Nat.le_refl _) (Nat.le_refl _) rfl (t_X8_sumOf _ s 1 (nI h) hM (Or.inr rfl) hs) ?_
  rintro _ _ ⟨rfl, g2, rfl, g3⟩
  refine zx_iadd (q := 18) dX8_showsOf_17 rfl ?_
  rw [nI_add]
  refine zx_istore3 (q := 19) dX8_showsOf_18 rfl rfl ?_
  refine zx_aload_n (q := 20) dX8_showsOf_19 rfl rfl rfl ?_
  refine zy_getR (q := 23) dX8_showsOf_20 fl_RX8_16 rfl rfl rfl rfl ?_
  refine zx_iload_n (q := 24) dX8_showsOf_23 rfl rfl rfl ?_
  refine zy_ialdN (q := 25) dX8_showsOf_24 rfl (by omega) (by first | decide | omega) rfl ?_
  rw [g3 _ _ (by decide), hk]
  have hso := z_soN_le hM 1 (z_lm gi s (nI h)) (z_nc gi) (Nat.le_refl _)
  have hnc := z_nc_le hM
  obtain ⟨pl, hpl⟩ : ∃ pl, pl = b + z_soN gi 1 (z_lm gi s (nI h)) (z_nc gi) := ⟨_, rfl⟩
  rw [← hpl]
  have hp2 : pl ≤ 1000 := by omega
  rcases (by omega : k = 0 ∨ k = 1 ∨ k = 2 ∨ k = 3 ∨ k = 4 ∨ k = 5 ∨ k = 6) with h7 | h7 | h7 | h7 | h7 | h7 | h7 <;> subst h7
  · refine zx_tblOut (t := 221) dX8_showsOf_25 (by have z0 := lv_neT (a := 1) (show ¬ nI 0 = 1 by decide) (by decide); have z1 := lv_neT (a := 2) (show ¬ nI 0 = 2 by decide) (by decide); have z2 := lv_neT (a := 3) (show ¬ nI 0 = 3 by decide) (by decide); have z3 := lv_neT (a := 4) (show ¬ nI 0 = 4 by decide) (by decide); have z4 := lv_neT (a := 5) (show ¬ nI 0 = 5 by decide) (by decide); have z5 := lv_neT (a := 6) (show ¬ nI 0 = 6 by decide) (by decide); omega) (by decide) ?_
    refine zx_iload_n (q := 222) dX8_showsOf_221 rfl rfl rfl ?_
    refine zx_iret dX8_showsOf_222 rfl (Nat.le_refl _) (Nat.le_refl _) ⟨_, rfl, ?_⟩
    refine ⟨?_, g2, rfl, g3⟩
    (try rw [show (0 : Int32) = nI 0 from rfl])
    refine congrArg nI ?_
    unfold z_shw
    (repeat' split) <;> omega
  · refine zx_tblIn (t := 64) (off := 39) dX8_showsOf_25 (by decide) (by decide) (by rfl) (by decide) ?_
    refine zx_iload_n (q := 65) dX8_showsOf_64 rfl rfl rfl ?_
    refine zx_iconst (q := 66) (v := 1) dX8_showsOf_65 (by decide) rfl ?_
    refine zx_icmp_ne (q := 69) (t := 82) dX8_showsOf_66 (by decide) rfl (fun c_66 => ?_) (fun c_66 => ?_)
    · have a66 : ¬ h = 1 := fun z => c_66 (by subst z; rfl)
      refine zx_iload_n (q := 83) dX8_showsOf_82 rfl rfl rfl ?_
      refine zx_iret dX8_showsOf_83 rfl (Nat.le_refl _) (Nat.le_refl _) ⟨_, rfl, ?_⟩
      refine ⟨?_, g2, rfl, g3⟩
      (try rw [show (0 : Int32) = nI 0 from rfl])
      refine congrArg nI ?_
      unfold z_shw
      (repeat' split) <;> omega
    · have a66 : h = 1 := (nI_eq (a := h) (b := 1) (by omega) (by omega)).mp c_66
      refine zx_iload_n (q := 70) dX8_showsOf_69 rfl rfl rfl ?_
      refine zx_aload_n (q := 71) dX8_showsOf_70 rfl rfl rfl ?_
      refine zy_getR (q := 74) dX8_showsOf_71 fl_RX8_20 rfl rfl rfl rfl ?_
      refine zx_iload_n (q := 75) dX8_showsOf_74 rfl rfl rfl ?_
      refine zy_ialdN (q := 76) dX8_showsOf_75 rfl (by omega) (by first | decide | omega) rfl ?_
      rw [g3 _ _ (by decide), hv]
      refine zx_iconst (q := 77) (v := 2) dX8_showsOf_76 (by decide) rfl ?_
      refine zx_irem (q := 78) dX8_showsOf_77 (by decide) rfl ?_
      rw [show nI v - nI v / 2 * 2 = nI (v % 2) from by rw [show (2 : Int32) = nI 2 from rfl, z_rem (by omega) (by omega)]]
      refine zx_iadd (q := 79) dX8_showsOf_78 rfl ?_
      rw [nI_add]
      refine zx_goto (t := 83) dX8_showsOf_79 (by decide) ?_
      refine zx_iret dX8_showsOf_83 rfl (Nat.le_refl _) (Nat.le_refl _) ⟨_, rfl, ?_⟩
      refine ⟨?_, g2, rfl, g3⟩
      (try rw [show (0 : Int32) = nI 0 from rfl])
      refine congrArg nI ?_
      unfold z_shw
      (repeat' split) <;> omega
  · refine zx_tblIn (t := 84) (off := 59) dX8_showsOf_25 (by decide) (by decide) (by rfl) (by decide) ?_
    refine zx_iload_n (q := 85) dX8_showsOf_84 rfl rfl rfl ?_
    refine zx_iconst (q := 86) (v := 1) dX8_showsOf_85 (by decide) rfl ?_
    refine zx_icmp_ne (q := 89) (t := 101) dX8_showsOf_86 (by decide) rfl (fun c_86 => ?_) (fun c_86 => ?_)
    · have a86 : ¬ h = 1 := fun z => c_86 (by subst z; rfl)
      refine zx_iload_n (q := 102) dX8_showsOf_101 rfl rfl rfl ?_
      refine zx_iret dX8_showsOf_102 rfl (Nat.le_refl _) (Nat.le_refl _) ⟨_, rfl, ?_⟩
      refine ⟨?_, g2, rfl, g3⟩
      (try rw [show (0 : Int32) = nI 0 from rfl])
      refine congrArg nI ?_
      unfold z_shw
      (repeat' split) <;> omega
    · have a86 : h = 1 := (nI_eq (a := h) (b := 1) (by omega) (by omega)).mp c_86
      refine zx_aload_n (q := 90) dX8_showsOf_89 rfl rfl rfl ?_
      refine zy_getIe (q := 93) (v := nI m) dX8_showsOf_90 fl_RX8_13 rfl rfl (by rw [g3 _ _ (by decide), hm]) rfl ?_
      refine zx_iconst (q := 94) (v := 5) dX8_showsOf_93 (by decide) rfl ?_
      refine zx_icmp_ge (q := 97) (t := 101) dX8_showsOf_94 (by decide) rfl (fun c_94 => ?_) (fun c_94 => ?_)
      · have a94 : 5 ≤ m := z_ge (x := 5) (n := 5) rfl (by omega) c_94
        refine zx_iload_n (q := 102) dX8_showsOf_101 rfl rfl rfl ?_
        refine zx_iret dX8_showsOf_102 rfl (Nat.le_refl _) (Nat.le_refl _) ⟨_, rfl, ?_⟩
        refine ⟨?_, g2, rfl, g3⟩
        (try rw [show (0 : Int32) = nI 0 from rfl])
        refine congrArg nI ?_
        unfold z_shw
        (repeat' split) <;> omega
      · have a94 : m < 5 := z_lt (x := 5) (n := 5) rfl (by omega) c_94
        refine zx_iconst (q := 98) (v := 0) dX8_showsOf_97 (by decide) rfl ?_
        refine zx_goto (t := 102) dX8_showsOf_98 (by decide) ?_
        refine zx_iret dX8_showsOf_102 rfl (Nat.le_refl _) (Nat.le_refl _) ⟨_, rfl, ?_⟩
        refine ⟨?_, g2, rfl, g3⟩
        (try rw [show (0 : Int32) = nI 0 from rfl])
        refine congrArg nI ?_
        unfold z_shw
        (repeat' split) <;> omega
  · refine zx_tblIn (t := 103) (off := 78) dX8_showsOf_25 (by decide) (by decide) (by rfl) (by decide) ?_
    refine zx_iload_n (q := 104) dX8_showsOf_103 rfl rfl rfl ?_
    refine zx_if_ne (q := 107) (t := 117) dX8_showsOf_104 (by decide) rfl (fun c_104 => ?_) (fun c_104 => ?_)
    · have a104 : ¬ h = 0 := fun z => c_104 (by subst z; rfl)
      refine zx_iload_n (q := 118) dX8_showsOf_117 rfl rfl rfl ?_
      refine zx_iret dX8_showsOf_118 rfl (Nat.le_refl _) (Nat.le_refl _) ⟨_, rfl, ?_⟩
      refine ⟨?_, g2, rfl, g3⟩
      (try rw [show (0 : Int32) = nI 0 from rfl])
      refine congrArg nI ?_
      unfold z_shw
      (repeat' split) <;> omega
    · have a104 : h = 0 := (nI_eq (a := h) (b := 0) (by omega) (by omega)).mp c_104
      refine zx_iload_n (q := 108) dX8_showsOf_107 rfl rfl rfl ?_
      refine zx_if_le (q := 111) (t := 117) dX8_showsOf_108 (by decide) rfl (fun c_108 => ?_) (fun c_108 => ?_)
      · have a108 : pl = 0 := Nat.eq_zero_of_le_zero (z_ge (x := nI pl) (n := pl) (i := 0) rfl (by omega) c_108)
        refine zx_iload_n (q := 118) dX8_showsOf_117 rfl rfl rfl ?_
        refine zx_iret dX8_showsOf_118 rfl (Nat.le_refl _) (Nat.le_refl _) ⟨_, rfl, ?_⟩
        refine ⟨?_, g2, rfl, g3⟩
        (try rw [show (0 : Int32) = nI 0 from rfl])
        refine congrArg nI ?_
        unfold z_shw
        (repeat' split) <;> omega
      · have a108 : 0 < pl := z_lt (x := nI pl) (n := pl) (i := 0) rfl (by omega) c_108
        refine zx_iload_n (q := 112) dX8_showsOf_111 rfl rfl rfl ?_
        refine zx_iconst (q := 113) (v := 1) dX8_showsOf_112 (by decide) rfl ?_
        refine zx_isub (q := 114) dX8_showsOf_113 rfl ?_
        rw [show (1 : Int32) = nI 1 from rfl, z_subN (by omega)]
        refine zx_goto (t := 118) dX8_showsOf_114 (by decide) ?_
        refine zx_iret dX8_showsOf_118 rfl (Nat.le_refl _) (Nat.le_refl _) ⟨_, rfl, ?_⟩
        refine ⟨?_, g2, rfl, g3⟩
        (try rw [show (0 : Int32) = nI 0 from rfl])
        refine congrArg nI ?_
        unfold z_shw
        (repeat' split) <;> omega
  · refine zx_tblIn (t := 119) (off := 94) dX8_showsOf_25 (by decide) (by decide) (by rfl) (by decide) ?_
    refine zx_iload_n (q := 120) dX8_showsOf_119 rfl rfl rfl ?_
    refine zx_iconst (q := 121) (v := 1) dX8_showsOf_120 (by decide) rfl ?_
    refine zx_icmp_ne (q := 124) (t := 137) dX8_showsOf_121 (by decide) rfl (fun c_121 => ?_) (fun c_121 => ?_)
    · have a121 : ¬ h = 1 := fun z => c_121 (by subst z; rfl)
      refine zx_iload_n (q := 138) dX8_showsOf_137 rfl rfl rfl ?_
      refine zx_iconst (q := 139) (v := 2) dX8_showsOf_138 (by decide) rfl ?_
      refine zx_icmp_ne (q := 142) (t := 148) dX8_showsOf_139 (by decide) rfl (fun c_139 => ?_) (fun c_139 => ?_)
      · have a139 : ¬ h = 2 := fun z => c_139 (by subst z; rfl)
        refine zx_iload_n (q := 149) dX8_showsOf_148 rfl rfl rfl ?_
        refine zx_iret dX8_showsOf_149 rfl (Nat.le_refl _) (Nat.le_refl _) ⟨_, rfl, ?_⟩
        refine ⟨?_, g2, rfl, g3⟩
        (try rw [show (0 : Int32) = nI 0 from rfl])
        refine congrArg nI ?_
        unfold z_shw
        (repeat' split) <;> omega
      · have a139 : h = 2 := (nI_eq (a := h) (b := 2) (by omega) (by omega)).mp c_139
        refine zx_iconst (q := 143) (v := 2) dX8_showsOf_142 (by decide) rfl ?_
        refine zx_iload_n (q := 144) dX8_showsOf_143 rfl rfl rfl ?_
        refine zx_imul (q := 145) dX8_showsOf_144 rfl ?_
        rw [show (2 : Int32) * nI pl = nI (2 * pl) from by rw [show (2 : Int32) = nI 2 from rfl, z_mul]]
        refine zx_goto (t := 149) dX8_showsOf_145 (by decide) ?_
        refine zx_iret dX8_showsOf_149 rfl (Nat.le_refl _) (Nat.le_refl _) ⟨_, rfl, ?_⟩
        refine ⟨?_, g2, rfl, g3⟩
        (try rw [show (0 : Int32) = nI 0 from rfl])
        refine congrArg nI ?_
        unfold z_shw
        (repeat' split) <;> omega
    · have a121 : h = 1 := (nI_eq (a := h) (b := 1) (by omega) (by omega)).mp c_121
      refine zx_iload_n (q := 125) dX8_showsOf_124 rfl rfl rfl ?_
      refine zx_aload_n (q := 126) dX8_showsOf_125 rfl rfl rfl ?_
      refine zy_getR (q := 129) dX8_showsOf_126 fl_RX8_20 rfl rfl rfl rfl ?_
      refine zx_iload_n (q := 130) dX8_showsOf_129 rfl rfl rfl ?_
      refine zy_ialdN (q := 131) dX8_showsOf_130 rfl (by omega) (by first | decide | omega) rfl ?_
      rw [g3 _ _ (by decide), hv]
      refine zx_iconst (q := 132) (v := 2) dX8_showsOf_131 (by decide) rfl ?_
      refine zx_irem (q := 133) dX8_showsOf_132 (by decide) rfl ?_
      rw [show nI v - nI v / 2 * 2 = nI (v % 2) from by rw [show (2 : Int32) = nI 2 from rfl, z_rem (by omega) (by omega)]]
      refine zx_iadd (q := 134) dX8_showsOf_133 rfl ?_
      rw [nI_add]
      refine zx_goto (t := 149) dX8_showsOf_134 (by decide) ?_
      refine zx_iret dX8_showsOf_149 rfl (Nat.le_refl _) (Nat.le_refl _) ⟨_, rfl, ?_⟩
      refine ⟨?_, g2, rfl, g3⟩
      (try rw [show (0 : Int32) = nI 0 from rfl])
      refine congrArg nI ?_
      unfold z_shw
      (repeat' split) <;> omega
  · refine zx_tblIn (t := 150) (off := 125) dX8_showsOf_25 (by decide) (by decide) (by rfl) (by decide) ?_
    refine zx_aload_n (q := 151) dX8_showsOf_150 rfl rfl rfl ?_
    refine zy_getIe (q := 154) (v := nI m) dX8_showsOf_151 fl_RX8_13 rfl rfl (by rw [g3 _ _ (by decide), hm]) rfl ?_
    refine zx_aload_n (q := 155) dX8_showsOf_154 rfl rfl rfl ?_
    refine zy_getR (q := 158) dX8_showsOf_155 fl_RX8_20 rfl rfl rfl rfl ?_
    refine zx_iload_n (q := 159) dX8_showsOf_158 rfl rfl rfl ?_
    refine zy_ialdN (q := 160) dX8_showsOf_159 rfl (by omega) (by first | decide | omega) rfl ?_
    rw [g3 _ _ (by decide), hv]
    refine zx_icmp_eq (q := 163) (t := 176) dX8_showsOf_160 (by decide) rfl (fun c_160 => ?_) (fun c_160 => ?_)
    · have a160 : m = v := (nI_eq (a := m) (b := v) (by omega) (by omega)).mp c_160
      refine zx_iconst (q := 177) (v := 0) dX8_showsOf_176 (by decide) rfl ?_
      refine zx_goto (t := 181) dX8_showsOf_177 (by decide) ?_
      refine zx_iret dX8_showsOf_181 rfl (Nat.le_refl _) (Nat.le_refl _) ⟨_, rfl, ?_⟩
      refine ⟨?_, g2, rfl, g3⟩
      (try rw [show (0 : Int32) = nI 0 from rfl])
      refine congrArg nI ?_
      unfold z_shw
      (repeat' split) <;> omega
    · have a160 : ¬ m = v := fun z => c_160 (by subst z; rfl)
      refine zx_iload_n (q := 164) dX8_showsOf_163 rfl rfl rfl ?_
      refine zx_iconst (q := 165) (v := 1) dX8_showsOf_164 (by decide) rfl ?_
      refine zx_icmp_ne (q := 168) (t := 180) dX8_showsOf_165 (by decide) rfl (fun c_165 => ?_) (fun c_165 => ?_)
      · have a165 : ¬ h = 1 := fun z => c_165 (by subst z; rfl)
        refine zx_iload_n (q := 181) dX8_showsOf_180 rfl rfl rfl ?_
        refine zx_iret dX8_showsOf_181 rfl (Nat.le_refl _) (Nat.le_refl _) ⟨_, rfl, ?_⟩
        refine ⟨?_, g2, rfl, g3⟩
        (try rw [show (0 : Int32) = nI 0 from rfl])
        refine congrArg nI ?_
        unfold z_shw
        (repeat' split) <;> omega
      · have a165 : h = 1 := (nI_eq (a := h) (b := 1) (by omega) (by omega)).mp c_165
        refine zx_aload_n (q := 169) dX8_showsOf_168 rfl rfl rfl ?_
        refine zy_getIe (q := 172) (v := nI m) dX8_showsOf_169 fl_RX8_13 rfl rfl (by rw [g3 _ _ (by decide), hm]) rfl ?_
        refine zx_iconst (q := 173) (v := 5) dX8_showsOf_172 (by decide) rfl ?_
        refine zx_icmp_ge (q := 176) (t := 180) dX8_showsOf_173 (by decide) rfl (fun c_173 => ?_) (fun c_173 => ?_)
        · have a173 : 5 ≤ m := z_ge (x := 5) (n := 5) rfl (by omega) c_173
          refine zx_iload_n (q := 181) dX8_showsOf_180 rfl rfl rfl ?_
          refine zx_iret dX8_showsOf_181 rfl (Nat.le_refl _) (Nat.le_refl _) ⟨_, rfl, ?_⟩
          refine ⟨?_, g2, rfl, g3⟩
          (try rw [show (0 : Int32) = nI 0 from rfl])
          refine congrArg nI ?_
          unfold z_shw
          (repeat' split) <;> omega
        · have a173 : m < 5 := z_lt (x := 5) (n := 5) rfl (by omega) c_173
          refine zx_iconst (q := 177) (v := 0) dX8_showsOf_176 (by decide) rfl ?_
          refine zx_goto (t := 181) dX8_showsOf_177 (by decide) ?_
          refine zx_iret dX8_showsOf_181 rfl (Nat.le_refl _) (Nat.le_refl _) ⟨_, rfl, ?_⟩
          refine ⟨?_, g2, rfl, g3⟩
          (try rw [show (0 : Int32) = nI 0 from rfl])
          refine congrArg nI ?_
          unfold z_shw
          (repeat' split) <;> omega
  · refine zx_tblIn (t := 182) (off := 157) dX8_showsOf_25 (by decide) (by decide) (by rfl) (by decide) ?_
    refine zx_iload_n (q := 183) dX8_showsOf_182 rfl rfl rfl ?_
    refine zx_iconst (q := 184) (v := 2) dX8_showsOf_183 (by decide) rfl ?_
    refine zx_icmp_ne (q := 187) (t := 205) dX8_showsOf_184 (by decide) rfl (fun c_184 => ?_) (fun c_184 => ?_)
    · have a184 : ¬ h = 2 := fun z => c_184 (by subst z; rfl)
      refine zx_iload_n (q := 206) dX8_showsOf_205 rfl rfl rfl ?_
      refine zx_if_ne (q := 209) (t := 219) dX8_showsOf_206 (by decide) rfl (fun c_206 => ?_) (fun c_206 => ?_)
      · have a206 : ¬ h = 0 := fun z => c_206 (by subst z; rfl)
        refine zx_iload_n (q := 220) dX8_showsOf_219 rfl rfl rfl ?_
        refine zx_iret dX8_showsOf_220 rfl (Nat.le_refl _) (Nat.le_refl _) ⟨_, rfl, ?_⟩
        refine ⟨?_, g2, rfl, g3⟩
        (try rw [show (0 : Int32) = nI 0 from rfl])
        refine congrArg nI ?_
        unfold z_shw
        (repeat' split) <;> omega
      · have a206 : h = 0 := (nI_eq (a := h) (b := 0) (by omega) (by omega)).mp c_206
        refine zx_iload_n (q := 210) dX8_showsOf_209 rfl rfl rfl ?_
        refine zx_if_le (q := 213) (t := 219) dX8_showsOf_210 (by decide) rfl (fun c_210 => ?_) (fun c_210 => ?_)
        · have a210 : pl = 0 := Nat.eq_zero_of_le_zero (z_ge (x := nI pl) (n := pl) (i := 0) rfl (by omega) c_210)
          refine zx_iload_n (q := 220) dX8_showsOf_219 rfl rfl rfl ?_
          refine zx_iret dX8_showsOf_220 rfl (Nat.le_refl _) (Nat.le_refl _) ⟨_, rfl, ?_⟩
          refine ⟨?_, g2, rfl, g3⟩
          (try rw [show (0 : Int32) = nI 0 from rfl])
          refine congrArg nI ?_
          unfold z_shw
          (repeat' split) <;> omega
        · have a210 : 0 < pl := z_lt (x := nI pl) (n := pl) (i := 0) rfl (by omega) c_210
          refine zx_iload_n (q := 214) dX8_showsOf_213 rfl rfl rfl ?_
          refine zx_iconst (q := 215) (v := 1) dX8_showsOf_214 (by decide) rfl ?_
          refine zx_isub (q := 216) dX8_showsOf_215 rfl ?_
          rw [show (1 : Int32) = nI 1 from rfl, z_subN (by omega)]
          refine zx_goto (t := 220) dX8_showsOf_216 (by decide) ?_
          refine zx_iret dX8_showsOf_220 rfl (Nat.le_refl _) (Nat.le_refl _) ⟨_, rfl, ?_⟩
          refine ⟨?_, g2, rfl, g3⟩
          (try rw [show (0 : Int32) = nI 0 from rfl])
          refine congrArg nI ?_
          unfold z_shw
          (repeat' split) <;> omega
    · have a184 : h = 2 := (nI_eq (a := h) (b := 2) (by omega) (by omega)).mp c_184
      refine zx_aload_n (q := 188) dX8_showsOf_187 rfl rfl rfl ?_
      refine zy_getR (q := 191) dX8_showsOf_188 fl_RX8_35 rfl rfl rfl rfl ?_
      refine zx_iconst (q := 192) (v := 3) dX8_showsOf_191 (by decide) rfl ?_
      refine zx_iload_n (q := 193) dX8_showsOf_192 rfl rfl rfl ?_
      refine zx_imul (q := 194) dX8_showsOf_193 rfl ?_
      refine zx_aload_n (q := 195) dX8_showsOf_194 rfl rfl rfl ?_
      refine zy_getIe (q := 198) (v := nI m) dX8_showsOf_195 fl_RX8_13 rfl rfl (by rw [g3 _ _ (by decide), hm]) rfl ?_
      refine zx_iconst (q := 199) (v := 3) dX8_showsOf_198 (by decide) rfl ?_
      refine zx_irem (q := 200) dX8_showsOf_199 (by decide) rfl ?_
      rw [show nI m - nI m / 3 * 3 = nI (m % 3) from by rw [show (3 : Int32) = nI 3 from rfl, z_rem (by omega) (by omega)]]
      refine zx_iadd (q := 201) dX8_showsOf_200 rfl ?_
      rw [z_3]
      refine zy_ialdN (q := 202) dX8_showsOf_201 rfl (by omega) (by first | decide | omega) rfl ?_
      rw [g3 _ _ (by decide), hT]
      refine zx_goto (t := 220) dX8_showsOf_202 (by decide) ?_
      refine zx_iret dX8_showsOf_220 rfl (Nat.le_refl _) (Nat.le_refl _) ⟨_, rfl, ?_⟩
      refine ⟨?_, g2, rfl, g3⟩
      (try rw [show (0 : Int32) = nI 0 from rfl])
      refine congrArg nI ?_
      unfold z_shw
      (repeat' split) <;> omega
end P32
