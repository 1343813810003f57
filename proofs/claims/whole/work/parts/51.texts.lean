/-! texts, and the class's smallest readers -/
def z_ix (i : Nat) (c : Int32) : Nat → Nat → Int32
  | 0, _ => -1
  | n + 1, k => if (zw_tb.getD i []).getD k 0 = c then nI k else z_ix i c n (k + 1)
def z_ck (i : Nat) (c : Int32) : Int32 := z_ix i c (zw_tl.getD i 0) 0
def z_ch (i k : Nat) : Int32 := (zw_tb.getD i []).getD k 0
theorem z_chr : ∀ i, i < 8 → ∀ k, k < zw_tl.getD i 0 → (((z_ch i k &&& 255).toUInt32 % 65536).toInt32 = z_ch i k ∧ narrow .char (.int (z_ch i k)) = .int (z_ch i k)) ∧ ((z_ch i k).toUInt32 % 65536).toInt32 = z_ch i k := by
  have key : ∀ i, i < 8 → ∀ k, k < zw_tl.getD i 0 → (((z_ch i k &&& 255).toUInt32 % 65536).toInt32 = z_ch i k) ∧ ((z_ch i k).toUInt32 % 65536).toInt32 = z_ch i k := by decide +kernel
  intro i hi k hk
  refine ⟨⟨(key i hi k hk).1, ?_⟩, (key i hi k hk).2⟩
  show Value.int (((z_ch i k).toUInt32 % 65536).toInt32) = _
  rw [(key i hi k hk).2]
theorem z_len8 : ∀ i, i < 8 → zw_tl.getD i 0 ≤ 10 ∧ 0 < zw_tl.getD i 0 := by decide
theorem z_sh0 : ∀ i, i < 8 → (Int32.ofNat (zw_tl.getD i 0) >>> ((0 : Int32) &&& 31)) = nI (zw_tl.getD i 0) := by decide +kernel
theorem z_byt : ∀ b, b < 128 → ((nI b).toInt8.toInt32 = nI b ∧ ((nI b).toUInt32 % 65536).toInt32 = nI b) := by decide +kernel
section P51
variable {l : Launch} {D : va_G} {tc : Nat → ClassId} {A : Nat → Prop} {S : zw_S} {gi : Nat → Nat → Int32} {gl : Nat → Nat → Int64} {f : Option Nat}
theorem t_coder (d i : Nat) (hi : i < 8) : zCall l D tc A mJ0_coder_7d493 d 0 0 [.ref (100000 + i)] S (zQi fun r S' => r = 0 ∧ S' = S) := by
  show zW l D tc A mJ0_coder_7d493 d 0 0 0 0 0 [some (.ref (100000 + i))] [] S _
  refine zx_gsCS (q := 3) dJ0_coder_7d493_0 sf_RJ0_38 rfl ?_
  refine zx_if_eq_f (t := 13) (q := 6) dJ0_coder_7d493_3 (by decide) rfl (by decide) ?_
  refine zx_aload_n (q := 7) dJ0_coder_7d493_6 rfl rfl rfl ?_
  refine zx_txCod (q := 10) dJ0_coder_7d493_7 hi sf_RJ0_15 rfl ?_
  refine zx_goto (t := 14) dJ0_coder_7d493_10 (by decide) ?_
  refine zx_zret dJ0_coder_7d493_14 rfl rfl (Nat.le_refl _) (Nat.le_refl _) ⟨_, rfl, ?_⟩
  exact ⟨rfl, rfl⟩
theorem t_isLatin1 (d i : Nat) (hi : i < 8) : zCall l D tc A mJ0_isLatin1_aae02 d 0 0 [.ref (100000 + i)] S (zQi fun r S' => r = 1 ∧ S' = S) := by
  show zW l D tc A mJ0_isLatin1_aae02 d 0 0 0 0 0 [some (.ref (100000 + i))] [] S _
  refine zx_gsCS (q := 3) dJ0_isLatin1_aae02_0 sf_RJ0_38 rfl ?_
  refine zx_if_eq_f (t := 17) (q := 6) dJ0_isLatin1_aae02_3 (by decide) rfl (by decide) ?_
  refine zx_aload_n (q := 7) dJ0_isLatin1_aae02_6 rfl rfl rfl ?_
  refine zx_txCod (q := 10) dJ0_isLatin1_aae02_7 hi sf_RJ0_15 rfl ?_
  refine zx_if_ne_f (t := 17) (q := 13) dJ0_isLatin1_aae02_10 (by decide) rfl (rfl) ?_
  refine zx_iconst (q := 14) (v := 1) dJ0_isLatin1_aae02_13 (by decide) rfl ?_
  refine zx_goto (t := 18) dJ0_isLatin1_aae02_14 (by decide) ?_
  refine zx_zret dJ0_isLatin1_aae02_18 rfl rfl (Nat.le_refl _) (Nat.le_refl _) ⟨_, rfl, ?_⟩
  exact ⟨rfl, rfl⟩
theorem t_tlen (d i : Nat) (hi : i < 8) : zCall l D tc A mJ0_length_8abf5 (d + 1) 0 0 [.ref (100000 + i)] S (zQi fun r S' => r = nI (zw_tl.getD i 0) ∧ S' = S) := by
  show zW l D tc A mJ0_length_8abf5 (d + 1) 0 0 0 0 0 [some (.ref (100000 + i))] [] S _
  refine zx_aload_n (q := 1) dJ0_length_8abf5_0 rfl rfl rfl ?_
  refine zx_txVal (q := 4) dJ0_length_8abf5_1 hi sf_RJ0_9 rfl ?_
  refine zx_txLen (q := 5) dJ0_length_8abf5_4 hi rfl ?_
  refine zx_aload_n (q := 6) dJ0_length_8abf5_5 rfl rfl rfl ?_
  refine zx_callT0i (q := 9) (y' := mJ0_coder_7d493) dJ0_length_8abf5_6 ml_RJ0_335 ok_mJ0_coder_7d493 hi rfl (Nat.le_of_ble_eq_true rfl) (Nat.le_of_ble_eq_true rfl) (Nat.le_refl _) (Nat.le_refl _) rfl (t_coder _ i hi) ?_
  rintro _ _ ⟨rfl, rfl⟩
  refine zx_ishr (q := 10) dJ0_length_8abf5_9 rfl ?_
  refine zx_iret dJ0_length_8abf5_10 rfl (Nat.le_refl _) (Nat.le_refl _) ⟨_, rfl, ?_⟩
  exact ⟨z_sh0 i hi, rfl⟩
theorem t_ckIN (d a b : Nat) (h : a < b) (hb : b < 1000) : zCall l D tc A mJ3_checkIndex_8e157 d 0 0 [.int (nI a), .int (nI b), .null] S (zQi fun r S' => r = nI a ∧ S' = S) := by
  show zW l D tc A mJ3_checkIndex_8e157 d 0 0 0 0 0 [some (.int (nI a)), some (.int (nI b)), some (.null)] [] S _
  refine zx_iload_n (q := 1) dJ3_checkIndex_8e157_0 rfl rfl rfl ?_
  refine zx_if_lt_f (t := 9) (q := 4) dJ3_checkIndex_8e157_1 (by decide) rfl (nI_pos (by omega)) ?_
  refine zx_iload_n (q := 5) dJ3_checkIndex_8e157_4 rfl rfl rfl ?_
  refine zx_iload_n (q := 6) dJ3_checkIndex_8e157_5 rfl rfl rfl ?_
  refine zx_icmp_lt_t (t := 16) (q := 9) dJ3_checkIndex_8e157_6 (by decide) rfl (nI_lt h (by omega)) ?_
  refine zx_iload_n (q := 17) dJ3_checkIndex_8e157_16 rfl rfl rfl ?_
  refine zx_iret dJ3_checkIndex_8e157_17 rfl (Nat.le_refl _) (Nat.le_refl _) ⟨_, rfl, ?_⟩
  exact ⟨rfl, rfl⟩
theorem t_ckIR (d a b : Nat) (h : a < b) (hb : b < 1000) : zCall l D tc A mJ3_checkIndex_8e157 d 0 0 [.int (nI a), .int (nI b), .ref 400000] S (zQi fun r S' => r = nI a ∧ S' = S) := by
  show zW l D tc A mJ3_checkIndex_8e157 d 0 0 0 0 0 [some (.int (nI a)), some (.int (nI b)), some (.ref 400000)] [] S _
  refine zx_iload_n (q := 1) dJ3_checkIndex_8e157_0 rfl rfl rfl ?_
  refine zx_if_lt_f (t := 9) (q := 4) dJ3_checkIndex_8e157_1 (by decide) rfl (nI_pos (by omega)) ?_
  refine zx_iload_n (q := 5) dJ3_checkIndex_8e157_4 rfl rfl rfl ?_
  refine zx_iload_n (q := 6) dJ3_checkIndex_8e157_5 rfl rfl rfl ?_
  refine zx_icmp_lt_t (t := 16) (q := 9) dJ3_checkIndex_8e157_6 (by decide) rfl (nI_lt h (by omega)) ?_
  refine zx_iload_n (q := 17) dJ3_checkIndex_8e157_16 rfl rfl rfl ?_
  refine zx_iret dJ3_checkIndex_8e157_17 rfl (Nat.le_refl _) (Nat.le_refl _) ⟨_, rfl, ?_⟩
  exact ⟨rfl, rfl⟩
theorem t_ck (d a b : Nat) (h : a < b) (hb : b < 1000) : zCall l D tc A mJ0_checkIndex_df160 (d + 1) 0 0 [.int (nI a), .int (nI b)] S (zQv fun S' => S' = S) := by
  show zW l D tc A mJ0_checkIndex_df160 (d + 1) 0 0 0 0 0 [some (.int (nI a)), some (.int (nI b))] [] S _
  refine zx_iload_n (q := 1) dJ0_checkIndex_df160_0 rfl rfl rfl ?_
  refine zx_iload_n (q := 2) dJ0_checkIndex_df160_1 rfl rfl rfl ?_
  refine zx_gsFM (q := 5) dJ0_checkIndex_df160_2 sf_RJ0_1053 rfl (fun vf hvf => ?_)
  rcases hvf with rfl | rfl
  · refine zx_callS3i (q := 8) (y' := mJ3_checkIndex_8e157) dJ0_checkIndex_df160_5 ml_RJ0_1059 ok_mJ3_checkIndex_8e157 (Nat.le_of_ble_eq_true rfl) (Nat.le_of_ble_eq_true rfl) (Nat.le_refl _) (Nat.le_refl _) rfl (t_ckIN _ a b h hb) ?_
    rintro _ _ ⟨rfl, rfl⟩
    refine zx_pop (q := 9) dJ0_checkIndex_df160_8 rfl rfl ?_
    refine zx_vret dJ0_checkIndex_df160_9 rfl (Nat.le_refl _) (Nat.le_refl _) ⟨rfl, ?_⟩
    rfl
  · refine zx_callS3i (q := 8) (y' := mJ3_checkIndex_8e157) dJ0_checkIndex_df160_5 ml_RJ0_1059 ok_mJ3_checkIndex_8e157 (Nat.le_of_ble_eq_true rfl) (Nat.le_of_ble_eq_true rfl) (Nat.le_refl _) (Nat.le_refl _) rfl (t_ckIR _ a b h hb) ?_
    rintro _ _ ⟨rfl, rfl⟩
    refine zx_pop (q := 9) dJ0_checkIndex_df160_8 rfl rfl ?_
    refine zx_vret dJ0_checkIndex_df160_9 rfl (Nat.le_refl _) (Nat.le_refl _) ⟨rfl, ?_⟩
    rfl
theorem t_J1ch (d i : Nat) (hi : i < 8) (k : Nat) (hk : k < zw_tl.getD i 0) : zCall l D tc A mJ1_charAt_3b067 (d + 2) 0 0 [.ref (200000 + i), .int (nI k)] S (zQi fun r S' => r = z_ch i k ∧ S' = S) := by
  show zW l D tc A mJ1_charAt_3b067 (d + 2) 0 0 0 0 0 [some (.ref (200000 + i)), some (.int (nI k))] [] S _
  refine zx_iload_n (q := 1) dJ1_charAt_3b067_0 rfl rfl rfl ?_
  refine zx_aload_n (q := 2) dJ1_charAt_3b067_1 rfl rfl rfl ?_
  refine zx_txLen (q := 3) dJ1_charAt_3b067_2 hi rfl ?_
  have hl := z_len8 i hi
  rw [show Int32.ofNat (zw_tl.getD i 0) = nI (zw_tl.getD i 0) from rfl]
  refine zx_callS2v (q := 6) (y' := mJ0_checkIndex_df160) dJ1_charAt_3b067_3 ml_RJ1_9 ok_mJ0_checkIndex_df160 (Nat.le_of_ble_eq_true rfl) (Nat.le_of_ble_eq_true rfl) (Nat.le_refl _) (Nat.le_refl _) rfl (t_ck _ k (zw_tl.getD i 0) hk (by omega)) ?_
  rintro _ rfl
  refine zx_aload_n (q := 7) dJ1_charAt_3b067_6 rfl rfl rfl ?_
  refine zx_iload_n (q := 8) dJ1_charAt_3b067_7 rfl rfl rfl ?_
  refine zx_txByt (q := 9) dJ1_charAt_3b067_8 hi (vp_in_nI hk (by omega)) rfl ?_
  rw [nI_clamp (by omega), show (zw_tb.getD i []).getD k 0 = z_ch i k from rfl]
  refine zx_sipush (q := 12) (v := 255) dJ1_charAt_3b067_9 (by decide) rfl ?_
  refine zx_iand (q := 13) dJ1_charAt_3b067_12 rfl ?_
  refine zx_i2c (q := 14) dJ1_charAt_3b067_13 rfl ?_
  rw [(z_chr i hi k hk).1.1]
  refine zx_zret dJ1_charAt_3b067_14 rfl (z_chr i hi k hk).1.2 (Nat.le_refl _) (Nat.le_refl _) ⟨_, rfl, ?_⟩
  exact ⟨rfl, rfl⟩
theorem t_chAt (d i : Nat) (hi : i < 8) (k : Nat) (hk : k < zw_tl.getD i 0) : zCall l D tc A mJ0_charAt_5068e (d + 3) 0 0 [.ref (100000 + i), .int (nI k)] S (zQi fun r S' => r = z_ch i k ∧ S' = S) := by
  show zW l D tc A mJ0_charAt_5068e (d + 3) 0 0 0 0 0 [some (.ref (100000 + i)), some (.int (nI k))] [] S _
  refine zx_aload_n (q := 1) dJ0_charAt_5068e_0 rfl rfl rfl ?_
  refine zx_callT0i (q := 4) (y' := mJ0_isLatin1_aae02) dJ0_charAt_5068e_1 ml_RJ0_492 ok_mJ0_isLatin1_aae02 hi rfl (Nat.le_of_ble_eq_true rfl) (Nat.le_of_ble_eq_true rfl) (Nat.le_refl _) (Nat.le_refl _) rfl (t_isLatin1 _ i hi) ?_
  rintro _ _ ⟨rfl, rfl⟩
  refine zx_if_eq_f (t := 16) (q := 7) dJ0_charAt_5068e_4 (by decide) rfl (by decide) ?_
  refine zx_aload_n (q := 8) dJ0_charAt_5068e_7 rfl rfl rfl ?_
  refine zx_txVal (q := 11) dJ0_charAt_5068e_8 hi sf_RJ0_9 rfl ?_
  refine zx_iload_n (q := 12) dJ0_charAt_5068e_11 rfl rfl rfl ?_
  refine zx_callS2i (q := 15) (y' := mJ1_charAt_3b067) dJ0_charAt_5068e_12 ml_RJ0_495 ok_mJ1_charAt_3b067 (Nat.le_of_ble_eq_true rfl) (Nat.le_of_ble_eq_true rfl) (Nat.le_refl _) (Nat.le_refl _) rfl (t_J1ch _ i hi k hk) ?_
  rintro _ _ ⟨rfl, rfl⟩
  refine zx_zret dJ0_charAt_5068e_15 rfl (z_chr i hi k hk).1.2 (Nat.le_refl _) (Nat.le_refl _) ⟨_, rfl, ?_⟩
  exact ⟨rfl, rfl⟩
theorem lp_ixc (d i b : Nat) (hi : i < 8) (hb : b < 128) (w : Int32) : ∀ (n k : Nat), k + n = zw_tl.getD i 0 → zW l D tc A mJ1_indexOfChar_4cfef d 0 0 0 0 7 [some (.ref (200000 + i)), some (.int w), some (.int 0), some (.int (nI (zw_tl.getD i 0))), some (.int (nI b)), some (.int (nI k))] [] S (zQi fun r S' => r = z_ix i (nI b) n k ∧ S' = S) := by
  intro n
  induction n using Nat.strongRecOn with
  | _ n ih =>
    intro k hk
    have hl := z_len8 i hi
    refine zx_iload (q := 9) dJ1_indexOfChar_4cfef_7 rfl rfl ?_
    refine zx_iload_n (q := 10) dJ1_indexOfChar_4cfef_9 rfl rfl rfl ?_
    refine zx_icmp_ge (q := 13) (t := 31) dJ1_indexOfChar_4cfef_10 (by decide) rfl (fun c_10 => ?_) (fun c_10 => ?_)
    · have hn0 : n = 0 := by have := z_ge (x := nI (zw_tl.getD i 0)) rfl (by omega) c_10; omega
      subst hn0
      refine zx_iconst (q := 32) (v := (-1)) dJ1_indexOfChar_4cfef_31 (by decide) rfl ?_
      refine zx_iret dJ1_indexOfChar_4cfef_32 rfl (Nat.le_refl _) (Nat.le_refl _) ⟨_, rfl, ?_⟩
      exact ⟨rfl, rfl⟩
    · have hk2 : k < zw_tl.getD i 0 := z_lt (x := nI (zw_tl.getD i 0)) rfl (by omega) c_10
      obtain ⟨n, rfl⟩ : ∃ q, n = q + 1 := ⟨n - 1, by omega⟩
      refine zx_aload_n (q := 14) dJ1_indexOfChar_4cfef_13 rfl rfl rfl ?_
      refine zx_iload (q := 16) dJ1_indexOfChar_4cfef_14 rfl rfl ?_
      refine zx_txByt (q := 17) dJ1_indexOfChar_4cfef_16 hi (vp_in_nI hk2 (by omega)) rfl ?_
      rw [nI_clamp (by omega)]
      refine zx_iload (q := 19) dJ1_indexOfChar_4cfef_17 rfl rfl ?_
      refine zx_icmp_ne (q := 22) (t := 25) dJ1_indexOfChar_4cfef_19 (by decide) rfl (fun c_19 => ?_) (fun c_19 => ?_)
      · refine zx_iinc5 (q := 28) dJ1_indexOfChar_4cfef_25 rfl rfl ?_
        refine zx_goto (t := 7) dJ1_indexOfChar_4cfef_28 (by decide) ?_
        rw [z_inc, z_ix, if_neg c_19]
        exact ih n (by omega) (k + 1) (by omega)
      · refine zx_iload (q := 24) dJ1_indexOfChar_4cfef_22 rfl rfl ?_
        refine zx_iret dJ1_indexOfChar_4cfef_24 rfl (Nat.le_refl _) (Nat.le_refl _) ⟨_, rfl, ?_⟩
        exact ⟨by rw [z_ix, if_pos (by simpa using c_19)], rfl⟩
theorem t_ixc (d i b : Nat) (hi : i < 8) (hb : b < 128) : zCall l D tc A mJ1_indexOfChar_4cfef d 0 0 [.ref (200000 + i), .int (nI b), .int 0, .int (nI (zw_tl.getD i 0))] S (zQi fun r S' => r = z_ck i (nI b) ∧ S' = S) := by
  show zW l D tc A mJ1_indexOfChar_4cfef d 0 0 0 0 0 [some (.ref (200000 + i)), some (.int (nI b)), some (.int 0), some (.int (nI (zw_tl.getD i 0))), none, none] [] S _
  refine zx_iload_n (q := 1) dJ1_indexOfChar_4cfef_0 rfl rfl rfl ?_
  refine zx_i2b (q := 2) dJ1_indexOfChar_4cfef_1 rfl ?_
  rw [(z_byt b hb).1]
  refine zx_istore4 (q := 4) dJ1_indexOfChar_4cfef_2 rfl rfl ?_
  refine zx_iload_n (q := 5) dJ1_indexOfChar_4cfef_4 rfl rfl rfl ?_
  refine zx_istore5 (q := 7) dJ1_indexOfChar_4cfef_5 rfl rfl ?_
  exact lp_ixc d i b hi hb (nI b) (zw_tl.getD i 0) 0 (by omega)
theorem t_canE (d b : Nat) (hb : b < 128) : zCall l D tc A mJ1_canEncode_9a6ad d 0 0 [.int (nI b)] S (zQi fun r S' => r = 1 ∧ S' = S) := by
  show zW l D tc A mJ1_canEncode_9a6ad d 0 0 0 0 0 [some (.int (nI b))] [] S _
  refine zx_iload_n (q := 1) dJ1_canEncode_9a6ad_0 rfl rfl rfl ?_
  refine zx_if_lt_f (t := 15) (q := 4) dJ1_canEncode_9a6ad_1 (by decide) rfl (nI_pos (by omega)) ?_
  refine zx_iload_n (q := 5) dJ1_canEncode_9a6ad_4 rfl rfl rfl ?_
  refine zx_sipush (q := 8) (v := 255) dJ1_canEncode_9a6ad_5 (by decide) rfl ?_
  refine zx_icmp_gt_f (t := 15) (q := 11) dJ1_canEncode_9a6ad_8 (by decide) rfl (fun z => absurd ((nI_ltI (a := 255) (by omega) (by omega)).mp z) (by omega)) ?_
  refine zx_iconst (q := 12) (v := 1) dJ1_canEncode_9a6ad_11 (by decide) rfl ?_
  refine zx_goto (t := 16) dJ1_canEncode_9a6ad_12 (by decide) ?_
  refine zx_zret dJ1_canEncode_9a6ad_16 rfl rfl (Nat.le_refl _) (Nat.le_refl _) ⟨_, rfl, ?_⟩
  exact ⟨rfl, rfl⟩
theorem t_J1ix (d i b : Nat) (hi : i < 8) (hb : b < 128) : zCall l D tc A mJ1_indexOf_4cfef (d + 1) 0 0 [.ref (200000 + i), .int (nI b), .int 0, .int (nI (zw_tl.getD i 0))] S (zQi fun r S' => r = z_ck i (nI b) ∧ S' = S) := by
  show zW l D tc A mJ1_indexOf_4cfef (d + 1) 0 0 0 0 0 [some (.ref (200000 + i)), some (.int (nI b)), some (.int 0), some (.int (nI (zw_tl.getD i 0)))] [] S _
  refine zx_iload_n (q := 1) dJ1_indexOf_4cfef_0 rfl rfl rfl ?_
  refine zx_callS1i (q := 4) (y' := mJ1_canEncode_9a6ad) dJ1_indexOf_4cfef_1 ml_RJ1_88 ok_mJ1_canEncode_9a6ad (Nat.le_of_ble_eq_true rfl) (Nat.le_of_ble_eq_true rfl) (Nat.le_refl _) (Nat.le_refl _) rfl (t_canE _ b hb) ?_
  rintro _ _ ⟨rfl, rfl⟩
  refine zx_if_ne_t (t := 9) (q := 7) dJ1_indexOf_4cfef_4 (by decide) rfl (by decide) ?_
  refine zx_iload_n (q := 10) dJ1_indexOf_4cfef_9 rfl rfl rfl ?_
  refine zx_iconst (q := 11) (v := 0) dJ1_indexOf_4cfef_10 (by decide) rfl ?_
  refine zx_mmax (q := 14) dJ1_indexOf_4cfef_11 ml_RJ1_92 (Nat.le_of_ble_eq_true rfl) (Nat.le_refl _) (Nat.le_refl _) rfl ?_
  rw [show (if (0 : Int32) < 0 then (0 : Int32) else 0) = 0 from rfl]
  refine zx_istore2 (q := 15) dJ1_indexOf_4cfef_14 rfl rfl ?_
  refine zx_iload_n (q := 16) dJ1_indexOf_4cfef_15 rfl rfl rfl ?_
  refine zx_aload_n (q := 17) dJ1_indexOf_4cfef_16 rfl rfl rfl ?_
  refine zx_txLen (q := 18) dJ1_indexOf_4cfef_17 hi rfl ?_
  refine zx_mmin (q := 21) dJ1_indexOf_4cfef_18 ml_RJ1_38 (Nat.le_of_ble_eq_true rfl) (Nat.le_refl _) (Nat.le_refl _) rfl ?_
  rw [show Int32.ofNat (zw_tl.getD i 0) = nI (zw_tl.getD i 0) from rfl, ite_self]
  refine zx_istore3 (q := 22) dJ1_indexOf_4cfef_21 rfl rfl ?_
  refine zx_iload_n (q := 23) dJ1_indexOf_4cfef_22 rfl rfl rfl ?_
  refine zx_iload_n (q := 24) dJ1_indexOf_4cfef_23 rfl rfl rfl ?_
  refine zx_icmp_lt_t (t := 29) (q := 27) dJ1_indexOf_4cfef_24 (by decide) rfl (nI_lt (a := 0) (z_len8 i hi).2 (by have := (z_len8 i hi).1; omega)) ?_
  refine zx_aload_n (q := 30) dJ1_indexOf_4cfef_29 rfl rfl rfl ?_
  refine zx_iload_n (q := 31) dJ1_indexOf_4cfef_30 rfl rfl rfl ?_
  refine zx_iload_n (q := 32) dJ1_indexOf_4cfef_31 rfl rfl rfl ?_
  refine zx_iload_n (q := 33) dJ1_indexOf_4cfef_32 rfl rfl rfl ?_
  refine zx_callS4i (q := 36) (y' := mJ1_indexOfChar_4cfef) dJ1_indexOf_4cfef_33 ml_RJ1_95 ok_mJ1_indexOfChar_4cfef (Nat.le_of_ble_eq_true rfl) (Nat.le_of_ble_eq_true rfl) (Nat.le_refl _) (Nat.le_refl _) rfl (t_ixc _ i b hi hb) ?_
  rintro _ _ ⟨rfl, rfl⟩
  refine zx_iret dJ1_indexOf_4cfef_36 rfl (Nat.le_refl _) (Nat.le_refl _) ⟨_, rfl, ?_⟩
  exact ⟨rfl, rfl⟩
theorem t_ix2 (d i b : Nat) (hi : i < 8) (hb : b < 128) : zCall l D tc A mJ0_indexOf_7cf53 (d + 2) 0 0 [.ref (100000 + i), .int (nI b), .int 0] S (zQi fun r S' => r = z_ck i (nI b) ∧ S' = S) := by
  show zW l D tc A mJ0_indexOf_7cf53 (d + 2) 0 0 0 0 0 [some (.ref (100000 + i)), some (.int (nI b)), some (.int 0)] [] S _
  refine zx_aload_n (q := 1) dJ0_indexOf_7cf53_0 rfl rfl rfl ?_
  refine zx_callT0i (q := 4) (y' := mJ0_isLatin1_aae02) dJ0_indexOf_7cf53_1 ml_RJ0_492 ok_mJ0_isLatin1_aae02 hi rfl (Nat.le_of_ble_eq_true rfl) (Nat.le_of_ble_eq_true rfl) (Nat.le_refl _) (Nat.le_refl _) rfl (t_isLatin1 _ i hi) ?_
  rintro _ _ ⟨rfl, rfl⟩
  refine zx_if_eq_f (t := 23) (q := 7) dJ0_indexOf_7cf53_4 (by decide) rfl (by decide) ?_
  refine zx_aload_n (q := 8) dJ0_indexOf_7cf53_7 rfl rfl rfl ?_
  refine zx_txVal (q := 11) dJ0_indexOf_7cf53_8 hi sf_RJ0_9 rfl ?_
  refine zx_iload_n (q := 12) dJ0_indexOf_7cf53_11 rfl rfl rfl ?_
  refine zx_iload_n (q := 13) dJ0_indexOf_7cf53_12 rfl rfl rfl ?_
  refine zx_aload_n (q := 14) dJ0_indexOf_7cf53_13 rfl rfl rfl ?_
  refine zx_callT0i (q := 17) (y' := mJ0_length_8abf5) dJ0_indexOf_7cf53_14 ml_RJ0_505 ok_mJ0_length_8abf5 hi rfl (Nat.le_of_ble_eq_true rfl) (Nat.le_of_ble_eq_true rfl) (Nat.le_refl _) (Nat.le_refl _) rfl (t_tlen _ i hi) ?_
  rintro _ _ ⟨rfl, rfl⟩
  refine zx_callS4i (q := 20) (y' := mJ1_indexOf_4cfef) dJ0_indexOf_7cf53_17 ml_RJ0_637 ok_mJ1_indexOf_4cfef (Nat.le_of_ble_eq_true rfl) (Nat.le_of_ble_eq_true rfl) (Nat.le_refl _) (Nat.le_refl _) rfl (t_J1ix _ i b hi hb) ?_
  rintro _ _ ⟨rfl, rfl⟩
  refine zx_goto (t := 36) dJ0_indexOf_7cf53_20 (by decide) ?_
  refine zx_iret dJ0_indexOf_7cf53_36 rfl (Nat.le_refl _) (Nat.le_refl _) ⟨_, rfl, ?_⟩
  exact ⟨rfl, rfl⟩
theorem t_ix1 (d i b : Nat) (hi : i < 8) (hb : b < 128) : zCall l D tc A mJ0_indexOf_0f7a4 (d + 3) 0 0 [.ref (100000 + i), .int (nI b)] S (zQi fun r S' => r = z_ck i (nI b) ∧ S' = S) := by
  show zW l D tc A mJ0_indexOf_0f7a4 (d + 3) 0 0 0 0 0 [some (.ref (100000 + i)), some (.int (nI b))] [] S _
  refine zx_aload_n (q := 1) dJ0_indexOf_0f7a4_0 rfl rfl rfl ?_
  refine zx_iload_n (q := 2) dJ0_indexOf_0f7a4_1 rfl rfl rfl ?_
  refine zx_iconst (q := 3) (v := 0) dJ0_indexOf_0f7a4_2 (by decide) rfl ?_
  refine zx_callT2i (q := 6) (y' := mJ0_indexOf_7cf53) dJ0_indexOf_0f7a4_3 ml_RJ0_633 ok_mJ0_indexOf_7cf53 hi rfl (Nat.le_of_ble_eq_true rfl) (Nat.le_of_ble_eq_true rfl) (Nat.le_refl _) (Nat.le_refl _) rfl (t_ix2 _ i b hi hb) ?_
  rintro _ _ ⟨rfl, rfl⟩
  refine zx_iret dJ0_indexOf_0f7a4_6 rfl (Nat.le_refl _) (Nat.le_refl _) ⟨_, rfl, ?_⟩
  exact ⟨rfl, rfl⟩
/-- the text: how many bytes, at which place, has it failed -/
def zTK (g : Nat → Nat → Int32) (tx : Nat → Nat) (len p : Nat) (fl : Bool) : Prop := g 39 1 = nI len ∧ g 39 2 = nI p ∧ g 39 3 = zb fl ∧ p ≤ len ∧ len ≤ 100 ∧ ∀ k, k < 100 → g 40 k = nI (tx k) ∧ tx k < 128
theorem zTK_fr {g g' : Nat → Nat → Int32} {tx : Nat → Nat} {len p : Nat} {fl : Bool} (h : zTK g tx len p fl) (e : ∀ k j, k = 39 ∨ k = 40 → g' k j = g k j) : zTK g' tx len p fl :=
  ⟨by rw [e _ _ (by omega)]; exact h.1, by rw [e _ _ (by omega)]; exact h.2.1, by rw [e _ _ (by omega)]; exact h.2.2.1, h.2.2.2.1, h.2.2.2.2.1, fun k hk => by rw [e _ _ (by omega)]; exact h.2.2.2.2.2 k hk⟩
def z_at (tx : Nat → Nat) (len p b : Nat) : Bool := decide (p < len) && decide (tx p = b)
theorem zTK_adv {g : Nat → Nat → Int32} {tx : Nat → Nat} {len p p' : Nat} {fl : Bool} (h : zTK g tx len p fl) (hp : p' ≤ len) : zTK (zw_u g 39 2 (nI p')) tx len p' fl :=
  ⟨by rw [z_u_ne _ _ (by omega)]; exact h.1, by rw [z_u_at], by rw [z_u_ne _ _ (by omega)]; exact h.2.2.1, hp, h.2.2.2.2.1, fun k hk => by rw [z_u_ne _ _ (by omega)]; exact h.2.2.2.2.2 k hk⟩
theorem zTK_fail {g : Nat → Nat → Int32} {tx : Nat → Nat} {len p : Nat} {fl : Bool} (h : zTK g tx len p fl) : zTK (zw_u g 39 3 1) tx len p true :=
  ⟨by rw [z_u_ne _ _ (by omega)]; exact h.1, by rw [z_u_ne _ _ (by omega)]; exact h.2.1, by rw [z_u_at]; rfl, h.2.2.2.1, h.2.2.2.2.1, fun k hk => by rw [z_u_ne _ _ (by omega)]; exact h.2.2.2.2.2 k hk⟩
theorem t_isAt (d b : Nat) {g : Nat → Nat → Int32} {tx : Nat → Nat} {len p : Nat} {fl : Bool} (K : zTK g tx len p fl) (hb : b < 128) : zCall l D tc A mX2_isAt d 0 0 [.ref 39, .int (nI b)] (zs g gl f) (zQi fun r S' => r = zb (!fl && z_at tx len p b) ∧ S' = zs g gl f) := by
  obtain ⟨K1, K2, K3, K4, K5, K6⟩ := id K
  show zW l D tc A mX2_isAt d 0 0 0 0 0 [some (.ref 39), some (.int (nI b))] [] (zs g gl f) _
  refine zx_aload_n (q := 1) dX2_isAt_0 rfl rfl rfl ?_
  refine zy_getIe (q := 4) (v := zb fl) dX2_isAt_1 fl_RX2_31 rfl rfl (K3) rfl ?_
  refine zx_if_ne (q := 7) (t := 35) dX2_isAt_4 (by decide) rfl (fun c_4 => ?_) (fun c_4 => ?_)
  · have hf : fl = true := (zb_nz fl).mp c_4
    subst hf
    have hz : (!true && z_at tx len p b) = false := rfl
    refine zx_iconst (q := 36) (v := 0) dX2_isAt_35 (by decide) rfl ?_
    refine zx_zret dX2_isAt_36 rfl (by first | rfl | exact zb_nar _) (Nat.le_refl _) (Nat.le_refl _) ⟨_, rfl, ?_⟩
    exact ⟨by rw [hz]; rfl, rfl⟩
  · have hf : fl = false := (zb_z fl).mp (by simpa using c_4)
    subst hf
    refine zx_aload_n (q := 8) dX2_isAt_7 rfl rfl rfl ?_
    refine zy_getIe (q := 11) (v := nI p) dX2_isAt_8 fl_RX2_28 rfl rfl (K2) rfl ?_
    refine zx_aload_n (q := 12) dX2_isAt_11 rfl rfl rfl ?_
    refine zy_getIe (q := 15) (v := nI len) dX2_isAt_12 fl_RX2_15 rfl rfl (K1) rfl ?_
    refine zx_icmp_ge (q := 18) (t := 35) dX2_isAt_15 (by decide) rfl (fun c_15 => ?_) (fun c_15 => ?_)
    · rw [nI_leI (by omega) (by omega)] at c_15
      have hz : (!false && z_at tx len p b) = false := by unfold z_at; rw [decide_eq_false (by omega)]; rfl
      refine zx_iconst (q := 36) (v := 0) dX2_isAt_35 (by decide) rfl ?_
      refine zx_zret dX2_isAt_36 rfl (by first | rfl | exact zb_nar _) (Nat.le_refl _) (Nat.le_refl _) ⟨_, rfl, ?_⟩
      exact ⟨by rw [hz]; rfl, rfl⟩
    · rw [nI_leI (by omega) (by omega)] at c_15
      refine zx_aload_n (q := 19) dX2_isAt_18 rfl rfl rfl ?_
      refine zy_getR (q := 22) dX2_isAt_19 fl_RX2_9 rfl rfl rfl rfl ?_
      refine zx_aload_n (q := 23) dX2_isAt_22 rfl rfl rfl ?_
      refine zy_getIe (q := 26) (v := nI p) dX2_isAt_23 fl_RX2_28 rfl rfl (K2) rfl ?_
      refine zy_bald (q := 27) dX2_isAt_26 rfl (vp_in_nI (by omega) (by omega)) rfl ?_
      rw [nI_clamp (by omega), (K6 p (by omega)).1]
      have htx := (K6 p (by omega)).2
      refine zx_iload_n (q := 28) dX2_isAt_27 rfl rfl rfl ?_
      refine zx_icmp_ne (q := 31) (t := 35) dX2_isAt_28 (by decide) rfl (fun c_28 => ?_) (fun c_28 => ?_)
      · rw [nI_eq (by omega) (by omega)] at c_28
        have hz : (!false && z_at tx len p b) = false := by unfold z_at; rw [decide_eq_false c_28, Bool.and_false]; rfl
        refine zx_iconst (q := 36) (v := 0) dX2_isAt_35 (by decide) rfl ?_
        refine zx_zret dX2_isAt_36 rfl (by first | rfl | exact zb_nar _) (Nat.le_refl _) (Nat.le_refl _) ⟨_, rfl, ?_⟩
        exact ⟨by rw [hz]; rfl, rfl⟩
      · rw [nI_eq (by omega) (by omega)] at c_28
        have hz : (!false && z_at tx len p b) = true := by unfold z_at; rw [decide_eq_true c_28, decide_eq_true (show p < len by omega)]; rfl
        refine zx_iconst (q := 32) (v := 1) dX2_isAt_31 (by decide) rfl ?_
        refine zx_goto (t := 36) dX2_isAt_32 (by decide) ?_
        refine zx_zret dX2_isAt_36 rfl (by first | rfl | exact zb_nar _) (Nat.le_refl _) (Nat.le_refl _) ⟨_, rfl, ?_⟩
        exact ⟨by rw [hz]; rfl, rfl⟩
theorem t_takes (d b : Nat) {g : Nat → Nat → Int32} {tx : Nat → Nat} {len p : Nat} {fl : Bool} (K : zTK g tx len p fl) (hb : b < 128) : zCall l D tc A mX2_takes (d + 1) 0 0 [.ref 39, .int (nI b)] (zs g gl f) (zQi fun r S' => r = zb (!fl && z_at tx len p b) ∧ S' = zs (if (!fl && z_at tx len p b) = true then zw_u g 39 2 (nI (p + 1)) else g) gl f) := by
  obtain ⟨K1, K2, K3, K4, K5, K6⟩ := id K
  show zW l D tc A mX2_takes (d + 1) 0 0 0 0 0 [some (.ref 39), some (.int (nI b)), none] [] (zs g gl f) _
  refine zx_aload_n (q := 1) dX2_takes_0 rfl rfl rfl ?_
  refine zx_iload_n (q := 2) dX2_takes_1 rfl rfl rfl ?_
  refine zx_callV1i (q := 5) (y' := mX2_isAt) dX2_takes_2 ml_RX2_42 ok_mX2_isAt rfl (by decide) rfl (Nat.le_of_ble_eq_true rfl) (Nat.le_of_ble_eq_true rfl) (Nat.le_refl _) (Nat.le_refl _) rfl (t_isAt _ b K hb) ?_
  rintro _ _ ⟨rfl, rfl⟩
  refine zx_istore2 (q := 6) dX2_takes_5 rfl rfl ?_
  refine zx_iload_n (q := 7) dX2_takes_6 rfl rfl rfl ?_
  refine zx_if_eq (q := 10) (t := 20) dX2_takes_7 (by decide) rfl (fun c_7 => ?_) (fun c_7 => ?_)
  · have hz : ¬ (!fl && z_at tx len p b) = true := fun z => by rw [z] at c_7; exact absurd c_7 (by decide)
    refine zx_iload_n (q := 21) dX2_takes_20 rfl rfl rfl ?_
    refine zx_zret dX2_takes_21 rfl (zb_nar _) (Nat.le_refl _) (Nat.le_refl _) ⟨_, rfl, ?_⟩
    first
      | exact ⟨rfl, by rw [if_pos hz]⟩
      | exact ⟨rfl, by rw [if_neg hz]⟩
  · have hz : (!fl && z_at tx len p b) = true := (zb_nz _).mp c_7
    refine zx_aload_n (q := 11) dX2_takes_10 rfl rfl rfl ?_
    refine zx_dup (q := 12) dX2_takes_11 rfl rfl ?_
    refine zy_getIe (q := 15) (v := nI p) dX2_takes_12 fl_RX2_28 rfl rfl (K2) rfl ?_
    refine zx_iconst (q := 16) (v := 1) dX2_takes_15 (by decide) rfl ?_
    refine zx_iadd (q := 17) dX2_takes_16 rfl ?_
    rw [nI_1]
    refine zy_putI (q := 20) dX2_takes_17 fl_RX2_28 rfl rfl ⟨rfl, rfl⟩ rfl rfl ?_
    refine zx_iload_n (q := 21) dX2_takes_20 rfl rfl rfl ?_
    refine zx_zret dX2_takes_21 rfl (zb_nar _) (Nat.le_refl _) (Nat.le_refl _) ⟨_, rfl, ?_⟩
    first
      | exact ⟨rfl, by rw [if_pos hz]⟩
      | exact ⟨rfl, by rw [if_neg hz]⟩
end P51
