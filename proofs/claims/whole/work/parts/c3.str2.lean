/-! ===== strings: length, charAt, indexOf ===== -/
theorem zl6 : ∀ i : Fin 8, zlen.getD i.val 0 ≤ 6 ∧ 0 < zlen.getD i.val 0 := by decide +kernel
theorem ch_v : ∀ (i : Fin 8) (j : Fin 6), (((zbyt.getD i.val []).getD j.val 0 &&& nI 255).toUInt32 % 65536).toInt32 = (zbyt.getD i.val []).getD j.val 0 := by decide +kernel
theorem ch_n : ∀ (i : Fin 8) (j : Fin 6), narrow .char (.int ((zbyt.getD i.val []).getD j.val 0)) = .int ((zbyt.getD i.val []).getD j.val 0) := by decide +kernel
theorem i2b_v : ∀ c : Fin 128, (nI c.val).toInt8.toInt32 = nI c.val := by decide +kernel
theorem shr_v : ∀ i : Fin 8, (nI (zlen.getD i.val 0)) >>> (nI 0 &&& 31) = nI (zlen.getD i.val 0) := by decide +kernel
/-- the first place of a byte from j on -/
def ixF (B : List Int32) (x : Int32) : Nat → Nat → Int32
  | 0, _ => -1
  | n + 1, j => if B.getD j 0 = x then nI j else ixF B x n (j + 1)
section
variable {l : Launch} {G : zG} {Z : zS} {I : zI} {Q : Option Value → zS → zI → Prop} {i : Nat}
theorem c_J0_coder (hi : i < 8) (hq : Q (some (.int (nI 0))) Z I) : zM l G mJ0_coder_7d493 0 0 0 [.ref (1000010 + i)] Z I Q := by
  refine x_entry [some (.ref (1000010 + i))] 0 rfl rfl (Nat.le_of_ble_eq_true rfl) ?_
  refine x_comp (n := 3) dJ0_coder_7d493_0 rfl fsJ0_38 ?_
  refine x_if_eq (n := 6) (tgt := 13) dJ0_coder_7d493_3 rfl (by decide) (fun c_3 => ?_) (fun c_3 => ?_)
  · exact absurd c_3 (by decide)
  · refine x_ald0 (n := 7) dJ0_coder_7d493_6 rfl ?_
    refine x_scod (n := 10) dJ0_coder_7d493_7 rfl hi fsJ0_15 ?_
    refine x_goto (n := 14) dJ0_coder_7d493_10 (by decide) ?_
    refine r_zret dJ0_coder_7d493_14 rfl (by decide +kernel) ?_
    exact hq
theorem c_J0_isLatin1 (hi : i < 8) (hq : Q (some (.int (nI 1))) Z I) : zM l G mJ0_isLatin1_aae02 0 0 0 [.ref (1000010 + i)] Z I Q := by
  refine x_entry [some (.ref (1000010 + i))] 0 rfl rfl (Nat.le_of_ble_eq_true rfl) ?_
  refine x_comp (n := 3) dJ0_isLatin1_aae02_0 rfl fsJ0_38 ?_
  refine x_if_eq (n := 6) (tgt := 17) dJ0_isLatin1_aae02_3 rfl (by decide) (fun c_3 => ?_) (fun c_3 => ?_)
  · exact absurd c_3 (by decide)
  · refine x_ald0 (n := 7) dJ0_isLatin1_aae02_6 rfl ?_
    refine x_scod (n := 10) dJ0_isLatin1_aae02_7 rfl hi fsJ0_15 ?_
    refine x_if_ne (n := 13) (tgt := 17) dJ0_isLatin1_aae02_10 rfl (by decide) (fun c_10 => ?_) (fun c_10 => ?_)
    · exact absurd (by decide) c_10
    · refine x_ic1 (n := 14) dJ0_isLatin1_aae02_13 rfl ?_
      refine x_goto (n := 18) dJ0_isLatin1_aae02_14 (by decide) ?_
      refine r_zret dJ0_isLatin1_aae02_18 rfl (by first | exact nar0 | exact nar1) ?_
      exact hq
theorem c_J0_length (hi : i < 8) (hq : Q (some (.int (nI (zlen.getD i 0)))) Z I) : zM l G mJ0_length_8abf5 1 0 0 [.ref (1000010 + i)] Z I Q := by
  refine x_entry [some (.ref (1000010 + i))] 0 rfl rfl (Nat.le_of_ble_eq_true rfl) ?_
  refine x_ald0 (n := 1) dJ0_length_8abf5_0 rfl ?_
  refine x_sval (n := 4) dJ0_length_8abf5_1 rfl hi fsJ0_9 ?_
  refine x_blen (n := 5) dJ0_length_8abf5_4 rfl hi ?_
  refine x_ald0 (n := 6) dJ0_length_8abf5_5 rfl ?_
  refine x_invVs (n := 9) (d' := 0) [] zmJ0_coder_7d493 mlJ0_335 zoJ_coder.1 zoJ_coder.2 dJ0_length_8abf5_6 rfl rfl hi rfl (Nat.le_of_ble_eq_true rfl) (Nat.le_of_ble_eq_true rfl) ?_
  refine c_J0_coder hi ?_
  refine x_some ?_
  refine x_ishr (n := 10) dJ0_length_8abf5_9 rfl ?_
  refine x_top (shr_v ⟨i, hi⟩) ?_
  refine r_iret dJ0_length_8abf5_10 rfl ?_
  exact hq
theorem c_J0_checkIndex {j k : Nat} (hj : j < k) (hk : k < 1000) (hq : Q none Z I) : zM l G mJ0_checkIndex_df160 1 0 0 [.int (nI j), .int (nI k)] Z I Q := by
  refine x_entry [some (.int (nI j)), some (.int (nI k))] 0 rfl rfl (Nat.le_of_ble_eq_true rfl) ?_
  refine x_ild0 (n := 1) dJ0_checkIndex_df160_0 rfl ?_
  refine x_ild1 (n := 2) dJ0_checkIndex_df160_1 rfl ?_
  refine x_chk (n := 8) dJ0_checkIndex_df160_2 dJ0_checkIndex_df160_5 rfl fsJ0_1053 mlJ0_1059 hj hk (by omega) (Nat.le_of_ble_eq_true rfl) ?_
  refine x_pop (n := 9) dJ0_checkIndex_df160_8 rfl rfl ?_
  refine r_vret dJ0_checkIndex_df160_9 rfl ?_
  exact hq
theorem c_J1_charAt (hi : i < 8) {j : Nat} (hj : j < zlen.getD i 0) (hq : Q (some (.int ((zbyt.getD i []).getD j 0))) Z I) : zM l G mJ1_charAt_3b067 2 0 0 [.ref (1000020 + i), .int (nI j)] Z I Q := by
  have h6 := (zl6 ⟨i, hi⟩).1
  have hj6 : j < 6 := Nat.lt_of_lt_of_le hj h6
  refine x_entry [some (.ref (1000020 + i)), some (.int (nI j))] 0 rfl rfl (Nat.le_of_ble_eq_true rfl) ?_
  refine x_ild1 (n := 1) dJ1_charAt_3b067_0 rfl ?_
  refine x_ald0 (n := 2) dJ1_charAt_3b067_1 rfl ?_
  refine x_blen (n := 3) dJ1_charAt_3b067_2 rfl hi ?_
  refine x_cS2 (n := 6) (d' := 1) zcJ0_checkIndex_df160 mlJ1_9 dJ1_charAt_3b067_3 rfl (Nat.le_of_ble_eq_true rfl) (Nat.le_of_ble_eq_true rfl) ?_
  refine c_J0_checkIndex hj (Nat.lt_of_le_of_lt h6 (by decide)) ?_
  refine x_none ?_
  refine x_ald0 (n := 7) dJ1_charAt_3b067_6 rfl ?_
  refine x_ild1 (n := 8) dJ1_charAt_3b067_7 rfl ?_
  refine x_bald (n := 9) dJ1_charAt_3b067_8 rfl hi hj (by omega) ?_
  refine x_sipush (n := 12) (v := nI 255) dJ1_charAt_3b067_9 rfl (by decide) ?_
  refine x_iand (n := 13) dJ1_charAt_3b067_12 rfl ?_
  refine x_i2c (n := 14) dJ1_charAt_3b067_13 rfl ?_
  refine x_top (ch_v ⟨i, hi⟩ ⟨j, hj6⟩) ?_
  refine r_zret dJ1_charAt_3b067_14 rfl (ch_n ⟨i, hi⟩ ⟨j, hj6⟩) ?_
  exact hq
theorem c_J0_charAt (hi : i < 8) {j : Nat} (hj : j < zlen.getD i 0) (hq : Q (some (.int ((zbyt.getD i []).getD j 0))) Z I) : zM l G mJ0_charAt_5068e 3 0 0 [.ref (1000010 + i), .int (nI j)] Z I Q := by
  have h6 := (zl6 ⟨i, hi⟩).1
  have hj6 : j < 6 := Nat.lt_of_lt_of_le hj h6
  refine x_entry [some (.ref (1000010 + i)), some (.int (nI j))] 0 rfl rfl (Nat.le_of_ble_eq_true rfl) ?_
  refine x_ald0 (n := 1) dJ0_charAt_5068e_0 rfl ?_
  refine x_invVs (n := 4) (d' := 0) [] zmJ0_isLatin1_aae02 mlJ0_492 zoJ_isLatin1.1 zoJ_isLatin1.2 dJ0_charAt_5068e_1 rfl rfl hi rfl (Nat.le_of_ble_eq_true rfl) (Nat.le_of_ble_eq_true rfl) ?_
  refine c_J0_isLatin1 hi ?_
  refine x_some ?_
  refine x_if_eq (n := 7) (tgt := 16) dJ0_charAt_5068e_4 rfl (by decide) (fun c_4 => ?_) (fun c_4 => ?_)
  · exact absurd c_4 (by decide)
  · refine x_ald0 (n := 8) dJ0_charAt_5068e_7 rfl ?_
    refine x_sval (n := 11) dJ0_charAt_5068e_8 rfl hi fsJ0_9 ?_
    refine x_ild1 (n := 12) dJ0_charAt_5068e_11 rfl ?_
    refine x_cS2 (n := 15) (d' := 2) zcJ1_charAt_3b067 mlJ0_495 dJ0_charAt_5068e_12 rfl (Nat.le_of_ble_eq_true rfl) (Nat.le_of_ble_eq_true rfl) ?_
    refine c_J1_charAt hi hj ?_
    refine x_some ?_
    refine r_zret dJ0_charAt_5068e_15 rfl (ch_n ⟨i, hi⟩ ⟨j, hj6⟩) ?_
    exact hq
theorem c_J1_canEncode {c : Nat} (hc : c < 256) (hq : Q (some (.int (nI 1))) Z I) : zM l G mJ1_canEncode_9a6ad 0 0 0 [.int (nI c)] Z I Q := by
  refine x_entry [some (.int (nI c))] 0 rfl rfl (Nat.le_of_ble_eq_true rfl) ?_
  refine x_ild0 (n := 1) dJ1_canEncode_9a6ad_0 rfl ?_
  refine x_if_lt (n := 4) (tgt := 15) dJ1_canEncode_9a6ad_1 rfl (by decide) (fun c_1 => ?_) (fun c_1 => ?_)
  · exact absurd c_1 (nI_pos (by omega))
  · refine x_ild0 (n := 5) dJ1_canEncode_9a6ad_4 rfl ?_
    refine x_sipush (n := 8) (v := nI 255) dJ1_canEncode_9a6ad_5 rfl (by decide) ?_
    refine x_icmpN_gt (n := 11) (tgt := 15) dJ1_canEncode_9a6ad_8 rfl (by decide) (by omega) (by omega) (fun c_8 => ?_) (fun c_8 => ?_)
    · exact absurd c_8 (by omega)
    · refine x_ic1 (n := 12) dJ1_canEncode_9a6ad_11 rfl ?_
      refine x_goto (n := 16) dJ1_canEncode_9a6ad_12 (by decide) ?_
      refine r_zret dJ1_canEncode_9a6ad_16 rfl (by first | exact nar0 | exact nar1) ?_
      exact hq
theorem l_J1_indexOfChar (hi : i < 8) {x w1 w2 : Int32} : ∀ (n j : Nat), j + n = zlen.getD i 0 → Q (some (.int (ixF (zbyt.getD i []) x n j))) Z I → zX l G mJ1_indexOfChar_4cfef 0 0 0 7 [some (.ref (1000020 + i)), some (.int w1), some (.int w2), some (.int (nI (zlen.getD i 0))), some (.int x), some (.int (nI j))] [] Z I Q := by
  have h6 := (zl6 ⟨i, hi⟩).1
  have h6' : zlen.getD i 0 ≤ 6 := h6
  intro n
  induction n with
  | zero =>
    intro j hj hq
    refine x_ild5 (n := 9) dJ1_indexOfChar_4cfef_7 rfl ?_
    refine x_ild3 (n := 10) dJ1_indexOfChar_4cfef_9 rfl ?_
    refine x_icmpN_ge (n := 13) (tgt := 31) dJ1_indexOfChar_4cfef_10 rfl (by decide) (by omega) (by omega) (fun c_10 => ?_) (fun c_10 => ?_)
    · refine x_icm1 (n := 32) dJ1_indexOfChar_4cfef_31 rfl ?_
      refine r_iret dJ1_indexOfChar_4cfef_32 rfl ?_
      exact hq
    · exact absurd c_10 (by omega)
  | succ n ih =>
    intro j hj hq
    unfold ixF at hq
    refine x_ild5 (n := 9) dJ1_indexOfChar_4cfef_7 rfl ?_
    refine x_ild3 (n := 10) dJ1_indexOfChar_4cfef_9 rfl ?_
    refine x_icmpN_ge (n := 13) (tgt := 31) dJ1_indexOfChar_4cfef_10 rfl (by decide) (by omega) (by omega) (fun c_10 => ?_) (fun c_10 => ?_)
    · exact absurd c_10 (by omega)
    · refine x_ald0 (n := 14) dJ1_indexOfChar_4cfef_13 rfl ?_
      refine x_ild5 (n := 16) dJ1_indexOfChar_4cfef_14 rfl ?_
      refine x_bald (n := 17) dJ1_indexOfChar_4cfef_16 rfl hi (by omega) (by omega) ?_
      refine x_ild4 (n := 19) dJ1_indexOfChar_4cfef_17 rfl ?_
      refine x_icmp_ne (n := 22) (tgt := 25) dJ1_indexOfChar_4cfef_19 rfl (by decide) (fun c_19 => ?_) (fun c_19 => ?_)
      · refine x_iincN5 (n := 28) (k := 1) dJ1_indexOfChar_4cfef_25 rfl (by decide) rfl ?_
        refine x_goto (n := 7) dJ1_indexOfChar_4cfef_28 (by decide) ?_
        exact ih (j + 1) (by omega) (by rwa [if_neg c_19] at hq)
      · refine x_ild5 (n := 24) dJ1_indexOfChar_4cfef_22 rfl ?_
        refine r_iret dJ1_indexOfChar_4cfef_24 rfl ?_
        rwa [if_pos c_19] at hq
theorem c_J1_indexOfChar (hi : i < 8) {c : Nat} (hc : c < 128) (hq : Q (some (.int (ixF (zbyt.getD i []) (nI c) (zlen.getD i 0) 0))) Z I) : zM l G mJ1_indexOfChar_4cfef 0 0 0 [.ref (1000020 + i), .int (nI c), .int (nI 0), .int (nI (zlen.getD i 0))] Z I Q := by
  refine x_entry [some (.ref (1000020 + i)), some (.int (nI c)), some (.int (nI 0)), some (.int (nI (zlen.getD i 0))), none, none] 2 rfl rfl (Nat.le_of_ble_eq_true rfl) ?_
  refine x_ild1 (n := 1) dJ1_indexOfChar_4cfef_0 rfl ?_
  refine x_i2b (n := 2) dJ1_indexOfChar_4cfef_1 rfl ?_
  refine x_top (i2b_v ⟨c, hc⟩) ?_
  refine x_ist4 (n := 4) dJ1_indexOfChar_4cfef_2 rfl (by decide) rfl ?_
  refine x_ild2 (n := 5) dJ1_indexOfChar_4cfef_4 rfl ?_
  refine x_ist5 (n := 7) dJ1_indexOfChar_4cfef_5 rfl (by decide) rfl ?_
  exact l_J1_indexOfChar hi (zlen.getD i 0) 0 (by omega) hq
theorem c_J1_indexOf (hi : i < 8) {c : Nat} (hc : c < 128) (hq : Q (some (.int (ixF (zbyt.getD i []) (nI c) (zlen.getD i 0) 0))) Z I) : zM l G mJ1_indexOf_4cfef 1 0 0 [.ref (1000020 + i), .int (nI c), .int (nI 0), .int (nI (zlen.getD i 0))] Z I Q := by
  have h6 := zl6 ⟨i, hi⟩
  have h6' : zlen.getD i 0 ≤ 6 := h6.1
  have h60 : 0 < zlen.getD i 0 := h6.2
  refine x_entry [some (.ref (1000020 + i)), some (.int (nI c)), some (.int (nI 0)), some (.int (nI (zlen.getD i 0)))] 0 rfl rfl (Nat.le_of_ble_eq_true rfl) ?_
  refine x_ild1 (n := 1) dJ1_indexOf_4cfef_0 rfl ?_
  refine x_cS1 (n := 4) (d' := 0) zcJ1_canEncode_9a6ad mlJ1_88 dJ1_indexOf_4cfef_1 rfl (Nat.le_of_ble_eq_true rfl) (Nat.le_of_ble_eq_true rfl) ?_
  refine c_J1_canEncode (by omega) ?_
  refine x_some ?_
  refine x_if_ne (n := 7) (tgt := 9) dJ1_indexOf_4cfef_4 rfl (by decide) (fun c_4 => ?_) (fun c_4 => ?_)
  · refine x_ild2 (n := 10) dJ1_indexOf_4cfef_9 rfl ?_
    refine x_ic0 (n := 11) dJ1_indexOf_4cfef_10 rfl ?_
    refine x_mmax (n := 14) dJ1_indexOf_4cfef_11 rfl mlJ1_92 zu_max zi_J9 zv_max (by decide) (Nat.le_of_ble_eq_true rfl) ?_
    refine x_top (y := nI 0) (by rw [ite_self]) ?_
    refine x_ist2 (n := 15) dJ1_indexOf_4cfef_14 rfl (by decide) rfl ?_
    refine x_ild3 (n := 16) dJ1_indexOf_4cfef_15 rfl ?_
    refine x_ald0 (n := 17) dJ1_indexOf_4cfef_16 rfl ?_
    refine x_blen (n := 18) dJ1_indexOf_4cfef_17 rfl hi ?_
    refine x_mmin (n := 21) dJ1_indexOf_4cfef_18 rfl mlJ1_38 zu_min zi_J9 zv_min (by decide) (Nat.le_of_ble_eq_true rfl) ?_
    refine x_top (y := nI (zlen.getD i 0)) (by rw [ite_self]) ?_
    refine x_ist3 (n := 22) dJ1_indexOf_4cfef_21 rfl (by decide) rfl ?_
    refine x_ild2 (n := 23) dJ1_indexOf_4cfef_22 rfl ?_
    refine x_ild3 (n := 24) dJ1_indexOf_4cfef_23 rfl ?_
    refine x_icmpN_lt (n := 27) (tgt := 29) dJ1_indexOf_4cfef_24 rfl (by decide) (by omega) (by omega) (fun c_24 => ?_) (fun c_24 => ?_)
    · refine x_ald0 (n := 30) dJ1_indexOf_4cfef_29 rfl ?_
      refine x_ild1 (n := 31) dJ1_indexOf_4cfef_30 rfl ?_
      refine x_ild2 (n := 32) dJ1_indexOf_4cfef_31 rfl ?_
      refine x_ild3 (n := 33) dJ1_indexOf_4cfef_32 rfl ?_
      refine x_cS4 (n := 36) (d' := 0) zcJ1_indexOfChar_4cfef mlJ1_95 dJ1_indexOf_4cfef_33 rfl (Nat.le_of_ble_eq_true rfl) (Nat.le_of_ble_eq_true rfl) ?_
      refine c_J1_indexOfChar hi hc ?_
      refine x_some ?_
      refine r_iret dJ1_indexOf_4cfef_36 rfl ?_
      exact hq
    · exact absurd h60 (by omega)
  · exact absurd c_4 (by decide)
theorem c_J0_indexOf2 (hi : i < 8) {c : Nat} (hc : c < 128) (hq : Q (some (.int (ixF (zbyt.getD i []) (nI c) (zlen.getD i 0) 0))) Z I) : zM l G mJ0_indexOf_7cf53 2 0 0 [.ref (1000010 + i), .int (nI c), .int (nI 0)] Z I Q := by
  refine x_entry [some (.ref (1000010 + i)), some (.int (nI c)), some (.int (nI 0))] 0 rfl rfl (Nat.le_of_ble_eq_true rfl) ?_
  refine x_ald0 (n := 1) dJ0_indexOf_7cf53_0 rfl ?_
  refine x_invVs (n := 4) (d' := 0) [] zmJ0_isLatin1_aae02 mlJ0_492 zoJ_isLatin1.1 zoJ_isLatin1.2 dJ0_indexOf_7cf53_1 rfl rfl hi rfl (Nat.le_of_ble_eq_true rfl) (Nat.le_of_ble_eq_true rfl) ?_
  refine c_J0_isLatin1 hi ?_
  refine x_some ?_
  refine x_if_eq (n := 7) (tgt := 23) dJ0_indexOf_7cf53_4 rfl (by decide) (fun c_4 => ?_) (fun c_4 => ?_)
  · exact absurd c_4 (by decide)
  · refine x_ald0 (n := 8) dJ0_indexOf_7cf53_7 rfl ?_
    refine x_sval (n := 11) dJ0_indexOf_7cf53_8 rfl hi fsJ0_9 ?_
    refine x_ild1 (n := 12) dJ0_indexOf_7cf53_11 rfl ?_
    refine x_ild2 (n := 13) dJ0_indexOf_7cf53_12 rfl ?_
    refine x_ald0 (n := 14) dJ0_indexOf_7cf53_13 rfl ?_
    refine x_invVs (n := 17) (d' := 1) [] zmJ0_length_8abf5 mlJ0_505 zoJ_length.1 zoJ_length.2 dJ0_indexOf_7cf53_14 rfl rfl hi rfl (Nat.le_of_ble_eq_true rfl) (Nat.le_of_ble_eq_true rfl) ?_
    refine c_J0_length hi ?_
    refine x_some ?_
    refine x_cS4 (n := 20) (d' := 1) zcJ1_indexOf_4cfef mlJ0_637 dJ0_indexOf_7cf53_17 rfl (Nat.le_of_ble_eq_true rfl) (Nat.le_of_ble_eq_true rfl) ?_
    refine c_J1_indexOf hi hc ?_
    refine x_some ?_
    refine x_goto (n := 36) dJ0_indexOf_7cf53_20 (by decide) ?_
    refine r_iret dJ0_indexOf_7cf53_36 rfl ?_
    exact hq
theorem c_J0_indexOf (hi : i < 8) {c : Nat} (hc : c < 128) (hq : Q (some (.int (ixF (zbyt.getD i []) (nI c) (zlen.getD i 0) 0))) Z I) : zM l G mJ0_indexOf_0f7a4 3 0 0 [.ref (1000010 + i), .int (nI c)] Z I Q := by
  refine x_entry [some (.ref (1000010 + i)), some (.int (nI c))] 0 rfl rfl (Nat.le_of_ble_eq_true rfl) ?_
  refine x_ald0 (n := 1) dJ0_indexOf_0f7a4_0 rfl ?_
  refine x_ild1 (n := 2) dJ0_indexOf_0f7a4_1 rfl ?_
  refine x_ic0 (n := 3) dJ0_indexOf_0f7a4_2 rfl ?_
  refine x_invVs (n := 6) (d' := 2) [.int (nI c), .int (nI 0)] zmJ0_indexOf_7cf53 mlJ0_633 zoJ_indexOf2.1 zoJ_indexOf2.2 dJ0_indexOf_0f7a4_3 rfl rfl hi rfl (Nat.le_of_ble_eq_true rfl) (Nat.le_of_ble_eq_true rfl) ?_
  refine c_J0_indexOf2 hi hc ?_
  refine x_some ?_
  refine r_iret dJ0_indexOf_0f7a4_6 rfl ?_
  exact hq
end
