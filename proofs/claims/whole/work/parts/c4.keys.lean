/-! ===== the class's tape: keys and names ===== -/
def zW : List (List Nat) := [[112, 114, 105, 99, 101], [114, 101, 116, 97, 105, 110], [108, 97, 116, 101], [99, 108, 97, 105, 109], [107, 100, 119], [107, 121], [110], [99, 119]]
theorem zW_b : ∀ i : Fin 8, zbyt.getD i.val [] = (zW.getD i.val []).map nI ∧ zlen.getD i.val 0 = (zW.getD i.val []).length := by decide +kernel
theorem zW_at {i j c : Nat} {w : List Nat} (hi : i < 8) (h : (zW.getD i []).drop j = c :: w) : (zbyt.getD i []).getD j 0 = nI c ∧ (zW.getD i []).drop (j + 1) = w := by
  have h1 : (zW.getD i [])[j]? = some c := by
    have := congrArg (fun x => x[0]?) h
    simpa using this
  have h2 : (zW.getD i []).drop (j + 1) = w := by
    rw [← List.drop_drop, h]; rfl
  refine ⟨?_, h2⟩
  have h3 : zbyt.getD i [] = (zW.getD i []).map nI := (zW_b ⟨i, hi⟩).1
  rw [h3, List.getD_eq_getElem?_getD, List.getElem?_map, h1]
  rfl
/-- whether the word w stands from b to e -/
def stdF (f : Nat → Int32) (t b e : Nat) (w : List Nat) : Bool := decide (e ≤ t) && (decide (e - b = w.length) && wrdT f b w)
def kcF (f : Nat → Int32) (t b e : Nat) : Int32 := if stdF f t b e (zW.getD 0 []) = true then nI 0 else if stdF f t b e (zW.getD 1 []) = true then nI 1 else if stdF f t b e (zW.getD 2 []) = true then nI 2 else if stdF f t b e (zW.getD 3 []) = true then nI 3 else -1
section
variable {l : Launch} {G : zG} {Z : zS} {I : zI} {Q : Option Value → zS → zI → Prop} {i t b e : Nat}
theorem l_X6_stands (hS : ShL Z) (hi : i < 8) (ht : t ≤ 96) (he : e ≤ t) (hbe : b + zlen.getD i 0 = e) : ∀ (w : List Nat) (j : Nat), (zW.getD i []).drop j = w → j + w.length = zlen.getD i 0 → Q (some (.int (zb (wrdT (I 245) (b + j) w)))) Z I → zX l G mX6_stands 4 0 0 23 [some (.ref 244), some (.ref (1000010 + i)), some (.int (nI b)), some (.int (nI e)), some (.int (nI j))] [] Z I Q := by
  intro w
  induction w with
  | nil =>
    intro j hd hj hq
    rw [List.length_nil] at hj
    refine x_ild4 (n := 25) dX6_stands_23 rfl ?_
    refine x_ald1 (n := 26) dX6_stands_25 rfl ?_
    refine x_invVs (n := 29) (d' := 1) [] zmJ0_length_8abf5 mlX6_117 zoJ_length.1 zoJ_length.2 dX6_stands_26 rfl rfl hi rfl (Nat.le_of_ble_eq_true rfl) (Nat.le_of_ble_eq_true rfl) ?_
    refine c_J0_length hi ?_
    refine x_some ?_
    refine x_icmpN_ge (n := 32) (tgt := 58) dX6_stands_29 rfl (by decide) (by omega) (by omega) (fun c_29 => ?_) (fun c_29 => ?_)
    · refine x_ic1 (n := 59) dX6_stands_58 rfl ?_
      refine r_zret dX6_stands_59 rfl (by first | exact nar0 | exact nar1 | exact zb_nar _) ?_
      exact hq
    · exact absurd c_29 (by omega)
  | cons c w ih =>
    intro j hd hj hq
    rw [List.length_cons] at hj
    have h2 := zW_at hi hd
    unfold wrdT at hq
    refine x_ild4 (n := 25) dX6_stands_23 rfl ?_
    refine x_ald1 (n := 26) dX6_stands_25 rfl ?_
    refine x_invVs (n := 29) (d' := 1) [] zmJ0_length_8abf5 mlX6_117 zoJ_length.1 zoJ_length.2 dX6_stands_26 rfl rfl hi rfl (Nat.le_of_ble_eq_true rfl) (Nat.le_of_ble_eq_true rfl) ?_
    refine c_J0_length hi ?_
    refine x_some ?_
    refine x_icmpN_ge (n := 32) (tgt := 58) dX6_stands_29 rfl (by decide) (by omega) (by omega) (fun c_29 => ?_) (fun c_29 => ?_)
    · exact absurd c_29 (by omega)
    · refine x_ald0 (n := 33) dX6_stands_32 rfl ?_
      refine x_getR (n := 36) flX6_9 rfl dX6_stands_33 rfl (lK_Tp hS) (lP_bytes hS) ?_
      refine x_ild2 (n := 37) dX6_stands_36 rfl ?_
      refine x_ild4 (n := 39) dX6_stands_37 rfl ?_
      refine x_iaddN (n := 40) dX6_stands_39 rfl ?_
      refine x_ialdN (n := 41) dX6_stands_40 rfl (lA_bytes hS) (Nat.le_of_ble_eq_true rfl) (by omega) ?_
      refine x_ald1 (n := 42) dX6_stands_41 rfl ?_
      refine x_ild4 (n := 44) dX6_stands_42 rfl ?_
      refine x_invVs (n := 47) (d' := 3) [.int (nI j)] zmJ0_charAt_5068e mlX6_122 zoJ_charAt.1 zoJ_charAt.2 dX6_stands_44 rfl rfl hi rfl (Nat.le_of_ble_eq_true rfl) (Nat.le_of_ble_eq_true rfl) ?_
      refine c_J0_charAt hi (by omega) ?_
      refine x_some ?_
      rw [h2.1]
      refine x_icmp_eq (n := 50) (tgt := 52) dX6_stands_47 rfl (by decide) (fun c_47 => ?_) (fun c_47 => ?_)
      · refine x_iincN4 (n := 55) (k := 1) dX6_stands_52 rfl (by decide) rfl ?_
        refine x_goto (n := 23) dX6_stands_55 (by decide) ?_
        exact ih (j + 1) h2.2 (by omega) (by rwa [decide_eq_true c_47, Bool.true_and] at hq)
      · refine x_ic0 (n := 51) dX6_stands_50 rfl ?_
        refine r_zret dX6_stands_51 rfl (by first | exact nar0 | exact nar1 | exact zb_nar _) ?_
        rwa [decide_eq_false c_47, Bool.false_and] at hq
theorem c_X6_stands (hS : ShL Z) (hi : i < 8) (h1 : I 244 1 = nI t) (ht : t ≤ 96) (hb : b ≤ e) (he : e ≤ 200) (hq : Q (some (.int (zb (stdF (I 245) t b e (zW.getD i []))))) Z I) : zM l G mX6_stands 4 0 0 [.ref 244, .ref (1000010 + i), .int (nI b), .int (nI e)] Z I Q := by
  refine x_entry [some (.ref 244), some (.ref (1000010 + i)), some (.int (nI b)), some (.int (nI e)), none] 1 rfl rfl (Nat.le_of_ble_eq_true rfl) ?_
  have hl : zlen.getD i 0 = (zW.getD i []).length := (zW_b ⟨i, hi⟩).2
  have h6 : zlen.getD i 0 ≤ 6 := (zl6 ⟨i, hi⟩).1
  unfold stdF at hq
  rw [← hl] at hq
  refine x_ild3 (n := 1) dX6_stands_0 rfl ?_
  refine x_ald0 (n := 2) dX6_stands_1 rfl ?_
  refine x_getI (n := 5) flX6_19 rfl dX6_stands_2 rfl (lK_Tp hS) ?_
  rw [h1]
  refine x_icmpN_gt (n := 8) (tgt := 18) dX6_stands_5 rfl (by decide) (by omega) (by omega) (fun c_5 => ?_) (fun c_5 => ?_)
  · refine x_ic0 (n := 19) dX6_stands_18 rfl ?_
    refine r_zret dX6_stands_19 rfl (by first | exact nar0 | exact nar1 | exact zb_nar _) ?_
    first | (rwa [decide_eq_false (show ¬ e ≤ t by omega), Bool.false_and] at hq) | (rwa [decide_eq_false (show ¬ e - b = zlen.getD i 0 by omega), Bool.false_and, Bool.and_false] at hq)
  · refine x_ild3 (n := 9) dX6_stands_8 rfl ?_
    refine x_ild2 (n := 10) dX6_stands_9 rfl ?_
    refine x_isubN (n := 11) dX6_stands_10 rfl (by omega) ?_
    refine x_ald1 (n := 12) dX6_stands_11 rfl ?_
    refine x_invVs (n := 15) (d' := 1) [] zmJ0_length_8abf5 mlX6_117 zoJ_length.1 zoJ_length.2 dX6_stands_12 rfl rfl hi rfl (Nat.le_of_ble_eq_true rfl) (Nat.le_of_ble_eq_true rfl) ?_
    refine c_J0_length hi ?_
    refine x_some ?_
    refine x_icmpN_eq (n := 18) (tgt := 20) dX6_stands_15 rfl (by decide) (by omega) (by omega) (fun c_15 => ?_) (fun c_15 => ?_)
    · refine x_ic0 (n := 21) dX6_stands_20 rfl ?_
      refine x_ist4 (n := 23) dX6_stands_21 rfl (by decide) rfl ?_
      exact l_X6_stands hS hi ht (by omega) (by omega) _ 0 rfl (by rw [List.drop_zero]; omega) (by rwa [decide_eq_true (show e ≤ t by omega), decide_eq_true (show e - b = zlen.getD i 0 by omega), Bool.true_and, Bool.true_and] at hq)
    · refine x_ic0 (n := 19) dX6_stands_18 rfl ?_
      refine r_zret dX6_stands_19 rfl (by first | exact nar0 | exact nar1 | exact zb_nar _) ?_
      first | (rwa [decide_eq_false (show ¬ e ≤ t by omega), Bool.false_and] at hq) | (rwa [decide_eq_false (show ¬ e - b = zlen.getD i 0 by omega), Bool.false_and, Bool.and_false] at hq)
theorem c_X6_keyOf (hS : ShL Z) (h1 : I 244 1 = nI t) (ht : t ≤ 96) (hb : b ≤ e) (he : e ≤ 200) (hq : Q (some (.int (kcF (I 245) t b e))) Z I) : zM l G mX6_keyOf 5 0 0 [.ref 244, .int (nI b), .int (nI e)] Z I Q := by
  refine x_entry [some (.ref 244), some (.int (nI b)), some (.int (nI e))] 0 rfl rfl (Nat.le_of_ble_eq_true rfl) ?_
  unfold kcF at hq
  refine x_ald0 (n := 1) dX6_keyOf_0 rfl ?_
  refine x_ldcS (n := 3) (q := (105, "price", 0)) (a := 1000010 + 0) dX6_keyOf_1 rfl rfl (by decide) rfl ?_
  refine x_ild1 (n := 4) dX6_keyOf_3 rfl ?_
  refine x_ild2 (n := 5) dX6_keyOf_4 rfl ?_
  refine x_cV3 (n := 8) (d' := 4) zcX6_stands mlX6_107 dX6_keyOf_5 rfl (lK_Tp hS) (Nat.le_of_ble_eq_true rfl) (Nat.le_of_ble_eq_true rfl) ?_
  refine c_X6_stands hS (by decide) h1 ht hb he ?_
  refine x_some ?_
  refine x_zif_eq (n := 11) (tgt := 13) dX6_keyOf_8 rfl (by decide) (fun c_8 => ?_) (fun c_8 => ?_)
  · refine x_ald0 (n := 14) dX6_keyOf_13 rfl ?_
    refine x_ldcS (n := 16) (q := (111, "retain", 1)) (a := 1000010 + 1) dX6_keyOf_14 rfl rfl (by decide) rfl ?_
    refine x_ild1 (n := 17) dX6_keyOf_16 rfl ?_
    refine x_ild2 (n := 18) dX6_keyOf_17 rfl ?_
    refine x_cV3 (n := 21) (d' := 4) zcX6_stands mlX6_107 dX6_keyOf_18 rfl (lK_Tp hS) (Nat.le_of_ble_eq_true rfl) (Nat.le_of_ble_eq_true rfl) ?_
    refine c_X6_stands hS (by decide) h1 ht hb he ?_
    refine x_some ?_
    refine x_zif_eq (n := 24) (tgt := 26) dX6_keyOf_21 rfl (by decide) (fun c_21 => ?_) (fun c_21 => ?_)
    · refine x_ald0 (n := 27) dX6_keyOf_26 rfl ?_
      refine x_ldcS (n := 29) (q := (113, "late", 2)) (a := 1000010 + 2) dX6_keyOf_27 rfl rfl (by decide) rfl ?_
      refine x_ild1 (n := 30) dX6_keyOf_29 rfl ?_
      refine x_ild2 (n := 31) dX6_keyOf_30 rfl ?_
      refine x_cV3 (n := 34) (d' := 4) zcX6_stands mlX6_107 dX6_keyOf_31 rfl (lK_Tp hS) (Nat.le_of_ble_eq_true rfl) (Nat.le_of_ble_eq_true rfl) ?_
      refine c_X6_stands hS (by decide) h1 ht hb he ?_
      refine x_some ?_
      refine x_zif_eq (n := 37) (tgt := 39) dX6_keyOf_34 rfl (by decide) (fun c_34 => ?_) (fun c_34 => ?_)
      · refine x_ald0 (n := 40) dX6_keyOf_39 rfl ?_
        refine x_ldcS (n := 42) (q := (115, "claim", 3)) (a := 1000010 + 3) dX6_keyOf_40 rfl rfl (by decide) rfl ?_
        refine x_ild1 (n := 43) dX6_keyOf_42 rfl ?_
        refine x_ild2 (n := 44) dX6_keyOf_43 rfl ?_
        refine x_cV3 (n := 47) (d' := 4) zcX6_stands mlX6_107 dX6_keyOf_44 rfl (lK_Tp hS) (Nat.le_of_ble_eq_true rfl) (Nat.le_of_ble_eq_true rfl) ?_
        refine c_X6_stands hS (by decide) h1 ht hb he ?_
        refine x_some ?_
        refine x_zif_eq (n := 50) (tgt := 54) dX6_keyOf_47 rfl (by decide) (fun c_47 => ?_) (fun c_47 => ?_)
        · refine x_icm1 (n := 55) dX6_keyOf_54 rfl ?_
          refine r_iret dX6_keyOf_55 rfl ?_
          first | (rwa [if_neg (by rw [c_8]; decide), if_neg (by rw [c_21]; decide), if_neg (by rw [c_34]; decide), if_pos c_47] at hq) | (rwa [if_neg (by rw [c_8]; decide), if_neg (by rw [c_21]; decide), if_neg (by rw [c_34]; decide), if_neg (by rw [c_47]; decide)] at hq)
        · refine x_ic3 (n := 51) dX6_keyOf_50 rfl ?_
          refine x_goto (n := 55) dX6_keyOf_51 (by decide) ?_
          refine r_iret dX6_keyOf_55 rfl ?_
          first | (rwa [if_neg (by rw [c_8]; decide), if_neg (by rw [c_21]; decide), if_neg (by rw [c_34]; decide), if_pos c_47] at hq) | (rwa [if_neg (by rw [c_8]; decide), if_neg (by rw [c_21]; decide), if_neg (by rw [c_34]; decide), if_neg (by rw [c_47]; decide)] at hq)
      · refine x_ic2 (n := 38) dX6_keyOf_37 rfl ?_
        refine r_iret dX6_keyOf_38 rfl ?_
        rwa [if_neg (by rw [c_8]; decide), if_neg (by rw [c_21]; decide), if_pos c_34] at hq
    · refine x_ic1 (n := 25) dX6_keyOf_24 rfl ?_
      refine r_iret dX6_keyOf_25 rfl ?_
      rwa [if_neg (by rw [c_8]; decide), if_pos c_21] at hq
  · refine x_ic0 (n := 12) dX6_keyOf_11 rfl ?_
    refine r_iret dX6_keyOf_12 rfl ?_
    rwa [if_pos c_8] at hq
theorem c_X6_namesOfKey (hS : ShL Z) {k : Nat} (h7 : I 244 7 = nI k) (hk : k < 4) (hq : Q (some (.ref (1000010 + (4 + k)))) Z I) : zM l G mX6_namesOfKey 0 0 0 [.ref 244] Z I Q := by
  refine x_entry [some (.ref 244)] 0 rfl rfl (Nat.le_of_ble_eq_true rfl) ?_
  rcases (by omega : k = 0 ∨ k = 1 ∨ k = 2 ∨ k = 3) with rfl | rfl | rfl | rfl
  · skip
    refine x_ald0 (n := 1) dX6_namesOfKey_0 rfl ?_
    refine x_getI (n := 4) flX6_53 rfl dX6_namesOfKey_1 rfl (lK_Tp hS) ?_
    rw [h7]
    refine x_tswI (n := 32) (off := 28) dX6_namesOfKey_4 (by decide) (by decide) (by decide +kernel) (by decide) ?_
    refine x_ldcS (n := 34) (q := (126, "kdw", 4)) (a := 1000010 + 4) dX6_namesOfKey_32 rfl rfl (by decide) rfl ?_
    refine r_aret dX6_namesOfKey_34 rfl (by first | exact Or.inl ⟨_, rfl⟩ | exact Or.inr ⟨_, rfl⟩) (by first | exact Or.inl rfl | exact Or.inr ⟨_, rfl⟩) ?_
    exact hq
  · skip
    refine x_ald0 (n := 1) dX6_namesOfKey_0 rfl ?_
    refine x_getI (n := 4) flX6_53 rfl dX6_namesOfKey_1 rfl (lK_Tp hS) ?_
    rw [h7]
    refine x_tswI (n := 35) (off := 31) dX6_namesOfKey_4 (by decide) (by decide) (by decide +kernel) (by decide) ?_
    refine x_ldcS (n := 37) (q := (128, "ky", 5)) (a := 1000010 + 5) dX6_namesOfKey_35 rfl rfl (by decide) rfl ?_
    refine r_aret dX6_namesOfKey_37 rfl (by first | exact Or.inl ⟨_, rfl⟩ | exact Or.inr ⟨_, rfl⟩) (by first | exact Or.inl rfl | exact Or.inr ⟨_, rfl⟩) ?_
    exact hq
  · skip
    refine x_ald0 (n := 1) dX6_namesOfKey_0 rfl ?_
    refine x_getI (n := 4) flX6_53 rfl dX6_namesOfKey_1 rfl (lK_Tp hS) ?_
    rw [h7]
    refine x_tswI (n := 38) (off := 34) dX6_namesOfKey_4 (by decide) (by decide) (by decide +kernel) (by decide) ?_
    refine x_ldcS (n := 40) (q := (130, "n", 6)) (a := 1000010 + 6) dX6_namesOfKey_38 rfl rfl (by decide) rfl ?_
    refine r_aret dX6_namesOfKey_40 rfl (by first | exact Or.inl ⟨_, rfl⟩ | exact Or.inr ⟨_, rfl⟩) (by first | exact Or.inl rfl | exact Or.inr ⟨_, rfl⟩) ?_
    exact hq
  · skip
    refine x_ald0 (n := 1) dX6_namesOfKey_0 rfl ?_
    refine x_getI (n := 4) flX6_53 rfl dX6_namesOfKey_1 rfl (lK_Tp hS) ?_
    rw [h7]
    refine x_tswO (n := 41) dX6_namesOfKey_4 (by decide) (by decide) ?_
    refine x_ldcS (n := 43) (q := (132, "cw", 7)) (a := 1000010 + 7) dX6_namesOfKey_41 rfl rfl (by decide) rfl ?_
    refine r_aret dX6_namesOfKey_43 rfl (by first | exact Or.inl ⟨_, rfl⟩ | exact Or.inr ⟨_, rfl⟩) (by first | exact Or.inl rfl | exact Or.inr ⟨_, rfl⟩) ?_
    exact hq
end
theorem nm_ix : ∀ (k : Fin 4) (c : Fin 128), ixF (zbyt.getD (4 + k.val) []) (nI c.val) (zlen.getD (4 + k.val) 0) 0 = (if isNm k.val (nI c.val) = true then nI (nmI k.val (nI c.val)) else -1) := by decide +kernel
theorem i2c_v : ∀ c : Fin 256, ((nI c.val).toUInt32 % 65536).toInt32 = nI c.val := by decide +kernel
theorem nmI_2 (k : Nat) (v : Int32) : nmI k v ≤ 2 := by
  unfold nmI
  split
  · split
    · omega
    · split <;> omega
  · split
    · split <;> omega
    · split
      · omega
      · split <;> omega
section
variable {l : Launch} {G : zG} {Z : zS} {I : zI} {Q : Option Value → zS → zI → Prop} {cd : List Int32} {st : List Nat} {ob on pt t : Nat} {want : Bool}
theorem c_X6_takesPartL (hS : ShL Z) {b e c k : Nat} (h1 : I 244 1 = nI t) (ht : t ≤ 96) (hbt : b < t) (hbe : b ≤ e) (he : e ≤ 97) (hL : isLe (I 245) t b = true) (hD : isDi (I 245) t b = false) (hw : e - b = 1) (h7 : I 244 7 = nI k) (hk : k < 4) (hcb : I 245 b = nI c) (hc1 : c < 128) (h : tpS I cd st ob on pt want) (hc : cd.length + st.length < 96) (hb : ∀ c ∈ st, c < 256) (hpt : pt ≤ 96) (hon : (popN st).length ≤ on) (hq0 : isNm k (nI c) = false → Q (some (.int (nI 0))) Z I)
    (hq : isNm k (nI c) = true → ∀ J, tpO I J → tpS J (cd ++ [nI (10000 + nmI k (nI c))] ++ ngs (popN st)) (rstN st) ob (on - (popN st).length) (pt + 1) false → Q (some (.int (nI 1))) Z J) : zM l G mX6_takesPart 4 0 0 [.ref 244, .int (nI b), .int (nI e)] Z I Q := by
  refine x_entry [some (.ref 244), some (.int (nI b)), some (.int (nI e)), none] 1 rfl rfl (Nat.le_of_ble_eq_true rfl) ?_
  have hix := nm_ix ⟨k, hk⟩ ⟨c, hc1⟩
  have h2 := nmI_2 k (nI c)
  have back : zX l G mX6_takesPart 4 0 0 48 [some (.ref 244), some (.int (nI b)), some (.int (nI e)), none] [.int (ixF (zbyt.getD (4 + k) []) (nI c) (zlen.getD (4 + k) 0) 0)] Z I Q := by
    by_cases hn : isNm k (nI c) = true
    · refine x_top (y := nI (nmI k (nI c))) (by rw [if_pos hn] at hix; exact hix) ?_
      refine x_ist3 (n := 49) dX6_takesPart_48 rfl (by decide) rfl ?_
      refine x_ild3 (n := 50) dX6_takesPart_49 rfl ?_
      refine x_if_lt (n := 53) (tgt := 69) dX6_takesPart_50 rfl (by decide) (fun c_50 => ?_) (fun c_50 => ?_)
      · exact absurd c_50 (nI_pos (by omega))
      · refine x_ald0 (n := 54) dX6_takesPart_53 rfl ?_
        refine x_sipush (n := 57) (v := nI 10000) dX6_takesPart_54 rfl (by decide) ?_
        refine x_ild3 (n := 58) dX6_takesPart_57 rfl ?_
        refine x_iaddN (n := 59) dX6_takesPart_58 rfl ?_
        refine x_cV1 (n := 62) (d' := 2) zcX6_endsPart mlX6_144 dX6_takesPart_59 rfl (lK_Tp hS) (Nat.le_of_ble_eq_true rfl) (Nat.le_of_ble_eq_true rfl) ?_
        refine c_X6_endsPart hS h hc hb hpt hon (fun J hJ hJs => ?_)
        refine x_some ?_
        refine x_if_eq (n := 65) (tgt := 69) dX6_takesPart_62 rfl (by decide) (fun c_62 => ?_) (fun c_62 => ?_)
        · exact absurd c_62 (by decide)
        · refine x_ic1 (n := 66) dX6_takesPart_65 rfl ?_
          refine x_goto (n := 70) dX6_takesPart_66 (by decide) ?_
          refine r_zret dX6_takesPart_70 rfl (by first | exact nar0 | exact nar1 | exact zb_nar _) ?_
          exact hq hn J hJ hJs
    · refine x_top (y := -1) (by rw [if_neg hn] at hix; exact hix) ?_
      refine x_ist3 (n := 49) dX6_takesPart_48 rfl (by decide) rfl ?_
      refine x_ild3 (n := 50) dX6_takesPart_49 rfl ?_
      refine x_if_lt (n := 53) (tgt := 69) dX6_takesPart_50 rfl (by decide) (fun c_50 => ?_) (fun c_50 => ?_)
      · refine x_ic0 (n := 70) dX6_takesPart_69 rfl ?_
        refine r_zret dX6_takesPart_70 rfl (by first | exact nar0 | exact nar1 | exact zb_nar _) ?_
        exact hq0 (by simpa using hn)
      · exact absurd (by decide) c_50
  refine x_ald0 (n := 1) dX6_takesPart_0 rfl ?_
  refine x_ild1 (n := 2) dX6_takesPart_1 rfl ?_
  refine x_cV1 (n := 5) (d' := 1) zcX6_isDigit mlX6_96 dX6_takesPart_2 rfl (lK_Tp hS) (Nat.le_of_ble_eq_true rfl) (Nat.le_of_ble_eq_true rfl) ?_
  refine c_X6_isDigit hS h1 ht (by omega) ?_
  refine x_some ?_
  refine x_zif_eq (n := 8) (tgt := 15) dX6_takesPart_5 rfl (by decide) (fun c_5 => ?_) (fun c_5 => ?_)
  · refine x_ald0 (n := 16) dX6_takesPart_15 rfl ?_
    refine x_ild1 (n := 17) dX6_takesPart_16 rfl ?_
    refine x_cV1 (n := 20) (d' := 1) zcX6_isLetter mlX6_93 dX6_takesPart_17 rfl (lK_Tp hS) (Nat.le_of_ble_eq_true rfl) (Nat.le_of_ble_eq_true rfl) ?_
    refine c_X6_isLetter hS h1 ht (by omega) ?_
    refine x_some ?_
    refine x_zif_eq (n := 23) (tgt := 71) dX6_takesPart_20 rfl (by decide) (fun c_20 => ?_) (fun c_20 => ?_)
    · exact absurd (c_20.symm.trans hL) (by decide)
    · refine x_ild2 (n := 24) dX6_takesPart_23 rfl ?_
      refine x_ild1 (n := 25) dX6_takesPart_24 rfl ?_
      refine x_isubN (n := 26) dX6_takesPart_25 rfl (by omega) ?_
      refine x_ic1 (n := 27) dX6_takesPart_26 rfl ?_
      refine x_icmpN_ne (n := 30) (tgt := 47) dX6_takesPart_27 rfl (by decide) (by omega) (by omega) (fun c_27 => ?_) (fun c_27 => ?_)
      · exact absurd hw c_27
      · refine x_ald0 (n := 31) dX6_takesPart_30 rfl ?_
        refine x_cV0 (n := 34) (d' := 0) zcX6_namesOfKey mlX6_137 dX6_takesPart_31 rfl (lK_Tp hS) (Nat.le_of_ble_eq_true rfl) (Nat.le_of_ble_eq_true rfl) ?_
        refine c_X6_namesOfKey hS h7 hk ?_
        refine x_some ?_
        refine x_ald0 (n := 35) dX6_takesPart_34 rfl ?_
        refine x_getR (n := 38) flX6_9 rfl dX6_takesPart_35 rfl (lK_Tp hS) (lP_bytes hS) ?_
        refine x_ild1 (n := 39) dX6_takesPart_38 rfl ?_
        refine x_ialdN (n := 40) dX6_takesPart_39 rfl (lA_bytes hS) (Nat.le_of_ble_eq_true rfl) (by omega) ?_
        refine x_top hcb ?_
        refine x_i2c (n := 41) dX6_takesPart_40 rfl ?_
        refine x_top (i2c_v ⟨c, by omega⟩) ?_
        refine x_invVs (n := 44) (d' := 3) [.int (nI c)] zmJ0_indexOf_0f7a4 mlX6_141 zoJ_indexOf1.1 zoJ_indexOf1.2 dX6_takesPart_41 rfl rfl (by omega) rfl (Nat.le_of_ble_eq_true rfl) (Nat.le_of_ble_eq_true rfl) ?_
        refine c_J0_indexOf (by omega) hc1 ?_
        refine x_some ?_
        refine x_goto (n := 48) dX6_takesPart_44 (by decide) ?_
        exact back
  · exact absurd (c_5.symm.trans hD) (by decide)
end
