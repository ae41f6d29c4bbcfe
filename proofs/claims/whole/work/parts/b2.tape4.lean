/-! ===== the class's tape: bytes and words ===== -/
theorem sub1_toInt : ∀ t : Fin 97, (nI t.val - nI 1).toInt = (t.val : Int) - 1 := by decide +kernel
/-- behind the word at b -/
def skW (f : Nat → Int32) (t b : Nat) : Nat → Nat → Nat
  | 0, p => p
  | n + 1, p => if ((isLe f t b && isLe f t p) || (isDi f t b && isDi f t p)) = true then skW f t b n (p + 1) else p
theorem skW_L {f : Nat → Int32} {t b : Nat} (h : isLe f t b = true) : ∀ n p, skW f t b n p = skL f t n p
  | 0, _ => rfl
  | n + 1, p => by
    have hd : isDi f t b = false := by
      unfold isLe at h; unfold isDi
      rw [Bool.and_eq_true, decide_eq_true_eq] at h
      rw [decide_eq_true h.1, Bool.true_and]
      have h2 := h.2
      unfold zin at h2 ⊢
      rw [decide_eq_true_eq] at h2
      exact decide_eq_false (by omega)
    unfold skW skL
    rw [h, hd, Bool.true_and, Bool.false_and, Bool.or_false, skW_L h n (p + 1)]
theorem skW_D {f : Nat → Int32} {t b : Nat} (hL : isLe f t b = false) (h : isDi f t b = true) : ∀ n p, skW f t b n p = skD f t n p
  | 0, _ => rfl
  | n + 1, p => by
    unfold skW skD
    rw [h, hL, Bool.true_and, Bool.false_and, Bool.false_or, skW_D hL h n (p + 1)]
theorem skW_N {f : Nat → Int32} {t b : Nat} (hL : isLe f t b = false) (h : isDi f t b = false) : ∀ n p, skW f t b n p = p
  | 0, _ => rfl
  | n + 1, p => by
    unfold skW
    rw [h, hL, Bool.false_and, Bool.false_and, if_neg (by decide)]
section
variable {l : Launch} {G : zG} {Z : zS} {I : zI} {Q : Option Value → zS → zI → Prop} {cd : List Int32} {st : List Nat} {ob on pt t : Nat} {want : Bool}
theorem c_X6_isLetter (hS : ShL Z) {k : Nat} (h1 : I 244 1 = nI t) (ht : t ≤ 96) (hk : k ≤ 200) (hq : Q (some (.int (zb (isLe (I 245) t k)))) Z I) : zM l G mX6_isLetter 1 0 0 [.ref 244, .int (nI k)] Z I Q := by
  refine x_entry [some (.ref 244), some (.int (nI k))] 0 rfl rfl (Nat.le_of_ble_eq_true rfl) ?_
  have hs : (nI t - nI 1).toInt = (t : Int) - 1 := sub1_toInt ⟨t, by omega⟩
  have hkI : (nI k).toInt = (k : Int) := nI_toInt (by omega)
  unfold isLe at hq
  refine x_ild1 (n := 1) dX6_isLetter_0 rfl ?_
  refine x_ic0 (n := 2) dX6_isLetter_1 rfl ?_
  refine x_ald0 (n := 3) dX6_isLetter_2 rfl ?_
  refine x_getI (n := 6) flX6_19 rfl dX6_isLetter_3 rfl (lK_Tp hS) ?_
  rw [h1]
  refine x_ic1 (n := 7) dX6_isLetter_6 rfl ?_
  refine x_isub (n := 8) dX6_isLetter_7 rfl ?_
  refine x_cN3 (n := 11) (d' := 0) zcX11_inside mnX6_99 dX6_isLetter_8 rfl (Nat.le_of_ble_eq_true rfl) (Nat.le_of_ble_eq_true rfl) ?_
  refine c_X11_inside (decide (k < t)) (by rw [hs, hkI, show (nI 0).toInt = 0 from rfl]; exact decide_eq_decide.mpr ⟨fun h => ⟨by omega, by omega⟩, fun h => by omega⟩) ?_
  refine x_some ?_
  refine x_zif_eq (n := 14) (tgt := 34) dX6_isLetter_11 rfl (by decide) (fun c_11 => ?_) (fun c_11 => ?_)
  · refine x_ic0 (n := 35) dX6_isLetter_34 rfl ?_
    refine r_zret dX6_isLetter_35 rfl (by first | exact nar0 | exact nar1 | exact zb_nar _) ?_
    first | (rw [c_11, c_27] at hq; exact hq) | (rw [c_11] at hq; exact hq)
  · refine x_ald0 (n := 15) dX6_isLetter_14 rfl ?_
    refine x_getR (n := 18) flX6_9 rfl dX6_isLetter_15 rfl (lK_Tp hS) (lP_bytes hS) ?_
    refine x_ild1 (n := 19) dX6_isLetter_18 rfl ?_
    have hkt : k < t := of_decide_eq_true c_11
    refine x_ialdN (n := 20) dX6_isLetter_19 rfl (lA_bytes hS) (Nat.le_of_ble_eq_true rfl) (by omega) ?_
    refine x_bipush (n := 22) (v := nI 97) dX6_isLetter_20 rfl (by decide) ?_
    refine x_bipush (n := 24) (v := nI 122) dX6_isLetter_22 rfl (by decide) ?_
    refine x_cN3 (n := 27) (d' := 0) zcX11_inside mnX6_99 dX6_isLetter_24 rfl (Nat.le_of_ble_eq_true rfl) (Nat.le_of_ble_eq_true rfl) ?_
    refine c_X11_inside (zin (I 245 k) 97 122) (by unfold zin; rfl) ?_
    refine x_some ?_
    refine x_zif_eq (n := 30) (tgt := 34) dX6_isLetter_27 rfl (by decide) (fun c_27 => ?_) (fun c_27 => ?_)
    · refine x_ic0 (n := 35) dX6_isLetter_34 rfl ?_
      refine r_zret dX6_isLetter_35 rfl (by first | exact nar0 | exact nar1 | exact zb_nar _) ?_
      first | (rw [c_11, c_27] at hq; exact hq) | (rw [c_11] at hq; exact hq)
    · refine x_ic1 (n := 31) dX6_isLetter_30 rfl ?_
      refine x_goto (n := 35) dX6_isLetter_31 (by decide) ?_
      refine r_zret dX6_isLetter_35 rfl (by first | exact nar0 | exact nar1 | exact zb_nar _) ?_
      first | (rw [c_11, c_27] at hq; exact hq) | (rw [c_11] at hq; exact hq)
theorem c_X6_isDigit (hS : ShL Z) {k : Nat} (h1 : I 244 1 = nI t) (ht : t ≤ 96) (hk : k ≤ 200) (hq : Q (some (.int (zb (isDi (I 245) t k)))) Z I) : zM l G mX6_isDigit 1 0 0 [.ref 244, .int (nI k)] Z I Q := by
  refine x_entry [some (.ref 244), some (.int (nI k))] 0 rfl rfl (Nat.le_of_ble_eq_true rfl) ?_
  have hs : (nI t - nI 1).toInt = (t : Int) - 1 := sub1_toInt ⟨t, by omega⟩
  have hkI : (nI k).toInt = (k : Int) := nI_toInt (by omega)
  unfold isDi at hq
  refine x_ild1 (n := 1) dX6_isDigit_0 rfl ?_
  refine x_ic0 (n := 2) dX6_isDigit_1 rfl ?_
  refine x_ald0 (n := 3) dX6_isDigit_2 rfl ?_
  refine x_getI (n := 6) flX6_19 rfl dX6_isDigit_3 rfl (lK_Tp hS) ?_
  rw [h1]
  refine x_ic1 (n := 7) dX6_isDigit_6 rfl ?_
  refine x_isub (n := 8) dX6_isDigit_7 rfl ?_
  refine x_cN3 (n := 11) (d' := 0) zcX11_inside mnX6_99 dX6_isDigit_8 rfl (Nat.le_of_ble_eq_true rfl) (Nat.le_of_ble_eq_true rfl) ?_
  refine c_X11_inside (decide (k < t)) (by rw [hs, hkI, show (nI 0).toInt = 0 from rfl]; exact decide_eq_decide.mpr ⟨fun h => ⟨by omega, by omega⟩, fun h => by omega⟩) ?_
  refine x_some ?_
  refine x_zif_eq (n := 14) (tgt := 34) dX6_isDigit_11 rfl (by decide) (fun c_11 => ?_) (fun c_11 => ?_)
  · refine x_ic0 (n := 35) dX6_isDigit_34 rfl ?_
    refine r_zret dX6_isDigit_35 rfl (by first | exact nar0 | exact nar1 | exact zb_nar _) ?_
    first | (rw [c_11, c_27] at hq; exact hq) | (rw [c_11] at hq; exact hq)
  · refine x_ald0 (n := 15) dX6_isDigit_14 rfl ?_
    refine x_getR (n := 18) flX6_9 rfl dX6_isDigit_15 rfl (lK_Tp hS) (lP_bytes hS) ?_
    refine x_ild1 (n := 19) dX6_isDigit_18 rfl ?_
    have hkt : k < t := of_decide_eq_true c_11
    refine x_ialdN (n := 20) dX6_isDigit_19 rfl (lA_bytes hS) (Nat.le_of_ble_eq_true rfl) (by omega) ?_
    refine x_bipush (n := 22) (v := nI 48) dX6_isDigit_20 rfl (by decide) ?_
    refine x_bipush (n := 24) (v := nI 57) dX6_isDigit_22 rfl (by decide) ?_
    refine x_cN3 (n := 27) (d' := 0) zcX11_inside mnX6_99 dX6_isDigit_24 rfl (Nat.le_of_ble_eq_true rfl) (Nat.le_of_ble_eq_true rfl) ?_
    refine c_X11_inside (zin (I 245 k) 48 57) (by unfold zin; rfl) ?_
    refine x_some ?_
    refine x_zif_eq (n := 30) (tgt := 34) dX6_isDigit_27 rfl (by decide) (fun c_27 => ?_) (fun c_27 => ?_)
    · refine x_ic0 (n := 35) dX6_isDigit_34 rfl ?_
      refine r_zret dX6_isDigit_35 rfl (by first | exact nar0 | exact nar1 | exact zb_nar _) ?_
      first | (rw [c_11, c_27] at hq; exact hq) | (rw [c_11] at hq; exact hq)
    · refine x_ic1 (n := 31) dX6_isDigit_30 rfl ?_
      refine x_goto (n := 35) dX6_isDigit_31 (by decide) ?_
      refine r_zret dX6_isDigit_35 rfl (by first | exact nar0 | exact nar1 | exact zb_nar _) ?_
      first | (rw [c_11, c_27] at hq; exact hq) | (rw [c_11] at hq; exact hq)
theorem c_X6_isWordByte (hS : ShL Z) {k : Nat} (h1 : I 244 1 = nI t) (ht : t ≤ 96) (hk : k ≤ 200) (hq : Q (some (.int (zb (isLe (I 245) t k || isDi (I 245) t k)))) Z I) : zM l G mX6_isWordByte 2 0 0 [.ref 244, .int (nI k)] Z I Q := by
  refine x_entry [some (.ref 244), some (.int (nI k))] 0 rfl rfl (Nat.le_of_ble_eq_true rfl) ?_
  refine x_ald0 (n := 1) dX6_isWordByte_0 rfl ?_
  refine x_ild1 (n := 2) dX6_isWordByte_1 rfl ?_
  refine x_cV1 (n := 5) (d' := 1) zcX6_isLetter mlX6_93 dX6_isWordByte_2 rfl (lK_Tp hS) (Nat.le_of_ble_eq_true rfl) (Nat.le_of_ble_eq_true rfl) ?_
  refine c_X6_isLetter hS h1 ht hk ?_
  refine x_some ?_
  refine x_zif_ne (n := 8) (tgt := 16) dX6_isWordByte_5 rfl (by decide) (fun c_5 => ?_) (fun c_5 => ?_)
  · refine x_ic1 (n := 17) dX6_isWordByte_16 rfl ?_
    refine x_goto (n := 21) dX6_isWordByte_17 (by decide) ?_
    refine r_zret dX6_isWordByte_21 rfl (by first | exact nar0 | exact nar1 | exact zb_nar _) ?_
    first | (rw [c_5, c_13] at hq; exact hq) | (rw [c_5] at hq; exact hq)
  · refine x_ald0 (n := 9) dX6_isWordByte_8 rfl ?_
    refine x_ild1 (n := 10) dX6_isWordByte_9 rfl ?_
    refine x_cV1 (n := 13) (d' := 1) zcX6_isDigit mlX6_96 dX6_isWordByte_10 rfl (lK_Tp hS) (Nat.le_of_ble_eq_true rfl) (Nat.le_of_ble_eq_true rfl) ?_
    refine c_X6_isDigit hS h1 ht hk ?_
    refine x_some ?_
    refine x_zif_eq (n := 16) (tgt := 20) dX6_isWordByte_13 rfl (by decide) (fun c_13 => ?_) (fun c_13 => ?_)
    · refine x_ic0 (n := 21) dX6_isWordByte_20 rfl ?_
      refine r_zret dX6_isWordByte_21 rfl (by first | exact nar0 | exact nar1 | exact zb_nar _) ?_
      first | (rw [c_5, c_13] at hq; exact hq) | (rw [c_5] at hq; exact hq)
    · refine x_ic1 (n := 17) dX6_isWordByte_16 rfl ?_
      refine x_goto (n := 21) dX6_isWordByte_17 (by decide) ?_
      refine r_zret dX6_isWordByte_21 rfl (by first | exact nar0 | exact nar1 | exact zb_nar _) ?_
      first | (rw [c_5, c_13] at hq; exact hq) | (rw [c_5] at hq; exact hq)
theorem l_X6_behindBlanks (hS : ShL Z) (h1 : I 244 1 = nI t) (ht : t ≤ 96) {w : Int32} : ∀ n p, p + n = t → Q (some (.int (nI (skB (I 245) n p)))) Z I → zX l G mX6_behindBlanks 0 0 0 2 [some (.ref 244), some (.int w), some (.int (nI p))] [] Z I Q := by
  intro n
  induction n with
  | zero =>
    intro p hp hq
    refine x_ild2 (n := 3) dX6_behindBlanks_2 rfl ?_
    refine x_ald0 (n := 4) dX6_behindBlanks_3 rfl ?_
    refine x_getI (n := 7) flX6_19 rfl dX6_behindBlanks_4 rfl (lK_Tp hS) ?_
    rw [h1]
    refine x_icmpN_ge (n := 10) (tgt := 27) dX6_behindBlanks_7 rfl (by decide) (by omega) (by omega) (fun c_7 => ?_) (fun c_7 => ?_)
    · refine x_ild2 (n := 28) dX6_behindBlanks_27 rfl ?_
      refine r_iret dX6_behindBlanks_28 rfl ?_
      exact hq
    · exact absurd c_7 (by omega)
  | succ n ih =>
    intro p hp hq
    unfold skB at hq
    refine x_ild2 (n := 3) dX6_behindBlanks_2 rfl ?_
    refine x_ald0 (n := 4) dX6_behindBlanks_3 rfl ?_
    refine x_getI (n := 7) flX6_19 rfl dX6_behindBlanks_4 rfl (lK_Tp hS) ?_
    rw [h1]
    refine x_icmpN_ge (n := 10) (tgt := 27) dX6_behindBlanks_7 rfl (by decide) (by omega) (by omega) (fun c_7 => ?_) (fun c_7 => ?_)
    · exact absurd c_7 (by omega)
    · refine x_ald0 (n := 11) dX6_behindBlanks_10 rfl ?_
      refine x_getR (n := 14) flX6_9 rfl dX6_behindBlanks_11 rfl (lK_Tp hS) (lP_bytes hS) ?_
      refine x_ild2 (n := 15) dX6_behindBlanks_14 rfl ?_
      refine x_ialdN (n := 16) dX6_behindBlanks_15 rfl (lA_bytes hS) (Nat.le_of_ble_eq_true rfl) (by omega) ?_
      refine x_bipush (n := 18) (v := nI 32) dX6_behindBlanks_16 rfl (by decide) ?_
      refine x_icmp_ne (n := 21) (tgt := 27) dX6_behindBlanks_18 rfl (by decide) (fun c_18 => ?_) (fun c_18 => ?_)
      · refine x_ild2 (n := 28) dX6_behindBlanks_27 rfl ?_
        refine r_iret dX6_behindBlanks_28 rfl ?_
        rw [if_neg c_18] at hq; exact hq
      · refine x_iincN2 (n := 24) (k := 1) dX6_behindBlanks_21 rfl (by decide) rfl ?_
        refine x_goto (n := 2) dX6_behindBlanks_24 (by decide) ?_
        rw [if_pos c_18] at hq
        exact ih (p + 1) (by omega) hq
theorem c_X6_behindBlanks (hS : ShL Z) (h1 : I 244 1 = nI t) (ht : t ≤ 96) (hq : Q (some (.int (nI (skB (I 245) t 0)))) Z I) : zM l G mX6_behindBlanks 0 0 0 [.ref 244, .int (nI 0)] Z I Q := by
  refine x_entry [some (.ref 244), some (.int (nI 0)), none] 1 rfl rfl (Nat.le_of_ble_eq_true rfl) ?_
  refine x_ild1 (n := 1) dX6_behindBlanks_0 rfl ?_
  refine x_ist2 (n := 2) dX6_behindBlanks_1 rfl (by decide) rfl ?_
  exact l_X6_behindBlanks hS h1 ht t 0 (by omega) hq
theorem l_X6_endOfWord (hS : ShL Z) (h1 : I 244 1 = nI t) (ht : t ≤ 96) {b : Nat} (hb : b ≤ 100) : ∀ n p, p ≤ 101 → t - p = n → Q (some (.int (nI (skW (I 245) t b n p)))) Z I → zX l G mX6_endOfWord 2 0 0 4 [some (.ref 244), some (.int (nI b)), some (.int (nI p))] [] Z I Q := by
  intro n
  induction n with
  | zero =>
    intro p hp hn hq
    refine x_ild2 (n := 5) dX6_endOfWord_4 rfl ?_
    refine x_ald0 (n := 6) dX6_endOfWord_5 rfl ?_
    refine x_getI (n := 9) flX6_19 rfl dX6_endOfWord_6 rfl (lK_Tp hS) ?_
    rw [h1]
    refine x_icmpN_ge (n := 12) (tgt := 50) dX6_endOfWord_9 rfl (by decide) (by omega) (by omega) (fun c_9 => ?_) (fun c_9 => ?_)
    · refine x_ild2 (n := 51) dX6_endOfWord_50 rfl ?_
      refine r_iret dX6_endOfWord_51 rfl ?_
      exact hq
    · exact absurd c_9 (by omega)
  | succ n ih =>
    intro p hp hn hq
    unfold skW at hq
    refine x_ild2 (n := 5) dX6_endOfWord_4 rfl ?_
    refine x_ald0 (n := 6) dX6_endOfWord_5 rfl ?_
    refine x_getI (n := 9) flX6_19 rfl dX6_endOfWord_6 rfl (lK_Tp hS) ?_
    rw [h1]
    refine x_icmpN_ge (n := 12) (tgt := 50) dX6_endOfWord_9 rfl (by decide) (by omega) (by omega) (fun c_9 => ?_) (fun c_9 => ?_)
    · exact absurd c_9 (by omega)
    · refine x_ald0 (n := 13) dX6_endOfWord_12 rfl ?_
      refine x_ild1 (n := 14) dX6_endOfWord_13 rfl ?_
      refine x_cV1 (n := 17) (d' := 1) zcX6_isLetter mlX6_93 dX6_endOfWord_14 rfl (lK_Tp hS) (Nat.le_of_ble_eq_true rfl) (Nat.le_of_ble_eq_true rfl) ?_
      refine c_X6_isLetter hS h1 ht (by omega) ?_
      refine x_some ?_
      refine x_zif_eq (n := 20) (tgt := 28) dX6_endOfWord_17 rfl (by decide) (fun c_17 => ?_) (fun c_17 => ?_)
      · refine x_ald0 (n := 29) dX6_endOfWord_28 rfl ?_
        refine x_ild1 (n := 30) dX6_endOfWord_29 rfl ?_
        refine x_cV1 (n := 33) (d' := 1) zcX6_isDigit mlX6_96 dX6_endOfWord_30 rfl (lK_Tp hS) (Nat.le_of_ble_eq_true rfl) (Nat.le_of_ble_eq_true rfl) ?_
        refine c_X6_isDigit hS h1 ht (by omega) ?_
        refine x_some ?_
        refine x_zif_eq (n := 36) (tgt := 50) dX6_endOfWord_33 rfl (by decide) (fun c_33 => ?_) (fun c_33 => ?_)
        · refine x_ild2 (n := 51) dX6_endOfWord_50 rfl ?_
          refine r_iret dX6_endOfWord_51 rfl ?_
          rw [if_neg (by simp_all)] at hq; exact hq
        · refine x_ald0 (n := 37) dX6_endOfWord_36 rfl ?_
          refine x_ild2 (n := 38) dX6_endOfWord_37 rfl ?_
          refine x_cV1 (n := 41) (d' := 1) zcX6_isDigit mlX6_96 dX6_endOfWord_38 rfl (lK_Tp hS) (Nat.le_of_ble_eq_true rfl) (Nat.le_of_ble_eq_true rfl) ?_
          refine c_X6_isDigit hS h1 ht (by omega) ?_
          refine x_some ?_
          refine x_zif_eq (n := 44) (tgt := 50) dX6_endOfWord_41 rfl (by decide) (fun c_41 => ?_) (fun c_41 => ?_)
          · refine x_ild2 (n := 51) dX6_endOfWord_50 rfl ?_
            refine r_iret dX6_endOfWord_51 rfl ?_
            rw [if_neg (by simp_all)] at hq; exact hq
          · refine x_iincN2 (n := 47) (k := 1) dX6_endOfWord_44 rfl (by decide) rfl ?_
            refine x_goto (n := 4) dX6_endOfWord_47 (by decide) ?_
            rw [if_pos (by simp_all)] at hq
            exact ih (p + 1) (by omega) (by omega) hq
      · refine x_ald0 (n := 21) dX6_endOfWord_20 rfl ?_
        refine x_ild2 (n := 22) dX6_endOfWord_21 rfl ?_
        refine x_cV1 (n := 25) (d' := 1) zcX6_isLetter mlX6_93 dX6_endOfWord_22 rfl (lK_Tp hS) (Nat.le_of_ble_eq_true rfl) (Nat.le_of_ble_eq_true rfl) ?_
        refine c_X6_isLetter hS h1 ht (by omega) ?_
        refine x_some ?_
        refine x_zif_ne (n := 28) (tgt := 44) dX6_endOfWord_25 rfl (by decide) (fun c_25 => ?_) (fun c_25 => ?_)
        · refine x_iincN2 (n := 47) (k := 1) dX6_endOfWord_44 rfl (by decide) rfl ?_
          refine x_goto (n := 4) dX6_endOfWord_47 (by decide) ?_
          rw [if_pos (by simp_all)] at hq
          exact ih (p + 1) (by omega) (by omega) hq
        · refine x_ald0 (n := 29) dX6_endOfWord_28 rfl ?_
          refine x_ild1 (n := 30) dX6_endOfWord_29 rfl ?_
          refine x_cV1 (n := 33) (d' := 1) zcX6_isDigit mlX6_96 dX6_endOfWord_30 rfl (lK_Tp hS) (Nat.le_of_ble_eq_true rfl) (Nat.le_of_ble_eq_true rfl) ?_
          refine c_X6_isDigit hS h1 ht (by omega) ?_
          refine x_some ?_
          refine x_zif_eq (n := 36) (tgt := 50) dX6_endOfWord_33 rfl (by decide) (fun c_33 => ?_) (fun c_33 => ?_)
          · refine x_ild2 (n := 51) dX6_endOfWord_50 rfl ?_
            refine r_iret dX6_endOfWord_51 rfl ?_
            rw [if_neg (by simp_all)] at hq; exact hq
          · refine x_ald0 (n := 37) dX6_endOfWord_36 rfl ?_
            refine x_ild2 (n := 38) dX6_endOfWord_37 rfl ?_
            refine x_cV1 (n := 41) (d' := 1) zcX6_isDigit mlX6_96 dX6_endOfWord_38 rfl (lK_Tp hS) (Nat.le_of_ble_eq_true rfl) (Nat.le_of_ble_eq_true rfl) ?_
            refine c_X6_isDigit hS h1 ht (by omega) ?_
            refine x_some ?_
            refine x_zif_eq (n := 44) (tgt := 50) dX6_endOfWord_41 rfl (by decide) (fun c_41 => ?_) (fun c_41 => ?_)
            · refine x_ild2 (n := 51) dX6_endOfWord_50 rfl ?_
              refine r_iret dX6_endOfWord_51 rfl ?_
              rw [if_neg (by simp_all)] at hq; exact hq
            · refine x_iincN2 (n := 47) (k := 1) dX6_endOfWord_44 rfl (by decide) rfl ?_
              refine x_goto (n := 4) dX6_endOfWord_47 (by decide) ?_
              rw [if_pos (by simp_all)] at hq
              exact ih (p + 1) (by omega) (by omega) hq
theorem c_X6_endOfWord (hS : ShL Z) (h1 : I 244 1 = nI t) (ht : t ≤ 96) {b : Nat} (hb : b ≤ 100) (hq : Q (some (.int (nI (skW (I 245) t b (t - (b + 1)) (b + 1))))) Z I) : zM l G mX6_endOfWord 2 0 0 [.ref 244, .int (nI b)] Z I Q := by
  refine x_entry [some (.ref 244), some (.int (nI b)), none] 1 rfl rfl (Nat.le_of_ble_eq_true rfl) ?_
  refine x_ild1 (n := 1) dX6_endOfWord_0 rfl ?_
  refine x_ic1 (n := 2) dX6_endOfWord_1 rfl ?_
  refine x_iaddN (n := 3) dX6_endOfWord_2 rfl ?_
  refine x_ist2 (n := 4) dX6_endOfWord_3 rfl (by decide) rfl ?_
  exact l_X6_endOfWord hS h1 ht hb _ (b + 1) (by omega) rfl hq
theorem l_X6_takesNumber (hS : ShL Z) {b e : Nat} (he : e ≤ 96) (h4 : e - b ≤ 4) (h : tpS I cd st ob on pt want) (hc : cd.length + st.length < 96) (hb : ∀ c ∈ st, c < 256) (hpt : pt ≤ 96) (hon : (popN st).length ≤ on)
    (hq : ∀ J, tpO I J → tpS J (cd ++ [dgF (I 245) b (e - b)] ++ ngs (popN st)) (rstN st) ob (on - (popN st).length) (pt + 1) false → Q (some (.int (nI 1))) Z J) : ∀ n k, b + k + n = e → zX l G mX6_takesNumber 3 0 0 14 [some (.ref 244), some (.int (nI b)), some (.int (nI e)), some (.int (dgF (I 245) b k)), some (.int (nI (b + k)))] [] Z I Q := by
  intro n
  induction n with
  | zero =>
    intro k hk
    have hke : e - b = k := by omega
    rw [hke] at hq
    refine x_ild4 (n := 16) dX6_takesNumber_14 rfl ?_
    refine x_ild2 (n := 17) dX6_takesNumber_16 rfl ?_
    refine x_icmpN_ge (n := 20) (tgt := 42) dX6_takesNumber_17 rfl (by decide) (by omega) (by omega) (fun c_17 => ?_) (fun c_17 => ?_)
    · refine x_ald0 (n := 43) dX6_takesNumber_42 rfl ?_
      refine x_ild3 (n := 44) dX6_takesNumber_43 rfl ?_
      refine x_cV1 (n := 47) (d' := 2) zcX6_endsPart mlX6_144 dX6_takesNumber_44 rfl (lK_Tp hS) (Nat.le_of_ble_eq_true rfl) (Nat.le_of_ble_eq_true rfl) ?_
      refine c_X6_endsPart hS h hc hb hpt hon (fun J hJ hJs => ?_)
      refine x_some ?_
      refine r_zret dX6_takesNumber_47 rfl (by first | exact nar0 | exact nar1 | exact zb_nar _) ?_
      exact hq J hJ hJs
    · exact absurd c_17 (by omega)
  | succ n ih =>
    intro k hk
    have hst : dgF (I 245) b k * nI 10 + I 245 (b + k) - nI 48 = dgF (I 245) b (k + 1) := by
      conv => rhs; unfold dgF
      rw [if_pos (by omega), Int32.mul_comm]
    refine x_ild4 (n := 16) dX6_takesNumber_14 rfl ?_
    refine x_ild2 (n := 17) dX6_takesNumber_16 rfl ?_
    refine x_icmpN_ge (n := 20) (tgt := 42) dX6_takesNumber_17 rfl (by decide) (by omega) (by omega) (fun c_17 => ?_) (fun c_17 => ?_)
    · exact absurd c_17 (by omega)
    · refine x_ild3 (n := 21) dX6_takesNumber_20 rfl ?_
      refine x_bipush (n := 23) (v := nI 10) dX6_takesNumber_21 rfl (by decide) ?_
      refine x_imul (n := 24) dX6_takesNumber_23 rfl ?_
      refine x_ald0 (n := 25) dX6_takesNumber_24 rfl ?_
      refine x_getR (n := 28) flX6_9 rfl dX6_takesNumber_25 rfl (lK_Tp hS) (lP_bytes hS) ?_
      refine x_ild4 (n := 30) dX6_takesNumber_28 rfl ?_
      refine x_ialdN (n := 31) dX6_takesNumber_30 rfl (lA_bytes hS) (Nat.le_of_ble_eq_true rfl) (by omega) ?_
      refine x_iadd (n := 32) dX6_takesNumber_31 rfl ?_
      refine x_bipush (n := 34) (v := nI 48) dX6_takesNumber_32 rfl (by decide) ?_
      refine x_isub (n := 35) dX6_takesNumber_34 rfl ?_
      rw [hst]
      refine x_ist3 (n := 36) dX6_takesNumber_35 rfl (by decide) rfl ?_
      refine x_iincN4 (n := 39) (k := 1) dX6_takesNumber_36 rfl (by decide) rfl ?_
      refine x_goto (n := 14) dX6_takesNumber_39 (by decide) ?_
      exact ih (k + 1) (by omega)
theorem c_X6_takesNumber (hS : ShL Z) {b e : Nat} (hbe : b ≤ e) (he : e ≤ 96) (h : tpS I cd st ob on pt want) (hc : cd.length + st.length < 96) (hb : ∀ c ∈ st, c < 256) (hpt : pt ≤ 96) (hon : (popN st).length ≤ on) (hq0 : 4 < e - b → Q (some (.int (nI 0))) Z I)
    (hq : e - b ≤ 4 → ∀ J, tpO I J → tpS J (cd ++ [dgF (I 245) b (e - b)] ++ ngs (popN st)) (rstN st) ob (on - (popN st).length) (pt + 1) false → Q (some (.int (nI 1))) Z J) : zM l G mX6_takesNumber 3 0 0 [.ref 244, .int (nI b), .int (nI e)] Z I Q := by
  refine x_entry [some (.ref 244), some (.int (nI b)), some (.int (nI e)), none, none] 2 rfl rfl (Nat.le_of_ble_eq_true rfl) ?_
  refine x_ild2 (n := 1) dX6_takesNumber_0 rfl ?_
  refine x_ild1 (n := 2) dX6_takesNumber_1 rfl ?_
  refine x_isubN (n := 3) dX6_takesNumber_2 rfl (by omega) ?_
  refine x_ic4 (n := 4) dX6_takesNumber_3 rfl ?_
  refine x_icmpN_le (n := 7) (tgt := 9) dX6_takesNumber_4 rfl (by decide) (by omega) (by omega) (fun c_4 => ?_) (fun c_4 => ?_)
  · refine x_ic0 (n := 10) dX6_takesNumber_9 rfl ?_
    refine x_ist3 (n := 11) dX6_takesNumber_10 rfl (by decide) rfl ?_
    refine x_ild1 (n := 12) dX6_takesNumber_11 rfl ?_
    refine x_ist4 (n := 14) dX6_takesNumber_12 rfl (by decide) rfl ?_
    exact l_X6_takesNumber hS he (by omega) h hc hb hpt hon (hq (by omega)) (e - b) 0 (by omega)
  · refine x_ic0 (n := 8) dX6_takesNumber_7 rfl ?_
    refine r_zret dX6_takesNumber_8 rfl (by first | exact nar0 | exact nar1 | exact zb_nar _) ?_
    exact hq0 (by omega)
end
