/-! ===== words ===== -/
def isLe (f : Nat → Int32) (t k : Nat) : Bool := decide (k < t) && zin (f k) 97 122
def isDi (f : Nat → Int32) (t k : Nat) : Bool := decide (k < t) && zin (f k) 48 57
def isNm (key : Nat) (c : Int32) : Bool := if key = 0 then decide (c = nI 107 ∨ c = nI 100 ∨ c = nI 119) else if key = 1 then decide (c = nI 107 ∨ c = nI 121) else if key = 2 then decide (c = nI 110) else decide (c = nI 99 ∨ c = nI 119)
section
variable {l : Launch} {G : zG} {Z : zS} {I : zI} {g : Nat → Int32} {Q : Option Value → zS → zI → Prop}
theorem c_X12_isLetter (hZ : ShR Z) {t k : Nat} (ht : I qR 15 = nI t) (ht2 : t ≤ 96) (hk : k ≤ 200) (hq : Q (some (.int (zb (isLe (I q_tape) t k)))) Z (va_up I q_s g)) : zM l G mX12_isLetter 1 0 0 [.ref qR, .int (nI k)] Z (va_up I q_s g) Q := by
  refine x_entry [some (.ref qR), some (.int (nI k))] 0 rfl rfl (Nat.le_of_ble_eq_true rfl) ?_
  unfold isLe at hq
  refine x_ild1 (n := 1) dX12_isLetter_0 rfl ?_
  refine x_ald0 (n := 2) dX12_isLetter_1 rfl ?_
  refine x_rget (n := 5) flX12_214 rfl dX12_isLetter_2 rfl hZ ?_
  rw [ht]
  refine x_icmpN_ge (n := 8) (tgt := 31) dX12_isLetter_5 rfl (by decide) (by omega) (by omega) (fun c_5 => ?_) (fun c_5 => ?_)
  · refine x_ic0 (n := 32) dX12_isLetter_31 rfl ?_
    refine r_zret dX12_isLetter_32 rfl (by first | exact nar0 | exact nar1 | exact zb_nar _) ?_
    first | exact zq_f hq (by rw [decide_eq_false (by omega)]; rfl) | exact zq_t hq (by rw [decide_eq_true (by omega), c_24]; rfl) | exact zq_f hq (by rw [c_24, Bool.and_false])
  · refine x_ald0 (n := 9) dX12_isLetter_8 rfl ?_
    refine x_getR (n := 12) flX12_49 rfl dX12_isLetter_9 rfl (rK hZ) (rP_tape hZ) ?_
    refine x_ild1 (n := 13) dX12_isLetter_12 rfl ?_
    refine x_old (n := 14) dX12_isLetter_13 rfl (rA_tape hZ) (by decide) (Nat.le_of_ble_eq_true rfl) (by omega) ?_
    refine x_i2l (n := 15) dX12_isLetter_14 rfl ?_
    refine x_ldc2 (n := 18) dX12_isLetter_15 rfl klX12_218 ?_
    refine x_ldc2 (n := 21) dX12_isLetter_18 rfl klX12_220 ?_
    refine x_cS3 (n := 24) (d' := 0) zcX12_isIn mlX12_89 dX12_isLetter_21 rfl (Nat.le_of_ble_eq_true rfl) (Nat.le_of_ble_eq_true rfl) ?_
    refine c_X12_isIn (zin (I q_tape k) 97 122) (by unfold zin; rw [zI64]; rfl) ?_
    refine x_some ?_
    refine x_zif_eq (n := 27) (tgt := 31) dX12_isLetter_24 rfl (by decide) (fun c_24 => ?_) (fun c_24 => ?_)
    · refine x_ic0 (n := 32) dX12_isLetter_31 rfl ?_
      refine r_zret dX12_isLetter_32 rfl (by first | exact nar0 | exact nar1 | exact zb_nar _) ?_
      first | exact zq_f hq (by rw [decide_eq_false (by omega)]; rfl) | exact zq_t hq (by rw [decide_eq_true (by omega), c_24]; rfl) | exact zq_f hq (by rw [c_24, Bool.and_false])
    · refine x_ic1 (n := 28) dX12_isLetter_27 rfl ?_
      refine x_goto (n := 32) dX12_isLetter_28 (by decide) ?_
      refine r_zret dX12_isLetter_32 rfl (by first | exact nar0 | exact nar1 | exact zb_nar _) ?_
      first | exact zq_f hq (by rw [decide_eq_false (by omega)]; rfl) | exact zq_t hq (by rw [decide_eq_true (by omega), c_24]; rfl) | exact zq_f hq (by rw [c_24, Bool.and_false])
theorem c_X12_isDigit (hZ : ShR Z) {t k : Nat} (ht : I qR 15 = nI t) (ht2 : t ≤ 96) (hk : k ≤ 200) (hq : Q (some (.int (zb (isDi (I q_tape) t k)))) Z (va_up I q_s g)) : zM l G mX12_isDigit 1 0 0 [.ref qR, .int (nI k)] Z (va_up I q_s g) Q := by
  refine x_entry [some (.ref qR), some (.int (nI k))] 0 rfl rfl (Nat.le_of_ble_eq_true rfl) ?_
  unfold isDi at hq
  refine x_ild1 (n := 1) dX12_isDigit_0 rfl ?_
  refine x_ald0 (n := 2) dX12_isDigit_1 rfl ?_
  refine x_rget (n := 5) flX12_214 rfl dX12_isDigit_2 rfl hZ ?_
  rw [ht]
  refine x_icmpN_ge (n := 8) (tgt := 31) dX12_isDigit_5 rfl (by decide) (by omega) (by omega) (fun c_5 => ?_) (fun c_5 => ?_)
  · refine x_ic0 (n := 32) dX12_isDigit_31 rfl ?_
    refine r_zret dX12_isDigit_32 rfl (by first | exact nar0 | exact nar1 | exact zb_nar _) ?_
    first | exact zq_f hq (by rw [decide_eq_false (by omega)]; rfl) | exact zq_t hq (by rw [decide_eq_true (by omega), c_24]; rfl) | exact zq_f hq (by rw [c_24, Bool.and_false])
  · refine x_ald0 (n := 9) dX12_isDigit_8 rfl ?_
    refine x_getR (n := 12) flX12_49 rfl dX12_isDigit_9 rfl (rK hZ) (rP_tape hZ) ?_
    refine x_ild1 (n := 13) dX12_isDigit_12 rfl ?_
    refine x_old (n := 14) dX12_isDigit_13 rfl (rA_tape hZ) (by decide) (Nat.le_of_ble_eq_true rfl) (by omega) ?_
    refine x_i2l (n := 15) dX12_isDigit_14 rfl ?_
    refine x_ldc2 (n := 18) dX12_isDigit_15 rfl klX12_222 ?_
    refine x_ldc2 (n := 21) dX12_isDigit_18 rfl klX12_224 ?_
    refine x_cS3 (n := 24) (d' := 0) zcX12_isIn mlX12_89 dX12_isDigit_21 rfl (Nat.le_of_ble_eq_true rfl) (Nat.le_of_ble_eq_true rfl) ?_
    refine c_X12_isIn (zin (I q_tape k) 48 57) (by unfold zin; rw [zI64]; rfl) ?_
    refine x_some ?_
    refine x_zif_eq (n := 27) (tgt := 31) dX12_isDigit_24 rfl (by decide) (fun c_24 => ?_) (fun c_24 => ?_)
    · refine x_ic0 (n := 32) dX12_isDigit_31 rfl ?_
      refine r_zret dX12_isDigit_32 rfl (by first | exact nar0 | exact nar1 | exact zb_nar _) ?_
      first | exact zq_f hq (by rw [decide_eq_false (by omega)]; rfl) | exact zq_t hq (by rw [decide_eq_true (by omega), c_24]; rfl) | exact zq_f hq (by rw [c_24, Bool.and_false])
    · refine x_ic1 (n := 28) dX12_isDigit_27 rfl ?_
      refine x_goto (n := 32) dX12_isDigit_28 (by decide) ?_
      refine r_zret dX12_isDigit_32 rfl (by first | exact nar0 | exact nar1 | exact zb_nar _) ?_
      first | exact zq_f hq (by rw [decide_eq_false (by omega)]; rfl) | exact zq_t hq (by rw [decide_eq_true (by omega), c_24]; rfl) | exact zq_f hq (by rw [c_24, Bool.and_false])
theorem c_X12_isSign (hZ : ShR Z) {c : Int32} (hq : Q (some (.int (zb (decide (I qR 18 = nI 3 ∧ I qR 20 = c))))) Z (va_up I q_s g)) : zM l G mX12_isSign 0 0 0 [.ref qR, .int c] Z (va_up I q_s g) Q := by
  refine x_entry [some (.ref qR), some (.int c)] 0 rfl rfl (Nat.le_of_ble_eq_true rfl) ?_
  refine x_ald0 (n := 1) dX12_isSign_0 rfl ?_
  refine x_rget (n := 4) flX12_229 rfl dX12_isSign_1 rfl hZ ?_
  refine x_ic3 (n := 5) dX12_isSign_4 rfl ?_
  refine x_icmp_ne (n := 8) (tgt := 20) dX12_isSign_5 rfl (by decide) (fun c_5 => ?_) (fun c_5 => ?_)
  · refine x_ic0 (n := 21) dX12_isSign_20 rfl ?_
    refine r_zret dX12_isSign_21 rfl (by first | exact nar0 | exact nar1 | exact zb_nar _) ?_
    first | exact zq_t hq (decide_eq_true ⟨c_5, c_13⟩) | exact zq_f hq (decide_eq_false (fun h => c_5 h.1)) | exact zq_f hq (decide_eq_false (fun h => c_13 h.2))
  · refine x_ald0 (n := 9) dX12_isSign_8 rfl ?_
    refine x_rget (n := 12) flX12_238 rfl dX12_isSign_9 rfl hZ ?_
    refine x_ild1 (n := 13) dX12_isSign_12 rfl ?_
    refine x_icmp_ne (n := 16) (tgt := 20) dX12_isSign_13 rfl (by decide) (fun c_13 => ?_) (fun c_13 => ?_)
    · refine x_ic0 (n := 21) dX12_isSign_20 rfl ?_
      refine r_zret dX12_isSign_21 rfl (by first | exact nar0 | exact nar1 | exact zb_nar _) ?_
      first | exact zq_t hq (decide_eq_true ⟨c_5, c_13⟩) | exact zq_f hq (decide_eq_false (fun h => c_5 h.1)) | exact zq_f hq (decide_eq_false (fun h => c_13 h.2))
    · refine x_ic1 (n := 17) dX12_isSign_16 rfl ?_
      refine x_goto (n := 21) dX12_isSign_17 (by decide) ?_
      refine r_zret dX12_isSign_21 rfl (by first | exact nar0 | exact nar1 | exact zb_nar _) ?_
      first | exact zq_t hq (decide_eq_true ⟨c_5, c_13⟩) | exact zq_f hq (decide_eq_false (fun h => c_5 h.1)) | exact zq_f hq (decide_eq_false (fun h => c_13 h.2))
theorem c_X12_isName {key : Nat} {c : Int32} (hk : key < 4) (hq : Q (some (.int (zb (isNm key c)))) Z I) : zM l G mX12_isName 0 0 0 [.int (nI key), .int c] Z I Q := by
  refine x_entry [some (.int (nI key)), some (.int c)] 0 rfl rfl (Nat.le_of_ble_eq_true rfl) ?_
  unfold isNm at hq
  rcases (by omega : key = 0 ∨ key = 1 ∨ key = 2 ∨ key = 3) with rfl | rfl | rfl | rfl
  · rw [if_pos rfl] at hq
    refine x_ild0 (n := 1) dX12_isName_0 rfl ?_
    refine x_tswI (n := 28) (off := 27) dX12_isName_1 (by decide) (by decide) (by decide +kernel) (by decide) ?_
    refine x_ild1 (n := 29) dX12_isName_28 rfl ?_
    refine x_bipush (n := 31) (v := nI 107) dX12_isName_29 rfl (by decide) ?_
    refine x_icmp_eq (n := 34) (tgt := 46) dX12_isName_31 rfl (by decide) (fun c_31 => ?_) (fun c_31 => ?_)
    · refine x_ic1 (n := 47) dX12_isName_46 rfl ?_
      refine x_goto (n := 51) dX12_isName_47 (by decide) ?_
      refine r_zret dX12_isName_51 rfl (by first | exact nar0 | exact nar1 | exact zb_nar _) ?_
      first | exact zq_t hq (decide_eq_true (by grind)) | exact zq_f hq (decide_eq_false (by grind))
    · refine x_ild1 (n := 35) dX12_isName_34 rfl ?_
      refine x_bipush (n := 37) (v := nI 100) dX12_isName_35 rfl (by decide) ?_
      refine x_icmp_eq (n := 40) (tgt := 46) dX12_isName_37 rfl (by decide) (fun c_37 => ?_) (fun c_37 => ?_)
      · refine x_ic1 (n := 47) dX12_isName_46 rfl ?_
        refine x_goto (n := 51) dX12_isName_47 (by decide) ?_
        refine r_zret dX12_isName_51 rfl (by first | exact nar0 | exact nar1 | exact zb_nar _) ?_
        first | exact zq_t hq (decide_eq_true (by grind)) | exact zq_f hq (decide_eq_false (by grind))
      · refine x_ild1 (n := 41) dX12_isName_40 rfl ?_
        refine x_bipush (n := 43) (v := nI 119) dX12_isName_41 rfl (by decide) ?_
        refine x_icmp_ne (n := 46) (tgt := 50) dX12_isName_43 rfl (by decide) (fun c_43 => ?_) (fun c_43 => ?_)
        · refine x_ic0 (n := 51) dX12_isName_50 rfl ?_
          refine r_zret dX12_isName_51 rfl (by first | exact nar0 | exact nar1 | exact zb_nar _) ?_
          first | exact zq_t hq (decide_eq_true (by grind)) | exact zq_f hq (decide_eq_false (by grind))
        · refine x_ic1 (n := 47) dX12_isName_46 rfl ?_
          refine x_goto (n := 51) dX12_isName_47 (by decide) ?_
          refine r_zret dX12_isName_51 rfl (by first | exact nar0 | exact nar1 | exact zb_nar _) ?_
          first | exact zq_t hq (decide_eq_true (by grind)) | exact zq_f hq (decide_eq_false (by grind))
  · rw [if_neg (by decide), if_pos rfl] at hq
    refine x_ild0 (n := 1) dX12_isName_0 rfl ?_
    refine x_tswI (n := 52) (off := 51) dX12_isName_1 (by decide) (by decide) (by decide +kernel) (by decide) ?_
    refine x_ild1 (n := 53) dX12_isName_52 rfl ?_
    refine x_bipush (n := 55) (v := nI 107) dX12_isName_53 rfl (by decide) ?_
    refine x_icmp_eq (n := 58) (tgt := 64) dX12_isName_55 rfl (by decide) (fun c_55 => ?_) (fun c_55 => ?_)
    · refine x_ic1 (n := 65) dX12_isName_64 rfl ?_
      refine x_goto (n := 69) dX12_isName_65 (by decide) ?_
      refine r_zret dX12_isName_69 rfl (by first | exact nar0 | exact nar1 | exact zb_nar _) ?_
      first | exact zq_t hq (decide_eq_true (by grind)) | exact zq_f hq (decide_eq_false (by grind))
    · refine x_ild1 (n := 59) dX12_isName_58 rfl ?_
      refine x_bipush (n := 61) (v := nI 121) dX12_isName_59 rfl (by decide) ?_
      refine x_icmp_ne (n := 64) (tgt := 68) dX12_isName_61 rfl (by decide) (fun c_61 => ?_) (fun c_61 => ?_)
      · refine x_ic0 (n := 69) dX12_isName_68 rfl ?_
        refine r_zret dX12_isName_69 rfl (by first | exact nar0 | exact nar1 | exact zb_nar _) ?_
        first | exact zq_t hq (decide_eq_true (by grind)) | exact zq_f hq (decide_eq_false (by grind))
      · refine x_ic1 (n := 65) dX12_isName_64 rfl ?_
        refine x_goto (n := 69) dX12_isName_65 (by decide) ?_
        refine r_zret dX12_isName_69 rfl (by first | exact nar0 | exact nar1 | exact zb_nar _) ?_
        first | exact zq_t hq (decide_eq_true (by grind)) | exact zq_f hq (decide_eq_false (by grind))
  · rw [if_neg (by decide), if_neg (by decide), if_pos rfl] at hq
    refine x_ild0 (n := 1) dX12_isName_0 rfl ?_
    refine x_tswI (n := 70) (off := 69) dX12_isName_1 (by decide) (by decide) (by decide +kernel) (by decide) ?_
    refine x_ild1 (n := 71) dX12_isName_70 rfl ?_
    refine x_bipush (n := 73) (v := nI 110) dX12_isName_71 rfl (by decide) ?_
    refine x_icmp_ne (n := 76) (tgt := 80) dX12_isName_73 rfl (by decide) (fun c_73 => ?_) (fun c_73 => ?_)
    · refine x_ic0 (n := 81) dX12_isName_80 rfl ?_
      refine r_zret dX12_isName_81 rfl (by first | exact nar0 | exact nar1 | exact zb_nar _) ?_
      first | exact zq_t hq (decide_eq_true c_73) | exact zq_f hq (decide_eq_false c_73)
    · refine x_ic1 (n := 77) dX12_isName_76 rfl ?_
      refine x_goto (n := 81) dX12_isName_77 (by decide) ?_
      refine r_zret dX12_isName_81 rfl (by first | exact nar0 | exact nar1 | exact zb_nar _) ?_
      first | exact zq_t hq (decide_eq_true c_73) | exact zq_f hq (decide_eq_false c_73)
  · rw [if_neg (by decide), if_neg (by decide), if_neg (by decide)] at hq
    refine x_ild0 (n := 1) dX12_isName_0 rfl ?_
    refine x_tswO (n := 82) dX12_isName_1 (by decide) (by decide) ?_
    refine x_ild1 (n := 83) dX12_isName_82 rfl ?_
    refine x_bipush (n := 85) (v := nI 99) dX12_isName_83 rfl (by decide) ?_
    refine x_icmp_eq (n := 88) (tgt := 94) dX12_isName_85 rfl (by decide) (fun c_85 => ?_) (fun c_85 => ?_)
    · refine x_ic1 (n := 95) dX12_isName_94 rfl ?_
      refine x_goto (n := 99) dX12_isName_95 (by decide) ?_
      refine r_zret dX12_isName_99 rfl (by first | exact nar0 | exact nar1 | exact zb_nar _) ?_
      first | exact zq_t hq (decide_eq_true (by grind)) | exact zq_f hq (decide_eq_false (by grind))
    · refine x_ild1 (n := 89) dX12_isName_88 rfl ?_
      refine x_bipush (n := 91) (v := nI 119) dX12_isName_89 rfl (by decide) ?_
      refine x_icmp_ne (n := 94) (tgt := 98) dX12_isName_91 rfl (by decide) (fun c_91 => ?_) (fun c_91 => ?_)
      · refine x_ic0 (n := 99) dX12_isName_98 rfl ?_
        refine r_zret dX12_isName_99 rfl (by first | exact nar0 | exact nar1 | exact zb_nar _) ?_
        first | exact zq_t hq (decide_eq_true (by grind)) | exact zq_f hq (decide_eq_false (by grind))
      · refine x_ic1 (n := 95) dX12_isName_94 rfl ?_
        refine x_goto (n := 99) dX12_isName_95 (by decide) ?_
        refine r_zret dX12_isName_99 rfl (by first | exact nar0 | exact nar1 | exact zb_nar _) ?_
        first | exact zq_t hq (decide_eq_true (by grind)) | exact zq_f hq (decide_eq_false (by grind))
theorem c_X12_step (hZ : ShR Z) {A n : Nat} {x v : Int32} (hA : I qR 24 = nI A) (hn : I qR 23 = nI n) (hb : A + 2 * n + 1 < 5530) (hq : Q none Z (va_up (va_up I qR (upd (I qR) 23 (nI (n + 1)))) q_s (upd (upd g (A + 2 * n) x) (A + 2 * n + 1) v))) : zM l G mX12_step 0 0 0 [.ref qR, .int x, .int v] Z (va_up I q_s g) Q := by
  refine x_entry [some (.ref qR), some (.int x), some (.int v)] 0 rfl rfl (Nat.le_of_ble_eq_true rfl) ?_
  refine x_ald0 (n := 1) dX12_step_0 rfl ?_
  refine x_getR (n := 4) flX12_7 rfl dX12_step_1 rfl (rK hZ) (rP_s hZ) ?_
  refine x_ald0 (n := 5) dX12_step_4 rfl ?_
  refine x_rget (n := 8) flX12_255 rfl dX12_step_5 rfl hZ ?_
  rw [hA]
  refine x_ic2 (n := 9) dX12_step_8 rfl ?_
  refine x_ald0 (n := 10) dX12_step_9 rfl ?_
  refine x_rget (n := 13) flX12_258 rfl dX12_step_10 rfl hZ ?_
  rw [hn]
  refine x_imulN (n := 14) dX12_step_13 rfl ?_
  refine x_iaddN (n := 15) dX12_step_14 rfl ?_
  refine x_ild1 (n := 16) dX12_step_15 rfl ?_
  refine x_sst (n := 17) dX12_step_16 rfl hZ (by omega) ?_
  refine x_ald0 (n := 18) dX12_step_17 rfl ?_
  refine x_getR (n := 21) flX12_7 rfl dX12_step_18 rfl (rK hZ) (rP_s hZ) ?_
  refine x_ald0 (n := 22) dX12_step_21 rfl ?_
  refine x_rget (n := 25) flX12_255 rfl dX12_step_22 rfl hZ ?_
  rw [hA]
  refine x_ic2 (n := 26) dX12_step_25 rfl ?_
  refine x_ald0 (n := 27) dX12_step_26 rfl ?_
  refine x_rget (n := 30) flX12_258 rfl dX12_step_27 rfl hZ ?_
  rw [hn]
  refine x_imulN (n := 31) dX12_step_30 rfl ?_
  refine x_iaddN (n := 32) dX12_step_31 rfl ?_
  refine x_ic1 (n := 33) dX12_step_32 rfl ?_
  refine x_iaddN (n := 34) dX12_step_33 rfl ?_
  refine x_ild2 (n := 35) dX12_step_34 rfl ?_
  refine x_sst (n := 36) dX12_step_35 rfl hZ (by omega) ?_
  refine x_ald0 (n := 37) dX12_step_36 rfl ?_
  refine x_dup (n := 38) dX12_step_37 rfl rfl ?_
  refine x_rget (n := 41) flX12_258 rfl dX12_step_38 rfl hZ ?_
  rw [hn]
  refine x_ic1 (n := 42) dX12_step_41 rfl ?_
  refine x_iaddN (n := 43) dX12_step_42 rfl ?_
  refine x_rput (n := 46) flX12_258 rfl rfl rfl rfl dX12_step_43 rfl hZ ?_
  refine r_vret dX12_step_46 rfl ?_
  exact hq
end
