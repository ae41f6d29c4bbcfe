/-- the key that the word from b to e is; none -/
def keyF (f : Nat → Int32) (tok : Int32) (b e : Nat) : Option Nat := if wrd f tok b e [108, 97, 116, 101] = true then some 2 else if wrd f tok b e [99, 108, 97, 105, 109] = true then some 3 else if wrd f tok b e [112, 114, 105, 99, 101] = true then some 0 else if wrd f tok b e [114, 101, 116, 97, 105, 110] = true then some 1 else none
section
variable {l : Launch} {G : zG} {Z : zS} {I : zI} {g : Nat → Int32} {Q : Option Value → zS → zI → Prop}
theorem c_X12_key (hZ : ShR Z) {b e : Nat} (hb : I qR 16 = nI b) (he : I qR 17 = nI e) (hbe : b ≤ e) (he2 : e ≤ 96) (hq : Q (some (.int (oI (keyF (I q_tape) (I qR 18) b e)))) Z (va_up I q_s g)) : zM l G mX12_key 1 0 0 [.ref qR] Z (va_up I q_s g) Q := by
  refine x_entry [some (.ref qR), none] 1 rfl rfl (Nat.le_of_ble_eq_true rfl) ?_
  unfold keyF at hq
  refine x_ald0 (n := 1) dX12_key_0 rfl ?_
  refine x_bipush (n := 3) (v := nI 112) dX12_key_1 rfl (by decide) ?_
  refine x_bipush (n := 5) (v := nI 114) dX12_key_3 rfl (by decide) ?_
  refine x_bipush (n := 7) (v := nI 105) dX12_key_5 rfl (by decide) ?_
  refine x_bipush (n := 9) (v := nI 99) dX12_key_7 rfl (by decide) ?_
  refine x_bipush (n := 11) (v := nI 101) dX12_key_9 rfl (by decide) ?_
  refine x_ic0 (n := 12) dX12_key_11 rfl ?_
  refine x_cV6 (n := 15) (d' := 0) zcX12_isLong mlX12_247 dX12_key_12 rfl (rK hZ) (Nat.le_of_ble_eq_true rfl) (Nat.le_of_ble_eq_true rfl) ?_
  refine c_isLong5 hZ hb he hbe he2 ?_
  refine x_some ?_
  refine x_zif_eq (n := 18) (tgt := 22) dX12_key_15 rfl (by decide) (fun c_15 => ?_) (fun c_15 => ?_)
  · refine x_ald0 (n := 23) dX12_key_22 rfl ?_
    refine x_bipush (n := 25) (v := nI 114) dX12_key_23 rfl (by decide) ?_
    refine x_bipush (n := 27) (v := nI 101) dX12_key_25 rfl (by decide) ?_
    refine x_bipush (n := 29) (v := nI 116) dX12_key_27 rfl (by decide) ?_
    refine x_bipush (n := 31) (v := nI 97) dX12_key_29 rfl (by decide) ?_
    refine x_bipush (n := 33) (v := nI 105) dX12_key_31 rfl (by decide) ?_
    refine x_bipush (n := 35) (v := nI 110) dX12_key_33 rfl (by decide) ?_
    refine x_cV6 (n := 38) (d' := 0) zcX12_isLong mlX12_247 dX12_key_35 rfl (rK hZ) (Nat.le_of_ble_eq_true rfl) (Nat.le_of_ble_eq_true rfl) ?_
    refine c_isLong6 hZ (by omega) (by omega) hb he hbe he2 ?_
    refine x_some ?_
    refine x_zif_eq (n := 41) (tgt := 45) dX12_key_38 rfl (by decide) (fun c_38 => ?_) (fun c_38 => ?_)
    · refine x_icm1 (n := 46) dX12_key_45 rfl ?_
      refine x_ist1 (n := 47) dX12_key_46 rfl (by decide) rfl ?_
      refine x_ald0 (n := 48) dX12_key_47 rfl ?_
      refine x_bipush (n := 50) (v := nI 108) dX12_key_48 rfl (by decide) ?_
      refine x_bipush (n := 52) (v := nI 97) dX12_key_50 rfl (by decide) ?_
      refine x_bipush (n := 54) (v := nI 116) dX12_key_52 rfl (by decide) ?_
      refine x_bipush (n := 56) (v := nI 101) dX12_key_54 rfl (by decide) ?_
      refine x_cV4 (n := 59) (d' := 0) zcX12_isWordAt mlX12_251 dX12_key_56 rfl (rK hZ) (Nat.le_of_ble_eq_true rfl) (Nat.le_of_ble_eq_true rfl) ?_
      refine c_X12_isWordAt hZ hb he hbe he2 ?_
      refine x_some ?_
      refine x_zif_eq (n := 62) (tgt := 66) dX12_key_59 rfl (by decide) (fun c_59 => ?_) (fun c_59 => ?_)
      · refine x_ald0 (n := 67) dX12_key_66 rfl ?_
        refine x_bipush (n := 69) (v := nI 99) dX12_key_67 rfl (by decide) ?_
        refine x_bipush (n := 71) (v := nI 108) dX12_key_69 rfl (by decide) ?_
        refine x_bipush (n := 73) (v := nI 97) dX12_key_71 rfl (by decide) ?_
        refine x_bipush (n := 75) (v := nI 105) dX12_key_73 rfl (by decide) ?_
        refine x_bipush (n := 77) (v := nI 109) dX12_key_75 rfl (by decide) ?_
        refine x_ic0 (n := 78) dX12_key_77 rfl ?_
        refine x_cV6 (n := 81) (d' := 0) zcX12_isLong mlX12_247 dX12_key_78 rfl (rK hZ) (Nat.le_of_ble_eq_true rfl) (Nat.le_of_ble_eq_true rfl) ?_
        refine c_isLong5 hZ hb he hbe he2 ?_
        refine x_some ?_
        refine x_zif_eq (n := 84) (tgt := 88) dX12_key_81 rfl (by decide) (fun c_81 => ?_) (fun c_81 => ?_)
        · refine x_ild1 (n := 89) dX12_key_88 rfl ?_
          refine r_iret dX12_key_89 rfl ?_
          refine zq_e hq ?_
          first | (rw [if_pos c_59]; rfl) | (rw [if_neg (by rw [c_59]; decide), if_pos c_81]; rfl) | (rw [if_neg (by rw [c_59]; decide), if_neg (by rw [c_81]; decide), if_pos c_15]; rfl) | (rw [if_neg (by rw [c_59]; decide), if_neg (by rw [c_81]; decide), if_neg (by rw [c_15]; decide), if_pos c_38]; rfl) | (rw [if_neg (by rw [c_59]; decide), if_neg (by rw [c_81]; decide), if_neg (by rw [c_15]; decide), if_neg (by rw [c_38]; decide)]; rfl)
        · refine x_ic3 (n := 85) dX12_key_84 rfl ?_
          refine x_goto (n := 89) dX12_key_85 (by decide) ?_
          refine r_iret dX12_key_89 rfl ?_
          refine zq_e hq ?_
          first | (rw [if_pos c_59]; rfl) | (rw [if_neg (by rw [c_59]; decide), if_pos c_81]; rfl) | (rw [if_neg (by rw [c_59]; decide), if_neg (by rw [c_81]; decide), if_pos c_15]; rfl) | (rw [if_neg (by rw [c_59]; decide), if_neg (by rw [c_81]; decide), if_neg (by rw [c_15]; decide), if_pos c_38]; rfl) | (rw [if_neg (by rw [c_59]; decide), if_neg (by rw [c_81]; decide), if_neg (by rw [c_15]; decide), if_neg (by rw [c_38]; decide)]; rfl)
      · refine x_ic2 (n := 63) dX12_key_62 rfl ?_
        refine x_goto (n := 89) dX12_key_63 (by decide) ?_
        refine r_iret dX12_key_89 rfl ?_
        refine zq_e hq ?_
        first | (rw [if_pos c_59]; rfl) | (rw [if_neg (by rw [c_59]; decide), if_pos c_81]; rfl) | (rw [if_neg (by rw [c_59]; decide), if_neg (by rw [c_81]; decide), if_pos c_15]; rfl) | (rw [if_neg (by rw [c_59]; decide), if_neg (by rw [c_81]; decide), if_neg (by rw [c_15]; decide), if_pos c_38]; rfl) | (rw [if_neg (by rw [c_59]; decide), if_neg (by rw [c_81]; decide), if_neg (by rw [c_15]; decide), if_neg (by rw [c_38]; decide)]; rfl)
    · refine x_ic1 (n := 42) dX12_key_41 rfl ?_
      refine x_goto (n := 46) dX12_key_42 (by decide) ?_
      refine x_ist1 (n := 47) dX12_key_46 rfl (by decide) rfl ?_
      refine x_ald0 (n := 48) dX12_key_47 rfl ?_
      refine x_bipush (n := 50) (v := nI 108) dX12_key_48 rfl (by decide) ?_
      refine x_bipush (n := 52) (v := nI 97) dX12_key_50 rfl (by decide) ?_
      refine x_bipush (n := 54) (v := nI 116) dX12_key_52 rfl (by decide) ?_
      refine x_bipush (n := 56) (v := nI 101) dX12_key_54 rfl (by decide) ?_
      refine x_cV4 (n := 59) (d' := 0) zcX12_isWordAt mlX12_251 dX12_key_56 rfl (rK hZ) (Nat.le_of_ble_eq_true rfl) (Nat.le_of_ble_eq_true rfl) ?_
      refine c_X12_isWordAt hZ hb he hbe he2 ?_
      refine x_some ?_
      refine x_zif_eq (n := 62) (tgt := 66) dX12_key_59 rfl (by decide) (fun c_59 => ?_) (fun c_59 => ?_)
      · refine x_ald0 (n := 67) dX12_key_66 rfl ?_
        refine x_bipush (n := 69) (v := nI 99) dX12_key_67 rfl (by decide) ?_
        refine x_bipush (n := 71) (v := nI 108) dX12_key_69 rfl (by decide) ?_
        refine x_bipush (n := 73) (v := nI 97) dX12_key_71 rfl (by decide) ?_
        refine x_bipush (n := 75) (v := nI 105) dX12_key_73 rfl (by decide) ?_
        refine x_bipush (n := 77) (v := nI 109) dX12_key_75 rfl (by decide) ?_
        refine x_ic0 (n := 78) dX12_key_77 rfl ?_
        refine x_cV6 (n := 81) (d' := 0) zcX12_isLong mlX12_247 dX12_key_78 rfl (rK hZ) (Nat.le_of_ble_eq_true rfl) (Nat.le_of_ble_eq_true rfl) ?_
        refine c_isLong5 hZ hb he hbe he2 ?_
        refine x_some ?_
        refine x_zif_eq (n := 84) (tgt := 88) dX12_key_81 rfl (by decide) (fun c_81 => ?_) (fun c_81 => ?_)
        · refine x_ild1 (n := 89) dX12_key_88 rfl ?_
          refine r_iret dX12_key_89 rfl ?_
          refine zq_e hq ?_
          first | (rw [if_pos c_59]; rfl) | (rw [if_neg (by rw [c_59]; decide), if_pos c_81]; rfl) | (rw [if_neg (by rw [c_59]; decide), if_neg (by rw [c_81]; decide), if_pos c_15]; rfl) | (rw [if_neg (by rw [c_59]; decide), if_neg (by rw [c_81]; decide), if_neg (by rw [c_15]; decide), if_pos c_38]; rfl) | (rw [if_neg (by rw [c_59]; decide), if_neg (by rw [c_81]; decide), if_neg (by rw [c_15]; decide), if_neg (by rw [c_38]; decide)]; rfl)
        · refine x_ic3 (n := 85) dX12_key_84 rfl ?_
          refine x_goto (n := 89) dX12_key_85 (by decide) ?_
          refine r_iret dX12_key_89 rfl ?_
          refine zq_e hq ?_
          first | (rw [if_pos c_59]; rfl) | (rw [if_neg (by rw [c_59]; decide), if_pos c_81]; rfl) | (rw [if_neg (by rw [c_59]; decide), if_neg (by rw [c_81]; decide), if_pos c_15]; rfl) | (rw [if_neg (by rw [c_59]; decide), if_neg (by rw [c_81]; decide), if_neg (by rw [c_15]; decide), if_pos c_38]; rfl) | (rw [if_neg (by rw [c_59]; decide), if_neg (by rw [c_81]; decide), if_neg (by rw [c_15]; decide), if_neg (by rw [c_38]; decide)]; rfl)
      · refine x_ic2 (n := 63) dX12_key_62 rfl ?_
        refine x_goto (n := 89) dX12_key_63 (by decide) ?_
        refine r_iret dX12_key_89 rfl ?_
        refine zq_e hq ?_
        first | (rw [if_pos c_59]; rfl) | (rw [if_neg (by rw [c_59]; decide), if_pos c_81]; rfl) | (rw [if_neg (by rw [c_59]; decide), if_neg (by rw [c_81]; decide), if_pos c_15]; rfl) | (rw [if_neg (by rw [c_59]; decide), if_neg (by rw [c_81]; decide), if_neg (by rw [c_15]; decide), if_pos c_38]; rfl) | (rw [if_neg (by rw [c_59]; decide), if_neg (by rw [c_81]; decide), if_neg (by rw [c_15]; decide), if_neg (by rw [c_38]; decide)]; rfl)
  · refine x_ic0 (n := 19) dX12_key_18 rfl ?_
    refine x_goto (n := 46) dX12_key_19 (by decide) ?_
    refine x_ist1 (n := 47) dX12_key_46 rfl (by decide) rfl ?_
    refine x_ald0 (n := 48) dX12_key_47 rfl ?_
    refine x_bipush (n := 50) (v := nI 108) dX12_key_48 rfl (by decide) ?_
    refine x_bipush (n := 52) (v := nI 97) dX12_key_50 rfl (by decide) ?_
    refine x_bipush (n := 54) (v := nI 116) dX12_key_52 rfl (by decide) ?_
    refine x_bipush (n := 56) (v := nI 101) dX12_key_54 rfl (by decide) ?_
    refine x_cV4 (n := 59) (d' := 0) zcX12_isWordAt mlX12_251 dX12_key_56 rfl (rK hZ) (Nat.le_of_ble_eq_true rfl) (Nat.le_of_ble_eq_true rfl) ?_
    refine c_X12_isWordAt hZ hb he hbe he2 ?_
    refine x_some ?_
    refine x_zif_eq (n := 62) (tgt := 66) dX12_key_59 rfl (by decide) (fun c_59 => ?_) (fun c_59 => ?_)
    · refine x_ald0 (n := 67) dX12_key_66 rfl ?_
      refine x_bipush (n := 69) (v := nI 99) dX12_key_67 rfl (by decide) ?_
      refine x_bipush (n := 71) (v := nI 108) dX12_key_69 rfl (by decide) ?_
      refine x_bipush (n := 73) (v := nI 97) dX12_key_71 rfl (by decide) ?_
      refine x_bipush (n := 75) (v := nI 105) dX12_key_73 rfl (by decide) ?_
      refine x_bipush (n := 77) (v := nI 109) dX12_key_75 rfl (by decide) ?_
      refine x_ic0 (n := 78) dX12_key_77 rfl ?_
      refine x_cV6 (n := 81) (d' := 0) zcX12_isLong mlX12_247 dX12_key_78 rfl (rK hZ) (Nat.le_of_ble_eq_true rfl) (Nat.le_of_ble_eq_true rfl) ?_
      refine c_isLong5 hZ hb he hbe he2 ?_
      refine x_some ?_
      refine x_zif_eq (n := 84) (tgt := 88) dX12_key_81 rfl (by decide) (fun c_81 => ?_) (fun c_81 => ?_)
      · refine x_ild1 (n := 89) dX12_key_88 rfl ?_
        refine r_iret dX12_key_89 rfl ?_
        refine zq_e hq ?_
        first | (rw [if_pos c_59]; rfl) | (rw [if_neg (by rw [c_59]; decide), if_pos c_81]; rfl) | (rw [if_neg (by rw [c_59]; decide), if_neg (by rw [c_81]; decide), if_pos c_15]; rfl) | (rw [if_neg (by rw [c_59]; decide), if_neg (by rw [c_81]; decide), if_neg (by rw [c_15]; decide), if_pos c_38]; rfl) | (rw [if_neg (by rw [c_59]; decide), if_neg (by rw [c_81]; decide), if_neg (by rw [c_15]; decide), if_neg (by rw [c_38]; decide)]; rfl)
      · refine x_ic3 (n := 85) dX12_key_84 rfl ?_
        refine x_goto (n := 89) dX12_key_85 (by decide) ?_
        refine r_iret dX12_key_89 rfl ?_
        refine zq_e hq ?_
        first | (rw [if_pos c_59]; rfl) | (rw [if_neg (by rw [c_59]; decide), if_pos c_81]; rfl) | (rw [if_neg (by rw [c_59]; decide), if_neg (by rw [c_81]; decide), if_pos c_15]; rfl) | (rw [if_neg (by rw [c_59]; decide), if_neg (by rw [c_81]; decide), if_neg (by rw [c_15]; decide), if_pos c_38]; rfl) | (rw [if_neg (by rw [c_59]; decide), if_neg (by rw [c_81]; decide), if_neg (by rw [c_15]; decide), if_neg (by rw [c_38]; decide)]; rfl)
    · refine x_ic2 (n := 63) dX12_key_62 rfl ?_
      refine x_goto (n := 89) dX12_key_63 (by decide) ?_
      refine r_iret dX12_key_89 rfl ?_
      refine zq_e hq ?_
      first | (rw [if_pos c_59]; rfl) | (rw [if_neg (by rw [c_59]; decide), if_pos c_81]; rfl) | (rw [if_neg (by rw [c_59]; decide), if_neg (by rw [c_81]; decide), if_pos c_15]; rfl) | (rw [if_neg (by rw [c_59]; decide), if_neg (by rw [c_81]; decide), if_neg (by rw [c_15]; decide), if_pos c_38]; rfl) | (rw [if_neg (by rw [c_59]; decide), if_neg (by rw [c_81]; decide), if_neg (by rw [c_15]; decide), if_neg (by rw [c_38]; decide)]; rfl)
end
