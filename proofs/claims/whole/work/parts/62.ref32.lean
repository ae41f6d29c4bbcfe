/-- the word from b on is w -/
def wrdT (f : Nat → Int32) (b : Nat) : List Nat → Bool
  | [] => true
  | c :: w => decide (f b = nI c) && wrdT f (b + 1) w
def wrd (f : Nat → Int32) (tok : Int32) (b e : Nat) (w : List Nat) : Bool := decide (tok = nI 1) && (decide (e - b = w.length) && wrdT f b w)
section
variable {l : Launch} {G : zG} {Z : zS} {I : zI} {g : Nat → Int32} {Q : Option Value → zS → zI → Prop}
theorem wrd_n1 {f : Nat → Int32} {tok : Int32} {b e : Nat} {w : List Nat} (h : ¬ tok = nI 1) : wrd f tok b e w = false := by unfold wrd; rw [decide_eq_false h]; rfl
theorem wrd_n2 {f : Nat → Int32} {tok : Int32} {b e : Nat} {w : List Nat} (h : ¬ e - b = w.length) : wrd f tok b e w = false := by unfold wrd; rw [decide_eq_false h]; simp
theorem wrd_n3 {f : Nat → Int32} {tok : Int32} {b e : Nat} {w : List Nat} (h : wrdT f b w = false) : wrd f tok b e w = false := by unfold wrd; rw [h]; simp
theorem wrd_t {f : Nat → Int32} {tok : Int32} {b e : Nat} {w : List Nat} (h1 : tok = nI 1) (h2 : e - b = w.length) (h : wrdT f b w = true) : wrd f tok b e w = true := by unfold wrd; rw [h, decide_eq_true h1, decide_eq_true h2]; rfl
theorem c_X12_isWordAt (hZ : ShR Z) {b e : Nat} {c1 c2 c3 c4 : Nat} (hb : I qR 16 = nI b) (he : I qR 17 = nI e) (hbe : b ≤ e) (he2 : e ≤ 96) (hq : Q (some (.int (zb (wrd (I q_tape) (I qR 18) b e [c1, c2, c3, c4])))) Z (va_up I q_s g)) : zM l G mX12_isWordAt 0 0 0 [.ref qR, .int (nI c1), .int (nI c2), .int (nI c3), .int (nI c4)] Z (va_up I q_s g) Q := by
  refine x_entry [some (.ref qR), some (.int (nI c1)), some (.int (nI c2)), some (.int (nI c3)), some (.int (nI c4))] 0 rfl rfl (Nat.le_of_ble_eq_true rfl) ?_
  refine x_ald0 (n := 1) dX12_isWordAt_0 rfl ?_
  refine x_rget (n := 4) flX12_229 rfl dX12_isWordAt_1 rfl hZ ?_
  refine x_ic1 (n := 5) dX12_isWordAt_4 rfl ?_
  refine x_icmp_ne (n := 8) (tgt := 84) dX12_isWordAt_5 rfl (by decide) (fun c_5 => ?_) (fun c_5 => ?_)
  · refine x_ic0 (n := 85) dX12_isWordAt_84 rfl ?_
    refine r_zret dX12_isWordAt_85 rfl (by first | exact nar0 | exact nar1 | exact zb_nar _) ?_
    first | exact zq_f hq (wrd_n1 c_5) | exact zq_f hq (wrd_n2 c_18) | exact zq_t hq (wrd_t c_5 c_18 (by unfold wrdT wrdT wrdT wrdT wrdT; grind)) | exact zq_f hq (wrd_n3 (by unfold wrdT wrdT wrdT wrdT wrdT; grind))
  · refine x_ald0 (n := 9) dX12_isWordAt_8 rfl ?_
    refine x_rget (n := 12) flX12_226 rfl dX12_isWordAt_9 rfl hZ ?_
    rw [he]
    refine x_ald0 (n := 13) dX12_isWordAt_12 rfl ?_
    refine x_rget (n := 16) flX12_232 rfl dX12_isWordAt_13 rfl hZ ?_
    rw [hb]
    refine x_isubN (n := 17) dX12_isWordAt_16 rfl (by omega) ?_
    refine x_ic4 (n := 18) dX12_isWordAt_17 rfl ?_
    refine x_icmpN_ne (n := 21) (tgt := 84) dX12_isWordAt_18 rfl (by decide) (by omega) (by omega) (fun c_18 => ?_) (fun c_18 => ?_)
    · refine x_ic0 (n := 85) dX12_isWordAt_84 rfl ?_
      refine r_zret dX12_isWordAt_85 rfl (by first | exact nar0 | exact nar1 | exact zb_nar _) ?_
      first | exact zq_f hq (wrd_n1 c_5) | exact zq_f hq (wrd_n2 c_18) | exact zq_t hq (wrd_t c_5 c_18 (by unfold wrdT wrdT wrdT wrdT wrdT; grind)) | exact zq_f hq (wrd_n3 (by unfold wrdT wrdT wrdT wrdT wrdT; grind))
    · refine x_ald0 (n := 22) dX12_isWordAt_21 rfl ?_
      refine x_getR (n := 25) flX12_49 rfl dX12_isWordAt_22 rfl (rK hZ) (rP_tape hZ) ?_
      refine x_ald0 (n := 26) dX12_isWordAt_25 rfl ?_
      refine x_rget (n := 29) flX12_232 rfl dX12_isWordAt_26 rfl hZ ?_
      rw [hb]
      refine x_old (n := 30) dX12_isWordAt_29 rfl (rA_tape hZ) (by decide) (Nat.le_of_ble_eq_true rfl) (by omega) ?_
      refine x_ild1 (n := 31) dX12_isWordAt_30 rfl ?_
      refine x_icmp_ne (n := 34) (tgt := 84) dX12_isWordAt_31 rfl (by decide) (fun c_31 => ?_) (fun c_31 => ?_)
      · refine x_ic0 (n := 85) dX12_isWordAt_84 rfl ?_
        refine r_zret dX12_isWordAt_85 rfl (by first | exact nar0 | exact nar1 | exact zb_nar _) ?_
        first | exact zq_f hq (wrd_n1 c_5) | exact zq_f hq (wrd_n2 c_18) | exact zq_t hq (wrd_t c_5 c_18 (by unfold wrdT wrdT wrdT wrdT wrdT; grind)) | exact zq_f hq (wrd_n3 (by unfold wrdT wrdT wrdT wrdT wrdT; grind))
      · refine x_ald0 (n := 35) dX12_isWordAt_34 rfl ?_
        refine x_getR (n := 38) flX12_49 rfl dX12_isWordAt_35 rfl (rK hZ) (rP_tape hZ) ?_
        refine x_ald0 (n := 39) dX12_isWordAt_38 rfl ?_
        refine x_rget (n := 42) flX12_232 rfl dX12_isWordAt_39 rfl hZ ?_
        rw [hb]
        refine x_ic1 (n := 43) dX12_isWordAt_42 rfl ?_
        refine x_iaddN (n := 44) dX12_isWordAt_43 rfl ?_
        refine x_old (n := 45) dX12_isWordAt_44 rfl (rA_tape hZ) (by decide) (Nat.le_of_ble_eq_true rfl) (by omega) ?_
        refine x_ild2 (n := 46) dX12_isWordAt_45 rfl ?_
        refine x_icmp_ne (n := 49) (tgt := 84) dX12_isWordAt_46 rfl (by decide) (fun c_46 => ?_) (fun c_46 => ?_)
        · refine x_ic0 (n := 85) dX12_isWordAt_84 rfl ?_
          refine r_zret dX12_isWordAt_85 rfl (by first | exact nar0 | exact nar1 | exact zb_nar _) ?_
          first | exact zq_f hq (wrd_n1 c_5) | exact zq_f hq (wrd_n2 c_18) | exact zq_t hq (wrd_t c_5 c_18 (by unfold wrdT wrdT wrdT wrdT wrdT; grind)) | exact zq_f hq (wrd_n3 (by unfold wrdT wrdT wrdT wrdT wrdT; grind))
        · refine x_ald0 (n := 50) dX12_isWordAt_49 rfl ?_
          refine x_getR (n := 53) flX12_49 rfl dX12_isWordAt_50 rfl (rK hZ) (rP_tape hZ) ?_
          refine x_ald0 (n := 54) dX12_isWordAt_53 rfl ?_
          refine x_rget (n := 57) flX12_232 rfl dX12_isWordAt_54 rfl hZ ?_
          rw [hb]
          refine x_ic2 (n := 58) dX12_isWordAt_57 rfl ?_
          refine x_iaddN (n := 59) dX12_isWordAt_58 rfl ?_
          refine x_old (n := 60) dX12_isWordAt_59 rfl (rA_tape hZ) (by decide) (Nat.le_of_ble_eq_true rfl) (by omega) ?_
          refine x_ild3 (n := 61) dX12_isWordAt_60 rfl ?_
          refine x_icmp_ne (n := 64) (tgt := 84) dX12_isWordAt_61 rfl (by decide) (fun c_61 => ?_) (fun c_61 => ?_)
          · refine x_ic0 (n := 85) dX12_isWordAt_84 rfl ?_
            refine r_zret dX12_isWordAt_85 rfl (by first | exact nar0 | exact nar1 | exact zb_nar _) ?_
            first | exact zq_f hq (wrd_n1 c_5) | exact zq_f hq (wrd_n2 c_18) | exact zq_t hq (wrd_t c_5 c_18 (by unfold wrdT wrdT wrdT wrdT wrdT; grind)) | exact zq_f hq (wrd_n3 (by unfold wrdT wrdT wrdT wrdT wrdT; grind))
          · refine x_ald0 (n := 65) dX12_isWordAt_64 rfl ?_
            refine x_getR (n := 68) flX12_49 rfl dX12_isWordAt_65 rfl (rK hZ) (rP_tape hZ) ?_
            refine x_ald0 (n := 69) dX12_isWordAt_68 rfl ?_
            refine x_rget (n := 72) flX12_232 rfl dX12_isWordAt_69 rfl hZ ?_
            rw [hb]
            refine x_ic3 (n := 73) dX12_isWordAt_72 rfl ?_
            refine x_iaddN (n := 74) dX12_isWordAt_73 rfl ?_
            refine x_old (n := 75) dX12_isWordAt_74 rfl (rA_tape hZ) (by decide) (Nat.le_of_ble_eq_true rfl) (by omega) ?_
            refine x_ild4 (n := 77) dX12_isWordAt_75 rfl ?_
            refine x_icmp_ne (n := 80) (tgt := 84) dX12_isWordAt_77 rfl (by decide) (fun c_77 => ?_) (fun c_77 => ?_)
            · refine x_ic0 (n := 85) dX12_isWordAt_84 rfl ?_
              refine r_zret dX12_isWordAt_85 rfl (by first | exact nar0 | exact nar1 | exact zb_nar _) ?_
              first | exact zq_f hq (wrd_n1 c_5) | exact zq_f hq (wrd_n2 c_18) | exact zq_t hq (wrd_t c_5 c_18 (by unfold wrdT wrdT wrdT wrdT wrdT; grind)) | exact zq_f hq (wrd_n3 (by unfold wrdT wrdT wrdT wrdT wrdT; grind))
            · refine x_ic1 (n := 81) dX12_isWordAt_80 rfl ?_
              refine x_goto (n := 85) dX12_isWordAt_81 (by decide) ?_
              refine r_zret dX12_isWordAt_85 rfl (by first | exact nar0 | exact nar1 | exact zb_nar _) ?_
              first | exact zq_f hq (wrd_n1 c_5) | exact zq_f hq (wrd_n2 c_18) | exact zq_t hq (wrd_t c_5 c_18 (by unfold wrdT wrdT wrdT wrdT wrdT; grind)) | exact zq_f hq (wrd_n3 (by unfold wrdT wrdT wrdT wrdT wrdT; grind))
end
