section
variable {l : Launch} {G : zG} {Z : zS} {I : zI} {g : Nat → Int32} {Q : Option Value → zS → zI → Prop}
theorem c_isLong5 (hZ : ShR Z) {b e : Nat} {c1 c2 c3 c4 c5 : Nat} (hb : I qR 16 = nI b) (he : I qR 17 = nI e) (hbe : b ≤ e) (he2 : e ≤ 96) (hq : Q (some (.int (zb (wrd (I q_tape) (I qR 18) b e [c1, c2, c3, c4, c5])))) Z (va_up I q_s g)) : zM l G mX12_isLong 0 0 0 [.ref qR, .int (nI c1), .int (nI c2), .int (nI c3), .int (nI c4), .int (nI c5), .int (nI 0)] Z (va_up I q_s g) Q := by
  refine x_entry [some (.ref qR), some (.int (nI c1)), some (.int (nI c2)), some (.int (nI c3)), some (.int (nI c4)), some (.int (nI c5)), some (.int (nI 0)), none] 1 rfl rfl (Nat.le_of_ble_eq_true rfl) ?_
  refine x_ild6 (n := 2) dX12_isLong_0 rfl ?_
  refine x_if_ne (n := 5) (tgt := 9) dX12_isLong_2 rfl (by decide) (fun c_2 => ?_) (fun c_2 => ?_)
  · exact absurd (by decide) c_2
  · refine x_ic5 (n := 6) dX12_isLong_5 rfl ?_
    refine x_goto (n := 11) dX12_isLong_6 (by decide) ?_
    refine x_ist7 (n := 13) dX12_isLong_11 rfl (by decide) rfl ?_
    refine x_ald0 (n := 14) dX12_isLong_13 rfl ?_
    refine x_rget (n := 17) flX12_229 rfl dX12_isLong_14 rfl hZ ?_
    refine x_ic1 (n := 18) dX12_isLong_17 rfl ?_
    refine x_icmp_ne (n := 21) (tgt := 135) dX12_isLong_18 rfl (by decide) (fun c_18 => ?_) (fun c_18 => ?_)
    · refine x_ic0 (n := 136) dX12_isLong_135 rfl ?_
      refine r_zret dX12_isLong_136 rfl (by first | exact nar0 | exact nar1 | exact zb_nar _) ?_
      first | exact zq_f hq (wrd_n1 c_18) | exact zq_f hq (wrd_n2 c_32) | exact zq_t hq (wrd_t c_18 c_32 (by unfold wrdT wrdT wrdT wrdT wrdT wrdT; grind)) | exact zq_f hq (wrd_n3 (by unfold wrdT wrdT wrdT wrdT wrdT wrdT; grind))
    · refine x_ald0 (n := 22) dX12_isLong_21 rfl ?_
      refine x_rget (n := 25) flX12_226 rfl dX12_isLong_22 rfl hZ ?_
      rw [he]
      refine x_ald0 (n := 26) dX12_isLong_25 rfl ?_
      refine x_rget (n := 29) flX12_232 rfl dX12_isLong_26 rfl hZ ?_
      rw [hb]
      refine x_isubN (n := 30) dX12_isLong_29 rfl (by omega) ?_
      refine x_ild7 (n := 32) dX12_isLong_30 rfl ?_
      refine x_icmpN_ne (n := 35) (tgt := 135) dX12_isLong_32 rfl (by decide) (by omega) (by omega) (fun c_32 => ?_) (fun c_32 => ?_)
      · refine x_ic0 (n := 136) dX12_isLong_135 rfl ?_
        refine r_zret dX12_isLong_136 rfl (by first | exact nar0 | exact nar1 | exact zb_nar _) ?_
        first | exact zq_f hq (wrd_n1 c_18) | exact zq_f hq (wrd_n2 c_32) | exact zq_t hq (wrd_t c_18 c_32 (by unfold wrdT wrdT wrdT wrdT wrdT wrdT; grind)) | exact zq_f hq (wrd_n3 (by unfold wrdT wrdT wrdT wrdT wrdT wrdT; grind))
      · refine x_ald0 (n := 36) dX12_isLong_35 rfl ?_
        refine x_getR (n := 39) flX12_49 rfl dX12_isLong_36 rfl (rK hZ) (rP_tape hZ) ?_
        refine x_ald0 (n := 40) dX12_isLong_39 rfl ?_
        refine x_rget (n := 43) flX12_232 rfl dX12_isLong_40 rfl hZ ?_
        rw [hb]
        refine x_old (n := 44) dX12_isLong_43 rfl (rA_tape hZ) (by decide) (Nat.le_of_ble_eq_true rfl) (by omega) ?_
        refine x_ild1 (n := 45) dX12_isLong_44 rfl ?_
        refine x_icmp_ne (n := 48) (tgt := 135) dX12_isLong_45 rfl (by decide) (fun c_45 => ?_) (fun c_45 => ?_)
        · refine x_ic0 (n := 136) dX12_isLong_135 rfl ?_
          refine r_zret dX12_isLong_136 rfl (by first | exact nar0 | exact nar1 | exact zb_nar _) ?_
          first | exact zq_f hq (wrd_n1 c_18) | exact zq_f hq (wrd_n2 c_32) | exact zq_t hq (wrd_t c_18 c_32 (by unfold wrdT wrdT wrdT wrdT wrdT wrdT; grind)) | exact zq_f hq (wrd_n3 (by unfold wrdT wrdT wrdT wrdT wrdT wrdT; grind))
        · refine x_ald0 (n := 49) dX12_isLong_48 rfl ?_
          refine x_getR (n := 52) flX12_49 rfl dX12_isLong_49 rfl (rK hZ) (rP_tape hZ) ?_
          refine x_ald0 (n := 53) dX12_isLong_52 rfl ?_
          refine x_rget (n := 56) flX12_232 rfl dX12_isLong_53 rfl hZ ?_
          rw [hb]
          refine x_ic1 (n := 57) dX12_isLong_56 rfl ?_
          refine x_iaddN (n := 58) dX12_isLong_57 rfl ?_
          refine x_old (n := 59) dX12_isLong_58 rfl (rA_tape hZ) (by decide) (Nat.le_of_ble_eq_true rfl) (by omega) ?_
          refine x_ild2 (n := 60) dX12_isLong_59 rfl ?_
          refine x_icmp_ne (n := 63) (tgt := 135) dX12_isLong_60 rfl (by decide) (fun c_60 => ?_) (fun c_60 => ?_)
          · refine x_ic0 (n := 136) dX12_isLong_135 rfl ?_
            refine r_zret dX12_isLong_136 rfl (by first | exact nar0 | exact nar1 | exact zb_nar _) ?_
            first | exact zq_f hq (wrd_n1 c_18) | exact zq_f hq (wrd_n2 c_32) | exact zq_t hq (wrd_t c_18 c_32 (by unfold wrdT wrdT wrdT wrdT wrdT wrdT; grind)) | exact zq_f hq (wrd_n3 (by unfold wrdT wrdT wrdT wrdT wrdT wrdT; grind))
          · refine x_ald0 (n := 64) dX12_isLong_63 rfl ?_
            refine x_getR (n := 67) flX12_49 rfl dX12_isLong_64 rfl (rK hZ) (rP_tape hZ) ?_
            refine x_ald0 (n := 68) dX12_isLong_67 rfl ?_
            refine x_rget (n := 71) flX12_232 rfl dX12_isLong_68 rfl hZ ?_
            rw [hb]
            refine x_ic2 (n := 72) dX12_isLong_71 rfl ?_
            refine x_iaddN (n := 73) dX12_isLong_72 rfl ?_
            refine x_old (n := 74) dX12_isLong_73 rfl (rA_tape hZ) (by decide) (Nat.le_of_ble_eq_true rfl) (by omega) ?_
            refine x_ild3 (n := 75) dX12_isLong_74 rfl ?_
            refine x_icmp_ne (n := 78) (tgt := 135) dX12_isLong_75 rfl (by decide) (fun c_75 => ?_) (fun c_75 => ?_)
            · refine x_ic0 (n := 136) dX12_isLong_135 rfl ?_
              refine r_zret dX12_isLong_136 rfl (by first | exact nar0 | exact nar1 | exact zb_nar _) ?_
              first | exact zq_f hq (wrd_n1 c_18) | exact zq_f hq (wrd_n2 c_32) | exact zq_t hq (wrd_t c_18 c_32 (by unfold wrdT wrdT wrdT wrdT wrdT wrdT; grind)) | exact zq_f hq (wrd_n3 (by unfold wrdT wrdT wrdT wrdT wrdT wrdT; grind))
            · refine x_ald0 (n := 79) dX12_isLong_78 rfl ?_
              refine x_getR (n := 82) flX12_49 rfl dX12_isLong_79 rfl (rK hZ) (rP_tape hZ) ?_
              refine x_ald0 (n := 83) dX12_isLong_82 rfl ?_
              refine x_rget (n := 86) flX12_232 rfl dX12_isLong_83 rfl hZ ?_
              rw [hb]
              refine x_ic3 (n := 87) dX12_isLong_86 rfl ?_
              refine x_iaddN (n := 88) dX12_isLong_87 rfl ?_
              refine x_old (n := 89) dX12_isLong_88 rfl (rA_tape hZ) (by decide) (Nat.le_of_ble_eq_true rfl) (by omega) ?_
              refine x_ild4 (n := 91) dX12_isLong_89 rfl ?_
              refine x_icmp_ne (n := 94) (tgt := 135) dX12_isLong_91 rfl (by decide) (fun c_91 => ?_) (fun c_91 => ?_)
              · refine x_ic0 (n := 136) dX12_isLong_135 rfl ?_
                refine r_zret dX12_isLong_136 rfl (by first | exact nar0 | exact nar1 | exact zb_nar _) ?_
                first | exact zq_f hq (wrd_n1 c_18) | exact zq_f hq (wrd_n2 c_32) | exact zq_t hq (wrd_t c_18 c_32 (by unfold wrdT wrdT wrdT wrdT wrdT wrdT; grind)) | exact zq_f hq (wrd_n3 (by unfold wrdT wrdT wrdT wrdT wrdT wrdT; grind))
              · refine x_ald0 (n := 95) dX12_isLong_94 rfl ?_
                refine x_getR (n := 98) flX12_49 rfl dX12_isLong_95 rfl (rK hZ) (rP_tape hZ) ?_
                refine x_ald0 (n := 99) dX12_isLong_98 rfl ?_
                refine x_rget (n := 102) flX12_232 rfl dX12_isLong_99 rfl hZ ?_
                rw [hb]
                refine x_ic4 (n := 103) dX12_isLong_102 rfl ?_
                refine x_iaddN (n := 104) dX12_isLong_103 rfl ?_
                refine x_old (n := 105) dX12_isLong_104 rfl (rA_tape hZ) (by decide) (Nat.le_of_ble_eq_true rfl) (by omega) ?_
                refine x_ild5 (n := 107) dX12_isLong_105 rfl ?_
                refine x_icmp_ne (n := 110) (tgt := 135) dX12_isLong_107 rfl (by decide) (fun c_107 => ?_) (fun c_107 => ?_)
                · refine x_ic0 (n := 136) dX12_isLong_135 rfl ?_
                  refine r_zret dX12_isLong_136 rfl (by first | exact nar0 | exact nar1 | exact zb_nar _) ?_
                  first | exact zq_f hq (wrd_n1 c_18) | exact zq_f hq (wrd_n2 c_32) | exact zq_t hq (wrd_t c_18 c_32 (by unfold wrdT wrdT wrdT wrdT wrdT wrdT; grind)) | exact zq_f hq (wrd_n3 (by unfold wrdT wrdT wrdT wrdT wrdT wrdT; grind))
                · refine x_ild6 (n := 112) dX12_isLong_110 rfl ?_
                  refine x_if_eq (n := 115) (tgt := 131) dX12_isLong_112 rfl (by decide) (fun c_112 => ?_) (fun c_112 => ?_)
                  · refine x_ic1 (n := 132) dX12_isLong_131 rfl ?_
                    refine x_goto (n := 136) dX12_isLong_132 (by decide) ?_
                    refine r_zret dX12_isLong_136 rfl (by first | exact nar0 | exact nar1 | exact zb_nar _) ?_
                    first | exact zq_f hq (wrd_n1 c_18) | exact zq_f hq (wrd_n2 c_32) | exact zq_t hq (wrd_t c_18 c_32 (by unfold wrdT wrdT wrdT wrdT wrdT wrdT; grind)) | exact zq_f hq (wrd_n3 (by unfold wrdT wrdT wrdT wrdT wrdT wrdT; grind))
                  · exact absurd (by decide) c_112
theorem c_isLong6 (hZ : ShR Z) {b e : Nat} {c1 c2 c3 c4 c5 c6 : Nat} (h6 : 0 < c6) (h6b : c6 < 1000) (hb : I qR 16 = nI b) (he : I qR 17 = nI e) (hbe : b ≤ e) (he2 : e ≤ 96) (hq : Q (some (.int (zb (wrd (I q_tape) (I qR 18) b e [c1, c2, c3, c4, c5, c6])))) Z (va_up I q_s g)) : zM l G mX12_isLong 0 0 0 [.ref qR, .int (nI c1), .int (nI c2), .int (nI c3), .int (nI c4), .int (nI c5), .int (nI c6)] Z (va_up I q_s g) Q := by
  have hne : ¬ nI c6 = 0 := nI_ne0 h6 (by omega)
  refine x_entry [some (.ref qR), some (.int (nI c1)), some (.int (nI c2)), some (.int (nI c3)), some (.int (nI c4)), some (.int (nI c5)), some (.int (nI c6)), none] 1 rfl rfl (Nat.le_of_ble_eq_true rfl) ?_
  refine x_ild6 (n := 2) dX12_isLong_0 rfl ?_
  refine x_if_ne (n := 5) (tgt := 9) dX12_isLong_2 rfl (by decide) (fun c_2 => ?_) (fun c_2 => ?_)
  · refine x_bipush (n := 11) (v := nI 6) dX12_isLong_9 rfl (by decide) ?_
    refine x_ist7 (n := 13) dX12_isLong_11 rfl (by decide) rfl ?_
    refine x_ald0 (n := 14) dX12_isLong_13 rfl ?_
    refine x_rget (n := 17) flX12_229 rfl dX12_isLong_14 rfl hZ ?_
    refine x_ic1 (n := 18) dX12_isLong_17 rfl ?_
    refine x_icmp_ne (n := 21) (tgt := 135) dX12_isLong_18 rfl (by decide) (fun c_18 => ?_) (fun c_18 => ?_)
    · refine x_ic0 (n := 136) dX12_isLong_135 rfl ?_
      refine r_zret dX12_isLong_136 rfl (by first | exact nar0 | exact nar1 | exact zb_nar _) ?_
      first | exact zq_f hq (wrd_n1 c_18) | exact zq_f hq (wrd_n2 c_32) | exact zq_t hq (wrd_t c_18 c_32 (by unfold wrdT wrdT wrdT wrdT wrdT wrdT wrdT; grind)) | exact zq_f hq (wrd_n3 (by unfold wrdT wrdT wrdT wrdT wrdT wrdT wrdT; grind))
    · refine x_ald0 (n := 22) dX12_isLong_21 rfl ?_
      refine x_rget (n := 25) flX12_226 rfl dX12_isLong_22 rfl hZ ?_
      rw [he]
      refine x_ald0 (n := 26) dX12_isLong_25 rfl ?_
      refine x_rget (n := 29) flX12_232 rfl dX12_isLong_26 rfl hZ ?_
      rw [hb]
      refine x_isubN (n := 30) dX12_isLong_29 rfl (by omega) ?_
      refine x_ild7 (n := 32) dX12_isLong_30 rfl ?_
      refine x_icmpN_ne (n := 35) (tgt := 135) dX12_isLong_32 rfl (by decide) (by omega) (by omega) (fun c_32 => ?_) (fun c_32 => ?_)
      · refine x_ic0 (n := 136) dX12_isLong_135 rfl ?_
        refine r_zret dX12_isLong_136 rfl (by first | exact nar0 | exact nar1 | exact zb_nar _) ?_
        first | exact zq_f hq (wrd_n1 c_18) | exact zq_f hq (wrd_n2 c_32) | exact zq_t hq (wrd_t c_18 c_32 (by unfold wrdT wrdT wrdT wrdT wrdT wrdT wrdT; grind)) | exact zq_f hq (wrd_n3 (by unfold wrdT wrdT wrdT wrdT wrdT wrdT wrdT; grind))
      · refine x_ald0 (n := 36) dX12_isLong_35 rfl ?_
        refine x_getR (n := 39) flX12_49 rfl dX12_isLong_36 rfl (rK hZ) (rP_tape hZ) ?_
        refine x_ald0 (n := 40) dX12_isLong_39 rfl ?_
        refine x_rget (n := 43) flX12_232 rfl dX12_isLong_40 rfl hZ ?_
        rw [hb]
        refine x_old (n := 44) dX12_isLong_43 rfl (rA_tape hZ) (by decide) (Nat.le_of_ble_eq_true rfl) (by omega) ?_
        refine x_ild1 (n := 45) dX12_isLong_44 rfl ?_
        refine x_icmp_ne (n := 48) (tgt := 135) dX12_isLong_45 rfl (by decide) (fun c_45 => ?_) (fun c_45 => ?_)
        · refine x_ic0 (n := 136) dX12_isLong_135 rfl ?_
          refine r_zret dX12_isLong_136 rfl (by first | exact nar0 | exact nar1 | exact zb_nar _) ?_
          first | exact zq_f hq (wrd_n1 c_18) | exact zq_f hq (wrd_n2 c_32) | exact zq_t hq (wrd_t c_18 c_32 (by unfold wrdT wrdT wrdT wrdT wrdT wrdT wrdT; grind)) | exact zq_f hq (wrd_n3 (by unfold wrdT wrdT wrdT wrdT wrdT wrdT wrdT; grind))
        · refine x_ald0 (n := 49) dX12_isLong_48 rfl ?_
          refine x_getR (n := 52) flX12_49 rfl dX12_isLong_49 rfl (rK hZ) (rP_tape hZ) ?_
          refine x_ald0 (n := 53) dX12_isLong_52 rfl ?_
          refine x_rget (n := 56) flX12_232 rfl dX12_isLong_53 rfl hZ ?_
          rw [hb]
          refine x_ic1 (n := 57) dX12_isLong_56 rfl ?_
          refine x_iaddN (n := 58) dX12_isLong_57 rfl ?_
          refine x_old (n := 59) dX12_isLong_58 rfl (rA_tape hZ) (by decide) (Nat.le_of_ble_eq_true rfl) (by omega) ?_
          refine x_ild2 (n := 60) dX12_isLong_59 rfl ?_
          refine x_icmp_ne (n := 63) (tgt := 135) dX12_isLong_60 rfl (by decide) (fun c_60 => ?_) (fun c_60 => ?_)
          · refine x_ic0 (n := 136) dX12_isLong_135 rfl ?_
            refine r_zret dX12_isLong_136 rfl (by first | exact nar0 | exact nar1 | exact zb_nar _) ?_
            first | exact zq_f hq (wrd_n1 c_18) | exact zq_f hq (wrd_n2 c_32) | exact zq_t hq (wrd_t c_18 c_32 (by unfold wrdT wrdT wrdT wrdT wrdT wrdT wrdT; grind)) | exact zq_f hq (wrd_n3 (by unfold wrdT wrdT wrdT wrdT wrdT wrdT wrdT; grind))
          · refine x_ald0 (n := 64) dX12_isLong_63 rfl ?_
            refine x_getR (n := 67) flX12_49 rfl dX12_isLong_64 rfl (rK hZ) (rP_tape hZ) ?_
            refine x_ald0 (n := 68) dX12_isLong_67 rfl ?_
            refine x_rget (n := 71) flX12_232 rfl dX12_isLong_68 rfl hZ ?_
            rw [hb]
            refine x_ic2 (n := 72) dX12_isLong_71 rfl ?_
            refine x_iaddN (n := 73) dX12_isLong_72 rfl ?_
            refine x_old (n := 74) dX12_isLong_73 rfl (rA_tape hZ) (by decide) (Nat.le_of_ble_eq_true rfl) (by omega) ?_
            refine x_ild3 (n := 75) dX12_isLong_74 rfl ?_
            refine x_icmp_ne (n := 78) (tgt := 135) dX12_isLong_75 rfl (by decide) (fun c_75 => ?_) (fun c_75 => ?_)
            · refine x_ic0 (n := 136) dX12_isLong_135 rfl ?_
              refine r_zret dX12_isLong_136 rfl (by first | exact nar0 | exact nar1 | exact zb_nar _) ?_
              first | exact zq_f hq (wrd_n1 c_18) | exact zq_f hq (wrd_n2 c_32) | exact zq_t hq (wrd_t c_18 c_32 (by unfold wrdT wrdT wrdT wrdT wrdT wrdT wrdT; grind)) | exact zq_f hq (wrd_n3 (by unfold wrdT wrdT wrdT wrdT wrdT wrdT wrdT; grind))
            · refine x_ald0 (n := 79) dX12_isLong_78 rfl ?_
              refine x_getR (n := 82) flX12_49 rfl dX12_isLong_79 rfl (rK hZ) (rP_tape hZ) ?_
              refine x_ald0 (n := 83) dX12_isLong_82 rfl ?_
              refine x_rget (n := 86) flX12_232 rfl dX12_isLong_83 rfl hZ ?_
              rw [hb]
              refine x_ic3 (n := 87) dX12_isLong_86 rfl ?_
              refine x_iaddN (n := 88) dX12_isLong_87 rfl ?_
              refine x_old (n := 89) dX12_isLong_88 rfl (rA_tape hZ) (by decide) (Nat.le_of_ble_eq_true rfl) (by omega) ?_
              refine x_ild4 (n := 91) dX12_isLong_89 rfl ?_
              refine x_icmp_ne (n := 94) (tgt := 135) dX12_isLong_91 rfl (by decide) (fun c_91 => ?_) (fun c_91 => ?_)
              · refine x_ic0 (n := 136) dX12_isLong_135 rfl ?_
                refine r_zret dX12_isLong_136 rfl (by first | exact nar0 | exact nar1 | exact zb_nar _) ?_
                first | exact zq_f hq (wrd_n1 c_18) | exact zq_f hq (wrd_n2 c_32) | exact zq_t hq (wrd_t c_18 c_32 (by unfold wrdT wrdT wrdT wrdT wrdT wrdT wrdT; grind)) | exact zq_f hq (wrd_n3 (by unfold wrdT wrdT wrdT wrdT wrdT wrdT wrdT; grind))
              · refine x_ald0 (n := 95) dX12_isLong_94 rfl ?_
                refine x_getR (n := 98) flX12_49 rfl dX12_isLong_95 rfl (rK hZ) (rP_tape hZ) ?_
                refine x_ald0 (n := 99) dX12_isLong_98 rfl ?_
                refine x_rget (n := 102) flX12_232 rfl dX12_isLong_99 rfl hZ ?_
                rw [hb]
                refine x_ic4 (n := 103) dX12_isLong_102 rfl ?_
                refine x_iaddN (n := 104) dX12_isLong_103 rfl ?_
                refine x_old (n := 105) dX12_isLong_104 rfl (rA_tape hZ) (by decide) (Nat.le_of_ble_eq_true rfl) (by omega) ?_
                refine x_ild5 (n := 107) dX12_isLong_105 rfl ?_
                refine x_icmp_ne (n := 110) (tgt := 135) dX12_isLong_107 rfl (by decide) (fun c_107 => ?_) (fun c_107 => ?_)
                · refine x_ic0 (n := 136) dX12_isLong_135 rfl ?_
                  refine r_zret dX12_isLong_136 rfl (by first | exact nar0 | exact nar1 | exact zb_nar _) ?_
                  first | exact zq_f hq (wrd_n1 c_18) | exact zq_f hq (wrd_n2 c_32) | exact zq_t hq (wrd_t c_18 c_32 (by unfold wrdT wrdT wrdT wrdT wrdT wrdT wrdT; grind)) | exact zq_f hq (wrd_n3 (by unfold wrdT wrdT wrdT wrdT wrdT wrdT wrdT; grind))
                · refine x_ild6 (n := 112) dX12_isLong_110 rfl ?_
                  refine x_if_eq (n := 115) (tgt := 131) dX12_isLong_112 rfl (by decide) (fun c_112 => ?_) (fun c_112 => ?_)
                  · exact absurd c_112 hne
                  · refine x_ald0 (n := 116) dX12_isLong_115 rfl ?_
                    refine x_getR (n := 119) flX12_49 rfl dX12_isLong_116 rfl (rK hZ) (rP_tape hZ) ?_
                    refine x_ald0 (n := 120) dX12_isLong_119 rfl ?_
                    refine x_rget (n := 123) flX12_232 rfl dX12_isLong_120 rfl hZ ?_
                    rw [hb]
                    refine x_ic5 (n := 124) dX12_isLong_123 rfl ?_
                    refine x_iaddN (n := 125) dX12_isLong_124 rfl ?_
                    refine x_old (n := 126) dX12_isLong_125 rfl (rA_tape hZ) (by decide) (Nat.le_of_ble_eq_true rfl) (by omega) ?_
                    refine x_ild6 (n := 128) dX12_isLong_126 rfl ?_
                    refine x_icmp_ne (n := 131) (tgt := 135) dX12_isLong_128 rfl (by decide) (fun c_128 => ?_) (fun c_128 => ?_)
                    · refine x_ic0 (n := 136) dX12_isLong_135 rfl ?_
                      refine r_zret dX12_isLong_136 rfl (by first | exact nar0 | exact nar1 | exact zb_nar _) ?_
                      first | exact zq_f hq (wrd_n1 c_18) | exact zq_f hq (wrd_n2 c_32) | exact zq_t hq (wrd_t c_18 c_32 (by unfold wrdT wrdT wrdT wrdT wrdT wrdT wrdT; grind)) | exact zq_f hq (wrd_n3 (by unfold wrdT wrdT wrdT wrdT wrdT wrdT wrdT; grind))
                    · refine x_ic1 (n := 132) dX12_isLong_131 rfl ?_
                      refine x_goto (n := 136) dX12_isLong_132 (by decide) ?_
                      refine r_zret dX12_isLong_136 rfl (by first | exact nar0 | exact nar1 | exact zb_nar _) ?_
                      first | exact zq_f hq (wrd_n1 c_18) | exact zq_f hq (wrd_n2 c_32) | exact zq_t hq (wrd_t c_18 c_32 (by unfold wrdT wrdT wrdT wrdT wrdT wrdT wrdT; grind)) | exact zq_f hq (wrd_n3 (by unfold wrdT wrdT wrdT wrdT wrdT wrdT wrdT; grind))
  · exact absurd c_2 hne
end
