/-! ===== the class's tape: a number or a sign where a part is wanted ===== -/
section
variable {l : Launch} {G : zG} {Z : zS} {I : zI} {Q : Option Value → zS → zI → Prop} {cd : List Int32} {st : List Nat} {ob on pt t : Nat} {want : Bool}
theorem c_X6_takesPartD (hS : ShL Z) {b e : Nat} (h1 : I 244 1 = nI t) (ht : t ≤ 96) (hD : isDi (I 245) t b = true) (hbe : b ≤ e) (he : e ≤ 96) (h : tpS I cd st ob on pt want) (hc : cd.length + st.length < 96) (hb : ∀ c ∈ st, c < 256) (hpt : pt ≤ 96) (hon : (popN st).length ≤ on) (hq0 : 4 < e - b → Q (some (.int (nI 0))) Z I)
    (hq : e - b ≤ 4 → ∀ J, tpO I J → tpS J (cd ++ [dgF (I 245) b (e - b)] ++ ngs (popN st)) (rstN st) ob (on - (popN st).length) (pt + 1) false → Q (some (.int (nI 1))) Z J) : zM l G mX6_takesPart 4 0 0 [.ref 244, .int (nI b), .int (nI e)] Z I Q := by
  refine x_entry [some (.ref 244), some (.int (nI b)), some (.int (nI e)), none] 1 rfl rfl (Nat.le_of_ble_eq_true rfl) ?_
  by_cases h4 : 4 < e - b
  · skip
    refine x_ald0 (n := 1) dX6_takesPart_0 rfl ?_
    refine x_ild1 (n := 2) dX6_takesPart_1 rfl ?_
    refine x_cV1 (n := 5) (d' := 1) zcX6_isDigit mlX6_96 dX6_takesPart_2 rfl (lK_Tp hS) (Nat.le_of_ble_eq_true rfl) (Nat.le_of_ble_eq_true rfl) ?_
    refine c_X6_isDigit hS h1 ht (by omega) ?_
    refine x_some ?_
    refine x_zif_eq (n := 8) (tgt := 15) dX6_takesPart_5 rfl (by decide) (fun c_5 => ?_) (fun c_5 => ?_)
    · exact absurd (c_5.symm.trans hD) (by decide)
    · refine x_ald0 (n := 9) dX6_takesPart_8 rfl ?_
      refine x_ild1 (n := 10) dX6_takesPart_9 rfl ?_
      refine x_ild2 (n := 11) dX6_takesPart_10 rfl ?_
      refine x_cV2 (n := 14) (d' := 3) zcX6_takesNumber mlX6_134 dX6_takesPart_11 rfl (lK_Tp hS) (Nat.le_of_ble_eq_true rfl) (Nat.le_of_ble_eq_true rfl) ?_
      refine c_X6_takesNumber hS hbe he h hc hb hpt hon (fun _ => ?_) (fun h5 => absurd h4 (by omega))
      refine x_some ?_
      refine r_zret dX6_takesPart_14 rfl (by first | exact nar0 | exact nar1 | exact zb_nar _) ?_
      exact hq0 h4
  · skip
    refine x_ald0 (n := 1) dX6_takesPart_0 rfl ?_
    refine x_ild1 (n := 2) dX6_takesPart_1 rfl ?_
    refine x_cV1 (n := 5) (d' := 1) zcX6_isDigit mlX6_96 dX6_takesPart_2 rfl (lK_Tp hS) (Nat.le_of_ble_eq_true rfl) (Nat.le_of_ble_eq_true rfl) ?_
    refine c_X6_isDigit hS h1 ht (by omega) ?_
    refine x_some ?_
    refine x_zif_eq (n := 8) (tgt := 15) dX6_takesPart_5 rfl (by decide) (fun c_5 => ?_) (fun c_5 => ?_)
    · exact absurd (c_5.symm.trans hD) (by decide)
    · refine x_ald0 (n := 9) dX6_takesPart_8 rfl ?_
      refine x_ild1 (n := 10) dX6_takesPart_9 rfl ?_
      refine x_ild2 (n := 11) dX6_takesPart_10 rfl ?_
      refine x_cV2 (n := 14) (d' := 3) zcX6_takesNumber mlX6_134 dX6_takesPart_11 rfl (lK_Tp hS) (Nat.le_of_ble_eq_true rfl) (Nat.le_of_ble_eq_true rfl) ?_
      refine c_X6_takesNumber hS hbe he h hc hb hpt hon (fun h5 => absurd h5 h4) (fun h5 J hJ hJs => ?_)
      refine x_some ?_
      refine r_zret dX6_takesPart_14 rfl (by first | exact nar0 | exact nar1 | exact zb_nar _) ?_
      exact hq h5 J hJ hJs
theorem c_X6_takesPartS (hS : ShL Z) {b e : Nat} {w : Int32} (h1 : I 244 1 = nI t) (ht : t ≤ 96) (hbt : b < t) (hD : isDi (I 245) t b = false) (hL : isLe (I 245) t b = false) (h : tpS I cd st ob on pt want) (hc : st.length < 96) (hob : ob ≤ 8) (hon : on ≤ 8)
    (hq0 : ¬ (I 245 b = nI 40 ∧ ob < 8) → ¬ (I 245 b = nI 33 ∧ on < 8) → Q (some (.int (nI 0))) Z I)
    (hq1 : I 245 b = nI 40 → ob < 8 → ∀ J, tpO I J → tpS J cd (40 :: st) (ob + 1) on pt want → Q (some (.int (nI 1))) Z J)
    (hq2 : I 245 b = nI 33 → on < 8 → ∀ J, tpO I J → tpS J cd (33 :: st) ob (on + 1) pt want → Q (some (.int (nI 1))) Z J) : zM l G mX6_takesPart 4 0 0 [.ref 244, .int (nI b), .int w] Z I Q := by
  refine x_entry [some (.ref 244), some (.int (nI b)), some (.int w), none] 1 rfl rfl (Nat.le_of_ble_eq_true rfl) ?_
  have h9 : I 244 9 = nI ob := h.2.2.2.2.2.1
  have h10 : I 244 10 = nI on := h.2.2.2.2.2.2.1
  have hback : ¬ (I 245 b = nI 40 ∧ ob < 8) → zX l G mX6_takesPart 4 0 0 108 [some (.ref 244), some (.int (nI b)), some (.int w), none] [] Z I Q := by
    intro a1
    refine x_ald0 (n := 109) dX6_takesPart_108 rfl ?_
    refine x_getR (n := 112) flX6_9 rfl dX6_takesPart_109 rfl (lK_Tp hS) (lP_bytes hS) ?_
    refine x_ild1 (n := 113) dX6_takesPart_112 rfl ?_
    refine x_ialdN (n := 114) dX6_takesPart_113 rfl (lA_bytes hS) (Nat.le_of_ble_eq_true rfl) (by omega) ?_
    refine x_bipush (n := 116) (v := nI 33) dX6_takesPart_114 rfl (by decide) ?_
    refine x_icmp_ne (n := 119) (tgt := 145) dX6_takesPart_116 rfl (by decide) (fun c_116 => ?_) (fun c_116 => ?_)
    · refine x_ic0 (n := 146) dX6_takesPart_145 rfl ?_
      refine r_zret dX6_takesPart_146 rfl (by first | exact nar0 | exact nar1 | exact zb_nar _) ?_
      first | exact hq0 a1 (fun b => c_116 b.1) | exact hq0 a1 (fun b => absurd b.2 (by omega))
    · refine x_ald0 (n := 120) dX6_takesPart_119 rfl ?_
      refine x_getI (n := 123) flX6_35 rfl dX6_takesPart_120 rfl (lK_Tp hS) ?_
      rw [h10]
      refine x_bipush (n := 125) (v := nI 8) dX6_takesPart_123 rfl (by decide) ?_
      refine x_icmpN_ge (n := 128) (tgt := 145) dX6_takesPart_125 rfl (by decide) (by omega) (by omega) (fun c_125 => ?_) (fun c_125 => ?_)
      · refine x_ic0 (n := 146) dX6_takesPart_145 rfl ?_
        refine r_zret dX6_takesPart_146 rfl (by first | exact nar0 | exact nar1 | exact zb_nar _) ?_
        first | exact hq0 a1 (fun b => c_116 b.1) | exact hq0 a1 (fun b => absurd b.2 (by omega))
      · refine x_ald0 (n := 129) dX6_takesPart_128 rfl ?_
        refine x_dup (n := 130) dX6_takesPart_129 rfl rfl ?_
        refine x_getI (n := 133) flX6_35 rfl dX6_takesPart_130 rfl (lK_Tp hS) ?_
        rw [h10]
        refine x_ic1 (n := 134) dX6_takesPart_133 rfl ?_
        refine x_iaddN (n := 135) dX6_takesPart_134 rfl ?_
        refine x_putI (n := 138) flX6_35 rfl (Or.inl rfl) rfl rfl dX6_takesPart_135 rfl (lK_Tp hS) ?_
        refine x_ald0 (n := 139) dX6_takesPart_138 rfl ?_
        refine x_bipush (n := 141) (v := nI 33) dX6_takesPart_139 rfl (by decide) ?_
        refine x_cV1 (n := 144) (d' := 0) zcX6_pushSign mlX6_147 dX6_takesPart_141 rfl (lK_Tp hS) (Nat.le_of_ble_eq_true rfl) (Nat.le_of_ble_eq_true rfl) ?_
        refine c_X6_pushSign hS (tpS_10 h (on + 1)) hc (fun J hJ hJs => ?_)
        refine x_some ?_
        refine r_zret dX6_takesPart_144 rfl (by first | exact nar0 | exact nar1 | exact zb_nar _) ?_
        exact hq2 c_116 (by omega) J (tpO_t (tpO_f tpO_r (by omega)) hJ) hJs
  refine x_ald0 (n := 1) dX6_takesPart_0 rfl ?_
  refine x_ild1 (n := 2) dX6_takesPart_1 rfl ?_
  refine x_cV1 (n := 5) (d' := 1) zcX6_isDigit mlX6_96 dX6_takesPart_2 rfl (lK_Tp hS) (Nat.le_of_ble_eq_true rfl) (Nat.le_of_ble_eq_true rfl) ?_
  refine c_X6_isDigit hS h1 ht (by omega) ?_
  refine x_some ?_
  refine x_zif_eq (n := 8) (tgt := 15) dX6_takesPart_5 rfl (by decide) (fun c_5 => ?_) (fun c_5 => ?_)
  · refine x_ald0 (n := 16) dX6_takesPart_15 rfl ?_
    refine x_ild1 (n := 17) dX6_takesPart_16 rfl ?_
    refine x_cV1 (n := 20) (d' := 1) zcX6_isLetter mlX6_93 dX6_takesPart_17 rfl (lK_Tp hS) (Nat.le_of_ble_eq_true rfl) (Nat.le_of_ble_eq_true rfl) ?_
    refine c_X6_isLetter hS h1 ht (by omega) ?_
    refine x_some ?_
    refine x_zif_eq (n := 23) (tgt := 71) dX6_takesPart_20 rfl (by decide) (fun c_20 => ?_) (fun c_20 => ?_)
    · refine x_ald0 (n := 72) dX6_takesPart_71 rfl ?_
      refine x_getR (n := 75) flX6_9 rfl dX6_takesPart_72 rfl (lK_Tp hS) (lP_bytes hS) ?_
      refine x_ild1 (n := 76) dX6_takesPart_75 rfl ?_
      refine x_ialdN (n := 77) dX6_takesPart_76 rfl (lA_bytes hS) (Nat.le_of_ble_eq_true rfl) (by omega) ?_
      refine x_bipush (n := 79) (v := nI 40) dX6_takesPart_77 rfl (by decide) ?_
      refine x_icmp_ne (n := 82) (tgt := 108) dX6_takesPart_79 rfl (by decide) (fun c_79 => ?_) (fun c_79 => ?_)
      · first | exact hback (fun b => absurd b.2 (by omega)) | exact hback (fun b => c_79 b.1)
      · refine x_ald0 (n := 83) dX6_takesPart_82 rfl ?_
        refine x_getI (n := 86) flX6_32 rfl dX6_takesPart_83 rfl (lK_Tp hS) ?_
        rw [h9]
        refine x_bipush (n := 88) (v := nI 8) dX6_takesPart_86 rfl (by decide) ?_
        refine x_icmpN_ge (n := 91) (tgt := 108) dX6_takesPart_88 rfl (by decide) (by omega) (by omega) (fun c_88 => ?_) (fun c_88 => ?_)
        · first | exact hback (fun b => absurd b.2 (by omega)) | exact hback (fun b => c_79 b.1)
        · refine x_ald0 (n := 92) dX6_takesPart_91 rfl ?_
          refine x_dup (n := 93) dX6_takesPart_92 rfl rfl ?_
          refine x_getI (n := 96) flX6_32 rfl dX6_takesPart_93 rfl (lK_Tp hS) ?_
          rw [h9]
          refine x_ic1 (n := 97) dX6_takesPart_96 rfl ?_
          refine x_iaddN (n := 98) dX6_takesPart_97 rfl ?_
          refine x_putI (n := 101) flX6_32 rfl (Or.inl rfl) rfl rfl dX6_takesPart_98 rfl (lK_Tp hS) ?_
          refine x_ald0 (n := 102) dX6_takesPart_101 rfl ?_
          refine x_bipush (n := 104) (v := nI 40) dX6_takesPart_102 rfl (by decide) ?_
          refine x_cV1 (n := 107) (d' := 0) zcX6_pushSign mlX6_147 dX6_takesPart_104 rfl (lK_Tp hS) (Nat.le_of_ble_eq_true rfl) (Nat.le_of_ble_eq_true rfl) ?_
          refine c_X6_pushSign hS (tpS_9 h (ob + 1)) hc (fun J hJ hJs => ?_)
          refine x_some ?_
          refine r_zret dX6_takesPart_107 rfl (by first | exact nar0 | exact nar1 | exact zb_nar _) ?_
          exact hq1 c_79 (by omega) J (tpO_t (tpO_f tpO_r (by omega)) hJ) hJs
    · exact absurd (c_20.symm.trans hL) (by decide)
  · exact absurd (c_5.symm.trans hD) (by decide)
end
