section
variable {l : Launch} {G : zG} {Z : zS} {I : zI} {g : Nat → Int32} {Q : Option Value → zS → zI → Prop}
def pileOK (f : Nat → Int32) : List Int32 → Prop
  | [] => True
  | x :: S => f S.length = x ∧ pileOK f S
theorem pileOK_up {f : Nat → Int32} {j : Nat} {v : Int32} : ∀ {S : List Int32}, S.length ≤ j → pileOK f S → pileOK (upd f j v) S
  | [], _, _ => trivial
  | x :: S, h, ⟨h1, h2⟩ => by
    have h' : S.length + 1 ≤ j := h
    refine ⟨?_, pileOK_up (by omega) h2⟩
    show (if S.length = j then v else f S.length) = x
    rw [if_neg (by omega)]; exact h1
theorem zdec {h : Nat} (h1 : 1 ≤ h) : nI h + Int32.ofInt (-1) = nI (h - 1) := by
  have := pk_sub (a := h) (b := 1) h1
  rw [← this]
  apply Int32.toInt_inj.mp
  rw [Int32.toInt_add, Int32.toInt_sub]
  have e1 : (Int32.ofInt (-1)).toInt = -1 := by decide
  have e2 : (nI 1).toInt = 1 := by decide
  rw [e1, e2]; rfl
theorem step_0 (nm : Int32 → Int32) (v : Int32) (s : List Int32) : stepF nm (nI 0) v s = v :: s := if_pos rfl
theorem step_1 (nm : Int32 → Int32) (v : Int32) (s : List Int32) : stepF nm (nI 1) v s = nm v :: s := by unfold stepF; rw [if_neg (by decide), if_pos rfl]
theorem step_n (nm : Int32 → Int32) (x : Int32) (s : List Int32) : stepF nm (nI 2) (nI 33) (x :: s) = (if x = 0 then nI 1 else nI 0) :: s := by unfold stepF; rw [if_neg (by decide), if_neg (by decide)]; simp only [if_pos]
theorem step_j (nm : Int32 → Int32) {j : Nat} (hj : signOK j) (x y : Int32) (s : List Int32) : stepF nm (nI 2) (nI j) (x :: y :: s) = joinF (nI j) y x :: s := by
  unfold stepF; rw [if_neg (by decide), if_neg (by decide)]
  have : ¬ nI j = nI 33 := by rcases hj with rfl | rfl | rfl | rfl | rfl | rfl | rfl | rfl | rfl <;> decide
  simp only [if_neg this]
theorem nameOK_lt {key j : Nat} (h : nameOK key j) : j < 128 := by unfold nameOK at h; omega
theorem l_X12_worked (hZ : ShR Z) {t M : Nat} {H : Nat → Nat} {key : Nat} {nm : Int32 → Int32} (ht : t < 14) (hM : g (2520 + 200 * t + 3) = nI M) (hM2 : M ≤ 96) (hH0 : H M = 1) (hHs : ∀ k, k < M → stepH key (g (2520 + 200 * t + 4 + 2 * k)) (g (2520 + 200 * t + 4 + 2 * k + 1)) (H k) (H (k + 1))) (hN : ∀ j, nameOK key j → I q_named j = nm (nI j))
    (hq : ∀ I' : zI, (∀ a, a ≠ q_pile → I' a = I a) → Q (some (.int ((stF g t nm M).headD 0))) Z (va_up I' q_s g)) : ∀ m k (I' : zI), (∀ a, a ≠ q_pile → I' a = I a) → k ≤ M → M - k < m → (stF g t nm k).length = H k → pileOK (I' q_pile) (stF g t nm k) → H k ≤ k → zX l G mX12_worked 1 0 0 4 [some (.ref qR), some (.int (nI t)), some (.int (nI (H k))), some (.int (nI k)), none, none] [] Z (va_up I' q_s g) Q := by
  intro m
  induction m with
  | zero => intro k _ _ _ h; exact absurd h (by omega)
  | succ m ih =>
    intro k I' hI hk hm hlen hpile hHk
    by_cases hkM : k = M
    · subst hkM
      refine x_ild3 (n := 5) dX12_worked_4 rfl ?_
      refine x_ald0 (n := 6) dX12_worked_5 rfl ?_
      refine x_getR (n := 9) flX12_7 rfl dX12_worked_6 rfl (rK hZ) (rP_s hZ) ?_
      refine x_ald0 (n := 10) dX12_worked_9 rfl ?_
      refine x_ild1 (n := 11) dX12_worked_10 rfl ?_
      refine x_cV1 (n := 14) (d' := 0) zcX12_textAt mlX12_302 dX12_worked_11 rfl (rK hZ) (Nat.le_of_ble_eq_true rfl) (Nat.le_of_ble_eq_true rfl) ?_
      refine c_X12_textAt ?_
      refine x_some ?_
      refine x_ic3 (n := 15) dX12_worked_14 rfl ?_
      refine x_iaddN (n := 16) dX12_worked_15 rfl ?_
      refine x_sld (n := 17) dX12_worked_16 rfl hZ (by omega) ?_
      rw [hM]
      refine x_icmpN_ge (n := 20) (tgt := 163) dX12_worked_17 rfl (by decide) (by omega) (by omega) (fun c_17 => ?_) (fun c_17 => ?_)
      · refine x_ald0 (n := 164) dX12_worked_163 rfl ?_
        refine x_getR (n := 167) flX12_55 rfl dX12_worked_164 rfl (rK hZ) (rP_pile hZ) ?_
        refine x_ic0 (n := 168) dX12_worked_167 rfl ?_
        refine x_old (n := 169) dX12_worked_168 rfl (rA_pile hZ) (by decide) (Nat.le_of_ble_eq_true rfl) (by omega) ?_
        refine r_iret dX12_worked_169 rfl ?_
        rw [hH0] at hlen
        match hst : stF g t nm k, hlen, hpile with
        | [x], _, hp =>
          have := hq I' hI
          rw [hst] at this
          rw [show I' q_pile 0 = x from hp.1]; exact this
      · exact absurd c_17 (by omega)
    · have hs := hHs k (by omega)
      have es : stF g t nm (k + 1) = stepF nm (g (2520 + 200 * t + 4 + 2 * k)) (g (2520 + 200 * t + 4 + 2 * k + 1)) (stF g t nm k) := rfl
      have next : ∀ (I2 : zI) (b : Nat → Int32) (hh : Nat), I2 = va_up I' q_pile b → H (k + 1) = hh → (stF g t nm (k + 1)).length = hh → pileOK b (stF g t nm (k + 1)) → hh ≤ k + 1 → zX l G mX12_worked 1 0 0 4 [some (.ref qR), some (.int (nI t)), some (.int (nI hh)), some (.int (nI (k + 1))), none, none] [] Z (va_up I2 q_s g) Q := by
        intro I2 b hh e1 e2 e3 e4 e5
        subst e1; subst e2
        exact ih (k + 1) _ (fun a ha => by rw [va_up_off ha]; exact hI a ha) (by omega) (by omega) e3 (by rw [va_up_same]; exact e4) e5
      rcases hs with ⟨hw, h2⟩ | ⟨hw, h2, j, hj, hv⟩ | ⟨hw, hv, h1, h2⟩ | ⟨hw, ⟨j, hj, hv⟩, h1, h2⟩
      · skip
        refine x_ild3 (n := 5) dX12_worked_4 rfl ?_
        refine x_ald0 (n := 6) dX12_worked_5 rfl ?_
        refine x_getR (n := 9) flX12_7 rfl dX12_worked_6 rfl (rK hZ) (rP_s hZ) ?_
        refine x_ald0 (n := 10) dX12_worked_9 rfl ?_
        refine x_ild1 (n := 11) dX12_worked_10 rfl ?_
        refine x_cV1 (n := 14) (d' := 0) zcX12_textAt mlX12_302 dX12_worked_11 rfl (rK hZ) (Nat.le_of_ble_eq_true rfl) (Nat.le_of_ble_eq_true rfl) ?_
        refine c_X12_textAt ?_
        refine x_some ?_
        refine x_ic3 (n := 15) dX12_worked_14 rfl ?_
        refine x_iaddN (n := 16) dX12_worked_15 rfl ?_
        refine x_sld (n := 17) dX12_worked_16 rfl hZ (by omega) ?_
        rw [hM]
        refine x_icmpN_ge (n := 20) (tgt := 163) dX12_worked_17 rfl (by decide) (by omega) (by omega) (fun c_17 => ?_) (fun c_17 => ?_)
        · exact absurd c_17 (by omega)
        · refine x_ald0 (n := 21) dX12_worked_20 rfl ?_
          refine x_getR (n := 24) flX12_7 rfl dX12_worked_21 rfl (rK hZ) (rP_s hZ) ?_
          refine x_ald0 (n := 25) dX12_worked_24 rfl ?_
          refine x_ild1 (n := 26) dX12_worked_25 rfl ?_
          refine x_cV1 (n := 29) (d' := 0) zcX12_textAt mlX12_302 dX12_worked_26 rfl (rK hZ) (Nat.le_of_ble_eq_true rfl) (Nat.le_of_ble_eq_true rfl) ?_
          refine c_X12_textAt ?_
          refine x_some ?_
          refine x_ic4 (n := 30) dX12_worked_29 rfl ?_
          refine x_iaddN (n := 31) dX12_worked_30 rfl ?_
          refine x_ic2 (n := 32) dX12_worked_31 rfl ?_
          refine x_ild3 (n := 33) dX12_worked_32 rfl ?_
          refine x_imulN (n := 34) dX12_worked_33 rfl ?_
          refine x_iaddN (n := 35) dX12_worked_34 rfl ?_
          refine x_sld (n := 36) dX12_worked_35 rfl hZ (by omega) ?_
          rw [hw]
          refine x_ist4 (n := 38) dX12_worked_36 rfl (by decide) rfl ?_
          refine x_ald0 (n := 39) dX12_worked_38 rfl ?_
          refine x_getR (n := 42) flX12_7 rfl dX12_worked_39 rfl (rK hZ) (rP_s hZ) ?_
          refine x_ald0 (n := 43) dX12_worked_42 rfl ?_
          refine x_ild1 (n := 44) dX12_worked_43 rfl ?_
          refine x_cV1 (n := 47) (d' := 0) zcX12_textAt mlX12_302 dX12_worked_44 rfl (rK hZ) (Nat.le_of_ble_eq_true rfl) (Nat.le_of_ble_eq_true rfl) ?_
          refine c_X12_textAt ?_
          refine x_some ?_
          refine x_ic4 (n := 48) dX12_worked_47 rfl ?_
          refine x_iaddN (n := 49) dX12_worked_48 rfl ?_
          refine x_ic2 (n := 50) dX12_worked_49 rfl ?_
          refine x_ild3 (n := 51) dX12_worked_50 rfl ?_
          refine x_imulN (n := 52) dX12_worked_51 rfl ?_
          refine x_iaddN (n := 53) dX12_worked_52 rfl ?_
          refine x_ic1 (n := 54) dX12_worked_53 rfl ?_
          refine x_iaddN (n := 55) dX12_worked_54 rfl ?_
          refine x_sld (n := 56) dX12_worked_55 rfl hZ (by omega) ?_
          refine x_ist5 (n := 58) dX12_worked_56 rfl (by decide) rfl ?_
          refine x_ild4 (n := 60) dX12_worked_58 rfl ?_
          refine x_ic2 (n := 61) dX12_worked_60 rfl ?_
          refine x_icmpN_eq (n := 64) (tgt := 93) dX12_worked_61 rfl (by decide) (by omega) (by omega) (fun c_61 => ?_) (fun c_61 => ?_)
          · exact absurd c_61 (by decide)
          · refine x_ald0 (n := 65) dX12_worked_64 rfl ?_
            refine x_getR (n := 68) flX12_55 rfl dX12_worked_65 rfl (rK hZ) (rP_pile hZ) ?_
            refine x_ild2 (n := 69) dX12_worked_68 rfl ?_
            refine x_ild4 (n := 71) dX12_worked_69 rfl ?_
            refine x_if_ne (n := 74) (tgt := 79) dX12_worked_71 rfl (by decide) (fun c_71 => ?_) (fun c_71 => ?_)
            · exact absurd (by decide) c_71
            · refine x_ild5 (n := 76) dX12_worked_74 rfl ?_
              refine x_goto (n := 86) dX12_worked_76 (by decide) ?_
              refine x_ost (n := 87) dX12_worked_86 rfl (rA_pile hZ) (by decide) (Nat.le_of_ble_eq_true rfl) (by omega) ?_
              refine x_iincN2 (n := 90) (k := 1) dX12_worked_87 rfl (by decide) rfl ?_
              refine x_goto (n := 157) dX12_worked_90 (by decide) ?_
              refine x_iincN3 (n := 160) (k := 1) dX12_worked_157 rfl (by decide) rfl ?_
              refine x_goto (n := 4) dX12_worked_160 (by decide) ?_
              refine x_fg4 (x_fg5 ?_)
              refine next _ _ _ rfl h2 ?_ ?_ (by omega)
              · rw [es, hw, step_0, List.length_cons, hlen]
              · rw [es, hw, step_0]; exact ⟨if_pos hlen, pileOK_up (by omega) hpile⟩
      · have hj2 := nameOK_lt hj
        refine x_ild3 (n := 5) dX12_worked_4 rfl ?_
        refine x_ald0 (n := 6) dX12_worked_5 rfl ?_
        refine x_getR (n := 9) flX12_7 rfl dX12_worked_6 rfl (rK hZ) (rP_s hZ) ?_
        refine x_ald0 (n := 10) dX12_worked_9 rfl ?_
        refine x_ild1 (n := 11) dX12_worked_10 rfl ?_
        refine x_cV1 (n := 14) (d' := 0) zcX12_textAt mlX12_302 dX12_worked_11 rfl (rK hZ) (Nat.le_of_ble_eq_true rfl) (Nat.le_of_ble_eq_true rfl) ?_
        refine c_X12_textAt ?_
        refine x_some ?_
        refine x_ic3 (n := 15) dX12_worked_14 rfl ?_
        refine x_iaddN (n := 16) dX12_worked_15 rfl ?_
        refine x_sld (n := 17) dX12_worked_16 rfl hZ (by omega) ?_
        rw [hM]
        refine x_icmpN_ge (n := 20) (tgt := 163) dX12_worked_17 rfl (by decide) (by omega) (by omega) (fun c_17 => ?_) (fun c_17 => ?_)
        · exact absurd c_17 (by omega)
        · refine x_ald0 (n := 21) dX12_worked_20 rfl ?_
          refine x_getR (n := 24) flX12_7 rfl dX12_worked_21 rfl (rK hZ) (rP_s hZ) ?_
          refine x_ald0 (n := 25) dX12_worked_24 rfl ?_
          refine x_ild1 (n := 26) dX12_worked_25 rfl ?_
          refine x_cV1 (n := 29) (d' := 0) zcX12_textAt mlX12_302 dX12_worked_26 rfl (rK hZ) (Nat.le_of_ble_eq_true rfl) (Nat.le_of_ble_eq_true rfl) ?_
          refine c_X12_textAt ?_
          refine x_some ?_
          refine x_ic4 (n := 30) dX12_worked_29 rfl ?_
          refine x_iaddN (n := 31) dX12_worked_30 rfl ?_
          refine x_ic2 (n := 32) dX12_worked_31 rfl ?_
          refine x_ild3 (n := 33) dX12_worked_32 rfl ?_
          refine x_imulN (n := 34) dX12_worked_33 rfl ?_
          refine x_iaddN (n := 35) dX12_worked_34 rfl ?_
          refine x_sld (n := 36) dX12_worked_35 rfl hZ (by omega) ?_
          rw [hw]
          refine x_ist4 (n := 38) dX12_worked_36 rfl (by decide) rfl ?_
          refine x_ald0 (n := 39) dX12_worked_38 rfl ?_
          refine x_getR (n := 42) flX12_7 rfl dX12_worked_39 rfl (rK hZ) (rP_s hZ) ?_
          refine x_ald0 (n := 43) dX12_worked_42 rfl ?_
          refine x_ild1 (n := 44) dX12_worked_43 rfl ?_
          refine x_cV1 (n := 47) (d' := 0) zcX12_textAt mlX12_302 dX12_worked_44 rfl (rK hZ) (Nat.le_of_ble_eq_true rfl) (Nat.le_of_ble_eq_true rfl) ?_
          refine c_X12_textAt ?_
          refine x_some ?_
          refine x_ic4 (n := 48) dX12_worked_47 rfl ?_
          refine x_iaddN (n := 49) dX12_worked_48 rfl ?_
          refine x_ic2 (n := 50) dX12_worked_49 rfl ?_
          refine x_ild3 (n := 51) dX12_worked_50 rfl ?_
          refine x_imulN (n := 52) dX12_worked_51 rfl ?_
          refine x_iaddN (n := 53) dX12_worked_52 rfl ?_
          refine x_ic1 (n := 54) dX12_worked_53 rfl ?_
          refine x_iaddN (n := 55) dX12_worked_54 rfl ?_
          refine x_sld (n := 56) dX12_worked_55 rfl hZ (by omega) ?_
          rw [hv]
          refine x_ist5 (n := 58) dX12_worked_56 rfl (by decide) rfl ?_
          refine x_ild4 (n := 60) dX12_worked_58 rfl ?_
          refine x_ic2 (n := 61) dX12_worked_60 rfl ?_
          refine x_icmpN_eq (n := 64) (tgt := 93) dX12_worked_61 rfl (by decide) (by omega) (by omega) (fun c_61 => ?_) (fun c_61 => ?_)
          · exact absurd c_61 (by decide)
          · refine x_ald0 (n := 65) dX12_worked_64 rfl ?_
            refine x_getR (n := 68) flX12_55 rfl dX12_worked_65 rfl (rK hZ) (rP_pile hZ) ?_
            refine x_ild2 (n := 69) dX12_worked_68 rfl ?_
            refine x_ild4 (n := 71) dX12_worked_69 rfl ?_
            refine x_if_ne (n := 74) (tgt := 79) dX12_worked_71 rfl (by decide) (fun c_71 => ?_) (fun c_71 => ?_)
            · refine x_ald0 (n := 80) dX12_worked_79 rfl ?_
              refine x_getR (n := 83) flX12_52 rfl dX12_worked_80 rfl (rK hZ) (rP_named hZ) ?_
              refine x_ild5 (n := 85) dX12_worked_83 rfl ?_
              refine x_old (n := 86) dX12_worked_85 rfl (rA_named hZ) (by decide) (Nat.le_of_ble_eq_true rfl) (by omega) ?_
              rw [hI q_named (by decide), hN j hj]
              refine x_ost (n := 87) dX12_worked_86 rfl (rA_pile hZ) (by decide) (Nat.le_of_ble_eq_true rfl) (by omega) ?_
              refine x_iincN2 (n := 90) (k := 1) dX12_worked_87 rfl (by decide) rfl ?_
              refine x_goto (n := 157) dX12_worked_90 (by decide) ?_
              refine x_iincN3 (n := 160) (k := 1) dX12_worked_157 rfl (by decide) rfl ?_
              refine x_goto (n := 4) dX12_worked_160 (by decide) ?_
              refine x_fg4 (x_fg5 ?_)
              refine next _ _ _ rfl h2 ?_ ?_ (by omega)
              · rw [es, hw, hv, step_1, List.length_cons, hlen]
              · rw [es, hw, hv, step_1]; exact ⟨if_pos hlen, pileOK_up (by omega) hpile⟩
            · exact absurd c_71 (by decide)
      · obtain ⟨x, S, hS⟩ : ∃ x S, stF g t nm k = x :: S := by
          cases h : stF g t nm k with
          | nil => rw [h] at hlen; simp at hlen; omega
          | cons x S => exact ⟨x, S, rfl⟩
        rw [hS] at hlen hpile
        have hl : S.length + 1 = H k := hlen
        rw [← hl]
        refine x_ild3 (n := 5) dX12_worked_4 rfl ?_
        refine x_ald0 (n := 6) dX12_worked_5 rfl ?_
        refine x_getR (n := 9) flX12_7 rfl dX12_worked_6 rfl (rK hZ) (rP_s hZ) ?_
        refine x_ald0 (n := 10) dX12_worked_9 rfl ?_
        refine x_ild1 (n := 11) dX12_worked_10 rfl ?_
        refine x_cV1 (n := 14) (d' := 0) zcX12_textAt mlX12_302 dX12_worked_11 rfl (rK hZ) (Nat.le_of_ble_eq_true rfl) (Nat.le_of_ble_eq_true rfl) ?_
        refine c_X12_textAt ?_
        refine x_some ?_
        refine x_ic3 (n := 15) dX12_worked_14 rfl ?_
        refine x_iaddN (n := 16) dX12_worked_15 rfl ?_
        refine x_sld (n := 17) dX12_worked_16 rfl hZ (by omega) ?_
        rw [hM]
        refine x_icmpN_ge (n := 20) (tgt := 163) dX12_worked_17 rfl (by decide) (by omega) (by omega) (fun c_17 => ?_) (fun c_17 => ?_)
        · exact absurd c_17 (by omega)
        · refine x_ald0 (n := 21) dX12_worked_20 rfl ?_
          refine x_getR (n := 24) flX12_7 rfl dX12_worked_21 rfl (rK hZ) (rP_s hZ) ?_
          refine x_ald0 (n := 25) dX12_worked_24 rfl ?_
          refine x_ild1 (n := 26) dX12_worked_25 rfl ?_
          refine x_cV1 (n := 29) (d' := 0) zcX12_textAt mlX12_302 dX12_worked_26 rfl (rK hZ) (Nat.le_of_ble_eq_true rfl) (Nat.le_of_ble_eq_true rfl) ?_
          refine c_X12_textAt ?_
          refine x_some ?_
          refine x_ic4 (n := 30) dX12_worked_29 rfl ?_
          refine x_iaddN (n := 31) dX12_worked_30 rfl ?_
          refine x_ic2 (n := 32) dX12_worked_31 rfl ?_
          refine x_ild3 (n := 33) dX12_worked_32 rfl ?_
          refine x_imulN (n := 34) dX12_worked_33 rfl ?_
          refine x_iaddN (n := 35) dX12_worked_34 rfl ?_
          refine x_sld (n := 36) dX12_worked_35 rfl hZ (by omega) ?_
          rw [hw]
          refine x_ist4 (n := 38) dX12_worked_36 rfl (by decide) rfl ?_
          refine x_ald0 (n := 39) dX12_worked_38 rfl ?_
          refine x_getR (n := 42) flX12_7 rfl dX12_worked_39 rfl (rK hZ) (rP_s hZ) ?_
          refine x_ald0 (n := 43) dX12_worked_42 rfl ?_
          refine x_ild1 (n := 44) dX12_worked_43 rfl ?_
          refine x_cV1 (n := 47) (d' := 0) zcX12_textAt mlX12_302 dX12_worked_44 rfl (rK hZ) (Nat.le_of_ble_eq_true rfl) (Nat.le_of_ble_eq_true rfl) ?_
          refine c_X12_textAt ?_
          refine x_some ?_
          refine x_ic4 (n := 48) dX12_worked_47 rfl ?_
          refine x_iaddN (n := 49) dX12_worked_48 rfl ?_
          refine x_ic2 (n := 50) dX12_worked_49 rfl ?_
          refine x_ild3 (n := 51) dX12_worked_50 rfl ?_
          refine x_imulN (n := 52) dX12_worked_51 rfl ?_
          refine x_iaddN (n := 53) dX12_worked_52 rfl ?_
          refine x_ic1 (n := 54) dX12_worked_53 rfl ?_
          refine x_iaddN (n := 55) dX12_worked_54 rfl ?_
          refine x_sld (n := 56) dX12_worked_55 rfl hZ (by omega) ?_
          rw [hv]
          refine x_ist5 (n := 58) dX12_worked_56 rfl (by decide) rfl ?_
          refine x_ild4 (n := 60) dX12_worked_58 rfl ?_
          refine x_ic2 (n := 61) dX12_worked_60 rfl ?_
          refine x_icmpN_eq (n := 64) (tgt := 93) dX12_worked_61 rfl (by decide) (by omega) (by omega) (fun c_61 => ?_) (fun c_61 => ?_)
          · refine x_ild5 (n := 95) dX12_worked_93 rfl ?_
            refine x_bipush (n := 97) (v := nI 33) dX12_worked_95 rfl (by decide) ?_
            refine x_icmpN_ne (n := 100) (tgt := 127) dX12_worked_97 rfl (by decide) (by omega) (by omega) (fun c_97 => ?_) (fun c_97 => ?_)
            · exact absurd rfl c_97
            · refine x_ald0 (n := 101) dX12_worked_100 rfl ?_
              refine x_getR (n := 104) flX12_55 rfl dX12_worked_101 rfl (rK hZ) (rP_pile hZ) ?_
              refine x_ild2 (n := 105) dX12_worked_104 rfl ?_
              refine x_ic1 (n := 106) dX12_worked_105 rfl ?_
              refine x_isubN (n := 107) dX12_worked_106 rfl (by omega) ?_
              rw [Nat.add_sub_cancel]
              refine x_ald0 (n := 108) dX12_worked_107 rfl ?_
              refine x_getR (n := 111) flX12_55 rfl dX12_worked_108 rfl (rK hZ) (rP_pile hZ) ?_
              refine x_ild2 (n := 112) dX12_worked_111 rfl ?_
              refine x_ic1 (n := 113) dX12_worked_112 rfl ?_
              refine x_isubN (n := 114) dX12_worked_113 rfl (by omega) ?_
              rw [Nat.add_sub_cancel]
              refine x_old (n := 115) dX12_worked_114 rfl (rA_pile hZ) (by decide) (Nat.le_of_ble_eq_true rfl) (by omega) ?_
              rw [hpile.1]
              refine x_if_ne (n := 118) (tgt := 122) dX12_worked_115 rfl (by decide) (fun c_115 => ?_) (fun c_115 => ?_)
              · refine x_ic0 (n := 123) dX12_worked_122 rfl ?_
                refine x_ost (n := 124) dX12_worked_123 rfl (rA_pile hZ) (by decide) (Nat.le_of_ble_eq_true rfl) (by omega) ?_
                refine x_goto (n := 157) dX12_worked_124 (by decide) ?_
                refine x_iincN3 (n := 160) (k := 1) dX12_worked_157 rfl (by decide) rfl ?_
                refine x_goto (n := 4) dX12_worked_160 (by decide) ?_
                refine x_fg4 (x_fg5 ?_)
                refine next _ _ _ rfl (by omega) ?_ ?_ (by omega)
                · rw [es, hw, hv, hS, step_n, List.length_cons]
                · rw [es, hw, hv, hS, step_n]; first | (rw [if_pos c_115]; exact ⟨if_pos rfl, pileOK_up (by omega) hpile.2⟩) | (rw [if_neg c_115]; exact ⟨if_pos rfl, pileOK_up (by omega) hpile.2⟩)
              · refine x_ic1 (n := 119) dX12_worked_118 rfl ?_
                refine x_goto (n := 123) dX12_worked_119 (by decide) ?_
                refine x_ost (n := 124) dX12_worked_123 rfl (rA_pile hZ) (by decide) (Nat.le_of_ble_eq_true rfl) (by omega) ?_
                refine x_goto (n := 157) dX12_worked_124 (by decide) ?_
                refine x_iincN3 (n := 160) (k := 1) dX12_worked_157 rfl (by decide) rfl ?_
                refine x_goto (n := 4) dX12_worked_160 (by decide) ?_
                refine x_fg4 (x_fg5 ?_)
                refine next _ _ _ rfl (by omega) ?_ ?_ (by omega)
                · rw [es, hw, hv, hS, step_n, List.length_cons]
                · rw [es, hw, hv, hS, step_n]; first | (rw [if_pos c_115]; exact ⟨if_pos rfl, pileOK_up (by omega) hpile.2⟩) | (rw [if_neg c_115]; exact ⟨if_pos rfl, pileOK_up (by omega) hpile.2⟩)
          · exact absurd rfl c_61
      · obtain ⟨x, y, S, hS⟩ : ∃ x y S, stF g t nm k = x :: y :: S := by
          match h : stF g t nm k, hlen with
          | [], hl => simp at hl; omega
          | [x], hl => simp at hl; omega
          | x :: y :: S, _ => exact ⟨x, y, S, rfl⟩
        rw [hS] at hlen hpile
        have hl : S.length + 2 = H k := hlen
        rw [← hl]
        have hj33 : ¬ j = 33 ∧ j < 200 := by unfold signOK at hj; omega
        refine x_ild3 (n := 5) dX12_worked_4 rfl ?_
        refine x_ald0 (n := 6) dX12_worked_5 rfl ?_
        refine x_getR (n := 9) flX12_7 rfl dX12_worked_6 rfl (rK hZ) (rP_s hZ) ?_
        refine x_ald0 (n := 10) dX12_worked_9 rfl ?_
        refine x_ild1 (n := 11) dX12_worked_10 rfl ?_
        refine x_cV1 (n := 14) (d' := 0) zcX12_textAt mlX12_302 dX12_worked_11 rfl (rK hZ) (Nat.le_of_ble_eq_true rfl) (Nat.le_of_ble_eq_true rfl) ?_
        refine c_X12_textAt ?_
        refine x_some ?_
        refine x_ic3 (n := 15) dX12_worked_14 rfl ?_
        refine x_iaddN (n := 16) dX12_worked_15 rfl ?_
        refine x_sld (n := 17) dX12_worked_16 rfl hZ (by omega) ?_
        rw [hM]
        refine x_icmpN_ge (n := 20) (tgt := 163) dX12_worked_17 rfl (by decide) (by omega) (by omega) (fun c_17 => ?_) (fun c_17 => ?_)
        · exact absurd c_17 (by omega)
        · refine x_ald0 (n := 21) dX12_worked_20 rfl ?_
          refine x_getR (n := 24) flX12_7 rfl dX12_worked_21 rfl (rK hZ) (rP_s hZ) ?_
          refine x_ald0 (n := 25) dX12_worked_24 rfl ?_
          refine x_ild1 (n := 26) dX12_worked_25 rfl ?_
          refine x_cV1 (n := 29) (d' := 0) zcX12_textAt mlX12_302 dX12_worked_26 rfl (rK hZ) (Nat.le_of_ble_eq_true rfl) (Nat.le_of_ble_eq_true rfl) ?_
          refine c_X12_textAt ?_
          refine x_some ?_
          refine x_ic4 (n := 30) dX12_worked_29 rfl ?_
          refine x_iaddN (n := 31) dX12_worked_30 rfl ?_
          refine x_ic2 (n := 32) dX12_worked_31 rfl ?_
          refine x_ild3 (n := 33) dX12_worked_32 rfl ?_
          refine x_imulN (n := 34) dX12_worked_33 rfl ?_
          refine x_iaddN (n := 35) dX12_worked_34 rfl ?_
          refine x_sld (n := 36) dX12_worked_35 rfl hZ (by omega) ?_
          rw [hw]
          refine x_ist4 (n := 38) dX12_worked_36 rfl (by decide) rfl ?_
          refine x_ald0 (n := 39) dX12_worked_38 rfl ?_
          refine x_getR (n := 42) flX12_7 rfl dX12_worked_39 rfl (rK hZ) (rP_s hZ) ?_
          refine x_ald0 (n := 43) dX12_worked_42 rfl ?_
          refine x_ild1 (n := 44) dX12_worked_43 rfl ?_
          refine x_cV1 (n := 47) (d' := 0) zcX12_textAt mlX12_302 dX12_worked_44 rfl (rK hZ) (Nat.le_of_ble_eq_true rfl) (Nat.le_of_ble_eq_true rfl) ?_
          refine c_X12_textAt ?_
          refine x_some ?_
          refine x_ic4 (n := 48) dX12_worked_47 rfl ?_
          refine x_iaddN (n := 49) dX12_worked_48 rfl ?_
          refine x_ic2 (n := 50) dX12_worked_49 rfl ?_
          refine x_ild3 (n := 51) dX12_worked_50 rfl ?_
          refine x_imulN (n := 52) dX12_worked_51 rfl ?_
          refine x_iaddN (n := 53) dX12_worked_52 rfl ?_
          refine x_ic1 (n := 54) dX12_worked_53 rfl ?_
          refine x_iaddN (n := 55) dX12_worked_54 rfl ?_
          refine x_sld (n := 56) dX12_worked_55 rfl hZ (by omega) ?_
          rw [hv]
          refine x_ist5 (n := 58) dX12_worked_56 rfl (by decide) rfl ?_
          refine x_ild4 (n := 60) dX12_worked_58 rfl ?_
          refine x_ic2 (n := 61) dX12_worked_60 rfl ?_
          refine x_icmpN_eq (n := 64) (tgt := 93) dX12_worked_61 rfl (by decide) (by omega) (by omega) (fun c_61 => ?_) (fun c_61 => ?_)
          · refine x_ild5 (n := 95) dX12_worked_93 rfl ?_
            refine x_bipush (n := 97) (v := nI 33) dX12_worked_95 rfl (by decide) ?_
            refine x_icmpN_ne (n := 100) (tgt := 127) dX12_worked_97 rfl (by decide) (by omega) (by omega) (fun c_97 => ?_) (fun c_97 => ?_)
            · refine x_iinc2 (n := 130) (v := nI (S.length + 1)) dX12_worked_127 rfl (by decide) (zdec (by omega)) rfl ?_
              refine x_ald0 (n := 131) dX12_worked_130 rfl ?_
              refine x_getR (n := 134) flX12_55 rfl dX12_worked_131 rfl (rK hZ) (rP_pile hZ) ?_
              refine x_ild2 (n := 135) dX12_worked_134 rfl ?_
              refine x_ic1 (n := 136) dX12_worked_135 rfl ?_
              refine x_isubN (n := 137) dX12_worked_136 rfl (by omega) ?_
              rw [Nat.add_sub_cancel]
              refine x_ild5 (n := 139) dX12_worked_137 rfl ?_
              refine x_ald0 (n := 140) dX12_worked_139 rfl ?_
              refine x_getR (n := 143) flX12_55 rfl dX12_worked_140 rfl (rK hZ) (rP_pile hZ) ?_
              refine x_ild2 (n := 144) dX12_worked_143 rfl ?_
              refine x_ic1 (n := 145) dX12_worked_144 rfl ?_
              refine x_isubN (n := 146) dX12_worked_145 rfl (by omega) ?_
              rw [Nat.add_sub_cancel]
              refine x_old (n := 147) dX12_worked_146 rfl (rA_pile hZ) (by decide) (Nat.le_of_ble_eq_true rfl) (by omega) ?_
              rw [show I' q_pile S.length = y from hpile.2.1]
              refine x_ald0 (n := 148) dX12_worked_147 rfl ?_
              refine x_getR (n := 151) flX12_55 rfl dX12_worked_148 rfl (rK hZ) (rP_pile hZ) ?_
              refine x_ild2 (n := 152) dX12_worked_151 rfl ?_
              refine x_old (n := 153) dX12_worked_152 rfl (rA_pile hZ) (by decide) (Nat.le_of_ble_eq_true rfl) (by omega) ?_
              rw [show I' q_pile (S.length + 1) = x from hpile.1]
              refine x_cS3 (n := 156) (d' := 0) zcX12_joined mlX12_317 dX12_worked_153 rfl (Nat.le_of_ble_eq_true rfl) (Nat.le_of_ble_eq_true rfl) ?_
              refine c_X12_joined hj ?_
              refine x_some ?_
              refine x_ost (n := 157) dX12_worked_156 rfl (rA_pile hZ) (by decide) (Nat.le_of_ble_eq_true rfl) (by omega) ?_
              refine x_iincN3 (n := 160) (k := 1) dX12_worked_157 rfl (by decide) rfl ?_
              refine x_goto (n := 4) dX12_worked_160 (by decide) ?_
              refine x_fg4 (x_fg5 ?_)
              refine next _ _ _ rfl (by omega) ?_ ?_ (by omega)
              · rw [es, hw, hv, hS, step_j nm hj, List.length_cons]
              · rw [es, hw, hv, hS, step_j nm hj]; exact ⟨if_pos rfl, pileOK_up (by omega) hpile.2.2⟩
            · exact absurd c_97 hj33.1
          · exact absurd rfl c_61
theorem c_X12_worked (hZ : ShR Z) {t key : Nat} {nm : Int32 → Int32} (ht : t < 14) (hT : textOK g t) (hk : vN g (2520 + 200 * t) = key) (hN : ∀ j, nameOK key j → I q_named j = nm (nI j))
    (hq : ∀ I' : zI, (∀ a, a ≠ q_pile → I' a = I a) → Q (some (.int ((stF g t nm (vN g (2520 + 200 * t + 3))).headD 0))) Z (va_up I' q_s g)) : zM l G mX12_worked 1 0 0 [.ref qR, .int (nI t)] Z (va_up I q_s g) Q := by
  obtain ⟨-, -, -, hM, H, hH0, hH1, hHs⟩ := hT
  have hM1 := rg_nI hM (by omega) (by omega)
  have hM2 := rg_le hM (by omega)
  rw [hk] at hHs
  refine x_entry [some (.ref qR), some (.int (nI t)), none, none, none, none] 4 rfl rfl (Nat.le_of_ble_eq_true rfl) ?_
  refine x_ic0 (n := 1) dX12_worked_0 rfl ?_
  refine x_ist2 (n := 2) dX12_worked_1 rfl (by decide) rfl ?_
  refine x_ic0 (n := 3) dX12_worked_2 rfl ?_
  refine x_ist3 (n := 4) dX12_worked_3 rfl (by decide) rfl ?_
  have := l_X12_worked (l := l) (G := G) (Z := Z) (I := I) (Q := Q) hZ ht hM1 (by omega) hH1 hHs hN hq (vN g (2520 + 200 * t + 3) + 1) 0 I (fun _ _ => rfl) (by omega) (by omega) hH0.symm trivial (by omega)
  rw [hH0] at this
  exact this
end
