section
variable {l : Launch} {G : zG} {Z : zS} {I I' : zI} {g g' : Nat → Int32} {mk b : Nat} {Q : Option Value → zS → zI → Prop}
/-- the surveys stand for t -/
def svC (I : zI) (t : svS) : Prop := ∀ v, v < 4 → I (249 + 2 * v) 0 = t.1 v ∧ I (249 + 2 * v) 1 = t.2.1 v ∧ ∀ k, k < 24 → I (249 + 2 * v + 1) k = t.2.2 (24 * v + k)
def offV (I I' : zI) : Prop := ∀ a, a < 249 ∨ 257 ≤ a → I' a = I a
theorem offV_refl : offV I I := fun _ _ => rfl
theorem sv_size {t : svS} (hv : svC I t) (hO : svOK t) {v : Nat} (h : v < 4) : ∃ sz, sz ≤ 24 ∧ t.2.1 v = nI sz ∧ I (249 + 2 * v) 1 = nI sz ∧ (t.2.1 v).toInt = (sz : Int) := by
  have hr := (hO v h).2
  refine ⟨(t.2.1 v).toInt.toNat, by have := hr.1; have := hr.2; omega, ?_, ?_, by have := hr.1; omega⟩
  · apply Int32.toInt_inj.mp; rw [nI_toInt (by have := hr.2; omega)]; have := hr.1; omega
  · rw [(hv v h).2.1]; apply Int32.toInt_inj.mp; rw [nI_toInt (by have := hr.2; omega)]; have := hr.1; omega
theorem c_X11_surveyNumbered (hS : ShL Z) {v : Nat} (hv : v < 4) (hq : Q (some (.ref (249 + 2 * v))) Z I) : zM l G mX11_surveyNumbered 1 0 0 [.ref 0, .int (nI v)] Z I Q := by
  refine x_entry [some (.ref 0), some (.int (nI v))] 0 rfl rfl (Nat.le_of_ble_eq_true rfl) ?_
  have hvI : (nI v).toInt = (v : Int) := nI_toInt (by omega)
  refine x_ild1 (n := 1) dX11_surveyNumbered_0 rfl ?_
  refine x_ic0 (n := 2) dX11_surveyNumbered_1 rfl ?_
  refine x_ic3 (n := 3) dX11_surveyNumbered_2 rfl ?_
  refine x_cS3 (n := 6) (d' := 0) zcX11_inside mlX11_50 dX11_surveyNumbered_3 rfl (Nat.le_of_ble_eq_true rfl) (Nat.le_of_ble_eq_true rfl) ?_
  refine c_X11_inside true (by refine (decide_eq_true ?_).symm; rw [hvI]; exact ⟨by show (0 : Int) ≤ _; omega, by show _ ≤ (3 : Int); omega⟩) ?_
  refine x_some ?_
  refine x_if_eq (n := 9) (tgt := 18) dX11_surveyNumbered_6 rfl (by decide) (fun c_6 => ?_) (fun c_6 => ?_)
  · exact absurd c_6 (by decide)
  · refine x_ald0 (n := 10) dX11_surveyNumbered_9 rfl ?_
    refine x_getR (n := 13) flX11_31 rfl dX11_surveyNumbered_10 rfl (lK_L hS) (lP_surveys hS) ?_
    refine x_ild1 (n := 14) dX11_surveyNumbered_13 rfl ?_
    refine x_aaldN (n := 15) dX11_surveyNumbered_14 rfl (lA_surveys hS) ⟨by decide, by decide⟩ (Nat.le_of_ble_eq_true rfl) (by omega) (lP_V hS hv) ?_
    refine x_goto (n := 19) dX11_surveyNumbered_15 (by decide) ?_
    refine r_aret dX11_surveyNumbered_19 rfl (by first | exact Or.inl ⟨_, rfl⟩ | exact Or.inr ⟨_, rfl⟩) (by first | exact Or.inl rfl | exact Or.inr ⟨_, rfl⟩) ?_
    exact hq
theorem c_X11_surveyNumberedN (hS : ShL Z) {x : Int32} (hx : zin x 0 3 = false) (hq : Q (some .null) Z I) : zM l G mX11_surveyNumbered 1 0 0 [.ref 0, .int x] Z I Q := by
  refine x_entry [some (.ref 0), some (.int x)] 0 rfl rfl (Nat.le_of_ble_eq_true rfl) ?_
  refine x_ild1 (n := 1) dX11_surveyNumbered_0 rfl ?_
  refine x_ic0 (n := 2) dX11_surveyNumbered_1 rfl ?_
  refine x_ic3 (n := 3) dX11_surveyNumbered_2 rfl ?_
  refine x_cS3 (n := 6) (d' := 0) zcX11_inside mlX11_50 dX11_surveyNumbered_3 rfl (Nat.le_of_ble_eq_true rfl) (Nat.le_of_ble_eq_true rfl) ?_
  refine c_X11_inside false (by rw [← hx]; rfl) ?_
  refine x_some ?_
  refine x_if_eq (n := 9) (tgt := 18) dX11_surveyNumbered_6 rfl (by decide) (fun c_6 => ?_) (fun c_6 => ?_)
  · refine x_null (n := 19) dX11_surveyNumbered_18 rfl ?_
    refine r_aret dX11_surveyNumbered_19 rfl (by first | exact Or.inl ⟨_, rfl⟩ | exact Or.inr ⟨_, rfl⟩) (by first | exact Or.inl rfl | exact Or.inr ⟨_, rfl⟩) ?_
    exact hq
  · exact absurd (by decide) c_6
theorem svC_begin {t : svS} (hv : svC I t) {v n : Nat} {s : Int32} (h4 : v < 4) (ho : ∀ a, a ≠ 249 + 2 * v → a ≠ 249 + 2 * v + 1 → I' a = I a) (h0 : I' (249 + 2 * v) 0 = s) (h1 : I' (249 + 2 * v) 1 = nI n) (h2 : ∀ k, k < 24 → I' (249 + 2 * v + 1) k = nI 0) : svC I' (upd t.1 v s, upd t.2.1 v (nI n), rzF t.2.2 (24 * v) 24) := by
  intro u hu
  by_cases huv : u = v
  · subst huv
    refine ⟨by rw [h0]; exact upd_same.symm, by rw [h1]; exact upd_same.symm, fun k hk => ?_⟩
    rw [h2 k hk]
    show nI 0 = rzF t.2.2 (24 * u) 24 (24 * u + k)
    unfold rzF
    rw [if_pos (by omega)]
  · obtain ⟨q0, q1, q2⟩ := hv u hu
    rw [ho _ (by omega) (by omega), ho _ (by omega) (by omega)]
    refine ⟨by rw [q0]; exact (upd_off huv).symm, by rw [q1]; exact (upd_off huv).symm, fun k hk => ?_⟩
    rw [q2 k hk]
    show _ = rzF t.2.2 (24 * v) 24 (24 * u + k)
    unfold rzF
    rw [if_neg (by omega)]
theorem tL_survey (hS : ShL Z) {t : svS} (hv : svC I t) (hO : svOK t) {x y n : Int32} (hq : ∀ I', offV I I' → svC I' (f_survey t x y n).2 → Q (some (.int (f_survey t x y n).1)) Z I') : zM l G mX11_survey 3 0 0 [.ref 0, .int x, .int y, .int n] Z I Q := by
  refine x_entry [some (.ref 0), some (.int x), some (.int y), some (.int n), none] 1 rfl rfl (Nat.le_of_ble_eq_true rfl) ?_
  unfold f_survey at hq
  have e24 : (nI 24).toInt = 24 := by decide
  by_cases hx : zin x 0 3 = true
  · obtain ⟨v, hv4, hv3, rfl⟩ := z_num 4 hx (by omega)
    rw [ix_nI (by omega)] at hq
    have hV := lS_V hS hv4
    refine x_ald0 (n := 1) dX11_survey_0 rfl ?_
    refine x_ild1 (n := 2) dX11_survey_1 rfl ?_
    refine x_cV1 (n := 5) (d' := 1) zcX11_surveyNumbered mlX11_313 dX11_survey_2 rfl (lK_L hS) (Nat.le_of_ble_eq_true rfl) (Nat.le_of_ble_eq_true rfl) ?_
    refine c_X11_surveyNumbered hS hv4 ?_
    refine x_some ?_
    refine x_ast4 (n := 7) dX11_survey_5 rfl (by decide) rfl ?_
    refine x_ald4 (n := 9) dX11_survey_7 rfl ?_
    refine x_ifnull (n := 12) dX11_survey_9 rfl ?_
    refine x_ild2 (n := 13) dX11_survey_12 rfl ?_
    refine x_icm1 (n := 14) dX11_survey_13 rfl ?_
    refine x_ic1 (n := 15) dX11_survey_14 rfl ?_
    refine x_cS3 (n := 18) (d' := 0) zcX11_inside mlX11_50 dX11_survey_15 rfl (Nat.le_of_ble_eq_true rfl) (Nat.le_of_ble_eq_true rfl) ?_
    refine c_X11_inside (zin y (-1) 1) (by unfold zin; rfl) ?_
    refine x_some ?_
    refine x_zif_ne (n := 21) (tgt := 24) dX11_survey_18 rfl (by decide) (fun c_18 => ?_) (fun c_18 => ?_)
    · refine x_ild2 (n := 25) dX11_survey_24 rfl ?_
      refine x_icm1 (n := 26) dX11_survey_25 rfl ?_
      refine x_icmp_ne (n := 29) (tgt := 38) dX11_survey_26 rfl (by decide) (fun c_26 => ?_) (fun c_26 => ?_)
      · have hy0 : ¬ y < 0 := by have hz := zin_t c_18; rw [zeq, show (-1 : Int32).toInt = -1 by decide] at c_26; rw [zlt, Int32.toInt_zero]; omega
        refine x_ild3 (n := 39) dX11_survey_38 rfl ?_
        refine x_bipush (n := 41) (v := nI 24) dX11_survey_39 rfl (by decide) ?_
        refine x_icmp_le (n := 44) (tgt := 47) dX11_survey_41 rfl (by decide) (fun c_41 => ?_) (fun c_41 => ?_)
        · rw [if_pos ⟨hx, c_18, Or.inr c_41⟩] at hq
          refine x_ild3 (n := 48) dX11_survey_47 rfl ?_
          refine x_if_ge (n := 51) (tgt := 55) dX11_survey_48 rfl (by decide) (fun c_48 => ?_) (fun c_48 => ?_)
          · rw [if_neg (fun h => by rw [zlt, Int32.toInt_zero] at h; rw [zle, Int32.toInt_zero] at c_48; omega), if_neg hy0] at hq
            rw [zle, Int32.toInt_zero] at c_48
            rw [zle, e24] at c_41
            obtain ⟨k, hk, rfl⟩ := z_of (n := 25) c_48 (by omega)
            refine x_ald4 (n := 57) dX11_survey_55 rfl ?_
            refine x_ild2 (n := 58) dX11_survey_57 rfl ?_
            refine x_ild3 (n := 59) dX11_survey_58 rfl ?_
            refine x_cV2 (n := 62) (d' := 2) zcX5_begin mlX11_317 dX11_survey_59 rfl hV.1 (Nat.le_of_ble_eq_true rfl) (Nat.le_of_ble_eq_true rfl) ?_
            refine c_X5_begin hV (by omega) (fun I1 h1 h2 h3 h4 => ?_)
            refine x_none ?_
            refine x_ild3 (n := 63) dX11_survey_62 rfl ?_
            refine r_iret dX11_survey_63 rfl ?_
            exact hq I1 (fun a ha => h1 a (by omega) (by omega)) (svC_begin hv hv4 h1 h2 h3 h4)
          · refine x_ldcw (n := 54) dX11_survey_51 rfl kiX11_320 ?_
            refine r_iret dX11_survey_54 rfl ?_
            rw [if_pos ⟨by rw [zle, Int32.toInt_zero]; rw [zlt, Int32.toInt_zero] at hy0; omega, by rw [zlt, Int32.toInt_zero]; rw [zle, Int32.toInt_zero] at c_48; omega⟩] at hq; exact hq I offV_refl hv
        · refine x_ldc (n := 46) dX11_survey_44 rfl kiX11_54 ?_
          refine r_iret dX11_survey_46 rfl ?_
          rw [if_neg (fun h => h.2.2.elim hy0 (fun e => c_41 e))] at hq; exact hq I offV_refl hv
      · refine x_ald4 (n := 31) dX11_survey_29 rfl ?_
        refine x_ild2 (n := 32) dX11_survey_31 rfl ?_
        refine x_ic0 (n := 33) dX11_survey_32 rfl ?_
        subst c_26
        rw [if_pos ⟨hx, c_18, Or.inl (by decide)⟩, if_neg (fun h => absurd h.1 (by decide)), if_pos (by decide)] at hq
        refine x_cV2 (n := 36) (d' := 2) zcX5_begin mlX11_317 dX11_survey_33 rfl hV.1 (Nat.le_of_ble_eq_true rfl) (Nat.le_of_ble_eq_true rfl) ?_
        refine c_X5_begin (n := 0) hV (by omega) (fun I1 h1 h2 h3 h4 => ?_)
        refine x_none ?_
        refine x_ic0 (n := 37) dX11_survey_36 rfl ?_
        refine r_iret dX11_survey_37 rfl ?_
        exact hq I1 (fun a ha => h1 a (by omega) (by omega)) (svC_begin hv hv4 h1 h2 h3 h4)
    · refine x_ldc (n := 23) dX11_survey_21 rfl kiX11_54 ?_
      refine r_iret dX11_survey_23 rfl ?_
      rw [if_neg (fun h => by rw [c_18] at h; cases h.2.1)] at hq; exact hq I offV_refl hv
  · rw [if_neg (fun h => hx h.1)] at hq
    refine x_ald0 (n := 1) dX11_survey_0 rfl ?_
    refine x_ild1 (n := 2) dX11_survey_1 rfl ?_
    refine x_cV1 (n := 5) (d' := 1) zcX11_surveyNumbered mlX11_313 dX11_survey_2 rfl (lK_L hS) (Nat.le_of_ble_eq_true rfl) (Nat.le_of_ble_eq_true rfl) ?_
    refine c_X11_surveyNumberedN hS (Bool.eq_false_iff.mpr hx) ?_
    refine x_some ?_
    refine x_nst4 (n := 7) dX11_survey_5 rfl (by decide) rfl ?_
    refine x_nld4 (n := 9) dX11_survey_7 rfl ?_
    refine x_ifnullN (n := 21) dX11_survey_9 (by decide) ?_
    refine x_ldc (n := 23) dX11_survey_21 rfl kiX11_54 ?_
    refine r_iret dX11_survey_23 rfl ?_
    exact hq I offV_refl hv
theorem fnd_lack {t : svS} (hO : svOK t) {v sz : Nat} {p : Int32} (hv4 : v < 4) (hx : zin (nI v) 0 3 = true) (hsz : (t.2.1 v).toInt = (sz : Int)) : fndF (t.1 v) sz p = lackF t (nI v) p := by
  unfold fndF lackF
  rw [if_pos hx, ix_nI (by omega), hsz]
  have hr := (hO v hv4).1
  by_cases h : t.1 v = -1
  · rw [if_pos h, if_pos (by rw [h]; decide)]
  · have h0 : ¬ t.1 v < 0 := by rw [zeq, show (-1 : Int32).toInt = -1 by decide] at h; rw [zlt, Int32.toInt_zero]; have := hr.1; omega
    rw [if_neg h, if_neg h0]
theorem c_X5_write (hV : ShV Z b) {p : Nat} {v : Int32} (hp : p < 24) (hq : ∀ I', (∀ a, a ≠ b + 1 → I' a = I a) → I' (b + 1) = (if I b 0 = nI 1 ∧ v = -1000000005 then I (b + 1) else if I b 0 = 0 ∧ v ≠ -1000000005 ∧ zin v (-100000) 100000 = false then I (b + 1) else upd (I (b + 1)) p (if I b 0 = nI 1 then v <<< (nI 16 &&& 31) >>> (nI 16 &&& 31) else v)) → Q (some (.int (if I b 0 = nI 1 ∧ v = -1000000005 then -1000000012 else if I b 0 = 0 ∧ v ≠ -1000000005 ∧ zin v (-100000) 100000 = false then -1000000001 else nI 1))) Z I') : zM l G mX5_write 1 0 0 [.ref b, .int (nI p), .int v] Z I Q := by
  refine x_entry [some (.ref b), some (.int (nI p)), some (.int v)] 0 rfl rfl (Nat.le_of_ble_eq_true rfl) ?_
  have fin : ¬ (I b 0 = nI 1 ∧ v = -1000000005) → ¬ (I b 0 = 0 ∧ v ≠ -1000000005 ∧ zin v (-100000) 100000 = false) → zX l G mX5_write 1 0 0 44 [some (.ref b), some (.int (nI p)), some (.int v)] [] Z I Q := by
    intro n1 n2
    rw [if_neg n1] at hq; rw [if_neg n1] at hq; rw [if_neg n2] at hq; rw [if_neg n2] at hq
    refine x_ald0 (n := 45) dX5_write_44 rfl ?_
    refine x_getR (n := 48) flX5_15 rfl dX5_write_45 rfl hV.1 hV.2.1 ?_
    refine x_ild1 (n := 49) dX5_write_48 rfl ?_
    refine x_ald0 (n := 50) dX5_write_49 rfl ?_
    refine x_getI (n := 53) flX5_11 rfl dX5_write_50 rfl hV.1 ?_
    refine x_ic1 (n := 54) dX5_write_53 rfl ?_
    refine x_icmp_ne (n := 57) (tgt := 62) dX5_write_54 rfl (by decide) (fun c_54 => ?_) (fun c_54 => ?_)
    · refine x_ild2 (n := 63) dX5_write_62 rfl ?_
      refine x_cN3 (n := 66) (d' := 0) zcX11_exchange mnX5_43 dX5_write_63 rfl (Nat.le_of_ble_eq_true rfl) (Nat.le_of_ble_eq_true rfl) ?_
      refine c_X11_exchange hV.2.2 (by decide) hp ?_
      refine x_some ?_
      refine x_pop (n := 67) dX5_write_66 rfl rfl ?_
      refine x_ic1 (n := 68) dX5_write_67 rfl ?_
      refine r_iret dX5_write_68 rfl ?_
      refine hq _ (fun a ha => va_up_off ha) ?_
      rw [va_up_same]
      first | (rw [if_pos c_54]) | (rw [if_neg c_54])
    · refine x_ild2 (n := 58) dX5_write_57 rfl ?_
      refine x_i2s (n := 59) dX5_write_58 rfl ?_
      rw [zshort]
      refine x_goto (n := 63) dX5_write_59 (by decide) ?_
      refine x_cN3 (n := 66) (d' := 0) zcX11_exchange mnX5_43 dX5_write_63 rfl (Nat.le_of_ble_eq_true rfl) (Nat.le_of_ble_eq_true rfl) ?_
      refine c_X11_exchange hV.2.2 (by decide) hp ?_
      refine x_some ?_
      refine x_pop (n := 67) dX5_write_66 rfl rfl ?_
      refine x_ic1 (n := 68) dX5_write_67 rfl ?_
      refine r_iret dX5_write_68 rfl ?_
      refine hq _ (fun a ha => va_up_off ha) ?_
      rw [va_up_same]
      first | (rw [if_pos c_54]) | (rw [if_neg c_54])
  refine x_ald0 (n := 1) dX5_write_0 rfl ?_
  refine x_getI (n := 4) flX5_11 rfl dX5_write_1 rfl hV.1 ?_
  refine x_ic1 (n := 5) dX5_write_4 rfl ?_
  refine x_icmp_ne (n := 8) (tgt := 17) dX5_write_5 rfl (by decide) (fun c_5 => ?_) (fun c_5 => ?_)
  · refine x_ald0 (n := 18) dX5_write_17 rfl ?_
    refine x_getI (n := 21) flX5_11 rfl dX5_write_18 rfl hV.1 ?_
    refine x_if_ne (n := 24) (tgt := 44) dX5_write_21 rfl (by decide) (fun c_21 => ?_) (fun c_21 => ?_)
    · refine fin ?_ ?_
      · first | exact fun h => c_5 h.1 | exact fun h => c_11 h.2
      · first
          | (have hc : ¬ I b 0 = 0 := c_21; exact fun h => hc h.1)
          | (have hc : v = -1000000005 := c_27; exact fun h => h.2.1 hc)
          | (have hc : zin v (-100000) 100000 = true := c_38; exact fun h => by rw [hc] at h; cases h.2.2)
    · refine x_ild2 (n := 25) dX5_write_24 rfl ?_
      refine x_ldc (n := 27) dX5_write_25 rfl kiX5_38 ?_
      refine x_icmp_eq (n := 30) (tgt := 44) dX5_write_27 rfl (by decide) (fun c_27 => ?_) (fun c_27 => ?_)
      · refine fin ?_ ?_
        · first | exact fun h => c_5 h.1 | exact fun h => c_11 h.2
        · first
            | (have hc : ¬ I b 0 = 0 := c_21; exact fun h => hc h.1)
            | (have hc : v = -1000000005 := c_27; exact fun h => h.2.1 hc)
            | (have hc : zin v (-100000) 100000 = true := c_38; exact fun h => by rw [hc] at h; cases h.2.2)
      · refine x_ild2 (n := 31) dX5_write_30 rfl ?_
        refine x_ldc (n := 33) dX5_write_31 rfl kiX5_40 ?_
        refine x_ldc (n := 35) dX5_write_33 rfl kiX5_41 ?_
        refine x_cN3 (n := 38) (d' := 0) zcX11_inside mnX5_33 dX5_write_35 rfl (Nat.le_of_ble_eq_true rfl) (Nat.le_of_ble_eq_true rfl) ?_
        refine c_X11_inside (zin v (-100000) 100000) (by unfold zin; rfl) ?_
        refine x_some ?_
        refine x_zif_ne (n := 41) (tgt := 44) dX5_write_38 rfl (by decide) (fun c_38 => ?_) (fun c_38 => ?_)
        · refine fin ?_ ?_
          · first | exact fun h => c_5 h.1 | exact fun h => c_11 h.2
          · first
              | (have hc : ¬ I b 0 = 0 := c_21; exact fun h => hc h.1)
              | (have hc : v = -1000000005 := c_27; exact fun h => h.2.1 hc)
              | (have hc : zin v (-100000) 100000 = true := c_38; exact fun h => by rw [hc] at h; cases h.2.2)
        · refine x_ldc (n := 43) dX5_write_41 rfl kiX5_42 ?_
          refine r_iret dX5_write_43 rfl ?_
          first | (have n1 : ¬ (I b 0 = nI 1 ∧ v = -1000000005) := (fun h => c_27 h.2); rw [if_neg n1] at hq; rw [if_neg n1] at hq; rw [if_pos ⟨c_21, c_27, c_38⟩] at hq; rw [if_pos ⟨c_21, c_27, c_38⟩] at hq; exact hq I (fun _ _ => rfl) rfl)
  · refine x_ild2 (n := 9) dX5_write_8 rfl ?_
    refine x_ldc (n := 11) dX5_write_9 rfl kiX5_38 ?_
    refine x_icmp_ne (n := 14) (tgt := 17) dX5_write_11 rfl (by decide) (fun c_11 => ?_) (fun c_11 => ?_)
    · refine x_ald0 (n := 18) dX5_write_17 rfl ?_
      refine x_getI (n := 21) flX5_11 rfl dX5_write_18 rfl hV.1 ?_
      refine x_if_ne (n := 24) (tgt := 44) dX5_write_21 rfl (by decide) (fun c_21 => ?_) (fun c_21 => ?_)
      · refine fin ?_ ?_
        · first | exact fun h => c_5 h.1 | exact fun h => c_11 h.2
        · first
            | (have hc : ¬ I b 0 = 0 := c_21; exact fun h => hc h.1)
            | (have hc : v = -1000000005 := c_27; exact fun h => h.2.1 hc)
            | (have hc : zin v (-100000) 100000 = true := c_38; exact fun h => by rw [hc] at h; cases h.2.2)
      · refine x_ild2 (n := 25) dX5_write_24 rfl ?_
        refine x_ldc (n := 27) dX5_write_25 rfl kiX5_38 ?_
        refine x_icmp_eq (n := 30) (tgt := 44) dX5_write_27 rfl (by decide) (fun c_27 => ?_) (fun c_27 => ?_)
        · refine fin ?_ ?_
          · first | exact fun h => c_5 h.1 | exact fun h => c_11 h.2
          · first
              | (have hc : ¬ I b 0 = 0 := c_21; exact fun h => hc h.1)
              | (have hc : v = -1000000005 := c_27; exact fun h => h.2.1 hc)
              | (have hc : zin v (-100000) 100000 = true := c_38; exact fun h => by rw [hc] at h; cases h.2.2)
        · refine x_ild2 (n := 31) dX5_write_30 rfl ?_
          refine x_ldc (n := 33) dX5_write_31 rfl kiX5_40 ?_
          refine x_ldc (n := 35) dX5_write_33 rfl kiX5_41 ?_
          refine x_cN3 (n := 38) (d' := 0) zcX11_inside mnX5_33 dX5_write_35 rfl (Nat.le_of_ble_eq_true rfl) (Nat.le_of_ble_eq_true rfl) ?_
          refine c_X11_inside (zin v (-100000) 100000) (by unfold zin; rfl) ?_
          refine x_some ?_
          refine x_zif_ne (n := 41) (tgt := 44) dX5_write_38 rfl (by decide) (fun c_38 => ?_) (fun c_38 => ?_)
          · refine fin ?_ ?_
            · first | exact fun h => c_5 h.1 | exact fun h => c_11 h.2
            · first
                | (have hc : ¬ I b 0 = 0 := c_21; exact fun h => hc h.1)
                | (have hc : v = -1000000005 := c_27; exact fun h => h.2.1 hc)
                | (have hc : zin v (-100000) 100000 = true := c_38; exact fun h => by rw [hc] at h; cases h.2.2)
          · refine x_ldc (n := 43) dX5_write_41 rfl kiX5_42 ?_
            refine r_iret dX5_write_43 rfl ?_
            first | (have n1 : ¬ (I b 0 = nI 1 ∧ v = -1000000005) := (fun h => c_27 h.2); rw [if_neg n1] at hq; rw [if_neg n1] at hq; rw [if_pos ⟨c_21, c_27, c_38⟩] at hq; rw [if_pos ⟨c_21, c_27, c_38⟩] at hq; exact hq I (fun _ _ => rfl) rfl)
    · refine x_ldc (n := 16) dX5_write_14 rfl kiX5_39 ?_
      refine r_iret dX5_write_16 rfl ?_
      rw [if_pos ⟨c_5, c_11⟩] at hq; rw [if_pos ⟨c_5, c_11⟩] at hq; exact hq I (fun _ _ => rfl) rfl
theorem tL_note (hS : ShL Z) {t : svS} (hv : svC I t) (hO : svOK t) {x p w : Int32} (hq : ∀ I', offV I I' → svC I' (f_note t x p w).2 → Q (some (.int (f_note t x p w).1)) Z I') : zM l G mX11_note 2 0 0 [.ref 0, .int x, .int p, .int w] Z I Q := by
  refine x_entry [some (.ref 0), some (.int x), some (.int p), some (.int w), none, none] 2 rfl rfl (Nat.le_of_ble_eq_true rfl) ?_
  unfold f_note at hq
  by_cases hx : zin x 0 3 = true
  · obtain ⟨v, hv4, hv3, rfl⟩ := z_num 4 hx (by omega)
    have hV := lS_V hS hv4
    obtain ⟨sz, s1, s2, s3, s4⟩ := sv_size hv hO hv4
    obtain ⟨q0, q1, q2⟩ := hv v hv4
    rw [ix_nI (by omega)] at hq
    refine x_ald0 (n := 1) dX11_note_0 rfl ?_
    refine x_ild1 (n := 2) dX11_note_1 rfl ?_
    refine x_cV1 (n := 5) (d' := 1) zcX11_surveyNumbered mlX11_313 dX11_note_2 rfl (lK_L hS) (Nat.le_of_ble_eq_true rfl) (Nat.le_of_ble_eq_true rfl) ?_
    refine c_X11_surveyNumbered hS hv4 ?_
    refine x_some ?_
    refine x_ast4 (n := 7) dX11_note_5 rfl (by decide) rfl ?_
    refine x_ald4 (n := 9) dX11_note_7 rfl ?_
    refine x_ifnonnull (n := 15) dX11_note_9 (by decide) ?_
    refine x_ald4 (n := 17) dX11_note_15 rfl ?_
    refine x_ild2 (n := 18) dX11_note_17 rfl ?_
    refine x_cV1 (n := 21) (d' := 1) zcX5_findingAt mlX11_321 dX11_note_18 rfl hV.1 (Nat.le_of_ble_eq_true rfl) (Nat.le_of_ble_eq_true rfl) ?_
    refine c_X5_findingAt hV s3 s1 ?_
    rw [q0, fnd_lack hO hv4 hx s4]
    refine x_some ?_
    refine x_ist5 (n := 23) dX11_note_21 rfl (by decide) rfl ?_
    refine x_ild5 (n := 25) dX11_note_23 rfl ?_
    refine x_if_ne (n := 28) (tgt := 38) dX11_note_25 rfl (by decide) (fun c_25 => ?_) (fun c_25 => ?_)
    · refine x_ild5 (n := 40) dX11_note_38 rfl ?_
      refine r_iret dX11_note_40 rfl ?_
      first | (have hl : ¬ lackF t (nI v) p = 0 := c_25; rw [if_neg hl] at hq; exact hq I offV_refl hv) | exact hfin
    · refine x_ald4 (n := 30) dX11_note_28 rfl ?_
      refine x_ild2 (n := 31) dX11_note_30 rfl ?_
      refine x_ild3 (n := 32) dX11_note_31 rfl ?_
      rw [if_pos c_25] at hq
      have hpz : zin p 0 ((sz : Int) - 1) = true := by
        unfold lackF at c_25
        rw [if_pos hx, ix_nI (by omega), s4] at c_25
        by_cases h : zin p 0 ((sz : Int) - 1) = true
        · exact h
        · exfalso
          rw [if_neg h] at c_25
          split at c_25 <;> exact absurd c_25 (by decide)
      obtain ⟨k, hk, rfl⟩ := z_chain hpz
      rw [ix_nI (by omega)] at hq
      refine x_cV2 (n := 35) (d' := 1) zcX5_write mlX11_324 dX11_note_32 rfl hV.1 (Nat.le_of_ble_eq_true rfl) (Nat.le_of_ble_eq_true rfl) ?_
      refine c_X5_write hV (by omega) (fun I1 h1 h2 => ?_)
      rw [q0] at h2 ⊢
      have hoff : offV I I1 := fun a ha => h1 a (by omega)
      have hsame : I1 (249 + 2 * v + 1) = I (249 + 2 * v + 1) → svC I1 t := by
        intro e u hu
        by_cases huv : u = v
        · subst huv; rw [e, h1 _ (by omega)]; exact hv u hu
        · rw [h1 _ (by omega), h1 _ (by omega)]; exact hv u hu
      have hfin : Q (some (.int (if t.1 v = nI 1 ∧ w = -1000000005 then -1000000012 else if t.1 v = 0 ∧ w ≠ -1000000005 ∧ zin w (-100000) 100000 = false then -1000000001 else nI 1))) Z I1 := by
        by_cases n1 : t.1 v = nI 1 ∧ w = -1000000005
        · rw [if_pos n1] at hq h2 ⊢; exact hq I1 hoff (hsame h2)
        · rw [if_neg n1] at hq h2 ⊢
          by_cases n2 : t.1 v = 0 ∧ w ≠ -1000000005 ∧ zin w (-100000) 100000 = false
          · rw [if_pos n2] at hq h2 ⊢; exact hq I1 hoff (hsame h2)
          · rw [if_neg n2] at hq h2 ⊢
            refine hq I1 hoff (fun u hu => ?_)
            by_cases huv : u = v
            · subst huv
              rw [h2, h1 _ (by omega)]
              refine ⟨q0, q1, fun j hj => ?_⟩
              by_cases hjk : j = k
              · subst hjk; rw [upd_same]; exact upd_same.symm
              · rw [upd_off hjk, q2 j hj]; exact (upd_off (by omega)).symm
            · rw [h1 _ (by omega), h1 _ (by omega)]
              obtain ⟨r0, r1, r2⟩ := hv u hu
              exact ⟨r0, r1, fun j hj => by rw [r2 j hj]; exact (upd_off (by omega)).symm⟩
      refine x_some ?_
      refine x_goto (n := 40) dX11_note_35 (by decide) ?_
      refine r_iret dX11_note_40 rfl ?_
      first | (have hl : ¬ lackF t (nI v) p = 0 := c_25; rw [if_neg hl] at hq; exact hq I offV_refl hv) | exact hfin
  · have hlk : lackF t x p = -1000000001 := by unfold lackF; rw [if_neg hx]
    rw [hlk, if_neg (by decide)] at hq
    refine x_ald0 (n := 1) dX11_note_0 rfl ?_
    refine x_ild1 (n := 2) dX11_note_1 rfl ?_
    refine x_cV1 (n := 5) (d' := 1) zcX11_surveyNumbered mlX11_313 dX11_note_2 rfl (lK_L hS) (Nat.le_of_ble_eq_true rfl) (Nat.le_of_ble_eq_true rfl) ?_
    refine c_X11_surveyNumberedN hS (Bool.eq_false_iff.mpr hx) ?_
    refine x_some ?_
    refine x_nst4 (n := 7) dX11_note_5 rfl (by decide) rfl ?_
    refine x_nld4 (n := 9) dX11_note_7 rfl ?_
    refine x_ifnonnullN (n := 12) dX11_note_9 rfl ?_
    refine x_ldc (n := 14) dX11_note_12 rfl kiX11_54 ?_
    refine r_iret dX11_note_14 rfl ?_
    exact hq I offV_refl hv
theorem nrU_cong {f h : Nat → Int32} {a c : Nat} : ∀ {n k : Nat}, (∀ j, k ≤ j → j < k + n → f (a + j) = h (c + j)) → nrU f a n k = nrU h c n k
  | 0, _, _ => rfl
  | n + 1, k, e => by
    unfold nrU
    rw [e k (by omega) (by omega), nrU_cong (fun j h1 h2 => e j (by omega) (by omega))]
theorem nrD_cong {f h : Nat → Int32} {a c : Nat} : ∀ {k : Nat}, (∀ j, j < k → f (a + j) = h (c + j)) → nrD f a k = nrD h c k
  | 0, _ => rfl
  | k + 1, e => by
    unfold nrD
    rw [e k (by omega), nrD_cong (fun j hj => e j (by omega))]
theorem readF_cong {f h : Nat → Int32} {a c sz p : Nat} (hp : p < sz) (e : ∀ j, j < sz → f (a + j) = h (c + j)) : readF f a sz p = readF h c sz p := by
  unfold readF
  rw [nrD_cong (f := f) (h := h) (a := a) (c := c) (k := p + 1) (fun j hj => e j (by omega)), nrU_cong (f := f) (h := h) (a := a) (c := c) (n := sz - p) (k := p) (fun j h1 h2 => e j (by omega))]
  cases hd : nrD h c (p + 1) with
  | none =>
    cases hu : nrU h c (sz - p) p with
    | none => rfl
    | some j => have := nrU_in hu; exact e j (by omega)
  | some i =>
    have hi := nrD_in hd
    cases hu : nrU h c (sz - p) p with
    | none => exact e i (by omega)
    | some j => have := nrU_in hu; show (if i = j then _ else _) = (if i = j then _ else _); rw [e i (by omega), e j (by omega)]
theorem tL_read (hS : ShL Z) {t : svS} (hv : svC I t) (hO : svOK t) {x p : Int32} (hq : Q (some (.int (f_read t x p))) Z I) : zM l G mX11_read 3 0 0 [.ref 0, .int x, .int p] Z I Q := by
  refine x_entry [some (.ref 0), some (.int x), some (.int p), none, none] 2 rfl rfl (Nat.le_of_ble_eq_true rfl) ?_
  unfold f_read at hq
  by_cases hx : zin x 0 3 = true
  · obtain ⟨v, hv4, hv3, rfl⟩ := z_num 4 hx (by omega)
    have hV := lS_V hS hv4
    obtain ⟨sz, s1, s2, s3, s4⟩ := sv_size hv hO hv4
    obtain ⟨q0, q1, q2⟩ := hv v hv4
    rw [ix_nI (by omega), s4] at hq
    refine x_ald0 (n := 1) dX11_read_0 rfl ?_
    refine x_ild1 (n := 2) dX11_read_1 rfl ?_
    refine x_cV1 (n := 5) (d' := 1) zcX11_surveyNumbered mlX11_313 dX11_read_2 rfl (lK_L hS) (Nat.le_of_ble_eq_true rfl) (Nat.le_of_ble_eq_true rfl) ?_
    refine c_X11_surveyNumbered hS hv4 ?_
    refine x_some ?_
    refine x_ast3 (n := 6) dX11_read_5 rfl (by decide) rfl ?_
    refine x_ald3 (n := 7) dX11_read_6 rfl ?_
    refine x_ifnonnull (n := 13) dX11_read_7 (by decide) ?_
    refine x_ald3 (n := 14) dX11_read_13 rfl ?_
    refine x_ild2 (n := 15) dX11_read_14 rfl ?_
    refine x_cV1 (n := 18) (d' := 1) zcX5_findingAt mlX11_321 dX11_read_15 rfl hV.1 (Nat.le_of_ble_eq_true rfl) (Nat.le_of_ble_eq_true rfl) ?_
    refine c_X5_findingAt hV s3 s1 ?_
    rw [q0, fnd_lack hO hv4 hx s4]
    refine x_some ?_
    refine x_ist4 (n := 20) dX11_read_18 rfl (by decide) rfl ?_
    refine x_ild4 (n := 22) dX11_read_20 rfl ?_
    refine x_if_ne (n := 25) (tgt := 33) dX11_read_22 rfl (by decide) (fun c_22 => ?_) (fun c_22 => ?_)
    · refine x_ild4 (n := 35) dX11_read_33 rfl ?_
      refine r_iret dX11_read_35 rfl ?_
      first | (have hl : ¬ lackF t (nI v) p = 0 := c_22; rw [if_neg hl] at hq; exact hq) | exact hq
    · refine x_ald3 (n := 26) dX11_read_25 rfl ?_
      refine x_ild2 (n := 27) dX11_read_26 rfl ?_
      rw [if_pos c_22] at hq
      have hpz : zin p 0 ((sz : Int) - 1) = true := by
        unfold lackF at c_22
        rw [if_pos hx, ix_nI (by omega), s4] at c_22
        by_cases h : zin p 0 ((sz : Int) - 1) = true
        · exact h
        · exfalso
          rw [if_neg h] at c_22
          split at c_22 <;> exact absurd c_22 (by decide)
      obtain ⟨k, hk, rfl⟩ := z_chain hpz
      rw [ix_nI (by omega)] at hq
      rw [show ((sz : Int)).toNat = sz from rfl, ← readF_cong (f := I (249 + 2 * v + 1)) (a := 0) hk (fun j hj => by rw [Nat.zero_add]; exact q2 j (by omega))] at hq
      refine x_cV1 (n := 30) (d' := 2) zcX5_valueAt mlX11_327 dX11_read_27 rfl hV.1 (Nat.le_of_ble_eq_true rfl) (Nat.le_of_ble_eq_true rfl) ?_
      refine c_X5_valueAt hV s3 s1 hk ?_
      refine x_some ?_
      refine x_goto (n := 35) dX11_read_30 (by decide) ?_
      refine r_iret dX11_read_35 rfl ?_
      first | (have hl : ¬ lackF t (nI v) p = 0 := c_22; rw [if_neg hl] at hq; exact hq) | exact hq
  · have hlk : lackF t x p = -1000000001 := by unfold lackF; rw [if_neg hx]
    rw [hlk, if_neg (by decide)] at hq
    refine x_ald0 (n := 1) dX11_read_0 rfl ?_
    refine x_ild1 (n := 2) dX11_read_1 rfl ?_
    refine x_cV1 (n := 5) (d' := 1) zcX11_surveyNumbered mlX11_313 dX11_read_2 rfl (lK_L hS) (Nat.le_of_ble_eq_true rfl) (Nat.le_of_ble_eq_true rfl) ?_
    refine c_X11_surveyNumberedN hS (Bool.eq_false_iff.mpr hx) ?_
    refine x_some ?_
    refine x_nst3 (n := 6) dX11_read_5 rfl (by decide) rfl ?_
    refine x_nld3 (n := 7) dX11_read_6 rfl ?_
    refine x_ifnonnullN (n := 10) dX11_read_7 rfl ?_
    refine x_ldc (n := 12) dX11_read_10 rfl kiX11_54 ?_
    refine r_iret dX11_read_12 rfl ?_
    exact hq
end
