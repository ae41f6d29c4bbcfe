section
variable {l : Launch} {G : zG} {Z Z' : zS} {I I' : zI} {g g' : Nat → Int32} {mk mk2 m b : Nat} {Q : Option Value → zS → zI → Prop}
theorem cl_99 {fb : Nat} (h : fb < 100) : cl fb 99 0 = fb := by unfold cl; split; omega; split <;> omega
theorem lev_0 (hn : 1 ≤ vN g 0) : lev g 0 = fbF (dpF (costZ g false) 100 (vN g 11) (vN g 0) (vN g 0 - 1)) 100 := by
  have hcv := dpF_cvx (C := costZ g false) (P := 100) (sl := vN g 11) (n := vN g 0) (by omega) (fun c _ => costZ_cvx) (vN g 0 - 1) (by omega)
  show chp (onw g (vN g 0 - 1)) 0 99 = _
  rw [chp_cl (sl := 99) (onw_dp hn (vN g 0 - 1) (by omega)) hcv (by omega), cl_99 (fb_lt (by omega))]
theorem lev_b (hn : 1 ≤ vN g 0) : ∀ c, c < vN g 0 → lev g c < 100
  | 0, _ => by rw [lev_0 hn]; exact fb_lt (by omega)
  | c + 1, hc => by
    have ih := lev_b hn c (by omega)
    have hcv := dpF_cvx (C := costZ g false) (P := 100) (sl := vN g 11) (n := vN g 0) (by omega) (fun c _ => costZ_cvx) (vN g 0 - 1 - (c + 1)) (by omega)
    show chp (onw g (vN g 0 - 1 - (c + 1))) (lev g c) (vN g 11) < 100
    rw [chp_cl (onw_dp hn (vN g 0 - 1 - (c + 1)) (by omega)) hcv ih]
    exact cl_lt (fb_lt (by omega)) ih
theorem lev_s (hn : 1 ≤ vN g 0) {c : Nat} (hc : c + 1 < vN g 0) : lev g (c + 1) = cl (fbF (dpF (costZ g false) 100 (vN g 11) (vN g 0) (vN g 0 - 1 - (c + 1))) 100) (vN g 11) (lev g c) := by
  have hcv := dpF_cvx (C := costZ g false) (P := 100) (sl := vN g 11) (n := vN g 0) (by omega) (fun c _ => costZ_cvx) (vN g 0 - 1 - (c + 1)) (by omega)
  show chp (onw g (vN g 0 - 1 - (c + 1))) (lev g c) (vN g 11) = _
  rw [chp_cl (onw_dp hn (vN g 0 - 1 - (c + 1)) (by omega)) hcv (lev_b hn c (by omega))]
def off69 (mk : Nat) (I I' : zI) : Prop := ∀ a, a < mk + 6 ∨ mk + 10 ≤ a → I' a = I a
theorem G69 (hG : cmG I mk g) (h : off69 mk I I') : cmG I' mk g := cmG_of hG (fun x x1 x2 => h x (by omega)) (fun _ _ => rfl)
theorem CM69 (hC : CM Z I mk g) (hm : mk < 200) (h : off69 mk I I') : CM Z I' mk g := CM_of hC (fun a ha => h a (by unfold cmOff at ha; omega)) hm
theorem slope_b (hB : InvB g) : g 11 = nI (vN g 11) ∧ vN g 11 ≤ 9 := by
  have h1 := rule_n hB (k := 0) (by omega)
  refine ⟨h1.1, ?_⟩
  have : (vN g 11 : Int) ≤ 9 := h1.2
  omega
theorem l_X1_findBest (hM : ShM Z mk) (hG : cmG I mk g) (hB : InvB g) {I0 : zI} {x2 : Int32} (h0 : off789 mk I I0) (hF : ∀ c, c < vN g 0 → I0 (mk + 9) c = nI (fbF (dpF (costZ g false) 100 (vN g 11) (vN g 0) (vN g 0 - 1 - c)) 100))
    (hq : ∀ I1, off69 mk I I1 → (∀ c, c < vN g 0 → I1 (mk + 6) c = nI (lev g c)) → Q (some (.int x2)) Z I1) :
    ∀ m k I1, (∀ a, a ≠ mk + 6 → I1 a = I0 a) → (∀ c, c < k → I1 (mk + 6) c = nI (lev g c)) → k ≤ vN g 0 → vN g 0 - k < m → zX l G mX1_findBestLevels 4 0 0 18 [some (.ref (mk + 1)), some (.int (nI (vN g 11))), some (.int x2), some (.int (nI k))] [] Z I1 Q := by
  have h24 := (iv0 hB).2
  have hsl := (slope_b hB).2
  intro m
  induction m with
  | zero => intro k I1 _ _ _ h; exact absurd h (by omega)
  | succ m ih =>
    intro k I1 hO hL hk hmm
    have hO2 : off69 mk I I1 := fun a ha => by rw [hO a (by omega)]; exact h0 a (by omega) (by omega) (by omega)
    have hv1 := vG0 (G69 hG hO2) hB
    have nxt : ∀ x, nI (lev g k) = x → k < vN g 0 → zX l G mX1_findBestLevels 4 0 0 73 [some (.ref (mk + 1)), some (.int (nI (vN g 11))), some (.int x2), some (.int (nI k))] [.int x, .int (nI k), .ref (mk + 6)] Z I1 Q := by
      intro x hx hkl
      subst hx
      refine x_iastN (n := 74) dX1_findBestLevels_73 rfl (mA_bestLevel hM) (Nat.le_of_ble_eq_true rfl) (by omega) ?_
      refine x_iincN3 (n := 77) (k := 1) dX1_findBestLevels_74 rfl (by decide) rfl ?_
      refine x_goto (n := 18) dX1_findBestLevels_77 (by decide) ?_
      refine ih (k + 1) _ (fun a ha => ?_) (fun c hc => ?_) (by omega) (by omega)
      · rw [va_up_off ha]; exact hO a ha
      · rw [va_up_same]
        by_cases hck : c = k
        · subst hck; rw [upd_same]
        · rw [upd_off hck]; exact hL c (by omega)
    cases k with
    | zero =>
      refine x_ild3 (n := 19) dX1_findBestLevels_18 rfl ?_
      refine x_ald0 (n := 20) dX1_findBestLevels_19 rfl ?_
      refine x_getI (n := 23) flX1_44 rfl dX1_findBestLevels_20 rfl (mK_Gr hM) ?_
      rw [hv1]
      refine x_icmpN_ge (n := 26) (tgt := 80) dX1_findBestLevels_23 rfl (by decide) (by omega) (by omega) (fun c_23 => ?_) (fun c_23 => ?_)
      · exact absurd c_23 (by omega)
      · refine x_ald0 (n := 27) dX1_findBestLevels_26 rfl ?_
        refine x_getR (n := 30) flX1_22 rfl dX1_findBestLevels_27 rfl (mK_Gr hM) (mP_bestLevel hM) ?_
        refine x_ild3 (n := 31) dX1_findBestLevels_30 rfl ?_
        refine x_ild3 (n := 32) dX1_findBestLevels_31 rfl ?_
        refine x_if_ne (n := 35) (tgt := 44) dX1_findBestLevels_32 rfl (by decide) (fun c_32 => ?_) (fun c_32 => ?_)
        · exact absurd rfl c_32
        · refine x_ald0 (n := 36) dX1_findBestLevels_35 rfl ?_
          refine x_getR (n := 39) flX1_31 rfl dX1_findBestLevels_36 rfl (mK_Gr hM) (mP_firstBest hM) ?_
          refine x_ic0 (n := 40) dX1_findBestLevels_39 rfl ?_
          refine x_ialdN (n := 41) dX1_findBestLevels_40 rfl (mA_firstBest hM) (Nat.le_of_ble_eq_true rfl) (by omega) ?_
          refine x_goto (n := 73) dX1_findBestLevels_41 (by decide) ?_
          refine nxt _ ?_ (by omega)
          rw [hO _ (by omega), hF 0 (by omega), lev_0 (by omega), Nat.sub_zero]
    | succ k =>
      have hlb : k < vN g 0 → lev g k < 100 := fun h => lev_b (by omega) k h
      refine x_ild3 (n := 19) dX1_findBestLevels_18 rfl ?_
      refine x_ald0 (n := 20) dX1_findBestLevels_19 rfl ?_
      refine x_getI (n := 23) flX1_44 rfl dX1_findBestLevels_20 rfl (mK_Gr hM) ?_
      rw [hv1]
      refine x_icmpN_ge (n := 26) (tgt := 80) dX1_findBestLevels_23 rfl (by decide) (by omega) (by omega) (fun c_23 => ?_) (fun c_23 => ?_)
      · refine x_ild2 (n := 81) dX1_findBestLevels_80 rfl ?_
        refine r_iret dX1_findBestLevels_81 rfl ?_
        exact hq I1 hO2 (fun c hc => hL c (by omega))
      · refine x_ald0 (n := 27) dX1_findBestLevels_26 rfl ?_
        refine x_getR (n := 30) flX1_22 rfl dX1_findBestLevels_27 rfl (mK_Gr hM) (mP_bestLevel hM) ?_
        refine x_ild3 (n := 31) dX1_findBestLevels_30 rfl ?_
        refine x_ild3 (n := 32) dX1_findBestLevels_31 rfl ?_
        refine x_if_ne (n := 35) (tgt := 44) dX1_findBestLevels_32 rfl (by decide) (fun c_32 => ?_) (fun c_32 => ?_)
        · refine x_ald0 (n := 45) dX1_findBestLevels_44 rfl ?_
          refine x_getR (n := 48) flX1_31 rfl dX1_findBestLevels_45 rfl (mK_Gr hM) (mP_firstBest hM) ?_
          refine x_ild3 (n := 49) dX1_findBestLevels_48 rfl ?_
          refine x_ialdN (n := 50) dX1_findBestLevels_49 rfl (mA_firstBest hM) (Nat.le_of_ble_eq_true rfl) (by omega) ?_
          rw [hO _ (by omega), hF (k + 1) (by omega)]
          refine x_ald0 (n := 51) dX1_findBestLevels_50 rfl ?_
          refine x_getR (n := 54) flX1_22 rfl dX1_findBestLevels_51 rfl (mK_Gr hM) (mP_bestLevel hM) ?_
          refine x_ild3 (n := 55) dX1_findBestLevels_54 rfl ?_
          refine x_ic1 (n := 56) dX1_findBestLevels_55 rfl ?_
          refine x_isubN (n := 57) dX1_findBestLevels_56 rfl (by omega) ?_
          rw [Nat.add_sub_cancel]
          refine x_ialdN (n := 58) dX1_findBestLevels_57 rfl (mA_bestLevel hM) (Nat.le_of_ble_eq_true rfl) (by omega) ?_
          rw [hL k (by omega)]
          refine x_ild1 (n := 59) dX1_findBestLevels_58 rfl ?_
          refine x_isub (n := 60) dX1_findBestLevels_59 rfl ?_
          refine x_ald0 (n := 61) dX1_findBestLevels_60 rfl ?_
          refine x_getR (n := 64) flX1_22 rfl dX1_findBestLevels_61 rfl (mK_Gr hM) (mP_bestLevel hM) ?_
          refine x_ild3 (n := 65) dX1_findBestLevels_64 rfl ?_
          refine x_ic1 (n := 66) dX1_findBestLevels_65 rfl ?_
          refine x_isubN (n := 67) dX1_findBestLevels_66 rfl (by omega) ?_
          rw [Nat.add_sub_cancel]
          refine x_ialdN (n := 68) dX1_findBestLevels_67 rfl (mA_bestLevel hM) (Nat.le_of_ble_eq_true rfl) (by omega) ?_
          rw [hL k (by omega)]
          refine x_ild1 (n := 69) dX1_findBestLevels_68 rfl ?_
          refine x_iaddN (n := 70) dX1_findBestLevels_69 rfl ?_
          have hlk := hlb (by omega)
          have hfl := fb_lt (f := dpF (costZ g false) 100 (vN g 11) (vN g 0) (vN g 0 - 1 - (k + 1))) (P := 100) (by omega)
          refine x_cN3 (n := 73) (d' := 1) zcX11_clamp mnX1_38 dX1_findBestLevels_70 rfl (Nat.le_of_ble_eq_true rfl) (Nat.le_of_ble_eq_true rfl) ?_
          refine c_X11_clamp ?_
          rw [cl_F (by omega) (by omega) (by omega)]
          refine x_some ?_
          refine nxt _ ?_ (by omega)
          rw [lev_s (by omega) (by omega)]
        · rw [zeq, nI_toInt (by omega), Int32.toInt_zero] at c_32; exact absurd c_32 (by omega)
theorem c_X1_findBestLevels (hM : ShM Z mk) (hG : cmG I mk g) (hB : InvB g) (hq : ∀ I1, off69 mk I I1 → (∀ c, c < vN g 0 → I1 (mk + 6) c = nI (lev g c)) → Q (some (.int (nI (gCost g)))) Z I1) : zM l G mX1_findBestLevels 4 0 0 [.ref (mk + 1)] Z I Q := by
  refine x_entry [some (.ref (mk + 1)), none, none, none] 3 rfl rfl (Nat.le_of_ble_eq_true rfl) ?_
  have h24 := (iv0 hB).2
  obtain ⟨e11, hsl⟩ := slope_b hB
  have hcost : iZ (dpF (costZ g false) 100 (vN g 11) (vN g 0) (vN g 0 - 1) (fbF (dpF (costZ g false) 100 (vN g 11) (vN g 0) (vN g 0 - 1)) 100)) = nI (gCost g) := by
    rw [onw_dp (by omega) (vN g 0 - 1) (by omega) _ (fb_lt (by omega)), ← lev_0 (by omega), iZ_n]
    rfl
  refine x_ald0 (n := 1) dX1_findBestLevels_0 rfl ?_
  refine x_getR (n := 4) flX1_19 rfl dX1_findBestLevels_1 rfl (mK_Gr hM) (mP_ruleRow hM) ?_
  refine x_ic0 (n := 5) dX1_findBestLevels_4 rfl ?_
  refine x_ialdN (n := 6) dX1_findBestLevels_5 rfl (mA_ruleRow hM) (Nat.le_of_ble_eq_true rfl) (by omega) ?_
  rw [show I (mk + 5) 0 = g 11 from cG5 hG (k := 0) (by omega), e11]
  refine x_ist1 (n := 7) dX1_findBestLevels_6 rfl (by decide) rfl ?_
  refine x_ald0 (n := 8) dX1_findBestLevels_7 rfl ?_
  refine x_bipush (n := 10) (v := nI 100) dX1_findBestLevels_8 rfl (by decide) ?_
  refine x_ild1 (n := 11) dX1_findBestLevels_10 rfl ?_
  refine x_ic0 (n := 12) dX1_findBestLevels_11 rfl ?_
  refine x_cV3 (n := 15) (d' := 3) zcX1_leastCost mlX1_83 dX1_findBestLevels_12 rfl (mK_Gr hM) (Nat.le_of_ble_eq_true rfl) (Nat.le_of_ble_eq_true rfl) ?_
  refine c_X1_leastCost (h := false) hM hG hB (by omega) (by omega) (by omega) (fun I1 o1 f1 => ?_)
  rw [hcost]
  refine x_some ?_
  refine x_ist2 (n := 16) dX1_findBestLevels_15 rfl (by decide) rfl ?_
  refine x_ic0 (n := 17) dX1_findBestLevels_16 rfl ?_
  refine x_ist3 (n := 18) dX1_findBestLevels_17 rfl (by decide) rfl ?_
  exact l_X1_findBest hM hG hB o1 f1 hq (vN g 0 + 1) 0 I1 (fun _ _ => rfl) (fun c hc => absurd hc (by omega)) (by omega) (by omega)
theorem tL_best (hS : ShL Z) (hC : CM Z I 1 g) (hB : InvB g) {x : Int32} (hq : ∀ I', offM 1 I I' → CM Z I' 1 g → Q (some (.int (f_best g x))) Z I') : zM l G mX11_best 5 0 0 [.ref 0, .int x] Z I Q := by
  refine x_entry [some (.ref 0), some (.int x), none] 1 rfl rfl (Nat.le_of_ble_eq_true rfl) ?_
  have hM := lM1 hS
  have h24 := (iv0 hB).2
  unfold f_best at hq
  have fin : x = -1 ∨ zin x 0 ((vN g 0 : Int) - 1) = true → zX l G mX11_best 5 0 0 22 [some (.ref 0), some (.int x), none] [] Z I Q := by
    intro hx
    refine x_ald0 (n := 23) dX11_best_22 rfl ?_
    refine x_getR (n := 26) flX11_10 rfl dX11_best_23 rfl (lK_L hS) (lP_M hS) ?_
    refine x_getR (n := 29) flX11_65 rfl dX11_best_26 rfl (mK_M hM) (mP_Gr hM) ?_
    refine x_cV0 (n := 32) (d' := 4) zcX1_findBestLevels mlX11_120 dX11_best_29 rfl (mK_Gr hM) (Nat.le_of_ble_eq_true rfl) (Nat.le_of_ble_eq_true rfl) ?_
    refine c_X1_findBestLevels hM hC.1 hB (fun I1 o1 f1 => ?_)
    have hq2 := hq I1 (fun a ha => o1 a (by omega)) (CM69 hC (by omega) o1)
    refine x_some ?_
    refine x_ist2 (n := 33) dX11_best_32 rfl (by decide) rfl ?_
    refine x_ild1 (n := 34) dX11_best_33 rfl ?_
    refine x_icm1 (n := 35) dX11_best_34 rfl ?_
    refine x_icmp_ne (n := 38) (tgt := 42) dX11_best_35 rfl (by decide) (fun c_35 => ?_) (fun c_35 => ?_)
    · refine x_ald0 (n := 43) dX11_best_42 rfl ?_
      refine x_getR (n := 46) flX11_10 rfl dX11_best_43 rfl (lK_L hS) (lP_M hS) ?_
      refine x_getR (n := 49) flX11_65 rfl dX11_best_46 rfl (mK_M hM) (mP_Gr hM) ?_
      refine x_getR (n := 52) flX11_123 rfl dX11_best_49 rfl (mK_Gr hM) (mP_bestLevel hM) ?_
      refine x_ild1 (n := 53) dX11_best_52 rfl ?_
      obtain ⟨c, hc, rfl⟩ := z_chain (hx.resolve_left c_35)
      refine x_ialdN (n := 54) dX11_best_53 rfl (mA_bestLevel hM) (Nat.le_of_ble_eq_true rfl) (by omega) ?_
      rw [f1 c hc]
      refine r_iret dX11_best_54 rfl ?_
      first | (have h1 : x = -1 := c_35; rw [if_pos h1] at hq2; exact hq2) | (rw [if_neg c_35, if_pos (hx.resolve_left c_35), ix_nI (by omega)] at hq2; exact hq2)
    · refine x_ild2 (n := 39) dX11_best_38 rfl ?_
      refine x_goto (n := 54) dX11_best_39 (by decide) ?_
      refine r_iret dX11_best_54 rfl ?_
      first | (have h1 : x = -1 := c_35; rw [if_pos h1] at hq2; exact hq2) | (rw [if_neg c_35, if_pos (hx.resolve_left c_35), ix_nI (by omega)] at hq2; exact hq2)
  refine x_ild1 (n := 1) dX11_best_0 rfl ?_
  refine x_icm1 (n := 2) dX11_best_1 rfl ?_
  refine x_icmp_eq (n := 5) (tgt := 22) dX11_best_2 rfl (by decide) (fun c_2 => ?_) (fun c_2 => ?_)
  · first | exact fin (Or.inl c_2) | exact fin (Or.inr c_16)
  · refine x_ald0 (n := 6) dX11_best_5 rfl ?_
    refine x_getR (n := 9) flX11_10 rfl dX11_best_6 rfl (lK_L hS) (lP_M hS) ?_
    refine x_getR (n := 12) flX11_65 rfl dX11_best_9 rfl (mK_M hM) (mP_Gr hM) ?_
    refine x_ild1 (n := 13) dX11_best_12 rfl ?_
    refine x_cV1 (n := 16) (d' := 0) zcX1_has mlX11_74 dX11_best_13 rfl (mK_Gr hM) (Nat.le_of_ble_eq_true rfl) (Nat.le_of_ble_eq_true rfl) ?_
    refine c_X1_has hM hC.1 hB ?_
    refine x_some ?_
    refine x_zif_ne (n := 19) (tgt := 22) dX11_best_16 rfl (by decide) (fun c_16 => ?_) (fun c_16 => ?_)
    · first | exact fin (Or.inl c_2) | exact fin (Or.inr c_16)
    · refine x_ldc (n := 21) dX11_best_19 rfl kiX11_54 ?_
      refine r_iret dX11_best_21 rfl ?_
      rw [if_neg c_2, if_neg (by rw [c_16]; decide)] at hq; exact hq I offM_refl hC
theorem gLay_off {f : Nat → Nat} {i : Nat} : ∀ n, (∀ c, c < n → i ≠ 20 + 4 * c + 1) → gLay g f n i = g i
  | 0, _ => rfl
  | n + 1, h => by
    show upd (gLay g f n) (20 + 4 * n + 1) (nI (f n)) i = g i
    rw [upd_off (h n (by omega))]
    exact gLay_off n (fun c hc => h c (by omega))
theorem gLay_at {f : Nat → Nat} {c : Nat} : ∀ n, c < n → gLay g f n (20 + 4 * c + 1) = nI (f c)
  | 0, h => absurd h (by omega)
  | n + 1, h => by
    show upd (gLay g f n) (20 + 4 * n + 1) (nI (f n)) (20 + 4 * c + 1) = _
    by_cases hc : c = n
    · subst hc; rw [upd_same]
    · rw [upd_off (by omega)]; exact gLay_at n (by omega)
theorem tL_lay (hS : ShL Z) (hC : CM Z I 1 g) (hB : InvB g) (hq : ∀ I', offM 1 I I' → CM Z I' 1 (gLay g (lev g) (vN g 0)) → Q (some (.int (nI (gCost g)))) Z I') : zM l G mX11_lay 5 0 0 [.ref 0] Z I Q := by
  refine x_entry [some (.ref 0), none] 1 rfl rfl (Nat.le_of_ble_eq_true rfl) ?_
  have hM := lM1 hS
  have h24 := (iv0 hB).2
  refine x_ald0 (n := 1) dX11_lay_0 rfl ?_
  refine x_getR (n := 4) flX11_10 rfl dX11_lay_1 rfl (lK_L hS) (lP_M hS) ?_
  refine x_getR (n := 7) flX11_65 rfl dX11_lay_4 rfl (mK_M hM) (mP_Gr hM) ?_
  refine x_cV0 (n := 10) (d' := 4) zcX1_findBestLevels mlX11_120 dX11_lay_7 rfl (mK_Gr hM) (Nat.le_of_ble_eq_true rfl) (Nat.le_of_ble_eq_true rfl) ?_
  refine c_X1_findBestLevels hM hC.1 hB (fun I1 o1 f1 => ?_)
  have hC1 := CM69 hC (by omega) o1
  refine x_some ?_
  refine x_ist1 (n := 11) dX11_lay_10 rfl (by decide) rfl ?_
  refine x_ald0 (n := 12) dX11_lay_11 rfl ?_
  refine x_getR (n := 15) flX11_10 rfl dX11_lay_12 rfl (lK_L hS) (lP_M hS) ?_
  refine x_getR (n := 18) flX11_65 rfl dX11_lay_15 rfl (mK_M hM) (mP_Gr hM) ?_
  refine x_getR (n := 21) flX11_123 rfl dX11_lay_18 rfl (mK_Gr hM) (mP_bestLevel hM) ?_
  refine x_ic0 (n := 22) dX11_lay_21 rfl ?_
  refine x_ald0 (n := 23) dX11_lay_22 rfl ?_
  refine x_getR (n := 26) flX11_10 rfl dX11_lay_23 rfl (lK_L hS) (lP_M hS) ?_
  refine x_getR (n := 29) flX11_65 rfl dX11_lay_26 rfl (mK_M hM) (mP_Gr hM) ?_
  refine x_getR (n := 32) flX11_126 rfl dX11_lay_29 rfl (mK_Gr hM) (mP_level hM) ?_
  refine x_ic0 (n := 33) dX11_lay_32 rfl ?_
  refine x_ald0 (n := 34) dX11_lay_33 rfl ?_
  refine x_getR (n := 37) flX11_10 rfl dX11_lay_34 rfl (lK_L hS) (lP_M hS) ?_
  refine x_getR (n := 40) flX11_65 rfl dX11_lay_37 rfl (mK_M hM) (mP_Gr hM) ?_
  refine x_getI (n := 43) flX11_69 rfl dX11_lay_40 rfl (mK_Gr hM) ?_
  rw [vG0 hC1.1 hB]
  refine x_acopyN (n := 46) dX11_lay_43 rfl mlX11_129 zcN zcS zi_J10 (by decide) (Nat.le_of_ble_eq_true rfl) (mA_bestLevel hM) (mA_level hM) (by omega) (by omega) (by decide) (by decide) ?_
  refine x_ild1 (n := 47) dX11_lay_46 rfl ?_
  refine r_iret dX11_lay_47 rfl ?_
  refine hq _ (offM_up (fun a ha => o1 a (by omega)) (by omega) (by omega)) ?_
  obtain ⟨⟨h0, h1⟩, h2, ⟨s, hs, hb, h4⟩, h3⟩ := hC1.1
  have e0 : gLay g (lev g) (vN g 0) 0 = g 0 := gLay_off _ (fun c _ => by omega)
  refine CM_setG hC1 (by omega) (fun a ha => va_up_off (by omega)) (fun i hi => gLay_off _ (fun c hc => by omega)) ?_
  unfold cmG
  rw [vN_eq e0, e0, va_up_off (by omega), va_up_off (by omega), va_up_same, va_up_off (by omega), va_up_off (by omega)]
  refine ⟨⟨h0, h1⟩, fun c hc => ⟨?_, ?_, ?_⟩, ⟨s, hs, hb, fun c hc => ?_⟩, fun k hk => ?_⟩
  · rw [gLay_off _ (fun c _ => by omega)]; exact (h2 c hc).1
  · rw [cpy0 hc, gLay_at _ hc]; exact f1 c hc
  · rw [gLay_off _ (fun c _ => by omega)]; exact (h2 c hc).2.2
  · rw [gLay_off _ (fun c _ => by omega)]; exact h4 c hc
  · rw [gLay_off _ (fun c _ => by omega)]; exact h3 k hk
end
