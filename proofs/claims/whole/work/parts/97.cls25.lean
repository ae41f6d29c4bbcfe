section
variable {l : Launch} {G : zG} {Z Z' : zS} {I I' : zI} {g g' : Nat → Int32} {mk mk2 m b : Nat} {Q : Option Value → zS → zI → Prop}
theorem pref_step {f h : Nat → Int32} {M k : Nat} (hk : k < M) : prefF f h (M - k) k = if f k = h k then prefF f h (M - (k + 1)) (k + 1) else k := by
  rw [show M - k = M - (k + 1) + 1 by omega]
  rfl
theorem l_X11_rightNumbers (hS : ShL Z) {u ws : Nat → Int32} {n w : Nat} (hn : n ≤ 30) (hw : w ≤ 60) (hB : InvB u) (hT : InvT u) (h8 : vN u 8 ≤ 1999) (hws : ∀ j, j < w → I 257 j = ws j) (hq : ∀ I', offM 163 I I' → Q (some (.int (nI (prefF ws (chkR u) (min w (2 * n)) 0)))) Z I') :
    ∀ m i I1, offM 163 I I1 → CM Z I1 163 (gDays u i) → 2 * i ≤ min w (2 * n) → prefF ws (chkR u) (min w (2 * n)) 0 = prefF ws (chkR u) (min w (2 * n) - 2 * i) (2 * i) → i ≤ n → n - i < m → zX l G mX11_rightNumbers 6 0 0 16 [some (.ref 0), some (.int (nI n)), some (.int (nI w)), some (.int (nI (2 * i))), some (.int (nI i))] [] Z I1 Q := by
  have hM3 := lM3 hS
  intro m
  induction m with
  | zero => intro i I1 _ _ _ _ _ h; exact absurd h (by omega)
  | succ m ih =>
    intro i I1 hO hC hi hp hin hmm
    obtain ⟨b1, t1, d1⟩ := gDays_ok hB hT i (by omega)
    obtain ⟨b2, t2, d2⟩ := gDays_ok hB hT (i + 1) (by omega)
    have hc0 : chkR u (2 * i) = doneF (gDays u (i + 1)) (vN (gDays u (i + 1)) 1) := by
      unfold chkR
      rw [if_pos (by omega), show 2 * i / 2 + 1 = i + 1 by omega]
    have hc1 : chkR u (2 * i + 1) = gDays u (i + 1) 9 := by
      unfold chkR
      rw [if_neg (by omega), show (2 * i + 1) / 2 + 1 = i + 1 by omega]
    refine x_ild4 (n := 18) dX11_rightNumbers_16 rfl ?_
    refine x_ild1 (n := 19) dX11_rightNumbers_18 rfl ?_
    refine x_icmpN_ge (n := 22) (tgt := 93) dX11_rightNumbers_19 rfl (by decide) (by omega) (by omega) (fun c_19 => ?_) (fun c_19 => ?_)
    · refine x_ild3 (n := 94) dX11_rightNumbers_93 rfl ?_
      refine r_iret dX11_rightNumbers_94 rfl ?_
      have hq2 := hq I1 hO
      rw [hp, show min w (2 * n) - 2 * i = 0 by omega] at hq2
      exact hq2
    · refine x_ald0 (n := 23) dX11_rightNumbers_22 rfl ?_
      refine x_getR (n := 26) flX11_19 rfl dX11_rightNumbers_23 rfl (lK_L hS) (lP_Tr hS) ?_
      refine x_cV0 (n := 29) (d' := 5) zcX2_passDay mlX11_197 dX11_rightNumbers_26 rfl (mK_M hM3) (Nat.le_of_ble_eq_true rfl) (Nat.le_of_ble_eq_true rfl) ?_
      refine c_X2_passDay hM3 (by omega) hC b1 t1 (by omega) (fun I2 hO2 hC2 => ?_)
      refine x_none ?_
      have hC2 : CM Z I2 163 (gDays u (i + 1)) := hC2
      have hO3 : offM 163 I I2 := offM_trans hO hO2
      have hq2 := hq I2 hO3
      have hr : ∀ j, j < w → I2 257 j = ws j := fun j hj => by rw [hO3 257 (by omega)]; exact hws j hj
      refine x_ild3 (n := 30) dX11_rightNumbers_29 rfl ?_
      refine x_ild2 (n := 31) dX11_rightNumbers_30 rfl ?_
      refine x_icmpN_ge (n := 34) (tgt := 53) dX11_rightNumbers_31 rfl (by decide) (by omega) (by omega) (fun c_31 => ?_) (fun c_31 => ?_)
      · refine x_ild3 (n := 54) dX11_rightNumbers_53 rfl ?_
        refine r_iret dX11_rightNumbers_54 rfl ?_
        rw [hp, show min w (2 * n) - 2 * i = 0 by omega] at hq2
        exact hq2
      have hs1 := pref_step (f := ws) (h := chkR u) (M := min w (2 * n)) (k := 2 * i) (by omega)
      refine x_ald0 (n := 35) dX11_rightNumbers_34 rfl ?_
      refine x_getR (n := 38) flX11_36 rfl dX11_rightNumbers_35 rfl (lK_L hS) (lP_waiting hS) ?_
      refine x_ild3 (n := 39) dX11_rightNumbers_38 rfl ?_
      refine x_ialdN (n := 40) dX11_rightNumbers_39 rfl (lA_waiting hS) (Nat.le_of_ble_eq_true rfl) (by omega) ?_
      refine x_ald0 (n := 41) dX11_rightNumbers_40 rfl ?_
      refine x_getR (n := 44) flX11_19 rfl dX11_rightNumbers_41 rfl (lK_L hS) (lP_Tr hS) ?_
      refine x_getR (n := 47) flX11_55 rfl dX11_rightNumbers_44 rfl (mK_M hM3) (mP_Ws hM3) ?_
      refine x_cV0 (n := 50) (d' := 0) zcX10_doneTogether mlX11_357 dX11_rightNumbers_47 rfl (mK_Ws hM3) (Nat.le_of_ble_eq_true rfl) (Nat.le_of_ble_eq_true rfl) ?_
      refine c_X10_doneTogether hM3 hC2.2.1 b2 ?_
      refine x_some ?_
      rw [hr (2 * i) (by omega), ← hc0]
      refine x_icmp_eq (n := 53) (tgt := 55) dX11_rightNumbers_50 rfl (by decide) (fun c_50 => ?_) (fun c_50 => ?_)
      rotate_left
      · refine x_ild3 (n := 54) dX11_rightNumbers_53 rfl ?_
        refine r_iret dX11_rightNumbers_54 rfl ?_
        rw [hp, hs1, if_neg c_50] at hq2
        exact hq2
      rw [if_pos c_50] at hs1
      refine x_iincN3 (n := 58) (k := 1) dX11_rightNumbers_55 rfl (by decide) rfl ?_
      refine x_ild3 (n := 59) dX11_rightNumbers_58 rfl ?_
      refine x_ild2 (n := 60) dX11_rightNumbers_59 rfl ?_
      refine x_icmpN_ge (n := 63) (tgt := 82) dX11_rightNumbers_60 rfl (by decide) (by omega) (by omega) (fun c_60 => ?_) (fun c_60 => ?_)
      · refine x_ild3 (n := 83) dX11_rightNumbers_82 rfl ?_
        refine r_iret dX11_rightNumbers_83 rfl ?_
        rw [hp, hs1, show min w (2 * n) - (2 * i + 1) = 0 by omega] at hq2
        exact hq2
      have hs2 := pref_step (f := ws) (h := chkR u) (M := min w (2 * n)) (k := 2 * i + 1) (by omega)
      refine x_ald0 (n := 64) dX11_rightNumbers_63 rfl ?_
      refine x_getR (n := 67) flX11_36 rfl dX11_rightNumbers_64 rfl (lK_L hS) (lP_waiting hS) ?_
      refine x_ild3 (n := 68) dX11_rightNumbers_67 rfl ?_
      refine x_ialdN (n := 69) dX11_rightNumbers_68 rfl (lA_waiting hS) (Nat.le_of_ble_eq_true rfl) (by omega) ?_
      refine x_ald0 (n := 70) dX11_rightNumbers_69 rfl ?_
      refine x_getR (n := 73) flX11_19 rfl dX11_rightNumbers_70 rfl (lK_L hS) (lP_Tr hS) ?_
      refine x_getR (n := 76) flX11_273 rfl dX11_rightNumbers_73 rfl (mK_M hM3) (mP_Pu hM3) ?_
      refine x_getI (n := 79) flX11_277 rfl dX11_rightNumbers_76 rfl (mK_Pu hM3) ?_
      rw [hr (2 * i + 1) (by omega), hC2.2.2.2.2.2.1.2.1, ← hc1]
      refine x_icmp_eq (n := 82) (tgt := 84) dX11_rightNumbers_79 rfl (by decide) (fun c_79 => ?_) (fun c_79 => ?_)
      rotate_left
      · refine x_ild3 (n := 83) dX11_rightNumbers_82 rfl ?_
        refine r_iret dX11_rightNumbers_83 rfl ?_
        rw [hp, hs1, hs2, if_neg c_79] at hq2
        exact hq2
      rw [if_pos c_79] at hs2
      refine x_iincN3 (n := 87) (k := 1) dX11_rightNumbers_84 rfl (by decide) rfl ?_
      refine x_iincN4 (n := 90) (k := 1) dX11_rightNumbers_87 rfl (by decide) rfl ?_
      refine x_goto (n := 16) dX11_rightNumbers_90 (by decide) ?_
      rw [show 2 * i + 1 + 1 = 2 * (i + 1) by omega]
      refine ih (i + 1) I2 hO3 hC2 (by omega) ?_ (by omega) (by omega)
      rw [hp, hs1, hs2, show 2 * i + 1 + 1 = 2 * (i + 1) by omega]
theorem c_X11_rightNumbers (hS : ShL Z) {u ws : Nat → Int32} {n w : Nat} (hn : n ≤ 30) (hw : w ≤ 60) (hC : CM Z I 82 u) (hB : InvB u) (hT : InvT u) (h8 : vN u 8 ≤ 1999) (hws : ∀ j, j < w → I 257 j = ws j) (hq : ∀ Z' I', ZT 163 Z Z' → offM 163 I I' → Q (some (.int (nI (prefF ws (chkR u) (min w (2 * n)) 0)))) Z' I') : zM l G mX11_rightNumbers 6 0 0 [.ref 0, .int (nI n), .int (nI w)] Z I Q := by
  refine x_entry [some (.ref 0), some (.int (nI n)), some (.int (nI w)), none, none] 2 rfl rfl (Nat.le_of_ble_eq_true rfl) ?_
  refine x_ald0 (n := 1) dX11_rightNumbers_0 rfl ?_
  refine x_getR (n := 4) flX11_19 rfl dX11_rightNumbers_1 rfl (lK_L hS) (lP_Tr hS) ?_
  refine x_ald0 (n := 5) dX11_rightNumbers_4 rfl ?_
  refine x_getR (n := 8) flX11_16 rfl dX11_rightNumbers_5 rfl (lK_L hS) (lP_Im hS) ?_
  refine x_cV1 (n := 11) (d' := 3) zcX2_takeFrom mlX11_344 dX11_rightNumbers_8 rfl (mK_M (lM3 hS)) (Nat.le_of_ble_eq_true rfl) (Nat.le_of_ble_eq_true rfl) ?_
  refine c_X2_takeFrom (lM3 hS) (lM2 hS) (by omega) (by omega) (by omega) hB hC (fun Z1 I1 z1 o1 c1 => ?_)
  refine x_none ?_
  have hS := ShL_ZT z1 (by omega) hS
  refine x_ic0 (n := 12) dX11_rightNumbers_11 rfl ?_
  refine x_ist3 (n := 13) dX11_rightNumbers_12 rfl (by decide) rfl ?_
  refine x_ic0 (n := 14) dX11_rightNumbers_13 rfl ?_
  refine x_ist4 (n := 16) dX11_rightNumbers_14 rfl (by decide) rfl ?_
  exact l_X11_rightNumbers hS hn hw hB hT h8 (fun j hj => by rw [o1 257 (by omega)]; exact hws j hj) (fun I2 o2 => hq Z1 I2 z1 (offM_trans o1 o2)) (n + 1) 0 I1 offM_refl c1 (by omega) rfl (by omega) (by omega)
theorem l_X11_check {n w R : Nat} (hn : n ≤ 30) (hw : w ≤ 60) (hR : R ≤ 60) (hq : Q (some (.int (if R = w ∧ R = 2 * n then nI 0 else nI (1 + R)))) Z I) : zX l G mX11_check 7 0 0 39 [some (.ref 0), some (.int (nI n)), some (.int (nI w)), none] [.int (nI R)] Z I Q := by
  refine x_ist3 (n := 40) dX11_check_39 rfl (by decide) rfl ?_
  refine x_ild3 (n := 41) dX11_check_40 rfl ?_
  refine x_ic2 (n := 42) dX11_check_41 rfl ?_
  refine x_ild1 (n := 43) dX11_check_42 rfl ?_
  refine x_imulN (n := 44) dX11_check_43 rfl ?_
  refine x_icmpN_ne (n := 47) (tgt := 56) dX11_check_44 rfl (by decide) (by omega) (by omega) (fun c_44 => ?_) (fun c_44 => ?_)
  · refine x_ic1 (n := 57) dX11_check_56 rfl ?_
    refine x_ild3 (n := 58) dX11_check_57 rfl ?_
    refine x_iaddN (n := 59) dX11_check_58 rfl ?_
    refine r_iret dX11_check_59 rfl ?_
    first | (rw [if_pos ⟨by omega, by omega⟩] at hq; exact hq) | (rw [if_neg (by omega)] at hq; exact hq)
  · refine x_ild2 (n := 48) dX11_check_47 rfl ?_
    refine x_ild3 (n := 49) dX11_check_48 rfl ?_
    refine x_icmpN_ne (n := 52) (tgt := 56) dX11_check_49 rfl (by decide) (by omega) (by omega) (fun c_49 => ?_) (fun c_49 => ?_)
    · refine x_ic1 (n := 57) dX11_check_56 rfl ?_
      refine x_ild3 (n := 58) dX11_check_57 rfl ?_
      refine x_iaddN (n := 59) dX11_check_58 rfl ?_
      refine r_iret dX11_check_59 rfl ?_
      first | (rw [if_pos ⟨by omega, by omega⟩] at hq; exact hq) | (rw [if_neg (by omega)] at hq; exact hq)
    · refine x_ic0 (n := 53) dX11_check_52 rfl ?_
      refine x_goto (n := 59) dX11_check_53 (by decide) ?_
      refine r_iret dX11_check_59 rfl ?_
      first | (rw [if_pos ⟨by omega, by omega⟩] at hq; exact hq) | (rw [if_neg (by omega)] at hq; exact hq)
theorem tL_check (hS : ShL Z) {img ws : Nat → Int32} {w : Nat} {h x : Int32} (hw : I 0 6 = nI w) (hw2 : w ≤ 60) (hh : I 0 7 = h) (hC : h ≠ 0 → CM Z I 82 img) (hB : h ≠ 0 → InvB img ∧ InvT img ∧ vN img 8 ≤ 1999) (hws : ∀ j, j < w → I 257 j = ws j)
    (hq : ∀ Z' I', ZT 163 Z Z' → offM 163 (va_up I 0 (upd (I 0) 6 (nI 0))) I' → Q (some (.int (f_check img g ws h w x))) Z' I') : zM l G mX11_check 7 0 0 [.ref 0, .int x] Z I Q := by
  refine x_entry [some (.ref 0), some (.int x), none, none] 2 rfl rfl (Nat.le_of_ble_eq_true rfl) ?_
  unfold f_check at hq
  refine x_ald0 (n := 1) dX11_check_0 rfl ?_
  refine x_getI (n := 4) flX11_40 rfl dX11_check_1 rfl (lK_L hS) ?_
  rw [hw]
  refine x_ist2 (n := 5) dX11_check_4 rfl (by decide) rfl ?_
  refine x_ald0 (n := 6) dX11_check_5 rfl ?_
  refine x_ic0 (n := 7) dX11_check_6 rfl ?_
  refine x_putI (n := 10) flX11_40 rfl (Or.inl rfl) rfl rfl dX11_check_7 rfl (lK_L hS) ?_
  refine x_ild1 (n := 11) dX11_check_10 rfl ?_
  refine x_ic1 (n := 12) dX11_check_11 rfl ?_
  refine x_bipush (n := 14) (v := nI 30) dX11_check_12 rfl (by decide) ?_
  refine x_cS3 (n := 17) (d' := 0) zcX11_inside mlX11_50 dX11_check_14 rfl (Nat.le_of_ble_eq_true rfl) (Nat.le_of_ble_eq_true rfl) ?_
  refine c_X11_inside (zin x 1 30) (by unfold zin; rfl) ?_
  refine x_some ?_
  refine x_zif_ne (n := 20) (tgt := 23) dX11_check_17 rfl (by decide) (fun c_17 => ?_) (fun c_17 => ?_)
  · rw [if_pos c_17] at hq
    obtain ⟨n, hn, hn2, rfl⟩ := z_num 31 (x := x) (hi := 30) (by unfold zin at *; simp only [decide_eq_true_eq] at *; omega) (by omega)
    rw [ix_nI (by omega)] at hq
    refine x_ald0 (n := 24) dX11_check_23 rfl ?_
    refine x_getI (n := 27) flX11_44 rfl dX11_check_24 rfl (lK_L hS) ?_
    rw [va_up_same, upd_off (by omega), hh]
    refine x_if_ne (n := 30) (tgt := 33) dX11_check_27 rfl (by decide) (fun c_27 => ?_) (fun c_27 => ?_)
    · rw [if_neg c_27] at hq
      obtain ⟨b1, t1, d1⟩ := hB c_27
      have hcp : ∀ i, i < 5530 → cpF img g 5530 i = img i := fun i hi => if_pos hi
      have hC2 : CM Z (va_up I 0 (upd (I 0) 6 (nI 0))) 82 (cpF img g 5530) := CM_up (CM_5530 (hC c_27) hcp) (by unfold cmOff; omega) (by omega)
      refine x_ald0 (n := 34) dX11_check_33 rfl ?_
      refine x_ild1 (n := 35) dX11_check_34 rfl ?_
      refine x_ild2 (n := 36) dX11_check_35 rfl ?_
      refine x_cV2 (n := 39) (d' := 6) zcX11_rightNumbers mlX11_341 dX11_check_36 rfl (lK_L hS) (Nat.le_of_ble_eq_true rfl) (Nat.le_of_ble_eq_true rfl) ?_
      refine c_X11_rightNumbers (ws := ws) hS (by omega) hw2 hC2 (InvB_eq hcp b1) (InvT_eq hcp b1 t1) (by rw [vN_eq (hcp 8 (by omega))]; exact d1) (fun j hj => by rw [va_up_off (by omega)]; exact hws j hj) (fun Z1 I1 z1 o1 => ?_)
      refine x_some ?_
      have hq2 := hq Z1 I1 z1 o1
      have hpl : ∀ M k, prefF ws (chkR (cpF img g 5530)) M k ≤ M + k := by
        intro M
        induction M with
        | zero => intro k; show k ≤ 0 + k; omega
        | succ M ih => intro k; unfold prefF; split; (have := ih (k + 1); omega); omega
      have hpl0 := hpl (min w (2 * n)) 0
      generalize prefF ws (chkR (cpF img g 5530)) (min w (2 * n)) 0 = R at hq2 hpl0
      exact l_X11_check (by omega) (by omega) (by omega) hq2
    · refine x_ldc (n := 32) dX11_check_30 rfl kiX11_64 ?_
      refine r_iret dX11_check_32 rfl ?_
      rw [if_pos c_27] at hq; exact hq Z _ ZT_refl offM_refl
  · refine x_ldc (n := 22) dX11_check_20 rfl kiX11_54 ?_
    refine r_iret dX11_check_22 rfl ?_
    rw [if_neg (by rw [c_17]; decide)] at hq; exact hq Z _ ZT_refl offM_refl
end
