section
variable {l : Launch} {G : zG} {Z Z' : zS} {I I' : zI} {g g' : Nat → Int32} {mk mk2 m b : Nat} {Q : Option Value → zS → zI → Prop}
/-- only the texts of a Making have changed -/
def ZT (mk : Nat) (Z Z' : zS) : Prop := Z'.1 = Z.1 ∧ Z'.2.1 = Z.2.1 ∧ Z'.2.2.1 = Z.2.2.1 ∧ ∀ a, a ≠ mk + 64 → Z'.2.2.2 a = Z.2.2.2 a
theorem ZT_refl : ZT mk Z Z := ⟨rfl, rfl, rfl, fun _ _ => rfl⟩
theorem zk_ZT (h : ZT mk Z Z') {a c : Nat} (hk : zk Z a c) : zk Z' a c := ⟨by rw [h.1]; exact hk.1, by rw [h.2.1]; exact hk.2⟩
theorem za_ZT (h : ZT mk Z Z') {a c n : Nat} (hk : za Z a c n) : za Z' a c n := ⟨by rw [h.1]; exact hk.1, by rw [h.2.1]; exact hk.2.1, by rw [h.2.2.1]; exact hk.2.2⟩
theorem mPs_64 : ∀ q ∈ mPs, q.1 ≠ 64 ∧ q.1 < 81 := by decide
theorem ShW_ZT (h : ZT mk Z Z') (hb : b ≠ mk + 64) (hW : ShW Z b) : ShW Z' b := ⟨zk_ZT h hW.1, by rw [h.2.2.2 b hb]; exact hW.2.1, za_ZT h hW.2.2⟩
theorem ShM_ZT (h : ZT mk Z Z') (hd : m = mk ∨ mk + 81 ≤ m ∨ m + 81 ≤ mk) (hM : ShM Z m) : ShM Z' m := by
  refine ⟨fun q hq => zk_ZT h (hM.1 q hq), fun q hq => ?_, fun q hq => za_ZT h (hM.2.2.1 q hq), fun w hw => ⟨?_, ?_⟩⟩
  · have := mPs_64 q hq
    rw [h.2.2.2 _ (by omega)]; exact hM.2.1 q hq
  · rw [h.2.2.2 _ (by omega)]; exact (hM.2.2.2 w hw).1
  · exact ShW_ZT h (by omega) (hM.2.2.2 w hw).2
theorem lPs_64 : ∀ q ∈ lPs, q.1 = 0 ∨ q.1 = 244 := by decide
theorem ShL_ZT (h : ZT mk Z Z') (hd : mk = 1 ∨ mk = 82 ∨ mk = 163) (hS : ShL Z) : ShL Z' := by
  obtain ⟨⟨a1, a2⟩, a3, a4, a5, a6, a7, a8⟩ := hS
  refine ⟨⟨zk_ZT h a1, zk_ZT h a2⟩, fun q hq => ?_, fun q hq => za_ZT h (a4 q hq), fun v hv => ⟨?_, ?_⟩, ShM_ZT h (by omega) a6, ShM_ZT h (by omega) a7, ShM_ZT h (by omega) a8⟩
  · have := lPs_64 q hq
    rw [h.2.2.2 _ (by omega)]; exact a3 q hq
  · rw [h.2.2.2 _ (by omega)]; exact (a5 v hv).1
  · obtain ⟨b1, b2, b3⟩ := (a5 v hv).2
    exact ⟨zk_ZT h b1, by rw [h.2.2.2 _ (by omega)]; exact b2, za_ZT h b3⟩
theorem ShR_ZT (h : ZT mk Z Z') (hd : mk < 180) (hZ : ShR Z) : ShR Z' := ⟨zk_ZT h hZ.1, fun q hq => ⟨by rw [h.2.2.2 _ (show qR ≠ mk + 64 by show 258 ≠ _; omega)]; exact (hZ.2 q hq).1, za_ZT h (hZ.2 q hq).2⟩⟩
theorem txR_ZT (h : ZT mk Z Z') (hm : mk < 200) {p t : Nat} (hx : txR Z I p g t) : txR Z' I p g t := by
  obtain ⟨h0, h1, h2, h3, h4, h5, q, h6, h7, h8, h9⟩ := hx
  exact ⟨h0, zk_ZT h h1, h2, h3, h4, h5, q, h6, by rw [h.2.2.2 p (by omega)]; exact h7, za_ZT h h8, h9⟩
theorem cmT_ZT (h : ZT mk Z Z') (hm : mk < 200) (hd : mk + 81 ≤ m ∨ m + 81 ≤ mk) (hT : cmT Z I m g) : cmT Z' I m g := by
  refine ⟨hT.1, hT.2.1, fun t ht => ?_⟩
  obtain ⟨p, hp, hx⟩ := hT.2.2 t ht
  exact ⟨p, by rw [h.2.2.2 _ (by omega)]; exact hp, txR_ZT h hm hx⟩
theorem CM_ZT (h : ZT mk Z Z') (hm : mk < 200) (hd : mk + 81 ≤ m ∨ m + 81 ≤ mk) (hC : CM Z I m g) : CM Z' I m g := ⟨hC.1, hC.2.1, hC.2.2.1, cmT_ZT h hm hd hC.2.2.2.1, hC.2.2.2.2⟩
theorem l_X8_takeFrom (hM : ShM Z mk) (hM2 : ShM Z mk2) (hm : mk < 200) (hd : mk2 + 81 ≤ mk ∨ mk + 81 ≤ mk2) (hB : InvB g) (hT : cmT Z I mk2 g) (hc : I (mk + 63) 1 = g 3) (hq : ∀ Z', ZT mk Z Z' → cmT Z' I mk g → Q none Z' I) :
    ∀ m k Z1, ZT mk Z Z1 → (∀ t, t < k → Z1.2.2.2 (mk + 64) t = Z.2.2.2 (mk2 + 64) t) → k ≤ vN g 3 → vN g 3 - k < m → zX l G mX8_takeFrom 0 0 0 10 [some (.ref (mk + 63)), some (.ref (mk2 + 63)), some (.int (nI k))] [] Z1 I Q := by
  have h14 := (iv3 hB).2
  intro m
  induction m with
  | zero => intro k Z1 _ _ _ h; exact absurd h (by omega)
  | succ m ih =>
    intro k Z1 hz ht hk hmm
    by_cases hkn : k = vN g 3
    · have hend := hq Z1 hz ⟨h14, hc, fun t htl => by
        obtain ⟨p, hp, hx⟩ := hT.2.2 t htl
        exact ⟨p, by rw [ht t (by omega)]; exact hp, txR_ZT hz hm hx⟩⟩
      have hM := ShM_ZT hz (Or.inl rfl) hM
      refine x_ild2 (n := 11) dX8_takeFrom_10 rfl ?_
      refine x_ald0 (n := 12) dX8_takeFrom_11 rfl ?_
      refine x_getI (n := 15) flX8_23 rfl dX8_takeFrom_12 rfl (mK_Ts hM) ?_
      rw [hc, (iv3 hB).1]
      refine x_icmpN_ge (n := 18) (tgt := 36) dX8_takeFrom_15 rfl (by decide) (by omega) (by omega) (fun c_15 => ?_) (fun c_15 => ?_)
      · refine r_vret dX8_takeFrom_36 rfl ?_
        exact hend
      · exact absurd hkn (by omega)
    · have hM := ShM_ZT hz (Or.inl rfl) hM
      have hM2 := ShM_ZT hz (by omega) hM2
      obtain ⟨p, hp, hx⟩ := hT.2.2 k (by omega)
      have hp1 : Z1.2.2.2 (mk2 + 64) k = some p := by rw [hz.2.2.2 _ (by omega)]; exact hp
      refine x_ild2 (n := 11) dX8_takeFrom_10 rfl ?_
      refine x_ald0 (n := 12) dX8_takeFrom_11 rfl ?_
      refine x_getI (n := 15) flX8_23 rfl dX8_takeFrom_12 rfl (mK_Ts hM) ?_
      rw [hc, (iv3 hB).1]
      refine x_icmpN_ge (n := 18) (tgt := 36) dX8_takeFrom_15 rfl (by decide) (by omega) (by omega) (fun c_15 => absurd hkn (by omega)) (fun c_15 => ?_)
      refine x_ald0 (n := 19) dX8_takeFrom_18 rfl ?_
      refine x_getR (n := 22) flX8_13 rfl dX8_takeFrom_19 rfl (mK_Ts hM) (mP_allT hM) ?_
      refine x_ild2 (n := 23) dX8_takeFrom_22 rfl ?_
      refine x_ald1 (n := 24) dX8_takeFrom_23 rfl ?_
      refine x_getR (n := 27) flX8_13 rfl dX8_takeFrom_24 rfl (mK_Ts hM2) (mP_allT hM2) ?_
      refine x_ild2 (n := 28) dX8_takeFrom_27 rfl ?_
      refine x_aaldN (n := 29) dX8_takeFrom_28 rfl (mA_allT hM2) ⟨by decide, by decide⟩ (Nat.le_of_ble_eq_true rfl) (by omega) hp1 ?_
      refine x_aastN (n := 30) dX8_takeFrom_29 rfl (mA_allT hM) ⟨by decide, by decide⟩ (zk_ZT hz hx.2.1) (by decide) rfl (Nat.le_of_ble_eq_true rfl) (by omega) ?_
      refine x_iincN2 (n := 33) (k := 1) dX8_takeFrom_30 rfl (by decide) rfl ?_
      refine x_goto (n := 10) dX8_takeFrom_33 (by decide) ?_
      refine ih (k + 1) _ ⟨hz.1, hz.2.1, hz.2.2.1, fun a ha => ?_⟩ (fun t htk => ?_) (by omega) (by omega)
      · exact (va_up_off ha).trans (hz.2.2.2 a ha)
      · show va_up Z1.2.2.2 (mk + 64) _ (mk + 64) t = _
        rw [va_up_same]
        by_cases htk2 : t = k
        · subst htk2; rw [va_up_same]; exact hp.symm
        · rw [va_up_off htk2]; exact ht t (by omega)
theorem c_X8_takeFrom (hM : ShM Z mk) (hM2 : ShM Z mk2) (hm : mk < 200) (hd : mk2 + 81 ≤ mk ∨ mk + 81 ≤ mk2) (hB : InvB g) (hT : cmT Z I mk2 g) (hq : ∀ Z' I', ZT mk Z Z' → (∀ a, a ≠ mk + 63 → I' a = I a) → cmT Z' I' mk g → Q none Z' I') : zM l G mX8_takeFrom 0 0 0 [.ref (mk + 63), .ref (mk2 + 63)] Z I Q := by
  refine x_entry [some (.ref (mk + 63)), some (.ref (mk2 + 63)), none] 1 rfl rfl (Nat.le_of_ble_eq_true rfl) ?_
  refine x_ald0 (n := 1) dX8_takeFrom_0 rfl ?_
  refine x_ald1 (n := 2) dX8_takeFrom_1 rfl ?_
  refine x_getI (n := 5) flX8_23 rfl dX8_takeFrom_2 rfl (mK_Ts hM2) ?_
  refine x_putI (n := 8) flX8_23 rfl (Or.inl rfl) rfl rfl dX8_takeFrom_5 rfl (mK_Ts hM) ?_
  refine x_ic0 (n := 9) dX8_takeFrom_8 rfl ?_
  refine x_ist2 (n := 10) dX8_takeFrom_9 rfl (by decide) rfl ?_
  have hT' : cmT Z (va_up I (mk + 63) (upd (I (mk + 63)) 1 (I (mk2 + 63) 1))) mk2 g := cmT_of hT (by rw [va_up_off (by omega)]) (fun a ha => va_up_off (by omega)) (fun _ _ => rfl)
  exact l_X8_takeFrom hM hM2 hm hd hB hT' (by rw [va_up_same, upd_same]; exact hT.2.1) (fun Z1 hz hT1 => hq Z1 _ hz (fun a ha => va_up_off ha) hT1) (vN g 3 + 1) 0 Z ZT_refl (fun t ht => absurd ht (by omega)) (by omega) (by omega)
theorem c_X2_takeFrom (hM : ShM Z mk) (hM2 : ShM Z mk2) (hm : mk < 200) (hm2 : mk2 < 200) (hd : mk2 + 81 ≤ mk ∨ mk + 81 ≤ mk2) (hB : InvB g) (hC : CM Z I mk2 g) (hq : ∀ Z' I', ZT mk Z Z' → offM mk I I' → CM Z' I' mk g → Q none Z' I') : zM l G mX2_takeFrom 3 0 0 [.ref mk, .ref mk2] Z I Q := by
  refine x_entry [some (.ref mk), some (.ref mk2)] 0 rfl rfl (Nat.le_of_ble_eq_true rfl) ?_
  obtain ⟨cG, cW, cA, cT, cC, cP, cF, cD⟩ := hC
  refine x_ald0 (n := 1) dX2_takeFrom_0 rfl ?_
  refine x_getR (n := 4) flX2_12 rfl dX2_takeFrom_1 rfl (mK_M hM) (mP_Gr hM) ?_
  refine x_ald1 (n := 5) dX2_takeFrom_4 rfl ?_
  refine x_getR (n := 8) flX2_12 rfl dX2_takeFrom_5 rfl (mK_M hM2) (mP_Gr hM2) ?_
  refine x_cV1 (n := 11) (d' := 1) zcX1_takeFrom mlX2_57 dX2_takeFrom_8 rfl (mK_Gr hM) (Nat.le_of_ble_eq_true rfl) (Nat.le_of_ble_eq_true rfl) ?_
  refine c_X1_takeFrom hM hM2 hd cG (fun I1 o1 g1 => ?_)
  have cW1 : cmW I1 mk2 g := cmW_of cW (by rw [o1 _ (by omega)]) (fun x _ _ => o1 x (by omega)) (fun _ _ _ => rfl)
  have cA1 : cmA I1 mk2 g := cmA_of cA (by rw [o1 _ (by omega)]) (o1 _ (by omega)) (o1 _ (by omega)) (fun _ _ => rfl)
  refine x_none ?_
  refine x_ald0 (n := 12) dX2_takeFrom_11 rfl ?_
  refine x_getR (n := 15) flX2_21 rfl dX2_takeFrom_12 rfl (mK_M hM) (mP_Ws hM) ?_
  refine x_ald1 (n := 16) dX2_takeFrom_15 rfl ?_
  refine x_getR (n := 19) flX2_21 rfl dX2_takeFrom_16 rfl (mK_M hM2) (mP_Ws hM2) ?_
  refine x_cV1 (n := 22) (d' := 2) zcX10_takeFrom mlX2_61 dX2_takeFrom_19 rfl (mK_Ws hM) (Nat.le_of_ble_eq_true rfl) (Nat.le_of_ble_eq_true rfl) ?_
  refine c_X10_takeFrom hM hM2 hd hB cW1 cA1 (fun I2 o2 w2 a2 => ?_)
  have e2 : ∀ a, a < mk ∨ mk + 63 ≤ a → I2 a = I a := fun a ha => by rw [o2 a (by omega), o1 a (by omega)]
  have cT2 : cmT Z I2 mk2 g := cmT_of cT (by rw [e2 _ (by omega)]) (fun x _ => e2 x (by omega)) (fun _ _ => rfl)
  refine x_none ?_
  refine x_ald0 (n := 23) dX2_takeFrom_22 rfl ?_
  refine x_getR (n := 26) flX2_28 rfl dX2_takeFrom_23 rfl (mK_M hM) (mP_Ts hM) ?_
  refine x_ald1 (n := 27) dX2_takeFrom_26 rfl ?_
  refine x_getR (n := 30) flX2_28 rfl dX2_takeFrom_27 rfl (mK_M hM2) (mP_Ts hM2) ?_
  refine x_cV1 (n := 33) (d' := 0) zcX8_takeFrom mlX2_64 dX2_takeFrom_30 rfl (mK_Ts hM) (Nat.le_of_ble_eq_true rfl) (Nat.le_of_ble_eq_true rfl) ?_
  refine c_X8_takeFrom hM hM2 hm hd hB cT2 (fun Z3 I3 z3 o3 t3 => ?_)
  have hM := ShM_ZT z3 (Or.inl rfl) hM
  have hM2 := ShM_ZT z3 (by omega) hM2
  have e3 : ∀ a, a < mk ∨ mk + 64 ≤ a → I3 a = I a := fun a ha => by rw [o3 a (by omega), e2 a (by omega)]
  refine x_none ?_
  refine x_ald0 (n := 34) dX2_takeFrom_33 rfl ?_
  refine x_getR (n := 37) flX2_35 rfl dX2_takeFrom_34 rfl (mK_M hM) (mP_Cl hM) ?_
  refine x_ald1 (n := 38) dX2_takeFrom_37 rfl ?_
  refine x_getR (n := 41) flX2_35 rfl dX2_takeFrom_38 rfl (mK_M hM2) (mP_Cl hM2) ?_
  refine x_cV1 (n := 44) (d' := 1) zcX0_takeFrom mlX2_67 dX2_takeFrom_41 rfl (mK_Cl hM) (Nat.le_of_ble_eq_true rfl) (Nat.le_of_ble_eq_true rfl) ?_
  refine c_X0_takeFrom (g := g) hM hM2 hd (cmC_of cC (by rw [e3 _ (by omega)]) (fun x _ _ => e3 x (by omega)) (fun _ _ => rfl)) (fun I4 o4 c4 => ?_)
  have e4 : ∀ a, a < mk ∨ mk + 70 ≤ a → I4 a = I a := fun a ha => by rw [o4 a (by omega), e3 a (by omega)]
  refine x_none ?_
  refine x_ald0 (n := 45) dX2_takeFrom_44 rfl ?_
  refine x_getR (n := 48) flX2_42 rfl dX2_takeFrom_45 rfl (mK_M hM) (mP_Pu hM) ?_
  refine x_ald1 (n := 49) dX2_takeFrom_48 rfl ?_
  refine x_getR (n := 52) flX2_42 rfl dX2_takeFrom_49 rfl (mK_M hM2) (mP_Pu hM2) ?_
  refine x_cV1 (n := 55) (d' := 1) zcX4_takeFrom mlX2_70 dX2_takeFrom_52 rfl (mK_Pu hM) (Nat.le_of_ble_eq_true rfl) (Nat.le_of_ble_eq_true rfl) ?_
  refine c_X4_takeFrom (g := g) hM hM2 hd (cmP_of cP (fun x _ _ => by first | exact e4 x (by omega) | (rw [o4 x (by omega)]; exact e3 x (by omega))) (fun _ _ => rfl)) (fun I5 o5 p5 => ?_)
  have e5 : ∀ a, a < mk ∨ mk + 75 ≤ a → I5 a = I a := fun a ha => by rw [o5 a (by omega), e4 a (by omega)]
  refine x_none ?_
  refine x_ald0 (n := 56) dX2_takeFrom_55 rfl ?_
  refine x_getR (n := 59) flX2_49 rfl dX2_takeFrom_56 rfl (mK_M hM) (mP_Ma hM) ?_
  refine x_ald1 (n := 60) dX2_takeFrom_59 rfl ?_
  refine x_getR (n := 63) flX2_49 rfl dX2_takeFrom_60 rfl (mK_M hM2) (mP_Ma hM2) ?_
  refine x_cV1 (n := 66) (d' := 1) zcX3_takeFrom mlX2_73 dX2_takeFrom_63 rfl (mK_Ma hM) (Nat.le_of_ble_eq_true rfl) (Nat.le_of_ble_eq_true rfl) ?_
  refine c_X3_takeFrom (g := g) hM hM2 hd (cmF_of cF (fun x _ _ => e5 x (by omega)) (fun _ _ => rfl)) (fun I6 o6 f6 => ?_)
  have e6 : ∀ a, a < mk ∨ mk + 79 ≤ a → I6 a = I a := fun a ha => by rw [o6 a (by omega), e5 a (by omega)]
  refine x_none ?_
  refine x_ald1 (n := 67) dX2_takeFrom_66 rfl ?_
  refine x_getR (n := 70) flX2_53 rfl dX2_takeFrom_67 rfl (mK_M hM2) (mP_wetness hM2) ?_
  refine x_ic0 (n := 71) dX2_takeFrom_70 rfl ?_
  refine x_ald0 (n := 72) dX2_takeFrom_71 rfl ?_
  refine x_getR (n := 75) flX2_53 rfl dX2_takeFrom_72 rfl (mK_M hM) (mP_wetness hM) ?_
  refine x_ic0 (n := 76) dX2_takeFrom_75 rfl ?_
  refine x_ald0 (n := 77) dX2_takeFrom_76 rfl ?_
  refine x_getR (n := 80) flX2_53 rfl dX2_takeFrom_77 rfl (mK_M hM) (mP_wetness hM) ?_
  refine x_alenN (n := 81) dX2_takeFrom_80 rfl (mA_wetness hM) ⟨by decide, by decide⟩ ?_
  refine x_acopyN (n := 84) dX2_takeFrom_81 rfl mlX2_76 zcN zcS zi_J10 (by decide) (Nat.le_of_ble_eq_true rfl) (mA_wetness hM2) (mA_wetness hM) (by omega) (by omega) (by decide) (by decide) ?_
  refine x_ald0 (n := 85) dX2_takeFrom_84 rfl ?_
  refine x_ald1 (n := 86) dX2_takeFrom_85 rfl ?_
  refine x_getI (n := 89) flX2_82 rfl dX2_takeFrom_86 rfl (mK_M hM2) ?_
  refine x_putI (n := 92) flX2_82 rfl (Or.inl rfl) rfl rfl dX2_takeFrom_89 rfl (mK_M hM) ?_
  refine r_vret dX2_takeFrom_92 rfl ?_
  refine hq Z3 _ z3 (fun a ha => ?_) ⟨?_, ?_, ?_, ?_, ?_, ?_, ?_, ?_⟩
  · rw [va_up_off (by omega), va_up_off (by omega)]; exact e6 a (by omega)
  · refine cmG_of g1 (fun x x1 x2 => ?_) (fun _ _ => rfl)
    rw [va_up_off (by omega), va_up_off (by omega), o6 x (by omega), o5 x (by omega), o4 x (by omega), o3 x (by omega), o2 x (by omega)]
  · refine cmW_of w2 ?_ (fun x x1 x2 => ?_) (fun _ _ _ => rfl)
    · rw [va_up_off (by omega), va_up_off (by omega), o6 _ (by omega), o5 _ (by omega), o4 _ (by omega), o3 _ (by omega)]
    · rw [va_up_off (by omega), va_up_off (by omega), o6 _ (by omega), o5 _ (by omega), o4 _ (by omega), o3 _ (by omega)]
  · refine cmA_of a2 ?_ ?_ ?_ (fun _ _ => rfl)
    · rw [va_up_off (by omega), va_up_off (by omega), o6 _ (by omega), o5 _ (by omega), o4 _ (by omega), o3 _ (by omega)]
    · rw [va_up_off (by omega), va_up_off (by omega), o6 _ (by omega), o5 _ (by omega), o4 _ (by omega), o3 _ (by omega)]
    · rw [va_up_off (by omega), va_up_off (by omega), o6 _ (by omega), o5 _ (by omega), o4 _ (by omega), o3 _ (by omega)]
  · refine cmT_of t3 ?_ (fun x x1 => ?_) (fun _ _ => rfl)
    · rw [va_up_off (by omega), va_up_off (by omega), o6 _ (by omega), o5 _ (by omega), o4 _ (by omega)]
    · rw [va_up_off (by omega), va_up_off (by omega), o6 _ (by omega), o5 _ (by omega), o4 _ (by omega)]
  · refine cmC_of c4 ?_ (fun x x1 x2 => ?_) (fun _ _ => rfl)
    · rw [va_up_off (by omega), va_up_off (by omega), o6 _ (by omega), o5 _ (by omega)]
    · rw [va_up_off (by omega), va_up_off (by omega), o6 _ (by omega), o5 _ (by omega)]
  · refine cmP_of p5 (fun x x1 x2 => ?_) (fun _ _ => rfl)
    rw [va_up_off (by omega), va_up_off (by omega), o6 _ (by omega)]
  · refine cmF_of f6 (fun x x1 x2 => ?_) (fun _ _ => rfl)
    rw [va_up_off (by omega), va_up_off (by omega)]
  · refine ⟨?_, fun k hk => ?_⟩
    · rw [va_up_same, upd_same, va_up_off (by omega), e6 _ (by omega)]; exact cD.1
    · rw [va_up_off (by omega), va_up_same, cpy0 (by omega), e6 _ (by omega)]; exact cD.2 k hk
theorem CM_5530 (h : CM Z I mk g) (hg : ∀ i, i < 5530 → g' i = g i) : CM Z I mk g' := by
  obtain ⟨a, b, c, d, e, f, i, j⟩ := h
  exact ⟨cmG_of a (fun _ _ _ => rfl) (fun i _ => hg i (by omega)), cmW_of b rfl (fun _ _ _ => rfl) (fun i _ _ => hg i (by omega)), cmA_of c rfl rfl rfl (fun i _ => hg i (by omega)), cmT_of d rfl (fun _ _ => rfl) (fun i _ => hg i (by omega)), cmC_of e rfl (fun _ _ _ => rfl) (fun i _ => hg i (by omega)), cmP_of f (fun _ _ _ => rfl) (fun i _ => hg i (by omega)), cmF_of i (fun _ _ _ => rfl) (fun i _ => hg i (by omega)), cmD_of j rfl rfl (fun i _ => hg i (by omega))⟩
/-- nothing of the class has changed but a Making and the object itself -/
theorem tL_keep (hS : ShL Z) (hC : CM Z I 1 g) (hB : InvB g) (hq : ∀ Z' I1, ZT 82 Z Z' → offM 82 I I1 → CM Z' I1 82 g → Q (some (.int (g 8))) Z' (va_up I1 0 (upd (I1 0) 7 (nI 1)))) : zM l G mX11_keep 4 0 0 [.ref 0] Z I Q := by
  refine x_entry [some (.ref 0)] 0 rfl rfl (Nat.le_of_ble_eq_true rfl) ?_
  have hM := lM1 hS
  refine x_ald0 (n := 1) dX11_keep_0 rfl ?_
  refine x_getR (n := 4) flX11_16 rfl dX11_keep_1 rfl (lK_L hS) (lP_Im hS) ?_
  refine x_ald0 (n := 5) dX11_keep_4 rfl ?_
  refine x_getR (n := 8) flX11_10 rfl dX11_keep_5 rfl (lK_L hS) (lP_M hS) ?_
  refine x_cV1 (n := 11) (d' := 3) zcX2_takeFrom mlX11_344 dX11_keep_8 rfl (mK_M (lM2 hS)) (Nat.le_of_ble_eq_true rfl) (Nat.le_of_ble_eq_true rfl) ?_
  refine c_X2_takeFrom (lM2 hS) hM (by omega) (by omega) (by omega) hB hC (fun Z1 I1 z1 o1 c1 => ?_)
  refine x_none ?_
  have hS := ShL_ZT z1 (by omega) hS
  have hM := lM1 hS
  refine x_ald0 (n := 12) dX11_keep_11 rfl ?_
  refine x_ic1 (n := 13) dX11_keep_12 rfl ?_
  refine x_putI (n := 16) flX11_44 rfl (Or.inl rfl) (by first | exact nar0 | exact nar1 | exact zb_nar _) (by decide) dX11_keep_13 rfl (lK_L hS) ?_
  refine x_ald0 (n := 17) dX11_keep_16 rfl ?_
  refine x_getR (n := 20) flX11_10 rfl dX11_keep_17 rfl (lK_L hS) (lP_M hS) ?_
  refine x_getI (n := 23) flX11_152 rfl dX11_keep_20 rfl (mK_M hM) ?_
  refine r_iret dX11_keep_23 rfl ?_
  rw [va_up_off (by omega), o1 1 (by omega), hC.2.2.2.2.2.2.2.1]; exact hq Z1 I1 z1 o1 c1
theorem tL_back (hS : ShL Z) {h : Int32} (hh : I 0 7 = h) (hC : h ≠ 0 → CM Z I 82 g) (hB : h ≠ 0 → InvB g) (hq0 : h = 0 → Q (some (.int (-1000000002))) Z I) (hq : h ≠ 0 → ∀ Z' I1, ZT 1 Z Z' → offM 1 I I1 → CM Z' I1 1 g → Q (some (.int (g 8))) Z' I1) : zM l G mX11_back 4 0 0 [.ref 0] Z I Q := by
  refine x_entry [some (.ref 0)] 0 rfl rfl (Nat.le_of_ble_eq_true rfl) ?_
  have hM := lM1 hS
  refine x_ald0 (n := 1) dX11_back_0 rfl ?_
  refine x_getI (n := 4) flX11_44 rfl dX11_back_1 rfl (lK_L hS) ?_
  rw [hh]
  refine x_if_ne (n := 7) (tgt := 10) dX11_back_4 rfl (by decide) (fun c_4 => ?_) (fun c_4 => ?_)
  · refine x_ald0 (n := 11) dX11_back_10 rfl ?_
    refine x_getR (n := 14) flX11_10 rfl dX11_back_11 rfl (lK_L hS) (lP_M hS) ?_
    refine x_ald0 (n := 15) dX11_back_14 rfl ?_
    refine x_getR (n := 18) flX11_16 rfl dX11_back_15 rfl (lK_L hS) (lP_Im hS) ?_
    refine x_cV1 (n := 21) (d' := 3) zcX2_takeFrom mlX11_344 dX11_back_18 rfl (mK_M hM) (Nat.le_of_ble_eq_true rfl) (Nat.le_of_ble_eq_true rfl) ?_
    refine c_X2_takeFrom hM (lM2 hS) (by omega) (by omega) (by omega) (hB c_4) (hC c_4) (fun Z1 I1 z1 o1 c1 => ?_)
    refine x_none ?_
    have hS := ShL_ZT z1 (by omega) hS
    have hM := lM1 hS
    refine x_ald0 (n := 22) dX11_back_21 rfl ?_
    refine x_getR (n := 25) flX11_10 rfl dX11_back_22 rfl (lK_L hS) (lP_M hS) ?_
    refine x_getI (n := 28) flX11_152 rfl dX11_back_25 rfl (mK_M hM) ?_
    refine r_iret dX11_back_28 rfl ?_
    rw [c1.2.2.2.2.2.2.2.1]; exact hq c_4 Z1 I1 z1 o1 c1
  · refine x_ldc (n := 9) dX11_back_7 rfl kiX11_64 ?_
    refine r_iret dX11_back_9 rfl ?_
    exact hq0 c_4
end
