section
variable {l : Launch} {G : zG} {Z : zS} {I I' : zI} {g g' : Nat → Int32} {mk b : Nat} {Q : Option Value → zS → zI → Prop}
theorem CM_chain (h : CM Z I mk g) (hm : mk < 200) {c k : Nat} {v : Int32} (hc : c < vN g 0) (hk : k < 3) : CM Z (va_up I (mk + 2 + k) (upd (I (mk + 2 + k)) c v)) mk (upd g (20 + 4 * c + k) v) := by
  obtain ⟨⟨h0, h1⟩, h2, ⟨s, hs, hb, h4⟩, h3⟩ := h.1
  have e0 : upd g (20 + 4 * c + k) v 0 = g 0 := upd_off (by omega)
  refine CM_setG h hm (fun a ha => va_up_off (by omega)) (fun i hi => upd_off (by omega)) ?_
  unfold cmG
  rw [vN_eq e0, e0, va_up_off (show mk + 1 ≠ mk + 2 + k by omega), va_up_off (show mk + 5 ≠ mk + 2 + k by omega)]
  refine ⟨⟨h0, h1⟩, fun u hu => ?_, ⟨s, hs, hb, fun u hu => ?_⟩, fun j hj => ?_⟩
  · obtain ⟨q0, q1, q2⟩ := h2 u hu
    have hI : ∀ j, j < 3 → va_up I (mk + 2 + k) (upd (I (mk + 2 + k)) c v) (mk + 2 + j) u = if j = k ∧ u = c then v else I (mk + 2 + j) u := by
      intro j hj
      by_cases hjk : j = k
      · subst hjk
        rw [va_up_same]
        by_cases huc : u = c
        · rw [huc, upd_same, if_pos ⟨rfl, rfl⟩]
        · rw [upd_off huc, if_neg (fun e => huc e.2)]
      · rw [va_up_off (by omega), if_neg (fun e => hjk e.1)]
    have hg : ∀ j, j < 3 → upd g (20 + 4 * c + k) v (20 + 4 * u + j) = if j = k ∧ u = c then v else g (20 + 4 * u + j) := by
      intro j hj
      by_cases hh : j = k ∧ u = c
      · rw [if_pos hh, hh.1, hh.2, upd_same]
      · rw [if_neg hh, upd_off (by omega)]
    have hg0 := hg 0 (by omega)
    rw [Nat.add_zero] at hg0
    rw [show mk + 2 = mk + 2 + 0 from rfl, show mk + 3 = mk + 2 + 1 from rfl, show mk + 4 = mk + 2 + 2 from rfl, hI 0 (by omega), hI 1 (by omega), hI 2 (by omega), hg0, hg 1 (by omega), hg 2 (by omega)]
    refine ⟨?_, ?_, ?_⟩
    · split
      · rfl
      · exact q0
    · split
      · rfl
      · exact q1
    · split
      · rfl
      · exact q2
  · rw [upd_off (by omega)]; exact h4 u hu
  · rw [upd_off (by omega)]; exact h3 j hj
theorem CM_bore (h : CM Z I mk g) (hm : mk < 200) {c s : Nat} (hc : c < vN g 0) (hs : s < 2 ^ 24) (hsI : I (mk + 1) 4 = nI s) (hb : ∀ c, c < vN g 0 → (s.testBit c = true ↔ 0 ≤ (g (20 + 4 * c + 3)).toInt)) (h2 : 0 ≤ (g (20 + 4 * c + 2)).toInt) : CM Z (va_up I (mk + 1) (upd (I (mk + 1)) 4 (nI (s ||| 2 ^ c)))) mk (upd g (20 + 4 * c + 3) (g (20 + 4 * c + 2))) := by
  obtain ⟨⟨h0, h1⟩, h2', -, h3⟩ := h.1
  have e0 : upd g (20 + 4 * c + 3) (g (20 + 4 * c + 2)) 0 = g 0 := upd_off (by omega)
  refine CM_setG h hm (fun a ha => va_up_off (by omega)) (fun i hi => upd_off (by omega)) ?_
  unfold cmG
  rw [vN_eq e0, e0, va_up_same, va_up_off (by omega), va_up_off (by omega), va_up_off (by omega), va_up_off (by omega)]
  refine ⟨⟨h0, by rw [upd_off (by omega)]; exact h1⟩, fun u hu => ?_, ⟨s ||| 2 ^ c, Nat.or_lt_two_pow hs (Nat.pow_lt_pow_right (by omega) (by omega)), upd_same, fun u hu => ?_⟩, fun j hj => ?_⟩
  · rw [upd_off (by omega), upd_off (by omega), upd_off (by omega)]; exact h2' u hu
  · rw [Nat.testBit_or, Nat.testBit_two_pow]
    by_cases huc : c = u
    · subst huc
      rw [upd_same, decide_eq_true rfl, Bool.or_true]
      exact ⟨fun _ => h2, fun _ => rfl⟩
    · rw [upd_off (by omega), decide_eq_false huc, Bool.or_false]
      exact hb u hu
  · rw [upd_off (by omega)]; exact h3 j hj
theorem CM_rule (h : CM Z I mk g) (hm : mk < 200) {k : Nat} {v : Int32} (hk : k < 6) : CM Z (va_up I (mk + 5) (upd (I (mk + 5)) k v)) mk (upd g (11 + k) v) := by
  obtain ⟨⟨h0, h1⟩, h2, ⟨s, hs, hb, h4⟩, h3⟩ := h.1
  have e0 : upd g (11 + k) v 0 = g 0 := upd_off (by omega)
  refine CM_setG h hm (fun a ha => va_up_off (by omega)) (fun i hi => upd_off (by omega)) ?_
  unfold cmG
  rw [vN_eq e0, e0, va_up_same, va_up_off (by omega), va_up_off (by omega), va_up_off (by omega), va_up_off (by omega)]
  refine ⟨⟨h0, h1⟩, fun u hu => ?_, ⟨s, hs, hb, fun u hu => ?_⟩, fun j hj => ?_⟩
  · rw [upd_off (by omega), upd_off (by omega), upd_off (by omega)]; exact h2 u hu
  · rw [upd_off (by omega)]; exact h4 u hu
  · by_cases hjk : j = k
    · subst hjk; rw [upd_same, upd_same]
    · rw [upd_off hjk, upd_off (by omega)]; exact h3 j hj
theorem CM_wet (h : CM Z I mk g) (hm : mk < 200) {k : Nat} {v : Int32} (hk : k < 2000) : CM Z (va_up I (mk + 80) (upd (I (mk + 80)) k v)) mk (upd g (510 + k) v) := by
  obtain ⟨h1, h2⟩ := h.2.2.2.2.2.2.2
  refine CM_setD h hm (fun a a1 a2 => va_up_off a2) (fun i i1 i2 => upd_off (by omega)) ?_
  unfold cmD
  rw [va_up_same, va_up_off (by omega), upd_off (by omega)]
  refine ⟨h1, fun j hj => ?_⟩
  by_cases hjk : j = k
  · subst hjk; rw [upd_same, upd_same]
  · rw [upd_off hjk, upd_off (by omega)]; exact h2 j hj
/-- what begin leaves: the count, 24 chains -/
theorem l_X1_begin (hM : ShM Z mk) {n : Int32} (hq : ∀ I', (∀ a, a ≤ mk ∨ mk + 5 ≤ a → I' a = I a) → I' (mk + 1) = upd (upd (I (mk + 1)) 0 n) 4 (nI 0) → (∀ c, c < 24 → I' (mk + 2) c = nI 50 ∧ I' (mk + 3) c = nI 50 ∧ I' (mk + 4) c = nI 0) → Q none Z I') : ∀ m k I1, (∀ a, a ≤ mk ∨ mk + 5 ≤ a → I1 a = I a) → I1 (mk + 1) = upd (I (mk + 1)) 0 n → (∀ c, c < k → I1 (mk + 2) c = nI 50 ∧ I1 (mk + 3) c = nI 50 ∧ I1 (mk + 4) c = nI 0) → k ≤ 24 → 24 - k < m → zX l G mX1_begin 2 0 0 13 [some (.ref (mk + 1)), none, some (.int (nI k))] [] Z I1 Q := by
  intro m
  induction m with
  | zero => intro k I1 _ _ _ _ h; exact absurd h (by omega)
  | succ m ih =>
    intro k I1 ho h1 hc hk hm
    have n32 : mk + 3 ≠ mk + 2 := by omega
    have n42 : mk + 4 ≠ mk + 2 := by omega
    have n43 : mk + 4 ≠ mk + 3 := by omega
    refine x_ild2 (n := 14) dX1_begin_13 rfl ?_
    refine x_bipush (n := 16) (v := nI 24) dX1_begin_14 rfl (by decide) ?_
    refine x_icmpN_ge (n := 19) (tgt := 48) dX1_begin_16 rfl (by decide) (by omega) (by omega) (fun c_16 => ?_) (fun c_16 => ?_)
    · refine x_ald0 (n := 49) dX1_begin_48 rfl ?_
      refine x_ic0 (n := 50) dX1_begin_49 rfl ?_
      refine x_putI (n := 53) flX1_48 rfl (Or.inl rfl) rfl rfl dX1_begin_50 rfl (mK_Gr hM) ?_
      refine r_vret dX1_begin_53 rfl ?_
      refine hq _ (fun a ha => ?_) ?_ (fun c hcc => ?_)
      · rw [va_up_off (by omega)]; exact ho a ha
      · rw [va_up_same, h1]
      · rw [va_up_off (by omega), va_up_off (by omega), va_up_off (by omega)]; exact hc c (by omega)
    · refine x_ald0 (n := 20) dX1_begin_19 rfl ?_
      refine x_getR (n := 23) flX1_9 rfl dX1_begin_20 rfl (mK_Gr hM) (mP_surface hM) ?_
      refine x_ild2 (n := 24) dX1_begin_23 rfl ?_
      refine x_bipush (n := 26) (v := nI 50) dX1_begin_24 rfl (by decide) ?_
      refine x_iastN (n := 27) dX1_begin_26 rfl (mA_surface hM) (Nat.le_of_ble_eq_true rfl) (by omega) ?_
      refine x_ald0 (n := 28) dX1_begin_27 rfl ?_
      refine x_getR (n := 31) flX1_13 rfl dX1_begin_28 rfl (mK_Gr hM) (mP_level hM) ?_
      refine x_ild2 (n := 32) dX1_begin_31 rfl ?_
      refine x_bipush (n := 34) (v := nI 50) dX1_begin_32 rfl (by decide) ?_
      refine x_iastN (n := 35) dX1_begin_34 rfl (mA_level hM) (Nat.le_of_ble_eq_true rfl) (by omega) ?_
      refine x_ald0 (n := 36) dX1_begin_35 rfl ?_
      refine x_getR (n := 39) flX1_16 rfl dX1_begin_36 rfl (mK_Gr hM) (mP_stratum hM) ?_
      refine x_ild2 (n := 40) dX1_begin_39 rfl ?_
      refine x_ic0 (n := 41) dX1_begin_40 rfl ?_
      refine x_iastN (n := 42) dX1_begin_41 rfl (mA_stratum hM) (Nat.le_of_ble_eq_true rfl) (by omega) ?_
      refine x_iincN2 (n := 45) (k := 1) dX1_begin_42 rfl (by decide) rfl ?_
      refine x_goto (n := 13) dX1_begin_45 (by decide) ?_
      refine ih (k + 1) _ (fun a ha => ?_) ?_ (fun c hcc => ?_) (by omega) (by omega)
      · rw [va_up_off (by omega), va_up_off (by omega), va_up_off (by omega)]; exact ho a ha
      · rw [va_up_off (by omega), va_up_off (by omega), va_up_off (by omega)]; exact h1
      · rw [va_up_off (by omega), va_up_off (by omega), va_up_same, va_up_off (by omega), va_up_same, va_up_off n32, va_up_same, va_up_off n43, va_up_off n42]
        by_cases hck : c = k
        · subst hck; exact ⟨upd_same, upd_same, upd_same⟩
        · rw [upd_off hck, upd_off hck, upd_off hck]; exact hc c (by omega)
theorem c_X1_begin (hM : ShM Z mk) {n : Nat} (hn : n ≤ 24) (hq : ∀ I', (∀ a, a ≤ mk ∨ mk + 5 ≤ a → I' a = I a) → I' (mk + 1) = upd (upd (I (mk + 1)) 0 (nI n)) 4 (nI 0) → (∀ c, c < 24 → I' (mk + 2) c = nI 50 ∧ I' (mk + 3) c = nI 50 ∧ I' (mk + 4) c = nI 0) → Q none Z I') : zM l G mX1_begin 2 0 0 [.ref (mk + 1), .int (nI n)] Z I Q := by
  refine x_entry [some (.ref (mk + 1)), some (.int (nI n)), none] 1 rfl rfl (Nat.le_of_ble_eq_true rfl) ?_
  have hcl : clF (nI n) (nI 0) (nI 24) = nI n := Int32.toInt_inj.mp (by rw [clF_i, nI_toInt (n := n) (by omega), show (nI 0).toInt = 0 by decide, show (nI 24).toInt = 24 by decide]; omega)
  refine x_ald0 (n := 1) dX1_begin_0 rfl ?_
  refine x_ild1 (n := 2) dX1_begin_1 rfl ?_
  refine x_ic0 (n := 3) dX1_begin_2 rfl ?_
  refine x_bipush (n := 5) (v := nI 24) dX1_begin_3 rfl (by decide) ?_
  refine x_cN3 (n := 8) (d' := 1) zcX11_clamp mnX1_38 dX1_begin_5 rfl (Nat.le_of_ble_eq_true rfl) (Nat.le_of_ble_eq_true rfl) ?_
  refine c_X11_clamp ?_
  rw [hcl]
  refine x_some ?_
  refine x_putI (n := 11) flX1_44 rfl (Or.inl rfl) rfl rfl dX1_begin_8 rfl (mK_Gr hM) ?_
  refine x_ic0 (n := 12) dX1_begin_11 rfl ?_
  refine x_ist2 (n := 13) dX1_begin_12 rfl (by decide) rfl ?_
  refine x_fg1 ?_
  refine l_X1_begin hM hq (24 + 1) 0 _ (fun a ha => va_up_off (by omega)) va_up_same (fun c hc => absurd hc (by omega)) (by omega) (by omega)
theorem CM_begin (h : CM Z I mk g) (hm : mk < 200) {n : Nat} (hn : n ≤ 24) (ho : ∀ a, a ≤ mk ∨ mk + 5 ≤ a → I' a = I a) (h1 : I' (mk + 1) = upd (upd (I (mk + 1)) 0 (nI n)) 4 (nI 0)) (hc : ∀ c, c < 24 → I' (mk + 2) c = nI 50 ∧ I' (mk + 3) c = nI 50 ∧ I' (mk + 4) c = nI 0) : CM Z I' mk (gBegin g n) := by
  have e0 : gBegin g n 0 = nI n := if_pos rfl
  have ev : vN (gBegin g n) 0 = n := by unfold vN; rw [e0, nI_toInt (by omega)]; rfl
  have eo : ∀ i, i ≠ 0 → (i < 20 ∨ 20 + 4 * n ≤ i) → gBegin g n i = g i := fun i i0 hi => by unfold gBegin; rw [if_neg i0, if_neg (by omega)]
  have ec : ∀ c k, c < n → k < 4 → gBegin g n (20 + 4 * c + k) = if k = 0 then nI 50 else if k = 1 then nI 50 else if k = 2 then nI 0 else -1 := by
    intro c k hc hk
    unfold gBegin
    rw [if_neg (by omega), if_pos (by omega), show (20 + 4 * c + k - 20) % 4 = k by omega]
  refine CM_setG h hm (fun a ha => ho a (by omega)) (fun i hi => eo i (by omega) (by omega)) ?_
  unfold cmG
  rw [ev, e0, h1, ho (mk + 5) (by omega)]
  refine ⟨⟨hn, by rw [upd_off (by omega), upd_same]⟩, fun c hcc => ?_, ⟨0, by decide, upd_same, fun c hcc => ?_⟩, fun k hk => ?_⟩
  · have z0 := ec c 0 hcc (by omega)
    rw [Nat.add_zero] at z0
    rw [z0, ec c 1 hcc (by omega), ec c 2 hcc (by omega)]
    exact hc c (by omega)
  · rw [ec c 3 hcc (by omega), Nat.zero_testBit]
    exact ⟨fun h => (by cases h), fun h => absurd h (by decide)⟩
  · rw [eo _ (by omega) (by omega)]; exact h.1.2.2.2 k hk
theorem tL_chains (hS : ShL Z) (hC : CM Z I 1 g) (hB : InvB g) {x : Int32} (hq : ∀ I', offM 1 I I' → CM Z I' 1 (f_chains g x).2 → Q (some (.int (f_chains g x).1)) Z I') : zM l G mX11_chains 3 0 0 [.ref 0, .int x] Z I Q := by
  refine x_entry [some (.ref 0), some (.int x), none] 1 rfl rfl (Nat.le_of_ble_eq_true rfl) ?_
  have hM := lM1 hS
  refine x_ild1 (n := 1) dX11_chains_0 rfl ?_
  refine x_ic2 (n := 2) dX11_chains_1 rfl ?_
  refine x_bipush (n := 4) (v := nI 24) dX11_chains_2 rfl (by decide) ?_
  refine x_cS3 (n := 7) (d' := 0) zcX11_inside mlX11_50 dX11_chains_4 rfl (Nat.le_of_ble_eq_true rfl) (Nat.le_of_ble_eq_true rfl) ?_
  refine c_X11_inside (zin x 2 24) (by unfold zin; rfl) ?_
  refine x_some ?_
  refine x_zif_ne (n := 10) (tgt := 13) dX11_chains_7 rfl (by decide) (fun c_7 => ?_) (fun c_7 => ?_)
  · refine x_ald0 (n := 14) dX11_chains_13 rfl ?_
    refine x_getR (n := 17) flX11_10 rfl dX11_chains_14 rfl (lK_L hS) (lP_M hS) ?_
    refine x_getR (n := 20) flX11_55 rfl dX11_chains_17 rfl (mK_M hM) (mP_Ws hM) ?_
    refine x_getI (n := 23) flX11_59 rfl dX11_chains_20 rfl (mK_Ws hM) ?_
    rw [hC.2.1.2.1]
    refine x_if_le (n := 26) (tgt := 29) dX11_chains_23 rfl (by decide) (fun c_23 => ?_) (fun c_23 => ?_)
    · refine x_ald0 (n := 30) dX11_chains_29 rfl ?_
      refine x_getR (n := 33) flX11_10 rfl dX11_chains_30 rfl (lK_L hS) (lP_M hS) ?_
      refine x_getR (n := 36) flX11_65 rfl dX11_chains_33 rfl (mK_M hM) (mP_Gr hM) ?_
      refine x_getI (n := 39) flX11_69 rfl dX11_chains_36 rfl (mK_Gr hM) ?_
      rw [hC.1.1.2]
      refine x_ist2 (n := 40) dX11_chains_39 rfl (by decide) rfl ?_
      refine x_ald0 (n := 41) dX11_chains_40 rfl ?_
      refine x_getR (n := 44) flX11_10 rfl dX11_chains_41 rfl (lK_L hS) (lP_M hS) ?_
      refine x_getR (n := 47) flX11_65 rfl dX11_chains_44 rfl (mK_M hM) (mP_Gr hM) ?_
      refine x_ild1 (n := 48) dX11_chains_47 rfl ?_
      obtain ⟨c, hc, hc2, rfl⟩ := z_num 25 (x := x) (hi := 24) (by unfold zin at *; simp only [decide_eq_true_eq] at *; omega) (by omega)
      refine x_cV1 (n := 51) (d' := 2) zcX1_begin mlX11_70 dX11_chains_48 rfl (mK_Gr hM) (Nat.le_of_ble_eq_true rfl) (Nat.le_of_ble_eq_true rfl) ?_
      refine c_X1_begin hM (by omega) (fun I1 h1 h2 h3 => ?_)
      refine x_none ?_
      refine x_ild2 (n := 52) dX11_chains_51 rfl ?_
      refine r_iret dX11_chains_52 rfl ?_
      unfold f_chains at hq; rw [if_pos c_7, if_pos (by rw [zle, Int32.toInt_zero] at c_23; omega), ix_nI (by omega)] at hq
      exact hq I1 (fun a ha => h1 a (by omega)) (CM_begin hC (by omega) (by omega) h1 h2 h3)
    · refine x_ldc (n := 28) dX11_chains_26 rfl kiX11_64 ?_
      refine r_iret dX11_chains_28 rfl ?_
      unfold f_chains at hq; rw [if_pos c_7, if_neg (by rw [zle, Int32.toInt_zero] at c_23; omega)] at hq; exact hq I offM_refl hC
  · refine x_ldc (n := 12) dX11_chains_10 rfl kiX11_54 ?_
    refine r_iret dX11_chains_12 rfl ?_
    unfold f_chains at hq; rw [if_neg (by rw [c_7]; decide)] at hq; exact hq I offM_refl hC
theorem tL_set (hS : ShL Z) (hC : CM Z I 1 g) (hB : InvB g) {x y v : Int32} (hq : ∀ I', offM 1 I I' → CM Z I' 1 (f_set g x y v).2 → Q (some (.int (f_set g x y v).1)) Z I') : zM l G mX11_set 1 0 0 [.ref 0, .int x, .int y, .int v] Z I Q := by
  refine x_entry [some (.ref 0), some (.int x), some (.int y), some (.int v)] 0 rfl rfl (Nat.le_of_ble_eq_true rfl) ?_
  have hM := lM1 hS
  have h24 := (iv0 hB).2.2
  refine x_ald0 (n := 1) dX11_set_0 rfl ?_
  refine x_getR (n := 4) flX11_10 rfl dX11_set_1 rfl (lK_L hS) (lP_M hS) ?_
  refine x_getR (n := 7) flX11_65 rfl dX11_set_4 rfl (mK_M hM) (mP_Gr hM) ?_
  refine x_ild1 (n := 8) dX11_set_7 rfl ?_
  refine x_cV1 (n := 11) (d' := 0) zcX1_has mlX11_74 dX11_set_8 rfl (mK_Gr hM) (Nat.le_of_ble_eq_true rfl) (Nat.le_of_ble_eq_true rfl) ?_
  refine c_X1_has hM hC.1 hB ?_
  refine x_some ?_
  refine x_zif_eq (n := 14) (tgt := 42) dX11_set_11 rfl (by decide) (fun c_11 => ?_) (fun c_11 => ?_)
  · refine x_ldc (n := 44) dX11_set_42 rfl kiX11_54 ?_
    refine r_iret dX11_set_44 rfl ?_
    unfold f_set at hq; rw [if_neg (by rintro ⟨h1, h2, h3⟩; simp_all)] at hq; exact hq I offM_refl hC
  · refine x_ild2 (n := 15) dX11_set_14 rfl ?_
    refine x_ic0 (n := 16) dX11_set_15 rfl ?_
    refine x_ic2 (n := 17) dX11_set_16 rfl ?_
    refine x_cS3 (n := 20) (d' := 0) zcX11_inside mlX11_50 dX11_set_17 rfl (Nat.le_of_ble_eq_true rfl) (Nat.le_of_ble_eq_true rfl) ?_
    refine c_X11_inside (zin y 0 2) (by unfold zin; rfl) ?_
    refine x_some ?_
    refine x_zif_eq (n := 23) (tgt := 42) dX11_set_20 rfl (by decide) (fun c_20 => ?_) (fun c_20 => ?_)
    · refine x_ldc (n := 44) dX11_set_42 rfl kiX11_54 ?_
      refine r_iret dX11_set_44 rfl ?_
      unfold f_set at hq; rw [if_neg (by rintro ⟨h1, h2, h3⟩; simp_all)] at hq; exact hq I offM_refl hC
    · refine x_ild3 (n := 24) dX11_set_23 rfl ?_
      refine x_ic0 (n := 25) dX11_set_24 rfl ?_
      refine x_ild2 (n := 26) dX11_set_25 rfl ?_
      refine x_ic2 (n := 27) dX11_set_26 rfl ?_
      refine x_icmp_ne (n := 30) (tgt := 34) dX11_set_27 rfl (by decide) (fun c_27 => ?_) (fun c_27 => ?_)
      · refine x_bipush (n := 36) (v := nI 99) dX11_set_34 rfl (by decide) ?_
        refine x_cS3 (n := 39) (d' := 0) zcX11_inside mlX11_50 dX11_set_36 rfl (Nat.le_of_ble_eq_true rfl) (Nat.le_of_ble_eq_true rfl) ?_
        refine c_X11_inside (zin v 0 (if y = nI 2 then 3 else 99)) (by unfold zin; (first | rw [if_neg c_27] | rw [if_pos c_27]); rfl) ?_
        refine x_some ?_
        refine x_zif_ne (n := 42) (tgt := 45) dX11_set_39 rfl (by decide) (fun c_39 => ?_) (fun c_39 => ?_)
        · unfold f_set at hq
          rw [if_pos ⟨c_11, c_20, c_39⟩] at hq
          obtain ⟨c, hc, rfl⟩ := z_chain c_11
          obtain ⟨k, hk, hk2, rfl⟩ := z_num 3 c_20 (by omega)
          rw [ix_nI (by omega), ix_nI (by omega)] at hq
          refine x_ald0 (n := 46) dX11_set_45 rfl ?_
          refine x_getR (n := 49) flX11_10 rfl dX11_set_46 rfl (lK_L hS) (lP_M hS) ?_
          refine x_getR (n := 52) flX11_65 rfl dX11_set_49 rfl (mK_M hM) (mP_Gr hM) ?_
          refine x_ild2 (n := 53) dX11_set_52 rfl ?_
          refine x_cV1 (n := 56) (d' := 0) zcX1_rowOf mlX11_78 dX11_set_53 rfl (mK_Gr hM) (Nat.le_of_ble_eq_true rfl) (Nat.le_of_ble_eq_true rfl) ?_
          refine c_X1_rowOf hM hk ?_
          refine x_some ?_
          refine x_ild1 (n := 57) dX11_set_56 rfl ?_
          refine x_ild3 (n := 58) dX11_set_57 rfl ?_
          have har : za Z (1 + 2 + k) 13 24 := by rcases (by omega : k = 0 ∨ k = 1 ∨ k = 2) with rfl | rfl | rfl; exact mA_surface hM; exact mA_level hM; exact mA_stratum hM
          have hcell : I (1 + 2 + k) c = g (20 + 4 * c + k) := by rcases (by omega : k = 0 ∨ k = 1 ∨ k = 2) with rfl | rfl | rfl; exact (hC.1.2.1 c hc).1; exact (hC.1.2.1 c hc).2.1; exact (hC.1.2.1 c hc).2.2
          refine x_cS3 (n := 61) (d' := 0) zcX11_exchange mlX11_82 dX11_set_58 rfl (Nat.le_of_ble_eq_true rfl) (Nat.le_of_ble_eq_true rfl) ?_
          refine c_X11_exchange har (by decide) (by omega) ?_
          rw [hcell]
          refine x_some ?_
          refine r_iret dX11_set_61 rfl ?_
          exact hq _ (up1 (by omega) (by omega)) (CM_chain hC (by omega) hc hk)
        · refine x_ldc (n := 44) dX11_set_42 rfl kiX11_54 ?_
          refine r_iret dX11_set_44 rfl ?_
          unfold f_set at hq; rw [if_neg (by rintro ⟨h1, h2, h3⟩; simp_all)] at hq; exact hq I offM_refl hC
      · refine x_ic3 (n := 31) dX11_set_30 rfl ?_
        refine x_goto (n := 36) dX11_set_31 (by decide) ?_
        refine x_cS3 (n := 39) (d' := 0) zcX11_inside mlX11_50 dX11_set_36 rfl (Nat.le_of_ble_eq_true rfl) (Nat.le_of_ble_eq_true rfl) ?_
        refine c_X11_inside (zin v 0 (if y = nI 2 then 3 else 99)) (by unfold zin; (first | rw [if_neg c_27] | rw [if_pos c_27]); rfl) ?_
        refine x_some ?_
        refine x_zif_ne (n := 42) (tgt := 45) dX11_set_39 rfl (by decide) (fun c_39 => ?_) (fun c_39 => ?_)
        · unfold f_set at hq
          rw [if_pos ⟨c_11, c_20, c_39⟩] at hq
          obtain ⟨c, hc, rfl⟩ := z_chain c_11
          obtain ⟨k, hk, hk2, rfl⟩ := z_num 3 c_20 (by omega)
          rw [ix_nI (by omega), ix_nI (by omega)] at hq
          refine x_ald0 (n := 46) dX11_set_45 rfl ?_
          refine x_getR (n := 49) flX11_10 rfl dX11_set_46 rfl (lK_L hS) (lP_M hS) ?_
          refine x_getR (n := 52) flX11_65 rfl dX11_set_49 rfl (mK_M hM) (mP_Gr hM) ?_
          refine x_ild2 (n := 53) dX11_set_52 rfl ?_
          refine x_cV1 (n := 56) (d' := 0) zcX1_rowOf mlX11_78 dX11_set_53 rfl (mK_Gr hM) (Nat.le_of_ble_eq_true rfl) (Nat.le_of_ble_eq_true rfl) ?_
          refine c_X1_rowOf hM hk ?_
          refine x_some ?_
          refine x_ild1 (n := 57) dX11_set_56 rfl ?_
          refine x_ild3 (n := 58) dX11_set_57 rfl ?_
          have har : za Z (1 + 2 + k) 13 24 := by rcases (by omega : k = 0 ∨ k = 1 ∨ k = 2) with rfl | rfl | rfl; exact mA_surface hM; exact mA_level hM; exact mA_stratum hM
          have hcell : I (1 + 2 + k) c = g (20 + 4 * c + k) := by rcases (by omega : k = 0 ∨ k = 1 ∨ k = 2) with rfl | rfl | rfl; exact (hC.1.2.1 c hc).1; exact (hC.1.2.1 c hc).2.1; exact (hC.1.2.1 c hc).2.2
          refine x_cS3 (n := 61) (d' := 0) zcX11_exchange mlX11_82 dX11_set_58 rfl (Nat.le_of_ble_eq_true rfl) (Nat.le_of_ble_eq_true rfl) ?_
          refine c_X11_exchange har (by decide) (by omega) ?_
          rw [hcell]
          refine x_some ?_
          refine r_iret dX11_set_61 rfl ?_
          exact hq _ (up1 (by omega) (by omega)) (CM_chain hC (by omega) hc hk)
        · refine x_ldc (n := 44) dX11_set_42 rfl kiX11_54 ?_
          refine r_iret dX11_set_44 rfl ?_
          unfold f_set at hq; rw [if_neg (by rintro ⟨h1, h2, h3⟩; simp_all)] at hq; exact hq I offM_refl hC
theorem tL_bore (hS : ShL Z) (hC : CM Z I 1 g) (hB : InvB g) {x : Int32} (hq : ∀ I', offM 1 I I' → CM Z I' 1 (f_bore g x).2 → Q (some (.int (f_bore g x).1)) Z I') : zM l G mX11_bore 2 0 0 [.ref 0, .int x] Z I Q := by
  refine x_entry [some (.ref 0), some (.int x)] 0 rfl rfl (Nat.le_of_ble_eq_true rfl) ?_
  have hM := lM1 hS
  have h24 := (iv0 hB).2.2
  obtain ⟨s, hs, hsI, hsb⟩ := hC.1.2.2.1
  refine x_ald0 (n := 1) dX11_bore_0 rfl ?_
  refine x_getR (n := 4) flX11_10 rfl dX11_bore_1 rfl (lK_L hS) (lP_M hS) ?_
  refine x_getR (n := 7) flX11_65 rfl dX11_bore_4 rfl (mK_M hM) (mP_Gr hM) ?_
  refine x_ild1 (n := 8) dX11_bore_7 rfl ?_
  refine x_cV1 (n := 11) (d' := 0) zcX1_has mlX11_74 dX11_bore_8 rfl (mK_Gr hM) (Nat.le_of_ble_eq_true rfl) (Nat.le_of_ble_eq_true rfl) ?_
  refine c_X1_has hM hC.1 hB ?_
  refine x_some ?_
  refine x_zif_ne (n := 14) (tgt := 17) dX11_bore_11 rfl (by decide) (fun c_11 => ?_) (fun c_11 => ?_)
  · unfold f_bore at hq
    rw [if_pos c_11] at hq
    obtain ⟨c, hc, rfl⟩ := z_chain c_11
    rw [ix_nI (by omega)] at hq
    refine x_ald0 (n := 18) dX11_bore_17 rfl ?_
    refine x_getR (n := 21) flX11_10 rfl dX11_bore_18 rfl (lK_L hS) (lP_M hS) ?_
    refine x_getR (n := 24) flX11_65 rfl dX11_bore_21 rfl (mK_M hM) (mP_Gr hM) ?_
    refine x_dup (n := 25) dX11_bore_24 rfl rfl ?_
    refine x_getI (n := 28) flX11_86 rfl dX11_bore_25 rfl (mK_Gr hM) ?_
    refine x_ic1 (n := 29) dX11_bore_28 rfl ?_
    refine x_ild1 (n := 30) dX11_bore_29 rfl ?_
    refine x_ishl (n := 31) dX11_bore_30 rfl ?_
    refine x_ior (n := 32) dX11_bore_31 rfl ?_
    rw [hsI, zshl (by omega), zor]
    refine x_putI (n := 35) flX11_86 rfl (Or.inl rfl) rfl rfl dX11_bore_32 rfl (mK_Gr hM) ?_
    have hB2 : InvB (upd g (20 + 4 * c + 3) (g (20 + 4 * c + 2))) := InvB_chn hB hc (Or.inr (Or.inr ⟨rfl, by have := (ivC hB hc).2.2.1; unfold rg at *; omega⟩))
    have hC2 := CM_bore hC (by omega) hc hs hsI hsb (ivC hB hc).2.2.1.1
    refine x_ald0 (n := 36) dX11_bore_35 rfl ?_
    refine x_getR (n := 39) flX11_10 rfl dX11_bore_36 rfl (lK_L hS) (lP_M hS) ?_
    refine x_getR (n := 42) flX11_65 rfl dX11_bore_39 rfl (mK_M hM) (mP_Gr hM) ?_
    refine x_ild1 (n := 43) dX11_bore_42 rfl ?_
    refine x_cV1 (n := 46) (d' := 1) zcX1_stratumOf mlX11_89 dX11_bore_43 rfl (mK_Gr hM) (Nat.le_of_ble_eq_true rfl) (Nat.le_of_ble_eq_true rfl) ?_
    refine c_X1_stratumOf hM hC2.1 hB2 (by rw [vN_eq (upd_off (by omega))]; exact hc) ?_
    rw [upd_off (by omega)]
    refine x_some ?_
    refine r_iret dX11_bore_46 rfl ?_
    exact hq _ (up1 (by omega) (by omega)) hC2
  · refine x_ldc (n := 16) dX11_bore_14 rfl kiX11_54 ?_
    refine r_iret dX11_bore_16 rfl ?_
    unfold f_bore at hq; rw [if_neg (by rw [c_11]; decide)] at hq; exact hq I offM_refl hC
theorem tL_at (hS : ShL Z) (hC : CM Z I 1 g) (hB : InvB g) {x y : Int32} (hq : Q (some (.int (f_at g x y))) Z I) : zM l G mX11_at 2 0 0 [.ref 0, .int x, .int y] Z I Q := by
  refine x_entry [some (.ref 0), some (.int x), some (.int y)] 0 rfl rfl (Nat.le_of_ble_eq_true rfl) ?_
  have hM := lM1 hS
  have h24 := (iv0 hB).2.2
  obtain ⟨s, hs, hsI, hsb⟩ := hC.1.2.2.1
  refine x_ald0 (n := 1) dX11_at_0 rfl ?_
  refine x_getR (n := 4) flX11_10 rfl dX11_at_1 rfl (lK_L hS) (lP_M hS) ?_
  refine x_getR (n := 7) flX11_65 rfl dX11_at_4 rfl (mK_M hM) (mP_Gr hM) ?_
  refine x_ild1 (n := 8) dX11_at_7 rfl ?_
  refine x_cV1 (n := 11) (d' := 0) zcX1_has mlX11_74 dX11_at_8 rfl (mK_Gr hM) (Nat.le_of_ble_eq_true rfl) (Nat.le_of_ble_eq_true rfl) ?_
  refine c_X1_has hM hC.1 hB ?_
  refine x_some ?_
  refine x_zif_ne (n := 14) (tgt := 17) dX11_at_11 rfl (by decide) (fun c_11 => ?_) (fun c_11 => ?_)
  · unfold f_at at hq
    rw [if_pos c_11] at hq
    obtain ⟨c, hc, rfl⟩ := z_chain c_11
    rw [ix_nI (by omega)] at hq
    refine x_ild2 (n := 18) dX11_at_17 rfl ?_
    rcases zsw0_5 (y) with hsw | hsw | hsw | hsw | hsw | hsw | hsw
    · refine x_tswO (n := 153) dX11_at_18 hsw (by decide) ?_
      refine x_ldc (n := 155) dX11_at_153 rfl kiX11_54 ?_
      refine r_iret dX11_at_155 rfl ?_
      rw [if_neg, if_neg, if_neg, if_neg, if_neg, if_neg] at hq
      · exact hq
      all_goals (rintro rfl; revert hsw; decide)
    · refine x_top hsw ?_
      refine x_tswI (n := 56) (off := 38) dX11_at_18 (by decide) (by decide) (by decide +kernel) (by decide) ?_
      subst hsw
      refine x_ald0 (n := 57) dX11_at_56 rfl ?_
      refine x_getR (n := 60) flX11_10 rfl dX11_at_57 rfl (lK_L hS) (lP_M hS) ?_
      refine x_getR (n := 63) flX11_65 rfl dX11_at_60 rfl (mK_M hM) (mP_Gr hM) ?_
      refine x_ild2 (n := 64) dX11_at_63 rfl ?_
      refine x_cV1 (n := 67) (d' := 0) zcX1_rowOf mlX11_78 dX11_at_64 rfl (mK_Gr hM) (Nat.le_of_ble_eq_true rfl) (Nat.le_of_ble_eq_true rfl) ?_
      first | refine c_X1_rowOf hM (k := 0) (by omega) ?_ | refine c_X1_rowOf hM (k := 1) (by omega) ?_
      refine x_some ?_
      refine x_ild1 (n := 68) dX11_at_67 rfl ?_
      first | refine x_ialdN (n := 69) dX11_at_68 rfl (mA_surface hM) (Nat.le_of_ble_eq_true rfl) (by omega) ?_ | refine x_ialdN (n := 69) dX11_at_68 rfl (mA_level hM) (Nat.le_of_ble_eq_true rfl) (by omega) ?_
      refine r_iret dX11_at_69 rfl ?_
      first | (rw [show I (1 + 2 + 0) c = g (20 + 4 * c) from (hC.1.2.1 c hc).1]; exact hq) | (rw [show I (1 + 2 + 1) c = g (20 + 4 * c + 1) from (hC.1.2.1 c hc).2.1]; exact hq)
    · refine x_top hsw ?_
      refine x_tswI (n := 56) (off := 38) dX11_at_18 (by decide) (by decide) (by decide +kernel) (by decide) ?_
      subst hsw
      refine x_ald0 (n := 57) dX11_at_56 rfl ?_
      refine x_getR (n := 60) flX11_10 rfl dX11_at_57 rfl (lK_L hS) (lP_M hS) ?_
      refine x_getR (n := 63) flX11_65 rfl dX11_at_60 rfl (mK_M hM) (mP_Gr hM) ?_
      refine x_ild2 (n := 64) dX11_at_63 rfl ?_
      refine x_cV1 (n := 67) (d' := 0) zcX1_rowOf mlX11_78 dX11_at_64 rfl (mK_Gr hM) (Nat.le_of_ble_eq_true rfl) (Nat.le_of_ble_eq_true rfl) ?_
      first | refine c_X1_rowOf hM (k := 0) (by omega) ?_ | refine c_X1_rowOf hM (k := 1) (by omega) ?_
      refine x_some ?_
      refine x_ild1 (n := 68) dX11_at_67 rfl ?_
      first | refine x_ialdN (n := 69) dX11_at_68 rfl (mA_surface hM) (Nat.le_of_ble_eq_true rfl) (by omega) ?_ | refine x_ialdN (n := 69) dX11_at_68 rfl (mA_level hM) (Nat.le_of_ble_eq_true rfl) (by omega) ?_
      refine r_iret dX11_at_69 rfl ?_
      first | (rw [show I (1 + 2 + 0) c = g (20 + 4 * c) from (hC.1.2.1 c hc).1]; exact hq) | (rw [show I (1 + 2 + 1) c = g (20 + 4 * c + 1) from (hC.1.2.1 c hc).2.1]; exact hq)
    · refine x_top hsw ?_
      refine x_tswI (n := 70) (off := 52) dX11_at_18 (by decide) (by decide) (by decide +kernel) (by decide) ?_
      refine x_ald0 (n := 71) dX11_at_70 rfl ?_
      refine x_getR (n := 74) flX11_10 rfl dX11_at_71 rfl (lK_L hS) (lP_M hS) ?_
      refine x_getR (n := 77) flX11_65 rfl dX11_at_74 rfl (mK_M hM) (mP_Gr hM) ?_
      refine x_getI (n := 80) flX11_86 rfl dX11_at_77 rfl (mK_Gr hM) ?_
      rw [hsI]
      refine x_ild1 (n := 81) dX11_at_80 rfl ?_
      refine x_cS2 (n := 84) (d' := 0) zcX11_hasBit mlX11_93 dX11_at_81 rfl (Nat.le_of_ble_eq_true rfl) (Nat.le_of_ble_eq_true rfl) ?_
      refine c_X11_hasBit (by omega) (by omega) ?_
      refine x_some ?_
      refine x_zif_eq (n := 87) (tgt := 101) dX11_at_84 rfl (by decide) (fun c_84 => ?_) (fun c_84 => ?_)
      · refine x_ldc (n := 103) dX11_at_101 rfl kiX11_97 ?_
        refine r_iret dX11_at_103 rfl ?_
        subst hsw
        have hb := hsb c hc
        rw [c_84] at hb
        first | (rw [if_neg (by decide), if_neg (by decide), if_pos rfl, if_neg (by have := hb.mp rfl; omega)] at hq; exact hq) | (rw [if_neg (by decide), if_neg (by decide), if_pos rfl, if_pos (by have h2 : ¬ _ := (fun h => by have := hb.mpr h; cases this); omega)] at hq; exact hq)
      · refine x_ald0 (n := 88) dX11_at_87 rfl ?_
        refine x_getR (n := 91) flX11_10 rfl dX11_at_88 rfl (lK_L hS) (lP_M hS) ?_
        refine x_getR (n := 94) flX11_65 rfl dX11_at_91 rfl (mK_M hM) (mP_Gr hM) ?_
        refine x_ild1 (n := 95) dX11_at_94 rfl ?_
        refine x_cV1 (n := 98) (d' := 1) zcX1_stratumOf mlX11_89 dX11_at_95 rfl (mK_Gr hM) (Nat.le_of_ble_eq_true rfl) (Nat.le_of_ble_eq_true rfl) ?_
        refine c_X1_stratumOf hM hC.1 hB hc ?_
        refine x_some ?_
        refine x_goto (n := 103) dX11_at_98 (by decide) ?_
        refine r_iret dX11_at_103 rfl ?_
        subst hsw
        have hb := hsb c hc
        rw [c_84] at hb
        first | (rw [if_neg (by decide), if_neg (by decide), if_pos rfl, if_neg (by have := hb.mp rfl; omega)] at hq; exact hq) | (rw [if_neg (by decide), if_neg (by decide), if_pos rfl, if_pos (by have h2 : ¬ _ := (fun h => by have := hb.mpr h; cases this); omega)] at hq; exact hq)
    · refine x_top hsw ?_
      refine x_tswI (n := 104) (off := 86) dX11_at_18 (by decide) (by decide) (by decide +kernel) (by decide) ?_
      refine x_ald0 (n := 105) dX11_at_104 rfl ?_
      refine x_getR (n := 108) flX11_10 rfl dX11_at_105 rfl (lK_L hS) (lP_M hS) ?_
      refine x_getR (n := 111) flX11_65 rfl dX11_at_108 rfl (mK_M hM) (mP_Gr hM) ?_
      refine x_ild1 (n := 112) dX11_at_111 rfl ?_
      refine x_cV1 (n := 115) (d' := 1) zcX1_depthOf mlX11_98 dX11_at_112 rfl (mK_Gr hM) (Nat.le_of_ble_eq_true rfl) (Nat.le_of_ble_eq_true rfl) ?_
      refine c_X1_depthOf hM hC.1 hB hc ?_
      refine x_some ?_
      refine r_iret dX11_at_115 rfl ?_
      subst hsw; exact hq
    · refine x_top hsw ?_
      refine x_tswI (n := 116) (off := 98) dX11_at_18 (by decide) (by decide) (by decide +kernel) (by decide) ?_
      refine x_ald0 (n := 117) dX11_at_116 rfl ?_
      refine x_getR (n := 120) flX11_10 rfl dX11_at_117 rfl (lK_L hS) (lP_M hS) ?_
      refine x_getR (n := 123) flX11_55 rfl dX11_at_120 rfl (mK_M hM) (mP_Ws hM) ?_
      refine x_ild1 (n := 124) dX11_at_123 rfl ?_
      refine x_cV1 (n := 127) (d' := 0) zcX10_howManyAt mlX11_101 dX11_at_124 rfl (mK_Ws hM) (Nat.le_of_ble_eq_true rfl) (Nat.le_of_ble_eq_true rfl) ?_
      refine c_X10_howManyAt hM hC.2.1 hB ?_
      refine x_some ?_
      refine r_iret dX11_at_127 rfl ?_
      subst hsw; exact hq
    · refine x_top hsw ?_
      refine x_tswI (n := 128) (off := 110) dX11_at_18 (by decide) (by decide) (by decide +kernel) (by decide) ?_
      refine x_ald0 (n := 129) dX11_at_128 rfl ?_
      refine x_getR (n := 132) flX11_10 rfl dX11_at_129 rfl (lK_L hS) (lP_M hS) ?_
      refine x_getR (n := 135) flX11_55 rfl dX11_at_132 rfl (mK_M hM) (mP_Ws hM) ?_
      refine x_ic5 (n := 136) dX11_at_135 rfl ?_
      refine x_ic0 (n := 137) dX11_at_136 rfl ?_
      refine x_cV2 (n := 140) (d' := 0) zcX10_chainsWith mlX11_106 dX11_at_137 rfl (mK_Ws hM) (Nat.le_of_ble_eq_true rfl) (Nat.le_of_ble_eq_true rfl) ?_
      refine c_X10_chainsWith hM hC.2.1 hB (fun t ht => ?_)
      refine x_some ?_
      refine x_ild1 (n := 141) dX11_at_140 rfl ?_
      have htl := ht.1
      refine x_cS2 (n := 144) (d' := 0) zcX11_hasBit mlX11_93 dX11_at_141 rfl (Nat.le_of_ble_eq_true rfl) (Nat.le_of_ble_eq_true rfl) ?_
      refine c_X11_hasBit (by omega) (by omega) ?_
      refine x_some ?_
      refine x_zif_eq (n := 147) (tgt := 151) dX11_at_144 rfl (by decide) (fun c_144 => ?_) (fun c_144 => ?_)
      · refine x_ic0 (n := 152) dX11_at_151 rfl ?_
        refine r_iret dX11_at_152 rfl ?_
        subst hsw
        rw [ht.2 c (by omega), cw50 hB (by omega) c (Nat.le_refl _)] at c_144
        rw [if_neg (by decide), if_neg (by decide), if_neg (by decide), if_neg (by decide), if_neg (by decide), if_pos rfl] at hq
        first | (rw [if_pos (of_decide_eq_true c_144)] at hq; exact hq) | (rw [if_neg (of_decide_eq_false c_144)] at hq; exact hq)
      · refine x_ic1 (n := 148) dX11_at_147 rfl ?_
        refine x_goto (n := 152) dX11_at_148 (by decide) ?_
        refine r_iret dX11_at_152 rfl ?_
        subst hsw
        rw [ht.2 c (by omega), cw50 hB (by omega) c (Nat.le_refl _)] at c_144
        rw [if_neg (by decide), if_neg (by decide), if_neg (by decide), if_neg (by decide), if_neg (by decide), if_pos rfl] at hq
        first | (rw [if_pos (of_decide_eq_true c_144)] at hq; exact hq) | (rw [if_neg (of_decide_eq_false c_144)] at hq; exact hq)
  · refine x_ldc (n := 16) dX11_at_14 rfl kiX11_54 ?_
    refine r_iret dX11_at_16 rfl ?_
    unfold f_at at hq; rw [if_neg (by rw [c_11]; decide)] at hq; exact hq
theorem tL_rule (hS : ShL Z) (hC : CM Z I 1 g) (hB : InvB g) {x v : Int32} (hq : ∀ I', offM 1 I I' → CM Z I' 1 (f_rule g x v).2 → Q (some (.int (f_rule g x v).1)) Z I') : zM l G mX11_rule 1 0 0 [.ref 0, .int x, .int v] Z I Q := by
  refine x_entry [some (.ref 0), some (.int x), some (.int v)] 0 rfl rfl (Nat.le_of_ble_eq_true rfl) ?_
  have hM := lM1 hS
  have hml : ∀ k, k < 6 → (zst_HIGHEST_RULES.2.2.2.getD (nI k).toNatClampNeg 0).toInt = mostOf k := by
    intro k hk
    rcases (by omega : k = 0 ∨ k = 1 ∨ k = 2 ∨ k = 3 ∨ k = 4 ∨ k = 5) with rfl | rfl | rfl | rfl | rfl | rfl <;> decide
  unfold f_rule at hq
  refine x_ild1 (n := 1) dX11_rule_0 rfl ?_
  refine x_ic0 (n := 2) dX11_rule_1 rfl ?_
  refine x_ic5 (n := 3) dX11_rule_2 rfl ?_
  refine x_cS3 (n := 6) (d' := 0) zcX11_inside mlX11_50 dX11_rule_3 rfl (Nat.le_of_ble_eq_true rfl) (Nat.le_of_ble_eq_true rfl) ?_
  refine c_X11_inside (zin x 0 5) (by unfold zin; rfl) ?_
  refine x_some ?_
  refine x_zif_eq (n := 9) (tgt := 22) dX11_rule_6 rfl (by decide) (fun c_6 => ?_) (fun c_6 => ?_)
  · refine x_ldc (n := 24) dX11_rule_22 rfl kiX11_54 ?_
    refine r_iret dX11_rule_24 rfl ?_
    first | (rw [ix_nI (by omega), if_neg (by rintro ⟨_, h2⟩; rw [c_19] at h2; cases h2)] at hq; exact hq I offM_refl hC) | (have hcf : zin x 0 5 = false := c_6; rw [if_neg (by rintro ⟨h2, _⟩; rw [hcf] at h2; cases h2)] at hq; exact hq I offM_refl hC)
  · obtain ⟨k, hk, hk2, rfl⟩ := z_num 6 c_6 (by omega)
    refine x_ild2 (n := 10) dX11_rule_9 rfl ?_
    refine x_ic0 (n := 11) dX11_rule_10 rfl ?_
    refine x_gets (n := 14) (q := zst_HIGHEST_RULES) dX11_rule_11 rfl (by decide) fsX11_110 ?_
    refine x_ild1 (n := 15) dX11_rule_14 rfl ?_
    refine x_tald (n := 16) (q := zst_HIGHEST_RULES) dX11_rule_15 rfl (by decide) rfl (vp_in_nI (N := 6) (by first | decide | omega) (by decide)) ?_
    refine x_cS3 (n := 19) (d' := 0) zcX11_inside mlX11_50 dX11_rule_16 rfl (Nat.le_of_ble_eq_true rfl) (Nat.le_of_ble_eq_true rfl) ?_
    refine c_X11_inside (zin v 0 (mostOf k)) (by unfold zin; rw [hml k (by omega)]; rfl) ?_
    refine x_some ?_
    refine x_zif_ne (n := 22) (tgt := 25) dX11_rule_19 rfl (by decide) (fun c_19 => ?_) (fun c_19 => ?_)
    · refine x_ald0 (n := 26) dX11_rule_25 rfl ?_
      refine x_getR (n := 29) flX11_10 rfl dX11_rule_26 rfl (lK_L hS) (lP_M hS) ?_
      refine x_getR (n := 32) flX11_65 rfl dX11_rule_29 rfl (mK_M hM) (mP_Gr hM) ?_
      refine x_getR (n := 35) flX11_113 rfl dX11_rule_32 rfl (mK_Gr hM) (mP_ruleRow hM) ?_
      refine x_ild1 (n := 36) dX11_rule_35 rfl ?_
      refine x_ild2 (n := 37) dX11_rule_36 rfl ?_
      rw [ix_nI (by omega), if_pos ⟨c_6, c_19⟩] at hq
      refine x_cS3 (n := 40) (d' := 0) zcX11_exchange mlX11_82 dX11_rule_37 rfl (Nat.le_of_ble_eq_true rfl) (Nat.le_of_ble_eq_true rfl) ?_
      refine c_X11_exchange (mA_ruleRow hM) (by decide) (by omega) ?_
      rw [cG5 hC.1 (by omega)]
      refine x_some ?_
      refine r_iret dX11_rule_40 rfl ?_
      exact hq _ (up1 (by omega) (by omega)) (CM_rule hC (by omega) (by omega))
    · refine x_ldc (n := 24) dX11_rule_22 rfl kiX11_54 ?_
      refine r_iret dX11_rule_24 rfl ?_
      first | (rw [ix_nI (by omega), if_neg (by rintro ⟨_, h2⟩; rw [c_19] at h2; cases h2)] at hq; exact hq I offM_refl hC) | (have hcf : zin x 0 5 = false := c_6; rw [if_neg (by rintro ⟨h2, _⟩; rw [hcf] at h2; cases h2)] at hq; exact hq I offM_refl hC)
theorem tL_steep (hS : ShL Z) (hC : CM Z I 1 g) (hB : InvB g) (hq : Q (some (.int (f_steep g))) Z I) : zM l G mX11_steep 2 0 0 [.ref 0] Z I Q := by
  refine x_entry [some (.ref 0)] 0 rfl rfl (Nat.le_of_ble_eq_true rfl) ?_
  have hM := lM1 hS
  refine x_ald0 (n := 1) dX11_steep_0 rfl ?_
  refine x_getR (n := 4) flX11_10 rfl dX11_steep_1 rfl (lK_L hS) (lP_M hS) ?_
  refine x_getR (n := 7) flX11_65 rfl dX11_steep_4 rfl (mK_M hM) (mP_Gr hM) ?_
  refine x_cV0 (n := 10) (d' := 1) zcX1_steepPairs mlX11_116 dX11_steep_7 rfl (mK_Gr hM) (Nat.le_of_ble_eq_true rfl) (Nat.le_of_ble_eq_true rfl) ?_
  refine c_X1_steepPairs hM hC.1 hB ?_
  refine x_some ?_
  refine r_iret dX11_steep_10 rfl ?_
  exact hq
theorem foreF_bits : ∀ n, n ≤ 24 → foreF g n = nI (zbs (g_fore g) n)
  | 0, _ => rfl
  | n + 1, h => by
    unfold foreF zbs
    rw [foreF_bits n (by omega), zshl (by omega)]
    split
    · rw [zor]
    · rw [Nat.or_zero]; exact Int32.or_zero
theorem tL_foretold (hS : ShL Z) (hC : CM Z I 1 g) (hB : InvB g) (hq : Q (some (.int (f_foretold g))) Z I) : zM l G mX11_foretold 4 0 0 [.ref 0] Z I Q := by
  refine x_entry [some (.ref 0), none] 1 rfl rfl (Nat.le_of_ble_eq_true rfl) ?_
  have hM := lM1 hS
  have h24 := (iv0 hB).2.2
  obtain ⟨s, hs, hsI, hsb⟩ := hC.1.2.2.1
  refine x_ald0 (n := 1) dX11_foretold_0 rfl ?_
  refine x_getR (n := 4) flX11_10 rfl dX11_foretold_1 rfl (lK_L hS) (lP_M hS) ?_
  refine x_getR (n := 7) flX11_55 rfl dX11_foretold_4 rfl (mK_M hM) (mP_Ws hM) ?_
  refine x_ic1 (n := 8) dX11_foretold_7 rfl ?_
  refine x_ic0 (n := 9) dX11_foretold_8 rfl ?_
  refine x_cV2 (n := 12) (d' := 0) zcX10_chainsWith mlX11_106 dX11_foretold_9 rfl (mK_Ws hM) (Nat.le_of_ble_eq_true rfl) (Nat.le_of_ble_eq_true rfl) ?_
  refine c_X10_chainsWith hM hC.2.1 hB (fun s1 hs1 => ?_)
  refine x_some ?_
  refine x_ald0 (n := 13) dX11_foretold_12 rfl ?_
  refine x_getR (n := 16) flX11_10 rfl dX11_foretold_13 rfl (lK_L hS) (lP_M hS) ?_
  refine x_getR (n := 19) flX11_55 rfl dX11_foretold_16 rfl (mK_M hM) (mP_Ws hM) ?_
  refine x_ic5 (n := 20) dX11_foretold_19 rfl ?_
  refine x_ic0 (n := 21) dX11_foretold_20 rfl ?_
  refine x_cV2 (n := 24) (d' := 0) zcX10_chainsWith mlX11_106 dX11_foretold_21 rfl (mK_Ws hM) (Nat.le_of_ble_eq_true rfl) (Nat.le_of_ble_eq_true rfl) ?_
  refine c_X10_chainsWith hM hC.2.1 hB (fun s2 hs2 => ?_)
  refine x_some ?_
  refine x_icm1 (n := 25) dX11_foretold_24 rfl ?_
  refine x_ixor (n := 26) dX11_foretold_25 rfl ?_
  refine x_iand (n := 27) dX11_foretold_26 rfl ?_
  rw [zandn]
  refine x_ist1 (n := 28) dX11_foretold_27 rfl (by decide) rfl ?_
  refine x_ild1 (n := 29) dX11_foretold_28 rfl ?_
  refine x_ald0 (n := 30) dX11_foretold_29 rfl ?_
  refine x_getR (n := 33) flX11_10 rfl dX11_foretold_30 rfl (lK_L hS) (lP_M hS) ?_
  refine x_getR (n := 36) flX11_65 rfl dX11_foretold_33 rfl (mK_M hM) (mP_Gr hM) ?_
  refine x_getI (n := 39) flX11_86 rfl dX11_foretold_36 rfl (mK_Gr hM) ?_
  rw [hsI]
  refine x_iand (n := 40) dX11_foretold_39 rfl ?_
  rw [zand]
  refine x_ald0 (n := 41) dX11_foretold_40 rfl ?_
  refine x_getR (n := 44) flX11_10 rfl dX11_foretold_41 rfl (lK_L hS) (lP_M hS) ?_
  refine x_getR (n := 47) flX11_65 rfl dX11_foretold_44 rfl (mK_M hM) (mP_Gr hM) ?_
  refine x_cV0 (n := 50) (d' := 3) zcX1_tooDeepChains mlX11_200 dX11_foretold_47 rfl (mK_Gr hM) (Nat.le_of_ble_eq_true rfl) (Nat.le_of_ble_eq_true rfl) ?_
  refine c_X1_tooDeepChains hM hC.1 hB ?_
  refine x_some ?_
  refine x_iand (n := 51) dX11_foretold_50 rfl ?_
  refine r_iret dX11_foretold_51 rfl ?_
  rw [zand]
  have hz : (((s1 ^^^ (s1 &&& s2)) &&& s) &&& zbs (gDeep g) (vN g 0)) = zbs (g_fore g) (vN g 0) := by
    refine zb_bits 24 (Nat.lt_of_le_of_lt Nat.and_le_left (Nat.lt_of_le_of_lt Nat.and_le_left (zandn_lt hs1.1))) (Nat.lt_of_lt_of_le (zbs_lt _ _) (Nat.pow_le_pow_right (by omega) (by omega))) (fun c hc => ?_)
    rw [Nat.testBit_and, Nat.testBit_and, zandn_bit, zbs_bit, zbs_bit, hs1.2 c hc, hs2.2 c hc, cw50 hB (by omega) c (Nat.le_refl _), cw50 hB (by omega) c (Nat.le_refl _)]
    by_cases hcn : c < vN g 0
    · have hb := hsb c hcn
      rw [decide_eq_true hcn]
      unfold g_fore gSlips gDeep
      have e : (!decide (0 < zct (g_at g (nI c) (nI 5)) (vN g 1))) = decide (zct (g_at g (nI c) (nI 5)) (vN g 1) = 0) := by
        by_cases h : zct (g_at g (nI c) (nI 5)) (vN g 1) = 0
        · rw [h]; rfl
        · rw [decide_eq_false h, decide_eq_true (by omega)]; rfl
      have e2 : s.testBit c = decide (0 ≤ (g (20 + 4 * c + 3)).toInt) := by
        by_cases h : 0 ≤ (g (20 + 4 * c + 3)).toInt
        · rw [decide_eq_true h]; exact hb.mpr h
        · rw [decide_eq_false h]; exact Bool.eq_false_iff.mpr (fun hh => h (hb.mp hh))
      rw [e, e2, Bool.true_and, Bool.true_and]
      cases decide (0 < zct (g_at g (nI c) (nI 1)) (vN g 1)) <;> cases decide (zct (g_at g (nI c) (nI 5)) (vN g 1) = 0) <;> cases decide (0 ≤ (g (20 + 4 * c + 3)).toInt) <;> simp
    · rw [decide_eq_false hcn, Bool.false_and, Bool.false_and, Bool.and_false]
  rw [hz]
  unfold f_foretold at hq
  rw [foreF_bits _ h24] at hq
  exact hq
end
