section
variable {l : Launch} {G : zG} {Z : zS} {I I' : zI} {g g' : Nat → Int32} {mk b : Nat} {Q : Option Value → zS → zI → Prop}
theorem CM_setW (h : CM Z I mk g) (hm : mk < 200) (hI : ∀ a, (a < mk + 10 ∨ mk + 63 ≤ a ∨ a = mk + 12 ∨ a = mk + 13) → I' a = I a) (h10 : I' (mk + 10) 4 = I (mk + 10) 4) (hg : ∀ i, i ≠ 1 → (i < 120 ∨ 360 ≤ i) → g' i = g i) (hW : cmW I' mk g') : CM Z I' mk g' := by
  obtain ⟨a, _, c, d, e, f, i, j⟩ := h
  exact ⟨cmG_of a (fun x _ _ => hI x (by omega)) (fun i _ => hg i (by omega) (by omega)), hW, cmA_of c h10 (hI _ (by omega)) (hI _ (by omega)) (fun i _ => hg i (by omega) (by omega)), cmT_of d (by rw [hI _ (by omega)]) (fun x _ => hI x (by omega)) (fun i _ => hg i (by omega) (by omega)), cmC_of e (by rw [hI _ (by omega)]) (fun x _ _ => hI x (by omega)) (fun i _ => hg i (by omega) (by omega)), cmP_of f (fun x _ _ => hI x (by omega)) (fun i _ => hg i (by omega) (by omega)), cmF_of i (fun x _ _ => hI x (by omega)) (fun i _ => hg i (by omega) (by omega)), cmD_of j (by rw [hI _ (by omega)]) (hI _ (by omega)) (fun i _ => hg i (by omega) (by omega))⟩
theorem CM_setG (h : CM Z I mk g) (hm : mk < 200) (hI : ∀ a, (a ≤ mk ∨ mk + 6 ≤ a) → I' a = I a) (hg : ∀ i, (0 < i ∧ i < 11 ∨ 17 ≤ i ∧ i < 20 ∨ 120 ≤ i) → g' i = g i) (hG : cmG I' mk g') : CM Z I' mk g' := by
  obtain ⟨_, b, c, d, e, f, i, j⟩ := h
  exact ⟨hG, cmW_of b (by rw [hI _ (by omega)]) (fun x _ _ => hI x (by omega)) (fun i _ _ => hg i (by omega)), cmA_of c (by rw [hI _ (by omega)]) (hI _ (by omega)) (hI _ (by omega)) (fun i _ => hg i (by omega)), cmT_of d (by rw [hI _ (by omega)]) (fun x _ => hI x (by omega)) (fun i _ => hg i (by omega)), cmC_of e (by rw [hI _ (by omega)]) (fun x _ _ => hI x (by omega)) (fun i _ => hg i (by omega)), cmP_of f (fun x _ _ => hI x (by omega)) (fun i _ => hg i (by omega)), cmF_of i (fun x _ _ => hI x (by omega)) (fun i _ => hg i (by omega)), cmD_of j (by rw [hI _ (by omega)]) (hI _ (by omega)) (fun i _ => hg i (by omega))⟩
theorem CM_setA (h : CM Z I mk g) (hm : mk < 200) (hI : ∀ a, a ≠ mk + 10 → a ≠ mk + 12 → a ≠ mk + 13 → I' a = I a) (h10 : I' (mk + 10) 1 = I (mk + 10) 1) (hg : ∀ i, i ≠ 2 → (i < 360 ∨ 380 ≤ i) → (∀ w, i ≠ 120 + 10 * w + 4 ∨ 24 ≤ w) → g' i = g i) (hA : cmA I' mk g') : CM Z I' mk g' := by
  obtain ⟨a, b, _, d, e, f, i, j⟩ := h
  exact ⟨cmG_of a (fun x _ _ => hI x (by omega) (by omega) (by omega)) (fun i _ => hg i (by omega) (by omega) (by omega)), cmW_of b h10 (fun x _ _ => hI x (by omega) (by omega) (by omega)) (fun i h1 h2 => hg i (by omega) (by omega) (fun w => Or.inl (h2 w))), hA, cmT_of d (by rw [hI _ (by omega) (by omega) (by omega)]) (fun x _ => hI x (by omega) (by omega) (by omega)) (fun i _ => hg i (by omega) (by omega) (by omega)), cmC_of e (by rw [hI _ (by omega) (by omega) (by omega)]) (fun x _ _ => hI x (by omega) (by omega) (by omega)) (fun i _ => hg i (by omega) (by omega) (by omega)), cmP_of f (fun x _ _ => hI x (by omega) (by omega) (by omega)) (fun i _ => hg i (by omega) (by omega) (by omega)), cmF_of i (fun x _ _ => hI x (by omega) (by omega) (by omega)) (fun i _ => hg i (by omega) (by omega) (by omega)), cmD_of j (by rw [hI _ (by omega) (by omega) (by omega)]) (hI _ (by omega) (by omega) (by omega)) (fun i _ => hg i (by omega) (by omega) (by omega))⟩
theorem CM_setC (h : CM Z I mk g) (hm : mk < 200) (hI : ∀ a, (a < mk + 66 ∨ mk + 70 ≤ a) → I' a = I a) (hg : ∀ i, i ≠ 4 → (i < 380 ∨ 440 ≤ i) → g' i = g i) (hC : cmC I' mk g') : CM Z I' mk g' := by
  obtain ⟨a, b, c, d, _, f, i, j⟩ := h
  exact ⟨cmG_of a (fun x _ _ => hI x (by omega)) (fun i _ => hg i (by omega) (by omega)), cmW_of b (by rw [hI _ (by omega)]) (fun x _ _ => hI x (by omega)) (fun i _ _ => hg i (by omega) (by omega)), cmA_of c (by rw [hI _ (by omega)]) (hI _ (by omega)) (hI _ (by omega)) (fun i _ => hg i (by omega) (by omega)), cmT_of d (by rw [hI _ (by omega)]) (fun x _ => hI x (by omega)) (fun i _ => hg i (by omega) (by omega)), hC, cmP_of f (fun x _ _ => hI x (by omega)) (fun i _ => hg i (by omega) (by omega)), cmF_of i (fun x _ _ => hI x (by omega)) (fun i _ => hg i (by omega) (by omega)), cmD_of j (by rw [hI _ (by omega)]) (hI _ (by omega)) (fun i _ => hg i (by omega) (by omega))⟩
theorem CM_setP (h : CM Z I mk g) (hm : mk < 200) (hI : ∀ a, (a < mk + 72 ∨ mk + 75 ≤ a) → I' a = I a) (hg : ∀ i, i ≠ 5 → i ≠ 9 → i ≠ 10 → (i < 440 ∨ 480 ≤ i) → g' i = g i) (hP : cmP I' mk g') : CM Z I' mk g' := by
  obtain ⟨a, b, c, d, e, _, i, j⟩ := h
  exact ⟨cmG_of a (fun x _ _ => hI x (by omega)) (fun i _ => hg i (by omega) (by omega) (by omega) (by omega)), cmW_of b (by rw [hI _ (by omega)]) (fun x _ _ => hI x (by omega)) (fun i _ _ => hg i (by omega) (by omega) (by omega) (by omega)), cmA_of c (by rw [hI _ (by omega)]) (hI _ (by omega)) (hI _ (by omega)) (fun i _ => hg i (by omega) (by omega) (by omega) (by omega)), cmT_of d (by rw [hI _ (by omega)]) (fun x _ => hI x (by omega)) (fun i _ => hg i (by omega) (by omega) (by omega) (by omega)), cmC_of e (by rw [hI _ (by omega)]) (fun x _ _ => hI x (by omega)) (fun i _ => hg i (by omega) (by omega) (by omega) (by omega)), hP, cmF_of i (fun x _ _ => hI x (by omega)) (fun i _ => hg i (by omega) (by omega) (by omega) (by omega)), cmD_of j (by rw [hI _ (by omega)]) (hI _ (by omega)) (fun i _ => hg i (by omega) (by omega) (by omega) (by omega))⟩
theorem CM_setF (h : CM Z I mk g) (hm : mk < 200) (hI : ∀ a, (a < mk + 75 ∨ mk + 79 ≤ a) → I' a = I a) (hg : ∀ i, i ≠ 6 → i ≠ 7 → (i < 480 ∨ 503 ≤ i) → g' i = g i) (hF : cmF I' mk g') : CM Z I' mk g' := by
  obtain ⟨a, b, c, d, e, f, _, j⟩ := h
  exact ⟨cmG_of a (fun x _ _ => hI x (by omega)) (fun i _ => hg i (by omega) (by omega) (by omega)), cmW_of b (by rw [hI _ (by omega)]) (fun x _ _ => hI x (by omega)) (fun i _ _ => hg i (by omega) (by omega) (by omega)), cmA_of c (by rw [hI _ (by omega)]) (hI _ (by omega)) (hI _ (by omega)) (fun i _ => hg i (by omega) (by omega) (by omega)), cmT_of d (by rw [hI _ (by omega)]) (fun x _ => hI x (by omega)) (fun i _ => hg i (by omega) (by omega) (by omega)), cmC_of e (by rw [hI _ (by omega)]) (fun x _ _ => hI x (by omega)) (fun i _ => hg i (by omega) (by omega) (by omega)), cmP_of f (fun x _ _ => hI x (by omega)) (fun i _ => hg i (by omega) (by omega) (by omega)), hF, cmD_of j (by rw [hI _ (by omega)]) (hI _ (by omega)) (fun i _ => hg i (by omega) (by omega) (by omega))⟩
theorem CM_setD (h : CM Z I mk g) (hm : mk < 200) (hI : ∀ a, a ≠ mk → a ≠ mk + 80 → I' a = I a) (hg : ∀ i, i ≠ 8 → (i < 510 ∨ 2510 ≤ i) → g' i = g i) (hD : cmD I' mk g') : CM Z I' mk g' := by
  obtain ⟨a, b, c, d, e, f, i, _⟩ := h
  exact ⟨cmG_of a (fun x _ _ => hI x (by omega) (by omega)) (fun i _ => hg i (by omega) (by omega)), cmW_of b (by rw [hI _ (by omega) (by omega)]) (fun x _ _ => hI x (by omega) (by omega)) (fun i _ _ => hg i (by omega) (by omega)), cmA_of c (by rw [hI _ (by omega) (by omega)]) (hI _ (by omega) (by omega)) (hI _ (by omega) (by omega)) (fun i _ => hg i (by omega) (by omega)), cmT_of d (by rw [hI _ (by omega) (by omega)]) (fun x _ => hI x (by omega) (by omega)) (fun i _ => hg i (by omega) (by omega)), cmC_of e (by rw [hI _ (by omega) (by omega)]) (fun x _ _ => hI x (by omega) (by omega)) (fun i _ => hg i (by omega) (by omega)), cmP_of f (fun x _ _ => hI x (by omega) (by omega)) (fun i _ => hg i (by omega) (by omega)), cmF_of i (fun x _ _ => hI x (by omega) (by omega)) (fun i _ => hg i (by omega) (by omega)), hD⟩
/-- one cell of a work -/
theorem CM_wf (h : CM Z I mk g) (hm : mk < 200) {w f f' : Nat} {v : Int32} (hw : w < vN g 1) (hf : f = 3 ∧ f' = 3 ∨ f = 4 ∧ f' = 5 ∨ f = 5 ∧ f' = 6 ∨ f = 6 ∧ f' = 9) : CM Z (va_up I (mk + 15 + 2 * w) (upd (I (mk + 15 + 2 * w)) f v)) mk (upd g (120 + 10 * w + f') v) := by
  have h24 := h.2.1.1
  refine CM_setW h hm (fun a ha => va_up_off (by omega)) (by rw [va_up_off (by omega)]) (fun i h1 h2 => upd_off (by omega)) ?_
  obtain ⟨h0, h1, h2⟩ := h.2.1
  have e1 : upd g (120 + 10 * w + f') v 1 = g 1 := upd_off (by omega)
  unfold cmW
  rw [vN_eq e1, e1, va_up_off (show mk + 10 ≠ mk + 15 + 2 * w by omega)]
  refine ⟨h0, h1, fun u hu => ?_⟩
  by_cases huw : u = w
  · subst huw
    have hO : ∀ j, j ≠ f' → upd g (120 + 10 * u + f') v (120 + 10 * u + j) = g (120 + 10 * u + j) := fun j hj => upd_off (by omega)
    have hS : upd g (120 + 10 * u + f') v (120 + 10 * u + f') = v := upd_same
    have z0 := hO 0 (by omega)
    rw [Nat.add_zero] at z0
    obtain ⟨w0, w1, w2, w3, w4, w5, w6, w7, w8⟩ := h2 u hu
    unfold wkR
    rw [va_up_same, va_up_off (show mk + 15 + 2 * u + 1 ≠ mk + 15 + 2 * u by omega), z0, hO 1 (by omega), hO 2 (by omega), hO 7 (by omega), hO 8 (by omega)]
    have hP : ∀ j, j ≠ f → upd (I (mk + 15 + 2 * u)) f v j = I (mk + 15 + 2 * u) j := fun j hj => upd_off hj
    have hPs : upd (I (mk + 15 + 2 * u)) f v f = v := upd_same
    rw [hP 0 (by omega), hP 1 (by omega), hP 2 (by omega)]
    rcases hf with ⟨rfl, rfl⟩ | ⟨rfl, rfl⟩ | ⟨rfl, rfl⟩ | ⟨rfl, rfl⟩
    · rw [hPs, hS, hP 4 (by omega), hP 5 (by omega), hP 6 (by omega), hO 5 (by omega), hO 6 (by omega), hO 9 (by omega)]; exact ⟨w0, w1, w2, rfl, w4, w5, w6, w7, w8⟩
    · rw [hPs, hS, hP 3 (by omega), hP 5 (by omega), hP 6 (by omega), hO 3 (by omega), hO 6 (by omega), hO 9 (by omega)]; exact ⟨w0, w1, w2, w3, rfl, w5, w6, w7, w8⟩
    · rw [hPs, hS, hP 3 (by omega), hP 4 (by omega), hP 6 (by omega), hO 3 (by omega), hO 5 (by omega), hO 9 (by omega)]; exact ⟨w0, w1, w2, w3, w4, rfl, w6, w7, w8⟩
    · rw [hPs, hS, hP 3 (by omega), hP 4 (by omega), hP 5 (by omega), hO 3 (by omega), hO 5 (by omega), hO 6 (by omega)]; exact ⟨w0, w1, w2, w3, w4, w5, rfl, w7, w8⟩
  · exact wkR_of (h2 u hu) (va_up_off (by omega)) (va_up_off (by omega)) (fun i h1 h2 _ => upd_off (by omega))
theorem CM_wm (h : CM Z I mk g) (hm : mk < 200) {w f : Nat} {v : Int32} (hw : w < vN g 1) (hf : f < 2) : CM Z (va_up I (mk + 15 + 2 * w + 1) (upd (I (mk + 15 + 2 * w + 1)) f v)) mk (upd g (120 + 10 * w + 7 + f) v) := by
  have h24 := h.2.1.1
  refine CM_setW h hm (fun a ha => va_up_off (by omega)) (by rw [va_up_off (by omega)]) (fun i h1 h2 => upd_off (by omega)) ?_
  obtain ⟨h0, h1, h2⟩ := h.2.1
  have e1 : upd g (120 + 10 * w + 7 + f) v 1 = g 1 := upd_off (by omega)
  unfold cmW
  rw [vN_eq e1, e1, va_up_off (show mk + 10 ≠ mk + 15 + 2 * w + 1 by omega)]
  refine ⟨h0, h1, fun u hu => ?_⟩
  by_cases huw : u = w
  · subst huw
    obtain ⟨w0, w1, w2, w3, w4, w5, w6, w7, w8⟩ := h2 u hu
    unfold wkR
    rw [va_up_same, va_up_off (show mk + 15 + 2 * u ≠ mk + 15 + 2 * u + 1 by omega)]
    rcases (by omega : f = 0 ∨ f = 1) with rfl | rfl
    · refine ⟨?_, ?_, ?_, ?_, ?_, ?_, ?_, ?_, ?_⟩
      · rw [upd_off (by omega)]; exact w0
      · rw [upd_off (by omega)]; exact w1
      · rw [upd_off (by omega)]; exact w2
      · rw [upd_off (by omega)]; exact w3
      · rw [upd_off (by omega)]; exact w4
      · rw [upd_off (by omega)]; exact w5
      · rw [upd_off (by omega)]; exact w6
      · rw [upd_same]; exact upd_same.symm
      · rw [upd_off (by omega), upd_off (by omega)]; exact w8
    · refine ⟨?_, ?_, ?_, ?_, ?_, ?_, ?_, ?_, ?_⟩
      · rw [upd_off (by omega)]; exact w0
      · rw [upd_off (by omega)]; exact w1
      · rw [upd_off (by omega)]; exact w2
      · rw [upd_off (by omega)]; exact w3
      · rw [upd_off (by omega)]; exact w4
      · rw [upd_off (by omega)]; exact w5
      · rw [upd_off (by omega)]; exact w6
      · rw [upd_off (by omega), upd_off (by omega)]; exact w7
      · rw [upd_same]; exact upd_same.symm
  · exact wkR_of (h2 u hu) (va_up_off (by omega)) (va_up_off (by omega)) (fun i h1 h2 _ => upd_off (by omega))
/-- a new work -/
theorem CM_new (h : CM Z I mk g) (hB : InvB g) (hm : mk < 200) {k c y : Int32} (h24 : vN g 1 < 24) (ho : ∀ a, a ≠ mk + 15 + 2 * vN g 1 → a ≠ mk + 15 + 2 * vN g 1 + 1 → a ≠ mk + 10 → I' a = I a) (h101 : I' (mk + 10) 1 = nI (vN g 1 + 1)) (h104 : I' (mk + 10) 4 = I (mk + 10) 4)
    (hv : I' (mk + 15 + 2 * vN g 1) 0 = k ∧ I' (mk + 15 + 2 * vN g 1) 1 = c ∧ I' (mk + 15 + 2 * vN g 1) 2 = y ∧ I' (mk + 15 + 2 * vN g 1) 3 = nI 0 ∧ I' (mk + 15 + 2 * vN g 1) 4 = nI 0 ∧ I' (mk + 15 + 2 * vN g 1) 5 = nI 1 ∧ I' (mk + 15 + 2 * vN g 1) 6 = nI 0 ∧ I' (mk + 15 + 2 * vN g 1 + 1) 0 = nI 0 ∧ I' (mk + 15 + 2 * vN g 1 + 1) 1 = nI 0) : CM Z I' mk (gNew g k c y) := by
  refine CM_setW h hm (fun a ha => ho a (by omega) (by omega) (by omega)) h104 (fun i h1 h2 => gNew_off h1 (by omega)) ?_
  obtain ⟨h0, h1, h2⟩ := h.2.1
  have e1 : vN (gNew g k c y) 1 = vN g 1 + 1 := by unfold vN; rw [gNew_1, nI_toInt (by unfold vN at h24; omega)]; rfl
  unfold cmW
  rw [e1, gNew_1]
  refine ⟨by omega, h101, fun u hu => ?_⟩
  by_cases hun : u = vN g 1
  · subst hun
    obtain ⟨w0, w1, w2, w3, w4, w5, w6, w7, w8⟩ := hv
    have z0 := gNew_at (g := g) (k := k) (c := c) (y := y) (f := 0) (by omega)
    rw [Nat.add_zero, if_pos rfl] at z0
    unfold wkR
    rw [z0, gNew_at (by omega), gNew_at (by omega), gNew_at (by omega), gNew_at (by omega), gNew_at (by omega), gNew_at (by omega), gNew_at (by omega), gNew_at (by omega)]
    exact ⟨w0, w1, w2, w3, w4, w5, w6, w7, w8⟩
  · exact wkR_of (h2 u (by omega)) (ho _ (by omega) (by omega) (by omega)) (ho _ (by omega) (by omega) (by omega)) (fun i h1 h2 _ => gNew_off (by omega) (by omega))
theorem c_X10_addWork (hM : ShM Z mk) (hC : CM Z I mk g) (hB : InvB g) (hm : mk < 200) {k c y : Int32} (h24 : vN g 1 < 24) (hq : ∀ I', offM mk I I' → CM Z I' mk (gNew g k c y) → Q (some (.int (nI (vN g 1)))) Z I') : zM l G mX10_addWork 1 0 0 [.ref (mk + 10), .int k, .int c, .int y] Z I Q := by
  refine x_entry [some (.ref (mk + 10)), some (.int k), some (.int c), some (.int y)] 0 rfl rfl (Nat.le_of_ble_eq_true rfl) ?_
  have h1 := vW1 hC.2.1 hB
  refine x_ald0 (n := 1) dX10_addWork_0 rfl ?_
  refine x_getI (n := 4) flX10_28 rfl dX10_addWork_1 rfl (mK_Ws hM) ?_
  rw [h1]
  refine x_bipush (n := 6) (v := nI 24) dX10_addWork_4 rfl (by decide) ?_
  refine x_icmpN_lt (n := 9) (tgt := 12) dX10_addWork_6 rfl (by decide) (by omega) (by omega) (fun c_6 => ?_) (fun c_6 => ?_)
  · refine x_ald0 (n := 13) dX10_addWork_12 rfl ?_
    refine x_getR (n := 16) flX10_13 rfl dX10_addWork_13 rfl (mK_Ws hM) (mP_allW hM) ?_
    refine x_ald0 (n := 17) dX10_addWork_16 rfl ?_
    refine x_getI (n := 20) flX10_28 rfl dX10_addWork_17 rfl (mK_Ws hM) ?_
    rw [h1]
    refine x_aaldN (n := 21) dX10_addWork_20 rfl (mA_allW hM) ⟨by decide, by decide⟩ (Nat.le_of_ble_eq_true rfl) (by omega) (mP_W hM (by omega)) ?_
    refine x_ild1 (n := 22) dX10_addWork_21 rfl ?_
    refine x_ild2 (n := 23) dX10_addWork_22 rfl ?_
    refine x_ild3 (n := 24) dX10_addWork_23 rfl ?_
    refine x_cV3 (n := 27) (d' := 0) zcX9_begin mlX10_50 dX10_addWork_24 rfl (mK_W hM (by omega)) (Nat.le_of_ble_eq_true rfl) (Nat.le_of_ble_eq_true rfl) ?_
    refine c_X9_begin (mS_W hM h24) ?_
    intro I1 ho hv
    have h1' : I1 (mk + 10) 1 = nI (vN g 1) := by rw [ho _ (by omega) (by omega)]; exact h1
    refine x_none ?_
    refine x_ald0 (n := 28) dX10_addWork_27 rfl ?_
    refine x_dup (n := 29) dX10_addWork_28 rfl rfl ?_
    refine x_getI (n := 32) flX10_28 rfl dX10_addWork_29 rfl (mK_Ws hM) ?_
    rw [h1']
    refine x_ic1 (n := 33) dX10_addWork_32 rfl ?_
    refine x_iaddN (n := 34) dX10_addWork_33 rfl ?_
    refine x_putI (n := 37) flX10_28 rfl (Or.inl rfl) rfl rfl dX10_addWork_34 rfl (mK_Ws hM) ?_
    refine x_ald0 (n := 38) dX10_addWork_37 rfl ?_
    refine x_getI (n := 41) flX10_28 rfl dX10_addWork_38 rfl (mK_Ws hM) ?_
    rw [va_up_same, upd_same]
    refine x_ic1 (n := 42) dX10_addWork_41 rfl ?_
    refine x_isubN (n := 43) dX10_addWork_42 rfl (by omega) ?_
    rw [Nat.add_sub_cancel]
    refine r_iret dX10_addWork_43 rfl ?_
    refine hq _ ?_ ?_
    · refine offM_up (fun a ha => ho a (by omega) (by omega)) (by omega) (by omega)
    · refine CM_new hC hB hm h24 (fun a n1 n2 n3 => ?_) ?_ ?_ ?_
      · rw [va_up_off n3]; exact ho a n1 n2
      · rw [va_up_same, upd_same]
      · rw [va_up_same, upd_off (by omega), ho _ (by omega) (by omega)]
      · rw [va_up_off (by omega), va_up_off (by omega)]; exact hv
  · exact absurd h24 (by omega)
theorem c_X10_addWorkF (hM : ShM Z mk) (hC : CM Z I mk g) (hB : InvB g) {k c y : Int32} (h24 : vN g 1 = 24) (hq : Q (some (.int (-1000000003))) Z I) : zM l G mX10_addWork 1 0 0 [.ref (mk + 10), .int k, .int c, .int y] Z I Q := by
  refine x_entry [some (.ref (mk + 10)), some (.int k), some (.int c), some (.int y)] 0 rfl rfl (Nat.le_of_ble_eq_true rfl) ?_
  have h1 := vW1 hC.2.1 hB
  refine x_ald0 (n := 1) dX10_addWork_0 rfl ?_
  refine x_getI (n := 4) flX10_28 rfl dX10_addWork_1 rfl (mK_Ws hM) ?_
  rw [h1]
  refine x_bipush (n := 6) (v := nI 24) dX10_addWork_4 rfl (by decide) ?_
  refine x_icmpN_lt (n := 9) (tgt := 12) dX10_addWork_6 rfl (by decide) (by omega) (by omega) (fun c_6 => ?_) (fun c_6 => ?_)
  · exact absurd c_6 (by omega)
  · refine x_ldc (n := 11) dX10_addWork_9 rfl kiX10_49 ?_
    refine r_iret dX10_addWork_11 rfl ?_
    exact hq
end
