section
variable {l : Launch} {G : zG} {Z : zS} {I I' : zI} {g g' : Nat → Int32} {mk b : Nat} {Q : Option Value → zS → zI → Prop}
/-- a test that fails from some place on -/
theorem zct_anti {p : Nat → Bool} (h : ∀ i j, i ≤ j → p j = true → p i = true) : ∀ {n D : Nat}, D < n → (p D = true ↔ D < zct p n)
  | 0, _, hD => absurd hD (by omega)
  | n + 1, D, hD => by
    have hle := zct_le p n
    by_cases hn : p n = true
    · have hall : zct p (n + 1) = n + 1 := zct_all (fun j hj => h j n (by omega) hn)
      rw [hall]
      exact ⟨fun _ => hD, fun _ => h D n (by omega) hn⟩
    · have hz := zct_f (p := p) (k := n) (Bool.eq_false_iff.mpr hn)
      rw [Nat.add_zero] at hz
      rw [← hz]
      by_cases hDn : D = n
      · subst hDn
        exact ⟨fun e => absurd e hn, fun e => absurd e (by omega)⟩
      · exact zct_anti h (by omega)
theorem mmax_n {d f : Nat} (hd : d < 100000) (hf : f < 100000) : (if nI 0 < nI d - nI f + nI 1 then nI d - nI f + nI 1 else nI 0) = nI (d + 1 - f) := by
  have e1 : nI d - nI f + nI 1 = nI (d + 1) - nI f := by
    apply Int32.toInt_inj.mp
    rw [Int32.toInt_add, pk_sub_toInt (by omega) (by omega), pk_sub_toInt (by omega) (by omega), show (nI 1).toInt = 1 by decide]
    rw [Int.bmod_eq_of_le (by simp; omega) (by simp; omega)]
    omega
  rw [e1]
  have e2 : (nI (d + 1) - nI f).toInt = ((d + 1 : Nat) : Int) - f := pk_sub_toInt (by omega) (by omega)
  by_cases h : f ≤ d + 1
  · rw [pk_sub h]
    by_cases h2 : d + 1 - f = 0
    · rw [h2]; rfl
    · rw [if_pos (by rw [zlt, nI_toInt (by omega), nI_toInt (by omega)]; omega)]
  · rw [if_neg (by rw [zlt, e2, show (nI 0).toInt = 0 by decide]; omega), show d + 1 - f = 0 by omega]
theorem l_X3_yardsBy (hM : ShM Z mk) (hF : cmF I mk g) (hB : InvB g) {d : Nat} (hd : d < 20000) (hq : Q (some (.int (nI (mS g (d + 1))))) Z I) : ∀ m k, k ≤ vN g 6 → vN g 6 - k < m → zX l G mX3_yardsBy 1 0 0 4 [some (.ref (mk + 75)), some (.int (nI d)), some (.int (nI (zsum (fun f => (d + 1 - vN g (480 + 2 * f)) * vN g (480 + 2 * f + 1)) k))), some (.int (nI k))] [] Z I Q := by
  intro m
  have h1 := vF6 hF hB
  have h6 := (iv6 hB).2
  induction m with
  | zero => intro k _ h; exact absurd h (by omega)
  | succ m ih =>
    intro k hk hm
    refine x_ild3 (n := 5) dX3_yardsBy_4 rfl ?_
    refine x_ald0 (n := 6) dX3_yardsBy_5 rfl ?_
    refine x_getI (n := 9) flX3_24 rfl dX3_yardsBy_6 rfl (mK_Ma hM) ?_
    rw [h1]
    refine x_icmpN_ge (n := 12) (tgt := 42) dX3_yardsBy_9 rfl (by decide) (by omega) (by omega) (fun c_9 => ?_) (fun c_9 => ?_)
    · refine x_ild2 (n := 43) dX3_yardsBy_42 rfl ?_
      refine r_iret dX3_yardsBy_43 rfl ?_
      rw [show k = vN g 6 by omega]; exact hq
    · refine x_ild2 (n := 13) dX3_yardsBy_12 rfl ?_
      refine x_ic0 (n := 14) dX3_yardsBy_13 rfl ?_
      refine x_ild1 (n := 15) dX3_yardsBy_14 rfl ?_
      refine x_ald0 (n := 16) dX3_yardsBy_15 rfl ?_
      refine x_getR (n := 19) flX3_11 rfl dX3_yardsBy_16 rfl (mK_Ma hM) (mP_faceDay hM) ?_
      refine x_ild3 (n := 20) dX3_yardsBy_19 rfl ?_
      obtain ⟨f1, f2⟩ := ivF hB (k := k) (by omega)
      have e1 := rg_nI f1 (by omega) (by omega)
      have l1 := rg_le f1 (by omega)
      have e2 := rg_nI f2 (by omega) (by omega)
      obtain ⟨p1, p2⟩ := hF.2.2.2.1 k (by omega)
      refine x_ialdN (n := 21) dX3_yardsBy_20 rfl (mA_faceDay hM) (Nat.le_of_ble_eq_true rfl) (by omega) ?_
      rw [p1, e1]
      refine x_isub (n := 22) dX3_yardsBy_21 rfl ?_
      refine x_ic1 (n := 23) dX3_yardsBy_22 rfl ?_
      refine x_iadd (n := 24) dX3_yardsBy_23 rfl ?_
      refine x_mmax (n := 27) dX3_yardsBy_24 rfl mlX3_43 zu_max zi_J9 zv_max (by decide) (Nat.le_of_ble_eq_true rfl) ?_
      rw [mmax_n (by omega) (by omega)]
      refine x_ald0 (n := 28) dX3_yardsBy_27 rfl ?_
      refine x_getR (n := 31) flX3_15 rfl dX3_yardsBy_28 rfl (mK_Ma hM) (mP_faceYards hM) ?_
      refine x_ild3 (n := 32) dX3_yardsBy_31 rfl ?_
      refine x_ialdN (n := 33) dX3_yardsBy_32 rfl (mA_faceYards hM) (Nat.le_of_ble_eq_true rfl) (by omega) ?_
      rw [p2, e2]
      refine x_imulN (n := 34) dX3_yardsBy_33 rfl ?_
      refine x_iaddN (n := 35) dX3_yardsBy_34 rfl ?_
      refine x_ist2 (n := 36) dX3_yardsBy_35 rfl (by decide) rfl ?_
      refine x_iincN3 (n := 39) (k := 1) dX3_yardsBy_36 rfl (by decide) rfl ?_
      refine x_goto (n := 4) dX3_yardsBy_39 (by decide) ?_
      exact ih (k + 1) (by omega) (by omega)
theorem c_X3_yardsBy (hM : ShM Z mk) (hF : cmF I mk g) (hB : InvB g) {d : Nat} (hd : d < 20000) (hq : Q (some (.int (nI (mS g (d + 1))))) Z I) : zM l G mX3_yardsBy 1 0 0 [.ref (mk + 75), .int (nI d)] Z I Q := by
  refine x_entry [some (.ref (mk + 75)), some (.int (nI d)), none, none] 2 rfl rfl (Nat.le_of_ble_eq_true rfl) ?_
  refine x_ic0 (n := 1) dX3_yardsBy_0 rfl ?_
  refine x_ist2 (n := 2) dX3_yardsBy_1 rfl (by decide) rfl ?_
  refine x_ic0 (n := 3) dX3_yardsBy_2 rfl ?_
  refine x_ist3 (n := 4) dX3_yardsBy_3 rfl (by decide) rfl ?_
  exact l_X3_yardsBy hM hF hB hd hq (vN g 6 + 1) 0 (by omega) (by omega)
theorem l_X3_meetingDay (hM : ShM Z mk) (hF : cmF I mk g) (hB : InvB g) {x A : Nat} (hx : x < 20000) (hA : ∀ D, D < 20000 → (mS g (D + 1) < x ↔ D < A)) (hq : Q (some (.int (nI A))) Z I) : ∀ j T v, v = nI T - 1 → T ≤ A → A < T + 2 ^ (j + 1) → T + 2 ^ (j + 1) ≤ 16384 → zX l G mX3_meetingDay 2 0 0 16 [some (.ref (mk + 75)), some (.int (nI x)), some (.int v), some (.int (nI (2 ^ j)))] [] Z I Q := by
  intro j
  have hsum : ∀ T s : Nat, 1 ≤ s → nI T - 1 + nI s = nI (T + s - 1) := by
    intro T s hs
    have h1 : nI T - 1 + nI s = nI T + nI s - nI 1 := by
      show nI T - nI 1 + nI s = _
      rw [Int32.sub_eq_add_neg, Int32.sub_eq_add_neg, Int32.add_assoc, Int32.add_assoc, Int32.add_comm (-(nI 1))]
    rw [h1, nI_add, pk_sub (by omega)]
  induction j with
  | zero =>
    intro T v hv hT1 hT2 hT3
    subst hv
    have fin : ∀ T', T' = A → zX l G mX3_meetingDay 2 0 0 35 [some (.ref (mk + 75)), some (.int (nI x)), some (.int (nI T' - 1)), some (.int (nI (2 ^ 0)))] [] Z I Q := by
      intro T' hT'
      subst hT'
      refine x_ild3 (n := 36) dX3_meetingDay_35 rfl ?_
      refine x_ic2 (n := 37) dX3_meetingDay_36 rfl ?_
      refine x_idiv (n := 38) dX3_meetingDay_37 rfl (by decide) ?_
      refine x_ist3 (n := 39) dX3_meetingDay_38 rfl (by decide) rfl ?_
      refine x_goto (n := 16) dX3_meetingDay_39 (by decide) ?_
      refine x_ild3 (n := 17) dX3_meetingDay_16 rfl ?_
      refine x_if_le (n := 20) (tgt := 42) dX3_meetingDay_17 rfl (by decide) (fun c_17 => ?_) (fun c_17 => ?_)
      · refine x_ild2 (n := 43) dX3_meetingDay_42 rfl ?_
        refine x_ic1 (n := 44) dX3_meetingDay_43 rfl ?_
        refine x_iadd (n := 45) dX3_meetingDay_44 rfl ?_
        refine r_iret dX3_meetingDay_45 rfl ?_
        rw [show nI T' - 1 + nI 1 = nI T' from by rw [hsum T' 1 (by omega), Nat.add_sub_cancel]]; exact hq
      · exact absurd (by decide) c_17
    refine x_ild3 (n := 17) dX3_meetingDay_16 rfl ?_
    refine x_if_le (n := 20) (tgt := 42) dX3_meetingDay_17 rfl (by decide) (fun c_17 => ?_) (fun c_17 => ?_)
    · exact absurd c_17 (by decide)
    · refine x_ald0 (n := 21) dX3_meetingDay_20 rfl ?_
      refine x_ild2 (n := 22) dX3_meetingDay_21 rfl ?_
      refine x_ild3 (n := 23) dX3_meetingDay_22 rfl ?_
      refine x_iadd (n := 24) dX3_meetingDay_23 rfl ?_
      rw [hsum T (2 ^ 0) (by decide)]
      refine x_cV1 (n := 27) (d' := 1) zcX3_yardsBy mlX3_39 dX3_meetingDay_24 rfl (mK_Ma hM) (Nat.le_of_ble_eq_true rfl) (Nat.le_of_ble_eq_true rfl) ?_
      refine c_X3_yardsBy hM hF hB (by omega) ?_
      refine x_some ?_
      refine x_ild1 (n := 28) dX3_meetingDay_27 rfl ?_
      have hmle := mS_le hB (T + 2 ^ 0 - 1 + 1)
      refine x_icmpN_ge (n := 31) (tgt := 35) dX3_meetingDay_28 rfl (by decide) (by omega) (by omega) (fun c_28 => ?_) (fun c_28 => ?_)
      · have hAT := hA (T + 2 ^ 0 - 1) (by omega)
        first
          | (have hc : x ≤ mS g (T + 2 ^ 0 - 1 + 1) := c_28
             exact fin T (by omega))
          | (have hc : mS g (T + 2 ^ 0 - 1 + 1) < x := (by omega)
             rw [show nI T - 1 + nI (2 ^ 0) = nI (T + 1) - 1 from by rw [hsum T _ (by decide), show nI (T + 1) - 1 = nI (T + 1) - nI 1 from rfl, pk_sub (by omega)]]
             exact fin (T + 1) (by omega))
      · refine x_ild2 (n := 32) dX3_meetingDay_31 rfl ?_
        refine x_ild3 (n := 33) dX3_meetingDay_32 rfl ?_
        refine x_iadd (n := 34) dX3_meetingDay_33 rfl ?_
        refine x_ist2 (n := 35) dX3_meetingDay_34 rfl (by decide) rfl ?_
        have hAT := hA (T + 2 ^ 0 - 1) (by omega)
        first
          | (have hc : x ≤ mS g (T + 2 ^ 0 - 1 + 1) := c_28
             exact fin T (by omega))
          | (have hc : mS g (T + 2 ^ 0 - 1 + 1) < x := (by omega)
             rw [show nI T - 1 + nI (2 ^ 0) = nI (T + 1) - 1 from by rw [hsum T _ (by decide), show nI (T + 1) - 1 = nI (T + 1) - nI 1 from rfl, pk_sub (by omega)]]
             exact fin (T + 1) (by omega))
  | succ j ih =>
    intro T v hv hT1 hT2 hT3
    subst hv
    have hp : 2 ^ (j + 1 + 1) = 2 ^ (j + 1) + 2 ^ (j + 1) := by rw [Nat.pow_succ 2 (j + 1)]; omega
    have hp1 : 2 ^ (j + 1) = 2 ^ j + 2 ^ j := by rw [Nat.pow_succ]; omega
    have hp0 : 0 < 2 ^ j := Nat.pos_of_ne_zero (by simp)
    have fin : ∀ T', T' ≤ A → A < T' + 2 ^ (j + 1) → T' + 2 ^ (j + 1) ≤ 16384 → zX l G mX3_meetingDay 2 0 0 35 [some (.ref (mk + 75)), some (.int (nI x)), some (.int (nI T' - 1)), some (.int (nI (2 ^ (j + 1))))] [] Z I Q := by
      intro T' h1 h2 h3
      refine x_ild3 (n := 36) dX3_meetingDay_35 rfl ?_
      refine x_ic2 (n := 37) dX3_meetingDay_36 rfl ?_
      refine x_idiv (n := 38) dX3_meetingDay_37 rfl (by decide) ?_
      rw [pk_div (by omega) (by omega) (by omega), show 2 ^ (j + 1) / 2 = 2 ^ j by omega]
      refine x_ist3 (n := 39) dX3_meetingDay_38 rfl (by decide) rfl ?_
      refine x_goto (n := 16) dX3_meetingDay_39 (by decide) ?_
      skip
      exact ih T' _ rfl h1 h2 h3
    refine x_ild3 (n := 17) dX3_meetingDay_16 rfl ?_
    refine x_if_le (n := 20) (tgt := 42) dX3_meetingDay_17 rfl (by decide) (fun c_17 => ?_) (fun c_17 => ?_)
    · exact absurd c_17 (by rw [zle, nI_toInt (by omega), Int32.toInt_zero]; omega)
    · refine x_ald0 (n := 21) dX3_meetingDay_20 rfl ?_
      refine x_ild2 (n := 22) dX3_meetingDay_21 rfl ?_
      refine x_ild3 (n := 23) dX3_meetingDay_22 rfl ?_
      refine x_iadd (n := 24) dX3_meetingDay_23 rfl ?_
      rw [hsum T (2 ^ (j + 1)) (by omega)]
      refine x_cV1 (n := 27) (d' := 1) zcX3_yardsBy mlX3_39 dX3_meetingDay_24 rfl (mK_Ma hM) (Nat.le_of_ble_eq_true rfl) (Nat.le_of_ble_eq_true rfl) ?_
      refine c_X3_yardsBy hM hF hB (by omega) ?_
      refine x_some ?_
      refine x_ild1 (n := 28) dX3_meetingDay_27 rfl ?_
      have hmle := mS_le hB (T + 2 ^ (j + 1) - 1 + 1)
      refine x_icmpN_ge (n := 31) (tgt := 35) dX3_meetingDay_28 rfl (by decide) (by omega) (by omega) (fun c_28 => ?_) (fun c_28 => ?_)
      · have hAT := hA (T + 2 ^ (j + 1) - 1) (by omega)
        first
          | (have hc : x ≤ mS g (T + 2 ^ (j + 1) - 1 + 1) := c_28
             exact fin T (by omega) (by omega) (by omega))
          | (have hc : mS g (T + 2 ^ (j + 1) - 1 + 1) < x := (by omega)
             rw [show nI T - 1 + nI (2 ^ (j + 1)) = nI (T + 2 ^ (j + 1)) - 1 from by rw [hsum T _ (by omega), show nI (T + 2 ^ (j + 1)) - 1 = nI (T + 2 ^ (j + 1)) - nI 1 from rfl, pk_sub (by omega)]]
             exact fin (T + 2 ^ (j + 1)) (by omega) (by omega) (by omega))
      · refine x_ild2 (n := 32) dX3_meetingDay_31 rfl ?_
        refine x_ild3 (n := 33) dX3_meetingDay_32 rfl ?_
        refine x_iadd (n := 34) dX3_meetingDay_33 rfl ?_
        refine x_ist2 (n := 35) dX3_meetingDay_34 rfl (by decide) rfl ?_
        have hAT := hA (T + 2 ^ (j + 1) - 1) (by omega)
        first
          | (have hc : x ≤ mS g (T + 2 ^ (j + 1) - 1 + 1) := c_28
             exact fin T (by omega) (by omega) (by omega))
          | (have hc : mS g (T + 2 ^ (j + 1) - 1 + 1) < x := (by omega)
             rw [show nI T - 1 + nI (2 ^ (j + 1)) = nI (T + 2 ^ (j + 1)) - 1 from by rw [hsum T _ (by omega), show nI (T + 2 ^ (j + 1)) - 1 = nI (T + 2 ^ (j + 1)) - nI 1 from rfl, pk_sub (by omega)]]
             exact fin (T + 2 ^ (j + 1)) (by omega) (by omega) (by omega))
theorem c_X3_meetingDay (hM : ShM Z mk) (hF : cmF I mk g) (hB : InvB g) {x : Nat} (hx1 : 1 ≤ x) (hx : x ≤ 9999) (hq : Q (some (.int (if vN g 6 = 0 then -1000000005 else nI (zct (fun D => decide (mS g (D + 1) < x)) 20000)))) Z I) : zM l G mX3_meetingDay 2 0 0 [.ref (mk + 75), .int (nI x)] Z I Q := by
  refine x_entry [some (.ref (mk + 75)), some (.int (nI x)), none, none] 2 rfl rfl (Nat.le_of_ble_eq_true rfl) ?_
  have h1 := vF6 hF hB
  have h6 := (iv6 hB).2
  refine x_ald0 (n := 1) dX3_meetingDay_0 rfl ?_
  refine x_getI (n := 4) flX3_24 rfl dX3_meetingDay_1 rfl (mK_Ma hM) ?_
  rw [h1]
  refine x_if_ne (n := 7) (tgt := 10) dX3_meetingDay_4 rfl (by decide) (fun c_4 => ?_) (fun c_4 => ?_)
  · refine x_icm1 (n := 11) dX3_meetingDay_10 rfl ?_
    refine x_ist2 (n := 12) dX3_meetingDay_11 rfl (by decide) rfl ?_
    refine x_sipush (n := 15) (v := nI 8192) dX3_meetingDay_12 rfl (by decide) ?_
    refine x_ist3 (n := 16) dX3_meetingDay_15 rfl (by decide) rfl ?_
    have h0 : vN g 6 ≠ 0 := fun e => c_4 (by rw [e]; rfl)
    rw [if_neg h0] at hq
    have hA : ∀ D, D < 20000 → (mS g (D + 1) < x ↔ D < zct (fun D => decide (mS g (D + 1) < x)) 20000) := by
      intro D hD
      have := zct_anti (p := fun D => decide (mS g (D + 1) < x)) (fun i j hij hj => decide_eq_true (by have := of_decide_eq_true hj; have := mS_mono (g := g) (show i + 1 ≤ j + 1 by omega); omega)) hD
      rw [decide_eq_true_eq] at this
      exact this
    have hA2 : zct (fun D => decide (mS g (D + 1) < x)) 20000 < 0 + 2 ^ (13 + 1) := by
      have h3 := hA 16383 (by omega)
      have h4 := mS_ge hB h0 (16383 + 1)
      have : 2 ^ (13 + 1) = 16384 := by decide
      omega
    exact l_X3_meetingDay hM hF hB (by omega) hA hq 13 0 (-1) (by decide) (by omega) hA2 (by decide)
  · refine x_ldc (n := 9) dX3_meetingDay_7 rfl kiX3_38 ?_
    refine r_iret dX3_meetingDay_9 rfl ?_
    rw [if_pos ((nI_eq (b := 0) (by omega) (by decide)).mp c_4)] at hq; exact hq
theorem tL_meets (hS : ShL Z) (hC : CM Z I 1 g) (hB : InvB g) {x : Int32} (hq : Q (some (.int (f_meets g x))) Z I) : zM l G mX11_meets 3 0 0 [.ref 0, .int x] Z I Q := by
  refine x_entry [some (.ref 0), some (.int x)] 0 rfl rfl (Nat.le_of_ble_eq_true rfl) ?_
  have hM := lM1 hS
  unfold f_meets at hq
  refine x_ild1 (n := 1) dX11_meets_0 rfl ?_
  refine x_ic1 (n := 2) dX11_meets_1 rfl ?_
  refine x_sipush (n := 5) (v := nI 9999) dX11_meets_2 rfl (by decide) ?_
  refine x_cS3 (n := 8) (d' := 0) zcX11_inside mlX11_50 dX11_meets_5 rfl (Nat.le_of_ble_eq_true rfl) (Nat.le_of_ble_eq_true rfl) ?_
  refine c_X11_inside (zin x 1 9999) (by unfold zin; rfl) ?_
  refine x_some ?_
  refine x_zif_eq (n := 11) (tgt := 25) dX11_meets_8 rfl (by decide) (fun c_8 => ?_) (fun c_8 => ?_)
  · refine x_ldc (n := 27) dX11_meets_25 rfl kiX11_54 ?_
    refine r_iret dX11_meets_27 rfl ?_
    first | (have h0 : zin x 1 9999 = false := c_8; rw [if_neg (by rw [h0]; decide)] at hq; exact hq) | exact hq
  · have hz := zin_t c_8
    obtain ⟨n, hn, hn2, rfl⟩ := z_num 10000 (x := x) (hi := 9999) (by unfold zin at *; simp only [decide_eq_true_eq] at *; omega) (by omega)
    rw [nI_toInt (by omega)] at hz
    rw [if_pos c_8, ix_nI (by omega)] at hq
    refine x_ald0 (n := 12) dX11_meets_11 rfl ?_
    refine x_getR (n := 15) flX11_10 rfl dX11_meets_12 rfl (lK_L hS) (lP_M hS) ?_
    refine x_getR (n := 18) flX11_289 rfl dX11_meets_15 rfl (mK_M hM) (mP_Ma hM) ?_
    refine x_ild1 (n := 19) dX11_meets_18 rfl ?_
    refine x_cV1 (n := 22) (d' := 2) zcX3_meetingDay mlX11_298 dX11_meets_19 rfl (mK_Ma hM) (Nat.le_of_ble_eq_true rfl) (Nat.le_of_ble_eq_true rfl) ?_
    refine c_X3_meetingDay hM hC.2.2.2.2.2.2.1 hB (by omega) (by omega) ?_
    refine x_some ?_
    refine x_goto (n := 27) dX11_meets_22 (by decide) ?_
    refine r_iret dX11_meets_27 rfl ?_
    first | (have h0 : zin x 1 9999 = false := c_8; rw [if_neg (by rw [h0]; decide)] at hq; exact hq) | exact hq
end
