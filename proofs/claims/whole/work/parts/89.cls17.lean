section
variable {l : Launch} {G : zG} {Z : zS} {I I' : zI} {g g' : Nat → Int32} {mk b : Nat} {Q : Option Value → zS → zI → Prop}
theorem zdec1 (x : Int32) : x + Int32.ofInt (-1) = x - 1 := by
  rw [Int32.sub_eq_add_neg]
  have e : Int32.ofInt (-1) = -1 := by decide
  rw [e]
theorem mabs_n {a c : Nat} (ha : a < 1000000) (hc : c < 1000000) : (if 0 ≤ nI a - nI c then nI a - nI c else 0 - (nI a - nI c)) = nI (a - c + (c - a)) := by
  rw [← zabs ha hc]
  by_cases h : (nI a - nI c).toInt < 0
  · rw [if_pos h, if_neg (by rw [zle, Int32.toInt_zero]; omega), Int32.zero_sub]
  · rw [if_neg h, if_pos (by rw [zle, Int32.toInt_zero]; omega)]
theorem l_X3_holds (hM : ShM Z mk) (hF : cmF I mk g) (hB : InvB g) {s p : Nat} (hs : s < 100000) (hp : p < 10) (hq : Q (some (.int (zb (gHold g p s)))) Z I) : ∀ m j, (j = 0 ∨ j ≤ vN g 7 - 1) → vN g 7 - j < m → zal (gHp g p s) j = true → zX l G mX3_holds 1 0 0 2 [some (.ref (mk + 75)), some (.int (nI s)), some (.int (nI p)), some (.int (nI (j + 1))), none, none] [] Z I Q := by
  intro m
  have h1 := vF7 hF hB
  have h8 := (iv7 hB).2
  induction m with
  | zero => intro j _ h; exact absurd h (by omega)
  | succ m ih =>
    intro j hj hm hz
    have fin : j + 1 < vN g 7 → zX l G mX3_holds 1 0 0 54 [some (.ref (mk + 75)), some (.int (nI s)), some (.int (nI p)), some (.int (nI (j + 1))), some (.int (nI (aN g s j))), some (.int (nI (aN g s (j + 1))))] [] Z I Q := by
      intro hlt
      have l1 := aN_le hB (s := s) (k := j) (by omega)
      have l2 := aN_le hB (s := s) (k := j + 1) hlt
      have hzs : zal (gHp g p s) (j + 1) = (zal (gHp g p s) j && gHp g p s j) := rfl
      refine x_ild4 (n := 56) dX3_holds_54 rfl ?_
      refine x_ild5 (n := 58) dX3_holds_56 rfl ?_
      refine x_isub (n := 59) dX3_holds_58 rfl ?_
      refine x_mabs (n := 62) dX3_holds_59 rfl mlX3_63 zu_abs zi_J9 zv_abs (by decide) (Nat.le_of_ble_eq_true rfl) ?_
      rw [mabs_n (by omega) (by omega)]
      refine x_top (y := nI (aN g s j - aN g s (j + 1) + (aN g s (j + 1) - aN g s j))) rfl ?_
      refine x_ild2 (n := 63) dX3_holds_62 rfl ?_
      refine x_icmpN_le (n := 66) (tgt := 68) dX3_holds_63 rfl (by decide) (by omega) (by omega) (fun c_63 => ?_) (fun c_63 => ?_)
      · refine x_iincN3 (n := 71) (k := 1) dX3_holds_68 rfl (by decide) rfl ?_
        refine x_goto (n := 2) dX3_holds_71 (by decide) ?_
        refine x_fg4 (x_fg5 ?_)
        refine ih (j + 1) (by omega) (by omega) ?_
        rw [hzs, hz, Bool.true_and]
        exact decide_eq_true (by omega)
      · refine x_ic0 (n := 67) dX3_holds_66 rfl ?_
        refine r_zret dX3_holds_67 rfl (by first | exact nar0 | exact nar1 | exact zb_nar _) ?_
        have hf : gHold g p s = false := by
          refine Bool.eq_false_iff.mpr (fun h => ?_)
          have h2 := zal_t.mp h j (by omega)
          have h3 := of_decide_eq_true h2
          omega
        rw [hf] at hq; exact hq
    have mid : j + 1 < vN g 7 → ∀ x4, zX l G mX3_holds 1 0 0 34 [some (.ref (mk + 75)), some (.int (nI s)), some (.int (nI p)), some (.int (nI (j + 1))), some (.int (nI (aN g s j))), x4] [] Z I Q := by
      intro hlt x4
      refine x_fg5 ?_
      have e1 := rg_nI (ivA hB (k := j + 1) hlt) (by omega) (by omega)
      refine x_ild1 (n := 35) dX3_holds_34 rfl ?_
      refine x_ild3 (n := 36) dX3_holds_35 rfl ?_
      refine x_cN2 (n := 39) (d' := 0) zcX11_hasBit mnX3_60 dX3_holds_36 rfl (Nat.le_of_ble_eq_true rfl) (Nat.le_of_ble_eq_true rfl) ?_
      refine c_X11_hasBit (by omega) (by omega) ?_
      refine x_some ?_
      refine x_zif_eq (n := 42) (tgt := 51) dX3_holds_39 rfl (by decide) (fun c_39 => ?_) (fun c_39 => ?_)
      · refine x_ic0 (n := 52) dX3_holds_51 rfl ?_
        refine x_ist5 (n := 54) dX3_holds_52 rfl (by decide) rfl ?_
        have hx := fin hlt
        unfold aN at hx
        first | (have hc : s.testBit (j + 1) = true := c_39; rw [if_pos hc] at hx; exact hx) | (have hc : s.testBit (j + 1) = false := c_39; have hc2 : ¬ s.testBit (j + 1) = true := (by rw [hc]; decide); rw [if_neg hc2] at hx; exact hx)
      · refine x_ald0 (n := 43) dX3_holds_42 rfl ?_
        refine x_getR (n := 46) flX3_18 rfl dX3_holds_43 rfl (mK_Ma hM) (mP_thrust hM) ?_
        refine x_ild3 (n := 47) dX3_holds_46 rfl ?_
        refine x_ialdN (n := 48) dX3_holds_47 rfl (mA_thrust hM) (Nat.le_of_ble_eq_true rfl) (by omega) ?_
        rw [hF.2.2.2.2 (j + 1) (by omega), e1]
        refine x_goto (n := 52) dX3_holds_48 (by decide) ?_
        refine x_ist5 (n := 54) dX3_holds_52 rfl (by decide) rfl ?_
        have hx := fin hlt
        unfold aN at hx
        first | (have hc : s.testBit (j + 1) = true := c_39; rw [if_pos hc] at hx; exact hx) | (have hc : s.testBit (j + 1) = false := c_39; have hc2 : ¬ s.testBit (j + 1) = true := (by rw [hc]; decide); rw [if_neg hc2] at hx; exact hx)
    refine x_ild3 (n := 3) dX3_holds_2 rfl ?_
    refine x_ald0 (n := 4) dX3_holds_3 rfl ?_
    refine x_getI (n := 7) flX3_34 rfl dX3_holds_4 rfl (mK_Ma hM) ?_
    rw [h1]
    refine x_icmpN_ge (n := 10) (tgt := 74) dX3_holds_7 rfl (by decide) (by omega) (by omega) (fun c_7 => ?_) (fun c_7 => ?_)
    · refine x_ic1 (n := 75) dX3_holds_74 rfl ?_
      refine r_zret dX3_holds_75 rfl (by first | exact nar0 | exact nar1 | exact zb_nar _) ?_
      have hf : gHold g p s = true := zal_t.mpr (fun k hk => zal_t.mp hz k (by omega))
      rw [hf] at hq; exact hq
    · refine x_ild1 (n := 11) dX3_holds_10 rfl ?_
      refine x_ild3 (n := 12) dX3_holds_11 rfl ?_
      refine x_ic1 (n := 13) dX3_holds_12 rfl ?_
      refine x_isubN (n := 14) dX3_holds_13 rfl (by omega) ?_
      rw [Nat.add_sub_cancel]
      refine x_cN2 (n := 17) (d' := 0) zcX11_hasBit mnX3_60 dX3_holds_14 rfl (Nat.le_of_ble_eq_true rfl) (Nat.le_of_ble_eq_true rfl) ?_
      refine c_X11_hasBit (by omega) (by omega) ?_
      refine x_some ?_
      refine x_zif_eq (n := 20) (tgt := 31) dX3_holds_17 rfl (by decide) (fun c_17 => ?_) (fun c_17 => ?_)
      · refine x_ic0 (n := 32) dX3_holds_31 rfl ?_
        refine x_ist4 (n := 34) dX3_holds_32 rfl (by decide) rfl ?_
        have hx := mid (by omega) none
        unfold aN at hx
        first | (have hc : s.testBit j = true := c_17; rw [if_pos hc] at hx; exact hx) | (have hc : s.testBit j = false := c_17; have hc2 : ¬ s.testBit j = true := (by rw [hc]; decide); rw [if_neg hc2] at hx; exact hx)
      · refine x_ald0 (n := 21) dX3_holds_20 rfl ?_
        refine x_getR (n := 24) flX3_18 rfl dX3_holds_21 rfl (mK_Ma hM) (mP_thrust hM) ?_
        refine x_ild3 (n := 25) dX3_holds_24 rfl ?_
        refine x_ic1 (n := 26) dX3_holds_25 rfl ?_
        refine x_isubN (n := 27) dX3_holds_26 rfl (by omega) ?_
        rw [Nat.add_sub_cancel]
        refine x_ialdN (n := 28) dX3_holds_27 rfl (mA_thrust hM) (Nat.le_of_ble_eq_true rfl) (by omega) ?_
        rw [hF.2.2.2.2 j (by omega), rg_nI (ivA hB (k := j) (by omega)) (by omega) (by omega)]
        refine x_goto (n := 32) dX3_holds_28 (by decide) ?_
        refine x_ist4 (n := 34) dX3_holds_32 rfl (by decide) rfl ?_
        have hx := mid (by omega) none
        unfold aN at hx
        first | (have hc : s.testBit j = true := c_17; rw [if_pos hc] at hx; exact hx) | (have hc : s.testBit j = false := c_17; have hc2 : ¬ s.testBit j = true := (by rw [hc]; decide); rw [if_neg hc2] at hx; exact hx)
theorem c_X3_holds (hM : ShM Z mk) (hF : cmF I mk g) (hB : InvB g) {s p : Nat} (hs : s < 100000) (hp : p < 10) (hq : Q (some (.int (zb (gHold g p s)))) Z I) : zM l G mX3_holds 1 0 0 [.ref (mk + 75), .int (nI s), .int (nI p)] Z I Q := by
  refine x_entry [some (.ref (mk + 75)), some (.int (nI s)), some (.int (nI p)), none, none, none] 3 rfl rfl (Nat.le_of_ble_eq_true rfl) ?_
  refine x_ic1 (n := 1) dX3_holds_0 rfl ?_
  refine x_ist3 (n := 2) dX3_holds_1 rfl (by decide) rfl ?_
  exact l_X3_holds hM hF hB hs hp hq (vN g 7 + 1) 0 (by omega) (by omega) rfl
def oN (o : Option Nat) : Int32 := match o with
  | none => -1000000005
  | some k => nI k
theorem l_X3_firstWayOn (hM : ShM Z mk) (hF : cmF I mk g) (hB : InvB g) {s : Nat} {T : Nat → Bool} (hs : s < 2 ^ vN g 7) (hT : ∀ k, k < vN g 7 → s.testBit k = false → I (mk + 79) (s ||| 2 ^ k) = zb (T (s ||| 2 ^ k))) (hq : Q (some (.int (oN (gNx (vN g 7) T s)))) Z I) : ∀ m k, k ≤ vN g 7 → zfst (fun k => !s.testBit k && T (s ||| 2 ^ k)) k = none → vN g 7 - k < m → zX l G mX3_firstWayOn 1 0 0 2 [some (.ref (mk + 75)), some (.int (nI s)), some (.int (nI k))] [] Z I Q := by
  intro m
  have h1 := vF7 hF hB
  have h8 := (iv7 hB).2
  have hp8 : 2 ^ vN g 7 ≤ 256 := Nat.pow_le_pow_right (n := 2) (i := vN g 7) (j := 8) (by omega) h8
  induction m with
  | zero => intro k _ _ h; exact absurd h (by omega)
  | succ m ih =>
    intro k hk hz hm
    refine x_ild2 (n := 3) dX3_firstWayOn_2 rfl ?_
    refine x_ald0 (n := 4) dX3_firstWayOn_3 rfl ?_
    refine x_getI (n := 7) flX3_34 rfl dX3_firstWayOn_4 rfl (mK_Ma hM) ?_
    rw [h1]
    refine x_icmpN_ge (n := 10) (tgt := 40) dX3_firstWayOn_7 rfl (by decide) (by omega) (by omega) (fun c_7 => ?_) (fun c_7 => ?_)
    · refine x_ldc (n := 42) dX3_firstWayOn_40 rfl kiX3_38 ?_
      refine r_iret dX3_firstWayOn_42 rfl ?_
      have hx : gNx (vN g 7) T s = none := by unfold gNx; rw [← show k = vN g 7 by omega]; exact hz
      rw [hx] at hq; exact hq
    · refine x_ild1 (n := 11) dX3_firstWayOn_10 rfl ?_
      refine x_ild2 (n := 12) dX3_firstWayOn_11 rfl ?_
      refine x_cN2 (n := 15) (d' := 0) zcX11_hasBit mnX3_60 dX3_firstWayOn_12 rfl (Nat.le_of_ble_eq_true rfl) (Nat.le_of_ble_eq_true rfl) ?_
      refine c_X11_hasBit (by omega) (by omega) ?_
      refine x_some ?_
      refine x_zif_ne (n := 18) (tgt := 34) dX3_firstWayOn_15 rfl (by decide) (fun c_15 => ?_) (fun c_15 => ?_)
      · refine x_iincN2 (n := 37) (k := 1) dX3_firstWayOn_34 rfl (by decide) rfl ?_
        refine x_goto (n := 2) dX3_firstWayOn_37 (by decide) ?_
        refine ih (k + 1) (by omega) (zfst_next hz ?_) (by omega)
        first
          | (have hb : s.testBit k = true := c_15; simp only [hb]; rfl)
          | (have hb : s.testBit k = false := c_15
             have ht : T (s ||| 2 ^ k) = false := (by
               cases hh : T (s ||| 2 ^ k)
               · rfl
               · rw [hh] at c_29; exact absurd rfl c_29)
             simp only [ht, Bool.and_false])
      · refine x_ald0 (n := 19) dX3_firstWayOn_18 rfl ?_
        refine x_getR (n := 22) flX3_21 rfl dX3_firstWayOn_19 rfl (mK_Ma hM) (mP_canGoOn hM) ?_
        refine x_ild1 (n := 23) dX3_firstWayOn_22 rfl ?_
        refine x_ic1 (n := 24) dX3_firstWayOn_23 rfl ?_
        refine x_ild2 (n := 25) dX3_firstWayOn_24 rfl ?_
        refine x_ishl (n := 26) dX3_firstWayOn_25 rfl ?_
        refine x_ior (n := 27) dX3_firstWayOn_26 rfl ?_
        have hol := zor_lt hs (show k < vN g 7 by omega)
        rw [zshl (by omega), zor]
        refine x_ialdN (n := 28) dX3_firstWayOn_27 rfl (mA_canGoOn hM) (Nat.le_of_ble_eq_true rfl) (by omega) ?_
        refine x_ic1 (n := 29) dX3_firstWayOn_28 rfl ?_
        rw [hT k (by omega) c_15]
        refine x_icmp_ne (n := 32) (tgt := 34) dX3_firstWayOn_29 rfl (by decide) (fun c_29 => ?_) (fun c_29 => ?_)
        · refine x_iincN2 (n := 37) (k := 1) dX3_firstWayOn_34 rfl (by decide) rfl ?_
          refine x_goto (n := 2) dX3_firstWayOn_37 (by decide) ?_
          refine ih (k + 1) (by omega) (zfst_next hz ?_) (by omega)
          first
            | (have hb : s.testBit k = true := c_15; simp only [hb]; rfl)
            | (have hb : s.testBit k = false := c_15
               have ht : T (s ||| 2 ^ k) = false := (by
                 cases hh : T (s ||| 2 ^ k)
                 · rfl
                 · rw [hh] at c_29; exact absurd rfl c_29)
               simp only [ht, Bool.and_false])
        · refine x_ild2 (n := 33) dX3_firstWayOn_32 rfl ?_
          refine r_iret dX3_firstWayOn_33 rfl ?_
          have ht : T (s ||| 2 ^ k) = true := by
            cases hh : T (s ||| 2 ^ k)
            · rw [hh] at c_29; exact absurd c_29 (by decide)
            · rfl
          have hx : gNx (vN g 7) T s = some k := zfst_some hz (by simp only [c_15, ht]; rfl) (by omega)
          rw [hx] at hq; exact hq
theorem c_X3_firstWayOn (hM : ShM Z mk) (hF : cmF I mk g) (hB : InvB g) {s : Nat} {T : Nat → Bool} (hs : s < 2 ^ vN g 7) (hT : ∀ k, k < vN g 7 → s.testBit k = false → I (mk + 79) (s ||| 2 ^ k) = zb (T (s ||| 2 ^ k))) (hq : Q (some (.int (oN (gNx (vN g 7) T s)))) Z I) : zM l G mX3_firstWayOn 1 0 0 [.ref (mk + 75), .int (nI s)] Z I Q := by
  refine x_entry [some (.ref (mk + 75)), some (.int (nI s)), none] 1 rfl rfl (Nat.le_of_ble_eq_true rfl) ?_
  refine x_ic0 (n := 1) dX3_firstWayOn_0 rfl ?_
  refine x_ist2 (n := 2) dX3_firstWayOn_1 rfl (by decide) rfl ?_
  exact l_X3_firstWayOn hM hF hB hs hT hq (vN g 7 + 1) 0 (by omega) rfl (by omega)
theorem gHold_0 (p : Nat) : gHold g p 0 = true := zal_t.mpr (fun k _ => decide_eq_true (by unfold aN; simp [Nat.zero_testBit]))
theorem l_X3_findWaysOn (hM : ShM Z mk) (hF : cmF I mk g) (hB : InvB g) {p : Nat} (hp : p < 10) (hq : ∀ f, (∀ j, j < 2 ^ vN g 7 → f j = zb (gT g p j)) → Q none Z (va_up I (mk + 79) f)) :
    ∀ r v f, v = nI r - 1 → r ≤ 2 ^ vN g 7 → (∀ j, r ≤ j → j < 2 ^ vN g 7 → f j = zb (gT g p j)) → zX l G mX3_findWaysOn 2 0 0 11 [some (.ref (mk + 75)), some (.int (nI p)), some (.int (nI (2 ^ vN g 7 - 1))), some (.int v), none] [] Z (va_up I (mk + 79) f) Q := by
  have h8 := (iv7 hB).2
  have hp8 : 2 ^ vN g 7 ≤ 256 := Nat.pow_le_pow_right (n := 2) (i := vN g 7) (j := 8) (by omega) h8
  intro r
  induction r with
  | zero =>
    intro v f hv _ hf
    subst hv
    refine x_ild3 (n := 12) dX3_findWaysOn_11 rfl ?_
    refine x_if_lt (n := 15) (tgt := 68) dX3_findWaysOn_12 rfl (by decide) (fun c_12 => ?_) (fun c_12 => ?_)
    · refine r_vret dX3_findWaysOn_68 rfl ?_
      exact hq f (fun j hj => hf j (by omega) hj)
    · exact absurd (by decide) c_12
  | succ r ih =>
    intro v f hv hr hf
    have hv2 : v = nI r := by rw [hv, show nI (r + 1) - 1 = nI (r + 1) - nI 1 from rfl, pk_sub (by omega), Nat.add_sub_cancel]
    subst hv2
    have hF' : cmF (va_up I (mk + 79) f) mk g := cmF_of hF (fun x h1 h2 => va_up_off (by omega)) (fun _ _ => rfl)
    have hTr := gT_eq (g := g) p (s := r) (by omega)
    have fin : ∀ bb : Bool, bb = (decide (r = 2 ^ vN g 7 - 1) || (gNx (vN g 7) (gT g p) r).isSome) → zX l G mX3_findWaysOn 2 0 0 35 [some (.ref (mk + 75)), some (.int (nI p)), some (.int (nI (2 ^ vN g 7 - 1))), some (.int (nI r)), none] [.int (zb bb)] Z (va_up I (mk + 79) f) Q := by
      intro bb hbb
      rw [← hbb] at hTr
      have hTr2 : gT g p r = (gHold g p r && bb) := by
        rw [hTr]
        by_cases h0 : r = 0
        · subst h0; rw [gHold_0]; rfl
        · rw [decide_eq_false h0, Bool.false_or]
      have last : ∀ x4, zX l G mX3_findWaysOn 2 0 0 61 [some (.ref (mk + 75)), some (.int (nI p)), some (.int (nI (2 ^ vN g 7 - 1))), some (.int (nI r)), x4] [.int (zb (gT g p r)), .int (nI r), .ref (mk + 79)] Z (va_up I (mk + 79) f) Q := by
        intro x4
        refine x_iastN (n := 62) dX3_findWaysOn_61 rfl (mA_canGoOn hM) (Nat.le_of_ble_eq_true rfl) (by omega) ?_
        rw [va_up_same, va_up_2]
        refine x_iinc3 (n := 65) (v := nI r - 1) dX3_findWaysOn_62 rfl (by decide) (zdec1 _) rfl ?_
        refine x_goto (n := 11) dX3_findWaysOn_65 (by decide) ?_
        refine x_fg4 ?_
        refine ih _ _ rfl (by omega) (fun j hj1 hj2 => ?_)
        by_cases hjr : j = r
        · subst hjr; rw [upd_same]
        · rw [upd_off hjr]; exact hf j (by omega) hj2
      refine x_ist4 (n := 37) dX3_findWaysOn_35 rfl (by decide) rfl ?_
      refine x_ald0 (n := 38) dX3_findWaysOn_37 rfl ?_
      refine x_getR (n := 41) flX3_21 rfl dX3_findWaysOn_38 rfl (mK_Ma hM) (mP_canGoOn hM) ?_
      refine x_ild3 (n := 42) dX3_findWaysOn_41 rfl ?_
      refine x_ild4 (n := 44) dX3_findWaysOn_42 rfl ?_
      refine x_zif_eq (n := 47) (tgt := 60) dX3_findWaysOn_44 rfl (by decide) (fun c_44 => ?_) (fun c_44 => ?_)
      · refine x_ic0 (n := 61) dX3_findWaysOn_60 rfl ?_
        have hx := last (some (.int (zb bb)))
        rw [hTr2] at hx
        first
          | (have h2 : gHold g p r = true := c_53; have h1 : bb = true := c_44; subst h1; rw [h2] at hx; exact hx)
          | (have h1 : bb = false := c_44; subst h1; rw [Bool.and_false] at hx; exact hx)
          | (have h2 : gHold g p r = false := c_53; rw [h2, Bool.false_and] at hx; exact hx)
      · refine x_ald0 (n := 48) dX3_findWaysOn_47 rfl ?_
        refine x_ild3 (n := 49) dX3_findWaysOn_48 rfl ?_
        refine x_ild1 (n := 50) dX3_findWaysOn_49 rfl ?_
        refine x_cV2 (n := 53) (d' := 1) zcX3_holds mlX3_56 dX3_findWaysOn_50 rfl (mK_Ma hM) (Nat.le_of_ble_eq_true rfl) (Nat.le_of_ble_eq_true rfl) ?_
        refine c_X3_holds hM hF' hB (by omega) hp ?_
        refine x_some ?_
        refine x_zif_eq (n := 56) (tgt := 60) dX3_findWaysOn_53 rfl (by decide) (fun c_53 => ?_) (fun c_53 => ?_)
        · refine x_ic0 (n := 61) dX3_findWaysOn_60 rfl ?_
          have hx := last (some (.int (zb bb)))
          rw [hTr2] at hx
          first
            | (have h2 : gHold g p r = true := c_53; have h1 : bb = true := c_44; subst h1; rw [h2] at hx; exact hx)
            | (have h1 : bb = false := c_44; subst h1; rw [Bool.and_false] at hx; exact hx)
            | (have h2 : gHold g p r = false := c_53; rw [h2, Bool.false_and] at hx; exact hx)
        · refine x_ic1 (n := 57) dX3_findWaysOn_56 rfl ?_
          refine x_goto (n := 61) dX3_findWaysOn_57 (by decide) ?_
          have hx := last (some (.int (zb bb)))
          rw [hTr2] at hx
          first
            | (have h2 : gHold g p r = true := c_53; have h1 : bb = true := c_44; subst h1; rw [h2] at hx; exact hx)
            | (have h1 : bb = false := c_44; subst h1; rw [Bool.and_false] at hx; exact hx)
            | (have h2 : gHold g p r = false := c_53; rw [h2, Bool.false_and] at hx; exact hx)
    refine x_ild3 (n := 12) dX3_findWaysOn_11 rfl ?_
    refine x_if_lt (n := 15) (tgt := 68) dX3_findWaysOn_12 rfl (by decide) (fun c_12 => ?_) (fun c_12 => ?_)
    · exact absurd c_12 (by rw [zlt, nI_toInt (by omega), Int32.toInt_zero]; omega)
    · refine x_ild3 (n := 16) dX3_findWaysOn_15 rfl ?_
      refine x_ild2 (n := 17) dX3_findWaysOn_16 rfl ?_
      refine x_icmpN_eq (n := 20) (tgt := 30) dX3_findWaysOn_17 rfl (by decide) (by omega) (by omega) (fun c_17 => ?_) (fun c_17 => ?_)
      · refine x_ic1 (n := 31) dX3_findWaysOn_30 rfl ?_
        refine x_goto (n := 35) dX3_findWaysOn_31 (by decide) ?_
        first
          | (have hc : r = 2 ^ vN g 7 - 1 := c_17; exact fin true (by rw [decide_eq_true hc]; rfl))
          | (have hc : ¬ r = 2 ^ vN g 7 - 1 := c_17
             cases hgn : gNx (vN g 7) (gT g p) r with
             | none => first | exact fin false (by rw [decide_eq_false hc, hgn]; rfl) | (rw [hgn] at c_27; exact absurd rfl c_27)
             | some k =>
               have hk8 := (gNx_lt hgn).1
               first
                 | exact fin true (by rw [decide_eq_false hc, hgn]; rfl)
                 | (exfalso; rw [hgn] at c_27; have c2 : nI k = -1000000005 := c_27; rw [zeq, nI_toInt (by omega), show (-1000000005 : Int32).toInt = -1000000005 by decide] at c2; omega))
      · refine x_ald0 (n := 21) dX3_findWaysOn_20 rfl ?_
        refine x_ild3 (n := 22) dX3_findWaysOn_21 rfl ?_
        refine x_cV1 (n := 25) (d' := 1) zcX3_firstWayOn mlX3_53 dX3_findWaysOn_22 rfl (mK_Ma hM) (Nat.le_of_ble_eq_true rfl) (Nat.le_of_ble_eq_true rfl) ?_
        refine c_X3_firstWayOn (T := gT g p) hM hF' hB (by omega) (fun k hk hb => ?_) ?_
        · rw [va_up_same]; exact hf _ (zor_gt hb) (zor_lt (by omega) hk)
        refine x_some ?_
        refine x_ldc (n := 27) dX3_findWaysOn_25 rfl kiX3_38 ?_
        refine x_icmp_eq (n := 30) (tgt := 34) dX3_findWaysOn_27 rfl (by decide) (fun c_27 => ?_) (fun c_27 => ?_)
        · refine x_ic0 (n := 35) dX3_findWaysOn_34 rfl ?_
          first
            | (have hc : r = 2 ^ vN g 7 - 1 := c_17; exact fin true (by rw [decide_eq_true hc]; rfl))
            | (have hc : ¬ r = 2 ^ vN g 7 - 1 := c_17
               cases hgn : gNx (vN g 7) (gT g p) r with
               | none => first | exact fin false (by rw [decide_eq_false hc, hgn]; rfl) | (rw [hgn] at c_27; exact absurd rfl c_27)
               | some k =>
                 have hk8 := (gNx_lt hgn).1
                 first
                   | exact fin true (by rw [decide_eq_false hc, hgn]; rfl)
                   | (exfalso; rw [hgn] at c_27; have c2 : nI k = -1000000005 := c_27; rw [zeq, nI_toInt (by omega), show (-1000000005 : Int32).toInt = -1000000005 by decide] at c2; omega))
        · refine x_ic1 (n := 31) dX3_findWaysOn_30 rfl ?_
          refine x_goto (n := 35) dX3_findWaysOn_31 (by decide) ?_
          first
            | (have hc : r = 2 ^ vN g 7 - 1 := c_17; exact fin true (by rw [decide_eq_true hc]; rfl))
            | (have hc : ¬ r = 2 ^ vN g 7 - 1 := c_17
               cases hgn : gNx (vN g 7) (gT g p) r with
               | none => first | exact fin false (by rw [decide_eq_false hc, hgn]; rfl) | (rw [hgn] at c_27; exact absurd rfl c_27)
               | some k =>
                 have hk8 := (gNx_lt hgn).1
                 first
                   | exact fin true (by rw [decide_eq_false hc, hgn]; rfl)
                   | (exfalso; rw [hgn] at c_27; have c2 : nI k = -1000000005 := c_27; rw [zeq, nI_toInt (by omega), show (-1000000005 : Int32).toInt = -1000000005 by decide] at c2; omega))
theorem c_X3_findWaysOn (hM : ShM Z mk) (hF : cmF I mk g) (hB : InvB g) {p : Nat} (hp : p < 10) (hq : ∀ f, (∀ j, j < 2 ^ vN g 7 → f j = zb (gT g p j)) → Q none Z (va_up I (mk + 79) f)) : zM l G mX3_findWaysOn 2 0 0 [.ref (mk + 75), .int (nI p)] Z I Q := by
  refine x_entry [some (.ref (mk + 75)), some (.int (nI p)), none, none, none] 3 rfl rfl (Nat.le_of_ble_eq_true rfl) ?_
  have h1 := vF7 hF hB
  have h8 := (iv7 hB).2
  have hp8 : 2 ^ vN g 7 ≤ 256 := Nat.pow_le_pow_right (n := 2) (i := vN g 7) (j := 8) (by omega) h8
  have hp0 : 0 < 2 ^ vN g 7 := Nat.pos_of_ne_zero (by simp)
  refine x_ic1 (n := 1) dX3_findWaysOn_0 rfl ?_
  refine x_ald0 (n := 2) dX3_findWaysOn_1 rfl ?_
  refine x_getI (n := 5) flX3_34 rfl dX3_findWaysOn_2 rfl (mK_Ma hM) ?_
  rw [h1]
  refine x_ishl (n := 6) dX3_findWaysOn_5 rfl ?_
  rw [zshl (by omega)]
  refine x_ic1 (n := 7) dX3_findWaysOn_6 rfl ?_
  refine x_isubN (n := 8) dX3_findWaysOn_7 rfl (by omega) ?_
  refine x_ist2 (n := 9) dX3_findWaysOn_8 rfl (by decide) rfl ?_
  refine x_ild2 (n := 10) dX3_findWaysOn_9 rfl ?_
  refine x_ist3 (n := 11) dX3_findWaysOn_10 rfl (by decide) rfl ?_
  have hx := l_X3_findWaysOn (l := l) (G := G) hM hF hB hp hq (2 ^ vN g 7) (nI (2 ^ vN g 7 - 1)) (I (mk + 79)) (by rw [← pk_sub (by omega)]; rfl) (Nat.le_refl _) (fun j h1 h2 => absurd h2 (by omega))
  rw [va_up_id] at hx
  exact hx
theorem l_X3_archInOrder (hM : ShM Z mk) (hF : cmF I mk g) (hB : InvB g) {p i : Nat} (h0 : gT g p 0 = true) (hi : i < vN g 7) (ht : ∀ j, j < 2 ^ vN g 7 → I (mk + 79) j = zb (gT g p j)) (hq : Q (some (.int (oI (gNx (vN g 7) (gT g p) (gSq g p i))))) Z I) : ∀ m k, 1 ≤ k → k ≤ i + 1 → i + 1 - k < m → zX l G mX3_archInOrder 3 0 0 25 [some (.ref (mk + 75)), none, some (.int (nI i)), some (.int (nI (gSq g p k))), some (.int (oI (gNx (vN g 7) (gT g p) (gSq g p (k - 1))))), some (.int (nI k))] [] Z I Q := by
  have h8 := (iv7 hB).2
  intro m
  induction m with
  | zero => intro k _ _ h; exact absurd h (by omega)
  | succ m ih =>
    intro k hk1 hk hm
    refine x_ild5 (n := 27) dX3_archInOrder_25 rfl ?_
    refine x_ild2 (n := 28) dX3_archInOrder_27 rfl ?_
    refine x_icmpN_gt (n := 31) (tgt := 61) dX3_archInOrder_28 rfl (by decide) (by omega) (by omega) (fun c_28 => ?_) (fun c_28 => ?_)
    · refine x_ild4 (n := 63) dX3_archInOrder_61 rfl ?_
      refine r_iret dX3_archInOrder_63 rfl ?_
      rw [show k - 1 = i by omega]; exact hq
    · refine x_ald0 (n := 32) dX3_archInOrder_31 rfl ?_
      refine x_ild3 (n := 33) dX3_archInOrder_32 rfl ?_
      obtain ⟨n, hn, hgn, hsq⟩ := gSq_next h0 (k := k) (by omega)
      have hok := gSq_ok h0 k (by omega)
      refine x_cV1 (n := 36) (d' := 1) zcX3_firstWayOn mlX3_53 dX3_archInOrder_33 rfl (mK_Ma hM) (Nat.le_of_ble_eq_true rfl) (Nat.le_of_ble_eq_true rfl) ?_
      refine c_X3_firstWayOn (T := gT g p) hM hF hB hok.1 (fun j hj hb => ht _ (zor_lt hok.1 hj)) ?_
      rw [hgn]
      refine x_some ?_
      refine x_top (y := nI n) rfl ?_
      have hnI : (nI n).toInt = (n : Int) := nI_toInt (by omega)
      refine x_ist4 (n := 38) dX3_archInOrder_36 rfl (by decide) rfl ?_
      refine x_ild4 (n := 40) dX3_archInOrder_38 rfl ?_
      refine x_ldc (n := 42) dX3_archInOrder_40 rfl kiX3_38 ?_
      refine x_icmp_ne (n := 45) (tgt := 48) dX3_archInOrder_42 rfl (by decide) (fun c_42 => ?_) (fun c_42 => ?_)
      · refine x_ild3 (n := 49) dX3_archInOrder_48 rfl ?_
        refine x_ic1 (n := 50) dX3_archInOrder_49 rfl ?_
        refine x_ild4 (n := 52) dX3_archInOrder_50 rfl ?_
        refine x_ishl (n := 53) dX3_archInOrder_52 rfl ?_
        refine x_ior (n := 54) dX3_archInOrder_53 rfl ?_
        rw [zshl (by omega), zor, ← hsq]
        refine x_ist3 (n := 55) dX3_archInOrder_54 rfl (by decide) rfl ?_
        refine x_iincN5 (n := 58) (k := 1) dX3_archInOrder_55 rfl (by decide) rfl ?_
        refine x_goto (n := 25) dX3_archInOrder_58 (by decide) ?_
        have hx := ih (k + 1) (by omega) (by omega) (by omega)
        rw [Nat.add_sub_cancel, hgn] at hx
        exact hx
      · exfalso; rw [zeq, hnI, show (-1000000005 : Int32).toInt = -1000000005 by decide] at c_42; omega
theorem l0_X3_arch (hM : ShM Z mk) (hF : cmF I mk g) (hB : InvB g) {p n : Nat} (hn : n < vN g 7) (ht : ∀ j, j < 2 ^ vN g 7 → I (mk + 79) j = zb (gT g p j)) (hq : Q (some (.int (if gT g p 0 = true then oI (gNx (vN g 7) (gT g p) (gSq g p n)) else -1000000005))) Z I) : zX l G mX3_archInOrder 3 0 0 25 [some (.ref (mk + 75)), none, some (.int (nI n)), some (.int (nI 0)), some (.int (-1000000005)), some (.int (nI 0))] [] Z I Q := by
  have h8 := (iv7 hB).2
  have hp0 : 0 < 2 ^ vN g 7 := Nat.pos_of_ne_zero (by simp)
  have hne0 : ¬ (0 = 2 ^ vN g 7 - 1) := by have : 2 ^ 1 ≤ 2 ^ vN g 7 := Nat.pow_le_pow_right (by omega) (by omega); omega
  have hT0 := gT_eq (g := g) p (s := 0) (by omega)
  rw [decide_eq_false hne0, decide_eq_true rfl, Bool.true_or, Bool.true_and, Bool.false_or] at hT0
  cases hg0 : gNx (vN g 7) (gT g p) 0 with
  | none =>
    rw [hg0] at hT0
    have hT0' : gT g p 0 = false := hT0
    rw [if_neg (by rw [hT0']; decide)] at hq
    refine x_ild5 (n := 27) dX3_archInOrder_25 rfl ?_
    refine x_ild2 (n := 28) dX3_archInOrder_27 rfl ?_
    refine x_icmpN_gt (n := 31) (tgt := 61) dX3_archInOrder_28 rfl (by decide) (by omega) (by omega) (fun c_28 => ?_) (fun c_28 => ?_)
    · exact absurd c_28 (by omega)
    · refine x_ald0 (n := 32) dX3_archInOrder_31 rfl ?_
      refine x_ild3 (n := 33) dX3_archInOrder_32 rfl ?_
      refine x_cV1 (n := 36) (d' := 1) zcX3_firstWayOn mlX3_53 dX3_archInOrder_33 rfl (mK_Ma hM) (Nat.le_of_ble_eq_true rfl) (Nat.le_of_ble_eq_true rfl) ?_
      refine c_X3_firstWayOn (T := gT g p) hM hF hB hp0 (fun j hj hb => ht _ (zor_lt hp0 hj)) ?_
      rw [hg0]
      refine x_some ?_
      refine x_top (y := -1000000005) rfl ?_
      refine x_ist4 (n := 38) dX3_archInOrder_36 rfl (by decide) rfl ?_
      refine x_ild4 (n := 40) dX3_archInOrder_38 rfl ?_
      refine x_ldc (n := 42) dX3_archInOrder_40 rfl kiX3_38 ?_
      refine x_icmp_ne (n := 45) (tgt := 48) dX3_archInOrder_42 rfl (by decide) (fun c_42 => ?_) (fun c_42 => ?_)
      · exact absurd rfl c_42
      · refine x_ldc (n := 47) dX3_archInOrder_45 rfl kiX3_38 ?_
        refine r_iret dX3_archInOrder_47 rfl ?_
        exact hq
  | some k =>
    rw [hg0] at hT0
    have hT0' : gT g p 0 = true := hT0
    rw [if_pos hT0'] at hq
    have hk := (gNx_lt hg0).1
    obtain ⟨n2, hn2, hgn, hsq⟩ := gSq_next hT0' (k := 0) (by omega)
    have hs0 : gSq g p 0 = 0 := rfl
    have hnI : (nI n2).toInt = (n2 : Int) := nI_toInt (by omega)
    rw [hs0] at hgn hsq
    refine x_ild5 (n := 27) dX3_archInOrder_25 rfl ?_
    refine x_ild2 (n := 28) dX3_archInOrder_27 rfl ?_
    refine x_icmpN_gt (n := 31) (tgt := 61) dX3_archInOrder_28 rfl (by decide) (by omega) (by omega) (fun c_28 => ?_) (fun c_28 => ?_)
    · exact absurd c_28 (by omega)
    · refine x_ald0 (n := 32) dX3_archInOrder_31 rfl ?_
      refine x_ild3 (n := 33) dX3_archInOrder_32 rfl ?_
      refine x_cV1 (n := 36) (d' := 1) zcX3_firstWayOn mlX3_53 dX3_archInOrder_33 rfl (mK_Ma hM) (Nat.le_of_ble_eq_true rfl) (Nat.le_of_ble_eq_true rfl) ?_
      refine c_X3_firstWayOn (T := gT g p) hM hF hB hp0 (fun j hj hb => ht _ (zor_lt hp0 hj)) ?_
      rw [hgn]
      refine x_some ?_
      refine x_top (y := nI n2) rfl ?_
      refine x_ist4 (n := 38) dX3_archInOrder_36 rfl (by decide) rfl ?_
      refine x_ild4 (n := 40) dX3_archInOrder_38 rfl ?_
      refine x_ldc (n := 42) dX3_archInOrder_40 rfl kiX3_38 ?_
      refine x_icmp_ne (n := 45) (tgt := 48) dX3_archInOrder_42 rfl (by decide) (fun c_42 => ?_) (fun c_42 => ?_)
      · refine x_ild3 (n := 49) dX3_archInOrder_48 rfl ?_
        refine x_ic1 (n := 50) dX3_archInOrder_49 rfl ?_
        refine x_ild4 (n := 52) dX3_archInOrder_50 rfl ?_
        refine x_ishl (n := 53) dX3_archInOrder_52 rfl ?_
        refine x_ior (n := 54) dX3_archInOrder_53 rfl ?_
        rw [zshl (by omega), zor, ← hsq]
        refine x_ist3 (n := 55) dX3_archInOrder_54 rfl (by decide) rfl ?_
        refine x_iincN5 (n := 58) (k := 1) dX3_archInOrder_55 rfl (by decide) rfl ?_
        refine x_goto (n := 25) dX3_archInOrder_58 (by decide) ?_
        have hx := l_X3_archInOrder (l := l) (G := G) hM hF hB hT0' hn ht hq (n + 1) 1 (by omega) (by omega) (by omega)
        rw [Nat.sub_self, hs0, hgn] at hx
        exact hx
      · exfalso; rw [zeq, hnI, show (-1000000005 : Int32).toInt = -1000000005 by decide] at c_42; omega
theorem c_X3_archInOrder (hM : ShM Z mk) (hm : mk < 200) (hC : CM Z I mk g) (hB : InvB g) {p : Nat} {i : Int32} (hp : p < 10) (hi : 0 ≤ i) (hq : ∀ I', offM mk I I' → CM Z I' mk g → Q (some (.int (if gT g p 0 = true ∧ i < nI (vN g 7) then oI (gNx (vN g 7) (gT g p) (gSq g p (ix i))) else -1000000005))) Z I') : zM l G mX3_archInOrder 3 0 0 [.ref (mk + 75), .int (nI p), .int i] Z I Q := by
  refine x_entry [some (.ref (mk + 75)), some (.int (nI p)), some (.int i), none, none, none] 3 rfl rfl (Nat.le_of_ble_eq_true rfl) ?_
  have h1 := vF7 hC.2.2.2.2.2.2.1 hB
  have h8 := (iv7 hB).2
  have hp8 : 2 ^ vN g 7 ≤ 256 := Nat.pow_le_pow_right (n := 2) (i := vN g 7) (j := 8) (by omega) h8
  have hp0 : 0 < 2 ^ vN g 7 := Nat.pos_of_ne_zero (by simp)
  refine x_ild2 (n := 1) dX3_archInOrder_0 rfl ?_
  refine x_ald0 (n := 2) dX3_archInOrder_1 rfl ?_
  refine x_getI (n := 5) flX3_34 rfl dX3_archInOrder_2 rfl (mK_Ma hM) ?_
  rw [h1]
  refine x_icmp_lt (n := 8) (tgt := 11) dX3_archInOrder_5 rfl (by decide) (fun c_5 => ?_) (fun c_5 => ?_)
  · have hi2 := c_5
    rw [zlt, nI_toInt (by omega)] at hi2
    rw [zle, Int32.toInt_zero] at hi
    obtain ⟨n, hn, rfl⟩ := z_of (n := vN g 7) hi hi2
    rw [ix_nI (by omega)] at hq
    refine x_ald0 (n := 12) dX3_archInOrder_11 rfl ?_
    refine x_ild1 (n := 13) dX3_archInOrder_12 rfl ?_
    refine x_cV1 (n := 16) (d' := 2) zcX3_findWaysOn mlX3_49 dX3_archInOrder_13 rfl (mK_Ma hM) (Nat.le_of_ble_eq_true rfl) (Nat.le_of_ble_eq_true rfl) ?_
    refine c_X3_findWaysOn hM hC.2.2.2.2.2.2.1 hB hp (fun f hf => ?_)
    have hC2 : CM Z (va_up I (mk + 79) f) mk g := CM_up hC (by unfold cmOff; omega) hm
    have hq2 := hq _ (up1 (by omega) (by omega)) hC2
    have hF' : cmF (va_up I (mk + 79) f) mk g := hC2.2.2.2.2.2.2.1
    have ht : ∀ j, j < 2 ^ vN g 7 → va_up I (mk + 79) f (mk + 79) j = zb (gT g p j) := fun j hj => by rw [va_up_same]; exact hf j hj
    refine x_none ?_
    refine x_ic0 (n := 17) dX3_archInOrder_16 rfl ?_
    refine x_ist3 (n := 18) dX3_archInOrder_17 rfl (by decide) rfl ?_
    refine x_ldc (n := 20) dX3_archInOrder_18 rfl kiX3_38 ?_
    refine x_ist4 (n := 22) dX3_archInOrder_20 rfl (by decide) rfl ?_
    refine x_ic0 (n := 23) dX3_archInOrder_22 rfl ?_
    refine x_ist5 (n := 25) dX3_archInOrder_23 rfl (by decide) rfl ?_
    refine x_fg1 ?_
    refine l0_X3_arch hM hF' hB hn ht ?_
    by_cases hT0 : gT g p 0 = true
    · rw [if_pos hT0]; rw [if_pos ⟨hT0, c_5⟩] at hq2; exact hq2
    · rw [if_neg hT0]; rw [if_neg (fun h => hT0 h.1)] at hq2; exact hq2
  · refine x_ldc (n := 10) dX3_archInOrder_8 rfl kiX3_38 ?_
    refine r_iret dX3_archInOrder_10 rfl ?_
    rw [if_neg (fun h => c_5 h.2)] at hq; exact hq I offM_refl hC
theorem tL_order (hS : ShL Z) (hC : CM Z I 1 g) (hB : InvB g) {x i : Int32} (hq : ∀ I', offM 1 I I' → CM Z I' 1 g → Q (some (.int (f_order g x i))) Z I') : zM l G mX11_order 4 0 0 [.ref 0, .int x, .int i] Z I Q := by
  refine x_entry [some (.ref 0), some (.int x), some (.int i)] 0 rfl rfl (Nat.le_of_ble_eq_true rfl) ?_
  have hM := lM1 hS
  unfold f_order at hq
  refine x_ild1 (n := 1) dX11_order_0 rfl ?_
  refine x_ic0 (n := 2) dX11_order_1 rfl ?_
  refine x_bipush (n := 4) (v := nI 9) dX11_order_2 rfl (by decide) ?_
  refine x_cS3 (n := 7) (d' := 0) zcX11_inside mlX11_50 dX11_order_4 rfl (Nat.le_of_ble_eq_true rfl) (Nat.le_of_ble_eq_true rfl) ?_
  refine c_X11_inside (zin x 0 9) (by unfold zin; rfl) ?_
  refine x_some ?_
  refine x_zif_eq (n := 10) (tgt := 14) dX11_order_7 rfl (by decide) (fun c_7 => ?_) (fun c_7 => ?_)
  · refine x_ldc (n := 16) dX11_order_14 rfl kiX11_54 ?_
    refine r_iret dX11_order_16 rfl ?_
    first | (have h0 : zin x 0 9 = false := c_7; rw [if_neg (fun h => by rw [h0] at h; cases h.1)] at hq; exact hq I offM_refl hC) | (have h0 : ¬ 0 ≤ i := c_11; rw [if_neg (fun h => h0 h.2)] at hq; exact hq I offM_refl hC)
  · refine x_ild2 (n := 11) dX11_order_10 rfl ?_
    refine x_if_ge (n := 14) (tgt := 17) dX11_order_11 rfl (by decide) (fun c_11 => ?_) (fun c_11 => ?_)
    · rw [if_pos ⟨c_7, c_11⟩] at hq
      obtain ⟨p, hp, hp2, rfl⟩ := z_num 10 c_7 (by omega)
      rw [ix_nI (by omega)] at hq
      refine x_ald0 (n := 18) dX11_order_17 rfl ?_
      refine x_getR (n := 21) flX11_10 rfl dX11_order_18 rfl (lK_L hS) (lP_M hS) ?_
      refine x_getR (n := 24) flX11_289 rfl dX11_order_21 rfl (mK_M hM) (mP_Ma hM) ?_
      refine x_ild1 (n := 25) dX11_order_24 rfl ?_
      refine x_ild2 (n := 26) dX11_order_25 rfl ?_
      refine x_cV2 (n := 29) (d' := 3) zcX3_archInOrder mlX11_304 dX11_order_26 rfl (mK_Ma hM) (Nat.le_of_ble_eq_true rfl) (Nat.le_of_ble_eq_true rfl) ?_
      refine c_X3_archInOrder hM (by omega) hC hB (by omega) c_11 (fun I1 h1 h2 => ?_)
      refine x_some ?_
      refine r_iret dX11_order_29 rfl ?_
      exact hq I1 h1 h2
    · refine x_ldc (n := 16) dX11_order_14 rfl kiX11_54 ?_
      refine r_iret dX11_order_16 rfl ?_
      first | (have h0 : zin x 0 9 = false := c_7; rw [if_neg (fun h => by rw [h0] at h; cases h.1)] at hq; exact hq I offM_refl hC) | (have h0 : ¬ 0 ≤ i := c_11; rw [if_neg (fun h => h0 h.2)] at hq; exact hq I offM_refl hC)
end
