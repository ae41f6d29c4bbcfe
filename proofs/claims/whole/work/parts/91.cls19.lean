section
variable {l : Launch} {G : zG} {Z : zS} {I I' : zI} {g g' : Nat → Int32} {mk b : Nat} {Q : Option Value → zS → zI → Prop}
theorem zshort (v : Int32) : v.toInt16.toInt32 = v <<< (nI 16 &&& 31) >>> (nI 16 &&& 31) := by
  apply Int32.toBitVec_inj.mp
  rw [show (nI 16 &&& 31 : Int32) = 16 by decide]
  rw [Int32.toBitVec_shiftRight, Int32.toBitVec_shiftLeft, Int16.toBitVec_toInt32, Int32.toBitVec_toInt16]
  rw [show (16 : Int32).toBitVec.smod 32 = 16#32 by decide]
  generalize v.toBitVec = x
  rw [BitVec.sshiftRight_eq', BitVec.shiftLeft_eq']
  rw [show (16#32).toNat = 16 by decide]
  apply BitVec.eq_of_getLsbD_eq
  intro i hi
  simp only [BitVec.getLsbD_signExtend, BitVec.getLsbD_sshiftRight, BitVec.getLsbD_shiftLeft, BitVec.msb_eq_getLsbD_last]
  by_cases h : i < 16
  · simp [h, hi, show 16 + i < 32 by omega, show ¬ (16 + i < 16) by omega]
  · simp [h, hi, show ¬ 16 + i < 32 by omega]
theorem c_X5_begin (hV : ShV Z b) {s : Int32} {n : Nat} (hn : n ≤ 24) (hq : ∀ I', (∀ a, a ≠ b → a ≠ b + 1 → I' a = I a) → I' b 0 = s → I' b 1 = nI n → (∀ k, k < 24 → I' (b + 1) k = nI 0) → Q none Z I') : zM l G mX5_begin 2 0 0 [.ref b, .int s, .int (nI n)] Z I Q := by
  refine x_entry [some (.ref b), some (.int s), some (.int (nI n))] 0 rfl rfl (Nat.le_of_ble_eq_true rfl) ?_
  have hcl : clF (nI n) (nI 0) (nI 24) = nI n := Int32.toInt_inj.mp (by rw [clF_i, nI_toInt (n := n) (by omega), show (nI 0).toInt = 0 by decide, show (nI 24).toInt = 24 by decide]; omega)
  refine x_ald0 (n := 1) dX5_begin_0 rfl ?_
  refine x_ild1 (n := 2) dX5_begin_1 rfl ?_
  refine x_putI (n := 5) flX5_11 rfl (Or.inl rfl) rfl rfl dX5_begin_2 rfl hV.1 ?_
  refine x_ald0 (n := 6) dX5_begin_5 rfl ?_
  refine x_ild2 (n := 7) dX5_begin_6 rfl ?_
  refine x_ic0 (n := 8) dX5_begin_7 rfl ?_
  refine x_bipush (n := 10) (v := nI 24) dX5_begin_8 rfl (by decide) ?_
  refine x_cN3 (n := 13) (d' := 1) zcX11_clamp mnX5_19 dX5_begin_10 rfl (Nat.le_of_ble_eq_true rfl) (Nat.le_of_ble_eq_true rfl) ?_
  refine c_X11_clamp ?_
  rw [hcl]
  refine x_some ?_
  refine x_putI (n := 16) flX5_23 rfl (Or.inl rfl) rfl rfl dX5_begin_13 rfl hV.1 ?_
  refine x_ald0 (n := 17) dX5_begin_16 rfl ?_
  refine x_getR (n := 20) flX5_15 rfl dX5_begin_17 rfl hV.1 hV.2.1 ?_
  refine x_ic0 (n := 21) dX5_begin_20 rfl ?_
  refine x_cS2 (n := 24) (d' := 0) zcJ7_fill_53178 mlX5_26 dX5_begin_21 rfl (Nat.le_of_ble_eq_true rfl) (Nat.le_of_ble_eq_true rfl) ?_
  refine c_J7_fill_53178 hV.2.2 (Nat.le_of_ble_eq_true rfl) (fun f hf => ?_)
  refine x_none ?_
  refine r_vret dX5_begin_24 rfl ?_
  refine hq _ (fun a h1 h2 => ?_) ?_ ?_ (fun k hk => ?_)
  · rw [va_up_off h2, va_up_off h1, va_up_off h1]
  · rw [va_up_off (by omega), va_up_same, upd_off (by omega), va_up_same, upd_same]
  · rw [va_up_off (by omega), va_up_same, upd_same]
  · rw [va_up_same]; exact hf k hk
def fndF (s : Int32) (sz : Nat) (p : Int32) : Int32 := if s = -1 then -1000000011 else if zin p 0 ((sz : Int) - 1) = true then nI 0 else -1000000013
theorem c_X5_findingAt (hV : ShV Z b) {p : Int32} {sz : Nat} (hs : I b 1 = nI sz) (hs2 : sz ≤ 24) (hq : Q (some (.int (fndF (I b 0) sz p))) Z I) : zM l G mX5_findingAt 1 0 0 [.ref b, .int p] Z I Q := by
  refine x_entry [some (.ref b), some (.int p)] 0 rfl rfl (Nat.le_of_ble_eq_true rfl) ?_
  unfold fndF at hq
  refine x_ald0 (n := 1) dX5_findingAt_0 rfl ?_
  refine x_getI (n := 4) flX5_11 rfl dX5_findingAt_1 rfl hV.1 ?_
  refine x_icm1 (n := 5) dX5_findingAt_4 rfl ?_
  refine x_icmp_ne (n := 8) (tgt := 11) dX5_findingAt_5 rfl (by decide) (fun c_5 => ?_) (fun c_5 => ?_)
  · refine x_ild1 (n := 12) dX5_findingAt_11 rfl ?_
    refine x_ic0 (n := 13) dX5_findingAt_12 rfl ?_
    refine x_ald0 (n := 14) dX5_findingAt_13 rfl ?_
    refine x_getI (n := 17) flX5_23 rfl dX5_findingAt_14 rfl hV.1 ?_
    refine x_ic1 (n := 18) dX5_findingAt_17 rfl ?_
    rw [hs]
    refine x_isub (n := 19) dX5_findingAt_18 rfl ?_
    refine x_cN3 (n := 22) (d' := 0) zcX11_inside mnX5_33 dX5_findingAt_19 rfl (Nat.le_of_ble_eq_true rfl) (Nat.le_of_ble_eq_true rfl) ?_
    refine c_X11_inside (zin p 0 ((sz : Int) - 1)) (by unfold zin; rw [pk_sub_toInt (by omega) (by omega)]; rfl) ?_
    refine x_some ?_
    refine x_zif_eq (n := 25) (tgt := 29) dX5_findingAt_22 rfl (by decide) (fun c_22 => ?_) (fun c_22 => ?_)
    · refine x_ldc (n := 31) dX5_findingAt_29 rfl kiX5_37 ?_
      refine r_iret dX5_findingAt_31 rfl ?_
      rw [if_neg c_5] at hq
      first | (rw [if_pos c_22] at hq; exact hq) | (rw [if_neg (by rw [c_22]; decide)] at hq; exact hq)
    · refine x_ic0 (n := 26) dX5_findingAt_25 rfl ?_
      refine x_goto (n := 31) dX5_findingAt_26 (by decide) ?_
      refine r_iret dX5_findingAt_31 rfl ?_
      rw [if_neg c_5] at hq
      first | (rw [if_pos c_22] at hq; exact hq) | (rw [if_neg (by rw [c_22]; decide)] at hq; exact hq)
  · refine x_ldc (n := 10) dX5_findingAt_8 rfl kiX5_32 ?_
    refine r_iret dX5_findingAt_10 rfl ?_
    rw [if_pos c_5] at hq; exact hq
def hrF (sz : Nat) (p m : Int32) : Bool := decide (0 ≤ m.toInt ∧ 0 ≤ p.toInt ∧ p.toInt + m.toInt ≤ (sz : Int))
theorem c_X5_hasRun (hV : ShV Z b) {p m : Int32} {sz : Nat} (hs : I b 1 = nI sz) (hs2 : sz ≤ 24) (hq : Q (some (.int (zb (hrF sz p m)))) Z I) : zM l G mX5_hasRun 1 0 0 [.ref b, .int p, .int m] Z I Q := by
  refine x_entry [some (.ref b), some (.int p), some (.int m)] 0 rfl rfl (Nat.le_of_ble_eq_true rfl) ?_
  have hszI : (nI sz).toInt = (sz : Int) := nI_toInt (by omega)
  unfold hrF at hq
  refine x_ild2 (n := 1) dX5_hasRun_0 rfl ?_
  refine x_if_lt (n := 4) (tgt := 30) dX5_hasRun_1 rfl (by decide) (fun c_1 => ?_) (fun c_1 => ?_)
  · refine x_ic0 (n := 31) dX5_hasRun_30 rfl ?_
    refine r_zret dX5_hasRun_31 rfl (by first | exact nar0 | exact nar1 | exact zb_nar _) ?_
    (try rw [zlt, Int32.toInt_zero] at c_1)
    first
      | (have hz := zin_f c_13; rw [decide_eq_false (by omega)] at hq; exact hq)
      | (have hz := zin_t c_13
         obtain ⟨k, hk, rfl⟩ := z_of (n := 25) hz.1 (by omega)
         rw [nI_toInt (by omega)] at hz hq
         rw [zlt, pk_sub_toInt (by omega) (by omega)] at c_23
         first | (rw [decide_eq_true (by omega)] at hq; exact hq) | (rw [decide_eq_false (by omega)] at hq; exact hq))
      | (rw [decide_eq_false (by omega)] at hq; exact hq)
  · refine x_ild1 (n := 5) dX5_hasRun_4 rfl ?_
    refine x_ic0 (n := 6) dX5_hasRun_5 rfl ?_
    refine x_ald0 (n := 7) dX5_hasRun_6 rfl ?_
    refine x_getI (n := 10) flX5_23 rfl dX5_hasRun_7 rfl hV.1 ?_
    rw [hs]
    refine x_cN3 (n := 13) (d' := 0) zcX11_inside mnX5_33 dX5_hasRun_10 rfl (Nat.le_of_ble_eq_true rfl) (Nat.le_of_ble_eq_true rfl) ?_
    refine c_X11_inside (zin p 0 (sz : Int)) (by unfold zin; rw [hszI]; rfl) ?_
    refine x_some ?_
    refine x_zif_eq (n := 16) (tgt := 30) dX5_hasRun_13 rfl (by decide) (fun c_13 => ?_) (fun c_13 => ?_)
    · refine x_ic0 (n := 31) dX5_hasRun_30 rfl ?_
      refine r_zret dX5_hasRun_31 rfl (by first | exact nar0 | exact nar1 | exact zb_nar _) ?_
      (try rw [zlt, Int32.toInt_zero] at c_1)
      first
        | (have hz := zin_f c_13; rw [decide_eq_false (by omega)] at hq; exact hq)
        | (have hz := zin_t c_13
           obtain ⟨k, hk, rfl⟩ := z_of (n := 25) hz.1 (by omega)
           rw [nI_toInt (by omega)] at hz hq
           rw [zlt, pk_sub_toInt (by omega) (by omega)] at c_23
           first | (rw [decide_eq_true (by omega)] at hq; exact hq) | (rw [decide_eq_false (by omega)] at hq; exact hq))
        | (rw [decide_eq_false (by omega)] at hq; exact hq)
    · refine x_ild2 (n := 17) dX5_hasRun_16 rfl ?_
      refine x_ald0 (n := 18) dX5_hasRun_17 rfl ?_
      refine x_getI (n := 21) flX5_23 rfl dX5_hasRun_18 rfl hV.1 ?_
      refine x_ild1 (n := 22) dX5_hasRun_21 rfl ?_
      rw [hs]
      refine x_isub (n := 23) dX5_hasRun_22 rfl ?_
      refine x_icmp_gt (n := 26) (tgt := 30) dX5_hasRun_23 rfl (by decide) (fun c_23 => ?_) (fun c_23 => ?_)
      · refine x_ic0 (n := 31) dX5_hasRun_30 rfl ?_
        refine r_zret dX5_hasRun_31 rfl (by first | exact nar0 | exact nar1 | exact zb_nar _) ?_
        (try rw [zlt, Int32.toInt_zero] at c_1)
        first
          | (have hz := zin_f c_13; rw [decide_eq_false (by omega)] at hq; exact hq)
          | (have hz := zin_t c_13
             obtain ⟨k, hk, rfl⟩ := z_of (n := 25) hz.1 (by omega)
             rw [nI_toInt (by omega)] at hz hq
             rw [zlt, pk_sub_toInt (by omega) (by omega)] at c_23
             first | (rw [decide_eq_true (by omega)] at hq; exact hq) | (rw [decide_eq_false (by omega)] at hq; exact hq))
          | (rw [decide_eq_false (by omega)] at hq; exact hq)
      · refine x_ic1 (n := 27) dX5_hasRun_26 rfl ?_
        refine x_goto (n := 31) dX5_hasRun_27 (by decide) ?_
        refine r_zret dX5_hasRun_31 rfl (by first | exact nar0 | exact nar1 | exact zb_nar _) ?_
        (try rw [zlt, Int32.toInt_zero] at c_1)
        first
          | (have hz := zin_f c_13; rw [decide_eq_false (by omega)] at hq; exact hq)
          | (have hz := zin_t c_13
             obtain ⟨k, hk, rfl⟩ := z_of (n := 25) hz.1 (by omega)
             rw [nI_toInt (by omega)] at hz hq
             rw [zlt, pk_sub_toInt (by omega) (by omega)] at c_23
             first | (rw [decide_eq_true (by omega)] at hq; exact hq) | (rw [decide_eq_false (by omega)] at hq; exact hq))
          | (rw [decide_eq_false (by omega)] at hq; exact hq)
/-- up from k -/
theorem l_nearU5 (hV : ShV Z b) {p sz : Nat} (hs : I b 1 = nI sz) (hs2 : sz ≤ 24) (hp : p < sz) (hq : Q (some (.int (oN (nrU (I (b + 1)) 0 (sz - p) p)))) Z I) : ∀ m k, k ≤ sz → sz - k < m → nrU (I (b + 1)) 0 (sz - p) p = nrU (I (b + 1)) 0 (sz - p - k) (p + k) → zX l G mX5_nearest 1 0 0 2 [some (.ref b), some (.int (nI p)), some (.int (nI 1)), some (.int (nI k)), none] [] Z I Q := by
  intro m
  induction m with
  | zero => intro k _ h; exact absurd h (by omega)
  | succ m ih =>
    intro k hk hm he
    have hpI : (nI (p + k)).toInt = ((p + k : Nat) : Int) := nI_toInt (by omega)
    have hmul : nI p + nI k * nI 1 = nI (p + k) := by rw [pk_mul, Nat.mul_one, nI_add]
    refine x_ild3 (n := 3) dX5_nearest_2 rfl ?_
    refine x_ald0 (n := 4) dX5_nearest_3 rfl ?_
    refine x_getI (n := 7) flX5_23 rfl dX5_nearest_4 rfl hV.1 ?_
    rw [hs]
    refine x_icmpN_ge (n := 10) (tgt := 53) dX5_nearest_7 rfl (by decide) (by omega) (by omega) (fun c_7 => ?_) (fun c_7 => ?_)
    · refine x_ldc (n := 55) dX5_nearest_53 rfl kiX5_38 ?_
      refine r_iret dX5_nearest_55 rfl ?_
      rw [he, show sz - p - k = 0 by omega] at hq; exact hq
    · refine x_ild1 (n := 11) dX5_nearest_10 rfl ?_
      refine x_ild3 (n := 12) dX5_nearest_11 rfl ?_
      refine x_ild2 (n := 13) dX5_nearest_12 rfl ?_
      refine x_imulN (n := 14) dX5_nearest_13 rfl ?_
      refine x_iaddN (n := 15) dX5_nearest_14 rfl ?_
      rw [Nat.mul_one]
      refine x_ist4 (n := 17) dX5_nearest_15 rfl (by decide) rfl ?_
      refine x_ild4 (n := 19) dX5_nearest_17 rfl ?_
      refine x_ic0 (n := 20) dX5_nearest_19 rfl ?_
      refine x_ald0 (n := 21) dX5_nearest_20 rfl ?_
      refine x_getI (n := 24) flX5_23 rfl dX5_nearest_21 rfl hV.1 ?_
      refine x_ic1 (n := 25) dX5_nearest_24 rfl ?_
      rw [hs]
      refine x_isub (n := 26) dX5_nearest_25 rfl ?_
      refine x_cN3 (n := 29) (d' := 0) zcX11_inside mnX5_33 dX5_nearest_26 rfl (Nat.le_of_ble_eq_true rfl) (Nat.le_of_ble_eq_true rfl) ?_
      refine c_X11_inside (decide (p + k < sz)) (by rw [hpI, pk_sub_toInt (by omega) (by omega)]; congr 1; exact propext ⟨fun h => ⟨by show (0 : Int) ≤ _; omega, by omega⟩, fun h => by have := h.2; omega⟩) ?_
      refine x_some ?_
      refine x_zif_eq (n := 32) (tgt := 47) dX5_nearest_29 rfl (by decide) (fun c_29 => ?_) (fun c_29 => ?_)
      · refine x_iincN3 (n := 50) (k := 1) dX5_nearest_47 rfl (by decide) rfl ?_
        refine x_goto (n := 2) dX5_nearest_50 (by decide) ?_
        refine x_fg4 (ih (k + 1) (by omega) (by omega) ?_)
        first
          | (have hnl := of_decide_eq_false c_29; rw [he, show sz - p - k = 0 by omega, show sz - p - (k + 1) = 0 by omega]; rfl)
          | (rw [he, hst, if_pos c_41])
      · have hlt := of_decide_eq_true c_29
        have hst : nrU (I (b + 1)) 0 (sz - p - k) (p + k) = if I (b + 1) (0 + (p + k)) = -1000000005 then nrU (I (b + 1)) 0 (sz - p - (k + 1)) (p + (k + 1)) else some (p + k) := by rw [show sz - p - k = sz - p - (k + 1) + 1 by omega]; rfl
        rw [Nat.zero_add] at hst
        refine x_ald0 (n := 33) dX5_nearest_32 rfl ?_
        refine x_getR (n := 36) flX5_15 rfl dX5_nearest_33 rfl hV.1 hV.2.1 ?_
        refine x_ild4 (n := 38) dX5_nearest_36 rfl ?_
        refine x_ialdN (n := 39) dX5_nearest_38 rfl hV.2.2 (Nat.le_of_ble_eq_true rfl) (by omega) ?_
        refine x_ldc (n := 41) dX5_nearest_39 rfl kiX5_38 ?_
        refine x_icmp_eq (n := 44) (tgt := 47) dX5_nearest_41 rfl (by decide) (fun c_41 => ?_) (fun c_41 => ?_)
        · refine x_iincN3 (n := 50) (k := 1) dX5_nearest_47 rfl (by decide) rfl ?_
          refine x_goto (n := 2) dX5_nearest_50 (by decide) ?_
          refine x_fg4 (ih (k + 1) (by omega) (by omega) ?_)
          first
            | (have hnl := of_decide_eq_false c_29; rw [he, show sz - p - k = 0 by omega, show sz - p - (k + 1) = 0 by omega]; rfl)
            | (rw [he, hst, if_pos c_41])
        · refine x_ild4 (n := 46) dX5_nearest_44 rfl ?_
          refine r_iret dX5_nearest_46 rfl ?_
          rw [he, hst, if_neg c_41] at hq; exact hq
theorem l_nearD5 (hV : ShV Z b) {p sz : Nat} (hs : I b 1 = nI sz) (hs2 : sz ≤ 24) (hp : p < sz) (hq : Q (some (.int (oN (nrD (I (b + 1)) 0 (p + 1))))) Z I) : ∀ m k, k ≤ sz → sz - k < m → nrD (I (b + 1)) 0 (p + 1) = nrD (I (b + 1)) 0 (p + 1 - k) → zX l G mX5_nearest 1 0 0 2 [some (.ref b), some (.int (nI p)), some (.int (-1)), some (.int (nI k)), none] [] Z I Q := by
  intro m
  induction m with
  | zero => intro k _ h; exact absurd h (by omega)
  | succ m ih =>
    intro k hk hm he
    have hmul : nI p + nI k * (-1) = nI p - nI k := by rw [Int32.sub_eq_add_neg]; rw [Int32.mul_neg, Int32.mul_one]
    have hsI := pk_sub_toInt (a := p) (b := k) (by omega) (by omega)
    refine x_ild3 (n := 3) dX5_nearest_2 rfl ?_
    refine x_ald0 (n := 4) dX5_nearest_3 rfl ?_
    refine x_getI (n := 7) flX5_23 rfl dX5_nearest_4 rfl hV.1 ?_
    rw [hs]
    refine x_icmpN_ge (n := 10) (tgt := 53) dX5_nearest_7 rfl (by decide) (by omega) (by omega) (fun c_7 => ?_) (fun c_7 => ?_)
    · refine x_ldc (n := 55) dX5_nearest_53 rfl kiX5_38 ?_
      refine r_iret dX5_nearest_55 rfl ?_
      rw [he, show p + 1 - k = 0 by omega] at hq; exact hq
    · refine x_ild1 (n := 11) dX5_nearest_10 rfl ?_
      refine x_ild3 (n := 12) dX5_nearest_11 rfl ?_
      refine x_ild2 (n := 13) dX5_nearest_12 rfl ?_
      refine x_imul (n := 14) dX5_nearest_13 rfl ?_
      refine x_iadd (n := 15) dX5_nearest_14 rfl ?_
      rw [hmul]
      refine x_ist4 (n := 17) dX5_nearest_15 rfl (by decide) rfl ?_
      refine x_ild4 (n := 19) dX5_nearest_17 rfl ?_
      refine x_ic0 (n := 20) dX5_nearest_19 rfl ?_
      refine x_ald0 (n := 21) dX5_nearest_20 rfl ?_
      refine x_getI (n := 24) flX5_23 rfl dX5_nearest_21 rfl hV.1 ?_
      refine x_ic1 (n := 25) dX5_nearest_24 rfl ?_
      rw [hs]
      refine x_isub (n := 26) dX5_nearest_25 rfl ?_
      refine x_cN3 (n := 29) (d' := 0) zcX11_inside mnX5_33 dX5_nearest_26 rfl (Nat.le_of_ble_eq_true rfl) (Nat.le_of_ble_eq_true rfl) ?_
      refine c_X11_inside (decide (k ≤ p)) (by rw [hsI, pk_sub_toInt (by omega) (by omega)]; congr 1; exact propext ⟨fun h => ⟨by show (0 : Int) ≤ _; omega, by omega⟩, fun h => by have h2 : (0 : Int) ≤ (p : Int) - k := h.1; omega⟩) ?_
      refine x_some ?_
      refine x_zif_eq (n := 32) (tgt := 47) dX5_nearest_29 rfl (by decide) (fun c_29 => ?_) (fun c_29 => ?_)
      · refine x_iincN3 (n := 50) (k := 1) dX5_nearest_47 rfl (by decide) rfl ?_
        refine x_goto (n := 2) dX5_nearest_50 (by decide) ?_
        refine x_fg4 (ih (k + 1) (by omega) (by omega) ?_)
        first
          | (have hnl := of_decide_eq_false c_29; rw [he, show p + 1 - k = 0 by omega, show p + 1 - (k + 1) = 0 by omega])
          | (rw [he, hst, if_pos c_41])
      · have hle := of_decide_eq_true c_29
        rw [pk_sub hle]
        have hst : nrD (I (b + 1)) 0 (p + 1 - k) = if I (b + 1) (0 + (p - k)) = -1000000005 then nrD (I (b + 1)) 0 (p + 1 - (k + 1)) else some (p - k) := by rw [show p + 1 - k = (p - k) + 1 by omega, show p + 1 - (k + 1) = p - k by omega]; rfl
        rw [Nat.zero_add] at hst
        refine x_ald0 (n := 33) dX5_nearest_32 rfl ?_
        refine x_getR (n := 36) flX5_15 rfl dX5_nearest_33 rfl hV.1 hV.2.1 ?_
        refine x_ild4 (n := 38) dX5_nearest_36 rfl ?_
        refine x_ialdN (n := 39) dX5_nearest_38 rfl hV.2.2 (Nat.le_of_ble_eq_true rfl) (by omega) ?_
        refine x_ldc (n := 41) dX5_nearest_39 rfl kiX5_38 ?_
        refine x_icmp_eq (n := 44) (tgt := 47) dX5_nearest_41 rfl (by decide) (fun c_41 => ?_) (fun c_41 => ?_)
        · refine x_iincN3 (n := 50) (k := 1) dX5_nearest_47 rfl (by decide) rfl ?_
          refine x_goto (n := 2) dX5_nearest_50 (by decide) ?_
          refine x_fg4 (ih (k + 1) (by omega) (by omega) ?_)
          first
            | (have hnl := of_decide_eq_false c_29; rw [he, show p + 1 - k = 0 by omega, show p + 1 - (k + 1) = 0 by omega])
            | (rw [he, hst, if_pos c_41])
        · refine x_ild4 (n := 46) dX5_nearest_44 rfl ?_
          refine r_iret dX5_nearest_46 rfl ?_
          rw [he, hst, if_neg c_41] at hq; exact hq
theorem c_nearU5 (hV : ShV Z b) {p sz : Nat} (hs : I b 1 = nI sz) (hs2 : sz ≤ 24) (hp : p < sz) (hq : Q (some (.int (oN (nrU (I (b + 1)) 0 (sz - p) p)))) Z I) : zM l G mX5_nearest 1 0 0 [.ref b, .int (nI p), .int (nI 1)] Z I Q := by
  refine x_entry [some (.ref b), some (.int (nI p)), some (.int (nI 1)), none, none] 2 rfl rfl (Nat.le_of_ble_eq_true rfl) ?_
  refine x_ic0 (n := 1) dX5_nearest_0 rfl ?_
  refine x_ist3 (n := 2) dX5_nearest_1 rfl (by decide) rfl ?_
  exact l_nearU5 hV hs hs2 hp hq (sz + 1) 0 (by omega) (by omega) rfl
theorem c_nearD5 (hV : ShV Z b) {p sz : Nat} (hs : I b 1 = nI sz) (hs2 : sz ≤ 24) (hp : p < sz) (hq : Q (some (.int (oN (nrD (I (b + 1)) 0 (p + 1))))) Z I) : zM l G mX5_nearest 1 0 0 [.ref b, .int (nI p), .int (-1)] Z I Q := by
  refine x_entry [some (.ref b), some (.int (nI p)), some (.int (-1)), none, none] 2 rfl rfl (Nat.le_of_ble_eq_true rfl) ?_
  refine x_ic0 (n := 1) dX5_nearest_0 rfl ?_
  refine x_ist3 (n := 2) dX5_nearest_1 rfl (by decide) rfl ?_
  exact l_nearD5 hV hs hs2 hp hq (sz + 1) 0 (by omega) (by omega) rfl
theorem c_X5_valueAt (hV : ShV Z b) {p sz : Nat} (hs : I b 1 = nI sz) (hs2 : sz ≤ 24) (hp : p < sz) (hq : Q (some (.int (readF (I (b + 1)) 0 sz p))) Z I) : zM l G mX5_valueAt 2 0 0 [.ref b, .int (nI p)] Z I Q := by
  refine x_entry [some (.ref b), some (.int (nI p)), none, none, none] 3 rfl rfl (Nat.le_of_ble_eq_true rfl) ?_
  have hnN : (-1000000005 : Int32).toInt = -1000000005 := by decide
  unfold readF at hq
  cases hd : nrD (I (b + 1)) 0 (p + 1) with
  | none =>
    cases hu : nrU (I (b + 1)) 0 (sz - p) p with
    | none =>
      rw [hd, hu] at hq
      refine x_ald0 (n := 1) dX5_valueAt_0 rfl ?_
      refine x_ild1 (n := 2) dX5_valueAt_1 rfl ?_
      refine x_icm1 (n := 3) dX5_valueAt_2 rfl ?_
      refine x_cV2 (n := 6) (d' := 1) zcX5_nearest mlX5_47 dX5_valueAt_3 rfl hV.1 (Nat.le_of_ble_eq_true rfl) (Nat.le_of_ble_eq_true rfl) ?_
      refine c_nearD5 hV hs hs2 hp ?_
      rw [hd]
      refine x_some ?_
      refine x_top (y := -1000000005) rfl ?_
      refine x_ist2 (n := 7) dX5_valueAt_6 rfl (by decide) rfl ?_
      refine x_ald0 (n := 8) dX5_valueAt_7 rfl ?_
      refine x_ild1 (n := 9) dX5_valueAt_8 rfl ?_
      refine x_ic1 (n := 10) dX5_valueAt_9 rfl ?_
      refine x_cV2 (n := 13) (d' := 1) zcX5_nearest mlX5_47 dX5_valueAt_10 rfl hV.1 (Nat.le_of_ble_eq_true rfl) (Nat.le_of_ble_eq_true rfl) ?_
      refine c_nearU5 hV hs hs2 hp ?_
      rw [hu]
      refine x_some ?_
      refine x_top (y := -1000000005) rfl ?_
      refine x_ist3 (n := 14) dX5_valueAt_13 rfl (by decide) rfl ?_
      refine x_ild2 (n := 15) dX5_valueAt_14 rfl ?_
      refine x_ldc (n := 17) dX5_valueAt_15 rfl kiX5_38 ?_
      refine x_icmp_ne (n := 20) (tgt := 29) dX5_valueAt_17 rfl (by decide) (fun c_17 => ?_) (fun c_17 => ?_)
      · exact absurd rfl c_17
      · refine x_ild3 (n := 21) dX5_valueAt_20 rfl ?_
        refine x_ldc (n := 23) dX5_valueAt_21 rfl kiX5_38 ?_
        refine x_icmp_ne (n := 26) (tgt := 29) dX5_valueAt_23 rfl (by decide) (fun c_23 => ?_) (fun c_23 => ?_)
        · exact absurd rfl c_23
        · refine x_ldc (n := 28) dX5_valueAt_26 rfl kiX5_39 ?_
          refine r_iret dX5_valueAt_28 rfl ?_
          exact hq
    | some j =>
      have hj := nrU_in hu
      have hjI : (nI j).toInt = (j : Int) := nI_toInt (by omega)
      rw [hd, hu] at hq
      have hq' : Q (some (.int (I (b + 1) (0 + j)))) Z I := hq
      rw [Nat.zero_add] at hq'
      refine x_ald0 (n := 1) dX5_valueAt_0 rfl ?_
      refine x_ild1 (n := 2) dX5_valueAt_1 rfl ?_
      refine x_icm1 (n := 3) dX5_valueAt_2 rfl ?_
      refine x_cV2 (n := 6) (d' := 1) zcX5_nearest mlX5_47 dX5_valueAt_3 rfl hV.1 (Nat.le_of_ble_eq_true rfl) (Nat.le_of_ble_eq_true rfl) ?_
      refine c_nearD5 hV hs hs2 hp ?_
      rw [hd]
      refine x_some ?_
      refine x_top (y := -1000000005) rfl ?_
      refine x_ist2 (n := 7) dX5_valueAt_6 rfl (by decide) rfl ?_
      refine x_ald0 (n := 8) dX5_valueAt_7 rfl ?_
      refine x_ild1 (n := 9) dX5_valueAt_8 rfl ?_
      refine x_ic1 (n := 10) dX5_valueAt_9 rfl ?_
      refine x_cV2 (n := 13) (d' := 1) zcX5_nearest mlX5_47 dX5_valueAt_10 rfl hV.1 (Nat.le_of_ble_eq_true rfl) (Nat.le_of_ble_eq_true rfl) ?_
      refine c_nearU5 hV hs hs2 hp ?_
      rw [hu]
      refine x_some ?_
      refine x_top (y := nI j) rfl ?_
      refine x_ist3 (n := 14) dX5_valueAt_13 rfl (by decide) rfl ?_
      refine x_ild2 (n := 15) dX5_valueAt_14 rfl ?_
      refine x_ldc (n := 17) dX5_valueAt_15 rfl kiX5_38 ?_
      refine x_icmp_ne (n := 20) (tgt := 29) dX5_valueAt_17 rfl (by decide) (fun c_17 => ?_) (fun c_17 => ?_)
      · exact absurd rfl c_17
      · refine x_ild3 (n := 21) dX5_valueAt_20 rfl ?_
        refine x_ldc (n := 23) dX5_valueAt_21 rfl kiX5_38 ?_
        refine x_icmp_ne (n := 26) (tgt := 29) dX5_valueAt_23 rfl (by decide) (fun c_23 => ?_) (fun c_23 => ?_)
        · refine x_ild2 (n := 30) dX5_valueAt_29 rfl ?_
          refine x_ldc (n := 32) dX5_valueAt_30 rfl kiX5_38 ?_
          refine x_icmp_eq (n := 35) (tgt := 41) dX5_valueAt_32 rfl (by decide) (fun c_32 => ?_) (fun c_32 => ?_)
          · refine x_ald0 (n := 42) dX5_valueAt_41 rfl ?_
            refine x_getR (n := 45) flX5_15 rfl dX5_valueAt_42 rfl hV.1 hV.2.1 ?_
            refine x_ild2 (n := 46) dX5_valueAt_45 rfl ?_
            refine x_ldc (n := 48) dX5_valueAt_46 rfl kiX5_38 ?_
            refine x_icmp_ne (n := 51) (tgt := 55) dX5_valueAt_48 rfl (by decide) (fun c_48 => ?_) (fun c_48 => ?_)
            · exact absurd rfl c_48
            · refine x_ild3 (n := 52) dX5_valueAt_51 rfl ?_
              refine x_goto (n := 56) dX5_valueAt_52 (by decide) ?_
              refine x_ialdN (n := 57) dX5_valueAt_56 rfl hV.2.2 (Nat.le_of_ble_eq_true rfl) (by omega) ?_
              refine r_iret dX5_valueAt_57 rfl ?_
              exact hq'
          · exact absurd rfl c_32
        · exfalso; rw [zeq, hjI, hnN] at c_23; omega
  | some i =>
    have hi := nrD_in hd
    have hiI : (nI i).toInt = (i : Int) := nI_toInt (by omega)
    cases hu : nrU (I (b + 1)) 0 (sz - p) p with
    | none =>
      rw [hd, hu] at hq
      have hq' : Q (some (.int (I (b + 1) (0 + i)))) Z I := hq
      rw [Nat.zero_add] at hq'
      refine x_ald0 (n := 1) dX5_valueAt_0 rfl ?_
      refine x_ild1 (n := 2) dX5_valueAt_1 rfl ?_
      refine x_icm1 (n := 3) dX5_valueAt_2 rfl ?_
      refine x_cV2 (n := 6) (d' := 1) zcX5_nearest mlX5_47 dX5_valueAt_3 rfl hV.1 (Nat.le_of_ble_eq_true rfl) (Nat.le_of_ble_eq_true rfl) ?_
      refine c_nearD5 hV hs hs2 hp ?_
      rw [hd]
      refine x_some ?_
      refine x_top (y := nI i) rfl ?_
      refine x_ist2 (n := 7) dX5_valueAt_6 rfl (by decide) rfl ?_
      refine x_ald0 (n := 8) dX5_valueAt_7 rfl ?_
      refine x_ild1 (n := 9) dX5_valueAt_8 rfl ?_
      refine x_ic1 (n := 10) dX5_valueAt_9 rfl ?_
      refine x_cV2 (n := 13) (d' := 1) zcX5_nearest mlX5_47 dX5_valueAt_10 rfl hV.1 (Nat.le_of_ble_eq_true rfl) (Nat.le_of_ble_eq_true rfl) ?_
      refine c_nearU5 hV hs hs2 hp ?_
      rw [hu]
      refine x_some ?_
      refine x_top (y := -1000000005) rfl ?_
      refine x_ist3 (n := 14) dX5_valueAt_13 rfl (by decide) rfl ?_
      refine x_ild2 (n := 15) dX5_valueAt_14 rfl ?_
      refine x_ldc (n := 17) dX5_valueAt_15 rfl kiX5_38 ?_
      refine x_icmp_ne (n := 20) (tgt := 29) dX5_valueAt_17 rfl (by decide) (fun c_17 => ?_) (fun c_17 => ?_)
      · refine x_ild2 (n := 30) dX5_valueAt_29 rfl ?_
        refine x_ldc (n := 32) dX5_valueAt_30 rfl kiX5_38 ?_
        refine x_icmp_eq (n := 35) (tgt := 41) dX5_valueAt_32 rfl (by decide) (fun c_32 => ?_) (fun c_32 => ?_)
        · exfalso; rw [zeq, hiI, hnN] at c_32; omega
        · refine x_ild3 (n := 36) dX5_valueAt_35 rfl ?_
          refine x_ldc (n := 38) dX5_valueAt_36 rfl kiX5_38 ?_
          refine x_icmp_ne (n := 41) (tgt := 58) dX5_valueAt_38 rfl (by decide) (fun c_38 => ?_) (fun c_38 => ?_)
          · exact absurd rfl c_38
          · refine x_ald0 (n := 42) dX5_valueAt_41 rfl ?_
            refine x_getR (n := 45) flX5_15 rfl dX5_valueAt_42 rfl hV.1 hV.2.1 ?_
            refine x_ild2 (n := 46) dX5_valueAt_45 rfl ?_
            refine x_ldc (n := 48) dX5_valueAt_46 rfl kiX5_38 ?_
            refine x_icmp_ne (n := 51) (tgt := 55) dX5_valueAt_48 rfl (by decide) (fun c_48 => ?_) (fun c_48 => ?_)
            · refine x_ild2 (n := 56) dX5_valueAt_55 rfl ?_
              refine x_ialdN (n := 57) dX5_valueAt_56 rfl hV.2.2 (Nat.le_of_ble_eq_true rfl) (by omega) ?_
              refine r_iret dX5_valueAt_57 rfl ?_
              exact hq'
            · exfalso; rw [zeq, hiI, hnN] at c_48; omega
      · exfalso; rw [zeq, hiI, hnN] at c_17; omega
    | some j =>
      have hj := nrU_in hu
      have hjI : (nI j).toInt = (j : Int) := nI_toInt (by omega)
      rw [hd, hu] at hq
      have hq' : Q (some (.int (if i = j then I (b + 1) (0 + i) else (I (b + 1) (0 + i) * nI (j - p) + I (b + 1) (0 + j) * nI (p - i)) / nI (j - i)))) Z I := hq
      rw [Nat.zero_add, Nat.zero_add] at hq'
      refine x_ald0 (n := 1) dX5_valueAt_0 rfl ?_
      refine x_ild1 (n := 2) dX5_valueAt_1 rfl ?_
      refine x_icm1 (n := 3) dX5_valueAt_2 rfl ?_
      refine x_cV2 (n := 6) (d' := 1) zcX5_nearest mlX5_47 dX5_valueAt_3 rfl hV.1 (Nat.le_of_ble_eq_true rfl) (Nat.le_of_ble_eq_true rfl) ?_
      refine c_nearD5 hV hs hs2 hp ?_
      rw [hd]
      refine x_some ?_
      refine x_top (y := nI i) rfl ?_
      refine x_ist2 (n := 7) dX5_valueAt_6 rfl (by decide) rfl ?_
      refine x_ald0 (n := 8) dX5_valueAt_7 rfl ?_
      refine x_ild1 (n := 9) dX5_valueAt_8 rfl ?_
      refine x_ic1 (n := 10) dX5_valueAt_9 rfl ?_
      refine x_cV2 (n := 13) (d' := 1) zcX5_nearest mlX5_47 dX5_valueAt_10 rfl hV.1 (Nat.le_of_ble_eq_true rfl) (Nat.le_of_ble_eq_true rfl) ?_
      refine c_nearU5 hV hs hs2 hp ?_
      rw [hu]
      refine x_some ?_
      refine x_top (y := nI j) rfl ?_
      refine x_ist3 (n := 14) dX5_valueAt_13 rfl (by decide) rfl ?_
      refine x_ild2 (n := 15) dX5_valueAt_14 rfl ?_
      refine x_ldc (n := 17) dX5_valueAt_15 rfl kiX5_38 ?_
      refine x_icmp_ne (n := 20) (tgt := 29) dX5_valueAt_17 rfl (by decide) (fun c_17 => ?_) (fun c_17 => ?_)
      · refine x_ild2 (n := 30) dX5_valueAt_29 rfl ?_
        refine x_ldc (n := 32) dX5_valueAt_30 rfl kiX5_38 ?_
        refine x_icmp_eq (n := 35) (tgt := 41) dX5_valueAt_32 rfl (by decide) (fun c_32 => ?_) (fun c_32 => ?_)
        · exfalso; rw [zeq, hiI, hnN] at c_32; omega
        · refine x_ild3 (n := 36) dX5_valueAt_35 rfl ?_
          refine x_ldc (n := 38) dX5_valueAt_36 rfl kiX5_38 ?_
          refine x_icmp_ne (n := 41) (tgt := 58) dX5_valueAt_38 rfl (by decide) (fun c_38 => ?_) (fun c_38 => ?_)
          · refine x_ild3 (n := 59) dX5_valueAt_58 rfl ?_
            refine x_ild2 (n := 60) dX5_valueAt_59 rfl ?_
            refine x_isubN (n := 61) dX5_valueAt_60 rfl (by omega) ?_
            refine x_ist4 (n := 63) dX5_valueAt_61 rfl (by decide) rfl ?_
            refine x_ild4 (n := 65) dX5_valueAt_63 rfl ?_
            have hji : (nI (j - i)).toInt = ((j - i : Nat) : Int) := nI_toInt (by omega)
            refine x_if_gt (n := 68) (tgt := 75) dX5_valueAt_65 rfl (by decide) (fun c_65 => ?_) (fun c_65 => ?_)
            · refine x_ald0 (n := 76) dX5_valueAt_75 rfl ?_
              refine x_getR (n := 79) flX5_15 rfl dX5_valueAt_76 rfl hV.1 hV.2.1 ?_
              refine x_ild2 (n := 80) dX5_valueAt_79 rfl ?_
              refine x_ialdN (n := 81) dX5_valueAt_80 rfl hV.2.2 (Nat.le_of_ble_eq_true rfl) (by omega) ?_
              refine x_ild3 (n := 82) dX5_valueAt_81 rfl ?_
              refine x_ild1 (n := 83) dX5_valueAt_82 rfl ?_
              refine x_isubN (n := 84) dX5_valueAt_83 rfl (by omega) ?_
              refine x_imul (n := 85) dX5_valueAt_84 rfl ?_
              refine x_ald0 (n := 86) dX5_valueAt_85 rfl ?_
              refine x_getR (n := 89) flX5_15 rfl dX5_valueAt_86 rfl hV.1 hV.2.1 ?_
              refine x_ild3 (n := 90) dX5_valueAt_89 rfl ?_
              refine x_ialdN (n := 91) dX5_valueAt_90 rfl hV.2.2 (Nat.le_of_ble_eq_true rfl) (by omega) ?_
              refine x_ild1 (n := 92) dX5_valueAt_91 rfl ?_
              refine x_ild2 (n := 93) dX5_valueAt_92 rfl ?_
              refine x_isubN (n := 94) dX5_valueAt_93 rfl (by omega) ?_
              refine x_imul (n := 95) dX5_valueAt_94 rfl ?_
              refine x_iadd (n := 96) dX5_valueAt_95 rfl ?_
              refine x_ild4 (n := 98) dX5_valueAt_96 rfl ?_
              refine x_idiv (n := 99) dX5_valueAt_98 rfl (by intro e; rw [zeq, hji, Int32.toInt_zero] at e; rw [zlt, hji, Int32.toInt_zero] at c_65; omega) ?_
              refine r_iret dX5_valueAt_99 rfl ?_
              rw [zlt, hji, Int32.toInt_zero] at c_65; rw [if_neg (by omega)] at hq'; exact hq'
            · refine x_ald0 (n := 69) dX5_valueAt_68 rfl ?_
              refine x_getR (n := 72) flX5_15 rfl dX5_valueAt_69 rfl hV.1 hV.2.1 ?_
              refine x_ild2 (n := 73) dX5_valueAt_72 rfl ?_
              refine x_ialdN (n := 74) dX5_valueAt_73 rfl hV.2.2 (Nat.le_of_ble_eq_true rfl) (by omega) ?_
              refine r_iret dX5_valueAt_74 rfl ?_
              rw [zlt, hji, Int32.toInt_zero] at c_65; rw [if_pos (by omega)] at hq'; exact hq'
          · exfalso; rw [zeq, hjI, hnN] at c_38; omega
      · exfalso; rw [zeq, hiI, hnN] at c_17; omega
end
