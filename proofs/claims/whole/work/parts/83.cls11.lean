section
variable {l : Launch} {G : zG} {Z : zS} {I I' : zI} {g g' : Nat → Int32} {mk b : Nat} {Q : Option Value → zS → zI → Prop}
theorem l_J7_fill {a N : Nat} {v : Int32} (ha : za Z a 13 N) (hN : N < 2147483648) (hq : ∀ f, (∀ j, j < N → f j = v) → Q none Z (va_up I a f)) : ∀ m k f, (∀ j, j < k → f j = v) → k ≤ N → N - k < m → zX l G mJ7_fill_53178 0 0 0 5 [some (.ref a), some (.int v), some (.int (nI k)), some (.int (nI N))] [] Z (va_up I a f) Q := by
  intro m
  induction m with
  | zero => intro k f _ _ h; exact absurd h (by omega)
  | succ m ih =>
    intro k f hf hk hm
    refine x_ild2 (n := 6) dJ7_fill_53178_5 rfl ?_
    refine x_ild3 (n := 7) dJ7_fill_53178_6 rfl ?_
    refine x_icmpN_ge (n := 10) (tgt := 20) dJ7_fill_53178_7 rfl (by decide) (by omega) (by omega) (fun c_7 => ?_) (fun c_7 => ?_)
    · refine r_vret dJ7_fill_53178_20 rfl ?_
      exact hq f (fun j hj => hf j (by omega))
    · refine x_ald0 (n := 11) dJ7_fill_53178_10 rfl ?_
      refine x_ild2 (n := 12) dJ7_fill_53178_11 rfl ?_
      refine x_ild1 (n := 13) dJ7_fill_53178_12 rfl ?_
      refine x_iastN (n := 14) dJ7_fill_53178_13 rfl ha hN (by omega) ?_
      rw [va_up_same, va_up_2]
      refine x_iincN2 (n := 17) (k := 1) dJ7_fill_53178_14 rfl (by decide) rfl ?_
      refine x_goto (n := 5) dJ7_fill_53178_17 (by decide) ?_
      refine ih (k + 1) _ (fun j hj => ?_) (by omega) (by omega)
      by_cases h : j = k
      · rw [h, upd_same]
      · rw [upd_off h]; exact hf j (by omega)
theorem c_J7_fill_53178 {a N : Nat} {v : Int32} (ha : za Z a 13 N) (hN : N < 2147483648) (hq : ∀ f, (∀ j, j < N → f j = v) → Q none Z (va_up I a f)) : zM l G mJ7_fill_53178 0 0 0 [.ref a, .int v] Z I Q := by
  refine x_entry [some (.ref a), some (.int v), none, none] 2 rfl rfl (Nat.le_of_ble_eq_true rfl) ?_
  refine x_ic0 (n := 1) dJ7_fill_53178_0 rfl ?_
  refine x_ist2 (n := 2) dJ7_fill_53178_1 rfl (by decide) rfl ?_
  refine x_ald0 (n := 3) dJ7_fill_53178_2 rfl ?_
  refine x_alenN (n := 4) dJ7_fill_53178_3 rfl ha ⟨by decide, by decide⟩ ?_
  refine x_ist3 (n := 5) dJ7_fill_53178_4 rfl (by decide) rfl ?_
  have := l_J7_fill (l := l) (G := G) ha hN hq (N + 1) 0 (I a) (fun j hj => absurd hj (by omega)) (by omega) (by omega)
  rw [va_up_id] at this
  exact this
/-- bit k of an int -/
def zbt (x : Int32) (k : Nat) : Bool := x.toBitVec.getLsbD k
theorem zbt_0 (k : Nat) : zbt (nI 0) k = false := BitVec.getLsbD_zero
theorem zbt_shr {x : Int32} {k : Nat} (hk : k < 32) : (x >>> (nI k &&& 31)) &&& nI 1 = zb (zbt x k) := by
  apply Int32.toBitVec_inj.mp
  rw [Int32.toBitVec_and]
  show x.toBitVec.sshiftRight ((nI k &&& 31).toBitVec.smod 32).toNat &&& 1#32 = _
  rw [zsl k hk, BitVec.and_one_eq_setWidth_ofBool_getLsbD, BitVec.getLsbD_sshiftRight]
  have h1 : (!decide (32 ≤ 0) && if k + 0 < 32 then x.toBitVec.getLsbD (k + 0) else x.toBitVec.msb) = zbt x k := by
    rw [if_pos (by omega)]
    rfl
  rw [h1]
  cases zbt x k <;> decide
theorem zbt_or {x : Int32} {k j : Nat} (hk : k < 32) (hj : j < 32) : zbt (x ||| (nI 1 <<< (nI k &&& 31))) j = (zbt x j || decide (j = k)) := by
  unfold zbt
  rw [Int32.toBitVec_or]
  show (x.toBitVec ||| (1#32 <<< ((nI k &&& 31).toBitVec.smod 32).toNat)).getLsbD j = _
  rw [zsl k hk, BitVec.getLsbD_or, BitVec.getLsbD_shiftLeft, BitVec.getLsbD_one]
  congr 1
  by_cases h : j = k
  · subst h; simp [hj]
  · rw [decide_eq_false h]
    by_cases h2 : j < k
    · simp [h2]
    · simp [h2]; omega
theorem c_X11_hasBitI {x : Int32} {k : Nat} (hk : k < 32) (hq : Q (some (.int (zb (zbt x k)))) Z I) : zM l G mX11_hasBit 0 0 0 [.int x, .int (nI k)] Z I Q := by
  refine x_entry [some (.int x), some (.int (nI k))] 0 rfl rfl (Nat.le_of_ble_eq_true rfl) ?_
  refine x_ild0 (n := 1) dX11_hasBit_0 rfl ?_
  refine x_ild1 (n := 2) dX11_hasBit_1 rfl ?_
  refine x_ishr (n := 3) dX11_hasBit_2 rfl ?_
  refine x_ic1 (n := 4) dX11_hasBit_3 rfl ?_
  refine x_iand (n := 5) dX11_hasBit_4 rfl ?_
  rw [zbt_shr hk]
  refine x_if_eq (n := 8) (tgt := 12) dX11_hasBit_5 rfl (by decide) (fun c_5 => ?_) (fun c_5 => ?_)
  · refine x_ic0 (n := 13) dX11_hasBit_12 rfl ?_
    refine r_zret dX11_hasBit_13 rfl (by first | exact nar0 | exact nar1 | exact zb_nar _) ?_
    cases hb : zbt x k <;> rw [hb] at hq c_5 <;> first | exact hq | (exact absurd c_5 (by decide)) | (exact absurd (by decide) c_5)
  · refine x_ic1 (n := 9) dX11_hasBit_8 rfl ?_
    refine x_goto (n := 13) dX11_hasBit_9 (by decide) ?_
    refine r_zret dX11_hasBit_13 rfl (by first | exact nar0 | exact nar1 | exact zb_nar _) ?_
    cases hb : zbt x k <;> rw [hb] at hq c_5 <;> first | exact hq | (exact absurd c_5 (by decide)) | (exact absurd (by decide) c_5)
/-- the days as bits, k claims told and the next one up to day d -/
def tkR (g : Nat → Int32) (f : Nat → Int32) (k d : Nat) : Prop := ∀ j, j < 2000 → zbt (f (j / 32)) (j % 32) = (gTk g k j || (decide (j < d) && (gIn g k j && gGr g k j)))
theorem dlt_succ {j d : Nat} (h : j ≠ d) : decide (j < d) = decide (j < d + 1) := by
  by_cases h' : j < d
  · rw [decide_eq_true h', decide_eq_true (by omega)]
  · rw [decide_eq_false h', decide_eq_false (by omega)]
theorem tkR_same {k d : Nat} {f : Nat → Int32} (h : tkR g f k d) (hv : (gTk g k d || (gIn g k d && gGr g k d)) = gTk g k d) : tkR g f k (d + 1) := by
  intro j hj
  rw [h j hj]
  by_cases hjd : j = d
  · subst hjd
    rw [decide_eq_true (show j < j + 1 by omega), Bool.true_and, hv, decide_eq_false (show ¬ j < j by omega), Bool.false_and, Bool.or_false]
  · rw [dlt_succ hjd]
theorem tkR_set {k d : Nat} {f f' : Nat → Int32} (h : tkR g f k d) (hf : ∀ j, f' j = if j = d / 32 then (f (d / 32) ||| (nI 1 <<< (nI (d % 32) &&& 31))) else f j) (hv : (gIn g k d && gGr g k d) = true) : tkR g f' k (d + 1) := by
  intro j hj
  rw [hf]
  by_cases hr : j / 32 = d / 32
  · rw [if_pos hr, zbt_or (by omega) (by omega), ← hr, h j hj]
    by_cases hjd : j = d
    · subst hjd
      rw [hv, decide_eq_true (show j < j + 1 by omega), decide_eq_true (show j % 32 = j % 32 from rfl), Bool.or_true, Bool.true_and, Bool.or_true]
    · rw [dlt_succ hjd, decide_eq_false (show ¬ j % 32 = d % 32 by omega), Bool.or_false]
  · rw [if_neg hr, h j hj, dlt_succ (show j ≠ d from fun e => hr (by rw [e]))]
/-- what the rule of claim gives, by cause and wet -/
def grR (g : Nat → Int32) (f : Nat → Int32) : Prop := ∀ c w, c < 4 → w < 10 → f (c * 10 + w) = gRule g 3 (nI c) (nI w) (nI 0)
theorem c_X0_isGranted (hM : ShM Z mk) {c w : Nat} (hc : c < 4) (hw : w < 10) (r : Bool) (hr : r = decide (I (mk + 70) (c * 10 + w) ≠ 0)) (hq : Q (some (.int (zb r))) Z I) : zM l G mX0_isGranted 1 0 0 [.ref (mk + 66), .int (nI c), .int (nI w)] Z I Q := by
  refine x_entry [some (.ref (mk + 66)), some (.int (nI c)), some (.int (nI w)), none] 1 rfl rfl (Nat.le_of_ble_eq_true rfl) ?_
  have hpI : (nI (c * 10 + w)).toInt = (c * 10 + w : Int) := nI_toInt (n := c * 10 + w) (by omega)
  refine x_ild1 (n := 1) dX0_isGranted_0 rfl ?_
  refine x_bipush (n := 3) (v := nI 10) dX0_isGranted_1 rfl (by decide) ?_
  refine x_imulN (n := 4) dX0_isGranted_3 rfl ?_
  refine x_ild2 (n := 5) dX0_isGranted_4 rfl ?_
  refine x_iaddN (n := 6) dX0_isGranted_5 rfl ?_
  refine x_ist3 (n := 7) dX0_isGranted_6 rfl (by decide) rfl ?_
  refine x_ild3 (n := 8) dX0_isGranted_7 rfl ?_
  refine x_ic0 (n := 9) dX0_isGranted_8 rfl ?_
  refine x_ald0 (n := 10) dX0_isGranted_9 rfl ?_
  refine x_getR (n := 13) flX0_21 rfl dX0_isGranted_10 rfl (mK_Cl hM) (mP_grants hM) ?_
  refine x_alenN (n := 14) dX0_isGranted_13 rfl (mA_grants hM) ⟨by decide, by decide⟩ ?_
  refine x_ic1 (n := 15) dX0_isGranted_14 rfl ?_
  refine x_isubN (n := 16) dX0_isGranted_15 rfl (by omega) ?_
  refine x_cN3 (n := 19) (d' := 0) zcX11_inside mnX0_55 dX0_isGranted_16 rfl (Nat.le_of_ble_eq_true rfl) (Nat.le_of_ble_eq_true rfl) ?_
  refine c_X11_inside true (by refine (decide_eq_true ?_).symm; rw [hpI]; exact ⟨by show (0 : Int) ≤ _; omega, by show _ ≤ (39 : Int); omega⟩) ?_
  refine x_some ?_
  refine x_if_eq (n := 22) (tgt := 35) dX0_isGranted_19 rfl (by decide) (fun c_19 => ?_) (fun c_19 => ?_)
  · exact absurd c_19 (by decide)
  · refine x_ald0 (n := 23) dX0_isGranted_22 rfl ?_
    refine x_getR (n := 26) flX0_21 rfl dX0_isGranted_23 rfl (mK_Cl hM) (mP_grants hM) ?_
    refine x_ild3 (n := 27) dX0_isGranted_26 rfl ?_
    refine x_ialdN (n := 28) dX0_isGranted_27 rfl (mA_grants hM) (Nat.le_of_ble_eq_true rfl) (by omega) ?_
    refine x_if_eq (n := 31) (tgt := 35) dX0_isGranted_28 rfl (by decide) (fun c_28 => ?_) (fun c_28 => ?_)
    · refine x_ic0 (n := 36) dX0_isGranted_35 rfl ?_
      refine r_zret dX0_isGranted_36 rfl (by first | exact nar0 | exact nar1 | exact zb_nar _) ?_
      first | (rw [hr, decide_eq_true c_28] at hq; exact hq) | (rw [hr, decide_eq_false (fun h => h c_28)] at hq; exact hq)
    · refine x_ic1 (n := 32) dX0_isGranted_31 rfl ?_
      refine x_goto (n := 36) dX0_isGranted_32 (by decide) ?_
      refine r_zret dX0_isGranted_36 rfl (by first | exact nar0 | exact nar1 | exact zb_nar _) ?_
      first | (rw [hr, decide_eq_true c_28] at hq; exact hq) | (rw [hr, decide_eq_false (fun h => h c_28)] at hq; exact hq)
theorem l_X0_takeDays (hM : ShM Z mk) (hm : mk < 200) (hB : InvB g) {k : Nat} (hk : k < vN g 4) (hC : cmC I mk g) (hD : cmD I mk g) (hG : grR g (I (mk + 70))) (hq : ∀ f, tkR g f (k + 1) 0 → Q (some (.int (nI (gGv g k)))) Z (va_up I (mk + 71) f)) :
    ∀ m d f, tkR g f k d → vN g (380 + 3 * k) ≤ d → d ≤ 2000 → (d ≤ vN g (380 + 3 * k + 1) + 1 ∨ d = vN g (380 + 3 * k)) → 2000 - d < m → zX l G mX0_takeDays 2 0 0 10 [some (.ref (mk + 66)), some (.int (nI k)), some (.ref (mk + 80)), some (.int (nI (zct (gP g k) d))), some (.int (nI d)), none, none] [] Z (va_up I (mk + 71) f) Q := by
  have h20 := (iv4 hB).2
  obtain ⟨c0, c1, c2⟩ := ivCl hB hk
  have e1 := rg_nI c1 (by omega) (by omega)
  have l1 := rg_le c1 (by omega)
  have e2 := rg_nI c2 (by omega) (by omega)
  have l2 := rg_le c2 (by omega)
  obtain ⟨-, -, hcc⟩ := hC
  obtain ⟨p1, p2, p3⟩ := hcc k hk
  have n68 : mk + 68 ≠ mk + 71 := by omega
  have n69 : mk + 69 ≠ mk + 71 := by omega
  have n70 : mk + 70 ≠ mk + 71 := by omega
  have n80 : mk + 80 ≠ mk + 71 := by omega
  intro m
  induction m with
  | zero => intro d f _ _ _ _ h; exact absurd h (by omega)
  | succ m ih =>
    intro d f ht hfd hd hto hmm
    refine x_ild4 (n := 12) dX0_takeDays_10 rfl ?_
    refine x_ald0 (n := 13) dX0_takeDays_12 rfl ?_
    refine x_getR (n := 16) flX0_15 rfl dX0_takeDays_13 rfl (mK_Cl hM) (mP_to hM) ?_
    refine x_ild1 (n := 17) dX0_takeDays_16 rfl ?_
    refine x_ialdN (n := 18) dX0_takeDays_17 rfl (mA_to hM) (Nat.le_of_ble_eq_true rfl) (by omega) ?_
    rw [va_up_off n68, p2, e1]
    refine x_icmpN_gt (n := 21) (tgt := 107) dX0_takeDays_18 rfl (by decide) (by omega) (by omega) (fun c_18 => ?_) (fun c_18 => ?_)
    · refine x_ild3 (n := 108) dX0_takeDays_107 rfl ?_
      refine r_iret dX0_takeDays_108 rfl ?_
      have hP : zct (gP g k) 2000 = zct (gP g k) d := zct_stop hd (fun j h1 h2 => by unfold gP gIn; rw [decide_eq_false (by omega)]; rfl)
      rw [← hP]
      refine hq f (fun j hj => ?_)
      rw [ht j hj]
      show _ = (gTk g k j || (gIn g k j && gGr g k j) || (decide (j < 0) && _))
      rw [decide_eq_false (show ¬ j < 0 by omega), Bool.false_and, Bool.or_false]
      by_cases hjd : j < d
      · rw [decide_eq_true hjd, Bool.true_and]
      · rw [decide_eq_false hjd]; unfold gIn; rw [decide_eq_false (show ¬ (vN g (380 + 3 * k) ≤ j ∧ j ≤ vN g (380 + 3 * k + 1)) by omega)]; rfl
    · refine x_ild4 (n := 23) dX0_takeDays_21 rfl ?_
      refine x_ald2 (n := 24) dX0_takeDays_23 rfl ?_
      refine x_alenN (n := 25) dX0_takeDays_24 rfl (mA_wetness hM) ⟨by decide, by decide⟩ ?_
      refine x_icmpN_ge (n := 28) (tgt := 107) dX0_takeDays_25 rfl (by decide) (by omega) (by omega) (fun c_25 => ?_) (fun c_25 => ?_)
      · exact absurd c_25 (by omega)
      · refine x_ild4 (n := 30) dX0_takeDays_28 rfl ?_
        refine x_bipush (n := 32) (v := nI 32) dX0_takeDays_30 rfl (by decide) ?_
        refine x_idiv (n := 33) dX0_takeDays_32 rfl (by decide) ?_
        rw [pk_div (by omega) (by omega) (by omega)]
        refine x_ist5 (n := 35) dX0_takeDays_33 rfl (by decide) rfl ?_
        refine x_ild4 (n := 37) dX0_takeDays_35 rfl ?_
        refine x_bipush (n := 39) (v := nI 32) dX0_takeDays_37 rfl (by decide) ?_
        refine x_irem (n := 40) dX0_takeDays_39 rfl (by decide) ?_
        rw [pk_rem (by omega) (by omega) (by omega)]
        refine x_ist6 (n := 42) dX0_takeDays_40 rfl (by decide) rfl ?_
        have hin : gIn g k d = true := decide_eq_true (by omega)
        have htd : zbt (f (d / 32)) (d % 32) = gTk g k d := by rw [ht d (by omega), decide_eq_false (show ¬ d < d by omega), Bool.false_and, Bool.or_false]
        have hwt := ivE hB (k := d) (by omega)
        have ew := rg_nI hwt (by omega) (by omega)
        have lw := rg_le hwt (by omega)
        refine x_ild5 (n := 44) dX0_takeDays_42 rfl ?_
        refine x_ald0 (n := 45) dX0_takeDays_44 rfl ?_
        refine x_getR (n := 48) flX0_24 rfl dX0_takeDays_45 rfl (mK_Cl hM) (mP_taken hM) ?_
        refine x_alenN (n := 49) dX0_takeDays_48 rfl (mA_taken hM) ⟨by decide, by decide⟩ ?_
        refine x_icmpN_ge (n := 52) (tgt := 101) dX0_takeDays_49 rfl (by decide) (by omega) (by omega) (fun c_49 => ?_) (fun c_49 => ?_)
        · exact absurd c_49 (by omega)
        · refine x_ald0 (n := 53) dX0_takeDays_52 rfl ?_
          refine x_getR (n := 56) flX0_24 rfl dX0_takeDays_53 rfl (mK_Cl hM) (mP_taken hM) ?_
          refine x_ild5 (n := 58) dX0_takeDays_56 rfl ?_
          refine x_ialdN (n := 59) dX0_takeDays_58 rfl (mA_taken hM) (Nat.le_of_ble_eq_true rfl) (by omega) ?_
          rw [va_up_same]
          refine x_ild6 (n := 61) dX0_takeDays_59 rfl ?_
          refine x_cN2 (n := 64) (d' := 0) zcX11_hasBit mnX0_48 dX0_takeDays_61 rfl (Nat.le_of_ble_eq_true rfl) (Nat.le_of_ble_eq_true rfl) ?_
          refine c_X11_hasBitI (by omega) ?_
          refine x_some ?_
          rw [htd]
          refine x_zif_ne (n := 67) (tgt := 101) dX0_takeDays_64 rfl (by decide) (fun c_64 => ?_) (fun c_64 => ?_)
          · refine x_iincN4 (n := 104) (k := 1) dX0_takeDays_101 rfl (by decide) rfl ?_
            refine x_goto (n := 10) dX0_takeDays_104 (by decide) ?_
            refine x_fg5 ?_
            refine x_fg6 ?_
            first
              | (have hgr : gGr g k d = true := c_81
                 have hct : gTk g k d = false := c_64
                 have hP : gP g k d = true := (by unfold gP; rw [hgr, hin, hct]; rfl)
                 rw [zct_t hP]
                 refine ih (d + 1) _ (tkR_set ht (fun j => rfl) (by rw [hin, hgr]; rfl)) (by omega) (by omega) (by omega) (by omega))
              | (have hct : gTk g k d = true := c_64
                 have hP : gP g k d = false := (by unfold gP; rw [hct]; simp)
                 have hz := zct_f hP
                 rw [Nat.add_zero] at hz
                 rw [hz]
                 refine ih (d + 1) _ (tkR_same ht (by rw [hct, Bool.true_or])) (by omega) (by omega) (by omega) (by omega))
              | (have hgr : gGr g k d = false := c_81
                 have hP : gP g k d = false := (by unfold gP; rw [hgr]; simp)
                 have hz := zct_f hP
                 rw [Nat.add_zero] at hz
                 rw [hz]
                 refine ih (d + 1) _ (tkR_same ht (by rw [hgr, Bool.and_false, Bool.or_false])) (by omega) (by omega) (by omega) (by omega))
          · refine x_ald0 (n := 68) dX0_takeDays_67 rfl ?_
            refine x_ald0 (n := 69) dX0_takeDays_68 rfl ?_
            refine x_getR (n := 72) flX0_18 rfl dX0_takeDays_69 rfl (mK_Cl hM) (mP_cause hM) ?_
            refine x_ild1 (n := 73) dX0_takeDays_72 rfl ?_
            refine x_ialdN (n := 74) dX0_takeDays_73 rfl (mA_cause hM) (Nat.le_of_ble_eq_true rfl) (by omega) ?_
            rw [va_up_off n69, p3, e2]
            refine x_ald2 (n := 75) dX0_takeDays_74 rfl ?_
            refine x_ild4 (n := 77) dX0_takeDays_75 rfl ?_
            refine x_ialdN (n := 78) dX0_takeDays_77 rfl (mA_wetness hM) (Nat.le_of_ble_eq_true rfl) (by omega) ?_
            rw [va_up_off n80, hD.2 d (by omega), ew]
            have hgw : gRule g 3 (nI (vN g (380 + 3 * k + 2))) (nI (vN g (510 + d))) (nI 0) = gRule g 3 (g (380 + 3 * k + 2)) (gWet g d) (nI 0) := by rw [← e2]; congr 1; unfold gWet; rw [if_pos (by omega)]; exact ew.symm
            refine x_cV2 (n := 81) (d' := 1) zcX0_isGranted mlX0_52 dX0_takeDays_78 rfl (mK_Cl hM) (Nat.le_of_ble_eq_true rfl) (Nat.le_of_ble_eq_true rfl) ?_
            refine c_X0_isGranted hM (by omega) (by omega) (gGr g k d) (by rw [va_up_off n70, hG _ _ (by omega) (by omega), hgw]; rfl) ?_
            refine x_some ?_
            refine x_zif_eq (n := 84) (tgt := 101) dX0_takeDays_81 rfl (by decide) (fun c_81 => ?_) (fun c_81 => ?_)
            · refine x_iincN4 (n := 104) (k := 1) dX0_takeDays_101 rfl (by decide) rfl ?_
              refine x_goto (n := 10) dX0_takeDays_104 (by decide) ?_
              refine x_fg5 ?_
              refine x_fg6 ?_
              first
                | (have hgr : gGr g k d = true := c_81
                   have hct : gTk g k d = false := c_64
                   have hP : gP g k d = true := (by unfold gP; rw [hgr, hin, hct]; rfl)
                   rw [zct_t hP]
                   refine ih (d + 1) _ (tkR_set ht (fun j => rfl) (by rw [hin, hgr]; rfl)) (by omega) (by omega) (by omega) (by omega))
                | (have hct : gTk g k d = true := c_64
                   have hP : gP g k d = false := (by unfold gP; rw [hct]; simp)
                   have hz := zct_f hP
                   rw [Nat.add_zero] at hz
                   rw [hz]
                   refine ih (d + 1) _ (tkR_same ht (by rw [hct, Bool.true_or])) (by omega) (by omega) (by omega) (by omega))
                | (have hgr : gGr g k d = false := c_81
                   have hP : gP g k d = false := (by unfold gP; rw [hgr]; simp)
                   have hz := zct_f hP
                   rw [Nat.add_zero] at hz
                   rw [hz]
                   refine ih (d + 1) _ (tkR_same ht (by rw [hgr, Bool.and_false, Bool.or_false])) (by omega) (by omega) (by omega) (by omega))
            · refine x_ald0 (n := 85) dX0_takeDays_84 rfl ?_
              refine x_getR (n := 88) flX0_24 rfl dX0_takeDays_85 rfl (mK_Cl hM) (mP_taken hM) ?_
              refine x_ild5 (n := 90) dX0_takeDays_88 rfl ?_
              refine x_dup2 (n := 91) dX0_takeDays_90 rfl rfl rfl ?_
              refine x_ialdN (n := 92) dX0_takeDays_91 rfl (mA_taken hM) (Nat.le_of_ble_eq_true rfl) (by omega) ?_
              rw [va_up_same]
              refine x_ic1 (n := 93) dX0_takeDays_92 rfl ?_
              refine x_ild6 (n := 95) dX0_takeDays_93 rfl ?_
              refine x_ishl (n := 96) dX0_takeDays_95 rfl ?_
              refine x_ior (n := 97) dX0_takeDays_96 rfl ?_
              refine x_iastN (n := 98) dX0_takeDays_97 rfl (mA_taken hM) (Nat.le_of_ble_eq_true rfl) (by omega) ?_
              rw [va_up_same, va_up_2]
              refine x_iincN3 (n := 101) (k := 1) dX0_takeDays_98 rfl (by decide) rfl ?_
              refine x_iincN4 (n := 104) (k := 1) dX0_takeDays_101 rfl (by decide) rfl ?_
              refine x_goto (n := 10) dX0_takeDays_104 (by decide) ?_
              refine x_fg5 ?_
              refine x_fg6 ?_
              first
                | (have hgr : gGr g k d = true := c_81
                   have hct : gTk g k d = false := c_64
                   have hP : gP g k d = true := (by unfold gP; rw [hgr, hin, hct]; rfl)
                   rw [zct_t hP]
                   refine ih (d + 1) _ (tkR_set ht (fun j => rfl) (by rw [hin, hgr]; rfl)) (by omega) (by omega) (by omega) (by omega))
                | (have hct : gTk g k d = true := c_64
                   have hP : gP g k d = false := (by unfold gP; rw [hct]; simp)
                   have hz := zct_f hP
                   rw [Nat.add_zero] at hz
                   rw [hz]
                   refine ih (d + 1) _ (tkR_same ht (by rw [hct, Bool.true_or])) (by omega) (by omega) (by omega) (by omega))
                | (have hgr : gGr g k d = false := c_81
                   have hP : gP g k d = false := (by unfold gP; rw [hgr]; simp)
                   have hz := zct_f hP
                   rw [Nat.add_zero] at hz
                   rw [hz]
                   refine ih (d + 1) _ (tkR_same ht (by rw [hgr, Bool.and_false, Bool.or_false])) (by omega) (by omega) (by omega) (by omega))
theorem c_X0_takeDays (hM : ShM Z mk) (hm : mk < 200) (hB : InvB g) {k : Nat} {f : Nat → Int32} (hk : k < vN g 4) (hC : cmC I mk g) (hD : cmD I mk g) (hG : grR g (I (mk + 70))) (ht : tkR g f k 0) (hq : ∀ f, tkR g f (k + 1) 0 → Q (some (.int (nI (gGv g k)))) Z (va_up I (mk + 71) f)) : zM l G mX0_takeDays 2 0 0 [.ref (mk + 66), .int (nI k), .ref (mk + 80)] Z (va_up I (mk + 71) f) Q := by
  refine x_entry [some (.ref (mk + 66)), some (.int (nI k)), some (.ref (mk + 80)), none, none, none, none] 4 rfl rfl (Nat.le_of_ble_eq_true rfl) ?_
  have h20 := (iv4 hB).2
  obtain ⟨c0, c1, c2⟩ := ivCl hB hk
  have e0 := rg_nI c0 (by omega) (by omega)
  have l0 := rg_le c0 (by omega)
  have p1 := (hC.2.2 k hk).1
  have hz : zct (gP g k) (vN g (380 + 3 * k)) = 0 := zct_0 (fun j hj => by unfold gP gIn; rw [decide_eq_false (by omega)]; rfl)
  have ht' : tkR g f k (vN g (380 + 3 * k)) := by
    intro j hj
    rw [ht j hj, decide_eq_false (show ¬ j < 0 by omega), Bool.false_and, Bool.or_false]
    by_cases h : j < vN g (380 + 3 * k)
    · unfold gIn; rw [decide_eq_false (show ¬ (vN g (380 + 3 * k) ≤ j ∧ j ≤ vN g (380 + 3 * k + 1)) by omega), Bool.false_and, Bool.and_false, Bool.or_false]
    · rw [decide_eq_false h, Bool.false_and, Bool.or_false]
  refine x_ic0 (n := 1) dX0_takeDays_0 rfl ?_
  refine x_ist3 (n := 2) dX0_takeDays_1 rfl (by decide) rfl ?_
  refine x_ald0 (n := 3) dX0_takeDays_2 rfl ?_
  refine x_getR (n := 6) flX0_11 rfl dX0_takeDays_3 rfl (mK_Cl hM) (mP_from hM) ?_
  refine x_ild1 (n := 7) dX0_takeDays_6 rfl ?_
  refine x_ialdN (n := 8) dX0_takeDays_7 rfl (mA_from hM) (Nat.le_of_ble_eq_true rfl) (by omega) ?_
  rw [va_up_off (by omega), p1, e0]
  refine x_ist4 (n := 10) dX0_takeDays_8 rfl (by decide) rfl ?_
  have := l_X0_takeDays (l := l) (G := G) hM hm hB hk hC hD hG hq (2000 + 1) (vN g (380 + 3 * k)) f ht' (by omega) (by omega) (by omega) (by omega)
  rw [hz] at this
  exact this
def gvS (g : Nat → Int32) (F : Nat) (j : Nat) : Nat := if F ≤ j then gGv g j else 0
theorem gvS_le (F n : Nat) : zsum (gvS g F) n ≤ n * 2000 := zsum_le (fun k => by unfold gvS; split; exact gGv_le k; omega) n
theorem l_X0_daysGiven (hM : ShM Z mk) (hm : mk < 200) (hB : InvB g) {F E : Nat} {L : Int32} (hF : F < 1000) (hE : L.toInt + 1 = (E : Int)) (hE2 : E ≤ vN g 4) (hC : cmC I mk g) (hD : cmD I mk g) (hG : grR g (I (mk + 70))) (hq : ∀ f, Q (some (.int (nI (zsum (gvS g F) E)))) Z (va_up I (mk + 71) f)) :
    ∀ m k f, tkR g f k 0 → k ≤ E → E - k < m → zX l G mX0_daysGiven 3 0 0 14 [some (.ref (mk + 66)), some (.int (nI F)), some (.int L), some (.ref (mk + 80)), some (.int (nI (zsum (gvS g F) k))), some (.int (nI k)), none] [] Z (va_up I (mk + 71) f) Q := by
  have h20 := (iv4 hB).2
  have h4 := vC4 hC hB
  intro m
  induction m with
  | zero => intro k f _ _ h; exact absurd h (by omega)
  | succ m ih =>
    intro k f ht hk hmm
    have es : zsum (gvS g F) (k + 1) = zsum (gvS g F) k + gvS g F k := rfl
    have hkI : (nI k).toInt = (k : Int) := nI_toInt (by omega)
    refine x_ild5 (n := 16) dX0_daysGiven_14 rfl ?_
    refine x_ild2 (n := 17) dX0_daysGiven_16 rfl ?_
    refine x_icmp_gt (n := 20) (tgt := 61) dX0_daysGiven_17 rfl (by decide) (fun c_17 => ?_) (fun c_17 => ?_)
    · refine x_ild4 (n := 63) dX0_daysGiven_61 rfl ?_
      refine r_iret dX0_daysGiven_63 rfl ?_
      rw [zlt, hkI] at c_17; rw [show k = E by omega]; exact hq f
    · refine x_ild5 (n := 22) dX0_daysGiven_20 rfl ?_
      refine x_ald0 (n := 23) dX0_daysGiven_22 rfl ?_
      refine x_getI (n := 26) flX0_27 rfl dX0_daysGiven_23 rfl (mK_Cl hM) ?_
      rw [va_up_off (by omega), h4]
      refine x_icmpN_ge (n := 29) (tgt := 61) dX0_daysGiven_26 rfl (by decide) (by omega) (by omega) (fun c_26 => ?_) (fun c_26 => ?_)
      · exfalso; rw [zlt, hkI] at c_17; omega
      · refine x_ald0 (n := 30) dX0_daysGiven_29 rfl ?_
        refine x_ild5 (n := 32) dX0_daysGiven_30 rfl ?_
        refine x_ald3 (n := 33) dX0_daysGiven_32 rfl ?_
        rw [zlt, hkI] at c_17
        refine x_cV2 (n := 36) (d' := 2) zcX0_takeDays mlX0_44 dX0_daysGiven_33 rfl (mK_Cl hM) (Nat.le_of_ble_eq_true rfl) (Nat.le_of_ble_eq_true rfl) ?_
        refine c_X0_takeDays hM hm hB (by omega) hC hD hG ht (fun f2 ht2 => ?_)
        refine x_some ?_
        refine x_ist6 (n := 38) dX0_daysGiven_36 rfl (by decide) rfl ?_
        refine x_ild4 (n := 40) dX0_daysGiven_38 rfl ?_
        refine x_ild5 (n := 42) dX0_daysGiven_40 rfl ?_
        refine x_ild1 (n := 43) dX0_daysGiven_42 rfl ?_
        refine x_icmpN_lt (n := 46) (tgt := 51) dX0_daysGiven_43 rfl (by decide) (by omega) (by omega) (fun c_43 => ?_) (fun c_43 => ?_)
        · refine x_ic0 (n := 52) dX0_daysGiven_51 rfl ?_
          refine x_iaddN (n := 53) dX0_daysGiven_52 rfl ?_
          refine x_ist4 (n := 55) dX0_daysGiven_53 rfl (by decide) rfl ?_
          refine x_iincN5 (n := 58) (k := 1) dX0_daysGiven_55 rfl (by decide) rfl ?_
          refine x_goto (n := 14) dX0_daysGiven_58 (by decide) ?_
          refine x_fg6 ?_
          first
            | (have hlt : k < F := c_43
               rw [show zsum (gvS g F) k + 0 = zsum (gvS g F) (k + 1) by rw [es]; unfold gvS; rw [if_neg (show ¬ F ≤ k by omega)]]
               exact ih (k + 1) f2 ht2 (by omega) (by omega))
            | (rw [show zsum (gvS g F) k + gGv g k = zsum (gvS g F) (k + 1) by rw [es]; unfold gvS; rw [if_pos (show F ≤ k by omega)]]
               exact ih (k + 1) f2 ht2 (by omega) (by omega))
        · refine x_ild6 (n := 48) dX0_daysGiven_46 rfl ?_
          refine x_goto (n := 52) dX0_daysGiven_48 (by decide) ?_
          refine x_iaddN (n := 53) dX0_daysGiven_52 rfl ?_
          refine x_ist4 (n := 55) dX0_daysGiven_53 rfl (by decide) rfl ?_
          refine x_iincN5 (n := 58) (k := 1) dX0_daysGiven_55 rfl (by decide) rfl ?_
          refine x_goto (n := 14) dX0_daysGiven_58 (by decide) ?_
          refine x_fg6 ?_
          first
            | (have hlt : k < F := c_43
               rw [show zsum (gvS g F) k + 0 = zsum (gvS g F) (k + 1) by rw [es]; unfold gvS; rw [if_neg (show ¬ F ≤ k by omega)]]
               exact ih (k + 1) f2 ht2 (by omega) (by omega))
            | (rw [show zsum (gvS g F) k + gGv g k = zsum (gvS g F) (k + 1) by rw [es]; unfold gvS; rw [if_pos (show F ≤ k by omega)]]
               exact ih (k + 1) f2 ht2 (by omega) (by omega))
theorem c_X0_daysGiven (hM : ShM Z mk) (hm : mk < 200) (hB : InvB g) {F E : Nat} {L : Int32} (hF : F < 1000) (hE : L.toInt + 1 = (E : Int)) (hE2 : E ≤ vN g 4) (hC : cmC I mk g) (hD : cmD I mk g) (hG : grR g (I (mk + 70))) (hq : ∀ f, Q (some (.int (nI (zsum (gvS g F) E)))) Z (va_up I (mk + 71) f)) : zM l G mX0_daysGiven 3 0 0 [.ref (mk + 66), .int (nI F), .int L, .ref (mk + 80)] Z I Q := by
  refine x_entry [some (.ref (mk + 66)), some (.int (nI F)), some (.int L), some (.ref (mk + 80)), none, none, none] 3 rfl rfl (Nat.le_of_ble_eq_true rfl) ?_
  refine x_ald0 (n := 1) dX0_daysGiven_0 rfl ?_
  refine x_getR (n := 4) flX0_24 rfl dX0_daysGiven_1 rfl (mK_Cl hM) (mP_taken hM) ?_
  refine x_ic0 (n := 5) dX0_daysGiven_4 rfl ?_
  refine x_cS2 (n := 8) (d' := 0) zcJ7_fill_53178 mlX0_38 dX0_daysGiven_5 rfl (Nat.le_of_ble_eq_true rfl) (Nat.le_of_ble_eq_true rfl) ?_
  refine c_J7_fill_53178 (mA_taken hM) (Nat.le_of_ble_eq_true rfl) (fun f hf => ?_)
  refine x_none ?_
  refine x_ic0 (n := 9) dX0_daysGiven_8 rfl ?_
  refine x_ist4 (n := 11) dX0_daysGiven_9 rfl (by decide) rfl ?_
  refine x_ic0 (n := 12) dX0_daysGiven_11 rfl ?_
  refine x_ist5 (n := 14) dX0_daysGiven_12 rfl (by decide) rfl ?_
  refine l_X0_daysGiven hM hm hB hF hE hE2 hC hD hG hq (E + 1) 0 f (fun j hj => ?_) (by omega) (by omega)
  rw [hf (j / 32) (by omega), zbt_0]
  show false = (false || (decide (j < 0) && _))
  rw [decide_eq_false (by omega)]
  rfl
end
