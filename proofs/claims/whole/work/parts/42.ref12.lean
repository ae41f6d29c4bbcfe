def gGr (g : Nat → Int32) (k d : Nat) : Bool := decide (gRule g 3 (g (380 + 3 * k + 2)) (gWet g d) (nI 0) ≠ 0)
def gIn (g : Nat → Int32) (k d : Nat) : Bool := decide (vN g (380 + 3 * k) ≤ d ∧ d ≤ vN g (380 + 3 * k + 1))
/-- days taken by the first k claims -/
def gTk (g : Nat → Int32) : Nat → Nat → Bool
  | 0, _ => false
  | k + 1, d => gTk g k d || (gIn g k d && gGr g k d)
def gP (g : Nat → Int32) (k d : Nat) : Bool := gIn g k d && gGr g k d && !gTk g k d
def gGv (g : Nat → Int32) (k : Nat) : Nat := zct (gP g k) 2000
def zsum (f : Nat → Nat) : Nat → Nat
  | 0 => 0
  | n + 1 => zsum f n + f n
def f_given (g : Nat → Int32) (x : Int32) : Int32 := if zin x 0 ((vN g 4 : Int) - 1) = true then nI (gGv g (ix x)) else -1000000001
def gLate (g : Nat → Int32) (x : Int32) : Int32 := x - g 16 - nI (zsum (gGv g) (vN g 4))
def f_late (g : Nat → Int32) (x : Int32) : Int32 := if zin x 0 9999 = true then gRule g 2 (if gLate g x < 0 then nI 0 else gLate g x) (nI 0) (nI 0) else -1000000001
theorem zct_stop {p : Nat → Bool} {d : Nat} : ∀ {n : Nat}, d ≤ n → (∀ j, d ≤ j → j < n → p j = false) → zct p n = zct p d
  | 0, h, _ => by rw [show d = 0 by omega]
  | n + 1, h, hp => by
    by_cases hd : d = n + 1
    · rw [hd]
    · rw [← zct_f (hp n (by omega) (by omega)), Nat.add_zero]
      exact zct_stop (n := n) (by omega) (fun j h1 h2 => hp j h1 (by omega))
theorem zct_0 {p : Nat → Bool} {d : Nat} (hp : ∀ j, j < d → p j = false) : zct p d = 0 := zct_stop (d := 0) (by omega) (fun j _ h => hp j h)
/-- the rows claims are told in -/
def offG (I I' : zI) : Prop := ∀ p, p ≠ q_pile → p ≠ q_named → p ≠ q_isGiven → p ≠ q_givens → I' p = I p
section
variable {l : Launch} {G : zG} {Z : zS} {I : zI} {g : Nat → Int32} {Q : Option Value → zS → zI → Prop}
theorem offG_R {I' I2 : zI} (h : offG I I') (h2 : offR I' I2) : offG I I2 := fun p a b c d => (h2 p a b).trans (h p a b c d)
theorem offG_g {I' : zI} {f : Nat → Int32} (h : offG I I') : offG I (va_up I' q_givens f) := fun p a b c d => by rw [va_up_off d]; exact h p a b c d
theorem offG_i {I' : zI} {f : Nat → Int32} (h : offG I I') : offG I (va_up I' q_isGiven f) := fun p a b c d => by rw [va_up_off c]; exact h p a b c d
/-- the row of days, k claims told and the next one up to day d -/
def tkOK (g : Nat → Int32) (I : zI) (k d : Nat) : Prop := ∀ j, j < 2000 → I q_isGiven j = zb (gTk g k j || (decide (j < d) && (gIn g k j && gGr g k j)))
theorem tk_up {I' : zI} {k d : Nat} (hd : d < 2000) (h : tkOK g I' k d) (v : Int32) (f : Nat → Int32) (hf : ∀ j, f j = if j = d then v else I' q_isGiven j) (hv : v = zb (gTk g k d || (gIn g k d && gGr g k d))) (I2 : zI) (e : I2 q_isGiven = f) : tkOK g I2 k (d + 1) := by
  intro j hj
  rw [e, hf]
  by_cases hjd : j = d
  · subst hjd
    rw [if_pos rfl, hv, decide_eq_true (show j < j + 1 by omega), Bool.true_and]
  · rw [if_neg hjd, h j hj]
    have : decide (j < d) = decide (j < d + 1) := by
      by_cases h' : j < d
      · rw [decide_eq_true h', decide_eq_true (by omega)]
      · rw [decide_eq_false h', decide_eq_false (by omega)]
    rw [this]
theorem l1_X12_giveAll (hZ : ShR Z) {s0 s1 : Option Value} (hx : ∀ I' : zI, offG I I' → tkOK g I' 0 0 → zX l G mX12_giveAll 3 0 0 22 [some (.ref qR), none, none, none, none] [] Z (va_up I' q_s g) Q) : ∀ m d (I' : zI), offG I I' → (∀ j, j < d → I' q_isGiven j = nI 0) → d ≤ 2000 → 2000 - d < m → zX l G mX12_giveAll 3 0 0 2 [some (.ref qR), some (.int (nI d)), none, none, none] [] Z (va_up I' q_s g) Q := by
  intro m
  induction m with
  | zero => intro d I' _ _ _ h; exact absurd h (by omega)
  | succ m ih =>
    intro d I' hI hz hd hm
    refine x_ild1 (n := 3) dX12_giveAll_2 rfl ?_
    refine x_sipush (n := 6) (v := nI 1999) dX12_giveAll_3 rfl (by decide) ?_
    refine x_icmpN_gt (n := 9) (tgt := 22) dX12_giveAll_6 rfl (by decide) (by omega) (by omega) (fun c_6 => ?_) (fun c_6 => ?_)
    · refine x_fg1 (hx I' hI (fun j hj => ?_))
      rw [hz j (by omega)]
      show nI 0 = zb (false || (decide (j < 0) && _))
      rw [decide_eq_false (by omega)]
      rfl
    · refine x_ald0 (n := 10) dX12_giveAll_9 rfl ?_
      refine x_getR (n := 13) flX12_58 rfl dX12_giveAll_10 rfl (rK hZ) (rP_isGiven hZ) ?_
      refine x_ild1 (n := 14) dX12_giveAll_13 rfl ?_
      refine x_ic0 (n := 15) dX12_giveAll_14 rfl ?_
      refine x_ozst (n := 16) dX12_giveAll_15 rfl (rA_isGiven hZ) (by decide) (Nat.le_of_ble_eq_true rfl) (by omega) (by first | exact vpn0 | exact vpn1 | assumption) ?_
      refine x_iincN1 (n := 19) (k := 1) dX12_giveAll_16 rfl (by decide) rfl ?_
      refine x_goto (n := 2) dX12_giveAll_19 (by decide) ?_
      refine ih (d + 1) _ (offG_i hI) (fun j hj => ?_) (by omega) (by omega)
      rw [va_up_same]
      by_cases hjd : j = d
      · subst hjd; exact upd_same
      · rw [upd_off hjd]; exact hz j (by omega)
theorem l2_X12_giveAll (hZ : ShR Z) (hB : InvB g) (hT : InvT g) {k A : Nat} (hk : k < vN g 4)
    (hx : ∀ I' : zI, offG I I' → tkOK g I' (k + 1) 0 → (∀ j, j < k + 1 → I' q_givens j = nI (gGv g j)) → zX l G mX12_giveAll 3 0 0 132 [some (.ref qR), some (.int (nI (A + gGv g k))), some (.int (nI k)), none, none] [] Z (va_up I' q_s g) Q) :
    ∀ m d (I' : zI), offG I I' → tkOK g I' k d → (∀ j, j < k → I' q_givens j = nI (gGv g j)) → I' q_givens k = nI (zct (gP g k) d) → vN g (380 + 3 * k) ≤ d → d ≤ 2000 → (d ≤ vN g (380 + 3 * k + 1) + 1 ∨ d = vN g (380 + 3 * k)) → 2000 - d < m →
      zX l G mX12_giveAll 3 0 0 59 [some (.ref qR), some (.int (nI (A + zct (gP g k) d))), some (.int (nI k)), some (.int (nI (380 + 3 * k))), some (.int (nI d))] [] Z (va_up I' q_s g) Q := by
  have h4 := iv4 hB
  obtain ⟨c0, c1, c2⟩ := ivCl hB hk
  have e1 := rg_nI c1 (by omega) (by omega)
  have l1 := rg_le c1 (by omega)
  intro m
  induction m with
  | zero => intro d I' _ _ _ _ _ _ _ h; exact absurd h (by omega)
  | succ m ih =>
    intro d I' hI ht hg hgk hfd hd hto hm
    refine x_ild4 (n := 61) dX12_giveAll_59 rfl ?_
    refine x_ald0 (n := 62) dX12_giveAll_61 rfl ?_
    refine x_getR (n := 65) flX12_7 rfl dX12_giveAll_62 rfl (rK hZ) (rP_s hZ) ?_
    refine x_ild3 (n := 66) dX12_giveAll_65 rfl ?_
    refine x_ic1 (n := 67) dX12_giveAll_66 rfl ?_
    refine x_iaddN (n := 68) dX12_giveAll_67 rfl ?_
    refine x_sld (n := 69) dX12_giveAll_68 rfl hZ (by omega) ?_
    rw [e1]
    refine x_icmpN_gt (n := 72) (tgt := 132) dX12_giveAll_69 rfl (by decide) (by omega) (by omega) (fun c_69 => ?_) (fun c_69 => ?_)
    · refine x_fg3 (x_fg4 ?_)
      have hP : zct (gP g k) 2000 = zct (gP g k) d := zct_stop hd (fun j h1 h2 => by unfold gP gIn; rw [decide_eq_false (by omega)]; rfl)
      rw [← hP]
      refine hx I' hI (fun j hj => ?_) (fun j hj => ?_)
      · rw [ht j hj]
        show _ = zb (gTk g k j || (gIn g k j && gGr g k j) || (decide (j < 0) && _))
        rw [decide_eq_false (show ¬ j < 0 by omega), Bool.false_and, Bool.or_false]
        by_cases hjd : j < d
        · rw [decide_eq_true hjd, Bool.true_and]
        · rw [decide_eq_false hjd]; unfold gIn; rw [decide_eq_false (show ¬ (vN g (380 + 3 * k) ≤ j ∧ j ≤ vN g (380 + 3 * k + 1)) by omega)]; rfl
      · by_cases hjk : j = k
        · subst hjk; rw [hgk, ← hP]; rfl
        · exact hg j (by omega)
    · have hin : gIn g k d = true := decide_eq_true (by omega)
      have htd : I' q_isGiven d = zb (gTk g k d) := by rw [ht d (by omega), decide_eq_false (show ¬ d < d by omega), Bool.false_and, Bool.or_false]
      refine x_ald0 (n := 73) dX12_giveAll_72 rfl ?_
      refine x_getR (n := 76) flX12_58 rfl dX12_giveAll_73 rfl (rK hZ) (rP_isGiven hZ) ?_
      refine x_ild4 (n := 78) dX12_giveAll_76 rfl ?_
      refine x_ozld (n := 79) dX12_giveAll_78 rfl (rA_isGiven hZ) (by decide) (Nat.le_of_ble_eq_true rfl) (by omega) ?_
      rw [htd]
      refine x_zif_ne (n := 82) (tgt := 126) dX12_giveAll_79 rfl (by decide) (fun c_79 => ?_) (fun c_79 => ?_)
      · have hP : gP g k d = false := by unfold gP; rw [c_79]; simp
        refine x_iincN4 (n := 129) (k := 1) dX12_giveAll_126 rfl (by decide) rfl ?_
        refine x_goto (n := 59) dX12_giveAll_129 (by decide) ?_
        have hz := zct_f hP
        rw [Nat.add_zero] at hz
        rw [hz]
        refine ih (d + 1) I' hI (tk_up (by omega) ht (I' q_isGiven d) (I' q_isGiven) (fun j => by split; (rename_i e; rw [e]); rfl) (by rw [htd, c_79, Bool.true_or]) I' rfl) hg (by rw [hgk, hz]) (by omega) (by omega) (by omega) (by omega)
      · refine x_ald0 (n := 83) dX12_giveAll_82 rfl ?_
        refine x_ic3 (n := 84) dX12_giveAll_83 rfl ?_
        refine x_ald0 (n := 85) dX12_giveAll_84 rfl ?_
        refine x_getR (n := 88) flX12_7 rfl dX12_giveAll_85 rfl (rK hZ) (rP_s hZ) ?_
        refine x_ild3 (n := 89) dX12_giveAll_88 rfl ?_
        refine x_ic2 (n := 90) dX12_giveAll_89 rfl ?_
        refine x_iaddN (n := 91) dX12_giveAll_90 rfl ?_
        refine x_sld (n := 92) dX12_giveAll_91 rfl hZ (by omega) ?_
        refine x_ald0 (n := 93) dX12_giveAll_92 rfl ?_
        refine x_ild4 (n := 95) dX12_giveAll_93 rfl ?_
        refine x_cV1 (n := 98) (d' := 0) zcX12_wetOn mlX12_162 dX12_giveAll_95 rfl (rK hZ) (Nat.le_of_ble_eq_true rfl) (Nat.le_of_ble_eq_true rfl) ?_
        refine c_X12_wetG hZ (by omega) ?_
        refine x_some ?_
        refine x_ic0 (n := 99) dX12_giveAll_98 rfl ?_
        refine x_cV4 (n := 102) (d' := 2) zcX12_ruleOf mlX12_193 dX12_giveAll_99 rfl (rK hZ) (Nat.le_of_ble_eq_true rfl) (Nat.le_of_ble_eq_true rfl) ?_
        refine c_X12_ruleOf hZ hB hT (key := 3) (by omega) (fun I2 hI2 => ?_)
        refine x_some ?_
        refine x_if_eq (n := 105) (tgt := 126) dX12_giveAll_102 rfl (by decide) (fun c_102 => ?_) (fun c_102 => ?_)
        · have hgr : gGr g k d = false := decide_eq_false (fun h => h c_102)
          have hP : gP g k d = false := by unfold gP; rw [hgr]; simp
          refine x_iincN4 (n := 129) (k := 1) dX12_giveAll_126 rfl (by decide) rfl ?_
          refine x_goto (n := 59) dX12_giveAll_129 (by decide) ?_
          have hz := zct_f hP
          rw [Nat.add_zero] at hz
          rw [hz]
          have ei : I2 q_isGiven = I' q_isGiven := hI2 _ (by decide) (by decide)
          have eg : I2 q_givens = I' q_givens := hI2 _ (by decide) (by decide)
          refine ih (d + 1) I2 (offG_R hI hI2) (tk_up (by omega) ht (I' q_isGiven d) (I' q_isGiven) (fun j => by split; (rename_i e; rw [e]); rfl) (by rw [htd, hgr, Bool.and_false, Bool.or_false]) I2 ei) (by rw [eg]; exact hg) (by rw [eg, hgk, hz]) (by omega) (by omega) (by omega) (by omega)
        · have hgr : gGr g k d = true := decide_eq_true c_102
          have hP : gP g k d = true := by unfold gP; rw [hgr, hin, c_79]; rfl
          have hz := zct_t hP
          have ei : I2 q_isGiven = I' q_isGiven := hI2 _ (by decide) (by decide)
          have eg : I2 q_givens = I' q_givens := hI2 _ (by decide) (by decide)
          refine x_ald0 (n := 106) dX12_giveAll_105 rfl ?_
          refine x_getR (n := 109) flX12_58 rfl dX12_giveAll_106 rfl (rK hZ) (rP_isGiven hZ) ?_
          refine x_ild4 (n := 111) dX12_giveAll_109 rfl ?_
          refine x_ic1 (n := 112) dX12_giveAll_111 rfl ?_
          refine x_ozst (n := 113) dX12_giveAll_112 rfl (rA_isGiven hZ) (by decide) (Nat.le_of_ble_eq_true rfl) (by omega) (by first | exact vpn0 | exact vpn1 | assumption) ?_
          refine x_ald0 (n := 114) dX12_giveAll_113 rfl ?_
          refine x_getR (n := 117) flX12_62 rfl dX12_giveAll_114 rfl (rK hZ) (rP_givens hZ) ?_
          refine x_ild2 (n := 118) dX12_giveAll_117 rfl ?_
          refine x_dup2 (n := 119) dX12_giveAll_118 rfl rfl rfl ?_
          refine x_old (n := 120) dX12_giveAll_119 rfl (rA_givens hZ) (by decide) (Nat.le_of_ble_eq_true rfl) (by omega) ?_
          rw [show va_up I2 q_isGiven (upd (I2 q_isGiven) d (nI 1)) q_givens k = nI (zct (gP g k) d) by rw [va_up_off (by decide), eg]; exact hgk]
          refine x_ic1 (n := 121) dX12_giveAll_120 rfl ?_
          refine x_iaddN (n := 122) dX12_giveAll_121 rfl ?_
          refine x_ost (n := 123) dX12_giveAll_122 rfl (rA_givens hZ) (by decide) (Nat.le_of_ble_eq_true rfl) (by omega) ?_
          refine x_iincN1 (n := 126) (k := 1) dX12_giveAll_123 rfl (by decide) rfl ?_
          refine x_iincN4 (n := 129) (k := 1) dX12_giveAll_126 rfl (by decide) rfl ?_
          refine x_goto (n := 59) dX12_giveAll_129 (by decide) ?_
          rw [Nat.add_assoc A, hz]
          refine ih (d + 1) _ (offG_g (offG_i (offG_R hI hI2))) (tk_up (by omega) ht (nI 1) (upd (I' q_isGiven) d (nI 1)) (fun j => rfl) (by rw [hin, hgr, Bool.and_true, Bool.or_true]; rfl) _ (by rw [va_up_off (by decide), va_up_same, ei])) (fun j hj => ?_) ?_ (by omega) (by omega) (by omega) (by omega)
          · rw [va_up_same, upd_off (by omega), va_up_off (by decide), eg]; exact hg j hj
          · rw [va_up_same, upd_same]
theorem gGv_le (k : Nat) : gGv g k ≤ 2000 := zct_le _ _
theorem zsum_le {f : Nat → Nat} {c : Nat} (hf : ∀ k, f k ≤ c) : ∀ n, zsum f n ≤ n * c
  | 0 => by simp [zsum]
  | n + 1 => by
    have := zsum_le hf n
    have h2 := hf n
    unfold zsum
    rw [Nat.succ_mul]; omega
theorem l3_X12_giveAll (hZ : ShR Z) (hB : InvB g) (hT : InvT g) (hq : ∀ I' : zI, offG I I' → (∀ j, j < vN g 4 → I' q_givens j = nI (gGv g j)) → Q (some (.int (nI (zsum (gGv g) (vN g 4))))) Z (va_up I' q_s g)) : ∀ m k (I' : zI), offG I I' → tkOK g I' k 0 → (∀ j, j < k → I' q_givens j = nI (gGv g j)) → k ≤ vN g 4 → vN g 4 - k < m → zX l G mX12_giveAll 3 0 0 26 [some (.ref qR), some (.int (nI (zsum (gGv g) k))), some (.int (nI k)), none, none] [] Z (va_up I' q_s g) Q := by
  have h4 := iv4 hB
  intro m
  induction m with
  | zero => intro k I' _ _ _ _ h; exact absurd h (by omega)
  | succ m ih =>
    intro k I' hI ht hg hk hm
    refine x_ild2 (n := 27) dX12_giveAll_26 rfl ?_
    refine x_ald0 (n := 28) dX12_giveAll_27 rfl ?_
    refine x_getR (n := 31) flX12_7 rfl dX12_giveAll_28 rfl (rK hZ) (rP_s hZ) ?_
    refine x_ic4 (n := 32) dX12_giveAll_31 rfl ?_
    refine x_sld (n := 33) dX12_giveAll_32 rfl hZ (by omega) ?_
    rw [h4.1]
    refine x_icmpN_ge (n := 36) (tgt := 138) dX12_giveAll_33 rfl (by decide) (by omega) (by omega) (fun c_33 => ?_) (fun c_33 => ?_)
    · refine x_ild1 (n := 139) dX12_giveAll_138 rfl ?_
      refine r_iret dX12_giveAll_139 rfl ?_
      have hkn : k = vN g 4 := by omega
      subst hkn
      exact hq I' hI hg
    · have hk2 : k < vN g 4 := by omega
      obtain ⟨c0, c1, c2⟩ := ivCl hB hk2
      have e0 := rg_nI c0 (by omega) (by omega)
      have l0 := rg_le c0 (by omega)
      refine x_sipush (n := 39) (v := nI 380) dX12_giveAll_36 rfl (by decide) ?_
      refine x_ic3 (n := 40) dX12_giveAll_39 rfl ?_
      refine x_ild2 (n := 41) dX12_giveAll_40 rfl ?_
      refine x_imulN (n := 42) dX12_giveAll_41 rfl ?_
      refine x_iaddN (n := 43) dX12_giveAll_42 rfl ?_
      refine x_ist3 (n := 44) dX12_giveAll_43 rfl (by decide) rfl ?_
      refine x_ald0 (n := 45) dX12_giveAll_44 rfl ?_
      refine x_getR (n := 48) flX12_62 rfl dX12_giveAll_45 rfl (rK hZ) (rP_givens hZ) ?_
      refine x_ild2 (n := 49) dX12_giveAll_48 rfl ?_
      refine x_ic0 (n := 50) dX12_giveAll_49 rfl ?_
      refine x_ost (n := 51) dX12_giveAll_50 rfl (rA_givens hZ) (by decide) (Nat.le_of_ble_eq_true rfl) (by omega) ?_
      refine x_ald0 (n := 52) dX12_giveAll_51 rfl ?_
      refine x_getR (n := 55) flX12_7 rfl dX12_giveAll_52 rfl (rK hZ) (rP_s hZ) ?_
      refine x_ild3 (n := 56) dX12_giveAll_55 rfl ?_
      refine x_sld (n := 57) dX12_giveAll_56 rfl hZ (by omega) ?_
      rw [e0]
      refine x_ist4 (n := 59) dX12_giveAll_57 rfl (by decide) rfl ?_
      have hz : zct (gP g k) (vN g (380 + 3 * k)) = 0 := zct_0 (fun j hj => by unfold gP gIn; rw [decide_eq_false (by omega)]; rfl)
      have := l2_X12_giveAll (l := l) (G := G) (Q := Q) (I := I) (A := zsum (gGv g) k) hZ hB hT hk2 (fun I2 hI2 ht2 hg2 => ?_) (2001) (vN g (380 + 3 * k)) (va_up I' q_givens (upd (I' q_givens) k (nI 0))) (offG_g hI) ?_ ?_ ?_ (by omega) (by omega) (by omega) (by omega)
      · rw [hz, Nat.add_zero] at this; exact this
      · refine x_iincN2 (n := 135) (k := 1) dX12_giveAll_132 rfl (by decide) rfl ?_
        refine x_goto (n := 26) dX12_giveAll_135 (by decide) ?_
        exact ih (k + 1) I2 hI2 ht2 hg2 (by omega) (by omega)
      · intro j hj
        rw [va_up_off (by decide), ht j hj, decide_eq_false (show ¬ j < 0 by omega), Bool.false_and]
        by_cases hjd : j < vN g (380 + 3 * k)
        · unfold gIn; rw [decide_eq_false (show ¬ (vN g (380 + 3 * k) ≤ j ∧ j ≤ vN g (380 + 3 * k + 1)) by omega), Bool.false_and, Bool.and_false]
        · rw [decide_eq_false hjd, Bool.false_and]
      · intro j hj; rw [va_up_same, upd_off (by omega)]; exact hg j hj
      · rw [va_up_same, upd_same, hz]
theorem c_X12_giveAll (hZ : ShR Z) (hB : InvB g) (hT : InvT g) (hq : ∀ I' : zI, offG I I' → (∀ j, j < vN g 4 → I' q_givens j = nI (gGv g j)) → Q (some (.int (nI (zsum (gGv g) (vN g 4))))) Z (va_up I' q_s g)) : zM l G mX12_giveAll 3 0 0 [.ref qR] Z (va_up I q_s g) Q := by
  refine x_entry [some (.ref qR), none, none, none, none] 4 rfl rfl (Nat.le_of_ble_eq_true rfl) ?_
  refine x_ic0 (n := 1) dX12_giveAll_0 rfl ?_
  refine x_ist1 (n := 2) dX12_giveAll_1 rfl (by decide) rfl ?_
  refine l1_X12_giveAll (s0 := none) (s1 := none) hZ (fun I' hI ht => ?_) 2001 0 I (fun _ _ _ _ _ => rfl) (fun j hj => absurd hj (by omega)) (by omega) (by omega)
  refine x_ic0 (n := 23) dX12_giveAll_22 rfl ?_
  refine x_ist1 (n := 24) dX12_giveAll_23 rfl (by decide) rfl ?_
  refine x_ic0 (n := 25) dX12_giveAll_24 rfl ?_
  refine x_ist2 (n := 26) dX12_giveAll_25 rfl (by decide) rfl ?_
  exact l3_X12_giveAll hZ hB hT hq (vN g 4 + 1) 0 I' hI ht (fun j hj => absurd hj (by omega)) (by omega) (by omega)
theorem c_X12_given (hZ : ShR Z) (hB : InvB g) (hT : InvT g) {x : Int32} (hq : ∀ I' : zI, offG I I' → Q (some (.int (f_given g x))) Z (va_up I' q_s g)) : zM l G mX12_given 4 0 0 [.ref qR, .int x] Z (va_up I q_s g) Q := by
  have h4 := iv4 hB
  refine x_entry [some (.ref qR), some (.int x), none] 1 rfl rfl (Nat.le_of_ble_eq_true rfl) ?_
  unfold f_given at hq
  refine x_ild1 (n := 1) dX12_given_0 rfl ?_
  refine x_i2l (n := 2) dX12_given_1 rfl ?_
  refine x_lconst (n := 3) (v := 0) dX12_given_2 rfl (by decide) ?_
  refine x_ald0 (n := 4) dX12_given_3 rfl ?_
  refine x_getR (n := 7) flX12_7 rfl dX12_given_4 rfl (rK hZ) (rP_s hZ) ?_
  refine x_ic4 (n := 8) dX12_given_7 rfl ?_
  refine x_sld (n := 9) dX12_given_8 rfl hZ (by omega) ?_
  rw [h4.1]
  refine x_ic1 (n := 10) dX12_given_9 rfl ?_
  refine x_isub (n := 11) dX12_given_10 rfl ?_
  refine x_i2l (n := 12) dX12_given_11 rfl ?_
  refine x_cS3 (n := 15) (d' := 0) zcX12_isIn mlX12_89 dX12_given_12 rfl (Nat.le_of_ble_eq_true rfl) (Nat.le_of_ble_eq_true rfl) ?_
  refine c_X12_isIn (zin x 0 ((vN g 4 : Int) - 1)) (by unfold zin; simp only [zI64]; rw [pk_sub_toInt (by omega) (by omega)]; rfl) ?_
  refine x_some ?_
  refine x_zif_ne (n := 18) (tgt := 21) dX12_given_15 rfl (by decide) (fun c_15 => ?_) (fun c_15 => ?_)
  · rw [if_pos c_15] at hq
    obtain ⟨c, hc, rfl⟩ := z_chain c_15
    rw [ix_nI (by omega)] at hq
    refine x_ald0 (n := 22) dX12_given_21 rfl ?_
    refine x_cV0 (n := 25) (d' := 3) zcX12_giveAll mlX12_327 dX12_given_22 rfl (rK hZ) (Nat.le_of_ble_eq_true rfl) (Nat.le_of_ble_eq_true rfl) ?_
    refine c_X12_giveAll hZ hB hT (fun I' hI' hg => ?_)
    refine x_some ?_
    refine x_ist2 (n := 26) dX12_given_25 rfl (by decide) rfl ?_
    refine x_ald0 (n := 27) dX12_given_26 rfl ?_
    refine x_getR (n := 30) flX12_62 rfl dX12_given_27 rfl (rK hZ) (rP_givens hZ) ?_
    refine x_ild1 (n := 31) dX12_given_30 rfl ?_
    refine x_old (n := 32) dX12_given_31 rfl (rA_givens hZ) (by decide) (Nat.le_of_ble_eq_true rfl) (by omega) ?_
    rw [hg c hc]
    refine r_iret dX12_given_32 rfl ?_
    exact hq I' hI'
  · rw [if_neg (by grind)] at hq
    refine x_ldc (n := 20) dX12_given_18 rfl kiX12_100 ?_
    refine r_iret dX12_given_20 rfl ?_
    exact hq I (fun _ _ _ _ _ => rfl)
theorem c_X12_late (hZ : ShR Z) (hB : InvB g) (hT : InvT g) {x : Int32} (hq : ∀ I' : zI, offG I I' → Q (some (.int (f_late g x))) Z (va_up I' q_s g)) : zM l G mX12_late 4 0 0 [.ref qR, .int x] Z (va_up I q_s g) Q := by
  refine x_entry [some (.ref qR), some (.int x), none] 1 rfl rfl (Nat.le_of_ble_eq_true rfl) ?_
  unfold f_late at hq
  refine x_ild1 (n := 1) dX12_late_0 rfl ?_
  refine x_i2l (n := 2) dX12_late_1 rfl ?_
  refine x_lconst (n := 3) (v := 0) dX12_late_2 rfl (by decide) ?_
  refine x_ldc2 (n := 6) dX12_late_3 rfl klX12_147 ?_
  refine x_cS3 (n := 9) (d' := 0) zcX12_isIn mlX12_89 dX12_late_6 rfl (Nat.le_of_ble_eq_true rfl) (Nat.le_of_ble_eq_true rfl) ?_
  refine c_X12_isIn (zin x 0 9999) (by unfold zin; rw [zI64]; rfl) ?_
  refine x_some ?_
  refine x_zif_ne (n := 12) (tgt := 15) dX12_late_9 rfl (by decide) (fun c_9 => ?_) (fun c_9 => ?_)
  · rw [if_pos c_9] at hq
    refine x_ild1 (n := 16) dX12_late_15 rfl ?_
    refine x_ald0 (n := 17) dX12_late_16 rfl ?_
    refine x_getR (n := 20) flX12_7 rfl dX12_late_17 rfl (rK hZ) (rP_s hZ) ?_
    refine x_bipush (n := 22) (v := nI 16) dX12_late_20 rfl (by decide) ?_
    refine x_sld (n := 23) dX12_late_22 rfl hZ (by omega) ?_
    refine x_isub (n := 24) dX12_late_23 rfl ?_
    refine x_ald0 (n := 25) dX12_late_24 rfl ?_
    refine x_cV0 (n := 28) (d' := 3) zcX12_giveAll mlX12_327 dX12_late_25 rfl (rK hZ) (Nat.le_of_ble_eq_true rfl) (Nat.le_of_ble_eq_true rfl) ?_
    refine c_X12_giveAll hZ hB hT (fun I' hI' hg => ?_)
    refine x_some ?_
    refine x_isub (n := 29) dX12_late_28 rfl ?_
    refine x_ist2 (n := 30) dX12_late_29 rfl (by decide) rfl ?_
    refine x_ald0 (n := 31) dX12_late_30 rfl ?_
    refine x_ic2 (n := 32) dX12_late_31 rfl ?_
    refine x_ild2 (n := 33) dX12_late_32 rfl ?_
    refine x_if_ge (n := 36) (tgt := 40) dX12_late_33 rfl (by decide) (fun c_33 => ?_) (fun c_33 => ?_)
    · refine x_ild2 (n := 41) dX12_late_40 rfl ?_
      refine x_ic0 (n := 42) dX12_late_41 rfl ?_
      refine x_ic0 (n := 43) dX12_late_42 rfl ?_
      refine x_cV4 (n := 46) (d' := 2) zcX12_ruleOf mlX12_193 dX12_late_43 rfl (rK hZ) (Nat.le_of_ble_eq_true rfl) (Nat.le_of_ble_eq_true rfl) ?_
      refine c_X12_ruleOf hZ hB hT (key := 2) (by omega) (fun I2 hI2 => ?_)
      refine x_some ?_
      refine r_iret dX12_late_46 rfl ?_
      have hq2 := hq I2 (offG_R hI' hI2)
      unfold gLate at hq2
      first | (rw [if_neg (Int32.not_lt.mpr c_33)] at hq2; exact hq2) | (rw [if_pos (Int32.not_le.mp c_33)] at hq2; exact hq2)
    · refine x_ic0 (n := 37) dX12_late_36 rfl ?_
      refine x_goto (n := 41) dX12_late_37 (by decide) ?_
      refine x_ic0 (n := 42) dX12_late_41 rfl ?_
      refine x_ic0 (n := 43) dX12_late_42 rfl ?_
      refine x_cV4 (n := 46) (d' := 2) zcX12_ruleOf mlX12_193 dX12_late_43 rfl (rK hZ) (Nat.le_of_ble_eq_true rfl) (Nat.le_of_ble_eq_true rfl) ?_
      refine c_X12_ruleOf hZ hB hT (key := 2) (by omega) (fun I2 hI2 => ?_)
      refine x_some ?_
      refine r_iret dX12_late_46 rfl ?_
      have hq2 := hq I2 (offG_R hI' hI2)
      unfold gLate at hq2
      first | (rw [if_neg (Int32.not_lt.mpr c_33)] at hq2; exact hq2) | (rw [if_pos (Int32.not_le.mp c_33)] at hq2; exact hq2)
  · rw [if_neg (by grind)] at hq
    refine x_ldc (n := 14) dX12_late_12 rfl kiX12_100 ?_
    refine r_iret dX12_late_14 rfl ?_
    exact hq I (fun _ _ _ _ _ => rfl)
end
