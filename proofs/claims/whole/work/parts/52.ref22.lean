/-! ===== levels ===== -/
def cst (g : Nat → Int32) (c l : Nat) : Nat := if l < vN g (20 + 4 * c) then vN g 12 * (vN g (20 + 4 * c) - l) else vN g 13 * (l - vN g (20 + 4 * c))
def near (a l : Nat) : Nat := l - a + (a - l)
def chpF (f : Nat → Nat) (a sl : Nat) : Nat → Option Nat
  | 0 => none
  | l + 1 => if near a l ≤ sl ∧ (∀ b, chpF f a sl l = some b → f l < f b) then some l else chpF f a sl l
def chp (f : Nat → Nat) (a sl : Nat) : Nat := (chpF f a sl 100).getD 0
def onw (g : Nat → Int32) : Nat → Nat → Nat
  | 0, l => cst g (vN g 0 - 1) l
  | i + 1, l => cst g (vN g 0 - 1 - (i + 1)) l + onw g i (chp (onw g i) l (vN g 11))
def lev (g : Nat → Int32) : Nat → Nat
  | 0 => chp (onw g (vN g 0 - 1)) 0 99
  | c + 1 => chp (onw g (vN g 0 - 1 - (c + 1))) (lev g c) (vN g 11)
def gCost (g : Nat → Int32) : Nat := onw g (vN g 0 - 1) (lev g 0)
def f_best (g : Nat → Int32) (x : Int32) : Int32 := if x = -1 then nI (gCost g) else if zin x 0 ((vN g 0 : Int) - 1) = true then nI (lev g (ix x)) else -1000000001
def gLay (g : Nat → Int32) (f : Nat → Nat) : Nat → (Nat → Int32)
  | 0 => g
  | c + 1 => upd (gLay g f c) (20 + 4 * c + 1) (nI (f c))
theorem chpF_lt {f : Nat → Nat} {a sl : Nat} : ∀ {n t : Nat}, chpF f a sl n = some t → t < n
  | 0, t, h => by cases h
  | n + 1, t, h => by
    unfold chpF at h
    split at h
    · cases h; omega
    · have := chpF_lt h; omega
theorem chpF_some {f : Nat → Nat} {a sl : Nat} : ∀ {n : Nat}, a < n → ∃ t, chpF f a sl n = some t
  | 0, h => absurd h (by omega)
  | n + 1, h => by
    unfold chpF
    split
    · exact ⟨n, rfl⟩
    · rename_i hn
      by_cases e : a = n
      · subst e
        cases hc : chpF f a sl a with
        | some t => exact ⟨t, rfl⟩
        | none => exact absurd ⟨by unfold near; omega, fun b hb => by rw [hc] at hb; cases hb⟩ hn
      · exact chpF_some (by omega)
theorem chp_eq {f : Nat → Nat} {a sl : Nat} (ha : a < 100) : chpF f a sl 100 = some (chp f a sl) ∧ chp f a sl < 100 := by
  obtain ⟨t, ht⟩ := chpF_some (f := f) (sl := sl) ha
  have h2 := chpF_lt ht
  unfold chp
  rw [ht]
  exact ⟨rfl, h2⟩
section
variable {l : Launch} {G : zG} {Z : zS} {I : zI} {g : Nat → Int32} {Q : Option Value → zS → zI → Prop}
theorem ivR1 (hB : InvB g) : g 12 = nI (vN g 12) ∧ vN g 12 ≤ 9 := by
  have h : rg (g 12) 0 9 := ivR hB (k := 1) (by omega)
  exact ⟨rg_nI h (by omega) (by omega), by have := rg_le h (by omega); omega⟩
theorem ivR2 (hB : InvB g) : g 13 = nI (vN g 13) ∧ vN g 13 ≤ 9 := by
  have h : rg (g 13) 0 9 := ivR hB (k := 2) (by omega)
  exact ⟨rg_nI h (by omega) (by omega), by have := rg_le h (by omega); omega⟩
theorem ivR0 (hB : InvB g) : g 11 = nI (vN g 11) ∧ vN g 11 ≤ 9 := by
  have h : rg (g 11) 0 9 := ivR hB (k := 0) (by omega)
  exact ⟨rg_nI h (by omega) (by omega), by have := rg_le h (by omega); omega⟩
theorem cst_le (hB : InvB g) {c k : Nat} (hc : c < vN g 0) (hk : k < 100) : cst g c k ≤ 891 := by
  have h1 := ivR1 hB
  have h2 := ivR2 hB
  have h3 := rg_le (ivC hB hc).1 (by omega)
  unfold cst
  split
  · exact Nat.le_trans (Nat.mul_le_mul h1.2 (show vN g (20 + 4 * c) - k ≤ 99 by omega)) (by omega)
  · exact Nat.le_trans (Nat.mul_le_mul h2.2 (show k - vN g (20 + 4 * c) ≤ 99 by omega)) (by omega)
theorem onw_le (hB : InvB g) : ∀ i k, i < vN g 0 → k < 100 → onw g i k ≤ 891 * (i + 1)
  | 0, k, h, hk => by
    have h0 := iv0 hB
    exact cst_le hB (by omega) hk
  | i + 1, k, h, hk => by
    have h0 := iv0 hB
    have a := cst_le hB (show vN g 0 - 1 - (i + 1) < vN g 0 by omega) hk
    have b := onw_le hB i (chp (onw g i) k (vN g 11)) (by omega) (chp_eq hk).2
    show cst g (vN g 0 - 1 - (i + 1)) k + onw g i (chp (onw g i) k (vN g 11)) ≤ _
    omega
theorem lev_lt : ∀ c, lev g c < 100
  | 0 => (chp_eq (by omega)).2
  | c + 1 => (chp_eq (lev_lt c)).2
theorem c_X12_costAt (hZ : ShR Z) (hB : InvB g) {c k : Nat} (hc : c < vN g 0) (hk : k < 100) (hq : Q (some (.int (nI (cst g c k)))) Z (va_up I q_s g)) : zM l G mX12_costAt 1 0 0 [.ref qR, .int (nI c), .int (nI k)] Z (va_up I q_s g) Q := by
  have h0 := iv0 hB
  have h1 := ivR1 hB
  have h2 := ivR2 hB
  have h3 := (ivC hB hc).1
  have e3 := rg_nI h3 (by omega) (by omega)
  have l3 := rg_le h3 (by omega)
  refine x_entry [some (.ref qR), some (.int (nI c)), some (.int (nI k)), none] 1 rfl rfl (Nat.le_of_ble_eq_true rfl) ?_
  unfold cst at hq
  refine x_ald0 (n := 1) dX12_costAt_0 rfl ?_
  refine x_getR (n := 4) flX12_7 rfl dX12_costAt_1 rfl (rK hZ) (rP_s hZ) ?_
  refine x_ald0 (n := 5) dX12_costAt_4 rfl ?_
  refine x_ild1 (n := 6) dX12_costAt_5 rfl ?_
  refine x_cV1 (n := 9) (d' := 0) zcX12_chainAt mlX12_84 dX12_costAt_6 rfl (rK hZ) (Nat.le_of_ble_eq_true rfl) (Nat.le_of_ble_eq_true rfl) ?_
  refine c_X12_chainAt ?_
  refine x_some ?_
  refine x_ic0 (n := 10) dX12_costAt_9 rfl ?_
  refine x_iaddN (n := 11) dX12_costAt_10 rfl ?_
  refine x_sld (n := 12) dX12_costAt_11 rfl hZ (by omega) ?_
  rw [Nat.add_zero, e3]
  refine x_ild2 (n := 13) dX12_costAt_12 rfl ?_
  refine x_isub (n := 14) dX12_costAt_13 rfl ?_
  refine x_ist3 (n := 15) dX12_costAt_14 rfl (by decide) rfl ?_
  refine x_ild3 (n := 16) dX12_costAt_15 rfl ?_
  refine x_if_le (n := 19) (tgt := 31) dX12_costAt_16 rfl (by decide) (fun c_16 => ?_) (fun c_16 => ?_)
  · rw [Int32.le_iff_toInt_le, pk_sub_toInt (by omega) (by omega), Int32.toInt_zero] at c_16
    refine x_ald0 (n := 32) dX12_costAt_31 rfl ?_
    refine x_getR (n := 35) flX12_7 rfl dX12_costAt_32 rfl (rK hZ) (rP_s hZ) ?_
    refine x_bipush (n := 37) (v := nI 13) dX12_costAt_35 rfl (by decide) ?_
    refine x_sld (n := 38) dX12_costAt_37 rfl hZ (by omega) ?_
    rw [h2.1]
    refine x_ild3 (n := 39) dX12_costAt_38 rfl ?_
    refine x_ineg (n := 40) dX12_costAt_39 rfl ?_
    refine x_imul (n := 41) dX12_costAt_40 rfl ?_
    refine r_iret dX12_costAt_41 rfl ?_
    first | (rw [if_pos (by omega)] at hq; rw [pk_sub (by omega), pk_mul]; exact hq) | (rw [if_neg (by omega)] at hq; rw [Int32.neg_sub, pk_sub (by omega), pk_mul]; exact hq)
  · rw [Int32.le_iff_toInt_le, pk_sub_toInt (by omega) (by omega), Int32.toInt_zero] at c_16
    refine x_ald0 (n := 20) dX12_costAt_19 rfl ?_
    refine x_getR (n := 23) flX12_7 rfl dX12_costAt_20 rfl (rK hZ) (rP_s hZ) ?_
    refine x_bipush (n := 25) (v := nI 12) dX12_costAt_23 rfl (by decide) ?_
    refine x_sld (n := 26) dX12_costAt_25 rfl hZ (by omega) ?_
    rw [h1.1]
    refine x_ild3 (n := 27) dX12_costAt_26 rfl ?_
    refine x_imul (n := 28) dX12_costAt_27 rfl ?_
    refine x_goto (n := 41) dX12_costAt_28 (by decide) ?_
    refine r_iret dX12_costAt_41 rfl ?_
    first | (rw [if_pos (by omega)] at hq; rw [pk_sub (by omega), pk_mul]; exact hq) | (rw [if_neg (by omega)] at hq; rw [Int32.neg_sub, pk_sub (by omega), pk_mul]; exact hq)
theorem l_X12_cheapest (hZ : ShR Z) {c a sl : Nat} {f : Nat → Nat} (hc : c < 24) (ha : a < 100) (hs : sl < 100) (hO : ∀ k, k < 100 → I q_onward (100 * c + k) = nI (f k)) (hf : ∀ k, k < 100 → f k < 1000000) (hq : Q (some (.int (oI (chpF f a sl 100)))) Z (va_up I q_s g)) : ∀ m k, k ≤ 100 → 100 - k < m → zX l G mX12_cheapest 1 0 0 6 [some (.ref qR), some (.int (nI c)), some (.int (nI a)), some (.int (nI sl)), some (.int (oI (chpF f a sl k))), some (.int (nI k))] [] Z (va_up I q_s g) Q := by
  intro m
  induction m with
  | zero => intro k _ h; exact absurd h (by omega)
  | succ m ih =>
    intro k hk hm
    by_cases hkn : k = 100
    · subst hkn
      refine x_ild5 (n := 8) dX12_cheapest_6 rfl ?_
      refine x_bipush (n := 10) (v := nI 100) dX12_cheapest_8 rfl (by decide) ?_
      refine x_icmpN_ge (n := 13) (tgt := 66) dX12_cheapest_10 rfl (by decide) (by omega) (by omega) (fun c_10 => ?_) (fun c_10 => ?_)
      · refine x_ild4 (n := 68) dX12_cheapest_66 rfl ?_
        refine r_iret dX12_cheapest_68 rfl ?_
        exact hq
      · exact absurd c_10 (by omega)
    · have step : ∀ (o : Option Nat), (if near a k ≤ sl ∧ (∀ b, chpF f a sl k = some b → f k < f b) then some k else chpF f a sl k) = o → zX l G mX12_cheapest 1 0 0 6 [some (.ref qR), some (.int (nI c)), some (.int (nI a)), some (.int (nI sl)), some (.int (oI o)), some (.int (nI (k + 1)))] [] Z (va_up I q_s g) Q := by
        intro o ho
        have := ih (k + 1) (by omega) (by omega)
        rw [show chpF f a sl (k + 1) = o from ho] at this
        exact this
      have hfk := hf k (by omega)
      cases hcc : chpF f a sl k with
      | none =>
        show zX l G mX12_cheapest 1 0 0 6 [some (.ref qR), some (.int (nI c)), some (.int (nI a)), some (.int (nI sl)), some (.int (-1)), some (.int (nI k))] [] Z (va_up I q_s g) Q
        refine x_ild5 (n := 8) dX12_cheapest_6 rfl ?_
        refine x_bipush (n := 10) (v := nI 100) dX12_cheapest_8 rfl (by decide) ?_
        refine x_icmpN_ge (n := 13) (tgt := 66) dX12_cheapest_10 rfl (by decide) (by omega) (by omega) (fun c_10 => ?_) (fun c_10 => ?_)
        · exact absurd c_10 (by omega)
        · refine x_ild5 (n := 15) dX12_cheapest_13 rfl ?_
          refine x_ild2 (n := 16) dX12_cheapest_15 rfl ?_
          refine x_isub (n := 17) dX12_cheapest_16 rfl ?_
          refine x_cS1 (n := 20) (d' := 0) zcX12_size mlX12_125 dX12_cheapest_17 rfl (Nat.le_of_ble_eq_true rfl) (Nat.le_of_ble_eq_true rfl) ?_
          refine c_X12_size ?_
          refine x_some ?_
          rw [zabs (by omega) (by omega)]
          refine x_ild3 (n := 21) dX12_cheapest_20 rfl ?_
          refine x_icmpN_gt (n := 24) (tgt := 60) dX12_cheapest_21 rfl (by decide) (by omega) (by omega) (fun c_21 => ?_) (fun c_21 => ?_)
          · refine x_iincN5 (n := 63) (k := 1) dX12_cheapest_60 rfl (by decide) rfl ?_
            refine x_goto (n := 6) dX12_cheapest_63 (by decide) ?_
            first | exact step none (by rw [hcc]; exact if_neg (fun h => by unfold near at h; omega)) | exact step (some k) (by rw [hcc]; exact if_pos ⟨by unfold near; omega, fun b hb => by cases hb⟩)
          · refine x_ild4 (n := 26) dX12_cheapest_24 rfl ?_
            refine x_if_lt (n := 29) (tgt := 56) dX12_cheapest_26 rfl (by decide) (fun c_26 => ?_) (fun c_26 => ?_)
            · refine x_ild5 (n := 58) dX12_cheapest_56 rfl ?_
              refine x_ist4 (n := 60) dX12_cheapest_58 rfl (by decide) rfl ?_
              refine x_iincN5 (n := 63) (k := 1) dX12_cheapest_60 rfl (by decide) rfl ?_
              refine x_goto (n := 6) dX12_cheapest_63 (by decide) ?_
              first | exact step none (by rw [hcc]; exact if_neg (fun h => by unfold near at h; omega)) | exact step (some k) (by rw [hcc]; exact if_pos ⟨by unfold near; omega, fun b hb => by cases hb⟩)
            · exact absurd (by decide) c_26
      | some b =>
        have hb := chpF_lt hcc
        have hfb := hf b (by omega)
        show zX l G mX12_cheapest 1 0 0 6 [some (.ref qR), some (.int (nI c)), some (.int (nI a)), some (.int (nI sl)), some (.int (nI b)), some (.int (nI k))] [] Z (va_up I q_s g) Q
        refine x_ild5 (n := 8) dX12_cheapest_6 rfl ?_
        refine x_bipush (n := 10) (v := nI 100) dX12_cheapest_8 rfl (by decide) ?_
        refine x_icmpN_ge (n := 13) (tgt := 66) dX12_cheapest_10 rfl (by decide) (by omega) (by omega) (fun c_10 => ?_) (fun c_10 => ?_)
        · exact absurd c_10 (by omega)
        · refine x_ild5 (n := 15) dX12_cheapest_13 rfl ?_
          refine x_ild2 (n := 16) dX12_cheapest_15 rfl ?_
          refine x_isub (n := 17) dX12_cheapest_16 rfl ?_
          refine x_cS1 (n := 20) (d' := 0) zcX12_size mlX12_125 dX12_cheapest_17 rfl (Nat.le_of_ble_eq_true rfl) (Nat.le_of_ble_eq_true rfl) ?_
          refine c_X12_size ?_
          refine x_some ?_
          rw [zabs (by omega) (by omega)]
          refine x_ild3 (n := 21) dX12_cheapest_20 rfl ?_
          refine x_icmpN_gt (n := 24) (tgt := 60) dX12_cheapest_21 rfl (by decide) (by omega) (by omega) (fun c_21 => ?_) (fun c_21 => ?_)
          · refine x_iincN5 (n := 63) (k := 1) dX12_cheapest_60 rfl (by decide) rfl ?_
            refine x_goto (n := 6) dX12_cheapest_63 (by decide) ?_
            first | exact step (some b) (by rw [hcc]; exact if_neg (fun h => by unfold near at h; omega)) | exact step (some b) (by rw [hcc]; exact if_neg (fun h => by have := h.2 b rfl; omega)) | exact step (some k) (by rw [hcc]; exact if_pos ⟨by unfold near; omega, fun b2 hb2 => by cases hb2; omega⟩)
          · refine x_ild4 (n := 26) dX12_cheapest_24 rfl ?_
            refine x_if_lt (n := 29) (tgt := 56) dX12_cheapest_26 rfl (by decide) (fun c_26 => ?_) (fun c_26 => ?_)
            · exact absurd c_26 (nI_pos (by omega))
            · refine x_ald0 (n := 30) dX12_cheapest_29 rfl ?_
              refine x_getR (n := 33) flX12_37 rfl dX12_cheapest_30 rfl (rK hZ) (rP_onward hZ) ?_
              refine x_bipush (n := 35) (v := nI 100) dX12_cheapest_33 rfl (by decide) ?_
              refine x_ild1 (n := 36) dX12_cheapest_35 rfl ?_
              refine x_imulN (n := 37) dX12_cheapest_36 rfl ?_
              refine x_ild5 (n := 39) dX12_cheapest_37 rfl ?_
              refine x_iaddN (n := 40) dX12_cheapest_39 rfl ?_
              refine x_old (n := 41) dX12_cheapest_40 rfl (rA_onward hZ) (by decide) (Nat.le_of_ble_eq_true rfl) (by omega) ?_
              rw [hO k (by omega)]
              refine x_ald0 (n := 42) dX12_cheapest_41 rfl ?_
              refine x_getR (n := 45) flX12_37 rfl dX12_cheapest_42 rfl (rK hZ) (rP_onward hZ) ?_
              refine x_bipush (n := 47) (v := nI 100) dX12_cheapest_45 rfl (by decide) ?_
              refine x_ild1 (n := 48) dX12_cheapest_47 rfl ?_
              refine x_imulN (n := 49) dX12_cheapest_48 rfl ?_
              refine x_ild4 (n := 51) dX12_cheapest_49 rfl ?_
              refine x_iaddN (n := 52) dX12_cheapest_51 rfl ?_
              refine x_old (n := 53) dX12_cheapest_52 rfl (rA_onward hZ) (by decide) (Nat.le_of_ble_eq_true rfl) (by omega) ?_
              rw [hO b (by omega)]
              refine x_icmpN_ge (n := 56) (tgt := 60) dX12_cheapest_53 rfl (by decide) (by omega) (by omega) (fun c_53 => ?_) (fun c_53 => ?_)
              · refine x_iincN5 (n := 63) (k := 1) dX12_cheapest_60 rfl (by decide) rfl ?_
                refine x_goto (n := 6) dX12_cheapest_63 (by decide) ?_
                first | exact step (some b) (by rw [hcc]; exact if_neg (fun h => by unfold near at h; omega)) | exact step (some b) (by rw [hcc]; exact if_neg (fun h => by have := h.2 b rfl; omega)) | exact step (some k) (by rw [hcc]; exact if_pos ⟨by unfold near; omega, fun b2 hb2 => by cases hb2; omega⟩)
              · refine x_ild5 (n := 58) dX12_cheapest_56 rfl ?_
                refine x_ist4 (n := 60) dX12_cheapest_58 rfl (by decide) rfl ?_
                refine x_iincN5 (n := 63) (k := 1) dX12_cheapest_60 rfl (by decide) rfl ?_
                refine x_goto (n := 6) dX12_cheapest_63 (by decide) ?_
                first | exact step (some b) (by rw [hcc]; exact if_neg (fun h => by unfold near at h; omega)) | exact step (some b) (by rw [hcc]; exact if_neg (fun h => by have := h.2 b rfl; omega)) | exact step (some k) (by rw [hcc]; exact if_pos ⟨by unfold near; omega, fun b2 hb2 => by cases hb2; omega⟩)
theorem c_X12_cheapest (hZ : ShR Z) {c a sl : Nat} {f : Nat → Nat} (hc : c < 24) (ha : a < 100) (hs : sl < 100) (hO : ∀ k, k < 100 → I q_onward (100 * c + k) = nI (f k)) (hf : ∀ k, k < 100 → f k < 1000000) (hq : Q (some (.int (nI (chp f a sl)))) Z (va_up I q_s g)) : zM l G mX12_cheapest 1 0 0 [.ref qR, .int (nI c), .int (nI a), .int (nI sl)] Z (va_up I q_s g) Q := by
  refine x_entry [some (.ref qR), some (.int (nI c)), some (.int (nI a)), some (.int (nI sl)), none, none] 2 rfl rfl (Nat.le_of_ble_eq_true rfl) ?_
  refine x_icm1 (n := 1) dX12_cheapest_0 rfl ?_
  refine x_ist4 (n := 3) dX12_cheapest_1 rfl (by decide) rfl ?_
  refine x_ic0 (n := 4) dX12_cheapest_3 rfl ?_
  refine x_ist5 (n := 6) dX12_cheapest_4 rfl (by decide) rfl ?_
  exact l_X12_cheapest hZ hc ha hs hO hf (by rw [(chp_eq ha).1]; exact hq) 101 0 (by omega) (by omega)
end
