/-! ===== haul ===== -/
def hl0 (k : Nat) : Nat := if k = 2400 then 0 else 100000000
def hlB (f : Nat → Nat) (k : Nat) : Nat := f k + near 2400 k
def hlS (f : Nat → Nat) (d : Int) (k : Nat) : Nat := if 0 ≤ (k : Int) - d ∧ (k : Int) - d ≤ 4800 then f ((k : Int) - d).toNat else 100000000
def hlU (f : Nat → Nat) (b : Nat) : Nat → Nat
  | 0 => f 0
  | k + 1 => min (f (k + 1)) (hlU f b k + b)
def hlN (f : Nat → Nat) (s : Nat) : Nat → Nat
  | 0 => f 4800
  | i + 1 => min (f (4800 - (i + 1))) (hlN f s i + s)
def hlD (f : Nat → Nat) (s : Nat) (k : Nat) : Nat := hlN f s (4800 - k)
def gDep (g : Nat → Int32) (c : Nat) : Int := (vN g (20 + 4 * c) : Int) - (vN g (20 + 4 * c + 1) : Int)
def hl (g : Nat → Int32) : Nat → (Nat → Nat)
  | 0 => hl0
  | c + 1 => hlD (hlU (hlS (hlB (hl g c)) (gDep g c)) (vN g 14)) (vN g 15)
def f_haul (g : Nat → Int32) : Int32 := nI (hl g (vN g 0) 2400)
def rwOK (row : Nat → Int32) (f : Nat → Nat) : Prop := ∀ k, k ≤ 4800 → row k = nI (f k)
def bnd (f : Nat → Nat) (b : Nat) : Prop := ∀ k, k ≤ 4800 → f k ≤ b
def offH (I I' : zI) : Prop := ∀ p, p ≠ q_coins → p ≠ q_before → I' p = I p
theorem hlU_le (f : Nat → Nat) (b : Nat) : ∀ k, hlU f b k ≤ f k
  | 0 => Nat.le_refl _
  | k + 1 => Nat.min_le_left _ _
theorem hlN_le (f : Nat → Nat) (s : Nat) : ∀ i, hlN f s i ≤ f (4800 - i)
  | 0 => Nat.le_refl _
  | i + 1 => Nat.min_le_left _ _
theorem hlD_le {f : Nat → Nat} {s k : Nat} (hk : k ≤ 4800) : hlD f s k ≤ f k := by
  have := hlN_le f s (4800 - k)
  rw [show 4800 - (4800 - k) = k by omega] at this
  exact this
theorem hlD_s {f : Nat → Nat} {s k : Nat} (hk : k < 4800) : hlD f s k = min (f k) (hlD f s (k + 1) + s) := by
  unfold hlD
  rw [show 4800 - k = 4800 - (k + 1) + 1 by omega]
  show min (f (4800 - (4800 - (k + 1) + 1))) _ = _
  rw [show 4800 - (4800 - (k + 1) + 1) = k by omega]
theorem hl_bnd (g : Nat → Int32) : ∀ c, bnd (hl g c) (100000000 + 2400 * c)
  | 0 => fun k _ => by show hl0 k ≤ _; unfold hl0; split <;> omega
  | c + 1 => fun k hk => by
    have ih := hl_bnd g c
    have h1 := hlD_le (f := hlU (hlS (hlB (hl g c)) (gDep g c)) (vN g 14)) (s := vN g 15) hk
    have h2 := hlU_le (hlS (hlB (hl g c)) (gDep g c)) (vN g 14) k
    have h3 : hlS (hlB (hl g c)) (gDep g c) k ≤ 100000000 + 2400 * (c + 1) := by
      unfold hlS
      split
      · have := ih ((k : Int) - gDep g c).toNat (by omega)
        unfold hlB near
        omega
      · omega
    exact Nat.le_trans h1 (Nat.le_trans h2 h3)
section
variable {l : Launch} {G : zG} {Z : zS} {I : zI} {g : Nat → Int32} {Q : Option Value → zS → zI → Prop}
theorem c_leastN {a b : Nat} (ha : a < 2147483648) (hb : b < 2147483648) (hq : Q (some (.int (nI (min a b)))) Z I) : zM l G mX12_least 0 0 0 [.int (nI a), .int (nI b)] Z I Q := by
  refine c_X12_least ?_
  have := minI_rg (x := nI a) (y := nI b) rfl rfl ha hb
  unfold minI at this
  rw [this]; exact hq
theorem lA_X12_haul (hZ : ShR Z) (hx : ∀ I' : zI, offH I I' → rwOK (I' q_coins) hl0 → zX l G mX12_haul 2 0 0 34 [some (.ref qR), none, none, none] [] Z (va_up I' q_s g) Q) : ∀ m k (I' : zI), offH I I' → (∀ j, j < k → I' q_coins j = nI (hl0 j)) → k ≤ 4801 → 4801 - k < m → zX l G mX12_haul 2 0 0 2 [some (.ref qR), some (.int (nI k)), none, none] [] Z (va_up I' q_s g) Q := by
  intro m
  induction m with
  | zero => intro k I' _ _ _ h; exact absurd h (by omega)
  | succ m ih =>
    intro k I' hI hr hk hm
    have nx : ∀ v : Int32, v = nI (hl0 k) → k ≤ 4800 → zX l G mX12_haul 2 0 0 2 [some (.ref qR), some (.int (nI (k + 1))), none, none] [] Z (va_up (va_up I' q_coins (upd (I' q_coins) k v)) q_s g) Q := by
      intro v hv hk2
      refine ih (k + 1) _ (fun p h1 h2 => by rw [va_up_off h1]; exact hI p h1 h2) (fun j hj => ?_) (by omega) (by omega)
      rw [va_up_same]
      by_cases e : j = k
      · subst e; rw [upd_same]; exact hv
      · rw [upd_off e]; exact hr j (by omega)
    refine x_ild1 (n := 3) dX12_haul_2 rfl ?_
    refine x_sipush (n := 6) (v := nI 4800) dX12_haul_3 rfl (by decide) ?_
    refine x_icmpN_gt (n := 9) (tgt := 34) dX12_haul_6 rfl (by decide) (by omega) (by omega) (fun c_6 => ?_) (fun c_6 => ?_)
    · exact x_fg1 (hx I' hI (fun j hj => hr j (by omega)))
    · refine x_ald0 (n := 10) dX12_haul_9 rfl ?_
      refine x_getR (n := 13) flX12_43 rfl dX12_haul_10 rfl (rK hZ) (rP_coins hZ) ?_
      refine x_ild1 (n := 14) dX12_haul_13 rfl ?_
      refine x_ild1 (n := 15) dX12_haul_14 rfl ?_
      refine x_sipush (n := 18) (v := nI 2400) dX12_haul_15 rfl (by decide) ?_
      refine x_icmpN_ne (n := 21) (tgt := 25) dX12_haul_18 rfl (by decide) (by omega) (by omega) (fun c_18 => ?_) (fun c_18 => ?_)
      · refine x_ldc (n := 27) dX12_haul_25 rfl kiX12_139 ?_
        refine x_ost (n := 28) dX12_haul_27 rfl (rA_coins hZ) (by decide) (Nat.le_of_ble_eq_true rfl) (by omega) ?_
        refine x_iincN1 (n := 31) (k := 1) dX12_haul_28 rfl (by decide) rfl ?_
        refine x_goto (n := 2) dX12_haul_31 (by decide) ?_
        first | exact nx _ (by unfold hl0; rw [if_pos (by omega)]) (by omega) | exact nx _ (by unfold hl0; rw [if_neg (by omega)]) (by omega)
      · refine x_ic0 (n := 22) dX12_haul_21 rfl ?_
        refine x_goto (n := 27) dX12_haul_22 (by decide) ?_
        refine x_ost (n := 28) dX12_haul_27 rfl (rA_coins hZ) (by decide) (Nat.le_of_ble_eq_true rfl) (by omega) ?_
        refine x_iincN1 (n := 31) (k := 1) dX12_haul_28 rfl (by decide) rfl ?_
        refine x_goto (n := 2) dX12_haul_31 (by decide) ?_
        first | exact nx _ (by unfold hl0; rw [if_pos (by omega)]) (by omega) | exact nx _ (by unfold hl0; rw [if_neg (by omega)]) (by omega)
theorem lB_X12_haul (hZ : ShR Z) {c : Nat} {D : Int32} {f : Nat → Nat} (hf : bnd f 1000000000) (hx : ∀ I' : zI, offH I I' → rwOK (I' q_before) (hlB f) → zX l G mX12_haul 2 0 0 88 [some (.ref qR), some (.int (nI c)), some (.int D), none] [] Z (va_up I' q_s g) Q) : ∀ m k (I' : zI), offH I I' → rwOK (I' q_coins) f → (∀ j, j < k → I' q_before j = nI (hlB f j)) → k ≤ 4801 → 4801 - k < m → zX l G mX12_haul 2 0 0 54 [some (.ref qR), some (.int (nI c)), some (.int D), some (.int (nI k))] [] Z (va_up I' q_s g) Q := by
  intro m
  induction m with
  | zero => intro k I' _ _ _ _ h; exact absurd h (by omega)
  | succ m ih =>
    intro k I' hI ho hr hk hm
    refine x_ild3 (n := 55) dX12_haul_54 rfl ?_
    refine x_sipush (n := 58) (v := nI 4800) dX12_haul_55 rfl (by decide) ?_
    refine x_icmpN_gt (n := 61) (tgt := 88) dX12_haul_58 rfl (by decide) (by omega) (by omega) (fun c_58 => ?_) (fun c_58 => ?_)
    · exact x_fg3 (hx I' hI (fun j hj => hr j (by omega)))
    · refine x_ald0 (n := 62) dX12_haul_61 rfl ?_
      refine x_getR (n := 65) flX12_46 rfl dX12_haul_62 rfl (rK hZ) (rP_before hZ) ?_
      refine x_ild3 (n := 66) dX12_haul_65 rfl ?_
      refine x_ald0 (n := 67) dX12_haul_66 rfl ?_
      refine x_getR (n := 70) flX12_43 rfl dX12_haul_67 rfl (rK hZ) (rP_coins hZ) ?_
      refine x_ild3 (n := 71) dX12_haul_70 rfl ?_
      refine x_old (n := 72) dX12_haul_71 rfl (rA_coins hZ) (by decide) (Nat.le_of_ble_eq_true rfl) (by omega) ?_
      rw [ho k (by omega)]
      refine x_ild3 (n := 73) dX12_haul_72 rfl ?_
      refine x_sipush (n := 76) (v := nI 2400) dX12_haul_73 rfl (by decide) ?_
      refine x_isub (n := 77) dX12_haul_76 rfl ?_
      refine x_cS1 (n := 80) (d' := 0) zcX12_size mlX12_125 dX12_haul_77 rfl (Nat.le_of_ble_eq_true rfl) (Nat.le_of_ble_eq_true rfl) ?_
      refine c_X12_size ?_
      rw [zabs (by omega) (by omega)]
      refine x_some ?_
      refine x_iaddN (n := 81) dX12_haul_80 rfl ?_
      refine x_ost (n := 82) dX12_haul_81 rfl (rA_before hZ) (by decide) (Nat.le_of_ble_eq_true rfl) (by omega) ?_
      refine x_iincN3 (n := 85) (k := 1) dX12_haul_82 rfl (by decide) rfl ?_
      refine x_goto (n := 54) dX12_haul_85 (by decide) ?_
      refine ih (k + 1) _ (fun p h1 h2 => by rw [va_up_off h2]; exact hI p h1 h2) (by rw [va_up_off (by decide)]; exact ho) (fun j hj => ?_) (by omega) (by omega)
      rw [va_up_same]
      by_cases e : j = k
      · subst e; rw [upd_same]; rfl
      · rw [upd_off e]; exact hr j (by omega)
theorem lC_X12_haul (hZ : ShR Z) {c : Nat} {D : Int32} {f : Nat → Nat} {d : Int} (hD : D.toInt = d) (hd : -100 ≤ d ∧ d ≤ 100) (hx : ∀ I' : zI, offH I I' → rwOK (I' q_coins) (hlS f d) → zX l G mX12_haul 2 0 0 136 [some (.ref qR), some (.int (nI c)), some (.int D), none] [] Z (va_up I' q_s g) Q) : ∀ m k (I' : zI), offH I I' → rwOK (I' q_before) f → (∀ j, j < k → I' q_coins j = nI (hlS f d j)) → k ≤ 4801 → 4801 - k < m → zX l G mX12_haul 2 0 0 90 [some (.ref qR), some (.int (nI c)), some (.int D), some (.int (nI k))] [] Z (va_up I' q_s g) Q := by
  intro m
  induction m with
  | zero => intro k I' _ _ _ _ h; exact absurd h (by omega)
  | succ m ih =>
    intro k I' hI ho hr hk hm
    have eI : k ≤ 4801 → (nI k - D).toInt = (k : Int) - d := by
      intro hk
      rw [Int32.toInt_sub, nI_toInt (by omega), hD]
      exact Int.bmod_eq_of_le (by omega) (by omega)
    have nx : ∀ v : Int32, v = nI (hlS f d k) → k ≤ 4800 → zX l G mX12_haul 2 0 0 90 [some (.ref qR), some (.int (nI c)), some (.int D), some (.int (nI (k + 1)))] [] Z (va_up (va_up I' q_coins (upd (I' q_coins) k v)) q_s g) Q := by
      intro v hv hk2
      refine ih (k + 1) _ (fun p h1 h2 => by rw [va_up_off h1]; exact hI p h1 h2) (by rw [va_up_off (by decide)]; exact ho) (fun j hj => ?_) (by omega) (by omega)
      rw [va_up_same]
      by_cases e : j = k
      · subst e; rw [upd_same]; exact hv
      · rw [upd_off e]; exact hr j (by omega)
    refine x_ild3 (n := 91) dX12_haul_90 rfl ?_
    refine x_sipush (n := 94) (v := nI 4800) dX12_haul_91 rfl (by decide) ?_
    refine x_icmpN_gt (n := 97) (tgt := 136) dX12_haul_94 rfl (by decide) (by omega) (by omega) (fun c_94 => ?_) (fun c_94 => ?_)
    · exact x_fg3 (hx I' hI (fun j hj => hr j (by omega)))
    · refine x_ald0 (n := 98) dX12_haul_97 rfl ?_
      refine x_getR (n := 101) flX12_43 rfl dX12_haul_98 rfl (rK hZ) (rP_coins hZ) ?_
      refine x_ild3 (n := 102) dX12_haul_101 rfl ?_
      refine x_ild3 (n := 103) dX12_haul_102 rfl ?_
      refine x_ild2 (n := 104) dX12_haul_103 rfl ?_
      refine x_isub (n := 105) dX12_haul_104 rfl ?_
      refine x_i2l (n := 106) dX12_haul_105 rfl ?_
      refine x_lconst (n := 107) (v := 0) dX12_haul_106 rfl (by decide) ?_
      refine x_ldc2 (n := 110) dX12_haul_107 rfl klX12_140 ?_
      refine x_cS3 (n := 113) (d' := 0) zcX12_isIn mlX12_89 dX12_haul_110 rfl (Nat.le_of_ble_eq_true rfl) (Nat.le_of_ble_eq_true rfl) ?_
      refine c_X12_isIn (zin (nI k - D) 0 4800) (by unfold zin; rw [zI64]; rfl) ?_
      refine x_some ?_
      refine x_zif_eq (n := 116) (tgt := 127) dX12_haul_113 rfl (by decide) (fun c_113 => ?_) (fun c_113 => ?_)
      · have hz := zin_f c_113
        rw [eI (by omega)] at hz
        refine x_ldc (n := 129) dX12_haul_127 rfl kiX12_139 ?_
        refine x_ost (n := 130) dX12_haul_129 rfl (rA_coins hZ) (by decide) (Nat.le_of_ble_eq_true rfl) (by omega) ?_
        refine x_iincN3 (n := 133) (k := 1) dX12_haul_130 rfl (by decide) rfl ?_
        refine x_goto (n := 90) dX12_haul_133 (by decide) ?_
        first | exact nx _ (by unfold hlS; rw [if_pos (by omega)]) (by omega) | exact nx _ (by unfold hlS; rw [if_neg (by omega)]) (by omega)
      · have hz := zin_t c_113
        rw [eI (by omega)] at hz
        have ej : nI k - D = nI ((k : Int) - d).toNat := Int32.toInt_inj.mp (by rw [eI (by omega), nI_toInt (by omega)]; omega)
        refine x_ald0 (n := 117) dX12_haul_116 rfl ?_
        refine x_getR (n := 120) flX12_46 rfl dX12_haul_117 rfl (rK hZ) (rP_before hZ) ?_
        refine x_ild3 (n := 121) dX12_haul_120 rfl ?_
        refine x_ild2 (n := 122) dX12_haul_121 rfl ?_
        refine x_isub (n := 123) dX12_haul_122 rfl ?_
        rw [ej]
        refine x_old (n := 124) dX12_haul_123 rfl (rA_before hZ) (by decide) (Nat.le_of_ble_eq_true rfl) (by omega) ?_
        rw [ho _ (by omega)]
        refine x_goto (n := 129) dX12_haul_124 (by decide) ?_
        refine x_ost (n := 130) dX12_haul_129 rfl (rA_coins hZ) (by decide) (Nat.le_of_ble_eq_true rfl) (by omega) ?_
        refine x_iincN3 (n := 133) (k := 1) dX12_haul_130 rfl (by decide) rfl ?_
        refine x_goto (n := 90) dX12_haul_133 (by decide) ?_
        first | exact nx _ (by unfold hlS; rw [if_pos (by omega)]) (by omega) | exact nx _ (by unfold hlS; rw [if_neg (by omega)]) (by omega)
end
