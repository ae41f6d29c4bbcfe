def doneF (g : Nat → Int32) : Nat → Int32
  | 0 => nI 0
  | w + 1 => doneF g w + g (120 + 10 * w + 3)
def chkR (g : Nat → Int32) (k : Nat) : Int32 := if k % 2 = 0 then doneF (gDays g (k / 2 + 1)) (vN (gDays g (k / 2 + 1)) 1) else gDays g (k / 2 + 1) 9
def prefF (f h : Nat → Int32) : Nat → Nat → Nat
  | 0, k => k
  | n + 1, k => if f k = h k then prefF f h n (k + 1) else k
def f_check (img g ws : Nat → Int32) (has : Int32) (w : Nat) (x : Int32) : Int32 := if zin x 1 30 = true then (if has = 0 then -1000000002 else if prefF ws (chkR (cpF img g 5530)) (min w (2 * ix x)) 0 = w ∧ prefF ws (chkR (cpF img g 5530)) (min w (2 * ix x)) 0 = 2 * ix x then nI 0 else nI (1 + prefF ws (chkR (cpF img g 5530)) (min w (2 * ix x)) 0)) else -1000000001
section
variable {l : Launch} {G : zG} {Z : zS} {I : zI} {g g' : Nat → Int32} {Q : Option Value → zS → zI → Prop}
theorem InvB_eq (h : ∀ i, i < 5530 → g' i = g i) (hB : InvB g) : InvB g' := by
  have hB0 := hB
  have m0 := iv0 hB
  have m1 := iv1 hB
  have m2 := iv2 hB
  have m4 := iv4 hB
  have m5 := iv5 hB
  have m6 := iv6 hB
  have m7 := iv7 hB
  obtain ⟨⟨a0, a1, a2, a3, a4, a5, a6, a7, a8⟩, b, c, d, e, f, k, ll, m, nn, o⟩ := hB
  unfold InvB
  rw [vN_eq (h 0 (by omega)), vN_eq (h 1 (by omega)), vN_eq (h 2 (by omega)), vN_eq (h 4 (by omega)), vN_eq (h 5 (by omega)), vN_eq (h 6 (by omega)), vN_eq (h 7 (by omega)), h 0 (by omega), h 1 (by omega), h 2 (by omega), h 3 (by omega), h 4 (by omega), h 5 (by omega), h 6 (by omega), h 7 (by omega), h 8 (by omega)]
  refine ⟨⟨a0, a1, a2, a3, a4, a5, a6, a7, a8⟩, ?_, ?_, ?_, ?_, ?_, ?_, ?_, ?_, ?_, ?_⟩
  · intro j hj; rw [h _ (by omega)]; exact b j hj
  · intro j hj
    unfold chainOK
    rw [h _ (by omega), h _ (by omega), h _ (by omega), h _ (by omega)]; exact c j hj
  · intro w hw; exact workOK_off (h 0 (by omega)) (h 2 (by omega)) (fun j _ => h _ (by omega)) (d w hw)
  · intro j hj; rw [h _ (by omega), h _ (by omega)]; exact e j hj
  · intro w j hw hj; rw [h _ (by omega), h _ (by omega)]; exact f w j hw hj
  · intro j hj; rw [h _ (by omega), h _ (by omega), h _ (by omega)]; exact k j hj
  · intro j hj; rw [h _ (by omega)]; exact ll j hj
  · intro j hj; rw [h _ (by omega), h _ (by omega)]; exact m j hj
  · intro j hj; rw [h _ (by omega)]; exact nn j hj
  · intro j hj; rw [h _ (by omega)]; exact o j hj
theorem InvT_eq (h : ∀ i, i < 5530 → g' i = g i) (hB : InvB g) (hT : InvT g) : InvT g' := by
  intro t ht
  rw [vN_eq (h 3 (by omega))] at ht
  have h14 := (iv3 hB).2
  obtain ⟨a, b, c, d, H, h0, h1, hs⟩ := hT t ht
  have d2 := rg_le d (by omega)
  have e0 := vN_eq (h (2520 + 200 * t) (by omega))
  have e3 := vN_eq (h (2520 + 200 * t + 3) (by omega))
  refine ⟨by rw [h _ (by omega)]; exact a, by rw [h _ (by omega)]; exact b, by rw [h _ (by omega)]; exact c, by rw [h _ (by omega)]; exact d, H, h0, by rw [e3]; exact h1, ?_⟩
  intro k hk
  rw [e3] at hk
  rw [e0, h _ (by omega), h _ (by omega)]
  exact hs k hk
theorem cpF_lt {f h : Nat → Int32} {n : Nat} : ∀ i, i < n → cpF f h n i = f i := fun i hi => if_pos hi
theorem gDays_far (hB : InvB g) (hT : InvT g) {i : Nat} (hi : 5530 ≤ i) : ∀ n, vN g 8 + n ≤ 2100 → gDays g n i = g i
  | 0, _ => rfl
  | n + 1, h => by
    obtain ⟨a, b, c⟩ := gDays_ok hB hT n (by omega)
    have h4 := (gDay4_ok a b).2.2 i (by omega) (by omega) (by omega) (by omega)
    show upd (gDay4 (gDays g n)) 8 _ i = _
    rw [upd_off (by omega), h4]
    exact gDays_far hB hT hi n (by omega)
def offK (I I' : zI) : Prop := ∀ p, p ≠ q_pile → p ≠ q_named → p ≠ q_row → p ≠ q_aside → p ≠ qR → I' p = I p
def offW (I I' : zI) : Prop := ∀ p, p ≠ q_pile → p ≠ q_named → p ≠ q_row → I' p = I p
theorem offW_C {I I' : zI} (h : offW I I') (hC : RfC I) : RfC I' := by
  obtain ⟨h1, h2, h3⟩ := hC
  refine ⟨fun j hj => ?_, fun j hj => ?_, fun j hj => ?_⟩
  · rw [h _ (by decide) (by decide) (by decide)]; exact h1 j hj
  · rw [h _ (by decide) (by decide) (by decide)]; exact h2 j hj
  · rw [h _ (by decide) (by decide) (by decide)]; exact h3 j hj
theorem upd_2 (f : Nat → Int32) (k : Nat) (v w : Int32) : upd (upd f k v) k w = upd f k w := by
  funext j; unfold upd; by_cases e : j = k
  · rw [if_pos e, if_pos e]
  · rw [if_neg e, if_neg e, if_neg e]
theorem upd_sw {f : Nat → Int32} {k j : Nat} {v w : Int32} (h : k ≠ j) : upd (upd f k v) j w = upd (upd f j w) k v := by
  funext i; unfold upd
  by_cases e : i = j
  · subst e; rw [if_pos rfl, if_neg (Ne.symm h), if_pos rfl]
  · rw [if_neg e]
    by_cases e2 : i = k
    · rw [if_pos e2, if_pos e2]
    · rw [if_neg e2, if_neg e2, if_neg e]
theorem l1_X12_check (hZ : ShR Z) (hB : InvB g) {n w i : Nat} (hi : i < 30) {r : Nat → Int32}
    (hx : zX l G mX12_check 6 0 0 140 [some (.ref qR), some (.int (nI n)), some (.int (nI w)), some (.int (nI i)), none] [] Z (va_up (va_up I q_row (upd r (2 * i) (doneF g (vN g 1)))) q_s g) Q) :
    ∀ u k, k ≤ vN g 1 → vN g 1 - k < u → zX l G mX12_check 6 0 0 99 [some (.ref qR), some (.int (nI n)), some (.int (nI w)), some (.int (nI i)), some (.int (nI k))] [] Z (va_up (va_up I q_row (upd r (2 * i) (doneF g k))) q_s g) Q := by
  have h1 := iv1 hB
  intro u
  induction u with
  | zero => intro k _ h; exact absurd h (by omega)
  | succ u ih =>
    intro k hk hu
    refine x_ild4 (n := 101) dX12_check_99 rfl ?_
    refine x_ald0 (n := 102) dX12_check_101 rfl ?_
    refine x_getR (n := 105) flX12_7 rfl dX12_check_102 rfl (rK hZ) (rP_s hZ) ?_
    refine x_ic1 (n := 106) dX12_check_105 rfl ?_
    refine x_sld (n := 107) dX12_check_106 rfl hZ (by omega) ?_
    rw [h1.1]
    refine x_icmpN_ge (n := 110) (tgt := 140) dX12_check_107 rfl (by decide) (by omega) (by omega) (fun c_107 => ?_) (fun c_107 => ?_)
    · rw [show k = vN g 1 by omega]; exact x_fg4 hx
    · refine x_ald0 (n := 111) dX12_check_110 rfl ?_
      refine x_getR (n := 114) flX12_77 rfl dX12_check_111 rfl (rK hZ) (rP_row hZ) ?_
      refine x_ic2 (n := 115) dX12_check_114 rfl ?_
      refine x_ild3 (n := 116) dX12_check_115 rfl ?_
      refine x_imulN (n := 117) dX12_check_116 rfl ?_
      refine x_dup2 (n := 118) dX12_check_117 rfl rfl rfl ?_
      refine x_old (n := 119) dX12_check_118 rfl (rA_row hZ) (by decide) (Nat.le_of_ble_eq_true rfl) (by omega) ?_
      rw [va_up_same, upd_same]
      refine x_ald0 (n := 120) dX12_check_119 rfl ?_
      refine x_getR (n := 123) flX12_7 rfl dX12_check_120 rfl (rK hZ) (rP_s hZ) ?_
      refine x_ald0 (n := 124) dX12_check_123 rfl ?_
      refine x_ild4 (n := 126) dX12_check_124 rfl ?_
      refine x_cV1 (n := 129) (d' := 0) zcX12_workAt mlX12_93 dX12_check_126 rfl (rK hZ) (Nat.le_of_ble_eq_true rfl) (Nat.le_of_ble_eq_true rfl) ?_
      refine c_X12_workAt ?_
      refine x_some ?_
      refine x_ic3 (n := 130) dX12_check_129 rfl ?_
      refine x_iaddN (n := 131) dX12_check_130 rfl ?_
      refine x_sld (n := 132) dX12_check_131 rfl hZ (by omega) ?_
      refine x_iadd (n := 133) dX12_check_132 rfl ?_
      refine x_ost (n := 134) dX12_check_133 rfl (rA_row hZ) (by decide) (Nat.le_of_ble_eq_true rfl) (by omega) ?_
      refine x_iincN4 (n := 137) (k := 1) dX12_check_134 rfl (by decide) rfl ?_
      refine x_goto (n := 99) dX12_check_137 (by decide) ?_
      rw [va_up_same, va_up_2, upd_2]
      exact ih (k + 1) (by omega) (by omega)
theorem l2_X12_check (hZ : ShR Z) (hC : RfC I) (hB : InvB g) (hT : InvT g) {n w : Nat} (hn : n ≤ 30) (h8 : vN g 8 ≤ 1999)
    (hx : ∀ I' : zI, offW I I' → (∀ j, j < 2 * n → I' q_row j = chkR g j) → zX l G mX12_check 6 0 0 146 [some (.ref qR), some (.int (nI n)), some (.int (nI w)), none, none] [] Z (va_up I' q_s (gDays g n)) Q) :
    ∀ u i (I' : zI), offW I I' → (∀ j, j < 2 * i → I' q_row j = chkR g j) → i ≤ n → n - i < u → zX l G mX12_check 6 0 0 61 [some (.ref qR), some (.int (nI n)), some (.int (nI w)), some (.int (nI i)), none] [] Z (va_up I' q_s (gDays g i)) Q := by
  intro u
  induction u with
  | zero => intro i I' _ _ _ h; exact absurd h (by omega)
  | succ u ih =>
    intro i I' hI hr hin hu
    obtain ⟨a, b, c⟩ := gDays_ok hB hT i (by omega)
    obtain ⟨a2, b2, c2⟩ := gDays_ok hB hT (i + 1) (by omega)
    refine x_ild3 (n := 62) dX12_check_61 rfl ?_
    refine x_ild1 (n := 63) dX12_check_62 rfl ?_
    refine x_icmpN_ge (n := 66) (tgt := 146) dX12_check_63 rfl (by decide) (by omega) (by omega) (fun c_63 => ?_) (fun c_63 => ?_)
    · have e : i = n := by omega
      subst e
      exact x_fg3 (hx I' hI hr)
    · refine x_ald0 (n := 67) dX12_check_66 rfl ?_
      refine x_cV0 (n := 70) (d' := 5) zcX12_oneDay mlX12_211 dX12_check_67 rfl (rK hZ) (Nat.le_of_ble_eq_true rfl) (Nat.le_of_ble_eq_true rfl) ?_
      refine c_X12_oneDay hZ (offW_C hI hC) a b (by omega) (fun I2 hI2 => ?_)
      refine x_none ?_
      refine x_ald0 (n := 71) dX12_check_70 rfl ?_
      refine x_getR (n := 74) flX12_77 rfl dX12_check_71 rfl (rK hZ) (rP_row hZ) ?_
      refine x_ic2 (n := 75) dX12_check_74 rfl ?_
      refine x_ild3 (n := 76) dX12_check_75 rfl ?_
      refine x_imulN (n := 77) dX12_check_76 rfl ?_
      refine x_ic0 (n := 78) dX12_check_77 rfl ?_
      refine x_ost (n := 79) dX12_check_78 rfl (rA_row hZ) (by decide) (Nat.le_of_ble_eq_true rfl) (by omega) ?_
      refine x_ald0 (n := 80) dX12_check_79 rfl ?_
      refine x_getR (n := 83) flX12_77 rfl dX12_check_80 rfl (rK hZ) (rP_row hZ) ?_
      refine x_ic2 (n := 84) dX12_check_83 rfl ?_
      refine x_ild3 (n := 85) dX12_check_84 rfl ?_
      refine x_imulN (n := 86) dX12_check_85 rfl ?_
      refine x_ic1 (n := 87) dX12_check_86 rfl ?_
      refine x_iaddN (n := 88) dX12_check_87 rfl ?_
      refine x_ald0 (n := 89) dX12_check_88 rfl ?_
      refine x_getR (n := 92) flX12_7 rfl dX12_check_89 rfl (rK hZ) (rP_s hZ) ?_
      refine x_bipush (n := 94) (v := nI 9) dX12_check_92 rfl (by decide) ?_
      refine x_sld (n := 95) dX12_check_94 rfl hZ (by omega) ?_
      refine x_ost (n := 96) dX12_check_95 rfl (rA_row hZ) (by decide) (Nat.le_of_ble_eq_true rfl) (by omega) ?_
      refine x_ic0 (n := 97) dX12_check_96 rfl ?_
      refine x_ist4 (n := 99) dX12_check_97 rfl (by decide) rfl ?_
      rw [va_up_same, va_up_2]
      have hl := l1_X12_check (l := l) (G := G) (Q := Q) (I := I2) (g := gDays g (i + 1)) (n := n) (w := w) (i := i) (r := upd (I2 q_row) (2 * i + 1) (gDays g (i + 1) 9)) hZ a2 (by omega) ?_ (vN (gDays g (i + 1)) 1 + 1) 0 (by omega) (by omega)
      · rw [upd_sw (by omega)] at hl; exact hl
      · refine x_iincN3 (n := 143) (k := 1) dX12_check_140 rfl (by decide) rfl ?_
        refine x_goto (n := 61) dX12_check_143 (by decide) ?_
        refine ih (i + 1) _ (fun p h1 h2 h3 => by rw [va_up_off h3]; exact (hI2 p h1 h2).trans (hI p h1 h2 h3)) (fun j hj => ?_) (by omega) (by omega)
        rw [va_up_same]
        have e2 : I2 q_row = I' q_row := hI2 _ (by decide) (by decide)
        by_cases j0 : j = 2 * i
        · subst j0; rw [upd_same]; unfold chkR; rw [if_pos (by omega), show 2 * i / 2 = i by omega]
        · rw [upd_off j0]
          by_cases j1 : j = 2 * i + 1
          · subst j1; rw [upd_same]; unfold chkR; rw [if_neg (by omega), show (2 * i + 1) / 2 = i by omega]
          · rw [upd_off j1, e2]; exact hr j (by omega)
end
