def skB (f : Nat → Int32) : Nat → Nat → Nat
  | 0, p => p
  | n + 1, p => if f p = nI 32 then skB f n (p + 1) else p
def skL (f : Nat → Int32) (t : Nat) : Nat → Nat → Nat
  | 0, p => p
  | n + 1, p => if isLe f t p = true then skL f t n (p + 1) else p
section
variable {l : Launch} {G : zG} {Z : zS} {I : zI} {g : Nat → Int32} {Q : Option Value → zS → zI → Prop}
/-- J is I but for places of the reference's own fields -/
def jOff (I J : zI) (S : Nat → Prop) : Prop := (∀ q, q ≠ qR → J q = I q) ∧ ∀ i, ¬ S i → J qR i = I qR i
theorem jOff_up {J : zI} {S : Nat → Prop} {k : Nat} {v : Int32} (h : jOff I J S) (hk : S k) : jOff I (va_up J qR (upd (J qR) k v)) S := by
  refine ⟨fun q hq => by rw [va_up_off hq]; exact h.1 q hq, fun i hi => ?_⟩
  rw [va_up_same, upd_off (fun e => hi (by rw [e]; exact hk))]
  exact h.2 i hi
theorem skB_le (f : Nat → Int32) : ∀ n p, p ≤ skB f n p ∧ skB f n p ≤ p + n
  | 0, p => by unfold skB; omega
  | n + 1, p => by
    have := skB_le f n (p + 1)
    unfold skB
    split <;> omega
theorem l1_X12_next (hZ : ShR Z) {t : Nat} {a b : Int32} (ht2 : t ≤ 96) : ∀ n p (J : zI), jOff I J (fun i => i = 17) → I qR 15 = nI t → J qR 17 = nI p → p + n = t →
    (∀ J' : zI, jOff I J' (fun i => i = 17) → J' qR 17 = nI (skB (I q_tape) n p) → zX l G mX12_next 2 0 0 72 [some (.ref qR), some (.int a), some (.int b)] [] Z (va_up J' q_s g) Q) →
    zX l G mX12_next 2 0 0 34 [some (.ref qR), some (.int a), some (.int b)] [] Z (va_up J q_s g) Q := by
  intro n
  induction n with
  | zero =>
    intro p J hJ ht hp hn hx
    have e15 : J qR 15 = nI t := (hJ.2 15 (by omega)).trans ht
    have hx' := hx J hJ hp
    refine x_ald0 (n := 35) dX12_next_34 rfl ?_
    refine x_rget (n := 38) flX12_226 rfl dX12_next_35 rfl hZ ?_
    rw [hp]
    refine x_ald0 (n := 39) dX12_next_38 rfl ?_
    refine x_rget (n := 42) flX12_214 rfl dX12_next_39 rfl hZ ?_
    rw [e15]
    refine x_icmpN_ge (n := 45) (tgt := 72) dX12_next_42 rfl (by decide) (by omega) (by omega) (fun c_42 => ?_) (fun c_42 => ?_)
    · exact hx'
    · exact absurd c_42 (by omega)
  | succ n ih =>
    intro p J hJ ht hp hn hx
    have e15 : J qR 15 = nI t := (hJ.2 15 (by omega)).trans ht
    have et : J q_tape = I q_tape := hJ.1 _ (by decide)
    unfold skB at hx
    refine x_ald0 (n := 35) dX12_next_34 rfl ?_
    refine x_rget (n := 38) flX12_226 rfl dX12_next_35 rfl hZ ?_
    rw [hp]
    refine x_ald0 (n := 39) dX12_next_38 rfl ?_
    refine x_rget (n := 42) flX12_214 rfl dX12_next_39 rfl hZ ?_
    rw [e15]
    refine x_icmpN_ge (n := 45) (tgt := 72) dX12_next_42 rfl (by decide) (by omega) (by omega) (fun c_42 => ?_) (fun c_42 => ?_)
    · exact absurd c_42 (by omega)
    · refine x_ald0 (n := 46) dX12_next_45 rfl ?_
      refine x_getR (n := 49) flX12_49 rfl dX12_next_46 rfl (rK hZ) (rP_tape hZ) ?_
      refine x_ald0 (n := 50) dX12_next_49 rfl ?_
      refine x_rget (n := 53) flX12_226 rfl dX12_next_50 rfl hZ ?_
      rw [hp]
      refine x_old (n := 54) dX12_next_53 rfl (rA_tape hZ) (by decide) (Nat.le_of_ble_eq_true rfl) (by omega) ?_
      rw [et]
      refine x_bipush (n := 56) (v := nI 32) dX12_next_54 rfl (by decide) ?_
      refine x_icmp_ne (n := 59) (tgt := 72) dX12_next_56 rfl (by decide) (fun c_56 => ?_) (fun c_56 => ?_)
      · rw [if_neg c_56] at hx
        exact hx J hJ hp
      · refine x_ald0 (n := 60) dX12_next_59 rfl ?_
        refine x_dup (n := 61) dX12_next_60 rfl rfl ?_
        refine x_rget (n := 64) flX12_226 rfl dX12_next_61 rfl hZ ?_
        rw [hp]
        refine x_ic1 (n := 65) dX12_next_64 rfl ?_
        refine x_iaddN (n := 66) dX12_next_65 rfl ?_
        refine x_rput (n := 69) flX12_226 rfl rfl rfl rfl dX12_next_66 rfl hZ ?_
        refine x_goto (n := 34) dX12_next_69 (by decide) ?_
        rw [if_pos c_56] at hx
        exact ih (p + 1) _ (jOff_up hJ rfl) ht (by rw [va_up_same, upd_same]) (by omega) hx
theorem l2_X12_next (hZ : ShR Z) {t : Nat} {a b : Int32} (ht2 : t ≤ 96) : ∀ n p (J : zI), jOff I J (fun i => i = 17) → I qR 15 = nI t → J qR 17 = nI p → p + n = t →
    (∀ J' : zI, jOff I J' (fun i => i = 17) → J' qR 17 = nI (skL (I q_tape) t n p) → zX l G mX12_next 2 0 0 152 [some (.ref qR), some (.int a), some (.int b)] [] Z (va_up J' q_s g) Q) →
    zX l G mX12_next 2 0 0 128 [some (.ref qR), some (.int a), some (.int b)] [] Z (va_up J q_s g) Q := by
  intro n
  induction n with
  | zero =>
    intro p J hJ ht hp hn hx
    have e15 : J qR 15 = nI t := (hJ.2 15 (by omega)).trans ht
    have hx' := hx J hJ hp
    refine x_ald0 (n := 129) dX12_next_128 rfl ?_
    refine x_ald0 (n := 130) dX12_next_129 rfl ?_
    refine x_rget (n := 133) flX12_226 rfl dX12_next_130 rfl hZ ?_
    rw [hp]
    refine x_cV1 (n := 136) (d' := 1) zcX12_isLetter mlX12_235 dX12_next_133 rfl (rK hZ) (Nat.le_of_ble_eq_true rfl) (Nat.le_of_ble_eq_true rfl) ?_
    refine c_X12_isLetter hZ e15 ht2 (by omega) ?_
    refine x_some ?_
    refine x_zif_eq (n := 139) (tgt := 152) dX12_next_136 rfl (by decide) (fun c_136 => ?_) (fun c_136 => ?_)
    · exact hx'
    · unfold isLe at c_136; rw [decide_eq_false (by omega)] at c_136; cases c_136
  | succ n ih =>
    intro p J hJ ht hp hn hx
    have e15 : J qR 15 = nI t := (hJ.2 15 (by omega)).trans ht
    have et : J q_tape = I q_tape := hJ.1 _ (by decide)
    unfold skL at hx
    refine x_ald0 (n := 129) dX12_next_128 rfl ?_
    refine x_ald0 (n := 130) dX12_next_129 rfl ?_
    refine x_rget (n := 133) flX12_226 rfl dX12_next_130 rfl hZ ?_
    rw [hp]
    refine x_cV1 (n := 136) (d' := 1) zcX12_isLetter mlX12_235 dX12_next_133 rfl (rK hZ) (Nat.le_of_ble_eq_true rfl) (Nat.le_of_ble_eq_true rfl) ?_
    refine c_X12_isLetter hZ e15 ht2 (by omega) ?_
    rw [et]
    refine x_some ?_
    refine x_zif_eq (n := 139) (tgt := 152) dX12_next_136 rfl (by decide) (fun c_136 => ?_) (fun c_136 => ?_)
    · rw [if_neg (by rw [c_136]; decide)] at hx
      exact hx J hJ hp
    · refine x_ald0 (n := 140) dX12_next_139 rfl ?_
      refine x_dup (n := 141) dX12_next_140 rfl rfl ?_
      refine x_rget (n := 144) flX12_226 rfl dX12_next_141 rfl hZ ?_
      rw [hp]
      refine x_ic1 (n := 145) dX12_next_144 rfl ?_
      refine x_iaddN (n := 146) dX12_next_145 rfl ?_
      refine x_rput (n := 149) flX12_226 rfl rfl rfl rfl dX12_next_146 rfl hZ ?_
      refine x_goto (n := 128) dX12_next_149 (by decide) ?_
      rw [if_pos c_136] at hx
      exact ih (p + 1) _ (jOff_up hJ rfl) ht (by rw [va_up_same, upd_same]) (by omega) hx
end
