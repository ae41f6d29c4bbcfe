section
variable {l : Launch} {G : zG} {Z : zS} {I : zI} {g : Nat → Int32} {Q : Option Value → zS → zI → Prop}
theorem zabs {a b : Nat} (ha : a < 1000000) (hb : b < 1000000) : (if (nI a - nI b).toInt < 0 then -(nI a - nI b) else nI a - nI b) = nI (a - b + (b - a)) := by
  rw [pk_sub_toInt (by omega) (by omega)]
  split
  · rw [show a - b + (b - a) = b - a by omega, ← pk_sub (by omega), Int32.neg_sub]
  · rw [show a - b + (b - a) = a - b by omega, ← pk_sub (by omega)]
theorem aN_mul (s k : Nat) : (if s.testBit k = true then 1 else 0) * vN g (495 + k) = aN g s k := by
  unfold aN; split
  · rw [Nat.one_mul]
  · rw [Nat.zero_mul]
theorem aN_le (hB : InvB g) {s k : Nat} (hk : k < vN g 7) : aN g s k ≤ 9 := by
  have h := rg_le (ivA hB hk) (by omega)
  unfold aN; split <;> omega
theorem l_X12_holds (hZ : ShR Z) (hB : InvB g) {s p : Nat} (hs : s < 100000) (hp : p < 10) (hq : Q (some (.int (zb (gHold g p s)))) Z (va_up I q_s g)) : ∀ m j, (j = 0 ∨ j ≤ vN g 7 - 1) → vN g 7 - j < m → zX l G mX12_holds 1 0 0 5 [some (.ref qR), some (.int (nI s)), some (.int (nI p)), some (.int (zb (zal (gHp g p s) j))), some (.int (nI (j + 1))), none, none] [] Z (va_up I q_s g) Q := by
  have h7 := iv7 hB
  intro m
  induction m with
  | zero => intro j _ h; exact absurd h (by omega)
  | succ m ih =>
    intro j hj hm
    have ihj := ih (j + 1)
    have nx : ∀ b : Bool, j + 1 < vN g 7 → zal (gHp g p s) (j + 1) = b → zX l G mX12_holds 1 0 0 5 [some (.ref qR), some (.int (nI s)), some (.int (nI p)), some (.int (zb b)), some (.int (nI (j + 1 + 1))), none, none] [] Z (va_up I q_s g) Q := by
      intro b h e
      have := ihj (by omega) (by omega)
      rw [e] at this
      exact this
    refine x_ild4 (n := 7) dX12_holds_5 rfl ?_
    refine x_ald0 (n := 8) dX12_holds_7 rfl ?_
    refine x_getR (n := 11) flX12_7 rfl dX12_holds_8 rfl (rK hZ) (rP_s hZ) ?_
    refine x_bipush (n := 13) (v := nI 7) dX12_holds_11 rfl (by decide) ?_
    refine x_sld (n := 14) dX12_holds_13 rfl hZ (by omega) ?_
    rw [h7.1]
    refine x_icmpN_ge (n := 17) (tgt := 89) dX12_holds_14 rfl (by decide) (by omega) (by omega) (fun c_14 => ?_) (fun c_14 => ?_)
    · refine x_ild3 (n := 90) dX12_holds_89 rfl ?_
      refine r_zret dX12_holds_90 rfl (by first | exact nar0 | exact nar1 | exact zb_nar _) ?_
      refine zq_e hq ?_
      unfold gHold
      rw [show vN g 7 - 1 = j by omega]
    · have e0 := rg_nI (ivA hB (show j < vN g 7 by omega)) (by omega) (by omega)
      have e1 := rg_nI (ivA hB (show j + 1 < vN g 7 by omega)) (by omega) (by omega)
      have a0 := aN_le (s := s) hB (show j < vN g 7 by omega)
      have a1 := aN_le (s := s) hB (show j + 1 < vN g 7 by omega)
      refine x_ild1 (n := 18) dX12_holds_17 rfl ?_
      refine x_ild4 (n := 20) dX12_holds_18 rfl ?_
      refine x_ic1 (n := 21) dX12_holds_20 rfl ?_
      refine x_isubN (n := 22) dX12_holds_21 rfl (by omega) ?_
      refine x_ishr (n := 23) dX12_holds_22 rfl ?_
      refine x_ic1 (n := 24) dX12_holds_23 rfl ?_
      refine x_iand (n := 25) dX12_holds_24 rfl ?_
      rw [Nat.add_sub_cancel, zbit (by omega) (by omega)]
      refine x_ald0 (n := 26) dX12_holds_25 rfl ?_
      refine x_getR (n := 29) flX12_7 rfl dX12_holds_26 rfl (rK hZ) (rP_s hZ) ?_
      refine x_sipush (n := 32) (v := nI 495) dX12_holds_29 rfl (by decide) ?_
      refine x_ild4 (n := 34) dX12_holds_32 rfl ?_
      refine x_iaddN (n := 35) dX12_holds_34 rfl ?_
      refine x_ic1 (n := 36) dX12_holds_35 rfl ?_
      refine x_isubN (n := 37) dX12_holds_36 rfl (by omega) ?_
      refine x_sld (n := 38) dX12_holds_37 rfl hZ (by omega) ?_
      rw [show 495 + (j + 1) - 1 = 495 + j by omega, e0]
      refine x_imul (n := 39) dX12_holds_38 rfl ?_
      rw [pk_mul, aN_mul]
      refine x_ist5 (n := 41) dX12_holds_39 rfl (by decide) rfl ?_
      refine x_ild1 (n := 42) dX12_holds_41 rfl ?_
      refine x_ild4 (n := 44) dX12_holds_42 rfl ?_
      refine x_ishr (n := 45) dX12_holds_44 rfl ?_
      refine x_ic1 (n := 46) dX12_holds_45 rfl ?_
      refine x_iand (n := 47) dX12_holds_46 rfl ?_
      rw [zbit (by omega) (by omega)]
      refine x_ald0 (n := 48) dX12_holds_47 rfl ?_
      refine x_getR (n := 51) flX12_7 rfl dX12_holds_48 rfl (rK hZ) (rP_s hZ) ?_
      refine x_sipush (n := 54) (v := nI 495) dX12_holds_51 rfl (by decide) ?_
      refine x_ild4 (n := 56) dX12_holds_54 rfl ?_
      refine x_iaddN (n := 57) dX12_holds_56 rfl ?_
      refine x_sld (n := 58) dX12_holds_57 rfl hZ (by omega) ?_
      rw [e1]
      refine x_imul (n := 59) dX12_holds_58 rfl ?_
      rw [pk_mul, aN_mul]
      refine x_ist6 (n := 61) dX12_holds_59 rfl (by decide) rfl ?_
      refine x_ild3 (n := 62) dX12_holds_61 rfl ?_
      refine x_zif_eq (n := 65) (tgt := 81) dX12_holds_62 rfl (by decide) (fun c_62 => ?_) (fun c_62 => ?_)
      · refine x_ic0 (n := 82) dX12_holds_81 rfl ?_
        refine x_ist3 (n := 83) dX12_holds_82 rfl (by decide) rfl ?_
        refine x_iincN4 (n := 86) (k := 1) dX12_holds_83 rfl (by decide) rfl ?_
        refine x_goto (n := 5) dX12_holds_86 (by decide) ?_
        refine x_fg5 (x_fg6 ?_)
        first | exact nx false (by omega) (by unfold zal; rw [c_62]; rfl) | exact nx false (by omega) (by unfold zal; rw [show gHp g p s j = false from decide_eq_false (by omega), Bool.and_false]) | exact nx true (by omega) (by unfold zal; rw [c_62, show gHp g p s j = true from decide_eq_true (by omega)]; rfl)
      · refine x_ild5 (n := 67) dX12_holds_65 rfl ?_
        refine x_ild6 (n := 69) dX12_holds_67 rfl ?_
        refine x_isub (n := 70) dX12_holds_69 rfl ?_
        refine x_cS1 (n := 73) (d' := 0) zcX12_size mlX12_125 dX12_holds_70 rfl (Nat.le_of_ble_eq_true rfl) (Nat.le_of_ble_eq_true rfl) ?_
        refine c_X12_size ?_
        refine x_some ?_
        rw [zabs (by omega) (by omega)]
        refine x_ild2 (n := 74) dX12_holds_73 rfl ?_
        refine x_icmpN_gt (n := 77) (tgt := 81) dX12_holds_74 rfl (by decide) (by omega) (by omega) (fun c_74 => ?_) (fun c_74 => ?_)
        · refine x_ic0 (n := 82) dX12_holds_81 rfl ?_
          refine x_ist3 (n := 83) dX12_holds_82 rfl (by decide) rfl ?_
          refine x_iincN4 (n := 86) (k := 1) dX12_holds_83 rfl (by decide) rfl ?_
          refine x_goto (n := 5) dX12_holds_86 (by decide) ?_
          refine x_fg5 (x_fg6 ?_)
          first | exact nx false (by omega) (by unfold zal; rw [c_62]; rfl) | exact nx false (by omega) (by unfold zal; rw [show gHp g p s j = false from decide_eq_false (by omega), Bool.and_false]) | exact nx true (by omega) (by unfold zal; rw [c_62, show gHp g p s j = true from decide_eq_true (by omega)]; rfl)
        · refine x_ic1 (n := 78) dX12_holds_77 rfl ?_
          refine x_goto (n := 82) dX12_holds_78 (by decide) ?_
          refine x_ist3 (n := 83) dX12_holds_82 rfl (by decide) rfl ?_
          refine x_iincN4 (n := 86) (k := 1) dX12_holds_83 rfl (by decide) rfl ?_
          refine x_goto (n := 5) dX12_holds_86 (by decide) ?_
          refine x_fg5 (x_fg6 ?_)
          first | exact nx false (by omega) (by unfold zal; rw [c_62]; rfl) | exact nx false (by omega) (by unfold zal; rw [show gHp g p s j = false from decide_eq_false (by omega), Bool.and_false]) | exact nx true (by omega) (by unfold zal; rw [c_62, show gHp g p s j = true from decide_eq_true (by omega)]; rfl)
theorem c_X12_holds (hZ : ShR Z) (hB : InvB g) {s p : Nat} (hs : s < 100000) (hp : p < 10) (hq : Q (some (.int (zb (gHold g p s)))) Z (va_up I q_s g)) : zM l G mX12_holds 1 0 0 [.ref qR, .int (nI s), .int (nI p)] Z (va_up I q_s g) Q := by
  refine x_entry [some (.ref qR), some (.int (nI s)), some (.int (nI p)), none, none, none, none] 4 rfl rfl (Nat.le_of_ble_eq_true rfl) ?_
  refine x_ic1 (n := 1) dX12_holds_0 rfl ?_
  refine x_ist3 (n := 2) dX12_holds_1 rfl (by decide) rfl ?_
  refine x_ic1 (n := 3) dX12_holds_2 rfl ?_
  refine x_ist4 (n := 5) dX12_holds_3 rfl (by decide) rfl ?_
  exact l_X12_holds hZ hB hs hp hq (vN g 7 + 1) 0 (by omega) (by omega)
theorem l_X12_nextArch (hZ : ShR Z) (hB : InvB g) {s : Nat} {T : Nat → Bool} (hs : s < 2 ^ vN g 7) (hT : ∀ k, k < vN g 7 → s.testBit k = false → I q_canEnd (s ||| 2 ^ k) = zb (T (s ||| 2 ^ k))) (hq : Q (some (.int (oI (gNx (vN g 7) T s)))) Z (va_up I q_s g)) : ∀ m k, k ≤ vN g 7 → zfst (fun k => !s.testBit k && T (s ||| 2 ^ k)) k = none → vN g 7 - k < m → zX l G mX12_nextArch 0 0 0 2 [some (.ref qR), some (.int (nI s)), some (.int (nI k))] [] Z (va_up I q_s g) Q := by
  have h7 := iv7 hB
  have hN : 2 ^ vN g 7 ≤ 2 ^ 8 := Nat.pow_le_pow_right (by omega) h7.2
  intro m
  induction m with
  | zero => intro k _ _ h; exact absurd h (by omega)
  | succ m ih =>
    intro k hk h0 hm
    by_cases hkn : k = vN g 7
    · subst hkn
      refine x_ild2 (n := 3) dX12_nextArch_2 rfl ?_
      refine x_ald0 (n := 4) dX12_nextArch_3 rfl ?_
      refine x_getR (n := 7) flX12_7 rfl dX12_nextArch_4 rfl (rK hZ) (rP_s hZ) ?_
      refine x_bipush (n := 9) (v := nI 7) dX12_nextArch_7 rfl (by decide) ?_
      refine x_sld (n := 10) dX12_nextArch_9 rfl hZ (by omega) ?_
      rw [h7.1]
      refine x_icmpN_ge (n := 13) (tgt := 42) dX12_nextArch_10 rfl (by decide) (by omega) (by omega) (fun c_10 => ?_) (fun c_10 => ?_)
      · refine x_icm1 (n := 43) dX12_nextArch_42 rfl ?_
        refine r_iret dX12_nextArch_43 rfl ?_
        refine zq_e hq ?_
        unfold gNx
        rw [h0]; rfl
      · exact absurd c_10 (by omega)
    · have hlt : s ||| 2 ^ k < 2 ^ vN g 7 := zor_lt hs (by omega)
      obtain ⟨u, hu⟩ : ∃ u, u = s ||| 2 ^ k := ⟨_, rfl⟩
      have hu2 : u < 256 := by rw [hu]; omega
      have nx : (!s.testBit k && T (s ||| 2 ^ k)) = false → zX l G mX12_nextArch 0 0 0 2 [some (.ref qR), some (.int (nI s)), some (.int (nI (k + 1)))] [] Z (va_up I q_s g) Q := fun h => ih (k + 1) (by omega) (zfst_next h0 h) (by omega)
      by_cases hb : s.testBit k = true
      · skip
        refine x_ild2 (n := 3) dX12_nextArch_2 rfl ?_
        refine x_ald0 (n := 4) dX12_nextArch_3 rfl ?_
        refine x_getR (n := 7) flX12_7 rfl dX12_nextArch_4 rfl (rK hZ) (rP_s hZ) ?_
        refine x_bipush (n := 9) (v := nI 7) dX12_nextArch_7 rfl (by decide) ?_
        refine x_sld (n := 10) dX12_nextArch_9 rfl hZ (by omega) ?_
        rw [h7.1]
        refine x_icmpN_ge (n := 13) (tgt := 42) dX12_nextArch_10 rfl (by decide) (by omega) (by omega) (fun c_10 => ?_) (fun c_10 => ?_)
        · exact absurd c_10 (by omega)
        · refine x_ild1 (n := 14) dX12_nextArch_13 rfl ?_
          refine x_ild2 (n := 15) dX12_nextArch_14 rfl ?_
          refine x_ishr (n := 16) dX12_nextArch_15 rfl ?_
          refine x_ic1 (n := 17) dX12_nextArch_16 rfl ?_
          refine x_iand (n := 18) dX12_nextArch_17 rfl ?_
          rw [zbit (by omega) (by omega), if_pos hb]
          refine x_if_ne (n := 21) (tgt := 36) dX12_nextArch_18 rfl (by decide) (fun c_18 => ?_) (fun c_18 => ?_)
          · refine x_iincN2 (n := 39) (k := 1) dX12_nextArch_36 rfl (by decide) rfl ?_
            refine x_goto (n := 2) dX12_nextArch_39 (by decide) ?_
            exact nx (by rw [hb]; rfl)
          · exact absurd c_18 (by decide)
      · have hb' : s.testBit k = false := by cases h : s.testBit k; rfl; exact absurd h hb
        have hTk := hT k (by omega) hb'
        refine x_ild2 (n := 3) dX12_nextArch_2 rfl ?_
        refine x_ald0 (n := 4) dX12_nextArch_3 rfl ?_
        refine x_getR (n := 7) flX12_7 rfl dX12_nextArch_4 rfl (rK hZ) (rP_s hZ) ?_
        refine x_bipush (n := 9) (v := nI 7) dX12_nextArch_7 rfl (by decide) ?_
        refine x_sld (n := 10) dX12_nextArch_9 rfl hZ (by omega) ?_
        rw [h7.1]
        refine x_icmpN_ge (n := 13) (tgt := 42) dX12_nextArch_10 rfl (by decide) (by omega) (by omega) (fun c_10 => ?_) (fun c_10 => ?_)
        · exact absurd c_10 (by omega)
        · refine x_ild1 (n := 14) dX12_nextArch_13 rfl ?_
          refine x_ild2 (n := 15) dX12_nextArch_14 rfl ?_
          refine x_ishr (n := 16) dX12_nextArch_15 rfl ?_
          refine x_ic1 (n := 17) dX12_nextArch_16 rfl ?_
          refine x_iand (n := 18) dX12_nextArch_17 rfl ?_
          rw [zbit (by omega) (by omega), if_neg hb]
          refine x_if_ne (n := 21) (tgt := 36) dX12_nextArch_18 rfl (by decide) (fun c_18 => ?_) (fun c_18 => ?_)
          · exact absurd rfl c_18
          · refine x_ald0 (n := 22) dX12_nextArch_21 rfl ?_
            refine x_getR (n := 25) flX12_65 rfl dX12_nextArch_22 rfl (rK hZ) (rP_canEnd hZ) ?_
            refine x_ild1 (n := 26) dX12_nextArch_25 rfl ?_
            refine x_ic1 (n := 27) dX12_nextArch_26 rfl ?_
            refine x_ild2 (n := 28) dX12_nextArch_27 rfl ?_
            refine x_ishl (n := 29) dX12_nextArch_28 rfl ?_
            rw [zshl (by omega)]
            refine x_ior (n := 30) dX12_nextArch_29 rfl ?_
            rw [zor, ← hu]
            refine x_ozld (n := 31) dX12_nextArch_30 rfl (rA_canEnd hZ) (by decide) (Nat.le_of_ble_eq_true rfl) (by omega) ?_
            rw [hu, hTk]
            refine x_zif_eq (n := 34) (tgt := 36) dX12_nextArch_31 rfl (by decide) (fun c_31 => ?_) (fun c_31 => ?_)
            · refine x_iincN2 (n := 39) (k := 1) dX12_nextArch_36 rfl (by decide) rfl ?_
              refine x_goto (n := 2) dX12_nextArch_39 (by decide) ?_
              exact nx (by rw [c_31, Bool.and_false])
            · refine x_ild2 (n := 35) dX12_nextArch_34 rfl ?_
              refine r_iret dX12_nextArch_35 rfl ?_
              refine zq_e hq ?_
              unfold gNx
              rw [zfst_some h0 (by rw [hb', c_31]; rfl) (by omega)]; rfl
theorem c_X12_nextArch (hZ : ShR Z) (hB : InvB g) {s : Nat} {T : Nat → Bool} (hs : s < 2 ^ vN g 7) (hT : ∀ k, k < vN g 7 → s.testBit k = false → I q_canEnd (s ||| 2 ^ k) = zb (T (s ||| 2 ^ k))) (hq : Q (some (.int (oI (gNx (vN g 7) T s)))) Z (va_up I q_s g)) : zM l G mX12_nextArch 0 0 0 [.ref qR, .int (nI s)] Z (va_up I q_s g) Q := by
  refine x_entry [some (.ref qR), some (.int (nI s)), none] 1 rfl rfl (Nat.le_of_ble_eq_true rfl) ?_
  refine x_ic0 (n := 1) dX12_nextArch_0 rfl ?_
  refine x_ist2 (n := 2) dX12_nextArch_1 rfl (by decide) rfl ?_
  exact l_X12_nextArch hZ hB hs hT hq (vN g 7 + 1) 0 (by omega) rfl (by omega)
theorem gNx_lt {n s k : Nat} {T : Nat → Bool} (h : gNx n T s = some k) : k < n ∧ s.testBit k = false ∧ T (s ||| 2 ^ k) = true := by
  have := zfst_t h
  refine ⟨this.1, ?_⟩
  have h2 := this.2
  rw [Bool.and_eq_true, Bool.not_eq_true'] at h2
  exact h2
theorem gNx_cong {n s : Nat} {T T' : Nat → Bool} (h : ∀ k, k < n → s.testBit k = false → T (s ||| 2 ^ k) = T' (s ||| 2 ^ k)) : gNx n T s = gNx n T' s := by
  unfold gNx
  refine zfst_cong (fun k hk => ?_)
  cases hb : s.testBit k
  · rw [h k hk hb]
  · rfl
theorem zar {N j i d : Nat} (h : N - j ≤ i) (hj : j < N) (hd : i + (d + 1) ≤ N) : ¬ j = N - 1 - (i + d) := by omega
theorem gEnd_keep (p : Nat) {j : Nat} (hj : j < 2 ^ vN g 7) : ∀ d i, i + d ≤ 2 ^ vN g 7 → 2 ^ vN g 7 - j ≤ i → gEnd g p (i + d) j = gEnd g p i j
  | 0, _, _, _ => rfl
  | d + 1, i, hd, h => by
    show (if j = 2 ^ vN g 7 - 1 - (i + d) then _ else gEnd g p (i + d) j) = _
    rw [if_neg (zar h hj hd)]
    exact gEnd_keep p hj d i (by omega) h
theorem gEnd_T (p : Nat) {i j : Nat} (hj : j < 2 ^ vN g 7) (h : 2 ^ vN g 7 - j ≤ i) (hi : i ≤ 2 ^ vN g 7) : gEnd g p i j = gT g p j := by
  have := gEnd_keep (g := g) p hj (2 ^ vN g 7 - i) i (by omega) h
  rw [show i + (2 ^ vN g 7 - i) = 2 ^ vN g 7 by omega] at this
  exact this.symm
theorem gT_eq (p : Nat) {s : Nat} (hs : s < 2 ^ vN g 7) : gT g p s = ((decide (s = 0) || gHold g p s) && (decide (s = 2 ^ vN g 7 - 1) || (gNx (vN g 7) (gT g p) s).isSome)) := by
  rw [← gEnd_T p (i := 2 ^ vN g 7 - 1 - s + 1) hs (by omega) (by omega)]
  show (if s = 2 ^ vN g 7 - 1 - (2 ^ vN g 7 - 1 - s) then _ else _) = _
  rw [if_pos (by omega), gNx_cong (T' := gT g p)]
  intro k hk hb
  have h1 := zor_gt hb
  have h2 := zor_lt hs hk
  exact gEnd_T p h2 (by omega) (by omega)
theorem zct_or {s k : Nat} (hb : s.testBit k = false) : ∀ n, zct (fun b => (s ||| 2 ^ k).testBit b) n = zct (fun b => s.testBit b) n + if k < n then 1 else 0
  | 0 => by simp [zct]
  | n + 1 => by
    have ih := zct_or hb n
    unfold zct
    rw [ih, Nat.testBit_or, Nat.testBit_two_pow]
    by_cases e : k = n
    · subst e
      rw [hb, decide_eq_true rfl]
      simp
    · rw [decide_eq_false e, Bool.or_false]
      by_cases h : k < n
      · rw [if_pos h, if_pos (show k < n + 1 by omega)]; omega
      · rw [if_neg h, if_neg (show ¬ k < n + 1 by omega)]; omega
theorem zct_full (n : Nat) : zct (fun b => (2 ^ n - 1).testBit b) n = n := zct_all (fun j hj => by rw [Nat.testBit_two_pow_sub_one]; exact decide_eq_true hj)
theorem gSq_ok {p : Nat} (h0 : gT g p 0 = true) : ∀ k, k ≤ vN g 7 → gSq g p k < 2 ^ vN g 7 ∧ gT g p (gSq g p k) = true ∧ zct (fun b => (gSq g p k).testBit b) (vN g 7) = k
  | 0, _ => ⟨Nat.two_pow_pos _, h0, zct_0 (fun j _ => Nat.zero_testBit j)⟩
  | k + 1, hk => by
    obtain ⟨a, b, c⟩ := gSq_ok h0 k (by omega)
    have hne : gSq g p k ≠ 2 ^ vN g 7 - 1 := by
      intro e
      rw [e, zct_full] at c
      omega
    have b' := b
    rw [gT_eq p a, decide_eq_false hne, Bool.false_or, Bool.and_eq_true] at b'
    obtain ⟨n, hn⟩ := Option.isSome_iff_exists.mp b'.2
    obtain ⟨h1, h2, h3⟩ := gNx_lt hn
    have e : gSq g p (k + 1) = gSq g p k ||| 2 ^ n := by
      show gSq g p k ||| 2 ^ ((gNx (vN g 7) (gT g p) (gSq g p k)).getD 0) = _
      rw [hn]; rfl
    rw [e]
    refine ⟨zor_lt a h1, h3, ?_⟩
    rw [zct_or h2, c, if_pos h1]
theorem gSq_next {p : Nat} (h0 : gT g p 0 = true) {k : Nat} (hk : k < vN g 7) : ∃ n, n < vN g 7 ∧ gNx (vN g 7) (gT g p) (gSq g p k) = some n ∧ gSq g p (k + 1) = gSq g p k ||| 2 ^ n := by
  obtain ⟨a, b, c⟩ := gSq_ok h0 k (by omega)
  have hne : gSq g p k ≠ 2 ^ vN g 7 - 1 := by
    intro e
    rw [e, zct_full] at c
    omega
  have b' := b
  rw [gT_eq p a, decide_eq_false hne, Bool.false_or, Bool.and_eq_true] at b'
  obtain ⟨n, hn⟩ := Option.isSome_iff_exists.mp b'.2
  obtain ⟨h1, h2, h3⟩ := gNx_lt hn
  refine ⟨n, h1, hn, ?_⟩
  show gSq g p k ||| 2 ^ ((gNx (vN g 7) (gT g p) (gSq g p k)).getD 0) = _
  rw [hn]; rfl
def offC (I I' : zI) : Prop := ∀ p, p ≠ q_canEnd → I' p = I p
theorem l1_X12_order (hZ : ShR Z) (hB : InvB g) {p : Nat} {i : Int32} (hp : p < 10)
    (hx : ∀ I' : zI, offC I I' → (∀ j, j < 2 ^ vN g 7 → I' q_canEnd j = zb (gT g p j)) → zX l G mX12_order 2 0 0 87 [some (.ref qR), some (.int (nI p)), some (.int i), none, none, none] [] Z (va_up I' q_s g) Q) :
    ∀ r (I' : zI), r ≤ 2 ^ vN g 7 → offC I I' → (∀ j, r ≤ j → j < 2 ^ vN g 7 → I' q_canEnd j = zb (gEnd g p (2 ^ vN g 7 - r) j)) → zX l G mX12_order 2 0 0 34 [some (.ref qR), some (.int (nI p)), some (.int i), some (.int (nI (2 ^ vN g 7 - 1))), some (.int (nI r + Int32.ofInt (-1))), none] [] Z (va_up I' q_s g) Q := by
  have h7 := iv7 hB
  have hN : 2 ^ vN g 7 ≤ 2 ^ 8 := Nat.pow_le_pow_right (by omega) h7.2
  intro r
  induction r with
  | zero =>
    intro I' _ hI ht
    refine x_ild4 (n := 36) dX12_order_34 rfl ?_
    refine x_if_lt (n := 39) (tgt := 87) dX12_order_36 rfl (by decide) (fun c_36 => ?_) (fun c_36 => ?_)
    · refine x_fg3 (x_fg4 (hx I' hI (fun j hj => ?_)))
      rw [ht j (by omega) hj]; rfl
    · exact absurd (by decide) c_36
  | succ r ih =>
    intro I' hr hI ht
    rw [zdec (by omega), Nat.add_sub_cancel]
    have hr2 : r < 2 ^ vN g 7 := by omega
    have hgn : ∀ k, k < vN g 7 → r.testBit k = false → I' q_canEnd (r ||| 2 ^ k) = zb (gEnd g p (2 ^ vN g 7 - (r + 1)) (r ||| 2 ^ k)) := fun k hk hb => ht _ (zor_gt hb) (zor_lt hr2 hk)
    have hpow := Nat.two_pow_pos (vN g 7)
    have nx : ∀ v : Bool, ((decide (r = 0) || gHold g p r) && (decide (r = 2 ^ vN g 7 - 1) || (gNx (vN g 7) (gEnd g p (2 ^ vN g 7 - (r + 1))) r).isSome)) = v → zX l G mX12_order 2 0 0 34 [some (.ref qR), some (.int (nI p)), some (.int i), some (.int (nI (2 ^ vN g 7 - 1))), some (.int (nI r + Int32.ofInt (-1))), none] [] Z (va_up (va_up I' q_canEnd (upd (I' q_canEnd) r (zb v))) q_s g) Q := by
      intro v hv
      refine ih _ (by omega) (fun q hq => by rw [va_up_off hq]; exact hI q hq) (fun j h1 h2 => ?_)
      rw [va_up_same, show 2 ^ vN g 7 - r = 2 ^ vN g 7 - (r + 1) + 1 by omega]
      show _ = zb (if j = 2 ^ vN g 7 - 1 - (2 ^ vN g 7 - (r + 1)) then _ else gEnd g p (2 ^ vN g 7 - (r + 1)) j)
      by_cases e : j = r
      · subst e
        rw [upd_same, if_pos (by omega), hv]
      · rw [upd_off e, if_neg (by omega)]
        exact ht j (by omega) h2
    have oN : ∀ o : Option Nat, o = gNx (vN g 7) (gEnd g p (2 ^ vN g 7 - (r + 1))) r → (oI o < 0 ∧ o.isSome = false) ∨ (¬ oI o < 0 ∧ o.isSome = true) := by
      intro o ho
      cases o with
      | none => exact Or.inl ⟨by decide, rfl⟩
      | some k =>
        have := (gNx_lt ho.symm).1
        exact Or.inr ⟨nI_pos (show k < 2147483648 by omega), rfl⟩
    have oN2 := oN _ rfl
    generalize hgo : gNx (vN g 7) (gEnd g p (2 ^ vN g 7 - (r + 1))) r = o at nx oN2
    have hr0 : (nI r = 0) = (r = 0) := propext ⟨fun e => (nI_eq (b := 0) (by omega) (by omega)).mp e, fun e => by rw [e]; rfl⟩
    refine x_ild4 (n := 36) dX12_order_34 rfl ?_
    refine x_if_lt (n := 39) (tgt := 87) dX12_order_36 rfl (by decide) (fun c_36 => ?_) (fun c_36 => ?_)
    · exact absurd c_36 (nI_pos (by omega))
    · refine x_ald0 (n := 40) dX12_order_39 rfl ?_
      refine x_getR (n := 43) flX12_65 rfl dX12_order_40 rfl (rK hZ) (rP_canEnd hZ) ?_
      refine x_ild4 (n := 45) dX12_order_43 rfl ?_
      refine x_ild4 (n := 47) dX12_order_45 rfl ?_
      refine x_if_eq (n := 50) (tgt := 60) dX12_order_47 rfl (by decide) (fun c_47 => ?_) (fun c_47 => ?_)
      · refine x_ild4 (n := 62) dX12_order_60 rfl ?_
        refine x_ild3 (n := 63) dX12_order_62 rfl ?_
        refine x_icmpN_eq (n := 66) (tgt := 75) dX12_order_63 rfl (by decide) (by omega) (by omega) (fun c_63 => ?_) (fun c_63 => ?_)
        · refine x_ic1 (n := 76) dX12_order_75 rfl ?_
          refine x_goto (n := 80) dX12_order_76 (by decide) ?_
          refine x_ozst (n := 81) dX12_order_80 rfl (rA_canEnd hZ) (by decide) (Nat.le_of_ble_eq_true rfl) (by omega) (by first | exact vpn0 | exact vpn1 | assumption) ?_
          refine x_iinc4 (n := 84) (v := nI r + Int32.ofInt (-1)) dX12_order_81 rfl (by decide) rfl rfl ?_
          refine x_goto (n := 34) dX12_order_84 (by decide) ?_
          rw [hr0] at c_47
          clear ih ht hgn hx oN
          first | exact nx true (by grind) | exact nx false (by grind)
        · refine x_ald0 (n := 67) dX12_order_66 rfl ?_
          refine x_ild4 (n := 69) dX12_order_67 rfl ?_
          refine x_cV1 (n := 72) (d' := 0) zcX12_nextArch mlX12_337 dX12_order_69 rfl (rK hZ) (Nat.le_of_ble_eq_true rfl) (Nat.le_of_ble_eq_true rfl) ?_
          refine c_X12_nextArch hZ hB hr2 hgn ?_
          rw [hgo]
          refine x_some ?_
          refine x_if_lt (n := 75) (tgt := 79) dX12_order_72 rfl (by decide) (fun c_72 => ?_) (fun c_72 => ?_)
          · refine x_ic0 (n := 80) dX12_order_79 rfl ?_
            refine x_ozst (n := 81) dX12_order_80 rfl (rA_canEnd hZ) (by decide) (Nat.le_of_ble_eq_true rfl) (by omega) (by first | exact vpn0 | exact vpn1 | assumption) ?_
            refine x_iinc4 (n := 84) (v := nI r + Int32.ofInt (-1)) dX12_order_81 rfl (by decide) rfl rfl ?_
            refine x_goto (n := 34) dX12_order_84 (by decide) ?_
            rw [hr0] at c_47
            clear ih ht hgn hx oN
            first | exact nx true (by grind) | exact nx false (by grind)
          · refine x_ic1 (n := 76) dX12_order_75 rfl ?_
            refine x_goto (n := 80) dX12_order_76 (by decide) ?_
            refine x_ozst (n := 81) dX12_order_80 rfl (rA_canEnd hZ) (by decide) (Nat.le_of_ble_eq_true rfl) (by omega) (by first | exact vpn0 | exact vpn1 | assumption) ?_
            refine x_iinc4 (n := 84) (v := nI r + Int32.ofInt (-1)) dX12_order_81 rfl (by decide) rfl rfl ?_
            refine x_goto (n := 34) dX12_order_84 (by decide) ?_
            rw [hr0] at c_47
            clear ih ht hgn hx oN
            first | exact nx true (by grind) | exact nx false (by grind)
      · refine x_ald0 (n := 51) dX12_order_50 rfl ?_
        refine x_ild4 (n := 53) dX12_order_51 rfl ?_
        refine x_ild1 (n := 54) dX12_order_53 rfl ?_
        refine x_cV2 (n := 57) (d' := 1) zcX12_holds mlX12_334 dX12_order_54 rfl (rK hZ) (Nat.le_of_ble_eq_true rfl) (Nat.le_of_ble_eq_true rfl) ?_
        refine c_X12_holds hZ hB (by omega) hp ?_
        refine x_some ?_
        refine x_zif_eq (n := 60) (tgt := 79) dX12_order_57 rfl (by decide) (fun c_57 => ?_) (fun c_57 => ?_)
        · refine x_ic0 (n := 80) dX12_order_79 rfl ?_
          refine x_ozst (n := 81) dX12_order_80 rfl (rA_canEnd hZ) (by decide) (Nat.le_of_ble_eq_true rfl) (by omega) (by first | exact vpn0 | exact vpn1 | assumption) ?_
          refine x_iinc4 (n := 84) (v := nI r + Int32.ofInt (-1)) dX12_order_81 rfl (by decide) rfl rfl ?_
          refine x_goto (n := 34) dX12_order_84 (by decide) ?_
          rw [hr0] at c_47
          clear ih ht hgn hx oN
          first | exact nx true (by grind) | exact nx false (by grind)
        · refine x_ild4 (n := 62) dX12_order_60 rfl ?_
          refine x_ild3 (n := 63) dX12_order_62 rfl ?_
          refine x_icmpN_eq (n := 66) (tgt := 75) dX12_order_63 rfl (by decide) (by omega) (by omega) (fun c_63 => ?_) (fun c_63 => ?_)
          · refine x_ic1 (n := 76) dX12_order_75 rfl ?_
            refine x_goto (n := 80) dX12_order_76 (by decide) ?_
            refine x_ozst (n := 81) dX12_order_80 rfl (rA_canEnd hZ) (by decide) (Nat.le_of_ble_eq_true rfl) (by omega) (by first | exact vpn0 | exact vpn1 | assumption) ?_
            refine x_iinc4 (n := 84) (v := nI r + Int32.ofInt (-1)) dX12_order_81 rfl (by decide) rfl rfl ?_
            refine x_goto (n := 34) dX12_order_84 (by decide) ?_
            rw [hr0] at c_47
            clear ih ht hgn hx oN
            first | exact nx true (by grind) | exact nx false (by grind)
          · refine x_ald0 (n := 67) dX12_order_66 rfl ?_
            refine x_ild4 (n := 69) dX12_order_67 rfl ?_
            refine x_cV1 (n := 72) (d' := 0) zcX12_nextArch mlX12_337 dX12_order_69 rfl (rK hZ) (Nat.le_of_ble_eq_true rfl) (Nat.le_of_ble_eq_true rfl) ?_
            refine c_X12_nextArch hZ hB hr2 hgn ?_
            rw [hgo]
            refine x_some ?_
            refine x_if_lt (n := 75) (tgt := 79) dX12_order_72 rfl (by decide) (fun c_72 => ?_) (fun c_72 => ?_)
            · refine x_ic0 (n := 80) dX12_order_79 rfl ?_
              refine x_ozst (n := 81) dX12_order_80 rfl (rA_canEnd hZ) (by decide) (Nat.le_of_ble_eq_true rfl) (by omega) (by first | exact vpn0 | exact vpn1 | assumption) ?_
              refine x_iinc4 (n := 84) (v := nI r + Int32.ofInt (-1)) dX12_order_81 rfl (by decide) rfl rfl ?_
              refine x_goto (n := 34) dX12_order_84 (by decide) ?_
              rw [hr0] at c_47
              clear ih ht hgn hx oN
              first | exact nx true (by grind) | exact nx false (by grind)
            · refine x_ic1 (n := 76) dX12_order_75 rfl ?_
              refine x_goto (n := 80) dX12_order_76 (by decide) ?_
              refine x_ozst (n := 81) dX12_order_80 rfl (rA_canEnd hZ) (by decide) (Nat.le_of_ble_eq_true rfl) (by omega) (by first | exact vpn0 | exact vpn1 | assumption) ?_
              refine x_iinc4 (n := 84) (v := nI r + Int32.ofInt (-1)) dX12_order_81 rfl (by decide) rfl rfl ?_
              refine x_goto (n := 34) dX12_order_84 (by decide) ?_
              rw [hr0] at c_47
              clear ih ht hgn hx oN
              first | exact nx true (by grind) | exact nx false (by grind)
theorem l2_X12_order (hZ : ShR Z) (hB : InvB g) {p i : Nat} (h0 : gT g p 0 = true) (hi : i < vN g 7) (ht : ∀ j, j < 2 ^ vN g 7 → I q_canEnd j = zb (gT g p j)) (hq : Q (some (.int (oI (gNx (vN g 7) (gT g p) (gSq g p i))))) Z (va_up I q_s g)) : ∀ m k, k ≤ i → i - k < m → zX l G mX12_order 2 0 0 116 [some (.ref qR), some (.int (nI p)), some (.int (nI i)), none, some (.int (nI (gSq g p k))), some (.int (nI k))] [] Z (va_up I q_s g) Q := by
  have h7 := iv7 hB
  intro m
  induction m with
  | zero => intro k _ h; exact absurd h (by omega)
  | succ m ih =>
    intro k hk hm
    obtain ⟨a, b, c⟩ := gSq_ok h0 k (by omega)
    have ha : ∀ j, j < vN g 7 → (gSq g p k).testBit j = false → I q_canEnd (gSq g p k ||| 2 ^ j) = zb (gT g p (gSq g p k ||| 2 ^ j)) := fun j hj _ => ht _ (zor_lt a hj)
    refine x_ild5 (n := 118) dX12_order_116 rfl ?_
    refine x_ild2 (n := 119) dX12_order_118 rfl ?_
    refine x_icmpN_ge (n := 122) (tgt := 141) dX12_order_119 rfl (by decide) (by omega) (by omega) (fun c_119 => ?_) (fun c_119 => ?_)
    · refine x_ald0 (n := 142) dX12_order_141 rfl ?_
      refine x_ild4 (n := 144) dX12_order_142 rfl ?_
      refine x_cV1 (n := 147) (d' := 0) zcX12_nextArch mlX12_337 dX12_order_144 rfl (rK hZ) (Nat.le_of_ble_eq_true rfl) (Nat.le_of_ble_eq_true rfl) ?_
      refine c_X12_nextArch hZ hB a ha ?_
      refine x_some ?_
      refine r_iret dX12_order_147 rfl ?_
      have e : k = i := by omega
      subst e
      exact hq
    · refine x_ild4 (n := 124) dX12_order_122 rfl ?_
      refine x_ic1 (n := 125) dX12_order_124 rfl ?_
      refine x_ald0 (n := 126) dX12_order_125 rfl ?_
      refine x_ild4 (n := 128) dX12_order_126 rfl ?_
      refine x_cV1 (n := 131) (d' := 0) zcX12_nextArch mlX12_337 dX12_order_128 rfl (rK hZ) (Nat.le_of_ble_eq_true rfl) (Nat.le_of_ble_eq_true rfl) ?_
      refine c_X12_nextArch hZ hB a ha ?_
      obtain ⟨n, hn, hn2, hn3⟩ := gSq_next h0 (show k < vN g 7 by omega)
      rw [hn2]
      refine x_some ?_
      show zX _ _ _ _ _ _ _ _ (.int (nI n) :: _) _ _ _
      refine x_ishl (n := 132) dX12_order_131 rfl ?_
      rw [zshl (by omega)]
      refine x_ior (n := 133) dX12_order_132 rfl ?_
      rw [zor, ← hn3]
      refine x_ist4 (n := 135) dX12_order_133 rfl (by decide) rfl ?_
      refine x_iincN5 (n := 138) (k := 1) dX12_order_135 rfl (by decide) rfl ?_
      refine x_goto (n := 116) dX12_order_138 (by decide) ?_
      exact ih (k + 1) (by omega) (by omega)
theorem l3_X12_order (hZ : ShR Z) (hB : InvB g) {p : Nat} {i : Int32} (c_13 : 0 ≤ i) (ht : ∀ j, j < 2 ^ vN g 7 → I q_canEnd j = zb (gT g p j)) (hq2 : Q (some (.int (if gT g p 0 = true ∧ i < nI (vN g 7) then oI (gNx (vN g 7) (gT g p) (gSq g p (ix i))) else -1000000005))) Z (va_up I q_s g)) : zX l G mX12_order 2 0 0 87 [some (.ref qR), some (.int (nI p)), some (.int i), none, none, none] [] Z (va_up I q_s g) Q := by
  have h7 := iv7 hB
  have hpow := Nat.two_pow_pos (vN g 7)
  refine x_ald0 (n := 88) dX12_order_87 rfl ?_
  refine x_getR (n := 91) flX12_65 rfl dX12_order_88 rfl (rK hZ) (rP_canEnd hZ) ?_
  refine x_ic0 (n := 92) dX12_order_91 rfl ?_
  refine x_ozld (n := 93) dX12_order_92 rfl (rA_canEnd hZ) (by decide) (Nat.le_of_ble_eq_true rfl) (by omega) ?_
  rw [ht 0 hpow]
  refine x_zif_eq (n := 96) (tgt := 107) dX12_order_93 rfl (by decide) (fun c_93 => ?_) (fun c_93 => ?_)
  · rw [if_neg (by grind)] at hq2
    refine x_ldc (n := 109) dX12_order_107 rfl kiX12_88 ?_
    refine r_iret dX12_order_109 rfl ?_
    exact hq2
  · refine x_ild2 (n := 97) dX12_order_96 rfl ?_
    refine x_ald0 (n := 98) dX12_order_97 rfl ?_
    refine x_getR (n := 101) flX12_7 rfl dX12_order_98 rfl (rK hZ) (rP_s hZ) ?_
    refine x_bipush (n := 103) (v := nI 7) dX12_order_101 rfl (by decide) ?_
    refine x_sld (n := 104) dX12_order_103 rfl hZ (by omega) ?_
    rw [h7.1]
    refine x_icmp_lt (n := 107) (tgt := 110) dX12_order_104 rfl (by decide) (fun c_104 => ?_) (fun c_104 => ?_)
    · rw [if_pos ⟨c_93, c_104⟩] at hq2
      obtain ⟨n, hn, hn2⟩ := nI_of (Int32.not_lt.mpr c_13)
      subst hn2
      rw [ix_nI (by omega)] at hq2
      have hn7 : n < vN g 7 := (nI_ltI (by omega) (by omega)).mp c_104
      refine x_ic0 (n := 111) dX12_order_110 rfl ?_
      refine x_ist4 (n := 113) dX12_order_111 rfl (by decide) rfl ?_
      refine x_ic0 (n := 114) dX12_order_113 rfl ?_
      refine x_ist5 (n := 116) dX12_order_114 rfl (by decide) rfl ?_
      exact l2_X12_order hZ hB c_93 hn7 ht hq2 (n + 1) 0 (by omega) (by omega)
    · rw [if_neg (by grind)] at hq2
      refine x_ldc (n := 109) dX12_order_107 rfl kiX12_88 ?_
      refine r_iret dX12_order_109 rfl ?_
      exact hq2
theorem c_X12_order (hZ : ShR Z) (hB : InvB g) {x i : Int32} (hq : ∀ I' : zI, offC I I' → Q (some (.int (f_order g x i))) Z (va_up I' q_s g)) : zM l G mX12_order 2 0 0 [.ref qR, .int x, .int i] Z (va_up I q_s g) Q := by
  have h7 := iv7 hB
  have hN : 2 ^ vN g 7 ≤ 2 ^ 8 := Nat.pow_le_pow_right (by omega) h7.2
  have hpow := Nat.two_pow_pos (vN g 7)
  refine x_entry [some (.ref qR), some (.int x), some (.int i), none, none, none] 3 rfl rfl (Nat.le_of_ble_eq_true rfl) ?_
  unfold f_order at hq
  refine x_ild1 (n := 1) dX12_order_0 rfl ?_
  refine x_i2l (n := 2) dX12_order_1 rfl ?_
  refine x_lconst (n := 3) (v := 0) dX12_order_2 rfl (by decide) ?_
  refine x_ldc2 (n := 6) dX12_order_3 rfl klX12_182 ?_
  refine x_cS3 (n := 9) (d' := 0) zcX12_isIn mlX12_89 dX12_order_6 rfl (Nat.le_of_ble_eq_true rfl) (Nat.le_of_ble_eq_true rfl) ?_
  refine c_X12_isIn (zin x 0 9) (by unfold zin; rw [zI64]; rfl) ?_
  refine x_some ?_
  refine x_zif_eq (n := 12) (tgt := 16) dX12_order_9 rfl (by decide) (fun c_9 => ?_) (fun c_9 => ?_)
  · rw [if_neg (by grind)] at hq
    refine x_ldc (n := 18) dX12_order_16 rfl kiX12_100 ?_
    refine r_iret dX12_order_18 rfl ?_
    exact hq I (fun _ _ => rfl)
  · refine x_ild2 (n := 13) dX12_order_12 rfl ?_
    refine x_if_ge (n := 16) (tgt := 19) dX12_order_13 rfl (by decide) (fun c_13 => ?_) (fun c_13 => ?_)
    · rw [if_pos ⟨c_9, c_13⟩] at hq
      obtain ⟨p, hp, hp2, rfl⟩ := z_num 10 c_9 (by omega)
      rw [ix_nI (by omega)] at hq
      refine x_ic1 (n := 20) dX12_order_19 rfl ?_
      refine x_ald0 (n := 21) dX12_order_20 rfl ?_
      refine x_getR (n := 24) flX12_7 rfl dX12_order_21 rfl (rK hZ) (rP_s hZ) ?_
      refine x_bipush (n := 26) (v := nI 7) dX12_order_24 rfl (by decide) ?_
      refine x_sld (n := 27) dX12_order_26 rfl hZ (by omega) ?_
      rw [h7.1]
      refine x_ishl (n := 28) dX12_order_27 rfl ?_
      rw [zshl (by omega)]
      refine x_ic1 (n := 29) dX12_order_28 rfl ?_
      refine x_isubN (n := 30) dX12_order_29 rfl (by omega) ?_
      refine x_ist3 (n := 31) dX12_order_30 rfl (by decide) rfl ?_
      refine x_ild3 (n := 32) dX12_order_31 rfl ?_
      refine x_ist4 (n := 34) dX12_order_32 rfl (by decide) rfl ?_
      have hl1 := l1_X12_order (l := l) (G := G) (I := I) (Q := Q) (g := g) (i := i) hZ hB hp ?_ (2 ^ vN g 7) I (by omega) (fun _ _ => rfl) (fun j h1 h2 => absurd h1 (by omega))
      · rw [zdec (by omega)] at hl1; exact hl1
      · exact fun I' hI ht => l3_X12_order hZ hB c_13 ht (hq I' hI)
    · rw [if_neg (by grind)] at hq
      refine x_ldc (n := 18) dX12_order_16 rfl kiX12_100 ?_
      refine r_iret dX12_order_18 rfl ?_
      exact hq I (fun _ _ => rfl)
end
