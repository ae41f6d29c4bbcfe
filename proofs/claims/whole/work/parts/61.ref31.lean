section
variable {l : Launch} {G : zG} {Z : zS} {I : zI} {g : Nat → Int32} {Q : Option Value → zS → zI → Prop}
theorem lexOK_tr {f R R0 R' : Nat → Int32} {t b : Nat} {tg : Bool} (h : ∀ i, ¬ (i = 16 ∨ i = 17 ∨ i = 18 ∨ i = 19 ∨ i = 20) → R i = R0 i) (hl : lexOK f t b tg R R') : lexOK f t b tg R0 R' :=
  ⟨hl.1, fun i hi => (hl.2.1 i hi).trans (h i hi), hl.2.2⟩
theorem m4_X12_next (hZ : ShR Z) {t p b : Nat} {tg : Bool} (ht2 : t ≤ 96) (hp : p ≤ t) (hbt : b ≤ t) (ht : I qR 15 = nI t) {J : zI} (hJ : jOff I J (fun i => i = 17)) (h17 : J qR 17 = nI b)
    (hq : ∀ J : zI, (∀ q, q ≠ qR → J q = I q) → lexOK (I q_tape) t b (tg && decide (p = b)) (I qR) (J qR) → Q none Z (va_up J q_s g)) :
    zX l G mX12_next 2 0 0 72 [some (.ref qR), some (.int (zb tg)), some (.int (nI p))] [] Z (va_up J q_s g) Q := by
  have e15 : J qR 15 = nI t := (hJ.2 15 (by omega)).trans ht
  have et : J q_tape = I q_tape := hJ.1 _ (by decide)
  have fin : ∀ tg2 : Bool, (tg && decide (p = b)) = tg2 → zX l G mX12_next 2 0 0 98 [some (.ref qR), some (.int (zb tg2)), some (.int (nI p))] [] Z (va_up (va_up J qR (upd (J qR) 16 (nI b))) q_s g) Q := by
    intro tg2 htg
    subst htg
    refine m1_X12_next (t := t) (b := b) hZ ht2 hbt (by rw [va_up_same, upd_off (by omega)]; exact e15) (by rw [va_up_same, upd_off (by omega)]; exact h17) (by rw [va_up_same, upd_same]) (fun J2 h1 h2 => ?_)
    refine hq J2 (fun q h => (h1 q h).trans ((va_up_off h).trans (hJ.1 q h))) ?_
    rw [va_up_off (show q_tape ≠ qR by decide), et, va_up_same] at h2
    exact lexOK_tr (fun i hi => (upd_off (by omega)).trans (hJ.2 i (by omega))) h2
  refine x_ild1 (n := 73) dX12_next_72 rfl ?_
  refine x_zif_eq (n := 76) (tgt := 88) dX12_next_73 rfl (by decide) (fun c_73 => ?_) (fun c_73 => ?_)
  · refine x_ic0 (n := 89) dX12_next_88 rfl ?_
    refine x_ist1 (n := 90) dX12_next_89 rfl (by decide) rfl ?_
    refine x_ald0 (n := 91) dX12_next_90 rfl ?_
    refine x_ald0 (n := 92) dX12_next_91 rfl ?_
    refine x_rget (n := 95) flX12_226 rfl dX12_next_92 rfl hZ ?_
    rw [h17]
    refine x_rput (n := 98) flX12_232 rfl rfl rfl rfl dX12_next_95 rfl hZ ?_
    first | exact fin true (by rw [c_73, decide_eq_true c_81]; rfl) | exact fin false (by rw [c_73]; rfl) | exact fin false (by rw [decide_eq_false c_81, Bool.and_false])
  · refine x_ild2 (n := 77) dX12_next_76 rfl ?_
    refine x_ald0 (n := 78) dX12_next_77 rfl ?_
    refine x_rget (n := 81) flX12_226 rfl dX12_next_78 rfl hZ ?_
    rw [h17]
    refine x_icmpN_ne (n := 84) (tgt := 88) dX12_next_81 rfl (by decide) (by omega) (by omega) (fun c_81 => ?_) (fun c_81 => ?_)
    · refine x_ic0 (n := 89) dX12_next_88 rfl ?_
      refine x_ist1 (n := 90) dX12_next_89 rfl (by decide) rfl ?_
      refine x_ald0 (n := 91) dX12_next_90 rfl ?_
      refine x_ald0 (n := 92) dX12_next_91 rfl ?_
      refine x_rget (n := 95) flX12_226 rfl dX12_next_92 rfl hZ ?_
      rw [h17]
      refine x_rput (n := 98) flX12_232 rfl rfl rfl rfl dX12_next_95 rfl hZ ?_
      first | exact fin true (by rw [c_73, decide_eq_true c_81]; rfl) | exact fin false (by rw [c_73]; rfl) | exact fin false (by rw [decide_eq_false c_81, Bool.and_false])
    · refine x_ic1 (n := 85) dX12_next_84 rfl ?_
      refine x_goto (n := 89) dX12_next_85 (by decide) ?_
      refine x_ist1 (n := 90) dX12_next_89 rfl (by decide) rfl ?_
      refine x_ald0 (n := 91) dX12_next_90 rfl ?_
      refine x_ald0 (n := 92) dX12_next_91 rfl ?_
      refine x_rget (n := 95) flX12_226 rfl dX12_next_92 rfl hZ ?_
      rw [h17]
      refine x_rput (n := 98) flX12_232 rfl rfl rfl rfl dX12_next_95 rfl hZ ?_
      first | exact fin true (by rw [c_73, decide_eq_true c_81]; rfl) | exact fin false (by rw [c_73]; rfl) | exact fin false (by rw [decide_eq_false c_81, Bool.and_false])
theorem c_X12_next (hZ : ShR Z) {t p : Nat} (ht2 : t ≤ 96) (hp : p ≤ t) (ht : I qR 15 = nI t) (h17 : I qR 17 = nI p)
    (hq : ∀ J : zI, (∀ q, q ≠ qR → J q = I q) → lexOK (I q_tape) t (skB (I q_tape) (t - p) p) (lexT (I q_tape) t p (I qR 18)) (I qR) (J qR) → Q none Z (va_up J q_s g)) :
    zM l G mX12_next 2 0 0 [.ref qR] Z (va_up I q_s g) Q := by
  have hs := skB_le (I q_tape) (t - p) p
  refine x_entry [some (.ref qR), none, none] 2 rfl rfl (Nat.le_of_ble_eq_true rfl) ?_
  have fin : ∀ tg : Bool, decide (0 < p ∧ (I qR 18 = nI 1 ∨ I qR 18 = nI 2)) = tg → zX l G mX12_next 2 0 0 34 [some (.ref qR), some (.int (zb tg)), some (.int (nI p))] [] Z (va_up I q_s g) Q := by
    intro tg htg
    subst htg
    refine l1_X12_next hZ ht2 (t - p) p I ⟨fun _ _ => rfl, fun _ _ => rfl⟩ ht h17 (by omega) (fun J hJ h17' => ?_)
    exact m4_X12_next hZ ht2 hp (by omega) ht hJ h17' hq
  refine x_ald0 (n := 1) dX12_next_0 rfl ?_
  refine x_rget (n := 4) flX12_226 rfl dX12_next_1 rfl hZ ?_
  rw [h17]
  refine x_if_le (n := 7) (tgt := 27) dX12_next_4 rfl (by decide) (fun c_4 => ?_) (fun c_4 => ?_)
  · refine x_ic0 (n := 28) dX12_next_27 rfl ?_
    refine x_ist1 (n := 29) dX12_next_28 rfl (by decide) rfl ?_
    refine x_ald0 (n := 30) dX12_next_29 rfl ?_
    refine x_rget (n := 33) flX12_226 rfl dX12_next_30 rfl hZ ?_
    rw [h17]
    refine x_ist2 (n := 34) dX12_next_33 rfl (by decide) rfl ?_
    first | exact fin true (decide_eq_true ⟨Nat.pos_of_ne_zero (fun e => c_4 (by rw [e]; decide)), Or.inl c_12⟩) | exact fin true (decide_eq_true ⟨Nat.pos_of_ne_zero (fun e => c_4 (by rw [e]; decide)), Or.inr c_20⟩) | exact fin false (decide_eq_false (fun h => by rcases h.2 with h | h; exact c_12 h; exact c_20 h)) | exact fin false (decide_eq_false (fun h => nI_nle h.1 (by omega) c_4))
  · refine x_ald0 (n := 8) dX12_next_7 rfl ?_
    refine x_rget (n := 11) flX12_229 rfl dX12_next_8 rfl hZ ?_
    refine x_ic1 (n := 12) dX12_next_11 rfl ?_
    refine x_icmp_eq (n := 15) (tgt := 23) dX12_next_12 rfl (by decide) (fun c_12 => ?_) (fun c_12 => ?_)
    · refine x_ic1 (n := 24) dX12_next_23 rfl ?_
      refine x_goto (n := 28) dX12_next_24 (by decide) ?_
      refine x_ist1 (n := 29) dX12_next_28 rfl (by decide) rfl ?_
      refine x_ald0 (n := 30) dX12_next_29 rfl ?_
      refine x_rget (n := 33) flX12_226 rfl dX12_next_30 rfl hZ ?_
      rw [h17]
      refine x_ist2 (n := 34) dX12_next_33 rfl (by decide) rfl ?_
      first | exact fin true (decide_eq_true ⟨Nat.pos_of_ne_zero (fun e => c_4 (by rw [e]; decide)), Or.inl c_12⟩) | exact fin true (decide_eq_true ⟨Nat.pos_of_ne_zero (fun e => c_4 (by rw [e]; decide)), Or.inr c_20⟩) | exact fin false (decide_eq_false (fun h => by rcases h.2 with h | h; exact c_12 h; exact c_20 h)) | exact fin false (decide_eq_false (fun h => nI_nle h.1 (by omega) c_4))
    · refine x_ald0 (n := 16) dX12_next_15 rfl ?_
      refine x_rget (n := 19) flX12_229 rfl dX12_next_16 rfl hZ ?_
      refine x_ic2 (n := 20) dX12_next_19 rfl ?_
      refine x_icmp_ne (n := 23) (tgt := 27) dX12_next_20 rfl (by decide) (fun c_20 => ?_) (fun c_20 => ?_)
      · refine x_ic0 (n := 28) dX12_next_27 rfl ?_
        refine x_ist1 (n := 29) dX12_next_28 rfl (by decide) rfl ?_
        refine x_ald0 (n := 30) dX12_next_29 rfl ?_
        refine x_rget (n := 33) flX12_226 rfl dX12_next_30 rfl hZ ?_
        rw [h17]
        refine x_ist2 (n := 34) dX12_next_33 rfl (by decide) rfl ?_
        first | exact fin true (decide_eq_true ⟨Nat.pos_of_ne_zero (fun e => c_4 (by rw [e]; decide)), Or.inl c_12⟩) | exact fin true (decide_eq_true ⟨Nat.pos_of_ne_zero (fun e => c_4 (by rw [e]; decide)), Or.inr c_20⟩) | exact fin false (decide_eq_false (fun h => by rcases h.2 with h | h; exact c_12 h; exact c_20 h)) | exact fin false (decide_eq_false (fun h => nI_nle h.1 (by omega) c_4))
      · refine x_ic1 (n := 24) dX12_next_23 rfl ?_
        refine x_goto (n := 28) dX12_next_24 (by decide) ?_
        refine x_ist1 (n := 29) dX12_next_28 rfl (by decide) rfl ?_
        refine x_ald0 (n := 30) dX12_next_29 rfl ?_
        refine x_rget (n := 33) flX12_226 rfl dX12_next_30 rfl hZ ?_
        rw [h17]
        refine x_ist2 (n := 34) dX12_next_33 rfl (by decide) rfl ?_
        first | exact fin true (decide_eq_true ⟨Nat.pos_of_ne_zero (fun e => c_4 (by rw [e]; decide)), Or.inl c_12⟩) | exact fin true (decide_eq_true ⟨Nat.pos_of_ne_zero (fun e => c_4 (by rw [e]; decide)), Or.inr c_20⟩) | exact fin false (decide_eq_false (fun h => by rcases h.2 with h | h; exact c_12 h; exact c_20 h)) | exact fin false (decide_eq_false (fun h => nI_nle h.1 (by omega) c_4))
end
