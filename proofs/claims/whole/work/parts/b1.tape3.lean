/-! ===== the class's tape: a part, a sign ===== -/
theorem pr_len (r : Nat) (st : List Nat) : (popR r st).length + (rstR r st).length = st.length := by
  unfold popR rstR
  rw [← List.length_append, List.takeWhile_append_dropWhile]
theorem pn_len (st : List Nat) : (popN st).length + (rstN st).length = st.length := by
  unfold popN rstN
  rw [← List.length_append, List.takeWhile_append_dropWhile]
theorem rst_sub {r : Nat} {st : List Nat} {c : Nat} (h : c ∈ rstR r st) : c ∈ st := (List.dropWhile_sublist _).subset h
theorem pop_two (r : Nat) : ∀ st : List Nat, popR r st = popR (r + 1) st ++ popR r (rstR (r + 1) st) ∧ rstR r st = rstR r (rstR (r + 1) st)
  | [] => ⟨rfl, rfl⟩
  | c :: st => by
    obtain ⟨i1, i2⟩ := pop_two r st
    by_cases h : r + 1 ≤ rnk c
    · have hd : decide (r + 1 ≤ rnk c) = true := decide_eq_true h
      have hd2 : decide (r ≤ rnk c) = true := decide_eq_true (by omega)
      have e1 : popR (r + 1) (c :: st) = c :: popR (r + 1) st := List.takeWhile_cons_of_pos hd
      have e2 : rstR (r + 1) (c :: st) = rstR (r + 1) st := List.dropWhile_cons_of_pos hd
      have e3 : popR r (c :: st) = c :: popR r st := List.takeWhile_cons_of_pos hd2
      have e4 : rstR r (c :: st) = rstR r st := List.dropWhile_cons_of_pos hd2
      rw [e1, e2, e3, e4, List.cons_append, ← i1]
      exact ⟨rfl, i2⟩
    · have hd : ¬ decide (r + 1 ≤ rnk c) = true := by rw [decide_eq_true_eq]; exact h
      have e1 : popR (r + 1) (c :: st) = [] := List.takeWhile_cons_of_neg hd
      have e2 : rstR (r + 1) (c :: st) = c :: st := List.dropWhile_cons_of_neg hd
      rw [e1, e2]
      exact ⟨rfl, rfl⟩
theorem topF_hd (st : List Nat) : topF st = st.headD 0 := by cases st <;> rfl
theorem ngs_app (a b : List Nat) : ngs (a ++ b) = ngs a ++ ngs b := List.map_append
theorem ngs_len (a : List Nat) : (ngs a).length = a.length := List.length_map _
section
variable {l : Launch} {G : zG} {Z : zS} {I : zI} {Q : Option Value → zS → zI → Prop} {cd : List Int32} {st : List Nat} {ob on pt : Nat} {want : Bool}
theorem c_X6_closesBracket (hS : ShL Z) (h : tpS I cd st ob on pt want) (hc : cd.length + st.length ≤ 96) (hb : ∀ c ∈ st, c < 256) (hob : ob ≤ 8) (hne : 0 < ob → rstR 1 st ≠ []) (hon : (popN (rstR 1 st).tail).length ≤ on) (hq0 : ob = 0 → Q (some (.int (nI 0))) Z I)
    (hq : 0 < ob → ∀ J, tpO I J → tpS J (cd ++ ngs (popR 1 st) ++ ngs (popN (rstR 1 st).tail)) (rstN (rstR 1 st).tail) (ob - 1) (on - (popN (rstR 1 st).tail).length) pt want → Q (some (.int (nI 1))) Z J) : zM l G mX6_closesBracket 2 0 0 [.ref 244] Z I Q := by
  refine x_entry [some (.ref 244)] 0 rfl rfl (Nat.le_of_ble_eq_true rfl) ?_
  have h9 := h.2.2.2.2.2.1
  have hpl := pr_len 1 st
  have h00 : nI ob = nI 0 ↔ ob = 0 := nI_eq (by omega) (by omega)
  refine x_ald0 (n := 1) dX6_closesBracket_0 rfl ?_
  refine x_getI (n := 4) flX6_32 rfl dX6_closesBracket_1 rfl (lK_Tp hS) ?_
  rw [h9]
  refine x_if_ne (n := 7) (tgt := 9) dX6_closesBracket_4 rfl (by decide) (fun c_4 => ?_) (fun c_4 => ?_)
  · refine x_ald0 (n := 10) dX6_closesBracket_9 rfl ?_
    refine x_ic1 (n := 11) dX6_closesBracket_10 rfl ?_
    have hob1 : 0 < ob := Nat.pos_of_ne_zero (fun e => c_4 (h00.mpr e))
    have hne' := hne hob1
    replace hq := hq hob1
    have hsub : ∀ c ∈ rstR 1 st, c < 256 := fun c hcc => hb c (rst_sub hcc)
    refine x_cV1 (n := 14) (d' := 1) zcX6_settleFrom mlX6_89 dX6_closesBracket_11 rfl (lK_Tp hS) (Nat.le_of_ble_eq_true rfl) (Nat.le_of_ble_eq_true rfl) ?_
    refine c_X6_settleFrom (r := 1) hS (by omega) h hc hb (fun J hJ hJs => ?_)
    obtain ⟨e, s', he⟩ : ∃ e s', rstR 1 st = e :: s' := by
      cases hr : rstR 1 st with
      | nil => exact absurd hr hne'
      | cons e s' => exact ⟨e, s', rfl⟩
    rw [he] at hJs hq hsub hon hpl
    rw [List.length_cons] at hpl
    refine x_none ?_
    refine x_ald0 (n := 15) dX6_closesBracket_14 rfl ?_
    refine x_dup (n := 16) dX6_closesBracket_15 rfl rfl ?_
    refine x_getI (n := 19) flX6_26 rfl dX6_closesBracket_16 rfl (lK_Tp hS) ?_
    rw [show J 244 6 = nI (s'.length + 1) from hJs.2.2.1]
    refine x_ic1 (n := 20) dX6_closesBracket_19 rfl ?_
    refine x_isubN (n := 21) dX6_closesBracket_20 rfl (by omega) ?_
    refine x_putI (n := 24) flX6_26 rfl (Or.inl rfl) rfl rfl dX6_closesBracket_21 rfl (lK_Tp hS) ?_
    refine x_ald0 (n := 25) dX6_closesBracket_24 rfl ?_
    refine x_dup (n := 26) dX6_closesBracket_25 rfl rfl ?_
    refine x_getI (n := 29) flX6_32 rfl dX6_closesBracket_26 rfl (lK_Tp hS) ?_
    rw [va_up_same, upd_off (by omega), show J 244 9 = nI ob from hJs.2.2.2.2.2.1]
    refine x_ic1 (n := 30) dX6_closesBracket_29 rfl ?_
    refine x_isubN (n := 31) dX6_closesBracket_30 rfl (by omega) ?_
    refine x_putI (n := 34) flX6_32 rfl (Or.inl rfl) rfl rfl dX6_closesBracket_31 rfl (lK_Tp hS) ?_
    refine x_ald0 (n := 35) dX6_closesBracket_34 rfl ?_
    refine x_cV0 (n := 38) (d' := 1) zcX6_settleNots mlX6_153 dX6_closesBracket_35 rfl (lK_Tp hS) (Nat.le_of_ble_eq_true rfl) (Nat.le_of_ble_eq_true rfl) ?_
    refine c_X6_settleNots hS (tpS_9 (tpS_pop hJs) (ob - 1)) (by rw [List.length_append, ngs_len]; omega) (fun c hcc => hsub c (List.mem_cons_of_mem _ hcc)) hon (fun K hK hKs => ?_)
    refine x_none ?_
    refine x_ic1 (n := 39) dX6_closesBracket_38 rfl ?_
    refine r_zret dX6_closesBracket_39 rfl (by first | exact nar0 | exact nar1 | exact zb_nar _) ?_
    exact hq K (tpO_t (tpO_f (tpO_f hJ (by omega)) (by omega)) hK) hKs
  · refine x_ic0 (n := 8) dX6_closesBracket_7 rfl ?_
    refine r_zret dX6_closesBracket_8 rfl (by first | exact nar0 | exact nar1 | exact zb_nar _) ?_
    first | exact hq0 (h00.mp c_4) | exact hq0 (h00.mp (Decidable.not_not.mp c_4))
theorem c_X6_endsPart (hS : ShL Z) {x : Int32} (h : tpS I cd st ob on pt want) (hc : cd.length + st.length < 96) (hb : ∀ c ∈ st, c < 256) (hpt : pt ≤ 96) (hon : (popN st).length ≤ on)
    (hq : ∀ J, tpO I J → tpS J (cd ++ [x] ++ ngs (popN st)) (rstN st) ob (on - (popN st).length) (pt + 1) false → Q (some (.int (nI 1))) Z J) : zM l G mX6_endsPart 2 0 0 [.ref 244, .int x] Z I Q := by
  refine x_entry [some (.ref 244), some (.int x)] 0 rfl rfl (Nat.le_of_ble_eq_true rfl) ?_
  have h8 := h.2.2.2.2.1
  refine x_ald0 (n := 1) dX6_endsPart_0 rfl ?_
  refine x_dup (n := 2) dX6_endsPart_1 rfl rfl ?_
  refine x_getI (n := 5) flX6_29 rfl dX6_endsPart_2 rfl (lK_Tp hS) ?_
  rw [h8]
  refine x_ic1 (n := 6) dX6_endsPart_5 rfl ?_
  refine x_iaddN (n := 7) dX6_endsPart_6 rfl ?_
  refine x_putI (n := 10) flX6_29 rfl (Or.inl rfl) rfl rfl dX6_endsPart_7 rfl (lK_Tp hS) ?_
  refine x_ald0 (n := 11) dX6_endsPart_10 rfl ?_
  refine x_ild1 (n := 12) dX6_endsPart_11 rfl ?_
  refine x_cV1 (n := 15) (d' := 0) zcX6_emit mlX6_150 dX6_endsPart_12 rfl (lK_Tp hS) (Nat.le_of_ble_eq_true rfl) (Nat.le_of_ble_eq_true rfl) ?_
  refine c_X6_emit hS (tpS_8 h (pt + 1)) (by omega) (fun J hJ hJs => ?_)
  refine x_none ?_
  refine x_ald0 (n := 16) dX6_endsPart_15 rfl ?_
  refine x_cV0 (n := 19) (d' := 1) zcX6_settleNots mlX6_153 dX6_endsPart_16 rfl (lK_Tp hS) (Nat.le_of_ble_eq_true rfl) (Nat.le_of_ble_eq_true rfl) ?_
  refine c_X6_settleNots hS hJs (by simp only [List.length_append, List.length_cons, List.length_nil]; omega) hb hon (fun K hK hKs => ?_)
  refine x_none ?_
  refine x_ald0 (n := 20) dX6_endsPart_19 rfl ?_
  refine x_ic0 (n := 21) dX6_endsPart_20 rfl ?_
  refine x_putI (n := 24) flX6_38 rfl (Or.inl rfl) (by first | exact nar0 | exact nar1 | exact zb_nar _) (by decide) dX6_endsPart_21 rfl (lK_Tp hS) ?_
  refine x_ic1 (n := 25) dX6_endsPart_24 rfl ?_
  refine r_zret dX6_endsPart_25 rfl (by first | exact nar0 | exact nar1 | exact zb_nar _) ?_
  exact hq _ (tpO_f (tpO_t (tpO_t (tpO_f tpO_r (by omega)) hJ) hK) (by omega)) (tpS_11 hKs false)
theorem c_X6_takesSign (hS : ShL Z) {c : Nat} (hc6 : c < 256) (h : tpS I cd st ob on pt want) (hc : cd.length + st.length < 96) (hb : ∀ c ∈ st, c < 256) (hob : ob ≤ 8) (hne : 0 < ob → rstR 1 st ≠ []) (hon : (popN (rstR 1 st).tail).length ≤ on)
    (hq0 : (c = 41 ∧ ob = 0) ∨ (c ≠ 41 ∧ rnk c = 0) ∨ (c ≠ 41 ∧ rnk c = 3 ∧ rnk ((rstR 4 st).headD 0) = 3) → ∀ J, tpO I J → Q (some (.int (nI 0))) Z J)
    (hq1 : c = 41 → 0 < ob → ∀ J, tpO I J → tpS J (cd ++ ngs (popR 1 st) ++ ngs (popN (rstR 1 st).tail)) (rstN (rstR 1 st).tail) (ob - 1) (on - (popN (rstR 1 st).tail).length) pt want → Q (some (.int (nI 1))) Z J)
    (hq2 : c ≠ 41 → 0 < rnk c → ¬ (rnk c = 3 ∧ rnk ((rstR 4 st).headD 0) = 3) → ∀ J, tpO I J → tpS J (cd ++ ngs (popR (rnk c) st)) (c :: rstR (rnk c) st) ob on pt true → Q (some (.int (nI 1))) Z J) : zM l G mX6_takesSign 3 0 0 [.ref 244, .int (nI c)] Z I Q := by
  refine x_entry [some (.ref 244), some (.int (nI c)), none] 1 rfl rfl (Nat.le_of_ble_eq_true rfl) ?_
  have h5 := rnk_5l c
  have h61 : rnk 61 = 3 := rfl
  obtain ⟨t1, t2⟩ := pop_two (rnk c) st
  have hpl := pr_len (rnk c + 1) st
  have hpl2 := pr_len (rnk c) (rstR (rnk c + 1) st)
  have hrest : c ≠ 41 → 0 < rnk c → ¬ (rnk c = 3 ∧ rnk ((rstR 4 st).headD 0) = 3) → ∀ J, tpO I J → tpS J (cd ++ ngs (popR (rnk c + 1) st)) (rstR (rnk c + 1) st) ob on pt want → zX l G mX6_takesSign 3 0 0 51 [some (.ref 244), some (.int (nI c)), some (.int (nI (rnk c)))] [] Z J Q := by
    intro a1 a2 a3 J hJ hJs
    refine x_ald0 (n := 52) dX6_takesSign_51 rfl ?_
    refine x_ild2 (n := 53) dX6_takesSign_52 rfl ?_
    refine x_cV1 (n := 56) (d' := 1) zcX6_settleFrom mlX6_89 dX6_takesSign_53 rfl (lK_Tp hS) (Nat.le_of_ble_eq_true rfl) (Nat.le_of_ble_eq_true rfl) ?_
    refine c_X6_settleFrom hS (by omega) hJs (by rw [List.length_append, ngs_len]; omega) (fun c hcc => hb c (rst_sub hcc)) (fun K hK hKs => ?_)
    refine x_none ?_
    refine x_ald0 (n := 57) dX6_takesSign_56 rfl ?_
    refine x_ic1 (n := 58) dX6_takesSign_57 rfl ?_
    refine x_putI (n := 61) flX6_38 rfl (Or.inl rfl) (by first | exact nar0 | exact nar1 | exact zb_nar _) (by decide) dX6_takesSign_58 rfl (lK_Tp hS) ?_
    refine x_ald0 (n := 62) dX6_takesSign_61 rfl ?_
    refine x_ild1 (n := 63) dX6_takesSign_62 rfl ?_
    refine x_cV1 (n := 66) (d' := 0) zcX6_pushSign mlX6_147 dX6_takesSign_63 rfl (lK_Tp hS) (Nat.le_of_ble_eq_true rfl) (Nat.le_of_ble_eq_true rfl) ?_
    rw [List.append_assoc, ← ngs_app, ← t1, ← t2] at hKs
    have hpl3 := pr_len (rnk c) st
    refine c_X6_pushSign hS (tpS_11 hKs true) (by omega) (fun M hM hMs => ?_)
    refine x_some ?_
    refine r_zret dX6_takesSign_66 rfl (by first | exact nar0 | exact nar1 | exact zb_nar _) ?_
    exact hq2 a1 a2 a3 M (tpO_t (tpO_f (tpO_t hJ hK) (by omega)) hM) hMs
  have h41 : c = 41 → zX l G mX6_takesSign 3 0 0 6 [some (.ref 244), some (.int (nI c)), none] [] Z I Q := by
    intro e41
    by_cases e : ob = 0
    · skip
      refine x_ald0 (n := 7) dX6_takesSign_6 rfl ?_
      refine x_cV0 (n := 10) (d' := 2) zcX6_closesBracket mlX6_156 dX6_takesSign_7 rfl (lK_Tp hS) (Nat.le_of_ble_eq_true rfl) (Nat.le_of_ble_eq_true rfl) ?_
      refine c_X6_closesBracket hS h (by omega) hb hob hne hon (fun _ => ?_) (fun e2 => absurd e (by omega))
      refine x_some ?_
      refine r_zret dX6_takesSign_10 rfl (by first | exact nar0 | exact nar1 | exact zb_nar _) ?_
      exact hq0 (Or.inl ⟨e41, e⟩) I tpO_r
    · skip
      refine x_ald0 (n := 7) dX6_takesSign_6 rfl ?_
      refine x_cV0 (n := 10) (d' := 2) zcX6_closesBracket mlX6_156 dX6_takesSign_7 rfl (lK_Tp hS) (Nat.le_of_ble_eq_true rfl) (Nat.le_of_ble_eq_true rfl) ?_
      refine c_X6_closesBracket hS h (by omega) hb hob hne hon (fun e2 => absurd e2 e) (fun e2 J hJ hJs => ?_)
      refine x_some ?_
      refine r_zret dX6_takesSign_10 rfl (by first | exact nar0 | exact nar1 | exact zb_nar _) ?_
      exact hq1 e41 e2 J hJ hJs
  have hz : nI (rnk c) = nI 0 ↔ rnk c = 0 := nI_eq (by omega) (by omega)
  refine x_ild1 (n := 1) dX6_takesSign_0 rfl ?_
  refine x_bipush (n := 3) (v := nI 41) dX6_takesSign_1 rfl (by decide) ?_
  refine x_icmpN_ne (n := 6) (tgt := 11) dX6_takesSign_3 rfl (by decide) (by omega) (by omega) (fun c_3 => ?_) (fun c_3 => ?_)
  · refine x_ild1 (n := 12) dX6_takesSign_11 rfl ?_
    refine x_cS1 (n := 15) (d' := 0) zcX6_rankOf mlX6_160 dX6_takesSign_12 rfl (Nat.le_of_ble_eq_true rfl) (Nat.le_of_ble_eq_true rfl) ?_
    refine c_X6_rankOf hc6 ?_
    refine x_some ?_
    refine x_ist2 (n := 16) dX6_takesSign_15 rfl (by decide) rfl ?_
    refine x_ild2 (n := 17) dX6_takesSign_16 rfl ?_
    refine x_if_ne (n := 20) (tgt := 22) dX6_takesSign_17 rfl (by decide) (fun c_17 => ?_) (fun c_17 => ?_)
    · refine x_ald0 (n := 23) dX6_takesSign_22 rfl ?_
      refine x_ild2 (n := 24) dX6_takesSign_23 rfl ?_
      refine x_ic1 (n := 25) dX6_takesSign_24 rfl ?_
      refine x_iaddN (n := 26) dX6_takesSign_25 rfl ?_
      have hpos : 0 < rnk c := Nat.pos_of_ne_zero (fun e => c_17 (hz.mpr e))
      refine x_cV1 (n := 29) (d' := 1) zcX6_settleFrom mlX6_89 dX6_takesSign_26 rfl (lK_Tp hS) (Nat.le_of_ble_eq_true rfl) (Nat.le_of_ble_eq_true rfl) ?_
      refine c_X6_settleFrom hS (by omega) h (by omega) hb (fun J hJ hJs => ?_)
      refine x_none ?_
      refine x_ild2 (n := 30) dX6_takesSign_29 rfl ?_
      refine x_bipush (n := 32) (v := nI 61) dX6_takesSign_30 rfl (by decide) ?_
      refine x_cS1 (n := 35) (d' := 0) zcX6_rankOf mlX6_160 dX6_takesSign_32 rfl (Nat.le_of_ble_eq_true rfl) (Nat.le_of_ble_eq_true rfl) ?_
      refine c_X6_rankOf (c := 61) (by omega) ?_
      refine x_some ?_
      refine x_icmpN_ne (n := 38) (tgt := 51) dX6_takesSign_35 rfl (by decide) (by omega) (by omega) (fun c_35 => ?_) (fun c_35 => ?_)
      · first | exact hrest c_3 hpos (fun b => c_46 (by rw [hc3, topF_hd]; exact b.2)) J hJ hJs | exact hrest c_3 hpos (fun b => c_35 (b.1.trans h61.symm)) J hJ hJs
      · refine x_ald0 (n := 39) dX6_takesSign_38 rfl ?_
        refine x_cV0 (n := 42) (d' := 0) zcX6_topSign mlX6_163 dX6_takesSign_39 rfl (lK_Tp hS) (Nat.le_of_ble_eq_true rfl) (Nat.le_of_ble_eq_true rfl) ?_
        refine c_X6_topSign hS hJs (by omega) ?_
        have ht6 : topF (rstR (rnk c + 1) st) < 256 := by
          cases hr : rstR (rnk c + 1) st with
          | nil => exact Nat.zero_lt_succ _
          | cons e s' => exact hb e (rst_sub (by rw [hr]; exact List.mem_cons_self ..))
        have ht5 := rnk_5l (topF (rstR (rnk c + 1) st))
        have hc3 : rnk c = 3 := c_35.trans h61
        refine x_some ?_
        refine x_cS1 (n := 45) (d' := 0) zcX6_rankOf mlX6_160 dX6_takesSign_42 rfl (Nat.le_of_ble_eq_true rfl) (Nat.le_of_ble_eq_true rfl) ?_
        refine c_X6_rankOf ht6 ?_
        refine x_some ?_
        refine x_ild2 (n := 46) dX6_takesSign_45 rfl ?_
        refine x_icmpN_ne (n := 49) (tgt := 51) dX6_takesSign_46 rfl (by decide) (by omega) (by omega) (fun c_46 => ?_) (fun c_46 => ?_)
        · first | exact hrest c_3 hpos (fun b => c_46 (by rw [hc3, topF_hd]; exact b.2)) J hJ hJs | exact hrest c_3 hpos (fun b => c_35 (b.1.trans h61.symm)) J hJ hJs
        · refine x_ic0 (n := 50) dX6_takesSign_49 rfl ?_
          refine r_zret dX6_takesSign_50 rfl (by first | exact nar0 | exact nar1 | exact zb_nar _) ?_
          refine hq0 (Or.inr (Or.inr ⟨c_3, hc3, ?_⟩)) J hJ
          rw [hc3, topF_hd] at c_46; exact c_46
    · refine x_ic0 (n := 21) dX6_takesSign_20 rfl ?_
      refine r_zret dX6_takesSign_21 rfl (by first | exact nar0 | exact nar1 | exact zb_nar _) ?_
      first | exact hq0 (Or.inr (Or.inl ⟨c_3, hz.mp c_17⟩)) I tpO_r | exact hq0 (Or.inr (Or.inl ⟨c_3, hz.mp (Decidable.not_not.mp c_17)⟩)) I tpO_r
  · exact h41 c_3
end
