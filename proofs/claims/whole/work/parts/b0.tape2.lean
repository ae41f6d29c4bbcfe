/-! ===== the class's tape: signs settle ===== -/
section
variable {l : Launch} {G : zG} {Z : zS} {I : zI} {Q : Option Value → zS → zI → Prop} {cd : List Int32} {st : List Nat} {ob on pt : Nat} {want : Bool}
theorem tpS_pop {c : Nat} (h : tpS I cd (c :: st) ob on pt want) : tpS (va_up I 244 (upd (I 244) 6 (nI st.length))) cd st ob on pt want := by
  obtain ⟨h1, h2, h3, h4, h5, h6, h7, h8⟩ := h
  refine ⟨?_, ?_, ?_, fun j y hj => ?_, ?_, ?_, ?_, ?_⟩
  · rw [va_up_same, upd_off (by omega)]; exact h1
  · rw [va_up_off (by omega)]; exact h2
  · rw [va_up_same, upd_same]
  · rw [va_up_off (by omega)]
    refine h4 j y ?_
    have hlt : j < st.length := by
      by_cases e : j < st.length
      · exact e
      · rw [List.getElem?_eq_none (by rw [List.length_reverse]; omega)] at hj; cases hj
    rw [List.reverse_cons, List.getElem?_append_left (by rw [List.length_reverse]; exact hlt)]; exact hj
  · rw [va_up_same, upd_off (by omega)]; exact h5
  · rw [va_up_same, upd_off (by omega)]; exact h6
  · rw [va_up_same, upd_off (by omega)]; exact h7
  · rw [va_up_same, upd_off (by omega)]; exact h8
theorem tpS_8 (h : tpS I cd st ob on pt want) (v : Nat) : tpS (va_up I 244 (upd (I 244) 8 (nI v))) cd st ob on v want := by
  obtain ⟨h1, h2, h3, h4, h5, h6, h7, h8⟩ := h
  exact ⟨by rw [va_up_same, upd_off (by omega)]; exact h1, by rw [va_up_off (by omega)]; exact h2, by rw [va_up_same, upd_off (by omega)]; exact h3, by rw [va_up_off (by omega)]; exact h4, by rw [va_up_same, upd_same], by rw [va_up_same, upd_off (by omega)]; exact h6, by rw [va_up_same, upd_off (by omega)]; exact h7, by rw [va_up_same, upd_off (by omega)]; exact h8⟩
theorem tpS_9 (h : tpS I cd st ob on pt want) (v : Nat) : tpS (va_up I 244 (upd (I 244) 9 (nI v))) cd st v on pt want := by
  obtain ⟨h1, h2, h3, h4, h5, h6, h7, h8⟩ := h
  exact ⟨by rw [va_up_same, upd_off (by omega)]; exact h1, by rw [va_up_off (by omega)]; exact h2, by rw [va_up_same, upd_off (by omega)]; exact h3, by rw [va_up_off (by omega)]; exact h4, by rw [va_up_same, upd_off (by omega)]; exact h5, by rw [va_up_same, upd_same], by rw [va_up_same, upd_off (by omega)]; exact h7, by rw [va_up_same, upd_off (by omega)]; exact h8⟩
theorem tpS_10 (h : tpS I cd st ob on pt want) (v : Nat) : tpS (va_up I 244 (upd (I 244) 10 (nI v))) cd st ob v pt want := by
  obtain ⟨h1, h2, h3, h4, h5, h6, h7, h8⟩ := h
  exact ⟨by rw [va_up_same, upd_off (by omega)]; exact h1, by rw [va_up_off (by omega)]; exact h2, by rw [va_up_same, upd_off (by omega)]; exact h3, by rw [va_up_off (by omega)]; exact h4, by rw [va_up_same, upd_off (by omega)]; exact h5, by rw [va_up_same, upd_off (by omega)]; exact h6, by rw [va_up_same, upd_same], by rw [va_up_same, upd_off (by omega)]; exact h8⟩
theorem tpS_11 (h : tpS I cd st ob on pt want) (v : Bool) : tpS (va_up I 244 (upd (I 244) 11 (zb v))) cd st ob on pt v := by
  obtain ⟨h1, h2, h3, h4, h5, h6, h7, h8⟩ := h
  exact ⟨by rw [va_up_same, upd_off (by omega)]; exact h1, by rw [va_up_off (by omega)]; exact h2, by rw [va_up_same, upd_off (by omega)]; exact h3, by rw [va_up_off (by omega)]; exact h4, by rw [va_up_same, upd_off (by omega)]; exact h5, by rw [va_up_same, upd_off (by omega)]; exact h6, by rw [va_up_same, upd_off (by omega)]; exact h7, by rw [va_up_same, upd_same]⟩
def ngs (l : List Nat) : List Int32 := l.map (fun c => -nI c)
theorem l_X6_settleFrom (hS : ShL Z) {r : Nat} (hr : r ≤ 6) : ∀ (st : List Nat) (I : zI) (cd : List Int32), tpS I cd st ob on pt want → cd.length + st.length ≤ 96 → (∀ c ∈ st, c < 256) → (∀ J, tpO I J → tpS J (cd ++ ngs (popR r st)) (rstR r st) ob on pt want → Q none Z J) → zX l G mX6_settleFrom 1 0 0 0 [some (.ref 244), some (.int (nI r))] [] Z I Q := by
  intro st
  induction st with
  | nil =>
    intro I cd h hc hb hq
    have h3 := h.2.2.1
    have hx := hq I tpO_r (by show tpS I (cd ++ []) [] ob on pt want; rw [List.append_nil]; exact h)
    refine x_ald0 (n := 1) dX6_settleFrom_0 rfl ?_
    refine x_getI (n := 4) flX6_26 rfl dX6_settleFrom_1 rfl (lK_Tp hS) ?_
    rw [h3]
    refine x_if_le (n := 7) (tgt := 40) dX6_settleFrom_4 rfl (by decide) (fun c_4 => ?_) (fun c_4 => ?_)
    · refine r_vret dX6_settleFrom_40 rfl ?_
      exact hx
    · exact absurd (by decide) c_4
  | cons c st ih =>
    intro I cd h hc hb hq
    have h3 := h.2.2.1
    have hcb : c < 256 := hb c (List.mem_cons_self ..)
    rw [List.length_cons] at h3 hc
    have h5 := rnk_5l c
    refine x_ald0 (n := 1) dX6_settleFrom_0 rfl ?_
    refine x_getI (n := 4) flX6_26 rfl dX6_settleFrom_1 rfl (lK_Tp hS) ?_
    rw [h3]
    refine x_if_le (n := 7) (tgt := 40) dX6_settleFrom_4 rfl (by decide) (fun c_4 => ?_) (fun c_4 => ?_)
    · exact absurd c_4 (by rw [Int32.not_le, zlt, nI_toInt (by omega)]; exact Int.ofNat_succ_pos _)
    · refine x_ald0 (n := 8) dX6_settleFrom_7 rfl ?_
      refine x_cV0 (n := 11) (d' := 0) zcX6_topSign mlX6_163 dX6_settleFrom_8 rfl (lK_Tp hS) (Nat.le_of_ble_eq_true rfl) (Nat.le_of_ble_eq_true rfl) ?_
      refine c_X6_topSign hS h (by rw [List.length_cons]; omega) ?_
      rw [show topF (c :: st) = c from rfl]
      refine x_some ?_
      refine x_cS1 (n := 14) (d' := 0) zcX6_rankOf mlX6_160 dX6_settleFrom_11 rfl (Nat.le_of_ble_eq_true rfl) (Nat.le_of_ble_eq_true rfl) ?_
      refine c_X6_rankOf hcb ?_
      refine x_some ?_
      refine x_ild1 (n := 15) dX6_settleFrom_14 rfl ?_
      refine x_icmpN_lt (n := 18) (tgt := 40) dX6_settleFrom_15 rfl (by decide) (by omega) (by omega) (fun c_15 => ?_) (fun c_15 => ?_)
      · refine r_vret dX6_settleFrom_40 rfl ?_
        refine hq I tpO_r ?_
        have hd : decide (r ≤ rnk c) = false := decide_eq_false (by omega)
        rw [show popR r (c :: st) = [] from List.takeWhile_cons_of_neg (by rw [hd]; decide), show rstR r (c :: st) = c :: st from List.dropWhile_cons_of_neg (by rw [hd]; decide)]
        show tpS I (cd ++ []) (c :: st) ob on pt want
        rw [List.append_nil]; exact h
      · refine x_ald0 (n := 19) dX6_settleFrom_18 rfl ?_
        refine x_ald0 (n := 20) dX6_settleFrom_19 rfl ?_
        refine x_cV0 (n := 23) (d' := 0) zcX6_topSign mlX6_163 dX6_settleFrom_20 rfl (lK_Tp hS) (Nat.le_of_ble_eq_true rfl) (Nat.le_of_ble_eq_true rfl) ?_
        refine c_X6_topSign hS h (by rw [List.length_cons]; omega) ?_
        rw [show topF (c :: st) = c from rfl]
        refine x_some ?_
        refine x_ineg (n := 24) dX6_settleFrom_23 rfl ?_
        refine x_cV1 (n := 27) (d' := 0) zcX6_emit mlX6_150 dX6_settleFrom_24 rfl (lK_Tp hS) (Nat.le_of_ble_eq_true rfl) (Nat.le_of_ble_eq_true rfl) ?_
        refine c_X6_emit hS h (by omega) (fun J hJ hJs => ?_)
        refine x_none ?_
        refine x_ald0 (n := 28) dX6_settleFrom_27 rfl ?_
        refine x_dup (n := 29) dX6_settleFrom_28 rfl rfl ?_
        refine x_getI (n := 32) flX6_26 rfl dX6_settleFrom_29 rfl (lK_Tp hS) ?_
        rw [show J 244 6 = nI (st.length + 1) from hJs.2.2.1]
        refine x_ic1 (n := 33) dX6_settleFrom_32 rfl ?_
        refine x_isubN (n := 34) dX6_settleFrom_33 rfl (by omega) ?_
        refine x_putI (n := 37) flX6_26 rfl (Or.inl rfl) rfl rfl dX6_settleFrom_34 rfl (lK_Tp hS) ?_
        refine x_goto (n := 0) dX6_settleFrom_37 (by decide) ?_
        refine ih _ _ (tpS_pop hJs) (by simp only [List.length_append, List.length_cons, List.length_nil]; omega) (fun x hx => hb x (List.mem_cons_of_mem _ hx)) (fun K hK hKs => ?_)
        have hd : decide (r ≤ rnk c) = true := decide_eq_true (by omega)
        refine hq K (tpO_t (tpO_f hJ (by omega)) hK) ?_
        rw [show popR r (c :: st) = c :: popR r st from List.takeWhile_cons_of_pos hd, show rstR r (c :: st) = rstR r st from List.dropWhile_cons_of_pos hd]
        rw [List.append_assoc] at hKs
        exact hKs
theorem c_X6_settleFrom (hS : ShL Z) {r : Nat} (hr : r ≤ 6) (h : tpS I cd st ob on pt want) (hc : cd.length + st.length ≤ 96) (hb : ∀ c ∈ st, c < 256) (hq : ∀ J, tpO I J → tpS J (cd ++ ngs (popR r st)) (rstR r st) ob on pt want → Q none Z J) : zM l G mX6_settleFrom 1 0 0 [.ref 244, .int (nI r)] Z I Q := by
  refine x_entry [some (.ref 244), some (.int (nI r))] 0 rfl rfl (Nat.le_of_ble_eq_true rfl) ?_
  exact l_X6_settleFrom hS hr st I cd h hc hb hq
theorem l_X6_settleNots (hS : ShL Z) : ∀ (st : List Nat) (I : zI) (cd : List Int32) (on : Nat), tpS I cd st ob on pt want → cd.length + st.length ≤ 96 → (∀ c ∈ st, c < 256) → (popN st).length ≤ on → (∀ J, tpO I J → tpS J (cd ++ ngs (popN st)) (rstN st) ob (on - (popN st).length) pt want → Q none Z J) → zX l G mX6_settleNots 1 0 0 0 [some (.ref 244)] [] Z I Q := by
  intro st
  induction st with
  | nil =>
    intro I cd on h hc hb ho hq
    have h3 := h.2.2.1
    have hx := hq I tpO_r (by show tpS I (cd ++ []) [] ob (on - 0) pt want; rw [List.append_nil]; exact h)
    refine x_ald0 (n := 1) dX6_settleNots_0 rfl ?_
    refine x_getI (n := 4) flX6_26 rfl dX6_settleNots_1 rfl (lK_Tp hS) ?_
    rw [h3]
    refine x_if_le (n := 7) (tgt := 45) dX6_settleNots_4 rfl (by decide) (fun c_4 => ?_) (fun c_4 => ?_)
    · refine r_vret dX6_settleNots_45 rfl ?_
      exact hx
    · exact absurd (by decide) c_4
  | cons c st ih =>
    intro I cd on h hc hb ho hq
    have h3 := h.2.2.1
    have hcb : c < 256 := hb c (List.mem_cons_self ..)
    rw [List.length_cons] at h3 hc
    refine x_ald0 (n := 1) dX6_settleNots_0 rfl ?_
    refine x_getI (n := 4) flX6_26 rfl dX6_settleNots_1 rfl (lK_Tp hS) ?_
    rw [h3]
    refine x_if_le (n := 7) (tgt := 45) dX6_settleNots_4 rfl (by decide) (fun c_4 => ?_) (fun c_4 => ?_)
    · exact absurd c_4 (by rw [Int32.not_le, zlt, nI_toInt (by omega)]; exact Int.ofNat_succ_pos _)
    · refine x_ald0 (n := 8) dX6_settleNots_7 rfl ?_
      refine x_cV0 (n := 11) (d' := 0) zcX6_topSign mlX6_163 dX6_settleNots_8 rfl (lK_Tp hS) (Nat.le_of_ble_eq_true rfl) (Nat.le_of_ble_eq_true rfl) ?_
      refine c_X6_topSign hS h (by rw [List.length_cons]; omega) ?_
      rw [show topF (c :: st) = c from rfl]
      refine x_some ?_
      refine x_bipush (n := 13) (v := nI 33) dX6_settleNots_11 rfl (by decide) ?_
      refine x_icmpN_ne (n := 16) (tgt := 45) dX6_settleNots_13 rfl (by decide) (by omega) (by omega) (fun c_13 => ?_) (fun c_13 => ?_)
      · refine r_vret dX6_settleNots_45 rfl ?_
        refine hq I tpO_r ?_
        have hd : decide (c = 33) = false := decide_eq_false c_13
        rw [show popN (c :: st) = [] from List.takeWhile_cons_of_neg (by rw [hd]; decide), show rstN (c :: st) = c :: st from List.dropWhile_cons_of_neg (by rw [hd]; decide)]
        show tpS I (cd ++ []) (c :: st) ob (on - 0) pt want
        rw [List.append_nil]; exact h
      · refine x_ald0 (n := 17) dX6_settleNots_16 rfl ?_
        refine x_bipush (n := 19) (v := -33) dX6_settleNots_17 rfl (by decide) ?_
        have hd : decide (c = 33) = true := decide_eq_true c_13
        have hpo : popN (c :: st) = c :: popN st := List.takeWhile_cons_of_pos hd
        rw [hpo, List.length_cons] at ho hq
        refine x_cV1 (n := 22) (d' := 0) zcX6_emit mlX6_150 dX6_settleNots_19 rfl (lK_Tp hS) (Nat.le_of_ble_eq_true rfl) (Nat.le_of_ble_eq_true rfl) ?_
        refine c_X6_emit hS h (by omega) (fun J hJ hJs => ?_)
        refine x_none ?_
        refine x_ald0 (n := 23) dX6_settleNots_22 rfl ?_
        refine x_dup (n := 24) dX6_settleNots_23 rfl rfl ?_
        refine x_getI (n := 27) flX6_26 rfl dX6_settleNots_24 rfl (lK_Tp hS) ?_
        rw [show J 244 6 = nI (st.length + 1) from hJs.2.2.1]
        refine x_ic1 (n := 28) dX6_settleNots_27 rfl ?_
        refine x_isubN (n := 29) dX6_settleNots_28 rfl (by omega) ?_
        refine x_putI (n := 32) flX6_26 rfl (Or.inl rfl) rfl rfl dX6_settleNots_29 rfl (lK_Tp hS) ?_
        refine x_ald0 (n := 33) dX6_settleNots_32 rfl ?_
        refine x_dup (n := 34) dX6_settleNots_33 rfl rfl ?_
        refine x_getI (n := 37) flX6_35 rfl dX6_settleNots_34 rfl (lK_Tp hS) ?_
        rw [va_up_same, upd_off (by omega), show J 244 10 = nI on from hJs.2.2.2.2.2.2.1]
        refine x_ic1 (n := 38) dX6_settleNots_37 rfl ?_
        refine x_isubN (n := 39) dX6_settleNots_38 rfl (by omega) ?_
        refine x_putI (n := 42) flX6_35 rfl (Or.inl rfl) rfl rfl dX6_settleNots_39 rfl (lK_Tp hS) ?_
        refine x_goto (n := 0) dX6_settleNots_42 (by decide) ?_
        refine ih _ _ (on - 1) (tpS_10 (tpS_pop hJs) (on - 1)) (by simp only [List.length_append, List.length_cons, List.length_nil]; omega) (fun x hx => hb x (List.mem_cons_of_mem _ hx)) (by omega) (fun K hK hKs => ?_)
        refine hq K (tpO_t (tpO_f (tpO_f hJ (by omega)) (by omega)) hK) ?_
        rw [show rstN (c :: st) = rstN st from List.dropWhile_cons_of_pos hd, show on - ((popN st).length + 1) = on - 1 - (popN st).length by omega, c_13]
        rw [List.append_assoc] at hKs
        exact hKs
theorem c_X6_settleNots (hS : ShL Z) (h : tpS I cd st ob on pt want) (hc : cd.length + st.length ≤ 96) (hb : ∀ c ∈ st, c < 256) (ho : (popN st).length ≤ on) (hq : ∀ J, tpO I J → tpS J (cd ++ ngs (popN st)) (rstN st) ob (on - (popN st).length) pt want → Q none Z J) : zM l G mX6_settleNots 1 0 0 [.ref 244] Z I Q := by
  refine x_entry [some (.ref 244)] 0 rfl rfl (Nat.le_of_ble_eq_true rfl) ?_
  exact l_X6_settleNots hS st I cd on h hc hb ho hq
end
