/-! ===== the class's tape: code, signs ===== -/
def tpS (I : zI) (cd : List Int32) (st : List Nat) (ob on pt : Nat) (want : Bool) : Prop := I 244 4 = nI cd.length ∧ (∀ j x, cd[j]? = some x → I 246 j = x) ∧ I 244 6 = nI st.length ∧ (∀ j x, st.reverse[j]? = some x → I 247 j = nI x) ∧ I 244 8 = nI pt ∧ I 244 9 = nI ob ∧ I 244 10 = nI on ∧ I 244 11 = zb want
def tpO (I J : zI) : Prop := (∀ a, a ≠ 244 → a ≠ 246 → a ≠ 247 → J a = I a) ∧ ∀ j, j < 4 ∨ j = 5 ∨ j = 7 → J 244 j = I 244 j
theorem tpO_r {I : zI} : tpO I I := ⟨fun _ _ _ _ => rfl, fun _ _ => rfl⟩
theorem tpO_t {I J K : zI} (h : tpO I J) (k : tpO J K) : tpO I K := ⟨fun a a1 a2 a3 => (k.1 a a1 a2 a3).trans (h.1 a a1 a2 a3), fun j hj => (k.2 j hj).trans (h.2 j hj)⟩
theorem tpO_f {I J : zI} {j : Nat} {v : Int32} (h : tpO I J) (hj : ¬ (j < 4 ∨ j = 5 ∨ j = 7)) : tpO I (va_up J 244 (upd (J 244) j v)) :=
  ⟨fun a a1 a2 a3 => by rw [va_up_off a1]; exact h.1 a a1 a2 a3, fun i hi => by rw [va_up_same, upd_off (by intro e; subst e; exact hj hi)]; exact h.2 i hi⟩
theorem tpO_a {I J : zI} {a : Nat} {f : Nat → Int32} (h : tpO I J) (ha : a = 246 ∨ a = 247) : tpO I (va_up J a f) :=
  ⟨fun b a1 a2 a3 => by rw [va_up_off (by omega)]; exact h.1 b a1 a2 a3, fun i hi => by rw [va_up_off (by omega)]; exact h.2 i hi⟩
section
variable {l : Launch} {G : zG} {Z : zS} {I : zI} {Q : Option Value → zS → zI → Prop} {cd : List Int32} {st : List Nat} {ob on pt : Nat} {want : Bool}
theorem c_X6_emit (hS : ShL Z) {x : Int32} (h : tpS I cd st ob on pt want) (hc : cd.length < 96) (hq : ∀ J, tpO I J → tpS J (cd ++ [x]) st ob on pt want → Q none Z J) : zM l G mX6_emit 0 0 0 [.ref 244, .int x] Z I Q := by
  refine x_entry [some (.ref 244), some (.int x)] 0 rfl rfl (Nat.le_of_ble_eq_true rfl) ?_
  obtain ⟨h1, h2, h3, h4, h5, h6, h7, h8⟩ := h
  refine x_ald0 (n := 1) dX6_emit_0 rfl ?_
  refine x_getI (n := 4) flX6_23 rfl dX6_emit_1 rfl (lK_Tp hS) ?_
  rw [h1]
  refine x_bipush (n := 6) (v := nI 96) dX6_emit_4 rfl (by decide) ?_
  refine x_icmpN_ge (n := 9) (tgt := 29) dX6_emit_6 rfl (by decide) (by omega) (by omega) (fun c_6 => ?_) (fun c_6 => ?_)
  · exact absurd c_6 (by omega)
  · refine x_ald0 (n := 10) dX6_emit_9 rfl ?_
    refine x_getR (n := 13) flX6_13 rfl dX6_emit_10 rfl (lK_Tp hS) (lP_code hS) ?_
    refine x_ald0 (n := 14) dX6_emit_13 rfl ?_
    refine x_getI (n := 17) flX6_23 rfl dX6_emit_14 rfl (lK_Tp hS) ?_
    rw [h1]
    refine x_ild1 (n := 18) dX6_emit_17 rfl ?_
    refine x_iastN (n := 19) dX6_emit_18 rfl (lA_code hS) (Nat.le_of_ble_eq_true rfl) (by omega) ?_
    refine x_ald0 (n := 20) dX6_emit_19 rfl ?_
    refine x_dup (n := 21) dX6_emit_20 rfl rfl ?_
    refine x_getI (n := 24) flX6_23 rfl dX6_emit_21 rfl (lK_Tp hS) ?_
    rw [va_up_off (by omega), h1]
    refine x_ic1 (n := 25) dX6_emit_24 rfl ?_
    refine x_iaddN (n := 26) dX6_emit_25 rfl ?_
    refine x_putI (n := 29) flX6_23 rfl (Or.inl rfl) rfl rfl dX6_emit_26 rfl (lK_Tp hS) ?_
    refine r_vret dX6_emit_29 rfl ?_
    refine hq _ (tpO_f (tpO_a tpO_r (Or.inl rfl)) (by omega)) ⟨?_, fun j y hj => ?_, ?_, ?_, ?_, ?_, ?_, ?_⟩
    · rw [va_up_same, upd_same, List.length_append]; rfl
    · rw [va_up_off (by omega), va_up_same]
      by_cases e : j = cd.length
      · subst e; rw [upd_same]; simpa using hj
      · rw [upd_off e]
        refine h2 j y ?_
        by_cases e2 : j < cd.length
        · rwa [List.getElem?_append_left e2] at hj
        · rw [List.getElem?_eq_none (by simp only [List.length_append, List.length_cons, List.length_nil]; omega)] at hj; cases hj
    · rw [va_up_same, upd_off (by omega), va_up_off (by omega)]; exact h3
    · rw [va_up_off (by omega), va_up_off (by omega)]; exact h4
    · rw [va_up_same, upd_off (by omega), va_up_off (by omega)]; exact h5
    · rw [va_up_same, upd_off (by omega), va_up_off (by omega)]; exact h6
    · rw [va_up_same, upd_off (by omega), va_up_off (by omega)]; exact h7
    · rw [va_up_same, upd_off (by omega), va_up_off (by omega)]; exact h8
theorem c_X6_pushSign (hS : ShL Z) {c : Nat} (h : tpS I cd st ob on pt want) (hc : st.length < 96) (hq : ∀ J, tpO I J → tpS J cd (c :: st) ob on pt want → Q (some (.int (nI 1))) Z J) : zM l G mX6_pushSign 0 0 0 [.ref 244, .int (nI c)] Z I Q := by
  refine x_entry [some (.ref 244), some (.int (nI c))] 0 rfl rfl (Nat.le_of_ble_eq_true rfl) ?_
  obtain ⟨h1, h2, h3, h4, h5, h6, h7, h8⟩ := h
  refine x_ald0 (n := 1) dX6_pushSign_0 rfl ?_
  refine x_getI (n := 4) flX6_26 rfl dX6_pushSign_1 rfl (lK_Tp hS) ?_
  rw [h3]
  refine x_bipush (n := 6) (v := nI 96) dX6_pushSign_4 rfl (by decide) ?_
  refine x_icmpN_lt (n := 9) (tgt := 11) dX6_pushSign_6 rfl (by decide) (by omega) (by omega) (fun c_6 => ?_) (fun c_6 => ?_)
  · refine x_ald0 (n := 12) dX6_pushSign_11 rfl ?_
    refine x_getR (n := 15) flX6_16 rfl dX6_pushSign_12 rfl (lK_Tp hS) (lP_signs hS) ?_
    refine x_ald0 (n := 16) dX6_pushSign_15 rfl ?_
    refine x_getI (n := 19) flX6_26 rfl dX6_pushSign_16 rfl (lK_Tp hS) ?_
    rw [h3]
    refine x_ild1 (n := 20) dX6_pushSign_19 rfl ?_
    refine x_iastN (n := 21) dX6_pushSign_20 rfl (lA_signs hS) (Nat.le_of_ble_eq_true rfl) (by omega) ?_
    refine x_ald0 (n := 22) dX6_pushSign_21 rfl ?_
    refine x_dup (n := 23) dX6_pushSign_22 rfl rfl ?_
    refine x_getI (n := 26) flX6_26 rfl dX6_pushSign_23 rfl (lK_Tp hS) ?_
    rw [va_up_off (by omega), h3]
    refine x_ic1 (n := 27) dX6_pushSign_26 rfl ?_
    refine x_iaddN (n := 28) dX6_pushSign_27 rfl ?_
    refine x_putI (n := 31) flX6_26 rfl (Or.inl rfl) rfl rfl dX6_pushSign_28 rfl (lK_Tp hS) ?_
    refine x_ic1 (n := 32) dX6_pushSign_31 rfl ?_
    refine r_zret dX6_pushSign_32 rfl (by first | exact nar0 | exact nar1 | exact zb_nar _) ?_
    refine hq _ (tpO_f (tpO_a tpO_r (Or.inr rfl)) (by omega)) ⟨?_, ?_, ?_, fun j y hj => ?_, ?_, ?_, ?_, ?_⟩
    · rw [va_up_same, upd_off (by omega), va_up_off (by omega)]; exact h1
    · rw [va_up_off (by omega), va_up_off (by omega)]; exact h2
    · rw [va_up_same, upd_same]; rfl
    · rw [va_up_off (by omega), va_up_same]
      rw [List.reverse_cons] at hj
      by_cases e : j = st.length
      · subst e
        rw [upd_same]
        rw [List.getElem?_append_right (by rw [List.length_reverse]; omega), List.length_reverse, Nat.sub_self] at hj
        have hj' : c = y := by simpa using hj
        rw [hj']
      · rw [upd_off e]
        refine h4 j y ?_
        by_cases e2 : j < st.length
        · rwa [List.getElem?_append_left (by rw [List.length_reverse]; exact e2)] at hj
        · rw [List.getElem?_eq_none (by simp only [List.length_append, List.length_cons, List.length_nil, List.length_reverse]; omega)] at hj; cases hj
    · rw [va_up_same, upd_off (by omega), va_up_off (by omega)]; exact h5
    · rw [va_up_same, upd_off (by omega), va_up_off (by omega)]; exact h6
    · rw [va_up_same, upd_off (by omega), va_up_off (by omega)]; exact h7
    · rw [va_up_same, upd_off (by omega), va_up_off (by omega)]; exact h8
  · exact absurd c_6 (by omega)
def topF (st : List Nat) : Nat := match st with
  | [] => 0
  | c :: _ => c
theorem c_X6_topSign (hS : ShL Z) (h : tpS I cd st ob on pt want) (hc : st.length ≤ 96) (hq : Q (some (.int (nI (topF st)))) Z I) : zM l G mX6_topSign 0 0 0 [.ref 244] Z I Q := by
  refine x_entry [some (.ref 244)] 0 rfl rfl (Nat.le_of_ble_eq_true rfl) ?_
  obtain ⟨h1, h2, h3, h4, h5, h6, h7, h8⟩ := h
  cases st with
  | nil =>
    refine x_ald0 (n := 1) dX6_topSign_0 rfl ?_
    refine x_getI (n := 4) flX6_26 rfl dX6_topSign_1 rfl (lK_Tp hS) ?_
    rw [h3]
    refine x_if_le (n := 7) (tgt := 21) dX6_topSign_4 rfl (by decide) (fun c_4 => ?_) (fun c_4 => ?_)
    · refine x_ic0 (n := 22) dX6_topSign_21 rfl ?_
      refine r_iret dX6_topSign_22 rfl ?_
      exact hq
    · exact absurd (by decide) c_4
  | cons c r =>
    rw [List.length_cons] at h3 hc
    have ht : I 247 r.length = nI c := h4 r.length c (by rw [List.reverse_cons, List.getElem?_append_right (by rw [List.length_reverse]; omega), List.length_reverse, Nat.sub_self]; rfl)
    refine x_ald0 (n := 1) dX6_topSign_0 rfl ?_
    refine x_getI (n := 4) flX6_26 rfl dX6_topSign_1 rfl (lK_Tp hS) ?_
    rw [h3]
    refine x_if_le (n := 7) (tgt := 21) dX6_topSign_4 rfl (by decide) (fun c_4 => ?_) (fun c_4 => ?_)
    · exact absurd c_4 (by rw [Int32.not_le, zlt, nI_toInt (by omega)]; exact Int.ofNat_succ_pos _)
    · refine x_ald0 (n := 8) dX6_topSign_7 rfl ?_
      refine x_getR (n := 11) flX6_16 rfl dX6_topSign_8 rfl (lK_Tp hS) (lP_signs hS) ?_
      refine x_ald0 (n := 12) dX6_topSign_11 rfl ?_
      refine x_getI (n := 15) flX6_26 rfl dX6_topSign_12 rfl (lK_Tp hS) ?_
      rw [h3]
      refine x_ic1 (n := 16) dX6_topSign_15 rfl ?_
      refine x_isubN (n := 17) dX6_topSign_16 rfl (by omega) ?_
      refine x_ialdN (n := 18) dX6_topSign_17 rfl (lA_signs hS) (Nat.le_of_ble_eq_true rfl) (by omega) ?_
      rw [show r.length + 1 - 1 = r.length from rfl, ht]
      refine x_goto (n := 22) dX6_topSign_18 (by decide) ?_
      refine r_iret dX6_topSign_22 rfl ?_
      exact hq
def rkO (r : Nat) : Int := if r = 0 then 93 else if r = 1 then 83 else if r = 2 then 85 else if r = 3 then 87 else if r = 4 then 89 else 91
theorem rk_off : ∀ c : Fin 256, Op.lookupswitch.offset [(38, 85), (42, 91), (43, 89), (45, 89), (47, 91), (60, 87), (61, 87), (62, 87), (124, 83)] 93 (nI c.val).toInt = rkO (rnk c.val) := by decide +kernel
theorem rnk_5l (c : Nat) : rnk c ≤ 5 := by
  unfold rnk
  repeat' split
  all_goals omega
theorem c_X6_rankOf {c : Nat} (hc : c < 256) (hq : Q (some (.int (nI (rnk c)))) Z I) : zM l G mX6_rankOf 0 0 0 [.int (nI c)] Z I Q := by
  refine x_entry [some (.int (nI c))] 0 rfl rfl (Nat.le_of_ble_eq_true rfl) ?_
  have ho := rk_off ⟨c, hc⟩
  have h5 := rnk_5l c
  refine x_ild0 (n := 1) dX6_rankOf_0 rfl ?_
  rcases (show rnk c = 0 ∨ rnk c = 1 ∨ rnk c = 2 ∨ rnk c = 3 ∨ rnk c = 4 ∨ rnk c = 5 by omega) with h | h | h | h | h | h
  · rw [h] at hq
    have ho2 : Op.lookupswitch.offset [(38, 85), (42, 91), (43, 89), (45, 89), (47, 91), (60, 87), (61, 87), (62, 87), (124, 83)] 93 (nI c).toInt = 93 := ho.trans (by show rkO (rnk c) = 93; rw [h]; rfl)
    refine x_lsw (n := 94) dX6_rankOf_1 (by decide) ho2 (by decide) ?_
    refine x_ic0 (n := 95) dX6_rankOf_94 rfl ?_
    refine r_iret dX6_rankOf_95 rfl ?_
    exact hq
  · rw [h] at hq
    have ho2 : Op.lookupswitch.offset [(38, 85), (42, 91), (43, 89), (45, 89), (47, 91), (60, 87), (61, 87), (62, 87), (124, 83)] 93 (nI c).toInt = 83 := ho.trans (by show rkO (rnk c) = 83; rw [h]; rfl)
    refine x_lsw (n := 84) dX6_rankOf_1 (by decide) ho2 (by decide) ?_
    refine x_ic1 (n := 85) dX6_rankOf_84 rfl ?_
    refine r_iret dX6_rankOf_85 rfl ?_
    exact hq
  · rw [h] at hq
    have ho2 : Op.lookupswitch.offset [(38, 85), (42, 91), (43, 89), (45, 89), (47, 91), (60, 87), (61, 87), (62, 87), (124, 83)] 93 (nI c).toInt = 85 := ho.trans (by show rkO (rnk c) = 85; rw [h]; rfl)
    refine x_lsw (n := 86) dX6_rankOf_1 (by decide) ho2 (by decide) ?_
    refine x_ic2 (n := 87) dX6_rankOf_86 rfl ?_
    refine r_iret dX6_rankOf_87 rfl ?_
    exact hq
  · rw [h] at hq
    have ho2 : Op.lookupswitch.offset [(38, 85), (42, 91), (43, 89), (45, 89), (47, 91), (60, 87), (61, 87), (62, 87), (124, 83)] 93 (nI c).toInt = 87 := ho.trans (by show rkO (rnk c) = 87; rw [h]; rfl)
    refine x_lsw (n := 88) dX6_rankOf_1 (by decide) ho2 (by decide) ?_
    refine x_ic3 (n := 89) dX6_rankOf_88 rfl ?_
    refine r_iret dX6_rankOf_89 rfl ?_
    exact hq
  · rw [h] at hq
    have ho2 : Op.lookupswitch.offset [(38, 85), (42, 91), (43, 89), (45, 89), (47, 91), (60, 87), (61, 87), (62, 87), (124, 83)] 93 (nI c).toInt = 89 := ho.trans (by show rkO (rnk c) = 89; rw [h]; rfl)
    refine x_lsw (n := 90) dX6_rankOf_1 (by decide) ho2 (by decide) ?_
    refine x_ic4 (n := 91) dX6_rankOf_90 rfl ?_
    refine r_iret dX6_rankOf_91 rfl ?_
    exact hq
  · rw [h] at hq
    have ho2 : Op.lookupswitch.offset [(38, 85), (42, 91), (43, 89), (45, 89), (47, 91), (60, 87), (61, 87), (62, 87), (124, 83)] 93 (nI c).toInt = 91 := ho.trans (by show rkO (rnk c) = 91; rw [h]; rfl)
    refine x_lsw (n := 92) dX6_rankOf_1 (by decide) ho2 (by decide) ?_
    refine x_ic5 (n := 93) dX6_rankOf_92 rfl ?_
    refine r_iret dX6_rankOf_93 rfl ?_
    exact hq
end
