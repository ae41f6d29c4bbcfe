/-! ===== the constructor of Works ===== -/
section
variable {l : Launch} {G : zG} {Z0 Z : zS} {I : zI} {Q : Option Value → zS → zI → Prop} {mk n kw p k : Nat} {ks ks' : List (Nat × Nat)} {ps ps' as as' : List (Nat × Nat × Nat)}
theorem FL_sub (h : FL Z0 Z mk n ks ps as kw) (h1 : ∀ q ∈ ks', q ∈ ks) (h2 : ∀ q ∈ ps', q ∈ ps) (h3 : ∀ q ∈ as', q ∈ as) : FL Z0 Z mk n ks' ps' as' kw := ⟨h.1, h.2.1, fun q hq => h.2.2.1 q (h1 q hq), fun q hq => h.2.2.2.1 q (h2 q hq), fun q hq => h.2.2.2.2.1 q (h3 q hq), h.2.2.2.2.2⟩
/-- a work more in the row -/
theorem FL_W (h : FL Z0 Z mk n ks ps as k) (hn : 11 < n) (hps : ∀ q ∈ ps, q.1 ≠ 11) (hk : zk Z (mk + 15 + 2 * k) 9) (hr : Z.2.2.2 (mk + 15 + 2 * k) 7 = some (mk + 15 + 2 * k + 1)) (ha : za Z (mk + 15 + 2 * k + 1) 13 2) : FL Z0 (Z.1, Z.2.1, Z.2.2.1, va_up Z.2.2.2 (mk + 11) (va_up (Z.2.2.2 (mk + 11)) k (some (mk + 15 + 2 * k)))) mk n ks ps as (k + 1) := by
  obtain ⟨h1, h2, h3, h4, h5, h6⟩ := h
  refine ⟨h1, fun a ha => ⟨(h2 a ha).1, (h2 a ha).2.1, ?_⟩, h3, fun q hq => ⟨(h4 q hq).1, ?_⟩, h5, fun w hw => ⟨by show mk + 11 < Z.1; omega, ?_, ?_⟩⟩
  · show va_up Z.2.2.2 (mk + 11) _ a = _
    rw [va_up_off (by omega)]; exact (h2 a ha).2.2
  · show va_up Z.2.2.2 (mk + 11) _ (mk + q.1) q.2.1 = _
    have := hps q hq
    rw [va_up_off (by omega)]; exact (h4 q hq).2
  · show va_up Z.2.2.2 (mk + 11) _ (mk + 11) w = _
    rw [va_up_same]
    by_cases e : w = k
    · subst e; rw [va_up_same]
    · rw [va_up_off e]; exact (h6 w (by omega)).2.1
  · by_cases e : w = k
    · subst e
      refine ⟨hk, ?_, ha⟩
      show va_up Z.2.2.2 (mk + 11) _ (mk + 15 + 2 * w) 7 = _
      rw [va_up_off (by omega)]; exact hr
    · have h9 := (h6 w (by omega)).2.2
      refine ⟨h9.1, ?_, h9.2.2⟩
      show va_up Z.2.2.2 (mk + 11) _ (mk + 15 + 2 * w) 7 = _
      rw [va_up_off (by omega)]; exact h9.2.1
theorem l_X10_init (hm : mk + 200 < 900000) (hk10 : (10, 10) ∈ ks) (hr0 : (10, 0, 11) ∈ ps) (ha11 : (11, 17, 24) ∈ as) (hps : ∀ q ∈ ps, q.1 < 11) (hq : ∀ Z', FL Z0 Z' mk 63 ks ps as 24 → Q none Z' I) : ∀ (u k : Nat) (Z : zS), k + u = 24 → FL Z0 Z mk (15 + 2 * k) ks ps as k → (∀ a, mk + (15 + 2 * k) ≤ a → I a = fun _ => 0) → ∀ ac as9, 2 * u ≤ ac → 10 * u ≤ as9 → zX l G mX10_init 3 ac as9 39 [some (.ref (mk + 10)), some (.int (nI k))] [] Z I Q := by
  intro u
  induction u with
  | zero =>
    intro k Z hku h hz ac as9 _ _
    refine x_ild1 (n := 40) dX10_init_39 rfl ?_
    refine x_bipush (n := 42) (v := nI 24) dX10_init_40 rfl (by decide) ?_
    refine x_icmpN_ge (n := 45) (tgt := 64) dX10_init_42 rfl (by decide) (by omega) (by omega) (fun c_42 => ?_) (fun c_42 => ?_)
    · refine r_vret dX10_init_64 rfl ?_
      have e : k = 24 := by omega
      subst e
      exact hq Z h
    · exact absurd c_42 (by omega)
  | succ u ih =>
    intro k Z hku h hz ac as9 hac has
    refine x_ild1 (n := 40) dX10_init_39 rfl ?_
    refine x_bipush (n := 42) (v := nI 24) dX10_init_40 rfl (by decide) ?_
    refine x_icmpN_ge (n := 45) (tgt := 64) dX10_init_42 rfl (by decide) (by omega) (by omega) (fun c_42 => ?_) (fun c_42 => ?_)
    · exact absurd c_42 (by omega)
    · refine x_ald0 (n := 46) dX10_init_45 rfl ?_
      refine x_getR (n := 49) flX10_13 rfl dX10_init_46 rfl (FL_k h hk10) (FL_r h hr0) ?_
      refine x_ild1 (n := 50) dX10_init_49 rfl ?_
      refine y_new (ci := 9) (m := 53) h hz dX10_init_50 rfl (by decide) ckX10_11 iiX9 zi_X9 (by omega) (by omega) (by show 8 ≤ as9; omega) (fun Z1 h1 => ?_)
      refine x_dup (n := 54) dX10_init_53 rfl rfl ?_
      refine x_gJ0 (n := 57) (mc := 1) (ms := 2) (d' := 1) zcX9_init mnX10_27 dX10_init_54 rfl (Nat.le_of_ble_eq_true rfl) (by omega) (by show 2 ≤ as9 - 8; omega) (Nat.le_of_ble_eq_true rfl) ?_
      refine m_X9_init h1 (fun a ha => hz a (by omega)) (List.mem_append_right _ (List.mem_singleton.mpr rfl)) (by omega) (fun q hq => by have := hps q hq; omega) (by omega) (by omega) (fun Z2 h2 => ?_)
      refine x_none ?_
      have hk9 : zk Z2 (mk + 15 + 2 * k) 9 := by
        rw [show mk + 15 + 2 * k = mk + (15 + 2 * k) by omega]
        exact FL_k h2 (List.mem_append_right _ (List.mem_singleton.mpr rfl))
      have hr9 : Z2.2.2.2 (mk + 15 + 2 * k) 7 = some (mk + 15 + 2 * k + 1) := by
        rw [show mk + 15 + 2 * k + 1 = mk + (15 + 2 * k + 1) by omega, show mk + 15 + 2 * k = mk + (15 + 2 * k) by omega]
        exact FL_r h2 (List.mem_append_right _ (List.mem_singleton.mpr rfl))
      have ha9 : za Z2 (mk + 15 + 2 * k + 1) 13 2 := by
        rw [show mk + 15 + 2 * k + 1 = mk + (15 + 2 * k + 1) by omega]
        exact FL_a h2 (List.mem_append_right _ (List.mem_singleton.mpr rfl))
      have h3 := FL_sub h2 (ks' := ks) (ps' := ps) (as' := as) (fun q hq => List.mem_append_left _ hq) (fun q hq => List.mem_append_left _ hq) (fun q hq => List.mem_append_left _ hq)
      have h4 := FL_W h3 (by omega) (fun q hq => by have := hps q hq; omega) hk9 hr9 ha9
      rw [show mk + (15 + 2 * k) = mk + 15 + 2 * k by omega]
      refine x_aastN (n := 58) dX10_init_57 rfl (FL_a h3 ha11) ⟨by decide, by decide⟩ hk9 (by decide) rfl (by decide) (by omega) ?_
      refine x_iincN1 (n := 61) (k := 1) dX10_init_58 rfl (by decide) rfl ?_
      refine x_goto (n := 39) dX10_init_61 (by decide) ?_
      exact ih (k + 1) _ (by omega) (by rw [show 15 + 2 * (k + 1) = 15 + 2 * k + 1 + 1 by omega]; exact h4) (fun a ha => hz a (by omega)) _ _ (by omega) (by show 10 * u ≤ as9 - 8 - 2; omega)
theorem m_X10_init (h : FL Z0 Z mk 11 ks ps as 0) (hz : ∀ a, mk + 11 ≤ a → I a = fun _ => 0) (hk : (10, 10) ∈ ks) (hps : ∀ q ∈ ps, q.1 ≠ 10) (hps2 : ∀ q ∈ ps, q.1 < 11) (hm : mk + 200 < 900000) (hq : ∀ Z', FL Z0 Z' mk 63 ks (ps ++ [(10, 0, 11)] ++ [(10, 2, 12)] ++ [(10, 3, 13)] ++ [(10, 5, 14)]) (as ++ [(11, 17, 24)] ++ [(12, 13, 8)] ++ [(13, 13, 8)] ++ [(14, 13, 24)]) 24 → Q none Z' I) : zM l G mX10_init 3 52 304 [.ref (mk + 10)] Z I Q := by
  refine x_entry [some (.ref (mk + 10)), none] 1 rfl rfl (Nat.le_of_ble_eq_true rfl) ?_
  refine x_ald0 (n := 1) dX10_init_0 rfl ?_
  refine x_objI (n := 4) dX10_init_1 rfl mlX10_5 zoI zoC (by decide) (Nat.le_of_ble_eq_true rfl) ?_
  refine x_ald0 (n := 5) dX10_init_4 rfl ?_
  refine x_bipush (n := 7) (v := nI 24) dX10_init_5 rfl (by decide) ?_
  refine y_newA (N := 24) (ci := 17) (n := 11) (m := 10) h (fun a ha => hz a (by omega)) dX10_init_7 rfl ⟨by decide, by decide⟩ ckX10_11 (by decide) (by omega) (by decide) (by decide) (fun Zh7 h7 => ?_)
  refine y_putR (p := 10) (b := 11) (k := 0) (m := 13) h7 flX10_13 rfl (Or.inr ⟨rfl, rfl⟩) (fun q => by cases q <;> exact ⟨rfl, rfl⟩) dX10_init_10 rfl hk (by decide) (np0 hps) (Or.inl rfl) (fun Zh10 h10 => ?_)
  refine x_ald0 (n := 14) dX10_init_13 rfl ?_
  refine x_bipush (n := 16) (v := nI 8) dX10_init_14 rfl (by decide) ?_
  refine y_newI (N := 8) (n := 12) (m := 18) h10 (fun a ha => hz a (by omega)) dX10_init_16 rfl (by decide) (by omega) (by decide) (by decide) (fun Zh16 h16 => ?_)
  refine y_putR (p := 10) (b := 12) (k := 2) (m := 21) h16 flX10_17 rfl (Or.inr ⟨rfl, rfl⟩) (fun q => by cases q <;> exact ⟨rfl, rfl⟩) dX10_init_18 rfl hk (by decide) (np1 (np0 hps) (by decide)) (Or.inl rfl) (fun Zh18 h18 => ?_)
  refine x_ald0 (n := 22) dX10_init_21 rfl ?_
  refine x_bipush (n := 24) (v := nI 8) dX10_init_22 rfl (by decide) ?_
  refine y_newI (N := 8) (n := 13) (m := 26) h18 (fun a ha => hz a (by omega)) dX10_init_24 rfl (by decide) (by omega) (by decide) (by decide) (fun Zh24 h24 => ?_)
  refine y_putR (p := 10) (b := 13) (k := 3) (m := 29) h24 flX10_21 rfl (Or.inr ⟨rfl, rfl⟩) (fun q => by cases q <;> exact ⟨rfl, rfl⟩) dX10_init_26 rfl hk (by decide) (np1 (np1 (np0 hps) (by decide)) (by decide)) (Or.inl rfl) (fun Zh26 h26 => ?_)
  refine x_ald0 (n := 30) dX10_init_29 rfl ?_
  refine x_bipush (n := 32) (v := nI 24) dX10_init_30 rfl (by decide) ?_
  refine y_newI (N := 24) (n := 14) (m := 34) h26 (fun a ha => hz a (by omega)) dX10_init_32 rfl (by decide) (by omega) (by decide) (by decide) (fun Zh32 h32 => ?_)
  refine y_putR (p := 10) (b := 14) (k := 5) (m := 37) h32 flX10_24 rfl (Or.inr ⟨rfl, rfl⟩) (fun q => by cases q <;> exact ⟨rfl, rfl⟩) dX10_init_34 rfl hk (by decide) (np1 (np1 (np1 (np0 hps) (by decide)) (by decide)) (by decide)) (Or.inl rfl) (fun Zh34 h34 => ?_)
  refine x_ic0 (n := 38) dX10_init_37 rfl ?_
  refine x_ist1 (n := 39) dX10_init_38 rfl (by decide) rfl ?_
  refine l_X10_init hm hk ?_ ?_ ?_ hq 24 0 _ rfl h34 (fun a ha => hz a (by omega)) _ _ (by decide) (by decide)
  · exact List.mem_append_left _ (List.mem_append_left _ (List.mem_append_left _ (List.mem_append_right _ (List.mem_singleton.mpr rfl))))
  · exact List.mem_append_left _ (List.mem_append_left _ (List.mem_append_left _ (List.mem_append_right _ (List.mem_singleton.mpr rfl))))
  · intro q hq
    simp only [List.mem_append, List.mem_singleton] at hq
    rcases hq with (((hq | hq) | hq) | hq) | hq
    · exact hps2 q hq
    · rw [hq]; decide
    · rw [hq]; decide
    · rw [hq]; decide
    · rw [hq]; decide
end
