section
variable {g g' : Nat → Int32}
/-- chains, rules and wets may change -/
theorem InvB_reg (hB : InvB g) (h : ∀ i, (i < 11 ∨ (116 ≤ i ∧ i < 510) ∨ 2510 ≤ i) → g' i = g i) (hr : ∀ k, k < 6 → rg (g' (11 + k)) 0 (mostOf k)) (hc : ∀ c, c < vN g 0 → chainOK g' c) (he : ∀ k, k < 2000 → rg (g' (510 + k)) 0 9) : InvB g' := by
  have m0 := iv0 hB
  have m1 := iv1 hB
  have m2 := iv2 hB
  have m4 := iv4 hB
  have m5 := iv5 hB
  have m6 := iv6 hB
  have m7 := iv7 hB
  obtain ⟨⟨a0, a1, a2, a3, a4, a5, a6, a7, a8⟩, b, c, d, e, f, k, ll, m, nn, o⟩ := hB
  unfold InvB
  rw [vN_eq (h 0 (by omega)), vN_eq (h 1 (by omega)), vN_eq (h 2 (by omega)), vN_eq (h 4 (by omega)), vN_eq (h 5 (by omega)), vN_eq (h 6 (by omega)), vN_eq (h 7 (by omega)), h 0 (by omega), h 1 (by omega), h 2 (by omega), h 3 (by omega), h 4 (by omega), h 5 (by omega), h 6 (by omega), h 7 (by omega), h 8 (by omega)]
  refine ⟨⟨a0, a1, a2, a3, a4, a5, a6, a7, a8⟩, hr, hc, ?_, ?_, ?_, ?_, ?_, ?_, ?_, he⟩
  · intro w hw; exact workOK_off (h 0 (by omega)) (h 2 (by omega)) (fun j _ => h _ (by omega)) (d w hw)
  · intro j hj; rw [h _ (by omega), h _ (by omega)]; exact e j hj
  · intro w j hw hj; rw [h _ (by omega), h _ (by omega)]; exact f w j hw hj
  · intro j hj; rw [h _ (by omega), h _ (by omega), h _ (by omega)]; exact k j hj
  · intro j hj; rw [h _ (by omega)]; exact ll j hj
  · intro j hj; rw [h _ (by omega), h _ (by omega)]; exact m j hj
  · intro j hj; rw [h _ (by omega)]; exact nn j hj
theorem InvB_rule (hB : InvB g) {j : Nat} {v : Int32} (hj : j < 6) (hv : rg v 0 (mostOf j)) : InvB (upd g (11 + j) v) := by
  refine InvB_reg hB (fun i hi => upd_off (by omega)) (fun k hk => ?_) (fun c hc => ?_) (fun k hk => ?_)
  · by_cases e : k = j
    · subst e; rw [upd_same]; exact hv
    · rw [upd_off (by omega)]; exact ivR hB hk
  · unfold chainOK
    rw [upd_off (by omega), upd_off (by omega), upd_off (by omega), upd_off (by omega)]; exact ivC hB hc
  · rw [upd_off (by omega)]; exact ivE hB hk
theorem InvB_wet (hB : InvB g) {j : Nat} {v : Int32} (hj : j < 2000) (hv : rg v 0 9) : InvB (upd g (510 + j) v) := by
  have m0 := iv0 hB
  refine InvB_reg hB (fun i hi => upd_off (by omega)) (fun k hk => ?_) (fun c hc => ?_) (fun k hk => ?_)
  · rw [upd_off (by omega)]; exact ivR hB hk
  · unfold chainOK
    rw [upd_off (by omega), upd_off (by omega), upd_off (by omega), upd_off (by omega)]; exact ivC hB hc
  · by_cases e : k = j
    · subst e; rw [upd_same]; exact hv
    · rw [upd_off (by omega)]; exact ivE hB hk
theorem InvB_chn (hB : InvB g) {c f : Nat} {v : Int32} (hc : c < vN g 0) (hf : (f = 0 ∨ f = 1) ∧ rg v 0 99 ∨ f = 2 ∧ rg v 0 3 ∨ f = 3 ∧ rg v (-1) 3) : InvB (upd g (20 + 4 * c + f) v) := by
  have m0 := iv0 hB
  have hf4 : f < 4 := by omega
  refine InvB_reg hB (fun i hi => upd_off (by omega)) (fun k hk => ?_) (fun d hd => ?_) (fun k hk => ?_)
  · rw [upd_off (by omega)]; exact ivR hB hk
  · have hC := ivC hB hd
    by_cases e : d = c
    · subst e
      have hO : ∀ j, j < 4 → j ≠ f → upd g (20 + 4 * d + f) v (20 + 4 * d + j) = g (20 + 4 * d + j) := fun j _ hj => upd_off (by omega)
      have hS : upd g (20 + 4 * d + f) v (20 + 4 * d + f) = v := upd_same
      obtain ⟨c0, c1, c2, c3⟩ := hC
      have hO0 : f ≠ 0 → upd g (20 + 4 * d + f) v (20 + 4 * d) = g (20 + 4 * d) := fun hj => upd_off (by omega)
      unfold chainOK
      rcases hf with ⟨rfl | rfl, hv⟩ | ⟨rfl, hv⟩ | ⟨rfl, hv⟩
      · rw [Nat.add_zero] at hS hO ⊢
        rw [hS, hO 1 (by omega) (by omega), hO 2 (by omega) (by omega), hO 3 (by omega) (by omega)]; exact ⟨hv, c1, c2, c3⟩
      · rw [hO0 (by omega), hS, hO 2 (by omega) (by omega), hO 3 (by omega) (by omega)]; exact ⟨c0, hv, c2, c3⟩
      · rw [hO0 (by omega), hS, hO 1 (by omega) (by omega), hO 3 (by omega) (by omega)]; exact ⟨c0, c1, hv, c3⟩
      · rw [hO0 (by omega), hS, hO 1 (by omega) (by omega), hO 2 (by omega) (by omega)]; exact ⟨c0, c1, c2, hv⟩
    · unfold chainOK
      rw [upd_off (by omega), upd_off (by omega), upd_off (by omega), upd_off (by omega)]; exact hC
  · rw [upd_off (by omega)]; exact ivE hB hk
end
