/-! ===== what always holds is kept: chains, gang, goes, text ===== -/
section
variable {g g' : Nat → Int32}
theorem k_chains (hB : InvB g) (hT : InvT g) (x : Int32) : InvB (f_chains g x).2 ∧ InvT (f_chains g x).2 := by
  unfold f_chains
  split
  · rename_i hx
    split
    · rename_i h1
      have m1 := iv1 hB
      have m0 := iv0 hB
      have hv := zin_t hx
      have hix : g 1 = nI 0 := by
        have h9 := m1.1
        rw [h9] at h1
        rw [nI_toInt (by omega)] at h1
        rw [h9, show vN g 1 = 0 by omega]
      have v1 : vN g 1 = 0 := vN_nI hix (by omega)
      have hn : x = nI (ix x) ∧ 2 ≤ ix x ∧ ix x ≤ 24 := by
        have hr : rg x 2 24 := hv
        have h9 := rg_nI (g := fun _ => x) (i := 0) hr (by omega) (by omega)
        have h8 := rg_le (g := fun _ => x) (i := 0) hr (by omega)
        exact ⟨h9, by have : (vN (fun _ => x) 0) = ix x := rfl; omega, by have : (vN (fun _ => x) 0) = ix x := rfl; omega⟩
      obtain ⟨⟨a0, a1, a2, a3, a4, a5, a6, a7, a8⟩, b, c, d, e, f, k, ll, m, nn, o⟩ := hB
      have h : ∀ i, i ≠ 0 → (i < 20 ∨ 116 ≤ i) → gBegin g (ix x) i = g i := fun i h1 h2 => by
        unfold gBegin
        rw [if_neg h1, if_neg (by omega)]
      have h0 : gBegin g (ix x) 0 = nI (ix x) := by unfold gBegin; rw [if_pos rfl]
      refine ⟨?_, InvT_off (h 3 (by omega) (by omega)) (fun i hi => h i (by omega) (by omega)) hT⟩
      show InvB (gBegin g (ix x))
      unfold InvB
      rw [vN_nI h0 (by omega), vN_eq (h 1 (by omega) (by omega)), vN_eq (h 2 (by omega) (by omega)), vN_eq (h 4 (by omega) (by omega)), vN_eq (h 5 (by omega) (by omega)), vN_eq (h 6 (by omega) (by omega)), vN_eq (h 7 (by omega) (by omega)), h0, h 1 (by omega) (by omega), h 2 (by omega) (by omega), h 3 (by omega) (by omega), h 4 (by omega) (by omega), h 5 (by omega) (by omega), h 6 (by omega) (by omega), h 7 (by omega) (by omega), h 8 (by omega) (by omega)]
      refine ⟨⟨rg_n (by omega) (by omega) (by omega), a1, a2, a3, a4, a5, a6, a7, a8⟩, ?_, ?_, ?_, ?_, ?_, ?_, ?_, ?_, ?_, ?_⟩
      · intro j hj; rw [h _ (by omega) (by omega)]; exact b j hj
      · intro j hj
        have q0 : gBegin g (ix x) (20 + 4 * j) = nI 50 := by unfold gBegin; rw [if_neg (by omega), if_pos (by omega), if_pos (by omega)]
        have q1 : gBegin g (ix x) (20 + 4 * j + 1) = nI 50 := by unfold gBegin; rw [if_neg (by omega), if_pos (by omega), if_neg (by omega), if_pos (by omega)]
        have q2 : gBegin g (ix x) (20 + 4 * j + 2) = nI 0 := by unfold gBegin; rw [if_neg (by omega), if_pos (by omega), if_neg (by omega), if_neg (by omega), if_pos (by omega)]
        have q3 : gBegin g (ix x) (20 + 4 * j + 3) = -1 := by unfold gBegin; rw [if_neg (by omega), if_pos (by omega), if_neg (by omega), if_neg (by omega), if_neg (by omega)]
        unfold chainOK
        rw [q0, q1, q2, q3]
        exact ⟨rg_n (by omega) (by omega) (by omega), rg_n (by omega) (by omega) (by omega), rg_n (by omega) (by omega) (by omega), rg_m1 3 (by omega)⟩
      · intro w hw; rw [v1] at hw; omega
      · intro j hj; rw [h _ (by omega) (by omega), h _ (by omega) (by omega)]; exact e j hj
      · intro w j hw hj; rw [v1] at hw; omega
      · intro j hj; have := (iv4 ⟨⟨a0, a1, a2, a3, a4, a5, a6, a7, a8⟩, b, c, d, e, f, k, ll, m, nn, o⟩).2; rw [h _ (by omega) (by omega), h _ (by omega) (by omega), h _ (by omega) (by omega)]; exact k j hj
      · intro j hj; rw [h _ (by omega) (by omega)]; exact ll j hj
      · intro j hj; rw [h _ (by omega) (by omega), h _ (by omega) (by omega)]; exact m j hj
      · intro j hj; rw [h _ (by omega) (by omega)]; exact nn j hj
      · intro j hj; rw [h _ (by omega) (by omega)]; exact o j hj
    · exact ⟨hB, hT⟩
  · exact ⟨hB, hT⟩
theorem k_gang (hB : InvB g) (hT : InvT g) (x : Int32) : InvB (f_gang g x).2 ∧ InvT (f_gang g x).2 := by
  unfold f_gang
  split
  · rename_i hx
    split
    · exact ⟨hB, hT⟩
    · rename_i h8
      have m2 := iv2 hB
      have m1 := iv1 hB
      obtain ⟨⟨a0, a1, a2, a3, a4, a5, a6, a7, a8⟩, b, c, d, e, f, k, ll, m, nn, o⟩ := hB
      have h : ∀ i, i ≠ 2 → i ≠ 360 + 2 * vN g 2 → i ≠ 360 + 2 * vN g 2 + 1 → gGang g x i = g i := fun i h1 h2 h3 => by unfold gGang; rw [upd_off h1, upd_off h3, upd_off h2]
      have h2 : gGang g x 2 = nI (vN g 2 + 1) := upd_same
      refine ⟨?_, InvT_off (h 3 (by omega) (by omega) (by omega)) (fun i hi => h i (by omega) (by omega) (by omega)) hT⟩
      show InvB (gGang g x)
      have hwk : ∀ w, w < vN g 1 → workOK (gGang g x) w := fun w hw => by
        have hd := d w hw
        unfold workOK at hd ⊢
        rw [vN_eq (h 0 (by omega) (by omega) (by omega)), vN_nI h2 (by omega), h _ (by omega) (by omega) (by omega), h _ (by omega) (by omega) (by omega), h _ (by omega) (by omega) (by omega), h _ (by omega) (by omega) (by omega), h _ (by omega) (by omega) (by omega), h _ (by omega) (by omega) (by omega), h _ (by omega) (by omega) (by omega), h _ (by omega) (by omega) (by omega), h _ (by omega) (by omega) (by omega), h _ (by omega) (by omega) (by omega)]
        obtain ⟨d1, d2, d3, d4, d5, d6⟩ := hd
        refine ⟨d1, d2, d3, d4, ?_, d6⟩
        unfold rg at d5 ⊢
        omega
      unfold InvB
      rw [vN_eq (h 0 (by omega) (by omega) (by omega)), vN_eq (h 1 (by omega) (by omega) (by omega)), vN_nI h2 (by omega), vN_eq (h 4 (by omega) (by omega) (by omega)), vN_eq (h 5 (by omega) (by omega) (by omega)), vN_eq (h 6 (by omega) (by omega) (by omega)), vN_eq (h 7 (by omega) (by omega) (by omega)), h2, h 0 (by omega) (by omega) (by omega), h 1 (by omega) (by omega) (by omega), h 3 (by omega) (by omega) (by omega), h 4 (by omega) (by omega) (by omega), h 5 (by omega) (by omega) (by omega), h 6 (by omega) (by omega) (by omega), h 7 (by omega) (by omega) (by omega), h 8 (by omega) (by omega) (by omega)]
      have e0 : gGang g x (360 + 2 * vN g 2) = x := by unfold gGang; rw [upd_off (by omega), upd_off (by omega), upd_same]
      have e1 : gGang g x (360 + 2 * vN g 2 + 1) = -1 := by unfold gGang; rw [upd_off (by omega), upd_same]
      refine ⟨⟨a0, a1, rg_n (by omega) (by omega) (by omega), a3, a4, a5, a6, a7, a8⟩, ?_, ?_, hwk, ?_, ?_, ?_, ?_, ?_, ?_, ?_⟩
      · intro j hj; rw [h _ (by omega) (by omega) (by omega)]; exact b j hj
      · intro j hj
        have := (iv0 ⟨⟨a0, a1, a2, a3, a4, a5, a6, a7, a8⟩, b, c, d, e, f, k, ll, m, nn, o⟩).2.2
        unfold chainOK
        rw [h _ (by omega) (by omega) (by omega), h _ (by omega) (by omega) (by omega), h _ (by omega) (by omega) (by omega), h _ (by omega) (by omega) (by omega)]; exact c j hj
      · intro j hj
        by_cases ej : j = vN g 2
        · subst ej
          rw [e0, e1]
          exact ⟨zin_t hx, rg_m1 _ (by omega)⟩
        · rw [h _ (by omega) (by omega) (by omega), h _ (by omega) (by omega) (by omega)]; exact e j (by omega)
      · intro w j hw hj
        by_cases ej : j = vN g 2
        · subst ej
          rw [e1, h _ (by omega) (by omega) (by omega)]
          refine ⟨fun hh => absurd hh (nI_m1 (by omega)), fun hh => ?_⟩
          have h5 := (d w hw).2.2.2.2.1
          rw [hh] at h5
          unfold rg at h5
          rw [nI_toInt (by omega)] at h5
          omega
        · rw [h _ (by omega) (by omega) (by omega), h _ (by omega) (by omega) (by omega)]; exact f w j hw (by omega)
      · intro j hj; rw [h _ (by omega) (by omega) (by omega), h _ (by omega) (by omega) (by omega), h _ (by omega) (by omega) (by omega)]; exact k j hj
      · intro j hj; rw [h _ (by omega) (by omega) (by omega)]; exact ll j hj
      · intro j hj; rw [h _ (by omega) (by omega) (by omega), h _ (by omega) (by omega) (by omega)]; exact m j hj
      · intro j hj; rw [h _ (by omega) (by omega) (by omega)]; exact nn j hj
      · intro j hj; rw [h _ (by omega) (by omega) (by omega)]; exact o j hj
  · exact ⟨hB, hT⟩
end
