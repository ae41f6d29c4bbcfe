section
variable {g : Nat → Int32}
theorem k_arch (hB : InvB g) (hT : InvT g) (x : Int32) : InvB (f_arch g x).2 ∧ InvT (f_arch g x).2 := by
  unfold f_arch
  split
  · rename_i hx
    split
    · exact ⟨hB, hT⟩
    · rename_i h8
      have m7 := iv7 hB
      have m0 := iv0 hB
      have m1 := iv1 hB
      have m2 := iv2 hB
      have m4 := iv4 hB
      have m5 := iv5 hB
      have m6 := iv6 hB
      obtain ⟨⟨a0, a1, a2, a3, a4, a5, a6, a7, a8⟩, b, c, d, e, f, k, ll, m, nn, o⟩ := hB
      have h : ∀ i, i ≠ 7 → i ≠ 495 + vN g 7 → gArch g x i = g i := fun i h1 h2 => by unfold gArch; rw [upd_off h1, upd_off h2]
      have h7 : gArch g x 7 = nI (vN g 7 + 1) := upd_same
      refine ⟨?_, InvT_off (h 3 (by omega) (by omega)) (fun i hi => h i (by omega) (by omega)) hT⟩
      show InvB (gArch g x)
      unfold InvB
      rw [vN_eq (h 0 (by omega) (by omega)), vN_eq (h 1 (by omega) (by omega)), vN_eq (h 2 (by omega) (by omega)), vN_eq (h 4 (by omega) (by omega)), vN_eq (h 5 (by omega) (by omega)), vN_eq (h 6 (by omega) (by omega)), vN_nI h7 (by omega), h 0 (by omega) (by omega), h 1 (by omega) (by omega), h 2 (by omega) (by omega), h 3 (by omega) (by omega), h 4 (by omega) (by omega), h 5 (by omega) (by omega), h 6 (by omega) (by omega), h7, h 8 (by omega) (by omega)]
      refine ⟨⟨a0, a1, a2, a3, a4, a5, a6, rg_n (by omega) (by omega) (by omega), a8⟩, ?_, ?_, ?_, ?_, ?_, ?_, ?_, ?_, ?_, ?_⟩
      · intro j hj; rw [h _ (by omega) (by omega)]; exact b j hj
      · intro j hj
        unfold chainOK
        rw [h _ (by omega) (by omega), h _ (by omega) (by omega), h _ (by omega) (by omega), h _ (by omega) (by omega)]; exact c j hj
      · intro w hw; exact workOK_off (h 0 (by omega) (by omega)) (h 2 (by omega) (by omega)) (fun j _ => h _ (by omega) (by omega)) (d w hw)
      · intro j hj; rw [h _ (by omega) (by omega), h _ (by omega) (by omega)]; exact e j hj
      · intro w j hw hj; rw [h _ (by omega) (by omega), h _ (by omega) (by omega)]; exact f w j hw hj
      · intro j hj; rw [h _ (by omega) (by omega), h _ (by omega) (by omega), h _ (by omega) (by omega)]; exact k j hj
      · intro j hj; rw [h _ (by omega) (by omega)]; exact ll j hj
      · intro j hj; rw [h _ (by omega) (by omega), h _ (by omega) (by omega)]; exact m j hj
      · intro j hj
        by_cases ej : j = vN g 7
        · subst ej
          have : gArch g x (495 + vN g 7) = x := by unfold gArch; rw [upd_off (by omega), upd_same]
          rw [this]; exact zin_t hx
        · rw [h _ (by omega) (by omega)]; exact nn j (by omega)
      · intro j hj; rw [h _ (by omega) (by omega)]; exact o j hj
  · exact ⟨hB, hT⟩
end
