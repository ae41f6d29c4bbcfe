section
variable {g : Nat → Int32}
theorem k_claim (hB : InvB g) (hT : InvT g) (a b c : Int32) : InvB (f_claim g a b c).2 ∧ InvT (f_claim g a b c).2 := by
  unfold f_claim
  split
  · rename_i hx
    split
    · exact ⟨hB, hT⟩
    · rename_i h8
      have m7 := iv7 hB
      have m0 := iv0 hB
      have m1 := iv1 hB
      have m2 := iv2 hB
      have m4 := iv4 hB
      have m5 := iv5 hB
      have m6 := iv6 hB
      have m8 := iv8 hB
      obtain ⟨⟨a0, a1, a2, a3, a4, a5, a6, a7, a8⟩, qb, qc, qd, qe, qf, qk, ql, qm, qn, qo⟩ := hB
      have h : ∀ i, i ≠ 4 → (i < 380 + 3 * vN g 4 ∨ 380 + 3 * vN g 4 + 3 ≤ i) → gClaim g a b c i = g i := fun i h1 h2 => by unfold gClaim; rw [upd_off h1, upd_off (by omega), upd_off (by omega), upd_off (by omega)]
      have hn : gClaim g a b c 4 = nI (vN g 4 + 1) := upd_same
      refine ⟨?_, InvT_off (h 3 (by omega) (by omega)) (fun i hi => h i (by omega) (by omega)) hT⟩
      show InvB (gClaim g a b c)
      unfold InvB
      rw [vN_eq (h 0 (by omega) (by omega)), vN_eq (h 1 (by omega) (by omega)), vN_eq (h 2 (by omega) (by omega)), vN_nI hn (by omega), vN_eq (h 5 (by omega) (by omega)), vN_eq (h 6 (by omega) (by omega)), vN_eq (h 7 (by omega) (by omega)), h 0 (by omega) (by omega), h 1 (by omega) (by omega), h 2 (by omega) (by omega), h 3 (by omega) (by omega), hn, h 5 (by omega) (by omega), h 6 (by omega) (by omega), h 7 (by omega) (by omega), h 8 (by omega) (by omega)]
      refine ⟨⟨a0, a1, a2, a3, rg_n (by omega) (by omega) (by omega), a5, a6, a7, a8⟩, ?_, ?_, ?_, ?_, ?_, ?_, ?_, ?_, ?_, ?_⟩
      · intro j hj; rw [h _ (by omega) (by omega)]; exact qb j hj
      · intro j hj
        unfold chainOK
        rw [h _ (by omega) (by omega), h _ (by omega) (by omega), h _ (by omega) (by omega), h _ (by omega) (by omega)]; exact qc j hj
      · intro w hw; exact workOK_off (h 0 (by omega) (by omega)) (h 2 (by omega) (by omega)) (fun j _ => h _ (by omega) (by omega)) (qd w hw)
      · intro j hj; rw [h _ (by omega) (by omega), h _ (by omega) (by omega)]; exact qe j hj
      · intro w j hw hj; rw [h _ (by omega) (by omega), h _ (by omega) (by omega)]; exact qf w j hw hj
      · intro j hj
        by_cases ej : j = vN g 4
        · subst ej
          have e0 : gClaim g a b c (380 + 3 * vN g 4) = a := by unfold gClaim; rw [upd_off (by omega), upd_off (by omega), upd_off (by omega), upd_same]
          have e1 : gClaim g a b c (380 + 3 * vN g 4 + 1) = b := by unfold gClaim; rw [upd_off (by omega), upd_off (by omega), upd_same]
          have e2 : gClaim g a b c (380 + 3 * vN g 4 + 2) = c := by unfold gClaim; rw [upd_off (by omega), upd_same]
          have z0 := zin_t hx.1
          have z1 := zin_t hx.2.1
          rw [e0, e1, e2]; exact ⟨z0, ⟨by omega, by omega⟩, zin_t hx.2.2⟩
        · rw [h _ (by omega) (by omega), h _ (by omega) (by omega), h _ (by omega) (by omega)]; exact qk j (by omega)
      · intro j hj; rw [h _ (by omega) (by omega)]; exact ql j hj
      · intro j hj; rw [h _ (by omega) (by omega), h _ (by omega) (by omega)]; exact qm j hj
      · intro j hj; rw [h _ (by omega) (by omega)]; exact qn j hj
      · intro j hj; rw [h _ (by omega) (by omega)]; exact qo j hj
  · exact ⟨hB, hT⟩
theorem k_due (hB : InvB g) (hT : InvT g) (a b : Int32) : InvB (f_due g a b).2 ∧ InvT (f_due g a b).2 := by
  unfold f_due
  split
  · rename_i hx
    split
    · exact ⟨hB, hT⟩
    · rename_i h8
      have m7 := iv7 hB
      have m0 := iv0 hB
      have m1 := iv1 hB
      have m2 := iv2 hB
      have m4 := iv4 hB
      have m5 := iv5 hB
      have m6 := iv6 hB
      have m8 := iv8 hB
      obtain ⟨⟨a0, a1, a2, a3, a4, a5, a6, a7, a8⟩, qb, qc, qd, qe, qf, qk, ql, qm, qn, qo⟩ := hB
      have h : ∀ i, i ≠ 5 → (i < 440 + 2 * vN g 5 ∨ 440 + 2 * vN g 5 + 2 ≤ i) → gDue g a b i = g i := fun i h1 h2 => by unfold gDue; rw [upd_off h1, upd_off (by omega), upd_off (by omega)]
      have hn : gDue g a b 5 = nI (vN g 5 + 1) := upd_same
      refine ⟨?_, InvT_off (h 3 (by omega) (by omega)) (fun i hi => h i (by omega) (by omega)) hT⟩
      show InvB (gDue g a b)
      unfold InvB
      rw [vN_eq (h 0 (by omega) (by omega)), vN_eq (h 1 (by omega) (by omega)), vN_eq (h 2 (by omega) (by omega)), vN_eq (h 4 (by omega) (by omega)), vN_nI hn (by omega), vN_eq (h 6 (by omega) (by omega)), vN_eq (h 7 (by omega) (by omega)), h 0 (by omega) (by omega), h 1 (by omega) (by omega), h 2 (by omega) (by omega), h 3 (by omega) (by omega), h 4 (by omega) (by omega), hn, h 6 (by omega) (by omega), h 7 (by omega) (by omega), h 8 (by omega) (by omega)]
      refine ⟨⟨a0, a1, a2, a3, a4, rg_n (by omega) (by omega) (by omega), a6, a7, a8⟩, ?_, ?_, ?_, ?_, ?_, ?_, ?_, ?_, ?_, ?_⟩
      · intro j hj; rw [h _ (by omega) (by omega)]; exact qb j hj
      · intro j hj
        unfold chainOK
        rw [h _ (by omega) (by omega), h _ (by omega) (by omega), h _ (by omega) (by omega), h _ (by omega) (by omega)]; exact qc j hj
      · intro w hw; exact workOK_off (h 0 (by omega) (by omega)) (h 2 (by omega) (by omega)) (fun j _ => h _ (by omega) (by omega)) (qd w hw)
      · intro j hj; rw [h _ (by omega) (by omega), h _ (by omega) (by omega)]; exact qe j hj
      · intro w j hw hj; rw [h _ (by omega) (by omega), h _ (by omega) (by omega)]; exact qf w j hw hj
      · intro j hj; rw [h _ (by omega) (by omega), h _ (by omega) (by omega), h _ (by omega) (by omega)]; exact qk j hj
      · intro j hj
        by_cases ej : j = vN g 5
        · subst ej
          have e0 : gDue g a b (440 + 2 * vN g 5) = a := by unfold gDue; rw [upd_off (by omega), upd_off (by omega), upd_same]
          have z0 := zin_t hx.1
          have z8 := a8.1
          rw [e0]; exact ⟨by omega, by omega⟩
        · rw [h _ (by omega) (by omega)]; exact ql j (by omega)
      · intro j hj; rw [h _ (by omega) (by omega), h _ (by omega) (by omega)]; exact qm j hj
      · intro j hj; rw [h _ (by omega) (by omega)]; exact qn j hj
      · intro j hj; rw [h _ (by omega) (by omega)]; exact qo j hj
  · exact ⟨hB, hT⟩
theorem k_face (hB : InvB g) (hT : InvT g) (a b : Int32) : InvB (f_face g a b).2 ∧ InvT (f_face g a b).2 := by
  unfold f_face
  split
  · rename_i hx
    split
    · exact ⟨hB, hT⟩
    · rename_i h8
      have m7 := iv7 hB
      have m0 := iv0 hB
      have m1 := iv1 hB
      have m2 := iv2 hB
      have m4 := iv4 hB
      have m5 := iv5 hB
      have m6 := iv6 hB
      have m8 := iv8 hB
      obtain ⟨⟨a0, a1, a2, a3, a4, a5, a6, a7, a8⟩, qb, qc, qd, qe, qf, qk, ql, qm, qn, qo⟩ := hB
      have h : ∀ i, i ≠ 6 → (i < 480 + 2 * vN g 6 ∨ 480 + 2 * vN g 6 + 2 ≤ i) → gFace g a b i = g i := fun i h1 h2 => by unfold gFace; rw [upd_off h1, upd_off (by omega), upd_off (by omega)]
      have hn : gFace g a b 6 = nI (vN g 6 + 1) := upd_same
      refine ⟨?_, InvT_off (h 3 (by omega) (by omega)) (fun i hi => h i (by omega) (by omega)) hT⟩
      show InvB (gFace g a b)
      unfold InvB
      rw [vN_eq (h 0 (by omega) (by omega)), vN_eq (h 1 (by omega) (by omega)), vN_eq (h 2 (by omega) (by omega)), vN_eq (h 4 (by omega) (by omega)), vN_eq (h 5 (by omega) (by omega)), vN_nI hn (by omega), vN_eq (h 7 (by omega) (by omega)), h 0 (by omega) (by omega), h 1 (by omega) (by omega), h 2 (by omega) (by omega), h 3 (by omega) (by omega), h 4 (by omega) (by omega), h 5 (by omega) (by omega), hn, h 7 (by omega) (by omega), h 8 (by omega) (by omega)]
      refine ⟨⟨a0, a1, a2, a3, a4, a5, rg_n (by omega) (by omega) (by omega), a7, a8⟩, ?_, ?_, ?_, ?_, ?_, ?_, ?_, ?_, ?_, ?_⟩
      · intro j hj; rw [h _ (by omega) (by omega)]; exact qb j hj
      · intro j hj
        unfold chainOK
        rw [h _ (by omega) (by omega), h _ (by omega) (by omega), h _ (by omega) (by omega), h _ (by omega) (by omega)]; exact qc j hj
      · intro w hw; exact workOK_off (h 0 (by omega) (by omega)) (h 2 (by omega) (by omega)) (fun j _ => h _ (by omega) (by omega)) (qd w hw)
      · intro j hj; rw [h _ (by omega) (by omega), h _ (by omega) (by omega)]; exact qe j hj
      · intro w j hw hj; rw [h _ (by omega) (by omega), h _ (by omega) (by omega)]; exact qf w j hw hj
      · intro j hj; rw [h _ (by omega) (by omega), h _ (by omega) (by omega), h _ (by omega) (by omega)]; exact qk j hj
      · intro j hj; rw [h _ (by omega) (by omega)]; exact ql j hj
      · intro j hj
        by_cases ej : j = vN g 6
        · subst ej
          have e0 : gFace g a b (480 + 2 * vN g 6) = a := by unfold gFace; rw [upd_off (by omega), upd_off (by omega), upd_same]
          have e1 : gFace g a b (480 + 2 * vN g 6 + 1) = b := by unfold gFace; rw [upd_off (by omega), upd_same]
          rw [e0, e1]; exact ⟨zin_t hx.1, zin_t hx.2⟩
        · rw [h _ (by omega) (by omega), h _ (by omega) (by omega)]; exact qm j (by omega)
      · intro j hj; rw [h _ (by omega) (by omega)]; exact qn j hj
      · intro j hj; rw [h _ (by omega) (by omega)]; exact qo j hj
  · exact ⟨hB, hT⟩
end
