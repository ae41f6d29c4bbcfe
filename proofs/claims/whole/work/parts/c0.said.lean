/-! ===== parts are no more than steps ===== -/
theorem rd_sd (key : Nat) : ∀ n m d u ts, (rdP key n m d u ts).2.2.2 ≤ (rdP key n m d u ts).2.2.1.length := by
  intro n
  induction n with
  | zero => intro m d u ts; exact Nat.le_refl 0
  | succ n ih =>
    intro m d u ts
    by_cases hm : m < 5
    · rw [rd_lvl key n m d u ts hm]
      have h1 := ih (m + 1) d u ts
      have h2 := ih (6 + m) d u (rdP key n (m + 1) d u ts).2.1
      split
      · simp only [List.length_append]; omega
      · exact h1
    · by_cases h5 : m = 5
      · subst h5
        cases ts with
        | nil => unfold rdP; exact Nat.le_refl 0
        | cons x r =>
          by_cases h2 : x.1 = 2
          · rw [rd_p2 h2]; exact Nat.le_refl 1
          by_cases h1 : x.1 = 1 ∧ x.2.1 ≠ 0 ∧ isNm key (nI x.2.1) = true
          · rw [rd_p1 h1]; exact Nat.le_refl 1
          by_cases h3 : (x.1 = 3 ∧ x.2.1 = 33) ∧ u < 8
          · rw [rd_pN h3]
            have h4 := ih 5 d (u + 1) r
            split
            · simp only [List.length_append]; omega
            · exact h4
          by_cases h4 : (x.1 = 3 ∧ x.2.1 = 40) ∧ d < 8
          · rw [rd_pO h4]
            have h6 := ih 0 (d + 1) u r
            split
            · exact h6
            · exact h6
          · rw [rd_pX h2 h1 h3 h4]; exact Nat.le_refl 0
      · obtain ⟨k, rfl⟩ : ∃ k, m = 6 + k := ⟨m - 6, by omega⟩
        cases ho : opAt k ts with
        | none => rw [rd_lopN ho]; exact Nat.le_refl 0
        | some c =>
          obtain ⟨b, r, e, hrk⟩ := opAt_some ho
          subst e
          have h1 := ih (k + 1) d u r
          by_cases ha : (rdP key n (k + 1) d u r).1 = true
          · by_cases h8 : k = 2
            · subst h8
              rw [show 6 + 2 = 8 from rfl, rd_lop8 ho ha]
              simp only [List.length_append]; exact Nat.le_trans h1 (Nat.le_add_right _ _)
            · rw [rd_lopT ho ha h8]
              have h2 := ih (6 + k) d u (rdP key n (k + 1) d u r).2.1
              simp only [List.length_append]; omega
          · rw [rd_lopF ho (by simpa using ha)]; exact h1
