/-! ===== what is read keeps the heights, by the fuel ===== -/
theorem nm_ex {key : Nat} {c : Int32} (hk : key < 4) (h : isNm key c = true) : ∃ j, nameOK key j ∧ c = nI j := by
  unfold isNm at h
  unfold nameOK
  split at h
  · rw [decide_eq_true_eq] at h
    rcases h with h | h | h
    · exact ⟨107, by omega, h⟩
    · exact ⟨100, by omega, h⟩
    · exact ⟨119, by omega, h⟩
  split at h
  · rw [decide_eq_true_eq] at h
    rcases h with h | h
    · exact ⟨107, by omega, h⟩
    · exact ⟨121, by omega, h⟩
  split at h
  · rw [decide_eq_true_eq] at h
    exact ⟨110, by omega, h⟩
  · rw [decide_eq_true_eq] at h
    rcases h with h | h
    · exact ⟨99, by omega, h⟩
    · exact ⟨119, by omega, h⟩
theorem hg_sg {key c a : Nat} (hc : 0 < rnk c) (ha : 1 ≤ a) : hg key [(nI 2, nI c)] (a + 1) a := ⟨a, Or.inr (Or.inr (Or.inr ⟨rfl, ⟨c, sg_ok hc, rfl⟩, by omega, rfl⟩)), rfl⟩
theorem rd_hg {key : Nat} (hk : key < 4) : ∀ n m d u ts, (rdP key n m d u ts).1 = true → (m ≤ 5 → ∀ a, hg key (rdP key n m d u ts).2.2.1 a (a + 1)) ∧ (6 ≤ m → ∀ a, 1 ≤ a → hg key (rdP key n m d u ts).2.2.1 a a) := by
  intro n
  induction n with
  | zero => intro m d u ts h; cases h
  | succ n ih =>
    intro m d u ts h
    by_cases hm : m < 5
    · refine ⟨fun _ a => ?_, fun h6 => absurd h6 (by omega)⟩
      rw [rd_lvl key n m d u ts hm] at h ⊢
      by_cases ha : (rdP key n (m + 1) d u ts).1 = true
      · rw [if_pos ha] at h ⊢
        exact hg_app ((ih (m + 1) d u ts ha).1 (by omega) a) ((ih (6 + m) d u _ h).2 (by omega) (a + 1) (by omega))
      · rw [if_neg ha] at h; exact absurd h ha
    · by_cases h5 : m = 5
      · subst h5
        refine ⟨fun _ a => ?_, fun h6 => absurd h6 (by omega)⟩
        cases ts with
        | nil => unfold rdP at h; cases h
        | cons x r =>
          by_cases h2 : x.1 = 2
          · rw [rd_p2 h2]; exact ⟨a + 1, Or.inl ⟨rfl, rfl⟩, rfl⟩
          by_cases h1 : x.1 = 1 ∧ x.2.1 ≠ 0 ∧ isNm key (nI x.2.1) = true
          · rw [rd_p1 h1]; exact ⟨a + 1, Or.inr (Or.inl ⟨rfl, rfl, nm_ex hk h1.2.2⟩), rfl⟩
          by_cases h3 : (x.1 = 3 ∧ x.2.1 = 33) ∧ u < 8
          · rw [rd_pN h3] at h ⊢
            by_cases ha : (rdP key n 5 d (u + 1) r).1 = true
            · rw [if_pos ha]
              exact hg_app ((ih 5 d (u + 1) r ha).1 (by omega) a) ⟨a + 1, Or.inr (Or.inr (Or.inl ⟨rfl, rfl, by omega, rfl⟩)), rfl⟩
            · rw [if_neg ha] at h; exact absurd h ha
          by_cases h4 : (x.1 = 3 ∧ x.2.1 = 40) ∧ d < 8
          · rw [rd_pO h4] at h ⊢
            by_cases ha : (rdP key n 0 (d + 1) u r).1 = true ∧ isCl (rdP key n 0 (d + 1) u r).2.1 = true
            · rw [if_pos ha]
              exact (ih 0 (d + 1) u r ha.1).1 (by omega) a
            · rw [if_neg ha] at h; cases h
          · rw [rd_pX h2 h1 h3 h4] at h; cases h
      · obtain ⟨k, rfl⟩ : ∃ k, m = 6 + k := ⟨m - 6, by omega⟩
        refine ⟨fun h6 => absurd h6 (by omega), fun _ a ha1 => ?_⟩
        cases ho : opAt k ts with
        | none => rw [rd_lopN ho]; rfl
        | some c =>
          obtain ⟨b, r, e, hrk⟩ := opAt_some ho
          subst e
          by_cases ha : (rdP key n (k + 1) d u r).1 = true
          · have hk5 : k + 1 ≤ 5 := by have := rnk_5l c; omega
            have hA := (ih (k + 1) d u r ha).1 hk5 a
            have hs := hg_sg (key := key) (c := c) (a := a) (by omega) ha1
            by_cases h8 : k = 2
            · subst h8
              rw [show 6 + 2 = 8 from rfl, rd_lop8 ho ha]
              exact hg_app hA hs
            · rw [rd_lopT ho ha h8] at h ⊢
              exact hg_app (hg_app hA hs) ((ih (6 + k) d u _ h).2 (by omega) a ha1)
          · rw [rd_lopF ho (by simpa using ha)] at h; exact absurd h ha
