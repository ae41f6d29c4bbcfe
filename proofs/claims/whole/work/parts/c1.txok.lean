/-! ===== a good text has good steps ===== -/
theorem tx_hg {f : Nat → Int32} {t key : Nat} (h : (txF f t).2.1 = true) (hk : (txF f t).1 = some key) (hk4 : key < 4) (hwf : wfT (tkL f t t 0 false).tail) : hg key (txF f t).2.2.2.1 0 1 ∧ (txF f t).2.2.2.2 ≤ (txF f t).2.2.2.1.length := by
  cases hky : kyF f t with
  | none =>
    have e : txF f t = (none, (false, skB f t 0, [], 0)) := by unfold txF; rw [hky]
    rw [e] at hk; cases hk
  | some k =>
    have e : txF f t = (some k, mcP k (tkL f t t 0 false).tail [] [] 0 0 true 0) := by unfold txF; rw [hky]
    rw [e] at hk h ⊢
    have hkk : k = key := by simpa using hk
    subst hkk
    have hev := eqv_top k (n := 8 * (tkL f t t 0 false).tail.length + 6) (Nat.le_refl _) hwf
    by_cases ha : (rdP k (8 * (tkL f t t 0 false).tail.length + 6) 0 0 0 (tkL f t t 0 false).tail).1 = true ∧ isE (rdP k (8 * (tkL f t t 0 false).tail.length + 6) 0 0 0 (tkL f t t 0 false).tail).2.1 = true
    · rw [if_pos ha] at hev
      rw [hev]
      exact ⟨(rd_hg hk4 _ 0 0 0 _ ha.1).1 (by omega) 0, rd_sd k _ 0 0 0 _⟩
    · rw [if_neg ha] at hev
      rw [hev] at h; cases h
