/-! ===== calls keep what holds ===== -/
section
variable {g : Nat → Int32}
theorem k_ahead (hB : InvB g) (hT : InvT g) (x v : Int32) : InvB (f_ahead g x v).2 ∧ InvT (f_ahead g x v).2 := by
  unfold f_ahead
  split
  · rename_i h
    obtain ⟨c, hc, rfl⟩ := z_chain h.1
    have h1 := iv1 hB
    rw [ix_nI (by omega)]
    exact ⟨InvB_cell hB hc (Or.inr (Or.inl ⟨rfl, zin_t h.2⟩)), InvT_upd hT (by omega) (by omega)⟩
  · exact ⟨hB, hT⟩
theorem k_days (hB : InvB g) (hT : InvT g) (x v : Int32) : InvB (f_days g x v).2 ∧ InvT (f_days g x v).2 := by
  unfold f_days
  split
  · rename_i h
    obtain ⟨c, hc, rfl⟩ := z_chain h.1
    have h1 := iv1 hB
    rw [ix_nI (by omega)]
    exact ⟨InvB_cell hB hc (Or.inr (Or.inr (Or.inl ⟨rfl, zin_t h.2⟩))), InvT_upd hT (by omega) (by omega)⟩
  · exact ⟨hB, hT⟩
theorem k_measure (hB : InvB g) (hT : InvT g) (x y v : Int32) : InvB (f_measure g x y v).2 ∧ InvT (f_measure g x y v).2 := by
  unfold f_measure
  split
  · rename_i h
    obtain ⟨c, hc, rfl⟩ := z_chain h.1
    obtain ⟨j, hj, hj2, rfl⟩ := z_num 2 h.2.1 (by omega)
    have h1 := iv1 hB
    rw [ix_nI (by omega), ix_nI (by omega)]
    refine ⟨?_, InvT_upd hT (by omega) (by omega)⟩
    show InvB (upd g (120 + 10 * c + 7 + j) v)
    rw [Nat.add_assoc]
    exact InvB_cell hB hc (Or.inr (Or.inr (Or.inr ⟨by omega, zin_t h.2.2⟩)))
  · exact ⟨hB, hT⟩
theorem k_call (hB : InvB g) (hT : InvT g) (x : Int32) : InvB (f_call g x).2 ∧ InvT (f_call g x).2 := by
  unfold f_call
  split
  · exact ⟨InvB_coin hB (Or.inl rfl), InvT_upd hT (by omega) (by omega)⟩
  · exact ⟨hB, hT⟩
theorem k_work (hB : InvB g) (hT : InvT g) (k c y : Int32) : InvB (f_work g k c y).2 ∧ InvT (f_work g k c y).2 := by
  unfold f_work
  split
  · rename_i h
    split
    · exact ⟨hB, hT⟩
    · have h1 := iv1 hB
      exact ⟨gNew_inv hB (zin_t h.1) (zin_t h.2.2.1) (zin_t h.2.2.2) (by omega), InvT_off (gNew_off (by omega) (by omega)) (fun i hi => gNew_off (by omega) (by omega)) hT⟩
  · exact ⟨hB, hT⟩
end
