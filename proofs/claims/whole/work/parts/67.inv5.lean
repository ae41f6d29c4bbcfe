section
variable {g : Nat → Int32}
theorem k_set (hB : InvB g) (hT : InvT g) (x y v : Int32) : InvB (f_set g x y v).2 ∧ InvT (f_set g x y v).2 := by
  unfold f_set
  by_cases h : zin x 0 ((vN g 0 : Int) - 1) = true ∧ zin y 0 2 = true ∧ zin v 0 (if y = nI 2 then 3 else 99) = true
  · rw [if_pos h]
    obtain ⟨c, hc, rfl⟩ := z_chain h.1
    obtain ⟨j, hj, hj2, rfl⟩ := z_num 3 h.2.1 (by omega)
    have h0 := iv0 hB
    rw [ix_nI (by omega), ix_nI (by omega)]
    refine ⟨InvB_chn hB hc ?_, InvT_upd hT (by omega) (by omega)⟩
    have hv := zin_t h.2.2
    by_cases e : j = 2
    · subst e
      rw [if_pos rfl] at hv
      exact Or.inr (Or.inl ⟨rfl, hv⟩)
    · rw [if_neg (fun e2 => e ((nI_eq (by omega) (by omega)).mp e2))] at hv
      exact Or.inl ⟨by omega, hv⟩
  · rw [if_neg h]; exact ⟨hB, hT⟩
theorem k_bore (hB : InvB g) (hT : InvT g) (x : Int32) : InvB (f_bore g x).2 ∧ InvT (f_bore g x).2 := by
  unfold f_bore
  split
  · rename_i h
    obtain ⟨c, hc, rfl⟩ := z_chain h
    have h0 := iv0 hB
    rw [ix_nI (by omega)]
    have h2 := (ivC hB hc).2.2.1
    exact ⟨InvB_chn hB hc (Or.inr (Or.inr ⟨rfl, by have := h2.1; have := h2.2; exact ⟨by omega, by omega⟩⟩)), InvT_upd hT (by omega) (by omega)⟩
  · exact ⟨hB, hT⟩
theorem k_rule (hB : InvB g) (hT : InvT g) (x v : Int32) : InvB (f_rule g x v).2 ∧ InvT (f_rule g x v).2 := by
  unfold f_rule
  split
  · rename_i h
    obtain ⟨j, hj, hj2, rfl⟩ := z_num 6 h.1 (by omega)
    have hv := h.2
    rw [ix_nI (by omega)] at hv
    rw [ix_nI (by omega)]
    exact ⟨InvB_rule hB hj (zin_t hv), InvT_upd hT (by omega) (by omega)⟩
  · exact ⟨hB, hT⟩
theorem k_wet (hB : InvB g) (hT : InvT g) (x v : Int32) : InvB (f_wet g x v).2 ∧ InvT (f_wet g x v).2 := by
  unfold f_wet
  split
  · rename_i h
    obtain ⟨j, hj, hj2, rfl⟩ := z_num 2000 h.1 (by omega)
    rw [ix_nI (by omega)]
    exact ⟨InvB_wet hB hj (zin_t h.2), InvT_upd hT (by omega) (by omega)⟩
  · exact ⟨hB, hT⟩
theorem k_lay (hB : InvB g) (hT : InvT g) {f : Nat → Nat} (hf : ∀ c, f c < 100) : ∀ n, n ≤ vN g 0 → InvB (gLay g f n) ∧ InvT (gLay g f n) ∧ vN (gLay g f n) 0 = vN g 0
  | 0, _ => ⟨hB, hT, rfl⟩
  | n + 1, h => by
    obtain ⟨a, b, c⟩ := k_lay hB hT hf n (by omega)
    have h0 := iv0 hB
    have hn := hf n
    refine ⟨InvB_chn a (by omega) (Or.inl ⟨Or.inr rfl, rg_n (by omega) (by omega) (by omega)⟩), InvT_upd b (by omega) (by omega), ?_⟩
    exact (vN_eq (upd_off (by omega))).trans c
end
