/-! ===== what holds goes on holding ===== -/
section
variable {g g' : Nat → Int32}
theorem vN_eq {i : Nat} (h : g' i = g i) : vN g' i = vN g i := by unfold vN; rw [h]
theorem textOK_off {t : Nat} (h : ∀ i, 2520 ≤ i → g' i = g i) (hT : textOK g t) : textOK g' t := by
  obtain ⟨a, b, c, d, H, h0, h1, hs⟩ := hT
  have e0 := vN_eq (h (2520 + 200 * t) (by omega))
  have e3 := vN_eq (h (2520 + 200 * t + 3) (by omega))
  refine ⟨by rw [h _ (by omega)]; exact a, by rw [h _ (by omega)]; exact b, by rw [h _ (by omega)]; exact c, by rw [h _ (by omega)]; exact d, H, h0, by rw [e3]; exact h1, ?_⟩
  intro k hk
  rw [e3] at hk
  rw [e0, h _ (by omega), h _ (by omega)]
  exact hs k hk
theorem InvT_off (h3 : g' 3 = g 3) (h : ∀ i, 2520 ≤ i → g' i = g i) (hT : InvT g) : InvT g' := by
  intro t ht
  rw [vN_eq h3] at ht
  exact textOK_off h (hT t ht)
/-- only works and coins have changed -/
theorem InvB_W (hB : InvB g) (h : ∀ i, i ≠ 9 → i ≠ 10 → (i < 120 ∨ 360 ≤ i) → g' i = g i) (hw : ∀ w, w < vN g 1 → workOK g' w) (h4 : ∀ w, w < vN g 1 → g' (120 + 10 * w + 4) = g (120 + 10 * w + 4)) : InvB g' := by
  obtain ⟨⟨a0, a1, a2, a3, a4, a5, a6, a7, a8⟩, b, c, d, e, f, k, l, m, n, o⟩ := hB
  have e0 := h 0 (by omega) (by omega) (by omega)
  have e1 := h 1 (by omega) (by omega) (by omega)
  have e2 := h 2 (by omega) (by omega) (by omega)
  have e3 := h 3 (by omega) (by omega) (by omega)
  have e4 := h 4 (by omega) (by omega) (by omega)
  have e5 := h 5 (by omega) (by omega) (by omega)
  have e6 := h 6 (by omega) (by omega) (by omega)
  have e7 := h 7 (by omega) (by omega) (by omega)
  have e8 := h 8 (by omega) (by omega) (by omega)
  have m0 := rg_le a0 (by omega)
  unfold InvB
  rw [vN_eq e0, vN_eq e1, vN_eq e2, vN_eq e4, vN_eq e5, vN_eq e6, vN_eq e7, e0, e1, e2, e3, e4, e5, e6, e7, e8]
  refine ⟨⟨a0, a1, a2, a3, a4, a5, a6, a7, a8⟩, ?_, ?_, hw, ?_, ?_, ?_, ?_, ?_, ?_, ?_⟩
  · intro j hj; rw [h _ (by omega) (by omega) (by omega)]; exact b j hj
  · intro j hj
    obtain ⟨q1, q2, q3, q4⟩ := c j hj
    exact ⟨by rw [h _ (by omega) (by omega) (by omega)]; exact q1, by rw [h _ (by omega) (by omega) (by omega)]; exact q2, by rw [h _ (by omega) (by omega) (by omega)]; exact q3, by rw [h _ (by omega) (by omega) (by omega)]; exact q4⟩
  · intro j hj; rw [h _ (by omega) (by omega) (by omega), h _ (by omega) (by omega) (by omega)]; exact e j hj
  · intro w j hw hj; rw [h _ (by omega) (by omega) (by omega), h4 w hw]; exact f w j hw hj
  · intro j hj; rw [h _ (by omega) (by omega) (by omega), h _ (by omega) (by omega) (by omega), h _ (by omega) (by omega) (by omega)]; exact k j hj
  · intro j hj; rw [h _ (by omega) (by omega) (by omega)]; exact l j hj
  · intro j hj; rw [h _ (by omega) (by omega) (by omega), h _ (by omega) (by omega) (by omega)]; exact m j hj
  · intro j hj; rw [h _ (by omega) (by omega) (by omega)]; exact n j hj
  · intro j hj; rw [h _ (by omega) (by omega) (by omega)]; exact o j hj
theorem workOK_off {w : Nat} (h0 : g' 0 = g 0) (h2 : g' 2 = g 2) (h : ∀ f, f < 10 → g' (120 + 10 * w + f) = g (120 + 10 * w + f)) (hW : workOK g w) : workOK g' w := by
  have z0 := h 0 (by omega)
  rw [Nat.add_zero] at z0
  unfold workOK
  rw [vN_eq h0, vN_eq h2, z0, h 1 (by omega), h 2 (by omega), h 3 (by omega), h 4 (by omega), h 5 (by omega), h 6 (by omega), h 7 (by omega), h 8 (by omega), h 9 (by omega)]
  exact hW
theorem upd_off {j k : Nat} {v : Int32} (h : j ≠ k) : upd g k v j = g j := pk_un h
theorem upd_same {k : Nat} {v : Int32} : upd g k v k = v := pk_us
/-- one cell of a work -/
theorem InvB_cell (hB : InvB g) {w f : Nat} {v : Int32} (hw : w < vN g 1) (hf : f = 3 ∧ rg v 0 (g (120 + 10 * w + 2)).toInt ∨ f = 5 ∧ rg v 0 16777215 ∨ f = 6 ∧ rg v 1 99 ∨ (f = 7 ∨ f = 8 ∨ f = 9) ∧ rg v 0 9999) : InvB (upd g (120 + 10 * w + f) v) := by
  have hf10 : f < 10 := by omega
  have h24 := (iv1 hB).2
  refine InvB_W hB (fun i _ _ hi => upd_off (by omega)) (fun u hu => ?_) (fun u hu => upd_off (by omega))
  have hW := ivW hB hu
  by_cases huw : u = w
  · subst huw
    have hO : ∀ j, j ≠ f → upd g (120 + 10 * u + f) v (120 + 10 * u + j) = g (120 + 10 * u + j) := fun j hj => upd_off (by omega)
    have hS : upd g (120 + 10 * u + f) v (120 + 10 * u + f) = v := upd_same
    have z0 := hO 0 (by omega)
    rw [Nat.add_zero] at z0
    obtain ⟨w0, w1, w2, w3, w4, w5, w6, w7, w8, w9⟩ := hW
    unfold workOK
    rw [vN_eq (g' := upd g (120 + 10 * u + f) v) (upd_off (j := 0) (by omega)), vN_eq (g' := upd g (120 + 10 * u + f) v) (upd_off (j := 2) (by omega)), z0, hO 1 (by omega), hO 2 (by omega), hO 4 (by omega)]
    rcases hf with ⟨rfl, hv⟩ | ⟨rfl, hv⟩ | ⟨rfl, hv⟩ | ⟨rfl | rfl | rfl, hv⟩
    · rw [hS, hO 5 (by omega), hO 6 (by omega), hO 7 (by omega), hO 8 (by omega), hO 9 (by omega)]; exact ⟨w0, w1, w2, hv, w4, w5, w6, w7, w8, w9⟩
    · rw [hS, hO 3 (by omega), hO 6 (by omega), hO 7 (by omega), hO 8 (by omega), hO 9 (by omega)]; exact ⟨w0, w1, w2, w3, w4, hv, w6, w7, w8, w9⟩
    · rw [hS, hO 3 (by omega), hO 5 (by omega), hO 7 (by omega), hO 8 (by omega), hO 9 (by omega)]; exact ⟨w0, w1, w2, w3, w4, w5, hv, w7, w8, w9⟩
    · rw [hS, hO 3 (by omega), hO 5 (by omega), hO 6 (by omega), hO 8 (by omega), hO 9 (by omega)]; exact ⟨w0, w1, w2, w3, w4, w5, w6, hv, w8, w9⟩
    · rw [hS, hO 3 (by omega), hO 5 (by omega), hO 6 (by omega), hO 7 (by omega), hO 9 (by omega)]; exact ⟨w0, w1, w2, w3, w4, w5, w6, w7, hv, w9⟩
    · rw [hS, hO 3 (by omega), hO 5 (by omega), hO 6 (by omega), hO 7 (by omega), hO 8 (by omega)]; exact ⟨w0, w1, w2, w3, w4, w5, w6, w7, w8, hv⟩
  · exact workOK_off (upd_off (by omega)) (upd_off (by omega)) (fun j hj => upd_off (by omega)) hW
theorem InvT_upd (hT : InvT g) {i : Nat} {v : Int32} (h3 : i ≠ 3) (h : i < 2520) : InvT (upd g i v) := InvT_off (upd_off (fun e => h3 e.symm)) (fun j hj => upd_off (by omega)) hT
theorem InvB_coin (hB : InvB g) {i : Nat} {v : Int32} (h : i = 9 ∨ i = 10) : InvB (upd g i v) :=
  InvB_W hB (fun j h1 h2 _ => upd_off (by omega)) (fun w hw => workOK_off (upd_off (by omega)) (upd_off (by omega)) (fun j hj => upd_off (by omega)) (ivW hB hw)) (fun w hw => upd_off (by omega))
theorem cutF_in (s w : Int32) : cutF s w = nI 0 ∨ cutF s w = nI 1 ∨ cutF s w = nI 2 ∨ cutF s w = nI 3 := by
  unfold cutF
  split
  · exact Or.inl rfl
  · generalize ix s = n
    match n with
    | 0 => exact Or.inr (Or.inl rfl)
    | 1 => exact Or.inr (Or.inr (Or.inr rfl))
    | 2 => exact Or.inr (Or.inr (Or.inl rfl))
    | 3 => exact Or.inr (Or.inr (Or.inr rfl))
    | n + 4 => exact Or.inl rfl
theorem rateF_in (k s w : Int32) : ∃ r, r ≤ 4 ∧ rateF k s w = nI r := by
  have hc := cutF_in s w
  unfold rateF
  split
  · rcases hc with h | h | h | h <;> rw [h]
    · exact ⟨0, by omega, rfl⟩
    · exact ⟨1, by omega, rfl⟩
    · exact ⟨2, by omega, rfl⟩
    · exact ⟨3, by omega, rfl⟩
  split
  · split
    · exact ⟨2, by omega, rfl⟩
    · exact ⟨1, by omega, rfl⟩
  split
  · rcases hc with h | h | h | h <;> rw [h]
    · exact ⟨0, by omega, by decide⟩
    · exact ⟨1, by omega, by decide⟩
    · exact ⟨1, by omega, by decide⟩
    · exact ⟨2, by omega, by decide⟩
  split
  · split
    · exact ⟨1, by omega, rfl⟩
    · exact ⟨0, by omega, rfl⟩
  split
  · rcases hc with h | h | h | h <;> rw [h]
    · exact ⟨1, by omega, by decide⟩
    · exact ⟨2, by omega, by decide⟩
    · exact ⟨3, by omega, by decide⟩
    · exact ⟨4, by omega, by decide⟩
  split
  · exact ⟨4, by omega, rfl⟩
  · exact ⟨2, by omega, rfl⟩
theorem minI_rg {x y : Int32} {a b : Nat} (hx : x = nI a) (hy : y = nI b) (ha : a < 2147483648) (hb : b < 2147483648) : minI x y = nI (min a b) := by
  subst hx; subst hy
  unfold minI
  rw [nI_toInt ha, nI_toInt hb]
  split
  · rw [Nat.min_eq_left (by omega)]
  · rw [Nat.min_eq_right (by omega)]
theorem gang_on (hB : InvB g) {k : Nat} (hk : k < vN g 2) (h : ¬ (g (360 + 2 * k + 1)).toInt < 0) : vN g (360 + 2 * k + 1) < vN g 1 := by
  obtain ⟨a, b⟩ := (ivG hB hk).2
  unfold vN at *; omega
theorem gLab_inv (hB : InvB g) {k : Nat} (hk : k < vN g 2) : InvB (gLab g k) := by
  unfold gLab
  split
  · exact hB
  · rename_i hneg
    split
    · have hw := gang_on hB hk hneg
      generalize vN g (360 + 2 * k + 1) = w at hw
      obtain ⟨_, _, y, dn, _⟩ := ivW hB hw
      have ey := rg_nI y (by omega) (by omega)
      have ly := rg_le y (by omega)
      have ed := rg_nI dn (by omega) (by have := y.2; omega)
      have ld := rg_le dn (by omega)
      have yI : (g (120 + 10 * w + 2)).toInt = (vN g (120 + 10 * w + 2) : Int) := by unfold vN; have := y.1; omega
      rw [yI] at ld
      have hh := (ivG hB hk).1
      have eh := rg_nI hh (by omega) (by omega)
      have lh := rg_le hh (by omega)
      obtain ⟨r, hr, er⟩ := rateF_in (g (120 + 10 * w)) (gStr g w) (gWet g (vN g 8))
      have er' : gRate g w (gWet g (vN g 8)) = nI r := er
      have hmul : vN g (360 + 2 * k) * r ≤ 99 * 4 := Nat.mul_le_mul (by omega) hr
      refine InvB_cell hB hw (Or.inl ⟨rfl, ?_⟩)
      rw [er', eh, pk_mul, pk_div (by omega) (by omega) (by omega), ed, nI_add, minI_rg ey rfl (by omega) (by omega)]
      refine ⟨?_, ?_⟩
      · rw [nI_toInt (by omega)]; omega
      · rw [nI_toInt (by omega), yI]; omega
    · exact hB
theorem gLab_off (k : Nat) {i : Nat} (hi : i < 120 ∨ 360 ≤ i) (hB : InvB g) (hk : k < vN g 2) : gLab g k i = g i := by
  unfold gLab
  split
  · rfl
  · rename_i hneg
    have hw := gang_on hB hk hneg
    have := (iv1 hB).2
    split
    · exact upd_off (by omega)
    · rfl
end
