/-! ===== what holds goes on holding: slips, pay, days ===== -/
section
variable {g g' : Nat → Int32}
theorem gNew_off {k c y : Int32} {i : Nat} (h1 : i ≠ 1) (h : i < 120 + 10 * vN g 1 ∨ 130 + 10 * vN g 1 ≤ i) : gNew g k c y i = g i := by
  unfold gNew
  rw [if_neg (by omega), if_neg h1]
theorem gNew_1 (k c y : Int32) : gNew g k c y 1 = nI (vN g 1 + 1) := by
  unfold gNew
  rw [if_neg (by omega), if_pos rfl]
theorem gNew_at {k c y : Int32} {f : Nat} (hf : f < 10) : gNew g k c y (120 + 10 * vN g 1 + f) = if f = 0 then k else if f = 1 then c else if f = 2 then y else if f = 4 then -1 else if f = 6 then nI 1 else nI 0 := by
  unfold gNew
  rw [if_pos (by omega)]
  by_cases h0 : f = 0
  · rw [if_pos (by omega), if_pos h0]
  rw [if_neg (by omega), if_neg h0]
  by_cases h1 : f = 1
  · rw [if_pos (by omega), if_pos h1]
  rw [if_neg (by omega), if_neg h1]
  by_cases h2 : f = 2
  · rw [if_pos (by omega), if_pos h2]
  rw [if_neg (by omega), if_neg h2]
  by_cases h4 : f = 4
  · rw [if_pos (by omega), if_pos h4]
  rw [if_neg (by omega), if_neg h4]
  by_cases h6 : f = 6
  · rw [if_pos (by omega), if_pos h6]
  rw [if_neg (by omega), if_neg h6]
theorem rg_m1 (hi : Int) (h : -1 ≤ hi) : rg (-1 : Int32) (-1) hi := by
  have e : (-1 : Int32).toInt = -1 := by decide
  unfold rg
  omega
theorem rg_n {k : Nat} {lo hi : Int} (h1 : lo ≤ k) (h2 : (k : Int) ≤ hi) (h3 : k < 2147483648) : rg (nI k) lo hi := by
  unfold rg; rw [nI_toInt h3]; exact ⟨h1, h2⟩
theorem nI_m1 {k : Nat} (h : k < 2147483648) : (-1 : Int32) ≠ nI k := by
  intro e
  have := congrArg Int32.toInt e
  rw [nI_toInt h] at this
  have e2 : (-1 : Int32).toInt = -1 := by decide
  omega
theorem gNew_inv (hB : InvB g) {k c y : Int32} (hk : rg k 0 6) (hc : rg c 0 ((vN g 0 : Int) - 1)) (hy : rg y 1 9999) (h24 : vN g 1 < 24) : InvB (gNew g k c y) := by
  have hB0 := hB
  obtain ⟨⟨a0, a1, a2, a3, a4, a5, a6, a7, a8⟩, b, cc, d, e, f, kk, l, m, n, o⟩ := hB
  have h : ∀ i, i ≠ 1 → (i < 120 + 10 * vN g 1 ∨ 360 ≤ i) → gNew g k c y i = g i := fun i h1 h2 => gNew_off h1 (by omega)
  have m0 := rg_le a0 (by omega)
  have m2 := rg_le a2 (by omega)
  have e0 := h 0 (by omega) (by omega)
  have e1 : vN (gNew g k c y) 1 = vN g 1 + 1 := vN_nI (gNew_1 k c y) (by omega)
  have e2 := h 2 (by omega) (by omega)
  unfold InvB
  rw [vN_eq e0, e1, vN_eq e2, vN_eq (h 4 (by omega) (by omega)), vN_eq (h 5 (by omega) (by omega)), vN_eq (h 6 (by omega) (by omega)), vN_eq (h 7 (by omega) (by omega)), e0, gNew_1, e2, h 3 (by omega) (by omega), h 4 (by omega) (by omega), h 5 (by omega) (by omega), h 6 (by omega) (by omega), h 7 (by omega) (by omega), h 8 (by omega) (by omega)]
  refine ⟨⟨a0, rg_n (by omega) (by omega) (by omega), a2, a3, a4, a5, a6, a7, a8⟩, ?_, ?_, ?_, ?_, ?_, ?_, ?_, ?_, ?_, ?_⟩
  · intro j hj; rw [h _ (by omega) (by omega)]; exact b j hj
  · intro j hj
    obtain ⟨q1, q2, q3, q4⟩ := cc j hj
    exact ⟨by rw [h _ (by omega) (by omega)]; exact q1, by rw [h _ (by omega) (by omega)]; exact q2, by rw [h _ (by omega) (by omega)]; exact q3, by rw [h _ (by omega) (by omega)]; exact q4⟩
  · intro w hw
    by_cases hwn : w = vN g 1
    · subst hwn
      have z0 := gNew_at (g := g) (k := k) (c := c) (y := y) (f := 0) (by omega)
      rw [Nat.add_zero] at z0
      unfold workOK
      rw [vN_eq e0, vN_eq e2, z0, gNew_at (f := 1) (by omega), gNew_at (f := 2) (by omega), gNew_at (f := 3) (by omega), gNew_at (f := 4) (by omega), gNew_at (f := 5) (by omega), gNew_at (f := 6) (by omega), gNew_at (f := 7) (by omega), gNew_at (f := 8) (by omega), gNew_at (f := 9) (by omega)]
      have hy2 := hy
      obtain ⟨y1, y2⟩ := hy2
      refine ⟨hk, hc, hy, ?_, rg_m1 _ (by omega), rg_n (k := 0) (by omega) (by omega) (by omega), rg_n (k := 1) (by omega) (by omega) (by omega), rg_n (k := 0) (by omega) (by omega) (by omega), rg_n (k := 0) (by omega) (by omega) (by omega), rg_n (k := 0) (by omega) (by omega) (by omega)⟩
      refine rg_n (k := 0) (by omega) ?_ (by omega)
      show ((0 : Nat) : Int) ≤ y.toInt
      omega
    · exact workOK_off e0 e2 (fun j hj => h _ (by omega) (by omega)) (d w (by omega))
  · intro j hj
    obtain ⟨p, q, r⟩ := e j hj
    rw [h _ (by omega) (by omega), h _ (by omega) (by omega)]
    exact ⟨p, q, by omega⟩
  · intro w j hw hj
    rw [h (360 + 2 * j + 1) (by omega) (by omega)]
    by_cases hwn : w = vN g 1
    · subst hwn
      rw [gNew_at (f := 4) (by omega)]
      obtain ⟨p, q, r⟩ := e j hj
      constructor
      · intro hh; rw [hh, nI_toInt (by omega)] at r; omega
      · intro hh; exact absurd hh (nI_m1 (by omega))
    · rw [h (120 + 10 * w + 4) (by omega) (by omega)]
      exact f w j (by omega) hj
  · intro j hj; rw [h _ (by omega) (by omega), h _ (by omega) (by omega), h _ (by omega) (by omega)]; exact kk j hj
  · intro j hj; rw [h _ (by omega) (by omega)]; exact l j hj
  · intro j hj; rw [h _ (by omega) (by omega), h _ (by omega) (by omega)]; exact m j hj
  · intro j hj; rw [h _ (by omega) (by omega)]; exact n j hj
  · intro j hj; rw [h _ (by omega) (by omega)]; exact o j hj
theorem gSlip_inv (hB : InvB g) {c : Nat} (hc : c < vN g 0) : InvB (gSlip g c) := by
  unfold gSlip
  split
  · rename_i h
    obtain ⟨-, -, hs, h24⟩ := h
    have h0 := iv0 hB
    refine gNew_inv hB (rg_n (by omega) (by omega) (by omega)) (rg_n (by omega) (by omega) (by omega)) ?_ h24
    unfold gSlips at hs
    rw [Bool.and_eq_true, decide_eq_true_eq] at hs
    obtain ⟨p, q, -⟩ := ivC hB hc
    have e1 := rg_nI p (by omega) (by omega)
    have e2 := rg_nI q (by omega) (by omega)
    have l1 := rg_le p (by omega)
    have l2 := rg_le q (by omega)
    have e2' : g (21 + 4 * c) = nI (vN g (20 + 4 * c + 1)) := by rw [← e2]; exact congrArg g (by omega)
    have hst : 0 ≤ (standsF (vN g (20 + 4 * c + 2))).toInt := by
      unfold standsF
      generalize vN g (20 + 4 * c + 2) = n
      match n with
      | 0 => decide
      | 1 => decide
      | 2 => decide
      | 3 => decide
      | n + 4 => exact (by decide : (0 : Int) ≤ (nI 0).toInt)
    have h1 := Int32.lt_iff_toInt_lt.mp hs.1
    have hd : (g (20 + 4 * c) - g (21 + 4 * c)).toInt = (vN g (20 + 4 * c) : Int) - (vN g (20 + 4 * c + 1) : Int) := by
      rw [e1, e2', pk_sub_toInt (by omega) (by omega)]
    rw [hd] at h1
    unfold rg
    rw [hd]
    omega
  · exact hB
theorem gSlip_off {c : Nat} {i : Nat} (h1 : i ≠ 1) (hi : i < 120 ∨ 360 ≤ i) : gSlip g c i = g i := by
  unfold gSlip
  split
  · rename_i h; exact gNew_off h1 (by omega)
  · rfl
theorem gJoin_rg (hB : InvB g) {w : Nat} (hw : w < vN g 1) : rg (gJoin g w) 0 9999 := by
  obtain ⟨_, _, y, dn, _, _, _, p, q, _⟩ := ivW hB hw
  have ly := y.2
  have ed := rg_nI dn (by omega) (by omega)
  have ep := rg_nI p (by omega) (by omega)
  have eq := rg_nI q (by omega) (by omega)
  have ld := rg_le dn (by omega)
  have lp := rg_le p (by omega)
  have lq := rg_le q (by omega)
  unfold gJoin
  rw [minI_rg ed (minI_rg ep eq (by omega) (by omega)) (by omega) (by omega)]
  exact rg_n (by omega) (by omega) (by omega)
theorem gPay_inv (hB : InvB g) {w : Nat} (hw : w < vN g 1) : InvB (gPay g w) := by
  unfold gPay
  split
  · exact hB
  · refine InvB_cell (InvB_coin (InvB_coin hB (Or.inl rfl)) (Or.inr rfl)) ?_ (Or.inr (Or.inr (Or.inr ⟨Or.inr (Or.inr rfl), ?_⟩)))
    · rw [vN_eq (g := g) (i := 1)]
      · exact hw
      · rw [upd_off (by omega), upd_off (by omega)]
    · have e : ∀ a b : Int32, a + (b - a) = b := by
        intro a b
        rw [Int32.add_comm, Int32.sub_add_cancel]
      rw [e]
      exact gJoin_rg hB hw
theorem gPay_off {w : Nat} {i : Nat} (h9 : i ≠ 9) (h10 : i ≠ 10) (hi : i < 120 ∨ 360 ≤ i) (hw : w < 24) : gPay g w i = g i := by
  unfold gPay
  split
  · rfl
  · rw [upd_off (by omega), upd_off h10, upd_off h9]
end
