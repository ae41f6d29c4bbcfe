/-! ===== places within a slope at least cost ===== -/
def iZ (z : Int) : Int32 := Int32.ofInt z
theorem iZ_i {z : Int} (h1 : -2147483648 ≤ z) (h2 : z < 2147483648) : (iZ z).toInt = z := Int32.toInt_ofInt_of_le h1 h2
theorem iZ_add (a b : Int) : iZ a + iZ b = iZ (a + b) := (Int32.ofInt_add a b).symm
theorem iZ_n (k : Nat) : iZ (k : Int) = nI k := rfl
/-- nearest to the best within reach -/
def cl (fb sl p : Nat) : Nat := if p + sl ≤ fb then p + sl else if fb + sl ≤ p then p - sl else fb
/-- the first least of the first p -/
def fbF (f : Nat → Int) : Nat → Nat
  | 0 => 0
  | p + 1 => if f p < f (fbF f p) then p else fbF f p
theorem fbF_lt (f : Nat → Int) : ∀ p, fbF f (p + 1) < p + 1
  | 0 => by unfold fbF; split <;> (first | omega | (show 0 < 1; omega))
  | p + 1 => by
    have := fbF_lt f p
    rw [fbF]
    split <;> omega
theorem fbF_min (f : Nat → Int) : ∀ p q, q < p → f (fbF f p) ≤ f q ∧ (q < fbF f p → f (fbF f p) < f q)
  | 0, q, h => absurd h (by omega)
  | p + 1, q, h => by
    by_cases hq : q = p
    · subst hq
      by_cases hc : f q < f (fbF f q)
      · rw [fbF, if_pos hc]; exact ⟨Int.le_refl _, fun h => absurd h (by omega)⟩
      · rw [fbF, if_neg hc]
        refine ⟨by omega, fun h => ?_⟩
        cases q with
        | zero => exact absurd h (by show ¬ 0 < 0; omega)
        | succ q => have := fbF_lt f q; omega
    · have ih := fbF_min f p q (by omega)
      by_cases hc : f p < f (fbF f p)
      · rw [fbF, if_pos hc]; exact ⟨by omega, fun _ => by omega⟩
      · rw [fbF, if_neg hc]; exact ih
theorem cl_lt {fb sl p P : Nat} (h1 : fb < P) (h2 : p < P) : cl fb sl p < P := by unfold cl; split; omega; split <;> omega
def dpF (C : Nat → Nat → Int) (P sl n : Nat) : Nat → Nat → Int
  | 0, p => C (n - 1) p
  | i + 1, p => C (n - 1 - (i + 1)) p + dpF C P sl n i (cl (fbF (dpF C P sl n i) P) sl p)
theorem fb_lt {f : Nat → Int} {P : Nat} (hP : 1 ≤ P) : fbF f P < P := by
  obtain ⟨k, rfl⟩ : ∃ k, P = k + 1 := ⟨P - 1, by omega⟩
  exact fbF_lt f k
theorem dpF_b {C : Nat → Nat → Int} {P sl n : Nat} (hP : 1 ≤ P) (hC : ∀ c p, c < n → p < P → -20000 ≤ C c p ∧ C c p ≤ 20000) : ∀ i p, i < n → p < P → -20000 * ((i : Int) + 1) ≤ dpF C P sl n i p ∧ dpF C P sl n i p ≤ 20000 * ((i : Int) + 1)
  | 0, p, hi, hp => by have := hC (n - 1) p (by omega) hp; unfold dpF; omega
  | i + 1, p, hi, hp => by
    have h1 := hC (n - 1 - (i + 1)) p (by omega) hp
    have h2 := dpF_b (sl := sl) hP hC i (cl (fbF (dpF C P sl n i) P) sl p) (by omega) (cl_lt (fb_lt hP) hp)
    unfold dpF
    omega
/-- what a chain costs at a place: of the haul, or of the levels -/
def costZ (g : Nat → Int32) (h : Bool) (c p : Nat) : Int := if h = true then gDep g c * ((p : Int) - (vN g 15 : Int)) else (cst g c p : Int)
theorem rule_n {g : Nat → Int32} (hB : InvB g) {k : Nat} (hk : k < 6) : g (11 + k) = nI (vN g (11 + k)) ∧ (vN g (11 + k) : Int) ≤ mostOf k := by
  have hr := ivR hB hk
  have hm : mostOf k ≤ 1999 := by unfold mostOf; split; omega; split <;> omega
  exact ⟨rg_nI hr (by omega) (by omega), (rg_le hr (by omega)).2⟩
theorem costZ_b {g : Nat → Int32} (hB : InvB g) {h : Bool} {c p : Nat} (hc : c < vN g 0) (hp : p < 199) : -20000 ≤ costZ g h c p ∧ costZ g h c p ≤ 20000 := by
  obtain ⟨q1, q2, -, -⟩ := ivC hB hc
  have l1 := rg_le q1 (by omega)
  have l2 := rg_le q2 (by omega)
  unfold costZ
  split
  · have l3 := (rule_n hB (k := 4) (by omega)).2
    have e3 : mostOf 4 = 99 := by decide
    rw [e3] at l3
    have a1 : -99 ≤ gDep g c ∧ gDep g c ≤ 99 := by unfold gDep; omega
    have l3' : (vN g 15 : Int) ≤ 99 := l3
    have a2 : -99 ≤ (p : Int) - (vN g 15 : Int) ∧ (p : Int) - (vN g 15 : Int) ≤ 198 := by omega
    generalize gDep g c = x at a1
    generalize (p : Int) - (vN g 15 : Int) = y at a2
    have h1 : (99 + x) * (198 + y) ≥ 0 := Int.mul_nonneg (by omega) (by omega)
    have h2 : (99 - x) * (198 - y) ≥ 0 := Int.mul_nonneg (by omega) (by omega)
    have h3 : (99 - x) * (198 + y) ≥ 0 := Int.mul_nonneg (by omega) (by omega)
    have h4 : (99 + x) * (198 - y) ≥ 0 := Int.mul_nonneg (by omega) (by omega)
    rw [Int.add_mul, Int.mul_add, Int.mul_add] at h1
    rw [Int.sub_mul, Int.mul_sub, Int.mul_sub] at h2
    rw [Int.sub_mul, Int.mul_add, Int.mul_add] at h3
    rw [Int.add_mul, Int.mul_sub, Int.mul_sub] at h4
    omega
  · have l3 := (rule_n hB (k := 1) (by omega)).2
    have l4 := (rule_n hB (k := 2) (by omega)).2
    rw [show mostOf 1 = 9 by decide] at l3
    rw [show mostOf 2 = 9 by decide] at l4
    have l3' : vN g 12 ≤ 9 := by have : (vN g 12 : Int) ≤ 9 := l3; omega
    have l4' : vN g 13 ≤ 9 := by have : (vN g 13 : Int) ≤ 9 := l4; omega
    have : cst g c p ≤ 9 * 199 := by
      unfold cst
      split
      · exact Nat.mul_le_mul l3' (by omega)
      · exact Nat.mul_le_mul l4' (by omega)
    omega
section
variable {l : Launch} {G : zG} {Z Z' : zS} {I I' : zI} {g g' : Nat → Int32} {mk mk2 m b : Nat} {Q : Option Value → zS → zI → Prop}
theorem c_X1_levelCostAt (hM : ShM Z mk) (hG : cmG I mk g) (hB : InvB g) {c p : Nat} (hc : c < vN g 0) (hp : p < 199) (hq : Q (some (.int (iZ (costZ g false c p)))) Z I) : zM l G mX1_levelCostAt 0 0 0 [.ref (mk + 1), .int (nI c), .int (nI p)] Z I Q := by
  refine x_entry [some (.ref (mk + 1)), some (.int (nI c)), some (.int (nI p)), none] 1 rfl rfl (Nat.le_of_ble_eq_true rfl) ?_
  have h24 := (iv0 hB).2.2
  obtain ⟨q1, -, -, -⟩ := ivC hB hc
  have e1 := rg_nI q1 (by omega) (by omega)
  have l1 := rg_le q1 (by omega)
  have e12 := (rule_n hB (k := 1) (by omega)).1
  have e13 := (rule_n hB (k := 2) (by omega)).1
  have hsub : (nI (vN g (20 + 4 * c)) - nI p).toInt = (vN g (20 + 4 * c) : Int) - p := pk_sub_toInt (by omega) (by omega)
  unfold costZ at hq
  rw [if_neg (by decide), iZ_n] at hq
  unfold cst at hq
  refine x_ald0 (n := 1) dX1_levelCostAt_0 rfl ?_
  refine x_getR (n := 4) flX1_9 rfl dX1_levelCostAt_1 rfl (mK_Gr hM) (mP_surface hM) ?_
  refine x_ild1 (n := 5) dX1_levelCostAt_4 rfl ?_
  refine x_ialdN (n := 6) dX1_levelCostAt_5 rfl (mA_surface hM) (Nat.le_of_ble_eq_true rfl) (by omega) ?_
  rw [cG2 hG hc, e1]
  refine x_ild2 (n := 7) dX1_levelCostAt_6 rfl ?_
  refine x_isub (n := 8) dX1_levelCostAt_7 rfl ?_
  refine x_ist3 (n := 9) dX1_levelCostAt_8 rfl (by decide) rfl ?_
  refine x_ild3 (n := 10) dX1_levelCostAt_9 rfl ?_
  refine x_if_le (n := 13) (tgt := 24) dX1_levelCostAt_10 rfl (by decide) (fun c_10 => ?_) (fun c_10 => ?_)
  · refine x_ald0 (n := 25) dX1_levelCostAt_24 rfl ?_
    refine x_getR (n := 28) flX1_19 rfl dX1_levelCostAt_25 rfl (mK_Gr hM) (mP_ruleRow hM) ?_
    refine x_ic2 (n := 29) dX1_levelCostAt_28 rfl ?_
    refine x_ialdN (n := 30) dX1_levelCostAt_29 rfl (mA_ruleRow hM) (Nat.le_of_ble_eq_true rfl) (by omega) ?_
    rw [show I (mk + 5) 2 = g 13 from cG5 hG (k := 2) (by omega), show g 13 = nI (vN g 13) from e13]
    refine x_ild3 (n := 31) dX1_levelCostAt_30 rfl ?_
    refine x_ineg (n := 32) dX1_levelCostAt_31 rfl ?_
    rw [zle, hsub, Int32.toInt_zero] at c_10
    rw [show -(nI (vN g (20 + 4 * c)) - nI p) = nI (p - vN g (20 + 4 * c)) by rw [Int32.neg_sub, pk_sub (by omega)]]
    refine x_imulN (n := 33) dX1_levelCostAt_32 rfl ?_
    refine r_iret dX1_levelCostAt_33 rfl ?_
    first | (rw [if_pos (by omega)] at hq; exact hq) | (rw [if_neg (by omega)] at hq; exact hq)
  · refine x_ald0 (n := 14) dX1_levelCostAt_13 rfl ?_
    refine x_getR (n := 17) flX1_19 rfl dX1_levelCostAt_14 rfl (mK_Gr hM) (mP_ruleRow hM) ?_
    refine x_ic1 (n := 18) dX1_levelCostAt_17 rfl ?_
    refine x_ialdN (n := 19) dX1_levelCostAt_18 rfl (mA_ruleRow hM) (Nat.le_of_ble_eq_true rfl) (by omega) ?_
    rw [show I (mk + 5) 1 = g 12 from cG5 hG (k := 1) (by omega), show g 12 = nI (vN g 12) from e12]
    refine x_ild3 (n := 20) dX1_levelCostAt_19 rfl ?_
    rw [zle, hsub, Int32.toInt_zero] at c_10
    rw [pk_sub (by omega)]
    refine x_imulN (n := 21) dX1_levelCostAt_20 rfl ?_
    refine x_goto (n := 33) dX1_levelCostAt_21 (by decide) ?_
    refine r_iret dX1_levelCostAt_33 rfl ?_
    first | (rw [if_pos (by omega)] at hq; exact hq) | (rw [if_neg (by omega)] at hq; exact hq)
theorem c_X1_haulCostAt (hM : ShM Z mk) (hG : cmG I mk g) (hB : InvB g) {c p : Nat} (hc : c < vN g 0) (hp : p < 199) (hq : Q (some (.int (iZ (costZ g true c p)))) Z I) : zM l G mX1_haulCostAt 2 0 0 [.ref (mk + 1), .int (nI c), .int (nI p)] Z I Q := by
  refine x_entry [some (.ref (mk + 1)), some (.int (nI c)), some (.int (nI p))] 0 rfl rfl (Nat.le_of_ble_eq_true rfl) ?_
  have h24 := (iv0 hB).2.2
  obtain ⟨q1, q2, -, -⟩ := ivC hB hc
  have e1 := rg_nI q1 (by omega) (by omega)
  have e2 := rg_nI q2 (by omega) (by omega)
  have l1 := rg_le q1 (by omega)
  have l2 := rg_le q2 (by omega)
  have e15 := (rule_n hB (k := 4) (by omega)).1
  unfold costZ at hq
  rw [if_pos rfl] at hq
  have hgd : g (20 + 4 * c) - g (21 + 4 * c) = iZ (gDep g c) := by
    rw [e1, show 21 + 4 * c = 20 + 4 * c + 1 by omega, e2]
    apply Int32.toInt_inj.mp
    rw [pk_sub_toInt (by omega) (by omega), iZ_i (by unfold gDep; omega) (by unfold gDep; omega)]
    rfl
  have hsp : nI p - nI (vN g 15) = iZ ((p : Int) - (vN g 15 : Int)) := by
    rw [← iZ_n, ← iZ_n]
    exact (Int32.ofInt_sub _ _).symm
  have hmul : ∀ a c : Int, iZ a * iZ c = iZ (a * c) := fun a c => (Int32.ofInt_mul a c).symm
  refine x_ald0 (n := 1) dX1_haulCostAt_0 rfl ?_
  refine x_ild1 (n := 2) dX1_haulCostAt_1 rfl ?_
  refine x_cV1 (n := 5) (d' := 1) zcX1_depthOf mlX1_61 dX1_haulCostAt_2 rfl (mK_Gr hM) (Nat.le_of_ble_eq_true rfl) (Nat.le_of_ble_eq_true rfl) ?_
  refine c_X1_depthOf hM hG hB hc ?_
  refine x_some ?_
  refine x_ild2 (n := 6) dX1_haulCostAt_5 rfl ?_
  refine x_ald0 (n := 7) dX1_haulCostAt_6 rfl ?_
  refine x_getR (n := 10) flX1_19 rfl dX1_haulCostAt_7 rfl (mK_Gr hM) (mP_ruleRow hM) ?_
  refine x_ic4 (n := 11) dX1_haulCostAt_10 rfl ?_
  refine x_ialdN (n := 12) dX1_haulCostAt_11 rfl (mA_ruleRow hM) (Nat.le_of_ble_eq_true rfl) (by omega) ?_
  rw [show I (mk + 5) 4 = g 15 from cG5 hG (k := 4) (by omega), show g 15 = nI (vN g 15) from e15]
  refine x_isub (n := 13) dX1_haulCostAt_12 rfl ?_
  refine x_imul (n := 14) dX1_haulCostAt_13 rfl ?_
  refine r_iret dX1_haulCostAt_14 rfl ?_
  rw [hgd, hsp, hmul]; exact hq
/-- the rows that the search writes -/
def off789 (mk : Nat) (I I' : zI) : Prop := ∀ a, a ≠ mk + 7 → a ≠ mk + 8 → a ≠ mk + 9 → I' a = I a
theorem G789 (hG : cmG I mk g) (h : off789 mk I I') : cmG I' mk g := cmG_of hG (fun x x1 x2 => h x (by omega) (by omega) (by omega)) (fun _ _ => rfl)
theorem CM789 (hC : CM Z I mk g) (hm : mk < 200) (h : off789 mk I I') : CM Z I' mk g := CM_of hC (fun a ha => h a (fun e => ha (by subst e; unfold cmOff; omega)) (fun e => ha (by subst e; unfold cmOff; omega)) (fun e => ha (by subst e; unfold cmOff; omega))) hm
theorem cl_F {fb sl p : Nat} (h1 : fb < 1000) (h2 : sl < 1000) (h3 : p < 1000) : clF (nI fb) (nI p - nI sl) (nI (p + sl)) = nI (cl fb sl p) := by
  apply Int32.toInt_inj.mp
  have hcl : cl fb sl p < 3000 := by unfold cl; split; omega; split <;> omega
  rw [clF_i, pk_sub_toInt (by omega) (by omega), nI_toInt (by omega), nI_toInt (by omega), nI_toInt (by omega)]
  unfold cl
  split
  · omega
  · split <;> omega
/-- the inner loop: places up to p told -/
theorem l1_X1_leastCost (hM : ShM Z mk) (hG : cmG I mk g) (hB : InvB g) {P sl r : Nat} {h : Bool} (hP1 : 1 ≤ P) (hP : P ≤ 199) (hsl : sl ≤ 99) (hr : r < vN g 0) {I0 : zI} (h0 : off789 mk I I0)
    (hbh : r + 1 < vN g 0 → (∀ j, j < P → I0 (mk + 8) j = iZ (dpF (costZ g h) P sl (vN g 0) (vN g 0 - 1 - (r + 1)) j)) ∧ I0 (mk + 9) (r + 1) = nI (fbF (dpF (costZ g h) P sl (vN g 0) (vN g 0 - 1 - (r + 1))) P))
    (kk : ∀ I1, (∀ a, a ≠ mk + 7 → I1 a = I0 a) → (∀ j, j < P → I1 (mk + 7) j = iZ (dpF (costZ g h) P sl (vN g 0) (vN g 0 - 1 - r) j)) → zX l G mX1_leastCost 3 0 0 163 [some (.ref (mk + 1)), some (.int (nI P)), some (.int (nI sl)), some (.int (zb h)), some (.int (nI r)), some (.int (nI (fbF (dpF (costZ g h) P sl (vN g 0) (vN g 0 - 1 - r)) P))), none, none] [] Z I1 Q) :
    ∀ m p I1, (∀ a, a ≠ mk + 7 → I1 a = I0 a) → (∀ j, j < p → I1 (mk + 7) j = iZ (dpF (costZ g h) P sl (vN g 0) (vN g 0 - 1 - r) j)) → p ≤ P → P - p < m → zX l G mX1_leastCost 3 0 0 35 [some (.ref (mk + 1)), some (.int (nI P)), some (.int (nI sl)), some (.int (zb h)), some (.int (nI r)), some (.int (nI (fbF (dpF (costZ g h) P sl (vN g 0) (vN g 0 - 1 - r)) p))), some (.int (nI p)), none] [] Z I1 Q := by
  have h24 := (iv0 hB).2
  have hv0 := vG0 hG hB
  have hbnd : ∀ i j, i < vN g 0 → j < P → -500000 ≤ dpF (costZ g h) P sl (vN g 0) i j ∧ dpF (costZ g h) P sl (vN g 0) i j ≤ 500000 := by
    intro i j hi hj
    have := dpF_b (C := costZ g h) (sl := sl) (n := vN g 0) hP1 (fun c p hc hp => costZ_b hB hc (by omega)) i j hi hj
    omega
  intro m
  induction m with
  | zero => intro p I1 _ _ _ hh; exact absurd hh (by omega)
  | succ m ih =>
    intro p I1 hO hlt hp hmm
    by_cases hpP : p = P
    · have hend := kk I1 hO (fun j hj => hlt j (by omega))
      rw [← hpP] at hend
      refine x_ild6 (n := 37) dX1_leastCost_35 rfl ?_
      refine x_ild1 (n := 38) dX1_leastCost_37 rfl ?_
      refine x_icmpN_ge (n := 41) (tgt := 163) dX1_leastCost_38 rfl (by decide) (by omega) (by omega) (fun c_38 => ?_) (fun c_38 => ?_)
      · rw [hpP] at *
        exact x_fg6 hend
      · exact absurd hpP (by omega)
    · have hpl : p < P := by omega
      have hG1 : cmG I1 mk g := G789 hG (fun a a1 a2 a3 => by rw [hO a a1]; exact h0 a a1 a2 a3)
      have hv1 := vG0 hG1 hB
      have hfp : fbF (dpF (costZ g h) P sl (vN g 0) (vN g 0 - 1 - r)) p < P := by
        rcases Nat.eq_zero_or_pos p with e | e
        · subst e; show 0 < P; omega
        · have := fb_lt (f := dpF (costZ g h) P sl (vN g 0) (vN g 0 - 1 - r)) e; omega
      have hfp2 : fbF (dpF (costZ g h) P sl (vN g 0) (vN g 0 - 1 - r)) p ≤ p := by
        rcases Nat.eq_zero_or_pos p with e | e
        · subst e; exact Nat.le_refl _
        · have := fb_lt (f := dpF (costZ g h) P sl (vN g 0) (vN g 0 - 1 - r)) e; omega
      have hbp := hbnd (vN g 0 - 1 - r) p (by omega) hpl
      have hbf := hbnd (vN g 0 - 1 - r) _ (by omega) hfp
      have es : fbF (dpF (costZ g h) P sl (vN g 0) (vN g 0 - 1 - r)) (p + 1) = if dpF (costZ g h) P sl (vN g 0) (vN g 0 - 1 - r) p < dpF (costZ g h) P sl (vN g 0) (vN g 0 - 1 - r) (fbF (dpF (costZ g h) P sl (vN g 0) (vN g 0 - 1 - r)) p) then p else fbF (dpF (costZ g h) P sl (vN g 0) (vN g 0 - 1 - r)) p := rfl
      -- behind the sum of this place
      have cmp : ∀ I2 x7, (∀ a, a ≠ mk + 7 → I2 a = I0 a) → (∀ j, j < p + 1 → I2 (mk + 7) j = iZ (dpF (costZ g h) P sl (vN g 0) (vN g 0 - 1 - r) j)) → zX l G mX1_leastCost 3 0 0 136 [some (.ref (mk + 1)), some (.int (nI P)), some (.int (nI sl)), some (.int (zb h)), some (.int (nI r)), some (.int (nI (fbF (dpF (costZ g h) P sl (vN g 0) (vN g 0 - 1 - r)) p))), some (.int (nI p)), x7] [] Z I2 Q := by
        intro I2 x7 hO2 hlt2
        have hnx := ih (p + 1) I2 hO2 hlt2 (by omega) (by omega)
        rw [es] at hnx
        refine x_ald0 (n := 137) dX1_leastCost_136 rfl ?_
        refine x_getR (n := 140) flX1_25 rfl dX1_leastCost_137 rfl (mK_Gr hM) (mP_least hM) ?_
        refine x_ild6 (n := 142) dX1_leastCost_140 rfl ?_
        refine x_ialdN (n := 143) dX1_leastCost_142 rfl (mA_least hM) (Nat.le_of_ble_eq_true rfl) (by omega) ?_
        refine x_ald0 (n := 144) dX1_leastCost_143 rfl ?_
        refine x_getR (n := 147) flX1_25 rfl dX1_leastCost_144 rfl (mK_Gr hM) (mP_least hM) ?_
        refine x_ild5 (n := 149) dX1_leastCost_147 rfl ?_
        refine x_ialdN (n := 150) dX1_leastCost_149 rfl (mA_least hM) (Nat.le_of_ble_eq_true rfl) (by omega) ?_
        rw [hlt2 p (by omega), hlt2 _ (by omega)]
        refine x_icmp_ge (n := 153) (tgt := 157) dX1_leastCost_150 rfl (by decide) (fun c_150 => ?_) (fun c_150 => ?_)
        · refine x_iincN6 (n := 160) (k := 1) dX1_leastCost_157 rfl (by decide) rfl ?_
          refine x_goto (n := 35) dX1_leastCost_160 (by decide) ?_
          refine x_fg7 ?_
          rw [zle, iZ_i (by omega) (by omega), iZ_i (by omega) (by omega)] at c_150
          first | (rw [if_neg (by omega)] at hnx; exact hnx) | (rw [if_pos (by omega)] at hnx; exact hnx)
        · refine x_ild6 (n := 155) dX1_leastCost_153 rfl ?_
          refine x_ist5 (n := 157) dX1_leastCost_155 rfl (by decide) rfl ?_
          refine x_iincN6 (n := 160) (k := 1) dX1_leastCost_157 rfl (by decide) rfl ?_
          refine x_goto (n := 35) dX1_leastCost_160 (by decide) ?_
          refine x_fg7 ?_
          rw [zle, iZ_i (by omega) (by omega), iZ_i (by omega) (by omega)] at c_150
          first | (rw [if_neg (by omega)] at hnx; exact hnx) | (rw [if_pos (by omega)] at hnx; exact hnx)
      -- behind the cost of this chain alone
      have sumk : zX l G mX1_leastCost 3 0 0 78 [some (.ref (mk + 1)), some (.int (nI P)), some (.int (nI sl)), some (.int (zb h)), some (.int (nI r)), some (.int (nI (fbF (dpF (costZ g h) P sl (vN g 0) (vN g 0 - 1 - r)) p))), some (.int (nI p)), none] [.int (iZ (costZ g h r p)), .int (nI p), .ref (mk + 7)] Z I1 Q := by
        have hv2 : ∀ f, va_up I1 (mk + 7) f (mk + 1) 0 = nI (vN g 0) := fun f => by rw [va_up_off (by omega)]; exact hv1
        by_cases hrn : r + 1 < vN g 0
        · obtain ⟨hb1, hb2⟩ := hbh hrn
          have hfbl := fb_lt (f := dpF (costZ g h) P sl (vN g 0) (vN g 0 - 1 - (r + 1))) hP1
          have hcl := cl_lt (sl := sl) hfbl hpl
          have hdp : dpF (costZ g h) P sl (vN g 0) (vN g 0 - 1 - r) p = costZ g h r p + dpF (costZ g h) P sl (vN g 0) (vN g 0 - 1 - (r + 1)) (cl (fbF (dpF (costZ g h) P sl (vN g 0) (vN g 0 - 1 - (r + 1))) P) sl p) := by
            rw [show vN g 0 - 1 - r = vN g 0 - 1 - (r + 1) + 1 by omega]
            show costZ g h (vN g 0 - 1 - (vN g 0 - 1 - (r + 1) + 1)) p + _ = _
            rw [show vN g 0 - 1 - (vN g 0 - 1 - (r + 1) + 1) = r by omega]
          have hI9 : ∀ f, va_up I1 (mk + 7) f (mk + 9) (r + 1) = nI (fbF (dpF (costZ g h) P sl (vN g 0) (vN g 0 - 1 - (r + 1))) P) := fun f => by rw [va_up_off (by omega), hO _ (by omega)]; exact hb2
          have hcl2 : clF (nI (cl (fbF (dpF (costZ g h) P sl (vN g 0) (vN g 0 - 1 - (r + 1))) P) sl p)) (nI 0) (nI 198) = nI (cl (fbF (dpF (costZ g h) P sl (vN g 0) (vN g 0 - 1 - (r + 1))) P) sl p) := by
            apply Int32.toInt_inj.mp
            rw [clF_i, nI_toInt (by omega), nI_toInt (by omega), nI_toInt (by omega)]
            omega
          refine x_iastN (n := 79) dX1_leastCost_78 rfl (mA_least hM) (Nat.le_of_ble_eq_true rfl) (by omega) ?_
          refine x_ild4 (n := 81) dX1_leastCost_79 rfl ?_
          refine x_ic1 (n := 82) dX1_leastCost_81 rfl ?_
          refine x_iaddN (n := 83) dX1_leastCost_82 rfl ?_
          refine x_ald0 (n := 84) dX1_leastCost_83 rfl ?_
          refine x_getI (n := 87) flX1_44 rfl dX1_leastCost_84 rfl (mK_Gr hM) ?_
          rw [hv2]
          refine x_icmpN_ge (n := 90) (tgt := 136) dX1_leastCost_87 rfl (by decide) (by omega) (by omega) (fun c_87 => ?_) (fun c_87 => ?_)
          · exact absurd c_87 (by omega)
          · refine x_ald0 (n := 91) dX1_leastCost_90 rfl ?_
            refine x_getR (n := 94) flX1_31 rfl dX1_leastCost_91 rfl (mK_Gr hM) (mP_firstBest hM) ?_
            refine x_ild4 (n := 96) dX1_leastCost_94 rfl ?_
            refine x_ic1 (n := 97) dX1_leastCost_96 rfl ?_
            refine x_iaddN (n := 98) dX1_leastCost_97 rfl ?_
            refine x_ialdN (n := 99) dX1_leastCost_98 rfl (mA_firstBest hM) (Nat.le_of_ble_eq_true rfl) (by omega) ?_
            rw [hI9]
            refine x_ild6 (n := 101) dX1_leastCost_99 rfl ?_
            refine x_ild2 (n := 102) dX1_leastCost_101 rfl ?_
            refine x_isub (n := 103) dX1_leastCost_102 rfl ?_
            refine x_ild6 (n := 105) dX1_leastCost_103 rfl ?_
            refine x_ild2 (n := 106) dX1_leastCost_105 rfl ?_
            refine x_iaddN (n := 107) dX1_leastCost_106 rfl ?_
            refine x_cN3 (n := 110) (d' := 1) zcX11_clamp mnX1_38 dX1_leastCost_107 rfl (Nat.le_of_ble_eq_true rfl) (Nat.le_of_ble_eq_true rfl) ?_
            refine c_X11_clamp ?_
            rw [cl_F (by omega) (by omega) (by omega)]
            refine x_some ?_
            refine x_ist7 (n := 112) dX1_leastCost_110 rfl (by decide) rfl ?_
            refine x_ald0 (n := 113) dX1_leastCost_112 rfl ?_
            refine x_getR (n := 116) flX1_25 rfl dX1_leastCost_113 rfl (mK_Gr hM) (mP_least hM) ?_
            refine x_ild6 (n := 118) dX1_leastCost_116 rfl ?_
            refine x_dup2 (n := 119) dX1_leastCost_118 rfl rfl rfl ?_
            refine x_ialdN (n := 120) dX1_leastCost_119 rfl (mA_least hM) (Nat.le_of_ble_eq_true rfl) (by omega) ?_
            rw [va_up_same, upd_same]
            refine x_ald0 (n := 121) dX1_leastCost_120 rfl ?_
            refine x_getR (n := 124) flX1_28 rfl dX1_leastCost_121 rfl (mK_Gr hM) (mP_leastBehind hM) ?_
            refine x_ild7 (n := 126) dX1_leastCost_124 rfl ?_
            refine x_ic0 (n := 127) dX1_leastCost_126 rfl ?_
            refine x_sipush (n := 130) (v := nI 198) dX1_leastCost_127 rfl (by decide) ?_
            refine x_cN3 (n := 133) (d' := 1) zcX11_clamp mnX1_38 dX1_leastCost_130 rfl (Nat.le_of_ble_eq_true rfl) (Nat.le_of_ble_eq_true rfl) ?_
            refine c_X11_clamp ?_
            rw [hcl2]
            refine x_some ?_
            refine x_ialdN (n := 134) dX1_leastCost_133 rfl (mA_leastBehind hM) (Nat.le_of_ble_eq_true rfl) (by omega) ?_
            rw [va_up_off (by omega), hO _ (by omega), hb1 _ hcl]
            refine x_iadd (n := 135) dX1_leastCost_134 rfl ?_
            rw [iZ_add, ← hdp]
            refine x_iastN (n := 136) dX1_leastCost_135 rfl (mA_least hM) (Nat.le_of_ble_eq_true rfl) (by omega) ?_
            rw [va_up_same, va_up_2]
            refine cmp _ _ (fun a ha => ?_) (fun j hj => ?_)
            · rw [va_up_off ha]; exact hO a ha
            · rw [va_up_same]
              by_cases hjp : j = p
              · subst hjp; rw [upd_same]
              · rw [upd_off hjp, upd_off hjp]; exact hlt j (by omega)
        · have hdp : dpF (costZ g h) P sl (vN g 0) (vN g 0 - 1 - r) p = costZ g h r p := by
            rw [show vN g 0 - 1 - r = 0 by omega]
            show costZ g h (vN g 0 - 1) p = _
            rw [show vN g 0 - 1 = r by omega]
          refine x_iastN (n := 79) dX1_leastCost_78 rfl (mA_least hM) (Nat.le_of_ble_eq_true rfl) (by omega) ?_
          refine x_ild4 (n := 81) dX1_leastCost_79 rfl ?_
          refine x_ic1 (n := 82) dX1_leastCost_81 rfl ?_
          refine x_iaddN (n := 83) dX1_leastCost_82 rfl ?_
          refine x_ald0 (n := 84) dX1_leastCost_83 rfl ?_
          refine x_getI (n := 87) flX1_44 rfl dX1_leastCost_84 rfl (mK_Gr hM) ?_
          rw [hv2]
          refine x_icmpN_ge (n := 90) (tgt := 136) dX1_leastCost_87 rfl (by decide) (by omega) (by omega) (fun c_87 => ?_) (fun c_87 => ?_)
          · refine cmp _ _ (fun a ha => ?_) (fun j hj => ?_)
            · rw [va_up_off ha]; exact hO a ha
            · rw [va_up_same]
              by_cases hjp : j = p
              · subst hjp; rw [upd_same, hdp]
              · rw [upd_off hjp]; exact hlt j (by omega)
          · exact absurd hrn (by omega)
      cases h with
      | true =>
        refine x_ild6 (n := 37) dX1_leastCost_35 rfl ?_
        refine x_ild1 (n := 38) dX1_leastCost_37 rfl ?_
        refine x_icmpN_ge (n := 41) (tgt := 163) dX1_leastCost_38 rfl (by decide) (by omega) (by omega) (fun c_38 => ?_) (fun c_38 => ?_)
        · exact absurd c_38 (by omega)
        · refine x_ild6 (n := 43) dX1_leastCost_41 rfl ?_
          refine x_sipush (n := 46) (v := nI 199) dX1_leastCost_43 rfl (by decide) ?_
          refine x_icmpN_ge (n := 49) (tgt := 163) dX1_leastCost_46 rfl (by decide) (by omega) (by omega) (fun c_46 => ?_) (fun c_46 => ?_)
          · exact absurd c_46 (by omega)
          · refine x_ald0 (n := 50) dX1_leastCost_49 rfl ?_
            refine x_getR (n := 53) flX1_25 rfl dX1_leastCost_50 rfl (mK_Gr hM) (mP_least hM) ?_
            refine x_ild6 (n := 55) dX1_leastCost_53 rfl ?_
            refine x_ild3 (n := 56) dX1_leastCost_55 rfl ?_
            refine x_if_eq (n := 59) (tgt := 70) dX1_leastCost_56 rfl (by decide) (fun c_56 => ?_) (fun c_56 => ?_)
            · exact absurd c_56 (by decide)
            · refine x_ald0 (n := 60) dX1_leastCost_59 rfl ?_
              refine x_ild4 (n := 62) dX1_leastCost_60 rfl ?_
              refine x_ild6 (n := 64) dX1_leastCost_62 rfl ?_
              refine x_cV2 (n := 67) (d' := 2) zcX1_haulCostAt mlX1_87 dX1_leastCost_64 rfl (mK_Gr hM) (Nat.le_of_ble_eq_true rfl) (Nat.le_of_ble_eq_true rfl) ?_
              refine c_X1_haulCostAt hM hG1 hB hr (by omega) ?_
              refine x_some ?_
              refine x_goto (n := 78) dX1_leastCost_67 (by decide) ?_
              exact sumk
      | false =>
        refine x_ild6 (n := 37) dX1_leastCost_35 rfl ?_
        refine x_ild1 (n := 38) dX1_leastCost_37 rfl ?_
        refine x_icmpN_ge (n := 41) (tgt := 163) dX1_leastCost_38 rfl (by decide) (by omega) (by omega) (fun c_38 => ?_) (fun c_38 => ?_)
        · exact absurd c_38 (by omega)
        · refine x_ild6 (n := 43) dX1_leastCost_41 rfl ?_
          refine x_sipush (n := 46) (v := nI 199) dX1_leastCost_43 rfl (by decide) ?_
          refine x_icmpN_ge (n := 49) (tgt := 163) dX1_leastCost_46 rfl (by decide) (by omega) (by omega) (fun c_46 => ?_) (fun c_46 => ?_)
          · exact absurd c_46 (by omega)
          · refine x_ald0 (n := 50) dX1_leastCost_49 rfl ?_
            refine x_getR (n := 53) flX1_25 rfl dX1_leastCost_50 rfl (mK_Gr hM) (mP_least hM) ?_
            refine x_ild6 (n := 55) dX1_leastCost_53 rfl ?_
            refine x_ild3 (n := 56) dX1_leastCost_55 rfl ?_
            refine x_if_eq (n := 59) (tgt := 70) dX1_leastCost_56 rfl (by decide) (fun c_56 => ?_) (fun c_56 => ?_)
            · refine x_ald0 (n := 71) dX1_leastCost_70 rfl ?_
              refine x_ild4 (n := 73) dX1_leastCost_71 rfl ?_
              refine x_ild6 (n := 75) dX1_leastCost_73 rfl ?_
              refine x_cV2 (n := 78) (d' := 0) zcX1_levelCostAt mlX1_91 dX1_leastCost_75 rfl (mK_Gr hM) (Nat.le_of_ble_eq_true rfl) (Nat.le_of_ble_eq_true rfl) ?_
              refine c_X1_levelCostAt hM hG1 hB hr (by omega) ?_
              refine x_some ?_
              exact sumk
            · exact absurd rfl c_56
end
