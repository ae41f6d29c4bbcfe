/-! ===== the pair of text ===== -/
section
variable {l : Launch} {G : zG} {Z Z' : zS} {I J J' : zI} {g g' : Nat → Int32} {mk a b c n : Nat} {Q : Option Value → zS → zI → Prop}
theorem zk_ZY (h : ZY Z Z') (hk : zk Z a c) : zk Z' a c := ⟨Nat.lt_of_lt_of_le hk.1 h.1, (h.2.2 a hk.1).1.trans hk.2⟩
theorem za_ZY (h : ZY Z Z') (hk : za Z a c n) : za Z' a c n := ⟨Nat.lt_of_lt_of_le hk.1 h.1, (h.2.2 a hk.1).1.trans hk.2.1, (h.2.2 a hk.1).2.1.trans hk.2.2⟩
theorem zr_ZY (h : ZY Z Z') (ha : a < Z.1) (h5 : a ≠ 65) {k : Nat} {r : Option Nat} (hk : Z.2.2.2 a k = r) : Z'.2.2.2 a k = r := by rw [(h.2.2 a ha).2.2 h5]; exact hk
theorem mPs_65 : ∀ q ∈ mPs, q.1 ≠ 64 := by decide
theorem lPs_65 : ∀ q ∈ lPs, q.1 ≠ 65 := by decide
theorem ShM_ZY (h : ZY Z Z') (h2 : 282 ≤ Z.1) (hm : mk = 1 ∨ mk = 82 ∨ mk = 163) (hM : ShM Z mk) : ShM Z' mk :=
  ⟨fun q hq => zk_ZY h (hM.1 q hq), fun q hq => zr_ZY h (by have := mPs_b q hq; omega) (by have := mPs_65 q hq; omega) (hM.2.1 q hq), fun q hq => za_ZY h (hM.2.2.1 q hq), fun w hw => ⟨zr_ZY h (by omega) (by omega) (hM.2.2.2 w hw).1, zk_ZY h (hM.2.2.2 w hw).2.1, zr_ZY h (by omega) (by omega) (hM.2.2.2 w hw).2.2.1, za_ZY h (hM.2.2.2 w hw).2.2.2⟩⟩
theorem ShL_ZY (h : ZY Z Z') (h2 : 282 ≤ Z.1) (hS : ShL Z) : ShL Z' := by
  obtain ⟨a1, a3, a4, a5, a6, a7, a8⟩ := hS
  exact ⟨⟨zk_ZY h a1.1, zk_ZY h a1.2⟩, fun q hq => zr_ZY h (by have := lPs_b q hq; omega) (lPs_65 q hq) (a3 q hq), fun q hq => za_ZY h (a4 q hq), fun v hv => ⟨zr_ZY h (by omega) (by omega) (a5 v hv).1, zk_ZY h (a5 v hv).2.1, zr_ZY h (by omega) (by omega) (a5 v hv).2.2.1, za_ZY h (a5 v hv).2.2.2⟩, ShM_ZY h h2 (by omega) a6, ShM_ZY h h2 (by omega) a7, ShM_ZY h h2 (by omega) a8⟩
theorem ShR_ZY (h : ZY Z Z') (h2 : 282 ≤ Z.1) (hR : ShR Z) : ShR Z' := ⟨zk_ZY h hR.1, fun q hq => ⟨zr_ZY h (show 258 < Z.1 by omega) (show 258 ≠ 65 by omega) (hR.2 q hq).1, za_ZY h (hR.2 q hq).2⟩⟩
/-- what the reference wrote behind its texts -/
theorem CM_tx (hC : CM Z I mk g) (hn : g 3 = nI n) (hn14 : n ≤ 14) (h : ∀ i, i < 2524 + 200 * n → g' i = g i) : CM Z I mk g' := by
  obtain ⟨a, b, c, d, e, f, i, j⟩ := hC
  have vn : vN g 3 = n := vN_nI hn (by omega)
  refine ⟨cmG_of a (fun _ _ _ => rfl) (fun i hi => h i (by omega)), cmW_of b rfl (fun _ _ _ => rfl) (fun i hi _ => h i (by omega)), cmA_of c rfl rfl rfl (fun i hi => h i (by omega)), ?_, cmC_of e rfl (fun _ _ _ => rfl) (fun i hi => h i (by omega)), cmP_of f (fun _ _ _ => rfl) (fun i hi => h i (by omega)), cmF_of i (fun _ _ _ => rfl) (fun i hi => h i (by omega)), cmD_of j rfl rfl (fun i hi => h i (by omega))⟩
  obtain ⟨d1, d2, d3⟩ := d
  have e3 := h 3 (by omega)
  unfold cmT
  rw [vN_eq e3, e3]
  refine ⟨d1, d2, fun t ht => ?_⟩
  obtain ⟨p, hp, hx⟩ := d3 t ht
  rw [vn] at ht
  exact ⟨p, hp, txR_of hx (fun _ _ => rfl) (fun i _ _ => h i (by omega))⟩
theorem InvT_tx (hT : InvT g) (hn : g 3 = nI n) (hn14 : n ≤ 14) (h : ∀ i, i < 2524 + 200 * n → g' i = g i) : InvT g' := by
  have vn : vN g 3 = n := vN_nI hn (by omega)
  intro u hu
  rw [vN_eq (h 3 (by omega)), vn] at hu
  have hk := hT u (by rw [vn]; exact hu)
  have ho : ∀ i, 2520 + 200 * u ≤ i → i < 2720 + 200 * u → g' i = g i := fun i h1 h2 => h i (by omega)
  unfold textOK at hk ⊢
  rw [vN_eq (ho (2520 + 200 * u) (by omega) (by omega)), vN_eq (ho (2520 + 200 * u + 3) (by omega) (by omega)), ho _ (by omega) (by omega), ho _ (by omega) (by omega), ho _ (by omega) (by omega), ho _ (by omega) (by omega)]
  obtain ⟨k1, k2, k3, k4, H', k5, k6, k7⟩ := hk
  refine ⟨k1, k2, k3, k4, H', k5, k6, fun j hj => ?_⟩
  have h9 := (rg_le k4 (by omega)).2
  rw [ho _ (by omega) (by omega), ho _ (by omega) (by omega)]
  exact k7 j hj
theorem lw_text {x : Int32} (hm : Z.1 + 2 ≤ 900000) (h : LR Z J (J q_s)) : lawP l G Z J mX11_text mX12_text 7 123 2 100 [.int x] := by
  obtain ⟨⟨hS, hR, hZ⟩, hC, ⟨hM, hB, hT, h8⟩, ⟨hi1, hi2⟩, ⟨hv, hvo⟩, ⟨w, w1, w2, w3, w4⟩, ⟨t, t1, t2, t3, t4, t5⟩⟩ := id h
  have i3 := iv3 hB
  refine tL_text (f := J 245) hS hZ hm rfl t2 t1 t5 hM i3.1 i3.2 (fun Z1 K1 te => ⟨_, rfl, (ShR_ZY te.1 hZ hR).1, ?_⟩)
  obtain ⟨zy, ho, h0, cF, cT⟩ := te
  have ho' : ∀ a, a ≠ 64 → a ≠ 244 → a ≠ 246 → a ≠ 247 → a < 282 → K1 a = J a := fun a a1 a2 a3 a4 a5 => ho a a1 a2 a3 a4 (by omega)
  have eR : K1 qR = J qR := ho' 258 (by omega) (by omega) (by omega) (by omega) (by omega)
  refine zM_s (ho' 259 (by omega) (by omega) (by omega) (by omega) (by omega)) ?_
  refine c_X12_text (f := J 245) (ShR_ZY zy hZ hR) t5 t1 (by rw [show K1 q_tape = J q_tape from ho' 272 (by omega) (by omega) (by omega) (by omega) (by omega)]; exact t4.symm) (by rw [eR]; exact t3) i3.1 i3.2 (fun J2 g2 tp => ?_)
  obtain ⟨P1, P2, P3, P4, P5⟩ := tp
  refine ⟨rfl, lr_fin ?_, zy.1, zy.2.1⟩
  have hk : ∀ a, a ≠ 64 → a ≠ 244 → a ≠ 246 → a ≠ 247 → a ≠ 258 → a < Z.1 → J2 a = J a := fun a a1 a2 a3 a4 a5 a6 => by rw [P1 a a5]; exact ho a a1 a2 a3 a4 a6
  have kI : J2 q_image = J q_image := hk 260 (by omega) (by omega) (by omega) (by omega) (by omega) (by omega)
  have k3 : J2 qR 3 = J qR 3 := by rw [P2 3 (by omega), eR]
  have k0 : J2 0 = J 0 := hk 0 (by omega) (by omega) (by omega) (by omega) (by omega) (by omega)
  have eS : sv J2 = sv J := by
    unfold sv
    rw [show J2 q_tSort = J q_tSort from hk 262 (by omega) (by omega) (by omega) (by omega) (by omega) (by omega), show J2 q_tSize = J q_tSize from hk 263 (by omega) (by omega) (by omega) (by omega) (by omega) (by omega), show J2 q_tNumber = J q_tNumber from hk 264 (by omega) (by omega) (by omega) (by omega) (by omega) (by omega)]
  have hcm : ∀ gg, CM Z1 K1 1 gg → CM Z1 J2 1 gg := fun gg hc => CM_of hc (fun a ha => P1 a (show a ≠ 258 by unfold cmOff at ha; omega)) (by omega)
  have hmk : CM Z1 J2 1 g2 ∧ InvB g2 ∧ InvT g2 ∧ vN g2 8 ≤ 1999 := by
    cases hb : (f_text (J 245) t (vN (J q_s) 3) x).2 with
    | false =>
      have hg : ∀ i, i < 2524 + 200 * vN (J q_s) 3 → g2 i = J q_s i := fun i hi => P4 hb i (Or.inl (by unfold txA; split <;> omega))
      exact ⟨hcm _ (CM_tx (cF hb) i3.1 i3.2 hg), InvB_T hB (fun i h1 _ => hg i (by omega)) (by rw [hg 3 (by omega)]; exact hB.1.2.2.2.1), InvT_tx hT i3.1 i3.2 hg, by rw [vN_eq (hg 8 (by omega))]; exact h8⟩
    | true =>
      obtain ⟨q1, q2, key, q3, q4, q5, q6, q7⟩ := P5 hb
      have kk := k_gT hB hT (x := x) t1 i3.1 q1 q2 q3 q4 q5
      rw [q7]
      exact ⟨hcm _ (cT key hb q3), kk.1, kk.2.1, by rw [kk.2.2]; exact h8⟩
  refine ⟨⟨ShL_ZY zy hZ hS, ShR_ZY zy hZ hR, by have := zy.1; omega⟩, RfC_of hC (hk 265 (by omega) (by omega) (by omega) (by omega) (by omega) (by omega)) (hk 266 (by omega) (by omega) (by omega) (by omega) (by omega) (by omega)) (hk 267 (by omega) (by omega) (by omega) (by omega) (by omega) (by omega)), hmk, ⟨by rw [k0, k3]; exact hi1, ?_⟩, ⟨svC_of hv (fun a a1 a2 => hk a (by omega) (by omega) (by omega) (by omega) (by omega) (by omega)) eS, by rw [eS]; exact hvo⟩, ⟨w, w1, by rw [k0]; exact w2, by rw [P2 34 (by omega), eR]; exact w3, ?_⟩, ⟨0, by omega, ?_, P3, ?_, fun j hj => by omega⟩⟩
  · rw [k3, kI]
    intro hh
    refine ⟨CM_X (by omega) zy.1 (fun a a1 a2 => ⟨(zy.2.2 a a2).1, (zy.2.2 a a2).2.1, (zy.2.2 a a2).2.2 (by omega), hk a (by omega) (by omega) (by omega) (by omega) (by omega) a2⟩) (fun a a1 a2 => hk a (by omega) (by omega) (by omega) (by omega) (by omega) (by omega)) ((zy.2.2 (82 + 64) (by omega)).2.2 (by omega)) (hi2 hh).1, (hi2 hh).2⟩
  · rw [hk 257 (by omega) (by omega) (by omega) (by omega) (by omega) (by omega), show J2 q_waits = J q_waits from hk 280 (by omega) (by omega) (by omega) (by omega) (by omega) (by omega)]; exact w4
  · rw [P1 244 (by decide)]; exact h0
  · rw [hk 245 (by omega) (by omega) (by omega) (by omega) (by omega) (by omega), show J2 q_tape = J q_tape from hk 272 (by omega) (by omega) (by omega) (by omega) (by omega) (by omega)]; exact t4
end
