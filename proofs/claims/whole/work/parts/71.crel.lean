/-! ===== a Making at mk stands for the reference's row g ===== -/
def cmG (I : zI) (mk : Nat) (g : Nat → Int32) : Prop := (vN g 0 ≤ 24 ∧ I (mk + 1) 0 = g 0) ∧ (∀ c, c < vN g 0 → I (mk + 2) c = g (20 + 4 * c) ∧ I (mk + 3) c = g (20 + 4 * c + 1) ∧ I (mk + 4) c = g (20 + 4 * c + 2)) ∧ (∃ s, s < 2 ^ 24 ∧ I (mk + 1) 4 = nI s ∧ ∀ c, c < vN g 0 → (s.testBit c = true ↔ 0 ≤ (g (20 + 4 * c + 3)).toInt)) ∧ ∀ k, k < 6 → I (mk + 5) k = g (11 + k)
/-- a work -/
def wkR (I : zI) (b : Nat) (g : Nat → Int32) (w : Nat) : Prop := I b 0 = g (120 + 10 * w) ∧ I b 1 = g (120 + 10 * w + 1) ∧ I b 2 = g (120 + 10 * w + 2) ∧ I b 3 = g (120 + 10 * w + 3) ∧ I b 4 = g (120 + 10 * w + 5) ∧ I b 5 = g (120 + 10 * w + 6) ∧ I b 6 = g (120 + 10 * w + 9) ∧ I (b + 1) 0 = g (120 + 10 * w + 7) ∧ I (b + 1) 1 = g (120 + 10 * w + 8)
def cmW (I : zI) (mk : Nat) (g : Nat → Int32) : Prop := vN g 1 ≤ 24 ∧ I (mk + 10) 1 = g 1 ∧ ∀ w, w < vN g 1 → wkR I (mk + 15 + 2 * w) g w
def cmA (I : zI) (mk : Nat) (g : Nat → Int32) : Prop := vN g 2 ≤ 8 ∧ I (mk + 10) 4 = g 2 ∧ ∀ k, k < vN g 2 → I (mk + 12) k = g (360 + 2 * k) ∧ I (mk + 13) k = orNone (g (360 + 2 * k + 1))
/-- the place of a name among its key's -/
def nmI (key : Nat) (v : Int32) : Nat := if key = 0 then (if v = nI 107 then 0 else if v = nI 100 then 1 else 2) else if key = 1 then (if v = nI 107 then 0 else 1) else if key = 2 then 0 else (if v = nI 99 then 0 else 1)
/-- a step as the class writes it -/
def cdF (key : Nat) (what v : Int32) : Int32 := if what = nI 0 then v else if what = nI 1 then nI (10000 + nmI key v) else -v
/-- the Text at p stands for the text t -/
def txR (Z : zS) (I : zI) (p : Nat) (g : Nat → Int32) (t : Nat) : Prop := 282 ≤ p ∧ zk Z p 7 ∧ I p 0 = g (2520 + 200 * t) ∧ I p 1 = g (2520 + 200 * t + 1) ∧ I p 2 = g (2520 + 200 * t + 2) ∧ vN g (2520 + 200 * t + 3) ≤ 96 ∧
  ∃ q, 282 ≤ q ∧ Z.2.2.2 p 3 = some q ∧ za Z q 13 (vN g (2520 + 200 * t + 3)) ∧ ∀ k, k < vN g (2520 + 200 * t + 3) → I q k = cdF (vN g (2520 + 200 * t)) (g (2520 + 200 * t + 4 + 2 * k)) (g (2520 + 200 * t + 4 + 2 * k + 1)) ∧ (g (2520 + 200 * t + 4 + 2 * k) = nI 0 → rg (g (2520 + 200 * t + 4 + 2 * k + 1)) 0 9999)
def cmT (Z : zS) (I : zI) (mk : Nat) (g : Nat → Int32) : Prop := vN g 3 ≤ 14 ∧ I (mk + 63) 1 = g 3 ∧ ∀ t, t < vN g 3 → ∃ p, Z.2.2.2 (mk + 64) t = some p ∧ txR Z I p g t
def cmC (I : zI) (mk : Nat) (g : Nat → Int32) : Prop := vN g 4 ≤ 20 ∧ I (mk + 66) 3 = g 4 ∧ ∀ k, k < vN g 4 → I (mk + 67) k = g (380 + 3 * k) ∧ I (mk + 68) k = g (380 + 3 * k + 1) ∧ I (mk + 69) k = g (380 + 3 * k + 2)
def cmP (I : zI) (mk : Nat) (g : Nat → Int32) : Prop := vN g 5 ≤ 20 ∧ I (mk + 72) 0 = g 9 ∧ I (mk + 72) 1 = g 10 ∧ I (mk + 72) 4 = g 5 ∧ ∀ k, k < vN g 5 → I (mk + 73) k = g (440 + 2 * k) ∧ I (mk + 74) k = g (440 + 2 * k + 1)
def cmF (I : zI) (mk : Nat) (g : Nat → Int32) : Prop := (vN g 6 ≤ 6 ∧ vN g 7 ≤ 8) ∧ I (mk + 75) 2 = g 6 ∧ I (mk + 75) 4 = g 7 ∧ (∀ k, k < vN g 6 → I (mk + 76) k = g (480 + 2 * k) ∧ I (mk + 77) k = g (480 + 2 * k + 1)) ∧ ∀ k, k < vN g 7 → I (mk + 78) k = g (495 + k)
def cmD (I : zI) (mk : Nat) (g : Nat → Int32) : Prop := I mk 7 = g 8 ∧ ∀ k, k < 2000 → I (mk + 80) k = g (510 + k)
def CM (Z : zS) (I : zI) (mk : Nat) (g : Nat → Int32) : Prop := cmG I mk g ∧ cmW I mk g ∧ cmA I mk g ∧ cmT Z I mk g ∧ cmC I mk g ∧ cmP I mk g ∧ cmF I mk g ∧ cmD I mk g
/-- nothing has changed but within the Making -/
def offM (mk : Nat) (I I' : zI) : Prop := ∀ a, a < mk ∨ mk + 81 ≤ a → I' a = I a
section
variable {Z : zS} {I I' : zI} {mk : Nat} {g g' : Nat → Int32}
theorem offM_refl : offM mk I I := fun _ _ => rfl
theorem offM_trans {I2 : zI} (h : offM mk I I') (h2 : offM mk I' I2) : offM mk I I2 := fun a ha => (h2 a ha).trans (h a ha)
theorem offM_up {a : Nat} {f : Nat → Int32} (h : offM mk I I') (h1 : mk ≤ a) (h2 : a < mk + 81) : offM mk I (va_up I' a f) := fun b hb => by rw [va_up_off (by omega)]; exact h b hb
theorem up1 {a : Nat} {f : Nat → Int32} (h1 : mk ≤ a) (h2 : a < mk + 81) : offM mk I (va_up I a f) := offM_up offM_refl h1 h2
theorem cmG_of (h : cmG I mk g) (hI : ∀ a, mk + 1 ≤ a → a ≤ mk + 5 → I' a = I a) (hg : ∀ i, (i = 0 ∨ 11 ≤ i ∧ i < 17 ∨ 20 ≤ i ∧ i < 120) → g' i = g i) : cmG I' mk g' := by
  obtain ⟨⟨h0, h1⟩, h2, ⟨s, hs, hb, h4⟩, h3⟩ := h
  have e0 := hg 0 (by omega)
  unfold cmG
  rw [vN_eq e0, e0, hI _ (by omega) (by omega), hI (mk + 2) (by omega) (by omega), hI (mk + 3) (by omega) (by omega), hI (mk + 4) (by omega) (by omega), hI (mk + 5) (by omega) (by omega)]
  refine ⟨⟨h0, h1⟩, fun c hc => ?_, ⟨s, hs, hb, fun c hc => ?_⟩, fun k hk => ?_⟩
  · rw [hg _ (by omega), hg _ (by omega), hg _ (by omega)]; exact h2 c hc
  · rw [hg _ (by omega)]; exact h4 c hc
  · rw [hg _ (by omega)]; exact h3 k hk
theorem wkR_of {b w : Nat} (h : wkR I b g w) (h0 : I' b = I b) (h1 : I' (b + 1) = I (b + 1)) (hg : ∀ i, 120 + 10 * w ≤ i → i < 120 + 10 * w + 10 → i ≠ 120 + 10 * w + 4 → g' i = g i) : wkR I' b g' w := by
  unfold wkR at *
  rw [h0, h1, hg _ (by omega) (by omega) (by omega), hg _ (by omega) (by omega) (by omega), hg _ (by omega) (by omega) (by omega), hg _ (by omega) (by omega) (by omega), hg _ (by omega) (by omega) (by omega), hg _ (by omega) (by omega) (by omega), hg _ (by omega) (by omega) (by omega), hg _ (by omega) (by omega) (by omega), hg _ (by omega) (by omega) (by omega)]
  exact h
theorem cmW_of (h : cmW I mk g) (h10 : I' (mk + 10) 1 = I (mk + 10) 1) (hI : ∀ a, mk + 15 ≤ a → a < mk + 63 → I' a = I a) (hg : ∀ i, (i = 1 ∨ 120 ≤ i ∧ i < 360) → (∀ w, i ≠ 120 + 10 * w + 4) → g' i = g i) : cmW I' mk g' := by
  obtain ⟨h0, h1, h2⟩ := h
  have e0 := hg 1 (by omega) (by omega)
  unfold cmW
  rw [vN_eq e0, e0, h10]
  exact ⟨h0, h1, fun w hw => wkR_of (h2 w hw) (hI _ (by omega) (by omega)) (hI _ (by omega) (by omega)) (fun i h1 h2 h3 => hg i (by omega) (by omega))⟩
theorem cmA_of (h : cmA I mk g) (h10 : I' (mk + 10) 4 = I (mk + 10) 4) (h12 : I' (mk + 12) = I (mk + 12)) (h13 : I' (mk + 13) = I (mk + 13)) (hg : ∀ i, (i = 2 ∨ 360 ≤ i ∧ i < 380) → g' i = g i) : cmA I' mk g' := by
  obtain ⟨h0, h1, h2⟩ := h
  have e0 := hg 2 (by omega)
  unfold cmA
  rw [vN_eq e0, e0, h10, h12, h13]
  refine ⟨h0, h1, fun k hk => ?_⟩
  rw [hg _ (by omega), hg _ (by omega)]; exact h2 k hk
theorem txR_of {p t : Nat} (h : txR Z I p g t) (hI : ∀ a, 282 ≤ a → I' a = I a) (hg : ∀ i, 2520 + 200 * t ≤ i → i < 2520 + 200 * t + 200 → g' i = g i) : txR Z I' p g' t := by
  obtain ⟨h0, h1, h2, h3, h4, h5, q, h6, h7, h8, h9⟩ := h
  have e0 := vN_eq (hg (2520 + 200 * t) (by omega) (by omega))
  have e3 := vN_eq (hg (2520 + 200 * t + 3) (by omega) (by omega))
  unfold txR
  rw [e0, e3, hI p h0, hg _ (by omega) (by omega), hg _ (by omega) (by omega), hg _ (by omega) (by omega)]
  refine ⟨h0, h1, h2, h3, h4, h5, q, h6, h7, h8, fun k hk => ?_⟩
  rw [hI q h6, hg _ (by omega) (by omega), hg _ (by omega) (by omega)]
  exact h9 k hk
theorem cmT_of (h : cmT Z I mk g) (h63 : I' (mk + 63) 1 = I (mk + 63) 1) (hI : ∀ a, 282 ≤ a → I' a = I a) (hg : ∀ i, (i = 3 ∨ 2520 ≤ i ∧ i < 5320) → g' i = g i) : cmT Z I' mk g' := by
  obtain ⟨h0, h1, h2⟩ := h
  have e0 := hg 3 (by omega)
  unfold cmT
  rw [vN_eq e0, e0, h63]
  refine ⟨h0, h1, fun t ht => ?_⟩
  obtain ⟨p, hp, hx⟩ := h2 t ht
  exact ⟨p, hp, txR_of hx hI (fun i _ _ => hg i (by omega))⟩
theorem cmC_of (h : cmC I mk g) (h66 : I' (mk + 66) 3 = I (mk + 66) 3) (hI : ∀ a, mk + 67 ≤ a → a ≤ mk + 69 → I' a = I a) (hg : ∀ i, (i = 4 ∨ 380 ≤ i ∧ i < 440) → g' i = g i) : cmC I' mk g' := by
  obtain ⟨h0, h1, h2⟩ := h
  have e0 := hg 4 (by omega)
  unfold cmC
  rw [vN_eq e0, e0, h66, hI _ (by omega) (by omega), hI (mk + 68) (by omega) (by omega), hI (mk + 69) (by omega) (by omega)]
  refine ⟨h0, h1, fun k hk => ?_⟩
  rw [hg _ (by omega), hg _ (by omega), hg _ (by omega)]; exact h2 k hk
theorem cmP_of (h : cmP I mk g) (hI : ∀ a, mk + 72 ≤ a → a ≤ mk + 74 → I' a = I a) (hg : ∀ i, (i = 5 ∨ i = 9 ∨ i = 10 ∨ 440 ≤ i ∧ i < 480) → g' i = g i) : cmP I' mk g' := by
  obtain ⟨h0, h1, h2, h3, h4⟩ := h
  have e0 := hg 5 (by omega)
  unfold cmP
  rw [vN_eq e0, e0, hg 9 (by omega), hg 10 (by omega), hI _ (by omega) (by omega), hI (mk + 73) (by omega) (by omega), hI (mk + 74) (by omega) (by omega)]
  refine ⟨h0, h1, h2, h3, fun k hk => ?_⟩
  rw [hg _ (by omega), hg _ (by omega)]; exact h4 k hk
theorem cmF_of (h : cmF I mk g) (hI : ∀ a, mk + 75 ≤ a → a ≤ mk + 78 → I' a = I a) (hg : ∀ i, (i = 6 ∨ i = 7 ∨ 480 ≤ i ∧ i < 503) → g' i = g i) : cmF I' mk g' := by
  obtain ⟨⟨h0, h0'⟩, h1, h2, h3, h4⟩ := h
  have e0 := hg 6 (by omega)
  have e1 := hg 7 (by omega)
  unfold cmF
  rw [vN_eq e0, vN_eq e1, e0, e1, hI _ (by omega) (by omega), hI (mk + 76) (by omega) (by omega), hI (mk + 77) (by omega) (by omega), hI (mk + 78) (by omega) (by omega)]
  refine ⟨⟨h0, h0'⟩, h1, h2, fun k hk => ?_, fun k hk => ?_⟩
  · rw [hg _ (by omega), hg _ (by omega)]; exact h3 k hk
  · rw [hg _ (by omega)]; exact h4 k hk
theorem cmD_of (h : cmD I mk g) (h7 : I' mk 7 = I mk 7) (h80 : I' (mk + 80) = I (mk + 80)) (hg : ∀ i, (i = 8 ∨ 510 ≤ i ∧ i < 2510) → g' i = g i) : cmD I' mk g' := by
  obtain ⟨h1, h2⟩ := h
  unfold cmD
  rw [hg 8 (by omega), h7, h80]
  refine ⟨h1, fun k hk => ?_⟩
  rw [hg _ (by omega)]; exact h2 k hk
/-- places that g does not speak of -/
def cmOff (mk a : Nat) : Prop := (a < mk ∨ mk + 81 ≤ a ∨ mk + 6 ≤ a ∧ a < mk + 10 ∨ a = mk + 11 ∨ a = mk + 14 ∨ a = mk + 64 ∨ a = mk + 65 ∨ a = mk + 70 ∨ a = mk + 71 ∨ a = mk + 79) ∧ a < 282
theorem CM_of (h : CM Z I mk g) (hI : ∀ a, ¬ cmOff mk a → I' a = I a) (hm : mk < 200) : CM Z I' mk g := by
  obtain ⟨a, b, c, d, e, f, i, j⟩ := h
  unfold cmOff at hI
  refine ⟨cmG_of a (fun x _ _ => hI x (by omega)) (fun _ _ => rfl), cmW_of b (by rw [hI _ (by omega)]) (fun x _ _ => hI x (by omega)) (fun _ _ _ => rfl), cmA_of c (by rw [hI _ (by omega)]) (hI _ (by omega)) (hI _ (by omega)) (fun _ _ => rfl), cmT_of d (by rw [hI _ (by omega)]) (fun x _ => hI x (by omega)) (fun _ _ => rfl), cmC_of e (by rw [hI _ (by omega)]) (fun x _ _ => hI x (by omega)) (fun _ _ => rfl), cmP_of f (fun x _ _ => hI x (by omega)) (fun _ _ => rfl), cmF_of i (fun x _ _ => hI x (by omega)) (fun _ _ => rfl), cmD_of j (by rw [hI _ (by omega)]) (hI _ (by omega)) (fun _ _ => rfl)⟩
theorem CM_up (h : CM Z I mk g) {a : Nat} {f : Nat → Int32} (ha : cmOff mk a) (hm : mk < 200) : CM Z (va_up I a f) mk g := CM_of h (fun b hb => va_up_off (fun e => hb (e ▸ ha))) hm
end
