/-! ===== pairs of calls: keep, back, check, text ===== -/
section
variable {l : Launch} {G : zG} {Z Z' : zS} {I J J' : zI} {g g' : Nat → Int32} {mk : Nat} {Q : Option Value → zS → zI → Prop}
theorem CM_eq (h : ∀ i, i < 5530 → g' i = g i) (hC : CM Z I mk g) : CM Z I mk g' := by
  obtain ⟨a, b, c, d, e, f, i, j⟩ := hC
  have m3 := d.1
  exact ⟨cmG_of a (fun _ _ _ => rfl) (fun i hi => h i (by omega)), cmW_of b rfl (fun _ _ _ => rfl) (fun i hi _ => h i (by omega)), cmA_of c rfl rfl rfl (fun i hi => h i (by omega)), cmT_of d rfl (fun _ _ => rfl) (fun i hi => h i (by omega)), cmC_of e rfl (fun _ _ _ => rfl) (fun i hi => h i (by omega)), cmP_of f (fun _ _ _ => rfl) (fun i hi => h i (by omega)), cmF_of i (fun _ _ _ => rfl) (fun i hi => h i (by omega)), cmD_of j rfl rfl (fun i hi => h i (by omega))⟩
theorem cp_lo {f h : Nat → Int32} {i : Nat} (hi : i < 5530) : cpF f h 5530 i = f i := by unfold cpF; rw [if_pos hi]
/-- another Making's texts have changed -/
theorem CM_T2 {m : Nat} (hT : ZT mk Z Z') (hm : m + 81 ≤ 282) (hd : mk + 81 ≤ m ∨ m + 81 ≤ mk) (hmk : mk + 81 ≤ 282) (hI : ∀ a, (m ≤ a ∧ a < m + 81) ∨ 282 ≤ a → J' a = J a) (hC : CM Z J m g) : CM Z' J' m g :=
  CM_X hm (by rw [hT.1]; exact Nat.le_refl _) (fun a a1 a2 => ⟨by rw [hT.2.1], by rw [hT.2.2.1], hT.2.2.2 a (by omega), hI a (Or.inr a1)⟩) (fun a a1 a2 => hI a (Or.inl ⟨a1, a2⟩)) (hT.2.2.2 _ (by omega)) hC
theorem lw_keep (h : LR Z J (J q_s)) : lawP l G Z J mX11_keep mX12_keep 4 1 0 0 [] := by
  obtain ⟨⟨hS, hR, hZ⟩, hC, ⟨hM, hB, hT, h8⟩, -, ⟨hv, hvo⟩, ⟨w, w1, w2, w3, w4⟩, ⟨t, t1, t2, t3, t4, t5⟩⟩ := id h
  refine tL_keep hS hM hB (fun Z1 J1 z1 o1 c1 => ⟨_, rfl, (ShR_ZT z1 (by omega) hR).1, ?_⟩)
  refine zM_s (g := J q_s) (by rw [va_up_off (by decide)]; exact o1 259 (by omega)) ?_
  refine c_X12_keep (ShR_ZT z1 (by omega) hR) ?_
  have e0 : J1 0 = J 0 := o1 0 (by omega)
  have eR : J1 qR = J qR := o1 258 (by omega)
  refine ⟨rfl, lr_fin ?_, by rw [z1.1]; exact Nat.le_refl _, by rw [z1.1]; omega⟩
  have hX : ∀ a, a ≠ 0 → a ≠ 258 → a ≠ 260 → (a < 82 ∨ 163 ≤ a) → va_up (va_up (va_up J1 0 (upd (J1 0) 7 (nI 1))) qR (upd (va_up J1 0 (upd (J1 0) 7 (nI 1)) qR) 3 (nI 1))) q_image (cpF (J q_s) (va_up J1 0 (upd (J1 0) 7 (nI 1)) q_image) 5530) a = J a := fun a a1 a2 a3 a4 => by
    rw [va_up_off (show a ≠ q_image from a3), va_up_off (show a ≠ qR from a2), va_up_off a1]; exact o1 a (by omega)
  have hX2 : ∀ a, a ≠ 0 → a ≠ 258 → a ≠ 260 → va_up (va_up (va_up J1 0 (upd (J1 0) 7 (nI 1))) qR (upd (va_up J1 0 (upd (J1 0) 7 (nI 1)) qR) 3 (nI 1))) q_image (cpF (J q_s) (va_up J1 0 (upd (J1 0) 7 (nI 1)) q_image) 5530) a = J1 a := fun a a1 a2 a3 => by
    rw [va_up_off (show a ≠ q_image from a3), va_up_off (show a ≠ qR from a2), va_up_off a1]
  have hX0 : va_up (va_up (va_up J1 0 (upd (J1 0) 7 (nI 1))) qR (upd (va_up J1 0 (upd (J1 0) 7 (nI 1)) qR) 3 (nI 1))) q_image (cpF (J q_s) (va_up J1 0 (upd (J1 0) 7 (nI 1)) q_image) 5530) 0 = upd (J 0) 7 (nI 1) := by
    rw [va_up_off (by decide), va_up_off (by decide), va_up_same, e0]
  have hXR : va_up (va_up (va_up J1 0 (upd (J1 0) 7 (nI 1))) qR (upd (va_up J1 0 (upd (J1 0) 7 (nI 1)) qR) 3 (nI 1))) q_image (cpF (J q_s) (va_up J1 0 (upd (J1 0) 7 (nI 1)) q_image) 5530) qR = upd (J qR) 3 (nI 1) := by
    rw [va_up_off (by decide), va_up_same, va_up_off (by decide), eR]
  have hXI : va_up (va_up (va_up J1 0 (upd (J1 0) 7 (nI 1))) qR (upd (va_up J1 0 (upd (J1 0) 7 (nI 1)) qR) 3 (nI 1))) q_image (cpF (J q_s) (va_up J1 0 (upd (J1 0) 7 (nI 1)) q_image) 5530) q_image = cpF (J q_s) (va_up J1 0 (upd (J1 0) 7 (nI 1)) q_image) 5530 := va_up_same
  generalize va_up (va_up (va_up J1 0 (upd (J1 0) 7 (nI 1))) qR (upd (va_up J1 0 (upd (J1 0) 7 (nI 1)) qR) 3 (nI 1))) q_image (cpF (J q_s) (va_up J1 0 (upd (J1 0) 7 (nI 1)) q_image) 5530) = K at *
  generalize va_up J1 0 (upd (J1 0) 7 (nI 1)) q_image = old at *
  have he : ∀ i, i < 5530 → cpF (J q_s) old 5530 i = J q_s i := fun i hi => cp_lo hi
  have eS : sv K = sv J := by
    unfold sv
    rw [show K q_tSort = J q_tSort from hX 262 (by omega) (by omega) (by omega) (by omega), show K q_tSize = J q_tSize from hX 263 (by omega) (by omega) (by omega) (by omega), show K q_tNumber = J q_tNumber from hX 264 (by omega) (by omega) (by omega) (by omega)]
  refine ⟨⟨ShL_ZT z1 (by omega) hS, ShR_ZT z1 (by omega) hR, by rw [z1.1]; exact hZ⟩, RfC_of hC (hX 265 (by omega) (by omega) (by omega) (by omega)) (hX 266 (by omega) (by omega) (by omega) (by omega)) (hX 267 (by omega) (by omega) (by omega) (by omega)), ⟨CM_T2 z1 (by omega) (by omega) (by omega) (fun a ha => hX a (by omega) (by omega) (by omega) (by omega)) hM, hB, hT, h8⟩, ⟨?_, fun _ => ?_⟩, ⟨svC_of hv (fun a a1 a2 => hX a (by omega) (by omega) (by omega) (by omega)) eS, by rw [eS]; exact hvo⟩, ⟨w, w1, ?_, ?_, ?_⟩, ⟨t, t1, ?_, ?_, ?_, ?_⟩⟩
  · rw [hX0, hXR, upd_same, upd_same]
  · rw [hXI]
    exact ⟨CM_eq he (CM_of c1 (fun a ha => hX2 a (by unfold cmOff at ha; omega) (by unfold cmOff at ha; omega) (by unfold cmOff at ha; omega)) (by omega)), InvB_eq he hB, InvT_eq he hB hT, by rw [vN_eq (he 8 (by omega))]; exact h8⟩
  · rw [hX0, upd_off (by decide)]; exact w2
  · rw [hXR, upd_off (by decide)]; exact w3
  · rw [hX 257 (by omega) (by omega) (by omega) (by omega), show K q_waits = J q_waits from hX 280 (by omega) (by omega) (by omega) (by omega)]; exact w4
  · rw [hX 244 (by omega) (by omega) (by omega) (by omega)]; exact t2
  · rw [hXR, upd_off (by decide)]; exact t3
  · rw [hX 245 (by omega) (by omega) (by omega) (by omega), show K q_tape = J q_tape from hX 272 (by omega) (by omega) (by omega) (by omega)]; exact t4
  · rw [hX 245 (by omega) (by omega) (by omega) (by omega)]; exact t5
/-- the shape has changed but in a Making's texts; the state as in LR_1 -/
theorem LR_B (h : LR Z J g) (z1 : ZT 1 Z Z') (ho : offM 1 J J') (hC : CM Z' J' 1 g') (hB : InvB g') (hT : InvT g') (h8 : vN g' 8 ≤ 1999) : LR Z' J' g' := by
  obtain ⟨⟨hS, hR, hZ⟩, h2, -, ⟨h5, h6⟩, ⟨h7, hs⟩, ⟨w, w1, w2, w3, w4⟩, ⟨t, t1, t2, t3, t4, t5⟩⟩ := h
  have e0 : J' 0 = J 0 := ho 0 (by omega)
  have eR : J' qR = J qR := ho 258 (by omega)
  have eI : J' q_image = J q_image := ho 260 (by omega)
  have eW : J' q_waits = J q_waits := ho 280 (by omega)
  have eT : J' q_tape = J q_tape := ho 272 (by omega)
  have e257 : J' 257 = J 257 := ho 257 (by omega)
  have e244 : J' 244 = J 244 := ho 244 (by omega)
  have e245 : J' 245 = J 245 := ho 245 (by omega)
  have eS : sv J' = sv J := by
    unfold sv
    rw [show J' q_tSort = J q_tSort from ho 262 (by omega), show J' q_tSize = J q_tSize from ho 263 (by omega), show J' q_tNumber = J q_tNumber from ho 264 (by omega)]
  refine ⟨⟨ShL_ZT z1 (by omega) hS, ShR_ZT z1 (by omega) hR, by rw [z1.1]; exact hZ⟩, RfC_of h2 (ho 265 (by omega)) (ho 266 (by omega)) (ho 267 (by omega)), ⟨hC, hB, hT, h8⟩, ⟨by rw [e0, eR]; exact h5, ?_⟩, ⟨svC_of h7 (fun a a1 a2 => ho a (by omega)) eS, by rw [eS]; exact hs⟩, ⟨w, w1, by rw [e0]; exact w2, by rw [eR]; exact w3, by rw [e257, eW]; exact w4⟩, ⟨t, t1, by rw [e244]; exact t2, by rw [eR]; exact t3, by rw [e245, eT]; exact t4, by rw [e245]; exact t5⟩⟩
  rw [eR, eI]
  intro hh
  exact ⟨CM_T2 z1 (by omega) (by omega) (by omega) (fun a ha => ho a (by omega)) (h6 hh).1, (h6 hh).2⟩
theorem lw_back (h : LR Z J (J q_s)) : lawP l G Z J mX11_back mX12_back 4 1 0 0 [] := by
  obtain ⟨⟨hS, hR, hZ⟩, hC, ⟨hM, hB, hT, h8⟩, ⟨hi1, hi2⟩, -⟩ := id h
  refine tL_back (g := J q_image) hS hi1 (fun a => (hi2 a).1) (fun a => (hi2 a).2.1) (fun a => ⟨_, rfl, hR.1, ?_⟩) (fun a Z1 J1 z1 o1 c1 => ⟨_, rfl, (ShR_ZT z1 (by omega) hR).1, ?_⟩)
  · refine zM_s rfl ?_
    refine c_X12_back hR ?_
    rw [if_pos a, if_pos a]
    exact ⟨rfl, lr_fin h, Nat.le_refl _, by omega⟩
  · have eR : J1 qR = J qR := o1 258 (by omega)
    have eI : J1 q_image = J q_image := o1 260 (by omega)
    refine zM_s (o1 259 (by omega)) ?_
    refine c_X12_back (ShR_ZT z1 (by omega) hR) ?_
    rw [eR, eI, if_neg a, if_neg a, cp_lo (by omega)]
    have he : ∀ i, i < 5530 → cpF (J q_image) (J q_s) 5530 i = J q_image i := fun i hi => cp_lo hi
    exact ⟨rfl, lr_fin (LR_B h z1 o1 (CM_eq he c1) (InvB_eq he (hi2 a).2.1) (InvT_eq he (hi2 a).2.1 (hi2 a).2.2.1) (by rw [vN_eq (he 8 (by omega))]; exact (hi2 a).2.2.2)), by rw [z1.1]; exact Nat.le_refl _, by rw [z1.1]; omega⟩
theorem lw_check {x : Int32} (h : LR Z J (J q_s)) : lawP l G Z J mX11_check mX12_check 7 6 0 0 [.int x] := by
  obtain ⟨⟨hS, hR, hZ⟩, hC, ⟨hM, hB, hT, h8⟩, ⟨hi1, hi2⟩, ⟨hv, hvo⟩, ⟨w, w1, w2, w3, w4⟩, ⟨t, t1, t2, t3, t4, t5⟩⟩ := id h
  refine tL_check (g := J q_s) (img := J q_image) (ws := J q_waits) hS w2 w1 hi1 (fun a => (hi2 a).1) (fun a => (hi2 a).2) w4 (fun Z1 J1 z1 o1 => ⟨_, rfl, (ShR_ZT z1 (by omega) hR).1, ?_⟩)
  have hq : ∀ a, a ≠ 0 → (a < 163 ∨ 244 ≤ a) → J1 a = J a := fun a a1 a2 => by rw [o1 a (by omega), va_up_off a1]
  have e0 : J1 0 = upd (J 0) 6 (nI 0) := by rw [o1 0 (by omega), va_up_same]
  have eR : J1 qR = J qR := hq 258 (by omega) (by omega)
  have eI : J1 q_image = J q_image := hq 260 (by omega) (by omega)
  have eW : J1 q_waits = J q_waits := hq 280 (by omega) (by omega)
  refine zM_s (hq 259 (by omega) (by omega)) ?_
  refine c_X12_check (w := w) (ShR_ZT z1 (by omega) hR) (RfC_of hC (hq 265 (by omega) (by omega)) (hq 266 (by omega) (by omega)) (hq 267 (by omega) (by omega))) (by rw [eR]; exact w3) w1 (by rw [eR, eI]; exact fun a => (hi2 a).2) (fun K hK hKR => ?_)
  rw [eR, eI, eW]
  refine ⟨rfl, lr_fin ?_, by rw [z1.1]; exact Nat.le_refl _, by rw [z1.1]; omega⟩
  have hk : ∀ a, a ≠ 0 → a ≠ 258 → a ≠ 261 → a ≠ 273 → a ≠ 274 → a ≠ 281 → (a < 163 ∨ 244 ≤ a) → K a = J a := fun a a1 a2 a3 a4 a5 a6 a7 => by rw [hK a a5 a4 a6 a3 a2]; exact hq a a1 a7
  have k0 : K 0 = upd (J 0) 6 (nI 0) := by rw [hK 0 (by decide) (by decide) (by decide) (by decide) (by decide)]; exact e0
  have kR : K qR = upd (J qR) 34 (nI 0) := by rw [hKR, eR]
  have kI : K q_image = J q_image := hk 260 (by omega) (by omega) (by omega) (by omega) (by omega) (by omega) (by omega)
  have eS : sv K = sv J := by
    unfold sv
    rw [show K q_tSort = J q_tSort from hk 262 (by omega) (by omega) (by omega) (by omega) (by omega) (by omega) (by omega), show K q_tSize = J q_tSize from hk 263 (by omega) (by omega) (by omega) (by omega) (by omega) (by omega) (by omega), show K q_tNumber = J q_tNumber from hk 264 (by omega) (by omega) (by omega) (by omega) (by omega) (by omega) (by omega)]
  refine ⟨⟨ShL_ZT z1 (by omega) hS, ShR_ZT z1 (by omega) hR, by rw [z1.1]; exact hZ⟩, RfC_of hC (hk 265 (by omega) (by omega) (by omega) (by omega) (by omega) (by omega) (by omega)) (hk 266 (by omega) (by omega) (by omega) (by omega) (by omega) (by omega) (by omega)) (hk 267 (by omega) (by omega) (by omega) (by omega) (by omega) (by omega) (by omega)), ⟨CM_T2 z1 (by omega) (by omega) (by omega) (fun a ha => hk a (by omega) (by omega) (by omega) (by omega) (by omega) (by omega) (by omega)) hM, hB, hT, h8⟩, ⟨?_, ?_⟩, ⟨svC_of hv (fun a a1 a2 => hk a (by omega) (by omega) (by omega) (by omega) (by omega) (by omega) (by omega)) eS, by rw [eS]; exact hvo⟩, ⟨0, by omega, ?_, ?_, fun j hj => by omega⟩, ⟨t, t1, ?_, ?_, ?_, ?_⟩⟩
  · rw [k0, kR, upd_off (by decide), upd_off (by decide)]; exact hi1
  · rw [kR, upd_off (by decide), kI]
    intro hh
    exact ⟨CM_T2 z1 (by omega) (by omega) (by omega) (fun a ha => hk a (by omega) (by omega) (by omega) (by omega) (by omega) (by omega) (by omega)) (hi2 hh).1, (hi2 hh).2⟩
  · rw [k0, upd_same]
  · rw [kR, upd_same]
  · rw [hk 244 (by omega) (by omega) (by omega) (by omega) (by omega) (by omega) (by omega)]; exact t2
  · rw [kR, upd_off (by decide)]; exact t3
  · rw [hk 245 (by omega) (by omega) (by omega) (by omega) (by omega) (by omega) (by omega), show K q_tape = J q_tape from hk 272 (by omega) (by omega) (by omega) (by omega) (by omega) (by omega) (by omega)]; exact t4
  · rw [hk 245 (by omega) (by omega) (by omega) (by omega) (by omega) (by omega) (by omega)]; exact t5
end
