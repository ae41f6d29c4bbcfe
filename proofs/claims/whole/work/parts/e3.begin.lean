/-! ===== class and reference are alike as they begin ===== -/
theorem g0_z {i : Nat} (h0 : i ≠ 0) (h1 : ¬ (11 ≤ i ∧ i < 17)) (h2 : ¬ (20 ≤ i ∧ i < 52)) : g0 i = 0 := by
  unfold g0
  rw [upd_off (by omega), upd_off (by omega), upd_off (by omega), upd_off (by omega), upd_off (by omega), upd_off (by omega)]
  unfold gBegin
  rw [if_neg h0, if_neg (by omega)]
theorem g0_b {i : Nat} (h1 : ¬ (11 ≤ i ∧ i < 17)) : g0 i = gBegin (fun _ => 0) 8 i := by
  unfold g0
  rw [upd_off (by omega), upd_off (by omega), upd_off (by omega), upd_off (by omega), upd_off (by omega), upd_off (by omega)]
theorem g0_0 : g0 0 = nI 8 := by rw [g0_b (by omega)]; unfold gBegin; rw [if_pos rfl]
theorem g0_c {c : Nat} (hc : c < 8) : g0 (20 + 4 * c) = nI 50 ∧ g0 (20 + 4 * c + 1) = nI 50 ∧ g0 (20 + 4 * c + 2) = nI 0 ∧ g0 (20 + 4 * c + 3) = -1 := by
  refine ⟨?_, ?_, ?_, ?_⟩
  · rw [g0_b (by omega)]; unfold gBegin; rw [if_neg (by omega), if_pos (by omega), if_pos (by omega)]
  · rw [g0_b (by omega)]; unfold gBegin; rw [if_neg (by omega), if_pos (by omega), if_neg (by omega), if_pos (by omega)]
  · rw [g0_b (by omega)]; unfold gBegin; rw [if_neg (by omega), if_pos (by omega), if_neg (by omega), if_neg (by omega), if_pos (by omega)]
  · rw [g0_b (by omega)]; unfold gBegin; rw [if_neg (by omega), if_pos (by omega), if_neg (by omega), if_neg (by omega), if_neg (by omega)]
theorem g0_r {k : Nat} (hk : k < 6) : g0 (11 + k) = nI (gRul.getD k 0) := by
  rcases (by omega : k = 0 ∨ k = 1 ∨ k = 2 ∨ k = 3 ∨ k = 4 ∨ k = 5) with rfl | rfl | rfl | rfl | rfl | rfl <;> rfl
theorem g0_v0 : vN g0 0 = 8 := vN_nI g0_0 (by omega)
theorem g0_vz {i : Nat} (h0 : i ≠ 0) (h1 : ¬ (11 ≤ i ∧ i < 17)) (h2 : ¬ (20 ≤ i ∧ i < 52)) : vN g0 i = 0 := vN_nI (g0_z h0 h1 h2) (by omega)
theorem rg_0 {lo hi : Int} (h1 : lo ≤ 0) (h2 : 0 ≤ hi) : rg (0 : Int32) lo hi := by
  unfold rg
  rw [Int32.toInt_zero]; exact ⟨h1, h2⟩
theorem g0_rr : ∀ k : Fin 6, rg (nI (gRul.getD k.val 0)) 0 (mostOf k.val) := by
  intro k
  unfold rg
  revert k
  decide +kernel
theorem g0_B : InvB g0 := by
  unfold InvB
  rw [g0_v0, g0_vz (i := 1) (by omega) (by omega) (by omega), g0_vz (i := 2) (by omega) (by omega) (by omega), g0_vz (i := 4) (by omega) (by omega) (by omega), g0_vz (i := 5) (by omega) (by omega) (by omega), g0_vz (i := 6) (by omega) (by omega) (by omega), g0_vz (i := 7) (by omega) (by omega) (by omega), g0_0, g0_z (i := 1) (by omega) (by omega) (by omega), g0_z (i := 2) (by omega) (by omega) (by omega), g0_z (i := 3) (by omega) (by omega) (by omega), g0_z (i := 4) (by omega) (by omega) (by omega), g0_z (i := 5) (by omega) (by omega) (by omega), g0_z (i := 6) (by omega) (by omega) (by omega), g0_z (i := 7) (by omega) (by omega) (by omega), g0_z (i := 8) (by omega) (by omega) (by omega)]
  refine ⟨⟨rg_n (by omega) (by omega) (by omega), rg_0 (by omega) (by omega), rg_0 (by omega) (by omega), rg_0 (by omega) (by omega), rg_0 (by omega) (by omega), rg_0 (by omega) (by omega), rg_0 (by omega) (by omega), rg_0 (by omega) (by omega), rg_0 (by omega) (by omega)⟩, fun k hk => ?_, fun c hc => ?_, fun w hw => by omega, fun k hk => by omega, fun w k hw => by omega, fun k hk => by omega, fun k hk => by omega, fun k hk => by omega, fun k hk => by omega, fun k hk => ?_⟩
  · rw [g0_r hk]; exact g0_rr ⟨k, hk⟩
  · have h := g0_c hc
    unfold chainOK
    rw [h.1, h.2.1, h.2.2.1, h.2.2.2]
    exact ⟨rg_n (by omega) (by omega) (by omega), rg_n (by omega) (by omega) (by omega), rg_n (by omega) (by omega) (by omega), rg_m1 3 (by omega)⟩
  · rw [g0_z (by omega) (by omega) (by omega)]; exact rg_0 (by omega) (by omega)
section
variable {Z Z' : zS} {J K : zI}
theorem lAs_b : ∀ q ∈ lAs, q.1 ≤ 257 := by decide
theorem ShL_ZB (h : ZB 258 Z Z') (hS : ShL Z) : ShL Z' := by
  obtain ⟨a1, a3, a4, a5, a6, a7, a8⟩ := hS
  exact ⟨⟨zk_ZB h (by omega) a1.1, zk_ZB h (by omega) a1.2⟩, fun q hq => zr_ZB h (by have := lPs_b q hq; omega) (a3 q hq), fun q hq => za_ZB h (by have := lAs_b q hq; omega) (a4 q hq), fun v hv => ⟨zr_ZB h (by omega) (a5 v hv).1, zk_ZB h (by omega) (a5 v hv).2.1, zr_ZB h (by omega) (a5 v hv).2.2.1, za_ZB h (by omega) (a5 v hv).2.2.2⟩, ShM_ZB h (by omega) a6, ShM_ZB h (by omega) a7, ShM_ZB h (by omega) a8⟩
theorem LR_0 (hS : ShL Z') (hR : ShR Z') (hZ : 282 ≤ Z'.1) (hJ : LiI J) (hK : RfI J K) : LR Z' K (K q_s) := by
  obtain ⟨j1, ⟨j2, j3⟩, j4, j5, j6⟩ := hJ
  obtain ⟨k1, k2, k3, k4⟩ := hK
  have kz : ∀ a, ¬ (2 ≤ a ∧ a < 7) → ¬ (83 ≤ a ∧ a < 88) → ¬ (164 ≤ a ∧ a < 169) → ¬ (249 ≤ a ∧ a < 257) → a ≠ 259 → a ≠ 262 → a ≠ 265 → a ≠ 266 → a ≠ 267 → K a = fun _ => 0 := fun a a1 a2 a3 a4 b1 b2 b3 b4 b5 => by rw [k1 a b1 b2 b3 b4 b5]; exact j1 a a1 a2 a3 a4
  have ka : ∀ a, a < 258 → K a = J a := fun a ha => k1 a (by omega) (by omega) (by omega) (by omega) (by omega)
  have kR : K qR = fun _ => 0 := kz 258 (by omega) (by omega) (by omega) (by omega) (by omega) (by omega) (by omega) (by omega) (by omega)
  have k0 : K 0 = fun _ => 0 := kz 0 (by omega) (by omega) (by omega) (by omega) (by omega) (by omega) (by omega) (by omega) (by omega)
  have k244 : K 244 = fun _ => 0 := kz 244 (by omega) (by omega) (by omega) (by omega) (by omega) (by omega) (by omega) (by omega) (by omega)
  have kz1 : ∀ a, 7 ≤ a → a < 82 → K a = fun _ => 0 := fun a a1 a2 => kz a (by omega) (by omega) (by omega) (by omega) (by omega) (by omega) (by omega) (by omega) (by omega)
  rw [k2]
  refine ⟨⟨hS, hR, hZ⟩, k4, ⟨⟨?_, ?_, ?_, ?_, ?_, ?_, ?_, ?_⟩, g0_B, fun t ht => ?_, ?_⟩, ⟨by rw [k0, kR], fun h => absurd (by rw [kR]) h⟩, ⟨fun v hv => ?_, fun j hj => ?_⟩, ⟨0, by omega, by rw [k0]; rfl, by rw [kR]; rfl, fun j hj => by omega⟩, ⟨0, by omega, by rw [k244]; rfl, by rw [kR]; rfl, ?_, fun j hj => by omega⟩⟩
  · refine ⟨⟨by rw [g0_v0]; omega, ?_⟩, fun c hc => ?_, ⟨0, by decide, ?_, fun c hc => ?_⟩, fun k hk => ?_⟩
    · show K 2 0 = _
      rw [ka 2 (by omega), g0_0]; exact j2
    · rw [g0_v0] at hc
      have h := g0_c hc
      show K 3 c = _ ∧ K 4 c = _ ∧ K 5 c = _
      rw [h.1, h.2.1, h.2.2.1, ka 3 (by omega), ka 4 (by omega), ka 5 (by omega)]
      exact j4 c (by omega)
    · show K 2 4 = _
      rw [ka 2 (by omega)]; exact j3
    · rw [g0_v0] at hc
      have h := g0_c hc
      rw [h.2.2.2, Nat.zero_testBit]
      exact ⟨fun a => (by cases a), fun a => absurd a (by decide)⟩
    · show K 6 k = _
      rw [ka 6 (by omega), g0_r hk]; exact j5 k hk
  · refine ⟨by rw [g0_vz (by omega) (by omega) (by omega)]; omega, ?_, fun w hw => ?_⟩
    · show K 11 1 = _
      rw [kz1 11 (by omega) (by omega), g0_z (by omega) (by omega) (by omega)]
    · rw [g0_vz (by omega) (by omega) (by omega)] at hw; omega
  · refine ⟨by rw [g0_vz (by omega) (by omega) (by omega)]; omega, ?_, fun w hw => ?_⟩
    · show K 11 4 = _
      rw [kz1 11 (by omega) (by omega), g0_z (by omega) (by omega) (by omega)]
    · rw [g0_vz (by omega) (by omega) (by omega)] at hw; omega
  · refine ⟨by rw [g0_vz (by omega) (by omega) (by omega)]; omega, ?_, fun w hw => ?_⟩
    · show K 64 1 = _
      rw [kz1 64 (by omega) (by omega), g0_z (by omega) (by omega) (by omega)]
    · rw [g0_vz (by omega) (by omega) (by omega)] at hw; omega
  · refine ⟨by rw [g0_vz (by omega) (by omega) (by omega)]; omega, ?_, fun w hw => ?_⟩
    · show K 67 3 = _
      rw [kz1 67 (by omega) (by omega), g0_z (by omega) (by omega) (by omega)]
    · rw [g0_vz (by omega) (by omega) (by omega)] at hw; omega
  · refine ⟨by rw [g0_vz (by omega) (by omega) (by omega)]; omega, ?_, ?_, ?_, fun w hw => ?_⟩
    · show K 73 0 = _
      rw [kz1 73 (by omega) (by omega), g0_z (by omega) (by omega) (by omega)]
    · show K 73 1 = _
      rw [kz1 73 (by omega) (by omega), g0_z (by omega) (by omega) (by omega)]
    · show K 73 4 = _
      rw [kz1 73 (by omega) (by omega), g0_z (by omega) (by omega) (by omega)]
    · rw [g0_vz (by omega) (by omega) (by omega)] at hw; omega
  · refine ⟨⟨by rw [g0_vz (by omega) (by omega) (by omega)]; omega, by rw [g0_vz (by omega) (by omega) (by omega)]; omega⟩, ?_, ?_, fun w hw => ?_, fun w hw => ?_⟩
    · show K 76 2 = _
      rw [kz1 76 (by omega) (by omega), g0_z (by omega) (by omega) (by omega)]
    · show K 76 4 = _
      rw [kz1 76 (by omega) (by omega), g0_z (by omega) (by omega) (by omega)]
    · rw [g0_vz (by omega) (by omega) (by omega)] at hw; omega
    · rw [g0_vz (by omega) (by omega) (by omega)] at hw; omega
  · refine ⟨?_, fun k hk => ?_⟩
    · rw [ka 1 (by omega), j1 1 (by omega) (by omega) (by omega) (by omega), g0_z (by omega) (by omega) (by omega)]
    · show K 81 k = _
      rw [kz1 81 (by omega) (by omega), g0_z (by omega) (by omega) (by omega)]
  · rw [g0_vz (by omega) (by omega) (by omega)] at ht; omega
  · rw [g0_vz (by omega) (by omega) (by omega)]; omega
  · have h := j6 v hv
    show K (249 + 2 * v) 0 = K q_tSort v ∧ K (249 + 2 * v) 1 = K q_tSize v ∧ ∀ k, k < 24 → K (249 + 2 * v + 1) k = K q_tNumber (24 * v + k)
    rw [ka (249 + 2 * v) (by omega), ka (249 + 2 * v + 1) (by omega), h.1, h.2.1, h.2.2, k3 v hv, show K q_tSize = fun _ => 0 from kz 263 (by omega) (by omega) (by omega) (by omega) (by omega) (by omega) (by omega) (by omega) (by omega), show K q_tNumber = fun _ => 0 from kz 264 (by omega) (by omega) (by omega) (by omega) (by omega) (by omega) (by omega) (by omega) (by omega)]
    exact ⟨rfl, rfl, fun _ _ => rfl⟩
  · show rg (K q_tSort j) (-1) 1 ∧ rg (K q_tSize j) 0 24
    rw [k3 j hj, show K q_tSize = fun _ => 0 from kz 263 (by omega) (by omega) (by omega) (by omega) (by omega) (by omega) (by omega) (by omega) (by omega)]
    exact ⟨rg_m1 1 (by omega), rg_0 (by omega) (by omega)⟩
  · rw [kz 245 (by omega) (by omega) (by omega) (by omega) (by omega) (by omega) (by omega) (by omega) (by omega)]
    exact (kz 272 (by omega) (by omega) (by omega) (by omega) (by omega) (by omega) (by omega) (by omega) (by omega)).symm
end
