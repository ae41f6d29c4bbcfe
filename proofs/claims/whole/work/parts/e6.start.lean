/-! ===== the law from its start ===== -/
section
variable {l : Launch} {G : zG} {nm : String}
theorem la_start (hL2 : G.2.2.2.2.1 ≤ 3072) {Z : zS} (hZ : Z.1 = 0) : zX l G (mdL nm) 124 600000 7302250 0 [some (.ref 1000030), none, none, none] [] Z (fun _ _ => 0) (fun r _ _ => r = some (.int (nI 1))) := by
  have h0 : FM Z 0 [] [] [] [] := ⟨hZ, fun q hq => absurd hq List.not_mem_nil, fun q hq => absurd hq List.not_mem_nil, fun q hq => absurd hq List.not_mem_nil, fun q hq => absurd hq List.not_mem_nil⟩
  refine u_new (ci := 11) (m := 3) h0 (fun a _ => rfl) dL_law_0 rfl (by decide) ckL_7 iiX11 zi_X11 (by decide) (by decide) (by decide) (fun Z1 h1 k1 => ?_)
  refine x_dup (n := 4) dL_law_3 rfl rfl ?_
  refine x_gI0 (n := 7) (mc := 257) (ms := 16700) (d' := 5) zcX11_init mlL_9 dL_law_4 rfl (Nat.le_of_ble_eq_true rfl) (by decide) (by decide) (Nat.le_of_ble_eq_true rfl) ?_
  refine m_X11_init (FM_k h1 k1) rfl (fun Z2 J2 e2 hS2 hI2 => ?_)
  refine x_none ?_
  refine x_ast1 (n := 8) dL_law_7 rfl (show 1 < 4 by decide) rfl ?_
  have hz2 : ∀ a, 258 ≤ a → J2 a = fun _ => 0 := fun a ha => hI2.1 a (by omega) (by omega) (by omega) (by omega)
  refine x_new (n := 11) (ci := 12) dL_law_8 rfl (by decide) ckL_10 iiX12 zi_X12 (by rw [e2]; decide) (by decide) (by decide) ?_
  rw [znI_n hz2 e2, e2]
  refine x_dup (n := 12) dL_law_11 rfl rfl ?_
  refine x_gI0 (n := 15) (mc := 23) (ms := 40000) (d' := 2) zcX12_init mlL_12 dL_law_12 rfl (Nat.le_of_ble_eq_true rfl) (by decide) (by decide) (Nat.le_of_ble_eq_true rfl) ?_
  have hX : ZX Z2 (znO Z2 12) := ZX_O 12
  have hn : (znO Z2 12).1 = 258 + 1 := by show Z2.1 + 1 = _; rw [e2]
  have hk : zk (znO Z2 12) 258 12 := ⟨by rw [hn]; decide, by show va_up Z2.2.1 Z2.1 12 258 = 12; rw [e2, va_up_same]⟩
  refine m_X12_init (Z0 := znO Z2 12) ⟨hn, fun a ha => ⟨rfl, rfl, rfl⟩, fun q hq => by rw [List.mem_singleton] at hq; subst hq; exact hk, fun q hq => absurd hq List.not_mem_nil, fun q hq => absurd hq List.not_mem_nil, fun w hw => absurd hw (Nat.not_lt_zero _)⟩ (fun a ha => hz2 a (by omega)) (fun Z3 K e3 hb3 hR hK => ?_)
  refine x_none ?_
  refine x_ast2 (n := 16) dL_law_15 rfl (show 2 < 4 by decide) rfl ?_
  refine x_ic0 (n := 17) dL_law_16 rfl ?_
  refine x_ist3 (n := 18) dL_law_17 rfl (show 3 < 4 by decide) rfl ?_
  have hS3 : ShL Z3 := by
    refine ShL_ZB (Z := znO Z2 12) ⟨by rw [e3]; decide, hb3⟩ (ShL_ZB (Z := Z2) ⟨by rw [hn]; decide, fun a ha => hX.2 a (by rw [e2]; exact ha)⟩ hS2)
  exact la_loop hL2 513 0 Z3 K _ _ (by omega) (by decide) (by decide) (by decide) (by rw [e3]; decide) (LR_0 hS3 hR (by rw [e3]; decide) hI2 hK)
end
