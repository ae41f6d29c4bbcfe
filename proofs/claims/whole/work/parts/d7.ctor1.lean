/-! ===== constructors of the parts ===== -/
section
variable {ps : List (Nat × Nat × Nat)} {p k j b : Nat}
theorem np0 (h : ∀ q ∈ ps, q.1 ≠ p) : ∀ q ∈ ps, ¬ (q.1 = p ∧ q.2.1 = k) := fun q hq a => h q hq a.1
theorem np1 (h : ∀ q ∈ ps, ¬ (q.1 = p ∧ q.2.1 = k)) (hj : j ≠ k) : ∀ q ∈ ps ++ [(p, j, b)], ¬ (q.1 = p ∧ q.2.1 = k) := fun q hq a => by
  rcases List.mem_append.mp hq with hq | hq
  · exact h q hq a
  · rw [List.mem_singleton] at hq
    subst hq
    exact hj a.2
end
section
variable {l : Launch} {G : zG} {Z0 Z : zS} {I : zI} {Q : Option Value → zS → zI → Prop} {mk n kw p : Nat} {ks : List (Nat × Nat)} {ps as : List (Nat × Nat × Nat)}
theorem m_X9_init (h : FL Z0 Z mk n ks ps as kw) (hz : ∀ a, mk + n ≤ a → I a = fun _ => 0) (hk : (p, 9) ∈ ks) (hpn : p < n) (hps : ∀ q ∈ ps, q.1 ≠ p) (hw : kw = 0 ∨ p < 11 ∨ 15 + 2 * kw ≤ p ∨ (11 < p ∧ p < 15)) (hm : mk + n + 100 < 900000) (hq : ∀ Z', FL Z0 Z' mk (n + 1) ks (ps ++ [(p, 7, n)]) (as ++ [(n, 13, 2)]) kw → Q none Z' I) : zM l G mX9_init 1 1 2 [.ref (mk + p)] Z I Q := by
  refine x_entry [some (.ref (mk + p))] 0 rfl rfl (Nat.le_of_ble_eq_true rfl) ?_
  refine x_ald0 (n := 1) dX9_init_0 rfl ?_
  refine x_objI (n := 4) dX9_init_1 rfl mlX9_3 zoI zoC (by decide) (Nat.le_of_ble_eq_true rfl) ?_
  refine x_ald0 (n := 5) dX9_init_4 rfl ?_
  refine x_ic2 (n := 6) dX9_init_5 rfl ?_
  refine y_newI (N := 2) (n := n) (m := 8) h (fun a ha => hz a (by omega)) dX9_init_6 rfl (by decide) (by omega) (by decide) (by decide) (fun Zh1 h1 => ?_)
  refine y_putR (p := p) (b := n) (k := 7) (m := 11) h1 flX9_9 rfl (Or.inr ⟨rfl, rfl⟩) (fun q => by cases q <;> exact ⟨rfl, rfl⟩) dX9_init_8 rfl hk (by omega) (np0 hps) hw (fun Zh2 h2 => ?_)
  refine r_vret dX9_init_11 rfl ?_
  exact hq _ h2
theorem m_X8_init (h : FL Z0 Z mk n ks ps as kw) (hz : ∀ a, mk + n ≤ a → I a = fun _ => 0) (hk : (p, 8) ∈ ks) (hpn : p < n) (hps : ∀ q ∈ ps, q.1 ≠ p) (hw : kw = 0 ∨ p < 11 ∨ 15 + 2 * kw ≤ p ∨ (11 < p ∧ p < 15)) (hm : mk + n + 100 < 900000) (hq : ∀ Z', FL Z0 Z' mk (n + 2) ks (ps ++ [(p, 0, n)] ++ [(p, 2, n + 1)]) (as ++ [(n, 16, 14)] ++ [(n + 1, 13, 96)]) kw → Q none Z' I) : zM l G mX8_init 1 2 110 [.ref (mk + p)] Z I Q := by
  refine x_entry [some (.ref (mk + p))] 0 rfl rfl (Nat.le_of_ble_eq_true rfl) ?_
  refine x_ald0 (n := 1) dX8_init_0 rfl ?_
  refine x_objI (n := 4) dX8_init_1 rfl mlX8_3 zoI zoC (by decide) (Nat.le_of_ble_eq_true rfl) ?_
  refine x_ald0 (n := 5) dX8_init_4 rfl ?_
  refine x_bipush (n := 7) (v := nI 14) dX8_init_5 rfl (by decide) ?_
  refine y_newA (N := 14) (ci := 16) (n := n) (m := 10) h (fun a ha => hz a (by omega)) dX8_init_7 rfl ⟨by decide, by decide⟩ ckX8_11 (by decide) (by omega) (by decide) (by decide) (fun Zh1 h1 => ?_)
  refine y_putR (p := p) (b := n) (k := 0) (m := 13) h1 flX8_13 rfl (Or.inr ⟨rfl, rfl⟩) (fun q => by cases q <;> exact ⟨rfl, rfl⟩) dX8_init_10 rfl hk (by omega) (np0 hps) hw (fun Zh2 h2 => ?_)
  refine x_ald0 (n := 14) dX8_init_13 rfl ?_
  refine x_bipush (n := 16) (v := nI 96) dX8_init_14 rfl (by decide) ?_
  refine y_newI (N := 96) (n := n + 1) (m := 18) h2 (fun a ha => hz a (by omega)) dX8_init_16 rfl (by decide) (by omega) (by decide) (by decide) (fun Zh3 h3 => ?_)
  refine y_putR (p := p) (b := n + 1) (k := 2) (m := 21) h3 flX8_19 rfl (Or.inr ⟨rfl, rfl⟩) (fun q => by cases q <;> exact ⟨rfl, rfl⟩) dX8_init_18 rfl hk (by omega) (np1 (np0 hps) (by decide)) hw (fun Zh4 h4 => ?_)
  refine r_vret dX8_init_21 rfl ?_
  exact hq _ h4
theorem m_X0_init (h : FL Z0 Z mk n ks ps as kw) (hz : ∀ a, mk + n ≤ a → I a = fun _ => 0) (hk : (p, 0) ∈ ks) (hpn : p < n) (hps : ∀ q ∈ ps, q.1 ≠ p) (hw : kw = 0 ∨ p < 11 ∨ 15 + 2 * kw ≤ p ∨ (11 < p ∧ p < 15)) (hm : mk + n + 100 < 900000) (hq : ∀ Z', FL Z0 Z' mk (n + 5) ks (ps ++ [(p, 0, n)] ++ [(p, 1, n + 1)] ++ [(p, 2, n + 2)] ++ [(p, 4, n + 3)] ++ [(p, 5, n + 4)]) (as ++ [(n, 13, 20)] ++ [(n + 1, 13, 20)] ++ [(n + 2, 13, 20)] ++ [(n + 3, 13, 40)] ++ [(n + 4, 13, 63)]) kw → Q none Z' I) : zM l G mX0_init 1 5 2100 [.ref (mk + p)] Z I Q := by
  refine x_entry [some (.ref (mk + p))] 0 rfl rfl (Nat.le_of_ble_eq_true rfl) ?_
  refine x_ald0 (n := 1) dX0_init_0 rfl ?_
  refine x_objI (n := 4) dX0_init_1 rfl mlX0_3 zoI zoC (by decide) (Nat.le_of_ble_eq_true rfl) ?_
  refine x_ald0 (n := 5) dX0_init_4 rfl ?_
  refine x_bipush (n := 7) (v := nI 20) dX0_init_5 rfl (by decide) ?_
  refine y_newI (N := 20) (n := n) (m := 9) h (fun a ha => hz a (by omega)) dX0_init_7 rfl (by decide) (by omega) (by decide) (by decide) (fun Zh1 h1 => ?_)
  refine y_putR (p := p) (b := n) (k := 0) (m := 12) h1 flX0_11 rfl (Or.inr ⟨rfl, rfl⟩) (fun q => by cases q <;> exact ⟨rfl, rfl⟩) dX0_init_9 rfl hk (by omega) (np0 hps) hw (fun Zh2 h2 => ?_)
  refine x_ald0 (n := 13) dX0_init_12 rfl ?_
  refine x_bipush (n := 15) (v := nI 20) dX0_init_13 rfl (by decide) ?_
  refine y_newI (N := 20) (n := n + 1) (m := 17) h2 (fun a ha => hz a (by omega)) dX0_init_15 rfl (by decide) (by omega) (by decide) (by decide) (fun Zh3 h3 => ?_)
  refine y_putR (p := p) (b := n + 1) (k := 1) (m := 20) h3 flX0_15 rfl (Or.inr ⟨rfl, rfl⟩) (fun q => by cases q <;> exact ⟨rfl, rfl⟩) dX0_init_17 rfl hk (by omega) (np1 (np0 hps) (by decide)) hw (fun Zh4 h4 => ?_)
  refine x_ald0 (n := 21) dX0_init_20 rfl ?_
  refine x_bipush (n := 23) (v := nI 20) dX0_init_21 rfl (by decide) ?_
  refine y_newI (N := 20) (n := n + 2) (m := 25) h4 (fun a ha => hz a (by omega)) dX0_init_23 rfl (by decide) (by omega) (by decide) (by decide) (fun Zh5 h5 => ?_)
  refine y_putR (p := p) (b := n + 2) (k := 2) (m := 28) h5 flX0_18 rfl (Or.inr ⟨rfl, rfl⟩) (fun q => by cases q <;> exact ⟨rfl, rfl⟩) dX0_init_25 rfl hk (by omega) (np1 (np1 (np0 hps) (by decide)) (by decide)) hw (fun Zh6 h6 => ?_)
  refine x_ald0 (n := 29) dX0_init_28 rfl ?_
  refine x_bipush (n := 31) (v := nI 40) dX0_init_29 rfl (by decide) ?_
  refine y_newI (N := 40) (n := n + 3) (m := 33) h6 (fun a ha => hz a (by omega)) dX0_init_31 rfl (by decide) (by omega) (by decide) (by decide) (fun Zh7 h7 => ?_)
  refine y_putR (p := p) (b := n + 3) (k := 4) (m := 36) h7 flX0_21 rfl (Or.inr ⟨rfl, rfl⟩) (fun q => by cases q <;> exact ⟨rfl, rfl⟩) dX0_init_33 rfl hk (by omega) (np1 (np1 (np1 (np0 hps) (by decide)) (by decide)) (by decide)) hw (fun Zh8 h8 => ?_)
  refine x_ald0 (n := 37) dX0_init_36 rfl ?_
  refine x_bipush (n := 39) (v := nI 63) dX0_init_37 rfl (by decide) ?_
  refine y_newI (N := 63) (n := n + 4) (m := 41) h8 (fun a ha => hz a (by omega)) dX0_init_39 rfl (by decide) (by omega) (by decide) (by decide) (fun Zh9 h9 => ?_)
  refine y_putR (p := p) (b := n + 4) (k := 5) (m := 44) h9 flX0_24 rfl (Or.inr ⟨rfl, rfl⟩) (fun q => by cases q <;> exact ⟨rfl, rfl⟩) dX0_init_41 rfl hk (by omega) (np1 (np1 (np1 (np1 (np0 hps) (by decide)) (by decide)) (by decide)) (by decide)) hw (fun Zh10 h10 => ?_)
  refine r_vret dX0_init_44 rfl ?_
  exact hq _ h10
theorem m_X4_init (h : FL Z0 Z mk n ks ps as kw) (hz : ∀ a, mk + n ≤ a → I a = fun _ => 0) (hk : (p, 4) ∈ ks) (hpn : p < n) (hps : ∀ q ∈ ps, q.1 ≠ p) (hw : kw = 0 ∨ p < 11 ∨ 15 + 2 * kw ≤ p ∨ (11 < p ∧ p < 15)) (hm : mk + n + 100 < 900000) (hq : ∀ Z', FL Z0 Z' mk (n + 2) ks (ps ++ [(p, 2, n)] ++ [(p, 3, n + 1)]) (as ++ [(n, 13, 20)] ++ [(n + 1, 13, 20)]) kw → Q none Z' I) : zM l G mX4_init 1 2 40 [.ref (mk + p)] Z I Q := by
  refine x_entry [some (.ref (mk + p))] 0 rfl rfl (Nat.le_of_ble_eq_true rfl) ?_
  refine x_ald0 (n := 1) dX4_init_0 rfl ?_
  refine x_objI (n := 4) dX4_init_1 rfl mlX4_3 zoI zoC (by decide) (Nat.le_of_ble_eq_true rfl) ?_
  refine x_ald0 (n := 5) dX4_init_4 rfl ?_
  refine x_bipush (n := 7) (v := nI 20) dX4_init_5 rfl (by decide) ?_
  refine y_newI (N := 20) (n := n) (m := 9) h (fun a ha => hz a (by omega)) dX4_init_7 rfl (by decide) (by omega) (by decide) (by decide) (fun Zh1 h1 => ?_)
  refine y_putR (p := p) (b := n) (k := 2) (m := 12) h1 flX4_11 rfl (Or.inr ⟨rfl, rfl⟩) (fun q => by cases q <;> exact ⟨rfl, rfl⟩) dX4_init_9 rfl hk (by omega) (np0 hps) hw (fun Zh2 h2 => ?_)
  refine x_ald0 (n := 13) dX4_init_12 rfl ?_
  refine x_bipush (n := 15) (v := nI 20) dX4_init_13 rfl (by decide) ?_
  refine y_newI (N := 20) (n := n + 1) (m := 17) h2 (fun a ha => hz a (by omega)) dX4_init_15 rfl (by decide) (by omega) (by decide) (by decide) (fun Zh3 h3 => ?_)
  refine y_putR (p := p) (b := n + 1) (k := 3) (m := 20) h3 flX4_15 rfl (Or.inr ⟨rfl, rfl⟩) (fun q => by cases q <;> exact ⟨rfl, rfl⟩) dX4_init_17 rfl hk (by omega) (np1 (np0 hps) (by decide)) hw (fun Zh4 h4 => ?_)
  refine r_vret dX4_init_20 rfl ?_
  exact hq _ h4
theorem m_X3_init (h : FL Z0 Z mk n ks ps as kw) (hz : ∀ a, mk + n ≤ a → I a = fun _ => 0) (hk : (p, 3) ∈ ks) (hpn : p < n) (hps : ∀ q ∈ ps, q.1 ≠ p) (hw : kw = 0 ∨ p < 11 ∨ 15 + 2 * kw ≤ p ∨ (11 < p ∧ p < 15)) (hm : mk + n + 100 < 900000) (hq : ∀ Z', FL Z0 Z' mk (n + 4) ks (ps ++ [(p, 0, n)] ++ [(p, 1, n + 1)] ++ [(p, 3, n + 2)] ++ [(p, 5, n + 3)]) (as ++ [(n, 13, 6)] ++ [(n + 1, 13, 6)] ++ [(n + 2, 13, 8)] ++ [(n + 3, 13, 256)]) kw → Q none Z' I) : zM l G mX3_init 1 4 276 [.ref (mk + p)] Z I Q := by
  refine x_entry [some (.ref (mk + p))] 0 rfl rfl (Nat.le_of_ble_eq_true rfl) ?_
  refine x_ald0 (n := 1) dX3_init_0 rfl ?_
  refine x_objI (n := 4) dX3_init_1 rfl mlX3_3 zoI zoC (by decide) (Nat.le_of_ble_eq_true rfl) ?_
  refine x_ald0 (n := 5) dX3_init_4 rfl ?_
  refine x_bipush (n := 7) (v := nI 6) dX3_init_5 rfl (by decide) ?_
  refine y_newI (N := 6) (n := n) (m := 9) h (fun a ha => hz a (by omega)) dX3_init_7 rfl (by decide) (by omega) (by decide) (by decide) (fun Zh1 h1 => ?_)
  refine y_putR (p := p) (b := n) (k := 0) (m := 12) h1 flX3_11 rfl (Or.inr ⟨rfl, rfl⟩) (fun q => by cases q <;> exact ⟨rfl, rfl⟩) dX3_init_9 rfl hk (by omega) (np0 hps) hw (fun Zh2 h2 => ?_)
  refine x_ald0 (n := 13) dX3_init_12 rfl ?_
  refine x_bipush (n := 15) (v := nI 6) dX3_init_13 rfl (by decide) ?_
  refine y_newI (N := 6) (n := n + 1) (m := 17) h2 (fun a ha => hz a (by omega)) dX3_init_15 rfl (by decide) (by omega) (by decide) (by decide) (fun Zh3 h3 => ?_)
  refine y_putR (p := p) (b := n + 1) (k := 1) (m := 20) h3 flX3_15 rfl (Or.inr ⟨rfl, rfl⟩) (fun q => by cases q <;> exact ⟨rfl, rfl⟩) dX3_init_17 rfl hk (by omega) (np1 (np0 hps) (by decide)) hw (fun Zh4 h4 => ?_)
  refine x_ald0 (n := 21) dX3_init_20 rfl ?_
  refine x_bipush (n := 23) (v := nI 8) dX3_init_21 rfl (by decide) ?_
  refine y_newI (N := 8) (n := n + 2) (m := 25) h4 (fun a ha => hz a (by omega)) dX3_init_23 rfl (by decide) (by omega) (by decide) (by decide) (fun Zh5 h5 => ?_)
  refine y_putR (p := p) (b := n + 2) (k := 3) (m := 28) h5 flX3_18 rfl (Or.inr ⟨rfl, rfl⟩) (fun q => by cases q <;> exact ⟨rfl, rfl⟩) dX3_init_25 rfl hk (by omega) (np1 (np1 (np0 hps) (by decide)) (by decide)) hw (fun Zh6 h6 => ?_)
  refine x_ald0 (n := 29) dX3_init_28 rfl ?_
  refine x_sipush (n := 32) (v := nI 256) dX3_init_29 rfl (by decide) ?_
  refine y_newI (N := 256) (n := n + 3) (m := 34) h6 (fun a ha => hz a (by omega)) dX3_init_32 rfl (by decide) (by omega) (by decide) (by decide) (fun Zh7 h7 => ?_)
  refine y_putR (p := p) (b := n + 3) (k := 5) (m := 37) h7 flX3_21 rfl (Or.inr ⟨rfl, rfl⟩) (fun q => by cases q <;> exact ⟨rfl, rfl⟩) dX3_init_34 rfl hk (by omega) (np1 (np1 (np1 (np0 hps) (by decide)) (by decide)) (by decide)) hw (fun Zh8 h8 => ?_)
  refine r_vret dX3_init_37 rfl ?_
  exact hq _ h8
theorem m_X6_init (h : FL Z0 Z mk n ks ps as kw) (hz : ∀ a, mk + n ≤ a → I a = fun _ => 0) (hk : (p, 6) ∈ ks) (hpn : p < n) (hps : ∀ q ∈ ps, q.1 ≠ p) (hw : kw = 0 ∨ p < 11 ∨ 15 + 2 * kw ≤ p ∨ (11 < p ∧ p < 15)) (hm : mk + n + 100 < 900000) (hq : ∀ Z', FL Z0 Z' mk (n + 3) ks (ps ++ [(p, 0, n)] ++ [(p, 3, n + 1)] ++ [(p, 5, n + 2)]) (as ++ [(n, 13, 96)] ++ [(n + 1, 13, 96)] ++ [(n + 2, 13, 96)]) kw → Q none Z' I) : zM l G mX6_init 1 3 288 [.ref (mk + p)] Z I Q := by
  refine x_entry [some (.ref (mk + p))] 0 rfl rfl (Nat.le_of_ble_eq_true rfl) ?_
  refine x_ald0 (n := 1) dX6_init_0 rfl ?_
  refine x_objI (n := 4) dX6_init_1 rfl mlX6_1 zoI zoC (by decide) (Nat.le_of_ble_eq_true rfl) ?_
  refine x_ald0 (n := 5) dX6_init_4 rfl ?_
  refine x_bipush (n := 7) (v := nI 96) dX6_init_5 rfl (by decide) ?_
  refine y_newI (N := 96) (n := n) (m := 9) h (fun a ha => hz a (by omega)) dX6_init_7 rfl (by decide) (by omega) (by decide) (by decide) (fun Zh1 h1 => ?_)
  refine y_putR (p := p) (b := n) (k := 0) (m := 12) h1 flX6_9 rfl (Or.inr ⟨rfl, rfl⟩) (fun q => by cases q <;> exact ⟨rfl, rfl⟩) dX6_init_9 rfl hk (by omega) (np0 hps) hw (fun Zh2 h2 => ?_)
  refine x_ald0 (n := 13) dX6_init_12 rfl ?_
  refine x_bipush (n := 15) (v := nI 96) dX6_init_13 rfl (by decide) ?_
  refine y_newI (N := 96) (n := n + 1) (m := 17) h2 (fun a ha => hz a (by omega)) dX6_init_15 rfl (by decide) (by omega) (by decide) (by decide) (fun Zh3 h3 => ?_)
  refine y_putR (p := p) (b := n + 1) (k := 3) (m := 20) h3 flX6_13 rfl (Or.inr ⟨rfl, rfl⟩) (fun q => by cases q <;> exact ⟨rfl, rfl⟩) dX6_init_17 rfl hk (by omega) (np1 (np0 hps) (by decide)) hw (fun Zh4 h4 => ?_)
  refine x_ald0 (n := 21) dX6_init_20 rfl ?_
  refine x_bipush (n := 23) (v := nI 96) dX6_init_21 rfl (by decide) ?_
  refine y_newI (N := 96) (n := n + 2) (m := 25) h4 (fun a ha => hz a (by omega)) dX6_init_23 rfl (by decide) (by omega) (by decide) (by decide) (fun Zh5 h5 => ?_)
  refine y_putR (p := p) (b := n + 2) (k := 5) (m := 28) h5 flX6_16 rfl (Or.inr ⟨rfl, rfl⟩) (fun q => by cases q <;> exact ⟨rfl, rfl⟩) dX6_init_25 rfl hk (by omega) (np1 (np1 (np0 hps) (by decide)) (by decide)) hw (fun Zh6 h6 => ?_)
  refine r_vret dX6_init_28 rfl ?_
  exact hq _ h6
end
