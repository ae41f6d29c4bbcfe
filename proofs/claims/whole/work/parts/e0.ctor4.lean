/-! ===== the constructor of Making ===== -/
def MkP (Z0 Z : zS) (mk : Nat) : Prop := Z.1 = mk + 81 ∧ (∀ a, a < mk → Z.2.1 a = Z0.2.1 a ∧ Z.2.2.1 a = Z0.2.2.1 a ∧ Z.2.2.2 a = Z0.2.2.2 a) ∧ ShM Z mk
/-- the ints of a new Making -/
def MkI (I J : zI) (mk : Nat) : Prop := (∀ a, a ≤ mk ∨ mk + 6 ≤ a → J a = I a) ∧ J (mk + 1) = upd (upd (I (mk + 1)) 0 (nI 8)) 4 (nI 0) ∧ (∀ c, c < 24 → J (mk + 2) c = nI 50 ∧ J (mk + 3) c = nI 50 ∧ J (mk + 4) c = nI 0) ∧ ∀ k, k < 6 → J (mk + 5) k = nI (gRul.getD k 0)
section
variable {l : Launch} {G : zG} {Z0 Z : zS} {I : zI} {Q : Option Value → zS → zI → Prop} {mk : Nat}
theorem m_X2_init (h : FL Z0 Z mk 1 [(0, 2)] [] [] 0) (hz : ∀ a, mk + 1 ≤ a → I a = fun _ => 0) (hm : mk + 300 < 900000) (hq : ∀ Z' J, MkP Z0 Z' mk → MkI I J mk → Q none Z' J) : zM l G mX2_init 4 80 5390 [.ref mk] Z I Q := by
  refine x_entry [some (.ref (mk + 0))] 0 rfl rfl (Nat.le_of_ble_eq_true rfl) ?_
  refine x_ald0 (n := 1) dX2_init_0 rfl ?_
  refine x_objI (n := 4) dX2_init_1 rfl mlX2_3 zoI zoC (by decide) (Nat.le_of_ble_eq_true rfl) ?_
  refine x_ald0 (n := 5) dX2_init_4 rfl ?_
  refine y_new (ci := 1) (n := 1) (m := 8) h (fun a ha => hz a (by omega)) dX2_init_5 rfl (by decide) ckX2_9 iiX1 zi_X1 (by omega) (by decide) (by decide) (fun Zh5 h5 => ?_)
  refine x_dup (n := 9) dX2_init_8 rfl rfl ?_
  refine x_gI0 (n := 12) (mc := 8) (ms := 524) (d' := 3) zcX1_init mlX2_11 dX2_init_9 rfl (Nat.le_of_ble_eq_true rfl) (by decide) (by decide) (Nat.le_of_ble_eq_true rfl) ?_
  refine m_X1_init h5 (fun a ha => hz a (by omega)) (by omega) (fun Zh9 J h9 o1 o2 o3 o4 => ?_)
  have hz2 : ∀ a, mk + 10 ≤ a → J a = fun _ => 0 := fun a ha => by rw [o1 a (by omega)]; exact hz a (by omega)
  refine x_none ?_
  refine y_putR (p := 0) (b := 1) (k := 0) (m := 15) h9 flX2_12 rfl (Or.inr ⟨rfl, rfl⟩) (fun q => by cases q <;> exact ⟨rfl, rfl⟩) dX2_init_12 rfl (by decide) (by decide) (by decide) (by decide) (fun Zh12 h12 => ?_)
  refine x_ald0 (n := 16) dX2_init_15 rfl ?_
  refine y_new (ci := 10) (n := 10) (m := 19) h12 (fun a ha => hz2 a (by omega)) dX2_init_16 rfl (by decide) ckX2_18 iiX10 zi_X10 (by omega) (by decide) (by decide) (fun Zh16 h16 => ?_)
  refine x_dup (n := 20) dX2_init_19 rfl rfl ?_
  refine x_gI0 (n := 23) (mc := 52) (ms := 304) (d' := 3) zcX10_init mlX2_20 dX2_init_20 rfl (Nat.le_of_ble_eq_true rfl) (by decide) (by decide) (Nat.le_of_ble_eq_true rfl) ?_
  refine m_X10_init h16 (fun a ha => hz2 a (by omega)) (by decide) (by decide) (by decide) (by omega) (fun Zh20 h20 => ?_)
  refine x_none ?_
  refine y_putR (p := 0) (b := 10) (k := 1) (m := 26) h20 flX2_21 rfl (Or.inr ⟨rfl, rfl⟩) (fun q => by cases q <;> exact ⟨rfl, rfl⟩) dX2_init_23 rfl (by decide) (by decide) (by decide) (by decide) (fun Zh23 h23 => ?_)
  refine x_ald0 (n := 27) dX2_init_26 rfl ?_
  refine y_new (ci := 8) (n := 63) (m := 30) h23 (fun a ha => hz2 a (by omega)) dX2_init_27 rfl (by decide) ckX2_25 iiX8 zi_X8 (by omega) (by decide) (by decide) (fun Zh27 h27 => ?_)
  refine x_dup (n := 31) dX2_init_30 rfl rfl ?_
  refine x_gJ0 (n := 34) (mc := 2) (ms := 110) (d' := 1) zcX8_init mnX2_27 dX2_init_31 rfl (Nat.le_of_ble_eq_true rfl) (by decide) (by decide) (Nat.le_of_ble_eq_true rfl) ?_
  refine m_X8_init (p := 63) h27 (fun a ha => hz2 a (by omega)) (by decide) (by decide) (by decide) (by decide) (by omega) (fun Zh31 h31 => ?_)
  refine x_none ?_
  refine y_putR (p := 0) (b := 63) (k := 2) (m := 37) h31 flX2_28 rfl (Or.inr ⟨rfl, rfl⟩) (fun q => by cases q <;> exact ⟨rfl, rfl⟩) dX2_init_34 rfl (by decide) (by decide) (by decide) (by decide) (fun Zh34 h34 => ?_)
  refine x_ald0 (n := 38) dX2_init_37 rfl ?_
  refine y_new (ci := 0) (n := 66) (m := 41) h34 (fun a ha => hz2 a (by omega)) dX2_init_38 rfl (by decide) ckX2_32 iiX0 zi_X0 (by omega) (by decide) (by decide) (fun Zh38 h38 => ?_)
  refine x_dup (n := 42) dX2_init_41 rfl rfl ?_
  refine x_gJ0 (n := 45) (mc := 5) (ms := 2100) (d' := 1) zcX0_init mnX2_34 dX2_init_42 rfl (Nat.le_of_ble_eq_true rfl) (by decide) (by decide) (Nat.le_of_ble_eq_true rfl) ?_
  refine m_X0_init (p := 66) h38 (fun a ha => hz2 a (by omega)) (by decide) (by decide) (by decide) (by decide) (by omega) (fun Zh42 h42 => ?_)
  refine x_none ?_
  refine y_putR (p := 0) (b := 66) (k := 3) (m := 48) h42 flX2_35 rfl (Or.inr ⟨rfl, rfl⟩) (fun q => by cases q <;> exact ⟨rfl, rfl⟩) dX2_init_45 rfl (by decide) (by decide) (by decide) (by decide) (fun Zh45 h45 => ?_)
  refine x_ald0 (n := 49) dX2_init_48 rfl ?_
  refine y_new (ci := 4) (n := 72) (m := 52) h45 (fun a ha => hz2 a (by omega)) dX2_init_49 rfl (by decide) ckX2_39 iiX4 zi_X4 (by omega) (by decide) (by decide) (fun Zh49 h49 => ?_)
  refine x_dup (n := 53) dX2_init_52 rfl rfl ?_
  refine x_gJ0 (n := 56) (mc := 2) (ms := 40) (d' := 1) zcX4_init mnX2_41 dX2_init_53 rfl (Nat.le_of_ble_eq_true rfl) (by decide) (by decide) (Nat.le_of_ble_eq_true rfl) ?_
  refine m_X4_init (p := 72) h49 (fun a ha => hz2 a (by omega)) (by decide) (by decide) (by decide) (by decide) (by omega) (fun Zh53 h53 => ?_)
  refine x_none ?_
  refine y_putR (p := 0) (b := 72) (k := 4) (m := 59) h53 flX2_42 rfl (Or.inr ⟨rfl, rfl⟩) (fun q => by cases q <;> exact ⟨rfl, rfl⟩) dX2_init_56 rfl (by decide) (by decide) (by decide) (by decide) (fun Zh56 h56 => ?_)
  refine x_ald0 (n := 60) dX2_init_59 rfl ?_
  refine y_new (ci := 3) (n := 75) (m := 63) h56 (fun a ha => hz2 a (by omega)) dX2_init_60 rfl (by decide) ckX2_46 iiX3 zi_X3 (by omega) (by decide) (by decide) (fun Zh60 h60 => ?_)
  refine x_dup (n := 64) dX2_init_63 rfl rfl ?_
  refine x_gJ0 (n := 67) (mc := 4) (ms := 276) (d' := 1) zcX3_init mnX2_48 dX2_init_64 rfl (Nat.le_of_ble_eq_true rfl) (by decide) (by decide) (Nat.le_of_ble_eq_true rfl) ?_
  refine m_X3_init (p := 75) h60 (fun a ha => hz2 a (by omega)) (by decide) (by decide) (by decide) (by decide) (by omega) (fun Zh64 h64 => ?_)
  refine x_none ?_
  refine y_putR (p := 0) (b := 75) (k := 5) (m := 70) h64 flX2_49 rfl (Or.inr ⟨rfl, rfl⟩) (fun q => by cases q <;> exact ⟨rfl, rfl⟩) dX2_init_67 rfl (by decide) (by decide) (by decide) (by decide) (fun Zh67 h67 => ?_)
  refine x_ald0 (n := 71) dX2_init_70 rfl ?_
  refine x_sipush (n := 74) (v := nI 2000) dX2_init_71 rfl (by decide) ?_
  refine y_newI (N := 2000) (n := 80) (m := 76) h67 (fun a ha => hz2 a (by omega)) dX2_init_74 rfl (by decide) (by omega) (by decide) (by decide) (fun Zh74 h74 => ?_)
  refine y_putR (p := 0) (b := 80) (k := 6) (m := 79) h74 flX2_53 rfl (Or.inr ⟨rfl, rfl⟩) (fun q => by cases q <;> exact ⟨rfl, rfl⟩) dX2_init_76 rfl (by decide) (by decide) (by decide) (by decide) (fun Zh76 h76 => ?_)
  refine r_vret dX2_init_79 rfl ?_
  exact hq _ J ⟨h76.1, h76.2.1, fun q hq => h76.2.2.1 q ((by decide +kernel : ∀ q ∈ mKs, q ∈ _) q hq), fun q hq => (h76.2.2.2.1 q ((by decide +kernel : ∀ q ∈ mPs, q ∈ _) q hq)).2, fun q hq => h76.2.2.2.2.1 q ((by decide +kernel : ∀ q ∈ mAs, q ∈ _) q hq), fun w hw => (h76.2.2.2.2.2 w hw).2⟩ ⟨o1, o2, o3, o4⟩
end
