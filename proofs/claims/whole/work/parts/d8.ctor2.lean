/-! ===== the constructors of Ground and Survey ===== -/
def GrB (Z : zS) (mk : Nat) : Prop := zk Z (mk + 1) 1 ∧ Z.2.2.2 (mk + 1) 1 = some (mk + 2) ∧ Z.2.2.2 (mk + 1) 2 = some (mk + 3) ∧ Z.2.2.2 (mk + 1) 3 = some (mk + 4) ∧ za Z (mk + 2) 13 24 ∧ za Z (mk + 3) 13 24 ∧ za Z (mk + 4) 13 24
section
variable {l : Launch} {G : zG} {Z : zS} {I : zI} {g : Nat → Int32} {mk : Nat} {Q : Option Value → zS → zI → Prop}
theorem lb_X1_begin (hM : GrB Z mk) {n : Int32} (hq : ∀ I', (∀ a, a ≤ mk ∨ mk + 5 ≤ a → I' a = I a) → I' (mk + 1) = upd (upd (I (mk + 1)) 0 n) 4 (nI 0) → (∀ c, c < 24 → I' (mk + 2) c = nI 50 ∧ I' (mk + 3) c = nI 50 ∧ I' (mk + 4) c = nI 0) → Q none Z I') : ∀ m k I1, (∀ a, a ≤ mk ∨ mk + 5 ≤ a → I1 a = I a) → I1 (mk + 1) = upd (I (mk + 1)) 0 n → (∀ c, c < k → I1 (mk + 2) c = nI 50 ∧ I1 (mk + 3) c = nI 50 ∧ I1 (mk + 4) c = nI 0) → k ≤ 24 → 24 - k < m → zX l G mX1_begin 2 0 0 13 [some (.ref (mk + 1)), none, some (.int (nI k))] [] Z I1 Q := by
  intro m
  induction m with
  | zero => intro k I1 _ _ _ _ h; exact absurd h (by omega)
  | succ m ih =>
    intro k I1 ho h1 hc hk hm
    have n32 : mk + 3 ≠ mk + 2 := by omega
    have n42 : mk + 4 ≠ mk + 2 := by omega
    have n43 : mk + 4 ≠ mk + 3 := by omega
    refine x_ild2 (n := 14) dX1_begin_13 rfl ?_
    refine x_bipush (n := 16) (v := nI 24) dX1_begin_14 rfl (by decide) ?_
    refine x_icmpN_ge (n := 19) (tgt := 48) dX1_begin_16 rfl (by decide) (by omega) (by omega) (fun c_16 => ?_) (fun c_16 => ?_)
    · refine x_ald0 (n := 49) dX1_begin_48 rfl ?_
      refine x_ic0 (n := 50) dX1_begin_49 rfl ?_
      refine x_putI (n := 53) flX1_48 rfl (Or.inl rfl) rfl rfl dX1_begin_50 rfl hM.1 ?_
      refine r_vret dX1_begin_53 rfl ?_
      refine hq _ (fun a ha => ?_) ?_ (fun c hcc => ?_)
      · rw [va_up_off (by omega)]; exact ho a ha
      · rw [va_up_same, h1]
      · rw [va_up_off (by omega), va_up_off (by omega), va_up_off (by omega)]; exact hc c (by omega)
    · refine x_ald0 (n := 20) dX1_begin_19 rfl ?_
      refine x_getR (n := 23) flX1_9 rfl dX1_begin_20 rfl hM.1 hM.2.1 ?_
      refine x_ild2 (n := 24) dX1_begin_23 rfl ?_
      refine x_bipush (n := 26) (v := nI 50) dX1_begin_24 rfl (by decide) ?_
      refine x_iastN (n := 27) dX1_begin_26 rfl hM.2.2.2.2.1 (Nat.le_of_ble_eq_true rfl) (by omega) ?_
      refine x_ald0 (n := 28) dX1_begin_27 rfl ?_
      refine x_getR (n := 31) flX1_13 rfl dX1_begin_28 rfl hM.1 hM.2.2.1 ?_
      refine x_ild2 (n := 32) dX1_begin_31 rfl ?_
      refine x_bipush (n := 34) (v := nI 50) dX1_begin_32 rfl (by decide) ?_
      refine x_iastN (n := 35) dX1_begin_34 rfl hM.2.2.2.2.2.1 (Nat.le_of_ble_eq_true rfl) (by omega) ?_
      refine x_ald0 (n := 36) dX1_begin_35 rfl ?_
      refine x_getR (n := 39) flX1_16 rfl dX1_begin_36 rfl hM.1 hM.2.2.2.1 ?_
      refine x_ild2 (n := 40) dX1_begin_39 rfl ?_
      refine x_ic0 (n := 41) dX1_begin_40 rfl ?_
      refine x_iastN (n := 42) dX1_begin_41 rfl hM.2.2.2.2.2.2 (Nat.le_of_ble_eq_true rfl) (by omega) ?_
      refine x_iincN2 (n := 45) (k := 1) dX1_begin_42 rfl (by decide) rfl ?_
      refine x_goto (n := 13) dX1_begin_45 (by decide) ?_
      refine ih (k + 1) _ (fun a ha => ?_) ?_ (fun c hcc => ?_) (by omega) (by omega)
      · rw [va_up_off (by omega), va_up_off (by omega), va_up_off (by omega)]; exact ho a ha
      · rw [va_up_off (by omega), va_up_off (by omega), va_up_off (by omega)]; exact h1
      · rw [va_up_off (by omega), va_up_off (by omega), va_up_same, va_up_off (by omega), va_up_same, va_up_off n32, va_up_same, va_up_off n43, va_up_off n42]
        by_cases hck : c = k
        · subst hck; exact ⟨upd_same, upd_same, upd_same⟩
        · rw [upd_off hck, upd_off hck, upd_off hck]; exact hc c (by omega)
theorem cb_X1_begin (hM : GrB Z mk) {n : Nat} (hn : n ≤ 24) (hq : ∀ I', (∀ a, a ≤ mk ∨ mk + 5 ≤ a → I' a = I a) → I' (mk + 1) = upd (upd (I (mk + 1)) 0 (nI n)) 4 (nI 0) → (∀ c, c < 24 → I' (mk + 2) c = nI 50 ∧ I' (mk + 3) c = nI 50 ∧ I' (mk + 4) c = nI 0) → Q none Z I') : zM l G mX1_begin 2 0 0 [.ref (mk + 1), .int (nI n)] Z I Q := by
  refine x_entry [some (.ref (mk + 1)), some (.int (nI n)), none] 1 rfl rfl (Nat.le_of_ble_eq_true rfl) ?_
  have hcl : clF (nI n) (nI 0) (nI 24) = nI n := Int32.toInt_inj.mp (by rw [clF_i, nI_toInt (n := n) (by omega), show (nI 0).toInt = 0 by decide, show (nI 24).toInt = 24 by decide]; omega)
  refine x_ald0 (n := 1) dX1_begin_0 rfl ?_
  refine x_ild1 (n := 2) dX1_begin_1 rfl ?_
  refine x_ic0 (n := 3) dX1_begin_2 rfl ?_
  refine x_bipush (n := 5) (v := nI 24) dX1_begin_3 rfl (by decide) ?_
  refine x_cN3 (n := 8) (d' := 1) zcX11_clamp mnX1_38 dX1_begin_5 rfl (Nat.le_of_ble_eq_true rfl) (Nat.le_of_ble_eq_true rfl) ?_
  refine c_X11_clamp ?_
  rw [hcl]
  refine x_some ?_
  refine x_putI (n := 11) flX1_44 rfl (Or.inl rfl) rfl rfl dX1_begin_8 rfl hM.1 ?_
  refine x_ic0 (n := 12) dX1_begin_11 rfl ?_
  refine x_ist2 (n := 13) dX1_begin_12 rfl (by decide) rfl ?_
  refine x_fg1 ?_
  refine lb_X1_begin hM hq (24 + 1) 0 _ (fun a ha => va_up_off (by omega)) va_up_same (fun c hc => absurd hc (by omega)) (by omega) (by omega)
end
section
variable {l : Launch} {G : zG} {Z0 Z : zS} {I : zI} {Q : Option Value → zS → zI → Prop} {mk n kw p : Nat} {ks : List (Nat × Nat)} {ps as : List (Nat × Nat × Nat)}
theorem m_X5_init (h : FL Z0 Z mk n ks ps as kw) (hz : ∀ a, mk + n ≤ a → I a = fun _ => 0) (hk : (p, 5) ∈ ks) (hpn : p < n) (hps : ∀ q ∈ ps, q.1 ≠ p) (hw : kw = 0 ∨ p < 11 ∨ 15 + 2 * kw ≤ p ∨ (11 < p ∧ p < 15)) (hm : mk + n + 100 < 900000) (hq : ∀ Z', FL Z0 Z' mk (n + 1) ks (ps ++ [(p, 2, n)]) (as ++ [(n, 13, 24)]) kw → Q none Z' (va_up I (mk + p) (upd (I (mk + p)) 0 (-1)))) : zM l G mX5_init 1 1 24 [.ref (mk + p)] Z I Q := by
  refine x_entry [some (.ref (mk + p))] 0 rfl rfl (Nat.le_of_ble_eq_true rfl) ?_
  refine x_ald0 (n := 1) dX5_init_0 rfl ?_
  refine x_objI (n := 4) dX5_init_1 rfl mlX5_3 zoI zoC (by decide) (Nat.le_of_ble_eq_true rfl) ?_
  refine x_ald0 (n := 5) dX5_init_4 rfl ?_
  refine x_icm1 (n := 6) dX5_init_5 rfl ?_
  refine x_putI (n := 9) flX5_11 rfl (Or.inl rfl) rfl rfl dX5_init_6 rfl (FL_k h hk) ?_
  refine x_ald0 (n := 10) dX5_init_9 rfl ?_
  refine x_bipush (n := 12) (v := nI 24) dX5_init_10 rfl (by decide) ?_
  refine y_newI (N := 24) (n := n) (m := 14) h (fun a ha => by rw [va_up_off (by omega)]; exact hz a (by omega)) dX5_init_12 rfl (by decide) (by omega) (by decide) (by decide) (fun Z1 h1 => ?_)
  refine y_putR (p := p) (b := n) (k := 2) (m := 17) h1 flX5_15 rfl (Or.inr ⟨rfl, rfl⟩) (fun q => by cases q <;> exact ⟨rfl, rfl⟩) dX5_init_14 rfl hk (by omega) (np0 hps) hw (fun Z2 h2 => ?_)
  refine r_vret dX5_init_17 rfl ?_
  exact hq _ h2
def gRul : List Nat := [2, 2, 3, 9, 5, 999]
def gKs : List (Nat × Nat) := [(0, 2)] ++ [(1, 1)]
def gPs : List (Nat × Nat × Nat) := [] ++ [(1, 1, 2)] ++ [(1, 2, 3)] ++ [(1, 3, 4)] ++ [(1, 5, 5)] ++ [(1, 6, 6)] ++ [(1, 7, 7)] ++ [(1, 8, 8)] ++ [(1, 9, 9)]
def gAs : List (Nat × Nat × Nat) := [] ++ [(2, 13, 24)] ++ [(3, 13, 24)] ++ [(4, 13, 24)] ++ [(5, 13, 6)] ++ [(6, 13, 24)] ++ [(7, 13, 199)] ++ [(8, 13, 199)] ++ [(9, 13, 24)]
theorem m2_X1_init {J : zI} (h : FL Z0 Z mk 6 ([(0, 2)] ++ [(1, 1)]) ([] ++ [(1, 1, 2)] ++ [(1, 2, 3)] ++ [(1, 3, 4)]) ([] ++ [(2, 13, 24)] ++ [(3, 13, 24)] ++ [(4, 13, 24)] ++ [(5, 13, 6)]) 0) (hz : ∀ a, mk + 6 ≤ a → J a = fun _ => 0) (hm : mk + 100 < 900000) (hJ : ∀ a, a ≠ mk + 5 → J a = I a) (hr : ∀ k, k < 6 → J (mk + 5) k = nI (gRul.getD k 0)) (hq : ∀ Z' J', FL Z0 Z' mk 10 ([(0, 2)] ++ [(1, 1)]) gPs gAs 0 → (∀ a, a ≤ mk ∨ mk + 6 ≤ a → J' a = I a) → J' (mk + 1) = upd (upd (I (mk + 1)) 0 (nI 8)) 4 (nI 0) → (∀ c, c < 24 → J' (mk + 2) c = nI 50 ∧ J' (mk + 3) c = nI 50 ∧ J' (mk + 4) c = nI 0) → (∀ k, k < 6 → J' (mk + 5) k = nI (gRul.getD k 0)) → Q none Z' J') : zX l G mX1_init 3 4 446 60 [some (.ref (mk + 1))] [.ref (mk + 5), .ref (mk + 1)] Z J Q := by
  refine y_putR (p := 1) (b := 5) (k := 5) (m := 63) h flX1_19 rfl (Or.inr ⟨rfl, rfl⟩) (fun q => by cases q <;> exact ⟨rfl, rfl⟩) dX1_init_60 rfl (by decide) (by decide) (by decide) (Or.inl rfl) (fun Zh60 h60 => ?_)
  refine x_ald0 (n := 64) dX1_init_63 rfl ?_
  refine x_bipush (n := 66) (v := nI 24) dX1_init_64 rfl (by decide) ?_
  refine y_newI (N := 24) (n := 6) (m := 68) h60 (fun a ha => hz a (by omega)) dX1_init_66 rfl (by decide) (by omega) (by decide) (by decide) (fun Zh66 h66 => ?_)
  refine y_putR (p := 1) (b := 6) (k := 6) (m := 71) h66 flX1_22 rfl (Or.inr ⟨rfl, rfl⟩) (fun q => by cases q <;> exact ⟨rfl, rfl⟩) dX1_init_68 rfl (by decide) (by decide) (by decide) (Or.inl rfl) (fun Zh68 h68 => ?_)
  refine x_ald0 (n := 72) dX1_init_71 rfl ?_
  refine x_sipush (n := 75) (v := nI 199) dX1_init_72 rfl (by decide) ?_
  refine y_newI (N := 199) (n := 7) (m := 77) h68 (fun a ha => hz a (by omega)) dX1_init_75 rfl (by decide) (by omega) (by decide) (by decide) (fun Zh75 h75 => ?_)
  refine y_putR (p := 1) (b := 7) (k := 7) (m := 80) h75 flX1_25 rfl (Or.inr ⟨rfl, rfl⟩) (fun q => by cases q <;> exact ⟨rfl, rfl⟩) dX1_init_77 rfl (by decide) (by decide) (by decide) (Or.inl rfl) (fun Zh77 h77 => ?_)
  refine x_ald0 (n := 81) dX1_init_80 rfl ?_
  refine x_sipush (n := 84) (v := nI 199) dX1_init_81 rfl (by decide) ?_
  refine y_newI (N := 199) (n := 8) (m := 86) h77 (fun a ha => hz a (by omega)) dX1_init_84 rfl (by decide) (by omega) (by decide) (by decide) (fun Zh84 h84 => ?_)
  refine y_putR (p := 1) (b := 8) (k := 8) (m := 89) h84 flX1_28 rfl (Or.inr ⟨rfl, rfl⟩) (fun q => by cases q <;> exact ⟨rfl, rfl⟩) dX1_init_86 rfl (by decide) (by decide) (by decide) (Or.inl rfl) (fun Zh86 h86 => ?_)
  refine x_ald0 (n := 90) dX1_init_89 rfl ?_
  refine x_bipush (n := 92) (v := nI 24) dX1_init_90 rfl (by decide) ?_
  refine y_newI (N := 24) (n := 9) (m := 94) h86 (fun a ha => hz a (by omega)) dX1_init_92 rfl (by decide) (by omega) (by decide) (by decide) (fun Zh92 h92 => ?_)
  refine y_putR (p := 1) (b := 9) (k := 9) (m := 97) h92 flX1_31 rfl (Or.inr ⟨rfl, rfl⟩) (fun q => by cases q <;> exact ⟨rfl, rfl⟩) dX1_init_94 rfl (by decide) (by decide) (by decide) (Or.inl rfl) (fun Zh94 h94 => ?_)
  refine x_ald0 (n := 98) dX1_init_97 rfl ?_
  refine x_bipush (n := 100) (v := nI 8) dX1_init_98 rfl (by decide) ?_
  refine x_cV1 (n := 103) (d' := 2) zcX1_begin mlX1_34 dX1_init_100 rfl (FL_k (p := 1) h94 (by decide)) (Nat.le_of_ble_eq_true rfl) (Nat.le_of_ble_eq_true rfl) ?_
  refine cb_X1_begin ⟨FL_k (p := 1) h94 (by decide), FL_r (p := 1) h94 (by decide), FL_r (p := 1) h94 (by decide), FL_r (p := 1) h94 (by decide), FL_a (p := 2) h94 (by decide), FL_a (p := 3) h94 (by decide), FL_a (p := 4) h94 (by decide)⟩ (by decide) (fun J2 o1 o2 o3 => ?_)
  refine x_none ?_
  refine r_vret dX1_init_103 rfl ?_
  exact hq _ J2 h94 (fun a ha => by rw [o1 a (by omega), hJ a (by omega)]) (by rw [o2, hJ _ (by omega)]) o3 (fun k hk => by rw [o1 _ (by omega)]; exact hr k hk)
theorem m_X1_init (h : FL Z0 Z mk 2 ([(0, 2)] ++ [(1, 1)]) [] [] 0) (hz : ∀ a, mk + 2 ≤ a → I a = fun _ => 0) (hm : mk + 100 < 900000) (hq : ∀ Z' J', FL Z0 Z' mk 10 ([(0, 2)] ++ [(1, 1)]) gPs gAs 0 → (∀ a, a ≤ mk ∨ mk + 6 ≤ a → J' a = I a) → J' (mk + 1) = upd (upd (I (mk + 1)) 0 (nI 8)) 4 (nI 0) → (∀ c, c < 24 → J' (mk + 2) c = nI 50 ∧ J' (mk + 3) c = nI 50 ∧ J' (mk + 4) c = nI 0) → (∀ k, k < 6 → J' (mk + 5) k = nI (gRul.getD k 0)) → Q none Z' J') : zM l G mX1_init 3 8 524 [.ref (mk + 1)] Z I Q := by
  refine x_entry [some (.ref (mk + 1))] 0 rfl rfl (Nat.le_of_ble_eq_true rfl) ?_
  refine x_ald0 (n := 1) dX1_init_0 rfl ?_
  refine x_objI (n := 4) dX1_init_1 rfl mlX1_3 zoI zoC (by decide) (Nat.le_of_ble_eq_true rfl) ?_
  refine x_ald0 (n := 5) dX1_init_4 rfl ?_
  refine x_bipush (n := 7) (v := nI 24) dX1_init_5 rfl (by decide) ?_
  refine y_newI (N := 24) (n := 2) (m := 9) h (fun a ha => hz a (by omega)) dX1_init_7 rfl (by decide) (by omega) (by decide) (by decide) (fun Zh7 h7 => ?_)
  refine y_putR (p := 1) (b := 2) (k := 1) (m := 12) h7 flX1_9 rfl (Or.inr ⟨rfl, rfl⟩) (fun q => by cases q <;> exact ⟨rfl, rfl⟩) dX1_init_9 rfl (by decide) (by decide) (by decide) (Or.inl rfl) (fun Zh9 h9 => ?_)
  refine x_ald0 (n := 13) dX1_init_12 rfl ?_
  refine x_bipush (n := 15) (v := nI 24) dX1_init_13 rfl (by decide) ?_
  refine y_newI (N := 24) (n := 3) (m := 17) h9 (fun a ha => hz a (by omega)) dX1_init_15 rfl (by decide) (by omega) (by decide) (by decide) (fun Zh15 h15 => ?_)
  refine y_putR (p := 1) (b := 3) (k := 2) (m := 20) h15 flX1_13 rfl (Or.inr ⟨rfl, rfl⟩) (fun q => by cases q <;> exact ⟨rfl, rfl⟩) dX1_init_17 rfl (by decide) (by decide) (by decide) (Or.inl rfl) (fun Zh17 h17 => ?_)
  refine x_ald0 (n := 21) dX1_init_20 rfl ?_
  refine x_bipush (n := 23) (v := nI 24) dX1_init_21 rfl (by decide) ?_
  refine y_newI (N := 24) (n := 4) (m := 25) h17 (fun a ha => hz a (by omega)) dX1_init_23 rfl (by decide) (by omega) (by decide) (by decide) (fun Zh23 h23 => ?_)
  refine y_putR (p := 1) (b := 4) (k := 3) (m := 28) h23 flX1_16 rfl (Or.inr ⟨rfl, rfl⟩) (fun q => by cases q <;> exact ⟨rfl, rfl⟩) dX1_init_25 rfl (by decide) (by decide) (by decide) (Or.inl rfl) (fun Zh25 h25 => ?_)
  refine x_ald0 (n := 29) dX1_init_28 rfl ?_
  refine x_bipush (n := 31) (v := nI 6) dX1_init_29 rfl (by decide) ?_
  refine y_newI (N := 6) (n := 5) (m := 33) h25 (fun a ha => hz a (by omega)) dX1_init_31 rfl (by decide) (by omega) (by decide) (by decide) (fun Zh31 h31 => ?_)
  refine x_dup (n := 34) dX1_init_33 rfl rfl ?_
  refine x_ic0 (n := 35) dX1_init_34 rfl ?_
  refine x_ic2 (n := 36) dX1_init_35 rfl ?_
  refine x_iastN (n := 37) (N := 6) dX1_init_36 rfl (FL_a (p := 5) h31 (by decide)) (by decide) (by decide) ?_
  refine x_dup (n := 38) dX1_init_37 rfl rfl ?_
  refine x_ic1 (n := 39) dX1_init_38 rfl ?_
  refine x_ic2 (n := 40) dX1_init_39 rfl ?_
  refine x_iastN (n := 41) (N := 6) dX1_init_40 rfl (FL_a (p := 5) h31 (by decide)) (by decide) (by decide) ?_
  refine x_dup (n := 42) dX1_init_41 rfl rfl ?_
  refine x_ic2 (n := 43) dX1_init_42 rfl ?_
  refine x_ic3 (n := 44) dX1_init_43 rfl ?_
  refine x_iastN (n := 45) (N := 6) dX1_init_44 rfl (FL_a (p := 5) h31 (by decide)) (by decide) (by decide) ?_
  refine x_dup (n := 46) dX1_init_45 rfl rfl ?_
  refine x_ic3 (n := 47) dX1_init_46 rfl ?_
  refine x_bipush (n := 49) (v := nI 9) dX1_init_47 rfl (by decide) ?_
  refine x_iastN (n := 50) (N := 6) dX1_init_49 rfl (FL_a (p := 5) h31 (by decide)) (by decide) (by decide) ?_
  refine x_dup (n := 51) dX1_init_50 rfl rfl ?_
  refine x_ic4 (n := 52) dX1_init_51 rfl ?_
  refine x_ic5 (n := 53) dX1_init_52 rfl ?_
  refine x_iastN (n := 54) (N := 6) dX1_init_53 rfl (FL_a (p := 5) h31 (by decide)) (by decide) (by decide) ?_
  refine x_dup (n := 55) dX1_init_54 rfl rfl ?_
  refine x_ic5 (n := 56) dX1_init_55 rfl ?_
  refine x_sipush (n := 59) (v := nI 999) dX1_init_56 rfl (by decide) ?_
  refine x_iastN (n := 60) (N := 6) dX1_init_59 rfl (FL_a (p := 5) h31 (by decide)) (by decide) (by decide) ?_
  refine m2_X1_init (I := I) h31 (fun a ha => ?_) hm (fun a ha => ?_) (fun k hk => ?_) hq
  · rw [va_up_off (by omega), va_up_off (by omega), va_up_off (by omega), va_up_off (by omega), va_up_off (by omega), va_up_off (by omega)]; exact hz a (by omega)
  · rw [va_up_off ha, va_up_off ha, va_up_off ha, va_up_off ha, va_up_off ha, va_up_off ha]
  · simp only [va_up_same]
    rcases (by omega : k = 0 ∨ k = 1 ∨ k = 2 ∨ k = 3 ∨ k = 4 ∨ k = 5) with rfl | rfl | rfl | rfl | rfl | rfl <;> rfl
end
