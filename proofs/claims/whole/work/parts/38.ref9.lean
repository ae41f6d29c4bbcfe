section
variable {l : Launch} {G : zG} {Z : zS} {I : zI} {g : Nat → Int32} {Q : Option Value → zS → zI → Prop}
theorem cntF_key {key : Int32} : ∀ {n t : Nat}, cntF g key n = some t → g (2520 + 200 * t) = key
  | 0, t, h => by cases h
  | n + 1, t, h => by
    unfold cntF at h
    split at h
    · rename_i hc; cases h; exact hc.1
    · exact cntF_key h
theorem vN_nI {i k : Nat} (h : g i = nI k) (hk : k < 2147483648) : vN g i = k := by
  unfold vN; rw [h, nI_toInt hk]; omega
/-- the rows a rule is worked in -/
def offR (I I' : zI) : Prop := ∀ p, p ≠ q_pile → p ≠ q_named → I' p = I p
theorem offR_refl (I : zI) : offR I I := fun _ _ _ => rfl
theorem offR_tr {I I' I'' : zI} (h : offR I I') (h' : offR I' I'') : offR I I'' := fun p a b => (h' p a b).trans (h p a b)
theorem offR_up {I I' : zI} {f : Nat → Int32} (h : offR I I') : offR I (va_up I' q_named f) := fun p a b => by rw [va_up_off b]; exact h p a b
theorem offR_C {I I' : zI} (h : offR I I') (hC : RfC I) : RfC I' := by
  obtain ⟨h1, h2, h3⟩ := hC
  refine ⟨fun j hj => ?_, fun j hj => ?_, fun j hj => ?_⟩
  · rw [h _ (by decide) (by decide)]; exact h1 j hj
  · rw [h _ (by decide) (by decide)]; exact h2 j hj
  · rw [h _ (by decide) (by decide)]; exact h3 j hj
theorem offR_pile {I I' : zI} (h : ∀ a, a ≠ q_pile → I' a = I a) : offR I I' := fun p a _ => h p a
theorem gRule_s {key t : Nat} {a b c : Int32} (h : cntF g (nI key) (vN g 3) = some t) : gRule g key a b c = if key = 0 then heldF (gText g t key a b c) 999 else if key = 1 then heldF (gText g t key a b c) 100 else if key = 2 then heldF (gText g t key a b c) 99999 else gText g t key a b c := by
  unfold gRule; rw [h]
theorem gRule_n {key : Nat} {a b c : Int32} (h : cntF g (nI key) (vN g 3) = none) : gRule g key a b c = if key = 0 then heldF c 999 else if key = 1 then heldF (nI 10) 100 else if key = 2 then heldF (nI 10 * a) 99999 else (if nI 4 < b then nI 1 else nI 0) := by
  unfold gRule; rw [h]
  by_cases h0 : key = 0
  · simp only [if_pos h0]
  · by_cases h1 : key = 1
    · simp only [if_neg h0, if_pos h1]
    · by_cases h2 : key = 2
      · simp only [if_neg h0, if_neg h1, if_pos h2]
      · simp only [if_neg h0, if_neg h1, if_neg h2]
theorem c_X12_ruleOf (hZ : ShR Z) (hB : InvB g) (hT : InvT g) {key : Nat} {a b c : Int32} (hk : key < 4) (hq : ∀ I' : zI, offR I I' → Q (some (.int (gRule g key a b c))) Z (va_up I' q_s g)) : zM l G mX12_ruleOf 2 0 0 [.ref qR, .int (nI key), .int a, .int b, .int c] Z (va_up I q_s g) Q := by
  obtain ⟨h3, h32⟩ := iv3 hB
  refine x_entry [some (.ref qR), some (.int (nI key)), some (.int a), some (.int b), some (.int c), none] 1 rfl rfl (Nat.le_of_ble_eq_true rfl) ?_
  cases hc : cntF g (nI key) (vN g 3) with
  | none =>
    have hq2 : ∀ I' : zI, offR I I' → Q (some (.int (if key = 0 then heldF c 999 else if key = 1 then heldF (nI 10) 100 else if key = 2 then heldF (nI 10 * a) 99999 else (if nI 4 < b then nI 1 else nI 0)))) Z (va_up I' q_s g) := by
      intro I' h; have := hq I' h; rw [gRule_n hc] at this; exact this
    rcases (by omega : key = 0 ∨ key = 1 ∨ key = 2 ∨ key = 3) with rfl | rfl | rfl | rfl
    · have hq3 : ∀ I' : zI, offR I I' → Q (some (.int (heldF c 999))) Z (va_up I' q_s g) := fun I' h => by
        have := hq2 I' h
        rw [if_pos rfl] at this
        exact this
      refine x_ald0 (n := 1) dX12_ruleOf_0 rfl ?_
      refine x_ild1 (n := 2) dX12_ruleOf_1 rfl ?_
      refine x_cV1 (n := 5) (d' := 1) zcX12_counts mlX12_314 dX12_ruleOf_2 rfl (rK hZ) (Nat.le_of_ble_eq_true rfl) (Nat.le_of_ble_eq_true rfl) ?_
      refine c_X12_counts hZ h3 h32 ?_
      rw [hc]
      refine x_some ?_
      show zX _ _ _ _ _ _ _ _ [.int (-1)] _ _ _
      refine x_ist5 (n := 7) dX12_ruleOf_5 rfl (by decide) rfl ?_
      refine x_ild1 (n := 8) dX12_ruleOf_7 rfl ?_
      refine x_tswI (n := 36) (off := 28) dX12_ruleOf_8 (by decide) (by decide) (by decide +kernel) (by decide) ?_
      refine x_ald0 (n := 37) dX12_ruleOf_36 rfl ?_
      refine x_getR (n := 40) flX12_52 rfl dX12_ruleOf_37 rfl (rK hZ) (rP_named hZ) ?_
      refine x_bipush (n := 42) (v := nI 107) dX12_ruleOf_40 rfl (by decide) ?_
      refine x_ild2 (n := 43) dX12_ruleOf_42 rfl ?_
      refine x_ost (n := 44) dX12_ruleOf_43 rfl (rA_named hZ) (by decide) (Nat.le_of_ble_eq_true rfl) (by omega) ?_
      refine x_ald0 (n := 45) dX12_ruleOf_44 rfl ?_
      refine x_getR (n := 48) flX12_52 rfl dX12_ruleOf_45 rfl (rK hZ) (rP_named hZ) ?_
      refine x_bipush (n := 50) (v := nI 100) dX12_ruleOf_48 rfl (by decide) ?_
      refine x_ild3 (n := 51) dX12_ruleOf_50 rfl ?_
      refine x_ost (n := 52) dX12_ruleOf_51 rfl (rA_named hZ) (by decide) (Nat.le_of_ble_eq_true rfl) (by omega) ?_
      refine x_ald0 (n := 53) dX12_ruleOf_52 rfl ?_
      refine x_getR (n := 56) flX12_52 rfl dX12_ruleOf_53 rfl (rK hZ) (rP_named hZ) ?_
      refine x_bipush (n := 58) (v := nI 119) dX12_ruleOf_56 rfl (by decide) ?_
      refine x_ild4 (n := 60) dX12_ruleOf_58 rfl ?_
      refine x_ost (n := 61) dX12_ruleOf_60 rfl (rA_named hZ) (by decide) (Nat.le_of_ble_eq_true rfl) (by omega) ?_
      refine x_ild5 (n := 63) dX12_ruleOf_61 rfl ?_
      refine x_if_ge (n := 66) (tgt := 71) dX12_ruleOf_63 rfl (by decide) (fun c_63 => ?_) (fun c_63 => ?_)
      · exact absurd c_63 (by decide)
      · refine x_ild4 (n := 68) dX12_ruleOf_66 rfl ?_
        refine x_goto (n := 77) dX12_ruleOf_68 (by decide) ?_
        refine x_sipush (n := 80) (v := nI 999) dX12_ruleOf_77 rfl (by decide) ?_
        refine x_cS2 (n := 83) (d' := 0) zcX12_heldIn mlX12_323 dX12_ruleOf_80 rfl (Nat.le_of_ble_eq_true rfl) (Nat.le_of_ble_eq_true rfl) ?_
        refine c_X12_heldIn (by omega) ?_
        refine x_some ?_
        refine r_iret dX12_ruleOf_83 rfl ?_
        exact hq3 _ (offR_up (offR_up (offR_up (offR_refl I))))
    · have hq3 : ∀ I' : zI, offR I I' → Q (some (.int (heldF (nI 10) 100))) Z (va_up I' q_s g) := fun I' h => by
        have := hq2 I' h
        rw [if_neg (by decide), if_pos rfl] at this
        exact this
      refine x_ald0 (n := 1) dX12_ruleOf_0 rfl ?_
      refine x_ild1 (n := 2) dX12_ruleOf_1 rfl ?_
      refine x_cV1 (n := 5) (d' := 1) zcX12_counts mlX12_314 dX12_ruleOf_2 rfl (rK hZ) (Nat.le_of_ble_eq_true rfl) (Nat.le_of_ble_eq_true rfl) ?_
      refine c_X12_counts hZ h3 h32 ?_
      rw [hc]
      refine x_some ?_
      show zX _ _ _ _ _ _ _ _ [.int (-1)] _ _ _
      refine x_ist5 (n := 7) dX12_ruleOf_5 rfl (by decide) rfl ?_
      refine x_ild1 (n := 8) dX12_ruleOf_7 rfl ?_
      refine x_tswI (n := 84) (off := 76) dX12_ruleOf_8 (by decide) (by decide) (by decide +kernel) (by decide) ?_
      refine x_ald0 (n := 85) dX12_ruleOf_84 rfl ?_
      refine x_getR (n := 88) flX12_52 rfl dX12_ruleOf_85 rfl (rK hZ) (rP_named hZ) ?_
      refine x_bipush (n := 90) (v := nI 107) dX12_ruleOf_88 rfl (by decide) ?_
      refine x_ild2 (n := 91) dX12_ruleOf_90 rfl ?_
      refine x_ost (n := 92) dX12_ruleOf_91 rfl (rA_named hZ) (by decide) (Nat.le_of_ble_eq_true rfl) (by omega) ?_
      refine x_ald0 (n := 93) dX12_ruleOf_92 rfl ?_
      refine x_getR (n := 96) flX12_52 rfl dX12_ruleOf_93 rfl (rK hZ) (rP_named hZ) ?_
      refine x_bipush (n := 98) (v := nI 121) dX12_ruleOf_96 rfl (by decide) ?_
      refine x_ild3 (n := 99) dX12_ruleOf_98 rfl ?_
      refine x_ost (n := 100) dX12_ruleOf_99 rfl (rA_named hZ) (by decide) (Nat.le_of_ble_eq_true rfl) (by omega) ?_
      refine x_ild5 (n := 102) dX12_ruleOf_100 rfl ?_
      refine x_if_ge (n := 105) (tgt := 110) dX12_ruleOf_102 rfl (by decide) (fun c_102 => ?_) (fun c_102 => ?_)
      · exact absurd c_102 (by decide)
      · refine x_bipush (n := 107) (v := nI 10) dX12_ruleOf_105 rfl (by decide) ?_
        refine x_goto (n := 116) dX12_ruleOf_107 (by decide) ?_
        refine x_bipush (n := 118) (v := nI 100) dX12_ruleOf_116 rfl (by decide) ?_
        refine x_cS2 (n := 121) (d' := 0) zcX12_heldIn mlX12_323 dX12_ruleOf_118 rfl (Nat.le_of_ble_eq_true rfl) (Nat.le_of_ble_eq_true rfl) ?_
        refine c_X12_heldIn (by omega) ?_
        refine x_some ?_
        refine r_iret dX12_ruleOf_121 rfl ?_
        exact hq3 _ (offR_up (offR_up (offR_refl I)))
    · have hq3 : ∀ I' : zI, offR I I' → Q (some (.int (heldF (nI 10 * a) 99999))) Z (va_up I' q_s g) := fun I' h => by
        have := hq2 I' h
        rw [if_neg (by decide), if_neg (by decide), if_pos rfl] at this
        exact this
      refine x_ald0 (n := 1) dX12_ruleOf_0 rfl ?_
      refine x_ild1 (n := 2) dX12_ruleOf_1 rfl ?_
      refine x_cV1 (n := 5) (d' := 1) zcX12_counts mlX12_314 dX12_ruleOf_2 rfl (rK hZ) (Nat.le_of_ble_eq_true rfl) (Nat.le_of_ble_eq_true rfl) ?_
      refine c_X12_counts hZ h3 h32 ?_
      rw [hc]
      refine x_some ?_
      show zX _ _ _ _ _ _ _ _ [.int (-1)] _ _ _
      refine x_ist5 (n := 7) dX12_ruleOf_5 rfl (by decide) rfl ?_
      refine x_ild1 (n := 8) dX12_ruleOf_7 rfl ?_
      refine x_tswI (n := 122) (off := 114) dX12_ruleOf_8 (by decide) (by decide) (by decide +kernel) (by decide) ?_
      refine x_ald0 (n := 123) dX12_ruleOf_122 rfl ?_
      refine x_getR (n := 126) flX12_52 rfl dX12_ruleOf_123 rfl (rK hZ) (rP_named hZ) ?_
      refine x_bipush (n := 128) (v := nI 110) dX12_ruleOf_126 rfl (by decide) ?_
      refine x_ild2 (n := 129) dX12_ruleOf_128 rfl ?_
      refine x_ost (n := 130) dX12_ruleOf_129 rfl (rA_named hZ) (by decide) (Nat.le_of_ble_eq_true rfl) (by omega) ?_
      refine x_ild5 (n := 132) dX12_ruleOf_130 rfl ?_
      refine x_if_ge (n := 135) (tgt := 142) dX12_ruleOf_132 rfl (by decide) (fun c_132 => ?_) (fun c_132 => ?_)
      · exact absurd c_132 (by decide)
      · refine x_bipush (n := 137) (v := nI 10) dX12_ruleOf_135 rfl (by decide) ?_
        refine x_ild2 (n := 138) dX12_ruleOf_137 rfl ?_
        refine x_imul (n := 139) dX12_ruleOf_138 rfl ?_
        refine x_goto (n := 148) dX12_ruleOf_139 (by decide) ?_
        refine x_ldcw (n := 151) dX12_ruleOf_148 rfl kiX12_326 ?_
        refine x_cS2 (n := 154) (d' := 0) zcX12_heldIn mlX12_323 dX12_ruleOf_151 rfl (Nat.le_of_ble_eq_true rfl) (Nat.le_of_ble_eq_true rfl) ?_
        refine c_X12_heldIn (by omega) ?_
        refine x_some ?_
        refine r_iret dX12_ruleOf_154 rfl ?_
        exact hq3 _ (offR_up (offR_refl I))
    · have hq3 : ∀ I' : zI, offR I I' → Q (some (.int ((if nI 4 < b then nI 1 else nI 0)))) Z (va_up I' q_s g) := fun I' h => by
        have := hq2 I' h
        rw [if_neg (by decide), if_neg (by decide), if_neg (by decide)] at this
        exact this
      refine x_ald0 (n := 1) dX12_ruleOf_0 rfl ?_
      refine x_ild1 (n := 2) dX12_ruleOf_1 rfl ?_
      refine x_cV1 (n := 5) (d' := 1) zcX12_counts mlX12_314 dX12_ruleOf_2 rfl (rK hZ) (Nat.le_of_ble_eq_true rfl) (Nat.le_of_ble_eq_true rfl) ?_
      refine c_X12_counts hZ h3 h32 ?_
      rw [hc]
      refine x_some ?_
      show zX _ _ _ _ _ _ _ _ [.int (-1)] _ _ _
      refine x_ist5 (n := 7) dX12_ruleOf_5 rfl (by decide) rfl ?_
      refine x_ild1 (n := 8) dX12_ruleOf_7 rfl ?_
      refine x_tswO (n := 155) dX12_ruleOf_8 (by decide) (by decide) ?_
      refine x_ald0 (n := 156) dX12_ruleOf_155 rfl ?_
      refine x_getR (n := 159) flX12_52 rfl dX12_ruleOf_156 rfl (rK hZ) (rP_named hZ) ?_
      refine x_bipush (n := 161) (v := nI 99) dX12_ruleOf_159 rfl (by decide) ?_
      refine x_ild2 (n := 162) dX12_ruleOf_161 rfl ?_
      refine x_ost (n := 163) dX12_ruleOf_162 rfl (rA_named hZ) (by decide) (Nat.le_of_ble_eq_true rfl) (by omega) ?_
      refine x_ald0 (n := 164) dX12_ruleOf_163 rfl ?_
      refine x_getR (n := 167) flX12_52 rfl dX12_ruleOf_164 rfl (rK hZ) (rP_named hZ) ?_
      refine x_bipush (n := 169) (v := nI 119) dX12_ruleOf_167 rfl (by decide) ?_
      refine x_ild3 (n := 170) dX12_ruleOf_169 rfl ?_
      refine x_ost (n := 171) dX12_ruleOf_170 rfl (rA_named hZ) (by decide) (Nat.le_of_ble_eq_true rfl) (by omega) ?_
      refine x_ild5 (n := 173) dX12_ruleOf_171 rfl ?_
      refine x_if_lt (n := 176) (tgt := 185) dX12_ruleOf_173 rfl (by decide) (fun c_173 => ?_) (fun c_173 => ?_)
      · refine x_ild3 (n := 186) dX12_ruleOf_185 rfl ?_
        refine x_ic4 (n := 187) dX12_ruleOf_186 rfl ?_
        refine x_icmp_le (n := 190) (tgt := 194) dX12_ruleOf_187 rfl (by decide) (fun c_187 => ?_) (fun c_187 => ?_)
        · refine x_ic0 (n := 195) dX12_ruleOf_194 rfl ?_
          refine r_iret dX12_ruleOf_195 rfl ?_
          have hq4 := hq3 _ (offR_up (f := upd ((va_up I q_named (upd (I q_named) 99 a)) q_named) 119 b) (offR_up (f := upd (I q_named) 99 a) (offR_refl I)))
          first | (rw [if_neg (Int32.not_lt.mpr c_187)] at hq4; exact hq4) | (rw [if_pos (Int32.not_le.mp c_187)] at hq4; exact hq4)
        · refine x_ic1 (n := 191) dX12_ruleOf_190 rfl ?_
          refine x_goto (n := 195) dX12_ruleOf_191 (by decide) ?_
          refine r_iret dX12_ruleOf_195 rfl ?_
          have hq4 := hq3 _ (offR_up (f := upd ((va_up I q_named (upd (I q_named) 99 a)) q_named) 119 b) (offR_up (f := upd (I q_named) 99 a) (offR_refl I)))
          first | (rw [if_neg (Int32.not_lt.mpr c_187)] at hq4; exact hq4) | (rw [if_pos (Int32.not_le.mp c_187)] at hq4; exact hq4)
      · exact absurd (by decide) c_173
  | some t =>
    have ht := cntF_lt hc
    have hkk := cntF_key hc
    have hkey : vN g (2520 + 200 * t) = key := vN_nI hkk (by omega)
    have hq2 : ∀ I' : zI, offR I I' → Q (some (.int (if key = 0 then heldF (gText g t key a b c) 999 else if key = 1 then heldF (gText g t key a b c) 100 else if key = 2 then heldF (gText g t key a b c) 99999 else gText g t key a b c))) Z (va_up I' q_s g) := by
      intro I' h; have := hq I' h; rw [gRule_s hc] at this; exact this
    rcases (by omega : key = 0 ∨ key = 1 ∨ key = 2 ∨ key = 3) with rfl | rfl | rfl | rfl
    · have hq3 : ∀ I' : zI, offR I I' → Q (some (.int (heldF (gText g t 0 a b c) 999))) Z (va_up I' q_s g) := fun I' h => by
        have := hq2 I' h
        rw [if_pos rfl] at this
        exact this
      refine x_ald0 (n := 1) dX12_ruleOf_0 rfl ?_
      refine x_ild1 (n := 2) dX12_ruleOf_1 rfl ?_
      refine x_cV1 (n := 5) (d' := 1) zcX12_counts mlX12_314 dX12_ruleOf_2 rfl (rK hZ) (Nat.le_of_ble_eq_true rfl) (Nat.le_of_ble_eq_true rfl) ?_
      refine c_X12_counts hZ h3 h32 ?_
      rw [hc]
      refine x_some ?_
      show zX _ _ _ _ _ _ _ _ [.int (nI t)] _ _ _
      refine x_ist5 (n := 7) dX12_ruleOf_5 rfl (by decide) rfl ?_
      refine x_ild1 (n := 8) dX12_ruleOf_7 rfl ?_
      refine x_tswI (n := 36) (off := 28) dX12_ruleOf_8 (by decide) (by decide) (by decide +kernel) (by decide) ?_
      refine x_ald0 (n := 37) dX12_ruleOf_36 rfl ?_
      refine x_getR (n := 40) flX12_52 rfl dX12_ruleOf_37 rfl (rK hZ) (rP_named hZ) ?_
      refine x_bipush (n := 42) (v := nI 107) dX12_ruleOf_40 rfl (by decide) ?_
      refine x_ild2 (n := 43) dX12_ruleOf_42 rfl ?_
      refine x_ost (n := 44) dX12_ruleOf_43 rfl (rA_named hZ) (by decide) (Nat.le_of_ble_eq_true rfl) (by omega) ?_
      refine x_ald0 (n := 45) dX12_ruleOf_44 rfl ?_
      refine x_getR (n := 48) flX12_52 rfl dX12_ruleOf_45 rfl (rK hZ) (rP_named hZ) ?_
      refine x_bipush (n := 50) (v := nI 100) dX12_ruleOf_48 rfl (by decide) ?_
      refine x_ild3 (n := 51) dX12_ruleOf_50 rfl ?_
      refine x_ost (n := 52) dX12_ruleOf_51 rfl (rA_named hZ) (by decide) (Nat.le_of_ble_eq_true rfl) (by omega) ?_
      refine x_ald0 (n := 53) dX12_ruleOf_52 rfl ?_
      refine x_getR (n := 56) flX12_52 rfl dX12_ruleOf_53 rfl (rK hZ) (rP_named hZ) ?_
      refine x_bipush (n := 58) (v := nI 119) dX12_ruleOf_56 rfl (by decide) ?_
      refine x_ild4 (n := 60) dX12_ruleOf_58 rfl ?_
      refine x_ost (n := 61) dX12_ruleOf_60 rfl (rA_named hZ) (by decide) (Nat.le_of_ble_eq_true rfl) (by omega) ?_
      refine x_ild5 (n := 63) dX12_ruleOf_61 rfl ?_
      refine x_if_ge (n := 66) (tgt := 71) dX12_ruleOf_63 rfl (by decide) (fun c_63 => ?_) (fun c_63 => ?_)
      · refine x_ald0 (n := 72) dX12_ruleOf_71 rfl ?_
        refine x_ild5 (n := 74) dX12_ruleOf_72 rfl ?_
        refine x_cV1 (n := 77) (d' := 1) zcX12_worked mlX12_320 dX12_ruleOf_74 rfl (rK hZ) (Nat.le_of_ble_eq_true rfl) (Nat.le_of_ble_eq_true rfl) ?_
        refine c_X12_worked (nm := nmF 0 a b c) hZ (by omega) (hT t ht) hkey ?_ (fun I' hI' => ?_)
        · rintro j (⟨-, rfl | rfl | rfl⟩ | ⟨h, -⟩ | ⟨h, -⟩ | ⟨h, -⟩) <;> first | rfl | exact absurd h (by decide)
        refine x_some ?_
        refine x_sipush (n := 80) (v := nI 999) dX12_ruleOf_77 rfl (by decide) ?_
        refine x_cS2 (n := 83) (d' := 0) zcX12_heldIn mlX12_323 dX12_ruleOf_80 rfl (Nat.le_of_ble_eq_true rfl) (Nat.le_of_ble_eq_true rfl) ?_
        refine c_X12_heldIn (by omega) ?_
        refine x_some ?_
        refine r_iret dX12_ruleOf_83 rfl ?_
        exact hq3 _ (offR_tr (offR_up (offR_up (offR_up (offR_refl I)))) (offR_pile hI'))
      · exact absurd (Int32.not_lt.mp (nI_pos (by omega))) c_63
    · have hq3 : ∀ I' : zI, offR I I' → Q (some (.int (heldF (gText g t 1 a b c) 100))) Z (va_up I' q_s g) := fun I' h => by
        have := hq2 I' h
        rw [if_neg (by decide), if_pos rfl] at this
        exact this
      refine x_ald0 (n := 1) dX12_ruleOf_0 rfl ?_
      refine x_ild1 (n := 2) dX12_ruleOf_1 rfl ?_
      refine x_cV1 (n := 5) (d' := 1) zcX12_counts mlX12_314 dX12_ruleOf_2 rfl (rK hZ) (Nat.le_of_ble_eq_true rfl) (Nat.le_of_ble_eq_true rfl) ?_
      refine c_X12_counts hZ h3 h32 ?_
      rw [hc]
      refine x_some ?_
      show zX _ _ _ _ _ _ _ _ [.int (nI t)] _ _ _
      refine x_ist5 (n := 7) dX12_ruleOf_5 rfl (by decide) rfl ?_
      refine x_ild1 (n := 8) dX12_ruleOf_7 rfl ?_
      refine x_tswI (n := 84) (off := 76) dX12_ruleOf_8 (by decide) (by decide) (by decide +kernel) (by decide) ?_
      refine x_ald0 (n := 85) dX12_ruleOf_84 rfl ?_
      refine x_getR (n := 88) flX12_52 rfl dX12_ruleOf_85 rfl (rK hZ) (rP_named hZ) ?_
      refine x_bipush (n := 90) (v := nI 107) dX12_ruleOf_88 rfl (by decide) ?_
      refine x_ild2 (n := 91) dX12_ruleOf_90 rfl ?_
      refine x_ost (n := 92) dX12_ruleOf_91 rfl (rA_named hZ) (by decide) (Nat.le_of_ble_eq_true rfl) (by omega) ?_
      refine x_ald0 (n := 93) dX12_ruleOf_92 rfl ?_
      refine x_getR (n := 96) flX12_52 rfl dX12_ruleOf_93 rfl (rK hZ) (rP_named hZ) ?_
      refine x_bipush (n := 98) (v := nI 121) dX12_ruleOf_96 rfl (by decide) ?_
      refine x_ild3 (n := 99) dX12_ruleOf_98 rfl ?_
      refine x_ost (n := 100) dX12_ruleOf_99 rfl (rA_named hZ) (by decide) (Nat.le_of_ble_eq_true rfl) (by omega) ?_
      refine x_ild5 (n := 102) dX12_ruleOf_100 rfl ?_
      refine x_if_ge (n := 105) (tgt := 110) dX12_ruleOf_102 rfl (by decide) (fun c_102 => ?_) (fun c_102 => ?_)
      · refine x_ald0 (n := 111) dX12_ruleOf_110 rfl ?_
        refine x_ild5 (n := 113) dX12_ruleOf_111 rfl ?_
        refine x_cV1 (n := 116) (d' := 1) zcX12_worked mlX12_320 dX12_ruleOf_113 rfl (rK hZ) (Nat.le_of_ble_eq_true rfl) (Nat.le_of_ble_eq_true rfl) ?_
        refine c_X12_worked (nm := nmF 1 a b c) hZ (by omega) (hT t ht) hkey ?_ (fun I' hI' => ?_)
        · rintro j (⟨h, -⟩ | ⟨-, rfl | rfl⟩ | ⟨h, -⟩ | ⟨h, -⟩) <;> first | rfl | exact absurd h (by decide)
        refine x_some ?_
        refine x_bipush (n := 118) (v := nI 100) dX12_ruleOf_116 rfl (by decide) ?_
        refine x_cS2 (n := 121) (d' := 0) zcX12_heldIn mlX12_323 dX12_ruleOf_118 rfl (Nat.le_of_ble_eq_true rfl) (Nat.le_of_ble_eq_true rfl) ?_
        refine c_X12_heldIn (by omega) ?_
        refine x_some ?_
        refine r_iret dX12_ruleOf_121 rfl ?_
        exact hq3 _ (offR_tr (offR_up (offR_up (offR_refl I))) (offR_pile hI'))
      · exact absurd (Int32.not_lt.mp (nI_pos (by omega))) c_102
    · have hq3 : ∀ I' : zI, offR I I' → Q (some (.int (heldF (gText g t 2 a b c) 99999))) Z (va_up I' q_s g) := fun I' h => by
        have := hq2 I' h
        rw [if_neg (by decide), if_neg (by decide), if_pos rfl] at this
        exact this
      refine x_ald0 (n := 1) dX12_ruleOf_0 rfl ?_
      refine x_ild1 (n := 2) dX12_ruleOf_1 rfl ?_
      refine x_cV1 (n := 5) (d' := 1) zcX12_counts mlX12_314 dX12_ruleOf_2 rfl (rK hZ) (Nat.le_of_ble_eq_true rfl) (Nat.le_of_ble_eq_true rfl) ?_
      refine c_X12_counts hZ h3 h32 ?_
      rw [hc]
      refine x_some ?_
      show zX _ _ _ _ _ _ _ _ [.int (nI t)] _ _ _
      refine x_ist5 (n := 7) dX12_ruleOf_5 rfl (by decide) rfl ?_
      refine x_ild1 (n := 8) dX12_ruleOf_7 rfl ?_
      refine x_tswI (n := 122) (off := 114) dX12_ruleOf_8 (by decide) (by decide) (by decide +kernel) (by decide) ?_
      refine x_ald0 (n := 123) dX12_ruleOf_122 rfl ?_
      refine x_getR (n := 126) flX12_52 rfl dX12_ruleOf_123 rfl (rK hZ) (rP_named hZ) ?_
      refine x_bipush (n := 128) (v := nI 110) dX12_ruleOf_126 rfl (by decide) ?_
      refine x_ild2 (n := 129) dX12_ruleOf_128 rfl ?_
      refine x_ost (n := 130) dX12_ruleOf_129 rfl (rA_named hZ) (by decide) (Nat.le_of_ble_eq_true rfl) (by omega) ?_
      refine x_ild5 (n := 132) dX12_ruleOf_130 rfl ?_
      refine x_if_ge (n := 135) (tgt := 142) dX12_ruleOf_132 rfl (by decide) (fun c_132 => ?_) (fun c_132 => ?_)
      · refine x_ald0 (n := 143) dX12_ruleOf_142 rfl ?_
        refine x_ild5 (n := 145) dX12_ruleOf_143 rfl ?_
        refine x_cV1 (n := 148) (d' := 1) zcX12_worked mlX12_320 dX12_ruleOf_145 rfl (rK hZ) (Nat.le_of_ble_eq_true rfl) (Nat.le_of_ble_eq_true rfl) ?_
        refine c_X12_worked (nm := nmF 2 a b c) hZ (by omega) (hT t ht) hkey ?_ (fun I' hI' => ?_)
        · rintro j (⟨h, -⟩ | ⟨h, -⟩ | ⟨-, rfl⟩ | ⟨h, -⟩) <;> first | rfl | exact absurd h (by decide)
        refine x_some ?_
        refine x_ldcw (n := 151) dX12_ruleOf_148 rfl kiX12_326 ?_
        refine x_cS2 (n := 154) (d' := 0) zcX12_heldIn mlX12_323 dX12_ruleOf_151 rfl (Nat.le_of_ble_eq_true rfl) (Nat.le_of_ble_eq_true rfl) ?_
        refine c_X12_heldIn (by omega) ?_
        refine x_some ?_
        refine r_iret dX12_ruleOf_154 rfl ?_
        exact hq3 _ (offR_tr (offR_up (offR_refl I)) (offR_pile hI'))
      · exact absurd (Int32.not_lt.mp (nI_pos (by omega))) c_132
    · have hq3 : ∀ I' : zI, offR I I' → Q (some (.int (gText g t 3 a b c))) Z (va_up I' q_s g) := fun I' h => by
        have := hq2 I' h
        rw [if_neg (by decide), if_neg (by decide), if_neg (by decide)] at this
        exact this
      refine x_ald0 (n := 1) dX12_ruleOf_0 rfl ?_
      refine x_ild1 (n := 2) dX12_ruleOf_1 rfl ?_
      refine x_cV1 (n := 5) (d' := 1) zcX12_counts mlX12_314 dX12_ruleOf_2 rfl (rK hZ) (Nat.le_of_ble_eq_true rfl) (Nat.le_of_ble_eq_true rfl) ?_
      refine c_X12_counts hZ h3 h32 ?_
      rw [hc]
      refine x_some ?_
      show zX _ _ _ _ _ _ _ _ [.int (nI t)] _ _ _
      refine x_ist5 (n := 7) dX12_ruleOf_5 rfl (by decide) rfl ?_
      refine x_ild1 (n := 8) dX12_ruleOf_7 rfl ?_
      refine x_tswO (n := 155) dX12_ruleOf_8 (by decide) (by decide) ?_
      refine x_ald0 (n := 156) dX12_ruleOf_155 rfl ?_
      refine x_getR (n := 159) flX12_52 rfl dX12_ruleOf_156 rfl (rK hZ) (rP_named hZ) ?_
      refine x_bipush (n := 161) (v := nI 99) dX12_ruleOf_159 rfl (by decide) ?_
      refine x_ild2 (n := 162) dX12_ruleOf_161 rfl ?_
      refine x_ost (n := 163) dX12_ruleOf_162 rfl (rA_named hZ) (by decide) (Nat.le_of_ble_eq_true rfl) (by omega) ?_
      refine x_ald0 (n := 164) dX12_ruleOf_163 rfl ?_
      refine x_getR (n := 167) flX12_52 rfl dX12_ruleOf_164 rfl (rK hZ) (rP_named hZ) ?_
      refine x_bipush (n := 169) (v := nI 119) dX12_ruleOf_167 rfl (by decide) ?_
      refine x_ild3 (n := 170) dX12_ruleOf_169 rfl ?_
      refine x_ost (n := 171) dX12_ruleOf_170 rfl (rA_named hZ) (by decide) (Nat.le_of_ble_eq_true rfl) (by omega) ?_
      refine x_ild5 (n := 173) dX12_ruleOf_171 rfl ?_
      refine x_if_lt (n := 176) (tgt := 185) dX12_ruleOf_173 rfl (by decide) (fun c_173 => ?_) (fun c_173 => ?_)
      · exact absurd c_173 (nI_pos (by omega))
      · refine x_ald0 (n := 177) dX12_ruleOf_176 rfl ?_
        refine x_ild5 (n := 179) dX12_ruleOf_177 rfl ?_
        refine x_cV1 (n := 182) (d' := 1) zcX12_worked mlX12_320 dX12_ruleOf_179 rfl (rK hZ) (Nat.le_of_ble_eq_true rfl) (Nat.le_of_ble_eq_true rfl) ?_
        refine c_X12_worked (nm := nmF 3 a b c) hZ (by omega) (hT t ht) hkey ?_ (fun I' hI' => ?_)
        · rintro j (⟨h, -⟩ | ⟨h, -⟩ | ⟨h, -⟩ | ⟨-, rfl | rfl⟩) <;> first | rfl | exact absurd h (by decide)
        refine x_some ?_
        refine x_goto (n := 195) dX12_ruleOf_182 (by decide) ?_
        refine r_iret dX12_ruleOf_195 rfl ?_
        exact hq3 _ (offR_tr (offR_up (offR_up (offR_refl I))) (offR_pile hI'))
end
