/-! ===== the constructor of the reference ===== -/
def g0 : Nat → Int32 := upd (upd (upd (upd (upd (upd (gBegin (fun _ => 0) 8) 11 (nI 2)) 12 (nI 2)) 13 (nI 3)) 14 (nI 9)) 15 (nI 5)) 16 (nI 999)
def RfI (I K : zI) : Prop := (∀ a, a ≠ 259 → a ≠ 262 → a ≠ 265 → a ≠ 266 → a ≠ 267 → K a = I a) ∧ K q_s = g0 ∧ (∀ j, j < 4 → K q_tSort j = -1) ∧ RfC K
theorem x_gen {l : Launch} {G : zG} {md : zD} {d ac as pc : Nat} {ls : List (Option Value)} {st : List Value} {Z : zS} {I : zI} {Q : Option Value → zS → zI → Prop} (h : ∀ J, J = I → zX l G md d ac as pc ls st Z J Q) : zX l G md d ac as pc ls st Z I Q := h I rfl
section
variable {l : Launch} {G : zG} {Z0 Z : zS} {I : zI} {Q : Option Value → zS → zI → Prop}
theorem m_X12_init (h : FL Z0 Z 258 1 [(0, 12)] [] [] 0) (hz : ∀ a, 258 + 1 ≤ a → I a = fun _ => 0) (hq : ∀ Z' K, Z'.1 = 258 + 24 → (∀ a, a < 258 → Z'.2.1 a = Z0.2.1 a ∧ Z'.2.2.1 a = Z0.2.2.1 a ∧ Z'.2.2.2 a = Z0.2.2.2 a) → ShR Z' → RfI I K → Q none Z' K) : zM l G mX12_init 2 23 40000 [.ref 258] Z I Q := by
  refine x_entry [some (.ref 258), none] 1 rfl rfl (Nat.le_of_ble_eq_true rfl) ?_
  refine x_ald0 (n := 1) dX12_init_0 rfl ?_
  refine x_objI (n := 4) dX12_init_1 rfl mlX12_1 zoI zoC (by decide) (Nat.le_of_ble_eq_true rfl) ?_
  refine x_ald0 (n := 5) dX12_init_4 rfl ?_
  refine x_sipush (n := 8) (v := nI 5530) dX12_init_5 rfl (by decide) ?_
  refine y_newI (N := 5530) (n := 1) (m := 10) h (fun a ha => hz a (by omega)) dX12_init_8 rfl (by decide) (by decide) (by decide) (by decide) (fun Zh8 h8 => ?_)
  refine y_putR (p := 0) (b := 1) (k := 0) (m := 13) h8 flX12_7 rfl (Or.inr ⟨rfl, rfl⟩) (fun q => by cases q <;> exact ⟨rfl, rfl⟩) dX12_init_10 rfl (by decide) (by decide) (by decide) (Or.inl rfl) (fun Zh10 h10 => ?_)
  refine x_ald0 (n := 14) dX12_init_13 rfl ?_
  refine x_sipush (n := 17) (v := nI 5530) dX12_init_14 rfl (by decide) ?_
  refine y_newI (N := 5530) (n := 2) (m := 19) h10 (fun a ha => hz a (by omega)) dX12_init_17 rfl (by decide) (by decide) (by decide) (by decide) (fun Zh17 h17 => ?_)
  refine y_putR (p := 0) (b := 2) (k := 1) (m := 22) h17 flX12_13 rfl (Or.inr ⟨rfl, rfl⟩) (fun q => by cases q <;> exact ⟨rfl, rfl⟩) dX12_init_19 rfl (by decide) (by decide) (by decide) (Or.inl rfl) (fun Zh19 h19 => ?_)
  refine x_ald0 (n := 23) dX12_init_22 rfl ?_
  refine x_sipush (n := 26) (v := nI 5530) dX12_init_23 rfl (by decide) ?_
  refine y_newI (N := 5530) (n := 3) (m := 28) h19 (fun a ha => hz a (by omega)) dX12_init_26 rfl (by decide) (by decide) (by decide) (by decide) (fun Zh26 h26 => ?_)
  refine y_putR (p := 0) (b := 3) (k := 2) (m := 31) h26 flX12_16 rfl (Or.inr ⟨rfl, rfl⟩) (fun q => by cases q <;> exact ⟨rfl, rfl⟩) dX12_init_28 rfl (by decide) (by decide) (by decide) (Or.inl rfl) (fun Zh28 h28 => ?_)
  refine x_ald0 (n := 32) dX12_init_31 rfl ?_
  refine x_ic4 (n := 33) dX12_init_32 rfl ?_
  refine y_newI (N := 4) (n := 4) (m := 35) h28 (fun a ha => hz a (by omega)) dX12_init_33 rfl (by decide) (by decide) (by decide) (by decide) (fun Zh33 h33 => ?_)
  refine y_putR (p := 0) (b := 4) (k := 4) (m := 38) h33 flX12_19 rfl (Or.inr ⟨rfl, rfl⟩) (fun q => by cases q <;> exact ⟨rfl, rfl⟩) dX12_init_35 rfl (by decide) (by decide) (by decide) (Or.inl rfl) (fun Zh35 h35 => ?_)
  refine x_ald0 (n := 39) dX12_init_38 rfl ?_
  refine x_ic4 (n := 40) dX12_init_39 rfl ?_
  refine y_newI (N := 4) (n := 5) (m := 42) h35 (fun a ha => hz a (by omega)) dX12_init_40 rfl (by decide) (by decide) (by decide) (by decide) (fun Zh40 h40 => ?_)
  refine y_putR (p := 0) (b := 5) (k := 5) (m := 45) h40 flX12_22 rfl (Or.inr ⟨rfl, rfl⟩) (fun q => by cases q <;> exact ⟨rfl, rfl⟩) dX12_init_42 rfl (by decide) (by decide) (by decide) (Or.inl rfl) (fun Zh42 h42 => ?_)
  refine x_ald0 (n := 46) dX12_init_45 rfl ?_
  refine x_bipush (n := 48) (v := nI 96) dX12_init_46 rfl (by decide) ?_
  refine y_newI (N := 96) (n := 6) (m := 50) h42 (fun a ha => hz a (by omega)) dX12_init_48 rfl (by decide) (by decide) (by decide) (by decide) (fun Zh48 h48 => ?_)
  refine y_putR (p := 0) (b := 6) (k := 6) (m := 53) h48 flX12_25 rfl (Or.inr ⟨rfl, rfl⟩) (fun q => by cases q <;> exact ⟨rfl, rfl⟩) dX12_init_50 rfl (by decide) (by decide) (by decide) (Or.inl rfl) (fun Zh50 h50 => ?_)
  refine x_ald0 (n := 54) dX12_init_53 rfl ?_
  refine x_ic4 (n := 55) dX12_init_54 rfl ?_
  refine y_newI (N := 4) (n := 7) (m := 57) h50 (fun a ha => hz a (by omega)) dX12_init_55 rfl (by decide) (by decide) (by decide) (by decide) (fun Zh55 h55 => ?_)
  refine x_dup (n := 58) dX12_init_57 rfl rfl ?_
  refine x_ic0 (n := 59) dX12_init_58 rfl ?_
  refine x_ic1 (n := 60) dX12_init_59 rfl ?_
  refine x_iastN (n := 61) (N := 4) dX12_init_60 rfl (FL_a (p := 7) h55 (by decide)) (by decide) (by decide) ?_
  refine x_dup (n := 62) dX12_init_61 rfl rfl ?_
  refine x_ic1 (n := 63) dX12_init_62 rfl ?_
  refine x_ic3 (n := 64) dX12_init_63 rfl ?_
  refine x_iastN (n := 65) (N := 4) dX12_init_64 rfl (FL_a (p := 7) h55 (by decide)) (by decide) (by decide) ?_
  refine x_dup (n := 66) dX12_init_65 rfl rfl ?_
  refine x_ic2 (n := 67) dX12_init_66 rfl ?_
  refine x_ic2 (n := 68) dX12_init_67 rfl ?_
  refine x_iastN (n := 69) (N := 4) dX12_init_68 rfl (FL_a (p := 7) h55 (by decide)) (by decide) (by decide) ?_
  refine x_dup (n := 70) dX12_init_69 rfl rfl ?_
  refine x_ic3 (n := 71) dX12_init_70 rfl ?_
  refine x_ic3 (n := 72) dX12_init_71 rfl ?_
  refine x_iastN (n := 73) (N := 4) dX12_init_72 rfl (FL_a (p := 7) h55 (by decide)) (by decide) (by decide) ?_
  refine x_gen (fun J1 e1 => ?_)
  have o1 : ∀ a, a ≠ 258 + 7 → J1 a = I a := fun a ha => by rw [e1, va_up_off ha, va_up_off ha, va_up_off ha, va_up_off ha]
  have v1 : ∀ j, j < 4 → J1 (258 + 7) j = nI ([1, 3, 2, 3].getD j 0) := fun j hj => by
    rw [e1]
    simp only [va_up_same]
    rcases (by omega : j = 0 ∨ j = 1 ∨ j = 2 ∨ j = 3) with rfl | rfl | rfl | rfl <;> rfl
  have z1 : ∀ a, 258 + 8 ≤ a → J1 a = fun _ => 0 := fun a ha => by rw [o1 a (by omega)]; exact hz a (by omega)
  refine y_putR (p := 0) (b := 7) (k := 7) (m := 76) h55 flX12_28 rfl (Or.inr ⟨rfl, rfl⟩) (fun q => by cases q <;> exact ⟨rfl, rfl⟩) dX12_init_73 rfl (by decide) (by decide) (by decide) (Or.inl rfl) (fun Zh73 h73 => ?_)
  refine x_ald0 (n := 77) dX12_init_76 rfl ?_
  refine x_ic4 (n := 78) dX12_init_77 rfl ?_
  refine y_newI (N := 4) (n := 8) (m := 80) h73 (fun a ha => z1 a (by omega)) dX12_init_78 rfl (by decide) (by decide) (by decide) (by decide) (fun Zh78 h78 => ?_)
  refine x_dup (n := 81) dX12_init_80 rfl rfl ?_
  refine x_ic0 (n := 82) dX12_init_81 rfl ?_
  refine x_bipush (n := 84) (v := nI 99) dX12_init_82 rfl (by decide) ?_
  refine x_iastN (n := 85) (N := 4) dX12_init_84 rfl (FL_a (p := 8) h78 (by decide)) (by decide) (by decide) ?_
  refine x_dup (n := 86) dX12_init_85 rfl rfl ?_
  refine x_ic1 (n := 87) dX12_init_86 rfl ?_
  refine x_bipush (n := 89) (v := nI 20) dX12_init_87 rfl (by decide) ?_
  refine x_iastN (n := 90) (N := 4) dX12_init_89 rfl (FL_a (p := 8) h78 (by decide)) (by decide) (by decide) ?_
  refine x_dup (n := 91) dX12_init_90 rfl rfl ?_
  refine x_ic2 (n := 92) dX12_init_91 rfl ?_
  refine x_bipush (n := 94) (v := nI 8) dX12_init_92 rfl (by decide) ?_
  refine x_iastN (n := 95) (N := 4) dX12_init_94 rfl (FL_a (p := 8) h78 (by decide)) (by decide) (by decide) ?_
  refine x_dup (n := 96) dX12_init_95 rfl rfl ?_
  refine x_ic3 (n := 97) dX12_init_96 rfl ?_
  refine x_bipush (n := 99) (v := nI 12) dX12_init_97 rfl (by decide) ?_
  refine x_iastN (n := 100) (N := 4) dX12_init_99 rfl (FL_a (p := 8) h78 (by decide)) (by decide) (by decide) ?_
  refine x_gen (fun J2 e2 => ?_)
  have o2 : ∀ a, a ≠ 258 + 8 → J2 a = J1 a := fun a ha => by rw [e2, va_up_off ha, va_up_off ha, va_up_off ha, va_up_off ha]
  have v2 : ∀ j, j < 4 → J2 (258 + 8) j = nI ([99, 20, 8, 12].getD j 0) := fun j hj => by
    rw [e2]
    simp only [va_up_same]
    rcases (by omega : j = 0 ∨ j = 1 ∨ j = 2 ∨ j = 3) with rfl | rfl | rfl | rfl <;> rfl
  have z2 : ∀ a, 258 + 9 ≤ a → J2 a = fun _ => 0 := fun a ha => by rw [o2 a (by omega)]; exact z1 a (by omega)
  refine y_putR (p := 0) (b := 8) (k := 8) (m := 103) h78 flX12_31 rfl (Or.inr ⟨rfl, rfl⟩) (fun q => by cases q <;> exact ⟨rfl, rfl⟩) dX12_init_100 rfl (by decide) (by decide) (by decide) (Or.inl rfl) (fun Zh100 h100 => ?_)
  refine x_ald0 (n := 104) dX12_init_103 rfl ?_
  refine x_bipush (n := 106) (v := nI 6) dX12_init_104 rfl (by decide) ?_
  refine y_newI (N := 6) (n := 9) (m := 108) h100 (fun a ha => z2 a (by omega)) dX12_init_106 rfl (by decide) (by decide) (by decide) (by decide) (fun Zh106 h106 => ?_)
  refine x_dup (n := 109) dX12_init_108 rfl rfl ?_
  refine x_ic0 (n := 110) dX12_init_109 rfl ?_
  refine x_bipush (n := 112) (v := nI 9) dX12_init_110 rfl (by decide) ?_
  refine x_iastN (n := 113) (N := 6) dX12_init_112 rfl (FL_a (p := 9) h106 (by decide)) (by decide) (by decide) ?_
  refine x_dup (n := 114) dX12_init_113 rfl rfl ?_
  refine x_ic1 (n := 115) dX12_init_114 rfl ?_
  refine x_bipush (n := 117) (v := nI 9) dX12_init_115 rfl (by decide) ?_
  refine x_iastN (n := 118) (N := 6) dX12_init_117 rfl (FL_a (p := 9) h106 (by decide)) (by decide) (by decide) ?_
  refine x_dup (n := 119) dX12_init_118 rfl rfl ?_
  refine x_ic2 (n := 120) dX12_init_119 rfl ?_
  refine x_bipush (n := 122) (v := nI 9) dX12_init_120 rfl (by decide) ?_
  refine x_iastN (n := 123) (N := 6) dX12_init_122 rfl (FL_a (p := 9) h106 (by decide)) (by decide) (by decide) ?_
  refine x_dup (n := 124) dX12_init_123 rfl rfl ?_
  refine x_ic3 (n := 125) dX12_init_124 rfl ?_
  refine x_bipush (n := 127) (v := nI 99) dX12_init_125 rfl (by decide) ?_
  refine x_iastN (n := 128) (N := 6) dX12_init_127 rfl (FL_a (p := 9) h106 (by decide)) (by decide) (by decide) ?_
  refine x_dup (n := 129) dX12_init_128 rfl rfl ?_
  refine x_ic4 (n := 130) dX12_init_129 rfl ?_
  refine x_bipush (n := 132) (v := nI 99) dX12_init_130 rfl (by decide) ?_
  refine x_iastN (n := 133) (N := 6) dX12_init_132 rfl (FL_a (p := 9) h106 (by decide)) (by decide) (by decide) ?_
  refine x_dup (n := 134) dX12_init_133 rfl rfl ?_
  refine x_ic5 (n := 135) dX12_init_134 rfl ?_
  refine x_sipush (n := 138) (v := nI 1999) dX12_init_135 rfl (by decide) ?_
  refine x_iastN (n := 139) (N := 6) dX12_init_138 rfl (FL_a (p := 9) h106 (by decide)) (by decide) (by decide) ?_
  refine x_gen (fun J3 e3 => ?_)
  have o3 : ∀ a, a ≠ 258 + 9 → J3 a = J2 a := fun a ha => by rw [e3, va_up_off ha, va_up_off ha, va_up_off ha, va_up_off ha, va_up_off ha, va_up_off ha]
  have v3 : ∀ j, j < 6 → J3 (258 + 9) j = nI ([9, 9, 9, 99, 99, 1999].getD j 0) := fun j hj => by
    rw [e3]
    simp only [va_up_same]
    rcases (by omega : j = 0 ∨ j = 1 ∨ j = 2 ∨ j = 3 ∨ j = 4 ∨ j = 5) with rfl | rfl | rfl | rfl | rfl | rfl <;> rfl
  have z3 : ∀ a, 258 + 10 ≤ a → J3 a = fun _ => 0 := fun a ha => by rw [o3 a (by omega)]; exact z2 a (by omega)
  refine y_putR (p := 0) (b := 9) (k := 9) (m := 142) h106 flX12_34 rfl (Or.inr ⟨rfl, rfl⟩) (fun q => by cases q <;> exact ⟨rfl, rfl⟩) dX12_init_139 rfl (by decide) (by decide) (by decide) (Or.inl rfl) (fun Zh139 h139 => ?_)
  refine x_ald0 (n := 143) dX12_init_142 rfl ?_
  refine x_sipush (n := 146) (v := nI 2400) dX12_init_143 rfl (by decide) ?_
  refine y_newI (N := 2400) (n := 10) (m := 148) h139 (fun a ha => z3 a (by omega)) dX12_init_146 rfl (by decide) (by decide) (by decide) (by decide) (fun Zh146 h146 => ?_)
  refine y_putR (p := 0) (b := 10) (k := 10) (m := 151) h146 flX12_37 rfl (Or.inr ⟨rfl, rfl⟩) (fun q => by cases q <;> exact ⟨rfl, rfl⟩) dX12_init_148 rfl (by decide) (by decide) (by decide) (Or.inl rfl) (fun Zh148 h148 => ?_)
  refine x_ald0 (n := 152) dX12_init_151 rfl ?_
  refine x_bipush (n := 154) (v := nI 24) dX12_init_152 rfl (by decide) ?_
  refine y_newI (N := 24) (n := 11) (m := 156) h148 (fun a ha => z3 a (by omega)) dX12_init_154 rfl (by decide) (by decide) (by decide) (by decide) (fun Zh154 h154 => ?_)
  refine y_putR (p := 0) (b := 11) (k := 11) (m := 159) h154 flX12_40 rfl (Or.inr ⟨rfl, rfl⟩) (fun q => by cases q <;> exact ⟨rfl, rfl⟩) dX12_init_156 rfl (by decide) (by decide) (by decide) (Or.inl rfl) (fun Zh156 h156 => ?_)
  refine x_ald0 (n := 160) dX12_init_159 rfl ?_
  refine x_sipush (n := 163) (v := nI 4801) dX12_init_160 rfl (by decide) ?_
  refine y_newI (N := 4801) (n := 12) (m := 165) h156 (fun a ha => z3 a (by omega)) dX12_init_163 rfl (by decide) (by decide) (by decide) (by decide) (fun Zh163 h163 => ?_)
  refine y_putR (p := 0) (b := 12) (k := 12) (m := 168) h163 flX12_43 rfl (Or.inr ⟨rfl, rfl⟩) (fun q => by cases q <;> exact ⟨rfl, rfl⟩) dX12_init_165 rfl (by decide) (by decide) (by decide) (Or.inl rfl) (fun Zh165 h165 => ?_)
  refine x_ald0 (n := 169) dX12_init_168 rfl ?_
  refine x_sipush (n := 172) (v := nI 4801) dX12_init_169 rfl (by decide) ?_
  refine y_newI (N := 4801) (n := 13) (m := 174) h165 (fun a ha => z3 a (by omega)) dX12_init_172 rfl (by decide) (by decide) (by decide) (by decide) (fun Zh172 h172 => ?_)
  refine y_putR (p := 0) (b := 13) (k := 13) (m := 177) h172 flX12_46 rfl (Or.inr ⟨rfl, rfl⟩) (fun q => by cases q <;> exact ⟨rfl, rfl⟩) dX12_init_174 rfl (by decide) (by decide) (by decide) (Or.inl rfl) (fun Zh174 h174 => ?_)
  refine x_ald0 (n := 178) dX12_init_177 rfl ?_
  refine x_bipush (n := 180) (v := nI 96) dX12_init_178 rfl (by decide) ?_
  refine y_newI (N := 96) (n := 14) (m := 182) h174 (fun a ha => z3 a (by omega)) dX12_init_180 rfl (by decide) (by decide) (by decide) (by decide) (fun Zh180 h180 => ?_)
  refine y_putR (p := 0) (b := 14) (k := 14) (m := 185) h180 flX12_49 rfl (Or.inr ⟨rfl, rfl⟩) (fun q => by cases q <;> exact ⟨rfl, rfl⟩) dX12_init_182 rfl (by decide) (by decide) (by decide) (Or.inl rfl) (fun Zh182 h182 => ?_)
  refine x_ald0 (n := 186) dX12_init_185 rfl ?_
  refine x_sipush (n := 189) (v := nI 128) dX12_init_186 rfl (by decide) ?_
  refine y_newI (N := 128) (n := 15) (m := 191) h182 (fun a ha => z3 a (by omega)) dX12_init_189 rfl (by decide) (by decide) (by decide) (by decide) (fun Zh189 h189 => ?_)
  refine y_putR (p := 0) (b := 15) (k := 26) (m := 194) h189 flX12_52 rfl (Or.inr ⟨rfl, rfl⟩) (fun q => by cases q <;> exact ⟨rfl, rfl⟩) dX12_init_191 rfl (by decide) (by decide) (by decide) (Or.inl rfl) (fun Zh191 h191 => ?_)
  refine x_ald0 (n := 195) dX12_init_194 rfl ?_
  refine x_bipush (n := 197) (v := nI 100) dX12_init_195 rfl (by decide) ?_
  refine y_newI (N := 100) (n := 16) (m := 199) h191 (fun a ha => z3 a (by omega)) dX12_init_197 rfl (by decide) (by decide) (by decide) (by decide) (fun Zh197 h197 => ?_)
  refine y_putR (p := 0) (b := 16) (k := 27) (m := 202) h197 flX12_55 rfl (Or.inr ⟨rfl, rfl⟩) (fun q => by cases q <;> exact ⟨rfl, rfl⟩) dX12_init_199 rfl (by decide) (by decide) (by decide) (Or.inl rfl) (fun Zh199 h199 => ?_)
  refine x_ald0 (n := 203) dX12_init_202 rfl ?_
  refine x_sipush (n := 206) (v := nI 2000) dX12_init_203 rfl (by decide) ?_
  refine y_newZ (N := 2000) (n := 17) (m := 208) h199 (fun a ha => z3 a (by omega)) dX12_init_206 rfl (by decide) (by decide) (by decide) (by decide) (fun Zh206 h206 => ?_)
  refine y_putR (p := 0) (b := 17) (k := 28) (m := 211) h206 flX12_58 rfl (Or.inr ⟨rfl, rfl⟩) (fun q => by cases q <;> exact ⟨rfl, rfl⟩) dX12_init_208 rfl (by decide) (by decide) (by decide) (Or.inl rfl) (fun Zh208 h208 => ?_)
  refine x_ald0 (n := 212) dX12_init_211 rfl ?_
  refine x_bipush (n := 214) (v := nI 20) dX12_init_212 rfl (by decide) ?_
  refine y_newI (N := 20) (n := 18) (m := 216) h208 (fun a ha => z3 a (by omega)) dX12_init_214 rfl (by decide) (by decide) (by decide) (by decide) (fun Zh214 h214 => ?_)
  refine y_putR (p := 0) (b := 18) (k := 29) (m := 219) h214 flX12_62 rfl (Or.inr ⟨rfl, rfl⟩) (fun q => by cases q <;> exact ⟨rfl, rfl⟩) dX12_init_216 rfl (by decide) (by decide) (by decide) (Or.inl rfl) (fun Zh216 h216 => ?_)
  refine x_ald0 (n := 220) dX12_init_219 rfl ?_
  refine x_sipush (n := 223) (v := nI 256) dX12_init_220 rfl (by decide) ?_
  refine y_newZ (N := 256) (n := 19) (m := 225) h216 (fun a ha => z3 a (by omega)) dX12_init_223 rfl (by decide) (by decide) (by decide) (by decide) (fun Zh223 h223 => ?_)
  refine y_putR (p := 0) (b := 19) (k := 30) (m := 228) h223 flX12_65 rfl (Or.inr ⟨rfl, rfl⟩) (fun q => by cases q <;> exact ⟨rfl, rfl⟩) dX12_init_225 rfl (by decide) (by decide) (by decide) (Or.inl rfl) (fun Zh225 h225 => ?_)
  refine x_ald0 (n := 229) dX12_init_228 rfl ?_
  refine x_bipush (n := 231) (v := nI 24) dX12_init_229 rfl (by decide) ?_
  refine y_newI (N := 24) (n := 20) (m := 233) h225 (fun a ha => z3 a (by omega)) dX12_init_231 rfl (by decide) (by decide) (by decide) (by decide) (fun Zh231 h231 => ?_)
  refine y_putR (p := 0) (b := 20) (k := 31) (m := 236) h231 flX12_68 rfl (Or.inr ⟨rfl, rfl⟩) (fun q => by cases q <;> exact ⟨rfl, rfl⟩) dX12_init_233 rfl (by decide) (by decide) (by decide) (Or.inl rfl) (fun Zh233 h233 => ?_)
  refine x_ald0 (n := 237) dX12_init_236 rfl ?_
  refine x_bipush (n := 239) (v := nI 24) dX12_init_237 rfl (by decide) ?_
  refine y_newI (N := 24) (n := 21) (m := 241) h233 (fun a ha => z3 a (by omega)) dX12_init_239 rfl (by decide) (by decide) (by decide) (by decide) (fun Zh239 h239 => ?_)
  refine y_putR (p := 0) (b := 21) (k := 32) (m := 244) h239 flX12_71 rfl (Or.inr ⟨rfl, rfl⟩) (fun q => by cases q <;> exact ⟨rfl, rfl⟩) dX12_init_241 rfl (by decide) (by decide) (by decide) (Or.inl rfl) (fun Zh241 h241 => ?_)
  refine x_ald0 (n := 245) dX12_init_244 rfl ?_
  refine x_bipush (n := 247) (v := nI 60) dX12_init_245 rfl (by decide) ?_
  refine y_newI (N := 60) (n := 22) (m := 249) h241 (fun a ha => z3 a (by omega)) dX12_init_247 rfl (by decide) (by decide) (by decide) (by decide) (fun Zh247 h247 => ?_)
  refine y_putR (p := 0) (b := 22) (k := 33) (m := 252) h247 flX12_74 rfl (Or.inr ⟨rfl, rfl⟩) (fun q => by cases q <;> exact ⟨rfl, rfl⟩) dX12_init_249 rfl (by decide) (by decide) (by decide) (Or.inl rfl) (fun Zh249 h249 => ?_)
  refine x_ald0 (n := 253) dX12_init_252 rfl ?_
  refine x_bipush (n := 255) (v := nI 60) dX12_init_253 rfl (by decide) ?_
  refine y_newI (N := 60) (n := 23) (m := 257) h249 (fun a ha => z3 a (by omega)) dX12_init_255 rfl (by decide) (by decide) (by decide) (by decide) (fun Zh255 h255 => ?_)
  refine y_putR (p := 0) (b := 23) (k := 35) (m := 260) h255 flX12_77 rfl (Or.inr ⟨rfl, rfl⟩) (fun q => by cases q <;> exact ⟨rfl, rfl⟩) dX12_init_257 rfl (by decide) (by decide) (by decide) (Or.inl rfl) (fun Zh257 h257 => ?_)
  have hZ : ShR Zh257 := ⟨FL_k (p := 0) h257 (by decide), fun q hq => ⟨((h257.2.2.2.1 _ ((by decide +kernel : ∀ q ∈ rList, (0, q.1, q.2.1 - 258) ∈ _) q hq)).2.trans (congrArg some ((by decide +kernel : ∀ q ∈ rList, 258 + (q.2.1 - 258) = q.2.1) q hq))), by have h9 := h257.2.2.2.2.1 _ ((by decide +kernel : ∀ q ∈ rList, (q.2.1 - 258, q.2.2.1, q.2.2.2) ∈ _) q hq); rw [show 258 + (q.2.1 - 258) = q.2.1 from (by decide +kernel : ∀ q ∈ rList, 258 + (q.2.1 - 258) = q.2.1) q hq] at h9; exact h9⟩⟩
  have hs0 : J3 q_s = fun _ => 0 := by rw [show J3 q_s = J2 q_s from o3 259 (by decide), show J2 q_s = J1 q_s from o2 259 (by decide), show J1 q_s = I q_s from o1 259 (by decide)]; exact hz 259 (by decide)
  refine x_ald0 (n := 261) dX12_init_260 rfl ?_
  refine x_bipush (n := 263) (v := nI 8) dX12_init_261 rfl (by decide) ?_
  refine x_cV1 (n := 266) (d' := 1) zcX12_begins mlX12_80 dX12_init_263 rfl (rK hZ) (Nat.le_of_ble_eq_true rfl) (Nat.le_of_ble_eq_true rfl) ?_
  refine zM_s hs0 ?_
  refine c_X12_begins hZ (by decide) ?_
  refine x_none ?_
  refine x_ald0 (n := 267) dX12_init_266 rfl ?_
  refine x_getR (n := 270) flX12_7 rfl dX12_init_267 rfl (rK hZ) (rP_s hZ) ?_
  refine x_bipush (n := 272) (v := nI 11) dX12_init_270 rfl (by decide) ?_
  refine x_ic2 (n := 273) dX12_init_272 rfl ?_
  refine x_iastN (n := 274) (N := 5530) dX12_init_273 rfl (rA_s hZ) (by decide) (by decide) ?_
  refine x_ald0 (n := 275) dX12_init_274 rfl ?_
  refine x_getR (n := 278) flX12_7 rfl dX12_init_275 rfl (rK hZ) (rP_s hZ) ?_
  refine x_bipush (n := 280) (v := nI 12) dX12_init_278 rfl (by decide) ?_
  refine x_ic2 (n := 281) dX12_init_280 rfl ?_
  refine x_iastN (n := 282) (N := 5530) dX12_init_281 rfl (rA_s hZ) (by decide) (by decide) ?_
  refine x_ald0 (n := 283) dX12_init_282 rfl ?_
  refine x_getR (n := 286) flX12_7 rfl dX12_init_283 rfl (rK hZ) (rP_s hZ) ?_
  refine x_bipush (n := 288) (v := nI 13) dX12_init_286 rfl (by decide) ?_
  refine x_ic3 (n := 289) dX12_init_288 rfl ?_
  refine x_iastN (n := 290) (N := 5530) dX12_init_289 rfl (rA_s hZ) (by decide) (by decide) ?_
  refine x_ald0 (n := 291) dX12_init_290 rfl ?_
  refine x_getR (n := 294) flX12_7 rfl dX12_init_291 rfl (rK hZ) (rP_s hZ) ?_
  refine x_bipush (n := 296) (v := nI 14) dX12_init_294 rfl (by decide) ?_
  refine x_bipush (n := 298) (v := nI 9) dX12_init_296 rfl (by decide) ?_
  refine x_iastN (n := 299) (N := 5530) dX12_init_298 rfl (rA_s hZ) (by decide) (by decide) ?_
  refine x_ald0 (n := 300) dX12_init_299 rfl ?_
  refine x_getR (n := 303) flX12_7 rfl dX12_init_300 rfl (rK hZ) (rP_s hZ) ?_
  refine x_bipush (n := 305) (v := nI 15) dX12_init_303 rfl (by decide) ?_
  refine x_ic5 (n := 306) dX12_init_305 rfl ?_
  refine x_iastN (n := 307) (N := 5530) dX12_init_306 rfl (rA_s hZ) (by decide) (by decide) ?_
  refine x_ald0 (n := 308) dX12_init_307 rfl ?_
  refine x_getR (n := 311) flX12_7 rfl dX12_init_308 rfl (rK hZ) (rP_s hZ) ?_
  refine x_bipush (n := 313) (v := nI 16) dX12_init_311 rfl (by decide) ?_
  refine x_sipush (n := 316) (v := nI 999) dX12_init_313 rfl (by decide) ?_
  refine x_iastN (n := 317) (N := 5530) dX12_init_316 rfl (rA_s hZ) (by decide) (by decide) ?_
  refine x_gen (fun J4 e4 => ?_)
  have o4 : ∀ a, a ≠ q_s → J4 a = J3 a := fun a ha => by rw [e4, va_up_off ha, va_up_off ha, va_up_off ha, va_up_off ha, va_up_off ha, va_up_off ha, va_up_off ha]
  have v4 : J4 q_s = g0 := by rw [e4]; simp only [va_up_same]; rfl
  refine x_ic0 (n := 318) dX12_init_317 rfl ?_
  refine x_ist1 (n := 319) dX12_init_318 rfl (by decide) rfl ?_
  refine x_ild1 (n := 320) dX12_init_319 rfl ?_
  refine x_ic4 (n := 321) dX12_init_320 rfl ?_
  refine x_icmpN_ge (n := 324) (tgt := 337) dX12_init_321 rfl (by decide) (by decide) (by decide) (fun c321_0 => ?_) (fun c321_0 => ?_)
  exact absurd c321_0 (by decide)
  refine x_ald0 (n := 325) dX12_init_324 rfl ?_
  refine x_getR (n := 328) flX12_19 rfl dX12_init_325 rfl (rK hZ) (rP_tSort hZ) ?_
  refine x_ild1 (n := 329) dX12_init_328 rfl ?_
  refine x_icm1 (n := 330) dX12_init_329 rfl ?_
  refine x_iastN (n := 331) (N := 4) (j := 0) dX12_init_330 rfl (rA_tSort hZ) (by decide) (by decide) ?_
  refine x_iincN1 (n := 334) (k := 1) dX12_init_331 rfl (by decide) rfl ?_
  refine x_goto (n := 319) dX12_init_334 (by decide) ?_
  refine x_ild1 (n := 320) dX12_init_319 rfl ?_
  refine x_ic4 (n := 321) dX12_init_320 rfl ?_
  refine x_icmpN_ge (n := 324) (tgt := 337) dX12_init_321 rfl (by decide) (by decide) (by decide) (fun c321_1 => ?_) (fun c321_1 => ?_)
  exact absurd c321_1 (by decide)
  refine x_ald0 (n := 325) dX12_init_324 rfl ?_
  refine x_getR (n := 328) flX12_19 rfl dX12_init_325 rfl (rK hZ) (rP_tSort hZ) ?_
  refine x_ild1 (n := 329) dX12_init_328 rfl ?_
  refine x_icm1 (n := 330) dX12_init_329 rfl ?_
  refine x_iastN (n := 331) (N := 4) (j := 1) dX12_init_330 rfl (rA_tSort hZ) (by decide) (by decide) ?_
  refine x_iincN1 (n := 334) (k := 1) dX12_init_331 rfl (by decide) rfl ?_
  refine x_goto (n := 319) dX12_init_334 (by decide) ?_
  refine x_ild1 (n := 320) dX12_init_319 rfl ?_
  refine x_ic4 (n := 321) dX12_init_320 rfl ?_
  refine x_icmpN_ge (n := 324) (tgt := 337) dX12_init_321 rfl (by decide) (by decide) (by decide) (fun c321_2 => ?_) (fun c321_2 => ?_)
  exact absurd c321_2 (by decide)
  refine x_ald0 (n := 325) dX12_init_324 rfl ?_
  refine x_getR (n := 328) flX12_19 rfl dX12_init_325 rfl (rK hZ) (rP_tSort hZ) ?_
  refine x_ild1 (n := 329) dX12_init_328 rfl ?_
  refine x_icm1 (n := 330) dX12_init_329 rfl ?_
  refine x_iastN (n := 331) (N := 4) (j := 2) dX12_init_330 rfl (rA_tSort hZ) (by decide) (by decide) ?_
  refine x_iincN1 (n := 334) (k := 1) dX12_init_331 rfl (by decide) rfl ?_
  refine x_goto (n := 319) dX12_init_334 (by decide) ?_
  refine x_ild1 (n := 320) dX12_init_319 rfl ?_
  refine x_ic4 (n := 321) dX12_init_320 rfl ?_
  refine x_icmpN_ge (n := 324) (tgt := 337) dX12_init_321 rfl (by decide) (by decide) (by decide) (fun c321_3 => ?_) (fun c321_3 => ?_)
  exact absurd c321_3 (by decide)
  refine x_ald0 (n := 325) dX12_init_324 rfl ?_
  refine x_getR (n := 328) flX12_19 rfl dX12_init_325 rfl (rK hZ) (rP_tSort hZ) ?_
  refine x_ild1 (n := 329) dX12_init_328 rfl ?_
  refine x_icm1 (n := 330) dX12_init_329 rfl ?_
  refine x_iastN (n := 331) (N := 4) (j := 3) dX12_init_330 rfl (rA_tSort hZ) (by decide) (by decide) ?_
  refine x_iincN1 (n := 334) (k := 1) dX12_init_331 rfl (by decide) rfl ?_
  refine x_goto (n := 319) dX12_init_334 (by decide) ?_
  refine x_ild1 (n := 320) dX12_init_319 rfl ?_
  refine x_ic4 (n := 321) dX12_init_320 rfl ?_
  refine x_icmpN_ge (n := 324) (tgt := 337) dX12_init_321 rfl (by decide) (by decide) (by decide) (fun c321_4 => ?_) (fun c321_4 => ?_)
  rotate_left
  exact absurd c321_4 (by decide)
  refine r_vret dX12_init_337 rfl ?_
  refine hq _ _ h257.1 h257.2.1 hZ ⟨fun a a1 a2 a3 a4 a5 => ?_, ?_, fun j hj => ?_, ?_⟩
  · rw [va_up_off (show a ≠ q_tSort from a2), va_up_off (show a ≠ q_tSort from a2), va_up_off (show a ≠ q_tSort from a2), va_up_off (show a ≠ q_tSort from a2), o4 a a1, o3 a a5, o2 a a4, o1 a a3]
  · rw [va_up_off (show q_s ≠ q_tSort by decide), va_up_off (show q_s ≠ q_tSort by decide), va_up_off (show q_s ≠ q_tSort by decide), va_up_off (show q_s ≠ q_tSort by decide)]; exact v4
  · simp only [va_up_same]
    rcases (by omega : j = 0 ∨ j = 1 ∨ j = 2 ∨ j = 3) with rfl | rfl | rfl | rfl <;> rfl
  · refine ⟨fun j hj => ?_, fun j hj => ?_, fun j hj => ?_⟩
    · rw [va_up_off (show q_cutRate ≠ q_tSort by decide), va_up_off (show q_cutRate ≠ q_tSort by decide), va_up_off (show q_cutRate ≠ q_tSort by decide), va_up_off (show q_cutRate ≠ q_tSort by decide), o4 q_cutRate (by decide), show J3 q_cutRate = J2 q_cutRate from o3 265 (by decide), show J2 q_cutRate = J1 q_cutRate from o2 265 (by decide)]; exact v1 j hj
    · rw [va_up_off (show q_stands ≠ q_tSort by decide), va_up_off (show q_stands ≠ q_tSort by decide), va_up_off (show q_stands ≠ q_tSort by decide), va_up_off (show q_stands ≠ q_tSort by decide), o4 q_stands (by decide), show J3 q_stands = J2 q_stands from o3 266 (by decide)]; exact v2 j hj
    · rw [va_up_off (show q_mostOf ≠ q_tSort by decide), va_up_off (show q_mostOf ≠ q_tSort by decide), va_up_off (show q_mostOf ≠ q_tSort by decide), va_up_off (show q_mostOf ≠ q_tSort by decide), o4 q_mostOf (by decide)]; exact v3 j hj
end
