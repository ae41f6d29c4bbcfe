/-! ===== what holds at the law's entry ===== -/
section
variable {s : State} {b : Nat}
theorem en_arr {A : Array Value} {ty : FieldType} (h : (Cond.arrayClass ty).before A s = true) : ∃ cA, ArrOfT s cA ty ∧ s.vm.findClass ("[" ++ ty.toString) = some cA := by
  obtain ⟨cA, kA, comp, h1, h2, h3⟩ := Cond.arrayClass_spec h
  exact ⟨cA, fun n z => ⟨fun k h => (by cases h), kA, h2, comp, h3⟩, h1⟩
theorem en_obj {A : Array Value} {C : String} (h : (Cond.arrayOver (.object C)).before A s = true) : ∃ cA, ArrOfT s cA (.object C) ∧ va_RA s cA (.object C) := by
  obtain ⟨comp, c, k, h1, -, h3, h4, h5⟩ := Cond.arrayOver_spec h
  exact ⟨c, fun n z => ⟨fun k h => (by cases h), k, h3, comp, h4⟩, k, comp, h3, h4, h1, h5⟩
/-- a static row -/
theorem en_st {A : Array Value} {C nm : String} {vs : List Int32} (hl : (Cond.laysStatic C nm "[I").before A s = true) (hi : (Cond.initialized C).before A s = true) (harr : (Cond.arrayOf (.static C nm "[I") .int).before A s = true) (hlen : (Cond.eq (.length (.static C nm "[I")) (.int (Int32.ofNat vs.length))).before A s = true) (hN : vs.length < 2 ^ 31) (hel : ∀ j, j < vs.length → (Cond.eq (.elem (.static C nm "[I") (.int (Int32.ofNat j))) (.int (vs.getD j 0))).before A s = true) : ∃ t, va_Z C nm "[I" (.ref t) (fun q => s.heap.size ≤ q) s s.heap ∧ va_T .int t vs.length (fun j => .int (vs.getD j 0)) (fun q => s.heap.size ≤ q) s s.heap := by
  obtain ⟨t, h1, h2⟩ := va_Tof (f := fun j => .int (vs.getD j 0)) (A := fun q => s.heap.size ≤ q) hN harr (va_eqt hlen) (fun j hj => va_eqt (hel j hj)) (fun a ha => Nat.not_le.mpr ha)
  exact ⟨t, va_Zof hl hi h1 (fun a ha => Nat.not_le.mpr ha), h2⟩
end
def zIx : List Nat := [105, 111, 113, 115, 126, 128, 130, 132]
def zTm (i : Nat) : Term := .string "LineMaking$Tape" (zIx.getD i 0)
abbrev enF : List Cond := flatC (Jvm.Cond.and given_1 narrow_1)
theorem en_ex : ∀ i : Fin 8, Cond.exactly (zTm i.val) "java/lang/String" ∈ enF := by decide +kernel
theorem en_co : ∀ i : Fin 8, Cond.eq (.field (zTm i.val) "java/lang/String" "coder" "B") (.int 0) ∈ enF := by decide +kernel
theorem en_ar : ∀ i : Fin 8, Cond.arrayOf (.field (zTm i.val) "java/lang/String" "value" "[B") .byte ∈ enF := by decide +kernel
theorem en_le : ∀ i : Fin 8, Cond.eq (.length (.field (zTm i.val) "java/lang/String" "value" "[B")) (.int (Int32.ofNat (zlen.getD i.val 0))) ∈ enF := by decide +kernel
theorem en_el : ∀ (i : Fin 8) (j : Fin 6), j.val < zlen.getD i.val 0 → Cond.eq (.elem (.field (zTm i.val) "java/lang/String" "value" "[B") (.int (Int32.ofNat j.val))) (.int ((zbyt.getD i.val []).getD j.val 0)) ∈ enF := by decide +kernel
theorem en_ne : ∀ i j : Fin 8, i ≠ j → Cond.not (Cond.eq (zTm i.val) (zTm j.val)) ∈ enF ∨ Cond.not (Cond.eq (zTm j.val) (zTm i.val)) ∈ enF := by decide +kernel
theorem en_s1 : ∀ q ∈ zSt, Cond.arrayOf (.static q.1 q.2.1 "[I") .int ∈ enF ∧ Cond.eq (.length (.static q.1 q.2.1 "[I")) (.int (Int32.ofNat q.2.2.2.length)) ∈ enF ∧ q.2.2.2.length ≤ 7 := by decide +kernel
theorem en_s2 : ∀ q ∈ zSt, ∀ j : Fin 7, j.val < q.2.2.2.length → Cond.eq (.elem (.static q.1 q.2.1 "[I") (.int (Int32.ofNat j.val))) (.int (q.2.2.2.getD j.val 0)) ∈ enF := by decide +kernel
theorem en_s3 : ∀ q ∈ zSt, Cond.laysStatic q.1 q.2.1 "[I" ∈ lw_tbl ∧ Cond.initialized q.1 ∈ lw_tbl := by decide +kernel
theorem en_nl : ∀ q ∈ zNl, Cond.methodLinkNest q.1 q.2.1 q.2.2.1 q.2.2.2 ∈ lw_tbl := by decide +kernel
theorem en_ao : ∀ C ∈ zAl, Cond.arrayOver (.object C) ∈ lw_tbl := by decide +kernel
theorem en_sr : ∀ q ∈ zSr, Cond.stringRef "LineMaking$Tape" q.1 q.2.1 ∈ lw_tbl ∧ zIx.getD q.2.2 0 = q.1 ∧ q.2.2 < 8 := by decide +kernel
theorem en_cs : Cond.laysStatic "java/lang/String" "COMPACT_STRINGS" "Z" ∈ lw_tbl ∧ Cond.initialized "java/lang/String" ∈ lw_tbl ∧ Cond.laysStatic "jdk/internal/util/Preconditions" "SIOOBE_FORMATTER" "Ljava/util/function/BiFunction;" ∈ lw_tbl ∧ Cond.initialized "jdk/internal/util/Preconditions" ∈ lw_tbl := by decide +kernel
theorem en_cf : Cond.eq (.static "java/lang/String" "COMPACT_STRINGS" "Z") (.int 1) ∈ enF ∧ Cond.isRef (.static "jdk/internal/util/Preconditions" "SIOOBE_FORMATTER" "Ljava/util/function/BiFunction;") ∈ enF := by decide +kernel
theorem en_ii : ∀ ci, ci < 13 → Cond.instantiable (zCn ci) (zN ci) ∈ zT := z13 iiX0 iiX1 iiX2 iiX3 iiX4 iiX5 iiX6 iiX7 iiX8 iiX9 iiX10 iiX11 iiX12
