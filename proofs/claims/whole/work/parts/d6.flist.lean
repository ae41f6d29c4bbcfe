/-! ===== making: lists of what stands at the places from mk on ===== -/
/-- from mk on n places stand: objects ks, references ps, rows as; of the row of works kw; below mk as in Z0 -/
def FL (Z0 Z : zS) (mk n : Nat) (ks : List (Nat × Nat)) (ps as : List (Nat × Nat × Nat)) (kw : Nat) : Prop :=
  Z.1 = mk + n ∧ (∀ a, a < mk → Z.2.1 a = Z0.2.1 a ∧ Z.2.2.1 a = Z0.2.2.1 a ∧ Z.2.2.2 a = Z0.2.2.2 a) ∧
  (∀ q ∈ ks, zk Z (mk + q.1) q.2) ∧ (∀ q ∈ ps, mk + q.1 < Z.1 ∧ Z.2.2.2 (mk + q.1) q.2.1 = some (mk + q.2.2)) ∧ (∀ q ∈ as, za Z (mk + q.1) q.2.1 q.2.2) ∧
  ∀ w, w < kw → mk + 11 < Z.1 ∧ Z.2.2.2 (mk + 11) w = some (mk + 15 + 2 * w) ∧ ShW Z (mk + 15 + 2 * w)
section
variable {l : Launch} {G : zG} {md : zD} {d ac as' pc m : Nat} {ls : List (Option Value)} {st : List Value} {Z0 Z : zS} {I : zI} {Q : Option Value → zS → zI → Prop} {mk n kw : Nat} {ks : List (Nat × Nat)} {ps as : List (Nat × Nat × Nat)}
theorem FL_O (h : FL Z0 Z mk n ks ps as kw) (c : Nat) : FL Z0 (znO Z c) mk (n + 1) (ks ++ [(n, c)]) ps as kw := by
  obtain ⟨h1, h2, h3, h4, h5, h6⟩ := h
  have hX : ZX Z (znO Z c) := ZX_O c
  have hn : (znO Z c).1 = mk + (n + 1) := by show Z.1 + 1 = _; omega
  refine ⟨hn, fun a ha => ?_, fun q hq => ?_, fun q hq => ⟨by have := (h4 q hq).1; rw [hn]; omega, zr_ZX hX (h4 q hq).1 (h4 q hq).2⟩, fun q hq => za_ZX hX (h5 q hq), fun w hw => ⟨by have := (h6 w hw).1; rw [hn]; omega, zr_ZX hX (h6 w hw).1 (h6 w hw).2.1, ShW_ZX hX (h6 w hw).2.2⟩⟩
  · have := hX.2 a (by omega)
    have h9 := h2 a ha
    exact ⟨this.1.trans h9.1, this.2.1.trans h9.2.1, this.2.2.trans h9.2.2⟩
  · rcases List.mem_append.mp hq with hq | hq
    · exact zk_ZX hX (h3 q hq)
    · rw [List.mem_singleton] at hq
      subst hq
      refine ⟨by rw [hn]; omega, ?_⟩
      show va_up Z.2.1 Z.1 c (mk + n) = c
      rw [h1, va_up_same]
theorem FL_A (h : FL Z0 Z mk n ks ps as kw) (c N : Nat) : FL Z0 (znA Z c N) mk (n + 1) ks ps (as ++ [(n, c, N)]) kw := by
  obtain ⟨h1, h2, h3, h4, h5, h6⟩ := h
  have hX : ZX Z (znA Z c N) := ZX_A c N
  have hn : (znA Z c N).1 = mk + (n + 1) := by show Z.1 + 1 = _; omega
  refine ⟨hn, fun a ha => ?_, fun q hq => zk_ZX hX (h3 q hq), fun q hq => ⟨by have := (h4 q hq).1; rw [hn]; omega, zr_ZX hX (h4 q hq).1 (h4 q hq).2⟩, fun q hq => ?_, fun w hw => ⟨by have := (h6 w hw).1; rw [hn]; omega, zr_ZX hX (h6 w hw).1 (h6 w hw).2.1, ShW_ZX hX (h6 w hw).2.2⟩⟩
  · have := hX.2 a (by omega)
    have h9 := h2 a ha
    exact ⟨this.1.trans h9.1, this.2.1.trans h9.2.1, this.2.2.trans h9.2.2⟩
  · rcases List.mem_append.mp hq with hq | hq
    · exact za_ZX hX (h5 q hq)
    · rw [List.mem_singleton] at hq
      subst hq
      refine ⟨by rw [hn]; omega, ?_, ?_⟩
      · show va_up Z.2.1 Z.1 c (mk + n) = c
        rw [h1, va_up_same]
      · show va_up Z.2.2.1 Z.1 N (mk + n) = N
        rw [h1, va_up_same]
theorem FL_P (h : FL Z0 Z mk n ks ps as kw) {p k b : Nat} (hp : p < n) (hps : ∀ q ∈ ps, ¬ (q.1 = p ∧ q.2.1 = k)) (hw : kw = 0 ∨ p < 11 ∨ 15 + 2 * kw ≤ p ∨ (11 < p ∧ p < 15)) : FL Z0 (Z.1, Z.2.1, Z.2.2.1, va_up Z.2.2.2 (mk + p) (va_up (Z.2.2.2 (mk + p)) k (some (mk + b)))) mk n ks (ps ++ [(p, k, b)]) as kw := by
  obtain ⟨h1, h2, h3, h4, h5, h6⟩ := h
  refine ⟨h1, fun a ha => ⟨(h2 a ha).1, (h2 a ha).2.1, ?_⟩, h3, fun q hq => ?_, h5, fun w hw2 => ⟨(h6 w hw2).1, ?_, (h6 w hw2).2.2.1, ?_, (h6 w hw2).2.2.2.2⟩⟩
  · show va_up Z.2.2.2 (mk + p) _ a = _
    rw [va_up_off (by omega)]; exact (h2 a ha).2.2
  · rcases List.mem_append.mp hq with hq | hq
    · refine ⟨(h4 q hq).1, ?_⟩
      show va_up Z.2.2.2 (mk + p) _ (mk + q.1) q.2.1 = _
      have h9 := hps q hq
      by_cases e : q.1 = p
      · rw [e, va_up_same, va_up_off (fun e2 => h9 ⟨e, e2⟩), ← e]; exact (h4 q hq).2
      · rw [va_up_off (by omega)]; exact (h4 q hq).2
    · rw [List.mem_singleton] at hq
      subst hq
      refine ⟨by show mk + p < Z.1; omega, ?_⟩
      show va_up Z.2.2.2 (mk + p) _ (mk + p) k = _
      rw [va_up_same, va_up_same]
  · show va_up Z.2.2.2 (mk + p) _ (mk + 11) w = _
    rw [va_up_off (by omega)]; exact (h6 w hw2).2.1
  · show va_up Z.2.2.2 (mk + p) _ (mk + 15 + 2 * w) 7 = _
    rw [va_up_off (by omega)]; exact (h6 w hw2).2.2.2.1
theorem FL_k (h : FL Z0 Z mk n ks ps as kw) {p c : Nat} (hm : (p, c) ∈ ks) : zk Z (mk + p) c := h.2.2.1 (p, c) hm
theorem FL_a (h : FL Z0 Z mk n ks ps as kw) {p c N : Nat} (hm : (p, c, N) ∈ as) : za Z (mk + p) c N := h.2.2.2.2.1 (p, c, N) hm
theorem FL_r (h : FL Z0 Z mk n ks ps as kw) {p k b : Nat} (hm : (p, k, b) ∈ ps) : Z.2.2.2 (mk + p) k = some (mk + b) := (h.2.2.2.1 (p, k, b) hm).2
theorem znI_0 (hz : ∀ a, mk + n ≤ a → I a = fun _ => 0) (h1 : Z.1 = mk + n) : znI Z I = I := by
  unfold znI
  exact va_id (hz _ (by omega))
/-- a row of ints more -/
theorem y_newI {N : Nat} (h : FL Z0 Z mk n ks ps as kw) (hz : ∀ a, mk + n ≤ a → I a = fun _ => 0) (hd : decode md.2.1 pc = .ok (.newarray .int, 2)) (hn : pc + 2 = m) (hN : N ≤ 100000) (hm : mk + n < 900000) (hac : 1 ≤ ac) (has : N ≤ as') (kk : ∀ Z', FL Z0 Z' mk (n + 1) ks ps (as ++ [(n, 13, N)]) kw → zX l G md d (ac - 1) (as' - N) m ls (.ref (mk + n) :: st) Z' I Q) : zX l G md d ac as' pc ls (.int (nI N) :: st) Z I Q := by
  refine x_newI (N := N) hd hn zaI (nI_pos (by omega)) (nI_clamp (by omega)) hN (by rw [h.1]; exact hm) hac has ?_
  rw [znI_0 hz h.1, h.1]
  exact kk _ (FL_A h 13 N)
theorem y_newZ {N : Nat} (h : FL Z0 Z mk n ks ps as kw) (hz : ∀ a, mk + n ≤ a → I a = fun _ => 0) (hd : decode md.2.1 pc = .ok (.newarray .boolean, 2)) (hn : pc + 2 = m) (hN : N ≤ 100000) (hm : mk + n < 900000) (hac : 1 ≤ ac) (has : N ≤ as') (kk : ∀ Z', FL Z0 Z' mk (n + 1) ks ps (as ++ [(n, 14, N)]) kw → zX l G md d (ac - 1) (as' - N) m ls (.ref (mk + n) :: st) Z' I Q) : zX l G md d ac as' pc ls (.int (nI N) :: st) Z I Q := by
  refine x_newZ (N := N) hd hn zaZ (nI_pos (by omega)) (nI_clamp (by omega)) hN (by rw [h.1]; exact hm) hac has ?_
  rw [znI_0 hz h.1, h.1]
  exact kk _ (FL_A h 14 N)
theorem y_newA {N ci idx : Nat} (h : FL Z0 Z mk n ks ps as kw) (hz : ∀ a, mk + n ≤ a → I a = fun _ => 0) (hd : decode md.2.1 pc = .ok (.anewarray idx, 3)) (hn : pc + 3 = m) (hci : 15 ≤ ci ∧ ci < 18) (hcl : Cond.classLink md.1.cls idx (ztyn ci) ∈ zT) (hN : N ≤ 100000) (hm : mk + n < 900000) (hac : 1 ≤ ac) (has : N ≤ as') (kk : ∀ Z', FL Z0 Z' mk (n + 1) ks ps (as ++ [(n, ci, N)]) kw → zX l G md d (ac - 1) (as' - N) m ls (.ref (mk + n) :: st) Z' I Q) : zX l G md d ac as' pc ls (.int (nI N) :: st) Z I Q := by
  refine x_newA (N := N) hd hn hci hcl (nI_pos (by omega)) (nI_clamp (by omega)) hN (by rw [h.1]; exact hm) hac has ?_
  rw [znI_0 hz h.1, h.1]
  exact kk _ (FL_A h ci N)
theorem y_new {ci idx : Nat} (h : FL Z0 Z mk n ks ps as kw) (hz : ∀ a, mk + n ≤ a → I a = fun _ => 0) (hd : decode md.2.1 pc = .ok (.new idx, 3)) (hn : pc + 3 = m) (hci : ci < 13) (hcl : Cond.classLink md.1.cls idx (zCn ci) ∈ zT) (hins : Cond.instantiable (zCn ci) (zN ci) ∈ zT) (hini : Cond.initialized (zCn ci) ∈ zT) (hm : mk + n < 900000) (hac : 1 ≤ ac) (has : zN ci ≤ as') (kk : ∀ Z', FL Z0 Z' mk (n + 1) (ks ++ [(n, ci)]) ps as kw → zX l G md d (ac - 1) (as' - zN ci) m ls (.ref (mk + n) :: st) Z' I Q) : zX l G md d ac as' pc ls st Z I Q := by
  refine x_new (ci := ci) hd hn hci hcl hins hini (by rw [h.1]; exact hm) hac has ?_
  rw [znI_0 hz h.1, h.1]
  exact kk _ (FL_O h ci)
theorem y_putR {p b ci k idx : Nat} (h : FL Z0 Z mk n ks ps as kw) (hf : zFl md.1.cls idx ci k) (hi : zint (zft ci k) = false) (hfin : (zTT ci k).2.2.2 = false ∨ (md.1.name = "<init>" ∧ (zTT ci k).1 = md.1.cls)) (hty : ∀ q, narrow (zft ci k) (va_rf q) = va_rf q ∧ fits (zft ci k) (va_rf q) = true) (hd : decode md.2.1 pc = .ok (.putfield idx, 3)) (hn : pc + 3 = m) (hk : (p, ci) ∈ ks) (hp : p < n) (hps : ∀ q ∈ ps, ¬ (q.1 = p ∧ q.2.1 = k)) (hw : kw = 0 ∨ p < 11 ∨ 15 + 2 * kw ≤ p ∨ (11 < p ∧ p < 15)) (kk : ∀ Z', FL Z0 Z' mk n ks (ps ++ [(p, k, b)]) as kw → zX l G md d ac as' m ls st Z' I Q) : zX l G md d ac as' pc ls (.ref (mk + b) :: .ref (mk + p) :: st) Z I Q :=
  x_putR hf hi hfin hty hd hn (FL_k h hk) (kk _ (FL_P h hp hps hw))
end
