/-! ===== the law's entry: the tables and the old cells ===== -/
theorem en_zC {p : Program} {s : State} {m : MethodId} {meth : Method} {c : Code} {b L : Nat} {xs : Nat → Int32} (C0 : lw_At p s m meth c b L xs) : ∃ G : zG, G.2.1 = s.heap.size ∧ G.2.2.2.1 30 = b ∧ G.2.2.2.2.1 = L ∧ zC G s := by
  obtain ⟨hx, hb, hr, hml, hown, hts, hX, hbl, hlocks, hgv⟩ := C0
  have hs := flat_of_before _ hgv
  have hz : ∀ w ∈ zT, w.before #[Value.ref b] s = true := fun w hw => hts w (List.mem_filter.mp hw).1
  have hA : ∀ a : Nat, a < s.heap.size → ¬ (fun q : Nat => s.heap.size ≤ q) a := fun a ha => Nat.not_le.mpr ha
  have hk : ∀ ci : Nat, ∃ q : ClassId × (Nat → Nat), ci < 13 → u_Kn s (zCn ci) (zTT ci) (zN ci) q.1 q.2 := fun ci => by
    by_cases h : ci < 13
    · obtain ⟨a1, a2, a3⟩ := u_known (N := zN ci) hz (zcw ci h) (hz _ (en_ii ci h))
      exact ⟨(a1, a2), fun _ => a3⟩
    · obtain ⟨a1, a2, a3⟩ := u_known (N := zN 0) hz (zcw 0 (by decide)) (hz _ (en_ii 0 (by decide)))
      exact ⟨(a1, a2), fun h9 => absurd h9 h⟩
  obtain ⟨D, hD⟩ := Classical.axiomOfChoice hk
  obtain ⟨c13, r13, n13⟩ := en_arr (hz _ zaI)
  obtain ⟨c14, r14, n14⟩ := en_arr (hz _ zaZ)
  obtain ⟨c15, r15, n15⟩ := en_obj (hts _ (en_ao "LineMaking$Survey" (by decide)))
  obtain ⟨c16, r16, n16⟩ := en_obj (hts _ (en_ao "LineMaking$Text" (by decide)))
  obtain ⟨c17, r17, n17⟩ := en_obj (hts _ (en_ao "LineMaking$Work" (by decide)))
  have hst : ∀ q ∈ zSt, ∃ t, va_Z q.1 q.2.1 "[I" (.ref t) (fun q => s.heap.size ≤ q) s s.heap ∧ va_T .int t q.2.2.2.length (fun j => .int (q.2.2.2.getD j 0)) (fun q => s.heap.size ≤ q) s s.heap := fun q hq => by
    have h1 := en_s1 q hq
    have h3 := en_s3 q hq
    exact en_st (hts _ h3.1) (hts _ h3.2) (hs _ h1.1) (hs _ h1.2.1) (Nat.lt_of_le_of_lt h1.2.2 (by decide)) (fun j hj => hs _ (en_s2 q hq ⟨j, Nat.lt_of_lt_of_le hj h1.2.2⟩ hj))
  obtain ⟨t0, z0⟩ := hst ("LineMaking$Ground", "HIGHEST_RULES", 0, [9, 9, 9, 99, 99, 1999]) (by decide)
  obtain ⟨t1, z1⟩ := hst ("LineMaking$Ground", "STANDS", 1, [99, 20, 8, 12]) (by decide)
  obtain ⟨t2, z2⟩ := hst ("LineMaking$Work", "KIND_ABOVE", 2, [-1, 0, 0, 1, 0, 1, 0]) (by decide)
  obtain ⟨t3, z3⟩ := hst ("LineMaking$Work", "CUT_RATES", 3, [1, 3, 2, 3]) (by decide)
  obtain ⟨t4, z4⟩ := hst ("LineMaking$Texts", "HIGHEST_HELD", 4, [999, 100, 99999]) (by decide)
  obtain ⟨adK, adV, hSt, hev⟩ := vk_Sof (args := #[Value.ref b]) (s := s) (N := 8) (tm := zTm) (len := zlen) (byt := zbyt) (A := fun q => s.heap.size ≤ q) (fun i hi => Nat.lt_of_le_of_lt (zl6 ⟨i, hi⟩).1 (by decide)) (fun i hi => hs _ (en_ex ⟨i, hi⟩)) (fun i hi => hs _ (en_co ⟨i, hi⟩)) (fun i hi => hs _ (en_ar ⟨i, hi⟩)) (fun i hi => hs _ (en_le ⟨i, hi⟩)) (fun i hi j hj => hs _ (en_el ⟨i, hi⟩ ⟨j, Nat.lt_of_lt_of_le hj (zl6 ⟨i, hi⟩).1⟩ hj)) (fun i j hi hj hij => (en_ne ⟨i, hi⟩ ⟨j, hj⟩ (fun e => hij (congrArg Fin.val e))).elim (fun a => Or.inl (hs _ a)) (fun a => Or.inr (hs _ a))) hA
  let ad : Nat → Nat := fun k => if k = 0 then t0 else if k = 1 then t1 else if k = 2 then t2 else if k = 3 then t3 else if k = 4 then t4 else if k < 20 then adK (k - 10) else if k < 30 then adV (k - 20) else b
  let ar : Nat → ClassId := fun k => if k = 13 then c13 else if k = 14 then c14 else if k = 15 then c15 else if k = 16 then c16 else c17
  refine ⟨((fun k => (D k).1, fun k => (D k).2), s.heap.size, ar, ad, L, xs), rfl, rfl, rfl, Nat.le_refl _, ⟨fun ci q hq => ?_, fun k q hq => ?_⟩, fun q hq => ?_, fun q hq => va_Nw.of rfl (hts _ (en_nl q hq)), fun C hC => va_AO.of (hts _ (en_ao C hC)), ⟨fun i hi => ?_, fun i j hi hj e => ?_⟩, fun q hq => ?_, ?_, ?_, hX, hbl, Nat.not_le.mpr hbl⟩
  · have hlt : ci < 13 := by
      have := (List.getElem?_eq_some_iff.mp hq).1
      exact this
    rw [zcl ci hlt] at hq
    cases hq
    exact hD ci hlt
  · match k, hq with
    | 0, hq => cases hq; exact ⟨r13, n13⟩
    | 1, hq => cases hq; exact ⟨r14, n14⟩
    | 2, hq => cases hq; exact ⟨r15, n15⟩
    | 3, hq => cases hq; exact ⟨r16, n16⟩
    | 4, hq => cases hq; exact ⟨r17, n17⟩
  · unfold zSt at hq
    simp only [List.mem_cons, List.not_mem_nil, or_false] at hq
    rcases hq with rfl | rfl | rfl | rfl | rfl
    · exact z0
    · exact z1
    · exact z2
    · exact z3
    · exact z4
  · have e1 : ad (10 + i) = adK i := by
      show (if 10 + i = 0 then t0 else if 10 + i = 1 then t1 else if 10 + i = 2 then t2 else if 10 + i = 3 then t3 else if 10 + i = 4 then t4 else if 10 + i < 20 then adK (10 + i - 10) else if 10 + i < 30 then adV (10 + i - 20) else b) = _
      rw [if_neg (by omega), if_neg (by omega), if_neg (by omega), if_neg (by omega), if_neg (by omega), if_pos (by omega), Nat.add_sub_cancel_left]
    have e2 : ad (20 + i) = adV i := by
      show (if 20 + i = 0 then t0 else if 20 + i = 1 then t1 else if 20 + i = 2 then t2 else if 20 + i = 3 then t3 else if 20 + i = 4 then t4 else if 20 + i < 20 then adK (20 + i - 10) else if 20 + i < 30 then adV (20 + i - 20) else b) = _
      rw [if_neg (by omega), if_neg (by omega), if_neg (by omega), if_neg (by omega), if_neg (by omega), if_neg (by omega), if_pos (by omega), Nat.add_sub_cancel_left]
    have h9 := hSt.1 i hi
    show va_O "java/lang/String" (ad (10 + i)) _ s s.heap ∧ va_OF "java/lang/String" "coder" "B" (.int 0) (ad (10 + i)) _ s s.heap ∧ va_OF "java/lang/String" "value" "[B" (.ref (ad (20 + i))) (ad (10 + i)) _ s s.heap ∧ va_T .byte (ad (20 + i)) _ _ _ s s.heap
    rw [e1, e2]
    exact h9
  · have e1 : ∀ i, i < 8 → ad (10 + i) = adK i := fun i hi => by
      show (if 10 + i = 0 then t0 else if 10 + i = 1 then t1 else if 10 + i = 2 then t2 else if 10 + i = 3 then t3 else if 10 + i = 4 then t4 else if 10 + i < 20 then adK (10 + i - 10) else if 10 + i < 30 then adV (10 + i - 20) else b) = _
      rw [if_neg (by omega), if_neg (by omega), if_neg (by omega), if_neg (by omega), if_neg (by omega), if_pos (by omega), Nat.add_sub_cancel_left]
    have e : ad (10 + i) = ad (10 + j) := e
    rw [e1 i hi, e1 j hj] at e
    exact hSt.2 i j hi hj e
  · have h9 := en_sr q hq
    have e1 : ad (10 + q.2.2) = adK q.2.2 := by
      have := h9.2.2
      show (if 10 + q.2.2 = 0 then t0 else if 10 + q.2.2 = 1 then t1 else if 10 + q.2.2 = 2 then t2 else if 10 + q.2.2 = 3 then t3 else if 10 + q.2.2 = 4 then t4 else if 10 + q.2.2 < 20 then adK (10 + q.2.2 - 10) else if 10 + q.2.2 < 30 then adV (10 + q.2.2 - 20) else b) = _
      rw [if_neg (by omega), if_neg (by omega), if_neg (by omega), if_neg (by omega), if_neg (by omega), if_pos (by omega), Nat.add_sub_cancel_left]
    show vk_R "LineMaking$Tape" q.1 q.2.1 (ad (10 + q.2.2)) s
    rw [e1]
    have h8 := hev q.2.2 h9.2.2
    unfold zTm at h8
    rw [h9.2.1] at h8
    exact vk_R.of (hts _ h9.1) h8
  · exact va_Zof (hts _ en_cs.1) (hts _ en_cs.2.1) (va_eqt (hs _ en_cf.1)) hA
  · exact va_Zqof (hts _ en_cs.2.2.1) (hts _ en_cs.2.2.2) (hs _ en_cf.2) hA
theorem sbn_nil {s s' : State} {L : List Loc} {k n : Nat} (h : s.sameButNew s' L k n) (hL : ∀ q ∈ L, s.heap.size ≤ q.base) : s.sameButNew s' [] k n := by
  obtain ⟨h1, h2, h3, h4, h5, h6⟩ := h
  refine ⟨h1, h2, h3, h4, h5, fun a c hc => ?_⟩
  obtain ⟨c', e1, e2, e3, e4⟩ := h6 a c hc
  refine ⟨c', e1, e2, e3, fun i _ => e4 i (fun hm => ?_)⟩
  have h9 := hL _ hm
  have h8 : a < s.heap.size := (Array.getElem?_eq_some_iff.mp hc).1
  exact absurd h9 (Nat.not_le.mpr h8)
/-- from the entry, for every script of at most 3072 ints, the law comes to its end with true -/
theorem whole_start {p : Program} {e : Env} {s : State} {m : MethodId} {below : List Frame} {meth : Method} {c : Code} (l : Launch) (hflags : l.flags = flags0) {b L : Nat} {xs : Nat → Int32} (hL : L ≤ 3072) (C0 : lw_At p s m meth c b L xs) : W p l e room_1 s m #[Value.ref b] below meth c s.heap [] 0 0 (lw_Z below #[Value.ref b] s) (entryFrame m ([Value.ref b] : List Value).toArray 4) := by
  obtain ⟨G, g1, g2, g3, hC⟩ := en_zC C0
  obtain ⟨hx, hb, hr, hml, hown, hts, hX, hbl, hlocks, hgv⟩ := C0
  have hgo := la_start (l := l) (G := G) (nm := meth.name) (by rw [g3]; exact hL) (Z := (0, fun _ => 0, fun _ => 0, fun _ _ => none)) rfl
  rw [lg_entry_eq]
  have hl := lv_entry [.ref b] (n := 4) (Nat.le_of_ble_eq_true rfl)
  have hw := hgo p e room_1 s m #[Value.ref b] below meth c s.heap [] 0 0 _ ⟨hx, hb, hr, hml, hown, fun w hw => hts w (List.mem_filter.mp hw).1, hlocks, rfl, hC⟩ ⟨by decide, by decide, by decide, by decide⟩ ⟨by rw [g1]; rfl, by decide, fun k q hq => by cases hq⟩ va_S.rf ⟨hl.1, hl.2.1, fun i v hi => ?_⟩
  · intro T hT X
    obtain ⟨t, a1, o, b1, b2, ⟨⟨r, Z', I', e1, q1, -⟩, -⟩, L', f1, f2⟩ := hw T hT X
    subst q1
    refine ⟨t, a1, o, b1, b2, e1, f1.1, f1.2.1, ?_⟩
    exact sbn_nil f1.2.2 (fun q hq => by have := f2 q hq; unfold zA at this; rw [g1] at this; exact this)
  · match i, hi with
    | 0, hi =>
      cases hi
      have h9 := hl.2.2 (0, .ref b) (List.mem_cons_self)
      rw [show zv G (.ref 1000030) = .ref b from by show Value.ref (zad G (1000000 + 30)) = _; rw [zad_s, g2]]
      exact h9
    | i + 1, hi =>
      match i, hi with
      | 0, hi => cases hi
      | 1, hi => cases hi
      | 2, hi => cases hi
