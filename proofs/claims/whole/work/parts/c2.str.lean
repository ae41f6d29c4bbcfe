/-! ===== strings: rows and the JDK's own methods ===== -/
theorem zad_s (G : zG) (i : Nat) : zad G (1000000 + i) = G.2.2.2.1 i := by
  unfold zad
  rw [if_neg (by omega), Nat.add_sub_cancel_left]
theorem zad_K (G : zG) (i : Nat) : zad G (1000010 + i) = G.2.2.2.1 (10 + i) := by
  rw [show 1000010 + i = 1000000 + (10 + i) by omega]
  exact zad_s G _
theorem zad_V (G : zG) (i : Nat) : zad G (1000020 + i) = G.2.2.2.1 (20 + i) := by
  rw [show 1000020 + i = 1000000 + (20 + i) by omega]
  exact zad_s G _
theorem x_ldcS {l : Launch} {G : zG} {md : zD} {d ac as pc n : Nat} {ls : List (Option Value)} {st : List Value} {Z : zS} {I : zI} {Q : Option Value → zS → zI → Prop} {q : Nat × String × Nat} {a : Nat} (hd : decode md.2.1 pc = .ok (.ldc q.1, 2)) (hn : pc + 2 = n) (hcl : md.1.cls = "LineMaking$Tape") (hq : q ∈ zSr) (ha : 1000010 + q.2.2 = a) (kk : zX l G md d ac as n ls (.ref a :: st) Z I Q) : zX l G md d ac as pc ls st Z I Q := by
  intro p e R s m args below meth c H locs cells slots lc hc hr hH hS hl
  subst hn
  subst ha
  have hC := hc.2.2.2.2.2.2.2.2
  obtain ⟨-, -, -, -, -, -, h7, -⟩ := hC
  refine va_ldcS hc.1 hc.2.1 (own := "LineMaking$Tape") (by rw [← hcl]; exact hc.2.2.2.2.1) (h7 q hq) hd ?_
  rw [← zad_K]
  exact (kk p e R s m args below meth c H locs cells slots lc hc hr hH hS hl)
/-- the bytes of a string -/
theorem x_sval {l : Launch} {G : zG} {md : zD} {d ac as pc n : Nat} {ls : List (Option Value)} {st : List Value} {Z : zS} {I : zI} {Q : Option Value → zS → zI → Prop} {i idx : Nat} (hd : decode md.2.1 pc = .ok (.getfield idx, 3)) (hn : pc + 3 = n) (hi : i < 8) (hw : Cond.fieldLink md.1.cls idx "java/lang/String" "value" "[B" ∈ zT) (kk : zX l G md d ac as n ls (.ref (1000020 + i) :: st) Z I Q) : zX l G md d ac as pc ls (.ref (1000010 + i) :: st) Z I Q := by
  intro p e R s m args below meth c H locs cells slots lc hc hr hH hS hl
  subst hn
  have hC := hc.2.2.2.2.2.2.2.2
  obtain ⟨-, -, -, -, -, h6, -⟩ := hC
  show W p l e R s m args below meth c H locs cells slots _ (F0 m pc lc (.ref (zad G (1000010 + i)) :: st.map (zv G)))
  rw [zad_K]
  refine vk_getf hc.1 hc.2.1 (h6.1 i hi).2.2.1 hS hc.2.2.2.2.1 (hc.2.2.2.2.2.1 _ hw) (fun _ h9 => h9) hd ?_
  show W p l e R s m args below meth c H locs cells slots _ (F0 m (pc + 3) lc (.ref (G.2.2.2.1 (20 + i)) :: st.map (zv G)))
  rw [← zad_V]
  exact (kk p e R s m args below meth c H locs cells slots lc hc hr hH hS hl)
theorem x_scod {l : Launch} {G : zG} {md : zD} {d ac as pc n : Nat} {ls : List (Option Value)} {st : List Value} {Z : zS} {I : zI} {Q : Option Value → zS → zI → Prop} {i idx : Nat} (hd : decode md.2.1 pc = .ok (.getfield idx, 3)) (hn : pc + 3 = n) (hi : i < 8) (hw : Cond.fieldLink md.1.cls idx "java/lang/String" "coder" "B" ∈ zT) (kk : zX l G md d ac as n ls (.int (nI 0) :: st) Z I Q) : zX l G md d ac as pc ls (.ref (1000010 + i) :: st) Z I Q := by
  intro p e R s m args below meth c H locs cells slots lc hc hr hH hS hl
  subst hn
  have hC := hc.2.2.2.2.2.2.2.2
  obtain ⟨-, -, -, -, -, h6, -⟩ := hC
  show W p l e R s m args below meth c H locs cells slots _ (F0 m pc lc (.ref (zad G (1000010 + i)) :: st.map (zv G)))
  rw [zad_K]
  refine vk_getf hc.1 hc.2.1 (h6.1 i hi).2.1 hS hc.2.2.2.2.1 (hc.2.2.2.2.2.1 _ hw) (fun _ h9 => h9) hd ?_
  exact (kk p e R s m args below meth c H locs cells slots lc hc hr hH hS hl)
theorem x_comp {l : Launch} {G : zG} {md : zD} {d ac as pc n : Nat} {ls : List (Option Value)} {st : List Value} {Z : zS} {I : zI} {Q : Option Value → zS → zI → Prop} {idx : Nat} (hd : decode md.2.1 pc = .ok (.getstatic idx, 3)) (hn : pc + 3 = n) (hw : Cond.fieldLink md.1.cls idx "java/lang/String" "COMPACT_STRINGS" "Z" ∈ zT) (kk : zX l G md d ac as n ls (.int (nI 1) :: st) Z I Q) : zX l G md d ac as pc ls st Z I Q := by
  intro p e R s m args below meth c H locs cells slots lc hc hr hH hS hl
  subst hn
  have hC := hc.2.2.2.2.2.2.2.2
  obtain ⟨-, -, -, -, -, -, -, h8, -⟩ := hC
  exact va_gets hc.1 hc.2.1 h8 hS hc.2.2.2.2.1 (hc.2.2.2.2.2.1 _ hw) (fun _ h9 => h9) hd (kk p e R s m args below meth c H locs cells slots lc hc hr hH hS hl)
theorem x_blen {l : Launch} {G : zG} {md : zD} {d ac as pc n : Nat} {ls : List (Option Value)} {st : List Value} {Z : zS} {I : zI} {Q : Option Value → zS → zI → Prop} {i : Nat} (hd : decode md.2.1 pc = .ok (.arraylength, 1)) (hn : pc + 1 = n) (hi : i < 8) (kk : zX l G md d ac as n ls (.int (nI (zlen.getD i 0)) :: st) Z I Q) : zX l G md d ac as pc ls (.ref (1000020 + i) :: st) Z I Q := by
  intro p e R s m args below meth c H locs cells slots lc hc hr hH hS hl
  subst hn
  have hC := hc.2.2.2.2.2.2.2.2
  obtain ⟨-, -, -, -, -, h6, -⟩ := hC
  show W p l e R s m args below meth c H locs cells slots _ (F0 m pc lc (.ref (zad G (1000020 + i)) :: st.map (zv G)))
  rw [zad_V]
  exact va_tlen hc.1 hc.2.1 (h6.1 i hi).2.2.2 hS rfl hd (kk p e R s m args below meth c H locs cells slots lc hc hr hH hS hl)
theorem x_bald {l : Launch} {G : zG} {md : zD} {d ac as pc n : Nat} {ls : List (Option Value)} {st : List Value} {Z : zS} {I : zI} {Q : Option Value → zS → zI → Prop} {i j : Nat} (hd : decode md.2.1 pc = .ok (.baload, 1)) (hn : pc + 1 = n) (hi : i < 8) (hj : j < zlen.getD i 0) (hj2 : j < 100) (kk : zX l G md d ac as n ls (.int ((zbyt.getD i []).getD j 0) :: st) Z I Q) : zX l G md d ac as pc ls (.int (nI j) :: .ref (1000020 + i) :: st) Z I Q := by
  intro p e R s m args below meth c H locs cells slots lc hc hr hH hS hl
  subst hn
  have hC := hc.2.2.2.2.2.2.2.2
  obtain ⟨-, -, -, -, -, h6, -⟩ := hC
  show W p l e R s m args below meth c H locs cells slots _ (F0 m pc lc (.int (nI j) :: .ref (zad G (1000020 + i)) :: st.map (zv G)))
  rw [zad_V]
  have hL : zlen.getD i 0 < 2147483648 := by
    rcases (by omega : i = 0 ∨ i = 1 ∨ i = 2 ∨ i = 3 ∨ i = 4 ∨ i = 5 ∨ i = 6 ∨ i = 7) with rfl | rfl | rfl | rfl | rfl | rfl | rfl | rfl <;> decide
  exact va_tb hc.1 hc.2.1 (h6.1 i hi).2.2.2 hS (vp_in_nI hj hL) (by rw [nI_clamp (by omega)]; rfl) hd (kk p e R s m args below meth c H locs cells slots lc hc hr hH hS hl)
/-- invokevirtual on a string -/
theorem x_invVs {l : Launch} {G : zG} {md : zD} {d ac as pc n : Nat} {ls : List (Option Value)} {st : List Value} {Z : zS} {I : zI} {Q : Option Value → zS → zI → Prop} {md' : zD} {d' nA i idx : Nat} (As : List Value) (hm : zMd md' nA) (h1 : Cond.methodLink md.1.cls idx md'.1 ∈ zT) (h2 : Cond.instanceMethod md'.1 ∈ zT) (h3 : Cond.selects md'.1.cls md'.1 md'.1 ∈ zT) (hd : decode md.2.1 pc = .ok (.invokevirtual idx, 3)) (hn : pc + 3 = n) (hA : As.length = nA) (hi : i < 8) (hcn : md'.1.cls = "java/lang/String") (hdd : d' + 1 ≤ d) (hst : (st.map fun v => v.category).sum ≤ 8)
    (hM : zM l G md' d' 0 0 (.ref (1000010 + i) :: As) Z I (fun r Z' I' => zX l G md d ac as n ls (r.toList ++ st) Z' I' Q)) : zX l G md d ac as pc ls (As.reverse ++ .ref (1000010 + i) :: st) Z I Q := by
  intro p e R s m args below meth c H locs cells slots lc hc hr hH hS hl
  subst hn
  have hts := hc.2.2.2.2.2.1
  have hC := hc.2.2.2.2.2.2.2.2
  obtain ⟨-, -, -, -, -, h6, -⟩ := id hC
  have hrv := vk_recv h6 hi hS
  rw [← hcn] at hrv
  have hcb := callB_of (R := R) (own := md.1.cls) (index := idx) (rm := { frames := d', cells := 0, slots := 0, locals := 64 * d' }) nA hts (z_good hm) (ws := zwd md') rfl rfl rfl (hts _ hm.2.1) (hts _ h1) hm.2.2.1 ⟨by show d' + 1 ≤ R.frames; omega, by show 8 + (md'.2.2.1 + 11) + 64 * d' ≤ R.locals; have := hm.2.2.2; omega⟩
  refine z_go (va_runV (As := As.map (zv G)) (b := G.2.2.2.1 (10 + i)) (rest := st.map (zv G)) (nL := md.2.2.1) (own := md.1.cls) (C := md'.1.cls) ⟨hc.1, hc.2.1, hc.2.2.2.1, hc.2.2.2.2.1, hts⟩ hM ⟨hcb, hts _ h2, hts _ h3⟩ ⟨z_blind, hrv, fun U hU hW => ⟨?_, z_pre hC hS hU hW, by rw [hU]; exact hH⟩⟩ rfl (by rw [List.length_map]; exact hA) hl.1 ?_ (lv_room (by rw [zcats]; exact hst)) hd ⟨by omega, by omega⟩) hS (fun r Z' I' H1 locs1 hq g1 g2 => ?_)
  · rw [← zad_K]; rfl
  · show (As.reverse ++ .ref (1000010 + i) :: st).map (zv G) = _
    rw [List.map_append, List.map_reverse]
    show _ ++ Value.ref (zad G (1000010 + i)) :: _ = _
    rw [zad_K]
  · exact z_fin (mc := 0) (ms := 0) hc hr hl (Nat.zero_le _) (Nat.zero_le _) hq g1 g2
theorem zoJ_length : Cond.instanceMethod yJ0_length_8abf5 ∈ zT ∧ Cond.selects yJ0_length_8abf5.cls yJ0_length_8abf5 yJ0_length_8abf5 ∈ zT := ⟨zs4 23 (by decide +kernel) rfl, zs4 24 (by decide +kernel) rfl⟩
theorem zoJ_coder : Cond.instanceMethod yJ0_coder_7d493 ∈ zT ∧ Cond.selects yJ0_coder_7d493.cls yJ0_coder_7d493 yJ0_coder_7d493 ∈ zT := ⟨zs4 27 (by decide +kernel) rfl, zs4 28 (by decide +kernel) rfl⟩
theorem zoJ_charAt : Cond.instanceMethod yJ0_charAt_5068e ∈ zT ∧ Cond.selects yJ0_charAt_5068e.cls yJ0_charAt_5068e yJ0_charAt_5068e ∈ zT := ⟨zs4 33 (by decide +kernel) rfl, zs4 34 (by decide +kernel) rfl⟩
theorem zoJ_isLatin1 : Cond.instanceMethod yJ0_isLatin1_aae02 ∈ zT ∧ Cond.selects yJ0_isLatin1_aae02.cls yJ0_isLatin1_aae02 yJ0_isLatin1_aae02 ∈ zT := ⟨zs4 37 (by decide +kernel) rfl, zs4 38 (by decide +kernel) rfl⟩
theorem zoJ_indexOf1 : Cond.instanceMethod yJ0_indexOf_0f7a4 ∈ zT ∧ Cond.selects yJ0_indexOf_0f7a4.cls yJ0_indexOf_0f7a4 yJ0_indexOf_0f7a4 ∈ zT := ⟨zs4 114 (by decide +kernel) rfl, zs4 115 (by decide +kernel) rfl⟩
theorem zoJ_indexOf2 : Cond.instanceMethod yJ0_indexOf_7cf53 ∈ zT ∧ Cond.selects yJ0_indexOf_7cf53.cls yJ0_indexOf_7cf53 yJ0_indexOf_7cf53 ∈ zT := ⟨zs4 118 (by decide +kernel) rfl, zs4 119 (by decide +kernel) rfl⟩
/-- Preconditions.checkIndex, with whatever formatter -/
theorem k_chk {l : Launch} {G : zG} {Z : zS} {I : zI} {Q : Option Value → zS → zI → Prop} {i n : Nat} (v : Value) (hv : v.category = 1) (hi : i < n) (hn : n < 1000) (hq : Q (some (.int (nI i))) Z I) : Met l mJ3_checkIndex_8e157.1 (zwd mJ3_checkIndex_8e157) { frames := 0, cells := 0, slots := 0, locals := 64 * 0 } (fun a U => a = #[.int (nI i), .int (nI n), v] ∧ zC G U ∧ zH G Z I U.heap) (zQ G Q) 0 0 (zA G) := by
  have hw : zX l G mJ3_checkIndex_8e157 0 0 0 0 [some (.int (nI i)), some (.int (nI n))] [] Z I Q := by
    refine x_ild0 (n := 1) dJ3_checkIndex_8e157_0 rfl ?_
    refine x_if_lt (n := 4) (tgt := 9) dJ3_checkIndex_8e157_1 rfl (by decide) (fun c_1 => ?_) (fun c_1 => ?_)
    · exact absurd c_1 (nI_pos (by omega))
    · refine x_ild0 (n := 5) dJ3_checkIndex_8e157_4 rfl ?_
      refine x_ild1 (n := 6) dJ3_checkIndex_8e157_5 rfl ?_
      refine x_icmpN_lt (n := 9) (tgt := 16) dJ3_checkIndex_8e157_6 rfl (by decide) (by omega) (by omega) (fun c_6 => ?_) (fun c_6 => ?_)
      · refine x_ild0 (n := 17) dJ3_checkIndex_8e157_16 rfl ?_
        refine r_iret dJ3_checkIndex_8e157_17 rfl ?_
        exact hq
      · exact absurd hi (by omega)
  refine Met.ofW (cc := mJ3_checkIndex_8e157.2.1) (maxL := mJ3_checkIndex_8e157.2.2.1) (ret := mJ3_checkIndex_8e157.2.2.2) rfl rfl ?_
  intro p e s m args' below meth c s₁ B hml hv'
  obtain ⟨rfl, hC, hH⟩ := hv'
  have hts := atoms_spec (ws := zwd mJ3_checkIndex_8e157) B.pre
  have hown : s.vm.findClass mJ3_checkIndex_8e157.1.cls = some m.cls := findClass_of_methodNamed B.named
  have hnm : meth.name = mJ3_checkIndex_8e157.1.name := (name_of_methodNamed B.named B.method).1
  rw [lg_entry_eq]
  have hl := lv_entry [.int (nI i), .int (nI n), v] (n := 3) (by unfold lg_sl; rw [List.flatMap_cons, List.flatMap_cons, List.flatMap_cons, if_neg (by show ¬ (1 : Nat) = 2; decide), if_neg (by show ¬ (1 : Nat) = 2; decide), if_neg (by rw [hv]; decide)]; exact Nat.le_refl _)
  refine hw p e _ s m _ below meth c s.heap [] 0 0 _ ⟨B.exec, B.bytes, B.returns, hml, hown, fun w hw => hts w (List.mem_cons_of_mem _ hw), B.notSynchronized, hnm, hC⟩ ⟨Nat.le_refl _, Nat.le_refl _, Nat.le_refl _, Nat.le_refl _⟩ hH va_S.rf ⟨hl.1, hl.2.1, fun j w hj => ?_⟩
  match j, hj with
  | 0, hj => cases hj; exact hl.2.2 (0, .int (nI i)) (List.mem_cons_self)
  | 1, hj => cases hj; exact hl.2.2 (1, .int (nI n)) (List.mem_cons_of_mem _ List.mem_cons_self)
theorem x_chk {l : Launch} {G : zG} {md : zD} {d ac as pc n : Nat} {ls : List (Option Value)} {st : List Value} {Z : zS} {I : zI} {Q : Option Value → zS → zI → Prop} {i k idx idx2 : Nat} (hd : decode md.2.1 pc = .ok (.getstatic idx, 3)) (hd2 : decode md.2.1 (pc + 3) = .ok (.invokestatic idx2, 3)) (hn : pc + 3 + 3 = n) (hw : Cond.fieldLink md.1.cls idx "jdk/internal/util/Preconditions" "SIOOBE_FORMATTER" "Ljava/util/function/BiFunction;" ∈ zT) (h1 : Cond.methodLink md.1.cls idx2 mJ3_checkIndex_8e157.1 ∈ zT) (hik : i < k) (hk : k < 1000) (hd1 : 1 ≤ d) (hst : (st.map fun v => v.category).sum ≤ 8) (kk : zX l G md d ac as n ls (.int (nI i) :: st) Z I Q) : zX l G md d ac as pc ls (.int (nI k) :: .int (nI i) :: st) Z I Q := by
  intro p e R s m args below meth c H locs cells slots lc hc hr hH hS hl
  subst hn
  have hts := hc.2.2.2.2.2.1
  have hC := hc.2.2.2.2.2.2.2.2
  obtain ⟨-, -, -, -, -, -, -, -, h9, -⟩ := id hC
  have key : ∀ v : Value, v.category = 1 → W p l e R s m args below meth c H locs cells slots (MQ below (zQ G Q) args s R.cells R.slots (zA G)) (F0 m (pc + 3) lc (v :: .int (nI k) :: .int (nI i) :: st.map (zv G))) := by
    intro v hv
    have hm := zcJ3_checkIndex_8e157.1
    have hcb := callB_of (R := R) (own := md.1.cls) (index := idx2) (rm := { frames := 0, cells := 0, slots := 0, locals := 64 * 0 }) 3 hts (z_good hm) (ws := zwd mJ3_checkIndex_8e157) rfl rfl rfl (hts _ hm.2.1) (hts _ h1) hm.2.2.1 ⟨by show 0 + 1 ≤ R.frames; omega, by show 8 + (3 + 11) + 64 * 0 ≤ R.locals; omega⟩
    refine z_go (va_runS (As := [.int (nI i), .int (nI k), v]) (rest := st.map (zv G)) (nL := md.2.2.1) (own := md.1.cls) ⟨hc.1, hc.2.1, hc.2.2.2.1, hc.2.2.2.2.1, hts⟩ (k_chk (l := l) (G := G) (Z := Z) (I := I) (Q := fun r Z' I' => zX l G md d ac as (pc + 3 + 3) ls (r.toList ++ st) Z' I' Q) v hv hik hk kk) ⟨hcb, hts _ zcJ3_checkIndex_8e157.2⟩ ⟨?_, fun U hU hW => ⟨rfl, z_pre hC hS hU hW, by rw [hU]; exact hH⟩⟩ rfl rfl hl.1 rfl (lv_room (by rw [zcats]; exact hst)) hd2 ⟨by omega, by omega⟩) hS (fun r Z' I' H1 locs1 hq g1 g2 => ?_)
    · intro a U g mk h
      exact ⟨h.1, h.2.1.to (State.WarmedH.refl _) (Nat.le_refl _) (fun _ _ _ => rfl), h.2.2⟩
    · exact z_fin (mc := 0) (ms := 0) hc hr hl (Nat.zero_le _) (Nat.zero_le _) hq g1 g2
  show W p l e R s m args below meth c H locs cells slots _ (F0 m pc lc (.int (nI k) :: .int (nI i) :: st.map (zv G)))
  rcases h9 with h | ⟨t, h⟩
  · exact va_gets hc.1 hc.2.1 h hS hc.2.2.2.2.1 (hts _ hw) (fun _ h9 => h9) hd (key _ rfl)
  · exact va_gets hc.1 hc.2.1 h hS hc.2.2.2.2.1 (hts _ hw) (fun _ h9 => h9) hd (key _ rfl)
