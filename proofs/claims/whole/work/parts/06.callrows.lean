/-! ===== making, statics, copies, returns, entry, calls ===== -/
/-- one more object of kind ci -/
def znO (Z : zS) (ci : Nat) : zS := (Z.1 + 1, va_up Z.2.1 Z.1 ci, Z.2.2.1, va_up Z.2.2.2 Z.1 (fun _ => none))
/-- one more array of kind ci with N places -/
def znA (Z : zS) (ci N : Nat) : zS := (Z.1 + 1, va_up Z.2.1 Z.1 ci, va_up Z.2.2.1 Z.1 N, va_up Z.2.2.2 Z.1 (fun _ => none))
/-- its ints -/
def znI (Z : zS) (I : zI) : zI := va_up I Z.1 (fun _ => 0)
theorem znO_E {G : zG} {Z : zS} {I : zI} {ci j : Nat} (h : j < Z.1) : zE G (znO Z ci) (znI Z I) j = zE G Z I j := by
  simp [zE, zfs, znO, znI, va_up, Nat.ne_of_lt h]
theorem znA_E {G : zG} {Z : zS} {I : zI} {ci N j : Nat} (h : j < Z.1) : zE G (znA Z ci N) (znI Z I) j = zE G Z I j := by
  simp [zE, zfs, znA, znI, va_up, Nat.ne_of_lt h]
theorem zdef : ∀ ci, ci < 13 → ∀ k, k < zN ci → defaultValue (zft ci k) = if zint (zft ci k) = true then .int 0 else .null := z13 (by decide +kernel) (by decide +kernel) (by decide +kernel) (by decide +kernel) (by decide +kernel) (by decide +kernel) (by decide +kernel) (by decide +kernel) (by decide +kernel) (by decide +kernel) (by decide +kernel) (by decide +kernel) (by decide +kernel)
/-- behind a making -/
theorem z_new {G : zG} {Z Z' : zS} {I I' : zI} {H H1 : Heap} {s : State} {locs : List Loc} (hC : zC G s) (hH : zH G Z I H) (hS : va_S (zA G) s.heap H locs) (hm : Z.1 < 900000) (hn : Z'.1 = Z.1 + 1) (ho : ∀ j, j < Z.1 → zE G Z' I' j = zE G Z I j) (e1 : va_at G.1 vwCl (G.2.1 + Z.1, zE G Z' I' Z.1) H1) (e2 : H1.size = H.size + 1) (e3 : ∀ q : Nat, q < H.size → H1[q]? = H[q]?) : zH G Z' I' H1 ∧ va_S (zA G) s.heap H1 locs := by
  have hk : ∀ (k : Nat) (x : Nat × va_E), (zws G Z I)[k]? = some x → H1[x.1]? = H[x.1]? := fun k x hx => e3 x.1 ((hH.2.2 k x hx).lt)
  have hP := (hH.2.2.kept hk).app (w2 := [(G.2.1 + Z.1, zE G Z' I' Z.1)]) (fun k x hx => by
    have hz : k < 1 := (List.getElem?_eq_some_iff.mp hx).1
    rw [show k = 0 by omega] at hx
    cases hx
    exact e1)
  rw [zws_push (Z' := Z') (I' := I') hn rfl ho] at hP
  exact ⟨⟨by rw [e2, hH.1, hn]; rfl, by rw [hn]; omega, hP⟩, ⟨Nat.le_trans hS.1 (by omega), fun x h1 h2 => (e3 x (Nat.lt_of_lt_of_le h1 hS.1)).trans (hS.2.1 x h1 h2), hS.2.2⟩⟩
theorem z_top {G : zG} {Z : zS} {I : zI} {H : Heap} (hH : zH G Z I H) (hm : Z.1 < 900000) : zad G Z.1 = H.size := by
  rw [hH.1]
  exact if_pos (by omega)
/-- new -/
theorem x_new {l : Launch} {G : zG} {md : zD} {d ac as pc n : Nat} {ls : List (Option Value)} {st : List Value} {Z : zS} {I : zI} {Q : Option Value → zS → zI → Prop} {ci idx : Nat} (hd : decode md.2.1 pc = .ok (.new idx, 3)) (hn : pc + 3 = n) (hci : ci < 13) (hcl : Cond.classLink md.1.cls idx (zCn ci) ∈ zT) (hins : Cond.instantiable (zCn ci) (zN ci) ∈ zT) (hini : Cond.initialized (zCn ci) ∈ zT) (hm : Z.1 < 900000) (hac : 1 ≤ ac) (has : zN ci ≤ as) (kk : zX l G md d (ac - 1) (as - zN ci) n ls (.ref Z.1 :: st) (znO Z ci) (znI Z I) Q) : zX l G md d ac as pc ls st Z I Q := by
  intro p e R s m args below meth c H locs cells slots lc hc hr hH hS hl
  subst hn
  have hK : va_K G.1 vwCl (ztys G) s := hc.2.2.2.2.2.2.2.2.2.1
  have hts := hc.2.2.2.2.2.1
  have hKn := hK.1 ci _ (zcl ci hci)
  refine W.newcK hc.1 hc.2.1 hc.2.2.2.2.1 (hts _ hcl) (hts _ hins) (hts _ hini) rfl hd (by omega) (by omega) hKn.2.1 rfl fun H1 kC hkC e1 z1 o1 => ?_
  have hz : H.size = G.2.1 + Z.1 := hH.1
  have hZ : (znO Z ci).2.1 Z.1 = ci := by simp [znO, va_up]
  obtain ⟨g1, g2⟩ := z_new (Z' := znO Z ci) (I' := znI Z I) hc.2.2.2.2.2.2.2.2 hH hS hm rfl (fun j hj => znO_E hj) (by
    rw [zE_o hZ hci, ← hz]
    refine ⟨_, zcl ci hci, (u_born (zft ci) hts (zcw ci hci) hKn hkC e1 (zcp ci hci)).to (fun k hk => ?_)⟩
    show _ = (zfs G (znO Z ci) (znI Z I) Z.1).getD k .null
    rw [List.getD_eq_getElem?_getD, zfs_at hZ hk, zdef ci hci k hk]
    simp [znO, znI, va_up, va_rf]) z1 o1
  have := kk p e R s m args below meth c H1 locs (cells + 1) (slots + zN ci) lc hc ⟨hr.1, hr.2.1, by omega, by omega⟩ g1 g2 hl
  rw [← z_top hH hm]
  exact this
/-- newarray of ints -/
theorem x_newI {l : Launch} {G : zG} {md : zD} {d ac as pc n : Nat} {ls : List (Option Value)} {st : List Value} {Z : zS} {I : zI} {Q : Option Value → zS → zI → Prop} {i : Int32} {N : Nat} (hd : decode md.2.1 pc = .ok (.newarray .int, 2)) (hn : pc + 2 = n) (hw : Cond.arrayClass .int ∈ zT) (hi : ¬ i < 0) (hN : i.toNatClampNeg = N) (hb : N ≤ 100000) (hm : Z.1 < 900000) (hac : 1 ≤ ac) (has : N ≤ as) (kk : zX l G md d (ac - 1) (as - N) n ls (.ref Z.1 :: st) (znA Z 13 N) (znI Z I) Q) : zX l G md d ac as pc ls (.int i :: st) Z I Q := by
  intro p e R s m args below meth c H locs cells slots lc hc hr hH hS hl
  subst hn
  have hK : va_K G.1 vwCl (ztys G) s := hc.2.2.2.2.2.2.2.2.2.1
  have hts := hc.2.2.2.2.2.1
  refine va_newaK (atype := .int) hc.1 hc.2.1 (hts _ hw) rfl hd rfl hi hN (by show N * 4 ≤ 536870912; omega) (by omega) (by omega) rfl fun H1 cA e1 z1 o1 hAr hNm => ?_
  have hcA : cA = G.2.2.1 13 := Option.some.inj (hNm.symm.trans (hK.2 0 _ rfl).2)
  have hz : H.size = G.2.1 + Z.1 := hH.1
  obtain ⟨g1, g2⟩ := z_new (Z' := znA Z 13 N) (I' := znI Z I) hc.2.2.2.2.2.2.2.2 hH hS hm rfl (fun j hj => znA_E hj) (by
    rw [zE_i (n := N) (by simp [znA, va_up]) (by simp [znA, va_up]), ← hz]
    show H1[H.size]? = some (vp_cell _ _)
    rw [e1, hcA, vp_cell_i]
    congr 2
    funext q
    simp [znI, va_up, defaultValue, newarray.typeOf]) z1 o1
  have := kk p e R s m args below meth c H1 locs (cells + 1) (slots + N) lc hc ⟨hr.1, hr.2.1, by omega, by omega⟩ g1 g2 hl
  rw [← z_top hH hm]
  exact this
/-- newarray of booleans -/
theorem x_newZ {l : Launch} {G : zG} {md : zD} {d ac as pc n : Nat} {ls : List (Option Value)} {st : List Value} {Z : zS} {I : zI} {Q : Option Value → zS → zI → Prop} {i : Int32} {N : Nat} (hd : decode md.2.1 pc = .ok (.newarray .boolean, 2)) (hn : pc + 2 = n) (hw : Cond.arrayClass .boolean ∈ zT) (hi : ¬ i < 0) (hN : i.toNatClampNeg = N) (hb : N ≤ 100000) (hm : Z.1 < 900000) (hac : 1 ≤ ac) (has : N ≤ as) (kk : zX l G md d (ac - 1) (as - N) n ls (.ref Z.1 :: st) (znA Z 14 N) (znI Z I) Q) : zX l G md d ac as pc ls (.int i :: st) Z I Q := by
  intro p e R s m args below meth c H locs cells slots lc hc hr hH hS hl
  subst hn
  have hK : va_K G.1 vwCl (ztys G) s := hc.2.2.2.2.2.2.2.2.2.1
  have hts := hc.2.2.2.2.2.1
  refine va_newaK (atype := .boolean) hc.1 hc.2.1 (hts _ hw) rfl hd rfl hi hN (by show N * 1 ≤ 536870912; omega) (by omega) (by omega) rfl fun H1 cA e1 z1 o1 hAr hNm => ?_
  have hcA : cA = G.2.2.1 14 := Option.some.inj (hNm.symm.trans (hK.2 1 _ rfl).2)
  have hz : H.size = G.2.1 + Z.1 := hH.1
  obtain ⟨g1, g2⟩ := z_new (Z' := znA Z 14 N) (I' := znI Z I) hc.2.2.2.2.2.2.2.2 hH hS hm rfl (fun j hj => znA_E hj) (by
    rw [zE_z (n := N) (by simp [znA, va_up]) (by simp [znA, va_up]), ← hz]
    show H1[H.size]? = some (vp_cell _ _)
    rw [e1, hcA, vp_cell_i]
    congr 2
    funext q
    simp [znI, va_up, defaultValue, newarray.typeOf]) z1 o1
  have := kk p e R s m args below meth c H1 locs (cells + 1) (slots + N) lc hc ⟨hr.1, hr.2.1, by omega, by omega⟩ g1 g2 hl
  rw [← z_top hH hm]
  exact this
/-- anewarray -/
theorem x_newA {l : Launch} {G : zG} {md : zD} {d ac as pc n : Nat} {ls : List (Option Value)} {st : List Value} {Z : zS} {I : zI} {Q : Option Value → zS → zI → Prop} {i : Int32} {N ci idx : Nat} (hd : decode md.2.1 pc = .ok (.anewarray idx, 3)) (hn : pc + 3 = n) (hci : 15 ≤ ci ∧ ci < 18) (hcl : Cond.classLink md.1.cls idx (ztyn ci) ∈ zT) (hi : ¬ i < 0) (hN : i.toNatClampNeg = N) (hb : N ≤ 100000) (hm : Z.1 < 900000) (hac : 1 ≤ ac) (has : N ≤ as) (kk : zX l G md d (ac - 1) (as - N) n ls (.ref Z.1 :: st) (znA Z ci N) (znI Z I) Q) : zX l G md d ac as pc ls (.int i :: st) Z I Q := by
  intro p e R s m args below meth c H locs cells slots lc hc hr hH hS hl
  subst hn
  have hK : va_K G.1 vwCl (ztys G) s := hc.2.2.2.2.2.2.2.2.2.1
  have hts := hc.2.2.2.2.2.1
  have hAO : va_AO (ztyn ci) s := by
    refine hc.2.2.2.2.2.2.2.2.2.2.2.2.1 _ ?_
    rcases (by omega : ci = 15 ∨ ci = 16 ∨ ci = 17) with rfl | rfl | rfl <;> decide
  subst hN
  refine W.anew hc.1 hc.2.1 hc.2.2.2.2.1 (hts _ hcl) (va_AO.use hAO) rfl hd rfl hi (by omega) (by omega) (by omega) fun cA kA comp f1 f2 f3 f4 => ?_
  have hcA : cA = G.2.2.1 ci := by
    obtain ⟨kA', comp', -, -, -, k4⟩ := (hK.2 (ci - 13) _ (ztys_at hci.1 hci.2)).2
    exact Option.some.inj (f1.symm.trans k4)
  have hz : H.size = G.2.1 + Z.1 := hH.1
  have hc3 : (znA Z ci i.toNatClampNeg).2.1 Z.1 = ci := by simp [znA, va_up]
  obtain ⟨g1, g2⟩ := z_new (H1 := H.push ({ cls := cA, slots := Array.replicate i.toNatClampNeg .null, vm := .none } : Cell)) (Z' := znA Z ci i.toNatClampNeg) (I' := znI Z I) hc.2.2.2.2.2.2.2.2 hH hS hm rfl (fun j hj => znA_E hj) (by
    rw [zE_q (n := i.toNatClampNeg) hc3 hci.1 (by simp [znA, va_up]), ← hz]
    show (H.push _)[H.size]? = some (vp_cell _ _)
    rw [Array.getElem?_push_size, arrV_new, hcA, vp_cell_q]
    congr 2
    funext q
    simp [znA, va_up, va_rf]) (by rw [Array.size_push]) (fun q hq => by rw [Array.getElem?_push, if_neg (Nat.ne_of_lt hq)])
  have := kk p e R s m args below meth c _ locs (cells + 1) (slots + i.toNatClampNeg) lc hc ⟨hr.1, hr.2.1, by omega, by omega⟩ g1 g2 hl
  rw [← z_top hH hm]
  exact this
/-- the constructor of Object -/
theorem x_objI {l : Launch} {G : zG} {md : zD} {d ac as pc n : Nat} {ls : List (Option Value)} {st : List Value} {Z : zS} {I : zI} {Q : Option Value → zS → zI → Prop} {a idx : Nat} (hd : decode md.2.1 pc = .ok (.invokespecial idx, 3)) (hn : pc + 3 = n) (h1 : Cond.methodLink md.1.cls idx objectInit ∈ zT) (h2 : Cond.instanceMethod objectInit ∈ zT) (h3 : Cond.code objectInit ⟨#[0xb1]⟩ 1 none ∈ zT) (hd1 : 1 ≤ d) (hst : (st.map fun v => v.category).sum ≤ 8) (kk : zX l G md d ac as n ls st Z I Q) : zX l G md d ac as pc ls (.ref a :: st) Z I Q := by
  intro p e R s m args below meth c H locs cells slots lc hc hr hH hS hl
  subst hn
  have hts := hc.2.2.2.2.2.1
  refine W.objInit hc.1 hc.2.1 hc.2.2.2.2.1 (hts _ h1) (hts _ h2) (hts _ h3) (g := F0 m pc lc (.ref (zad G a) :: st.map (zv G))) rfl (by rw [hc.2.2.2.1]; exact hl.1) (rest := st.map (zv G)) rfl hd (by omega) ?_ (kk p e R s m args below meth c H locs cells slots lc hc hr hH hS hl)
  have h9 := zcats G st
  show 2 * 0 + ((st.map (zv G)).map fun v => v.category).sum + 12 ≤ R.locals
  omega
/-- getstatic of a row -/
theorem x_gets {l : Launch} {G : zG} {md : zD} {d ac as pc n : Nat} {ls : List (Option Value)} {st : List Value} {Z : zS} {I : zI} {Q : Option Value → zS → zI → Prop} {idx : Nat} {q : String × String × Nat × List Int32} (hd : decode md.2.1 pc = .ok (.getstatic idx, 3)) (hn : pc + 3 = n) (hq : q ∈ zSt) (hw : Cond.fieldLink md.1.cls idx q.1 q.2.1 "[I" ∈ zT) (kk : zX l G md d ac as n ls (.ref (1000000 + q.2.2.1) :: st) Z I Q) : zX l G md d ac as pc ls st Z I Q := by
  intro p e R s m args below meth c H locs cells slots lc hc hr hH hS hl
  subst hn
  have hz : zad G (1000000 + q.2.2.1) = G.2.2.2.1 q.2.2.1 := by
    unfold zad
    rw [if_neg (by omega), Nat.add_sub_cancel_left]
  have hh := hc.2.2.2.2.2.2.2.2.2.2.1 q hq
  refine va_gets hc.1 hc.2.1 hh.1 hS hc.2.2.2.2.1 (hc.2.2.2.2.2.1 _ hw) (fun _ h9 => h9) hd ?_
  rw [← hz]
  exact (kk p e R s m args below meth c H locs cells slots lc hc hr hH hS hl)
/-- iaload of a static row -/
theorem x_tald {l : Launch} {G : zG} {md : zD} {d ac as pc n : Nat} {ls : List (Option Value)} {st : List Value} {Z : zS} {I : zI} {Q : Option Value → zS → zI → Prop} {a : Nat} {i : Int32} {q : String × String × Nat × List Int32} (hd : decode md.2.1 pc = .ok (.iaload, 1)) (hn : pc + 1 = n) (hq : q ∈ zSt) (ha : 1000000 + q.2.2.1 = a) (hin : vp_in i q.2.2.2.length) (kk : zX l G md d ac as n ls (.int (q.2.2.2.getD i.toNatClampNeg 0) :: st) Z I Q) : zX l G md d ac as pc ls (.int i :: .ref a :: st) Z I Q := by
  intro p e R s m args below meth c H locs cells slots lc hc hr hH hS hl
  subst hn
  subst ha
  have hz : zad G (1000000 + q.2.2.1) = G.2.2.2.1 q.2.2.1 := by
    unfold zad
    rw [if_neg (by omega), Nat.add_sub_cancel_left]
  have hh := hc.2.2.2.2.2.2.2.2.2.2.1 q hq
  show W p l e R s m args below meth c H locs cells slots _ (F0 m pc lc (.int i :: .ref (zad G (1000000 + q.2.2.1)) :: st.map (zv G)))
  rw [hz]
  exact va_ti hc.1 hc.2.1 hh.2 hS hin rfl hd (kk p e R s m args below meth c H locs cells slots lc hc hr hH hS hl)
/-- arraylength of a static row -/
theorem x_tlen {l : Launch} {G : zG} {md : zD} {d ac as pc n : Nat} {ls : List (Option Value)} {st : List Value} {Z : zS} {I : zI} {Q : Option Value → zS → zI → Prop} {a : Nat} {v : Int32} {q : String × String × Nat × List Int32} (hd : decode md.2.1 pc = .ok (.arraylength, 1)) (hn : pc + 1 = n) (hq : q ∈ zSt) (ha : 1000000 + q.2.2.1 = a) (hv : Int32.ofNat q.2.2.2.length = v) (kk : zX l G md d ac as n ls (.int v :: st) Z I Q) : zX l G md d ac as pc ls (.ref a :: st) Z I Q := by
  intro p e R s m args below meth c H locs cells slots lc hc hr hH hS hl
  subst hn
  subst ha
  have hz : zad G (1000000 + q.2.2.1) = G.2.2.2.1 q.2.2.1 := by
    unfold zad
    rw [if_neg (by omega), Nat.add_sub_cancel_left]
  have hh := hc.2.2.2.2.2.2.2.2.2.2.1 q hq
  show W p l e R s m args below meth c H locs cells slots _ (F0 m pc lc (.ref (zad G (1000000 + q.2.2.1)) :: st.map (zv G)))
  rw [hz]
  exact va_tlen hc.1 hc.2.1 hh.2 hS hv hd (kk p e R s m args below meth c H locs cells slots lc hc hr hH hS hl)
/-- returns -/
theorem x_iret {l : Launch} {G : zG} {md : zD} {d ac as pc : Nat} {ls : List (Option Value)} {Z : zS} {I : zI} {Q : Option Value → zS → zI → Prop} {v : Int32} (hd : decode md.2.1 pc = .ok (.ireturn, 1)) (hm : md.2.2.2 = some .int) (hq : Q (some (.int v)) Z I) : zX l G md d ac as pc ls [.int v] Z I Q := by
  intro p e R s m args below meth c H locs cells slots lc hc hr hH hS hl
  refine W.widen (k := R.cells) (n := R.slots) (by omega) (by omega) ?_
  exact W.iret (v := v) hc.1 hc.2.1 (hc.2.2.1.trans hm) (fun t ht hW => ⟨⟨some (.int v), Z, I, rfl, hq, by rw [ht]; exact hH⟩, hS.F ht⟩) hS.2.2 hd (hlocks := hc.2.2.2.2.2.2.1)
theorem x_zret {l : Launch} {G : zG} {md : zD} {d ac as pc : Nat} {ls : List (Option Value)} {Z : zS} {I : zI} {Q : Option Value → zS → zI → Prop} {v : Int32} {ty : FieldType} (hd : decode md.2.1 pc = .ok (.ireturn, 1)) (hm : md.2.2.2 = some ty) (hn : narrow ty (.int v) = .int v) (hq : Q (some (.int v)) Z I) : zX l G md d ac as pc ls [.int v] Z I Q := by
  intro p e R s m args below meth c H locs cells slots lc hc hr hH hS hl
  refine W.widen (k := R.cells) (n := R.slots) (by omega) (by omega) ?_
  exact W.zret (v := v) hc.1 hc.2.1 (hc.2.2.1.trans hm) hn (fun t ht hW => ⟨⟨some (.int v), Z, I, rfl, hq, by rw [ht]; exact hH⟩, hS.F ht⟩) hS.2.2 hd (hlocks := hc.2.2.2.2.2.2.1)
theorem x_vret {l : Launch} {G : zG} {md : zD} {d ac as pc : Nat} {ls : List (Option Value)} {Z : zS} {I : zI} {Q : Option Value → zS → zI → Prop} (hd : decode md.2.1 pc = .ok (.return_, 1)) (hm : md.2.2.2 = none) (hq : Q none Z I) : zX l G md d ac as pc ls [] Z I Q := by
  intro p e R s m args below meth c H locs cells slots lc hc hr hH hS hl
  refine W.widen (k := R.cells) (n := R.slots) (by omega) (by omega) ?_
  exact W.vret hc.1 hc.2.1 (hc.2.2.1.trans hm) (fun t ht hW => ⟨⟨none, Z, I, rfl, hq, by rw [ht]; exact hH⟩, hS.F ht⟩) hS.2.2 hd (hlocks := hc.2.2.2.2.2.2.1)
theorem x_aret {l : Launch} {G : zG} {md : zD} {d ac as pc : Nat} {ls : List (Option Value)} {Z : zS} {I : zI} {Q : Option Value → zS → zI → Prop} {v : Value} {rt : FieldType} (hd : decode md.2.1 pc = .ok (.areturn, 1)) (hm : md.2.2.2 = some rt) (hrt : (∃ n, rt = .object n) ∨ ∃ t, rt = .array t) (hv : v = .null ∨ ∃ a, v = .ref a) (hq : Q (some v) Z I) : zX l G md d ac as pc ls [v] Z I Q := by
  intro p e R s m args below meth c H locs cells slots lc hc hr hH hS hl
  refine W.widen (k := R.cells) (n := R.slots) (by omega) (by omega) ?_
  exact W.aret (v := zv G v) hc.1 hc.2.1 (hc.2.2.1.trans hm) hrt (by rcases hv with rfl | ⟨a, rfl⟩; exact Or.inl rfl; exact Or.inr ⟨_, rfl⟩) (fun t ht hW => ⟨⟨some v, Z, I, rfl, hq, by rw [ht]; exact hH⟩, hS.F ht⟩) hS.2.2 hd (hlocks := hc.2.2.2.2.2.2.1)
/-- the locals at a method's entry -/
def zent : List Value → List (Option Value)
  | [] => []
  | .long x :: t => some (.long x) :: none :: zent t
  | .double x :: t => some (.double x) :: none :: zent t
  | v :: t => some v :: zent t
theorem zent_args {G : zG} : ∀ (vs : List Value) (i j : Nat) (v : Value), (zent vs)[j]? = some (some v) → (i + j, zv G v) ∈ lv_args i (vs.map (zv G))
  | [], i, j, v, h => by simp [zent] at h
  | w :: t, i, j, v, h => by
    by_cases hw : w.category = 2
    · have e : zent (w :: t) = some w :: none :: zent t := by cases w <;> simp_all [zent, Value.category]
      rw [e] at h
      have e2 : lv_args i ((w :: t).map (zv G)) = (i, zv G w) :: lv_args (i + 2) (t.map (zv G)) := by
        show (i, zv G w) :: lv_args (if (zv G w).category = 2 then i + 2 else i + 1) (t.map (zv G)) = _
        rw [if_pos (by rw [zvm]; exact hw)]
      rw [e2]
      match j, h with
      | 0, h =>
        have : w = v := by simpa using h
        subst this
        exact List.mem_cons_self
      | 1, h => simp at h
      | j + 2, h =>
        have := zent_args (G := G) t (i + 2) j v (by simpa using h)
        rw [show i + (j + 2) = i + 2 + j by omega]
        exact List.mem_cons_of_mem _ this
    · have e : zent (w :: t) = some w :: zent t := by cases w <;> simp_all [zent, Value.category]
      rw [e] at h
      have e2 : lv_args i ((w :: t).map (zv G)) = (i, zv G w) :: lv_args (i + 1) (t.map (zv G)) := by
        show (i, zv G w) :: lv_args (if (zv G w).category = 2 then i + 2 else i + 1) (t.map (zv G)) = _
        rw [if_neg (by rw [zvm]; exact hw)]
      rw [e2]
      match j, h with
      | 0, h =>
        have : w = v := by simpa using h
        subst this
        exact List.mem_cons_self
      | j + 1, h =>
        have := zent_args (G := G) t (i + 1) j v (by simpa using h)
        rw [show i + (j + 1) = i + 1 + j by omega]
        exact List.mem_cons_of_mem _ this
theorem zent_len {G : zG} : ∀ (vs : List Value), (lg_sl (vs.map (zv G))).length = (zent vs).length
  | [] => rfl
  | w :: t => by
    have ih := zent_len (G := G) t
    unfold lg_sl at ih ⊢
    rw [List.map_cons, List.flatMap_cons, List.length_append, ih, zvm]
    cases w <;> simp [zent, Value.category] <;> omega
/-- A METHOD FROM ITS WALK -/
theorem x_entry {l : Launch} {G : zG} {md : zD} {d mc ms : Nat} {args : List Value} {Z : zS} {I : zI} {Q : Option Value → zS → zI → Prop} (ls : List (Option Value)) (k : Nat) (hy : plainName md.1.cls = true) (hls : zent args ++ List.replicate k none = ls) (hlen : (zent args).length ≤ md.2.2.1) (kk : zX l G md d mc ms 0 ls [] Z I Q) : zM l G md d mc ms args Z I Q := by
  refine Met.ofW (cc := md.2.1) (maxL := md.2.2.1) (ret := md.2.2.2) hy rfl ?_
  intro p e s m args' below meth c s₁ B hml hv
  obtain ⟨rfl, hC, hH⟩ := hv
  have hts := atoms_spec (ws := zwd md) B.pre
  have hown : s.vm.findClass md.1.cls = some m.cls := findClass_of_methodNamed B.named
  have hnm : meth.name = md.1.name := (name_of_methodNamed B.named B.method).1
  rw [lg_entry_eq]
  have hl := lv_entry (args.map (zv G)) (n := md.2.2.1) (by rw [zent_len]; exact hlen)
  refine kk p e _ s m _ below meth c s.heap [] 0 0 _ ⟨B.exec, B.bytes, B.returns, hml, hown, fun w hw => hts w (List.mem_cons_of_mem _ hw), B.notSynchronized, hnm, hC⟩ ⟨Nat.le_refl _, Nat.le_refl _, ?_, ?_⟩ hH va_S.rf ⟨hl.1, hl.2.1, fun i v hi => ?_⟩
  · show 0 + mc ≤ mc; omega
  · show 0 + ms ≤ ms; omega
  · have hi' : (zent args)[i]? = some (some v) := by
      rw [← hls] at hi
      by_cases hlt : i < (zent args).length
      · rwa [List.getElem?_append_left hlt] at hi
      · rw [List.getElem?_append_right (by omega)] at hi
        have := List.eq_of_mem_replicate (List.mem_of_getElem? hi)
        cases this
    have := zent_args (G := G) args 0 i v hi'
    rw [Nat.zero_add] at this
    exact hl.2.2 _ this
/-- behind a call -/
theorem z_go {p : Program} {l : Launch} {e : Env} {R : Room} {s : State} {m : MethodId} {args : Array Value} {below : List Frame} {meth : Method} {c : Code} {H : Heap} {locs : List Loc} {cells slots mc ms : Nat} {Qf : State → Prop} {G : zG} {pc : Nat} {lc : Array Slot} {st0 rest : List Value} {a : Array Value} {Q' : Option Value → zS → zI → Prop}
    (hr : va_Run p l e R s m args below meth c H locs cells slots mc ms (F0 m pc lc st0) rest (zQ G Q' a) (zA G)) (hS : va_S (zA G) s.heap H locs)
    (kk : ∀ (r : Option Value) (Z' : zS) (I' : zI) (H1 : Heap) (locs1 : List Loc), Q' r Z' I' → zH G Z' I' H1 → va_S (zA G) s.heap H1 locs1 → W p l e R s m args below meth c H1 locs1 (cells + mc) (slots + ms) Qf (F0 m (pc + 3) lc ((r.map (zv G)).toList ++ rest))) : W p l e R s m args below meth c H locs cells slots Qf (F0 m pc lc st0) := by
  intro T hT X
  obtain ⟨v, st₀, t, T', L, h0, X', hL, e1, e2, ⟨⟨r, Z', I', hv, hq, hb⟩, hz, hk⟩, st⟩ := hr T hT X
  have hv' : v = r.map (zv G) := Outcome.returned.inj hv
  subst hv'
  rw [h0] at hz hk
  obtain ⟨t2, a1, b1⟩ := kk r Z' I' T'.heap (locs ++ L) hq (by rw [e1]; exact hb)
    ⟨Nat.le_trans hS.1 (by rw [e1]; exact hz), fun q h1 h2 => by rw [e1, hk q (Nat.lt_of_lt_of_le h1 hS.1) h2]; exact hS.2.1 q h1 h2, fun q hq => by
      rcases List.mem_append.mp hq with h | h
      · exact hS.2.2 q h
      · exact hL q h⟩ T' rfl X'
  exact ⟨t2, st t2 a1, b1⟩
/-- what the tables say of a method: its code, its class, its parameters -/
def zMd (md : zD) (nA : Nat) : Prop := Cond.code md.1 md.2.1 md.2.2.1 md.2.2.2 ∈ zT ∧ Cond.initialized md.1.cls ∈ zT ∧ (md.1.cls ≠ "java/lang/invoke/MethodHandle" ∧ md.1.cls ≠ "java/lang/invoke/VarHandle" ∧ (parseMethodDescriptor md.1.desc).map (fun d => d.parameters.length) = some nA) ∧ md.2.2.1 ≤ 45
theorem z_good {md : zD} {nA : Nat} (h : zMd md nA) : GoodIn zT (zwd md) := by
  intro w hw
  have hm : w ∈ zT := by
    rcases List.mem_cons.mp hw with rfl | hw
    · exact h.1
    · exact hw
  exact ⟨hm, good_of_word (List.mem_filter.mp hm).2⟩
theorem z_blind {G : zG} {Z : zS} {I : zI} {av : List Value} : FrameBlind (fun a U => a = (av.map (zv G)).toArray ∧ zC G U ∧ zH G Z I U.heap) := by
  intro a U g mk h
  refine ⟨h.1, h.2.1.to (State.WarmedH.refl _) (Nat.le_refl _) (fun _ _ _ => rfl), h.2.2⟩
theorem z_pre {G : zG} {s U : State} {H : Heap} {locs : List Loc} (hC : zC G s) (hS : va_S (zA G) s.heap H locs) (hU : U.heap = H) (hW : s.WarmedH U.vm) : zC G U := hC.to hW (by rw [hU]; exact hS.1) (fun q h1 h2 => by rw [hU]; exact hS.2.1 q h1 h2)
theorem z_fin {l : Launch} {G : zG} {md : zD} {d ac as mc ms n : Nat} {ls : List (Option Value)} {st : List Value} {Q : Option Value → zS → zI → Prop} {p : Program} {e : Env} {R : Room} {s : State} {m : MethodId} {args : Array Value} {below : List Frame} {meth : Method} {c : Code} {locs : List Loc} {cells slots : Nat} {lc : Array Slot} {r : Option Value} {Z' : zS} {I' : zI} {H1 : Heap}
    (hc : zctx G md p s m args meth c) (hr : d ≤ R.frames ∧ 64 * d ≤ R.locals ∧ cells + ac ≤ R.cells ∧ slots + as ≤ R.slots) (hl : zls G md.2.2.1 ls lc) (hac : mc ≤ ac) (has : ms ≤ as) (hq : zX l G md d (ac - mc) (as - ms) n ls (r.toList ++ st) Z' I' Q) (g1 : zH G Z' I' H1) (g2 : va_S (zA G) s.heap H1 locs) : W p l e R s m args below meth c H1 locs (cells + mc) (slots + ms) (MQ below (zQ G Q) args s R.cells R.slots (zA G)) (F0 m n lc ((r.map (zv G)).toList ++ st.map (zv G))) := by
  have := hq p e R s m args below meth c H1 locs (cells + mc) (slots + ms) lc hc ⟨hr.1, hr.2.1, by omega, by omega⟩ g1 g2 hl
  rw [List.map_append] at this
  cases r <;> exact this
/-- invokevirtual -/
theorem x_invV {l : Launch} {G : zG} {md : zD} {d ac as pc n : Nat} {ls : List (Option Value)} {st : List Value} {Z : zS} {I : zI} {Q : Option Value → zS → zI → Prop} {md' : zD} {d' mc ms nA ci b idx : Nat} (As : List Value) (hm : zMd md' nA) (h1 : Cond.methodLink md.1.cls idx md'.1 ∈ zT) (h2 : Cond.instanceMethod md'.1 ∈ zT) (h3 : Cond.selects md'.1.cls md'.1 md'.1 ∈ zT) (hd : decode md.2.1 pc = .ok (.invokevirtual idx, 3)) (hn : pc + 3 = n) (hA : As.length = nA) (hk : zk Z b ci) (hci : ci < 13) (hcn : zCn ci = md'.1.cls) (hdd : d' + 1 ≤ d) (hac : mc ≤ ac) (has : ms ≤ as) (hst : (st.map fun v => v.category).sum ≤ 8)
    (hM : zM l G md' d' mc ms (.ref b :: As) Z I (fun r Z' I' => zX l G md d (ac - mc) (as - ms) n ls (r.toList ++ st) Z' I' Q)) : zX l G md d ac as pc ls (As.reverse ++ .ref b :: st) Z I Q := by
  intro p e R s m args below meth c H locs cells slots lc hc hr hH hS hl
  subst hn
  have hts := hc.2.2.2.2.2.1
  have hC := hc.2.2.2.2.2.2.2.2
  have hwe : (zws G Z I)[b]? = some (G.2.1 + b, .inr (ci, zfs G Z I b)) := by rw [zws_at hk.1, zE_o hk.2 hci]
  have hrv := va_recv hC.2.1 hH.2.2 (zcl ci hci) hwe
  rw [show (zCn ci, zTT ci, zN ci).1 = md'.1.cls from hcn] at hrv
  have hcb := callB_of (R := R) (own := md.1.cls) (index := idx) (rm := { frames := d', cells := mc, slots := ms, locals := 64 * d' }) nA hts (z_good hm) (ws := zwd md') rfl rfl rfl (hts _ hm.2.1) (hts _ h1) hm.2.2.1 ⟨by show d' + 1 ≤ R.frames; omega, by show 8 + (md'.2.2.1 + 11) + 64 * d' ≤ R.locals; have := hm.2.2.2; omega⟩
  refine z_go (va_runV (As := As.map (zv G)) (b := G.2.1 + b) (rest := st.map (zv G)) (nL := md.2.2.1) (own := md.1.cls) (C := md'.1.cls) ⟨hc.1, hc.2.1, hc.2.2.2.1, hc.2.2.2.2.1, hts⟩ hM ⟨hcb, hts _ h2, hts _ h3⟩ ⟨z_blind, hrv, fun U hU hW => ⟨?_, z_pre hC hS hU hW, by rw [hU]; exact hH⟩⟩ rfl (by rw [List.length_map]; exact hA) hl.1 ?_ (lv_room (by rw [zcats]; exact hst)) hd ⟨by omega, by omega⟩) hS (fun r Z' I' H1 locs1 hq g1 g2 => ?_)
  · rw [← zad_lo hH hk.1]; rfl
  · show (As.reverse ++ .ref b :: st).map (zv G) = _
    rw [List.map_append, List.map_reverse]
    show _ ++ Value.ref (zad G b) :: _ = _
    rw [zad_lo hH hk.1]
  · exact z_fin hc hr hl hac has hq g1 g2
/-- invokestatic -/
theorem x_invS {l : Launch} {G : zG} {md : zD} {d ac as pc n : Nat} {ls : List (Option Value)} {st : List Value} {Z : zS} {I : zI} {Q : Option Value → zS → zI → Prop} {md' : zD} {d' mc ms nA idx : Nat} (As : List Value) (hm : zMd md' nA) (h1 : Cond.methodLink md.1.cls idx md'.1 ∈ zT) (h2 : Cond.static md'.1 ∈ zT) (hd : decode md.2.1 pc = .ok (.invokestatic idx, 3)) (hn : pc + 3 = n) (hA : As.length = nA) (hdd : d' + 1 ≤ d) (hac : mc ≤ ac) (has : ms ≤ as) (hst : (st.map fun v => v.category).sum ≤ 8)
    (hM : zM l G md' d' mc ms As Z I (fun r Z' I' => zX l G md d (ac - mc) (as - ms) n ls (r.toList ++ st) Z' I' Q)) : zX l G md d ac as pc ls (As.reverse ++ st) Z I Q := by
  intro p e R s m args below meth c H locs cells slots lc hc hr hH hS hl
  subst hn
  have hts := hc.2.2.2.2.2.1
  have hC := hc.2.2.2.2.2.2.2.2
  have hcb := callB_of (R := R) (own := md.1.cls) (index := idx) (rm := { frames := d', cells := mc, slots := ms, locals := 64 * d' }) nA hts (z_good hm) (ws := zwd md') rfl rfl rfl (hts _ hm.2.1) (hts _ h1) hm.2.2.1 ⟨by show d' + 1 ≤ R.frames; omega, by show 8 + (md'.2.2.1 + 11) + 64 * d' ≤ R.locals; have := hm.2.2.2; omega⟩
  refine z_go (va_runS (As := As.map (zv G)) (rest := st.map (zv G)) (nL := md.2.2.1) (own := md.1.cls) ⟨hc.1, hc.2.1, hc.2.2.2.1, hc.2.2.2.2.1, hts⟩ hM ⟨hcb, hts _ h2⟩ ⟨z_blind, fun U hU hW => ⟨rfl, z_pre hC hS hU hW, by rw [hU]; exact hH⟩⟩ rfl (by rw [List.length_map]; exact hA) hl.1 ?_ (lv_room (by rw [zcats]; exact hst)) hd ⟨by omega, by omega⟩) hS (fun r Z' I' H1 locs1 hq g1 g2 => ?_)
  · show (As.reverse ++ st).map (zv G) = _
    rw [List.map_append, List.map_reverse]
  · exact z_fin hc hr hl hac has hq g1 g2
/-- invokestatic of a nest mate -/
theorem x_invSN {l : Launch} {G : zG} {md : zD} {d ac as pc n : Nat} {ls : List (Option Value)} {st : List Value} {Z : zS} {I : zI} {Q : Option Value → zS → zI → Prop} {md' : zD} {d' mc ms nA idx : Nat} {host : String} (As : List Value) (hm : zMd md' nA) (h1 : (md.1.cls, idx, md'.1, host) ∈ zNl) (h2 : Cond.static md'.1 ∈ zT) (hd : decode md.2.1 pc = .ok (.invokestatic idx, 3)) (hn : pc + 3 = n) (hA : As.length = nA) (hdd : d' + 1 ≤ d) (hac : mc ≤ ac) (has : ms ≤ as) (hst : (st.map fun v => v.category).sum ≤ 8)
    (hM : zM l G md' d' mc ms As Z I (fun r Z' I' => zX l G md d (ac - mc) (as - ms) n ls (r.toList ++ st) Z' I' Q)) : zX l G md d ac as pc ls (As.reverse ++ st) Z I Q := by
  intro p e R s m args below meth c H locs cells slots lc hc hr hH hS hl
  subst hn
  have hts := hc.2.2.2.2.2.1
  have hC := hc.2.2.2.2.2.2.2.2
  have hcb := va_cnB (R := R) (own := md.1.cls) (index := idx) (host := host) (rm := { frames := d', cells := mc, slots := ms, locals := 64 * d' }) nA hts (z_good hm) (ws := zwd md') rfl rfl rfl (hC.2.2.2.1 _ h1) (hts _ hm.2.1) hm.2.2.1 ⟨by show d' + 1 ≤ R.frames; omega, by show 8 + (md'.2.2.1 + 11) + 64 * d' ≤ R.locals; have := hm.2.2.2; omega⟩
  refine z_go (va_runSN (As := As.map (zv G)) (rest := st.map (zv G)) (nL := md.2.2.1) (own := md.1.cls) ⟨hc.1, hc.2.1, hc.2.2.2.1, hc.2.2.2.2.1, hts⟩ hM ⟨hcb, hts _ h2, trivial⟩ ⟨z_blind, fun U hU hW => ⟨rfl, z_pre hC hS hU hW, by rw [hU]; exact hH⟩⟩ rfl (by rw [List.length_map]; exact hA) hl.1 ?_ (lv_room (by rw [zcats]; exact hst)) hd ⟨by omega, by omega⟩) hS (fun r Z' I' H1 locs1 hq g1 g2 => ?_)
  · show (As.reverse ++ st).map (zv G) = _
    rw [List.map_append, List.map_reverse]
  · exact z_fin hc hr hl hac has hq g1 g2
/-- invokespecial of a constructor -/
theorem x_invI {l : Launch} {G : zG} {md : zD} {d ac as pc n : Nat} {ls : List (Option Value)} {st : List Value} {Z : zS} {I : zI} {Q : Option Value → zS → zI → Prop} {md' : zD} {d' mc ms nA b idx : Nat} (As : List Value) (hm : zMd md' nA) (h0 : md'.1.name = "<init>") (hret : md'.2.2.2 = none) (h1 : Cond.methodLink md.1.cls idx md'.1 ∈ zT) (h2 : Cond.instanceMethod md'.1 ∈ zT) (hd : decode md.2.1 pc = .ok (.invokespecial idx, 3)) (hn : pc + 3 = n) (hA : As.length = nA) (hdd : d' + 1 ≤ d) (hac : mc ≤ ac) (has : ms ≤ as) (hst : (st.map fun v => v.category).sum ≤ 8)
    (hM : zM l G md' d' mc ms (.ref b :: As) Z I (fun r Z' I' => zX l G md d (ac - mc) (as - ms) n ls (r.toList ++ st) Z' I' Q)) : zX l G md d ac as pc ls (As.reverse ++ .ref b :: st) Z I Q := by
  intro p e R s m args below meth c H locs cells slots lc hc hr hH hS hl
  subst hn
  have hts := hc.2.2.2.2.2.1
  have hC := hc.2.2.2.2.2.2.2.2
  have hcb := callB_of (R := R) (own := md.1.cls) (index := idx) (rm := { frames := d', cells := mc, slots := ms, locals := 64 * d' }) nA hts (z_good hm) (ws := zwd md') rfl rfl rfl (hts _ hm.2.1) (hts _ h1) hm.2.2.1 ⟨by show d' + 1 ≤ R.frames; omega, by show 8 + (md'.2.2.1 + 11) + 64 * d' ≤ R.locals; have := hm.2.2.2; omega⟩
  rw [hret] at hcb
  refine z_go (va_runI (As := As.map (zv G)) (b := zad G b) (rest := st.map (zv G)) (nL := md.2.2.1) (own := md.1.cls) ⟨hc.1, hc.2.1, hc.2.2.2.1, hc.2.2.2.2.1, hts⟩ hM ⟨hcb, h0, hts _ h2⟩ ⟨z_blind, fun U hU hW => ⟨rfl, z_pre hC hS hU hW, by rw [hU]; exact hH⟩⟩ rfl (by rw [List.length_map]; exact hA) hl.1 ?_ (lv_room (by rw [zcats]; exact hst)) hd ⟨by omega, by omega⟩) hS (fun r Z' I' H1 locs1 hq g1 g2 => ?_)
  · show (As.reverse ++ .ref b :: st).map (zv G) = _
    rw [List.map_append, List.map_reverse]
    rfl
  · exact z_fin hc hr hl hac has hq g1 g2
/-- invokespecial of a nest mate's constructor -/
theorem x_invIN {l : Launch} {G : zG} {md : zD} {d ac as pc n : Nat} {ls : List (Option Value)} {st : List Value} {Z : zS} {I : zI} {Q : Option Value → zS → zI → Prop} {md' : zD} {d' mc ms nA b idx : Nat} {host : String} (As : List Value) (hm : zMd md' nA) (h0 : md'.1.name = "<init>") (hret : md'.2.2.2 = none) (h1 : (md.1.cls, idx, md'.1, host) ∈ zNl) (h2 : Cond.instanceMethod md'.1 ∈ zT) (hd : decode md.2.1 pc = .ok (.invokespecial idx, 3)) (hn : pc + 3 = n) (hA : As.length = nA) (hdd : d' + 1 ≤ d) (hac : mc ≤ ac) (has : ms ≤ as) (hst : (st.map fun v => v.category).sum ≤ 8)
    (hM : zM l G md' d' mc ms (.ref b :: As) Z I (fun r Z' I' => zX l G md d (ac - mc) (as - ms) n ls (r.toList ++ st) Z' I' Q)) : zX l G md d ac as pc ls (As.reverse ++ .ref b :: st) Z I Q := by
  intro p e R s m args below meth c H locs cells slots lc hc hr hH hS hl
  subst hn
  have hts := hc.2.2.2.2.2.1
  have hC := hc.2.2.2.2.2.2.2.2
  have hcb := va_cnB (R := R) (own := md.1.cls) (index := idx) (host := host) (rm := { frames := d', cells := mc, slots := ms, locals := 64 * d' }) nA hts (z_good hm) (ws := zwd md') rfl rfl rfl (hC.2.2.2.1 _ h1) (hts _ hm.2.1) hm.2.2.1 ⟨by show d' + 1 ≤ R.frames; omega, by show 8 + (md'.2.2.1 + 11) + 64 * d' ≤ R.locals; have := hm.2.2.2; omega⟩
  rw [hret] at hcb
  refine z_go (va_runIN (As := As.map (zv G)) (b := zad G b) (rest := st.map (zv G)) (nL := md.2.2.1) (own := md.1.cls) ⟨hc.1, hc.2.1, hc.2.2.2.1, hc.2.2.2.2.1, hts⟩ hM ⟨hcb, h0, hts _ h2⟩ ⟨z_blind, fun U hU hW => ⟨rfl, z_pre hC hS hU hW, by rw [hU]; exact hH⟩⟩ rfl (by rw [List.length_map]; exact hA) hl.1 ?_ (lv_room (by rw [zcats]; exact hst)) hd ⟨by omega, by omega⟩) hS (fun r Z' I' H1 locs1 hq g1 g2 => ?_)
  · show (As.reverse ++ .ref b :: st).map (zv G) = _
    rw [List.map_append, List.map_reverse]
    rfl
  · exact z_fin hc hr hl hac has hq g1 g2
