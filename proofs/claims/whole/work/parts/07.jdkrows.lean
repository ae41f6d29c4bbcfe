theorem x_mmax {l : Launch} {G : zG} {md : zD} {d ac as pc n : Nat} {ls : List (Option Value)} {st : List Value} {Z : zS} {I : zI} {Q : Option Value → zS → zI → Prop} {idx : Nat} {x y : Int32} (hd : decode md.2.1 pc = .ok (.invokestatic idx, 3)) (hn : pc + 3 = n) (h1 : Cond.methodLink md.1.cls idx Lib.Math.max.name ∈ zT) (h2 : Cond.static Lib.Math.max.name ∈ zT) (h3 : Cond.initialized "java/lang/Math" ∈ zT) (h4 : Cond.code Lib.Math.max.name Lib.Math.max.code 2 (some .int) ∈ zT) (hd1 : 1 ≤ d) (hst : (st.map fun v => v.category).sum ≤ 8) (kk : zX l G md d ac as n ls (.int (if x < y then y else x) :: st) Z I Q) : zX l G md d ac as pc ls (.int y :: .int x :: st) Z I Q := by
  intro p e R s m args below meth c H locs cells slots lc hc hr hH hS hl
  subst hn
  have hts := hc.2.2.2.2.2.1
  exact va_mmax hc.1 hc.2.1 (by rw [hc.2.2.2.1]; exact hl.1.symm) hc.2.2.2.2.1 (hts _ h1) (hts _ h2) (hts _ h3) (hts _ h4) (by omega) (by rw [zcats]; omega) (by omega) (by omega) hd (kk p e R s m args below meth c H locs cells slots lc hc hr hH hS hl)
theorem x_mmin {l : Launch} {G : zG} {md : zD} {d ac as pc n : Nat} {ls : List (Option Value)} {st : List Value} {Z : zS} {I : zI} {Q : Option Value → zS → zI → Prop} {idx : Nat} {x y : Int32} (hd : decode md.2.1 pc = .ok (.invokestatic idx, 3)) (hn : pc + 3 = n) (h1 : Cond.methodLink md.1.cls idx Lib.Math.min.name ∈ zT) (h2 : Cond.static Lib.Math.min.name ∈ zT) (h3 : Cond.initialized "java/lang/Math" ∈ zT) (h4 : Cond.code Lib.Math.min.name Lib.Math.min.code 2 (some .int) ∈ zT) (hd1 : 1 ≤ d) (hst : (st.map fun v => v.category).sum ≤ 8) (kk : zX l G md d ac as n ls (.int (if y < x then y else x) :: st) Z I Q) : zX l G md d ac as pc ls (.int y :: .int x :: st) Z I Q := by
  intro p e R s m args below meth c H locs cells slots lc hc hr hH hS hl
  subst hn
  have hts := hc.2.2.2.2.2.1
  exact va_mmin hc.1 hc.2.1 (by rw [hc.2.2.2.1]; exact hl.1.symm) hc.2.2.2.2.1 (hts _ h1) (hts _ h2) (hts _ h3) (hts _ h4) (by omega) (by rw [zcats]; omega) (by omega) (by omega) hd (kk p e R s m args below meth c H locs cells slots lc hc hr hH hS hl)
theorem x_mabs {l : Launch} {G : zG} {md : zD} {d ac as pc n : Nat} {ls : List (Option Value)} {st : List Value} {Z : zS} {I : zI} {Q : Option Value → zS → zI → Prop} {idx : Nat} {x : Int32} (hd : decode md.2.1 pc = .ok (.invokestatic idx, 3)) (hn : pc + 3 = n) (h1 : Cond.methodLink md.1.cls idx Lib.Math.abs.name ∈ zT) (h2 : Cond.static Lib.Math.abs.name ∈ zT) (h3 : Cond.initialized "java/lang/Math" ∈ zT) (h4 : Cond.code Lib.Math.abs.name Lib.Math.abs.code 1 (some .int) ∈ zT) (hd1 : 1 ≤ d) (hst : (st.map fun v => v.category).sum ≤ 8) (kk : zX l G md d ac as n ls (.int (if 0 ≤ x then x else 0 - x) :: st) Z I Q) : zX l G md d ac as pc ls (.int x :: st) Z I Q := by
  intro p e R s m args below meth c H locs cells slots lc hc hr hH hS hl
  subst hn
  have hts := hc.2.2.2.2.2.1
  exact va_mabs hc.1 hc.2.1 (by rw [hc.2.2.2.1]; exact hl.1.symm) hc.2.2.2.2.1 (hts _ h1) (hts _ h2) (hts _ h3) (hts _ h4) (by omega) (by rw [zcats]; omega) (by omega) (by omega) hd (kk p e R s m args below meth c H locs cells slots lc hc hr hH hS hl)
/-- System.arraycopy of ints, between two rows or within one -/
theorem x_acopy {l : Launch} {G : zG} {md : zD} {d ac as pc n : Nat} {ls : List (Option Value)} {st : List Value} {Z : zS} {I : zI} {Q : Option Value → zS → zI → Prop} {idx a b N M : Nat} {sp dp k : Int32} (hd : decode md.2.1 pc = .ok (.invokestatic idx, 3)) (hn : pc + 3 = n) (h1 : Cond.methodLink md.1.cls idx arraycopyName ∈ zT) (h2 : Cond.native arraycopyName ∈ zT) (h3 : Cond.static arraycopyName ∈ zT) (h4 : Cond.initialized "java/lang/System" ∈ zT) (hd1 : 1 ≤ d) (hst : (st.map fun v => v.category).sum ≤ 8)
    (ha : za Z a 13 N) (hb : za Z b 13 M) (c1 : ¬ sp < 0) (c2 : ¬ dp < 0) (c3 : ¬ k < 0) (c4 : sp.toNatClampNeg + k.toNatClampNeg ≤ N) (c5 : dp.toNatClampNeg + k.toNatClampNeg ≤ M) (kk : zX l G md d ac as n ls st Z (va_up I b (va_cpy (I a) (I b) sp.toNatClampNeg dp.toNatClampNeg k.toNatClampNeg)) Q) : zX l G md d ac as pc ls (.int k :: .int dp :: .ref b :: .int sp :: .ref a :: st) Z I Q := by
  intro p e R s m args below meth c H locs cells slots lc hc hr hH hS hl
  subst hn
  have hts := hc.2.2.2.2.2.1
  have hK : va_K G.1 vwCl (ztys G) s := hc.2.2.2.2.2.2.2.2.2.1
  show W p l e R s m args below meth c H locs cells slots _ (F0 m pc lc (.int k :: .int dp :: .ref (zad G b) :: .int sp :: .ref (zad G a) :: st.map (zv G)))
  rw [zad_lo hH ha.1, zad_lo hH hb.1]
  have nn : ∀ z : Int32, ¬ z < 0 → z.toInt = (z.toNatClampNeg : Int) := by
    intro z hz
    have hz0 : (0 : Int) ≤ z.toInt := by
      have := Int32.not_lt.mp hz
      simpa using Int32.le_iff_toInt_le.mp this
    show z.toInt = ((z.toInt.toNat : Nat) : Int)
    omega
  intro T hT X
  have hc0 : H[G.2.1 + a]? = some (vp_cell (G.2.2.1 13) (N, .inl (I a))) := by
    have := hH.2.2 a _ (zws_at (G := G) (I := I) ha.1)
    rwa [zE_i ha.2.1 ha.2.2] at this
  have hc1 : H[G.2.1 + b]? = some (vp_cell (G.2.2.1 13) (M, .inl (I b))) := by
    have := hH.2.2 b _ (zws_at (G := G) (I := I) hb.1)
    rwa [zE_i hb.2.1 hb.2.2] at this
  obtain ⟨-, k0, hk0, cm0, hkk0⟩ := (hK.2 0 _ rfl).1 N (fun j => .int (I a j))
  obtain ⟨vm', X', step⟩ := X.arraycopy hc.1 hc.2.2.2.2.1 (hts _ h1) (hts _ h2) (hts _ h3) (hts _ h4) (src := G.2.1 + a) (dst := G.2.1 + b) (cs := vp_cell (G.2.2.1 13) (N, .inl (I a))) (cd := vp_cell (G.2.2.1 13) (M, .inl (I b))) (srcPos := sp) (destPos := dp) (n := k) (by rw [hT]; exact hc0) (by rw [hT]; exact hc1)
    (fun _ h => by cases h) (fun _ h => by cases h) (fun h => by cases h) (fun h => by cases h) hk0 hk0 hkk0 hkk0 (by simp [refKind]) c1 c2 c3
    (by rw [nn sp c1, nn k c3]; show ¬ _ > ((arrV (G.2.2.1 13) N (fun j => .int (I a j))).slots.size : Int); rw [arrV_size]; omega)
    (by rw [nn dp c2, nn k c3]; show ¬ _ > ((arrV (G.2.2.1 13) M (fun j => .int (I b j))).slots.size : Int); rw [arrV_size]; omega)
    (fun vm₁ _ i hi => by
      have e : (vp_cell (G.2.2.1 13) (N, .inl (I a))).slots.getD (sp.toNatClampNeg + i) .null = .int (I a (sp.toNatClampNeg + i)) := by
        show (arrV (G.2.2.1 13) N (fun j => .int (I a j))).slots.getD _ _ = _
        rw [Array.getD_eq_getD_getElem?, arrV_read _ _ (by omega)]
        rfl
      refine ⟨?_, ?_⟩
      · rw [e]; rfl
      · rw [e]; exact trivial)
    (g := F0 m pc lc (.int k :: .int dp :: .ref (G.2.1 + b) :: .int sp :: .ref (G.2.1 + a) :: st.map (zv G))) rfl (by rw [hc.2.2.2.1]; exact hl.1) (rest := st.map (zv G)) rfl (by rw [hc.2.1]; exact hd) (by omega) (by
      show 2 * 0 + ((st.map (zv G)).map fun v => v.category).sum + (nativeFrameWords "java/lang/System" "arraycopy" 5 + 11) ≤ R.locals
      rw [zcats]
      have : nativeFrameWords "java/lang/System" "arraycopy" 5 ≤ 40 := by decide +kernel
      omega)
  have e1 : copied (vp_cell (G.2.2.1 13) (N, .inl (I a))) (vp_cell (G.2.2.1 13) (M, .inl (I b))) sp dp k = vp_cell (G.2.2.1 13) (M, .inl (va_cpy (I a) (I b) sp.toNatClampNeg dp.toNatClampNeg k.toNatClampNeg)) := va_copied (fun z => .int z) _ _ (I a) (I b) c4
  rw [e1] at X' step
  have hlb : G.2.1 + b < H.size := (Array.getElem?_eq_some_iff.mp hc1).1
  have hheap : ((T.setVm vm').setCell (G.2.1 + b) (vp_cell (G.2.2.1 13) (M, .inl (va_cpy (I a) (I b) sp.toNatClampNeg dp.toNatClampNeg k.toNatClampNeg)))).heap = H.setIfInBounds (G.2.1 + b) (vp_cell (G.2.2.1 13) (M, .inl (va_cpy (I a) (I b) sp.toNatClampNeg dp.toNatClampNeg k.toNatClampNeg))) := by rw [← hT]; rfl
  have oq : ∀ q : Nat, q ≠ G.2.1 + b → (H.setIfInBounds (G.2.1 + b) (vp_cell (G.2.2.1 13) (M, .inl (va_cpy (I a) (I b) sp.toNatClampNeg dp.toNatClampNeg k.toNatClampNeg))))[q]? = H[q]? := fun q hq => by simp [Array.getElem?_setIfInBounds, Ne.symm hq]
  obtain ⟨g1, -⟩ := z_ast (k := 0) (Z' := Z) (I' := va_up I b (va_cpy (I a) (I b) sp.toNatClampNeg dp.toNatClampNeg k.toNatClampNeg)) hH hS hb.1 rfl (fun j hj => zE_upI hj) (by
    rw [zE_i hb.2.1 hb.2.2]
    show (H.setIfInBounds (G.2.1 + b) _)[G.2.1 + b]? = some (vp_cell _ _)
    rw [show va_up I b (va_cpy (I a) (I b) sp.toNatClampNeg dp.toNatClampNeg k.toNatClampNeg) b = va_cpy (I a) (I b) sp.toNatClampNeg dp.toNatClampNeg k.toNatClampNeg by simp [va_up]]
    simp [Array.getElem?_setIfInBounds, hlb]) (by simp) oq
  obtain ⟨t, a1, b1⟩ := kk p e R s m args below meth c _ _ cells slots lc hc hr g1 ⟨by simp; exact hS.1, fun q g1 g2 => by
      rw [oq q (fun e => g2 (by rw [e]; exact Nat.le_add_right _ _))]
      exact hS.2.1 q g1 g2, fun q hq => by
      rcases List.mem_append.mp hq with h | h
      · exact hS.2.2 q h
      · obtain ⟨z, -, hz⟩ := List.mem_map.mp h
        rw [← hz]
        exact Nat.le_add_right _ _⟩ hl _ hheap X'
  exact ⟨t, step t a1, b1⟩
/-- the script -/
theorem x_scrlen {l : Launch} {G : zG} {md : zD} {d ac as pc n : Nat} {ls : List (Option Value)} {st : List Value} {Z : zS} {I : zI} {Q : Option Value → zS → zI → Prop} (hd : decode md.2.1 pc = .ok (.arraylength, 1)) (hn : pc + 1 = n) (kk : zX l G md d ac as n ls (.int (nI G.2.2.2.2.1) :: st) Z I Q) : zX l G md d ac as pc ls (.ref 1000030 :: st) Z I Q := by
  intro p e R s m args below meth c H locs cells slots lc hc hr hH hS hl
  subst hn
  have hC := hc.2.2.2.2.2.2.2.2
  obtain ⟨-, -, -, -, -, -, -, -, -, hx, hxl, hxA⟩ := hC
  exact va_slen hc.1 hc.2.1 hx hxl hxA hS hd (kk p e R s m args below meth c H locs cells slots lc hc hr hH hS hl)
theorem x_scrld {l : Launch} {G : zG} {md : zD} {d ac as pc n : Nat} {ls : List (Option Value)} {st : List Value} {Z : zS} {I : zI} {Q : Option Value → zS → zI → Prop} {j : Nat} (hd : decode md.2.1 pc = .ok (.iaload, 1)) (hn : pc + 1 = n) (hL : G.2.2.2.2.1 < 2147483648) (hj : j < G.2.2.2.2.1) (kk : zX l G md d ac as n ls (.int (G.2.2.2.2.2 j) :: st) Z I Q) : zX l G md d ac as pc ls (.int (nI j) :: .ref 1000030 :: st) Z I Q := by
  intro p e R s m args below meth c H locs cells slots lc hc hr hH hS hl
  subst hn
  have hC := hc.2.2.2.2.2.2.2.2
  obtain ⟨-, -, -, -, -, -, -, -, -, hx, hxl, hxA⟩ := hC
  refine va_sld hc.1 hc.2.1 hx hxl hxA hS (i := nI j) (vp_in_nI hj hL) hd ?_
  rw [nI_clamp (by omega)]
  exact (kk p e R s m args below meth c H locs cells slots lc hc hr hH hS hl)
