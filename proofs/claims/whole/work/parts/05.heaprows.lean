theorem z_in {ws : List Cond} (ps : List Nat) (h : ws = ps.filterMap (fun i => tables_1[i]?)) (hg : ws.all goodWord = true) : ∀ w ∈ ws, w ∈ zT := by
  intro w hw
  have h1 := List.all_eq_true.mp hg w hw
  rw [h] at hw
  obtain ⟨i, -, hi⟩ := List.mem_filterMap.mp hw
  exact zmem i hi h1
/-- the words of the classes' fields -/
theorem zcw0 : ∀ w ∈ u_ws RX0 TX0 6, w ∈ zT := z_in [209, 211, 213, 215, 217, 219] (by decide +kernel) (by decide +kernel)
theorem zcw1 : ∀ w ∈ u_ws RX1 TX1 10, w ∈ zT := z_in [73, 75, 77, 79, 81, 83, 85, 87, 89, 91] (by decide +kernel) (by decide +kernel)
theorem zcw2 : ∀ w ∈ u_ws RX2 TX2 8, w ∈ zT := z_in [292, 294, 296, 298, 300, 302, 304, 306] (by decide +kernel) (by decide +kernel)
theorem zcw3 : ∀ w ∈ u_ws RX3 TX3 6, w ∈ zT := z_in [263, 265, 267, 269, 271, 273] (by decide +kernel) (by decide +kernel)
theorem zcw4 : ∀ w ∈ u_ws RX4 TX4 5, w ∈ zT := z_in [238, 240, 242, 244, 246] (by decide +kernel) (by decide +kernel)
theorem zcw5 : ∀ w ∈ u_ws RX5 TX5 3, w ∈ zT := z_in [366, 368, 370] (by decide +kernel) (by decide +kernel)
theorem zcw6 : ∀ w ∈ u_ws RX6 TX6 12, w ∈ zT := z_in [329, 331, 333, 335, 337, 339, 341, 343, 345, 347, 349, 351] (by decide +kernel) (by decide +kernel)
theorem zcw7 : ∀ w ∈ u_ws RX7 TX7 4, w ∈ zT := z_in [935, 937, 939, 941] (by decide +kernel) (by decide +kernel)
theorem zcw8 : ∀ w ∈ u_ws RX8 TX8 3, w ∈ zT := z_in [187, 189, 191] (by decide +kernel) (by decide +kernel)
theorem zcw9 : ∀ w ∈ u_ws RX9 TX9 8, w ∈ zT := z_in [133, 135, 137, 139, 141, 143, 145, 147] (by decide +kernel) (by decide +kernel)
theorem zcw10 : ∀ w ∈ u_ws RX10 TX10 6, w ∈ zT := z_in [162, 164, 166, 168, 170, 172] (by decide +kernel) (by decide +kernel)
theorem zcw11 : ∀ w ∈ u_ws RX11 TX11 8, w ∈ zT := z_in [381, 383, 385, 387, 389, 391, 393, 395] (by decide +kernel) (by decide +kernel)
theorem zcw12 : ∀ w ∈ u_ws RX12 TX12 36, w ∈ zT := z_in [1314, 1316, 1318, 1320, 1322, 1324, 1326, 1328, 1330, 1332, 1334, 1336, 1338, 1340, 1342, 1344, 1346, 1348, 1350, 1352, 1354, 1356, 1358, 1360, 1362, 1364, 1366, 1368, 1370, 1372, 1374, 1376, 1378, 1380, 1382, 1384] (by decide +kernel) (by decide +kernel)
theorem zcw : ∀ ci, ci < 13 → ∀ w ∈ u_ws (zCn ci) (zTT ci) (zN ci), w ∈ zT := z13 zcw0 zcw1 zcw2 zcw3 zcw4 zcw5 zcw6 zcw7 zcw8 zcw9 zcw10 zcw11 zcw12
/-- a link to a field: entry idx of class own names field k of kind ci -/
def zFl (own : String) (idx ci k : Nat) : Prop := Cond.fieldLink own idx (zTT ci k).1 (zTT ci k).2.1 (zTT ci k).2.2.1 ∈ zT ∧ ci < 13 ∧ k < zN ci
theorem zv_rf (G : zG) (r : Option Nat) : va_rf (r.map (zad G)) = zv G (va_rf r) := by cases r <;> rfl
theorem z_get {l : Launch} {G : zG} {md : zD} {d ac as pc n : Nat} {ls : List (Option Value)} {st : List Value} {Z : zS} {I : zI} {Q : Option Value → zS → zI → Prop} {a ci k idx : Nat} {v : Value} (hf : zFl md.1.cls idx ci k) (hd : decode md.2.1 pc = .ok (.getfield idx, 3)) (hn : pc + 3 = n) (hk : zk Z a ci) (hv : (if zint (zft ci k) = true then Value.int (I a k) else va_rf (Z.2.2.2 a k)) = v) (kk : zX l G md d ac as n ls (v :: st) Z I Q) : zX l G md d ac as pc ls (.ref a :: st) Z I Q := by
  intro p e R s m args below meth c H locs cells slots lc hc hr hH hS hl
  subst hn
  show W p l e R s m args below meth c H locs cells slots _ (F0 m pc lc (.ref (zad G a) :: st.map (zv G)))
  rw [zad_lo hH hk.1]
  refine va_get (D := G.1) (cl := vwCl) (tys := ztys G) (ci := ci) (C := zCn ci) (T := zTT ci) (N := zN ci) (Ts := zT) (own := md.1.cls) (ref := (zTT ci k).1) (index := idx) (v := zv G v) hc.1 hc.2.1 hc.2.2.2.2.2.1 (zcw ci hf.2.1) hc.2.2.2.2.1 hc.2.2.2.2.2.2.2.2.2.1 hH.2.2 a (fs := zfs G Z I a) (by rw [zws_at hk.1, zE_o hk.2 hf.2.1]) (zcl ci hf.2.1) k hf.2.2 (hc.2.2.2.2.2.1 _ hf.1) (fun _ h9 => h9) ?_ hd (kk p e R s m args below meth c H locs cells slots lc hc hr hH hS hl)
  rw [zfs_at hk.2 hf.2.2, ← hv]
  by_cases hz : zint (zft ci k) = true
  · rw [if_pos hz, if_pos hz]; rfl
  · rw [if_neg hz, if_neg hz, zv_rf]
/-- getfield of an int or boolean -/
theorem x_getI {l : Launch} {G : zG} {md : zD} {d ac as pc n : Nat} {ls : List (Option Value)} {st : List Value} {Z : zS} {I : zI} {Q : Option Value → zS → zI → Prop} {a ci k idx : Nat} (hf : zFl md.1.cls idx ci k) (hi : zint (zft ci k) = true) (hd : decode md.2.1 pc = .ok (.getfield idx, 3)) (hn : pc + 3 = n) (hk : zk Z a ci) (kk : zX l G md d ac as n ls (.int (I a k) :: st) Z I Q) : zX l G md d ac as pc ls (.ref a :: st) Z I Q :=
  z_get hf hd hn hk (if_pos hi) kk
/-- getfield of a reference -/
theorem x_getR {l : Launch} {G : zG} {md : zD} {d ac as pc n : Nat} {ls : List (Option Value)} {st : List Value} {Z : zS} {I : zI} {Q : Option Value → zS → zI → Prop} {a b ci k idx : Nat} (hf : zFl md.1.cls idx ci k) (hi : zint (zft ci k) = false) (hd : decode md.2.1 pc = .ok (.getfield idx, 3)) (hn : pc + 3 = n) (hk : zk Z a ci) (hb : Z.2.2.2 a k = some b) (kk : zX l G md d ac as n ls (.ref b :: st) Z I Q) : zX l G md d ac as pc ls (.ref a :: st) Z I Q :=
  z_get hf hd hn hk (by rw [if_neg (by rw [hi]; decide), hb]; rfl) kk
theorem x_getN {l : Launch} {G : zG} {md : zD} {d ac as pc n : Nat} {ls : List (Option Value)} {st : List Value} {Z : zS} {I : zI} {Q : Option Value → zS → zI → Prop} {a ci k idx : Nat} (hf : zFl md.1.cls idx ci k) (hi : zint (zft ci k) = false) (hd : decode md.2.1 pc = .ok (.getfield idx, 3)) (hn : pc + 3 = n) (hk : zk Z a ci) (hb : Z.2.2.2 a k = none) (kk : zX l G md d ac as n ls (.null :: st) Z I Q) : zX l G md d ac as pc ls (.ref a :: st) Z I Q :=
  z_get hf hd hn hk (by rw [if_neg (by rw [hi]; decide), hb]; rfl) kk
/-- any store into a field: the heap behind it -/
theorem z_put {p : Program} {l : Launch} {e : Env} {R : Room} {s : State} {m : MethodId} {args : Array Value} {below : List Frame} {meth : Method} {c : Code} {H : Heap} {locs : List Loc} {cells slots : Nat} {Qf : State → Prop} {G : zG} {md : zD} {pc : Nat} {lc : Array Slot} {rest : List Value} {Z Z' : zS} {I I' : zI} {a ci k idx : Nat} {v : Value}
    (hc : zctx G md p s m args meth c) (hH : zH G Z I H) (hS : va_S (zA G) s.heap H locs) (hf : zFl md.1.cls idx ci k) (hfin : (zTT ci k).2.2.2 = false ∨ (md.1.name = "<init>" ∧ (zTT ci k).1 = md.1.cls)) (hnar : narrow (zft ci k) v = v) (hfit : fits (zft ci k) v = true) (hd : decode md.2.1 pc = .ok (.putfield idx, 3)) (hk : zk Z a ci)
    (hn : Z'.1 = Z.1) (he : zE G Z' I' a = .inr (ci, (zfs G Z I a).set k v)) (ho : ∀ j, j ≠ a → zE G Z' I' j = zE G Z I j)
    (kk : ∀ (H1 : Heap) (locs1 : List Loc), zH G Z' I' H1 → va_S (zA G) s.heap H1 locs1 → W p l e R s m args below meth c H1 locs1 cells slots Qf (F0 m (pc + 3) lc rest)) : W p l e R s m args below meth c H locs cells slots Qf (F0 m pc lc (v :: .ref (zad G a) :: rest)) := by
  obtain ⟨hx, hb, hret, hml, hown, hts, hlocks, hname, hC⟩ := hc
  obtain ⟨hlk, h13, hkN⟩ := hf
  have hK : va_K G.1 vwCl (ztys G) s := hC.2.1
  rw [zad_lo hH hk.1]
  have hap := va_apart (own := md.1.cls) hts (zcw ci h13) (zft ci) (zcp ci h13) (zcn ci h13) hK (zcl ci h13)
  have hwe : (zws G Z I)[a]? = some (G.2.1 + a, .inr (ci, zfs G Z I a)) := by rw [zws_at hk.1, zE_o hk.2 h13]
  obtain ⟨r, h1, cell, q1, q2, q3, q4⟩ := hH.2.2 a _ hwe
  have hr : r = (zCn ci, zTT ci, zN ci) := Option.some.inj (h1.symm.trans (zcl ci h13))
  subst hr
  obtain ⟨hSl, hfc, kC, hkC, hkind⟩ := hK.1 ci _ (zcl ci h13)
  obtain ⟨cf, kf, fi, f, hi, hsl⟩ := hSl k hkN
  have hlay := hts _ ((zcw ci h13) _ (u_in_lay hkN))
  have hst := (u_facts hfc hkC (u_lays hts (zcw ci h13) hkN) hi).1
  have fin : ∀ (H' : Heap) (locs1 : List Loc), H'[G.2.1 + a]? = some (cell.setSlot f.slot v) → H'.size = H.size → (∀ q, q ≠ G.2.1 + a → H'[q]? = H[q]?) → zH G Z' I' H' ∧ va_S (zA G) s.heap H' (locs ++ [⟨G.2.1 + a, f.slot⟩]) := by
    intro H' locs1 e1 e2 e3
    rw [hsl] at e1
    have hP := hH.2.2.set zws_D hwe (e := .inr (ci, (zfs G Z I a).set k v)) ⟨_, zcl ci h13, t_OB.to (V := updV (vp_V (zfs G Z I a)) k v) ⟨_, e1, q2, q3, t_set q4 hap hkN v⟩ (fun j _ => vp_updV_set (by rw [zfs_len hk.2]; exact hkN) v j)⟩ e3
    rw [zws_set (Z' := Z') (I' := I') hn he.symm ho] at hP
    exact ⟨⟨by rw [e2, hn]; exact hH.1, by rw [hn]; exact hH.2.1, hP⟩, hS.put e2 e3 (Nat.le_add_right _ _)⟩
  rcases hfin with hfin | ⟨hin, hdecl⟩
  · by_cases hfl : (zTT ci k).2.2.2 = true
    · rw [hfin] at hfl; cases hfl
    · unfold u_lay at hlay
      rw [if_neg hfl] at hlay
      have h6 := u_store hfc hkC hkind hlay hi (zcp ci h13 k hkN) hnar hfit
      refine W.putK hx hb (f := f) ⟨hown, hts _ hlk, ⟨_, _, _, hi⟩, hst⟩ (by rw [q2]; exact h6) q1 q3 (by rw [hsl]; exact k2_hasslot (q4 k hkN)) rfl rfl hd fun H' e1 e2 e3 => ?_
      obtain ⟨g1, g2⟩ := fin H' locs e1 e2 e3
      exact kk H' _ g1 g2
  · by_cases hfl : (zTT ci k).2.2.2 = true
    · unfold u_lay at hlay
      rw [if_pos hfl] at hlay
      have hcf : m.cls = cf := by
        obtain ⟨_, _, c', _, _, _, -, -, hf', -, -, -, hown2, -⟩ := Cond.laysFinal_spec hlay
        have e1 : c' = cf := by have := hi.symm.trans hf'; simp at this; exact this.1.symm
        rw [hdecl] at hown2
        rw [← e1]; exact Option.some.inj (hown.symm.trans hown2)
      have h6 := u_fits hfc hkC hkind (Or.inr hlay) hi (zcp ci h13 k hkN) hnar hfit
      refine W.putFinK hx hb hown (hts _ hlk) hi hst hcf (hname.trans hin) (by rw [q2]; exact h6) q1 q3 (by rw [hsl]; exact k2_hasslot (q4 k hkN)) rfl rfl hd fun H' e1 e2 e3 => ?_
      obtain ⟨g1, g2⟩ := fin H' locs e1 e2 e3
      exact kk H' _ g1 g2
    · unfold u_lay at hlay
      rw [if_neg hfl] at hlay
      have h6 := u_store hfc hkC hkind hlay hi (zcp ci h13 k hkN) hnar hfit
      refine W.putK hx hb (f := f) ⟨hown, hts _ hlk, ⟨_, _, _, hi⟩, hst⟩ (by rw [q2]; exact h6) q1 q3 (by rw [hsl]; exact k2_hasslot (q4 k hkN)) rfl rfl hd fun H' e1 e2 e3 => ?_
      obtain ⟨g1, g2⟩ := fin H' locs e1 e2 e3
      exact kk H' _ g1 g2
/-- putfield of an int or boolean -/
theorem x_putI {l : Launch} {G : zG} {md : zD} {d ac as pc n : Nat} {ls : List (Option Value)} {st : List Value} {Z : zS} {I : zI} {Q : Option Value → zS → zI → Prop} {a ci k idx : Nat} {x : Int32} (hf : zFl md.1.cls idx ci k) (hi : zint (zft ci k) = true) (hfin : (zTT ci k).2.2.2 = false ∨ (md.1.name = "<init>" ∧ (zTT ci k).1 = md.1.cls)) (hnar : narrow (zft ci k) (.int x) = .int x) (hfit : fits (zft ci k) (.int x) = true) (hd : decode md.2.1 pc = .ok (.putfield idx, 3)) (hn : pc + 3 = n) (hk : zk Z a ci) (kk : zX l G md d ac as n ls st Z (va_up I a (upd (I a) k x)) Q) : zX l G md d ac as pc ls (.int x :: .ref a :: st) Z I Q := by
  intro p e R s m args below meth c H locs cells slots lc hc hr hH hS hl
  subst hn
  exact z_put (v := .int x) hc hH hS hf hfin hnar hfit hd hk rfl (by rw [zE_o hk.2 hf.2.1, zfs_setI hk.2 hi]) (fun j hj => zE_upI hj) (fun H1 locs1 g1 g2 => kk p e R s m args below meth c H1 locs1 cells slots lc hc hr g1 g2 hl)
/-- putfield of a reference, or of null -/
theorem x_putQ {l : Launch} {G : zG} {md : zD} {d ac as pc n : Nat} {ls : List (Option Value)} {st : List Value} {Z : zS} {I : zI} {Q : Option Value → zS → zI → Prop} {a ci k idx : Nat} {v : Option Nat} (hf : zFl md.1.cls idx ci k) (hi : zint (zft ci k) = false) (hfin : (zTT ci k).2.2.2 = false ∨ (md.1.name = "<init>" ∧ (zTT ci k).1 = md.1.cls)) (hty : ∀ q, narrow (zft ci k) (va_rf q) = va_rf q ∧ fits (zft ci k) (va_rf q) = true) (hd : decode md.2.1 pc = .ok (.putfield idx, 3)) (hn : pc + 3 = n) (hk : zk Z a ci) (kk : zX l G md d ac as n ls st (Z.1, Z.2.1, Z.2.2.1, va_up Z.2.2.2 a (va_up (Z.2.2.2 a) k v)) I Q) : zX l G md d ac as pc ls (va_rf v :: .ref a :: st) Z I Q := by
  intro p e R s m args below meth c H locs cells slots lc hc hr hH hS hl
  subst hn
  show W p l e R s m args below meth c H locs cells slots _ (F0 m pc lc (zv G (va_rf v) :: .ref (zad G a) :: st.map (zv G)))
  rw [← zv_rf]
  refine z_put (Z' := (Z.1, Z.2.1, Z.2.2.1, va_up Z.2.2.2 a (va_up (Z.2.2.2 a) k v))) (I' := I) hc hH hS hf hfin (hty _).1 (hty _).2 hd hk rfl ?_ (fun j hj => zE_upP hj) (fun H1 locs1 g1 g2 => kk p e R s m args below meth c H1 locs1 cells slots lc hc hr g1 g2 hl)
  rw [zE_o (show ((Z.1, Z.2.1, Z.2.2.1, va_up Z.2.2.2 a (va_up (Z.2.2.2 a) k v)) : zS).2.1 a = ci from hk.2) hf.2.1, ← zfs_setP (G := G) (n := Z.1) (L := Z.2.2.1) (I := I) (K := Z.2.1) (P := Z.2.2.2) (v := v) hk.2 hi]
theorem x_putR {l : Launch} {G : zG} {md : zD} {d ac as pc n : Nat} {ls : List (Option Value)} {st : List Value} {Z : zS} {I : zI} {Q : Option Value → zS → zI → Prop} {a b ci k idx : Nat} (hf : zFl md.1.cls idx ci k) (hi : zint (zft ci k) = false) (hfin : (zTT ci k).2.2.2 = false ∨ (md.1.name = "<init>" ∧ (zTT ci k).1 = md.1.cls)) (hty : ∀ q, narrow (zft ci k) (va_rf q) = va_rf q ∧ fits (zft ci k) (va_rf q) = true) (hd : decode md.2.1 pc = .ok (.putfield idx, 3)) (hn : pc + 3 = n) (hk : zk Z a ci) (kk : zX l G md d ac as n ls st (Z.1, Z.2.1, Z.2.2.1, va_up Z.2.2.2 a (va_up (Z.2.2.2 a) k (some b))) I Q) : zX l G md d ac as pc ls (.ref b :: .ref a :: st) Z I Q :=
  x_putQ (v := some b) hf hi hfin hty hd hn hk kk
/-- iaload -/
theorem x_iald {l : Launch} {G : zG} {md : zD} {d ac as pc n : Nat} {ls : List (Option Value)} {st : List Value} {Z : zS} {I : zI} {Q : Option Value → zS → zI → Prop} {a N : Nat} {i : Int32} (hd : decode md.2.1 pc = .ok (.iaload, 1)) (hn : pc + 1 = n) (ha : za Z a 13 N) (hin : vp_in i N) (kk : zX l G md d ac as n ls (.int (I a i.toNatClampNeg) :: st) Z I Q) : zX l G md d ac as pc ls (.int i :: .ref a :: st) Z I Q := by
  intro p e R s m args below meth c H locs cells slots lc hc hr hH hS hl
  subst hn
  show W p l e R s m args below meth c H locs cells slots _ (F0 m pc lc (.int i :: .ref (zad G a) :: st.map (zv G)))
  rw [zad_lo hH ha.1]
  exact va_iald hc.1 hc.2.1 hc.2.2.2.2.2.2.2.2.2.1 hH.2.2 a 0 (by rw [zws_at ha.1, zE_i ha.2.1 ha.2.2]) rfl hin hd (kk p e R s m args below meth c H locs cells slots lc hc hr hH hS hl)
/-- baload of booleans -/
theorem x_zald {l : Launch} {G : zG} {md : zD} {d ac as pc n : Nat} {ls : List (Option Value)} {st : List Value} {Z : zS} {I : zI} {Q : Option Value → zS → zI → Prop} {a N : Nat} {i : Int32} (hd : decode md.2.1 pc = .ok (.baload, 1)) (hn : pc + 1 = n) (ha : za Z a 14 N) (hin : vp_in i N) (kk : zX l G md d ac as n ls (.int (I a i.toNatClampNeg) :: st) Z I Q) : zX l G md d ac as pc ls (.int i :: .ref a :: st) Z I Q := by
  intro p e R s m args below meth c H locs cells slots lc hc hr hH hS hl
  subst hn
  show W p l e R s m args below meth c H locs cells slots _ (F0 m pc lc (.int i :: .ref (zad G a) :: st.map (zv G)))
  rw [zad_lo hH ha.1]
  exact va_zald hc.1 hc.2.1 hc.2.2.2.2.2.2.2.2.2.1 hH.2.2 a 1 (by rw [zws_at ha.1, zE_z ha.2.1 ha.2.2]) rfl hin hd (kk p e R s m args below meth c H locs cells slots lc hc hr hH hS hl)
def ztyn (ci : Nat) : String := if ci = 15 then "LineMaking$Survey" else if ci = 16 then "LineMaking$Text" else "LineMaking$Work"
theorem ztys_at {G : zG} {ci : Nat} (h : 15 ≤ ci) (h2 : ci < 18) : (ztys G)[ci - 13]? = some (G.2.2.1 ci, .object (ztyn ci)) := by
  rcases (by omega : ci = 15 ∨ ci = 16 ∨ ci = 17) with rfl | rfl | rfl <;> rfl
/-- aaload -/
theorem x_aaldQ {l : Launch} {G : zG} {md : zD} {d ac as pc n : Nat} {ls : List (Option Value)} {st : List Value} {Z : zS} {I : zI} {Q : Option Value → zS → zI → Prop} {a ci N : Nat} {i : Int32} {v : Value} (hd : decode md.2.1 pc = .ok (.aaload, 1)) (hn : pc + 1 = n) (ha : za Z a ci N) (hci : 15 ≤ ci ∧ ci < 18) (hin : vp_in i N) (hv : va_rf (Z.2.2.2 a i.toNatClampNeg) = v) (kk : zX l G md d ac as n ls (v :: st) Z I Q) : zX l G md d ac as pc ls (.int i :: .ref a :: st) Z I Q := by
  intro p e R s m args below meth c H locs cells slots lc hc hr hH hS hl
  subst hn
  subst hv
  show W p l e R s m args below meth c H locs cells slots _ (F0 m pc lc (.int i :: .ref (zad G a) :: st.map (zv G)))
  rw [zad_lo hH ha.1]
  refine va_aldq hc.1 hc.2.1 hc.2.2.2.2.2.2.2.2.2.1 hH.2.2 a (ci - 13) (C := ztyn ci) (by rw [zws_at ha.1, zE_q ha.2.1 hci.1 ha.2.2]) (ztys_at hci.1 hci.2) hin hd ?_
  rw [zv_rf]
  exact (kk p e R s m args below meth c H locs cells slots lc hc hr hH hS hl)
theorem x_aald {l : Launch} {G : zG} {md : zD} {d ac as pc n : Nat} {ls : List (Option Value)} {st : List Value} {Z : zS} {I : zI} {Q : Option Value → zS → zI → Prop} {a b ci N : Nat} {i : Int32} (hd : decode md.2.1 pc = .ok (.aaload, 1)) (hn : pc + 1 = n) (ha : za Z a ci N) (hci : 15 ≤ ci ∧ ci < 18) (hin : vp_in i N) (hv : Z.2.2.2 a i.toNatClampNeg = some b) (kk : zX l G md d ac as n ls (.ref b :: st) Z I Q) : zX l G md d ac as pc ls (.int i :: .ref a :: st) Z I Q :=
  x_aaldQ hd hn ha hci hin (by rw [hv]; rfl) kk
/-- arraylength -/
theorem x_alen {l : Launch} {G : zG} {md : zD} {d ac as pc n : Nat} {ls : List (Option Value)} {st : List Value} {Z : zS} {I : zI} {Q : Option Value → zS → zI → Prop} {a ci N : Nat} {v : Int32} (hd : decode md.2.1 pc = .ok (.arraylength, 1)) (hn : pc + 1 = n) (ha : za Z a ci N) (hci : 13 ≤ ci ∧ ci < 18) (hv : Int32.ofNat N = v) (kk : zX l G md d ac as n ls (.int v :: st) Z I Q) : zX l G md d ac as pc ls (.ref a :: st) Z I Q := by
  intro p e R s m args below meth c H locs cells slots lc hc hr hH hS hl
  subst hn
  show W p l e R s m args below meth c H locs cells slots _ (F0 m pc lc (.ref (zad G a) :: st.map (zv G)))
  rw [zad_lo hH ha.1]
  by_cases h15 : 15 ≤ ci
  · exact va_alen hc.1 hc.2.1 hc.2.2.2.2.2.2.2.2.2.1 hH.2.2 a (ci - 13) (by rw [zws_at ha.1, zE_q ha.2.1 h15 ha.2.2]) (ztys_at h15 hci.2) hv hd (kk p e R s m args below meth c H locs cells slots lc hc hr hH hS hl)
  · rcases (by omega : ci = 13 ∨ ci = 14) with rfl | rfl
    · exact va_alen hc.1 hc.2.1 hc.2.2.2.2.2.2.2.2.2.1 hH.2.2 a 0 (by rw [zws_at ha.1, zE_i ha.2.1 ha.2.2]) (ty := .int) rfl hv hd (kk p e R s m args below meth c H locs cells slots lc hc hr hH hS hl)
    · exact va_alen hc.1 hc.2.1 hc.2.2.2.2.2.2.2.2.2.1 hH.2.2 a 1 (by rw [zws_at ha.1, zE_z ha.2.1 ha.2.2]) (ty := .boolean) rfl hv hd (kk p e R s m args below meth c H locs cells slots lc hc hr hH hS hl)
/-- behind a store into an array -/
theorem z_ast {G : zG} {Z Z' : zS} {I I' : zI} {H H1 : Heap} {s : State} {locs : List Loc} {a k : Nat} (hH : zH G Z I H) (hS : va_S (zA G) s.heap H locs) (hk : a < Z.1) (hn : Z'.1 = Z.1) (ho : ∀ j, j ≠ a → zE G Z' I' j = zE G Z I j) (e1 : va_at G.1 vwCl (G.2.1 + a, zE G Z' I' a) H1) (e2 : H1.size = H.size) (e3 : ∀ q : Nat, q ≠ G.2.1 + a → H1[q]? = H[q]?) : zH G Z' I' H1 ∧ va_S (zA G) s.heap H1 (locs ++ [⟨G.2.1 + a, k⟩]) := by
  have hP := hH.2.2.set zws_D (zws_at (G := G) (I := I) hk) (e := zE G Z' I' a) e1 e3
  rw [zws_set (Z' := Z') (I' := I') hn rfl ho] at hP
  exact ⟨⟨by rw [e2, hn]; exact hH.1, by rw [hn]; exact hH.2.1, hP⟩, hS.put e2 e3 (Nat.le_add_right _ _)⟩
/-- iastore -/
theorem x_iast {l : Launch} {G : zG} {md : zD} {d ac as pc n : Nat} {ls : List (Option Value)} {st : List Value} {Z : zS} {I : zI} {Q : Option Value → zS → zI → Prop} {a N : Nat} {i x : Int32} (hd : decode md.2.1 pc = .ok (.iastore, 1)) (hn : pc + 1 = n) (ha : za Z a 13 N) (hin : vp_in i N) (kk : zX l G md d ac as n ls st Z (va_up I a (upd (I a) i.toNatClampNeg x)) Q) : zX l G md d ac as pc ls (.int x :: .int i :: .ref a :: st) Z I Q := by
  intro p e R s m args below meth c H locs cells slots lc hc hr hH hS hl
  subst hn
  show W p l e R s m args below meth c H locs cells slots _ (F0 m pc lc (.int x :: .int i :: .ref (zad G a) :: st.map (zv G)))
  rw [zad_lo hH ha.1]
  have hcell : H[G.2.1 + a]? = some (vp_cell (G.2.2.1 13) (N, .inl (I a))) := by
    have := hH.2.2 a _ (zws_at (G := G) (I := I) ha.1)
    rwa [zE_i ha.2.1 ha.2.2] at this
  refine W.iast hc.1 hc.2.1 hcell ((hc.2.2.2.2.2.2.2.2.2.1.2 0 _ rfl).1 N (fun j => .int (I a j))) (fun q => by cases q) (by show ¬ (i < 0 ∨ (arrV _ _ _).slots.size ≤ _); rw [arrV_size]; exact hin) rfl rfl hd fun H1 e1 e2 e3 => ?_
  obtain ⟨g1, g2⟩ := z_ast (k := i.toNatClampNeg) (Z' := Z) (I' := va_up I a (upd (I a) i.toNatClampNeg x)) hH hS ha.1 rfl (fun j hj => zE_upI hj) (by
    rw [zE_i ha.2.1 ha.2.2]
    show H1[G.2.1 + a]? = some (vp_cell _ _)
    rw [e1, vp_cell_i, vp_cell_i, arrV_store]
    congr 2
    funext q
    by_cases hq : q = i.toNatClampNeg
    · subst hq
      simp [updV, upd, va_up]
    · simp [updV, upd, va_up, hq]) e2 e3
  exact kk p e R s m args below meth c H1 _ cells slots lc hc hr g1 g2 hl
/-- bastore of booleans 0 or 1 -/
theorem x_zast {l : Launch} {G : zG} {md : zD} {d ac as pc n : Nat} {ls : List (Option Value)} {st : List Value} {Z : zS} {I : zI} {Q : Option Value → zS → zI → Prop} {a N : Nat} {i x : Int32} (hd : decode md.2.1 pc = .ok (.bastore, 1)) (hn : pc + 1 = n) (ha : za Z a 14 N) (hin : vp_in i N) (hx : vp_nar .boolean x = x) (kk : zX l G md d ac as n ls st Z (va_up I a (upd (I a) i.toNatClampNeg x)) Q) : zX l G md d ac as pc ls (.int x :: .int i :: .ref a :: st) Z I Q := by
  intro p e R s m args below meth c H locs cells slots lc hc hr hH hS hl
  subst hn
  show W p l e R s m args below meth c H locs cells slots _ (F0 m pc lc (.int x :: .int i :: .ref (zad G a) :: st.map (zv G)))
  rw [zad_lo hH ha.1]
  have hcell : H[G.2.1 + a]? = some (vp_cell (G.2.2.1 14) (N, .inl (I a))) := by
    have := hH.2.2 a _ (zws_at (G := G) (I := I) ha.1)
    rwa [zE_z ha.2.1 ha.2.2] at this
  refine W.zast hc.1 hc.2.1 hcell ((hc.2.2.2.2.2.2.2.2.2.1.2 1 _ rfl).1 N (fun j => .int (I a j))) (fun q => by cases q) (by show ¬ (i < 0 ∨ (arrV _ _ _).slots.size ≤ _); rw [arrV_size]; exact hin) rfl rfl hd fun H1 e1 e2 e3 => ?_
  obtain ⟨g1, g2⟩ := z_ast (k := i.toNatClampNeg) (Z' := Z) (I' := va_up I a (upd (I a) i.toNatClampNeg x)) hH hS ha.1 rfl (fun j hj => zE_upI hj) (by
    rw [zE_z ha.2.1 ha.2.2]
    show H1[G.2.1 + a]? = some (vp_cell _ _)
    rw [e1, vp_cell_i, vp_cell_i, arrV_store]
    congr 2
    funext q
    by_cases hq : q = i.toNatClampNeg
    · subst hq
      have h9 : narrow .boolean (.int x) = .int x := by
        have := hx
        unfold vp_nar at this
        revert this
        simp [narrow]
      simp [updV, upd, va_up, h9]
    · simp [updV, upd, va_up, hq]) e2 e3
  exact kk p e R s m args below meth c H1 _ cells slots lc hc hr g1 g2 hl
/-- aastore of an object of the row's kind -/
theorem x_aast {l : Launch} {G : zG} {md : zD} {d ac as pc n : Nat} {ls : List (Option Value)} {st : List Value} {Z : zS} {I : zI} {Q : Option Value → zS → zI → Prop} {a b ci cb N : Nat} {i : Int32} (hd : decode md.2.1 pc = .ok (.aastore, 1)) (hn : pc + 1 = n) (ha : za Z a ci N) (hci : 15 ≤ ci ∧ ci < 18) (hb : zk Z b cb) (hcb : cb < 13) (hcn : zCn cb = ztyn ci) (hin : vp_in i N) (kk : zX l G md d ac as n ls st (Z.1, Z.2.1, Z.2.2.1, va_up Z.2.2.2 a (va_up (Z.2.2.2 a) i.toNatClampNeg (some b))) I Q) : zX l G md d ac as pc ls (.ref b :: .int i :: .ref a :: st) Z I Q := by
  intro p e R s m args below meth c H locs cells slots lc hc hr hH hS hl
  subst hn
  show W p l e R s m args below meth c H locs cells slots _ (F0 m pc lc (.ref (zad G b) :: .int i :: .ref (zad G a) :: st.map (zv G)))
  have hK : va_K G.1 vwCl (ztys G) s := hc.2.2.2.2.2.2.2.2.2.1
  have hlt : i.toNatClampNeg < N := Nat.not_le.mp fun q => hin (Or.inr q)
  have h0 : ¬ i < 0 := fun q => hin (Or.inl q)
  have hbl := zad_lo hH hb.1
  rw [zad_lo hH ha.1]
  have hcell : H[G.2.1 + a]? = some (vp_cell (G.2.2.1 ci) (N, .inr (.inr (.inr (.inr (fun j => (Z.2.2.2 a j).map (zad G))))))) := by
    have := hH.2.2 a _ (zws_at (G := G) (I := I) ha.1)
    rwa [zE_q ha.2.1 hci.1 ha.2.2] at this
  have hbc := hH.2.2 b _ (zws_at (G := G) (I := I) hb.1)
  rw [zE_o hb.2 hcb] at hbc
  obtain ⟨r', hr', cellV, g1, g2, g3, -⟩ := hbc
  have hcls := (hK.1 cb _ (zcl cb hcb)).2
  obtain ⟨kA, comp, k1, k2, k3, -⟩ := (hK.2 (ci - 13) _ (ztys_at hci.1 hci.2)).2
  have hcomp : comp = G.1.1 cb := Option.some.inj (k3.symm.trans (by rw [← hcn]; exact hcls.1))
  subst hcomp
  obtain ⟨kC, hkC, -⟩ := hcls.2
  rw [hbl]
  refine W.aast hc.1 hc.2.1 hcell (fun q h => by cases h) (fun h => by cases h) k1 k2 rfl hkC ⟨h0, by show _ < (arrV _ _ _).slots.size; rw [arrV_size]; exact hlt⟩ g1 (fun q h => by rw [g3] at h; cases h) (by rw [g2]; exact hkC) (by rw [g2]; exact va_assign hcls) rfl rfl hd fun H1 e1 e2 e3 => ?_
  obtain ⟨g1, g2⟩ := z_ast (k := i.toNatClampNeg) (Z' := (Z.1, Z.2.1, Z.2.2.1, va_up Z.2.2.2 a (va_up (Z.2.2.2 a) i.toNatClampNeg (some b)))) (I' := I) hH hS ha.1 rfl (fun j hj => zE_upP hj) (by
    rw [zE_q (show ((Z.1, Z.2.1, Z.2.2.1, va_up Z.2.2.2 a (va_up (Z.2.2.2 a) i.toNatClampNeg (some b))) : zS).2.1 a = ci from ha.2.1) hci.1 ha.2.2]
    show H1[G.2.1 + a]? = some (vp_cell _ _)
    rw [e1, vp_cell_q, vp_cell_q, arrV_store]
    congr 2
    funext q
    by_cases hq : q = i.toNatClampNeg
    · subst hq
      simp [updV, va_up, va_rf, hbl]
    · simp [updV, va_up, hq]) e2 e3
  exact kk p e R s m args below meth c H1 _ cells slots lc hc hr g1 g2 hl
