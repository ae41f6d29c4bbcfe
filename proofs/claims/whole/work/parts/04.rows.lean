/-! ===== lists and places ===== -/
def zCn (ci : Nat) : String := match ci with
  | 0 => RX0
  | 1 => RX1
  | 2 => RX2
  | 3 => RX3
  | 4 => RX4
  | 5 => RX5
  | 6 => RX6
  | 7 => RX7
  | 8 => RX8
  | 9 => RX9
  | 10 => RX10
  | 11 => RX11
  | _ => RX12
def zTT (ci : Nat) : u_T := match ci with
  | 0 => TX0
  | 1 => TX1
  | 2 => TX2
  | 3 => TX3
  | 4 => TX4
  | 5 => TX5
  | 6 => TX6
  | 7 => TX7
  | 8 => TX8
  | 9 => TX9
  | 10 => TX10
  | 11 => TX11
  | _ => TX12
theorem z13 {P : Nat → Prop} (h0 : P 0) (h1 : P 1) (h2 : P 2) (h3 : P 3) (h4 : P 4) (h5 : P 5) (h6 : P 6) (h7 : P 7) (h8 : P 8) (h9 : P 9) (h10 : P 10) (h11 : P 11) (h12 : P 12) : ∀ ci, ci < 13 → P ci := by
  intro ci h
  match ci, h with
  | 0, _ => exact h0
  | 1, _ => exact h1
  | 2, _ => exact h2
  | 3, _ => exact h3
  | 4, _ => exact h4
  | 5, _ => exact h5
  | 6, _ => exact h6
  | 7, _ => exact h7
  | 8, _ => exact h8
  | 9, _ => exact h9
  | 10, _ => exact h10
  | 11, _ => exact h11
  | 12, _ => exact h12
  | n + 13, h => exact absurd h (by omega)
theorem zcl : ∀ ci, ci < 13 → vwCl[ci]? = some (zCn ci, zTT ci, zN ci) := z13 rfl rfl rfl rfl rfl rfl rfl rfl rfl rfl rfl rfl rfl
theorem zcp : ∀ ci, ci < 13 → ∀ k, k < zN ci → parseFieldDescriptor (zTT ci k).2.2.1 = some (zft ci k) := z13 tyX0_ok tyX1_ok tyX2_ok tyX3_ok tyX4_ok tyX5_ok tyX6_ok tyX7_ok tyX8_ok tyX9_ok tyX10_ok tyX11_ok tyX12_ok
theorem zcn : ∀ ci, ci < 13 → ∀ a, a < zN ci → ∀ b, b < zN ci → a ≠ b → (zTT ci a).2.1 ≠ (zTT ci b).2.1 := z13 nmX0 nmX1 nmX2 nmX3 nmX4 nmX5 nmX6 nmX7 nmX8 nmX9 nmX10 nmX11 nmX12
theorem zmem {w : Cond} (i : Nat) (h : tables_1[i]? = some w) (hg : goodWord w = true) : w ∈ zT := List.mem_filter.mpr ⟨List.mem_append_right _ (List.mem_of_getElem? h), hg⟩
theorem zmemP {q : MethodName × Nat} (h : q ∈ lw_privs) : Cond.selects q.1.cls q.1 q.1 ∈ zT := List.mem_filter.mpr ⟨List.mem_append_left _ (List.mem_map.mpr ⟨q, h, rfl⟩), rfl⟩
theorem zws_at {G : zG} {Z : zS} {I : zI} {k : Nat} (h : k < Z.1) : (zws G Z I)[k]? = some (G.2.1 + k, zE G Z I k) := by
  simp [zws, h]
theorem zws_inv {G : zG} {Z : zS} {I : zI} {k : Nat} {q : Nat × va_E} (h : (zws G Z I)[k]? = some q) : k < Z.1 ∧ q = (G.2.1 + k, zE G Z I k) := by
  have hk : k < Z.1 := by
    have := (List.getElem?_eq_some_iff.mp h).1
    simpa [zws] using this
  rw [zws_at hk] at h
  exact ⟨hk, (Option.some.inj h).symm⟩
theorem zws_D {G : zG} {Z : zS} {I : zI} : va_D (zA G) (zws G Z I) := by
  refine ⟨fun i j p q hi hj e => ?_, fun k q hk => ?_⟩
  · obtain ⟨-, rfl⟩ := zws_inv hi
    obtain ⟨-, rfl⟩ := zws_inv hj
    exact Nat.add_left_cancel e
  · obtain ⟨-, rfl⟩ := zws_inv hk
    exact Nat.le_add_right _ _
theorem zws_set {G : zG} {Z Z' : zS} {I I' : zI} {k : Nat} {e : va_E} (hn : Z'.1 = Z.1) (he : e = zE G Z' I' k) (h : ∀ j, j ≠ k → zE G Z' I' j = zE G Z I j) : (zws G Z I).set k (G.2.1 + k, e) = zws G Z' I' := by
  apply List.ext_getElem?
  intro j
  by_cases hj : j < Z.1
  · rw [zws_at (Z := Z') (by rw [hn]; exact hj)]
    by_cases hjk : j = k
    · subst hjk
      rw [List.getElem?_set_self (by simpa [zws] using hj), he]
    · rw [List.getElem?_set_ne (Ne.symm hjk), zws_at hj, h j hjk]
  · rw [List.getElem?_eq_none (by simpa [zws] using hj), List.getElem?_eq_none (by simpa [zws, hn] using hj)]
theorem zws_push {G : zG} {Z Z' : zS} {I I' : zI} {e : va_E} (hn : Z'.1 = Z.1 + 1) (he : e = zE G Z' I' Z.1) (h : ∀ j, j < Z.1 → zE G Z' I' j = zE G Z I j) : zws G Z I ++ [(G.2.1 + Z.1, e)] = zws G Z' I' := by
  unfold zws
  rw [hn, List.range_succ, List.map_append]
  congr 1
  · apply List.map_congr_left
    intro j hj
    rw [h j (List.mem_range.mp hj)]
  · rw [he]; rfl
/-- a place that is an object of kind ci -/
def zk (Z : zS) (a ci : Nat) : Prop := a < Z.1 ∧ Z.2.1 a = ci
/-- a place that is an array of kind ci with n places -/
def za (Z : zS) (a ci n : Nat) : Prop := a < Z.1 ∧ Z.2.1 a = ci ∧ Z.2.2.1 a = n
theorem zad_lo {G : zG} {Z : zS} {I : zI} {H : Heap} {a : Nat} (hH : zH G Z I H) (h : a < Z.1) : zad G a = G.2.1 + a := by
  have := hH.2.1
  exact if_pos (by omega)
theorem zE_o {G : zG} {Z : zS} {I : zI} {a ci : Nat} (h : Z.2.1 a = ci) (hc : ci < 13) : zE G Z I a = .inr (ci, zfs G Z I a) := by
  unfold zE
  rw [if_pos (by rw [h]; exact hc), h]
theorem zE_i {G : zG} {Z : zS} {I : zI} {a n : Nat} (h : Z.2.1 a = 13) (hn : Z.2.2.1 a = n) : zE G Z I a = .inl (G.2.2.1 13, n, .inl (I a)) := by
  unfold zE
  rw [if_neg (by rw [h]; omega), if_pos (by rw [h]; omega), h, hn]
theorem zE_z {G : zG} {Z : zS} {I : zI} {a n : Nat} (h : Z.2.1 a = 14) (hn : Z.2.2.1 a = n) : zE G Z I a = .inl (G.2.2.1 14, n, .inl (I a)) := by
  unfold zE
  rw [if_neg (by rw [h]; omega), if_pos (by rw [h]; omega), h, hn]
theorem zE_q {G : zG} {Z : zS} {I : zI} {a ci n : Nat} (h : Z.2.1 a = ci) (hc : 15 ≤ ci) (hn : Z.2.2.1 a = n) : zE G Z I a = .inl (G.2.2.1 ci, n, .inr (.inr (.inr (.inr (fun j => (Z.2.2.2 a j).map (zad G)))))) := by
  unfold zE
  rw [if_neg (by rw [h]; omega), if_neg (by rw [h]; omega), h, hn]
theorem zfs_at {G : zG} {Z : zS} {I : zI} {a ci k : Nat} (h : Z.2.1 a = ci) (hk : k < zN ci) : (zfs G Z I a)[k]? = some (if zint (zft ci k) = true then Value.int (I a k) else va_rf ((Z.2.2.2 a k).map (zad G))) := by
  unfold zfs
  rw [h]
  simp [hk]
theorem zfs_len {G : zG} {Z : zS} {I : zI} {a ci : Nat} (h : Z.2.1 a = ci) : (zfs G Z I a).length = zN ci := by
  simp [zfs, h]
theorem zfs_setI {G : zG} {Z : zS} {I : zI} {a ci k : Nat} {x : Int32} (h : Z.2.1 a = ci) (hi : zint (zft ci k) = true) : (zfs G Z I a).set k (.int x) = zfs G Z (va_up I a (upd (I a) k x)) a := by
  apply List.ext_getElem?
  intro j
  by_cases hj : j < zN ci
  · rw [zfs_at h hj]
    by_cases hjk : j = k
    · subst hjk
      rw [List.getElem?_set_self (by rw [zfs_len h]; exact hj), if_pos hi]
      simp [va_up, upd]
    · rw [List.getElem?_set_ne (Ne.symm hjk), zfs_at h hj]
      simp [va_up, upd, hjk]
  · rw [List.getElem?_eq_none (by rw [List.length_set, zfs_len h]; omega), List.getElem?_eq_none (by rw [zfs_len h]; omega)]
theorem zE_upI {G : zG} {Z : zS} {I : zI} {a j : Nat} {f : Nat → Int32} (h : j ≠ a) : zE G Z (va_up I a f) j = zE G Z I j := by
  simp [zE, zfs, va_up, h]
theorem zE_upP {G : zG} {n : Nat} {K L : Nat → Nat} {P : Nat → Nat → Option Nat} {I : zI} {a j : Nat} {f : Nat → Option Nat} (h : j ≠ a) : zE G (n, K, L, va_up P a f) I j = zE G (n, K, L, P) I j := by
  simp [zE, zfs, va_up, h]
theorem zfs_setP {G : zG} {n : Nat} {K L : Nat → Nat} {P : Nat → Nat → Option Nat} {I : zI} {a ci k : Nat} {v : Option Nat} (h : K a = ci) (hi : zint (zft ci k) = false) : (zfs G (n, K, L, P) I a).set k (va_rf (v.map (zad G))) = zfs G (n, K, L, va_up P a (va_up (P a) k v)) I a := by
  have h' : ∀ P, ((n, K, L, P) : zS).2.1 a = ci := fun _ => h
  apply List.ext_getElem?
  intro j
  by_cases hj : j < zN ci
  · rw [zfs_at (h' _) hj]
    by_cases hjk : j = k
    · subst hjk
      rw [List.getElem?_set_self (by rw [zfs_len (h' _)]; exact hj), if_neg (by rw [hi]; decide)]
      simp [va_up]
    · rw [List.getElem?_set_ne (Ne.symm hjk), zfs_at (h' _) hj]
      simp [va_up, hjk]
  · rw [List.getElem?_eq_none (by rw [List.length_set, zfs_len (h' _)]; omega), List.getElem?_eq_none (by rw [zfs_len (h' _)]; omega)]
theorem zvm (G : zG) (v : Value) : (zv G v).category = v.category := by cases v <;> rfl
theorem zcats (G : zG) (st : List Value) : ((st.map (zv G)).map fun v => v.category).sum = (st.map fun v => v.category).sum := by
  rw [List.map_map]
  congr 1
  exact List.map_congr_left (fun v _ => zvm G v)

theorem x_iconst {l : Launch} {G : zG} {md : zD} {d ac as pc n : Nat} {ls : List (Option Value)} {st : List Value} {Z : zS} {I : zI} {Q : Option Value → zS → zI → Prop} {k : Int} {v : Int32} (hd : decode md.2.1 pc = .ok (.iconst k, 1)) (hn : pc + 1 = n) (hv : Int32.ofInt k = v) (kk : zX l G md d ac as n ls (.int v :: st) Z I Q) : zX l G md d ac as pc ls st Z I Q := by
  intro p e R s m args below meth c H locs cells slots lc hc hr hH hS hl
  subst hn
  exact lv_iconst hc.1 hc.2.1 hd hv (kk p e R s m args below meth c H locs cells slots lc hc hr hH hS hl)
theorem x_bipush {l : Launch} {G : zG} {md : zD} {d ac as pc n : Nat} {ls : List (Option Value)} {st : List Value} {Z : zS} {I : zI} {Q : Option Value → zS → zI → Prop} {k : Int} {v : Int32} (hd : decode md.2.1 pc = .ok (.bipush k, 2)) (hn : pc + 2 = n) (hv : (Int8.ofInt k).toInt32 = v) (kk : zX l G md d ac as n ls (.int v :: st) Z I Q) : zX l G md d ac as pc ls st Z I Q := by
  intro p e R s m args below meth c H locs cells slots lc hc hr hH hS hl
  subst hn
  exact lv_bipush hc.1 hc.2.1 hd hv (kk p e R s m args below meth c H locs cells slots lc hc hr hH hS hl)
theorem x_sipush {l : Launch} {G : zG} {md : zD} {d ac as pc n : Nat} {ls : List (Option Value)} {st : List Value} {Z : zS} {I : zI} {Q : Option Value → zS → zI → Prop} {k : Int} {v : Int32} (hd : decode md.2.1 pc = .ok (.sipush k, 3)) (hn : pc + 3 = n) (hv : (Int16.ofInt k).toInt32 = v) (kk : zX l G md d ac as n ls (.int v :: st) Z I Q) : zX l G md d ac as pc ls st Z I Q := by
  intro p e R s m args below meth c H locs cells slots lc hc hr hH hS hl
  subst hn
  exact lv_sipush hc.1 hc.2.1 hd hv (kk p e R s m args below meth c H locs cells slots lc hc hr hH hS hl)
theorem x_lconst {l : Launch} {G : zG} {md : zD} {d ac as pc n : Nat} {ls : List (Option Value)} {st : List Value} {Z : zS} {I : zI} {Q : Option Value → zS → zI → Prop} {k : Fin 2} {v : Int64} (hd : decode md.2.1 pc = .ok (.lconst k, 1)) (hn : pc + 1 = n) (hv : Int64.ofNat (k : Nat) = v) (kk : zX l G md d ac as n ls (.long v :: st) Z I Q) : zX l G md d ac as pc ls st Z I Q := by
  intro p e R s m args below meth c H locs cells slots lc hc hr hH hS hl
  subst hn
  exact lv_lconst hc.1 hc.2.1 hd hv (kk p e R s m args below meth c H locs cells slots lc hc hr hH hS hl)
theorem x_ldc {l : Launch} {G : zG} {md : zD} {d ac as pc n : Nat} {ls : List (Option Value)} {st : List Value} {Z : zS} {I : zI} {Q : Option Value → zS → zI → Prop} {k : Nat} {v : Int32} (hd : decode md.2.1 pc = .ok (.ldc k, 2)) (hn : pc + 2 = n) (hw : Cond.constant md.1.cls k v ∈ zT) (kk : zX l G md d ac as n ls (.int v :: st) Z I Q) : zX l G md d ac as pc ls st Z I Q := by
  intro p e R s m args below meth c H locs cells slots lc hc hr hH hS hl
  subst hn
  exact lv_ldc hc.1 hc.2.1 hc.2.2.2.2.1 (hc.2.2.2.2.2.1 _ hw) hd (kk p e R s m args below meth c H locs cells slots lc hc hr hH hS hl)
theorem x_ldcw {l : Launch} {G : zG} {md : zD} {d ac as pc n : Nat} {ls : List (Option Value)} {st : List Value} {Z : zS} {I : zI} {Q : Option Value → zS → zI → Prop} {k : Nat} {v : Int32} (hd : decode md.2.1 pc = .ok (.ldc_w k, 3)) (hn : pc + 3 = n) (hw : Cond.constant md.1.cls k v ∈ zT) (kk : zX l G md d ac as n ls (.int v :: st) Z I Q) : zX l G md d ac as pc ls st Z I Q := by
  intro p e R s m args below meth c H locs cells slots lc hc hr hH hS hl
  subst hn
  exact lv_ldcw hc.1 hc.2.1 hc.2.2.2.2.1 (hc.2.2.2.2.2.1 _ hw) hd (kk p e R s m args below meth c H locs cells slots lc hc hr hH hS hl)
theorem x_ldc2 {l : Launch} {G : zG} {md : zD} {d ac as pc n : Nat} {ls : List (Option Value)} {st : List Value} {Z : zS} {I : zI} {Q : Option Value → zS → zI → Prop} {k : Nat} {v : Int64} (hd : decode md.2.1 pc = .ok (.ldc2_w k, 3)) (hn : pc + 3 = n) (hw : Cond.constantLong md.1.cls k v ∈ zT) (kk : zX l G md d ac as n ls (.long v :: st) Z I Q) : zX l G md d ac as pc ls st Z I Q := by
  intro p e R s m args below meth c H locs cells slots lc hc hr hH hS hl
  subst hn
  exact lv_ldc2 hc.1 hc.2.1 hc.2.2.2.2.1 (hc.2.2.2.2.2.1 _ hw) hd (kk p e R s m args below meth c H locs cells slots lc hc hr hH hS hl)
theorem x_null {l : Launch} {G : zG} {md : zD} {d ac as pc n : Nat} {ls : List (Option Value)} {st : List Value} {Z : zS} {I : zI} {Q : Option Value → zS → zI → Prop}  (hd : decode md.2.1 pc = .ok (.aconst_null, 1)) (hn : pc + 1 = n)  (kk : zX l G md d ac as n ls (.null :: st) Z I Q) : zX l G md d ac as pc ls st Z I Q := by
  intro p e R s m args below meth c H locs cells slots lc hc hr hH hS hl
  subst hn
  exact lv_null hc.1 hc.2.1 hd (kk p e R s m args below meth c H locs cells slots lc hc hr hH hS hl)
theorem x_iadd {l : Launch} {G : zG} {md : zD} {d ac as pc n : Nat} {ls : List (Option Value)} {st : List Value} {Z : zS} {I : zI} {Q : Option Value → zS → zI → Prop} {x y : Int32} (hd : decode md.2.1 pc = .ok (.iadd, 1)) (hn : pc + 1 = n)  (kk : zX l G md d ac as n ls (.int (x + y) :: st) Z I Q) : zX l G md d ac as pc ls (.int y :: .int x :: st) Z I Q := by
  intro p e R s m args below meth c H locs cells slots lc hc hr hH hS hl
  subst hn
  exact lv_iadd hc.1 hc.2.1 hd (kk p e R s m args below meth c H locs cells slots lc hc hr hH hS hl)
theorem x_isub {l : Launch} {G : zG} {md : zD} {d ac as pc n : Nat} {ls : List (Option Value)} {st : List Value} {Z : zS} {I : zI} {Q : Option Value → zS → zI → Prop} {x y : Int32} (hd : decode md.2.1 pc = .ok (.isub, 1)) (hn : pc + 1 = n)  (kk : zX l G md d ac as n ls (.int (x - y) :: st) Z I Q) : zX l G md d ac as pc ls (.int y :: .int x :: st) Z I Q := by
  intro p e R s m args below meth c H locs cells slots lc hc hr hH hS hl
  subst hn
  exact lv_isub hc.1 hc.2.1 hd (kk p e R s m args below meth c H locs cells slots lc hc hr hH hS hl)
theorem x_imul {l : Launch} {G : zG} {md : zD} {d ac as pc n : Nat} {ls : List (Option Value)} {st : List Value} {Z : zS} {I : zI} {Q : Option Value → zS → zI → Prop} {x y : Int32} (hd : decode md.2.1 pc = .ok (.imul, 1)) (hn : pc + 1 = n)  (kk : zX l G md d ac as n ls (.int (x * y) :: st) Z I Q) : zX l G md d ac as pc ls (.int y :: .int x :: st) Z I Q := by
  intro p e R s m args below meth c H locs cells slots lc hc hr hH hS hl
  subst hn
  exact lv_imul hc.1 hc.2.1 hd (kk p e R s m args below meth c H locs cells slots lc hc hr hH hS hl)
theorem x_iand {l : Launch} {G : zG} {md : zD} {d ac as pc n : Nat} {ls : List (Option Value)} {st : List Value} {Z : zS} {I : zI} {Q : Option Value → zS → zI → Prop} {x y : Int32} (hd : decode md.2.1 pc = .ok (.iand, 1)) (hn : pc + 1 = n)  (kk : zX l G md d ac as n ls (.int (x &&& y) :: st) Z I Q) : zX l G md d ac as pc ls (.int y :: .int x :: st) Z I Q := by
  intro p e R s m args below meth c H locs cells slots lc hc hr hH hS hl
  subst hn
  exact lv_iand hc.1 hc.2.1 hd (kk p e R s m args below meth c H locs cells slots lc hc hr hH hS hl)
theorem x_ior {l : Launch} {G : zG} {md : zD} {d ac as pc n : Nat} {ls : List (Option Value)} {st : List Value} {Z : zS} {I : zI} {Q : Option Value → zS → zI → Prop} {x y : Int32} (hd : decode md.2.1 pc = .ok (.ior, 1)) (hn : pc + 1 = n)  (kk : zX l G md d ac as n ls (.int (x ||| y) :: st) Z I Q) : zX l G md d ac as pc ls (.int y :: .int x :: st) Z I Q := by
  intro p e R s m args below meth c H locs cells slots lc hc hr hH hS hl
  subst hn
  exact lv_ior hc.1 hc.2.1 hd (kk p e R s m args below meth c H locs cells slots lc hc hr hH hS hl)
theorem x_ixor {l : Launch} {G : zG} {md : zD} {d ac as pc n : Nat} {ls : List (Option Value)} {st : List Value} {Z : zS} {I : zI} {Q : Option Value → zS → zI → Prop} {x y : Int32} (hd : decode md.2.1 pc = .ok (.ixor, 1)) (hn : pc + 1 = n)  (kk : zX l G md d ac as n ls (.int (x ^^^ y) :: st) Z I Q) : zX l G md d ac as pc ls (.int y :: .int x :: st) Z I Q := by
  intro p e R s m args below meth c H locs cells slots lc hc hr hH hS hl
  subst hn
  exact lv_ixor hc.1 hc.2.1 hd (kk p e R s m args below meth c H locs cells slots lc hc hr hH hS hl)
theorem x_ishl {l : Launch} {G : zG} {md : zD} {d ac as pc n : Nat} {ls : List (Option Value)} {st : List Value} {Z : zS} {I : zI} {Q : Option Value → zS → zI → Prop} {x y : Int32} (hd : decode md.2.1 pc = .ok (.ishl, 1)) (hn : pc + 1 = n)  (kk : zX l G md d ac as n ls (.int (x <<< (y &&& 31)) :: st) Z I Q) : zX l G md d ac as pc ls (.int y :: .int x :: st) Z I Q := by
  intro p e R s m args below meth c H locs cells slots lc hc hr hH hS hl
  subst hn
  exact lv_ishl hc.1 hc.2.1 hd (kk p e R s m args below meth c H locs cells slots lc hc hr hH hS hl)
theorem x_ishr {l : Launch} {G : zG} {md : zD} {d ac as pc n : Nat} {ls : List (Option Value)} {st : List Value} {Z : zS} {I : zI} {Q : Option Value → zS → zI → Prop} {x y : Int32} (hd : decode md.2.1 pc = .ok (.ishr, 1)) (hn : pc + 1 = n)  (kk : zX l G md d ac as n ls (.int (x >>> (y &&& 31)) :: st) Z I Q) : zX l G md d ac as pc ls (.int y :: .int x :: st) Z I Q := by
  intro p e R s m args below meth c H locs cells slots lc hc hr hH hS hl
  subst hn
  exact lv_ishr hc.1 hc.2.1 hd (kk p e R s m args below meth c H locs cells slots lc hc hr hH hS hl)
theorem x_iushr {l : Launch} {G : zG} {md : zD} {d ac as pc n : Nat} {ls : List (Option Value)} {st : List Value} {Z : zS} {I : zI} {Q : Option Value → zS → zI → Prop} {x y : Int32} (hd : decode md.2.1 pc = .ok (.iushr, 1)) (hn : pc + 1 = n)  (kk : zX l G md d ac as n ls (.int (x.toUInt32 >>> (y.toUInt32 &&& Int32.toUInt32 31)).toInt32 :: st) Z I Q) : zX l G md d ac as pc ls (.int y :: .int x :: st) Z I Q := by
  intro p e R s m args below meth c H locs cells slots lc hc hr hH hS hl
  subst hn
  exact lv_iushr hc.1 hc.2.1 hd rfl (kk p e R s m args below meth c H locs cells slots lc hc hr hH hS hl)
theorem x_idiv {l : Launch} {G : zG} {md : zD} {d ac as pc n : Nat} {ls : List (Option Value)} {st : List Value} {Z : zS} {I : zI} {Q : Option Value → zS → zI → Prop} {x y : Int32} (hd : decode md.2.1 pc = .ok (.idiv, 1)) (hn : pc + 1 = n) (hz : ¬ y = 0) (kk : zX l G md d ac as n ls (.int (x / y) :: st) Z I Q) : zX l G md d ac as pc ls (.int y :: .int x :: st) Z I Q := by
  intro p e R s m args below meth c H locs cells slots lc hc hr hH hS hl
  subst hn
  exact lv_idiv hc.1 hc.2.1 hd hz (kk p e R s m args below meth c H locs cells slots lc hc hr hH hS hl)
theorem x_irem {l : Launch} {G : zG} {md : zD} {d ac as pc n : Nat} {ls : List (Option Value)} {st : List Value} {Z : zS} {I : zI} {Q : Option Value → zS → zI → Prop} {x y : Int32} (hd : decode md.2.1 pc = .ok (.irem, 1)) (hn : pc + 1 = n) (hz : ¬ y = 0) (kk : zX l G md d ac as n ls (.int (x - x / y * y) :: st) Z I Q) : zX l G md d ac as pc ls (.int y :: .int x :: st) Z I Q := by
  intro p e R s m args below meth c H locs cells slots lc hc hr hH hS hl
  subst hn
  exact lv_irem hc.1 hc.2.1 hd hz (kk p e R s m args below meth c H locs cells slots lc hc hr hH hS hl)
theorem x_ineg {l : Launch} {G : zG} {md : zD} {d ac as pc n : Nat} {ls : List (Option Value)} {st : List Value} {Z : zS} {I : zI} {Q : Option Value → zS → zI → Prop} {x : Int32} (hd : decode md.2.1 pc = .ok (.ineg, 1)) (hn : pc + 1 = n)  (kk : zX l G md d ac as n ls (.int (-x) :: st) Z I Q) : zX l G md d ac as pc ls (.int x :: st) Z I Q := by
  intro p e R s m args below meth c H locs cells slots lc hc hr hH hS hl
  subst hn
  exact lv_ineg hc.1 hc.2.1 hd (kk p e R s m args below meth c H locs cells slots lc hc hr hH hS hl)
theorem x_ladd {l : Launch} {G : zG} {md : zD} {d ac as pc n : Nat} {ls : List (Option Value)} {st : List Value} {Z : zS} {I : zI} {Q : Option Value → zS → zI → Prop} {x y : Int64} (hd : decode md.2.1 pc = .ok (.ladd, 1)) (hn : pc + 1 = n)  (kk : zX l G md d ac as n ls (.long (x + y) :: st) Z I Q) : zX l G md d ac as pc ls (.long y :: .long x :: st) Z I Q := by
  intro p e R s m args below meth c H locs cells slots lc hc hr hH hS hl
  subst hn
  exact lv_ladd hc.1 hc.2.1 hd (kk p e R s m args below meth c H locs cells slots lc hc hr hH hS hl)
theorem x_i2l {l : Launch} {G : zG} {md : zD} {d ac as pc n : Nat} {ls : List (Option Value)} {st : List Value} {Z : zS} {I : zI} {Q : Option Value → zS → zI → Prop} {x : Int32} (hd : decode md.2.1 pc = .ok (.i2l, 1)) (hn : pc + 1 = n)  (kk : zX l G md d ac as n ls (.long x.toInt64 :: st) Z I Q) : zX l G md d ac as pc ls (.int x :: st) Z I Q := by
  intro p e R s m args below meth c H locs cells slots lc hc hr hH hS hl
  subst hn
  exact lv_i2l hc.1 hc.2.1 hd rfl (kk p e R s m args below meth c H locs cells slots lc hc hr hH hS hl)
theorem x_i2s {l : Launch} {G : zG} {md : zD} {d ac as pc n : Nat} {ls : List (Option Value)} {st : List Value} {Z : zS} {I : zI} {Q : Option Value → zS → zI → Prop} {x : Int32} (hd : decode md.2.1 pc = .ok (.i2s, 1)) (hn : pc + 1 = n)  (kk : zX l G md d ac as n ls (.int x.toInt16.toInt32 :: st) Z I Q) : zX l G md d ac as pc ls (.int x :: st) Z I Q := by
  intro p e R s m args below meth c H locs cells slots lc hc hr hH hS hl
  subst hn
  exact lv_i2s hc.1 hc.2.1 hd rfl (kk p e R s m args below meth c H locs cells slots lc hc hr hH hS hl)
theorem x_i2b {l : Launch} {G : zG} {md : zD} {d ac as pc n : Nat} {ls : List (Option Value)} {st : List Value} {Z : zS} {I : zI} {Q : Option Value → zS → zI → Prop} {x : Int32} (hd : decode md.2.1 pc = .ok (.i2b, 1)) (hn : pc + 1 = n)  (kk : zX l G md d ac as n ls (.int x.toInt8.toInt32 :: st) Z I Q) : zX l G md d ac as pc ls (.int x :: st) Z I Q := by
  intro p e R s m args below meth c H locs cells slots lc hc hr hH hS hl
  subst hn
  exact lv_i2b hc.1 hc.2.1 hd rfl (kk p e R s m args below meth c H locs cells slots lc hc hr hH hS hl)
theorem x_i2c {l : Launch} {G : zG} {md : zD} {d ac as pc n : Nat} {ls : List (Option Value)} {st : List Value} {Z : zS} {I : zI} {Q : Option Value → zS → zI → Prop} {x : Int32} (hd : decode md.2.1 pc = .ok (.i2c, 1)) (hn : pc + 1 = n)  (kk : zX l G md d ac as n ls (.int (x.toUInt32 % 65536).toInt32 :: st) Z I Q) : zX l G md d ac as pc ls (.int x :: st) Z I Q := by
  intro p e R s m args below meth c H locs cells slots lc hc hr hH hS hl
  subst hn
  exact lv_i2c hc.1 hc.2.1 hd rfl (kk p e R s m args below meth c H locs cells slots lc hc hr hH hS hl)
theorem x_dup {l : Launch} {G : zG} {md : zD} {d ac as pc n : Nat} {ls : List (Option Value)} {st : List Value} {Z : zS} {I : zI} {Q : Option Value → zS → zI → Prop} {v : Value} (hd : decode md.2.1 pc = .ok (.dup, 1)) (hn : pc + 1 = n) (hv : v.category = 1) (kk : zX l G md d ac as n ls (v :: v :: st) Z I Q) : zX l G md d ac as pc ls (v :: st) Z I Q := by
  intro p e R s m args below meth c H locs cells slots lc hc hr hH hS hl
  subst hn
  exact lv_dup hc.1 hc.2.1 hd (by rw [zvm]; exact hv) (kk p e R s m args below meth c H locs cells slots lc hc hr hH hS hl)
theorem x_pop {l : Launch} {G : zG} {md : zD} {d ac as pc n : Nat} {ls : List (Option Value)} {st : List Value} {Z : zS} {I : zI} {Q : Option Value → zS → zI → Prop} {v : Value} (hd : decode md.2.1 pc = .ok (.pop, 1)) (hn : pc + 1 = n) (hv : v.category = 1) (kk : zX l G md d ac as n ls st Z I Q) : zX l G md d ac as pc ls (v :: st) Z I Q := by
  intro p e R s m args below meth c H locs cells slots lc hc hr hH hS hl
  subst hn
  exact lv_pop hc.1 hc.2.1 hd (by rw [zvm]; exact hv) (kk p e R s m args below meth c H locs cells slots lc hc hr hH hS hl)
theorem x_dup_x1 {l : Launch} {G : zG} {md : zD} {d ac as pc n : Nat} {ls : List (Option Value)} {st : List Value} {Z : zS} {I : zI} {Q : Option Value → zS → zI → Prop} {v u : Value} (hd : decode md.2.1 pc = .ok (.dup_x1, 1)) (hn : pc + 1 = n) (hv : v.category = 1) (hu : u.category = 1) (kk : zX l G md d ac as n ls (v :: u :: v :: st) Z I Q) : zX l G md d ac as pc ls (v :: u :: st) Z I Q := by
  intro p e R s m args below meth c H locs cells slots lc hc hr hH hS hl
  subst hn
  exact lv_dup_x1 hc.1 hc.2.1 hd (by rw [zvm]; exact hv) (by rw [zvm]; exact hu) (kk p e R s m args below meth c H locs cells slots lc hc hr hH hS hl)
theorem x_dup2 {l : Launch} {G : zG} {md : zD} {d ac as pc n : Nat} {ls : List (Option Value)} {st : List Value} {Z : zS} {I : zI} {Q : Option Value → zS → zI → Prop} {v u : Value} (hd : decode md.2.1 pc = .ok (.dup2, 1)) (hn : pc + 1 = n) (hv : v.category = 1) (hu : u.category = 1) (kk : zX l G md d ac as n ls (v :: u :: v :: u :: st) Z I Q) : zX l G md d ac as pc ls (v :: u :: st) Z I Q := by
  intro p e R s m args below meth c H locs cells slots lc hc hr hH hS hl
  subst hn
  exact lv_dup2_11 hc.1 hc.2.1 hd (by rw [zvm]; exact hv) (by rw [zvm]; exact hu) (kk p e R s m args below meth c H locs cells slots lc hc hr hH hS hl)
theorem x_lcmp {l : Launch} {G : zG} {md : zD} {d ac as pc n : Nat} {ls : List (Option Value)} {st : List Value} {Z : zS} {I : zI} {Q : Option Value → zS → zI → Prop} {x y : Int64} (hd : decode md.2.1 pc = .ok (.lcmp, 1)) (hn : pc + 1 = n) (kk : zX l G md d ac as n ls (.int (lg_cmp x y) :: st) Z I Q) : zX l G md d ac as pc ls (.long y :: .long x :: st) Z I Q := by
  intro p e R s m args below meth c H locs cells slots lc hc hr hH hS hl
  subst hn
  exact W.lcmp hc.1 hc.2.1 hd (kk p e R s m args below meth c H locs cells slots lc hc hr hH hS hl)
theorem x_if_eq {l : Launch} {G : zG} {md : zD} {d ac as pc n tgt : Nat} {ls : List (Option Value)} {st : List Value} {Z : zS} {I : zI} {Q : Option Value → zS → zI → Prop} {x : Int32} {off : Int} (hd : decode md.2.1 pc = .ok (.ifCond .eq off, 3)) (hn : pc + 3 = n) (ht : (pc : Int) + off = (tgt : Int)) (k1 : x = 0 → zX l G md d ac as tgt ls st Z I Q) (k2 : ¬ (x = 0) → zX l G md d ac as n ls st Z I Q) : zX l G md d ac as pc ls (.int x :: st) Z I Q := by
  intro p e R s m args below meth c H locs cells slots lc hc hr hH hS hl
  subst hn
  exact lv_if_eq hc.1 hc.2.1 hd ht (fun h => k1 h p e R s m args below meth c H locs cells slots lc hc hr hH hS hl) (fun h => k2 h p e R s m args below meth c H locs cells slots lc hc hr hH hS hl)
theorem x_icmp_eq {l : Launch} {G : zG} {md : zD} {d ac as pc n tgt : Nat} {ls : List (Option Value)} {st : List Value} {Z : zS} {I : zI} {Q : Option Value → zS → zI → Prop} {x y : Int32} {off : Int} (hd : decode md.2.1 pc = .ok (.if_icmp .eq off, 3)) (hn : pc + 3 = n) (ht : (pc : Int) + off = (tgt : Int)) (k1 : x = y → zX l G md d ac as tgt ls st Z I Q) (k2 : ¬ (x = y) → zX l G md d ac as n ls st Z I Q) : zX l G md d ac as pc ls (.int y :: .int x :: st) Z I Q := by
  intro p e R s m args below meth c H locs cells slots lc hc hr hH hS hl
  subst hn
  exact lv_icmp_eq hc.1 hc.2.1 hd ht (fun h => k1 h p e R s m args below meth c H locs cells slots lc hc hr hH hS hl) (fun h => k2 h p e R s m args below meth c H locs cells slots lc hc hr hH hS hl)
theorem x_if_ne {l : Launch} {G : zG} {md : zD} {d ac as pc n tgt : Nat} {ls : List (Option Value)} {st : List Value} {Z : zS} {I : zI} {Q : Option Value → zS → zI → Prop} {x : Int32} {off : Int} (hd : decode md.2.1 pc = .ok (.ifCond .ne off, 3)) (hn : pc + 3 = n) (ht : (pc : Int) + off = (tgt : Int)) (k1 : ¬ x = 0 → zX l G md d ac as tgt ls st Z I Q) (k2 : x = 0 → zX l G md d ac as n ls st Z I Q) : zX l G md d ac as pc ls (.int x :: st) Z I Q := by
  intro p e R s m args below meth c H locs cells slots lc hc hr hH hS hl
  subst hn
  exact lv_if_ne hc.1 hc.2.1 hd ht (fun h => k1 h p e R s m args below meth c H locs cells slots lc hc hr hH hS hl) (fun h => k2 h p e R s m args below meth c H locs cells slots lc hc hr hH hS hl)
theorem x_icmp_ne {l : Launch} {G : zG} {md : zD} {d ac as pc n tgt : Nat} {ls : List (Option Value)} {st : List Value} {Z : zS} {I : zI} {Q : Option Value → zS → zI → Prop} {x y : Int32} {off : Int} (hd : decode md.2.1 pc = .ok (.if_icmp .ne off, 3)) (hn : pc + 3 = n) (ht : (pc : Int) + off = (tgt : Int)) (k1 : ¬ x = y → zX l G md d ac as tgt ls st Z I Q) (k2 : x = y → zX l G md d ac as n ls st Z I Q) : zX l G md d ac as pc ls (.int y :: .int x :: st) Z I Q := by
  intro p e R s m args below meth c H locs cells slots lc hc hr hH hS hl
  subst hn
  exact lv_icmp_ne hc.1 hc.2.1 hd ht (fun h => k1 h p e R s m args below meth c H locs cells slots lc hc hr hH hS hl) (fun h => k2 h p e R s m args below meth c H locs cells slots lc hc hr hH hS hl)
theorem x_if_lt {l : Launch} {G : zG} {md : zD} {d ac as pc n tgt : Nat} {ls : List (Option Value)} {st : List Value} {Z : zS} {I : zI} {Q : Option Value → zS → zI → Prop} {x : Int32} {off : Int} (hd : decode md.2.1 pc = .ok (.ifCond .lt off, 3)) (hn : pc + 3 = n) (ht : (pc : Int) + off = (tgt : Int)) (k1 : x < 0 → zX l G md d ac as tgt ls st Z I Q) (k2 : ¬ (x < 0) → zX l G md d ac as n ls st Z I Q) : zX l G md d ac as pc ls (.int x :: st) Z I Q := by
  intro p e R s m args below meth c H locs cells slots lc hc hr hH hS hl
  subst hn
  exact lv_if_lt hc.1 hc.2.1 hd ht (fun h => k1 h p e R s m args below meth c H locs cells slots lc hc hr hH hS hl) (fun h => k2 h p e R s m args below meth c H locs cells slots lc hc hr hH hS hl)
theorem x_icmp_lt {l : Launch} {G : zG} {md : zD} {d ac as pc n tgt : Nat} {ls : List (Option Value)} {st : List Value} {Z : zS} {I : zI} {Q : Option Value → zS → zI → Prop} {x y : Int32} {off : Int} (hd : decode md.2.1 pc = .ok (.if_icmp .lt off, 3)) (hn : pc + 3 = n) (ht : (pc : Int) + off = (tgt : Int)) (k1 : x < y → zX l G md d ac as tgt ls st Z I Q) (k2 : ¬ (x < y) → zX l G md d ac as n ls st Z I Q) : zX l G md d ac as pc ls (.int y :: .int x :: st) Z I Q := by
  intro p e R s m args below meth c H locs cells slots lc hc hr hH hS hl
  subst hn
  exact lv_icmp_lt hc.1 hc.2.1 hd ht (fun h => k1 h p e R s m args below meth c H locs cells slots lc hc hr hH hS hl) (fun h => k2 h p e R s m args below meth c H locs cells slots lc hc hr hH hS hl)
theorem x_if_ge {l : Launch} {G : zG} {md : zD} {d ac as pc n tgt : Nat} {ls : List (Option Value)} {st : List Value} {Z : zS} {I : zI} {Q : Option Value → zS → zI → Prop} {x : Int32} {off : Int} (hd : decode md.2.1 pc = .ok (.ifCond .ge off, 3)) (hn : pc + 3 = n) (ht : (pc : Int) + off = (tgt : Int)) (k1 : 0 ≤ x → zX l G md d ac as tgt ls st Z I Q) (k2 : ¬ (0 ≤ x) → zX l G md d ac as n ls st Z I Q) : zX l G md d ac as pc ls (.int x :: st) Z I Q := by
  intro p e R s m args below meth c H locs cells slots lc hc hr hH hS hl
  subst hn
  exact lv_if_ge hc.1 hc.2.1 hd ht (fun h => k1 h p e R s m args below meth c H locs cells slots lc hc hr hH hS hl) (fun h => k2 h p e R s m args below meth c H locs cells slots lc hc hr hH hS hl)
theorem x_icmp_ge {l : Launch} {G : zG} {md : zD} {d ac as pc n tgt : Nat} {ls : List (Option Value)} {st : List Value} {Z : zS} {I : zI} {Q : Option Value → zS → zI → Prop} {x y : Int32} {off : Int} (hd : decode md.2.1 pc = .ok (.if_icmp .ge off, 3)) (hn : pc + 3 = n) (ht : (pc : Int) + off = (tgt : Int)) (k1 : y ≤ x → zX l G md d ac as tgt ls st Z I Q) (k2 : ¬ (y ≤ x) → zX l G md d ac as n ls st Z I Q) : zX l G md d ac as pc ls (.int y :: .int x :: st) Z I Q := by
  intro p e R s m args below meth c H locs cells slots lc hc hr hH hS hl
  subst hn
  exact lv_icmp_ge hc.1 hc.2.1 hd ht (fun h => k1 h p e R s m args below meth c H locs cells slots lc hc hr hH hS hl) (fun h => k2 h p e R s m args below meth c H locs cells slots lc hc hr hH hS hl)
theorem x_if_gt {l : Launch} {G : zG} {md : zD} {d ac as pc n tgt : Nat} {ls : List (Option Value)} {st : List Value} {Z : zS} {I : zI} {Q : Option Value → zS → zI → Prop} {x : Int32} {off : Int} (hd : decode md.2.1 pc = .ok (.ifCond .gt off, 3)) (hn : pc + 3 = n) (ht : (pc : Int) + off = (tgt : Int)) (k1 : 0 < x → zX l G md d ac as tgt ls st Z I Q) (k2 : ¬ (0 < x) → zX l G md d ac as n ls st Z I Q) : zX l G md d ac as pc ls (.int x :: st) Z I Q := by
  intro p e R s m args below meth c H locs cells slots lc hc hr hH hS hl
  subst hn
  exact lv_if_gt hc.1 hc.2.1 hd ht (fun h => k1 h p e R s m args below meth c H locs cells slots lc hc hr hH hS hl) (fun h => k2 h p e R s m args below meth c H locs cells slots lc hc hr hH hS hl)
theorem x_icmp_gt {l : Launch} {G : zG} {md : zD} {d ac as pc n tgt : Nat} {ls : List (Option Value)} {st : List Value} {Z : zS} {I : zI} {Q : Option Value → zS → zI → Prop} {x y : Int32} {off : Int} (hd : decode md.2.1 pc = .ok (.if_icmp .gt off, 3)) (hn : pc + 3 = n) (ht : (pc : Int) + off = (tgt : Int)) (k1 : y < x → zX l G md d ac as tgt ls st Z I Q) (k2 : ¬ (y < x) → zX l G md d ac as n ls st Z I Q) : zX l G md d ac as pc ls (.int y :: .int x :: st) Z I Q := by
  intro p e R s m args below meth c H locs cells slots lc hc hr hH hS hl
  subst hn
  exact lv_icmp_gt hc.1 hc.2.1 hd ht (fun h => k1 h p e R s m args below meth c H locs cells slots lc hc hr hH hS hl) (fun h => k2 h p e R s m args below meth c H locs cells slots lc hc hr hH hS hl)
theorem x_if_le {l : Launch} {G : zG} {md : zD} {d ac as pc n tgt : Nat} {ls : List (Option Value)} {st : List Value} {Z : zS} {I : zI} {Q : Option Value → zS → zI → Prop} {x : Int32} {off : Int} (hd : decode md.2.1 pc = .ok (.ifCond .le off, 3)) (hn : pc + 3 = n) (ht : (pc : Int) + off = (tgt : Int)) (k1 : x ≤ 0 → zX l G md d ac as tgt ls st Z I Q) (k2 : ¬ (x ≤ 0) → zX l G md d ac as n ls st Z I Q) : zX l G md d ac as pc ls (.int x :: st) Z I Q := by
  intro p e R s m args below meth c H locs cells slots lc hc hr hH hS hl
  subst hn
  exact lv_if_le hc.1 hc.2.1 hd ht (fun h => k1 h p e R s m args below meth c H locs cells slots lc hc hr hH hS hl) (fun h => k2 h p e R s m args below meth c H locs cells slots lc hc hr hH hS hl)
theorem x_icmp_le {l : Launch} {G : zG} {md : zD} {d ac as pc n tgt : Nat} {ls : List (Option Value)} {st : List Value} {Z : zS} {I : zI} {Q : Option Value → zS → zI → Prop} {x y : Int32} {off : Int} (hd : decode md.2.1 pc = .ok (.if_icmp .le off, 3)) (hn : pc + 3 = n) (ht : (pc : Int) + off = (tgt : Int)) (k1 : x ≤ y → zX l G md d ac as tgt ls st Z I Q) (k2 : ¬ (x ≤ y) → zX l G md d ac as n ls st Z I Q) : zX l G md d ac as pc ls (.int y :: .int x :: st) Z I Q := by
  intro p e R s m args below meth c H locs cells slots lc hc hr hH hS hl
  subst hn
  exact lv_icmp_le hc.1 hc.2.1 hd ht (fun h => k1 h p e R s m args below meth c H locs cells slots lc hc hr hH hS hl) (fun h => k2 h p e R s m args below meth c H locs cells slots lc hc hr hH hS hl)
theorem x_goto {l : Launch} {G : zG} {md : zD} {d ac as pc n : Nat} {ls : List (Option Value)} {st : List Value} {Z : zS} {I : zI} {Q : Option Value → zS → zI → Prop} {off : Int} (hd : decode md.2.1 pc = .ok (.goto off, 3)) (ht : (pc : Int) + off = (n : Int)) (kk : zX l G md d ac as n ls st Z I Q) : zX l G md d ac as pc ls st Z I Q := by
  intro p e R s m args below meth c H locs cells slots lc hc hr hH hS hl
  exact lv_goto hc.1 hc.2.1 hd ht (kk p e R s m args below meth c H locs cells slots lc hc hr hH hS hl)
theorem x_ifnull {l : Launch} {G : zG} {md : zD} {d ac as pc n : Nat} {ls : List (Option Value)} {st : List Value} {Z : zS} {I : zI} {Q : Option Value → zS → zI → Prop} {a : Nat} {off : Int} (hd : decode md.2.1 pc = .ok (.ifnull off, 3)) (hn : pc + 3 = n) (kk : zX l G md d ac as n ls st Z I Q) : zX l G md d ac as pc ls (.ref a :: st) Z I Q := by
  intro p e R s m args below meth c H locs cells slots lc hc hr hH hS hl
  subst hn
  exact lv_ifnull hc.1 hc.2.1 hd (kk p e R s m args below meth c H locs cells slots lc hc hr hH hS hl)
theorem x_ifnullN {l : Launch} {G : zG} {md : zD} {d ac as pc n : Nat} {ls : List (Option Value)} {st : List Value} {Z : zS} {I : zI} {Q : Option Value → zS → zI → Prop} {off : Int} (hd : decode md.2.1 pc = .ok (.ifnull off, 3)) (ht : (pc : Int) + off = (n : Int)) (kk : zX l G md d ac as n ls st Z I Q) : zX l G md d ac as pc ls (.null :: st) Z I Q := by
  intro p e R s m args below meth c H locs cells slots lc hc hr hH hS hl
  exact lv_ifnullN hc.1 hc.2.1 hd ht (kk p e R s m args below meth c H locs cells slots lc hc hr hH hS hl)
theorem x_ifnonnull {l : Launch} {G : zG} {md : zD} {d ac as pc n : Nat} {ls : List (Option Value)} {st : List Value} {Z : zS} {I : zI} {Q : Option Value → zS → zI → Prop} {a : Nat} {off : Int} (hd : decode md.2.1 pc = .ok (.ifnonnull off, 3)) (ht : (pc : Int) + off = (n : Int)) (kk : zX l G md d ac as n ls st Z I Q) : zX l G md d ac as pc ls (.ref a :: st) Z I Q := by
  intro p e R s m args below meth c H locs cells slots lc hc hr hH hS hl
  exact lv_ifnonnull hc.1 hc.2.1 hd ht (kk p e R s m args below meth c H locs cells slots lc hc hr hH hS hl)
theorem x_ifnonnullN {l : Launch} {G : zG} {md : zD} {d ac as pc n : Nat} {ls : List (Option Value)} {st : List Value} {Z : zS} {I : zI} {Q : Option Value → zS → zI → Prop} {off : Int} (hd : decode md.2.1 pc = .ok (.ifnonnull off, 3)) (hn : pc + 3 = n) (kk : zX l G md d ac as n ls st Z I Q) : zX l G md d ac as pc ls (.null :: st) Z I Q := by
  intro p e R s m args below meth c H locs cells slots lc hc hr hH hS hl
  subst hn
  exact lv_ifnonnullN hc.1 hc.2.1 hd (kk p e R s m args below meth c H locs cells slots lc hc hr hH hS hl)
theorem x_tswI {l : Launch} {G : zG} {md : zD} {d ac as pc n : Nat} {ls : List (Option Value)} {st : List Value} {Z : zS} {I : zI} {Q : Option Value → zS → zI → Prop} {x : Int32} {dflt lo hi off : Int} {offs : Array Int} {len : Nat} (hd : decode md.2.1 pc = .ok (.tableswitch dflt lo hi offs, len)) (h1 : ¬ x.toInt < lo) (h2 : ¬ hi < x.toInt) (ho : offs[(x.toInt - lo).toNat]? = some off) (ht : (pc : Int) + off = (n : Int)) (kk : zX l G md d ac as n ls st Z I Q) : zX l G md d ac as pc ls (.int x :: st) Z I Q := by
  intro p e R s m args below meth c H locs cells slots lc hc hr hH hS hl
  exact lv_tableIn hc.1 hc.2.1 hd h1 h2 ho ht (kk p e R s m args below meth c H locs cells slots lc hc hr hH hS hl)
theorem x_tswO {l : Launch} {G : zG} {md : zD} {d ac as pc n : Nat} {ls : List (Option Value)} {st : List Value} {Z : zS} {I : zI} {Q : Option Value → zS → zI → Prop} {x : Int32} {dflt lo hi : Int} {offs : Array Int} {len : Nat} (hd : decode md.2.1 pc = .ok (.tableswitch dflt lo hi offs, len)) (h : x.toInt < lo ∨ hi < x.toInt) (ht : (pc : Int) + dflt = (n : Int)) (kk : zX l G md d ac as n ls st Z I Q) : zX l G md d ac as pc ls (.int x :: st) Z I Q := by
  intro p e R s m args below meth c H locs cells slots lc hc hr hH hS hl
  exact lv_tableOut hc.1 hc.2.1 hd h ht (kk p e R s m args below meth c H locs cells slots lc hc hr hH hS hl)
theorem x_lsw {l : Launch} {G : zG} {md : zD} {d ac as pc n : Nat} {ls : List (Option Value)} {st : List Value} {Z : zS} {I : zI} {Q : Option Value → zS → zI → Prop} {x : Int32} {dflt off : Int} {ps : Array (Int × Int)} {len : Nat} (hd : decode md.2.1 pc = .ok (.lookupswitch dflt ps, len)) (hp : (ps.toList.zip (ps.toList.drop 1)).all (fun (a, next) => a.1 < next.1) = true) (ho : Op.lookupswitch.offset ps.toList dflt x.toInt = off) (ht : (pc : Int) + off = (n : Int)) (kk : zX l G md d ac as n ls st Z I Q) : zX l G md d ac as pc ls (.int x :: st) Z I Q := by
  intro p e R s m args below meth c H locs cells slots lc hc hr hH hS hl
  exact lv_lookup hc.1 hc.2.1 hd hp ho ht (kk p e R s m args below meth c H locs cells slots lc hc hr hH hS hl)
theorem x_ild0 {l : Launch} {G : zG} {md : zD} {d ac as pc n : Nat} {st : List Value} {Z : zS} {I : zI} {Q : Option Value → zS → zI → Prop} {x : Int32} {t : List (Option Value)} (hd : decode md.2.1 pc = .ok (.iload_n 0, 1)) (hn : pc + 1 = n) (kk : zX l G md d ac as n (some (.int x) :: t) (.int x :: st) Z I Q) : zX l G md d ac as pc (some (.int x) :: t) st Z I Q := by
  intro p e R s m args below meth c H locs cells slots lc hc hr hH hS hl
  subst hn
  exact lv_iload_n hc.1 hc.2.1 hd (i := 0) rfl (hl.2.2 0 _ rfl) (kk p e R s m args below meth c H locs cells slots lc hc hr hH hS hl)
theorem x_lld0 {l : Launch} {G : zG} {md : zD} {d ac as pc n : Nat} {st : List Value} {Z : zS} {I : zI} {Q : Option Value → zS → zI → Prop} {x : Int64} {t : List (Option Value)} (hd : decode md.2.1 pc = .ok (.lload_n 0, 1)) (hn : pc + 1 = n) (kk : zX l G md d ac as n (some (.long x) :: t) (.long x :: st) Z I Q) : zX l G md d ac as pc (some (.long x) :: t) st Z I Q := by
  intro p e R s m args below meth c H locs cells slots lc hc hr hH hS hl
  subst hn
  exact lv_lload_n hc.1 hc.2.1 hd (i := 0) rfl (hl.2.2 0 _ rfl) (kk p e R s m args below meth c H locs cells slots lc hc hr hH hS hl)
theorem x_ald0 {l : Launch} {G : zG} {md : zD} {d ac as pc n : Nat} {st : List Value} {Z : zS} {I : zI} {Q : Option Value → zS → zI → Prop} {x : Nat} {t : List (Option Value)} (hd : decode md.2.1 pc = .ok (.aload_n 0, 1)) (hn : pc + 1 = n) (kk : zX l G md d ac as n (some (.ref x) :: t) (.ref x :: st) Z I Q) : zX l G md d ac as pc (some (.ref x) :: t) st Z I Q := by
  intro p e R s m args below meth c H locs cells slots lc hc hr hH hS hl
  subst hn
  exact lv_aload_n hc.1 hc.2.1 hd (i := 0) rfl (hl.2.2 0 _ rfl) (kk p e R s m args below meth c H locs cells slots lc hc hr hH hS hl)
theorem x_nld0 {l : Launch} {G : zG} {md : zD} {d ac as pc n : Nat} {st : List Value} {Z : zS} {I : zI} {Q : Option Value → zS → zI → Prop}  {t : List (Option Value)} (hd : decode md.2.1 pc = .ok (.aload_n 0, 1)) (hn : pc + 1 = n) (kk : zX l G md d ac as n (some .null :: t) (.null :: st) Z I Q) : zX l G md d ac as pc (some .null :: t) st Z I Q := by
  intro p e R s m args below meth c H locs cells slots lc hc hr hH hS hl
  subst hn
  exact lv_aload_nN hc.1 hc.2.1 hd (i := 0) rfl (hl.2.2 0 _ rfl) (kk p e R s m args below meth c H locs cells slots lc hc hr hH hS hl)
theorem x_ild1 {l : Launch} {G : zG} {md : zD} {d ac as pc n : Nat} {st : List Value} {Z : zS} {I : zI} {Q : Option Value → zS → zI → Prop} {x : Int32} {a0 : Option Value} {t : List (Option Value)} (hd : decode md.2.1 pc = .ok (.iload_n 1, 1)) (hn : pc + 1 = n) (kk : zX l G md d ac as n (a0 :: some (.int x) :: t) (.int x :: st) Z I Q) : zX l G md d ac as pc (a0 :: some (.int x) :: t) st Z I Q := by
  intro p e R s m args below meth c H locs cells slots lc hc hr hH hS hl
  subst hn
  exact lv_iload_n hc.1 hc.2.1 hd (i := 1) rfl (hl.2.2 1 _ rfl) (kk p e R s m args below meth c H locs cells slots lc hc hr hH hS hl)
theorem x_lld1 {l : Launch} {G : zG} {md : zD} {d ac as pc n : Nat} {st : List Value} {Z : zS} {I : zI} {Q : Option Value → zS → zI → Prop} {x : Int64} {a0 : Option Value} {t : List (Option Value)} (hd : decode md.2.1 pc = .ok (.lload_n 1, 1)) (hn : pc + 1 = n) (kk : zX l G md d ac as n (a0 :: some (.long x) :: t) (.long x :: st) Z I Q) : zX l G md d ac as pc (a0 :: some (.long x) :: t) st Z I Q := by
  intro p e R s m args below meth c H locs cells slots lc hc hr hH hS hl
  subst hn
  exact lv_lload_n hc.1 hc.2.1 hd (i := 1) rfl (hl.2.2 1 _ rfl) (kk p e R s m args below meth c H locs cells slots lc hc hr hH hS hl)
theorem x_ald1 {l : Launch} {G : zG} {md : zD} {d ac as pc n : Nat} {st : List Value} {Z : zS} {I : zI} {Q : Option Value → zS → zI → Prop} {x : Nat} {a0 : Option Value} {t : List (Option Value)} (hd : decode md.2.1 pc = .ok (.aload_n 1, 1)) (hn : pc + 1 = n) (kk : zX l G md d ac as n (a0 :: some (.ref x) :: t) (.ref x :: st) Z I Q) : zX l G md d ac as pc (a0 :: some (.ref x) :: t) st Z I Q := by
  intro p e R s m args below meth c H locs cells slots lc hc hr hH hS hl
  subst hn
  exact lv_aload_n hc.1 hc.2.1 hd (i := 1) rfl (hl.2.2 1 _ rfl) (kk p e R s m args below meth c H locs cells slots lc hc hr hH hS hl)
theorem x_nld1 {l : Launch} {G : zG} {md : zD} {d ac as pc n : Nat} {st : List Value} {Z : zS} {I : zI} {Q : Option Value → zS → zI → Prop}  {a0 : Option Value} {t : List (Option Value)} (hd : decode md.2.1 pc = .ok (.aload_n 1, 1)) (hn : pc + 1 = n) (kk : zX l G md d ac as n (a0 :: some .null :: t) (.null :: st) Z I Q) : zX l G md d ac as pc (a0 :: some .null :: t) st Z I Q := by
  intro p e R s m args below meth c H locs cells slots lc hc hr hH hS hl
  subst hn
  exact lv_aload_nN hc.1 hc.2.1 hd (i := 1) rfl (hl.2.2 1 _ rfl) (kk p e R s m args below meth c H locs cells slots lc hc hr hH hS hl)
theorem x_ild2 {l : Launch} {G : zG} {md : zD} {d ac as pc n : Nat} {st : List Value} {Z : zS} {I : zI} {Q : Option Value → zS → zI → Prop} {x : Int32} {a0 a1 : Option Value} {t : List (Option Value)} (hd : decode md.2.1 pc = .ok (.iload_n 2, 1)) (hn : pc + 1 = n) (kk : zX l G md d ac as n (a0 :: a1 :: some (.int x) :: t) (.int x :: st) Z I Q) : zX l G md d ac as pc (a0 :: a1 :: some (.int x) :: t) st Z I Q := by
  intro p e R s m args below meth c H locs cells slots lc hc hr hH hS hl
  subst hn
  exact lv_iload_n hc.1 hc.2.1 hd (i := 2) rfl (hl.2.2 2 _ rfl) (kk p e R s m args below meth c H locs cells slots lc hc hr hH hS hl)
theorem x_lld2 {l : Launch} {G : zG} {md : zD} {d ac as pc n : Nat} {st : List Value} {Z : zS} {I : zI} {Q : Option Value → zS → zI → Prop} {x : Int64} {a0 a1 : Option Value} {t : List (Option Value)} (hd : decode md.2.1 pc = .ok (.lload_n 2, 1)) (hn : pc + 1 = n) (kk : zX l G md d ac as n (a0 :: a1 :: some (.long x) :: t) (.long x :: st) Z I Q) : zX l G md d ac as pc (a0 :: a1 :: some (.long x) :: t) st Z I Q := by
  intro p e R s m args below meth c H locs cells slots lc hc hr hH hS hl
  subst hn
  exact lv_lload_n hc.1 hc.2.1 hd (i := 2) rfl (hl.2.2 2 _ rfl) (kk p e R s m args below meth c H locs cells slots lc hc hr hH hS hl)
theorem x_ald2 {l : Launch} {G : zG} {md : zD} {d ac as pc n : Nat} {st : List Value} {Z : zS} {I : zI} {Q : Option Value → zS → zI → Prop} {x : Nat} {a0 a1 : Option Value} {t : List (Option Value)} (hd : decode md.2.1 pc = .ok (.aload_n 2, 1)) (hn : pc + 1 = n) (kk : zX l G md d ac as n (a0 :: a1 :: some (.ref x) :: t) (.ref x :: st) Z I Q) : zX l G md d ac as pc (a0 :: a1 :: some (.ref x) :: t) st Z I Q := by
  intro p e R s m args below meth c H locs cells slots lc hc hr hH hS hl
  subst hn
  exact lv_aload_n hc.1 hc.2.1 hd (i := 2) rfl (hl.2.2 2 _ rfl) (kk p e R s m args below meth c H locs cells slots lc hc hr hH hS hl)
theorem x_nld2 {l : Launch} {G : zG} {md : zD} {d ac as pc n : Nat} {st : List Value} {Z : zS} {I : zI} {Q : Option Value → zS → zI → Prop}  {a0 a1 : Option Value} {t : List (Option Value)} (hd : decode md.2.1 pc = .ok (.aload_n 2, 1)) (hn : pc + 1 = n) (kk : zX l G md d ac as n (a0 :: a1 :: some .null :: t) (.null :: st) Z I Q) : zX l G md d ac as pc (a0 :: a1 :: some .null :: t) st Z I Q := by
  intro p e R s m args below meth c H locs cells slots lc hc hr hH hS hl
  subst hn
  exact lv_aload_nN hc.1 hc.2.1 hd (i := 2) rfl (hl.2.2 2 _ rfl) (kk p e R s m args below meth c H locs cells slots lc hc hr hH hS hl)
theorem x_ild3 {l : Launch} {G : zG} {md : zD} {d ac as pc n : Nat} {st : List Value} {Z : zS} {I : zI} {Q : Option Value → zS → zI → Prop} {x : Int32} {a0 a1 a2 : Option Value} {t : List (Option Value)} (hd : decode md.2.1 pc = .ok (.iload_n 3, 1)) (hn : pc + 1 = n) (kk : zX l G md d ac as n (a0 :: a1 :: a2 :: some (.int x) :: t) (.int x :: st) Z I Q) : zX l G md d ac as pc (a0 :: a1 :: a2 :: some (.int x) :: t) st Z I Q := by
  intro p e R s m args below meth c H locs cells slots lc hc hr hH hS hl
  subst hn
  exact lv_iload_n hc.1 hc.2.1 hd (i := 3) rfl (hl.2.2 3 _ rfl) (kk p e R s m args below meth c H locs cells slots lc hc hr hH hS hl)
theorem x_lld3 {l : Launch} {G : zG} {md : zD} {d ac as pc n : Nat} {st : List Value} {Z : zS} {I : zI} {Q : Option Value → zS → zI → Prop} {x : Int64} {a0 a1 a2 : Option Value} {t : List (Option Value)} (hd : decode md.2.1 pc = .ok (.lload_n 3, 1)) (hn : pc + 1 = n) (kk : zX l G md d ac as n (a0 :: a1 :: a2 :: some (.long x) :: t) (.long x :: st) Z I Q) : zX l G md d ac as pc (a0 :: a1 :: a2 :: some (.long x) :: t) st Z I Q := by
  intro p e R s m args below meth c H locs cells slots lc hc hr hH hS hl
  subst hn
  exact lv_lload_n hc.1 hc.2.1 hd (i := 3) rfl (hl.2.2 3 _ rfl) (kk p e R s m args below meth c H locs cells slots lc hc hr hH hS hl)
theorem x_ald3 {l : Launch} {G : zG} {md : zD} {d ac as pc n : Nat} {st : List Value} {Z : zS} {I : zI} {Q : Option Value → zS → zI → Prop} {x : Nat} {a0 a1 a2 : Option Value} {t : List (Option Value)} (hd : decode md.2.1 pc = .ok (.aload_n 3, 1)) (hn : pc + 1 = n) (kk : zX l G md d ac as n (a0 :: a1 :: a2 :: some (.ref x) :: t) (.ref x :: st) Z I Q) : zX l G md d ac as pc (a0 :: a1 :: a2 :: some (.ref x) :: t) st Z I Q := by
  intro p e R s m args below meth c H locs cells slots lc hc hr hH hS hl
  subst hn
  exact lv_aload_n hc.1 hc.2.1 hd (i := 3) rfl (hl.2.2 3 _ rfl) (kk p e R s m args below meth c H locs cells slots lc hc hr hH hS hl)
theorem x_nld3 {l : Launch} {G : zG} {md : zD} {d ac as pc n : Nat} {st : List Value} {Z : zS} {I : zI} {Q : Option Value → zS → zI → Prop}  {a0 a1 a2 : Option Value} {t : List (Option Value)} (hd : decode md.2.1 pc = .ok (.aload_n 3, 1)) (hn : pc + 1 = n) (kk : zX l G md d ac as n (a0 :: a1 :: a2 :: some .null :: t) (.null :: st) Z I Q) : zX l G md d ac as pc (a0 :: a1 :: a2 :: some .null :: t) st Z I Q := by
  intro p e R s m args below meth c H locs cells slots lc hc hr hH hS hl
  subst hn
  exact lv_aload_nN hc.1 hc.2.1 hd (i := 3) rfl (hl.2.2 3 _ rfl) (kk p e R s m args below meth c H locs cells slots lc hc hr hH hS hl)
theorem x_ild4 {l : Launch} {G : zG} {md : zD} {d ac as pc n : Nat} {st : List Value} {Z : zS} {I : zI} {Q : Option Value → zS → zI → Prop} {x : Int32} {a0 a1 a2 a3 : Option Value} {t : List (Option Value)} (hd : decode md.2.1 pc = .ok (.iload 4, 2)) (hn : pc + 2 = n) (kk : zX l G md d ac as n (a0 :: a1 :: a2 :: a3 :: some (.int x) :: t) (.int x :: st) Z I Q) : zX l G md d ac as pc (a0 :: a1 :: a2 :: a3 :: some (.int x) :: t) st Z I Q := by
  intro p e R s m args below meth c H locs cells slots lc hc hr hH hS hl
  subst hn
  exact lv_iload hc.1 hc.2.1 hd (i := 4) (hl.2.2 4 _ rfl) (kk p e R s m args below meth c H locs cells slots lc hc hr hH hS hl)
theorem x_lld4 {l : Launch} {G : zG} {md : zD} {d ac as pc n : Nat} {st : List Value} {Z : zS} {I : zI} {Q : Option Value → zS → zI → Prop} {x : Int64} {a0 a1 a2 a3 : Option Value} {t : List (Option Value)} (hd : decode md.2.1 pc = .ok (.lload 4, 2)) (hn : pc + 2 = n) (kk : zX l G md d ac as n (a0 :: a1 :: a2 :: a3 :: some (.long x) :: t) (.long x :: st) Z I Q) : zX l G md d ac as pc (a0 :: a1 :: a2 :: a3 :: some (.long x) :: t) st Z I Q := by
  intro p e R s m args below meth c H locs cells slots lc hc hr hH hS hl
  subst hn
  exact lv_lload hc.1 hc.2.1 hd (i := 4) (hl.2.2 4 _ rfl) (kk p e R s m args below meth c H locs cells slots lc hc hr hH hS hl)
theorem x_ald4 {l : Launch} {G : zG} {md : zD} {d ac as pc n : Nat} {st : List Value} {Z : zS} {I : zI} {Q : Option Value → zS → zI → Prop} {x : Nat} {a0 a1 a2 a3 : Option Value} {t : List (Option Value)} (hd : decode md.2.1 pc = .ok (.aload 4, 2)) (hn : pc + 2 = n) (kk : zX l G md d ac as n (a0 :: a1 :: a2 :: a3 :: some (.ref x) :: t) (.ref x :: st) Z I Q) : zX l G md d ac as pc (a0 :: a1 :: a2 :: a3 :: some (.ref x) :: t) st Z I Q := by
  intro p e R s m args below meth c H locs cells slots lc hc hr hH hS hl
  subst hn
  exact lv_aload hc.1 hc.2.1 hd (i := 4) (hl.2.2 4 _ rfl) (kk p e R s m args below meth c H locs cells slots lc hc hr hH hS hl)
theorem x_nld4 {l : Launch} {G : zG} {md : zD} {d ac as pc n : Nat} {st : List Value} {Z : zS} {I : zI} {Q : Option Value → zS → zI → Prop}  {a0 a1 a2 a3 : Option Value} {t : List (Option Value)} (hd : decode md.2.1 pc = .ok (.aload 4, 2)) (hn : pc + 2 = n) (kk : zX l G md d ac as n (a0 :: a1 :: a2 :: a3 :: some .null :: t) (.null :: st) Z I Q) : zX l G md d ac as pc (a0 :: a1 :: a2 :: a3 :: some .null :: t) st Z I Q := by
  intro p e R s m args below meth c H locs cells slots lc hc hr hH hS hl
  subst hn
  exact lv_aloadN hc.1 hc.2.1 hd (i := 4) (hl.2.2 4 _ rfl) (kk p e R s m args below meth c H locs cells slots lc hc hr hH hS hl)
theorem x_ild5 {l : Launch} {G : zG} {md : zD} {d ac as pc n : Nat} {st : List Value} {Z : zS} {I : zI} {Q : Option Value → zS → zI → Prop} {x : Int32} {a0 a1 a2 a3 a4 : Option Value} {t : List (Option Value)} (hd : decode md.2.1 pc = .ok (.iload 5, 2)) (hn : pc + 2 = n) (kk : zX l G md d ac as n (a0 :: a1 :: a2 :: a3 :: a4 :: some (.int x) :: t) (.int x :: st) Z I Q) : zX l G md d ac as pc (a0 :: a1 :: a2 :: a3 :: a4 :: some (.int x) :: t) st Z I Q := by
  intro p e R s m args below meth c H locs cells slots lc hc hr hH hS hl
  subst hn
  exact lv_iload hc.1 hc.2.1 hd (i := 5) (hl.2.2 5 _ rfl) (kk p e R s m args below meth c H locs cells slots lc hc hr hH hS hl)
theorem x_ald5 {l : Launch} {G : zG} {md : zD} {d ac as pc n : Nat} {st : List Value} {Z : zS} {I : zI} {Q : Option Value → zS → zI → Prop} {x : Nat} {a0 a1 a2 a3 a4 : Option Value} {t : List (Option Value)} (hd : decode md.2.1 pc = .ok (.aload 5, 2)) (hn : pc + 2 = n) (kk : zX l G md d ac as n (a0 :: a1 :: a2 :: a3 :: a4 :: some (.ref x) :: t) (.ref x :: st) Z I Q) : zX l G md d ac as pc (a0 :: a1 :: a2 :: a3 :: a4 :: some (.ref x) :: t) st Z I Q := by
  intro p e R s m args below meth c H locs cells slots lc hc hr hH hS hl
  subst hn
  exact lv_aload hc.1 hc.2.1 hd (i := 5) (hl.2.2 5 _ rfl) (kk p e R s m args below meth c H locs cells slots lc hc hr hH hS hl)
theorem x_nld5 {l : Launch} {G : zG} {md : zD} {d ac as pc n : Nat} {st : List Value} {Z : zS} {I : zI} {Q : Option Value → zS → zI → Prop}  {a0 a1 a2 a3 a4 : Option Value} {t : List (Option Value)} (hd : decode md.2.1 pc = .ok (.aload 5, 2)) (hn : pc + 2 = n) (kk : zX l G md d ac as n (a0 :: a1 :: a2 :: a3 :: a4 :: some .null :: t) (.null :: st) Z I Q) : zX l G md d ac as pc (a0 :: a1 :: a2 :: a3 :: a4 :: some .null :: t) st Z I Q := by
  intro p e R s m args below meth c H locs cells slots lc hc hr hH hS hl
  subst hn
  exact lv_aloadN hc.1 hc.2.1 hd (i := 5) (hl.2.2 5 _ rfl) (kk p e R s m args below meth c H locs cells slots lc hc hr hH hS hl)
theorem x_ild6 {l : Launch} {G : zG} {md : zD} {d ac as pc n : Nat} {st : List Value} {Z : zS} {I : zI} {Q : Option Value → zS → zI → Prop} {x : Int32} {a0 a1 a2 a3 a4 a5 : Option Value} {t : List (Option Value)} (hd : decode md.2.1 pc = .ok (.iload 6, 2)) (hn : pc + 2 = n) (kk : zX l G md d ac as n (a0 :: a1 :: a2 :: a3 :: a4 :: a5 :: some (.int x) :: t) (.int x :: st) Z I Q) : zX l G md d ac as pc (a0 :: a1 :: a2 :: a3 :: a4 :: a5 :: some (.int x) :: t) st Z I Q := by
  intro p e R s m args below meth c H locs cells slots lc hc hr hH hS hl
  subst hn
  exact lv_iload hc.1 hc.2.1 hd (i := 6) (hl.2.2 6 _ rfl) (kk p e R s m args below meth c H locs cells slots lc hc hr hH hS hl)
theorem x_ald6 {l : Launch} {G : zG} {md : zD} {d ac as pc n : Nat} {st : List Value} {Z : zS} {I : zI} {Q : Option Value → zS → zI → Prop} {x : Nat} {a0 a1 a2 a3 a4 a5 : Option Value} {t : List (Option Value)} (hd : decode md.2.1 pc = .ok (.aload 6, 2)) (hn : pc + 2 = n) (kk : zX l G md d ac as n (a0 :: a1 :: a2 :: a3 :: a4 :: a5 :: some (.ref x) :: t) (.ref x :: st) Z I Q) : zX l G md d ac as pc (a0 :: a1 :: a2 :: a3 :: a4 :: a5 :: some (.ref x) :: t) st Z I Q := by
  intro p e R s m args below meth c H locs cells slots lc hc hr hH hS hl
  subst hn
  exact lv_aload hc.1 hc.2.1 hd (i := 6) (hl.2.2 6 _ rfl) (kk p e R s m args below meth c H locs cells slots lc hc hr hH hS hl)
theorem x_nld6 {l : Launch} {G : zG} {md : zD} {d ac as pc n : Nat} {st : List Value} {Z : zS} {I : zI} {Q : Option Value → zS → zI → Prop}  {a0 a1 a2 a3 a4 a5 : Option Value} {t : List (Option Value)} (hd : decode md.2.1 pc = .ok (.aload 6, 2)) (hn : pc + 2 = n) (kk : zX l G md d ac as n (a0 :: a1 :: a2 :: a3 :: a4 :: a5 :: some .null :: t) (.null :: st) Z I Q) : zX l G md d ac as pc (a0 :: a1 :: a2 :: a3 :: a4 :: a5 :: some .null :: t) st Z I Q := by
  intro p e R s m args below meth c H locs cells slots lc hc hr hH hS hl
  subst hn
  exact lv_aloadN hc.1 hc.2.1 hd (i := 6) (hl.2.2 6 _ rfl) (kk p e R s m args below meth c H locs cells slots lc hc hr hH hS hl)
theorem x_ild7 {l : Launch} {G : zG} {md : zD} {d ac as pc n : Nat} {st : List Value} {Z : zS} {I : zI} {Q : Option Value → zS → zI → Prop} {x : Int32} {a0 a1 a2 a3 a4 a5 a6 : Option Value} {t : List (Option Value)} (hd : decode md.2.1 pc = .ok (.iload 7, 2)) (hn : pc + 2 = n) (kk : zX l G md d ac as n (a0 :: a1 :: a2 :: a3 :: a4 :: a5 :: a6 :: some (.int x) :: t) (.int x :: st) Z I Q) : zX l G md d ac as pc (a0 :: a1 :: a2 :: a3 :: a4 :: a5 :: a6 :: some (.int x) :: t) st Z I Q := by
  intro p e R s m args below meth c H locs cells slots lc hc hr hH hS hl
  subst hn
  exact lv_iload hc.1 hc.2.1 hd (i := 7) (hl.2.2 7 _ rfl) (kk p e R s m args below meth c H locs cells slots lc hc hr hH hS hl)
theorem x_ald7 {l : Launch} {G : zG} {md : zD} {d ac as pc n : Nat} {st : List Value} {Z : zS} {I : zI} {Q : Option Value → zS → zI → Prop} {x : Nat} {a0 a1 a2 a3 a4 a5 a6 : Option Value} {t : List (Option Value)} (hd : decode md.2.1 pc = .ok (.aload 7, 2)) (hn : pc + 2 = n) (kk : zX l G md d ac as n (a0 :: a1 :: a2 :: a3 :: a4 :: a5 :: a6 :: some (.ref x) :: t) (.ref x :: st) Z I Q) : zX l G md d ac as pc (a0 :: a1 :: a2 :: a3 :: a4 :: a5 :: a6 :: some (.ref x) :: t) st Z I Q := by
  intro p e R s m args below meth c H locs cells slots lc hc hr hH hS hl
  subst hn
  exact lv_aload hc.1 hc.2.1 hd (i := 7) (hl.2.2 7 _ rfl) (kk p e R s m args below meth c H locs cells slots lc hc hr hH hS hl)
theorem x_nld7 {l : Launch} {G : zG} {md : zD} {d ac as pc n : Nat} {st : List Value} {Z : zS} {I : zI} {Q : Option Value → zS → zI → Prop}  {a0 a1 a2 a3 a4 a5 a6 : Option Value} {t : List (Option Value)} (hd : decode md.2.1 pc = .ok (.aload 7, 2)) (hn : pc + 2 = n) (kk : zX l G md d ac as n (a0 :: a1 :: a2 :: a3 :: a4 :: a5 :: a6 :: some .null :: t) (.null :: st) Z I Q) : zX l G md d ac as pc (a0 :: a1 :: a2 :: a3 :: a4 :: a5 :: a6 :: some .null :: t) st Z I Q := by
  intro p e R s m args below meth c H locs cells slots lc hc hr hH hS hl
  subst hn
  exact lv_aloadN hc.1 hc.2.1 hd (i := 7) (hl.2.2 7 _ rfl) (kk p e R s m args below meth c H locs cells slots lc hc hr hH hS hl)
theorem x_ild8 {l : Launch} {G : zG} {md : zD} {d ac as pc n : Nat} {st : List Value} {Z : zS} {I : zI} {Q : Option Value → zS → zI → Prop} {x : Int32} {a0 a1 a2 a3 a4 a5 a6 a7 : Option Value} {t : List (Option Value)} (hd : decode md.2.1 pc = .ok (.iload 8, 2)) (hn : pc + 2 = n) (kk : zX l G md d ac as n (a0 :: a1 :: a2 :: a3 :: a4 :: a5 :: a6 :: a7 :: some (.int x) :: t) (.int x :: st) Z I Q) : zX l G md d ac as pc (a0 :: a1 :: a2 :: a3 :: a4 :: a5 :: a6 :: a7 :: some (.int x) :: t) st Z I Q := by
  intro p e R s m args below meth c H locs cells slots lc hc hr hH hS hl
  subst hn
  exact lv_iload hc.1 hc.2.1 hd (i := 8) (hl.2.2 8 _ rfl) (kk p e R s m args below meth c H locs cells slots lc hc hr hH hS hl)
theorem x_ald8 {l : Launch} {G : zG} {md : zD} {d ac as pc n : Nat} {st : List Value} {Z : zS} {I : zI} {Q : Option Value → zS → zI → Prop} {x : Nat} {a0 a1 a2 a3 a4 a5 a6 a7 : Option Value} {t : List (Option Value)} (hd : decode md.2.1 pc = .ok (.aload 8, 2)) (hn : pc + 2 = n) (kk : zX l G md d ac as n (a0 :: a1 :: a2 :: a3 :: a4 :: a5 :: a6 :: a7 :: some (.ref x) :: t) (.ref x :: st) Z I Q) : zX l G md d ac as pc (a0 :: a1 :: a2 :: a3 :: a4 :: a5 :: a6 :: a7 :: some (.ref x) :: t) st Z I Q := by
  intro p e R s m args below meth c H locs cells slots lc hc hr hH hS hl
  subst hn
  exact lv_aload hc.1 hc.2.1 hd (i := 8) (hl.2.2 8 _ rfl) (kk p e R s m args below meth c H locs cells slots lc hc hr hH hS hl)
theorem x_nld8 {l : Launch} {G : zG} {md : zD} {d ac as pc n : Nat} {st : List Value} {Z : zS} {I : zI} {Q : Option Value → zS → zI → Prop}  {a0 a1 a2 a3 a4 a5 a6 a7 : Option Value} {t : List (Option Value)} (hd : decode md.2.1 pc = .ok (.aload 8, 2)) (hn : pc + 2 = n) (kk : zX l G md d ac as n (a0 :: a1 :: a2 :: a3 :: a4 :: a5 :: a6 :: a7 :: some .null :: t) (.null :: st) Z I Q) : zX l G md d ac as pc (a0 :: a1 :: a2 :: a3 :: a4 :: a5 :: a6 :: a7 :: some .null :: t) st Z I Q := by
  intro p e R s m args below meth c H locs cells slots lc hc hr hH hS hl
  subst hn
  exact lv_aloadN hc.1 hc.2.1 hd (i := 8) (hl.2.2 8 _ rfl) (kk p e R s m args below meth c H locs cells slots lc hc hr hH hS hl)
theorem x_ild9 {l : Launch} {G : zG} {md : zD} {d ac as pc n : Nat} {st : List Value} {Z : zS} {I : zI} {Q : Option Value → zS → zI → Prop} {x : Int32} {a0 a1 a2 a3 a4 a5 a6 a7 a8 : Option Value} {t : List (Option Value)} (hd : decode md.2.1 pc = .ok (.iload 9, 2)) (hn : pc + 2 = n) (kk : zX l G md d ac as n (a0 :: a1 :: a2 :: a3 :: a4 :: a5 :: a6 :: a7 :: a8 :: some (.int x) :: t) (.int x :: st) Z I Q) : zX l G md d ac as pc (a0 :: a1 :: a2 :: a3 :: a4 :: a5 :: a6 :: a7 :: a8 :: some (.int x) :: t) st Z I Q := by
  intro p e R s m args below meth c H locs cells slots lc hc hr hH hS hl
  subst hn
  exact lv_iload hc.1 hc.2.1 hd (i := 9) (hl.2.2 9 _ rfl) (kk p e R s m args below meth c H locs cells slots lc hc hr hH hS hl)
theorem x_ald9 {l : Launch} {G : zG} {md : zD} {d ac as pc n : Nat} {st : List Value} {Z : zS} {I : zI} {Q : Option Value → zS → zI → Prop} {x : Nat} {a0 a1 a2 a3 a4 a5 a6 a7 a8 : Option Value} {t : List (Option Value)} (hd : decode md.2.1 pc = .ok (.aload 9, 2)) (hn : pc + 2 = n) (kk : zX l G md d ac as n (a0 :: a1 :: a2 :: a3 :: a4 :: a5 :: a6 :: a7 :: a8 :: some (.ref x) :: t) (.ref x :: st) Z I Q) : zX l G md d ac as pc (a0 :: a1 :: a2 :: a3 :: a4 :: a5 :: a6 :: a7 :: a8 :: some (.ref x) :: t) st Z I Q := by
  intro p e R s m args below meth c H locs cells slots lc hc hr hH hS hl
  subst hn
  exact lv_aload hc.1 hc.2.1 hd (i := 9) (hl.2.2 9 _ rfl) (kk p e R s m args below meth c H locs cells slots lc hc hr hH hS hl)
theorem x_nld9 {l : Launch} {G : zG} {md : zD} {d ac as pc n : Nat} {st : List Value} {Z : zS} {I : zI} {Q : Option Value → zS → zI → Prop}  {a0 a1 a2 a3 a4 a5 a6 a7 a8 : Option Value} {t : List (Option Value)} (hd : decode md.2.1 pc = .ok (.aload 9, 2)) (hn : pc + 2 = n) (kk : zX l G md d ac as n (a0 :: a1 :: a2 :: a3 :: a4 :: a5 :: a6 :: a7 :: a8 :: some .null :: t) (.null :: st) Z I Q) : zX l G md d ac as pc (a0 :: a1 :: a2 :: a3 :: a4 :: a5 :: a6 :: a7 :: a8 :: some .null :: t) st Z I Q := by
  intro p e R s m args below meth c H locs cells slots lc hc hr hH hS hl
  subst hn
  exact lv_aloadN hc.1 hc.2.1 hd (i := 9) (hl.2.2 9 _ rfl) (kk p e R s m args below meth c H locs cells slots lc hc hr hH hS hl)
theorem x_ild10 {l : Launch} {G : zG} {md : zD} {d ac as pc n : Nat} {st : List Value} {Z : zS} {I : zI} {Q : Option Value → zS → zI → Prop} {x : Int32} {a0 a1 a2 a3 a4 a5 a6 a7 a8 a9 : Option Value} {t : List (Option Value)} (hd : decode md.2.1 pc = .ok (.iload 10, 2)) (hn : pc + 2 = n) (kk : zX l G md d ac as n (a0 :: a1 :: a2 :: a3 :: a4 :: a5 :: a6 :: a7 :: a8 :: a9 :: some (.int x) :: t) (.int x :: st) Z I Q) : zX l G md d ac as pc (a0 :: a1 :: a2 :: a3 :: a4 :: a5 :: a6 :: a7 :: a8 :: a9 :: some (.int x) :: t) st Z I Q := by
  intro p e R s m args below meth c H locs cells slots lc hc hr hH hS hl
  subst hn
  exact lv_iload hc.1 hc.2.1 hd (i := 10) (hl.2.2 10 _ rfl) (kk p e R s m args below meth c H locs cells slots lc hc hr hH hS hl)
theorem x_ald10 {l : Launch} {G : zG} {md : zD} {d ac as pc n : Nat} {st : List Value} {Z : zS} {I : zI} {Q : Option Value → zS → zI → Prop} {x : Nat} {a0 a1 a2 a3 a4 a5 a6 a7 a8 a9 : Option Value} {t : List (Option Value)} (hd : decode md.2.1 pc = .ok (.aload 10, 2)) (hn : pc + 2 = n) (kk : zX l G md d ac as n (a0 :: a1 :: a2 :: a3 :: a4 :: a5 :: a6 :: a7 :: a8 :: a9 :: some (.ref x) :: t) (.ref x :: st) Z I Q) : zX l G md d ac as pc (a0 :: a1 :: a2 :: a3 :: a4 :: a5 :: a6 :: a7 :: a8 :: a9 :: some (.ref x) :: t) st Z I Q := by
  intro p e R s m args below meth c H locs cells slots lc hc hr hH hS hl
  subst hn
  exact lv_aload hc.1 hc.2.1 hd (i := 10) (hl.2.2 10 _ rfl) (kk p e R s m args below meth c H locs cells slots lc hc hr hH hS hl)
theorem x_nld10 {l : Launch} {G : zG} {md : zD} {d ac as pc n : Nat} {st : List Value} {Z : zS} {I : zI} {Q : Option Value → zS → zI → Prop}  {a0 a1 a2 a3 a4 a5 a6 a7 a8 a9 : Option Value} {t : List (Option Value)} (hd : decode md.2.1 pc = .ok (.aload 10, 2)) (hn : pc + 2 = n) (kk : zX l G md d ac as n (a0 :: a1 :: a2 :: a3 :: a4 :: a5 :: a6 :: a7 :: a8 :: a9 :: some .null :: t) (.null :: st) Z I Q) : zX l G md d ac as pc (a0 :: a1 :: a2 :: a3 :: a4 :: a5 :: a6 :: a7 :: a8 :: a9 :: some .null :: t) st Z I Q := by
  intro p e R s m args below meth c H locs cells slots lc hc hr hH hS hl
  subst hn
  exact lv_aloadN hc.1 hc.2.1 hd (i := 10) (hl.2.2 10 _ rfl) (kk p e R s m args below meth c H locs cells slots lc hc hr hH hS hl)
theorem x_ild11 {l : Launch} {G : zG} {md : zD} {d ac as pc n : Nat} {st : List Value} {Z : zS} {I : zI} {Q : Option Value → zS → zI → Prop} {x : Int32} {a0 a1 a2 a3 a4 a5 a6 a7 a8 a9 a10 : Option Value} {t : List (Option Value)} (hd : decode md.2.1 pc = .ok (.iload 11, 2)) (hn : pc + 2 = n) (kk : zX l G md d ac as n (a0 :: a1 :: a2 :: a3 :: a4 :: a5 :: a6 :: a7 :: a8 :: a9 :: a10 :: some (.int x) :: t) (.int x :: st) Z I Q) : zX l G md d ac as pc (a0 :: a1 :: a2 :: a3 :: a4 :: a5 :: a6 :: a7 :: a8 :: a9 :: a10 :: some (.int x) :: t) st Z I Q := by
  intro p e R s m args below meth c H locs cells slots lc hc hr hH hS hl
  subst hn
  exact lv_iload hc.1 hc.2.1 hd (i := 11) (hl.2.2 11 _ rfl) (kk p e R s m args below meth c H locs cells slots lc hc hr hH hS hl)
theorem x_ald11 {l : Launch} {G : zG} {md : zD} {d ac as pc n : Nat} {st : List Value} {Z : zS} {I : zI} {Q : Option Value → zS → zI → Prop} {x : Nat} {a0 a1 a2 a3 a4 a5 a6 a7 a8 a9 a10 : Option Value} {t : List (Option Value)} (hd : decode md.2.1 pc = .ok (.aload 11, 2)) (hn : pc + 2 = n) (kk : zX l G md d ac as n (a0 :: a1 :: a2 :: a3 :: a4 :: a5 :: a6 :: a7 :: a8 :: a9 :: a10 :: some (.ref x) :: t) (.ref x :: st) Z I Q) : zX l G md d ac as pc (a0 :: a1 :: a2 :: a3 :: a4 :: a5 :: a6 :: a7 :: a8 :: a9 :: a10 :: some (.ref x) :: t) st Z I Q := by
  intro p e R s m args below meth c H locs cells slots lc hc hr hH hS hl
  subst hn
  exact lv_aload hc.1 hc.2.1 hd (i := 11) (hl.2.2 11 _ rfl) (kk p e R s m args below meth c H locs cells slots lc hc hr hH hS hl)
theorem x_nld11 {l : Launch} {G : zG} {md : zD} {d ac as pc n : Nat} {st : List Value} {Z : zS} {I : zI} {Q : Option Value → zS → zI → Prop}  {a0 a1 a2 a3 a4 a5 a6 a7 a8 a9 a10 : Option Value} {t : List (Option Value)} (hd : decode md.2.1 pc = .ok (.aload 11, 2)) (hn : pc + 2 = n) (kk : zX l G md d ac as n (a0 :: a1 :: a2 :: a3 :: a4 :: a5 :: a6 :: a7 :: a8 :: a9 :: a10 :: some .null :: t) (.null :: st) Z I Q) : zX l G md d ac as pc (a0 :: a1 :: a2 :: a3 :: a4 :: a5 :: a6 :: a7 :: a8 :: a9 :: a10 :: some .null :: t) st Z I Q := by
  intro p e R s m args below meth c H locs cells slots lc hc hr hH hS hl
  subst hn
  exact lv_aloadN hc.1 hc.2.1 hd (i := 11) (hl.2.2 11 _ rfl) (kk p e R s m args below meth c H locs cells slots lc hc hr hH hS hl)
theorem x_ild12 {l : Launch} {G : zG} {md : zD} {d ac as pc n : Nat} {st : List Value} {Z : zS} {I : zI} {Q : Option Value → zS → zI → Prop} {x : Int32} {a0 a1 a2 a3 a4 a5 a6 a7 a8 a9 a10 a11 : Option Value} {t : List (Option Value)} (hd : decode md.2.1 pc = .ok (.iload 12, 2)) (hn : pc + 2 = n) (kk : zX l G md d ac as n (a0 :: a1 :: a2 :: a3 :: a4 :: a5 :: a6 :: a7 :: a8 :: a9 :: a10 :: a11 :: some (.int x) :: t) (.int x :: st) Z I Q) : zX l G md d ac as pc (a0 :: a1 :: a2 :: a3 :: a4 :: a5 :: a6 :: a7 :: a8 :: a9 :: a10 :: a11 :: some (.int x) :: t) st Z I Q := by
  intro p e R s m args below meth c H locs cells slots lc hc hr hH hS hl
  subst hn
  exact lv_iload hc.1 hc.2.1 hd (i := 12) (hl.2.2 12 _ rfl) (kk p e R s m args below meth c H locs cells slots lc hc hr hH hS hl)
theorem x_ald12 {l : Launch} {G : zG} {md : zD} {d ac as pc n : Nat} {st : List Value} {Z : zS} {I : zI} {Q : Option Value → zS → zI → Prop} {x : Nat} {a0 a1 a2 a3 a4 a5 a6 a7 a8 a9 a10 a11 : Option Value} {t : List (Option Value)} (hd : decode md.2.1 pc = .ok (.aload 12, 2)) (hn : pc + 2 = n) (kk : zX l G md d ac as n (a0 :: a1 :: a2 :: a3 :: a4 :: a5 :: a6 :: a7 :: a8 :: a9 :: a10 :: a11 :: some (.ref x) :: t) (.ref x :: st) Z I Q) : zX l G md d ac as pc (a0 :: a1 :: a2 :: a3 :: a4 :: a5 :: a6 :: a7 :: a8 :: a9 :: a10 :: a11 :: some (.ref x) :: t) st Z I Q := by
  intro p e R s m args below meth c H locs cells slots lc hc hr hH hS hl
  subst hn
  exact lv_aload hc.1 hc.2.1 hd (i := 12) (hl.2.2 12 _ rfl) (kk p e R s m args below meth c H locs cells slots lc hc hr hH hS hl)
theorem x_nld12 {l : Launch} {G : zG} {md : zD} {d ac as pc n : Nat} {st : List Value} {Z : zS} {I : zI} {Q : Option Value → zS → zI → Prop}  {a0 a1 a2 a3 a4 a5 a6 a7 a8 a9 a10 a11 : Option Value} {t : List (Option Value)} (hd : decode md.2.1 pc = .ok (.aload 12, 2)) (hn : pc + 2 = n) (kk : zX l G md d ac as n (a0 :: a1 :: a2 :: a3 :: a4 :: a5 :: a6 :: a7 :: a8 :: a9 :: a10 :: a11 :: some .null :: t) (.null :: st) Z I Q) : zX l G md d ac as pc (a0 :: a1 :: a2 :: a3 :: a4 :: a5 :: a6 :: a7 :: a8 :: a9 :: a10 :: a11 :: some .null :: t) st Z I Q := by
  intro p e R s m args below meth c H locs cells slots lc hc hr hH hS hl
  subst hn
  exact lv_aloadN hc.1 hc.2.1 hd (i := 12) (hl.2.2 12 _ rfl) (kk p e R s m args below meth c H locs cells slots lc hc hr hH hS hl)
theorem x_ild13 {l : Launch} {G : zG} {md : zD} {d ac as pc n : Nat} {st : List Value} {Z : zS} {I : zI} {Q : Option Value → zS → zI → Prop} {x : Int32} {a0 a1 a2 a3 a4 a5 a6 a7 a8 a9 a10 a11 a12 : Option Value} {t : List (Option Value)} (hd : decode md.2.1 pc = .ok (.iload 13, 2)) (hn : pc + 2 = n) (kk : zX l G md d ac as n (a0 :: a1 :: a2 :: a3 :: a4 :: a5 :: a6 :: a7 :: a8 :: a9 :: a10 :: a11 :: a12 :: some (.int x) :: t) (.int x :: st) Z I Q) : zX l G md d ac as pc (a0 :: a1 :: a2 :: a3 :: a4 :: a5 :: a6 :: a7 :: a8 :: a9 :: a10 :: a11 :: a12 :: some (.int x) :: t) st Z I Q := by
  intro p e R s m args below meth c H locs cells slots lc hc hr hH hS hl
  subst hn
  exact lv_iload hc.1 hc.2.1 hd (i := 13) (hl.2.2 13 _ rfl) (kk p e R s m args below meth c H locs cells slots lc hc hr hH hS hl)
theorem x_ald13 {l : Launch} {G : zG} {md : zD} {d ac as pc n : Nat} {st : List Value} {Z : zS} {I : zI} {Q : Option Value → zS → zI → Prop} {x : Nat} {a0 a1 a2 a3 a4 a5 a6 a7 a8 a9 a10 a11 a12 : Option Value} {t : List (Option Value)} (hd : decode md.2.1 pc = .ok (.aload 13, 2)) (hn : pc + 2 = n) (kk : zX l G md d ac as n (a0 :: a1 :: a2 :: a3 :: a4 :: a5 :: a6 :: a7 :: a8 :: a9 :: a10 :: a11 :: a12 :: some (.ref x) :: t) (.ref x :: st) Z I Q) : zX l G md d ac as pc (a0 :: a1 :: a2 :: a3 :: a4 :: a5 :: a6 :: a7 :: a8 :: a9 :: a10 :: a11 :: a12 :: some (.ref x) :: t) st Z I Q := by
  intro p e R s m args below meth c H locs cells slots lc hc hr hH hS hl
  subst hn
  exact lv_aload hc.1 hc.2.1 hd (i := 13) (hl.2.2 13 _ rfl) (kk p e R s m args below meth c H locs cells slots lc hc hr hH hS hl)
theorem x_nld13 {l : Launch} {G : zG} {md : zD} {d ac as pc n : Nat} {st : List Value} {Z : zS} {I : zI} {Q : Option Value → zS → zI → Prop}  {a0 a1 a2 a3 a4 a5 a6 a7 a8 a9 a10 a11 a12 : Option Value} {t : List (Option Value)} (hd : decode md.2.1 pc = .ok (.aload 13, 2)) (hn : pc + 2 = n) (kk : zX l G md d ac as n (a0 :: a1 :: a2 :: a3 :: a4 :: a5 :: a6 :: a7 :: a8 :: a9 :: a10 :: a11 :: a12 :: some .null :: t) (.null :: st) Z I Q) : zX l G md d ac as pc (a0 :: a1 :: a2 :: a3 :: a4 :: a5 :: a6 :: a7 :: a8 :: a9 :: a10 :: a11 :: a12 :: some .null :: t) st Z I Q := by
  intro p e R s m args below meth c H locs cells slots lc hc hr hH hS hl
  subst hn
  exact lv_aloadN hc.1 hc.2.1 hd (i := 13) (hl.2.2 13 _ rfl) (kk p e R s m args below meth c H locs cells slots lc hc hr hH hS hl)
theorem x_ild14 {l : Launch} {G : zG} {md : zD} {d ac as pc n : Nat} {st : List Value} {Z : zS} {I : zI} {Q : Option Value → zS → zI → Prop} {x : Int32} {a0 a1 a2 a3 a4 a5 a6 a7 a8 a9 a10 a11 a12 a13 : Option Value} {t : List (Option Value)} (hd : decode md.2.1 pc = .ok (.iload 14, 2)) (hn : pc + 2 = n) (kk : zX l G md d ac as n (a0 :: a1 :: a2 :: a3 :: a4 :: a5 :: a6 :: a7 :: a8 :: a9 :: a10 :: a11 :: a12 :: a13 :: some (.int x) :: t) (.int x :: st) Z I Q) : zX l G md d ac as pc (a0 :: a1 :: a2 :: a3 :: a4 :: a5 :: a6 :: a7 :: a8 :: a9 :: a10 :: a11 :: a12 :: a13 :: some (.int x) :: t) st Z I Q := by
  intro p e R s m args below meth c H locs cells slots lc hc hr hH hS hl
  subst hn
  exact lv_iload hc.1 hc.2.1 hd (i := 14) (hl.2.2 14 _ rfl) (kk p e R s m args below meth c H locs cells slots lc hc hr hH hS hl)
theorem x_ald14 {l : Launch} {G : zG} {md : zD} {d ac as pc n : Nat} {st : List Value} {Z : zS} {I : zI} {Q : Option Value → zS → zI → Prop} {x : Nat} {a0 a1 a2 a3 a4 a5 a6 a7 a8 a9 a10 a11 a12 a13 : Option Value} {t : List (Option Value)} (hd : decode md.2.1 pc = .ok (.aload 14, 2)) (hn : pc + 2 = n) (kk : zX l G md d ac as n (a0 :: a1 :: a2 :: a3 :: a4 :: a5 :: a6 :: a7 :: a8 :: a9 :: a10 :: a11 :: a12 :: a13 :: some (.ref x) :: t) (.ref x :: st) Z I Q) : zX l G md d ac as pc (a0 :: a1 :: a2 :: a3 :: a4 :: a5 :: a6 :: a7 :: a8 :: a9 :: a10 :: a11 :: a12 :: a13 :: some (.ref x) :: t) st Z I Q := by
  intro p e R s m args below meth c H locs cells slots lc hc hr hH hS hl
  subst hn
  exact lv_aload hc.1 hc.2.1 hd (i := 14) (hl.2.2 14 _ rfl) (kk p e R s m args below meth c H locs cells slots lc hc hr hH hS hl)
theorem x_nld14 {l : Launch} {G : zG} {md : zD} {d ac as pc n : Nat} {st : List Value} {Z : zS} {I : zI} {Q : Option Value → zS → zI → Prop}  {a0 a1 a2 a3 a4 a5 a6 a7 a8 a9 a10 a11 a12 a13 : Option Value} {t : List (Option Value)} (hd : decode md.2.1 pc = .ok (.aload 14, 2)) (hn : pc + 2 = n) (kk : zX l G md d ac as n (a0 :: a1 :: a2 :: a3 :: a4 :: a5 :: a6 :: a7 :: a8 :: a9 :: a10 :: a11 :: a12 :: a13 :: some .null :: t) (.null :: st) Z I Q) : zX l G md d ac as pc (a0 :: a1 :: a2 :: a3 :: a4 :: a5 :: a6 :: a7 :: a8 :: a9 :: a10 :: a11 :: a12 :: a13 :: some .null :: t) st Z I Q := by
  intro p e R s m args below meth c H locs cells slots lc hc hr hH hS hl
  subst hn
  exact lv_aloadN hc.1 hc.2.1 hd (i := 14) (hl.2.2 14 _ rfl) (kk p e R s m args below meth c H locs cells slots lc hc hr hH hS hl)
theorem x_ild15 {l : Launch} {G : zG} {md : zD} {d ac as pc n : Nat} {st : List Value} {Z : zS} {I : zI} {Q : Option Value → zS → zI → Prop} {x : Int32} {a0 a1 a2 a3 a4 a5 a6 a7 a8 a9 a10 a11 a12 a13 a14 : Option Value} {t : List (Option Value)} (hd : decode md.2.1 pc = .ok (.iload 15, 2)) (hn : pc + 2 = n) (kk : zX l G md d ac as n (a0 :: a1 :: a2 :: a3 :: a4 :: a5 :: a6 :: a7 :: a8 :: a9 :: a10 :: a11 :: a12 :: a13 :: a14 :: some (.int x) :: t) (.int x :: st) Z I Q) : zX l G md d ac as pc (a0 :: a1 :: a2 :: a3 :: a4 :: a5 :: a6 :: a7 :: a8 :: a9 :: a10 :: a11 :: a12 :: a13 :: a14 :: some (.int x) :: t) st Z I Q := by
  intro p e R s m args below meth c H locs cells slots lc hc hr hH hS hl
  subst hn
  exact lv_iload hc.1 hc.2.1 hd (i := 15) (hl.2.2 15 _ rfl) (kk p e R s m args below meth c H locs cells slots lc hc hr hH hS hl)
theorem x_ald15 {l : Launch} {G : zG} {md : zD} {d ac as pc n : Nat} {st : List Value} {Z : zS} {I : zI} {Q : Option Value → zS → zI → Prop} {x : Nat} {a0 a1 a2 a3 a4 a5 a6 a7 a8 a9 a10 a11 a12 a13 a14 : Option Value} {t : List (Option Value)} (hd : decode md.2.1 pc = .ok (.aload 15, 2)) (hn : pc + 2 = n) (kk : zX l G md d ac as n (a0 :: a1 :: a2 :: a3 :: a4 :: a5 :: a6 :: a7 :: a8 :: a9 :: a10 :: a11 :: a12 :: a13 :: a14 :: some (.ref x) :: t) (.ref x :: st) Z I Q) : zX l G md d ac as pc (a0 :: a1 :: a2 :: a3 :: a4 :: a5 :: a6 :: a7 :: a8 :: a9 :: a10 :: a11 :: a12 :: a13 :: a14 :: some (.ref x) :: t) st Z I Q := by
  intro p e R s m args below meth c H locs cells slots lc hc hr hH hS hl
  subst hn
  exact lv_aload hc.1 hc.2.1 hd (i := 15) (hl.2.2 15 _ rfl) (kk p e R s m args below meth c H locs cells slots lc hc hr hH hS hl)
theorem x_nld15 {l : Launch} {G : zG} {md : zD} {d ac as pc n : Nat} {st : List Value} {Z : zS} {I : zI} {Q : Option Value → zS → zI → Prop}  {a0 a1 a2 a3 a4 a5 a6 a7 a8 a9 a10 a11 a12 a13 a14 : Option Value} {t : List (Option Value)} (hd : decode md.2.1 pc = .ok (.aload 15, 2)) (hn : pc + 2 = n) (kk : zX l G md d ac as n (a0 :: a1 :: a2 :: a3 :: a4 :: a5 :: a6 :: a7 :: a8 :: a9 :: a10 :: a11 :: a12 :: a13 :: a14 :: some .null :: t) (.null :: st) Z I Q) : zX l G md d ac as pc (a0 :: a1 :: a2 :: a3 :: a4 :: a5 :: a6 :: a7 :: a8 :: a9 :: a10 :: a11 :: a12 :: a13 :: a14 :: some .null :: t) st Z I Q := by
  intro p e R s m args below meth c H locs cells slots lc hc hr hH hS hl
  subst hn
  exact lv_aloadN hc.1 hc.2.1 hd (i := 15) (hl.2.2 15 _ rfl) (kk p e R s m args below meth c H locs cells slots lc hc hr hH hS hl)
def zc1 (o : Option Value) : Bool := match o with
  | some (.long _) => false
  | some (.double _) => false
  | _ => true
/-- the known locals as the kit lists them -/
def zpl (G : zG) (i : Nat) : List (Option Value) → List (Nat × Value)
  | [] => []
  | none :: t => zpl G (i + 1) t
  | some v :: t => (i, zv G v) :: zpl G (i + 1) t
theorem zpl_mem {G : zG} : ∀ {ls : List (Option Value)} {i : Nat} {q : Nat × Value}, q ∈ zpl G i ls → ∃ j v, ls[j]? = some (some v) ∧ q = (i + j, zv G v)
  | [], _, _, h => by cases h
  | none :: t, i, q, h => by
    obtain ⟨j, v, h1, h2⟩ := zpl_mem (ls := t) h
    exact ⟨j + 1, v, by simpa using h1, by rw [h2, Nat.add_assoc, Nat.add_comm 1 j]⟩
  | some w :: t, i, q, h => by
    rcases List.mem_cons.mp h with rfl | h
    · exact ⟨0, w, rfl, rfl⟩
    · obtain ⟨j, v, h1, h2⟩ := zpl_mem (ls := t) h
      exact ⟨j + 1, v, by simpa using h1, by rw [h2, Nat.add_assoc, Nat.add_comm 1 j]⟩
theorem zpl_in {G : zG} : ∀ {ls : List (Option Value)} {i j : Nat} {v : Value}, ls[j]? = some (some v) → (i + j, zv G v) ∈ zpl G i ls
  | [], _, j, _, h => by simp at h
  | none :: t, i, 0, v, h => by simp at h
  | none :: t, i, j + 1, v, h => by
    have := zpl_in (G := G) (ls := t) (i := i + 1) (j := j) (v := v) (by simpa using h)
    rw [Nat.add_assoc, Nat.add_comm 1 j] at this
    exact this
  | some w :: t, i, 0, v, h => by
    have : w = v := by simpa using h
    subst this
    exact List.mem_cons_self
  | some w :: t, i, j + 1, v, h => by
    have := zpl_in (G := G) (ls := t) (i := i + 1) (j := j) (v := v) (by simpa using h)
    rw [Nat.add_assoc, Nat.add_comm 1 j] at this
    exact List.mem_cons_of_mem _ this
theorem zls_has {G : zG} {n : Nat} {ls : List (Option Value)} {lc : Array Slot} (h : zls G n ls lc) : lv_has lc n (zpl G 0 ls) := by
  refine ⟨h.1, h.2.1, fun q hq => ?_⟩
  obtain ⟨j, v, h1, rfl⟩ := zpl_mem hq
  show lc[0 + j]? = _
  rw [Nat.zero_add]
  exact h.2.2 j v h1
theorem zls_of {G : zG} {n i : Nat} {ls : List (Option Value)} {lc : Array Slot} {w : Value} (hp : i = 0 ∨ ∃ o, ls[i - 1]? = some o ∧ zc1 o = true) (h : lv_has lc n ((i, zv G w) :: (zpl G 0 ls).filter (fun q => !(q.1 == i) && !(q.1 + 1 == i && q.2.category == 2)))) : zls G n (ls.set i (some w)) lc := by
  refine ⟨h.1, h.2.1, fun j v hj => ?_⟩
  by_cases hji : j = i
  · subst hji
    by_cases hl : j < ls.length
    · rw [List.getElem?_set_self hl] at hj
      have : w = v := by simpa using hj
      subst this
      exact h.2.2 (j, zv G w) List.mem_cons_self
    · rw [List.getElem?_eq_none (by rw [List.length_set]; omega)] at hj
      cases hj
  · rw [List.getElem?_set_ne (Ne.symm hji)] at hj
    refine h.2.2 (j, zv G v) (List.mem_cons_of_mem _ (List.mem_filter.mpr ⟨by have := zpl_in (G := G) (i := 0) hj; rwa [Nat.zero_add] at this, ?_⟩))
    simp only [Bool.and_eq_true, Bool.not_eq_true', beq_eq_false_iff_ne, ne_eq, Bool.and_eq_false_iff]
    refine ⟨hji, ?_⟩
    by_cases hji2 : j + 1 = i
    · right
      rcases hp with hp | ⟨o, h1, h2⟩
      · omega
      · rw [show i - 1 = j by omega, hj] at h1
        cases h1
        rw [zvm]
        cases v <;> simp_all [zc1, Value.category]
    · exact Or.inl hji2

theorem x_ist0 {l : Launch} {G : zG} {md : zD} {d ac as pc n : Nat} {st : List Value} {Z : zS} {I : zI} {Q : Option Value → zS → zI → Prop} {x : Int32} {b : Option Value} {t : List (Option Value)} (hd : decode md.2.1 pc = .ok (.istore_n 0, 1)) (hn : pc + 1 = n) (hb : 0 < md.2.2.1) (kk : zX l G md d ac as n (some (.int x) :: t) st Z I Q) : zX l G md d ac as pc (b :: t) (.int x :: st) Z I Q := by
  intro p e R s m args below meth c H locs cells slots lc hc hr hH hS hl
  subst hn
  exact lv_istore_n hc.1 hc.2.1 hd (i := 0) rfl (zls_has hl) hb rfl (fun lc hl => kk p e R s m args below meth c H locs cells slots lc hc hr hH hS (zls_of (w := .int x) (Or.inl rfl) hl))
theorem x_ast0 {l : Launch} {G : zG} {md : zD} {d ac as pc n : Nat} {st : List Value} {Z : zS} {I : zI} {Q : Option Value → zS → zI → Prop} {x : Nat} {b : Option Value} {t : List (Option Value)} (hd : decode md.2.1 pc = .ok (.astore_n 0, 1)) (hn : pc + 1 = n) (hb : 0 < md.2.2.1) (kk : zX l G md d ac as n (some (.ref x) :: t) st Z I Q) : zX l G md d ac as pc (b :: t) (.ref x :: st) Z I Q := by
  intro p e R s m args below meth c H locs cells slots lc hc hr hH hS hl
  subst hn
  exact lv_astore_n hc.1 hc.2.1 hd (i := 0) rfl (zls_has hl) hb rfl (fun lc hl => kk p e R s m args below meth c H locs cells slots lc hc hr hH hS (zls_of (w := .ref x) (Or.inl rfl) hl))
theorem x_nst0 {l : Launch} {G : zG} {md : zD} {d ac as pc n : Nat} {st : List Value} {Z : zS} {I : zI} {Q : Option Value → zS → zI → Prop}  {b : Option Value} {t : List (Option Value)} (hd : decode md.2.1 pc = .ok (.astore_n 0, 1)) (hn : pc + 1 = n) (hb : 0 < md.2.2.1) (kk : zX l G md d ac as n (some (.null) :: t) st Z I Q) : zX l G md d ac as pc (b :: t) (.null :: st) Z I Q := by
  intro p e R s m args below meth c H locs cells slots lc hc hr hH hS hl
  subst hn
  exact lv_astore_nN hc.1 hc.2.1 hd (i := 0) rfl (zls_has hl) hb rfl (fun lc hl => kk p e R s m args below meth c H locs cells slots lc hc hr hH hS (zls_of (w := .null) (Or.inl rfl) hl))
theorem x_iinc0 {l : Launch} {G : zG} {md : zD} {d ac as pc n : Nat} {st : List Value} {Z : zS} {I : zI} {Q : Option Value → zS → zI → Prop} {x v : Int32} {k : Int} {t : List (Option Value)} (hd : decode md.2.1 pc = .ok (.iinc 0 k, 3)) (hn : pc + 3 = n) (hb : 0 < md.2.2.1) (hv : x + Int32.ofInt k = v) (kk : zX l G md d ac as n (some (.int v) :: t) st Z I Q) : zX l G md d ac as pc (some (.int x) :: t) st Z I Q := by
  intro p e R s m args below meth c H locs cells slots lc hc hr hH hS hl
  subst hn
  have hm := zpl_in (G := G) (ls := (some (.int x) :: t)) (i := 0) (j := 0) (v := .int x) rfl
  rw [Nat.zero_add] at hm
  obtain ⟨kq, hkq⟩ := List.getElem?_of_mem hm
  exact lv_iinc hc.1 hc.2.1 hd (zls_has hl) (k := kq) hkq hv hb rfl (fun lc hl => kk p e R s m args below meth c H locs cells slots lc hc hr hH hS (zls_of (w := .int v) (Or.inl rfl) hl))
theorem x_ist1 {l : Launch} {G : zG} {md : zD} {d ac as pc n : Nat} {st : List Value} {Z : zS} {I : zI} {Q : Option Value → zS → zI → Prop} {x : Int32} {a0 b : Option Value} {t : List (Option Value)} (hd : decode md.2.1 pc = .ok (.istore_n 1, 1)) (hn : pc + 1 = n) (hb : 1 < md.2.2.1) (hp : zc1 a0 = true) (kk : zX l G md d ac as n (a0 :: some (.int x) :: t) st Z I Q) : zX l G md d ac as pc (a0 :: b :: t) (.int x :: st) Z I Q := by
  intro p e R s m args below meth c H locs cells slots lc hc hr hH hS hl
  subst hn
  exact lv_istore_n hc.1 hc.2.1 hd (i := 1) rfl (zls_has hl) hb rfl (fun lc hl => kk p e R s m args below meth c H locs cells slots lc hc hr hH hS (zls_of (w := .int x) (Or.inr ⟨_, rfl, hp⟩) hl))
theorem x_ast1 {l : Launch} {G : zG} {md : zD} {d ac as pc n : Nat} {st : List Value} {Z : zS} {I : zI} {Q : Option Value → zS → zI → Prop} {x : Nat} {a0 b : Option Value} {t : List (Option Value)} (hd : decode md.2.1 pc = .ok (.astore_n 1, 1)) (hn : pc + 1 = n) (hb : 1 < md.2.2.1) (hp : zc1 a0 = true) (kk : zX l G md d ac as n (a0 :: some (.ref x) :: t) st Z I Q) : zX l G md d ac as pc (a0 :: b :: t) (.ref x :: st) Z I Q := by
  intro p e R s m args below meth c H locs cells slots lc hc hr hH hS hl
  subst hn
  exact lv_astore_n hc.1 hc.2.1 hd (i := 1) rfl (zls_has hl) hb rfl (fun lc hl => kk p e R s m args below meth c H locs cells slots lc hc hr hH hS (zls_of (w := .ref x) (Or.inr ⟨_, rfl, hp⟩) hl))
theorem x_nst1 {l : Launch} {G : zG} {md : zD} {d ac as pc n : Nat} {st : List Value} {Z : zS} {I : zI} {Q : Option Value → zS → zI → Prop}  {a0 b : Option Value} {t : List (Option Value)} (hd : decode md.2.1 pc = .ok (.astore_n 1, 1)) (hn : pc + 1 = n) (hb : 1 < md.2.2.1) (hp : zc1 a0 = true) (kk : zX l G md d ac as n (a0 :: some (.null) :: t) st Z I Q) : zX l G md d ac as pc (a0 :: b :: t) (.null :: st) Z I Q := by
  intro p e R s m args below meth c H locs cells slots lc hc hr hH hS hl
  subst hn
  exact lv_astore_nN hc.1 hc.2.1 hd (i := 1) rfl (zls_has hl) hb rfl (fun lc hl => kk p e R s m args below meth c H locs cells slots lc hc hr hH hS (zls_of (w := .null) (Or.inr ⟨_, rfl, hp⟩) hl))
theorem x_iinc1 {l : Launch} {G : zG} {md : zD} {d ac as pc n : Nat} {st : List Value} {Z : zS} {I : zI} {Q : Option Value → zS → zI → Prop} {x v : Int32} {k : Int} {a0 : Option Value} {t : List (Option Value)} (hd : decode md.2.1 pc = .ok (.iinc 1 k, 3)) (hn : pc + 3 = n) (hb : 1 < md.2.2.1) (hv : x + Int32.ofInt k = v) (hp : zc1 a0 = true) (kk : zX l G md d ac as n (a0 :: some (.int v) :: t) st Z I Q) : zX l G md d ac as pc (a0 :: some (.int x) :: t) st Z I Q := by
  intro p e R s m args below meth c H locs cells slots lc hc hr hH hS hl
  subst hn
  have hm := zpl_in (G := G) (ls := (a0 :: some (.int x) :: t)) (i := 0) (j := 1) (v := .int x) rfl
  rw [Nat.zero_add] at hm
  obtain ⟨kq, hkq⟩ := List.getElem?_of_mem hm
  exact lv_iinc hc.1 hc.2.1 hd (zls_has hl) (k := kq) hkq hv hb rfl (fun lc hl => kk p e R s m args below meth c H locs cells slots lc hc hr hH hS (zls_of (w := .int v) (Or.inr ⟨_, rfl, hp⟩) hl))
theorem x_ist2 {l : Launch} {G : zG} {md : zD} {d ac as pc n : Nat} {st : List Value} {Z : zS} {I : zI} {Q : Option Value → zS → zI → Prop} {x : Int32} {a0 a1 b : Option Value} {t : List (Option Value)} (hd : decode md.2.1 pc = .ok (.istore_n 2, 1)) (hn : pc + 1 = n) (hb : 2 < md.2.2.1) (hp : zc1 a1 = true) (kk : zX l G md d ac as n (a0 :: a1 :: some (.int x) :: t) st Z I Q) : zX l G md d ac as pc (a0 :: a1 :: b :: t) (.int x :: st) Z I Q := by
  intro p e R s m args below meth c H locs cells slots lc hc hr hH hS hl
  subst hn
  exact lv_istore_n hc.1 hc.2.1 hd (i := 2) rfl (zls_has hl) hb rfl (fun lc hl => kk p e R s m args below meth c H locs cells slots lc hc hr hH hS (zls_of (w := .int x) (Or.inr ⟨_, rfl, hp⟩) hl))
theorem x_ast2 {l : Launch} {G : zG} {md : zD} {d ac as pc n : Nat} {st : List Value} {Z : zS} {I : zI} {Q : Option Value → zS → zI → Prop} {x : Nat} {a0 a1 b : Option Value} {t : List (Option Value)} (hd : decode md.2.1 pc = .ok (.astore_n 2, 1)) (hn : pc + 1 = n) (hb : 2 < md.2.2.1) (hp : zc1 a1 = true) (kk : zX l G md d ac as n (a0 :: a1 :: some (.ref x) :: t) st Z I Q) : zX l G md d ac as pc (a0 :: a1 :: b :: t) (.ref x :: st) Z I Q := by
  intro p e R s m args below meth c H locs cells slots lc hc hr hH hS hl
  subst hn
  exact lv_astore_n hc.1 hc.2.1 hd (i := 2) rfl (zls_has hl) hb rfl (fun lc hl => kk p e R s m args below meth c H locs cells slots lc hc hr hH hS (zls_of (w := .ref x) (Or.inr ⟨_, rfl, hp⟩) hl))
theorem x_nst2 {l : Launch} {G : zG} {md : zD} {d ac as pc n : Nat} {st : List Value} {Z : zS} {I : zI} {Q : Option Value → zS → zI → Prop}  {a0 a1 b : Option Value} {t : List (Option Value)} (hd : decode md.2.1 pc = .ok (.astore_n 2, 1)) (hn : pc + 1 = n) (hb : 2 < md.2.2.1) (hp : zc1 a1 = true) (kk : zX l G md d ac as n (a0 :: a1 :: some (.null) :: t) st Z I Q) : zX l G md d ac as pc (a0 :: a1 :: b :: t) (.null :: st) Z I Q := by
  intro p e R s m args below meth c H locs cells slots lc hc hr hH hS hl
  subst hn
  exact lv_astore_nN hc.1 hc.2.1 hd (i := 2) rfl (zls_has hl) hb rfl (fun lc hl => kk p e R s m args below meth c H locs cells slots lc hc hr hH hS (zls_of (w := .null) (Or.inr ⟨_, rfl, hp⟩) hl))
theorem x_iinc2 {l : Launch} {G : zG} {md : zD} {d ac as pc n : Nat} {st : List Value} {Z : zS} {I : zI} {Q : Option Value → zS → zI → Prop} {x v : Int32} {k : Int} {a0 a1 : Option Value} {t : List (Option Value)} (hd : decode md.2.1 pc = .ok (.iinc 2 k, 3)) (hn : pc + 3 = n) (hb : 2 < md.2.2.1) (hv : x + Int32.ofInt k = v) (hp : zc1 a1 = true) (kk : zX l G md d ac as n (a0 :: a1 :: some (.int v) :: t) st Z I Q) : zX l G md d ac as pc (a0 :: a1 :: some (.int x) :: t) st Z I Q := by
  intro p e R s m args below meth c H locs cells slots lc hc hr hH hS hl
  subst hn
  have hm := zpl_in (G := G) (ls := (a0 :: a1 :: some (.int x) :: t)) (i := 0) (j := 2) (v := .int x) rfl
  rw [Nat.zero_add] at hm
  obtain ⟨kq, hkq⟩ := List.getElem?_of_mem hm
  exact lv_iinc hc.1 hc.2.1 hd (zls_has hl) (k := kq) hkq hv hb rfl (fun lc hl => kk p e R s m args below meth c H locs cells slots lc hc hr hH hS (zls_of (w := .int v) (Or.inr ⟨_, rfl, hp⟩) hl))
theorem x_ist3 {l : Launch} {G : zG} {md : zD} {d ac as pc n : Nat} {st : List Value} {Z : zS} {I : zI} {Q : Option Value → zS → zI → Prop} {x : Int32} {a0 a1 a2 b : Option Value} {t : List (Option Value)} (hd : decode md.2.1 pc = .ok (.istore_n 3, 1)) (hn : pc + 1 = n) (hb : 3 < md.2.2.1) (hp : zc1 a2 = true) (kk : zX l G md d ac as n (a0 :: a1 :: a2 :: some (.int x) :: t) st Z I Q) : zX l G md d ac as pc (a0 :: a1 :: a2 :: b :: t) (.int x :: st) Z I Q := by
  intro p e R s m args below meth c H locs cells slots lc hc hr hH hS hl
  subst hn
  exact lv_istore_n hc.1 hc.2.1 hd (i := 3) rfl (zls_has hl) hb rfl (fun lc hl => kk p e R s m args below meth c H locs cells slots lc hc hr hH hS (zls_of (w := .int x) (Or.inr ⟨_, rfl, hp⟩) hl))
theorem x_ast3 {l : Launch} {G : zG} {md : zD} {d ac as pc n : Nat} {st : List Value} {Z : zS} {I : zI} {Q : Option Value → zS → zI → Prop} {x : Nat} {a0 a1 a2 b : Option Value} {t : List (Option Value)} (hd : decode md.2.1 pc = .ok (.astore_n 3, 1)) (hn : pc + 1 = n) (hb : 3 < md.2.2.1) (hp : zc1 a2 = true) (kk : zX l G md d ac as n (a0 :: a1 :: a2 :: some (.ref x) :: t) st Z I Q) : zX l G md d ac as pc (a0 :: a1 :: a2 :: b :: t) (.ref x :: st) Z I Q := by
  intro p e R s m args below meth c H locs cells slots lc hc hr hH hS hl
  subst hn
  exact lv_astore_n hc.1 hc.2.1 hd (i := 3) rfl (zls_has hl) hb rfl (fun lc hl => kk p e R s m args below meth c H locs cells slots lc hc hr hH hS (zls_of (w := .ref x) (Or.inr ⟨_, rfl, hp⟩) hl))
theorem x_nst3 {l : Launch} {G : zG} {md : zD} {d ac as pc n : Nat} {st : List Value} {Z : zS} {I : zI} {Q : Option Value → zS → zI → Prop}  {a0 a1 a2 b : Option Value} {t : List (Option Value)} (hd : decode md.2.1 pc = .ok (.astore_n 3, 1)) (hn : pc + 1 = n) (hb : 3 < md.2.2.1) (hp : zc1 a2 = true) (kk : zX l G md d ac as n (a0 :: a1 :: a2 :: some (.null) :: t) st Z I Q) : zX l G md d ac as pc (a0 :: a1 :: a2 :: b :: t) (.null :: st) Z I Q := by
  intro p e R s m args below meth c H locs cells slots lc hc hr hH hS hl
  subst hn
  exact lv_astore_nN hc.1 hc.2.1 hd (i := 3) rfl (zls_has hl) hb rfl (fun lc hl => kk p e R s m args below meth c H locs cells slots lc hc hr hH hS (zls_of (w := .null) (Or.inr ⟨_, rfl, hp⟩) hl))
theorem x_iinc3 {l : Launch} {G : zG} {md : zD} {d ac as pc n : Nat} {st : List Value} {Z : zS} {I : zI} {Q : Option Value → zS → zI → Prop} {x v : Int32} {k : Int} {a0 a1 a2 : Option Value} {t : List (Option Value)} (hd : decode md.2.1 pc = .ok (.iinc 3 k, 3)) (hn : pc + 3 = n) (hb : 3 < md.2.2.1) (hv : x + Int32.ofInt k = v) (hp : zc1 a2 = true) (kk : zX l G md d ac as n (a0 :: a1 :: a2 :: some (.int v) :: t) st Z I Q) : zX l G md d ac as pc (a0 :: a1 :: a2 :: some (.int x) :: t) st Z I Q := by
  intro p e R s m args below meth c H locs cells slots lc hc hr hH hS hl
  subst hn
  have hm := zpl_in (G := G) (ls := (a0 :: a1 :: a2 :: some (.int x) :: t)) (i := 0) (j := 3) (v := .int x) rfl
  rw [Nat.zero_add] at hm
  obtain ⟨kq, hkq⟩ := List.getElem?_of_mem hm
  exact lv_iinc hc.1 hc.2.1 hd (zls_has hl) (k := kq) hkq hv hb rfl (fun lc hl => kk p e R s m args below meth c H locs cells slots lc hc hr hH hS (zls_of (w := .int v) (Or.inr ⟨_, rfl, hp⟩) hl))
theorem x_ist4 {l : Launch} {G : zG} {md : zD} {d ac as pc n : Nat} {st : List Value} {Z : zS} {I : zI} {Q : Option Value → zS → zI → Prop} {x : Int32} {a0 a1 a2 a3 b : Option Value} {t : List (Option Value)} (hd : decode md.2.1 pc = .ok (.istore 4, 2)) (hn : pc + 2 = n) (hb : 4 < md.2.2.1) (hp : zc1 a3 = true) (kk : zX l G md d ac as n (a0 :: a1 :: a2 :: a3 :: some (.int x) :: t) st Z I Q) : zX l G md d ac as pc (a0 :: a1 :: a2 :: a3 :: b :: t) (.int x :: st) Z I Q := by
  intro p e R s m args below meth c H locs cells slots lc hc hr hH hS hl
  subst hn
  exact lv_istore hc.1 hc.2.1 hd (i := 4) (zls_has hl) hb rfl (fun lc hl => kk p e R s m args below meth c H locs cells slots lc hc hr hH hS (zls_of (w := .int x) (Or.inr ⟨_, rfl, hp⟩) hl))
theorem x_ast4 {l : Launch} {G : zG} {md : zD} {d ac as pc n : Nat} {st : List Value} {Z : zS} {I : zI} {Q : Option Value → zS → zI → Prop} {x : Nat} {a0 a1 a2 a3 b : Option Value} {t : List (Option Value)} (hd : decode md.2.1 pc = .ok (.astore 4, 2)) (hn : pc + 2 = n) (hb : 4 < md.2.2.1) (hp : zc1 a3 = true) (kk : zX l G md d ac as n (a0 :: a1 :: a2 :: a3 :: some (.ref x) :: t) st Z I Q) : zX l G md d ac as pc (a0 :: a1 :: a2 :: a3 :: b :: t) (.ref x :: st) Z I Q := by
  intro p e R s m args below meth c H locs cells slots lc hc hr hH hS hl
  subst hn
  exact lv_astore hc.1 hc.2.1 hd (i := 4) (zls_has hl) hb rfl (fun lc hl => kk p e R s m args below meth c H locs cells slots lc hc hr hH hS (zls_of (w := .ref x) (Or.inr ⟨_, rfl, hp⟩) hl))
theorem x_nst4 {l : Launch} {G : zG} {md : zD} {d ac as pc n : Nat} {st : List Value} {Z : zS} {I : zI} {Q : Option Value → zS → zI → Prop}  {a0 a1 a2 a3 b : Option Value} {t : List (Option Value)} (hd : decode md.2.1 pc = .ok (.astore 4, 2)) (hn : pc + 2 = n) (hb : 4 < md.2.2.1) (hp : zc1 a3 = true) (kk : zX l G md d ac as n (a0 :: a1 :: a2 :: a3 :: some (.null) :: t) st Z I Q) : zX l G md d ac as pc (a0 :: a1 :: a2 :: a3 :: b :: t) (.null :: st) Z I Q := by
  intro p e R s m args below meth c H locs cells slots lc hc hr hH hS hl
  subst hn
  exact lv_astoreN hc.1 hc.2.1 hd (i := 4) (zls_has hl) hb rfl (fun lc hl => kk p e R s m args below meth c H locs cells slots lc hc hr hH hS (zls_of (w := .null) (Or.inr ⟨_, rfl, hp⟩) hl))
theorem x_iinc4 {l : Launch} {G : zG} {md : zD} {d ac as pc n : Nat} {st : List Value} {Z : zS} {I : zI} {Q : Option Value → zS → zI → Prop} {x v : Int32} {k : Int} {a0 a1 a2 a3 : Option Value} {t : List (Option Value)} (hd : decode md.2.1 pc = .ok (.iinc 4 k, 3)) (hn : pc + 3 = n) (hb : 4 < md.2.2.1) (hv : x + Int32.ofInt k = v) (hp : zc1 a3 = true) (kk : zX l G md d ac as n (a0 :: a1 :: a2 :: a3 :: some (.int v) :: t) st Z I Q) : zX l G md d ac as pc (a0 :: a1 :: a2 :: a3 :: some (.int x) :: t) st Z I Q := by
  intro p e R s m args below meth c H locs cells slots lc hc hr hH hS hl
  subst hn
  have hm := zpl_in (G := G) (ls := (a0 :: a1 :: a2 :: a3 :: some (.int x) :: t)) (i := 0) (j := 4) (v := .int x) rfl
  rw [Nat.zero_add] at hm
  obtain ⟨kq, hkq⟩ := List.getElem?_of_mem hm
  exact lv_iinc hc.1 hc.2.1 hd (zls_has hl) (k := kq) hkq hv hb rfl (fun lc hl => kk p e R s m args below meth c H locs cells slots lc hc hr hH hS (zls_of (w := .int v) (Or.inr ⟨_, rfl, hp⟩) hl))
theorem x_ist5 {l : Launch} {G : zG} {md : zD} {d ac as pc n : Nat} {st : List Value} {Z : zS} {I : zI} {Q : Option Value → zS → zI → Prop} {x : Int32} {a0 a1 a2 a3 a4 b : Option Value} {t : List (Option Value)} (hd : decode md.2.1 pc = .ok (.istore 5, 2)) (hn : pc + 2 = n) (hb : 5 < md.2.2.1) (hp : zc1 a4 = true) (kk : zX l G md d ac as n (a0 :: a1 :: a2 :: a3 :: a4 :: some (.int x) :: t) st Z I Q) : zX l G md d ac as pc (a0 :: a1 :: a2 :: a3 :: a4 :: b :: t) (.int x :: st) Z I Q := by
  intro p e R s m args below meth c H locs cells slots lc hc hr hH hS hl
  subst hn
  exact lv_istore hc.1 hc.2.1 hd (i := 5) (zls_has hl) hb rfl (fun lc hl => kk p e R s m args below meth c H locs cells slots lc hc hr hH hS (zls_of (w := .int x) (Or.inr ⟨_, rfl, hp⟩) hl))
theorem x_ast5 {l : Launch} {G : zG} {md : zD} {d ac as pc n : Nat} {st : List Value} {Z : zS} {I : zI} {Q : Option Value → zS → zI → Prop} {x : Nat} {a0 a1 a2 a3 a4 b : Option Value} {t : List (Option Value)} (hd : decode md.2.1 pc = .ok (.astore 5, 2)) (hn : pc + 2 = n) (hb : 5 < md.2.2.1) (hp : zc1 a4 = true) (kk : zX l G md d ac as n (a0 :: a1 :: a2 :: a3 :: a4 :: some (.ref x) :: t) st Z I Q) : zX l G md d ac as pc (a0 :: a1 :: a2 :: a3 :: a4 :: b :: t) (.ref x :: st) Z I Q := by
  intro p e R s m args below meth c H locs cells slots lc hc hr hH hS hl
  subst hn
  exact lv_astore hc.1 hc.2.1 hd (i := 5) (zls_has hl) hb rfl (fun lc hl => kk p e R s m args below meth c H locs cells slots lc hc hr hH hS (zls_of (w := .ref x) (Or.inr ⟨_, rfl, hp⟩) hl))
theorem x_nst5 {l : Launch} {G : zG} {md : zD} {d ac as pc n : Nat} {st : List Value} {Z : zS} {I : zI} {Q : Option Value → zS → zI → Prop}  {a0 a1 a2 a3 a4 b : Option Value} {t : List (Option Value)} (hd : decode md.2.1 pc = .ok (.astore 5, 2)) (hn : pc + 2 = n) (hb : 5 < md.2.2.1) (hp : zc1 a4 = true) (kk : zX l G md d ac as n (a0 :: a1 :: a2 :: a3 :: a4 :: some (.null) :: t) st Z I Q) : zX l G md d ac as pc (a0 :: a1 :: a2 :: a3 :: a4 :: b :: t) (.null :: st) Z I Q := by
  intro p e R s m args below meth c H locs cells slots lc hc hr hH hS hl
  subst hn
  exact lv_astoreN hc.1 hc.2.1 hd (i := 5) (zls_has hl) hb rfl (fun lc hl => kk p e R s m args below meth c H locs cells slots lc hc hr hH hS (zls_of (w := .null) (Or.inr ⟨_, rfl, hp⟩) hl))
theorem x_iinc5 {l : Launch} {G : zG} {md : zD} {d ac as pc n : Nat} {st : List Value} {Z : zS} {I : zI} {Q : Option Value → zS → zI → Prop} {x v : Int32} {k : Int} {a0 a1 a2 a3 a4 : Option Value} {t : List (Option Value)} (hd : decode md.2.1 pc = .ok (.iinc 5 k, 3)) (hn : pc + 3 = n) (hb : 5 < md.2.2.1) (hv : x + Int32.ofInt k = v) (hp : zc1 a4 = true) (kk : zX l G md d ac as n (a0 :: a1 :: a2 :: a3 :: a4 :: some (.int v) :: t) st Z I Q) : zX l G md d ac as pc (a0 :: a1 :: a2 :: a3 :: a4 :: some (.int x) :: t) st Z I Q := by
  intro p e R s m args below meth c H locs cells slots lc hc hr hH hS hl
  subst hn
  have hm := zpl_in (G := G) (ls := (a0 :: a1 :: a2 :: a3 :: a4 :: some (.int x) :: t)) (i := 0) (j := 5) (v := .int x) rfl
  rw [Nat.zero_add] at hm
  obtain ⟨kq, hkq⟩ := List.getElem?_of_mem hm
  exact lv_iinc hc.1 hc.2.1 hd (zls_has hl) (k := kq) hkq hv hb rfl (fun lc hl => kk p e R s m args below meth c H locs cells slots lc hc hr hH hS (zls_of (w := .int v) (Or.inr ⟨_, rfl, hp⟩) hl))
theorem x_ist6 {l : Launch} {G : zG} {md : zD} {d ac as pc n : Nat} {st : List Value} {Z : zS} {I : zI} {Q : Option Value → zS → zI → Prop} {x : Int32} {a0 a1 a2 a3 a4 a5 b : Option Value} {t : List (Option Value)} (hd : decode md.2.1 pc = .ok (.istore 6, 2)) (hn : pc + 2 = n) (hb : 6 < md.2.2.1) (hp : zc1 a5 = true) (kk : zX l G md d ac as n (a0 :: a1 :: a2 :: a3 :: a4 :: a5 :: some (.int x) :: t) st Z I Q) : zX l G md d ac as pc (a0 :: a1 :: a2 :: a3 :: a4 :: a5 :: b :: t) (.int x :: st) Z I Q := by
  intro p e R s m args below meth c H locs cells slots lc hc hr hH hS hl
  subst hn
  exact lv_istore hc.1 hc.2.1 hd (i := 6) (zls_has hl) hb rfl (fun lc hl => kk p e R s m args below meth c H locs cells slots lc hc hr hH hS (zls_of (w := .int x) (Or.inr ⟨_, rfl, hp⟩) hl))
theorem x_ast6 {l : Launch} {G : zG} {md : zD} {d ac as pc n : Nat} {st : List Value} {Z : zS} {I : zI} {Q : Option Value → zS → zI → Prop} {x : Nat} {a0 a1 a2 a3 a4 a5 b : Option Value} {t : List (Option Value)} (hd : decode md.2.1 pc = .ok (.astore 6, 2)) (hn : pc + 2 = n) (hb : 6 < md.2.2.1) (hp : zc1 a5 = true) (kk : zX l G md d ac as n (a0 :: a1 :: a2 :: a3 :: a4 :: a5 :: some (.ref x) :: t) st Z I Q) : zX l G md d ac as pc (a0 :: a1 :: a2 :: a3 :: a4 :: a5 :: b :: t) (.ref x :: st) Z I Q := by
  intro p e R s m args below meth c H locs cells slots lc hc hr hH hS hl
  subst hn
  exact lv_astore hc.1 hc.2.1 hd (i := 6) (zls_has hl) hb rfl (fun lc hl => kk p e R s m args below meth c H locs cells slots lc hc hr hH hS (zls_of (w := .ref x) (Or.inr ⟨_, rfl, hp⟩) hl))
theorem x_nst6 {l : Launch} {G : zG} {md : zD} {d ac as pc n : Nat} {st : List Value} {Z : zS} {I : zI} {Q : Option Value → zS → zI → Prop}  {a0 a1 a2 a3 a4 a5 b : Option Value} {t : List (Option Value)} (hd : decode md.2.1 pc = .ok (.astore 6, 2)) (hn : pc + 2 = n) (hb : 6 < md.2.2.1) (hp : zc1 a5 = true) (kk : zX l G md d ac as n (a0 :: a1 :: a2 :: a3 :: a4 :: a5 :: some (.null) :: t) st Z I Q) : zX l G md d ac as pc (a0 :: a1 :: a2 :: a3 :: a4 :: a5 :: b :: t) (.null :: st) Z I Q := by
  intro p e R s m args below meth c H locs cells slots lc hc hr hH hS hl
  subst hn
  exact lv_astoreN hc.1 hc.2.1 hd (i := 6) (zls_has hl) hb rfl (fun lc hl => kk p e R s m args below meth c H locs cells slots lc hc hr hH hS (zls_of (w := .null) (Or.inr ⟨_, rfl, hp⟩) hl))
theorem x_iinc6 {l : Launch} {G : zG} {md : zD} {d ac as pc n : Nat} {st : List Value} {Z : zS} {I : zI} {Q : Option Value → zS → zI → Prop} {x v : Int32} {k : Int} {a0 a1 a2 a3 a4 a5 : Option Value} {t : List (Option Value)} (hd : decode md.2.1 pc = .ok (.iinc 6 k, 3)) (hn : pc + 3 = n) (hb : 6 < md.2.2.1) (hv : x + Int32.ofInt k = v) (hp : zc1 a5 = true) (kk : zX l G md d ac as n (a0 :: a1 :: a2 :: a3 :: a4 :: a5 :: some (.int v) :: t) st Z I Q) : zX l G md d ac as pc (a0 :: a1 :: a2 :: a3 :: a4 :: a5 :: some (.int x) :: t) st Z I Q := by
  intro p e R s m args below meth c H locs cells slots lc hc hr hH hS hl
  subst hn
  have hm := zpl_in (G := G) (ls := (a0 :: a1 :: a2 :: a3 :: a4 :: a5 :: some (.int x) :: t)) (i := 0) (j := 6) (v := .int x) rfl
  rw [Nat.zero_add] at hm
  obtain ⟨kq, hkq⟩ := List.getElem?_of_mem hm
  exact lv_iinc hc.1 hc.2.1 hd (zls_has hl) (k := kq) hkq hv hb rfl (fun lc hl => kk p e R s m args below meth c H locs cells slots lc hc hr hH hS (zls_of (w := .int v) (Or.inr ⟨_, rfl, hp⟩) hl))
theorem x_ist7 {l : Launch} {G : zG} {md : zD} {d ac as pc n : Nat} {st : List Value} {Z : zS} {I : zI} {Q : Option Value → zS → zI → Prop} {x : Int32} {a0 a1 a2 a3 a4 a5 a6 b : Option Value} {t : List (Option Value)} (hd : decode md.2.1 pc = .ok (.istore 7, 2)) (hn : pc + 2 = n) (hb : 7 < md.2.2.1) (hp : zc1 a6 = true) (kk : zX l G md d ac as n (a0 :: a1 :: a2 :: a3 :: a4 :: a5 :: a6 :: some (.int x) :: t) st Z I Q) : zX l G md d ac as pc (a0 :: a1 :: a2 :: a3 :: a4 :: a5 :: a6 :: b :: t) (.int x :: st) Z I Q := by
  intro p e R s m args below meth c H locs cells slots lc hc hr hH hS hl
  subst hn
  exact lv_istore hc.1 hc.2.1 hd (i := 7) (zls_has hl) hb rfl (fun lc hl => kk p e R s m args below meth c H locs cells slots lc hc hr hH hS (zls_of (w := .int x) (Or.inr ⟨_, rfl, hp⟩) hl))
theorem x_ast7 {l : Launch} {G : zG} {md : zD} {d ac as pc n : Nat} {st : List Value} {Z : zS} {I : zI} {Q : Option Value → zS → zI → Prop} {x : Nat} {a0 a1 a2 a3 a4 a5 a6 b : Option Value} {t : List (Option Value)} (hd : decode md.2.1 pc = .ok (.astore 7, 2)) (hn : pc + 2 = n) (hb : 7 < md.2.2.1) (hp : zc1 a6 = true) (kk : zX l G md d ac as n (a0 :: a1 :: a2 :: a3 :: a4 :: a5 :: a6 :: some (.ref x) :: t) st Z I Q) : zX l G md d ac as pc (a0 :: a1 :: a2 :: a3 :: a4 :: a5 :: a6 :: b :: t) (.ref x :: st) Z I Q := by
  intro p e R s m args below meth c H locs cells slots lc hc hr hH hS hl
  subst hn
  exact lv_astore hc.1 hc.2.1 hd (i := 7) (zls_has hl) hb rfl (fun lc hl => kk p e R s m args below meth c H locs cells slots lc hc hr hH hS (zls_of (w := .ref x) (Or.inr ⟨_, rfl, hp⟩) hl))
theorem x_nst7 {l : Launch} {G : zG} {md : zD} {d ac as pc n : Nat} {st : List Value} {Z : zS} {I : zI} {Q : Option Value → zS → zI → Prop}  {a0 a1 a2 a3 a4 a5 a6 b : Option Value} {t : List (Option Value)} (hd : decode md.2.1 pc = .ok (.astore 7, 2)) (hn : pc + 2 = n) (hb : 7 < md.2.2.1) (hp : zc1 a6 = true) (kk : zX l G md d ac as n (a0 :: a1 :: a2 :: a3 :: a4 :: a5 :: a6 :: some (.null) :: t) st Z I Q) : zX l G md d ac as pc (a0 :: a1 :: a2 :: a3 :: a4 :: a5 :: a6 :: b :: t) (.null :: st) Z I Q := by
  intro p e R s m args below meth c H locs cells slots lc hc hr hH hS hl
  subst hn
  exact lv_astoreN hc.1 hc.2.1 hd (i := 7) (zls_has hl) hb rfl (fun lc hl => kk p e R s m args below meth c H locs cells slots lc hc hr hH hS (zls_of (w := .null) (Or.inr ⟨_, rfl, hp⟩) hl))
theorem x_iinc7 {l : Launch} {G : zG} {md : zD} {d ac as pc n : Nat} {st : List Value} {Z : zS} {I : zI} {Q : Option Value → zS → zI → Prop} {x v : Int32} {k : Int} {a0 a1 a2 a3 a4 a5 a6 : Option Value} {t : List (Option Value)} (hd : decode md.2.1 pc = .ok (.iinc 7 k, 3)) (hn : pc + 3 = n) (hb : 7 < md.2.2.1) (hv : x + Int32.ofInt k = v) (hp : zc1 a6 = true) (kk : zX l G md d ac as n (a0 :: a1 :: a2 :: a3 :: a4 :: a5 :: a6 :: some (.int v) :: t) st Z I Q) : zX l G md d ac as pc (a0 :: a1 :: a2 :: a3 :: a4 :: a5 :: a6 :: some (.int x) :: t) st Z I Q := by
  intro p e R s m args below meth c H locs cells slots lc hc hr hH hS hl
  subst hn
  have hm := zpl_in (G := G) (ls := (a0 :: a1 :: a2 :: a3 :: a4 :: a5 :: a6 :: some (.int x) :: t)) (i := 0) (j := 7) (v := .int x) rfl
  rw [Nat.zero_add] at hm
  obtain ⟨kq, hkq⟩ := List.getElem?_of_mem hm
  exact lv_iinc hc.1 hc.2.1 hd (zls_has hl) (k := kq) hkq hv hb rfl (fun lc hl => kk p e R s m args below meth c H locs cells slots lc hc hr hH hS (zls_of (w := .int v) (Or.inr ⟨_, rfl, hp⟩) hl))
theorem x_ist8 {l : Launch} {G : zG} {md : zD} {d ac as pc n : Nat} {st : List Value} {Z : zS} {I : zI} {Q : Option Value → zS → zI → Prop} {x : Int32} {a0 a1 a2 a3 a4 a5 a6 a7 b : Option Value} {t : List (Option Value)} (hd : decode md.2.1 pc = .ok (.istore 8, 2)) (hn : pc + 2 = n) (hb : 8 < md.2.2.1) (hp : zc1 a7 = true) (kk : zX l G md d ac as n (a0 :: a1 :: a2 :: a3 :: a4 :: a5 :: a6 :: a7 :: some (.int x) :: t) st Z I Q) : zX l G md d ac as pc (a0 :: a1 :: a2 :: a3 :: a4 :: a5 :: a6 :: a7 :: b :: t) (.int x :: st) Z I Q := by
  intro p e R s m args below meth c H locs cells slots lc hc hr hH hS hl
  subst hn
  exact lv_istore hc.1 hc.2.1 hd (i := 8) (zls_has hl) hb rfl (fun lc hl => kk p e R s m args below meth c H locs cells slots lc hc hr hH hS (zls_of (w := .int x) (Or.inr ⟨_, rfl, hp⟩) hl))
theorem x_ast8 {l : Launch} {G : zG} {md : zD} {d ac as pc n : Nat} {st : List Value} {Z : zS} {I : zI} {Q : Option Value → zS → zI → Prop} {x : Nat} {a0 a1 a2 a3 a4 a5 a6 a7 b : Option Value} {t : List (Option Value)} (hd : decode md.2.1 pc = .ok (.astore 8, 2)) (hn : pc + 2 = n) (hb : 8 < md.2.2.1) (hp : zc1 a7 = true) (kk : zX l G md d ac as n (a0 :: a1 :: a2 :: a3 :: a4 :: a5 :: a6 :: a7 :: some (.ref x) :: t) st Z I Q) : zX l G md d ac as pc (a0 :: a1 :: a2 :: a3 :: a4 :: a5 :: a6 :: a7 :: b :: t) (.ref x :: st) Z I Q := by
  intro p e R s m args below meth c H locs cells slots lc hc hr hH hS hl
  subst hn
  exact lv_astore hc.1 hc.2.1 hd (i := 8) (zls_has hl) hb rfl (fun lc hl => kk p e R s m args below meth c H locs cells slots lc hc hr hH hS (zls_of (w := .ref x) (Or.inr ⟨_, rfl, hp⟩) hl))
theorem x_nst8 {l : Launch} {G : zG} {md : zD} {d ac as pc n : Nat} {st : List Value} {Z : zS} {I : zI} {Q : Option Value → zS → zI → Prop}  {a0 a1 a2 a3 a4 a5 a6 a7 b : Option Value} {t : List (Option Value)} (hd : decode md.2.1 pc = .ok (.astore 8, 2)) (hn : pc + 2 = n) (hb : 8 < md.2.2.1) (hp : zc1 a7 = true) (kk : zX l G md d ac as n (a0 :: a1 :: a2 :: a3 :: a4 :: a5 :: a6 :: a7 :: some (.null) :: t) st Z I Q) : zX l G md d ac as pc (a0 :: a1 :: a2 :: a3 :: a4 :: a5 :: a6 :: a7 :: b :: t) (.null :: st) Z I Q := by
  intro p e R s m args below meth c H locs cells slots lc hc hr hH hS hl
  subst hn
  exact lv_astoreN hc.1 hc.2.1 hd (i := 8) (zls_has hl) hb rfl (fun lc hl => kk p e R s m args below meth c H locs cells slots lc hc hr hH hS (zls_of (w := .null) (Or.inr ⟨_, rfl, hp⟩) hl))
theorem x_iinc8 {l : Launch} {G : zG} {md : zD} {d ac as pc n : Nat} {st : List Value} {Z : zS} {I : zI} {Q : Option Value → zS → zI → Prop} {x v : Int32} {k : Int} {a0 a1 a2 a3 a4 a5 a6 a7 : Option Value} {t : List (Option Value)} (hd : decode md.2.1 pc = .ok (.iinc 8 k, 3)) (hn : pc + 3 = n) (hb : 8 < md.2.2.1) (hv : x + Int32.ofInt k = v) (hp : zc1 a7 = true) (kk : zX l G md d ac as n (a0 :: a1 :: a2 :: a3 :: a4 :: a5 :: a6 :: a7 :: some (.int v) :: t) st Z I Q) : zX l G md d ac as pc (a0 :: a1 :: a2 :: a3 :: a4 :: a5 :: a6 :: a7 :: some (.int x) :: t) st Z I Q := by
  intro p e R s m args below meth c H locs cells slots lc hc hr hH hS hl
  subst hn
  have hm := zpl_in (G := G) (ls := (a0 :: a1 :: a2 :: a3 :: a4 :: a5 :: a6 :: a7 :: some (.int x) :: t)) (i := 0) (j := 8) (v := .int x) rfl
  rw [Nat.zero_add] at hm
  obtain ⟨kq, hkq⟩ := List.getElem?_of_mem hm
  exact lv_iinc hc.1 hc.2.1 hd (zls_has hl) (k := kq) hkq hv hb rfl (fun lc hl => kk p e R s m args below meth c H locs cells slots lc hc hr hH hS (zls_of (w := .int v) (Or.inr ⟨_, rfl, hp⟩) hl))
theorem x_ist9 {l : Launch} {G : zG} {md : zD} {d ac as pc n : Nat} {st : List Value} {Z : zS} {I : zI} {Q : Option Value → zS → zI → Prop} {x : Int32} {a0 a1 a2 a3 a4 a5 a6 a7 a8 b : Option Value} {t : List (Option Value)} (hd : decode md.2.1 pc = .ok (.istore 9, 2)) (hn : pc + 2 = n) (hb : 9 < md.2.2.1) (hp : zc1 a8 = true) (kk : zX l G md d ac as n (a0 :: a1 :: a2 :: a3 :: a4 :: a5 :: a6 :: a7 :: a8 :: some (.int x) :: t) st Z I Q) : zX l G md d ac as pc (a0 :: a1 :: a2 :: a3 :: a4 :: a5 :: a6 :: a7 :: a8 :: b :: t) (.int x :: st) Z I Q := by
  intro p e R s m args below meth c H locs cells slots lc hc hr hH hS hl
  subst hn
  exact lv_istore hc.1 hc.2.1 hd (i := 9) (zls_has hl) hb rfl (fun lc hl => kk p e R s m args below meth c H locs cells slots lc hc hr hH hS (zls_of (w := .int x) (Or.inr ⟨_, rfl, hp⟩) hl))
theorem x_ast9 {l : Launch} {G : zG} {md : zD} {d ac as pc n : Nat} {st : List Value} {Z : zS} {I : zI} {Q : Option Value → zS → zI → Prop} {x : Nat} {a0 a1 a2 a3 a4 a5 a6 a7 a8 b : Option Value} {t : List (Option Value)} (hd : decode md.2.1 pc = .ok (.astore 9, 2)) (hn : pc + 2 = n) (hb : 9 < md.2.2.1) (hp : zc1 a8 = true) (kk : zX l G md d ac as n (a0 :: a1 :: a2 :: a3 :: a4 :: a5 :: a6 :: a7 :: a8 :: some (.ref x) :: t) st Z I Q) : zX l G md d ac as pc (a0 :: a1 :: a2 :: a3 :: a4 :: a5 :: a6 :: a7 :: a8 :: b :: t) (.ref x :: st) Z I Q := by
  intro p e R s m args below meth c H locs cells slots lc hc hr hH hS hl
  subst hn
  exact lv_astore hc.1 hc.2.1 hd (i := 9) (zls_has hl) hb rfl (fun lc hl => kk p e R s m args below meth c H locs cells slots lc hc hr hH hS (zls_of (w := .ref x) (Or.inr ⟨_, rfl, hp⟩) hl))
theorem x_nst9 {l : Launch} {G : zG} {md : zD} {d ac as pc n : Nat} {st : List Value} {Z : zS} {I : zI} {Q : Option Value → zS → zI → Prop}  {a0 a1 a2 a3 a4 a5 a6 a7 a8 b : Option Value} {t : List (Option Value)} (hd : decode md.2.1 pc = .ok (.astore 9, 2)) (hn : pc + 2 = n) (hb : 9 < md.2.2.1) (hp : zc1 a8 = true) (kk : zX l G md d ac as n (a0 :: a1 :: a2 :: a3 :: a4 :: a5 :: a6 :: a7 :: a8 :: some (.null) :: t) st Z I Q) : zX l G md d ac as pc (a0 :: a1 :: a2 :: a3 :: a4 :: a5 :: a6 :: a7 :: a8 :: b :: t) (.null :: st) Z I Q := by
  intro p e R s m args below meth c H locs cells slots lc hc hr hH hS hl
  subst hn
  exact lv_astoreN hc.1 hc.2.1 hd (i := 9) (zls_has hl) hb rfl (fun lc hl => kk p e R s m args below meth c H locs cells slots lc hc hr hH hS (zls_of (w := .null) (Or.inr ⟨_, rfl, hp⟩) hl))
theorem x_iinc9 {l : Launch} {G : zG} {md : zD} {d ac as pc n : Nat} {st : List Value} {Z : zS} {I : zI} {Q : Option Value → zS → zI → Prop} {x v : Int32} {k : Int} {a0 a1 a2 a3 a4 a5 a6 a7 a8 : Option Value} {t : List (Option Value)} (hd : decode md.2.1 pc = .ok (.iinc 9 k, 3)) (hn : pc + 3 = n) (hb : 9 < md.2.2.1) (hv : x + Int32.ofInt k = v) (hp : zc1 a8 = true) (kk : zX l G md d ac as n (a0 :: a1 :: a2 :: a3 :: a4 :: a5 :: a6 :: a7 :: a8 :: some (.int v) :: t) st Z I Q) : zX l G md d ac as pc (a0 :: a1 :: a2 :: a3 :: a4 :: a5 :: a6 :: a7 :: a8 :: some (.int x) :: t) st Z I Q := by
  intro p e R s m args below meth c H locs cells slots lc hc hr hH hS hl
  subst hn
  have hm := zpl_in (G := G) (ls := (a0 :: a1 :: a2 :: a3 :: a4 :: a5 :: a6 :: a7 :: a8 :: some (.int x) :: t)) (i := 0) (j := 9) (v := .int x) rfl
  rw [Nat.zero_add] at hm
  obtain ⟨kq, hkq⟩ := List.getElem?_of_mem hm
  exact lv_iinc hc.1 hc.2.1 hd (zls_has hl) (k := kq) hkq hv hb rfl (fun lc hl => kk p e R s m args below meth c H locs cells slots lc hc hr hH hS (zls_of (w := .int v) (Or.inr ⟨_, rfl, hp⟩) hl))
theorem x_ist10 {l : Launch} {G : zG} {md : zD} {d ac as pc n : Nat} {st : List Value} {Z : zS} {I : zI} {Q : Option Value → zS → zI → Prop} {x : Int32} {a0 a1 a2 a3 a4 a5 a6 a7 a8 a9 b : Option Value} {t : List (Option Value)} (hd : decode md.2.1 pc = .ok (.istore 10, 2)) (hn : pc + 2 = n) (hb : 10 < md.2.2.1) (hp : zc1 a9 = true) (kk : zX l G md d ac as n (a0 :: a1 :: a2 :: a3 :: a4 :: a5 :: a6 :: a7 :: a8 :: a9 :: some (.int x) :: t) st Z I Q) : zX l G md d ac as pc (a0 :: a1 :: a2 :: a3 :: a4 :: a5 :: a6 :: a7 :: a8 :: a9 :: b :: t) (.int x :: st) Z I Q := by
  intro p e R s m args below meth c H locs cells slots lc hc hr hH hS hl
  subst hn
  exact lv_istore hc.1 hc.2.1 hd (i := 10) (zls_has hl) hb rfl (fun lc hl => kk p e R s m args below meth c H locs cells slots lc hc hr hH hS (zls_of (w := .int x) (Or.inr ⟨_, rfl, hp⟩) hl))
theorem x_ast10 {l : Launch} {G : zG} {md : zD} {d ac as pc n : Nat} {st : List Value} {Z : zS} {I : zI} {Q : Option Value → zS → zI → Prop} {x : Nat} {a0 a1 a2 a3 a4 a5 a6 a7 a8 a9 b : Option Value} {t : List (Option Value)} (hd : decode md.2.1 pc = .ok (.astore 10, 2)) (hn : pc + 2 = n) (hb : 10 < md.2.2.1) (hp : zc1 a9 = true) (kk : zX l G md d ac as n (a0 :: a1 :: a2 :: a3 :: a4 :: a5 :: a6 :: a7 :: a8 :: a9 :: some (.ref x) :: t) st Z I Q) : zX l G md d ac as pc (a0 :: a1 :: a2 :: a3 :: a4 :: a5 :: a6 :: a7 :: a8 :: a9 :: b :: t) (.ref x :: st) Z I Q := by
  intro p e R s m args below meth c H locs cells slots lc hc hr hH hS hl
  subst hn
  exact lv_astore hc.1 hc.2.1 hd (i := 10) (zls_has hl) hb rfl (fun lc hl => kk p e R s m args below meth c H locs cells slots lc hc hr hH hS (zls_of (w := .ref x) (Or.inr ⟨_, rfl, hp⟩) hl))
theorem x_nst10 {l : Launch} {G : zG} {md : zD} {d ac as pc n : Nat} {st : List Value} {Z : zS} {I : zI} {Q : Option Value → zS → zI → Prop}  {a0 a1 a2 a3 a4 a5 a6 a7 a8 a9 b : Option Value} {t : List (Option Value)} (hd : decode md.2.1 pc = .ok (.astore 10, 2)) (hn : pc + 2 = n) (hb : 10 < md.2.2.1) (hp : zc1 a9 = true) (kk : zX l G md d ac as n (a0 :: a1 :: a2 :: a3 :: a4 :: a5 :: a6 :: a7 :: a8 :: a9 :: some (.null) :: t) st Z I Q) : zX l G md d ac as pc (a0 :: a1 :: a2 :: a3 :: a4 :: a5 :: a6 :: a7 :: a8 :: a9 :: b :: t) (.null :: st) Z I Q := by
  intro p e R s m args below meth c H locs cells slots lc hc hr hH hS hl
  subst hn
  exact lv_astoreN hc.1 hc.2.1 hd (i := 10) (zls_has hl) hb rfl (fun lc hl => kk p e R s m args below meth c H locs cells slots lc hc hr hH hS (zls_of (w := .null) (Or.inr ⟨_, rfl, hp⟩) hl))
theorem x_iinc10 {l : Launch} {G : zG} {md : zD} {d ac as pc n : Nat} {st : List Value} {Z : zS} {I : zI} {Q : Option Value → zS → zI → Prop} {x v : Int32} {k : Int} {a0 a1 a2 a3 a4 a5 a6 a7 a8 a9 : Option Value} {t : List (Option Value)} (hd : decode md.2.1 pc = .ok (.iinc 10 k, 3)) (hn : pc + 3 = n) (hb : 10 < md.2.2.1) (hv : x + Int32.ofInt k = v) (hp : zc1 a9 = true) (kk : zX l G md d ac as n (a0 :: a1 :: a2 :: a3 :: a4 :: a5 :: a6 :: a7 :: a8 :: a9 :: some (.int v) :: t) st Z I Q) : zX l G md d ac as pc (a0 :: a1 :: a2 :: a3 :: a4 :: a5 :: a6 :: a7 :: a8 :: a9 :: some (.int x) :: t) st Z I Q := by
  intro p e R s m args below meth c H locs cells slots lc hc hr hH hS hl
  subst hn
  have hm := zpl_in (G := G) (ls := (a0 :: a1 :: a2 :: a3 :: a4 :: a5 :: a6 :: a7 :: a8 :: a9 :: some (.int x) :: t)) (i := 0) (j := 10) (v := .int x) rfl
  rw [Nat.zero_add] at hm
  obtain ⟨kq, hkq⟩ := List.getElem?_of_mem hm
  exact lv_iinc hc.1 hc.2.1 hd (zls_has hl) (k := kq) hkq hv hb rfl (fun lc hl => kk p e R s m args below meth c H locs cells slots lc hc hr hH hS (zls_of (w := .int v) (Or.inr ⟨_, rfl, hp⟩) hl))
theorem x_ist11 {l : Launch} {G : zG} {md : zD} {d ac as pc n : Nat} {st : List Value} {Z : zS} {I : zI} {Q : Option Value → zS → zI → Prop} {x : Int32} {a0 a1 a2 a3 a4 a5 a6 a7 a8 a9 a10 b : Option Value} {t : List (Option Value)} (hd : decode md.2.1 pc = .ok (.istore 11, 2)) (hn : pc + 2 = n) (hb : 11 < md.2.2.1) (hp : zc1 a10 = true) (kk : zX l G md d ac as n (a0 :: a1 :: a2 :: a3 :: a4 :: a5 :: a6 :: a7 :: a8 :: a9 :: a10 :: some (.int x) :: t) st Z I Q) : zX l G md d ac as pc (a0 :: a1 :: a2 :: a3 :: a4 :: a5 :: a6 :: a7 :: a8 :: a9 :: a10 :: b :: t) (.int x :: st) Z I Q := by
  intro p e R s m args below meth c H locs cells slots lc hc hr hH hS hl
  subst hn
  exact lv_istore hc.1 hc.2.1 hd (i := 11) (zls_has hl) hb rfl (fun lc hl => kk p e R s m args below meth c H locs cells slots lc hc hr hH hS (zls_of (w := .int x) (Or.inr ⟨_, rfl, hp⟩) hl))
theorem x_ast11 {l : Launch} {G : zG} {md : zD} {d ac as pc n : Nat} {st : List Value} {Z : zS} {I : zI} {Q : Option Value → zS → zI → Prop} {x : Nat} {a0 a1 a2 a3 a4 a5 a6 a7 a8 a9 a10 b : Option Value} {t : List (Option Value)} (hd : decode md.2.1 pc = .ok (.astore 11, 2)) (hn : pc + 2 = n) (hb : 11 < md.2.2.1) (hp : zc1 a10 = true) (kk : zX l G md d ac as n (a0 :: a1 :: a2 :: a3 :: a4 :: a5 :: a6 :: a7 :: a8 :: a9 :: a10 :: some (.ref x) :: t) st Z I Q) : zX l G md d ac as pc (a0 :: a1 :: a2 :: a3 :: a4 :: a5 :: a6 :: a7 :: a8 :: a9 :: a10 :: b :: t) (.ref x :: st) Z I Q := by
  intro p e R s m args below meth c H locs cells slots lc hc hr hH hS hl
  subst hn
  exact lv_astore hc.1 hc.2.1 hd (i := 11) (zls_has hl) hb rfl (fun lc hl => kk p e R s m args below meth c H locs cells slots lc hc hr hH hS (zls_of (w := .ref x) (Or.inr ⟨_, rfl, hp⟩) hl))
theorem x_nst11 {l : Launch} {G : zG} {md : zD} {d ac as pc n : Nat} {st : List Value} {Z : zS} {I : zI} {Q : Option Value → zS → zI → Prop}  {a0 a1 a2 a3 a4 a5 a6 a7 a8 a9 a10 b : Option Value} {t : List (Option Value)} (hd : decode md.2.1 pc = .ok (.astore 11, 2)) (hn : pc + 2 = n) (hb : 11 < md.2.2.1) (hp : zc1 a10 = true) (kk : zX l G md d ac as n (a0 :: a1 :: a2 :: a3 :: a4 :: a5 :: a6 :: a7 :: a8 :: a9 :: a10 :: some (.null) :: t) st Z I Q) : zX l G md d ac as pc (a0 :: a1 :: a2 :: a3 :: a4 :: a5 :: a6 :: a7 :: a8 :: a9 :: a10 :: b :: t) (.null :: st) Z I Q := by
  intro p e R s m args below meth c H locs cells slots lc hc hr hH hS hl
  subst hn
  exact lv_astoreN hc.1 hc.2.1 hd (i := 11) (zls_has hl) hb rfl (fun lc hl => kk p e R s m args below meth c H locs cells slots lc hc hr hH hS (zls_of (w := .null) (Or.inr ⟨_, rfl, hp⟩) hl))
theorem x_iinc11 {l : Launch} {G : zG} {md : zD} {d ac as pc n : Nat} {st : List Value} {Z : zS} {I : zI} {Q : Option Value → zS → zI → Prop} {x v : Int32} {k : Int} {a0 a1 a2 a3 a4 a5 a6 a7 a8 a9 a10 : Option Value} {t : List (Option Value)} (hd : decode md.2.1 pc = .ok (.iinc 11 k, 3)) (hn : pc + 3 = n) (hb : 11 < md.2.2.1) (hv : x + Int32.ofInt k = v) (hp : zc1 a10 = true) (kk : zX l G md d ac as n (a0 :: a1 :: a2 :: a3 :: a4 :: a5 :: a6 :: a7 :: a8 :: a9 :: a10 :: some (.int v) :: t) st Z I Q) : zX l G md d ac as pc (a0 :: a1 :: a2 :: a3 :: a4 :: a5 :: a6 :: a7 :: a8 :: a9 :: a10 :: some (.int x) :: t) st Z I Q := by
  intro p e R s m args below meth c H locs cells slots lc hc hr hH hS hl
  subst hn
  have hm := zpl_in (G := G) (ls := (a0 :: a1 :: a2 :: a3 :: a4 :: a5 :: a6 :: a7 :: a8 :: a9 :: a10 :: some (.int x) :: t)) (i := 0) (j := 11) (v := .int x) rfl
  rw [Nat.zero_add] at hm
  obtain ⟨kq, hkq⟩ := List.getElem?_of_mem hm
  exact lv_iinc hc.1 hc.2.1 hd (zls_has hl) (k := kq) hkq hv hb rfl (fun lc hl => kk p e R s m args below meth c H locs cells slots lc hc hr hH hS (zls_of (w := .int v) (Or.inr ⟨_, rfl, hp⟩) hl))
theorem x_ist12 {l : Launch} {G : zG} {md : zD} {d ac as pc n : Nat} {st : List Value} {Z : zS} {I : zI} {Q : Option Value → zS → zI → Prop} {x : Int32} {a0 a1 a2 a3 a4 a5 a6 a7 a8 a9 a10 a11 b : Option Value} {t : List (Option Value)} (hd : decode md.2.1 pc = .ok (.istore 12, 2)) (hn : pc + 2 = n) (hb : 12 < md.2.2.1) (hp : zc1 a11 = true) (kk : zX l G md d ac as n (a0 :: a1 :: a2 :: a3 :: a4 :: a5 :: a6 :: a7 :: a8 :: a9 :: a10 :: a11 :: some (.int x) :: t) st Z I Q) : zX l G md d ac as pc (a0 :: a1 :: a2 :: a3 :: a4 :: a5 :: a6 :: a7 :: a8 :: a9 :: a10 :: a11 :: b :: t) (.int x :: st) Z I Q := by
  intro p e R s m args below meth c H locs cells slots lc hc hr hH hS hl
  subst hn
  exact lv_istore hc.1 hc.2.1 hd (i := 12) (zls_has hl) hb rfl (fun lc hl => kk p e R s m args below meth c H locs cells slots lc hc hr hH hS (zls_of (w := .int x) (Or.inr ⟨_, rfl, hp⟩) hl))
theorem x_ast12 {l : Launch} {G : zG} {md : zD} {d ac as pc n : Nat} {st : List Value} {Z : zS} {I : zI} {Q : Option Value → zS → zI → Prop} {x : Nat} {a0 a1 a2 a3 a4 a5 a6 a7 a8 a9 a10 a11 b : Option Value} {t : List (Option Value)} (hd : decode md.2.1 pc = .ok (.astore 12, 2)) (hn : pc + 2 = n) (hb : 12 < md.2.2.1) (hp : zc1 a11 = true) (kk : zX l G md d ac as n (a0 :: a1 :: a2 :: a3 :: a4 :: a5 :: a6 :: a7 :: a8 :: a9 :: a10 :: a11 :: some (.ref x) :: t) st Z I Q) : zX l G md d ac as pc (a0 :: a1 :: a2 :: a3 :: a4 :: a5 :: a6 :: a7 :: a8 :: a9 :: a10 :: a11 :: b :: t) (.ref x :: st) Z I Q := by
  intro p e R s m args below meth c H locs cells slots lc hc hr hH hS hl
  subst hn
  exact lv_astore hc.1 hc.2.1 hd (i := 12) (zls_has hl) hb rfl (fun lc hl => kk p e R s m args below meth c H locs cells slots lc hc hr hH hS (zls_of (w := .ref x) (Or.inr ⟨_, rfl, hp⟩) hl))
theorem x_nst12 {l : Launch} {G : zG} {md : zD} {d ac as pc n : Nat} {st : List Value} {Z : zS} {I : zI} {Q : Option Value → zS → zI → Prop}  {a0 a1 a2 a3 a4 a5 a6 a7 a8 a9 a10 a11 b : Option Value} {t : List (Option Value)} (hd : decode md.2.1 pc = .ok (.astore 12, 2)) (hn : pc + 2 = n) (hb : 12 < md.2.2.1) (hp : zc1 a11 = true) (kk : zX l G md d ac as n (a0 :: a1 :: a2 :: a3 :: a4 :: a5 :: a6 :: a7 :: a8 :: a9 :: a10 :: a11 :: some (.null) :: t) st Z I Q) : zX l G md d ac as pc (a0 :: a1 :: a2 :: a3 :: a4 :: a5 :: a6 :: a7 :: a8 :: a9 :: a10 :: a11 :: b :: t) (.null :: st) Z I Q := by
  intro p e R s m args below meth c H locs cells slots lc hc hr hH hS hl
  subst hn
  exact lv_astoreN hc.1 hc.2.1 hd (i := 12) (zls_has hl) hb rfl (fun lc hl => kk p e R s m args below meth c H locs cells slots lc hc hr hH hS (zls_of (w := .null) (Or.inr ⟨_, rfl, hp⟩) hl))
theorem x_iinc12 {l : Launch} {G : zG} {md : zD} {d ac as pc n : Nat} {st : List Value} {Z : zS} {I : zI} {Q : Option Value → zS → zI → Prop} {x v : Int32} {k : Int} {a0 a1 a2 a3 a4 a5 a6 a7 a8 a9 a10 a11 : Option Value} {t : List (Option Value)} (hd : decode md.2.1 pc = .ok (.iinc 12 k, 3)) (hn : pc + 3 = n) (hb : 12 < md.2.2.1) (hv : x + Int32.ofInt k = v) (hp : zc1 a11 = true) (kk : zX l G md d ac as n (a0 :: a1 :: a2 :: a3 :: a4 :: a5 :: a6 :: a7 :: a8 :: a9 :: a10 :: a11 :: some (.int v) :: t) st Z I Q) : zX l G md d ac as pc (a0 :: a1 :: a2 :: a3 :: a4 :: a5 :: a6 :: a7 :: a8 :: a9 :: a10 :: a11 :: some (.int x) :: t) st Z I Q := by
  intro p e R s m args below meth c H locs cells slots lc hc hr hH hS hl
  subst hn
  have hm := zpl_in (G := G) (ls := (a0 :: a1 :: a2 :: a3 :: a4 :: a5 :: a6 :: a7 :: a8 :: a9 :: a10 :: a11 :: some (.int x) :: t)) (i := 0) (j := 12) (v := .int x) rfl
  rw [Nat.zero_add] at hm
  obtain ⟨kq, hkq⟩ := List.getElem?_of_mem hm
  exact lv_iinc hc.1 hc.2.1 hd (zls_has hl) (k := kq) hkq hv hb rfl (fun lc hl => kk p e R s m args below meth c H locs cells slots lc hc hr hH hS (zls_of (w := .int v) (Or.inr ⟨_, rfl, hp⟩) hl))
theorem x_ist13 {l : Launch} {G : zG} {md : zD} {d ac as pc n : Nat} {st : List Value} {Z : zS} {I : zI} {Q : Option Value → zS → zI → Prop} {x : Int32} {a0 a1 a2 a3 a4 a5 a6 a7 a8 a9 a10 a11 a12 b : Option Value} {t : List (Option Value)} (hd : decode md.2.1 pc = .ok (.istore 13, 2)) (hn : pc + 2 = n) (hb : 13 < md.2.2.1) (hp : zc1 a12 = true) (kk : zX l G md d ac as n (a0 :: a1 :: a2 :: a3 :: a4 :: a5 :: a6 :: a7 :: a8 :: a9 :: a10 :: a11 :: a12 :: some (.int x) :: t) st Z I Q) : zX l G md d ac as pc (a0 :: a1 :: a2 :: a3 :: a4 :: a5 :: a6 :: a7 :: a8 :: a9 :: a10 :: a11 :: a12 :: b :: t) (.int x :: st) Z I Q := by
  intro p e R s m args below meth c H locs cells slots lc hc hr hH hS hl
  subst hn
  exact lv_istore hc.1 hc.2.1 hd (i := 13) (zls_has hl) hb rfl (fun lc hl => kk p e R s m args below meth c H locs cells slots lc hc hr hH hS (zls_of (w := .int x) (Or.inr ⟨_, rfl, hp⟩) hl))
theorem x_ast13 {l : Launch} {G : zG} {md : zD} {d ac as pc n : Nat} {st : List Value} {Z : zS} {I : zI} {Q : Option Value → zS → zI → Prop} {x : Nat} {a0 a1 a2 a3 a4 a5 a6 a7 a8 a9 a10 a11 a12 b : Option Value} {t : List (Option Value)} (hd : decode md.2.1 pc = .ok (.astore 13, 2)) (hn : pc + 2 = n) (hb : 13 < md.2.2.1) (hp : zc1 a12 = true) (kk : zX l G md d ac as n (a0 :: a1 :: a2 :: a3 :: a4 :: a5 :: a6 :: a7 :: a8 :: a9 :: a10 :: a11 :: a12 :: some (.ref x) :: t) st Z I Q) : zX l G md d ac as pc (a0 :: a1 :: a2 :: a3 :: a4 :: a5 :: a6 :: a7 :: a8 :: a9 :: a10 :: a11 :: a12 :: b :: t) (.ref x :: st) Z I Q := by
  intro p e R s m args below meth c H locs cells slots lc hc hr hH hS hl
  subst hn
  exact lv_astore hc.1 hc.2.1 hd (i := 13) (zls_has hl) hb rfl (fun lc hl => kk p e R s m args below meth c H locs cells slots lc hc hr hH hS (zls_of (w := .ref x) (Or.inr ⟨_, rfl, hp⟩) hl))
theorem x_nst13 {l : Launch} {G : zG} {md : zD} {d ac as pc n : Nat} {st : List Value} {Z : zS} {I : zI} {Q : Option Value → zS → zI → Prop}  {a0 a1 a2 a3 a4 a5 a6 a7 a8 a9 a10 a11 a12 b : Option Value} {t : List (Option Value)} (hd : decode md.2.1 pc = .ok (.astore 13, 2)) (hn : pc + 2 = n) (hb : 13 < md.2.2.1) (hp : zc1 a12 = true) (kk : zX l G md d ac as n (a0 :: a1 :: a2 :: a3 :: a4 :: a5 :: a6 :: a7 :: a8 :: a9 :: a10 :: a11 :: a12 :: some (.null) :: t) st Z I Q) : zX l G md d ac as pc (a0 :: a1 :: a2 :: a3 :: a4 :: a5 :: a6 :: a7 :: a8 :: a9 :: a10 :: a11 :: a12 :: b :: t) (.null :: st) Z I Q := by
  intro p e R s m args below meth c H locs cells slots lc hc hr hH hS hl
  subst hn
  exact lv_astoreN hc.1 hc.2.1 hd (i := 13) (zls_has hl) hb rfl (fun lc hl => kk p e R s m args below meth c H locs cells slots lc hc hr hH hS (zls_of (w := .null) (Or.inr ⟨_, rfl, hp⟩) hl))
theorem x_iinc13 {l : Launch} {G : zG} {md : zD} {d ac as pc n : Nat} {st : List Value} {Z : zS} {I : zI} {Q : Option Value → zS → zI → Prop} {x v : Int32} {k : Int} {a0 a1 a2 a3 a4 a5 a6 a7 a8 a9 a10 a11 a12 : Option Value} {t : List (Option Value)} (hd : decode md.2.1 pc = .ok (.iinc 13 k, 3)) (hn : pc + 3 = n) (hb : 13 < md.2.2.1) (hv : x + Int32.ofInt k = v) (hp : zc1 a12 = true) (kk : zX l G md d ac as n (a0 :: a1 :: a2 :: a3 :: a4 :: a5 :: a6 :: a7 :: a8 :: a9 :: a10 :: a11 :: a12 :: some (.int v) :: t) st Z I Q) : zX l G md d ac as pc (a0 :: a1 :: a2 :: a3 :: a4 :: a5 :: a6 :: a7 :: a8 :: a9 :: a10 :: a11 :: a12 :: some (.int x) :: t) st Z I Q := by
  intro p e R s m args below meth c H locs cells slots lc hc hr hH hS hl
  subst hn
  have hm := zpl_in (G := G) (ls := (a0 :: a1 :: a2 :: a3 :: a4 :: a5 :: a6 :: a7 :: a8 :: a9 :: a10 :: a11 :: a12 :: some (.int x) :: t)) (i := 0) (j := 13) (v := .int x) rfl
  rw [Nat.zero_add] at hm
  obtain ⟨kq, hkq⟩ := List.getElem?_of_mem hm
  exact lv_iinc hc.1 hc.2.1 hd (zls_has hl) (k := kq) hkq hv hb rfl (fun lc hl => kk p e R s m args below meth c H locs cells slots lc hc hr hH hS (zls_of (w := .int v) (Or.inr ⟨_, rfl, hp⟩) hl))
theorem x_ist14 {l : Launch} {G : zG} {md : zD} {d ac as pc n : Nat} {st : List Value} {Z : zS} {I : zI} {Q : Option Value → zS → zI → Prop} {x : Int32} {a0 a1 a2 a3 a4 a5 a6 a7 a8 a9 a10 a11 a12 a13 b : Option Value} {t : List (Option Value)} (hd : decode md.2.1 pc = .ok (.istore 14, 2)) (hn : pc + 2 = n) (hb : 14 < md.2.2.1) (hp : zc1 a13 = true) (kk : zX l G md d ac as n (a0 :: a1 :: a2 :: a3 :: a4 :: a5 :: a6 :: a7 :: a8 :: a9 :: a10 :: a11 :: a12 :: a13 :: some (.int x) :: t) st Z I Q) : zX l G md d ac as pc (a0 :: a1 :: a2 :: a3 :: a4 :: a5 :: a6 :: a7 :: a8 :: a9 :: a10 :: a11 :: a12 :: a13 :: b :: t) (.int x :: st) Z I Q := by
  intro p e R s m args below meth c H locs cells slots lc hc hr hH hS hl
  subst hn
  exact lv_istore hc.1 hc.2.1 hd (i := 14) (zls_has hl) hb rfl (fun lc hl => kk p e R s m args below meth c H locs cells slots lc hc hr hH hS (zls_of (w := .int x) (Or.inr ⟨_, rfl, hp⟩) hl))
theorem x_ast14 {l : Launch} {G : zG} {md : zD} {d ac as pc n : Nat} {st : List Value} {Z : zS} {I : zI} {Q : Option Value → zS → zI → Prop} {x : Nat} {a0 a1 a2 a3 a4 a5 a6 a7 a8 a9 a10 a11 a12 a13 b : Option Value} {t : List (Option Value)} (hd : decode md.2.1 pc = .ok (.astore 14, 2)) (hn : pc + 2 = n) (hb : 14 < md.2.2.1) (hp : zc1 a13 = true) (kk : zX l G md d ac as n (a0 :: a1 :: a2 :: a3 :: a4 :: a5 :: a6 :: a7 :: a8 :: a9 :: a10 :: a11 :: a12 :: a13 :: some (.ref x) :: t) st Z I Q) : zX l G md d ac as pc (a0 :: a1 :: a2 :: a3 :: a4 :: a5 :: a6 :: a7 :: a8 :: a9 :: a10 :: a11 :: a12 :: a13 :: b :: t) (.ref x :: st) Z I Q := by
  intro p e R s m args below meth c H locs cells slots lc hc hr hH hS hl
  subst hn
  exact lv_astore hc.1 hc.2.1 hd (i := 14) (zls_has hl) hb rfl (fun lc hl => kk p e R s m args below meth c H locs cells slots lc hc hr hH hS (zls_of (w := .ref x) (Or.inr ⟨_, rfl, hp⟩) hl))
theorem x_nst14 {l : Launch} {G : zG} {md : zD} {d ac as pc n : Nat} {st : List Value} {Z : zS} {I : zI} {Q : Option Value → zS → zI → Prop}  {a0 a1 a2 a3 a4 a5 a6 a7 a8 a9 a10 a11 a12 a13 b : Option Value} {t : List (Option Value)} (hd : decode md.2.1 pc = .ok (.astore 14, 2)) (hn : pc + 2 = n) (hb : 14 < md.2.2.1) (hp : zc1 a13 = true) (kk : zX l G md d ac as n (a0 :: a1 :: a2 :: a3 :: a4 :: a5 :: a6 :: a7 :: a8 :: a9 :: a10 :: a11 :: a12 :: a13 :: some (.null) :: t) st Z I Q) : zX l G md d ac as pc (a0 :: a1 :: a2 :: a3 :: a4 :: a5 :: a6 :: a7 :: a8 :: a9 :: a10 :: a11 :: a12 :: a13 :: b :: t) (.null :: st) Z I Q := by
  intro p e R s m args below meth c H locs cells slots lc hc hr hH hS hl
  subst hn
  exact lv_astoreN hc.1 hc.2.1 hd (i := 14) (zls_has hl) hb rfl (fun lc hl => kk p e R s m args below meth c H locs cells slots lc hc hr hH hS (zls_of (w := .null) (Or.inr ⟨_, rfl, hp⟩) hl))
theorem x_iinc14 {l : Launch} {G : zG} {md : zD} {d ac as pc n : Nat} {st : List Value} {Z : zS} {I : zI} {Q : Option Value → zS → zI → Prop} {x v : Int32} {k : Int} {a0 a1 a2 a3 a4 a5 a6 a7 a8 a9 a10 a11 a12 a13 : Option Value} {t : List (Option Value)} (hd : decode md.2.1 pc = .ok (.iinc 14 k, 3)) (hn : pc + 3 = n) (hb : 14 < md.2.2.1) (hv : x + Int32.ofInt k = v) (hp : zc1 a13 = true) (kk : zX l G md d ac as n (a0 :: a1 :: a2 :: a3 :: a4 :: a5 :: a6 :: a7 :: a8 :: a9 :: a10 :: a11 :: a12 :: a13 :: some (.int v) :: t) st Z I Q) : zX l G md d ac as pc (a0 :: a1 :: a2 :: a3 :: a4 :: a5 :: a6 :: a7 :: a8 :: a9 :: a10 :: a11 :: a12 :: a13 :: some (.int x) :: t) st Z I Q := by
  intro p e R s m args below meth c H locs cells slots lc hc hr hH hS hl
  subst hn
  have hm := zpl_in (G := G) (ls := (a0 :: a1 :: a2 :: a3 :: a4 :: a5 :: a6 :: a7 :: a8 :: a9 :: a10 :: a11 :: a12 :: a13 :: some (.int x) :: t)) (i := 0) (j := 14) (v := .int x) rfl
  rw [Nat.zero_add] at hm
  obtain ⟨kq, hkq⟩ := List.getElem?_of_mem hm
  exact lv_iinc hc.1 hc.2.1 hd (zls_has hl) (k := kq) hkq hv hb rfl (fun lc hl => kk p e R s m args below meth c H locs cells slots lc hc hr hH hS (zls_of (w := .int v) (Or.inr ⟨_, rfl, hp⟩) hl))
theorem x_ist15 {l : Launch} {G : zG} {md : zD} {d ac as pc n : Nat} {st : List Value} {Z : zS} {I : zI} {Q : Option Value → zS → zI → Prop} {x : Int32} {a0 a1 a2 a3 a4 a5 a6 a7 a8 a9 a10 a11 a12 a13 a14 b : Option Value} {t : List (Option Value)} (hd : decode md.2.1 pc = .ok (.istore 15, 2)) (hn : pc + 2 = n) (hb : 15 < md.2.2.1) (hp : zc1 a14 = true) (kk : zX l G md d ac as n (a0 :: a1 :: a2 :: a3 :: a4 :: a5 :: a6 :: a7 :: a8 :: a9 :: a10 :: a11 :: a12 :: a13 :: a14 :: some (.int x) :: t) st Z I Q) : zX l G md d ac as pc (a0 :: a1 :: a2 :: a3 :: a4 :: a5 :: a6 :: a7 :: a8 :: a9 :: a10 :: a11 :: a12 :: a13 :: a14 :: b :: t) (.int x :: st) Z I Q := by
  intro p e R s m args below meth c H locs cells slots lc hc hr hH hS hl
  subst hn
  exact lv_istore hc.1 hc.2.1 hd (i := 15) (zls_has hl) hb rfl (fun lc hl => kk p e R s m args below meth c H locs cells slots lc hc hr hH hS (zls_of (w := .int x) (Or.inr ⟨_, rfl, hp⟩) hl))
theorem x_ast15 {l : Launch} {G : zG} {md : zD} {d ac as pc n : Nat} {st : List Value} {Z : zS} {I : zI} {Q : Option Value → zS → zI → Prop} {x : Nat} {a0 a1 a2 a3 a4 a5 a6 a7 a8 a9 a10 a11 a12 a13 a14 b : Option Value} {t : List (Option Value)} (hd : decode md.2.1 pc = .ok (.astore 15, 2)) (hn : pc + 2 = n) (hb : 15 < md.2.2.1) (hp : zc1 a14 = true) (kk : zX l G md d ac as n (a0 :: a1 :: a2 :: a3 :: a4 :: a5 :: a6 :: a7 :: a8 :: a9 :: a10 :: a11 :: a12 :: a13 :: a14 :: some (.ref x) :: t) st Z I Q) : zX l G md d ac as pc (a0 :: a1 :: a2 :: a3 :: a4 :: a5 :: a6 :: a7 :: a8 :: a9 :: a10 :: a11 :: a12 :: a13 :: a14 :: b :: t) (.ref x :: st) Z I Q := by
  intro p e R s m args below meth c H locs cells slots lc hc hr hH hS hl
  subst hn
  exact lv_astore hc.1 hc.2.1 hd (i := 15) (zls_has hl) hb rfl (fun lc hl => kk p e R s m args below meth c H locs cells slots lc hc hr hH hS (zls_of (w := .ref x) (Or.inr ⟨_, rfl, hp⟩) hl))
theorem x_nst15 {l : Launch} {G : zG} {md : zD} {d ac as pc n : Nat} {st : List Value} {Z : zS} {I : zI} {Q : Option Value → zS → zI → Prop}  {a0 a1 a2 a3 a4 a5 a6 a7 a8 a9 a10 a11 a12 a13 a14 b : Option Value} {t : List (Option Value)} (hd : decode md.2.1 pc = .ok (.astore 15, 2)) (hn : pc + 2 = n) (hb : 15 < md.2.2.1) (hp : zc1 a14 = true) (kk : zX l G md d ac as n (a0 :: a1 :: a2 :: a3 :: a4 :: a5 :: a6 :: a7 :: a8 :: a9 :: a10 :: a11 :: a12 :: a13 :: a14 :: some (.null) :: t) st Z I Q) : zX l G md d ac as pc (a0 :: a1 :: a2 :: a3 :: a4 :: a5 :: a6 :: a7 :: a8 :: a9 :: a10 :: a11 :: a12 :: a13 :: a14 :: b :: t) (.null :: st) Z I Q := by
  intro p e R s m args below meth c H locs cells slots lc hc hr hH hS hl
  subst hn
  exact lv_astoreN hc.1 hc.2.1 hd (i := 15) (zls_has hl) hb rfl (fun lc hl => kk p e R s m args below meth c H locs cells slots lc hc hr hH hS (zls_of (w := .null) (Or.inr ⟨_, rfl, hp⟩) hl))
theorem x_iinc15 {l : Launch} {G : zG} {md : zD} {d ac as pc n : Nat} {st : List Value} {Z : zS} {I : zI} {Q : Option Value → zS → zI → Prop} {x v : Int32} {k : Int} {a0 a1 a2 a3 a4 a5 a6 a7 a8 a9 a10 a11 a12 a13 a14 : Option Value} {t : List (Option Value)} (hd : decode md.2.1 pc = .ok (.iinc 15 k, 3)) (hn : pc + 3 = n) (hb : 15 < md.2.2.1) (hv : x + Int32.ofInt k = v) (hp : zc1 a14 = true) (kk : zX l G md d ac as n (a0 :: a1 :: a2 :: a3 :: a4 :: a5 :: a6 :: a7 :: a8 :: a9 :: a10 :: a11 :: a12 :: a13 :: a14 :: some (.int v) :: t) st Z I Q) : zX l G md d ac as pc (a0 :: a1 :: a2 :: a3 :: a4 :: a5 :: a6 :: a7 :: a8 :: a9 :: a10 :: a11 :: a12 :: a13 :: a14 :: some (.int x) :: t) st Z I Q := by
  intro p e R s m args below meth c H locs cells slots lc hc hr hH hS hl
  subst hn
  have hm := zpl_in (G := G) (ls := (a0 :: a1 :: a2 :: a3 :: a4 :: a5 :: a6 :: a7 :: a8 :: a9 :: a10 :: a11 :: a12 :: a13 :: a14 :: some (.int x) :: t)) (i := 0) (j := 15) (v := .int x) rfl
  rw [Nat.zero_add] at hm
  obtain ⟨kq, hkq⟩ := List.getElem?_of_mem hm
  exact lv_iinc hc.1 hc.2.1 hd (zls_has hl) (k := kq) hkq hv hb rfl (fun lc hl => kk p e R s m args below meth c H locs cells slots lc hc hr hH hS (zls_of (w := .int v) (Or.inr ⟨_, rfl, hp⟩) hl))
