/-! ===== the abstract world: places instead of addresses; ints and references of each place ===== -/
/-- the shape: how many places, the kind of each (0..12 an object of that number in vwCl, 13 int[], 14 boolean[], 15.. rows of objects), lengths, references -/
abbrev zS : Type := Nat × (Nat → Nat) × (Nat → Nat) × (Nat → Nat → Option Nat)
/-- the ints of each place (fields, or elements) -/
abbrev zI : Type := Nat → Nat → Int32
/-- what stays: classes and slots; the first address; the array classes by kind; addresses of statics and texts; the script's length and ints -/
abbrev zG : Type := va_G × Nat × (Nat → ClassId) × (Nat → Nat) × Nat × (Nat → Int32)
def zad (G : zG) (k : Nat) : Nat := if k < 1000000 then G.2.1 + k else G.2.2.2.1 (k - 1000000)
def zv (G : zG) (v : Value) : Value := match v with
  | .ref k => .ref (zad G k)
  | v => v
def zft (ci k : Nat) : FieldType := match ci with
  | 0 => tyX0 k
  | 1 => tyX1 k
  | 2 => tyX2 k
  | 3 => tyX3 k
  | 4 => tyX4 k
  | 5 => tyX5 k
  | 6 => tyX6 k
  | 7 => tyX7 k
  | 8 => tyX8 k
  | 9 => tyX9 k
  | 10 => tyX10 k
  | 11 => tyX11 k
  | _ => tyX12 k
def zint (t : FieldType) : Bool := match t with
  | .int => true
  | .boolean => true
  | _ => false
def zN (ci : Nat) : Nat := match ci with
  | 0 => 6
  | 1 => 10
  | 2 => 8
  | 3 => 6
  | 4 => 5
  | 5 => 3
  | 6 => 12
  | 7 => 4
  | 8 => 3
  | 9 => 8
  | 10 => 6
  | 11 => 8
  | _ => 36
def zfs (G : zG) (Z : zS) (I : zI) (k : Nat) : List Value := (List.range (zN (Z.2.1 k))).map (fun j => if zint (zft (Z.2.1 k) j) = true then Value.int (I k j) else va_rf ((Z.2.2.2 k j).map (zad G)))
def zE (G : zG) (Z : zS) (I : zI) (k : Nat) : va_E := if Z.2.1 k < 13 then .inr (Z.2.1 k, zfs G Z I k) else if Z.2.1 k < 15 then .inl (G.2.2.1 (Z.2.1 k), Z.2.2.1 k, .inl (I k)) else .inl (G.2.2.1 (Z.2.1 k), Z.2.2.1 k, .inr (.inr (.inr (.inr (fun j => (Z.2.2.2 k j).map (zad G))))))
def zws (G : zG) (Z : zS) (I : zI) : va_W := (List.range Z.1).map (fun k => (G.2.1 + k, zE G Z I k))
def ztys (G : zG) : List (ClassId × FieldType) := [(G.2.2.1 13, .int), (G.2.2.1 14, .boolean), (G.2.2.1 15, .object "LineMaking$Survey"), (G.2.2.1 16, .object "LineMaking$Text"), (G.2.2.1 17, .object "LineMaking$Work")]
def zA (G : zG) : Nat → Prop := fun q => G.2.1 ≤ q
/-- the tables' good words -/
def zT : List Cond := lw_tbl.filter goodWord
/-- static rows: class, name, its number among the special addresses, what it holds -/
def zSt : List (String × String × Nat × List Int32) := [("LineMaking$Ground", "HIGHEST_RULES", 0, [9, 9, 9, 99, 99, 1999]), ("LineMaking$Ground", "STANDS", 1, [99, 20, 8, 12]), ("LineMaking$Work", "KIND_ABOVE", 2, [-1, 0, 0, 1, 0, 1, 0]), ("LineMaking$Work", "CUT_RATES", 3, [1, 3, 2, 3]), ("LineMaking$Texts", "HIGHEST_HELD", 4, [999, 100, 99999])]
/-- links to nest mates: class, entry, method, host -/
def zNl : List (String × Nat × MethodName × String) := [("LineMaking", 9, ⟨"LineMaking$Making", "<init>", "()V"⟩, "LineMaking"), ("LineMaking$Ground", 38, ⟨"LineMaking", "clamp", "(III)I"⟩, "LineMaking"), ("LineMaking$Works", 27, ⟨"LineMaking$Work", "<init>", "()V"⟩, "LineMaking"), ("LineMaking$Making", 27, ⟨"LineMaking$Texts", "<init>", "()V"⟩, "LineMaking"), ("LineMaking$Making", 34, ⟨"LineMaking$Claims", "<init>", "()V"⟩, "LineMaking"), ("LineMaking$Making", 41, ⟨"LineMaking$Purse", "<init>", "()V"⟩, "LineMaking"), ("LineMaking$Making", 48, ⟨"LineMaking$Masonry", "<init>", "()V"⟩, "LineMaking"), ("LineMaking", 24, ⟨"LineMaking$Tape", "<init>", "()V"⟩, "LineMaking"), ("LineMaking", 35, ⟨"LineMaking$Survey", "<init>", "()V"⟩, "LineMaking"), ("LineMaking$Works", 45, ⟨"LineMaking", "inside", "(III)Z"⟩, "LineMaking"), ("LineMaking$Making", 86, ⟨"LineMaking", "inside", "(III)Z"⟩, "LineMaking"), ("LineMaking$Work", 44, ⟨"LineMaking", "inside", "(III)Z"⟩, "LineMaking"), ("LineMaking$Ground", 74, ⟨"LineMaking", "inside", "(III)Z"⟩, "LineMaking"), ("LineMaking$Works", 107, ⟨"LineMaking", "hasBit", "(II)Z"⟩, "LineMaking"), ("LineMaking$Texts", 27, ⟨"LineMaking", "inside", "(III)Z"⟩, "LineMaking"), ("LineMaking$Texts", 58, ⟨"LineMaking", "clamp", "(III)I"⟩, "LineMaking"), ("LineMaking$Tape", 99, ⟨"LineMaking", "inside", "(III)Z"⟩, "LineMaking"), ("LineMaking$Claims", 48, ⟨"LineMaking", "hasBit", "(II)Z"⟩, "LineMaking"), ("LineMaking$Claims", 55, ⟨"LineMaking", "inside", "(III)Z"⟩, "LineMaking"), ("LineMaking$Masonry", 60, ⟨"LineMaking", "hasBit", "(II)Z"⟩, "LineMaking"), ("LineMaking$Survey", 19, ⟨"LineMaking", "clamp", "(III)I"⟩, "LineMaking"), ("LineMaking$Survey", 33, ⟨"LineMaking", "inside", "(III)Z"⟩, "LineMaking"), ("LineMaking$Survey", 43, ⟨"LineMaking", "exchange", "([III)I"⟩, "LineMaking")]
def zAl : List String := ["LineMaking$Survey", "LineMaking$Text", "LineMaking$Work"]
/-- texts: entry of Tape's pool, the text, its number -/
def zSr : List (Nat × String × Nat) := [(105, "price", 0), (111, "retain", 1), (113, "late", 2), (115, "claim", 3), (126, "kdw", 4), (128, "ky", 5), (130, "n", 6), (132, "cw", 7)]
def zlen : List Nat := [5, 6, 4, 5, 3, 2, 1, 2]
def zbyt : List (List Int32) := [[112, 114, 105, 99, 101], [114, 101, 116, 97, 105, 110], [108, 97, 116, 101], [99, 108, 97, 105, 109], [107, 100, 119], [107, 121], [110], [99, 119]]
/-- what holds of a state's tables and of its old cells -/
def zC (G : zG) (s : State) : Prop :=
  G.2.1 ≤ s.heap.size ∧ va_K G.1 vwCl (ztys G) s ∧
  (∀ q ∈ zSt, va_Z q.1 q.2.1 "[I" (.ref (G.2.2.2.1 q.2.2.1)) (zA G) s s.heap ∧ va_T .int (G.2.2.2.1 q.2.2.1) q.2.2.2.length (fun j => .int (q.2.2.2.getD j 0)) (zA G) s s.heap) ∧
  (∀ q ∈ zNl, va_Nw (.methodLinkNest q.1 q.2.1 q.2.2.1 q.2.2.2) s) ∧
  (∀ C ∈ zAl, va_AO C s) ∧
  vk_S 8 zlen zbyt (fun i => G.2.2.2.1 (10 + i)) (fun i => G.2.2.2.1 (20 + i)) (zA G) s s.heap ∧
  (∀ q ∈ zSr, vk_R "LineMaking$Tape" q.1 q.2.1 (G.2.2.2.1 (10 + q.2.2)) s) ∧
  va_Z "java/lang/String" "COMPACT_STRINGS" "Z" (.int 1) (zA G) s s.heap ∧
  va_Zq "jdk/internal/util/Preconditions" "SIOOBE_FORMATTER" "Ljava/util/function/BiFunction;" (zA G) s s.heap ∧
  va_X (G.2.2.2.1 30) G.2.2.2.2.1 G.2.2.2.2.2 s s.heap ∧ G.2.2.2.1 30 < s.heap.size ∧ ¬ zA G (G.2.2.2.1 30)
theorem zC.to {G : zG} {s U : State} (h : zC G s) (hW : s.WarmedH U.vm) (hz : s.heap.size ≤ U.heap.size) (hq : ∀ q : Nat, q < s.heap.size → ¬ zA G q → U.heap[q]? = s.heap[q]?) : zC G U := by
  obtain ⟨h1, h2, h3, h4, h5, h6, h7, h8, h9, hx, hxl, hxA⟩ := h
  exact ⟨Nat.le_trans h1 hz, va_K.moved hW.alike h2, fun q m => ⟨va_Z.moved hW.alike ((h3 q m).1.kept hq), va_T.moved hW.alike ((h3 q m).2.kept hq)⟩, fun q m => va_Nw.warmM hW (h4 q m), fun C m => va_AO.moved hW.alike (h5 C m), vk_S.moved hW.alike (h6.kept hq), fun q m => vk_R.warm hW (h7 q m), va_Z.moved hW.alike (h8.kept hq), va_Zq.moved hW.alike (h9.kept hq), va_X.moved hW.alike (hx.kept (hq _ hxl hxA)), Nat.lt_of_lt_of_le hxl hz, hxA⟩
/-- the heap holds the world -/
def zH (G : zG) (Z : zS) (I : zI) (H : Heap) : Prop := H.size = G.2.1 + Z.1 ∧ Z.1 ≤ 900000 ∧ va_P G.1 vwCl (zws G Z I) H
/-- a method: name, code, locals, answer -/
abbrev zD : Type := MethodName × ByteArray × Nat × Option FieldType
def zwd (md : zD) : List Cond := Cond.code md.1 md.2.1 md.2.2.1 md.2.2.2 :: zT
def zQ (G : zG) (Q : Option Value → zS → zI → Prop) : Array Value → State → Outcome → State → Prop := fun _ st oc t => (∃ (r : Option Value) (Z : zS) (I : zI), oc = .returned (r.map (zv G)) ∧ Q r Z I ∧ zH G Z I t.heap) ∧ va_F (zA G) st t
/-- A METHOD'S CONTRACT, goal first: called with args in the world (Z, I) it returns r in a world (Z', I') with Q r Z' I'; d: calls that may stand open within; mc cells of ms slots at most are made -/
def zM (l : Launch) (G : zG) (md : zD) (d mc ms : Nat) (args : List Value) (Z : zS) (I : zI) (Q : Option Value → zS → zI → Prop) : Prop :=
  Met l md.1 (zwd md) { frames := d, cells := mc, slots := ms, locals := 64 * d } (fun a U => a = (args.map (zv G)).toArray ∧ zC G U ∧ zH G Z I U.heap) (zQ G Q) mc ms (zA G)
/-- the locals: those that are known -/
def zls (G : zG) (n : Nat) (ls : List (Option Value)) (lc : Array Slot) : Prop := lc.size = n ∧ lv_wf lc ∧ ∀ (i : Nat) (v : Value), ls[i]? = some (some v) → lc[i]? = some (.val (zv G v))
def zctx (G : zG) (md : zD) (p : Program) (s : State) (m : MethodId) (args : Array Value) (meth : Method) (c : Code) : Prop :=
  p.tables.exec = Jvm.exec ∧ c.code = md.2.1 ∧ meth.sig.returnType = md.2.2.2 ∧ c.maxLocals = md.2.2.1 ∧ s.vm.findClass md.1.cls = some m.cls ∧ (∀ w ∈ zT, w.before args s = true) ∧ meth.locks = false ∧ meth.name = md.1.name ∧ zC G s
/-- A METHOD'S WALK, goal first, at pc with locals ls and stack st -/
def zX (l : Launch) (G : zG) (md : zD) (d ac as : Nat) (pc : Nat) (ls : List (Option Value)) (st : List Value) (Z : zS) (I : zI) (Q : Option Value → zS → zI → Prop) : Prop :=
  ∀ (p : Program) (e : Env) (R : Room) (s : State) (m : MethodId) (args : Array Value) (below : List Frame) (meth : Method) (c : Code) (H : Heap) (locs : List Loc) (cells slots : Nat) (lc : Array Slot),
    zctx G md p s m args meth c → (d ≤ R.frames ∧ 64 * d ≤ R.locals ∧ cells + ac ≤ R.cells ∧ slots + as ≤ R.slots) → zH G Z I H → va_S (zA G) s.heap H locs → zls G md.2.2.1 ls lc →
    W p l e R s m args below meth c H locs cells slots (MQ below (zQ G Q) args s R.cells R.slots (zA G)) (F0 m pc lc (st.map (zv G)))
