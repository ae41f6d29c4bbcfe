/-! ===== texts: two ways to read one ===== -/
/-- what was read: kind (0 end, 1 word, 2 number, 3 sign, 4 wrong), which, where it begins -/
abbrev TK : Type := Nat × Nat × Nat
abbrev CD : Type := Int32 × Int32
def rnk (c : Nat) : Nat := if c = 124 then 1 else if c = 38 then 2 else if c = 60 ∨ c = 61 ∨ c = 62 then 3 else if c = 43 ∨ c = 45 then 4 else if c = 42 ∨ c = 47 then 5 else 0
def bg (ts : List TK) : Nat := match ts with
  | [] => 0
  | t :: _ => t.2.2
def opAt (l : Nat) (ts : List TK) : Option Nat := match ts with
  | [] => none
  | t :: _ => if t.1 = 3 ∧ rnk t.2.1 = l + 1 then some t.2.1 else none
def isCl (ts : List TK) : Bool := match ts with
  | [] => false
  | t :: _ => decide (t.1 = 3 ∧ t.2.1 = 41)
abbrev RS : Type := Bool × List TK × List CD × Nat
/-- as the reference reads: 0 to 4 its levels, 5 a part, 6 to 10 what follows at a level; d brackets, u signs ! are open -/
def rdP (key : Nat) : Nat → Nat → Nat → Nat → List TK → RS
  | 0, _, _, _, ts => (false, ts, [], 0)
  | n + 1, m, d, u, ts =>
    if m < 5 then
      (let a := rdP key n (m + 1) d u ts
       if a.1 = true then (let b := rdP key n (6 + m) d u a.2.1
         (b.1, b.2.1, a.2.2.1 ++ b.2.2.1, a.2.2.2 + b.2.2.2)) else a)
    else if m = 5 then
      (match ts with
       | [] => (false, ts, [], 0)
       | t :: r =>
         if t.1 = 2 then (true, r, [(nI 0, nI t.2.1)], 1)
         else if t.1 = 1 ∧ t.2.1 ≠ 0 ∧ isNm key (nI t.2.1) = true then (true, r, [(nI 1, nI t.2.1)], 1)
         else if (t.1 = 3 ∧ t.2.1 = 33) ∧ u < 8 then
           (let a := rdP key n 5 d (u + 1) r
            if a.1 = true then (true, a.2.1, a.2.2.1 ++ [(nI 2, nI 33)], a.2.2.2) else a)
         else if (t.1 = 3 ∧ t.2.1 = 40) ∧ d < 8 then
           (let a := rdP key n 0 (d + 1) u r
            if a.1 = true ∧ isCl a.2.1 = true then (true, a.2.1.tail, a.2.2.1, a.2.2.2) else (false, a.2.1, a.2.2.1, a.2.2.2))
         else (false, ts, [], 0))
    else
      (match opAt (m - 6) ts with
       | none => (true, ts, [], 0)
       | some c =>
         let a := rdP key n (m - 6 + 1) d u ts.tail
         if a.1 = true then
           (if m = 8 then (true, a.2.1, a.2.2.1 ++ [(nI 2, nI c)], a.2.2.2)
            else (let b := rdP key n m d u a.2.1
              (b.1, b.2.1, a.2.2.1 ++ [(nI 2, nI c)] ++ b.2.2.1, a.2.2.2 + b.2.2.2)))
         else a)
def sgs (l : List Nat) : List CD := l.map (fun c => (nI 2, nI c))
def popR (r : Nat) (st : List Nat) : List Nat := st.takeWhile (fun c => decide (r ≤ rnk c))
def rstR (r : Nat) (st : List Nat) : List Nat := st.dropWhile (fun c => decide (r ≤ rnk c))
def popN (st : List Nat) : List Nat := st.takeWhile (fun c => decide (c = 33))
def rstN (st : List Nat) : List Nat := st.dropWhile (fun c => decide (c = 33))
abbrev MS : Type := Bool × Nat × List CD × Nat
/-- as the class reads: code so far, the stack of signs (top first), brackets and signs ! open, whether a part is wanted, parts so far -/
def mcP (key : Nat) : List TK → List CD → List Nat → Nat → Nat → Bool → Nat → MS
  | [], _, _, _, _, _, _ => (false, 0, [], 0)
  | t :: r, cd, st, ob, on, want, pt =>
    if t.1 = 0 then (if want = true ∨ 0 < ob then (false, t.2.2, [], 0) else (true, 0, cd ++ sgs (popR 1 st), pt))
    else if want = true then
      (if t.1 = 2 then mcP key r (cd ++ [(nI 0, nI t.2.1)] ++ sgs (popN st)) (rstN st) ob (on - (popN st).length) false (pt + 1)
       else if t.1 = 1 ∧ t.2.1 ≠ 0 ∧ isNm key (nI t.2.1) = true then mcP key r (cd ++ [(nI 1, nI t.2.1)] ++ sgs (popN st)) (rstN st) ob (on - (popN st).length) false (pt + 1)
       else if (t.1 = 3 ∧ t.2.1 = 40) ∧ ob < 8 then mcP key r cd (40 :: st) (ob + 1) on true pt
       else if (t.1 = 3 ∧ t.2.1 = 33) ∧ on < 8 then mcP key r cd (33 :: st) ob (on + 1) true pt
       else (false, t.2.2, [], 0))
    else if t.1 = 3 ∧ t.2.1 = 41 then
      (if ob = 0 then (false, t.2.2, [], 0)
       else mcP key r (cd ++ sgs (popR 1 st) ++ sgs (popN (rstR 1 st).tail)) (rstN (rstR 1 st).tail) (ob - 1) (on - (popN (rstR 1 st).tail).length) false pt)
    else if t.1 = 3 ∧ 0 < rnk t.2.1 then
      (if rnk t.2.1 = 3 ∧ rnk ((rstR 4 st).headD 0) = 3 then (false, t.2.2, [], 0)
       else mcP key r (cd ++ sgs (popR (rnk t.2.1) st)) (t.2.1 :: rstR (rnk t.2.1) st) ob on true pt)
    else (false, t.2.2, [], 0)
def wfT : List TK → Prop
  | [] => False
  | t :: r => if t.1 = 0 then r = [] else wfT r
theorem wfT_tl {t : TK} {r : List TK} (h : wfT (t :: r)) (h0 : t.1 ≠ 0) : wfT r := by unfold wfT at h; rw [if_neg h0] at h; exact h
def wgt (m : Nat) : Nat := if m < 6 then 6 - m else 1
def rkOK (l : Nat) (pend : List Nat) : Prop := ∀ c ∈ pend, l + 1 ≤ rnk c
def has3 (pend : List Nat) : Prop := ∃ A c B, pend = A ++ c :: B ∧ (∀ a ∈ A, 4 ≤ rnk a) ∧ rnk c = 3
def hdOK (l : Nat) (pend : List Nat) (ts : List TK) : Prop := ∀ t r, ts = t :: r → t.1 = 3 → l + 1 ≤ rnk t.2.1 → rnk t.2.1 = 3 ∧ has3 pend
def topOK (m : Nat) (st : List Nat) : Prop := ∀ c r, st = c :: r → rnk c ≤ m ∧ c ≠ 33
theorem rnk_le (c : Nat) : rnk c ≤ 5 := by
  unfold rnk
  repeat' split
  all_goals omega
theorem popR_all {r : Nat} {pend st : List Nat} (h : ∀ c ∈ pend, r ≤ rnk c) (ht : ∀ c x, st = c :: x → rnk c < r) : popR r (pend ++ st) = pend ∧ rstR r (pend ++ st) = st := by
  induction pend with
  | nil =>
    cases st with
    | nil => exact ⟨rfl, rfl⟩
    | cons c x =>
      have hc := ht c x rfl
      unfold popR rstR
      rw [List.nil_append, List.takeWhile_cons_of_neg (by simp; omega), List.dropWhile_cons_of_neg (by simp; omega)]
      exact ⟨rfl, rfl⟩
  | cons a pend ih =>
    obtain ⟨i1, i2⟩ := ih (fun c hc => h c (List.mem_cons_of_mem _ hc))
    have ha := h a List.mem_cons_self
    unfold popR rstR at *
    rw [List.cons_append, List.takeWhile_cons_of_pos (by simpa using ha), List.dropWhile_cons_of_pos (by simpa using ha), i1, i2]
    exact ⟨rfl, rfl⟩
theorem popN_no {st : List Nat} (h : ∀ c r, st = c :: r → c ≠ 33) : popN st = [] ∧ rstN st = st := by
  cases st with
  | nil => exact ⟨rfl, rfl⟩
  | cons c r =>
    have hc := h c r rfl
    unfold popN rstN
    rw [List.takeWhile_cons_of_neg (by simpa using hc), List.dropWhile_cons_of_neg (by simpa using hc)]
    exact ⟨rfl, rfl⟩
theorem sgs_app (a b : List Nat) : sgs (a ++ b) = sgs a ++ sgs b := List.map_append
theorem has3_top {pend st : List Nat} (h : has3 pend) : rnk ((rstR 4 (pend ++ st)).headD 0) = 3 := by
  obtain ⟨A, c, B, rfl, hA, hc⟩ := h
  rw [List.append_assoc, List.cons_append]
  have := (popR_all (r := 4) (pend := A) (st := c :: (B ++ st)) hA (fun x y e => by cases e; omega)).2
  rw [this]
  exact hc
/-- where no part is wanted and no sign fits, it is a fault -/
theorem stuckF {key : Nat} {ts : List TK} {cd : List CD} {pend st : List Nat} {ob on pt : Nat} (hw : wfT ts) (he : (∀ t r, ts = t :: r → t.1 = 0 → 0 < ob)) (hc : isCl ts = true → ob = 0) (hh : hdOK 0 pend ts) : mcP key ts cd (pend ++ st) ob on false pt = (false, bg ts, [], 0) := by
  cases ts with
  | nil => exact absurd hw id
  | cons t r =>
    unfold mcP
    by_cases h0 : t.1 = 0
    · rw [if_pos h0, if_pos (Or.inr (he t r rfl h0))]; rfl
    · rw [if_neg h0, if_neg (by decide)]
      by_cases h1 : t.1 = 3 ∧ t.2.1 = 41
      · rw [if_pos h1, if_pos (hc (decide_eq_true h1))]; rfl
      · rw [if_neg h1]
        by_cases h2 : t.1 = 3 ∧ 0 < rnk t.2.1
        · obtain ⟨h3, h4⟩ := hh t r rfl h2.1 h2.2
          rw [if_pos h2, if_pos ⟨h3, has3_top h4⟩]; rfl
        · rw [if_neg h2]; rfl
theorem opAt_some {l c : Nat} {ts : List TK} (h : opAt l ts = some c) : ∃ b r, ts = (3, c, b) :: r ∧ rnk c = l + 1 := by
  cases ts with
  | nil => cases h
  | cons t r =>
    have h' : (if t.1 = 3 ∧ rnk t.2.1 = l + 1 then some t.2.1 else none) = some c := h
    by_cases hc : t.1 = 3 ∧ rnk t.2.1 = l + 1
    · rw [if_pos hc] at h'
      cases h'
      exact ⟨t.2.2, r, by rw [← hc.1], hc.2⟩
    · rw [if_neg hc] at h'; cases h'
theorem op_ne {c l : Nat} (h : rnk c = l + 1) : c ≠ 33 ∧ c ≠ 41 := by
  have h1 : rnk 33 = 0 := by decide
  have h2 : rnk 41 = 0 := by decide
  constructor
  · intro e; rw [e] at h; omega
  · intro e; rw [e] at h; omega
theorem opAt_none {l : Nat} {t : TK} {r : List TK} (h : opAt l (t :: r) = none) : ¬ (t.1 = 3 ∧ rnk t.2.1 = l + 1) := by
  intro hc
  have h' : (if t.1 = 3 ∧ rnk t.2.1 = l + 1 then some t.2.1 else none) = none := h
  rw [if_pos hc] at h'; cases h'
theorem rd_len (key : Nat) : ∀ n m d u ts, (rdP key n m d u ts).1 = true → (rdP key n m d u ts).2.1.length ≤ ts.length ∧ (m ≤ 5 → (rdP key n m d u ts).2.1.length < ts.length) := by
  intro n
  induction n with
  | zero => intro m d u ts h; cases h
  | succ n ih =>
    intro m d u ts
    unfold rdP
    by_cases hm : m < 5
    · rw [if_pos hm]
      dsimp only
      by_cases ha : (rdP key n (m + 1) d u ts).1 = true
      · rw [if_pos ha]
        intro hb
        have h1 := (ih (m + 1) d u ts ha).2 (by omega)
        have h2 := (ih (6 + m) d u _ hb).1
        exact ⟨Nat.le_trans h2 (Nat.le_of_lt h1), fun _ => Nat.lt_of_le_of_lt h2 h1⟩
      · rw [if_neg ha]; intro h; exact absurd h ha
    · rw [if_neg hm]
      by_cases h5 : m = 5
      · rw [if_pos h5]
        cases ts with
        | nil => intro h; cases h
        | cons t r =>
          dsimp only
          split
          · intro _; exact ⟨by simp, fun _ => by simp⟩
          split
          · intro _; exact ⟨by simp, fun _ => by simp⟩
          split
          · by_cases ha : (rdP key n 5 d (u + 1) r).1 = true
            · rw [if_pos ha]
              intro _
              have h1 := (ih 5 d (u + 1) r ha).2 (by omega)
              refine ⟨?_, fun _ => ?_⟩ <;> (simp only [List.length_cons]; omega)
            · rw [if_neg ha]; intro h; exact absurd h ha
          split
          · by_cases ha : (rdP key n 0 (d + 1) u r).1 = true ∧ isCl (rdP key n 0 (d + 1) u r).2.1 = true
            · rw [if_pos ha]
              intro _
              have h1 := (ih 0 (d + 1) u r ha.1).2 (by omega)
              have h2 : (rdP key n 0 (d + 1) u r).2.1.tail.length ≤ (rdP key n 0 (d + 1) u r).2.1.length := by rw [List.length_tail]; omega
              refine ⟨?_, fun _ => ?_⟩ <;> (simp only [List.length_cons]; omega)
            · rw [if_neg ha]; intro h; cases h
          · intro h; cases h
      · rw [if_neg h5]
        cases ho : opAt (m - 6) ts with
        | none => intro _; exact ⟨Nat.le_refl _, fun h => absurd h (by omega)⟩
        | some c =>
          dsimp only
          have ht : ts.tail.length ≤ ts.length := by rw [List.length_tail]; omega
          by_cases ha : (rdP key n (m - 6 + 1) d u ts.tail).1 = true
          · rw [if_pos ha]
            have h1 := (ih (m - 6 + 1) d u ts.tail ha).1
            by_cases h8 : m = 8
            · rw [if_pos h8]; intro _; exact ⟨Nat.le_trans h1 ht, fun h => absurd h (by omega)⟩
            · rw [if_neg h8]
              intro hb
              have h2 := (ih m d u _ hb).1
              exact ⟨Nat.le_trans h2 (Nat.le_trans h1 ht), fun h => absurd h (by omega)⟩
          · rw [if_neg ha]; intro h; exact absurd h ha
theorem rd_wf (key : Nat) : ∀ n m d u ts, wfT ts → wfT (rdP key n m d u ts).2.1 := by
  intro n
  induction n with
  | zero => intro m d u ts h; exact h
  | succ n ih =>
    intro m d u ts hw
    unfold rdP
    by_cases hm : m < 5
    · rw [if_pos hm]
      dsimp only
      by_cases ha : (rdP key n (m + 1) d u ts).1 = true
      · rw [if_pos ha]; exact ih (6 + m) d u _ (ih (m + 1) d u ts hw)
      · rw [if_neg ha]; exact ih (m + 1) d u ts hw
    · rw [if_neg hm]
      by_cases h5 : m = 5
      · rw [if_pos h5]
        cases ts with
        | nil => exact hw
        | cons t r =>
          dsimp only
          split
          · rename_i h; exact wfT_tl hw (by omega)
          split
          · rename_i h; exact wfT_tl hw (by omega)
          split
          · rename_i h
            have hr := wfT_tl hw (by omega)
            by_cases ha : (rdP key n 5 d (u + 1) r).1 = true
            · rw [if_pos ha]; exact ih 5 d (u + 1) r hr
            · rw [if_neg ha]; exact ih 5 d (u + 1) r hr
          split
          · rename_i h
            have hr := ih 0 (d + 1) u r (wfT_tl hw (by omega))
            by_cases ha : (rdP key n 0 (d + 1) u r).1 = true ∧ isCl (rdP key n 0 (d + 1) u r).2.1 = true
            · rw [if_pos ha]
              show wfT (rdP key n 0 (d + 1) u r).2.1.tail
              cases hl : (rdP key n 0 (d + 1) u r).2.1 with
              | nil => rw [hl] at hr; exact absurd hr id
              | cons x y =>
                rw [hl] at hr ha
                have hx : x.1 = 3 ∧ x.2.1 = 41 := of_decide_eq_true ha.2
                exact wfT_tl hr (by omega)
            · rw [if_neg ha]; exact hr
          · exact hw
      · rw [if_neg h5]
        cases ho : opAt (m - 6) ts with
        | none => exact hw
        | some c =>
          dsimp only
          have htl : wfT ts.tail := by
            obtain ⟨b, r, e, _⟩ := opAt_some ho
            rw [e] at hw ⊢
            exact wfT_tl hw (by show (3 : Nat) ≠ 0; omega)
          by_cases ha : (rdP key n (m - 6 + 1) d u ts.tail).1 = true
          · rw [if_pos ha]
            by_cases h8 : m = 8
            · rw [if_pos h8]; exact ih (m - 6 + 1) d u ts.tail htl
            · rw [if_neg h8]; exact ih m d u _ (ih (m - 6 + 1) d u ts.tail htl)
          · rw [if_neg ha]; exact ih (m - 6 + 1) d u ts.tail htl
/-- behind a part: its signs ! are done; behind a level: signs wait on the stack -/
def okS (key m : Nat) (a : RS) (mt : MS) (cd : List CD) (st : List Nat) (d u pt : Nat) : Prop :=
  (a.1 = false → mt = (false, bg a.2.1, [], 0)) ∧
  (a.1 = true → ∃ (X : List CD) (pend : List Nat), a.2.2.1 = X ++ sgs pend ∧ rkOK m pend ∧ hdOK m pend a.2.1 ∧ mt = mcP key a.2.1 (cd ++ X ++ sgs (popN st)) (pend ++ rstN st) d (u - (popN st).length) false (pt + a.2.2.2))
def okL (key l : Nat) (a : RS) (mt : MS) (cd : List CD) (pend0 st : List Nat) (d u pt : Nat) : Prop :=
  (a.1 = false → mt = (false, bg a.2.1, [], 0)) ∧
  (a.1 = true → ∃ (X : List CD) (pend : List Nat), sgs pend0 ++ a.2.2.1 = X ++ sgs pend ∧ rkOK l pend ∧ hdOK l pend a.2.1 ∧ mt = mcP key a.2.1 (cd ++ X) (pend ++ st) d u false (pt + a.2.2.2))
theorem eqv (key : Nat) : ∀ n m d u ts, 8 * ts.length + wgt m ≤ n → wfT ts → d ≤ 8 → u ≤ 8 →
    (m ≤ 5 → ∀ cd st pt, (m < 5 → topOK m st) → (popN st).length ≤ u → okS key m (rdP key n m d u ts) (mcP key ts cd st d u true pt) cd st d u pt) ∧
    (6 ≤ m → m ≤ 10 → ∀ cd pend0 st pt, topOK (m - 6) st → rkOK (m - 6) pend0 → (m = 8 → rkOK 3 pend0) → hdOK (m - 6 + 1) pend0 ts → okL key (m - 6) (rdP key n m d u ts) (mcP key ts cd (pend0 ++ st) d u false pt) cd pend0 st d u pt) := by
  intro n
  induction n with
  | zero =>
    intro m d u ts hn
    unfold wgt at hn
    split at hn <;> exact absurd hn (by omega)
  | succ n ih =>
    intro m d u ts hn hw hd hu
    refine ⟨fun hm5 cd st pt hto hpn => ?_, fun hm6 hm10 cd pend0 st pt hto hrk h8 hhd => ?_⟩
    · unfold rdP
      by_cases hm : m < 5
      · rw [if_pos hm]
        dsimp only
        have htm := hto hm
        obtain ⟨e1, e2⟩ := popN_no (fun c r e => (htm c r e).2)
        have hA := (ih (m + 1) d u ts (by unfold wgt at *; rw [if_pos (by omega)] at *; omega) hw hd hu).1 (by omega) cd st pt (fun _ c r e => ⟨by have := (htm c r e).1; omega, (htm c r e).2⟩) hpn
        unfold okS at hA
        rw [e1, e2] at hA
        obtain ⟨hA1, hA2⟩ := hA
        unfold okS
        rw [e1, e2]
        by_cases ha : (rdP key n (m + 1) d u ts).1 = true
        · rw [if_pos ha]
          obtain ⟨X, pend, hX, hr, hh, hmt⟩ := hA2 ha
          have hlen := (rd_len key n (m + 1) d u ts ha).2 (by omega)
          have hwf := rd_wf key n (m + 1) d u ts hw
          have hmt' : mcP key ts cd st d u true pt = mcP key (rdP key n (m + 1) d u ts).2.1 (cd ++ X) (pend ++ st) d u false (pt + (rdP key n (m + 1) d u ts).2.2.2) := by
            rw [hmt]; simp [sgs]
          have hB := (ih (6 + m) d u _ (by unfold wgt at *; rw [if_pos (by omega)] at hn; rw [if_neg (by omega)]; omega) hwf hd hu).2 (by omega) (by omega) (cd ++ X) pend st (pt + (rdP key n (m + 1) d u ts).2.2.2) (by rw [show 6 + m - 6 = m by omega]; exact htm) (by rw [show 6 + m - 6 = m by omega]; intro c hc; have := hr c hc; omega) (fun h => by intro c hc; have := hr c hc; omega) (by rw [show 6 + m - 6 + 1 = m + 1 by omega]; exact hh)
          rw [show 6 + m - 6 = m by omega] at hB
          obtain ⟨hB1, hB2⟩ := hB
          rw [hmt']
          refine ⟨hB1, fun hb => ?_⟩
          obtain ⟨X2, pend2, hX2, hr2, hh2, hmt2⟩ := hB2 hb
          refine ⟨X ++ X2, pend2, ?_, hr2, hh2, ?_⟩
          · show (rdP key n (m + 1) d u ts).2.2.1 ++ _ = _
            rw [hX, List.append_assoc, hX2, List.append_assoc]
          · rw [hmt2]
            show mcP key _ (cd ++ X ++ X2) _ d u false (pt + _ + _) = mcP key _ (cd ++ (X ++ X2) ++ sgs []) (pend2 ++ st) d (u - 0) false (pt + (_ + _))
            rw [show sgs [] = [] from rfl, List.append_nil, List.append_assoc, Nat.add_assoc, Nat.sub_zero]
        · rw [if_neg ha]
          exact ⟨fun hf => hA1 hf, fun ht => absurd ht ha⟩
      · rw [if_neg hm]
        have hm55 : m = 5 := by omega
        subst hm55
        rw [if_pos rfl]
        cases ts with
        | nil => exact absurd hw id
        | cons t r =>
          dsimp only
          have hwr : t.1 ≠ 0 → wfT r := fun h0 => wfT_tl hw h0
          have hln : 8 * r.length + 7 ≤ n := by unfold wgt at hn; rw [if_pos (by omega)] at hn; simp only [List.length_cons] at hn; omega
          have hfail : (t.1 = 0 ∨ (t.1 ≠ 2 ∧ ¬ (t.1 = 1 ∧ t.2.1 ≠ 0 ∧ isNm key (nI t.2.1) = true) ∧ ¬ ((t.1 = 3 ∧ t.2.1 = 40) ∧ d < 8) ∧ ¬ ((t.1 = 3 ∧ t.2.1 = 33) ∧ u < 8))) → mcP key (t :: r) cd st d u true pt = (false, t.2.2, [], 0) := by
            intro h
            unfold mcP
            rcases h with h | ⟨h1, h2, h3, h4⟩
            · rw [if_pos h, if_pos (Or.inl rfl)]
            · by_cases h0 : t.1 = 0
              · rw [if_pos h0, if_pos (Or.inl rfl)]
              · rw [if_neg h0, if_pos rfl, if_neg h1, if_neg h2, if_neg h3, if_neg h4]
          by_cases k2 : t.1 = 2
          · rw [if_pos k2]
            refine ⟨fun h => (by cases h), fun _ => ⟨[(nI 0, nI t.2.1)], [], by simp [sgs], fun c hc => absurd hc (by simp), fun t' r' _ _ h6 => absurd (rnk_le t'.2.1) (by omega), ?_⟩⟩
            rw [mcP, if_neg (by omega), if_pos rfl, if_pos k2]; rfl
          rw [if_neg k2]
          by_cases k1 : t.1 = 1 ∧ t.2.1 ≠ 0 ∧ isNm key (nI t.2.1) = true
          · rw [if_pos k1]
            refine ⟨fun h => (by cases h), fun _ => ⟨[(nI 1, nI t.2.1)], [], by simp [sgs], fun c hc => absurd hc (by simp), fun t' r' _ _ h6 => absurd (rnk_le t'.2.1) (by omega), ?_⟩⟩
            rw [mcP, if_neg (by omega), if_pos rfl, if_neg k2, if_pos k1]; rfl
          rw [if_neg k1]
          by_cases k3 : (t.1 = 3 ∧ t.2.1 = 33) ∧ u < 8
          · rw [if_pos k3]
            have hst : mcP key (t :: r) cd st d u true pt = mcP key r cd (33 :: st) d (u + 1) true pt := by
              rw [mcP, if_neg (by omega), if_pos rfl, if_neg k2, if_neg k1, if_neg (by omega), if_pos k3]
            have hpn33 : popN (33 :: st) = 33 :: popN st ∧ rstN (33 :: st) = rstN st := by
              unfold popN rstN
              rw [List.takeWhile_cons_of_pos (by decide), List.dropWhile_cons_of_pos (by decide)]
              exact ⟨rfl, rfl⟩
            have hA := (ih 5 d (u + 1) r (by unfold wgt; rw [if_pos (by omega)]; omega) (hwr (by omega)) hd (by omega)).1 (by omega) cd (33 :: st) pt (fun h => absurd h (by omega)) (by rw [hpn33.1]; simp only [List.length_cons]; omega)
            unfold okS at hA
            rw [hpn33.1, hpn33.2] at hA
            obtain ⟨hA1, hA2⟩ := hA
            rw [hst]
            by_cases ha : (rdP key n 5 d (u + 1) r).1 = true
            · rw [if_pos ha]
              obtain ⟨X, pend, hX, hr, hh, hmt⟩ := hA2 ha
              have hpe : pend = [] := by
                cases pend with
                | nil => rfl
                | cons c x => have := hr c List.mem_cons_self; have := rnk_le c; omega
              subst hpe
              refine ⟨fun h => (by cases h), fun _ => ⟨X ++ [(nI 2, nI 33)], [], ?_, fun c hc => absurd hc (by simp), fun t' r' _ _ h6 => absurd (rnk_le t'.2.1) (by omega), ?_⟩⟩
              · show (rdP key n 5 d (u + 1) r).2.2.1 ++ [(nI 2, nI 33)] = _
                rw [hX]; simp [sgs]
              · rw [hmt]
                show mcP key _ (cd ++ X ++ sgs (33 :: popN st)) _ d (u + 1 - (33 :: popN st).length) false _ = mcP key _ (cd ++ (X ++ [(nI 2, nI 33)]) ++ sgs (popN st)) _ d (u - (popN st).length) false _
                rw [show sgs (33 :: popN st) = [(nI 2, nI 33)] ++ sgs (popN st) from rfl, List.length_cons, show u + 1 - ((popN st).length + 1) = u - (popN st).length by omega]
                simp only [List.append_assoc]
            · rw [if_neg ha]
              exact ⟨fun hf => hA1 hf, fun ht => absurd ht ha⟩
          rw [if_neg k3]
          by_cases k4 : (t.1 = 3 ∧ t.2.1 = 40) ∧ d < 8
          · rw [if_pos k4]
            have hst : mcP key (t :: r) cd st d u true pt = mcP key r cd (40 :: st) (d + 1) u true pt := by
              rw [mcP, if_neg (by omega), if_pos rfl, if_neg k2, if_neg k1, if_pos k4]
            have hno : popN (40 :: st) = [] ∧ rstN (40 :: st) = 40 :: st := popN_no (fun c x e => by cases e; decide)
            have hA := (ih 0 (d + 1) u r (by unfold wgt; rw [if_pos (by omega)]; omega) (hwr (by omega)) (by omega) hu).1 (by omega) cd (40 :: st) pt (fun _ c x e => by cases e; exact ⟨by decide, by decide⟩) (by rw [hno.1]; simp)
            unfold okS at hA
            rw [hno.1, hno.2] at hA
            obtain ⟨hA1, hA2⟩ := hA
            have hwf := rd_wf key n 0 (d + 1) u r (hwr (by omega))
            rw [hst]
            by_cases ha : (rdP key n 0 (d + 1) u r).1 = true
            · obtain ⟨X, pend, hX, hr, hh, hmt⟩ := hA2 ha
              have hmt' : mcP key r cd (40 :: st) (d + 1) u true pt = mcP key (rdP key n 0 (d + 1) u r).2.1 (cd ++ X) (pend ++ 40 :: st) (d + 1) u false (pt + (rdP key n 0 (d + 1) u r).2.2.2) := by
                rw [hmt]; simp [sgs]
              by_cases hcl : isCl (rdP key n 0 (d + 1) u r).2.1 = true
              · rw [if_pos ⟨ha, hcl⟩]
                refine ⟨fun h => (by cases h), fun _ => ⟨(rdP key n 0 (d + 1) u r).2.2.1, [], by simp [sgs], fun c hc => absurd hc (by simp), fun t' r' _ _ h6 => absurd (rnk_le t'.2.1) (by omega), ?_⟩⟩
                rw [hmt', hX]
                show _ = mcP key (rdP key n 0 (d + 1) u r).2.1.tail (cd ++ (X ++ sgs pend) ++ sgs (popN st)) ([] ++ rstN st) d (u - (popN st).length) false (pt + (rdP key n 0 (d + 1) u r).2.2.2)
                cases hl : (rdP key n 0 (d + 1) u r).2.1 with
                | nil => rw [hl] at hcl; cases hcl
                | cons x y =>
                  rw [hl] at hcl
                  have hx : x.1 = 3 ∧ x.2.1 = 41 := of_decide_eq_true hcl
                  obtain ⟨p1, p2⟩ := popR_all (r := 1) (pend := pend) (st := 40 :: st) (fun c hc => hr c hc) (fun c z e => by cases e; decide)
                  rw [mcP, if_neg (by omega), if_neg (by decide), if_pos hx, if_neg (by omega), p1, p2]
                  show mcP key y (cd ++ X ++ sgs pend ++ sgs (popN st)) (rstN st) (d + 1 - 1) (u - (popN st).length) false _ = _
                  rw [Nat.add_sub_cancel]
                  simp only [List.append_assoc, List.nil_append, List.tail_cons]
              · rw [if_neg (fun h => hcl h.2)]
                refine ⟨fun _ => ?_, fun h => (by cases h)⟩
                rw [hmt']
                exact stuckF hwf (fun _ _ _ _ => by omega) (fun h => absurd h hcl) hh
            · rw [if_neg (fun h => ha h.1)]
              exact ⟨fun _ => hA1 (Bool.eq_false_iff.mpr ha), fun h => (by cases h)⟩
          rw [if_neg k4]
          exact ⟨fun _ => hfail (by by_cases h0 : t.1 = 0; exact Or.inl h0; exact Or.inr ⟨k2, k1, k4, k3⟩), fun h => (by cases h)⟩
    · unfold rdP
      rw [if_neg (by omega), if_neg (by omega)]
      cases ho : opAt (m - 6) ts with
      | none =>
        refine ⟨fun h => (by cases h), fun _ => ⟨[], pend0, by simp, hrk, ?_, by simp⟩⟩
        intro t r e h3 hl
        have e' : ts = t :: r := e
        rw [e'] at ho
        have hne := opAt_none ho
        exact hhd t r e' h3 (by omega)
      | some c =>
        dsimp only
        obtain ⟨b, r, ets, hc⟩ := opAt_some ho
        subst ets
        simp only [List.tail_cons]
        have hc41 : ¬ ((3 : Nat) = 3 ∧ c = 41) := fun h => (op_ne hc).2 h.2
        have hst : mcP key ((3, c, b) :: r) cd (pend0 ++ st) d u false pt = mcP key r (cd ++ sgs pend0) (c :: st) d u true pt := by
          obtain ⟨p1, p2⟩ := popR_all (r := m - 6 + 1) (pend := pend0) (st := st) (fun x hx => hrk x hx) (fun x z e => by have := (hto x z e).1; omega)
          have hn3 : ¬ (rnk c = 3 ∧ rnk ((rstR 4 (pend0 ++ st)).headD 0) = 3) := by
            rintro ⟨h3, h4⟩
            have hm8 : m = 8 := by omega
            obtain ⟨q1, q2⟩ := popR_all (r := 4) (pend := pend0) (st := st) (fun x hx => h8 hm8 x hx) (fun x z e => by have := (hto x z e).1; omega)
            rw [q2] at h4
            cases st with
            | nil => exact absurd h4 (by decide)
            | cons x z => have := (hto x z rfl).1; have h4' : rnk x = 3 := h4; omega
          rw [mcP, if_neg (by show ¬ (3 : Nat) = 0; omega), if_neg (by decide), if_neg hc41, if_pos ⟨rfl, by show 0 < rnk c; omega⟩, if_neg hn3]
          show mcP key r (cd ++ sgs (popR (rnk c) (pend0 ++ st))) (c :: rstR (rnk c) (pend0 ++ st)) d u true pt = _
          rw [hc, p1, p2]
        have hcn : popN (c :: st) = [] ∧ rstN (c :: st) = c :: st := popN_no (fun x z e => by cases e; exact (op_ne hc).1)
        have hln : 8 * r.length + 8 ≤ n := by unfold wgt at hn; rw [if_neg (by omega)] at hn; simp only [List.length_cons] at hn; omega
        have hA := (ih (m - 6 + 1) d u r (by unfold wgt; split <;> omega) (wfT_tl hw (by show (3 : Nat) ≠ 0; omega)) hd hu).1 (by omega) (cd ++ sgs pend0) (c :: st) pt (fun _ x z e => by cases e; exact ⟨by omega, (op_ne hc).1⟩) (by rw [hcn.1]; simp)
        unfold okS at hA
        rw [hcn.1, hcn.2] at hA
        obtain ⟨hA1, hA2⟩ := hA
        rw [hst]
        show okL key (m - 6) (if (rdP key n (m - 6 + 1) d u r).1 = true then _ else _) _ cd pend0 st d u pt
        by_cases ha : (rdP key n (m - 6 + 1) d u r).1 = true
        · rw [if_pos ha]
          obtain ⟨X, pend, hX, hr, hh, hmt⟩ := hA2 ha
          have hlen := (rd_len key n (m - 6 + 1) d u r ha).1
          have hwf := rd_wf key n (m - 6 + 1) d u r (wfT_tl hw (by show (3 : Nat) ≠ 0; omega))
          have hmt' : mcP key r (cd ++ sgs pend0) (c :: st) d u true pt = mcP key (rdP key n (m - 6 + 1) d u r).2.1 (cd ++ sgs pend0 ++ X) ((pend ++ [c]) ++ st) d u false (pt + (rdP key n (m - 6 + 1) d u r).2.2.2) := by
            rw [hmt]; simp [sgs]
          have hrk2 : rkOK (m - 6) (pend ++ [c]) := by
            intro x hx
            rcases List.mem_append.mp hx with h | h
            · have := hr x h; omega
            · rw [List.mem_singleton] at h; rw [h]; omega
          by_cases h8' : m = 8
          · rw [if_pos h8']
            refine ⟨fun h => (by cases h), fun _ => ⟨sgs pend0 ++ X, pend ++ [c], ?_, hrk2, ?_, ?_⟩⟩
            · show sgs pend0 ++ ((rdP key n (m - 6 + 1) d u r).2.2.1 ++ [(nI 2, nI c)]) = _
              rw [hX, sgs_app]; simp [sgs]
            · intro t' r' e h3 hl
              have hl' : m - 6 + 1 ≤ rnk t'.2.1 := hl
              by_cases h4 : rnk t'.2.1 = 3
              · exact ⟨h4, ⟨pend, c, [], rfl, fun x hx => by have := hr x hx; omega, by omega⟩⟩
              · have := hh t' r' e h3 (by omega)
                exact absurd this.1 h4
            · rw [hmt']
              rw [List.append_assoc cd]
          · rw [if_neg h8']
            have hB := (ih m d u _ (by unfold wgt at *; rw [if_neg (by omega)] at *; simp only [List.length_cons] at hn; omega) hwf hd hu).2 hm6 hm10 (cd ++ sgs pend0 ++ X) (pend ++ [c]) st (pt + (rdP key n (m - 6 + 1) d u r).2.2.2) hto hrk2 (fun h => absurd h h8') (by
              intro t' r' e h3 hl
              obtain ⟨q1, A, x, B, q2, q3, q4⟩ := hh t' r' e h3 hl
              exact ⟨q1, A, x, B ++ [c], by rw [q2]; simp, q3, q4⟩)
            obtain ⟨hB1, hB2⟩ := hB
            rw [hmt']
            refine ⟨hB1, fun hb => ?_⟩
            obtain ⟨X2, pend2, hX2, hr2, hh2, hmt2⟩ := hB2 hb
            refine ⟨sgs pend0 ++ X ++ X2, pend2, ?_, hr2, hh2, ?_⟩
            · show sgs pend0 ++ ((rdP key n (m - 6 + 1) d u r).2.2.1 ++ [(nI 2, nI c)] ++ _) = _
              rw [hX]
              have h9 : sgs pend ++ [(nI 2, nI c)] = sgs (pend ++ [c]) := by rw [sgs_app]; rfl
              rw [List.append_assoc X, h9, List.append_assoc X, hX2]
              simp only [List.append_assoc]
            · rw [hmt2]
              simp only [List.append_assoc, Nat.add_assoc]
        · rw [if_neg ha]
          exact ⟨fun hf => hA1 hf, fun ht => absurd ht ha⟩
