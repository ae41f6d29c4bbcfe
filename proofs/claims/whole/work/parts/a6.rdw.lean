/-! ===== the reference reads a text ===== -/
def gSt (g : Nat → Int32) (a : Nat) (c : List CD) : Nat → Int32 := match c with
  | [] => g
  | x :: r => gSt (upd (upd g a x.1) (a + 1) x.2) (a + 2) r
theorem gSt_app (g : Nat → Int32) : ∀ (a : Nat) (c e : List CD), gSt g a (c ++ e) = gSt (gSt g a c) (a + 2 * c.length) e := by
  intro a c
  induction c generalizing g a with
  | nil => intro e; rfl
  | cons x r ih =>
    intro e
    show gSt (upd (upd g a x.1) (a + 1) x.2) (a + 2) (r ++ e) = gSt (gSt (upd (upd g a x.1) (a + 1) x.2) (a + 2) r) (a + 2 * (x :: r).length) e
    rw [ih, List.length_cons, show a + 2 * (r.length + 1) = a + 2 + 2 * r.length by omega]
theorem gSt_off {i : Nat} : ∀ (c : List CD) (g : Nat → Int32) (a : Nat), (i < a ∨ a + 2 * c.length ≤ i) → gSt g a c i = g i
  | [], _, _, _ => rfl
  | x :: r, g, a, h => by
    rw [List.length_cons] at h
    show gSt (upd (upd g a x.1) (a + 1) x.2) (a + 2) r i = g i
    rw [gSt_off r _ _ (by omega), upd_off (by omega), upd_off (by omega)]
theorem gSt_at : ∀ (c : List CD) (g : Nat → Int32) (a j : Nat) (x : CD), c[j]? = some x → gSt g a c (a + 2 * j) = x.1 ∧ gSt g a c (a + 2 * j + 1) = x.2
  | [], _, _, j, x, h => by cases h
  | y :: r, g, a, 0, x, h => by
    have hx : y = x := by simpa using h
    subst hx
    show gSt (upd (upd g a y.1) (a + 1) y.2) (a + 2) r (a + 2 * 0) = _ ∧ gSt (upd (upd g a y.1) (a + 1) y.2) (a + 2) r (a + 2 * 0 + 1) = _
    rw [gSt_off r _ _ (by omega), gSt_off r _ _ (by omega), Nat.mul_zero, Nat.add_zero]
    exact ⟨by rw [upd_off (by omega), upd_same], upd_same⟩
  | y :: r, g, a, j + 1, x, h => by
    have h' : r[j]? = some x := by simpa using h
    have := gSt_at r (upd (upd g a y.1) (a + 1) y.2) (a + 2) j x h'
    rw [show a + 2 + 2 * j = a + 2 * (j + 1) by omega] at this
    exact this
def sgB (ts : List TK) (c : Nat) : Bool := match ts with
  | [] => false
  | t :: _ => decide (t.1 = 3 ∧ t.2.1 = c)
theorem sgT {f R : Nat → Int32} {t : Nat} {ts : List TK} (h : curT f t R ts) {c : Nat} (hc : c < 256) : decide (R 18 = nI 3 ∧ R 20 = nI c) = sgB ts c := by
  obtain ⟨k, v, b, r, p, n, e, c0, c1, c2, c3, c4, c5, c6, c7, c8, c9⟩ := h
  subst e
  show _ = decide (k = 3 ∧ v = c)
  congr 1
  rw [c6, nI_eq (by omega) (by omega)]
  exact propext ⟨fun e => ⟨e.1, by rw [(c9 (Or.inr e.1)).1] at e; exact (nI_eq (by have := (c9 (Or.inr e.1)).2; omega) (by omega)).mp e.2⟩, fun e => ⟨e.1, by rw [(c9 (Or.inr e.1)).1, e.2]⟩⟩
theorem rnk_1 {v : Nat} : rnk v = 1 ↔ v = 124 := by
  unfold rnk
  repeat' split
  all_goals omega
theorem rnk_2 {v : Nat} : rnk v = 2 ↔ v = 38 := by
  unfold rnk
  repeat' split
  all_goals omega
theorem rnk_3 {v : Nat} : rnk v = 3 ↔ v = 60 ∨ v = 61 ∨ v = 62 := by
  unfold rnk
  repeat' split
  all_goals omega
theorem rnk_4 {v : Nat} : rnk v = 4 ↔ v = 43 ∨ v = 45 := by
  unfold rnk
  repeat' split
  all_goals omega
theorem rnk_5 {v : Nat} : rnk v = 5 ↔ v = 42 ∨ v = 47 := by
  unfold rnk
  repeat' split
  all_goals omega
theorem rd_cl (key : Nat) : ∀ n m d u ts, (rdP key n m d u ts).2.2.1.length + (rdP key n m d u ts).2.1.length ≤ ts.length := by
  intro n
  induction n with
  | zero => intro m d u ts; show 0 + ts.length ≤ _; omega
  | succ n ih =>
    intro m d u ts
    unfold rdP
    by_cases hm : m < 5
    · rw [if_pos hm]
      dsimp only
      by_cases ha : (rdP key n (m + 1) d u ts).1 = true
      · rw [if_pos ha]
        have h1 := ih (m + 1) d u ts
        have h2 := ih (6 + m) d u (rdP key n (m + 1) d u ts).2.1
        show (_ ++ _).length + (rdP key n (6 + m) d u (rdP key n (m + 1) d u ts).2.1).2.1.length ≤ _
        rw [List.length_append]; omega
      · rw [if_neg ha]; exact ih (m + 1) d u ts
    · rw [if_neg hm]
      by_cases h5 : m = 5
      · rw [if_pos h5]
        cases ts with
        | nil => show 0 + 0 ≤ 0; omega
        | cons t r =>
          dsimp only
          split
          · show 1 + r.length ≤ r.length + 1; omega
          split
          · show 1 + r.length ≤ r.length + 1; omega
          split
          · have h1 := ih 5 d (u + 1) r
            by_cases ha : (rdP key n 5 d (u + 1) r).1 = true
            · rw [if_pos ha]
              show (_ ++ [_]).length + (rdP key n 5 d (u + 1) r).2.1.length ≤ r.length + 1
              rw [List.length_append, List.length_singleton]; omega
            · rw [if_neg ha]; show _ ≤ r.length + 1; omega
          split
          · have h1 := ih 0 (d + 1) u r
            by_cases ha : (rdP key n 0 (d + 1) u r).1 = true ∧ isCl (rdP key n 0 (d + 1) u r).2.1 = true
            · rw [if_pos ha]
              show (rdP key n 0 (d + 1) u r).2.2.1.length + (rdP key n 0 (d + 1) u r).2.1.tail.length ≤ r.length + 1
              rw [List.length_tail]; omega
            · rw [if_neg ha]; show (rdP key n 0 (d + 1) u r).2.2.1.length + (rdP key n 0 (d + 1) u r).2.1.length ≤ r.length + 1; omega
          · show 0 + (r.length + 1) ≤ r.length + 1; omega
      · rw [if_neg h5]
        cases ho : opAt (m - 6) ts with
        | none => show 0 + ts.length ≤ _; omega
        | some c =>
          obtain ⟨b, r, e, _⟩ := opAt_some ho
          subst e
          simp only [List.tail_cons]
          have h1 := ih (m - 6 + 1) d u r
          by_cases ha : (rdP key n (m - 6 + 1) d u r).1 = true
          · rw [if_pos ha]
            by_cases h8 : m = 8
            · rw [if_pos h8]
              show (_ ++ [_]).length + (rdP key n (m - 6 + 1) d u r).2.1.length ≤ r.length + 1
              rw [List.length_append, List.length_singleton]; omega
            · rw [if_neg h8]
              have h2 := ih m d u (rdP key n (m - 6 + 1) d u r).2.1
              show (_ ++ [_] ++ _).length + (rdP key n m d u (rdP key n (m - 6 + 1) d u r).2.1).2.1.length ≤ r.length + 1
              rw [List.length_append, List.length_append, List.length_singleton]; omega
          · rw [if_neg ha]; show _ ≤ r.length + 1; omega
/-- how a reading leaves the reader -/
def rdPost (f : Nat → Int32) (t A d u L S : Nat) (a : RS) (I J : zI) (g g' : Nat → Int32) : Prop := (∀ q, q ≠ qR → J q = I q) ∧ (∀ i, ¬ (16 ≤ i ∧ i ≤ 25) → J qR i = I qR i) ∧ g' = gSt g (A + 2 * L) a.2.2.1 ∧ curT f t (J qR) a.2.1 ∧ (a.1 = true → prS f t A d u (L + a.2.2.1.length) (S + a.2.2.2) a.2.1 (J qR))
section
variable {l : Launch} {G : zG} {Z : zS} {I : zI} {g : Nat → Int32} {Q : Option Value → zS → zI → Prop}
theorem rd_lvl (key n m d u : Nat) (ts : List TK) (hm : m < 5) : rdP key (n + 1) m d u ts = (if (rdP key n (m + 1) d u ts).1 = true then ((rdP key n (6 + m) d u (rdP key n (m + 1) d u ts).2.1).1, (rdP key n (6 + m) d u (rdP key n (m + 1) d u ts).2.1).2.1, (rdP key n (m + 1) d u ts).2.2.1 ++ (rdP key n (6 + m) d u (rdP key n (m + 1) d u ts).2.1).2.2.1, (rdP key n (m + 1) d u ts).2.2.2 + (rdP key n (6 + m) d u (rdP key n (m + 1) d u ts).2.1).2.2.2) else rdP key n (m + 1) d u ts) := by
  rw [rdP, if_pos hm]
theorem rd_lop (key n m d u : Nat) (ts : List TK) (hm : 6 ≤ m) : rdP key (n + 1) m d u ts = (match opAt (m - 6) ts with
       | none => (true, ts, [], 0)
       | some c => if (rdP key n (m - 6 + 1) d u ts.tail).1 = true then (if m = 8 then (true, (rdP key n (m - 6 + 1) d u ts.tail).2.1, (rdP key n (m - 6 + 1) d u ts.tail).2.2.1 ++ [(nI 2, nI c)], (rdP key n (m - 6 + 1) d u ts.tail).2.2.2) else ((rdP key n m d u (rdP key n (m - 6 + 1) d u ts.tail).2.1).1, (rdP key n m d u (rdP key n (m - 6 + 1) d u ts.tail).2.1).2.1, (rdP key n (m - 6 + 1) d u ts.tail).2.2.1 ++ [(nI 2, nI c)] ++ (rdP key n m d u (rdP key n (m - 6 + 1) d u ts.tail).2.1).2.2.1, (rdP key n (m - 6 + 1) d u ts.tail).2.2.2 + (rdP key n m d u (rdP key n (m - 6 + 1) d u ts.tail).2.1).2.2.2)) else rdP key n (m - 6 + 1) d u ts.tail) := by
  rw [rdP, if_neg (by omega), if_neg (by omega)]
/-- one reading behind another -/
theorem rdPost_tr {f : Nat → Int32} {t A d u L S : Nat} {a b : RS} {I J K : zI} {g g1 g2 : Nat → Int32} (h1 : rdPost f t A d u L S a I J g g1) (h2 : rdPost f t A d u (L + a.2.2.1.length) (S + a.2.2.2) b J K g1 g2) : rdPost f t A d u L S (b.1, b.2.1, a.2.2.1 ++ b.2.2.1, a.2.2.2 + b.2.2.2) I K g g2 := by
  obtain ⟨a1, a2, a3, a4, a5⟩ := h1
  obtain ⟨b1, b2, b3, b4, b5⟩ := h2
  refine ⟨fun q hq => (b1 q hq).trans (a1 q hq), fun i hi => (b2 i hi).trans (a2 i hi), ?_, b4, fun hb => ?_⟩
  · rw [b3, a3, show A + 2 * (L + a.2.2.1.length) = A + 2 * L + 2 * a.2.2.1.length by omega, ← gSt_app]
  · have := b5 hb
    show prS f t A d u (L + (a.2.2.1 ++ b.2.2.1).length) (S + (a.2.2.2 + b.2.2.2)) b.2.1 (K qR)
    rw [List.length_append, ← Nat.add_assoc, ← Nat.add_assoc]; exact this
def rdLv (key n m d u : Nat) (f : Nat → Int32) (t A : Nat) (md : zD) (dep : Nat) (l : Launch) (G : zG) (Z : zS) : Prop := ∀ (ts : List TK) (I : zI) (g : Nat → Int32) (L S : Nat) (Q : Option Value → zS → zI → Prop), 8 * ts.length + wgt m ≤ n → I q_tape = f → prS f t A d u L S ts (I qR) → L + ts.length ≤ 97 →
  (∀ J g', rdPost f t A d u L S (rdP key n m d u ts) I J g g' → Q (some (.int (zb (rdP key n m d u ts).1))) Z (va_up J q_s g')) → zM l G md dep 0 0 [.ref qR, .int (nI key)] Z (va_up I q_s g) Q
def rdLp (key n m d u : Nat) (f : Nat → Int32) (t A : Nat) (md : zD) (ls : List (Option Value)) (dep : Nat) (l : Launch) (G : zG) (Z : zS) : Prop := ∀ (ts : List TK) (I : zI) (g : Nat → Int32) (L S : Nat) (Q : Option Value → zS → zI → Prop), 8 * ts.length + wgt m ≤ n → I q_tape = f → prS f t A d u L S ts (I qR) → L + ts.length ≤ 97 →
  (∀ J g', rdPost f t A d u L S (rdP key n m d u ts) I J g g' → Q (some (.int (zb (rdP key n m d u ts).1))) Z (va_up J q_s g')) → zX l G md dep 0 0 10 ls [] Z (va_up I q_s g) Q
theorem e_X12_either (hZ : ShR Z) {key n d u t A : Nat} {f : Nat → Int32} (hA : rdLv key n 1 d u f t A mX12_both (7 * ((8 - d) + (8 - u)) + 8) l G Z) (hB : rdLp key n 6 d u f t A mX12_either [some (.ref qR), some (.int (nI key))] (7 * ((8 - d) + (8 - u)) + 9) l G Z) : rdLv key (n + 1) 0 d u f t A mX12_either (7 * ((8 - d) + (8 - u)) + 9) l G Z := by
  intro ts I g L S Q hn hf hp hL hq
  refine x_entry [some (.ref qR), some (.int (nI key))] 0 rfl rfl (Nat.le_of_ble_eq_true rfl) ?_
  have hlv := rd_lvl key n 0 d u ts (by omega)
  have hw : wgt 0 = 6 := rfl
  have hw2 : wgt 1 = 5 := rfl
  rw [hw] at hn
  %walk X12_either 0 1=N
  %@* dd (by omega)
  %@2 depth (7 * ((8 - d) + (8 - u)) + 8)
  %@2 call refine hA ts I g L S _ (by rw [hw2]; omega) hf hp hL (fun J g1 hP => ?_)
  %@2 tag B
  %@9 leaf rw [hlv, if_neg (by rw [c_5]; decide)] at hq
  %@9 leaf have hx := hq J g1 hP
  %@9 leaf rw [c_5] at hx; exact hx
  %@10 cut rw [hlv, if_pos c_5] at hq
  %@10 cut have hlen := (rd_len key n 1 d u ts c_5).2 (by omega)
  %@10 cut have hcl := rd_cl key n 1 d u ts
  %@10 cut refine hB _ J g1 (L + (rdP key n 1 d u ts).2.2.1.length) (S + (rdP key n 1 d u ts).2.2.2) Q (by rw [show wgt 6 = 1 from rfl]; omega) ((hP.1 _ (by decide)).trans hf) (hP.2.2.2.2 c_5) (by omega) (fun K g2 hK => ?_)
  %@10 cut exact hq K g2 (rdPost_tr hP hK)
theorem e_X12_both (hZ : ShR Z) {key n d u t A : Nat} {f : Nat → Int32} (hA : rdLv key n 2 d u f t A mX12_test (7 * ((8 - d) + (8 - u)) + 7) l G Z) (hB : rdLp key n 7 d u f t A mX12_both [some (.ref qR), some (.int (nI key))] (7 * ((8 - d) + (8 - u)) + 8) l G Z) : rdLv key (n + 1) 1 d u f t A mX12_both (7 * ((8 - d) + (8 - u)) + 8) l G Z := by
  intro ts I g L S Q hn hf hp hL hq
  refine x_entry [some (.ref qR), some (.int (nI key))] 0 rfl rfl (Nat.le_of_ble_eq_true rfl) ?_
  have hlv := rd_lvl key n 1 d u ts (by omega)
  have hw : wgt 1 = 5 := rfl
  have hw2 : wgt 2 = 4 := rfl
  rw [hw] at hn
  %walk X12_both 0 1=N
  %@* dd (by omega)
  %@2 depth (7 * ((8 - d) + (8 - u)) + 7)
  %@2 call refine hA ts I g L S _ (by rw [hw2]; omega) hf hp hL (fun J g1 hP => ?_)
  %@2 tag B
  %@9 leaf rw [hlv, if_neg (by rw [c_5]; decide)] at hq
  %@9 leaf have hx := hq J g1 hP
  %@9 leaf rw [c_5] at hx; exact hx
  %@10 cut rw [hlv, if_pos c_5] at hq
  %@10 cut have hlen := (rd_len key n 2 d u ts c_5).2 (by omega)
  %@10 cut have hcl := rd_cl key n 2 d u ts
  %@10 cut refine hB _ J g1 (L + (rdP key n 2 d u ts).2.2.1.length) (S + (rdP key n 2 d u ts).2.2.2) Q (by rw [show wgt 7 = 1 from rfl]; omega) ((hP.1 _ (by decide)).trans hf) (hP.2.2.2.2 c_5) (by omega) (fun K g2 hK => ?_)
  %@10 cut exact hq K g2 (rdPost_tr hP hK)
theorem e_X12_test (hZ : ShR Z) {key n d u t A : Nat} {f : Nat → Int32} (hA : rdLv key n 3 d u f t A mX12_sum (7 * ((8 - d) + (8 - u)) + 6) l G Z) (hB : rdLp key n 8 d u f t A mX12_test [some (.ref qR), some (.int (nI key)), none] (7 * ((8 - d) + (8 - u)) + 7) l G Z) : rdLv key (n + 1) 2 d u f t A mX12_test (7 * ((8 - d) + (8 - u)) + 7) l G Z := by
  intro ts I g L S Q hn hf hp hL hq
  refine x_entry [some (.ref qR), some (.int (nI key)), none] 1 rfl rfl (Nat.le_of_ble_eq_true rfl) ?_
  have hlv := rd_lvl key n 2 d u ts (by omega)
  have hw : wgt 2 = 4 := rfl
  have hw2 : wgt 3 = 3 := rfl
  rw [hw] at hn
  %walk X12_test 0 1=N
  %@* dd (by omega)
  %@2 depth (7 * ((8 - d) + (8 - u)) + 6)
  %@2 call refine hA ts I g L S _ (by rw [hw2]; omega) hf hp hL (fun J g1 hP => ?_)
  %@2 tag B
  %@9 leaf rw [hlv, if_neg (by rw [c_5]; decide)] at hq
  %@9 leaf have hx := hq J g1 hP
  %@9 leaf rw [c_5] at hx; exact hx
  %@10 cut rw [hlv, if_pos c_5] at hq
  %@10 cut have hlen := (rd_len key n 3 d u ts c_5).2 (by omega)
  %@10 cut have hcl := rd_cl key n 3 d u ts
  %@10 cut refine hB _ J g1 (L + (rdP key n 3 d u ts).2.2.1.length) (S + (rdP key n 3 d u ts).2.2.2) Q (by rw [show wgt 8 = 1 from rfl]; omega) ((hP.1 _ (by decide)).trans hf) (hP.2.2.2.2 c_5) (by omega) (fun K g2 hK => ?_)
  %@10 cut exact hq K g2 (rdPost_tr hP hK)
theorem e_X12_sum (hZ : ShR Z) {key n d u t A : Nat} {f : Nat → Int32} (hA : rdLv key n 4 d u f t A mX12_term (7 * ((8 - d) + (8 - u)) + 5) l G Z) (hB : rdLp key n 9 d u f t A mX12_sum [some (.ref qR), some (.int (nI key)), none] (7 * ((8 - d) + (8 - u)) + 6) l G Z) : rdLv key (n + 1) 3 d u f t A mX12_sum (7 * ((8 - d) + (8 - u)) + 6) l G Z := by
  intro ts I g L S Q hn hf hp hL hq
  refine x_entry [some (.ref qR), some (.int (nI key)), none] 1 rfl rfl (Nat.le_of_ble_eq_true rfl) ?_
  have hlv := rd_lvl key n 3 d u ts (by omega)
  have hw : wgt 3 = 3 := rfl
  have hw2 : wgt 4 = 2 := rfl
  rw [hw] at hn
  %walk X12_sum 0 1=N
  %@* dd (by omega)
  %@2 depth (7 * ((8 - d) + (8 - u)) + 5)
  %@2 call refine hA ts I g L S _ (by rw [hw2]; omega) hf hp hL (fun J g1 hP => ?_)
  %@2 tag B
  %@9 leaf rw [hlv, if_neg (by rw [c_5]; decide)] at hq
  %@9 leaf have hx := hq J g1 hP
  %@9 leaf rw [c_5] at hx; exact hx
  %@10 cut rw [hlv, if_pos c_5] at hq
  %@10 cut have hlen := (rd_len key n 4 d u ts c_5).2 (by omega)
  %@10 cut have hcl := rd_cl key n 4 d u ts
  %@10 cut refine hB _ J g1 (L + (rdP key n 4 d u ts).2.2.1.length) (S + (rdP key n 4 d u ts).2.2.2) Q (by rw [show wgt 9 = 1 from rfl]; omega) ((hP.1 _ (by decide)).trans hf) (hP.2.2.2.2 c_5) (by omega) (fun K g2 hK => ?_)
  %@10 cut exact hq K g2 (rdPost_tr hP hK)
theorem e_X12_term (hZ : ShR Z) {key n d u t A : Nat} {f : Nat → Int32} (hA : rdLv key n 5 d u f t A mX12_part0 (7 * ((8 - d) + (8 - u)) + 4) l G Z) (hB : rdLp key n 10 d u f t A mX12_term [some (.ref qR), some (.int (nI key)), none] (7 * ((8 - d) + (8 - u)) + 5) l G Z) : rdLv key (n + 1) 4 d u f t A mX12_term (7 * ((8 - d) + (8 - u)) + 5) l G Z := by
  intro ts I g L S Q hn hf hp hL hq
  refine x_entry [some (.ref qR), some (.int (nI key)), none] 1 rfl rfl (Nat.le_of_ble_eq_true rfl) ?_
  have hlv := rd_lvl key n 4 d u ts (by omega)
  have hw : wgt 4 = 2 := rfl
  have hw2 : wgt 5 = 1 := rfl
  rw [hw] at hn
  %walk X12_term 0 1=N
  %@* dd (by omega)
  %@2 depth (7 * ((8 - d) + (8 - u)) + 4)
  %@2 call refine hA ts I g L S _ (by rw [hw2]; omega) hf hp hL (fun J g1 hP => ?_)
  %@2 tag B
  %@9 leaf rw [hlv, if_neg (by rw [c_5]; decide)] at hq
  %@9 leaf have hx := hq J g1 hP
  %@9 leaf rw [c_5] at hx; exact hx
  %@10 cut rw [hlv, if_pos c_5] at hq
  %@10 cut have hlen := (rd_len key n 5 d u ts c_5).2 (by omega)
  %@10 cut have hcl := rd_cl key n 5 d u ts
  %@10 cut refine hB _ J g1 (L + (rdP key n 5 d u ts).2.2.1.length) (S + (rdP key n 5 d u ts).2.2.2) Q (by rw [show wgt 10 = 1 from rfl]; omega) ((hP.1 _ (by decide)).trans hf) (hP.2.2.2.2 c_5) (by omega) (fun K g2 hK => ?_)
  %@10 cut exact hq K g2 (rdPost_tr hP hK)
theorem rdPost_step {f : Nat → Int32} {t A d u L S c : Nat} {a : RS} {I J K : zI} {g g1 : Nat → Int32} (hJ : ∀ q, q ≠ qR → J q = I q) (hJ2 : ∀ i, ¬ (16 ≤ i ∧ i ≤ 20) → J qR i = I qR i) (hK : rdPost f t A d u L S a J K g g1) (ha : a.1 = true) : rdPost f t A d u L S (true, a.2.1, a.2.2.1 ++ [(nI 2, nI c)], a.2.2.2) I (va_up K qR (upd (K qR) 23 (nI (L + a.2.2.1.length + 1)))) g (upd (upd g1 (A + 2 * (L + a.2.2.1.length)) (nI 2)) (A + 2 * (L + a.2.2.1.length) + 1) (nI c)) := by
  obtain ⟨k1, k2, k3, k4, k5⟩ := hK
  obtain ⟨p1, p2, p3, p4, p5, p6, p7⟩ := k5 ha
  have hc : curT f t (upd (K qR) 23 (nI (L + a.2.2.1.length + 1))) a.2.1 := by
    obtain ⟨k, v, b, r, p, n, e, c0, c1, c2, c3, c4, c5, c6, c7, c8, c9⟩ := p7
    exact ⟨k, v, b, r, p, n, e, c0, c1, by rw [upd_off (by omega)]; exact c2, by rw [upd_off (by omega)]; exact c3, c4, c5, by rw [upd_off (by omega)]; exact c6, c7, by rw [upd_off (by omega)]; exact c8, by rw [upd_off (by omega)]; exact c9⟩
  refine ⟨fun q hq => ?_, fun i hi => ?_, ?_, ?_, fun _ => ?_⟩
  · rw [va_up_off hq, k1 q hq]; exact hJ q hq
  · rw [va_up_same, upd_off (by omega), k2 i hi]; exact hJ2 i (by omega)
  · show _ = gSt g (A + 2 * L) (a.2.2.1 ++ [(nI 2, nI c)])
    rw [gSt_app, ← k3, show A + 2 * L + 2 * a.2.2.1.length = A + 2 * (L + a.2.2.1.length) by omega]
    rfl
  · rw [va_up_same]; exact hc
  · rw [va_up_same]
    simp only [List.length_append, List.length_singleton]
    exact ⟨by rw [upd_off (by omega)]; exact p1, by rw [upd_off (by omega)]; exact p2, by rw [upd_off (by omega)]; exact p3, by rw [upd_same, Nat.add_assoc], by rw [upd_off (by omega)]; exact p5, by rw [upd_off (by omega)]; exact p6, hc⟩
theorem o_X12_either (hZ : ShR Z) {key n d u t A : Nat} {f : Nat → Int32} (hy : byR f t) (ht : t ≤ 96) (hAA : A ≤ 5332) (hA : rdLv key n 1 d u f t A mX12_both (7 * ((8 - d) + (8 - u)) + 8) l G Z) (hB : rdLp key n 6 d u f t A mX12_either [some (.ref qR), some (.int (nI key))] (7 * ((8 - d) + (8 - u)) + 9) l G Z) : rdLp key (n + 1) 6 d u f t A mX12_either [some (.ref qR), some (.int (nI key))] (7 * ((8 - d) + (8 - u)) + 9) l G Z := by
  intro ts I g L S Q hn hf hp hL hq
  have hlp := rd_lop key n 6 d u ts (by omega)
  have hw : wgt 6 = 1 := rfl
  have hw2 : wgt 1 = 5 := rfl
  rw [hw] at hn
  have hsg := sgT hp.2.2.2.2.2.2 (c := 124) (by omega)
  cases ts with
  | nil => exact absurd (curT_wf hp.2.2.2.2.2.2) id
  | cons x r =>
    simp only [List.length_cons] at hn hL
    %walk X12_either 10 1=N
    %@* dd (by omega)
    %@13 call refine c_X12_isSign hZ ?_
    %@13 call rw [hsg]
    %@13 tag B
    %@44 leaf have hno : opAt 0 (x :: r) = none := by
    %@44 leaf   show (if x.1 = 3 ∧ rnk x.2.1 = 0 + 1 then some x.2.1 else none) = none
    %@44 leaf   rw [if_neg]
    %@44 leaf   rintro ⟨h1, h2⟩
    %@44 leaf   exact of_decide_eq_false c_16 ⟨h1, rnk_1.mp h2⟩
    %@44 leaf rw [show 6 - 6 = 0 from rfl, hno] at hlp
    %@44 leaf have hx := hq I g (by rw [hlp]; exact ⟨fun _ _ => rfl, fun _ _ => rfl, rfl, hp.2.2.2.2.2.2, fun _ => hp⟩)
    %@44 leaf rw [hlp] at hx; exact hx
    %@20 pre have hxs : x.1 = 3 ∧ x.2.1 = 124 := of_decide_eq_true c_16
    %@20 pre have hso : opAt 0 (x :: r) = some 124 := by
    %@20 pre   show (if x.1 = 3 ∧ rnk x.2.1 = 0 + 1 then some x.2.1 else none) = some 124
    %@20 pre   rw [if_pos ⟨hxs.1, rnk_1.mpr hxs.2⟩, hxs.2]
    %@20 pre rw [show 6 - 6 = 0 from rfl, hso] at hlp
    %@20 pre simp only [List.tail_cons] at hlp
    %@20 call refine c_nextT hZ hf hy ht hp (by omega) (fun J hJ hJ2 hpJ => ?_)
    %@25 depth (7 * ((8 - d) + (8 - u)) + 8)
    %@25 call refine hA r J g L S _ (by rw [hw2]; omega) ((hJ _ (by decide)).trans hf) hpJ (by omega) (fun K g1 hK => ?_)
    %@25 tag B
    %@25 call have hcl := rd_cl key n 1 d u r
    %@32 leaf rw [if_neg (by rw [c_28]; decide)] at hlp
    %@32 leaf have hx := hq K g1 (by rw [hlp]; exact ⟨fun q hq => (hK.1 q hq).trans (hJ q hq), fun i hi => (hK.2.1 i hi).trans (hJ2 i (by omega)), hK.2.2.1, hK.2.2.2.1, hK.2.2.2.2⟩)
    %@32 leaf rw [hlp, c_28] at hx; exact hx
    %@37 pre rw [if_pos c_28, if_neg (by omega)] at hlp
    %@37 pre have hpK := hK.2.2.2.2 c_28
    %@37 pre have hlen := (rd_len key n 1 d u r c_28).2 (by omega)
    %@37 call refine c_X12_step hZ hpK.2.2.2.2.1 hpK.2.2.2.1 (by omega) ?_
    %@10 cut have hK2 : rdPost f t A d u L S (true, (rdP key n 1 d u r).2.1, (rdP key n 1 d u r).2.2.1 ++ [(nI 2, nI 124)], (rdP key n 1 d u r).2.2.2) I (va_up K qR (upd (K qR) 23 (nI (L + (rdP key n 1 d u r).2.2.1.length + 1)))) g (upd (upd g1 (A + 2 * (L + (rdP key n 1 d u r).2.2.1.length)) (nI 2)) (A + 2 * (L + (rdP key n 1 d u r).2.2.1.length) + 1) (nI 124)) := rdPost_step hJ hJ2 hK c_28
    %@10 cut refine hB _ _ _ (L + (rdP key n 1 d u r).2.2.1.length + 1) (S + (rdP key n 1 d u r).2.2.2) Q (by rw [hw]; omega) ((hK2.1 _ (by decide)).trans hf) ?_ (by omega) (fun M g2 hM => ?_)
    %@10 cut · have := hK2.2.2.2.2 rfl
    %@10 cut   simp only [List.length_append, List.length_singleton] at this
    %@10 cut   rw [← Nat.add_assoc] at this; exact this
    %@10 cut · rw [hlp] at hq
    %@10 cut   refine hq M g2 ?_
    %@10 cut   have h3 := rdPost_tr (a := (true, (rdP key n 1 d u r).2.1, (rdP key n 1 d u r).2.2.1 ++ [(nI 2, nI 124)], (rdP key n 1 d u r).2.2.2)) hK2 (by simp only [List.length_append, List.length_singleton]; rw [← Nat.add_assoc]; exact hM)
    %@10 cut   exact h3
theorem o_X12_both (hZ : ShR Z) {key n d u t A : Nat} {f : Nat → Int32} (hy : byR f t) (ht : t ≤ 96) (hAA : A ≤ 5332) (hA : rdLv key n 2 d u f t A mX12_test (7 * ((8 - d) + (8 - u)) + 7) l G Z) (hB : rdLp key n 7 d u f t A mX12_both [some (.ref qR), some (.int (nI key))] (7 * ((8 - d) + (8 - u)) + 8) l G Z) : rdLp key (n + 1) 7 d u f t A mX12_both [some (.ref qR), some (.int (nI key))] (7 * ((8 - d) + (8 - u)) + 8) l G Z := by
  intro ts I g L S Q hn hf hp hL hq
  have hlp := rd_lop key n 7 d u ts (by omega)
  have hw : wgt 7 = 1 := rfl
  have hw2 : wgt 2 = 4 := rfl
  rw [hw] at hn
  have hsg := sgT hp.2.2.2.2.2.2 (c := 38) (by omega)
  cases ts with
  | nil => exact absurd (curT_wf hp.2.2.2.2.2.2) id
  | cons x r =>
    simp only [List.length_cons] at hn hL
    %walk X12_both 10 1=N
    %@* dd (by omega)
    %@13 call refine c_X12_isSign hZ ?_
    %@13 call rw [hsg]
    %@13 tag B
    %@44 leaf have hno : opAt 1 (x :: r) = none := by
    %@44 leaf   show (if x.1 = 3 ∧ rnk x.2.1 = 1 + 1 then some x.2.1 else none) = none
    %@44 leaf   rw [if_neg]
    %@44 leaf   rintro ⟨h1, h2⟩
    %@44 leaf   exact of_decide_eq_false c_16 ⟨h1, rnk_2.mp h2⟩
    %@44 leaf rw [show 7 - 6 = 1 from rfl, hno] at hlp
    %@44 leaf have hx := hq I g (by rw [hlp]; exact ⟨fun _ _ => rfl, fun _ _ => rfl, rfl, hp.2.2.2.2.2.2, fun _ => hp⟩)
    %@44 leaf rw [hlp] at hx; exact hx
    %@20 pre have hxs : x.1 = 3 ∧ x.2.1 = 38 := of_decide_eq_true c_16
    %@20 pre have hso : opAt 1 (x :: r) = some 38 := by
    %@20 pre   show (if x.1 = 3 ∧ rnk x.2.1 = 1 + 1 then some x.2.1 else none) = some 38
    %@20 pre   rw [if_pos ⟨hxs.1, rnk_2.mpr hxs.2⟩, hxs.2]
    %@20 pre rw [show 7 - 6 = 1 from rfl, hso] at hlp
    %@20 pre simp only [List.tail_cons] at hlp
    %@20 call refine c_nextT hZ hf hy ht hp (by omega) (fun J hJ hJ2 hpJ => ?_)
    %@25 depth (7 * ((8 - d) + (8 - u)) + 7)
    %@25 call refine hA r J g L S _ (by rw [hw2]; omega) ((hJ _ (by decide)).trans hf) hpJ (by omega) (fun K g1 hK => ?_)
    %@25 tag B
    %@25 call have hcl := rd_cl key n 2 d u r
    %@32 leaf rw [if_neg (by rw [c_28]; decide)] at hlp
    %@32 leaf have hx := hq K g1 (by rw [hlp]; exact ⟨fun q hq => (hK.1 q hq).trans (hJ q hq), fun i hi => (hK.2.1 i hi).trans (hJ2 i (by omega)), hK.2.2.1, hK.2.2.2.1, hK.2.2.2.2⟩)
    %@32 leaf rw [hlp, c_28] at hx; exact hx
    %@37 pre rw [if_pos c_28, if_neg (by omega)] at hlp
    %@37 pre have hpK := hK.2.2.2.2 c_28
    %@37 pre have hlen := (rd_len key n 2 d u r c_28).2 (by omega)
    %@37 call refine c_X12_step hZ hpK.2.2.2.2.1 hpK.2.2.2.1 (by omega) ?_
    %@10 cut have hK2 : rdPost f t A d u L S (true, (rdP key n 2 d u r).2.1, (rdP key n 2 d u r).2.2.1 ++ [(nI 2, nI 38)], (rdP key n 2 d u r).2.2.2) I (va_up K qR (upd (K qR) 23 (nI (L + (rdP key n 2 d u r).2.2.1.length + 1)))) g (upd (upd g1 (A + 2 * (L + (rdP key n 2 d u r).2.2.1.length)) (nI 2)) (A + 2 * (L + (rdP key n 2 d u r).2.2.1.length) + 1) (nI 38)) := rdPost_step hJ hJ2 hK c_28
    %@10 cut refine hB _ _ _ (L + (rdP key n 2 d u r).2.2.1.length + 1) (S + (rdP key n 2 d u r).2.2.2) Q (by rw [hw]; omega) ((hK2.1 _ (by decide)).trans hf) ?_ (by omega) (fun M g2 hM => ?_)
    %@10 cut · have := hK2.2.2.2.2 rfl
    %@10 cut   simp only [List.length_append, List.length_singleton] at this
    %@10 cut   rw [← Nat.add_assoc] at this; exact this
    %@10 cut · rw [hlp] at hq
    %@10 cut   refine hq M g2 ?_
    %@10 cut   have h3 := rdPost_tr (a := (true, (rdP key n 2 d u r).2.1, (rdP key n 2 d u r).2.2.1 ++ [(nI 2, nI 38)], (rdP key n 2 d u r).2.2.2)) hK2 (by simp only [List.length_append, List.length_singleton]; rw [← Nat.add_assoc]; exact hM)
    %@10 cut   exact h3
end
