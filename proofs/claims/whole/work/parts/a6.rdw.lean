/-! ===== the reference reads a text ===== -/
def gSt (g : Nat → Int32) (a : Nat) (c : List CD) : Nat → Int32 := match c with
  | [] => g
  | x :: r => gSt (upd (upd g a x.1) (a + 1) x.2) (a + 2) r
theorem gSt_app (g : Nat → Int32) : ∀ (a : Nat) (c e : List CD), gSt g a (c ++ e) = gSt (gSt g a c) (a + 2 * c.length) e := by
  intro a c
  induction c generalizing g a with
  | nil => intro e; rfl
  | cons x r ih =>
    intro e
    show gSt (upd (upd g a x.1) (a + 1) x.2) (a + 2) (r ++ e) = gSt (gSt (upd (upd g a x.1) (a + 1) x.2) (a + 2) r) (a + 2 * (x :: r).length) e
    rw [ih, List.length_cons, show a + 2 * (r.length + 1) = a + 2 + 2 * r.length by omega]
theorem gSt_off {i : Nat} : ∀ (c : List CD) (g : Nat → Int32) (a : Nat), (i < a ∨ a + 2 * c.length ≤ i) → gSt g a c i = g i
  | [], _, _, _ => rfl
  | x :: r, g, a, h => by
    rw [List.length_cons] at h
    show gSt (upd (upd g a x.1) (a + 1) x.2) (a + 2) r i = g i
    rw [gSt_off r _ _ (by omega), upd_off (by omega), upd_off (by omega)]
theorem gSt_at : ∀ (c : List CD) (g : Nat → Int32) (a j : Nat) (x : CD), c[j]? = some x → gSt g a c (a + 2 * j) = x.1 ∧ gSt g a c (a + 2 * j + 1) = x.2
  | [], _, _, j, x, h => by cases h
  | y :: r, g, a, 0, x, h => by
    have hx : y = x := by simpa using h
    subst hx
    show gSt (upd (upd g a y.1) (a + 1) y.2) (a + 2) r (a + 2 * 0) = _ ∧ gSt (upd (upd g a y.1) (a + 1) y.2) (a + 2) r (a + 2 * 0 + 1) = _
    rw [gSt_off r _ _ (by omega), gSt_off r _ _ (by omega), Nat.mul_zero, Nat.add_zero]
    exact ⟨(upd_off (by omega)).trans upd_same, upd_same⟩
  | y :: r, g, a, j + 1, x, h => by
    have h' : r[j]? = some x := by simpa using h
    have := gSt_at r (upd (upd g a y.1) (a + 1) y.2) (a + 2) j x h'
    rw [show a + 2 + 2 * j = a + 2 * (j + 1) by omega] at this
    exact this
def sgB (ts : List TK) (c : Nat) : Bool := match ts with
  | [] => false
  | t :: _ => decide (t.1 = 3 ∧ t.2.1 = c)
theorem sgT {f R : Nat → Int32} {t : Nat} {ts : List TK} (h : curT f t R ts) {c : Nat} (hc : c < 256) : decide (R 18 = nI 3 ∧ R 20 = nI c) = sgB ts c := by
  obtain ⟨k, v, b, r, p, n, e, c0, c1, c2, c3, c4, c5, c6, c7, c8, c9⟩ := h
  subst e
  show _ = decide (k = 3 ∧ v = c)
  congr 1
  rw [c6, nI_eq (by omega) (by omega)]
  exact propext ⟨fun e => ⟨e.1, by rw [(c9 (Or.inr e.1)).1] at e; exact (nI_eq (by have := (c9 (Or.inr e.1)).2; omega) (by omega)).mp e.2⟩, fun e => ⟨e.1, by rw [(c9 (Or.inr e.1)).1, e.2]⟩⟩
theorem rnk_1 {v : Nat} : rnk v = 1 ↔ v = 124 := by
  unfold rnk
  repeat' split
  all_goals omega
theorem rnk_2 {v : Nat} : rnk v = 2 ↔ v = 38 := by
  unfold rnk
  repeat' split
  all_goals omega
theorem rnk_3 {v : Nat} : rnk v = 3 ↔ v = 60 ∨ v = 61 ∨ v = 62 := by
  unfold rnk
  repeat' split
  all_goals omega
theorem rnk_4 {v : Nat} : rnk v = 4 ↔ v = 43 ∨ v = 45 := by
  unfold rnk
  repeat' split
  all_goals omega
theorem rnk_5 {v : Nat} : rnk v = 5 ↔ v = 42 ∨ v = 47 := by
  unfold rnk
  repeat' split
  all_goals omega
theorem rd_lvl (key n m d u : Nat) (ts : List TK) (hm : m < 5) : rdP key (n + 1) m d u ts = (if (rdP key n (m + 1) d u ts).1 = true then ((rdP key n (6 + m) d u (rdP key n (m + 1) d u ts).2.1).1, (rdP key n (6 + m) d u (rdP key n (m + 1) d u ts).2.1).2.1, (rdP key n (m + 1) d u ts).2.2.1 ++ (rdP key n (6 + m) d u (rdP key n (m + 1) d u ts).2.1).2.2.1, (rdP key n (m + 1) d u ts).2.2.2 + (rdP key n (6 + m) d u (rdP key n (m + 1) d u ts).2.1).2.2.2) else rdP key n (m + 1) d u ts) := by
  conv => lhs; unfold rdP
  rw [if_pos hm]
theorem rd_lopN {key n d u k : Nat} {ts : List TK} (h : opAt k ts = none) : rdP key (n + 1) (6 + k) d u ts = (true, ts, [], 0) := by
  conv => lhs; unfold rdP
  rw [if_neg (by omega), if_neg (by omega), show 6 + k - 6 = k by omega, h]
theorem rd_lopF {key n d u k c : Nat} {x : TK} {r : List TK} (h : opAt k (x :: r) = some c) (ha : (rdP key n (k + 1) d u r).1 = false) : rdP key (n + 1) (6 + k) d u (x :: r) = rdP key n (k + 1) d u r := by
  conv => lhs; unfold rdP
  rw [if_neg (by omega), if_neg (by omega), show 6 + k - 6 = k by omega, h]
  show (if (rdP key n (k + 1) d u r).1 = true then _ else rdP key n (k + 1) d u r) = _
  rw [if_neg (by rw [ha]; decide)]
theorem rd_lopT {key n d u k c : Nat} {x : TK} {r : List TK} (h : opAt k (x :: r) = some c) (ha : (rdP key n (k + 1) d u r).1 = true) (hk : k ≠ 2) : rdP key (n + 1) (6 + k) d u (x :: r) = ((rdP key n (6 + k) d u (rdP key n (k + 1) d u r).2.1).1, (rdP key n (6 + k) d u (rdP key n (k + 1) d u r).2.1).2.1, (rdP key n (k + 1) d u r).2.2.1 ++ [(nI 2, nI c)] ++ (rdP key n (6 + k) d u (rdP key n (k + 1) d u r).2.1).2.2.1, (rdP key n (k + 1) d u r).2.2.2 + (rdP key n (6 + k) d u (rdP key n (k + 1) d u r).2.1).2.2.2) := by
  conv => lhs; unfold rdP
  rw [if_neg (by omega), if_neg (by omega), show 6 + k - 6 = k by omega, h]
  show (if (rdP key n (k + 1) d u r).1 = true then (if 6 + k = 8 then _ else ((rdP key n (6 + k) d u (rdP key n (k + 1) d u r).2.1).1, (rdP key n (6 + k) d u (rdP key n (k + 1) d u r).2.1).2.1, (rdP key n (k + 1) d u r).2.2.1 ++ [(nI 2, nI c)] ++ (rdP key n (6 + k) d u (rdP key n (k + 1) d u r).2.1).2.2.1, (rdP key n (k + 1) d u r).2.2.2 + (rdP key n (6 + k) d u (rdP key n (k + 1) d u r).2.1).2.2.2)) else rdP key n (k + 1) d u r) = _
  rw [if_pos ha, if_neg (by omega)]
theorem rd_lop8 {key n d u c : Nat} {x : TK} {r : List TK} (h : opAt 2 (x :: r) = some c) (ha : (rdP key n 3 d u r).1 = true) : rdP key (n + 1) 8 d u (x :: r) = (true, (rdP key n 3 d u r).2.1, (rdP key n 3 d u r).2.2.1 ++ [(nI 2, nI c)], (rdP key n 3 d u r).2.2.2) := by
  conv => lhs; unfold rdP
  rw [if_neg (by omega), if_neg (by omega), show 8 - 6 = 2 by omega, h]
  show (if (rdP key n 3 d u r).1 = true then (true, (rdP key n 3 d u r).2.1, (rdP key n 3 d u r).2.2.1 ++ [(nI 2, nI c)], (rdP key n 3 d u r).2.2.2) else rdP key n 3 d u r) = _
  rw [if_pos ha]
theorem rd_cl (key : Nat) : ∀ n m d u ts, (rdP key n m d u ts).2.2.1.length + (rdP key n m d u ts).2.1.length ≤ ts.length := by
  intro n
  induction n with
  | zero => intro m d u ts; show 0 + ts.length ≤ _; omega
  | succ n ih =>
    intro m d u ts
    unfold rdP
    by_cases hm : m < 5
    · rw [if_pos hm]
      dsimp only
      by_cases ha : (rdP key n (m + 1) d u ts).1 = true
      · rw [if_pos ha]
        have h1 := ih (m + 1) d u ts
        have h2 := ih (6 + m) d u (rdP key n (m + 1) d u ts).2.1
        simp only [List.length_append]; omega
      · rw [if_neg ha]; exact ih (m + 1) d u ts
    · rw [if_neg hm]
      by_cases h5 : m = 5
      · rw [if_pos h5]
        cases ts with
        | nil => show 0 + 0 ≤ 0; omega
        | cons t r =>
          dsimp only
          split
          · show 1 + r.length ≤ r.length + 1; omega
          split
          · show 1 + r.length ≤ r.length + 1; omega
          split
          · have h1 := ih 5 d (u + 1) r
            by_cases ha : (rdP key n 5 d (u + 1) r).1 = true
            · rw [if_pos ha]
              simp only [List.length_append, List.length_cons, List.length_nil]; omega
            · rw [if_neg ha]; show _ ≤ r.length + 1; omega
          split
          · have h1 := ih 0 (d + 1) u r
            by_cases ha : (rdP key n 0 (d + 1) u r).1 = true ∧ isCl (rdP key n 0 (d + 1) u r).2.1 = true
            · rw [if_pos ha]
              show (rdP key n 0 (d + 1) u r).2.2.1.length + (rdP key n 0 (d + 1) u r).2.1.tail.length ≤ r.length + 1
              rw [List.length_tail]; omega
            · rw [if_neg ha]; show (rdP key n 0 (d + 1) u r).2.2.1.length + (rdP key n 0 (d + 1) u r).2.1.length ≤ r.length + 1; omega
          · show 0 + (r.length + 1) ≤ r.length + 1; omega
      · rw [if_neg h5]
        obtain ⟨k, rfl⟩ : ∃ k, m = 6 + k := ⟨m - 6, by omega⟩
        clear hm h5
        rw [show 6 + k - 6 = k by omega]
        cases ho : opAt k ts with
        | none => show 0 + ts.length ≤ _; omega
        | some c =>
          obtain ⟨b, r, e, _⟩ := opAt_some ho
          subst e
          have h1 := ih (k + 1) d u r
          have h2 := ih (6 + k) d u (rdP key n (k + 1) d u r).2.1
          by_cases ha : (rdP key n (k + 1) d u r).1 = true
          · by_cases h8 : 6 + k = 8
            · show (if (rdP key n (k + 1) d u r).1 = true then (if 6 + k = 8 then (true, (rdP key n (k + 1) d u r).2.1, (rdP key n (k + 1) d u r).2.2.1 ++ [(nI 2, nI c)], (rdP key n (k + 1) d u r).2.2.2) else _) else rdP key n (k + 1) d u r).2.2.1.length + (if (rdP key n (k + 1) d u r).1 = true then (if 6 + k = 8 then (true, (rdP key n (k + 1) d u r).2.1, (rdP key n (k + 1) d u r).2.2.1 ++ [(nI 2, nI c)], (rdP key n (k + 1) d u r).2.2.2) else _) else rdP key n (k + 1) d u r).2.1.length ≤ r.length + 1
              rw [if_pos ha, if_pos h8]
              simp only [List.length_append, List.length_cons, List.length_nil]; omega
            · show (if (rdP key n (k + 1) d u r).1 = true then (if 6 + k = 8 then _ else ((rdP key n (6 + k) d u (rdP key n (k + 1) d u r).2.1).1, (rdP key n (6 + k) d u (rdP key n (k + 1) d u r).2.1).2.1, (rdP key n (k + 1) d u r).2.2.1 ++ [(nI 2, nI c)] ++ (rdP key n (6 + k) d u (rdP key n (k + 1) d u r).2.1).2.2.1, (rdP key n (k + 1) d u r).2.2.2 + (rdP key n (6 + k) d u (rdP key n (k + 1) d u r).2.1).2.2.2)) else rdP key n (k + 1) d u r).2.2.1.length + (if (rdP key n (k + 1) d u r).1 = true then (if 6 + k = 8 then _ else ((rdP key n (6 + k) d u (rdP key n (k + 1) d u r).2.1).1, (rdP key n (6 + k) d u (rdP key n (k + 1) d u r).2.1).2.1, (rdP key n (k + 1) d u r).2.2.1 ++ [(nI 2, nI c)] ++ (rdP key n (6 + k) d u (rdP key n (k + 1) d u r).2.1).2.2.1, (rdP key n (k + 1) d u r).2.2.2 + (rdP key n (6 + k) d u (rdP key n (k + 1) d u r).2.1).2.2.2)) else rdP key n (k + 1) d u r).2.1.length ≤ r.length + 1
              rw [if_pos ha, if_neg h8]
              simp only [List.length_append, List.length_cons, List.length_nil]; omega
          · show (if (rdP key n (k + 1) d u r).1 = true then _ else rdP key n (k + 1) d u r).2.2.1.length + (if (rdP key n (k + 1) d u r).1 = true then _ else rdP key n (k + 1) d u r).2.1.length ≤ r.length + 1
            rw [if_neg ha]; omega
/-- how a reading leaves the reader -/
def rdPost (f : Nat → Int32) (t A d u L S : Nat) (a : RS) (I J : zI) (g g' : Nat → Int32) : Prop := (∀ q, q ≠ qR → J q = I q) ∧ (∀ i, ¬ (16 ≤ i ∧ i ≤ 25) → J qR i = I qR i) ∧ g' = gSt g (A + 2 * L) a.2.2.1 ∧ curT f t (J qR) a.2.1 ∧ (a.1 = true → prS f t A d u (L + a.2.2.1.length) (S + a.2.2.2) a.2.1 (J qR))
section
variable {l : Launch} {G : zG} {Z : zS} {I : zI} {g : Nat → Int32} {Q : Option Value → zS → zI → Prop}
/-- one reading behind another -/
theorem rdPost_tr {f : Nat → Int32} {t A d u L S : Nat} {a b : RS} {I J K : zI} {g g1 g2 : Nat → Int32} (h1 : rdPost f t A d u L S a I J g g1) (h2 : rdPost f t A d u (L + a.2.2.1.length) (S + a.2.2.2) b J K g1 g2) : rdPost f t A d u L S (b.1, b.2.1, a.2.2.1 ++ b.2.2.1, a.2.2.2 + b.2.2.2) I K g g2 := by
  obtain ⟨a1, a2, a3, a4, a5⟩ := h1
  obtain ⟨b1, b2, b3, b4, b5⟩ := h2
  refine ⟨fun q hq => (b1 q hq).trans (a1 q hq), fun i hi => (b2 i hi).trans (a2 i hi), ?_, b4, fun hb => ?_⟩
  · rw [b3, a3, show A + 2 * (L + a.2.2.1.length) = A + 2 * L + 2 * a.2.2.1.length by omega, ← gSt_app]
  · have := b5 hb
    show prS f t A d u (L + (a.2.2.1 ++ b.2.2.1).length) (S + (a.2.2.2 + b.2.2.2)) b.2.1 (K qR)
    rw [List.length_append, ← Nat.add_assoc, ← Nat.add_assoc]; exact this
def rdLv (key n m d u : Nat) (f : Nat → Int32) (t A : Nat) (md : zD) (dep : Nat) (l : Launch) (G : zG) (Z : zS) : Prop := ∀ (ts : List TK) (I : zI) (g : Nat → Int32) (L S : Nat) (Q : Option Value → zS → zI → Prop), 8 * ts.length + wgt m ≤ n → I q_tape = f → prS f t A d u L S ts (I qR) → L + ts.length ≤ 97 →
  (∀ J g', rdPost f t A d u L S (rdP key n m d u ts) I J g g' → Q (some (.int (zb (rdP key n m d u ts).1))) Z (va_up J q_s g')) → zM l G md dep 0 0 [.ref qR, .int (nI key)] Z (va_up I q_s g) Q
def rdLp (key n m d u : Nat) (f : Nat → Int32) (t A : Nat) (md : zD) (ls : List (Option Value)) (dep : Nat) (l : Launch) (G : zG) (Z : zS) : Prop := ∀ (ts : List TK) (I : zI) (g : Nat → Int32) (L S : Nat) (Q : Option Value → zS → zI → Prop), 8 * ts.length + wgt m ≤ n → I q_tape = f → prS f t A d u L S ts (I qR) → L + ts.length ≤ 97 →
  (∀ J g', rdPost f t A d u L S (rdP key n m d u ts) I J g g' → Q (some (.int (zb (rdP key n m d u ts).1))) Z (va_up J q_s g')) → zX l G md dep 0 0 10 ls [] Z (va_up I q_s g) Q
theorem e_X12_either (hZ : ShR Z) {key n d u t A : Nat} {f : Nat → Int32} (hA : rdLv key n 1 d u f t A mX12_both (7 * ((8 - d) + (8 - u)) + 8) l G Z) (hB : rdLp key n 6 d u f t A mX12_either [some (.ref qR), some (.int (nI key))] (7 * ((8 - d) + (8 - u)) + 9) l G Z) : rdLv key (n + 1) 0 d u f t A mX12_either (7 * ((8 - d) + (8 - u)) + 9) l G Z := by
  intro ts I g L S Q hn hf hp hL hq
  refine x_entry [some (.ref qR), some (.int (nI key))] 0 rfl rfl (Nat.le_of_ble_eq_true rfl) ?_
  have hlv := rd_lvl key n 0 d u ts (by omega)
  have hw : wgt 0 = 6 := rfl
  have hw2 : wgt 1 = 5 := rfl
  rw [hw] at hn
  refine x_ald0 (n := 1) dX12_either_0 rfl ?_
  refine x_ild1 (n := 2) dX12_either_1 rfl ?_
  refine x_cV1 (n := 5) (d' := (7 * ((8 - d) + (8 - u)) + 8)) zcX12_both mlX12_261 dX12_either_2 rfl (rK hZ) (by omega) (Nat.le_of_ble_eq_true rfl) ?_
  refine hA ts I g L S _ (by rw [hw2]; omega) hf hp hL (fun J g1 hP => ?_)
  refine x_some ?_
  refine x_zif_ne (n := 8) (tgt := 10) dX12_either_5 rfl (by decide) (fun c_5 => ?_) (fun c_5 => ?_)
  · rw [hlv, if_pos c_5] at hq
    have hlen := (rd_len key n 1 d u ts c_5).2 (by omega)
    have hcl := rd_cl key n 1 d u ts
    refine hB _ J g1 (L + (rdP key n 1 d u ts).2.2.1.length) (S + (rdP key n 1 d u ts).2.2.2) Q (by rw [show wgt 6 = 1 from rfl]; omega) ((hP.1 _ (by decide)).trans hf) (hP.2.2.2.2 c_5) (by omega) (fun K g2 hK => ?_)
    exact hq K g2 (rdPost_tr hP hK)
  · refine x_ic0 (n := 9) dX12_either_8 rfl ?_
    refine r_zret dX12_either_9 rfl (by first | exact nar0 | exact nar1 | exact zb_nar _) ?_
    rw [hlv, if_neg (by rw [c_5]; decide)] at hq
    have hx := hq J g1 hP
    rw [c_5] at hx; exact hx
theorem e_X12_both (hZ : ShR Z) {key n d u t A : Nat} {f : Nat → Int32} (hA : rdLv key n 2 d u f t A mX12_test (7 * ((8 - d) + (8 - u)) + 7) l G Z) (hB : rdLp key n 7 d u f t A mX12_both [some (.ref qR), some (.int (nI key))] (7 * ((8 - d) + (8 - u)) + 8) l G Z) : rdLv key (n + 1) 1 d u f t A mX12_both (7 * ((8 - d) + (8 - u)) + 8) l G Z := by
  intro ts I g L S Q hn hf hp hL hq
  refine x_entry [some (.ref qR), some (.int (nI key))] 0 rfl rfl (Nat.le_of_ble_eq_true rfl) ?_
  have hlv := rd_lvl key n 1 d u ts (by omega)
  have hw : wgt 1 = 5 := rfl
  have hw2 : wgt 2 = 4 := rfl
  rw [hw] at hn
  refine x_ald0 (n := 1) dX12_both_0 rfl ?_
  refine x_ild1 (n := 2) dX12_both_1 rfl ?_
  refine x_cV1 (n := 5) (d' := (7 * ((8 - d) + (8 - u)) + 7)) zcX12_test mlX12_274 dX12_both_2 rfl (rK hZ) (by omega) (Nat.le_of_ble_eq_true rfl) ?_
  refine hA ts I g L S _ (by rw [hw2]; omega) hf hp hL (fun J g1 hP => ?_)
  refine x_some ?_
  refine x_zif_ne (n := 8) (tgt := 10) dX12_both_5 rfl (by decide) (fun c_5 => ?_) (fun c_5 => ?_)
  · rw [hlv, if_pos c_5] at hq
    have hlen := (rd_len key n 2 d u ts c_5).2 (by omega)
    have hcl := rd_cl key n 2 d u ts
    refine hB _ J g1 (L + (rdP key n 2 d u ts).2.2.1.length) (S + (rdP key n 2 d u ts).2.2.2) Q (by rw [show wgt 7 = 1 from rfl]; omega) ((hP.1 _ (by decide)).trans hf) (hP.2.2.2.2 c_5) (by omega) (fun K g2 hK => ?_)
    exact hq K g2 (rdPost_tr hP hK)
  · refine x_ic0 (n := 9) dX12_both_8 rfl ?_
    refine r_zret dX12_both_9 rfl (by first | exact nar0 | exact nar1 | exact zb_nar _) ?_
    rw [hlv, if_neg (by rw [c_5]; decide)] at hq
    have hx := hq J g1 hP
    rw [c_5] at hx; exact hx
theorem e_X12_test (hZ : ShR Z) {key n d u t A : Nat} {f : Nat → Int32} (hA : rdLv key n 3 d u f t A mX12_sum (7 * ((8 - d) + (8 - u)) + 6) l G Z) (hB : rdLp key n 8 d u f t A mX12_test [some (.ref qR), some (.int (nI key)), none] (7 * ((8 - d) + (8 - u)) + 7) l G Z) : rdLv key (n + 1) 2 d u f t A mX12_test (7 * ((8 - d) + (8 - u)) + 7) l G Z := by
  intro ts I g L S Q hn hf hp hL hq
  refine x_entry [some (.ref qR), some (.int (nI key)), none] 1 rfl rfl (Nat.le_of_ble_eq_true rfl) ?_
  have hlv := rd_lvl key n 2 d u ts (by omega)
  have hw : wgt 2 = 4 := rfl
  have hw2 : wgt 3 = 3 := rfl
  rw [hw] at hn
  refine x_ald0 (n := 1) dX12_test_0 rfl ?_
  refine x_ild1 (n := 2) dX12_test_1 rfl ?_
  refine x_cV1 (n := 5) (d' := (7 * ((8 - d) + (8 - u)) + 6)) zcX12_sum mlX12_277 dX12_test_2 rfl (rK hZ) (by omega) (Nat.le_of_ble_eq_true rfl) ?_
  refine hA ts I g L S _ (by rw [hw2]; omega) hf hp hL (fun J g1 hP => ?_)
  refine x_some ?_
  refine x_zif_ne (n := 8) (tgt := 10) dX12_test_5 rfl (by decide) (fun c_5 => ?_) (fun c_5 => ?_)
  · rw [hlv, if_pos c_5] at hq
    have hlen := (rd_len key n 3 d u ts c_5).2 (by omega)
    have hcl := rd_cl key n 3 d u ts
    refine hB _ J g1 (L + (rdP key n 3 d u ts).2.2.1.length) (S + (rdP key n 3 d u ts).2.2.2) Q (by rw [show wgt 8 = 1 from rfl]; omega) ((hP.1 _ (by decide)).trans hf) (hP.2.2.2.2 c_5) (by omega) (fun K g2 hK => ?_)
    exact hq K g2 (rdPost_tr hP hK)
  · refine x_ic0 (n := 9) dX12_test_8 rfl ?_
    refine r_zret dX12_test_9 rfl (by first | exact nar0 | exact nar1 | exact zb_nar _) ?_
    rw [hlv, if_neg (by rw [c_5]; decide)] at hq
    have hx := hq J g1 hP
    rw [c_5] at hx; exact hx
theorem e_X12_sum (hZ : ShR Z) {key n d u t A : Nat} {f : Nat → Int32} (hA : rdLv key n 4 d u f t A mX12_term (7 * ((8 - d) + (8 - u)) + 5) l G Z) (hB : rdLp key n 9 d u f t A mX12_sum [some (.ref qR), some (.int (nI key)), none] (7 * ((8 - d) + (8 - u)) + 6) l G Z) : rdLv key (n + 1) 3 d u f t A mX12_sum (7 * ((8 - d) + (8 - u)) + 6) l G Z := by
  intro ts I g L S Q hn hf hp hL hq
  refine x_entry [some (.ref qR), some (.int (nI key)), none] 1 rfl rfl (Nat.le_of_ble_eq_true rfl) ?_
  have hlv := rd_lvl key n 3 d u ts (by omega)
  have hw : wgt 3 = 3 := rfl
  have hw2 : wgt 4 = 2 := rfl
  rw [hw] at hn
  refine x_ald0 (n := 1) dX12_sum_0 rfl ?_
  refine x_ild1 (n := 2) dX12_sum_1 rfl ?_
  refine x_cV1 (n := 5) (d' := (7 * ((8 - d) + (8 - u)) + 5)) zcX12_term mlX12_280 dX12_sum_2 rfl (rK hZ) (by omega) (Nat.le_of_ble_eq_true rfl) ?_
  refine hA ts I g L S _ (by rw [hw2]; omega) hf hp hL (fun J g1 hP => ?_)
  refine x_some ?_
  refine x_zif_ne (n := 8) (tgt := 10) dX12_sum_5 rfl (by decide) (fun c_5 => ?_) (fun c_5 => ?_)
  · rw [hlv, if_pos c_5] at hq
    have hlen := (rd_len key n 4 d u ts c_5).2 (by omega)
    have hcl := rd_cl key n 4 d u ts
    refine hB _ J g1 (L + (rdP key n 4 d u ts).2.2.1.length) (S + (rdP key n 4 d u ts).2.2.2) Q (by rw [show wgt 9 = 1 from rfl]; omega) ((hP.1 _ (by decide)).trans hf) (hP.2.2.2.2 c_5) (by omega) (fun K g2 hK => ?_)
    exact hq K g2 (rdPost_tr hP hK)
  · refine x_ic0 (n := 9) dX12_sum_8 rfl ?_
    refine r_zret dX12_sum_9 rfl (by first | exact nar0 | exact nar1 | exact zb_nar _) ?_
    rw [hlv, if_neg (by rw [c_5]; decide)] at hq
    have hx := hq J g1 hP
    rw [c_5] at hx; exact hx
theorem e_X12_term (hZ : ShR Z) {key n d u t A : Nat} {f : Nat → Int32} (hA : rdLv key n 5 d u f t A mX12_part0 (7 * ((8 - d) + (8 - u)) + 4) l G Z) (hB : rdLp key n 10 d u f t A mX12_term [some (.ref qR), some (.int (nI key)), none] (7 * ((8 - d) + (8 - u)) + 5) l G Z) : rdLv key (n + 1) 4 d u f t A mX12_term (7 * ((8 - d) + (8 - u)) + 5) l G Z := by
  intro ts I g L S Q hn hf hp hL hq
  refine x_entry [some (.ref qR), some (.int (nI key)), none] 1 rfl rfl (Nat.le_of_ble_eq_true rfl) ?_
  have hlv := rd_lvl key n 4 d u ts (by omega)
  have hw : wgt 4 = 2 := rfl
  have hw2 : wgt 5 = 1 := rfl
  rw [hw] at hn
  refine x_ald0 (n := 1) dX12_term_0 rfl ?_
  refine x_ild1 (n := 2) dX12_term_1 rfl ?_
  refine x_cV1 (n := 5) (d' := (7 * ((8 - d) + (8 - u)) + 4)) zcX12_part0 mlX12_283 dX12_term_2 rfl (rK hZ) (by omega) (Nat.le_of_ble_eq_true rfl) ?_
  refine hA ts I g L S _ (by rw [hw2]; omega) hf hp hL (fun J g1 hP => ?_)
  refine x_some ?_
  refine x_zif_ne (n := 8) (tgt := 10) dX12_term_5 rfl (by decide) (fun c_5 => ?_) (fun c_5 => ?_)
  · rw [hlv, if_pos c_5] at hq
    have hlen := (rd_len key n 5 d u ts c_5).2 (by omega)
    have hcl := rd_cl key n 5 d u ts
    refine hB _ J g1 (L + (rdP key n 5 d u ts).2.2.1.length) (S + (rdP key n 5 d u ts).2.2.2) Q (by rw [show wgt 10 = 1 from rfl]; omega) ((hP.1 _ (by decide)).trans hf) (hP.2.2.2.2 c_5) (by omega) (fun K g2 hK => ?_)
    exact hq K g2 (rdPost_tr hP hK)
  · refine x_ic0 (n := 9) dX12_term_8 rfl ?_
    refine r_zret dX12_term_9 rfl (by first | exact nar0 | exact nar1 | exact zb_nar _) ?_
    rw [hlv, if_neg (by rw [c_5]; decide)] at hq
    have hx := hq J g1 hP
    rw [c_5] at hx; exact hx
theorem rdPost_step {f : Nat → Int32} {t A d u L S c : Nat} {a : RS} {I J K : zI} {g g1 : Nat → Int32} (hJ : ∀ q, q ≠ qR → J q = I q) (hJ2 : ∀ i, ¬ (16 ≤ i ∧ i ≤ 20) → J qR i = I qR i) (hK : rdPost f t A d u L S a J K g g1) (ha : a.1 = true) : rdPost f t A d u L S (true, a.2.1, a.2.2.1 ++ [(nI 2, nI c)], a.2.2.2) I (va_up K qR (upd (K qR) 23 (nI (L + a.2.2.1.length + 1)))) g (upd (upd g1 (A + 2 * (L + a.2.2.1.length)) (nI 2)) (A + 2 * (L + a.2.2.1.length) + 1) (nI c)) := by
  obtain ⟨k1, k2, k3, k4, k5⟩ := hK
  obtain ⟨p1, p2, p3, p4, p5, p6, p7⟩ := k5 ha
  have hc : curT f t (upd (K qR) 23 (nI (L + a.2.2.1.length + 1))) a.2.1 := by
    obtain ⟨k, v, b, r, p, n, e, c0, c1, c2, c3, c4, c5, c6, c7, c8, c9⟩ := p7
    exact ⟨k, v, b, r, p, n, e, c0, c1, by rw [upd_off (by omega)]; exact c2, by rw [upd_off (by omega)]; exact c3, c4, c5, by rw [upd_off (by omega)]; exact c6, c7, by rw [upd_off (by omega)]; exact c8, by rw [upd_off (by omega)]; exact c9⟩
  refine ⟨fun q hq => ?_, fun i hi => ?_, ?_, ?_, fun _ => ?_⟩
  · rw [va_up_off hq, k1 q hq]; exact hJ q hq
  · rw [va_up_same, upd_off (by omega), k2 i hi]; exact hJ2 i (by omega)
  · show _ = gSt g (A + 2 * L) (a.2.2.1 ++ [(nI 2, nI c)])
    rw [gSt_app, ← k3, show A + 2 * L + 2 * a.2.2.1.length = A + 2 * (L + a.2.2.1.length) by omega]
    rfl
  · rw [va_up_same]; exact hc
  · rw [va_up_same]
    simp only [List.length_append, List.length_singleton]
    exact ⟨by rw [upd_off (by omega)]; exact p1, by rw [upd_off (by omega)]; exact p2, by rw [upd_off (by omega)]; exact p3, by rw [upd_same, Nat.add_assoc], by rw [upd_off (by omega)]; exact p5, by rw [upd_off (by omega)]; exact p6, hc⟩
theorem loop_end {key n d u k c : Nat} {f : Nat → Int32} {t A : Nat} {md : zD} {ls : List (Option Value)} {dep : Nat} {ts r : List TK} {L S : Nat} {K1 : zI} {g1 : Nat → Int32} (hlp : rdP key (n + 1) (6 + k) d u ts = ((rdP key n (6 + k) d u (rdP key n (k + 1) d u r).2.1).1, (rdP key n (6 + k) d u (rdP key n (k + 1) d u r).2.1).2.1, (rdP key n (k + 1) d u r).2.2.1 ++ [(nI 2, nI c)] ++ (rdP key n (6 + k) d u (rdP key n (k + 1) d u r).2.1).2.2.1, (rdP key n (k + 1) d u r).2.2.2 + (rdP key n (6 + k) d u (rdP key n (k + 1) d u r).2.1).2.2.2))
    (hB : rdLp key n (6 + k) d u f t A md ls dep l G Z) (hK2 : rdPost f t A d u L S (true, (rdP key n (k + 1) d u r).2.1, (rdP key n (k + 1) d u r).2.2.1 ++ [(nI 2, nI c)], (rdP key n (k + 1) d u r).2.2.2) I K1 g g1) (hn : 8 * (rdP key n (k + 1) d u r).2.1.length + wgt (6 + k) ≤ n) (hf : I q_tape = f) (hL : L + (rdP key n (k + 1) d u r).2.2.1.length + 1 + (rdP key n (k + 1) d u r).2.1.length ≤ 97)
    (hq : ∀ J g', rdPost f t A d u L S (rdP key (n + 1) (6 + k) d u ts) I J g g' → Q (some (.int (zb (rdP key (n + 1) (6 + k) d u ts).1))) Z (va_up J q_s g')) : zX l G md dep 0 0 10 ls [] Z (va_up K1 q_s g1) Q := by
  refine hB _ _ _ (L + (rdP key n (k + 1) d u r).2.2.1.length + 1) (S + (rdP key n (k + 1) d u r).2.2.2) Q hn ((hK2.1 _ (by decide)).trans hf) ?_ hL (fun M g2 hM => ?_)
  · have := hK2.2.2.2.2 rfl
    simp only [List.length_append, List.length_cons, List.length_nil] at this
    rw [show L + (rdP key n (k + 1) d u r).2.2.1.length + 1 = L + ((rdP key n (k + 1) d u r).2.2.1.length + (0 + 1)) by omega]; exact this
  · rw [hlp] at hq
    refine hq M g2 ?_
    have h3 := rdPost_tr (a := (true, (rdP key n (k + 1) d u r).2.1, (rdP key n (k + 1) d u r).2.2.1 ++ [(nI 2, nI c)], (rdP key n (k + 1) d u r).2.2.2)) hK2 (by simp only [List.length_append, List.length_cons, List.length_nil]; rw [show L + ((rdP key n (k + 1) d u r).2.2.1.length + (0 + 1)) = L + (rdP key n (k + 1) d u r).2.2.1.length + 1 by omega]; exact hM)
    exact h3
theorem o_X12_either (hZ : ShR Z) {key n d u t A : Nat} {f : Nat → Int32} (hy : byR f t) (ht : t ≤ 96) (hAA : A ≤ 5332) (hA : rdLv key n 1 d u f t A mX12_both (7 * ((8 - d) + (8 - u)) + 8) l G Z) (hB : rdLp key n 6 d u f t A mX12_either [some (.ref qR), some (.int (nI key))] (7 * ((8 - d) + (8 - u)) + 9) l G Z) : rdLp key (n + 1) 6 d u f t A mX12_either [some (.ref qR), some (.int (nI key))] (7 * ((8 - d) + (8 - u)) + 9) l G Z := by
  intro ts I g L S Q hn hf hp hL hq
  have hw : wgt 6 = 1 := rfl
  have hw2 : wgt 1 = 5 := rfl
  rw [hw] at hn
  have hsg := sgT hp.2.2.2.2.2.2 (c := 124) (by omega)
  cases ts with
  | nil => exact absurd (curT_wf hp.2.2.2.2.2.2) id
  | cons x r =>
    simp only [List.length_cons] at hn hL
    refine x_ald0 (n := 11) dX12_either_10 rfl ?_
    refine x_bipush (n := 13) (v := nI 124) dX12_either_11 rfl (by decide) ?_
    refine x_cV1 (n := 16) (d' := 0) zcX12_isSign mlX12_264 dX12_either_13 rfl (rK hZ) (by omega) (Nat.le_of_ble_eq_true rfl) ?_
    refine c_X12_isSign hZ ?_
    rw [hsg]
    refine x_some ?_
    refine x_zif_eq (n := 19) (tgt := 43) dX12_either_16 rfl (by decide) (fun c_16 => ?_) (fun c_16 => ?_)
    · refine x_ic1 (n := 44) dX12_either_43 rfl ?_
      refine r_zret dX12_either_44 rfl (by first | exact nar0 | exact nar1 | exact zb_nar _) ?_
      have hno : opAt 0 (x :: r) = none := by
        show (if x.1 = 3 ∧ rnk x.2.1 = 0 + 1 then some x.2.1 else none) = none
        rw [if_neg]
        rintro ⟨h1, h2⟩
        exact of_decide_eq_false c_16 ⟨h1, rnk_1.mp h2⟩
      have hlp : rdP key (n + 1) 6 d u (x :: r) = (true, x :: r, [], 0) := rd_lopN (k := 0) hno
      rw [hlp] at hq
      exact hq I g ⟨fun _ _ => rfl, fun _ _ => rfl, rfl, hp.2.2.2.2.2.2, fun _ => hp⟩
    · refine x_ald0 (n := 20) dX12_either_19 rfl ?_
      have hxs : x.1 = 3 ∧ x.2.1 = 124 := of_decide_eq_true c_16
      have hso : opAt 0 (x :: r) = some 124 := by
        show (if x.1 = 3 ∧ rnk x.2.1 = 0 + 1 then some x.2.1 else none) = some 124
        rw [if_pos ⟨hxs.1, rnk_1.mpr hxs.2⟩, hxs.2]
      refine x_cV0 (n := 23) (d' := 2) zcX12_next mlX12_267 dX12_either_20 rfl (rK hZ) (by omega) (Nat.le_of_ble_eq_true rfl) ?_
      refine c_nextT hZ hf hy ht hp (by omega) (fun J hJ hJ2 hpJ => ?_)
      refine x_none ?_
      refine x_ald0 (n := 24) dX12_either_23 rfl ?_
      refine x_ild1 (n := 25) dX12_either_24 rfl ?_
      refine x_cV1 (n := 28) (d' := (7 * ((8 - d) + (8 - u)) + 8)) zcX12_both mlX12_261 dX12_either_25 rfl (rK hZ) (by omega) (Nat.le_of_ble_eq_true rfl) ?_
      refine hA r J g L S _ (by rw [hw2]; omega) ((hJ _ (by decide)).trans hf) hpJ (by omega) (fun K g1 hK => ?_)
      have hcl := rd_cl key n 1 d u r
      refine x_some ?_
      refine x_zif_ne (n := 31) (tgt := 33) dX12_either_28 rfl (by decide) (fun c_28 => ?_) (fun c_28 => ?_)
      · refine x_ald0 (n := 34) dX12_either_33 rfl ?_
        refine x_ic2 (n := 35) dX12_either_34 rfl ?_
        refine x_bipush (n := 37) (v := nI 124) dX12_either_35 rfl (by decide) ?_
        have hlp := rd_lopT (key := key) (n := n) (d := d) (u := u) (k := 0) hso c_28 (by omega)
        have hpK := hK.2.2.2.2 c_28
        have hlen := (rd_len key n 1 d u r c_28).2 (by omega)
        refine x_cV2 (n := 40) (d' := 0) zcX12_step mlX12_270 dX12_either_37 rfl (rK hZ) (by omega) (Nat.le_of_ble_eq_true rfl) ?_
        refine c_X12_step hZ hpK.2.2.2.2.1 hpK.2.2.2.1 (by omega) ?_
        refine x_none ?_
        refine x_goto (n := 10) dX12_either_40 (by decide) ?_
        have hK2 : rdPost f t A d u L S (true, (rdP key n 1 d u r).2.1, (rdP key n 1 d u r).2.2.1 ++ [(nI 2, nI 124)], (rdP key n 1 d u r).2.2.2) I (va_up K qR (upd (K qR) 23 (nI (L + (rdP key n 1 d u r).2.2.1.length + 1)))) g (upd (upd g1 (A + 2 * (L + (rdP key n 1 d u r).2.2.1.length)) (nI 2)) (A + 2 * (L + (rdP key n 1 d u r).2.2.1.length) + 1) (nI 124)) := rdPost_step hJ hJ2 hK c_28
        have hn1 : 8 * (rdP key n 1 d u r).2.1.length + wgt 6 ≤ n := by rw [hw]; omega
        have hL1 : L + (rdP key n 1 d u r).2.2.1.length + 1 + (rdP key n 1 d u r).2.1.length ≤ 97 := by omega
        exact loop_end (k := 0) hlp hB hK2 hn1 hf hL1 hq
      · refine x_ic0 (n := 32) dX12_either_31 rfl ?_
        refine r_zret dX12_either_32 rfl (by first | exact nar0 | exact nar1 | exact zb_nar _) ?_
        have hlp : rdP key (n + 1) 6 d u (x :: r) = rdP key n 1 d u r := rd_lopF (k := 0) hso c_28
        rw [hlp] at hq
        have hx := hq K g1 ⟨fun q hq => (hK.1 q hq).trans (hJ q hq), fun i hi => (hK.2.1 i hi).trans (hJ2 i (by omega)), hK.2.2.1, hK.2.2.2.1, hK.2.2.2.2⟩
        rw [c_28] at hx; exact hx
theorem o_X12_both (hZ : ShR Z) {key n d u t A : Nat} {f : Nat → Int32} (hy : byR f t) (ht : t ≤ 96) (hAA : A ≤ 5332) (hA : rdLv key n 2 d u f t A mX12_test (7 * ((8 - d) + (8 - u)) + 7) l G Z) (hB : rdLp key n 7 d u f t A mX12_both [some (.ref qR), some (.int (nI key))] (7 * ((8 - d) + (8 - u)) + 8) l G Z) : rdLp key (n + 1) 7 d u f t A mX12_both [some (.ref qR), some (.int (nI key))] (7 * ((8 - d) + (8 - u)) + 8) l G Z := by
  intro ts I g L S Q hn hf hp hL hq
  have hw : wgt 7 = 1 := rfl
  have hw2 : wgt 2 = 4 := rfl
  rw [hw] at hn
  have hsg := sgT hp.2.2.2.2.2.2 (c := 38) (by omega)
  cases ts with
  | nil => exact absurd (curT_wf hp.2.2.2.2.2.2) id
  | cons x r =>
    simp only [List.length_cons] at hn hL
    refine x_ald0 (n := 11) dX12_both_10 rfl ?_
    refine x_bipush (n := 13) (v := nI 38) dX12_both_11 rfl (by decide) ?_
    refine x_cV1 (n := 16) (d' := 0) zcX12_isSign mlX12_264 dX12_both_13 rfl (rK hZ) (by omega) (Nat.le_of_ble_eq_true rfl) ?_
    refine c_X12_isSign hZ ?_
    rw [hsg]
    refine x_some ?_
    refine x_zif_eq (n := 19) (tgt := 43) dX12_both_16 rfl (by decide) (fun c_16 => ?_) (fun c_16 => ?_)
    · refine x_ic1 (n := 44) dX12_both_43 rfl ?_
      refine r_zret dX12_both_44 rfl (by first | exact nar0 | exact nar1 | exact zb_nar _) ?_
      have hno : opAt 1 (x :: r) = none := by
        show (if x.1 = 3 ∧ rnk x.2.1 = 1 + 1 then some x.2.1 else none) = none
        rw [if_neg]
        rintro ⟨h1, h2⟩
        exact of_decide_eq_false c_16 ⟨h1, rnk_2.mp h2⟩
      have hlp : rdP key (n + 1) 7 d u (x :: r) = (true, x :: r, [], 0) := rd_lopN (k := 1) hno
      rw [hlp] at hq
      exact hq I g ⟨fun _ _ => rfl, fun _ _ => rfl, rfl, hp.2.2.2.2.2.2, fun _ => hp⟩
    · refine x_ald0 (n := 20) dX12_both_19 rfl ?_
      have hxs : x.1 = 3 ∧ x.2.1 = 38 := of_decide_eq_true c_16
      have hso : opAt 1 (x :: r) = some 38 := by
        show (if x.1 = 3 ∧ rnk x.2.1 = 1 + 1 then some x.2.1 else none) = some 38
        rw [if_pos ⟨hxs.1, rnk_2.mpr hxs.2⟩, hxs.2]
      refine x_cV0 (n := 23) (d' := 2) zcX12_next mlX12_267 dX12_both_20 rfl (rK hZ) (by omega) (Nat.le_of_ble_eq_true rfl) ?_
      refine c_nextT hZ hf hy ht hp (by omega) (fun J hJ hJ2 hpJ => ?_)
      refine x_none ?_
      refine x_ald0 (n := 24) dX12_both_23 rfl ?_
      refine x_ild1 (n := 25) dX12_both_24 rfl ?_
      refine x_cV1 (n := 28) (d' := (7 * ((8 - d) + (8 - u)) + 7)) zcX12_test mlX12_274 dX12_both_25 rfl (rK hZ) (by omega) (Nat.le_of_ble_eq_true rfl) ?_
      refine hA r J g L S _ (by rw [hw2]; omega) ((hJ _ (by decide)).trans hf) hpJ (by omega) (fun K g1 hK => ?_)
      have hcl := rd_cl key n 2 d u r
      refine x_some ?_
      refine x_zif_ne (n := 31) (tgt := 33) dX12_both_28 rfl (by decide) (fun c_28 => ?_) (fun c_28 => ?_)
      · refine x_ald0 (n := 34) dX12_both_33 rfl ?_
        refine x_ic2 (n := 35) dX12_both_34 rfl ?_
        refine x_bipush (n := 37) (v := nI 38) dX12_both_35 rfl (by decide) ?_
        have hlp := rd_lopT (key := key) (n := n) (d := d) (u := u) (k := 1) hso c_28 (by omega)
        have hpK := hK.2.2.2.2 c_28
        have hlen := (rd_len key n 2 d u r c_28).2 (by omega)
        refine x_cV2 (n := 40) (d' := 0) zcX12_step mlX12_270 dX12_both_37 rfl (rK hZ) (by omega) (Nat.le_of_ble_eq_true rfl) ?_
        refine c_X12_step hZ hpK.2.2.2.2.1 hpK.2.2.2.1 (by omega) ?_
        refine x_none ?_
        refine x_goto (n := 10) dX12_both_40 (by decide) ?_
        have hK2 : rdPost f t A d u L S (true, (rdP key n 2 d u r).2.1, (rdP key n 2 d u r).2.2.1 ++ [(nI 2, nI 38)], (rdP key n 2 d u r).2.2.2) I (va_up K qR (upd (K qR) 23 (nI (L + (rdP key n 2 d u r).2.2.1.length + 1)))) g (upd (upd g1 (A + 2 * (L + (rdP key n 2 d u r).2.2.1.length)) (nI 2)) (A + 2 * (L + (rdP key n 2 d u r).2.2.1.length) + 1) (nI 38)) := rdPost_step hJ hJ2 hK c_28
        have hn1 : 8 * (rdP key n 2 d u r).2.1.length + wgt 7 ≤ n := by rw [hw]; omega
        have hL1 : L + (rdP key n 2 d u r).2.2.1.length + 1 + (rdP key n 2 d u r).2.1.length ≤ 97 := by omega
        exact loop_end (k := 1) hlp hB hK2 hn1 hf hL1 hq
      · refine x_ic0 (n := 32) dX12_both_31 rfl ?_
        refine r_zret dX12_both_32 rfl (by first | exact nar0 | exact nar1 | exact zb_nar _) ?_
        have hlp : rdP key (n + 1) 7 d u (x :: r) = rdP key n 2 d u r := rd_lopF (k := 1) hso c_28
        rw [hlp] at hq
        have hx := hq K g1 ⟨fun q hq => (hK.1 q hq).trans (hJ q hq), fun i hi => (hK.2.1 i hi).trans (hJ2 i (by omega)), hK.2.2.1, hK.2.2.2.1, hK.2.2.2.2⟩
        rw [c_28] at hx; exact hx
theorem letT {f R : Nat → Int32} {t : Nat} {x : TK} {r : List TK} (h : curT f t R (x :: r)) (h3 : x.1 = 1 ∨ x.1 = 3) : R 20 = nI x.2.1 ∧ x.2.1 < 256 := by
  obtain ⟨k, v, b, r', p, n, e, c0, c1, c2, c3, c4, c5, c6, c7, c8, c9⟩ := h
  cases e
  exact c9 h3
theorem q_X12_term (hZ : ShR Z) {key n d u t A : Nat} {f : Nat → Int32} (hy : byR f t) (ht : t ≤ 96) (hAA : A ≤ 5332) (hA : rdLv key n 5 d u f t A mX12_part0 (7 * ((8 - d) + (8 - u)) + 4) l G Z) (hB : ∀ w, rdLp key n 10 d u f t A mX12_term [some (.ref qR), some (.int (nI key)), w] (7 * ((8 - d) + (8 - u)) + 5) l G Z) {x : TK} {r : List TK} {L S : Nat} {w : Option Value} (hn : 8 * (r.length + 1) ≤ n) (hf : I q_tape = f) (hp : prS f t A d u L S (x :: r) (I qR)) (hL : L + (r.length + 1) ≤ 97)
    (hq : ∀ J g', rdPost f t A d u L S (rdP key (n + 1) 10 d u (x :: r)) I J g g' → Q (some (.int (zb (rdP key (n + 1) 10 d u (x :: r)).1))) Z (va_up J q_s g')) (hso : opAt 4 (x :: r) = some x.2.1) (hx3 : x.1 = 3) : zX l G mX12_term (7 * ((8 - d) + (8 - u)) + 5) 0 0 28 [some (.ref qR), some (.int (nI key)), w] [] Z (va_up I q_s g) Q := by
  have hw : wgt 10 = 1 := rfl
  have hw2 : wgt 5 = 1 := rfl
  obtain ⟨hle, hlt⟩ := letT hp.2.2.2.2.2.2 (Or.inr hx3)
  have hle2 : va_up I q_s g qR 20 = nI x.2.1 := hle
  refine x_ald0 (n := 29) dX12_term_28 rfl ?_
  refine x_rget (n := 32) flX12_238 rfl dX12_term_29 rfl hZ ?_
  rw [hle]
  refine x_ist2 (n := 33) dX12_term_32 rfl (by decide) rfl ?_
  refine x_ald0 (n := 34) dX12_term_33 rfl ?_
  refine x_cV0 (n := 37) (d' := 2) zcX12_next mlX12_267 dX12_term_34 rfl (rK hZ) (by omega) (Nat.le_of_ble_eq_true rfl) ?_
  refine c_nextT hZ hf hy ht hp (by omega) (fun J hJ hJ2 hpJ => ?_)
  refine x_none ?_
  refine x_ald0 (n := 38) dX12_term_37 rfl ?_
  refine x_ild1 (n := 39) dX12_term_38 rfl ?_
  refine x_cV1 (n := 42) (d' := (7 * ((8 - d) + (8 - u)) + 4)) zcX12_part0 mlX12_283 dX12_term_39 rfl (rK hZ) (by omega) (Nat.le_of_ble_eq_true rfl) ?_
  refine hA r J g L S _ (by rw [hw2]; omega) ((hJ _ (by decide)).trans hf) hpJ (by omega) (fun K g1 hK => ?_)
  have hcl := rd_cl key n 5 d u r
  refine x_some ?_
  refine x_zif_ne (n := 45) (tgt := 47) dX12_term_42 rfl (by decide) (fun c_42 => ?_) (fun c_42 => ?_)
  · refine x_ald0 (n := 48) dX12_term_47 rfl ?_
    refine x_ic2 (n := 49) dX12_term_48 rfl ?_
    refine x_ild2 (n := 50) dX12_term_49 rfl ?_
    have hpK := hK.2.2.2.2 c_42
    have hlen := (rd_len key n 5 d u r c_42).2 (by omega)
    refine x_cV2 (n := 53) (d' := 0) zcX12_step mlX12_270 dX12_term_50 rfl (rK hZ) (by omega) (Nat.le_of_ble_eq_true rfl) ?_
    refine c_X12_step hZ hpK.2.2.2.2.1 hpK.2.2.2.1 (by omega) ?_
    refine x_none ?_
    refine x_goto (n := 10) dX12_term_53 (by decide) ?_
    have hlp := rd_lopT (key := key) (n := n) (d := d) (u := u) (k := 4) hso c_42 (by omega)
    have hK2 : rdPost f t A d u L S (true, (rdP key n 5 d u r).2.1, (rdP key n 5 d u r).2.2.1 ++ [(nI 2, nI x.2.1)], (rdP key n 5 d u r).2.2.2) I (va_up K qR (upd (K qR) 23 (nI (L + (rdP key n 5 d u r).2.2.1.length + 1)))) g (upd (upd g1 (A + 2 * (L + (rdP key n 5 d u r).2.2.1.length)) (nI 2)) (A + 2 * (L + (rdP key n 5 d u r).2.2.1.length) + 1) (nI x.2.1)) := rdPost_step hJ hJ2 hK c_42
    have hn1 : 8 * (rdP key n 5 d u r).2.1.length + wgt 10 ≤ n := by rw [hw]; omega
    have hL1 : L + (rdP key n 5 d u r).2.2.1.length + 1 + (rdP key n 5 d u r).2.1.length ≤ 97 := by omega
    exact loop_end (k := 4) hlp (hB _) hK2 hn1 hf hL1 hq
  · refine x_ic0 (n := 46) dX12_term_45 rfl ?_
    refine r_zret dX12_term_46 rfl (by first | exact nar0 | exact nar1 | exact zb_nar _) ?_
    have hlp : rdP key (n + 1) 10 d u (x :: r) = rdP key n 5 d u r := rd_lopF (k := 4) hso c_42
    rw [hlp] at hq
    have hx := hq K g1 ⟨fun q hq => (hK.1 q hq).trans (hJ q hq), fun i hi => (hK.2.1 i hi).trans (hJ2 i (by omega)), hK.2.2.1, hK.2.2.2.1, hK.2.2.2.2⟩
    rw [c_42] at hx; exact hx
theorem o_X12_term (hZ : ShR Z) {key n d u t A : Nat} {f : Nat → Int32} (hy : byR f t) (ht : t ≤ 96) (hAA : A ≤ 5332) (hA : rdLv key n 5 d u f t A mX12_part0 (7 * ((8 - d) + (8 - u)) + 4) l G Z) (hB : ∀ w, rdLp key n 10 d u f t A mX12_term [some (.ref qR), some (.int (nI key)), w] (7 * ((8 - d) + (8 - u)) + 5) l G Z) (w : Option Value) : rdLp key (n + 1) 10 d u f t A mX12_term [some (.ref qR), some (.int (nI key)), w] (7 * ((8 - d) + (8 - u)) + 5) l G Z := by
  intro ts I g L S Q hn hf hp hL hq
  have hw : wgt 10 = 1 := rfl
  rw [hw] at hn
  have hcc := hp.2.2.2.2.2.2
  have hs42 := sgT hcc (c := 42) (by omega)
  have hs47 := sgT hcc (c := 47) (by omega)
  cases ts with
  | nil => exact absurd (curT_wf hcc) id
  | cons x r =>
    simp only [List.length_cons] at hn hL
    have hyes : ∀ c, rnk c = 4 + 1 → sgB (x :: r) c = true → opAt 4 (x :: r) = some x.2.1 ∧ x.1 = 3 := by
      intro c hc hb
      have hxs : x.1 = 3 ∧ x.2.1 = c := of_decide_eq_true hb
      refine ⟨?_, hxs.1⟩
      show (if x.1 = 3 ∧ rnk x.2.1 = 4 + 1 then some x.2.1 else none) = some x.2.1
      rw [if_pos ⟨hxs.1, by rw [hxs.2]; exact hc⟩]
    have hn0 : 8 * (r.length + 1) ≤ n := by omega
    refine x_ald0 (n := 11) dX12_term_10 rfl ?_
    refine x_bipush (n := 13) (v := nI 42) dX12_term_11 rfl (by decide) ?_
    refine x_cV1 (n := 16) (d' := 0) zcX12_isSign mlX12_264 dX12_term_13 rfl (rK hZ) (by omega) (Nat.le_of_ble_eq_true rfl) ?_
    refine c_X12_isSign hZ ?_
    rw [hs42]
    refine x_some ?_
    refine x_zif_ne (n := 19) (tgt := 28) dX12_term_16 rfl (by decide) (fun c_16 => ?_) (fun c_16 => ?_)
    · have hyy : opAt 4 (x :: r) = some x.2.1 ∧ x.1 = 3 := by first | exact hyes 42 (by decide) c_16 | exact hyes 47 (by decide) c_25
      exact q_X12_term hZ hy ht hAA hA hB hn0 hf hp hL hq hyy.1 hyy.2
    · refine x_ald0 (n := 20) dX12_term_19 rfl ?_
      refine x_bipush (n := 22) (v := nI 47) dX12_term_20 rfl (by decide) ?_
      refine x_cV1 (n := 25) (d' := 0) zcX12_isSign mlX12_264 dX12_term_22 rfl (rK hZ) (by omega) (Nat.le_of_ble_eq_true rfl) ?_
      refine c_X12_isSign hZ ?_
      rw [hs47]
      refine x_some ?_
      refine x_zif_eq (n := 28) (tgt := 56) dX12_term_25 rfl (by decide) (fun c_25 => ?_) (fun c_25 => ?_)
      · refine x_ic1 (n := 57) dX12_term_56 rfl ?_
        refine r_zret dX12_term_57 rfl (by first | exact nar0 | exact nar1 | exact zb_nar _) ?_
        have hno : opAt 4 (x :: r) = none := by
          show (if x.1 = 3 ∧ rnk x.2.1 = 4 + 1 then some x.2.1 else none) = none
          rw [if_neg]
          rintro ⟨h1, h2⟩
          rcases rnk_5.mp h2 with h3 | h3
          · exact of_decide_eq_false c_16 ⟨h1, h3⟩
          · exact of_decide_eq_false c_25 ⟨h1, h3⟩
        have hlp : rdP key (n + 1) 10 d u (x :: r) = (true, x :: r, [], 0) := rd_lopN (k := 4) hno
        rw [hlp] at hq
        exact hq I g ⟨fun _ _ => rfl, fun _ _ => rfl, rfl, hcc, fun _ => hp⟩
      · have hyy : opAt 4 (x :: r) = some x.2.1 ∧ x.1 = 3 := by first | exact hyes 42 (by decide) c_16 | exact hyes 47 (by decide) c_25
        exact q_X12_term hZ hy ht hAA hA hB hn0 hf hp hL hq hyy.1 hyy.2
theorem q_X12_sum (hZ : ShR Z) {key n d u t A : Nat} {f : Nat → Int32} (hy : byR f t) (ht : t ≤ 96) (hAA : A ≤ 5332) (hA : rdLv key n 4 d u f t A mX12_term (7 * ((8 - d) + (8 - u)) + 5) l G Z) (hB : ∀ w, rdLp key n 9 d u f t A mX12_sum [some (.ref qR), some (.int (nI key)), w] (7 * ((8 - d) + (8 - u)) + 6) l G Z) {x : TK} {r : List TK} {L S : Nat} {w : Option Value} (hn : 8 * (r.length + 1) ≤ n) (hf : I q_tape = f) (hp : prS f t A d u L S (x :: r) (I qR)) (hL : L + (r.length + 1) ≤ 97)
    (hq : ∀ J g', rdPost f t A d u L S (rdP key (n + 1) 9 d u (x :: r)) I J g g' → Q (some (.int (zb (rdP key (n + 1) 9 d u (x :: r)).1))) Z (va_up J q_s g')) (hso : opAt 3 (x :: r) = some x.2.1) (hx3 : x.1 = 3) : zX l G mX12_sum (7 * ((8 - d) + (8 - u)) + 6) 0 0 28 [some (.ref qR), some (.int (nI key)), w] [] Z (va_up I q_s g) Q := by
  have hw : wgt 9 = 1 := rfl
  have hw2 : wgt 4 = 2 := rfl
  obtain ⟨hle, hlt⟩ := letT hp.2.2.2.2.2.2 (Or.inr hx3)
  have hle2 : va_up I q_s g qR 20 = nI x.2.1 := hle
  refine x_ald0 (n := 29) dX12_sum_28 rfl ?_
  refine x_rget (n := 32) flX12_238 rfl dX12_sum_29 rfl hZ ?_
  rw [hle]
  refine x_ist2 (n := 33) dX12_sum_32 rfl (by decide) rfl ?_
  refine x_ald0 (n := 34) dX12_sum_33 rfl ?_
  refine x_cV0 (n := 37) (d' := 2) zcX12_next mlX12_267 dX12_sum_34 rfl (rK hZ) (by omega) (Nat.le_of_ble_eq_true rfl) ?_
  refine c_nextT hZ hf hy ht hp (by omega) (fun J hJ hJ2 hpJ => ?_)
  refine x_none ?_
  refine x_ald0 (n := 38) dX12_sum_37 rfl ?_
  refine x_ild1 (n := 39) dX12_sum_38 rfl ?_
  refine x_cV1 (n := 42) (d' := (7 * ((8 - d) + (8 - u)) + 5)) zcX12_term mlX12_280 dX12_sum_39 rfl (rK hZ) (by omega) (Nat.le_of_ble_eq_true rfl) ?_
  refine hA r J g L S _ (by rw [hw2]; omega) ((hJ _ (by decide)).trans hf) hpJ (by omega) (fun K g1 hK => ?_)
  have hcl := rd_cl key n 4 d u r
  refine x_some ?_
  refine x_zif_ne (n := 45) (tgt := 47) dX12_sum_42 rfl (by decide) (fun c_42 => ?_) (fun c_42 => ?_)
  · refine x_ald0 (n := 48) dX12_sum_47 rfl ?_
    refine x_ic2 (n := 49) dX12_sum_48 rfl ?_
    refine x_ild2 (n := 50) dX12_sum_49 rfl ?_
    have hpK := hK.2.2.2.2 c_42
    have hlen := (rd_len key n 4 d u r c_42).2 (by omega)
    refine x_cV2 (n := 53) (d' := 0) zcX12_step mlX12_270 dX12_sum_50 rfl (rK hZ) (by omega) (Nat.le_of_ble_eq_true rfl) ?_
    refine c_X12_step hZ hpK.2.2.2.2.1 hpK.2.2.2.1 (by omega) ?_
    refine x_none ?_
    refine x_goto (n := 10) dX12_sum_53 (by decide) ?_
    have hlp := rd_lopT (key := key) (n := n) (d := d) (u := u) (k := 3) hso c_42 (by omega)
    have hK2 : rdPost f t A d u L S (true, (rdP key n 4 d u r).2.1, (rdP key n 4 d u r).2.2.1 ++ [(nI 2, nI x.2.1)], (rdP key n 4 d u r).2.2.2) I (va_up K qR (upd (K qR) 23 (nI (L + (rdP key n 4 d u r).2.2.1.length + 1)))) g (upd (upd g1 (A + 2 * (L + (rdP key n 4 d u r).2.2.1.length)) (nI 2)) (A + 2 * (L + (rdP key n 4 d u r).2.2.1.length) + 1) (nI x.2.1)) := rdPost_step hJ hJ2 hK c_42
    have hn1 : 8 * (rdP key n 4 d u r).2.1.length + wgt 9 ≤ n := by rw [hw]; omega
    have hL1 : L + (rdP key n 4 d u r).2.2.1.length + 1 + (rdP key n 4 d u r).2.1.length ≤ 97 := by omega
    exact loop_end (k := 3) hlp (hB _) hK2 hn1 hf hL1 hq
  · refine x_ic0 (n := 46) dX12_sum_45 rfl ?_
    refine r_zret dX12_sum_46 rfl (by first | exact nar0 | exact nar1 | exact zb_nar _) ?_
    have hlp : rdP key (n + 1) 9 d u (x :: r) = rdP key n 4 d u r := rd_lopF (k := 3) hso c_42
    rw [hlp] at hq
    have hx := hq K g1 ⟨fun q hq => (hK.1 q hq).trans (hJ q hq), fun i hi => (hK.2.1 i hi).trans (hJ2 i (by omega)), hK.2.2.1, hK.2.2.2.1, hK.2.2.2.2⟩
    rw [c_42] at hx; exact hx
theorem o_X12_sum (hZ : ShR Z) {key n d u t A : Nat} {f : Nat → Int32} (hy : byR f t) (ht : t ≤ 96) (hAA : A ≤ 5332) (hA : rdLv key n 4 d u f t A mX12_term (7 * ((8 - d) + (8 - u)) + 5) l G Z) (hB : ∀ w, rdLp key n 9 d u f t A mX12_sum [some (.ref qR), some (.int (nI key)), w] (7 * ((8 - d) + (8 - u)) + 6) l G Z) (w : Option Value) : rdLp key (n + 1) 9 d u f t A mX12_sum [some (.ref qR), some (.int (nI key)), w] (7 * ((8 - d) + (8 - u)) + 6) l G Z := by
  intro ts I g L S Q hn hf hp hL hq
  have hw : wgt 9 = 1 := rfl
  rw [hw] at hn
  have hcc := hp.2.2.2.2.2.2
  have hs43 := sgT hcc (c := 43) (by omega)
  have hs45 := sgT hcc (c := 45) (by omega)
  cases ts with
  | nil => exact absurd (curT_wf hcc) id
  | cons x r =>
    simp only [List.length_cons] at hn hL
    have hyes : ∀ c, rnk c = 3 + 1 → sgB (x :: r) c = true → opAt 3 (x :: r) = some x.2.1 ∧ x.1 = 3 := by
      intro c hc hb
      have hxs : x.1 = 3 ∧ x.2.1 = c := of_decide_eq_true hb
      refine ⟨?_, hxs.1⟩
      show (if x.1 = 3 ∧ rnk x.2.1 = 3 + 1 then some x.2.1 else none) = some x.2.1
      rw [if_pos ⟨hxs.1, by rw [hxs.2]; exact hc⟩]
    have hn0 : 8 * (r.length + 1) ≤ n := by omega
    refine x_ald0 (n := 11) dX12_sum_10 rfl ?_
    refine x_bipush (n := 13) (v := nI 43) dX12_sum_11 rfl (by decide) ?_
    refine x_cV1 (n := 16) (d' := 0) zcX12_isSign mlX12_264 dX12_sum_13 rfl (rK hZ) (by omega) (Nat.le_of_ble_eq_true rfl) ?_
    refine c_X12_isSign hZ ?_
    rw [hs43]
    refine x_some ?_
    refine x_zif_ne (n := 19) (tgt := 28) dX12_sum_16 rfl (by decide) (fun c_16 => ?_) (fun c_16 => ?_)
    · have hyy : opAt 3 (x :: r) = some x.2.1 ∧ x.1 = 3 := by first | exact hyes 43 (by decide) c_16 | exact hyes 45 (by decide) c_25
      exact q_X12_sum hZ hy ht hAA hA hB hn0 hf hp hL hq hyy.1 hyy.2
    · refine x_ald0 (n := 20) dX12_sum_19 rfl ?_
      refine x_bipush (n := 22) (v := nI 45) dX12_sum_20 rfl (by decide) ?_
      refine x_cV1 (n := 25) (d' := 0) zcX12_isSign mlX12_264 dX12_sum_22 rfl (rK hZ) (by omega) (Nat.le_of_ble_eq_true rfl) ?_
      refine c_X12_isSign hZ ?_
      rw [hs45]
      refine x_some ?_
      refine x_zif_eq (n := 28) (tgt := 56) dX12_sum_25 rfl (by decide) (fun c_25 => ?_) (fun c_25 => ?_)
      · refine x_ic1 (n := 57) dX12_sum_56 rfl ?_
        refine r_zret dX12_sum_57 rfl (by first | exact nar0 | exact nar1 | exact zb_nar _) ?_
        have hno : opAt 3 (x :: r) = none := by
          show (if x.1 = 3 ∧ rnk x.2.1 = 3 + 1 then some x.2.1 else none) = none
          rw [if_neg]
          rintro ⟨h1, h2⟩
          rcases rnk_4.mp h2 with h3 | h3
          · exact of_decide_eq_false c_16 ⟨h1, h3⟩
          · exact of_decide_eq_false c_25 ⟨h1, h3⟩
        have hlp : rdP key (n + 1) 9 d u (x :: r) = (true, x :: r, [], 0) := rd_lopN (k := 3) hno
        rw [hlp] at hq
        exact hq I g ⟨fun _ _ => rfl, fun _ _ => rfl, rfl, hcc, fun _ => hp⟩
      · have hyy : opAt 3 (x :: r) = some x.2.1 ∧ x.1 = 3 := by first | exact hyes 43 (by decide) c_16 | exact hyes 45 (by decide) c_25
        exact q_X12_sum hZ hy ht hAA hA hB hn0 hf hp hL hq hyy.1 hyy.2
theorem q_X12_test (hZ : ShR Z) {key n d u t A : Nat} {f : Nat → Int32} (hy : byR f t) (ht : t ≤ 96) (hAA : A ≤ 5332) (hA : rdLv key n 3 d u f t A mX12_sum (7 * ((8 - d) + (8 - u)) + 6) l G Z) {x : TK} {r : List TK} {L S : Nat} {w : Option Value} (hn : 8 * (r.length + 1) ≤ n) (hf : I q_tape = f) (hp : prS f t A d u L S (x :: r) (I qR)) (hL : L + (r.length + 1) ≤ 97)
    (hq : ∀ J g', rdPost f t A d u L S (rdP key (n + 1) 8 d u (x :: r)) I J g g' → Q (some (.int (zb (rdP key (n + 1) 8 d u (x :: r)).1))) Z (va_up J q_s g')) (hso : opAt 2 (x :: r) = some x.2.1) (hx3 : x.1 = 3) : zX l G mX12_test (7 * ((8 - d) + (8 - u)) + 7) 0 0 37 [some (.ref qR), some (.int (nI key)), w] [] Z (va_up I q_s g) Q := by
  have hw : wgt 8 = 1 := rfl
  have hw2 : wgt 3 = 3 := rfl
  obtain ⟨hle, hlt⟩ := letT hp.2.2.2.2.2.2 (Or.inr hx3)
  have hle2 : va_up I q_s g qR 20 = nI x.2.1 := hle
  refine x_ald0 (n := 38) dX12_test_37 rfl ?_
  refine x_rget (n := 41) flX12_238 rfl dX12_test_38 rfl hZ ?_
  rw [hle]
  refine x_ist2 (n := 42) dX12_test_41 rfl (by decide) rfl ?_
  refine x_ald0 (n := 43) dX12_test_42 rfl ?_
  refine x_cV0 (n := 46) (d' := 2) zcX12_next mlX12_267 dX12_test_43 rfl (rK hZ) (by omega) (Nat.le_of_ble_eq_true rfl) ?_
  refine c_nextT hZ hf hy ht hp (by omega) (fun J hJ hJ2 hpJ => ?_)
  refine x_none ?_
  refine x_ald0 (n := 47) dX12_test_46 rfl ?_
  refine x_ild1 (n := 48) dX12_test_47 rfl ?_
  refine x_cV1 (n := 51) (d' := (7 * ((8 - d) + (8 - u)) + 6)) zcX12_sum mlX12_277 dX12_test_48 rfl (rK hZ) (by omega) (Nat.le_of_ble_eq_true rfl) ?_
  refine hA r J g L S _ (by rw [hw2]; omega) ((hJ _ (by decide)).trans hf) hpJ (by omega) (fun K g1 hK => ?_)
  have hcl := rd_cl key n 3 d u r
  refine x_some ?_
  refine x_zif_ne (n := 54) (tgt := 56) dX12_test_51 rfl (by decide) (fun c_51 => ?_) (fun c_51 => ?_)
  · refine x_ald0 (n := 57) dX12_test_56 rfl ?_
    refine x_ic2 (n := 58) dX12_test_57 rfl ?_
    refine x_ild2 (n := 59) dX12_test_58 rfl ?_
    have hpK := hK.2.2.2.2 c_51
    have hlen := (rd_len key n 3 d u r c_51).2 (by omega)
    refine x_cV2 (n := 62) (d' := 0) zcX12_step mlX12_270 dX12_test_59 rfl (rK hZ) (by omega) (Nat.le_of_ble_eq_true rfl) ?_
    refine c_X12_step hZ hpK.2.2.2.2.1 hpK.2.2.2.1 (by omega) ?_
    refine x_none ?_
    refine x_ic1 (n := 63) dX12_test_62 rfl ?_
    refine r_zret dX12_test_63 rfl (by first | exact nar0 | exact nar1 | exact zb_nar _) ?_
    have hlp := rd_lop8 (key := key) (n := n) (d := d) (u := u) hso c_51
    have hK2 : rdPost f t A d u L S (true, (rdP key n 3 d u r).2.1, (rdP key n 3 d u r).2.2.1 ++ [(nI 2, nI x.2.1)], (rdP key n 3 d u r).2.2.2) I (va_up K qR (upd (K qR) 23 (nI (L + (rdP key n 3 d u r).2.2.1.length + 1)))) g (upd (upd g1 (A + 2 * (L + (rdP key n 3 d u r).2.2.1.length)) (nI 2)) (A + 2 * (L + (rdP key n 3 d u r).2.2.1.length) + 1) (nI x.2.1)) := rdPost_step hJ hJ2 hK c_51
    rw [hlp] at hq
    exact hq _ _ hK2
  · refine x_ic0 (n := 55) dX12_test_54 rfl ?_
    refine r_zret dX12_test_55 rfl (by first | exact nar0 | exact nar1 | exact zb_nar _) ?_
    have hlp : rdP key (n + 1) 8 d u (x :: r) = rdP key n 3 d u r := rd_lopF (k := 2) hso c_51
    rw [hlp] at hq
    have hx := hq K g1 ⟨fun q hq => (hK.1 q hq).trans (hJ q hq), fun i hi => (hK.2.1 i hi).trans (hJ2 i (by omega)), hK.2.2.1, hK.2.2.2.1, hK.2.2.2.2⟩
    rw [c_51] at hx; exact hx
theorem o_X12_test (hZ : ShR Z) {key n d u t A : Nat} {f : Nat → Int32} (hy : byR f t) (ht : t ≤ 96) (hAA : A ≤ 5332) (hA : rdLv key n 3 d u f t A mX12_sum (7 * ((8 - d) + (8 - u)) + 6) l G Z) (w : Option Value) : rdLp key (n + 1) 8 d u f t A mX12_test [some (.ref qR), some (.int (nI key)), w] (7 * ((8 - d) + (8 - u)) + 7) l G Z := by
  intro ts I g L S Q hn hf hp hL hq
  have hw : wgt 8 = 1 := rfl
  rw [hw] at hn
  have hcc := hp.2.2.2.2.2.2
  have hs60 := sgT hcc (c := 60) (by omega)
  have hs61 := sgT hcc (c := 61) (by omega)
  have hs62 := sgT hcc (c := 62) (by omega)
  cases ts with
  | nil => exact absurd (curT_wf hcc) id
  | cons x r =>
    simp only [List.length_cons] at hn hL
    have hyes : ∀ c, rnk c = 2 + 1 → sgB (x :: r) c = true → opAt 2 (x :: r) = some x.2.1 ∧ x.1 = 3 := by
      intro c hc hb
      have hxs : x.1 = 3 ∧ x.2.1 = c := of_decide_eq_true hb
      refine ⟨?_, hxs.1⟩
      show (if x.1 = 3 ∧ rnk x.2.1 = 2 + 1 then some x.2.1 else none) = some x.2.1
      rw [if_pos ⟨hxs.1, by rw [hxs.2]; exact hc⟩]
    have hn0 : 8 * (r.length + 1) ≤ n := by omega
    refine x_ald0 (n := 11) dX12_test_10 rfl ?_
    refine x_bipush (n := 13) (v := nI 60) dX12_test_11 rfl (by decide) ?_
    refine x_cV1 (n := 16) (d' := 0) zcX12_isSign mlX12_264 dX12_test_13 rfl (rK hZ) (by omega) (Nat.le_of_ble_eq_true rfl) ?_
    refine c_X12_isSign hZ ?_
    rw [hs60]
    refine x_some ?_
    refine x_zif_ne (n := 19) (tgt := 37) dX12_test_16 rfl (by decide) (fun c_16 => ?_) (fun c_16 => ?_)
    · have hyy : opAt 2 (x :: r) = some x.2.1 ∧ x.1 = 3 := by first | exact hyes 60 (by decide) c_16 | exact hyes 61 (by decide) c_25 | exact hyes 62 (by decide) c_34
      exact q_X12_test hZ hy ht hAA hA hn0 hf hp hL hq hyy.1 hyy.2
    · refine x_ald0 (n := 20) dX12_test_19 rfl ?_
      refine x_bipush (n := 22) (v := nI 61) dX12_test_20 rfl (by decide) ?_
      refine x_cV1 (n := 25) (d' := 0) zcX12_isSign mlX12_264 dX12_test_22 rfl (rK hZ) (by omega) (Nat.le_of_ble_eq_true rfl) ?_
      refine c_X12_isSign hZ ?_
      rw [hs61]
      refine x_some ?_
      refine x_zif_ne (n := 28) (tgt := 37) dX12_test_25 rfl (by decide) (fun c_25 => ?_) (fun c_25 => ?_)
      · have hyy : opAt 2 (x :: r) = some x.2.1 ∧ x.1 = 3 := by first | exact hyes 60 (by decide) c_16 | exact hyes 61 (by decide) c_25 | exact hyes 62 (by decide) c_34
        exact q_X12_test hZ hy ht hAA hA hn0 hf hp hL hq hyy.1 hyy.2
      · refine x_ald0 (n := 29) dX12_test_28 rfl ?_
        refine x_bipush (n := 31) (v := nI 62) dX12_test_29 rfl (by decide) ?_
        refine x_cV1 (n := 34) (d' := 0) zcX12_isSign mlX12_264 dX12_test_31 rfl (rK hZ) (by omega) (Nat.le_of_ble_eq_true rfl) ?_
        refine c_X12_isSign hZ ?_
        rw [hs62]
        refine x_some ?_
        refine x_zif_eq (n := 37) (tgt := 62) dX12_test_34 rfl (by decide) (fun c_34 => ?_) (fun c_34 => ?_)
        · refine x_ic1 (n := 63) dX12_test_62 rfl ?_
          refine r_zret dX12_test_63 rfl (by first | exact nar0 | exact nar1 | exact zb_nar _) ?_
          have hno : opAt 2 (x :: r) = none := by
            show (if x.1 = 3 ∧ rnk x.2.1 = 2 + 1 then some x.2.1 else none) = none
            rw [if_neg]
            rintro ⟨h1, h2⟩
            rcases rnk_3.mp h2 with h3 | h3 | h3
            · exact of_decide_eq_false c_16 ⟨h1, h3⟩
            · exact of_decide_eq_false c_25 ⟨h1, h3⟩
            · exact of_decide_eq_false c_34 ⟨h1, h3⟩
          have hlp : rdP key (n + 1) 8 d u (x :: r) = (true, x :: r, [], 0) := rd_lopN (k := 2) hno
          rw [hlp] at hq
          exact hq I g ⟨fun _ _ => rfl, fun _ _ => rfl, rfl, hcc, fun _ => hp⟩
        · have hyy : opAt 2 (x :: r) = some x.2.1 ∧ x.1 = 3 := by first | exact hyes 60 (by decide) c_16 | exact hyes 61 (by decide) c_25 | exact hyes 62 (by decide) c_34
          exact q_X12_test hZ hy ht hAA hA hn0 hf hp hL hq hyy.1 hyy.2
end
