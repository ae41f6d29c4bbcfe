/-! ===== the tokens, as the class comes by them ===== -/
theorem tkL_end (f : Nat → Int32) (t n : Nat) (w : Bool) : tkL f t n t w = [(0, 0, t)] := by
  cases n with
  | zero => rfl
  | succ n =>
    unfold tkL
    rw [if_pos (by rw [Nat.sub_self]; rfl)]
theorem skB_bl {f : Nat → Int32} {t p : Nat} (hp : p < t) (hb : f p = nI 32) : skB f (t - p) p = skB f (t - (p + 1)) (p + 1) := by
  obtain ⟨m, hm⟩ : ∃ m, t - p = m + 1 := ⟨t - p - 1, by omega⟩
  rw [hm, show t - (p + 1) = m by omega]
  conv => lhs; unfold skB
  rw [if_pos hb]
theorem skB_nb {f : Nat → Int32} {t p : Nat} (hp : p < t) (hb : ¬ f p = nI 32) : skB f (t - p) p = p := by
  obtain ⟨m, hm⟩ : ∃ m, t - p = m + 1 := ⟨t - p - 1, by omega⟩
  rw [hm]
  unfold skB
  rw [if_neg hb]
theorem tkL_blank {f : Nat → Int32} {t n p : Nat} {w : Bool} (hp : p < t) (hb : f p = nI 32) : tkL f t (n + 1) p w = tkL f t (n + 1) (p + 1) false := by
  have hs := (skB_le f (t - (p + 1)) (p + 1)).1
  unfold tkL
  rw [skB_bl hp hb]
  have e1 : (decide (0 < p) && w && decide (p = skB f (t - (p + 1)) (p + 1))) = false := by rw [decide_eq_false (show ¬ p = skB f (t - (p + 1)) (p + 1) by omega), Bool.and_false]
  have e2 : (decide (0 < p + 1) && false && decide (p + 1 = skB f (t - (p + 1)) (p + 1))) = false := by rw [Bool.and_false, Bool.false_and]
  rw [e1, e2]
theorem tkL_let {f : Nat → Int32} {t n p : Nat} {w : Bool} (hp : p < t) (hb : ¬ f p = nI 32) (h0 : 0 < p) (hL : isLe f t p = true) : tkL f t (n + 1) p w = ((if w = true then 4 else 1), (if skL f t (t - p) p - p = 1 then vN f p else 0), p) :: tkL f t n (skL f t (t - p) p) (!w) := by
  conv => lhs; unfold tkL
  rw [skB_nb hp hb, if_neg (by omega), if_pos hL, decide_eq_true h0, decide_eq_true (rfl : p = p), Bool.true_and, Bool.and_true]
theorem tkL_dig {f : Nat → Int32} {t n p : Nat} {w : Bool} (hp : p < t) (hb : ¬ f p = nI 32) (h0 : 0 < p) (hL : isLe f t p = false) (hD : isDi f t p = true) : tkL f t (n + 1) p w = ((if w = true ∨ 4 < skD f t (t - p) p - p then 4 else 2), dgN f p (skD f t (t - p) p - p), p) :: tkL f t n (skD f t (t - p) p) (decide (¬ (w = true ∨ 4 < skD f t (t - p) p - p))) := by
  conv => lhs; unfold tkL
  rw [skB_nb hp hb, if_neg (by omega), if_neg (by rw [hL]; decide), if_pos hD, decide_eq_true h0, decide_eq_true (rfl : p = p)]
  simp only [Bool.true_and, Bool.and_true]
theorem tkL_sgn {f : Nat → Int32} {t n p : Nat} {w : Bool} (hp : p < t) (hb : ¬ f p = nI 32) (hL : isLe f t p = false) (hD : isDi f t p = false) : tkL f t (n + 1) p w = (3, vN f p, p) :: tkL f t n (p + 1) false := by
  conv => lhs; unfold tkL
  rw [skB_nb hp hb, if_neg (by omega), if_neg (by rw [hL]; decide), if_neg (by rw [hD]; decide)]
