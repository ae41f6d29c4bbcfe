/-! ===== what is read from the tape ===== -/
def dgN (f : Nat → Int32) (b : Nat) : Nat → Nat
  | 0 => 0
  | i + 1 => if i < 4 then 10 * dgN f b i + (vN f (b + i) - 48) else dgN f b i
def tkL (f : Nat → Int32) (t : Nat) : Nat → Nat → Bool → List TK
  | 0, _, _ => [(0, 0, t)]
  | n + 1, p, w =>
    if skB f (t - p) p = t then [(0, 0, t)]
    else if isLe f t (skB f (t - p) p) = true then
      ((if (decide (0 < p) && w && decide (p = skB f (t - p) p)) = true then 4 else 1), (if skL f t (t - skB f (t - p) p) (skB f (t - p) p) - skB f (t - p) p = 1 then vN f (skB f (t - p) p) else 0), skB f (t - p) p)
        :: tkL f t n (skL f t (t - skB f (t - p) p) (skB f (t - p) p)) (!(decide (0 < p) && w && decide (p = skB f (t - p) p)))
    else if isDi f t (skB f (t - p) p) = true then
      ((if (decide (0 < p) && w && decide (p = skB f (t - p) p)) = true ∨ 4 < skD f t (t - skB f (t - p) p) (skB f (t - p) p) - skB f (t - p) p then 4 else 2), dgN f (skB f (t - p) p) (skD f t (t - skB f (t - p) p) (skB f (t - p) p) - skB f (t - p) p), skB f (t - p) p)
        :: tkL f t n (skD f t (t - skB f (t - p) p) (skB f (t - p) p)) (decide (¬ ((decide (0 < p) && w && decide (p = skB f (t - p) p)) = true ∨ 4 < skD f t (t - skB f (t - p) p) (skB f (t - p) p) - skB f (t - p) p)))
    else (3, vN f (skB f (t - p) p), skB f (t - p) p) :: tkL f t n (skB f (t - p) p + 1) false
def byR (f : Nat → Int32) (t : Nat) : Prop := ∀ j, j < t → f j = nI (vN f j) ∧ vN f j < 256
theorem isLe_b {f : Nat → Int32} {t k : Nat} (h : isLe f t k = true) : k < t ∧ 97 ≤ (f k).toInt ∧ (f k).toInt ≤ 122 := by
  unfold isLe at h
  rw [Bool.and_eq_true, decide_eq_true_eq] at h
  exact ⟨h.1, zin_t h.2⟩
theorem isDi_b {f : Nat → Int32} {t k : Nat} (h : isDi f t k = true) : k < t ∧ 48 ≤ (f k).toInt ∧ (f k).toInt ≤ 57 := by
  unfold isDi at h
  rw [Bool.and_eq_true, decide_eq_true_eq] at h
  exact ⟨h.1, zin_t h.2⟩
theorem skD_all {f : Nat → Int32} {t : Nat} : ∀ n p j, p ≤ j → j < skD f t n p → isDi f t j = true
  | 0, p, j, h1, h2 => absurd h2 (by unfold skD; omega)
  | n + 1, p, j, h1, h2 => by
    unfold skD at h2
    split at h2
    · rename_i h
      by_cases hj : j = p
      · rw [hj]; exact h
      · exact skD_all n (p + 1) j (by omega) h2
    · omega
theorem skL_gt {f : Nat → Int32} {t b : Nat} (h : isLe f t b = true) : b < skL f t (t - b) b := by
  have hb := (isLe_b h).1
  rw [show t - b = t - b - 1 + 1 by omega]
  unfold skL
  rw [if_pos h]
  have := (skL_le f t (t - b - 1) (b + 1)).1
  omega
theorem skD_gt {f : Nat → Int32} {t b : Nat} (h : isDi f t b = true) : b < skD f t (t - b) b := by
  have hb := (isDi_b h).1
  rw [show t - b = t - b - 1 + 1 by omega]
  unfold skD
  rw [if_pos h]
  have := (skD_le f t (t - b - 1) (b + 1)).1
  omega
theorem dgF_N {f : Nat → Int32} {t b : Nat} (hy : byR f t) : ∀ i, (∀ j, j < i → isDi f t (b + j) = true) → dgF f b i = nI (dgN f b i) ∧ dgN f b i < 10 ^ (min i 4)
  | 0, _ => ⟨rfl, by show 0 < 10 ^ 0; decide⟩
  | i + 1, h => by
    obtain ⟨h1, h2⟩ := dgF_N hy i (fun j hj => h j (by omega))
    have hd := isDi_b (h i (by omega))
    obtain ⟨y1, y2⟩ := hy (b + i) hd.1
    have hv : (f (b + i)).toInt = (vN f (b + i) : Int) := by unfold vN; omega
    unfold dgF dgN
    split
    · rename_i hi
      rw [h1, y1, pk_mul, nI_add, pk_sub (by omega)]
      refine ⟨by rw [show 10 * dgN f b i + vN f (b + i) - 48 = 10 * dgN f b i + (vN f (b + i) - 48) by omega], ?_⟩
      rw [show min i 4 = i by omega] at h2
      rw [show min (i + 1) 4 = i + 1 by omega, Nat.pow_succ]
      omega
    · rename_i hi
      refine ⟨h1, ?_⟩
      rw [show min (i + 1) 4 = min i 4 by omega]; exact h2
theorem dgN_le {f : Nat → Int32} {t b : Nat} (hy : byR f t) {i : Nat} (h : ∀ j, j < i → isDi f t (b + j) = true) : dgN f b i ≤ 9999 := by
  have h1 := (dgF_N hy i h).2
  have h2 : 10 ^ (min i 4) ≤ 10 ^ 4 := Nat.pow_le_pow_right (by omega) (by omega)
  have h3 : 10 ^ 4 = 10000 := by decide
  omega
theorem tkL_wf (f : Nat → Int32) (t : Nat) : ∀ n p w, wfT (tkL f t n p w)
  | 0, _, _ => rfl
  | n + 1, p, w => by
    unfold tkL
    split
    · rfl
    split
    · unfold wfT
      dsimp only
      rw [if_neg (by split <;> omega)]
      exact tkL_wf f t n _ _
    split
    · unfold wfT
      dsimp only
      rw [if_neg (by split <;> omega)]
      exact tkL_wf f t n _ _
    · unfold wfT
      dsimp only
      rw [if_neg (by omega)]
      exact tkL_wf f t n _ _
theorem tkL_len (f : Nat → Int32) (t : Nat) : ∀ n p w, p ≤ t → t - p ≤ n → (tkL f t n p w).length ≤ t - p + 1
  | 0, _, _, _, _ => by simp [tkL]
  | n + 1, p, w, hp, hn => by
    have hs := skB_le f (t - p) p
    unfold tkL
    split
    · simp
    rename_i hb
    split
    · rename_i h
      have h1 := skL_gt h
      have h2 := (skL_le f t (t - skB f (t - p) p) (skB f (t - p) p)).2
      have := tkL_len f t n (skL f t (t - skB f (t - p) p) (skB f (t - p) p)) (!(decide (0 < p) && w && decide (p = skB f (t - p) p))) (by omega) (by omega)
      simp only [List.length_cons]; omega
    split
    · rename_i h
      have h1 := skD_gt h
      have h2 := (skD_le f t (t - skB f (t - p) p) (skB f (t - p) p)).2
      have := tkL_len f t n (skD f t (t - skB f (t - p) p) (skB f (t - p) p)) (decide (¬ ((decide (0 < p) && w && decide (p = skB f (t - p) p)) = true ∨ 4 < skD f t (t - skB f (t - p) p) (skB f (t - p) p) - skB f (t - p) p))) (by omega) (by omega)
      simp only [List.length_cons]; omega
    · have := tkL_len f t n (skB f (t - p) p + 1) false (by omega) (by omega)
      simp only [List.length_cons]; omega
/-- the fields tell of the head, and of where the rest begins -/
def curT (f : Nat → Int32) (t : Nat) (R : Nat → Int32) (ts : List TK) : Prop :=
  ∃ k v b r p n, ts = (k, v, b) :: r ∧ (k = 0 → r = []) ∧ (k ≠ 0 → t - p ≤ n ∧ r = tkL f t n p (decide (k = 1 ∨ k = 2))) ∧ R 16 = nI b ∧ R 17 = nI p ∧ p ≤ t ∧ b ≤ t ∧ R 18 = nI k ∧ k ≤ 4 ∧ (k = 2 → R 19 = nI v ∧ v ≤ 9999) ∧ (k = 1 ∨ k = 3 → R 20 = nI v ∧ v < 256)
theorem curT_wf {f R : Nat → Int32} {t : Nat} {ts : List TK} (h : curT f t R ts) : wfT ts := by
  obtain ⟨k, v, b, r, p, n, e, h0, h1, -⟩ := h
  subst e
  unfold wfT
  by_cases hk : k = 0
  · rw [if_pos hk]; exact h0 hk
  · rw [if_neg hk, (h1 hk).2]; exact tkL_wf _ _ _ _ _
/-- the lexer's fields tell of the next one -/
theorem lex_cur {f R R' : Nat → Int32} {t p n : Nat} {tok : Int32} {w : Bool} (hy : byR f t) (ht : t ≤ 96) (hp : p ≤ t) (hn : t - p ≤ n) (hw : w = decide (tok = nI 1 ∨ tok = nI 2)) (h : lexOK f t (skB f (t - p) p) (lexT f t p tok) R R') : curT f t R' (tkL f t n p w) := by
  have hs := skB_le f (t - p) p
  have hbt : skB f (t - p) p ≤ t := by omega
  obtain ⟨l1, l2, l3, l4, l5, l6⟩ := h
  have htg : (decide (0 < p) && w && decide (p = skB f (t - p) p)) = lexT f t p tok := by
    unfold lexT
    rw [hw]
    congr 1
    by_cases h1 : 0 < p
    · rw [decide_eq_true h1, Bool.true_and]
      congr 1
      exact propext ⟨fun e => ⟨h1, e⟩, fun e => e.2⟩
    · have h2 : ¬ (0 < p ∧ (tok = nI 1 ∨ tok = nI 2)) := fun e => h1 e.1
      rw [decide_eq_false h1, Bool.false_and, decide_eq_false h2]
  cases n with
  | zero =>
    have hpt : p = t := by omega
    have hb : skB f (t - p) p = t := by rw [hpt, Nat.sub_self]; rfl
    rw [hb] at l1 l3
    obtain ⟨q1, q2⟩ := l3 rfl
    exact ⟨0, 0, t, [], t, 0, rfl, fun _ => rfl, fun h => absurd rfl h, l1, q1, Nat.le_refl _, Nat.le_refl _, q2, by omega, fun h => absurd h (by omega), fun h => absurd h (by omega)⟩
  | succ n =>
    unfold tkL
    rw [htg]
    generalize lexT f t p tok = tg at *
    by_cases hb : skB f (t - p) p = t
    · rw [if_pos hb]
      rw [hb] at l1 l3
      obtain ⟨q1, q2⟩ := l3 rfl
      exact ⟨0, 0, t, [], t, 0, rfl, fun _ => rfl, fun h => absurd rfl h, l1, q1, Nat.le_refl _, Nat.le_refl _, q2, by omega, fun h => absurd h (by omega), fun h => absurd h (by omega)⟩
    · rw [if_neg hb]
      generalize skB f (t - p) p = b at *
      obtain ⟨y1, y2⟩ := hy b (by omega)
      by_cases hL : isLe f t b = true
      · rw [if_pos hL]
        obtain ⟨q1, q2, q3⟩ := l4 (by omega) hL
        have g1 := skL_gt hL
        have g2 := (skL_le f t (t - b) b).2
        refine ⟨_, _, _, _, skL f t (t - b) b, n, rfl, fun h => ?_, fun _ => ⟨by omega, ?_⟩, l1, q1, by omega, by omega, ?_, ?_, fun h => ?_, fun _ => ⟨?_, ?_⟩⟩
        · exfalso; split at h <;> omega
        · congr 1; cases tg <;> rfl
        · rw [q2]; cases tg <;> rfl
        · split <;> omega
        · exfalso; split at h <;> omega
        · rw [q3]; split
          · exact y1
          · rfl
        · split <;> omega
      · rw [if_neg hL]
        have hL' : isLe f t b = false := Bool.eq_false_iff.mpr hL
        by_cases hD : isDi f t b = true
        · rw [if_pos hD]
          obtain ⟨q1, q2, q3⟩ := l5 (by omega) hL' hD
          have g1 := skD_gt hD
          have g2 := (skD_le f t (t - b) b).2
          have hall : ∀ j, j < skD f t (t - b) b - b → isDi f t (b + j) = true := fun j hj => skD_all (t - b) b (b + j) (by omega) (by omega)
          refine ⟨_, _, _, _, skD f t (t - b) b, n, rfl, fun h => ?_, fun _ => ⟨by omega, ?_⟩, l1, q1, by omega, by omega, ?_, ?_, fun _ => ⟨?_, dgN_le hy hall⟩, fun h => ?_⟩
          · exfalso; split at h <;> omega
          · congr 1
            by_cases hc : tg = true ∨ 4 < skD f t (t - b) b - b
            · rw [if_pos hc, decide_eq_false (fun e => e hc)]; rfl
            · rw [if_neg hc, decide_eq_true hc]; rfl
          · rw [q2]
            by_cases hc : tg = true ∨ 4 < skD f t (t - b) b - b
            · rw [if_pos hc, if_pos hc]
            · rw [if_neg hc, if_neg hc]
          · split <;> omega
          · rw [q3]; exact (dgF_N hy _ hall).1
          · exfalso; split at h <;> omega
        · rw [if_neg hD]
          obtain ⟨q1, q2, q3⟩ := l6 (by omega) hL' (Bool.eq_false_iff.mpr hD)
          exact ⟨3, vN f b, b, _, b + 1, n, rfl, fun h => absurd h (by omega), fun _ => ⟨by omega, rfl⟩, l1, q1, by omega, by omega, q2, by omega, fun h => absurd h (by omega), fun _ => ⟨q3.trans y1, y2⟩⟩
/-- the reader's state: tape f of t bytes, steps from A on, d brackets and u signs ! open, L steps laid, S parts said, ts to be read -/
def prS (f : Nat → Int32) (t A d u L S : Nat) (ts : List TK) (R : Nat → Int32) : Prop := R 15 = nI t ∧ R 21 = nI d ∧ R 22 = nI u ∧ R 23 = nI L ∧ R 24 = nI A ∧ R 25 = nI S ∧ curT f t R ts
section
variable {l : Launch} {G : zG} {Z : zS} {I : zI} {g : Nat → Int32} {Q : Option Value → zS → zI → Prop}
theorem c_nextT (hZ : ShR Z) {f : Nat → Int32} {t A d u L S : Nat} {x : TK} {r : List TK} (hf : I q_tape = f) (hy : byR f t) (ht2 : t ≤ 96) (hp : prS f t A d u L S (x :: r) (I qR)) (h0 : x.1 ≠ 0)
    (hq : ∀ J : zI, (∀ q, q ≠ qR → J q = I q) → (∀ i, ¬ (16 ≤ i ∧ i ≤ 20) → J qR i = I qR i) → prS f t A d u L S r (J qR) → Q none Z (va_up J q_s g)) : zM l G mX12_next 2 0 0 [.ref qR] Z (va_up I q_s g) Q := by
  obtain ⟨p1, p2, p3, p4, p5, p6, k, v, b, r', p, n, e, c0, c1, c2, c3, c4, c5, c6, c7, c8, c9⟩ := hp
  cases e
  have hk : k ≠ 0 := h0
  obtain ⟨hn, hr⟩ := c1 hk
  refine c_X12_next hZ ht2 c4 p1 c3 (fun J hJ hlex => ?_)
  rw [hf] at hlex
  have hoff : ∀ i, ¬ (16 ≤ i ∧ i ≤ 20) → J qR i = I qR i := fun i hi => hlex.2.1 i (by omega)
  refine hq J hJ hoff ⟨by rw [hoff 15 (by omega)]; exact p1, by rw [hoff 21 (by omega)]; exact p2, by rw [hoff 22 (by omega)]; exact p3, by rw [hoff 23 (by omega)]; exact p4, by rw [hoff 24 (by omega)]; exact p5, by rw [hoff 25 (by omega)]; exact p6, ?_⟩
  rw [hr]
  refine lex_cur hy ht2 c4 hn ?_ hlex
  rw [c6]
  congr 1
  rw [nI_eq (by omega) (by omega), nI_eq (by omega) (by omega)]
end
