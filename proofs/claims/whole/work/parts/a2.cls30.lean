theorem mulb {x y a b : Int} (h1 : -a ≤ x) (h2 : x ≤ a) (h3 : -b ≤ y) (h4 : y ≤ b) : -(a * b) ≤ x * y ∧ x * y ≤ a * b := by
  have q1 : (a + x) * (b + y) ≥ 0 := Int.mul_nonneg (by omega) (by omega)
  have q2 : (a - x) * (b - y) ≥ 0 := Int.mul_nonneg (by omega) (by omega)
  have q3 : (a - x) * (b + y) ≥ 0 := Int.mul_nonneg (by omega) (by omega)
  have q4 : (a + x) * (b - y) ≥ 0 := Int.mul_nonneg (by omega) (by omega)
  rw [Int.add_mul, Int.mul_add, Int.mul_add] at q1
  rw [Int.sub_mul, Int.mul_sub, Int.mul_sub] at q2
  rw [Int.sub_mul, Int.mul_add, Int.mul_add] at q3
  rw [Int.add_mul, Int.mul_sub, Int.mul_sub] at q4
  omega
theorem slope_mono {f : Nat → Int} {P : Nat} (hc : cvx f P) : ∀ d j, j + d + 1 < P → f (j + 1) - f j ≤ f (j + d + 1) - f (j + d)
  | 0, j, _ => by simp
  | d + 1, j, h => by
    have h1 := slope_mono hc d j (by omega)
    have h2 := hc (j + d) (by omega)
    show f (j + 1) - f j ≤ f (j + d + 2) - f (j + d + 1)
    omega
theorem sum_r {f : Nat → Int} {P : Nat} {u : Int} (hu : ∀ j, j + 1 < P → f (j + 1) - f j ≤ u) : ∀ d p, p + d + 1 = P → f (P - 1) - f p ≤ d * u
  | 0, p, h => by rw [show P - 1 = p by omega]; simp
  | d + 1, p, h => by
    have h1 := sum_r hu d (p + 1) (by omega)
    have h2 := hu p (by omega)
    rw [show ((d + 1 : Nat) : Int) = (d : Int) + 1 by omega, Int.add_mul, Int.one_mul]
    omega
theorem sum_l {f : Nat → Int} {P : Nat} {u : Int} (hu : ∀ j, j + 1 < P → f j - f (j + 1) ≤ u) : ∀ p, p < P → f 0 - f p ≤ p * u
  | 0, _ => by simp
  | p + 1, h => by
    have h1 := sum_l hu p (by omega)
    have h2 := hu p h
    rw [show ((p + 1 : Nat) : Int) = (p : Int) + 1 by omega, Int.add_mul, Int.one_mul]
    omega
theorem near_i (k : Nat) : (near 2400 k : Int) = if (2400 : Int) ≤ k then (k : Int) - 2400 else 2400 - (k : Int) := by unfold near; split <;> omega
theorem cj_step {S B P sb : Nat} {f : Nat → Int} {h : Nat → Nat} {d : Int} (hP : P = S + B + 1) (hS : S ≤ 99) (hB : B ≤ 99) (hc : cvx f P) (hsl : ∀ j, j + 1 < P → -(sb : Int) ≤ f (j + 1) - f j ∧ f (j + 1) - f j ≤ sb) (hsb : sb ≤ 2277) (hv : ∀ p, p < P → -10000000 ≤ f p ∧ f p ≤ 10000000) (hd1 : -99 ≤ d) (hd2 : d ≤ 99) (hj : cj S P f h) :
    cj S P (fun p => d * ((p : Int) - S) + wn f P p) (hlD (hlU (hlS (hlB h) d) B) S) := by
  have low : ∀ p, p < P → ∀ k : Nat, k ≤ 4800 → ((p : Int) - S) * ((k : Int) - 2400) - (d * ((p : Int) - S) + wn f P p) ≤ (hlD (hlU (hlS (hlB h) d) B) S k : Int) := by
    intro p hp
    refine relax_low (by omega) (by omega) (fun k hk => ?_)
    obtain ⟨p', p1, p2, p3⟩ := wn_ex (f := f) hp
    have hvp := hv p' p1
    rw [p3]
    unfold hlS
    split
    · rename_i hr
      have hk' : (((k : Int) - d).toNat : Int) = (k : Int) - d := by omega
      have hc1 := (hj ((k : Int) - d).toNat (by omega)).1 p' p1
      unfold hlB
      have hn := near_i ((k : Int) - d).toNat
      generalize ((k : Int) - d).toNat = k' at *
      rw [show ((h k' + near 2400 k' : Nat) : Int) = (h k' : Int) + (near 2400 k' : Int) by omega, hn]
      have e1 : ((p : Int) - S) * ((k : Int) - 2400) = ((p : Int) - S) * ((k' : Int) - 2400) + d * ((p : Int) - S) := by rw [show (k : Int) - 2400 = ((k' : Int) - 2400) + d by omega, Int.mul_add, Int.mul_comm d]
      rw [e1]
      unfold near at p2
      rcases (by omega : p' = p ∨ p' = p + 1 ∨ p = p' + 1) with rfl | rfl | rfl
      · split <;> omega
      · have e2 : (((p + 1 : Nat) : Int) - S) * ((k' : Int) - 2400) = ((p : Int) - S) * ((k' : Int) - 2400) + ((k' : Int) - 2400) := by rw [show ((p + 1 : Nat) : Int) - S = ((p : Int) - S) + 1 by omega, Int.add_mul, Int.one_mul]
        rw [e2] at hc1
        split <;> omega
      · have e2 : (((p' + 1 : Nat) : Int) - S) * ((k' : Int) - 2400) = ((p' : Int) - S) * ((k' : Int) - 2400) + ((k' : Int) - 2400) := by rw [show ((p' + 1 : Nat) : Int) - S = ((p' : Int) - S) + 1 by omega, Int.add_mul, Int.one_mul]
        rw [e2]
        split <;> omega
    · have b1 := mulb (x := (p : Int) - S) (y := (k : Int) - 2400) (a := 200) (b := 2400) (by omega) (by omega) (by omega) (by omega)
      have b2 := mulb (x := d) (y := (p : Int) - S) (a := 99) (b := 200) (by omega) (by omega) (by omega) (by omega)
      omega
  intro k hk
  refine ⟨fun p hp => low p hp k hk, ?_⟩
  have hle0 : (hlD (hlU (hlS (hlB h) d) B) S k : Int) ≤ (hlU (hlS (hlB h) d) B k : Int) := by
    have := hlD_to (f := hlU (hlS (hlB h) d) B) (s := S) (k := k) (d := 0) (by omega)
    rw [Nat.add_zero, Nat.mul_zero] at this; omega
  have hw1 := wn_le (f := f) (P := P) (p := P - 1) (q := P - 1) (by omega) (by unfold near; omega)
  have hw0 := wn_le (f := f) (P := P) (p := 0) (q := 0) (by omega) (by unfold near; omega)
  obtain ⟨z1, z2, z3, z4⟩ := wn_ex (f := f) (P := P) (p := P - 1) (by omega)
  obtain ⟨y1, y2, y3, y4⟩ := wn_ex (f := f) (P := P) (p := 0) (by omega)
  have hu1 : f (P - 1) - wn f P (P - 1) ≤ sb := by
    unfold near at z3
    rcases (by omega : z1 = P - 1 ∨ (1 ≤ P - 1 ∧ z1 = P - 2)) with e | ⟨e0, e⟩
    · rw [z4, e]; omega
    · have := (hsl (P - 2) (by omega)).2
      rw [show P - 2 + 1 = P - 1 by omega] at this
      rw [z4, e]; omega
  have hu0 : f 0 - wn f P 0 ≤ sb := by
    unfold near at y3
    rcases (by omega : y1 = 0 ∨ y1 = 1) with e | e
    · rw [y4, e]; omega
    · have := (hsl 0 (by omega)).1
      rw [y4, e]
      show f 0 - f (0 + 1) ≤ sb
      omega
  by_cases ca : f (P - 1) - wn f P (P - 1) ≤ (k : Int) - 2400 - d
  · -- far to the right
    refine ⟨P - 1, by omega, ?_⟩
    have hl := low (P - 1) (by omega) k hk
    obtain ⟨U, hU⟩ : ∃ U : Nat, (U : Int) = f (P - 1) - wn f P (P - 1) := ⟨(f (P - 1) - wn f P (P - 1)).toNat, by omega⟩
    obtain ⟨k', hk'⟩ : ∃ k' : Nat, (k' : Int) = 2400 + U + d := ⟨(2400 + (U : Int) + d).toNat, by omega⟩
    have hFk : hlS (hlB h) d k' = h (2400 + U) + U := by
      unfold hlS
      rw [if_pos (by omega), show ((k' : Int) - d).toNat = 2400 + U by omega]
      unfold hlB near
      omega
    obtain ⟨p, hp, hpe⟩ := (hj (2400 + U) (by omega)).2
    have hsu : ∀ j, j + 1 < P → f (j + 1) - f j ≤ (U : Int) := by
      intro j hj1
      have h1 := slope_mono hc (P - 2 - j) j (by omega)
      rw [show j + (P - 2 - j) + 1 = P - 1 by omega, show j + (P - 2 - j) = P - 2 by omega] at h1
      have h2 := wn_le (f := f) (P := P) (p := P - 1) (q := P - 2) (by omega) (by unfold near; omega)
      omega
    have hsum := sum_r hsu (P - 1 - p) p (by omega)
    have hto := hlU_to (f := hlS (hlB h) d) (b := B) (k - k') k'
    rw [show k' + (k - k') = k by omega, hFk] at hto
    have e1 : ((p : Int) - S) * (((2400 + U : Nat) : Int) - 2400) = ((p : Int) - S) * (U : Int) := by rw [show ((2400 + U : Nat) : Int) - 2400 = (U : Int) by omega]
    rw [e1] at hpe
    have e2 : (((P - 1 - p : Nat) : Int)) * (U : Int) = (B : Int) * U - ((p : Int) - S) * U := by rw [← Int.sub_mul]; congr 1; omega
    rw [e2] at hsum
    have e3 : ((B * (k - k') : Nat) : Int) = (B : Int) * ((k : Int) - 2400) - B * U - B * d := by
      rw [Int.natCast_mul, show ((k - k' : Nat) : Int) = ((k : Int) - 2400) - U - d by omega, Int.mul_sub, Int.mul_sub]
    have e4 : (((P - 1 : Nat) : Int) - S) = (B : Int) := by omega
    rw [e4, Int.mul_comm d] at hl
    show (((P - 1 : Nat) : Int) - S) * ((k : Int) - 2400) - (d * (((P - 1 : Nat) : Int) - S) + wn f P (P - 1)) = _
    rw [e4, Int.mul_comm d]
    omega
  · by_cases cb : (k : Int) - 2400 - d ≤ -(f 0 - wn f P 0)
    · refine ⟨0, by omega, ?_⟩
      have hl := low 0 (by omega) k hk
      obtain ⟨U, hU⟩ : ∃ U : Nat, (U : Int) = f 0 - wn f P 0 := ⟨(f 0 - wn f P 0).toNat, by omega⟩
      obtain ⟨k', hk'⟩ : ∃ k' : Nat, (k' : Int) = 2400 - U + d := ⟨(2400 - (U : Int) + d).toNat, by omega⟩
      have hFk : hlS (hlB h) d k' = h (2400 - U) + U := by
        unfold hlS
        rw [if_pos (by omega), show ((k' : Int) - d).toNat = 2400 - U by omega]
        unfold hlB near
        omega
      obtain ⟨p, hp, hpe⟩ := (hj (2400 - U) (by omega)).2
      have hsu : ∀ j, j + 1 < P → f j - f (j + 1) ≤ (U : Int) := by
        intro j hj1
        have h1 := slope_mono hc j 0 (by omega)
        rw [Nat.zero_add j] at h1
        have h2 := wn_le (f := f) (P := P) (p := 0) (q := 0 + 1) (by omega) (by unfold near; omega)
        omega
      have hsum := sum_l hsu p hp
      have hto1 := hlD_to (f := hlU (hlS (hlB h) d) B) (s := S) (k := k) (d := k' - k) (by omega)
      rw [show k + (k' - k) = k' by omega] at hto1
      have hto2 := hlU_to (f := hlS (hlB h) d) (b := B) 0 k'
      rw [Nat.add_zero, Nat.mul_zero, hFk] at hto2
      have e1 : ((p : Int) - S) * (((2400 - U : Nat) : Int) - 2400) = (S : Int) * U - p * U := by rw [show ((2400 - U : Nat) : Int) - 2400 = -(U : Int) by omega, Int.mul_neg, Int.sub_mul]; omega
      rw [e1] at hpe
      have e3 : ((S * (k' - k) : Nat) : Int) = (S : Int) * d - S * U - S * ((k : Int) - 2400) := by
        rw [Int.natCast_mul, show ((k' - k : Nat) : Int) = d - U - ((k : Int) - 2400) by omega, Int.mul_sub, Int.mul_sub]
      have e4 : (((0 : Nat) : Int) - S) = -(S : Int) := by omega
      rw [e4, Int.neg_mul, Int.mul_neg, Int.mul_comm d] at hl
      show (((0 : Nat) : Int) - S) * ((k : Int) - 2400) - (d * (((0 : Nat) : Int) - S) + wn f P 0) = _
      rw [e4, Int.neg_mul, Int.mul_neg, Int.mul_comm d]
      omega
    · -- between
      obtain ⟨k', hk'⟩ : ∃ k' : Nat, (k' : Int) = (k : Int) - d := ⟨((k : Int) - d).toNat, by omega⟩
      have hFk : (hlS (hlB h) d k : Int) = (h k' : Int) + (near 2400 k' : Int) := by
        unfold hlS
        rw [if_pos (by omega), show ((k : Int) - d).toNat = k' by omega]
        unfold hlB
        omega
      have hto2 := hlU_to (f := hlS (hlB h) d) (b := B) 0 k
      rw [Nat.add_zero, Nat.mul_zero] at hto2
      rw [near_i k'] at hFk
      obtain ⟨p, hp, hpe⟩ := (hj k' (by omega)).2
      have ek : (k' : Int) - 2400 = (k : Int) - 2400 - d := by omega
      -- the price that meets it
      have key : ∃ q : Nat, q < P ∧ near p q ≤ 1 ∧ ((q : Int) - S) * ((k' : Int) - 2400) - f p = (h k' : Int) + (if (2400 : Int) ≤ k' then (k' : Int) - 2400 else 2400 - (k' : Int)) := by
        have eadd : (((p + 1 : Nat) : Int) - S) * ((k' : Int) - 2400) = ((p : Int) - S) * ((k' : Int) - 2400) + ((k' : Int) - 2400) := by rw [show ((p + 1 : Nat) : Int) - S = ((p : Int) - S) + 1 by omega, Int.add_mul, Int.one_mul]
        by_cases hge : (2400 : Int) ≤ k'
        · rw [if_pos hge]
          by_cases hpl : p + 1 < P
          · exact ⟨p + 1, hpl, by unfold near; omega, by rw [eadd]; omega⟩
          · exfalso
            have hpP : p = P - 1 := by omega
            have hl2 := (hj k' (by omega)).1
            subst hpP
            -- the window of the last price gives more
            have h1 := hl2 z1 z2
            unfold near at z3
            rcases (by omega : z1 = P - 1 ∨ (1 ≤ P - 1 ∧ z1 + 1 = P - 1)) with e | ⟨e0, e⟩
            · rw [e] at z4; omega
            · have e5 : (((P - 1 : Nat) : Int) - S) * ((k' : Int) - 2400) = ((z1 : Int) - S) * ((k' : Int) - 2400) + ((k' : Int) - 2400) := by rw [show ((P - 1 : Nat) : Int) - S = ((z1 : Int) - S) + 1 by omega, Int.add_mul, Int.one_mul]
              omega
        · rw [if_neg hge]
          by_cases hp0 : 1 ≤ p
          · refine ⟨p - 1, by omega, by unfold near; omega, ?_⟩
            have e5 : ((p : Int) - S) * ((k' : Int) - 2400) = (((p - 1 : Nat) : Int) - S) * ((k' : Int) - 2400) + ((k' : Int) - 2400) := by rw [show (p : Int) - S = (((p - 1 : Nat) : Int) - S) + 1 by omega, Int.add_mul, Int.one_mul]
            omega
          · exfalso
            have hp00 : p = 0 := by omega
            subst hp00
            have h1 := (hj k' (by omega)).1 y1 y2
            unfold near at y3
            rcases (by omega : y1 = 0 ∨ y1 = 0 + 1) with e | e
            · rw [e] at y4; omega
            · rw [e] at h1 y4
              rw [eadd] at h1
              omega
      obtain ⟨q, hq, hqn, hqe⟩ := key
      refine ⟨q, hq, ?_⟩
      have hl := low q hq k hk
      have hwq := wn_le (f := f) (P := P) (p := q) (q := p) hp (by rw [near_sym]; exact hqn)
      have e6 : ((q : Int) - S) * ((k : Int) - 2400) = ((q : Int) - S) * ((k' : Int) - 2400) + d * ((q : Int) - S) := by rw [show (k : Int) - 2400 = ((k' : Int) - 2400) + d by omega, Int.mul_add, Int.mul_comm d]
      rw [e6] at hl
      show ((q : Int) - S) * ((k : Int) - 2400) - (d * ((q : Int) - S) + wn f P q) = _
      rw [e6]
      omega
theorem cj_0 {S B P : Nat} {d : Int} (hP : P = S + B + 1) (hS : S ≤ 99) (hB : B ≤ 99) (hd1 : -99 ≤ d) (hd2 : d ≤ 99) : cj S P (fun p => d * ((p : Int) - S)) (hlD (hlU (hlS (hlB hl0) d) B) S) := by
  have low : ∀ p, p < P → ∀ k : Nat, k ≤ 4800 → ((p : Int) - S) * ((k : Int) - 2400) - d * ((p : Int) - S) ≤ (hlD (hlU (hlS (hlB hl0) d) B) S k : Int) := by
    intro p hp
    refine relax_low (by omega) (by omega) (fun k hk => ?_)
    have b1 := mulb (x := (p : Int) - S) (y := (k : Int) - 2400) (a := 200) (b := 2400) (by omega) (by omega) (by omega) (by omega)
    have b2 := mulb (x := d) (y := (p : Int) - S) (a := 99) (b := 200) (by omega) (by omega) (by omega) (by omega)
    unfold hlS
    split
    · rename_i hr
      unfold hlB hl0
      by_cases he : ((k : Int) - d).toNat = 2400
      · have e1 : (k : Int) - 2400 = d := by omega
        rw [e1, Int.mul_comm d]
        have : (0 : Int) ≤ (((if ((k : Int) - d).toNat = 2400 then 0 else 100000000) + near 2400 ((k : Int) - d).toNat : Nat) : Int) := Int.natCast_nonneg _
        omega
      · rw [if_neg he]; omega
    · omega
  intro k hk
  refine ⟨fun p hp => low p hp k hk, ?_⟩
  obtain ⟨k', hk'⟩ : ∃ k' : Nat, (k' : Int) = 2400 + d := ⟨(2400 + d).toNat, by omega⟩
  have hFk : hlS (hlB hl0) d k' = 0 := by
    unfold hlS
    rw [if_pos (by omega), show ((k' : Int) - d).toNat = 2400 by omega]
    decide
  by_cases hge : k' ≤ k
  · refine ⟨P - 1, by omega, ?_⟩
    have hl := low (P - 1) (by omega) k hk
    have hto := hlU_to (f := hlS (hlB hl0) d) (b := B) (k - k') k'
    rw [show k' + (k - k') = k by omega, hFk] at hto
    have hle0 := hlD_to (f := hlU (hlS (hlB hl0) d) B) (s := S) (k := k) (d := 0) (by omega)
    rw [Nat.add_zero, Nat.mul_zero] at hle0
    have e3 : ((B * (k - k') : Nat) : Int) = (B : Int) * ((k : Int) - 2400) - B * d := by
      rw [Int.natCast_mul, show ((k - k' : Nat) : Int) = ((k : Int) - 2400) - d by omega, Int.mul_sub]
    have e4 : (((P - 1 : Nat) : Int) - S) = (B : Int) := by omega
    rw [e4, Int.mul_comm d] at hl
    show (((P - 1 : Nat) : Int) - S) * ((k : Int) - 2400) - d * (((P - 1 : Nat) : Int) - S) = _
    rw [e4, Int.mul_comm d]
    omega
  · refine ⟨0, by omega, ?_⟩
    have hl := low 0 (by omega) k hk
    have hto1 := hlD_to (f := hlU (hlS (hlB hl0) d) B) (s := S) (k := k) (d := k' - k) (by omega)
    rw [show k + (k' - k) = k' by omega] at hto1
    have hto2 := hlU_to (f := hlS (hlB hl0) d) (b := B) 0 k'
    rw [Nat.add_zero, Nat.mul_zero, hFk] at hto2
    have e3 : ((S * (k' - k) : Nat) : Int) = (S : Int) * d - S * ((k : Int) - 2400) := by
      rw [Int.natCast_mul, show ((k' - k : Nat) : Int) = d - ((k : Int) - 2400) by omega, Int.mul_sub]
    have e4 : (((0 : Nat) : Int) - S) = -(S : Int) := by omega
    rw [e4, Int.neg_mul, Int.mul_neg, Int.mul_comm d] at hl
    show (((0 : Nat) : Int) - S) * ((k : Int) - 2400) - d * (((0 : Nat) : Int) - S) = _
    rw [e4, Int.neg_mul, Int.mul_neg, Int.mul_comm d]
    omega
