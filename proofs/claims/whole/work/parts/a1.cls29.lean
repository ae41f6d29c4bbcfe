/-! ===== the haul and its prices ===== -/
def wn (f : Nat → Int) (P p : Nat) : Int := min (f p) (min (if p + 1 < P then f (p + 1) else f p) (if 1 ≤ p then f (p - 1) else f p))
theorem wn_le {f : Nat → Int} {P p q : Nat} (hq : q < P) (hn : near p q ≤ 1) : wn f P p ≤ f q := by
  unfold near at hn
  unfold wn
  rcases (by omega : q = p ∨ q = p + 1 ∨ (1 ≤ p ∧ q = p - 1)) with rfl | rfl | ⟨h1, rfl⟩
  · omega
  · rw [if_pos hq]; omega
  · rw [if_pos h1]; omega
theorem wn_ex {f : Nat → Int} {P p : Nat} (hp : p < P) : ∃ q, q < P ∧ near p q ≤ 1 ∧ wn f P p = f q := by
  unfold wn near
  rcases (by omega : min (f p) (min (if p + 1 < P then f (p + 1) else f p) (if 1 ≤ p then f (p - 1) else f p)) = f p ∨ min (f p) (min (if p + 1 < P then f (p + 1) else f p) (if 1 ≤ p then f (p - 1) else f p)) = (if p + 1 < P then f (p + 1) else f p) ∨ min (f p) (min (if p + 1 < P then f (p + 1) else f p) (if 1 ≤ p then f (p - 1) else f p)) = (if 1 ≤ p then f (p - 1) else f p)) with h | h | h
  · exact ⟨p, hp, by omega, h⟩
  · by_cases hc : p + 1 < P
    · rw [if_pos hc] at h; exact ⟨p + 1, hc, by omega, by rw [if_pos hc]; exact h⟩
    · rw [if_neg hc] at h; exact ⟨p, hp, by omega, by rw [if_neg hc]; exact h⟩
  · by_cases hc : 1 ≤ p
    · rw [if_pos hc] at h; exact ⟨p - 1, by omega, by omega, by rw [if_pos hc]; exact h⟩
    · rw [if_neg hc] at h; exact ⟨p, hp, by omega, by rw [if_neg hc]; exact h⟩
theorem wn_cl {f : Nat → Int} {P p : Nat} (hc : cvx f P) (hp : p < P) : f (cl (fbF f P) 1 p) = wn f P p := by
  have h := cl_fst (sl := 1) (by omega) hc hp
  obtain ⟨q, q1, q2, q3⟩ := wn_ex (f := f) hp
  have h1 := (h.2 q ⟨q1, q2⟩).1
  have h2 := wn_le (f := f) h.1.1 h.1.2
  omega
/-- prices from the first chain on -/
def lpF (C : Nat → Nat → Int) (P : Nat) : Nat → Nat → Int
  | 0, p => C 0 p
  | c + 1, p => C (c + 1) p + wn (lpF C P c) P p
theorem cvx_cong {f h : Nat → Int} {P : Nat} (e : ∀ p, p < P → f p = h p) (hf : cvx f P) : cvx h P := by
  intro p hp
  rw [← e p (by omega), ← e (p + 1) (by omega), ← e (p + 2) (by omega)]
  exact hf p hp
theorem cvx_wn {f : Nat → Int} {P : Nat} (hP : 1 ≤ P) (hc : cvx f P) : cvx (wn f P) P := cvx_cong (fun p hp => wn_cl hc hp) (cvx_cl (sl := 1) hP hc)
theorem lpF_cvx {C : Nat → Nat → Int} {P n : Nat} (hP : 1 ≤ P) (hC : ∀ c, c < n → cvx (C c) P) : ∀ c, c < n → cvx (lpF C P c) P
  | 0, h => hC 0 h
  | c + 1, h => cvx_add (hC (c + 1) h) (cvx_wn hP (lpF_cvx hP hC c (by omega)))
theorem dpF_wn {C : Nat → Nat → Int} {P n i p : Nat} (hP : 1 ≤ P) (hC : ∀ c, c < n → cvx (C c) P) (hi : i + 1 < n) (hp : p < P) : dpF C P 1 n (i + 1) p = C (n - 1 - (i + 1)) p + wn (dpF C P 1 n i) P p := by
  show C (n - 1 - (i + 1)) p + dpF C P 1 n i (cl (fbF (dpF C P 1 n i) P) 1 p) = _
  rw [wn_cl (dpF_cvx hP hC i (by omega)) hp]
/-- v is the least of the first P -/
def isMn (f : Nat → Int) (P : Nat) (v : Int) : Prop := (∃ p, p < P ∧ f p = v) ∧ ∀ p, p < P → v ≤ f p
theorem isMn_fb {f : Nat → Int} {P : Nat} (hP : 1 ≤ P) : isMn f P (f (fbF f P)) := ⟨⟨_, fb_lt hP, rfl⟩, fun p hp => (fbF_min f P p hp).1⟩
theorem near_sym {p q : Nat} : near p q = near q p := by unfold near; omega
theorem swap_mn {f h : Nat → Int} {P : Nat} {v : Int} (hm : isMn (fun p => f p + wn h P p) P v) : isMn (fun p => wn f P p + h p) P v := by
  obtain ⟨⟨p, hp, hpv⟩, hle⟩ := hm
  obtain ⟨q, q1, q2, q3⟩ := wn_ex (f := h) hp
  have hpv' : f p + wn h P p = v := hpv
  have low : ∀ r, r < P → v ≤ wn f P r + h r := by
    intro r hr
    obtain ⟨s, s1, s2, s3⟩ := wn_ex (f := f) hr
    have h1 : v ≤ f s + wn h P s := hle s s1
    have h2 := wn_le (f := h) (p := s) hr (by rw [near_sym]; exact s2)
    omega
  refine ⟨⟨q, q1, ?_⟩, low⟩
  have h1 := wn_le (f := f) (p := q) hp (by rw [near_sym]; exact q2)
  have h2 := low q q1
  show wn f P q + h q = v
  omega
theorem isMn_cong {f h : Nat → Int} {P : Nat} {v : Int} (e : ∀ p, p < P → f p = h p) (hm : isMn f P v) : isMn h P v := by
  obtain ⟨⟨p, hp, hv⟩, hle⟩ := hm
  exact ⟨⟨p, hp, by rw [← e p hp]; exact hv⟩, fun q hq => by rw [← e q hq]; exact hle q hq⟩
/-- the prices may be found from either end -/
theorem lp_dp {C : Nat → Nat → Int} {P n : Nat} {v : Int} (hP : 1 ≤ P) (hC : ∀ c, c < n → cvx (C c) P) (h0 : isMn (dpF C P 1 n (n - 1)) P v) : ∀ c, c < n → isMn (fun p => (if c = 0 then 0 else wn (lpF C P (c - 1)) P p) + dpF C P 1 n (n - 1 - c) p) P v
  | 0, hc => isMn_cong (fun p _ => by rw [if_pos rfl, Int.zero_add]; rfl) h0
  | c + 1, hc => by
    have ih := lp_dp hP hC h0 c (by omega)
    have h1 : isMn (fun p => lpF C P c p + wn (dpF C P 1 n (n - 1 - (c + 1))) P p) P v := by
      refine isMn_cong (fun p hp => ?_) ih
      have e := dpF_wn (i := n - 1 - (c + 1)) hP hC (by omega) hp
      rw [show n - 1 - (c + 1) + 1 = n - 1 - c by omega, show n - 1 - (n - 1 - c) = c by omega] at e
      rw [e]
      cases c with
      | zero => rw [if_pos rfl]; show 0 + (C 0 p + _) = C 0 p + _; omega
      | succ c => rw [if_neg (by omega)]; show wn (lpF C P c) P p + (C (c + 1) p + _) = C (c + 1) p + wn (lpF C P c) P p + _; omega
    refine isMn_cong (fun p _ => ?_) (swap_mn h1)
    rw [if_neg (by omega)]; rfl
theorem lp_end {C : Nat → Nat → Int} {P n : Nat} {v : Int} (hP : 1 ≤ P) (hn : 1 ≤ n) (hC : ∀ c, c < n → cvx (C c) P) (h0 : isMn (dpF C P 1 n (n - 1)) P v) : isMn (lpF C P (n - 1)) P v := by
  refine isMn_cong (fun p hp => ?_) (lp_dp hP hC h0 (n - 1) (by omega))
  rw [Nat.sub_self]
  show _ + C (n - 1) p = _
  cases hm : n - 1 with
  | zero => rw [if_pos rfl]; show 0 + C 0 p = C 0 p; omega
  | succ c => rw [if_neg (by omega)]; show wn (lpF C P c) P p + C (c + 1) p = C (c + 1) p + wn (lpF C P c) P p; omega
/-- h is told by the prices f -/
def cj (S P : Nat) (f : Nat → Int) (h : Nat → Nat) : Prop := ∀ k : Nat, k ≤ 4800 → (∀ p : Nat, p < P → ((p : Int) - S) * ((k : Int) - 2400) - f p ≤ (h k : Int)) ∧ ∃ p : Nat, p < P ∧ ((p : Int) - S) * ((k : Int) - 2400) - f p = (h k : Int)
theorem hlU_to {f : Nat → Nat} {b : Nat} : ∀ d k, hlU f b (k + d) ≤ f k + b * d
  | 0, k => by
    cases k with
    | zero => show f 0 ≤ _; omega
    | succ k => show min (f (k + 1)) (hlU f b k + b) ≤ f (k + 1) + b * 0; omega
  | d + 1, k => by
    have := hlU_to (f := f) (b := b) d k
    show min (f (k + d + 1)) (hlU f b (k + d) + b) ≤ f k + b * (d + 1)
    rw [Nat.mul_add, Nat.mul_one]
    omega
theorem hlN_to {f : Nat → Nat} {s : Nat} : ∀ d i, i + d ≤ 4800 → hlN f s (i + d) ≤ f (4800 - i) + s * d
  | 0, i, _ => by
    cases i with
    | zero => show f 4800 ≤ _; simp
    | succ i => show min (f (4800 - (i + 1))) (hlN f s i + s) ≤ f (4800 - (i + 1)) + s * 0; omega
  | d + 1, i, h => by
    have := hlN_to (f := f) (s := s) d i (by omega)
    show min (f (4800 - (i + d + 1))) (hlN f s (i + d) + s) ≤ f (4800 - i) + s * (d + 1)
    rw [Nat.mul_add, Nat.mul_one]
    omega
theorem hlD_to {f : Nat → Nat} {s k d : Nat} (h : k + d ≤ 4800) : hlD f s k ≤ f (k + d) + s * d := by
  have := hlN_to (f := f) (s := s) d (4800 - (k + d)) (by omega)
  rw [show 4800 - (k + d) + d = 4800 - k by omega, show 4800 - (4800 - (k + d)) = k + d by omega] at this
  exact this
/-- what lies below lies below behind borrowing and spoiling -/
theorem relax_low {f : Nat → Nat} {b s : Nat} {q w : Int} (hq1 : q ≤ b) (hq2 : -(s : Int) ≤ q) (hf : ∀ k : Nat, k ≤ 4800 → q * ((k : Int) - 2400) - w ≤ (f k : Int)) : ∀ k : Nat, k ≤ 4800 → q * ((k : Int) - 2400) - w ≤ (hlD (hlU f b) s k : Int) := by
  have e : ∀ k : Nat, q * (((k + 1 : Nat) : Int) - 2400) = q * ((k : Int) - 2400) + q := fun k => by rw [show ((k + 1 : Nat) : Int) - 2400 = ((k : Int) - 2400) + 1 by omega, Int.mul_add, Int.mul_one]
  have hU : ∀ k : Nat, k ≤ 4800 → q * ((k : Int) - 2400) - w ≤ (hlU f b k : Int) := by
    intro k
    induction k with
    | zero => intro h; exact hf 0 h
    | succ k ih =>
      intro h
      have h1 := ih (by omega)
      have h2 := hf (k + 1) h
      have h3 := e k
      show _ ≤ ((min (f (k + 1)) (hlU f b k + b) : Nat) : Int)
      omega
  have hN : ∀ i : Nat, i ≤ 4800 → q * (((4800 - i : Nat) : Int) - 2400) - w ≤ (hlN (hlU f b) s i : Int) := by
    intro i
    induction i with
    | zero => intro _; exact hU 4800 (by omega)
    | succ i ih =>
      intro h
      have h1 := ih (by omega)
      have h2 := hU (4800 - (i + 1)) (by omega)
      have h3 := e (4800 - (i + 1))
      rw [show 4800 - (i + 1) + 1 = 4800 - i by omega] at h3
      show _ ≤ ((min (hlU f b (4800 - (i + 1))) (hlN (hlU f b) s i + s) : Nat) : Int)
      omega
  intro k hk
  have := hN (4800 - k) (by omega)
  rw [show 4800 - (4800 - k) = k by omega] at this
  exact this
