/-! ===== what the calls answer and do, over the row g (the reference's order of places) ===== -/
/-- the number that stands at i -/
def vN (g : Nat → Int32) (i : Nat) : Nat := (g i).toInt.toNat
def ix (x : Int32) : Nat := x.toNatClampNeg
theorem ix_nI {k : Nat} (h : k < 2147483648) : ix (nI k) = k := nI_clamp h
/-- between lo and hi -/
def rg (x : Int32) (lo hi : Int) : Prop := lo ≤ x.toInt ∧ x.toInt ≤ hi
theorem rg_nI {g : Nat → Int32} {i : Nat} {lo hi : Int} (h : rg (g i) lo hi) (h0 : 0 ≤ lo) (h1 : hi ≤ 2147483647) : g i = nI (vN g i) := by
  apply Int32.toInt_inj.mp
  unfold vN
  obtain ⟨a, b⟩ := h
  rw [nI_toInt (by omega)]
  omega
theorem rg_le {g : Nat → Int32} {i : Nat} {lo hi : Int} (h : rg (g i) lo hi) (h0 : 0 ≤ lo) : lo ≤ (vN g i : Int) ∧ (vN g i : Int) ≤ hi := by
  unfold vN
  obtain ⟨a, b⟩ := h
  omega
theorem rg_int {x : Int32} {lo hi : Int} (h : rg x lo hi) : lo ≤ x.toInt ∧ x.toInt ≤ hi := h
theorem z_chain {x : Int32} {n : Nat} (h : zin x 0 ((n : Int) - 1) = true) : ∃ c, c < n ∧ x = nI c := by
  obtain ⟨a, b⟩ := zin_t h
  exact z_of a (by omega)
theorem z_num {x : Int32} {hi : Int} (n : Nat) (h : zin x 0 hi = true) (hn : hi < n) : ∃ c : Nat, c < n ∧ (c : Int) ≤ hi ∧ x = nI c := by
  obtain ⟨a, b⟩ := zin_t h
  have hr := fb_rng0 x
  refine ⟨x.toInt.toNat, by omega, by omega, Int32.toInt_inj.mp ?_⟩
  rw [nI_toInt (by omega)]
  omega
/-- how many k < n have p -/
def zct (p : Nat → Bool) : Nat → Nat
  | 0 => 0
  | n + 1 => zct p n + if p n = true then 1 else 0
theorem zct_t {p : Nat → Bool} {k : Nat} (h : p k = true) : zct p k + 1 = zct p (k + 1) := by simp [zct, h]
theorem zct_f {p : Nat → Bool} {k : Nat} (h : p k = false) : zct p k + 0 = zct p (k + 1) := by simp [zct, h]
theorem zct_le (p : Nat → Bool) : ∀ n, zct p n ≤ n
  | 0 => Nat.le_refl 0
  | n + 1 => by have := zct_le p n; unfold zct; split <;> omega
theorem zct_cong {p q : Nat → Bool} : ∀ {n : Nat}, (∀ k, k < n → p k = q k) → zct p n = zct q n
  | 0, _ => rfl
  | n + 1, h => by unfold zct; rw [zct_cong (fun k hk => h k (by omega)), h n (by omega)]
theorem zct_pos {p : Nat → Bool} : ∀ {n : Nat}, 0 < zct p n ↔ ∃ k, k < n ∧ p k = true
  | 0 => ⟨fun h => absurd h (Nat.lt_irrefl 0), fun ⟨k, h, _⟩ => absurd h (by omega)⟩
  | n + 1 => by
    have ih := zct_pos (p := p) (n := n)
    unfold zct
    constructor
    · intro h
      by_cases hp : p n = true
      · exact ⟨n, by omega, hp⟩
      · rw [if_neg hp] at h
        obtain ⟨k, h1, h2⟩ := ih.mp (by omega)
        exact ⟨k, by omega, h2⟩
    · rintro ⟨k, h1, h2⟩
      by_cases hk : k = n
      · subst hk; rw [if_pos h2]; omega
      · have := ih.mpr ⟨k, by omega, h2⟩
        omega
/-- the line -/
theorem z_line : True := trivial
def gBegin (g : Nat → Int32) (n : Nat) : Nat → Int32 := fun i => if i = 0 then nI n else if 20 ≤ i ∧ i < 20 + 4 * n then (if (i - 20) % 4 = 0 then nI 50 else if (i - 20) % 4 = 1 then nI 50 else if (i - 20) % 4 = 2 then nI 0 else -1) else g i
def f_chains (g : Nat → Int32) (n : Int32) : Int32 × (Nat → Int32) := if zin n 2 24 = true then (if (g 1).toInt ≤ 0 then (g 0, gBegin g (ix n)) else (-1000000002, g)) else (-1000000001, g)
def f_set (g : Nat → Int32) (x y v : Int32) : Int32 × (Nat → Int32) := if zin x 0 ((vN g 0 : Int) - 1) = true ∧ zin y 0 2 = true ∧ zin v 0 (if y = nI 2 then 3 else 99) = true then (g (20 + 4 * ix x + ix y), upd g (20 + 4 * ix x + ix y) v) else (-1000000001, g)
def f_bore (g : Nat → Int32) (x : Int32) : Int32 × (Nat → Int32) := if zin x 0 ((vN g 0 : Int) - 1) = true then (g (20 + 4 * ix x + 2), upd g (20 + 4 * ix x + 3) (g (20 + 4 * ix x + 2))) else (-1000000001, g)
/-- works at a chain, all (kind below 0) or of a kind itself -/
def g_at (g : Nat → Int32) (x kind : Int32) (w : Nat) : Bool := decide (g (120 + 10 * w + 1) = x ∧ (kind < 0 ∨ g (120 + 10 * w) = kind))
def f_at (g : Nat → Int32) (x y : Int32) : Int32 :=
  if zin x 0 ((vN g 0 : Int) - 1) = true then
    (if y = nI 0 then g (20 + 4 * ix x) else if y = nI 1 then g (20 + 4 * ix x + 1) else if y = nI 2 then (if (g (20 + 4 * ix x + 3)).toInt < 0 then -1000000005 else g (20 + 4 * ix x + 2)) else if y = nI 3 then g (20 + 4 * ix x) - g (21 + 4 * ix x)
     else if y = nI 4 then nI (zct (g_at g x (-1)) (vN g 1)) else if y = nI 5 then (if 0 < zct (g_at g x (nI 5)) (vN g 1) then nI 1 else nI 0) else -1000000001)
  else -1000000001
def mostOf (k : Nat) : Int := if k < 3 then 9 else if k < 5 then 99 else 1999
def f_rule (g : Nat → Int32) (x v : Int32) : Int32 × (Nat → Int32) := if zin x 0 5 = true ∧ zin v 0 (mostOf (ix x)) = true then (g (11 + ix x), upd g (11 + ix x) v) else (-1000000001, g)
/-- whether the chains c and c + 1 make the line steep -/
def g_steep (g : Nat → Int32) (c : Nat) : Bool := decide ((g 11).toInt < if (g (25 + 4 * c) - g (21 + 4 * c)).toInt < 0 then (-(g (25 + 4 * c) - g (21 + 4 * c))).toInt else (g (25 + 4 * c) - g (21 + 4 * c)).toInt)
def f_steep (g : Nat → Int32) : Int32 := nI (zct (g_steep g) (vN g 0 - 1))
/-- the reference's own constants -/
def RfC (I : zI) : Prop := (∀ j, j < 4 → I q_cutRate j = nI ([1, 3, 2, 3].getD j 0)) ∧ (∀ j, j < 4 → I q_stands j = nI ([99, 20, 8, 12].getD j 0)) ∧ (∀ j, j < 6 → I q_mostOf j = nI ([9, 9, 9, 99, 99, 1999].getD j 0))
theorem mostOf_eq {j : Nat} (h : j < 6) : (nI ([9, 9, 9, 99, 99, 1999].getD j 0)).toInt = mostOf j := by
  rcases (by omega : j = 0 ∨ j = 1 ∨ j = 2 ∨ j = 3 ∨ j = 4 ∨ j = 5) with rfl | rfl | rfl | rfl | rfl | rfl <;> decide
