/-! ===== what always holds of g ===== -/
def workOK (g : Nat → Int32) (w : Nat) : Prop :=
  rg (g (120 + 10 * w)) 0 6 ∧ rg (g (120 + 10 * w + 1)) 0 ((vN g 0 : Int) - 1) ∧ rg (g (120 + 10 * w + 2)) 1 9999 ∧ rg (g (120 + 10 * w + 3)) 0 (g (120 + 10 * w + 2)).toInt ∧ rg (g (120 + 10 * w + 4)) (-1) ((vN g 2 : Int) - 1) ∧
  rg (g (120 + 10 * w + 5)) 0 16777215 ∧ rg (g (120 + 10 * w + 6)) 1 99 ∧ rg (g (120 + 10 * w + 7)) 0 9999 ∧ rg (g (120 + 10 * w + 8)) 0 9999 ∧ rg (g (120 + 10 * w + 9)) 0 9999
def chainOK (g : Nat → Int32) (c : Nat) : Prop := rg (g (20 + 4 * c)) 0 99 ∧ rg (g (20 + 4 * c + 1)) 0 99 ∧ rg (g (20 + 4 * c + 2)) 0 3 ∧ rg (g (20 + 4 * c + 3)) (-1) 3
def InvB (g : Nat → Int32) : Prop :=
  (rg (g 0) 2 24 ∧ rg (g 1) 0 24 ∧ rg (g 2) 0 8 ∧ rg (g 3) 0 14 ∧ rg (g 4) 0 20 ∧ rg (g 5) 0 20 ∧ rg (g 6) 0 6 ∧ rg (g 7) 0 8 ∧ rg (g 8) 0 2100) ∧
  (∀ k, k < 6 → rg (g (11 + k)) 0 (mostOf k)) ∧ (∀ c, c < vN g 0 → chainOK g c) ∧ (∀ w, w < vN g 1 → workOK g w) ∧
  (∀ k, k < vN g 2 → rg (g (360 + 2 * k)) 1 99 ∧ rg (g (360 + 2 * k + 1)) (-1) ((vN g 1 : Int) - 1)) ∧
  (∀ w k, w < vN g 1 → k < vN g 2 → (g (360 + 2 * k + 1) = nI w ↔ g (120 + 10 * w + 4) = nI k)) ∧
  (∀ k, k < vN g 4 → rg (g (380 + 3 * k)) 0 1999 ∧ rg (g (380 + 3 * k + 1)) 0 1999 ∧ rg (g (380 + 3 * k + 2)) 0 3) ∧
  (∀ k, k < vN g 5 → rg (g (440 + 2 * k)) 0 1999) ∧ (∀ k, k < vN g 6 → rg (g (480 + 2 * k)) 0 1999 ∧ rg (g (480 + 2 * k + 1)) 1 99) ∧
  (∀ k, k < vN g 7 → rg (g (495 + k)) 1 9) ∧ (∀ k, k < 2000 → rg (g (510 + k)) 0 9)
section
variable {g : Nat → Int32} (h : InvB g)
theorem iv0 (h : InvB g) : g 0 = nI (vN g 0) ∧ 2 ≤ vN g 0 ∧ vN g 0 ≤ 24 := ⟨rg_nI h.1.1 (by omega) (by omega), by have := rg_le h.1.1 (by omega); omega, by have := rg_le h.1.1 (by omega); omega⟩
theorem iv1 (h : InvB g) : g 1 = nI (vN g 1) ∧ vN g 1 ≤ 24 := ⟨rg_nI h.1.2.1 (by omega) (by omega), by have := rg_le h.1.2.1 (by omega); omega⟩
theorem iv2 (h : InvB g) : g 2 = nI (vN g 2) ∧ vN g 2 ≤ 8 := ⟨rg_nI h.1.2.2.1 (by omega) (by omega), by have := rg_le h.1.2.2.1 (by omega); omega⟩
theorem iv3 (h : InvB g) : g 3 = nI (vN g 3) ∧ vN g 3 ≤ 14 := ⟨rg_nI h.1.2.2.2.1 (by omega) (by omega), by have := rg_le h.1.2.2.2.1 (by omega); omega⟩
theorem iv4 (h : InvB g) : g 4 = nI (vN g 4) ∧ vN g 4 ≤ 20 := ⟨rg_nI h.1.2.2.2.2.1 (by omega) (by omega), by have := rg_le h.1.2.2.2.2.1 (by omega); omega⟩
theorem iv5 (h : InvB g) : g 5 = nI (vN g 5) ∧ vN g 5 ≤ 20 := ⟨rg_nI h.1.2.2.2.2.2.1 (by omega) (by omega), by have := rg_le h.1.2.2.2.2.2.1 (by omega); omega⟩
theorem iv6 (h : InvB g) : g 6 = nI (vN g 6) ∧ vN g 6 ≤ 6 := ⟨rg_nI h.1.2.2.2.2.2.2.1 (by omega) (by omega), by have := rg_le h.1.2.2.2.2.2.2.1 (by omega); omega⟩
theorem iv7 (h : InvB g) : g 7 = nI (vN g 7) ∧ vN g 7 ≤ 8 := ⟨rg_nI h.1.2.2.2.2.2.2.2.1 (by omega) (by omega), by have := rg_le h.1.2.2.2.2.2.2.2.1 (by omega); omega⟩
theorem iv8 (h : InvB g) : g 8 = nI (vN g 8) ∧ vN g 8 ≤ 2100 := ⟨rg_nI h.1.2.2.2.2.2.2.2.2 (by omega) (by omega), by have := rg_le h.1.2.2.2.2.2.2.2.2 (by omega); omega⟩
theorem ivC (h : InvB g) {c : Nat} (hc : c < vN g 0) : chainOK g c := h.2.2.1 c hc
theorem ivW (h : InvB g) {w : Nat} (hw : w < vN g 1) : workOK g w := h.2.2.2.1 w hw
theorem ivG (h : InvB g) {k : Nat} (hk : k < vN g 2) : rg (g (360 + 2 * k)) 1 99 ∧ rg (g (360 + 2 * k + 1)) (-1) ((vN g 1 : Int) - 1) := h.2.2.2.2.1 k hk
theorem ivGW (h : InvB g) {w k : Nat} (hw : w < vN g 1) (hk : k < vN g 2) : g (360 + 2 * k + 1) = nI w ↔ g (120 + 10 * w + 4) = nI k := h.2.2.2.2.2.1 w k hw hk
theorem ivCl (h : InvB g) {k : Nat} (hk : k < vN g 4) : rg (g (380 + 3 * k)) 0 1999 ∧ rg (g (380 + 3 * k + 1)) 0 1999 ∧ rg (g (380 + 3 * k + 2)) 0 3 := h.2.2.2.2.2.2.1 k hk
theorem ivD (h : InvB g) {k : Nat} (hk : k < vN g 5) : rg (g (440 + 2 * k)) 0 1999 := h.2.2.2.2.2.2.2.1 k hk
theorem ivF (h : InvB g) {k : Nat} (hk : k < vN g 6) : rg (g (480 + 2 * k)) 0 1999 ∧ rg (g (480 + 2 * k + 1)) 1 99 := h.2.2.2.2.2.2.2.2.1 k hk
theorem ivA (h : InvB g) {k : Nat} (hk : k < vN g 7) : rg (g (495 + k)) 1 9 := h.2.2.2.2.2.2.2.2.2.1 k hk
theorem ivE (h : InvB g) {k : Nat} (hk : k < 2000) : rg (g (510 + k)) 0 9 := h.2.2.2.2.2.2.2.2.2.2 k hk
theorem ivR (h : InvB g) {k : Nat} (hk : k < 6) : rg (g (11 + k)) 0 (mostOf k) := h.2.1 k hk
end
/-! ===== works, gangs, days ===== -/
def cutF (str wet : Int32) : Int32 := if str = nI 2 ∧ 6 < wet.toInt then nI 0 else nI ([1, 3, 2, 3].getD (ix str) 0)
def rateF (kind str wet : Int32) : Int32 := if kind = nI 1 then cutF str wet else if kind = nI 2 then (if wet.toInt ≤ 4 then nI 2 else nI 1) else if kind = nI 3 then (cutF str wet + nI 1) / nI 2 else if kind = nI 4 then (if wet.toInt ≤ 7 then nI 1 else nI 0) else if kind = nI 5 then cutF str wet + nI 1 else if kind = nI 6 then nI 4 else nI 2
def worthF (kind str : Int32) : Int32 := if kind = nI 1 then (if str = nI 0 then nI 10 else nI 5) else if kind = nI 3 then nI 4 * (if str = nI 0 then nI 10 else nI 5) else if kind = nI 4 then nI 9 else if kind = nI 5 then (if str = nI 0 then nI 10 else nI 5) / nI 2 else if kind = nI 6 then nI 2 else nI 5
def minI (x y : Int32) : Int32 := if x.toInt < y.toInt then x else y
def gStr (g : Nat → Int32) (w : Nat) : Int32 := g (20 + 4 * vN g (120 + 10 * w + 1) + 2)
def gRate (g : Nat → Int32) (w : Nat) (wet : Int32) : Int32 := rateF (g (120 + 10 * w)) (gStr g w) wet
def gWorth (g : Nat → Int32) (w : Nat) : Int32 := worthF (g (120 + 10 * w)) (gStr g w)
def gJoin (g : Nat → Int32) (w : Nat) : Int32 := minI (g (120 + 10 * w + 3)) (minI (g (120 + 10 * w + 7)) (g (120 + 10 * w + 8)))
def gWet (g : Nat → Int32) (d : Nat) : Int32 := if d ≤ 1999 then g (510 + d) else nI 0
def gNew (g : Nat → Int32) (kind chain yards : Int32) : Nat → Int32 := fun i => if 120 + 10 * vN g 1 ≤ i ∧ i < 130 + 10 * vN g 1 then (if i = 120 + 10 * vN g 1 then kind else if i = 120 + 10 * vN g 1 + 1 then chain else if i = 120 + 10 * vN g 1 + 2 then yards else if i = 120 + 10 * vN g 1 + 4 then -1 else if i = 120 + 10 * vN g 1 + 6 then nI 1 else nI 0) else if i = 1 then nI (vN g 1 + 1) else g i
def f_work (g : Nat → Int32) (k c y : Int32) : Int32 × (Nat → Int32) := if zin k 0 6 = true ∧ k ≠ nI 5 ∧ zin c 0 ((vN g 0 : Int) - 1) = true ∧ zin y 1 9999 = true then (if vN g 1 = 24 then (-1000000003, g) else (nI (vN g 1), gNew g k c y)) else (-1000000001, g)
def orNone (x : Int32) : Int32 := if x.toInt < 0 then -1000000005 else x
def toldN (g : Nat → Int32) (w : Nat) : Nat → Int32
  | 0 => g (120 + 10 * w)
  | 1 => g (120 + 10 * w + 1)
  | 2 => g (120 + 10 * w + 2)
  | 3 => g (120 + 10 * w + 3)
  | 4 => orNone (g (120 + 10 * w + 4))
  | 5 => g (120 + 10 * w + 5)
  | 6 => g (120 + 10 * w + 6)
  | 7 => gRate g w (gWet g (vN g 8))
  | 8 => gWorth g w
  | 9 => g (120 + 10 * w + 7)
  | 10 => g (120 + 10 * w + 8)
  | 11 => gJoin g w
  | 12 => g (120 + 10 * w + 9)
  | _ => -1000000001
def f_told (g : Nat → Int32) (x y : Int32) : Int32 := if zin x 0 ((vN g 1 : Int) - 1) = true ∧ zin y 0 12 = true then toldN g (ix x) (ix y) else -1000000001
def underF (own kind : Int32) : Bool := decide (kind = nI 0 ∨ kind = own ∨ (kind = nI 1 ∧ (own = nI 3 ∨ own = nI 5)))
def f_as (g : Nat → Int32) (x y : Int32) : Int32 := if zin x 0 ((vN g 1 : Int) - 1) = true ∧ zin y 0 6 = true then (if underF (g (120 + 10 * ix x)) y = true then g (120 + 10 * ix x + 2) else -1000000012) else -1000000001
def f_ahead (g : Nat → Int32) (x v : Int32) : Int32 × (Nat → Int32) := if zin x 0 ((vN g 1 : Int) - 1) = true ∧ zin v 0 16777215 = true then (g (120 + 10 * ix x + 5), upd g (120 + 10 * ix x + 5) v) else (-1000000001, g)
def f_days (g : Nat → Int32) (x v : Int32) : Int32 × (Nat → Int32) := if zin x 0 ((vN g 1 : Int) - 1) = true ∧ zin v 1 99 = true then (g (120 + 10 * ix x + 6), upd g (120 + 10 * ix x + 6) v) else (-1000000001, g)
def gGang (g : Nat → Int32) (v : Int32) : Nat → Int32 := upd (upd (upd g (360 + 2 * vN g 2) v) (360 + 2 * vN g 2 + 1) (-1)) 2 (nI (vN g 2 + 1))
def f_gang (g : Nat → Int32) (v : Int32) : Int32 × (Nat → Int32) := if zin v 1 99 = true then (if vN g 2 = 8 then (-1000000003, g) else (nI (vN g 2), gGang g v)) else (-1000000001, g)
/-- a gang leaves its work -/
def gLeave (g : Nat → Int32) (k : Nat) : Nat → Int32 := if (g (360 + 2 * k + 1)).toInt < 0 then g else upd g (120 + 10 * vN g (360 + 2 * k + 1) + 4) (-1)
def f_goes (g : Nat → Int32) (x y : Int32) : Int32 × (Nat → Int32) :=
  if zin x 0 ((vN g 2 : Int) - 1) = true ∧ (y = -1000000005 ∨ zin y 0 ((vN g 1 : Int) - 1) = true) then
    (if y = -1000000005 then (orNone (g (360 + 2 * ix x + 1)), upd (gLeave g (ix x)) (360 + 2 * ix x + 1) (-1))
     else if (g (120 + 10 * ix y + 4)).toInt < 0 ∨ g (120 + 10 * ix y + 4) = x then (orNone (g (360 + 2 * ix x + 1)), upd (upd (gLeave g (ix x)) (360 + 2 * ix x + 1) y) (120 + 10 * ix y + 4) x)
     else (-1000000002, g))
  else (-1000000001, g)
def f_wet (g : Nat → Int32) (x v : Int32) : Int32 × (Nat → Int32) := if zin x 0 1999 = true ∧ zin v 0 9 = true then (g (510 + ix x), upd g (510 + ix x) v) else (-1000000001, g)
