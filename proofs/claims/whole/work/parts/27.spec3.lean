/-! ===== days ===== -/
def zal (p : Nat → Bool) : Nat → Bool
  | 0 => true
  | n + 1 => zal p n && p n
theorem zal_t {p : Nat → Bool} : ∀ {n : Nat}, zal p n = true ↔ ∀ k, k < n → p k = true
  | 0 => ⟨fun _ k h => absurd h (by omega), fun _ => rfl⟩
  | n + 1 => by
    unfold zal
    rw [Bool.and_eq_true, zal_t]
    constructor
    · rintro ⟨h1, h2⟩ k hk
      by_cases hkn : k = n
      · rw [hkn]; exact h2
      · exact h1 k (by omega)
    · intro h
      exact ⟨fun k hk => h k (by omega), h n (by omega)⟩
/-- a row gone through -/
def zit (f : (Nat → Int32) → Nat → (Nat → Int32)) (g : Nat → Int32) : Nat → (Nat → Int32)
  | 0 => g
  | n + 1 => f (zit f g n) n
def gBit (x : Int32) (j : Nat) : Bool := decide ((x >>> (nI j &&& 31)) &&& nI 1 = nI 1)
def gThr (g : Nat → Int32) (j : Nat) : Bool := decide (j < vN g 1) && decide (g (120 + 10 * j + 3) = g (120 + 10 * j + 2))
def gReady (g : Nat → Int32) (w : Nat) : Bool := zal (fun j => !gBit (g (120 + 10 * w + 5)) j || gThr g j) 24
def gLab (g : Nat → Int32) (k : Nat) : Nat → Int32 := if (g (360 + 2 * k + 1)).toInt < 0 then g else if gReady g (vN g (360 + 2 * k + 1)) = true then upd g (120 + 10 * vN g (360 + 2 * k + 1) + 3) (minI (g (120 + 10 * vN g (360 + 2 * k + 1) + 2)) (g (120 + 10 * vN g (360 + 2 * k + 1) + 3) + g (360 + 2 * k) * gRate g (vN g (360 + 2 * k + 1)) (gWet g (vN g 8)) / nI 10)) else g
def standsF (str : Nat) : Int32 := nI ([99, 20, 8, 12].getD str 0)
def gSlips (g : Nat → Int32) (c : Nat) : Bool := decide (standsF (vN g (20 + 4 * c + 2)) < g (20 + 4 * c) - g (21 + 4 * c)) && decide (zct (g_at g (nI c) (nI 5)) (vN g 1) = 0)
def gBegun (g : Nat → Int32) (c w : Nat) : Bool := decide (g (120 + 10 * w + 1) = nI c ∧ g (120 + 10 * w) = nI 1 ∧ 0 < g (120 + 10 * w + 3))
def gSoak (g : Nat → Int32) (c : Nat) : Bool := decide ((if g (20 + 4 * c + 2) = nI 2 then nI 4 else nI 6) < gWet g (vN g 8))
def gSlip (g : Nat → Int32) (c : Nat) : Nat → Int32 := if 0 < zct (gBegun g c) (vN g 1) ∧ gSoak g c = true ∧ gSlips g c = true ∧ vN g 1 < 24 then gNew g (nI 5) (nI c) (g (20 + 4 * c) - g (21 + 4 * c)) else g
def g_fore (g : Nat → Int32) (c : Nat) : Bool := decide (0 ≤ (g (20 + 4 * c + 3)).toInt) && decide (0 < zct (g_at g (nI c) (nI 1)) (vN g 1)) && gSlips g c
def foreF (g : Nat → Int32) : Nat → Int32
  | 0 => nI 0
  | n + 1 => foreF g n ||| if g_fore g n = true then nI 1 <<< (nI n &&& 31) else nI 0
def f_foretold (g : Nat → Int32) : Int32 := foreF g (vN g 0)
def duesF (g : Nat → Int32) (d : Int32) : Nat → Int32
  | 0 => nI 0
  | n + 1 => duesF g d n + if g (440 + 2 * n) = d then g (440 + 2 * n + 1) else nI 0
/-! ===== texts ===== -/
def joinN : Nat → Int32 → Int32 → Int32
  | 43, x, y => x + y
  | 45, x, y => x - y
  | 42, x, y => x * y
  | 47, x, y => if y = 0 then nI 0 else x / y
  | 60, x, y => if x < y then nI 1 else nI 0
  | 62, x, y => if y < x then nI 1 else nI 0
  | 61, x, y => if x = y then nI 1 else nI 0
  | 38, x, y => if x ≠ 0 ∧ y ≠ 0 then nI 1 else nI 0
  | _, x, y => if x ≠ 0 ∨ y ≠ 0 then nI 1 else nI 0
def joinF (c x y : Int32) : Int32 := joinN (ix c) x y
/-- the signs with two parts -/
def signOK (j : Nat) : Prop := j = 43 ∨ j = 45 ∨ j = 42 ∨ j = 47 ∨ j = 60 ∨ j = 62 ∨ j = 61 ∨ j = 38 ∨ j = 124
/-- the names of a key -/
def nameOK (key j : Nat) : Prop := (key = 0 ∧ (j = 107 ∨ j = 100 ∨ j = 119)) ∨ (key = 1 ∧ (j = 107 ∨ j = 121)) ∨ (key = 2 ∧ j = 110) ∨ (key = 3 ∧ (j = 99 ∨ j = 119))
def nmF (key : Nat) (a b c v : Int32) : Int32 := if key = 0 then (if v = nI 107 then a else if v = nI 100 then b else c) else if key = 1 then (if v = nI 107 then a else b) else if key = 2 then a else (if v = nI 99 then a else b)
def stepF (nm : Int32 → Int32) (what v : Int32) (s : List Int32) : List Int32 := if what = nI 0 then v :: s else if what = nI 1 then nm v :: s else match s with
  | [] => []
  | x :: t => if v = nI 33 then (if x = 0 then nI 1 else nI 0) :: t else match t with
    | [] => []
    | y :: r => joinF v y x :: r
/-- the stack behind k steps of text t -/
def stF (g : Nat → Int32) (t : Nat) (nm : Int32 → Int32) : Nat → List Int32
  | 0 => []
  | k + 1 => stepF nm (g (2520 + 200 * t + 4 + 2 * k)) (g (2520 + 200 * t + 4 + 2 * k + 1)) (stF g t nm k)
def cntF (g : Nat → Int32) (key : Int32) : Nat → Option Nat
  | 0 => none
  | n + 1 => if g (2520 + 200 * n) = key ∧ g (2520 + 200 * n + 1) ≤ g 8 ∧ (∀ b, cntF g key n = some b → g (2520 + 200 * b + 1) ≤ g (2520 + 200 * n + 1)) then some n else cntF g key n
def heldF (v : Int32) (most : Nat) : Int32 := if v < 0 then nI 0 else if nI most < v then nI most else v
def gText (g : Nat → Int32) (t key : Nat) (a b c : Int32) : Int32 := (stF g t (nmF key a b c) (vN g (2520 + 200 * t + 3))).headD 0
def gRule (g : Nat → Int32) (key : Nat) (a b c : Int32) : Int32 :=
  let v := match cntF g (nI key) (vN g 3) with
    | some t => gText g t key a b c
    | none => if key = 0 then c else if key = 1 then nI 10 else if key = 2 then nI 10 * a else if nI 4 < b then nI 1 else nI 0
  if key = 0 then heldF v 999 else if key = 1 then heldF v 100 else if key = 2 then heldF v 99999 else v
/-- a step of a text fits a stack of h numbers: how many stand behind it -/
def stepH (key : Nat) (what v : Int32) (h h2 : Nat) : Prop :=
  (what = nI 0 ∧ h2 = h + 1) ∨ (what = nI 1 ∧ h2 = h + 1 ∧ ∃ j, nameOK key j ∧ v = nI j) ∨
  (what = nI 2 ∧ v = nI 33 ∧ 1 ≤ h ∧ h2 = h) ∨ (what = nI 2 ∧ (∃ j, signOK j ∧ v = nI j) ∧ 2 ≤ h ∧ h2 + 1 = h)
def textOK (g : Nat → Int32) (t : Nat) : Prop := rg (g (2520 + 200 * t)) 0 3 ∧ rg (g (2520 + 200 * t + 1)) 0 1999 ∧ rg (g (2520 + 200 * t + 2)) 0 96 ∧ rg (g (2520 + 200 * t + 3)) 1 96 ∧
  ∃ H : Nat → Nat, H 0 = 0 ∧ H (vN g (2520 + 200 * t + 3)) = 1 ∧ ∀ k, k < vN g (2520 + 200 * t + 3) → stepH (vN g (2520 + 200 * t)) (g (2520 + 200 * t + 4 + 2 * k)) (g (2520 + 200 * t + 4 + 2 * k + 1)) (H k) (H (k + 1))
def InvT (g : Nat → Int32) : Prop := ∀ t, t < vN g 3 → textOK g t
def gPrice (g : Nat → Int32) (w : Nat) : Int32 := gRule g 0 (g (120 + 10 * w)) (g (20 + 4 * vN g (120 + 10 * w + 1)) - g (21 + 4 * vN g (120 + 10 * w + 1))) (gWorth g w)
def gPay (g : Nat → Int32) (w : Nat) : Nat → Int32 :=
  if (gJoin g w - g (120 + 10 * w + 9)).toInt ≤ 0 then g else
    let much := (gJoin g w - g (120 + 10 * w + 9)) * gPrice g w
    let kept := much * gRule g 1 (g (120 + 10 * w)) (g (120 + 10 * w + 2)) (nI 0) / nI 100
    upd (upd (upd g 9 (g 9 - (much - kept))) 10 (g 10 + kept)) (120 + 10 * w + 9) (g (120 + 10 * w + 9) + (gJoin g w - g (120 + 10 * w + 9)))
def gDay1 (g : Nat → Int32) : Nat → Int32 := zit gLab g (vN g 2)
def gDay2 (g : Nat → Int32) : Nat → Int32 := zit gSlip (gDay1 g) (vN g 0)
def gDay3 (g : Nat → Int32) : Nat → Int32 := upd (gDay2 g) 9 (gDay2 g 9 + duesF (gDay2 g) (gDay2 g 8) (vN (gDay2 g) 5))
def gDay4 (g : Nat → Int32) : Nat → Int32 := if (vN g 8 + 1) % 28 = 0 then zit gPay (gDay3 g) (vN (gDay3 g) 1) else gDay3 g
def gDay (g : Nat → Int32) : Nat → Int32 := upd (gDay4 g) 8 (nI (vN g 8 + 1))
def gDays (g : Nat → Int32) : Nat → (Nat → Int32)
  | 0 => g
  | n + 1 => gDay (gDays g n)
def f_run (g : Nat → Int32) (n : Int32) : Int32 × (Nat → Int32) := if zin n 1 60 = true then (if 1999 < vN g 8 + ix n then (-1000000003, g) else (nI (vN g 8 + ix n), gDays g (ix n))) else (-1000000001, g)
