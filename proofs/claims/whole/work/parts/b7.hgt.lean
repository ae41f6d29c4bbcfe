/-! ===== heights of a text's steps ===== -/
def hg (key : Nat) : List CD → Nat → Nat → Prop
  | [], a, b => a = b
  | x :: r, a, b => ∃ c, stepH key x.1 x.2 a c ∧ hg key r c b
theorem hg_app {key : Nat} : ∀ {p q : List CD} {a b c : Nat}, hg key p a b → hg key q b c → hg key (p ++ q) a c
  | [], q, a, b, c, h1, h2 => by cases h1; exact h2
  | x :: r, q, a, b, c, ⟨m, s, h⟩, h2 => ⟨m, s, hg_app h h2⟩
theorem hg_H {key : Nat} : ∀ {cd : List CD} {a b : Nat}, hg key cd a b → ∃ H : Nat → Nat, H 0 = a ∧ H cd.length = b ∧ ∀ k x, cd[k]? = some x → stepH key x.1 x.2 (H k) (H (k + 1))
  | [], a, b, h => ⟨fun _ => a, rfl, h, fun k x e => by cases e⟩
  | y :: r, a, b, ⟨c, s, h⟩ => by
    obtain ⟨H, h0, h1, h2⟩ := hg_H h
    refine ⟨fun k => match k with | 0 => a | k + 1 => H k, rfl, h1, fun k x e => ?_⟩
    cases k with
    | zero =>
      have hx : y = x := by simpa using e
      subst hx
      show stepH key y.1 y.2 a (H 0)
      rw [h0]; exact s
    | succ k => exact h2 k x (by simpa using e)
