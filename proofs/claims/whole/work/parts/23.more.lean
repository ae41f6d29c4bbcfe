theorem x_wk {l : Launch} {G : zG} {md : zD} {d ac as pc : Nat} {ls ls2 : List (Option Value)} {st : List Value} {Z : zS} {I : zI} {Q : Option Value → zS → zI → Prop} (h : ∀ (i : Nat) (v : Value), ls[i]? = some (some v) → ls2[i]? = some (some v)) (kk : zX l G md d ac as pc ls st Z I Q) : zX l G md d ac as pc ls2 st Z I Q := by
  intro p e R s m args below meth c H locs cells slots lc hc hr hH hS hl
  exact kk p e R s m args below meth c H locs cells slots lc hc hr hH hS ⟨hl.1, hl.2.1, fun i v hi => hl.2.2 i v (h i v hi)⟩
theorem x_fg0 {l : Launch} {G : zG} {md : zD} {d ac as pc : Nat} {st : List Value} {Z : zS} {I : zI} {Q : Option Value → zS → zI → Prop} {b : Option Value} {t : List (Option Value)} (kk : zX l G md d ac as pc (none :: t) st Z I Q) : zX l G md d ac as pc (b :: t) st Z I Q := by
  refine x_wk (fun i v h => ?_) kk
  match i, v, h with
  | 0, v, h => exact absurd h (by simp)
  | i + 1, v, h => exact h
theorem x_fg1 {l : Launch} {G : zG} {md : zD} {d ac as pc : Nat} {st : List Value} {Z : zS} {I : zI} {Q : Option Value → zS → zI → Prop} {a0 : Option Value} {b : Option Value} {t : List (Option Value)} (kk : zX l G md d ac as pc (a0 :: none :: t) st Z I Q) : zX l G md d ac as pc (a0 :: b :: t) st Z I Q := by
  refine x_wk (fun i v h => ?_) kk
  match i, v, h with
  | 0, v, h => exact h
  | 1, v, h => exact absurd h (by simp)
  | i + 2, v, h => exact h
theorem x_fg2 {l : Launch} {G : zG} {md : zD} {d ac as pc : Nat} {st : List Value} {Z : zS} {I : zI} {Q : Option Value → zS → zI → Prop} {a0 a1 : Option Value} {b : Option Value} {t : List (Option Value)} (kk : zX l G md d ac as pc (a0 :: a1 :: none :: t) st Z I Q) : zX l G md d ac as pc (a0 :: a1 :: b :: t) st Z I Q := by
  refine x_wk (fun i v h => ?_) kk
  match i, v, h with
  | 0, v, h => exact h
  | 1, v, h => exact h
  | 2, v, h => exact absurd h (by simp)
  | i + 3, v, h => exact h
theorem x_fg3 {l : Launch} {G : zG} {md : zD} {d ac as pc : Nat} {st : List Value} {Z : zS} {I : zI} {Q : Option Value → zS → zI → Prop} {a0 a1 a2 : Option Value} {b : Option Value} {t : List (Option Value)} (kk : zX l G md d ac as pc (a0 :: a1 :: a2 :: none :: t) st Z I Q) : zX l G md d ac as pc (a0 :: a1 :: a2 :: b :: t) st Z I Q := by
  refine x_wk (fun i v h => ?_) kk
  match i, v, h with
  | 0, v, h => exact h
  | 1, v, h => exact h
  | 2, v, h => exact h
  | 3, v, h => exact absurd h (by simp)
  | i + 4, v, h => exact h
theorem x_fg4 {l : Launch} {G : zG} {md : zD} {d ac as pc : Nat} {st : List Value} {Z : zS} {I : zI} {Q : Option Value → zS → zI → Prop} {a0 a1 a2 a3 : Option Value} {b : Option Value} {t : List (Option Value)} (kk : zX l G md d ac as pc (a0 :: a1 :: a2 :: a3 :: none :: t) st Z I Q) : zX l G md d ac as pc (a0 :: a1 :: a2 :: a3 :: b :: t) st Z I Q := by
  refine x_wk (fun i v h => ?_) kk
  match i, v, h with
  | 0, v, h => exact h
  | 1, v, h => exact h
  | 2, v, h => exact h
  | 3, v, h => exact h
  | 4, v, h => exact absurd h (by simp)
  | i + 5, v, h => exact h
theorem x_fg5 {l : Launch} {G : zG} {md : zD} {d ac as pc : Nat} {st : List Value} {Z : zS} {I : zI} {Q : Option Value → zS → zI → Prop} {a0 a1 a2 a3 a4 : Option Value} {b : Option Value} {t : List (Option Value)} (kk : zX l G md d ac as pc (a0 :: a1 :: a2 :: a3 :: a4 :: none :: t) st Z I Q) : zX l G md d ac as pc (a0 :: a1 :: a2 :: a3 :: a4 :: b :: t) st Z I Q := by
  refine x_wk (fun i v h => ?_) kk
  match i, v, h with
  | 0, v, h => exact h
  | 1, v, h => exact h
  | 2, v, h => exact h
  | 3, v, h => exact h
  | 4, v, h => exact h
  | 5, v, h => exact absurd h (by simp)
  | i + 6, v, h => exact h
theorem x_fg6 {l : Launch} {G : zG} {md : zD} {d ac as pc : Nat} {st : List Value} {Z : zS} {I : zI} {Q : Option Value → zS → zI → Prop} {a0 a1 a2 a3 a4 a5 : Option Value} {b : Option Value} {t : List (Option Value)} (kk : zX l G md d ac as pc (a0 :: a1 :: a2 :: a3 :: a4 :: a5 :: none :: t) st Z I Q) : zX l G md d ac as pc (a0 :: a1 :: a2 :: a3 :: a4 :: a5 :: b :: t) st Z I Q := by
  refine x_wk (fun i v h => ?_) kk
  match i, v, h with
  | 0, v, h => exact h
  | 1, v, h => exact h
  | 2, v, h => exact h
  | 3, v, h => exact h
  | 4, v, h => exact h
  | 5, v, h => exact h
  | 6, v, h => exact absurd h (by simp)
  | i + 7, v, h => exact h
theorem x_fg7 {l : Launch} {G : zG} {md : zD} {d ac as pc : Nat} {st : List Value} {Z : zS} {I : zI} {Q : Option Value → zS → zI → Prop} {a0 a1 a2 a3 a4 a5 a6 : Option Value} {b : Option Value} {t : List (Option Value)} (kk : zX l G md d ac as pc (a0 :: a1 :: a2 :: a3 :: a4 :: a5 :: a6 :: none :: t) st Z I Q) : zX l G md d ac as pc (a0 :: a1 :: a2 :: a3 :: a4 :: a5 :: a6 :: b :: t) st Z I Q := by
  refine x_wk (fun i v h => ?_) kk
  match i, v, h with
  | 0, v, h => exact h
  | 1, v, h => exact h
  | 2, v, h => exact h
  | 3, v, h => exact h
  | 4, v, h => exact h
  | 5, v, h => exact h
  | 6, v, h => exact h
  | 7, v, h => exact absurd h (by simp)
  | i + 8, v, h => exact h
