/-! ===== rows over a world of the reference: its row s holds g, all else is I ===== -/
section
variable {l : Launch} {G : zG} {md : zD} {d ac as pc n : Nat} {ls : List (Option Value)} {st : List Value} {Z : zS} {I : zI} {g : Nat → Int32} {Q : Option Value → zS → zI → Prop}
theorem va_up_same {α : Type} {f : Nat → α} {k : Nat} {v : α} : va_up f k v k = v := if_pos rfl
theorem va_up_off {α : Type} {f : Nat → α} {k j : Nat} {v : α} (h : j ≠ k) : va_up f k v j = f j := if_neg h
theorem va_up_2 {α : Type} (f : Nat → α) (k : Nat) (v w : α) : va_up (va_up f k v) k w = va_up f k w := by
  funext j; by_cases h : j = k <;> simp [va_up, h]
theorem va_up_sw {α : Type} (f : Nat → α) {k j : Nat} (h : k ≠ j) (v w : α) : va_up (va_up f k v) j w = va_up (va_up f j w) k v := by
  funext i
  by_cases h1 : i = k
  · subst h1; simp [va_up, h]
  · by_cases h2 : i = j
    · subst h2; simp [va_up, h1]
    · simp [va_up, h1, h2]
theorem va_up_id {α : Type} (f : Nat → α) (k : Nat) : va_up f k (f k) = f := by
  funext j; by_cases h : j = k <;> simp [va_up, h]
/-- s[j] -/
theorem x_sld {j : Nat} (hd : decode md.2.1 pc = .ok (.iaload, 1)) (hn : pc + 1 = n) (hZ : ShR Z) (hj : j < 5530) (kk : zX l G md d ac as n ls (.int (g j) :: st) Z (va_up I q_s g) Q) : zX l G md d ac as pc ls (.int (nI j) :: .ref q_s :: st) Z (va_up I q_s g) Q :=
  x_ialdN hd hn (rA_s hZ) (Nat.le_of_ble_eq_true rfl) hj (by rw [va_up_same]; exact kk)
/-- s[j] = x -/
theorem x_sst {j : Nat} {x : Int32} (hd : decode md.2.1 pc = .ok (.iastore, 1)) (hn : pc + 1 = n) (hZ : ShR Z) (hj : j < 5530) (kk : zX l G md d ac as n ls st Z (va_up I q_s (upd g j x)) Q) : zX l G md d ac as pc ls (.int x :: .int (nI j) :: .ref q_s :: st) Z (va_up I q_s g) Q :=
  x_iastN hd hn (rA_s hZ) (Nat.le_of_ble_eq_true rfl) hj (by rw [va_up_same, va_up_2]; exact kk)
/-- another row of the reference -/
theorem x_old {a N j : Nat} (hd : decode md.2.1 pc = .ok (.iaload, 1)) (hn : pc + 1 = n) (ha : za Z a 13 N) (hne : a ≠ q_s) (hN : N < 2147483648) (hj : j < N) (kk : zX l G md d ac as n ls (.int (I a j) :: st) Z (va_up I q_s g) Q) : zX l G md d ac as pc ls (.int (nI j) :: .ref a :: st) Z (va_up I q_s g) Q :=
  x_ialdN hd hn ha hN hj (by rw [va_up_off hne]; exact kk)
theorem x_ost {a N j : Nat} {x : Int32} (hd : decode md.2.1 pc = .ok (.iastore, 1)) (hn : pc + 1 = n) (ha : za Z a 13 N) (hne : a ≠ q_s) (hN : N < 2147483648) (hj : j < N) (kk : zX l G md d ac as n ls st Z (va_up (va_up I a (upd (I a) j x)) q_s g) Q) : zX l G md d ac as pc ls (.int x :: .int (nI j) :: .ref a :: st) Z (va_up I q_s g) Q :=
  x_iastN hd hn ha hN hj (by rw [va_up_off hne, va_up_sw _ (Ne.symm hne)]; exact kk)
theorem x_ozld {a N j : Nat} (hd : decode md.2.1 pc = .ok (.baload, 1)) (hn : pc + 1 = n) (ha : za Z a 14 N) (hne : a ≠ q_s) (hN : N < 2147483648) (hj : j < N) (kk : zX l G md d ac as n ls (.int (I a j) :: st) Z (va_up I q_s g) Q) : zX l G md d ac as pc ls (.int (nI j) :: .ref a :: st) Z (va_up I q_s g) Q :=
  x_zaldN hd hn ha hN hj (by rw [va_up_off hne]; exact kk)
theorem x_ozst {a N j : Nat} {x : Int32} (hd : decode md.2.1 pc = .ok (.bastore, 1)) (hn : pc + 1 = n) (ha : za Z a 14 N) (hne : a ≠ q_s) (hN : N < 2147483648) (hj : j < N) (hx : vp_nar .boolean x = x) (kk : zX l G md d ac as n ls st Z (va_up (va_up I a (upd (I a) j x)) q_s g) Q) : zX l G md d ac as pc ls (.int x :: .int (nI j) :: .ref a :: st) Z (va_up I q_s g) Q :=
  x_zastN hd hn ha hN hj hx (by rw [va_up_off hne, va_up_sw _ (Ne.symm hne)]; exact kk)
/-- a field of the reference -/
theorem x_rget {k idx : Nat} (hf : zFl md.1.cls idx 12 k) (hi : zint (zft 12 k) = true) (hd : decode md.2.1 pc = .ok (.getfield idx, 3)) (hn : pc + 3 = n) (hZ : ShR Z) (kk : zX l G md d ac as n ls (.int (I qR k) :: st) Z (va_up I q_s g) Q) : zX l G md d ac as pc ls (.ref qR :: st) Z (va_up I q_s g) Q :=
  x_getI hf hi hd hn (rK hZ) (by rw [va_up_off (by decide)]; exact kk)
theorem x_rput {k idx : Nat} {x : Int32} (hf : zFl md.1.cls idx 12 k) (hi : zint (zft 12 k) = true) (hfin : (zTT 12 k).2.2.2 = false) (hnar : narrow (zft 12 k) (.int x) = .int x) (hfit : fits (zft 12 k) (.int x) = true) (hd : decode md.2.1 pc = .ok (.putfield idx, 3)) (hn : pc + 3 = n) (hZ : ShR Z) (kk : zX l G md d ac as n ls st Z (va_up (va_up I qR (upd (I qR) k x)) q_s g) Q) : zX l G md d ac as pc ls (.int x :: .ref qR :: st) Z (va_up I q_s g) Q :=
  x_putI hf hi (Or.inl hfin) hnar hfit hd hn (rK hZ) (by rw [va_up_off (show qR ≠ q_s by decide), va_up_sw _ (show q_s ≠ qR by decide)]; exact kk)
end
