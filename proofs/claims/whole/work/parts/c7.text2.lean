/-! ===== the class's text: key, length, making ===== -/
theorem std_e {f : Nat → Int32} {t b e : Nat} {w : List Nat} (he : e ≤ t) : stdF f t b e w = wrd f (nI 1) b e w := by
  unfold stdF wrd
  rw [decide_eq_true he, decide_eq_true rfl]
theorem wrd_c {f : Nat → Int32} {b e c : Nat} {w : List Nat} (h : wrd f (nI 1) b e (c :: w) = true) : e - b = w.length + 1 ∧ f b = nI c := by
  unfold wrd wrdT at h
  simp only [Bool.and_eq_true, decide_eq_true_eq, List.length_cons] at h
  exact ⟨h.2.1, h.2.2.1⟩
theorem kc_ky {f : Nat → Int32} {t : Nat} : kcF f t (skB f t 0) (skW f t (skB f t 0) (t - (skB f t 0 + 1)) (skB f t 0 + 1)) = oI (kyF f t) := by
  have hs := skB_le f t 0
  have n99 : ¬ (nI 112 = nI 99) := by decide
  unfold kyF
  by_cases hb : skB f t 0 < t
  · cases hL : isLe f t (skB f t 0) with
    | true =>
      rw [if_pos ⟨hb, rfl⟩, skW_L hL, ← skL_1 hb hL]
      have sb := skL_b (f := f) (t := t) (t - skB f t 0) (skB f t 0)
      unfold kcF keyF
      rw [std_e (by omega), std_e (by omega), std_e (by omega), std_e (by omega)]
      generalize skL f t (t - skB f t 0) (skB f t 0) = e at *
      generalize skB f t 0 = b at *
      show (if wrd f (nI 1) b e [112, 114, 105, 99, 101] = true then nI 0 else if wrd f (nI 1) b e [114, 101, 116, 97, 105, 110] = true then nI 1 else if wrd f (nI 1) b e [108, 97, 116, 101] = true then nI 2 else if wrd f (nI 1) b e [99, 108, 97, 105, 109] = true then nI 3 else -1) = _
      by_cases h0 : wrd f (nI 1) b e [112, 114, 105, 99, 101] = true
      · have a0 := wrd_c h0
        have x2 : ¬ wrd f (nI 1) b e [108, 97, 116, 101] = true := fun h => by have := (wrd_c h).1; have := a0.1; simp only [List.length_cons, List.length_nil] at *; omega
        have x3 : ¬ wrd f (nI 1) b e [99, 108, 97, 105, 109] = true := fun h => by have h1 := (wrd_c h).2; rw [a0.2] at h1; exact n99 h1
        rw [if_pos h0, if_neg x2, if_neg x3, if_pos h0]; rfl
      · rw [if_neg h0]
        by_cases h1 : wrd f (nI 1) b e [114, 101, 116, 97, 105, 110] = true
        · have a0 := wrd_c h1
          have x2 : ¬ wrd f (nI 1) b e [108, 97, 116, 101] = true := fun h => by have := (wrd_c h).1; have := a0.1; simp only [List.length_cons, List.length_nil] at *; omega
          have x3 : ¬ wrd f (nI 1) b e [99, 108, 97, 105, 109] = true := fun h => by have := (wrd_c h).1; have := a0.1; simp only [List.length_cons, List.length_nil] at *; omega
          rw [if_pos h1, if_neg x2, if_neg x3, if_neg h0, if_pos h1]; rfl
        · rw [if_neg h1]
          by_cases h2 : wrd f (nI 1) b e [108, 97, 116, 101] = true
          · rw [if_pos h2, if_pos h2]; rfl
          · rw [if_neg h2, if_neg h2]
            by_cases h3 : wrd f (nI 1) b e [99, 108, 97, 105, 109] = true
            · rw [if_pos h3, if_pos h3]; rfl
            · rw [if_neg h3, if_neg h3, if_neg h0, if_neg h1]; rfl
    | false =>
      rw [if_neg (by intro h; cases h.2)]
      have no : ∀ c w e, 97 ≤ c → c ≤ 122 → stdF f t (skB f t 0) e (c :: w) = false := fun c w e c1 c2 => by
        cases hh : stdF f t (skB f t 0) e (c :: w) with
        | false => rfl
        | true =>
          unfold stdF wrdT at hh
          simp only [Bool.and_eq_true, decide_eq_true_eq] at hh
          have hf := hh.2.2.1
          unfold isLe at hL
          rw [decide_eq_true hb, Bool.true_and, hf] at hL
          unfold zin at hL
          rw [nI_toInt (by omega), decide_eq_false_iff_not] at hL
          omega
      unfold kcF
      show (if stdF f t (skB f t 0) _ [112, 114, 105, 99, 101] = true then nI 0 else if stdF f t (skB f t 0) _ [114, 101, 116, 97, 105, 110] = true then nI 1 else if stdF f t (skB f t 0) _ [108, 97, 116, 101] = true then nI 2 else if stdF f t (skB f t 0) _ [99, 108, 97, 105, 109] = true then nI 3 else -1) = _
      rw [no _ _ _ (by omega) (by omega), no _ _ _ (by omega) (by omega), no _ _ _ (by omega) (by omega), no _ _ _ (by omega) (by omega)]
      rfl
  · have ht : skB f t 0 = t := by omega
    rw [if_neg (fun h => hb h.1), ht]
    have hL : isLe f t t = false := by unfold isLe; rw [decide_eq_false (by omega)]; rfl
    have hD : isDi f t t = false := by unfold isDi; rw [decide_eq_false (by omega)]; rfl
    rw [skW_N hL hD]
    have no : ∀ w, stdF f t t (t + 1) w = false := fun w => by unfold stdF; rw [decide_eq_false (by omega)]; rfl
    unfold kcF
    rw [no, no, no, no]
    rfl
/-- the tokens behind the key -/
theorem tk_tail {f : Nat → Int32} {t : Nat} (hb : skB f t 0 < t) (hL : isLe f t (skB f t 0) = true) : (tkL f t t 0 false).tail = tkL f t (t - 1) (skL f t (t - skB f t 0) (skB f t 0)) true := by
  obtain ⟨n, rfl⟩ : ∃ n, t = n + 1 := ⟨t - 1, by omega⟩
  conv => lhs; unfold tkL
  rw [Nat.sub_zero, if_neg (by omega), if_pos hL]
  rfl
theorem mc_len (key : Nat) : ∀ (ts : List TK) (cd : List CD) (st : List Nat) (ob on : Nat) (want : Bool) (pt : Nat), (mcP key ts cd st ob on want pt).2.2.1.length ≤ cd.length + st.length + (ts.length - 1)
  | [], cd, st, ob, on, want, pt => by unfold mcP; exact Nat.zero_le _
  | t :: r, cd, st, ob, on, want, pt => by
    have ih : ∀ cd' st' ob' on' want' pt', cd'.length + st'.length ≤ cd.length + st.length + 1 → (mcP key r cd' st' ob' on' want' pt').2.2.1.length ≤ cd.length + st.length + r.length := by
      intro cd' st' ob' on' want' pt' h
      have h2 := mc_len key r cd' st' ob' on' want' pt'
      cases r with
      | nil => unfold mcP; exact Nat.zero_le _
      | cons a b => rw [List.length_cons] at *; omega
    have p1 := pr_len 1 st
    have p2 := pr_len (rnk t.2.1) st
    have p3 := pn_len st
    have p4 := pn_len (rstR 1 st).tail
    have p5 : (rstR 1 st).tail.length ≤ (rstR 1 st).length := by rw [List.length_tail]; omega
    have z : ∀ x : Nat, ([] : List CD).length ≤ x := fun x => Nat.zero_le _
    rw [List.length_cons, Nat.add_sub_cancel]
    unfold mcP
    split
    · split
      · exact z _
      · show (cd ++ sgs (popR 1 st)).length ≤ _
        rw [List.length_append, sgs_len]; omega
    · split
      · split
        · exact ih _ _ _ _ _ _ (by rw [List.length_append, List.length_append, sgs_len, List.length_singleton]; omega)
        · split
          · exact ih _ _ _ _ _ _ (by rw [List.length_append, List.length_append, sgs_len, List.length_singleton]; omega)
          · split
            · exact ih _ _ _ _ _ _ (by rw [List.length_cons]; omega)
            · split
              · exact ih _ _ _ _ _ _ (by rw [List.length_cons]; omega)
              · exact z _
      · split
        · split
          · exact z _
          · exact ih _ _ _ _ _ _ (by rw [List.length_append, List.length_append, sgs_len, sgs_len]; omega)
        · split
          · split
            · exact z _
            · exact ih _ _ _ _ _ _ (by rw [List.length_append, sgs_len, List.length_cons]; omega)
          · exact z _
theorem tx_len {f : Nat → Int32} {t : Nat} (ht : t ≤ 96) : (txF f t).2.2.2.1.length < 96 := by
  unfold txF
  cases hk : kyF f t with
  | none => exact Nat.zero_lt_succ _
  | some key =>
    have hkk : skB f t 0 < t ∧ isLe f t (skB f t 0) = true := by
      unfold kyF at hk
      split at hk
      · rename_i h; exact h
      · cases hk
    have sb := skL_b (f := f) (t := t) (t - skB f t 0) (skB f t 0)
    have sg := skL_gt hkk.2
    have hl := tkL_len f t (t - 1) (skL f t (t - skB f t 0) (skB f t 0)) true (by omega) (by omega)
    have h := mc_len key (tkL f t (t - 1) (skL f t (t - skB f t 0) (skB f t 0)) true) [] [] 0 0 true 0
    show (mcP key (tkL f t t 0 false).tail [] [] 0 0 true 0).2.2.1.length < 96
    rw [tk_tail hkk.1 hkk.2]
    have e0 : ([] : List CD).length = 0 := rfl
    have e1 : ([] : List Nat).length = 0 := rfl
    omega
/-- Z' holds all that Z does -/
def ZX (Z Z' : zS) : Prop := Z.1 ≤ Z'.1 ∧ ∀ a, a < Z.1 → Z'.2.1 a = Z.2.1 a ∧ Z'.2.2.1 a = Z.2.2.1 a ∧ Z'.2.2.2 a = Z.2.2.2 a
section
variable {Z Z' Z2 : zS} {a c n mk b : Nat}
theorem ZX_r : ZX Z Z := ⟨Nat.le_refl _, fun _ _ => ⟨rfl, rfl, rfl⟩⟩
theorem ZX_t (h : ZX Z Z') (k : ZX Z' Z2) : ZX Z Z2 := ⟨Nat.le_trans h.1 k.1, fun a ha => by
  have h1 := h.2 a ha
  have h2 := k.2 a (Nat.lt_of_lt_of_le ha h.1)
  exact ⟨h2.1.trans h1.1, h2.2.1.trans h1.2.1, h2.2.2.trans h1.2.2⟩⟩
theorem zk_ZX (h : ZX Z Z') (hk : zk Z a c) : zk Z' a c := ⟨Nat.lt_of_lt_of_le hk.1 h.1, (h.2 a hk.1).1.trans hk.2⟩
theorem za_ZX (h : ZX Z Z') (hk : za Z a c n) : za Z' a c n := ⟨Nat.lt_of_lt_of_le hk.1 h.1, (h.2 a hk.1).1.trans hk.2.1, (h.2 a hk.1).2.1.trans hk.2.2⟩
theorem zr_ZX (h : ZX Z Z') (ha : a < Z.1) {k : Nat} {r : Option Nat} (hk : Z.2.2.2 a k = r) : Z'.2.2.2 a k = r := by rw [(h.2 a ha).2.2]; exact hk
theorem ZX_O (c : Nat) : ZX Z (znO Z c) := ⟨Nat.le_succ _, fun a ha => ⟨va_up_off (by omega), rfl, va_up_off (by omega)⟩⟩
theorem ZX_A (c N : Nat) : ZX Z (znA Z c N) := ⟨Nat.le_succ _, fun a ha => ⟨va_up_off (by omega), va_up_off (by omega), va_up_off (by omega)⟩⟩
theorem ZX_P (h : ZX Z Z') {p : Nat} (hp : Z.1 ≤ p) {f : Nat → Option Nat} : ZX Z (Z'.1, Z'.2.1, Z'.2.2.1, va_up Z'.2.2.2 p f) := ⟨h.1, fun a ha => ⟨(h.2 a ha).1, (h.2 a ha).2.1, by show va_up Z'.2.2.2 p f a = _; rw [va_up_off (by omega)]; exact (h.2 a ha).2.2⟩⟩
theorem ShW_ZX (h : ZX Z Z') (hW : ShW Z b) : ShW Z' b := ⟨zk_ZX h hW.1, zr_ZX h hW.1.1 hW.2.1, za_ZX h hW.2.2⟩
theorem ShV_ZX (h : ZX Z Z') (hW : ShV Z b) : ShV Z' b := ⟨zk_ZX h hW.1, zr_ZX h hW.1.1 hW.2.1, za_ZX h hW.2.2⟩
theorem mPs_b : ∀ q ∈ mPs, q.1 ≤ 80 := by decide
theorem lPs_b : ∀ q ∈ lPs, q.1 ≤ 257 := by decide
theorem ShM_ZX (h : ZX Z Z') (h2 : 282 ≤ Z.1) (hm : mk ≤ 163) (hM : ShM Z mk) : ShM Z' mk :=
  ⟨fun q hq => zk_ZX h (hM.1 q hq), fun q hq => zr_ZX h (by have := mPs_b q hq; omega) (hM.2.1 q hq), fun q hq => za_ZX h (hM.2.2.1 q hq), fun w hw => ⟨zr_ZX h (by omega) (hM.2.2.2 w hw).1, ShW_ZX h (hM.2.2.2 w hw).2⟩⟩
theorem ShL_ZX (h : ZX Z Z') (h2 : 282 ≤ Z.1) (hS : ShL Z) : ShL Z' := by
  obtain ⟨a1, a3, a4, a5, a6, a7, a8⟩ := hS
  exact ⟨⟨zk_ZX h a1.1, zk_ZX h a1.2⟩, fun q hq => zr_ZX h (by have := lPs_b q hq; omega) (a3 q hq), fun q hq => za_ZX h (a4 q hq), fun v hv => ⟨zr_ZX h (by omega) (a5 v hv).1, ShV_ZX h (a5 v hv).2⟩, ShM_ZX h h2 (by omega) a6, ShM_ZX h h2 (by omega) a7, ShM_ZX h h2 (by omega) a8⟩
end
/-- a Text more, of N steps -/
def txZ (Z : zS) (N : Nat) : zS := ((znA (znO Z 7) 13 N).1, (znA (znO Z 7) 13 N).2.1, (znA (znO Z 7) 13 N).2.2.1, va_up (znA (znO Z 7) 13 N).2.2.2 Z.1 (va_up ((znA (znO Z 7) 13 N).2.2.2 Z.1) 3 (some (Z.1 + 1))))
theorem txZ_X (Z : zS) (N : Nat) : ZX Z (txZ Z N) := ZX_P (ZX_t (ZX_O 7) (ZX_A 13 N)) (Nat.le_refl _)
theorem txZ_1 (Z : zS) (N : Nat) : (txZ Z N).1 = Z.1 + 2 := rfl
theorem txZ_k (Z : zS) (N : Nat) : zk (txZ Z N) Z.1 7 := ⟨by rw [txZ_1]; omega, by
  show va_up (va_up Z.2.1 Z.1 7) (Z.1 + 1) 13 Z.1 = 7
  rw [va_up_off (by omega), va_up_same]⟩
theorem txZ_r (Z : zS) (N : Nat) : (txZ Z N).2.2.2 Z.1 3 = some (Z.1 + 1) := by
  show va_up (znA (znO Z 7) 13 N).2.2.2 Z.1 (va_up ((znA (znO Z 7) 13 N).2.2.2 Z.1) 3 (some (Z.1 + 1))) Z.1 3 = _
  rw [va_up_same, va_up_same]
theorem txZ_a (Z : zS) (N : Nat) : za (txZ Z N) (Z.1 + 1) 13 N := ⟨by rw [txZ_1]; omega, by
  show va_up (va_up Z.2.1 Z.1 7) (Z.1 + 1) 13 (Z.1 + 1) = 13
  rw [va_up_same], by
  show va_up Z.2.2.1 (Z.1 + 1) N (Z.1 + 1) = N
  rw [va_up_same]⟩
section
variable {l : Launch} {G : zG} {Z : zS} {I : zI} {Q : Option Value → zS → zI → Prop}
theorem c_J7_copyOf {a N : Nat} (ha : za Z a 13 96) (hN : N < 96) (hm : Z.1 < 900000) (hq : ∀ J, (∀ b, b ≠ Z.1 → J b = I b) → (∀ k, k < N → J Z.1 k = I a k) → Q (some (.ref Z.1)) (znA Z 13 N) J) : zM l G mJ7_copyOf_59c91 1 1 96 [.ref a, .int (nI N)] Z I Q := by
  refine x_entry [some (.ref a), some (.int (nI N)), none] 1 rfl rfl (Nat.le_of_ble_eq_true rfl) ?_
  have hn : (znA Z 13 N).1 = Z.1 + 1 := rfl
  have hal := ha.1
  have ha' : za (znA Z 13 N) a 13 96 := za_ZX (ZX_A 13 N) ha
  have hb' : za (znA Z 13 N) Z.1 13 N := ⟨by rw [hn]; omega, by show va_up _ _ _ _ = _; rw [va_up_same], by show va_up _ _ _ _ = _; rw [va_up_same]⟩
  refine x_ild1 (n := 1) dJ7_copyOf_59c91_0 rfl ?_
  refine x_ald0 (n := 2) dJ7_copyOf_59c91_1 rfl ?_
  refine x_alenN (n := 3) dJ7_copyOf_59c91_2 rfl ha ⟨by decide, by decide⟩ ?_
  refine x_icmpN_ne (n := 6) (tgt := 14) dJ7_copyOf_59c91_3 rfl (by decide) (by omega) (by omega) (fun c_3 => ?_) (fun c_3 => ?_)
  · refine x_ild1 (n := 15) dJ7_copyOf_59c91_14 rfl ?_
    refine x_newI (n := 17) (N := N) dJ7_copyOf_59c91_15 rfl zaI (nI_pos (by omega)) (nI_clamp (by omega)) (by omega) hm (by omega) (by omega) ?_
    refine x_ast2 (n := 18) dJ7_copyOf_59c91_17 rfl (by decide) rfl ?_
    refine x_ald0 (n := 19) dJ7_copyOf_59c91_18 rfl ?_
    refine x_ic0 (n := 20) dJ7_copyOf_59c91_19 rfl ?_
    refine x_ald2 (n := 21) dJ7_copyOf_59c91_20 rfl ?_
    refine x_ic0 (n := 22) dJ7_copyOf_59c91_21 rfl ?_
    refine x_ald0 (n := 23) dJ7_copyOf_59c91_22 rfl ?_
    refine x_alenN (n := 24) dJ7_copyOf_59c91_23 rfl ha' ⟨by decide, by decide⟩ ?_
    refine x_ild1 (n := 25) dJ7_copyOf_59c91_24 rfl ?_
    refine x_mmin (n := 28) dJ7_copyOf_59c91_25 rfl mlJ7_304 zu_min zi_J9 zv_min (by decide) (Nat.le_of_ble_eq_true rfl) ?_
    refine x_top (y := nI N) (by rw [if_pos (nI_lt hN (by omega))]) ?_
    refine x_acopyN (n := 31) dJ7_copyOf_59c91_28 rfl mlJ7_150 zcN zcS zi_J10 (by decide) (Nat.le_of_ble_eq_true rfl) ha' hb' (by omega) (by omega) (by decide) (by omega) ?_
    refine x_ald2 (n := 32) dJ7_copyOf_59c91_31 rfl ?_
    refine r_aret dJ7_copyOf_59c91_32 rfl (by first | exact Or.inl ⟨_, rfl⟩ | exact Or.inr ⟨_, rfl⟩) (by first | exact Or.inl rfl | exact Or.inr ⟨_, rfl⟩) ?_
    refine hq _ (fun b hb => by rw [va_up_off hb]; exact va_up_off hb) (fun k hk => ?_)
    rw [va_up_same, cpy0 hk]
    show va_up I Z.1 _ a k = _
    rw [va_up_off (by omega)]
  · exact absurd c_3 (by omega)
theorem c_X7_init {p q : Nat} {k d s : Int32} (hk : zk Z p 7) (hq : ∀ J, (∀ a, a ≠ p → J a = I a) → J p 0 = k → J p 1 = d → J p 2 = s → Q none (Z.1, Z.2.1, Z.2.2.1, va_up Z.2.2.2 p (va_up (Z.2.2.2 p) 3 (some q))) J) : zM l G mX7_init 1 0 0 [.ref p, .int k, .int d, .int s, .ref q] Z I Q := by
  refine x_entry [some (.ref p), some (.int k), some (.int d), some (.int s), some (.ref q)] 0 rfl rfl (Nat.le_of_ble_eq_true rfl) ?_
  have hx := And.intro hk True.intro
  refine x_ald0 (n := 1) dX7_init_0 rfl ?_
  refine x_objI (n := 4) dX7_init_1 rfl mlX7_1 zoI zoC (by decide) (Nat.le_of_ble_eq_true rfl) ?_
  refine x_ald0 (n := 5) dX7_init_4 rfl ?_
  refine x_ild1 (n := 6) dX7_init_5 rfl ?_
  refine x_putI (n := 9) flX7_7 rfl (Or.inr ⟨rfl, rfl⟩) rfl rfl dX7_init_6 rfl hx.1 ?_
  refine x_ald0 (n := 10) dX7_init_9 rfl ?_
  refine x_ild2 (n := 11) dX7_init_10 rfl ?_
  refine x_putI (n := 14) flX7_13 rfl (Or.inr ⟨rfl, rfl⟩) rfl rfl dX7_init_11 rfl hx.1 ?_
  refine x_ald0 (n := 15) dX7_init_14 rfl ?_
  refine x_ild3 (n := 16) dX7_init_15 rfl ?_
  refine x_putI (n := 19) flX7_16 rfl (Or.inr ⟨rfl, rfl⟩) rfl rfl dX7_init_16 rfl hx.1 ?_
  refine x_ald0 (n := 20) dX7_init_19 rfl ?_
  refine x_ald4 (n := 22) dX7_init_20 rfl ?_
  refine x_putR (n := 25) flX7_19 rfl (Or.inr ⟨rfl, rfl⟩) (fun q => by cases q <;> exact ⟨rfl, rfl⟩) dX7_init_22 rfl hx.1 ?_
  refine r_vret dX7_init_25 rfl ?_
  refine hq _ (fun a ha => ?_) ?_ ?_ ?_
  · rw [va_up_off ha, va_up_off ha, va_up_off ha]
  · rw [va_up_same, upd_off (by decide), va_up_same, upd_off (by decide), va_up_same, upd_same]
  · rw [va_up_same, upd_off (by decide), va_up_same, upd_same]
  · rw [va_up_same, upd_same]
end
