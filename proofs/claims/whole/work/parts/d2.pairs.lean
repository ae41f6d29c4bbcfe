/-! ===== class and reference stand alike ===== -/
/-- places that the likeness does not speak of -/
def lrOff (a : Nat) : Prop := (163 ≤ a ∧ a < 244) ∨ a = 246 ∨ a = 247 ∨ a = 248 ∨ a = 259 ∨ a = 261 ∨ (268 ≤ a ∧ a < 272) ∨ (273 ≤ a ∧ a < 280) ∨ a = 281
def LR (Z : zS) (J : zI) (g : Nat → Int32) : Prop :=
  (ShL Z ∧ ShR Z ∧ 282 ≤ Z.1) ∧ RfC J ∧ (CM Z J 1 g ∧ InvB g ∧ InvT g ∧ vN g 8 ≤ 1999) ∧
  (J 0 7 = J qR 3 ∧ (J qR 3 ≠ 0 → CM Z J 82 (J q_image) ∧ InvB (J q_image) ∧ InvT (J q_image) ∧ vN (J q_image) 8 ≤ 1999)) ∧
  (svC J (sv J) ∧ svOK (sv J)) ∧ (∃ w, w ≤ 60 ∧ J 0 6 = nI w ∧ J qR 34 = nI w ∧ ∀ j, j < w → J 257 j = J q_waits j) ∧
  ∃ t, t ≤ 96 ∧ J 244 1 = nI t ∧ J qR 15 = nI t ∧ J 245 = J q_tape ∧ byR (J 245) t
section
variable {l : Launch} {G : zG} {Z Z' : zS} {J J' : zI} {g g' : Nat → Int32} {Q : Option Value → zS → zI → Prop}
theorem svC_of (h : svC J (sv J)) (ho : ∀ a, 249 ≤ a → a < 257 → J' a = J a) (h2 : sv J' = sv J) : svC J' (sv J') := fun v hv => by
  have h9 := h v hv
  rw [h2, ho (249 + 2 * v) (by omega) (by omega), ho (249 + 2 * v + 1) (by omega) (by omega)]
  exact h9
theorem RfC_of (h : RfC J) (h1 : J' q_cutRate = J q_cutRate) (h2 : J' q_stands = J q_stands) (h3 : J' q_mostOf = J q_mostOf) : RfC J' := by
  unfold RfC at h ⊢
  rw [h1, h2, h3]; exact h
theorem LR_of (h : LR Z J g) (ho : ∀ a, ¬ lrOff a → J' a = J a) : LR Z J' g := by
  obtain ⟨h1, h2, ⟨h3, h4⟩, ⟨h5, h6⟩, ⟨h7, h8⟩, ⟨w, w1, w2, w3, w4⟩, ⟨t, t1, t2, t3, t4, t5⟩⟩ := h
  have e0 : J' 0 = J 0 := ho 0 (by unfold lrOff; omega)
  have eR : J' qR = J qR := ho 258 (by unfold lrOff; omega)
  have eI : J' q_image = J q_image := ho 260 (by unfold lrOff; omega)
  have eW : J' q_waits = J q_waits := ho 280 (by unfold lrOff; omega)
  have eT : J' q_tape = J q_tape := ho 272 (by unfold lrOff; omega)
  have e257 : J' 257 = J 257 := ho 257 (by unfold lrOff; omega)
  have e244 : J' 244 = J 244 := ho 244 (by unfold lrOff; omega)
  have e245 : J' 245 = J 245 := ho 245 (by unfold lrOff; omega)
  have eS : sv J' = sv J := by
    unfold sv
    rw [show J' q_tSort = J q_tSort from ho 262 (by unfold lrOff; omega), show J' q_tSize = J q_tSize from ho 263 (by unfold lrOff; omega), show J' q_tNumber = J q_tNumber from ho 264 (by unfold lrOff; omega)]
  have hc : ∀ mk gg, (mk = 1 ∨ mk = 82) → CM Z J mk gg → CM Z J' mk gg := fun mk gg hm hC => CM_of hC (fun a ha => ho a (by unfold lrOff; unfold cmOff at ha; omega)) (by omega)
  refine ⟨h1, RfC_of h2 (ho 265 (by unfold lrOff; omega)) (ho 266 (by unfold lrOff; omega)) (ho 267 (by unfold lrOff; omega)), ⟨hc 1 g (Or.inl rfl) h3, h4⟩, ⟨by rw [e0, eR]; exact h5, ?_⟩, ⟨svC_of h7 (fun a a1 a2 => ho a (by unfold lrOff; omega)) eS, by rw [eS]; exact h8⟩, ⟨w, w1, by rw [e0]; exact w2, by rw [eR]; exact w3, by rw [e257, eW]; exact w4⟩, ⟨t, t1, by rw [e244]; exact t2, by rw [eR]; exact t3, by rw [e245, eT]; exact t4, by rw [e245]; exact t5⟩⟩
  rw [eR, eI]
  intro hh
  exact ⟨hc 82 _ (Or.inr rfl) (h6 hh).1, (h6 hh).2⟩
/-- only the Making that goes on has changed -/
theorem LR_1 (h : LR Z J g) (ho : offM 1 J J') (hC : CM Z J' 1 g') (hB : InvB g') (hT : InvT g') (h8 : vN g' 8 ≤ 1999) : LR Z J' g' := by
  obtain ⟨h1, h2, -, ⟨h5, h6⟩, ⟨h7, hs⟩, ⟨w, w1, w2, w3, w4⟩, ⟨t, t1, t2, t3, t4, t5⟩⟩ := h
  have e0 : J' 0 = J 0 := ho 0 (by omega)
  have eR : J' qR = J qR := ho 258 (by omega)
  have eI : J' q_image = J q_image := ho 260 (by omega)
  have eW : J' q_waits = J q_waits := ho 280 (by omega)
  have eT : J' q_tape = J q_tape := ho 272 (by omega)
  have e257 : J' 257 = J 257 := ho 257 (by omega)
  have e244 : J' 244 = J 244 := ho 244 (by omega)
  have e245 : J' 245 = J 245 := ho 245 (by omega)
  have eS : sv J' = sv J := by
    unfold sv
    rw [show J' q_tSort = J q_tSort from ho 262 (by omega), show J' q_tSize = J q_tSize from ho 263 (by omega), show J' q_tNumber = J q_tNumber from ho 264 (by omega)]
  refine ⟨h1, RfC_of h2 (ho 265 (by omega)) (ho 266 (by omega)) (ho 267 (by omega)), ⟨hC, hB, hT, h8⟩, ⟨by rw [e0, eR]; exact h5, ?_⟩, ⟨svC_of h7 (fun a a1 a2 => ho a (by omega)) eS, by rw [eS]; exact hs⟩, ⟨w, w1, by rw [e0]; exact w2, by rw [eR]; exact w3, by rw [e257, eW]; exact w4⟩, ⟨t, t1, by rw [e244]; exact t2, by rw [eR]; exact t3, by rw [e245, eT]; exact t4, by rw [e245]; exact t5⟩⟩
  rw [eR, eI]
  intro hh
  exact ⟨CM_of (h6 hh).1 (fun a ha => ho a (by unfold cmOff at ha; omega)) (by omega), (h6 hh).2⟩
theorem va_id {q : Nat} {f : Nat → Int32} (h : J q = f) : va_up J q f = J := by
  funext a
  by_cases e : a = q
  · subst e; rw [va_up_same, h]
  · rw [va_up_off e]
theorem zM_s {md : zD} {d mc ms : Nat} {args : List Value} (h : J q_s = g) (k : zM l G md d mc ms args Z (va_up J q_s g) Q) : zM l G md d mc ms args Z J Q := by rwa [va_id h] at k
/-- the end of a pair of calls -/
theorem lr_end {I : zI} (h : LR Z J g) (ho : ∀ a, ¬ lrOff a → I a = J a) : LR Z (va_up I q_s g) (va_up I q_s g q_s) := by
  rw [va_up_same]
  refine LR_of h (fun a ha => ?_)
  rw [va_up_off (by intro e; subst e; exact ha (by unfold lrOff; decide))]
  exact ho a ha
/-- a call of the class and the same call of the reference: one answer, and they stand alike behind it -/
def lawP (l : Launch) (G : zG) (Z : zS) (J : zI) (mdC mdR : zD) (d1 d2 mc ms : Nat) (args : List Value) : Prop := zM l G mdC d1 mc ms (.ref 0 :: args) Z J (fun r Z1 J1 => ∃ v, r = some (.int v) ∧ zk Z1 qR 12 ∧ zM l G mdR d2 0 0 (.ref qR :: args) Z1 J1 (fun r2 Z2 J2 => r2 = some (.int v) ∧ LR Z2 J2 (J2 q_s) ∧ Z.1 ≤ Z2.1 ∧ Z2.1 ≤ Z.1 + 2))

theorem lw_chains {x : Int32} (h : LR Z J (J q_s)) : lawP l G Z J mX11_chains mX12_chains 3 2 0 0 [.int x] := by
  obtain ⟨⟨hS, hR, hZ⟩, hC, ⟨hM, hB, hT, h8⟩, -⟩ := id h
  have i0 := iv0 hB
  have i1 := iv1 hB
  refine tL_chains hS hM hB (fun J2 o2 c2 => ⟨_, rfl, hR.1, ?_⟩)
  have kk := (fun q => And.intro q.1 ⟨q.2, (show vN (f_chains (J q_s) x).2 8 ≤ 1999 by rw [vN_eq (d_chains x)]; exact h8)⟩ : InvB _ ∧ InvT _ → InvB _ ∧ InvT _ ∧ _) (k_chains hB hT x)
  have h2 := LR_1 h o2 c2 kk.1 kk.2.1 kk.2.2
  have hC := h2.2.1
  refine zM_s (o2 259 (by omega)) ?_
  exact c_X12_chains hR ⟨rfl, lr_end h2 (fun a ha => rfl), Nat.le_refl _, by omega⟩
theorem lw_set {x y v : Int32} (h : LR Z J (J q_s)) : lawP l G Z J mX11_set mX12_set 1 2 0 0 [.int x, .int y, .int v] := by
  obtain ⟨⟨hS, hR, hZ⟩, hC, ⟨hM, hB, hT, h8⟩, -⟩ := id h
  have i0 := iv0 hB
  have i1 := iv1 hB
  refine tL_set hS hM hB (fun J2 o2 c2 => ⟨_, rfl, hR.1, ?_⟩)
  have kk := (fun q => And.intro q.1 ⟨q.2, (show vN (f_set (J q_s) x y v).2 8 ≤ 1999 by rw [vN_eq (d_set x y v)]; exact h8)⟩ : InvB _ ∧ InvT _ → InvB _ ∧ InvT _ ∧ _) (k_set hB hT x y v)
  have h2 := LR_1 h o2 c2 kk.1 kk.2.1 kk.2.2
  have hC := h2.2.1
  refine zM_s (o2 259 (by omega)) ?_
  exact c_X12_set hR i0.1 i0.2.2 ⟨rfl, lr_end h2 (fun a ha => rfl), Nat.le_refl _, by omega⟩
theorem lw_bore {x : Int32} (h : LR Z J (J q_s)) : lawP l G Z J mX11_bore mX12_bore 2 2 0 0 [.int x] := by
  obtain ⟨⟨hS, hR, hZ⟩, hC, ⟨hM, hB, hT, h8⟩, -⟩ := id h
  have i0 := iv0 hB
  have i1 := iv1 hB
  refine tL_bore hS hM hB (fun J2 o2 c2 => ⟨_, rfl, hR.1, ?_⟩)
  have kk := (fun q => And.intro q.1 ⟨q.2, (show vN (f_bore (J q_s) x).2 8 ≤ 1999 by rw [vN_eq (d_bore x)]; exact h8)⟩ : InvB _ ∧ InvT _ → InvB _ ∧ InvT _ ∧ _) (k_bore hB hT x)
  have h2 := LR_1 h o2 c2 kk.1 kk.2.1 kk.2.2
  have hC := h2.2.1
  refine zM_s (o2 259 (by omega)) ?_
  exact c_X12_bore hR i0.1 i0.2.2 ⟨rfl, lr_end h2 (fun a ha => rfl), Nat.le_refl _, by omega⟩
theorem lw_at {x y : Int32} (h : LR Z J (J q_s)) : lawP l G Z J mX11_at mX12_at 2 3 0 0 [.int x, .int y] := by
  obtain ⟨⟨hS, hR, hZ⟩, hC, ⟨hM, hB, hT, h8⟩, -⟩ := id h
  have i0 := iv0 hB
  have i1 := iv1 hB
  refine tL_at hS hM hB ⟨_, rfl, hR.1, ?_⟩
  have h2 := h
  refine zM_s rfl ?_
  exact c_X12_at hR i0.1 i0.2.2 i1.1 i1.2 ⟨rfl, lr_end h2 (fun a ha => rfl), Nat.le_refl _, by omega⟩
theorem lw_rule {x y : Int32} (h : LR Z J (J q_s)) : lawP l G Z J mX11_rule mX12_rule 1 1 0 0 [.int x, .int y] := by
  obtain ⟨⟨hS, hR, hZ⟩, hC, ⟨hM, hB, hT, h8⟩, -⟩ := id h
  have i0 := iv0 hB
  have i1 := iv1 hB
  refine tL_rule hS hM hB (fun J2 o2 c2 => ⟨_, rfl, hR.1, ?_⟩)
  have kk := (fun q => And.intro q.1 ⟨q.2, (show vN (f_rule (J q_s) x y).2 8 ≤ 1999 by rw [vN_eq (d_rule x y)]; exact h8)⟩ : InvB _ ∧ InvT _ → InvB _ ∧ InvT _ ∧ _) (k_rule hB hT x y)
  have h2 := LR_1 h o2 c2 kk.1 kk.2.1 kk.2.2
  have hC := h2.2.1
  refine zM_s (o2 259 (by omega)) ?_
  exact c_X12_rule hR hC ⟨rfl, lr_end h2 (fun a ha => rfl), Nat.le_refl _, by omega⟩
theorem lw_steep (h : LR Z J (J q_s)) : lawP l G Z J mX11_steep mX12_steep 2 1 0 0 [] := by
  obtain ⟨⟨hS, hR, hZ⟩, hC, ⟨hM, hB, hT, h8⟩, -⟩ := id h
  have i0 := iv0 hB
  have i1 := iv1 hB
  refine tL_steep hS hM hB ⟨_, rfl, hR.1, ?_⟩
  have h2 := h
  refine zM_s rfl ?_
  exact c_X12_steep hR i0.1 i0.2.2 (by omega) ⟨rfl, lr_end h2 (fun a ha => rfl), Nat.le_refl _, by omega⟩
theorem lw_best {x : Int32} (h : LR Z J (J q_s)) : lawP l G Z J mX11_best mX12_best 5 3 0 0 [.int x] := by
  obtain ⟨⟨hS, hR, hZ⟩, hC, ⟨hM, hB, hT, h8⟩, -⟩ := id h
  have i0 := iv0 hB
  have i1 := iv1 hB
  refine tL_best hS hM hB (fun J2 o2 c2 => ⟨_, rfl, hR.1, ?_⟩)
  have h2 := LR_1 h o2 c2 hB hT h8
  have hC := h2.2.1
  refine zM_s (o2 259 (by omega)) ?_
  exact c_X12_best hR hB (fun I hI => ⟨rfl, lr_end h2 (fun a ha => hI a (fun e => ha (by rw [e]; unfold lrOff; decide)) (fun e => ha (by rw [e]; unfold lrOff; decide))), Nat.le_refl _, by omega⟩)
theorem lw_lay (h : LR Z J (J q_s)) : lawP l G Z J mX11_lay mX12_lay 5 3 0 0 [] := by
  obtain ⟨⟨hS, hR, hZ⟩, hC, ⟨hM, hB, hT, h8⟩, -⟩ := id h
  have i0 := iv0 hB
  have i1 := iv1 hB
  refine tL_lay hS hM hB (fun J2 o2 c2 => ⟨_, rfl, hR.1, ?_⟩)
  have kk := (fun q => And.intro q.1 ⟨q.2.1, (show vN (gLay (J q_s) (lev (J q_s)) (vN (J q_s) 0)) 8 ≤ 1999 by rw [vN_eq (d_lay _ _)]; exact h8)⟩ : InvB _ ∧ InvT _ ∧ _ → InvB _ ∧ InvT _ ∧ _) (k_lay hB hT (f := lev (J q_s)) (fun c => lev_lt c) _ (Nat.le_refl _))
  have h2 := LR_1 h o2 c2 kk.1 kk.2.1 kk.2.2
  have hC := h2.2.1
  refine zM_s (o2 259 (by omega)) ?_
  exact c_X12_lay hR hB (fun I hI => ⟨rfl, lr_end h2 (fun a ha => hI a (fun e => ha (by rw [e]; unfold lrOff; decide)) (fun e => ha (by rw [e]; unfold lrOff; decide))), Nat.le_refl _, by omega⟩)
theorem lw_haul (h : LR Z J (J q_s)) : lawP l G Z J mX11_haul mX12_haul 5 2 0 0 [] := by
  obtain ⟨⟨hS, hR, hZ⟩, hC, ⟨hM, hB, hT, h8⟩, -⟩ := id h
  have i0 := iv0 hB
  have i1 := iv1 hB
  refine tL_haul hS hM hB (fun J2 o2 c2 => ⟨_, rfl, hR.1, ?_⟩)
  have h2 := LR_1 h o2 c2 hB hT h8
  have hC := h2.2.1
  refine zM_s (o2 259 (by omega)) ?_
  exact c_X12_haul hR hB (fun I hI => ⟨rfl, lr_end h2 (fun a ha => hI a (fun e => ha (by rw [e]; unfold lrOff; decide)) (fun e => ha (by rw [e]; unfold lrOff; decide))), Nat.le_refl _, by omega⟩)
theorem lw_work {x y v : Int32} (h : LR Z J (J q_s)) : lawP l G Z J mX11_work mX12_work 2 2 0 0 [.int x, .int y, .int v] := by
  obtain ⟨⟨hS, hR, hZ⟩, hC, ⟨hM, hB, hT, h8⟩, -⟩ := id h
  have i0 := iv0 hB
  have i1 := iv1 hB
  refine tL_work hS hM hB (fun J2 o2 c2 => ⟨_, rfl, hR.1, ?_⟩)
  have kk := (fun q => And.intro q.1 ⟨q.2, (show vN (f_work (J q_s) x y v).2 8 ≤ 1999 by rw [vN_eq (d_work x y v)]; exact h8)⟩ : InvB _ ∧ InvT _ → InvB _ ∧ InvT _ ∧ _) (k_work hB hT x y v)
  have h2 := LR_1 h o2 c2 kk.1 kk.2.1 kk.2.2
  have hC := h2.2.1
  refine zM_s (o2 259 (by omega)) ?_
  exact c_X12_work hR hB ⟨rfl, lr_end h2 (fun a ha => rfl), Nat.le_refl _, by omega⟩
theorem lw_told {x y : Int32} (h : LR Z J (J q_s)) : lawP l G Z J mX11_told mX12_told 3 3 0 0 [.int x, .int y] := by
  obtain ⟨⟨hS, hR, hZ⟩, hC, ⟨hM, hB, hT, h8⟩, -⟩ := id h
  have i0 := iv0 hB
  have i1 := iv1 hB
  refine tL_told hS hM hB ⟨_, rfl, hR.1, ?_⟩
  have h2 := h
  refine zM_s rfl ?_
  exact c_X12_told hR hC hB ⟨rfl, lr_end h2 (fun a ha => rfl), Nat.le_refl _, by omega⟩
theorem lw_as {x y : Int32} (h : LR Z J (J q_s)) : lawP l G Z J mX11_as mX12_as 2 2 0 0 [.int x, .int y] := by
  obtain ⟨⟨hS, hR, hZ⟩, hC, ⟨hM, hB, hT, h8⟩, -⟩ := id h
  have i0 := iv0 hB
  have i1 := iv1 hB
  refine tL_as hS hM hB ⟨_, rfl, hR.1, ?_⟩
  have h2 := h
  refine zM_s rfl ?_
  exact c_X12_as hR hB ⟨rfl, lr_end h2 (fun a ha => rfl), Nat.le_refl _, by omega⟩
theorem lw_ahead {x y : Int32} (h : LR Z J (J q_s)) : lawP l G Z J mX11_ahead mX12_ahead 2 2 0 0 [.int x, .int y] := by
  obtain ⟨⟨hS, hR, hZ⟩, hC, ⟨hM, hB, hT, h8⟩, -⟩ := id h
  have i0 := iv0 hB
  have i1 := iv1 hB
  refine tL_ahead hS hM hB (fun J2 o2 c2 => ⟨_, rfl, hR.1, ?_⟩)
  have kk := (fun q => And.intro q.1 ⟨q.2, (show vN (f_ahead (J q_s) x y).2 8 ≤ 1999 by rw [vN_eq (d_ahead x y)]; exact h8)⟩ : InvB _ ∧ InvT _ → InvB _ ∧ InvT _ ∧ _) (k_ahead hB hT x y)
  have h2 := LR_1 h o2 c2 kk.1 kk.2.1 kk.2.2
  have hC := h2.2.1
  refine zM_s (o2 259 (by omega)) ?_
  exact c_X12_ahead hR hB ⟨rfl, lr_end h2 (fun a ha => rfl), Nat.le_refl _, by omega⟩
theorem lw_days {x y : Int32} (h : LR Z J (J q_s)) : lawP l G Z J mX11_days mX12_days 2 2 0 0 [.int x, .int y] := by
  obtain ⟨⟨hS, hR, hZ⟩, hC, ⟨hM, hB, hT, h8⟩, -⟩ := id h
  have i0 := iv0 hB
  have i1 := iv1 hB
  refine tL_days hS hM hB (fun J2 o2 c2 => ⟨_, rfl, hR.1, ?_⟩)
  have kk := (fun q => And.intro q.1 ⟨q.2, (show vN (f_days (J q_s) x y).2 8 ≤ 1999 by rw [vN_eq (d_days x y)]; exact h8)⟩ : InvB _ ∧ InvT _ → InvB _ ∧ InvT _ ∧ _) (k_days hB hT x y)
  have h2 := LR_1 h o2 c2 kk.1 kk.2.1 kk.2.2
  have hC := h2.2.1
  refine zM_s (o2 259 (by omega)) ?_
  exact c_X12_days hR hB ⟨rfl, lr_end h2 (fun a ha => rfl), Nat.le_refl _, by omega⟩
theorem lw_gang {x : Int32} (h : LR Z J (J q_s)) : lawP l G Z J mX11_gang mX12_gang 1 1 0 0 [.int x] := by
  obtain ⟨⟨hS, hR, hZ⟩, hC, ⟨hM, hB, hT, h8⟩, -⟩ := id h
  have i0 := iv0 hB
  have i1 := iv1 hB
  refine tL_gang hS hM hB (fun J2 o2 c2 => ⟨_, rfl, hR.1, ?_⟩)
  have kk := (fun q => And.intro q.1 ⟨q.2, (show vN (f_gang (J q_s) x).2 8 ≤ 1999 by rw [vN_eq (d_gang x)]; exact h8)⟩ : InvB _ ∧ InvT _ → InvB _ ∧ InvT _ ∧ _) (k_gang hB hT x)
  have h2 := LR_1 h o2 c2 kk.1 kk.2.1 kk.2.2
  have hC := h2.2.1
  refine zM_s (o2 259 (by omega)) ?_
  exact c_X12_gang hR hB ⟨rfl, lr_end h2 (fun a ha => rfl), Nat.le_refl _, by omega⟩
theorem lw_goes {x y : Int32} (h : LR Z J (J q_s)) : lawP l G Z J mX11_goes mX12_goes 2 2 0 0 [.int x, .int y] := by
  obtain ⟨⟨hS, hR, hZ⟩, hC, ⟨hM, hB, hT, h8⟩, -⟩ := id h
  have i0 := iv0 hB
  have i1 := iv1 hB
  refine tL_goes hS hM hB (fun J2 o2 c2 => ⟨_, rfl, hR.1, ?_⟩)
  have kk := (fun q => And.intro q.1 ⟨q.2, (show vN (f_goes (J q_s) x y).2 8 ≤ 1999 by rw [vN_eq (d_goes x y)]; exact h8)⟩ : InvB _ ∧ InvT _ → InvB _ ∧ InvT _ ∧ _) (k_goes hB hT x y)
  have h2 := LR_1 h o2 c2 kk.1 kk.2.1 kk.2.2
  have hC := h2.2.1
  refine zM_s (o2 259 (by omega)) ?_
  exact c_X12_goes hR hB ⟨rfl, lr_end h2 (fun a ha => rfl), Nat.le_refl _, by omega⟩
theorem lw_wet {x y : Int32} (h : LR Z J (J q_s)) : lawP l G Z J mX11_wet mX12_wet 1 1 0 0 [.int x, .int y] := by
  obtain ⟨⟨hS, hR, hZ⟩, hC, ⟨hM, hB, hT, h8⟩, -⟩ := id h
  have i0 := iv0 hB
  have i1 := iv1 hB
  refine tL_wet hS hM hB (fun J2 o2 c2 => ⟨_, rfl, hR.1, ?_⟩)
  have kk := (fun q => And.intro q.1 ⟨q.2, (show vN (f_wet (J q_s) x y).2 8 ≤ 1999 by rw [vN_eq (d_wet x y)]; exact h8)⟩ : InvB _ ∧ InvT _ → InvB _ ∧ InvT _ ∧ _) (k_wet hB hT x y)
  have h2 := LR_1 h o2 c2 kk.1 kk.2.1 kk.2.2
  have hC := h2.2.1
  refine zM_s (o2 259 (by omega)) ?_
  exact c_X12_wet hR ⟨rfl, lr_end h2 (fun a ha => rfl), Nat.le_refl _, by omega⟩
theorem lw_run {x : Int32} (h : LR Z J (J q_s)) : lawP l G Z J mX11_run mX12_run 6 6 0 0 [.int x] := by
  obtain ⟨⟨hS, hR, hZ⟩, hC, ⟨hM, hB, hT, h8⟩, -⟩ := id h
  have i0 := iv0 hB
  have i1 := iv1 hB
  refine tL_run hS hM hB hT (fun J2 o2 c2 => ⟨_, rfl, hR.1, ?_⟩)
  have kk := k_run hB hT h8 x
  have h2 := LR_1 h o2 c2 kk.1 kk.2.1 kk.2.2
  have hC := h2.2.1
  refine zM_s (o2 259 (by omega)) ?_
  exact c_X12_run hR hC hB hT (fun I hI => ⟨rfl, lr_end h2 (fun a ha => hI a (fun e => ha (by rw [e]; unfold lrOff; decide)) (fun e => ha (by rw [e]; unfold lrOff; decide))), Nat.le_refl _, by omega⟩)
theorem lw_foretold (h : LR Z J (J q_s)) : lawP l G Z J mX11_foretold mX12_foretold 4 4 0 0 [] := by
  obtain ⟨⟨hS, hR, hZ⟩, hC, ⟨hM, hB, hT, h8⟩, -⟩ := id h
  have i0 := iv0 hB
  have i1 := iv1 hB
  refine tL_foretold hS hM hB ⟨_, rfl, hR.1, ?_⟩
  have h2 := h
  refine zM_s rfl ?_
  exact c_X12_foretold hR hC hB ⟨rfl, lr_end h2 (fun a ha => rfl), Nat.le_refl _, by omega⟩
theorem lw_of {x y : Int32} (h : LR Z J (J q_s)) : lawP l G Z J mX11_of mX12_of 2 2 0 0 [.int x, .int y] := by
  obtain ⟨⟨hS, hR, hZ⟩, hC, ⟨hM, hB, hT, h8⟩, -⟩ := id h
  have i0 := iv0 hB
  have i1 := iv1 hB
  refine tL_of hS hM hB ⟨_, rfl, hR.1, ?_⟩
  have h2 := h
  refine zM_s rfl ?_
  exact c_X12_of hR hB ⟨rfl, lr_end h2 (fun a ha => rfl), Nat.le_refl _, by omega⟩
theorem lw_why {x : Int32} (h : LR Z J (J q_s)) : lawP l G Z J mX11_why mX12_why 2 2 0 0 [.int x] := by
  obtain ⟨⟨hS, hR, hZ⟩, hC, ⟨hM, hB, hT, h8⟩, -⟩ := id h
  have i0 := iv0 hB
  have i1 := iv1 hB
  refine tL_why hS hM hB hT ⟨_, rfl, hR.1, ?_⟩
  have h2 := h
  refine zM_s rfl ?_
  exact c_X12_why hR hB ⟨rfl, lr_end h2 (fun a ha => rfl), Nat.le_refl _, by omega⟩
theorem lw_rules {x y v w : Int32} (h : LR Z J (J q_s)) : lawP l G Z J mX11_rules mX12_rules 3 3 0 0 [.int x, .int y, .int v, .int w] := by
  obtain ⟨⟨hS, hR, hZ⟩, hC, ⟨hM, hB, hT, h8⟩, -⟩ := id h
  have i0 := iv0 hB
  have i1 := iv1 hB
  refine tL_rules hS hM hB hT (fun J2 o2 c2 => ⟨_, rfl, hR.1, ?_⟩)
  have h2 := LR_1 h o2 c2 hB hT h8
  have hC := h2.2.1
  refine zM_s (o2 259 (by omega)) ?_
  exact c_X12_rules hR hB hT (fun I hI => ⟨rfl, lr_end h2 (fun a ha => hI a (fun e => ha (by rw [e]; unfold lrOff; decide)) (fun e => ha (by rw [e]; unfold lrOff; decide))), Nat.le_refl _, by omega⟩)
theorem lw_price {x : Int32} (h : LR Z J (J q_s)) : lawP l G Z J mX11_price mX12_price 4 4 0 0 [.int x] := by
  obtain ⟨⟨hS, hR, hZ⟩, hC, ⟨hM, hB, hT, h8⟩, -⟩ := id h
  have i0 := iv0 hB
  have i1 := iv1 hB
  refine tL_price hS hM hB hT (fun J2 o2 c2 => ⟨_, rfl, hR.1, ?_⟩)
  have h2 := LR_1 h o2 c2 hB hT h8
  have hC := h2.2.1
  refine zM_s (o2 259 (by omega)) ?_
  exact c_X12_price hR hB hT (fun I hI => ⟨rfl, lr_end h2 (fun a ha => hI a (fun e => ha (by rw [e]; unfold lrOff; decide)) (fun e => ha (by rw [e]; unfold lrOff; decide))), Nat.le_refl _, by omega⟩)
theorem lw_measure {x y v : Int32} (h : LR Z J (J q_s)) : lawP l G Z J mX11_measure mX12_measure 2 2 0 0 [.int x, .int y, .int v] := by
  obtain ⟨⟨hS, hR, hZ⟩, hC, ⟨hM, hB, hT, h8⟩, -⟩ := id h
  have i0 := iv0 hB
  have i1 := iv1 hB
  refine tL_measure hS hM hB (fun J2 o2 c2 => ⟨_, rfl, hR.1, ?_⟩)
  have kk := (fun q => And.intro q.1 ⟨q.2, (show vN (f_measure (J q_s) x y v).2 8 ≤ 1999 by rw [vN_eq (d_measure x y v)]; exact h8)⟩ : InvB _ ∧ InvT _ → InvB _ ∧ InvT _ ∧ _) (k_measure hB hT x y v)
  have h2 := LR_1 h o2 c2 kk.1 kk.2.1 kk.2.2
  have hC := h2.2.1
  refine zM_s (o2 259 (by omega)) ?_
  exact c_X12_measure hR hB ⟨rfl, lr_end h2 (fun a ha => rfl), Nat.le_refl _, by omega⟩
theorem lw_quarrels (h : LR Z J (J q_s)) : lawP l G Z J mX11_quarrels mX12_quarrels 1 1 0 0 [] := by
  obtain ⟨⟨hS, hR, hZ⟩, hC, ⟨hM, hB, hT, h8⟩, -⟩ := id h
  have i0 := iv0 hB
  have i1 := iv1 hB
  refine tL_quarrels hS hM hB ⟨_, rfl, hR.1, ?_⟩
  have h2 := h
  refine zM_s rfl ?_
  exact c_X12_quarrels hR hB ⟨rfl, lr_end h2 (fun a ha => rfl), Nat.le_refl _, by omega⟩
theorem lw_claim {x y v : Int32} (h : LR Z J (J q_s)) : lawP l G Z J mX11_claim mX12_claim 1 1 0 0 [.int x, .int y, .int v] := by
  obtain ⟨⟨hS, hR, hZ⟩, hC, ⟨hM, hB, hT, h8⟩, -⟩ := id h
  have i0 := iv0 hB
  have i1 := iv1 hB
  refine tL_claim hS hM hB (fun J2 o2 c2 => ⟨_, rfl, hR.1, ?_⟩)
  have kk := (fun q => And.intro q.1 ⟨q.2, (show vN (f_claim (J q_s) x y v).2 8 ≤ 1999 by rw [vN_eq (d_claim x y v)]; exact h8)⟩ : InvB _ ∧ InvT _ → InvB _ ∧ InvT _ ∧ _) (k_claim hB hT x y v)
  have h2 := LR_1 h o2 c2 kk.1 kk.2.1 kk.2.2
  have hC := h2.2.1
  refine zM_s (o2 259 (by omega)) ?_
  exact c_X12_claim hR hB ⟨rfl, lr_end h2 (fun a ha => rfl), Nat.le_refl _, by omega⟩
theorem lw_given {x : Int32} (h : LR Z J (J q_s)) : lawP l G Z J mX11_given mX12_given 5 4 0 0 [.int x] := by
  obtain ⟨⟨hS, hR, hZ⟩, hC, ⟨hM, hB, hT, h8⟩, -⟩ := id h
  have i0 := iv0 hB
  have i1 := iv1 hB
  refine tL_given hS hM hB hT (fun J2 o2 c2 => ⟨_, rfl, hR.1, ?_⟩)
  have h2 := LR_1 h o2 c2 hB hT h8
  have hC := h2.2.1
  refine zM_s (o2 259 (by omega)) ?_
  exact c_X12_given hR hB hT (fun I hI => ⟨rfl, lr_end h2 (fun a ha => hI a (fun e => ha (by rw [e]; unfold lrOff; decide)) (fun e => ha (by rw [e]; unfold lrOff; decide)) (fun e => ha (by rw [e]; unfold lrOff; decide)) (fun e => ha (by rw [e]; unfold lrOff; decide))), Nat.le_refl _, by omega⟩)
theorem lw_late {x : Int32} (h : LR Z J (J q_s)) : lawP l G Z J mX11_late mX12_late 5 4 0 0 [.int x] := by
  obtain ⟨⟨hS, hR, hZ⟩, hC, ⟨hM, hB, hT, h8⟩, -⟩ := id h
  have i0 := iv0 hB
  have i1 := iv1 hB
  refine tL_late hS hM hB hT (fun J2 o2 c2 => ⟨_, rfl, hR.1, ?_⟩)
  have h2 := LR_1 h o2 c2 hB hT h8
  have hC := h2.2.1
  refine zM_s (o2 259 (by omega)) ?_
  exact c_X12_late hR hB hT (fun I hI => ⟨rfl, lr_end h2 (fun a ha => hI a (fun e => ha (by rw [e]; unfold lrOff; decide)) (fun e => ha (by rw [e]; unfold lrOff; decide)) (fun e => ha (by rw [e]; unfold lrOff; decide)) (fun e => ha (by rw [e]; unfold lrOff; decide))), Nat.le_refl _, by omega⟩)
theorem lw_call {x : Int32} (h : LR Z J (J q_s)) : lawP l G Z J mX11_call mX12_call 1 1 0 0 [.int x] := by
  obtain ⟨⟨hS, hR, hZ⟩, hC, ⟨hM, hB, hT, h8⟩, -⟩ := id h
  have i0 := iv0 hB
  have i1 := iv1 hB
  refine tL_call hS hM hB (fun J2 o2 c2 => ⟨_, rfl, hR.1, ?_⟩)
  have kk := (fun q => And.intro q.1 ⟨q.2, (show vN (f_call (J q_s) x).2 8 ≤ 1999 by rw [vN_eq (d_call x)]; exact h8)⟩ : InvB _ ∧ InvT _ → InvB _ ∧ InvT _ ∧ _) (k_call hB hT x)
  have h2 := LR_1 h o2 c2 kk.1 kk.2.1 kk.2.2
  have hC := h2.2.1
  refine zM_s (o2 259 (by omega)) ?_
  exact c_X12_call hR ⟨rfl, lr_end h2 (fun a ha => rfl), Nat.le_refl _, by omega⟩
theorem lw_due {x y : Int32} (h : LR Z J (J q_s)) : lawP l G Z J mX11_due mX12_due 1 1 0 0 [.int x, .int y] := by
  obtain ⟨⟨hS, hR, hZ⟩, hC, ⟨hM, hB, hT, h8⟩, -⟩ := id h
  have i0 := iv0 hB
  have i1 := iv1 hB
  refine tL_due hS hM hB (fun J2 o2 c2 => ⟨_, rfl, hR.1, ?_⟩)
  have kk := (fun q => And.intro q.1 ⟨q.2, (show vN (f_due (J q_s) x y).2 8 ≤ 1999 by rw [vN_eq (d_due x y)]; exact h8)⟩ : InvB _ ∧ InvT _ → InvB _ ∧ InvT _ ∧ _) (k_due hB hT x y)
  have h2 := LR_1 h o2 c2 kk.1 kk.2.1 kk.2.2
  have hC := h2.2.1
  refine zM_s (o2 259 (by omega)) ?_
  exact c_X12_due hR hB ⟨rfl, lr_end h2 (fun a ha => rfl), Nat.le_refl _, by omega⟩
theorem lw_out (h : LR Z J (J q_s)) : lawP l G Z J mX11_out mX12_out 2 1 0 0 [] := by
  obtain ⟨⟨hS, hR, hZ⟩, hC, ⟨hM, hB, hT, h8⟩, -⟩ := id h
  have i0 := iv0 hB
  have i1 := iv1 hB
  refine tL_out hS hM hB ⟨_, rfl, hR.1, ?_⟩
  have h2 := h
  refine zM_s rfl ?_
  exact c_X12_out hR hB ⟨rfl, lr_end h2 (fun a ha => rfl), Nat.le_refl _, by omega⟩
theorem lw_face {x y : Int32} (h : LR Z J (J q_s)) : lawP l G Z J mX11_face mX12_face 1 1 0 0 [.int x, .int y] := by
  obtain ⟨⟨hS, hR, hZ⟩, hC, ⟨hM, hB, hT, h8⟩, -⟩ := id h
  have i0 := iv0 hB
  have i1 := iv1 hB
  refine tL_face hS hM hB (fun J2 o2 c2 => ⟨_, rfl, hR.1, ?_⟩)
  have kk := (fun q => And.intro q.1 ⟨q.2, (show vN (f_face (J q_s) x y).2 8 ≤ 1999 by rw [vN_eq (d_face x y)]; exact h8)⟩ : InvB _ ∧ InvT _ → InvB _ ∧ InvT _ ∧ _) (k_face hB hT x y)
  have h2 := LR_1 h o2 c2 kk.1 kk.2.1 kk.2.2
  have hC := h2.2.1
  refine zM_s (o2 259 (by omega)) ?_
  exact c_X12_face hR hB ⟨rfl, lr_end h2 (fun a ha => rfl), Nat.le_refl _, by omega⟩
theorem lw_meets {x : Int32} (h : LR Z J (J q_s)) : lawP l G Z J mX11_meets mX12_meets 3 1 0 0 [.int x] := by
  obtain ⟨⟨hS, hR, hZ⟩, hC, ⟨hM, hB, hT, h8⟩, -⟩ := id h
  have i0 := iv0 hB
  have i1 := iv1 hB
  refine tL_meets hS hM hB ⟨_, rfl, hR.1, ?_⟩
  have h2 := h
  refine zM_s rfl ?_
  exact c_X12_meets hR hB ⟨rfl, lr_end h2 (fun a ha => rfl), Nat.le_refl _, by omega⟩
theorem lw_arch {x : Int32} (h : LR Z J (J q_s)) : lawP l G Z J mX11_arch mX12_arch 1 1 0 0 [.int x] := by
  obtain ⟨⟨hS, hR, hZ⟩, hC, ⟨hM, hB, hT, h8⟩, -⟩ := id h
  have i0 := iv0 hB
  have i1 := iv1 hB
  refine tL_arch hS hM hB (fun J2 o2 c2 => ⟨_, rfl, hR.1, ?_⟩)
  have kk := (fun q => And.intro q.1 ⟨q.2, (show vN (f_arch (J q_s) x).2 8 ≤ 1999 by rw [vN_eq (d_arch x)]; exact h8)⟩ : InvB _ ∧ InvT _ → InvB _ ∧ InvT _ ∧ _) (k_arch hB hT x)
  have h2 := LR_1 h o2 c2 kk.1 kk.2.1 kk.2.2
  have hC := h2.2.1
  refine zM_s (o2 259 (by omega)) ?_
  exact c_X12_arch hR hB ⟨rfl, lr_end h2 (fun a ha => rfl), Nat.le_refl _, by omega⟩
theorem lw_order {x y : Int32} (h : LR Z J (J q_s)) : lawP l G Z J mX11_order mX12_order 4 2 0 0 [.int x, .int y] := by
  obtain ⟨⟨hS, hR, hZ⟩, hC, ⟨hM, hB, hT, h8⟩, -⟩ := id h
  have i0 := iv0 hB
  have i1 := iv1 hB
  refine tL_order hS hM hB (fun J2 o2 c2 => ⟨_, rfl, hR.1, ?_⟩)
  have h2 := LR_1 h o2 c2 hB hT h8
  have hC := h2.2.1
  refine zM_s (o2 259 (by omega)) ?_
  exact c_X12_order hR hB (fun I hI => ⟨rfl, lr_end h2 (fun a ha => hI a (fun e => ha (by rw [e]; unfold lrOff; decide))), Nat.le_refl _, by omega⟩)
theorem lw_through {x : Int32} (h : LR Z J (J q_s)) : lawP l G Z J mX11_through mX12_through 4 2 0 0 [.int x] := by
  obtain ⟨⟨hS, hR, hZ⟩, hC, ⟨hM, hB, hT, h8⟩, -⟩ := id h
  have i0 := iv0 hB
  have i1 := iv1 hB
  refine tL_through hS hM hB (fun J2 o2 c2 => ⟨_, rfl, hR.1, ?_⟩)
  have h2 := LR_1 h o2 c2 hB hT h8
  have hC := h2.2.1
  refine zM_s (o2 259 (by omega)) ?_
  exact c_X12_through hR hB (fun I hI => ⟨rfl, lr_end h2 (fun a ha => hI a (fun e => ha (by rw [e]; unfold lrOff; decide))), Nat.le_refl _, by omega⟩)
theorem lw_chain {x y : Int32} (h : LR Z J (J q_s)) : lawP l G Z J mX11_chain mX12_chain 5 2 0 0 [.int x, .int y] := by
  obtain ⟨⟨hS, hR, hZ⟩, hC, ⟨hM, hB, hT, h8⟩, -⟩ := id h
  have i0 := iv0 hB
  have i1 := iv1 hB
  refine tL_chain hS hM hB (fun J2 o2 c2 => ⟨_, rfl, hR.1, ?_⟩)
  have h2 := LR_1 h o2 c2 hB hT h8
  have hC := h2.2.1
  refine zM_s (o2 259 (by omega)) ?_
  exact c_X12_chain hR hB (fun I hI => ⟨rfl, lr_end h2 (fun a ha => hI a (fun e => ha (by rw [e]; unfold lrOff; decide))), Nat.le_refl _, by omega⟩)
end
