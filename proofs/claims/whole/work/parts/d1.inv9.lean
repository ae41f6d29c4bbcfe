/-! ===== what always holds is kept: goes, run, text; the day ===== -/
section
variable {g g' : Nat → Int32}
theorem InvB_GW (hB : InvB g) (h : ∀ i, (i < 120 ∨ 376 ≤ i ∨ (i < 360 ∧ i % 10 ≠ 4) ∨ (360 ≤ i ∧ i % 2 = 0)) → g' i = g i) (hw : ∀ w, w < vN g 1 → rg (g' (120 + 10 * w + 4)) (-1) ((vN g 2 : Int) - 1)) (hk : ∀ k, k < vN g 2 → rg (g' (360 + 2 * k + 1)) (-1) ((vN g 1 : Int) - 1)) (hm : ∀ w k, w < vN g 1 → k < vN g 2 → (g' (360 + 2 * k + 1) = nI w ↔ g' (120 + 10 * w + 4) = nI k)) : InvB g' := by
  have m0 := (iv0 hB).2.2
  have m1 := (iv1 hB).2
  have m2 := (iv2 hB).2
  have m4 := (iv4 hB).2
  have m5 := (iv5 hB).2
  have m6 := (iv6 hB).2
  have m7 := (iv7 hB).2
  obtain ⟨⟨a0, a1, a2, a3, a4, a5, a6, a7, a8⟩, b, c, d, e, f, k, ll, m, nn, o⟩ := hB
  unfold InvB
  rw [vN_eq (h 0 (by omega)), vN_eq (h 1 (by omega)), vN_eq (h 2 (by omega)), vN_eq (h 4 (by omega)), vN_eq (h 5 (by omega)), vN_eq (h 6 (by omega)), vN_eq (h 7 (by omega)), h 0 (by omega), h 1 (by omega), h 2 (by omega), h 3 (by omega), h 4 (by omega), h 5 (by omega), h 6 (by omega), h 7 (by omega), h 8 (by omega)]
  refine ⟨⟨a0, a1, a2, a3, a4, a5, a6, a7, a8⟩, ?_, ?_, ?_, ?_, hm, ?_, ?_, ?_, ?_, ?_⟩
  · intro j hj; rw [h _ (by omega)]; exact b j hj
  · intro j hj
    unfold chainOK
    rw [h _ (by omega), h _ (by omega), h _ (by omega), h _ (by omega)]; exact c j hj
  · intro w hww
    have hd := d w hww
    unfold workOK at hd ⊢
    rw [vN_eq (h 0 (by omega)), vN_eq (h 2 (by omega)), h (120 + 10 * w) (by omega), h (120 + 10 * w + 1) (by omega), h (120 + 10 * w + 2) (by omega), h (120 + 10 * w + 3) (by omega), h (120 + 10 * w + 5) (by omega), h (120 + 10 * w + 6) (by omega), h (120 + 10 * w + 7) (by omega), h (120 + 10 * w + 8) (by omega), h (120 + 10 * w + 9) (by omega)]
    obtain ⟨d1, d2, d3, d4, d5, d6⟩ := hd
    exact ⟨d1, d2, d3, d4, hw w hww, d6⟩
  · intro j hj; rw [h (360 + 2 * j) (by omega)]; exact ⟨(e j hj).1, hk j hj⟩
  · intro j hj; rw [h _ (by omega), h _ (by omega), h _ (by omega)]; exact k j hj
  · intro j hj; rw [h _ (by omega)]; exact ll j hj
  · intro j hj; rw [h _ (by omega), h _ (by omega)]; exact m j hj
  · intro j hj; rw [h _ (by omega)]; exact nn j hj
  · intro j hj; rw [h _ (by omega)]; exact o j hj
theorem gLv_off {k i : Nat} (hB : InvB g) (hk : k < vN g 2) (h : i < 120 ∨ 360 ≤ i ∨ i % 10 ≠ 4) : gLeave g k i = g i := by
  unfold gLeave
  split
  · rfl
  · rename_i hn
    have he := (hB.2.2.2.2.1 k hk).2
    have m1 := (iv1 hB).2
    have hu : vN g (360 + 2 * k + 1) < vN g 1 := by
      unfold rg at he
      have h9 : (vN g (360 + 2 * k + 1) : Int) = (g (360 + 2 * k + 1)).toInt := by
        unfold vN
        show (((g (360 + 2 * k + 1)).toInt.toNat : Nat) : Int) = _
        omega
      omega
    exact upd_off (by omega)
theorem gLv_at {k w : Nat} (hB : InvB g) (hk : k < vN g 2) (hw : w < vN g 1) : gLeave g k (120 + 10 * w + 4) = if g (360 + 2 * k + 1) = nI w then -1 else g (120 + 10 * w + 4) := by
  have he := (hB.2.2.2.2.1 k hk).2
  have m1 := (iv1 hB).2
  unfold gLeave
  split
  · rename_i hn
    rw [if_neg]
    intro e9
    rw [e9, nI_toInt (by omega)] at hn
    omega
  · rename_i hn
    have h9 : g (360 + 2 * k + 1) = nI (vN g (360 + 2 * k + 1)) := rg_nI (lo := 0) (hi := (vN g 1 : Int) - 1) (by unfold rg at he ⊢; omega) (by omega) (by omega)
    have h8 : (vN g (360 + 2 * k + 1) : Int) ≤ (vN g 1 : Int) - 1 := (rg_le (lo := 0) (hi := (vN g 1 : Int) - 1) (by unfold rg at he ⊢; omega) (by omega)).2
    by_cases e9 : vN g (360 + 2 * k + 1) = w
    · rw [e9, upd_same, if_pos (by rw [h9, e9])]
    · rw [upd_off (by omega), if_neg]
      intro e8
      rw [h9, nI_eq (by omega) (by omega)] at e8
      exact e9 e8
theorem k_goes (hB : InvB g) (hT : InvT g) (x y : Int32) : InvB (f_goes g x y).2 ∧ InvT (f_goes g x y).2 := by
  have m1 := (iv1 hB).2
  have m2 := (iv2 hB).2
  have hgang : ∀ k w w', k < vN g 2 → w < vN g 1 → w' < vN g 1 → g (360 + 2 * k + 1) = nI w → g (360 + 2 * k + 1) = nI w' → w = w' := fun k w w' _ h1 h2 a b => (nI_eq (by omega) (by omega)).mp (a.symm.trans b)
  have hwork : ∀ w k k', w < vN g 1 → k < vN g 2 → k' < vN g 2 → g (120 + 10 * w + 4) = nI k → g (120 + 10 * w + 4) = nI k' → k = k' := fun w k k' _ h1 h2 a b => (nI_eq (by omega) (by omega)).mp (a.symm.trans b)
  unfold f_goes
  split
  · rename_i hx
    have hxr : x = nI (ix x) ∧ ix x < vN g 2 := by
      have hr : rg x 0 ((vN g 2 : Int) - 1) := zin_t hx.1
      have h9 := rg_nI (g := fun _ => x) (i := 0) hr (by omega) (by omega)
      have h8 := rg_le (g := fun _ => x) (i := 0) hr (by omega)
      have h7 : (vN (fun _ => x) 0) = ix x := rfl
      exact ⟨h9, by omega⟩
    split
    · refine ⟨InvB_GW hB (fun i hi => ?_) (fun w hw => ?_) (fun k hk => ?_) (fun w k hw hk => ?_), InvT_off ?_ (fun i hi => ?_) hT⟩
      · show upd (gLeave g (ix x)) _ _ i = _
        rw [upd_off (by omega)]; exact gLv_off hB hxr.2 (by omega)
      · show rg (upd (gLeave g (ix x)) _ _ _) _ _
        rw [upd_off (by omega), gLv_at hB hxr.2 hw]
        split
        · exact rg_m1 _ (by omega)
        · exact (hB.2.2.2.1 w hw).2.2.2.2.1
      · show rg (upd (gLeave g (ix x)) _ _ _) _ _
        by_cases e : k = ix x
        · subst e; rw [upd_same]; exact rg_m1 _ (by omega)
        · rw [upd_off (by omega), gLv_off hB hxr.2 (by omega)]; exact (hB.2.2.2.2.1 k hk).2
      · show upd (gLeave g (ix x)) _ _ _ = _ ↔ upd (gLeave g (ix x)) _ _ _ = _
        rw [upd_off (show 120 + 10 * w + 4 ≠ 360 + 2 * ix x + 1 by omega), gLv_at hB hxr.2 hw]
        have hmt := hB.2.2.2.2.2.1
        by_cases e : k = ix x
        · subst e
          rw [upd_same]
          refine ⟨fun a => absurd a (nI_m1 (by omega)), fun a => ?_⟩
          split at a
          · exact absurd a (nI_m1 (by omega))
          · rename_i hne
            exact absurd ((hmt w _ hw hxr.2).mpr a) hne
        · rw [upd_off (by omega), gLv_off hB hxr.2 (by omega)]
          split
          · rename_i he
            refine ⟨fun a => ?_, fun a => absurd a (nI_m1 (by omega))⟩
            exact absurd (hwork w k _ hw hk hxr.2 ((hmt w k hw hk).mp a) ((hmt w _ hw hxr.2).mp he)) e
          · exact hmt w k hw hk
      · show upd (gLeave g (ix x)) _ _ 3 = _
        rw [upd_off (by omega)]; exact gLv_off hB hxr.2 (by omega)
      · show upd (gLeave g (ix x)) _ _ i = _
        rw [upd_off (by omega)]; exact gLv_off hB hxr.2 (by omega)
    · rename_i hyn
      have hyr : y = nI (ix y) ∧ ix y < vN g 1 := by
        have hr : rg y 0 ((vN g 1 : Int) - 1) := zin_t (hx.2.resolve_left hyn)
        have h9 := rg_nI (g := fun _ => y) (i := 0) hr (by omega) (by omega)
        have h8 := rg_le (g := fun _ => y) (i := 0) hr (by omega)
        have h7 : (vN (fun _ => y) 0) = ix y := rfl
        exact ⟨h9, by omega⟩
      split
      · rename_i hfree
        have hno : ∀ k, k < vN g 2 → k ≠ ix x → ¬ g (120 + 10 * ix y + 4) = nI k := fun k hk hkx a => by
          rcases hfree with b | b
          · rw [a, nI_toInt (by omega)] at b; omega
          · rw [hxr.1] at b
            exact hkx ((nI_eq (by omega) (by omega)).mp (a.symm.trans b))
        have hat : ∀ w, w < vN g 1 → upd (upd (gLeave g (ix x)) (360 + 2 * ix x + 1) y) (120 + 10 * ix y + 4) x (120 + 10 * w + 4) = if w = ix y then x else if g (360 + 2 * ix x + 1) = nI w then -1 else g (120 + 10 * w + 4) := fun w hw => by
          by_cases e : w = ix y
          · subst e; rw [upd_same, if_pos rfl]
          · rw [upd_off (by omega), upd_off (by omega), gLv_at hB hxr.2 hw, if_neg e]
        have hbt : ∀ k, k < vN g 2 → upd (upd (gLeave g (ix x)) (360 + 2 * ix x + 1) y) (120 + 10 * ix y + 4) x (360 + 2 * k + 1) = if k = ix x then y else g (360 + 2 * k + 1) := fun k hk => by
          rw [upd_off (by omega)]
          by_cases e : k = ix x
          · subst e; rw [upd_same, if_pos rfl]
          · rw [upd_off (by omega), gLv_off hB hxr.2 (by omega), if_neg e]
        have hof : ∀ i, (i < 120 ∨ 376 ≤ i ∨ (i < 360 ∧ i % 10 ≠ 4) ∨ (360 ≤ i ∧ i % 2 = 0)) → upd (upd (gLeave g (ix x)) (360 + 2 * ix x + 1) y) (120 + 10 * ix y + 4) x i = g i := fun i hi => by
          rw [upd_off (by omega), upd_off (by omega)]; exact gLv_off hB hxr.2 (by omega)
        refine ⟨InvB_GW hB hof (fun w hw => ?_) (fun k hk => ?_) (fun w k hw hk => ?_), InvT_off (hof 3 (by omega)) (fun i hi => hof i (by omega)) hT⟩
        · show rg (upd (upd (gLeave g (ix x)) (360 + 2 * ix x + 1) y) (120 + 10 * ix y + 4) x _) _ _
          rw [hat w hw]
          split
          · rw [hxr.1]; exact rg_n (by omega) (by omega) (by omega)
          · split
            · exact rg_m1 _ (by omega)
            · exact (hB.2.2.2.1 w hw).2.2.2.2.1
        · show rg (upd (upd (gLeave g (ix x)) (360 + 2 * ix x + 1) y) (120 + 10 * ix y + 4) x _) _ _
          rw [hbt k hk]
          split
          · rw [hyr.1]; exact rg_n (by omega) (by omega) (by omega)
          · exact (hB.2.2.2.2.1 k hk).2
        · show upd (upd (gLeave g (ix x)) (360 + 2 * ix x + 1) y) (120 + 10 * ix y + 4) x _ = _ ↔ upd (upd (gLeave g (ix x)) (360 + 2 * ix x + 1) y) (120 + 10 * ix y + 4) x _ = _
          rw [hat w hw, hbt k hk]
          have hmt := hB.2.2.2.2.2.1
          by_cases ek : k = ix x
          · rw [if_pos ek]
            by_cases ew : w = ix y
            · rw [if_pos ew, ek, ew]; exact ⟨fun _ => hxr.1, fun _ => hyr.1⟩
            · rw [if_neg ew]
              refine ⟨fun a => ?_, fun a => ?_⟩
              · rw [hyr.1] at a
                exact absurd ((nI_eq (by omega) (by omega)).mp a).symm ew
              · split at a
                · exact absurd a (nI_m1 (by omega))
                · rename_i hne
                  rw [ek] at a
                  exact absurd ((hmt w _ hw hxr.2).mpr a) hne
          · rw [if_neg ek]
            by_cases ew : w = ix y
            · rw [if_pos ew, ew]
              refine ⟨fun a => absurd ((hmt _ k hyr.2 hk).mp a) (hno k hk ek), fun a => ?_⟩
              rw [hxr.1] at a
              exact absurd ((nI_eq (by omega) (by omega)).mp a).symm ek
            · rw [if_neg ew]
              split
              · rename_i he
                refine ⟨fun a => ?_, fun a => absurd a (nI_m1 (by omega))⟩
                exact absurd (hwork w k _ hw hk hxr.2 ((hmt w k hw hk).mp a) ((hmt w _ hw hxr.2).mp he)) ek
              · exact hmt w k hw hk
      · exact ⟨hB, hT⟩
  · exact ⟨hB, hT⟩
theorem k_run (hB : InvB g) (hT : InvT g) (h8 : vN g 8 ≤ 1999) (x : Int32) : InvB (f_run g x).2 ∧ InvT (f_run g x).2 ∧ vN (f_run g x).2 8 ≤ 1999 := by
  unfold f_run
  split
  · split
    · exact ⟨hB, hT, h8⟩
    · rename_i h
      have := gDays_ok hB hT (ix x) (by omega)
      exact ⟨this.1, this.2.1, by show vN (gDays g (ix x)) 8 ≤ 1999; rw [this.2.2]; omega⟩
  · exact ⟨hB, hT, h8⟩
theorem InvB_T (hB : InvB g) (h : ∀ i, i < 2510 → i ≠ 3 → g' i = g i) (h3 : rg (g' 3) 0 14) : InvB g' := by
  have m0 := (iv0 hB).2.2
  have m1 := (iv1 hB).2
  have m2 := (iv2 hB).2
  have m4 := (iv4 hB).2
  have m5 := (iv5 hB).2
  have m6 := (iv6 hB).2
  have m7 := (iv7 hB).2
  obtain ⟨⟨a0, a1, a2, a3, a4, a5, a6, a7, a8⟩, b, c, d, e, f, k, ll, m, nn, o⟩ := hB
  unfold InvB
  rw [vN_eq (h 0 (by omega) (by omega)), vN_eq (h 1 (by omega) (by omega)), vN_eq (h 2 (by omega) (by omega)), vN_eq (h 4 (by omega) (by omega)), vN_eq (h 5 (by omega) (by omega)), vN_eq (h 6 (by omega) (by omega)), vN_eq (h 7 (by omega) (by omega)), h 0 (by omega) (by omega), h 1 (by omega) (by omega), h 2 (by omega) (by omega), h 4 (by omega) (by omega), h 5 (by omega) (by omega), h 6 (by omega) (by omega), h 7 (by omega) (by omega), h 8 (by omega) (by omega)]
  refine ⟨⟨a0, a1, a2, h3, a4, a5, a6, a7, a8⟩, ?_, ?_, ?_, ?_, ?_, ?_, ?_, ?_, ?_, ?_⟩
  · intro j hj; rw [h _ (by omega) (by omega)]; exact b j hj
  · intro j hj
    unfold chainOK
    rw [h _ (by omega) (by omega), h _ (by omega) (by omega), h _ (by omega) (by omega), h _ (by omega) (by omega)]; exact c j hj
  · intro w hw; exact workOK_off (h 0 (by omega) (by omega)) (h 2 (by omega) (by omega)) (fun j _ => h _ (by omega) (by omega)) (d w hw)
  · intro j hj; rw [h _ (by omega) (by omega), h _ (by omega) (by omega)]; exact e j hj
  · intro w j hw hj; rw [h _ (by omega) (by omega), h _ (by omega) (by omega)]; exact f w j hw hj
  · intro j hj; rw [h _ (by omega) (by omega), h _ (by omega) (by omega), h _ (by omega) (by omega)]; exact k j hj
  · intro j hj; rw [h _ (by omega) (by omega)]; exact ll j hj
  · intro j hj; rw [h _ (by omega) (by omega), h _ (by omega) (by omega)]; exact m j hj
  · intro j hj; rw [h _ (by omega) (by omega)]; exact nn j hj
  · intro j hj; rw [h _ (by omega) (by omega)]; exact o j hj
/-- a text more is well kept -/
theorem k_gT (hB : InvB g) (hT : InvT g) {f : Nat → Int32} {t n key : Nat} {x : Int32} (ht : t ≤ 96) (hn : g 3 = nI n) (hn14 : n < 14) (hx : zin x 0 1999 = true) (hk : (txF f t).1 = some key) (hk4 : key < 4) (hb : (txF f t).2.1 = true) : InvB (gTxt g n key x (txF f t).2) ∧ InvT (gTxt g n key x (txF f t).2) ∧ vN (gTxt g n key x (txF f t).2) 8 = vN g 8 := by
  have hl := tx_len (f := f) ht
  have vn : vN g 3 = n := vN_nI hn (by omega)
  have hwf : wfT (tkL f t t 0 false).tail := by
    cases hky : kyF f t with
    | none =>
      have e : txF f t = (none, (false, skB f t 0, [], 0)) := by unfold txF; rw [hky]
      rw [e] at hk; cases hk
    | some k =>
      have hkk : skB f t 0 < t ∧ isLe f t (skB f t 0) = true := by
        unfold kyF at hky
        split at hky
        · rename_i h; exact h
        · cases hky
      rw [tk_tail hkk.1 hkk.2]; exact tkL_wf f t _ _ _
  have hh := tx_hg hb hk hk4 hwf
  obtain ⟨H, H0, H1, H2⟩ := hg_H hh.1
  have hne : 0 < (txF f t).2.2.2.1.length := by
    cases hc : (txF f t).2.2.2.1 with
    | nil => rw [hc] at H1; rw [show ([] : List CD).length = 0 from rfl, H0] at H1; cases H1
    | cons a b => rw [List.length_cons]; omega
  refine ⟨InvB_T hB (fun i h1 h2 => gT_o (by omega) h2 (by omega)) (by rw [gT_3]; exact rg_n (by omega) (by omega) (by omega)), ?_, vN_eq (gT_o (by omega) (by omega) (by omega))⟩
  intro u hu
  rw [vN_nI gT_3 (by omega)] at hu
  by_cases e : u < n
  · have hk := hT u (by rw [vn]; exact e)
    have ho : ∀ i, 2520 + 200 * u ≤ i → i < 2720 + 200 * u → gTxt g n key x (txF f t).2 i = g i := fun i h1 h2 => gT_o (by omega) (by omega) (by omega)
    unfold textOK at hk ⊢
    rw [vN_eq (ho (2520 + 200 * u) (by omega) (by omega)), vN_eq (ho (2520 + 200 * u + 3) (by omega) (by omega)), ho _ (by omega) (by omega), ho _ (by omega) (by omega), ho _ (by omega) (by omega), ho _ (by omega) (by omega)]
    obtain ⟨k1, k2, k3, k4, H', k5, k6, k7⟩ := hk
    refine ⟨k1, k2, k3, k4, H', k5, k6, fun j hj => ?_⟩
    have h9 := (rg_le k4 (by omega)).2
    rw [ho _ (by omega) (by omega), ho _ (by omega) (by omega)]
    exact k7 j hj
  · have e9 : u = n := by omega
    subst e9
    have vl : vN (gTxt g u key x (txF f t).2) (2520 + 200 * u + 3) = (txF f t).2.2.2.1.length := vN_nI gT_l (by omega)
    have vk : vN (gTxt g u key x (txF f t).2) (2520 + 200 * u) = key := vN_nI gT_k (by omega)
    unfold textOK
    rw [vl, vk, gT_k, gT_1, gT_2, gT_l]
    have hp := hh.2
    refine ⟨rg_n (by omega) (by omega) (by omega), zin_t hx, rg_n (by omega) (by omega) (by omega), rg_n (by omega) (by omega) (by omega), H, H0, H1, fun j hj => ?_⟩
    obtain ⟨c, hc⟩ : ∃ c, (txF f t).2.2.2.1[j]? = some c := ⟨_, List.getElem?_eq_getElem hj⟩
    have hgc := gT_c (g := g) (n := u) (key := key) (x := x) hc
    rw [hgc.1, hgc.2]
    exact H2 j c hc
theorem d_chains (x : Int32) : (f_chains g x).2 8 = g 8 := by
  unfold f_chains
  split
  · split
    · show gBegin g (ix x) 8 = g 8
      unfold gBegin; rw [if_neg (by omega), if_neg (by omega)]
    · rfl
  · rfl
theorem d_set (x y v : Int32) : (f_set g x y v).2 8 = g 8 := by
  unfold f_set
  generalize (if y = nI 2 then (3 : Int) else 99) = m
  split
  · show upd g (20 + 4 * ix x + ix y) v 8 = g 8
    rw [upd_off (by omega)]
  · rfl
theorem d_bore (x : Int32) : (f_bore g x).2 8 = g 8 := by unfold f_bore; split; exact upd_off (by omega); rfl
theorem d_rule (x v : Int32) : (f_rule g x v).2 8 = g 8 := by unfold f_rule; split; exact upd_off (by omega); rfl
theorem d_wet (x v : Int32) : (f_wet g x v).2 8 = g 8 := by unfold f_wet; split; exact upd_off (by omega); rfl
theorem d_ahead (x v : Int32) : (f_ahead g x v).2 8 = g 8 := by unfold f_ahead; split; exact upd_off (by omega); rfl
theorem d_days (x v : Int32) : (f_days g x v).2 8 = g 8 := by unfold f_days; split; exact upd_off (by omega); rfl
theorem d_measure (x h v : Int32) : (f_measure g x h v).2 8 = g 8 := by unfold f_measure; split; exact upd_off (by omega); rfl
theorem d_call (x : Int32) : (f_call g x).2 8 = g 8 := by
  unfold f_call
  split
  · show upd g 9 (g 9 + x) 8 = g 8
    rw [upd_off (by omega)]
  · rfl
theorem d_work (k c y : Int32) : (f_work g k c y).2 8 = g 8 := by
  unfold f_work
  split
  · split
    · rfl
    · exact gNew_off (by omega) (by omega)
  · rfl
theorem d_gang (v : Int32) : (f_gang g v).2 8 = g 8 := by
  unfold f_gang
  split
  · split
    · rfl
    · show gGang g v 8 = g 8
      unfold gGang; rw [upd_off (by omega), upd_off (by omega), upd_off (by omega)]
  · rfl
theorem d_goes (x y : Int32) : (f_goes g x y).2 8 = g 8 := by
  have hl : ∀ k, gLeave g k 8 = g 8 := fun k => by unfold gLeave; split; rfl; exact upd_off (by omega)
  unfold f_goes
  split
  · split
    · show upd (gLeave g (ix x)) (360 + 2 * ix x + 1) (-1) 8 = g 8
      rw [upd_off (by omega)]; exact hl _
    · split
      · show upd (upd (gLeave g (ix x)) (360 + 2 * ix x + 1) y) (120 + 10 * ix y + 4) x 8 = g 8
        rw [upd_off (by omega), upd_off (by omega)]; exact hl _
      · rfl
  · rfl
theorem d_claim (a b c : Int32) : (f_claim g a b c).2 8 = g 8 := by
  unfold f_claim
  split
  · split
    · rfl
    · show gClaim g a b c 8 = g 8
      unfold gClaim; rw [upd_off (by omega), upd_off (by omega), upd_off (by omega), upd_off (by omega)]
  · rfl
theorem d_due (a b : Int32) : (f_due g a b).2 8 = g 8 := by
  unfold f_due
  split
  · split
    · rfl
    · show gDue g a b 8 = g 8
      unfold gDue; rw [upd_off (by omega), upd_off (by omega), upd_off (by omega)]
  · rfl
theorem d_face (a b : Int32) : (f_face g a b).2 8 = g 8 := by
  unfold f_face
  split
  · split
    · rfl
    · show gFace g a b 8 = g 8
      unfold gFace; rw [upd_off (by omega), upd_off (by omega), upd_off (by omega)]
  · rfl
theorem d_arch (a : Int32) : (f_arch g a).2 8 = g 8 := by
  unfold f_arch
  split
  · split
    · rfl
    · show gArch g a 8 = g 8
      unfold gArch; rw [upd_off (by omega), upd_off (by omega)]
  · rfl
theorem d_lay (f : Nat → Nat) : ∀ n, gLay g f n 8 = g 8
  | 0 => rfl
  | n + 1 => by unfold gLay; rw [upd_off (by omega)]; exact d_lay f n
end
