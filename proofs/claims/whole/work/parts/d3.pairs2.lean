/-! ===== pairs of calls: feed, trim, tell, count, surveys ===== -/
theorem and255 (x : Int32) : ∃ n, n < 256 ∧ x &&& nI 255 = nI n := by
  refine ⟨(x &&& nI 255).toBitVec.toNat, ?_, ?_⟩
  · show (x.toBitVec &&& (nI 255).toBitVec).toNat < 256
    rw [BitVec.toNat_and]
    have h : (nI 255).toBitVec.toNat = 255 := by decide
    rw [h]
    exact Nat.lt_succ_of_le Nat.and_le_right
  · apply Int32.toBitVec_inj.mp
    show _ = BitVec.ofNat 32 _
    rw [BitVec.ofNat_toNat]
    simp
theorem byR_tp {f : Nat → Int32} {t : Nat} (h : byR f t) (a b c : Int32) : byR (tpF f t a b c 12) (t + 12) := by
  intro j hj
  by_cases e : j < t
  · have e1 : tpF f t a b c 12 j = f j := by unfold tpF; rw [if_neg (by omega)]
    have h9 := h j e
    rw [e1, vN_eq e1]; exact h9
  · have e1 : tpF f t a b c 12 j = fdB (fdV a b c (j - t)) ((j - t) % 4) := by unfold tpF; rw [if_pos (by omega)]
    obtain ⟨n, hn, he⟩ := and255 (fdV a b c (j - t) >>> (nI (24 - 8 * ((j - t) % 4)) &&& 31))
    have e2 : tpF f t a b c 12 j = nI n := e1.trans he
    rw [vN_nI e2 (by omega), e2]; exact ⟨rfl, hn⟩
section
variable {l : Launch} {G : zG} {Z Z' : zS} {J J' : zI} {g g' : Nat → Int32} {Q : Option Value → zS → zI → Prop}
/-- tape, waits, surveys and counts may have changed -/
theorem LR_2 (h : LR Z J g) (ho : ∀ a, ¬ lrOff a → a ≠ 0 → a ≠ 244 → a ≠ 245 → ¬ (249 ≤ a ∧ a < 259) → ¬ (262 ≤ a ∧ a ≤ 264) → a ≠ 272 → a ≠ 280 → J' a = J a) (h7 : J' 0 7 = J 0 7) (h3 : J' qR 3 = J qR 3) (hs : svC J' (sv J') ∧ svOK (sv J')) (hw : ∃ w, w ≤ 60 ∧ J' 0 6 = nI w ∧ J' qR 34 = nI w ∧ ∀ j, j < w → J' 257 j = J' q_waits j) (ht : ∃ t, t ≤ 96 ∧ J' 244 1 = nI t ∧ J' qR 15 = nI t ∧ J' 245 = J' q_tape ∧ byR (J' 245) t) : LR Z J' g := by
  obtain ⟨h1, h2, ⟨h3', h4⟩, ⟨h5, h6⟩, -⟩ := h
  have eI : J' q_image = J q_image := ho 260 (by unfold lrOff; omega) (by omega) (by omega) (by omega) (by omega) (by omega) (by omega) (by omega)
  have hc : ∀ mk gg, (mk = 1 ∨ mk = 82) → CM Z J mk gg → CM Z J' mk gg := fun mk gg hm hC => CM_of hC (fun a ha => ho a (by unfold lrOff; unfold cmOff at ha; omega) (by unfold cmOff at ha; omega) (by unfold cmOff at ha; omega) (by unfold cmOff at ha; omega) (by unfold cmOff at ha; omega) (by unfold cmOff at ha; omega) (by unfold cmOff at ha; omega) (by unfold cmOff at ha; omega)) (by omega)
  refine ⟨h1, RfC_of h2 (ho 265 (by unfold lrOff; omega) (by omega) (by omega) (by omega) (by omega) (by omega) (by omega) (by omega)) (ho 266 (by unfold lrOff; omega) (by omega) (by omega) (by omega) (by omega) (by omega) (by omega) (by omega)) (ho 267 (by unfold lrOff; omega) (by omega) (by omega) (by omega) (by omega) (by omega) (by omega) (by omega)), ⟨hc 1 g (Or.inl rfl) h3', h4⟩, ⟨by rw [h7, h3]; exact h5, ?_⟩, hs, hw, ht⟩
  rw [h3, eI]
  intro hh
  exact ⟨hc 82 _ (Or.inr rfl) (h6 hh).1, (h6 hh).2⟩
/-- the state behind the reference's call has g in its row -/
theorem lr_fin {I : zI} (h : LR Z I g) : LR Z (va_up I q_s g) (va_up I q_s g q_s) := lr_end h (fun _ _ => rfl)
theorem lw_count {x : Int32} (h : LR Z J (J q_s)) : lawP l G Z J mX11_count mX12_count 3 3 0 0 [.int x] := by
  obtain ⟨⟨hS, hR, hZ⟩, hC, ⟨hM, hB, hT, h8⟩, -, -, ⟨w, w1, w2, w3, w4⟩, ⟨t, t1, t2, t3, t4, t5⟩⟩ := id h
  refine tL_count hS hM hB ⟨_, rfl, hR.1, ?_⟩
  refine zM_s rfl ?_
  refine c_X12_count hR hB ?_
  rw [w2, t2, w3, t3]
  exact ⟨rfl, lr_fin h, Nat.le_refl _, by omega⟩
theorem lw_tell {x : Int32} (h : LR Z J (J q_s)) : lawP l G Z J mX11_tell mX12_tell 0 0 0 0 [.int x] := by
  obtain ⟨⟨hS, hR, hZ⟩, hC, ⟨hM, hB, hT, h8⟩, -, ⟨hv, hvo⟩, ⟨w, w1, w2, w3, w4⟩, ⟨t, t1, t2, t3, t4, t5⟩⟩ := id h
  refine tL_tell hS w2 w1 ⟨_, rfl, hR.1, ?_⟩
  by_cases h60 : w = 60
  · rw [if_pos h60, if_pos h60]
    refine zM_s rfl ?_
    refine c_X12_tell hR w3 w1 ?_
    rw [if_pos h60, if_pos h60]
    exact ⟨rfl, lr_fin h, Nat.le_refl _, by omega⟩
  · rw [if_neg h60, if_neg h60]
    refine zM_s (g := J q_s) (by rw [va_up_off (by decide), va_up_off (by decide)]) ?_
    refine c_X12_tell (w := w) hR (by rw [va_up_off (by decide), va_up_off (by decide)]; exact w3) w1 ?_
    rw [if_neg h60, if_neg h60]
    refine ⟨rfl, lr_fin (LR_2 h (fun a _ a1 a2 a3 a4 a5 a6 a7 => ?_) ?_ ?_ ⟨?_, ?_⟩ ⟨w + 1, by omega, ?_, ?_, fun j hj => ?_⟩ ⟨t, t1, ?_, ?_, ?_, ?_⟩), Nat.le_refl _, by omega⟩
    · rw [va_up_off (show a ≠ qR from by show a ≠ 258; omega), va_up_off (show a ≠ q_waits from a7), va_up_off a1, va_up_off (by omega)]
    · rw [va_up_off (by decide), va_up_off (by decide), va_up_same, upd_off (by decide)]
    · rw [va_up_same, upd_off (by decide), va_up_off (by decide), va_up_off (by decide)]
    · refine svC_of hv (fun a b1 b2 => ?_) ?_
      · rw [va_up_off (show a ≠ 258 by omega), va_up_off (show a ≠ 280 by omega), va_up_off (show a ≠ 0 by omega), va_up_off (show a ≠ 257 by omega)]
      · rfl
    · exact hvo
    · rw [va_up_off (by decide), va_up_off (by decide), va_up_same, upd_same]
    · rw [va_up_same, upd_same]
    · rw [va_up_off (show (257 : Nat) ≠ qR by decide), va_up_off (show (257 : Nat) ≠ q_waits by decide), va_up_off (by decide), va_up_same, va_up_off (show q_waits ≠ qR by decide), va_up_same, va_up_off (show q_waits ≠ 0 by decide), va_up_off (show q_waits ≠ 257 by decide)]
      by_cases e : j = w
      · subst e; rw [upd_same, upd_same]
      · rw [upd_off e, upd_off e]; exact w4 j (by omega)
    · rw [va_up_off (by decide), va_up_off (by decide), va_up_off (by decide), va_up_off (by decide)]; exact t2
    · rw [va_up_same, upd_off (by decide), va_up_off (by decide), va_up_off (by decide)]; exact t3
    · exact t4
    · exact t5
theorem lw_trim {x : Int32} (h : LR Z J (J q_s)) : lawP l G Z J mX11_trim mX12_trim 1 1 0 0 [.int x] := by
  obtain ⟨⟨hS, hR, hZ⟩, hC, ⟨hM, hB, hT, h8⟩, -, ⟨hv, hvo⟩, ⟨w, w1, w2, w3, w4⟩, ⟨t, t1, t2, t3, t4, t5⟩⟩ := id h
  refine tL_trim hS t2 t1 ⟨_, rfl, hR.1, ?_⟩
  cases hx : zin x 0 t with
  | false =>
    rw [if_neg (by decide), if_neg (by decide)]
    refine zM_s rfl ?_
    refine c_X12_trim hR t3 t1 ?_
    rw [hx, if_neg (by decide), if_neg (by decide)]
    exact ⟨rfl, lr_fin h, Nat.le_refl _, by omega⟩
  | true =>
    rw [if_pos rfl, if_pos rfl]
    have hxr : x = nI (ix x) ∧ ix x ≤ t := by
      have hr : rg x 0 (t : Int) := zin_t hx
      have h9 := rg_nI (g := fun _ => x) (i := 0) hr (by omega) (by omega)
      have h8 := rg_le (g := fun _ => x) (i := 0) hr (by omega)
      have h7 : (vN (fun _ => x) 0) = ix x := rfl
      exact ⟨h9, by omega⟩
    refine zM_s (g := J q_s) (by rw [va_up_off (by decide)]) ?_
    refine c_X12_trim (t := t) hR (by rw [va_up_off (by decide)]; exact t3) t1 ?_
    rw [hx, if_pos rfl, if_pos rfl]
    refine ⟨rfl, lr_fin (LR_2 h (fun a _ a1 a2 a3 a4 a5 a6 a7 => ?_) rfl ?_ ⟨?_, hvo⟩ ⟨w, w1, w2, ?_, w4⟩ ⟨ix x, by omega, ?_, ?_, t4, fun j hj => t5 j (by omega)⟩), Nat.le_refl _, by omega⟩
    · rw [va_up_off (show a ≠ qR from by show a ≠ 258; omega), va_up_off a2]
    · rw [va_up_same, upd_off (by decide), va_up_off (by decide)]
    · refine svC_of hv (fun a b1 b2 => ?_) rfl
      rw [va_up_off (show a ≠ 258 by omega), va_up_off (show a ≠ 244 by omega)]
    · rw [va_up_same, upd_off (by decide), va_up_off (by decide)]; exact w3
    · rw [va_up_off (by decide), va_up_same, upd_same]; exact hxr.1
    · rw [va_up_same, upd_same]; exact hxr.1
theorem lw_feed {x y v : Int32} (h : LR Z J (J q_s)) : lawP l G Z J mX11_feed mX12_feed 1 0 0 0 [.int x, .int y, .int v] := by
  obtain ⟨⟨hS, hR, hZ⟩, hC, ⟨hM, hB, hT, h8⟩, -, ⟨hv, hvo⟩, ⟨w, w1, w2, w3, w4⟩, ⟨t, t1, t2, t3, t4, t5⟩⟩ := id h
  refine tL_feed hS t2 t1 (fun h12 => ⟨_, rfl, hR.1, ?_⟩) (fun h12 J1 o1 o2 o3 o4 => ⟨_, rfl, hR.1, ?_⟩)
  · refine zM_s rfl ?_
    refine c_X12_feed hR t3 t1 ?_
    rw [if_neg h12, if_neg h12]
    exact ⟨rfl, lr_fin h, Nat.le_refl _, by omega⟩
  · have eR : J1 qR = J qR := o1 258 (by omega) (by omega)
    have eT : J1 q_tape = J q_tape := o1 272 (by omega) (by omega)
    have e0 : J1 0 = J 0 := o1 0 (by omega) (by omega)
    have eW : J1 q_waits = J q_waits := o1 280 (by omega) (by omega)
    have e257 : J1 257 = J 257 := o1 257 (by omega) (by omega)
    have e5 : J1 245 = tpF (J 245) t x y v 12 := funext o4
    refine zM_s (g := J q_s) (o1 259 (by omega) (by omega)) ?_
    refine c_X12_feed (t := t) hR (by rw [eR]; exact t3) t1 ?_
    rw [if_pos h12, if_pos h12]
    have hT1 : tpI J1 t x y v 12 = va_up (va_up J1 q_tape (tpF (J1 q_tape) t x y v 12)) qR (upd (J1 qR) 15 (nI (t + 12))) := rfl
    refine ⟨rfl, lr_fin (LR_2 h (fun a _ a1 a2 a3 a4 a5 a6 a7 => ?_) ?_ ?_ ⟨?_, ?_⟩ ⟨w, w1, ?_, ?_, ?_⟩ ⟨t + 12, h12, ?_, ?_, ?_, ?_⟩), Nat.le_refl _, by omega⟩
    · rw [hT1, va_up_off (show a ≠ qR from by show a ≠ 258; omega), va_up_off (show a ≠ q_tape from a6)]; exact o1 a a2 a3
    · rw [hT1, va_up_off (by decide), va_up_off (by decide), e0]
    · rw [hT1, va_up_same, upd_off (by decide), eR]
    · refine svC_of hv (fun a b1 b2 => ?_) ?_
      · rw [hT1, va_up_off (show a ≠ 258 by omega), va_up_off (show a ≠ 272 by omega)]; exact o1 a (by omega) (by omega)
      · unfold sv
        rw [show J q_tSort = J1 q_tSort from (o1 262 (by omega) (by omega)).symm, show J q_tSize = J1 q_tSize from (o1 263 (by omega) (by omega)).symm, show J q_tNumber = J1 q_tNumber from (o1 264 (by omega) (by omega)).symm]
        rfl
    · show svOK (J1 q_tSort, J1 q_tSize, J1 q_tNumber)
      rw [show J1 q_tSort = J q_tSort from o1 262 (by omega) (by omega), show J1 q_tSize = J q_tSize from o1 263 (by omega) (by omega), show J1 q_tNumber = J q_tNumber from o1 264 (by omega) (by omega)]
      exact hvo
    · rw [hT1, va_up_off (by decide), va_up_off (by decide), e0]; exact w2
    · rw [hT1, va_up_same, upd_off (by decide), eR]; exact w3
    · rw [hT1, va_up_off (by decide), va_up_off (by decide), va_up_off (show q_waits ≠ qR by decide), va_up_off (show q_waits ≠ q_tape by decide), e257, eW]; exact w4
    · rw [hT1, va_up_off (by decide), va_up_off (by decide)]; exact o3
    · rw [hT1, va_up_same, upd_same]
    · rw [hT1, va_up_off (by decide), va_up_off (by decide), va_up_off (show q_tape ≠ qR by decide), va_up_same, e5, eT, t4]
    · rw [hT1, va_up_off (by decide), va_up_off (by decide), e5]; exact byR_tp t5 x y v
/-- surveys -/
theorem LR_V {t' : svS} {I : zI} (h : LR Z J g) (ho : offV J J') (hv : svC J' t') (hk : svOK t') (hI : ∀ a, a ≠ q_carried → I a = J' a) : LR Z (svP I t') g := by
  obtain ⟨-, -, -, -, -, ⟨w, w1, w2, w3, w4⟩, ⟨t, t1, t2, t3, t4, t5⟩⟩ := id h
  have hp : ∀ a, a ≠ 262 → a ≠ 263 → a ≠ 264 → svP I t' a = I a := fun a a1 a2 a3 => by unfold svP; rw [va_up_off a3, va_up_off a2, va_up_off a1]
  have hs : sv (svP I t') = t' := by
    unfold sv svP
    rw [va_up_off (by decide), va_up_off (by decide), va_up_same, va_up_off (by decide), va_up_same, va_up_same]
  have hq : ∀ a, a ≠ 262 → a ≠ 263 → a ≠ 264 → a ≠ 279 → (a < 249 ∨ 257 ≤ a) → svP I t' a = J a := fun a a1 a2 a3 a4 a5 => by rw [hp a a1 a2 a3, hI a a4]; exact ho a a5
  refine LR_2 h (fun a ha a1 a2 a3 a4 a5 a6 a7 => hq a (by omega) (by omega) (by omega) (by unfold lrOff at ha; omega) (by omega)) ?_ ?_ ⟨?_, ?_⟩ ⟨w, w1, ?_, ?_, ?_⟩ ⟨t, t1, ?_, ?_, ?_, ?_⟩
  · rw [hq 0 (by omega) (by omega) (by omega) (by omega) (by omega)]
  · rw [show svP I t' qR = J qR from hq 258 (by omega) (by omega) (by omega) (by omega) (by omega)]
  · rw [hs]
    intro v hv4
    rw [hp (249 + 2 * v) (by omega) (by omega) (by omega), hI (249 + 2 * v) (show 249 + 2 * v ≠ 279 by omega), hp (249 + 2 * v + 1) (by omega) (by omega) (by omega), hI (249 + 2 * v + 1) (show 249 + 2 * v + 1 ≠ 279 by omega)]
    exact hv v hv4
  · rw [hs]; exact hk
  · rw [hq 0 (by omega) (by omega) (by omega) (by omega) (by omega)]; exact w2
  · rw [show svP I t' qR = J qR from hq 258 (by omega) (by omega) (by omega) (by omega) (by omega)]; exact w3
  · rw [hq 257 (by omega) (by omega) (by omega) (by omega) (by omega), show svP I t' q_waits = J q_waits from hq 280 (by omega) (by omega) (by omega) (by omega) (by omega)]; exact w4
  · rw [hq 244 (by omega) (by omega) (by omega) (by omega) (by omega)]; exact t2
  · rw [show svP I t' qR = J qR from hq 258 (by omega) (by omega) (by omega) (by omega) (by omega)]; exact t3
  · rw [hq 245 (by omega) (by omega) (by omega) (by omega) (by omega), show svP I t' q_tape = J q_tape from hq 272 (by omega) (by omega) (by omega) (by omega) (by omega)]; exact t4
  · rw [hq 245 (by omega) (by omega) (by omega) (by omega) (by omega)]; exact t5
theorem sv_V (ho : offV J J') : sv J' = sv J := by
  unfold sv
  rw [show J' q_tSort = J q_tSort from ho 262 (by omega), show J' q_tSize = J q_tSize from ho 263 (by omega), show J' q_tNumber = J q_tNumber from ho 264 (by omega)]
theorem k_survey {t : svS} (h : svOK t) (x y n : Int32) : svOK (f_survey t x y n).2 := by
  unfold f_survey
  split
  · rename_i hx
    split
    · exact h
    · rename_i hn
      intro j hj
      show rg (upd t.1 (ix x) y j) (-1) 1 ∧ rg (upd t.2.1 (ix x) (if y < 0 then nI 0 else n) j) 0 24
      by_cases e : j = ix x
      · subst e
        rw [upd_same, upd_same]
        refine ⟨zin_t hx.2.1, ?_⟩
        split
        · exact rg_n (by omega) (by omega) (by omega)
        · rename_i hy
          have h2 := hx.2.2.resolve_left hy
          have h3 : ¬ n < 0 := fun a => hn ⟨Int32.not_lt.mp hy, a⟩
          rw [Int32.le_iff_toInt_le, nI_toInt (by omega)] at h2
          rw [Int32.lt_iff_toInt_lt, Int32.toInt_zero] at h3
          unfold rg
          omega
      · rw [upd_off e, upd_off e]; exact h j hj
  · exact h
theorem k_note {t : svS} (h : svOK t) (x p v : Int32) : svOK (f_note t x p v).2 := by
  unfold f_note
  split
  · split
    · exact h
    · split
      · exact h
      · exact h
  · exact h
theorem k_copy {t : svS} (h : svOK t) (x p y q m : Int32) : svOK (f_copy t x p y q m).2 := by
  unfold f_copy
  split
  · split
    · exact h
    · split
      · split
        · exact h
        · exact h
      · exact h
  · exact h
theorem lw_survey {x y v : Int32} (h : LR Z J (J q_s)) : lawP l G Z J mX11_survey mX12_survey 3 2 0 0 [.int x, .int y, .int v] := by
  obtain ⟨⟨hS, hR, hZ⟩, hC, -, -, ⟨hv, hvo⟩, -⟩ := id h
  refine tL_survey hS hv hvo (fun J1 o1 c1 => ⟨_, rfl, hR.1, ?_⟩)
  refine zM_s (o1 259 (by omega)) ?_
  refine c_X12_survey hR ?_
  rw [sv_V o1]
  exact ⟨rfl, lr_fin (LR_V h o1 c1 (k_survey hvo x y v) (fun _ _ => rfl)), Nat.le_refl _, by omega⟩
theorem lw_note {x y v : Int32} (h : LR Z J (J q_s)) : lawP l G Z J mX11_note mX12_note 2 3 0 0 [.int x, .int y, .int v] := by
  obtain ⟨⟨hS, hR, hZ⟩, hC, -, -, ⟨hv, hvo⟩, -⟩ := id h
  refine tL_note hS hv hvo (fun J1 o1 c1 => ⟨_, rfl, hR.1, ?_⟩)
  refine zM_s (o1 259 (by omega)) ?_
  refine c_X12_note hR (by rw [sv_V o1]; exact hvo) ?_
  rw [sv_V o1]
  exact ⟨rfl, lr_fin (LR_V h o1 c1 (k_note hvo x y v) (fun _ _ => rfl)), Nat.le_refl _, by omega⟩
theorem lw_read {x y : Int32} (h : LR Z J (J q_s)) : lawP l G Z J mX11_read mX12_read 3 3 0 0 [.int x, .int y] := by
  obtain ⟨⟨hS, hR, hZ⟩, hC, -, -, ⟨hv, hvo⟩, -⟩ := id h
  refine tL_read hS hv hvo ⟨_, rfl, hR.1, ?_⟩
  refine zM_s rfl ?_
  exact c_X12_read hR hvo ⟨rfl, lr_fin h, Nat.le_refl _, by omega⟩
theorem lw_copy {x y v w u : Int32} (h : LR Z J (J q_s)) : lawP l G Z J mX11_copy mX12_copy 2 2 0 0 [.int x, .int y, .int v, .int w, .int u] := by
  obtain ⟨⟨hS, hR, hZ⟩, hC, -, -, ⟨hv, hvo⟩, -⟩ := id h
  refine tL_copy hS hv hvo (fun J1 o1 c1 => ⟨_, rfl, hR.1, ?_⟩)
  refine zM_s (o1 259 (by omega)) ?_
  refine c_X12_copy hR (by rw [sv_V o1]; exact hvo) (fun I hI => ?_)
  rw [sv_V o1]
  exact ⟨rfl, lr_fin (LR_V h o1 c1 (k_copy hvo x y v w u) hI), Nat.le_refl _, by omega⟩
end
