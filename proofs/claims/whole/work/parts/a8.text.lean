/-! ===== the reference reads a text, whole ===== -/
def isE (ts : List TK) : Bool := match ts with
  | [] => false
  | t :: _ => decide (t.1 = 0)
theorem eqv_top (key : Nat) {n : Nat} {ts : List TK} (hn : 8 * ts.length + 6 ≤ n) (hw : wfT ts) : mcP key ts [] [] 0 0 true 0 = (if (rdP key n 0 0 0 ts).1 = true ∧ isE (rdP key n 0 0 0 ts).2.1 = true then (true, 0, (rdP key n 0 0 0 ts).2.2.1, (rdP key n 0 0 0 ts).2.2.2) else (false, bg (rdP key n 0 0 0 ts).2.1, [], 0)) := by
  have h := (eqv key n 0 0 0 ts (by rw [show wgt 0 = 6 from rfl]; exact hn) hw (by omega) (by omega)).1 (by omega) [] [] 0 (fun _ c r e => by cases e) (Nat.le_refl 0)
  obtain ⟨h1, h2⟩ := h
  by_cases ha : (rdP key n 0 0 0 ts).1 = true
  · obtain ⟨X, pend, hX, hr, hh, hm⟩ := h2 ha
    have hm' : mcP key ts [] [] 0 0 true 0 = mcP key (rdP key n 0 0 0 ts).2.1 X pend 0 0 false (rdP key n 0 0 0 ts).2.2.2 := by
      rw [hm]
      show mcP key _ ([] ++ X ++ []) (pend ++ []) 0 0 false (0 + _) = _
      rw [List.append_nil, List.append_nil, List.nil_append, Nat.zero_add]
    rw [hm']
    have hwf := rd_wf key n 0 0 0 ts hw
    by_cases he : isE (rdP key n 0 0 0 ts).2.1 = true
    · rw [if_pos ⟨ha, he⟩]
      cases hr0 : (rdP key n 0 0 0 ts).2.1 with
      | nil => rw [hr0] at he; cases he
      | cons t r =>
        rw [hr0] at he
        have h0 : t.1 = 0 := of_decide_eq_true he
        unfold mcP
        rw [if_pos h0, if_neg (by rintro (h | h); cases h; omega)]
        have hp := (popR_all (r := 1) (pend := pend) (st := []) (fun c hc => hr c hc) (fun c x e => by cases e)).1
        rw [List.append_nil] at hp
        rw [hp, ← hX]
    · rw [if_neg (fun h => he h.2)]
      have := stuckF (key := key) (cd := X) (pend := pend) (st := []) (ob := 0) (on := 0) (pt := (rdP key n 0 0 0 ts).2.2.2) hwf (fun t r e h0 => absurd (by rw [e]; exact decide_eq_true h0) he) (fun _ => rfl) hh
      rw [List.append_nil] at this
      exact this
  · rw [if_neg (fun h => ha h.1)]
    exact h1 (by simpa using ha)
theorem keyF_n {f : Nat → Int32} {tok : Int32} {b e : Nat} (h : ¬ tok = nI 1) : keyF f tok b e = none := by
  unfold keyF
  rw [wrd_n1 h, wrd_n1 h, wrd_n1 h, wrd_n1 h]
  rfl
theorem keyF_4 {f : Nat → Int32} {tok : Int32} {b e k : Nat} (h : keyF f tok b e = some k) : k < 4 := by
  unfold keyF at h
  repeat' split at h
  all_goals first | (cases h; omega) | cases h
/-- the key of a text: its first word -/
def kyF (f : Nat → Int32) (t : Nat) : Option Nat := if skB f t 0 < t ∧ isLe f t (skB f t 0) = true then keyF f (nI 1) (skB f t 0) (skL f t (t - skB f t 0) (skB f t 0)) else none
/-- what a text comes to: its key, and ok, fault, code, parts -/
def txF (f : Nat → Int32) (t : Nat) : Option Nat × MS := match kyF f t with
  | none => (none, (false, skB f t 0, [], 0))
  | some key => (some key, mcP key (tkL f t t 0 false).tail [] [] 0 0 true 0)
theorem ky_lex {f R R' : Nat → Int32} {t : Nat} {tok : Int32} (h : lexOK f t (skB f (t - 0) 0) (lexT f t 0 tok) R R') : ∃ e, R' 17 = nI e ∧ skB f t 0 ≤ e ∧ e ≤ t ∧ keyF f (R' 18) (skB f t 0) e = kyF f t := by
  have hs := skB_le f t 0
  rw [Nat.sub_zero] at h
  have hl : lexT f t 0 tok = false := by unfold lexT; rw [decide_eq_false (by omega)]; rfl
  rw [hl] at h
  obtain ⟨l1, l2, l3, l4, l5, l6⟩ := h
  unfold kyF
  by_cases hb : skB f t 0 = t
  · obtain ⟨q1, q2⟩ := l3 hb
    exact ⟨_, q1, Nat.le_refl _, by omega, by rw [q2, if_neg (by omega)]; exact keyF_n (by decide)⟩
  · have hbt : skB f t 0 < t := by omega
    by_cases hL : isLe f t (skB f t 0) = true
    · obtain ⟨q1, q2, -⟩ := l4 hbt hL
      have := skL_le f t (t - skB f t 0) (skB f t 0)
      exact ⟨_, q1, this.1, by omega, by rw [q2, if_neg (by decide), if_pos ⟨hbt, hL⟩]⟩
    · have hL' : isLe f t (skB f t 0) = false := by simpa using hL
      rw [if_neg (fun h => hL h.2)]
      by_cases hD : isDi f t (skB f t 0) = true
      · obtain ⟨q1, q2, -⟩ := l5 hbt hL' hD
        have := skD_le f t (t - skB f t 0) (skB f t 0)
        refine ⟨_, q1, this.1, by omega, keyF_n ?_⟩
        rw [q2]; split <;> decide
      · obtain ⟨q1, q2, -⟩ := l6 hbt hL' (by simpa using hD)
        exact ⟨_, q1, by omega, by omega, by rw [q2]; exact keyF_n (by decide)⟩
def psPost (f : Nat → Int32) (t A : Nat) (I J : zI) (g g' : Nat → Int32) : Prop := (∀ q, q ≠ qR → J q = I q) ∧ (∀ i, ¬ (15 ≤ i ∧ i ≤ 25) → J qR i = I qR i) ∧ J qR 15 = nI 0 ∧ (∀ i, (i < A ∨ A + 194 ≤ i) → g' i = g i) ∧ ((txF f t).2.1 = false → J qR 16 = nI (txF f t).2.2.1) ∧
  ((txF f t).2.1 = true → g' = gSt g A (txF f t).2.2.2.1 ∧ J qR 23 = nI (txF f t).2.2.2.1.length ∧ J qR 25 = nI (txF f t).2.2.2.2 ∧ (txF f t).2.2.2.1.length ≤ 96)
def psR (R : Option Nat × MS) : Int32 := if R.2.1 = true then oI R.1 else -1
section
variable {l : Launch} {G : zG} {Z : zS} {I : zI} {g : Nat → Int32} {Q : Option Value → zS → zI → Prop}
theorem d_X12_parse (hZ : ShR Z) {f : Nat → Int32} {t A : Nat} {w1 : Int32} {b : Bool} {K : zI} {g1 : Nat → Int32} (hK1 : ∀ q, q ≠ qR → K q = I q) (hK2 : ∀ i, ¬ (15 ≤ i ∧ i ≤ 25) → K qR i = I qR i) (hg : ∀ i, (i < A ∨ A + 194 ≤ i) → g1 i = g i) (hb : (txF f t).2.1 = b) (hw : b = true → w1 = oI (txF f t).1) (hbad : b = false → K qR 16 = nI (txF f t).2.2.1) (hok : b = true → g1 = gSt g A (txF f t).2.2.2.1 ∧ K qR 23 = nI (txF f t).2.2.2.1.length ∧ K qR 25 = nI (txF f t).2.2.2.2 ∧ (txF f t).2.2.2.1.length ≤ 96)
    (hq : ∀ J g', psPost f t A I J g g' → Q (some (.int (psR (txF f t)))) Z (va_up J q_s g')) : zX l G mX12_parse 122 0 0 111 [some (.ref qR), some (.int w1), some (.int (zb b))] [] Z (va_up K q_s g1) Q := by
  have hP : psPost f t A I (va_up K qR (upd (K qR) 15 (nI 0))) g g1 := ⟨fun q hq => by rw [va_up_off hq, hK1 q hq], fun i hi => by rw [va_up_same, upd_off (by omega), hK2 i hi], by rw [va_up_same, upd_same], hg, fun h => by rw [va_up_same, upd_off (by omega)]; exact hbad (hb.symm.trans h), fun h => by
    rw [va_up_same, upd_off (by omega), upd_off (by omega)]; exact hok (hb.symm.trans h)⟩
  have hx := hq _ _ hP
  unfold psR at hx
  rw [hb] at hx
  refine x_ald0 (n := 112) dX12_parse_111 rfl ?_
  refine x_ic0 (n := 113) dX12_parse_112 rfl ?_
  refine x_rput (n := 116) flX12_214 rfl rfl rfl rfl dX12_parse_113 rfl hZ ?_
  refine x_ild2 (n := 117) dX12_parse_116 rfl ?_
  refine x_zif_eq (n := 120) (tgt := 124) dX12_parse_117 rfl (by decide) (fun c_117 => ?_) (fun c_117 => ?_)
  · refine x_icm1 (n := 125) dX12_parse_124 rfl ?_
    refine r_iret dX12_parse_125 rfl ?_
    first | (rw [if_pos c_117, ← hw c_117] at hx; exact hx) | (rw [if_neg (by rw [c_117]; decide)] at hx; exact hx)
  · refine x_ild1 (n := 121) dX12_parse_120 rfl ?_
    refine x_goto (n := 125) dX12_parse_121 (by decide) ?_
    refine r_iret dX12_parse_125 rfl ?_
    first | (rw [if_pos c_117, ← hw c_117] at hx; exact hx) | (rw [if_neg (by rw [c_117]; decide)] at hx; exact hx)
theorem p2_X12_parse (hZ : ShR Z) {f : Nat → Int32} {t A key : Nat} (hy : byR f t) (ht : t ≤ 96) (hAA : A ≤ 5332) (hf : I q_tape = f) (hky : kyF f t = some key) {K : zI} {w2 : Option Value} {x : TK} {r : List TK} (hx1 : x.1 = 1) (hT : tkL f t t 0 false = x :: r) (hK1 : ∀ q, q ≠ qR → K q = I q) (hK2 : ∀ i, ¬ (15 ≤ i ∧ i ≤ 25) → K qR i = I qR i) (hp : prS f t A 0 0 0 0 (x :: r) (K qR))
    (hq : ∀ J g', psPost f t A I J g g' → Q (some (.int (psR (txF f t)))) Z (va_up J q_s g')) : zX l G mX12_parse 122 0 0 86 [some (.ref qR), some (.int (nI key)), w2] [] Z (va_up K q_s g) Q := by
  have htl := tkL_len f t t 0 false (by omega) (by omega)
  rw [hT, List.length_cons] at htl
  have hwf := tkL_wf f t t 0 false
  rw [hT] at hwf
  have hwr : wfT r := wfT_tl hwf (by omega)
  have hk4 : key < 4 := by
    unfold kyF at hky
    split at hky
    · exact keyF_4 hky
    · cases hky
  have htx : txF f t = (some key, mcP key r [] [] 0 0 true 0) := by
    unfold txF
    rw [hky, hT]
    rfl
  have hev := eqv_top key (n := 8 * r.length + 6) (Nat.le_refl _) hwr
  have hcl := rd_cl key (8 * r.length + 6) 0 0 0 r
  refine x_ald0 (n := 87) dX12_parse_86 rfl ?_
  refine x_cV0 (n := 90) (d' := 2) zcX12_next mlX12_267 dX12_parse_87 rfl (rK hZ) (by omega) (Nat.le_of_ble_eq_true rfl) ?_
  refine c_nextT (f := f) hZ ((hK1 _ (by decide)).trans hf) hy ht hp (by omega) (fun J hJ hJ2 hpJ => ?_)
  refine x_none ?_
  refine x_ald0 (n := 91) dX12_parse_90 rfl ?_
  refine x_ild1 (n := 92) dX12_parse_91 rfl ?_
  refine x_cV1 (n := 95) (d' := 121) zcX12_either mlX12_299 dX12_parse_92 rfl (rK hZ) (by omega) (Nat.le_of_ble_eq_true rfl) ?_
  refine c_X12_either hZ hk4 hy ht hAA ((hJ _ (by decide)).trans ((hK1 _ (by decide)).trans hf)) hpJ (by omega) (8 * r.length + 6) (Nat.le_refl _) (fun M g1 hM => ?_)
  have hM1 : ∀ q, q ≠ qR → M q = I q := fun q hq => by rw [hM.1 q hq, hJ q hq, hK1 q hq]
  have hM2 : ∀ i, ¬ (15 ≤ i ∧ i ≤ 25) → M qR i = I qR i := fun i hi => by rw [hM.2.1 i (by omega), hJ2 i (by omega), hK2 i hi]
  have hMg : ∀ i, (i < A ∨ A + 194 ≤ i) → g1 i = g i := fun i hi => by rw [hM.2.2.1]; exact gSt_off _ _ _ (by omega)
  obtain ⟨k', v', b', r', p', n', e', c0, c1, c2, c3, c4, c5, c6, c7, c8, c9⟩ := hM.2.2.2.1
  have hbad : ¬ ((rdP key (8 * r.length + 6) 0 0 0 r).1 = true ∧ isE (rdP key (8 * r.length + 6) 0 0 0 r).2.1 = true) → zX l G mX12_parse 122 0 0 111 [some (.ref qR), some (.int (nI key)), some (.int (nI 0))] [] Z (va_up M q_s g1) Q := by
    intro hb
    rw [if_neg hb] at hev
    refine d_X12_parse (b := false) hZ hM1 hM2 hMg (by rw [htx, hev]) (fun h => by cases h) (fun _ => ?_) (fun h => by cases h) hq
    rw [htx, hev, c2, e']
    rfl
  have hgood : (rdP key (8 * r.length + 6) 0 0 0 r).1 = true → isE (rdP key (8 * r.length + 6) 0 0 0 r).2.1 = true → zX l G mX12_parse 122 0 0 111 [some (.ref qR), some (.int (nI key)), some (.int (nI 1))] [] Z (va_up M q_s g1) Q := by
    intro ha he
    rw [if_pos ⟨ha, he⟩] at hev
    have hpM := hM.2.2.2.2 ha
    refine d_X12_parse (b := true) hZ hM1 hM2 hMg (by rw [htx, hev]) (fun _ => by rw [htx]; rfl) (fun h => by cases h) (fun _ => ?_) hq
    rw [htx, hev]
    have h23 := hpM.2.2.2.1
    have h25 := hpM.2.2.2.2.2.1
    rw [Nat.zero_add] at h23 h25
    exact ⟨hM.2.2.1, h23, h25, by show (rdP key (8 * r.length + 6) 0 0 0 r).2.2.1.length ≤ 96; omega⟩
  have hk0 : nI k' = nI 0 → k' = 0 := fun h => (nI_eq (by omega) (by omega)).mp h
  refine x_some ?_
  refine x_zif_eq (n := 98) (tgt := 109) dX12_parse_95 rfl (by decide) (fun c_95 => ?_) (fun c_95 => ?_)
  · refine x_ic0 (n := 110) dX12_parse_109 rfl ?_
    refine x_ist2 (n := 111) dX12_parse_110 rfl (by decide) rfl ?_
    first | exact hgood c_95 (by rw [e']; exact decide_eq_true (by show k' = 0; exact hk0 c_102)) | exact hbad (fun h => Bool.noConfusion (c_95.symm.trans h.1)) | exact hbad (fun h => c_102 (by have h2 := h.2; rw [e'] at h2; have h3 : k' = 0 := of_decide_eq_true h2; rw [h3]; rfl))
  · refine x_ald0 (n := 99) dX12_parse_98 rfl ?_
    refine x_rget (n := 102) flX12_229 rfl dX12_parse_99 rfl hZ ?_
    rw [c6]
    refine x_if_ne (n := 105) (tgt := 109) dX12_parse_102 rfl (by decide) (fun c_102 => ?_) (fun c_102 => ?_)
    · refine x_ic0 (n := 110) dX12_parse_109 rfl ?_
      refine x_ist2 (n := 111) dX12_parse_110 rfl (by decide) rfl ?_
      first | exact hgood c_95 (by rw [e']; exact decide_eq_true (by show k' = 0; exact hk0 c_102)) | exact hbad (fun h => Bool.noConfusion (c_95.symm.trans h.1)) | exact hbad (fun h => c_102 (by have h2 := h.2; rw [e'] at h2; have h3 : k' = 0 := of_decide_eq_true h2; rw [h3]; rfl))
    · refine x_ic1 (n := 106) dX12_parse_105 rfl ?_
      refine x_goto (n := 110) dX12_parse_106 (by decide) ?_
      refine x_ist2 (n := 111) dX12_parse_110 rfl (by decide) rfl ?_
      first | exact hgood c_95 (by rw [e']; exact decide_eq_true (by show k' = 0; exact hk0 c_102)) | exact hbad (fun h => Bool.noConfusion (c_95.symm.trans h.1)) | exact hbad (fun h => c_102 (by have h2 := h.2; rw [e'] at h2; have h3 : k' = 0 := of_decide_eq_true h2; rw [h3]; rfl))
theorem n1_X12_parse (hZ : ShR Z) {f : Nat → Int32} {t A : Nat} (hky : kyF f t = none) {K : zI} {w1 w2 : Option Value} (hK1 : ∀ q, q ≠ qR → K q = I q) (hK2 : ∀ i, ¬ (15 ≤ i ∧ i ≤ 25) → K qR i = I qR i) (h16 : K qR 16 = nI (skB f t 0))
    (hq : ∀ J g', psPost f t A I J g g' → Q (some (.int (psR (txF f t)))) Z (va_up J q_s g')) : zX l G mX12_parse 122 0 0 71 [some (.ref qR), w1, w2] [.int (oI none)] Z (va_up K q_s g) Q := by
  have htx : txF f t = (none, (false, skB f t 0, [], 0)) := by unfold txF; rw [hky]
  show zX l G mX12_parse 122 0 0 71 [some (.ref qR), w1, w2] [.int (-1)] Z (va_up K q_s g) Q
  refine x_ist1 (n := 72) dX12_parse_71 rfl (by decide) rfl ?_
  refine x_ild1 (n := 73) dX12_parse_72 rfl ?_
  refine x_if_lt (n := 76) (tgt := 80) dX12_parse_73 rfl (by decide) (fun c_73 => ?_) (fun c_73 => ?_)
  · refine x_ic0 (n := 81) dX12_parse_80 rfl ?_
    refine x_ist2 (n := 82) dX12_parse_81 rfl (by decide) rfl ?_
    refine x_ild2 (n := 83) dX12_parse_82 rfl ?_
    refine x_if_eq (n := 86) (tgt := 111) dX12_parse_83 rfl (by decide) (fun c_83 => ?_) (fun c_83 => ?_)
    · refine d_X12_parse (b := false) hZ hK1 hK2 (fun _ _ => rfl) (by rw [htx]) (fun h => by cases h) (fun _ => by rw [htx]; exact h16) (fun h => by cases h) hq
    · exact absurd (by decide) c_83
  · exact absurd (by decide) c_73
theorem n2_X12_parse (hZ : ShR Z) {f : Nat → Int32} {t A key : Nat} (hy : byR f t) (ht : t ≤ 96) (hAA : A ≤ 5332) (hf : I q_tape = f) (hky : kyF f t = some key) {K : zI} {w1 w2 : Option Value} {x : TK} {r : List TK} (hx1 : x.1 = 1) (hT : tkL f t t 0 false = x :: r) (hK1 : ∀ q, q ≠ qR → K q = I q) (hK2 : ∀ i, ¬ (15 ≤ i ∧ i ≤ 25) → K qR i = I qR i) (hp : prS f t A 0 0 0 0 (x :: r) (K qR))
    (hq : ∀ J g', psPost f t A I J g g' → Q (some (.int (psR (txF f t)))) Z (va_up J q_s g')) : zX l G mX12_parse 122 0 0 71 [some (.ref qR), w1, w2] [.int (oI (some key))] Z (va_up K q_s g) Q := by
  have hk4 : key < 4 := by
    unfold kyF at hky
    split at hky
    · exact keyF_4 hky
    · cases hky
  show zX l G mX12_parse 122 0 0 71 [some (.ref qR), w1, w2] [.int (nI key)] Z (va_up K q_s g) Q
  refine x_ist1 (n := 72) dX12_parse_71 rfl (by decide) rfl ?_
  refine x_ild1 (n := 73) dX12_parse_72 rfl ?_
  refine x_if_lt (n := 76) (tgt := 80) dX12_parse_73 rfl (by decide) (fun c_73 => ?_) (fun c_73 => ?_)
  · rcases (show key = 0 ∨ key = 1 ∨ key = 2 ∨ key = 3 by omega) with h | h | h | h <;> (subst h; exact absurd c_73 (by decide))
  · refine x_ic1 (n := 77) dX12_parse_76 rfl ?_
    refine x_goto (n := 81) dX12_parse_77 (by decide) ?_
    refine x_ist2 (n := 82) dX12_parse_81 rfl (by decide) rfl ?_
    refine x_ild2 (n := 83) dX12_parse_82 rfl ?_
    refine x_if_eq (n := 86) (tgt := 111) dX12_parse_83 rfl (by decide) (fun c_83 => ?_) (fun c_83 => ?_)
    · exact absurd c_83 (by decide)
    · exact p2_X12_parse hZ hy ht hAA hf hky hx1 hT hK1 hK2 hp hq
theorem p1_X12_parse (hZ : ShR Z) {f : Nat → Int32} {t A : Nat} (hy : byR f t) (ht : t ≤ 96) (hAA : A ≤ 5332) (hf : I q_tape = f) {K : zI} {w1 w2 : Option Value} (hK1 : ∀ q, q ≠ qR → K q = I q) (hK2 : ∀ i, ¬ (15 ≤ i ∧ i ≤ 25) → K qR i = I qR i) (h15 : K qR 15 = nI t) (h17 : K qR 17 = nI 0) (h18 : K qR 18 = nI 3) (h21 : K qR 21 = nI 0) (h22 : K qR 22 = nI 0) (h23 : K qR 23 = nI 0) (h24 : K qR 24 = nI A) (h25 : K qR 25 = nI 0)
    (hq : ∀ J g', psPost f t A I J g g' → Q (some (.int (psR (txF f t)))) Z (va_up J q_s g')) : zX l G mX12_parse 122 0 0 63 [some (.ref qR), w1, w2] [] Z (va_up K q_s g) Q := by
  have hKf : K q_tape = f := (hK1 _ (by decide)).trans hf
  refine x_ald0 (n := 64) dX12_parse_63 rfl ?_
  refine x_cV0 (n := 67) (d' := 2) zcX12_next mlX12_267 dX12_parse_64 rfl (rK hZ) (Nat.le_of_ble_eq_true rfl) (Nat.le_of_ble_eq_true rfl) ?_
  refine c_X12_next (t := t) (p := 0) hZ ht (by omega) h15 h17 (fun J hJ hlex => ?_)
  rw [hKf] at hlex
  have hcur : curT f t (J qR) (tkL f t t 0 false) := lex_cur hy ht (by omega) (by omega) (by rw [h18]; decide) hlex
  obtain ⟨e, q17, hbe, het, hke⟩ := ky_lex hlex
  have hJI : ∀ q, q ≠ qR → J q = I q := fun q hq => by rw [hJ q hq, hK1 q hq]
  have hJR : ∀ i, ¬ (15 ≤ i ∧ i ≤ 25) → J qR i = I qR i := fun i hi => by rw [hlex.2.1 i (by omega), hK2 i hi]
  have hkey2 : ∀ i, 21 ≤ i ∨ i ≤ 15 → J qR i = K qR i := fun i hi => hlex.2.1 i (by omega)
  refine x_none ?_
  refine x_ald0 (n := 68) dX12_parse_67 rfl ?_
  refine x_cV0 (n := 71) (d' := 1) zcX12_key mlX12_305 dX12_parse_68 rfl (rK hZ) (Nat.le_of_ble_eq_true rfl) (Nat.le_of_ble_eq_true rfl) ?_
  refine c_X12_key (b := skB f t 0) (e := e) hZ (by rw [hlex.1, Nat.sub_zero]) q17 hbe (by omega) ?_
  rw [show J q_tape = f from (hJI _ (by decide)).trans hf, hke]
  refine x_some ?_
  cases hky : kyF f t with
  | none => exact n1_X12_parse hZ hky hJI hJR (by rw [hlex.1, Nat.sub_zero]) hq
  | some key =>
    cases hT : tkL f t t 0 false with
    | nil => rw [hT] at hcur; exact absurd (curT_wf hcur) id
    | cons x r =>
      rw [hT] at hcur
      have hx18 : J qR 18 = nI 1 := by
        by_cases h1 : J qR 18 = nI 1
        · exact h1
        · rw [keyF_n h1, hky] at hke; cases hke
      have hx1 : x.1 = 1 := by
        obtain ⟨k', v', b', r', p', n', e', c0, c1, c2, c3, c4, c5, c6, c7, c8, c9⟩ := hcur
        cases e'
        rw [c6] at hx18
        exact (nI_eq (by omega) (by omega)).mp hx18
      exact n2_X12_parse hZ hy ht hAA hf hky hx1 hT hJI hJR ⟨(hkey2 15 (by omega)).trans h15, (hkey2 21 (by omega)).trans h21, (hkey2 22 (by omega)).trans h22, (hkey2 23 (by omega)).trans h23, (hkey2 24 (by omega)).trans h24, (hkey2 25 (by omega)).trans h25, hcur⟩ hq
def txA (n : Nat) : Nat := if n < 14 then 2524 + 200 * n else 5330
theorem c_X12_parse (hZ : ShR Z) {f : Nat → Int32} {t n : Nat} (hy : byR f t) (ht : t ≤ 96) (hf : I q_tape = f) (h15 : I qR 15 = nI t) (hg : g 3 = nI n) (hn : n ≤ 14)
    (hq : ∀ J g', psPost f t (txA n) I J g g' → Q (some (.int (psR (txF f t)))) Z (va_up J q_s g')) : zM l G mX12_parse 122 0 0 [.ref qR] Z (va_up I q_s g) Q := by
  refine x_entry [some (.ref qR), none, none] 2 rfl rfl (Nat.le_of_ble_eq_true rfl) ?_
  refine x_ald0 (n := 1) dX12_parse_0 rfl ?_
  refine x_ic0 (n := 2) dX12_parse_1 rfl ?_
  refine x_rput (n := 5) flX12_226 rfl rfl rfl rfl dX12_parse_2 rfl hZ ?_
  refine x_ald0 (n := 6) dX12_parse_5 rfl ?_
  refine x_ic3 (n := 7) dX12_parse_6 rfl ?_
  refine x_rput (n := 10) flX12_229 rfl rfl rfl rfl dX12_parse_7 rfl hZ ?_
  refine x_ald0 (n := 11) dX12_parse_10 rfl ?_
  refine x_ic0 (n := 12) dX12_parse_11 rfl ?_
  refine x_rput (n := 15) flX12_296 rfl rfl rfl rfl dX12_parse_12 rfl hZ ?_
  refine x_ald0 (n := 16) dX12_parse_15 rfl ?_
  refine x_ic0 (n := 17) dX12_parse_16 rfl ?_
  refine x_rput (n := 20) flX12_293 rfl rfl rfl rfl dX12_parse_17 rfl hZ ?_
  refine x_ald0 (n := 21) dX12_parse_20 rfl ?_
  refine x_ic0 (n := 22) dX12_parse_21 rfl ?_
  refine x_rput (n := 25) flX12_258 rfl rfl rfl rfl dX12_parse_22 rfl hZ ?_
  refine x_ald0 (n := 26) dX12_parse_25 rfl ?_
  refine x_ic0 (n := 27) dX12_parse_26 rfl ?_
  refine x_rput (n := 30) flX12_286 rfl rfl rfl rfl dX12_parse_27 rfl hZ ?_
  refine x_ald0 (n := 31) dX12_parse_30 rfl ?_
  refine x_ald0 (n := 32) dX12_parse_31 rfl ?_
  refine x_getR (n := 35) flX12_7 rfl dX12_parse_32 rfl (rK hZ) (rP_s hZ) ?_
  refine x_ic3 (n := 36) dX12_parse_35 rfl ?_
  refine x_sld (n := 37) dX12_parse_36 rfl hZ (by omega) ?_
  rw [hg]
  refine x_bipush (n := 39) (v := nI 14) dX12_parse_37 rfl (by decide) ?_
  refine x_icmpN_ge (n := 42) (tgt := 57) dX12_parse_39 rfl (by decide) (by omega) (by omega) (fun c_39 => ?_) (fun c_39 => ?_)
  · refine x_sipush (n := 60) (v := nI 5330) dX12_parse_57 rfl (by decide) ?_
    refine x_rput (n := 63) flX12_255 rfl rfl rfl rfl dX12_parse_60 rfl hZ ?_
    have hA : txA n ≤ 5332 := by unfold txA; split <;> omega
    refine p1_X12_parse (f := f) (t := t) (A := txA n) hZ hy ht hA hf (fun q hq => ?_) (fun i hi => ?_) ?_ ?_ ?_ ?_ ?_ ?_ ?_ ?_ hq
    · simp only [va_up_off hq]
    · simp only [va_up_same]
      rw [upd_off (by omega), upd_off (by omega), upd_off (by omega), upd_off (by omega), upd_off (by omega), upd_off (by omega), upd_off (by omega)]
    · simp only [va_up_same]
      rw [upd_off (by omega), upd_off (by omega), upd_off (by omega), upd_off (by omega), upd_off (by omega), upd_off (by omega), upd_off (by omega)]; exact h15
    · simp only [va_up_same]; rfl
    · simp only [va_up_same]; rfl
    · simp only [va_up_same]; rfl
    · simp only [va_up_same]; rfl
    · simp only [va_up_same]; rfl
    · simp only [va_up_same]
      rw [upd_same]
      unfold txA
      first | (rw [if_neg (by omega)]; done) | (rw [if_pos (by omega)]; congr 1; omega)
    · simp only [va_up_same]; rfl
  · refine x_ald0 (n := 43) dX12_parse_42 rfl ?_
    refine x_ald0 (n := 44) dX12_parse_43 rfl ?_
    refine x_getR (n := 47) flX12_7 rfl dX12_parse_44 rfl (rK hZ) (rP_s hZ) ?_
    refine x_ic3 (n := 48) dX12_parse_47 rfl ?_
    refine x_sld (n := 49) dX12_parse_48 rfl hZ (by omega) ?_
    rw [hg]
    refine x_cV1 (n := 52) (d' := 0) zcX12_textAt mlX12_302 dX12_parse_49 rfl (rK hZ) (Nat.le_of_ble_eq_true rfl) (Nat.le_of_ble_eq_true rfl) ?_
    refine c_X12_textAt ?_
    refine x_some ?_
    refine x_ic4 (n := 53) dX12_parse_52 rfl ?_
    refine x_iaddN (n := 54) dX12_parse_53 rfl ?_
    refine x_goto (n := 60) dX12_parse_54 (by decide) ?_
    refine x_rput (n := 63) flX12_255 rfl rfl rfl rfl dX12_parse_60 rfl hZ ?_
    have hA : txA n ≤ 5332 := by unfold txA; split <;> omega
    refine p1_X12_parse (f := f) (t := t) (A := txA n) hZ hy ht hA hf (fun q hq => ?_) (fun i hi => ?_) ?_ ?_ ?_ ?_ ?_ ?_ ?_ ?_ hq
    · simp only [va_up_off hq]
    · simp only [va_up_same]
      rw [upd_off (by omega), upd_off (by omega), upd_off (by omega), upd_off (by omega), upd_off (by omega), upd_off (by omega), upd_off (by omega)]
    · simp only [va_up_same]
      rw [upd_off (by omega), upd_off (by omega), upd_off (by omega), upd_off (by omega), upd_off (by omega), upd_off (by omega), upd_off (by omega)]; exact h15
    · simp only [va_up_same]; rfl
    · simp only [va_up_same]; rfl
    · simp only [va_up_same]; rfl
    · simp only [va_up_same]; rfl
    · simp only [va_up_same]; rfl
    · simp only [va_up_same]
      rw [upd_same]
      unfold txA
      first | (rw [if_neg (by omega)]; done) | (rw [if_pos (by omega)]; congr 1; omega)
    · simp only [va_up_same]; rfl
/-- a text set down -/
def gTxt (g : Nat → Int32) (n key : Nat) (x : Int32) (R : MS) : Nat → Int32 := upd (upd (upd (upd (upd (gSt g (2524 + 200 * n) R.2.2.1) (2520 + 200 * n) (nI key)) (2520 + 200 * n + 1) x) (2520 + 200 * n + 2) (nI R.2.2.2)) (2520 + 200 * n + 3) (nI R.2.2.1.length)) 3 (nI (n + 1))
/-- the answer to text, and what it does: 0 nothing but on spare places, 1 a text set down -/
def f_text (f : Nat → Int32) (t n : Nat) (x : Int32) : Int32 × Bool := if zin x 0 1999 = true then (if (txF f t).2.1 = true then (if n = 14 then (-1000000003, false) else (nI n, true)) else (-100 - nI (txF f t).2.2.1, false)) else (-1000000001, false)
def tePost (f : Nat → Int32) (t n : Nat) (x : Int32) (I J : zI) (g g' : Nat → Int32) : Prop := (∀ q, q ≠ qR → J q = I q) ∧ (∀ i, ¬ (15 ≤ i ∧ i ≤ 25) → J qR i = I qR i) ∧ J qR 15 = nI 0 ∧ ((f_text f t n x).2 = false → ∀ i, (i < txA n ∨ txA n + 194 ≤ i) → g' i = g i) ∧ ((f_text f t n x).2 = true → n < 14 ∧ zin x 0 1999 = true ∧ ∃ key, (txF f t).1 = some key ∧ key < 4 ∧ (txF f t).2.1 = true ∧ (txF f t).2.2.2.1.length ≤ 96 ∧ g' = gTxt g n key x (txF f t).2)
theorem txF_key {f : Nat → Int32} {t : Nat} (h : (txF f t).2.1 = true) : ∃ key, (txF f t).1 = some key ∧ key < 4 := by
  unfold txF at h ⊢
  cases hk : kyF f t with
  | none => rw [hk] at h; cases h
  | some key =>
    refine ⟨key, rfl, ?_⟩
    unfold kyF at hk
    split at hk
    · exact keyF_4 hk
    · cases hk
theorem t2_X12_text (hZ : ShR Z) {f : Nat → Int32} {t n : Nat} {x : Int32} {J : zI} {g1 : Nat → Int32} {w2 w4 : Option Value} (hn : n ≤ 14) (hx : zin x 0 1999 = true) (P1 : ∀ q, q ≠ qR → J q = I q) (P2 : ∀ i, ¬ (15 ≤ i ∧ i ≤ 25) → J qR i = I qR i) (P3 : J qR 15 = nI 0) (P4 : ∀ i, (i < txA n ∨ txA n + 194 ≤ i) → g1 i = g i) (P5 : (txF f t).2.1 = false → J qR 16 = nI (txF f t).2.2.1)
    (P6 : (txF f t).2.1 = true → g1 = gSt g (txA n) (txF f t).2.2.2.1 ∧ J qR 23 = nI (txF f t).2.2.2.1.length ∧ J qR 25 = nI (txF f t).2.2.2.2 ∧ (txF f t).2.2.2.1.length ≤ 96) (h3 : g1 3 = nI n)
    (hq : ∀ J g', tePost f t n x I J g g' → Q (some (.int (f_text f t n x).1)) Z (va_up J q_s g')) : zX l G mX12_text 123 0 0 22 [some (.ref qR), some (.int x), w2, some (.int (psR (txF f t))), w4] [] Z (va_up J q_s g1) Q := by
  have hno : (f_text f t n x).2 = false → Q (some (.int (f_text f t n x).1)) Z (va_up J q_s g1) := fun h => hq J g1 ⟨P1, P2, P3, fun _ => P4, fun h2 => by rw [h] at h2; cases h2⟩
  by_cases hok : (txF f t).2.1 = true
  · obtain ⟨key, hk1, hk4⟩ := txF_key hok
    obtain ⟨q1, q2, q3, q4⟩ := P6 hok
    have hR : psR (txF f t) = nI key := by unfold psR; rw [if_pos hok, hk1]; rfl
    rw [hR]
    refine x_ild3 (n := 23) dX12_text_22 rfl ?_
    refine x_if_ge (n := 26) (tgt := 34) dX12_text_23 rfl (by decide) (fun c_23 => ?_) (fun c_23 => ?_)
    · refine x_ald0 (n := 35) dX12_text_34 rfl ?_
      refine x_getR (n := 38) flX12_7 rfl dX12_text_35 rfl (rK hZ) (rP_s hZ) ?_
      refine x_ic3 (n := 39) dX12_text_38 rfl ?_
      refine x_sld (n := 40) dX12_text_39 rfl hZ (by omega) ?_
      rw [h3]
      refine x_bipush (n := 42) (v := nI 14) dX12_text_40 rfl (by decide) ?_
      refine x_icmpN_ne (n := 45) (tgt := 48) dX12_text_42 rfl (by decide) (by omega) (by omega) (fun c_42 => ?_) (fun c_42 => ?_)
      · refine x_ald0 (n := 49) dX12_text_48 rfl ?_
        refine x_ald0 (n := 50) dX12_text_49 rfl ?_
        refine x_getR (n := 53) flX12_7 rfl dX12_text_50 rfl (rK hZ) (rP_s hZ) ?_
        refine x_ic3 (n := 54) dX12_text_53 rfl ?_
        refine x_sld (n := 55) dX12_text_54 rfl hZ (by omega) ?_
        rw [h3]
        refine x_cV1 (n := 58) (d' := 0) zcX12_textAt mlX12_302 dX12_text_55 rfl (rK hZ) (Nat.le_of_ble_eq_true rfl) (Nat.le_of_ble_eq_true rfl) ?_
        refine c_X12_textAt ?_
        refine x_some ?_
        refine x_ist4 (n := 60) dX12_text_58 rfl (by decide) rfl ?_
        refine x_ald0 (n := 61) dX12_text_60 rfl ?_
        refine x_getR (n := 64) flX12_7 rfl dX12_text_61 rfl (rK hZ) (rP_s hZ) ?_
        refine x_ild4 (n := 66) dX12_text_64 rfl ?_
        refine x_ic0 (n := 67) dX12_text_66 rfl ?_
        refine x_iaddN (n := 68) dX12_text_67 rfl ?_
        refine x_ild3 (n := 69) dX12_text_68 rfl ?_
        refine x_sst (n := 70) dX12_text_69 rfl hZ (by omega) ?_
        refine x_ald0 (n := 71) dX12_text_70 rfl ?_
        refine x_getR (n := 74) flX12_7 rfl dX12_text_71 rfl (rK hZ) (rP_s hZ) ?_
        refine x_ild4 (n := 76) dX12_text_74 rfl ?_
        refine x_ic1 (n := 77) dX12_text_76 rfl ?_
        refine x_iaddN (n := 78) dX12_text_77 rfl ?_
        refine x_ild1 (n := 79) dX12_text_78 rfl ?_
        refine x_sst (n := 80) dX12_text_79 rfl hZ (by omega) ?_
        refine x_ald0 (n := 81) dX12_text_80 rfl ?_
        refine x_getR (n := 84) flX12_7 rfl dX12_text_81 rfl (rK hZ) (rP_s hZ) ?_
        refine x_ild4 (n := 86) dX12_text_84 rfl ?_
        refine x_ic2 (n := 87) dX12_text_86 rfl ?_
        refine x_iaddN (n := 88) dX12_text_87 rfl ?_
        refine x_ald0 (n := 89) dX12_text_88 rfl ?_
        refine x_rget (n := 92) flX12_286 rfl dX12_text_89 rfl hZ ?_
        rw [q3]
        refine x_sst (n := 93) dX12_text_92 rfl hZ (by omega) ?_
        refine x_ald0 (n := 94) dX12_text_93 rfl ?_
        refine x_getR (n := 97) flX12_7 rfl dX12_text_94 rfl (rK hZ) (rP_s hZ) ?_
        refine x_ild4 (n := 99) dX12_text_97 rfl ?_
        refine x_ic3 (n := 100) dX12_text_99 rfl ?_
        refine x_iaddN (n := 101) dX12_text_100 rfl ?_
        refine x_ald0 (n := 102) dX12_text_101 rfl ?_
        refine x_rget (n := 105) flX12_258 rfl dX12_text_102 rfl hZ ?_
        rw [q2]
        refine x_sst (n := 106) dX12_text_105 rfl hZ (by omega) ?_
        refine x_ald0 (n := 107) dX12_text_106 rfl ?_
        refine x_getR (n := 110) flX12_7 rfl dX12_text_107 rfl (rK hZ) (rP_s hZ) ?_
        refine x_ic3 (n := 111) dX12_text_110 rfl ?_
        refine x_dup2 (n := 112) dX12_text_111 rfl rfl rfl ?_
        refine x_sld (n := 113) dX12_text_112 rfl hZ (by omega) ?_
        rw [upd_off (by omega), upd_off (by omega), upd_off (by omega), upd_off (by omega), h3]
        refine x_ic1 (n := 114) dX12_text_113 rfl ?_
        refine x_iaddN (n := 115) dX12_text_114 rfl ?_
        refine x_sst (n := 116) dX12_text_115 rfl hZ (by omega) ?_
        refine x_ald0 (n := 117) dX12_text_116 rfl ?_
        refine x_getR (n := 120) flX12_7 rfl dX12_text_117 rfl (rK hZ) (rP_s hZ) ?_
        refine x_ic3 (n := 121) dX12_text_120 rfl ?_
        refine x_sld (n := 122) dX12_text_121 rfl hZ (by omega) ?_
        rw [upd_same]
        refine x_ic1 (n := 123) dX12_text_122 rfl ?_
        refine x_isubN (n := 124) dX12_text_123 rfl (by omega) ?_
        refine r_iret dX12_text_124 rfl ?_
        have hn14 : n < 14 := by omega
        have hf2 : f_text f t n x = (nI n, true) := by unfold f_text; rw [if_pos hx, if_pos hok, if_neg (by omega)]
        have hQ := hq J (gTxt g n key x (txF f t).2) ⟨P1, P2, P3, (fun h => by rw [hf2] at h; cases h), fun _ => ⟨hn14, hx, key, hk1, hk4, hok, q4, rfl⟩⟩
        rw [hf2] at hQ
        have hg1 : g1 = gSt g (2524 + 200 * n) (txF f t).2.2.2.1 := by rw [q1]; unfold txA; rw [if_pos hn14]
        unfold gTxt at hQ
        rw [← hg1] at hQ
        exact hQ
      · refine x_ldc (n := 47) dX12_text_45 rfl kiX12_149 ?_
        refine r_iret dX12_text_47 rfl ?_
        have hn14 : n = 14 := by omega
        have hf2 : f_text f t n x = (-1000000003, false) := by unfold f_text; rw [if_pos hx, if_pos hok, if_pos hn14]
        rw [hf2] at hno; exact hno rfl
    · rcases (show key = 0 ∨ key = 1 ∨ key = 2 ∨ key = 3 by omega) with h | h | h | h <;> (subst h; exact absurd c_23 (by decide))
  · have hok' : (txF f t).2.1 = false := by simpa using hok
    have hR : psR (txF f t) = -1 := by unfold psR; rw [if_neg hok]
    have h16 := P5 hok'
    rw [hR]
    refine x_ild3 (n := 23) dX12_text_22 rfl ?_
    refine x_if_ge (n := 26) (tgt := 34) dX12_text_23 rfl (by decide) (fun c_23 => ?_) (fun c_23 => ?_)
    · exact absurd c_23 (by decide)
    · refine x_bipush (n := 28) (v := -100) dX12_text_26 rfl (by decide) ?_
      refine x_ald0 (n := 29) dX12_text_28 rfl ?_
      refine x_rget (n := 32) flX12_232 rfl dX12_text_29 rfl hZ ?_
      refine x_isub (n := 33) dX12_text_32 rfl ?_
      refine r_iret dX12_text_33 rfl ?_
      rw [h16]
      have hf2 : f_text f t n x = (-100 - nI (txF f t).2.2.1, false) := by unfold f_text; rw [if_pos hx, if_neg hok]
      rw [hf2] at hno; exact hno rfl
theorem c_X12_text (hZ : ShR Z) {f : Nat → Int32} {t n : Nat} {x : Int32} (hy : byR f t) (ht : t ≤ 96) (hf : I q_tape = f) (h15 : I qR 15 = nI t) (hg : g 3 = nI n) (hn : n ≤ 14)
    (hq : ∀ J g', tePost f t n x I J g g' → Q (some (.int (f_text f t n x).1)) Z (va_up J q_s g')) : zM l G mX12_text 123 0 0 [.ref qR, .int x] Z (va_up I q_s g) Q := by
  refine x_entry [some (.ref qR), some (.int x), none, none, none] 3 rfl rfl (Nat.le_of_ble_eq_true rfl) ?_
  refine x_ild1 (n := 1) dX12_text_0 rfl ?_
  refine x_i2l (n := 2) dX12_text_1 rfl ?_
  refine x_lconst (n := 3) (v := 0) dX12_text_2 rfl (by decide) ?_
  refine x_ldc2 (n := 6) dX12_text_3 rfl klX12_180 ?_
  refine x_cS3 (n := 9) (d' := 0) zcX12_isIn mlX12_89 dX12_text_6 rfl (Nat.le_of_ble_eq_true rfl) (Nat.le_of_ble_eq_true rfl) ?_
  refine c_X12_isIn (zin x 0 1999) (by unfold zin; rw [zI64]; rfl) ?_
  refine x_some ?_
  refine x_ist2 (n := 10) dX12_text_9 rfl (by decide) rfl ?_
  refine x_ald0 (n := 11) dX12_text_10 rfl ?_
  refine x_cV0 (n := 14) (d' := 122) zcX12_parse mlX12_308 dX12_text_11 rfl (rK hZ) (Nat.le_of_ble_eq_true rfl) (Nat.le_of_ble_eq_true rfl) ?_
  refine c_X12_parse hZ hy ht hf h15 hg hn (fun J g1 hP => ?_)
  obtain ⟨P1, P2, P3, P4, P5, P6⟩ := hP
  have h3 : g1 3 = nI n := by rw [P4 3 (by unfold txA; split <;> omega)]; exact hg
  have hno : (f_text f t n x).2 = false → Q (some (.int (f_text f t n x).1)) Z (va_up J q_s g1) := fun h => hq J g1 ⟨P1, P2, P3, fun _ => P4, fun h2 => by rw [h] at h2; cases h2⟩
  unfold f_text at hno
  refine x_some ?_
  refine x_ist3 (n := 15) dX12_text_14 rfl (by decide) rfl ?_
  refine x_ild2 (n := 16) dX12_text_15 rfl ?_
  refine x_zif_ne (n := 19) (tgt := 22) dX12_text_16 rfl (by decide) (fun c_16 => ?_) (fun c_16 => ?_)
  · exact t2_X12_text hZ hn c_16 P1 P2 P3 P4 P5 P6 h3 hq
  · refine x_ldc (n := 21) dX12_text_19 rfl kiX12_100 ?_
    refine r_iret dX12_text_21 rfl ?_
    rw [if_neg (by rw [c_16]; decide)] at hno; exact hno rfl
end
