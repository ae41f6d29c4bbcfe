def cpN (f : Nat → Int32) (a b n : Nat) : Nat → Int32 := fun j => if b ≤ j ∧ j < b + n then f (a + (j - b)) else f j
def cpyOK (t : svS) (x p y q m : Int32) : Bool := decide (0 ≤ p ∧ 0 ≤ q ∧ 0 ≤ m ∧ p.toInt + m.toInt ≤ (t.2.1 (ix x)).toInt ∧ q.toInt + m.toInt ≤ (t.2.1 (ix y)).toInt)
def f_copy (t : svS) (x p y q m : Int32) : Int32 × svS := if zin x 0 3 = true ∧ zin y 0 3 = true then (if t.1 (ix x) < 0 ∨ t.1 (ix y) < 0 then (-1000000011, t) else if t.1 (ix x) = t.1 (ix y) then (if cpyOK t x p y q m = true then (m, (t.1, t.2.1, cpN t.2.2 (24 * ix x + ix p) (24 * ix y + ix q) (ix m))) else (-1000000013, t)) else (-1000000012, t)) else (-1000000001, t)
section
variable {l : Launch} {G : zG} {Z : zS} {I : zI} {g : Nat → Int32} {Q : Option Value → zS → zI → Prop}
theorem cpN_0 (f : Nat → Int32) (a b : Nat) : cpN f a b 0 = f := by funext j; unfold cpN; rw [if_neg (by omega)]
theorem cpN_s (f : Nat → Int32) (a b k : Nat) : upd (cpN f a b k) (b + k) (f (a + k)) = cpN f a b (k + 1) := by
  funext j
  unfold upd
  by_cases e : j = b + k
  · subst e; rw [if_pos rfl]; unfold cpN; rw [if_pos (by omega), show a + (b + k - b) = a + k by omega]
  · rw [if_neg e]
    unfold cpN
    by_cases h2 : b ≤ j ∧ j < b + k
    · rw [if_pos h2, if_pos (by omega)]
    · rw [if_neg h2, if_neg (by omega)]
theorem l1_X12_copy (hZ : ShR Z) {c d p q m : Nat} (hc : c < 4) (hd : d < 4) (hpm : p + m ≤ 24) (hm : m ≤ 24)
    (hx : ∀ r : Nat → Int32, (∀ j, j < m → r j = I q_tNumber (24 * c + p + j)) → zX l G mX12_copy 2 0 0 147 [some (.ref qR), some (.int (nI c)), some (.int (nI p)), some (.int (nI d)), some (.int (nI q)), some (.int (nI m)), none] [] Z (va_up (va_up I q_carried r) q_s g) Q) :
    ∀ u k (r : Nat → Int32), (∀ j, j < k → r j = I q_tNumber (24 * c + p + j)) → k ≤ m → m - k < u → zX l G mX12_copy 2 0 0 113 [some (.ref qR), some (.int (nI c)), some (.int (nI p)), some (.int (nI d)), some (.int (nI q)), some (.int (nI m)), some (.int (nI k))] [] Z (va_up (va_up I q_carried r) q_s g) Q := by
  intro u
  induction u with
  | zero => intro k r _ _ h; exact absurd h (by omega)
  | succ u ih =>
    intro k r hr hk hu
    refine x_ild6 (n := 115) dX12_copy_113 rfl ?_
    refine x_ild5 (n := 117) dX12_copy_115 rfl ?_
    refine x_icmpN_ge (n := 120) (tgt := 147) dX12_copy_117 rfl (by decide) (by omega) (by omega) (fun c_117 => ?_) (fun c_117 => ?_)
    · exact x_fg6 (hx r (fun j hj => hr j (by omega)))
    · refine x_ald0 (n := 121) dX12_copy_120 rfl ?_
      refine x_getR (n := 124) flX12_71 rfl dX12_copy_121 rfl (rK hZ) (rP_carried hZ) ?_
      refine x_ild6 (n := 126) dX12_copy_124 rfl ?_
      refine x_ald0 (n := 127) dX12_copy_126 rfl ?_
      refine x_getR (n := 130) flX12_25 rfl dX12_copy_127 rfl (rK hZ) (rP_tNumber hZ) ?_
      refine x_bipush (n := 132) (v := nI 24) dX12_copy_130 rfl (by decide) ?_
      refine x_ild1 (n := 133) dX12_copy_132 rfl ?_
      refine x_imulN (n := 134) dX12_copy_133 rfl ?_
      refine x_ild2 (n := 135) dX12_copy_134 rfl ?_
      refine x_iaddN (n := 136) dX12_copy_135 rfl ?_
      refine x_ild6 (n := 138) dX12_copy_136 rfl ?_
      refine x_iaddN (n := 139) dX12_copy_138 rfl ?_
      refine x_old (n := 140) dX12_copy_139 rfl (rA_tNumber hZ) (by decide) (Nat.le_of_ble_eq_true rfl) (by omega) ?_
      rw [va_up_off (show q_tNumber ≠ q_carried by decide)]
      refine x_ost (n := 141) dX12_copy_140 rfl (rA_carried hZ) (by decide) (Nat.le_of_ble_eq_true rfl) (by omega) ?_
      refine x_iincN6 (n := 144) (k := 1) dX12_copy_141 rfl (by decide) rfl ?_
      refine x_goto (n := 113) dX12_copy_144 (by decide) ?_
      rw [va_up_same, va_up_2]
      refine ih (k + 1) _ (fun j hj => ?_) (by omega) (by omega)
      by_cases e : j = k
      · subst e; exact upd_same
      · rw [upd_off e]; exact hr j (by omega)
theorem l2_X12_copy (hZ : ShR Z) {c d p q m : Nat} {f r : Nat → Int32} (hc : c < 4) (hd : d < 4) (hqm : q + m ≤ 24) (hm : m ≤ 24) (hr : ∀ j, j < m → r j = f (24 * c + p + j)) (hcr : I q_carried = r)
    (hq : Q (some (.int (nI m))) Z (va_up (va_up I q_tNumber (cpN f (24 * c + p) (24 * d + q) m)) q_s g)) :
    ∀ u k, k ≤ m → m - k < u → zX l G mX12_copy 2 0 0 150 [some (.ref qR), some (.int (nI c)), some (.int (nI p)), some (.int (nI d)), some (.int (nI q)), some (.int (nI m)), some (.int (nI k))] [] Z (va_up (va_up I q_tNumber (cpN f (24 * c + p) (24 * d + q) k)) q_s g) Q := by
  intro u
  induction u with
  | zero => intro k _ h; exact absurd h (by omega)
  | succ u ih =>
    intro k hk hu
    refine x_ild6 (n := 152) dX12_copy_150 rfl ?_
    refine x_ild5 (n := 154) dX12_copy_152 rfl ?_
    refine x_icmpN_ge (n := 157) (tgt := 185) dX12_copy_154 rfl (by decide) (by omega) (by omega) (fun c_154 => ?_) (fun c_154 => ?_)
    · refine x_ild5 (n := 187) dX12_copy_185 rfl ?_
      refine r_iret dX12_copy_187 rfl ?_
      rw [show k = m by omega]; exact hq
    · refine x_ald0 (n := 158) dX12_copy_157 rfl ?_
      refine x_getR (n := 161) flX12_25 rfl dX12_copy_158 rfl (rK hZ) (rP_tNumber hZ) ?_
      refine x_bipush (n := 163) (v := nI 24) dX12_copy_161 rfl (by decide) ?_
      refine x_ild3 (n := 164) dX12_copy_163 rfl ?_
      refine x_imulN (n := 165) dX12_copy_164 rfl ?_
      refine x_ild4 (n := 167) dX12_copy_165 rfl ?_
      refine x_iaddN (n := 168) dX12_copy_167 rfl ?_
      refine x_ild6 (n := 170) dX12_copy_168 rfl ?_
      refine x_iaddN (n := 171) dX12_copy_170 rfl ?_
      refine x_ald0 (n := 172) dX12_copy_171 rfl ?_
      refine x_getR (n := 175) flX12_71 rfl dX12_copy_172 rfl (rK hZ) (rP_carried hZ) ?_
      refine x_ild6 (n := 177) dX12_copy_175 rfl ?_
      refine x_old (n := 178) dX12_copy_177 rfl (rA_carried hZ) (by decide) (Nat.le_of_ble_eq_true rfl) (by omega) ?_
      rw [va_up_off (show q_carried ≠ q_tNumber by decide), hcr, hr k (by omega)]
      refine x_ost (n := 179) dX12_copy_178 rfl (rA_tNumber hZ) (by decide) (Nat.le_of_ble_eq_true rfl) (by omega) ?_
      refine x_iincN6 (n := 182) (k := 1) dX12_copy_179 rfl (by decide) rfl ?_
      refine x_goto (n := 150) dX12_copy_182 (by decide) ?_
      rw [va_up_same, va_up_2, cpN_s]
      exact ih (k + 1) (by omega) (by omega)
theorem lgle (x y : Int64) : (lg_cmp x y ≤ 0) = (x.toInt ≤ y.toInt) := by
  apply propext
  have h := @lg_cmp_gt x y
  rw [← Int32.not_lt, h, zlt64]
  omega
theorem zI64a {a b : Int32} (ha : 0 ≤ a.toInt) (hb : 0 ≤ b.toInt) : (a.toInt64 + b.toInt64).toInt = a.toInt + b.toInt := by
  have h1 := fb_rng0 a
  have h2 := fb_rng0 b
  rw [Int64.toInt_add, zI64, zI64]
  exact Int.bmod_eq_of_le (by omega) (by omega)
theorem cpy_of {c d : Nat} {p q m : Int32} (hc : c < 4) (hd : d < 4) (h1 : 0 ≤ p) (h2 : 0 ≤ q) (h3 : 0 ≤ m) (h4 : lg_cmp (p.toInt64 + m.toInt64) (I q_tSize c).toInt64 ≤ 0) (h5 : lg_cmp (q.toInt64 + m.toInt64) (I q_tSize d).toInt64 ≤ 0) : cpyOK (sv I) (nI c) p (nI d) q m = true := by
  have g1 : 0 ≤ p.toInt := Int32.le_iff_toInt_le.mp h1
  have g2 : 0 ≤ q.toInt := Int32.le_iff_toInt_le.mp h2
  have g3 : 0 ≤ m.toInt := Int32.le_iff_toInt_le.mp h3
  rw [lgle, zI64a g1 g3, zI64] at h4
  rw [lgle, zI64a g2 g3, zI64] at h5
  refine decide_eq_true ⟨h1, h2, h3, ?_, ?_⟩
  · rw [ix_nI (by omega)]; exact h4
  · rw [ix_nI (by omega)]; exact h5
theorem c_X12_copy (hZ : ShR Z) (hS : svOK (sv I)) {x p y q m : Int32} (hq : ∀ I' : zI, (∀ a, a ≠ q_carried → I' a = I a) → Q (some (.int (f_copy (sv I) x p y q m).1)) Z (va_up (svP I' (f_copy (sv I) x p y q m).2) q_s g)) : zM l G mX12_copy 2 0 0 [.ref qR, .int x, .int p, .int y, .int q, .int m] Z (va_up I q_s g) Q := by
  refine x_entry [some (.ref qR), some (.int x), some (.int p), some (.int y), some (.int q), some (.int m), none] 1 rfl rfl (Nat.le_of_ble_eq_true rfl) ?_
  unfold f_copy at hq
  have same : ∀ v : Int32, (∀ I' : zI, (∀ a, a ≠ q_carried → I' a = I a) → Q (some (.int v)) Z (va_up (svP I' (sv I)) q_s g)) → Q (some (.int v)) Z (va_up I q_s g) := by
    intro v h
    have := h I (fun _ _ => rfl)
    rw [svP_id] at this
    exact this
  by_cases hx : zin x 0 3 = true
  · by_cases hy : zin y 0 3 = true
    · obtain ⟨c, hc, hc2, rfl⟩ := z_num 4 hx (by omega)
      obtain ⟨d, hd, hd2, rfl⟩ := z_num 4 hy (by omega)
      rw [if_pos ⟨hx, hy⟩, ix_nI (by omega), ix_nI (by omega)] at hq
      have e1 : ∀ j, (sv I).1 j = I q_tSort j := fun _ => rfl
      rw [e1, e1] at hq
      by_cases hs : I q_tSort c < 0 ∨ I q_tSort d < 0
      · rw [if_pos hs] at hq
        have hq' := same _ hq
        refine x_ild1 (n := 1) dX12_copy_0 rfl ?_
        refine x_cS1 (n := 4) (d' := 1) zcX12_isSurvey mlX12_343 dX12_copy_1 rfl (Nat.le_of_ble_eq_true rfl) (Nat.le_of_ble_eq_true rfl) ?_
        refine c_X12_isSurvey ?_
        refine x_some ?_
        refine x_zif_eq (n := 7) (tgt := 14) dX12_copy_4 rfl (by decide) (fun c_4 => ?_) (fun c_4 => ?_)
        · rw [hx] at c_4; cases c_4
        · refine x_ild3 (n := 8) dX12_copy_7 rfl ?_
          refine x_cS1 (n := 11) (d' := 1) zcX12_isSurvey mlX12_343 dX12_copy_8 rfl (Nat.le_of_ble_eq_true rfl) (Nat.le_of_ble_eq_true rfl) ?_
          refine c_X12_isSurvey ?_
          refine x_some ?_
          refine x_zif_ne (n := 14) (tgt := 17) dX12_copy_11 rfl (by decide) (fun c_11 => ?_) (fun c_11 => ?_)
          · refine x_ald0 (n := 18) dX12_copy_17 rfl ?_
            refine x_getR (n := 21) flX12_19 rfl dX12_copy_18 rfl (rK hZ) (rP_tSort hZ) ?_
            refine x_ild1 (n := 22) dX12_copy_21 rfl ?_
            refine x_old (n := 23) dX12_copy_22 rfl (rA_tSort hZ) (by decide) (Nat.le_of_ble_eq_true rfl) (by omega) ?_
            refine x_if_lt (n := 26) (tgt := 35) dX12_copy_23 rfl (by decide) (fun c_23 => ?_) (fun c_23 => ?_)
            · refine x_ldcw (n := 38) dX12_copy_35 rfl kiX12_349 ?_
              refine r_iret dX12_copy_38 rfl ?_
              exact hq'
            · refine x_ald0 (n := 27) dX12_copy_26 rfl ?_
              refine x_getR (n := 30) flX12_19 rfl dX12_copy_27 rfl (rK hZ) (rP_tSort hZ) ?_
              refine x_ild3 (n := 31) dX12_copy_30 rfl ?_
              refine x_old (n := 32) dX12_copy_31 rfl (rA_tSort hZ) (by decide) (Nat.le_of_ble_eq_true rfl) (by omega) ?_
              refine x_if_ge (n := 35) (tgt := 39) dX12_copy_32 rfl (by decide) (fun c_32 => ?_) (fun c_32 => ?_)
              · exact absurd hs (fun h => by rcases h with h | h; exact c_23 h; exact Int32.not_lt.mpr c_32 h)
              · refine x_ldcw (n := 38) dX12_copy_35 rfl kiX12_349 ?_
                refine r_iret dX12_copy_38 rfl ?_
                exact hq'
          · rw [hy] at c_11; cases c_11
      · have hs1 : ¬ I q_tSort c < 0 := fun h => hs (Or.inl h)
        have hs2 : ¬ I q_tSort d < 0 := fun h => hs (Or.inr h)
        rw [if_neg hs] at hq
        by_cases he : I q_tSort c = I q_tSort d
        · rw [if_pos he] at hq
          have hz1 : 0 ≤ (I q_tSize c).toInt ∧ (I q_tSize c).toInt ≤ 24 := (hS c hc).2
          have hz2 : 0 ≤ (I q_tSize d).toInt ∧ (I q_tSize d).toInt ≤ 24 := (hS d hd).2
          by_cases hk : cpyOK (sv I) (nI c) p (nI d) q m = true
          · rw [if_pos hk] at hq
            obtain ⟨k1, k2, k3, k4, k5⟩ := of_decide_eq_true hk
            rw [ix_nI (by omega)] at k4 k5
            have k4' : p.toInt + m.toInt ≤ (I q_tSize c).toInt := k4
            have k5' : q.toInt + m.toInt ≤ (I q_tSize d).toInt := k5
            have g1 : 0 ≤ p.toInt := Int32.le_iff_toInt_le.mp k1
            have g2 : 0 ≤ q.toInt := Int32.le_iff_toInt_le.mp k2
            have g3 : 0 ≤ m.toInt := Int32.le_iff_toInt_le.mp k3
            obtain ⟨p', hp', rfl⟩ := z_of (x := p) (n := 25) g1 (by omega)
            obtain ⟨q', hq', rfl⟩ := z_of (x := q) (n := 25) g2 (by omega)
            obtain ⟨m', hm', rfl⟩ := z_of (x := m) (n := 25) g3 (by omega)
            rw [nI_toInt (by omega), nI_toInt (by omega)] at k4' k5'
            rw [ix_nI (by omega), ix_nI (by omega), ix_nI (by omega)] at hq
            have fin := l1_X12_copy (l := l) (G := G) (I := I) (g := g) (Q := Q) (c := c) (d := d) (p := p') (q := q') (m := m') hZ hc hd (by omega) (by omega) (fun r hr => by
              refine x_ic0 (n := 148) dX12_copy_147 rfl ?_
              refine x_ist6 (n := 150) dX12_copy_148 rfl (by decide) rfl ?_
              have := l2_X12_copy (l := l) (G := G) (I := va_up I q_carried r) (g := g) (Q := Q) (c := c) (d := d) (p := p') (q := q') (m := m') (f := I q_tNumber) (r := r) hZ hc hd (by omega) (by omega) hr va_up_same ?_ (m' + 1) 0 (by omega) (by omega)
              · rw [cpN_0] at this
                have e : va_up (va_up I q_carried r) q_tNumber (I q_tNumber) = va_up I q_carried r := by
                  have h := va_up_id (va_up I q_carried r) q_tNumber
                  rw [va_up_off (show q_tNumber ≠ q_carried by decide)] at h
                  exact h
                rw [e] at this
                exact this
              · have h := hq (va_up I q_carried r) (fun a ha => va_up_off ha)
                have e : svP (va_up I q_carried r) ((sv I).1, (sv I).2.1, cpN (sv I).2.2 (24 * c + p') (24 * d + q') m') = va_up (va_up I q_carried r) q_tNumber (cpN (I q_tNumber) (24 * c + p') (24 * d + q') m') := by
                  have h1 := va_up_id (va_up I q_carried r) q_tSort
                  rw [va_up_off (show q_tSort ≠ q_carried by decide)] at h1
                  have h2 := va_up_id (va_up I q_carried r) q_tSize
                  rw [va_up_off (show q_tSize ≠ q_carried by decide)] at h2
                  unfold svP sv
                  simp only
                  rw [h1, h2]
                rw [e] at h
                exact h) (m' + 1) 0 (I q_carried) (fun j hj => absurd hj (by omega)) (by omega) (by omega)
            rw [va_up_id] at fin
            have w1 : (p' : Int) + m' ≤ (I q_tSize c).toInt := k4'
            have w2 : (q' : Int) + m' ≤ (I q_tSize d).toInt := k5'
            refine x_ild1 (n := 1) dX12_copy_0 rfl ?_
            refine x_cS1 (n := 4) (d' := 1) zcX12_isSurvey mlX12_343 dX12_copy_1 rfl (Nat.le_of_ble_eq_true rfl) (Nat.le_of_ble_eq_true rfl) ?_
            refine c_X12_isSurvey ?_
            refine x_some ?_
            refine x_zif_eq (n := 7) (tgt := 14) dX12_copy_4 rfl (by decide) (fun c_4 => ?_) (fun c_4 => ?_)
            · rw [hx] at c_4; cases c_4
            · refine x_ild3 (n := 8) dX12_copy_7 rfl ?_
              refine x_cS1 (n := 11) (d' := 1) zcX12_isSurvey mlX12_343 dX12_copy_8 rfl (Nat.le_of_ble_eq_true rfl) (Nat.le_of_ble_eq_true rfl) ?_
              refine c_X12_isSurvey ?_
              refine x_some ?_
              refine x_zif_ne (n := 14) (tgt := 17) dX12_copy_11 rfl (by decide) (fun c_11 => ?_) (fun c_11 => ?_)
              · refine x_ald0 (n := 18) dX12_copy_17 rfl ?_
                refine x_getR (n := 21) flX12_19 rfl dX12_copy_18 rfl (rK hZ) (rP_tSort hZ) ?_
                refine x_ild1 (n := 22) dX12_copy_21 rfl ?_
                refine x_old (n := 23) dX12_copy_22 rfl (rA_tSort hZ) (by decide) (Nat.le_of_ble_eq_true rfl) (by omega) ?_
                refine x_if_lt (n := 26) (tgt := 35) dX12_copy_23 rfl (by decide) (fun c_23 => ?_) (fun c_23 => ?_)
                · exact absurd c_23 hs1
                · refine x_ald0 (n := 27) dX12_copy_26 rfl ?_
                  refine x_getR (n := 30) flX12_19 rfl dX12_copy_27 rfl (rK hZ) (rP_tSort hZ) ?_
                  refine x_ild3 (n := 31) dX12_copy_30 rfl ?_
                  refine x_old (n := 32) dX12_copy_31 rfl (rA_tSort hZ) (by decide) (Nat.le_of_ble_eq_true rfl) (by omega) ?_
                  refine x_if_ge (n := 35) (tgt := 39) dX12_copy_32 rfl (by decide) (fun c_32 => ?_) (fun c_32 => ?_)
                  · refine x_ald0 (n := 40) dX12_copy_39 rfl ?_
                    refine x_getR (n := 43) flX12_19 rfl dX12_copy_40 rfl (rK hZ) (rP_tSort hZ) ?_
                    refine x_ild1 (n := 44) dX12_copy_43 rfl ?_
                    refine x_old (n := 45) dX12_copy_44 rfl (rA_tSort hZ) (by decide) (Nat.le_of_ble_eq_true rfl) (by omega) ?_
                    refine x_ald0 (n := 46) dX12_copy_45 rfl ?_
                    refine x_getR (n := 49) flX12_19 rfl dX12_copy_46 rfl (rK hZ) (rP_tSort hZ) ?_
                    refine x_ild3 (n := 50) dX12_copy_49 rfl ?_
                    refine x_old (n := 51) dX12_copy_50 rfl (rA_tSort hZ) (by decide) (Nat.le_of_ble_eq_true rfl) (by omega) ?_
                    refine x_icmp_eq (n := 54) (tgt := 57) dX12_copy_51 rfl (by decide) (fun c_51 => ?_) (fun c_51 => ?_)
                    · refine x_ild2 (n := 58) dX12_copy_57 rfl ?_
                      refine x_if_lt (n := 61) (tgt := 106) dX12_copy_58 rfl (by decide) (fun c_58 => ?_) (fun c_58 => ?_)
                      · exact absurd c_58 (nI_pos (by omega))
                      · refine x_ild4 (n := 63) dX12_copy_61 rfl ?_
                        refine x_if_lt (n := 66) (tgt := 106) dX12_copy_63 rfl (by decide) (fun c_63 => ?_) (fun c_63 => ?_)
                        · exact absurd c_63 (nI_pos (by omega))
                        · refine x_ild5 (n := 68) dX12_copy_66 rfl ?_
                          refine x_if_lt (n := 71) (tgt := 106) dX12_copy_68 rfl (by decide) (fun c_68 => ?_) (fun c_68 => ?_)
                          · exact absurd c_68 (nI_pos (by omega))
                          · refine x_ild2 (n := 72) dX12_copy_71 rfl ?_
                            refine x_i2l (n := 73) dX12_copy_72 rfl ?_
                            refine x_ild5 (n := 75) dX12_copy_73 rfl ?_
                            refine x_i2l (n := 76) dX12_copy_75 rfl ?_
                            refine x_ladd (n := 77) dX12_copy_76 rfl ?_
                            refine x_ald0 (n := 78) dX12_copy_77 rfl ?_
                            refine x_getR (n := 81) flX12_22 rfl dX12_copy_78 rfl (rK hZ) (rP_tSize hZ) ?_
                            refine x_ild1 (n := 82) dX12_copy_81 rfl ?_
                            refine x_old (n := 83) dX12_copy_82 rfl (rA_tSize hZ) (by decide) (Nat.le_of_ble_eq_true rfl) (by omega) ?_
                            refine x_i2l (n := 84) dX12_copy_83 rfl ?_
                            refine x_lcmp (n := 85) dX12_copy_84 rfl ?_
                            refine x_if_gt (n := 88) (tgt := 106) dX12_copy_85 rfl (by decide) (fun c_85 => ?_) (fun c_85 => ?_)
                            · rw [← Int32.not_le, lgle, zI64a g1 g3, zI64, nI_toInt (by omega), nI_toInt (by omega)] at c_85; omega
                            · refine x_ild4 (n := 90) dX12_copy_88 rfl ?_
                              refine x_i2l (n := 91) dX12_copy_90 rfl ?_
                              refine x_ild5 (n := 93) dX12_copy_91 rfl ?_
                              refine x_i2l (n := 94) dX12_copy_93 rfl ?_
                              refine x_ladd (n := 95) dX12_copy_94 rfl ?_
                              refine x_ald0 (n := 96) dX12_copy_95 rfl ?_
                              refine x_getR (n := 99) flX12_22 rfl dX12_copy_96 rfl (rK hZ) (rP_tSize hZ) ?_
                              refine x_ild3 (n := 100) dX12_copy_99 rfl ?_
                              refine x_old (n := 101) dX12_copy_100 rfl (rA_tSize hZ) (by decide) (Nat.le_of_ble_eq_true rfl) (by omega) ?_
                              refine x_i2l (n := 102) dX12_copy_101 rfl ?_
                              refine x_lcmp (n := 103) dX12_copy_102 rfl ?_
                              refine x_if_le (n := 106) (tgt := 110) dX12_copy_103 rfl (by decide) (fun c_103 => ?_) (fun c_103 => ?_)
                              · refine x_ic0 (n := 111) dX12_copy_110 rfl ?_
                                refine x_ist6 (n := 113) dX12_copy_111 rfl (by decide) rfl ?_
                                exact fin
                              · rw [lgle, zI64a g2 g3, zI64, nI_toInt (by omega), nI_toInt (by omega)] at c_103; omega
                    · exact absurd he c_51
                  · exact absurd (Int32.not_lt.mp hs2) c_32
              · rw [hy] at c_11; cases c_11
          · rw [if_neg hk] at hq
            have hq' := same _ hq
            refine x_ild1 (n := 1) dX12_copy_0 rfl ?_
            refine x_cS1 (n := 4) (d' := 1) zcX12_isSurvey mlX12_343 dX12_copy_1 rfl (Nat.le_of_ble_eq_true rfl) (Nat.le_of_ble_eq_true rfl) ?_
            refine c_X12_isSurvey ?_
            refine x_some ?_
            refine x_zif_eq (n := 7) (tgt := 14) dX12_copy_4 rfl (by decide) (fun c_4 => ?_) (fun c_4 => ?_)
            · rw [hx] at c_4; cases c_4
            · refine x_ild3 (n := 8) dX12_copy_7 rfl ?_
              refine x_cS1 (n := 11) (d' := 1) zcX12_isSurvey mlX12_343 dX12_copy_8 rfl (Nat.le_of_ble_eq_true rfl) (Nat.le_of_ble_eq_true rfl) ?_
              refine c_X12_isSurvey ?_
              refine x_some ?_
              refine x_zif_ne (n := 14) (tgt := 17) dX12_copy_11 rfl (by decide) (fun c_11 => ?_) (fun c_11 => ?_)
              · refine x_ald0 (n := 18) dX12_copy_17 rfl ?_
                refine x_getR (n := 21) flX12_19 rfl dX12_copy_18 rfl (rK hZ) (rP_tSort hZ) ?_
                refine x_ild1 (n := 22) dX12_copy_21 rfl ?_
                refine x_old (n := 23) dX12_copy_22 rfl (rA_tSort hZ) (by decide) (Nat.le_of_ble_eq_true rfl) (by omega) ?_
                refine x_if_lt (n := 26) (tgt := 35) dX12_copy_23 rfl (by decide) (fun c_23 => ?_) (fun c_23 => ?_)
                · exact absurd c_23 hs1
                · refine x_ald0 (n := 27) dX12_copy_26 rfl ?_
                  refine x_getR (n := 30) flX12_19 rfl dX12_copy_27 rfl (rK hZ) (rP_tSort hZ) ?_
                  refine x_ild3 (n := 31) dX12_copy_30 rfl ?_
                  refine x_old (n := 32) dX12_copy_31 rfl (rA_tSort hZ) (by decide) (Nat.le_of_ble_eq_true rfl) (by omega) ?_
                  refine x_if_ge (n := 35) (tgt := 39) dX12_copy_32 rfl (by decide) (fun c_32 => ?_) (fun c_32 => ?_)
                  · refine x_ald0 (n := 40) dX12_copy_39 rfl ?_
                    refine x_getR (n := 43) flX12_19 rfl dX12_copy_40 rfl (rK hZ) (rP_tSort hZ) ?_
                    refine x_ild1 (n := 44) dX12_copy_43 rfl ?_
                    refine x_old (n := 45) dX12_copy_44 rfl (rA_tSort hZ) (by decide) (Nat.le_of_ble_eq_true rfl) (by omega) ?_
                    refine x_ald0 (n := 46) dX12_copy_45 rfl ?_
                    refine x_getR (n := 49) flX12_19 rfl dX12_copy_46 rfl (rK hZ) (rP_tSort hZ) ?_
                    refine x_ild3 (n := 50) dX12_copy_49 rfl ?_
                    refine x_old (n := 51) dX12_copy_50 rfl (rA_tSort hZ) (by decide) (Nat.le_of_ble_eq_true rfl) (by omega) ?_
                    refine x_icmp_eq (n := 54) (tgt := 57) dX12_copy_51 rfl (by decide) (fun c_51 => ?_) (fun c_51 => ?_)
                    · refine x_ild2 (n := 58) dX12_copy_57 rfl ?_
                      refine x_if_lt (n := 61) (tgt := 106) dX12_copy_58 rfl (by decide) (fun c_58 => ?_) (fun c_58 => ?_)
                      · refine x_ldcw (n := 109) dX12_copy_106 rfl kiX12_350 ?_
                        refine r_iret dX12_copy_109 rfl ?_
                        exact hq'
                      · refine x_ild4 (n := 63) dX12_copy_61 rfl ?_
                        refine x_if_lt (n := 66) (tgt := 106) dX12_copy_63 rfl (by decide) (fun c_63 => ?_) (fun c_63 => ?_)
                        · refine x_ldcw (n := 109) dX12_copy_106 rfl kiX12_350 ?_
                          refine r_iret dX12_copy_109 rfl ?_
                          exact hq'
                        · refine x_ild5 (n := 68) dX12_copy_66 rfl ?_
                          refine x_if_lt (n := 71) (tgt := 106) dX12_copy_68 rfl (by decide) (fun c_68 => ?_) (fun c_68 => ?_)
                          · refine x_ldcw (n := 109) dX12_copy_106 rfl kiX12_350 ?_
                            refine r_iret dX12_copy_109 rfl ?_
                            exact hq'
                          · refine x_ild2 (n := 72) dX12_copy_71 rfl ?_
                            refine x_i2l (n := 73) dX12_copy_72 rfl ?_
                            refine x_ild5 (n := 75) dX12_copy_73 rfl ?_
                            refine x_i2l (n := 76) dX12_copy_75 rfl ?_
                            refine x_ladd (n := 77) dX12_copy_76 rfl ?_
                            refine x_ald0 (n := 78) dX12_copy_77 rfl ?_
                            refine x_getR (n := 81) flX12_22 rfl dX12_copy_78 rfl (rK hZ) (rP_tSize hZ) ?_
                            refine x_ild1 (n := 82) dX12_copy_81 rfl ?_
                            refine x_old (n := 83) dX12_copy_82 rfl (rA_tSize hZ) (by decide) (Nat.le_of_ble_eq_true rfl) (by omega) ?_
                            refine x_i2l (n := 84) dX12_copy_83 rfl ?_
                            refine x_lcmp (n := 85) dX12_copy_84 rfl ?_
                            refine x_if_gt (n := 88) (tgt := 106) dX12_copy_85 rfl (by decide) (fun c_85 => ?_) (fun c_85 => ?_)
                            · refine x_ldcw (n := 109) dX12_copy_106 rfl kiX12_350 ?_
                              refine r_iret dX12_copy_109 rfl ?_
                              exact hq'
                            · refine x_ild4 (n := 90) dX12_copy_88 rfl ?_
                              refine x_i2l (n := 91) dX12_copy_90 rfl ?_
                              refine x_ild5 (n := 93) dX12_copy_91 rfl ?_
                              refine x_i2l (n := 94) dX12_copy_93 rfl ?_
                              refine x_ladd (n := 95) dX12_copy_94 rfl ?_
                              refine x_ald0 (n := 96) dX12_copy_95 rfl ?_
                              refine x_getR (n := 99) flX12_22 rfl dX12_copy_96 rfl (rK hZ) (rP_tSize hZ) ?_
                              refine x_ild3 (n := 100) dX12_copy_99 rfl ?_
                              refine x_old (n := 101) dX12_copy_100 rfl (rA_tSize hZ) (by decide) (Nat.le_of_ble_eq_true rfl) (by omega) ?_
                              refine x_i2l (n := 102) dX12_copy_101 rfl ?_
                              refine x_lcmp (n := 103) dX12_copy_102 rfl ?_
                              refine x_if_le (n := 106) (tgt := 110) dX12_copy_103 rfl (by decide) (fun c_103 => ?_) (fun c_103 => ?_)
                              · exact absurd (cpy_of hc hd (Int32.not_lt.mp c_58) (Int32.not_lt.mp c_63) (Int32.not_lt.mp c_68) (Int32.not_lt.mp c_85) c_103) hk
                              · refine x_ldcw (n := 109) dX12_copy_106 rfl kiX12_350 ?_
                                refine r_iret dX12_copy_109 rfl ?_
                                exact hq'
                    · exact absurd he c_51
                  · exact absurd (Int32.not_lt.mp hs2) c_32
              · rw [hy] at c_11; cases c_11
        · rw [if_neg he] at hq
          have hq' := same _ hq
          refine x_ild1 (n := 1) dX12_copy_0 rfl ?_
          refine x_cS1 (n := 4) (d' := 1) zcX12_isSurvey mlX12_343 dX12_copy_1 rfl (Nat.le_of_ble_eq_true rfl) (Nat.le_of_ble_eq_true rfl) ?_
          refine c_X12_isSurvey ?_
          refine x_some ?_
          refine x_zif_eq (n := 7) (tgt := 14) dX12_copy_4 rfl (by decide) (fun c_4 => ?_) (fun c_4 => ?_)
          · rw [hx] at c_4; cases c_4
          · refine x_ild3 (n := 8) dX12_copy_7 rfl ?_
            refine x_cS1 (n := 11) (d' := 1) zcX12_isSurvey mlX12_343 dX12_copy_8 rfl (Nat.le_of_ble_eq_true rfl) (Nat.le_of_ble_eq_true rfl) ?_
            refine c_X12_isSurvey ?_
            refine x_some ?_
            refine x_zif_ne (n := 14) (tgt := 17) dX12_copy_11 rfl (by decide) (fun c_11 => ?_) (fun c_11 => ?_)
            · refine x_ald0 (n := 18) dX12_copy_17 rfl ?_
              refine x_getR (n := 21) flX12_19 rfl dX12_copy_18 rfl (rK hZ) (rP_tSort hZ) ?_
              refine x_ild1 (n := 22) dX12_copy_21 rfl ?_
              refine x_old (n := 23) dX12_copy_22 rfl (rA_tSort hZ) (by decide) (Nat.le_of_ble_eq_true rfl) (by omega) ?_
              refine x_if_lt (n := 26) (tgt := 35) dX12_copy_23 rfl (by decide) (fun c_23 => ?_) (fun c_23 => ?_)
              · exact absurd c_23 hs1
              · refine x_ald0 (n := 27) dX12_copy_26 rfl ?_
                refine x_getR (n := 30) flX12_19 rfl dX12_copy_27 rfl (rK hZ) (rP_tSort hZ) ?_
                refine x_ild3 (n := 31) dX12_copy_30 rfl ?_
                refine x_old (n := 32) dX12_copy_31 rfl (rA_tSort hZ) (by decide) (Nat.le_of_ble_eq_true rfl) (by omega) ?_
                refine x_if_ge (n := 35) (tgt := 39) dX12_copy_32 rfl (by decide) (fun c_32 => ?_) (fun c_32 => ?_)
                · refine x_ald0 (n := 40) dX12_copy_39 rfl ?_
                  refine x_getR (n := 43) flX12_19 rfl dX12_copy_40 rfl (rK hZ) (rP_tSort hZ) ?_
                  refine x_ild1 (n := 44) dX12_copy_43 rfl ?_
                  refine x_old (n := 45) dX12_copy_44 rfl (rA_tSort hZ) (by decide) (Nat.le_of_ble_eq_true rfl) (by omega) ?_
                  refine x_ald0 (n := 46) dX12_copy_45 rfl ?_
                  refine x_getR (n := 49) flX12_19 rfl dX12_copy_46 rfl (rK hZ) (rP_tSort hZ) ?_
                  refine x_ild3 (n := 50) dX12_copy_49 rfl ?_
                  refine x_old (n := 51) dX12_copy_50 rfl (rA_tSort hZ) (by decide) (Nat.le_of_ble_eq_true rfl) (by omega) ?_
                  refine x_icmp_eq (n := 54) (tgt := 57) dX12_copy_51 rfl (by decide) (fun c_51 => ?_) (fun c_51 => ?_)
                  · exact absurd c_51 he
                  · refine x_ldc (n := 56) dX12_copy_54 rfl kiX12_174 ?_
                    refine r_iret dX12_copy_56 rfl ?_
                    exact hq'
                · exact absurd (Int32.not_lt.mp hs2) c_32
            · rw [hy] at c_11; cases c_11
    · rw [if_neg (fun h => hy h.2)] at hq
      have hq' := same _ hq
      refine x_ild1 (n := 1) dX12_copy_0 rfl ?_
      refine x_cS1 (n := 4) (d' := 1) zcX12_isSurvey mlX12_343 dX12_copy_1 rfl (Nat.le_of_ble_eq_true rfl) (Nat.le_of_ble_eq_true rfl) ?_
      refine c_X12_isSurvey ?_
      refine x_some ?_
      refine x_zif_eq (n := 7) (tgt := 14) dX12_copy_4 rfl (by decide) (fun c_4 => ?_) (fun c_4 => ?_)
      · rw [hx] at c_4; cases c_4
      · refine x_ild3 (n := 8) dX12_copy_7 rfl ?_
        refine x_cS1 (n := 11) (d' := 1) zcX12_isSurvey mlX12_343 dX12_copy_8 rfl (Nat.le_of_ble_eq_true rfl) (Nat.le_of_ble_eq_true rfl) ?_
        refine c_X12_isSurvey ?_
        refine x_some ?_
        refine x_zif_ne (n := 14) (tgt := 17) dX12_copy_11 rfl (by decide) (fun c_11 => ?_) (fun c_11 => ?_)
        · exact absurd c_11 hy
        · refine x_ldc (n := 16) dX12_copy_14 rfl kiX12_100 ?_
          refine r_iret dX12_copy_16 rfl ?_
          exact hq'
  · rw [if_neg (fun h => hx h.1)] at hq
    have hq' := same _ hq
    refine x_ild1 (n := 1) dX12_copy_0 rfl ?_
    refine x_cS1 (n := 4) (d' := 1) zcX12_isSurvey mlX12_343 dX12_copy_1 rfl (Nat.le_of_ble_eq_true rfl) (Nat.le_of_ble_eq_true rfl) ?_
    refine c_X12_isSurvey ?_
    refine x_some ?_
    refine x_zif_eq (n := 7) (tgt := 14) dX12_copy_4 rfl (by decide) (fun c_4 => ?_) (fun c_4 => ?_)
    · refine x_ldc (n := 16) dX12_copy_14 rfl kiX12_100 ?_
      refine r_iret dX12_copy_16 rfl ?_
      exact hq'
    · exact absurd c_4 hx
theorem l2_X12_count (hZ : ShR Z) (hB : InvB g) (hq : Q (some (.int (nI (zct (gThr g) (vN g 1))))) Z (va_up I q_s g)) : ∀ m k, k ≤ vN g 1 → vN g 1 - k < m → zX l G mX12_count 3 0 0 92 [some (.ref qR), some (.int (nI 2)), some (.int (nI (zct (gThr g) k))), some (.int (nI k))] [] Z (va_up I q_s g) Q := by
  have h1 := iv1 hB
  intro m
  induction m with
  | zero => intro k _ h; exact absurd h (by omega)
  | succ m ih =>
    intro k hk hm
    refine x_ild3 (n := 93) dX12_count_92 rfl ?_
    refine x_ald0 (n := 94) dX12_count_93 rfl ?_
    refine x_getR (n := 97) flX12_7 rfl dX12_count_94 rfl (rK hZ) (rP_s hZ) ?_
    refine x_ic1 (n := 98) dX12_count_97 rfl ?_
    refine x_sld (n := 99) dX12_count_98 rfl hZ (by omega) ?_
    rw [h1.1]
    refine x_icmpN_ge (n := 102) (tgt := 141) dX12_count_99 rfl (by decide) (by omega) (by omega) (fun c_99 => ?_) (fun c_99 => ?_)
    · refine x_ild2 (n := 142) dX12_count_141 rfl ?_
      refine r_iret dX12_count_142 rfl ?_
      rw [show k = vN g 1 by omega]; exact hq
    · refine x_ild2 (n := 103) dX12_count_102 rfl ?_
      refine x_ild1 (n := 104) dX12_count_103 rfl ?_
      refine x_ic2 (n := 105) dX12_count_104 rfl ?_
      refine x_icmpN_ne (n := 108) (tgt := 119) dX12_count_105 rfl (by decide) (by omega) (by omega) (fun c_105 => ?_) (fun c_105 => ?_)
      · exact absurd rfl c_105
      · refine x_ald0 (n := 109) dX12_count_108 rfl ?_
        refine x_ild3 (n := 110) dX12_count_109 rfl ?_
        refine x_cV1 (n := 113) (d' := 2) zcX12_isThrough mlX12_187 dX12_count_110 rfl (rK hZ) (Nat.le_of_ble_eq_true rfl) (Nat.le_of_ble_eq_true rfl) ?_
        refine c_X12_isThrough hZ (by omega) h1.1 h1.2 ?_
        refine x_some ?_
        refine x_zif_eq (n := 116) (tgt := 132) dX12_count_113 rfl (by decide) (fun c_113 => ?_) (fun c_113 => ?_)
        · refine x_ic0 (n := 133) dX12_count_132 rfl ?_
          refine x_iaddN (n := 134) dX12_count_133 rfl ?_
          refine x_ist2 (n := 135) dX12_count_134 rfl (by decide) rfl ?_
          refine x_iincN3 (n := 138) (k := 1) dX12_count_135 rfl (by decide) rfl ?_
          refine x_goto (n := 92) dX12_count_138 (by decide) ?_
          first | (rw [zct_t (show gThr g k = true from c_113)]; exact ih (k + 1) (by omega) (by omega)) | (rw [zct_f (show gThr g k = false from c_113)]; exact ih (k + 1) (by omega) (by omega))
        · refine x_goto (n := 128) dX12_count_116 (by decide) ?_
          refine x_ic1 (n := 129) dX12_count_128 rfl ?_
          refine x_goto (n := 133) dX12_count_129 (by decide) ?_
          refine x_iaddN (n := 134) dX12_count_133 rfl ?_
          refine x_ist2 (n := 135) dX12_count_134 rfl (by decide) rfl ?_
          refine x_iincN3 (n := 138) (k := 1) dX12_count_135 rfl (by decide) rfl ?_
          refine x_goto (n := 92) dX12_count_138 (by decide) ?_
          first | (rw [zct_t (show gThr g k = true from c_113)]; exact ih (k + 1) (by omega) (by omega)) | (rw [zct_f (show gThr g k = false from c_113)]; exact ih (k + 1) (by omega) (by omega))
theorem l3_X12_count (hZ : ShR Z) (hB : InvB g) (hq : Q (some (.int (nI (zct (g_slip5 g) (vN g 1))))) Z (va_up I q_s g)) : ∀ m k, k ≤ vN g 1 → vN g 1 - k < m → zX l G mX12_count 3 0 0 92 [some (.ref qR), some (.int (nI 3)), some (.int (nI (zct (g_slip5 g) k))), some (.int (nI k))] [] Z (va_up I q_s g) Q := by
  have h1 := iv1 hB
  intro m
  induction m with
  | zero => intro k _ h; exact absurd h (by omega)
  | succ m ih =>
    intro k hk hm
    refine x_ild3 (n := 93) dX12_count_92 rfl ?_
    refine x_ald0 (n := 94) dX12_count_93 rfl ?_
    refine x_getR (n := 97) flX12_7 rfl dX12_count_94 rfl (rK hZ) (rP_s hZ) ?_
    refine x_ic1 (n := 98) dX12_count_97 rfl ?_
    refine x_sld (n := 99) dX12_count_98 rfl hZ (by omega) ?_
    rw [h1.1]
    refine x_icmpN_ge (n := 102) (tgt := 141) dX12_count_99 rfl (by decide) (by omega) (by omega) (fun c_99 => ?_) (fun c_99 => ?_)
    · refine x_ild2 (n := 142) dX12_count_141 rfl ?_
      refine r_iret dX12_count_142 rfl ?_
      rw [show k = vN g 1 by omega]; exact hq
    · refine x_ild2 (n := 103) dX12_count_102 rfl ?_
      refine x_ild1 (n := 104) dX12_count_103 rfl ?_
      refine x_ic2 (n := 105) dX12_count_104 rfl ?_
      refine x_icmpN_ne (n := 108) (tgt := 119) dX12_count_105 rfl (by decide) (by omega) (by omega) (fun c_105 => ?_) (fun c_105 => ?_)
      · refine x_ald0 (n := 120) dX12_count_119 rfl ?_
        refine x_ild3 (n := 121) dX12_count_120 rfl ?_
        refine x_cV1 (n := 124) (d' := 1) zcX12_kindOf mlX12_114 dX12_count_121 rfl (rK hZ) (Nat.le_of_ble_eq_true rfl) (Nat.le_of_ble_eq_true rfl) ?_
        refine c_X12_kindOf hZ (by omega) ?_
        refine x_some ?_
        refine x_ic5 (n := 125) dX12_count_124 rfl ?_
        refine x_icmp_ne (n := 128) (tgt := 132) dX12_count_125 rfl (by decide) (fun c_125 => ?_) (fun c_125 => ?_)
        · refine x_ic0 (n := 133) dX12_count_132 rfl ?_
          refine x_iaddN (n := 134) dX12_count_133 rfl ?_
          refine x_ist2 (n := 135) dX12_count_134 rfl (by decide) rfl ?_
          refine x_iincN3 (n := 138) (k := 1) dX12_count_135 rfl (by decide) rfl ?_
          refine x_goto (n := 92) dX12_count_138 (by decide) ?_
          first | (rw [zct_t (show g_slip5 g k = true from decide_eq_true c_125)]; exact ih (k + 1) (by omega) (by omega)) | (rw [zct_f (show g_slip5 g k = false from decide_eq_false c_125)]; exact ih (k + 1) (by omega) (by omega))
        · refine x_ic1 (n := 129) dX12_count_128 rfl ?_
          refine x_goto (n := 133) dX12_count_129 (by decide) ?_
          refine x_iaddN (n := 134) dX12_count_133 rfl ?_
          refine x_ist2 (n := 135) dX12_count_134 rfl (by decide) rfl ?_
          refine x_iincN3 (n := 138) (k := 1) dX12_count_135 rfl (by decide) rfl ?_
          refine x_goto (n := 92) dX12_count_138 (by decide) ?_
          first | (rw [zct_t (show g_slip5 g k = true from decide_eq_true c_125)]; exact ih (k + 1) (by omega) (by omega)) | (rw [zct_f (show g_slip5 g k = false from decide_eq_false c_125)]; exact ih (k + 1) (by omega) (by omega))
      · exact absurd c_105 (by decide)
theorem c_X12_count (hZ : ShR Z) (hB : InvB g) {x : Int32} (hq : Q (some (.int (f_count g (I qR 34) (I qR 15) x))) Z (va_up I q_s g)) : zM l G mX12_count 3 0 0 [.ref qR, .int x] Z (va_up I q_s g) Q := by
  refine x_entry [some (.ref qR), some (.int x), none, none] 2 rfl rfl (Nat.le_of_ble_eq_true rfl) ?_
  unfold f_count at hq
  by_cases hx : zin x 0 14 = true
  · rw [if_pos hx] at hq
    obtain ⟨c, hc, hc2, rfl⟩ := z_num 15 hx (by omega)
    rw [ix_nI (by omega)] at hq
    match c, hc, hq with
    | 0, _, hq =>
      refine x_ic0 (n := 1) dX12_count_0 rfl ?_
      refine x_ist2 (n := 2) dX12_count_1 rfl (by decide) rfl ?_
      refine x_ild1 (n := 3) dX12_count_2 rfl ?_
      refine x_tswI (n := 76) (off := 73) dX12_count_3 (by decide) (by decide) (by decide +kernel) (by decide) ?_
      refine x_ald0 (n := 77) dX12_count_76 rfl ?_
      refine x_getR (n := 80) flX12_7 rfl dX12_count_77 rfl (rK hZ) (rP_s hZ) ?_
      refine x_ic0 (n := 81) dX12_count_80 rfl ?_
      refine x_sld (n := 82) dX12_count_81 rfl hZ (by omega) ?_
      refine r_iret dX12_count_82 rfl ?_
      exact hq
    | 1, _, hq =>
      refine x_ic0 (n := 1) dX12_count_0 rfl ?_
      refine x_ist2 (n := 2) dX12_count_1 rfl (by decide) rfl ?_
      refine x_ild1 (n := 3) dX12_count_2 rfl ?_
      refine x_tswI (n := 83) (off := 80) dX12_count_3 (by decide) (by decide) (by decide +kernel) (by decide) ?_
      refine x_ald0 (n := 84) dX12_count_83 rfl ?_
      refine x_getR (n := 87) flX12_7 rfl dX12_count_84 rfl (rK hZ) (rP_s hZ) ?_
      refine x_ic1 (n := 88) dX12_count_87 rfl ?_
      refine x_sld (n := 89) dX12_count_88 rfl hZ (by omega) ?_
      refine r_iret dX12_count_89 rfl ?_
      exact hq
    | 2, _, hq =>
      refine x_ic0 (n := 1) dX12_count_0 rfl ?_
      refine x_ist2 (n := 2) dX12_count_1 rfl (by decide) rfl ?_
      refine x_ild1 (n := 3) dX12_count_2 rfl ?_
      refine x_tswI (n := 90) (off := 87) dX12_count_3 (by decide) (by decide) (by decide +kernel) (by decide) ?_
      refine x_ic0 (n := 91) dX12_count_90 rfl ?_
      refine x_ist3 (n := 92) dX12_count_91 rfl (by decide) rfl ?_
      exact l2_X12_count hZ hB hq (vN g 1 + 1) 0 (by omega) (by omega)
    | 3, _, hq =>
      refine x_ic0 (n := 1) dX12_count_0 rfl ?_
      refine x_ist2 (n := 2) dX12_count_1 rfl (by decide) rfl ?_
      refine x_ild1 (n := 3) dX12_count_2 rfl ?_
      refine x_tswI (n := 90) (off := 87) dX12_count_3 (by decide) (by decide) (by decide +kernel) (by decide) ?_
      refine x_ic0 (n := 91) dX12_count_90 rfl ?_
      refine x_ist3 (n := 92) dX12_count_91 rfl (by decide) rfl ?_
      exact l3_X12_count hZ hB hq (vN g 1 + 1) 0 (by omega) (by omega)
    | 4, _, hq =>
      refine x_ic0 (n := 1) dX12_count_0 rfl ?_
      refine x_ist2 (n := 2) dX12_count_1 rfl (by decide) rfl ?_
      refine x_ild1 (n := 3) dX12_count_2 rfl ?_
      refine x_tswI (n := 143) (off := 140) dX12_count_3 (by decide) (by decide) (by decide +kernel) (by decide) ?_
      refine x_ald0 (n := 144) dX12_count_143 rfl ?_
      refine x_getR (n := 147) flX12_7 rfl dX12_count_144 rfl (rK hZ) (rP_s hZ) ?_
      refine x_ic2 (n := 148) dX12_count_147 rfl ?_
      refine x_sld (n := 149) dX12_count_148 rfl hZ (by omega) ?_
      refine r_iret dX12_count_149 rfl ?_
      exact hq
    | 5, _, hq =>
      refine x_ic0 (n := 1) dX12_count_0 rfl ?_
      refine x_ist2 (n := 2) dX12_count_1 rfl (by decide) rfl ?_
      refine x_ild1 (n := 3) dX12_count_2 rfl ?_
      refine x_tswI (n := 150) (off := 147) dX12_count_3 (by decide) (by decide) (by decide +kernel) (by decide) ?_
      refine x_ald0 (n := 151) dX12_count_150 rfl ?_
      refine x_getR (n := 154) flX12_7 rfl dX12_count_151 rfl (rK hZ) (rP_s hZ) ?_
      refine x_ic3 (n := 155) dX12_count_154 rfl ?_
      refine x_sld (n := 156) dX12_count_155 rfl hZ (by omega) ?_
      refine r_iret dX12_count_156 rfl ?_
      exact hq
    | 6, _, hq =>
      refine x_ic0 (n := 1) dX12_count_0 rfl ?_
      refine x_ist2 (n := 2) dX12_count_1 rfl (by decide) rfl ?_
      refine x_ild1 (n := 3) dX12_count_2 rfl ?_
      refine x_tswI (n := 157) (off := 154) dX12_count_3 (by decide) (by decide) (by decide +kernel) (by decide) ?_
      refine x_ald0 (n := 158) dX12_count_157 rfl ?_
      refine x_getR (n := 161) flX12_7 rfl dX12_count_158 rfl (rK hZ) (rP_s hZ) ?_
      refine x_ic4 (n := 162) dX12_count_161 rfl ?_
      refine x_sld (n := 163) dX12_count_162 rfl hZ (by omega) ?_
      refine r_iret dX12_count_163 rfl ?_
      exact hq
    | 7, _, hq =>
      refine x_ic0 (n := 1) dX12_count_0 rfl ?_
      refine x_ist2 (n := 2) dX12_count_1 rfl (by decide) rfl ?_
      refine x_ild1 (n := 3) dX12_count_2 rfl ?_
      refine x_tswI (n := 164) (off := 161) dX12_count_3 (by decide) (by decide) (by decide +kernel) (by decide) ?_
      refine x_ald0 (n := 165) dX12_count_164 rfl ?_
      refine x_getR (n := 168) flX12_7 rfl dX12_count_165 rfl (rK hZ) (rP_s hZ) ?_
      refine x_ic5 (n := 169) dX12_count_168 rfl ?_
      refine x_sld (n := 170) dX12_count_169 rfl hZ (by omega) ?_
      refine r_iret dX12_count_170 rfl ?_
      exact hq
    | 8, _, hq =>
      refine x_ic0 (n := 1) dX12_count_0 rfl ?_
      refine x_ist2 (n := 2) dX12_count_1 rfl (by decide) rfl ?_
      refine x_ild1 (n := 3) dX12_count_2 rfl ?_
      refine x_tswI (n := 171) (off := 168) dX12_count_3 (by decide) (by decide) (by decide +kernel) (by decide) ?_
      refine x_ald0 (n := 172) dX12_count_171 rfl ?_
      refine x_getR (n := 175) flX12_7 rfl dX12_count_172 rfl (rK hZ) (rP_s hZ) ?_
      refine x_bipush (n := 177) (v := nI 6) dX12_count_175 rfl (by decide) ?_
      refine x_sld (n := 178) dX12_count_177 rfl hZ (by omega) ?_
      refine r_iret dX12_count_178 rfl ?_
      exact hq
    | 9, _, hq =>
      refine x_ic0 (n := 1) dX12_count_0 rfl ?_
      refine x_ist2 (n := 2) dX12_count_1 rfl (by decide) rfl ?_
      refine x_ild1 (n := 3) dX12_count_2 rfl ?_
      refine x_tswI (n := 179) (off := 176) dX12_count_3 (by decide) (by decide) (by decide +kernel) (by decide) ?_
      refine x_ald0 (n := 180) dX12_count_179 rfl ?_
      refine x_getR (n := 183) flX12_7 rfl dX12_count_180 rfl (rK hZ) (rP_s hZ) ?_
      refine x_bipush (n := 185) (v := nI 7) dX12_count_183 rfl (by decide) ?_
      refine x_sld (n := 186) dX12_count_185 rfl hZ (by omega) ?_
      refine r_iret dX12_count_186 rfl ?_
      exact hq
    | 10, _, hq =>
      refine x_ic0 (n := 1) dX12_count_0 rfl ?_
      refine x_ist2 (n := 2) dX12_count_1 rfl (by decide) rfl ?_
      refine x_ild1 (n := 3) dX12_count_2 rfl ?_
      refine x_tswI (n := 187) (off := 184) dX12_count_3 (by decide) (by decide) (by decide +kernel) (by decide) ?_
      refine x_ald0 (n := 188) dX12_count_187 rfl ?_
      refine x_getR (n := 191) flX12_7 rfl dX12_count_188 rfl (rK hZ) (rP_s hZ) ?_
      refine x_bipush (n := 193) (v := nI 9) dX12_count_191 rfl (by decide) ?_
      refine x_sld (n := 194) dX12_count_193 rfl hZ (by omega) ?_
      refine r_iret dX12_count_194 rfl ?_
      exact hq
    | 11, _, hq =>
      refine x_ic0 (n := 1) dX12_count_0 rfl ?_
      refine x_ist2 (n := 2) dX12_count_1 rfl (by decide) rfl ?_
      refine x_ild1 (n := 3) dX12_count_2 rfl ?_
      refine x_tswI (n := 195) (off := 192) dX12_count_3 (by decide) (by decide) (by decide +kernel) (by decide) ?_
      refine x_ald0 (n := 196) dX12_count_195 rfl ?_
      refine x_getR (n := 199) flX12_7 rfl dX12_count_196 rfl (rK hZ) (rP_s hZ) ?_
      refine x_bipush (n := 201) (v := nI 10) dX12_count_199 rfl (by decide) ?_
      refine x_sld (n := 202) dX12_count_201 rfl hZ (by omega) ?_
      refine r_iret dX12_count_202 rfl ?_
      exact hq
    | 12, _, hq =>
      refine x_ic0 (n := 1) dX12_count_0 rfl ?_
      refine x_ist2 (n := 2) dX12_count_1 rfl (by decide) rfl ?_
      refine x_ild1 (n := 3) dX12_count_2 rfl ?_
      refine x_tswI (n := 203) (off := 200) dX12_count_3 (by decide) (by decide) (by decide +kernel) (by decide) ?_
      refine x_ald0 (n := 204) dX12_count_203 rfl ?_
      refine x_rget (n := 207) flX12_361 rfl dX12_count_204 rfl hZ ?_
      refine r_iret dX12_count_207 rfl ?_
      exact hq
    | 13, _, hq =>
      refine x_ic0 (n := 1) dX12_count_0 rfl ?_
      refine x_ist2 (n := 2) dX12_count_1 rfl (by decide) rfl ?_
      refine x_ild1 (n := 3) dX12_count_2 rfl ?_
      refine x_tswI (n := 208) (off := 205) dX12_count_3 (by decide) (by decide) (by decide +kernel) (by decide) ?_
      refine x_ald0 (n := 209) dX12_count_208 rfl ?_
      refine x_rget (n := 212) flX12_214 rfl dX12_count_209 rfl hZ ?_
      refine r_iret dX12_count_212 rfl ?_
      exact hq
    | 14, _, hq =>
      refine x_ic0 (n := 1) dX12_count_0 rfl ?_
      refine x_ist2 (n := 2) dX12_count_1 rfl (by decide) rfl ?_
      refine x_ild1 (n := 3) dX12_count_2 rfl ?_
      refine x_tswI (n := 213) (off := 210) dX12_count_3 (by decide) (by decide) (by decide +kernel) (by decide) ?_
      refine x_ald0 (n := 214) dX12_count_213 rfl ?_
      refine x_getR (n := 217) flX12_7 rfl dX12_count_214 rfl (rK hZ) (rP_s hZ) ?_
      refine x_bipush (n := 219) (v := nI 8) dX12_count_217 rfl (by decide) ?_
      refine x_sld (n := 220) dX12_count_219 rfl hZ (by omega) ?_
      refine r_iret dX12_count_220 rfl ?_
      exact hq
  · rw [if_neg hx] at hq
    have hx2 : x.toInt < 0 ∨ 14 < x.toInt := by
      have := zin_f (Bool.eq_false_iff.mpr hx)
      omega
    refine x_ic0 (n := 1) dX12_count_0 rfl ?_
    refine x_ist2 (n := 2) dX12_count_1 rfl (by decide) rfl ?_
    refine x_ild1 (n := 3) dX12_count_2 rfl ?_
    refine x_tswO (n := 221) dX12_count_3 hx2 (by decide) ?_
    refine x_ldc (n := 223) dX12_count_221 rfl kiX12_100 ?_
    refine r_iret dX12_count_223 rfl ?_
    exact hq
end
