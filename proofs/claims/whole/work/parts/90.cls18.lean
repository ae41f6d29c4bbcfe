section
variable {l : Launch} {G : zG} {Z : zS} {I I' : zI} {g g' : Nat → Int32} {mk b : Nat} {Q : Option Value → zS → zI → Prop}
theorem oN_or {o : Option Nat} (h : ∀ k, o = some k → k < 2147483648) : orNone (oI o) = oN o := by
  cases o with
  | none => decide
  | some k =>
    have := h k rfl
    unfold orNone oI oN
    rw [nI_toInt (by omega), if_neg (by omega)]
theorem oN_lt {o o' : Option Nat} (h : ∀ k, o = some k → k < 2147483648) (h' : ∀ k, o' = some k → k < 2147483648) : (oI o < oI o') ↔ (oN o < oN o') := by
  have e1 : (-1 : Int32).toInt = -1 := by decide
  have e2 : (-1000000005 : Int32).toInt = -1000000005 := by decide
  cases o with
  | none =>
    cases o' with
    | none => exact ⟨fun h => absurd h (by decide), fun h => absurd h (by decide)⟩
    | some k =>
      have := h' k rfl
      show (-1 : Int32) < nI k ↔ (-1000000005 : Int32) < nI k
      rw [zlt, zlt, e1, e2, nI_toInt (by omega)]; omega
  | some j =>
    have := h j rfl
    cases o' with
    | none =>
      show nI j < (-1 : Int32) ↔ nI j < (-1000000005 : Int32)
      rw [zlt, zlt, e1, e2, nI_toInt (by omega)]; omega
    | some k => exact Iff.rfl
/-- the row of ends and the works settled -/
def enR (f : Nat → Int32) (th : Nat → Option Nat) : Prop := ∀ j, j < 24 → f j = oN (th j)
theorem l_X10_latestOf (hM : ShM Z mk) (hW : cmW I mk g) (hB : InvB g) {a : Nat} {th : Nat → Option Nat} (ha : a < 2 ^ 24) (hE : enR (I (mk + 14)) th) (hb : thB th 1000000) (hq : Q (some (.int (oN (bstF (nI a) th (vN g 1))))) Z I) : ∀ m k, k ≤ vN g 1 → vN g 1 - k < m → zX l G mX10_latestOf 1 0 0 5 [some (.ref (mk + 10)), some (.int (nI a)), some (.int (oN (bstF (nI a) th k))), some (.int (nI k))] [] Z I Q := by
  intro m
  have h1 := vW1 hW hB
  have h24 := (iv1 hB).2
  have hlim : ∀ j u, th j = some u → u < 2147483648 := fun j u h => by have := hb j u h; omega
  induction m with
  | zero => intro k _ h; exact absurd h (by omega)
  | succ m ih =>
    intro k hk hm
    have es : bstF (nI a) th (k + 1) = if gBit (nI a) k = true ∧ (∀ b, bstF (nI a) th k = some b → oI (th b) < oI (th k)) then some k else bstF (nI a) th k := rfl
    have next : ∀ x, oN (bstF (nI a) th (k + 1)) = x → k < vN g 1 → zX l G mX10_latestOf 1 0 0 44 [some (.ref (mk + 10)), some (.int (nI a)), some (.int x), some (.int (nI k))] [] Z I Q := by
      intro x hx hkl
      subst hx
      refine x_iincN3 (n := 47) (k := 1) dX10_latestOf_44 rfl (by decide) rfl ?_
      refine x_goto (n := 5) dX10_latestOf_47 (by decide) ?_
      exact ih (k + 1) (by omega) (by omega)
    cases hbs : bstF (nI a) th k with
    | none =>
      rw [hbs] at es
      refine x_ild3 (n := 6) dX10_latestOf_5 rfl ?_
      refine x_ald0 (n := 7) dX10_latestOf_6 rfl ?_
      refine x_getI (n := 10) flX10_28 rfl dX10_latestOf_7 rfl (mK_Ws hM) ?_
      rw [h1]
      refine x_icmpN_ge (n := 13) (tgt := 50) dX10_latestOf_10 rfl (by decide) (by omega) (by omega) (fun c_10 => ?_) (fun c_10 => ?_)
      · refine x_ild2 (n := 51) dX10_latestOf_50 rfl ?_
        refine r_iret dX10_latestOf_51 rfl ?_
        rw [← show k = vN g 1 by omega, hbs] at hq; exact hq
      · refine x_ild1 (n := 14) dX10_latestOf_13 rfl ?_
        refine x_ild3 (n := 15) dX10_latestOf_14 rfl ?_
        refine x_cN2 (n := 18) (d' := 0) zcX11_hasBit mnX10_107 dX10_latestOf_15 rfl (Nat.le_of_ble_eq_true rfl) (Nat.le_of_ble_eq_true rfl) ?_
        refine c_X11_hasBit (by omega) (by omega) ?_
        refine x_some ?_
        refine x_zif_eq (n := 21) (tgt := 44) dX10_latestOf_18 rfl (by decide) (fun c_18 => ?_) (fun c_18 => ?_)
        · rw [gBitN (by omega) (by omega)] at es
          first
            | (have hc : a.testBit k = true := c_18; refine next _ ?_ (by omega); rw [es, if_pos ⟨hc, fun b hb => by cases hb⟩]; rfl)
            | (have hc : a.testBit k = false := c_18; refine next _ ?_ (by omega); rw [es, if_neg (fun h => by rw [hc] at h; cases h.1)])
        · refine x_ild2 (n := 22) dX10_latestOf_21 rfl ?_
          refine x_ldc (n := 24) dX10_latestOf_22 rfl kiX10_54 ?_
          refine x_icmp_eq (n := 27) (tgt := 42) dX10_latestOf_24 rfl (by decide) (fun c_24 => ?_) (fun c_24 => ?_)
          · refine x_ild3 (n := 43) dX10_latestOf_42 rfl ?_
            refine x_ist2 (n := 44) dX10_latestOf_43 rfl (by decide) rfl ?_
            rw [gBitN (by omega) (by omega)] at es
            first
              | (have hc : a.testBit k = true := c_18; refine next _ ?_ (by omega); rw [es, if_pos ⟨hc, fun b hb => by cases hb⟩]; rfl)
              | (have hc : a.testBit k = false := c_18; refine next _ ?_ (by omega); rw [es, if_neg (fun h => by rw [hc] at h; cases h.1)])
          · exact absurd rfl c_24
    | some w =>
      rw [hbs] at es
      have hwk := bstF_lt hbs
      have hwI : (nI w).toInt = (w : Int) := nI_toInt (by omega)
      show zX l G mX10_latestOf 1 0 0 5 [some (.ref (mk + 10)), some (.int (nI a)), some (.int (nI w)), some (.int (nI k))] [] Z I Q
      refine x_ild3 (n := 6) dX10_latestOf_5 rfl ?_
      refine x_ald0 (n := 7) dX10_latestOf_6 rfl ?_
      refine x_getI (n := 10) flX10_28 rfl dX10_latestOf_7 rfl (mK_Ws hM) ?_
      rw [h1]
      refine x_icmpN_ge (n := 13) (tgt := 50) dX10_latestOf_10 rfl (by decide) (by omega) (by omega) (fun c_10 => ?_) (fun c_10 => ?_)
      · refine x_ild2 (n := 51) dX10_latestOf_50 rfl ?_
        refine r_iret dX10_latestOf_51 rfl ?_
        rw [← show k = vN g 1 by omega, hbs] at hq; exact hq
      · refine x_ild1 (n := 14) dX10_latestOf_13 rfl ?_
        refine x_ild3 (n := 15) dX10_latestOf_14 rfl ?_
        refine x_cN2 (n := 18) (d' := 0) zcX11_hasBit mnX10_107 dX10_latestOf_15 rfl (Nat.le_of_ble_eq_true rfl) (Nat.le_of_ble_eq_true rfl) ?_
        refine c_X11_hasBit (by omega) (by omega) ?_
        refine x_some ?_
        refine x_zif_eq (n := 21) (tgt := 44) dX10_latestOf_18 rfl (by decide) (fun c_18 => ?_) (fun c_18 => ?_)
        · rw [gBitN (by omega) (by omega)] at es
          have hol := oN_lt (hlim w) (hlim k)
          first
            | (have hc : a.testBit k = false := c_18; refine next _ ?_ (by omega); rw [es, if_neg (fun h => by rw [hc] at h; cases h.1)]; rfl)
            | (have hc : a.testBit k = true := c_18
               have hlt : oN (th w) < oN (th k) := (by rw [zle] at c_39; rw [zlt]; omega)
               refine next _ ?_ (by omega)
               rw [es, if_pos ⟨hc, fun b hb => by cases hb; exact hol.mpr hlt⟩]; rfl)
            | (have hlt : ¬ oN (th w) < oN (th k) := (by rw [zle] at c_39; rw [zlt]; omega)
               refine next _ ?_ (by omega)
               rw [es, if_neg (fun h => hlt (hol.mp (h.2 w rfl)))]; rfl)
        · refine x_ild2 (n := 22) dX10_latestOf_21 rfl ?_
          refine x_ldc (n := 24) dX10_latestOf_22 rfl kiX10_54 ?_
          refine x_icmp_eq (n := 27) (tgt := 42) dX10_latestOf_24 rfl (by decide) (fun c_24 => ?_) (fun c_24 => ?_)
          · exfalso; rw [zeq, hwI, show (-1000000005 : Int32).toInt = -1000000005 by decide] at c_24; omega
          · refine x_ald0 (n := 28) dX10_latestOf_27 rfl ?_
            refine x_getR (n := 31) flX10_24 rfl dX10_latestOf_28 rfl (mK_Ws hM) (mP_ends hM) ?_
            refine x_ild3 (n := 32) dX10_latestOf_31 rfl ?_
            refine x_ialdN (n := 33) dX10_latestOf_32 rfl (mA_ends hM) (Nat.le_of_ble_eq_true rfl) (by omega) ?_
            refine x_ald0 (n := 34) dX10_latestOf_33 rfl ?_
            refine x_getR (n := 37) flX10_24 rfl dX10_latestOf_34 rfl (mK_Ws hM) (mP_ends hM) ?_
            refine x_ild2 (n := 38) dX10_latestOf_37 rfl ?_
            refine x_ialdN (n := 39) dX10_latestOf_38 rfl (mA_ends hM) (Nat.le_of_ble_eq_true rfl) (by omega) ?_
            rw [hE k (by omega), hE w (by omega)]
            refine x_icmp_le (n := 42) (tgt := 44) dX10_latestOf_39 rfl (by decide) (fun c_39 => ?_) (fun c_39 => ?_)
            · rw [gBitN (by omega) (by omega)] at es
              have hol := oN_lt (hlim w) (hlim k)
              first
                | (have hc : a.testBit k = false := c_18; refine next _ ?_ (by omega); rw [es, if_neg (fun h => by rw [hc] at h; cases h.1)]; rfl)
                | (have hc : a.testBit k = true := c_18
                   have hlt : oN (th w) < oN (th k) := (by rw [zle] at c_39; rw [zlt]; omega)
                   refine next _ ?_ (by omega)
                   rw [es, if_pos ⟨hc, fun b hb => by cases hb; exact hol.mpr hlt⟩]; rfl)
                | (have hlt : ¬ oN (th w) < oN (th k) := (by rw [zle] at c_39; rw [zlt]; omega)
                   refine next _ ?_ (by omega)
                   rw [es, if_neg (fun h => hlt (hol.mp (h.2 w rfl)))]; rfl)
            · refine x_ild3 (n := 43) dX10_latestOf_42 rfl ?_
              refine x_ist2 (n := 44) dX10_latestOf_43 rfl (by decide) rfl ?_
              rw [gBitN (by omega) (by omega)] at es
              have hol := oN_lt (hlim w) (hlim k)
              first
                | (have hc : a.testBit k = false := c_18; refine next _ ?_ (by omega); rw [es, if_neg (fun h => by rw [hc] at h; cases h.1)]; rfl)
                | (have hc : a.testBit k = true := c_18
                   have hlt : oN (th w) < oN (th k) := (by rw [zle] at c_39; rw [zlt]; omega)
                   refine next _ ?_ (by omega)
                   rw [es, if_pos ⟨hc, fun b hb => by cases hb; exact hol.mpr hlt⟩]; rfl)
                | (have hlt : ¬ oN (th w) < oN (th k) := (by rw [zle] at c_39; rw [zlt]; omega)
                   refine next _ ?_ (by omega)
                   rw [es, if_neg (fun h => hlt (hol.mp (h.2 w rfl)))]; rfl)
theorem c_X10_latestOf (hM : ShM Z mk) (hW : cmW I mk g) (hB : InvB g) {a : Nat} {th : Nat → Option Nat} (ha : a < 2 ^ 24) (hE : enR (I (mk + 14)) th) (hb : thB th 1000000) (hq : Q (some (.int (oN (bstF (nI a) th (vN g 1))))) Z I) : zM l G mX10_latestOf 1 0 0 [.ref (mk + 10), .int (nI a)] Z I Q := by
  refine x_entry [some (.ref (mk + 10)), some (.int (nI a)), none, none] 2 rfl rfl (Nat.le_of_ble_eq_true rfl) ?_
  refine x_ldc (n := 2) dX10_latestOf_0 rfl kiX10_54 ?_
  refine x_ist2 (n := 3) dX10_latestOf_2 rfl (by decide) rfl ?_
  refine x_ic0 (n := 4) dX10_latestOf_3 rfl ?_
  refine x_ist3 (n := 5) dX10_latestOf_4 rfl (by decide) rfl ?_
  exact l_X10_latestOf hM hW hB ha hE hb hq (vN g 1 + 1) 0 (by omega) (by omega)
theorem bst_lat {a : Int32} {th : Nat → Option Nat} (hb : thB th 1000000) : ∀ n, (∀ k, k < n → gBit a k = true → (th k).isSome = true) → (bstF a th n = none → latF a th n = 0) ∧ (∀ w, bstF a th n = some w → th w = some (latF a th n))
  | 0, _ => ⟨fun _ => rfl, fun w h => by cases h⟩
  | n + 1, h => by
    obtain ⟨i1, i2⟩ := bst_lat hb n (fun k hk => h k (by omega))
    have es : bstF a th (n + 1) = if gBit a n = true ∧ (∀ b, bstF a th n = some b → oI (th b) < oI (th n)) then some n else bstF a th n := rfl
    have el : latF a th (n + 1) = if gBit a n = true then max (latF a th n) ((th n).getD 0) else latF a th n := rfl
    rw [es, el]
    by_cases hg : gBit a n = true
    · rw [if_pos hg]
      have hs := h n (by omega) hg
      obtain ⟨v, hv⟩ := Option.isSome_iff_exists.mp hs
      have hvb := hb n v hv
      rw [hv]
      show (_ → max (latF a th n) v = 0) ∧ (∀ w, _ → th w = some (max (latF a th n) v))
      cases hbs : bstF a th n with
      | none =>
        rw [if_pos ⟨hg, fun b hb => by cases hb⟩, i1 hbs, Nat.zero_max]
        exact ⟨fun e => (by cases e), fun w e => (by cases e; exact hv)⟩
      | some w =>
        have hw := i2 w hbs
        have hwb := hb w _ hw
        have hcmp : oI (th w) < oI (some v) ↔ latF a th n < v := by
          rw [hw]
          show nI (latF a th n) < nI v ↔ _
          rw [zlt, nI_toInt (by omega), nI_toInt (by omega)]; omega
        by_cases hlt : latF a th n < v
        · rw [if_pos ⟨hg, fun b hb => by cases hb; exact hcmp.mpr hlt⟩, Nat.max_eq_right (by omega)]
          exact ⟨fun e => (by cases e), fun w e => (by cases e; exact hv)⟩
        · rw [if_neg (fun e => hlt (hcmp.mp (e.2 w rfl))), Nat.max_eq_left (by omega)]
          exact ⟨fun e => (by cases e), fun w' e => (by cases e; exact hw)⟩
    · rw [if_neg hg, if_neg (fun e => hg e.1)]
      exact ⟨i1, i2⟩
theorem lat_stop {a : Int32} {th : Nat → Option Nat} {n : Nat} : ∀ m, n ≤ m → (∀ k, n ≤ k → k < m → gBit a k = false) → latF a th m = latF a th n
  | 0, h, _ => by rw [show n = 0 by omega]
  | m + 1, h, hk => by
    by_cases e : n = m + 1
    · rw [e]
    · have el : latF a th (m + 1) = if gBit a m = true then max (latF a th m) ((th m).getD 0) else latF a th m := rfl
      rw [el, if_neg (by rw [hk m (by omega) (by omega)]; decide)]
      exact lat_stop m (by omega) (fun k h1 h2 => hk k h1 (by omega))
/-- works settled: their ends are known, and lie behind the ends of those ahead -/
def thS (g : Nat → Int32) (th : Nat → Option Nat) : Prop := ∀ w v, th w = some v → w < vN g 1 ∧ ∀ k, k < 24 → gBit (g (120 + 10 * w + 5)) k = true → ∃ u, th k = some u ∧ u < v
theorem thS_step (hB : InvB g) {th : Nat → Option Nat} (h : thS g th) {w : Nat} (hw : w < vN g 1) : thS g (thStep g th w) := by
  unfold thStep
  split
  · rename_i hc
    have hn : th w = none := Option.isNone_iff_eq_none.mp hc.1
    have hd := (ivW hB hw).2.2.2.2.2.2.1
    have hd2 := rg_le hd (by omega)
    have hlat : ∀ m k, k < m → gBit (g (120 + 10 * w + 5)) k = true → ∀ u, th k = some u → u ≤ latF (g (120 + 10 * w + 5)) th m := by
      intro m
      induction m with
      | zero => intro k hk; exact absurd hk (by omega)
      | succ m ih =>
        intro k hk hg u hu
        have el : latF (g (120 + 10 * w + 5)) th (m + 1) = if gBit (g (120 + 10 * w + 5)) m = true then max (latF (g (120 + 10 * w + 5)) th m) ((th m).getD 0) else latF (g (120 + 10 * w + 5)) th m := rfl
        rw [el]
        by_cases hkm : k = m
        · subst hkm
          rw [if_pos hg, hu]
          exact Nat.le_max_right _ _
        · have := ih k (by omega) hg u hu
          split
          · exact Nat.le_trans this (Nat.le_max_left _ _)
          · exact this
    intro u v hv
    by_cases huw : u = w
    · subst huw
      rw [va_up_same] at hv
      cases hv
      refine ⟨hw, fun k hk hg => ?_⟩
      have hp := zal_t.mp hc.2 k hk
      unfold thP at hp
      rw [hg] at hp
      obtain ⟨x, hx⟩ := Option.isSome_iff_exists.mp (by simpa using hp)
      have hku : k ≠ u := fun e => by rw [e, hn] at hx; cases hx
      refine ⟨x, by rw [va_up_off hku]; exact hx, ?_⟩
      have := hlat 24 k hk hg x hx
      omega
    · rw [va_up_off huw] at hv
      obtain ⟨h1, h2⟩ := h u v hv
      refine ⟨h1, fun k hk hg => ?_⟩
      obtain ⟨x, hx, hxv⟩ := h2 k hk hg
      have hkw : k ≠ w := fun e => by rw [e, hn] at hx; cases hx
      exact ⟨x, by rw [va_up_off hkw]; exact hx, hxv⟩
  · exact h
theorem thS_row (hB : InvB g) {th : Nat → Option Nat} (h : thS g th) : ∀ w, w ≤ vN g 1 → thS g (thRow g th w)
  | 0, _ => h
  | w + 1, hw => thS_step hB (thS_row hB h w (by omega)) (by omega)
theorem thS_all (hB : InvB g) : ∀ i, thS g (thAll g i)
  | 0 => fun w v h => by cases h
  | i + 1 => thS_row hB (thS_all hB i) (vN g 1) (Nat.le_refl _)
/-- the bits of the works settled -/
def stR (th : Nat → Option Nat) (s : Nat) : Prop := s < 2 ^ 24 ∧ ∀ j, j < 24 → s.testBit j = (th j).isSome
def enW (mk : Nat) (I I1 : zI) : Prop := ∀ a, a ≠ mk + 14 → I1 a = I a
theorem enW_W (hW : cmW I mk g) {I1 : zI} (h : enW mk I I1) : cmW I1 mk g := cmW_of hW (by rw [h _ (by omega)]) (fun x _ _ => h x (by omega)) (fun _ _ _ => rfl)
theorem settled_all (hB : InvB g) {th : Nat → Option Nat} {s w : Nat} (hs : stR th s) (hw : w < vN g 1) : (vN g (120 + 10 * w + 5) ^^^ (vN g (120 + 10 * w + 5) &&& s) = 0) ↔ zal (thP (g (120 + 10 * w + 5)) th) 24 = true := by
  obtain ⟨ha1, ha2⟩ := w_ahead hB hw
  rw [zal_t, ha1]
  generalize vN g (120 + 10 * w + 5) = a at ha2
  have hb : ∀ j, j < 24 → gBit (nI a) j = a.testBit j := fun j hj => gBitN (by omega) (by omega)
  constructor
  · intro h j hj
    have e := zandn_bit a s j
    rw [h, Nat.zero_testBit, hs.2 j hj] at e
    unfold thP
    rw [hb j hj]
    cases h1 : a.testBit j
    · rfl
    · rw [h1] at e
      cases h2 : (th j).isSome
      · rw [h2] at e; cases e
      · rfl
  · intro h
    apply Nat.eq_of_testBit_eq
    intro j
    rw [zandn_bit, Nat.zero_testBit]
    by_cases hj : j < 24
    · have e := h j hj
      unfold thP at e
      rw [hb j hj] at e
      rw [hs.2 j hj]
      cases h1 : a.testBit j
      · rfl
      · rw [h1] at e
        cases h2 : (th j).isSome
        · rw [h2] at e; cases e
        · rfl
    · rw [Nat.testBit_lt_two_pow (Nat.lt_of_lt_of_le ha2 (Nat.pow_le_pow_right (by omega) (by omega)))]; rfl
theorem l1a_X10_findEnds (hM : ShM Z mk) (hW : cmW I mk g) (hB : InvB g) {w s r : Nat} (hw : w < vN g 1) (ed : g (120 + 10 * w + 6) = nI (vN g (120 + 10 * w + 6))) (kk : zX l G mX10_findEnds 2 0 0 103 [some (.ref (mk + 10)), some (.int (nI s)), some (.int (nI r)), some (.int (nI w)), some (.int (-1000000005))] [.int (nI (vN g (120 + 10 * w + 6))), .int (nI w), .ref (mk + 14)] Z I Q) : zX l G mX10_findEnds 2 0 0 68 [some (.ref (mk + 10)), some (.int (nI s)), some (.int (nI r)), some (.int (nI w)), none] [.int (oN none)] Z I Q := by
  have h24 := (iv1 hB).2
  refine x_top (y := -1000000005) rfl ?_
  refine x_ist4 (n := 70) dX10_findEnds_68 rfl (by decide) rfl ?_
  refine x_ald0 (n := 71) dX10_findEnds_70 rfl ?_
  refine x_getR (n := 74) flX10_24 rfl dX10_findEnds_71 rfl (mK_Ws hM) (mP_ends hM) ?_
  refine x_ild3 (n := 75) dX10_findEnds_74 rfl ?_
  refine x_ald0 (n := 76) dX10_findEnds_75 rfl ?_
  refine x_getR (n := 79) flX10_13 rfl dX10_findEnds_76 rfl (mK_Ws hM) (mP_allW hM) ?_
  refine x_ild3 (n := 80) dX10_findEnds_79 rfl ?_
  refine x_aaldN (n := 81) dX10_findEnds_80 rfl (mA_allW hM) ⟨by decide, by decide⟩ (Nat.le_of_ble_eq_true rfl) (by omega) (mP_W hM (by omega)) ?_
  refine x_getI (n := 84) flX10_133 rfl dX10_findEnds_81 rfl (mK_W hM (by omega)) ?_
  rw [cW5 hW hw, ed]
  refine x_ild4 (n := 86) dX10_findEnds_84 rfl ?_
  refine x_ldc (n := 88) dX10_findEnds_86 rfl kiX10_54 ?_
  refine x_icmp_ne (n := 91) (tgt := 95) dX10_findEnds_88 rfl (by decide) (fun c_88 => ?_) (fun c_88 => ?_)
  · exact absurd rfl c_88
  · refine x_ic0 (n := 92) dX10_findEnds_91 rfl ?_
    refine x_goto (n := 102) dX10_findEnds_92 (by decide) ?_
    refine x_iaddN (n := 103) dX10_findEnds_102 rfl ?_
    rw [Nat.add_zero]
    exact kk
theorem l1b_X10_findEnds (hM : ShM Z mk) (hW : cmW I mk g) (hB : InvB g) {w s r z v : Nat} (hw : w < vN g 1) (ed : g (120 + 10 * w + 6) = nI (vN g (120 + 10 * w + 6))) (hz : z < 24) (hE : I (mk + 14) z = nI v) (kk : zX l G mX10_findEnds 2 0 0 103 [some (.ref (mk + 10)), some (.int (nI s)), some (.int (nI r)), some (.int (nI w)), some (.int (nI z))] [.int (nI (vN g (120 + 10 * w + 6) + v)), .int (nI w), .ref (mk + 14)] Z I Q) : zX l G mX10_findEnds 2 0 0 68 [some (.ref (mk + 10)), some (.int (nI s)), some (.int (nI r)), some (.int (nI w)), none] [.int (oN (some z))] Z I Q := by
  have h24 := (iv1 hB).2
  have hzI : (nI z).toInt = (z : Int) := nI_toInt (by omega)
  refine x_top (y := nI z) rfl ?_
  refine x_ist4 (n := 70) dX10_findEnds_68 rfl (by decide) rfl ?_
  refine x_ald0 (n := 71) dX10_findEnds_70 rfl ?_
  refine x_getR (n := 74) flX10_24 rfl dX10_findEnds_71 rfl (mK_Ws hM) (mP_ends hM) ?_
  refine x_ild3 (n := 75) dX10_findEnds_74 rfl ?_
  refine x_ald0 (n := 76) dX10_findEnds_75 rfl ?_
  refine x_getR (n := 79) flX10_13 rfl dX10_findEnds_76 rfl (mK_Ws hM) (mP_allW hM) ?_
  refine x_ild3 (n := 80) dX10_findEnds_79 rfl ?_
  refine x_aaldN (n := 81) dX10_findEnds_80 rfl (mA_allW hM) ⟨by decide, by decide⟩ (Nat.le_of_ble_eq_true rfl) (by omega) (mP_W hM (by omega)) ?_
  refine x_getI (n := 84) flX10_133 rfl dX10_findEnds_81 rfl (mK_W hM (by omega)) ?_
  rw [cW5 hW hw, ed]
  refine x_ild4 (n := 86) dX10_findEnds_84 rfl ?_
  refine x_ldc (n := 88) dX10_findEnds_86 rfl kiX10_54 ?_
  refine x_icmp_ne (n := 91) (tgt := 95) dX10_findEnds_88 rfl (by decide) (fun c_88 => ?_) (fun c_88 => ?_)
  · refine x_ald0 (n := 96) dX10_findEnds_95 rfl ?_
    refine x_getR (n := 99) flX10_24 rfl dX10_findEnds_96 rfl (mK_Ws hM) (mP_ends hM) ?_
    refine x_ild4 (n := 101) dX10_findEnds_99 rfl ?_
    refine x_ialdN (n := 102) dX10_findEnds_101 rfl (mA_ends hM) (Nat.le_of_ble_eq_true rfl) (by omega) ?_
    rw [hE]
    refine x_iaddN (n := 103) dX10_findEnds_102 rfl ?_
    exact kk
  · exfalso; rw [zeq, hzI, show (-1000000005 : Int32).toInt = -1000000005 by decide] at c_88; omega
theorem l1_X10_findEnds (hM : ShM Z mk) (hW : cmW I mk g) (hB : InvB g) {w : Nat} (hw : w < vN g 1) {th : Nat → Option Nat} {s : Nat} {I1 : zI} (hO : enW mk I I1) (hE : enR (I1 (mk + 14)) th) (hs : stR th s) (hb : thB th 900000) (hS : thS g th) {r : Nat}
    (kk : ∀ I2 s2, enW mk I I2 → enR (I2 (mk + 14)) (thStep g th w) → stR (thStep g th w) s2 → zX l G mX10_findEnds 2 0 0 110 [some (.ref (mk + 10)), some (.int (nI s2)), some (.int (nI r)), some (.int (nI w)), none] [] Z I2 Q) :
    zX l G mX10_findEnds 2 0 0 31 [some (.ref (mk + 10)), some (.int (nI s)), some (.int (nI r)), some (.int (nI w)), none] [] Z I1 Q := by
  have h24 := (iv1 hB).2
  have hW1 := enW_W hW hO
  obtain ⟨a1, a2⟩ := w_ahead hB hw
  have hsa := settled_all hB hs hw
  have hlt := zandn_lt (b := s) a2
  have hd := (ivW hB hw).2.2.2.2.2.2.1
  have ed := rg_nI hd (by omega) (by omega)
  have ld := rg_le hd (by omega)
  have hsl := hs.1
  have hb' : thB th 1000000 := fun j v h => by have := hb j v h; omega
  have hS2 := thS_step hB hS hw
  unfold thStep at kk
  have fin : ∀ x4, (th w).isNone = true ∧ zal (thP (g (120 + 10 * w + 5)) th) 24 = true → zX l G mX10_findEnds 2 0 0 103 [some (.ref (mk + 10)), some (.int (nI s)), some (.int (nI r)), some (.int (nI w)), x4] [.int (nI (latF (g (120 + 10 * w + 5)) th 24 + vN g (120 + 10 * w + 6))), .int (nI w), .ref (mk + 14)] Z I1 Q := by
    intro x4 hc
    rw [if_pos hc] at kk
    refine x_iastN (n := 104) dX10_findEnds_103 rfl (mA_ends hM) (Nat.le_of_ble_eq_true rfl) (by omega) ?_
    refine x_ild1 (n := 105) dX10_findEnds_104 rfl ?_
    refine x_ic1 (n := 106) dX10_findEnds_105 rfl ?_
    refine x_ild3 (n := 107) dX10_findEnds_106 rfl ?_
    refine x_ishl (n := 108) dX10_findEnds_107 rfl ?_
    refine x_ior (n := 109) dX10_findEnds_108 rfl ?_
    rw [zshl (by omega), zor]
    refine x_ist1 (n := 110) dX10_findEnds_109 rfl (by decide) rfl ?_
    refine x_fg4 (kk _ _ ?_ ?_ ?_)
    · intro a ha; rw [va_up_off ha]; exact hO a ha
    · intro j hj
      rw [va_up_same]
      by_cases hjw : j = w
      · subst hjw; rw [upd_same, va_up_same]; rfl
      · rw [upd_off hjw, va_up_off hjw]; exact hE j hj
    · refine ⟨Nat.or_lt_two_pow hs.1 (Nat.pow_lt_pow_right (by omega) (by omega)), fun j hj => ?_⟩
      rw [Nat.testBit_or, hs.2 j hj, Nat.testBit_two_pow]
      by_cases hjw : w = j
      · subst hjw; rw [va_up_same, decide_eq_true rfl, Bool.or_true]; rfl
      · rw [va_up_off (fun e => hjw e.symm), decide_eq_false hjw, Bool.or_false]
  refine x_ild1 (n := 32) dX10_findEnds_31 rfl ?_
  refine x_ild3 (n := 33) dX10_findEnds_32 rfl ?_
  refine x_cN2 (n := 36) (d' := 0) zcX11_hasBit mnX10_107 dX10_findEnds_33 rfl (Nat.le_of_ble_eq_true rfl) (Nat.le_of_ble_eq_true rfl) ?_
  refine c_X11_hasBit (by omega) (by omega) ?_
  refine x_some ?_
  refine x_zif_ne (n := 39) (tgt := 110) dX10_findEnds_36 rfl (by decide) (fun c_36 => ?_) (fun c_36 => ?_)
  · have hnc : ¬ ((th w).isNone = true ∧ zal (thP (g (120 + 10 * w + 5)) th) 24 = true) := by
      rintro ⟨e1, e2⟩
      first
        | (have hc : s.testBit w = true := c_36; rw [hs.2 w (by omega)] at hc; rw [Option.isNone_iff_eq_none.mp e1] at hc; cases hc)
        | (exact c_52 (by rw [hsa.mpr e2]; rfl))
    rw [if_neg hnc] at kk
    exact kk I1 s hO hE hs
  · refine x_ald0 (n := 40) dX10_findEnds_39 rfl ?_
    refine x_getR (n := 43) flX10_13 rfl dX10_findEnds_40 rfl (mK_Ws hM) (mP_allW hM) ?_
    refine x_ild3 (n := 44) dX10_findEnds_43 rfl ?_
    refine x_aaldN (n := 45) dX10_findEnds_44 rfl (mA_allW hM) ⟨by decide, by decide⟩ (Nat.le_of_ble_eq_true rfl) (by omega) (mP_W hM (by omega)) ?_
    refine x_getI (n := 48) flX10_75 rfl dX10_findEnds_45 rfl (mK_W hM (by omega)) ?_
    refine x_ild1 (n := 49) dX10_findEnds_48 rfl ?_
    refine x_icm1 (n := 50) dX10_findEnds_49 rfl ?_
    refine x_ixor (n := 51) dX10_findEnds_50 rfl ?_
    refine x_iand (n := 52) dX10_findEnds_51 rfl ?_
    rw [cW4 hW1 hw, a1, zandn]
    refine x_if_ne (n := 55) (tgt := 110) dX10_findEnds_52 rfl (by decide) (fun c_52 => ?_) (fun c_52 => ?_)
    · have hnc : ¬ ((th w).isNone = true ∧ zal (thP (g (120 + 10 * w + 5)) th) 24 = true) := by
        rintro ⟨e1, e2⟩
        first
          | (have hc : s.testBit w = true := c_36; rw [hs.2 w (by omega)] at hc; rw [Option.isNone_iff_eq_none.mp e1] at hc; cases hc)
          | (exact c_52 (by rw [hsa.mpr e2]; rfl))
      rw [if_neg hnc] at kk
      exact kk I1 s hO hE hs
    · have hz : zal (thP (g (120 + 10 * w + 5)) th) 24 = true := hsa.mp ((nI_eq (b := 0) (by omega) (by decide)).mp c_52)
      have hnone : (th w).isNone = true := by rw [hs.2 w (by omega)] at c_36; cases ht : th w; rfl; rw [ht] at c_36; cases c_36
      have hsome : ∀ k, k < 24 → gBit (g (120 + 10 * w + 5)) k = true → (th k).isSome = true := fun k hk hg => by have := zal_t.mp hz k hk; unfold thP at this; rw [hg] at this; simpa using this
      have hstop : latF (g (120 + 10 * w + 5)) th 24 = latF (g (120 + 10 * w + 5)) th (vN g 1) := lat_stop 24 h24 (fun k h1 h2 => by
        refine Bool.eq_false_iff.mpr (fun hg => ?_)
        obtain ⟨u, hu⟩ := Option.isSome_iff_exists.mp (hsome k h2 hg)
        have := (hS k u hu).1
        omega)
      obtain ⟨q1, q2⟩ := bst_lat hb' (vN g 1) (fun k hk => hsome k (by omega))
      have hfin := fun x4 => fin x4 ⟨hnone, hz⟩
      rw [hstop] at hfin
      have a1' := a1
      refine x_ald0 (n := 56) dX10_findEnds_55 rfl ?_
      refine x_ald0 (n := 57) dX10_findEnds_56 rfl ?_
      refine x_getR (n := 60) flX10_13 rfl dX10_findEnds_57 rfl (mK_Ws hM) (mP_allW hM) ?_
      refine x_ild3 (n := 61) dX10_findEnds_60 rfl ?_
      refine x_aaldN (n := 62) dX10_findEnds_61 rfl (mA_allW hM) ⟨by decide, by decide⟩ (Nat.le_of_ble_eq_true rfl) (by omega) (mP_W hM (by omega)) ?_
      refine x_getI (n := 65) flX10_75 rfl dX10_findEnds_62 rfl (mK_W hM (by omega)) ?_
      rw [cW4 hW1 hw, a1]
      refine x_cV1 (n := 68) (d' := 1) zcX10_latestOf mlX10_130 dX10_findEnds_65 rfl (mK_Ws hM) (Nat.le_of_ble_eq_true rfl) (Nat.le_of_ble_eq_true rfl) ?_
      refine c_X10_latestOf hM hW1 hB a2 hE hb' ?_
      rw [← a1]
      refine x_some ?_
      rcases hbb : bstF (g (120 + 10 * w + 5)) th (vN g 1) with _ | z
      · refine l1a_X10_findEnds hM hW1 hB hw ed ?_
        have hx := hfin (some (.int (-1000000005)))
        rw [q1 hbb, Nat.zero_add] at hx
        exact hx
      · have hzlt := bstF_lt hbb
        refine l1b_X10_findEnds hM hW1 hB hw ed (z := z) (v := latF (g (120 + 10 * w + 5)) th (vN g 1)) (by omega) (by rw [hE z (by omega), q2 z hbb]; rfl) ?_
        have hx := hfin (some (.int (nI z)))
        rw [Nat.add_comm (latF (g (120 + 10 * w + 5)) th (vN g 1))] at hx
        exact hx
theorem l2_X10_findEnds (hM : ShM Z mk) (hW : cmW I mk g) (hB : InvB g) {th : Nat → Option Nat} {r bd : Nat} (hbd : bd + 99 * 24 ≤ 900000) (hb : thB th bd) (hS : thS g th)
    (kk : ∀ I2 s2, enW mk I I2 → enR (I2 (mk + 14)) (thRow g th (vN g 1)) → stR (thRow g th (vN g 1)) s2 → zX l G mX10_findEnds 2 0 0 116 [some (.ref (mk + 10)), some (.int (nI s2)), some (.int (nI r)), none, none] [] Z I2 Q) :
    ∀ m w I1 s, enW mk I I1 → enR (I1 (mk + 14)) (thRow g th w) → stR (thRow g th w) s → w ≤ vN g 1 → vN g 1 - w < m → zX l G mX10_findEnds 2 0 0 23 [some (.ref (mk + 10)), some (.int (nI s)), some (.int (nI r)), some (.int (nI w)), none] [] Z I1 Q := by
  have h24 := (iv1 hB).2
  intro m
  induction m with
  | zero => intro w I1 s _ _ _ _ h; exact absurd h (by omega)
  | succ m ih =>
    intro w I1 s hO hE hs hw hm
    have hW1 := enW_W hW hO
    have h1 := vW1 hW1 hB
    have hbw := thRow_B hB hb w hw
    refine x_ild3 (n := 24) dX10_findEnds_23 rfl ?_
    refine x_ald0 (n := 25) dX10_findEnds_24 rfl ?_
    refine x_getI (n := 28) flX10_28 rfl dX10_findEnds_25 rfl (mK_Ws hM) ?_
    rw [h1]
    refine x_icmpN_ge (n := 31) (tgt := 116) dX10_findEnds_28 rfl (by decide) (by omega) (by omega) (fun c_28 => ?_) (fun c_28 => ?_)
    · refine x_fg3 (kk I1 s hO ?_ ?_)
      · rw [← show w = vN g 1 by omega]; exact hE
      · rw [← show w = vN g 1 by omega]; exact hs
    · refine l1_X10_findEnds hM hW hB (by omega) hO hE hs (fun j v h => by have := hbw j v h; omega) (thS_row hB hS w hw) (fun I2 s2 hO2 hE2 hs2 => ?_)
      refine x_iincN3 (n := 113) (k := 1) dX10_findEnds_110 rfl (by decide) rfl ?_
      refine x_goto (n := 23) dX10_findEnds_113 (by decide) ?_
      exact ih (w + 1) I2 s2 hO2 hE2 hs2 (by omega) (by omega)
theorem l3_X10_findEnds (hM : ShM Z mk) (hW : cmW I mk g) (hB : InvB g) (hq : ∀ I2, enW mk I I2 → enR (I2 (mk + 14)) (gTh g) → Q none Z I2) :
    ∀ m r I1 s, enW mk I I1 → enR (I1 (mk + 14)) (thAll g r) → stR (thAll g r) s → r ≤ vN g 1 → vN g 1 - r < m → zX l G mX10_findEnds 2 0 0 13 [some (.ref (mk + 10)), some (.int (nI s)), some (.int (nI r)), none, none] [] Z I1 Q := by
  have h24 := (iv1 hB).2
  intro m
  induction m with
  | zero => intro r I1 s _ _ _ _ h; exact absurd h (by omega)
  | succ m ih =>
    intro r I1 s hO hE hs hr hm
    have hW1 := enW_W hW hO
    have h1 := vW1 hW1 hB
    have hbr := thAll_B hB r
    have hbb : 99 * vN g 1 * r ≤ 99 * 24 * 24 := Nat.mul_le_mul (Nat.mul_le_mul_left 99 h24) (by omega)
    refine x_ild2 (n := 14) dX10_findEnds_13 rfl ?_
    refine x_ald0 (n := 15) dX10_findEnds_14 rfl ?_
    refine x_getI (n := 18) flX10_28 rfl dX10_findEnds_15 rfl (mK_Ws hM) ?_
    rw [h1]
    refine x_icmpN_ge (n := 21) (tgt := 122) dX10_findEnds_18 rfl (by decide) (by omega) (by omega) (fun c_18 => ?_) (fun c_18 => ?_)
    · refine r_vret dX10_findEnds_122 rfl ?_
      exact hq I1 hO (by unfold gTh; rw [← show r = vN g 1 by omega]; exact hE)
    · refine x_ic0 (n := 22) dX10_findEnds_21 rfl ?_
      refine x_ist3 (n := 23) dX10_findEnds_22 rfl (by decide) rfl ?_
      refine l2_X10_findEnds hM hW hB (by omega) hbr (thS_all hB r) (fun I2 s2 hO2 hE2 hs2 => ?_) (vN g 1 + 1) 0 I1 s hO hE hs (by omega) (by omega)
      refine x_iincN2 (n := 119) (k := 1) dX10_findEnds_116 rfl (by decide) rfl ?_
      refine x_goto (n := 13) dX10_findEnds_119 (by decide) ?_
      exact ih (r + 1) I2 s2 hO2 hE2 hs2 (by omega) (by omega)
theorem c_X10_findEnds (hM : ShM Z mk) (hW : cmW I mk g) (hB : InvB g) (hq : ∀ I2, enW mk I I2 → enR (I2 (mk + 14)) (gTh g) → Q none Z I2) : zM l G mX10_findEnds 2 0 0 [.ref (mk + 10)] Z I Q := by
  refine x_entry [some (.ref (mk + 10)), none, none, none, none] 4 rfl rfl (Nat.le_of_ble_eq_true rfl) ?_
  refine x_ald0 (n := 1) dX10_findEnds_0 rfl ?_
  refine x_getR (n := 4) flX10_24 rfl dX10_findEnds_1 rfl (mK_Ws hM) (mP_ends hM) ?_
  refine x_ldc (n := 6) dX10_findEnds_4 rfl kiX10_54 ?_
  refine x_cS2 (n := 9) (d' := 0) zcJ7_fill_53178 mlX10_124 dX10_findEnds_6 rfl (Nat.le_of_ble_eq_true rfl) (Nat.le_of_ble_eq_true rfl) ?_
  refine c_J7_fill_53178 (mA_ends hM) (Nat.le_of_ble_eq_true rfl) (fun f hf => ?_)
  refine x_none ?_
  refine x_ic0 (n := 10) dX10_findEnds_9 rfl ?_
  refine x_ist1 (n := 11) dX10_findEnds_10 rfl (by decide) rfl ?_
  refine x_ic0 (n := 12) dX10_findEnds_11 rfl ?_
  refine x_ist2 (n := 13) dX10_findEnds_12 rfl (by decide) rfl ?_
  refine l3_X10_findEnds hM hW hB hq (vN g 1 + 1) 0 _ 0 (fun a ha => va_up_off ha) (fun j hj => ?_) ⟨by decide, fun j hj => ?_⟩ (by omega) (by omega)
  · rw [va_up_same, hf j hj]; rfl
  · rw [Nat.zero_testBit]; rfl
theorem gTh_lim (hB : InvB g) : thB (gTh g) 1000000 := by
  have h24 := (iv1 hB).2
  have hbb : 99 * vN g 1 * vN g 1 ≤ 99 * 24 * 24 := Nat.mul_le_mul (Nat.mul_le_mul_left 99 h24) h24
  exact fun j v h => by have := thAll_B hB (vN g 1) j v h; omega
theorem CM14 (h : CM Z I mk g) (hI : enW mk I I') (hm : mk < 200) : CM Z I' mk g := CM_of h (fun a ha => hI a (fun e => ha (by subst e; unfold cmOff; omega))) hm
theorem off14 (hI : enW mk I I') : offM mk I I' := fun a ha => hI a (by omega)
theorem c_X10_endOf (hM : ShM Z mk) (hW : cmW I mk g) (hB : InvB g) {w : Nat} (hw : w < vN g 1) (hq : ∀ I2, enW mk I I2 → enR (I2 (mk + 14)) (gTh g) → Q (some (.int (oN (gTh g w)))) Z I2) : zM l G mX10_endOf 3 0 0 [.ref (mk + 10), .int (nI w)] Z I Q := by
  refine x_entry [some (.ref (mk + 10)), some (.int (nI w))] 0 rfl rfl (Nat.le_of_ble_eq_true rfl) ?_
  have h24 := (iv1 hB).2
  have hwI : (nI w).toInt = (w : Int) := nI_toInt (by omega)
  refine x_ald0 (n := 1) dX10_endOf_0 rfl ?_
  refine x_cV0 (n := 4) (d' := 2) zcX10_findEnds mlX10_121 dX10_endOf_1 rfl (mK_Ws hM) (Nat.le_of_ble_eq_true rfl) (Nat.le_of_ble_eq_true rfl) ?_
  refine c_X10_findEnds hM hW hB (fun I2 h1 h2 => ?_)
  have hv := vW1 (enW_W hW h1) hB
  refine x_none ?_
  refine x_ild1 (n := 5) dX10_endOf_4 rfl ?_
  refine x_ic0 (n := 6) dX10_endOf_5 rfl ?_
  refine x_ald0 (n := 7) dX10_endOf_6 rfl ?_
  refine x_getI (n := 10) flX10_28 rfl dX10_endOf_7 rfl (mK_Ws hM) ?_
  rw [hv]
  refine x_ic1 (n := 11) dX10_endOf_10 rfl ?_
  refine x_isubN (n := 12) dX10_endOf_11 rfl (by omega) ?_
  refine x_cN3 (n := 15) (d' := 0) zcX11_inside mnX10_45 dX10_endOf_12 rfl (Nat.le_of_ble_eq_true rfl) (Nat.le_of_ble_eq_true rfl) ?_
  refine c_X11_inside true (by refine (decide_eq_true ?_).symm; rw [hwI, nI_toInt (n := vN g 1 - 1) (by omega)]; exact ⟨by show (0 : Int) ≤ _; omega, by omega⟩) ?_
  refine x_some ?_
  refine x_if_eq (n := 18) (tgt := 27) dX10_endOf_15 rfl (by decide) (fun c_15 => ?_) (fun c_15 => ?_)
  · exact absurd c_15 (by decide)
  · refine x_ald0 (n := 19) dX10_endOf_18 rfl ?_
    refine x_getR (n := 22) flX10_24 rfl dX10_endOf_19 rfl (mK_Ws hM) (mP_ends hM) ?_
    refine x_ild1 (n := 23) dX10_endOf_22 rfl ?_
    refine x_ialdN (n := 24) dX10_endOf_23 rfl (mA_ends hM) (Nat.le_of_ble_eq_true rfl) (by omega) ?_
    refine x_goto (n := 29) dX10_endOf_24 (by decide) ?_
    refine r_iret dX10_endOf_29 rfl ?_
    rw [h2 w (by omega)]; exact hq I2 h1 h2
theorem zct_lt {p q : Nat → Bool} {j : Nat} (h : ∀ k, q k = true → p k = true) (hp : p j = true) (hq : q j = false) : ∀ {n : Nat}, j < n → zct q n < zct p n
  | 0, hj => absurd hj (by omega)
  | n + 1, hj => by
    have hle : ∀ m, zct q m ≤ zct p m := by
      intro m
      induction m with
      | zero => exact Nat.le_refl _
      | succ m ih =>
        show zct q m + _ ≤ zct p m + _
        by_cases hqm : q m = true
        · rw [if_pos hqm, if_pos (h m hqm)]; omega
        · rw [if_neg hqm]; omega
    show zct q n + _ < zct p n + _
    by_cases hjn : j = n
    · subst hjn
      rw [if_neg (by rw [hq]; decide), if_pos hp]
      have := hle j; omega
    · have := zct_lt h hp hq (n := n) (by omega)
      by_cases hqm : q n = true
      · rw [if_pos hqm, if_pos (h n hqm)]; omega
      · rw [if_neg hqm]; omega
/-- works that end before v -/
def endB (g : Nat → Int32) (v u : Nat) : Bool := match gTh g u with
  | none => false
  | some t => decide (t < v)
theorem bst_bit {a : Int32} {th : Nat → Option Nat} : ∀ {n w : Nat}, bstF a th n = some w → gBit a w = true
  | 0, w, h => by cases h
  | n + 1, w, h => by
    unfold bstF at h
    split at h
    · rename_i hc; cases h; exact hc.1
    · exact bst_bit h
theorem chN_none : ∀ i, chN g i none = none
  | 0 => rfl
  | i + 1 => rfl
theorem chN_end (hB : InvB g) : ∀ i w v, gTh g w = some v → zct (endB g v) (vN g 1) < i → chN g i (some w) = none
  | 0, w, v, _, h => absurd h (by omega)
  | i + 1, w, v, hv, h => by
    show chN g i (bstF (g (120 + 10 * w + 5)) (gTh g) (vN g 1)) = none
    cases hb : bstF (g (120 + 10 * w + 5)) (gTh g) (vN g 1) with
    | none => exact chN_none i
    | some u =>
      have hul := bstF_lt hb
      have h24 := (iv1 hB).2
      obtain ⟨t, ht, htv⟩ := (thS_all hB (vN g 1) w v hv).2 u (by omega) (bst_bit hb)
      have ht' : gTh g u = some t := ht
      refine chN_end hB i u t ht' ?_
      have := zct_lt (p := endB g v) (q := endB g t) (j := u) (fun k hk => by
        unfold endB at hk ⊢
        cases hg : gTh g k with
        | none => rw [hg] at hk; cases hk
        | some x => rw [hg] at hk; have := of_decide_eq_true hk; exact decide_eq_true (by omega)) (by unfold endB; rw [ht']; exact decide_eq_true htv) (by unfold endB; rw [ht']; exact decide_eq_false (by omega)) hul
      omega
theorem chN_far (hB : InvB g) {i w v : Nat} (hw : w < vN g 1) (hv : gTh g w = some v) (hi : vN g 1 ≤ i) : chN g i (some w) = none := by
  refine chN_end hB i w v hv ?_
  have : zct (endB g v) (vN g 1) < vN g 1 := by
    have h1 := zct_lt (p := fun _ => true) (q := endB g v) (j := w) (fun _ _ => rfl) rfl (by unfold endB; rw [hv]; exact decide_eq_false (by omega)) hw
    have h2 := zct_le (fun _ => true) (vN g 1)
    omega
  omega
theorem chN_lt (hB : InvB g) : ∀ i o k, (∀ w, o = some w → w < vN g 1) → chN g i o = some k → k < vN g 1
  | 0, o, k, ho, h => ho k h
  | i + 1, o, k, ho, h => by
    cases o with
    | none => cases h
    | some w => exact chN_lt hB i _ k (fun u hu => bstF_lt hu) h
theorem l_X10_inChain (hM : ShM Z mk) (hW : cmW I mk g) (hB : InvB g) {n : Nat} {w0 : Option Value} (hn : n < vN g 1) (hE : enR (I (mk + 14)) (gTh g)) : ∀ m k o, k + m = n → (∀ w, o = some w → w < vN g 1) → Q (some (.int (oN (chN g m o)))) Z I → zX l G mX10_inChain 4 0 0 26 [some (.ref (mk + 10)), w0, some (.int (nI n)), some (.int (oN o)), some (.int (nI k)), none] [] Z I Q := by
  have h24 := (iv1 hB).2
  intro m
  induction m with
  | zero =>
    intro k o hk ho hq
    refine x_ild4 (n := 28) dX10_inChain_26 rfl ?_
    refine x_ild2 (n := 29) dX10_inChain_28 rfl ?_
    refine x_icmpN_ge (n := 32) (tgt := 65) dX10_inChain_29 rfl (by decide) (by omega) (by omega) (fun c_29 => ?_) (fun c_29 => ?_)
    · refine x_ild3 (n := 66) dX10_inChain_65 rfl ?_
      refine r_iret dX10_inChain_66 rfl ?_
      exact hq
    · exact absurd c_29 (by omega)
  | succ m ih =>
    intro k o hk ho hq
    have next : ∀ o2 x5, chN g (m + 1) o = chN g m o2 → (∀ w, o2 = some w → w < vN g 1) → zX l G mX10_inChain 4 0 0 58 [some (.ref (mk + 10)), w0, some (.int (nI n)), some (.int (oN o)), some (.int (nI k)), x5] [.int (oN o2)] Z I Q := by
      intro o2 x5 h1 h2
      rw [h1] at hq
      refine x_ist3 (n := 59) dX10_inChain_58 rfl (by decide) rfl ?_
      refine x_iincN4 (n := 62) (k := 1) dX10_inChain_59 rfl (by decide) rfl ?_
      refine x_goto (n := 26) dX10_inChain_62 (by decide) ?_
      refine x_fg5 ?_
      exact ih (k + 1) o2 (by omega) h2 hq
    cases o with
    | none =>
      refine x_ild4 (n := 28) dX10_inChain_26 rfl ?_
      refine x_ild2 (n := 29) dX10_inChain_28 rfl ?_
      refine x_icmpN_ge (n := 32) (tgt := 65) dX10_inChain_29 rfl (by decide) (by omega) (by omega) (fun c_29 => ?_) (fun c_29 => ?_)
      · exact absurd c_29 (by omega)
      · refine x_ald0 (n := 33) dX10_inChain_32 rfl ?_
        refine x_ild3 (n := 34) dX10_inChain_33 rfl ?_
        refine x_cV1 (n := 37) (d' := 1) zcX10_numbered mlX10_71 dX10_inChain_34 rfl (mK_Ws hM) (Nat.le_of_ble_eq_true rfl) (Nat.le_of_ble_eq_true rfl) ?_
        refine c_X10_numberedN hM hW hB (decide_eq_false (by show ¬ (0 ≤ (-1000000005 : Int32).toInt ∧ _); rw [show (-1000000005 : Int32).toInt = -1000000005 by decide]; omega)) ?_
        refine x_some ?_
        refine x_nst5 (n := 39) dX10_inChain_37 rfl (by decide) rfl ?_
        refine x_nld5 (n := 41) dX10_inChain_39 rfl ?_
        refine x_ifnonnullN (n := 44) dX10_inChain_41 rfl ?_
        refine x_ldc (n := 46) dX10_inChain_44 rfl kiX10_54 ?_
        refine x_goto (n := 58) dX10_inChain_46 (by decide) ?_
        exact next none _ (by rw [chN_none, chN_none]) (fun w h => by cases h)
    | some w =>
      have hw := ho w rfl
      obtain ⟨a1, a2⟩ := w_ahead hB hw
      refine x_ild4 (n := 28) dX10_inChain_26 rfl ?_
      refine x_ild2 (n := 29) dX10_inChain_28 rfl ?_
      refine x_icmpN_ge (n := 32) (tgt := 65) dX10_inChain_29 rfl (by decide) (by omega) (by omega) (fun c_29 => ?_) (fun c_29 => ?_)
      · exact absurd c_29 (by omega)
      · refine x_ald0 (n := 33) dX10_inChain_32 rfl ?_
        refine x_ild3 (n := 34) dX10_inChain_33 rfl ?_
        refine x_top (y := nI w) rfl ?_
        refine x_cV1 (n := 37) (d' := 1) zcX10_numbered mlX10_71 dX10_inChain_34 rfl (mK_Ws hM) (Nat.le_of_ble_eq_true rfl) (Nat.le_of_ble_eq_true rfl) ?_
        refine c_X10_numbered hM hW hB hw ?_
        refine x_some ?_
        refine x_ast5 (n := 39) dX10_inChain_37 rfl (by decide) rfl ?_
        refine x_ald5 (n := 41) dX10_inChain_39 rfl ?_
        refine x_ifnonnull (n := 49) dX10_inChain_41 (by decide) ?_
        refine x_ald0 (n := 50) dX10_inChain_49 rfl ?_
        refine x_ald5 (n := 52) dX10_inChain_50 rfl ?_
        refine x_getI (n := 55) flX10_75 rfl dX10_inChain_52 rfl (mK_W hM (by omega)) ?_
        rw [cW4 hW hw, a1]
        refine x_cV1 (n := 58) (d' := 1) zcX10_latestOf mlX10_130 dX10_inChain_55 rfl (mK_Ws hM) (Nat.le_of_ble_eq_true rfl) (Nat.le_of_ble_eq_true rfl) ?_
        refine c_X10_latestOf hM hW hB a2 hE (gTh_lim hB) ?_
        rw [← a1]
        refine x_some ?_
        exact next _ _ rfl (fun u hu => bstF_lt hu)
theorem c_X10_inChain (hM : ShM Z mk) (hW : cmW I mk g) (hB : InvB g) {w : Nat} {i : Int32} (hw : w < vN g 1) (hi : 0 ≤ i) (hq : ∀ I2, enW mk I I2 → Q (some (.int (orNone (oI (chN g (ix i) (if (gTh g w).isNone = true then none else some w)))))) Z I2) : zM l G mX10_inChain 4 0 0 [.ref (mk + 10), .int (nI w), .int i] Z I Q := by
  refine x_entry [some (.ref (mk + 10)), some (.int (nI w)), some (.int i), none, none, none] 3 rfl rfl (Nat.le_of_ble_eq_true rfl) ?_
  have h24 := (iv1 hB).2
  have hir := fb_rng0 i
  rw [zle, Int32.toInt_zero] at hi
  have hii : ix i = i.toInt.toNat := rfl
  have hnN : (-1000000005 : Int32).toInt = -1000000005 := by decide
  refine x_ald0 (n := 1) dX10_inChain_0 rfl ?_
  refine x_ild1 (n := 2) dX10_inChain_1 rfl ?_
  refine x_cV1 (n := 5) (d' := 3) zcX10_endOf mlX10_136 dX10_inChain_2 rfl (mK_Ws hM) (Nat.le_of_ble_eq_true rfl) (Nat.le_of_ble_eq_true rfl) ?_
  refine c_X10_endOf hM hW hB hw (fun I2 h1 h2 => ?_)
  have hq2 := hq I2 h1
  have hv := vW1 (enW_W hW h1) hB
  refine x_some ?_
  refine x_ldc (n := 7) dX10_inChain_5 rfl kiX10_54 ?_
  refine x_icmp_eq (n := 10) (tgt := 18) dX10_inChain_7 rfl (by decide) (fun c_7 => ?_) (fun c_7 => ?_)
  · refine x_ldc (n := 20) dX10_inChain_18 rfl kiX10_54 ?_
    refine r_iret dX10_inChain_20 rfl ?_
    first
      | (have hlt : ¬ i < nI (vN g 1) := c_15
         rw [zlt, nI_toInt (by omega)] at hlt
         cases hg : gTh g w with
         | none => rw [hg] at hq2; rw [if_pos (by rfl), chN_none] at hq2; exact hq2
         | some v => rw [hg] at hq2; rw [if_neg (by exact Bool.false_ne_true), chN_far hB hw hg (by omega)] at hq2; exact hq2)
      | (have hne : oN (gTh g w) = -1000000005 := c_7
         cases hg : gTh g w with
         | none => rw [hg] at hq2; rw [if_pos (by rfl), chN_none] at hq2; exact hq2
         | some v =>
           exfalso
           rw [hg] at hne
           have hvl := gTh_lim hB w v hg
           have hne2 : nI v = -1000000005 := hne
           rw [zeq, hnN, nI_toInt (by omega)] at hne2; omega)
  · refine x_ild2 (n := 11) dX10_inChain_10 rfl ?_
    refine x_ald0 (n := 12) dX10_inChain_11 rfl ?_
    refine x_getI (n := 15) flX10_28 rfl dX10_inChain_12 rfl (mK_Ws hM) ?_
    rw [hv]
    refine x_icmp_lt (n := 18) (tgt := 21) dX10_inChain_15 rfl (by decide) (fun c_15 => ?_) (fun c_15 => ?_)
    · refine x_ild1 (n := 22) dX10_inChain_21 rfl ?_
      refine x_ist3 (n := 23) dX10_inChain_22 rfl (by decide) rfl ?_
      refine x_ic0 (n := 24) dX10_inChain_23 rfl ?_
      refine x_ist4 (n := 26) dX10_inChain_24 rfl (by decide) rfl ?_
      have hi2 := c_15
      rw [zlt, nI_toInt (by omega)] at hi2
      obtain ⟨n, hn, rfl⟩ := z_of (n := vN g 1) hi hi2
      rw [ix_nI (by omega)] at hq2
      refine l_X10_inChain hM (enW_W hW h1) hB hn h2 n 0 (some w) (by omega) (fun u hu => by cases hu; exact hw) ?_
      cases hg : gTh g w with
      | none => exact absurd (by rw [hg]; rfl) c_7
      | some v =>
        rw [hg] at hq2
        rw [if_neg (by exact Bool.false_ne_true), oN_or (fun k hk => by have := chN_lt hB n (some w) k (fun u hu => by cases hu; exact hw) hk; omega)] at hq2
        exact hq2
    · refine x_ldc (n := 20) dX10_inChain_18 rfl kiX10_54 ?_
      refine r_iret dX10_inChain_20 rfl ?_
      first
        | (have hlt : ¬ i < nI (vN g 1) := c_15
           rw [zlt, nI_toInt (by omega)] at hlt
           cases hg : gTh g w with
           | none => rw [hg] at hq2; rw [if_pos (by rfl), chN_none] at hq2; exact hq2
           | some v => rw [hg] at hq2; rw [if_neg (by exact Bool.false_ne_true), chN_far hB hw hg (by omega)] at hq2; exact hq2)
        | (have hne : oN (gTh g w) = -1000000005 := c_7
           cases hg : gTh g w with
           | none => rw [hg] at hq2; rw [if_pos (by rfl), chN_none] at hq2; exact hq2
           | some v =>
             exfalso
             rw [hg] at hne
             have hvl := gTh_lim hB w v hg
             have hne2 : nI v = -1000000005 := hne
             rw [zeq, hnN, nI_toInt (by omega)] at hne2; omega)
theorem tL_through (hS : ShL Z) (hC : CM Z I 1 g) (hB : InvB g) {x : Int32} (hq : ∀ I', offM 1 I I' → CM Z I' 1 g → Q (some (.int (f_through g x))) Z I') : zM l G mX11_through 4 0 0 [.ref 0, .int x] Z I Q := by
  refine x_entry [some (.ref 0), some (.int x)] 0 rfl rfl (Nat.le_of_ble_eq_true rfl) ?_
  have hM := lM1 hS
  have h24 := (iv1 hB).2
  unfold f_through at hq
  by_cases hx : zin x 0 ((vN g 1 : Int) - 1) = true
  · obtain ⟨w, hw, rfl⟩ := z_chain hx
    rw [if_pos hx, ix_nI (by omega), oN_or (fun k hk => by have := gTh_lim hB w k hk; omega)] at hq
    refine x_ald0 (n := 1) dX11_through_0 rfl ?_
    refine x_getR (n := 4) flX11_10 rfl dX11_through_1 rfl (lK_L hS) (lP_M hS) ?_
    refine x_getR (n := 7) flX11_55 rfl dX11_through_4 rfl (mK_M hM) (mP_Ws hM) ?_
    refine x_ild1 (n := 8) dX11_through_7 rfl ?_
    refine x_cV1 (n := 11) (d' := 1) zcX10_numbered mlX11_142 dX11_through_8 rfl (mK_Ws hM) (Nat.le_of_ble_eq_true rfl) (Nat.le_of_ble_eq_true rfl) ?_
    refine c_X10_numbered hM hC.2.1 hB hw ?_
    refine x_some ?_
    refine x_ifnonnull (n := 19) dX11_through_11 (by decide) ?_
    refine x_ald0 (n := 20) dX11_through_19 rfl ?_
    refine x_getR (n := 23) flX11_10 rfl dX11_through_20 rfl (lK_L hS) (lP_M hS) ?_
    refine x_getR (n := 26) flX11_55 rfl dX11_through_23 rfl (mK_M hM) (mP_Ws hM) ?_
    refine x_ild1 (n := 27) dX11_through_26 rfl ?_
    refine x_cV1 (n := 30) (d' := 3) zcX10_endOf mlX11_307 dX11_through_27 rfl (mK_Ws hM) (Nat.le_of_ble_eq_true rfl) (Nat.le_of_ble_eq_true rfl) ?_
    refine c_X10_endOf hM hC.2.1 hB hw (fun I2 h1 h2 => ?_)
    refine x_some ?_
    refine r_iret dX11_through_30 rfl ?_
    exact hq I2 (off14 h1) (CM14 hC h1 (by omega))
  · rw [if_neg hx] at hq
    refine x_ald0 (n := 1) dX11_through_0 rfl ?_
    refine x_getR (n := 4) flX11_10 rfl dX11_through_1 rfl (lK_L hS) (lP_M hS) ?_
    refine x_getR (n := 7) flX11_55 rfl dX11_through_4 rfl (mK_M hM) (mP_Ws hM) ?_
    refine x_ild1 (n := 8) dX11_through_7 rfl ?_
    refine x_cV1 (n := 11) (d' := 1) zcX10_numbered mlX11_142 dX11_through_8 rfl (mK_Ws hM) (Nat.le_of_ble_eq_true rfl) (Nat.le_of_ble_eq_true rfl) ?_
    refine c_X10_numberedN hM hC.2.1 hB (Bool.eq_false_iff.mpr hx) ?_
    refine x_some ?_
    refine x_ifnonnullN (n := 14) dX11_through_11 rfl ?_
    refine x_ldc (n := 16) dX11_through_14 rfl kiX11_54 ?_
    refine x_goto (n := 30) dX11_through_16 (by decide) ?_
    refine r_iret dX11_through_30 rfl ?_
    exact hq I offM_refl hC
theorem tL_chain (hS : ShL Z) (hC : CM Z I 1 g) (hB : InvB g) {x i : Int32} (hq : ∀ I', offM 1 I I' → CM Z I' 1 g → Q (some (.int (f_chain g x i))) Z I') : zM l G mX11_chain 5 0 0 [.ref 0, .int x, .int i] Z I Q := by
  refine x_entry [some (.ref 0), some (.int x), some (.int i)] 0 rfl rfl (Nat.le_of_ble_eq_true rfl) ?_
  have hM := lM1 hS
  have h24 := (iv1 hB).2
  unfold f_chain at hq
  by_cases hx : zin x 0 ((vN g 1 : Int) - 1) = true
  · obtain ⟨w, hw, rfl⟩ := z_chain hx
    rw [ix_nI (by omega)] at hq
    refine x_ald0 (n := 1) dX11_chain_0 rfl ?_
    refine x_getR (n := 4) flX11_10 rfl dX11_chain_1 rfl (lK_L hS) (lP_M hS) ?_
    refine x_getR (n := 7) flX11_55 rfl dX11_chain_4 rfl (mK_M hM) (mP_Ws hM) ?_
    refine x_ild1 (n := 8) dX11_chain_7 rfl ?_
    refine x_cV1 (n := 11) (d' := 1) zcX10_numbered mlX11_142 dX11_chain_8 rfl (mK_Ws hM) (Nat.le_of_ble_eq_true rfl) (Nat.le_of_ble_eq_true rfl) ?_
    refine c_X10_numbered hM hC.2.1 hB hw ?_
    refine x_some ?_
    refine x_ifnull (n := 14) dX11_chain_11 rfl ?_
    refine x_ild2 (n := 15) dX11_chain_14 rfl ?_
    refine x_if_ge (n := 18) (tgt := 21) dX11_chain_15 rfl (by decide) (fun c_15 => ?_) (fun c_15 => ?_)
    · refine x_ald0 (n := 22) dX11_chain_21 rfl ?_
      refine x_getR (n := 25) flX11_10 rfl dX11_chain_22 rfl (lK_L hS) (lP_M hS) ?_
      refine x_getR (n := 28) flX11_55 rfl dX11_chain_25 rfl (mK_M hM) (mP_Ws hM) ?_
      refine x_ild1 (n := 29) dX11_chain_28 rfl ?_
      refine x_ild2 (n := 30) dX11_chain_29 rfl ?_
      rw [if_pos ⟨hx, c_15⟩] at hq
      refine x_cV2 (n := 33) (d' := 4) zcX10_inChain mlX11_310 dX11_chain_30 rfl (mK_Ws hM) (Nat.le_of_ble_eq_true rfl) (Nat.le_of_ble_eq_true rfl) ?_
      refine c_X10_inChain hM hC.2.1 hB hw c_15 (fun I2 h1 => ?_)
      refine x_some ?_
      refine r_iret dX11_chain_33 rfl ?_
      exact hq I2 (off14 h1) (CM14 hC h1 (by omega))
    · refine x_ldc (n := 20) dX11_chain_18 rfl kiX11_54 ?_
      refine r_iret dX11_chain_20 rfl ?_
      rw [if_neg (fun h => c_15 h.2)] at hq; exact hq I offM_refl hC
  · rw [if_neg (fun h => hx h.1)] at hq
    refine x_ald0 (n := 1) dX11_chain_0 rfl ?_
    refine x_getR (n := 4) flX11_10 rfl dX11_chain_1 rfl (lK_L hS) (lP_M hS) ?_
    refine x_getR (n := 7) flX11_55 rfl dX11_chain_4 rfl (mK_M hM) (mP_Ws hM) ?_
    refine x_ild1 (n := 8) dX11_chain_7 rfl ?_
    refine x_cV1 (n := 11) (d' := 1) zcX10_numbered mlX11_142 dX11_chain_8 rfl (mK_Ws hM) (Nat.le_of_ble_eq_true rfl) (Nat.le_of_ble_eq_true rfl) ?_
    refine c_X10_numberedN hM hC.2.1 hB (Bool.eq_false_iff.mpr hx) ?_
    refine x_some ?_
    refine x_ifnullN (n := 18) dX11_chain_11 (by decide) ?_
    refine x_ldc (n := 20) dX11_chain_18 rfl kiX11_54 ?_
    refine r_iret dX11_chain_20 rfl ?_
    exact hq I offM_refl hC
end
