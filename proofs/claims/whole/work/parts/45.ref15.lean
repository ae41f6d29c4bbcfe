def latF (a : Int32) (th : Nat → Option Nat) : Nat → Nat
  | 0 => 0
  | k + 1 => if gBit a k = true then max (latF a th k) ((th k).getD 0) else latF a th k
def thP (a : Int32) (th : Nat → Option Nat) (k : Nat) : Bool := !gBit a k || (th k).isSome
def thStep (g : Nat → Int32) (th : Nat → Option Nat) (w : Nat) : Nat → Option Nat := if (th w).isNone = true ∧ zal (thP (g (120 + 10 * w + 5)) th) 24 = true then va_up th w (some (latF (g (120 + 10 * w + 5)) th 24 + vN g (120 + 10 * w + 6))) else th
def thRow (g : Nat → Int32) (th : Nat → Option Nat) : Nat → (Nat → Option Nat)
  | 0 => th
  | w + 1 => thStep g (thRow g th w) w
def thAll (g : Nat → Int32) : Nat → (Nat → Option Nat)
  | 0 => fun _ => none
  | i + 1 => thRow g (thAll g i) (vN g 1)
def gTh (g : Nat → Int32) : Nat → Option Nat := thAll g (vN g 1)
def f_through (g : Nat → Int32) (x : Int32) : Int32 := if zin x 0 ((vN g 1 : Int) - 1) = true then orNone (oI (gTh g (ix x))) else -1000000001
def offT (I I' : zI) : Prop := ∀ p, p ≠ q_through → I' p = I p
def thOK (I : zI) (th : Nat → Option Nat) : Prop := ∀ j, j < 24 → I q_through j = oI (th j)
def thB (th : Nat → Option Nat) (b : Nat) : Prop := ∀ j v, th j = some v → v ≤ b
section
variable {l : Launch} {G : zG} {Z : zS} {I : zI} {g : Nat → Int32} {Q : Option Value → zS → zI → Prop}
theorem latF_le {a : Int32} {th : Nat → Option Nat} {b : Nat} (hb : thB th b) : ∀ k, latF a th k ≤ b
  | 0 => by unfold latF; omega
  | k + 1 => by
    have := latF_le (a := a) hb k
    unfold latF
    split
    · cases h : th k with
      | none => show max _ 0 ≤ b; omega
      | some v => have := hb k v h; show max _ v ≤ b; omega
    · exact this
theorem zal_mono {p : Nat → Bool} {k n : Nat} (hk : k < n) (h : p k = false) : zal p n = false := by
  cases e : zal p n
  · rfl
  · rw [zal_t.mp e k hk] at h; cases h
theorem lz_X12_findThrough (hZ : ShR Z) {i w k : Nat} {v : Int32} (hk : k ≤ 24) (hx : zX l G mX12_findThrough 1 0 0 145 [some (.ref qR), some (.int (nI i)), some (.int (nI w)), some (.int v), some (.int (nI 0)), none] [] Z (va_up I q_s g) Q) : zX l G mX12_findThrough 1 0 0 66 [some (.ref qR), some (.int (nI i)), some (.int (nI w)), some (.int v), some (.int (nI 0)), some (.int (nI k))] [] Z (va_up I q_s g) Q := by
  refine x_ild5 (n := 68) dX12_findThrough_66 rfl ?_
  refine x_bipush (n := 70) (v := nI 24) dX12_findThrough_68 rfl (by decide) ?_
  refine x_icmpN_ge (n := 73) (tgt := 145) dX12_findThrough_70 rfl (by decide) (by omega) (by omega) (fun c_70 => ?_) (fun c_70 => ?_)
  · exact x_fg5 hx
  · refine x_ild4 (n := 75) dX12_findThrough_73 rfl ?_
    refine x_if_eq (n := 78) (tgt := 145) dX12_findThrough_75 rfl (by decide) (fun c_75 => ?_) (fun c_75 => ?_)
    · exact x_fg5 hx
    · exact absurd (by decide) c_75
theorem l1_X12_findThrough (hZ : ShR Z) {i w b : Nat} {th : Nat → Option Nat} (hb : thB th b) (hb2 : b < 1000000) (ht : thOK I th) (hw : w < 24)
    (hx1 : zal (thP (g (120 + 10 * w + 5)) th) 24 = true → zX l G mX12_findThrough 1 0 0 145 [some (.ref qR), some (.int (nI i)), some (.int (nI w)), some (.int (nI (latF (g (120 + 10 * w + 5)) th 24))), some (.int (nI 1)), none] [] Z (va_up I q_s g) Q)
    (hx0 : ∀ v, zal (thP (g (120 + 10 * w + 5)) th) 24 = false → zX l G mX12_findThrough 1 0 0 145 [some (.ref qR), some (.int (nI i)), some (.int (nI w)), some (.int v), some (.int (nI 0)), none] [] Z (va_up I q_s g) Q) :
    ∀ m k, k ≤ 24 → zal (thP (g (120 + 10 * w + 5)) th) k = true → 24 - k < m → zX l G mX12_findThrough 1 0 0 66 [some (.ref qR), some (.int (nI i)), some (.int (nI w)), some (.int (nI (latF (g (120 + 10 * w + 5)) th k))), some (.int (nI 1)), some (.int (nI k))] [] Z (va_up I q_s g) Q := by
  intro m
  induction m with
  | zero => intro k _ _ h; exact absurd h (by omega)
  | succ m ih =>
    intro k hk hz hm
    by_cases hk24 : k = 24
    · subst hk24
      refine x_ild5 (n := 68) dX12_findThrough_66 rfl ?_
      refine x_bipush (n := 70) (v := nI 24) dX12_findThrough_68 rfl (by decide) ?_
      refine x_icmpN_ge (n := 73) (tgt := 145) dX12_findThrough_70 rfl (by decide) (by omega) (by omega) (fun c_70 => ?_) (fun c_70 => ?_)
      · exact x_fg5 (hx1 hz)
      · exact absurd c_70 (by omega)
    · have hle := latF_le (a := g (120 + 10 * w + 5)) hb k
      by_cases hbit : (g (120 + 10 * w + 5) >>> (nI k &&& 31)) &&& nI 1 = nI 1
      · have hg : gBit (g (120 + 10 * w + 5)) k = true := decide_eq_true hbit
        cases hth : th k with
        | none =>
          have hv : I q_through k = -1 := by rw [ht k (by omega), hth]; rfl
          have hbad : zal (thP (g (120 + 10 * w + 5)) th) 24 = false := zal_mono (k := k) (by omega) (by unfold thP; rw [hg, hth]; rfl)
          refine x_ild5 (n := 68) dX12_findThrough_66 rfl ?_
          refine x_bipush (n := 70) (v := nI 24) dX12_findThrough_68 rfl (by decide) ?_
          refine x_icmpN_ge (n := 73) (tgt := 145) dX12_findThrough_70 rfl (by decide) (by omega) (by omega) (fun c_70 => ?_) (fun c_70 => ?_)
          · exact absurd c_70 (by omega)
          · refine x_ild4 (n := 75) dX12_findThrough_73 rfl ?_
            refine x_if_eq (n := 78) (tgt := 145) dX12_findThrough_75 rfl (by decide) (fun c_75 => ?_) (fun c_75 => ?_)
            · exact absurd c_75 (by decide)
            · refine x_ald0 (n := 79) dX12_findThrough_78 rfl ?_
              refine x_getR (n := 82) flX12_7 rfl dX12_findThrough_79 rfl (rK hZ) (rP_s hZ) ?_
              refine x_ald0 (n := 83) dX12_findThrough_82 rfl ?_
              refine x_ild2 (n := 84) dX12_findThrough_83 rfl ?_
              refine x_cV1 (n := 87) (d' := 0) zcX12_workAt mlX12_93 dX12_findThrough_84 rfl (rK hZ) (Nat.le_of_ble_eq_true rfl) (Nat.le_of_ble_eq_true rfl) ?_
              refine c_X12_workAt ?_
              refine x_some ?_
              refine x_ic5 (n := 88) dX12_findThrough_87 rfl ?_
              refine x_iaddN (n := 89) dX12_findThrough_88 rfl ?_
              refine x_sld (n := 90) dX12_findThrough_89 rfl hZ (by omega) ?_
              refine x_ild5 (n := 92) dX12_findThrough_90 rfl ?_
              refine x_ishr (n := 93) dX12_findThrough_92 rfl ?_
              refine x_ic1 (n := 94) dX12_findThrough_93 rfl ?_
              refine x_iand (n := 95) dX12_findThrough_94 rfl ?_
              refine x_ic1 (n := 96) dX12_findThrough_95 rfl ?_
              refine x_icmp_ne (n := 99) (tgt := 139) dX12_findThrough_96 rfl (by decide) (fun c_96 => ?_) (fun c_96 => ?_)
              · exact absurd hbit c_96
              · refine x_ald0 (n := 100) dX12_findThrough_99 rfl ?_
                refine x_getR (n := 103) flX12_68 rfl dX12_findThrough_100 rfl (rK hZ) (rP_through hZ) ?_
                refine x_ild5 (n := 105) dX12_findThrough_103 rfl ?_
                refine x_old (n := 106) dX12_findThrough_105 rfl (rA_through hZ) (by decide) (Nat.le_of_ble_eq_true rfl) (by omega) ?_
                rw [hv]
                refine x_if_lt (n := 109) (tgt := 113) dX12_findThrough_106 rfl (by decide) (fun c_106 => ?_) (fun c_106 => ?_)
                · refine x_ic0 (n := 114) dX12_findThrough_113 rfl ?_
                  refine x_ist4 (n := 116) dX12_findThrough_114 rfl (by decide) rfl ?_
                  refine x_ald0 (n := 117) dX12_findThrough_116 rfl ?_
                  refine x_getR (n := 120) flX12_68 rfl dX12_findThrough_117 rfl (rK hZ) (rP_through hZ) ?_
                  refine x_ild5 (n := 122) dX12_findThrough_120 rfl ?_
                  refine x_old (n := 123) dX12_findThrough_122 rfl (rA_through hZ) (by decide) (Nat.le_of_ble_eq_true rfl) (by omega) ?_
                  rw [hv]
                  refine x_ild3 (n := 124) dX12_findThrough_123 rfl ?_
                  refine x_icmp_le (n := 127) (tgt := 137) dX12_findThrough_124 rfl (by decide) (fun c_124 => ?_) (fun c_124 => ?_)
                  · refine x_ild3 (n := 138) dX12_findThrough_137 rfl ?_
                    refine x_ist3 (n := 139) dX12_findThrough_138 rfl (by decide) rfl ?_
                    refine x_iincN5 (n := 142) (k := 1) dX12_findThrough_139 rfl (by decide) rfl ?_
                    refine x_goto (n := 66) dX12_findThrough_142 (by decide) ?_
                    exact lz_X12_findThrough hZ (by omega) (hx0 _ hbad)
                  · exact absurd (Int32.le_of_lt (Int32.lt_of_lt_of_le (by decide) (nI_pos' (by omega)))) c_124
                · exact absurd (by decide) c_106
        | some v =>
          have hv : I q_through k = nI v := by rw [ht k (by omega), hth]; rfl
          have hvb := hb k v hth
          have hz1 : zal (thP (g (120 + 10 * w + 5)) th) (k + 1) = true := by unfold zal; rw [hz]; unfold thP; rw [hth, hg]; rfl
          have el : latF (g (120 + 10 * w + 5)) th (k + 1) = max (latF (g (120 + 10 * w + 5)) th k) v := by
            show (if gBit (g (120 + 10 * w + 5)) k = true then _ else _) = _
            rw [if_pos hg, hth]; rfl
          have ihk := ih (k + 1) (by omega) hz1 (by omega)
          rw [el] at ihk
          refine x_ild5 (n := 68) dX12_findThrough_66 rfl ?_
          refine x_bipush (n := 70) (v := nI 24) dX12_findThrough_68 rfl (by decide) ?_
          refine x_icmpN_ge (n := 73) (tgt := 145) dX12_findThrough_70 rfl (by decide) (by omega) (by omega) (fun c_70 => ?_) (fun c_70 => ?_)
          · exact absurd c_70 (by omega)
          · refine x_ild4 (n := 75) dX12_findThrough_73 rfl ?_
            refine x_if_eq (n := 78) (tgt := 145) dX12_findThrough_75 rfl (by decide) (fun c_75 => ?_) (fun c_75 => ?_)
            · exact absurd c_75 (by decide)
            · refine x_ald0 (n := 79) dX12_findThrough_78 rfl ?_
              refine x_getR (n := 82) flX12_7 rfl dX12_findThrough_79 rfl (rK hZ) (rP_s hZ) ?_
              refine x_ald0 (n := 83) dX12_findThrough_82 rfl ?_
              refine x_ild2 (n := 84) dX12_findThrough_83 rfl ?_
              refine x_cV1 (n := 87) (d' := 0) zcX12_workAt mlX12_93 dX12_findThrough_84 rfl (rK hZ) (Nat.le_of_ble_eq_true rfl) (Nat.le_of_ble_eq_true rfl) ?_
              refine c_X12_workAt ?_
              refine x_some ?_
              refine x_ic5 (n := 88) dX12_findThrough_87 rfl ?_
              refine x_iaddN (n := 89) dX12_findThrough_88 rfl ?_
              refine x_sld (n := 90) dX12_findThrough_89 rfl hZ (by omega) ?_
              refine x_ild5 (n := 92) dX12_findThrough_90 rfl ?_
              refine x_ishr (n := 93) dX12_findThrough_92 rfl ?_
              refine x_ic1 (n := 94) dX12_findThrough_93 rfl ?_
              refine x_iand (n := 95) dX12_findThrough_94 rfl ?_
              refine x_ic1 (n := 96) dX12_findThrough_95 rfl ?_
              refine x_icmp_ne (n := 99) (tgt := 139) dX12_findThrough_96 rfl (by decide) (fun c_96 => ?_) (fun c_96 => ?_)
              · exact absurd hbit c_96
              · refine x_ald0 (n := 100) dX12_findThrough_99 rfl ?_
                refine x_getR (n := 103) flX12_68 rfl dX12_findThrough_100 rfl (rK hZ) (rP_through hZ) ?_
                refine x_ild5 (n := 105) dX12_findThrough_103 rfl ?_
                refine x_old (n := 106) dX12_findThrough_105 rfl (rA_through hZ) (by decide) (Nat.le_of_ble_eq_true rfl) (by omega) ?_
                rw [hv]
                refine x_if_lt (n := 109) (tgt := 113) dX12_findThrough_106 rfl (by decide) (fun c_106 => ?_) (fun c_106 => ?_)
                · exact absurd c_106 (nI_pos (by omega))
                · refine x_ic1 (n := 110) dX12_findThrough_109 rfl ?_
                  refine x_goto (n := 114) dX12_findThrough_110 (by decide) ?_
                  refine x_ist4 (n := 116) dX12_findThrough_114 rfl (by decide) rfl ?_
                  refine x_ald0 (n := 117) dX12_findThrough_116 rfl ?_
                  refine x_getR (n := 120) flX12_68 rfl dX12_findThrough_117 rfl (rK hZ) (rP_through hZ) ?_
                  refine x_ild5 (n := 122) dX12_findThrough_120 rfl ?_
                  refine x_old (n := 123) dX12_findThrough_122 rfl (rA_through hZ) (by decide) (Nat.le_of_ble_eq_true rfl) (by omega) ?_
                  rw [hv]
                  refine x_ild3 (n := 124) dX12_findThrough_123 rfl ?_
                  refine x_icmpN_le (n := 127) (tgt := 137) dX12_findThrough_124 rfl (by decide) (by omega) (by omega) (fun c_124 => ?_) (fun c_124 => ?_)
                  · refine x_ild3 (n := 138) dX12_findThrough_137 rfl ?_
                    refine x_ist3 (n := 139) dX12_findThrough_138 rfl (by decide) rfl ?_
                    refine x_iincN5 (n := 142) (k := 1) dX12_findThrough_139 rfl (by decide) rfl ?_
                    refine x_goto (n := 66) dX12_findThrough_142 (by decide) ?_
                    first | (rw [Nat.max_eq_left (by omega)] at ihk; exact ihk) | (rw [Nat.max_eq_right (by omega)] at ihk; exact ihk)
                  · refine x_ald0 (n := 128) dX12_findThrough_127 rfl ?_
                    refine x_getR (n := 131) flX12_68 rfl dX12_findThrough_128 rfl (rK hZ) (rP_through hZ) ?_
                    refine x_ild5 (n := 133) dX12_findThrough_131 rfl ?_
                    refine x_old (n := 134) dX12_findThrough_133 rfl (rA_through hZ) (by decide) (Nat.le_of_ble_eq_true rfl) (by omega) ?_
                    rw [hv]
                    refine x_goto (n := 138) dX12_findThrough_134 (by decide) ?_
                    refine x_ist3 (n := 139) dX12_findThrough_138 rfl (by decide) rfl ?_
                    refine x_iincN5 (n := 142) (k := 1) dX12_findThrough_139 rfl (by decide) rfl ?_
                    refine x_goto (n := 66) dX12_findThrough_142 (by decide) ?_
                    first | (rw [Nat.max_eq_left (by omega)] at ihk; exact ihk) | (rw [Nat.max_eq_right (by omega)] at ihk; exact ihk)
      · have hg : gBit (g (120 + 10 * w + 5)) k = false := decide_eq_false hbit
        have hz1 : zal (thP (g (120 + 10 * w + 5)) th) (k + 1) = true := by unfold zal; rw [hz]; unfold thP; rw [hg]; rfl
        have el : latF (g (120 + 10 * w + 5)) th (k + 1) = latF (g (120 + 10 * w + 5)) th k := by
          show (if gBit (g (120 + 10 * w + 5)) k = true then _ else _) = _
          rw [if_neg (by rw [hg]; decide)]
        have ihk := ih (k + 1) (by omega) hz1 (by omega)
        rw [el] at ihk
        refine x_ild5 (n := 68) dX12_findThrough_66 rfl ?_
        refine x_bipush (n := 70) (v := nI 24) dX12_findThrough_68 rfl (by decide) ?_
        refine x_icmpN_ge (n := 73) (tgt := 145) dX12_findThrough_70 rfl (by decide) (by omega) (by omega) (fun c_70 => ?_) (fun c_70 => ?_)
        · exact absurd c_70 (by omega)
        · refine x_ild4 (n := 75) dX12_findThrough_73 rfl ?_
          refine x_if_eq (n := 78) (tgt := 145) dX12_findThrough_75 rfl (by decide) (fun c_75 => ?_) (fun c_75 => ?_)
          · exact absurd c_75 (by decide)
          · refine x_ald0 (n := 79) dX12_findThrough_78 rfl ?_
            refine x_getR (n := 82) flX12_7 rfl dX12_findThrough_79 rfl (rK hZ) (rP_s hZ) ?_
            refine x_ald0 (n := 83) dX12_findThrough_82 rfl ?_
            refine x_ild2 (n := 84) dX12_findThrough_83 rfl ?_
            refine x_cV1 (n := 87) (d' := 0) zcX12_workAt mlX12_93 dX12_findThrough_84 rfl (rK hZ) (Nat.le_of_ble_eq_true rfl) (Nat.le_of_ble_eq_true rfl) ?_
            refine c_X12_workAt ?_
            refine x_some ?_
            refine x_ic5 (n := 88) dX12_findThrough_87 rfl ?_
            refine x_iaddN (n := 89) dX12_findThrough_88 rfl ?_
            refine x_sld (n := 90) dX12_findThrough_89 rfl hZ (by omega) ?_
            refine x_ild5 (n := 92) dX12_findThrough_90 rfl ?_
            refine x_ishr (n := 93) dX12_findThrough_92 rfl ?_
            refine x_ic1 (n := 94) dX12_findThrough_93 rfl ?_
            refine x_iand (n := 95) dX12_findThrough_94 rfl ?_
            refine x_ic1 (n := 96) dX12_findThrough_95 rfl ?_
            refine x_icmp_ne (n := 99) (tgt := 139) dX12_findThrough_96 rfl (by decide) (fun c_96 => ?_) (fun c_96 => ?_)
            · refine x_iincN5 (n := 142) (k := 1) dX12_findThrough_139 rfl (by decide) rfl ?_
              refine x_goto (n := 66) dX12_findThrough_142 (by decide) ?_
              exact ihk
            · exact absurd c_96 hbit
theorem thStep_B (hB : InvB g) {th : Nat → Option Nat} {b w : Nat} (hw : w < vN g 1) (hb : thB th b) : thB (thStep g th w) (b + 99) := by
  unfold thStep
  split
  · intro j v h
    by_cases e : j = w
    · subst e
      rw [va_up_same] at h
      cases h
      have := latF_le (a := g (120 + 10 * j + 5)) hb 24
      have h6 := rg_le (ivW hB hw).2.2.2.2.2.2.1 (by omega)
      omega
    · rw [va_up_off e] at h
      have := hb j v h
      omega
  · intro j v h; have := hb j v h; omega
theorem thRow_B (hB : InvB g) {th : Nat → Option Nat} {b : Nat} (hb : thB th b) : ∀ w, w ≤ vN g 1 → thB (thRow g th w) (b + 99 * w)
  | 0, _ => hb
  | w + 1, h => by
    have := thStep_B hB (show w < vN g 1 by omega) (thRow_B hB hb w (by omega))
    exact this
theorem thAll_B (hB : InvB g) : ∀ i, thB (thAll g i) (99 * vN g 1 * i)
  | 0 => fun j v h => by cases h
  | i + 1 => by
    have := thRow_B hB (thAll_B hB i) (vN g 1) (by omega)
    rw [show 99 * vN g 1 * (i + 1) = 99 * vN g 1 * i + 99 * vN g 1 from Nat.mul_succ _ _]
    exact this
theorem l2_X12_findThrough (hZ : ShR Z) (hB : InvB g) {i b : Nat} {th : Nat → Option Nat} (hb : thB th b) (hb2 : b < 100000) (hx : ∀ I' : zI, offT I I' → thOK I' (thRow g th (vN g 1)) → zX l G mX12_findThrough 1 0 0 186 [some (.ref qR), some (.int (nI i)), none, none, none, none] [] Z (va_up I' q_s g) Q) : ∀ m w (I' : zI), offT I I' → thOK I' (thRow g th w) → w ≤ vN g 1 → vN g 1 - w < m → zX l G mX12_findThrough 1 0 0 35 [some (.ref qR), some (.int (nI i)), some (.int (nI w)), none, none, none] [] Z (va_up I' q_s g) Q := by
  have h1 := iv1 hB
  intro m
  induction m with
  | zero => intro w I' _ _ _ h; exact absurd h (by omega)
  | succ m ih =>
    intro w I' hI ht hw hm
    by_cases hwn : w = vN g 1
    · subst hwn
      refine x_ild2 (n := 36) dX12_findThrough_35 rfl ?_
      refine x_ald0 (n := 37) dX12_findThrough_36 rfl ?_
      refine x_getR (n := 40) flX12_7 rfl dX12_findThrough_37 rfl (rK hZ) (rP_s hZ) ?_
      refine x_ic1 (n := 41) dX12_findThrough_40 rfl ?_
      refine x_sld (n := 42) dX12_findThrough_41 rfl hZ (by omega) ?_
      rw [h1.1]
      refine x_icmpN_ge (n := 45) (tgt := 186) dX12_findThrough_42 rfl (by decide) (by omega) (by omega) (fun c_42 => ?_) (fun c_42 => ?_)
      · exact x_fg2 (hx I' hI ht)
      · exact absurd c_42 (by omega)
    · have hw2 : w < vN g 1 := by omega
      have hbw := thRow_B hB hb w hw
      obtain ⟨t, et⟩ : ∃ t, t = thRow g th w := ⟨_, rfl⟩
      rw [← et] at ht hbw
      have er : thRow g th (w + 1) = thStep g t w := by rw [et]; rfl
      have h6 := (ivW hB hw2).2.2.2.2.2.2.1
      have e6 := rg_nI h6 (by omega) (by omega)
      have nx : ∀ (v : Int32), v = oI (thStep g t w w) → zX l G mX12_findThrough 1 0 0 35 [some (.ref qR), some (.int (nI i)), some (.int (nI (w + 1))), none, none, none] [] Z (va_up (va_up I' q_through (upd (I' q_through) w v)) q_s g) Q := by
        intro v hv
        refine ih (w + 1) _ (fun p hp => by rw [va_up_off hp]; exact hI p hp) (fun j hj => ?_) (by omega) (by omega)
        rw [va_up_same, er]
        by_cases e : j = w
        · subst e; rw [upd_same]; exact hv
        · rw [upd_off e, ht j hj]
          unfold thStep
          split
          · rw [va_up_off e]
          · rfl
      have bad : ∀ (v : Int32), ¬ ((t w).isNone = true ∧ zal (thP (g (120 + 10 * w + 5)) t) 24 = true) → zX l G mX12_findThrough 1 0 0 145 [some (.ref qR), some (.int (nI i)), some (.int (nI w)), some (.int v), some (.int (nI 0)), none] [] Z (va_up I' q_s g) Q := by
        intro v hn
        have hnx := nx (I' q_through w) (by rw [ht w (by omega)]; unfold thStep; rw [if_neg hn])
        refine x_ald0 (n := 146) dX12_findThrough_145 rfl ?_
        refine x_getR (n := 149) flX12_68 rfl dX12_findThrough_146 rfl (rK hZ) (rP_through hZ) ?_
        refine x_ild2 (n := 150) dX12_findThrough_149 rfl ?_
        refine x_ild4 (n := 152) dX12_findThrough_150 rfl ?_
        refine x_if_eq (n := 155) (tgt := 173) dX12_findThrough_152 rfl (by decide) (fun c_152 => ?_) (fun c_152 => ?_)
        · refine x_ald0 (n := 174) dX12_findThrough_173 rfl ?_
          refine x_getR (n := 177) flX12_68 rfl dX12_findThrough_174 rfl (rK hZ) (rP_through hZ) ?_
          refine x_ild2 (n := 178) dX12_findThrough_177 rfl ?_
          refine x_old (n := 179) dX12_findThrough_178 rfl (rA_through hZ) (by decide) (Nat.le_of_ble_eq_true rfl) (by omega) ?_
          refine x_ost (n := 180) dX12_findThrough_179 rfl (rA_through hZ) (by decide) (Nat.le_of_ble_eq_true rfl) (by omega) ?_
          refine x_iincN2 (n := 183) (k := 1) dX12_findThrough_180 rfl (by decide) rfl ?_
          refine x_goto (n := 35) dX12_findThrough_183 (by decide) ?_
          exact x_fg3 (x_fg4 hnx)
        · exact absurd (by decide) c_152
      have good : t w = none → zal (thP (g (120 + 10 * w + 5)) t) 24 = true → zX l G mX12_findThrough 1 0 0 145 [some (.ref qR), some (.int (nI i)), some (.int (nI w)), some (.int (nI (latF (g (120 + 10 * w + 5)) t 24))), some (.int (nI 1)), none] [] Z (va_up I' q_s g) Q := by
        intro htw hz
        have hnx := nx (nI (latF (g (120 + 10 * w + 5)) t 24 + vN g (120 + 10 * w + 6))) (by unfold thStep; rw [if_pos ⟨by rw [htw]; rfl, hz⟩, va_up_same]; rfl)
        refine x_ald0 (n := 146) dX12_findThrough_145 rfl ?_
        refine x_getR (n := 149) flX12_68 rfl dX12_findThrough_146 rfl (rK hZ) (rP_through hZ) ?_
        refine x_ild2 (n := 150) dX12_findThrough_149 rfl ?_
        refine x_ild4 (n := 152) dX12_findThrough_150 rfl ?_
        refine x_if_eq (n := 155) (tgt := 173) dX12_findThrough_152 rfl (by decide) (fun c_152 => ?_) (fun c_152 => ?_)
        · exact absurd c_152 (by decide)
        · refine x_ild3 (n := 156) dX12_findThrough_155 rfl ?_
          refine x_ald0 (n := 157) dX12_findThrough_156 rfl ?_
          refine x_getR (n := 160) flX12_7 rfl dX12_findThrough_157 rfl (rK hZ) (rP_s hZ) ?_
          refine x_ald0 (n := 161) dX12_findThrough_160 rfl ?_
          refine x_ild2 (n := 162) dX12_findThrough_161 rfl ?_
          refine x_cV1 (n := 165) (d' := 0) zcX12_workAt mlX12_93 dX12_findThrough_162 rfl (rK hZ) (Nat.le_of_ble_eq_true rfl) (Nat.le_of_ble_eq_true rfl) ?_
          refine c_X12_workAt ?_
          refine x_some ?_
          refine x_bipush (n := 167) (v := nI 6) dX12_findThrough_165 rfl (by decide) ?_
          refine x_iaddN (n := 168) dX12_findThrough_167 rfl ?_
          refine x_sld (n := 169) dX12_findThrough_168 rfl hZ (by omega) ?_
          rw [e6]
          refine x_iaddN (n := 170) dX12_findThrough_169 rfl ?_
          refine x_goto (n := 179) dX12_findThrough_170 (by decide) ?_
          refine x_ost (n := 180) dX12_findThrough_179 rfl (rA_through hZ) (by decide) (Nat.le_of_ble_eq_true rfl) (by omega) ?_
          refine x_iincN2 (n := 183) (k := 1) dX12_findThrough_180 rfl (by decide) rfl ?_
          refine x_goto (n := 35) dX12_findThrough_183 (by decide) ?_
          exact x_fg3 (x_fg4 hnx)
      cases htw : t w with
      | some v =>
        have hv : I' q_through w = nI v := by rw [ht w (by omega), htw]; rfl
        have hvb := hbw w v htw
        refine x_ild2 (n := 36) dX12_findThrough_35 rfl ?_
        refine x_ald0 (n := 37) dX12_findThrough_36 rfl ?_
        refine x_getR (n := 40) flX12_7 rfl dX12_findThrough_37 rfl (rK hZ) (rP_s hZ) ?_
        refine x_ic1 (n := 41) dX12_findThrough_40 rfl ?_
        refine x_sld (n := 42) dX12_findThrough_41 rfl hZ (by omega) ?_
        rw [h1.1]
        refine x_icmpN_ge (n := 45) (tgt := 186) dX12_findThrough_42 rfl (by decide) (by omega) (by omega) (fun c_42 => ?_) (fun c_42 => ?_)
        · exact absurd c_42 (by omega)
        · refine x_ic0 (n := 46) dX12_findThrough_45 rfl ?_
          refine x_ist3 (n := 47) dX12_findThrough_46 rfl (by decide) rfl ?_
          refine x_ald0 (n := 48) dX12_findThrough_47 rfl ?_
          refine x_getR (n := 51) flX12_68 rfl dX12_findThrough_48 rfl (rK hZ) (rP_through hZ) ?_
          refine x_ild2 (n := 52) dX12_findThrough_51 rfl ?_
          refine x_old (n := 53) dX12_findThrough_52 rfl (rA_through hZ) (by decide) (Nat.le_of_ble_eq_true rfl) (by omega) ?_
          rw [hv]
          refine x_if_ge (n := 56) (tgt := 60) dX12_findThrough_53 rfl (by decide) (fun c_53 => ?_) (fun c_53 => ?_)
          · refine x_ic0 (n := 61) dX12_findThrough_60 rfl ?_
            refine x_ist4 (n := 63) dX12_findThrough_61 rfl (by decide) rfl ?_
            refine x_ic0 (n := 64) dX12_findThrough_63 rfl ?_
            refine x_ist5 (n := 66) dX12_findThrough_64 rfl (by decide) rfl ?_
            exact lz_X12_findThrough hZ (by omega) (bad _ (by rw [htw]; simp))
          · exact absurd (nI_pos' (by omega)) c_53
      | none =>
        have hv : I' q_through w = -1 := by rw [ht w (by omega), htw]; rfl
        refine x_ild2 (n := 36) dX12_findThrough_35 rfl ?_
        refine x_ald0 (n := 37) dX12_findThrough_36 rfl ?_
        refine x_getR (n := 40) flX12_7 rfl dX12_findThrough_37 rfl (rK hZ) (rP_s hZ) ?_
        refine x_ic1 (n := 41) dX12_findThrough_40 rfl ?_
        refine x_sld (n := 42) dX12_findThrough_41 rfl hZ (by omega) ?_
        rw [h1.1]
        refine x_icmpN_ge (n := 45) (tgt := 186) dX12_findThrough_42 rfl (by decide) (by omega) (by omega) (fun c_42 => ?_) (fun c_42 => ?_)
        · exact absurd c_42 (by omega)
        · refine x_ic0 (n := 46) dX12_findThrough_45 rfl ?_
          refine x_ist3 (n := 47) dX12_findThrough_46 rfl (by decide) rfl ?_
          refine x_ald0 (n := 48) dX12_findThrough_47 rfl ?_
          refine x_getR (n := 51) flX12_68 rfl dX12_findThrough_48 rfl (rK hZ) (rP_through hZ) ?_
          refine x_ild2 (n := 52) dX12_findThrough_51 rfl ?_
          refine x_old (n := 53) dX12_findThrough_52 rfl (rA_through hZ) (by decide) (Nat.le_of_ble_eq_true rfl) (by omega) ?_
          rw [hv]
          refine x_if_ge (n := 56) (tgt := 60) dX12_findThrough_53 rfl (by decide) (fun c_53 => ?_) (fun c_53 => ?_)
          · exact absurd c_53 (by decide)
          · refine x_ic1 (n := 57) dX12_findThrough_56 rfl ?_
            refine x_goto (n := 61) dX12_findThrough_57 (by decide) ?_
            refine x_ist4 (n := 63) dX12_findThrough_61 rfl (by decide) rfl ?_
            refine x_ic0 (n := 64) dX12_findThrough_63 rfl ?_
            refine x_ist5 (n := 66) dX12_findThrough_64 rfl (by decide) rfl ?_
            refine l1_X12_findThrough hZ hbw (by omega) ht (by omega) (fun hz => ?_) (fun v hz => bad v (by rw [hz]; simp)) 25 0 (by omega) rfl (by omega)
            exact good htw hz
theorem l3_X12_findThrough (hZ : ShR Z) (hB : InvB g) (hx : ∀ I' : zI, offT I I' → thOK I' (gTh g) → Q none Z (va_up I' q_s g)) : ∀ m i (I' : zI), offT I I' → thOK I' (thAll g i) → i ≤ vN g 1 → vN g 1 - i < m → zX l G mX12_findThrough 1 0 0 23 [some (.ref qR), some (.int (nI i)), none, none, none, none] [] Z (va_up I' q_s g) Q := by
  have h1 := iv1 hB
  intro m
  induction m with
  | zero => intro i I' _ _ _ h; exact absurd h (by omega)
  | succ m ih =>
    intro i I' hI ht hi hm
    have hb := thAll_B hB i
    have hbb : 99 * vN g 1 * i ≤ 99 * 24 * 24 := Nat.mul_le_mul (Nat.mul_le_mul_left _ h1.2) (by omega)
    refine x_ild1 (n := 24) dX12_findThrough_23 rfl ?_
    refine x_ald0 (n := 25) dX12_findThrough_24 rfl ?_
    refine x_getR (n := 28) flX12_7 rfl dX12_findThrough_25 rfl (rK hZ) (rP_s hZ) ?_
    refine x_ic1 (n := 29) dX12_findThrough_28 rfl ?_
    refine x_sld (n := 30) dX12_findThrough_29 rfl hZ (by omega) ?_
    rw [h1.1]
    refine x_icmpN_ge (n := 33) (tgt := 192) dX12_findThrough_30 rfl (by decide) (by omega) (by omega) (fun c_30 => ?_) (fun c_30 => ?_)
    · refine r_vret dX12_findThrough_192 rfl ?_
      have e : i = vN g 1 := by omega
      subst e
      exact hx I' hI ht
    · refine x_ic0 (n := 34) dX12_findThrough_33 rfl ?_
      refine x_ist2 (n := 35) dX12_findThrough_34 rfl (by decide) rfl ?_
      refine l2_X12_findThrough (I := I') hZ hB hb (by omega) (fun I2 hI2 ht2 => ?_) (vN g 1 + 1) 0 I' (fun _ _ => rfl) ht (by omega) (by omega)
      refine x_iincN1 (n := 189) (k := 1) dX12_findThrough_186 rfl (by decide) rfl ?_
      refine x_goto (n := 23) dX12_findThrough_189 (by decide) ?_
      exact ih (i + 1) I2 (fun p hp => (hI2 p hp).trans (hI p hp)) ht2 (by omega) (by omega)
theorem l0_X12_findThrough (hZ : ShR Z) (hx : ∀ I' : zI, offT I I' → thOK I' (fun _ => none) → zX l G mX12_findThrough 1 0 0 21 [some (.ref qR), none, none, none, none, none] [] Z (va_up I' q_s g) Q) : ∀ m k (I' : zI), offT I I' → (∀ j, j < k → I' q_through j = -1) → k ≤ 24 → 24 - k < m → zX l G mX12_findThrough 1 0 0 2 [some (.ref qR), some (.int (nI k)), none, none, none, none] [] Z (va_up I' q_s g) Q := by
  intro m
  induction m with
  | zero => intro k I' _ _ _ h; exact absurd h (by omega)
  | succ m ih =>
    intro k I' hI ht hk hm
    refine x_ild1 (n := 3) dX12_findThrough_2 rfl ?_
    refine x_bipush (n := 5) (v := nI 24) dX12_findThrough_3 rfl (by decide) ?_
    refine x_icmpN_ge (n := 8) (tgt := 21) dX12_findThrough_5 rfl (by decide) (by omega) (by omega) (fun c_5 => ?_) (fun c_5 => ?_)
    · exact x_fg1 (hx I' hI (fun j hj => ht j (by omega)))
    · refine x_ald0 (n := 9) dX12_findThrough_8 rfl ?_
      refine x_getR (n := 12) flX12_68 rfl dX12_findThrough_9 rfl (rK hZ) (rP_through hZ) ?_
      refine x_ild1 (n := 13) dX12_findThrough_12 rfl ?_
      refine x_icm1 (n := 14) dX12_findThrough_13 rfl ?_
      refine x_ost (n := 15) dX12_findThrough_14 rfl (rA_through hZ) (by decide) (Nat.le_of_ble_eq_true rfl) (by omega) ?_
      refine x_iincN1 (n := 18) (k := 1) dX12_findThrough_15 rfl (by decide) rfl ?_
      refine x_goto (n := 2) dX12_findThrough_18 (by decide) ?_
      refine ih (k + 1) _ (fun p hp => by rw [va_up_off hp]; exact hI p hp) (fun j hj => ?_) (by omega) (by omega)
      rw [va_up_same]
      by_cases e : j = k
      · subst e; exact upd_same
      · rw [upd_off e]; exact ht j (by omega)
theorem c_X12_findThrough (hZ : ShR Z) (hB : InvB g) (hq : ∀ I' : zI, offT I I' → thOK I' (gTh g) → Q none Z (va_up I' q_s g)) : zM l G mX12_findThrough 1 0 0 [.ref qR] Z (va_up I q_s g) Q := by
  refine x_entry [some (.ref qR), none, none, none, none, none] 5 rfl rfl (Nat.le_of_ble_eq_true rfl) ?_
  refine x_ic0 (n := 1) dX12_findThrough_0 rfl ?_
  refine x_ist1 (n := 2) dX12_findThrough_1 rfl (by decide) rfl ?_
  refine l0_X12_findThrough hZ (fun I' hI ht => ?_) 25 0 I (fun _ _ => rfl) (fun j hj => absurd hj (by omega)) (by omega) (by omega)
  refine x_ic0 (n := 22) dX12_findThrough_21 rfl ?_
  refine x_ist1 (n := 23) dX12_findThrough_22 rfl (by decide) rfl ?_
  exact l3_X12_findThrough hZ hB hq (vN g 1 + 1) 0 I' hI ht (by omega) (by omega)
theorem c_X12_through (hZ : ShR Z) (hB : InvB g) {x : Int32} (hq : ∀ I' : zI, offT I I' → Q (some (.int (f_through g x))) Z (va_up I' q_s g)) : zM l G mX12_through 2 0 0 [.ref qR, .int x] Z (va_up I q_s g) Q := by
  have h1 := iv1 hB
  refine x_entry [some (.ref qR), some (.int x)] 0 rfl rfl (Nat.le_of_ble_eq_true rfl) ?_
  unfold f_through at hq
  refine x_ald0 (n := 1) dX12_through_0 rfl ?_
  refine x_ild1 (n := 2) dX12_through_1 rfl ?_
  refine x_cV1 (n := 5) (d' := 1) zcX12_isWork mlX12_156 dX12_through_2 rfl (rK hZ) (Nat.le_of_ble_eq_true rfl) (Nat.le_of_ble_eq_true rfl) ?_
  refine c_X12_isWork hZ h1.1 (by omega) ?_
  refine x_some ?_
  refine x_zif_ne (n := 8) (tgt := 11) dX12_through_5 rfl (by decide) (fun c_5 => ?_) (fun c_5 => ?_)
  · rw [if_pos c_5] at hq
    obtain ⟨c, hc, rfl⟩ := z_chain c_5
    rw [ix_nI (by omega)] at hq
    refine x_ald0 (n := 12) dX12_through_11 rfl ?_
    refine x_cV0 (n := 15) (d' := 1) zcX12_findThrough mlX12_340 dX12_through_12 rfl (rK hZ) (Nat.le_of_ble_eq_true rfl) (Nat.le_of_ble_eq_true rfl) ?_
    refine c_X12_findThrough hZ hB (fun I' hI ht => ?_)
    refine x_none ?_
    refine x_ald0 (n := 16) dX12_through_15 rfl ?_
    refine x_getR (n := 19) flX12_68 rfl dX12_through_16 rfl (rK hZ) (rP_through hZ) ?_
    refine x_ild1 (n := 20) dX12_through_19 rfl ?_
    refine x_old (n := 21) dX12_through_20 rfl (rA_through hZ) (by decide) (Nat.le_of_ble_eq_true rfl) (by omega) ?_
    rw [ht c (by omega)]
    refine x_cS1 (n := 24) (d' := 0) zcX12_orNone mlX12_159 dX12_through_21 rfl (Nat.le_of_ble_eq_true rfl) (Nat.le_of_ble_eq_true rfl) ?_
    refine c_X12_orNone ?_
    refine x_some ?_
    refine r_iret dX12_through_24 rfl ?_
    exact hq I' hI
  · rw [if_neg (by grind)] at hq
    refine x_ldc (n := 10) dX12_through_8 rfl kiX12_100 ?_
    refine r_iret dX12_through_10 rfl ?_
    exact hq I (fun _ _ => rfl)
end
