def bstF (a : Int32) (th : Nat → Option Nat) : Nat → Option Nat
  | 0 => none
  | k + 1 => if gBit a k = true ∧ (∀ b, bstF a th k = some b → oI (th b) < oI (th k)) then some k else bstF a th k
def chN (g : Nat → Int32) : Nat → Option Nat → Option Nat
  | 0, o => o
  | i + 1, o => match o with
    | none => none
    | some w => chN g i (bstF (g (120 + 10 * w + 5)) (gTh g) (vN g 1))
def f_chain (g : Nat → Int32) (x i : Int32) : Int32 := if zin x 0 ((vN g 1 : Int) - 1) = true ∧ 0 ≤ i then orNone (oI (chN g (ix i) (if (gTh g (ix x)).isNone = true then none else some (ix x)))) else -1000000001
theorem bstF_lt {a : Int32} {th : Nat → Option Nat} : ∀ {n t : Nat}, bstF a th n = some t → t < n
  | 0, t, h => by cases h
  | n + 1, t, h => by
    unfold bstF at h
    split at h
    · cases h; omega
    · have := bstF_lt h; omega
section
variable {l : Launch} {G : zG} {Z : zS} {I : zI} {g : Nat → Int32} {Q : Option Value → zS → zI → Prop}
theorem l1_X12_chain (hZ : ShR Z) (hB : InvB g) {x i : Int32} {w nn : Nat} {th : Nat → Option Nat} (ht : thOK I th) (hw : w < vN g 1)
    (hx : zX l G mX12_chain 2 0 0 134 [some (.ref qR), some (.int x), some (.int i), some (.int (nI w)), some (.int (nI nn)), some (.int (oI (bstF (g (120 + 10 * w + 5)) th (vN g 1)))), none, none] [] Z (va_up I q_s g) Q) :
    ∀ m k, k ≤ vN g 1 → vN g 1 - k < m → zX l G mX12_chain 2 0 0 53 [some (.ref qR), some (.int x), some (.int i), some (.int (nI w)), some (.int (nI nn)), some (.int (oI (bstF (g (120 + 10 * w + 5)) th k))), some (.int (nI k)), none] [] Z (va_up I q_s g) Q := by
  have h1 := iv1 hB
  intro m
  induction m with
  | zero => intro k _ h; exact absurd h (by omega)
  | succ m ih =>
    intro k hk hm
    by_cases hkn : k = vN g 1
    · subst hkn
      refine x_ild6 (n := 55) dX12_chain_53 rfl ?_
      refine x_ald0 (n := 56) dX12_chain_55 rfl ?_
      refine x_getR (n := 59) flX12_7 rfl dX12_chain_56 rfl (rK hZ) (rP_s hZ) ?_
      refine x_ic1 (n := 60) dX12_chain_59 rfl ?_
      refine x_sld (n := 61) dX12_chain_60 rfl hZ (by omega) ?_
      rw [h1.1]
      refine x_icmpN_ge (n := 64) (tgt := 134) dX12_chain_61 rfl (by decide) (by omega) (by omega) (fun c_61 => ?_) (fun c_61 => ?_)
      · exact x_fg6 hx
      · exact absurd c_61 (by omega)
    · have step : ∀ (o : Option Nat), (if gBit (g (120 + 10 * w + 5)) k = true ∧ (∀ b, bstF (g (120 + 10 * w + 5)) th k = some b → oI (th b) < oI (th k)) then some k else bstF (g (120 + 10 * w + 5)) th k) = o → zX l G mX12_chain 2 0 0 53 [some (.ref qR), some (.int x), some (.int i), some (.int (nI w)), some (.int (nI nn)), some (.int (oI o)), some (.int (nI (k + 1))), none] [] Z (va_up I q_s g) Q := by
        intro o ho
        have := ih (k + 1) (by omega) (by omega)
        rw [show bstF (g (120 + 10 * w + 5)) th (k + 1) = o from ho] at this
        exact this
      have hgt : (g (120 + 10 * w + 5) >>> (nI k &&& 31)) &&& nI 1 = nI 1 → gBit (g (120 + 10 * w + 5)) k = true := fun h => decide_eq_true h
      have hgf : ¬ (g (120 + 10 * w + 5) >>> (nI k &&& 31)) &&& nI 1 = nI 1 → ¬ gBit (g (120 + 10 * w + 5)) k = true := fun h h2 => h (of_decide_eq_true h2)
      cases hc : bstF (g (120 + 10 * w + 5)) th k with
      | none =>
        show zX l G mX12_chain 2 0 0 53 [some (.ref qR), some (.int x), some (.int i), some (.int (nI w)), some (.int (nI nn)), some (.int (-1)), some (.int (nI k)), none] [] Z (va_up I q_s g) Q
        refine x_ild6 (n := 55) dX12_chain_53 rfl ?_
        refine x_ald0 (n := 56) dX12_chain_55 rfl ?_
        refine x_getR (n := 59) flX12_7 rfl dX12_chain_56 rfl (rK hZ) (rP_s hZ) ?_
        refine x_ic1 (n := 60) dX12_chain_59 rfl ?_
        refine x_sld (n := 61) dX12_chain_60 rfl hZ (by omega) ?_
        rw [h1.1]
        refine x_icmpN_ge (n := 64) (tgt := 134) dX12_chain_61 rfl (by decide) (by omega) (by omega) (fun c_61 => ?_) (fun c_61 => ?_)
        · exact absurd c_61 (by omega)
        · refine x_ald0 (n := 65) dX12_chain_64 rfl ?_
          refine x_getR (n := 68) flX12_7 rfl dX12_chain_65 rfl (rK hZ) (rP_s hZ) ?_
          refine x_ald0 (n := 69) dX12_chain_68 rfl ?_
          refine x_ild3 (n := 70) dX12_chain_69 rfl ?_
          refine x_cV1 (n := 73) (d' := 0) zcX12_workAt mlX12_93 dX12_chain_70 rfl (rK hZ) (Nat.le_of_ble_eq_true rfl) (Nat.le_of_ble_eq_true rfl) ?_
          refine c_X12_workAt ?_
          refine x_some ?_
          refine x_ic5 (n := 74) dX12_chain_73 rfl ?_
          refine x_iaddN (n := 75) dX12_chain_74 rfl ?_
          refine x_sld (n := 76) dX12_chain_75 rfl hZ (by omega) ?_
          refine x_ild6 (n := 78) dX12_chain_76 rfl ?_
          refine x_ishr (n := 79) dX12_chain_78 rfl ?_
          refine x_ic1 (n := 80) dX12_chain_79 rfl ?_
          refine x_iand (n := 81) dX12_chain_80 rfl ?_
          refine x_ic1 (n := 82) dX12_chain_81 rfl ?_
          refine x_icmp_ne (n := 85) (tgt := 89) dX12_chain_82 rfl (by decide) (fun c_82 => ?_) (fun c_82 => ?_)
          · refine x_ic0 (n := 90) dX12_chain_89 rfl ?_
            refine x_ist7 (n := 92) dX12_chain_90 rfl (by decide) rfl ?_
            refine x_ild7 (n := 94) dX12_chain_92 rfl ?_
            refine x_if_eq (n := 97) (tgt := 124) dX12_chain_94 rfl (by decide) (fun c_94 => ?_) (fun c_94 => ?_)
            · refine x_ild5 (n := 126) dX12_chain_124 rfl ?_
              refine x_ist5 (n := 128) dX12_chain_126 rfl (by decide) rfl ?_
              refine x_iincN6 (n := 131) (k := 1) dX12_chain_128 rfl (by decide) rfl ?_
              refine x_goto (n := 53) dX12_chain_131 (by decide) ?_
              refine x_fg7 ?_
              first | exact step none (by rw [hc]; exact if_neg (fun h => hgf c_82 h.1)) | exact step (some k) (by rw [hc]; exact if_pos ⟨hgt c_82, fun b hb => by cases hb⟩)
            · exact absurd (by decide) c_94
          · refine x_ic1 (n := 86) dX12_chain_85 rfl ?_
            refine x_goto (n := 90) dX12_chain_86 (by decide) ?_
            refine x_ist7 (n := 92) dX12_chain_90 rfl (by decide) rfl ?_
            refine x_ild7 (n := 94) dX12_chain_92 rfl ?_
            refine x_if_eq (n := 97) (tgt := 124) dX12_chain_94 rfl (by decide) (fun c_94 => ?_) (fun c_94 => ?_)
            · exact absurd c_94 (by decide)
            · refine x_ild5 (n := 99) dX12_chain_97 rfl ?_
              refine x_if_lt (n := 102) (tgt := 119) dX12_chain_99 rfl (by decide) (fun c_99 => ?_) (fun c_99 => ?_)
              · refine x_ild6 (n := 121) dX12_chain_119 rfl ?_
                refine x_goto (n := 126) dX12_chain_121 (by decide) ?_
                refine x_ist5 (n := 128) dX12_chain_126 rfl (by decide) rfl ?_
                refine x_iincN6 (n := 131) (k := 1) dX12_chain_128 rfl (by decide) rfl ?_
                refine x_goto (n := 53) dX12_chain_131 (by decide) ?_
                refine x_fg7 ?_
                first | exact step none (by rw [hc]; exact if_neg (fun h => hgf c_82 h.1)) | exact step (some k) (by rw [hc]; exact if_pos ⟨hgt c_82, fun b hb => by cases hb⟩)
              · exact absurd (by decide) c_99
      | some b =>
        have hb := bstF_lt hc
        show zX l G mX12_chain 2 0 0 53 [some (.ref qR), some (.int x), some (.int i), some (.int (nI w)), some (.int (nI nn)), some (.int (nI b)), some (.int (nI k)), none] [] Z (va_up I q_s g) Q
        refine x_ild6 (n := 55) dX12_chain_53 rfl ?_
        refine x_ald0 (n := 56) dX12_chain_55 rfl ?_
        refine x_getR (n := 59) flX12_7 rfl dX12_chain_56 rfl (rK hZ) (rP_s hZ) ?_
        refine x_ic1 (n := 60) dX12_chain_59 rfl ?_
        refine x_sld (n := 61) dX12_chain_60 rfl hZ (by omega) ?_
        rw [h1.1]
        refine x_icmpN_ge (n := 64) (tgt := 134) dX12_chain_61 rfl (by decide) (by omega) (by omega) (fun c_61 => ?_) (fun c_61 => ?_)
        · exact absurd c_61 (by omega)
        · refine x_ald0 (n := 65) dX12_chain_64 rfl ?_
          refine x_getR (n := 68) flX12_7 rfl dX12_chain_65 rfl (rK hZ) (rP_s hZ) ?_
          refine x_ald0 (n := 69) dX12_chain_68 rfl ?_
          refine x_ild3 (n := 70) dX12_chain_69 rfl ?_
          refine x_cV1 (n := 73) (d' := 0) zcX12_workAt mlX12_93 dX12_chain_70 rfl (rK hZ) (Nat.le_of_ble_eq_true rfl) (Nat.le_of_ble_eq_true rfl) ?_
          refine c_X12_workAt ?_
          refine x_some ?_
          refine x_ic5 (n := 74) dX12_chain_73 rfl ?_
          refine x_iaddN (n := 75) dX12_chain_74 rfl ?_
          refine x_sld (n := 76) dX12_chain_75 rfl hZ (by omega) ?_
          refine x_ild6 (n := 78) dX12_chain_76 rfl ?_
          refine x_ishr (n := 79) dX12_chain_78 rfl ?_
          refine x_ic1 (n := 80) dX12_chain_79 rfl ?_
          refine x_iand (n := 81) dX12_chain_80 rfl ?_
          refine x_ic1 (n := 82) dX12_chain_81 rfl ?_
          refine x_icmp_ne (n := 85) (tgt := 89) dX12_chain_82 rfl (by decide) (fun c_82 => ?_) (fun c_82 => ?_)
          · refine x_ic0 (n := 90) dX12_chain_89 rfl ?_
            refine x_ist7 (n := 92) dX12_chain_90 rfl (by decide) rfl ?_
            refine x_ild7 (n := 94) dX12_chain_92 rfl ?_
            refine x_if_eq (n := 97) (tgt := 124) dX12_chain_94 rfl (by decide) (fun c_94 => ?_) (fun c_94 => ?_)
            · refine x_ild5 (n := 126) dX12_chain_124 rfl ?_
              refine x_ist5 (n := 128) dX12_chain_126 rfl (by decide) rfl ?_
              refine x_iincN6 (n := 131) (k := 1) dX12_chain_128 rfl (by decide) rfl ?_
              refine x_goto (n := 53) dX12_chain_131 (by decide) ?_
              refine x_fg7 ?_
              first | exact step (some b) (by rw [hc]; exact if_neg (fun h => hgf c_82 h.1)) | exact step (some b) (by rw [hc]; exact if_neg (fun h => Int32.not_lt.mpr c_116 (h.2 b rfl))) | exact step (some k) (by rw [hc]; exact if_pos ⟨hgt c_82, fun b2 hb2 => by cases hb2; exact Int32.not_le.mp c_116⟩)
            · exact absurd (by decide) c_94
          · refine x_ic1 (n := 86) dX12_chain_85 rfl ?_
            refine x_goto (n := 90) dX12_chain_86 (by decide) ?_
            refine x_ist7 (n := 92) dX12_chain_90 rfl (by decide) rfl ?_
            refine x_ild7 (n := 94) dX12_chain_92 rfl ?_
            refine x_if_eq (n := 97) (tgt := 124) dX12_chain_94 rfl (by decide) (fun c_94 => ?_) (fun c_94 => ?_)
            · exact absurd c_94 (by decide)
            · refine x_ild5 (n := 99) dX12_chain_97 rfl ?_
              refine x_if_lt (n := 102) (tgt := 119) dX12_chain_99 rfl (by decide) (fun c_99 => ?_) (fun c_99 => ?_)
              · exact absurd c_99 (nI_pos (by omega))
              · refine x_ald0 (n := 103) dX12_chain_102 rfl ?_
                refine x_getR (n := 106) flX12_68 rfl dX12_chain_103 rfl (rK hZ) (rP_through hZ) ?_
                refine x_ild6 (n := 108) dX12_chain_106 rfl ?_
                refine x_old (n := 109) dX12_chain_108 rfl (rA_through hZ) (by decide) (Nat.le_of_ble_eq_true rfl) (by omega) ?_
                rw [ht k (by omega)]
                refine x_ald0 (n := 110) dX12_chain_109 rfl ?_
                refine x_getR (n := 113) flX12_68 rfl dX12_chain_110 rfl (rK hZ) (rP_through hZ) ?_
                refine x_ild5 (n := 115) dX12_chain_113 rfl ?_
                refine x_old (n := 116) dX12_chain_115 rfl (rA_through hZ) (by decide) (Nat.le_of_ble_eq_true rfl) (by omega) ?_
                rw [ht b (by omega)]
                refine x_icmp_le (n := 119) (tgt := 124) dX12_chain_116 rfl (by decide) (fun c_116 => ?_) (fun c_116 => ?_)
                · refine x_ild5 (n := 126) dX12_chain_124 rfl ?_
                  refine x_ist5 (n := 128) dX12_chain_126 rfl (by decide) rfl ?_
                  refine x_iincN6 (n := 131) (k := 1) dX12_chain_128 rfl (by decide) rfl ?_
                  refine x_goto (n := 53) dX12_chain_131 (by decide) ?_
                  refine x_fg7 ?_
                  first | exact step (some b) (by rw [hc]; exact if_neg (fun h => hgf c_82 h.1)) | exact step (some b) (by rw [hc]; exact if_neg (fun h => Int32.not_lt.mpr c_116 (h.2 b rfl))) | exact step (some k) (by rw [hc]; exact if_pos ⟨hgt c_82, fun b2 hb2 => by cases hb2; exact Int32.not_le.mp c_116⟩)
                · refine x_ild6 (n := 121) dX12_chain_119 rfl ?_
                  refine x_goto (n := 126) dX12_chain_121 (by decide) ?_
                  refine x_ist5 (n := 128) dX12_chain_126 rfl (by decide) rfl ?_
                  refine x_iincN6 (n := 131) (k := 1) dX12_chain_128 rfl (by decide) rfl ?_
                  refine x_goto (n := 53) dX12_chain_131 (by decide) ?_
                  refine x_fg7 ?_
                  first | exact step (some b) (by rw [hc]; exact if_neg (fun h => hgf c_82 h.1)) | exact step (some b) (by rw [hc]; exact if_neg (fun h => Int32.not_lt.mpr c_116 (h.2 b rfl))) | exact step (some k) (by rw [hc]; exact if_pos ⟨hgt c_82, fun b2 hb2 => by cases hb2; exact Int32.not_le.mp c_116⟩)
theorem l3_X12_chain {x i : Int32} {w v : Int32} {nn : Nat} (hx : zX l G mX12_chain 2 0 0 37 [some (.ref qR), some (.int x), some (.int i), some (.int v), some (.int (nI (nn + 1))), none, none, none] [] Z (va_up I q_s g) Q) : zX l G mX12_chain 2 0 0 134 [some (.ref qR), some (.int x), some (.int i), some (.int w), some (.int (nI nn)), some (.int v), none, none] [] Z (va_up I q_s g) Q := by
  refine x_ild5 (n := 136) dX12_chain_134 rfl ?_
  refine x_ist3 (n := 137) dX12_chain_136 rfl (by decide) rfl ?_
  refine x_iincN4 (n := 140) (k := 1) dX12_chain_137 rfl (by decide) rfl ?_
  refine x_goto (n := 37) dX12_chain_140 (by decide) ?_
  exact x_fg5 hx
theorem l2_X12_chain (hZ : ShR Z) (hB : InvB g) {x : Int32} {i : Nat} (hi : i < 2147483648) (ht : thOK I (gTh g)) : ∀ f nn (o : Option Nat), nn + f = i → (∀ w, o = some w → w < vN g 1) → Q (some (.int (orNone (oI (chN g f o))))) Z (va_up I q_s g) → zX l G mX12_chain 2 0 0 37 [some (.ref qR), some (.int x), some (.int (nI i)), some (.int (oI o)), some (.int (nI nn)), none, none, none] [] Z (va_up I q_s g) Q := by
  have h1 := iv1 hB
  intro f
  induction f with
  | zero =>
    intro nn o hn ho hq
    refine x_ild4 (n := 39) dX12_chain_37 rfl ?_
    refine x_ild2 (n := 40) dX12_chain_39 rfl ?_
    refine x_icmpN_ge (n := 43) (tgt := 143) dX12_chain_40 rfl (by decide) (by omega) (by omega) (fun c_40 => ?_) (fun c_40 => ?_)
    · refine x_ild3 (n := 144) dX12_chain_143 rfl ?_
      refine x_cS1 (n := 147) (d' := 0) zcX12_orNone mlX12_159 dX12_chain_144 rfl (Nat.le_of_ble_eq_true rfl) (Nat.le_of_ble_eq_true rfl) ?_
      refine c_X12_orNone ?_
      refine x_some ?_
      refine r_iret dX12_chain_147 rfl ?_
      exact hq
    · exact absurd c_40 (by omega)
  | succ f ih =>
    intro nn o hn ho hq
    cases o with
    | none =>
      show zX l G mX12_chain 2 0 0 37 [some (.ref qR), some (.int x), some (.int (nI i)), some (.int (-1)), some (.int (nI nn)), none, none, none] [] Z (va_up I q_s g) Q
      refine x_ild4 (n := 39) dX12_chain_37 rfl ?_
      refine x_ild2 (n := 40) dX12_chain_39 rfl ?_
      refine x_icmpN_ge (n := 43) (tgt := 143) dX12_chain_40 rfl (by decide) (by omega) (by omega) (fun c_40 => ?_) (fun c_40 => ?_)
      · exact absurd c_40 (by omega)
      · refine x_ild3 (n := 44) dX12_chain_43 rfl ?_
        refine x_if_lt (n := 47) (tgt := 143) dX12_chain_44 rfl (by decide) (fun c_44 => ?_) (fun c_44 => ?_)
        · refine x_ild3 (n := 144) dX12_chain_143 rfl ?_
          refine x_cS1 (n := 147) (d' := 0) zcX12_orNone mlX12_159 dX12_chain_144 rfl (Nat.le_of_ble_eq_true rfl) (Nat.le_of_ble_eq_true rfl) ?_
          refine c_X12_orNone ?_
          refine x_some ?_
          refine r_iret dX12_chain_147 rfl ?_
          exact hq
        · exact absurd (by decide) c_44
    | some w =>
      have hw := ho w rfl
      show zX l G mX12_chain 2 0 0 37 [some (.ref qR), some (.int x), some (.int (nI i)), some (.int (nI w)), some (.int (nI nn)), none, none, none] [] Z (va_up I q_s g) Q
      refine x_ild4 (n := 39) dX12_chain_37 rfl ?_
      refine x_ild2 (n := 40) dX12_chain_39 rfl ?_
      refine x_icmpN_ge (n := 43) (tgt := 143) dX12_chain_40 rfl (by decide) (by omega) (by omega) (fun c_40 => ?_) (fun c_40 => ?_)
      · exact absurd c_40 (by omega)
      · refine x_ild3 (n := 44) dX12_chain_43 rfl ?_
        refine x_if_lt (n := 47) (tgt := 143) dX12_chain_44 rfl (by decide) (fun c_44 => ?_) (fun c_44 => ?_)
        · exact absurd c_44 (nI_pos (by omega))
        · refine x_icm1 (n := 48) dX12_chain_47 rfl ?_
          refine x_ist5 (n := 50) dX12_chain_48 rfl (by decide) rfl ?_
          refine x_ic0 (n := 51) dX12_chain_50 rfl ?_
          refine x_ist6 (n := 53) dX12_chain_51 rfl (by decide) rfl ?_
          refine l1_X12_chain hZ hB ht hw ?_ (vN g 1 + 1) 0 (by omega) (by omega)
          exact l3_X12_chain (ih (nn + 1) _ (by omega) (fun u hu => bstF_lt hu) hq)
theorem c_X12_chain (hZ : ShR Z) (hB : InvB g) {x i : Int32} (hq : ∀ I' : zI, offT I I' → Q (some (.int (f_chain g x i))) Z (va_up I' q_s g)) : zM l G mX12_chain 2 0 0 [.ref qR, .int x, .int i] Z (va_up I q_s g) Q := by
  have h1 := iv1 hB
  refine x_entry [some (.ref qR), some (.int x), some (.int i), none, none, none, none, none] 5 rfl rfl (Nat.le_of_ble_eq_true rfl) ?_
  unfold f_chain at hq
  refine x_ald0 (n := 1) dX12_chain_0 rfl ?_
  refine x_ild1 (n := 2) dX12_chain_1 rfl ?_
  refine x_cV1 (n := 5) (d' := 1) zcX12_isWork mlX12_156 dX12_chain_2 rfl (rK hZ) (Nat.le_of_ble_eq_true rfl) (Nat.le_of_ble_eq_true rfl) ?_
  refine c_X12_isWork hZ h1.1 (by omega) ?_
  refine x_some ?_
  refine x_zif_eq (n := 8) (tgt := 12) dX12_chain_5 rfl (by decide) (fun c_5 => ?_) (fun c_5 => ?_)
  · rw [if_neg (by grind)] at hq
    refine x_ldc (n := 14) dX12_chain_12 rfl kiX12_100 ?_
    refine r_iret dX12_chain_14 rfl ?_
    exact hq I (fun _ _ => rfl)
  · refine x_ild2 (n := 9) dX12_chain_8 rfl ?_
    refine x_if_ge (n := 12) (tgt := 15) dX12_chain_9 rfl (by decide) (fun c_9 => ?_) (fun c_9 => ?_)
    · rw [if_pos ⟨c_5, c_9⟩] at hq
      obtain ⟨c, hc, rfl⟩ := z_chain c_5
      obtain ⟨n, hn, hn2⟩ := nI_of (Int32.not_lt.mpr c_9)
      subst hn2
      rw [ix_nI hn, ix_nI (by omega)] at hq
      refine x_ald0 (n := 16) dX12_chain_15 rfl ?_
      refine x_cV0 (n := 19) (d' := 1) zcX12_findThrough mlX12_340 dX12_chain_16 rfl (rK hZ) (Nat.le_of_ble_eq_true rfl) (Nat.le_of_ble_eq_true rfl) ?_
      refine c_X12_findThrough hZ hB (fun I' hI ht => ?_)
      refine x_none ?_
      refine x_ald0 (n := 20) dX12_chain_19 rfl ?_
      refine x_getR (n := 23) flX12_68 rfl dX12_chain_20 rfl (rK hZ) (rP_through hZ) ?_
      refine x_ild1 (n := 24) dX12_chain_23 rfl ?_
      refine x_old (n := 25) dX12_chain_24 rfl (rA_through hZ) (by decide) (Nat.le_of_ble_eq_true rfl) (by omega) ?_
      rw [ht c (by omega)]
      refine x_if_ge (n := 28) (tgt := 32) dX12_chain_25 rfl (by decide) (fun c_25 => ?_) (fun c_25 => ?_)
      · refine x_ild1 (n := 33) dX12_chain_32 rfl ?_
        refine x_ist3 (n := 34) dX12_chain_33 rfl (by decide) rfl ?_
        refine x_ic0 (n := 35) dX12_chain_34 rfl ?_
        refine x_ist4 (n := 37) dX12_chain_35 rfl (by decide) rfl ?_
        have hq2 := hq I' hI
        cases hth : gTh g c with
        | none =>
          rw [hth] at hq2 c_25
          first | exact absurd c_25 (by decide) | exact l2_X12_chain hZ hB hn ht n 0 none (by omega) (fun u hu => by cases hu) hq2
        | some v =>
          rw [hth] at hq2 c_25
          have hv := thAll_B hB (vN g 1) c v hth
          have hbb : 99 * vN g 1 * vN g 1 ≤ 99 * 24 * 24 := Nat.mul_le_mul (Nat.mul_le_mul_left _ h1.2) (by omega)
          first | exact absurd (nI_pos' (show v < 2147483648 by omega)) c_25 | exact l2_X12_chain hZ hB hn ht n 0 (some c) (by omega) (fun u hu => by cases hu; exact hc) hq2
      · refine x_icm1 (n := 29) dX12_chain_28 rfl ?_
        refine x_goto (n := 33) dX12_chain_29 (by decide) ?_
        refine x_ist3 (n := 34) dX12_chain_33 rfl (by decide) rfl ?_
        refine x_ic0 (n := 35) dX12_chain_34 rfl ?_
        refine x_ist4 (n := 37) dX12_chain_35 rfl (by decide) rfl ?_
        have hq2 := hq I' hI
        cases hth : gTh g c with
        | none =>
          rw [hth] at hq2 c_25
          first | exact absurd c_25 (by decide) | exact l2_X12_chain hZ hB hn ht n 0 none (by omega) (fun u hu => by cases hu) hq2
        | some v =>
          rw [hth] at hq2 c_25
          have hv := thAll_B hB (vN g 1) c v hth
          have hbb : 99 * vN g 1 * vN g 1 ≤ 99 * 24 * 24 := Nat.mul_le_mul (Nat.mul_le_mul_left _ h1.2) (by omega)
          first | exact absurd (nI_pos' (show v < 2147483648 by omega)) c_25 | exact l2_X12_chain hZ hB hn ht n 0 (some c) (by omega) (fun u hu => by cases hu; exact hc) hq2
    · rw [if_neg (by grind)] at hq
      refine x_ldc (n := 14) dX12_chain_12 rfl kiX12_100 ?_
      refine r_iret dX12_chain_14 rfl ?_
      exact hq I (fun _ _ => rfl)
end
