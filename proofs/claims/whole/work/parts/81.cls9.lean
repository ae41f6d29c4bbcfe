section
variable {l : Launch} {G : zG} {Z : zS} {I I' : zI} {g g' : Nat → Int32} {mk b : Nat} {Q : Option Value → zS → zI → Prop}
theorem vT3 (h : cmT Z I mk g) (hB : InvB g) : I (mk + 63) 1 = nI (vN g 3) := h.2.1.trans (iv3 hB).1
theorem c_X7_valueFor (hM : ShM Z mk) (hm : mk < 200) {t p : Nat} {a b c : Int32} (hx : txR Z I p g t) (hT : textOK g t) (hq : ∀ I' : zI, (∀ a, a ≠ mk + 65 → I' a = I a) → Q (some (.int (gText g t (vN g (2520 + 200 * t)) a b c))) Z I') : zM l G mX7_valueFor 1 0 0 [.ref p, .int a, .int b, .int c, .ref (mk + 65)] Z I Q := by
  refine x_entry [some (.ref p), some (.int a), some (.int b), some (.int c), some (.ref (mk + 65)), none, none, none] 3 rfl rfl (Nat.le_of_ble_eq_true rfl) ?_
  obtain ⟨h0, h1, h2, h3, h4, h5, q, h6, h7, h8, h9⟩ := hx
  obtain ⟨-, -, -, hMr, H, hH0, hH1, hHs⟩ := hT
  refine x_ic0 (n := 1) dX7_valueFor_0 rfl ?_
  refine x_ist5 (n := 3) dX7_valueFor_1 rfl (by decide) rfl ?_
  refine x_ic0 (n := 4) dX7_valueFor_3 rfl ?_
  refine x_ist6 (n := 6) dX7_valueFor_4 rfl (by decide) rfl ?_
  have := l_X7_valueFor (l := l) (G := G) (a := a) (b := b) (c := c) hM ⟨h1, h7, h8⟩ (by omega) h5 hH1 hHs h9 (Q := Q) (by exact hq) (vN g (2520 + 200 * t + 3) + 1) 0 I (fun _ _ => rfl) (by omega) (by omega) hH0.symm trivial (by omega)
  rw [hH0] at this
  exact this
theorem c_X8_numbered (hM : ShM Z mk) (hT : cmT Z I mk g) (hB : InvB g) {t p : Nat} (ht : t < vN g 3) (hp : Z.2.2.2 (mk + 64) t = some p) (hq : Q (some (.ref p)) Z I) : zM l G mX8_numbered 1 0 0 [.ref (mk + 63), .int (nI t)] Z I Q := by
  refine x_entry [some (.ref (mk + 63)), some (.int (nI t))] 0 rfl rfl (Nat.le_of_ble_eq_true rfl) ?_
  have h1 := vT3 hT hB
  have h24 := (iv3 hB).2
  have hwI : (nI t).toInt = (t : Int) := nI_toInt (by omega)
  refine x_ild1 (n := 1) dX8_numbered_0 rfl ?_
  refine x_ic0 (n := 2) dX8_numbered_1 rfl ?_
  refine x_ald0 (n := 3) dX8_numbered_2 rfl ?_
  refine x_getI (n := 6) flX8_23 rfl dX8_numbered_3 rfl (mK_Ts hM) ?_
  rw [h1]
  refine x_ic1 (n := 7) dX8_numbered_6 rfl ?_
  refine x_isubN (n := 8) dX8_numbered_7 rfl (by omega) ?_
  refine x_cN3 (n := 11) (d' := 0) zcX11_inside mnX8_27 dX8_numbered_8 rfl (Nat.le_of_ble_eq_true rfl) (Nat.le_of_ble_eq_true rfl) ?_
  refine c_X11_inside true (by refine (decide_eq_true ?_).symm; rw [hwI, nI_toInt (n := vN g 3 - 1) (by omega)]; exact ⟨by show (0 : Int) ≤ _; omega, by omega⟩) ?_
  refine x_some ?_
  refine x_if_eq (n := 14) (tgt := 23) dX8_numbered_11 rfl (by decide) (fun c_11 => ?_) (fun c_11 => ?_)
  · exact absurd c_11 (by decide)
  · refine x_ald0 (n := 15) dX8_numbered_14 rfl ?_
    refine x_getR (n := 18) flX8_13 rfl dX8_numbered_15 rfl (mK_Ts hM) (mP_allT hM) ?_
    refine x_ild1 (n := 19) dX8_numbered_18 rfl ?_
    refine x_aaldN (n := 20) dX8_numbered_19 rfl (mA_allT hM) ⟨by decide, by decide⟩ (Nat.le_of_ble_eq_true rfl) (by omega) hp ?_
    refine x_goto (n := 24) dX8_numbered_20 (by decide) ?_
    refine r_aret dX8_numbered_24 rfl (by first | exact Or.inl ⟨_, rfl⟩ | exact Or.inr ⟨_, rfl⟩) (by first | exact Or.inl rfl | exact Or.inr ⟨_, rfl⟩) ?_
    exact hq
theorem c_X8_numberedN (hM : ShM Z mk) (hT : cmT Z I mk g) (hB : InvB g) {x : Int32} (hx : zin x 0 ((vN g 3 : Int) - 1) = false) (hq : Q (some .null) Z I) : zM l G mX8_numbered 1 0 0 [.ref (mk + 63), .int x] Z I Q := by
  refine x_entry [some (.ref (mk + 63)), some (.int x)] 0 rfl rfl (Nat.le_of_ble_eq_true rfl) ?_
  have h1 := vT3 hT hB
  have h24 := (iv3 hB).2
  have hx2 := zin_f hx
  refine x_ild1 (n := 1) dX8_numbered_0 rfl ?_
  refine x_ic0 (n := 2) dX8_numbered_1 rfl ?_
  refine x_ald0 (n := 3) dX8_numbered_2 rfl ?_
  refine x_getI (n := 6) flX8_23 rfl dX8_numbered_3 rfl (mK_Ts hM) ?_
  refine x_ic1 (n := 7) dX8_numbered_6 rfl ?_
  rw [h1]
  refine x_isub (n := 8) dX8_numbered_7 rfl ?_
  refine x_cN3 (n := 11) (d' := 0) zcX11_inside mnX8_27 dX8_numbered_8 rfl (Nat.le_of_ble_eq_true rfl) (Nat.le_of_ble_eq_true rfl) ?_
  refine c_X11_inside false (by refine (decide_eq_false ?_).symm; rw [pk_sub_toInt (by omega) (by omega)]; intro h; exact hx2 ⟨h.1, by omega⟩) ?_
  refine x_some ?_
  refine x_if_eq (n := 14) (tgt := 23) dX8_numbered_11 rfl (by decide) (fun c_11 => ?_) (fun c_11 => ?_)
  · refine x_null (n := 24) dX8_numbered_23 rfl ?_
    refine r_aret dX8_numbered_24 rfl (by first | exact Or.inl ⟨_, rfl⟩ | exact Or.inr ⟨_, rfl⟩) (by first | exact Or.inl rfl | exact Or.inr ⟨_, rfl⟩) ?_
    exact hq
  · exact absurd (by decide) c_11
/-- the day of the text found, or -1 -/
def fdF (g : Nat → Int32) (o : Option Nat) : Int32 := match o with
  | none => -1
  | some b => g (2520 + 200 * b + 1)
theorem l_X8_counting (hM : ShM Z mk) (hT : cmT Z I mk g) (hB : InvB g) (hTI : InvT g) {key : Int32} (hq : Q (some (.int (orNone (oI (cntF g key (vN g 3)))))) Z I) : ∀ m k, k ≤ vN g 3 → vN g 3 - k < m → zX l G mX8_counting 1 0 0 9 [some (.ref (mk + 63)), some (.int key), some (.int (g 8)), some (.int (orNone (oI (cntF g key k)))), some (.int (fdF g (cntF g key k))), some (.int (nI k)), none] [] Z I Q := by
  intro m
  have h1 := vT3 hT hB
  have h14 := (iv3 hB).2
  induction m with
  | zero => intro k _ h; exact absurd h (by omega)
  | succ m ih =>
    intro k hk hm
    by_cases hkn : k = vN g 3
    · skip
      refine x_ild5 (n := 11) dX8_counting_9 rfl ?_
      refine x_ald0 (n := 12) dX8_counting_11 rfl ?_
      refine x_getI (n := 15) flX8_23 rfl dX8_counting_12 rfl (mK_Ts hM) ?_
      rw [h1]
      refine x_icmpN_ge (n := 18) (tgt := 71) dX8_counting_15 rfl (by decide) (by omega) (by omega) (fun c_15 => ?_) (fun c_15 => ?_)
      · refine x_ild3 (n := 72) dX8_counting_71 rfl ?_
        refine r_iret dX8_counting_72 rfl ?_
        rw [hkn]; exact hq
      · exact absurd hkn (by omega)
    · obtain ⟨p, hp, hx⟩ := hT.2.2 k (by omega)
      have hkt := hTI k (by omega)
      have hd0 := hkt.2.1.1
      have es : cntF g key (k + 1) = if g (2520 + 200 * k) = key ∧ g (2520 + 200 * k + 1) ≤ g 8 ∧ (∀ b, cntF g key k = some b → g (2520 + 200 * b + 1) ≤ g (2520 + 200 * k + 1)) then some k else cntF g key k := rfl
      have hor : orNone (oI (some k)) = nI k := by unfold orNone oI; rw [nI_toInt (by omega), if_neg (by omega)]
      have hfd : (fdF g (cntF g key k)).toInt ≤ (g (2520 + 200 * k + 1)).toInt ↔ (∀ b, cntF g key k = some b → g (2520 + 200 * b + 1) ≤ g (2520 + 200 * k + 1)) := by
        cases ho : cntF g key k with
        | none =>
          constructor
          · intro _ b hb; cases hb
          · intro _; show (-1 : Int32).toInt ≤ _; rw [show (-1 : Int32).toInt = -1 by decide]; omega
        | some b =>
          constructor
          · intro h b' hb; cases hb; rw [zle]; exact h
          · intro h; have := h b rfl; rw [zle] at this; exact this
      refine x_ild5 (n := 11) dX8_counting_9 rfl ?_
      refine x_ald0 (n := 12) dX8_counting_11 rfl ?_
      refine x_getI (n := 15) flX8_23 rfl dX8_counting_12 rfl (mK_Ts hM) ?_
      rw [h1]
      refine x_icmpN_ge (n := 18) (tgt := 71) dX8_counting_15 rfl (by decide) (by omega) (by omega) (fun c_15 => ?_) (fun c_15 => ?_)
      · exact absurd hkn (by omega)
      · refine x_ald0 (n := 19) dX8_counting_18 rfl ?_
        refine x_getR (n := 22) flX8_13 rfl dX8_counting_19 rfl (mK_Ts hM) (mP_allT hM) ?_
        refine x_ild5 (n := 24) dX8_counting_22 rfl ?_
        refine x_aaldN (n := 25) dX8_counting_24 rfl (mA_allT hM) ⟨by decide, by decide⟩ (Nat.le_of_ble_eq_true rfl) (by omega) hp ?_
        refine x_ast6 (n := 27) dX8_counting_25 rfl (by decide) rfl ?_
        refine x_ald6 (n := 29) dX8_counting_27 rfl ?_
        refine x_ifnull (n := 32) dX8_counting_29 rfl ?_
        refine x_ald6 (n := 34) dX8_counting_32 rfl ?_
        refine x_getI (n := 37) flX8_33 rfl dX8_counting_34 rfl hx.2.1 ?_
        refine x_ild1 (n := 38) dX8_counting_37 rfl ?_
        rw [hx.2.2.1]
        refine x_icmp_ne (n := 41) (tgt := 65) dX8_counting_38 rfl (by decide) (fun c_38 => ?_) (fun c_38 => ?_)
        · refine x_iincN5 (n := 68) (k := 1) dX8_counting_65 rfl (by decide) rfl ?_
          refine x_goto (n := 9) dX8_counting_68 (by decide) ?_
          refine x_fg6 ?_
          first
            | (have hne : ¬ g (2520 + 200 * k) = key := c_38
               have := ih (k + 1) (by omega) (by omega)
               rw [es, if_neg (fun h => hne h.1)] at this
               exact this)
            | (have hne := of_decide_eq_false c_52
               have := ih (k + 1) (by omega) (by omega)
               rw [es, if_neg (fun h => hne ⟨hfd.mpr h.2.2, (zle _ _).mp h.2.1⟩)] at this
               exact this)
            | (have hne := of_decide_eq_true c_52
               have := ih (k + 1) (by omega) (by omega)
               rw [es, if_pos ⟨c_38, (zle _ _).mpr hne.2, hfd.mp hne.1⟩, hor] at this
               exact this)
        · refine x_ald6 (n := 43) dX8_counting_41 rfl ?_
          refine x_getI (n := 46) flX8_36 rfl dX8_counting_43 rfl hx.2.1 ?_
          refine x_ild4 (n := 48) dX8_counting_46 rfl ?_
          refine x_ild2 (n := 49) dX8_counting_48 rfl ?_
          rw [hx.2.2.2.1]
          refine x_cN3 (n := 52) (d' := 0) zcX11_inside mnX8_27 dX8_counting_49 rfl (Nat.le_of_ble_eq_true rfl) (Nat.le_of_ble_eq_true rfl) ?_
          refine c_X11_inside _ rfl ?_
          refine x_some ?_
          refine x_zif_eq (n := 55) (tgt := 65) dX8_counting_52 rfl (by decide) (fun c_52 => ?_) (fun c_52 => ?_)
          · refine x_iincN5 (n := 68) (k := 1) dX8_counting_65 rfl (by decide) rfl ?_
            refine x_goto (n := 9) dX8_counting_68 (by decide) ?_
            refine x_fg6 ?_
            first
              | (have hne : ¬ g (2520 + 200 * k) = key := c_38
                 have := ih (k + 1) (by omega) (by omega)
                 rw [es, if_neg (fun h => hne h.1)] at this
                 exact this)
              | (have hne := of_decide_eq_false c_52
                 have := ih (k + 1) (by omega) (by omega)
                 rw [es, if_neg (fun h => hne ⟨hfd.mpr h.2.2, (zle _ _).mp h.2.1⟩)] at this
                 exact this)
              | (have hne := of_decide_eq_true c_52
                 have := ih (k + 1) (by omega) (by omega)
                 rw [es, if_pos ⟨c_38, (zle _ _).mpr hne.2, hfd.mp hne.1⟩, hor] at this
                 exact this)
          · refine x_ild5 (n := 57) dX8_counting_55 rfl ?_
            refine x_ist3 (n := 58) dX8_counting_57 rfl (by decide) rfl ?_
            refine x_ald6 (n := 60) dX8_counting_58 rfl ?_
            refine x_getI (n := 63) flX8_36 rfl dX8_counting_60 rfl hx.2.1 ?_
            rw [hx.2.2.2.1]
            refine x_ist4 (n := 65) dX8_counting_63 rfl (by decide) rfl ?_
            refine x_iincN5 (n := 68) (k := 1) dX8_counting_65 rfl (by decide) rfl ?_
            refine x_goto (n := 9) dX8_counting_68 (by decide) ?_
            refine x_fg6 ?_
            first
              | (have hne : ¬ g (2520 + 200 * k) = key := c_38
                 have := ih (k + 1) (by omega) (by omega)
                 rw [es, if_neg (fun h => hne h.1)] at this
                 exact this)
              | (have hne := of_decide_eq_false c_52
                 have := ih (k + 1) (by omega) (by omega)
                 rw [es, if_neg (fun h => hne ⟨hfd.mpr h.2.2, (zle _ _).mp h.2.1⟩)] at this
                 exact this)
              | (have hne := of_decide_eq_true c_52
                 have := ih (k + 1) (by omega) (by omega)
                 rw [es, if_pos ⟨c_38, (zle _ _).mpr hne.2, hfd.mp hne.1⟩, hor] at this
                 exact this)
theorem c_X8_counting (hM : ShM Z mk) (hT : cmT Z I mk g) (hB : InvB g) (hTI : InvT g) {key : Int32} (hq : Q (some (.int (orNone (oI (cntF g key (vN g 3)))))) Z I) : zM l G mX8_counting 1 0 0 [.ref (mk + 63), .int key, .int (g 8)] Z I Q := by
  refine x_entry [some (.ref (mk + 63)), some (.int key), some (.int (g 8)), none, none, none, none] 4 rfl rfl (Nat.le_of_ble_eq_true rfl) ?_
  refine x_ldc (n := 2) dX8_counting_0 rfl kiX8_32 ?_
  refine x_ist3 (n := 3) dX8_counting_2 rfl (by decide) rfl ?_
  refine x_icm1 (n := 4) dX8_counting_3 rfl ?_
  refine x_ist4 (n := 6) dX8_counting_4 rfl (by decide) rfl ?_
  refine x_ic0 (n := 7) dX8_counting_6 rfl ?_
  refine x_ist5 (n := 9) dX8_counting_7 rfl (by decide) rfl ?_
  exact l_X8_counting hM hT hB hTI hq (vN g 3 + 1) 0 (by omega) (by omega)
def wtF (key : Nat) (a b c : Int32) : Int32 := if key = 0 then c else if key = 1 then nI 10 else if key = 2 then nI 10 * a else if nI 4 < b then nI 1 else nI 0
theorem c_X8_valueWithout {key : Nat} (hk : key < 4) {a b c : Int32} (hq : Q (some (.int (wtF key a b c))) Z I) : zM l G mX8_valueWithout 0 0 0 [.int (nI key), .int a, .int b, .int c] Z I Q := by
  refine x_entry [some (.int (nI key)), some (.int a), some (.int b), some (.int c)] 0 rfl rfl (Nat.le_of_ble_eq_true rfl) ?_
  unfold wtF at hq
  rcases (by omega : key = 0 ∨ key = 1 ∨ key = 2 ∨ key = 3) with rfl | rfl | rfl | rfl
  · skip
    refine x_ild0 (n := 1) dX8_valueWithout_0 rfl ?_
    refine x_tswI (n := 28) (off := 27) dX8_valueWithout_1 (by decide) (by decide) (by decide +kernel) (by decide) ?_
    refine x_ild3 (n := 29) dX8_valueWithout_28 rfl ?_
    refine r_iret dX8_valueWithout_29 rfl ?_
    exact hq
  · skip
    refine x_ild0 (n := 1) dX8_valueWithout_0 rfl ?_
    refine x_tswI (n := 30) (off := 29) dX8_valueWithout_1 (by decide) (by decide) (by decide +kernel) (by decide) ?_
    refine x_bipush (n := 32) (v := nI 10) dX8_valueWithout_30 rfl (by decide) ?_
    refine r_iret dX8_valueWithout_32 rfl ?_
    exact hq
  · skip
    refine x_ild0 (n := 1) dX8_valueWithout_0 rfl ?_
    refine x_tswI (n := 33) (off := 32) dX8_valueWithout_1 (by decide) (by decide) (by decide +kernel) (by decide) ?_
    refine x_bipush (n := 35) (v := nI 10) dX8_valueWithout_33 rfl (by decide) ?_
    refine x_ild1 (n := 36) dX8_valueWithout_35 rfl ?_
    refine x_imul (n := 37) dX8_valueWithout_36 rfl ?_
    refine r_iret dX8_valueWithout_37 rfl ?_
    exact hq
  · have hq' : Q (some (.int (if nI 4 < b then nI 1 else nI 0))) Z I := hq
    refine x_ild0 (n := 1) dX8_valueWithout_0 rfl ?_
    refine x_tswO (n := 38) dX8_valueWithout_1 (by decide) (by decide) ?_
    refine x_ild2 (n := 39) dX8_valueWithout_38 rfl ?_
    refine x_ic4 (n := 40) dX8_valueWithout_39 rfl ?_
    refine x_icmp_le (n := 43) (tgt := 47) dX8_valueWithout_40 rfl (by decide) (fun c_40 => ?_) (fun c_40 => ?_)
    · refine x_ic0 (n := 48) dX8_valueWithout_47 rfl ?_
      refine r_iret dX8_valueWithout_48 rfl ?_
      rw [zle] at c_40
      first | (rw [if_neg (by rw [zlt]; omega)] at hq'; exact hq') | (rw [if_pos (by rw [zlt]; omega)] at hq'; exact hq')
    · refine x_ic1 (n := 44) dX8_valueWithout_43 rfl ?_
      refine x_goto (n := 48) dX8_valueWithout_44 (by decide) ?_
      refine r_iret dX8_valueWithout_48 rfl ?_
      rw [zle] at c_40
      first | (rw [if_neg (by rw [zlt]; omega)] at hq'; exact hq') | (rw [if_pos (by rw [zlt]; omega)] at hq'; exact hq')
theorem clF_held (v : Int32) {n : Nat} (hn : n < 2147483648) : clF v (nI 0) (nI n) = heldF v n := by
  apply Int32.toInt_inj.mp
  rw [clF_i, nI_toInt hn, show (nI 0).toInt = 0 by decide]
  unfold heldF
  by_cases h : v < 0
  · rw [if_pos h, show (nI 0).toInt = 0 by decide]; rw [zlt, Int32.toInt_zero] at h; omega
  · rw [if_neg h]; rw [zlt, Int32.toInt_zero] at h
    by_cases h2 : nI n < v
    · rw [if_pos h2, nI_toInt hn]; rw [zlt, nI_toInt hn] at h2; omega
    · rw [if_neg h2]; rw [zlt, nI_toInt hn] at h2; omega
/-- the rule, held -/
theorem gRule_eq (g : Nat → Int32) (key : Nat) (a b c : Int32) : gRule g key a b c = (let v := match cntF g (nI key) (vN g 3) with
    | some t => gText g t key a b c
    | none => wtF key a b c
  if key = 0 then heldF v 999 else if key = 1 then heldF v 100 else if key = 2 then heldF v 99999 else v) := rfl
theorem cnt_lt {key : Int32} : ∀ {n t : Nat}, cntF g key n = some t → t < n ∧ g (2520 + 200 * t) = key
  | 0, t, h => by cases h
  | n + 1, t, h => by
    unfold cntF at h
    split at h
    · rename_i hc
      cases h
      exact ⟨by omega, hc.1⟩
    · have := cnt_lt h
      exact ⟨by omega, this.2⟩
theorem c_X8_ruling (hM : ShM Z mk) (hm : mk < 200) (hT : cmT Z I mk g) (hB : InvB g) (hTI : InvT g) {key : Nat} (hk : key < 4) {a b c : Int32} (hq : ∀ I', (∀ a, a ≠ mk + 65 → I' a = I a) → Q (some (.int (gRule g key a b c))) Z I') : zM l G mX8_ruling 2 0 0 [.ref (mk + 63), .int (nI key), .int (g 8), .int a, .int b, .int c] Z I Q := by
  refine x_entry [some (.ref (mk + 63)), some (.int (nI key)), some (.int (g 8)), some (.int a), some (.int b), some (.int c), none, none] 2 rfl rfl (Nat.le_of_ble_eq_true rfl) ?_
  have hkI : (nI key).toInt = (key : Int) := nI_toInt (by omega)
  have h14 := (iv3 hB).2
  have fin : ∀ (v : Int32) (I' : zI) (x : Option Value), zc1 x = true → (∀ a, a ≠ mk + 65 → I' a = I a) → (if key = 0 then heldF v 999 else if key = 1 then heldF v 100 else if key = 2 then heldF v 99999 else v) = gRule g key a b c → zX l G mX8_ruling 2 0 0 43 [some (.ref (mk + 63)), some (.int (nI key)), some (.int (g 8)), some (.int a), some (.int b), some (.int c), x, none] [.int v] Z I' Q := by
    intro v I' x hxc hI hv
    have hq' := hq I' hI
    rw [← hv] at hq'
    rcases (by omega : key = 3 ∨ key < 3) with h3 | h3
    · rw [if_neg (by omega), if_neg (by omega), if_neg (by omega)] at hq'
      refine x_ist7 (n := 45) dX8_ruling_43 rfl (by decide) hxc ?_
      refine x_ild1 (n := 46) dX8_ruling_45 rfl ?_
      refine x_ic0 (n := 47) dX8_ruling_46 rfl ?_
      refine x_gets (n := 50) (q := zst_HIGHEST_HELD) dX8_ruling_47 rfl (by decide) fsX8_55 ?_
      refine x_tlen (n := 51) (q := zst_HIGHEST_HELD) (v := nI 3) dX8_ruling_50 rfl (by decide) rfl rfl ?_
      refine x_ic1 (n := 52) dX8_ruling_51 rfl ?_
      refine x_isubN (n := 53) dX8_ruling_52 rfl (by omega) ?_
      refine x_cN3 (n := 56) (d' := 0) zcX11_inside mnX8_27 dX8_ruling_53 rfl (Nat.le_of_ble_eq_true rfl) (Nat.le_of_ble_eq_true rfl) ?_
      refine c_X11_inside false (by rw [hkI]; exact (decide_eq_false (by rintro ⟨_, h⟩; have : (key : Int) ≤ 2 := h; omega)).symm) ?_
      refine x_some ?_
      refine x_if_eq (n := 59) (tgt := 73) dX8_ruling_56 rfl (by decide) (fun c_56 => ?_) (fun c_56 => ?_)
      · refine x_ild7 (n := 75) dX8_ruling_73 rfl ?_
        refine r_iret dX8_ruling_75 rfl ?_
        exact hq'
      · exact absurd (by decide) c_56
    · refine x_ist7 (n := 45) dX8_ruling_43 rfl (by decide) hxc ?_
      refine x_ild1 (n := 46) dX8_ruling_45 rfl ?_
      refine x_ic0 (n := 47) dX8_ruling_46 rfl ?_
      refine x_gets (n := 50) (q := zst_HIGHEST_HELD) dX8_ruling_47 rfl (by decide) fsX8_55 ?_
      refine x_tlen (n := 51) (q := zst_HIGHEST_HELD) (v := nI 3) dX8_ruling_50 rfl (by decide) rfl rfl ?_
      refine x_ic1 (n := 52) dX8_ruling_51 rfl ?_
      refine x_isubN (n := 53) dX8_ruling_52 rfl (by omega) ?_
      refine x_cN3 (n := 56) (d' := 0) zcX11_inside mnX8_27 dX8_ruling_53 rfl (Nat.le_of_ble_eq_true rfl) (Nat.le_of_ble_eq_true rfl) ?_
      refine c_X11_inside true (by rw [hkI]; exact (decide_eq_true ⟨by show (0 : Int) ≤ _; omega, by show _ ≤ (2 : Int); omega⟩).symm) ?_
      refine x_some ?_
      refine x_if_eq (n := 59) (tgt := 73) dX8_ruling_56 rfl (by decide) (fun c_56 => ?_) (fun c_56 => ?_)
      · exact absurd c_56 (by decide)
      · refine x_ild7 (n := 61) dX8_ruling_59 rfl ?_
        refine x_ic0 (n := 62) dX8_ruling_61 rfl ?_
        refine x_gets (n := 65) (q := zst_HIGHEST_HELD) dX8_ruling_62 rfl (by decide) fsX8_55 ?_
        refine x_ild1 (n := 66) dX8_ruling_65 rfl ?_
        refine x_tald (n := 67) (q := zst_HIGHEST_HELD) dX8_ruling_66 rfl (by decide) rfl (vp_in_nI (N := 3) (by first | decide | omega) (by decide)) ?_
        refine x_cN3 (n := 70) (d' := 1) zcX11_clamp mnX8_58 dX8_ruling_67 rfl (Nat.le_of_ble_eq_true rfl) (Nat.le_of_ble_eq_true rfl) ?_
        refine c_X11_clamp ?_
        refine x_some ?_
        refine x_goto (n := 75) dX8_ruling_70 (by decide) ?_
        refine r_iret dX8_ruling_75 rfl ?_
        rcases (by omega : key = 0 ∨ key = 1 ∨ key = 2) with rfl | rfl | rfl
        · exact (show clF v (nI 0) (nI 999) = heldF v 999 from clF_held v (by decide)) ▸ hq'
        · exact (show clF v (nI 0) (nI 100) = heldF v 100 from clF_held v (by decide)) ▸ hq'
        · exact (show clF v (nI 0) (nI 99999) = heldF v 99999 from clF_held v (by decide)) ▸ hq'
  have hru := gRule_eq g key a b c
  cases hc : cntF g (nI key) (vN g 3) with
  | none =>
    rw [hc] at hru
    have hnn : orNone (oI none) = -1000000005 := by decide
    refine x_ald0 (n := 1) dX8_ruling_0 rfl ?_
    refine x_ald0 (n := 2) dX8_ruling_1 rfl ?_
    refine x_ild1 (n := 3) dX8_ruling_2 rfl ?_
    refine x_ild2 (n := 4) dX8_ruling_3 rfl ?_
    refine x_cV2 (n := 7) (d' := 1) zcX8_counting mlX8_39 dX8_ruling_4 rfl (mK_Ts hM) (Nat.le_of_ble_eq_true rfl) (Nat.le_of_ble_eq_true rfl) ?_
    refine c_X8_counting hM hT hB hTI ?_
    rw [hc, hnn]
    refine x_some ?_
    refine x_cV1 (n := 10) (d' := 1) zcX8_numbered mlX8_43 dX8_ruling_7 rfl (mK_Ts hM) (Nat.le_of_ble_eq_true rfl) (Nat.le_of_ble_eq_true rfl) ?_
    refine c_X8_numberedN hM hT hB (decide_eq_false (by rw [show (-1000000005 : Int32).toInt = -1000000005 by decide]; omega)) ?_
    refine x_some ?_
    refine x_nst6 (n := 12) dX8_ruling_10 rfl (by decide) rfl ?_
    refine x_nld6 (n := 14) dX8_ruling_12 rfl ?_
    refine x_ifnonnullN (n := 17) dX8_ruling_14 rfl ?_
    refine x_ild1 (n := 18) dX8_ruling_17 rfl ?_
    refine x_ild3 (n := 19) dX8_ruling_18 rfl ?_
    refine x_ild4 (n := 21) dX8_ruling_19 rfl ?_
    refine x_ild5 (n := 23) dX8_ruling_21 rfl ?_
    refine x_cS4 (n := 26) (d' := 0) zcX8_valueWithout mlX8_47 dX8_ruling_23 rfl (Nat.le_of_ble_eq_true rfl) (Nat.le_of_ble_eq_true rfl) ?_
    refine c_X8_valueWithout hk ?_
    refine x_some ?_
    refine x_goto (n := 43) dX8_ruling_26 (by decide) ?_
    exact fin _ I _ rfl (fun _ _ => rfl) hru.symm
  | some t =>
    rw [hc] at hru
    obtain ⟨ht, hkt⟩ := cnt_lt hc
    obtain ⟨p, hp, hx⟩ := hT.2.2 t ht
    have hok := hTI t ht
    have hkk : vN g (2520 + 200 * t) = key := by unfold vN; rw [hkt, hkI]; rfl
    have hor : orNone (oI (some t)) = nI t := by unfold orNone oI; rw [nI_toInt (by omega), if_neg (by omega)]
    refine x_ald0 (n := 1) dX8_ruling_0 rfl ?_
    refine x_ald0 (n := 2) dX8_ruling_1 rfl ?_
    refine x_ild1 (n := 3) dX8_ruling_2 rfl ?_
    refine x_ild2 (n := 4) dX8_ruling_3 rfl ?_
    refine x_cV2 (n := 7) (d' := 1) zcX8_counting mlX8_39 dX8_ruling_4 rfl (mK_Ts hM) (Nat.le_of_ble_eq_true rfl) (Nat.le_of_ble_eq_true rfl) ?_
    refine c_X8_counting hM hT hB hTI ?_
    rw [hc, hor]
    refine x_some ?_
    refine x_cV1 (n := 10) (d' := 1) zcX8_numbered mlX8_43 dX8_ruling_7 rfl (mK_Ts hM) (Nat.le_of_ble_eq_true rfl) (Nat.le_of_ble_eq_true rfl) ?_
    refine c_X8_numbered hM hT hB ht hp ?_
    refine x_some ?_
    refine x_ast6 (n := 12) dX8_ruling_10 rfl (by decide) rfl ?_
    refine x_ald6 (n := 14) dX8_ruling_12 rfl ?_
    refine x_ifnonnull (n := 29) dX8_ruling_14 (by decide) ?_
    refine x_ald6 (n := 31) dX8_ruling_29 rfl ?_
    refine x_ild3 (n := 32) dX8_ruling_31 rfl ?_
    refine x_ild4 (n := 34) dX8_ruling_32 rfl ?_
    refine x_ild5 (n := 36) dX8_ruling_34 rfl ?_
    refine x_ald0 (n := 37) dX8_ruling_36 rfl ?_
    refine x_getR (n := 40) flX8_19 rfl dX8_ruling_37 rfl (mK_Ts hM) (mP_stack hM) ?_
    refine x_cV4 (n := 43) (d' := 1) zcX7_valueFor mlX8_51 dX8_ruling_40 rfl hx.2.1 (Nat.le_of_ble_eq_true rfl) (Nat.le_of_ble_eq_true rfl) ?_
    refine c_X7_valueFor hM hm hx hok (fun I2 hI2 => ?_)
    refine x_some ?_
    refine fin _ I2 _ rfl hI2 ?_
    rw [hkk]; exact hru.symm
end
