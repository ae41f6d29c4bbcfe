/-! ===== the class's tape: the first fault ===== -/
theorem mc_end (key v t : Nat) (cd : List CD) (st : List Nat) (ob on : Nat) (want : Bool) (pt : Nat) : mcP key [(0, v, t)] cd st ob on want pt = if want = true ∨ 0 < ob then (false, t, [], 0) else (true, 0, cd ++ sgs (popR 1 st), pt) := by
  unfold mcP
  rw [if_pos rfl]
theorem mc_4 (key v p : Nat) (r : List TK) (cd : List CD) (st : List Nat) (ob on : Nat) (want : Bool) (pt : Nat) : mcP key ((4, v, p) :: r) cd st ob on want pt = (false, p, [], 0) := by
  unfold mcP
  rw [if_neg (by omega)]
  cases want with
  | true => rw [if_pos rfl, if_neg (by omega), if_neg (by omega), if_neg (by omega), if_neg (by omega)]
  | false => rw [if_neg (by decide), if_neg (by omega), if_neg (by omega)]
theorem mc_1w {key v p : Nat} {r : List TK} {cd : List CD} {st : List Nat} {ob on pt : Nat} (hv : v ≠ 0) (hn : isNm key (nI v) = true) : mcP key ((1, v, p) :: r) cd st ob on true pt = mcP key r (cd ++ [(nI 1, nI v)] ++ sgs (popN st)) (rstN st) ob (on - (popN st).length) false (pt + 1) := by
  conv => lhs; unfold mcP
  rw [if_neg (by omega), if_pos rfl, if_neg (by omega), if_pos ⟨rfl, hv, hn⟩]
theorem mc_1n {key v p : Nat} {r : List TK} {cd : List CD} {st : List Nat} {ob on pt : Nat} (hn : ¬ (v ≠ 0 ∧ isNm key (nI v) = true)) : mcP key ((1, v, p) :: r) cd st ob on true pt = (false, p, [], 0) := by
  unfold mcP
  rw [if_neg (by omega), if_pos rfl, if_neg (by omega), if_neg (fun h => hn h.2), if_neg (by omega), if_neg (by omega)]
theorem mc_12f {key k v p : Nat} {r : List TK} {cd : List CD} {st : List Nat} {ob on pt : Nat} (hk : k = 1 ∨ k = 2) : mcP key ((k, v, p) :: r) cd st ob on false pt = (false, p, [], 0) := by
  unfold mcP
  rw [if_neg (by show ¬ k = 0; omega), if_neg (by decide), if_neg (by show ¬ (k = 3 ∧ _); omega), if_neg (by show ¬ (k = 3 ∧ _); omega)]
theorem mc_2w {key v p : Nat} {r : List TK} {cd : List CD} {st : List Nat} {ob on pt : Nat} : mcP key ((2, v, p) :: r) cd st ob on true pt = mcP key r (cd ++ [(nI 0, nI v)] ++ sgs (popN st)) (rstN st) ob (on - (popN st).length) false (pt + 1) := by
  conv => lhs; unfold mcP
  rw [if_neg (by omega), if_pos rfl, if_pos rfl]
theorem mc_3w {key v p : Nat} {r : List TK} {cd : List CD} {st : List Nat} {ob on pt : Nat} : mcP key ((3, v, p) :: r) cd st ob on true pt = if v = 40 ∧ ob < 8 then mcP key r cd (40 :: st) (ob + 1) on true pt else if v = 33 ∧ on < 8 then mcP key r cd (33 :: st) ob (on + 1) true pt else (false, p, [], 0) := by
  conv => lhs; unfold mcP
  rw [if_neg (by omega), if_pos rfl, if_neg (by omega), if_neg (by omega)]
  by_cases h1 : v = 40 ∧ ob < 8
  · rw [if_pos h1, if_pos ⟨⟨rfl, h1.1⟩, h1.2⟩]
  · rw [if_neg h1, if_neg (fun h => h1 ⟨h.1.2, h.2⟩)]
    by_cases h2 : v = 33 ∧ on < 8
    · rw [if_pos h2, if_pos ⟨⟨rfl, h2.1⟩, h2.2⟩]
    · rw [if_neg h2, if_neg (fun h => h2 ⟨h.1.2, h.2⟩)]
theorem mc_3f {key v p : Nat} {r : List TK} {cd : List CD} {st : List Nat} {ob on pt : Nat} : mcP key ((3, v, p) :: r) cd st ob on false pt = if v = 41 then (if ob = 0 then (false, p, [], 0) else mcP key r (cd ++ sgs (popR 1 st) ++ sgs (popN (rstR 1 st).tail)) (rstN (rstR 1 st).tail) (ob - 1) (on - (popN (rstR 1 st).tail).length) false pt) else if 0 < rnk v then (if rnk v = 3 ∧ rnk ((rstR 4 st).headD 0) = 3 then (false, p, [], 0) else mcP key r (cd ++ sgs (popR (rnk v) st)) (v :: rstR (rnk v) st) ob on true pt) else (false, p, [], 0) := by
  conv => lhs; unfold mcP
  rw [if_neg (by omega), if_neg (by decide)]
  by_cases h1 : v = 41
  · rw [if_pos h1, if_pos ⟨rfl, h1⟩]
  · rw [if_neg h1, if_neg (fun h => h1 h.2)]
    by_cases h2 : 0 < rnk v
    · rw [if_pos h2, if_pos ⟨rfl, h2⟩]
    · rw [if_neg h2, if_neg (fun h => h2 h.2)]
/-- what is asked behind the reading -/
def ffQ (Z : zS) (Q : Option Value → zS → zI → Prop) (key : Nat) (I0 : zI) (R : MS) : Prop := (R.1 = false → ∀ J, tpO I0 J → Q (some (.int (nI R.2.1))) Z J) ∧ (R.1 = true → ∀ J st' ob' on', tpO I0 J → tpS J (ccs key R.2.2.1) st' ob' on' R.2.2.2 false → Q (some (.int (-1))) Z J)
def ffI (t p : Nat) (cd : List CD) (st : List Nat) (ob on pt : Nat) : Prop := stI st ob on ∧ cd.length + st.length + (t - p) ≤ 96 ∧ pt ≤ cd.length ∧ ob ≤ 8 ∧ on ≤ 8
theorem sgs_len (l : List Nat) : (sgs l).length = l.length := List.length_map _
theorem ffI_pt {t p e : Nat} {cd : List CD} {st : List Nat} {ob on pt : Nat} {x : CD} (h : ffI t p cd st ob on pt) (hp : p < t) (he : p < e) : ffI t e (cd ++ [x] ++ sgs (popN st)) (rstN st) ob (on - (popN st).length) (pt + 1) := by
  obtain ⟨h1, h2, h3, h4, h5⟩ := h
  have := pn_len st
  refine ⟨stI_pt h1, ?_, ?_, h4, by omega⟩
  · rw [List.length_append, List.length_append, sgs_len, List.length_singleton]; omega
  · rw [List.length_append, List.length_append, List.length_singleton]; omega
theorem ffI_cl {t p : Nat} {cd : List CD} {st : List Nat} {ob on pt : Nat} (h : ffI t p cd st ob on pt) (hp : p < t) (h0 : 0 < ob) : ffI t (p + 1) (cd ++ sgs (popR 1 st) ++ sgs (popN (rstR 1 st).tail)) (rstN (rstR 1 st).tail) (ob - 1) (on - (popN (rstR 1 st).tail).length) pt := by
  obtain ⟨h1, h2, h3, h4, h5⟩ := h
  have a := pn_len (rstR 1 st).tail
  have b := pr_len 1 st
  have c : (rstR 1 st).tail.length ≤ (rstR 1 st).length := by rw [List.length_tail]; omega
  refine ⟨stI_cl h1, ?_, ?_, by omega, by omega⟩
  · rw [List.length_append, List.length_append, sgs_len, sgs_len]; omega
  · rw [List.length_append, List.length_append]; omega
theorem ffI_sg {t p c : Nat} {cd : List CD} {st : List Nat} {ob on pt : Nat} (h : ffI t p cd st ob on pt) (hp : p < t) (hc : c < 256) (h33 : c ≠ 33) (hr : 0 < rnk c) : ffI t (p + 1) (cd ++ sgs (popR (rnk c) st)) (c :: rstR (rnk c) st) ob on pt := by
  obtain ⟨h1, h2, h3, h4, h5⟩ := h
  have b := pr_len (rnk c) st
  refine ⟨stI_sg h1 hc h33 hr, ?_, ?_, h4, h5⟩
  · rw [List.length_append, sgs_len, List.length_cons]; omega
  · rw [List.length_append]; omega
theorem ffI_40 {t p : Nat} {cd : List CD} {st : List Nat} {ob on pt : Nat} (h : ffI t p cd st ob on pt) (hp : p < t) (h0 : ob < 8) : ffI t (p + 1) cd (40 :: st) (ob + 1) on pt := by
  obtain ⟨h1, h2, h3, h4, h5⟩ := h
  exact ⟨stI_40 h1, by rw [List.length_cons]; omega, h3, by omega, h5⟩
theorem ffI_33 {t p : Nat} {cd : List CD} {st : List Nat} {ob on pt : Nat} (h : ffI t p cd st ob on pt) (hp : p < t) (h0 : on < 8) : ffI t (p + 1) cd (33 :: st) ob (on + 1) pt := by
  obtain ⟨h1, h2, h3, h4, h5⟩ := h
  exact ⟨stI_33 h1, by rw [List.length_cons]; omega, h3, h4, by omega⟩
theorem ffI_bl {t p : Nat} {cd : List CD} {st : List Nat} {ob on pt : Nat} (h : ffI t p cd st ob on pt) : ffI t (p + 1) cd st ob on pt := by
  obtain ⟨h1, h2, h3, h4, h5⟩ := h
  exact ⟨h1, by omega, h3, h4, h5⟩
abbrev isWd (f : Nat → Int32) (t k : Nat) : Bool := isLe f t k || isDi f t k
section
variable {l : Launch} {G : zG} {Z : zS} {I : zI} {Q : Option Value → zS → zI → Prop} {t p e : Nat} {w1 : Int32} {w3 w4 : Option Value}
theorem f_fail (hq : Q (some (.int (nI p))) Z I) : zX l G mX6_firstFault 5 0 0 92 [some (.ref 244), some (.int w1), some (.int (nI p)), w3, w4] [] Z I Q := by
  refine x_ild2 (n := 93) dX6_firstFault_92 rfl ?_
  refine r_iret dX6_firstFault_93 rfl ?_
  exact hq
theorem f_nxt (hpe : p < e) (he : e ≤ 100) (hq : zX l G mX6_firstFault 5 0 0 2 [some (.ref 244), some (.int w1), some (.int (nI e)), some (.int (nI e)), w4] [] Z I Q) : zX l G mX6_firstFault 5 0 0 94 [some (.ref 244), some (.int w1), some (.int (nI p)), some (.int (nI e)), w4] [] Z I Q := by
  have hm : (if nI p < nI (e - 1) then nI (e - 1) else nI p) = nI (e - 1) := by
    by_cases h : p < e - 1
    · rw [if_pos (nI_lt h (by omega))]
    · rw [if_neg (nI_nlt (by omega) (by omega)), show p = e - 1 by omega]
  refine x_ild2 (n := 95) dX6_firstFault_94 rfl ?_
  refine x_ild3 (n := 96) dX6_firstFault_95 rfl ?_
  refine x_ic1 (n := 97) dX6_firstFault_96 rfl ?_
  refine x_isubN (n := 98) dX6_firstFault_97 rfl (by omega) ?_
  refine x_mmax (n := 101) dX6_firstFault_98 rfl mlX6_84 zu_max zi_J9 zv_max (by decide) (Nat.le_of_ble_eq_true rfl) ?_
  refine x_top hm ?_
  refine x_ist2 (n := 102) dX6_firstFault_101 rfl (by decide) rfl ?_
  refine x_iincN2 (n := 105) (k := 1) dX6_firstFault_102 rfl (by decide) rfl ?_
  refine x_goto (n := 2) dX6_firstFault_105 (by decide) ?_
  rw [show e - 1 + 1 = e by omega]
  exact hq
theorem f_73n (h : zX l G mX6_firstFault 5 0 0 92 [some (.ref 244), some (.int w1), some (.int (nI p)), w3, w4] [] Z I Q) : zX l G mX6_firstFault 5 0 0 73 [some (.ref 244), some (.int w1), some (.int (nI p)), w3, w4] [.int (nI 0)] Z I Q := by
  refine x_if_eq (n := 76) (tgt := 92) dX6_firstFault_73 rfl (by decide) (fun c_73 => ?_) (fun c_73 => ?_)
  · exact h
  · exact absurd (by decide) c_73
theorem f_73y (h : zX l G mX6_firstFault 5 0 0 94 [some (.ref 244), some (.int w1), some (.int (nI p)), w3, w4] [] Z I Q) : zX l G mX6_firstFault 5 0 0 73 [some (.ref 244), some (.int w1), some (.int (nI p)), w3, w4] [.int (nI 1)] Z I Q := by
  refine x_if_eq (n := 76) (tgt := 92) dX6_firstFault_73 rfl (by decide) (fun c_73 => ?_) (fun c_73 => ?_)
  · exact absurd c_73 (by decide)
  · refine x_goto (n := 94) dX6_firstFault_76 (by decide) ?_
    exact h
theorem f_89n (h : zX l G mX6_firstFault 5 0 0 92 [some (.ref 244), some (.int w1), some (.int (nI p)), w3, w4] [] Z I Q) : zX l G mX6_firstFault 5 0 0 89 [some (.ref 244), some (.int w1), some (.int (nI p)), w3, w4] [.int (nI 0)] Z I Q := by
  refine x_if_ne (n := 92) (tgt := 94) dX6_firstFault_89 rfl (by decide) (fun c_89 => ?_) (fun c_89 => ?_)
  · exact absurd (by decide) c_89
  · exact h
theorem f_89y (h : zX l G mX6_firstFault 5 0 0 94 [some (.ref 244), some (.int w1), some (.int (nI p)), w3, w4] [] Z I Q) : zX l G mX6_firstFault 5 0 0 89 [some (.ref 244), some (.int w1), some (.int (nI p)), w3, w4] [.int (nI 1)] Z I Q := by
  refine x_if_ne (n := 92) (tgt := 94) dX6_firstFault_89 rfl (by decide) (fun c_89 => ?_) (fun c_89 => ?_)
  · exact h
  · exact absurd c_89 (by decide)
/-- from the loop's head to the question what is wanted -/
theorem f_head (hS : ShL Z) (h1 : I 244 1 = nI t) (ht : t ≤ 96) (hp : p < t) (hp0 : 0 < p) (hb : ¬ I 245 p = nI 32)
    (k1 : (isWd (I 245) t p && isWd (I 245) t (p - 1)) = true → zX l G mX6_firstFault 5 0 0 92 [some (.ref 244), some (.int w1), some (.int (nI p)), some (.int (nI (skW (I 245) t p (t - (p + 1)) (p + 1)))), some (.int (nI 1))] [] Z I Q)
    (k2 : (isWd (I 245) t p && isWd (I 245) t (p - 1)) = false → zX l G mX6_firstFault 5 0 0 60 [some (.ref 244), some (.int w1), some (.int (nI p)), some (.int (nI (skW (I 245) t p (t - (p + 1)) (p + 1)))), some (.int (nI 0))] [] Z I Q) :
    zX l G mX6_firstFault 5 0 0 2 [some (.ref 244), some (.int w1), some (.int (nI p)), w3, w4] [] Z I Q := by
  refine x_ild2 (n := 3) dX6_firstFault_2 rfl ?_
  refine x_ald0 (n := 4) dX6_firstFault_3 rfl ?_
  refine x_getI (n := 7) flX6_19 rfl dX6_firstFault_4 rfl (lK_Tp hS) ?_
  rw [h1]
  refine x_icmpN_ge (n := 10) (tgt := 108) dX6_firstFault_7 rfl (by decide) (by omega) (by omega) (fun c_7 => ?_) (fun c_7 => ?_)
  · exact absurd c_7 (by omega)
  · refine x_ald0 (n := 11) dX6_firstFault_10 rfl ?_
    refine x_getR (n := 14) flX6_9 rfl dX6_firstFault_11 rfl (lK_Tp hS) (lP_bytes hS) ?_
    refine x_ild2 (n := 15) dX6_firstFault_14 rfl ?_
    refine x_ialdN (n := 16) dX6_firstFault_15 rfl (lA_bytes hS) (Nat.le_of_ble_eq_true rfl) (by omega) ?_
    refine x_bipush (n := 18) (v := nI 32) dX6_firstFault_16 rfl (by decide) ?_
    refine x_icmp_ne (n := 21) (tgt := 24) dX6_firstFault_18 rfl (by decide) (fun c_18 => ?_) (fun c_18 => ?_)
    · refine x_ald0 (n := 25) dX6_firstFault_24 rfl ?_
      refine x_ild2 (n := 26) dX6_firstFault_25 rfl ?_
      refine x_cV1 (n := 29) (d' := 2) zcX6_endOfWord mlX6_46 dX6_firstFault_26 rfl (lK_Tp hS) (Nat.le_of_ble_eq_true rfl) (Nat.le_of_ble_eq_true rfl) ?_
      refine c_X6_endOfWord hS h1 ht (by omega) ?_
      refine x_some ?_
      refine x_ist3 (n := 30) dX6_firstFault_29 rfl (by decide) rfl ?_
      refine x_ald0 (n := 31) dX6_firstFault_30 rfl ?_
      refine x_ild2 (n := 32) dX6_firstFault_31 rfl ?_
      refine x_cV1 (n := 35) (d' := 2) zcX6_isWordByte mlX6_73 dX6_firstFault_32 rfl (lK_Tp hS) (Nat.le_of_ble_eq_true rfl) (Nat.le_of_ble_eq_true rfl) ?_
      refine c_X6_isWordByte hS h1 ht (by omega) ?_
      refine x_some ?_
      refine x_zif_eq (n := 38) (tgt := 52) dX6_firstFault_35 rfl (by decide) (fun c_35 => ?_) (fun c_35 => ?_)
      · refine x_ic0 (n := 53) dX6_firstFault_52 rfl ?_
        refine x_ist4 (n := 55) dX6_firstFault_53 rfl (by decide) rfl ?_
        refine x_ild4 (n := 57) dX6_firstFault_55 rfl ?_
        refine x_if_ne (n := 60) (tgt := 92) dX6_firstFault_57 rfl (by decide) (fun c_57 => ?_) (fun c_57 => ?_)
        · exact absurd (by decide) c_57
        · first | exact k2 (by unfold isWd; rw [c_35, Bool.false_and]) | exact k2 (by unfold isWd; rw [c_35, c_45]; rfl)
      · refine x_ald0 (n := 39) dX6_firstFault_38 rfl ?_
        refine x_ild2 (n := 40) dX6_firstFault_39 rfl ?_
        refine x_ic1 (n := 41) dX6_firstFault_40 rfl ?_
        refine x_isubN (n := 42) dX6_firstFault_41 rfl (by omega) ?_
        refine x_cV1 (n := 45) (d' := 2) zcX6_isWordByte mlX6_73 dX6_firstFault_42 rfl (lK_Tp hS) (Nat.le_of_ble_eq_true rfl) (Nat.le_of_ble_eq_true rfl) ?_
        refine c_X6_isWordByte hS h1 ht (by omega) ?_
        refine x_some ?_
        refine x_zif_eq (n := 48) (tgt := 52) dX6_firstFault_45 rfl (by decide) (fun c_45 => ?_) (fun c_45 => ?_)
        · refine x_ic0 (n := 53) dX6_firstFault_52 rfl ?_
          refine x_ist4 (n := 55) dX6_firstFault_53 rfl (by decide) rfl ?_
          refine x_ild4 (n := 57) dX6_firstFault_55 rfl ?_
          refine x_if_ne (n := 60) (tgt := 92) dX6_firstFault_57 rfl (by decide) (fun c_57 => ?_) (fun c_57 => ?_)
          · exact absurd (by decide) c_57
          · first | exact k2 (by unfold isWd; rw [c_35, Bool.false_and]) | exact k2 (by unfold isWd; rw [c_35, c_45]; rfl)
        · refine x_ic1 (n := 49) dX6_firstFault_48 rfl ?_
          refine x_goto (n := 53) dX6_firstFault_49 (by decide) ?_
          refine x_ist4 (n := 55) dX6_firstFault_53 rfl (by decide) rfl ?_
          refine x_ild4 (n := 57) dX6_firstFault_55 rfl ?_
          refine x_if_ne (n := 60) (tgt := 92) dX6_firstFault_57 rfl (by decide) (fun c_57 => ?_) (fun c_57 => ?_)
          · exact k1 (by unfold isWd; rw [c_35, c_45]; rfl)
          · exact absurd c_57 (by decide)
    · exact absurd c_18 hb
end
