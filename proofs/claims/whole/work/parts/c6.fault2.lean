/-! ===== the class's tape: the first fault, token by token ===== -/
theorem skL_1 {f : Nat → Int32} {t p : Nat} (hp : p < t) (h : isLe f t p = true) : skL f t (t - p) p = skL f t (t - (p + 1)) (p + 1) := by
  obtain ⟨m, hm⟩ : ∃ m, t - p = m + 1 := ⟨t - p - 1, by omega⟩
  rw [hm, show t - (p + 1) = m by omega]
  conv => lhs; unfold skL
  rw [if_pos h]
theorem skD_1 {f : Nat → Int32} {t p : Nat} (hp : p < t) (h : isDi f t p = true) : skD f t (t - p) p = skD f t (t - (p + 1)) (p + 1) := by
  obtain ⟨m, hm⟩ : ∃ m, t - p = m + 1 := ⟨t - p - 1, by omega⟩
  rw [hm, show t - (p + 1) = m by omega]
  conv => lhs; unfold skD
  rw [if_pos h]
theorem skL_b {f : Nat → Int32} {t : Nat} : ∀ (n p : Nat), p ≤ skL f t n p ∧ skL f t n p ≤ p + n ∧ (p < skL f t n p → isLe f t (skL f t n p - 1) = true)
  | 0, p => ⟨Nat.le_refl _, Nat.le_refl _, fun h => absurd h (by unfold skL; omega)⟩
  | n + 1, p => by
    have ih := skL_b (f := f) (t := t) n (p + 1)
    unfold skL
    by_cases h : isLe f t p = true
    · rw [if_pos h]
      refine ⟨by omega, by omega, fun _ => ?_⟩
      by_cases h2 : p + 1 < skL f t n (p + 1)
      · exact ih.2.2 h2
      · rw [show skL f t n (p + 1) - 1 = p by omega]; exact h
    · rw [if_neg h]
      exact ⟨Nat.le_refl _, by omega, fun h => absurd h (by omega)⟩
theorem skD_b {f : Nat → Int32} {t : Nat} : ∀ (n p : Nat), p ≤ skD f t n p ∧ skD f t n p ≤ p + n ∧ (p < skD f t n p → isDi f t (skD f t n p - 1) = true)
  | 0, p => ⟨Nat.le_refl _, Nat.le_refl _, fun h => absurd h (by unfold skD; omega)⟩
  | n + 1, p => by
    have ih := skD_b (f := f) (t := t) n (p + 1)
    unfold skD
    by_cases h : isDi f t p = true
    · rw [if_pos h]
      refine ⟨by omega, by omega, fun _ => ?_⟩
      by_cases h2 : p + 1 < skD f t n (p + 1)
      · exact ih.2.2 h2
      · rw [show skD f t n (p + 1) - 1 = p by omega]; exact h
    · rw [if_neg h]
      exact ⟨Nat.le_refl _, by omega, fun h => absurd h (by omega)⟩
theorem isLe_c {f : Nat → Int32} {t k c : Nat} (h : isLe f t k = true) (hc : f k = nI c) (h256 : c < 256) : 97 ≤ c ∧ c ≤ 122 := by
  unfold isLe zin at h
  rw [hc] at h
  simp only [Bool.and_eq_true, decide_eq_true_eq] at h
  have h1 := h.2
  rw [nI_toInt (by omega)] at h1
  omega
theorem isDi_c {f : Nat → Int32} {t k c : Nat} (h : isDi f t k = true) (hc : f k = nI c) (h256 : c < 256) : 48 ≤ c ∧ c ≤ 57 := by
  unfold isDi zin at h
  rw [hc] at h
  simp only [Bool.and_eq_true, decide_eq_true_eq] at h
  have h1 := h.2
  rw [nI_toInt (by omega)] at h1
  omega
theorem rnk_w : ∀ c : Fin 256, (97 ≤ c.val ∨ (48 ≤ c.val ∧ c.val ≤ 57)) → c.val ≤ 122 → rnk c.val = 0 := by decide +kernel
theorem skD_a {f : Nat → Int32} {t : Nat} : ∀ (n p j : Nat), j < skD f t n p - p → isDi f t (p + j) = true
  | 0, p, j, h => absurd h (by unfold skD; omega)
  | n + 1, p, j, h => by
    unfold skD at h
    by_cases hd : isDi f t p = true
    · rw [if_pos hd] at h
      have hb := skD_b (f := f) (t := t) n (p + 1)
      cases j with
      | zero => exact hd
      | succ j => rw [show p + (j + 1) = p + 1 + j by omega]; exact skD_a n (p + 1) j (by omega)
    · rw [if_neg hd] at h; omega
theorem LD_no {f : Nat → Int32} {t p c : Nat} (hc : f p = nI c) (h256 : c < 256) (hL : isLe f t p = true) : isDi f t p = false := by
  have h1 := isLe_c hL hc h256
  cases hD : isDi f t p with
  | false => rfl
  | true => have h2 := isDi_c hD hc h256; omega
def ffH (l : Launch) (G : zG) (Z : zS) (Q : Option Value → zS → zI → Prop) (I0 : zI) (t key p n : Nat) (w1 : Int32) : Prop := ∀ (e : Nat) (w' : Bool) (cd' : List CD) (st' : List Nat) (ob' on' pt' : Nat) (want' : Bool) (I' : zI) (w3 w4 : Option Value), p < e → e ≤ t → w' = isWd (I0 245) t (e - 1) → ffI t e cd' st' ob' on' pt' → tpO I0 I' → tpS I' (ccs key cd') st' ob' on' pt' want' → ffQ Z Q key I0 (mcP key (tkL (I0 245) t n e w') cd' st' ob' on' want' pt') → zX l G mX6_firstFault 5 0 0 2 [some (.ref 244), some (.int w1), some (.int (nI e)), w3, w4] [] Z I' Q
section
variable {l : Launch} {G : zG} {Z : zS} {I I0 : zI} {Q : Option Value → zS → zI → Prop} {t p key : Nat} {w1 : Int32} {w4 : Option Value} {cd : List CD} {st : List Nat} {ob on pt n : Nat} {want : Bool}
theorem s_let (hS : ShL Z) (h1 : I0 244 1 = nI t) (ht : t ≤ 96) (h7 : I0 244 7 = nI key) (hk : key < 4) (hy : byR (I0 245) t) (hp : p < t) (hL : isLe (I0 245) t p = true) (hF : ffI t p cd st ob on pt) (hO : tpO I0 I) (h : tpS I (ccs key cd) st ob on pt want) (hH : ffH l G Z Q I0 t key p n w1)
    (hQ : ffQ Z Q key I0 (mcP key ((1, (if skL (I0 245) t (t - p) p - p = 1 then vN (I0 245) p else 0), p) :: tkL (I0 245) t n (skL (I0 245) t (t - p) p) true) cd st ob on want pt)) :
    zX l G mX6_firstFault 5 0 0 60 [some (.ref 244), some (.int w1), some (.int (nI p)), some (.int (nI (skL (I0 245) t (t - p) p))), w4] [] Z I Q := by
  have e5 : I 245 = I0 245 := hO.1 245 (by decide) (by decide) (by decide)
  have g1 : I 244 1 = nI t := (hO.2 1 (by omega)).trans h1
  have g7 : I 244 7 = nI key := (hO.2 7 (by omega)).trans h7
  obtain ⟨hc, h256⟩ := hy p hp
  have hcb : I 245 p = nI (vN (I0 245) p) := by rw [e5]; exact hc
  have hcr := isLe_c hL hc h256
  have hD : isDi (I0 245) t p = false := LD_no hc h256 hL
  have h11 : I 244 11 = zb want := h.2.2.2.2.2.2.2
  obtain ⟨f1, f2, f3, f4, f5⟩ := id hF
  have hcl : (ccs key cd).length = cd.length := ccs_len key cd
  have sb := skL_b (f := I0 245) (t := t) (t - p) p
  have sp : p < skL (I0 245) t (t - p) p := by
    rw [skL_1 hp hL]
    have := skL_b (f := I0 245) (t := t) (t - (p + 1)) (p + 1)
    omega
  cases want with
  | true =>
    have hpart : zX l G mX6_firstFault 5 0 0 67 [some (.ref 244), some (.int w1), some (.int (nI p)), some (.int (nI (skL (I0 245) t (t - p) p))), w4] [] Z I Q := by
      by_cases hw : skL (I0 245) t (t - p) p - p = 1
      · rw [if_pos hw] at hQ
        have k0 : isNm key (nI (vN (I0 245) p)) = false → Q (some (.int (nI p))) Z I := fun hn => by
          rw [mc_1n (by rw [hn]; intro h; cases h.2)] at hQ
          exact hQ.1 rfl I hO
        have k1 : isNm key (nI (vN (I0 245) p)) = true → ∀ J, tpO I J → tpS J (ccs key cd ++ [nI (10000 + nmI key (nI (vN (I0 245) p)))] ++ ngs (popN st)) (rstN st) ob (on - (popN st).length) (pt + 1) false → zX l G mX6_firstFault 5 0 0 94 [some (.ref 244), some (.int w1), some (.int (nI p)), some (.int (nI (skL (I0 245) t (t - p) p))), w4] [] Z J Q := fun hn J hJ hJs => by
          rw [mc_1w (by omega) hn] at hQ
          refine f_nxt sp (by omega) (hH _ true _ _ _ _ _ false J _ _ sp (by omega) ?_ (ffI_pt (x := (nI 1, nI (vN (I0 245) p))) hF hp sp) (tpO_t hO hJ) ?_ hQ)
          · unfold isWd; rw [sb.2.2 sp]; rfl
          · rw [ccs_app, ccs_app, ccs_sgs]
            exact hJs
        refine x_ald0 (n := 68) dX6_firstFault_67 rfl ?_
        refine x_ild2 (n := 69) dX6_firstFault_68 rfl ?_
        refine x_ild3 (n := 70) dX6_firstFault_69 rfl ?_
        refine x_cV2 (n := 73) (d' := 4) zcX6_takesPart mlX6_77 dX6_firstFault_70 rfl (lK_Tp hS) (Nat.le_of_ble_eq_true rfl) (Nat.le_of_ble_eq_true rfl) ?_
        exact c_X6_takesPartL (c := vN (I0 245) p) (k := key) hS g1 ht hp (by omega) (by omega) (by rw [e5]; exact hL) (by rw [e5]; exact hD) hw g7 hk hcb (by omega) h (by omega) f1.2.2 (by omega) (stI_on2 f1) (fun hn => x_some (f_73n (f_fail (k0 hn)))) (fun hn J hJ hJs => x_some (f_73y (k1 hn J hJ hJs)))
        done
      · rw [if_neg hw, mc_1n (fun h => h.1 rfl)] at hQ
        refine x_ald0 (n := 68) dX6_firstFault_67 rfl ?_
        refine x_ild2 (n := 69) dX6_firstFault_68 rfl ?_
        refine x_ild3 (n := 70) dX6_firstFault_69 rfl ?_
        refine x_cV2 (n := 73) (d' := 4) zcX6_takesPart mlX6_77 dX6_firstFault_70 rfl (lK_Tp hS) (Nat.le_of_ble_eq_true rfl) (Nat.le_of_ble_eq_true rfl) ?_
        exact c_X6_takesPartW hS g1 ht hp (by omega) (by omega) (by rw [e5]; exact hL) (by rw [e5]; exact hD) hw (x_some (f_73n (f_fail (hQ.1 rfl I hO))))
        done
    refine x_ald0 (n := 61) dX6_firstFault_60 rfl ?_
    refine x_getI (n := 64) flX6_38 rfl dX6_firstFault_61 rfl (lK_Tp hS) ?_
    rw [h11]
    refine x_zif_eq (n := 67) (tgt := 79) dX6_firstFault_64 rfl (by decide) (fun c_64 => ?_) (fun c_64 => ?_)
    · exact absurd c_64 (by decide)
    · exact hpart
  | false =>
    rw [mc_12f (Or.inl rfl)] at hQ
    have hr : rnk (vN (I0 245) p) = 0 := rnk_w ⟨_, h256⟩ (Or.inl hcr.1) hcr.2
    refine x_ald0 (n := 61) dX6_firstFault_60 rfl ?_
    refine x_getI (n := 64) flX6_38 rfl dX6_firstFault_61 rfl (lK_Tp hS) ?_
    rw [h11]
    refine x_zif_eq (n := 67) (tgt := 79) dX6_firstFault_64 rfl (by decide) (fun c_64 => ?_) (fun c_64 => ?_)
    · refine x_ald0 (n := 80) dX6_firstFault_79 rfl ?_
      refine x_ald0 (n := 81) dX6_firstFault_80 rfl ?_
      refine x_getR (n := 84) flX6_9 rfl dX6_firstFault_81 rfl (lK_Tp hS) (lP_bytes hS) ?_
      refine x_ild2 (n := 85) dX6_firstFault_84 rfl ?_
      refine x_ialdN (n := 86) dX6_firstFault_85 rfl (lA_bytes hS) (Nat.le_of_ble_eq_true rfl) (by omega) ?_
      refine x_top hcb ?_
      refine x_cV1 (n := 89) (d' := 3) zcX6_takesSign mlX6_81 dX6_firstFault_86 rfl (lK_Tp hS) (Nat.le_of_ble_eq_true rfl) (Nat.le_of_ble_eq_true rfl) ?_
      exact c_X6_takesSign hS h256 h (by omega) f1.2.2 f4 (stI_ne f1) (stI_on f1) (fun _ J hJ => x_some (f_89n (f_fail (hQ.1 rfl J (tpO_t hO hJ))))) (fun a => absurd a (by omega)) (fun _ a => absurd a (by omega))
      done
    · exact absurd c_64 (by decide)
theorem s_dig (hS : ShL Z) (h1 : I0 244 1 = nI t) (ht : t ≤ 96) (hy : byR (I0 245) t) (hp : p < t) (hL : isLe (I0 245) t p = false) (hD : isDi (I0 245) t p = true) (hF : ffI t p cd st ob on pt) (hO : tpO I0 I) (h : tpS I (ccs key cd) st ob on pt want) (hH : ffH l G Z Q I0 t key p n w1)
    (hQ : ffQ Z Q key I0 (mcP key (((if 4 < skD (I0 245) t (t - p) p - p then 4 else 2), dgN (I0 245) p (skD (I0 245) t (t - p) p - p), p) :: tkL (I0 245) t n (skD (I0 245) t (t - p) p) (decide (¬ 4 < skD (I0 245) t (t - p) p - p))) cd st ob on want pt)) :
    zX l G mX6_firstFault 5 0 0 60 [some (.ref 244), some (.int w1), some (.int (nI p)), some (.int (nI (skD (I0 245) t (t - p) p))), w4] [] Z I Q := by
  have e5 : I 245 = I0 245 := hO.1 245 (by decide) (by decide) (by decide)
  have g1 : I 244 1 = nI t := (hO.2 1 (by omega)).trans h1
  obtain ⟨hc, h256⟩ := hy p hp
  have hcb : I 245 p = nI (vN (I0 245) p) := by rw [e5]; exact hc
  have hcr := isDi_c hD hc h256
  have h11 : I 244 11 = zb want := h.2.2.2.2.2.2.2
  obtain ⟨f1, f2, f3, f4, f5⟩ := id hF
  have hcl : (ccs key cd).length = cd.length := ccs_len key cd
  have sb := skD_b (f := I0 245) (t := t) (t - p) p
  have sp : p < skD (I0 245) t (t - p) p := by
    rw [skD_1 hp hD]
    have := skD_b (f := I0 245) (t := t) (t - (p + 1)) (p + 1)
    omega
  cases want with
  | true =>
    have k0 : 4 < skD (I0 245) t (t - p) p - p → Q (some (.int (nI p))) Z I := fun h4 => by
      rw [if_pos h4, mc_4] at hQ
      exact hQ.1 rfl I hO
    have k1 : skD (I0 245) t (t - p) p - p ≤ 4 → ∀ J, tpO I J → tpS J (ccs key cd ++ [dgF (I 245) p (skD (I0 245) t (t - p) p - p)] ++ ngs (popN st)) (rstN st) ob (on - (popN st).length) (pt + 1) false → zX l G mX6_firstFault 5 0 0 94 [some (.ref 244), some (.int w1), some (.int (nI p)), some (.int (nI (skD (I0 245) t (t - p) p))), w4] [] Z J Q := fun h4 J hJ hJs => by
      rw [if_neg (by omega), mc_2w, decide_eq_true (by omega)] at hQ
      refine f_nxt sp (by omega) (hH _ true _ _ _ _ _ false J _ _ sp (by omega) ?_ (ffI_pt (x := (nI 0, nI (dgN (I0 245) p (skD (I0 245) t (t - p) p - p)))) hF hp sp) (tpO_t hO hJ) ?_ hQ)
      · unfold isWd; rw [sb.2.2 sp, Bool.or_true]
      · rw [ccs_app, ccs_app, ccs_sgs]
        have hx : ccs key [(nI 0, nI (dgN (I0 245) p (skD (I0 245) t (t - p) p - p)))] = [dgF (I 245) p (skD (I0 245) t (t - p) p - p)] := by
          rw [e5, (dgF_N hy _ (fun j hj => skD_a _ p j hj)).1]
          rfl
        rw [hx]
        exact hJs
    refine x_ald0 (n := 61) dX6_firstFault_60 rfl ?_
    refine x_getI (n := 64) flX6_38 rfl dX6_firstFault_61 rfl (lK_Tp hS) ?_
    rw [h11]
    refine x_zif_eq (n := 67) (tgt := 79) dX6_firstFault_64 rfl (by decide) (fun c_64 => ?_) (fun c_64 => ?_)
    · exact absurd c_64 (by decide)
    · refine x_ald0 (n := 68) dX6_firstFault_67 rfl ?_
      refine x_ild2 (n := 69) dX6_firstFault_68 rfl ?_
      refine x_ild3 (n := 70) dX6_firstFault_69 rfl ?_
      refine x_cV2 (n := 73) (d' := 4) zcX6_takesPart mlX6_77 dX6_firstFault_70 rfl (lK_Tp hS) (Nat.le_of_ble_eq_true rfl) (Nat.le_of_ble_eq_true rfl) ?_
      exact c_X6_takesPartD hS g1 ht (by rw [e5]; exact hD) (by omega) (by omega) h (by omega) f1.2.2 (by omega) (stI_on2 f1) (fun h4 => x_some (f_73n (f_fail (k0 h4)))) (fun h4 J hJ hJs => x_some (f_73y (k1 h4 J hJ hJs)))
      done
  | false =>
    have hQ' : ffQ Z Q key I0 (false, p, [], 0) := by
      by_cases h4 : 4 < skD (I0 245) t (t - p) p - p
      · rw [if_pos h4, mc_4] at hQ; exact hQ
      · rw [if_neg h4, mc_12f (Or.inr rfl)] at hQ; exact hQ
    have hr : rnk (vN (I0 245) p) = 0 := rnk_w ⟨_, h256⟩ (Or.inr hcr) (by show vN (I0 245) p ≤ 122; omega)
    refine x_ald0 (n := 61) dX6_firstFault_60 rfl ?_
    refine x_getI (n := 64) flX6_38 rfl dX6_firstFault_61 rfl (lK_Tp hS) ?_
    rw [h11]
    refine x_zif_eq (n := 67) (tgt := 79) dX6_firstFault_64 rfl (by decide) (fun c_64 => ?_) (fun c_64 => ?_)
    · refine x_ald0 (n := 80) dX6_firstFault_79 rfl ?_
      refine x_ald0 (n := 81) dX6_firstFault_80 rfl ?_
      refine x_getR (n := 84) flX6_9 rfl dX6_firstFault_81 rfl (lK_Tp hS) (lP_bytes hS) ?_
      refine x_ild2 (n := 85) dX6_firstFault_84 rfl ?_
      refine x_ialdN (n := 86) dX6_firstFault_85 rfl (lA_bytes hS) (Nat.le_of_ble_eq_true rfl) (by omega) ?_
      refine x_top hcb ?_
      refine x_cV1 (n := 89) (d' := 3) zcX6_takesSign mlX6_81 dX6_firstFault_86 rfl (lK_Tp hS) (Nat.le_of_ble_eq_true rfl) (Nat.le_of_ble_eq_true rfl) ?_
      exact c_X6_takesSign hS h256 h (by omega) f1.2.2 f4 (stI_ne f1) (stI_on f1) (fun _ J hJ => x_some (f_89n (f_fail (hQ'.1 rfl J (tpO_t hO hJ))))) (fun a => absurd a (by omega)) (fun _ a => absurd a (by omega))
      done
    · exact absurd c_64 (by decide)
theorem s_sgn (hS : ShL Z) (h1 : I0 244 1 = nI t) (ht : t ≤ 96) (hy : byR (I0 245) t) (hp : p < t) (hL : isLe (I0 245) t p = false) (hD : isDi (I0 245) t p = false) (hF : ffI t p cd st ob on pt) (hO : tpO I0 I) (h : tpS I (ccs key cd) st ob on pt want) (hH : ffH l G Z Q I0 t key p n w1)
    (hQ : ffQ Z Q key I0 (mcP key ((3, vN (I0 245) p, p) :: tkL (I0 245) t n (p + 1) false) cd st ob on want pt)) :
    zX l G mX6_firstFault 5 0 0 60 [some (.ref 244), some (.int w1), some (.int (nI p)), some (.int (nI (p + 1))), w4] [] Z I Q := by
  have e5 : I 245 = I0 245 := hO.1 245 (by decide) (by decide) (by decide)
  have g1 : I 244 1 = nI t := (hO.2 1 (by omega)).trans h1
  obtain ⟨hc, h256⟩ := hy p hp
  have hcb : I 245 p = nI (vN (I0 245) p) := by rw [e5]; exact hc
  have h11 : I 244 11 = zb want := h.2.2.2.2.2.2.2
  obtain ⟨f1, f2, f3, f4, f5⟩ := id hF
  have hcl : (ccs key cd).length = cd.length := ccs_len key cd
  have hwd : false = isWd (I0 245) t (p + 1 - 1) := by rw [Nat.add_sub_cancel]; unfold isWd; rw [hL, hD]; rfl
  have hci : ∀ x : Nat, x < 256 → (I 245 p = nI x ↔ vN (I0 245) p = x) := fun x hx => by rw [hcb]; exact nI_eq (by omega) (by omega)
  cases want with
  | true =>
    rw [mc_3w] at hQ
    have k0 : ¬ (I 245 p = nI 40 ∧ ob < 8) → ¬ (I 245 p = nI 33 ∧ on < 8) → Q (some (.int (nI p))) Z I := fun a b => by
      rw [hci 40 (by omega)] at a
      rw [hci 33 (by omega)] at b
      rw [if_neg a, if_neg b] at hQ
      exact hQ.1 rfl I hO
    have k1 : I 245 p = nI 40 → ob < 8 → ∀ J, tpO I J → tpS J (ccs key cd) (40 :: st) (ob + 1) on pt true → zX l G mX6_firstFault 5 0 0 94 [some (.ref 244), some (.int w1), some (.int (nI p)), some (.int (nI (p + 1))), w4] [] Z J Q := fun a b J hJ hJs => by
      rw [hci 40 (by omega)] at a
      rw [if_pos ⟨a, b⟩] at hQ
      exact f_nxt (by omega) (by omega) (hH _ false _ _ _ _ _ true J _ _ (by omega) (by omega) hwd (ffI_40 hF hp b) (tpO_t hO hJ) hJs hQ)
    have k2 : I 245 p = nI 33 → on < 8 → ∀ J, tpO I J → tpS J (ccs key cd) (33 :: st) ob (on + 1) pt true → zX l G mX6_firstFault 5 0 0 94 [some (.ref 244), some (.int w1), some (.int (nI p)), some (.int (nI (p + 1))), w4] [] Z J Q := fun a b J hJ hJs => by
      rw [hci 33 (by omega)] at a
      rw [if_neg (by omega), if_pos ⟨a, b⟩] at hQ
      exact f_nxt (by omega) (by omega) (hH _ false _ _ _ _ _ true J _ _ (by omega) (by omega) hwd (ffI_33 hF hp b) (tpO_t hO hJ) hJs hQ)
    refine x_ald0 (n := 61) dX6_firstFault_60 rfl ?_
    refine x_getI (n := 64) flX6_38 rfl dX6_firstFault_61 rfl (lK_Tp hS) ?_
    rw [h11]
    refine x_zif_eq (n := 67) (tgt := 79) dX6_firstFault_64 rfl (by decide) (fun c_64 => ?_) (fun c_64 => ?_)
    · exact absurd c_64 (by decide)
    · refine x_ald0 (n := 68) dX6_firstFault_67 rfl ?_
      refine x_ild2 (n := 69) dX6_firstFault_68 rfl ?_
      refine x_ild3 (n := 70) dX6_firstFault_69 rfl ?_
      refine x_cV2 (n := 73) (d' := 4) zcX6_takesPart mlX6_77 dX6_firstFault_70 rfl (lK_Tp hS) (Nat.le_of_ble_eq_true rfl) (Nat.le_of_ble_eq_true rfl) ?_
      exact c_X6_takesPartS (e := 0) hS g1 ht hp (by rw [e5]; exact hD) (by rw [e5]; exact hL) h (by omega) f4 f5 (fun a b => x_some (f_73n (f_fail (k0 a b)))) (fun a b J hJ hJs => x_some (f_73y (k1 a b J hJ hJs))) (fun a b J hJ hJs => x_some (f_73y (k2 a b J hJ hJs)))
      done
  | false =>
    rw [mc_3f] at hQ
    have k0 : (vN (I0 245) p = 41 ∧ ob = 0) ∨ (vN (I0 245) p ≠ 41 ∧ rnk (vN (I0 245) p) = 0) ∨ (vN (I0 245) p ≠ 41 ∧ rnk (vN (I0 245) p) = 3 ∧ rnk ((rstR 4 st).headD 0) = 3) → ∀ J, tpO I J → Q (some (.int (nI p))) Z J := fun a J hJ => by
      have hQ' : ffQ Z Q key I0 (false, p, [], 0) := by
        rcases a with a | a | a
        · rw [if_pos a.1, if_pos a.2] at hQ; exact hQ
        · rw [if_neg a.1, if_neg (by omega)] at hQ; exact hQ
        · rw [if_neg a.1, if_pos (by omega), if_pos a.2] at hQ; exact hQ
      exact hQ'.1 rfl J (tpO_t hO hJ)
    have k1 : vN (I0 245) p = 41 → 0 < ob → ∀ J, tpO I J → tpS J (ccs key cd ++ ngs (popR 1 st) ++ ngs (popN (rstR 1 st).tail)) (rstN (rstR 1 st).tail) (ob - 1) (on - (popN (rstR 1 st).tail).length) pt false → zX l G mX6_firstFault 5 0 0 94 [some (.ref 244), some (.int w1), some (.int (nI p)), some (.int (nI (p + 1))), w4] [] Z J Q := fun a b J hJ hJs => by
      rw [if_pos a, if_neg (by omega)] at hQ
      refine f_nxt (by omega) (by omega) (hH _ false _ _ _ _ _ false J _ _ (by omega) (by omega) hwd (ffI_cl hF hp b) (tpO_t hO hJ) ?_ hQ)
      rw [ccs_app, ccs_app, ccs_sgs, ccs_sgs]
      exact hJs
    have k2 : vN (I0 245) p ≠ 41 → 0 < rnk (vN (I0 245) p) → ¬ (rnk (vN (I0 245) p) = 3 ∧ rnk ((rstR 4 st).headD 0) = 3) → ∀ J, tpO I J → tpS J (ccs key cd ++ ngs (popR (rnk (vN (I0 245) p)) st)) (vN (I0 245) p :: rstR (rnk (vN (I0 245) p)) st) ob on pt true → zX l G mX6_firstFault 5 0 0 94 [some (.ref 244), some (.int w1), some (.int (nI p)), some (.int (nI (p + 1))), w4] [] Z J Q := fun a b c J hJ hJs => by
      rw [if_neg a, if_pos b, if_neg c] at hQ
      refine f_nxt (by omega) (by omega) (hH _ false _ _ _ _ _ true J _ _ (by omega) (by omega) hwd (ffI_sg hF hp h256 (by intro e; rw [e] at b; exact absurd b (by decide)) b) (tpO_t hO hJ) ?_ hQ)
      rw [ccs_app, ccs_sgs]
      exact hJs
    refine x_ald0 (n := 61) dX6_firstFault_60 rfl ?_
    refine x_getI (n := 64) flX6_38 rfl dX6_firstFault_61 rfl (lK_Tp hS) ?_
    rw [h11]
    refine x_zif_eq (n := 67) (tgt := 79) dX6_firstFault_64 rfl (by decide) (fun c_64 => ?_) (fun c_64 => ?_)
    · refine x_ald0 (n := 80) dX6_firstFault_79 rfl ?_
      refine x_ald0 (n := 81) dX6_firstFault_80 rfl ?_
      refine x_getR (n := 84) flX6_9 rfl dX6_firstFault_81 rfl (lK_Tp hS) (lP_bytes hS) ?_
      refine x_ild2 (n := 85) dX6_firstFault_84 rfl ?_
      refine x_ialdN (n := 86) dX6_firstFault_85 rfl (lA_bytes hS) (Nat.le_of_ble_eq_true rfl) (by omega) ?_
      refine x_top hcb ?_
      refine x_cV1 (n := 89) (d' := 3) zcX6_takesSign mlX6_81 dX6_firstFault_86 rfl (lK_Tp hS) (Nat.le_of_ble_eq_true rfl) (Nat.le_of_ble_eq_true rfl) ?_
      exact c_X6_takesSign hS h256 h (by omega) f1.2.2 f4 (stI_ne f1) (stI_on f1) (fun a J hJ => x_some (f_89n (f_fail (k0 a J hJ)))) (fun a b J hJ hJs => x_some (f_89y (k1 a b J hJ hJs))) (fun a b c J hJ hJs => x_some (f_89y (k2 a b c J hJ hJs)))
      done
    · exact absurd c_64 (by decide)
end
section
variable {l : Launch} {G : zG} {Z : zS} {I I0 : zI} {Q : Option Value → zS → zI → Prop} {t p key : Nat} {w1 : Int32} {w4 : Option Value} {cd : List CD} {st : List Nat} {ob on pt n : Nat} {want : Bool}
theorem s_end (hS : ShL Z) {w3 w4 : Option Value} (h1 : I0 244 1 = nI t) (ht : t ≤ 96) (hF : ffI t t cd st ob on pt) (hO : tpO I0 I) (h : tpS I (ccs key cd) st ob on pt want) (hQ : ffQ Z Q key I0 (mcP key [(0, 0, t)] cd st ob on want pt)) :
    zX l G mX6_firstFault 5 0 0 2 [some (.ref 244), some (.int w1), some (.int (nI t)), w3, w4] [] Z I Q := by
  have g1 : I 244 1 = nI t := (hO.2 1 (by omega)).trans h1
  have h11 : I 244 11 = zb want := h.2.2.2.2.2.2.2
  have h9 : I 244 9 = nI ob := h.2.2.2.2.2.1
  obtain ⟨f1, f2, f3, f4, f5⟩ := id hF
  have hcl : (ccs key cd).length = cd.length := ccs_len key cd
  rw [mc_end] at hQ
  have n1 : nI ob ≤ 0 → ¬ 0 < ob := fun c a => nI_nle a (by omega) c
  have n2 : ¬ nI ob ≤ 0 → 0 < ob := fun c => Nat.pos_of_ne_zero (fun e => c (by rw [e]; decide))
  have kT : want = true ∨ 0 < ob → zX l G mX6_firstFault 5 0 0 122 [some (.ref 244), some (.int w1), some (.int (nI t)), w3, w4] [] Z I Q := fun a => by
    rw [if_pos a] at hQ
    refine x_ald0 (n := 123) dX6_firstFault_122 rfl ?_
    refine x_getI (n := 126) flX6_19 rfl dX6_firstFault_123 rfl (lK_Tp hS) ?_
    rw [g1]
    refine r_iret dX6_firstFault_126 rfl ?_
    exact hQ.1 rfl I hO
  refine x_ild2 (n := 3) dX6_firstFault_2 rfl ?_
  refine x_ald0 (n := 4) dX6_firstFault_3 rfl ?_
  refine x_getI (n := 7) flX6_19 rfl dX6_firstFault_4 rfl (lK_Tp hS) ?_
  rw [g1]
  refine x_icmpN_ge (n := 10) (tgt := 108) dX6_firstFault_7 rfl (by decide) (by omega) (by omega) (fun c_7 => ?_) (fun c_7 => ?_)
  · refine x_ald0 (n := 109) dX6_firstFault_108 rfl ?_
    refine x_getI (n := 112) flX6_38 rfl dX6_firstFault_109 rfl (lK_Tp hS) ?_
    rw [h11]
    refine x_zif_ne (n := 115) (tgt := 122) dX6_firstFault_112 rfl (by decide) (fun c_112 => ?_) (fun c_112 => ?_)
    · first | exact kT (Or.inl c_112) | exact kT (Or.inr (n2 c_119))
    · refine x_ald0 (n := 116) dX6_firstFault_115 rfl ?_
      refine x_getI (n := 119) flX6_32 rfl dX6_firstFault_116 rfl (lK_Tp hS) ?_
      rw [h9]
      refine x_if_le (n := 122) (tgt := 127) dX6_firstFault_119 rfl (by decide) (fun c_119 => ?_) (fun c_119 => ?_)
      · have hno : ¬ (want = true ∨ 0 < ob) := fun a => a.elim (fun b => by rw [b] at c_112; cases c_112) (n1 c_119)
        rw [if_neg hno] at hQ
        have hwf : want = false := c_112
        refine x_ald0 (n := 128) dX6_firstFault_127 rfl ?_
        refine x_ic1 (n := 129) dX6_firstFault_128 rfl ?_
        refine x_cV1 (n := 132) (d' := 1) zcX6_settleFrom mlX6_89 dX6_firstFault_129 rfl (lK_Tp hS) (Nat.le_of_ble_eq_true rfl) (Nat.le_of_ble_eq_true rfl) ?_
        refine c_X6_settleFrom hS (by omega) h (by omega) f1.2.2 (fun J hJ hJs => ?_)
        refine x_none ?_
        refine x_icm1 (n := 133) dX6_firstFault_132 rfl ?_
        refine r_iret dX6_firstFault_133 rfl ?_
        exact hQ.2 rfl J _ _ _ (tpO_t hO hJ) (by rw [ccs_app, ccs_sgs, ← hwf]; exact hJs)
      · first | exact kT (Or.inl c_112) | exact kT (Or.inr (n2 c_119))
  · exact absurd c_7 (by omega)
end
section
variable {l : Launch} {G : zG} {Z : zS} {I0 : zI} {Q : Option Value → zS → zI → Prop} {t key : Nat} {w1 : Int32}
theorem l_X6_firstFault (hS : ShL Z) (h1 : I0 244 1 = nI t) (ht : t ≤ 96) (h7 : I0 244 7 = nI key) (hk : key < 4) (hy : byR (I0 245) t) : ∀ (m n p : Nat) (w : Bool) (cd : List CD) (st : List Nat) (ob on pt : Nat) (want : Bool) (I : zI) (w3 w4 : Option Value), t - p < m → t - p ≤ n → 0 < p → p ≤ t → w = isWd (I0 245) t (p - 1) → ffI t p cd st ob on pt → tpO I0 I → tpS I (ccs key cd) st ob on pt want → ffQ Z Q key I0 (mcP key (tkL (I0 245) t n p w) cd st ob on want pt) → zX l G mX6_firstFault 5 0 0 2 [some (.ref 244), some (.int w1), some (.int (nI p)), w3, w4] [] Z I Q := by
  intro m
  induction m with
  | zero => intro n p w cd st ob on pt want I w3 w4 hm; exact absurd hm (by omega)
  | succ m ih =>
    intro n p w cd st ob on pt want I w3 w4 hm hn hp0 hpt hw hF hO h hQ
    by_cases hp : p < t
    · obtain ⟨n, rfl⟩ : ∃ n', n = n' + 1 := ⟨n - 1, by omega⟩
      have e5 : I 245 = I0 245 := hO.1 245 (by decide) (by decide) (by decide)
      have g1 : I 244 1 = nI t := (hO.2 1 (by omega)).trans h1
      obtain ⟨hc, h256⟩ := hy p hp
      have hH : ffH l G Z Q I0 t key p n w1 := fun e w' cd' st' ob' on' pt' want' I' w3 w4 a1 a2 a3 a4 a5 a6 a7 => ih n e w' cd' st' ob' on' pt' want' I' w3 w4 (by omega) (by omega) (by omega) a2 a3 a4 a5 a6 a7
      by_cases hb : I0 245 p = nI 32
      · rw [tkL_blank hp hb] at hQ
        have hnw : isWd (I0 245) t p = false := by
          unfold isWd isLe isDi
          rw [hb]
          simp [zin, show (nI 32).toInt = 32 by decide]
        have hgo := ih (n + 1) (p + 1) false cd st ob on pt want I w3 w4 (by omega) (by omega) (by omega) (by omega) (by rw [Nat.add_sub_cancel]; exact hnw.symm) (ffI_bl hF) hO h hQ
        refine x_ild2 (n := 3) dX6_firstFault_2 rfl ?_
        refine x_ald0 (n := 4) dX6_firstFault_3 rfl ?_
        refine x_getI (n := 7) flX6_19 rfl dX6_firstFault_4 rfl (lK_Tp hS) ?_
        rw [g1]
        refine x_icmpN_ge (n := 10) (tgt := 108) dX6_firstFault_7 rfl (by decide) (by omega) (by omega) (fun c_7 => ?_) (fun c_7 => ?_)
        · exact absurd c_7 (by omega)
        · refine x_ald0 (n := 11) dX6_firstFault_10 rfl ?_
          refine x_getR (n := 14) flX6_9 rfl dX6_firstFault_11 rfl (lK_Tp hS) (lP_bytes hS) ?_
          refine x_ild2 (n := 15) dX6_firstFault_14 rfl ?_
          refine x_ialdN (n := 16) dX6_firstFault_15 rfl (lA_bytes hS) (Nat.le_of_ble_eq_true rfl) (by omega) ?_
          refine x_bipush (n := 18) (v := nI 32) dX6_firstFault_16 rfl (by decide) ?_
          rw [e5]
          refine x_icmp_ne (n := 21) (tgt := 24) dX6_firstFault_18 rfl (by decide) (fun c_18 => ?_) (fun c_18 => ?_)
          · exact absurd hb c_18
          · refine x_goto (n := 102) dX6_firstFault_21 (by decide) ?_
            refine x_iincN2 (n := 105) (k := 1) dX6_firstFault_102 rfl (by decide) rfl ?_
            refine x_goto (n := 2) dX6_firstFault_105 (by decide) ?_
            exact hgo
      · refine f_head hS g1 ht hp hp0 (by rw [e5]; exact hb) (fun hk1 => ?_) (fun hk2 => ?_)
        · rw [e5] at hk1
          rw [Bool.and_eq_true] at hk1
          have hwt : w = true := hw.trans hk1.2
          subst hwt
          have hQ' : ffQ Z Q key I0 (false, p, [], 0) := by
            cases hL : isLe (I0 245) t p with
            | true => rw [tkL_let hp hb hp0 hL, if_pos rfl, mc_4] at hQ; exact hQ
            | false =>
              have hD : isDi (I0 245) t p = true := by have := hk1.1; unfold isWd at this; rw [hL] at this; exact this
              rw [tkL_dig hp hb hp0 hL hD, if_pos (Or.inl rfl), mc_4] at hQ; exact hQ
          exact f_fail (hQ'.1 rfl I hO)
        · rw [e5] at hk2 ⊢
          have hwf : isWd (I0 245) t p = true → w = false := fun a => by
            rw [a, Bool.true_and] at hk2
            exact hw.trans hk2
          cases hL : isLe (I0 245) t p with
          | true =>
            have hwf' : w = false := hwf (by unfold isWd; rw [hL]; rfl)
            subst hwf'
            rw [skW_L hL, ← skL_1 hp hL]
            refine s_let hS h1 ht h7 hk hy hp hL hF hO h hH ?_
            rw [tkL_let hp hb hp0 hL, if_neg (by decide)] at hQ
            exact hQ
          | false =>
            cases hD : isDi (I0 245) t p with
            | true =>
              have hwf' : w = false := hwf (by unfold isWd; rw [hD, Bool.or_true])
              subst hwf'
              rw [skW_D hL hD, ← skD_1 hp hD]
              refine s_dig hS h1 ht hy hp hL hD hF hO h hH ?_
              rw [tkL_dig hp hb hp0 hL hD] at hQ
              simpa using hQ
            | false =>
              rw [skW_N hL hD]
              refine s_sgn hS h1 ht hy hp hL hD hF hO h hH ?_
              rw [tkL_sgn hp hb hL hD] at hQ
              exact hQ
    · have hpe : p = t := by omega
      subst hpe
      rw [tkL_end] at hQ
      exact s_end hS h1 ht hF hO h hQ
theorem c_X6_firstFault (hS : ShL Z) (h1 : I0 244 1 = nI t) (ht : t ≤ 96) (h7 : I0 244 7 = nI key) (hk : key < 4) (hy : byR (I0 245) t) {n p : Nat} (hn : t - p ≤ n) (hp0 : 0 < p) (hpt : p ≤ t) (hw : isWd (I0 245) t (p - 1) = true) (h : tpS I0 [] [] 0 0 0 true) (hQ : ffQ Z Q key I0 (mcP key (tkL (I0 245) t n p true) [] [] 0 0 true 0)) : zM l G mX6_firstFault 5 0 0 [.ref 244, .int (nI p)] Z I0 Q := by
  refine x_entry [some (.ref 244), some (.int (nI p)), none, none, none] 3 rfl rfl (Nat.le_of_ble_eq_true rfl) ?_
  have hgo := l_X6_firstFault (l := l) (G := G) (Q := Q) (w1 := nI p) hS h1 ht h7 hk hy (t - p + 1) n p true [] [] 0 0 0 true I0 none none (by omega) hn hp0 hpt hw.symm ⟨⟨Nat.le_refl _, Nat.le_refl _, fun c hc => by cases hc⟩, by show 0 + 0 + (t - p) ≤ 96; omega, Nat.le_refl _, by omega, by omega⟩ tpO_r h hQ
  refine x_ild1 (n := 1) dX6_firstFault_0 rfl ?_
  refine x_ist2 (n := 2) dX6_firstFault_1 rfl (by decide) rfl ?_
  exact hgo
end
