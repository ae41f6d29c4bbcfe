/-! ===== the class's text, the whole call ===== -/
theorem mc_num (key : Nat) : ∀ (ts : List TK) (cd : List CD) (st : List Nat) (ob on : Nat) (want : Bool) (pt : Nat), (∀ x ∈ ts, x.1 = 2 → x.2.1 ≤ 9999) → (∀ c ∈ cd, c.1 = nI 0 → rg c.2 0 9999) → ∀ c ∈ (mcP key ts cd st ob on want pt).2.2.1, c.1 = nI 0 → rg c.2 0 9999
  | [], cd, st, ob, on, want, pt, h, hc, c, hm, h0 => by unfold mcP at hm; cases hm
  | x :: r, cd, st, ob, on, want, pt, h, hc, c, hm, h0 => by
    have sg : ∀ (l : List Nat) (c : CD), c ∈ sgs l → c.1 = nI 0 → False := fun l c hm h0 => by
      unfold sgs at hm
      obtain ⟨a, -, rfl⟩ := List.mem_map.mp hm
      exact absurd h0 (show ¬ nI 2 = nI 0 by decide)
    have ap : ∀ (a b : List CD), (∀ c ∈ a, c.1 = nI 0 → rg c.2 0 9999) → (∀ c ∈ b, c.1 = nI 0 → rg c.2 0 9999) → ∀ c ∈ a ++ b, c.1 = nI 0 → rg c.2 0 9999 := fun a b ha hb c hm h0 => (List.mem_append.mp hm).elim (fun h => ha c h h0) (fun h => hb c h h0)
    have sg' : ∀ (l : List Nat), ∀ c ∈ sgs l, c.1 = nI 0 → rg c.2 0 9999 := fun l c hm h0 => absurd (sg l c hm h0) id
    have ih : ∀ cd' st' ob' on' want' pt', (∀ c ∈ cd', c.1 = nI 0 → rg c.2 0 9999) → ∀ c ∈ (mcP key r cd' st' ob' on' want' pt').2.2.1, c.1 = nI 0 → rg c.2 0 9999 := fun cd' st' ob' on' want' pt' hc' => mc_num key r cd' st' ob' on' want' pt' (fun y hy => h y (List.mem_cons_of_mem _ hy)) hc'
    unfold mcP at hm
    split at hm
    · split at hm
      · cases hm
      · exact ap _ _ hc (sg' _) c hm h0
    · split at hm
      · split at hm
        · rename_i h2
          refine ih _ _ _ _ _ _ (ap _ _ (ap _ _ hc (fun c hm h0 => ?_)) (sg' _)) c hm h0
          rw [List.mem_singleton] at hm
          subst hm
          have h9 := h x List.mem_cons_self h2
          show rg (nI x.2.1) 0 9999
          unfold rg
          rw [nI_toInt (by omega)]
          omega
        · split at hm
          · refine ih _ _ _ _ _ _ (ap _ _ (ap _ _ hc (fun c hm h0 => ?_)) (sg' _)) c hm h0
            rw [List.mem_singleton] at hm
            subst hm
            exact absurd h0 (show ¬ nI 1 = nI 0 by decide)
          · split at hm
            · exact ih _ _ _ _ _ _ hc c hm h0
            · split at hm
              · exact ih _ _ _ _ _ _ hc c hm h0
              · cases hm
      · split at hm
        · split at hm
          · cases hm
          · exact ih _ _ _ _ _ _ (ap _ _ (ap _ _ hc (sg' _)) (sg' _)) c hm h0
        · split at hm
          · split at hm
            · cases hm
            · exact ih _ _ _ _ _ _ (ap _ _ hc (sg' _)) c hm h0
          · cases hm
theorem tkL_num {f : Nat → Int32} {t : Nat} (hy : byR f t) : ∀ (n p : Nat) (w : Bool), p ≤ t → ∀ x ∈ tkL f t n p w, x.1 = 2 → x.2.1 ≤ 9999
  | 0, p, w, hp, x, hx, h2 => by
    unfold tkL at hx
    rw [List.mem_singleton] at hx
    rw [hx] at h2; cases h2
  | n + 1, p, w, hp, x, hx, h2 => by
    have hs := skB_le f (t - p) p
    have s1 := skL_b (f := f) (t := t) (t - skB f (t - p) p) (skB f (t - p) p)
    have s2 := skD_b (f := f) (t := t) (t - skB f (t - p) p) (skB f (t - p) p)
    unfold tkL at hx
    split at hx
    · rw [List.mem_singleton] at hx
      rw [hx] at h2; cases h2
    · split at hx
      · rcases List.mem_cons.mp hx with e | e
        · rw [e] at h2
          exact absurd h2 (by show ¬ (if _ then 4 else 1) = 2; split <;> omega)
        · exact tkL_num hy n _ _ (by omega) x e h2
      · split at hx
        · rcases List.mem_cons.mp hx with e | e
          · rw [e]
            exact dgN_le hy (fun j hj => skD_a _ _ j hj)
          · exact tkL_num hy n _ _ (by omega) x e h2
        · rcases List.mem_cons.mp hx with e | e
          · rw [e] at h2; cases h2
          · exact tkL_num hy n _ _ (by omega) x e h2
theorem tx_num {f : Nat → Int32} {t : Nat} (hy : byR f t) : ∀ c ∈ (txF f t).2.2.2.1, c.1 = nI 0 → rg c.2 0 9999 := by
  unfold txF
  cases hk : kyF f t with
  | none => intro c hc; cases hc
  | some key =>
    exact mc_num key _ _ _ _ _ _ _ (fun x hx => tkL_num hy t 0 false (Nat.zero_le _) x (List.mem_of_mem_tail hx)) (fun c hc => by cases hc)
section
variable {g : Nat → Int32} {n key : Nat} {x : Int32} {R : MS}
theorem gT_3 : gTxt g n key x R 3 = nI (n + 1) := by unfold gTxt; rw [upd_same]
theorem gT_k : gTxt g n key x R (2520 + 200 * n) = nI key := by
  unfold gTxt
  rw [upd_off (by omega), upd_off (by omega), upd_off (by omega), upd_off (by omega), upd_same]
theorem gT_1 : gTxt g n key x R (2520 + 200 * n + 1) = x := by
  unfold gTxt
  rw [upd_off (by omega), upd_off (by omega), upd_off (by omega), upd_same]
theorem gT_2 : gTxt g n key x R (2520 + 200 * n + 2) = nI R.2.2.2 := by
  unfold gTxt
  rw [upd_off (by omega), upd_off (by omega), upd_same]
theorem gT_l : gTxt g n key x R (2520 + 200 * n + 3) = nI R.2.2.1.length := by
  unfold gTxt
  rw [upd_off (by omega), upd_same]
theorem gT_c {j : Nat} {c : CD} (hc : R.2.2.1[j]? = some c) : gTxt g n key x R (2520 + 200 * n + 4 + 2 * j) = c.1 ∧ gTxt g n key x R (2520 + 200 * n + 4 + 2 * j + 1) = c.2 := by
  have h := gSt_at R.2.2.1 g (2524 + 200 * n) j c hc
  unfold gTxt
  rw [upd_off (by omega), upd_off (by omega), upd_off (by omega), upd_off (by omega), upd_off (by omega), upd_off (by omega), upd_off (by omega), upd_off (by omega), upd_off (by omega), upd_off (by omega), show 2520 + 200 * n + 4 + 2 * j = 2524 + 200 * n + 2 * j by omega]
  exact h
theorem gT_o (hl : R.2.2.1.length ≤ 96) {i : Nat} (h3 : i ≠ 3) (hi : i < 2520 + 200 * n ∨ 2720 + 200 * n ≤ i) : gTxt g n key x R i = g i := by
  unfold gTxt
  rw [upd_off (by omega), upd_off (by omega), upd_off (by omega), upd_off (by omega), upd_off (by omega)]
  exact gSt_off _ _ _ (by omega)
end
section
variable {Z Z' : zS} {I I' : zI} {mk : Nat} {g : Nat → Int32}
theorem txR_X (hle : Z.1 ≤ Z'.1) (hk : ∀ a, 282 ≤ a → a < Z.1 → Z'.2.1 a = Z.2.1 a ∧ Z'.2.2.1 a = Z.2.2.1 a ∧ Z'.2.2.2 a = Z.2.2.2 a ∧ I' a = I a) {p t : Nat} (h : txR Z I p g t) : txR Z' I' p g t := by
  obtain ⟨h0, h1, h2, h3, h4, h5, q, h6, h7, h8, h9⟩ := h
  have kp := hk p h0 h1.1
  have kq := hk q h6 h8.1
  refine ⟨h0, ⟨Nat.lt_of_lt_of_le h1.1 hle, kp.1.trans h1.2⟩, by rw [kp.2.2.2]; exact h2, by rw [kp.2.2.2]; exact h3, by rw [kp.2.2.2]; exact h4, h5, q, h6, by rw [kp.2.2.1]; exact h7, ⟨Nat.lt_of_lt_of_le h8.1 hle, kq.1.trans h8.2.1, kq.2.1.trans h8.2.2⟩, fun k hk => ?_⟩
  rw [kq.2.2.2]; exact h9 k hk
theorem cmT_X (hle : Z.1 ≤ Z'.1) (hk : ∀ a, 282 ≤ a → a < Z.1 → Z'.2.1 a = Z.2.1 a ∧ Z'.2.2.1 a = Z.2.2.1 a ∧ Z'.2.2.2 a = Z.2.2.2 a ∧ I' a = I a) (h63 : I' (mk + 63) 1 = I (mk + 63) 1) (hr : Z'.2.2.2 (mk + 64) = Z.2.2.2 (mk + 64)) (h : cmT Z I mk g) : cmT Z' I' mk g := by
  obtain ⟨h0, h1, h2⟩ := h
  refine ⟨h0, by rw [h63]; exact h1, fun t ht => ?_⟩
  obtain ⟨p, hp, hx⟩ := h2 t ht
  exact ⟨p, by rw [hr]; exact hp, txR_X hle hk hx⟩
/-- nothing of a Making has changed -/
theorem CM_X (hm : mk + 81 ≤ 282) (hle : Z.1 ≤ Z'.1) (hk : ∀ a, 282 ≤ a → a < Z.1 → Z'.2.1 a = Z.2.1 a ∧ Z'.2.2.1 a = Z.2.2.1 a ∧ Z'.2.2.2 a = Z.2.2.2 a ∧ I' a = I a) (hI : ∀ a, mk ≤ a → a < mk + 81 → I' a = I a) (hr : Z'.2.2.2 (mk + 64) = Z.2.2.2 (mk + 64)) (h : CM Z I mk g) : CM Z' I' mk g := by
  obtain ⟨a, b, c, d, e, f, i, j⟩ := h
  exact ⟨cmG_of a (fun x _ _ => hI x (by omega) (by omega)) (fun _ _ => rfl), cmW_of b (by rw [hI _ (by omega) (by omega)]) (fun x _ _ => hI x (by omega) (by omega)) (fun _ _ _ => rfl), cmA_of c (by rw [hI _ (by omega) (by omega)]) (hI _ (by omega) (by omega)) (hI _ (by omega) (by omega)) (fun _ _ => rfl), cmT_X hle hk (by rw [hI _ (by omega) (by omega)]) hr d, cmC_of e (by rw [hI _ (by omega) (by omega)]) (fun x _ _ => hI x (by omega) (by omega)) (fun _ _ => rfl), cmP_of f (fun x _ _ => hI x (by omega) (by omega)) (fun _ _ => rfl), cmF_of i (fun x _ _ => hI x (by omega) (by omega)) (fun _ _ => rfl), cmD_of j (by rw [hI _ (by omega) (by omega)]) (hI _ (by omega) (by omega)) (fun _ _ => rfl)⟩
/-- a text more -/
theorem CM_gT {n key p q : Nat} {x : Int32} {R : MS} (hm : mk + 81 ≤ 282) (hle : Z.1 ≤ Z'.1) (hk : ∀ a, 282 ≤ a → a < Z.1 → Z'.2.1 a = Z.2.1 a ∧ Z'.2.2.1 a = Z.2.2.1 a ∧ Z'.2.2.2 a = Z.2.2.2 a ∧ I' a = I a) (hI : ∀ a, mk ≤ a → a < mk + 81 → a ≠ mk + 63 → I' a = I a) (h63 : I' (mk + 63) 1 = nI (n + 1)) (hr : ∀ t, t < n → Z'.2.2.2 (mk + 64) t = Z.2.2.2 (mk + 64) t) (hrn : Z'.2.2.2 (mk + 64) n = some p)
    (hn : g 3 = nI n) (hn14 : n < 14) (hk4 : key < 4) (hl : R.2.2.1.length ≤ 96) (hp : 282 ≤ p) (hq : 282 ≤ q) (hpk : zk Z' p 7) (hpr : Z'.2.2.2 p 3 = some q) (hqa : za Z' q 13 R.2.2.1.length) (e0 : I' p 0 = nI key) (e1 : I' p 1 = x) (e2 : I' p 2 = nI R.2.2.2) (ec : ∀ k x, (ccs key R.2.2.1)[k]? = some x → I' q k = x) (hnum : ∀ c ∈ R.2.2.1, c.1 = nI 0 → rg c.2 0 9999)
    (h : CM Z I mk g) : CM Z' I' mk (gTxt g n key x R) := by
  obtain ⟨a, b, c, d, e, f, i, j⟩ := h
  have vn : vN g 3 = n := by unfold vN; rw [hn]; exact ix_nI (by omega)
  have vn1 : vN (gTxt g n key x R) 3 = n + 1 := by unfold vN; rw [gT_3]; exact ix_nI (by omega)
  refine ⟨cmG_of a (fun x _ _ => hI x (by omega) (by omega) (by omega)) (fun i hi => gT_o hl (by omega) (by omega)), cmW_of b (by rw [hI _ (by omega) (by omega) (by omega)]) (fun x _ _ => hI x (by omega) (by omega) (by omega)) (fun i hi _ => gT_o hl (by omega) (by omega)), cmA_of c (by rw [hI _ (by omega) (by omega) (by omega)]) (hI _ (by omega) (by omega) (by omega)) (hI _ (by omega) (by omega) (by omega)) (fun i hi => gT_o hl (by omega) (by omega)), ⟨by rw [vn1]; omega, by rw [gT_3]; exact h63, fun t ht => ?_⟩, cmC_of e (by rw [hI _ (by omega) (by omega) (by omega)]) (fun x _ _ => hI x (by omega) (by omega) (by omega)) (fun i hi => gT_o hl (by omega) (by omega)), cmP_of f (fun x _ _ => hI x (by omega) (by omega) (by omega)) (fun i hi => gT_o hl (by omega) (by omega)), cmF_of i (fun x _ _ => hI x (by omega) (by omega) (by omega)) (fun i hi => gT_o hl (by omega) (by omega)), cmD_of j (by rw [hI _ (by omega) (by omega) (by omega)]) (hI _ (by omega) (by omega) (by omega)) (fun i hi => gT_o hl (by omega) (by omega))⟩
  rw [vn1] at ht
  by_cases htn : t < n
  · obtain ⟨p', hp', hx'⟩ := d.2.2 t (by rw [vn]; exact htn)
    exact ⟨p', by rw [hr t htn]; exact hp', txR_of (txR_X hle hk hx') (fun _ _ => rfl) (fun i _ _ => gT_o hl (by omega) (by omega))⟩
  · have e9 : t = n := by omega
    subst e9
    have vl : vN (gTxt g t key x R) (2520 + 200 * t + 3) = R.2.2.1.length := by unfold vN; rw [gT_l]; exact ix_nI (by omega)
    have vk : vN (gTxt g t key x R) (2520 + 200 * t) = key := by unfold vN; rw [gT_k]; exact ix_nI (by omega)
    refine ⟨p, hrn, hp, hpk, by rw [gT_k]; exact e0, by rw [gT_1]; exact e1, by rw [gT_2]; exact e2, by rw [vl]; exact hl, q, hq, hpr, by rw [vl]; exact hqa, fun k hk => ?_⟩
    rw [vl] at hk
    obtain ⟨c, hc⟩ : ∃ c, R.2.2.1[k]? = some c := ⟨_, List.getElem?_eq_getElem hk⟩
    have hg := gT_c (g := g) (n := t) (key := key) (x := x) hc
    rw [vk, hg.1, hg.2]
    refine ⟨ec k _ (by unfold ccs; rw [List.getElem?_map, hc]; rfl), fun h0 => hnum c (List.mem_of_getElem? hc) h0⟩
end
/-- Z' holds all that Z does, but for the row of the texts -/
def ZY (Z Z' : zS) : Prop := Z.1 ≤ Z'.1 ∧ Z'.1 ≤ Z.1 + 2 ∧ ∀ a, a < Z.1 → Z'.2.1 a = Z.2.1 a ∧ Z'.2.2.1 a = Z.2.2.1 a ∧ (a ≠ 65 → Z'.2.2.2 a = Z.2.2.2 a)
def teC (Z : zS) (I : zI) (Z' : zS) (K : zI) (f : Nat → Int32) (t n : Nat) (x : Int32) (g : Nat → Int32) : Prop := ZY Z Z' ∧ (∀ a, a ≠ 64 → a ≠ 244 → a ≠ 246 → a ≠ 247 → a < Z.1 → K a = I a) ∧ K 244 1 = nI 0 ∧ ((f_text f t n x).2 = false → CM Z' K 1 g) ∧ ∀ key, (f_text f t n x).2 = true → (txF f t).1 = some key → CM Z' K 1 (gTxt g n key x (txF f t).2)
section
variable {l : Launch} {G : zG} {Z : zS} {I : zI} {Q : Option Value → zS → zI → Prop} {g : Nat → Int32}
theorem c_X8_addText {mk n p : Nat} (hM : ShM Z mk) (hn : I (mk + 63) 1 = nI n) (hn14 : n ≤ 14) (hp : zk Z p 7) (hq0 : n = 14 → Q (some (.int (-1000000003))) Z I) (hq1 : n < 14 → Q (some (.int (nI n))) (Z.1, Z.2.1, Z.2.2.1, va_up Z.2.2.2 (mk + 64) (va_up (Z.2.2.2 (mk + 64)) n (some p))) (va_up I (mk + 63) (upd (I (mk + 63)) 1 (nI (n + 1))))) : zM l G mX8_addText 0 0 0 [.ref (mk + 63), .ref p] Z I Q := by
  refine x_entry [some (.ref (mk + 63)), some (.ref p)] 0 rfl rfl (Nat.le_of_ble_eq_true rfl) ?_
  refine x_ald0 (n := 1) dX8_addText_0 rfl ?_
  refine x_getI (n := 4) flX8_23 rfl dX8_addText_1 rfl (mK_Ts hM) ?_
  rw [hn]
  refine x_bipush (n := 6) (v := nI 14) dX8_addText_4 rfl (by decide) ?_
  refine x_icmpN_lt (n := 9) (tgt := 12) dX8_addText_6 rfl (by decide) (by omega) (by omega) (fun c_6 => ?_) (fun c_6 => ?_)
  · refine x_ald0 (n := 13) dX8_addText_12 rfl ?_
    refine x_getR (n := 16) flX8_13 rfl dX8_addText_13 rfl (mK_Ts hM) (mP_allT hM) ?_
    refine x_ald0 (n := 17) dX8_addText_16 rfl ?_
    refine x_getI (n := 20) flX8_23 rfl dX8_addText_17 rfl (mK_Ts hM) ?_
    rw [hn]
    refine x_ald1 (n := 21) dX8_addText_20 rfl ?_
    refine x_aastN (n := 22) dX8_addText_21 rfl (mA_allT hM) ⟨by decide, by decide⟩ hp (by decide) rfl (by decide) (by omega) ?_
    have hT : ZT mk Z (Z.1, Z.2.1, Z.2.2.1, va_up Z.2.2.2 (mk + 64) (va_up (Z.2.2.2 (mk + 64)) n (some p))) := ⟨rfl, rfl, rfl, fun a ha => va_up_off ha⟩
    have hM := ShM_ZT hT (Or.inl rfl) hM
    refine x_ald0 (n := 23) dX8_addText_22 rfl ?_
    refine x_dup (n := 24) dX8_addText_23 rfl rfl ?_
    refine x_getI (n := 27) flX8_23 rfl dX8_addText_24 rfl (mK_Ts hM) ?_
    rw [hn]
    refine x_ic1 (n := 28) dX8_addText_27 rfl ?_
    refine x_iaddN (n := 29) dX8_addText_28 rfl ?_
    refine x_putI (n := 32) flX8_23 rfl (Or.inl rfl) rfl rfl dX8_addText_29 rfl (mK_Ts hM) ?_
    refine x_ald0 (n := 33) dX8_addText_32 rfl ?_
    refine x_getI (n := 36) flX8_23 rfl dX8_addText_33 rfl (mK_Ts hM) ?_
    rw [va_up_same, upd_same]
    refine x_ic1 (n := 37) dX8_addText_36 rfl ?_
    refine x_isubN (n := 38) dX8_addText_37 rfl (by omega) ?_
    refine r_iret dX8_addText_38 rfl ?_
    exact hq1 (by omega)
  · refine x_ldc (n := 11) dX8_addText_9 rfl kiX8_31 ?_
    refine r_iret dX8_addText_11 rfl ?_
    exact hq0 (by omega)
theorem te_n {x : Int32} {ac as : Nat} (hS : ShL Z) (hq : Q (some (.int (-1000000001))) Z (va_up I 244 (upd (I 244) 1 (nI 0)))) : zX l G mX11_text 7 ac as 25 [some (.ref 0), some (.int x), some (.int (zb false)), none] [.null] Z I Q := by
  refine x_nst3 (n := 26) dX11_text_25 rfl (by decide) rfl ?_
  refine x_ald0 (n := 27) dX11_text_26 rfl ?_
  refine x_getR (n := 30) flX11_25 rfl dX11_text_27 rfl (lK_L hS) (lP_Tp hS) ?_
  refine x_ic0 (n := 31) dX11_text_30 rfl ?_
  refine x_putI (n := 34) flX11_203 rfl (Or.inl rfl) rfl rfl dX11_text_31 rfl (lK_Tp hS) ?_
  refine x_ild2 (n := 35) dX11_text_34 rfl ?_
  refine x_zif_ne (n := 38) (tgt := 41) dX11_text_35 rfl (by decide) (fun c_35 => ?_) (fun c_35 => ?_)
  · exact absurd c_35 (by decide)
  · refine x_ldc (n := 40) dX11_text_38 rfl kiX11_54 ?_
    refine r_iret dX11_text_40 rfl ?_
    exact hq
theorem te_f {x r : Int32} {ac as : Nat} (hS : ShL Z) (h2 : I 244 2 = r) (hq : Q (some (.int (-100 - r))) Z (va_up I 244 (upd (I 244) 1 (nI 0)))) : zX l G mX11_text 7 ac as 25 [some (.ref 0), some (.int x), some (.int (zb true)), none] [.null] Z I Q := by
  refine x_nst3 (n := 26) dX11_text_25 rfl (by decide) rfl ?_
  refine x_ald0 (n := 27) dX11_text_26 rfl ?_
  refine x_getR (n := 30) flX11_25 rfl dX11_text_27 rfl (lK_L hS) (lP_Tp hS) ?_
  refine x_ic0 (n := 31) dX11_text_30 rfl ?_
  refine x_putI (n := 34) flX11_203 rfl (Or.inl rfl) rfl rfl dX11_text_31 rfl (lK_Tp hS) ?_
  refine x_ild2 (n := 35) dX11_text_34 rfl ?_
  refine x_zif_ne (n := 38) (tgt := 41) dX11_text_35 rfl (by decide) (fun c_35 => ?_) (fun c_35 => ?_)
  · refine x_nld3 (n := 42) dX11_text_41 rfl ?_
    refine x_ifnonnullN (n := 45) dX11_text_42 rfl ?_
    refine x_bipush (n := 47) (v := -100) dX11_text_45 rfl (by decide) ?_
    refine x_ald0 (n := 48) dX11_text_47 rfl ?_
    refine x_getR (n := 51) flX11_25 rfl dX11_text_48 rfl (lK_L hS) (lP_Tp hS) ?_
    refine x_getI (n := 54) flX11_213 rfl dX11_text_51 rfl (lK_Tp hS) ?_
    rw [va_up_same, upd_off (by decide), h2]
    refine x_isub (n := 55) dX11_text_54 rfl ?_
    refine x_goto (n := 69) dX11_text_55 (by decide) ?_
    refine r_iret dX11_text_69 rfl ?_
    exact hq
  · exact absurd c_35 (by decide)
theorem te_y {x : Int32} {ac as n p : Nat} (hS : ShL Z) (hn : I 64 1 = nI n) (hn14 : n ≤ 14) (hp : zk Z p 7) (hq0 : n = 14 → Q (some (.int (-1000000003))) Z (va_up I 244 (upd (I 244) 1 (nI 0)))) (hq1 : n < 14 → Q (some (.int (nI n))) (Z.1, Z.2.1, Z.2.2.1, va_up Z.2.2.2 65 (va_up (Z.2.2.2 65) n (some p))) (va_up (va_up I 244 (upd (I 244) 1 (nI 0))) 64 (upd (I 64) 1 (nI (n + 1))))) : zX l G mX11_text 7 ac as 25 [some (.ref 0), some (.int x), some (.int (zb true)), none] [.ref p] Z I Q := by
  have hM := lM1 hS
  have h64 : va_up I 244 (upd (I 244) 1 (nI 0)) 64 = I 64 := va_up_off (by decide)
  refine x_ast3 (n := 26) dX11_text_25 rfl (by decide) rfl ?_
  refine x_ald0 (n := 27) dX11_text_26 rfl ?_
  refine x_getR (n := 30) flX11_25 rfl dX11_text_27 rfl (lK_L hS) (lP_Tp hS) ?_
  refine x_ic0 (n := 31) dX11_text_30 rfl ?_
  refine x_putI (n := 34) flX11_203 rfl (Or.inl rfl) rfl rfl dX11_text_31 rfl (lK_Tp hS) ?_
  refine x_ild2 (n := 35) dX11_text_34 rfl ?_
  refine x_zif_ne (n := 38) (tgt := 41) dX11_text_35 rfl (by decide) (fun c_35 => ?_) (fun c_35 => ?_)
  · refine x_ald3 (n := 42) dX11_text_41 rfl ?_
    refine x_ifnonnull (n := 58) dX11_text_42 (by decide) ?_
    refine x_ald0 (n := 59) dX11_text_58 rfl ?_
    refine x_getR (n := 62) flX11_10 rfl dX11_text_59 rfl (lK_L hS) (lP_M hS) ?_
    refine x_getR (n := 65) flX11_216 rfl dX11_text_62 rfl (mK_M hM) (mP_Ts hM) ?_
    refine x_ald3 (n := 66) dX11_text_65 rfl ?_
    refine x_cV1 (n := 69) (d' := 0) zcX8_addText mlX11_220 dX11_text_66 rfl (mK_Ts hM) (Nat.le_of_ble_eq_true rfl) (Nat.le_of_ble_eq_true rfl) ?_
    refine c_X8_addText (n := n) (lM1 hS) (by show va_up I 244 (upd (I 244) 1 (nI 0)) 64 1 = _; rw [h64]; exact hn) hn14 hp (fun a => x_some ?_) (fun a => x_some ?_)
    · exact r_iret dX11_text_69 rfl (hq0 a)
    · refine r_iret dX11_text_69 rfl ?_
      show Q _ _ (va_up (va_up I 244 (upd (I 244) 1 (nI 0))) 64 (upd (va_up I 244 (upd (I 244) 1 (nI 0)) 64) 1 (nI (n + 1))))
      rw [h64]
      exact hq1 a
  · exact absurd c_35 (by decide)
theorem tL_text {f : Nat → Int32} {t n : Nat} {x : Int32} (hS : ShL Z) (hZ : 282 ≤ Z.1) (hm : Z.1 + 2 ≤ 900000) (hf : I 245 = f) (h1 : I 244 1 = nI t) (ht : t ≤ 96) (hy : byR f t) (hC : CM Z I 1 g) (hn : g 3 = nI n) (hn14 : n ≤ 14)
    (hq : ∀ Z' K, teC Z I Z' K f t n x g → Q (some (.int (f_text f t n x).1)) Z' K) : zM l G mX11_text 7 2 100 [.ref 0, .int x] Z I Q := by
  refine x_entry [some (.ref 0), some (.int x), none, none] 2 rfl rfl (Nat.le_of_ble_eq_true rfl) ?_
  have hn64 : I 64 1 = nI n := hC.2.2.2.1.2.1.trans hn
  have zr : ZY Z Z := ⟨Nat.le_refl _, by omega, fun _ _ => ⟨rfl, rfl, fun _ => rfl⟩⟩
  have kS : ∀ (Z' : zS) (K : zI), ZX Z Z' → Z'.1 ≤ Z.1 + 2 → trO Z.1 I K → (f_text f t n x).2 = false → teC Z I Z' (va_up K 244 (upd (K 244) 1 (nI 0))) f t n x g := fun Z' K hX hX2 hK hb => by
    have hI : ∀ a, a ≠ 244 → a ≠ 246 → a ≠ 247 → a < Z.1 → va_up K 244 (upd (K 244) 1 (nI 0)) a = I a := fun a a1 a2 a3 a4 => by rw [va_up_off a1]; exact hK a a1 a2 a3 a4
    refine ⟨⟨hX.1, hX2, fun a ha => ⟨(hX.2 a ha).1, (hX.2 a ha).2.1, fun _ => (hX.2 a ha).2.2⟩⟩, fun a _ a1 a2 a3 a4 => hI a a1 a2 a3 a4, by rw [va_up_same, upd_same], fun _ => ?_, fun key h => by rw [hb] at h; cases h⟩
    exact CM_X (by omega) hX.1 (fun a b1 b2 => ⟨(hX.2 a b2).1, (hX.2 a b2).2.1, (hX.2 a b2).2.2, hI a (by omega) (by omega) (by omega) b2⟩) (fun a b1 b2 => hI a (by omega) (by omega) (by omega) (by omega)) (hX.2 65 (by omega)).2.2 hC
  have kOut : zin x 0 1999 = false → Q (some (.int (-1000000001))) Z (va_up I 244 (upd (I 244) 1 (nI 0))) := fun hx => by
    have e : f_text f t n x = (-1000000001, false) := by unfold f_text; rw [if_neg (by rw [hx]; decide)]
    have h9 := hq Z _ (kS Z I ZX_r (by omega) (fun _ _ _ _ _ => rfl) (by rw [e]))
    rw [e] at h9; exact h9
  have kBad : zin x 0 1999 = true → (txF f t).2.1 = false → ∀ K, trO Z.1 I K → K 244 2 = nI (txF f t).2.2.1 → zX l G mX11_text 7 (2 - 2) (100 - 100) 25 [some (.ref 0), some (.int x), some (.int (zb true)), none] [.null] Z K Q := fun hx hb K hK hK2 => by
    have e : f_text f t n x = (-100 - nI (txF f t).2.2.1, false) := by unfold f_text; rw [if_pos hx, if_neg (by rw [hb]; decide)]
    have h9 := hq Z _ (kS Z K ZX_r (by omega) hK (by rw [e]))
    rw [e] at h9
    exact te_f hS hK2 h9
  have kGood : zin x 0 1999 = true → ∀ key, (txF f t).1 = some key → key < 4 → (txF f t).2.1 = true → ∀ K, trO Z.1 I K → K Z.1 0 = nI key → K Z.1 1 = x → K Z.1 2 = nI (txF f t).2.2.2.2 → (∀ k x, (ccs key (txF f t).2.2.2.1)[k]? = some x → K (Z.1 + 1) k = x) → zX l G mX11_text 7 (2 - 2) (100 - 100) 25 [some (.ref 0), some (.int x), some (.int (zb true)), none] [.ref Z.1] (txZ Z (txF f t).2.2.2.1.length) K Q := fun hx key hk hk4 hb K hK k0 k1 k2 kc => by
    have hX := txZ_X Z (txF f t).2.2.2.1.length
    have hl := tx_len (f := f) ht
    refine te_y (ShL_ZX hX hZ hS) (by rw [hK 64 (by omega) (by omega) (by omega) (by omega)]; exact hn64) hn14 (txZ_k Z _) (fun hn9 => ?_) (fun hn9 => ?_)
    · have e : f_text f t n x = (-1000000003, false) := by unfold f_text; rw [if_pos hx, if_pos hb, if_pos hn9]
      have h9 := hq _ _ (kS _ K hX (by rw [txZ_1]; omega) hK (by rw [e]))
      rw [e] at h9; exact h9
    · have e : f_text f t n x = (nI n, true) := by unfold f_text; rw [if_pos hx, if_pos hb, if_neg (by omega)]
      have hI : ∀ a, a ≠ 64 → a ≠ 244 → va_up (va_up K 244 (upd (K 244) 1 (nI 0))) 64 (upd (K 64) 1 (nI (n + 1))) a = K a := fun a a1 a2 => by rw [va_up_off a1, va_up_off a2]
      have e1 : (f_text f t n x).1 = nI n := by rw [e]
      refine e1 ▸ hq ((txZ Z (txF f t).2.2.2.1.length).1, (txZ Z (txF f t).2.2.2.1.length).2.1, (txZ Z (txF f t).2.2.2.1.length).2.2.1, va_up (txZ Z (txF f t).2.2.2.1.length).2.2.2 65 (va_up ((txZ Z (txF f t).2.2.2.1.length).2.2.2 65) n (some Z.1))) (va_up (va_up K 244 (upd (K 244) 1 (nI 0))) 64 (upd (K 64) 1 (nI (n + 1)))) ⟨⟨hX.1, Nat.le_refl _, fun a ha => ⟨(hX.2 a ha).1, (hX.2 a ha).2.1, fun h65 => by show va_up (txZ Z _).2.2.2 65 _ a = _; rw [va_up_off h65]; exact (hX.2 a ha).2.2⟩⟩, fun a a0 a1 a2 a3 a4 => by rw [hI a a0 a1]; exact hK a a1 a2 a3 a4, by rw [va_up_off (by decide), va_up_same, upd_same], fun h => absurd h (by rw [e]; exact Bool.noConfusion), fun key' _ hk' => ?_⟩
      · have ek : key' = key := by rw [hk] at hk'; exact (Option.some.inj hk').symm
        subst ek
        have h65 : 65 < Z.1 := by omega
        refine CM_gT (mk := 1) (p := Z.1) (q := Z.1 + 1) (by omega) hX.1 (fun a b1 b2 => ⟨(hX.2 a b2).1, (hX.2 a b2).2.1, ?_, ?_⟩) (fun a b1 b2 b3 => ?_) ?_ (fun t' ht' => ?_) ?_ hn hn9 hk4 (by omega) hZ (by omega) (txZ_k Z (txF f t).2.2.2.1.length) ?_ (txZ_a Z (txF f t).2.2.2.1.length) ?_ ?_ ?_ (fun k y hy => ?_) (tx_num hy) hC
        · show va_up (txZ Z (txF f t).2.2.2.1.length).2.2.2 65 _ a = _
          rw [va_up_off (by omega)]; exact (hX.2 a b2).2.2
        · rw [hI a (by omega) (by omega)]; exact hK a (by omega) (by omega) (by omega) b2
        · rw [hI a (by omega) (by omega)]; exact hK a (by omega) (by omega) (by omega) (by omega)
        · show va_up (va_up K 244 (upd (K 244) 1 (nI 0))) 64 (upd (K 64) 1 (nI (n + 1))) 64 1 = _
          rw [va_up_same, upd_same]
        · show va_up (txZ Z (txF f t).2.2.2.1.length).2.2.2 65 (va_up ((txZ Z (txF f t).2.2.2.1.length).2.2.2 65) n (some Z.1)) 65 t' = Z.2.2.2 65 t'
          rw [va_up_same, va_up_off (by omega), (hX.2 65 h65).2.2]
        · show va_up (txZ Z (txF f t).2.2.2.1.length).2.2.2 65 (va_up ((txZ Z (txF f t).2.2.2.1.length).2.2.2 65) n (some Z.1)) 65 n = _
          rw [va_up_same, va_up_same]
        · show va_up (txZ Z (txF f t).2.2.2.1.length).2.2.2 65 _ Z.1 3 = _
          rw [va_up_off (by omega)]; exact txZ_r Z (txF f t).2.2.2.1.length
        · rw [hI _ (by omega) (by omega)]; exact k0
        · rw [hI _ (by omega) (by omega)]; exact k1
        · rw [hI _ (by omega) (by omega)]; exact k2
        · rw [hI _ (by omega) (by omega)]; exact kc k y hy
  have hin : zin x 0 1999 = decide ((nI 0).toInt ≤ x.toInt ∧ x.toInt ≤ (nI 1999).toInt) := by unfold zin; rw [nI_toInt (by omega), nI_toInt (by omega)]; rfl
  cases hx : zin x 0 1999 with
  | false =>
    rw [hx] at hin
    refine x_ild1 (n := 1) dX11_text_0 rfl ?_
    refine x_ic0 (n := 2) dX11_text_1 rfl ?_
    refine x_sipush (n := 5) (v := nI 1999) dX11_text_2 rfl (by decide) ?_
    refine x_cS3 (n := 8) (d' := 0) zcX11_inside mlX11_50 dX11_text_5 rfl (Nat.le_of_ble_eq_true rfl) (Nat.le_of_ble_eq_true rfl) ?_
    refine c_X11_inside false hin ?_
    refine x_some ?_
    refine x_ist2 (n := 9) dX11_text_8 rfl (by decide) rfl ?_
    refine x_ild2 (n := 10) dX11_text_9 rfl ?_
    refine x_zif_eq (n := 13) (tgt := 24) dX11_text_10 rfl (by decide) (fun c_10 => ?_) (fun c_10 => ?_)
    · refine x_null (n := 25) dX11_text_24 rfl ?_
      exact te_n hS (kOut hx)
    · exact absurd c_10 (by decide)
  | true =>
    rw [hx] at hin
    refine x_ild1 (n := 1) dX11_text_0 rfl ?_
    refine x_ic0 (n := 2) dX11_text_1 rfl ?_
    refine x_sipush (n := 5) (v := nI 1999) dX11_text_2 rfl (by decide) ?_
    refine x_cS3 (n := 8) (d' := 0) zcX11_inside mlX11_50 dX11_text_5 rfl (Nat.le_of_ble_eq_true rfl) (Nat.le_of_ble_eq_true rfl) ?_
    refine c_X11_inside true hin ?_
    refine x_some ?_
    refine x_ist2 (n := 9) dX11_text_8 rfl (by decide) rfl ?_
    refine x_ild2 (n := 10) dX11_text_9 rfl ?_
    refine x_zif_eq (n := 13) (tgt := 24) dX11_text_10 rfl (by decide) (fun c_10 => ?_) (fun c_10 => ?_)
    · exact absurd c_10 (by decide)
    · refine x_ald0 (n := 14) dX11_text_13 rfl ?_
      refine x_getR (n := 17) flX11_25 rfl dX11_text_14 rfl (lK_L hS) (lP_Tp hS) ?_
      refine x_ild1 (n := 18) dX11_text_17 rfl ?_
      refine x_gV1 (n := 21) (mc := 2) (ms := 100) (d' := 6) zcX6_translate mlX11_209 dX11_text_18 rfl (lK_Tp hS) (Nat.le_of_ble_eq_true rfl) (by decide) (by decide) (Nat.le_of_ble_eq_true rfl) ?_
      refine c_X6_translate hS hZ hm hf h1 ht hy (fun hb K hK hK2 => x_some ?_) (fun key hk hk4 hb K hK k0 k1 k2 kc => x_some ?_)
      · exact x_goto (n := 25) dX11_text_21 (by decide) (kBad hx hb K hK hK2)
      · exact x_goto (n := 25) dX11_text_21 (by decide) (kGood hx key hk hk4 hb K hK k0 k1 k2 kc)
end
