/-! ===== the class's tape: a text is translated ===== -/
theorem mc_flt (key t : Nat) : ∀ (ts : List TK) (cd : List CD) (st : List Nat) (ob on : Nat) (want : Bool) (pt : Nat), (∀ x ∈ ts, x.2.2 ≤ t) → (mcP key ts cd st ob on want pt).2.1 ≤ t
  | [], cd, st, ob, on, want, pt, h => by unfold mcP; exact Nat.zero_le _
  | x :: r, cd, st, ob, on, want, pt, h => by
    have ih : ∀ cd' st' ob' on' want' pt', (mcP key r cd' st' ob' on' want' pt').2.1 ≤ t := fun cd' st' ob' on' want' pt' => mc_flt key t r cd' st' ob' on' want' pt' (fun y hy => h y (List.mem_cons_of_mem _ hy))
    have h0 : x.2.2 ≤ t := h x List.mem_cons_self
    unfold mcP
    split
    · split
      · exact h0
      · exact Nat.zero_le _
    · split
      · split
        · exact ih _ _ _ _ _ _
        · split
          · exact ih _ _ _ _ _ _
          · split
            · exact ih _ _ _ _ _ _
            · split
              · exact ih _ _ _ _ _ _
              · exact h0
      · split
        · split
          · exact h0
          · exact ih _ _ _ _ _ _
        · split
          · split
            · exact h0
            · exact ih _ _ _ _ _ _
          · exact h0
theorem tkL_bd (f : Nat → Int32) (t : Nat) : ∀ (n p : Nat) (w : Bool), p ≤ t → ∀ x ∈ tkL f t n p w, x.2.2 ≤ t
  | 0, p, w, hp, x, hx => by
    unfold tkL at hx
    rw [List.mem_singleton] at hx
    rw [hx]; exact Nat.le_refl _
  | n + 1, p, w, hp, x, hx => by
    have hs := skB_le f (t - p) p
    have s1 := skL_b (f := f) (t := t) (t - skB f (t - p) p) (skB f (t - p) p)
    have s2 := skD_b (f := f) (t := t) (t - skB f (t - p) p) (skB f (t - p) p)
    unfold tkL at hx
    split at hx
    · rw [List.mem_singleton] at hx
      rw [hx]; exact Nat.le_refl _
    · split at hx
      · rcases List.mem_cons.mp hx with e | e
        · rw [e]; show skB f (t - p) p ≤ t; omega
        · exact tkL_bd f t n _ _ (by omega) x e
      · split at hx
        · rcases List.mem_cons.mp hx with e | e
          · rw [e]; show skB f (t - p) p ≤ t; omega
          · exact tkL_bd f t n _ _ (by omega) x e
        · rcases List.mem_cons.mp hx with e | e
          · rw [e]; show skB f (t - p) p ≤ t; omega
          · exact tkL_bd f t n _ _ (by omega) x e
theorem tx_flt {f : Nat → Int32} {t : Nat} : (txF f t).2.2.1 ≤ t := by
  unfold txF
  cases hk : kyF f t with
  | none => have := skB_le f t 0; show skB f t 0 ≤ t; omega
  | some key =>
    show (mcP key (tkL f t t 0 false).tail [] [] 0 0 true 0).2.1 ≤ t
    exact mc_flt key t _ _ _ _ _ _ _ (fun x hx => tkL_bd f t t 0 false (Nat.zero_le _) x (List.mem_of_mem_tail hx))
section
variable {l : Launch} {G : zG} {Z : zS} {I J : zI} {Q : Option Value → zS → zI → Prop} {cd : List Int32} {st : List Nat} {ob on pt t : Nat} {want : Bool} {day : Int32} {w2 w3 : Option Value}
theorem tpS_q (h : tpS I cd st ob on pt want) {j : Nat} {v : Int32} (hj : j < 4 ∨ j = 5 ∨ j = 7) : tpS (va_up I 244 (upd (I 244) j v)) cd st ob on pt want := by
  obtain ⟨h1, h2, h3, h4, h5, h6, h7, h8⟩ := h
  refine ⟨?_, ?_, ?_, ?_, ?_, ?_, ?_, ?_⟩
  · rw [va_up_same, upd_off (by omega)]; exact h1
  · rw [va_up_off (by omega)]; exact h2
  · rw [va_up_same, upd_off (by omega)]; exact h3
  · rw [va_up_off (by omega)]; exact h4
  · rw [va_up_same, upd_off (by omega)]; exact h5
  · rw [va_up_same, upd_off (by omega)]; exact h6
  · rw [va_up_same, upd_off (by omega)]; exact h7
  · rw [va_up_same, upd_off (by omega)]; exact h8
/-- but for the tape's own rows nothing has changed -/
def trO (n : Nat) (I J : zI) : Prop := ∀ a, a ≠ 244 → a ≠ 246 → a ≠ 247 → a < n → J a = I a
theorem t69n {r : Nat} (hS : ShL Z) (hr : r < 1000) (hq : ∀ K, (∀ a, a ≠ 244 → K a = J a) → K 244 2 = nI r → Q (some .null) Z K) : zX l G mX6_translate 6 2 100 69 [some (.ref 244), some (.int day), w2, w3] [.int (nI r), .ref 244] Z J Q := by
  refine x_putI (n := 72) flX6_59 rfl (Or.inl rfl) rfl rfl dX6_translate_69 rfl (lK_Tp hS) ?_
  refine x_ald0 (n := 73) dX6_translate_72 rfl ?_
  refine x_getI (n := 76) flX6_59 rfl dX6_translate_73 rfl (lK_Tp hS) ?_
  rw [va_up_same, upd_same]
  refine x_if_lt (n := 79) (tgt := 83) dX6_translate_76 rfl (by decide) (fun c_76 => ?_) (fun c_76 => ?_)
  · exact absurd c_76 (nI_pos (by omega))
  · refine x_null (n := 80) dX6_translate_79 rfl ?_
    refine x_goto (n := 110) dX6_translate_80 (by decide) ?_
    refine r_aret dX6_translate_110 rfl (by first | exact Or.inl ⟨_, rfl⟩ | exact Or.inr ⟨_, rfl⟩) (by first | exact Or.inl rfl | exact Or.inr ⟨_, rfl⟩) ?_
    exact hq _ (fun a ha => va_up_off ha) (by rw [va_up_same, upd_same])
theorem t69y {key : Nat} (hS : ShL Z) (hZ : 282 ≤ Z.1) (hm : Z.1 + 2 ≤ 900000) (hc : cd.length < 96) (h7 : J 244 7 = nI key) (h : tpS J cd st ob on pt want) (hq : ∀ K, trO Z.1 J K → K Z.1 0 = nI key → K Z.1 1 = day → K Z.1 2 = nI pt → (∀ k x, cd[k]? = some x → K (Z.1 + 1) k = x) → Q (some (.ref Z.1)) (txZ Z cd.length) K) : zX l G mX6_translate 6 2 100 69 [some (.ref 244), some (.int day), w2, w3] [.int (-1), .ref 244] Z J Q := by
  obtain ⟨h1, h2, h3, h4, h5, h6, -⟩ := tpS_q (j := 2) (v := -1) h (by omega)
  have k7 : va_up J 244 (upd (J 244) 2 (-1)) 244 7 = nI key := by rw [va_up_same, upd_off (by omega)]; exact h7
  have z : ∀ j, znI Z (va_up J 244 (upd (J 244) 2 (-1))) 244 j = va_up J 244 (upd (J 244) 2 (-1)) 244 j := fun j => by unfold znI; rw [va_up_off (by omega)]
  have zo : (znO Z 7).1 = Z.1 + 1 := rfl
  refine x_putI (n := 72) flX6_59 rfl (Or.inl rfl) rfl rfl dX6_translate_69 rfl (lK_Tp hS) ?_
  refine x_ald0 (n := 73) dX6_translate_72 rfl ?_
  refine x_getI (n := 76) flX6_59 rfl dX6_translate_73 rfl (lK_Tp hS) ?_
  rw [va_up_same, upd_same]
  refine x_if_lt (n := 79) (tgt := 83) dX6_translate_76 rfl (by decide) (fun c_76 => ?_) (fun c_76 => ?_)
  · refine x_new (n := 86) (ci := 7) dX6_translate_83 rfl (by decide) ckX6_62 iiX7 zi_X7 (by omega) (by omega) (by decide) ?_
    have hS := ShL_ZX (ZX_O 7) hZ hS
    refine x_dup (n := 87) dX6_translate_86 rfl rfl ?_
    refine x_ald0 (n := 88) dX6_translate_87 rfl ?_
    refine x_getI (n := 91) flX6_53 rfl dX6_translate_88 rfl (lK_Tp hS) ?_
    rw [z 7, k7]
    refine x_ild1 (n := 92) dX6_translate_91 rfl ?_
    refine x_ald0 (n := 93) dX6_translate_92 rfl ?_
    refine x_getI (n := 96) flX6_29 rfl dX6_translate_93 rfl (lK_Tp hS) ?_
    rw [z 8, h5]
    refine x_ald0 (n := 97) dX6_translate_96 rfl ?_
    refine x_getR (n := 100) flX6_13 rfl dX6_translate_97 rfl (lK_Tp hS) (lP_code hS) ?_
    refine x_ald0 (n := 101) dX6_translate_100 rfl ?_
    refine x_getI (n := 104) flX6_23 rfl dX6_translate_101 rfl (lK_Tp hS) ?_
    rw [z 4, h1]
    refine x_gS2 (n := 107) (mc := 1) (ms := 96) (d' := 1) zcJ7_copyOf_59c91 mlX6_64 dX6_translate_104 rfl (Nat.le_of_ble_eq_true rfl) (by decide) (by decide) (Nat.le_of_ble_eq_true rfl) ?_
    refine c_J7_copyOf (lA_code hS) hc (by rw [zo]; omega) (fun K hK hKk => ?_)
    refine x_some ?_
    refine x_gI4 (n := 110) (mc := 0) (ms := 0) (d' := 1) zcX7_init mlX6_70 dX6_translate_107 rfl (Nat.le_of_ble_eq_true rfl) (by decide) (by decide) (Nat.le_of_ble_eq_true rfl) ?_
    refine c_X7_init (zk_ZX (ZX_A 13 cd.length) ⟨by rw [zo]; omega, by show va_up _ _ _ _ = _; rw [va_up_same]⟩) (fun K2 hK2 e0 e1 e2 => ?_)
    refine x_none ?_
    refine r_aret dX6_translate_110 rfl (by first | exact Or.inl ⟨_, rfl⟩ | exact Or.inr ⟨_, rfl⟩) (by first | exact Or.inl rfl | exact Or.inr ⟨_, rfl⟩) ?_
    refine hq K2 (fun a a1 a2 a3 a4 => ?_) e0 e1 e2 (fun k x hk => ?_)
    · rw [hK2 a (by omega), hK a (by rw [zo]; omega)]
      unfold znI
      rw [va_up_off (by omega), va_up_off (by omega)]
    · have hkl : k < cd.length := (List.getElem?_eq_some_iff.mp hk).1
      rw [hK2 _ (by omega)]
      refine (hKk k hkl).trans ?_
      unfold znI
      rw [va_up_off (by omega)]
      exact h2 k x hk
  · exact absurd (by decide) c_76
theorem t30 {f : Nat → Int32} (hS : ShL Z) (hZ : 282 ≤ Z.1) (hm : Z.1 + 2 ≤ 900000) (hf : J 245 = f) (h1 : J 244 1 = nI t) (ht : t ≤ 96) (hy : byR f t) (h : tpS J [] [] 0 0 0 true)
    (hq0 : (txF f t).2.1 = false → ∀ K, trO Z.1 J K → K 244 2 = nI (txF f t).2.2.1 → Q (some .null) Z K)
    (hq1 : ∀ key, (txF f t).1 = some key → key < 4 → (txF f t).2.1 = true → ∀ K, trO Z.1 J K → K Z.1 0 = nI key → K Z.1 1 = day → K Z.1 2 = nI (txF f t).2.2.2.2 → (∀ k x, (ccs key (txF f t).2.2.2.1)[k]? = some x → K (Z.1 + 1) k = x) → Q (some (.ref Z.1)) (txZ Z (txF f t).2.2.2.1.length) K) : zX l G mX6_translate 6 2 100 30 [some (.ref 244), some (.int day), none, none] [] Z J Q := by
  have hs := skB_le f t 0
  have hlen := tx_len (f := f) ht
  have wb : skB f t 0 + 1 ≤ skW f t (skB f t 0) (t - (skB f t 0 + 1)) (skB f t 0 + 1) ∧ skW f t (skB f t 0) (t - (skB f t 0 + 1)) (skB f t 0 + 1) ≤ 97 := by
    cases hL : isLe f t (skB f t 0) with
    | true => rw [skW_L hL]; have := skL_b (f := f) (t := t) (t - (skB f t 0 + 1)) (skB f t 0 + 1); omega
    | false =>
      cases hD : isDi f t (skB f t 0) with
      | true => rw [skW_D hL hD]; have := skD_b (f := f) (t := t) (t - (skB f t 0 + 1)) (skB f t 0 + 1); omega
      | false => rw [skW_N hL hD]; omega
  have h52 : zX l G mX6_translate 6 2 100 52 [some (.ref 244), some (.int day), some (.int (nI (skB f t 0))), some (.int (nI (skW f t (skB f t 0) (t - (skB f t 0 + 1)) (skB f t 0 + 1))))] [] Z (va_up J 244 (upd (J 244) 7 (oI (kyF f t)))) Q := by
    have k7 : va_up J 244 (upd (J 244) 7 (oI (kyF f t))) 244 7 = oI (kyF f t) := by rw [va_up_same, upd_same]
    cases hk : kyF f t with
    | none =>
      have e : txF f t = (none, (false, skB f t 0, [], 0)) := by unfold txF; rw [hk]
      rw [e] at hq0
      refine x_ald0 (n := 53) dX6_translate_52 rfl ?_
      refine x_ald0 (n := 54) dX6_translate_53 rfl ?_
      refine x_getI (n := 57) flX6_53 rfl dX6_translate_54 rfl (lK_Tp hS) ?_
      rw [va_up_same, upd_same]
      refine x_if_ge (n := 60) (tgt := 64) dX6_translate_57 rfl (by decide) (fun c_57 => ?_) (fun c_57 => ?_)
      · exact absurd c_57 (by decide)
      · refine x_ild2 (n := 61) dX6_translate_60 rfl ?_
        refine x_goto (n := 69) dX6_translate_61 (by decide) ?_
        exact t69n hS (by omega) (fun K hK hK2 => hq0 rfl K (fun a a1 a2 a3 a4 => by rw [hK a a1, va_up_off a1]) hK2)
    | some key =>
      have hkk : skB f t 0 < t ∧ isLe f t (skB f t 0) = true := by
        unfold kyF at hk
        split at hk
        · rename_i h; exact h
        · cases hk
      have hk4 : key < 4 := by
        have h9 := hk
        unfold kyF at h9
        rw [if_pos hkk] at h9
        exact keyF_4 h9
      have e : txF f t = (some key, mcP key (tkL f t t 0 false).tail [] [] 0 0 true 0) := by unfold txF; rw [hk]
      have sg := skL_gt hkk.2
      have sb := skL_b (f := f) (t := t) (t - skB f t 0) (skB f t 0)
      rw [skW_L hkk.2, ← skL_1 hkk.1 hkk.2]
      have hQ : ffQ Z (fun r Z' I' => zX l G mX6_translate 6 2 100 69 [some (.ref 244), some (.int day), some (.int (nI (skB f t 0))), some (.int (nI (skL f t (t - skB f t 0) (skB f t 0))))] (r.toList ++ [.ref 244]) Z' I' Q) key (va_up J 244 (upd (J 244) 7 (nI key))) (mcP key (tkL f t (t - 1) (skL f t (t - skB f t 0) (skB f t 0)) true) [] [] 0 0 true 0) := by
        rw [← tk_tail hkk.1 hkk.2]
        have hfl := tx_flt (f := f) (t := t)
        rw [e] at hq0 hq1 hlen hfl
        have hfl : (mcP key (tkL f t t 0 false).tail [] [] 0 0 true 0).2.1 ≤ t := hfl
        refine ⟨fun hb K hK => ?_, fun hb K st' ob' on' hK hKs => ?_⟩
        · exact x_some (t69n hS (by omega) (fun K2 k1 k2 => hq0 hb K2 (fun a b1 b2 b3 b4 => by rw [k1 a b1, hK.1 a b1 b2 b3, va_up_off b1]) k2))
        · refine x_some (t69y (key := key) hS hZ hm (by rw [ccs_len]; exact hlen) ?_ hKs (fun K2 a1 a2 a3 a4 a5 => ?_))
          · rw [hK.2 7 (by omega), va_up_same, upd_same]
          · rw [ccs_len]
            exact hq1 key rfl hk4 hb K2 (fun a b1 b2 b3 b4 => by rw [a1 a b1 b2 b3 b4, hK.1 a b1 b2 b3, va_up_off b1]) a2 a3 a4 a5
      refine x_ald0 (n := 53) dX6_translate_52 rfl ?_
      refine x_ald0 (n := 54) dX6_translate_53 rfl ?_
      refine x_getI (n := 57) flX6_53 rfl dX6_translate_54 rfl (lK_Tp hS) ?_
      rw [va_up_same, upd_same]
      refine x_if_ge (n := 60) (tgt := 64) dX6_translate_57 rfl (by decide) (fun c_57 => ?_) (fun c_57 => ?_)
      · refine x_ald0 (n := 65) dX6_translate_64 rfl ?_
        refine x_ild3 (n := 66) dX6_translate_65 rfl ?_
        refine x_cV1 (n := 69) (d' := 5) zcX6_firstFault mlX6_56 dX6_translate_66 rfl (lK_Tp hS) (Nat.le_of_ble_eq_true rfl) (Nat.le_of_ble_eq_true rfl) ?_
        exact c_X6_firstFault hS (by rw [va_up_same, upd_off (by omega)]; exact h1) ht (by rw [va_up_same, upd_same]; rfl) hk4 (by rw [va_up_off (by omega), hf]; exact hy) (n := t - 1) (by omega) (by omega) (by omega) (by rw [va_up_off (by omega), hf]; unfold isWd; rw [sb.2.2 sg]; rfl) (tpS_q h (by omega)) (by rw [va_up_off (by omega), hf]; exact hQ)
        done
      · exact absurd (nI_pos' (by omega)) c_57
  refine x_ald0 (n := 31) dX6_translate_30 rfl ?_
  refine x_ic0 (n := 32) dX6_translate_31 rfl ?_
  refine x_cV1 (n := 35) (d' := 0) zcX6_behindBlanks mlX6_42 dX6_translate_32 rfl (lK_Tp hS) (Nat.le_of_ble_eq_true rfl) (Nat.le_of_ble_eq_true rfl) ?_
  refine c_X6_behindBlanks hS h1 ht ?_
  refine x_some ?_
  refine x_ist2 (n := 36) dX6_translate_35 rfl (by decide) rfl ?_
  refine x_ald0 (n := 37) dX6_translate_36 rfl ?_
  refine x_ild2 (n := 38) dX6_translate_37 rfl ?_
  refine x_cV1 (n := 41) (d' := 2) zcX6_endOfWord mlX6_46 dX6_translate_38 rfl (lK_Tp hS) (Nat.le_of_ble_eq_true rfl) (Nat.le_of_ble_eq_true rfl) ?_
  refine c_X6_endOfWord hS h1 ht (by rw [hf]; omega) ?_
  refine x_some ?_
  refine x_ist3 (n := 42) dX6_translate_41 rfl (by decide) rfl ?_
  refine x_ald0 (n := 43) dX6_translate_42 rfl ?_
  refine x_ald0 (n := 44) dX6_translate_43 rfl ?_
  refine x_ild2 (n := 45) dX6_translate_44 rfl ?_
  refine x_ild3 (n := 46) dX6_translate_45 rfl ?_
  refine x_cV2 (n := 49) (d' := 5) zcX6_keyOf mlX6_49 dX6_translate_46 rfl (lK_Tp hS) (Nat.le_of_ble_eq_true rfl) (Nat.le_of_ble_eq_true rfl) ?_
  refine c_X6_keyOf hS h1 ht (by rw [hf]; omega) (by rw [hf]; omega) ?_
  refine x_some ?_
  rw [hf]
  refine x_top kc_ky ?_
  refine x_putI (n := 52) flX6_53 rfl (Or.inl rfl) rfl rfl dX6_translate_49 rfl (lK_Tp hS) ?_
  exact h52
theorem c_X6_translate {f : Nat → Int32} (hS : ShL Z) (hZ : 282 ≤ Z.1) (hm : Z.1 + 2 ≤ 900000) (hf : I 245 = f) (h1 : I 244 1 = nI t) (ht : t ≤ 96) (hy : byR f t)
    (hq0 : (txF f t).2.1 = false → ∀ K, trO Z.1 I K → K 244 2 = nI (txF f t).2.2.1 → Q (some .null) Z K)
    (hq1 : ∀ key, (txF f t).1 = some key → key < 4 → (txF f t).2.1 = true → ∀ K, trO Z.1 I K → K Z.1 0 = nI key → K Z.1 1 = day → K Z.1 2 = nI (txF f t).2.2.2.2 → (∀ k x, (ccs key (txF f t).2.2.2.1)[k]? = some x → K (Z.1 + 1) k = x) → Q (some (.ref Z.1)) (txZ Z (txF f t).2.2.2.1.length) K) : zM l G mX6_translate 6 2 100 [.ref 244, .int day] Z I Q := by
  refine x_entry [some (.ref 244), some (.int day), none, none] 2 rfl rfl (Nat.le_of_ble_eq_true rfl) ?_
  have hgo : ∀ J, (∀ a, a ≠ 244 → J a = I a) → J 244 1 = nI t → J 244 4 = nI 0 → J 244 6 = nI 0 → J 244 8 = nI 0 → J 244 9 = nI 0 → J 244 10 = nI 0 → J 244 11 = nI 1 → zX l G mX6_translate 6 2 100 30 [some (.ref 244), some (.int day), none, none] [] Z J Q := fun J a a1 a4 a6 a8 a9 a10 a11 =>
    t30 (f := f) hS hZ hm (by rw [a 245 (by decide)]; exact hf) a1 ht hy ⟨a4, fun j x hj => by simp at hj, a6, fun j x hj => by simp at hj, a8, a9, a10, a11⟩ (fun b K k1 k2 => hq0 b K (fun x x1 x2 x3 x4 => by rw [k1 x x1 x2 x3 x4, a x x1]) k2) (fun key b1 b2 b3 K k1 k2 k3 k4 k5 => hq1 key b1 b2 b3 K (fun x x1 x2 x3 x4 => by rw [k1 x x1 x2 x3 x4, a x x1]) k2 k3 k4 k5)
  refine x_ald0 (n := 1) dX6_translate_0 rfl ?_
  refine x_ic0 (n := 2) dX6_translate_1 rfl ?_
  refine x_putI (n := 5) flX6_23 rfl (Or.inl rfl) rfl rfl dX6_translate_2 rfl (lK_Tp hS) ?_
  refine x_ald0 (n := 6) dX6_translate_5 rfl ?_
  refine x_ic0 (n := 7) dX6_translate_6 rfl ?_
  refine x_putI (n := 10) flX6_26 rfl (Or.inl rfl) rfl rfl dX6_translate_7 rfl (lK_Tp hS) ?_
  refine x_ald0 (n := 11) dX6_translate_10 rfl ?_
  refine x_ic0 (n := 12) dX6_translate_11 rfl ?_
  refine x_putI (n := 15) flX6_29 rfl (Or.inl rfl) rfl rfl dX6_translate_12 rfl (lK_Tp hS) ?_
  refine x_ald0 (n := 16) dX6_translate_15 rfl ?_
  refine x_ic0 (n := 17) dX6_translate_16 rfl ?_
  refine x_putI (n := 20) flX6_32 rfl (Or.inl rfl) rfl rfl dX6_translate_17 rfl (lK_Tp hS) ?_
  refine x_ald0 (n := 21) dX6_translate_20 rfl ?_
  refine x_ic0 (n := 22) dX6_translate_21 rfl ?_
  refine x_putI (n := 25) flX6_35 rfl (Or.inl rfl) rfl rfl dX6_translate_22 rfl (lK_Tp hS) ?_
  refine x_ald0 (n := 26) dX6_translate_25 rfl ?_
  refine x_ic1 (n := 27) dX6_translate_26 rfl ?_
  refine x_putI (n := 30) flX6_38 rfl (Or.inl rfl) (by first | exact nar0 | exact nar1 | exact zb_nar _) (by decide) dX6_translate_27 rfl (lK_Tp hS) ?_
  refine hgo _ (fun a ha => ?_) ?_ ?_ ?_ ?_ ?_ ?_ ?_
  · rw [va_up_off ha, va_up_off ha, va_up_off ha, va_up_off ha, va_up_off ha, va_up_off ha]
  · simp only [va_up_same]; rw [upd_off (by decide), upd_off (by decide), upd_off (by decide), upd_off (by decide), upd_off (by decide), upd_off (by decide)]; exact h1
  · simp only [va_up_same]; rw [upd_off (by decide), upd_off (by decide), upd_off (by decide), upd_off (by decide), upd_off (by decide), upd_same]
  · simp only [va_up_same]; rw [upd_off (by decide), upd_off (by decide), upd_off (by decide), upd_off (by decide), upd_same]
  · simp only [va_up_same]; rw [upd_off (by decide), upd_off (by decide), upd_off (by decide), upd_same]
  · simp only [va_up_same]; rw [upd_off (by decide), upd_off (by decide), upd_same]
  · simp only [va_up_same]; rw [upd_off (by decide), upd_same]
  · simp only [va_up_same]; rw [upd_same]
end
