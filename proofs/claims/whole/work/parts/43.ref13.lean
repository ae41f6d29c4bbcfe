/-! ===== bits ===== -/
theorem zsl : ∀ n, n < 32 → ((nI n &&& 31).toBitVec.smod 32).toNat = n := by decide
theorem zbit {s k : Nat} (hs : s < 2147483648) (hk : k < 31) : (nI s >>> (nI k &&& 31)) &&& nI 1 = nI (if s.testBit k = true then 1 else 0) := by
  have hl : s / 2 ^ k ≤ s := Nat.div_le_self _ _
  rw [pk_shrN hs _ k (zsl k (by omega)), pk_andN (by omega) 1 (by decide), Nat.testBit_eq_decide_div_mod_eq]
  by_cases h : s / 2 ^ k % 2 = 1
  · rw [if_pos (by simpa using h)]
    congr 1
  · rw [if_neg (by simpa using h)]
    congr 1
    omega
theorem zshl {k : Nat} (hk : k < 31) : nI 1 <<< (nI k &&& 31) = nI (2 ^ k) := by
  have h : 2 ^ k ≤ 2 ^ 31 := Nat.pow_le_pow_right (by omega) (by omega)
  rw [pk_shlN (n := 1) _ k (zsl k (by omega)) (by omega), Nat.one_mul]
theorem zor (a b : Nat) : nI a ||| nI b = nI (a ||| b) := by
  apply Int32.toBitVec_inj.mp
  rw [Int32.toBitVec_or]
  exact BitVec.ofNat_or.symm
theorem zor_lt {s k n : Nat} (hs : s < 2 ^ n) (hk : k < n) : s ||| 2 ^ k < 2 ^ n := Nat.or_lt_two_pow hs (Nat.pow_lt_pow_right (by omega) hk)
theorem zor_gt {s k : Nat} (h : s.testBit k = false) : s < s ||| 2 ^ k := by
  have h1 : s ≤ s ||| 2 ^ k := Nat.left_le_or
  have h2 : s ≠ s ||| 2 ^ k := by
    intro e
    have : (s ||| 2 ^ k).testBit k = true := by rw [Nat.testBit_or, Nat.testBit_two_pow_self, Bool.or_true]
    rw [← e, h] at this
    cases this
  omega
def zfst (p : Nat → Bool) : Nat → Option Nat
  | 0 => none
  | n + 1 => match zfst p n with
    | some k => some k
    | none => if p n = true then some n else none
theorem zfst_some {p : Nat → Bool} {k : Nat} : ∀ {n : Nat}, zfst p k = none → p k = true → k < n → zfst p n = some k
  | 0, _, _, h => absurd h (by omega)
  | n + 1, h0, hp, h => by
    unfold zfst
    by_cases hk : k = n
    · subst hk; rw [h0]; simp only [if_pos hp]
    · rw [zfst_some h0 hp (by omega)]
theorem zfst_next {p : Nat → Bool} {k : Nat} (h0 : zfst p k = none) (hp : p k = false) : zfst p (k + 1) = none := by
  unfold zfst; rw [h0]; simp [hp]
theorem zfst_t {p : Nat → Bool} {k : Nat} : ∀ {n : Nat}, zfst p n = some k → k < n ∧ p k = true
  | 0, h => by cases h
  | n + 1, h => by
    unfold zfst at h
    cases e : zfst p n with
    | none =>
      rw [e] at h
      simp only at h
      split at h
      · cases h; exact ⟨by omega, by assumption⟩
      · cases h
    | some j =>
      rw [e] at h
      cases h
      have := zfst_t e
      exact ⟨by omega, this.2⟩
theorem zfst_cong {p q : Nat → Bool} : ∀ {n : Nat}, (∀ k, k < n → p k = q k) → zfst p n = zfst q n
  | 0, _ => rfl
  | n + 1, h => by unfold zfst; rw [zfst_cong (fun k hk => h k (by omega)), h n (by omega)]
/-! ===== faces and arches ===== -/
def mS (g : Nat → Int32) (D : Nat) : Nat := zsum (fun f => (D - vN g (480 + 2 * f)) * vN g (480 + 2 * f + 1)) (vN g 6)
def mD (g : Nat → Int32) (D : Nat) (f : Nat) : Nat := if vN g (480 + 2 * f) ≤ D then vN g (480 + 2 * f + 1) else 0
def f_meets (g : Nat → Int32) (x : Int32) : Int32 := if zin x 1 9999 = true then (if vN g 6 = 0 then -1000000005 else nI (zct (fun D => decide (mS g (D + 1) < ix x)) 20000)) else -1000000001
def aN (g : Nat → Int32) (s k : Nat) : Nat := if s.testBit k = true then vN g (495 + k) else 0
def gHp (g : Nat → Int32) (p s k : Nat) : Bool := decide (aN g s k - aN g s (k + 1) ≤ p ∧ aN g s (k + 1) - aN g s k ≤ p)
def gHold (g : Nat → Int32) (p s : Nat) : Bool := zal (gHp g p s) (vN g 7 - 1)
def gNx (n : Nat) (T : Nat → Bool) (s : Nat) : Option Nat := zfst (fun k => !s.testBit k && T (s ||| 2 ^ k)) n
/-- the sets from all down to r judged -/
def gEnd (g : Nat → Int32) (p : Nat) : Nat → Nat → Bool
  | 0, _ => false
  | i + 1, j => if j = 2 ^ vN g 7 - 1 - i then (decide (j = 0) || gHold g p j) && (decide (j = 2 ^ vN g 7 - 1) || (gNx (vN g 7) (gEnd g p i) j).isSome) else gEnd g p i j
def gT (g : Nat → Int32) (p : Nat) : Nat → Bool := gEnd g p (2 ^ vN g 7)
def gSq (g : Nat → Int32) (p : Nat) : Nat → Nat
  | 0 => 0
  | k + 1 => gSq g p k ||| 2 ^ ((gNx (vN g 7) (gT g p) (gSq g p k)).getD 0)
def f_order (g : Nat → Int32) (p i : Int32) : Int32 := if zin p 0 9 = true ∧ 0 ≤ i then (if gT g (ix p) 0 = true ∧ i < nI (vN g 7) then oI (gNx (vN g 7) (gT g (ix p)) (gSq g (ix p) (ix i))) else -1000000005) else -1000000001
theorem zsum_cong {f h : Nat → Nat} : ∀ {n : Nat}, (∀ k, k < n → f k = h k) → zsum f n = zsum h n
  | 0, _ => rfl
  | n + 1, e => by unfold zsum; rw [zsum_cong (fun k hk => e k (by omega)), e n (by omega)]
theorem zsum_add {f h : Nat → Nat} : ∀ n, zsum f n + zsum h n = zsum (fun k => f k + h k) n
  | 0 => rfl
  | n + 1 => by unfold zsum; rw [← zsum_add n]; omega
theorem zsum_mono {f h : Nat → Nat} : ∀ {n : Nat}, (∀ k, k < n → f k ≤ h k) → zsum f n ≤ zsum h n
  | 0, _ => Nat.le_refl 0
  | n + 1, e => by
    have := zsum_mono (fun k hk => e k (Nat.lt_succ_of_lt hk)) (n := n)
    have h2 := e n (by omega)
    unfold zsum; omega
theorem zsum_c (c : Nat) : ∀ n, zsum (fun _ => c) n = n * c
  | 0 => by simp [zsum]
  | n + 1 => by unfold zsum; rw [zsum_c c n, Nat.succ_mul]
theorem zsum_ge {f : Nat → Nat} {k : Nat} : ∀ {n : Nat}, k < n → f k ≤ zsum f n
  | 0, h => absurd h (by omega)
  | n + 1, h => by
    unfold zsum
    by_cases e : k = n
    · subst e; omega
    · have := zsum_ge (f := f) (k := k) (n := n) (by omega); omega
section
variable {l : Launch} {G : zG} {Z : zS} {I : zI} {g : Nat → Int32} {Q : Option Value → zS → zI → Prop}
theorem mS_0 : mS g 0 = 0 := by
  unfold mS
  rw [zsum_cong (h := fun _ => 0) (fun k _ => by rw [Nat.zero_sub, Nat.zero_mul]), zsum_c]; omega
theorem mS_succ (D : Nat) : mS g (D + 1) = mS g D + zsum (mD g D) (vN g 6) := by
  unfold mS
  rw [zsum_add]
  refine zsum_cong (fun f _ => ?_)
  unfold mD
  split
  · rw [show D + 1 - vN g (480 + 2 * f) = D - vN g (480 + 2 * f) + 1 by omega, Nat.succ_mul]
  · rw [show D + 1 - vN g (480 + 2 * f) = 0 by omega, show D - vN g (480 + 2 * f) = 0 by omega]; omega
theorem mS_mono {a b : Nat} (h : a ≤ b) : mS g a ≤ mS g b := zsum_mono (fun k _ => Nat.mul_le_mul_right _ (by omega))
theorem mS_le (hB : InvB g) (D : Nat) : mS g D ≤ 6 * (D * 99) := by
  have h6 := iv6 hB
  have h1 : mS g D ≤ zsum (fun _ => D * 99) (vN g 6) := zsum_mono (fun k hk => by
    have hf := rg_le (ivF hB hk).2 (by omega)
    exact Nat.mul_le_mul (by omega) (by omega))
  rw [zsum_c] at h1
  exact Nat.le_trans h1 (Nat.mul_le_mul_right _ h6.2)
theorem mS_ge (hB : InvB g) (h0 : vN g 6 ≠ 0) (D : Nat) : D - 1999 ≤ mS g D := by
  have hf := ivF hB (show 0 < vN g 6 by omega)
  have a := rg_le hf.1 (by omega)
  have b := rg_le hf.2 (by omega)
  have h1 : (D - vN g (480 + 2 * 0)) * vN g (480 + 2 * 0 + 1) ≤ mS g D := zsum_ge (f := fun f => (D - vN g (480 + 2 * f)) * vN g (480 + 2 * f + 1)) (by omega)
  have h2 : (D - vN g (480 + 2 * 0)) * 1 ≤ (D - vN g (480 + 2 * 0)) * vN g (480 + 2 * 0 + 1) := Nat.mul_le_mul_left _ (by omega)
  omega
theorem zsubn {x a b : Nat} : nI x - nI a - nI b = nI x - nI (a + b) := by
  rw [← nI_add, Int32.sub_eq_add_neg, Int32.sub_eq_add_neg, Int32.sub_eq_add_neg, Int32.neg_add, Int32.sub_eq_add_neg, Int32.add_assoc]
theorem zct_all {p : Nat → Bool} : ∀ {n : Nat}, (∀ j, j < n → p j = true) → zct p n = n
  | 0, _ => rfl
  | n + 1, h => by rw [← zct_t (h n (by omega)), zct_all (fun j hj => h j (by omega))]
theorem l1_X12_meets (hZ : ShR Z) (hB : InvB g) {x D : Nat} (hD : D < 20000)
    (hx : zX l G mX12_meets 1 0 0 99 [some (.ref qR), some (.int (nI x)), some (.int (nI x - nI (mS g (D + 1)))), some (.int (nI D)), none] [] Z (va_up I q_s g) Q) :
    ∀ m f, f ≤ vN g 6 → vN g 6 - f < m → zX l G mX12_meets 1 0 0 42 [some (.ref qR), some (.int (nI x)), some (.int (nI x - nI (mS g D + zsum (mD g D) f))), some (.int (nI D)), some (.int (nI f))] [] Z (va_up I q_s g) Q := by
  have h6 := iv6 hB
  intro m
  induction m with
  | zero => intro f _ h; exact absurd h (by omega)
  | succ m ih =>
    intro f hf hm
    refine x_ild4 (n := 44) dX12_meets_42 rfl ?_
    refine x_ald0 (n := 45) dX12_meets_44 rfl ?_
    refine x_getR (n := 48) flX12_7 rfl dX12_meets_45 rfl (rK hZ) (rP_s hZ) ?_
    refine x_bipush (n := 50) (v := nI 6) dX12_meets_48 rfl (by decide) ?_
    refine x_sld (n := 51) dX12_meets_50 rfl hZ (by omega) ?_
    rw [h6.1]
    refine x_icmpN_ge (n := 54) (tgt := 99) dX12_meets_51 rfl (by decide) (by omega) (by omega) (fun c_51 => ?_) (fun c_51 => ?_)
    · refine x_fg4 ?_
      rw [show f = vN g 6 by omega, ← mS_succ]
      exact hx
    · have hf2 : f < vN g 6 := by omega
      have hF := ivF hB hf2
      have e0 := rg_nI hF.1 (by omega) (by omega)
      have l0 := rg_le hF.1 (by omega)
      have e1 := rg_nI hF.2 (by omega) (by omega)
      refine x_ild2 (n := 55) dX12_meets_54 rfl ?_
      refine x_ald0 (n := 56) dX12_meets_55 rfl ?_
      refine x_getR (n := 59) flX12_7 rfl dX12_meets_56 rfl (rK hZ) (rP_s hZ) ?_
      refine x_sipush (n := 62) (v := nI 480) dX12_meets_59 rfl (by decide) ?_
      refine x_ic2 (n := 63) dX12_meets_62 rfl ?_
      refine x_ild4 (n := 65) dX12_meets_63 rfl ?_
      refine x_imulN (n := 66) dX12_meets_65 rfl ?_
      refine x_iaddN (n := 67) dX12_meets_66 rfl ?_
      refine x_sld (n := 68) dX12_meets_67 rfl hZ (by omega) ?_
      rw [e0]
      refine x_ild3 (n := 69) dX12_meets_68 rfl ?_
      refine x_icmpN_gt (n := 72) (tgt := 90) dX12_meets_69 rfl (by decide) (by omega) (by omega) (fun c_69 => ?_) (fun c_69 => ?_)
      · refine x_ic0 (n := 91) dX12_meets_90 rfl ?_
        refine x_isub (n := 92) dX12_meets_91 rfl ?_
        refine x_ist2 (n := 93) dX12_meets_92 rfl (by decide) rfl ?_
        refine x_iincN4 (n := 96) (k := 1) dX12_meets_93 rfl (by decide) rfl ?_
        refine x_goto (n := 42) dX12_meets_96 (by decide) ?_
        have ihf := ih (f + 1) (by omega) (by omega)
        have es : zsum (mD g D) (f + 1) = zsum (mD g D) f + mD g D f := rfl
        rw [es, ← Nat.add_assoc, ← zsubn] at ihf
        unfold mD at ihf
        first | (rw [if_neg (by omega)] at ihf; exact ihf) | (rw [if_pos (by omega)] at ihf; exact ihf)
      · refine x_ald0 (n := 73) dX12_meets_72 rfl ?_
        refine x_getR (n := 76) flX12_7 rfl dX12_meets_73 rfl (rK hZ) (rP_s hZ) ?_
        refine x_sipush (n := 79) (v := nI 480) dX12_meets_76 rfl (by decide) ?_
        refine x_ic2 (n := 80) dX12_meets_79 rfl ?_
        refine x_ild4 (n := 82) dX12_meets_80 rfl ?_
        refine x_imulN (n := 83) dX12_meets_82 rfl ?_
        refine x_iaddN (n := 84) dX12_meets_83 rfl ?_
        refine x_ic1 (n := 85) dX12_meets_84 rfl ?_
        refine x_iaddN (n := 86) dX12_meets_85 rfl ?_
        refine x_sld (n := 87) dX12_meets_86 rfl hZ (by omega) ?_
        rw [e1]
        refine x_goto (n := 91) dX12_meets_87 (by decide) ?_
        refine x_isub (n := 92) dX12_meets_91 rfl ?_
        refine x_ist2 (n := 93) dX12_meets_92 rfl (by decide) rfl ?_
        refine x_iincN4 (n := 96) (k := 1) dX12_meets_93 rfl (by decide) rfl ?_
        refine x_goto (n := 42) dX12_meets_96 (by decide) ?_
        have ihf := ih (f + 1) (by omega) (by omega)
        have es : zsum (mD g D) (f + 1) = zsum (mD g D) f + mD g D f := rfl
        rw [es, ← Nat.add_assoc, ← zsubn] at ihf
        unfold mD at ihf
        first | (rw [if_neg (by omega)] at ihf; exact ihf) | (rw [if_pos (by omega)] at ihf; exact ihf)
theorem l2_X12_meets (hZ : ShR Z) (hB : InvB g) {x : Nat} (h0 : vN g 6 ≠ 0) (hx9 : x ≤ 9999) (hx1 : 1 ≤ x) (hq : Q (some (.int (nI (zct (fun D => decide (mS g (D + 1) < x)) 20000)))) Z (va_up I q_s g)) : ∀ m D v, v = nI D - 1 → (∀ e, e < D → mS g e < x) → D ≤ 12000 → 12000 - D < m → zX l G mX12_meets 1 0 0 32 [some (.ref qR), some (.int (nI x)), some (.int (nI x - nI (mS g D))), some (.int v), none] [] Z (va_up I q_s g) Q := by
  intro m
  induction m with
  | zero => intro D v _ _ _ h; exact absurd h (by omega)
  | succ m ih =>
    intro D v hv hlt hD hm
    have hle := mS_le hB D
    refine x_ild2 (n := 33) dX12_meets_32 rfl ?_
    refine x_if_le (n := 36) (tgt := 102) dX12_meets_33 rfl (by decide) (fun c_33 => ?_) (fun c_33 => ?_)
    · rw [Int32.le_iff_toInt_le, pk_sub_toInt (by omega) (by omega)] at c_33
      have c' : (x : Int) - (mS g D : Int) ≤ 0 := c_33
      refine x_ild3 (n := 103) dX12_meets_102 rfl ?_
      refine r_iret dX12_meets_103 rfl ?_
      match D, hv, hlt, hD, c' with
      | 0, hv, hlt, hD, c' =>
        rw [mS_0] at c'
        omega
      | D + 1, hv, hlt, hD, c' =>
        have hz : zct (fun D => decide (mS g (D + 1) < x)) 20000 = zct (fun D => decide (mS g (D + 1) < x)) D := zct_stop (by omega) (fun j h1 h2 => decide_eq_false (by have := mS_mono (g := g) (show D + 1 ≤ j + 1 by omega); omega))
        have hz2 : zct (fun D => decide (mS g (D + 1) < x)) D = D := zct_all (fun j hj => decide_eq_true (hlt (j + 1) (by omega)))
        rw [hz, hz2] at hq
        rw [hv, nI_pred]; exact hq
    · rw [Int32.le_iff_toInt_le, pk_sub_toInt (by omega) (by omega)] at c_33
      have c' : ¬ (x : Int) - (mS g D : Int) ≤ 0 := c_33
      have hge := mS_ge hB h0 D
      refine x_iinc3 (n := 39) (v := nI D) dX12_meets_36 rfl (by decide) (by rw [hv]; exact Int32.sub_add_cancel _ _) rfl ?_
      refine x_ic0 (n := 40) dX12_meets_39 rfl ?_
      refine x_ist4 (n := 42) dX12_meets_40 rfl (by decide) rfl ?_
      have := l1_X12_meets (l := l) (G := G) (I := I) (Q := Q) (x := x) (D := D) hZ hB (by omega) ?_ (vN g 6 + 1) 0 (by omega) (by omega)
      · exact this
      · refine x_goto (n := 32) dX12_meets_99 (by decide) ?_
        exact ih (D + 1) (nI D) (nI_pred D).symm (fun e he => by by_cases h : e = D; (subst h; omega); exact hlt e (by omega)) (by omega) (by omega)
theorem c_X12_meets (hZ : ShR Z) (hB : InvB g) {x : Int32} (hq : Q (some (.int (f_meets g x))) Z (va_up I q_s g)) : zM l G mX12_meets 1 0 0 [.ref qR, .int x] Z (va_up I q_s g) Q := by
  have h6 := iv6 hB
  refine x_entry [some (.ref qR), some (.int x), none, none, none] 3 rfl rfl (Nat.le_of_ble_eq_true rfl) ?_
  unfold f_meets at hq
  refine x_ild1 (n := 1) dX12_meets_0 rfl ?_
  refine x_i2l (n := 2) dX12_meets_1 rfl ?_
  refine x_lconst (n := 3) (v := 1) dX12_meets_2 rfl (by decide) ?_
  refine x_ldc2 (n := 6) dX12_meets_3 rfl klX12_147 ?_
  refine x_cS3 (n := 9) (d' := 0) zcX12_isIn mlX12_89 dX12_meets_6 rfl (Nat.le_of_ble_eq_true rfl) (Nat.le_of_ble_eq_true rfl) ?_
  refine c_X12_isIn (zin x 1 9999) (by unfold zin; rw [zI64]; rfl) ?_
  refine x_some ?_
  refine x_zif_ne (n := 12) (tgt := 15) dX12_meets_9 rfl (by decide) (fun c_9 => ?_) (fun c_9 => ?_)
  · rw [if_pos c_9] at hq
    obtain ⟨n, hn, hn1, hn2, rfl⟩ := z_numL 10000 c_9 (by omega) (by omega)
    rw [ix_nI (by omega)] at hq
    refine x_ald0 (n := 16) dX12_meets_15 rfl ?_
    refine x_getR (n := 19) flX12_7 rfl dX12_meets_16 rfl (rK hZ) (rP_s hZ) ?_
    refine x_bipush (n := 21) (v := nI 6) dX12_meets_19 rfl (by decide) ?_
    refine x_sld (n := 22) dX12_meets_21 rfl hZ (by omega) ?_
    rw [h6.1]
    refine x_if_ne (n := 25) (tgt := 28) dX12_meets_22 rfl (by decide) (fun c_22 => ?_) (fun c_22 => ?_)
    · have h60 : vN g 6 ≠ 0 := fun e => c_22 (by rw [e]; rfl)
      rw [if_neg h60] at hq
      refine x_ild1 (n := 29) dX12_meets_28 rfl ?_
      refine x_ist2 (n := 30) dX12_meets_29 rfl (by decide) rfl ?_
      refine x_icm1 (n := 31) dX12_meets_30 rfl ?_
      refine x_ist3 (n := 32) dX12_meets_31 rfl (by decide) rfl ?_
      have := l2_X12_meets (l := l) (G := G) (I := I) (Q := Q) (x := n) hZ hB h60 (by omega) (by omega) hq 12001 0 (-1) (by decide) (fun e he => absurd he (by omega)) (by omega) (by omega)
      rw [mS_0] at this
      rw [show nI n - nI 0 = nI n from Int32.sub_zero _] at this
      exact this
    · rw [if_pos ((nI_eq (b := 0) (by omega) (by omega)).mp c_22)] at hq
      refine x_ldc (n := 27) dX12_meets_25 rfl kiX12_88 ?_
      refine r_iret dX12_meets_27 rfl ?_
      exact hq
  · rw [if_neg (by grind)] at hq
    refine x_ldc (n := 14) dX12_meets_12 rfl kiX12_100 ?_
    refine r_iret dX12_meets_14 rfl ?_
    exact hq
end
