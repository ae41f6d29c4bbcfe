/-! ===== bits; rows of static rows; what all the class's methods share ===== -/
theorem zand (a b : Nat) : nI a &&& nI b = nI (a &&& b) := by
  apply Int32.toBitVec_inj.mp
  rw [Int32.toBitVec_and]
  exact BitVec.ofNat_and.symm
theorem zxor (a b : Nat) : nI a ^^^ nI b = nI (a ^^^ b) := by
  apply Int32.toBitVec_inj.mp
  rw [Int32.toBitVec_xor]
  exact BitVec.ofNat_xor.symm
theorem zandn (a b : Nat) : nI a &&& (nI b ^^^ (-1)) = nI (a ^^^ (a &&& b)) := by
  rw [← zxor, ← zand]
  apply Int32.toBitVec_inj.mp
  rw [Int32.toBitVec_and, Int32.toBitVec_xor, Int32.toBitVec_xor, Int32.toBitVec_and]
  rw [show (-1 : Int32).toBitVec = BitVec.allOnes 32 from by decide]
  generalize (nI a).toBitVec = x
  generalize (nI b).toBitVec = y
  apply BitVec.eq_of_getLsbD_eq
  intro i hi
  simp only [BitVec.getLsbD_and, BitVec.getLsbD_xor, BitVec.getLsbD_allOnes, hi, decide_true]
  cases x.getLsbD i <;> cases y.getLsbD i <;> rfl
theorem zandn_bit (a b k : Nat) : (a ^^^ (a &&& b)).testBit k = (a.testBit k && !b.testBit k) := by
  rw [Nat.testBit_xor, Nat.testBit_and]
  cases a.testBit k <;> cases b.testBit k <;> rfl
theorem zandn_lt {a b n : Nat} (h : a < 2 ^ n) : a ^^^ (a &&& b) < 2 ^ n := Nat.xor_lt_two_pow h (Nat.lt_of_le_of_lt Nat.and_le_left h)
/-- the k < n with p, as bits -/
def zbs (p : Nat → Bool) : Nat → Nat
  | 0 => 0
  | n + 1 => zbs p n ||| if p n = true then 2 ^ n else 0
theorem zbs_lt (p : Nat → Bool) : ∀ n, zbs p n < 2 ^ n
  | 0 => by show 0 < 1; omega
  | n + 1 => by
    have h := zbs_lt p n
    have h2 : 2 ^ n < 2 ^ (n + 1) := Nat.pow_lt_pow_right (by omega) (by omega)
    unfold zbs
    refine Nat.or_lt_two_pow (by omega) ?_
    split <;> omega
theorem zbs_bit (p : Nat → Bool) (k : Nat) : ∀ n, (zbs p n).testBit k = (decide (k < n) && p k)
  | 0 => by simp [zbs]
  | n + 1 => by
    unfold zbs
    rw [Nat.testBit_or, zbs_bit p k n]
    by_cases hk : k = n
    · subst hk
      by_cases hp : p k = true
      · rw [if_pos hp, Nat.testBit_two_pow_self, hp]; simp
      · rw [if_neg hp]; simp [hp]
    · have h1 : decide (k < n) = decide (k < n + 1) := by
        by_cases h : k < n
        · rw [decide_eq_true h, decide_eq_true (show k < n + 1 by omega)]
        · rw [decide_eq_false h, decide_eq_false (show ¬ k < n + 1 by omega)]
      have h2 : (if p n = true then 2 ^ n else 0).testBit k = false := by
        split
        · rw [Nat.testBit_two_pow]; exact decide_eq_false (fun e => hk e.symm)
        · exact Nat.zero_testBit k
      rw [h2, h1, Bool.or_false]
theorem zbs_t {p : Nat → Bool} {k : Nat} (h : p k = true) : zbs p k ||| 2 ^ k = zbs p (k + 1) := by
  show _ = zbs p k ||| if p k = true then 2 ^ k else 0
  rw [if_pos h]
theorem zbs_f {p : Nat → Bool} {k : Nat} (h : p k = false) : zbs p k = zbs p (k + 1) := by
  show zbs p k = zbs p k ||| if p k = true then 2 ^ k else 0
  rw [if_neg (by rw [h]; decide), Nat.or_zero]
theorem gBitN {a j : Nat} (ha : a < 2147483648) (hj : j < 31) : gBit (nI a) j = a.testBit j := by
  unfold gBit
  rw [zbit ha hj]
  cases a.testBit j <;> decide
theorem zb_bits {s t : Nat} (n : Nat) (hs : s < 2 ^ n) (ht : t < 2 ^ n) (h : ∀ k, k < n → s.testBit k = t.testBit k) : s = t := by
  apply Nat.eq_of_testBit_eq
  intro k
  by_cases hk : k < n
  · exact h k hk
  · rw [Nat.testBit_lt_two_pow (Nat.lt_of_lt_of_le hs (Nat.pow_le_pow_right (by omega) (by omega))), Nat.testBit_lt_two_pow (Nat.lt_of_lt_of_le ht (Nat.pow_le_pow_right (by omega) (by omega)))]
abbrev zst_HIGHEST_RULES : String × String × Nat × List Int32 := ("LineMaking$Ground", "HIGHEST_RULES", 0, [9, 9, 9, 99, 99, 1999])
abbrev zst_STANDS : String × String × Nat × List Int32 := ("LineMaking$Ground", "STANDS", 1, [99, 20, 8, 12])
abbrev zst_KIND_ABOVE : String × String × Nat × List Int32 := ("LineMaking$Work", "KIND_ABOVE", 2, [-1, 0, 0, 1, 0, 1, 0])
abbrev zst_CUT_RATES : String × String × Nat × List Int32 := ("LineMaking$Work", "CUT_RATES", 3, [1, 3, 2, 3])
abbrev zst_HIGHEST_HELD : String × String × Nat × List Int32 := ("LineMaking$Texts", "HIGHEST_HELD", 4, [999, 100, 99999])
theorem x_alenN {l : Launch} {G : zG} {md : zD} {d ac as pc n : Nat} {ls : List (Option Value)} {st : List Value} {Z : zS} {I : zI} {Q : Option Value → zS → zI → Prop} {a ci N : Nat} (hd : decode md.2.1 pc = .ok (.arraylength, 1)) (hn : pc + 1 = n) (ha : za Z a ci N) (hci : 13 ≤ ci ∧ ci < 18) (kk : zX l G md d ac as n ls (.int (nI N) :: st) Z I Q) : zX l G md d ac as pc ls (.ref a :: st) Z I Q := x_alen hd hn ha hci rfl kk
section
variable {l : Launch} {G : zG} {Z : zS} {I : zI} {g : Nat → Int32} {mk : Nat} {Q : Option Value → zS → zI → Prop}
theorem c_X11_inside {x lo hi : Int32} (r : Bool) (hr : r = decide (lo.toInt ≤ x.toInt ∧ x.toInt ≤ hi.toInt)) (hq : Q (some (.int (zb r))) Z I) : zM l G mX11_inside 0 0 0 [.int x, .int lo, .int hi] Z I Q := by
  refine x_entry [some (.int x), some (.int lo), some (.int hi)] 0 rfl rfl (Nat.le_of_ble_eq_true rfl) ?_
  refine x_ild0 (n := 1) dX11_inside_0 rfl ?_
  refine x_ild1 (n := 2) dX11_inside_1 rfl ?_
  refine x_icmp_lt (n := 5) (tgt := 14) dX11_inside_2 rfl (by decide) (fun c_2 => ?_) (fun c_2 => ?_)
  · refine x_ic0 (n := 15) dX11_inside_14 rfl ?_
    refine r_zret dX11_inside_15 rfl (by first | exact nar0 | exact nar1 | exact zb_nar _) ?_
    subst hr
    first | (rw [decide_eq_true (by simp only [zlt] at *; omega)] at hq; exact hq) | (rw [decide_eq_false (by simp only [zlt] at *; omega)] at hq; exact hq)
  · refine x_ild0 (n := 6) dX11_inside_5 rfl ?_
    refine x_ild2 (n := 7) dX11_inside_6 rfl ?_
    refine x_icmp_gt (n := 10) (tgt := 14) dX11_inside_7 rfl (by decide) (fun c_7 => ?_) (fun c_7 => ?_)
    · refine x_ic0 (n := 15) dX11_inside_14 rfl ?_
      refine r_zret dX11_inside_15 rfl (by first | exact nar0 | exact nar1 | exact zb_nar _) ?_
      subst hr
      first | (rw [decide_eq_true (by simp only [zlt] at *; omega)] at hq; exact hq) | (rw [decide_eq_false (by simp only [zlt] at *; omega)] at hq; exact hq)
    · refine x_ic1 (n := 11) dX11_inside_10 rfl ?_
      refine x_goto (n := 15) dX11_inside_11 (by decide) ?_
      refine r_zret dX11_inside_15 rfl (by first | exact nar0 | exact nar1 | exact zb_nar _) ?_
      subst hr
      first | (rw [decide_eq_true (by simp only [zlt] at *; omega)] at hq; exact hq) | (rw [decide_eq_false (by simp only [zlt] at *; omega)] at hq; exact hq)
theorem c_X11_hasBit {s k : Nat} (hs : s < 2147483648) (hk : k < 31) (hq : Q (some (.int (zb (s.testBit k)))) Z I) : zM l G mX11_hasBit 0 0 0 [.int (nI s), .int (nI k)] Z I Q := by
  refine x_entry [some (.int (nI s)), some (.int (nI k))] 0 rfl rfl (Nat.le_of_ble_eq_true rfl) ?_
  refine x_ild0 (n := 1) dX11_hasBit_0 rfl ?_
  refine x_ild1 (n := 2) dX11_hasBit_1 rfl ?_
  refine x_ishr (n := 3) dX11_hasBit_2 rfl ?_
  refine x_ic1 (n := 4) dX11_hasBit_3 rfl ?_
  refine x_iand (n := 5) dX11_hasBit_4 rfl ?_
  rw [zbit hs hk]
  refine x_if_eq (n := 8) (tgt := 12) dX11_hasBit_5 rfl (by decide) (fun c_5 => ?_) (fun c_5 => ?_)
  · refine x_ic0 (n := 13) dX11_hasBit_12 rfl ?_
    refine r_zret dX11_hasBit_13 rfl (by first | exact nar0 | exact nar1 | exact zb_nar _) ?_
    cases hb : s.testBit k <;> rw [hb] at hq c_5 <;> first | exact hq | (exact absurd c_5 (by decide)) | (exact absurd (by decide) c_5)
  · refine x_ic1 (n := 9) dX11_hasBit_8 rfl ?_
    refine x_goto (n := 13) dX11_hasBit_9 (by decide) ?_
    refine r_zret dX11_hasBit_13 rfl (by first | exact nar0 | exact nar1 | exact zb_nar _) ?_
    cases hb : s.testBit k <;> rw [hb] at hq c_5 <;> first | exact hq | (exact absurd c_5 (by decide)) | (exact absurd (by decide) c_5)
def clF (v lo hi : Int32) : Int32 := if lo < (if v < hi then v else hi) then (if v < hi then v else hi) else lo
theorem clF_i (v lo hi : Int32) : (clF v lo hi).toInt = max lo.toInt (min hi.toInt v.toInt) := by
  unfold clF
  by_cases h : v < hi
  · rw [if_pos h]; rw [zlt] at h
    by_cases h2 : lo < v
    · rw [if_pos h2]; rw [zlt] at h2; omega
    · rw [if_neg h2]; rw [zlt] at h2; omega
  · rw [if_neg h]; rw [zlt] at h
    by_cases h2 : lo < hi
    · rw [if_pos h2]; rw [zlt] at h2; omega
    · rw [if_neg h2]; rw [zlt] at h2; omega
theorem c_X11_clamp {v lo hi : Int32} (hq : Q (some (.int (clF v lo hi))) Z I) : zM l G mX11_clamp 1 0 0 [.int v, .int lo, .int hi] Z I Q := by
  refine x_entry [some (.int v), some (.int lo), some (.int hi)] 0 rfl rfl (Nat.le_of_ble_eq_true rfl) ?_
  refine x_ild1 (n := 1) dX11_clamp_0 rfl ?_
  refine x_ild2 (n := 2) dX11_clamp_1 rfl ?_
  refine x_ild0 (n := 3) dX11_clamp_2 rfl ?_
  refine x_mmin (n := 6) dX11_clamp_3 rfl mlX11_354 zu_min zi_J9 zv_min (by decide) (Nat.le_of_ble_eq_true rfl) ?_
  refine x_mmax (n := 9) dX11_clamp_6 rfl mlX11_267 zu_max zi_J9 zv_max (by decide) (Nat.le_of_ble_eq_true rfl) ?_
  refine r_iret dX11_clamp_9 rfl ?_
  exact hq
theorem c_X11_exchange {a N k : Nat} {v : Int32} (ha : za Z a 13 N) (hN : N < 2147483648) (hk : k < N) (hq : Q (some (.int (I a k))) Z (va_up I a (upd (I a) k v))) : zM l G mX11_exchange 0 0 0 [.ref a, .int (nI k), .int v] Z I Q := by
  refine x_entry [some (.ref a), some (.int (nI k)), some (.int v), none] 1 rfl rfl (Nat.le_of_ble_eq_true rfl) ?_
  refine x_ild1 (n := 1) dX11_exchange_0 rfl ?_
  refine x_if_lt (n := 4) (tgt := 10) dX11_exchange_1 rfl (by decide) (fun c_1 => ?_) (fun c_1 => ?_)
  · exact absurd c_1 (by rw [zlt, nI_toInt (by omega), Int32.toInt_zero]; omega)
  · refine x_ild1 (n := 5) dX11_exchange_4 rfl ?_
    refine x_ald0 (n := 6) dX11_exchange_5 rfl ?_
    refine x_alenN (n := 7) dX11_exchange_6 rfl ha ⟨by decide, by decide⟩ ?_
    refine x_icmpN_lt (n := 10) (tgt := 13) dX11_exchange_7 rfl (by decide) (by omega) (by omega) (fun c_7 => ?_) (fun c_7 => ?_)
    · refine x_ald0 (n := 14) dX11_exchange_13 rfl ?_
      refine x_ild1 (n := 15) dX11_exchange_14 rfl ?_
      refine x_ialdN (n := 16) dX11_exchange_15 rfl ha hN (by omega) ?_
      refine x_ist3 (n := 17) dX11_exchange_16 rfl (by decide) rfl ?_
      refine x_ald0 (n := 18) dX11_exchange_17 rfl ?_
      refine x_ild1 (n := 19) dX11_exchange_18 rfl ?_
      refine x_ild2 (n := 20) dX11_exchange_19 rfl ?_
      refine x_iastN (n := 21) dX11_exchange_20 rfl ha hN (by omega) ?_
      refine x_ild3 (n := 22) dX11_exchange_21 rfl ?_
      refine r_iret dX11_exchange_22 rfl ?_
      exact hq
    · exact absurd hk (by omega)
end
