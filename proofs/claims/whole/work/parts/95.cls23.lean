/-! ===== the bits of a number counted ===== -/
theorem and_split {q r m n : Nat} (hr : r < 256) (hn : n < 256) : (256 * q + r) &&& (256 * m + n) = 256 * (q &&& m) + (r &&& n) := by
  apply Nat.eq_of_testBit_eq
  intro i
  have h1 := Nat.testBit_two_pow_mul_add q (i := 8) (b := r) hr i
  have h2 := Nat.testBit_two_pow_mul_add m (i := 8) (b := n) hn i
  have h3 := Nat.testBit_two_pow_mul_add (q &&& m) (i := 8) (b := r &&& n) (Nat.and_lt_two_pow r hn) i
  rw [Nat.testBit_and, show 256 * q + r = 2 ^ 8 * q + r from rfl, show 256 * m + n = 2 ^ 8 * m + n from rfl, show 256 * (q &&& m) + (r &&& n) = 2 ^ 8 * (q &&& m) + (r &&& n) from rfl, h1, h2, h3]
  split <;> rw [Nat.testBit_and]
def bcA (s m : Nat) : Nat := s - ((s / 2) &&& m)
def bcB (s m : Nat) : Nat := (s &&& m) + ((s / 4) &&& m)
def bcC (s m : Nat) : Nat := (s + s / 16) &&& m
def bcP (b : Nat) : Nat := bcC (bcB (bcA b 0x55) 0x33) 0x0f
theorem bc_byte : ∀ b, b < 256 → bcA b 0x55 < 256 ∧ bcB (bcA b 0x55) 0x33 < 256 ∧ bcB (bcA b 0x55) 0x33 % 16 ≤ 4 ∧ bcB (bcA b 0x55) 0x33 / 16 ≤ 4 ∧ bcP b = zct (fun k => b.testBit k) 8 := by decide +kernel
theorem bc_m55 : ∀ x, x < 128 → ∀ y, y < 2 → (128 * y + x) &&& 0x55 = x &&& 0x55 := by decide +kernel
theorem bc_m33 : ∀ x, x < 64 → ∀ y, y < 4 → (64 * y + x) &&& 0x33 = x &&& 0x33 := by decide +kernel
theorem bc_m0f : ∀ x, x < 256 → x &&& 0x0f = x % 16 := by decide +kernel
theorem bcA_split {q r m : Nat} (hr : r < 256) : bcA (256 * q + r) (256 * m + 0x55) = 256 * bcA q m + bcA r 0x55 := by
  unfold bcA
  have e : (256 * q + r) / 2 = 256 * (q / 2) + (128 * (q % 2) + r / 2) := by omega
  rw [e, and_split (by omega) (by omega), bc_m55 (r / 2) (by omega) (q % 2) (by omega)]
  have h1 : q / 2 &&& m ≤ q / 2 := Nat.and_le_left
  have h2 : r / 2 &&& 0x55 ≤ r / 2 := Nat.and_le_left
  omega
theorem bcB_split {q r m : Nat} (hr : r < 256) : bcB (256 * q + r) (256 * m + 0x33) = 256 * bcB q m + bcB r 0x33 := by
  unfold bcB
  have e : (256 * q + r) / 4 = 256 * (q / 4) + (64 * (q % 4) + r / 4) := by omega
  rw [e, and_split (by omega) (by omega), and_split (by omega) (by omega), bc_m33 (r / 4) (by omega) (q % 4) (by omega)]
  omega
theorem bcC_split {q r m : Nat} (hr : r < 256) (h1 : r % 16 ≤ 4) (h2 : r / 16 ≤ 4) (h3 : q % 16 ≤ 4) : bcC (256 * q + r) (256 * m + 0x0f) = 256 * bcC q m + bcC r 0x0f := by
  unfold bcC
  have e : 256 * q + r + (256 * q + r) / 16 = 256 * (q + q / 16) + (16 * (q % 16) + r + r / 16) := by omega
  rw [e, and_split (by omega) (by omega), bc_m0f _ (by omega), bc_m0f _ (by omega)]
  omega
theorem zct_add {p : Nat → Bool} (m : Nat) : ∀ n, zct p (m + n) = zct p m + zct (fun k => p (m + k)) n
  | 0 => rfl
  | n + 1 => by
    show zct p (m + n) + (if p (m + n) = true then 1 else 0) = zct p m + (zct (fun k => p (m + k)) n + (if p (m + n) = true then 1 else 0))
    rw [zct_add m n]; omega
theorem zct_byte {q r : Nat} (hr : r < 256) (n : Nat) : zct (fun k => (256 * q + r).testBit k) (8 + n) = zct (fun k => r.testBit k) 8 + zct (fun k => q.testBit k) n := by
  rw [zct_add 8 n]
  have h := fun i => Nat.testBit_two_pow_mul_add q (i := 8) (b := r) hr i
  congr 1
  · refine zct_cong (fun k hk => ?_)
    show (2 ^ 8 * q + r).testBit k = _
    rw [h k, if_pos hk]
  · refine zct_cong (fun k hk => ?_)
    show (2 ^ 8 * q + r).testBit (8 + k) = _
    rw [h (8 + k), if_neg (by omega), Nat.add_sub_cancel_left]
theorem bc_all {s : Nat} (hs : s < 2 ^ 24) : ∃ p0 p1 p2, p0 ≤ 8 ∧ p1 ≤ 8 ∧ p2 ≤ 8 ∧ bcA s 0x55555555 ≤ s ∧ bcC (bcB (bcA s 0x55555555) 0x33333333) 0x0f0f0f0f = p0 + 256 * p1 + 65536 * p2 ∧ zct (fun k => s.testBit k) 24 = p0 + p1 + p2 := by
  have e : s = 256 * (256 * (s / 65536) + s / 256 % 256) + s % 256 := by omega
  have b0 : s % 256 < 256 := by omega
  have b1 : s / 256 % 256 < 256 := by omega
  have b2 : s / 65536 < 256 := by omega
  generalize s % 256 = x at e b0
  generalize s / 256 % 256 = y at e b1
  generalize s / 65536 = z at e b2
  obtain ⟨x1, x2, x3, x4, x5⟩ := bc_byte x b0
  obtain ⟨y1, y2, y3, y4, y5⟩ := bc_byte y b1
  obtain ⟨z1, z2, z3, z4, z5⟩ := bc_byte z b2
  have hA0 : ∀ u, u < 256 → bcA u 0x5555 = bcA u 0x55 := by
    intro u hu
    have := bcA_split (q := 0) (r := u) (m := 0x55) hu
    rw [Nat.mul_zero, Nat.zero_add] at this
    rw [show (0x5555 : Nat) = 256 * 0x55 + 0x55 from rfl, this]
    show 256 * bcA 0 0x55 + _ = _
    rw [show bcA 0 0x55 = 0 by decide]; omega
  have hA : bcA s 0x55555555 = 256 * (256 * bcA z 0x55 + bcA y 0x55) + bcA x 0x55 := by
    rw [e, show (0x55555555 : Nat) = 256 * 0x555555 + 0x55 from rfl, bcA_split b0, show (0x555555 : Nat) = 256 * 0x5555 + 0x55 from rfl, bcA_split b1, hA0 z b2]
  have hB0 : ∀ u, u < 256 → bcB u 0x3333 = bcB u 0x33 := by
    intro u hu
    have := bcB_split (q := 0) (r := u) (m := 0x33) hu
    rw [Nat.mul_zero, Nat.zero_add] at this
    rw [show (0x3333 : Nat) = 256 * 0x33 + 0x33 from rfl, this, show bcB 0 0x33 = 0 by decide]; omega
  have hBB : bcB (bcA s 0x55555555) 0x33333333 = 256 * (256 * bcB (bcA z 0x55) 0x33 + bcB (bcA y 0x55) 0x33) + bcB (bcA x 0x55) 0x33 := by
    rw [hA, show (0x33333333 : Nat) = 256 * 0x333333 + 0x33 from rfl, bcB_split x1, show (0x333333 : Nat) = 256 * 0x3333 + 0x33 from rfl, bcB_split y1, hB0 _ z1]
  have hC0 : ∀ u, u < 256 → u % 16 ≤ 4 → u / 16 ≤ 4 → bcC u 0x0f0f = bcC u 0x0f := by
    intro u hu h1 h2
    have := bcC_split (q := 0) (r := u) (m := 0x0f) hu h1 h2 (by omega)
    rw [Nat.mul_zero, Nat.zero_add] at this
    rw [show (0x0f0f : Nat) = 256 * 0x0f + 0x0f from rfl, this, show bcC 0 0x0f = 0 by decide]; omega
  have hCC : bcC (bcB (bcA s 0x55555555) 0x33333333) 0x0f0f0f0f = 256 * (256 * bcP z + bcP y) + bcP x := by
    rw [hBB, show (0x0f0f0f0f : Nat) = 256 * 0x0f0f0f + 0x0f from rfl, bcC_split x2 x3 x4 (by omega), show (0x0f0f0f : Nat) = 256 * 0x0f0f + 0x0f from rfl, bcC_split y2 y3 y4 z3, hC0 _ z2 z3 z4]
    rfl
  have l0 := zct_le (fun k => x.testBit k) 8
  have l1 := zct_le (fun k => y.testBit k) 8
  have l2 := zct_le (fun k => z.testBit k) 8
  refine ⟨bcP x, bcP y, bcP z, by omega, by omega, by omega, Nat.sub_le _ _, by rw [hCC]; omega, ?_⟩
  rw [e, show 24 = 8 + (8 + 8) from rfl, zct_byte b0, zct_byte b1]
  omega
section
variable {l : Launch} {G : zG} {Z Z' : zS} {I I' : zI} {g g' : Nat → Int32} {mk mk2 m b : Nat} {Q : Option Value → zS → zI → Prop}
theorem zushr {n k : Nat} (hn : n < 2 ^ 32) (hk : k < 32) : ((nI n).toUInt32 >>> ((nI k).toUInt32 &&& Int32.toUInt32 31)).toInt32 = nI (n / 2 ^ k) := by
  refine pk_ushrN hn (nI k) k ?_
  have : ∀ k, k < 32 → (((nI k).toUInt32 &&& Int32.toUInt32 31).toBitVec % 32).toNat = k := by decide +kernel
  exact this k hk
theorem c_J6_bitCount_0f7a4 {s : Nat} (hs : s < 2 ^ 24) (hq : Q (some (.int (nI (zct (fun k => s.testBit k) 24)))) Z I) : zM l G mJ6_bitCount_0f7a4 0 0 0 [.int (nI s)] Z I Q := by
  refine x_entry [some (.int (nI s))] 0 rfl rfl (Nat.le_of_ble_eq_true rfl) ?_
  obtain ⟨p0, p1, p2, h0, h1, h2, hA, hC, hz⟩ := bc_all hs
  rw [hz] at hq
  have hB1 : bcA s 0x55555555 &&& 0x33333333 ≤ bcA s 0x55555555 := Nat.and_le_left
  have hB2 : bcA s 0x55555555 / 4 &&& 0x33333333 ≤ bcA s 0x55555555 / 4 := Nat.and_le_left
  have hBl : bcB (bcA s 0x55555555) 0x33333333 < 2 ^ 25 := by unfold bcB; omega
  refine x_ild0 (n := 1) dJ6_bitCount_0f7a4_0 rfl ?_
  refine x_ild0 (n := 2) dJ6_bitCount_0f7a4_1 rfl ?_
  refine x_ic1 (n := 3) dJ6_bitCount_0f7a4_2 rfl ?_
  refine x_iushr (n := 4) dJ6_bitCount_0f7a4_3 rfl ?_
  rw [zushr (by omega) (by omega)]
  refine x_ldcw (n := 7) dJ6_bitCount_0f7a4_4 rfl kiJ6_265 ?_
  refine x_iand (n := 8) dJ6_bitCount_0f7a4_7 rfl ?_
  rw [zand]
  refine x_isubN (n := 9) dJ6_bitCount_0f7a4_8 rfl (Nat.le_trans Nat.and_le_left (Nat.div_le_self _ _)) ?_
  refine x_top (y := nI (bcA s 0x55555555)) rfl ?_
  refine x_ist0 (n := 10) dJ6_bitCount_0f7a4_9 rfl (by decide) ?_
  refine x_ild0 (n := 11) dJ6_bitCount_0f7a4_10 rfl ?_
  refine x_ldcw (n := 14) dJ6_bitCount_0f7a4_11 rfl kiJ6_266 ?_
  refine x_iand (n := 15) dJ6_bitCount_0f7a4_14 rfl ?_
  rw [zand]
  refine x_ild0 (n := 16) dJ6_bitCount_0f7a4_15 rfl ?_
  refine x_ic2 (n := 17) dJ6_bitCount_0f7a4_16 rfl ?_
  refine x_iushr (n := 18) dJ6_bitCount_0f7a4_17 rfl ?_
  rw [zushr (by omega) (by omega)]
  refine x_ldcw (n := 21) dJ6_bitCount_0f7a4_18 rfl kiJ6_266 ?_
  refine x_iand (n := 22) dJ6_bitCount_0f7a4_21 rfl ?_
  rw [zand]
  refine x_iaddN (n := 23) dJ6_bitCount_0f7a4_22 rfl ?_
  refine x_top (y := nI (bcB (bcA s 0x55555555) 0x33333333)) rfl ?_
  refine x_ist0 (n := 24) dJ6_bitCount_0f7a4_23 rfl (by decide) ?_
  refine x_ild0 (n := 25) dJ6_bitCount_0f7a4_24 rfl ?_
  refine x_ild0 (n := 26) dJ6_bitCount_0f7a4_25 rfl ?_
  refine x_ic4 (n := 27) dJ6_bitCount_0f7a4_26 rfl ?_
  refine x_iushr (n := 28) dJ6_bitCount_0f7a4_27 rfl ?_
  rw [zushr (by omega) (by omega)]
  refine x_iaddN (n := 29) dJ6_bitCount_0f7a4_28 rfl ?_
  refine x_ldcw (n := 32) dJ6_bitCount_0f7a4_29 rfl kiJ6_267 ?_
  refine x_iand (n := 33) dJ6_bitCount_0f7a4_32 rfl ?_
  rw [zand]
  refine x_top (y := nI (p0 + 256 * p1 + 65536 * p2)) (by rw [← hC]; rfl) ?_
  refine x_ist0 (n := 34) dJ6_bitCount_0f7a4_33 rfl (by decide) ?_
  refine x_ild0 (n := 35) dJ6_bitCount_0f7a4_34 rfl ?_
  refine x_ild0 (n := 36) dJ6_bitCount_0f7a4_35 rfl ?_
  refine x_bipush (n := 38) (v := nI 8) dJ6_bitCount_0f7a4_36 rfl (by decide) ?_
  refine x_iushr (n := 39) dJ6_bitCount_0f7a4_38 rfl ?_
  rw [zushr (by omega) (by omega)]
  refine x_iaddN (n := 40) dJ6_bitCount_0f7a4_39 rfl ?_
  refine x_top (y := nI (p0 + p1 + 256 * (p1 + p2) + 65536 * p2)) (by congr 1; omega) ?_
  refine x_ist0 (n := 41) dJ6_bitCount_0f7a4_40 rfl (by decide) ?_
  refine x_ild0 (n := 42) dJ6_bitCount_0f7a4_41 rfl ?_
  refine x_ild0 (n := 43) dJ6_bitCount_0f7a4_42 rfl ?_
  refine x_bipush (n := 45) (v := nI 16) dJ6_bitCount_0f7a4_43 rfl (by decide) ?_
  refine x_iushr (n := 46) dJ6_bitCount_0f7a4_45 rfl ?_
  rw [zushr (by omega) (by omega)]
  refine x_iaddN (n := 47) dJ6_bitCount_0f7a4_46 rfl ?_
  refine x_top (y := nI (p0 + p1 + p2 + 256 * (p1 + p2) + 65536 * p2)) (by congr 1; omega) ?_
  refine x_ist0 (n := 48) dJ6_bitCount_0f7a4_47 rfl (by decide) ?_
  refine x_ild0 (n := 49) dJ6_bitCount_0f7a4_48 rfl ?_
  refine x_bipush (n := 51) (v := nI 63) dJ6_bitCount_0f7a4_49 rfl (by decide) ?_
  refine x_iand (n := 52) dJ6_bitCount_0f7a4_51 rfl ?_
  refine r_iret dJ6_bitCount_0f7a4_52 rfl ?_
  rw [pk_andN (by omega) 6 (by decide), show (p0 + p1 + p2 + 256 * (p1 + p2) + 65536 * p2) % 2 ^ 6 = p0 + p1 + p2 by omega]; exact hq
end
