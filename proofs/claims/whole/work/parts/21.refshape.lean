/-! ===== the reference: its places (the class takes 0 to 257) ===== -/
abbrev qR : Nat := 258
abbrev q_s : Nat := 259
abbrev q_image : Nat := 260
abbrev q_aside : Nat := 261
abbrev q_tSort : Nat := 262
abbrev q_tSize : Nat := 263
abbrev q_tNumber : Nat := 264
abbrev q_cutRate : Nat := 265
abbrev q_stands : Nat := 266
abbrev q_mostOf : Nat := 267
abbrev q_onward : Nat := 268
abbrev q_levels : Nat := 269
abbrev q_coins : Nat := 270
abbrev q_before : Nat := 271
abbrev q_tape : Nat := 272
abbrev q_named : Nat := 273
abbrev q_pile : Nat := 274
abbrev q_isGiven : Nat := 275
abbrev q_givens : Nat := 276
abbrev q_canEnd : Nat := 277
abbrev q_through : Nat := 278
abbrev q_carried : Nat := 279
abbrev q_waits : Nat := 280
abbrev q_row : Nat := 281
def rList : List (Nat × Nat × Nat × Nat) := [(0, 259, 13, 5530), (1, 260, 13, 5530), (2, 261, 13, 5530), (4, 262, 13, 4), (5, 263, 13, 4), (6, 264, 13, 96), (7, 265, 13, 4), (8, 266, 13, 4), (9, 267, 13, 6), (10, 268, 13, 2400), (11, 269, 13, 24), (12, 270, 13, 4801), (13, 271, 13, 4801), (14, 272, 13, 96), (26, 273, 13, 128), (27, 274, 13, 100), (28, 275, 14, 2000), (29, 276, 13, 20), (30, 277, 14, 256), (31, 278, 13, 24), (32, 279, 13, 24), (33, 280, 13, 60), (35, 281, 13, 60)]
/-- the shape of the reference -/
def ShR (Z : zS) : Prop := zk Z qR 12 ∧ ∀ q ∈ rList, Z.2.2.2 qR q.1 = some q.2.1 ∧ za Z q.2.1 q.2.2.1 q.2.2.2
theorem rK {Z : zS} (h : ShR Z) : zk Z qR 12 := h.1
theorem rP_s {Z : zS} (h : ShR Z) : Z.2.2.2 qR 0 = some q_s := (h.2 (0, 259, 13, 5530) (by decide)).1
theorem rA_s {Z : zS} (h : ShR Z) : za Z q_s 13 5530 := (h.2 (0, 259, 13, 5530) (by decide)).2
theorem rP_image {Z : zS} (h : ShR Z) : Z.2.2.2 qR 1 = some q_image := (h.2 (1, 260, 13, 5530) (by decide)).1
theorem rA_image {Z : zS} (h : ShR Z) : za Z q_image 13 5530 := (h.2 (1, 260, 13, 5530) (by decide)).2
theorem rP_aside {Z : zS} (h : ShR Z) : Z.2.2.2 qR 2 = some q_aside := (h.2 (2, 261, 13, 5530) (by decide)).1
theorem rA_aside {Z : zS} (h : ShR Z) : za Z q_aside 13 5530 := (h.2 (2, 261, 13, 5530) (by decide)).2
theorem rP_tSort {Z : zS} (h : ShR Z) : Z.2.2.2 qR 4 = some q_tSort := (h.2 (4, 262, 13, 4) (by decide)).1
theorem rA_tSort {Z : zS} (h : ShR Z) : za Z q_tSort 13 4 := (h.2 (4, 262, 13, 4) (by decide)).2
theorem rP_tSize {Z : zS} (h : ShR Z) : Z.2.2.2 qR 5 = some q_tSize := (h.2 (5, 263, 13, 4) (by decide)).1
theorem rA_tSize {Z : zS} (h : ShR Z) : za Z q_tSize 13 4 := (h.2 (5, 263, 13, 4) (by decide)).2
theorem rP_tNumber {Z : zS} (h : ShR Z) : Z.2.2.2 qR 6 = some q_tNumber := (h.2 (6, 264, 13, 96) (by decide)).1
theorem rA_tNumber {Z : zS} (h : ShR Z) : za Z q_tNumber 13 96 := (h.2 (6, 264, 13, 96) (by decide)).2
theorem rP_cutRate {Z : zS} (h : ShR Z) : Z.2.2.2 qR 7 = some q_cutRate := (h.2 (7, 265, 13, 4) (by decide)).1
theorem rA_cutRate {Z : zS} (h : ShR Z) : za Z q_cutRate 13 4 := (h.2 (7, 265, 13, 4) (by decide)).2
theorem rP_stands {Z : zS} (h : ShR Z) : Z.2.2.2 qR 8 = some q_stands := (h.2 (8, 266, 13, 4) (by decide)).1
theorem rA_stands {Z : zS} (h : ShR Z) : za Z q_stands 13 4 := (h.2 (8, 266, 13, 4) (by decide)).2
theorem rP_mostOf {Z : zS} (h : ShR Z) : Z.2.2.2 qR 9 = some q_mostOf := (h.2 (9, 267, 13, 6) (by decide)).1
theorem rA_mostOf {Z : zS} (h : ShR Z) : za Z q_mostOf 13 6 := (h.2 (9, 267, 13, 6) (by decide)).2
theorem rP_onward {Z : zS} (h : ShR Z) : Z.2.2.2 qR 10 = some q_onward := (h.2 (10, 268, 13, 2400) (by decide)).1
theorem rA_onward {Z : zS} (h : ShR Z) : za Z q_onward 13 2400 := (h.2 (10, 268, 13, 2400) (by decide)).2
theorem rP_levels {Z : zS} (h : ShR Z) : Z.2.2.2 qR 11 = some q_levels := (h.2 (11, 269, 13, 24) (by decide)).1
theorem rA_levels {Z : zS} (h : ShR Z) : za Z q_levels 13 24 := (h.2 (11, 269, 13, 24) (by decide)).2
theorem rP_coins {Z : zS} (h : ShR Z) : Z.2.2.2 qR 12 = some q_coins := (h.2 (12, 270, 13, 4801) (by decide)).1
theorem rA_coins {Z : zS} (h : ShR Z) : za Z q_coins 13 4801 := (h.2 (12, 270, 13, 4801) (by decide)).2
theorem rP_before {Z : zS} (h : ShR Z) : Z.2.2.2 qR 13 = some q_before := (h.2 (13, 271, 13, 4801) (by decide)).1
theorem rA_before {Z : zS} (h : ShR Z) : za Z q_before 13 4801 := (h.2 (13, 271, 13, 4801) (by decide)).2
theorem rP_tape {Z : zS} (h : ShR Z) : Z.2.2.2 qR 14 = some q_tape := (h.2 (14, 272, 13, 96) (by decide)).1
theorem rA_tape {Z : zS} (h : ShR Z) : za Z q_tape 13 96 := (h.2 (14, 272, 13, 96) (by decide)).2
theorem rP_named {Z : zS} (h : ShR Z) : Z.2.2.2 qR 26 = some q_named := (h.2 (26, 273, 13, 128) (by decide)).1
theorem rA_named {Z : zS} (h : ShR Z) : za Z q_named 13 128 := (h.2 (26, 273, 13, 128) (by decide)).2
theorem rP_pile {Z : zS} (h : ShR Z) : Z.2.2.2 qR 27 = some q_pile := (h.2 (27, 274, 13, 100) (by decide)).1
theorem rA_pile {Z : zS} (h : ShR Z) : za Z q_pile 13 100 := (h.2 (27, 274, 13, 100) (by decide)).2
theorem rP_isGiven {Z : zS} (h : ShR Z) : Z.2.2.2 qR 28 = some q_isGiven := (h.2 (28, 275, 14, 2000) (by decide)).1
theorem rA_isGiven {Z : zS} (h : ShR Z) : za Z q_isGiven 14 2000 := (h.2 (28, 275, 14, 2000) (by decide)).2
theorem rP_givens {Z : zS} (h : ShR Z) : Z.2.2.2 qR 29 = some q_givens := (h.2 (29, 276, 13, 20) (by decide)).1
theorem rA_givens {Z : zS} (h : ShR Z) : za Z q_givens 13 20 := (h.2 (29, 276, 13, 20) (by decide)).2
theorem rP_canEnd {Z : zS} (h : ShR Z) : Z.2.2.2 qR 30 = some q_canEnd := (h.2 (30, 277, 14, 256) (by decide)).1
theorem rA_canEnd {Z : zS} (h : ShR Z) : za Z q_canEnd 14 256 := (h.2 (30, 277, 14, 256) (by decide)).2
theorem rP_through {Z : zS} (h : ShR Z) : Z.2.2.2 qR 31 = some q_through := (h.2 (31, 278, 13, 24) (by decide)).1
theorem rA_through {Z : zS} (h : ShR Z) : za Z q_through 13 24 := (h.2 (31, 278, 13, 24) (by decide)).2
theorem rP_carried {Z : zS} (h : ShR Z) : Z.2.2.2 qR 32 = some q_carried := (h.2 (32, 279, 13, 24) (by decide)).1
theorem rA_carried {Z : zS} (h : ShR Z) : za Z q_carried 13 24 := (h.2 (32, 279, 13, 24) (by decide)).2
theorem rP_waits {Z : zS} (h : ShR Z) : Z.2.2.2 qR 33 = some q_waits := (h.2 (33, 280, 13, 60) (by decide)).1
theorem rA_waits {Z : zS} (h : ShR Z) : za Z q_waits 13 60 := (h.2 (33, 280, 13, 60) (by decide)).2
theorem rP_row {Z : zS} (h : ShR Z) : Z.2.2.2 qR 35 = some q_row := (h.2 (35, 281, 13, 60) (by decide)).1
theorem rA_row {Z : zS} (h : ShR Z) : za Z q_row 13 60 := (h.2 (35, 281, 13, 60) (by decide)).2
/-- x between lo and hi -/
def zin (x : Int32) (lo hi : Int) : Bool := decide (lo ≤ x.toInt ∧ x.toInt ≤ hi)
theorem zin_t {x : Int32} {lo hi : Int} (h : zin x lo hi = true) : lo ≤ x.toInt ∧ x.toInt ≤ hi := of_decide_eq_true h
theorem zin_f {x : Int32} {lo hi : Int} (h : zin x lo hi = false) : ¬ (lo ≤ x.toInt ∧ x.toInt ≤ hi) := of_decide_eq_false h
theorem zI64 (x : Int32) : x.toInt64.toInt = x.toInt := by simp
theorem zle (x y : Int32) : x ≤ y ↔ x.toInt ≤ y.toInt := Int32.le_iff_toInt_le
theorem zlt (x y : Int32) : x < y ↔ x.toInt < y.toInt := Int32.lt_iff_toInt_lt
theorem zeq (x y : Int32) : x = y ↔ x.toInt = y.toInt := Int32.toInt_inj.symm
theorem zle64 (x y : Int64) : x ≤ y ↔ x.toInt ≤ y.toInt := Int64.le_iff_toInt_le
theorem zlt64 (x y : Int64) : x < y ↔ x.toInt < y.toInt := Int64.lt_iff_toInt_lt
theorem fb_rng0 (x : Int32) : -2147483648 ≤ x.toInt ∧ x.toInt < 2147483648 := ⟨by have := Int32.minValue_le_toInt x; simpa using this, by have := Int32.toInt_lt x; simpa using this⟩
theorem z_of {x : Int32} {n : Nat} (h0 : 0 ≤ x.toInt) (h : x.toInt < n) : ∃ k, k < n ∧ x = nI k := by
  refine ⟨x.toInt.toNat, by omega, ?_⟩
  have h1 := fb_rng0 x
  apply Int32.toInt_inj.mp
  rw [nI_toInt (by omega)]
  omega
theorem zb_if (b : Bool) : (zb b = 0) ↔ b = false := by cases b <;> decide
theorem zb_t : zb true = nI 1 := rfl
theorem zb_f : zb false = nI 0 := rfl

