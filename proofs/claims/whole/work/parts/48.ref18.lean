def nrU (f : Nat → Int32) (b : Nat) : Nat → Nat → Option Nat
  | 0, _ => none
  | n + 1, k => if f (b + k) = -1000000005 then nrU f b n (k + 1) else some k
def nrD (f : Nat → Int32) (b : Nat) : Nat → Option Nat
  | 0 => none
  | k + 1 => if f (b + k) = -1000000005 then nrD f b k else some k
theorem nrU_in {f : Nat → Int32} {b : Nat} : ∀ {n k j : Nat}, nrU f b n k = some j → k ≤ j ∧ j < k + n
  | 0, k, j, h => by cases h
  | n + 1, k, j, h => by
    unfold nrU at h
    split at h
    · have := nrU_in h; omega
    · cases h; omega
theorem nrD_in {f : Nat → Int32} {b : Nat} : ∀ {k j : Nat}, nrD f b k = some j → j < k
  | 0, j, h => by cases h
  | k + 1, j, h => by
    unfold nrD at h
    split at h
    · have := nrD_in h; omega
    · cases h; omega
def readF (f : Nat → Int32) (b sz p : Nat) : Int32 := match nrD f b (p + 1), nrU f b (sz - p) p with
  | none, none => -1000000012
  | none, some j => f (b + j)
  | some i, none => f (b + i)
  | some i, some j => if i = j then f (b + i) else (f (b + i) * nI (j - p) + f (b + j) * nI (p - i)) / nI (j - i)
def f_read (t : svS) (x p : Int32) : Int32 := if lackF t x p = 0 then readF t.2.2 (24 * ix x) (t.2.1 (ix x)).toInt.toNat (ix p) else lackF t x p
section
variable {l : Launch} {G : zG} {Z : zS} {I : zI} {g : Nat → Int32} {Q : Option Value → zS → zI → Prop}
theorem l_nearU (hZ : ShR Z) {c sz : Nat} {p : Int32} (hc : c < 4) (hs : I q_tSize c = nI sz) (hs2 : sz ≤ 24) : ∀ f k, k + f = sz → Q (some (.int (oI (nrU (I q_tNumber) (24 * c) f k)))) Z (va_up I q_s g) → zX l G mX12_nearest 0 0 0 3 [some (.ref qR), some (.int (nI c)), some (.int p), some (.int (nI 1)), some (.int (nI k))] [] Z (va_up I q_s g) Q := by
  intro f
  induction f with
  | zero =>
    intro k hk hq
    refine x_ild4 (n := 5) dX12_nearest_3 rfl ?_
    refine x_if_lt (n := 8) (tgt := 45) dX12_nearest_5 rfl (by decide) (fun c_5 => ?_) (fun c_5 => ?_)
    · exact absurd c_5 (nI_pos (by omega))
    · refine x_ild4 (n := 10) dX12_nearest_8 rfl ?_
      refine x_ald0 (n := 11) dX12_nearest_10 rfl ?_
      refine x_getR (n := 14) flX12_22 rfl dX12_nearest_11 rfl (rK hZ) (rP_tSize hZ) ?_
      refine x_ild1 (n := 15) dX12_nearest_14 rfl ?_
      refine x_old (n := 16) dX12_nearest_15 rfl (rA_tSize hZ) (by decide) (Nat.le_of_ble_eq_true rfl) (by omega) ?_
      rw [hs]
      refine x_icmpN_ge (n := 19) (tgt := 45) dX12_nearest_16 rfl (by decide) (by omega) (by omega) (fun c_16 => ?_) (fun c_16 => ?_)
      · refine x_ild4 (n := 47) dX12_nearest_45 rfl ?_
        refine x_if_lt (n := 50) (tgt := 66) dX12_nearest_47 rfl (by decide) (fun c_47 => ?_) (fun c_47 => ?_)
        · exact absurd c_47 (nI_pos (by omega))
        · refine x_ild4 (n := 52) dX12_nearest_50 rfl ?_
          refine x_ald0 (n := 53) dX12_nearest_52 rfl ?_
          refine x_getR (n := 56) flX12_22 rfl dX12_nearest_53 rfl (rK hZ) (rP_tSize hZ) ?_
          refine x_ild1 (n := 57) dX12_nearest_56 rfl ?_
          refine x_old (n := 58) dX12_nearest_57 rfl (rA_tSize hZ) (by decide) (Nat.le_of_ble_eq_true rfl) (by omega) ?_
          rw [hs]
          refine x_icmpN_ge (n := 61) (tgt := 66) dX12_nearest_58 rfl (by decide) (by omega) (by omega) (fun c_58 => ?_) (fun c_58 => ?_)
          · refine x_icm1 (n := 67) dX12_nearest_66 rfl ?_
            refine r_iret dX12_nearest_67 rfl ?_
            exact hq
          · exact absurd c_58 (by omega)
      · exact absurd c_16 (by omega)
  | succ f ih =>
    intro k hk hq
    unfold nrU at hq
    refine x_ild4 (n := 5) dX12_nearest_3 rfl ?_
    refine x_if_lt (n := 8) (tgt := 45) dX12_nearest_5 rfl (by decide) (fun c_5 => ?_) (fun c_5 => ?_)
    · exact absurd c_5 (nI_pos (by omega))
    · refine x_ild4 (n := 10) dX12_nearest_8 rfl ?_
      refine x_ald0 (n := 11) dX12_nearest_10 rfl ?_
      refine x_getR (n := 14) flX12_22 rfl dX12_nearest_11 rfl (rK hZ) (rP_tSize hZ) ?_
      refine x_ild1 (n := 15) dX12_nearest_14 rfl ?_
      refine x_old (n := 16) dX12_nearest_15 rfl (rA_tSize hZ) (by decide) (Nat.le_of_ble_eq_true rfl) (by omega) ?_
      rw [hs]
      refine x_icmpN_ge (n := 19) (tgt := 45) dX12_nearest_16 rfl (by decide) (by omega) (by omega) (fun c_16 => ?_) (fun c_16 => ?_)
      · exact absurd c_16 (by omega)
      · refine x_ald0 (n := 20) dX12_nearest_19 rfl ?_
        refine x_getR (n := 23) flX12_25 rfl dX12_nearest_20 rfl (rK hZ) (rP_tNumber hZ) ?_
        refine x_bipush (n := 25) (v := nI 24) dX12_nearest_23 rfl (by decide) ?_
        refine x_ild1 (n := 26) dX12_nearest_25 rfl ?_
        refine x_imulN (n := 27) dX12_nearest_26 rfl ?_
        refine x_ild4 (n := 29) dX12_nearest_27 rfl ?_
        refine x_iaddN (n := 30) dX12_nearest_29 rfl ?_
        refine x_old (n := 31) dX12_nearest_30 rfl (rA_tNumber hZ) (by decide) (Nat.le_of_ble_eq_true rfl) (by omega) ?_
        refine x_ldc (n := 33) dX12_nearest_31 rfl kiX12_88 ?_
        refine x_icmp_ne (n := 36) (tgt := 45) dX12_nearest_33 rfl (by decide) (fun c_33 => ?_) (fun c_33 => ?_)
        · refine x_ild4 (n := 47) dX12_nearest_45 rfl ?_
          refine x_if_lt (n := 50) (tgt := 66) dX12_nearest_47 rfl (by decide) (fun c_47 => ?_) (fun c_47 => ?_)
          · exact absurd c_47 (nI_pos (by omega))
          · refine x_ild4 (n := 52) dX12_nearest_50 rfl ?_
            refine x_ald0 (n := 53) dX12_nearest_52 rfl ?_
            refine x_getR (n := 56) flX12_22 rfl dX12_nearest_53 rfl (rK hZ) (rP_tSize hZ) ?_
            refine x_ild1 (n := 57) dX12_nearest_56 rfl ?_
            refine x_old (n := 58) dX12_nearest_57 rfl (rA_tSize hZ) (by decide) (Nat.le_of_ble_eq_true rfl) (by omega) ?_
            rw [hs]
            refine x_icmpN_ge (n := 61) (tgt := 66) dX12_nearest_58 rfl (by decide) (by omega) (by omega) (fun c_58 => ?_) (fun c_58 => ?_)
            · exact absurd c_58 (by omega)
            · refine x_ild4 (n := 63) dX12_nearest_61 rfl ?_
              refine x_goto (n := 67) dX12_nearest_63 (by decide) ?_
              refine r_iret dX12_nearest_67 rfl ?_
              rw [if_neg c_33] at hq; exact hq
        · refine x_ild4 (n := 38) dX12_nearest_36 rfl ?_
          refine x_ild3 (n := 39) dX12_nearest_38 rfl ?_
          refine x_iaddN (n := 40) dX12_nearest_39 rfl ?_
          refine x_ist4 (n := 42) dX12_nearest_40 rfl (by decide) rfl ?_
          refine x_goto (n := 3) dX12_nearest_42 (by decide) ?_
          rw [if_pos c_33] at hq
          exact ih (k + 1) (by omega) hq
theorem l_nearD (hZ : ShR Z) {c sz : Nat} {p : Int32} (hc : c < 4) (hs : I q_tSize c = nI sz) (hs2 : sz ≤ 24) : ∀ K, K ≤ sz → Q (some (.int (oI (nrD (I q_tNumber) (24 * c) K)))) Z (va_up I q_s g) → zX l G mX12_nearest 0 0 0 3 [some (.ref qR), some (.int (nI c)), some (.int p), some (.int (-1)), some (.int (nI K + (-1)))] [] Z (va_up I q_s g) Q := by
  intro K
  induction K with
  | zero =>
    intro hk hq
    rw [show nI 0 + (-1) = (-1 : Int32) by decide]
    refine x_ild4 (n := 5) dX12_nearest_3 rfl ?_
    refine x_if_lt (n := 8) (tgt := 45) dX12_nearest_5 rfl (by decide) (fun c_5 => ?_) (fun c_5 => ?_)
    · refine x_ild4 (n := 47) dX12_nearest_45 rfl ?_
      refine x_if_lt (n := 50) (tgt := 66) dX12_nearest_47 rfl (by decide) (fun c_47 => ?_) (fun c_47 => ?_)
      · refine x_icm1 (n := 67) dX12_nearest_66 rfl ?_
        refine r_iret dX12_nearest_67 rfl ?_
        exact hq
      · exact absurd (by decide) c_47
    · exact absurd (by decide) c_5
  | succ k ih =>
    intro hk hq
    unfold nrD at hq
    rw [pk_m1]
    refine x_ild4 (n := 5) dX12_nearest_3 rfl ?_
    refine x_if_lt (n := 8) (tgt := 45) dX12_nearest_5 rfl (by decide) (fun c_5 => ?_) (fun c_5 => ?_)
    · exact absurd c_5 (nI_pos (by omega))
    · refine x_ild4 (n := 10) dX12_nearest_8 rfl ?_
      refine x_ald0 (n := 11) dX12_nearest_10 rfl ?_
      refine x_getR (n := 14) flX12_22 rfl dX12_nearest_11 rfl (rK hZ) (rP_tSize hZ) ?_
      refine x_ild1 (n := 15) dX12_nearest_14 rfl ?_
      refine x_old (n := 16) dX12_nearest_15 rfl (rA_tSize hZ) (by decide) (Nat.le_of_ble_eq_true rfl) (by omega) ?_
      rw [hs]
      refine x_icmpN_ge (n := 19) (tgt := 45) dX12_nearest_16 rfl (by decide) (by omega) (by omega) (fun c_16 => ?_) (fun c_16 => ?_)
      · exact absurd c_16 (by omega)
      · refine x_ald0 (n := 20) dX12_nearest_19 rfl ?_
        refine x_getR (n := 23) flX12_25 rfl dX12_nearest_20 rfl (rK hZ) (rP_tNumber hZ) ?_
        refine x_bipush (n := 25) (v := nI 24) dX12_nearest_23 rfl (by decide) ?_
        refine x_ild1 (n := 26) dX12_nearest_25 rfl ?_
        refine x_imulN (n := 27) dX12_nearest_26 rfl ?_
        refine x_ild4 (n := 29) dX12_nearest_27 rfl ?_
        refine x_iaddN (n := 30) dX12_nearest_29 rfl ?_
        refine x_old (n := 31) dX12_nearest_30 rfl (rA_tNumber hZ) (by decide) (Nat.le_of_ble_eq_true rfl) (by omega) ?_
        refine x_ldc (n := 33) dX12_nearest_31 rfl kiX12_88 ?_
        refine x_icmp_ne (n := 36) (tgt := 45) dX12_nearest_33 rfl (by decide) (fun c_33 => ?_) (fun c_33 => ?_)
        · refine x_ild4 (n := 47) dX12_nearest_45 rfl ?_
          refine x_if_lt (n := 50) (tgt := 66) dX12_nearest_47 rfl (by decide) (fun c_47 => ?_) (fun c_47 => ?_)
          · exact absurd c_47 (nI_pos (by omega))
          · refine x_ild4 (n := 52) dX12_nearest_50 rfl ?_
            refine x_ald0 (n := 53) dX12_nearest_52 rfl ?_
            refine x_getR (n := 56) flX12_22 rfl dX12_nearest_53 rfl (rK hZ) (rP_tSize hZ) ?_
            refine x_ild1 (n := 57) dX12_nearest_56 rfl ?_
            refine x_old (n := 58) dX12_nearest_57 rfl (rA_tSize hZ) (by decide) (Nat.le_of_ble_eq_true rfl) (by omega) ?_
            rw [hs]
            refine x_icmpN_ge (n := 61) (tgt := 66) dX12_nearest_58 rfl (by decide) (by omega) (by omega) (fun c_58 => ?_) (fun c_58 => ?_)
            · exact absurd c_58 (by omega)
            · refine x_ild4 (n := 63) dX12_nearest_61 rfl ?_
              refine x_goto (n := 67) dX12_nearest_63 (by decide) ?_
              refine r_iret dX12_nearest_67 rfl ?_
              rw [if_neg c_33] at hq; exact hq
        · refine x_ild4 (n := 38) dX12_nearest_36 rfl ?_
          refine x_ild3 (n := 39) dX12_nearest_38 rfl ?_
          refine x_iadd (n := 40) dX12_nearest_39 rfl ?_
          refine x_ist4 (n := 42) dX12_nearest_40 rfl (by decide) rfl ?_
          refine x_goto (n := 3) dX12_nearest_42 (by decide) ?_
          rw [if_pos c_33] at hq
          exact ih (by omega) hq
theorem c_nearU (hZ : ShR Z) {c sz p : Nat} (hc : c < 4) (hs : I q_tSize c = nI sz) (hs2 : sz ≤ 24) (hp : p < sz) (hq : Q (some (.int (oI (nrU (I q_tNumber) (24 * c) (sz - p) p)))) Z (va_up I q_s g)) : zM l G mX12_nearest 0 0 0 [.ref qR, .int (nI c), .int (nI p), .int (nI 1)] Z (va_up I q_s g) Q := by
  refine x_entry [some (.ref qR), some (.int (nI c)), some (.int (nI p)), some (.int (nI 1)), none] 1 rfl rfl (Nat.le_of_ble_eq_true rfl) ?_
  refine x_ild2 (n := 1) dX12_nearest_0 rfl ?_
  refine x_ist4 (n := 3) dX12_nearest_1 rfl (by decide) rfl ?_
  exact l_nearU hZ hc hs hs2 (sz - p) p (by omega) hq
theorem c_nearD (hZ : ShR Z) {c sz p : Nat} (hc : c < 4) (hs : I q_tSize c = nI sz) (hs2 : sz ≤ 24) (hp : p < sz) (hq : Q (some (.int (oI (nrD (I q_tNumber) (24 * c) (p + 1))))) Z (va_up I q_s g)) : zM l G mX12_nearest 0 0 0 [.ref qR, .int (nI c), .int (nI p), .int (-1)] Z (va_up I q_s g) Q := by
  refine x_entry [some (.ref qR), some (.int (nI c)), some (.int (nI p)), some (.int (-1)), none] 1 rfl rfl (Nat.le_of_ble_eq_true rfl) ?_
  have h := l_nearD (l := l) (G := G) (p := nI p) hZ hc hs hs2 (p + 1) (by omega) hq
  rw [pk_m1] at h
  refine x_ild2 (n := 1) dX12_nearest_0 rfl ?_
  refine x_ist4 (n := 3) dX12_nearest_1 rfl (by decide) rfl ?_
  exact h
theorem c_X12_read (hZ : ShR Z) (hS : svOK (sv I)) {x p : Int32} (hq : Q (some (.int (f_read (sv I) x p))) Z (va_up I q_s g)) : zM l G mX12_read 3 0 0 [.ref qR, .int x, .int p] Z (va_up I q_s g) Q := by
  refine x_entry [some (.ref qR), some (.int x), some (.int p), none, none, none, none, none] 5 rfl rfl (Nat.le_of_ble_eq_true rfl) ?_
  unfold f_read at hq
  by_cases hl : lackF (sv I) x p = 0
  · rw [if_pos hl] at hq
    have hl2 := hl
    unfold lackF at hl2
    by_cases hx : zin x 0 3 = true
    · rw [if_pos hx] at hl2
      obtain ⟨c, hc, hc2, rfl⟩ := z_num 4 hx (by omega)
      rw [ix_nI (by omega)] at hl2 hq
      by_cases hs0 : (sv I).1 c < 0
      · rw [if_pos hs0] at hl2; exact absurd hl2 (by decide)
      rw [if_neg hs0] at hl2
      by_cases hp : zin p 0 (((sv I).2.1 c).toInt - 1) = true
      · have hsz : 0 ≤ (I q_tSize c).toInt ∧ (I q_tSize c).toInt ≤ 24 := (hS c hc).2
        have hp' : zin p 0 ((I q_tSize c).toInt - 1) = true := hp
        obtain ⟨sz, hz, hsz2⟩ := z_of (x := I q_tSize c) (n := 25) hsz.1 (by omega)
        rw [hsz2, nI_toInt (by omega)] at hp'
        obtain ⟨j, hj, rfl⟩ := z_chain hp'
        rw [ix_nI (by omega)] at hq
        have hq' : Q (some (.int (readF (I q_tNumber) (24 * c) sz j))) Z (va_up I q_s g) := by
          have e : ((sv I).2.1 c).toInt.toNat = sz := by
            show (I q_tSize c).toInt.toNat = sz
            rw [hsz2, nI_toInt (by omega)]; omega
          rw [e] at hq
          exact hq
        unfold readF at hq'
        cases hd : nrD (I q_tNumber) (24 * c) (j + 1) with
        | none =>
          cases hu : nrU (I q_tNumber) (24 * c) (sz - j) j with
          | none =>
            rw [hd, hu] at hq'
            refine x_ald0 (n := 1) dX12_read_0 rfl ?_
            refine x_ild1 (n := 2) dX12_read_1 rfl ?_
            refine x_ild2 (n := 3) dX12_read_2 rfl ?_
            refine x_cV2 (n := 6) (d' := 2) zcX12_lacks mlX12_351 dX12_read_3 rfl (rK hZ) (Nat.le_of_ble_eq_true rfl) (Nat.le_of_ble_eq_true rfl) ?_
            refine c_X12_lacks hZ hS ?_
            refine x_some ?_
            rw [hl]
            refine x_ist3 (n := 7) dX12_read_6 rfl (by decide) rfl ?_
            refine x_ild3 (n := 8) dX12_read_7 rfl ?_
            refine x_if_eq (n := 11) (tgt := 13) dX12_read_8 rfl (by decide) (fun c_8 => ?_) (fun c_8 => ?_)
            · refine x_ald0 (n := 14) dX12_read_13 rfl ?_
              refine x_ild1 (n := 15) dX12_read_14 rfl ?_
              refine x_ild2 (n := 16) dX12_read_15 rfl ?_
              refine x_icm1 (n := 17) dX12_read_16 rfl ?_
              refine x_cV3 (n := 20) (d' := 0) zcX12_nearest mlX12_358 dX12_read_17 rfl (rK hZ) (Nat.le_of_ble_eq_true rfl) (Nat.le_of_ble_eq_true rfl) ?_
              refine c_nearD hZ hc hsz2 (by omega) hj ?_
              rw [hd]
              refine x_some ?_
              refine x_ist4 (n := 22) dX12_read_20 rfl (by decide) rfl ?_
              refine x_ald0 (n := 23) dX12_read_22 rfl ?_
              refine x_ild1 (n := 24) dX12_read_23 rfl ?_
              refine x_ild2 (n := 25) dX12_read_24 rfl ?_
              refine x_ic1 (n := 26) dX12_read_25 rfl ?_
              refine x_cV3 (n := 29) (d' := 0) zcX12_nearest mlX12_358 dX12_read_26 rfl (rK hZ) (Nat.le_of_ble_eq_true rfl) (Nat.le_of_ble_eq_true rfl) ?_
              refine c_nearU hZ hc hsz2 (by omega) hj ?_
              rw [hu]
              refine x_some ?_
              refine x_ist5 (n := 31) dX12_read_29 rfl (by decide) rfl ?_
              refine x_ild4 (n := 33) dX12_read_31 rfl ?_
              show zX _ _ _ _ _ _ _ _ [.int (-1)] _ _ _
              refine x_if_ge (n := 36) (tgt := 44) dX12_read_33 rfl (by decide) (fun c_33 => ?_) (fun c_33 => ?_)
              · exact absurd c_33 (by decide)
              · refine x_ild5 (n := 38) dX12_read_36 rfl ?_
                show zX _ _ _ _ _ _ _ _ [.int (-1)] _ _ _
                refine x_if_ge (n := 41) (tgt := 44) dX12_read_38 rfl (by decide) (fun c_38 => ?_) (fun c_38 => ?_)
                · exact absurd c_38 (by decide)
                · refine x_ldc (n := 43) dX12_read_41 rfl kiX12_174 ?_
                  refine r_iret dX12_read_43 rfl ?_
                  exact hq'
            · exact absurd rfl c_8
          | some k =>
            have hk := nrU_in hu
            rw [hd, hu] at hq'
            refine x_ald0 (n := 1) dX12_read_0 rfl ?_
            refine x_ild1 (n := 2) dX12_read_1 rfl ?_
            refine x_ild2 (n := 3) dX12_read_2 rfl ?_
            refine x_cV2 (n := 6) (d' := 2) zcX12_lacks mlX12_351 dX12_read_3 rfl (rK hZ) (Nat.le_of_ble_eq_true rfl) (Nat.le_of_ble_eq_true rfl) ?_
            refine c_X12_lacks hZ hS ?_
            refine x_some ?_
            rw [hl]
            refine x_ist3 (n := 7) dX12_read_6 rfl (by decide) rfl ?_
            refine x_ild3 (n := 8) dX12_read_7 rfl ?_
            refine x_if_eq (n := 11) (tgt := 13) dX12_read_8 rfl (by decide) (fun c_8 => ?_) (fun c_8 => ?_)
            · refine x_ald0 (n := 14) dX12_read_13 rfl ?_
              refine x_ild1 (n := 15) dX12_read_14 rfl ?_
              refine x_ild2 (n := 16) dX12_read_15 rfl ?_
              refine x_icm1 (n := 17) dX12_read_16 rfl ?_
              refine x_cV3 (n := 20) (d' := 0) zcX12_nearest mlX12_358 dX12_read_17 rfl (rK hZ) (Nat.le_of_ble_eq_true rfl) (Nat.le_of_ble_eq_true rfl) ?_
              refine c_nearD hZ hc hsz2 (by omega) hj ?_
              rw [hd]
              refine x_some ?_
              show zX _ _ _ _ _ _ _ _ [.int (-1)] _ _ _
              refine x_ist4 (n := 22) dX12_read_20 rfl (by decide) rfl ?_
              refine x_ald0 (n := 23) dX12_read_22 rfl ?_
              refine x_ild1 (n := 24) dX12_read_23 rfl ?_
              refine x_ild2 (n := 25) dX12_read_24 rfl ?_
              refine x_ic1 (n := 26) dX12_read_25 rfl ?_
              refine x_cV3 (n := 29) (d' := 0) zcX12_nearest mlX12_358 dX12_read_26 rfl (rK hZ) (Nat.le_of_ble_eq_true rfl) (Nat.le_of_ble_eq_true rfl) ?_
              refine c_nearU hZ hc hsz2 (by omega) hj ?_
              rw [hu]
              refine x_some ?_
              show zX _ _ _ _ _ _ _ _ [.int (nI k)] _ _ _
              refine x_ist5 (n := 31) dX12_read_29 rfl (by decide) rfl ?_
              refine x_ild4 (n := 33) dX12_read_31 rfl ?_
              refine x_if_ge (n := 36) (tgt := 44) dX12_read_33 rfl (by decide) (fun c_33 => ?_) (fun c_33 => ?_)
              · exact absurd c_33 (by decide)
              · refine x_ild5 (n := 38) dX12_read_36 rfl ?_
                refine x_if_ge (n := 41) (tgt := 44) dX12_read_38 rfl (by decide) (fun c_38 => ?_) (fun c_38 => ?_)
                · refine x_ald0 (n := 45) dX12_read_44 rfl ?_
                  refine x_getR (n := 48) flX12_25 rfl dX12_read_45 rfl (rK hZ) (rP_tNumber hZ) ?_
                  refine x_bipush (n := 50) (v := nI 24) dX12_read_48 rfl (by decide) ?_
                  refine x_ild1 (n := 51) dX12_read_50 rfl ?_
                  refine x_imulN (n := 52) dX12_read_51 rfl ?_
                  refine x_ild4 (n := 54) dX12_read_52 rfl ?_
                  refine x_if_ge (n := 57) (tgt := 62) dX12_read_54 rfl (by decide) (fun c_54 => ?_) (fun c_54 => ?_)
                  · exact absurd c_54 (by decide)
                  · refine x_ild5 (n := 59) dX12_read_57 rfl ?_
                    refine x_goto (n := 64) dX12_read_59 (by decide) ?_
                    refine x_iaddN (n := 65) dX12_read_64 rfl ?_
                    refine x_old (n := 66) dX12_read_65 rfl (rA_tNumber hZ) (by decide) (Nat.le_of_ble_eq_true rfl) (by omega) ?_
                    refine x_ist6 (n := 68) dX12_read_66 rfl (by decide) rfl ?_
                    refine x_ald0 (n := 69) dX12_read_68 rfl ?_
                    refine x_getR (n := 72) flX12_25 rfl dX12_read_69 rfl (rK hZ) (rP_tNumber hZ) ?_
                    refine x_bipush (n := 74) (v := nI 24) dX12_read_72 rfl (by decide) ?_
                    refine x_ild1 (n := 75) dX12_read_74 rfl ?_
                    refine x_imulN (n := 76) dX12_read_75 rfl ?_
                    refine x_ild5 (n := 78) dX12_read_76 rfl ?_
                    refine x_if_ge (n := 81) (tgt := 86) dX12_read_78 rfl (by decide) (fun c_78 => ?_) (fun c_78 => ?_)
                    · refine x_ild5 (n := 88) dX12_read_86 rfl ?_
                      refine x_iaddN (n := 89) dX12_read_88 rfl ?_
                      refine x_old (n := 90) dX12_read_89 rfl (rA_tNumber hZ) (by decide) (Nat.le_of_ble_eq_true rfl) (by omega) ?_
                      refine x_ist7 (n := 92) dX12_read_90 rfl (by decide) rfl ?_
                      refine x_ild4 (n := 94) dX12_read_92 rfl ?_
                      refine x_if_lt (n := 97) (tgt := 109) dX12_read_94 rfl (by decide) (fun c_94 => ?_) (fun c_94 => ?_)
                      · refine x_ild4 (n := 111) dX12_read_109 rfl ?_
                        refine x_if_ge (n := 114) (tgt := 119) dX12_read_111 rfl (by decide) (fun c_111 => ?_) (fun c_111 => ?_)
                        · exact absurd c_111 (by decide)
                        · refine x_ild7 (n := 116) dX12_read_114 rfl ?_
                          refine x_goto (n := 145) dX12_read_116 (by decide) ?_
                          refine r_iret dX12_read_145 rfl ?_
                          exact hq'
                      · exact absurd (by decide) c_94
                    · exact absurd (nI_pos' (by omega)) c_78
                · exact absurd (nI_pos' (by omega)) c_38
            · exact absurd rfl c_8
        | some i =>
          have hi := nrD_in hd
          cases hu : nrU (I q_tNumber) (24 * c) (sz - j) j with
          | none =>
            rw [hd, hu] at hq'
            refine x_ald0 (n := 1) dX12_read_0 rfl ?_
            refine x_ild1 (n := 2) dX12_read_1 rfl ?_
            refine x_ild2 (n := 3) dX12_read_2 rfl ?_
            refine x_cV2 (n := 6) (d' := 2) zcX12_lacks mlX12_351 dX12_read_3 rfl (rK hZ) (Nat.le_of_ble_eq_true rfl) (Nat.le_of_ble_eq_true rfl) ?_
            refine c_X12_lacks hZ hS ?_
            refine x_some ?_
            rw [hl]
            refine x_ist3 (n := 7) dX12_read_6 rfl (by decide) rfl ?_
            refine x_ild3 (n := 8) dX12_read_7 rfl ?_
            refine x_if_eq (n := 11) (tgt := 13) dX12_read_8 rfl (by decide) (fun c_8 => ?_) (fun c_8 => ?_)
            · refine x_ald0 (n := 14) dX12_read_13 rfl ?_
              refine x_ild1 (n := 15) dX12_read_14 rfl ?_
              refine x_ild2 (n := 16) dX12_read_15 rfl ?_
              refine x_icm1 (n := 17) dX12_read_16 rfl ?_
              refine x_cV3 (n := 20) (d' := 0) zcX12_nearest mlX12_358 dX12_read_17 rfl (rK hZ) (Nat.le_of_ble_eq_true rfl) (Nat.le_of_ble_eq_true rfl) ?_
              refine c_nearD hZ hc hsz2 (by omega) hj ?_
              rw [hd]
              refine x_some ?_
              show zX _ _ _ _ _ _ _ _ [.int (nI i)] _ _ _
              refine x_ist4 (n := 22) dX12_read_20 rfl (by decide) rfl ?_
              refine x_ald0 (n := 23) dX12_read_22 rfl ?_
              refine x_ild1 (n := 24) dX12_read_23 rfl ?_
              refine x_ild2 (n := 25) dX12_read_24 rfl ?_
              refine x_ic1 (n := 26) dX12_read_25 rfl ?_
              refine x_cV3 (n := 29) (d' := 0) zcX12_nearest mlX12_358 dX12_read_26 rfl (rK hZ) (Nat.le_of_ble_eq_true rfl) (Nat.le_of_ble_eq_true rfl) ?_
              refine c_nearU hZ hc hsz2 (by omega) hj ?_
              rw [hu]
              refine x_some ?_
              show zX _ _ _ _ _ _ _ _ [.int (-1)] _ _ _
              refine x_ist5 (n := 31) dX12_read_29 rfl (by decide) rfl ?_
              refine x_ild4 (n := 33) dX12_read_31 rfl ?_
              refine x_if_ge (n := 36) (tgt := 44) dX12_read_33 rfl (by decide) (fun c_33 => ?_) (fun c_33 => ?_)
              · refine x_ald0 (n := 45) dX12_read_44 rfl ?_
                refine x_getR (n := 48) flX12_25 rfl dX12_read_45 rfl (rK hZ) (rP_tNumber hZ) ?_
                refine x_bipush (n := 50) (v := nI 24) dX12_read_48 rfl (by decide) ?_
                refine x_ild1 (n := 51) dX12_read_50 rfl ?_
                refine x_imulN (n := 52) dX12_read_51 rfl ?_
                refine x_ild4 (n := 54) dX12_read_52 rfl ?_
                refine x_if_ge (n := 57) (tgt := 62) dX12_read_54 rfl (by decide) (fun c_54 => ?_) (fun c_54 => ?_)
                · refine x_ild4 (n := 64) dX12_read_62 rfl ?_
                  refine x_iaddN (n := 65) dX12_read_64 rfl ?_
                  refine x_old (n := 66) dX12_read_65 rfl (rA_tNumber hZ) (by decide) (Nat.le_of_ble_eq_true rfl) (by omega) ?_
                  refine x_ist6 (n := 68) dX12_read_66 rfl (by decide) rfl ?_
                  refine x_ald0 (n := 69) dX12_read_68 rfl ?_
                  refine x_getR (n := 72) flX12_25 rfl dX12_read_69 rfl (rK hZ) (rP_tNumber hZ) ?_
                  refine x_bipush (n := 74) (v := nI 24) dX12_read_72 rfl (by decide) ?_
                  refine x_ild1 (n := 75) dX12_read_74 rfl ?_
                  refine x_imulN (n := 76) dX12_read_75 rfl ?_
                  refine x_ild5 (n := 78) dX12_read_76 rfl ?_
                  refine x_if_ge (n := 81) (tgt := 86) dX12_read_78 rfl (by decide) (fun c_78 => ?_) (fun c_78 => ?_)
                  · exact absurd c_78 (by decide)
                  · refine x_ild4 (n := 83) dX12_read_81 rfl ?_
                    refine x_goto (n := 88) dX12_read_83 (by decide) ?_
                    refine x_iaddN (n := 89) dX12_read_88 rfl ?_
                    refine x_old (n := 90) dX12_read_89 rfl (rA_tNumber hZ) (by decide) (Nat.le_of_ble_eq_true rfl) (by omega) ?_
                    refine x_ist7 (n := 92) dX12_read_90 rfl (by decide) rfl ?_
                    refine x_ild4 (n := 94) dX12_read_92 rfl ?_
                    refine x_if_lt (n := 97) (tgt := 109) dX12_read_94 rfl (by decide) (fun c_94 => ?_) (fun c_94 => ?_)
                    · exact absurd c_94 (nI_pos (by omega))
                    · refine x_ild5 (n := 99) dX12_read_97 rfl ?_
                      refine x_if_lt (n := 102) (tgt := 109) dX12_read_99 rfl (by decide) (fun c_99 => ?_) (fun c_99 => ?_)
                      · refine x_ild4 (n := 111) dX12_read_109 rfl ?_
                        refine x_if_ge (n := 114) (tgt := 119) dX12_read_111 rfl (by decide) (fun c_111 => ?_) (fun c_111 => ?_)
                        · refine x_ild6 (n := 121) dX12_read_119 rfl ?_
                          refine x_goto (n := 145) dX12_read_121 (by decide) ?_
                          refine r_iret dX12_read_145 rfl ?_
                          exact hq'
                        · exact absurd (nI_pos' (by omega)) c_111
                      · exact absurd (by decide) c_99
                · exact absurd (nI_pos' (by omega)) c_54
              · exact absurd (nI_pos' (by omega)) c_33
            · exact absurd rfl c_8
          | some k =>
            have hk := nrU_in hu
            rw [hd, hu] at hq'
            simp only at hq'
            refine x_ald0 (n := 1) dX12_read_0 rfl ?_
            refine x_ild1 (n := 2) dX12_read_1 rfl ?_
            refine x_ild2 (n := 3) dX12_read_2 rfl ?_
            refine x_cV2 (n := 6) (d' := 2) zcX12_lacks mlX12_351 dX12_read_3 rfl (rK hZ) (Nat.le_of_ble_eq_true rfl) (Nat.le_of_ble_eq_true rfl) ?_
            refine c_X12_lacks hZ hS ?_
            refine x_some ?_
            rw [hl]
            refine x_ist3 (n := 7) dX12_read_6 rfl (by decide) rfl ?_
            refine x_ild3 (n := 8) dX12_read_7 rfl ?_
            refine x_if_eq (n := 11) (tgt := 13) dX12_read_8 rfl (by decide) (fun c_8 => ?_) (fun c_8 => ?_)
            · refine x_ald0 (n := 14) dX12_read_13 rfl ?_
              refine x_ild1 (n := 15) dX12_read_14 rfl ?_
              refine x_ild2 (n := 16) dX12_read_15 rfl ?_
              refine x_icm1 (n := 17) dX12_read_16 rfl ?_
              refine x_cV3 (n := 20) (d' := 0) zcX12_nearest mlX12_358 dX12_read_17 rfl (rK hZ) (Nat.le_of_ble_eq_true rfl) (Nat.le_of_ble_eq_true rfl) ?_
              refine c_nearD hZ hc hsz2 (by omega) hj ?_
              rw [hd]
              refine x_some ?_
              show zX _ _ _ _ _ _ _ _ [.int (nI i)] _ _ _
              refine x_ist4 (n := 22) dX12_read_20 rfl (by decide) rfl ?_
              refine x_ald0 (n := 23) dX12_read_22 rfl ?_
              refine x_ild1 (n := 24) dX12_read_23 rfl ?_
              refine x_ild2 (n := 25) dX12_read_24 rfl ?_
              refine x_ic1 (n := 26) dX12_read_25 rfl ?_
              refine x_cV3 (n := 29) (d' := 0) zcX12_nearest mlX12_358 dX12_read_26 rfl (rK hZ) (Nat.le_of_ble_eq_true rfl) (Nat.le_of_ble_eq_true rfl) ?_
              refine c_nearU hZ hc hsz2 (by omega) hj ?_
              rw [hu]
              refine x_some ?_
              show zX _ _ _ _ _ _ _ _ [.int (nI k)] _ _ _
              refine x_ist5 (n := 31) dX12_read_29 rfl (by decide) rfl ?_
              refine x_ild4 (n := 33) dX12_read_31 rfl ?_
              refine x_if_ge (n := 36) (tgt := 44) dX12_read_33 rfl (by decide) (fun c_33 => ?_) (fun c_33 => ?_)
              · refine x_ald0 (n := 45) dX12_read_44 rfl ?_
                refine x_getR (n := 48) flX12_25 rfl dX12_read_45 rfl (rK hZ) (rP_tNumber hZ) ?_
                refine x_bipush (n := 50) (v := nI 24) dX12_read_48 rfl (by decide) ?_
                refine x_ild1 (n := 51) dX12_read_50 rfl ?_
                refine x_imulN (n := 52) dX12_read_51 rfl ?_
                refine x_ild4 (n := 54) dX12_read_52 rfl ?_
                refine x_if_ge (n := 57) (tgt := 62) dX12_read_54 rfl (by decide) (fun c_54 => ?_) (fun c_54 => ?_)
                · refine x_ild4 (n := 64) dX12_read_62 rfl ?_
                  refine x_iaddN (n := 65) dX12_read_64 rfl ?_
                  refine x_old (n := 66) dX12_read_65 rfl (rA_tNumber hZ) (by decide) (Nat.le_of_ble_eq_true rfl) (by omega) ?_
                  refine x_ist6 (n := 68) dX12_read_66 rfl (by decide) rfl ?_
                  refine x_ald0 (n := 69) dX12_read_68 rfl ?_
                  refine x_getR (n := 72) flX12_25 rfl dX12_read_69 rfl (rK hZ) (rP_tNumber hZ) ?_
                  refine x_bipush (n := 74) (v := nI 24) dX12_read_72 rfl (by decide) ?_
                  refine x_ild1 (n := 75) dX12_read_74 rfl ?_
                  refine x_imulN (n := 76) dX12_read_75 rfl ?_
                  refine x_ild5 (n := 78) dX12_read_76 rfl ?_
                  refine x_if_ge (n := 81) (tgt := 86) dX12_read_78 rfl (by decide) (fun c_78 => ?_) (fun c_78 => ?_)
                  · refine x_ild5 (n := 88) dX12_read_86 rfl ?_
                    refine x_iaddN (n := 89) dX12_read_88 rfl ?_
                    refine x_old (n := 90) dX12_read_89 rfl (rA_tNumber hZ) (by decide) (Nat.le_of_ble_eq_true rfl) (by omega) ?_
                    refine x_ist7 (n := 92) dX12_read_90 rfl (by decide) rfl ?_
                    refine x_ild4 (n := 94) dX12_read_92 rfl ?_
                    refine x_if_lt (n := 97) (tgt := 109) dX12_read_94 rfl (by decide) (fun c_94 => ?_) (fun c_94 => ?_)
                    · exact absurd c_94 (nI_pos (by omega))
                    · refine x_ild5 (n := 99) dX12_read_97 rfl ?_
                      refine x_if_lt (n := 102) (tgt := 109) dX12_read_99 rfl (by decide) (fun c_99 => ?_) (fun c_99 => ?_)
                      · exact absurd c_99 (nI_pos (by omega))
                      · refine x_ild4 (n := 104) dX12_read_102 rfl ?_
                        refine x_ild5 (n := 106) dX12_read_104 rfl ?_
                        refine x_icmpN_ne (n := 109) (tgt := 124) dX12_read_106 rfl (by decide) (by omega) (by omega) (fun c_106 => ?_) (fun c_106 => ?_)
                        · refine x_ild6 (n := 126) dX12_read_124 rfl ?_
                          refine x_ild5 (n := 128) dX12_read_126 rfl ?_
                          refine x_ild2 (n := 129) dX12_read_128 rfl ?_
                          refine x_isubN (n := 130) dX12_read_129 rfl (by omega) ?_
                          refine x_imul (n := 131) dX12_read_130 rfl ?_
                          refine x_ild7 (n := 133) dX12_read_131 rfl ?_
                          refine x_ild2 (n := 134) dX12_read_133 rfl ?_
                          refine x_ild4 (n := 136) dX12_read_134 rfl ?_
                          refine x_isubN (n := 137) dX12_read_136 rfl (by omega) ?_
                          refine x_imul (n := 138) dX12_read_137 rfl ?_
                          refine x_iadd (n := 139) dX12_read_138 rfl ?_
                          refine x_ild5 (n := 141) dX12_read_139 rfl ?_
                          refine x_ild4 (n := 143) dX12_read_141 rfl ?_
                          refine x_isubN (n := 144) dX12_read_143 rfl (by omega) ?_
                          refine x_idiv (n := 145) dX12_read_144 rfl (nI_ne0 (by omega) (by omega)) ?_
                          refine r_iret dX12_read_145 rfl ?_
                          first | (rw [if_pos (by omega)] at hq'; exact hq') | (rw [if_neg (by omega)] at hq'; exact hq')
                        · refine x_ild4 (n := 111) dX12_read_109 rfl ?_
                          refine x_if_ge (n := 114) (tgt := 119) dX12_read_111 rfl (by decide) (fun c_111 => ?_) (fun c_111 => ?_)
                          · refine x_ild6 (n := 121) dX12_read_119 rfl ?_
                            refine x_goto (n := 145) dX12_read_121 (by decide) ?_
                            refine r_iret dX12_read_145 rfl ?_
                            first | (rw [if_pos (by omega)] at hq'; exact hq') | (rw [if_neg (by omega)] at hq'; exact hq')
                          · exact absurd (nI_pos' (by omega)) c_111
                  · exact absurd (nI_pos' (by omega)) c_78
                · exact absurd (nI_pos' (by omega)) c_54
              · exact absurd (nI_pos' (by omega)) c_33
            · exact absurd rfl c_8
      · rw [if_neg hp] at hl2; exact absurd hl2 (by decide)
    · rw [if_neg hx] at hl2; exact absurd hl2 (by decide)
  · rw [if_neg hl] at hq
    refine x_ald0 (n := 1) dX12_read_0 rfl ?_
    refine x_ild1 (n := 2) dX12_read_1 rfl ?_
    refine x_ild2 (n := 3) dX12_read_2 rfl ?_
    refine x_cV2 (n := 6) (d' := 2) zcX12_lacks mlX12_351 dX12_read_3 rfl (rK hZ) (Nat.le_of_ble_eq_true rfl) (Nat.le_of_ble_eq_true rfl) ?_
    refine c_X12_lacks hZ hS ?_
    refine x_some ?_
    refine x_ist3 (n := 7) dX12_read_6 rfl (by decide) rfl ?_
    refine x_ild3 (n := 8) dX12_read_7 rfl ?_
    refine x_if_eq (n := 11) (tgt := 13) dX12_read_8 rfl (by decide) (fun c_8 => ?_) (fun c_8 => ?_)
    · exact absurd c_8 hl
    · refine x_ild3 (n := 12) dX12_read_11 rfl ?_
      refine r_iret dX12_read_12 rfl ?_
      exact hq
end
