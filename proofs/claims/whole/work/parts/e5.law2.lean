/-! ===== the law's loop ===== -/
theorem zsw_L (x : Int32) : (x.toInt < 0 ∨ 48 < x.toInt) ∨ ∃ j : Nat, j ≤ 48 ∧ x = nI j := by
  by_cases h : x.toInt < 0 ∨ 48 < x.toInt
  · exact Or.inl h
  · right
    obtain ⟨j, hj⟩ : ∃ j : Nat, x.toInt = (j : Int) := ⟨x.toInt.toNat, by omega⟩
    exact ⟨j, by omega, Int32.toInt_inj.mp (by rw [hj, nI_toInt (by omega)])⟩
theorem law_gt {L i : Nat} (hL2 : L ≤ 3072) (h : L < i + 6) (hi : i ≤ 6000 := by omega) : nI L - nI 6 < nI i := by
  rw [Int32.lt_iff_toInt_lt, nI_toInt (n := i) (by omega)]
  have e : (nI L - nI 6).toInt = (L : Int) - 6 := by
    by_cases h6 : 6 ≤ L
    · rw [show nI L - nI 6 = nI (L - 6) from by rw [show L = (L - 6) + 6 by omega, ← nI_add, Nat.add_sub_cancel]; exact Int32.add_sub_cancel _ _, nI_toInt (by omega)]; omega
    · rcases (by omega : L = 0 ∨ L = 1 ∨ L = 2 ∨ L = 3 ∨ L = 4 ∨ L = 5) with rfl | rfl | rfl | rfl | rfl | rfl <;> decide
  rw [e]; omega
section
variable {l : Launch} {G : zG} {nm : String}
theorem la_loop (hL2 : G.2.2.2.2.1 ≤ 3072) : ∀ (u i : Nat) (Z : zS) (J : zI) (ac as : Nat), G.2.2.2.2.1 < i + 6 * u → i ≤ 6000 → 2 * u ≤ ac → 100 * u ≤ as → Z.1 + 2 * u ≤ 900000 → LR Z J (J q_s) → zX l G (mdL nm) 124 ac as 18 (lsL i) [] Z J (fun r _ _ => r = some (.int (nI 1))) := by
  intro u
  induction u with
  | zero =>
    intro i Z J ac as hu hi _ _ _ h
    refine x_ild3 (n := 19) dL_law_18 rfl ?_
    refine x_ald0 (n := 20) dL_law_19 rfl ?_
    refine x_scrlen (n := 21) dL_law_20 rfl ?_
    refine x_bipush (n := 23) (v := nI 6) dL_law_21 rfl (by decide) ?_
    refine x_isub (n := 24) dL_law_23 rfl ?_
    refine x_icmp_gt (n := 27) (tgt := 1647) dL_law_24 rfl (by decide) (fun c_24 => ?_) (fun c_24 => ?_)
    · refine x_ic1 (n := 1648) dL_law_1647 rfl ?_
      exact r_zret dL_law_1648 rfl (by first | exact nar0 | exact nar1) rfl
    · exact absurd (law_gt hL2 (by omega)) c_24
  | succ u ih =>
    intro i Z J ac as hu hi hac has hZ h
    have hn : ∀ Z2 J2, LR Z2 J2 (J2 q_s) → Z.1 ≤ Z2.1 → Z2.1 ≤ Z.1 + 2 → i + 6 ≤ G.2.2.2.2.1 → zX l G (mdL nm) 124 (ac - 2) (as - 100) 1641 (lsL i) [] Z2 J2 (fun r _ _ => r = some (.int (nI 1))) := fun Z2 J2 h2 le1 le2 hiL => by
      refine x_iincN3 (n := 1644) (k := 6) dL_law_1641 rfl (show 3 < 4 by decide) rfl ?_
      refine x_goto (n := 18) dL_law_1644 (by decide) ?_
      exact ih (i + 6) Z2 J2 (ac - 2) (as - 100) (by omega) (by omega) (by omega) (by omega) (by omega) h2
    refine x_ild3 (n := 19) dL_law_18 rfl ?_
    refine x_ald0 (n := 20) dL_law_19 rfl ?_
    refine x_scrlen (n := 21) dL_law_20 rfl ?_
    refine x_bipush (n := 23) (v := nI 6) dL_law_21 rfl (by decide) ?_
    refine x_isub (n := 24) dL_law_23 rfl ?_
    refine x_icmp_gt (n := 27) (tgt := 1647) dL_law_24 rfl (by decide) (fun c_24 => ?_) (fun c_24 => ?_)
    · refine x_ic1 (n := 1648) dL_law_1647 rfl ?_
      exact r_zret dL_law_1648 rfl (by first | exact nar0 | exact nar1) rfl
    · have hiL : i + 6 ≤ G.2.2.2.2.1 := by
        by_cases hh : i + 6 ≤ G.2.2.2.2.1
        · exact hh
        · exact absurd (law_gt hL2 (by omega)) c_24
      refine x_ald0 (n := 28) dL_law_27 rfl ?_
      refine x_ild3 (n := 29) dL_law_28 rfl ?_
      refine x_scrld (n := 30) dL_law_29 rfl (by omega) (by omega) ?_
      refine x_bipush (n := 32) (v := nI 63) dL_law_30 rfl (by decide) ?_
      refine x_iand (n := 33) dL_law_32 rfl ?_
      rcases zsw_L (G.2.2.2.2.2 i &&& nI 63) with hsw | ⟨j, hj, hsw⟩
      · refine x_tswO (n := 1641) dL_law_33 hsw (by decide) ?_
        exact x_less (by omega) (by omega) (hn Z J h (Nat.le_refl _) (by omega) hiL)
      · refine x_top hsw ?_
        have hx : ∀ Z2 J2, LR Z2 J2 (J2 q_s) → Z.1 ≤ Z2.1 → Z2.1 ≤ Z.1 + 2 → zX l G (mdL nm) 124 (ac - 2) (as - 100) 1641 (lsL i) [] Z2 J2 (fun r _ _ => r = some (.int (nI 1))) := fun Z2 J2 h2 le1 le2 => hn Z2 J2 h2 le1 le2 hiL
        clear hsw hn c_24
        rcases (by omega : j = 0 ∨ j = 1 ∨ j = 2 ∨ j = 3 ∨ j = 4 ∨ j = 5 ∨ j = 6 ∨ j = 7 ∨ j = 8 ∨ j = 9 ∨ j = 10 ∨ j = 11 ∨ j = 12 ∨ j = 13 ∨ j = 14 ∨ j = 15 ∨ j = 16 ∨ j = 17 ∨ j = 18 ∨ j = 19 ∨ j = 20 ∨ j = 21 ∨ j = 22 ∨ j = 23 ∨ j = 24 ∨ j = 25 ∨ j = 26 ∨ j = 27 ∨ j = 28 ∨ j = 29 ∨ j = 30 ∨ j = 31 ∨ j = 32 ∨ j = 33 ∨ j = 34 ∨ j = 35 ∨ j = 36 ∨ j = 37 ∨ j = 38 ∨ j = 39 ∨ j = 40 ∨ j = 41 ∨ j = 42 ∨ j = 43 ∨ j = 44 ∨ j = 45 ∨ j = 46 ∨ j = 47 ∨ j = 48) with rfl | rfl | rfl | rfl | rfl | rfl | rfl | rfl | rfl | rfl | rfl | rfl | rfl | rfl | rfl | rfl | rfl | rfl | rfl | rfl | rfl | rfl | rfl | rfl | rfl | rfl | rfl | rfl | rfl | rfl | rfl | rfl | rfl | rfl | rfl | rfl | rfl | rfl | rfl | rfl | rfl | rfl | rfl | rfl | rfl | rfl | rfl | rfl | rfl
        · refine x_tswI (n := 244) (off := 211) dL_law_33 (by decide) (by decide) (by decide +kernel) (by decide) ?_
          exact la_chains hiL hL2 h (by omega) (by omega) (by omega) hx
        · refine x_tswI (n := 267) (off := 234) dL_law_33 (by decide) (by decide) (by decide +kernel) (by decide) ?_
          exact la_set hiL hL2 h (by omega) (by omega) (by omega) hx
        · refine x_tswI (n := 310) (off := 277) dL_law_33 (by decide) (by decide) (by decide +kernel) (by decide) ?_
          exact la_bore hiL hL2 h (by omega) (by omega) (by omega) hx
        · refine x_tswI (n := 333) (off := 300) dL_law_33 (by decide) (by decide) (by decide +kernel) (by decide) ?_
          exact la_at hiL hL2 h (by omega) (by omega) (by omega) hx
        · refine x_tswI (n := 366) (off := 333) dL_law_33 (by decide) (by decide) (by decide +kernel) (by decide) ?_
          exact la_rule hiL hL2 h (by omega) (by omega) (by omega) hx
        · refine x_tswI (n := 399) (off := 366) dL_law_33 (by decide) (by decide) (by decide +kernel) (by decide) ?_
          exact la_steep hiL hL2 h (by omega) (by omega) (by omega) hx
        · refine x_tswI (n := 412) (off := 379) dL_law_33 (by decide) (by decide) (by decide +kernel) (by decide) ?_
          exact la_best hiL hL2 h (by omega) (by omega) (by omega) hx
        · refine x_tswI (n := 435) (off := 402) dL_law_33 (by decide) (by decide) (by decide +kernel) (by decide) ?_
          exact la_lay hiL hL2 h (by omega) (by omega) (by omega) hx
        · refine x_tswI (n := 448) (off := 415) dL_law_33 (by decide) (by decide) (by decide +kernel) (by decide) ?_
          exact la_haul hiL hL2 h (by omega) (by omega) (by omega) hx
        · refine x_tswI (n := 461) (off := 428) dL_law_33 (by decide) (by decide) (by decide +kernel) (by decide) ?_
          exact la_work hiL hL2 h (by omega) (by omega) (by omega) hx
        · refine x_tswI (n := 504) (off := 471) dL_law_33 (by decide) (by decide) (by decide +kernel) (by decide) ?_
          exact la_told hiL hL2 h (by omega) (by omega) (by omega) hx
        · refine x_tswI (n := 537) (off := 504) dL_law_33 (by decide) (by decide) (by decide +kernel) (by decide) ?_
          exact la_as hiL hL2 h (by omega) (by omega) (by omega) hx
        · refine x_tswI (n := 570) (off := 537) dL_law_33 (by decide) (by decide) (by decide +kernel) (by decide) ?_
          exact la_ahead hiL hL2 h (by omega) (by omega) (by omega) hx
        · refine x_tswI (n := 603) (off := 570) dL_law_33 (by decide) (by decide) (by decide +kernel) (by decide) ?_
          exact la_days hiL hL2 h (by omega) (by omega) (by omega) hx
        · refine x_tswI (n := 636) (off := 603) dL_law_33 (by decide) (by decide) (by decide +kernel) (by decide) ?_
          exact la_gang hiL hL2 h (by omega) (by omega) (by omega) hx
        · refine x_tswI (n := 659) (off := 626) dL_law_33 (by decide) (by decide) (by decide +kernel) (by decide) ?_
          exact la_goes hiL hL2 h (by omega) (by omega) (by omega) hx
        · refine x_tswI (n := 692) (off := 659) dL_law_33 (by decide) (by decide) (by decide +kernel) (by decide) ?_
          exact la_wet hiL hL2 h (by omega) (by omega) (by omega) hx
        · refine x_tswI (n := 725) (off := 692) dL_law_33 (by decide) (by decide) (by decide +kernel) (by decide) ?_
          exact la_run hiL hL2 h (by omega) (by omega) (by omega) hx
        · refine x_tswI (n := 748) (off := 715) dL_law_33 (by decide) (by decide) (by decide +kernel) (by decide) ?_
          exact la_foretold hiL hL2 h (by omega) (by omega) (by omega) hx
        · refine x_tswI (n := 761) (off := 728) dL_law_33 (by decide) (by decide) (by decide +kernel) (by decide) ?_
          exact la_feed hiL hL2 h (by omega) (by omega) (by omega) hx
        · refine x_tswI (n := 804) (off := 771) dL_law_33 (by decide) (by decide) (by decide +kernel) (by decide) ?_
          exact la_trim hiL hL2 h (by omega) (by omega) (by omega) hx
        · refine x_tswI (n := 827) (off := 794) dL_law_33 (by decide) (by decide) (by decide +kernel) (by decide) ?_
          exact la_text hiL hL2 h (by omega) (by omega) (by omega) hx
        · refine x_tswI (n := 850) (off := 817) dL_law_33 (by decide) (by decide) (by decide +kernel) (by decide) ?_
          exact la_of hiL hL2 h (by omega) (by omega) (by omega) hx
        · refine x_tswI (n := 883) (off := 850) dL_law_33 (by decide) (by decide) (by decide +kernel) (by decide) ?_
          exact la_why hiL hL2 h (by omega) (by omega) (by omega) hx
        · refine x_tswI (n := 906) (off := 873) dL_law_33 (by decide) (by decide) (by decide +kernel) (by decide) ?_
          exact la_rules hiL hL2 h (by omega) (by omega) (by omega) hx
        · refine x_tswI (n := 959) (off := 926) dL_law_33 (by decide) (by decide) (by decide +kernel) (by decide) ?_
          exact la_price hiL hL2 h (by omega) (by omega) (by omega) hx
        · refine x_tswI (n := 982) (off := 949) dL_law_33 (by decide) (by decide) (by decide +kernel) (by decide) ?_
          exact la_measure hiL hL2 h (by omega) (by omega) (by omega) hx
        · refine x_tswI (n := 1025) (off := 992) dL_law_33 (by decide) (by decide) (by decide +kernel) (by decide) ?_
          exact la_quarrels hiL hL2 h (by omega) (by omega) (by omega) hx
        · refine x_tswI (n := 1038) (off := 1005) dL_law_33 (by decide) (by decide) (by decide +kernel) (by decide) ?_
          exact la_claim hiL hL2 h (by omega) (by omega) (by omega) hx
        · refine x_tswI (n := 1081) (off := 1048) dL_law_33 (by decide) (by decide) (by decide +kernel) (by decide) ?_
          exact la_given hiL hL2 h (by omega) (by omega) (by omega) hx
        · refine x_tswI (n := 1104) (off := 1071) dL_law_33 (by decide) (by decide) (by decide +kernel) (by decide) ?_
          exact la_late hiL hL2 h (by omega) (by omega) (by omega) hx
        · refine x_tswI (n := 1127) (off := 1094) dL_law_33 (by decide) (by decide) (by decide +kernel) (by decide) ?_
          exact la_call hiL hL2 h (by omega) (by omega) (by omega) hx
        · refine x_tswI (n := 1150) (off := 1117) dL_law_33 (by decide) (by decide) (by decide +kernel) (by decide) ?_
          exact la_due hiL hL2 h (by omega) (by omega) (by omega) hx
        · refine x_tswI (n := 1183) (off := 1150) dL_law_33 (by decide) (by decide) (by decide +kernel) (by decide) ?_
          exact la_out hiL hL2 h (by omega) (by omega) (by omega) hx
        · refine x_tswI (n := 1196) (off := 1163) dL_law_33 (by decide) (by decide) (by decide +kernel) (by decide) ?_
          exact la_face hiL hL2 h (by omega) (by omega) (by omega) hx
        · refine x_tswI (n := 1229) (off := 1196) dL_law_33 (by decide) (by decide) (by decide +kernel) (by decide) ?_
          exact la_meets hiL hL2 h (by omega) (by omega) (by omega) hx
        · refine x_tswI (n := 1252) (off := 1219) dL_law_33 (by decide) (by decide) (by decide +kernel) (by decide) ?_
          exact la_arch hiL hL2 h (by omega) (by omega) (by omega) hx
        · refine x_tswI (n := 1275) (off := 1242) dL_law_33 (by decide) (by decide) (by decide +kernel) (by decide) ?_
          exact la_order hiL hL2 h (by omega) (by omega) (by omega) hx
        · refine x_tswI (n := 1308) (off := 1275) dL_law_33 (by decide) (by decide) (by decide +kernel) (by decide) ?_
          exact la_through hiL hL2 h (by omega) (by omega) (by omega) hx
        · refine x_tswI (n := 1331) (off := 1298) dL_law_33 (by decide) (by decide) (by decide +kernel) (by decide) ?_
          exact la_chain hiL hL2 h (by omega) (by omega) (by omega) hx
        · refine x_tswI (n := 1364) (off := 1331) dL_law_33 (by decide) (by decide) (by decide +kernel) (by decide) ?_
          exact la_survey hiL hL2 h (by omega) (by omega) (by omega) hx
        · refine x_tswI (n := 1407) (off := 1374) dL_law_33 (by decide) (by decide) (by decide +kernel) (by decide) ?_
          exact la_note hiL hL2 h (by omega) (by omega) (by omega) hx
        · refine x_tswI (n := 1450) (off := 1417) dL_law_33 (by decide) (by decide) (by decide +kernel) (by decide) ?_
          exact la_read hiL hL2 h (by omega) (by omega) (by omega) hx
        · refine x_tswI (n := 1483) (off := 1450) dL_law_33 (by decide) (by decide) (by decide +kernel) (by decide) ?_
          exact la_copy hiL hL2 h (by omega) (by omega) (by omega) hx
        · refine x_tswI (n := 1546) (off := 1513) dL_law_33 (by decide) (by decide) (by decide +kernel) (by decide) ?_
          exact la_tell hiL hL2 h (by omega) (by omega) (by omega) hx
        · refine x_tswI (n := 1569) (off := 1536) dL_law_33 (by decide) (by decide) (by decide +kernel) (by decide) ?_
          exact la_check hiL hL2 h (by omega) (by omega) (by omega) hx
        · refine x_tswI (n := 1592) (off := 1559) dL_law_33 (by decide) (by decide) (by decide +kernel) (by decide) ?_
          exact la_keep hiL hL2 h (by omega) (by omega) (by omega) hx
        · refine x_tswI (n := 1605) (off := 1572) dL_law_33 (by decide) (by decide) (by decide +kernel) (by decide) ?_
          exact la_back hiL hL2 h (by omega) (by omega) (by omega) hx
        · refine x_tswI (n := 1618) (off := 1585) dL_law_33 (by decide) (by decide) (by decide +kernel) (by decide) ?_
          exact la_count hiL hL2 h (by omega) (by omega) (by omega) hx
end
