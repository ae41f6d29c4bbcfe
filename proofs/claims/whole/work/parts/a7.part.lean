/-! ===== the reference reads a part ===== -/
theorem rd_p2 {key n d u : Nat} {x : TK} {r : List TK} (h : x.1 = 2) : rdP key (n + 1) 5 d u (x :: r) = (true, r, [(nI 0, nI x.2.1)], 1) := by
  conv => lhs; unfold rdP
  rw [if_neg (by omega), if_pos rfl]
  show (if x.1 = 2 then (true, r, [(nI 0, nI x.2.1)], 1) else _) = _
  rw [if_pos h]
theorem rd_p1 {key n d u : Nat} {x : TK} {r : List TK} (h : x.1 = 1 ∧ x.2.1 ≠ 0 ∧ isNm key (nI x.2.1) = true) : rdP key (n + 1) 5 d u (x :: r) = (true, r, [(nI 1, nI x.2.1)], 1) := by
  conv => lhs; unfold rdP
  rw [if_neg (by omega), if_pos rfl]
  show (if x.1 = 2 then _ else if x.1 = 1 ∧ x.2.1 ≠ 0 ∧ isNm key (nI x.2.1) = true then (true, r, [(nI 1, nI x.2.1)], 1) else _) = _
  rw [if_neg (by omega), if_pos h]
theorem rd_pN {key n d u : Nat} {x : TK} {r : List TK} (h : (x.1 = 3 ∧ x.2.1 = 33) ∧ u < 8) : rdP key (n + 1) 5 d u (x :: r) = if (rdP key n 5 d (u + 1) r).1 = true then (true, (rdP key n 5 d (u + 1) r).2.1, (rdP key n 5 d (u + 1) r).2.2.1 ++ [(nI 2, nI 33)], (rdP key n 5 d (u + 1) r).2.2.2) else rdP key n 5 d (u + 1) r := by
  conv => lhs; unfold rdP
  rw [if_neg (by omega), if_pos rfl]
  show (if x.1 = 2 then _ else if x.1 = 1 ∧ x.2.1 ≠ 0 ∧ isNm key (nI x.2.1) = true then _ else if (x.1 = 3 ∧ x.2.1 = 33) ∧ u < 8 then _ else _) = _
  rw [if_neg (by omega), if_neg (by omega), if_pos h]
theorem rd_pO {key n d u : Nat} {x : TK} {r : List TK} (h : (x.1 = 3 ∧ x.2.1 = 40) ∧ d < 8) : rdP key (n + 1) 5 d u (x :: r) = if (rdP key n 0 (d + 1) u r).1 = true ∧ isCl (rdP key n 0 (d + 1) u r).2.1 = true then (true, (rdP key n 0 (d + 1) u r).2.1.tail, (rdP key n 0 (d + 1) u r).2.2.1, (rdP key n 0 (d + 1) u r).2.2.2) else (false, (rdP key n 0 (d + 1) u r).2.1, (rdP key n 0 (d + 1) u r).2.2.1, (rdP key n 0 (d + 1) u r).2.2.2) := by
  conv => lhs; unfold rdP
  rw [if_neg (by omega), if_pos rfl]
  show (if x.1 = 2 then _ else if x.1 = 1 ∧ x.2.1 ≠ 0 ∧ isNm key (nI x.2.1) = true then _ else if (x.1 = 3 ∧ x.2.1 = 33) ∧ u < 8 then _ else if (x.1 = 3 ∧ x.2.1 = 40) ∧ d < 8 then _ else _) = _
  rw [if_neg (by omega), if_neg (by omega), if_neg (by omega), if_pos h]
theorem rd_pX {key n d u : Nat} {x : TK} {r : List TK} (h2 : x.1 ≠ 2) (h1 : ¬ (x.1 = 1 ∧ x.2.1 ≠ 0 ∧ isNm key (nI x.2.1) = true)) (h3 : ¬ ((x.1 = 3 ∧ x.2.1 = 33) ∧ u < 8)) (h4 : ¬ ((x.1 = 3 ∧ x.2.1 = 40) ∧ d < 8)) : rdP key (n + 1) 5 d u (x :: r) = (false, x :: r, [], 0) := by
  conv => lhs; unfold rdP
  rw [if_neg (by omega), if_pos rfl]
  show (if x.1 = 2 then _ else if x.1 = 1 ∧ x.2.1 ≠ 0 ∧ isNm key (nI x.2.1) = true then _ else if (x.1 = 3 ∧ x.2.1 = 33) ∧ u < 8 then _ else if (x.1 = 3 ∧ x.2.1 = 40) ∧ d < 8 then _ else (false, x :: r, [], 0)) = _
  rw [if_neg h2, if_neg h1, if_neg h3, if_neg h4]
theorem curT_up {f R : Nat → Int32} {t j : Nat} {v : Int32} {ts : List TK} (h : curT f t R ts) (hj : ¬ (16 ≤ j ∧ j ≤ 20)) : curT f t (upd R j v) ts := by
  obtain ⟨k, v', b, r, p, n, e, c0, c1, c2, c3, c4, c5, c6, c7, c8, c9⟩ := h
  exact ⟨k, v', b, r, p, n, e, c0, c1, by rw [upd_off (by omega)]; exact c2, by rw [upd_off (by omega)]; exact c3, c4, c5, by rw [upd_off (by omega)]; exact c6, c7, by rw [upd_off (by omega)]; exact c8, by rw [upd_off (by omega)]; exact c9⟩
section
variable {l : Launch} {G : zG} {Z : zS} {I : zI} {g : Nat → Int32} {Q : Option Value → zS → zI → Prop}
variable {f R : Nat → Int32} {t A d u L S : Nat} {ts : List TK}
theorem prS_21 (h : prS f t A d u L S ts R) (e : Nat) : prS f t A e u L S ts (upd R 21 (nI e)) := by
  obtain ⟨p1, p2, p3, p4, p5, p6, p7⟩ := h
  exact ⟨by rw [upd_off (by omega)]; exact p1, upd_same, by rw [upd_off (by omega)]; exact p3, by rw [upd_off (by omega)]; exact p4, by rw [upd_off (by omega)]; exact p5, by rw [upd_off (by omega)]; exact p6, curT_up p7 (by omega)⟩
theorem prS_22 (h : prS f t A d u L S ts R) (e : Nat) : prS f t A d e L S ts (upd R 22 (nI e)) := by
  obtain ⟨p1, p2, p3, p4, p5, p6, p7⟩ := h
  exact ⟨by rw [upd_off (by omega)]; exact p1, by rw [upd_off (by omega)]; exact p2, upd_same, by rw [upd_off (by omega)]; exact p4, by rw [upd_off (by omega)]; exact p5, by rw [upd_off (by omega)]; exact p6, curT_up p7 (by omega)⟩
theorem prS_23 (h : prS f t A d u L S ts R) (e : Nat) : prS f t A d u e S ts (upd R 23 (nI e)) := by
  obtain ⟨p1, p2, p3, p4, p5, p6, p7⟩ := h
  exact ⟨by rw [upd_off (by omega)]; exact p1, by rw [upd_off (by omega)]; exact p2, by rw [upd_off (by omega)]; exact p3, upd_same, by rw [upd_off (by omega)]; exact p5, by rw [upd_off (by omega)]; exact p6, curT_up p7 (by omega)⟩
theorem prS_25 (h : prS f t A d u L S ts R) (e : Nat) : prS f t A d u L e ts (upd R 25 (nI e)) := by
  obtain ⟨p1, p2, p3, p4, p5, p6, p7⟩ := h
  exact ⟨by rw [upd_off (by omega)]; exact p1, by rw [upd_off (by omega)]; exact p2, by rw [upd_off (by omega)]; exact p3, by rw [upd_off (by omega)]; exact p4, by rw [upd_off (by omega)]; exact p5, upd_same, curT_up p7 (by omega)⟩
theorem a_num (hZ : ShR Z) {key n : Nat} (hy : byR f t) (ht : t ≤ 96) (hAA : A ≤ 5332) {x : TK} {r : List TK} {dep : Nat} (hdep : 3 ≤ dep) (hf : I q_tape = f) (hp : prS f t A d u L S (x :: r) (I qR)) (hL : L + (r.length + 1) ≤ 97) (h2 : x.1 = 2)
    (hq : ∀ J g', rdPost f t A d u L S (rdP key (n + 1) 5 d u (x :: r)) I J g g' → Q (some (.int (zb (rdP key (n + 1) 5 d u (x :: r)).1))) Z (va_up J q_s g')) : zX l G mX12_part0 dep 0 0 8 [some (.ref qR), some (.int (nI key))] [] Z (va_up I q_s g) Q := by
  rw [rd_p2 h2] at hq
  have h19 : I qR 19 = nI x.2.1 := by
    obtain ⟨k, v, b, r', p, n', e, c0, c1, c2, c3, c4, c5, c6, c7, c8, c9⟩ := hp.2.2.2.2.2.2
    cases e
    exact (c8 h2).1
  have h25 : upd (I qR) 23 (nI (L + 1)) 25 = nI S := by rw [upd_off (by omega)]; exact hp.2.2.2.2.2.1
  refine x_ald0 (n := 9) dX12_part0_8 rfl ?_
  refine x_ic0 (n := 10) dX12_part0_9 rfl ?_
  refine x_ald0 (n := 11) dX12_part0_10 rfl ?_
  refine x_rget (n := 14) flX12_244 rfl dX12_part0_11 rfl hZ ?_
  rw [h19]
  refine x_cV2 (n := 17) (d' := 0) zcX12_step mlX12_270 dX12_part0_14 rfl (rK hZ) (by omega) (Nat.le_of_ble_eq_true rfl) ?_
  refine c_X12_step hZ hp.2.2.2.2.1 hp.2.2.2.1 (by omega) ?_
  refine x_none ?_
  refine x_ald0 (n := 18) dX12_part0_17 rfl ?_
  refine x_dup (n := 19) dX12_part0_18 rfl rfl ?_
  refine x_rget (n := 22) flX12_286 rfl dX12_part0_19 rfl hZ ?_
  rw [va_up_same, h25]
  refine x_ic1 (n := 23) dX12_part0_22 rfl ?_
  refine x_iaddN (n := 24) dX12_part0_23 rfl ?_
  refine x_rput (n := 27) flX12_286 rfl rfl rfl rfl dX12_part0_24 rfl hZ ?_
  refine x_ald0 (n := 28) dX12_part0_27 rfl ?_
  refine x_cV0 (n := 31) (d' := 2) zcX12_next mlX12_267 dX12_part0_28 rfl (rK hZ) (by omega) (Nat.le_of_ble_eq_true rfl) ?_
  have hp2 := prS_25 (prS_23 hp (L + 1)) (S + 1)
  refine c_nextT (f := f) (t := t) (A := A) (d := d) (u := u) (L := L + 1) (S := S + 1) (x := x) (r := r) hZ hf hy ht (by rw [va_up_same, va_up_same]; exact hp2) (by omega) (fun J hJ hJ2 hpJ => ?_)
  refine x_none ?_
  refine x_ic1 (n := 32) dX12_part0_31 rfl ?_
  refine r_zret dX12_part0_32 rfl (by first | exact nar0 | exact nar1 | exact zb_nar _) ?_
  refine hq J _ ⟨fun q hq => ?_, fun i hi => ?_, rfl, hpJ.2.2.2.2.2.2, fun _ => hpJ⟩
  · rw [hJ q hq, va_up_off hq, va_up_off hq]
  · rw [hJ2 i (by omega), va_up_same, upd_off (by omega), va_up_same, upd_off (by omega)]
theorem a_name (hZ : ShR Z) {key n : Nat} (hy : byR f t) (ht : t ≤ 96) (hAA : A ≤ 5332) {x : TK} {r : List TK} {dep : Nat} (hdep : 3 ≤ dep) (hf : I q_tape = f) (hp : prS f t A d u L S (x :: r) (I qR)) (hL : L + (r.length + 1) ≤ 97) (h1 : x.1 = 1 ∧ x.2.1 ≠ 0 ∧ isNm key (nI x.2.1) = true)
    (hq : ∀ J g', rdPost f t A d u L S (rdP key (n + 1) 5 d u (x :: r)) I J g g' → Q (some (.int (zb (rdP key (n + 1) 5 d u (x :: r)).1))) Z (va_up J q_s g')) : zX l G mX12_part0 dep 0 0 59 [some (.ref qR), some (.int (nI key))] [] Z (va_up I q_s g) Q := by
  rw [rd_p1 h1] at hq
  obtain ⟨h20, hlt⟩ := letT hp.2.2.2.2.2.2 (Or.inl h1.1)
  have h25 : upd (I qR) 23 (nI (L + 1)) 25 = nI S := by rw [upd_off (by omega)]; exact hp.2.2.2.2.2.1
  refine x_ald0 (n := 60) dX12_part0_59 rfl ?_
  refine x_ic1 (n := 61) dX12_part0_60 rfl ?_
  refine x_ald0 (n := 62) dX12_part0_61 rfl ?_
  refine x_rget (n := 65) flX12_238 rfl dX12_part0_62 rfl hZ ?_
  rw [h20]
  refine x_cV2 (n := 68) (d' := 0) zcX12_step mlX12_270 dX12_part0_65 rfl (rK hZ) (by omega) (Nat.le_of_ble_eq_true rfl) ?_
  refine c_X12_step hZ hp.2.2.2.2.1 hp.2.2.2.1 (by omega) ?_
  refine x_none ?_
  refine x_ald0 (n := 69) dX12_part0_68 rfl ?_
  refine x_dup (n := 70) dX12_part0_69 rfl rfl ?_
  refine x_rget (n := 73) flX12_286 rfl dX12_part0_70 rfl hZ ?_
  rw [va_up_same, h25]
  refine x_ic1 (n := 74) dX12_part0_73 rfl ?_
  refine x_iaddN (n := 75) dX12_part0_74 rfl ?_
  refine x_rput (n := 78) flX12_286 rfl rfl rfl rfl dX12_part0_75 rfl hZ ?_
  refine x_ald0 (n := 79) dX12_part0_78 rfl ?_
  refine x_cV0 (n := 82) (d' := 2) zcX12_next mlX12_267 dX12_part0_79 rfl (rK hZ) (by omega) (Nat.le_of_ble_eq_true rfl) ?_
  have hp2 := prS_25 (prS_23 hp (L + 1)) (S + 1)
  refine c_nextT (f := f) (t := t) (A := A) (d := d) (u := u) (L := L + 1) (S := S + 1) (x := x) (r := r) hZ hf hy ht (by rw [va_up_same, va_up_same]; exact hp2) (by omega) (fun J hJ hJ2 hpJ => ?_)
  refine x_none ?_
  refine x_ic1 (n := 83) dX12_part0_82 rfl ?_
  refine r_zret dX12_part0_83 rfl (by first | exact nar0 | exact nar1 | exact zb_nar _) ?_
  refine hq J _ ⟨fun q hq => ?_, fun i hi => ?_, rfl, hpJ.2.2.2.2.2.2, fun _ => hpJ⟩
  · rw [hJ q hq, va_up_off hq, va_up_off hq]
  · rw [hJ2 i (by omega), va_up_same, upd_off (by omega), va_up_same, upd_off (by omega)]
theorem a_not (hZ : ShR Z) {key n : Nat} (hy : byR f t) (ht : t ≤ 96) (hAA : A ≤ 5332) (hu : u < 8) (hP : rdLv key n 5 d (u + 1) f t A mX12_part0 (7 * ((8 - d) + (8 - (u + 1))) + 4) l G Z) {x : TK} {r : List TK} (hn : 8 * (r.length + 1) ≤ n) (hf : I q_tape = f) (hp : prS f t A d u L S (x :: r) (I qR)) (hL : L + (r.length + 1) ≤ 97) (h3 : x.1 = 3 ∧ x.2.1 = 33)
    (hq : ∀ J g', rdPost f t A d u L S (rdP key (n + 1) 5 d u (x :: r)) I J g g' → Q (some (.int (zb (rdP key (n + 1) 5 d u (x :: r)).1))) Z (va_up J q_s g')) : zX l G mX12_part0 (7 * ((8 - d) + (8 - u)) + 4) 0 0 102 [some (.ref qR), some (.int (nI key))] [] Z (va_up I q_s g) Q := by
  rw [rd_pN ⟨h3, hu⟩] at hq
  have h22 : I qR 22 = nI u := hp.2.2.1
  have hw2 : wgt 5 = 1 := rfl
  have hcl := rd_cl key n 5 d (u + 1) r
  refine x_ald0 (n := 103) dX12_part0_102 rfl ?_
  refine x_dup (n := 104) dX12_part0_103 rfl rfl ?_
  refine x_rget (n := 107) flX12_293 rfl dX12_part0_104 rfl hZ ?_
  rw [h22]
  refine x_ic1 (n := 108) dX12_part0_107 rfl ?_
  refine x_iaddN (n := 109) dX12_part0_108 rfl ?_
  refine x_rput (n := 112) flX12_293 rfl rfl rfl rfl dX12_part0_109 rfl hZ ?_
  refine x_ald0 (n := 113) dX12_part0_112 rfl ?_
  refine x_cV0 (n := 116) (d' := 2) zcX12_next mlX12_267 dX12_part0_113 rfl (rK hZ) (by omega) (Nat.le_of_ble_eq_true rfl) ?_
  have hp2 := prS_22 hp (u + 1)
  refine c_nextT (f := f) (t := t) (A := A) (d := d) (u := u + 1) (L := L) (S := S) (x := x) (r := r) hZ hf hy ht (by rw [va_up_same]; exact hp2) (by omega) (fun J hJ hJ2 hpJ => ?_)
  refine x_none ?_
  refine x_ald0 (n := 117) dX12_part0_116 rfl ?_
  refine x_ild1 (n := 118) dX12_part0_117 rfl ?_
  refine x_cV1 (n := 121) (d' := (7 * ((8 - d) + (8 - (u + 1))) + 4)) zcX12_part0 mlX12_283 dX12_part0_118 rfl (rK hZ) (by omega) (Nat.le_of_ble_eq_true rfl) ?_
  refine hP r J g L S _ (by rw [hw2]; omega) ((hJ _ (by decide)).trans hf) hpJ (by omega) (fun K g1 hK => ?_)
  have hKI : ∀ q, q ≠ qR → K q = I q := fun q hq => by rw [hK.1 q hq, hJ q hq, va_up_off hq]
  have hKR : ∀ i, ¬ (16 ≤ i ∧ i ≤ 25) → K qR i = I qR i := fun i hi => by rw [hK.2.1 i hi, hJ2 i (by omega), va_up_same, upd_off (by omega)]
  refine x_some ?_
  refine x_zif_ne (n := 124) (tgt := 126) dX12_part0_121 rfl (by decide) (fun c_121 => ?_) (fun c_121 => ?_)
  · refine x_ald0 (n := 127) dX12_part0_126 rfl ?_
    refine x_dup (n := 128) dX12_part0_127 rfl rfl ?_
    refine x_rget (n := 131) flX12_293 rfl dX12_part0_128 rfl hZ ?_
    have hpK := hK.2.2.2.2 c_121
    rw [if_pos c_121] at hq
    have hlen := (rd_len key n 5 d (u + 1) r c_121).2 (by omega)
    rw [show K qR 22 = nI (u + 1) from hpK.2.2.1]
    refine x_ic1 (n := 132) dX12_part0_131 rfl ?_
    refine x_isubN (n := 133) dX12_part0_132 rfl (by omega) ?_
    refine x_rput (n := 136) flX12_293 rfl rfl rfl rfl dX12_part0_133 rfl hZ ?_
    refine x_ald0 (n := 137) dX12_part0_136 rfl ?_
    refine x_ic2 (n := 138) dX12_part0_137 rfl ?_
    refine x_bipush (n := 140) (v := nI 33) dX12_part0_138 rfl (by decide) ?_
    refine x_cV2 (n := 143) (d' := 0) zcX12_step mlX12_270 dX12_part0_140 rfl (rK hZ) (by omega) (Nat.le_of_ble_eq_true rfl) ?_
    have hp3 := prS_22 hpK u
    refine c_X12_step (A := A) (n := L + (rdP key n 5 d (u + 1) r).2.2.1.length) hZ (by rw [va_up_same]; exact hp3.2.2.2.2.1) (by rw [va_up_same]; exact hp3.2.2.2.1) (by omega) ?_
    refine x_none ?_
    refine x_ic1 (n := 144) dX12_part0_143 rfl ?_
    refine r_zret dX12_part0_144 rfl (by first | exact nar0 | exact nar1 | exact zb_nar _) ?_
    have hK2 : rdPost f t A d u L S (rdP key n 5 d (u + 1) r) I (va_up K qR (upd (K qR) 22 (nI u))) g g1 := ⟨fun q hq => by rw [va_up_off hq, hKI q hq], fun i hi => by rw [va_up_same, upd_off (by omega), hKR i hi], hK.2.2.1, by rw [va_up_same]; exact hp3.2.2.2.2.2.2, fun _ => by rw [va_up_same]; exact hp3⟩
    exact hq _ _ (rdPost_step (fun _ _ => rfl) (fun _ _ => rfl) hK2 c_121)
  · refine x_ic0 (n := 125) dX12_part0_124 rfl ?_
    refine r_zret dX12_part0_125 rfl (by first | exact nar0 | exact nar1 | exact zb_nar _) ?_
    rw [if_neg (by rw [c_121]; decide)] at hq
    have hx := hq K g1 ⟨hKI, hKR, hK.2.2.1, hK.2.2.2.1, fun h => by rw [c_121] at h; cases h⟩
    rw [c_121] at hx; exact hx
theorem a_open (hZ : ShR Z) {key n : Nat} (hy : byR f t) (ht : t ≤ 96) (hAA : A ≤ 5332) (hd : d < 8) (hP : rdLv key n 0 (d + 1) u f t A mX12_either (7 * ((8 - (d + 1)) + (8 - u)) + 9) l G Z) {x : TK} {r : List TK} (hn : 8 * (r.length + 1) ≤ n) (hf : I q_tape = f) (hp : prS f t A d u L S (x :: r) (I qR)) (hL : L + (r.length + 1) ≤ 97) (h3 : x.1 = 3 ∧ x.2.1 = 40)
    (hq : ∀ J g', rdPost f t A d u L S (rdP key (n + 1) 5 d u (x :: r)) I J g g' → Q (some (.int (zb (rdP key (n + 1) 5 d u (x :: r)).1))) Z (va_up J q_s g')) : zX l G mX12_part0 (7 * ((8 - d) + (8 - u)) + 4) 0 0 165 [some (.ref qR), some (.int (nI key))] [] Z (va_up I q_s g) Q := by
  rw [rd_pO ⟨h3, hd⟩] at hq
  have h21 : I qR 21 = nI d := hp.2.1
  have hw2 : wgt 0 = 6 := rfl
  have hcl := rd_cl key n 0 (d + 1) u r
  refine x_ald0 (n := 166) dX12_part0_165 rfl ?_
  refine x_dup (n := 167) dX12_part0_166 rfl rfl ?_
  refine x_rget (n := 170) flX12_296 rfl dX12_part0_167 rfl hZ ?_
  rw [h21]
  refine x_ic1 (n := 171) dX12_part0_170 rfl ?_
  refine x_iaddN (n := 172) dX12_part0_171 rfl ?_
  refine x_rput (n := 175) flX12_296 rfl rfl rfl rfl dX12_part0_172 rfl hZ ?_
  refine x_ald0 (n := 176) dX12_part0_175 rfl ?_
  refine x_cV0 (n := 179) (d' := 2) zcX12_next mlX12_267 dX12_part0_176 rfl (rK hZ) (by omega) (Nat.le_of_ble_eq_true rfl) ?_
  have hp2 := prS_21 hp (d + 1)
  refine c_nextT (f := f) (t := t) (A := A) (d := d + 1) (u := u) (L := L) (S := S) (x := x) (r := r) hZ hf hy ht (by rw [va_up_same]; exact hp2) (by omega) (fun J hJ hJ2 hpJ => ?_)
  refine x_none ?_
  refine x_ald0 (n := 180) dX12_part0_179 rfl ?_
  refine x_ild1 (n := 181) dX12_part0_180 rfl ?_
  refine x_cV1 (n := 184) (d' := (7 * ((8 - (d + 1)) + (8 - u)) + 9)) zcX12_either mlX12_299 dX12_part0_181 rfl (rK hZ) (by omega) (Nat.le_of_ble_eq_true rfl) ?_
  refine hP r J g L S _ (by rw [hw2]; omega) ((hJ _ (by decide)).trans hf) hpJ (by omega) (fun K g1 hK => ?_)
  have hKI : ∀ q, q ≠ qR → K q = I q := fun q hq => by rw [hK.1 q hq, hJ q hq, va_up_off hq]
  have hKR : ∀ i, ¬ (16 ≤ i ∧ i ≤ 25) → K qR i = I qR i := fun i hi => by rw [hK.2.1 i hi, hJ2 i (by omega), va_up_same, upd_off (by omega)]
  have hsg := sgT hK.2.2.2.1 (c := 41) (by omega)
  have hbad : ¬ ((rdP key n 0 (d + 1) u r).1 = true ∧ isCl (rdP key n 0 (d + 1) u r).2.1 = true) → Q (some (.int (nI 0))) Z (va_up K q_s g1) := by
    intro hb
    rw [if_neg hb] at hq
    exact hq K g1 ⟨hKI, hKR, hK.2.2.1, hK.2.2.2.1, fun h => by cases h⟩
  refine x_some ?_
  refine x_zif_eq (n := 187) (tgt := 196) dX12_part0_184 rfl (by decide) (fun c_184 => ?_) (fun c_184 => ?_)
  · refine x_ic0 (n := 197) dX12_part0_196 rfl ?_
    refine r_zret dX12_part0_197 rfl (by first | exact nar0 | exact nar1 | exact zb_nar _) ?_
    refine hbad ?_
    rintro ⟨b1, b2⟩
    first | exact Bool.noConfusion (c_184.symm.trans b1) | exact Bool.noConfusion (c_193.symm.trans b2)
  · refine x_ald0 (n := 188) dX12_part0_187 rfl ?_
    refine x_bipush (n := 190) (v := nI 41) dX12_part0_188 rfl (by decide) ?_
    refine x_cV1 (n := 193) (d' := 0) zcX12_isSign mlX12_264 dX12_part0_190 rfl (rK hZ) (by omega) (Nat.le_of_ble_eq_true rfl) ?_
    refine c_X12_isSign hZ ?_
    rw [hsg]
    refine x_some ?_
    refine x_zif_ne (n := 196) (tgt := 198) dX12_part0_193 rfl (by decide) (fun c_193 => ?_) (fun c_193 => ?_)
    · refine x_ald0 (n := 199) dX12_part0_198 rfl ?_
      refine x_dup (n := 200) dX12_part0_199 rfl rfl ?_
      refine x_rget (n := 203) flX12_296 rfl dX12_part0_200 rfl hZ ?_
      have hpK := hK.2.2.2.2 c_184
      rw [if_pos ⟨c_184, c_193⟩] at hq
      rw [show K qR 21 = nI (d + 1) from hpK.2.1]
      refine x_ic1 (n := 204) dX12_part0_203 rfl ?_
      refine x_isubN (n := 205) dX12_part0_204 rfl (by omega) ?_
      refine x_rput (n := 208) flX12_296 rfl rfl rfl rfl dX12_part0_205 rfl hZ ?_
      refine x_ald0 (n := 209) dX12_part0_208 rfl ?_
      refine x_cV0 (n := 212) (d' := 2) zcX12_next mlX12_267 dX12_part0_209 rfl (rK hZ) (by omega) (Nat.le_of_ble_eq_true rfl) ?_
      have hp3 := prS_21 hpK d
      obtain ⟨y, r', hyr⟩ : ∃ y r', (rdP key n 0 (d + 1) u r).2.1 = y :: r' := by
        cases hrr : (rdP key n 0 (d + 1) u r).2.1 with
        | nil => rw [hrr] at c_193; cases c_193
        | cons y r' => exact ⟨y, r', rfl⟩
      rw [hyr] at hp3 c_193 hq
      have hy3 : y.1 = 3 ∧ y.2.1 = 41 := of_decide_eq_true c_193
      refine c_nextT (f := f) (t := t) (A := A) (d := d) (u := u) (L := L + (rdP key n 0 (d + 1) u r).2.2.1.length) (S := S + (rdP key n 0 (d + 1) u r).2.2.2) (x := y) (r := r') hZ ((hKI _ (by decide)).trans hf) hy ht (by rw [va_up_same]; exact hp3) (by omega) (fun M hM hM2 hpM => ?_)
      refine x_none ?_
      refine x_ic1 (n := 213) dX12_part0_212 rfl ?_
      refine r_zret dX12_part0_213 rfl (by first | exact nar0 | exact nar1 | exact zb_nar _) ?_
      refine hq M _ ⟨fun q hq => ?_, fun i hi => ?_, hK.2.2.1, hpM.2.2.2.2.2.2, fun _ => hpM⟩
      · rw [hM q hq, va_up_off hq, hKI q hq]
      · rw [hM2 i (by omega), va_up_same, upd_off (by omega), hKR i hi]
    · refine x_ic0 (n := 197) dX12_part0_196 rfl ?_
      refine r_zret dX12_part0_197 rfl (by first | exact nar0 | exact nar1 | exact zb_nar _) ?_
      refine hbad ?_
      rintro ⟨b1, b2⟩
      first | exact Bool.noConfusion (c_184.symm.trans b1) | exact Bool.noConfusion (c_193.symm.trans b2)
theorem e_X12_part0 (hZ : ShR Z) {key n : Nat} (hk4 : key < 4) (hy : byR f t) (ht : t ≤ 96) (hAA : A ≤ 5332) (hd : d ≤ 8) (hu : u ≤ 8) (hP : u < 8 → rdLv key n 5 d (u + 1) f t A mX12_part0 (7 * ((8 - d) + (8 - (u + 1))) + 4) l G Z) (hO : d < 8 → rdLv key n 0 (d + 1) u f t A mX12_either (7 * ((8 - (d + 1)) + (8 - u)) + 9) l G Z) : rdLv key (n + 1) 5 d u f t A mX12_part0 (7 * ((8 - d) + (8 - u)) + 4) l G Z := by
  intro ts I g L S Q hn hf hp hL hq
  refine x_entry [some (.ref qR), some (.int (nI key))] 0 rfl rfl (Nat.le_of_ble_eq_true rfl) ?_
  have hw : wgt 5 = 1 := rfl
  rw [hw] at hn
  have hcc := hp.2.2.2.2.2.2
  have hs33 := sgT hcc (c := 33) (by omega)
  have hs40 := sgT hcc (c := 40) (by omega)
  have h21 := hp.2.1
  have h22 := hp.2.2.1
  cases ts with
  | nil => exact absurd (curT_wf hcc) id
  | cons x r =>
    simp only [List.length_cons] at hn hL
    have hn0 : 8 * (r.length + 1) ≤ n := by omega
    obtain ⟨h18, hk⟩ : I qR 18 = nI x.1 ∧ x.1 ≤ 4 := by
      obtain ⟨k, v, b, r', p, n', e, c0, c1, c2, c3, c4, c5, c6, c7, c8, c9⟩ := hcc
      cases e
      exact ⟨c6, c7⟩
    have hS : ∀ c, sgB (x :: r) c = true → x.1 = 3 ∧ x.2.1 = c := fun c h => of_decide_eq_true h
    have hS2 : ∀ c, sgB (x :: r) c = false → ¬ (x.1 = 3 ∧ x.2.1 = c) := fun c h => of_decide_eq_false h
    have hno : x.1 ≠ 2 → ¬ (x.1 = 1 ∧ x.2.1 ≠ 0 ∧ isNm key (nI x.2.1) = true) → ¬ ((x.1 = 3 ∧ x.2.1 = 33) ∧ u < 8) → ¬ ((x.1 = 3 ∧ x.2.1 = 40) ∧ d < 8) → Q (some (.int (nI 0))) Z (va_up I q_s g) := by
      intro a1 a2 a3 a4
      rw [rd_pX a1 a2 a3 a4] at hq
      exact hq I g ⟨fun _ _ => rfl, fun _ _ => rfl, rfl, hcc, fun h => by cases h⟩
    have hrest : x.1 ≠ 2 → ¬ (x.1 = 1 ∧ x.2.1 ≠ 0 ∧ isNm key (nI x.2.1) = true) → zX l G mX12_part0 (7 * ((8 - d) + (8 - u)) + 4) 0 0 84 [some (.ref qR), some (.int (nI key))] [] Z (va_up I q_s g) Q := by
      intro a1 a2
      have hback : ¬ ((x.1 = 3 ∧ x.2.1 = 33) ∧ u < 8) → zX l G mX12_part0 (7 * ((8 - d) + (8 - u)) + 4) 0 0 145 [some (.ref qR), some (.int (nI key))] [] Z (va_up I q_s g) Q := by
        intro a3
        refine x_ald0 (n := 146) dX12_part0_145 rfl ?_
        refine x_bipush (n := 148) (v := nI 40) dX12_part0_146 rfl (by decide) ?_
        refine x_cV1 (n := 151) (d' := 0) zcX12_isSign mlX12_264 dX12_part0_148 rfl (rK hZ) (by omega) (Nat.le_of_ble_eq_true rfl) ?_
        refine c_X12_isSign hZ ?_
        rw [hs40]
        refine x_some ?_
        refine x_zif_eq (n := 154) (tgt := 163) dX12_part0_151 rfl (by decide) (fun c_151 => ?_) (fun c_151 => ?_)
        · refine x_ic0 (n := 164) dX12_part0_163 rfl ?_
          refine r_zret dX12_part0_164 rfl (by first | exact nar0 | exact nar1 | exact zb_nar _) ?_
          refine hno a1 a2 a3 ?_
          first | exact fun b => absurd b.1 (hS2 40 c_151) | exact fun b => absurd c_160 (by omega)
        · refine x_ald0 (n := 155) dX12_part0_154 rfl ?_
          refine x_rget (n := 158) flX12_296 rfl dX12_part0_155 rfl hZ ?_
          rw [h21]
          refine x_bipush (n := 160) (v := nI 8) dX12_part0_158 rfl (by decide) ?_
          refine x_icmpN_ne (n := 163) (tgt := 165) dX12_part0_160 rfl (by decide) (by omega) (by omega) (fun c_160 => ?_) (fun c_160 => ?_)
          · exact a_open hZ hy ht hAA (by omega) (hO (by omega)) hn0 hf hp hL (hS 40 c_151) hq
          · refine x_ic0 (n := 164) dX12_part0_163 rfl ?_
            refine r_zret dX12_part0_164 rfl (by first | exact nar0 | exact nar1 | exact zb_nar _) ?_
            refine hno a1 a2 a3 ?_
            first | exact fun b => absurd b.1 (hS2 40 c_151) | exact fun b => absurd c_160 (by omega)
      refine x_ald0 (n := 85) dX12_part0_84 rfl ?_
      refine x_bipush (n := 87) (v := nI 33) dX12_part0_85 rfl (by decide) ?_
      refine x_cV1 (n := 90) (d' := 0) zcX12_isSign mlX12_264 dX12_part0_87 rfl (rK hZ) (by omega) (Nat.le_of_ble_eq_true rfl) ?_
      refine c_X12_isSign hZ ?_
      rw [hs33]
      refine x_some ?_
      refine x_zif_eq (n := 93) (tgt := 145) dX12_part0_90 rfl (by decide) (fun c_90 => ?_) (fun c_90 => ?_)
      · refine hback ?_
        first | exact fun b => absurd b.1 (hS2 33 c_90) | exact fun b => absurd b.2 (by omega)
      · refine x_ald0 (n := 94) dX12_part0_93 rfl ?_
        refine x_rget (n := 97) flX12_293 rfl dX12_part0_94 rfl hZ ?_
        rw [h22]
        refine x_bipush (n := 99) (v := nI 8) dX12_part0_97 rfl (by decide) ?_
        refine x_icmpN_ge (n := 102) (tgt := 145) dX12_part0_99 rfl (by decide) (by omega) (by omega) (fun c_99 => ?_) (fun c_99 => ?_)
        · refine hback ?_
          first | exact fun b => absurd b.1 (hS2 33 c_90) | exact fun b => absurd b.2 (by omega)
        · exact a_not hZ hy ht hAA (by omega) (hP (by omega)) hn0 hf hp hL (hS 33 c_90) hq
    refine x_ald0 (n := 1) dX12_part0_0 rfl ?_
    refine x_rget (n := 4) flX12_229 rfl dX12_part0_1 rfl hZ ?_
    rw [h18]
    refine x_ic2 (n := 5) dX12_part0_4 rfl ?_
    refine x_icmpN_ne (n := 8) (tgt := 33) dX12_part0_5 rfl (by decide) (by omega) (by omega) (fun c_5 => ?_) (fun c_5 => ?_)
    · refine x_ald0 (n := 34) dX12_part0_33 rfl ?_
      refine x_rget (n := 37) flX12_229 rfl dX12_part0_34 rfl hZ ?_
      rw [h18]
      refine x_ic1 (n := 38) dX12_part0_37 rfl ?_
      refine x_icmpN_ne (n := 41) (tgt := 84) dX12_part0_38 rfl (by decide) (by omega) (by omega) (fun c_38 => ?_) (fun c_38 => ?_)
      · refine hrest (by omega) ?_
        first | exact (fun b => Bool.noConfusion (c_56.symm.trans b.2.2)) | exact (fun b => b.2.1 (h0.mp c_45)) | (intro b; omega)
      · refine x_ald0 (n := 42) dX12_part0_41 rfl ?_
        refine x_rget (n := 45) flX12_238 rfl dX12_part0_42 rfl hZ ?_
        have hx1 : x.1 = 1 := by omega
        obtain ⟨h20, hlt⟩ := letT hcc (Or.inl hx1)
        have h0 : nI x.2.1 = nI 0 ↔ x.2.1 = 0 := nI_eq (by omega) (by omega)
        rw [h20]
        refine x_if_eq (n := 48) (tgt := 84) dX12_part0_45 rfl (by decide) (fun c_45 => ?_) (fun c_45 => ?_)
        · refine hrest (by omega) ?_
          first | exact (fun b => Bool.noConfusion (c_56.symm.trans b.2.2)) | exact (fun b => b.2.1 (h0.mp c_45)) | (intro b; omega)
        · refine x_ild1 (n := 49) dX12_part0_48 rfl ?_
          refine x_ald0 (n := 50) dX12_part0_49 rfl ?_
          refine x_rget (n := 53) flX12_238 rfl dX12_part0_50 rfl hZ ?_
          rw [h20]
          refine x_cS2 (n := 56) (d' := 0) zcX12_isName mlX12_289 dX12_part0_53 rfl (by omega) (Nat.le_of_ble_eq_true rfl) ?_
          refine c_X12_isName hk4 ?_
          refine x_some ?_
          refine x_zif_eq (n := 59) (tgt := 84) dX12_part0_56 rfl (by decide) (fun c_56 => ?_) (fun c_56 => ?_)
          · refine hrest (by omega) ?_
            first | exact (fun b => Bool.noConfusion (c_56.symm.trans b.2.2)) | exact (fun b => b.2.1 (h0.mp c_45)) | (intro b; omega)
          · exact a_name hZ hy ht hAA (by omega) hf hp hL ⟨hx1, fun h => c_45 (h0.mpr h), c_56⟩ hq
    · exact a_num hZ hy ht hAA (by omega) hf hp hL (by omega) hq
/-- every level, by the tokens left -/
def rdAll (key n d u : Nat) (f : Nat → Int32) (t A : Nat) (l : Launch) (G : zG) (Z : zS) : Prop :=
  rdLv key n 0 d u f t A mX12_either (7 * ((8 - d) + (8 - u)) + 9) l G Z ∧ rdLv key n 1 d u f t A mX12_both (7 * ((8 - d) + (8 - u)) + 8) l G Z ∧ rdLv key n 2 d u f t A mX12_test (7 * ((8 - d) + (8 - u)) + 7) l G Z ∧ rdLv key n 3 d u f t A mX12_sum (7 * ((8 - d) + (8 - u)) + 6) l G Z ∧ rdLv key n 4 d u f t A mX12_term (7 * ((8 - d) + (8 - u)) + 5) l G Z ∧ rdLv key n 5 d u f t A mX12_part0 (7 * ((8 - d) + (8 - u)) + 4) l G Z ∧
  rdLp key n 6 d u f t A mX12_either [some (.ref qR), some (.int (nI key))] (7 * ((8 - d) + (8 - u)) + 9) l G Z ∧ rdLp key n 7 d u f t A mX12_both [some (.ref qR), some (.int (nI key))] (7 * ((8 - d) + (8 - u)) + 8) l G Z ∧ (∀ w, rdLp key n 8 d u f t A mX12_test [some (.ref qR), some (.int (nI key)), w] (7 * ((8 - d) + (8 - u)) + 7) l G Z) ∧ (∀ w, rdLp key n 9 d u f t A mX12_sum [some (.ref qR), some (.int (nI key)), w] (7 * ((8 - d) + (8 - u)) + 6) l G Z) ∧ (∀ w, rdLp key n 10 d u f t A mX12_term [some (.ref qR), some (.int (nI key)), w] (7 * ((8 - d) + (8 - u)) + 5) l G Z)
theorem rd_all (hZ : ShR Z) {key : Nat} (hk4 : key < 4) (hy : byR f t) (ht : t ≤ 96) (hAA : A ≤ 5332) : ∀ n d u, d ≤ 8 → u ≤ 8 → rdAll key n d u f t A l G Z := by
  intro n
  induction n with
  | zero =>
    intro d u _ _
    have h0 : ∀ m, 1 ≤ wgt m ∨ wgt m = 0 := fun m => by omega
    refine ⟨?_, ?_, ?_, ?_, ?_, ?_, ?_, ?_, ?_, ?_, ?_⟩
    · intro ts I g L S Q hn; exact absurd hn (by rw [show wgt 0 = 6 from rfl]; omega)
    · intro ts I g L S Q hn; exact absurd hn (by rw [show wgt 1 = 5 from rfl]; omega)
    · intro ts I g L S Q hn; exact absurd hn (by rw [show wgt 2 = 4 from rfl]; omega)
    · intro ts I g L S Q hn; exact absurd hn (by rw [show wgt 3 = 3 from rfl]; omega)
    · intro ts I g L S Q hn; exact absurd hn (by rw [show wgt 4 = 2 from rfl]; omega)
    · intro ts I g L S Q hn; exact absurd hn (by rw [show wgt 5 = 1 from rfl]; omega)
    · intro ts I g L S Q hn; exact absurd hn (by rw [show wgt 6 = 1 from rfl]; omega)
    · intro ts I g L S Q hn; exact absurd hn (by rw [show wgt 7 = 1 from rfl]; omega)
    · intro w ts I g L S Q hn; exact absurd hn (by rw [show wgt 8 = 1 from rfl]; omega)
    · intro w ts I g L S Q hn; exact absurd hn (by rw [show wgt 9 = 1 from rfl]; omega)
    · intro w ts I g L S Q hn; exact absurd hn (by rw [show wgt 10 = 1 from rfl]; omega)
  | succ n ih =>
    intro d u hd hu
    obtain ⟨i0, i1, i2, i3, i4, i5, i6, i7, i8, i9, i10⟩ := ih d u hd hu
    exact ⟨e_X12_either hZ i1 i6, e_X12_both hZ i2 i7, e_X12_test hZ i3 (i8 none), e_X12_sum hZ i4 (i9 none), e_X12_term hZ i5 (i10 none), e_X12_part0 hZ hk4 hy ht hAA hd hu (fun h => (ih d (u + 1) hd h).2.2.2.2.2.1) (fun h => (ih (d + 1) u h hu).1),
      o_X12_either hZ hy ht hAA i1 i6, o_X12_both hZ hy ht hAA i2 i7, o_X12_test hZ hy ht hAA i3, o_X12_sum hZ hy ht hAA i4 i9, o_X12_term hZ hy ht hAA i5 i10⟩
/-- the reference's either, from the outset -/
theorem c_X12_either (hZ : ShR Z) {key : Nat} (hk4 : key < 4) (hy : byR f t) (ht : t ≤ 96) (hAA : A ≤ 5332) (hf : I q_tape = f) (hp : prS f t A 0 0 L S ts (I qR)) (hL : L + ts.length ≤ 97) (n : Nat) (hn : 8 * ts.length + 6 ≤ n)
    (hq : ∀ J g', rdPost f t A 0 0 L S (rdP key n 0 0 0 ts) I J g g' → Q (some (.int (zb (rdP key n 0 0 0 ts).1))) Z (va_up J q_s g')) : zM l G mX12_either 121 0 0 [.ref qR, .int (nI key)] Z (va_up I q_s g) Q :=
  (rd_all hZ hk4 hy ht hAA n 0 0 (by omega) (by omega)).1 ts I g L S Q (by rw [show wgt 0 = 6 from rfl]; exact hn) hf hp hL hq
end
