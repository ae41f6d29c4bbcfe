/-! ===== the constructor of LineMaking ===== -/
def FM (Z : zS) (n : Nat) (ks : List (Nat × Nat)) (ps as : List (Nat × Nat × Nat)) (ms : List Nat) : Prop :=
  Z.1 = n ∧ (∀ q ∈ ks, zk Z q.1 q.2) ∧ (∀ q ∈ ps, q.1 < n ∧ Z.2.2.2 q.1 q.2.1 = some q.2.2) ∧ (∀ q ∈ as, za Z q.1 q.2.1 q.2.2) ∧ ∀ m ∈ ms, m + 81 ≤ n ∧ ShM Z m
section
variable {l : Launch} {G : zG} {md : zD} {d ac as' pc m : Nat} {ls : List (Option Value)} {st : List Value} {Z Z' : zS} {I : zI} {Q : Option Value → zS → zI → Prop} {n b : Nat} {ks ks' : List (Nat × Nat)} {ps ps' as : List (Nat × Nat × Nat)} {as2 : List (Nat × Nat × Nat)} {ms : List Nat}
/-- below b nothing has changed -/
def ZB (b : Nat) (Z Z' : zS) : Prop := b ≤ Z'.1 ∧ ∀ a, a < b → Z'.2.1 a = Z.2.1 a ∧ Z'.2.2.1 a = Z.2.2.1 a ∧ Z'.2.2.2 a = Z.2.2.2 a
theorem ZB_X (h : ZX Z Z') : ZB Z.1 Z Z' := h
theorem zk_ZB (h : ZB b Z Z') {a c : Nat} (ha : a < b) (hk : zk Z a c) : zk Z' a c := ⟨Nat.lt_of_lt_of_le ha h.1, (h.2 a ha).1.trans hk.2⟩
theorem za_ZB (h : ZB b Z Z') {a c N : Nat} (ha : a < b) (hk : za Z a c N) : za Z' a c N := ⟨Nat.lt_of_lt_of_le ha h.1, (h.2 a ha).1.trans hk.2.1, (h.2 a ha).2.1.trans hk.2.2⟩
theorem zr_ZB (h : ZB b Z Z') {a k : Nat} {r : Option Nat} (ha : a < b) (hk : Z.2.2.2 a k = r) : Z'.2.2.2 a k = r := by rw [(h.2 a ha).2.2]; exact hk
theorem mKs_b : ∀ q ∈ mKs, q.1 ≤ 80 := by decide
theorem mAs_b : ∀ q ∈ mAs, q.1 ≤ 80 := by decide
theorem ShM_ZB (h : ZB b Z Z') {mk : Nat} (hm : mk + 81 ≤ b) (hM : ShM Z mk) : ShM Z' mk :=
  ⟨fun q hq => zk_ZB h (by have := mKs_b q hq; omega) (hM.1 q hq), fun q hq => zr_ZB h (by have := mPs_b q hq; omega) (hM.2.1 q hq), fun q hq => za_ZB h (by have := mAs_b q hq; omega) (hM.2.2.1 q hq), fun w hw => ⟨zr_ZB h (by omega) (hM.2.2.2 w hw).1, zk_ZB h (by omega) (hM.2.2.2 w hw).2.1, zr_ZB h (by omega) (hM.2.2.2 w hw).2.2.1, za_ZB h (by omega) (hM.2.2.2 w hw).2.2.2⟩⟩
theorem FM_B (h : FM Z n ks ps as ms) (hB : ZB b Z Z') (hn : b ≤ n) (h1 : ∀ q ∈ ks, q.1 < b) (h2 : ∀ q ∈ ps, q.1 < b) (h3 : ∀ q ∈ as, q.1 < b) (h4 : ∀ m ∈ ms, m + 81 ≤ b) : FM Z' Z'.1 ks ps as ms :=
  ⟨rfl, fun q hq => zk_ZB hB (h1 q hq) (h.2.1 q hq), fun q hq => ⟨Nat.lt_of_lt_of_le (h2 q hq) hB.1, zr_ZB hB (h2 q hq) (h.2.2.1 q hq).2⟩, fun q hq => za_ZB hB (h3 q hq) (h.2.2.2.1 q hq), fun m hm => ⟨Nat.le_trans (h4 m hm) hB.1, ShM_ZB hB (h4 m hm) (h.2.2.2.2 m hm).2⟩⟩
theorem FM_X (h : FM Z n ks ps as ms) (hX : ZX Z Z') : FM Z' Z'.1 ks ps as ms :=
  FM_B (b := n) h (by rw [← h.1]; exact hX) (Nat.le_refl _) (fun q hq => by rw [← h.1]; exact (h.2.1 q hq).1) (fun q hq => (h.2.2.1 q hq).1) (fun q hq => by rw [← h.1]; exact (h.2.2.2.1 q hq).1) (fun m hm => (h.2.2.2.2 m hm).1)
theorem FM_k (h : FM Z n ks ps as ms) {p c : Nat} (hk : zk Z p c) : FM Z n (ks ++ [(p, c)]) ps as ms := ⟨h.1, fun q hq => by
  rcases List.mem_append.mp hq with hq | hq
  · exact h.2.1 q hq
  · rw [List.mem_singleton] at hq; subst hq; exact hk, h.2.2⟩
theorem FM_a (h : FM Z n ks ps as ms) {p c N : Nat} (hk : za Z p c N) : FM Z n ks ps (as ++ [(p, c, N)]) ms := ⟨h.1, h.2.1, h.2.2.1, fun q hq => by
  rcases List.mem_append.mp hq with hq | hq
  · exact h.2.2.2.1 q hq
  · rw [List.mem_singleton] at hq; subst hq; exact hk, h.2.2.2.2⟩
theorem FM_r (h : FM Z n ks ps as ms) {p k c : Nat} (hp : p < n) (hk : Z.2.2.2 p k = some c) : FM Z n ks (ps ++ [(p, k, c)]) as ms := ⟨h.1, h.2.1, fun q hq => by
  rcases List.mem_append.mp hq with hq | hq
  · exact h.2.2.1 q hq
  · rw [List.mem_singleton] at hq; subst hq; exact ⟨hp, hk⟩, h.2.2.2⟩
theorem FM_m (h : FM Z n ks ps as ms) {mk : Nat} (hp : mk + 81 ≤ n) (hk : ShM Z mk) : FM Z n ks ps as (ms ++ [mk]) := ⟨h.1, h.2.1, h.2.2.1, h.2.2.2.1, fun q hq => by
  rcases List.mem_append.mp hq with hq | hq
  · exact h.2.2.2.2 q hq
  · rw [List.mem_singleton] at hq; subst hq; exact ⟨hp, hk⟩⟩
theorem FM_s (h : FM Z n ks ps as ms) (h1 : ∀ q ∈ ks', q ∈ ks) : FM Z n ks' ps as ms := ⟨h.1, fun q hq => h.2.1 q (h1 q hq), h.2.2⟩
/-- a reference is stored at p, which is of no Making -/
theorem FM_P (h : FM Z n ks ps as ms) {p k c : Nat} (hp : p < n) (hps : ∀ q ∈ ps, ¬ (q.1 = p ∧ q.2.1 = k)) (hms : ∀ m ∈ ms, p < m ∨ m + 81 ≤ p) : FM (Z.1, Z.2.1, Z.2.2.1, va_up Z.2.2.2 p (va_up (Z.2.2.2 p) k (some c))) n ks (ps ++ [(p, k, c)]) as ms := by
  obtain ⟨h1, h2, h3, h4, h5⟩ := h
  refine ⟨h1, h2, fun q hq => ?_, h4, fun m hm => ⟨(h5 m hm).1, ?_⟩⟩
  · rcases List.mem_append.mp hq with hq | hq
    · refine ⟨(h3 q hq).1, ?_⟩
      show va_up Z.2.2.2 p _ q.1 q.2.1 = _
      have h9 := hps q hq
      by_cases e : q.1 = p
      · rw [e, va_up_same, va_up_off (fun e2 => h9 ⟨e, e2⟩), ← e]; exact (h3 q hq).2
      · rw [va_up_off e]; exact (h3 q hq).2
    · rw [List.mem_singleton] at hq
      subst hq
      refine ⟨hp, ?_⟩
      show va_up Z.2.2.2 p _ p k = _
      rw [va_up_same, va_up_same]
  · obtain ⟨a1, a2, a3, a4⟩ := (h5 m hm).2
    have hd := hms m hm
    have ho : ∀ a, m ≤ a → a < m + 81 → va_up Z.2.2.2 p (va_up (Z.2.2.2 p) k (some c)) a = Z.2.2.2 a := fun a b1 b2 => va_up_off (by omega)
    refine ⟨a1, fun q hq => ?_, a3, fun w hw => ⟨?_, (a4 w hw).2.1, ?_, (a4 w hw).2.2.2⟩⟩
    · have := mPs_b q hq
      show va_up Z.2.2.2 p _ (m + q.1) q.2.1 = _
      rw [ho _ (by omega) (by omega)]; exact a2 q hq
    · show va_up Z.2.2.2 p _ (m + 11) w = _
      rw [ho _ (by omega) (by omega)]; exact (a4 w hw).1
    · show va_up Z.2.2.2 p _ (m + 15 + 2 * w) 7 = _
      rw [ho _ (by omega) (by omega)]; exact (a4 w hw).2.2.1
theorem znI_n (hz : ∀ a, n ≤ a → I a = fun _ => 0) (h1 : Z.1 = n) : znI Z I = I := by
  unfold znI
  exact va_id (hz _ (by omega))
theorem u_new {ci idx : Nat} (h : FM Z n ks ps as ms) (hz : ∀ a, n ≤ a → I a = fun _ => 0) (hd : decode md.2.1 pc = .ok (.new idx, 3)) (hn : pc + 3 = m) (hci : ci < 13) (hcl : Cond.classLink md.1.cls idx (zCn ci) ∈ zT) (hins : Cond.instantiable (zCn ci) (zN ci) ∈ zT) (hini : Cond.initialized (zCn ci) ∈ zT) (hm : n < 900000) (hac : 1 ≤ ac) (has : zN ci ≤ as') (kk : ∀ Z', FM Z' (n + 1) ks ps as ms → zk Z' n ci → zX l G md d (ac - 1) (as' - zN ci) m ls (.ref n :: st) Z' I Q) : zX l G md d ac as' pc ls st Z I Q := by
  refine x_new (ci := ci) hd hn hci hcl hins hini (by rw [h.1]; exact hm) hac has ?_
  rw [znI_n hz h.1, h.1]
  have h9 := FM_X h (ZX_O (Z := Z) ci)
  rw [show (znO Z ci).1 = n + 1 by show Z.1 + 1 = _; rw [h.1]] at h9
  exact kk _ h9 ⟨by show n < Z.1 + 1; rw [h.1]; omega, by show va_up Z.2.1 Z.1 ci n = ci; rw [h.1, va_up_same]⟩
theorem u_newI {N : Nat} (h : FM Z n ks ps as ms) (hz : ∀ a, n ≤ a → I a = fun _ => 0) (hd : decode md.2.1 pc = .ok (.newarray .int, 2)) (hn : pc + 2 = m) (hN : N ≤ 100000) (hm : n < 900000) (hac : 1 ≤ ac) (has : N ≤ as') (kk : ∀ Z', FM Z' (n + 1) ks ps (as ++ [(n, 13, N)]) ms → zX l G md d (ac - 1) (as' - N) m ls (.ref n :: st) Z' I Q) : zX l G md d ac as' pc ls (.int (nI N) :: st) Z I Q := by
  refine x_newI (N := N) hd hn zaI (nI_pos (by omega)) (nI_clamp (by omega)) hN (by rw [h.1]; exact hm) hac has ?_
  rw [znI_n hz h.1, h.1]
  have h9 := FM_X h (ZX_A (Z := Z) 13 N)
  rw [show (znA Z 13 N).1 = n + 1 by show Z.1 + 1 = _; rw [h.1]] at h9
  exact kk _ (FM_a h9 ⟨by show n < Z.1 + 1; rw [h.1]; omega, by show va_up Z.2.1 Z.1 13 n = 13; rw [h.1, va_up_same], by show va_up Z.2.2.1 Z.1 N n = N; rw [h.1, va_up_same]⟩)
theorem u_newA {N ci idx : Nat} (h : FM Z n ks ps as ms) (hz : ∀ a, n ≤ a → I a = fun _ => 0) (hd : decode md.2.1 pc = .ok (.anewarray idx, 3)) (hn : pc + 3 = m) (hci : 15 ≤ ci ∧ ci < 18) (hcl : Cond.classLink md.1.cls idx (ztyn ci) ∈ zT) (hN : N ≤ 100000) (hm : n < 900000) (hac : 1 ≤ ac) (has : N ≤ as') (kk : ∀ Z', FM Z' (n + 1) ks ps (as ++ [(n, ci, N)]) ms → zX l G md d (ac - 1) (as' - N) m ls (.ref n :: st) Z' I Q) : zX l G md d ac as' pc ls (.int (nI N) :: st) Z I Q := by
  refine x_newA (N := N) hd hn hci hcl (nI_pos (by omega)) (nI_clamp (by omega)) hN (by rw [h.1]; exact hm) hac has ?_
  rw [znI_n hz h.1, h.1]
  have h9 := FM_X h (ZX_A (Z := Z) ci N)
  rw [show (znA Z ci N).1 = n + 1 by show Z.1 + 1 = _; rw [h.1]] at h9
  exact kk _ (FM_a h9 ⟨by show n < Z.1 + 1; rw [h.1]; omega, by show va_up Z.2.1 Z.1 ci n = ci; rw [h.1, va_up_same], by show va_up Z.2.2.1 Z.1 N n = N; rw [h.1, va_up_same]⟩)
theorem u_put {p c ci k idx : Nat} (h : FM Z n ks ps as ms) (hf : zFl md.1.cls idx ci k) (hi : zint (zft ci k) = false) (hfin : (zTT ci k).2.2.2 = false ∨ (md.1.name = "<init>" ∧ (zTT ci k).1 = md.1.cls)) (hty : ∀ q, narrow (zft ci k) (va_rf q) = va_rf q ∧ fits (zft ci k) (va_rf q) = true) (hd : decode md.2.1 pc = .ok (.putfield idx, 3)) (hn : pc + 3 = m) (hk : (p, ci) ∈ ks) (hp : p < n) (hps : ∀ q ∈ ps, ¬ (q.1 = p ∧ q.2.1 = k)) (hms : ∀ m ∈ ms, p < m ∨ m + 81 ≤ p) (kk : ∀ Z', FM Z' n ks (ps ++ [(p, k, c)]) as ms → zX l G md d ac as' m ls st Z' I Q) : zX l G md d ac as' pc ls (.ref c :: .ref p :: st) Z I Q :=
  x_putR hf hi hfin hty hd hn (h.2.1 (p, ci) hk) (kk _ (FM_P h hp hps hms))
theorem u_fl {p ci : Nat} (h : FM Z n ks ps as ms) (hn : n = p + 1) (hk : zk Z p ci) : FL Z Z p 1 [(0, ci)] [] [] 0 := ⟨by rw [h.1, hn], fun a ha => ⟨rfl, rfl, rfl⟩, fun q hq => by rw [List.mem_singleton] at hq; subst hq; exact hk, fun q hq => absurd hq List.not_mem_nil, fun q hq => absurd hq List.not_mem_nil, fun w hw => absurd hw (Nat.not_lt_zero _)⟩
end

/-- the ints of a new LineMaking -/
def LiI (J : zI) : Prop := (∀ a, ¬ (2 ≤ a ∧ a < 7) → ¬ (83 ≤ a ∧ a < 88) → ¬ (164 ≤ a ∧ a < 169) → ¬ (249 ≤ a ∧ a < 257) → J a = fun _ => 0) ∧ (J 2 0 = nI 8 ∧ J 2 4 = nI 0) ∧ (∀ c, c < 24 → J 3 c = nI 50 ∧ J 4 c = nI 50 ∧ J 5 c = nI 0) ∧ (∀ k, k < 6 → J 6 k = nI (gRul.getD k 0)) ∧ ∀ v, v < 4 → J (249 + 2 * v) 0 = -1 ∧ J (249 + 2 * v) 1 = 0 ∧ J (249 + 2 * v + 1) = fun _ => 0
theorem FM_L {Z : zS} {n : Nat} {ks : List (Nat × Nat)} {ps as : List (Nat × Nat × Nat)} {ms : List Nat} (h : FM Z n ks ps as ms) (k0 : ∀ q ∈ [(0, 11), (244, 6), (249, 5), (251, 5), (253, 5), (255, 5)], q ∈ ks := by decide) (p0 : ∀ q ∈ lPs ++ [(248, 0, 249), (248, 1, 251), (248, 2, 253), (248, 3, 255), (249, 2, 250), (251, 2, 252), (253, 2, 254), (255, 2, 256)], q ∈ ps := by decide) (a0 : ∀ q ∈ lAs ++ [(250, 13, 24), (252, 13, 24), (254, 13, 24), (256, 13, 24)], q ∈ as := by decide) (m0 : ∀ m ∈ [1, 82, 163], m ∈ ms := by decide) : ShL Z := by
  obtain ⟨h1, h2, h3, h4, h5⟩ := h
  refine ⟨⟨h2 _ (k0 (0, 11) (by decide)), h2 _ (k0 (244, 6) (by decide))⟩, fun q hq => (h3 q (p0 q (List.mem_append_left _ hq))).2, fun q hq => h4 q (a0 q (List.mem_append_left _ hq)), fun v hv => ?_, (h5 1 (m0 1 (by decide))).2, (h5 82 (m0 82 (by decide))).2, (h5 163 (m0 163 (by decide))).2⟩
  rcases (by omega : v = 0 ∨ v = 1 ∨ v = 2 ∨ v = 3) with rfl | rfl | rfl | rfl
  · exact ⟨(h3 _ (p0 (248, 0, 249) (by decide))).2, h2 _ (k0 (249, 5) (by decide)), (h3 _ (p0 (249, 2, 250) (by decide))).2, h4 _ (a0 (250, 13, 24) (by decide))⟩
  · exact ⟨(h3 _ (p0 (248, 1, 251) (by decide))).2, h2 _ (k0 (251, 5) (by decide)), (h3 _ (p0 (251, 2, 252) (by decide))).2, h4 _ (a0 (252, 13, 24) (by decide))⟩
  · exact ⟨(h3 _ (p0 (248, 2, 253) (by decide))).2, h2 _ (k0 (253, 5) (by decide)), (h3 _ (p0 (253, 2, 254) (by decide))).2, h4 _ (a0 (254, 13, 24) (by decide))⟩
  · exact ⟨(h3 _ (p0 (248, 3, 255) (by decide))).2, h2 _ (k0 (255, 5) (by decide)), (h3 _ (p0 (255, 2, 256) (by decide))).2, h4 _ (a0 (256, 13, 24) (by decide))⟩
theorem LiI_of {J1 J2 J3 S1 S2 S3 S4 : zI} (h1 : MkI (fun _ _ => 0) J1 1) (h2 : MkI J1 J2 82) (h3 : MkI J2 J3 163) (s1 : va_up J3 (249 + 0) (upd (J3 (249 + 0)) 0 (-1)) = S1) (s2 : va_up S1 (251 + 0) (upd (S1 (251 + 0)) 0 (-1)) = S2) (s3 : va_up S2 (253 + 0) (upd (S2 (253 + 0)) 0 (-1)) = S3) (s4 : va_up S3 (255 + 0) (upd (S3 (255 + 0)) 0 (-1)) = S4) : LiI (va_up (va_up S4 0 (upd (S4 0) 6 (nI 0))) 0 (upd (va_up S4 0 (upd (S4 0) 6 (nI 0)) 0) 7 (nI 0))) := by
  have f : ∀ a, a ≠ 249 → a ≠ 251 → a ≠ 253 → a ≠ 255 → S4 a = J3 a := fun a a1 a2 a3 a4 => by
    rw [← s4, va_up_off a4, ← s3, va_up_off a3, ← s2, va_up_off a2, ← s1, va_up_off a1]
  have z : ∀ a, ¬ (2 ≤ a ∧ a < 7) → ¬ (83 ≤ a ∧ a < 88) → ¬ (164 ≤ a ∧ a < 169) → J3 a = fun _ => 0 := fun a a1 a2 a3 => by
    rw [h3.1 a (by omega), h2.1 a (by omega), h1.1 a (by omega)]
  have g : ∀ a, 2 ≤ a → a < 7 → S4 a = J1 a := fun a a1 a2 => by
    rw [f a (by omega) (by omega) (by omega) (by omega), h3.1 a (by omega), h2.1 a (by omega)]
  have w : ∀ a, a ≠ 0 → va_up (va_up S4 0 (upd (S4 0) 6 (nI 0))) 0 (upd (va_up S4 0 (upd (S4 0) 6 (nI 0)) 0) 7 (nI 0)) a = S4 a := fun a ha => by rw [va_up_off ha, va_up_off ha]
  refine ⟨fun a a1 a2 a3 a4 => ?_, ⟨?_, ?_⟩, fun c hc => ?_, fun k hk => ?_, fun v hv => ?_⟩
  · by_cases e : a = 0
    · subst e
      rw [va_up_same, va_up_same, f 0 (by omega) (by omega) (by omega) (by omega), z 0 (by omega) (by omega) (by omega)]
      funext j
      by_cases e7 : j = 7
      · subst e7; rw [upd_same]; rfl
      · rw [upd_off e7]
        by_cases e6 : j = 6
        · subst e6; rw [upd_same]; rfl
        · rw [upd_off e6]
    · rw [w a e, f a (by omega) (by omega) (by omega) (by omega)]; exact z a a1 a2 a3
  · rw [w 2 (by omega), g 2 (by omega) (by omega), show J1 2 = _ from h1.2.1, upd_off (by decide), upd_same]
  · rw [w 2 (by omega), g 2 (by omega) (by omega), show J1 2 = _ from h1.2.1, upd_same]
  · rw [w 3 (by omega), w 4 (by omega), w 5 (by omega), g 3 (by omega) (by omega), g 4 (by omega) (by omega), g 5 (by omega) (by omega)]; exact h1.2.2.1 c hc
  · rw [w 6 (by omega), g 6 (by omega) (by omega)]; exact h1.2.2.2 k hk
  · have z0 : ∀ a, 249 ≤ a → J3 a = fun _ => 0 := fun a ha => z a (by omega) (by omega) (by omega)
    rcases (by omega : v = 0 ∨ v = 1 ∨ v = 2 ∨ v = 3) with rfl | rfl | rfl | rfl
    · have e : S4 249 = upd (J3 249) 0 (-1) := by rw [← s4, va_up_off (by decide), ← s3, va_up_off (by decide), ← s2, va_up_off (by decide), ← s1, va_up_same]
      refine ⟨?_, ?_, ?_⟩
      · exact (congrFun (w 249 (by omega)) 0).trans (by rw [e, upd_same])
      · exact (congrFun (w 249 (by omega)) 1).trans (by rw [e, upd_off (by decide), z0 249 (by omega)])
      · exact (w 250 (by omega)).trans (by rw [f 250 (by omega) (by omega) (by omega) (by omega)]; exact z0 250 (by omega))
    · have e : S4 251 = upd (J3 251) 0 (-1) := by rw [← s4, va_up_off (by decide), ← s3, va_up_off (by decide), ← s2, va_up_same, ← s1, va_up_off (by decide)]
      refine ⟨?_, ?_, ?_⟩
      · exact (congrFun (w 251 (by omega)) 0).trans (by rw [e, upd_same])
      · exact (congrFun (w 251 (by omega)) 1).trans (by rw [e, upd_off (by decide), z0 251 (by omega)])
      · exact (w 252 (by omega)).trans (by rw [f 252 (by omega) (by omega) (by omega) (by omega)]; exact z0 252 (by omega))
    · have e : S4 253 = upd (J3 253) 0 (-1) := by rw [← s4, va_up_off (by decide), ← s3, va_up_same, ← s2, va_up_off (by decide), ← s1, va_up_off (by decide)]
      refine ⟨?_, ?_, ?_⟩
      · exact (congrFun (w 253 (by omega)) 0).trans (by rw [e, upd_same])
      · exact (congrFun (w 253 (by omega)) 1).trans (by rw [e, upd_off (by decide), z0 253 (by omega)])
      · exact (w 254 (by omega)).trans (by rw [f 254 (by omega) (by omega) (by omega) (by omega)]; exact z0 254 (by omega))
    · have e : S4 255 = upd (J3 255) 0 (-1) := by rw [← s4, va_up_same, ← s3, va_up_off (by decide), ← s2, va_up_off (by decide), ← s1, va_up_off (by decide)]
      refine ⟨?_, ?_, ?_⟩
      · exact (congrFun (w 255 (by omega)) 0).trans (by rw [e, upd_same])
      · exact (congrFun (w 255 (by omega)) 1).trans (by rw [e, upd_off (by decide), z0 255 (by omega)])
      · exact (w 256 (by omega)).trans (by rw [f 256 (by omega) (by omega) (by omega) (by omega)]; exact z0 256 (by omega))
section
variable {l : Launch} {G : zG} {Z : zS} {I : zI} {Q : Option Value → zS → zI → Prop}
theorem m_X11_init (h : FM Z 1 [(0, 11)] [] [] []) (hI : I = fun _ _ => 0) (hq : ∀ Z' J, Z'.1 = 258 → ShL Z' → LiI J → Q none Z' J) : zM l G mX11_init 5 257 16700 [.ref 0] Z I Q := by
  refine x_entry [some (.ref 0), none] 1 rfl rfl (Nat.le_of_ble_eq_true rfl) ?_
  have hz : ∀ a, 1 ≤ a → I a = fun _ => 0 := fun a _ => by rw [hI]
  refine x_ald0 (n := 1) dX11_init_0 rfl ?_
  refine x_objI (n := 4) dX11_init_1 rfl mlX11_1 zoI zoC (by decide) (Nat.le_of_ble_eq_true rfl) ?_
  refine x_ald0 (n := 5) dX11_init_4 rfl ?_
  refine u_new (ci := 2) (n := 1) (m := 8) h (fun a ha => hz a (by omega)) dX11_init_5 rfl (by decide) ckX11_7 iiX2 zi_X2 (by decide) (by decide) (by decide) (fun Zh5_1 h5_1 kh5_1 => ?_)
  refine x_dup (n := 9) dX11_init_8 rfl rfl ?_
  refine x_gJ0 (n := 12) (mc := 80) (ms := 5390) (d' := 4) zcX2_init mnX11_9 dX11_init_9 rfl (Nat.le_of_ble_eq_true rfl) (by decide) (by decide) (Nat.le_of_ble_eq_true rfl) ?_
  refine m_X2_init (u_fl h5_1 rfl kh5_1) (fun a ha => hz a (by omega)) (by decide) (fun Zg9_2 J2 g9_2 ig9_2 => ?_)
  have bg9_2 := FM_m (FM_B (b := 1) h5_1 ⟨by rw [g9_2.1]; decide, g9_2.2.1⟩ (by decide) (by decide) (by decide) (by decide) (by decide)) (mk := 1) (by rw [g9_2.1]; exact Nat.le_refl _) g9_2.2.2
  rw [g9_2.1] at bg9_2
  have hz82 : ∀ a, 82 ≤ a → J2 a = fun _ => 0 := fun a ha => by rw [ig9_2.1 a (by omega)]; exact hz a (by omega)
  refine x_none ?_
  refine u_put (p := 0) (c := 1) (k := 0) (m := 15) bg9_2 flX11_10 rfl (Or.inr ⟨rfl, rfl⟩) (fun q => by cases q <;> exact ⟨rfl, rfl⟩) dX11_init_12 rfl (by decide) (by decide) (by decide) (by decide) (fun Zp12_82 p12_82 => ?_)
  refine x_ald0 (n := 16) dX11_init_15 rfl ?_
  refine u_new (ci := 2) (n := 82) (m := 19) p12_82 (fun a ha => hz82 a (by omega)) dX11_init_16 rfl (by decide) ckX11_7 iiX2 zi_X2 (by decide) (by decide) (by decide) (fun Zh16_82 h16_82 kh16_82 => ?_)
  refine x_dup (n := 20) dX11_init_19 rfl rfl ?_
  refine x_gJ0 (n := 23) (mc := 80) (ms := 5390) (d' := 4) zcX2_init mnX11_9 dX11_init_20 rfl (Nat.le_of_ble_eq_true rfl) (by decide) (by decide) (Nat.le_of_ble_eq_true rfl) ?_
  refine m_X2_init (u_fl h16_82 rfl kh16_82) (fun a ha => hz82 a (by omega)) (by decide) (fun Zg20_83 J83 g20_83 ig20_83 => ?_)
  have bg20_83 := FM_m (FM_B (b := 82) h16_82 ⟨by rw [g20_83.1]; decide, g20_83.2.1⟩ (by decide) (by decide) (by decide) (by decide) (by decide)) (mk := 82) (by rw [g20_83.1]; exact Nat.le_refl _) g20_83.2.2
  rw [g20_83.1] at bg20_83
  have hz163 : ∀ a, 163 ≤ a → J83 a = fun _ => 0 := fun a ha => by rw [ig20_83.1 a (by omega)]; exact hz82 a (by omega)
  refine x_none ?_
  refine u_put (p := 0) (c := 82) (k := 1) (m := 26) bg20_83 flX11_16 rfl (Or.inr ⟨rfl, rfl⟩) (fun q => by cases q <;> exact ⟨rfl, rfl⟩) dX11_init_23 rfl (by decide) (by decide) (by decide) (by decide) (fun Zp23_163 p23_163 => ?_)
  refine x_ald0 (n := 27) dX11_init_26 rfl ?_
  refine u_new (ci := 2) (n := 163) (m := 30) p23_163 (fun a ha => hz163 a (by omega)) dX11_init_27 rfl (by decide) ckX11_7 iiX2 zi_X2 (by decide) (by decide) (by decide) (fun Zh27_163 h27_163 kh27_163 => ?_)
  refine x_dup (n := 31) dX11_init_30 rfl rfl ?_
  refine x_gJ0 (n := 34) (mc := 80) (ms := 5390) (d' := 4) zcX2_init mnX11_9 dX11_init_31 rfl (Nat.le_of_ble_eq_true rfl) (by decide) (by decide) (Nat.le_of_ble_eq_true rfl) ?_
  refine m_X2_init (u_fl h27_163 rfl kh27_163) (fun a ha => hz163 a (by omega)) (by decide) (fun Zg31_164 J164 g31_164 ig31_164 => ?_)
  have bg31_164 := FM_m (FM_B (b := 163) h27_163 ⟨by rw [g31_164.1]; decide, g31_164.2.1⟩ (by decide) (by decide) (by decide) (by decide) (by decide)) (mk := 163) (by rw [g31_164.1]; exact Nat.le_refl _) g31_164.2.2
  rw [g31_164.1] at bg31_164
  have hz244 : ∀ a, 244 ≤ a → J164 a = fun _ => 0 := fun a ha => by rw [ig31_164.1 a (by omega)]; exact hz163 a (by omega)
  refine x_none ?_
  refine u_put (p := 0) (c := 163) (k := 2) (m := 37) bg31_164 flX11_19 rfl (Or.inr ⟨rfl, rfl⟩) (fun q => by cases q <;> exact ⟨rfl, rfl⟩) dX11_init_34 rfl (by decide) (by decide) (by decide) (by decide) (fun Zp34_244 p34_244 => ?_)
  refine x_ald0 (n := 38) dX11_init_37 rfl ?_
  refine u_new (ci := 6) (n := 244) (m := 41) p34_244 (fun a ha => hz244 a (by omega)) dX11_init_38 rfl (by decide) ckX11_22 iiX6 zi_X6 (by decide) (by decide) (by decide) (fun Zh38_244 h38_244 kh38_244 => ?_)
  refine x_dup (n := 42) dX11_init_41 rfl rfl ?_
  refine x_gJ0 (n := 45) (mc := 3) (ms := 288) (d' := 1) zcX6_init mnX11_24 dX11_init_42 rfl (Nat.le_of_ble_eq_true rfl) (by decide) (by decide) (Nat.le_of_ble_eq_true rfl) ?_
  refine m_X6_init (p := 0) (u_fl h38_244 rfl kh38_244) (fun a ha => hz244 a (by omega)) (by decide) (by decide) (by decide) (by decide) (by decide) (fun Zg42_245 g42_245 => ?_)
  have bg42_245 := FM_B (b := 244) h38_244 ⟨by rw [g42_245.1]; decide, g42_245.2.1⟩ (by decide) (by decide) (by decide) (by decide) (by decide)
  rw [g42_245.1] at bg42_245
  have cg42_245 := FM_r (FM_r (FM_r (FM_a (FM_a (FM_a (FM_k bg42_245 (p := 244) (c := 6) (FL_k (p := 0) g42_245 (by decide))) (p := 245) (c := 13) (N := 96) (FL_a (p := 1) g42_245 (by decide))) (p := 246) (c := 13) (N := 96) (FL_a (p := 2) g42_245 (by decide))) (p := 247) (c := 13) (N := 96) (FL_a (p := 3) g42_245 (by decide))) (p := 244) (k := 0) (c := 245) (by decide) (FL_r (p := 0) (b := 1) g42_245 (by decide))) (p := 244) (k := 3) (c := 246) (by decide) (FL_r (p := 0) (b := 2) g42_245 (by decide))) (p := 244) (k := 5) (c := 247) (by decide) (FL_r (p := 0) (b := 3) g42_245 (by decide))
  refine x_none ?_
  refine u_put (p := 0) (c := 244) (k := 3) (m := 48) cg42_245 flX11_25 rfl (Or.inr ⟨rfl, rfl⟩) (fun q => by cases q <;> exact ⟨rfl, rfl⟩) dX11_init_45 rfl (by decide) (by decide) (by decide) (by decide) (fun Zp45_248 p45_248 => ?_)
  refine x_ald0 (n := 49) dX11_init_48 rfl ?_
  refine x_ic4 (n := 50) dX11_init_49 rfl ?_
  refine u_newA (N := 4) (ci := 15) (n := 248) (m := 53) p45_248 (fun a ha => hz244 a (by omega)) dX11_init_50 rfl ⟨by decide, by decide⟩ ckX11_29 (by decide) (by decide) (by decide) (by decide) (fun Zh50_248 h50_248 => ?_)
  refine u_put (p := 0) (c := 248) (k := 4) (m := 56) h50_248 flX11_31 rfl (Or.inr ⟨rfl, rfl⟩) (fun q => by cases q <;> exact ⟨rfl, rfl⟩) dX11_init_53 rfl (by decide) (by decide) (by decide) (by decide) (fun Zp53_249 p53_249 => ?_)
  refine x_ic0 (n := 57) dX11_init_56 rfl ?_
  refine x_ist1 (n := 58) dX11_init_57 rfl (by decide) rfl ?_
  refine x_ild1 (n := 59) dX11_init_58 rfl ?_
  refine x_ic4 (n := 60) dX11_init_59 rfl ?_
  refine x_icmpN_ge (n := 63) (tgt := 82) dX11_init_60 rfl (by decide) (by decide) (by decide) (fun c60_0 => ?_) (fun c60_0 => ?_)
  exact absurd c60_0 (by decide)
  refine x_ald0 (n := 64) dX11_init_63 rfl ?_
  refine x_getR (n := 67) flX11_31 rfl dX11_init_64 rfl (p53_249.2.1 (0, 11) (by decide)) (p53_249.2.2.1 (0, 4, 248) (by decide)).2 ?_
  refine x_ild1 (n := 68) dX11_init_67 rfl ?_
  refine u_new (ci := 5) (n := 249) (m := 71) p53_249 (fun a ha => hz244 a (by omega)) dX11_init_68 rfl (by decide) ckX11_29 iiX5 zi_X5 (by decide) (by decide) (by decide) (fun Zh68_249 h68_249 kh68_249 => ?_)
  refine x_dup (n := 72) dX11_init_71 rfl rfl ?_
  refine x_gJ0 (n := 75) (mc := 1) (ms := 24) (d' := 1) zcX5_init mnX11_35 dX11_init_72 rfl (Nat.le_of_ble_eq_true rfl) (by decide) (by decide) (Nat.le_of_ble_eq_true rfl) ?_
  refine m_X5_init (p := 0) (u_fl h68_249 rfl kh68_249) (fun a ha => hz244 a (by omega)) (by decide) (by decide) (by decide) (by decide) (by decide) (fun Zg72_250 g72_250 => ?_)
  have bg72_250 := FM_B (b := 249) h68_249 ⟨by rw [g72_250.1]; decide, g72_250.2.1⟩ (by decide) (by decide) (by decide) (by decide) (by decide)
  rw [g72_250.1] at bg72_250
  have cg72_250 := FM_r (FM_a (FM_k bg72_250 (p := 249) (c := 5) (FL_k (p := 0) g72_250 (by decide))) (p := 250) (c := 13) (N := 24) (FL_a (p := 1) g72_250 (by decide))) (p := 249) (k := 2) (c := 250) (by decide) (FL_r (p := 0) (b := 1) g72_250 (by decide))
  generalize hS251 : va_up J164 (249 + 0) (upd (J164 (249 + 0)) 0 (-1)) = S251
  have hz251 : ∀ a, 251 ≤ a → S251 a = fun _ => 0 := fun a ha => by rw [← hS251, va_up_off (by omega)]; exact hz244 a (by omega)
  refine x_none ?_
  refine x_aastN (n := 76) (j := 0) dX11_init_75 rfl (cg72_250.2.2.2.1 (248, 15, 4) (by decide)) ⟨by decide, by decide⟩ (cg72_250.2.1 (249, 5) (by decide)) (by decide) rfl (by decide) (by decide) ?_
  have q0 := FM_P (p := 248) (k := 0) (c := 249) cg72_250 (by decide) (by decide) (by decide)
  refine x_iincN1 (n := 79) (k := 1) dX11_init_76 rfl (by decide) rfl ?_
  refine x_goto (n := 58) dX11_init_79 (by decide) ?_
  refine x_ild1 (n := 59) dX11_init_58 rfl ?_
  refine x_ic4 (n := 60) dX11_init_59 rfl ?_
  refine x_icmpN_ge (n := 63) (tgt := 82) dX11_init_60 rfl (by decide) (by decide) (by decide) (fun c60_1 => ?_) (fun c60_1 => ?_)
  exact absurd c60_1 (by decide)
  refine x_ald0 (n := 64) dX11_init_63 rfl ?_
  refine x_getR (n := 67) flX11_31 rfl dX11_init_64 rfl (q0.2.1 (0, 11) (by decide)) (q0.2.2.1 (0, 4, 248) (by decide)).2 ?_
  refine x_ild1 (n := 68) dX11_init_67 rfl ?_
  refine u_new (ci := 5) (n := 251) (m := 71) q0 (fun a ha => hz251 a (by omega)) dX11_init_68 rfl (by decide) ckX11_29 iiX5 zi_X5 (by decide) (by decide) (by decide) (fun Zh68_251 h68_251 kh68_251 => ?_)
  refine x_dup (n := 72) dX11_init_71 rfl rfl ?_
  refine x_gJ0 (n := 75) (mc := 1) (ms := 24) (d' := 1) zcX5_init mnX11_35 dX11_init_72 rfl (Nat.le_of_ble_eq_true rfl) (by decide) (by decide) (Nat.le_of_ble_eq_true rfl) ?_
  refine m_X5_init (p := 0) (u_fl h68_251 rfl kh68_251) (fun a ha => hz251 a (by omega)) (by decide) (by decide) (by decide) (by decide) (by decide) (fun Zg72_252 g72_252 => ?_)
  have bg72_252 := FM_B (b := 251) h68_251 ⟨by rw [g72_252.1]; decide, g72_252.2.1⟩ (by decide) (by decide) (by decide) (by decide) (by decide)
  rw [g72_252.1] at bg72_252
  have cg72_252 := FM_r (FM_a (FM_k bg72_252 (p := 251) (c := 5) (FL_k (p := 0) g72_252 (by decide))) (p := 252) (c := 13) (N := 24) (FL_a (p := 1) g72_252 (by decide))) (p := 251) (k := 2) (c := 252) (by decide) (FL_r (p := 0) (b := 1) g72_252 (by decide))
  generalize hS253 : va_up S251 (251 + 0) (upd (S251 (251 + 0)) 0 (-1)) = S253
  have hz253 : ∀ a, 253 ≤ a → S253 a = fun _ => 0 := fun a ha => by rw [← hS253, va_up_off (by omega)]; exact hz251 a (by omega)
  refine x_none ?_
  refine x_aastN (n := 76) (j := 1) dX11_init_75 rfl (cg72_252.2.2.2.1 (248, 15, 4) (by decide)) ⟨by decide, by decide⟩ (cg72_252.2.1 (251, 5) (by decide)) (by decide) rfl (by decide) (by decide) ?_
  have q1 := FM_P (p := 248) (k := 1) (c := 251) cg72_252 (by decide) (by decide) (by decide)
  refine x_iincN1 (n := 79) (k := 1) dX11_init_76 rfl (by decide) rfl ?_
  refine x_goto (n := 58) dX11_init_79 (by decide) ?_
  refine x_ild1 (n := 59) dX11_init_58 rfl ?_
  refine x_ic4 (n := 60) dX11_init_59 rfl ?_
  refine x_icmpN_ge (n := 63) (tgt := 82) dX11_init_60 rfl (by decide) (by decide) (by decide) (fun c60_2 => ?_) (fun c60_2 => ?_)
  exact absurd c60_2 (by decide)
  refine x_ald0 (n := 64) dX11_init_63 rfl ?_
  refine x_getR (n := 67) flX11_31 rfl dX11_init_64 rfl (q1.2.1 (0, 11) (by decide)) (q1.2.2.1 (0, 4, 248) (by decide)).2 ?_
  refine x_ild1 (n := 68) dX11_init_67 rfl ?_
  refine u_new (ci := 5) (n := 253) (m := 71) q1 (fun a ha => hz253 a (by omega)) dX11_init_68 rfl (by decide) ckX11_29 iiX5 zi_X5 (by decide) (by decide) (by decide) (fun Zh68_253 h68_253 kh68_253 => ?_)
  refine x_dup (n := 72) dX11_init_71 rfl rfl ?_
  refine x_gJ0 (n := 75) (mc := 1) (ms := 24) (d' := 1) zcX5_init mnX11_35 dX11_init_72 rfl (Nat.le_of_ble_eq_true rfl) (by decide) (by decide) (Nat.le_of_ble_eq_true rfl) ?_
  refine m_X5_init (p := 0) (u_fl h68_253 rfl kh68_253) (fun a ha => hz253 a (by omega)) (by decide) (by decide) (by decide) (by decide) (by decide) (fun Zg72_254 g72_254 => ?_)
  have bg72_254 := FM_B (b := 253) h68_253 ⟨by rw [g72_254.1]; decide, g72_254.2.1⟩ (by decide) (by decide) (by decide) (by decide) (by decide)
  rw [g72_254.1] at bg72_254
  have cg72_254 := FM_r (FM_a (FM_k bg72_254 (p := 253) (c := 5) (FL_k (p := 0) g72_254 (by decide))) (p := 254) (c := 13) (N := 24) (FL_a (p := 1) g72_254 (by decide))) (p := 253) (k := 2) (c := 254) (by decide) (FL_r (p := 0) (b := 1) g72_254 (by decide))
  generalize hS255 : va_up S253 (253 + 0) (upd (S253 (253 + 0)) 0 (-1)) = S255
  have hz255 : ∀ a, 255 ≤ a → S255 a = fun _ => 0 := fun a ha => by rw [← hS255, va_up_off (by omega)]; exact hz253 a (by omega)
  refine x_none ?_
  refine x_aastN (n := 76) (j := 2) dX11_init_75 rfl (cg72_254.2.2.2.1 (248, 15, 4) (by decide)) ⟨by decide, by decide⟩ (cg72_254.2.1 (253, 5) (by decide)) (by decide) rfl (by decide) (by decide) ?_
  have q2 := FM_P (p := 248) (k := 2) (c := 253) cg72_254 (by decide) (by decide) (by decide)
  refine x_iincN1 (n := 79) (k := 1) dX11_init_76 rfl (by decide) rfl ?_
  refine x_goto (n := 58) dX11_init_79 (by decide) ?_
  refine x_ild1 (n := 59) dX11_init_58 rfl ?_
  refine x_ic4 (n := 60) dX11_init_59 rfl ?_
  refine x_icmpN_ge (n := 63) (tgt := 82) dX11_init_60 rfl (by decide) (by decide) (by decide) (fun c60_3 => ?_) (fun c60_3 => ?_)
  exact absurd c60_3 (by decide)
  refine x_ald0 (n := 64) dX11_init_63 rfl ?_
  refine x_getR (n := 67) flX11_31 rfl dX11_init_64 rfl (q2.2.1 (0, 11) (by decide)) (q2.2.2.1 (0, 4, 248) (by decide)).2 ?_
  refine x_ild1 (n := 68) dX11_init_67 rfl ?_
  refine u_new (ci := 5) (n := 255) (m := 71) q2 (fun a ha => hz255 a (by omega)) dX11_init_68 rfl (by decide) ckX11_29 iiX5 zi_X5 (by decide) (by decide) (by decide) (fun Zh68_255 h68_255 kh68_255 => ?_)
  refine x_dup (n := 72) dX11_init_71 rfl rfl ?_
  refine x_gJ0 (n := 75) (mc := 1) (ms := 24) (d' := 1) zcX5_init mnX11_35 dX11_init_72 rfl (Nat.le_of_ble_eq_true rfl) (by decide) (by decide) (Nat.le_of_ble_eq_true rfl) ?_
  refine m_X5_init (p := 0) (u_fl h68_255 rfl kh68_255) (fun a ha => hz255 a (by omega)) (by decide) (by decide) (by decide) (by decide) (by decide) (fun Zg72_256 g72_256 => ?_)
  have bg72_256 := FM_B (b := 255) h68_255 ⟨by rw [g72_256.1]; decide, g72_256.2.1⟩ (by decide) (by decide) (by decide) (by decide) (by decide)
  rw [g72_256.1] at bg72_256
  have cg72_256 := FM_r (FM_a (FM_k bg72_256 (p := 255) (c := 5) (FL_k (p := 0) g72_256 (by decide))) (p := 256) (c := 13) (N := 24) (FL_a (p := 1) g72_256 (by decide))) (p := 255) (k := 2) (c := 256) (by decide) (FL_r (p := 0) (b := 1) g72_256 (by decide))
  generalize hS257 : va_up S255 (255 + 0) (upd (S255 (255 + 0)) 0 (-1)) = S257
  have hz257 : ∀ a, 257 ≤ a → S257 a = fun _ => 0 := fun a ha => by rw [← hS257, va_up_off (by omega)]; exact hz255 a (by omega)
  refine x_none ?_
  refine x_aastN (n := 76) (j := 3) dX11_init_75 rfl (cg72_256.2.2.2.1 (248, 15, 4) (by decide)) ⟨by decide, by decide⟩ (cg72_256.2.1 (255, 5) (by decide)) (by decide) rfl (by decide) (by decide) ?_
  have q3 := FM_P (p := 248) (k := 3) (c := 255) cg72_256 (by decide) (by decide) (by decide)
  refine x_iincN1 (n := 79) (k := 1) dX11_init_76 rfl (by decide) rfl ?_
  refine x_goto (n := 58) dX11_init_79 (by decide) ?_
  refine x_ild1 (n := 59) dX11_init_58 rfl ?_
  refine x_ic4 (n := 60) dX11_init_59 rfl ?_
  refine x_icmpN_ge (n := 63) (tgt := 82) dX11_init_60 rfl (by decide) (by decide) (by decide) (fun c60_4 => ?_) (fun c60_4 => ?_)
  rotate_left
  exact absurd c60_4 (by decide)
  refine x_ald0 (n := 83) dX11_init_82 rfl ?_
  refine x_bipush (n := 85) (v := nI 60) dX11_init_83 rfl (by decide) ?_
  refine u_newI (N := 60) (n := 257) (m := 87) q3 (fun a ha => hz257 a (by omega)) dX11_init_85 rfl (by decide) (by decide) (by decide) (by decide) (fun Zh85_257 h85_257 => ?_)
  refine u_put (p := 0) (c := 257) (k := 5) (m := 90) h85_257 flX11_36 rfl (Or.inr ⟨rfl, rfl⟩) (fun q => by cases q <;> exact ⟨rfl, rfl⟩) dX11_init_87 rfl (by decide) (by decide) (by decide) (by decide) (fun Zp87_258 p87_258 => ?_)
  refine x_ald0 (n := 91) dX11_init_90 rfl ?_
  refine x_ic0 (n := 92) dX11_init_91 rfl ?_
  refine x_putI (n := 95) flX11_40 rfl (Or.inl rfl) rfl rfl dX11_init_92 rfl (p87_258.2.1 (0, 11) (by decide)) ?_
  refine x_ald0 (n := 96) dX11_init_95 rfl ?_
  refine x_ic0 (n := 97) dX11_init_96 rfl ?_
  refine x_putI (n := 100) flX11_44 rfl (Or.inl rfl) (by first | exact nar0 | exact nar1) (by decide) dX11_init_97 rfl (p87_258.2.1 (0, 11) (by decide)) ?_
  refine r_vret dX11_init_100 rfl ?_
  refine hq _ _ (p87_258.1) (FM_L p87_258) ?_
  exact LiI_of (hI ▸ ig9_2) ig20_83 ig31_164 hS251 hS253 hS255 hS257
end
