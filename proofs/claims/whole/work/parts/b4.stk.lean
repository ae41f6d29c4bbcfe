/-! ===== the stack of signs, as counted ===== -/
def stI (st : List Nat) (ob on : Nat) : Prop := ob ≤ st.count 40 ∧ st.count 33 ≤ on ∧ ∀ c ∈ st, c < 256
theorem cnt_pr (r x : Nat) (st : List Nat) : (popR r st).count x + (rstR r st).count x = st.count x := by
  unfold popR rstR
  rw [← List.count_append, List.takeWhile_append_dropWhile]
theorem cnt_pn (x : Nat) (st : List Nat) : (popN st).count x + (rstN st).count x = st.count x := by
  unfold popN rstN
  rw [← List.count_append, List.takeWhile_append_dropWhile]
theorem popR_mem {r c : Nat} : ∀ {st : List Nat}, c ∈ popR r st → r ≤ rnk c
  | [], h => by cases h
  | x :: st, h => by
    by_cases hd : r ≤ rnk x
    · rw [show popR r (x :: st) = x :: popR r st from List.takeWhile_cons_of_pos (decide_eq_true hd)] at h
      rcases List.mem_cons.mp h with e | e
      · rw [e]; exact hd
      · exact popR_mem e
    · rw [show popR r (x :: st) = [] from List.takeWhile_cons_of_neg (by rw [decide_eq_true_eq]; exact hd)] at h
      cases h
theorem popN_mem {c : Nat} : ∀ {st : List Nat}, c ∈ popN st → c = 33
  | [], h => by cases h
  | x :: st, h => by
    by_cases hd : x = 33
    · rw [show popN (x :: st) = x :: popN st from List.takeWhile_cons_of_pos (decide_eq_true hd)] at h
      rcases List.mem_cons.mp h with e | e
      · rw [e]; exact hd
      · exact popN_mem e
    · rw [show popN (x :: st) = [] from List.takeWhile_cons_of_neg (by rw [decide_eq_true_eq]; exact hd)] at h
      cases h
theorem popN_cnt (st : List Nat) : (popN st).count 33 = (popN st).length := List.count_eq_length.mpr (fun c hc => (popN_mem hc).symm)
theorem popN_le (st : List Nat) : (popN st).length ≤ st.count 33 := by have := cnt_pn 33 st; rw [popN_cnt] at this; omega
theorem popR_40 {r : Nat} (hr : 1 ≤ r) (st : List Nat) : (popR r st).count 40 = 0 := List.count_eq_zero.mpr (fun h => by have := popR_mem h; have h0 : rnk 40 = 0 := rfl; omega)
theorem popN_40 (st : List Nat) : (popN st).count 40 = 0 := List.count_eq_zero.mpr (fun h => by have := popN_mem h; omega)
theorem rstN_sub {st : List Nat} {c : Nat} (h : c ∈ rstN st) : c ∈ st := (List.dropWhile_sublist _).subset h
theorem stI_ne {st : List Nat} {ob on : Nat} (h : stI st ob on) (h0 : 0 < ob) : rstR 1 st ≠ [] := by
  intro e
  have h1 := cnt_pr 1 40 st
  rw [e, popR_40 (by omega)] at h1
  have h2 := h.1
  have h3 : ([] : List Nat).count 40 = 0 := rfl
  omega
theorem tl_cnt (x : Nat) (st : List Nat) : st.tail.count x ≤ st.count x ∧ st.count x ≤ st.tail.count x + 1 := by
  cases st with
  | nil => exact ⟨Nat.le_refl _, Nat.zero_le _⟩
  | cons c r =>
    rw [List.tail_cons, List.count_cons]
    split <;> omega
theorem stI_on {st : List Nat} {ob on : Nat} (h : stI st ob on) : (popN (rstR 1 st).tail).length ≤ on := by
  have h1 := popN_le (rstR 1 st).tail
  have h2 := (tl_cnt 33 (rstR 1 st)).1
  have h3 := cnt_pr 1 33 st
  have h4 := h.2.1
  omega
theorem stI_on2 {st : List Nat} {ob on : Nat} (h : stI st ob on) : (popN st).length ≤ on := by
  have h1 := popN_le st
  have h4 := h.2.1
  omega
theorem stI_pt {st : List Nat} {ob on : Nat} (h : stI st ob on) : stI (rstN st) ob (on - (popN st).length) := by
  obtain ⟨h1, h2, h3⟩ := h
  have a := cnt_pn 40 st
  have b := cnt_pn 33 st
  rw [popN_40] at a
  rw [popN_cnt] at b
  exact ⟨by omega, by omega, fun c hc => h3 c (rstN_sub hc)⟩
theorem stI_cl {st : List Nat} {ob on : Nat} (h : stI st ob on) : stI (rstN (rstR 1 st).tail) (ob - 1) (on - (popN (rstR 1 st).tail).length) := by
  refine stI_pt ?_
  obtain ⟨h1, h2, h3⟩ := h
  have a := cnt_pr 1 40 st
  have b := cnt_pr 1 33 st
  rw [popR_40 (by omega)] at a
  have a2 := tl_cnt 40 (rstR 1 st)
  have b2 := tl_cnt 33 (rstR 1 st)
  exact ⟨by omega, by omega, fun c hc => h3 c (rst_sub (List.mem_of_mem_tail hc))⟩
theorem stI_sg {st : List Nat} {ob on c : Nat} (h : stI st ob on) (hc : c < 256) (h33 : c ≠ 33) (hr : 0 < rnk c) : stI (c :: rstR (rnk c) st) ob on := by
  obtain ⟨h1, h2, h3⟩ := h
  have a := cnt_pr (rnk c) 40 st
  have b := cnt_pr (rnk c) 33 st
  rw [popR_40 (by omega)] at a
  refine ⟨?_, ?_, fun x hx => ?_⟩
  · rw [List.count_cons]; omega
  · rw [List.count_cons, if_neg (by simpa using h33)]; omega
  · rcases List.mem_cons.mp hx with e | e
    · rw [e]; exact hc
    · exact h3 x (rst_sub e)
theorem stI_40 {st : List Nat} {ob on : Nat} (h : stI st ob on) : stI (40 :: st) (ob + 1) on := by
  obtain ⟨h1, h2, h3⟩ := h
  refine ⟨?_, ?_, fun x hx => ?_⟩
  · rw [List.count_cons, if_pos (by decide)]; omega
  · rw [List.count_cons, if_neg (by decide)]; omega
  · rcases List.mem_cons.mp hx with e | e
    · omega
    · exact h3 x e
theorem stI_33 {st : List Nat} {ob on : Nat} (h : stI st ob on) : stI (33 :: st) ob (on + 1) := by
  obtain ⟨h1, h2, h3⟩ := h
  refine ⟨?_, ?_, fun x hx => ?_⟩
  · rw [List.count_cons, if_neg (by decide)]; omega
  · rw [List.count_cons, if_pos (by decide)]; omega
  · rcases List.mem_cons.mp hx with e | e
    · omega
    · exact h3 x e
/-- the class's code of the steps -/
def ccs (key : Nat) (cd : List CD) : List Int32 := cd.map (fun x => cdF key x.1 x.2)
theorem ccs_app (key : Nat) (a b : List CD) : ccs key (a ++ b) = ccs key a ++ ccs key b := List.map_append
theorem ccs_len (key : Nat) (a : List CD) : (ccs key a).length = a.length := List.length_map _
theorem ccs_sgs (key : Nat) (a : List Nat) : ccs key (sgs a) = ngs a := by
  unfold ccs sgs ngs
  rw [List.map_map]
  refine List.map_congr_left (fun c _ => ?_)
  show cdF key (nI 2) (nI c) = -nI c
  unfold cdF
  rw [if_neg (by decide), if_neg (by decide)]
