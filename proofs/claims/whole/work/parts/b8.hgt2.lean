/-! ===== what is read keeps the heights ===== -/
theorem nm_ok {key v : Nat} (hv : v < 256) (hk : key < 4) (h : isNm key (nI v) = true) : nameOK key v := by
  have e : ∀ n, n < 256 → (nI v = nI n ↔ v = n) := fun n hn => nI_eq (by omega) (by omega)
  unfold isNm at h
  unfold nameOK
  split at h
  · rw [decide_eq_true_eq, e 107 (by omega), e 100 (by omega), e 119 (by omega)] at h; omega
  split at h
  · rw [decide_eq_true_eq, e 107 (by omega), e 121 (by omega)] at h; omega
  split at h
  · rw [decide_eq_true_eq, e 110 (by omega)] at h; omega
  · rw [decide_eq_true_eq, e 99 (by omega), e 119 (by omega)] at h; omega
theorem sg_ok {c : Nat} (h : 0 < rnk c) : signOK c := by
  unfold rnk at h
  unfold signOK
  repeat' split at h
  all_goals omega
