section
variable {l : Launch} {G : zG} {Z Z' : zS} {I I' : zI} {g g' : Nat → Int32} {mk mk2 m b : Nat} {Q : Option Value → zS → zI → Prop}
theorem l2_X1_leastCost (hM : ShM Z mk) (hG : cmG I mk g) (hB : InvB g) {P sl : Nat} {h : Bool} (hP1 : 1 ≤ P) (hP : P ≤ 199) (hsl : sl ≤ 99)
    (hq : ∀ I1, off789 mk I I1 → (∀ c, c < vN g 0 → I1 (mk + 9) c = nI (fbF (dpF (costZ g h) P sl (vN g 0) (vN g 0 - 1 - c)) P)) → Q (some (.int (iZ (dpF (costZ g h) P sl (vN g 0) (vN g 0 - 1) (fbF (dpF (costZ g h) P sl (vN g 0) (vN g 0 - 1)) P))))) Z I1) :
    ∀ r v I1, v = nI r - 1 → r ≤ vN g 0 → off789 mk I I1 → (r < vN g 0 → ∀ j, j < P → I1 (mk + 7) j = iZ (dpF (costZ g h) P sl (vN g 0) (vN g 0 - 1 - r) j)) → (∀ c, r ≤ c → c < vN g 0 → I1 (mk + 9) c = nI (fbF (dpF (costZ g h) P sl (vN g 0) (vN g 0 - 1 - c)) P)) →
      zX l G mX1_leastCost 3 0 0 8 [some (.ref (mk + 1)), some (.int (nI P)), some (.int (nI sl)), some (.int (zb h)), some (.int v), none, none, none] [] Z I1 Q := by
  have h24 := (iv0 hB).2
  intro r
  induction r with
  | zero =>
    intro v I1 hv _ hO hL hF
    subst hv
    have h0 := hF 0 (by omega) (by omega)
    have hfl := fb_lt (f := dpF (costZ g h) P sl (vN g 0) (vN g 0 - 1 - 0)) hP1
    have hcl : clF (nI (fbF (dpF (costZ g h) P sl (vN g 0) (vN g 0 - 1 - 0)) P)) (nI 0) (nI 198) = nI (fbF (dpF (costZ g h) P sl (vN g 0) (vN g 0 - 1 - 0)) P) := Int32.toInt_inj.mp (by rw [clF_i, nI_toInt (n := fbF (dpF (costZ g h) P sl (vN g 0) (vN g 0 - 1 - 0)) P) (by omega), show (nI 0).toInt = 0 by decide, show (nI 198).toInt = 198 by decide]; omega)
    refine x_ild4 (n := 10) dX1_leastCost_8 rfl ?_
    refine x_if_lt (n := 13) (tgt := 178) dX1_leastCost_10 rfl (by decide) (fun c_10 => ?_) (fun c_10 => ?_)
    · refine x_ald0 (n := 179) dX1_leastCost_178 rfl ?_
      refine x_getR (n := 182) flX1_25 rfl dX1_leastCost_179 rfl (mK_Gr hM) (mP_least hM) ?_
      refine x_ald0 (n := 183) dX1_leastCost_182 rfl ?_
      refine x_getR (n := 186) flX1_31 rfl dX1_leastCost_183 rfl (mK_Gr hM) (mP_firstBest hM) ?_
      refine x_ic0 (n := 187) dX1_leastCost_186 rfl ?_
      refine x_ialdN (n := 188) dX1_leastCost_187 rfl (mA_firstBest hM) (Nat.le_of_ble_eq_true rfl) (by omega) ?_
      rw [h0]
      refine x_ic0 (n := 189) dX1_leastCost_188 rfl ?_
      refine x_sipush (n := 192) (v := nI 198) dX1_leastCost_189 rfl (by decide) ?_
      refine x_cN3 (n := 195) (d' := 1) zcX11_clamp mnX1_38 dX1_leastCost_192 rfl (Nat.le_of_ble_eq_true rfl) (Nat.le_of_ble_eq_true rfl) ?_
      refine c_X11_clamp ?_
      refine x_some ?_
      rw [hcl]
      refine x_ialdN (n := 196) dX1_leastCost_195 rfl (mA_least hM) (Nat.le_of_ble_eq_true rfl) (by omega) ?_
      refine r_iret dX1_leastCost_196 rfl ?_
      rw [hL (by omega) _ hfl]; exact hq I1 hO (fun c hc => hF c (by omega) hc)
    · exact absurd (by decide) c_10
  | succ r ih =>
    intro v I1 hv hr hO hL hF
    have hv2 : v = nI r := by rw [hv, show nI (r + 1) - 1 = nI (r + 1) - nI 1 from rfl, pk_sub (by omega), Nat.add_sub_cancel]
    subst hv2
    have hO2 : off789 mk I (va_up I1 (mk + 8) (va_cpy (I1 (mk + 7)) (I1 (mk + 8)) 0 0 199)) := fun a a1 a2 a3 => by rw [va_up_off a2]; exact hO a a1 a2 a3
    refine x_ild4 (n := 10) dX1_leastCost_8 rfl ?_
    refine x_if_lt (n := 13) (tgt := 178) dX1_leastCost_10 rfl (by decide) (fun c_10 => ?_) (fun c_10 => ?_)
    · exact absurd c_10 (by rw [zlt, nI_toInt (by omega), Int32.toInt_zero]; omega)
    · refine x_ald0 (n := 14) dX1_leastCost_13 rfl ?_
      refine x_getR (n := 17) flX1_25 rfl dX1_leastCost_14 rfl (mK_Gr hM) (mP_least hM) ?_
      refine x_ic0 (n := 18) dX1_leastCost_17 rfl ?_
      refine x_ald0 (n := 19) dX1_leastCost_18 rfl ?_
      refine x_getR (n := 22) flX1_28 rfl dX1_leastCost_19 rfl (mK_Gr hM) (mP_leastBehind hM) ?_
      refine x_ic0 (n := 23) dX1_leastCost_22 rfl ?_
      refine x_sipush (n := 26) (v := nI 199) dX1_leastCost_23 rfl (by decide) ?_
      refine x_acopyN (n := 29) dX1_leastCost_26 rfl mlX1_51 zcN zcS zi_J10 (by decide) (Nat.le_of_ble_eq_true rfl) (mA_least hM) (mA_leastBehind hM) (by omega) (by omega) (by decide) (by decide) ?_
      refine x_ic0 (n := 30) dX1_leastCost_29 rfl ?_
      refine x_ist5 (n := 32) dX1_leastCost_30 rfl (by decide) rfl ?_
      refine x_ic0 (n := 33) dX1_leastCost_32 rfl ?_
      refine x_ist6 (n := 35) dX1_leastCost_33 rfl (by decide) rfl ?_
      refine l1_X1_leastCost hM hG hB hP1 hP hsl (r := r) (by omega) hO2 (fun hrn => ⟨fun j hj => ?_, ?_⟩) (fun I2 o2 l2 => ?_) (P + 1) 0 _ (fun _ _ => rfl) (fun j hj => absurd hj (by omega)) (by omega) (by omega)
      · rw [va_up_same, cpy0 (by omega)]; exact hL (by omega) j hj
      · rw [va_up_off (by omega)]; exact hF (r + 1) (by omega) hrn
      · have hfl := fb_lt (f := dpF (costZ g h) P sl (vN g 0) (vN g 0 - 1 - r)) hP1
        refine x_ald0 (n := 164) dX1_leastCost_163 rfl ?_
        refine x_getR (n := 167) flX1_31 rfl dX1_leastCost_164 rfl (mK_Gr hM) (mP_firstBest hM) ?_
        refine x_ild4 (n := 169) dX1_leastCost_167 rfl ?_
        refine x_ild5 (n := 171) dX1_leastCost_169 rfl ?_
        refine x_iastN (n := 172) dX1_leastCost_171 rfl (mA_firstBest hM) (Nat.le_of_ble_eq_true rfl) (by omega) ?_
        refine x_iinc4 (n := 175) (v := nI r - 1) dX1_leastCost_172 rfl (by decide) (zdec1 _) rfl ?_
        refine x_goto (n := 8) dX1_leastCost_175 (by decide) ?_
        refine x_fg5 (ih _ _ rfl (by omega) (fun a a1 a2 a3 => ?_) (fun _ j hj => ?_) (fun c c1 c2 => ?_))
        · rw [va_up_off a3, o2 a a1]; exact hO2 a a1 a2 a3
        · rw [va_up_off (by omega)]; exact l2 j hj
        · rw [va_up_same]
          by_cases hcr : c = r
          · subst hcr; rw [upd_same]
          · rw [upd_off hcr, o2 _ (by omega), va_up_off (by omega)]; exact hF c (by omega) c2
theorem c_X1_leastCost (hM : ShM Z mk) (hG : cmG I mk g) (hB : InvB g) {P sl : Nat} {h : Bool} (hP1 : 1 ≤ P) (hP : P ≤ 199) (hsl : sl ≤ 99)
    (hq : ∀ I1, off789 mk I I1 → (∀ c, c < vN g 0 → I1 (mk + 9) c = nI (fbF (dpF (costZ g h) P sl (vN g 0) (vN g 0 - 1 - c)) P)) → Q (some (.int (iZ (dpF (costZ g h) P sl (vN g 0) (vN g 0 - 1) (fbF (dpF (costZ g h) P sl (vN g 0) (vN g 0 - 1)) P))))) Z I1) :
    zM l G mX1_leastCost 3 0 0 [.ref (mk + 1), .int (nI P), .int (nI sl), .int (zb h)] Z I Q := by
  refine x_entry [some (.ref (mk + 1)), some (.int (nI P)), some (.int (nI sl)), some (.int (zb h)), none, none, none, none] 4 rfl rfl (Nat.le_of_ble_eq_true rfl) ?_
  have h24 := (iv0 hB).2
  have hv0 := vG0 hG hB
  refine x_ald0 (n := 1) dX1_leastCost_0 rfl ?_
  refine x_getI (n := 4) flX1_44 rfl dX1_leastCost_1 rfl (mK_Gr hM) ?_
  rw [hv0]
  refine x_ic1 (n := 5) dX1_leastCost_4 rfl ?_
  refine x_isub (n := 6) dX1_leastCost_5 rfl ?_
  refine x_ist4 (n := 8) dX1_leastCost_6 rfl (by decide) rfl ?_
  exact l2_X1_leastCost hM hG hB hP1 hP hsl hq (vN g 0) _ I rfl (Nat.le_refl _) (fun _ _ _ _ => rfl) (fun hh => absurd hh (by omega)) (fun c h1 h2 => absurd h2 (by omega))
end
/-! ===== convex costs: the nearest to the best is the best within reach ===== -/
def cvx (f : Nat → Int) (P : Nat) : Prop := ∀ p, p + 2 < P → 2 * f (p + 1) ≤ f p + f (p + 2)
/-- t is the first least within W -/
def fstM (f : Nat → Int) (W : Nat → Prop) (t : Nat) : Prop := W t ∧ ∀ q, W q → f t ≤ f q ∧ (q < t → f t < f q)
theorem fstM_uniq {f : Nat → Int} {W : Nat → Prop} {s t : Nat} (hs : fstM f W s) (ht : fstM f W t) : s = t := by
  rcases Nat.lt_trichotomy s t with h | h | h
  · have h1 := (ht.2 s hs.1).2 h
    have h2 := (hs.2 t ht.1).1
    omega
  · exact h
  · have h1 := (hs.2 t ht.1).2 h
    have h2 := (ht.2 s hs.1).1
    omega
theorem fbF_fst {f : Nat → Int} {P : Nat} (hP : 1 ≤ P) : fstM f (fun q => q < P) (fbF f P) := ⟨fb_lt hP, fun q hq => fbF_min f P q hq⟩
/-- up behind the best -/
theorem cvx_up {f : Nat → Int} {P fb : Nat} (hc : cvx f P) (hm : ∀ q, q < P → f fb ≤ f q) : ∀ d p, fb ≤ p → p + d < P → f p ≤ f (p + d) := by
  have step : ∀ d, fb + d + 1 < P → f (fb + d) ≤ f (fb + d + 1) := by
    intro d
    induction d with
    | zero => intro h; exact hm _ (by omega)
    | succ d ih =>
      intro h
      have h1 := ih (by omega)
      have h2 := hc (fb + d) (by omega)
      show f (fb + d + 1) ≤ f (fb + d + 2)
      omega
  intro d
  induction d with
  | zero => intro p _ _; exact Int.le_refl _
  | succ d ih =>
    intro p hp hd
    have h1 := ih p hp (by omega)
    have h2 := step (p + d - fb) (by omega)
    rw [show fb + (p + d - fb) = p + d by omega] at h2
    show f p ≤ f (p + d + 1)
    omega
/-- down to the best, strictly where it is the first -/
theorem cvx_dn {f : Nat → Int} {P fb : Nat} (hc : cvx f P) (hfb : fb < P) (hm : ∀ q, q < fb → f fb < f q) : ∀ d p, p + d ≤ fb → (0 < d → f (p + d) < f p) ∧ f (p + d) ≤ f p := by
  have step : ∀ d, d + 1 ≤ fb → f (fb - d) < f (fb - (d + 1)) := by
    intro d
    induction d with
    | zero => intro h; exact hm _ (by omega)
    | succ d ih =>
      intro h
      have h1 := ih (by omega)
      have h2 := hc (fb - (d + 2)) (by omega)
      rw [show fb - (d + 2) + 1 = fb - (d + 1) by omega, show fb - (d + 2) + 2 = fb - d by omega] at h2
      show f (fb - (d + 1)) < f (fb - (d + 2))
      omega
  intro d
  induction d with
  | zero => intro p _; exact ⟨fun h => absurd h (by omega), Int.le_refl _⟩
  | succ d ih =>
    intro p hp
    have h1 := (ih p (by omega)).2
    have h2 := step (fb - (p + d + 1)) (by omega)
    rw [show fb - (fb - (p + d + 1)) = p + d + 1 by omega, show fb - (fb - (p + d + 1) + 1) = p + d by omega] at h2
    show (0 < d + 1 → f (p + d + 1) < f p) ∧ f (p + d + 1) ≤ f p
    exact ⟨fun _ => by omega, by omega⟩
theorem cl_fst {f : Nat → Int} {P sl a : Nat} (hP : 1 ≤ P) (hc : cvx f P) (ha : a < P) : fstM f (fun q => q < P ∧ near a q ≤ sl) (cl (fbF f P) sl a) := by
  have hfb := fbF_fst (f := f) hP
  have hlt := hfb.1
  have hm1 : ∀ q, q < P → f (fbF f P) ≤ f q := fun q hq => (hfb.2 q hq).1
  have hm2 : ∀ q, q < fbF f P → f (fbF f P) < f q := fun q hq => (hfb.2 q (by omega)).2 hq
  generalize fbF f P = fb at *
  unfold cl near
  split
  · rename_i h1
    refine ⟨⟨by omega, by omega⟩, fun q hq => ?_⟩
    obtain ⟨q1, q2⟩ := hq
    have hle : q ≤ a + sl := by omega
    have := cvx_dn hc hlt hm2 (a + sl - q) q (by omega)
    rw [show q + (a + sl - q) = a + sl by omega] at this
    exact ⟨this.2, fun hh => this.1 (by omega)⟩
  · split
    · rename_i h1 h2
      refine ⟨⟨by omega, by omega⟩, fun q hq => ?_⟩
      obtain ⟨q1, q2⟩ := hq
      have hge : a - sl ≤ q := by omega
      have := cvx_up hc hm1 (q - (a - sl)) (a - sl) (by omega) (by omega)
      rw [show a - sl + (q - (a - sl)) = q by omega] at this
      exact ⟨this, fun hh => absurd hh (by omega)⟩
    · rename_i h1 h2
      exact ⟨⟨hlt, by omega⟩, fun q hq => ⟨hm1 q hq.1, fun hh => hm2 q hh⟩⟩
theorem cvx_cl {f : Nat → Int} {P sl : Nat} (hP : 1 ≤ P) (hc : cvx f P) : cvx (fun p => f (cl (fbF f P) sl p)) P := by
  have hfb := fbF_fst (f := f) hP
  have hlt := hfb.1
  have hm1 : ∀ q, q < P → f (fbF f P) ≤ f q := fun q hq => (hfb.2 q hq).1
  generalize fbF f P = fb at *
  intro p hp
  show 2 * f (cl fb sl (p + 1)) ≤ f (cl fb sl p) + f (cl fb sl (p + 2))
  by_cases h1 : p + 2 + sl ≤ fb
  · have e0 : cl fb sl p = p + sl := by unfold cl; rw [if_pos (by omega)]
    have e1 : cl fb sl (p + 1) = p + sl + 1 := by unfold cl; rw [if_pos (by omega)]; omega
    have e2 : cl fb sl (p + 2) = p + sl + 2 := by unfold cl; rw [if_pos (by omega)]; omega
    rw [e0, e1, e2]; exact hc _ (by omega)
  · by_cases h2 : fb + sl ≤ p
    · by_cases hs0 : sl = 0
      · subst hs0
        have ee : ∀ q, fb ≤ q → cl fb 0 q = q := fun q hq => by unfold cl; split; omega; split; omega; omega
        rw [ee p (by omega), ee (p + 1) (by omega), ee (p + 2) (by omega)]; exact hc _ (by omega)
      · have e0 : cl fb sl p = p - sl := by unfold cl; rw [if_neg (by omega), if_pos (by omega)]
        have e1 : cl fb sl (p + 1) = p - sl + 1 := by unfold cl; rw [if_neg (by omega), if_pos (by omega)]; omega
        have e2 : cl fb sl (p + 2) = p - sl + 2 := by unfold cl; rw [if_neg (by omega), if_pos (by omega)]; omega
        rw [e0, e1, e2]; exact hc _ (by omega)
    · -- near the best: the middle one is the best itself, or one of the ends is
      by_cases hs0 : sl = 0
      · subst hs0
        have ee : ∀ q, cl fb 0 q = q := fun q => by unfold cl; split; omega; split; omega; omega
        rw [ee p, ee (p + 1), ee (p + 2)]; exact hc _ (by omega)
      · by_cases h3 : p + 1 + sl ≤ fb
        · -- then p + 2 + sl > fb, so p + 1 + sl = fb
          have e1 : cl fb sl (p + 1) = fb := by unfold cl; rw [if_pos h3]; omega
          have l0 := hm1 (cl fb sl p) (cl_lt hlt (by omega))
          have l2 := hm1 (cl fb sl (p + 2)) (cl_lt hlt (by omega))
          rw [e1]; omega
        · by_cases h4 : fb + sl ≤ p + 1
          · have e1 : cl fb sl (p + 1) = fb := by unfold cl; rw [if_neg (by omega), if_pos h4]; omega
            have l0 := hm1 (cl fb sl p) (cl_lt hlt (by omega))
            have l2 := hm1 (cl fb sl (p + 2)) (cl_lt hlt (by omega))
            rw [e1]; omega
          · have e1 : cl fb sl (p + 1) = fb := by unfold cl; rw [if_neg (by omega), if_neg (by omega)]
            have l0 := hm1 (cl fb sl p) (cl_lt hlt (by omega))
            have l2 := hm1 (cl fb sl (p + 2)) (cl_lt hlt (by omega))
            rw [e1]; omega
theorem cvx_add {f h : Nat → Int} {P : Nat} (hf : cvx f P) (hh : cvx h P) : cvx (fun p => f p + h p) P := by
  intro p hp
  have h1 := hf p hp
  have h2 := hh p hp
  show 2 * (f (p + 1) + h (p + 1)) ≤ f p + h p + (f (p + 2) + h (p + 2))
  omega
theorem dpF_cvx {C : Nat → Nat → Int} {P sl n : Nat} (hP : 1 ≤ P) (hC : ∀ c, c < n → cvx (C c) P) : ∀ i, i < n → cvx (dpF C P sl n i) P
  | 0, hi => hC (n - 1) (by omega)
  | i + 1, hi => cvx_add (hC (n - 1 - (i + 1)) (by omega)) (cvx_cl hP (dpF_cvx hP hC i (by omega)))
theorem costZ_cvx {g : Nat → Int32} {h : Bool} {c P : Nat} : cvx (costZ g h c) P := by
  intro p hp
  unfold costZ
  split
  · generalize gDep g c = x
    generalize (vN g 15 : Int) = s
    have e1 : x * (((p + 1 : Nat) : Int) - s) = x * ((p : Int) - s) + x := by rw [show ((p + 1 : Nat) : Int) - s = ((p : Int) - s) + 1 by omega, Int.mul_add, Int.mul_one]
    have e2 : x * (((p + 2 : Nat) : Int) - s) = x * ((p : Int) - s) + x + x := by rw [show ((p + 2 : Nat) : Int) - s = ((p : Int) - s) + 1 + 1 by omega, Int.mul_add, Int.mul_add, Int.mul_one]
    omega
  · unfold cst
    generalize vN g (20 + 4 * c) = s
    generalize vN g 12 = a
    generalize vN g 13 = b
    by_cases h1 : p + 2 < s
    · rw [if_pos (by omega), if_pos (by omega), if_pos (by omega)]
      have e1 : a * (s - p) = a * (s - (p + 2)) + a + a := by rw [show s - p = s - (p + 2) + 1 + 1 by omega, Nat.mul_add, Nat.mul_add, Nat.mul_one]
      have e2 : a * (s - (p + 1)) = a * (s - (p + 2)) + a := by rw [show s - (p + 1) = s - (p + 2) + 1 by omega, Nat.mul_add, Nat.mul_one]
      omega
    · by_cases h2 : s ≤ p
      · rw [if_neg (by omega), if_neg (by omega), if_neg (by omega)]
        have e1 : b * (p + 2 - s) = b * (p - s) + b + b := by rw [show p + 2 - s = p - s + 1 + 1 by omega, Nat.mul_add, Nat.mul_add, Nat.mul_one]
        have e2 : b * (p + 1 - s) = b * (p - s) + b := by rw [show p + 1 - s = p - s + 1 by omega, Nat.mul_add, Nat.mul_one]
        omega
      · rcases (by omega : s = p + 1 ∨ s = p + 2) with rfl | rfl
        · rw [if_neg (by omega), if_pos (by omega), if_neg (by omega), Nat.sub_self, Nat.mul_zero]; omega
        · rw [if_pos (by omega), if_pos (by omega), if_neg (by omega), Nat.sub_self, Nat.mul_zero]
          have e1 : a * (p + 2 - p) = a * (p + 2 - (p + 1)) + a := by rw [show p + 2 - p = p + 2 - (p + 1) + 1 by omega, Nat.mul_add, Nat.mul_one]
          rw [show p + 2 - (p + 1) = 1 by omega, Nat.mul_one] at *
          omega
/-- the reference's search is the first least within the slope -/
theorem chpF_fst {f : Nat → Nat} {a sl : Nat} : ∀ {n t : Nat}, chpF f a sl n = some t → fstM (fun q => (f q : Int)) (fun q => q < n ∧ near a q ≤ sl) t
  | 0, t, h => by cases h
  | n + 1, t, h => by
    unfold chpF at h
    split at h
    · rename_i hc
      cases h
      refine ⟨⟨by omega, hc.1⟩, fun q hq => ?_⟩
      by_cases hqn : q = n
      · subst hqn; exact ⟨Int.le_refl _, fun hh => absurd hh (by omega)⟩
      · cases hp : chpF f a sl n with
        | none =>
          exfalso
          have : ∀ m, m ≤ n → chpF f a sl m = none → ∀ q, q < m → ¬ near a q ≤ sl := by
            intro m
            induction m with
            | zero => intro _ _ q hq; exact absurd hq (by omega)
            | succ m ih =>
              intro hm he q hqm
              unfold chpF at he
              split at he
              · cases he
              · rename_i hnc
                by_cases hqm2 : q = m
                · subst hqm2; intro hne; exact hnc ⟨hne, fun b hb => by rw [he] at hb; cases hb⟩
                · exact ih (by omega) he q (by omega)
          exact this n (Nat.le_refl _) hp q (by omega) hq.2
        | some b =>
          have ih := chpF_fst hp
          have h1 := hc.2 b hp
          have h2 : (f b : Int) ≤ f q := (ih.2 q ⟨by omega, hq.2⟩).1
          exact ⟨by show (f n : Int) ≤ f q; omega, fun _ => by show (f n : Int) < f q; omega⟩
    · rename_i hnc
      have ih := chpF_fst h
      refine ⟨⟨by have := ih.1.1; omega, ih.1.2⟩, fun q hq => ?_⟩
      by_cases hqn : q = n
      · subst hqn
        have hge : ¬ f q < f t := fun hlt => hnc ⟨hq.2, fun b hb => by rw [h] at hb; cases hb; exact hlt⟩
        exact ⟨by show (f t : Int) ≤ f q; omega, fun hh => absurd hh (by have := ih.1.1; omega)⟩
      · exact ih.2 q ⟨by omega, hq.2⟩
theorem chpF_is {f : Nat → Nat} {a sl : Nat} : ∀ {n q : Nat}, q < n → near a q ≤ sl → ∃ t, chpF f a sl n = some t
  | 0, q, h, _ => absurd h (by omega)
  | n + 1, q, h, hq => by
    unfold chpF
    split
    · exact ⟨n, rfl⟩
    · rename_i hnc
      by_cases hqn : q = n
      · subst hqn
        cases hp : chpF f a sl q with
        | none => exact absurd ⟨hq, fun b hb => by rw [hp] at hb; cases hb⟩ hnc
        | some t => exact ⟨t, rfl⟩
      · exact chpF_is (by omega) hq
theorem chp_cl {f : Nat → Nat} {h : Nat → Int} {a sl : Nat} (e : ∀ p, p < 100 → h p = (f p : Int)) (hc : cvx h 100) (ha : a < 100) : chp f a sl = cl (fbF h 100) sl a := by
  obtain ⟨t, ht⟩ := chpF_is (f := f) (a := a) (sl := sl) (n := 100) (q := a) ha (by unfold near; omega)
  have h1 := chpF_fst ht
  have h2 := cl_fst (sl := sl) (by omega) hc ha
  unfold chp
  rw [ht]
  show t = _
  have h1' : fstM h (fun q => q < 100 ∧ near a q ≤ sl) t := ⟨h1.1, fun q hq => by rw [e t h1.1.1, e q hq.1]; exact h1.2 q hq⟩
  exact fstM_uniq h1' h2
theorem onw_dp {g : Nat → Int32} (hn : 1 ≤ vN g 0) : ∀ i, i < vN g 0 → ∀ p, p < 100 → dpF (costZ g false) 100 (vN g 11) (vN g 0) i p = (onw g i p : Int)
  | 0, _, p, _ => by
    show costZ g false (vN g 0 - 1) p = _
    unfold costZ
    rw [if_neg (by decide)]; rfl
  | i + 1, hi, p, hp => by
    have ih := onw_dp hn i (by omega)
    have hcv := dpF_cvx (C := costZ g false) (P := 100) (sl := vN g 11) (n := vN g 0) (by omega) (fun c _ => costZ_cvx) i (by omega)
    have hcl := chp_cl (sl := vN g 11) ih hcv hp
    show costZ g false (vN g 0 - 1 - (i + 1)) p + dpF (costZ g false) 100 (vN g 11) (vN g 0) i (cl (fbF (dpF (costZ g false) 100 (vN g 11) (vN g 0) i) 100) (vN g 11) p) = ((cst g (vN g 0 - 1 - (i + 1)) p + onw g i (chp (onw g i) p (vN g 11)) : Nat) : Int)
    have hl := cl_lt (sl := vN g 11) (fb_lt (f := dpF (costZ g false) 100 (vN g 11) (vN g 0) i) (P := 100) (by omega)) hp
    rw [hcl, ih _ hl]
    unfold costZ
    rw [if_neg (by decide)]
    omega
