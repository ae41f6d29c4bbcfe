section
variable {l : Launch} {G : zG} {Z : zS} {I : zI} {g : Nat → Int32} {Q : Option Value → zS → zI → Prop}
theorem lD_X12_haul (hZ : ShR Z) {c b : Nat} {D : Int32} {f : Nat → Nat} (hf : bnd f 1000000000) (h14 : g 14 = nI b) (hb : b ≤ 99) (hx : ∀ I' : zI, offH I I' → rwOK (I' q_coins) (hlU f b) → zX l G mX12_haul 2 0 0 182 [some (.ref qR), some (.int (nI c)), some (.int D), none] [] Z (va_up I' q_s g) Q) : ∀ m k (I' : zI), offH I I' → (∀ j, j < k → I' q_coins j = nI (hlU f b j)) → (∀ j, k ≤ j → j ≤ 4800 → I' q_coins j = nI (f j)) → 1 ≤ k → k ≤ 4801 → 4801 - k < m → zX l G mX12_haul 2 0 0 138 [some (.ref qR), some (.int (nI c)), some (.int D), some (.int (nI k))] [] Z (va_up I' q_s g) Q := by
  intro m
  induction m with
  | zero => intro k I' _ _ _ _ _ h; exact absurd h (by omega)
  | succ m ih =>
    intro k I' hI hr ho hk1 hk hm
    refine x_ild3 (n := 139) dX12_haul_138 rfl ?_
    refine x_sipush (n := 142) (v := nI 4800) dX12_haul_139 rfl (by decide) ?_
    refine x_icmpN_gt (n := 145) (tgt := 182) dX12_haul_142 rfl (by decide) (by omega) (by omega) (fun c_142 => ?_) (fun c_142 => ?_)
    · exact x_fg3 (hx I' hI (fun j hj => hr j (by omega)))
    · have hfk := hf k (by omega)
      have hfj := hf (k - 1) (by omega)
      have hu := hlU_le f b (k - 1)
      refine x_ald0 (n := 146) dX12_haul_145 rfl ?_
      refine x_getR (n := 149) flX12_43 rfl dX12_haul_146 rfl (rK hZ) (rP_coins hZ) ?_
      refine x_ild3 (n := 150) dX12_haul_149 rfl ?_
      refine x_ald0 (n := 151) dX12_haul_150 rfl ?_
      refine x_getR (n := 154) flX12_43 rfl dX12_haul_151 rfl (rK hZ) (rP_coins hZ) ?_
      refine x_ild3 (n := 155) dX12_haul_154 rfl ?_
      refine x_old (n := 156) dX12_haul_155 rfl (rA_coins hZ) (by decide) (Nat.le_of_ble_eq_true rfl) (by omega) ?_
      rw [ho k (by omega) (by omega)]
      refine x_ald0 (n := 157) dX12_haul_156 rfl ?_
      refine x_getR (n := 160) flX12_43 rfl dX12_haul_157 rfl (rK hZ) (rP_coins hZ) ?_
      refine x_ild3 (n := 161) dX12_haul_160 rfl ?_
      refine x_ic1 (n := 162) dX12_haul_161 rfl ?_
      refine x_isubN (n := 163) dX12_haul_162 rfl (by omega) ?_
      refine x_old (n := 164) dX12_haul_163 rfl (rA_coins hZ) (by decide) (Nat.le_of_ble_eq_true rfl) (by omega) ?_
      rw [hr (k - 1) (by omega)]
      refine x_ald0 (n := 165) dX12_haul_164 rfl ?_
      refine x_getR (n := 168) flX12_7 rfl dX12_haul_165 rfl (rK hZ) (rP_s hZ) ?_
      refine x_bipush (n := 170) (v := nI 14) dX12_haul_168 rfl (by decide) ?_
      refine x_sld (n := 171) dX12_haul_170 rfl hZ (by omega) ?_
      rw [h14]
      refine x_iaddN (n := 172) dX12_haul_171 rfl ?_
      refine x_cS2 (n := 175) (d' := 0) zcX12_least mlX12_142 dX12_haul_172 rfl (Nat.le_of_ble_eq_true rfl) (Nat.le_of_ble_eq_true rfl) ?_
      refine c_leastN (by omega) (by omega) ?_
      refine x_some ?_
      refine x_ost (n := 176) dX12_haul_175 rfl (rA_coins hZ) (by decide) (Nat.le_of_ble_eq_true rfl) (by omega) ?_
      refine x_iincN3 (n := 179) (k := 1) dX12_haul_176 rfl (by decide) rfl ?_
      refine x_goto (n := 138) dX12_haul_179 (by decide) ?_
      refine ih (k + 1) _ (fun p h1 h2 => by rw [va_up_off h1]; exact hI p h1 h2) (fun j hj => ?_) (fun j h1 h2 => ?_) (by omega) (by omega) (by omega)
      · rw [va_up_same]
        by_cases e : j = k
        · subst e
          rw [upd_same]
          match j, hk1 with
          | j + 1, _ => rfl
        · rw [upd_off e]; exact hr j (by omega)
      · rw [va_up_same, upd_off (by omega)]; exact ho j (by omega) h2
theorem lE_X12_haul (hZ : ShR Z) {c b : Nat} {D : Int32} {f : Nat → Nat} (hf : bnd f 1000000000) (h15 : g 15 = nI b) (hb : b ≤ 99) (hx : ∀ I' : zI, offH I I' → rwOK (I' q_coins) (hlD f b) → zX l G mX12_haul 2 0 0 227 [some (.ref qR), some (.int (nI c)), none, none] [] Z (va_up I' q_s g) Q) : ∀ r (I' : zI), r ≤ 4800 → offH I I' → (∀ j, r ≤ j → j ≤ 4800 → I' q_coins j = nI (hlD f b j)) → (∀ j, j < r → I' q_coins j = nI (f j)) → zX l G mX12_haul 2 0 0 186 [some (.ref qR), some (.int (nI c)), some (.int D), some (.int (nI r + Int32.ofInt (-1)))] [] Z (va_up I' q_s g) Q := by
  intro r
  induction r with
  | zero =>
    intro I' _ hI hr ho
    refine x_ild3 (n := 187) dX12_haul_186 rfl ?_
    refine x_if_lt (n := 190) (tgt := 227) dX12_haul_187 rfl (by decide) (fun c_187 => ?_) (fun c_187 => ?_)
    · exact x_fg2 (x_fg3 (hx I' hI (fun j hj => hr j (by omega) hj)))
    · exact absurd (by decide) c_187
  | succ r ih =>
    intro I' hr4 hI hr ho
    rw [zdec (by omega), Nat.add_sub_cancel]
    have hfk := hf r (by omega)
    have hfj := hf (r + 1) (by omega)
    have hd := hlD_le (f := f) (s := b) (show r + 1 ≤ 4800 by omega)
    refine x_ild3 (n := 187) dX12_haul_186 rfl ?_
    refine x_if_lt (n := 190) (tgt := 227) dX12_haul_187 rfl (by decide) (fun c_187 => ?_) (fun c_187 => ?_)
    · exact absurd c_187 (nI_pos (by omega))
    · refine x_ald0 (n := 191) dX12_haul_190 rfl ?_
      refine x_getR (n := 194) flX12_43 rfl dX12_haul_191 rfl (rK hZ) (rP_coins hZ) ?_
      refine x_ild3 (n := 195) dX12_haul_194 rfl ?_
      refine x_ald0 (n := 196) dX12_haul_195 rfl ?_
      refine x_getR (n := 199) flX12_43 rfl dX12_haul_196 rfl (rK hZ) (rP_coins hZ) ?_
      refine x_ild3 (n := 200) dX12_haul_199 rfl ?_
      refine x_old (n := 201) dX12_haul_200 rfl (rA_coins hZ) (by decide) (Nat.le_of_ble_eq_true rfl) (by omega) ?_
      rw [ho r (by omega)]
      refine x_ald0 (n := 202) dX12_haul_201 rfl ?_
      refine x_getR (n := 205) flX12_43 rfl dX12_haul_202 rfl (rK hZ) (rP_coins hZ) ?_
      refine x_ild3 (n := 206) dX12_haul_205 rfl ?_
      refine x_ic1 (n := 207) dX12_haul_206 rfl ?_
      refine x_iaddN (n := 208) dX12_haul_207 rfl ?_
      refine x_old (n := 209) dX12_haul_208 rfl (rA_coins hZ) (by decide) (Nat.le_of_ble_eq_true rfl) (by omega) ?_
      rw [hr (r + 1) (by omega) (by omega)]
      refine x_ald0 (n := 210) dX12_haul_209 rfl ?_
      refine x_getR (n := 213) flX12_7 rfl dX12_haul_210 rfl (rK hZ) (rP_s hZ) ?_
      refine x_bipush (n := 215) (v := nI 15) dX12_haul_213 rfl (by decide) ?_
      refine x_sld (n := 216) dX12_haul_215 rfl hZ (by omega) ?_
      rw [h15]
      refine x_iaddN (n := 217) dX12_haul_216 rfl ?_
      refine x_cS2 (n := 220) (d' := 0) zcX12_least mlX12_142 dX12_haul_217 rfl (Nat.le_of_ble_eq_true rfl) (Nat.le_of_ble_eq_true rfl) ?_
      refine c_leastN (by omega) (by omega) ?_
      refine x_some ?_
      refine x_ost (n := 221) dX12_haul_220 rfl (rA_coins hZ) (by decide) (Nat.le_of_ble_eq_true rfl) (by omega) ?_
      refine x_iinc3 (n := 224) (v := nI r + Int32.ofInt (-1)) dX12_haul_221 rfl (by decide) rfl rfl ?_
      refine x_goto (n := 186) dX12_haul_224 (by decide) ?_
      refine ih _ (by omega) (fun p h1 h2 => by rw [va_up_off h1]; exact hI p h1 h2) (fun j h1 h2 => ?_) (fun j hj => ?_)
      · rw [va_up_same]
        by_cases e : j = r
        · subst e; rw [upd_same, hlD_s (k := j) (by omega)]
        · rw [upd_off e]; exact hr j (by omega) h2
      · rw [va_up_same, upd_off (by omega)]; exact ho j (by omega)
theorem lF_X12_haul (hZ : ShR Z) (hB : InvB g) (hq : ∀ I' : zI, offH I I' → Q (some (.int (f_haul g))) Z (va_up I' q_s g)) : ∀ m c (I' : zI), offH I I' → rwOK (I' q_coins) (hl g c) → c ≤ vN g 0 → vN g 0 - c < m → zX l G mX12_haul 2 0 0 36 [some (.ref qR), some (.int (nI c)), none, none] [] Z (va_up I' q_s g) Q := by
  have h0 := iv0 hB
  have h14 : rg (g 14) 0 99 := ivR hB (k := 3) (by omega)
  have h15 : rg (g 15) 0 99 := ivR hB (k := 4) (by omega)
  have e14 := rg_nI h14 (by omega) (by omega)
  have e15 := rg_nI h15 (by omega) (by omega)
  have l14 := rg_le h14 (by omega)
  have l15 := rg_le h15 (by omega)
  intro m
  induction m with
  | zero => intro c I' _ _ _ h; exact absurd h (by omega)
  | succ m ih =>
    intro c I' hI ho hc hm
    refine x_ild1 (n := 37) dX12_haul_36 rfl ?_
    refine x_ald0 (n := 38) dX12_haul_37 rfl ?_
    refine x_getR (n := 41) flX12_7 rfl dX12_haul_38 rfl (rK hZ) (rP_s hZ) ?_
    refine x_ic0 (n := 42) dX12_haul_41 rfl ?_
    refine x_sld (n := 43) dX12_haul_42 rfl hZ (by omega) ?_
    rw [h0.1]
    refine x_icmpN_ge (n := 46) (tgt := 233) dX12_haul_43 rfl (by decide) (by omega) (by omega) (fun c_43 => ?_) (fun c_43 => ?_)
    · refine x_ald0 (n := 234) dX12_haul_233 rfl ?_
      refine x_getR (n := 237) flX12_43 rfl dX12_haul_234 rfl (rK hZ) (rP_coins hZ) ?_
      refine x_sipush (n := 240) (v := nI 2400) dX12_haul_237 rfl (by decide) ?_
      refine x_old (n := 241) dX12_haul_240 rfl (rA_coins hZ) (by decide) (Nat.le_of_ble_eq_true rfl) (by omega) ?_
      rw [ho 2400 (by omega)]
      refine r_iret dX12_haul_241 rfl ?_
      have e : c = vN g 0 := by omega
      subst e
      exact hq I' hI
    · have hc2 : c < vN g 0 := by omega
      obtain ⟨p1, p2, -⟩ := ivC hB hc2
      have e1 := rg_nI p1 (by omega) (by omega)
      have e2 := rg_nI p2 (by omega) (by omega)
      have l1 := rg_le p1 (by omega)
      have l2 := rg_le p2 (by omega)
      have e2' : g (21 + 4 * c) = nI (vN g (20 + 4 * c + 1)) := by rw [← e2]; exact congrArg g (by omega)
      refine x_ald0 (n := 47) dX12_haul_46 rfl ?_
      refine x_ild1 (n := 48) dX12_haul_47 rfl ?_
      refine x_cV1 (n := 51) (d' := 1) zcX12_depth mlX12_117 dX12_haul_48 rfl (rK hZ) (Nat.le_of_ble_eq_true rfl) (Nat.le_of_ble_eq_true rfl) ?_
      refine c_X12_depth hZ (by omega) ?_
      refine x_some ?_
      refine x_ist2 (n := 52) dX12_haul_51 rfl (by decide) rfl ?_
      refine x_ic0 (n := 53) dX12_haul_52 rfl ?_
      refine x_ist3 (n := 54) dX12_haul_53 rfl (by decide) rfl ?_
      have hbn := hl_bnd g c
      have hbf : bnd (hl g c) 1000000000 := fun k hk => by have := hbn k hk; omega
      have hdep : (g (20 + 4 * c) - g (21 + 4 * c)).toInt = gDep g c := by rw [e1, e2', pk_sub_toInt (by omega) (by omega)]; rfl
      have hdr : -100 ≤ gDep g c ∧ gDep g c ≤ 100 := by unfold gDep; omega
      have hbS : bnd (hlS (hlB (hl g c)) (gDep g c)) 1000000000 := fun k hk => by
        unfold hlS
        split
        · have := hbn ((k : Int) - gDep g c).toNat (by omega)
          unfold hlB near
          omega
        · omega
      have hbU : bnd (hlU (hlS (hlB (hl g c)) (gDep g c)) (vN g 14)) 1000000000 := fun k hk => Nat.le_trans (hlU_le _ _ k) (hbS k hk)
      refine lB_X12_haul (I := I') hZ hbf (fun I2 hI2 o2 => ?_) 4802 0 I' (fun _ _ _ => rfl) ho (fun j hj => absurd hj (by omega)) (by omega) (by omega)
      refine x_ic0 (n := 89) dX12_haul_88 rfl ?_
      refine x_ist3 (n := 90) dX12_haul_89 rfl (by decide) rfl ?_
      refine lC_X12_haul (I := I2) hZ hdep hdr (fun I3 hI3 o3 => ?_) 4802 0 I2 (fun _ _ _ => rfl) o2 (fun j hj => absurd hj (by omega)) (by omega) (by omega)
      refine x_ic1 (n := 137) dX12_haul_136 rfl ?_
      refine x_ist3 (n := 138) dX12_haul_137 rfl (by decide) rfl ?_
      refine lD_X12_haul (I := I3) hZ hbS e14 (by omega) (fun I4 hI4 o4 => ?_) 4802 1 I3 (fun _ _ _ => rfl) (fun j hj => ?_) (fun j _ hj => o3 j hj) (by omega) (by omega) (by omega)
      · refine x_sipush (n := 185) (v := nI 4799) dX12_haul_182 rfl (by decide) ?_
        refine x_ist3 (n := 186) dX12_haul_185 rfl (by decide) rfl ?_
        have := lE_X12_haul (l := l) (G := G) (Q := Q) (g := g) (I := I4) (c := c) (D := g (20 + 4 * c) - g (21 + 4 * c)) hZ hbU e15 (by omega) (fun I5 hI5 o5 => ?_) 4800 I4 (by omega) (fun _ _ _ => rfl) (fun j h1 h2 => ?_) (fun j hj => o4 j (by omega))
        · rw [zdec (by omega)] at this; exact this
        · refine x_iincN1 (n := 230) (k := 1) dX12_haul_227 rfl (by decide) rfl ?_
          refine x_goto (n := 36) dX12_haul_230 (by decide) ?_
          exact ih (c + 1) I5 (fun p h1 h2 => (hI5 p h1 h2).trans ((hI4 p h1 h2).trans ((hI3 p h1 h2).trans ((hI2 p h1 h2).trans (hI p h1 h2))))) o5 (by omega) (by omega)
        · rw [show j = 4800 by omega, o4 4800 (by omega)]; rfl
      · rw [show j = 0 by omega, o3 0 (by omega)]; rfl
theorem c_X12_haul (hZ : ShR Z) (hB : InvB g) (hq : ∀ I' : zI, offH I I' → Q (some (.int (f_haul g))) Z (va_up I' q_s g)) : zM l G mX12_haul 2 0 0 [.ref qR] Z (va_up I q_s g) Q := by
  refine x_entry [some (.ref qR), none, none, none] 3 rfl rfl (Nat.le_of_ble_eq_true rfl) ?_
  refine x_ic0 (n := 1) dX12_haul_0 rfl ?_
  refine x_ist1 (n := 2) dX12_haul_1 rfl (by decide) rfl ?_
  refine lA_X12_haul hZ (fun I' hI o => ?_) 4802 0 I (fun _ _ _ => rfl) (fun j hj => absurd hj (by omega)) (by omega) (by omega)
  refine x_ic0 (n := 35) dX12_haul_34 rfl ?_
  refine x_ist1 (n := 36) dX12_haul_35 rfl (by decide) rfl ?_
  exact lF_X12_haul hZ hB hq (vN g 0 + 1) 0 I' hI o (by omega) (by omega)
end
