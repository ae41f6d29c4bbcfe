def skD (f : Nat → Int32) (t : Nat) : Nat → Nat → Nat
  | 0, p => p
  | n + 1, p => if isDi f t p = true then skD f t n (p + 1) else p
def dgF (f : Nat → Int32) (b : Nat) : Nat → Int32
  | 0 => nI 0
  | i + 1 => if i < 4 then nI 10 * dgF f b i + f (b + i) - nI 48 else dgF f b i
theorem skL_le (f : Nat → Int32) (t : Nat) : ∀ n p, p ≤ skL f t n p ∧ skL f t n p ≤ p + n
  | 0, p => by unfold skL; omega
  | n + 1, p => by
    have := skL_le f t n (p + 1)
    unfold skL
    split <;> omega
theorem skD_le (f : Nat → Int32) (t : Nat) : ∀ n p, p ≤ skD f t n p ∧ skD f t n p ≤ p + n
  | 0, p => by unfold skD; omega
  | n + 1, p => by
    have := skD_le f t n (p + 1)
    unfold skD
    split <;> omega
section
variable {l : Launch} {G : zG} {Z : zS} {I : zI} {g : Nat → Int32} {Q : Option Value → zS → zI → Prop}
theorem l3_X12_next (hZ : ShR Z) {t s : Nat} {a b : Int32} (ht2 : t ≤ 96) (hb : I qR 16 = nI s) : ∀ n i (J : zI), jOff I J (fun i => i = 17 ∨ i = 19) → I qR 15 = nI t → J qR 17 = nI (s + i) → J qR 19 = dgF (I q_tape) s i → s + i + n = t →
    (∀ J' : zI, jOff I J' (fun i => i = 17 ∨ i = 19) → J' qR 17 = nI (skD (I q_tape) t n (s + i)) → J' qR 19 = dgF (I q_tape) s (skD (I q_tape) t n (s + i) - s) → zX l G mX12_next 2 0 0 282 [some (.ref qR), some (.int a), some (.int b)] [] Z (va_up J' q_s g) Q) →
    zX l G mX12_next 2 0 0 214 [some (.ref qR), some (.int a), some (.int b)] [] Z (va_up J q_s g) Q := by
  intro n
  induction n with
  | zero =>
    intro i J hJ ht hp hnum hn hx
    have e15 : J qR 15 = nI t := (hJ.2 15 (by omega)).trans ht
    have hx' := hx J hJ hp (by rw [hnum]; show _ = dgF _ _ (s + i - s); rw [show s + i - s = i by omega])
    refine x_ald0 (n := 215) dX12_next_214 rfl ?_
    refine x_ald0 (n := 216) dX12_next_215 rfl ?_
    refine x_rget (n := 219) flX12_226 rfl dX12_next_216 rfl hZ ?_
    rw [hp]
    refine x_cV1 (n := 222) (d' := 1) zcX12_isDigit mlX12_241 dX12_next_219 rfl (rK hZ) (Nat.le_of_ble_eq_true rfl) (Nat.le_of_ble_eq_true rfl) ?_
    refine c_X12_isDigit hZ e15 ht2 (by omega) ?_
    refine x_some ?_
    refine x_zif_eq (n := 225) (tgt := 282) dX12_next_222 rfl (by decide) (fun c_222 => ?_) (fun c_222 => ?_)
    · exact hx'
    · unfold isDi at c_222; rw [decide_eq_false (by omega)] at c_222; cases c_222
  | succ n ih =>
    intro i J hJ ht hp hnum hn hx
    have e15 : J qR 15 = nI t := (hJ.2 15 (by omega)).trans ht
    have e16 : J qR 16 = nI s := (hJ.2 16 (by omega)).trans hb
    have et : J q_tape = I q_tape := hJ.1 _ (by decide)
    unfold skD at hx
    have nx : ∀ v : Int32, v = dgF (I q_tape) s (i + 1) → isDi (I q_tape) t (s + i) = true → zX l G mX12_next 2 0 0 214 [some (.ref qR), some (.int a), some (.int b)] [] Z (va_up (va_up (va_up J qR (upd (J qR) 19 v)) qR (upd (va_up J qR (upd (J qR) 19 v) qR) 17 (nI (s + i + 1)))) q_s g) Q := by
      intro v hv hd
      rw [if_pos hd] at hx
      exact ih (i + 1) _ (jOff_up (jOff_up hJ (Or.inr rfl)) (Or.inl rfl)) ht (by rw [va_up_same, upd_same]; rfl) (by rw [va_up_same, upd_off (by omega), va_up_same, upd_same]; exact hv) (by omega) hx
    refine x_ald0 (n := 215) dX12_next_214 rfl ?_
    refine x_ald0 (n := 216) dX12_next_215 rfl ?_
    refine x_rget (n := 219) flX12_226 rfl dX12_next_216 rfl hZ ?_
    rw [hp]
    refine x_cV1 (n := 222) (d' := 1) zcX12_isDigit mlX12_241 dX12_next_219 rfl (rK hZ) (Nat.le_of_ble_eq_true rfl) (Nat.le_of_ble_eq_true rfl) ?_
    refine c_X12_isDigit hZ e15 ht2 (by omega) ?_
    rw [et]
    refine x_some ?_
    refine x_zif_eq (n := 225) (tgt := 282) dX12_next_222 rfl (by decide) (fun c_222 => ?_) (fun c_222 => ?_)
    · rw [if_neg (by rw [c_222]; decide)] at hx
      exact hx J hJ hp (by rw [hnum, show s + i - s = i by omega])
    · refine x_ald0 (n := 226) dX12_next_225 rfl ?_
      refine x_ald0 (n := 227) dX12_next_226 rfl ?_
      refine x_rget (n := 230) flX12_226 rfl dX12_next_227 rfl hZ ?_
      rw [hp]
      refine x_ald0 (n := 231) dX12_next_230 rfl ?_
      refine x_rget (n := 234) flX12_232 rfl dX12_next_231 rfl hZ ?_
      rw [e16]
      refine x_isubN (n := 235) dX12_next_234 rfl (by omega) ?_
      refine x_ic4 (n := 236) dX12_next_235 rfl ?_
      refine x_icmpN_ge (n := 239) (tgt := 262) dX12_next_236 rfl (by decide) (by omega) (by omega) (fun c_236 => ?_) (fun c_236 => ?_)
      · refine x_ald0 (n := 263) dX12_next_262 rfl ?_
        refine x_rget (n := 266) flX12_244 rfl dX12_next_263 rfl hZ ?_
        first | skip
        refine x_rput (n := 269) flX12_244 rfl rfl rfl rfl dX12_next_266 rfl hZ ?_
        refine x_ald0 (n := 270) dX12_next_269 rfl ?_
        refine x_dup (n := 271) dX12_next_270 rfl rfl ?_
        refine x_rget (n := 274) flX12_226 rfl dX12_next_271 rfl hZ ?_
        rw [va_up_same, upd_off (by omega), hp]
        refine x_ic1 (n := 275) dX12_next_274 rfl ?_
        refine x_iaddN (n := 276) dX12_next_275 rfl ?_
        refine x_rput (n := 279) flX12_226 rfl rfl rfl rfl dX12_next_276 rfl hZ ?_
        refine x_goto (n := 214) dX12_next_279 (by decide) ?_
        first | exact nx _ (by show _ = (if i < 4 then _ else _); rw [if_pos (by omega)]) c_222 | exact nx _ (by show _ = (if i < 4 then _ else _); rw [if_neg (by omega)]; exact hnum) c_222
      · refine x_bipush (n := 241) (v := nI 10) dX12_next_239 rfl (by decide) ?_
        refine x_ald0 (n := 242) dX12_next_241 rfl ?_
        refine x_rget (n := 245) flX12_244 rfl dX12_next_242 rfl hZ ?_
        rw [hnum]
        refine x_imul (n := 246) dX12_next_245 rfl ?_
        refine x_ald0 (n := 247) dX12_next_246 rfl ?_
        refine x_getR (n := 250) flX12_49 rfl dX12_next_247 rfl (rK hZ) (rP_tape hZ) ?_
        refine x_ald0 (n := 251) dX12_next_250 rfl ?_
        refine x_rget (n := 254) flX12_226 rfl dX12_next_251 rfl hZ ?_
        rw [hp]
        refine x_old (n := 255) dX12_next_254 rfl (rA_tape hZ) (by decide) (Nat.le_of_ble_eq_true rfl) (by omega) ?_
        rw [et]
        refine x_iadd (n := 256) dX12_next_255 rfl ?_
        refine x_bipush (n := 258) (v := nI 48) dX12_next_256 rfl (by decide) ?_
        refine x_isub (n := 259) dX12_next_258 rfl ?_
        refine x_goto (n := 266) dX12_next_259 (by decide) ?_
        first | skip
        refine x_rput (n := 269) flX12_244 rfl rfl rfl rfl dX12_next_266 rfl hZ ?_
        refine x_ald0 (n := 270) dX12_next_269 rfl ?_
        refine x_dup (n := 271) dX12_next_270 rfl rfl ?_
        refine x_rget (n := 274) flX12_226 rfl dX12_next_271 rfl hZ ?_
        rw [va_up_same, upd_off (by omega), hp]
        refine x_ic1 (n := 275) dX12_next_274 rfl ?_
        refine x_iaddN (n := 276) dX12_next_275 rfl ?_
        refine x_rput (n := 279) flX12_226 rfl rfl rfl rfl dX12_next_276 rfl hZ ?_
        refine x_goto (n := 214) dX12_next_279 (by decide) ?_
        first | exact nx _ (by show _ = (if i < 4 then _ else _); rw [if_pos (by omega)]) c_222 | exact nx _ (by show _ = (if i < 4 then _ else _); rw [if_neg (by omega)]; exact hnum) c_222
end
