/-! ===== the class: shapes of its objects; a Making lies at mk ===== -/
def mKs : List (Nat × Nat) := [(0, 2), (1, 1), (10, 10), (63, 8), (66, 0), (72, 4), (75, 3)]
def mPs : List (Nat × Nat × Nat) := [(0, 0, 1), (0, 1, 10), (0, 2, 63), (0, 3, 66), (0, 4, 72), (0, 5, 75), (0, 6, 80), (1, 1, 2), (1, 2, 3), (1, 3, 4), (1, 5, 5), (1, 6, 6), (1, 7, 7), (1, 8, 8), (1, 9, 9), (10, 0, 11), (10, 2, 12), (10, 3, 13), (10, 5, 14), (63, 0, 64), (63, 2, 65), (66, 0, 67), (66, 1, 68), (66, 2, 69), (66, 4, 70), (66, 5, 71), (72, 2, 73), (72, 3, 74), (75, 0, 76), (75, 1, 77), (75, 3, 78), (75, 5, 79)]
def mAs : List (Nat × Nat × Nat) := [(80, 13, 2000), (2, 13, 24), (3, 13, 24), (4, 13, 24), (5, 13, 6), (6, 13, 24), (7, 13, 199), (8, 13, 199), (9, 13, 24), (11, 17, 24), (12, 13, 8), (13, 13, 8), (14, 13, 24), (64, 16, 14), (65, 13, 96), (67, 13, 20), (68, 13, 20), (69, 13, 20), (70, 13, 40), (71, 13, 63), (73, 13, 20), (74, 13, 20), (76, 13, 6), (77, 13, 6), (78, 13, 8), (79, 13, 256)]
/-- a work at b -/
def ShW (Z : zS) (b : Nat) : Prop := zk Z b 9 ∧ Z.2.2.2 b 7 = some (b + 1) ∧ za Z (b + 1) 13 2
def ShM (Z : zS) (mk : Nat) : Prop := (∀ q ∈ mKs, zk Z (mk + q.1) q.2) ∧ (∀ q ∈ mPs, Z.2.2.2 (mk + q.1) q.2.1 = some (mk + q.2.2)) ∧ (∀ q ∈ mAs, za Z (mk + q.1) q.2.1 q.2.2) ∧ ∀ w, w < 24 → Z.2.2.2 (mk + 11) w = some (mk + 15 + 2 * w) ∧ ShW Z (mk + 15 + 2 * w)
section
variable {Z : zS} {mk : Nat}
theorem mK_M (h : ShM Z mk) : zk Z (mk) 2 := h.1 (0, 2) (by decide)
theorem mK_Gr (h : ShM Z mk) : zk Z (mk + 1) 1 := h.1 (1, 1) (by decide)
theorem mK_Ws (h : ShM Z mk) : zk Z (mk + 10) 10 := h.1 (10, 10) (by decide)
theorem mK_Ts (h : ShM Z mk) : zk Z (mk + 63) 8 := h.1 (63, 8) (by decide)
theorem mK_Cl (h : ShM Z mk) : zk Z (mk + 66) 0 := h.1 (66, 0) (by decide)
theorem mK_Pu (h : ShM Z mk) : zk Z (mk + 72) 4 := h.1 (72, 4) (by decide)
theorem mK_Ma (h : ShM Z mk) : zk Z (mk + 75) 3 := h.1 (75, 3) (by decide)
theorem mP_Gr (h : ShM Z mk) : Z.2.2.2 (mk) 0 = some (mk + 1) := h.2.1 (0, 0, 1) (by decide)
theorem mP_Ws (h : ShM Z mk) : Z.2.2.2 (mk) 1 = some (mk + 10) := h.2.1 (0, 1, 10) (by decide)
theorem mP_Ts (h : ShM Z mk) : Z.2.2.2 (mk) 2 = some (mk + 63) := h.2.1 (0, 2, 63) (by decide)
theorem mP_Cl (h : ShM Z mk) : Z.2.2.2 (mk) 3 = some (mk + 66) := h.2.1 (0, 3, 66) (by decide)
theorem mP_Pu (h : ShM Z mk) : Z.2.2.2 (mk) 4 = some (mk + 72) := h.2.1 (0, 4, 72) (by decide)
theorem mP_Ma (h : ShM Z mk) : Z.2.2.2 (mk) 5 = some (mk + 75) := h.2.1 (0, 5, 75) (by decide)
theorem mP_wetness (h : ShM Z mk) : Z.2.2.2 (mk) 6 = some (mk + 80) := h.2.1 (0, 6, 80) (by decide)
theorem mP_surface (h : ShM Z mk) : Z.2.2.2 (mk + 1) 1 = some (mk + 2) := h.2.1 (1, 1, 2) (by decide)
theorem mP_level (h : ShM Z mk) : Z.2.2.2 (mk + 1) 2 = some (mk + 3) := h.2.1 (1, 2, 3) (by decide)
theorem mP_stratum (h : ShM Z mk) : Z.2.2.2 (mk + 1) 3 = some (mk + 4) := h.2.1 (1, 3, 4) (by decide)
theorem mP_ruleRow (h : ShM Z mk) : Z.2.2.2 (mk + 1) 5 = some (mk + 5) := h.2.1 (1, 5, 5) (by decide)
theorem mP_bestLevel (h : ShM Z mk) : Z.2.2.2 (mk + 1) 6 = some (mk + 6) := h.2.1 (1, 6, 6) (by decide)
theorem mP_least (h : ShM Z mk) : Z.2.2.2 (mk + 1) 7 = some (mk + 7) := h.2.1 (1, 7, 7) (by decide)
theorem mP_leastBehind (h : ShM Z mk) : Z.2.2.2 (mk + 1) 8 = some (mk + 8) := h.2.1 (1, 8, 8) (by decide)
theorem mP_firstBest (h : ShM Z mk) : Z.2.2.2 (mk + 1) 9 = some (mk + 9) := h.2.1 (1, 9, 9) (by decide)
theorem mP_allW (h : ShM Z mk) : Z.2.2.2 (mk + 10) 0 = some (mk + 11) := h.2.1 (10, 0, 11) (by decide)
theorem mP_gangHands (h : ShM Z mk) : Z.2.2.2 (mk + 10) 2 = some (mk + 12) := h.2.1 (10, 2, 12) (by decide)
theorem mP_gangPlace (h : ShM Z mk) : Z.2.2.2 (mk + 10) 3 = some (mk + 13) := h.2.1 (10, 3, 13) (by decide)
theorem mP_ends (h : ShM Z mk) : Z.2.2.2 (mk + 10) 5 = some (mk + 14) := h.2.1 (10, 5, 14) (by decide)
theorem mP_allT (h : ShM Z mk) : Z.2.2.2 (mk + 63) 0 = some (mk + 64) := h.2.1 (63, 0, 64) (by decide)
theorem mP_stack (h : ShM Z mk) : Z.2.2.2 (mk + 63) 2 = some (mk + 65) := h.2.1 (63, 2, 65) (by decide)
theorem mP_from (h : ShM Z mk) : Z.2.2.2 (mk + 66) 0 = some (mk + 67) := h.2.1 (66, 0, 67) (by decide)
theorem mP_to (h : ShM Z mk) : Z.2.2.2 (mk + 66) 1 = some (mk + 68) := h.2.1 (66, 1, 68) (by decide)
theorem mP_cause (h : ShM Z mk) : Z.2.2.2 (mk + 66) 2 = some (mk + 69) := h.2.1 (66, 2, 69) (by decide)
theorem mP_grants (h : ShM Z mk) : Z.2.2.2 (mk + 66) 4 = some (mk + 70) := h.2.1 (66, 4, 70) (by decide)
theorem mP_taken (h : ShM Z mk) : Z.2.2.2 (mk + 66) 5 = some (mk + 71) := h.2.1 (66, 5, 71) (by decide)
theorem mP_dueDay (h : ShM Z mk) : Z.2.2.2 (mk + 72) 2 = some (mk + 73) := h.2.1 (72, 2, 73) (by decide)
theorem mP_dueCoins (h : ShM Z mk) : Z.2.2.2 (mk + 72) 3 = some (mk + 74) := h.2.1 (72, 3, 74) (by decide)
theorem mP_faceDay (h : ShM Z mk) : Z.2.2.2 (mk + 75) 0 = some (mk + 76) := h.2.1 (75, 0, 76) (by decide)
theorem mP_faceYards (h : ShM Z mk) : Z.2.2.2 (mk + 75) 1 = some (mk + 77) := h.2.1 (75, 1, 77) (by decide)
theorem mP_thrust (h : ShM Z mk) : Z.2.2.2 (mk + 75) 3 = some (mk + 78) := h.2.1 (75, 3, 78) (by decide)
theorem mP_canGoOn (h : ShM Z mk) : Z.2.2.2 (mk + 75) 5 = some (mk + 79) := h.2.1 (75, 5, 79) (by decide)
theorem mA_wetness (h : ShM Z mk) : za Z (mk + 80) 13 2000 := h.2.2.1 (80, 13, 2000) (by decide)
theorem mA_surface (h : ShM Z mk) : za Z (mk + 2) 13 24 := h.2.2.1 (2, 13, 24) (by decide)
theorem mA_level (h : ShM Z mk) : za Z (mk + 3) 13 24 := h.2.2.1 (3, 13, 24) (by decide)
theorem mA_stratum (h : ShM Z mk) : za Z (mk + 4) 13 24 := h.2.2.1 (4, 13, 24) (by decide)
theorem mA_ruleRow (h : ShM Z mk) : za Z (mk + 5) 13 6 := h.2.2.1 (5, 13, 6) (by decide)
theorem mA_bestLevel (h : ShM Z mk) : za Z (mk + 6) 13 24 := h.2.2.1 (6, 13, 24) (by decide)
theorem mA_least (h : ShM Z mk) : za Z (mk + 7) 13 199 := h.2.2.1 (7, 13, 199) (by decide)
theorem mA_leastBehind (h : ShM Z mk) : za Z (mk + 8) 13 199 := h.2.2.1 (8, 13, 199) (by decide)
theorem mA_firstBest (h : ShM Z mk) : za Z (mk + 9) 13 24 := h.2.2.1 (9, 13, 24) (by decide)
theorem mA_allW (h : ShM Z mk) : za Z (mk + 11) 17 24 := h.2.2.1 (11, 17, 24) (by decide)
theorem mA_gangHands (h : ShM Z mk) : za Z (mk + 12) 13 8 := h.2.2.1 (12, 13, 8) (by decide)
theorem mA_gangPlace (h : ShM Z mk) : za Z (mk + 13) 13 8 := h.2.2.1 (13, 13, 8) (by decide)
theorem mA_ends (h : ShM Z mk) : za Z (mk + 14) 13 24 := h.2.2.1 (14, 13, 24) (by decide)
theorem mA_allT (h : ShM Z mk) : za Z (mk + 64) 16 14 := h.2.2.1 (64, 16, 14) (by decide)
theorem mA_stack (h : ShM Z mk) : za Z (mk + 65) 13 96 := h.2.2.1 (65, 13, 96) (by decide)
theorem mA_from (h : ShM Z mk) : za Z (mk + 67) 13 20 := h.2.2.1 (67, 13, 20) (by decide)
theorem mA_to (h : ShM Z mk) : za Z (mk + 68) 13 20 := h.2.2.1 (68, 13, 20) (by decide)
theorem mA_cause (h : ShM Z mk) : za Z (mk + 69) 13 20 := h.2.2.1 (69, 13, 20) (by decide)
theorem mA_grants (h : ShM Z mk) : za Z (mk + 70) 13 40 := h.2.2.1 (70, 13, 40) (by decide)
theorem mA_taken (h : ShM Z mk) : za Z (mk + 71) 13 63 := h.2.2.1 (71, 13, 63) (by decide)
theorem mA_dueDay (h : ShM Z mk) : za Z (mk + 73) 13 20 := h.2.2.1 (73, 13, 20) (by decide)
theorem mA_dueCoins (h : ShM Z mk) : za Z (mk + 74) 13 20 := h.2.2.1 (74, 13, 20) (by decide)
theorem mA_faceDay (h : ShM Z mk) : za Z (mk + 76) 13 6 := h.2.2.1 (76, 13, 6) (by decide)
theorem mA_faceYards (h : ShM Z mk) : za Z (mk + 77) 13 6 := h.2.2.1 (77, 13, 6) (by decide)
theorem mA_thrust (h : ShM Z mk) : za Z (mk + 78) 13 8 := h.2.2.1 (78, 13, 8) (by decide)
theorem mA_canGoOn (h : ShM Z mk) : za Z (mk + 79) 13 256 := h.2.2.1 (79, 13, 256) (by decide)
theorem mP_W (h : ShM Z mk) {w : Nat} (hw : w < 24) : Z.2.2.2 (mk + 11) w = some (mk + 15 + 2 * w) := (h.2.2.2 w hw).1
theorem mS_W (h : ShM Z mk) {w : Nat} (hw : w < 24) : ShW Z (mk + 15 + 2 * w) := (h.2.2.2 w hw).2
theorem mK_W (h : ShM Z mk) {w : Nat} (hw : w < 24) : zk Z (mk + 15 + 2 * w) 9 := (h.2.2.2 w hw).2.1
theorem mP_measured (h : ShM Z mk) {w : Nat} (hw : w < 24) : Z.2.2.2 (mk + 15 + 2 * w) 7 = some (mk + 15 + 2 * w + 1) := (h.2.2.2 w hw).2.2.1
theorem mA_measured (h : ShM Z mk) {w : Nat} (hw : w < 24) : za Z (mk + 15 + 2 * w + 1) 13 2 := (h.2.2.2 w hw).2.2.2
end
/-- a survey at b -/
def ShV (Z : zS) (b : Nat) : Prop := zk Z b 5 ∧ Z.2.2.2 b 2 = some (b + 1) ∧ za Z (b + 1) 13 24
def lPs : List (Nat × Nat × Nat) := [(0, 0, 1), (0, 1, 82), (0, 2, 163), (0, 3, 244), (0, 4, 248), (0, 5, 257), (244, 0, 245), (244, 3, 246), (244, 5, 247)]
def lAs : List (Nat × Nat × Nat) := [(248, 15, 4), (257, 13, 60), (245, 13, 96), (246, 13, 96), (247, 13, 96)]
def ShL (Z : zS) : Prop := (zk Z 0 11 ∧ zk Z 244 6) ∧ (∀ q ∈ lPs, Z.2.2.2 q.1 q.2.1 = some q.2.2) ∧ (∀ q ∈ lAs, za Z q.1 q.2.1 q.2.2) ∧ (∀ v, v < 4 → Z.2.2.2 248 v = some (249 + 2 * v) ∧ ShV Z (249 + 2 * v)) ∧ ShM Z 1 ∧ ShM Z 82 ∧ ShM Z 163
section
variable {Z : zS}
theorem lK_L (h : ShL Z) : zk Z 0 11 := h.1.1
theorem lK_Tp (h : ShL Z) : zk Z 244 6 := h.1.2
theorem lP_M (h : ShL Z) : Z.2.2.2 0 0 = some 1 := h.2.1 (0, 0, 1) (by decide)
theorem lP_Im (h : ShL Z) : Z.2.2.2 0 1 = some 82 := h.2.1 (0, 1, 82) (by decide)
theorem lP_Tr (h : ShL Z) : Z.2.2.2 0 2 = some 163 := h.2.1 (0, 2, 163) (by decide)
theorem lP_Tp (h : ShL Z) : Z.2.2.2 0 3 = some 244 := h.2.1 (0, 3, 244) (by decide)
theorem lP_surveys (h : ShL Z) : Z.2.2.2 0 4 = some 248 := h.2.1 (0, 4, 248) (by decide)
theorem lP_waiting (h : ShL Z) : Z.2.2.2 0 5 = some 257 := h.2.1 (0, 5, 257) (by decide)
theorem lP_bytes (h : ShL Z) : Z.2.2.2 244 0 = some 245 := h.2.1 (244, 0, 245) (by decide)
theorem lP_code (h : ShL Z) : Z.2.2.2 244 3 = some 246 := h.2.1 (244, 3, 246) (by decide)
theorem lP_signs (h : ShL Z) : Z.2.2.2 244 5 = some 247 := h.2.1 (244, 5, 247) (by decide)
theorem lA_surveys (h : ShL Z) : za Z 248 15 4 := h.2.2.1 (248, 15, 4) (by decide)
theorem lA_waiting (h : ShL Z) : za Z 257 13 60 := h.2.2.1 (257, 13, 60) (by decide)
theorem lA_bytes (h : ShL Z) : za Z 245 13 96 := h.2.2.1 (245, 13, 96) (by decide)
theorem lA_code (h : ShL Z) : za Z 246 13 96 := h.2.2.1 (246, 13, 96) (by decide)
theorem lA_signs (h : ShL Z) : za Z 247 13 96 := h.2.2.1 (247, 13, 96) (by decide)
theorem lP_V (h : ShL Z) {v : Nat} (hv : v < 4) : Z.2.2.2 248 v = some (249 + 2 * v) := (h.2.2.2.1 v hv).1
theorem lS_V (h : ShL Z) {v : Nat} (hv : v < 4) : ShV Z (249 + 2 * v) := (h.2.2.2.1 v hv).2
theorem lM1 (h : ShL Z) : ShM Z 1 := h.2.2.2.2.1
theorem lM2 (h : ShL Z) : ShM Z 82 := h.2.2.2.2.2.1
theorem lM3 (h : ShL Z) : ShM Z 163 := h.2.2.2.2.2.2
end
