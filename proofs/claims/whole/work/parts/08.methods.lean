theorem zs1 {w : Cond} (i : Nat) (h : tables_1_1[i]? = some w) (hg : goodWord w = true) : w ∈ zT := List.mem_filter.mpr ⟨List.mem_append_right _ ((fun h => (List.mem_append_left _ h : w ∈ tables_1)) (List.mem_of_getElem? h)), hg⟩
theorem zs2 {w : Cond} (i : Nat) (h : tables_1_2[i]? = some w) (hg : goodWord w = true) : w ∈ zT := List.mem_filter.mpr ⟨List.mem_append_right _ ((fun h => (List.mem_append_right _ (List.mem_append_left _ h) : w ∈ tables_1)) (List.mem_of_getElem? h)), hg⟩
theorem zs3 {w : Cond} (i : Nat) (h : tables_1_3[i]? = some w) (hg : goodWord w = true) : w ∈ zT := List.mem_filter.mpr ⟨List.mem_append_right _ ((fun h => (List.mem_append_right _ (List.mem_append_right _ (List.mem_append_left _ h)) : w ∈ tables_1)) (List.mem_of_getElem? h)), hg⟩
theorem zs4 {w : Cond} (i : Nat) (h : tables_1_4[i]? = some w) (hg : goodWord w = true) : w ∈ zT := List.mem_filter.mpr ⟨List.mem_append_right _ ((fun h => (List.mem_append_right _ (List.mem_append_right _ (List.mem_append_right _ (List.mem_append_left _ h))) : w ∈ tables_1)) (List.mem_of_getElem? h)), hg⟩
theorem zs5 {w : Cond} (i : Nat) (h : tables_1_5[i]? = some w) (hg : goodWord w = true) : w ∈ zT := List.mem_filter.mpr ⟨List.mem_append_right _ ((fun h => (List.mem_append_right _ (List.mem_append_right _ (List.mem_append_right _ (List.mem_append_right _ (List.mem_append_left _ h)))) : w ∈ tables_1)) (List.mem_of_getElem? h)), hg⟩
theorem zs6 {w : Cond} (i : Nat) (h : tables_1_6[i]? = some w) (hg : goodWord w = true) : w ∈ zT := List.mem_filter.mpr ⟨List.mem_append_right _ ((fun h => (List.mem_append_right _ (List.mem_append_right _ (List.mem_append_right _ (List.mem_append_right _ (List.mem_append_right _ (List.mem_append_left _ h))))) : w ∈ tables_1)) (List.mem_of_getElem? h)), hg⟩
theorem zs7 {w : Cond} (i : Nat) (h : tables_1_7[i]? = some w) (hg : goodWord w = true) : w ∈ zT := List.mem_filter.mpr ⟨List.mem_append_right _ ((fun h => (List.mem_append_right _ (List.mem_append_right _ (List.mem_append_right _ (List.mem_append_right _ (List.mem_append_right _ (List.mem_append_right _ (List.mem_append_left _ h)))))) : w ∈ tables_1)) (List.mem_of_getElem? h)), hg⟩
theorem zs8 {w : Cond} (i : Nat) (h : tables_1_8[i]? = some w) (hg : goodWord w = true) : w ∈ zT := List.mem_filter.mpr ⟨List.mem_append_right _ ((fun h => (List.mem_append_right _ (List.mem_append_right _ (List.mem_append_right _ (List.mem_append_right _ (List.mem_append_right _ (List.mem_append_right _ (List.mem_append_right _ (h))))))) : w ∈ tables_1)) (List.mem_of_getElem? h)), hg⟩
theorem zi_X0 : Cond.initialized RX0 ∈ zT := (zs1 8 (by decide +kernel) rfl)
theorem zi_X1 : Cond.initialized RX1 ∈ zT := (zs1 3 (by decide +kernel) rfl)
theorem zi_X2 : Cond.initialized RX2 ∈ zT := (zs1 2 (by decide +kernel) rfl)
theorem zi_X3 : Cond.initialized RX3 ∈ zT := (zs1 10 (by decide +kernel) rfl)
theorem zi_X4 : Cond.initialized RX4 ∈ zT := (zs1 9 (by decide +kernel) rfl)
theorem zi_X5 : Cond.initialized RX5 ∈ zT := (zs1 12 (by decide +kernel) rfl)
theorem zi_X6 : Cond.initialized RX6 ∈ zT := (zs1 11 (by decide +kernel) rfl)
theorem zi_X7 : Cond.initialized RX7 ∈ zT := (zs1 15 (by decide +kernel) rfl)
theorem zi_X8 : Cond.initialized RX8 ∈ zT := (zs1 7 (by decide +kernel) rfl)
theorem zi_X9 : Cond.initialized RX9 ∈ zT := (zs1 6 (by decide +kernel) rfl)
theorem zi_X10 : Cond.initialized RX10 ∈ zT := (zs1 5 (by decide +kernel) rfl)
theorem zi_X11 : Cond.initialized RX11 ∈ zT := (zs1 1 (by decide +kernel) rfl)
theorem zi_X12 : Cond.initialized RX12 ∈ zT := (zs1 13 (by decide +kernel) rfl)
theorem zi_J11 : Cond.initialized RJ11 ∈ zT := (zs1 20 (by decide +kernel) rfl)
theorem zi_J6 : Cond.initialized RJ6 ∈ zT := (zs1 22 (by decide +kernel) rfl)
theorem zi_J9 : Cond.initialized RJ9 ∈ zT := (zs1 4 (by decide +kernel) rfl)
theorem zi_J0 : Cond.initialized RJ0 ∈ zT := (zs1 16 (by decide +kernel) rfl)
theorem zi_J1 : Cond.initialized RJ1 ∈ zT := (zs1 17 (by decide +kernel) rfl)
theorem zi_J2 : Cond.initialized RJ2 ∈ zT := (zs1 19 (by decide +kernel) rfl)
theorem zi_J10 : Cond.initialized RJ10 ∈ zT := (zs1 14 (by decide +kernel) rfl)
theorem zi_J7 : Cond.initialized RJ7 ∈ zT := (zs1 21 (by decide +kernel) rfl)
theorem zi_J3 : Cond.initialized RJ3 ∈ zT := (zs1 18 (by decide +kernel) rfl)
theorem zi_L : Cond.initialized RL ∈ zT := (zs1 0 (by decide +kernel) rfl)
def zMv (md : zD) (nA ci : Nat) : Prop := zMd md nA ∧ Cond.instanceMethod md.1 ∈ zT ∧ Cond.selects md.1.cls md.1 md.1 ∈ zT ∧ ci < 13 ∧ zCn ci = md.1.cls
def zMs (md : zD) (nA : Nat) : Prop := zMd md nA ∧ Cond.static md.1 ∈ zT
def zMi (md : zD) (nA : Nat) : Prop := zMd md nA ∧ md.1.name = "<init>" ∧ md.2.2.2 = none ∧ Cond.instanceMethod md.1 ∈ zT
/-- the private methods' places -/
theorem zpr (i : Nat) {q : MethodName × Nat} (h : lw_privs[i]? = some q) : Cond.selects q.1.cls q.1 q.1 ∈ zT := zmemP (List.mem_of_getElem? h)
abbrev mX0_init : zD := (yX0_init, cX0_init, 1, none)
theorem zmX0_init : zMd mX0_init 0 := ⟨(zs1 198 rfl rfl), zi_X0, by decide +kernel, by decide⟩
theorem zcX0_init : zMi mX0_init 0 := ⟨zmX0_init, rfl, rfl, (zs1 197 (by decide +kernel) rfl)⟩
abbrev mX0_takeFrom : zD := (yX0_takeFrom, cX0_takeFrom, 2, none)
theorem zmX0_takeFrom : zMd mX0_takeFrom 1 := ⟨(zs6 19 rfl rfl), zi_X0, by decide +kernel, by decide⟩
theorem zcX0_takeFrom : zMv mX0_takeFrom 1 0 := ⟨zmX0_takeFrom, (zs6 17 (by decide +kernel) rfl), (zs6 18 (by decide +kernel) rfl), by decide, rfl⟩
abbrev mX0_addClaim : zD := (yX0_addClaim, cX0_addClaim, 4, some FieldType.int)
theorem zmX0_addClaim : zMd mX0_addClaim 3 := ⟨(zs5 29 rfl rfl), zi_X0, by decide +kernel, by decide⟩
theorem zcX0_addClaim : zMv mX0_addClaim 3 0 := ⟨zmX0_addClaim, (zs5 27 (by decide +kernel) rfl), (zs5 28 (by decide +kernel) rfl), by decide, rfl⟩
abbrev mX0_daysGiven : zD := (yX0_daysGiven, cX0_daysGiven, 7, some FieldType.int)
theorem zmX0_daysGiven : zMd mX0_daysGiven 3 := ⟨(zs5 42 rfl rfl), zi_X0, by decide +kernel, by decide⟩
theorem zcX0_daysGiven : zMv mX0_daysGiven 3 0 := ⟨zmX0_daysGiven, (zs5 40 (by decide +kernel) rfl), (zs5 41 (by decide +kernel) rfl), by decide, rfl⟩
abbrev mX0_takeDays : zD := (yX0_takeDays, cX0_takeDays, 7, some FieldType.int)
theorem zmX0_takeDays : zMd mX0_takeDays 2 := ⟨(zs5 49 rfl rfl), zi_X0, by decide +kernel, by decide⟩
theorem zcX0_takeDays : zMv mX0_takeDays 2 0 := ⟨zmX0_takeDays, (zs5 48 (by decide +kernel) rfl), (zpr 24 (q := (yX0_takeDays, 6)) (by decide +kernel)), by decide, rfl⟩
abbrev mX0_isGranted : zD := (yX0_isGranted, cX0_isGranted, 4, some FieldType.boolean)
theorem zmX0_isGranted : zMd mX0_isGranted 2 := ⟨(zs5 54 rfl rfl), zi_X0, by decide +kernel, by decide⟩
theorem zcX0_isGranted : zMv mX0_isGranted 2 0 := ⟨zmX0_isGranted, (zs5 53 (by decide +kernel) rfl), (zpr 25 (q := (yX0_isGranted, 6)) (by decide +kernel)), by decide, rfl⟩
abbrev mX1_init : zD := (yX1_init, cX1_init, 1, none)
theorem zmX1_init : zMd mX1_init 0 := ⟨(zs1 41 rfl rfl), zi_X1, by decide +kernel, by decide⟩
theorem zcX1_init : zMi mX1_init 0 := ⟨zmX1_init, rfl, rfl, (zs1 40 (by decide +kernel) rfl)⟩
abbrev mX1_begin : zD := (yX1_begin, cX1_begin, 3, none)
theorem zmX1_begin : zMd mX1_begin 1 := ⟨(zs1 46 rfl rfl), zi_X1, by decide +kernel, by decide⟩
theorem zcX1_begin : zMv mX1_begin 1 1 := ⟨zmX1_begin, (zs1 44 (by decide +kernel) rfl), (zs1 45 (by decide +kernel) rfl), by decide, rfl⟩
abbrev mX1_takeFrom : zD := (yX1_takeFrom, cX1_takeFrom, 2, none)
theorem zmX1_takeFrom : zMd mX1_takeFrom 1 := ⟨(zs6 1 rfl rfl), zi_X1, by decide +kernel, by decide⟩
theorem zcX1_takeFrom : zMv mX1_takeFrom 1 1 := ⟨zmX1_takeFrom, (zs5 239 (by decide +kernel) rfl), (zs6 0 (by decide +kernel) rfl), by decide, rfl⟩
abbrev mX1_has : zD := (yX1_has, cX1_has, 2, some FieldType.boolean)
theorem zmX1_has : zMd mX1_has 1 := ⟨(zs2 175 rfl rfl), zi_X1, by decide +kernel, by decide⟩
theorem zcX1_has : zMv mX1_has 1 1 := ⟨zmX1_has, (zs2 173 (by decide +kernel) rfl), (zs2 174 (by decide +kernel) rfl), by decide, rfl⟩
abbrev mX1_rowOf : zD := (yX1_rowOf, cX1_rowOf, 2, some (FieldType.array FieldType.int))
theorem zmX1_rowOf : zMd mX1_rowOf 1 := ⟨(zs2 179 rfl rfl), zi_X1, by decide +kernel, by decide⟩
theorem zcX1_rowOf : zMv mX1_rowOf 1 1 := ⟨zmX1_rowOf, (zs2 177 (by decide +kernel) rfl), (zs2 178 (by decide +kernel) rfl), by decide, rfl⟩
abbrev mX1_stratumOf : zD := (yX1_stratumOf, cX1_stratumOf, 2, some FieldType.int)
theorem zmX1_stratumOf : zMd mX1_stratumOf 1 := ⟨(zs2 190 rfl rfl), zi_X1, by decide +kernel, by decide⟩
theorem zcX1_stratumOf : zMv mX1_stratumOf 1 1 := ⟨zmX1_stratumOf, (zs2 188 (by decide +kernel) rfl), (zs2 189 (by decide +kernel) rfl), by decide, rfl⟩
abbrev mX1_depthOf : zD := (yX1_depthOf, cX1_depthOf, 2, some FieldType.int)
theorem zmX1_depthOf : zMd mX1_depthOf 1 := ⟨(zs2 203 rfl rfl), zi_X1, by decide +kernel, by decide⟩
theorem zcX1_depthOf : zMv mX1_depthOf 1 1 := ⟨zmX1_depthOf, (zs2 201 (by decide +kernel) rfl), (zs2 202 (by decide +kernel) rfl), by decide, rfl⟩
abbrev mX1_tooDeepChains : zD := (yX1_tooDeepChains, cX1_tooDeepChains, 3, some FieldType.int)
theorem zmX1_tooDeepChains : zMd mX1_tooDeepChains 0 := ⟨(zs3 151 rfl rfl), zi_X1, by decide +kernel, by decide⟩
theorem zcX1_tooDeepChains : zMv mX1_tooDeepChains 0 1 := ⟨zmX1_tooDeepChains, (zs3 149 (by decide +kernel) rfl), (zs3 150 (by decide +kernel) rfl), by decide, rfl⟩
abbrev mX1_depthThatStands : zD := (yX1_depthThatStands, cX1_depthThatStands, 3, some FieldType.int)
theorem zmX1_depthThatStands : zMd mX1_depthThatStands 1 := ⟨(zs3 155 rfl rfl), zi_X1, by decide +kernel, by decide⟩
theorem zcX1_depthThatStands : zMv mX1_depthThatStands 1 1 := ⟨zmX1_depthThatStands, (zs3 154 (by decide +kernel) rfl), (zpr 3 (q := (yX1_depthThatStands, 10)) (by decide +kernel)), by decide, rfl⟩
abbrev mX1_isSoaked : zD := (yX1_isSoaked, cX1_isSoaked, 3, some FieldType.boolean)
theorem zmX1_isSoaked : zMd mX1_isSoaked 2 := ⟨(zs3 164 rfl rfl), zi_X1, by decide +kernel, by decide⟩
theorem zcX1_isSoaked : zMv mX1_isSoaked 2 1 := ⟨zmX1_isSoaked, (zs3 162 (by decide +kernel) rfl), (zs3 163 (by decide +kernel) rfl), by decide, rfl⟩
abbrev mX1_steepPairs : zD := (yX1_steepPairs, cX1_steepPairs, 3, some FieldType.int)
theorem zmX1_steepPairs : zMd mX1_steepPairs 0 := ⟨(zs2 225 rfl rfl), zi_X1, by decide +kernel, by decide⟩
theorem zcX1_steepPairs : zMv mX1_steepPairs 0 1 := ⟨zmX1_steepPairs, (zs2 223 (by decide +kernel) rfl), (zs2 224 (by decide +kernel) rfl), by decide, rfl⟩
abbrev mX1_findBestLevels : zD := (yX1_findBestLevels, cX1_findBestLevels, 4, some FieldType.int)
theorem zmX1_findBestLevels : zMd mX1_findBestLevels 0 := ⟨(zs2 236 rfl rfl), zi_X1, by decide +kernel, by decide⟩
theorem zcX1_findBestLevels : zMv mX1_findBestLevels 0 1 := ⟨zmX1_findBestLevels, (zs2 234 (by decide +kernel) rfl), (zs2 235 (by decide +kernel) rfl), by decide, rfl⟩
abbrev mX1_haulCost : zD := (yX1_haulCost, cX1_haulCost, 1, some FieldType.int)
theorem zmX1_haulCost : zMd mX1_haulCost 0 := ⟨(zs3 25 rfl rfl), zi_X1, by decide +kernel, by decide⟩
theorem zcX1_haulCost : zMv mX1_haulCost 0 1 := ⟨zmX1_haulCost, (zs3 23 (by decide +kernel) rfl), (zs3 24 (by decide +kernel) rfl), by decide, rfl⟩
abbrev mX1_leastCost : zD := (yX1_leastCost, cX1_leastCost, 8, some FieldType.int)
theorem zmX1_leastCost : zMd mX1_leastCost 3 := ⟨(zs3 0 rfl rfl), zi_X1, by decide +kernel, by decide⟩
theorem zcX1_leastCost : zMv mX1_leastCost 3 1 := ⟨zmX1_leastCost, (zs2 239 (by decide +kernel) rfl), (zpr 0 (q := (yX1_leastCost, 10)) (by decide +kernel)), by decide, rfl⟩
abbrev mX1_levelCostAt : zD := (yX1_levelCostAt, cX1_levelCostAt, 4, some FieldType.int)
theorem zmX1_levelCostAt : zMd mX1_levelCostAt 2 := ⟨(zs3 12 rfl rfl), zi_X1, by decide +kernel, by decide⟩
theorem zcX1_levelCostAt : zMv mX1_levelCostAt 2 1 := ⟨zmX1_levelCostAt, (zs3 11 (by decide +kernel) rfl), (zpr 2 (q := (yX1_levelCostAt, 10)) (by decide +kernel)), by decide, rfl⟩
abbrev mX1_haulCostAt : zD := (yX1_haulCostAt, cX1_haulCostAt, 3, some FieldType.int)
theorem zmX1_haulCostAt : zMd mX1_haulCostAt 2 := ⟨(zs3 7 rfl rfl), zi_X1, by decide +kernel, by decide⟩
theorem zcX1_haulCostAt : zMv mX1_haulCostAt 2 1 := ⟨zmX1_haulCostAt, (zs3 6 (by decide +kernel) rfl), (zpr 1 (q := (yX1_haulCostAt, 10)) (by decide +kernel)), by decide, rfl⟩
abbrev mX2_init : zD := (yX2_init, cX2_init, 1, none)
theorem zmX2_init : zMd mX2_init 0 := ⟨(zs1 35 rfl rfl), zi_X2, by decide +kernel, by decide⟩
theorem zcX2_init : zMi mX2_init 0 := ⟨zmX2_init, rfl, rfl, (zs1 34 (by decide +kernel) rfl)⟩
abbrev mX2_takeFrom : zD := (yX2_takeFrom, cX2_takeFrom, 2, none)
theorem zmX2_takeFrom : zMd mX2_takeFrom 1 := ⟨(zs5 237 rfl rfl), zi_X2, by decide +kernel, by decide⟩
theorem zcX2_takeFrom : zMv mX2_takeFrom 1 2 := ⟨zmX2_takeFrom, (zs5 235 (by decide +kernel) rfl), (zs5 236 (by decide +kernel) rfl), by decide, rfl⟩
abbrev mX2_wetOn : zD := (yX2_wetOn, cX2_wetOn, 2, some FieldType.int)
theorem zmX2_wetOn : zMd mX2_wetOn 1 := ⟨(zs3 56 rfl rfl), zi_X2, by decide +kernel, by decide⟩
theorem zcX2_wetOn : zMv mX2_wetOn 1 2 := ⟨zmX2_wetOn, (zs3 54 (by decide +kernel) rfl), (zs3 55 (by decide +kernel) rfl), by decide, rfl⟩
abbrev mX2_passDay : zD := (yX2_passDay, cX2_passDay, 1, none)
theorem zmX2_passDay : zMd mX2_passDay 0 := ⟨(zs3 125 rfl rfl), zi_X2, by decide +kernel, by decide⟩
theorem zcX2_passDay : zMv mX2_passDay 0 2 := ⟨zmX2_passDay, (zs3 123 (by decide +kernel) rfl), (zs3 124 (by decide +kernel) rfl), by decide, rfl⟩
abbrev mX2_pay : zD := (yX2_pay, cX2_pay, 7, none)
theorem zmX2_pay : zMd mX2_pay 0 := ⟨(zs3 174 rfl rfl), zi_X2, by decide +kernel, by decide⟩
theorem zcX2_pay : zMv mX2_pay 0 2 := ⟨zmX2_pay, (zs3 173 (by decide +kernel) rfl), (zpr 4 (q := (yX2_pay, 8)) (by decide +kernel)), by decide, rfl⟩
abbrev mX2_priceOf : zD := (yX2_priceOf, cX2_priceOf, 3, some FieldType.int)
theorem zmX2_priceOf : zMd mX2_priceOf 1 := ⟨(zs3 180 rfl rfl), zi_X2, by decide +kernel, by decide⟩
theorem zcX2_priceOf : zMv mX2_priceOf 1 2 := ⟨zmX2_priceOf, (zs3 178 (by decide +kernel) rfl), (zs3 179 (by decide +kernel) rfl), by decide, rfl⟩
abbrev mX2_givenDays : zD := (yX2_givenDays, cX2_givenDays, 5, some FieldType.int)
theorem zmX2_givenDays : zMd mX2_givenDays 2 := ⟨(zs5 38 rfl rfl), zi_X2, by decide +kernel, by decide⟩
theorem zcX2_givenDays : zMv mX2_givenDays 2 2 := ⟨zmX2_givenDays, (zs5 36 (by decide +kernel) rfl), (zs5 37 (by decide +kernel) rfl), by decide, rfl⟩
abbrev mX2_howMany : zD := (yX2_howMany, cX2_howMany, 2, some FieldType.int)
theorem zmX2_howMany : zMd mX2_howMany 1 := ⟨(zs6 51 rfl rfl), zi_X2, by decide +kernel, by decide⟩
theorem zcX2_howMany : zMv mX2_howMany 1 2 := ⟨zmX2_howMany, (zs6 49 (by decide +kernel) rfl), (zs6 50 (by decide +kernel) rfl), by decide, rfl⟩
abbrev mX3_init : zD := (yX3_init, cX3_init, 1, none)
theorem zmX3_init : zMd mX3_init 0 := ⟨(zs2 13 rfl rfl), zi_X3, by decide +kernel, by decide⟩
theorem zcX3_init : zMi mX3_init 0 := ⟨zmX3_init, rfl, rfl, (zs2 12 (by decide +kernel) rfl)⟩
abbrev mX3_takeFrom : zD := (yX3_takeFrom, cX3_takeFrom, 2, none)
theorem zmX3_takeFrom : zMd mX3_takeFrom 1 := ⟨(zs6 29 rfl rfl), zi_X3, by decide +kernel, by decide⟩
theorem zcX3_takeFrom : zMv mX3_takeFrom 1 3 := ⟨zmX3_takeFrom, (zs6 27 (by decide +kernel) rfl), (zs6 28 (by decide +kernel) rfl), by decide, rfl⟩
abbrev mX3_addFace : zD := (yX3_addFace, cX3_addFace, 3, some FieldType.int)
theorem zmX3_addFace : zMd mX3_addFace 2 := ⟨(zs5 92 rfl rfl), zi_X3, by decide +kernel, by decide⟩
theorem zcX3_addFace : zMv mX3_addFace 2 3 := ⟨zmX3_addFace, (zs5 90 (by decide +kernel) rfl), (zs5 91 (by decide +kernel) rfl), by decide, rfl⟩
abbrev mX3_addArch : zD := (yX3_addArch, cX3_addArch, 2, some FieldType.int)
theorem zmX3_addArch : zMd mX3_addArch 1 := ⟨(zs5 115 rfl rfl), zi_X3, by decide +kernel, by decide⟩
theorem zcX3_addArch : zMv mX3_addArch 1 3 := ⟨zmX3_addArch, (zs5 113 (by decide +kernel) rfl), (zs5 114 (by decide +kernel) rfl), by decide, rfl⟩
abbrev mX3_meetingDay : zD := (yX3_meetingDay, cX3_meetingDay, 4, some FieldType.int)
theorem zmX3_meetingDay : zMd mX3_meetingDay 1 := ⟨(zs5 101 rfl rfl), zi_X3, by decide +kernel, by decide⟩
theorem zcX3_meetingDay : zMv mX3_meetingDay 1 3 := ⟨zmX3_meetingDay, (zs5 99 (by decide +kernel) rfl), (zs5 100 (by decide +kernel) rfl), by decide, rfl⟩
abbrev mX3_yardsBy : zD := (yX3_yardsBy, cX3_yardsBy, 4, some FieldType.int)
theorem zmX3_yardsBy : zMd mX3_yardsBy 1 := ⟨(zs5 106 rfl rfl), zi_X3, by decide +kernel, by decide⟩
theorem zcX3_yardsBy : zMv mX3_yardsBy 1 3 := ⟨zmX3_yardsBy, (zs5 105 (by decide +kernel) rfl), (zpr 26 (q := (yX3_yardsBy, 6)) (by decide +kernel)), by decide, rfl⟩
abbrev mX3_archInOrder : zD := (yX3_archInOrder, cX3_archInOrder, 6, some FieldType.int)
theorem zmX3_archInOrder : zMd mX3_archInOrder 2 := ⟨(zs5 123 rfl rfl), zi_X3, by decide +kernel, by decide⟩
theorem zcX3_archInOrder : zMv mX3_archInOrder 2 3 := ⟨zmX3_archInOrder, (zs5 121 (by decide +kernel) rfl), (zs5 122 (by decide +kernel) rfl), by decide, rfl⟩
abbrev mX3_findWaysOn : zD := (yX3_findWaysOn, cX3_findWaysOn, 5, none)
theorem zmX3_findWaysOn : zMd mX3_findWaysOn 1 := ⟨(zs5 127 rfl rfl), zi_X3, by decide +kernel, by decide⟩
theorem zcX3_findWaysOn : zMv mX3_findWaysOn 1 3 := ⟨zmX3_findWaysOn, (zs5 126 (by decide +kernel) rfl), (zpr 27 (q := (yX3_findWaysOn, 6)) (by decide +kernel)), by decide, rfl⟩
abbrev mX3_firstWayOn : zD := (yX3_firstWayOn, cX3_firstWayOn, 3, some FieldType.int)
theorem zmX3_firstWayOn : zMd mX3_firstWayOn 1 := ⟨(zs5 131 rfl rfl), zi_X3, by decide +kernel, by decide⟩
theorem zcX3_firstWayOn : zMv mX3_firstWayOn 1 3 := ⟨zmX3_firstWayOn, (zs5 130 (by decide +kernel) rfl), (zpr 28 (q := (yX3_firstWayOn, 6)) (by decide +kernel)), by decide, rfl⟩
abbrev mX3_holds : zD := (yX3_holds, cX3_holds, 6, some FieldType.boolean)
theorem zmX3_holds : zMd mX3_holds 2 := ⟨(zs5 136 rfl rfl), zi_X3, by decide +kernel, by decide⟩
theorem zcX3_holds : zMv mX3_holds 2 3 := ⟨zmX3_holds, (zs5 135 (by decide +kernel) rfl), (zpr 29 (q := (yX3_holds, 6)) (by decide +kernel)), by decide, rfl⟩
abbrev mX4_init : zD := (yX4_init, cX4_init, 1, none)
theorem zmX4_init : zMd mX4_init 0 := ⟨(zs1 226 rfl rfl), zi_X4, by decide +kernel, by decide⟩
theorem zcX4_init : zMi mX4_init 0 := ⟨zmX4_init, rfl, rfl, (zs1 225 (by decide +kernel) rfl)⟩
abbrev mX4_takeFrom : zD := (yX4_takeFrom, cX4_takeFrom, 2, none)
theorem zmX4_takeFrom : zMd mX4_takeFrom 1 := ⟨(zs6 24 rfl rfl), zi_X4, by decide +kernel, by decide⟩
theorem zcX4_takeFrom : zMv mX4_takeFrom 1 4 := ⟨zmX4_takeFrom, (zs6 22 (by decide +kernel) rfl), (zs6 23 (by decide +kernel) rfl), by decide, rfl⟩
abbrev mX4_addDue : zD := (yX4_addDue, cX4_addDue, 3, some FieldType.int)
theorem zmX4_addDue : zMd mX4_addDue 2 := ⟨(zs5 73 rfl rfl), zi_X4, by decide +kernel, by decide⟩
theorem zcX4_addDue : zMv mX4_addDue 2 4 := ⟨zmX4_addDue, (zs5 71 (by decide +kernel) rfl), (zs5 72 (by decide +kernel) rfl), by decide, rfl⟩
abbrev mX4_duesOn : zD := (yX4_duesOn, cX4_duesOn, 4, some FieldType.int)
theorem zmX4_duesOn : zMd mX4_duesOn 1 := ⟨(zs3 170 rfl rfl), zi_X4, by decide +kernel, by decide⟩
theorem zcX4_duesOn : zMv mX4_duesOn 1 4 := ⟨zmX4_duesOn, (zs3 168 (by decide +kernel) rfl), (zs3 169 (by decide +kernel) rfl), by decide, rfl⟩
abbrev mX4_runsOut : zD := (yX4_runsOut, cX4_runsOut, 4, some FieldType.int)
theorem zmX4_runsOut : zMd mX4_runsOut 1 := ⟨(zs5 82 rfl rfl), zi_X4, by decide +kernel, by decide⟩
theorem zcX4_runsOut : zMv mX4_runsOut 1 4 := ⟨zmX4_runsOut, (zs5 80 (by decide +kernel) rfl), (zs5 81 (by decide +kernel) rfl), by decide, rfl⟩
abbrev mX5_init : zD := (yX5_init, cX5_init, 1, none)
theorem zmX5_init : zMd mX5_init 0 := ⟨(zs2 119 rfl rfl), zi_X5, by decide +kernel, by decide⟩
theorem zcX5_init : zMi mX5_init 0 := ⟨zmX5_init, rfl, rfl, (zs2 118 (by decide +kernel) rfl)⟩
abbrev mX5_begin : zD := (yX5_begin, cX5_begin, 3, none)
theorem zmX5_begin : zMd mX5_begin 2 := ⟨(zs5 175 rfl rfl), zi_X5, by decide +kernel, by decide⟩
theorem zcX5_begin : zMv mX5_begin 2 5 := ⟨zmX5_begin, (zs5 173 (by decide +kernel) rfl), (zs5 174 (by decide +kernel) rfl), by decide, rfl⟩
abbrev mX5_findingAt : zD := (yX5_findingAt, cX5_findingAt, 2, some FieldType.int)
theorem zmX5_findingAt : zMd mX5_findingAt 1 := ⟨(zs5 186 rfl rfl), zi_X5, by decide +kernel, by decide⟩
theorem zcX5_findingAt : zMv mX5_findingAt 1 5 := ⟨zmX5_findingAt, (zs5 184 (by decide +kernel) rfl), (zs5 185 (by decide +kernel) rfl), by decide, rfl⟩
abbrev mX5_hasRun : zD := (yX5_hasRun, cX5_hasRun, 3, some FieldType.boolean)
theorem zmX5_hasRun : zMd mX5_hasRun 2 := ⟨(zs5 220 rfl rfl), zi_X5, by decide +kernel, by decide⟩
theorem zcX5_hasRun : zMv mX5_hasRun 2 5 := ⟨zmX5_hasRun, (zs5 218 (by decide +kernel) rfl), (zs5 219 (by decide +kernel) rfl), by decide, rfl⟩
abbrev mX5_write : zD := (yX5_write, cX5_write, 3, some FieldType.int)
theorem zmX5_write : zMd mX5_write 2 := ⟨(zs5 193 rfl rfl), zi_X5, by decide +kernel, by decide⟩
theorem zcX5_write : zMv mX5_write 2 5 := ⟨zmX5_write, (zs5 191 (by decide +kernel) rfl), (zs5 192 (by decide +kernel) rfl), by decide, rfl⟩
abbrev mX5_valueAt : zD := (yX5_valueAt, cX5_valueAt, 5, some FieldType.int)
theorem zmX5_valueAt : zMd mX5_valueAt 1 := ⟨(zs5 207 rfl rfl), zi_X5, by decide +kernel, by decide⟩
theorem zcX5_valueAt : zMv mX5_valueAt 1 5 := ⟨zmX5_valueAt, (zs5 205 (by decide +kernel) rfl), (zs5 206 (by decide +kernel) rfl), by decide, rfl⟩
abbrev mX5_nearest : zD := (yX5_nearest, cX5_nearest, 5, some FieldType.int)
theorem zmX5_nearest : zMd mX5_nearest 2 := ⟨(zs5 211 rfl rfl), zi_X5, by decide +kernel, by decide⟩
theorem zcX5_nearest : zMv mX5_nearest 2 5 := ⟨zmX5_nearest, (zs5 210 (by decide +kernel) rfl), (zpr 33 (q := (yX5_nearest, 3)) (by decide +kernel)), by decide, rfl⟩
abbrev mX6_init : zD := (yX6_init, cX6_init, 1, none)
theorem zmX6_init : zMd mX6_init 0 := ⟨(zs2 73 rfl rfl), zi_X6, by decide +kernel, by decide⟩
theorem zcX6_init : zMi mX6_init 0 := ⟨zmX6_init, rfl, rfl, (zs2 72 (by decide +kernel) rfl)⟩
abbrev mX6_takeFour : zD := (yX6_takeFour, cX6_takeFour, 3, none)
theorem zmX6_takeFour : zMd mX6_takeFour 1 := ⟨(zs3 223 rfl rfl), zi_X6, by decide +kernel, by decide⟩
theorem zcX6_takeFour : zMv mX6_takeFour 1 6 := ⟨zmX6_takeFour, (zs3 221 (by decide +kernel) rfl), (zs3 222 (by decide +kernel) rfl), by decide, rfl⟩
abbrev mX6_translate : zD := (yX6_translate, cX6_translate, 4, some (FieldType.object "LineMaking$Text"))
theorem zmX6_translate : zMd mX6_translate 1 := ⟨(zs3 235 rfl rfl), zi_X6, by decide +kernel, by decide⟩
theorem zcX6_translate : zMv mX6_translate 1 6 := ⟨zmX6_translate, (zs3 233 (by decide +kernel) rfl), (zs3 234 (by decide +kernel) rfl), by decide, rfl⟩
abbrev mX6_firstFault : zD := (yX6_firstFault, cX6_firstFault, 5, some FieldType.int)
theorem zmX6_firstFault : zMd mX6_firstFault 1 := ⟨(zs4 76 rfl rfl), zi_X6, by decide +kernel, by decide⟩
theorem zcX6_firstFault : zMv mX6_firstFault 1 6 := ⟨zmX6_firstFault, (zs4 75 (by decide +kernel) rfl), (zpr 11 (q := (yX6_firstFault, 12)) (by decide +kernel)), by decide, rfl⟩
abbrev mX6_behindBlanks : zD := (yX6_behindBlanks, cX6_behindBlanks, 3, some FieldType.int)
theorem zmX6_behindBlanks : zMd mX6_behindBlanks 1 := ⟨(zs3 239 rfl rfl), zi_X6, by decide +kernel, by decide⟩
theorem zcX6_behindBlanks : zMv mX6_behindBlanks 1 6 := ⟨zmX6_behindBlanks, (zs3 238 (by decide +kernel) rfl), (zpr 5 (q := (yX6_behindBlanks, 12)) (by decide +kernel)), by decide, rfl⟩
abbrev mX6_endOfWord : zD := (yX6_endOfWord, cX6_endOfWord, 3, some FieldType.int)
theorem zmX6_endOfWord : zMd mX6_endOfWord 1 := ⟨(zs4 3 rfl rfl), zi_X6, by decide +kernel, by decide⟩
theorem zcX6_endOfWord : zMv mX6_endOfWord 1 6 := ⟨zmX6_endOfWord, (zs4 2 (by decide +kernel) rfl), (zpr 6 (q := (yX6_endOfWord, 12)) (by decide +kernel)), by decide, rfl⟩
abbrev mX6_isLetter : zD := (yX6_isLetter, cX6_isLetter, 2, some FieldType.boolean)
theorem zmX6_isLetter : zMd mX6_isLetter 1 := ⟨(zs4 7 rfl rfl), zi_X6, by decide +kernel, by decide⟩
theorem zcX6_isLetter : zMv mX6_isLetter 1 6 := ⟨zmX6_isLetter, (zs4 6 (by decide +kernel) rfl), (zpr 7 (q := (yX6_isLetter, 12)) (by decide +kernel)), by decide, rfl⟩
abbrev mX6_isDigit : zD := (yX6_isDigit, cX6_isDigit, 2, some FieldType.boolean)
theorem zmX6_isDigit : zMd mX6_isDigit 1 := ⟨(zs4 12 rfl rfl), zi_X6, by decide +kernel, by decide⟩
theorem zcX6_isDigit : zMv mX6_isDigit 1 6 := ⟨zmX6_isDigit, (zs4 11 (by decide +kernel) rfl), (zpr 8 (q := (yX6_isDigit, 12)) (by decide +kernel)), by decide, rfl⟩
abbrev mX6_isWordByte : zD := (yX6_isWordByte, cX6_isWordByte, 2, some FieldType.boolean)
theorem zmX6_isWordByte : zMd mX6_isWordByte 1 := ⟨(zs4 80 rfl rfl), zi_X6, by decide +kernel, by decide⟩
theorem zcX6_isWordByte : zMv mX6_isWordByte 1 6 := ⟨zmX6_isWordByte, (zs4 79 (by decide +kernel) rfl), (zpr 12 (q := (yX6_isWordByte, 12)) (by decide +kernel)), by decide, rfl⟩
abbrev mX6_keyOf : zD := (yX6_keyOf, cX6_keyOf, 3, some FieldType.int)
theorem zmX6_keyOf : zMd mX6_keyOf 2 := ⟨(zs4 16 rfl rfl), zi_X6, by decide +kernel, by decide⟩
theorem zcX6_keyOf : zMv mX6_keyOf 2 6 := ⟨zmX6_keyOf, (zs4 15 (by decide +kernel) rfl), (zpr 9 (q := (yX6_keyOf, 12)) (by decide +kernel)), by decide, rfl⟩
abbrev mX6_stands : zD := (yX6_stands, cX6_stands, 5, some FieldType.boolean)
theorem zmX6_stands : zMd mX6_stands 3 := ⟨(zs4 21 rfl rfl), zi_X6, by decide +kernel, by decide⟩
theorem zcX6_stands : zMv mX6_stands 3 6 := ⟨zmX6_stands, (zs4 20 (by decide +kernel) rfl), (zpr 10 (q := (yX6_stands, 12)) (by decide +kernel)), by decide, rfl⟩
abbrev mX6_namesOfKey : zD := (yX6_namesOfKey, cX6_namesOfKey, 1, some (FieldType.object "java/lang/String"))
theorem zmX6_namesOfKey : zMd mX6_namesOfKey 0 := ⟨(zs4 108 rfl rfl), zi_X6, by decide +kernel, by decide⟩
theorem zcX6_namesOfKey : zMv mX6_namesOfKey 0 6 := ⟨zmX6_namesOfKey, (zs4 107 (by decide +kernel) rfl), (zpr 19 (q := (yX6_namesOfKey, 12)) (by decide +kernel)), by decide, rfl⟩
abbrev mX6_takesPart : zD := (yX6_takesPart, cX6_takesPart, 4, some FieldType.boolean)
theorem zmX6_takesPart : zMd mX6_takesPart 2 := ⟨(zs4 84 rfl rfl), zi_X6, by decide +kernel, by decide⟩
theorem zcX6_takesPart : zMv mX6_takesPart 2 6 := ⟨zmX6_takesPart, (zs4 83 (by decide +kernel) rfl), (zpr 13 (q := (yX6_takesPart, 12)) (by decide +kernel)), by decide, rfl⟩
abbrev mX6_takesNumber : zD := (yX6_takesNumber, cX6_takesNumber, 5, some FieldType.boolean)
theorem zmX6_takesNumber : zMd mX6_takesNumber 2 := ⟨(zs4 88 rfl rfl), zi_X6, by decide +kernel, by decide⟩
theorem zcX6_takesNumber : zMv mX6_takesNumber 2 6 := ⟨zmX6_takesNumber, (zs4 87 (by decide +kernel) rfl), (zpr 14 (q := (yX6_takesNumber, 12)) (by decide +kernel)), by decide, rfl⟩
abbrev mX6_endsPart : zD := (yX6_endsPart, cX6_endsPart, 2, some FieldType.boolean)
theorem zmX6_endsPart : zMd mX6_endsPart 1 := ⟨(zs4 92 rfl rfl), zi_X6, by decide +kernel, by decide⟩
theorem zcX6_endsPart : zMv mX6_endsPart 1 6 := ⟨zmX6_endsPart, (zs4 91 (by decide +kernel) rfl), (zpr 15 (q := (yX6_endsPart, 12)) (by decide +kernel)), by decide, rfl⟩
abbrev mX6_takesSign : zD := (yX6_takesSign, cX6_takesSign, 3, some FieldType.boolean)
theorem zmX6_takesSign : zMd mX6_takesSign 1 := ⟨(zs4 175 rfl rfl), zi_X6, by decide +kernel, by decide⟩
theorem zcX6_takesSign : zMv mX6_takesSign 1 6 := ⟨zmX6_takesSign, (zs4 174 (by decide +kernel) rfl), (zpr 21 (q := (yX6_takesSign, 12)) (by decide +kernel)), by decide, rfl⟩
abbrev mX6_closesBracket : zD := (yX6_closesBracket, cX6_closesBracket, 1, some FieldType.boolean)
theorem zmX6_closesBracket : zMd mX6_closesBracket 0 := ⟨(zs4 179 rfl rfl), zi_X6, by decide +kernel, by decide⟩
theorem zcX6_closesBracket : zMv mX6_closesBracket 0 6 := ⟨zmX6_closesBracket, (zs4 178 (by decide +kernel) rfl), (zpr 22 (q := (yX6_closesBracket, 12)) (by decide +kernel)), by decide, rfl⟩
abbrev mX6_settleNots : zD := (yX6_settleNots, cX6_settleNots, 1, none)
theorem zmX6_settleNots : zMd mX6_settleNots 0 := ⟨(zs4 100 rfl rfl), zi_X6, by decide +kernel, by decide⟩
theorem zcX6_settleNots : zMv mX6_settleNots 0 6 := ⟨zmX6_settleNots, (zs4 99 (by decide +kernel) rfl), (zpr 17 (q := (yX6_settleNots, 12)) (by decide +kernel)), by decide, rfl⟩
abbrev mX6_settleFrom : zD := (yX6_settleFrom, cX6_settleFrom, 2, none)
theorem zmX6_settleFrom : zMd mX6_settleFrom 1 := ⟨(zs4 183 rfl rfl), zi_X6, by decide +kernel, by decide⟩
theorem zcX6_settleFrom : zMv mX6_settleFrom 1 6 := ⟨zmX6_settleFrom, (zs4 182 (by decide +kernel) rfl), (zpr 23 (q := (yX6_settleFrom, 12)) (by decide +kernel)), by decide, rfl⟩
abbrev mX6_topSign : zD := (yX6_topSign, cX6_topSign, 1, some FieldType.int)
theorem zmX6_topSign : zMd mX6_topSign 0 := ⟨(zs4 104 rfl rfl), zi_X6, by decide +kernel, by decide⟩
theorem zcX6_topSign : zMv mX6_topSign 0 6 := ⟨zmX6_topSign, (zs4 103 (by decide +kernel) rfl), (zpr 18 (q := (yX6_topSign, 12)) (by decide +kernel)), by decide, rfl⟩
abbrev mX6_pushSign : zD := (yX6_pushSign, cX6_pushSign, 2, some FieldType.boolean)
theorem zmX6_pushSign : zMd mX6_pushSign 1 := ⟨(zs4 171 rfl rfl), zi_X6, by decide +kernel, by decide⟩
theorem zcX6_pushSign : zMv mX6_pushSign 1 6 := ⟨zmX6_pushSign, (zs4 170 (by decide +kernel) rfl), (zpr 20 (q := (yX6_pushSign, 12)) (by decide +kernel)), by decide, rfl⟩
abbrev mX6_emit : zD := (yX6_emit, cX6_emit, 2, none)
theorem zmX6_emit : zMd mX6_emit 1 := ⟨(zs4 96 rfl rfl), zi_X6, by decide +kernel, by decide⟩
theorem zcX6_emit : zMv mX6_emit 1 6 := ⟨zmX6_emit, (zs4 95 (by decide +kernel) rfl), (zpr 16 (q := (yX6_emit, 12)) (by decide +kernel)), by decide, rfl⟩
abbrev mX6_rankOf : zD := (yX6_rankOf, cX6_rankOf, 1, some FieldType.int)
theorem zmX6_rankOf : zMd mX6_rankOf 1 := ⟨(zs4 186 rfl rfl), zi_X6, by decide +kernel, by decide⟩
theorem zcX6_rankOf : zMs mX6_rankOf 1 := ⟨zmX6_rankOf, (zs4 185 (by decide +kernel) rfl)⟩
abbrev mX7_init : zD := (yX7_init, cX7_init, 5, none)
theorem zmX7_init : zMd mX7_init 4 := ⟨(zs4 204 rfl rfl), zi_X7, by decide +kernel, by decide⟩
theorem zcX7_init : zMi mX7_init 4 := ⟨zmX7_init, rfl, rfl, (zs4 203 (by decide +kernel) rfl)⟩
abbrev mX7_valueFor : zD := (yX7_valueFor, cX7_valueFor, 8, some FieldType.int)
theorem zmX7_valueFor : zMd mX7_valueFor 4 := ⟨(zs3 204 rfl rfl), zi_X7, by decide +kernel, by decide⟩
theorem zcX7_valueFor : zMv mX7_valueFor 4 7 := ⟨zmX7_valueFor, (zs3 202 (by decide +kernel) rfl), (zs3 203 (by decide +kernel) rfl), by decide, rfl⟩
abbrev mX7_joinBy : zD := (yX7_joinBy, cX7_joinBy, 3, some FieldType.int)
theorem zmX7_joinBy : zMd mX7_joinBy 3 := ⟨(zs3 207 rfl rfl), zi_X7, by decide +kernel, by decide⟩
theorem zcX7_joinBy : zMs mX7_joinBy 3 := ⟨zmX7_joinBy, (zs3 206 (by decide +kernel) rfl)⟩
abbrev mX8_init : zD := (yX8_init, cX8_init, 1, none)
theorem zmX8_init : zMd mX8_init 0 := ⟨(zs1 179 rfl rfl), zi_X8, by decide +kernel, by decide⟩
theorem zcX8_init : zMi mX8_init 0 := ⟨zmX8_init, rfl, rfl, (zs1 178 (by decide +kernel) rfl)⟩
abbrev mX8_takeFrom : zD := (yX8_takeFrom, cX8_takeFrom, 3, none)
theorem zmX8_takeFrom : zMd mX8_takeFrom 1 := ⟨(zs6 15 rfl rfl), zi_X8, by decide +kernel, by decide⟩
theorem zcX8_takeFrom : zMv mX8_takeFrom 1 8 := ⟨zmX8_takeFrom, (zs6 13 (by decide +kernel) rfl), (zs6 14 (by decide +kernel) rfl), by decide, rfl⟩
abbrev mX8_numbered : zD := (yX8_numbered, cX8_numbered, 2, some (FieldType.object "LineMaking$Text"))
theorem zmX8_numbered : zMd mX8_numbered 1 := ⟨(zs3 197 rfl rfl), zi_X8, by decide +kernel, by decide⟩
theorem zcX8_numbered : zMv mX8_numbered 1 8 := ⟨zmX8_numbered, (zs3 195 (by decide +kernel) rfl), (zs3 196 (by decide +kernel) rfl), by decide, rfl⟩
abbrev mX8_addText : zD := (yX8_addText, cX8_addText, 2, some FieldType.int)
theorem zmX8_addText : zMd mX8_addText 1 := ⟨(zs4 228 rfl rfl), zi_X8, by decide +kernel, by decide⟩
theorem zcX8_addText : zMv mX8_addText 1 8 := ⟨zmX8_addText, (zs4 226 (by decide +kernel) rfl), (zs4 227 (by decide +kernel) rfl), by decide, rfl⟩
abbrev mX8_counting : zD := (yX8_counting, cX8_counting, 7, some FieldType.int)
theorem zmX8_counting : zMd mX8_counting 2 := ⟨(zs3 191 rfl rfl), zi_X8, by decide +kernel, by decide⟩
theorem zcX8_counting : zMv mX8_counting 2 8 := ⟨zmX8_counting, (zs3 189 (by decide +kernel) rfl), (zs3 190 (by decide +kernel) rfl), by decide, rfl⟩
abbrev mX8_ruling : zD := (yX8_ruling, cX8_ruling, 8, some FieldType.int)
theorem zmX8_ruling : zMd mX8_ruling 5 := ⟨(zs3 187 rfl rfl), zi_X8, by decide +kernel, by decide⟩
theorem zcX8_ruling : zMv mX8_ruling 5 8 := ⟨zmX8_ruling, (zs3 185 (by decide +kernel) rfl), (zs3 186 (by decide +kernel) rfl), by decide, rfl⟩
abbrev mX8_valueWithout : zD := (yX8_valueWithout, cX8_valueWithout, 4, some FieldType.int)
theorem zmX8_valueWithout : zMd mX8_valueWithout 4 := ⟨(zs3 200 rfl rfl), zi_X8, by decide +kernel, by decide⟩
theorem zcX8_valueWithout : zMs mX8_valueWithout 4 := ⟨zmX8_valueWithout, (zs3 199 (by decide +kernel) rfl)⟩
abbrev mX9_init : zD := (yX9_init, cX9_init, 1, none)
theorem zmX9_init : zMd mX9_init 0 := ⟨(zs1 106 rfl rfl), zi_X9, by decide +kernel, by decide⟩
theorem zcX9_init : zMi mX9_init 0 := ⟨zmX9_init, rfl, rfl, (zs1 105 (by decide +kernel) rfl)⟩
abbrev mX9_begin : zD := (yX9_begin, cX9_begin, 4, none)
theorem zmX9_begin : zMd mX9_begin 3 := ⟨(zs3 38 rfl rfl), zi_X9, by decide +kernel, by decide⟩
theorem zcX9_begin : zMv mX9_begin 3 9 := ⟨zmX9_begin, (zs3 36 (by decide +kernel) rfl), (zs3 37 (by decide +kernel) rfl), by decide, rfl⟩
abbrev mX9_takeFrom : zD := (yX9_takeFrom, cX9_takeFrom, 2, none)
theorem zmX9_takeFrom : zMd mX9_takeFrom 1 := ⟨(zs6 9 rfl rfl), zi_X9, by decide +kernel, by decide⟩
theorem zcX9_takeFrom : zMv mX9_takeFrom 1 9 := ⟨zmX9_takeFrom, (zs6 7 (by decide +kernel) rfl), (zs6 8 (by decide +kernel) rfl), by decide, rfl⟩
abbrev mX9_isUnder : zD := (yX9_isUnder, cX9_isUnder, 4, some FieldType.boolean)
theorem zmX9_isUnder : zMd mX9_isUnder 2 := ⟨(zs3 88 rfl rfl), zi_X9, by decide +kernel, by decide⟩
theorem zcX9_isUnder : zMs mX9_isUnder 2 := ⟨zmX9_isUnder, (zs3 87 (by decide +kernel) rfl)⟩
abbrev mX9_rateIn : zD := (yX9_rateIn, cX9_rateIn, 3, some FieldType.int)
theorem zmX9_rateIn : zMd mX9_rateIn 2 := ⟨(zs3 61 rfl rfl), zi_X9, by decide +kernel, by decide⟩
theorem zcX9_rateIn : zMv mX9_rateIn 2 9 := ⟨zmX9_rateIn, (zs3 59 (by decide +kernel) rfl), (zs3 60 (by decide +kernel) rfl), by decide, rfl⟩
abbrev mX9_cutRate : zD := (yX9_cutRate, cX9_cutRate, 2, some FieldType.int)
theorem zmX9_cutRate : zMd mX9_cutRate 2 := ⟨(zs3 64 rfl rfl), zi_X9, by decide +kernel, by decide⟩
theorem zcX9_cutRate : zMs mX9_cutRate 2 := ⟨zmX9_cutRate, (zs3 63 (by decide +kernel) rfl)⟩
abbrev mX9_worthIn : zD := (yX9_worthIn, cX9_worthIn, 3, some FieldType.int)
theorem zmX9_worthIn : zMd mX9_worthIn 1 := ⟨(zs3 71 rfl rfl), zi_X9, by decide +kernel, by decide⟩
theorem zcX9_worthIn : zMv mX9_worthIn 1 9 := ⟨zmX9_worthIn, (zs3 69 (by decide +kernel) rfl), (zs3 70 (by decide +kernel) rfl), by decide, rfl⟩
abbrev mX9_joined : zD := (yX9_joined, cX9_joined, 1, some FieldType.int)
theorem zmX9_joined : zMd mX9_joined 0 := ⟨(zs3 79 rfl rfl), zi_X9, by decide +kernel, by decide⟩
theorem zcX9_joined : zMv mX9_joined 0 9 := ⟨zmX9_joined, (zs3 77 (by decide +kernel) rfl), (zs3 78 (by decide +kernel) rfl), by decide, rfl⟩
abbrev mX9_isThrough : zD := (yX9_isThrough, cX9_isThrough, 1, some FieldType.boolean)
theorem zmX9_isThrough : zMd mX9_isThrough 0 := ⟨(zs3 139 rfl rfl), zi_X9, by decide +kernel, by decide⟩
theorem zcX9_isThrough : zMv mX9_isThrough 0 9 := ⟨zmX9_isThrough, (zs3 137 (by decide +kernel) rfl), (zs3 138 (by decide +kernel) rfl), by decide, rfl⟩
abbrev mX9_toldOf : zD := (yX9_toldOf, cX9_toldOf, 2, some FieldType.int)
theorem zmX9_toldOf : zMd mX9_toldOf 1 := ⟨(zs3 75 rfl rfl), zi_X9, by decide +kernel, by decide⟩
theorem zcX9_toldOf : zMv mX9_toldOf 1 9 := ⟨zmX9_toldOf, (zs3 73 (by decide +kernel) rfl), (zs3 74 (by decide +kernel) rfl), by decide, rfl⟩
abbrev mX10_init : zD := (yX10_init, cX10_init, 2, none)
theorem zmX10_init : zMd mX10_init 0 := ⟨(zs1 99 rfl rfl), zi_X10, by decide +kernel, by decide⟩
theorem zcX10_init : zMi mX10_init 0 := ⟨zmX10_init, rfl, rfl, (zs1 98 (by decide +kernel) rfl)⟩
abbrev mX10_takeFrom : zD := (yX10_takeFrom, cX10_takeFrom, 3, none)
theorem zmX10_takeFrom : zMd mX10_takeFrom 1 := ⟨(zs6 5 rfl rfl), zi_X10, by decide +kernel, by decide⟩
theorem zcX10_takeFrom : zMv mX10_takeFrom 1 10 := ⟨zmX10_takeFrom, (zs6 3 (by decide +kernel) rfl), (zs6 4 (by decide +kernel) rfl), by decide, rfl⟩
abbrev mX10_numbered : zD := (yX10_numbered, cX10_numbered, 2, some (FieldType.object "LineMaking$Work"))
theorem zmX10_numbered : zMd mX10_numbered 1 := ⟨(zs3 46 rfl rfl), zi_X10, by decide +kernel, by decide⟩
theorem zcX10_numbered : zMv mX10_numbered 1 10 := ⟨zmX10_numbered, (zs3 44 (by decide +kernel) rfl), (zs3 45 (by decide +kernel) rfl), by decide, rfl⟩
abbrev mX10_addWork : zD := (yX10_addWork, cX10_addWork, 4, some FieldType.int)
theorem zmX10_addWork : zMd mX10_addWork 3 := ⟨(zs3 33 rfl rfl), zi_X10, by decide +kernel, by decide⟩
theorem zcX10_addWork : zMv mX10_addWork 3 10 := ⟨zmX10_addWork, (zs3 31 (by decide +kernel) rfl), (zs3 32 (by decide +kernel) rfl), by decide, rfl⟩
abbrev mX10_addGang : zD := (yX10_addGang, cX10_addGang, 2, some FieldType.int)
theorem zmX10_addGang : zMd mX10_addGang 1 := ⟨(zs3 108 rfl rfl), zi_X10, by decide +kernel, by decide⟩
theorem zcX10_addGang : zMv mX10_addGang 1 10 := ⟨zmX10_addGang, (zs3 106 (by decide +kernel) rfl), (zs3 107 (by decide +kernel) rfl), by decide, rfl⟩
abbrev mX10_gangAt : zD := (yX10_gangAt, cX10_gangAt, 3, some FieldType.int)
theorem zmX10_gangAt : zMd mX10_gangAt 1 := ⟨(zs3 51 rfl rfl), zi_X10, by decide +kernel, by decide⟩
theorem zcX10_gangAt : zMv mX10_gangAt 1 10 := ⟨zmX10_gangAt, (zs3 49 (by decide +kernel) rfl), (zs3 50 (by decide +kernel) rfl), by decide, rfl⟩
abbrev mX10_howManyAt : zD := (yX10_howManyAt, cX10_howManyAt, 4, some FieldType.int)
theorem zmX10_howManyAt : zMd mX10_howManyAt 1 := ⟨(zs2 207 rfl rfl), zi_X10, by decide +kernel, by decide⟩
theorem zcX10_howManyAt : zMv mX10_howManyAt 1 10 := ⟨zmX10_howManyAt, (zs2 205 (by decide +kernel) rfl), (zs2 206 (by decide +kernel) rfl), by decide, rfl⟩
abbrev mX10_howManySlips : zD := (yX10_howManySlips, cX10_howManySlips, 3, some FieldType.int)
theorem zmX10_howManySlips : zMd mX10_howManySlips 0 := ⟨(zs6 62 rfl rfl), zi_X10, by decide +kernel, by decide⟩
theorem zcX10_howManySlips : zMv mX10_howManySlips 0 10 := ⟨zmX10_howManySlips, (zs6 60 (by decide +kernel) rfl), (zs6 61 (by decide +kernel) rfl), by decide, rfl⟩
abbrev mX10_howManyQuarrel : zD := (yX10_howManyQuarrel, cX10_howManyQuarrel, 3, some FieldType.int)
theorem zmX10_howManyQuarrel : zMd mX10_howManyQuarrel 0 := ⟨(zs5 21 rfl rfl), zi_X10, by decide +kernel, by decide⟩
theorem zcX10_howManyQuarrel : zMv mX10_howManyQuarrel 0 10 := ⟨zmX10_howManyQuarrel, (zs5 19 (by decide +kernel) rfl), (zs5 20 (by decide +kernel) rfl), by decide, rfl⟩
abbrev mX10_doneTogether : zD := (yX10_doneTogether, cX10_doneTogether, 3, some FieldType.int)
theorem zmX10_doneTogether : zMd mX10_doneTogether 0 := ⟨(zs6 35 rfl rfl), zi_X10, by decide +kernel, by decide⟩
theorem zcX10_doneTogether : zMv mX10_doneTogether 0 10 := ⟨zmX10_doneTogether, (zs6 33 (by decide +kernel) rfl), (zs6 34 (by decide +kernel) rfl), by decide, rfl⟩
abbrev mX10_chainsWith : zD := (yX10_chainsWith, cX10_chainsWith, 5, some FieldType.int)
theorem zmX10_chainsWith : zMd mX10_chainsWith 2 := ⟨(zs2 211 rfl rfl), zi_X10, by decide +kernel, by decide⟩
theorem zcX10_chainsWith : zMv mX10_chainsWith 2 10 := ⟨zmX10_chainsWith, (zs2 209 (by decide +kernel) rfl), (zs2 210 (by decide +kernel) rfl), by decide, rfl⟩
abbrev mX10_throughBits : zD := (yX10_throughBits, cX10_throughBits, 3, some FieldType.int)
theorem zmX10_throughBits : zMd mX10_throughBits 0 := ⟨(zs3 135 rfl rfl), zi_X10, by decide +kernel, by decide⟩
theorem zcX10_throughBits : zMv mX10_throughBits 0 10 := ⟨zmX10_throughBits, (zs3 133 (by decide +kernel) rfl), (zs3 134 (by decide +kernel) rfl), by decide, rfl⟩
abbrev mX10_labour : zD := (yX10_labour, cX10_labour, 6, none)
theorem zmX10_labour : zMd mX10_labour 2 := ⟨(zs3 130 rfl rfl), zi_X10, by decide +kernel, by decide⟩
theorem zcX10_labour : zMv mX10_labour 2 10 := ⟨zmX10_labour, (zs3 128 (by decide +kernel) rfl), (zs3 129 (by decide +kernel) rfl), by decide, rfl⟩
abbrev mX10_slipWhereSteep : zD := (yX10_slipWhereSteep, cX10_slipWhereSteep, 5, none)
theorem zmX10_slipWhereSteep : zMd mX10_slipWhereSteep 2 := ⟨(zs3 146 rfl rfl), zi_X10, by decide +kernel, by decide⟩
theorem zcX10_slipWhereSteep : zMv mX10_slipWhereSteep 2 10 := ⟨zmX10_slipWhereSteep, (zs3 144 (by decide +kernel) rfl), (zs3 145 (by decide +kernel) rfl), by decide, rfl⟩
abbrev mX10_endOf : zD := (yX10_endOf, cX10_endOf, 2, some FieldType.int)
theorem zmX10_endOf : zMd mX10_endOf 1 := ⟨(zs5 145 rfl rfl), zi_X10, by decide +kernel, by decide⟩
theorem zcX10_endOf : zMv mX10_endOf 1 10 := ⟨zmX10_endOf, (zs5 143 (by decide +kernel) rfl), (zs5 144 (by decide +kernel) rfl), by decide, rfl⟩
abbrev mX10_findEnds : zD := (yX10_findEnds, cX10_findEnds, 5, none)
theorem zmX10_findEnds : zMd mX10_findEnds 0 := ⟨(zs5 149 rfl rfl), zi_X10, by decide +kernel, by decide⟩
theorem zcX10_findEnds : zMv mX10_findEnds 0 10 := ⟨zmX10_findEnds, (zs5 148 (by decide +kernel) rfl), (zpr 30 (q := (yX10_findEnds, 6)) (by decide +kernel)), by decide, rfl⟩
abbrev mX10_latestOf : zD := (yX10_latestOf, cX10_latestOf, 4, some FieldType.int)
theorem zmX10_latestOf : zMd mX10_latestOf 1 := ⟨(zs5 154 rfl rfl), zi_X10, by decide +kernel, by decide⟩
theorem zcX10_latestOf : zMv mX10_latestOf 1 10 := ⟨zmX10_latestOf, (zs5 153 (by decide +kernel) rfl), (zpr 31 (q := (yX10_latestOf, 6)) (by decide +kernel)), by decide, rfl⟩
abbrev mX10_inChain : zD := (yX10_inChain, cX10_inChain, 6, some FieldType.int)
theorem zmX10_inChain : zMd mX10_inChain 2 := ⟨(zs5 162 rfl rfl), zi_X10, by decide +kernel, by decide⟩
theorem zcX10_inChain : zMv mX10_inChain 2 10 := ⟨zmX10_inChain, (zs5 160 (by decide +kernel) rfl), (zs5 161 (by decide +kernel) rfl), by decide, rfl⟩
abbrev mX11_init : zD := (yX11_init, cX11_init, 2, none)
theorem zmX11_init : zMd mX11_init 0 := ⟨(zs1 27 rfl rfl), zi_X11, by decide +kernel, by decide⟩
theorem zcX11_init : zMi mX11_init 0 := ⟨zmX11_init, rfl, rfl, (zs1 26 (by decide +kernel) rfl)⟩
abbrev mX11_chains : zD := (yX11_chains, cX11_chains, 3, some FieldType.int)
theorem zmX11_chains : zMd mX11_chains 1 := ⟨(zs2 161 rfl rfl), zi_X11, by decide +kernel, by decide⟩
theorem zcX11_chains : zMv mX11_chains 1 11 := ⟨zmX11_chains, (zs2 159 (by decide +kernel) rfl), (zs2 160 (by decide +kernel) rfl), by decide, rfl⟩
abbrev mX11_set : zD := (yX11_set, cX11_set, 4, some FieldType.int)
theorem zmX11_set : zMd mX11_set 3 := ⟨(zs2 171 rfl rfl), zi_X11, by decide +kernel, by decide⟩
theorem zcX11_set : zMv mX11_set 3 11 := ⟨zmX11_set, (zs2 169 (by decide +kernel) rfl), (zs2 170 (by decide +kernel) rfl), by decide, rfl⟩
abbrev mX11_bore : zD := (yX11_bore, cX11_bore, 2, some FieldType.int)
theorem zmX11_bore : zMd mX11_bore 1 := ⟨(zs2 186 rfl rfl), zi_X11, by decide +kernel, by decide⟩
theorem zcX11_bore : zMv mX11_bore 1 11 := ⟨zmX11_bore, (zs2 184 (by decide +kernel) rfl), (zs2 185 (by decide +kernel) rfl), by decide, rfl⟩
abbrev mX11_at : zD := (yX11_at, cX11_at, 3, some FieldType.int)
theorem zmX11_at : zMd mX11_at 2 := ⟨(zs2 195 rfl rfl), zi_X11, by decide +kernel, by decide⟩
theorem zcX11_at : zMv mX11_at 2 11 := ⟨zmX11_at, (zs2 193 (by decide +kernel) rfl), (zs2 194 (by decide +kernel) rfl), by decide, rfl⟩
abbrev mX11_rule : zD := (yX11_rule, cX11_rule, 3, some FieldType.int)
theorem zmX11_rule : zMd mX11_rule 2 := ⟨(zs2 215 rfl rfl), zi_X11, by decide +kernel, by decide⟩
theorem zcX11_rule : zMv mX11_rule 2 11 := ⟨zmX11_rule, (zs2 213 (by decide +kernel) rfl), (zs2 214 (by decide +kernel) rfl), by decide, rfl⟩
abbrev mX11_steep : zD := (yX11_steep, cX11_steep, 1, some FieldType.int)
theorem zmX11_steep : zMd mX11_steep 0 := ⟨(zs2 221 rfl rfl), zi_X11, by decide +kernel, by decide⟩
theorem zcX11_steep : zMv mX11_steep 0 11 := ⟨zmX11_steep, (zs2 219 (by decide +kernel) rfl), (zs2 220 (by decide +kernel) rfl), by decide, rfl⟩
abbrev mX11_best : zD := (yX11_best, cX11_best, 3, some FieldType.int)
theorem zmX11_best : zMd mX11_best 1 := ⟨(zs2 232 rfl rfl), zi_X11, by decide +kernel, by decide⟩
theorem zcX11_best : zMv mX11_best 1 11 := ⟨zmX11_best, (zs2 230 (by decide +kernel) rfl), (zs2 231 (by decide +kernel) rfl), by decide, rfl⟩
abbrev mX11_lay : zD := (yX11_lay, cX11_lay, 2, some FieldType.int)
theorem zmX11_lay : zMd mX11_lay 0 := ⟨(zs3 16 rfl rfl), zi_X11, by decide +kernel, by decide⟩
theorem zcX11_lay : zMv mX11_lay 0 11 := ⟨zmX11_lay, (zs3 14 (by decide +kernel) rfl), (zs3 15 (by decide +kernel) rfl), by decide, rfl⟩
abbrev mX11_haul : zD := (yX11_haul, cX11_haul, 1, some FieldType.int)
theorem zmX11_haul : zMd mX11_haul 0 := ⟨(zs3 21 rfl rfl), zi_X11, by decide +kernel, by decide⟩
theorem zcX11_haul : zMv mX11_haul 0 11 := ⟨zmX11_haul, (zs3 19 (by decide +kernel) rfl), (zs3 20 (by decide +kernel) rfl), by decide, rfl⟩
abbrev mX11_work : zD := (yX11_work, cX11_work, 4, some FieldType.int)
theorem zmX11_work : zMd mX11_work 3 := ⟨(zs3 29 rfl rfl), zi_X11, by decide +kernel, by decide⟩
theorem zcX11_work : zMv mX11_work 3 11 := ⟨zmX11_work, (zs3 27 (by decide +kernel) rfl), (zs3 28 (by decide +kernel) rfl), by decide, rfl⟩
abbrev mX11_told : zD := (yX11_told, cX11_told, 5, some FieldType.int)
theorem zmX11_told : zMd mX11_told 2 := ⟨(zs3 42 rfl rfl), zi_X11, by decide +kernel, by decide⟩
theorem zcX11_told : zMv mX11_told 2 11 := ⟨zmX11_told, (zs3 40 (by decide +kernel) rfl), (zs3 41 (by decide +kernel) rfl), by decide, rfl⟩
abbrev mX11_as : zD := (yX11_as, cX11_as, 4, some FieldType.int)
theorem zmX11_as : zMd mX11_as 2 := ⟨(zs3 85 rfl rfl), zi_X11, by decide +kernel, by decide⟩
theorem zcX11_as : zMv mX11_as 2 11 := ⟨zmX11_as, (zs3 83 (by decide +kernel) rfl), (zs3 84 (by decide +kernel) rfl), by decide, rfl⟩
abbrev mX11_ahead : zD := (yX11_ahead, cX11_ahead, 5, some FieldType.int)
theorem zmX11_ahead : zMd mX11_ahead 2 := ⟨(zs3 95 rfl rfl), zi_X11, by decide +kernel, by decide⟩
theorem zcX11_ahead : zMv mX11_ahead 2 11 := ⟨zmX11_ahead, (zs3 93 (by decide +kernel) rfl), (zs3 94 (by decide +kernel) rfl), by decide, rfl⟩
abbrev mX11_days : zD := (yX11_days, cX11_days, 5, some FieldType.int)
theorem zmX11_days : zMd mX11_days 2 := ⟨(zs3 100 rfl rfl), zi_X11, by decide +kernel, by decide⟩
theorem zcX11_days : zMv mX11_days 2 11 := ⟨zmX11_days, (zs3 98 (by decide +kernel) rfl), (zs3 99 (by decide +kernel) rfl), by decide, rfl⟩
abbrev mX11_gang : zD := (yX11_gang, cX11_gang, 2, some FieldType.int)
theorem zmX11_gang : zMd mX11_gang 1 := ⟨(zs3 104 rfl rfl), zi_X11, by decide +kernel, by decide⟩
theorem zcX11_gang : zMv mX11_gang 1 11 := ⟨zmX11_gang, (zs3 102 (by decide +kernel) rfl), (zs3 103 (by decide +kernel) rfl), by decide, rfl⟩
abbrev mX11_goes : zD := (yX11_goes, cX11_goes, 4, some FieldType.int)
theorem zmX11_goes : zMd mX11_goes 2 := ⟨(zs3 112 rfl rfl), zi_X11, by decide +kernel, by decide⟩
theorem zcX11_goes : zMv mX11_goes 2 11 := ⟨zmX11_goes, (zs3 110 (by decide +kernel) rfl), (zs3 111 (by decide +kernel) rfl), by decide, rfl⟩
abbrev mX11_wet : zD := (yX11_wet, cX11_wet, 3, some FieldType.int)
theorem zmX11_wet : zMd mX11_wet 2 := ⟨(zs3 116 rfl rfl), zi_X11, by decide +kernel, by decide⟩
theorem zcX11_wet : zMv mX11_wet 2 11 := ⟨zmX11_wet, (zs3 114 (by decide +kernel) rfl), (zs3 115 (by decide +kernel) rfl), by decide, rfl⟩
abbrev mX11_run : zD := (yX11_run, cX11_run, 3, some FieldType.int)
theorem zmX11_run : zMd mX11_run 1 := ⟨(zs3 120 rfl rfl), zi_X11, by decide +kernel, by decide⟩
theorem zcX11_run : zMv mX11_run 1 11 := ⟨zmX11_run, (zs3 118 (by decide +kernel) rfl), (zs3 119 (by decide +kernel) rfl), by decide, rfl⟩
abbrev mX11_foretold : zD := (yX11_foretold, cX11_foretold, 2, some FieldType.int)
theorem zmX11_foretold : zMd mX11_foretold 0 := ⟨(zs3 214 rfl rfl), zi_X11, by decide +kernel, by decide⟩
theorem zcX11_foretold : zMv mX11_foretold 0 11 := ⟨zmX11_foretold, (zs3 212 (by decide +kernel) rfl), (zs3 213 (by decide +kernel) rfl), by decide, rfl⟩
abbrev mX11_feed : zD := (yX11_feed, cX11_feed, 4, some FieldType.int)
theorem zmX11_feed : zMd mX11_feed 3 := ⟨(zs3 219 rfl rfl), zi_X11, by decide +kernel, by decide⟩
theorem zcX11_feed : zMv mX11_feed 3 11 := ⟨zmX11_feed, (zs3 217 (by decide +kernel) rfl), (zs3 218 (by decide +kernel) rfl), by decide, rfl⟩
abbrev mX11_trim : zD := (yX11_trim, cX11_trim, 2, some FieldType.int)
theorem zmX11_trim : zMd mX11_trim 1 := ⟨(zs3 227 rfl rfl), zi_X11, by decide +kernel, by decide⟩
theorem zcX11_trim : zMv mX11_trim 1 11 := ⟨zmX11_trim, (zs3 225 (by decide +kernel) rfl), (zs3 226 (by decide +kernel) rfl), by decide, rfl⟩
abbrev mX11_text : zD := (yX11_text, cX11_text, 4, some FieldType.int)
theorem zmX11_text : zMd mX11_text 1 := ⟨(zs3 231 rfl rfl), zi_X11, by decide +kernel, by decide⟩
theorem zcX11_text : zMv mX11_text 1 11 := ⟨zmX11_text, (zs3 229 (by decide +kernel) rfl), (zs3 230 (by decide +kernel) rfl), by decide, rfl⟩
abbrev mX11_of : zD := (yX11_of, cX11_of, 4, some FieldType.int)
theorem zmX11_of : zMd mX11_of 2 := ⟨(zs4 233 rfl rfl), zi_X11, by decide +kernel, by decide⟩
theorem zcX11_of : zMv mX11_of 2 11 := ⟨zmX11_of, (zs4 231 (by decide +kernel) rfl), (zs4 232 (by decide +kernel) rfl), by decide, rfl⟩
abbrev mX11_why : zD := (yX11_why, cX11_why, 2, some FieldType.int)
theorem zmX11_why : zMd mX11_why 1 := ⟨(zs4 238 rfl rfl), zi_X11, by decide +kernel, by decide⟩
theorem zcX11_why : zMv mX11_why 1 11 := ⟨zmX11_why, (zs4 236 (by decide +kernel) rfl), (zs4 237 (by decide +kernel) rfl), by decide, rfl⟩
abbrev mX11_rules : zD := (yX11_rules, cX11_rules, 5, some FieldType.int)
theorem zmX11_rules : zMd mX11_rules 4 := ⟨(zs5 3 rfl rfl), zi_X11, by decide +kernel, by decide⟩
theorem zcX11_rules : zMv mX11_rules 4 11 := ⟨zmX11_rules, (zs5 1 (by decide +kernel) rfl), (zs5 2 (by decide +kernel) rfl), by decide, rfl⟩
abbrev mX11_price : zD := (yX11_price, cX11_price, 3, some FieldType.int)
theorem zmX11_price : zMd mX11_price 1 := ⟨(zs5 8 rfl rfl), zi_X11, by decide +kernel, by decide⟩
theorem zcX11_price : zMv mX11_price 1 11 := ⟨zmX11_price, (zs5 6 (by decide +kernel) rfl), (zs5 7 (by decide +kernel) rfl), by decide, rfl⟩
abbrev mX11_measure : zD := (yX11_measure, cX11_measure, 5, some FieldType.int)
theorem zmX11_measure : zMd mX11_measure 3 := ⟨(zs5 13 rfl rfl), zi_X11, by decide +kernel, by decide⟩
theorem zcX11_measure : zMv mX11_measure 3 11 := ⟨zmX11_measure, (zs5 11 (by decide +kernel) rfl), (zs5 12 (by decide +kernel) rfl), by decide, rfl⟩
abbrev mX11_quarrels : zD := (yX11_quarrels, cX11_quarrels, 1, some FieldType.int)
theorem zmX11_quarrels : zMd mX11_quarrels 0 := ⟨(zs5 17 rfl rfl), zi_X11, by decide +kernel, by decide⟩
theorem zcX11_quarrels : zMv mX11_quarrels 0 11 := ⟨zmX11_quarrels, (zs5 15 (by decide +kernel) rfl), (zs5 16 (by decide +kernel) rfl), by decide, rfl⟩
abbrev mX11_claim : zD := (yX11_claim, cX11_claim, 4, some FieldType.int)
theorem zmX11_claim : zMd mX11_claim 3 := ⟨(zs5 25 rfl rfl), zi_X11, by decide +kernel, by decide⟩
theorem zcX11_claim : zMv mX11_claim 3 11 := ⟨zmX11_claim, (zs5 23 (by decide +kernel) rfl), (zs5 24 (by decide +kernel) rfl), by decide, rfl⟩
abbrev mX11_given : zD := (yX11_given, cX11_given, 2, some FieldType.int)
theorem zmX11_given : zMd mX11_given 1 := ⟨(zs5 34 rfl rfl), zi_X11, by decide +kernel, by decide⟩
theorem zcX11_given : zMv mX11_given 1 11 := ⟨zmX11_given, (zs5 32 (by decide +kernel) rfl), (zs5 33 (by decide +kernel) rfl), by decide, rfl⟩
abbrev mX11_late : zD := (yX11_late, cX11_late, 3, some FieldType.int)
theorem zmX11_late : zMd mX11_late 1 := ⟨(zs5 59 rfl rfl), zi_X11, by decide +kernel, by decide⟩
theorem zcX11_late : zMv mX11_late 1 11 := ⟨zmX11_late, (zs5 57 (by decide +kernel) rfl), (zs5 58 (by decide +kernel) rfl), by decide, rfl⟩
abbrev mX11_call : zD := (yX11_call, cX11_call, 2, some FieldType.int)
theorem zmX11_call : zMd mX11_call 1 := ⟨(zs5 63 rfl rfl), zi_X11, by decide +kernel, by decide⟩
theorem zcX11_call : zMv mX11_call 1 11 := ⟨zmX11_call, (zs5 61 (by decide +kernel) rfl), (zs5 62 (by decide +kernel) rfl), by decide, rfl⟩
abbrev mX11_due : zD := (yX11_due, cX11_due, 3, some FieldType.int)
theorem zmX11_due : zMd mX11_due 2 := ⟨(zs5 68 rfl rfl), zi_X11, by decide +kernel, by decide⟩
theorem zcX11_due : zMv mX11_due 2 11 := ⟨zmX11_due, (zs5 66 (by decide +kernel) rfl), (zs5 67 (by decide +kernel) rfl), by decide, rfl⟩
abbrev mX11_out : zD := (yX11_out, cX11_out, 1, some FieldType.int)
theorem zmX11_out : zMd mX11_out 0 := ⟨(zs5 78 rfl rfl), zi_X11, by decide +kernel, by decide⟩
theorem zcX11_out : zMv mX11_out 0 11 := ⟨zmX11_out, (zs5 76 (by decide +kernel) rfl), (zs5 77 (by decide +kernel) rfl), by decide, rfl⟩
abbrev mX11_face : zD := (yX11_face, cX11_face, 3, some FieldType.int)
theorem zmX11_face : zMd mX11_face 2 := ⟨(zs5 88 rfl rfl), zi_X11, by decide +kernel, by decide⟩
theorem zcX11_face : zMv mX11_face 2 11 := ⟨zmX11_face, (zs5 86 (by decide +kernel) rfl), (zs5 87 (by decide +kernel) rfl), by decide, rfl⟩
abbrev mX11_meets : zD := (yX11_meets, cX11_meets, 2, some FieldType.int)
theorem zmX11_meets : zMd mX11_meets 1 := ⟨(zs5 97 rfl rfl), zi_X11, by decide +kernel, by decide⟩
theorem zcX11_meets : zMv mX11_meets 1 11 := ⟨zmX11_meets, (zs5 95 (by decide +kernel) rfl), (zs5 96 (by decide +kernel) rfl), by decide, rfl⟩
abbrev mX11_arch : zD := (yX11_arch, cX11_arch, 2, some FieldType.int)
theorem zmX11_arch : zMd mX11_arch 1 := ⟨(zs5 111 rfl rfl), zi_X11, by decide +kernel, by decide⟩
theorem zcX11_arch : zMv mX11_arch 1 11 := ⟨zmX11_arch, (zs5 109 (by decide +kernel) rfl), (zs5 110 (by decide +kernel) rfl), by decide, rfl⟩
abbrev mX11_order : zD := (yX11_order, cX11_order, 3, some FieldType.int)
theorem zmX11_order : zMd mX11_order 2 := ⟨(zs5 119 rfl rfl), zi_X11, by decide +kernel, by decide⟩
theorem zcX11_order : zMv mX11_order 2 11 := ⟨zmX11_order, (zs5 117 (by decide +kernel) rfl), (zs5 118 (by decide +kernel) rfl), by decide, rfl⟩
abbrev mX11_through : zD := (yX11_through, cX11_through, 2, some FieldType.int)
theorem zmX11_through : zMd mX11_through 1 := ⟨(zs5 141 rfl rfl), zi_X11, by decide +kernel, by decide⟩
theorem zcX11_through : zMv mX11_through 1 11 := ⟨zmX11_through, (zs5 139 (by decide +kernel) rfl), (zs5 140 (by decide +kernel) rfl), by decide, rfl⟩
abbrev mX11_chain : zD := (yX11_chain, cX11_chain, 3, some FieldType.int)
theorem zmX11_chain : zMd mX11_chain 2 := ⟨(zs5 158 rfl rfl), zi_X11, by decide +kernel, by decide⟩
theorem zcX11_chain : zMv mX11_chain 2 11 := ⟨zmX11_chain, (zs5 156 (by decide +kernel) rfl), (zs5 157 (by decide +kernel) rfl), by decide, rfl⟩
abbrev mX11_survey : zD := (yX11_survey, cX11_survey, 5, some FieldType.int)
theorem zmX11_survey : zMd mX11_survey 3 := ⟨(zs5 167 rfl rfl), zi_X11, by decide +kernel, by decide⟩
theorem zcX11_survey : zMv mX11_survey 3 11 := ⟨zmX11_survey, (zs5 165 (by decide +kernel) rfl), (zs5 166 (by decide +kernel) rfl), by decide, rfl⟩
abbrev mX11_note : zD := (yX11_note, cX11_note, 6, some FieldType.int)
theorem zmX11_note : zMd mX11_note 3 := ⟨(zs5 182 rfl rfl), zi_X11, by decide +kernel, by decide⟩
theorem zcX11_note : zMv mX11_note 3 11 := ⟨zmX11_note, (zs5 180 (by decide +kernel) rfl), (zs5 181 (by decide +kernel) rfl), by decide, rfl⟩
abbrev mX11_read : zD := (yX11_read, cX11_read, 5, some FieldType.int)
theorem zmX11_read : zMd mX11_read 2 := ⟨(zs5 203 rfl rfl), zi_X11, by decide +kernel, by decide⟩
theorem zcX11_read : zMv mX11_read 2 11 := ⟨zmX11_read, (zs5 201 (by decide +kernel) rfl), (zs5 202 (by decide +kernel) rfl), by decide, rfl⟩
abbrev mX11_copy : zD := (yX11_copy, cX11_copy, 8, some FieldType.int)
theorem zmX11_copy : zMd mX11_copy 5 := ⟨(zs5 215 rfl rfl), zi_X11, by decide +kernel, by decide⟩
theorem zcX11_copy : zMv mX11_copy 5 11 := ⟨zmX11_copy, (zs5 213 (by decide +kernel) rfl), (zs5 214 (by decide +kernel) rfl), by decide, rfl⟩
abbrev mX11_tell : zD := (yX11_tell, cX11_tell, 2, some FieldType.int)
theorem zmX11_tell : zMd mX11_tell 1 := ⟨(zs5 225 rfl rfl), zi_X11, by decide +kernel, by decide⟩
theorem zcX11_tell : zMv mX11_tell 1 11 := ⟨zmX11_tell, (zs5 223 (by decide +kernel) rfl), (zs5 224 (by decide +kernel) rfl), by decide, rfl⟩
abbrev mX11_check : zD := (yX11_check, cX11_check, 4, some FieldType.int)
theorem zmX11_check : zMd mX11_check 1 := ⟨(zs5 229 rfl rfl), zi_X11, by decide +kernel, by decide⟩
theorem zcX11_check : zMv mX11_check 1 11 := ⟨zmX11_check, (zs5 227 (by decide +kernel) rfl), (zs5 228 (by decide +kernel) rfl), by decide, rfl⟩
abbrev mX11_keep : zD := (yX11_keep, cX11_keep, 1, some FieldType.int)
theorem zmX11_keep : zMd mX11_keep 0 := ⟨(zs6 39 rfl rfl), zi_X11, by decide +kernel, by decide⟩
theorem zcX11_keep : zMv mX11_keep 0 11 := ⟨zmX11_keep, (zs6 37 (by decide +kernel) rfl), (zs6 38 (by decide +kernel) rfl), by decide, rfl⟩
abbrev mX11_back : zD := (yX11_back, cX11_back, 1, some FieldType.int)
theorem zmX11_back : zMd mX11_back 0 := ⟨(zs6 43 rfl rfl), zi_X11, by decide +kernel, by decide⟩
theorem zcX11_back : zMv mX11_back 0 11 := ⟨zmX11_back, (zs6 41 (by decide +kernel) rfl), (zs6 42 (by decide +kernel) rfl), by decide, rfl⟩
abbrev mX11_count : zD := (yX11_count, cX11_count, 2, some FieldType.int)
theorem zmX11_count : zMd mX11_count 1 := ⟨(zs6 47 rfl rfl), zi_X11, by decide +kernel, by decide⟩
theorem zcX11_count : zMv mX11_count 1 11 := ⟨zmX11_count, (zs6 45 (by decide +kernel) rfl), (zs6 46 (by decide +kernel) rfl), by decide, rfl⟩
abbrev mX11_inside : zD := (yX11_inside, cX11_inside, 3, some FieldType.boolean)
theorem zmX11_inside : zMd mX11_inside 3 := ⟨(zs2 164 rfl rfl), zi_X11, by decide +kernel, by decide⟩
theorem zcX11_inside : zMs mX11_inside 3 := ⟨zmX11_inside, (zs2 163 (by decide +kernel) rfl)⟩
abbrev mX11_hasBit : zD := (yX11_hasBit, cX11_hasBit, 2, some FieldType.boolean)
theorem zmX11_hasBit : zMd mX11_hasBit 2 := ⟨(zs2 198 rfl rfl), zi_X11, by decide +kernel, by decide⟩
theorem zcX11_hasBit : zMs mX11_hasBit 2 := ⟨zmX11_hasBit, (zs2 197 (by decide +kernel) rfl)⟩
abbrev mX11_clamp : zD := (yX11_clamp, cX11_clamp, 3, some FieldType.int)
theorem zmX11_clamp : zMd mX11_clamp 3 := ⟨(zs1 49 rfl rfl), zi_X11, by decide +kernel, by decide⟩
theorem zcX11_clamp : zMs mX11_clamp 3 := ⟨zmX11_clamp, (zs1 48 (by decide +kernel) rfl)⟩
abbrev mX11_exchange : zD := (yX11_exchange, cX11_exchange, 4, some FieldType.int)
theorem zmX11_exchange : zMd mX11_exchange 3 := ⟨(zs2 182 rfl rfl), zi_X11, by decide +kernel, by decide⟩
theorem zcX11_exchange : zMs mX11_exchange 3 := ⟨zmX11_exchange, (zs2 181 (by decide +kernel) rfl)⟩
abbrev mX11_surveyNumbered : zD := (yX11_surveyNumbered, cX11_surveyNumbered, 2, some (FieldType.object "LineMaking$Survey"))
theorem zmX11_surveyNumbered : zMd mX11_surveyNumbered 1 := ⟨(zs5 171 rfl rfl), zi_X11, by decide +kernel, by decide⟩
theorem zcX11_surveyNumbered : zMv mX11_surveyNumbered 1 11 := ⟨zmX11_surveyNumbered, (zs5 170 (by decide +kernel) rfl), (zpr 32 (q := (yX11_surveyNumbered, 8)) (by decide +kernel)), by decide, rfl⟩
abbrev mX11_rightNumbers : zD := (yX11_rightNumbers, cX11_rightNumbers, 5, some FieldType.int)
theorem zmX11_rightNumbers : zMd mX11_rightNumbers 2 := ⟨(zs5 233 rfl rfl), zi_X11, by decide +kernel, by decide⟩
theorem zcX11_rightNumbers : zMv mX11_rightNumbers 2 11 := ⟨zmX11_rightNumbers, (zs5 232 (by decide +kernel) rfl), (zpr 34 (q := (yX11_rightNumbers, 8)) (by decide +kernel)), by decide, rfl⟩
abbrev mX12_init : zD := (yX12_init, cX12_init, 2, none)
theorem zmX12_init : zMd mX12_init 0 := ⟨(zs6 68 rfl rfl), zi_X12, by decide +kernel, by decide⟩
theorem zcX12_init : zMi mX12_init 0 := ⟨zmX12_init, rfl, rfl, (zs6 67 (by decide +kernel) rfl)⟩
abbrev mX12_begins : zD := (yX12_begins, cX12_begins, 3, none)
theorem zmX12_begins : zMd mX12_begins 1 := ⟨(zs6 73 rfl rfl), zi_X12, by decide +kernel, by decide⟩
theorem zcX12_begins : zMv mX12_begins 1 12 := ⟨zmX12_begins, (zs6 72 (by decide +kernel) rfl), (zpr 35 (q := (yX12_begins, 36)) (by decide +kernel)), by decide, rfl⟩
abbrev mX12_isIn : zD := (yX12_isIn, cX12_isIn, 6, some FieldType.boolean)
theorem zmX12_isIn : zMd mX12_isIn 3 := ⟨(zs6 196 rfl rfl), zi_X12, by decide +kernel, by decide⟩
theorem zcX12_isIn : zMs mX12_isIn 3 := ⟨zmX12_isIn, (zs6 195 (by decide +kernel) rfl)⟩
abbrev mX12_orNone : zD := (yX12_orNone, cX12_orNone, 1, some FieldType.int)
theorem zmX12_orNone : zMd mX12_orNone 1 := ⟨(zs7 60 rfl rfl), zi_X12, by decide +kernel, by decide⟩
theorem zcX12_orNone : zMs mX12_orNone 1 := ⟨zmX12_orNone, (zs7 59 (by decide +kernel) rfl)⟩
abbrev mX12_least : zD := (yX12_least, cX12_least, 2, some FieldType.int)
theorem zmX12_least : zMd mX12_least 2 := ⟨(zs7 38 rfl rfl), zi_X12, by decide +kernel, by decide⟩
theorem zcX12_least : zMs mX12_least 2 := ⟨zmX12_least, (zs7 37 (by decide +kernel) rfl)⟩
abbrev mX12_size : zD := (yX12_size, cX12_size, 1, some FieldType.int)
theorem zmX12_size : zMd mX12_size 1 := ⟨(zs7 9 rfl rfl), zi_X12, by decide +kernel, by decide⟩
theorem zcX12_size : zMs mX12_size 1 := ⟨zmX12_size, (zs7 8 (by decide +kernel) rfl)⟩
abbrev mX12_becomes : zD := (yX12_becomes, cX12_becomes, 4, some FieldType.int)
theorem zmX12_becomes : zMd mX12_becomes 2 := ⟨(zs6 212 rfl rfl), zi_X12, by decide +kernel, by decide⟩
theorem zcX12_becomes : zMv mX12_becomes 2 12 := ⟨zmX12_becomes, (zs6 211 (by decide +kernel) rfl), (zpr 38 (q := (yX12_becomes, 36)) (by decide +kernel)), by decide, rfl⟩
abbrev mX12_chainAt : zD := (yX12_chainAt, cX12_chainAt, 2, some FieldType.int)
theorem zmX12_chainAt : zMd mX12_chainAt 1 := ⟨(zs6 77 rfl rfl), zi_X12, by decide +kernel, by decide⟩
theorem zcX12_chainAt : zMv mX12_chainAt 1 12 := ⟨zmX12_chainAt, (zs6 76 (by decide +kernel) rfl), (zpr 36 (q := (yX12_chainAt, 36)) (by decide +kernel)), by decide, rfl⟩
abbrev mX12_workAt : zD := (yX12_workAt, cX12_workAt, 2, some FieldType.int)
theorem zmX12_workAt : zMd mX12_workAt 1 := ⟨(zs6 233 rfl rfl), zi_X12, by decide +kernel, by decide⟩
theorem zcX12_workAt : zMv mX12_workAt 1 12 := ⟨zmX12_workAt, (zs6 232 (by decide +kernel) rfl), (zpr 41 (q := (yX12_workAt, 36)) (by decide +kernel)), by decide, rfl⟩
abbrev mX12_gangAt : zD := (yX12_gangAt, cX12_gangAt, 2, some FieldType.int)
theorem zmX12_gangAt : zMd mX12_gangAt 1 := ⟨(zs7 102 rfl rfl), zi_X12, by decide +kernel, by decide⟩
theorem zcX12_gangAt : zMv mX12_gangAt 1 12 := ⟨zmX12_gangAt, (zs7 101 (by decide +kernel) rfl), (zpr 53 (q := (yX12_gangAt, 36)) (by decide +kernel)), by decide, rfl⟩
abbrev mX12_textAt : zD := (yX12_textAt, cX12_textAt, 2, some FieldType.int)
theorem zmX12_textAt : zMd mX12_textAt 1 := ⟨(zs7 165 rfl rfl), zi_X12, by decide +kernel, by decide⟩
theorem zcX12_textAt : zMv mX12_textAt 1 12 := ⟨zmX12_textAt, (zs7 164 (by decide +kernel) rfl), (zpr 64 (q := (yX12_textAt, 36)) (by decide +kernel)), by decide, rfl⟩
abbrev mX12_isChain : zD := (yX12_isChain, cX12_isChain, 2, some FieldType.boolean)
theorem zmX12_isChain : zMd mX12_isChain 1 := ⟨(zs6 206 rfl rfl), zi_X12, by decide +kernel, by decide⟩
theorem zcX12_isChain : zMv mX12_isChain 1 12 := ⟨zmX12_isChain, (zs6 205 (by decide +kernel) rfl), (zpr 37 (q := (yX12_isChain, 36)) (by decide +kernel)), by decide, rfl⟩
abbrev mX12_isWork : zD := (yX12_isWork, cX12_isWork, 2, some FieldType.boolean)
theorem zmX12_isWork : zMd mX12_isWork 1 := ⟨(zs7 57 rfl rfl), zi_X12, by decide +kernel, by decide⟩
theorem zcX12_isWork : zMv mX12_isWork 1 12 := ⟨zmX12_isWork, (zs7 56 (by decide +kernel) rfl), (zpr 47 (q := (yX12_isWork, 36)) (by decide +kernel)), by decide, rfl⟩
abbrev mX12_isText : zD := (yX12_isText, cX12_isText, 2, some FieldType.boolean)
theorem zmX12_isText : zMd mX12_isText 1 := ⟨(zs8 23 rfl rfl), zi_X12, by decide +kernel, by decide⟩
theorem zcX12_isText : zMv mX12_isText 1 12 := ⟨zmX12_isText, (zs8 22 (by decide +kernel) rfl), (zpr 81 (q := (yX12_isText, 36)) (by decide +kernel)), by decide, rfl⟩
abbrev mX12_kindOf : zD := (yX12_kindOf, cX12_kindOf, 2, some FieldType.int)
theorem zmX12_kindOf : zMd mX12_kindOf 1 := ⟨(zs6 237 rfl rfl), zi_X12, by decide +kernel, by decide⟩
theorem zcX12_kindOf : zMv mX12_kindOf 1 12 := ⟨zmX12_kindOf, (zs6 236 (by decide +kernel) rfl), (zpr 42 (q := (yX12_kindOf, 36)) (by decide +kernel)), by decide, rfl⟩
abbrev mX12_depth : zD := (yX12_depth, cX12_depth, 2, some FieldType.int)
theorem zmX12_depth : zMd mX12_depth 1 := ⟨(zs6 225 rfl rfl), zi_X12, by decide +kernel, by decide⟩
theorem zcX12_depth : zMv mX12_depth 1 12 := ⟨zmX12_depth, (zs6 224 (by decide +kernel) rfl), (zpr 39 (q := (yX12_depth, 36)) (by decide +kernel)), by decide, rfl⟩
abbrev mX12_wetOn : zD := (yX12_wetOn, cX12_wetOn, 2, some FieldType.int)
theorem zmX12_wetOn : zMd mX12_wetOn 1 := ⟨(zs7 64 rfl rfl), zi_X12, by decide +kernel, by decide⟩
theorem zcX12_wetOn : zMv mX12_wetOn 1 12 := ⟨zmX12_wetOn, (zs7 63 (by decide +kernel) rfl), (zpr 48 (q := (yX12_wetOn, 36)) (by decide +kernel)), by decide, rfl⟩
abbrev mX12_chains : zD := (yX12_chains, cX12_chains, 3, some FieldType.int)
theorem zmX12_chains : zMd mX12_chains 1 := ⟨(zs6 191 rfl rfl), zi_X12, by decide +kernel, by decide⟩
theorem zcX12_chains : zMv mX12_chains 1 12 := ⟨zmX12_chains, (zs6 189 (by decide +kernel) rfl), (zs6 190 (by decide +kernel) rfl), by decide, rfl⟩
abbrev mX12_set : zD := (yX12_set, cX12_set, 4, some FieldType.int)
theorem zmX12_set : zMd mX12_set 3 := ⟨(zs6 202 rfl rfl), zi_X12, by decide +kernel, by decide⟩
theorem zcX12_set : zMv mX12_set 3 12 := ⟨zmX12_set, (zs6 200 (by decide +kernel) rfl), (zs6 201 (by decide +kernel) rfl), by decide, rfl⟩
abbrev mX12_bore : zD := (yX12_bore, cX12_bore, 2, some FieldType.int)
theorem zmX12_bore : zMd mX12_bore 1 := ⟨(zs6 216 rfl rfl), zi_X12, by decide +kernel, by decide⟩
theorem zcX12_bore : zMv mX12_bore 1 12 := ⟨zmX12_bore, (zs6 214 (by decide +kernel) rfl), (zs6 215 (by decide +kernel) rfl), by decide, rfl⟩
abbrev mX12_worksAt : zD := (yX12_worksAt, cX12_worksAt, 5, some FieldType.int)
theorem zmX12_worksAt : zMd mX12_worksAt 2 := ⟨(zs6 229 rfl rfl), zi_X12, by decide +kernel, by decide⟩
theorem zcX12_worksAt : zMv mX12_worksAt 2 12 := ⟨zmX12_worksAt, (zs6 228 (by decide +kernel) rfl), (zpr 40 (q := (yX12_worksAt, 36)) (by decide +kernel)), by decide, rfl⟩
abbrev mX12_at : zD := (yX12_at, cX12_at, 3, some FieldType.int)
theorem zmX12_at : zMd mX12_at 2 := ⟨(zs6 220 rfl rfl), zi_X12, by decide +kernel, by decide⟩
theorem zcX12_at : zMv mX12_at 2 12 := ⟨zmX12_at, (zs6 218 (by decide +kernel) rfl), (zs6 219 (by decide +kernel) rfl), by decide, rfl⟩
abbrev mX12_rule : zD := (yX12_rule, cX12_rule, 3, some FieldType.int)
theorem zmX12_rule : zMd mX12_rule 2 := ⟨(zs7 1 rfl rfl), zi_X12, by decide +kernel, by decide⟩
theorem zcX12_rule : zMv mX12_rule 2 12 := ⟨zmX12_rule, (zs6 239 (by decide +kernel) rfl), (zs7 0 (by decide +kernel) rfl), by decide, rfl⟩
abbrev mX12_steep : zD := (yX12_steep, cX12_steep, 3, some FieldType.int)
theorem zmX12_steep : zMd mX12_steep 0 := ⟨(zs7 6 rfl rfl), zi_X12, by decide +kernel, by decide⟩
theorem zcX12_steep : zMv mX12_steep 0 12 := ⟨zmX12_steep, (zs7 4 (by decide +kernel) rfl), (zs7 5 (by decide +kernel) rfl), by decide, rfl⟩
abbrev mX12_costAt : zD := (yX12_costAt, cX12_costAt, 4, some FieldType.int)
theorem zmX12_costAt : zMd mX12_costAt 2 := ⟨(zs7 21 rfl rfl), zi_X12, by decide +kernel, by decide⟩
theorem zcX12_costAt : zMv mX12_costAt 2 12 := ⟨zmX12_costAt, (zs7 20 (by decide +kernel) rfl), (zpr 44 (q := (yX12_costAt, 36)) (by decide +kernel)), by decide, rfl⟩
abbrev mX12_cheapest : zD := (yX12_cheapest, cX12_cheapest, 6, some FieldType.int)
theorem zmX12_cheapest : zMd mX12_cheapest 3 := ⟨(zs7 25 rfl rfl), zi_X12, by decide +kernel, by decide⟩
theorem zcX12_cheapest : zMv mX12_cheapest 3 12 := ⟨zmX12_cheapest, (zs7 24 (by decide +kernel) rfl), (zpr 45 (q := (yX12_cheapest, 36)) (by decide +kernel)), by decide, rfl⟩
abbrev mX12_findLevels : zD := (yX12_findLevels, cX12_findLevels, 4, some FieldType.int)
theorem zmX12_findLevels : zMd mX12_findLevels 0 := ⟨(zs7 17 rfl rfl), zi_X12, by decide +kernel, by decide⟩
theorem zcX12_findLevels : zMv mX12_findLevels 0 12 := ⟨zmX12_findLevels, (zs7 16 (by decide +kernel) rfl), (zpr 43 (q := (yX12_findLevels, 36)) (by decide +kernel)), by decide, rfl⟩
abbrev mX12_best : zD := (yX12_best, cX12_best, 3, some FieldType.int)
theorem zmX12_best : zMd mX12_best 1 := ⟨(zs7 13 rfl rfl), zi_X12, by decide +kernel, by decide⟩
theorem zcX12_best : zMv mX12_best 1 12 := ⟨zmX12_best, (zs7 11 (by decide +kernel) rfl), (zs7 12 (by decide +kernel) rfl), by decide, rfl⟩
abbrev mX12_lay : zD := (yX12_lay, cX12_lay, 3, some FieldType.int)
theorem zmX12_lay : zMd mX12_lay 0 := ⟨(zs7 29 rfl rfl), zi_X12, by decide +kernel, by decide⟩
theorem zcX12_lay : zMv mX12_lay 0 12 := ⟨zmX12_lay, (zs7 27 (by decide +kernel) rfl), (zs7 28 (by decide +kernel) rfl), by decide, rfl⟩
abbrev mX12_haul : zD := (yX12_haul, cX12_haul, 4, some FieldType.int)
theorem zmX12_haul : zMd mX12_haul 0 := ⟨(zs7 33 rfl rfl), zi_X12, by decide +kernel, by decide⟩
theorem zcX12_haul : zMv mX12_haul 0 12 := ⟨zmX12_haul, (zs7 31 (by decide +kernel) rfl), (zs7 32 (by decide +kernel) rfl), by decide, rfl⟩
abbrev mX12_newWork : zD := (yX12_newWork, cX12_newWork, 6, some FieldType.int)
theorem zmX12_newWork : zMd mX12_newWork 3 := ⟨(zs7 49 rfl rfl), zi_X12, by decide +kernel, by decide⟩
theorem zcX12_newWork : zMv mX12_newWork 3 12 := ⟨zmX12_newWork, (zs7 48 (by decide +kernel) rfl), (zpr 46 (q := (yX12_newWork, 36)) (by decide +kernel)), by decide, rfl⟩
abbrev mX12_work : zD := (yX12_work, cX12_work, 4, some FieldType.int)
theorem zmX12_work : zMd mX12_work 3 := ⟨(zs7 42 rfl rfl), zi_X12, by decide +kernel, by decide⟩
theorem zcX12_work : zMv mX12_work 3 12 := ⟨zmX12_work, (zs7 40 (by decide +kernel) rfl), (zs7 41 (by decide +kernel) rfl), by decide, rfl⟩
abbrev mX12_stratumOf : zD := (yX12_stratumOf, cX12_stratumOf, 2, some FieldType.int)
theorem zmX12_stratumOf : zMd mX12_stratumOf 1 := ⟨(zs7 72 rfl rfl), zi_X12, by decide +kernel, by decide⟩
theorem zcX12_stratumOf : zMv mX12_stratumOf 1 12 := ⟨zmX12_stratumOf, (zs7 71 (by decide +kernel) rfl), (zpr 50 (q := (yX12_stratumOf, 36)) (by decide +kernel)), by decide, rfl⟩
abbrev mX12_rateOf : zD := (yX12_rateOf, cX12_rateOf, 5, some FieldType.int)
theorem zmX12_rateOf : zMd mX12_rateOf 2 := ⟨(zs7 68 rfl rfl), zi_X12, by decide +kernel, by decide⟩
theorem zcX12_rateOf : zMv mX12_rateOf 2 12 := ⟨zmX12_rateOf, (zs7 67 (by decide +kernel) rfl), (zpr 49 (q := (yX12_rateOf, 36)) (by decide +kernel)), by decide, rfl⟩
abbrev mX12_worthOf : zD := (yX12_worthOf, cX12_worthOf, 3, some FieldType.int)
theorem zmX12_worthOf : zMd mX12_worthOf 1 := ⟨(zs7 76 rfl rfl), zi_X12, by decide +kernel, by decide⟩
theorem zcX12_worthOf : zMv mX12_worthOf 1 12 := ⟨zmX12_worthOf, (zs7 75 (by decide +kernel) rfl), (zpr 51 (q := (yX12_worthOf, 36)) (by decide +kernel)), by decide, rfl⟩
abbrev mX12_joinedOf : zD := (yX12_joinedOf, cX12_joinedOf, 3, some FieldType.int)
theorem zmX12_joinedOf : zMd mX12_joinedOf 1 := ⟨(zs7 80 rfl rfl), zi_X12, by decide +kernel, by decide⟩
theorem zcX12_joinedOf : zMv mX12_joinedOf 1 12 := ⟨zmX12_joinedOf, (zs7 79 (by decide +kernel) rfl), (zpr 52 (q := (yX12_joinedOf, 36)) (by decide +kernel)), by decide, rfl⟩
abbrev mX12_told : zD := (yX12_told, cX12_told, 4, some FieldType.int)
theorem zmX12_told : zMd mX12_told 2 := ⟨(zs7 53 rfl rfl), zi_X12, by decide +kernel, by decide⟩
theorem zcX12_told : zMv mX12_told 2 12 := ⟨zmX12_told, (zs7 51 (by decide +kernel) rfl), (zs7 52 (by decide +kernel) rfl), by decide, rfl⟩
abbrev mX12_as : zD := (yX12_as, cX12_as, 4, some FieldType.int)
theorem zmX12_as : zMd mX12_as 2 := ⟨(zs7 84 rfl rfl), zi_X12, by decide +kernel, by decide⟩
theorem zcX12_as : zMv mX12_as 2 12 := ⟨zmX12_as, (zs7 82 (by decide +kernel) rfl), (zs7 83 (by decide +kernel) rfl), by decide, rfl⟩
abbrev mX12_ahead : zD := (yX12_ahead, cX12_ahead, 3, some FieldType.int)
theorem zmX12_ahead : zMd mX12_ahead 2 := ⟨(zs7 89 rfl rfl), zi_X12, by decide +kernel, by decide⟩
theorem zcX12_ahead : zMv mX12_ahead 2 12 := ⟨zmX12_ahead, (zs7 87 (by decide +kernel) rfl), (zs7 88 (by decide +kernel) rfl), by decide, rfl⟩
abbrev mX12_days : zD := (yX12_days, cX12_days, 3, some FieldType.int)
theorem zmX12_days : zMd mX12_days 2 := ⟨(zs7 94 rfl rfl), zi_X12, by decide +kernel, by decide⟩
theorem zcX12_days : zMv mX12_days 2 12 := ⟨zmX12_days, (zs7 92 (by decide +kernel) rfl), (zs7 93 (by decide +kernel) rfl), by decide, rfl⟩
abbrev mX12_gang : zD := (yX12_gang, cX12_gang, 2, some FieldType.int)
theorem zmX12_gang : zMd mX12_gang 1 := ⟨(zs7 98 rfl rfl), zi_X12, by decide +kernel, by decide⟩
theorem zcX12_gang : zMv mX12_gang 1 12 := ⟨zmX12_gang, (zs7 96 (by decide +kernel) rfl), (zs7 97 (by decide +kernel) rfl), by decide, rfl⟩
abbrev mX12_goes : zD := (yX12_goes, cX12_goes, 5, some FieldType.int)
theorem zmX12_goes : zMd mX12_goes 2 := ⟨(zs7 106 rfl rfl), zi_X12, by decide +kernel, by decide⟩
theorem zcX12_goes : zMv mX12_goes 2 12 := ⟨zmX12_goes, (zs7 104 (by decide +kernel) rfl), (zs7 105 (by decide +kernel) rfl), by decide, rfl⟩
abbrev mX12_wet : zD := (yX12_wet, cX12_wet, 3, some FieldType.int)
theorem zmX12_wet : zMd mX12_wet 2 := ⟨(zs7 110 rfl rfl), zi_X12, by decide +kernel, by decide⟩
theorem zcX12_wet : zMv mX12_wet 2 12 := ⟨zmX12_wet, (zs7 108 (by decide +kernel) rfl), (zs7 109 (by decide +kernel) rfl), by decide, rfl⟩
abbrev mX12_isThrough : zD := (yX12_isThrough, cX12_isThrough, 2, some FieldType.boolean)
theorem zmX12_isThrough : zMd mX12_isThrough 1 := ⟨(zs7 137 rfl rfl), zi_X12, by decide +kernel, by decide⟩
theorem zcX12_isThrough : zMv mX12_isThrough 1 12 := ⟨zmX12_isThrough, (zs7 136 (by decide +kernel) rfl), (zpr 57 (q := (yX12_isThrough, 36)) (by decide +kernel)), by decide, rfl⟩
abbrev mX12_isSlipping : zD := (yX12_isSlipping, cX12_isSlipping, 2, some FieldType.boolean)
theorem zmX12_isSlipping : zMd mX12_isSlipping 1 := ⟨(zs7 120 rfl rfl), zi_X12, by decide +kernel, by decide⟩
theorem zcX12_isSlipping : zMv mX12_isSlipping 1 12 := ⟨zmX12_isSlipping, (zs7 119 (by decide +kernel) rfl), (zpr 54 (q := (yX12_isSlipping, 36)) (by decide +kernel)), by decide, rfl⟩
abbrev mX12_foretold : zD := (yX12_foretold, cX12_foretold, 3, some FieldType.int)
theorem zmX12_foretold : zMd mX12_foretold 0 := ⟨(zs7 116 rfl rfl), zi_X12, by decide +kernel, by decide⟩
theorem zcX12_foretold : zMv mX12_foretold 0 12 := ⟨zmX12_foretold, (zs7 114 (by decide +kernel) rfl), (zs7 115 (by decide +kernel) rfl), by decide, rfl⟩
abbrev mX12_works : zD := (yX12_works, cX12_works, 5, none)
theorem zmX12_works : zMd mX12_works 1 := ⟨(zs7 133 rfl rfl), zi_X12, by decide +kernel, by decide⟩
theorem zcX12_works : zMv mX12_works 1 12 := ⟨zmX12_works, (zs7 132 (by decide +kernel) rfl), (zpr 56 (q := (yX12_works, 36)) (by decide +kernel)), by decide, rfl⟩
abbrev mX12_slips : zD := (yX12_slips, cX12_slips, 5, none)
theorem zmX12_slips : zMd mX12_slips 1 := ⟨(zs7 141 rfl rfl), zi_X12, by decide +kernel, by decide⟩
theorem zcX12_slips : zMv mX12_slips 1 12 := ⟨zmX12_slips, (zs7 140 (by decide +kernel) rfl), (zpr 58 (q := (yX12_slips, 36)) (by decide +kernel)), by decide, rfl⟩
abbrev mX12_duesOn : zD := (yX12_duesOn, cX12_duesOn, 4, some FieldType.int)
theorem zmX12_duesOn : zMd mX12_duesOn 1 := ⟨(zs7 145 rfl rfl), zi_X12, by decide +kernel, by decide⟩
theorem zcX12_duesOn : zMv mX12_duesOn 1 12 := ⟨zmX12_duesOn, (zs7 144 (by decide +kernel) rfl), (zpr 59 (q := (yX12_duesOn, 36)) (by decide +kernel)), by decide, rfl⟩
abbrev mX12_pays : zD := (yX12_pays, cX12_pays, 6, none)
theorem zmX12_pays : zMd mX12_pays 1 := ⟨(zs7 149 rfl rfl), zi_X12, by decide +kernel, by decide⟩
theorem zcX12_pays : zMv mX12_pays 1 12 := ⟨zmX12_pays, (zs7 148 (by decide +kernel) rfl), (zpr 60 (q := (yX12_pays, 36)) (by decide +kernel)), by decide, rfl⟩
abbrev mX12_oneDay : zD := (yX12_oneDay, cX12_oneDay, 2, none)
theorem zmX12_oneDay : zMd mX12_oneDay 0 := ⟨(zs7 129 rfl rfl), zi_X12, by decide +kernel, by decide⟩
theorem zcX12_oneDay : zMv mX12_oneDay 0 12 := ⟨zmX12_oneDay, (zs7 128 (by decide +kernel) rfl), (zpr 55 (q := (yX12_oneDay, 36)) (by decide +kernel)), by decide, rfl⟩
abbrev mX12_run : zD := (yX12_run, cX12_run, 3, some FieldType.int)
theorem zmX12_run : zMd mX12_run 1 := ⟨(zs7 124 rfl rfl), zi_X12, by decide +kernel, by decide⟩
theorem zcX12_run : zMv mX12_run 1 12 := ⟨zmX12_run, (zs7 122 (by decide +kernel) rfl), (zs7 123 (by decide +kernel) rfl), by decide, rfl⟩
abbrev mX12_feed : zD := (yX12_feed, cX12_feed, 6, some FieldType.int)
theorem zmX12_feed : zMd mX12_feed 3 := ⟨(zs7 180 rfl rfl), zi_X12, by decide +kernel, by decide⟩
theorem zcX12_feed : zMv mX12_feed 3 12 := ⟨zmX12_feed, (zs7 178 (by decide +kernel) rfl), (zs7 179 (by decide +kernel) rfl), by decide, rfl⟩
abbrev mX12_trim : zD := (yX12_trim, cX12_trim, 2, some FieldType.int)
theorem zmX12_trim : zMd mX12_trim 1 := ⟨(zs7 184 rfl rfl), zi_X12, by decide +kernel, by decide⟩
theorem zcX12_trim : zMv mX12_trim 1 12 := ⟨zmX12_trim, (zs7 182 (by decide +kernel) rfl), (zs7 183 (by decide +kernel) rfl), by decide, rfl⟩
abbrev mX12_isLetter : zD := (yX12_isLetter, cX12_isLetter, 2, some FieldType.boolean)
theorem zmX12_isLetter : zMd mX12_isLetter 1 := ⟨(zs7 200 rfl rfl), zi_X12, by decide +kernel, by decide⟩
theorem zcX12_isLetter : zMv mX12_isLetter 1 12 := ⟨zmX12_isLetter, (zs7 199 (by decide +kernel) rfl), (zpr 68 (q := (yX12_isLetter, 36)) (by decide +kernel)), by decide, rfl⟩
abbrev mX12_isDigit : zD := (yX12_isDigit, cX12_isDigit, 2, some FieldType.boolean)
theorem zmX12_isDigit : zMd mX12_isDigit 1 := ⟨(zs7 206 rfl rfl), zi_X12, by decide +kernel, by decide⟩
theorem zcX12_isDigit : zMv mX12_isDigit 1 12 := ⟨zmX12_isDigit, (zs7 205 (by decide +kernel) rfl), (zpr 69 (q := (yX12_isDigit, 36)) (by decide +kernel)), by decide, rfl⟩
abbrev mX12_next : zD := (yX12_next, cX12_next, 3, none)
theorem zmX12_next : zMd mX12_next 0 := ⟨(zs7 196 rfl rfl), zi_X12, by decide +kernel, by decide⟩
theorem zcX12_next : zMv mX12_next 0 12 := ⟨zmX12_next, (zs7 195 (by decide +kernel) rfl), (zpr 67 (q := (yX12_next, 36)) (by decide +kernel)), by decide, rfl⟩
abbrev mX12_isSign : zD := (yX12_isSign, cX12_isSign, 2, some FieldType.boolean)
theorem zmX12_isSign : zMd mX12_isSign 1 := ⟨(zs8 15 rfl rfl), zi_X12, by decide +kernel, by decide⟩
theorem zcX12_isSign : zMv mX12_isSign 1 12 := ⟨zmX12_isSign, (zs8 14 (by decide +kernel) rfl), (zpr 80 (q := (yX12_isSign, 36)) (by decide +kernel)), by decide, rfl⟩
abbrev mX12_isWordAt : zD := (yX12_isWordAt, cX12_isWordAt, 5, some FieldType.boolean)
theorem zmX12_isWordAt : zMd mX12_isWordAt 4 := ⟨(zs7 220 rfl rfl), zi_X12, by decide +kernel, by decide⟩
theorem zcX12_isWordAt : zMv mX12_isWordAt 4 12 := ⟨zmX12_isWordAt, (zs7 219 (by decide +kernel) rfl), (zpr 72 (q := (yX12_isWordAt, 36)) (by decide +kernel)), by decide, rfl⟩
abbrev mX12_isLong : zD := (yX12_isLong, cX12_isLong, 8, some FieldType.boolean)
theorem zmX12_isLong : zMd mX12_isLong 6 := ⟨(zs7 216 rfl rfl), zi_X12, by decide +kernel, by decide⟩
theorem zcX12_isLong : zMv mX12_isLong 6 12 := ⟨zmX12_isLong, (zs7 215 (by decide +kernel) rfl), (zpr 71 (q := (yX12_isLong, 36)) (by decide +kernel)), by decide, rfl⟩
abbrev mX12_key : zD := (yX12_key, cX12_key, 2, some FieldType.int)
theorem zmX12_key : zMd mX12_key 0 := ⟨(zs7 212 rfl rfl), zi_X12, by decide +kernel, by decide⟩
theorem zcX12_key : zMv mX12_key 0 12 := ⟨zmX12_key, (zs7 211 (by decide +kernel) rfl), (zpr 70 (q := (yX12_key, 36)) (by decide +kernel)), by decide, rfl⟩
abbrev mX12_isName : zD := (yX12_isName, cX12_isName, 2, some FieldType.boolean)
theorem zmX12_isName : zMd mX12_isName 2 := ⟨(zs8 11 rfl rfl), zi_X12, by decide +kernel, by decide⟩
theorem zcX12_isName : zMs mX12_isName 2 := ⟨zmX12_isName, (zs8 10 (by decide +kernel) rfl)⟩
abbrev mX12_step : zD := (yX12_step, cX12_step, 3, none)
theorem zmX12_step : zMd mX12_step 2 := ⟨(zs8 8 rfl rfl), zi_X12, by decide +kernel, by decide⟩
theorem zcX12_step : zMv mX12_step 2 12 := ⟨zmX12_step, (zs8 7 (by decide +kernel) rfl), (zpr 79 (q := (yX12_step, 36)) (by decide +kernel)), by decide, rfl⟩
abbrev mX12_either : zD := (yX12_either, cX12_either, 2, some FieldType.boolean)
theorem zmX12_either : zMd mX12_either 1 := ⟨(zs7 224 rfl rfl), zi_X12, by decide +kernel, by decide⟩
theorem zcX12_either : zMv mX12_either 1 12 := ⟨zmX12_either, (zs7 223 (by decide +kernel) rfl), (zpr 73 (q := (yX12_either, 36)) (by decide +kernel)), by decide, rfl⟩
abbrev mX12_both : zD := (yX12_both, cX12_both, 2, some FieldType.boolean)
theorem zmX12_both : zMd mX12_both 1 := ⟨(zs7 228 rfl rfl), zi_X12, by decide +kernel, by decide⟩
theorem zcX12_both : zMv mX12_both 1 12 := ⟨zmX12_both, (zs7 227 (by decide +kernel) rfl), (zpr 74 (q := (yX12_both, 36)) (by decide +kernel)), by decide, rfl⟩
abbrev mX12_test : zD := (yX12_test, cX12_test, 3, some FieldType.boolean)
theorem zmX12_test : zMd mX12_test 1 := ⟨(zs7 232 rfl rfl), zi_X12, by decide +kernel, by decide⟩
theorem zcX12_test : zMv mX12_test 1 12 := ⟨zmX12_test, (zs7 231 (by decide +kernel) rfl), (zpr 75 (q := (yX12_test, 36)) (by decide +kernel)), by decide, rfl⟩
abbrev mX12_sum : zD := (yX12_sum, cX12_sum, 3, some FieldType.boolean)
theorem zmX12_sum : zMd mX12_sum 1 := ⟨(zs7 236 rfl rfl), zi_X12, by decide +kernel, by decide⟩
theorem zcX12_sum : zMv mX12_sum 1 12 := ⟨zmX12_sum, (zs7 235 (by decide +kernel) rfl), (zpr 76 (q := (yX12_sum, 36)) (by decide +kernel)), by decide, rfl⟩
abbrev mX12_term : zD := (yX12_term, cX12_term, 3, some FieldType.boolean)
theorem zmX12_term : zMd mX12_term 1 := ⟨(zs8 0 rfl rfl), zi_X12, by decide +kernel, by decide⟩
theorem zcX12_term : zMv mX12_term 1 12 := ⟨zmX12_term, (zs7 239 (by decide +kernel) rfl), (zpr 77 (q := (yX12_term, 36)) (by decide +kernel)), by decide, rfl⟩
abbrev mX12_part0 : zD := (yX12_part0, cX12_part0, 2, some FieldType.boolean)
theorem zmX12_part0 : zMd mX12_part0 1 := ⟨(zs8 4 rfl rfl), zi_X12, by decide +kernel, by decide⟩
theorem zcX12_part0 : zMv mX12_part0 1 12 := ⟨zmX12_part0, (zs8 3 (by decide +kernel) rfl), (zpr 78 (q := (yX12_part0, 36)) (by decide +kernel)), by decide, rfl⟩
abbrev mX12_parse : zD := (yX12_parse, cX12_parse, 3, some FieldType.int)
theorem zmX12_parse : zMd mX12_parse 0 := ⟨(zs7 192 rfl rfl), zi_X12, by decide +kernel, by decide⟩
theorem zcX12_parse : zMv mX12_parse 0 12 := ⟨zmX12_parse, (zs7 191 (by decide +kernel) rfl), (zpr 66 (q := (yX12_parse, 36)) (by decide +kernel)), by decide, rfl⟩
abbrev mX12_text : zD := (yX12_text, cX12_text, 5, some FieldType.int)
theorem zmX12_text : zMd mX12_text 1 := ⟨(zs7 188 rfl rfl), zi_X12, by decide +kernel, by decide⟩
theorem zcX12_text : zMv mX12_text 1 12 := ⟨zmX12_text, (zs7 186 (by decide +kernel) rfl), (zs7 187 (by decide +kernel) rfl), by decide, rfl⟩
abbrev mX12_of : zD := (yX12_of, cX12_of, 3, some FieldType.int)
theorem zmX12_of : zMd mX12_of 2 := ⟨(zs8 19 rfl rfl), zi_X12, by decide +kernel, by decide⟩
theorem zcX12_of : zMv mX12_of 2 12 := ⟨zmX12_of, (zs8 17 (by decide +kernel) rfl), (zs8 18 (by decide +kernel) rfl), by decide, rfl⟩
abbrev mX12_counts : zD := (yX12_counts, cX12_counts, 5, some FieldType.int)
theorem zmX12_counts : zMd mX12_counts 1 := ⟨(zs7 161 rfl rfl), zi_X12, by decide +kernel, by decide⟩
theorem zcX12_counts : zMv mX12_counts 1 12 := ⟨zmX12_counts, (zs7 160 (by decide +kernel) rfl), (zpr 63 (q := (yX12_counts, 36)) (by decide +kernel)), by decide, rfl⟩
abbrev mX12_why : zD := (yX12_why, cX12_why, 2, some FieldType.int)
theorem zmX12_why : zMd mX12_why 1 := ⟨(zs8 27 rfl rfl), zi_X12, by decide +kernel, by decide⟩
theorem zcX12_why : zMv mX12_why 1 12 := ⟨zmX12_why, (zs8 25 (by decide +kernel) rfl), (zs8 26 (by decide +kernel) rfl), by decide, rfl⟩
abbrev mX12_joined : zD := (yX12_joined, cX12_joined, 3, some FieldType.int)
theorem zmX12_joined : zMd mX12_joined 3 := ⟨(zs7 172 rfl rfl), zi_X12, by decide +kernel, by decide⟩
theorem zcX12_joined : zMs mX12_joined 3 := ⟨zmX12_joined, (zs7 171 (by decide +kernel) rfl)⟩
abbrev mX12_worked : zD := (yX12_worked, cX12_worked, 6, some FieldType.int)
theorem zmX12_worked : zMd mX12_worked 1 := ⟨(zs7 169 rfl rfl), zi_X12, by decide +kernel, by decide⟩
theorem zcX12_worked : zMv mX12_worked 1 12 := ⟨zmX12_worked, (zs7 168 (by decide +kernel) rfl), (zpr 65 (q := (yX12_worked, 36)) (by decide +kernel)), by decide, rfl⟩
abbrev mX12_heldIn : zD := (yX12_heldIn, cX12_heldIn, 2, some FieldType.int)
theorem zmX12_heldIn : zMd mX12_heldIn 2 := ⟨(zs7 175 rfl rfl), zi_X12, by decide +kernel, by decide⟩
theorem zcX12_heldIn : zMs mX12_heldIn 2 := ⟨zmX12_heldIn, (zs7 174 (by decide +kernel) rfl)⟩
abbrev mX12_ruleOf : zD := (yX12_ruleOf, cX12_ruleOf, 6, some FieldType.int)
theorem zmX12_ruleOf : zMd mX12_ruleOf 4 := ⟨(zs7 157 rfl rfl), zi_X12, by decide +kernel, by decide⟩
theorem zcX12_ruleOf : zMv mX12_ruleOf 4 12 := ⟨zmX12_ruleOf, (zs7 156 (by decide +kernel) rfl), (zpr 62 (q := (yX12_ruleOf, 36)) (by decide +kernel)), by decide, rfl⟩
abbrev mX12_rules : zD := (yX12_rules, cX12_rules, 5, some FieldType.int)
theorem zmX12_rules : zMd mX12_rules 4 := ⟨(zs8 31 rfl rfl), zi_X12, by decide +kernel, by decide⟩
theorem zcX12_rules : zMv mX12_rules 4 12 := ⟨zmX12_rules, (zs8 29 (by decide +kernel) rfl), (zs8 30 (by decide +kernel) rfl), by decide, rfl⟩
abbrev mX12_priceOf : zD := (yX12_priceOf, cX12_priceOf, 2, some FieldType.int)
theorem zmX12_priceOf : zMd mX12_priceOf 1 := ⟨(zs7 153 rfl rfl), zi_X12, by decide +kernel, by decide⟩
theorem zcX12_priceOf : zMv mX12_priceOf 1 12 := ⟨zmX12_priceOf, (zs7 152 (by decide +kernel) rfl), (zpr 61 (q := (yX12_priceOf, 36)) (by decide +kernel)), by decide, rfl⟩
abbrev mX12_price : zD := (yX12_price, cX12_price, 2, some FieldType.int)
theorem zmX12_price : zMd mX12_price 1 := ⟨(zs8 35 rfl rfl), zi_X12, by decide +kernel, by decide⟩
theorem zcX12_price : zMv mX12_price 1 12 := ⟨zmX12_price, (zs8 33 (by decide +kernel) rfl), (zs8 34 (by decide +kernel) rfl), by decide, rfl⟩
abbrev mX12_measure : zD := (yX12_measure, cX12_measure, 4, some FieldType.int)
theorem zmX12_measure : zMd mX12_measure 3 := ⟨(zs8 39 rfl rfl), zi_X12, by decide +kernel, by decide⟩
theorem zcX12_measure : zMv mX12_measure 3 12 := ⟨zmX12_measure, (zs8 37 (by decide +kernel) rfl), (zs8 38 (by decide +kernel) rfl), by decide, rfl⟩
abbrev mX12_quarrels : zD := (yX12_quarrels, cX12_quarrels, 3, some FieldType.int)
theorem zmX12_quarrels : zMd mX12_quarrels 0 := ⟨(zs8 43 rfl rfl), zi_X12, by decide +kernel, by decide⟩
theorem zcX12_quarrels : zMv mX12_quarrels 0 12 := ⟨zmX12_quarrels, (zs8 41 (by decide +kernel) rfl), (zs8 42 (by decide +kernel) rfl), by decide, rfl⟩
abbrev mX12_claim : zD := (yX12_claim, cX12_claim, 5, some FieldType.int)
theorem zmX12_claim : zMd mX12_claim 3 := ⟨(zs8 47 rfl rfl), zi_X12, by decide +kernel, by decide⟩
theorem zcX12_claim : zMv mX12_claim 3 12 := ⟨zmX12_claim, (zs8 45 (by decide +kernel) rfl), (zs8 46 (by decide +kernel) rfl), by decide, rfl⟩
abbrev mX12_giveAll : zD := (yX12_giveAll, cX12_giveAll, 5, some FieldType.int)
theorem zmX12_giveAll : zMd mX12_giveAll 0 := ⟨(zs8 55 rfl rfl), zi_X12, by decide +kernel, by decide⟩
theorem zcX12_giveAll : zMv mX12_giveAll 0 12 := ⟨zmX12_giveAll, (zs8 54 (by decide +kernel) rfl), (zpr 82 (q := (yX12_giveAll, 36)) (by decide +kernel)), by decide, rfl⟩
abbrev mX12_given : zD := (yX12_given, cX12_given, 3, some FieldType.int)
theorem zmX12_given : zMd mX12_given 1 := ⟨(zs8 51 rfl rfl), zi_X12, by decide +kernel, by decide⟩
theorem zcX12_given : zMv mX12_given 1 12 := ⟨zmX12_given, (zs8 49 (by decide +kernel) rfl), (zs8 50 (by decide +kernel) rfl), by decide, rfl⟩
abbrev mX12_late : zD := (yX12_late, cX12_late, 3, some FieldType.int)
theorem zmX12_late : zMd mX12_late 1 := ⟨(zs8 59 rfl rfl), zi_X12, by decide +kernel, by decide⟩
theorem zcX12_late : zMv mX12_late 1 12 := ⟨zmX12_late, (zs8 57 (by decide +kernel) rfl), (zs8 58 (by decide +kernel) rfl), by decide, rfl⟩
abbrev mX12_call : zD := (yX12_call, cX12_call, 2, some FieldType.int)
theorem zmX12_call : zMd mX12_call 1 := ⟨(zs8 63 rfl rfl), zi_X12, by decide +kernel, by decide⟩
theorem zcX12_call : zMv mX12_call 1 12 := ⟨zmX12_call, (zs8 61 (by decide +kernel) rfl), (zs8 62 (by decide +kernel) rfl), by decide, rfl⟩
abbrev mX12_due : zD := (yX12_due, cX12_due, 3, some FieldType.int)
theorem zmX12_due : zMd mX12_due 2 := ⟨(zs8 68 rfl rfl), zi_X12, by decide +kernel, by decide⟩
theorem zcX12_due : zMv mX12_due 2 12 := ⟨zmX12_due, (zs8 66 (by decide +kernel) rfl), (zs8 67 (by decide +kernel) rfl), by decide, rfl⟩
abbrev mX12_out : zD := (yX12_out, cX12_out, 3, some FieldType.int)
theorem zmX12_out : zMd mX12_out 0 := ⟨(zs8 73 rfl rfl), zi_X12, by decide +kernel, by decide⟩
theorem zcX12_out : zMv mX12_out 0 12 := ⟨zmX12_out, (zs8 71 (by decide +kernel) rfl), (zs8 72 (by decide +kernel) rfl), by decide, rfl⟩
abbrev mX12_face : zD := (yX12_face, cX12_face, 3, some FieldType.int)
theorem zmX12_face : zMd mX12_face 2 := ⟨(zs8 77 rfl rfl), zi_X12, by decide +kernel, by decide⟩
theorem zcX12_face : zMv mX12_face 2 12 := ⟨zmX12_face, (zs8 75 (by decide +kernel) rfl), (zs8 76 (by decide +kernel) rfl), by decide, rfl⟩
abbrev mX12_meets : zD := (yX12_meets, cX12_meets, 5, some FieldType.int)
theorem zmX12_meets : zMd mX12_meets 1 := ⟨(zs8 81 rfl rfl), zi_X12, by decide +kernel, by decide⟩
theorem zcX12_meets : zMv mX12_meets 1 12 := ⟨zmX12_meets, (zs8 79 (by decide +kernel) rfl), (zs8 80 (by decide +kernel) rfl), by decide, rfl⟩
abbrev mX12_arch : zD := (yX12_arch, cX12_arch, 2, some FieldType.int)
theorem zmX12_arch : zMd mX12_arch 1 := ⟨(zs8 85 rfl rfl), zi_X12, by decide +kernel, by decide⟩
theorem zcX12_arch : zMv mX12_arch 1 12 := ⟨zmX12_arch, (zs8 83 (by decide +kernel) rfl), (zs8 84 (by decide +kernel) rfl), by decide, rfl⟩
abbrev mX12_holds : zD := (yX12_holds, cX12_holds, 7, some FieldType.boolean)
theorem zmX12_holds : zMd mX12_holds 2 := ⟨(zs8 93 rfl rfl), zi_X12, by decide +kernel, by decide⟩
theorem zcX12_holds : zMv mX12_holds 2 12 := ⟨zmX12_holds, (zs8 92 (by decide +kernel) rfl), (zpr 83 (q := (yX12_holds, 36)) (by decide +kernel)), by decide, rfl⟩
abbrev mX12_nextArch : zD := (yX12_nextArch, cX12_nextArch, 3, some FieldType.int)
theorem zmX12_nextArch : zMd mX12_nextArch 1 := ⟨(zs8 97 rfl rfl), zi_X12, by decide +kernel, by decide⟩
theorem zcX12_nextArch : zMv mX12_nextArch 1 12 := ⟨zmX12_nextArch, (zs8 96 (by decide +kernel) rfl), (zpr 84 (q := (yX12_nextArch, 36)) (by decide +kernel)), by decide, rfl⟩
abbrev mX12_order : zD := (yX12_order, cX12_order, 6, some FieldType.int)
theorem zmX12_order : zMd mX12_order 2 := ⟨(zs8 89 rfl rfl), zi_X12, by decide +kernel, by decide⟩
theorem zcX12_order : zMv mX12_order 2 12 := ⟨zmX12_order, (zs8 87 (by decide +kernel) rfl), (zs8 88 (by decide +kernel) rfl), by decide, rfl⟩
abbrev mX12_findThrough : zD := (yX12_findThrough, cX12_findThrough, 6, none)
theorem zmX12_findThrough : zMd mX12_findThrough 0 := ⟨(zs8 105 rfl rfl), zi_X12, by decide +kernel, by decide⟩
theorem zcX12_findThrough : zMv mX12_findThrough 0 12 := ⟨zmX12_findThrough, (zs8 104 (by decide +kernel) rfl), (zpr 85 (q := (yX12_findThrough, 36)) (by decide +kernel)), by decide, rfl⟩
abbrev mX12_through : zD := (yX12_through, cX12_through, 2, some FieldType.int)
theorem zmX12_through : zMd mX12_through 1 := ⟨(zs8 101 rfl rfl), zi_X12, by decide +kernel, by decide⟩
theorem zcX12_through : zMv mX12_through 1 12 := ⟨zmX12_through, (zs8 99 (by decide +kernel) rfl), (zs8 100 (by decide +kernel) rfl), by decide, rfl⟩
abbrev mX12_chain : zD := (yX12_chain, cX12_chain, 8, some FieldType.int)
theorem zmX12_chain : zMd mX12_chain 2 := ⟨(zs8 109 rfl rfl), zi_X12, by decide +kernel, by decide⟩
theorem zcX12_chain : zMv mX12_chain 2 12 := ⟨zmX12_chain, (zs8 107 (by decide +kernel) rfl), (zs8 108 (by decide +kernel) rfl), by decide, rfl⟩
abbrev mX12_isSurvey : zD := (yX12_isSurvey, cX12_isSurvey, 1, some FieldType.boolean)
theorem zmX12_isSurvey : zMd mX12_isSurvey 1 := ⟨(zs8 116 rfl rfl), zi_X12, by decide +kernel, by decide⟩
theorem zcX12_isSurvey : zMs mX12_isSurvey 1 := ⟨zmX12_isSurvey, (zs8 115 (by decide +kernel) rfl)⟩
abbrev mX12_survey : zD := (yX12_survey, cX12_survey, 5, some FieldType.int)
theorem zmX12_survey : zMd mX12_survey 3 := ⟨(zs8 113 rfl rfl), zi_X12, by decide +kernel, by decide⟩
theorem zcX12_survey : zMv mX12_survey 3 12 := ⟨zmX12_survey, (zs8 111 (by decide +kernel) rfl), (zs8 112 (by decide +kernel) rfl), by decide, rfl⟩
abbrev mX12_lacks : zD := (yX12_lacks, cX12_lacks, 3, some FieldType.int)
theorem zmX12_lacks : zMd mX12_lacks 2 := ⟨(zs8 126 rfl rfl), zi_X12, by decide +kernel, by decide⟩
theorem zcX12_lacks : zMv mX12_lacks 2 12 := ⟨zmX12_lacks, (zs8 125 (by decide +kernel) rfl), (zpr 86 (q := (yX12_lacks, 36)) (by decide +kernel)), by decide, rfl⟩
abbrev mX12_note : zD := (yX12_note, cX12_note, 5, some FieldType.int)
theorem zmX12_note : zMd mX12_note 3 := ⟨(zs8 122 rfl rfl), zi_X12, by decide +kernel, by decide⟩
theorem zcX12_note : zMv mX12_note 3 12 := ⟨zmX12_note, (zs8 120 (by decide +kernel) rfl), (zs8 121 (by decide +kernel) rfl), by decide, rfl⟩
abbrev mX12_nearest : zD := (yX12_nearest, cX12_nearest, 5, some FieldType.int)
theorem zmX12_nearest : zMd mX12_nearest 3 := ⟨(zs8 138 rfl rfl), zi_X12, by decide +kernel, by decide⟩
theorem zcX12_nearest : zMv mX12_nearest 3 12 := ⟨zmX12_nearest, (zs8 137 (by decide +kernel) rfl), (zpr 87 (q := (yX12_nearest, 36)) (by decide +kernel)), by decide, rfl⟩
abbrev mX12_read : zD := (yX12_read, cX12_read, 8, some FieldType.int)
theorem zmX12_read : zMd mX12_read 2 := ⟨(zs8 134 rfl rfl), zi_X12, by decide +kernel, by decide⟩
theorem zcX12_read : zMv mX12_read 2 12 := ⟨zmX12_read, (zs8 132 (by decide +kernel) rfl), (zs8 133 (by decide +kernel) rfl), by decide, rfl⟩
abbrev mX12_copy : zD := (yX12_copy, cX12_copy, 7, some FieldType.int)
theorem zmX12_copy : zMd mX12_copy 5 := ⟨(zs8 142 rfl rfl), zi_X12, by decide +kernel, by decide⟩
theorem zcX12_copy : zMv mX12_copy 5 12 := ⟨zmX12_copy, (zs8 140 (by decide +kernel) rfl), (zs8 141 (by decide +kernel) rfl), by decide, rfl⟩
abbrev mX12_tell : zD := (yX12_tell, cX12_tell, 2, some FieldType.int)
theorem zmX12_tell : zMd mX12_tell 1 := ⟨(zs8 146 rfl rfl), zi_X12, by decide +kernel, by decide⟩
theorem zcX12_tell : zMv mX12_tell 1 12 := ⟨zmX12_tell, (zs8 144 (by decide +kernel) rfl), (zs8 145 (by decide +kernel) rfl), by decide, rfl⟩
abbrev mX12_setAside : zD := (yX12_setAside, cX12_setAside, 4, none)
theorem zmX12_setAside : zMd mX12_setAside 2 := ⟨(zs8 155 rfl rfl), zi_X12, by decide +kernel, by decide⟩
theorem zcX12_setAside : zMv mX12_setAside 2 12 := ⟨zmX12_setAside, (zs8 154 (by decide +kernel) rfl), (zpr 88 (q := (yX12_setAside, 36)) (by decide +kernel)), by decide, rfl⟩
abbrev mX12_check : zD := (yX12_check, cX12_check, 5, some FieldType.int)
theorem zmX12_check : zMd mX12_check 1 := ⟨(zs8 150 rfl rfl), zi_X12, by decide +kernel, by decide⟩
theorem zcX12_check : zMv mX12_check 1 12 := ⟨zmX12_check, (zs8 148 (by decide +kernel) rfl), (zs8 149 (by decide +kernel) rfl), by decide, rfl⟩
abbrev mX12_keep : zD := (yX12_keep, cX12_keep, 1, some FieldType.int)
theorem zmX12_keep : zMd mX12_keep 0 := ⟨(zs8 159 rfl rfl), zi_X12, by decide +kernel, by decide⟩
theorem zcX12_keep : zMv mX12_keep 0 12 := ⟨zmX12_keep, (zs8 157 (by decide +kernel) rfl), (zs8 158 (by decide +kernel) rfl), by decide, rfl⟩
abbrev mX12_back : zD := (yX12_back, cX12_back, 1, some FieldType.int)
theorem zmX12_back : zMd mX12_back 0 := ⟨(zs8 163 rfl rfl), zi_X12, by decide +kernel, by decide⟩
theorem zcX12_back : zMv mX12_back 0 12 := ⟨zmX12_back, (zs8 161 (by decide +kernel) rfl), (zs8 162 (by decide +kernel) rfl), by decide, rfl⟩
abbrev mX12_count : zD := (yX12_count, cX12_count, 4, some FieldType.int)
theorem zmX12_count : zMd mX12_count 1 := ⟨(zs8 167 rfl rfl), zi_X12, by decide +kernel, by decide⟩
theorem zcX12_count : zMv mX12_count 1 12 := ⟨zmX12_count, (zs8 165 (by decide +kernel) rfl), (zs8 166 (by decide +kernel) rfl), by decide, rfl⟩
abbrev mJ11_isValidCodePoint_9a6ad : zD := (yJ11_isValidCodePoint_9a6ad, cJ11_isValidCodePoint_9a6ad, 2, some FieldType.boolean)
theorem zmJ11_isValidCodePoint_9a6ad : zMd mJ11_isValidCodePoint_9a6ad 1 := ⟨(zs4 159 rfl rfl), zi_J11, by decide +kernel, by decide⟩
theorem zcJ11_isValidCodePoint_9a6ad : zMs mJ11_isValidCodePoint_9a6ad 1 := ⟨zmJ11_isValidCodePoint_9a6ad, (zs4 158 (by decide +kernel) rfl)⟩
abbrev mJ11_highSurrogate_5068e : zD := (yJ11_highSurrogate_5068e, cJ11_highSurrogate_5068e, 1, some FieldType.char)
theorem zmJ11_highSurrogate_5068e : zMd mJ11_highSurrogate_5068e 1 := ⟨(zs4 162 rfl rfl), zi_J11, by decide +kernel, by decide⟩
theorem zcJ11_highSurrogate_5068e : zMs mJ11_highSurrogate_5068e 1 := ⟨zmJ11_highSurrogate_5068e, (zs4 161 (by decide +kernel) rfl)⟩
abbrev mJ11_lowSurrogate_5068e : zD := (yJ11_lowSurrogate_5068e, cJ11_lowSurrogate_5068e, 1, some FieldType.char)
theorem zmJ11_lowSurrogate_5068e : zMd mJ11_lowSurrogate_5068e 1 := ⟨(zs4 166 rfl rfl), zi_J11, by decide +kernel, by decide⟩
theorem zcJ11_lowSurrogate_5068e : zMs mJ11_lowSurrogate_5068e 1 := ⟨zmJ11_lowSurrogate_5068e, (zs4 165 (by decide +kernel) rfl)⟩
abbrev mJ6_bitCount_0f7a4 : zD := (yJ6_bitCount_0f7a4, cJ6_bitCount_0f7a4, 1, some FieldType.int)
theorem zmJ6_bitCount_0f7a4 : zMd mJ6_bitCount_0f7a4 1 := ⟨(zs6 55 rfl rfl), zi_J6, by decide +kernel, by decide⟩
theorem zcJ6_bitCount_0f7a4 : zMs mJ6_bitCount_0f7a4 1 := ⟨zmJ6_bitCount_0f7a4, (zs6 54 (by decide +kernel) rfl)⟩
abbrev mJ9_abs_0f7a4 : zD := (yJ9_abs_0f7a4, cJ9_abs_0f7a4, 1, some FieldType.int)
theorem zmJ9_abs_0f7a4 : zMd mJ9_abs_0f7a4 1 := ⟨(zs2 228 rfl rfl), zi_J9, by decide +kernel, by decide⟩
theorem zcJ9_abs_0f7a4 : zMs mJ9_abs_0f7a4 1 := ⟨zmJ9_abs_0f7a4, (zs2 227 (by decide +kernel) rfl)⟩
abbrev mJ9_max_7cf53 : zD := (yJ9_max_7cf53, cJ9_max_7cf53, 2, some FieldType.int)
theorem zmJ9_max_7cf53 : zMd mJ9_max_7cf53 2 := ⟨(zs1 55 rfl rfl), zi_J9, by decide +kernel, by decide⟩
theorem zcJ9_max_7cf53 : zMs mJ9_max_7cf53 2 := ⟨zmJ9_max_7cf53, (zs1 54 (by decide +kernel) rfl)⟩
abbrev mJ9_min_7cf53 : zD := (yJ9_min_7cf53, cJ9_min_7cf53, 2, some FieldType.int)
theorem zmJ9_min_7cf53 : zMd mJ9_min_7cf53 2 := ⟨(zs1 52 rfl rfl), zi_J9, by decide +kernel, by decide⟩
theorem zcJ9_min_7cf53 : zMs mJ9_min_7cf53 2 := ⟨zmJ9_min_7cf53, (zs1 51 (by decide +kernel) rfl)⟩
abbrev mJ0_length_8abf5 : zD := (yJ0_length_8abf5, cJ0_length_8abf5, 1, some FieldType.int)
theorem zmJ0_length_8abf5 : zMd mJ0_length_8abf5 0 := ⟨(zs4 25 rfl rfl), zi_J0, by decide +kernel, by decide⟩
abbrev mJ0_charAt_5068e : zD := (yJ0_charAt_5068e, cJ0_charAt_5068e, 2, some FieldType.char)
theorem zmJ0_charAt_5068e : zMd mJ0_charAt_5068e 1 := ⟨(zs4 35 rfl rfl), zi_J0, by decide +kernel, by decide⟩
abbrev mJ0_indexOf_0f7a4 : zD := (yJ0_indexOf_0f7a4, cJ0_indexOf_0f7a4, 2, some FieldType.int)
theorem zmJ0_indexOf_0f7a4 : zMd mJ0_indexOf_0f7a4 1 := ⟨(zs4 116 rfl rfl), zi_J0, by decide +kernel, by decide⟩
abbrev mJ0_indexOf_7cf53 : zD := (yJ0_indexOf_7cf53, cJ0_indexOf_7cf53, 3, some FieldType.int)
theorem zmJ0_indexOf_7cf53 : zMd mJ0_indexOf_7cf53 2 := ⟨(zs4 120 rfl rfl), zi_J0, by decide +kernel, by decide⟩
abbrev mJ0_coder_7d493 : zD := (yJ0_coder_7d493, cJ0_coder_7d493, 1, some FieldType.byte)
theorem zmJ0_coder_7d493 : zMd mJ0_coder_7d493 0 := ⟨(zs4 29 rfl rfl), zi_J0, by decide +kernel, by decide⟩
abbrev mJ0_isLatin1_aae02 : zD := (yJ0_isLatin1_aae02, cJ0_isLatin1_aae02, 1, some FieldType.boolean)
theorem zmJ0_isLatin1_aae02 : zMd mJ0_isLatin1_aae02 0 := ⟨(zs4 39 rfl rfl), zi_J0, by decide +kernel, by decide⟩
abbrev mJ0_checkIndex_df160 : zD := (yJ0_checkIndex_df160, cJ0_checkIndex_df160, 2, none)
theorem zmJ0_checkIndex_df160 : zMd mJ0_checkIndex_df160 2 := ⟨(zs4 45 rfl rfl), zi_J0, by decide +kernel, by decide⟩
theorem zcJ0_checkIndex_df160 : zMs mJ0_checkIndex_df160 2 := ⟨zmJ0_checkIndex_df160, (zs4 44 (by decide +kernel) rfl)⟩
abbrev mJ0_checkBoundsBeginEnd_23922 : zD := (yJ0_checkBoundsBeginEnd_23922, cJ0_checkBoundsBeginEnd_23922, 3, none)
theorem zmJ0_checkBoundsBeginEnd_23922 : zMd mJ0_checkBoundsBeginEnd_23922 3 := ⟨(zs4 147 rfl rfl), zi_J0, by decide +kernel, by decide⟩
theorem zcJ0_checkBoundsBeginEnd_23922 : zMs mJ0_checkBoundsBeginEnd_23922 3 := ⟨zmJ0_checkBoundsBeginEnd_23922, (zs4 146 (by decide +kernel) rfl)⟩
abbrev mJ1_charAt_3b067 : zD := (yJ1_charAt_3b067, cJ1_charAt_3b067, 2, some FieldType.char)
theorem zmJ1_charAt_3b067 : zMd mJ1_charAt_3b067 2 := ⟨(zs4 42 rfl rfl), zi_J1, by decide +kernel, by decide⟩
theorem zcJ1_charAt_3b067 : zMs mJ1_charAt_3b067 2 := ⟨zmJ1_charAt_3b067, (zs4 41 (by decide +kernel) rfl)⟩
abbrev mJ1_canEncode_9a6ad : zD := (yJ1_canEncode_9a6ad, cJ1_canEncode_9a6ad, 1, some FieldType.boolean)
theorem zmJ1_canEncode_9a6ad : zMd mJ1_canEncode_9a6ad 1 := ⟨(zs4 127 rfl rfl), zi_J1, by decide +kernel, by decide⟩
theorem zcJ1_canEncode_9a6ad : zMs mJ1_canEncode_9a6ad 1 := ⟨zmJ1_canEncode_9a6ad, (zs4 126 (by decide +kernel) rfl)⟩
abbrev mJ1_indexOf_4cfef : zD := (yJ1_indexOf_4cfef, cJ1_indexOf_4cfef, 4, some FieldType.int)
theorem zmJ1_indexOf_4cfef : zMd mJ1_indexOf_4cfef 4 := ⟨(zs4 124 rfl rfl), zi_J1, by decide +kernel, by decide⟩
theorem zcJ1_indexOf_4cfef : zMs mJ1_indexOf_4cfef 4 := ⟨zmJ1_indexOf_4cfef, (zs4 123 (by decide +kernel) rfl)⟩
abbrev mJ1_indexOfChar_4cfef : zD := (yJ1_indexOfChar_4cfef, cJ1_indexOfChar_4cfef, 6, some FieldType.int)
theorem zmJ1_indexOfChar_4cfef : zMd mJ1_indexOfChar_4cfef 4 := ⟨(zs4 132 rfl rfl), zi_J1, by decide +kernel, by decide⟩
theorem zcJ1_indexOfChar_4cfef : zMs mJ1_indexOfChar_4cfef 4 := ⟨zmJ1_indexOfChar_4cfef, (zs4 131 (by decide +kernel) rfl)⟩
abbrev mJ2_getChar_3b067 : zD := (yJ2_getChar_3b067, cJ2_getChar_3b067, 2, some FieldType.char)
theorem zmJ2_getChar_3b067 : zMd mJ2_getChar_3b067 2 := ⟨(zs4 63 rfl rfl), zi_J2, by decide +kernel, by decide⟩
theorem zcJ2_getChar_3b067 : zMs mJ2_getChar_3b067 2 := ⟨zmJ2_getChar_3b067, (zs4 62 (by decide +kernel) rfl)⟩
abbrev mJ2_length_9d52b : zD := (yJ2_length_9d52b, cJ2_length_9d52b, 1, some FieldType.int)
theorem zmJ2_length_9d52b : zMd mJ2_length_9d52b 1 := ⟨(zs4 59 rfl rfl), zi_J2, by decide +kernel, by decide⟩
theorem zcJ2_length_9d52b : zMs mJ2_length_9d52b 1 := ⟨zmJ2_length_9d52b, (zs4 58 (by decide +kernel) rfl)⟩
abbrev mJ2_indexOf_4cfef : zD := (yJ2_indexOf_4cfef, cJ2_indexOf_4cfef, 4, some FieldType.int)
theorem zmJ2_indexOf_4cfef : zMd mJ2_indexOf_4cfef 4 := ⟨(zs4 135 rfl rfl), zi_J2, by decide +kernel, by decide⟩
theorem zcJ2_indexOf_4cfef : zMs mJ2_indexOf_4cfef 4 := ⟨zmJ2_indexOf_4cfef, (zs4 134 (by decide +kernel) rfl)⟩
abbrev mJ2_indexOfChar_4cfef : zD := (yJ2_indexOfChar_4cfef, cJ2_indexOfChar_4cfef, 4, some FieldType.int)
theorem zmJ2_indexOfChar_4cfef : zMd mJ2_indexOfChar_4cfef 4 := ⟨(zs4 141 rfl rfl), zi_J2, by decide +kernel, by decide⟩
theorem zcJ2_indexOfChar_4cfef : zMs mJ2_indexOfChar_4cfef 4 := ⟨zmJ2_indexOfChar_4cfef, (zs4 140 (by decide +kernel) rfl)⟩
abbrev mJ2_indexOfCharUnsafe_4cfef : zD := (yJ2_indexOfCharUnsafe_4cfef, cJ2_indexOfCharUnsafe_4cfef, 5, some FieldType.int)
theorem zmJ2_indexOfCharUnsafe_4cfef : zMd mJ2_indexOfCharUnsafe_4cfef 4 := ⟨(zs4 153 rfl rfl), zi_J2, by decide +kernel, by decide⟩
theorem zcJ2_indexOfCharUnsafe_4cfef : zMs mJ2_indexOfCharUnsafe_4cfef 4 := ⟨zmJ2_indexOfCharUnsafe_4cfef, (zs4 152 (by decide +kernel) rfl)⟩
abbrev mJ2_indexOfSupplementary_4cfef : zD := (yJ2_indexOfSupplementary_4cfef, cJ2_indexOfSupplementary_4cfef, 7, some FieldType.int)
theorem zmJ2_indexOfSupplementary_4cfef : zMd mJ2_indexOfSupplementary_4cfef 4 := ⟨(zs4 156 rfl rfl), zi_J2, by decide +kernel, by decide⟩
theorem zcJ2_indexOfSupplementary_4cfef : zMs mJ2_indexOfSupplementary_4cfef 4 := ⟨zmJ2_indexOfSupplementary_4cfef, (zs4 155 (by decide +kernel) rfl)⟩
abbrev mJ2_charAt_3b067 : zD := (yJ2_charAt_3b067, cJ2_charAt_3b067, 2, some FieldType.char)
theorem zmJ2_charAt_3b067 : zMd mJ2_charAt_3b067 2 := ⟨(zs4 53 rfl rfl), zi_J2, by decide +kernel, by decide⟩
theorem zcJ2_charAt_3b067 : zMs mJ2_charAt_3b067 2 := ⟨zmJ2_charAt_3b067, (zs4 52 (by decide +kernel) rfl)⟩
abbrev mJ2_checkIndex_2214a : zD := (yJ2_checkIndex_2214a, cJ2_checkIndex_2214a, 2, none)
theorem zmJ2_checkIndex_2214a : zMd mJ2_checkIndex_2214a 2 := ⟨(zs4 56 rfl rfl), zi_J2, by decide +kernel, by decide⟩
theorem zcJ2_checkIndex_2214a : zMs mJ2_checkIndex_2214a 2 := ⟨zmJ2_checkIndex_2214a, (zs4 55 (by decide +kernel) rfl)⟩
abbrev mJ2_checkBoundsBeginEnd_d044e : zD := (yJ2_checkBoundsBeginEnd_d044e, cJ2_checkBoundsBeginEnd_d044e, 3, none)
theorem zmJ2_checkBoundsBeginEnd_d044e : zMd mJ2_checkBoundsBeginEnd_d044e 3 := ⟨(zs4 144 rfl rfl), zi_J2, by decide +kernel, by decide⟩
theorem zcJ2_checkBoundsBeginEnd_d044e : zMs mJ2_checkBoundsBeginEnd_d044e 3 := ⟨zmJ2_checkBoundsBeginEnd_d044e, (zs4 143 (by decide +kernel) rfl)⟩
abbrev mJ7_fill_53178 : zD := (yJ7_fill_53178, cJ7_fill_53178, 4, none)
theorem zmJ7_fill_53178 : zMd mJ7_fill_53178 2 := ⟨(zs5 45 rfl rfl), zi_J7, by decide +kernel, by decide⟩
theorem zcJ7_fill_53178 : zMs mJ7_fill_53178 2 := ⟨zmJ7_fill_53178, (zs5 44 (by decide +kernel) rfl)⟩
abbrev mJ7_copyOf_59c91 : zD := (yJ7_copyOf_59c91, cJ7_copyOf_59c91, 3, some (FieldType.array FieldType.int))
theorem zmJ7_copyOf_59c91 : zMd mJ7_copyOf_59c91 2 := ⟨(zs4 192 rfl rfl), zi_J7, by decide +kernel, by decide⟩
theorem zcJ7_copyOf_59c91 : zMs mJ7_copyOf_59c91 2 := ⟨zmJ7_copyOf_59c91, (zs4 191 (by decide +kernel) rfl)⟩
abbrev mJ3_checkIndex_8e157 : zD := (yJ3_checkIndex_8e157, cJ3_checkIndex_8e157, 3, some FieldType.int)
theorem zmJ3_checkIndex_8e157 : zMd mJ3_checkIndex_8e157 3 := ⟨(zs4 50 rfl rfl), zi_J3, by decide +kernel, by decide⟩
theorem zcJ3_checkIndex_8e157 : zMs mJ3_checkIndex_8e157 3 := ⟨zmJ3_checkIndex_8e157, (zs4 49 (by decide +kernel) rfl)⟩
abbrev mJ3_checkFromToIndex_8c36e : zD := (yJ3_checkFromToIndex_8c36e, cJ3_checkFromToIndex_8c36e, 4, some FieldType.int)
theorem zmJ3_checkFromToIndex_8c36e : zMd mJ3_checkFromToIndex_8c36e 4 := ⟨(zs4 150 rfl rfl), zi_J3, by decide +kernel, by decide⟩
theorem zcJ3_checkFromToIndex_8c36e : zMs mJ3_checkFromToIndex_8c36e 4 := ⟨zmJ3_checkFromToIndex_8c36e, (zs4 149 (by decide +kernel) rfl)⟩
