/-! ===== what the tables say is said by the words of the Statement (by wip/gen_tok.py) ===== -/
def pm_gw : List Cond := lw_tbl.filter goodWord
theorem pm_g {w : Cond} (h : w ∈ lw_tbl) (g : goodWord w = true) : w ∈ pm_gw := List.mem_filter.mpr ⟨h, g⟩
theorem pm_i1 {w : Cond} (h : w ∈ tables_1_1) : w ∈ lw_tbl := List.mem_append_right _ (List.mem_append_left _ h)
theorem pm_i2 {w : Cond} (h : w ∈ tables_1_2) : w ∈ lw_tbl := List.mem_append_right _ (List.mem_append_right _ (List.mem_append_left _ h))
theorem pm_i3 {w : Cond} (h : w ∈ tables_1_3) : w ∈ lw_tbl := List.mem_append_right _ (List.mem_append_right _ (List.mem_append_right _ (List.mem_append_left _ h)))
theorem pm_i4 {w : Cond} (h : w ∈ tables_1_4) : w ∈ lw_tbl := List.mem_append_right _ (List.mem_append_right _ (List.mem_append_right _ (List.mem_append_right _ h)))
theorem pm_i0 {q : MethodName × Nat} (h : q ∈ lw_privs) : Cond.selects q.1.cls q.1 q.1 ∈ lw_tbl := List.mem_append_left _ (List.mem_map.mpr ⟨q, h, rfl⟩)
def pm_nm (k : Nat) : String := pm_cn.getD k ""
def pm_clq (c : Nat) : vw_C := pm_cl.getD c ("", fun _ => ("", "", "", true), 0)
/-- what is said of a method -/
def pm_MQ (q : pm_MT) : Prop := Cond.code q.2.1 q.2.2.1 q.2.2.2.1 q.2.2.2.2.1 ∈ lw_tbl ∧ Cond.initialized q.2.1.cls ∈ lw_tbl ∧ (q.2.2.2.2.2.1 = 0 → Cond.static q.2.1 ∈ lw_tbl) ∧ (q.2.2.2.2.2.1 = 1 → Cond.instanceMethod q.2.1 ∈ lw_tbl ∧ Cond.selects q.2.1.cls q.2.1 q.2.1 ∈ lw_tbl) ∧ (q.2.2.2.2.2.1 = 2 → Cond.instanceMethod q.2.1 ∈ lw_tbl)
theorem pm_k0 : pm_MQ (0, yX0_init, cX0_init, 1, none, 2, 0) := ⟨pm_i1 (List.mem_of_getElem? (i := 132) rfl), pm_i1 (List.mem_of_getElem? (i := 6) rfl), (fun h => by cases h), (fun h => by cases h), (fun _ => pm_i1 (List.mem_of_getElem? (i := 131) rfl))⟩
theorem pm_k1 : pm_MQ (0, yX0_become, cX0_become, 4, none, 1, 3) := ⟨pm_i2 (List.mem_of_getElem? (i := 21) rfl), pm_i1 (List.mem_of_getElem? (i := 6) rfl), (fun h => by cases h), (fun _ => ⟨pm_i2 (List.mem_of_getElem? (i := 19) rfl), pm_i2 (List.mem_of_getElem? (i := 20) rfl)⟩), (fun h => by cases h)⟩
theorem pm_k2 : pm_MQ (0, yX0_choose, cX0_choose, 4, none, 1, 3) := ⟨pm_i2 (List.mem_of_getElem? (i := 106) rfl), pm_i1 (List.mem_of_getElem? (i := 6) rfl), (fun h => by cases h), (fun _ => ⟨pm_i2 (List.mem_of_getElem? (i := 104) rfl), pm_i2 (List.mem_of_getElem? (i := 105) rfl)⟩), (fun h => by cases h)⟩
theorem pm_k3 : pm_MQ (0, yX0_empty, cX0_empty, 1, none, 1, 0) := ⟨pm_i2 (List.mem_of_getElem? (i := 25) rfl), pm_i1 (List.mem_of_getElem? (i := 6) rfl), (fun h => by cases h), (fun _ => ⟨pm_i2 (List.mem_of_getElem? (i := 23) rfl), pm_i2 (List.mem_of_getElem? (i := 24) rfl)⟩), (fun h => by cases h)⟩
theorem pm_k4 : pm_MQ (0, yX0_isStale, cX0_isStale, 2, (some .boolean), 1, 1) := ⟨pm_i2 (List.mem_of_getElem? (i := 122) rfl), pm_i1 (List.mem_of_getElem? (i := 6) rfl), (fun h => by cases h), (fun _ => ⟨pm_i2 (List.mem_of_getElem? (i := 120) rfl), pm_i2 (List.mem_of_getElem? (i := 121) rfl)⟩), (fun h => by cases h)⟩
theorem pm_k5 : pm_MQ (0, yX0_items, cX0_items, 2, (some (.object "ViewsJoins$Items")), 1, 1) := ⟨pm_i2 (List.mem_of_getElem? (i := 60) rfl), pm_i1 (List.mem_of_getElem? (i := 6) rfl), (fun h => by cases h), (fun _ => ⟨pm_i2 (List.mem_of_getElem? (i := 58) rfl), pm_i2 (List.mem_of_getElem? (i := 59) rfl)⟩), (fun h => by cases h)⟩
theorem pm_k6 : pm_MQ (0, yX0_addNode, cX0_addNode, 5, none, 1, 3) := ⟨pm_i2 (List.mem_of_getElem? (i := 29) rfl), pm_i1 (List.mem_of_getElem? (i := 6) rfl), (fun h => by cases h), (fun _ => ⟨pm_i2 (List.mem_of_getElem? (i := 27) rfl), pm_i2 (List.mem_of_getElem? (i := 28) rfl)⟩), (fun h => by cases h)⟩
theorem pm_k7 : pm_MQ (0, yX0_addArc, cX0_addArc, 8, none, 1, 5) := ⟨pm_i2 (List.mem_of_getElem? (i := 49) rfl), pm_i1 (List.mem_of_getElem? (i := 6) rfl), (fun h => by cases h), (fun _ => ⟨pm_i2 (List.mem_of_getElem? (i := 47) rfl), pm_i2 (List.mem_of_getElem? (i := 48) rfl)⟩), (fun h => by cases h)⟩
theorem pm_k8 : pm_MQ (0, yX0_countFrom, cX0_countFrom, 4, (some .int), 1, 1) := ⟨pm_i2 (List.mem_of_getElem? (i := 156) rfl), pm_i1 (List.mem_of_getElem? (i := 6) rfl), (fun h => by cases h), (fun _ => ⟨pm_i2 (List.mem_of_getElem? (i := 154) rfl), pm_i2 (List.mem_of_getElem? (i := 155) rfl)⟩), (fun h => by cases h)⟩
theorem pm_k9 : pm_MQ (0, yX0_countBeside, cX0_countBeside, 4, (some .int), 1, 1) := ⟨pm_i2 (List.mem_of_getElem? (i := 160) rfl), pm_i1 (List.mem_of_getElem? (i := 6) rfl), (fun h => by cases h), (fun _ => ⟨pm_i2 (List.mem_of_getElem? (i := 158) rfl), pm_i2 (List.mem_of_getElem? (i := 159) rfl)⟩), (fun h => by cases h)⟩
theorem pm_k10 : pm_MQ (0, yX0_countReached, cX0_countReached, 8, (some .int), 1, 1) := ⟨pm_i3 (List.mem_of_getElem? (i := 68) rfl), pm_i1 (List.mem_of_getElem? (i := 6) rfl), (fun h => by cases h), (fun _ => ⟨pm_i3 (List.mem_of_getElem? (i := 66) rfl), pm_i3 (List.mem_of_getElem? (i := 67) rfl)⟩), (fun h => by cases h)⟩
theorem pm_k11 : pm_MQ (0, yX0_isLike, cX0_isLike, 3, (some .boolean), 1, 1) := ⟨pm_i3 (List.mem_of_getElem? (i := 60) rfl), pm_i1 (List.mem_of_getElem? (i := 6) rfl), (fun h => by cases h), (fun _ => ⟨pm_i3 (List.mem_of_getElem? (i := 58) rfl), pm_i3 (List.mem_of_getElem? (i := 59) rfl)⟩), (fun h => by cases h)⟩
theorem pm_k12 : pm_MQ (1, yX1_init, cX1_init, 1, none, 2, 0) := ⟨pm_i1 (List.mem_of_getElem? (i := 64) rfl), pm_i1 (List.mem_of_getElem? (i := 4) rfl), (fun h => by cases h), (fun h => by cases h), (fun _ => pm_i1 (List.mem_of_getElem? (i := 63) rfl))⟩
theorem pm_k13 : pm_MQ (1, yX1_begin, cX1_begin, 2, none, 1, 0) := ⟨pm_i2 (List.mem_of_getElem? (i := 232) rfl), pm_i1 (List.mem_of_getElem? (i := 4) rfl), (fun h => by cases h), (fun _ => ⟨pm_i2 (List.mem_of_getElem? (i := 230) rfl), pm_i2 (List.mem_of_getElem? (i := 231) rfl)⟩), (fun h => by cases h)⟩
theorem pm_k14 : pm_MQ (1, yX1_hasAny, cX1_hasAny, 2, (some .boolean), 1, 1) := ⟨pm_i3 (List.mem_of_getElem? (i := 7) rfl), pm_i1 (List.mem_of_getElem? (i := 4) rfl), (fun h => by cases h), (fun _ => ⟨pm_i3 (List.mem_of_getElem? (i := 5) rfl), pm_i3 (List.mem_of_getElem? (i := 6) rfl)⟩), (fun h => by cases h)⟩
theorem pm_k15 : pm_MQ (1, yX1_put, cX1_put, 6, none, 1, 4) := ⟨pm_i2 (List.mem_of_getElem? (i := 236) rfl), pm_i1 (List.mem_of_getElem? (i := 4) rfl), (fun h => by cases h), (fun _ => ⟨pm_i2 (List.mem_of_getElem? (i := 234) rfl), pm_i2 (List.mem_of_getElem? (i := 235) rfl)⟩), (fun h => by cases h)⟩
theorem pm_k16 : pm_MQ (1, yX1_addTo, cX1_addTo, 6, none, 1, 2) := ⟨pm_i3 (List.mem_of_getElem? (i := 0) rfl), pm_i1 (List.mem_of_getElem? (i := 4) rfl), (fun h => by cases h), (fun _ => ⟨pm_i2 (List.mem_of_getElem? (i := 239) rfl), pm_i0 (q := (yX1_addTo, 3)) (List.mem_of_getElem? (i := 19) rfl)⟩), (fun h => by cases h)⟩
theorem pm_k17 : pm_MQ (2, yX2_init, cX2_init, 1, none, 2, 0) := ⟨pm_i1 (List.mem_of_getElem? (i := 168) rfl), pm_i1 (List.mem_of_getElem? (i := 9) rfl), (fun h => by cases h), (fun h => by cases h), (fun _ => pm_i1 (List.mem_of_getElem? (i := 167) rfl))⟩
theorem pm_k18 : pm_MQ (2, yX2_add, cX2_add, 4, none, 1, 3) := ⟨pm_i2 (List.mem_of_getElem? (i := 177) rfl), pm_i1 (List.mem_of_getElem? (i := 9) rfl), (fun h => by cases h), (fun _ => ⟨pm_i2 (List.mem_of_getElem? (i := 175) rfl), pm_i2 (List.mem_of_getElem? (i := 176) rfl)⟩), (fun h => by cases h)⟩
theorem pm_k19 : pm_MQ (3, yX3_init, cX3_init, 3, none, 2, 1) := ⟨pm_i1 (List.mem_of_getElem? (i := 138) rfl), pm_i1 (List.mem_of_getElem? (i := 7) rfl), (fun h => by cases h), (fun h => by cases h), (fun _ => pm_i1 (List.mem_of_getElem? (i := 137) rfl))⟩
theorem pm_k20 : pm_MQ (3, yX3_has, cX3_has, 2, (some .boolean), 1, 1) := ⟨pm_i2 (List.mem_of_getElem? (i := 45) rfl), pm_i1 (List.mem_of_getElem? (i := 7) rfl), (fun h => by cases h), (fun _ => ⟨pm_i2 (List.mem_of_getElem? (i := 43) rfl), pm_i2 (List.mem_of_getElem? (i := 44) rfl)⟩), (fun h => by cases h)⟩
theorem pm_k21 : pm_MQ (3, yX3_add, cX3_add, 5, (some .boolean), 1, 3) := ⟨pm_i2 (List.mem_of_getElem? (i := 33) rfl), pm_i1 (List.mem_of_getElem? (i := 7) rfl), (fun h => by cases h), (fun _ => ⟨pm_i2 (List.mem_of_getElem? (i := 31) rfl), pm_i2 (List.mem_of_getElem? (i := 32) rfl)⟩), (fun h => by cases h)⟩
theorem pm_k22 : pm_MQ (3, yX3_sources, cX3_sources, 2, (some (.array .int)), 1, 1) := ⟨pm_i3 (List.mem_of_getElem? (i := 38) rfl), pm_i1 (List.mem_of_getElem? (i := 7) rfl), (fun h => by cases h), (fun _ => ⟨pm_i3 (List.mem_of_getElem? (i := 36) rfl), pm_i3 (List.mem_of_getElem? (i := 37) rfl)⟩), (fun h => by cases h)⟩
theorem pm_k23 : pm_MQ (3, yX3_firstOf, cX3_firstOf, 5, (some .int), 1, 2) := ⟨pm_i3 (List.mem_of_getElem? (i := 47) rfl), pm_i1 (List.mem_of_getElem? (i := 7) rfl), (fun h => by cases h), (fun _ => ⟨pm_i3 (List.mem_of_getElem? (i := 45) rfl), pm_i3 (List.mem_of_getElem? (i := 46) rfl)⟩), (fun h => by cases h)⟩
theorem pm_k24 : pm_MQ (4, yX4_init, cX4_init, 1, none, 2, 0) := ⟨pm_i1 (List.mem_of_getElem? (i := 25) rfl), pm_i1 (List.mem_of_getElem? (i := 2) rfl), (fun h => by cases h), (fun h => by cases h), (fun _ => pm_i1 (List.mem_of_getElem? (i := 24) rfl))⟩
theorem pm_k25 : pm_MQ (4, yX4_reckon, cX4_reckon, 4, none, 1, 1) := ⟨pm_i2 (List.mem_of_getElem? (i := 126) rfl), pm_i1 (List.mem_of_getElem? (i := 2) rfl), (fun h => by cases h), (fun _ => ⟨pm_i2 (List.mem_of_getElem? (i := 124) rfl), pm_i2 (List.mem_of_getElem? (i := 125) rfl)⟩), (fun h => by cases h)⟩
theorem pm_k26 : pm_MQ (4, yX4_filterNodes, cX4_filterNodes, 6, none, 1, 2) := ⟨pm_i2 (List.mem_of_getElem? (i := 135) rfl), pm_i1 (List.mem_of_getElem? (i := 2) rfl), (fun h => by cases h), (fun _ => ⟨pm_i2 (List.mem_of_getElem? (i := 134) rfl), pm_i0 (q := (yX4_filterNodes, 5)) (List.mem_of_getElem? (i := 7) rfl)⟩), (fun h => by cases h)⟩
theorem pm_k27 : pm_MQ (4, yX4_filterArcs, cX4_filterArcs, 8, none, 1, 2) := ⟨pm_i2 (List.mem_of_getElem? (i := 181) rfl), pm_i1 (List.mem_of_getElem? (i := 2) rfl), (fun h => by cases h), (fun _ => ⟨pm_i2 (List.mem_of_getElem? (i := 180) rfl), pm_i0 (q := (yX4_filterArcs, 5)) (List.mem_of_getElem? (i := 13) rfl)⟩), (fun h => by cases h)⟩
theorem pm_k28 : pm_MQ (4, yX4_fail, cX4_fail, 4, none, 0, 4) := ⟨pm_i2 (List.mem_of_getElem? (i := 173) rfl), pm_i1 (List.mem_of_getElem? (i := 2) rfl), (fun _ => pm_i2 (List.mem_of_getElem? (i := 172) rfl)), (fun h => by cases h), (fun h => by cases h)⟩
theorem pm_k29 : pm_MQ (4, yX4_copyNodes, cX4_copyNodes, 3, none, 0, 2) := ⟨pm_i2 (List.mem_of_getElem? (i := 188) rfl), pm_i1 (List.mem_of_getElem? (i := 2) rfl), (fun _ => pm_i2 (List.mem_of_getElem? (i := 187) rfl)), (fun h => by cases h), (fun h => by cases h)⟩
theorem pm_k30 : pm_MQ (4, yX4_turn, cX4_turn, 3, none, 0, 2) := ⟨pm_i2 (List.mem_of_getElem? (i := 185) rfl), pm_i1 (List.mem_of_getElem? (i := 2) rfl), (fun _ => pm_i2 (List.mem_of_getElem? (i := 184) rfl)), (fun h => by cases h), (fun h => by cases h)⟩
theorem pm_k31 : pm_MQ (4, yX4_link, cX4_link, 3, none, 1, 1) := ⟨pm_i2 (List.mem_of_getElem? (i := 198) rfl), pm_i1 (List.mem_of_getElem? (i := 2) rfl), (fun h => by cases h), (fun _ => ⟨pm_i2 (List.mem_of_getElem? (i := 197) rfl), pm_i0 (q := (yX4_link, 5)) (List.mem_of_getElem? (i := 15) rfl)⟩), (fun h => by cases h)⟩
theorem pm_k32 : pm_MQ (4, yX4_isLinked, cX4_isLinked, 3, (some .boolean), 1, 2) := ⟨pm_i2 (List.mem_of_getElem? (i := 202) rfl), pm_i1 (List.mem_of_getElem? (i := 2) rfl), (fun h => by cases h), (fun _ => ⟨pm_i2 (List.mem_of_getElem? (i := 201) rfl), pm_i0 (q := (yX4_isLinked, 5)) (List.mem_of_getElem? (i := 16) rfl)⟩), (fun h => by cases h)⟩
theorem pm_k33 : pm_MQ (4, yX4_copyUnlinked, cX4_copyUnlinked, 4, none, 1, 2) := ⟨pm_i2 (List.mem_of_getElem? (i := 206) rfl), pm_i1 (List.mem_of_getElem? (i := 2) rfl), (fun h => by cases h), (fun _ => ⟨pm_i2 (List.mem_of_getElem? (i := 205) rfl), pm_i0 (q := (yX4_copyUnlinked, 5)) (List.mem_of_getElem? (i := 17) rfl)⟩), (fun h => by cases h)⟩
theorem pm_k34 : pm_MQ (4, yX4_join, cX4_join, 9, none, 1, 3) := ⟨pm_i2 (List.mem_of_getElem? (i := 192) rfl), pm_i1 (List.mem_of_getElem? (i := 2) rfl), (fun h => by cases h), (fun _ => ⟨pm_i2 (List.mem_of_getElem? (i := 191) rfl), pm_i0 (q := (yX4_join, 5)) (List.mem_of_getElem? (i := 14) rfl)⟩), (fun h => by cases h)⟩
theorem pm_k35 : pm_MQ (4, yX4_multiply, cX4_multiply, 6, none, 0, 3) := ⟨pm_i2 (List.mem_of_getElem? (i := 209) rfl), pm_i1 (List.mem_of_getElem? (i := 2) rfl), (fun _ => pm_i2 (List.mem_of_getElem? (i := 208) rfl)), (fun h => by cases h), (fun h => by cases h)⟩
theorem pm_k36 : pm_MQ (4, yX4_pairNodes, cX4_pairNodes, 5, none, 0, 3) := ⟨pm_i2 (List.mem_of_getElem? (i := 212) rfl), pm_i1 (List.mem_of_getElem? (i := 2) rfl), (fun _ => pm_i2 (List.mem_of_getElem? (i := 211) rfl)), (fun h => by cases h), (fun h => by cases h)⟩
theorem pm_k37 : pm_MQ (4, yX4_moveInA, cX4_moveInA, 6, none, 0, 3) := ⟨pm_i2 (List.mem_of_getElem? (i := 215) rfl), pm_i1 (List.mem_of_getElem? (i := 2) rfl), (fun _ => pm_i2 (List.mem_of_getElem? (i := 214) rfl)), (fun h => by cases h), (fun h => by cases h)⟩
theorem pm_k38 : pm_MQ (4, yX4_moveInB, cX4_moveInB, 6, none, 0, 3) := ⟨pm_i2 (List.mem_of_getElem? (i := 218) rfl), pm_i1 (List.mem_of_getElem? (i := 2) rfl), (fun _ => pm_i2 (List.mem_of_getElem? (i := 217) rfl)), (fun h => by cases h), (fun h => by cases h)⟩
theorem pm_k39 : pm_MQ (4, yX4_moveInBoth, cX4_moveInBoth, 6, none, 0, 3) := ⟨pm_i2 (List.mem_of_getElem? (i := 221) rfl), pm_i1 (List.mem_of_getElem? (i := 2) rfl), (fun _ => pm_i2 (List.mem_of_getElem? (i := 220) rfl)), (fun h => by cases h), (fun h => by cases h)⟩
theorem pm_k40 : pm_MQ (4, yX4_line, cX4_line, 5, none, 0, 2) := ⟨pm_i2 (List.mem_of_getElem? (i := 224) rfl), pm_i1 (List.mem_of_getElem? (i := 2) rfl), (fun _ => pm_i2 (List.mem_of_getElem? (i := 223) rfl)), (fun h => by cases h), (fun h => by cases h)⟩
theorem pm_k41 : pm_MQ (4, yX4_gatherNodes, cX4_gatherNodes, 5, none, 1, 2) := ⟨pm_i2 (List.mem_of_getElem? (i := 228) rfl), pm_i1 (List.mem_of_getElem? (i := 2) rfl), (fun h => by cases h), (fun _ => ⟨pm_i2 (List.mem_of_getElem? (i := 227) rfl), pm_i0 (q := (yX4_gatherNodes, 5)) (List.mem_of_getElem? (i := 18) rfl)⟩), (fun h => by cases h)⟩
theorem pm_k42 : pm_MQ (4, yX4_gatherArcs, cX4_gatherArcs, 7, none, 1, 2) := ⟨pm_i3 (List.mem_of_getElem? (i := 15) rfl), pm_i1 (List.mem_of_getElem? (i := 2) rfl), (fun h => by cases h), (fun _ => ⟨pm_i3 (List.mem_of_getElem? (i := 14) rfl), pm_i0 (q := (yX4_gatherArcs, 5)) (List.mem_of_getElem? (i := 21) rfl)⟩), (fun h => by cases h)⟩
theorem pm_k43 : pm_MQ (4, yX4_breakIfTooLong, cX4_breakIfTooLong, 2, none, 1, 1) := ⟨pm_i3 (List.mem_of_getElem? (i := 11) rfl), pm_i1 (List.mem_of_getElem? (i := 2) rfl), (fun h => by cases h), (fun _ => ⟨pm_i3 (List.mem_of_getElem? (i := 10) rfl), pm_i0 (q := (yX4_breakIfTooLong, 5)) (List.mem_of_getElem? (i := 20) rfl)⟩), (fun h => by cases h)⟩
theorem pm_k44 : pm_MQ (5, yX5_init, cX5_init, 1, none, 2, 0) := ⟨pm_i1 (List.mem_of_getElem? (i := 31) rfl), pm_i1 (List.mem_of_getElem? (i := 3) rfl), (fun h => by cases h), (fun h => by cases h), (fun _ => pm_i1 (List.mem_of_getElem? (i := 30) rfl))⟩
theorem pm_k45 : pm_MQ (5, yX5_has, cX5_has, 2, (some .boolean), 1, 1) := ⟨pm_i2 (List.mem_of_getElem? (i := 79) rfl), pm_i1 (List.mem_of_getElem? (i := 3) rfl), (fun h => by cases h), (fun _ => ⟨pm_i2 (List.mem_of_getElem? (i := 77) rfl), pm_i2 (List.mem_of_getElem? (i := 78) rfl)⟩), (fun h => by cases h)⟩
theorem pm_k46 : pm_MQ (5, yX5_fits, cX5_fits, 6, (some .boolean), 1, 3) := ⟨pm_i2 (List.mem_of_getElem? (i := 75) rfl), pm_i1 (List.mem_of_getElem? (i := 3) rfl), (fun h => by cases h), (fun _ => ⟨pm_i2 (List.mem_of_getElem? (i := 73) rfl), pm_i2 (List.mem_of_getElem? (i := 74) rfl)⟩), (fun h => by cases h)⟩
theorem pm_k47 : pm_MQ (5, yX5_add, cX5_add, 6, none, 1, 4) := ⟨pm_i2 (List.mem_of_getElem? (i := 83) rfl), pm_i1 (List.mem_of_getElem? (i := 3) rfl), (fun h => by cases h), (fun _ => ⟨pm_i2 (List.mem_of_getElem? (i := 81) rfl), pm_i2 (List.mem_of_getElem? (i := 82) rfl)⟩), (fun h => by cases h)⟩
theorem pm_k48 : pm_MQ (5, yX5_begin, cX5_begin, 1, none, 1, 0) := ⟨pm_i2 (List.mem_of_getElem? (i := 131) rfl), pm_i1 (List.mem_of_getElem? (i := 3) rfl), (fun h => by cases h), (fun _ => ⟨pm_i2 (List.mem_of_getElem? (i := 129) rfl), pm_i2 (List.mem_of_getElem? (i := 130) rfl)⟩), (fun h => by cases h)⟩
theorem pm_k49 : pm_MQ (5, yX5_say, cX5_say, 6, (some .int), 1, 5) := ⟨pm_i2 (List.mem_of_getElem? (i := 139) rfl), pm_i1 (List.mem_of_getElem? (i := 3) rfl), (fun h => by cases h), (fun _ => ⟨pm_i2 (List.mem_of_getElem? (i := 138) rfl), pm_i0 (q := (yX5_say, 7)) (List.mem_of_getElem? (i := 8) rfl)⟩), (fun h => by cases h)⟩
theorem pm_k50 : pm_MQ (5, yX5_sayOfItem, cX5_sayOfItem, 10, (some .int), 1, 4) := ⟨pm_i2 (List.mem_of_getElem? (i := 145) rfl), pm_i1 (List.mem_of_getElem? (i := 3) rfl), (fun h => by cases h), (fun _ => ⟨pm_i2 (List.mem_of_getElem? (i := 144) rfl), pm_i0 (q := (yX5_sayOfItem, 7)) (List.mem_of_getElem? (i := 9) rfl)⟩), (fun h => by cases h)⟩
theorem pm_k51 : pm_MQ (5, yX5_sayOfParts, cX5_sayOfParts, 7, (some .int), 1, 5) := ⟨pm_i2 (List.mem_of_getElem? (i := 164) rfl), pm_i1 (List.mem_of_getElem? (i := 3) rfl), (fun h => by cases h), (fun _ => ⟨pm_i2 (List.mem_of_getElem? (i := 163) rfl), pm_i0 (q := (yX5_sayOfParts, 7)) (List.mem_of_getElem? (i := 11) rfl)⟩), (fun h => by cases h)⟩
theorem pm_k52 : pm_MQ (5, yX5_sayOfSomeNext, cX5_sayOfSomeNext, 7, (some .int), 1, 4) := ⟨pm_i2 (List.mem_of_getElem? (i := 168) rfl), pm_i1 (List.mem_of_getElem? (i := 3) rfl), (fun h => by cases h), (fun _ => ⟨pm_i2 (List.mem_of_getElem? (i := 167) rfl), pm_i0 (q := (yX5_sayOfSomeNext, 7)) (List.mem_of_getElem? (i := 12) rfl)⟩), (fun h => by cases h)⟩
theorem pm_k53 : pm_MQ (5, yX5_answer, cX5_answer, 1, (some .int), 0, 1) := ⟨pm_i2 (List.mem_of_getElem? (i := 148) rfl), pm_i1 (List.mem_of_getElem? (i := 3) rfl), (fun _ => pm_i2 (List.mem_of_getElem? (i := 147) rfl)), (fun h => by cases h), (fun h => by cases h)⟩
theorem pm_k54 : pm_MQ (5, yX5_begun, cX5_begun, 2, (some .int), 1, 1) := ⟨pm_i2 (List.mem_of_getElem? (i := 152) rfl), pm_i1 (List.mem_of_getElem? (i := 3) rfl), (fun h => by cases h), (fun _ => ⟨pm_i2 (List.mem_of_getElem? (i := 151) rfl), pm_i0 (q := (yX5_begun, 7)) (List.mem_of_getElem? (i := 10) rfl)⟩), (fun h => by cases h)⟩
theorem pm_k55 : pm_MQ (6, yX6_init, cX6_init, 1, none, 2, 0) := ⟨pm_i1 (List.mem_of_getElem? (i := 15) rfl), pm_i1 (List.mem_of_getElem? (i := 1) rfl), (fun h => by cases h), (fun h => by cases h), (fun _ => pm_i1 (List.mem_of_getElem? (i := 14) rfl))⟩
theorem pm_k56 : pm_MQ (6, yX6_graph, cX6_graph, 4, (some .int), 1, 1) := ⟨pm_i1 (List.mem_of_getElem? (i := 123) rfl), pm_i1 (List.mem_of_getElem? (i := 1) rfl), (fun h => by cases h), (fun _ => ⟨pm_i1 (List.mem_of_getElem? (i := 121) rfl), pm_i1 (List.mem_of_getElem? (i := 122) rfl)⟩), (fun h => by cases h)⟩
theorem pm_k57 : pm_MQ (6, yX6_arc, cX6_arc, 7, (some .int), 1, 4) := ⟨pm_i2 (List.mem_of_getElem? (i := 37) rfl), pm_i1 (List.mem_of_getElem? (i := 1) rfl), (fun h => by cases h), (fun _ => ⟨pm_i2 (List.mem_of_getElem? (i := 35) rfl), pm_i2 (List.mem_of_getElem? (i := 36) rfl)⟩), (fun h => by cases h)⟩
theorem pm_k58 : pm_MQ (6, yX6_set, cX6_set, 8, (some .int), 1, 4) := ⟨pm_i2 (List.mem_of_getElem? (i := 53) rfl), pm_i1 (List.mem_of_getElem? (i := 1) rfl), (fun h => by cases h), (fun _ => ⟨pm_i2 (List.mem_of_getElem? (i := 51) rfl), pm_i2 (List.mem_of_getElem? (i := 52) rfl)⟩), (fun h => by cases h)⟩
theorem pm_k59 : pm_MQ (6, yX6_label, cX6_label, 5, (some .int), 1, 3) := ⟨pm_i2 (List.mem_of_getElem? (i := 64) rfl), pm_i1 (List.mem_of_getElem? (i := 1) rfl), (fun h => by cases h), (fun _ => ⟨pm_i2 (List.mem_of_getElem? (i := 62) rfl), pm_i2 (List.mem_of_getElem? (i := 63) rfl)⟩), (fun h => by cases h)⟩
theorem pm_k60 : pm_MQ (6, yX6_test, cX6_test, 6, (some .int), 1, 4) := ⟨pm_i2 (List.mem_of_getElem? (i := 71) rfl), pm_i1 (List.mem_of_getElem? (i := 1) rfl), (fun h => by cases h), (fun _ => ⟨pm_i2 (List.mem_of_getElem? (i := 69) rfl), pm_i2 (List.mem_of_getElem? (i := 70) rfl)⟩), (fun h => by cases h)⟩
theorem pm_k61 : pm_MQ (6, yX6_view, cX6_view, 9, (some .int), 1, 5) := ⟨pm_i2 (List.mem_of_getElem? (i := 87) rfl), pm_i1 (List.mem_of_getElem? (i := 1) rfl), (fun h => by cases h), (fun _ => ⟨pm_i2 (List.mem_of_getElem? (i := 85) rfl), pm_i2 (List.mem_of_getElem? (i := 86) rfl)⟩), (fun h => by cases h)⟩
theorem pm_k62 : pm_MQ (6, yX6_live, cX6_live, 4, (some .int), 1, 2) := ⟨pm_i2 (List.mem_of_getElem? (i := 110) rfl), pm_i1 (List.mem_of_getElem? (i := 1) rfl), (fun h => by cases h), (fun _ => ⟨pm_i2 (List.mem_of_getElem? (i := 108) rfl), pm_i2 (List.mem_of_getElem? (i := 109) rfl)⟩), (fun h => by cases h)⟩
theorem pm_k63 : pm_MQ (6, yX6_told, cX6_told, 5, (some .int), 1, 2) := ⟨pm_i3 (List.mem_of_getElem? (i := 20) rfl), pm_i1 (List.mem_of_getElem? (i := 1) rfl), (fun h => by cases h), (fun _ => ⟨pm_i3 (List.mem_of_getElem? (i := 18) rfl), pm_i3 (List.mem_of_getElem? (i := 19) rfl)⟩), (fun h => by cases h)⟩
theorem pm_k64 : pm_MQ (6, yX6_end, cX6_end, 5, (some .int), 1, 3) := ⟨pm_i3 (List.mem_of_getElem? (i := 24) rfl), pm_i1 (List.mem_of_getElem? (i := 1) rfl), (fun h => by cases h), (fun _ => ⟨pm_i3 (List.mem_of_getElem? (i := 22) rfl), pm_i3 (List.mem_of_getElem? (i := 23) rfl)⟩), (fun h => by cases h)⟩
theorem pm_k65 : pm_MQ (6, yX6_value, cX6_value, 6, (some .long), 1, 3) := ⟨pm_i3 (List.mem_of_getElem? (i := 28) rfl), pm_i1 (List.mem_of_getElem? (i := 1) rfl), (fun h => by cases h), (fun _ => ⟨pm_i3 (List.mem_of_getElem? (i := 26) rfl), pm_i3 (List.mem_of_getElem? (i := 27) rfl)⟩), (fun h => by cases h)⟩
theorem pm_k66 : pm_MQ (6, yX6_up, cX6_up, 8, (some .int), 1, 4) := ⟨pm_i3 (List.mem_of_getElem? (i := 34) rfl), pm_i1 (List.mem_of_getElem? (i := 1) rfl), (fun h => by cases h), (fun _ => ⟨pm_i3 (List.mem_of_getElem? (i := 32) rfl), pm_i3 (List.mem_of_getElem? (i := 33) rfl)⟩), (fun h => by cases h)⟩
theorem pm_k67 : pm_MQ (6, yX6_down, cX6_down, 7, (some .int), 1, 4) := ⟨pm_i3 (List.mem_of_getElem? (i := 43) rfl), pm_i1 (List.mem_of_getElem? (i := 1) rfl), (fun h => by cases h), (fun _ => ⟨pm_i3 (List.mem_of_getElem? (i := 41) rfl), pm_i3 (List.mem_of_getElem? (i := 42) rfl)⟩), (fun h => by cases h)⟩
theorem pm_k68 : pm_MQ (6, yX6_hidden, cX6_hidden, 6, (some .int), 1, 3) := ⟨pm_i3 (List.mem_of_getElem? (i := 52) rfl), pm_i1 (List.mem_of_getElem? (i := 1) rfl), (fun h => by cases h), (fun _ => ⟨pm_i3 (List.mem_of_getElem? (i := 50) rfl), pm_i3 (List.mem_of_getElem? (i := 51) rfl)⟩), (fun h => by cases h)⟩
theorem pm_k69 : pm_MQ (6, yX6_same, cX6_same, 5, (some .int), 1, 2) := ⟨pm_i3 (List.mem_of_getElem? (i := 56) rfl), pm_i1 (List.mem_of_getElem? (i := 1) rfl), (fun h => by cases h), (fun _ => ⟨pm_i3 (List.mem_of_getElem? (i := 54) rfl), pm_i3 (List.mem_of_getElem? (i := 55) rfl)⟩), (fun h => by cases h)⟩
theorem pm_k70 : pm_MQ (6, yX6_reach, cX6_reach, 4, (some .int), 1, 2) := ⟨pm_i3 (List.mem_of_getElem? (i := 64) rfl), pm_i1 (List.mem_of_getElem? (i := 1) rfl), (fun h => by cases h), (fun _ => ⟨pm_i3 (List.mem_of_getElem? (i := 62) rfl), pm_i3 (List.mem_of_getElem? (i := 63) rfl)⟩), (fun h => by cases h)⟩
theorem pm_k71 : pm_MQ (6, yX6_ask, cX6_ask, 7, (some .int), 1, 4) := ⟨pm_i3 (List.mem_of_getElem? (i := 78) rfl), pm_i1 (List.mem_of_getElem? (i := 1) rfl), (fun h => by cases h), (fun _ => ⟨pm_i3 (List.mem_of_getElem? (i := 76) rfl), pm_i3 (List.mem_of_getElem? (i := 77) rfl)⟩), (fun h => by cases h)⟩
theorem pm_k72 : pm_MQ (6, yX6_count, cX6_count, 2, (some .int), 1, 1) := ⟨pm_i3 (List.mem_of_getElem? (i := 84) rfl), pm_i1 (List.mem_of_getElem? (i := 1) rfl), (fun h => by cases h), (fun _ => ⟨pm_i3 (List.mem_of_getElem? (i := 82) rfl), pm_i3 (List.mem_of_getElem? (i := 83) rfl)⟩), (fun h => by cases h)⟩
theorem pm_k73 : pm_MQ (6, yX6_clear, cX6_clear, 2, (some .int), 1, 0) := ⟨pm_i3 (List.mem_of_getElem? (i := 92) rfl), pm_i1 (List.mem_of_getElem? (i := 1) rfl), (fun h => by cases h), (fun _ => ⟨pm_i3 (List.mem_of_getElem? (i := 90) rfl), pm_i3 (List.mem_of_getElem? (i := 91) rfl)⟩), (fun h => by cases h)⟩
theorem pm_k74 : pm_MQ (6, yX6_removeLabels, cX6_removeLabels, 3, none, 1, 0) := ⟨pm_i1 (List.mem_of_getElem? (i := 100) rfl), pm_i1 (List.mem_of_getElem? (i := 1) rfl), (fun h => by cases h), (fun _ => ⟨pm_i1 (List.mem_of_getElem? (i := 99) rfl), pm_i0 (q := (yX6_removeLabels, 6)) (List.mem_of_getElem? (i := 0) rfl)⟩), (fun h => by cases h)⟩
theorem pm_k75 : pm_MQ (6, yX6_known, cX6_known, 2, (some (.object "ViewsJoins$Graph")), 1, 1) := ⟨pm_i2 (List.mem_of_getElem? (i := 41) rfl), pm_i1 (List.mem_of_getElem? (i := 1) rfl), (fun h => by cases h), (fun _ => ⟨pm_i2 (List.mem_of_getElem? (i := 40) rfl), pm_i0 (q := (yX6_known, 6)) (List.mem_of_getElem? (i := 2) rfl)⟩), (fun h => by cases h)⟩
theorem pm_k76 : pm_MQ (6, yX6_nextGraph, cX6_nextGraph, 1, (some (.object "ViewsJoins$Graph")), 1, 0) := ⟨pm_i1 (List.mem_of_getElem? (i := 128) rfl), pm_i1 (List.mem_of_getElem? (i := 1) rfl), (fun h => by cases h), (fun _ => ⟨pm_i1 (List.mem_of_getElem? (i := 127) rfl), pm_i0 (q := (yX6_nextGraph, 6)) (List.mem_of_getElem? (i := 1) rfl)⟩), (fun h => by cases h)⟩
theorem pm_k77 : pm_MQ (6, yX6_countFixed, cX6_countFixed, 4, (some .int), 1, 0) := ⟨pm_i3 (List.mem_of_getElem? (i := 88) rfl), pm_i1 (List.mem_of_getElem? (i := 1) rfl), (fun h => by cases h), (fun _ => ⟨pm_i3 (List.mem_of_getElem? (i := 87) rfl), pm_i0 (q := (yX6_countFixed, 6)) (List.mem_of_getElem? (i := 22) rfl)⟩), (fun h => by cases h)⟩
theorem pm_k78 : pm_MQ (6, yX6_fits, cX6_fits, 5, (some .boolean), 1, 4) := ⟨pm_i2 (List.mem_of_getElem? (i := 91) rfl), pm_i1 (List.mem_of_getElem? (i := 1) rfl), (fun h => by cases h), (fun _ => ⟨pm_i2 (List.mem_of_getElem? (i := 90) rfl), pm_i0 (q := (yX6_fits, 6)) (List.mem_of_getElem? (i := 3) rfl)⟩), (fun h => by cases h)⟩
theorem pm_k79 : pm_MQ (6, yX6_isTestOrAll, cX6_isTestOrAll, 2, (some .boolean), 1, 1) := ⟨pm_i2 (List.mem_of_getElem? (i := 95) rfl), pm_i1 (List.mem_of_getElem? (i := 1) rfl), (fun h => by cases h), (fun _ => ⟨pm_i2 (List.mem_of_getElem? (i := 94) rfl), pm_i0 (q := (yX6_isTestOrAll, 6)) (List.mem_of_getElem? (i := 4) rfl)⟩), (fun h => by cases h)⟩
theorem pm_k80 : pm_MQ (6, yX6_isOfTwo, cX6_isOfTwo, 1, (some .boolean), 0, 1) := ⟨pm_i2 (List.mem_of_getElem? (i := 102) rfl), pm_i1 (List.mem_of_getElem? (i := 1) rfl), (fun _ => pm_i2 (List.mem_of_getElem? (i := 101) rfl)), (fun h => by cases h), (fun h => by cases h)⟩
theorem pm_k81 : pm_MQ (6, yX6_isTable, cX6_isTable, 1, (some .boolean), 0, 1) := ⟨pm_i2 (List.mem_of_getElem? (i := 67) rfl), pm_i1 (List.mem_of_getElem? (i := 1) rfl), (fun _ => pm_i2 (List.mem_of_getElem? (i := 66) rfl)), (fun h => by cases h), (fun h => by cases h)⟩
theorem pm_k82 : pm_MQ (6, yX6_isOneOfTwo, cX6_isOneOfTwo, 1, (some .boolean), 0, 1) := ⟨pm_i2 (List.mem_of_getElem? (i := 56) rfl), pm_i1 (List.mem_of_getElem? (i := 1) rfl), (fun _ => pm_i2 (List.mem_of_getElem? (i := 55) rfl)), (fun h => by cases h), (fun h => by cases h)⟩
theorem pm_k83 : pm_MQ (6, yX6_isOneOfThree, cX6_isOneOfThree, 1, (some .boolean), 0, 1) := ⟨pm_i2 (List.mem_of_getElem? (i := 99) rfl), pm_i1 (List.mem_of_getElem? (i := 1) rfl), (fun _ => pm_i2 (List.mem_of_getElem? (i := 98) rfl)), (fun h => by cases h), (fun h => by cases h)⟩
theorem pm_k84 : pm_MQ (6, yX6_isBroken, cX6_isBroken, 2, (some .boolean), 1, 1) := ⟨pm_i2 (List.mem_of_getElem? (i := 114) rfl), pm_i1 (List.mem_of_getElem? (i := 1) rfl), (fun h => by cases h), (fun _ => ⟨pm_i2 (List.mem_of_getElem? (i := 113) rfl), pm_i0 (q := (yX6_isBroken, 6)) (List.mem_of_getElem? (i := 5) rfl)⟩), (fun h => by cases h)⟩
theorem pm_k85 : pm_MQ (6, yX6_refresh, cX6_refresh, 3, none, 1, 2) := ⟨pm_i2 (List.mem_of_getElem? (i := 118) rfl), pm_i1 (List.mem_of_getElem? (i := 1) rfl), (fun h => by cases h), (fun _ => ⟨pm_i2 (List.mem_of_getElem? (i := 117) rfl), pm_i0 (q := (yX6_refresh, 6)) (List.mem_of_getElem? (i := 6) rfl)⟩), (fun h => by cases h)⟩
theorem pm_k86 : pm_MQ (7, yX7_init, cX7_init, 1, none, 2, 0) := ⟨pm_i3 (List.mem_of_getElem? (i := 97) rfl), pm_i1 (List.mem_of_getElem? (i := 5) rfl), (fun h => by cases h), (fun h => by cases h), (fun _ => pm_i3 (List.mem_of_getElem? (i := 96) rfl))⟩
theorem pm_k87 : pm_MQ (7, yX7_in, cX7_in, 3, (some .boolean), 0, 3) := ⟨pm_i3 (List.mem_of_getElem? (i := 237) rfl), pm_i1 (List.mem_of_getElem? (i := 5) rfl), (fun _ => pm_i3 (List.mem_of_getElem? (i := 236) rfl)), (fun h => by cases h), (fun h => by cases h)⟩
theorem pm_k88 : pm_MQ (7, yX7_isGraph, cX7_isGraph, 2, (some .boolean), 1, 1) := ⟨pm_i4 (List.mem_of_getElem? (i := 11) rfl), pm_i1 (List.mem_of_getElem? (i := 5) rfl), (fun h => by cases h), (fun _ => ⟨pm_i4 (List.mem_of_getElem? (i := 10) rfl), pm_i0 (q := (yX7_isGraph, 42)) (List.mem_of_getElem? (i := 24) rfl)⟩), (fun h => by cases h)⟩
theorem pm_k89 : pm_MQ (7, yX7_isBase, cX7_isBase, 2, (some .boolean), 1, 1) := ⟨pm_i4 (List.mem_of_getElem? (i := 7) rfl), pm_i1 (List.mem_of_getElem? (i := 5) rfl), (fun h => by cases h), (fun _ => ⟨pm_i4 (List.mem_of_getElem? (i := 6) rfl), pm_i0 (q := (yX7_isBase, 42)) (List.mem_of_getElem? (i := 23) rfl)⟩), (fun h => by cases h)⟩
theorem pm_k90 : pm_MQ (7, yX7_isView, cX7_isView, 2, (some .boolean), 1, 1) := ⟨pm_i4 (List.mem_of_getElem? (i := 52) rfl), pm_i1 (List.mem_of_getElem? (i := 5) rfl), (fun h => by cases h), (fun _ => ⟨pm_i4 (List.mem_of_getElem? (i := 51) rfl), pm_i0 (q := (yX7_isView, 42)) (List.mem_of_getElem? (i := 29) rfl)⟩), (fun h => by cases h)⟩
theorem pm_k91 : pm_MQ (7, yX7_isTest, cX7_isTest, 2, (some .boolean), 1, 1) := ⟨pm_i4 (List.mem_of_getElem? (i := 36) rfl), pm_i1 (List.mem_of_getElem? (i := 5) rfl), (fun h => by cases h), (fun _ => ⟨pm_i4 (List.mem_of_getElem? (i := 35) rfl), pm_i0 (q := (yX7_isTest, 42)) (List.mem_of_getElem? (i := 27) rfl)⟩), (fun h => by cases h)⟩
theorem pm_k92 : pm_MQ (7, yX7_graph, cX7_graph, 4, (some .int), 1, 1) := ⟨pm_i3 (List.mem_of_getElem? (i := 234) rfl), pm_i1 (List.mem_of_getElem? (i := 5) rfl), (fun h => by cases h), (fun _ => ⟨pm_i3 (List.mem_of_getElem? (i := 232) rfl), pm_i3 (List.mem_of_getElem? (i := 233) rfl)⟩), (fun h => by cases h)⟩
theorem pm_k93 : pm_MQ (7, yX7_arc, cX7_arc, 6, (some .int), 1, 4) := ⟨pm_i4 (List.mem_of_getElem? (i := 3) rfl), pm_i1 (List.mem_of_getElem? (i := 5) rfl), (fun h => by cases h), (fun _ => ⟨pm_i4 (List.mem_of_getElem? (i := 1) rfl), pm_i4 (List.mem_of_getElem? (i := 2) rfl)⟩), (fun h => by cases h)⟩
theorem pm_k94 : pm_MQ (7, yX7_set, cX7_set, 6, (some .int), 1, 4) := ⟨pm_i4 (List.mem_of_getElem? (i := 24) rfl), pm_i1 (List.mem_of_getElem? (i := 5) rfl), (fun h => by cases h), (fun _ => ⟨pm_i4 (List.mem_of_getElem? (i := 22) rfl), pm_i4 (List.mem_of_getElem? (i := 23) rfl)⟩), (fun h => by cases h)⟩
theorem pm_k95 : pm_MQ (7, yX7_label, cX7_label, 5, (some .int), 1, 3) := ⟨pm_i4 (List.mem_of_getElem? (i := 28) rfl), pm_i1 (List.mem_of_getElem? (i := 5) rfl), (fun h => by cases h), (fun _ => ⟨pm_i4 (List.mem_of_getElem? (i := 26) rfl), pm_i4 (List.mem_of_getElem? (i := 27) rfl)⟩), (fun h => by cases h)⟩
theorem pm_k96 : pm_MQ (7, yX7_test, cX7_test, 6, (some .int), 1, 4) := ⟨pm_i4 (List.mem_of_getElem? (i := 32) rfl), pm_i1 (List.mem_of_getElem? (i := 5) rfl), (fun h => by cases h), (fun _ => ⟨pm_i4 (List.mem_of_getElem? (i := 30) rfl), pm_i4 (List.mem_of_getElem? (i := 31) rfl)⟩), (fun h => by cases h)⟩
theorem pm_k97 : pm_MQ (7, yX7_isTold, cX7_isTold, 6, (some .boolean), 1, 5) := ⟨pm_i4 (List.mem_of_getElem? (i := 44) rfl), pm_i1 (List.mem_of_getElem? (i := 5) rfl), (fun h => by cases h), (fun _ => ⟨pm_i4 (List.mem_of_getElem? (i := 43) rfl), pm_i0 (q := (yX7_isTold, 42)) (List.mem_of_getElem? (i := 28) rfl)⟩), (fun h => by cases h)⟩
theorem pm_k98 : pm_MQ (7, yX7_view, cX7_view, 6, (some .int), 1, 5) := ⟨pm_i4 (List.mem_of_getElem? (i := 40) rfl), pm_i1 (List.mem_of_getElem? (i := 5) rfl), (fun h => by cases h), (fun _ => ⟨pm_i4 (List.mem_of_getElem? (i := 38) rfl), pm_i4 (List.mem_of_getElem? (i := 39) rfl)⟩), (fun h => by cases h)⟩
theorem pm_k99 : pm_MQ (7, yX7_reckon, cX7_reckon, 2, none, 1, 0) := ⟨pm_i4 (List.mem_of_getElem? (i := 56) rfl), pm_i1 (List.mem_of_getElem? (i := 5) rfl), (fun h => by cases h), (fun _ => ⟨pm_i4 (List.mem_of_getElem? (i := 55) rfl), pm_i0 (q := (yX7_reckon, 42)) (List.mem_of_getElem? (i := 30) rfl)⟩), (fun h => by cases h)⟩
theorem pm_k100 : pm_MQ (7, yX7_reckonOne, cX7_reckonOne, 5, none, 1, 1) := ⟨pm_i4 (List.mem_of_getElem? (i := 60) rfl), pm_i1 (List.mem_of_getElem? (i := 5) rfl), (fun h => by cases h), (fun _ => ⟨pm_i4 (List.mem_of_getElem? (i := 59) rfl), pm_i0 (q := (yX7_reckonOne, 42)) (List.mem_of_getElem? (i := 31) rfl)⟩), (fun h => by cases h)⟩
theorem pm_k101 : pm_MQ (7, yX7_breaks, cX7_breaks, 3, none, 1, 2) := ⟨pm_i4 (List.mem_of_getElem? (i := 20) rfl), pm_i1 (List.mem_of_getElem? (i := 5) rfl), (fun h => by cases h), (fun _ => ⟨pm_i4 (List.mem_of_getElem? (i := 19) rfl), pm_i0 (q := (yX7_breaks, 42)) (List.mem_of_getElem? (i := 26) rfl)⟩), (fun h => by cases h)⟩
theorem pm_k102 : pm_MQ (7, yX7_addNode, cX7_addNode, 7, none, 1, 4) := ⟨pm_i4 (List.mem_of_getElem? (i := 120) rfl), pm_i1 (List.mem_of_getElem? (i := 5) rfl), (fun h => by cases h), (fun _ => ⟨pm_i4 (List.mem_of_getElem? (i := 119) rfl), pm_i0 (q := (yX7_addNode, 42)) (List.mem_of_getElem? (i := 46) rfl)⟩), (fun h => by cases h)⟩
theorem pm_k103 : pm_MQ (7, yX7_addArc, cX7_addArc, 9, none, 1, 6) := ⟨pm_i4 (List.mem_of_getElem? (i := 16) rfl), pm_i1 (List.mem_of_getElem? (i := 5) rfl), (fun h => by cases h), (fun _ => ⟨pm_i4 (List.mem_of_getElem? (i := 15) rfl), pm_i0 (q := (yX7_addArc, 42)) (List.mem_of_getElem? (i := 25) rfl)⟩), (fun h => by cases h)⟩
theorem pm_k104 : pm_MQ (7, yX7_fromOf, cX7_fromOf, 3, (some .int), 1, 2) := ⟨pm_i4 (List.mem_of_getElem? (i := 100) rfl), pm_i1 (List.mem_of_getElem? (i := 5) rfl), (fun h => by cases h), (fun _ => ⟨pm_i4 (List.mem_of_getElem? (i := 99) rfl), pm_i0 (q := (yX7_fromOf, 42)) (List.mem_of_getElem? (i := 41) rfl)⟩), (fun h => by cases h)⟩
theorem pm_k105 : pm_MQ (7, yX7_toOf, cX7_toOf, 3, (some .int), 1, 2) := ⟨pm_i4 (List.mem_of_getElem? (i := 104) rfl), pm_i1 (List.mem_of_getElem? (i := 5) rfl), (fun h => by cases h), (fun _ => ⟨pm_i4 (List.mem_of_getElem? (i := 103) rfl), pm_i0 (q := (yX7_toOf, 42)) (List.mem_of_getElem? (i := 42) rfl)⟩), (fun h => by cases h)⟩
theorem pm_k106 : pm_MQ (7, yX7_ofNode, cX7_ofNode, 3, (some .long), 1, 2) := ⟨pm_i4 (List.mem_of_getElem? (i := 84) rfl), pm_i1 (List.mem_of_getElem? (i := 5) rfl), (fun h => by cases h), (fun _ => ⟨pm_i4 (List.mem_of_getElem? (i := 83) rfl), pm_i0 (q := (yX7_ofNode, 42)) (List.mem_of_getElem? (i := 37) rfl)⟩), (fun h => by cases h)⟩
theorem pm_k107 : pm_MQ (7, yX7_ofArc, cX7_ofArc, 3, (some .long), 1, 2) := ⟨pm_i4 (List.mem_of_getElem? (i := 88) rfl), pm_i1 (List.mem_of_getElem? (i := 5) rfl), (fun h => by cases h), (fun _ => ⟨pm_i4 (List.mem_of_getElem? (i := 87) rfl), pm_i0 (q := (yX7_ofArc, 42)) (List.mem_of_getElem? (i := 38) rfl)⟩), (fun h => by cases h)⟩
theorem pm_k108 : pm_MQ (7, yX7_hasArc, cX7_hasArc, 6, (some .boolean), 1, 3) := ⟨pm_i4 (List.mem_of_getElem? (i := 136) rfl), pm_i1 (List.mem_of_getElem? (i := 5) rfl), (fun h => by cases h), (fun _ => ⟨pm_i4 (List.mem_of_getElem? (i := 135) rfl), pm_i0 (q := (yX7_hasArc, 42)) (List.mem_of_getElem? (i := 50) rfl)⟩), (fun h => by cases h)⟩
theorem pm_k109 : pm_MQ (7, yX7_passes, cX7_passes, 8, (some .boolean), 1, 5) := ⟨pm_i4 (List.mem_of_getElem? (i := 68) rfl), pm_i1 (List.mem_of_getElem? (i := 5) rfl), (fun h => by cases h), (fun _ => ⟨pm_i4 (List.mem_of_getElem? (i := 67) rfl), pm_i0 (q := (yX7_passes, 42)) (List.mem_of_getElem? (i := 33) rfl)⟩), (fun h => by cases h)⟩
theorem pm_k110 : pm_MQ (7, yX7_filter, cX7_filter, 6, none, 1, 2) := ⟨pm_i4 (List.mem_of_getElem? (i := 64) rfl), pm_i1 (List.mem_of_getElem? (i := 5) rfl), (fun h => by cases h), (fun _ => ⟨pm_i4 (List.mem_of_getElem? (i := 63) rfl), pm_i0 (q := (yX7_filter, 42)) (List.mem_of_getElem? (i := 32) rfl)⟩), (fun h => by cases h)⟩
theorem pm_k111 : pm_MQ (7, yX7_sameNodes, cX7_sameNodes, 4, none, 1, 2) := ⟨pm_i4 (List.mem_of_getElem? (i := 128) rfl), pm_i1 (List.mem_of_getElem? (i := 5) rfl), (fun h => by cases h), (fun _ => ⟨pm_i4 (List.mem_of_getElem? (i := 127) rfl), pm_i0 (q := (yX7_sameNodes, 42)) (List.mem_of_getElem? (i := 48) rfl)⟩), (fun h => by cases h)⟩
theorem pm_k112 : pm_MQ (7, yX7_turned, cX7_turned, 4, none, 1, 2) := ⟨pm_i4 (List.mem_of_getElem? (i := 124) rfl), pm_i1 (List.mem_of_getElem? (i := 5) rfl), (fun h => by cases h), (fun _ => ⟨pm_i4 (List.mem_of_getElem? (i := 123) rfl), pm_i0 (q := (yX7_turned, 42)) (List.mem_of_getElem? (i := 47) rfl)⟩), (fun h => by cases h)⟩
theorem pm_k113 : pm_MQ (7, yX7_joined, cX7_joined, 6, none, 1, 3) := ⟨pm_i4 (List.mem_of_getElem? (i := 132) rfl), pm_i1 (List.mem_of_getElem? (i := 5) rfl), (fun h => by cases h), (fun _ => ⟨pm_i4 (List.mem_of_getElem? (i := 131) rfl), pm_i0 (q := (yX7_joined, 42)) (List.mem_of_getElem? (i := 49) rfl)⟩), (fun h => by cases h)⟩
theorem pm_k114 : pm_MQ (7, yX7_less, cX7_less, 5, none, 1, 3) := ⟨pm_i4 (List.mem_of_getElem? (i := 140) rfl), pm_i1 (List.mem_of_getElem? (i := 5) rfl), (fun h => by cases h), (fun _ => ⟨pm_i4 (List.mem_of_getElem? (i := 139) rfl), pm_i0 (q := (yX7_less, 42)) (List.mem_of_getElem? (i := 51) rfl)⟩), (fun h => by cases h)⟩
theorem pm_k115 : pm_MQ (7, yX7_product, cX7_product, 7, none, 1, 3) := ⟨pm_i4 (List.mem_of_getElem? (i := 144) rfl), pm_i1 (List.mem_of_getElem? (i := 5) rfl), (fun h => by cases h), (fun _ => ⟨pm_i4 (List.mem_of_getElem? (i := 143) rfl), pm_i0 (q := (yX7_product, 42)) (List.mem_of_getElem? (i := 52) rfl)⟩), (fun h => by cases h)⟩
theorem pm_k116 : pm_MQ (7, yX7_lines, cX7_lines, 5, none, 1, 2) := ⟨pm_i4 (List.mem_of_getElem? (i := 148) rfl), pm_i1 (List.mem_of_getElem? (i := 5) rfl), (fun h => by cases h), (fun _ => ⟨pm_i4 (List.mem_of_getElem? (i := 147) rfl), pm_i0 (q := (yX7_lines, 42)) (List.mem_of_getElem? (i := 53) rfl)⟩), (fun h => by cases h)⟩
theorem pm_k117 : pm_MQ (7, yX7_labelOf, cX7_labelOf, 3, (some .int), 1, 2) := ⟨pm_i4 (List.mem_of_getElem? (i := 156) rfl), pm_i1 (List.mem_of_getElem? (i := 5) rfl), (fun h => by cases h), (fun _ => ⟨pm_i4 (List.mem_of_getElem? (i := 155) rfl), pm_i0 (q := (yX7_labelOf, 42)) (List.mem_of_getElem? (i := 55) rfl)⟩), (fun h => by cases h)⟩
theorem pm_k118 : pm_MQ (7, yX7_comes, cX7_comes, 7, none, 1, 3) := ⟨pm_i4 (List.mem_of_getElem? (i := 160) rfl), pm_i1 (List.mem_of_getElem? (i := 5) rfl), (fun h => by cases h), (fun _ => ⟨pm_i4 (List.mem_of_getElem? (i := 159) rfl), pm_i0 (q := (yX7_comes, 42)) (List.mem_of_getElem? (i := 56) rfl)⟩), (fun h => by cases h)⟩
theorem pm_k119 : pm_MQ (7, yX7_gathered, cX7_gathered, 6, none, 1, 2) := ⟨pm_i4 (List.mem_of_getElem? (i := 152) rfl), pm_i1 (List.mem_of_getElem? (i := 5) rfl), (fun h => by cases h), (fun _ => ⟨pm_i4 (List.mem_of_getElem? (i := 151) rfl), pm_i0 (q := (yX7_gathered, 42)) (List.mem_of_getElem? (i := 54) rfl)⟩), (fun h => by cases h)⟩
theorem pm_k120 : pm_MQ (7, yX7_push, cX7_push, 4, none, 1, 3) := ⟨pm_i4 (List.mem_of_getElem? (i := 76) rfl), pm_i1 (List.mem_of_getElem? (i := 5) rfl), (fun h => by cases h), (fun _ => ⟨pm_i4 (List.mem_of_getElem? (i := 75) rfl), pm_i0 (q := (yX7_push, 42)) (List.mem_of_getElem? (i := 35) rfl)⟩), (fun h => by cases h)⟩
theorem pm_k121 : pm_MQ (7, yX7_arcBehind, cX7_arcBehind, 5, (some .int), 1, 3) := ⟨pm_i4 (List.mem_of_getElem? (i := 112) rfl), pm_i1 (List.mem_of_getElem? (i := 5) rfl), (fun h => by cases h), (fun _ => ⟨pm_i4 (List.mem_of_getElem? (i := 111) rfl), pm_i0 (q := (yX7_arcBehind, 42)) (List.mem_of_getElem? (i := 44) rfl)⟩), (fun h => by cases h)⟩
theorem pm_k122 : pm_MQ (7, yX7_asked, cX7_asked, 6, (some .int), 1, 4) := ⟨pm_i4 (List.mem_of_getElem? (i := 72) rfl), pm_i1 (List.mem_of_getElem? (i := 5) rfl), (fun h => by cases h), (fun _ => ⟨pm_i4 (List.mem_of_getElem? (i := 71) rfl), pm_i0 (q := (yX7_asked, 42)) (List.mem_of_getElem? (i := 34) rfl)⟩), (fun h => by cases h)⟩
theorem pm_k123 : pm_MQ (7, yX7_fails, cX7_fails, 2, (some .int), 1, 1) := ⟨pm_i4 (List.mem_of_getElem? (i := 92) rfl), pm_i1 (List.mem_of_getElem? (i := 5) rfl), (fun h => by cases h), (fun _ => ⟨pm_i4 (List.mem_of_getElem? (i := 91) rfl), pm_i0 (q := (yX7_fails, 42)) (List.mem_of_getElem? (i := 39) rfl)⟩), (fun h => by cases h)⟩
theorem pm_k124 : pm_MQ (7, yX7_begins, cX7_begins, 11, (some .int), 1, 1) := ⟨pm_i4 (List.mem_of_getElem? (i := 80) rfl), pm_i1 (List.mem_of_getElem? (i := 5) rfl), (fun h => by cases h), (fun _ => ⟨pm_i4 (List.mem_of_getElem? (i := 79) rfl), pm_i0 (q := (yX7_begins, 42)) (List.mem_of_getElem? (i := 36) rfl)⟩), (fun h => by cases h)⟩
theorem pm_k125 : pm_MQ (7, yX7_next, cX7_next, 3, (some .int), 1, 2) := ⟨pm_i4 (List.mem_of_getElem? (i := 108) rfl), pm_i1 (List.mem_of_getElem? (i := 5) rfl), (fun h => by cases h), (fun _ => ⟨pm_i4 (List.mem_of_getElem? (i := 107) rfl), pm_i0 (q := (yX7_next, 42)) (List.mem_of_getElem? (i := 43) rfl)⟩), (fun h => by cases h)⟩
theorem pm_k126 : pm_MQ (7, yX7_manyOf, cX7_manyOf, 7, (some .int), 1, 3) := ⟨pm_i4 (List.mem_of_getElem? (i := 96) rfl), pm_i1 (List.mem_of_getElem? (i := 5) rfl), (fun h => by cases h), (fun _ => ⟨pm_i4 (List.mem_of_getElem? (i := 95) rfl), pm_i0 (q := (yX7_manyOf, 42)) (List.mem_of_getElem? (i := 40) rfl)⟩), (fun h => by cases h)⟩
theorem pm_k127 : pm_MQ (7, yX7_goesOn, cX7_goesOn, 6, (some .int), 1, 2) := ⟨pm_i4 (List.mem_of_getElem? (i := 116) rfl), pm_i1 (List.mem_of_getElem? (i := 5) rfl), (fun h => by cases h), (fun _ => ⟨pm_i4 (List.mem_of_getElem? (i := 115) rfl), pm_i0 (q := (yX7_goesOn, 42)) (List.mem_of_getElem? (i := 45) rfl)⟩), (fun h => by cases h)⟩
theorem pm_k128 : pm_MQ (7, yX7_live, cX7_live, 3, (some .int), 1, 2) := ⟨pm_i4 (List.mem_of_getElem? (i := 48) rfl), pm_i1 (List.mem_of_getElem? (i := 5) rfl), (fun h => by cases h), (fun _ => ⟨pm_i4 (List.mem_of_getElem? (i := 46) rfl), pm_i4 (List.mem_of_getElem? (i := 47) rfl)⟩), (fun h => by cases h)⟩
theorem pm_k129 : pm_MQ (7, yX7_told, cX7_told, 3, (some .int), 1, 2) := ⟨pm_i4 (List.mem_of_getElem? (i := 165) rfl), pm_i1 (List.mem_of_getElem? (i := 5) rfl), (fun h => by cases h), (fun _ => ⟨pm_i4 (List.mem_of_getElem? (i := 163) rfl), pm_i4 (List.mem_of_getElem? (i := 164) rfl)⟩), (fun h => by cases h)⟩
theorem pm_k130 : pm_MQ (7, yX7_end, cX7_end, 4, (some .int), 1, 3) := ⟨pm_i4 (List.mem_of_getElem? (i := 169) rfl), pm_i1 (List.mem_of_getElem? (i := 5) rfl), (fun h => by cases h), (fun _ => ⟨pm_i4 (List.mem_of_getElem? (i := 167) rfl), pm_i4 (List.mem_of_getElem? (i := 168) rfl)⟩), (fun h => by cases h)⟩
theorem pm_k131 : pm_MQ (7, yX7_itemsOf, cX7_itemsOf, 3, (some .int), 1, 2) := ⟨pm_i4 (List.mem_of_getElem? (i := 179) rfl), pm_i1 (List.mem_of_getElem? (i := 5) rfl), (fun h => by cases h), (fun _ => ⟨pm_i4 (List.mem_of_getElem? (i := 178) rfl), pm_i0 (q := (yX7_itemsOf, 42)) (List.mem_of_getElem? (i := 57) rfl)⟩), (fun h => by cases h)⟩
theorem pm_k132 : pm_MQ (7, yX7_value, cX7_value, 4, (some .long), 1, 3) := ⟨pm_i4 (List.mem_of_getElem? (i := 173) rfl), pm_i1 (List.mem_of_getElem? (i := 5) rfl), (fun h => by cases h), (fun _ => ⟨pm_i4 (List.mem_of_getElem? (i := 171) rfl), pm_i4 (List.mem_of_getElem? (i := 172) rfl)⟩), (fun h => by cases h)⟩
theorem pm_k133 : pm_MQ (7, yX7_upOf, cX7_upOf, 5, (some .int), 1, 4) := ⟨pm_i4 (List.mem_of_getElem? (i := 187) rfl), pm_i1 (List.mem_of_getElem? (i := 5) rfl), (fun h => by cases h), (fun _ => ⟨pm_i4 (List.mem_of_getElem? (i := 186) rfl), pm_i0 (q := (yX7_upOf, 42)) (List.mem_of_getElem? (i := 58) rfl)⟩), (fun h => by cases h)⟩
theorem pm_k134 : pm_MQ (7, yX7_up, cX7_up, 5, (some .int), 1, 4) := ⟨pm_i4 (List.mem_of_getElem? (i := 183) rfl), pm_i1 (List.mem_of_getElem? (i := 5) rfl), (fun h => by cases h), (fun _ => ⟨pm_i4 (List.mem_of_getElem? (i := 181) rfl), pm_i4 (List.mem_of_getElem? (i := 182) rfl)⟩), (fun h => by cases h)⟩
theorem pm_k135 : pm_MQ (7, yX7_down, cX7_down, 6, (some .int), 1, 4) := ⟨pm_i4 (List.mem_of_getElem? (i := 191) rfl), pm_i1 (List.mem_of_getElem? (i := 5) rfl), (fun h => by cases h), (fun _ => ⟨pm_i4 (List.mem_of_getElem? (i := 189) rfl), pm_i4 (List.mem_of_getElem? (i := 190) rfl)⟩), (fun h => by cases h)⟩
theorem pm_k136 : pm_MQ (7, yX7_hidden, cX7_hidden, 5, (some .int), 1, 3) := ⟨pm_i4 (List.mem_of_getElem? (i := 195) rfl), pm_i1 (List.mem_of_getElem? (i := 5) rfl), (fun h => by cases h), (fun _ => ⟨pm_i4 (List.mem_of_getElem? (i := 193) rfl), pm_i4 (List.mem_of_getElem? (i := 194) rfl)⟩), (fun h => by cases h)⟩
theorem pm_k137 : pm_MQ (7, yX7_same, cX7_same, 5, (some .int), 1, 2) := ⟨pm_i4 (List.mem_of_getElem? (i := 199) rfl), pm_i1 (List.mem_of_getElem? (i := 5) rfl), (fun h => by cases h), (fun _ => ⟨pm_i4 (List.mem_of_getElem? (i := 197) rfl), pm_i4 (List.mem_of_getElem? (i := 198) rfl)⟩), (fun h => by cases h)⟩
theorem pm_k138 : pm_MQ (7, yX7_reach, cX7_reach, 6, (some .int), 1, 2) := ⟨pm_i4 (List.mem_of_getElem? (i := 203) rfl), pm_i1 (List.mem_of_getElem? (i := 5) rfl), (fun h => by cases h), (fun _ => ⟨pm_i4 (List.mem_of_getElem? (i := 201) rfl), pm_i4 (List.mem_of_getElem? (i := 202) rfl)⟩), (fun h => by cases h)⟩
theorem pm_k139 : pm_MQ (7, yX7_ask, cX7_ask, 6, (some .int), 1, 4) := ⟨pm_i4 (List.mem_of_getElem? (i := 207) rfl), pm_i1 (List.mem_of_getElem? (i := 5) rfl), (fun h => by cases h), (fun _ => ⟨pm_i4 (List.mem_of_getElem? (i := 205) rfl), pm_i4 (List.mem_of_getElem? (i := 206) rfl)⟩), (fun h => by cases h)⟩
theorem pm_k140 : pm_MQ (7, yX7_count, cX7_count, 4, (some .int), 1, 1) := ⟨pm_i4 (List.mem_of_getElem? (i := 211) rfl), pm_i1 (List.mem_of_getElem? (i := 5) rfl), (fun h => by cases h), (fun _ => ⟨pm_i4 (List.mem_of_getElem? (i := 209) rfl), pm_i4 (List.mem_of_getElem? (i := 210) rfl)⟩), (fun h => by cases h)⟩
theorem pm_k141 : pm_MQ (7, yX7_clear, cX7_clear, 3, (some .int), 1, 0) := ⟨pm_i3 (List.mem_of_getElem? (i := 102) rfl), pm_i1 (List.mem_of_getElem? (i := 5) rfl), (fun h => by cases h), (fun _ => ⟨pm_i3 (List.mem_of_getElem? (i := 100) rfl), pm_i3 (List.mem_of_getElem? (i := 101) rfl)⟩), (fun h => by cases h)⟩
theorem pm_k142 : pm_MQ (9, yJ13_bitCount_95d88, cJ13_bitCount_95d88, 2, (some .int), 0, 1) := ⟨pm_i3 (List.mem_of_getElem? (i := 71) rfl), pm_i1 (List.mem_of_getElem? (i := 10) rfl), (fun _ => pm_i3 (List.mem_of_getElem? (i := 70) rfl)), (fun h => by cases h), (fun h => by cases h)⟩
theorem pm_k143 : pm_MQ (10, yJ9_max_7cf53, cJ9_max_7cf53, 2, (some .int), 0, 2) := ⟨pm_i1 (List.mem_of_getElem? (i := 142) rfl), pm_i1 (List.mem_of_getElem? (i := 8) rfl), (fun _ => pm_i1 (List.mem_of_getElem? (i := 141) rfl)), (fun h => by cases h), (fun h => by cases h)⟩
theorem pm_k144 : pm_MQ (10, yJ9_max_f86c9, cJ9_max_f86c9, 4, (some .long), 0, 2) := ⟨pm_i3 (List.mem_of_getElem? (i := 3) rfl), pm_i1 (List.mem_of_getElem? (i := 8) rfl), (fun _ => pm_i3 (List.mem_of_getElem? (i := 2) rfl)), (fun h => by cases h), (fun h => by cases h)⟩
theorem pm_mc_0 : ∀ q ∈ pm_ms_0, pm_MQ q := (List.forall_mem_cons.mpr ⟨pm_k0, (List.forall_mem_cons.mpr ⟨pm_k1, (List.forall_mem_cons.mpr ⟨pm_k2, (List.forall_mem_cons.mpr ⟨pm_k3, (List.forall_mem_cons.mpr ⟨pm_k4, (List.forall_mem_cons.mpr ⟨pm_k5, (List.forall_mem_cons.mpr ⟨pm_k6, (List.forall_mem_cons.mpr ⟨pm_k7, (List.forall_mem_cons.mpr ⟨pm_k8, (List.forall_mem_cons.mpr ⟨pm_k9, (List.forall_mem_cons.mpr ⟨pm_k10, (List.forall_mem_cons.mpr ⟨pm_k11, (List.forall_mem_cons.mpr ⟨pm_k12, (List.forall_mem_cons.mpr ⟨pm_k13, (List.forall_mem_cons.mpr ⟨pm_k14, (List.forall_mem_cons.mpr ⟨pm_k15, (List.forall_mem_cons.mpr ⟨pm_k16, (List.forall_mem_cons.mpr ⟨pm_k17, (List.forall_mem_cons.mpr ⟨pm_k18, (List.forall_mem_cons.mpr ⟨pm_k19, (List.forall_mem_cons.mpr ⟨pm_k20, (List.forall_mem_cons.mpr ⟨pm_k21, (List.forall_mem_cons.mpr ⟨pm_k22, (List.forall_mem_cons.mpr ⟨pm_k23, (fun _ h => absurd h List.not_mem_nil)⟩)⟩)⟩)⟩)⟩)⟩)⟩)⟩)⟩)⟩)⟩)⟩)⟩)⟩)⟩)⟩)⟩)⟩)⟩)⟩)⟩)⟩)⟩)⟩)
theorem pm_mc_1 : ∀ q ∈ pm_ms_1, pm_MQ q := (List.forall_mem_cons.mpr ⟨pm_k24, (List.forall_mem_cons.mpr ⟨pm_k25, (List.forall_mem_cons.mpr ⟨pm_k26, (List.forall_mem_cons.mpr ⟨pm_k27, (List.forall_mem_cons.mpr ⟨pm_k28, (List.forall_mem_cons.mpr ⟨pm_k29, (List.forall_mem_cons.mpr ⟨pm_k30, (List.forall_mem_cons.mpr ⟨pm_k31, (List.forall_mem_cons.mpr ⟨pm_k32, (List.forall_mem_cons.mpr ⟨pm_k33, (List.forall_mem_cons.mpr ⟨pm_k34, (List.forall_mem_cons.mpr ⟨pm_k35, (List.forall_mem_cons.mpr ⟨pm_k36, (List.forall_mem_cons.mpr ⟨pm_k37, (List.forall_mem_cons.mpr ⟨pm_k38, (List.forall_mem_cons.mpr ⟨pm_k39, (List.forall_mem_cons.mpr ⟨pm_k40, (List.forall_mem_cons.mpr ⟨pm_k41, (List.forall_mem_cons.mpr ⟨pm_k42, (List.forall_mem_cons.mpr ⟨pm_k43, (List.forall_mem_cons.mpr ⟨pm_k44, (List.forall_mem_cons.mpr ⟨pm_k45, (List.forall_mem_cons.mpr ⟨pm_k46, (List.forall_mem_cons.mpr ⟨pm_k47, (fun _ h => absurd h List.not_mem_nil)⟩)⟩)⟩)⟩)⟩)⟩)⟩)⟩)⟩)⟩)⟩)⟩)⟩)⟩)⟩)⟩)⟩)⟩)⟩)⟩)⟩)⟩)⟩)⟩)
theorem pm_mc_2 : ∀ q ∈ pm_ms_2, pm_MQ q := (List.forall_mem_cons.mpr ⟨pm_k48, (List.forall_mem_cons.mpr ⟨pm_k49, (List.forall_mem_cons.mpr ⟨pm_k50, (List.forall_mem_cons.mpr ⟨pm_k51, (List.forall_mem_cons.mpr ⟨pm_k52, (List.forall_mem_cons.mpr ⟨pm_k53, (List.forall_mem_cons.mpr ⟨pm_k54, (List.forall_mem_cons.mpr ⟨pm_k55, (List.forall_mem_cons.mpr ⟨pm_k56, (List.forall_mem_cons.mpr ⟨pm_k57, (List.forall_mem_cons.mpr ⟨pm_k58, (List.forall_mem_cons.mpr ⟨pm_k59, (List.forall_mem_cons.mpr ⟨pm_k60, (List.forall_mem_cons.mpr ⟨pm_k61, (List.forall_mem_cons.mpr ⟨pm_k62, (List.forall_mem_cons.mpr ⟨pm_k63, (List.forall_mem_cons.mpr ⟨pm_k64, (List.forall_mem_cons.mpr ⟨pm_k65, (List.forall_mem_cons.mpr ⟨pm_k66, (List.forall_mem_cons.mpr ⟨pm_k67, (List.forall_mem_cons.mpr ⟨pm_k68, (List.forall_mem_cons.mpr ⟨pm_k69, (List.forall_mem_cons.mpr ⟨pm_k70, (List.forall_mem_cons.mpr ⟨pm_k71, (fun _ h => absurd h List.not_mem_nil)⟩)⟩)⟩)⟩)⟩)⟩)⟩)⟩)⟩)⟩)⟩)⟩)⟩)⟩)⟩)⟩)⟩)⟩)⟩)⟩)⟩)⟩)⟩)⟩)
theorem pm_mc_3 : ∀ q ∈ pm_ms_3, pm_MQ q := (List.forall_mem_cons.mpr ⟨pm_k72, (List.forall_mem_cons.mpr ⟨pm_k73, (List.forall_mem_cons.mpr ⟨pm_k74, (List.forall_mem_cons.mpr ⟨pm_k75, (List.forall_mem_cons.mpr ⟨pm_k76, (List.forall_mem_cons.mpr ⟨pm_k77, (List.forall_mem_cons.mpr ⟨pm_k78, (List.forall_mem_cons.mpr ⟨pm_k79, (List.forall_mem_cons.mpr ⟨pm_k80, (List.forall_mem_cons.mpr ⟨pm_k81, (List.forall_mem_cons.mpr ⟨pm_k82, (List.forall_mem_cons.mpr ⟨pm_k83, (List.forall_mem_cons.mpr ⟨pm_k84, (List.forall_mem_cons.mpr ⟨pm_k85, (List.forall_mem_cons.mpr ⟨pm_k86, (List.forall_mem_cons.mpr ⟨pm_k87, (List.forall_mem_cons.mpr ⟨pm_k88, (List.forall_mem_cons.mpr ⟨pm_k89, (List.forall_mem_cons.mpr ⟨pm_k90, (List.forall_mem_cons.mpr ⟨pm_k91, (List.forall_mem_cons.mpr ⟨pm_k92, (List.forall_mem_cons.mpr ⟨pm_k93, (List.forall_mem_cons.mpr ⟨pm_k94, (List.forall_mem_cons.mpr ⟨pm_k95, (fun _ h => absurd h List.not_mem_nil)⟩)⟩)⟩)⟩)⟩)⟩)⟩)⟩)⟩)⟩)⟩)⟩)⟩)⟩)⟩)⟩)⟩)⟩)⟩)⟩)⟩)⟩)⟩)⟩)
theorem pm_mc_4 : ∀ q ∈ pm_ms_4, pm_MQ q := (List.forall_mem_cons.mpr ⟨pm_k96, (List.forall_mem_cons.mpr ⟨pm_k97, (List.forall_mem_cons.mpr ⟨pm_k98, (List.forall_mem_cons.mpr ⟨pm_k99, (List.forall_mem_cons.mpr ⟨pm_k100, (List.forall_mem_cons.mpr ⟨pm_k101, (List.forall_mem_cons.mpr ⟨pm_k102, (List.forall_mem_cons.mpr ⟨pm_k103, (List.forall_mem_cons.mpr ⟨pm_k104, (List.forall_mem_cons.mpr ⟨pm_k105, (List.forall_mem_cons.mpr ⟨pm_k106, (List.forall_mem_cons.mpr ⟨pm_k107, (List.forall_mem_cons.mpr ⟨pm_k108, (List.forall_mem_cons.mpr ⟨pm_k109, (List.forall_mem_cons.mpr ⟨pm_k110, (List.forall_mem_cons.mpr ⟨pm_k111, (List.forall_mem_cons.mpr ⟨pm_k112, (List.forall_mem_cons.mpr ⟨pm_k113, (List.forall_mem_cons.mpr ⟨pm_k114, (List.forall_mem_cons.mpr ⟨pm_k115, (List.forall_mem_cons.mpr ⟨pm_k116, (List.forall_mem_cons.mpr ⟨pm_k117, (List.forall_mem_cons.mpr ⟨pm_k118, (List.forall_mem_cons.mpr ⟨pm_k119, (fun _ h => absurd h List.not_mem_nil)⟩)⟩)⟩)⟩)⟩)⟩)⟩)⟩)⟩)⟩)⟩)⟩)⟩)⟩)⟩)⟩)⟩)⟩)⟩)⟩)⟩)⟩)⟩)⟩)
theorem pm_mc_5 : ∀ q ∈ pm_ms_5, pm_MQ q := (List.forall_mem_cons.mpr ⟨pm_k120, (List.forall_mem_cons.mpr ⟨pm_k121, (List.forall_mem_cons.mpr ⟨pm_k122, (List.forall_mem_cons.mpr ⟨pm_k123, (List.forall_mem_cons.mpr ⟨pm_k124, (List.forall_mem_cons.mpr ⟨pm_k125, (List.forall_mem_cons.mpr ⟨pm_k126, (List.forall_mem_cons.mpr ⟨pm_k127, (List.forall_mem_cons.mpr ⟨pm_k128, (List.forall_mem_cons.mpr ⟨pm_k129, (List.forall_mem_cons.mpr ⟨pm_k130, (List.forall_mem_cons.mpr ⟨pm_k131, (List.forall_mem_cons.mpr ⟨pm_k132, (List.forall_mem_cons.mpr ⟨pm_k133, (List.forall_mem_cons.mpr ⟨pm_k134, (List.forall_mem_cons.mpr ⟨pm_k135, (List.forall_mem_cons.mpr ⟨pm_k136, (List.forall_mem_cons.mpr ⟨pm_k137, (List.forall_mem_cons.mpr ⟨pm_k138, (List.forall_mem_cons.mpr ⟨pm_k139, (List.forall_mem_cons.mpr ⟨pm_k140, (List.forall_mem_cons.mpr ⟨pm_k141, (List.forall_mem_cons.mpr ⟨pm_k142, (List.forall_mem_cons.mpr ⟨pm_k143, (fun _ h => absurd h List.not_mem_nil)⟩)⟩)⟩)⟩)⟩)⟩)⟩)⟩)⟩)⟩)⟩)⟩)⟩)⟩)⟩)⟩)⟩)⟩)⟩)⟩)⟩)⟩)⟩)⟩)
theorem pm_mc_6 : ∀ q ∈ pm_ms_6.dropLast, pm_MQ q := (List.forall_mem_cons.mpr ⟨pm_k144, (fun _ h => absurd h List.not_mem_nil)⟩)
theorem pm_ms_all : ∀ q ∈ pm_ms.dropLast, pm_MQ q := by
  have e : pm_ms.dropLast = pm_ms_0 ++ (pm_ms_1 ++ (pm_ms_2 ++ (pm_ms_3 ++ (pm_ms_4 ++ (pm_ms_5 ++ (pm_ms_6.dropLast)))))) := rfl
  rw [e]
  intro q h
  simp only [List.mem_append] at h
  rcases h with h | h | h | h | h | h | h
  · exact pm_mc_0 q h
  · exact pm_mc_1 q h
  · exact pm_mc_2 q h
  · exact pm_mc_3 q h
  · exact pm_mc_4 q h
  · exact pm_mc_5 q h
  · exact pm_mc_6 q h
theorem pm_wm_0 : Cond.methodLink RX0 11 yX3_init ∈ lw_tbl := pm_i1 (List.mem_of_getElem? (i := 136) rfl)
theorem pm_wm_1 : Cond.methodLink RX0 67 yX0_empty ∈ lw_tbl := pm_i2 (List.mem_of_getElem? (i := 22) rfl)
theorem pm_wm_2 : Cond.methodLink RX0 74 yX3_add ∈ lw_tbl := pm_i2 (List.mem_of_getElem? (i := 30) rfl)
theorem pm_wm_3 : Cond.methodLink RX0 78 yJ13_bitCount_95d88 ∈ lw_tbl := pm_i3 (List.mem_of_getElem? (i := 69) rfl)
theorem pm_wm_4 : Cond.methodLink RX1 23 yX1_addTo ∈ lw_tbl := pm_i2 (List.mem_of_getElem? (i := 237) rfl)
theorem pm_wm_5 : Cond.methodLink RX1 27 yJ9_max_f86c9 ∈ lw_tbl := pm_i3 (List.mem_of_getElem? (i := 1) rfl)
theorem pm_wm_6 : Cond.methodLink RX3 9 yJ9_max_7cf53 ∈ lw_tbl := pm_i1 (List.mem_of_getElem? (i := 140) rfl)
theorem pm_wm_7 : Cond.methodLink RX3 32 yX3_sources ∈ lw_tbl := pm_i3 (List.mem_of_getElem? (i := 48) rfl)
theorem pm_wm_8 : Cond.methodLink RX4 47 yX0_empty ∈ lw_tbl := pm_i2 (List.mem_of_getElem? (i := 127) rfl)
theorem pm_wm_9 : Cond.methodLink RX4 57 yX5_begin ∈ lw_tbl := pm_i2 (List.mem_of_getElem? (i := 128) rfl)
theorem pm_wm_10 : Cond.methodLink RX4 60 yX4_filterNodes ∈ lw_tbl := pm_i2 (List.mem_of_getElem? (i := 132) rfl)
theorem pm_wm_11 : Cond.methodLink RX4 64 yX4_filterArcs ∈ lw_tbl := pm_i2 (List.mem_of_getElem? (i := 178) rfl)
theorem pm_wm_12 : Cond.methodLink RX4 67 yX4_turn ∈ lw_tbl := pm_i2 (List.mem_of_getElem? (i := 183) rfl)
theorem pm_wm_13 : Cond.methodLink RX4 70 yX4_join ∈ lw_tbl := pm_i2 (List.mem_of_getElem? (i := 189) rfl)
theorem pm_wm_14 : Cond.methodLink RX4 74 yX4_copyNodes ∈ lw_tbl := pm_i2 (List.mem_of_getElem? (i := 186) rfl)
theorem pm_wm_15 : Cond.methodLink RX4 77 yX4_link ∈ lw_tbl := pm_i2 (List.mem_of_getElem? (i := 195) rfl)
theorem pm_wm_16 : Cond.methodLink RX4 81 yX4_copyUnlinked ∈ lw_tbl := pm_i2 (List.mem_of_getElem? (i := 203) rfl)
theorem pm_wm_17 : Cond.methodLink RX4 84 yX4_multiply ∈ lw_tbl := pm_i2 (List.mem_of_getElem? (i := 207) rfl)
theorem pm_wm_18 : Cond.methodLink RX4 87 yX4_line ∈ lw_tbl := pm_i2 (List.mem_of_getElem? (i := 222) rfl)
theorem pm_wm_19 : Cond.methodLink RX4 90 yX4_gatherNodes ∈ lw_tbl := pm_i2 (List.mem_of_getElem? (i := 225) rfl)
theorem pm_wm_20 : Cond.methodLink RX4 93 yX4_gatherArcs ∈ lw_tbl := pm_i3 (List.mem_of_getElem? (i := 12) rfl)
theorem pm_wm_21 : Cond.methodLink RX4 115 yX0_addNode ∈ lw_tbl := pm_i2 (List.mem_of_getElem? (i := 170) rfl)
theorem pm_wm_22 : Cond.methodLink RX4 119 yX4_fail ∈ lw_tbl := pm_i2 (List.mem_of_getElem? (i := 171) rfl)
theorem pm_wm_23 : Cond.methodLink RX4 135 yX0_addArc ∈ lw_tbl := pm_i2 (List.mem_of_getElem? (i := 182) rfl)
theorem pm_wm_24 : Cond.methodLink RX4 146 yX2_add ∈ lw_tbl := pm_i2 (List.mem_of_getElem? (i := 174) rfl)
theorem pm_wm_25 : Cond.methodLink RX4 152 yX4_isLinked ∈ lw_tbl := pm_i2 (List.mem_of_getElem? (i := 199) rfl)
theorem pm_wm_26 : Cond.methodLink RX4 156 yJ9_max_7cf53 ∈ lw_tbl := pm_i2 (List.mem_of_getElem? (i := 193) rfl)
theorem pm_wm_27 : Cond.methodLink RX4 162 yX3_has ∈ lw_tbl := pm_i2 (List.mem_of_getElem? (i := 194) rfl)
theorem pm_wm_28 : Cond.methodLink RX4 166 yX4_pairNodes ∈ lw_tbl := pm_i2 (List.mem_of_getElem? (i := 210) rfl)
theorem pm_wm_29 : Cond.methodLink RX4 169 yX4_moveInA ∈ lw_tbl := pm_i2 (List.mem_of_getElem? (i := 213) rfl)
theorem pm_wm_30 : Cond.methodLink RX4 172 yX4_moveInB ∈ lw_tbl := pm_i2 (List.mem_of_getElem? (i := 216) rfl)
theorem pm_wm_31 : Cond.methodLink RX4 175 yX4_moveInBoth ∈ lw_tbl := pm_i2 (List.mem_of_getElem? (i := 219) rfl)
theorem pm_wm_32 : Cond.methodLink RX4 178 yX1_begin ∈ lw_tbl := pm_i2 (List.mem_of_getElem? (i := 229) rfl)
theorem pm_wm_33 : Cond.methodLink RX4 179 yX1_put ∈ lw_tbl := pm_i2 (List.mem_of_getElem? (i := 233) rfl)
theorem pm_wm_34 : Cond.methodLink RX4 183 yX1_hasAny ∈ lw_tbl := pm_i3 (List.mem_of_getElem? (i := 4) rfl)
theorem pm_wm_35 : Cond.methodLink RX4 192 yX4_breakIfTooLong ∈ lw_tbl := pm_i3 (List.mem_of_getElem? (i := 8) rfl)
theorem pm_wm_36 : Cond.methodLink RX5 35 yX5_has ∈ lw_tbl := pm_i2 (List.mem_of_getElem? (i := 76) rfl)
theorem pm_wm_37 : Cond.methodLink RX5 39 yX0_items ∈ lw_tbl := pm_i2 (List.mem_of_getElem? (i := 140) rfl)
theorem pm_wm_38 : Cond.methodLink RX5 45 yX3_has ∈ lw_tbl := pm_i2 (List.mem_of_getElem? (i := 141) rfl)
theorem pm_wm_39 : Cond.methodLink RX5 48 yX5_sayOfItem ∈ lw_tbl := pm_i2 (List.mem_of_getElem? (i := 142) rfl)
theorem pm_wm_40 : Cond.methodLink RX5 52 yX5_sayOfParts ∈ lw_tbl := pm_i2 (List.mem_of_getElem? (i := 161) rfl)
theorem pm_wm_41 : Cond.methodLink RX5 59 yX5_answer ∈ lw_tbl := pm_i2 (List.mem_of_getElem? (i := 146) rfl)
theorem pm_wm_42 : Cond.methodLink RX5 63 yX5_begun ∈ lw_tbl := pm_i2 (List.mem_of_getElem? (i := 149) rfl)
theorem pm_wm_43 : Cond.methodLink RX5 67 yX0_countFrom ∈ lw_tbl := pm_i2 (List.mem_of_getElem? (i := 153) rfl)
theorem pm_wm_44 : Cond.methodLink RX5 70 yX0_countBeside ∈ lw_tbl := pm_i2 (List.mem_of_getElem? (i := 157) rfl)
theorem pm_wm_45 : Cond.methodLink RX5 73 yX5_sayOfSomeNext ∈ lw_tbl := pm_i2 (List.mem_of_getElem? (i := 165) rfl)
theorem pm_wm_46 : Cond.methodLink RX5 79 yX5_say ∈ lw_tbl := pm_i2 (List.mem_of_getElem? (i := 169) rfl)
theorem pm_wm_47 : Cond.methodLink RX6 39 yX6_removeLabels ∈ lw_tbl := pm_i1 (List.mem_of_getElem? (i := 97) rfl)
theorem pm_wm_48 : Cond.methodLink RX6 43 yX6_nextGraph ∈ lw_tbl := pm_i1 (List.mem_of_getElem? (i := 125) rfl)
theorem pm_wm_49 : Cond.methodLink RX6 48 yX0_become ∈ lw_tbl := pm_i2 (List.mem_of_getElem? (i := 18) rfl)
theorem pm_wm_50 : Cond.methodLink RX6 52 yX0_addNode ∈ lw_tbl := pm_i2 (List.mem_of_getElem? (i := 26) rfl)
theorem pm_wm_51 : Cond.methodLink RX6 56 yX6_known ∈ lw_tbl := pm_i2 (List.mem_of_getElem? (i := 38) rfl)
theorem pm_wm_52 : Cond.methodLink RX6 67 yX3_has ∈ lw_tbl := pm_i2 (List.mem_of_getElem? (i := 42) rfl)
theorem pm_wm_53 : Cond.methodLink RX6 79 yX0_addArc ∈ lw_tbl := pm_i2 (List.mem_of_getElem? (i := 46) rfl)
theorem pm_wm_54 : Cond.methodLink RX6 83 yX6_isOneOfTwo ∈ lw_tbl := pm_i2 (List.mem_of_getElem? (i := 54) rfl)
theorem pm_wm_55 : Cond.methodLink RX6 86 yX0_items ∈ lw_tbl := pm_i2 (List.mem_of_getElem? (i := 57) rfl)
theorem pm_wm_56 : Cond.methodLink RX6 94 yX6_isTable ∈ lw_tbl := pm_i2 (List.mem_of_getElem? (i := 65) rfl)
theorem pm_wm_57 : Cond.methodLink RX6 97 yX5_fits ∈ lw_tbl := pm_i2 (List.mem_of_getElem? (i := 72) rfl)
theorem pm_wm_58 : Cond.methodLink RX6 104 yX5_add ∈ lw_tbl := pm_i2 (List.mem_of_getElem? (i := 80) rfl)
theorem pm_wm_59 : Cond.methodLink RX6 108 yX6_fits ∈ lw_tbl := pm_i2 (List.mem_of_getElem? (i := 88) rfl)
theorem pm_wm_60 : Cond.methodLink RX6 111 yX6_isOfTwo ∈ lw_tbl := pm_i2 (List.mem_of_getElem? (i := 100) rfl)
theorem pm_wm_61 : Cond.methodLink RX6 114 yX0_choose ∈ lw_tbl := pm_i2 (List.mem_of_getElem? (i := 103) rfl)
theorem pm_wm_62 : Cond.methodLink RX6 122 yX6_isBroken ∈ lw_tbl := pm_i2 (List.mem_of_getElem? (i := 111) rfl)
theorem pm_wm_63 : Cond.methodLink RX6 148 yX3_sources ∈ lw_tbl := pm_i3 (List.mem_of_getElem? (i := 35) rfl)
theorem pm_wm_64 : Cond.methodLink RX6 153 yX3_firstOf ∈ lw_tbl := pm_i3 (List.mem_of_getElem? (i := 44) rfl)
theorem pm_wm_65 : Cond.methodLink RX6 166 yX0_isLike ∈ lw_tbl := pm_i3 (List.mem_of_getElem? (i := 57) rfl)
theorem pm_wm_66 : Cond.methodLink RX6 169 yX0_countReached ∈ lw_tbl := pm_i3 (List.mem_of_getElem? (i := 65) rfl)
theorem pm_wm_67 : Cond.methodLink RX6 173 yX5_has ∈ lw_tbl := pm_i2 (List.mem_of_getElem? (i := 96) rfl)
theorem pm_wm_68 : Cond.methodLink RX6 174 yX5_begin ∈ lw_tbl := pm_i3 (List.mem_of_getElem? (i := 79) rfl)
theorem pm_wm_69 : Cond.methodLink RX6 181 yX6_countFixed ∈ lw_tbl := pm_i3 (List.mem_of_getElem? (i := 85) rfl)
theorem pm_wm_70 : Cond.methodLink RX6 186 yX6_isTestOrAll ∈ lw_tbl := pm_i2 (List.mem_of_getElem? (i := 92) rfl)
theorem pm_wm_71 : Cond.methodLink RX6 189 yX6_isOneOfThree ∈ lw_tbl := pm_i2 (List.mem_of_getElem? (i := 97) rfl)
theorem pm_wm_72 : Cond.methodLink RX6 192 yX6_refresh ∈ lw_tbl := pm_i2 (List.mem_of_getElem? (i := 115) rfl)
theorem pm_wm_73 : Cond.methodLink RX6 196 yX0_isStale ∈ lw_tbl := pm_i2 (List.mem_of_getElem? (i := 119) rfl)
theorem pm_wm_74 : Cond.methodLink RX6 206 yX4_reckon ∈ lw_tbl := pm_i2 (List.mem_of_getElem? (i := 123) rfl)
theorem pm_wm_75 : Cond.methodLink RX7 111 yX7_clear ∈ lw_tbl := pm_i3 (List.mem_of_getElem? (i := 99) rfl)
theorem pm_wm_76 : Cond.methodLink RX7 119 yX7_in ∈ lw_tbl := pm_i3 (List.mem_of_getElem? (i := 235) rfl)
theorem pm_wm_77 : Cond.methodLink RX7 123 yX7_isGraph ∈ lw_tbl := pm_i4 (List.mem_of_getElem? (i := 8) rfl)
theorem pm_wm_78 : Cond.methodLink RX7 136 yX7_isBase ∈ lw_tbl := pm_i4 (List.mem_of_getElem? (i := 4) rfl)
theorem pm_wm_79 : Cond.methodLink RX7 140 yX7_addArc ∈ lw_tbl := pm_i4 (List.mem_of_getElem? (i := 13) rfl)
theorem pm_wm_80 : Cond.methodLink RX7 144 yX7_isTest ∈ lw_tbl := pm_i4 (List.mem_of_getElem? (i := 33) rfl)
theorem pm_wm_81 : Cond.methodLink RX7 147 yX7_isTold ∈ lw_tbl := pm_i4 (List.mem_of_getElem? (i := 41) rfl)
theorem pm_wm_82 : Cond.methodLink RX7 151 yX7_reckonOne ∈ lw_tbl := pm_i4 (List.mem_of_getElem? (i := 57) rfl)
theorem pm_wm_83 : Cond.methodLink RX7 155 yX7_filter ∈ lw_tbl := pm_i4 (List.mem_of_getElem? (i := 61) rfl)
theorem pm_wm_84 : Cond.methodLink RX7 159 yX7_turned ∈ lw_tbl := pm_i4 (List.mem_of_getElem? (i := 121) rfl)
theorem pm_wm_85 : Cond.methodLink RX7 162 yX7_joined ∈ lw_tbl := pm_i4 (List.mem_of_getElem? (i := 129) rfl)
theorem pm_wm_86 : Cond.methodLink RX7 166 yX7_less ∈ lw_tbl := pm_i4 (List.mem_of_getElem? (i := 137) rfl)
theorem pm_wm_87 : Cond.methodLink RX7 169 yX7_product ∈ lw_tbl := pm_i4 (List.mem_of_getElem? (i := 141) rfl)
theorem pm_wm_88 : Cond.methodLink RX7 172 yX7_lines ∈ lw_tbl := pm_i4 (List.mem_of_getElem? (i := 145) rfl)
theorem pm_wm_89 : Cond.methodLink RX7 175 yX7_gathered ∈ lw_tbl := pm_i4 (List.mem_of_getElem? (i := 149) rfl)
theorem pm_wm_90 : Cond.methodLink RX7 178 yX7_breaks ∈ lw_tbl := pm_i4 (List.mem_of_getElem? (i := 17) rfl)
theorem pm_wm_91 : Cond.methodLink RX7 181 yX7_fromOf ∈ lw_tbl := pm_i4 (List.mem_of_getElem? (i := 97) rfl)
theorem pm_wm_92 : Cond.methodLink RX7 185 yX7_toOf ∈ lw_tbl := pm_i4 (List.mem_of_getElem? (i := 101) rfl)
theorem pm_wm_93 : Cond.methodLink RX7 188 yX7_asked ∈ lw_tbl := pm_i4 (List.mem_of_getElem? (i := 69) rfl)
theorem pm_wm_94 : Cond.methodLink RX7 198 yX7_passes ∈ lw_tbl := pm_i4 (List.mem_of_getElem? (i := 65) rfl)
theorem pm_wm_95 : Cond.methodLink RX7 201 yX7_ofNode ∈ lw_tbl := pm_i4 (List.mem_of_getElem? (i := 81) rfl)
theorem pm_wm_96 : Cond.methodLink RX7 205 yX7_addNode ∈ lw_tbl := pm_i4 (List.mem_of_getElem? (i := 117) rfl)
theorem pm_wm_97 : Cond.methodLink RX7 209 yX7_ofArc ∈ lw_tbl := pm_i4 (List.mem_of_getElem? (i := 85) rfl)
theorem pm_wm_98 : Cond.methodLink RX7 212 yX7_sameNodes ∈ lw_tbl := pm_i4 (List.mem_of_getElem? (i := 125) rfl)
theorem pm_wm_99 : Cond.methodLink RX7 215 yX7_hasArc ∈ lw_tbl := pm_i4 (List.mem_of_getElem? (i := 133) rfl)
theorem pm_wm_100 : Cond.methodLink RX7 228 yX7_labelOf ∈ lw_tbl := pm_i4 (List.mem_of_getElem? (i := 153) rfl)
theorem pm_wm_101 : Cond.methodLink RX7 231 yX7_comes ∈ lw_tbl := pm_i4 (List.mem_of_getElem? (i := 157) rfl)
theorem pm_wm_102 : Cond.methodLink RX7 238 yX7_push ∈ lw_tbl := pm_i4 (List.mem_of_getElem? (i := 73) rfl)
theorem pm_wm_103 : Cond.methodLink RX7 241 yX7_begins ∈ lw_tbl := pm_i4 (List.mem_of_getElem? (i := 77) rfl)
theorem pm_wm_104 : Cond.methodLink RX7 245 yX7_goesOn ∈ lw_tbl := pm_i4 (List.mem_of_getElem? (i := 113) rfl)
theorem pm_wm_105 : Cond.methodLink RX7 248 yX7_fails ∈ lw_tbl := pm_i4 (List.mem_of_getElem? (i := 89) rfl)
theorem pm_wm_106 : Cond.methodLink RX7 251 yX7_manyOf ∈ lw_tbl := pm_i4 (List.mem_of_getElem? (i := 93) rfl)
theorem pm_wm_107 : Cond.methodLink RX7 255 yX7_next ∈ lw_tbl := pm_i4 (List.mem_of_getElem? (i := 105) rfl)
theorem pm_wm_108 : Cond.methodLink RX7 258 yX7_arcBehind ∈ lw_tbl := pm_i4 (List.mem_of_getElem? (i := 109) rfl)
theorem pm_wm_109 : Cond.methodLink RX7 261 yX7_isView ∈ lw_tbl := pm_i4 (List.mem_of_getElem? (i := 49) rfl)
theorem pm_wm_110 : Cond.methodLink RX7 264 yX7_reckon ∈ lw_tbl := pm_i4 (List.mem_of_getElem? (i := 53) rfl)
theorem pm_wm_111 : Cond.methodLink RX7 272 yX7_itemsOf ∈ lw_tbl := pm_i4 (List.mem_of_getElem? (i := 176) rfl)
theorem pm_wm_112 : Cond.methodLink RX7 275 yX7_upOf ∈ lw_tbl := pm_i4 (List.mem_of_getElem? (i := 184) rfl)
theorem pm_wm_113 : Cond.methodLink RL 9 yX6_init ∈ lw_tbl := pm_i1 (List.mem_of_getElem? (i := 13) rfl)
theorem pm_wm_114 : Cond.methodLink RL 12 yX7_init ∈ lw_tbl := pm_i3 (List.mem_of_getElem? (i := 95) rfl)
theorem pm_wm_115 : Cond.methodLink RL 13 yX6_graph ∈ lw_tbl := pm_i1 (List.mem_of_getElem? (i := 120) rfl)
theorem pm_wm_116 : Cond.methodLink RL 17 yX7_graph ∈ lw_tbl := pm_i3 (List.mem_of_getElem? (i := 231) rfl)
theorem pm_wm_117 : Cond.methodLink RL 20 yX6_arc ∈ lw_tbl := pm_i2 (List.mem_of_getElem? (i := 34) rfl)
theorem pm_wm_118 : Cond.methodLink RL 24 yX7_arc ∈ lw_tbl := pm_i4 (List.mem_of_getElem? (i := 0) rfl)
theorem pm_wm_119 : Cond.methodLink RL 25 yX6_set ∈ lw_tbl := pm_i2 (List.mem_of_getElem? (i := 50) rfl)
theorem pm_wm_120 : Cond.methodLink RL 28 yX7_set ∈ lw_tbl := pm_i4 (List.mem_of_getElem? (i := 21) rfl)
theorem pm_wm_121 : Cond.methodLink RL 29 yX6_label ∈ lw_tbl := pm_i2 (List.mem_of_getElem? (i := 61) rfl)
theorem pm_wm_122 : Cond.methodLink RL 33 yX7_label ∈ lw_tbl := pm_i4 (List.mem_of_getElem? (i := 25) rfl)
theorem pm_wm_123 : Cond.methodLink RL 34 yX6_test ∈ lw_tbl := pm_i2 (List.mem_of_getElem? (i := 68) rfl)
theorem pm_wm_124 : Cond.methodLink RL 38 yX7_test ∈ lw_tbl := pm_i4 (List.mem_of_getElem? (i := 29) rfl)
theorem pm_wm_125 : Cond.methodLink RL 39 yX6_view ∈ lw_tbl := pm_i2 (List.mem_of_getElem? (i := 84) rfl)
theorem pm_wm_126 : Cond.methodLink RL 43 yX7_view ∈ lw_tbl := pm_i4 (List.mem_of_getElem? (i := 37) rfl)
theorem pm_wm_127 : Cond.methodLink RL 44 yX6_live ∈ lw_tbl := pm_i2 (List.mem_of_getElem? (i := 107) rfl)
theorem pm_wm_128 : Cond.methodLink RL 48 yX7_live ∈ lw_tbl := pm_i4 (List.mem_of_getElem? (i := 45) rfl)
theorem pm_wm_129 : Cond.methodLink RL 49 yX6_told ∈ lw_tbl := pm_i3 (List.mem_of_getElem? (i := 17) rfl)
theorem pm_wm_130 : Cond.methodLink RL 53 yX7_told ∈ lw_tbl := pm_i4 (List.mem_of_getElem? (i := 162) rfl)
theorem pm_wm_131 : Cond.methodLink RL 54 yX6_end ∈ lw_tbl := pm_i3 (List.mem_of_getElem? (i := 21) rfl)
theorem pm_wm_132 : Cond.methodLink RL 57 yX7_end ∈ lw_tbl := pm_i4 (List.mem_of_getElem? (i := 166) rfl)
theorem pm_wm_133 : Cond.methodLink RL 58 yX6_value ∈ lw_tbl := pm_i3 (List.mem_of_getElem? (i := 25) rfl)
theorem pm_wm_134 : Cond.methodLink RL 62 yX7_value ∈ lw_tbl := pm_i4 (List.mem_of_getElem? (i := 170) rfl)
theorem pm_wm_135 : Cond.methodLink RL 63 yX6_up ∈ lw_tbl := pm_i3 (List.mem_of_getElem? (i := 31) rfl)
theorem pm_wm_136 : Cond.methodLink RL 67 yX7_up ∈ lw_tbl := pm_i4 (List.mem_of_getElem? (i := 180) rfl)
theorem pm_wm_137 : Cond.methodLink RL 68 yX6_down ∈ lw_tbl := pm_i3 (List.mem_of_getElem? (i := 40) rfl)
theorem pm_wm_138 : Cond.methodLink RL 71 yX7_down ∈ lw_tbl := pm_i4 (List.mem_of_getElem? (i := 188) rfl)
theorem pm_wm_139 : Cond.methodLink RL 72 yX6_hidden ∈ lw_tbl := pm_i3 (List.mem_of_getElem? (i := 49) rfl)
theorem pm_wm_140 : Cond.methodLink RL 75 yX7_hidden ∈ lw_tbl := pm_i4 (List.mem_of_getElem? (i := 192) rfl)
theorem pm_wm_141 : Cond.methodLink RL 76 yX6_same ∈ lw_tbl := pm_i3 (List.mem_of_getElem? (i := 53) rfl)
theorem pm_wm_142 : Cond.methodLink RL 79 yX7_same ∈ lw_tbl := pm_i4 (List.mem_of_getElem? (i := 196) rfl)
theorem pm_wm_143 : Cond.methodLink RL 80 yX6_reach ∈ lw_tbl := pm_i3 (List.mem_of_getElem? (i := 61) rfl)
theorem pm_wm_144 : Cond.methodLink RL 83 yX7_reach ∈ lw_tbl := pm_i4 (List.mem_of_getElem? (i := 200) rfl)
theorem pm_wm_145 : Cond.methodLink RL 84 yX6_ask ∈ lw_tbl := pm_i3 (List.mem_of_getElem? (i := 75) rfl)
theorem pm_wm_146 : Cond.methodLink RL 87 yX7_ask ∈ lw_tbl := pm_i4 (List.mem_of_getElem? (i := 204) rfl)
theorem pm_wm_147 : Cond.methodLink RL 88 yX6_count ∈ lw_tbl := pm_i3 (List.mem_of_getElem? (i := 81) rfl)
theorem pm_wm_148 : Cond.methodLink RL 91 yX7_count ∈ lw_tbl := pm_i4 (List.mem_of_getElem? (i := 208) rfl)
theorem pm_wm_149 : Cond.methodLink RL 92 yX6_clear ∈ lw_tbl := pm_i3 (List.mem_of_getElem? (i := 89) rfl)
theorem pm_wm_150 : Cond.methodLink RL 96 yX7_clear ∈ lw_tbl := pm_i4 (List.mem_of_getElem? (i := 212) rfl)
set_option maxRecDepth 100000 in
theorem pm_wm_all : ∀ q ∈ pm_ml, Cond.methodLink (pm_nm (q.1 / 1000)) (q.1 % 1000) (pm_y q.2) ∈ lw_tbl := (List.forall_mem_cons.mpr ⟨pm_wm_0, (List.forall_mem_cons.mpr ⟨pm_wm_1, (List.forall_mem_cons.mpr ⟨pm_wm_2, (List.forall_mem_cons.mpr ⟨pm_wm_3, (List.forall_mem_cons.mpr ⟨pm_wm_4, (List.forall_mem_cons.mpr ⟨pm_wm_5, (List.forall_mem_cons.mpr ⟨pm_wm_6, (List.forall_mem_cons.mpr ⟨pm_wm_7, (List.forall_mem_cons.mpr ⟨pm_wm_8, (List.forall_mem_cons.mpr ⟨pm_wm_9, (List.forall_mem_cons.mpr ⟨pm_wm_10, (List.forall_mem_cons.mpr ⟨pm_wm_11, (List.forall_mem_cons.mpr ⟨pm_wm_12, (List.forall_mem_cons.mpr ⟨pm_wm_13, (List.forall_mem_cons.mpr ⟨pm_wm_14, (List.forall_mem_cons.mpr ⟨pm_wm_15, (List.forall_mem_cons.mpr ⟨pm_wm_16, (List.forall_mem_cons.mpr ⟨pm_wm_17, (List.forall_mem_cons.mpr ⟨pm_wm_18, (List.forall_mem_cons.mpr ⟨pm_wm_19, (List.forall_mem_cons.mpr ⟨pm_wm_20, (List.forall_mem_cons.mpr ⟨pm_wm_21, (List.forall_mem_cons.mpr ⟨pm_wm_22, (List.forall_mem_cons.mpr ⟨pm_wm_23, (List.forall_mem_cons.mpr ⟨pm_wm_24, (List.forall_mem_cons.mpr ⟨pm_wm_25, (List.forall_mem_cons.mpr ⟨pm_wm_26, (List.forall_mem_cons.mpr ⟨pm_wm_27, (List.forall_mem_cons.mpr ⟨pm_wm_28, (List.forall_mem_cons.mpr ⟨pm_wm_29, (List.forall_mem_cons.mpr ⟨pm_wm_30, (List.forall_mem_cons.mpr ⟨pm_wm_31, (List.forall_mem_cons.mpr ⟨pm_wm_32, (List.forall_mem_cons.mpr ⟨pm_wm_33, (List.forall_mem_cons.mpr ⟨pm_wm_34, (List.forall_mem_cons.mpr ⟨pm_wm_35, (List.forall_mem_cons.mpr ⟨pm_wm_36, (List.forall_mem_cons.mpr ⟨pm_wm_37, (List.forall_mem_cons.mpr ⟨pm_wm_38, (List.forall_mem_cons.mpr ⟨pm_wm_39, (List.forall_mem_cons.mpr ⟨pm_wm_40, (List.forall_mem_cons.mpr ⟨pm_wm_41, (List.forall_mem_cons.mpr ⟨pm_wm_42, (List.forall_mem_cons.mpr ⟨pm_wm_43, (List.forall_mem_cons.mpr ⟨pm_wm_44, (List.forall_mem_cons.mpr ⟨pm_wm_45, (List.forall_mem_cons.mpr ⟨pm_wm_46, (List.forall_mem_cons.mpr ⟨pm_wm_47, (List.forall_mem_cons.mpr ⟨pm_wm_48, (List.forall_mem_cons.mpr ⟨pm_wm_49, (List.forall_mem_cons.mpr ⟨pm_wm_50, (List.forall_mem_cons.mpr ⟨pm_wm_51, (List.forall_mem_cons.mpr ⟨pm_wm_52, (List.forall_mem_cons.mpr ⟨pm_wm_53, (List.forall_mem_cons.mpr ⟨pm_wm_54, (List.forall_mem_cons.mpr ⟨pm_wm_55, (List.forall_mem_cons.mpr ⟨pm_wm_56, (List.forall_mem_cons.mpr ⟨pm_wm_57, (List.forall_mem_cons.mpr ⟨pm_wm_58, (List.forall_mem_cons.mpr ⟨pm_wm_59, (List.forall_mem_cons.mpr ⟨pm_wm_60, (List.forall_mem_cons.mpr ⟨pm_wm_61, (List.forall_mem_cons.mpr ⟨pm_wm_62, (List.forall_mem_cons.mpr ⟨pm_wm_63, (List.forall_mem_cons.mpr ⟨pm_wm_64, (List.forall_mem_cons.mpr ⟨pm_wm_65, (List.forall_mem_cons.mpr ⟨pm_wm_66, (List.forall_mem_cons.mpr ⟨pm_wm_67, (List.forall_mem_cons.mpr ⟨pm_wm_68, (List.forall_mem_cons.mpr ⟨pm_wm_69, (List.forall_mem_cons.mpr ⟨pm_wm_70, (List.forall_mem_cons.mpr ⟨pm_wm_71, (List.forall_mem_cons.mpr ⟨pm_wm_72, (List.forall_mem_cons.mpr ⟨pm_wm_73, (List.forall_mem_cons.mpr ⟨pm_wm_74, (List.forall_mem_cons.mpr ⟨pm_wm_75, (List.forall_mem_cons.mpr ⟨pm_wm_76, (List.forall_mem_cons.mpr ⟨pm_wm_77, (List.forall_mem_cons.mpr ⟨pm_wm_78, (List.forall_mem_cons.mpr ⟨pm_wm_79, (List.forall_mem_cons.mpr ⟨pm_wm_80, (List.forall_mem_cons.mpr ⟨pm_wm_81, (List.forall_mem_cons.mpr ⟨pm_wm_82, (List.forall_mem_cons.mpr ⟨pm_wm_83, (List.forall_mem_cons.mpr ⟨pm_wm_84, (List.forall_mem_cons.mpr ⟨pm_wm_85, (List.forall_mem_cons.mpr ⟨pm_wm_86, (List.forall_mem_cons.mpr ⟨pm_wm_87, (List.forall_mem_cons.mpr ⟨pm_wm_88, (List.forall_mem_cons.mpr ⟨pm_wm_89, (List.forall_mem_cons.mpr ⟨pm_wm_90, (List.forall_mem_cons.mpr ⟨pm_wm_91, (List.forall_mem_cons.mpr ⟨pm_wm_92, (List.forall_mem_cons.mpr ⟨pm_wm_93, (List.forall_mem_cons.mpr ⟨pm_wm_94, (List.forall_mem_cons.mpr ⟨pm_wm_95, (List.forall_mem_cons.mpr ⟨pm_wm_96, (List.forall_mem_cons.mpr ⟨pm_wm_97, (List.forall_mem_cons.mpr ⟨pm_wm_98, (List.forall_mem_cons.mpr ⟨pm_wm_99, (List.forall_mem_cons.mpr ⟨pm_wm_100, (List.forall_mem_cons.mpr ⟨pm_wm_101, (List.forall_mem_cons.mpr ⟨pm_wm_102, (List.forall_mem_cons.mpr ⟨pm_wm_103, (List.forall_mem_cons.mpr ⟨pm_wm_104, (List.forall_mem_cons.mpr ⟨pm_wm_105, (List.forall_mem_cons.mpr ⟨pm_wm_106, (List.forall_mem_cons.mpr ⟨pm_wm_107, (List.forall_mem_cons.mpr ⟨pm_wm_108, (List.forall_mem_cons.mpr ⟨pm_wm_109, (List.forall_mem_cons.mpr ⟨pm_wm_110, (List.forall_mem_cons.mpr ⟨pm_wm_111, (List.forall_mem_cons.mpr ⟨pm_wm_112, (List.forall_mem_cons.mpr ⟨pm_wm_113, (List.forall_mem_cons.mpr ⟨pm_wm_114, (List.forall_mem_cons.mpr ⟨pm_wm_115, (List.forall_mem_cons.mpr ⟨pm_wm_116, (List.forall_mem_cons.mpr ⟨pm_wm_117, (List.forall_mem_cons.mpr ⟨pm_wm_118, (List.forall_mem_cons.mpr ⟨pm_wm_119, (List.forall_mem_cons.mpr ⟨pm_wm_120, (List.forall_mem_cons.mpr ⟨pm_wm_121, (List.forall_mem_cons.mpr ⟨pm_wm_122, (List.forall_mem_cons.mpr ⟨pm_wm_123, (List.forall_mem_cons.mpr ⟨pm_wm_124, (List.forall_mem_cons.mpr ⟨pm_wm_125, (List.forall_mem_cons.mpr ⟨pm_wm_126, (List.forall_mem_cons.mpr ⟨pm_wm_127, (List.forall_mem_cons.mpr ⟨pm_wm_128, (List.forall_mem_cons.mpr ⟨pm_wm_129, (List.forall_mem_cons.mpr ⟨pm_wm_130, (List.forall_mem_cons.mpr ⟨pm_wm_131, (List.forall_mem_cons.mpr ⟨pm_wm_132, (List.forall_mem_cons.mpr ⟨pm_wm_133, (List.forall_mem_cons.mpr ⟨pm_wm_134, (List.forall_mem_cons.mpr ⟨pm_wm_135, (List.forall_mem_cons.mpr ⟨pm_wm_136, (List.forall_mem_cons.mpr ⟨pm_wm_137, (List.forall_mem_cons.mpr ⟨pm_wm_138, (List.forall_mem_cons.mpr ⟨pm_wm_139, (List.forall_mem_cons.mpr ⟨pm_wm_140, (List.forall_mem_cons.mpr ⟨pm_wm_141, (List.forall_mem_cons.mpr ⟨pm_wm_142, (List.forall_mem_cons.mpr ⟨pm_wm_143, (List.forall_mem_cons.mpr ⟨pm_wm_144, (List.forall_mem_cons.mpr ⟨pm_wm_145, (List.forall_mem_cons.mpr ⟨pm_wm_146, (List.forall_mem_cons.mpr ⟨pm_wm_147, (List.forall_mem_cons.mpr ⟨pm_wm_148, (List.forall_mem_cons.mpr ⟨pm_wm_149, (List.forall_mem_cons.mpr ⟨pm_wm_150, (fun _ h => absurd h List.not_mem_nil)⟩)⟩)⟩)⟩)⟩)⟩)⟩)⟩)⟩)⟩)⟩)⟩)⟩)⟩)⟩)⟩)⟩)⟩)⟩)⟩)⟩)⟩)⟩)⟩)⟩)⟩)⟩)⟩)⟩)⟩)⟩)⟩)⟩)⟩)⟩)⟩)⟩)⟩)⟩)⟩)⟩)⟩)⟩)⟩)⟩)⟩)⟩)⟩)⟩)⟩)⟩)⟩)⟩)⟩)⟩)⟩)⟩)⟩)⟩)⟩)⟩)⟩)⟩)⟩)⟩)⟩)⟩)⟩)⟩)⟩)⟩)⟩)⟩)⟩)⟩)⟩)⟩)⟩)⟩)⟩)⟩)⟩)⟩)⟩)⟩)⟩)⟩)⟩)⟩)⟩)⟩)⟩)⟩)⟩)⟩)⟩)⟩)⟩)⟩)⟩)⟩)⟩)⟩)⟩)⟩)⟩)⟩)⟩)⟩)⟩)⟩)⟩)⟩)⟩)⟩)⟩)⟩)⟩)⟩)⟩)⟩)⟩)⟩)⟩)⟩)⟩)⟩)⟩)⟩)⟩)⟩)⟩)⟩)⟩)⟩)⟩)⟩)⟩)⟩)⟩)⟩)⟩)⟩)⟩)⟩)⟩)⟩)⟩)⟩)⟩)⟩)
def pm_fw (q : Nat × Nat × Nat) : Cond := .fieldLink (pm_nm (q.1 / 1000)) (q.1 % 1000) ((pm_clq q.2.1).2.1 q.2.2).1 ((pm_clq q.2.1).2.1 q.2.2).2.1 ((pm_clq q.2.1).2.1 q.2.2).2.2.1
theorem pm_wf_0 : Cond.fieldLink RX0 14 "ViewsJoins$Graph" "nodes" "LViewsJoins$Items;" ∈ lw_tbl := pm_i1 (List.mem_of_getElem? (i := 188) rfl)
theorem pm_wf_1 : Cond.fieldLink RX0 20 "ViewsJoins$Graph" "arcs" "LViewsJoins$Items;" ∈ lw_tbl := pm_i1 (List.mem_of_getElem? (i := 191) rfl)
theorem pm_wf_2 : Cond.fieldLink RX0 23 "ViewsJoins$Graph" "from" "[I" ∈ lw_tbl := pm_i1 (List.mem_of_getElem? (i := 195) rfl)
theorem pm_wf_3 : Cond.fieldLink RX0 27 "ViewsJoins$Graph" "to" "[I" ∈ lw_tbl := pm_i1 (List.mem_of_getElem? (i := 199) rfl)
theorem pm_wf_4 : Cond.fieldLink RX0 33 "ViewsJoins$Graph" "hiddenItems" "LViewsJoins$HiddenItems;" ∈ lw_tbl := pm_i1 (List.mem_of_getElem? (i := 203) rfl)
theorem pm_wf_5 : Cond.fieldLink RX0 37 "ViewsJoins$Graph" "failure" "I" ∈ lw_tbl := pm_i1 (List.mem_of_getElem? (i := 206) rfl)
theorem pm_wf_6 : Cond.fieldLink RX0 41 "ViewsJoins$Graph" "kind" "I" ∈ lw_tbl := pm_i1 (List.mem_of_getElem? (i := 209) rfl)
theorem pm_wf_7 : Cond.fieldLink RX0 44 "ViewsJoins$Graph" "a" "LViewsJoins$Graph;" ∈ lw_tbl := pm_i1 (List.mem_of_getElem? (i := 212) rfl)
theorem pm_wf_8 : Cond.fieldLink RX0 48 "ViewsJoins$Graph" "b" "LViewsJoins$Graph;" ∈ lw_tbl := pm_i1 (List.mem_of_getElem? (i := 215) rfl)
theorem pm_wf_9 : Cond.fieldLink RX0 51 "ViewsJoins$Graph" "choiceB" "I" ∈ lw_tbl := pm_i1 (List.mem_of_getElem? (i := 218) rfl)
theorem pm_wf_10 : Cond.fieldLink RX0 54 "ViewsJoins$Graph" "choiceC" "I" ∈ lw_tbl := pm_i1 (List.mem_of_getElem? (i := 220) rfl)
theorem pm_wf_11 : Cond.fieldLink RX0 57 "ViewsJoins$Graph" "choiceD" "I" ∈ lw_tbl := pm_i1 (List.mem_of_getElem? (i := 222) rfl)
theorem pm_wf_12 : Cond.fieldLink RX0 60 "ViewsJoins$Graph" "fixed" "Z" ∈ lw_tbl := pm_i1 (List.mem_of_getElem? (i := 224) rfl)
theorem pm_wf_13 : Cond.fieldLink RX0 64 "ViewsJoins$Graph" "reckonedAt" "I" ∈ lw_tbl := pm_i1 (List.mem_of_getElem? (i := 226) rfl)
theorem pm_wf_14 : Cond.fieldLink RX0 70 "ViewsJoins$Items" "size" "I" ∈ lw_tbl := pm_i1 (List.mem_of_getElem? (i := 153) rfl)
theorem pm_wf_15 : Cond.fieldLink RX0 73 "ViewsJoins$HiddenItems" "size" "I" ∈ lw_tbl := pm_i1 (List.mem_of_getElem? (i := 177) rfl)
theorem pm_wf_16 : Cond.fieldLink RX0 84 "ViewsJoins$Items" "values" "[J" ∈ lw_tbl := pm_i1 (List.mem_of_getElem? (i := 147) rfl)
theorem pm_wf_17 : Cond.fieldLink RX1 9 "ViewsJoins$Heaps" "totals" "[J" ∈ lw_tbl := pm_i1 (List.mem_of_getElem? (i := 66) rfl)
theorem pm_wf_18 : Cond.fieldLink RX1 15 "ViewsJoins$Heaps" "least" "[I" ∈ lw_tbl := pm_i1 (List.mem_of_getElem? (i := 68) rfl)
theorem pm_wf_19 : Cond.fieldLink RX1 19 "ViewsJoins$Heaps" "tooLong" "Z" ∈ lw_tbl := pm_i1 (List.mem_of_getElem? (i := 70) rfl)
theorem pm_wf_20 : Cond.fieldLink RX2 9 "ViewsJoins$HiddenItems" "whats" "[I" ∈ lw_tbl := pm_i1 (List.mem_of_getElem? (i := 170) rfl)
theorem pm_wf_21 : Cond.fieldLink RX2 15 "ViewsJoins$HiddenItems" "numbers" "[I" ∈ lw_tbl := pm_i1 (List.mem_of_getElem? (i := 172) rfl)
theorem pm_wf_22 : Cond.fieldLink RX2 18 "ViewsJoins$HiddenItems" "failures" "[I" ∈ lw_tbl := pm_i1 (List.mem_of_getElem? (i := 174) rfl)
theorem pm_wf_23 : Cond.fieldLink RX2 21 "ViewsJoins$HiddenItems" "size" "I" ∈ lw_tbl := pm_i1 (List.mem_of_getElem? (i := 176) rfl)
theorem pm_wf_24 : Cond.fieldLink RX3 15 "ViewsJoins$Items" "values" "[J" ∈ lw_tbl := pm_i1 (List.mem_of_getElem? (i := 143) rfl)
theorem pm_wf_25 : Cond.fieldLink RX3 21 "ViewsJoins$Items" "sourcesInA" "[I" ∈ lw_tbl := pm_i1 (List.mem_of_getElem? (i := 148) rfl)
theorem pm_wf_26 : Cond.fieldLink RX3 25 "ViewsJoins$Items" "sourcesInB" "[I" ∈ lw_tbl := pm_i1 (List.mem_of_getElem? (i := 149) rfl)
theorem pm_wf_27 : Cond.fieldLink RX3 28 "ViewsJoins$Items" "size" "I" ∈ lw_tbl := pm_i1 (List.mem_of_getElem? (i := 150) rfl)
theorem pm_wf_28 : Cond.fieldLink RX4 12 "ViewsJoins$Reckoner" "tests" "LViewsJoins$Tests;" ∈ lw_tbl := pm_i1 (List.mem_of_getElem? (i := 79) rfl)
theorem pm_wf_29 : Cond.fieldLink RX4 20 "ViewsJoins$Reckoner" "labels" "[[I" ∈ lw_tbl := pm_i1 (List.mem_of_getElem? (i := 81) rfl)
theorem pm_wf_30 : Cond.fieldLink RX4 26 "ViewsJoins$Reckoner" "heaps" "LViewsJoins$Heaps;" ∈ lw_tbl := pm_i1 (List.mem_of_getElem? (i := 83) rfl)
theorem pm_wf_31 : Cond.fieldLink RX4 30 "ViewsJoins$Reckoner" "places" "[I" ∈ lw_tbl := pm_i1 (List.mem_of_getElem? (i := 84) rfl)
theorem pm_wf_32 : Cond.fieldLink RX4 34 "ViewsJoins$Reckoner" "linked" "[J" ∈ lw_tbl := pm_i1 (List.mem_of_getElem? (i := 85) rfl)
theorem pm_wf_33 : Cond.fieldLink RX4 38 "ViewsJoins$Graph" "a" "LViewsJoins$Graph;" ∈ lw_tbl := pm_i1 (List.mem_of_getElem? (i := 213) rfl)
theorem pm_wf_34 : Cond.fieldLink RX4 44 "ViewsJoins$Graph" "b" "LViewsJoins$Graph;" ∈ lw_tbl := pm_i1 (List.mem_of_getElem? (i := 216) rfl)
theorem pm_wf_35 : Cond.fieldLink RX4 50 "ViewsJoins$Graph" "failure" "I" ∈ lw_tbl := pm_i1 (List.mem_of_getElem? (i := 207) rfl)
theorem pm_wf_36 : Cond.fieldLink RX4 54 "ViewsJoins$Graph" "kind" "I" ∈ lw_tbl := pm_i1 (List.mem_of_getElem? (i := 210) rfl)
theorem pm_wf_37 : Cond.fieldLink RX4 96 "ViewsJoins$Graph" "choiceB" "I" ∈ lw_tbl := pm_i1 (List.mem_of_getElem? (i := 219) rfl)
theorem pm_wf_38 : Cond.fieldLink RX4 99 "ViewsJoins$Graph" "nodes" "LViewsJoins$Items;" ∈ lw_tbl := pm_i1 (List.mem_of_getElem? (i := 189) rfl)
theorem pm_wf_39 : Cond.fieldLink RX4 103 "ViewsJoins$Items" "size" "I" ∈ lw_tbl := pm_i1 (List.mem_of_getElem? (i := 151) rfl)
theorem pm_wf_40 : Cond.fieldLink RX4 112 "ViewsJoins$Items" "values" "[J" ∈ lw_tbl := pm_i1 (List.mem_of_getElem? (i := 144) rfl)
theorem pm_wf_41 : Cond.fieldLink RX4 123 "ViewsJoins$Graph" "choiceC" "I" ∈ lw_tbl := pm_i1 (List.mem_of_getElem? (i := 221) rfl)
theorem pm_wf_42 : Cond.fieldLink RX4 126 "ViewsJoins$Graph" "arcs" "LViewsJoins$Items;" ∈ lw_tbl := pm_i1 (List.mem_of_getElem? (i := 193) rfl)
theorem pm_wf_43 : Cond.fieldLink RX4 129 "ViewsJoins$Graph" "from" "[I" ∈ lw_tbl := pm_i1 (List.mem_of_getElem? (i := 196) rfl)
theorem pm_wf_44 : Cond.fieldLink RX4 132 "ViewsJoins$Graph" "to" "[I" ∈ lw_tbl := pm_i1 (List.mem_of_getElem? (i := 200) rfl)
theorem pm_wf_45 : Cond.fieldLink RX4 139 "ViewsJoins$Graph" "choiceD" "I" ∈ lw_tbl := pm_i1 (List.mem_of_getElem? (i := 223) rfl)
theorem pm_wf_46 : Cond.fieldLink RX4 142 "ViewsJoins$Graph" "hiddenItems" "LViewsJoins$HiddenItems;" ∈ lw_tbl := pm_i1 (List.mem_of_getElem? (i := 204) rfl)
theorem pm_wf_47 : Cond.fieldLink RX4 186 "ViewsJoins$Heaps" "totals" "[J" ∈ lw_tbl := pm_i1 (List.mem_of_getElem? (i := 67) rfl)
theorem pm_wf_48 : Cond.fieldLink RX4 189 "ViewsJoins$Heaps" "least" "[I" ∈ lw_tbl := pm_i1 (List.mem_of_getElem? (i := 69) rfl)
theorem pm_wf_49 : Cond.fieldLink RX4 195 "ViewsJoins$Heaps" "tooLong" "Z" ∈ lw_tbl := pm_i1 (List.mem_of_getElem? (i := 71) rfl)
theorem pm_wf_50 : Cond.fieldLink RX5 9 "ViewsJoins$Tests" "sorts" "[I" ∈ lw_tbl := pm_i1 (List.mem_of_getElem? (i := 33) rfl)
theorem pm_wf_51 : Cond.fieldLink RX5 15 "ViewsJoins$Tests" "numbers" "[J" ∈ lw_tbl := pm_i1 (List.mem_of_getElem? (i := 34) rfl)
theorem pm_wf_52 : Cond.fieldLink RX5 19 "ViewsJoins$Tests" "firstParts" "[I" ∈ lw_tbl := pm_i1 (List.mem_of_getElem? (i := 35) rfl)
theorem pm_wf_53 : Cond.fieldLink RX5 22 "ViewsJoins$Tests" "secondParts" "[I" ∈ lw_tbl := pm_i1 (List.mem_of_getElem? (i := 36) rfl)
theorem pm_wf_54 : Cond.fieldLink RX5 25 "ViewsJoins$Tests" "size" "I" ∈ lw_tbl := pm_i1 (List.mem_of_getElem? (i := 37) rfl)
theorem pm_wf_55 : Cond.fieldLink RX5 29 "ViewsJoins$Tests" "steps" "I" ∈ lw_tbl := pm_i1 (List.mem_of_getElem? (i := 39) rfl)
theorem pm_wf_56 : Cond.fieldLink RX5 32 "ViewsJoins$Tests" "failures" "I" ∈ lw_tbl := pm_i1 (List.mem_of_getElem? (i := 40) rfl)
theorem pm_wf_57 : Cond.fieldLink RX5 56 "ViewsJoins$Items" "values" "[J" ∈ lw_tbl := pm_i1 (List.mem_of_getElem? (i := 146) rfl)
theorem pm_wf_58 : Cond.fieldLink RX5 76 "ViewsJoins$Graph" "to" "[I" ∈ lw_tbl := pm_i1 (List.mem_of_getElem? (i := 201) rfl)
theorem pm_wf_59 : Cond.fieldLink RX5 82 "ViewsJoins$Graph" "arcs" "LViewsJoins$Items;" ∈ lw_tbl := pm_i1 (List.mem_of_getElem? (i := 194) rfl)
theorem pm_wf_60 : Cond.fieldLink RX5 86 "ViewsJoins$Items" "size" "I" ∈ lw_tbl := pm_i1 (List.mem_of_getElem? (i := 154) rfl)
theorem pm_wf_61 : Cond.fieldLink RX5 87 "ViewsJoins$Graph" "from" "[I" ∈ lw_tbl := pm_i1 (List.mem_of_getElem? (i := 197) rfl)
theorem pm_wf_62 : Cond.fieldLink RX6 11 "ViewsJoins" "graphs" "[LViewsJoins$Graph;" ∈ lw_tbl := pm_i1 (List.mem_of_getElem? (i := 101) rfl)
theorem pm_wf_63 : Cond.fieldLink RX6 18 "ViewsJoins" "reckoner" "LViewsJoins$Reckoner;" ∈ lw_tbl := pm_i1 (List.mem_of_getElem? (i := 102) rfl)
theorem pm_wf_64 : Cond.fieldLink RX6 22 "ViewsJoins$Reckoner" "tests" "LViewsJoins$Tests;" ∈ lw_tbl := pm_i1 (List.mem_of_getElem? (i := 80) rfl)
theorem pm_wf_65 : Cond.fieldLink RX6 26 "ViewsJoins" "tests" "LViewsJoins$Tests;" ∈ lw_tbl := pm_i1 (List.mem_of_getElem? (i := 103) rfl)
theorem pm_wf_66 : Cond.fieldLink RX6 27 "ViewsJoins$Reckoner" "labels" "[[I" ∈ lw_tbl := pm_i1 (List.mem_of_getElem? (i := 82) rfl)
theorem pm_wf_67 : Cond.fieldLink RX6 31 "ViewsJoins" "labels" "[[I" ∈ lw_tbl := pm_i1 (List.mem_of_getElem? (i := 104) rfl)
theorem pm_wf_68 : Cond.fieldLink RX6 32 "ViewsJoins" "graphCount" "I" ∈ lw_tbl := pm_i1 (List.mem_of_getElem? (i := 105) rfl)
theorem pm_wf_69 : Cond.fieldLink RX6 36 "ViewsJoins" "now" "I" ∈ lw_tbl := pm_i1 (List.mem_of_getElem? (i := 106) rfl)
theorem pm_wf_70 : Cond.fieldLink RX6 60 "ViewsJoins$Graph" "kind" "I" ∈ lw_tbl := pm_i1 (List.mem_of_getElem? (i := 211) rfl)
theorem pm_wf_71 : Cond.fieldLink RX6 63 "ViewsJoins$Graph" "nodes" "LViewsJoins$Items;" ∈ lw_tbl := pm_i1 (List.mem_of_getElem? (i := 190) rfl)
theorem pm_wf_72 : Cond.fieldLink RX6 73 "ViewsJoins$Graph" "arcs" "LViewsJoins$Items;" ∈ lw_tbl := pm_i1 (List.mem_of_getElem? (i := 192) rfl)
theorem pm_wf_73 : Cond.fieldLink RX6 76 "ViewsJoins$Items" "size" "I" ∈ lw_tbl := pm_i1 (List.mem_of_getElem? (i := 152) rfl)
theorem pm_wf_74 : Cond.fieldLink RX6 90 "ViewsJoins$Items" "values" "[J" ∈ lw_tbl := pm_i1 (List.mem_of_getElem? (i := 145) rfl)
theorem pm_wf_75 : Cond.fieldLink RX6 103 "ViewsJoins$Tests" "size" "I" ∈ lw_tbl := pm_i1 (List.mem_of_getElem? (i := 38) rfl)
theorem pm_wf_76 : Cond.fieldLink RX6 118 "ViewsJoins$Graph" "fixed" "Z" ∈ lw_tbl := pm_i1 (List.mem_of_getElem? (i := 225) rfl)
theorem pm_wf_77 : Cond.fieldLink RX6 127 "ViewsJoins$Graph" "failure" "I" ∈ lw_tbl := pm_i1 (List.mem_of_getElem? (i := 208) rfl)
theorem pm_wf_78 : Cond.fieldLink RX6 130 "ViewsJoins$Graph" "hiddenItems" "LViewsJoins$HiddenItems;" ∈ lw_tbl := pm_i1 (List.mem_of_getElem? (i := 205) rfl)
theorem pm_wf_79 : Cond.fieldLink RX6 134 "ViewsJoins$HiddenItems" "size" "I" ∈ lw_tbl := pm_i1 (List.mem_of_getElem? (i := 178) rfl)
theorem pm_wf_80 : Cond.fieldLink RX6 137 "ViewsJoins$Graph" "from" "[I" ∈ lw_tbl := pm_i1 (List.mem_of_getElem? (i := 198) rfl)
theorem pm_wf_81 : Cond.fieldLink RX6 141 "ViewsJoins$Graph" "to" "[I" ∈ lw_tbl := pm_i1 (List.mem_of_getElem? (i := 202) rfl)
theorem pm_wf_82 : Cond.fieldLink RX6 157 "ViewsJoins$HiddenItems" "whats" "[I" ∈ lw_tbl := pm_i1 (List.mem_of_getElem? (i := 171) rfl)
theorem pm_wf_83 : Cond.fieldLink RX6 160 "ViewsJoins$HiddenItems" "numbers" "[I" ∈ lw_tbl := pm_i1 (List.mem_of_getElem? (i := 173) rfl)
theorem pm_wf_84 : Cond.fieldLink RX6 163 "ViewsJoins$HiddenItems" "failures" "[I" ∈ lw_tbl := pm_i1 (List.mem_of_getElem? (i := 175) rfl)
theorem pm_wf_85 : Cond.fieldLink RX6 199 "ViewsJoins$Graph" "a" "LViewsJoins$Graph;" ∈ lw_tbl := pm_i1 (List.mem_of_getElem? (i := 214) rfl)
theorem pm_wf_86 : Cond.fieldLink RX6 203 "ViewsJoins$Graph" "b" "LViewsJoins$Graph;" ∈ lw_tbl := pm_i1 (List.mem_of_getElem? (i := 217) rfl)
theorem pm_wf_87 : Cond.fieldLink RX6 210 "ViewsJoins$Graph" "reckonedAt" "I" ∈ lw_tbl := pm_i1 (List.mem_of_getElem? (i := 227) rfl)
theorem pm_wf_88 : Cond.fieldLink RX7 7 "ViewsJoinsModel" "kind" "[I" ∈ lw_tbl := pm_i3 (List.mem_of_getElem? (i := 104) rfl)
theorem pm_wf_89 : Cond.fieldLink RX7 13 "ViewsJoinsModel" "byA" "[I" ∈ lw_tbl := pm_i3 (List.mem_of_getElem? (i := 105) rfl)
theorem pm_wf_90 : Cond.fieldLink RX7 16 "ViewsJoinsModel" "byB" "[I" ∈ lw_tbl := pm_i3 (List.mem_of_getElem? (i := 106) rfl)
theorem pm_wf_91 : Cond.fieldLink RX7 19 "ViewsJoinsModel" "byC" "[I" ∈ lw_tbl := pm_i3 (List.mem_of_getElem? (i := 107) rfl)
theorem pm_wf_92 : Cond.fieldLink RX7 22 "ViewsJoinsModel" "byD" "[I" ∈ lw_tbl := pm_i3 (List.mem_of_getElem? (i := 108) rfl)
theorem pm_wf_93 : Cond.fieldLink RX7 25 "ViewsJoinsModel" "isFixed" "[Z" ∈ lw_tbl := pm_i3 (List.mem_of_getElem? (i := 109) rfl)
theorem pm_wf_94 : Cond.fieldLink RX7 29 "ViewsJoinsModel" "broke" "[I" ∈ lw_tbl := pm_i3 (List.mem_of_getElem? (i := 110) rfl)
theorem pm_wf_95 : Cond.fieldLink RX7 32 "ViewsJoinsModel" "nodes" "[I" ∈ lw_tbl := pm_i3 (List.mem_of_getElem? (i := 111) rfl)
theorem pm_wf_96 : Cond.fieldLink RX7 35 "ViewsJoinsModel" "arcs" "[I" ∈ lw_tbl := pm_i3 (List.mem_of_getElem? (i := 112) rfl)
theorem pm_wf_97 : Cond.fieldLink RX7 38 "ViewsJoinsModel" "nodeValue" "[J" ∈ lw_tbl := pm_i3 (List.mem_of_getElem? (i := 113) rfl)
theorem pm_wf_98 : Cond.fieldLink RX7 42 "ViewsJoinsModel" "nodeUpA" "[I" ∈ lw_tbl := pm_i3 (List.mem_of_getElem? (i := 114) rfl)
theorem pm_wf_99 : Cond.fieldLink RX7 45 "ViewsJoinsModel" "nodeUpB" "[I" ∈ lw_tbl := pm_i3 (List.mem_of_getElem? (i := 115) rfl)
theorem pm_wf_100 : Cond.fieldLink RX7 48 "ViewsJoinsModel" "from" "[I" ∈ lw_tbl := pm_i3 (List.mem_of_getElem? (i := 116) rfl)
theorem pm_wf_101 : Cond.fieldLink RX7 51 "ViewsJoinsModel" "to" "[I" ∈ lw_tbl := pm_i3 (List.mem_of_getElem? (i := 117) rfl)
theorem pm_wf_102 : Cond.fieldLink RX7 54 "ViewsJoinsModel" "arcValue" "[J" ∈ lw_tbl := pm_i3 (List.mem_of_getElem? (i := 118) rfl)
theorem pm_wf_103 : Cond.fieldLink RX7 57 "ViewsJoinsModel" "arcUpA" "[I" ∈ lw_tbl := pm_i3 (List.mem_of_getElem? (i := 119) rfl)
theorem pm_wf_104 : Cond.fieldLink RX7 60 "ViewsJoinsModel" "arcUpB" "[I" ∈ lw_tbl := pm_i3 (List.mem_of_getElem? (i := 120) rfl)
theorem pm_wf_105 : Cond.fieldLink RX7 63 "ViewsJoinsModel" "hiddens" "[I" ∈ lw_tbl := pm_i3 (List.mem_of_getElem? (i := 121) rfl)
theorem pm_wf_106 : Cond.fieldLink RX7 66 "ViewsJoinsModel" "hiddenIs" "[I" ∈ lw_tbl := pm_i3 (List.mem_of_getElem? (i := 122) rfl)
theorem pm_wf_107 : Cond.fieldLink RX7 69 "ViewsJoinsModel" "hiddenBy" "[I" ∈ lw_tbl := pm_i3 (List.mem_of_getElem? (i := 123) rfl)
theorem pm_wf_108 : Cond.fieldLink RX7 72 "ViewsJoinsModel" "labels" "[I" ∈ lw_tbl := pm_i3 (List.mem_of_getElem? (i := 125) rfl)
theorem pm_wf_109 : Cond.fieldLink RX7 75 "ViewsJoinsModel" "testSort" "[I" ∈ lw_tbl := pm_i3 (List.mem_of_getElem? (i := 127) rfl)
theorem pm_wf_110 : Cond.fieldLink RX7 78 "ViewsJoinsModel" "testNumber" "[J" ∈ lw_tbl := pm_i3 (List.mem_of_getElem? (i := 128) rfl)
theorem pm_wf_111 : Cond.fieldLink RX7 81 "ViewsJoinsModel" "testT" "[I" ∈ lw_tbl := pm_i3 (List.mem_of_getElem? (i := 129) rfl)
theorem pm_wf_112 : Cond.fieldLink RX7 84 "ViewsJoinsModel" "testU" "[I" ∈ lw_tbl := pm_i3 (List.mem_of_getElem? (i := 130) rfl)
theorem pm_wf_113 : Cond.fieldLink RX7 87 "ViewsJoinsModel" "kept" "[I" ∈ lw_tbl := pm_i3 (List.mem_of_getElem? (i := 131) rfl)
theorem pm_wf_114 : Cond.fieldLink RX7 90 "ViewsJoinsModel" "numberOf" "[I" ∈ lw_tbl := pm_i3 (List.mem_of_getElem? (i := 137) rfl)
theorem pm_wf_115 : Cond.fieldLink RX7 93 "ViewsJoinsModel" "pileTest" "[I" ∈ lw_tbl := pm_i3 (List.mem_of_getElem? (i := 139) rfl)
theorem pm_wf_116 : Cond.fieldLink RX7 96 "ViewsJoinsModel" "pileWhat" "[I" ∈ lw_tbl := pm_i3 (List.mem_of_getElem? (i := 140) rfl)
theorem pm_wf_117 : Cond.fieldLink RX7 99 "ViewsJoinsModel" "pileItem" "[I" ∈ lw_tbl := pm_i3 (List.mem_of_getElem? (i := 141) rfl)
theorem pm_wf_118 : Cond.fieldLink RX7 102 "ViewsJoinsModel" "pileStage" "[I" ∈ lw_tbl := pm_i3 (List.mem_of_getElem? (i := 142) rfl)
theorem pm_wf_119 : Cond.fieldLink RX7 105 "ViewsJoinsModel" "pileArc" "[I" ∈ lw_tbl := pm_i3 (List.mem_of_getElem? (i := 143) rfl)
theorem pm_wf_120 : Cond.fieldLink RX7 108 "ViewsJoinsModel" "met" "[Z" ∈ lw_tbl := pm_i3 (List.mem_of_getElem? (i := 144) rfl)
theorem pm_wf_121 : Cond.fieldLink RX7 115 "ViewsJoinsModel" "graphs" "I" ∈ lw_tbl := pm_i3 (List.mem_of_getElem? (i := 103) rfl)
theorem pm_wf_122 : Cond.fieldLink RX7 127 "ViewsJoinsModel" "tests" "I" ∈ lw_tbl := pm_i3 (List.mem_of_getElem? (i := 126) rfl)
theorem pm_wf_123 : Cond.fieldLink RX7 132 "ViewsJoinsModel" "isReckoned" "Z" ∈ lw_tbl := pm_i3 (List.mem_of_getElem? (i := 124) rfl)
theorem pm_wf_124 : Cond.fieldLink RX7 192 "ViewsJoinsModel" "steps" "I" ∈ lw_tbl := pm_i3 (List.mem_of_getElem? (i := 132) rfl)
theorem pm_wf_125 : Cond.fieldLink RX7 195 "ViewsJoinsModel" "failures" "I" ∈ lw_tbl := pm_i3 (List.mem_of_getElem? (i := 133) rfl)
theorem pm_wf_126 : Cond.fieldLink RX7 218 "ViewsJoinsModel" "total" "J" ∈ lw_tbl := pm_i3 (List.mem_of_getElem? (i := 136) rfl)
theorem pm_wf_127 : Cond.fieldLink RX7 222 "ViewsJoinsModel" "came" "I" ∈ lw_tbl := pm_i3 (List.mem_of_getElem? (i := 134) rfl)
theorem pm_wf_128 : Cond.fieldLink RX7 225 "ViewsJoinsModel" "first" "I" ∈ lw_tbl := pm_i3 (List.mem_of_getElem? (i := 135) rfl)
theorem pm_wf_129 : Cond.fieldLink RX7 235 "ViewsJoinsModel" "top" "I" ∈ lw_tbl := pm_i3 (List.mem_of_getElem? (i := 138) rfl)
set_option maxRecDepth 100000 in
theorem pm_wf_all : ∀ q ∈ pm_fl, pm_fw q ∈ lw_tbl := (List.forall_mem_cons.mpr ⟨pm_wf_0, (List.forall_mem_cons.mpr ⟨pm_wf_1, (List.forall_mem_cons.mpr ⟨pm_wf_2, (List.forall_mem_cons.mpr ⟨pm_wf_3, (List.forall_mem_cons.mpr ⟨pm_wf_4, (List.forall_mem_cons.mpr ⟨pm_wf_5, (List.forall_mem_cons.mpr ⟨pm_wf_6, (List.forall_mem_cons.mpr ⟨pm_wf_7, (List.forall_mem_cons.mpr ⟨pm_wf_8, (List.forall_mem_cons.mpr ⟨pm_wf_9, (List.forall_mem_cons.mpr ⟨pm_wf_10, (List.forall_mem_cons.mpr ⟨pm_wf_11, (List.forall_mem_cons.mpr ⟨pm_wf_12, (List.forall_mem_cons.mpr ⟨pm_wf_13, (List.forall_mem_cons.mpr ⟨pm_wf_14, (List.forall_mem_cons.mpr ⟨pm_wf_15, (List.forall_mem_cons.mpr ⟨pm_wf_16, (List.forall_mem_cons.mpr ⟨pm_wf_17, (List.forall_mem_cons.mpr ⟨pm_wf_18, (List.forall_mem_cons.mpr ⟨pm_wf_19, (List.forall_mem_cons.mpr ⟨pm_wf_20, (List.forall_mem_cons.mpr ⟨pm_wf_21, (List.forall_mem_cons.mpr ⟨pm_wf_22, (List.forall_mem_cons.mpr ⟨pm_wf_23, (List.forall_mem_cons.mpr ⟨pm_wf_24, (List.forall_mem_cons.mpr ⟨pm_wf_25, (List.forall_mem_cons.mpr ⟨pm_wf_26, (List.forall_mem_cons.mpr ⟨pm_wf_27, (List.forall_mem_cons.mpr ⟨pm_wf_28, (List.forall_mem_cons.mpr ⟨pm_wf_29, (List.forall_mem_cons.mpr ⟨pm_wf_30, (List.forall_mem_cons.mpr ⟨pm_wf_31, (List.forall_mem_cons.mpr ⟨pm_wf_32, (List.forall_mem_cons.mpr ⟨pm_wf_33, (List.forall_mem_cons.mpr ⟨pm_wf_34, (List.forall_mem_cons.mpr ⟨pm_wf_35, (List.forall_mem_cons.mpr ⟨pm_wf_36, (List.forall_mem_cons.mpr ⟨pm_wf_37, (List.forall_mem_cons.mpr ⟨pm_wf_38, (List.forall_mem_cons.mpr ⟨pm_wf_39, (List.forall_mem_cons.mpr ⟨pm_wf_40, (List.forall_mem_cons.mpr ⟨pm_wf_41, (List.forall_mem_cons.mpr ⟨pm_wf_42, (List.forall_mem_cons.mpr ⟨pm_wf_43, (List.forall_mem_cons.mpr ⟨pm_wf_44, (List.forall_mem_cons.mpr ⟨pm_wf_45, (List.forall_mem_cons.mpr ⟨pm_wf_46, (List.forall_mem_cons.mpr ⟨pm_wf_47, (List.forall_mem_cons.mpr ⟨pm_wf_48, (List.forall_mem_cons.mpr ⟨pm_wf_49, (List.forall_mem_cons.mpr ⟨pm_wf_50, (List.forall_mem_cons.mpr ⟨pm_wf_51, (List.forall_mem_cons.mpr ⟨pm_wf_52, (List.forall_mem_cons.mpr ⟨pm_wf_53, (List.forall_mem_cons.mpr ⟨pm_wf_54, (List.forall_mem_cons.mpr ⟨pm_wf_55, (List.forall_mem_cons.mpr ⟨pm_wf_56, (List.forall_mem_cons.mpr ⟨pm_wf_57, (List.forall_mem_cons.mpr ⟨pm_wf_58, (List.forall_mem_cons.mpr ⟨pm_wf_59, (List.forall_mem_cons.mpr ⟨pm_wf_60, (List.forall_mem_cons.mpr ⟨pm_wf_61, (List.forall_mem_cons.mpr ⟨pm_wf_62, (List.forall_mem_cons.mpr ⟨pm_wf_63, (List.forall_mem_cons.mpr ⟨pm_wf_64, (List.forall_mem_cons.mpr ⟨pm_wf_65, (List.forall_mem_cons.mpr ⟨pm_wf_66, (List.forall_mem_cons.mpr ⟨pm_wf_67, (List.forall_mem_cons.mpr ⟨pm_wf_68, (List.forall_mem_cons.mpr ⟨pm_wf_69, (List.forall_mem_cons.mpr ⟨pm_wf_70, (List.forall_mem_cons.mpr ⟨pm_wf_71, (List.forall_mem_cons.mpr ⟨pm_wf_72, (List.forall_mem_cons.mpr ⟨pm_wf_73, (List.forall_mem_cons.mpr ⟨pm_wf_74, (List.forall_mem_cons.mpr ⟨pm_wf_75, (List.forall_mem_cons.mpr ⟨pm_wf_76, (List.forall_mem_cons.mpr ⟨pm_wf_77, (List.forall_mem_cons.mpr ⟨pm_wf_78, (List.forall_mem_cons.mpr ⟨pm_wf_79, (List.forall_mem_cons.mpr ⟨pm_wf_80, (List.forall_mem_cons.mpr ⟨pm_wf_81, (List.forall_mem_cons.mpr ⟨pm_wf_82, (List.forall_mem_cons.mpr ⟨pm_wf_83, (List.forall_mem_cons.mpr ⟨pm_wf_84, (List.forall_mem_cons.mpr ⟨pm_wf_85, (List.forall_mem_cons.mpr ⟨pm_wf_86, (List.forall_mem_cons.mpr ⟨pm_wf_87, (List.forall_mem_cons.mpr ⟨pm_wf_88, (List.forall_mem_cons.mpr ⟨pm_wf_89, (List.forall_mem_cons.mpr ⟨pm_wf_90, (List.forall_mem_cons.mpr ⟨pm_wf_91, (List.forall_mem_cons.mpr ⟨pm_wf_92, (List.forall_mem_cons.mpr ⟨pm_wf_93, (List.forall_mem_cons.mpr ⟨pm_wf_94, (List.forall_mem_cons.mpr ⟨pm_wf_95, (List.forall_mem_cons.mpr ⟨pm_wf_96, (List.forall_mem_cons.mpr ⟨pm_wf_97, (List.forall_mem_cons.mpr ⟨pm_wf_98, (List.forall_mem_cons.mpr ⟨pm_wf_99, (List.forall_mem_cons.mpr ⟨pm_wf_100, (List.forall_mem_cons.mpr ⟨pm_wf_101, (List.forall_mem_cons.mpr ⟨pm_wf_102, (List.forall_mem_cons.mpr ⟨pm_wf_103, (List.forall_mem_cons.mpr ⟨pm_wf_104, (List.forall_mem_cons.mpr ⟨pm_wf_105, (List.forall_mem_cons.mpr ⟨pm_wf_106, (List.forall_mem_cons.mpr ⟨pm_wf_107, (List.forall_mem_cons.mpr ⟨pm_wf_108, (List.forall_mem_cons.mpr ⟨pm_wf_109, (List.forall_mem_cons.mpr ⟨pm_wf_110, (List.forall_mem_cons.mpr ⟨pm_wf_111, (List.forall_mem_cons.mpr ⟨pm_wf_112, (List.forall_mem_cons.mpr ⟨pm_wf_113, (List.forall_mem_cons.mpr ⟨pm_wf_114, (List.forall_mem_cons.mpr ⟨pm_wf_115, (List.forall_mem_cons.mpr ⟨pm_wf_116, (List.forall_mem_cons.mpr ⟨pm_wf_117, (List.forall_mem_cons.mpr ⟨pm_wf_118, (List.forall_mem_cons.mpr ⟨pm_wf_119, (List.forall_mem_cons.mpr ⟨pm_wf_120, (List.forall_mem_cons.mpr ⟨pm_wf_121, (List.forall_mem_cons.mpr ⟨pm_wf_122, (List.forall_mem_cons.mpr ⟨pm_wf_123, (List.forall_mem_cons.mpr ⟨pm_wf_124, (List.forall_mem_cons.mpr ⟨pm_wf_125, (List.forall_mem_cons.mpr ⟨pm_wf_126, (List.forall_mem_cons.mpr ⟨pm_wf_127, (List.forall_mem_cons.mpr ⟨pm_wf_128, (List.forall_mem_cons.mpr ⟨pm_wf_129, (fun _ h => absurd h List.not_mem_nil)⟩)⟩)⟩)⟩)⟩)⟩)⟩)⟩)⟩)⟩)⟩)⟩)⟩)⟩)⟩)⟩)⟩)⟩)⟩)⟩)⟩)⟩)⟩)⟩)⟩)⟩)⟩)⟩)⟩)⟩)⟩)⟩)⟩)⟩)⟩)⟩)⟩)⟩)⟩)⟩)⟩)⟩)⟩)⟩)⟩)⟩)⟩)⟩)⟩)⟩)⟩)⟩)⟩)⟩)⟩)⟩)⟩)⟩)⟩)⟩)⟩)⟩)⟩)⟩)⟩)⟩)⟩)⟩)⟩)⟩)⟩)⟩)⟩)⟩)⟩)⟩)⟩)⟩)⟩)⟩)⟩)⟩)⟩)⟩)⟩)⟩)⟩)⟩)⟩)⟩)⟩)⟩)⟩)⟩)⟩)⟩)⟩)⟩)⟩)⟩)⟩)⟩)⟩)⟩)⟩)⟩)⟩)⟩)⟩)⟩)⟩)⟩)⟩)⟩)⟩)⟩)⟩)⟩)⟩)⟩)⟩)⟩)⟩)⟩)⟩)⟩)⟩)⟩)⟩)⟩)
def pm_nw (q : Nat × Nat) : Cond := .methodLinkNest (pm_nm (q.1 / 1000)) (q.1 % 1000) (pm_y q.2) RX6
theorem pm_wn_0 : Cond.methodLinkNest RX0 32 yX2_init "ViewsJoins" ∈ lw_tbl := pm_i1 (List.mem_of_getElem? (i := 166) rfl)
theorem pm_wn_1 : Cond.methodLinkNest RX4 11 yX5_init "ViewsJoins" ∈ lw_tbl := pm_i1 (List.mem_of_getElem? (i := 29) rfl)
theorem pm_wn_2 : Cond.methodLinkNest RX4 25 yX1_init "ViewsJoins" ∈ lw_tbl := pm_i1 (List.mem_of_getElem? (i := 62) rfl)
theorem pm_wn_3 : Cond.methodLinkNest RX4 108 yX5_say "ViewsJoins" ∈ lw_tbl := pm_i2 (List.mem_of_getElem? (i := 136) rfl)
theorem pm_wn_4 : Cond.methodLinkNest RX6 17 yX4_init "ViewsJoins" ∈ lw_tbl := pm_i1 (List.mem_of_getElem? (i := 23) rfl)
theorem pm_wn_5 : Cond.methodLinkNest RX6 177 yX5_say "ViewsJoins" ∈ lw_tbl := pm_i3 (List.mem_of_getElem? (i := 80) rfl)
theorem pm_wn_6 : Cond.methodLinkNest RX6 185 yX0_init "ViewsJoins" ∈ lw_tbl := pm_i1 (List.mem_of_getElem? (i := 130) rfl)
set_option maxRecDepth 100000 in
theorem pm_wn_all : ∀ q ∈ pm_nl, pm_nw q ∈ lw_tbl := (List.forall_mem_cons.mpr ⟨pm_wn_0, (List.forall_mem_cons.mpr ⟨pm_wn_1, (List.forall_mem_cons.mpr ⟨pm_wn_2, (List.forall_mem_cons.mpr ⟨pm_wn_3, (List.forall_mem_cons.mpr ⟨pm_wn_4, (List.forall_mem_cons.mpr ⟨pm_wn_5, (List.forall_mem_cons.mpr ⟨pm_wn_6, (fun _ h => absurd h List.not_mem_nil)⟩)⟩)⟩)⟩)⟩)⟩)⟩)
theorem pm_wo_0 : Cond.methodLink RX0 3 Lib.objectInit ∈ lw_tbl := pm_i1 (List.mem_of_getElem? (i := 133) rfl)
theorem pm_wo_1 : Cond.methodLink RX1 3 Lib.objectInit ∈ lw_tbl := pm_i1 (List.mem_of_getElem? (i := 65) rfl)
theorem pm_wo_2 : Cond.methodLink RX2 3 Lib.objectInit ∈ lw_tbl := pm_i1 (List.mem_of_getElem? (i := 169) rfl)
theorem pm_wo_3 : Cond.methodLink RX3 3 Lib.objectInit ∈ lw_tbl := pm_i1 (List.mem_of_getElem? (i := 139) rfl)
theorem pm_wo_4 : Cond.methodLink RX4 3 Lib.objectInit ∈ lw_tbl := pm_i1 (List.mem_of_getElem? (i := 26) rfl)
theorem pm_wo_5 : Cond.methodLink RX5 3 Lib.objectInit ∈ lw_tbl := pm_i1 (List.mem_of_getElem? (i := 32) rfl)
theorem pm_wo_6 : Cond.methodLink RX6 1 Lib.objectInit ∈ lw_tbl := pm_i1 (List.mem_of_getElem? (i := 16) rfl)
theorem pm_wo_7 : Cond.methodLink RX7 1 Lib.objectInit ∈ lw_tbl := pm_i3 (List.mem_of_getElem? (i := 98) rfl)
set_option maxRecDepth 100000 in
theorem pm_wo_all : ∀ q ∈ pm_mo, Cond.methodLink (pm_nm (q / 1000)) (q % 1000) Lib.objectInit ∈ lw_tbl := (List.forall_mem_cons.mpr ⟨pm_wo_0, (List.forall_mem_cons.mpr ⟨pm_wo_1, (List.forall_mem_cons.mpr ⟨pm_wo_2, (List.forall_mem_cons.mpr ⟨pm_wo_3, (List.forall_mem_cons.mpr ⟨pm_wo_4, (List.forall_mem_cons.mpr ⟨pm_wo_5, (List.forall_mem_cons.mpr ⟨pm_wo_6, (List.forall_mem_cons.mpr ⟨pm_wo_7, (fun _ h => absurd h List.not_mem_nil)⟩)⟩)⟩)⟩)⟩)⟩)⟩)⟩)
theorem pm_wc_0 : Cond.classLink RL 7 RX6 ∈ lw_tbl := pm_i1 (List.mem_of_getElem? (i := 11) rfl)
theorem pm_wc_1 : Cond.classLink RX6 9 RX0 ∈ lw_tbl := pm_i1 (List.mem_of_getElem? (i := 19) rfl)
theorem pm_wc_2 : Cond.classLink RX6 15 RX4 ∈ lw_tbl := pm_i1 (List.mem_of_getElem? (i := 21) rfl)
theorem pm_wc_3 : Cond.classLink RX4 9 RX5 ∈ lw_tbl := pm_i1 (List.mem_of_getElem? (i := 27) rfl)
theorem pm_wc_4 : Cond.classLink RX4 23 RX1 ∈ lw_tbl := pm_i1 (List.mem_of_getElem? (i := 60) rfl)
theorem pm_wc_5 : Cond.classLink RX0 9 RX3 ∈ lw_tbl := pm_i1 (List.mem_of_getElem? (i := 134) rfl)
theorem pm_wc_6 : Cond.classLink RX0 30 RX2 ∈ lw_tbl := pm_i1 (List.mem_of_getElem? (i := 164) rfl)
theorem pm_wc_7 : Cond.classLink RL 10 RX7 ∈ lw_tbl := pm_i3 (List.mem_of_getElem? (i := 93) rfl)
set_option maxRecDepth 100000 in
theorem pm_wc_all : ∀ q ∈ pm_lc, Cond.classLink (pm_nm (q.1 / 1000)) (q.1 % 1000) (pm_clq q.2).1 ∈ lw_tbl := (List.forall_mem_cons.mpr ⟨pm_wc_0, (List.forall_mem_cons.mpr ⟨pm_wc_1, (List.forall_mem_cons.mpr ⟨pm_wc_2, (List.forall_mem_cons.mpr ⟨pm_wc_3, (List.forall_mem_cons.mpr ⟨pm_wc_4, (List.forall_mem_cons.mpr ⟨pm_wc_5, (List.forall_mem_cons.mpr ⟨pm_wc_6, (List.forall_mem_cons.mpr ⟨pm_wc_7, (fun _ h => absurd h List.not_mem_nil)⟩)⟩)⟩)⟩)⟩)⟩)⟩)⟩)
theorem pm_wk_0 : Cond.constant RX6 42 (-1000001) ∈ lw_tbl := pm_i1 (List.mem_of_getElem? (i := 124) rfl)
theorem pm_wk_1 : Cond.constant RX6 47 (-1000002) ∈ lw_tbl := pm_i2 (List.mem_of_getElem? (i := 17) rfl)
theorem pm_wk_2 : Cond.constant RX6 126 (-1000003) ∈ lw_tbl := pm_i3 (List.mem_of_getElem? (i := 16) rfl)
theorem pm_wk_3 : Cond.constant RX6 152 (-1000004) ∈ lw_tbl := pm_i3 (List.mem_of_getElem? (i := 39) rfl)
theorem pm_wk_4 : Cond.constant RX7 130 (-1000001) ∈ lw_tbl := pm_i3 (List.mem_of_getElem? (i := 238) rfl)
theorem pm_wk_5 : Cond.constant RX7 131 (-1000002) ∈ lw_tbl := pm_i3 (List.mem_of_getElem? (i := 239) rfl)
theorem pm_wk_6 : Cond.constant RX7 139 (-1000004) ∈ lw_tbl := pm_i4 (List.mem_of_getElem? (i := 12) rfl)
theorem pm_wk_7 : Cond.constant RX7 267 (-1000003) ∈ lw_tbl := pm_i4 (List.mem_of_getElem? (i := 161) rfl)
set_option maxRecDepth 100000 in
theorem pm_wk_all : ∀ q ∈ pm_kc, Cond.constant (pm_nm (q.1 / 1000)) (q.1 % 1000) q.2 ∈ lw_tbl := (List.forall_mem_cons.mpr ⟨pm_wk_0, (List.forall_mem_cons.mpr ⟨pm_wk_1, (List.forall_mem_cons.mpr ⟨pm_wk_2, (List.forall_mem_cons.mpr ⟨pm_wk_3, (List.forall_mem_cons.mpr ⟨pm_wk_4, (List.forall_mem_cons.mpr ⟨pm_wk_5, (List.forall_mem_cons.mpr ⟨pm_wk_6, (List.forall_mem_cons.mpr ⟨pm_wk_7, (fun _ h => absurd h List.not_mem_nil)⟩)⟩)⟩)⟩)⟩)⟩)⟩)⟩)
theorem pm_wl_0 : Cond.constantLong RX6 144 (-1000001) ∈ lw_tbl := pm_i3 (List.mem_of_getElem? (i := 29) rfl)
theorem pm_wl_1 : Cond.constantLong RX6 146 (-1000003) ∈ lw_tbl := pm_i3 (List.mem_of_getElem? (i := 30) rfl)
theorem pm_wl_2 : Cond.constantLong RJ13 314 (6148914691236517205) ∈ lw_tbl := pm_i3 (List.mem_of_getElem? (i := 72) rfl)
theorem pm_wl_3 : Cond.constantLong RJ13 316 (3689348814741910323) ∈ lw_tbl := pm_i3 (List.mem_of_getElem? (i := 73) rfl)
theorem pm_wl_4 : Cond.constantLong RJ13 318 (1085102592571150095) ∈ lw_tbl := pm_i3 (List.mem_of_getElem? (i := 74) rfl)
theorem pm_wl_5 : Cond.constantLong RX7 268 (-1000001) ∈ lw_tbl := pm_i4 (List.mem_of_getElem? (i := 174) rfl)
theorem pm_wl_6 : Cond.constantLong RX7 270 (-1000003) ∈ lw_tbl := pm_i4 (List.mem_of_getElem? (i := 175) rfl)
theorem pm_wl_7 : Cond.constantLong RL 18 (4294967295) ∈ lw_tbl := pm_i4 (List.mem_of_getElem? (i := 213) rfl)
set_option maxRecDepth 100000 in
theorem pm_wl_all : ∀ q ∈ pm_kl, Cond.constantLong (pm_nm (q.1 / 1000)) (q.1 % 1000) q.2 ∈ lw_tbl := (List.forall_mem_cons.mpr ⟨pm_wl_0, (List.forall_mem_cons.mpr ⟨pm_wl_1, (List.forall_mem_cons.mpr ⟨pm_wl_2, (List.forall_mem_cons.mpr ⟨pm_wl_3, (List.forall_mem_cons.mpr ⟨pm_wl_4, (List.forall_mem_cons.mpr ⟨pm_wl_5, (List.forall_mem_cons.mpr ⟨pm_wl_6, (List.forall_mem_cons.mpr ⟨pm_wl_7, (fun _ h => absurd h List.not_mem_nil)⟩)⟩)⟩)⟩)⟩)⟩)⟩)⟩)
theorem pm_oi : Cond.instanceMethod Lib.objectInit ∈ lw_tbl ∧ Cond.code Lib.objectInit ⟨#[0xb1]⟩ 1 none ∈ lw_tbl := ⟨pm_i1 (List.mem_of_getElem? (i := 17) rfl), pm_i1 (List.mem_of_getElem? (i := 18) rfl)⟩
theorem pm_ac_int : Cond.arrayClass .int ∈ lw_tbl := pm_i1 (List.mem_of_getElem? (i := 56) rfl)
theorem pm_ac_long : Cond.arrayClass .long ∈ lw_tbl := pm_i1 (List.mem_of_getElem? (i := 57) rfl)
theorem pm_ac_boolean : Cond.arrayClass .boolean ∈ lw_tbl := pm_i3 (List.mem_of_getElem? (i := 230) rfl)
theorem pm_ao_q : Cond.arrayOver (.object RX0) ∈ lw_tbl := pm_i1 (List.mem_of_getElem? (i := 20) rfl)
theorem pm_ao_r : Cond.arrayOver (.array .int) ∈ lw_tbl := pm_i1 (List.mem_of_getElem? (i := 59) rfl)
theorem pm_wmul : Cond.classLink (pm_nm (pm_mul / 1000)) (pm_mul % 1000) "[[I" ∈ lw_tbl := pm_i1 (List.mem_of_getElem? (i := 58) rfl)
theorem pm_u0_0 : u_lay RX0 TX0 0 ∈ lw_tbl := pm_i1 (List.mem_of_getElem? (i := 228) rfl)
theorem pm_u0_1 : u_lay RX0 TX0 1 ∈ lw_tbl := pm_i1 (List.mem_of_getElem? (i := 230) rfl)
theorem pm_u0_2 : u_lay RX0 TX0 2 ∈ lw_tbl := pm_i1 (List.mem_of_getElem? (i := 232) rfl)
theorem pm_u0_3 : u_lay RX0 TX0 3 ∈ lw_tbl := pm_i1 (List.mem_of_getElem? (i := 234) rfl)
theorem pm_u0_4 : u_lay RX0 TX0 4 ∈ lw_tbl := pm_i1 (List.mem_of_getElem? (i := 236) rfl)
theorem pm_u0_5 : u_lay RX0 TX0 5 ∈ lw_tbl := pm_i1 (List.mem_of_getElem? (i := 238) rfl)
theorem pm_u0_6 : u_lay RX0 TX0 6 ∈ lw_tbl := pm_i2 (List.mem_of_getElem? (i := 0) rfl)
theorem pm_u0_7 : u_lay RX0 TX0 7 ∈ lw_tbl := pm_i2 (List.mem_of_getElem? (i := 2) rfl)
theorem pm_u0_8 : u_lay RX0 TX0 8 ∈ lw_tbl := pm_i2 (List.mem_of_getElem? (i := 4) rfl)
theorem pm_u0_9 : u_lay RX0 TX0 9 ∈ lw_tbl := pm_i2 (List.mem_of_getElem? (i := 6) rfl)
theorem pm_u0_10 : u_lay RX0 TX0 10 ∈ lw_tbl := pm_i2 (List.mem_of_getElem? (i := 8) rfl)
theorem pm_u0_11 : u_lay RX0 TX0 11 ∈ lw_tbl := pm_i2 (List.mem_of_getElem? (i := 10) rfl)
theorem pm_u0_12 : u_lay RX0 TX0 12 ∈ lw_tbl := pm_i2 (List.mem_of_getElem? (i := 12) rfl)
theorem pm_u0_13 : u_lay RX0 TX0 13 ∈ lw_tbl := pm_i2 (List.mem_of_getElem? (i := 14) rfl)
theorem pm_uw0 : ∀ w ∈ u_ws RX0 TX0 14, w ∈ lw_tbl := (List.forall_mem_cons.mpr ⟨pm_u0_0, (List.forall_mem_cons.mpr ⟨pm_u0_1, (List.forall_mem_cons.mpr ⟨pm_u0_2, (List.forall_mem_cons.mpr ⟨pm_u0_3, (List.forall_mem_cons.mpr ⟨pm_u0_4, (List.forall_mem_cons.mpr ⟨pm_u0_5, (List.forall_mem_cons.mpr ⟨pm_u0_6, (List.forall_mem_cons.mpr ⟨pm_u0_7, (List.forall_mem_cons.mpr ⟨pm_u0_8, (List.forall_mem_cons.mpr ⟨pm_u0_9, (List.forall_mem_cons.mpr ⟨pm_u0_10, (List.forall_mem_cons.mpr ⟨pm_u0_11, (List.forall_mem_cons.mpr ⟨pm_u0_12, (List.forall_mem_cons.mpr ⟨pm_u0_13, (fun _ h => absurd h List.not_mem_nil)⟩)⟩)⟩)⟩)⟩)⟩)⟩)⟩)⟩)⟩)⟩)⟩)⟩)⟩)
theorem pm_u1_0 : u_lay RX1 TX1 0 ∈ lw_tbl := pm_i1 (List.mem_of_getElem? (i := 72) rfl)
theorem pm_u1_1 : u_lay RX1 TX1 1 ∈ lw_tbl := pm_i1 (List.mem_of_getElem? (i := 74) rfl)
theorem pm_u1_2 : u_lay RX1 TX1 2 ∈ lw_tbl := pm_i1 (List.mem_of_getElem? (i := 76) rfl)
theorem pm_uw1 : ∀ w ∈ u_ws RX1 TX1 3, w ∈ lw_tbl := (List.forall_mem_cons.mpr ⟨pm_u1_0, (List.forall_mem_cons.mpr ⟨pm_u1_1, (List.forall_mem_cons.mpr ⟨pm_u1_2, (fun _ h => absurd h List.not_mem_nil)⟩)⟩)⟩)
theorem pm_u2_0 : u_lay RX2 TX2 0 ∈ lw_tbl := pm_i1 (List.mem_of_getElem? (i := 179) rfl)
theorem pm_u2_1 : u_lay RX2 TX2 1 ∈ lw_tbl := pm_i1 (List.mem_of_getElem? (i := 181) rfl)
theorem pm_u2_2 : u_lay RX2 TX2 2 ∈ lw_tbl := pm_i1 (List.mem_of_getElem? (i := 183) rfl)
theorem pm_u2_3 : u_lay RX2 TX2 3 ∈ lw_tbl := pm_i1 (List.mem_of_getElem? (i := 185) rfl)
theorem pm_uw2 : ∀ w ∈ u_ws RX2 TX2 4, w ∈ lw_tbl := (List.forall_mem_cons.mpr ⟨pm_u2_0, (List.forall_mem_cons.mpr ⟨pm_u2_1, (List.forall_mem_cons.mpr ⟨pm_u2_2, (List.forall_mem_cons.mpr ⟨pm_u2_3, (fun _ h => absurd h List.not_mem_nil)⟩)⟩)⟩)⟩)
theorem pm_u3_0 : u_lay RX3 TX3 0 ∈ lw_tbl := pm_i1 (List.mem_of_getElem? (i := 155) rfl)
theorem pm_u3_1 : u_lay RX3 TX3 1 ∈ lw_tbl := pm_i1 (List.mem_of_getElem? (i := 157) rfl)
theorem pm_u3_2 : u_lay RX3 TX3 2 ∈ lw_tbl := pm_i1 (List.mem_of_getElem? (i := 159) rfl)
theorem pm_u3_3 : u_lay RX3 TX3 3 ∈ lw_tbl := pm_i1 (List.mem_of_getElem? (i := 161) rfl)
theorem pm_uw3 : ∀ w ∈ u_ws RX3 TX3 4, w ∈ lw_tbl := (List.forall_mem_cons.mpr ⟨pm_u3_0, (List.forall_mem_cons.mpr ⟨pm_u3_1, (List.forall_mem_cons.mpr ⟨pm_u3_2, (List.forall_mem_cons.mpr ⟨pm_u3_3, (fun _ h => absurd h List.not_mem_nil)⟩)⟩)⟩)⟩)
theorem pm_u4_0 : u_lay RX4 TX4 0 ∈ lw_tbl := pm_i1 (List.mem_of_getElem? (i := 86) rfl)
theorem pm_u4_1 : u_lay RX4 TX4 1 ∈ lw_tbl := pm_i1 (List.mem_of_getElem? (i := 88) rfl)
theorem pm_u4_2 : u_lay RX4 TX4 2 ∈ lw_tbl := pm_i1 (List.mem_of_getElem? (i := 90) rfl)
theorem pm_u4_3 : u_lay RX4 TX4 3 ∈ lw_tbl := pm_i1 (List.mem_of_getElem? (i := 92) rfl)
theorem pm_u4_4 : u_lay RX4 TX4 4 ∈ lw_tbl := pm_i1 (List.mem_of_getElem? (i := 94) rfl)
theorem pm_uw4 : ∀ w ∈ u_ws RX4 TX4 5, w ∈ lw_tbl := (List.forall_mem_cons.mpr ⟨pm_u4_0, (List.forall_mem_cons.mpr ⟨pm_u4_1, (List.forall_mem_cons.mpr ⟨pm_u4_2, (List.forall_mem_cons.mpr ⟨pm_u4_3, (List.forall_mem_cons.mpr ⟨pm_u4_4, (fun _ h => absurd h List.not_mem_nil)⟩)⟩)⟩)⟩)⟩)
theorem pm_u5_0 : u_lay RX5 TX5 0 ∈ lw_tbl := pm_i1 (List.mem_of_getElem? (i := 41) rfl)
theorem pm_u5_1 : u_lay RX5 TX5 1 ∈ lw_tbl := pm_i1 (List.mem_of_getElem? (i := 43) rfl)
theorem pm_u5_2 : u_lay RX5 TX5 2 ∈ lw_tbl := pm_i1 (List.mem_of_getElem? (i := 45) rfl)
theorem pm_u5_3 : u_lay RX5 TX5 3 ∈ lw_tbl := pm_i1 (List.mem_of_getElem? (i := 47) rfl)
theorem pm_u5_4 : u_lay RX5 TX5 4 ∈ lw_tbl := pm_i1 (List.mem_of_getElem? (i := 49) rfl)
theorem pm_u5_5 : u_lay RX5 TX5 5 ∈ lw_tbl := pm_i1 (List.mem_of_getElem? (i := 51) rfl)
theorem pm_u5_6 : u_lay RX5 TX5 6 ∈ lw_tbl := pm_i1 (List.mem_of_getElem? (i := 53) rfl)
theorem pm_uw5 : ∀ w ∈ u_ws RX5 TX5 7, w ∈ lw_tbl := (List.forall_mem_cons.mpr ⟨pm_u5_0, (List.forall_mem_cons.mpr ⟨pm_u5_1, (List.forall_mem_cons.mpr ⟨pm_u5_2, (List.forall_mem_cons.mpr ⟨pm_u5_3, (List.forall_mem_cons.mpr ⟨pm_u5_4, (List.forall_mem_cons.mpr ⟨pm_u5_5, (List.forall_mem_cons.mpr ⟨pm_u5_6, (fun _ h => absurd h List.not_mem_nil)⟩)⟩)⟩)⟩)⟩)⟩)⟩)
theorem pm_u6_0 : u_lay RX6 TX6 0 ∈ lw_tbl := pm_i1 (List.mem_of_getElem? (i := 107) rfl)
theorem pm_u6_1 : u_lay RX6 TX6 1 ∈ lw_tbl := pm_i1 (List.mem_of_getElem? (i := 109) rfl)
theorem pm_u6_2 : u_lay RX6 TX6 2 ∈ lw_tbl := pm_i1 (List.mem_of_getElem? (i := 111) rfl)
theorem pm_u6_3 : u_lay RX6 TX6 3 ∈ lw_tbl := pm_i1 (List.mem_of_getElem? (i := 113) rfl)
theorem pm_u6_4 : u_lay RX6 TX6 4 ∈ lw_tbl := pm_i1 (List.mem_of_getElem? (i := 115) rfl)
theorem pm_u6_5 : u_lay RX6 TX6 5 ∈ lw_tbl := pm_i1 (List.mem_of_getElem? (i := 117) rfl)
theorem pm_uw6 : ∀ w ∈ u_ws RX6 TX6 6, w ∈ lw_tbl := (List.forall_mem_cons.mpr ⟨pm_u6_0, (List.forall_mem_cons.mpr ⟨pm_u6_1, (List.forall_mem_cons.mpr ⟨pm_u6_2, (List.forall_mem_cons.mpr ⟨pm_u6_3, (List.forall_mem_cons.mpr ⟨pm_u6_4, (List.forall_mem_cons.mpr ⟨pm_u6_5, (fun _ h => absurd h List.not_mem_nil)⟩)⟩)⟩)⟩)⟩)⟩)
theorem pm_u7_0 : u_lay RX7 TX7 0 ∈ lw_tbl := pm_i3 (List.mem_of_getElem? (i := 145) rfl)
theorem pm_u7_1 : u_lay RX7 TX7 1 ∈ lw_tbl := pm_i3 (List.mem_of_getElem? (i := 147) rfl)
theorem pm_u7_2 : u_lay RX7 TX7 2 ∈ lw_tbl := pm_i3 (List.mem_of_getElem? (i := 149) rfl)
theorem pm_u7_3 : u_lay RX7 TX7 3 ∈ lw_tbl := pm_i3 (List.mem_of_getElem? (i := 151) rfl)
theorem pm_u7_4 : u_lay RX7 TX7 4 ∈ lw_tbl := pm_i3 (List.mem_of_getElem? (i := 153) rfl)
theorem pm_u7_5 : u_lay RX7 TX7 5 ∈ lw_tbl := pm_i3 (List.mem_of_getElem? (i := 155) rfl)
theorem pm_u7_6 : u_lay RX7 TX7 6 ∈ lw_tbl := pm_i3 (List.mem_of_getElem? (i := 157) rfl)
theorem pm_u7_7 : u_lay RX7 TX7 7 ∈ lw_tbl := pm_i3 (List.mem_of_getElem? (i := 159) rfl)
theorem pm_u7_8 : u_lay RX7 TX7 8 ∈ lw_tbl := pm_i3 (List.mem_of_getElem? (i := 161) rfl)
theorem pm_u7_9 : u_lay RX7 TX7 9 ∈ lw_tbl := pm_i3 (List.mem_of_getElem? (i := 163) rfl)
theorem pm_u7_10 : u_lay RX7 TX7 10 ∈ lw_tbl := pm_i3 (List.mem_of_getElem? (i := 165) rfl)
theorem pm_u7_11 : u_lay RX7 TX7 11 ∈ lw_tbl := pm_i3 (List.mem_of_getElem? (i := 167) rfl)
theorem pm_u7_12 : u_lay RX7 TX7 12 ∈ lw_tbl := pm_i3 (List.mem_of_getElem? (i := 169) rfl)
theorem pm_u7_13 : u_lay RX7 TX7 13 ∈ lw_tbl := pm_i3 (List.mem_of_getElem? (i := 171) rfl)
theorem pm_u7_14 : u_lay RX7 TX7 14 ∈ lw_tbl := pm_i3 (List.mem_of_getElem? (i := 173) rfl)
theorem pm_u7_15 : u_lay RX7 TX7 15 ∈ lw_tbl := pm_i3 (List.mem_of_getElem? (i := 175) rfl)
theorem pm_u7_16 : u_lay RX7 TX7 16 ∈ lw_tbl := pm_i3 (List.mem_of_getElem? (i := 177) rfl)
theorem pm_u7_17 : u_lay RX7 TX7 17 ∈ lw_tbl := pm_i3 (List.mem_of_getElem? (i := 179) rfl)
theorem pm_u7_18 : u_lay RX7 TX7 18 ∈ lw_tbl := pm_i3 (List.mem_of_getElem? (i := 181) rfl)
theorem pm_u7_19 : u_lay RX7 TX7 19 ∈ lw_tbl := pm_i3 (List.mem_of_getElem? (i := 183) rfl)
theorem pm_u7_20 : u_lay RX7 TX7 20 ∈ lw_tbl := pm_i3 (List.mem_of_getElem? (i := 185) rfl)
theorem pm_u7_21 : u_lay RX7 TX7 21 ∈ lw_tbl := pm_i3 (List.mem_of_getElem? (i := 187) rfl)
theorem pm_u7_22 : u_lay RX7 TX7 22 ∈ lw_tbl := pm_i3 (List.mem_of_getElem? (i := 189) rfl)
theorem pm_u7_23 : u_lay RX7 TX7 23 ∈ lw_tbl := pm_i3 (List.mem_of_getElem? (i := 191) rfl)
theorem pm_u7_24 : u_lay RX7 TX7 24 ∈ lw_tbl := pm_i3 (List.mem_of_getElem? (i := 193) rfl)
theorem pm_u7_25 : u_lay RX7 TX7 25 ∈ lw_tbl := pm_i3 (List.mem_of_getElem? (i := 195) rfl)
theorem pm_u7_26 : u_lay RX7 TX7 26 ∈ lw_tbl := pm_i3 (List.mem_of_getElem? (i := 197) rfl)
theorem pm_u7_27 : u_lay RX7 TX7 27 ∈ lw_tbl := pm_i3 (List.mem_of_getElem? (i := 199) rfl)
theorem pm_u7_28 : u_lay RX7 TX7 28 ∈ lw_tbl := pm_i3 (List.mem_of_getElem? (i := 201) rfl)
theorem pm_u7_29 : u_lay RX7 TX7 29 ∈ lw_tbl := pm_i3 (List.mem_of_getElem? (i := 203) rfl)
theorem pm_u7_30 : u_lay RX7 TX7 30 ∈ lw_tbl := pm_i3 (List.mem_of_getElem? (i := 205) rfl)
theorem pm_u7_31 : u_lay RX7 TX7 31 ∈ lw_tbl := pm_i3 (List.mem_of_getElem? (i := 207) rfl)
theorem pm_u7_32 : u_lay RX7 TX7 32 ∈ lw_tbl := pm_i3 (List.mem_of_getElem? (i := 209) rfl)
theorem pm_u7_33 : u_lay RX7 TX7 33 ∈ lw_tbl := pm_i3 (List.mem_of_getElem? (i := 211) rfl)
theorem pm_u7_34 : u_lay RX7 TX7 34 ∈ lw_tbl := pm_i3 (List.mem_of_getElem? (i := 213) rfl)
theorem pm_u7_35 : u_lay RX7 TX7 35 ∈ lw_tbl := pm_i3 (List.mem_of_getElem? (i := 215) rfl)
theorem pm_u7_36 : u_lay RX7 TX7 36 ∈ lw_tbl := pm_i3 (List.mem_of_getElem? (i := 217) rfl)
theorem pm_u7_37 : u_lay RX7 TX7 37 ∈ lw_tbl := pm_i3 (List.mem_of_getElem? (i := 219) rfl)
theorem pm_u7_38 : u_lay RX7 TX7 38 ∈ lw_tbl := pm_i3 (List.mem_of_getElem? (i := 221) rfl)
theorem pm_u7_39 : u_lay RX7 TX7 39 ∈ lw_tbl := pm_i3 (List.mem_of_getElem? (i := 223) rfl)
theorem pm_u7_40 : u_lay RX7 TX7 40 ∈ lw_tbl := pm_i3 (List.mem_of_getElem? (i := 225) rfl)
theorem pm_u7_41 : u_lay RX7 TX7 41 ∈ lw_tbl := pm_i3 (List.mem_of_getElem? (i := 227) rfl)
theorem pm_uw7 : ∀ w ∈ u_ws RX7 TX7 42, w ∈ lw_tbl := (List.forall_mem_cons.mpr ⟨pm_u7_0, (List.forall_mem_cons.mpr ⟨pm_u7_1, (List.forall_mem_cons.mpr ⟨pm_u7_2, (List.forall_mem_cons.mpr ⟨pm_u7_3, (List.forall_mem_cons.mpr ⟨pm_u7_4, (List.forall_mem_cons.mpr ⟨pm_u7_5, (List.forall_mem_cons.mpr ⟨pm_u7_6, (List.forall_mem_cons.mpr ⟨pm_u7_7, (List.forall_mem_cons.mpr ⟨pm_u7_8, (List.forall_mem_cons.mpr ⟨pm_u7_9, (List.forall_mem_cons.mpr ⟨pm_u7_10, (List.forall_mem_cons.mpr ⟨pm_u7_11, (List.forall_mem_cons.mpr ⟨pm_u7_12, (List.forall_mem_cons.mpr ⟨pm_u7_13, (List.forall_mem_cons.mpr ⟨pm_u7_14, (List.forall_mem_cons.mpr ⟨pm_u7_15, (List.forall_mem_cons.mpr ⟨pm_u7_16, (List.forall_mem_cons.mpr ⟨pm_u7_17, (List.forall_mem_cons.mpr ⟨pm_u7_18, (List.forall_mem_cons.mpr ⟨pm_u7_19, (List.forall_mem_cons.mpr ⟨pm_u7_20, (List.forall_mem_cons.mpr ⟨pm_u7_21, (List.forall_mem_cons.mpr ⟨pm_u7_22, (List.forall_mem_cons.mpr ⟨pm_u7_23, (List.forall_mem_cons.mpr ⟨pm_u7_24, (List.forall_mem_cons.mpr ⟨pm_u7_25, (List.forall_mem_cons.mpr ⟨pm_u7_26, (List.forall_mem_cons.mpr ⟨pm_u7_27, (List.forall_mem_cons.mpr ⟨pm_u7_28, (List.forall_mem_cons.mpr ⟨pm_u7_29, (List.forall_mem_cons.mpr ⟨pm_u7_30, (List.forall_mem_cons.mpr ⟨pm_u7_31, (List.forall_mem_cons.mpr ⟨pm_u7_32, (List.forall_mem_cons.mpr ⟨pm_u7_33, (List.forall_mem_cons.mpr ⟨pm_u7_34, (List.forall_mem_cons.mpr ⟨pm_u7_35, (List.forall_mem_cons.mpr ⟨pm_u7_36, (List.forall_mem_cons.mpr ⟨pm_u7_37, (List.forall_mem_cons.mpr ⟨pm_u7_38, (List.forall_mem_cons.mpr ⟨pm_u7_39, (List.forall_mem_cons.mpr ⟨pm_u7_40, (List.forall_mem_cons.mpr ⟨pm_u7_41, (fun _ h => absurd h List.not_mem_nil)⟩)⟩)⟩)⟩)⟩)⟩)⟩)⟩)⟩)⟩)⟩)⟩)⟩)⟩)⟩)⟩)⟩)⟩)⟩)⟩)⟩)⟩)⟩)⟩)⟩)⟩)⟩)⟩)⟩)⟩)⟩)⟩)⟩)⟩)⟩)⟩)⟩)⟩)⟩)⟩)⟩)⟩)
theorem pm_cq_0 : (∀ w ∈ u_ws RX0 TX0 14, w ∈ lw_tbl) ∧ Cond.instantiable RX0 14 ∈ lw_tbl ∧ Cond.initialized RX0 ∈ lw_tbl := ⟨pm_uw0, pm_i1 (List.mem_of_getElem? (i := 129) rfl), pm_i1 (List.mem_of_getElem? (i := 6) rfl)⟩
theorem pm_cq_1 : (∀ w ∈ u_ws RX1 TX1 3, w ∈ lw_tbl) ∧ Cond.instantiable RX1 3 ∈ lw_tbl ∧ Cond.initialized RX1 ∈ lw_tbl := ⟨pm_uw1, pm_i1 (List.mem_of_getElem? (i := 61) rfl), pm_i1 (List.mem_of_getElem? (i := 4) rfl)⟩
theorem pm_cq_2 : (∀ w ∈ u_ws RX2 TX2 4, w ∈ lw_tbl) ∧ Cond.instantiable RX2 4 ∈ lw_tbl ∧ Cond.initialized RX2 ∈ lw_tbl := ⟨pm_uw2, pm_i1 (List.mem_of_getElem? (i := 165) rfl), pm_i1 (List.mem_of_getElem? (i := 9) rfl)⟩
theorem pm_cq_3 : (∀ w ∈ u_ws RX3 TX3 4, w ∈ lw_tbl) ∧ Cond.instantiable RX3 4 ∈ lw_tbl ∧ Cond.initialized RX3 ∈ lw_tbl := ⟨pm_uw3, pm_i1 (List.mem_of_getElem? (i := 135) rfl), pm_i1 (List.mem_of_getElem? (i := 7) rfl)⟩
theorem pm_cq_4 : (∀ w ∈ u_ws RX4 TX4 5, w ∈ lw_tbl) ∧ Cond.instantiable RX4 5 ∈ lw_tbl ∧ Cond.initialized RX4 ∈ lw_tbl := ⟨pm_uw4, pm_i1 (List.mem_of_getElem? (i := 22) rfl), pm_i1 (List.mem_of_getElem? (i := 2) rfl)⟩
theorem pm_cq_5 : (∀ w ∈ u_ws RX5 TX5 7, w ∈ lw_tbl) ∧ Cond.instantiable RX5 7 ∈ lw_tbl ∧ Cond.initialized RX5 ∈ lw_tbl := ⟨pm_uw5, pm_i1 (List.mem_of_getElem? (i := 28) rfl), pm_i1 (List.mem_of_getElem? (i := 3) rfl)⟩
theorem pm_cq_6 : (∀ w ∈ u_ws RX6 TX6 6, w ∈ lw_tbl) ∧ Cond.instantiable RX6 6 ∈ lw_tbl ∧ Cond.initialized RX6 ∈ lw_tbl := ⟨pm_uw6, pm_i1 (List.mem_of_getElem? (i := 12) rfl), pm_i1 (List.mem_of_getElem? (i := 1) rfl)⟩
theorem pm_cq_7 : (∀ w ∈ u_ws RX7 TX7 42, w ∈ lw_tbl) ∧ Cond.instantiable RX7 42 ∈ lw_tbl ∧ Cond.initialized RX7 ∈ lw_tbl := ⟨pm_uw7, pm_i3 (List.mem_of_getElem? (i := 94) rfl), pm_i1 (List.mem_of_getElem? (i := 5) rfl)⟩
set_option maxRecDepth 100000 in
theorem pm_cq_all : ∀ q ∈ pm_cl, (∀ w ∈ u_ws q.1 q.2.1 q.2.2, w ∈ lw_tbl) ∧ Cond.instantiable q.1 q.2.2 ∈ lw_tbl ∧ Cond.initialized q.1 ∈ lw_tbl := (List.forall_mem_cons.mpr ⟨pm_cq_0, (List.forall_mem_cons.mpr ⟨pm_cq_1, (List.forall_mem_cons.mpr ⟨pm_cq_2, (List.forall_mem_cons.mpr ⟨pm_cq_3, (List.forall_mem_cons.mpr ⟨pm_cq_4, (List.forall_mem_cons.mpr ⟨pm_cq_5, (List.forall_mem_cons.mpr ⟨pm_cq_6, (List.forall_mem_cons.mpr ⟨pm_cq_7, (fun _ h => absurd h List.not_mem_nil)⟩)⟩)⟩)⟩)⟩)⟩)⟩)⟩)
/-! small numbers, decided -/
def pm_law : Nat := pm_ms.length - 1
def pm_mok (q : pm_MT) : Bool := plainFor q.2.1 && decide (q.2.1.cls ≠ "java/lang/invoke/MethodHandle" ∧ q.2.1.cls ≠ "java/lang/invoke/VarHandle")
  && decide ((parseMethodDescriptor q.2.1.desc).map (fun d => d.parameters.length) = some q.2.2.2.2.2.2) && decide (pm_nm q.1 = q.2.1.cls) && decide (q.2.2.2.1 ≤ 40)
  && (match q.2.2.2.2.2.1 with
    | 0 => true
    | 1 => decide ((pm_clq q.1).1 = q.2.1.cls) && decide (q.1 < pm_cl.length)
    | 2 => decide (q.2.1.name = "<init>") && decide (q.2.2.2.2.1 = none)
    | _ => false)
set_option maxRecDepth 100000 in
theorem pm_ms_ok : pm_ms.dropLast.all pm_mok = true := by decide +kernel
theorem pm_law_ok : pm_ms.dropLast.length = pm_law := by decide +kernel
theorem pm_fl_ok : pm_fl.all (fun q => decide (q.2.1 < pm_cl.length) && decide (q.2.2 < (pm_clq q.2.1).2.2) && decide (q.1 < 900000)) = true := by decide +kernel
theorem pm_ml_ok : pm_ml.all (fun q => decide (q.2 < pm_law) && decide (q.1 < 900000)) = true := by decide +kernel
theorem pm_nl_ok : pm_nl.all (fun q => decide (q.2 < pm_law) && decide (q.1 < 900000)) = true := by decide +kernel
theorem pm_mo_ok : pm_mo.all (fun q => decide (q < 900000)) = true := by decide +kernel
theorem pm_lc_ok : pm_lc.all (fun q => decide (q.2 < pm_cl.length) && decide (q.1 < 900000)) = true := by decide +kernel
theorem pm_kc_ok : pm_kc.all (fun q => decide (q.1 < 900000)) = true := by decide +kernel
theorem pm_kl_ok : pm_kl.all (fun q => decide (q.1 < 900000)) = true := by decide +kernel
set_option maxRecDepth 100000 in
theorem pm_ty_ok : ∀ c, c < pm_cl.length → ∀ k, k < (pm_clq c).2.2 → parseFieldDescriptor ((pm_clq c).2.1 k).2.2.1 = some (pm_fty c k) := by decide +kernel
set_option maxRecDepth 100000 in
theorem pm_nm_ok : ∀ c, c < pm_cl.length → ∀ a, a < (pm_clq c).2.2 → ∀ b, b < (pm_clq c).2.2 → a ≠ b → ((pm_clq c).2.1 a).2.1 ≠ ((pm_clq c).2.1 b).2.1 := by decide +kernel
set_option maxRecDepth 100000 in
theorem pm_dc_ok : ∀ c, c < pm_cl.length → ∀ k, k < (pm_clq c).2.2 → ((pm_clq c).2.1 k).1 = pm_nm c := by decide +kernel
theorem pm_look {α : Type} {l : List (Nat × α)} {k : Nat} {v : α} (h : l.lookup k = some v) : (k, v) ∈ l := by
  induction l with
  | nil => cases h
  | cons q l ih =>
    obtain ⟨a, b⟩ := q
    rw [List.lookup_cons] at h
    split at h
    next e =>
      have e := beq_iff_eq.mp e
      cases h
      rw [e]
      exact List.mem_cons_self
    next => exact List.mem_cons_of_mem _ (ih h)
theorem pm_key_ok {i idx : Nat} (h : pm_key i idx < 900000) : pm_key i idx / 1000 = pm_own i ∧ pm_key i idx % 1000 = idx := by
  unfold pm_key at h ⊢
  split at h
  next h1 =>
    rw [if_pos h1]
    omega
  next => omega
