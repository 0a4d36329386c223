/-! ===== THE PURE MACHINE IS THE REAL ONE: locals, and what touches neither heap nor pool ===== -/
def pm_J : Value → Bool
  | .retAddr _ => true
  | _ => false
def pm_lv (L : List Value) : List (Nat × Value) := (List.range L.length).filterMap fun k => match L[k]? with
  | some v => if pm_J v = true then none else some (k, v)
  | none => none
theorem pm_lv_mem {L : List Value} {q : Nat × Value} : q ∈ pm_lv L ↔ L[q.1]? = some q.2 ∧ pm_J q.2 = false := by
  unfold pm_lv
  rw [List.mem_filterMap]
  constructor
  · rintro ⟨k, -, hk⟩
    split at hk
    next v hv =>
      split at hk
      next => cases hk
      next hj => cases hk; exact ⟨hv, by simpa using hj⟩
    next => cases hk
  · rintro ⟨h1, h2⟩
    refine ⟨q.1, List.mem_range.mpr (List.getElem?_eq_some_iff.mp h1).1, ?_⟩
    rw [h1]
    simp [h2]
theorem pm_lv_get {ls : Array Slot} {nL k : Nat} {L : List Value} {v : Value} (h : lv_has ls nL (pm_lv L)) (hv : L[k]? = some v) (hj : pm_J v = false) : ls[k]? = some (.val v) :=
  h.2.2 (k, v) (pm_lv_mem.mpr ⟨hv, hj⟩)
theorem pm_clr_len (L : List Value) (i : Nat) : (pm_clr L i).length = L.length := by
  unfold pm_clr
  split
  · rfl
  · split <;> simp
theorem pm_clr_get {L : List Value} {i j : Nat} {w : Value} (hw : (pm_clr L i)[j]? = some w) (hj : pm_J w = false) : L[j]? = some w ∧ ¬ (j + 1 = i ∧ w.category = 2) := by
  unfold pm_clr at hw
  split at hw
  · exact ⟨hw, fun h => by omega⟩
  · rename_i k
    split at hw
    next x hx =>
      by_cases e : k = j
      · subst e
        rw [List.getElem?_set_self (List.getElem?_eq_some_iff.mp hx).1] at hw
        cases hw
        cases hj
      · rw [List.getElem?_set_ne e] at hw
        exact ⟨hw, fun h => e (by omega)⟩
    next x hx =>
      by_cases e : k = j
      · subst e
        rw [List.getElem?_set_self (List.getElem?_eq_some_iff.mp hx).1] at hw
        cases hw
        cases hj
      · rw [List.getElem?_set_ne e] at hw
        exact ⟨hw, fun h => e (by omega)⟩
    next h1 h2 =>
      refine ⟨hw, fun h => ?_⟩
      have e : k = j := by omega
      subst e
      cases w with
      | long x => exact h1 x hw
      | double x => exact h2 x hw
      | _ => exact absurd h.2 (by simp [Value.category])
theorem pm_st1_ok {L L' : List Value} {i nL : Nat} {v : Value} {ls' : Array Slot} (hs : pm_st1 L i v = some L') (hh : lv_has ls' nL ((i, v) :: (pm_lv L).filter (fun q => !(q.1 == i) && !(q.1 + 1 == i && q.2.category == 2)))) : lv_has ls' nL (pm_lv L') ∧ L'.length = L.length ∧ i < L.length := by
  unfold pm_st1 at hs
  split at hs
  next hi =>
    cases hs
    refine ⟨⟨hh.1, hh.2.1, fun q hq => ?_⟩, by simp [pm_clr_len], hi⟩
    obtain ⟨q1, q2⟩ := pm_lv_mem.mp hq
    by_cases e : i = q.1
    · rw [← e, List.getElem?_set_self (by rw [pm_clr_len]; exact hi)] at q1
      cases q1
      rw [← e]
      exact hh.2.2 _ List.mem_cons_self
    · rw [List.getElem?_set_ne e] at q1
      obtain ⟨g1, g2⟩ := pm_clr_get q1 q2
      refine hh.2.2 q (List.mem_cons_of_mem _ (List.mem_filter.mpr ⟨pm_lv_mem.mpr ⟨g1, q2⟩, ?_⟩))
      have e2 : ¬ q.1 = i := fun h => e h.symm
      by_cases e3 : q.1 + 1 = i <;> by_cases e4 : q.2.category = 2 <;> simp [e2, e3, e4]
      exact g2 ⟨e3, e4⟩
  next => cases hs
theorem pm_st2_ok {L L' : List Value} {i nL : Nat} {v : Value} {ls' : Array Slot} (hs : pm_st2 L i v = some L') (hh : lv_has ls' nL ((i, v) :: (pm_lv L).filter (fun q => !(q.1 == i) && (!(q.1 == i + 1) && !(q.1 + 1 == i && q.2.category == 2))))) : lv_has ls' nL (pm_lv L') ∧ L'.length = L.length ∧ i + 1 < L.length := by
  unfold pm_st2 at hs
  split at hs
  next hi =>
    cases hs
    refine ⟨⟨hh.1, hh.2.1, fun q hq => ?_⟩, by simp [pm_clr_len], hi⟩
    obtain ⟨q1, q2⟩ := pm_lv_mem.mp hq
    by_cases e0 : i + 1 = q.1
    · rw [← e0, List.getElem?_set_self (by simp [pm_clr_len]; exact hi)] at q1
      have e9 : pm_j = q.2 := Option.some.inj q1
      rw [← e9] at q2
      cases q2
    · rw [List.getElem?_set_ne e0] at q1
      by_cases e : i = q.1
      · rw [← e, List.getElem?_set_self (by rw [pm_clr_len]; omega)] at q1
        have e9 : v = q.2 := Option.some.inj q1
        rw [← e, ← e9]
        exact hh.2.2 _ List.mem_cons_self
      · rw [List.getElem?_set_ne e] at q1
        obtain ⟨g1, g2⟩ := pm_clr_get q1 q2
        refine hh.2.2 q (List.mem_cons_of_mem _ (List.mem_filter.mpr ⟨pm_lv_mem.mpr ⟨g1, q2⟩, ?_⟩))
        have e2 : ¬ q.1 = i := fun h => e h.symm
        have e5 : ¬ q.1 = i + 1 := fun h => e0 h.symm
        by_cases e3 : q.1 + 1 = i <;> by_cases e4 : q.2.category = 2 <;> simp [e2, e3, e4, e5]
        exact g2 ⟨e3, e4⟩
  next => cases hs
theorem pm_st1_lt {L L' : List Value} {i : Nat} {v : Value} (hs : pm_st1 L i v = some L') : i < L.length := by
  unfold pm_st1 at hs
  split at hs
  next h => exact h
  next => cases hs
theorem pm_st2_lt {L L' : List Value} {i : Nat} {v : Value} (hs : pm_st2 L i v = some L') : i + 1 < L.length := by
  unfold pm_st2 at hs
  split at hs
  next h => exact h
  next => cases hs
theorem pm_to_ok {pc t : Nat} {off : Int} (h : pm_to pc off = some t) : (pc : Int) + off = (t : Int) := by
  unfold pm_to at h
  split at h
  next hh => cases h; omega
  next => cases h
section PMA
variable {p : Program} {l : Launch} {e : Env} {R : Room} {s : State} {m : MethodId} {args : Array Value} {below : List Frame} {meth : Method} {c : Code} {H : Heap} {locs : List Loc} {cells slots : Nat} {Q : State → Prop}
variable {cc : ByteArray} {pc pc' len nL : Nat} {ls : Array Slot} {L L' st st' : List Value} {ins : Instr}
set_option maxHeartbeats 4000000 in
theorem pm_sA_ok (hx : p.tables.exec = Jvm.exec) (hb : c.code = cc) (hd : decode cc pc = .ok (ins, len)) (hlen : pm_len ins len = true) (h : pm_sA ins len pc L st = some (pc', L', st')) (hl : lv_has ls nL (pm_lv L)) (hn : L.length = nL)
    (k : ∀ ls' : Array Slot, lv_has ls' nL (pm_lv L') → L'.length = nL → W p l e R s m args below meth c H locs cells slots Q (F0 m pc' ls' st')) : W p l e R s m args below meth c H locs cells slots Q (F0 m pc ls st) := by
  cases ins
  case iconst n => simp only [pm_len, beq_iff_eq] at hlen; subst hlen; simp only [pm_sA] at h; cases h; exact lv_iconst hx hb hd rfl (k _ hl hn)
  case bipush n => simp only [pm_len, beq_iff_eq] at hlen; subst hlen; simp only [pm_sA] at h; cases h; exact lv_bipush hx hb hd rfl (k _ hl hn)
  case sipush n => simp only [pm_len, beq_iff_eq] at hlen; subst hlen; simp only [pm_sA] at h; cases h; exact lv_sipush hx hb hd rfl (k _ hl hn)
  case lconst n => simp only [pm_len, beq_iff_eq] at hlen; subst hlen; simp only [pm_sA] at h; cases h; exact lv_lconst hx hb hd rfl (k _ hl hn)
  case aconst_null => simp only [pm_len, beq_iff_eq] at hlen; subst hlen; simp only [pm_sA] at h; cases h; exact lv_null hx hb hd (k _ hl hn)
  case iload_n n =>
    simp only [pm_len, beq_iff_eq] at hlen; subst hlen; simp only [pm_sA] at h
    split at h
    next x hv => cases h; exact lv_iload_n hx hb hd rfl (pm_lv_get hl hv rfl) (k _ hl hn)
    next => cases h
  case iload n =>
    simp only [pm_len, beq_iff_eq] at hlen; subst hlen; simp only [pm_sA] at h
    split at h
    next x hv => cases h; exact lv_iload hx hb hd (pm_lv_get hl hv rfl) (k _ hl hn)
    next => cases h
  case lload_n n =>
    simp only [pm_len, beq_iff_eq] at hlen; subst hlen; simp only [pm_sA] at h
    split at h
    next x hv => cases h; exact lv_lload_n hx hb hd rfl (pm_lv_get hl hv rfl) (k _ hl hn)
    next => cases h
  case lload n =>
    simp only [pm_len, beq_iff_eq] at hlen; subst hlen; simp only [pm_sA] at h
    split at h
    next x hv => cases h; exact lv_lload hx hb hd (pm_lv_get hl hv rfl) (k _ hl hn)
    next => cases h
  case aload_n n =>
    simp only [pm_len, beq_iff_eq] at hlen; subst hlen; simp only [pm_sA] at h
    split at h
    next x hv => cases h; exact lv_aload_n hx hb hd rfl (pm_lv_get hl hv rfl) (k _ hl hn)
    next hv => cases h; exact lv_aload_nN hx hb hd rfl (pm_lv_get hl hv rfl) (k _ hl hn)
    next => cases h
  case aload n =>
    simp only [pm_len, beq_iff_eq] at hlen; subst hlen; simp only [pm_sA] at h
    split at h
    next x hv => cases h; exact lv_aload hx hb hd (pm_lv_get hl hv rfl) (k _ hl hn)
    next hv => cases h; exact lv_aloadN hx hb hd (pm_lv_get hl hv rfl) (k _ hl hn)
    next => cases h
  case istore_n n =>
    simp only [pm_len, beq_iff_eq] at hlen; subst hlen; simp only [pm_sA] at h
    split at h
    next x r => 
      obtain ⟨L2, h1, h2⟩ := Option.map_eq_some_iff.mp h
      cases h2
      exact lv_istore_n hx hb hd rfl hl (by rw [← hn]; exact pm_st1_lt h1) rfl (fun ls' hh => k ls' (pm_st1_ok h1 hh).1 ((pm_st1_ok h1 hh).2.1.trans hn))
    next => cases h
  case istore n =>
    simp only [pm_len, beq_iff_eq] at hlen; subst hlen; simp only [pm_sA] at h
    split at h
    next x r => 
      obtain ⟨L2, h1, h2⟩ := Option.map_eq_some_iff.mp h
      cases h2
      exact lv_istore hx hb hd hl (by rw [← hn]; exact pm_st1_lt h1) rfl (fun ls' hh => k ls' (pm_st1_ok h1 hh).1 ((pm_st1_ok h1 hh).2.1.trans hn))
    next => cases h
  case lstore_n n =>
    simp only [pm_len, beq_iff_eq] at hlen; subst hlen; simp only [pm_sA] at h
    split at h
    next x r => 
      obtain ⟨L2, h1, h2⟩ := Option.map_eq_some_iff.mp h
      cases h2
      exact lv_lstore_n hx hb hd rfl hl (by rw [← hn]; exact pm_st2_lt h1) rfl (fun ls' hh => k ls' (pm_st2_ok h1 hh).1 ((pm_st2_ok h1 hh).2.1.trans hn))
    next => cases h
  case lstore n =>
    simp only [pm_len, beq_iff_eq] at hlen; subst hlen; simp only [pm_sA] at h
    split at h
    next x r => 
      obtain ⟨L2, h1, h2⟩ := Option.map_eq_some_iff.mp h
      cases h2
      exact lv_lstore hx hb hd hl (by rw [← hn]; exact pm_st2_lt h1) rfl (fun ls' hh => k ls' (pm_st2_ok h1 hh).1 ((pm_st2_ok h1 hh).2.1.trans hn))
    next => cases h
  case astore_n n =>
    simp only [pm_len, beq_iff_eq] at hlen; subst hlen; simp only [pm_sA] at h
    split at h
    next x r => 
      obtain ⟨L2, h1, h2⟩ := Option.map_eq_some_iff.mp h
      cases h2
      exact lv_astore_n hx hb hd rfl hl (by rw [← hn]; exact pm_st1_lt h1) rfl (fun ls' hh => k ls' (pm_st1_ok h1 hh).1 ((pm_st1_ok h1 hh).2.1.trans hn))
    next r => 
      obtain ⟨L2, h1, h2⟩ := Option.map_eq_some_iff.mp h
      cases h2
      exact lv_astore_nN hx hb hd rfl hl (by rw [← hn]; exact pm_st1_lt h1) rfl (fun ls' hh => k ls' (pm_st1_ok h1 hh).1 ((pm_st1_ok h1 hh).2.1.trans hn))
    next => cases h
  case astore n =>
    simp only [pm_len, beq_iff_eq] at hlen; subst hlen; simp only [pm_sA] at h
    split at h
    next x r => 
      obtain ⟨L2, h1, h2⟩ := Option.map_eq_some_iff.mp h
      cases h2
      exact lv_astore hx hb hd hl (by rw [← hn]; exact pm_st1_lt h1) rfl (fun ls' hh => k ls' (pm_st1_ok h1 hh).1 ((pm_st1_ok h1 hh).2.1.trans hn))
    next r => 
      obtain ⟨L2, h1, h2⟩ := Option.map_eq_some_iff.mp h
      cases h2
      exact lv_astoreN hx hb hd hl (by rw [← hn]; exact pm_st1_lt h1) rfl (fun ls' hh => k ls' (pm_st1_ok h1 hh).1 ((pm_st1_ok h1 hh).2.1.trans hn))
    next => cases h
  case iinc j n =>
    simp only [pm_len, beq_iff_eq] at hlen; subst hlen; simp only [pm_sA] at h
    split at h
    next x hv => 
      obtain ⟨L2, h1, h2⟩ := Option.map_eq_some_iff.mp h
      cases h2
      obtain ⟨w, hw⟩ := List.getElem?_of_mem (pm_lv_mem (q := (j, Value.int x)).mpr ⟨hv, rfl⟩)
      exact lv_iinc (k := w) hx hb hd hl hw rfl (by rw [← hn]; exact pm_st1_lt h1) rfl (fun ls' hh => k ls' (pm_st1_ok h1 hh).1 ((pm_st1_ok h1 hh).2.1.trans hn))
    next => cases h
  case iadd => simp only [pm_len, beq_iff_eq] at hlen; subst hlen; simp only [pm_sA] at h; split at h; (next => cases h; exact lv_iadd hx hb hd (k _ hl hn)); (next => cases h)
  case isub => simp only [pm_len, beq_iff_eq] at hlen; subst hlen; simp only [pm_sA] at h; split at h; (next => cases h; exact lv_isub hx hb hd (k _ hl hn)); (next => cases h)
  case imul => simp only [pm_len, beq_iff_eq] at hlen; subst hlen; simp only [pm_sA] at h; split at h; (next => cases h; exact lv_imul hx hb hd (k _ hl hn)); (next => cases h)
  case iand => simp only [pm_len, beq_iff_eq] at hlen; subst hlen; simp only [pm_sA] at h; split at h; (next => cases h; exact lv_iand hx hb hd (k _ hl hn)); (next => cases h)
  case ineg => simp only [pm_len, beq_iff_eq] at hlen; subst hlen; simp only [pm_sA] at h; split at h; (next => cases h; exact lv_ineg hx hb hd (k _ hl hn)); (next => cases h)
  case ladd => simp only [pm_len, beq_iff_eq] at hlen; subst hlen; simp only [pm_sA] at h; split at h; (next => cases h; exact lv_ladd hx hb hd (k _ hl hn)); (next => cases h)
  case lsub => simp only [pm_len, beq_iff_eq] at hlen; subst hlen; simp only [pm_sA] at h; split at h; (next => cases h; exact lv_lsub hx hb hd (k _ hl hn)); (next => cases h)
  case lmul => simp only [pm_len, beq_iff_eq] at hlen; subst hlen; simp only [pm_sA] at h; split at h; (next => cases h; exact lv_lmul hx hb hd (k _ hl hn)); (next => cases h)
  case land => simp only [pm_len, beq_iff_eq] at hlen; subst hlen; simp only [pm_sA] at h; split at h; (next => cases h; exact lv_land hx hb hd (k _ hl hn)); (next => cases h)
  case lor => simp only [pm_len, beq_iff_eq] at hlen; subst hlen; simp only [pm_sA] at h; split at h; (next => cases h; exact lv_lor hx hb hd (k _ hl hn)); (next => cases h)
  case lxor => simp only [pm_len, beq_iff_eq] at hlen; subst hlen; simp only [pm_sA] at h; split at h; (next => cases h; exact lv_lxor hx hb hd (k _ hl hn)); (next => cases h)
  case lcmp => simp only [pm_len, beq_iff_eq] at hlen; subst hlen; simp only [pm_sA] at h; split at h; (next => cases h; exact W.lcmp hx hb hd (k _ hl hn)); (next => cases h)
  case lshl => simp only [pm_len, beq_iff_eq] at hlen; subst hlen; simp only [pm_sA] at h; split at h; (next => cases h; exact lv_lshl hx hb hd rfl (k _ hl hn)); (next => cases h)
  case lshr => simp only [pm_len, beq_iff_eq] at hlen; subst hlen; simp only [pm_sA] at h; split at h; (next => cases h; exact lv_lshr hx hb hd rfl (k _ hl hn)); (next => cases h)
  case lushr => simp only [pm_len, beq_iff_eq] at hlen; subst hlen; simp only [pm_sA] at h; split at h; (next => cases h; exact lv_lushr hx hb hd rfl (k _ hl hn)); (next => cases h)
  case i2l => simp only [pm_len, beq_iff_eq] at hlen; subst hlen; simp only [pm_sA] at h; split at h; (next => cases h; exact lv_i2l hx hb hd rfl (k _ hl hn)); (next => cases h)
  case l2i => simp only [pm_len, beq_iff_eq] at hlen; subst hlen; simp only [pm_sA] at h; split at h; (next => cases h; exact lv_l2i hx hb hd rfl (k _ hl hn)); (next => cases h)
  case idiv =>
    simp only [pm_len, beq_iff_eq] at hlen; subst hlen; simp only [pm_sA] at h
    split at h
    next y x r =>
      split at h
      next => cases h
      next hne => cases h; exact lv_idiv hx hb hd hne (k _ hl hn)
    next => cases h
  case irem =>
    simp only [pm_len, beq_iff_eq] at hlen; subst hlen; simp only [pm_sA] at h
    split at h
    next y x r =>
      split at h
      next => cases h
      next hne => cases h; exact lv_irem hx hb hd hne (k _ hl hn)
    next => cases h
  case lrem =>
    simp only [pm_len, beq_iff_eq] at hlen; subst hlen; simp only [pm_sA] at h
    split at h
    next y x r =>
      split at h
      next => cases h
      next hne => cases h; exact lv_lrem hx hb hd hne (k _ hl hn)
    next => cases h
  case dup =>
    simp only [pm_len, beq_iff_eq] at hlen; subst hlen; simp only [pm_sA] at h
    split at h
    next => cases h; exact lv_dup hx hb hd rfl (k _ hl hn)
    next => cases h; exact lv_dup hx hb hd rfl (k _ hl hn)
    next => cases h
  case dup2 =>
    simp only [pm_len, beq_iff_eq] at hlen; subst hlen; simp only [pm_sA] at h
    split at h
    next => cases h; exact lv_dup2_11 hx hb hd rfl rfl (k _ hl hn)
    next => cases h
  case pop =>
    simp only [pm_len, beq_iff_eq] at hlen; subst hlen; simp only [pm_sA] at h
    split at h
    next => cases h; exact lv_pop hx hb hd rfl (k _ hl hn)
    next => cases h; exact lv_pop hx hb hd rfl (k _ hl hn)
    next => cases h
  case goto off =>
    simp only [pm_len, beq_iff_eq] at hlen; subst hlen; simp only [pm_sA] at h
    obtain ⟨t, h1, h2⟩ := Option.map_eq_some_iff.mp h
    cases h2
    exact lv_goto hx hb hd (pm_to_ok h1) (k _ hl hn)
  case ifnull off =>
    simp only [pm_len, beq_iff_eq] at hlen; subst hlen; simp only [pm_sA] at h
    split at h
    next =>
      obtain ⟨t, h1, h2⟩ := Option.map_eq_some_iff.mp h
      cases h2
      exact lv_ifnullN hx hb hd (pm_to_ok h1) (k _ hl hn)
    next => cases h; exact lv_ifnull hx hb hd (k _ hl hn)
    next => cases h
  case ifnonnull off =>
    simp only [pm_len, beq_iff_eq] at hlen; subst hlen; simp only [pm_sA] at h
    split at h
    next => cases h; exact lv_ifnonnullN hx hb hd (k _ hl hn)
    next =>
      obtain ⟨t, h1, h2⟩ := Option.map_eq_some_iff.mp h
      cases h2
      exact lv_ifnonnull hx hb hd (pm_to_ok h1) (k _ hl hn)
    next => cases h
  case ifCond cd off =>
    simp only [pm_len, beq_iff_eq] at hlen; subst hlen; simp only [pm_sA] at h
    split at h
    next x r =>
      obtain ⟨t, h1, h2⟩ := Option.map_eq_some_iff.mp h
      cases h2
      unfold pm_br at h1
      cases cd <;> simp only [pm_cnd, decide_eq_true_eq] at h1
      · split at h1
        next q => exact lv_if_eq hx hb hd (pm_to_ok h1) (fun _ => k _ hl hn) (fun z => absurd q z)
        next q =>
          cases h1
          intro T hT X
          obtain ⟨t, a, b⟩ := k _ hl hn T hT X
          refine ⟨t, ?_, b⟩
          jvm_step X.here [X.here.top, hx, hb, hd, Op.ifCond.holds, q]
          exact a
      · split at h1
        next q => exact lv_if_ne hx hb hd (pm_to_ok h1) (fun _ => k _ hl hn) (fun z => absurd z q)
        next q =>
          have q := Classical.not_not.mp q
          cases h1
          intro T hT X
          obtain ⟨t, a, b⟩ := k _ hl hn T hT X
          refine ⟨t, ?_, b⟩
          jvm_step X.here [X.here.top, hx, hb, hd, Op.ifCond.holds, q]
          exact a
      · split at h1
        next q => exact lv_if_lt hx hb hd (pm_to_ok h1) (fun _ => k _ hl hn) (fun z => absurd q z)
        next q =>
          cases h1
          intro T hT X
          obtain ⟨t, a, b⟩ := k _ hl hn T hT X
          refine ⟨t, ?_, b⟩
          jvm_step X.here [X.here.top, hx, hb, hd, Op.ifCond.holds, q]
          exact a
      · split at h1
        next q => exact lv_if_ge hx hb hd (pm_to_ok h1) (fun _ => k _ hl hn) (fun z => absurd q z)
        next q =>
          cases h1
          intro T hT X
          obtain ⟨t, a, b⟩ := k _ hl hn T hT X
          refine ⟨t, ?_, b⟩
          jvm_step X.here [X.here.top, hx, hb, hd, Op.ifCond.holds, q]
          exact a
      · split at h1
        next q => exact lv_if_gt hx hb hd (pm_to_ok h1) (fun _ => k _ hl hn) (fun z => absurd q z)
        next q =>
          cases h1
          intro T hT X
          obtain ⟨t, a, b⟩ := k _ hl hn T hT X
          refine ⟨t, ?_, b⟩
          jvm_step X.here [X.here.top, hx, hb, hd, Op.ifCond.holds, q]
          exact a
      · split at h1
        next q => exact lv_if_le hx hb hd (pm_to_ok h1) (fun _ => k _ hl hn) (fun z => absurd q z)
        next q =>
          cases h1
          intro T hT X
          obtain ⟨t, a, b⟩ := k _ hl hn T hT X
          refine ⟨t, ?_, b⟩
          jvm_step X.here [X.here.top, hx, hb, hd, Op.ifCond.holds, q]
          exact a
    next => cases h
  case if_icmp cd off =>
    simp only [pm_len, beq_iff_eq] at hlen; subst hlen; simp only [pm_sA] at h
    split at h
    next y x r =>
      obtain ⟨t, h1, h2⟩ := Option.map_eq_some_iff.mp h
      cases h2
      unfold pm_br at h1
      cases cd <;> simp only [pm_cnd, decide_eq_true_eq] at h1
      · split at h1
        next q => exact lv_icmp_eq hx hb hd (pm_to_ok h1) (fun _ => k _ hl hn) (fun z => absurd q z)
        next q =>
          cases h1
          intro T hT X
          obtain ⟨t, a, b⟩ := k _ hl hn T hT X
          refine ⟨t, ?_, b⟩
          jvm_step X.here [X.here.top, hx, hb, hd, Op.if_icmp.holds, q]
          exact a
      · split at h1
        next q => exact lv_icmp_ne hx hb hd (pm_to_ok h1) (fun _ => k _ hl hn) (fun z => absurd z q)
        next q =>
          have q := Classical.not_not.mp q
          cases h1
          intro T hT X
          obtain ⟨t, a, b⟩ := k _ hl hn T hT X
          refine ⟨t, ?_, b⟩
          jvm_step X.here [X.here.top, hx, hb, hd, Op.if_icmp.holds, q]
          exact a
      · split at h1
        next q => exact lv_icmp_lt hx hb hd (pm_to_ok h1) (fun _ => k _ hl hn) (fun z => absurd q z)
        next q =>
          cases h1
          intro T hT X
          obtain ⟨t, a, b⟩ := k _ hl hn T hT X
          refine ⟨t, ?_, b⟩
          jvm_step X.here [X.here.top, hx, hb, hd, Op.if_icmp.holds, q]
          exact a
      · split at h1
        next q => exact lv_icmp_ge hx hb hd (pm_to_ok h1) (fun _ => k _ hl hn) (fun z => absurd q z)
        next q =>
          cases h1
          intro T hT X
          obtain ⟨t, a, b⟩ := k _ hl hn T hT X
          refine ⟨t, ?_, b⟩
          jvm_step X.here [X.here.top, hx, hb, hd, Op.if_icmp.holds, q]
          exact a
      · split at h1
        next q => exact lv_icmp_gt hx hb hd (pm_to_ok h1) (fun _ => k _ hl hn) (fun z => absurd q z)
        next q =>
          cases h1
          intro T hT X
          obtain ⟨t, a, b⟩ := k _ hl hn T hT X
          refine ⟨t, ?_, b⟩
          jvm_step X.here [X.here.top, hx, hb, hd, Op.if_icmp.holds, q]
          exact a
      · split at h1
        next q => exact lv_icmp_le hx hb hd (pm_to_ok h1) (fun _ => k _ hl hn) (fun z => absurd q z)
        next q =>
          cases h1
          intro T hT X
          obtain ⟨t, a, b⟩ := k _ hl hn T hT X
          refine ⟨t, ?_, b⟩
          jvm_step X.here [X.here.top, hx, hb, hd, Op.if_icmp.holds, q]
          exact a
    next => cases h
  case tableswitch dflt lo hi offs =>
    simp only [pm_sA] at h
    split at h
    next x r =>
      split at h
      next q =>
        obtain ⟨t, h1, h2⟩ := Option.map_eq_some_iff.mp h
        cases h2
        exact lv_tableOut hx hb hd q (pm_to_ok h1) (k _ hl hn)
      next q =>
        split at h
        next off ho =>
          obtain ⟨t, h1, h2⟩ := Option.map_eq_some_iff.mp h
          cases h2
          exact lv_tableIn hx hb hd (fun z => q (Or.inl z)) (fun z => q (Or.inr z)) ho (pm_to_ok h1) (k _ hl hn)
        next => cases h
    next => cases h
  all_goals (simp [pm_sA] at h)
end PMA
