/-! ===== new int[n][k], on the real machine ===== -/
/-- a row of zeros -/
def pm_in0 (cC : ClassId) (M : Nat) : Cell := arrV cC M (fun _ => .int 0)
/-- the array of rows, when i of them have been laid into it -/
def pm_ou (cA : ClassId) (N h0 i : Nat) : Cell := arrV cA N (fun j => va_rf (if j < i then some (h0 + 1 + j) else none))
theorem pm_ou_next (cA : ClassId) (N h0 i : Nat) : (pm_ou cA N h0 i).setSlot i (.ref (h0 + 1 + i)) = pm_ou cA N h0 (i + 1) := by
  unfold pm_ou
  rw [arrV_store]
  congr 1
  funext j
  unfold updV
  by_cases e : j = i
  · subst e; rw [if_pos rfl, if_pos (Nat.lt_succ_self _)]; rfl
  · rw [if_neg e]
    show va_rf (if j < i then some (h0 + 1 + j) else none) = _
    by_cases h : j < i
    · rw [if_pos h, if_pos (by omega)]
    · rw [if_neg h, if_neg (by omega)]
theorem pm_ou_zero (cA : ClassId) (N h0 : Nat) : ({ cls := cA, slots := Array.replicate N .null, vm := .none } : Cell) = pm_ou cA N h0 0 := by
  rw [arrV_new]
  unfold pm_ou
  congr 1
theorem pm_in0_is (cC : ClassId) (M : Nat) : ({ cls := cC, slots := Array.replicate M (.int 0), vm := .none } : Cell) = pm_in0 cC M := arrV_new cC M (.int 0)
def pm_fs (T : State) (cA cC : ClassId) (N M : Nat) : Nat → State
  | 0 => T.pushCell (pm_ou cA N T.heap.size 0)
  | i + 1 => ((pm_fs T cA cC N M i).pushCell (pm_in0 cC M)).setCell T.heap.size (pm_ou cA N T.heap.size (i + 1))
section
variable (T : State) (cA cC : ClassId) (N M : Nat)
theorem pm_fs_1 : ∀ i, (pm_fs T cA cC N M i).heap.size = T.heap.size + 1 + i ∧ (pm_fs T cA cC N M i).heap[T.heap.size]? = some (pm_ou cA N T.heap.size i) ∧ (pm_fs T cA cC N M i).vm = T.vm ∧ (pm_fs T cA cC N M i).slotsUsed = T.slotsUsed + N + i * M ∧ (∀ a, a < T.heap.size → (pm_fs T cA cC N M i).heap[a]? = T.heap[a]?) ∧ ∀ j, j < i → (pm_fs T cA cC N M i).heap[T.heap.size + 1 + j]? = some (pm_in0 cC M) := by
  intro i
  induction i with
  | zero =>
    refine ⟨size_pushCell _ _, State.heap_pushCell_size _ _, rfl, ?_, fun a ha => State.heap_pushCell_of_lt _ _ ha, fun j hj => absurd hj (Nat.not_lt_zero _)⟩
    simp [pm_fs, pm_ou, arrV]
  | succ i ih =>
    obtain ⟨a1, a2, a3, a4, a5, a6⟩ := ih
    have hlt : T.heap.size < (pm_fs T cA cC N M i).heap.size := by rw [a1]; omega
    have hp : ((pm_fs T cA cC N M i).pushCell (pm_in0 cC M)).heap[T.heap.size]? = some (pm_ou cA N T.heap.size i) := by
      rw [State.heap_pushCell_of_lt _ _ hlt]; exact a2
    refine ⟨?_, State.heap_setCell_self hp, a3, ?_, fun a ha => ?_, fun j hj => ?_⟩
    · show (((pm_fs T cA cC N M i).pushCell (pm_in0 cC M)).setCell T.heap.size _).heap.size = _
      rw [size_setCell, size_pushCell, a1]; omega
    · have e : (pm_in0 cC M).slots.size = M := by unfold pm_in0; rw [arrV_size]
      simp [pm_fs, a4, e, Nat.succ_mul]; omega
    · show (((pm_fs T cA cC N M i).pushCell (pm_in0 cC M)).setCell T.heap.size _).heap[a]? = _
      rw [State.heap_setCell_other (Nat.ne_of_gt ha), State.heap_pushCell_of_lt _ _ (Nat.lt_trans ha hlt)]
      exact a5 a ha
    · show (((pm_fs T cA cC N M i).pushCell (pm_in0 cC M)).setCell T.heap.size _).heap[_]? = _
      rw [State.heap_setCell_other (show T.heap.size ≠ T.heap.size + 1 + j by omega)]
      rcases Nat.lt_or_ge j i with q | q
      · have hlt2 : T.heap.size + 1 + j < (pm_fs T cA cC N M i).heap.size := by rw [a1]; omega
        rw [State.heap_pushCell_of_lt _ _ hlt2]
        exact a6 j q
      · have e : j = i := by omega
        subst e
        rw [← a1]
        exact State.heap_pushCell_size _ _
theorem pm_fs_top (f : JFrame) : ∀ i, pm_fs (T.setTop f) cA cC N M i = (pm_fs T cA cC N M i).setTop f := by
  intro i
  induction i with
  | zero => rfl
  | succ i ih => simp only [pm_fs, ih, State.heap_setTop, State.pushCell_setTop, State.setCell_setTop]
end
section
variable {E : CtlPost} {e : Env} {d : Bool} {acts : List Action} {s : State}
theorem pm_mk1 {cC c0 : ClassId} {kC : Class} {m : Int32} (hk : s.vm.classes[cC]? = some kC) (hkind : kC.kind = .array c0 .int) (hm : ¬ m < 0) (h1 : ¬ m.toNatClampNeg > e.platform.arrayLengthLimit) (h2 : ¬ m.toNatClampNeg * 4 > e.platform.maxHeapBytes) (h3 : s.heap.size < e.platform.maxCells) (h4 : s.slotsUsed + m.toNatClampNeg ≤ e.platform.maxSlots)
    {Q : Addr → Pre} (hq : ∀ acts', Q s.heap.size d acts' (s.pushCell (pm_in0 cC m.toNatClampNeg))) : wp (Op.multianewarray.make cC [m]) Q E e d acts s := by
  rw [Op.multianewarray.make]
  simp only [wp_bind', W.ite, hm, if_false, wp_pure', W.theClass, hk, hkind, Option.some.injEq, exists_eq_left']
  refine W.newArray_of hk hkind h1 h2 h3 h4 rfl (fun acts' => ?_)
  rw [show defaultValue .int = .int 0 from rfl, pm_in0_is]
  exact hq acts'
theorem pm_mk2 {cA cC c0 : ClassId} {kA kC : Class} {n m : Int32} (hkA : s.vm.classes[cA]? = some kA) (hkindA : kA.kind = .array cC (.array .int)) (hk : s.vm.classes[cC]? = some kC) (hkind : kC.kind = .array c0 .int) (hn : ¬ n < 0) (hm : ¬ m < 0)
    (h1 : ¬ n.toNatClampNeg > e.platform.arrayLengthLimit) (h2 : ¬ n.toNatClampNeg * 4 > e.platform.maxHeapBytes) (g1 : ¬ m.toNatClampNeg > e.platform.arrayLengthLimit) (g2 : ¬ m.toNatClampNeg * 4 > e.platform.maxHeapBytes)
    (h3 : s.heap.size + 1 + n.toNatClampNeg ≤ e.platform.maxCells) (h4 : s.slotsUsed + n.toNatClampNeg + n.toNatClampNeg * m.toNatClampNeg ≤ e.platform.maxSlots)
    {Q : Addr → Pre} (hq : ∀ d' acts', Q s.heap.size d' acts' (pm_fs s cA cC n.toNatClampNeg m.toNatClampNeg n.toNatClampNeg)) : wp (Op.multianewarray.make cA [n, m]) Q E e d acts s := by
  have hfind : ([m].find? (· < 0)) = none := by simp [hm]
  rw [Op.multianewarray.make]
  simp only [wp_bind', W.ite, hn, if_false, wp_pure', W.theClass, hkA, hkindA, Option.some.injEq, exists_eq_left']
  refine W.newArray_of hkA hkindA h1 h2 (by omega) (by have := Nat.zero_le (n.toNatClampNeg * m.toNatClampNeg); omega) rfl (fun acts' => ?_)
  rw [pm_ou_zero cA n.toNatClampNeg s.heap.size]
  simp only [hfind]
  rw [ite_self, wp_bind', Std.Legacy.Range.forIn_eq_forIn_range']
  have hsz : ([:n.toNatClampNeg] : Std.Legacy.Range).size = n.toNatClampNeg := by simp [Std.Legacy.Range.size]
  rw [hsz]
  generalize hN : n.toNatClampNeg = N at *
  generalize hM : m.toNatClampNeg = M at *
  show wp (forIn (List.range' 0 N 1) PUnit.unit _) _ E e d acts' _
  refine wp_forIn_inv (fun rest s' => ∃ i, i + rest.length = N ∧ rest = List.range' i rest.length ∧ s' = pm_fs s cA cC N M i) _ _ ⟨0, by simp, by simp, rfl⟩ ?_ ?_
  · rintro x rest s' d' acts2 Q' ⟨i, hi, hl, rfl⟩ hnext
    rw [List.length_cons] at hi hl
    rw [List.range'_succ] at hl
    obtain ⟨rfl, hrest⟩ := List.cons.inj hl
    obtain ⟨f1, f2, f3, f4, -, -⟩ := pm_fs_1 s cA cC N M x
    have hmul : x * M + M ≤ N * M := by
      have := Nat.mul_le_mul_right M (show x + 1 ≤ N by omega)
      rw [Nat.succ_mul] at this; exact this
    simp only [wp_bind']
    refine pm_mk1 (by rw [f3]; exact hk) hkind hm (by rw [hM]; exact g1) (by rw [hM]; exact g2) (by rw [f1]; omega) (by rw [f4, hM]; omega) (fun acts3 => ?_)
    simp only [wp_bind', W.writeLoc, wp_pure']
    have hlt : s.heap.size < (pm_fs s cA cC N M x).heap.size := by rw [f1]; omega
    refine ⟨pm_ou cA N s.heap.size x, by rw [State.heap_pushCell_of_lt _ _ hlt]; exact f2, (fun z => by cases z), (by unfold pm_ou; rw [arrV_size]; omega), ?_, hnext _ _ _ ⟨x + 1, by omega, hrest, ?_⟩⟩
    · show (State.fitsSlot _ cA .none x _) = true
      simp [State.fitsSlot, State.slotType?, f3, hkA, hkindA]
      rfl
    · rw [f1, pm_ou_next, hM]
      rfl
  · rintro s' d' acts2 ⟨i, hi, -, rfl⟩
    simp only [List.length_nil, Nat.add_zero] at hi
    subst hi
    simp only [wp_pure']
    exact hq _ _
end
section
variable {p : Program} {l : Launch} {e : Env} {R : Room} {s : State} {m : MethodId} {args : Array Value} {below : List Frame} {meth : Method} {c : Code} {T : State} {locs : List Loc} {cells slots : Nat}
theorem pm_fs_st (X : Stand p l e R s m args below meth c T locs cells slots) (cA cC : ClassId) (N M : Nat) : ∀ i, ∃ L : List Loc, (∀ q ∈ L, q.base = T.heap.size) ∧ Stand p l e R s m args below meth c (pm_fs T cA cC N M i) (locs ++ L) (cells + 1 + i) (slots + N + i * M) := by
  intro i
  induction i with
  | zero =>
    have h := X.pushed (pm_ou cA N T.heap.size 0)
    have e : (pm_ou cA N T.heap.size 0).slots.size = N := by unfold pm_ou; rw [arrV_size]
    rw [e] at h
    exact ⟨[], fun q hq => (by cases hq), by simpa [pm_fs] using h⟩
  | succ i ih =>
    obtain ⟨L, hL, Xi⟩ := ih
    obtain ⟨f1, f2, -⟩ := pm_fs_1 T cA cC N M i
    have hlt : T.heap.size < (pm_fs T cA cC N M i).heap.size := by rw [f1]; omega
    have hp : ((pm_fs T cA cC N M i).pushCell (pm_in0 cC M)).heap[T.heap.size]? = some (pm_ou cA N T.heap.size i) := by
      rw [State.heap_pushCell_of_lt _ _ hlt]; exact f2
    have h := (Xi.pushed (pm_in0 cC M)).stored hp i (.ref (T.heap.size + 1 + i))
    have e : (pm_in0 cC M).slots.size = M := by unfold pm_in0; rw [arrV_size]
    rw [e, pm_ou_next, List.append_assoc] at h
    refine ⟨L ++ [⟨T.heap.size, i⟩], fun q hq => ?_, ?_⟩
    · rcases List.mem_append.mp hq with z | z
      · exact hL q z
      · rw [List.mem_singleton.mp z]
    · rw [show slots + N + (i + 1) * M = slots + N + i * M + M by rw [Nat.succ_mul]; omega]
      exact h
end
section
variable {p : Program} {l : Launch} {e : Env} {R : Room} {s : State} {m : MethodId} {args : Array Value} {below : List Frame} {meth : Method} {c : Code} {H : Heap} {locs : List Loc} {cells slots : Nat} {Q : State → Prop}
theorem pm_mna {cc : ByteArray} {pc : Nat} {ls : Array Slot} {rest : List Value} (hx : p.tables.exec = Jvm.exec) (hb : c.code = cc) {own : String} {index : Nat} {cA cC : ClassId} (hown : s.vm.findClass own = some m.cls) (hclink : (Cond.classLink own index "[[I").before args s = true) (hover : (Cond.arrayOver (.array .int)).before args s = true) (harr : (Cond.arrayClass .int).before args s = true)
    (hcC : s.vm.findClass "[I" = some cC) (hcA : s.vm.findClass "[[I" = some cA) {n k : Int32} (hn : ¬ n < 0) (hk : ¬ k < 0) (h1 : n.toNatClampNeg ≤ 60000) (h2 : k.toNatClampNeg ≤ 60000) (hcells : cells + (1 + n.toNatClampNeg) ≤ R.cells) (hslots : slots + (n.toNatClampNeg + n.toNatClampNeg * k.toNatClampNeg) ≤ R.slots) (hdg : decode cc pc = .ok (.multianewarray index 2, 4))
    (kk : ∀ (H' : Heap) (L : List Loc), (∀ q ∈ L, q.base = H.size) → H'.size = H.size + 1 + n.toNatClampNeg → H'[H.size]? = some (pm_ou cA n.toNatClampNeg H.size n.toNatClampNeg) → (∀ a, a < H.size → H'[a]? = H[a]?) → (∀ j, j < n.toNatClampNeg → H'[H.size + 1 + j]? = some (pm_in0 cC k.toNatClampNeg)) →
      W p l e R s m args below meth c H' (locs ++ L) (cells + 1 + n.toNatClampNeg) (slots + n.toNatClampNeg + n.toNatClampNeg * k.toNatClampNeg) Q (F0 m (pc + 4) ls (.ref H.size :: rest))) : W p l e R s m args below meth c H locs cells slots Q (F0 m pc ls (.int k :: .int n :: rest)) := by
  intro T hT X
  subst hT; subst hb
  have hpl : e.platform.magicAccessors = ({} : Platform).magicAccessors := by rw [X.admits.platform]
  obtain ⟨comp, cA', kA, hcomp, -, hkA, hkindA, hnameA⟩ := arrayOverA_spec hover
  obtain ⟨cC', kC, c0, hC1, hkC, hkindC⟩ := Cond.arrayClass_spec harr
  have e1 : comp = cC := Option.some.inj (hcomp.symm.trans hcC)
  have e2 : cC' = cC := Option.some.inj (hC1.symm.trans hcC)
  have e3 : cA' = cA := Option.some.inj (hnameA.symm.trans hcA)
  subst e1; subst e2; subst e3
  obtain ⟨c9, hfc9, hcl⟩ := Cond.classLink_spec hown hclink e.platform hpl
  cases hcA.symm.trans hfc9
  obtain ⟨hg₁, hwarm₁, hready₁⟩ := State.classEntry (e := e) X.warmed hcl
  generalize T.vm.noted m.cls index (.cls _) = vm₁ at hg₁ hwarm₁ hready₁
  have hal : s.vm.Alike vm₁ := hwarm₁.alike
  obtain ⟨kA₁, hkA₁, heA⟩ := hal.2.2 _ _ hkA
  obtain ⟨kC₁, hkC₁, heC⟩ := hal.2.2 _ _ hkC
  have hkindA₁ : kA₁.kind = .array cC' (.array .int) := by rw [heA]; exact hkindA
  have hkindC₁ : kC₁.kind = .array c0 .int := by rw [heC]; exact hkindC
  have X₁ := X.noted hwarm₁
  obtain ⟨hr1, hr2⟩ := X.roomAbove hcells hslots
  obtain ⟨L, hL, XF⟩ := pm_fs_st X₁ cA' cC' n.toNatClampNeg k.toNatClampNeg n.toNatClampNeg
  obtain ⟨f1, f2, f3, f4, f5, f6⟩ := pm_fs_1 (T.setVm vm₁) cA' cC' n.toNatClampNeg k.toNatClampNeg n.toNatClampNeg
  obtain ⟨t, a1, b1⟩ := kk (pm_fs (T.setVm vm₁) cA' cC' n.toNatClampNeg k.toNatClampNeg n.toNatClampNeg).heap L hL f1 f2 f5 f6 _ rfl XF
  refine ⟨t, ?_, b1⟩
  jvm_step X.here [hx, hdg]
  simp only [Op.multianewarray.sem, wp_bind', W.resolveClassAt_links (State.method?_setTop (F0 m pc ls (.int k :: .int n :: rest)) X.here.top) hg₁]
  rw [W.popN, if_neg (by decide)]
  refine ⟨F0 m pc ls (.int k :: .int n :: rest), State.topJava?_setTop' (s := T.setVm vm₁) _ X.here.top, [.int n, .int k], rest, rfl, rfl, ?_⟩
  simp only [List.mapM_cons, List.mapM_nil, wp_bind', wp_pure']
  refine pm_mk2 hkA₁ hkindA₁ hkC₁ hkindC₁ hn hk (by rw [Launch.admits_arrayLengthLimit X.admits]; omega) (by rw [Launch.admits_maxHeapBytes X.admits]; omega) (by rw [Launch.admits_arrayLengthLimit X.admits]; omega) (by rw [Launch.admits_maxHeapBytes X.admits]; omega) (by show T.heap.size + 1 + _ ≤ _; omega) (by show T.slotsUsed + _ + _ ≤ _; omega) (fun d' acts' => ?_)
  have eS : ((T.setTop (F0 m pc ls (.int k :: .int n :: rest))).setVm vm₁).setTop (F0 m pc ls rest) = (T.setVm vm₁).setTop (F0 m pc ls rest) := by
    show ((T.setVm vm₁).setTop _).setTop _ = _
    rw [State.setTop_setTop]
  rw [eS, pm_fs_top]
  simp only [wp_bind', W.mark, W.pushRef, State.topJava?_setTop' _ XF.here.top, Option.some.injEq, exists_eq_left', State.setTop_setTop, State.heap_setTop]
  intro acts
  simp [jvm, XF.here.top]
  exact a1
end
section
variable {p : Program} {l : Launch} {e : Env} {R : Room} {s : State} {m : MethodId} {args : Array Value} {below : List Frame} {meth : Method} {c : Code} {H : Heap} {locs : List Loc} {cells slots : Nat} {Q : State → Prop}
variable {cc : ByteArray} {i pc pc' : Nat} {ls : Array Slot} {st st' : List Value} {D : va_G} {dA : Nat → ClassId} {B : Nat} {scr : Cell} {h h' : pm_H}
theorem pm_sB_multi {idx dims len : Nat} (hx : p.tables.exec = Jvm.exec) (hb : c.code = cc) (hd : decode cc pc = .ok (.multianewarray idx dims, len)) (hlen : pm_len (.multianewarray idx dims) len = true) (hs : pm_sB i (.multianewarray idx dims) pc st h = some (pc', st', h')) (hown : s.vm.findClass (pm_nm (pm_own i)) = some m.cls)
    (hts : ∀ w ∈ lw_tbl, goodWord w = true → w.before args s = true) (hK : pm_K D dA scr s) (hR : pm_R D dA B scr h H) (hlocs : ∀ q ∈ locs, B ≤ q.base) (hcells : cells + (h'.1 - h.1) ≤ R.cells) (hslots : slots + (h'.2.1 - h.2.1) ≤ R.slots)
    (k : ∀ (H' : Heap) (locs' : List Loc), pm_R D dA B scr h' H' → (∀ q ∈ locs', B ≤ q.base) → W p l e R s m args below meth c H' locs' (cells + (h'.1 - h.1)) (slots + (h'.2.1 - h.2.1)) Q (F0 m pc' ls st')) : W p l e R s m args below meth c H locs cells slots Q (F0 m pc ls st) := by
  simp only [pm_len, beq_iff_eq] at hlen; subst hlen; simp only [pm_sB] at hs
  split at hs
  next kk x r =>
    split at hs
    next e0 =>
      obtain ⟨e1, rfl, e2, e3, e4, e5⟩ := e0
      cases hs
      have hlt : pm_key i idx < 900000 := by rw [e1]; decide
      obtain ⟨k1, k2⟩ := pm_key_ok hlt
      rw [e1] at k1 k2
      have hw := pm_wmul
      rw [k1, k2] at hw
      have hz := hR.1
      have ec : h.1 + 1 + x.toNatClampNeg - h.1 = 1 + x.toNatClampNeg := by omega
      have es : h.2.1 + x.toNatClampNeg + x.toNatClampNeg * kk.toNatClampNeg - h.2.1 = x.toNatClampNeg + x.toNatClampNeg * kk.toNatClampNeg := by omega
      simp only [ec, es] at hcells hslots k
      refine pm_mna hx hb hown (hts _ hw rfl) hK.2.2.2.2.1 (hts _ pm_ac_int rfl) (hK.1.2 0 _ rfl).2 (hK.1.2 3 _ rfl).2 (k2_nlt e2) (k2_nlt e3) e4 e5 hcells hslots hd fun H' L hL z1 g1 o1 g2 => ?_
      rw [hz] at z1 g1 g2 ⊢
      have key := k H' (locs ++ L) ⟨z1, Nat.le_trans hR.2.1 (show h.1 ≤ h.1 + 1 + x.toNatClampNeg by omega), fun a => ?_⟩ (fun q hq => ?_)
      · rw [show cells + (1 + x.toNatClampNeg) = cells + 1 + x.toNatClampNeg by omega, show slots + (x.toNatClampNeg + x.toNatClampNeg * kk.toNatClampNeg) = slots + x.toNatClampNeg + x.toNatClampNeg * kk.toNatClampNeg by omega] at key
        exact key
      · show pm_at D dA B scr a (if a = h.1 then _ else if h.1 < a ∧ a < h.1 + 1 + x.toNatClampNeg then _ else h.2.2 a) H'
        split
        next ea =>
          subst ea
          exact ⟨fun _ => ⟨hR.2.1, g1⟩, fun q => by cases q⟩
        next ea =>
          split
          next eb =>
            have := g2 (a - h.1 - 1) (by omega)
            rw [show h.1 + 1 + (a - h.1 - 1) = a by omega] at this
            exact ⟨fun _ => ⟨Nat.le_trans hR.2.1 (by omega), this⟩, fun q => by cases q⟩
          next eb =>
            refine (hR.2.2 a).kept ?_
            by_cases hq : a < H.size
            · exact o1 a hq
            · rw [Array.getElem?_eq_none (by omega), Array.getElem?_eq_none (by omega)]
      · rcases List.mem_append.mp hq with z | z
        · exact hlocs q z
        · rw [hL q z, hz]; exact hR.2.1
    next => cases hs
  next => cases hs
end
