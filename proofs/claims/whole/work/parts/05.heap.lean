/-! ===== THE PURE MACHINE IS THE REAL ONE: heap and pool ===== -/
def pm_tys (dA : Nat → ClassId) : List (ClassId × FieldType) := [(dA 0, .int), (dA 1, .long), (dA 2, .boolean), (dA 3, .array .int), (dA 4, .object RX0)]
/-- what is known of the classes -/
def pm_K (D : va_G) (dA : Nat → ClassId) (scr : Cell) (U : State) : Prop := va_K D pm_cl (pm_tys dA) U ∧ U.isArrayOf scr .int ∧ scr.vm ≠ .unknown ∧ va_AO RX0 U ∧ (Cond.arrayOver (.array .int)).before #[] U = true ∧ ∀ q ∈ pm_nl, va_Nw (pm_nw q) U
theorem pm_K.warm {D : va_G} {dA : Nat → ClassId} {scr : Cell} {s U : State} (hW : s.WarmedH U.vm) (h : pm_K D dA scr s) : pm_K D dA scr U :=
  ⟨h.1.moved hW.alike, State.isArrayOf_alike hW.alike h.2.1, h.2.2.1, h.2.2.2.1.moved hW.alike, over_moved hW.alike h.2.2.2.2.1, fun q hq => va_Nw.warmM hW (h.2.2.2.2.2 q hq)⟩
theorem pm_K.same {D : va_G} {dA : Nat → ClassId} {scr : Cell} {s U : State} (hv : s.vm = U.vm) (h : pm_K D dA scr s) : pm_K D dA scr U := by
  have ha : s.vm.Alike U.vm := by rw [hv]; exact Vm.Alike.refl _
  exact ⟨h.1.moved ha, State.isArrayOf_alike ha h.2.1, h.2.2.1, h.2.2.2.1.moved ha, over_moved ha h.2.2.2.2.1, fun q hq => va_Nw.same rfl hv (h.2.2.2.2.2 q hq)⟩
/-- a cell of the pure heap and the real one; from B on they are ours -/
def pm_at (D : va_G) (dA : Nat → ClassId) (B : Nat) (scr : Cell) (a : Nat) (v : pm_E) (H : Heap) : Prop := match v with
  | .inl x => (x.1 < 5 → B ≤ a ∧ H[a]? = some (vp_cell (dA x.1) x.2)) ∧ (x.1 = 9 → a < B ∧ H[a]? = some scr ∧ ∃ z : Nat → Int32, x.2.2 = .inl z ∧ scr.slots.size = x.2.1 ∧ ∀ j, j < x.2.1 → scr.slots[j]? = some (.int (z j)))
  | .inr o => B ≤ a ∧ va_at D pm_cl (a, .inr o) H
def pm_R (D : va_G) (dA : Nat → ClassId) (B : Nat) (scr : Cell) (h : pm_H) (H : Heap) : Prop := H.size = h.1 ∧ B ≤ h.1 ∧ ∀ a, pm_at D dA B scr a (h.2.2 a) H
theorem pm_at.kept {D : va_G} {dA : Nat → ClassId} {B : Nat} {scr : Cell} {a : Nat} {v : pm_E} {H H1 : Heap} (h : pm_at D dA B scr a v H) (hq : H1[a]? = H[a]?) : pm_at D dA B scr a v H1 := by
  cases v with
  | inl x => exact ⟨fun t => ⟨(h.1 t).1, hq.trans (h.1 t).2⟩, fun t => ⟨(h.2 t).1, hq.trans (h.2 t).2.1, (h.2 t).2.2⟩⟩
  | inr o => exact ⟨h.1, h.2.kept hq⟩
theorem pm_R.put {D : va_G} {dA : Nat → ClassId} {B : Nat} {scr : Cell} {h : pm_H} {H H1 : Heap} {a : Nat} {v : pm_E} (hR : pm_R D dA B scr h H) (z : H1.size = H.size) (o : ∀ q : Nat, q ≠ a → H1[q]? = H[q]?) (hv : pm_at D dA B scr a v H1) : pm_R D dA B scr (h.1, h.2.1, pm_up h.2.2 a v) H1 := by
  refine ⟨z.trans hR.1, hR.2.1, fun q => ?_⟩
  show pm_at D dA B scr q (pm_up h.2.2 a v q) H1
  unfold pm_up
  split
  next e => subst e; exact hv
  next e => exact (hR.2.2 q).kept (o q e)
theorem pm_R.push {D : va_G} {dA : Nat → ClassId} {B : Nat} {scr : Cell} {h : pm_H} {H H1 : Heap} {v : pm_E} (sl : Nat) (hR : pm_R D dA B scr h H) (z : H1.size = H.size + 1) (o : ∀ q : Nat, q < H.size → H1[q]? = H[q]?) (hv : pm_at D dA B scr h.1 v H1) : pm_R D dA B scr (h.1 + 1, sl, pm_up h.2.2 h.1 v) H1 := by
  refine ⟨by show H1.size = h.1 + 1; rw [z, hR.1], Nat.le_succ_of_le hR.2.1, fun q => ?_⟩
  show pm_at D dA B scr q (pm_up h.2.2 h.1 v q) H1
  unfold pm_up
  split
  next e => subst e; exact hv
  next e =>
    have hz := hR.1
    refine (hR.2.2 q).kept ?_
    by_cases hq : q < H.size
    · exact o q hq
    · rw [Array.getElem?_eq_none (by omega), Array.getElem?_eq_none (by omega)]
theorem pm_in_ok {x : Int32} {n : Nat} (h : pm_in x n = true) : vp_in x n := by
  unfold pm_in at h
  simp only [Bool.and_eq_true, decide_eq_true_eq] at h
  rintro (q | q)
  · exact k2_nlt h.1 q
  · omega
theorem pm_fit_ok {ty : FieldType} {v : Value} (h : pm_fit ty v = true) : narrow ty v = v ∧ fits ty v = true := by
  cases ty <;> cases v <;> simp [pm_fit] at h <;> first | exact ⟨rfl, rfl⟩ | (rcases h with h | h <;> subst h <;> decide)
theorem pm_clq_ok {c : Nat} (h : c < pm_cl.length) : pm_cl[c]? = some (pm_clq c) := by
  unfold pm_clq
  rw [List.getD_eq_getElem?_getD, List.getElem?_eq_getElem h]
  rfl
theorem pm_mem_gw {w : Cond} {args : Array Value} {s : State} (hts : ∀ w ∈ lw_tbl, goodWord w = true → w.before args s = true) (h : w ∈ lw_tbl) (g : goodWord w = true) : w.before args s = true := hts w h g
section PMB
variable {p : Program} {l : Launch} {e : Env} {R : Room} {s : State} {m : MethodId} {args : Array Value} {below : List Frame} {meth : Method} {c : Code} {H : Heap} {locs : List Loc} {cells slots : Nat} {Q : State → Prop}
variable {cc : ByteArray} {i pc pc' len : Nat} {ls : Array Slot} {st st' : List Value} {ins : Instr} {D : va_G} {dA : Nat → ClassId} {B : Nat} {scr : Cell} {h h' : pm_H}
theorem pm_locs {a j : Nat} (hl : ∀ q ∈ locs, B ≤ q.base) (ha : B ≤ a) : ∀ q ∈ locs ++ [⟨a, j⟩], B ≤ q.base := by
  intro q hq
  rcases List.mem_append.mp hq with z | z
  · exact hl q z
  · rw [List.mem_singleton.mp z]; exact ha
set_option maxHeartbeats 4000000 in
/-- a store into an array -/
theorem pm_sto {t n : Nat} {f : Nat → Value} {x : Int32} {v : Value} {a : Nat} {H1 : Heap} {y y' : vp_A} (hc : vp_cell (dA t) y = arrV (dA t) n f) (hc' : vp_cell (dA t) y' = arrV (dA t) n (updV f x.toNatClampNeg v)) (ht : t < 5) (hR : pm_R D dA B scr h H) (ha : B ≤ a)
    (e : H1[a]? = some ((vp_cell (dA t) y).setSlot x.toNatClampNeg v)) (z : H1.size = H.size) (o : ∀ q : Nat, q ≠ a → H1[q]? = H[q]?) : pm_R D dA B scr (h.1, h.2.1, pm_up h.2.2 a (.inl (t, y'))) H1 := by
  refine hR.put z o ⟨fun _ => ⟨ha, ?_⟩, fun q => absurd q (by show ¬ t = 9; omega)⟩
  show H1[a]? = some (vp_cell (dA t) y')
  rw [e, hc, hc', arrV_store]
end PMB
