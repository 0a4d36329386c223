/-! THE CLAIM OUT OF ONE WALK OF THE LAW'S BODY. Your part is whole_start (and what it stands on); all else here is the same for every law, but numbers. -/
def R_law : String := "ViewsJoinsLaw"
def lw_P (b : Addr) (xs : List Int32) (args : Array Value) (s : State) : Prop := args = #[.ref b] ∧ s.IntsAt b xs ∧ xs.length ≤ 3072 ∧ (Jvm.Cond.and given_1 narrow_1).before args s = true
def lw_Q (_ : Array Value) (s : State) (o : Outcome) (t : State) : Prop := o = .returned (some (.int 1)) ∧ Framed s o t [] 600000 7302250
def lw_Z (below : List Frame) (a : Array Value) (s : State) : State → Prop := fun t => ∃ o, t.status = .running ∧ Ended t below o ∧ lw_Q a s o t
/-- the law's own end, with 1 on the stack, nothing written that was there before, its room as the claim has it -/
theorem lw_ret {p : Program} {l : Launch} {e : Env} {s : State} {m : MethodId} {below : List Frame} {meth : Method} {c : Code} {b : Nat} (hx : p.tables.exec = Jvm.exec) (hb : c.code = code) (hr : meth.sig.returnType = ret) (hlocks : meth.locks = false) {pc : Nat} {H : Heap} {ls : Array Slot} (hdg : decode code pc = .ok (.ireturn, 1)) : W p l e room_1 s m #[Value.ref b] below meth c H [] 600000 7302250 (lw_Z below #[Value.ref b] s) (F0 m pc ls [.int 1]) := by
  intro T hT X
  obtain ⟨fs, hret, hrun, hended, hW, hframe⟩ := X.leave (v := some (.int 1)) (hlocks := hlocks) (fun h => by rw [hr] at h; cases h)
  have hmeth' : T.vm.method? m = some meth := X.method'
  refine ⟨T.setFrames fs, ?_, .returned (some (.int 1)), hrun, hended, rfl, ⟨_, rfl⟩, hW, hframe⟩
  jvm_step X.here [X.here.top, hx, hb, hdg, hmeth', hr, ret, narrow_b1]
  (try refine ⟨rfl, ?_⟩); (try refine ⟨rfl, ?_⟩)
  first | (intro acts; rw [hret _ acts rfl rfl rfl]) | rw [hret _ _ rfl rfl rfl]
  exact Steps.refl _
/-- what holds at the law's entry: the machine, the code, the tables' words (any of lw_tbl by 'hts w (by decide +kernel)'), the script of L ints xs at the cell b, what the Statement gives of the start (any of its parts by flat_of_before) -/
def lw_At (p : Program) (s : State) (m : MethodId) (meth : Method) (c : Code) (b L : Nat) (xs : Nat → Int32) : Prop :=
  p.tables.exec = Jvm.exec ∧ c.code = code ∧ meth.sig.returnType = ret ∧ c.maxLocals = 4 ∧ s.vm.findClass R_law = some m.cls ∧ (∀ w ∈ lw_tbl, w.before #[Value.ref b] s = true) ∧ va_X b L xs s s.heap ∧ b < s.heap.size ∧ meth.locks = false ∧ (Jvm.Cond.and given_1 narrow_1).before #[Value.ref b] s = true
/-! ===== THE CLAIM OUT OF THE PURE MACHINE ===== -/
/-- the heap at the law's entry: the script alone -/
def pm_h0 (b B L : Nat) (xs : Nat → Int32) : pm_H := (B, 0, fun a => if a = b then .inl (9, L, .inl xs) else .inl (8, 0, .inl fun _ => 0))
/-- the claim, purely: on every script the law comes to its end with 1, within the room -/
def pm_goal : Prop := ∀ (b B L : Nat) (xs : Nat → Int32), b < B → L ≤ 3072 → ∃ (n : Nat) (h' : pm_H), pm_ex n 1000 pm_law 0 (pm_ent [.ref b] (pm_mx pm_law)) [] (pm_h0 b B L xs) = some (some (.int 1), h') ∧ h'.1 ≤ B + 600000 ∧ h'.2.1 ≤ 7302250
theorem pm_law_by : pm_by pm_law = code := by
  have e : pm_law = 145 := by decide +kernel
  rw [e]
  rfl
theorem pm_law_mx : pm_mx pm_law = 4 := by decide +kernel
theorem pm_law_kd : pm_kd pm_law = 0 := by decide +kernel
theorem pm_law_nm : pm_nm (pm_own pm_law) = R_law := by decide +kernel
theorem pm_known {args : Array Value} {s : State} (hts : ∀ w ∈ lw_tbl, w.before args s = true) : ∃ D : va_G, ∀ (k : Nat) (q : vw_C), pm_cl[k]? = some q → u_Kn s q.1 q.2.1 q.2.2 (D.1 k) (D.2 k) := by
  have key : ∀ k : Nat, ∃ x : ClassId × (Nat → Nat), ∀ q : vw_C, pm_cl[k]? = some q → u_Kn s q.1 q.2.1 q.2.2 x.1 x.2 := by
    intro k
    cases hq : pm_cl[k]? with
    | none => exact ⟨(0, fun _ => 0), fun q h => by cases h⟩
    | some q =>
      have hc := pm_cq_all q (List.mem_of_getElem? hq)
      obtain ⟨cC, iS, hK⟩ := u_known (T := q.2.1) (N := q.2.2) hts hc.1 (hts _ hc.2.1)
      exact ⟨(cC, iS), fun q' h => by cases h; exact hK⟩
  exact ⟨(fun k => (Classical.choose (key k)).1, fun k => (Classical.choose (key k)).2), fun k q h => Classical.choose_spec (key k) q h⟩
theorem pm_prim {args : Array Value} {s : State} {ty : FieldType} (h : (Cond.arrayClass ty).before args s = true) : ∃ cA, ArrOfT s cA ty ∧ s.vm.findClass ("[" ++ ty.toString) = some cA := by
  obtain ⟨cA, kA, comp, h1, h2, h3⟩ := Cond.arrayClass_spec h
  exact ⟨cA, fun n z => ⟨fun k h => (by cases h), kA, h2, comp, h3⟩, h1⟩
theorem pm_K0 {args : Array Value} {s : State} {scr : Cell} (hts : ∀ w ∈ lw_tbl, w.before args s = true) (h1 : s.isArrayOf scr .int) (h2 : scr.vm ≠ .unknown) : ∃ (D : va_G) (dA : Nat → ClassId), pm_K D dA scr s := by
  obtain ⟨D, hD⟩ := pm_known hts
  obtain ⟨a0, x0, y0⟩ := pm_prim (hts _ pm_ac_int)
  obtain ⟨a1, x1, y1⟩ := pm_prim (hts _ pm_ac_long)
  obtain ⟨a2, x2, y2⟩ := pm_prim (hts _ pm_ac_boolean)
  obtain ⟨c3, a3, k3, f1, -, f3, f4, f5⟩ := arrayOverA_spec (hts _ pm_ao_r)
  obtain ⟨c4, a4, k4, g1, -, g3, g4, g5⟩ := Cond.arrayOver_spec (hts _ pm_ao_q)
  refine ⟨D, fun t => match t with | 0 => a0 | 1 => a1 | 2 => a2 | 3 => a3 | _ => a4, ⟨hD, fun k q hq => ?_⟩, h1, h2, va_AO.of (hts _ pm_ao_q), over_moved (Vm.Alike.refl _) (hts _ pm_ao_r), fun q hq => va_Nw.of rfl (hts _ (pm_wn_all q hq))⟩
  match k, hq with
  | 0, hq => cases hq; exact ⟨x0, y0⟩
  | 1, hq => cases hq; exact ⟨x1, y1⟩
  | 2, hq => cases hq; exact ⟨x2, y2⟩
  | 3, hq => cases hq; exact ⟨fun n z => ⟨fun k h => (by cases h), k3, f3, c3, f4⟩, f5⟩
  | 4, hq => cases hq; exact ⟨fun n z => ⟨fun k h => (by cases h), k4, g3, c4, g4⟩, k4, c4, g3, g4, g1, g5⟩
  | k + 5, hq => simp [pm_tys] at hq
set_option maxHeartbeats 4000000 in
theorem pm_whole (hg : pm_goal) {p : Program} {e : Env} {s : State} {m : MethodId} {below : List Frame} {meth : Method} {c : Code} (l : Launch) {b L : Nat} {xs : Nat → Int32} (hL : L ≤ 3072) (C0 : lw_At p s m meth c b L xs) : W p l e room_1 s m #[Value.ref b] below meth c s.heap [] 0 0 (lw_Z below #[Value.ref b] s) (entryFrame m ([Value.ref b] : List Value).toArray 4) := by
  obtain ⟨hx, hb, hr, hml, hown, hts, hX, hbl, hlocks, hgv⟩ := id C0
  obtain ⟨scr, g1, g2, g3, g4, g5⟩ := hX
  obtain ⟨D, dA, hK⟩ := pm_K0 hts g2 g3
  obtain ⟨n, h', he, hc1, hc2⟩ := hg b s.heap.size L xs hbl hL
  have hlv := lv_entry ([.ref b] : List Value) (n := 4) (Nat.le_of_ble_eq_true rfl)
  rw [lg_entry_eq]
  generalize (lg_sl ([.ref b] : List Value) ++ List.replicate (4 - (lg_sl ([.ref b] : List Value)).length) Slot.unset).toArray = ls at hlv ⊢
  have hR : pm_R D dA s.heap.size scr (pm_h0 b s.heap.size L xs) s.heap := by
    refine ⟨rfl, Nat.le_refl _, fun a => ?_⟩
    show pm_at D dA s.heap.size scr a (if a = b then .inl (9, L, .inl xs) else .inl (8, 0, .inl fun _ => 0)) s.heap
    split
    next ea => subst ea; exact ⟨fun z => absurd z (show ¬ (9 : Nat) < 5 by decide), fun _ => ⟨hbl, g1, xs, rfl, g4, g5⟩⟩
    next => exact ⟨fun z => absurd z (show ¬ (8 : Nat) < 5 by decide), fun z => absurd z (show ¬ (8 : Nat) = 9 by decide)⟩
  refine pm_walk D dA s.heap.size scr n 1000 pm_law 0 _ [] _ _ h' he p l e room_1 s m #[Value.ref b] below meth c s.heap [] 0 0 _ ls hx (hb.trans pm_law_by.symm) (hml.trans pm_law_mx.symm) (by rw [pm_law_nm]; exact hown) (fun hk => absurd (pm_law_kd.symm.trans hk) (by decide)) (fun w h1 _ => hts w h1) hK hR (fun q hq => by cases hq) (by rw [pm_law_mx]; exact pm_ent_has hlv) (by rw [pm_law_mx]; rfl) (by decide) (by decide) (by show 0 + (h'.1 - s.heap.size) ≤ 600000; omega) (by show 0 + (h'.2.1 - 0) ≤ 7302250; omega) ?_
  intro pc' ls' ins H' locs' hd hret hR' hlocs'
  rw [pm_law_by] at hd
  refine va_forget hlocs' (W.widen (k := 600000) (n := 7302250) (by show 0 + (h'.1 - s.heap.size) ≤ 600000; omega) (by show 0 + (h'.2.1 - 0) ≤ 7302250; omega) ?_)
  cases ins
  case ireturn => exact lw_ret hx hb hr hlocks hd
  case lreturn => simp [pm_ret] at hret
  case areturn => simp [pm_ret] at hret
  case return_ => simp [pm_ret] at hret
  all_goals (simp [pm_ret] at hret)
