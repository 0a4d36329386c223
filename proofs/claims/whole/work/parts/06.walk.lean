/-! ===== THE PURE MACHINE IS THE REAL ONE: calls, returns, whole methods ===== -/
theorem pm_sB_mono {i : Nat} {ins : Instr} {pc pc' : Nat} {st st' : List Value} {h h' : pm_H} (hs : pm_sB i ins pc st h = some (pc', st', h')) : h.1 ≤ h'.1 ∧ h.2.1 ≤ h'.2.1 := by
  unfold pm_sB at hs
  repeat' split at hs
  all_goals (try (cases hs; done))
  all_goals (try (cases hs; exact ⟨Nat.le_refl _, Nat.le_refl _⟩))
  all_goals (try (cases hs; exact ⟨(by (try dsimp only); omega), (by (try dsimp only); omega)⟩))
  all_goals (try (obtain ⟨v, -, h2⟩ := Option.map_eq_some_iff.mp hs; cases h2; exact ⟨Nat.le_refl _, Nat.le_refl _⟩))
  all_goals (obtain ⟨v, -, h2⟩ := Option.bind_eq_some_iff.mp hs; obtain ⟨q, -, h3⟩ := Option.map_eq_some_iff.mp h2; cases h3; exact ⟨(by (try dsimp only); omega), (by (try dsimp only); omega)⟩)
theorem pm_mono : ∀ (n d i pc : Nat) (L st : List Value) (h : pm_H) (r : Option Value) (h' : pm_H), pm_ex n d i pc L st h = some (r, h') → h.1 ≤ h'.1 ∧ h.2.1 ≤ h'.2.1 := by
  intro n
  induction n with
  | zero => intro d i pc L st h r h' he; cases he
  | succ n ih =>
    intro d i pc L st h r h' he
    unfold pm_ex at he
    split at he
    next => cases he
    next ins len hcd =>
      split at he
      next hlen =>
        split at he
        next j as rest hc =>
          split at he
          next => cases he
          next d' =>
            split at he
            next hle =>
              split at he
              next => cases he
              next r1 h1 h2 =>
                have a := ih _ _ _ _ _ _ _ _ h2
                have b := ih _ _ _ _ _ _ _ _ he
                exact ⟨Nat.le_trans a.1 b.1, Nat.le_trans a.2 b.2⟩
            next => cases he
        next hc =>
          split at he
          next r1 hr => cases he; exact ⟨Nat.le_refl _, Nat.le_refl _⟩
          next hr =>
            split at he
            next pc1 L1 st1 ha => exact ih _ _ _ _ _ _ _ _ he
            next ha =>
              split at he
              next pc1 st1 h1 hb =>
                have a := pm_sB_mono hb
                have b := ih _ _ _ _ _ _ _ _ he
                exact ⟨Nat.le_trans a.1 b.1, Nat.le_trans a.2 b.2⟩
              next => cases he
      next => cases he
theorem pm_ret_ok {i len : Nat} {ins : Instr} {st : List Value} {r : Option Value} (hr : pm_ret i ins st = some r) (hlen : pm_len ins len = true) : st = r.toList ∧ len = 1 := by
  cases ins
  case ireturn =>
    simp only [pm_len, beq_iff_eq] at hlen
    simp only [pm_ret] at hr
    split at hr
    · cases hr; exact ⟨rfl, hlen⟩
    · split at hr
      · cases hr; exact ⟨rfl, hlen⟩
      · cases hr
    · cases hr
  case lreturn =>
    simp only [pm_len, beq_iff_eq] at hlen
    simp only [pm_ret] at hr
    split at hr
    · cases hr; exact ⟨rfl, hlen⟩
    · cases hr
  case areturn =>
    simp only [pm_len, beq_iff_eq] at hlen
    simp only [pm_ret] at hr
    split at hr
    · cases hr; exact ⟨rfl, hlen⟩
    · cases hr; exact ⟨rfl, hlen⟩
    · cases hr; exact ⟨rfl, hlen⟩
    · cases hr
  case return_ =>
    simp only [pm_len, beq_iff_eq] at hlen
    simp only [pm_ret] at hr
    split at hr
    · cases hr; exact ⟨rfl, hlen⟩
    · cases hr
  all_goals (simp [pm_ret] at hr)
/-! the locals at a method's entry -/
theorem pm_sl_len : ∀ as : List Value, (lg_sl as).length = (pm_sl as).length := by
  intro as
  induction as with
  | nil => rfl
  | cons v r ih =>
    have e : (lg_sl (v :: r)).length = (if v.category = 2 then 2 else 1) + (lg_sl r).length := by
      simp only [lg_sl, List.flatMap_cons, List.length_append]
      split <;> rfl
    rw [e, ih]
    cases v <;> simp [pm_sl, Value.category] <;> omega
theorem pm_sl_mem : ∀ (as : List Value) (o k : Nat) (v : Value), (pm_sl as)[k]? = some v → pm_J v = false → (o + k, v) ∈ lv_args o as := by
  intro as
  induction as with
  | nil => intro o k v h; simp [pm_sl] at h
  | cons w r ih =>
    intro o k v h hj
    by_cases hc : w.category = 2
    · have e : pm_sl (w :: r) = w :: pm_j :: pm_sl r := by cases w <;> first | rfl | simp [Value.category] at hc
      rw [e] at h
      simp only [lv_args, hc, if_true]
      match k, h with
      | 0, h => cases h; exact List.mem_cons_self
      | 1, h => cases h; cases hj
      | k + 2, h =>
        have := ih (o + 2) k v (by simpa using h) hj
        rw [show o + 2 + k = o + (k + 2) by omega] at this
        exact List.mem_cons_of_mem _ this
    · have e : pm_sl (w :: r) = w :: pm_sl r := by cases w <;> first | rfl | simp [Value.category] at hc
      rw [e] at h
      simp only [lv_args, hc, if_false]
      match k, h with
      | 0, h => cases h; exact List.mem_cons_self
      | k + 1, h =>
        have := ih (o + 1) k v (by simpa using h) hj
        rw [show o + 1 + k = o + (k + 1) by omega] at this
        exact List.mem_cons_of_mem _ this
theorem pm_ent_len {as : List Value} {n : Nat} (h : (pm_sl as).length ≤ n) : (pm_ent as n).length = n := by
  unfold pm_ent
  rw [List.length_append, List.length_replicate]
  omega
theorem pm_ent_has {as : List Value} {n : Nat} {ls : Array Slot} (h : lv_has ls n (lv_args 0 as)) : lv_has ls n (pm_lv (pm_ent as n)) := by
  refine ⟨h.1, h.2.1, fun q hq => ?_⟩
  obtain ⟨q1, q2⟩ := pm_lv_mem.mp hq
  refine h.2.2 q ?_
  unfold pm_ent at q1
  by_cases hk : q.1 < (pm_sl as).length
  · rw [List.getElem?_append_left hk] at q1
    have := pm_sl_mem as 0 q.1 q.2 q1 q2
    rw [Nat.zero_add] at this
    exact this
  · rw [List.getElem?_append_right (by omega)] at q1
    have := List.eq_of_mem_replicate (List.mem_of_getElem? q1)
    rw [this] at q2
    cases q2
def pm_wsm (j : Nat) : List Cond := .code (pm_y j) (pm_by j) (pm_mx j) (pm_rt j) :: pm_gw
def pm_Walk (D : va_G) (dA : Nat → ClassId) (B : Nat) (scr : Cell) (n : Nat) : Prop := ∀ (d i pc : Nat) (L st : List Value) (h : pm_H) (r : Option Value) (h' : pm_H), pm_ex n d i pc L st h = some (r, h') →
  ∀ (p : Program) (l : Launch) (e : Env) (R : Room) (s : State) (m : MethodId) (args : Array Value) (below : List Frame) (meth : Method) (c : Code) (H : Heap) (locs : List Loc) (cells slots : Nat) (Q : State → Prop) (ls : Array Slot),
  p.tables.exec = Jvm.exec → c.code = pm_by i → c.maxLocals = pm_mx i → s.vm.findClass (pm_nm (pm_own i)) = some m.cls → (pm_kd i = 2 → meth.name = "<init>") → (∀ w ∈ lw_tbl, goodWord w = true → w.before args s = true) → pm_K D dA scr s → pm_R D dA B scr h H → (∀ q ∈ locs, B ≤ q.base) →
  lv_has ls (pm_mx i) (pm_lv L) → L.length = pm_mx i → d + 1 ≤ R.frames → 64 * (d + 1) ≤ R.locals → cells + (h'.1 - h.1) ≤ R.cells → slots + (h'.2.1 - h.2.1) ≤ R.slots →
  (∀ (pc' : Nat) (ls' : Array Slot) (ins : Instr) (H' : Heap) (locs' : List Loc), decode (pm_by i) pc' = .ok (ins, 1) → pm_ret i ins r.toList = some r → pm_R D dA B scr h' H' → (∀ q ∈ locs', B ≤ q.base) → W p l e R s m args below meth c H' locs' (cells + (h'.1 - h.1)) (slots + (h'.2.1 - h.2.1)) Q (F0 m pc' ls' r.toList)) →
  W p l e R s m args below meth c H locs cells slots Q (F0 m pc ls st)
theorem pm_m_mem {j : Nat} (h : j < pm_law) : pm_m j ∈ pm_ms.dropLast := by
  rw [← pm_law_ok] at h
  have h2 : pm_ms.dropLast[j]? = some pm_ms.dropLast[j] := List.getElem?_eq_getElem h
  have h3 : pm_ms[j]? = some pm_ms.dropLast[j] := by
    rw [List.getElem?_dropLast] at h2
    split at h2
    · exact h2
    · cases h2
  unfold pm_m
  rw [List.getD_eq_getElem?_getD, h3]
  exact List.getElem_mem h
theorem pm_pc (D : va_G) (dA : Nat → ClassId) (B : Nat) (scr : Cell) (h : pm_H) (as : List Value) : FrameBlind (fun (v : Array Value) (U : State) => v = as.toArray ∧ pm_R D dA B scr h U.heap ∧ pm_K D dA scr U) :=
  fun _ _ _ _ q => ⟨q.1, q.2.1, pm_K.same rfl q.2.2⟩
set_option maxHeartbeats 4000000 in
theorem pm_met {D : va_G} {dA : Nat → ClassId} {B : Nat} {scr : Cell} {n : Nat} (hw : pm_Walk D dA B scr n) {d j : Nat} {as : List Value} {h h' : pm_H} {r : Option Value} (hj : j < pm_law) (he : pm_ex n d j 0 (pm_ent as (pm_mx j)) [] h = some (r, h')) (hl : (pm_sl as).length ≤ pm_mx j) (l : Launch) :
    Met l (pm_y j) (pm_wsm j) { frames := d + 1, cells := h'.1 - h.1, slots := h'.2.1 - h.2.1, locals := 64 * (d + 1) } (fun v U => v = as.toArray ∧ pm_R D dA B scr h U.heap ∧ pm_K D dA scr U) (fun _ _ o t => o = .returned r ∧ pm_R D dA B scr h' t.heap) (h'.1 - h.1) (h'.2.1 - h.2.1) (fun a => B ≤ a) := by
  have hok := List.all_eq_true.mp pm_ms_ok _ (pm_m_mem hj)
  unfold pm_mok at hok
  simp only [Bool.and_eq_true, decide_eq_true_eq] at hok
  obtain ⟨⟨⟨⟨⟨o1, o2⟩, o3⟩, o4⟩, o5⟩, o6⟩ := hok
  refine va_MetF (cc := pm_by j) (maxL := pm_mx j) (ret := pm_rt j) o1 rfl ?_
  intro p e s m args below meth c s₁ Bd hml hv
  obtain ⟨rfl, hR, hK⟩ := hv
  have hx := Bd.exec
  have hb := Bd.bytes
  have hr := Bd.returns
  have hts := atoms_spec (ws := pm_wsm j) Bd.pre
  have hown : s.vm.findClass (pm_y j).cls = some m.cls := findClass_of_methodNamed Bd.named
  have hlocks := Bd.notSynchronized
  have hnm : meth.name = (pm_y j).name := (name_of_methodNamed Bd.named Bd.method).1
  have hlv := lv_entry as (n := pm_mx j) (by rw [pm_sl_len]; exact hl)
  rw [lg_entry_eq]
  generalize (lg_sl as ++ List.replicate (pm_mx j - (lg_sl as).length) Slot.unset).toArray = ls at hlv ⊢
  refine hw d j 0 _ [] h r h' he p l e _ s m as.toArray below meth c s.heap [] 0 0 _ ls hx hb hml (by rw [show pm_nm (pm_own j) = (pm_y j).cls from o4]; exact hown) (fun hk => ?_) (fun w h1 h2 => hts w (List.mem_cons_of_mem _ (pm_g h1 h2))) hK hR (fun q hq => by cases hq) (pm_ent_has hlv) (pm_ent_len hl) (Nat.le_refl _) (Nat.le_refl _) (Nat.le_of_eq (Nat.zero_add _)) (Nat.le_of_eq (Nat.zero_add _)) ?_
  · rw [show (pm_m j).2.2.2.2.2.1 = 2 from hk] at o6
    simp only [Bool.and_eq_true, decide_eq_true_eq] at o6
    rw [hnm]
    exact o6.1
  · intro pc' ls' ins H' locs' hd hret hR' hlocs'
    rw [Nat.zero_add, Nat.zero_add]
    have hfin : ∀ t : State, t.heap = H' → s.WarmedH t.vm → (Outcome.returned r = .returned r ∧ pm_R D dA B scr h' t.heap) := fun t ht _ => ⟨rfl, by rw [ht]; exact hR'⟩
    cases ins
    case ireturn =>
      simp only [pm_ret] at hret
      split at hret
      next v e1 e2 =>
        cases hret
        rw [e1]
        exact W.iret hx hb (hr.trans e2) hfin hlocs' hd
      next v e1 e2 =>
        split at hret
        next hv =>
          cases hret
          rw [e1]
          exact W.zret hx hb (hr.trans e2) (by rcases hv with rfl | rfl <;> rfl) hfin hlocs' hd
        next => cases hret
      next => cases hret
    case lreturn =>
      simp only [pm_ret] at hret
      split at hret
      next v e1 e2 =>
        cases hret
        rw [e1]
        exact W.lret hx hb (hr.trans e2) hfin hlocs' hd
      next => cases hret
    case areturn =>
      simp only [pm_ret] at hret
      split at hret
      next v ty e1 e2 =>
        cases hret
        rw [e1]
        exact W.aret hx hb (hr.trans e2) (Or.inl ⟨_, rfl⟩) (Or.inr ⟨_, rfl⟩) hfin hlocs' hd
      next ty e1 e2 =>
        cases hret
        rw [e1]
        exact W.aret hx hb (hr.trans e2) (Or.inl ⟨_, rfl⟩) (Or.inl rfl) hfin hlocs' hd
      next v ty e1 e2 =>
        cases hret
        rw [e1]
        exact W.aret hx hb (hr.trans e2) (Or.inr ⟨_, rfl⟩) (Or.inr ⟨_, rfl⟩) hfin hlocs' hd
      next => cases hret
    case return_ =>
      simp only [pm_ret] at hret
      split at hret
      next e1 e2 =>
        cases hret
        exact W.vret hx hb (hr.trans e2) hfin hlocs' hd
      next => cases hret
    all_goals (simp [pm_ret] at hret)
section PMW
variable {p : Program} {l : Launch} {e : Env} {R : Room} {s : State} {m : MethodId} {args : Array Value} {below : List Frame} {meth : Method} {c : Code} {H : Heap} {locs : List Loc} {cells slots : Nat} {Q : State → Prop}
/-- behind a call -/
theorem pm_call {mc ms pc : Nat} {ls : Array Slot} {st0 rest : List Value} {free : Addr → Prop} {r : Option Value} {P : Heap → Prop} (hr : va_Run p l e R s m args below meth c H locs cells slots mc ms (F0 m pc ls st0) rest (fun _ o t => o = .returned r ∧ P t.heap) free)
    (kk : ∀ (H1 : Heap) (L1 : List Loc), (∀ q ∈ L1, free q.base) → P H1 → W p l e R s m args below meth c H1 (locs ++ L1) (cells + mc) (slots + ms) Q (F0 m (pc + 3) ls (r.toList ++ rest))) : W p l e R s m args below meth c H locs cells slots Q (F0 m pc ls st0) := by
  intro T hT X
  obtain ⟨v, st₀, t, T', L, h0, X', hL, e1, e2, ⟨hv, hp⟩, st⟩ := hr T hT X
  cases hv
  obtain ⟨t2, a1, b1⟩ := kk t.heap L hL hp T' e1 X'
  exact ⟨t2, st t2 a1, b1⟩
end PMW
theorem pm_good (j : Nat) (hj : j < pm_law) : GoodIn pm_gw (pm_wsm j) := by
  intro w hw
  have hq := pm_ms_all _ (pm_m_mem hj)
  rcases List.mem_cons.mp hw with rfl | hw
  · exact ⟨pm_g hq.1 rfl, good_of_word rfl⟩
  · exact ⟨hw, good_of_word (List.mem_filter.mp hw).2⟩
set_option maxHeartbeats 4000000 in
theorem pm_cal_ok {D : va_G} {dA : Nat → ClassId} {B : Nat} {scr : Cell} {n d i j pc len : Nat} {ins : Instr} {st as rest : List Value} {h h1 : pm_H} {r1 : Option Value} (hw : pm_Walk D dA B scr n) (hc : pm_cal i ins st h = some (j, as, rest)) (hle : (pm_sl as).length ≤ pm_mx j) (he : pm_ex n d j 0 (pm_ent as (pm_mx j)) [] h = some (r1, h1)) (hlen : pm_len ins len = true)
    {p : Program} {l : Launch} {e : Env} {R : Room} {s : State} {m : MethodId} {args : Array Value} {below : List Frame} {meth : Method} {c : Code} {H : Heap} {locs : List Loc} {cells slots : Nat} {ls : Array Slot}
    (hx : p.tables.exec = Jvm.exec) (hb : c.code = pm_by i) (hml : c.maxLocals = pm_mx i) (hd : decode (pm_by i) pc = .ok (ins, len)) (hown : s.vm.findClass (pm_nm (pm_own i)) = some m.cls) (hts : ∀ w ∈ lw_tbl, goodWord w = true → w.before args s = true) (hK : pm_K D dA scr s) (hR : pm_R D dA B scr h H)
    (hsz : ls.size = pm_mx i) (hfr : d + 2 ≤ R.frames) (hlo : 64 * (d + 2) ≤ R.locals) (hcells : cells + (h1.1 - h.1) ≤ R.cells) (hslots : slots + (h1.2.1 - h.2.1) ≤ R.slots) :
    va_Run p l e R s m args below meth c H locs cells slots (h1.1 - h.1) (h1.2.1 - h.2.1) (F0 m pc ls st) rest (fun _ o t => o = .returned r1 ∧ pm_R D dA B scr h1 t.heap) (fun a => B ≤ a) := by
  have hgw : ∀ w ∈ pm_gw, w.before args s = true := fun w hw => hts w (List.mem_filter.mp hw).1 (List.mem_filter.mp hw).2
  have hfx : CallFix p m c (pm_by i) (pm_mx i) s args pm_gw (pm_nm (pm_own i)) := ⟨hx, hb, hml, hown, hgw⟩
  have pre : ∀ U : State, U.heap = H → s.WarmedH U.vm → (as.toArray = as.toArray ∧ pm_R D dA B scr h U.heap ∧ pm_K D dA scr U) := fun U hU hW => ⟨rfl, by rw [hU]; exact hR, hK.warm hW⟩
  have base : j < pm_law → (pm_ms_all (pm_m j) = pm_ms_all (pm_m j) ∧ (pm_mx j ≤ 40 ∧ ((pm_y j).cls ≠ "java/lang/invoke/MethodHandle" ∧ (pm_y j).cls ≠ "java/lang/invoke/VarHandle" ∧ (parseMethodDescriptor (pm_y j).desc).map (fun d => d.parameters.length) = some (pm_np j)) ∧ (pm_kd j = 1 → pm_cl[pm_own j]? = some (pm_clq (pm_own j)) ∧ (pm_clq (pm_own j)).1 = (pm_y j).cls) ∧ (pm_kd j = 2 → (pm_y j).name = "<init>" ∧ pm_rt j = none))) := by
    intro hj
    have hok := List.all_eq_true.mp pm_ms_ok _ (pm_m_mem hj)
    unfold pm_mok at hok
    simp only [Bool.and_eq_true, decide_eq_true_eq] at hok
    obtain ⟨⟨⟨⟨⟨o1, o2⟩, o3⟩, o4⟩, o5⟩, o6⟩ := hok
    refine ⟨rfl, o5, ⟨o2.1, o2.2, o3⟩, fun hk => ?_, fun hk => ?_⟩
    · rw [show (pm_m j).2.2.2.2.2.1 = 1 from hk] at o6
      simp only [Bool.and_eq_true, decide_eq_true_eq] at o6
      exact ⟨pm_clq_ok o6.2, o6.1⟩
    · rw [show (pm_m j).2.2.2.2.2.1 = 2 from hk] at o6
      simp only [Bool.and_eq_true, decide_eq_true_eq] at o6
      exact o6
  cases ins
  case invokestatic idx =>
    simp only [pm_len, beq_iff_eq] at hlen; subst hlen; simp only [pm_cal] at hc
    split at hc
    next j' hk =>
      split at hc
      next e0 =>
        cases hc
        obtain ⟨e1, e2, e3⟩ := e0
        have hm := pm_look hk
        have hz := List.all_eq_true.mp pm_ml_ok _ hm
        simp only [Bool.and_eq_true, decide_eq_true_eq] at hz
        obtain ⟨hj, hkk⟩ := hz
        obtain ⟨k1, k2⟩ := pm_key_ok hkk
        have hwd := pm_wm_all _ hm
        simp only [k1, k2] at hwd
        have hq := pm_ms_all _ (pm_m_mem hj)
        obtain ⟨-, b1, b2, -⟩ := base hj
        have cw := callB_of (R := R) (rm := { frames := d + 1, cells := h1.1 - h.1, slots := h1.2.1 - h.2.1, locals := 64 * (d + 1) }) (own := pm_nm (pm_own i)) (index := idx) (pm_np j) hgw (pm_good j hj) rfl rfl rfl (hts _ hq.2.1 rfl) (hts _ hwd rfl) b2 ⟨by show d + 1 + 1 ≤ _; omega, by show 8 + (_ + 11) + 64 * (d + 1) ≤ _; omega⟩
        exact va_runS hfx (pm_met hw hj he hle l) ⟨cw, hts _ (hq.2.2.1 e1) rfl⟩ ⟨pm_pc D dA B scr h _, pre⟩ rfl (by rw [List.length_reverse]; exact e2) hsz (by rw [List.reverse_reverse, List.take_append_drop]) (lv_room e3) hd ⟨hcells, hslots⟩
      next => cases hc
    next => cases hc
  case invokevirtual idx =>
    simp only [pm_len, beq_iff_eq] at hlen; subst hlen; simp only [pm_cal] at hc
    split at hc
    next j' hk =>
      split at hc
      next a r hst =>
        split at hc
        next cv fs ha =>
          split at hc
          next e0 =>
            cases hc
            obtain ⟨e1, e2, e3, e4⟩ := e0
            have hat := hR.2.2 a
            rw [ha] at hat
            have hstk : (F0 m pc ls st).stack = (st.take (pm_np j)).reverse.reverse ++ .ref a :: rest := by
              rw [List.reverse_reverse, ← hst, List.take_append_drop]
            have hmain : ∀ hj : j < pm_law, PreV s H (pm_y j).cls a (fun v U => v = (Value.ref a :: (st.take (pm_np j)).reverse).toArray ∧ pm_R D dA B scr h U.heap ∧ pm_K D dA scr U) (st.take (pm_np j)).reverse := by
              intro hj
              obtain ⟨-, b1, b2, b3, -⟩ := base hj
              obtain ⟨b4, b5⟩ := b3 e1
              obtain ⟨-, r0, hr0, cell, q1, q2, q3, q4⟩ := hat
              refine ⟨pm_pc D dA B scr h _, ⟨cell, q1, by rw [q3]; rfl, ?_⟩, pre⟩
              have hcc := (hK.1.1 (pm_own j) _ b4).2.1
              rw [b5] at hcc
              rw [q2, e2]
              exact hcc
            split at hk
            next j2 hk2 =>
              cases hk
              have hm := pm_look hk2
              have hz := List.all_eq_true.mp pm_ml_ok _ hm
              simp only [Bool.and_eq_true, decide_eq_true_eq] at hz
              obtain ⟨hj, hkk⟩ := hz
              obtain ⟨k1, k2⟩ := pm_key_ok hkk
              have hwd := pm_wm_all _ hm
              simp only [k1, k2] at hwd
              have hq := pm_ms_all _ (pm_m_mem hj)
              obtain ⟨-, b1, b2, -⟩ := base hj
              have cw := callB_of (R := R) (rm := { frames := d + 1, cells := h1.1 - h.1, slots := h1.2.1 - h.2.1, locals := 64 * (d + 1) }) (own := pm_nm (pm_own i)) (index := idx) (pm_np j) hgw (pm_good j hj) rfl rfl rfl (hts _ hq.2.1 rfl) (hts _ hwd rfl) b2 ⟨by show d + 1 + 1 ≤ _; omega, by show 8 + (_ + 11) + 64 * (d + 1) ≤ _; omega⟩
              exact va_runV hfx (pm_met hw hj he hle l) ⟨cw, hts _ (hq.2.2.2.1 e1).1 rfl, hts _ (hq.2.2.2.1 e1).2 rfl⟩ (hmain hj) rfl (by rw [List.length_reverse]; exact e3) hsz hstk (lv_room e4) hd ⟨hcells, hslots⟩
            next hk2 =>
              have hm := pm_look hk
              have hz := List.all_eq_true.mp pm_nl_ok _ hm
              simp only [Bool.and_eq_true, decide_eq_true_eq] at hz
              obtain ⟨hj, hkk⟩ := hz
              obtain ⟨k1, k2⟩ := pm_key_ok hkk
              have hwd := hK.2.2.2.2.2 _ hm
              unfold pm_nw at hwd
              simp only [k1, k2] at hwd
              have hq := pm_ms_all _ (pm_m_mem hj)
              obtain ⟨-, b1, b2, -⟩ := base hj
              have cw := va_cnB (R := R) (rm := { frames := d + 1, cells := h1.1 - h.1, slots := h1.2.1 - h.2.1, locals := 64 * (d + 1) }) (own := pm_nm (pm_own i)) (index := idx) (pm_np j) hgw (pm_good j hj) rfl rfl rfl hwd (hts _ hq.2.1 rfl) b2 ⟨by show d + 1 + 1 ≤ _; omega, by show 8 + (_ + 11) + 64 * (d + 1) ≤ _; omega⟩
              exact va_runVN hfx (pm_met hw hj he hle l) ⟨cw, hts _ (hq.2.2.2.1 e1).1 rfl, hts _ (hq.2.2.2.1 e1).2 rfl⟩ (hmain hj) rfl (by rw [List.length_reverse]; exact e3) hsz hstk (lv_room e4) hd ⟨hcells, hslots⟩
          next => cases hc
        next => cases hc
      next => cases hc
    next => cases hc
  case invokespecial idx =>
    simp only [pm_len, beq_iff_eq] at hlen; subst hlen; simp only [pm_cal] at hc
    split at hc
    next j' hk =>
      split at hc
      next a r hst =>
        split at hc
        next e0 =>
          cases hc
          obtain ⟨e1, e3, e4⟩ := e0
          have hstk : (F0 m pc ls st).stack = (st.take (pm_np j)).reverse.reverse ++ .ref a :: rest := by
            rw [List.reverse_reverse, ← hst, List.take_append_drop]
          have hmain : PreS s H (fun v U => v = (Value.ref a :: (st.take (pm_np j)).reverse).toArray ∧ pm_R D dA B scr h U.heap ∧ pm_K D dA scr U) (.ref a :: (st.take (pm_np j)).reverse) := ⟨pm_pc D dA B scr h _, pre⟩
          split at hk
          next j2 hk2 =>
            cases hk
            have hm := pm_look hk2
            have hz := List.all_eq_true.mp pm_ml_ok _ hm
            simp only [Bool.and_eq_true, decide_eq_true_eq] at hz
            obtain ⟨hj, hkk⟩ := hz
            obtain ⟨k1, k2⟩ := pm_key_ok hkk
            have hwd := pm_wm_all _ hm
            simp only [k1, k2] at hwd
            have hq := pm_ms_all _ (pm_m_mem hj)
            obtain ⟨-, b1, b2, -, b6⟩ := base hj
            obtain ⟨b7, b8⟩ := b6 e1
            have cw := callB_of (R := R) (rm := { frames := d + 1, cells := h1.1 - h.1, slots := h1.2.1 - h.2.1, locals := 64 * (d + 1) }) (own := pm_nm (pm_own i)) (index := idx) (pm_np j) hgw (pm_good j hj) rfl rfl rfl (hts _ hq.2.1 rfl) (hts _ hwd rfl) b2 ⟨by show d + 1 + 1 ≤ _; omega, by show 8 + (_ + 11) + 64 * (d + 1) ≤ _; omega⟩
            rw [b8] at cw
            exact va_runI hfx (pm_met hw hj he hle l) ⟨cw, b7, hts _ (hq.2.2.2.2 e1) rfl⟩ hmain rfl (by rw [List.length_reverse]; exact e3) hsz hstk (lv_room e4) hd ⟨hcells, hslots⟩
          next hk2 =>
            have hm := pm_look hk
            have hz := List.all_eq_true.mp pm_nl_ok _ hm
            simp only [Bool.and_eq_true, decide_eq_true_eq] at hz
            obtain ⟨hj, hkk⟩ := hz
            obtain ⟨k1, k2⟩ := pm_key_ok hkk
            have hwd := hK.2.2.2.2.2 _ hm
            unfold pm_nw at hwd
            simp only [k1, k2] at hwd
            have hq := pm_ms_all _ (pm_m_mem hj)
            obtain ⟨-, b1, b2, -, b6⟩ := base hj
            obtain ⟨b7, b8⟩ := b6 e1
            have cw := va_cnB (R := R) (rm := { frames := d + 1, cells := h1.1 - h.1, slots := h1.2.1 - h.2.1, locals := 64 * (d + 1) }) (own := pm_nm (pm_own i)) (index := idx) (pm_np j) hgw (pm_good j hj) rfl rfl rfl hwd (hts _ hq.2.1 rfl) b2 ⟨by show d + 1 + 1 ≤ _; omega, by show 8 + (_ + 11) + 64 * (d + 1) ≤ _; omega⟩
            rw [b8] at cw
            exact va_runIN hfx (pm_met hw hj he hle l) ⟨cw, b7, hts _ (hq.2.2.2.2 e1) rfl⟩ hmain rfl (by rw [List.length_reverse]; exact e3) hsz hstk (lv_room e4) hd ⟨hcells, hslots⟩
        next => cases hc
      next => cases hc
    next => cases hc
  all_goals (simp [pm_cal] at hc)
set_option maxHeartbeats 4000000 in
theorem pm_walk (D : va_G) (dA : Nat → ClassId) (B : Nat) (scr : Cell) : ∀ n, pm_Walk D dA B scr n := by
  intro n
  induction n with
  | zero => intro d i pc L st h r h' he; cases he
  | succ n ih =>
    intro d i pc L st h r h' he p l e R s m args below meth c H locs cells slots Q ls hx hb hml hown hini hts hK hR hlocs hlv hLn hfr hlo hcells hslots fin
    have hmono := pm_mono _ _ _ _ _ _ _ _ _ he
    unfold pm_ex at he
    split at he
    next => cases he
    next ins len hcd =>
      have hd : decode (pm_by i) pc = .ok (ins, len) := by
        unfold pm_cd at hcd
        split at hcd
        next x hx => cases hcd; exact hx
        next => cases hcd
      split at he
      next hlen =>
        split at he
        next j as rest hc =>
          split at he
          next => cases he
          next d' =>
            split at he
            next hle =>
              split at he
              next => cases he
              next r1 h1 h2 =>
                have m1 := pm_mono _ _ _ _ _ _ _ _ _ h2
                have m2 := pm_mono _ _ _ _ _ _ _ _ _ he
                refine pm_call (pm_cal_ok ih hc hle h2 hlen hx hb hml hd hown hts hK hR hlv.1 (by omega) (by omega) (by omega) (by omega)) fun H1 L1 hL1 hR1 => ?_
                have ec : cells + (h1.1 - h.1) + (h'.1 - h1.1) = cells + (h'.1 - h.1) := by omega
                have es : slots + (h1.2.1 - h.2.1) + (h'.2.1 - h1.2.1) = slots + (h'.2.1 - h.2.1) := by omega
                refine ih (d' + 1) i (pc + 3) L (r1.toList ++ rest) h1 r h' he p l e R s m args below meth c H1 (locs ++ L1) _ _ Q ls hx hb hml hown hini hts hK hR1 (fun q hq => (List.mem_append.mp hq).elim (hlocs q) (hL1 q)) hlv hLn hfr hlo (by omega) (by omega) ?_
                rw [ec, es]
                exact fin
            next => cases he
        next hc =>
          split at he
          next r1 hr =>
            cases he
            obtain ⟨rfl, rfl⟩ := pm_ret_ok hr hlen
            have := fin pc ls ins H locs hd hr hR hlocs
            simp only [Nat.sub_self, Nat.add_zero] at this
            exact this
          next hr =>
            split at he
            next pc1 L1 st1 ha =>
              refine pm_sA_ok hx hb hd hlen ha hlv hLn fun ls' hl' hn' => ?_
              exact ih d i pc1 L1 st1 h r h' he p l e R s m args below meth c H locs cells slots Q ls' hx hb hml hown hini hts hK hR hlocs hl' hn' hfr hlo hcells hslots fin
            next ha =>
              split at he
              next pc1 st1 h1 hB =>
                have m1 := pm_sB_mono hB
                have m2 := pm_mono _ _ _ _ _ _ _ _ _ he
                refine pm_sB_ok hx hb hd hlen hB hown hini hts hK hR hlocs (hlv.1.trans hml.symm) (by omega) (by omega) (by omega) (by omega) fun H1 L1 hR1 hL1 => ?_
                have ec : cells + (h1.1 - h.1) + (h'.1 - h1.1) = cells + (h'.1 - h.1) := by omega
                have es : slots + (h1.2.1 - h.2.1) + (h'.2.1 - h1.2.1) = slots + (h'.2.1 - h.2.1) := by omega
                refine ih d i pc1 L st1 h1 r h' he p l e R s m args below meth c H1 L1 _ _ Q ls hx hb hml hown hini hts hK hR1 hL1 hlv hLn hfr hlo (by omega) (by omega) ?_
                rw [ec, es]
                exact fin
              next => cases he
      next => cases he
