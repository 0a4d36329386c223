/-! ===== the typed machine: whole runs; the predicate pm_V by which methods are walked ===== -/
theorem pm_mo_no : pm_mo.all (fun k => (pm_ml.lookup k).isNone && (pm_nl.lookup k).isNone) = true := by decide +kernel
theorem pm_cal_no {i pc len : Nat} {ins : Instr} {L st : List Value} {S : pm_T} (h : pm_cat i ins st S = none) (hs : (∃ r, pm_ret i ins st = some r) ∨ (∃ x, pm_sA ins len pc L st = some x) ∨ (∃ x, pm_sC i ins pc st S = some x)) : pm_cal i ins st (pm_hp S) = none := by
  cases ins
  case invokestatic idx => exact h
  case invokespecial idx => exact h
  case invokevirtual idx =>
    rcases hs with ⟨r, hs⟩ | ⟨r, hs⟩ | ⟨r, hs⟩
    · simp [pm_ret] at hs
    · simp [pm_sA] at hs
    · simp [pm_sC] at hs
  all_goals rfl
theorem pm_ey_ok : ∀ (n d i pc : Nat) (L st : List Value) (S : pm_T) (r : Option Value) (S' : pm_T), pm_ey n d i pc L st S = some (r, S') → pm_ex n d i pc L st (pm_hp S) = some (r, pm_hp S') := by
  intro n
  induction n with
  | zero => intro d i pc L st S r S' he; cases he
  | succ n ih =>
    intro d i pc L st S r S' he
    unfold pm_ey at he
    unfold pm_ex
    split at he
    next => cases he
    next ins len hcd =>
      rw [hcd]
      dsimp only
      split at he
      next hlen =>
        rw [if_pos hlen]
        split at he
        next j as rest hc =>
          rw [pm_cat_ok hc]
          dsimp only
          split at he
          next => cases he
          next d' =>
            dsimp only
            split at he
            next hle =>
              rw [if_pos hle]
              split at he
              next => cases he
              next r1 S1 h2 =>
                rw [ih _ _ _ _ _ _ _ _ h2]
                exact ih _ _ _ _ _ _ _ _ he
            next => cases he
        next hc =>
          split at he
          next r1 hr =>
            rw [pm_cal_no (pc := pc) (len := len) (L := L) hc (Or.inl ⟨_, hr⟩), hr]
            cases he
            rfl
          next hr =>
            split at he
            next pc1 L1 st1 ha =>
              rw [pm_cal_no (pc := pc) (len := len) (L := L) hc (Or.inr (Or.inl ⟨_, ha⟩)), hr, ha]
              exact ih _ _ _ _ _ _ _ _ he
            next ha =>
              split at he
              next pc1 st1 S1 hb =>
                rw [pm_cal_no (pc := pc) (len := len) (L := L) hc (Or.inr (Or.inr ⟨_, hb⟩)), hr, ha]
                dsimp only
                rw [pm_sC_ok hb]
                exact ih _ _ _ _ _ _ _ _ he
              next => cases he
      next => cases he
theorem pm_ey_up : ∀ (n d i pc : Nat) (L st : List Value) (S : pm_T) (x : Option Value × pm_T), pm_ey n d i pc L st S = some x → pm_ey (n + 1) d i pc L st S = some x := by
  intro n
  induction n with
  | zero => intro d i pc L st S x he; cases he
  | succ n ih =>
    intro d i pc L st S x he
    unfold pm_ey at he ⊢
    split at he
    next => cases he
    next ins len hcd =>
      try rw [hcd]
      try dsimp only
      split at he
      next hlen =>
        try rw [if_pos hlen]
        split at he
        next j as rest hc =>
          try rw [hc]
          try dsimp only
          split at he
          next => cases he
          next d' =>
            try dsimp only
            split at he
            next hle =>
              try rw [if_pos hle]
              split at he
              next => cases he
              next r1 S1 h2 =>
                rw [ih _ _ _ _ _ _ _ h2]
                exact ih _ _ _ _ _ _ _ he
            next => cases he
        next hc =>
          try rw [hc]
          try dsimp only
          split at he
          next r1 hr => (try rw [hr]); exact he
          next hr =>
            try rw [hr]
            try dsimp only
            split at he
            next pc1 L1 st1 ha => (try rw [ha]); exact ih _ _ _ _ _ _ _ he
            next ha =>
              try rw [ha]
              try dsimp only
              split at he
              next pc1 st1 S1 hb => (try rw [hb]); exact ih _ _ _ _ _ _ _ he
              next => cases he
      next => cases he
theorem pm_ey_le {n m d i pc : Nat} {L st : List Value} {S : pm_T} {x : Option Value × pm_T} (h : pm_ey n d i pc L st S = some x) (hm : n ≤ m) : pm_ey m d i pc L st S = some x := by
  obtain ⟨k, rfl⟩ := Nat.exists_eq_add_of_le hm
  induction k with
  | zero => exact h
  | succ k ih => exact pm_ey_up _ _ _ _ _ _ _ _ (ih (Nat.le_add_right _ _))
/-- it comes to an end with Q -/
def pm_V (d i pc : Nat) (L st : List Value) (S : pm_T) (Q : Option Value → pm_T → Prop) : Prop := ∃ (n : Nat) (r : Option Value) (S' : pm_T), pm_ey n d i pc L st S = some (r, S') ∧ Q r S'
/-- method j, called with as -/
def pm_N (d j : Nat) (as : List Value) (S : pm_T) (Q : Option Value → pm_T → Prop) : Prop := (pm_sl as).length ≤ pm_mx j ∧ pm_V d j 0 (pm_ent as (pm_mx j)) [] S Q
theorem pm_cdi {i pc : Nat} {b : ByteArray} {x : Instr × Nat} (hb : pm_by i = b) (hd : decode b pc = .ok x) : pm_cd i pc = some x := by
  unfold pm_cd
  rw [hb, hd]
section PMV
variable {d i pc pc' len j : Nat} {ins : Instr} {L L' st st' as rest : List Value} {S S' : pm_T} {Q : Option Value → pm_T → Prop} {r : Option Value}
theorem pv_go {n0 : Nat} {X : Nat → Option (Option Value × pm_T)} (h : ∀ n, pm_ey (n + 1) d i pc L st S = pm_ey n d i pc' L' st' S') : pm_V d i pc L st S Q = pm_V d i pc' L' st' S' Q := by
  apply propext
  constructor
  · rintro ⟨n, r, S2, h1, h2⟩
    cases n with
    | zero => cases h1
    | succ n => exact ⟨n, r, S2, (h n).symm.trans h1, h2⟩
  · rintro ⟨n, r, S2, h1, h2⟩
    exact ⟨n + 1, r, S2, (h n).trans h1, h2⟩
theorem pv_A (hc : pm_cd i pc = some (ins, len)) (hlen : pm_len ins len = true) (hk : pm_cat i ins st S = none) (hr : pm_ret i ins st = none) (ha : pm_sA ins len pc L st = some (pc', L', st')) : pm_V d i pc L st S Q = pm_V d i pc' L' st' S Q := by
  refine pv_go (n0 := 0) (X := fun _ => none) fun n => ?_
  conv => lhs; unfold pm_ey
  rw [hc]
  dsimp only
  rw [if_pos hlen, hk, hr, ha]
theorem pv_C (hc : pm_cd i pc = some (ins, len)) (hlen : pm_len ins len = true) (hk : pm_cat i ins st S = none) (hr : pm_ret i ins st = none) (ha : pm_sA ins len pc L st = none) (hs : pm_sC i ins pc st S = some (pc', st', S')) : pm_V d i pc L st S Q = pm_V d i pc' L st' S' Q := by
  refine pv_go (n0 := 0) (X := fun _ => none) fun n => ?_
  conv => lhs; unfold pm_ey
  rw [hc]
  dsimp only
  rw [if_pos hlen, hk, hr, ha]
  dsimp only
  rw [hs]
theorem pv_R (hc : pm_cd i pc = some (ins, len)) (hlen : pm_len ins len = true) (hk : pm_cat i ins st S = none) (hr : pm_ret i ins st = some r) : pm_V d i pc L st S Q = Q r S := by
  have key : ∀ n, pm_ey (n + 1) d i pc L st S = some (r, S) := by
    intro n
    conv => lhs; unfold pm_ey
    rw [hc]
    dsimp only
    rw [if_pos hlen, hk, hr]
  apply propext
  constructor
  · rintro ⟨n, r2, S2, h1, h2⟩
    cases n with
    | zero => cases h1
    | succ n => rw [key n] at h1; cases h1; exact h2
  · intro h
    exact ⟨1, r, S, key 0, h⟩
theorem pv_K (hc : pm_cd i pc = some (ins, len)) (hlen : pm_len ins len = true) (hk : pm_cat i ins st S = some (j, as, rest)) : pm_V (d + 1) i pc L st S Q = pm_N d j as S (fun r S' => pm_V (d + 1) i (pc + 3) L (r.toList ++ rest) S' Q) := by
  have key : ∀ n, pm_ey (n + 1) (d + 1) i pc L st S = if (pm_sl as).length ≤ pm_mx j then (match pm_ey n d j 0 (pm_ent as (pm_mx j)) [] S with
      | none => none
      | some (r, S') => pm_ey n (d + 1) i (pc + 3) L (r.toList ++ rest) S') else none := by
    intro n
    conv => lhs; unfold pm_ey
    rw [hc]
    dsimp only
    rw [if_pos hlen, hk]
    rfl
  apply propext
  constructor
  · rintro ⟨n, r2, S2, h1, h2⟩
    cases n with
    | zero => cases h1
    | succ n =>
      rw [key n] at h1
      split at h1
      next hle =>
        split at h1
        next => cases h1
        next r1 S1 h3 => exact ⟨hle, n, r1, S1, h3, n, r2, S2, h1, h2⟩
      next => cases h1
  · rintro ⟨hle, n, r1, S1, h3, m, r2, S2, h1, h2⟩
    refine ⟨max n m + 1, r2, S2, ?_, h2⟩
    rw [key, if_pos hle, pm_ey_le h3 (Nat.le_max_left _ _)]
    exact pm_ey_le h1 (Nat.le_max_right _ _)
end PMV
/-- the claim, typed -/
def pm_s0 (b B L : Nat) (xs : Nat → Int32) : pm_T := (B, 0, fun a => if a = b then .inl (9, L) else .inl (8, 0), fun _ _ => 0, fun _ _ => 0, fun _ _ => none, fun a => if a = b then xs else fun _ => 0, fun _ _ => 0, fun _ _ => none)
def pm_goal2 : Prop := ∀ (b B L : Nat) (xs : Nat → Int32), b < B → L ≤ 3072 → pm_N 1000 pm_law [.ref b] (pm_s0 b B L xs) (fun r S => r = some (.int 1) ∧ pm_nx S ≤ B + 600000 ∧ pm_sz S ≤ 7302250)
theorem pm_s0_hp (b B L : Nat) (xs : Nat → Int32) : pm_hp (pm_s0 b B L xs) = pm_h0 b B L xs := by
  show (B, 0, pm_ce (pm_s0 b B L xs)) = (B, 0, _)
  congr 2
  funext a
  by_cases e : a = b
  · subst e
    rw [if_pos rfl, pm_ce_arr (show pm_sh (pm_s0 a B L xs) a = .inl (9, L) from if_pos rfl)]
    have e3 : pm_zi (pm_s0 a B L xs) a = xs := by
      show (if a = a then xs else fun _ => 0) = xs
      rw [if_pos rfl]
    unfold pm_ct
    rw [e3]
    rfl
  · rw [if_neg e, pm_ce_arr (show pm_sh (pm_s0 b B L xs) a = .inl (8, 0) from if_neg e)]
    have e3 : pm_zi (pm_s0 b B L xs) a = fun _ => 0 := by
      show (if a = b then xs else fun _ => 0) = fun _ => 0
      rw [if_neg e]
    unfold pm_ct
    rw [e3]
    rfl
theorem pm_goal_of (h : pm_goal2) : pm_goal := by
  intro b B L xs hb hL
  obtain ⟨-, n, r, S', he, hr, h1, h2⟩ := h b B L xs hb hL
  subst hr
  have := pm_ey_ok _ _ _ _ _ _ _ _ _ he
  rw [pm_s0_hp] at this
  exact ⟨n, pm_hp S', this, h1, h2⟩
