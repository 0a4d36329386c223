/-! ===== THE TYPED MACHINE: the pure one, its heap cut into functions by what a place holds ===== -/
/-- what a cell is: an array (type, length) or an object (class) -/
abbrev pm_Sh : Type := (Nat × Nat) ⊕ Nat
/-- next address, slots made, shapes, int fields, long fields, reference fields, int arrays, long arrays, reference arrays -/
abbrev pm_T : Type := Nat × Nat × (Nat → pm_Sh) × (Nat → Nat → Int32) × (Nat → Nat → Int64) × (Nat → Nat → Option Nat) × (Nat → Nat → Int32) × (Nat → Nat → Int64) × (Nat → Nat → Option Nat)
def pm_nx (S : pm_T) : Nat := S.1
def pm_sz (S : pm_T) : Nat := S.2.1
def pm_sh (S : pm_T) (a : Nat) : pm_Sh := S.2.2.1 a
def pm_gi (S : pm_T) (a k : Nat) : Int32 := S.2.2.2.1 a k
def pm_gl (S : pm_T) (a k : Nat) : Int64 := S.2.2.2.2.1 a k
def pm_gr (S : pm_T) (a k : Nat) : Option Nat := S.2.2.2.2.2.1 a k
def pm_zi (S : pm_T) (a k : Nat) : Int32 := S.2.2.2.2.2.2.1 a k
def pm_zl (S : pm_T) (a k : Nat) : Int64 := S.2.2.2.2.2.2.2.1 a k
def pm_zr (S : pm_T) (a k : Nat) : Option Nat := S.2.2.2.2.2.2.2.2 a k
def pm_u2 {α : Type} (f : Nat → Nat → α) (a k : Nat) (v : α) : Nat → Nat → α := fun b j => if b = a ∧ j = k then v else f b j
def pm_sgi (S : pm_T) (a k : Nat) (v : Int32) : pm_T := (S.1, S.2.1, S.2.2.1, pm_u2 S.2.2.2.1 a k v, S.2.2.2.2.1, S.2.2.2.2.2.1, S.2.2.2.2.2.2.1, S.2.2.2.2.2.2.2.1, S.2.2.2.2.2.2.2.2)
def pm_sgl (S : pm_T) (a k : Nat) (v : Int64) : pm_T := (S.1, S.2.1, S.2.2.1, S.2.2.2.1, pm_u2 S.2.2.2.2.1 a k v, S.2.2.2.2.2.1, S.2.2.2.2.2.2.1, S.2.2.2.2.2.2.2.1, S.2.2.2.2.2.2.2.2)
def pm_sgr (S : pm_T) (a k : Nat) (v : Option Nat) : pm_T := (S.1, S.2.1, S.2.2.1, S.2.2.2.1, S.2.2.2.2.1, pm_u2 S.2.2.2.2.2.1 a k v, S.2.2.2.2.2.2.1, S.2.2.2.2.2.2.2.1, S.2.2.2.2.2.2.2.2)
def pm_szi (S : pm_T) (a k : Nat) (v : Int32) : pm_T := (S.1, S.2.1, S.2.2.1, S.2.2.2.1, S.2.2.2.2.1, S.2.2.2.2.2.1, pm_u2 S.2.2.2.2.2.2.1 a k v, S.2.2.2.2.2.2.2.1, S.2.2.2.2.2.2.2.2)
def pm_szl (S : pm_T) (a k : Nat) (v : Int64) : pm_T := (S.1, S.2.1, S.2.2.1, S.2.2.2.1, S.2.2.2.2.1, S.2.2.2.2.2.1, S.2.2.2.2.2.2.1, pm_u2 S.2.2.2.2.2.2.2.1 a k v, S.2.2.2.2.2.2.2.2)
def pm_szr (S : pm_T) (a k : Nat) (v : Option Nat) : pm_T := (S.1, S.2.1, S.2.2.1, S.2.2.2.1, S.2.2.2.2.1, S.2.2.2.2.2.1, S.2.2.2.2.2.2.1, S.2.2.2.2.2.2.2.1, pm_u2 S.2.2.2.2.2.2.2.2 a k v)
def pm_nf (c : Nat) : Nat := match pm_cl[c]? with
  | some q => q.2.2
  | none => 0
/-- a new object of class c -/
def pm_mk (S : pm_T) (c : Nat) : pm_T := (S.1 + 1, S.2.1 + pm_nf c, pm_up S.2.2.1 S.1 (.inr c), pm_up S.2.2.2.1 S.1 (fun _ => 0), pm_up S.2.2.2.2.1 S.1 (fun _ => 0), pm_up S.2.2.2.2.2.1 S.1 (fun _ => none), S.2.2.2.2.2.2.1, S.2.2.2.2.2.2.2.1, S.2.2.2.2.2.2.2.2)
/-- a new array of type t, of n places -/
def pm_mka (S : pm_T) (t n : Nat) : pm_T := (S.1 + 1, S.2.1 + n, pm_up S.2.2.1 S.1 (.inl (t, n)), S.2.2.2.1, S.2.2.2.2.1, S.2.2.2.2.2.1, pm_up S.2.2.2.2.2.2.1 S.1 (fun _ => 0), pm_up S.2.2.2.2.2.2.2.1 S.1 (fun _ => 0), pm_up S.2.2.2.2.2.2.2.2 S.1 (fun _ => none))
/-- new int[n][k] -/
def pm_mkm (S : pm_T) (n k : Nat) : pm_T := (S.1 + 1 + n, S.2.1 + n + n * k, fun q => if q = S.1 then .inl (3, n) else if S.1 < q ∧ q < S.1 + 1 + n then .inl (0, k) else S.2.2.1 q, S.2.2.2.1, S.2.2.2.2.1, S.2.2.2.2.2.1, fun q => if S.1 < q ∧ q < S.1 + 1 + n then (fun _ => 0) else S.2.2.2.2.2.2.1 q, S.2.2.2.2.2.2.2.1, pm_up S.2.2.2.2.2.2.2.2 S.1 (fun j => if j < n then some (S.1 + 1 + j) else none))
/-- what a field's type is: 0 int, 1 long, 2 boolean, 3 a reference -/
def pm_ft (c k : Nat) : Nat := match pm_fty c k with
  | .int => 0
  | .long => 1
  | .boolean => 2
  | .object _ => 3
  | .array _ => 3
  | _ => 4
def pm_fv (S : pm_T) (a c k : Nat) : Value := match pm_ft c k with
  | 0 => .int (pm_gi S a k)
  | 1 => .long (pm_gl S a k)
  | 2 => .int (pm_gi S a k)
  | 3 => va_rf (pm_gr S a k)
  | _ => .null
def pm_ct (S : pm_T) (a t n : Nat) : pm_E := match t with
  | 1 => .inl (1, n, .inr (.inl (pm_zl S a)))
  | 3 => .inl (3, n, .inr (.inr (.inr (.inr (pm_zr S a)))))
  | 4 => .inl (4, n, .inr (.inr (.inr (.inr (pm_zr S a)))))
  | t => .inl (t, n, .inl (pm_zi S a))
def pm_ce (S : pm_T) (a : Nat) : pm_E := match pm_sh S a with
  | .inl (t, n) => pm_ct S a t n
  | .inr c => .inr (c, (List.range (pm_nf c)).map (pm_fv S a c))
/-- the pure heap that it stands for -/
def pm_hp (S : pm_T) : pm_H := (S.1, S.2.1, pm_ce S)
def pm_ar (S : pm_T) (a t : Nat) (x : Int32) : Bool := match pm_sh S a with
  | .inl (t', n) => decide (t' = t) && pm_in x n
  | _ => false
def pm_isc (S : pm_T) (a c : Nat) : Bool := match pm_sh S a with
  | .inr c' => decide (c' = c)
  | _ => false
def pm_putok (i c k : Nat) : Bool := decide (k < pm_nf c) && (!pm_fin c k || (decide (pm_kd i = 2) && decide (pm_own i = c)))
/-- what touches the heap or the pool, typed -/
def pm_sC (i : Nat) (ins : Instr) (pc : Nat) (st : List Value) (S : pm_T) : Option (Nat × List Value × pm_T) := match ins with
  | .ldc idx => (pm_kc.lookup (pm_key i idx)).map fun v => (pc + 2, .int v :: st, S)
  | .ldc_w idx => (pm_kc.lookup (pm_key i idx)).map fun v => (pc + 3, .int v :: st, S)
  | .ldc2_w idx => (pm_kl.lookup (pm_key i idx)).map fun v => (pc + 3, .long v :: st, S)
  | .getfield idx => match st, pm_fl.lookup (pm_key i idx) with
    | .ref a :: r, some (c, k) => if pm_isc S a c = true ∧ k < pm_nf c then some (pc + 3, pm_fv S a c k :: r, S) else none
    | _, _ => none
  | .putfield idx => match st, pm_fl.lookup (pm_key i idx) with
    | .int x :: .ref a :: r, some (c, k) => if pm_isc S a c = true ∧ pm_putok i c k = true ∧ (pm_ft c k = 0 ∨ (pm_ft c k = 2 ∧ (x = 0 ∨ x = 1))) then some (pc + 3, r, pm_sgi S a k x) else none
    | .long x :: .ref a :: r, some (c, k) => if pm_isc S a c = true ∧ pm_putok i c k = true ∧ pm_ft c k = 1 then some (pc + 3, r, pm_sgl S a k x) else none
    | .ref x :: .ref a :: r, some (c, k) => if pm_isc S a c = true ∧ pm_putok i c k = true ∧ pm_ft c k = 3 then some (pc + 3, r, pm_sgr S a k (some x)) else none
    | .null :: .ref a :: r, some (c, k) => if pm_isc S a c = true ∧ pm_putok i c k = true ∧ pm_ft c k = 3 then some (pc + 3, r, pm_sgr S a k none) else none
    | _, _ => none
  | .iaload => match st with
    | .int x :: .ref a :: r => if pm_ar S a 0 x = true ∨ pm_ar S a 9 x = true then some (pc + 1, .int (pm_zi S a x.toNatClampNeg) :: r, S) else none
    | _ => none
  | .baload => match st with
    | .int x :: .ref a :: r => if pm_ar S a 2 x = true then some (pc + 1, .int (pm_zi S a x.toNatClampNeg) :: r, S) else none
    | _ => none
  | .laload => match st with
    | .int x :: .ref a :: r => if pm_ar S a 1 x = true then some (pc + 1, .long (pm_zl S a x.toNatClampNeg) :: r, S) else none
    | _ => none
  | .aaload => match st with
    | .int x :: .ref a :: r => if pm_ar S a 3 x = true ∨ pm_ar S a 4 x = true then some (pc + 1, va_rf (pm_zr S a x.toNatClampNeg) :: r, S) else none
    | _ => none
  | .iastore => match st with
    | .int v :: .int x :: .ref a :: r => if pm_ar S a 0 x = true then some (pc + 1, r, pm_szi S a x.toNatClampNeg v) else none
    | _ => none
  | .bastore => match st with
    | .int v :: .int x :: .ref a :: r => if pm_ar S a 2 x = true ∧ (v = 0 ∨ v = 1) then some (pc + 1, r, pm_szi S a x.toNatClampNeg v) else none
    | _ => none
  | .lastore => match st with
    | .long v :: .int x :: .ref a :: r => if pm_ar S a 1 x = true then some (pc + 1, r, pm_szl S a x.toNatClampNeg v) else none
    | _ => none
  | .aastore => match st with
    | .ref v :: .int x :: .ref a :: r => if pm_ar S a 4 x = true ∧ pm_isc S v 0 = true then some (pc + 1, r, pm_szr S a x.toNatClampNeg (some v)) else none
    | _ => none
  | .arraylength => match st with
    | .ref a :: r => match pm_sh S a with
      | .inl (t, n) => if t < 5 ∨ t = 9 then some (pc + 1, .int (Int32.ofNat n) :: r, S) else none
      | _ => none
    | _ => none
  | .new idx => (pm_lc.lookup (pm_key i idx)).bind fun c => if c < pm_cl.length then some (pc + 3, .ref S.1 :: st, pm_mk S c) else none
  | .newarray ty => match st with
    | .int x :: r => if 0 ≤ x ∧ x.toNatClampNeg ≤ 60000 then (match ty with
      | .int => some (pc + 2, .ref S.1 :: r, pm_mka S 0 x.toNatClampNeg)
      | .long => some (pc + 2, .ref S.1 :: r, pm_mka S 1 x.toNatClampNeg)
      | .boolean => some (pc + 2, .ref S.1 :: r, pm_mka S 2 x.toNatClampNeg)
      | _ => none) else none
    | _ => none
  | .anewarray idx => match st with
    | .int x :: r => if pm_lc.lookup (pm_key i idx) = some 0 ∧ 0 ≤ x ∧ x.toNatClampNeg ≤ 60000 then some (pc + 3, .ref S.1 :: r, pm_mka S 4 x.toNatClampNeg) else none
    | _ => none
  | .multianewarray idx dims => match st with
    | .int k :: .int x :: r => if pm_key i idx = pm_mul ∧ dims = 2 ∧ 0 ≤ x ∧ 0 ≤ k ∧ x.toNatClampNeg ≤ 60000 ∧ k.toNatClampNeg ≤ 60000 then some (pc + 4, .ref S.1 :: r, pm_mkm S x.toNatClampNeg k.toNatClampNeg) else none
    | _ => none
  | .invokespecial idx => match st with
    | .ref _ :: r => if (pm_key i idx) ∈ pm_mo ∧ (r.map Value.category).sum ≤ 8 then some (pc + 3, r, S) else none
    | _ => none
  | _ => none
/-- a call, typed -/
def pm_cat (i : Nat) (ins : Instr) (st : List Value) (S : pm_T) : Option (Nat × List Value × List Value) := match ins with
  | .invokestatic idx => match pm_ml.lookup (pm_key i idx) with
    | some j => if pm_kd j = 0 ∧ (st.take (pm_np j)).length = pm_np j ∧ ((st.drop (pm_np j)).map Value.category).sum ≤ 8 then some (j, (st.take (pm_np j)).reverse, st.drop (pm_np j)) else none
    | none => none
  | .invokevirtual idx => match (match pm_ml.lookup (pm_key i idx) with
      | some j => some j
      | none => pm_nl.lookup (pm_key i idx)) with
    | some j => match st.drop (pm_np j) with
      | .ref a :: r => if pm_kd j = 1 ∧ pm_isc S a (pm_own j) = true ∧ (st.take (pm_np j)).length = pm_np j ∧ (r.map Value.category).sum ≤ 8 then some (j, .ref a :: (st.take (pm_np j)).reverse, r) else none
      | _ => none
    | none => none
  | .invokespecial idx => match (match pm_ml.lookup (pm_key i idx) with
      | some j => some j
      | none => pm_nl.lookup (pm_key i idx)) with
    | some j => match st.drop (pm_np j) with
      | .ref a :: r => if pm_kd j = 2 ∧ (st.take (pm_np j)).length = pm_np j ∧ (r.map Value.category).sum ≤ 8 then some (j, .ref a :: (st.take (pm_np j)).reverse, r) else none
      | _ => none
    | none => none
  | _ => none
def pm_ey : Nat → Nat → Nat → Nat → List Value → List Value → pm_T → Option (Option Value × pm_T)
  | 0, _, _, _, _, _, _ => none
  | n + 1, d, i, pc, L, st, S =>
    match pm_cd i pc with
    | none => none
    | some (ins, len) =>
      if pm_len ins len = true then
        match pm_cat i ins st S with
        | some (j, as, rest) =>
          match d with
          | 0 => none
          | d' + 1 =>
            if (pm_sl as).length ≤ pm_mx j then
              match pm_ey n d' j 0 (pm_ent as (pm_mx j)) [] S with
              | none => none
              | some (r, S') => pm_ey n (d' + 1) i (pc + 3) L (r.toList ++ rest) S'
            else none
        | none =>
          match pm_ret i ins st with
          | some r => some (r, S)
          | none =>
            match pm_sA ins len pc L st with
            | some (pc', L', st') => pm_ey n d i pc' L' st' S
            | none =>
              match pm_sC i ins pc st S with
              | some (pc', st', S') => pm_ey n d i pc' L st' S'
              | none => none
      else none
theorem pm_isc_ok {S : pm_T} {a c : Nat} (h : pm_isc S a c = true) : pm_ce S a = .inr (c, (List.range (pm_nf c)).map (pm_fv S a c)) := by
  unfold pm_isc at h
  unfold pm_ce
  split at h
  next c' e => rw [e, of_decide_eq_true h]
  next => cases h
theorem pm_ar_ok {S : pm_T} {a t : Nat} {x : Int32} (h : pm_ar S a t x = true) : ∃ n, pm_sh S a = .inl (t, n) ∧ pm_in x n = true := by
  unfold pm_ar at h
  split at h
  next t' n e =>
    simp only [Bool.and_eq_true, decide_eq_true_eq] at h
    exact ⟨n, by rw [e, h.1], h.2⟩
  next => cases h
theorem pm_ce_arr {S : pm_T} {a t n : Nat} (h : pm_sh S a = .inl (t, n)) : pm_ce S a = pm_ct S a t n := by
  unfold pm_ce; rw [h]
theorem pm_ce_obj {S : pm_T} {a c : Nat} (h : pm_sh S a = .inr c) : pm_ce S a = .inr (c, (List.range (pm_nf c)).map (pm_fv S a c)) := by
  unfold pm_ce; rw [h]
theorem pm_cat_ok {i : Nat} {ins : Instr} {st : List Value} {S : pm_T} {q : Nat × List Value × List Value} (h : pm_cat i ins st S = some q) : pm_cal i ins st (pm_hp S) = some q := by
  cases ins
  case invokestatic idx => exact h
  case invokespecial idx => exact h
  case invokevirtual idx =>
    have key : ∀ j : Nat, (match st.drop (pm_np j) with
      | .ref a :: r => if pm_kd j = 1 ∧ pm_isc S a (pm_own j) = true ∧ (st.take (pm_np j)).length = pm_np j ∧ (r.map Value.category).sum ≤ 8 then some (j, Value.ref a :: (st.take (pm_np j)).reverse, r) else none
      | _ => none) = some q → (match st.drop (pm_np j) with
      | .ref a :: r => match (pm_hp S).2.2 a with
        | .inr (c, _) => if pm_kd j = 1 ∧ c = pm_own j ∧ (st.take (pm_np j)).length = pm_np j ∧ (r.map Value.category).sum ≤ 8 then some (j, Value.ref a :: (st.take (pm_np j)).reverse, r) else none
        | _ => none
      | _ => none) = some q := by
      intro j hj
      split at hj
      next a r hst =>
        split at hj
        next e0 =>
          obtain ⟨e1, e2, e3, e4⟩ := e0
          try simp only [hst]
          show (match pm_ce S a with | .inr (c, _) => _ | _ => _) = _
          rw [pm_isc_ok e2]
          dsimp only
          rw [if_pos ⟨e1, rfl, e3, e4⟩]
          exact hj
        next => cases hj
      next => cases hj
    simp only [pm_cat] at h
    simp only [pm_cal]
    cases hm : pm_ml.lookup (pm_key i idx) with
    | some j =>
      rw [hm] at h
      exact key j h
    | none =>
      rw [hm] at h
      cases hm2 : pm_nl.lookup (pm_key i idx) with
      | some j =>
        rw [hm2] at h
        exact key j h
      | none => rw [hm2] at h; cases h
  all_goals (simp [pm_cat] at h)
