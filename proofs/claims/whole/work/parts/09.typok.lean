/-! ===== the typed machine says what the pure one does ===== -/
theorem pm_u2_ne {α : Type} {f : Nat → Nat → α} {a k b : Nat} {v : α} (h : b ≠ a) : pm_u2 f a k v b = f b := by
  funext j
  unfold pm_u2
  rw [if_neg (fun q => h q.1)]
theorem pm_u2_self {α : Type} {f : Nat → Nat → α} {a k : Nat} {v : α} : pm_u2 f a k v a = pm_up (f a) k v := by
  funext j
  unfold pm_u2 pm_up
  by_cases e : j = k <;> simp [e]
theorem pm_up_self {α : Type} {f : Nat → α} {a : Nat} {v : α} : pm_up f a v a = v := if_pos rfl
theorem pm_up_ne {α : Type} {f : Nat → α} {a b : Nat} {v : α} (h : b ≠ a) : pm_up f a v b = f b := if_neg h
/-- a cell depends on what lies at its address alone -/
theorem pm_ce_eq {S S' : pm_T} {q : Nat} (h1 : pm_sh S' q = pm_sh S q) (h2 : pm_gi S' q = pm_gi S q) (h3 : pm_gl S' q = pm_gl S q) (h4 : pm_gr S' q = pm_gr S q) (h5 : pm_zi S' q = pm_zi S q) (h6 : pm_zl S' q = pm_zl S q) (h7 : pm_zr S' q = pm_zr S q) : pm_ce S' q = pm_ce S q := by
  unfold pm_ce
  rw [h1]
  split
  · unfold pm_ct; rw [h5, h6, h7]
  · congr 2
    apply List.map_congr_left
    intro k _
    unfold pm_fv
    rw [h2, h3, h4]
theorem pm_hp_eq {S S' : pm_T} {a : Nat} {v : pm_E} (h1 : S'.1 = S.1) (h2 : S'.2.1 = S.2.1) (ho : ∀ q, q ≠ a → pm_ce S' q = pm_ce S q) (ha : pm_ce S' a = v) : pm_hp S' = ((pm_hp S).1, (pm_hp S).2.1, pm_up (pm_hp S).2.2 a v) := by
  show (S'.1, S'.2.1, pm_ce S') = (S.1, S.2.1, pm_up (pm_ce S) a v)
  rw [h1, h2]
  congr 2
  funext q
  by_cases e : q = a
  · subst e; rw [pm_up_self, ha]
  · rw [pm_up_ne e, ho q e]
theorem pm_set_map {n k : Nat} {f g : Nat → Value} {v : Value} (hk : g k = v) (ho : ∀ j, j ≠ k → g j = f j) : (List.range n).map g = ((List.range n).map f).set k v := by
  apply List.ext_getElem?
  intro j
  rw [List.getElem?_set]
  by_cases e : k = j
  · subst e
    rw [if_pos rfl]
    by_cases hj : k < n
    · simp [hj, hk]
    · simp [hj]
  · rw [if_neg e, List.getElem?_map, List.getElem?_map]
    by_cases hj : j < n
    · simp [hj, ho j (fun q => e q.symm)]
    · simp [hj]
theorem pm_sgi_hp {S : pm_T} {a k c : Nat} {x : Int32} (h : pm_sh S a = .inr c) (ht : pm_ft c k = 0 ∨ pm_ft c k = 2) : pm_hp (pm_sgi S a k x) = ((pm_hp S).1, (pm_hp S).2.1, pm_up (pm_hp S).2.2 a (.inr (c, ((List.range (pm_nf c)).map (pm_fv S a c)).set k (.int x)))) := by
  refine pm_hp_eq rfl rfl (fun q hq => pm_ce_eq rfl (pm_u2_ne hq) rfl rfl rfl rfl rfl) ?_
  rw [pm_ce_obj (show pm_sh (pm_sgi S a k x) a = .inr c from h)]
  congr 2
  refine pm_set_map ?_ (fun j hj => ?_)
  · unfold pm_fv
    have e : pm_gi (pm_sgi S a k x) a k = x := by show pm_u2 _ a k x a k = x; unfold pm_u2; rw [if_pos ⟨rfl, rfl⟩]
    rcases ht with ht | ht <;> (rw [ht, e]; rfl)
  · unfold pm_fv
    have e : pm_gi (pm_sgi S a k x) a j = pm_gi S a j := by show pm_u2 _ a k x a j = _; unfold pm_u2; rw [if_neg (fun q => hj q.2)]; rfl
    rw [e]
    rfl
theorem pm_sgl_hp {S : pm_T} {a k c : Nat} {x : Int64} (h : pm_sh S a = .inr c) (ht : pm_ft c k = 1) : pm_hp (pm_sgl S a k x) = ((pm_hp S).1, (pm_hp S).2.1, pm_up (pm_hp S).2.2 a (.inr (c, ((List.range (pm_nf c)).map (pm_fv S a c)).set k (.long x)))) := by
  refine pm_hp_eq rfl rfl (fun q hq => pm_ce_eq rfl rfl (pm_u2_ne hq) rfl rfl rfl rfl) ?_
  rw [pm_ce_obj (show pm_sh (pm_sgl S a k x) a = .inr c from h)]
  congr 2
  refine pm_set_map ?_ (fun j hj => ?_)
  · unfold pm_fv
    have e : pm_gl (pm_sgl S a k x) a k = x := by show pm_u2 _ a k x a k = x; unfold pm_u2; rw [if_pos ⟨rfl, rfl⟩]
    rw [ht, e]
    rfl
  · unfold pm_fv
    have e : pm_gl (pm_sgl S a k x) a j = pm_gl S a j := by show pm_u2 _ a k x a j = _; unfold pm_u2; rw [if_neg (fun q => hj q.2)]; rfl
    rw [e]
    rfl
theorem pm_sgr_hp {S : pm_T} {a k c : Nat} {x : Option Nat} (h : pm_sh S a = .inr c) (ht : pm_ft c k = 3) : pm_hp (pm_sgr S a k x) = ((pm_hp S).1, (pm_hp S).2.1, pm_up (pm_hp S).2.2 a (.inr (c, ((List.range (pm_nf c)).map (pm_fv S a c)).set k (va_rf x)))) := by
  refine pm_hp_eq rfl rfl (fun q hq => pm_ce_eq rfl rfl rfl (pm_u2_ne hq) rfl rfl rfl) ?_
  rw [pm_ce_obj (show pm_sh (pm_sgr S a k x) a = .inr c from h)]
  congr 2
  refine pm_set_map ?_ (fun j hj => ?_)
  · unfold pm_fv
    have e : pm_gr (pm_sgr S a k x) a k = x := by show pm_u2 _ a k x a k = x; unfold pm_u2; rw [if_pos ⟨rfl, rfl⟩]
    rw [ht, e]
    rfl
  · unfold pm_fv
    have e : pm_gr (pm_sgr S a k x) a j = pm_gr S a j := by show pm_u2 _ a k x a j = _; unfold pm_u2; rw [if_neg (fun q => hj q.2)]; rfl
    rw [e]
    rfl
theorem pm_szi_hp {S : pm_T} {a k t n : Nat} {x : Int32} (h : pm_sh S a = .inl (t, n)) (ht : t = 0 ∨ t = 2) : pm_hp (pm_szi S a k x) = ((pm_hp S).1, (pm_hp S).2.1, pm_up (pm_hp S).2.2 a (.inl (t, n, .inl (pm_up (pm_zi S a) k x)))) := by
  refine pm_hp_eq rfl rfl (fun q hq => pm_ce_eq rfl rfl rfl rfl (pm_u2_ne hq) rfl rfl) ?_
  rw [pm_ce_arr (show pm_sh (pm_szi S a k x) a = .inl (t, n) from h)]
  have e : pm_zi (pm_szi S a k x) a = pm_up (pm_zi S a) k x := pm_u2_self
  rcases ht with rfl | rfl <;> (unfold pm_ct; rw [e]; rfl)
theorem pm_szl_hp {S : pm_T} {a k n : Nat} {x : Int64} (h : pm_sh S a = .inl (1, n)) : pm_hp (pm_szl S a k x) = ((pm_hp S).1, (pm_hp S).2.1, pm_up (pm_hp S).2.2 a (.inl (1, n, .inr (.inl (pm_up (pm_zl S a) k x))))) := by
  refine pm_hp_eq rfl rfl (fun q hq => pm_ce_eq rfl rfl rfl rfl rfl (pm_u2_ne hq) rfl) ?_
  rw [pm_ce_arr (show pm_sh (pm_szl S a k x) a = .inl (1, n) from h)]
  have e : pm_zl (pm_szl S a k x) a = pm_up (pm_zl S a) k x := pm_u2_self
  unfold pm_ct; rw [e]; rfl
theorem pm_szr_hp {S : pm_T} {a k n : Nat} {x : Option Nat} (h : pm_sh S a = .inl (4, n)) : pm_hp (pm_szr S a k x) = ((pm_hp S).1, (pm_hp S).2.1, pm_up (pm_hp S).2.2 a (.inl (4, n, .inr (.inr (.inr (.inr (pm_up (pm_zr S a) k x))))))) := by
  refine pm_hp_eq rfl rfl (fun q hq => pm_ce_eq rfl rfl rfl rfl rfl rfl (pm_u2_ne hq)) ?_
  rw [pm_ce_arr (show pm_sh (pm_szr S a k x) a = .inl (4, n) from h)]
  have e : pm_zr (pm_szr S a k x) a = pm_up (pm_zr S a) k x := pm_u2_self
  unfold pm_ct; rw [e]; rfl
theorem pm_ft_ok : ∀ c, c < pm_cl.length → ∀ k, k < pm_nf c → pm_ft c k < 4 := by decide +kernel
theorem pm_mk_hp {S : pm_T} {c : Nat} (hc : c < pm_cl.length) : pm_hp (pm_mk S c) = ((pm_hp S).1 + 1, (pm_hp S).2.1 + pm_nf c, pm_up (pm_hp S).2.2 (pm_hp S).1 (.inr (c, (List.range (pm_nf c)).map fun k => pm_dv (pm_fty c k)))) := by
  show (S.1 + 1, S.2.1 + pm_nf c, pm_ce (pm_mk S c)) = (S.1 + 1, S.2.1 + pm_nf c, pm_up (pm_ce S) S.1 _)
  congr 2
  funext q
  by_cases e : q = S.1
  · subst e
    rw [pm_up_self, pm_ce_obj (show pm_sh (pm_mk S c) S.1 = .inr c from pm_up_self)]
    congr 2
    apply List.map_congr_left
    intro k hk
    have e1 : pm_gi (pm_mk S c) S.1 k = 0 := congrFun (pm_up_self (f := S.2.2.2.1) (a := S.1) (v := fun _ => 0)) k
    have e2 : pm_gl (pm_mk S c) S.1 k = 0 := congrFun (pm_up_self (f := S.2.2.2.2.1) (a := S.1) (v := fun _ => 0)) k
    have e3 : pm_gr (pm_mk S c) S.1 k = none := congrFun (pm_up_self (f := S.2.2.2.2.2.1) (a := S.1) (v := fun _ => none)) k
    have e4 := pm_ft_ok c hc k (List.mem_range.mp hk)
    unfold pm_fv
    rw [e1, e2, e3]
    revert e4
    unfold pm_ft pm_dv
    cases pm_fty c k <;> first | (intro _; rfl) | (intro z; exact absurd z (by decide))
  · rw [pm_up_ne e]
    exact pm_ce_eq (pm_up_ne e) (pm_up_ne e) (pm_up_ne e) (pm_up_ne e) rfl rfl rfl
theorem pm_mka_hp {S : pm_T} {t n : Nat} : pm_hp (pm_mka S t n) = ((pm_hp S).1 + 1, (pm_hp S).2.1 + n, pm_up (pm_hp S).2.2 (pm_hp S).1 (match t with
  | 1 => .inl (1, n, .inr (.inl fun _ => 0))
  | 3 => .inl (3, n, .inr (.inr (.inr (.inr fun _ => none))))
  | 4 => .inl (4, n, .inr (.inr (.inr (.inr fun _ => none))))
  | t => .inl (t, n, .inl fun _ => 0))) := by
  show (S.1 + 1, S.2.1 + n, pm_ce (pm_mka S t n)) = (S.1 + 1, S.2.1 + n, pm_up (pm_ce S) S.1 _)
  congr 2
  funext q
  by_cases e : q = S.1
  · subst e
    rw [pm_up_self, pm_ce_arr (show pm_sh (pm_mka S t n) S.1 = .inl (t, n) from pm_up_self)]
    have e1 : pm_zi (pm_mka S t n) S.1 = fun _ => 0 := pm_up_self
    have e2 : pm_zl (pm_mka S t n) S.1 = fun _ => 0 := pm_up_self
    have e3 : pm_zr (pm_mka S t n) S.1 = fun _ => none := pm_up_self
    unfold pm_ct
    rw [e1, e2, e3]
    rfl
  · rw [pm_up_ne e]
    exact pm_ce_eq (pm_up_ne e) rfl rfl rfl (pm_up_ne e) (pm_up_ne e) (pm_up_ne e)
theorem pm_mkm_hp {S : pm_T} {n k : Nat} : pm_hp (pm_mkm S n k) = ((pm_hp S).1 + 1 + n, (pm_hp S).2.1 + n + n * k, fun q => if q = (pm_hp S).1 then .inl (3, n, .inr (.inr (.inr (.inr fun j => if j < n then some ((pm_hp S).1 + 1 + j) else none)))) else if (pm_hp S).1 < q ∧ q < (pm_hp S).1 + 1 + n then .inl (0, k, .inl fun _ => 0) else (pm_hp S).2.2 q) := by
  show (S.1 + 1 + n, S.2.1 + n + n * k, pm_ce (pm_mkm S n k)) = (S.1 + 1 + n, S.2.1 + n + n * k, fun q => if q = S.1 then _ else if S.1 < q ∧ q < S.1 + 1 + n then _ else pm_ce S q)
  congr 2
  funext q
  by_cases e : q = S.1
  · subst e
    rw [if_pos rfl, pm_ce_arr (show pm_sh (pm_mkm S n k) S.1 = .inl (3, n) from if_pos rfl)]
    have e3 : pm_zr (pm_mkm S n k) S.1 = fun j => if j < n then some (S.1 + 1 + j) else none := pm_up_self
    unfold pm_ct
    rw [e3]
    rfl
  · rw [if_neg e]
    by_cases e2 : S.1 < q ∧ q < S.1 + 1 + n
    · rw [if_pos e2, pm_ce_arr (show pm_sh (pm_mkm S n k) q = .inl (0, k) from by show (if q = S.1 then _ else if S.1 < q ∧ q < S.1 + 1 + n then _ else _) = _; rw [if_neg e, if_pos e2])]
      have e3 : pm_zi (pm_mkm S n k) q = fun _ => 0 := if_pos e2
      unfold pm_ct
      rw [e3]
      rfl
    · rw [if_neg e2]
      refine pm_ce_eq ?_ rfl rfl rfl ?_ rfl (pm_up_ne e)
      · show (if q = S.1 then _ else if S.1 < q ∧ q < S.1 + 1 + n then _ else _) = _
        rw [if_neg e, if_neg e2]
        rfl
      · exact if_neg e2
theorem pm_isc_sh {S : pm_T} {a c : Nat} (h : pm_isc S a c = true) : pm_sh S a = .inr c := by
  unfold pm_isc at h
  split at h
  next c' e => rw [e, of_decide_eq_true h]
  next => cases h
theorem pm_fit_int {c k : Nat} {x : Int32} (h : pm_ft c k = 0 ∨ (pm_ft c k = 2 ∧ (x = 0 ∨ x = 1))) : pm_fit (pm_fty c k) (.int x) = true := by
  revert h
  unfold pm_ft
  cases pm_fty c k <;> simp [pm_fit]
theorem pm_fit_long {c k : Nat} {x : Int64} (h : pm_ft c k = 1) : pm_fit (pm_fty c k) (.long x) = true := by
  revert h
  unfold pm_ft
  cases pm_fty c k <;> simp [pm_fit]
theorem pm_fit_ref {c k : Nat} {x : Option Nat} (h : pm_ft c k = 3) : pm_fit (pm_fty c k) (va_rf x) = true := by
  revert h
  unfold pm_ft
  cases pm_fty c k <;> cases x <;> simp [pm_fit, va_rf]
theorem pm_putok_ok {i c k : Nat} (h : pm_putok i c k = true) : k < pm_nf c ∧ (pm_fin c k = true → pm_kd i = 2 ∧ pm_own i = c) := by
  unfold pm_putok at h
  simp only [Bool.and_eq_true, Bool.or_eq_true, Bool.not_eq_true', decide_eq_true_eq] at h
  refine ⟨h.1, fun z => ?_⟩
  rcases h.2 with q | q
  · rw [z] at q; cases q
  · exact q
set_option maxHeartbeats 4000000 in
theorem pm_sC_ok {i pc pc' : Nat} {ins : Instr} {st st' : List Value} {S S' : pm_T} (hs : pm_sC i ins pc st S = some (pc', st', S')) : pm_sB i ins pc st (pm_hp S) = some (pc', st', pm_hp S') := by
  cases ins
  case ldc idx => simp only [pm_sC] at hs; simp only [pm_sB]; obtain ⟨v, h1, h2⟩ := Option.map_eq_some_iff.mp hs; cases h2; rw [h1]; rfl
  case ldc_w idx => simp only [pm_sC] at hs; simp only [pm_sB]; obtain ⟨v, h1, h2⟩ := Option.map_eq_some_iff.mp hs; cases h2; rw [h1]; rfl
  case ldc2_w idx => simp only [pm_sC] at hs; simp only [pm_sB]; obtain ⟨v, h1, h2⟩ := Option.map_eq_some_iff.mp hs; cases h2; rw [h1]; rfl
  case getfield idx =>
    simp only [pm_sC] at hs
    simp only [pm_sB]
    split at hs
    next a r c k hf =>
      split at hs
      next e0 =>
        cases hs
        rw [hf]
        show (match pm_ce S a with | .inr (c', fs) => _ | _ => _) = _
        rw [pm_isc_ok e0.1]
        dsimp only
        rw [if_pos rfl, List.getElem?_map, List.getElem?_range e0.2]
        rfl
      next => cases hs
    next => cases hs
  case putfield idx =>
    simp only [pm_sC] at hs
    simp only [pm_sB]
    split at hs
    next x a r c k hf =>
      split at hs
      next e0 =>
        cases hs
        obtain ⟨p1, p2⟩ := pm_putok_ok e0.2.1
        rw [hf]
        show (match pm_ce S a with | .inr (c', fs) => _ | _ => _) = _
        rw [pm_isc_ok e0.1]
        dsimp only
        rw [if_pos ⟨rfl, by simp [p1], pm_fit_int e0.2.2, p2⟩, pm_sgi_hp (pm_isc_sh e0.1) (e0.2.2.elim Or.inl (fun z => Or.inr z.1))]
      next => cases hs
    next x a r c k hf =>
      split at hs
      next e0 =>
        cases hs
        obtain ⟨p1, p2⟩ := pm_putok_ok e0.2.1
        rw [hf]
        show (match pm_ce S a with | .inr (c', fs) => _ | _ => _) = _
        rw [pm_isc_ok e0.1]
        dsimp only
        rw [if_pos ⟨rfl, by simp [p1], pm_fit_long e0.2.2, p2⟩, pm_sgl_hp (pm_isc_sh e0.1) e0.2.2]
      next => cases hs
    next x a r c k hf =>
      split at hs
      next e0 =>
        cases hs
        obtain ⟨p1, p2⟩ := pm_putok_ok e0.2.1
        rw [hf]
        show (match pm_ce S a with | .inr (c', fs) => _ | _ => _) = _
        rw [pm_isc_ok e0.1]
        dsimp only
        rw [if_pos ⟨rfl, by simp [p1], pm_fit_ref (x := some x) e0.2.2, p2⟩, pm_sgr_hp (pm_isc_sh e0.1) e0.2.2]
        rfl
      next => cases hs
    next a r c k hf =>
      split at hs
      next e0 =>
        cases hs
        obtain ⟨p1, p2⟩ := pm_putok_ok e0.2.1
        rw [hf]
        show (match pm_ce S a with | .inr (c', fs) => _ | _ => _) = _
        rw [pm_isc_ok e0.1]
        dsimp only
        rw [if_pos ⟨rfl, by simp [p1], pm_fit_ref (x := none) e0.2.2, p2⟩, pm_sgr_hp (pm_isc_sh e0.1) e0.2.2]
        rfl
      next => cases hs
    next => cases hs
  case iaload =>
    simp only [pm_sC] at hs
    simp only [pm_sB]
    split at hs
    next x a r =>
      split at hs
      next e0 =>
        cases hs
        show (match pm_ce S a with | .inl (t, n, .inl z) => _ | _ => _) = _
        rcases e0 with e0 | e0
        · obtain ⟨n, h1, h2⟩ := pm_ar_ok e0
          rw [pm_ce_arr h1]
          exact if_pos ⟨Or.inl rfl, h2⟩
        · obtain ⟨n, h1, h2⟩ := pm_ar_ok e0
          rw [pm_ce_arr h1]
          exact if_pos ⟨Or.inr rfl, h2⟩
      next => cases hs
    next => cases hs
  case baload =>
    simp only [pm_sC] at hs
    simp only [pm_sB]
    split at hs
    next x a r =>
      split at hs
      next e0 =>
        cases hs
        show (match pm_ce S a with | .inl (t, n, .inl z) => _ | _ => _) = _
        obtain ⟨n, h1, h2⟩ := pm_ar_ok e0
        rw [pm_ce_arr h1]
        exact if_pos ⟨rfl, h2⟩
      next => cases hs
    next => cases hs
  case laload =>
    simp only [pm_sC] at hs
    simp only [pm_sB]
    split at hs
    next x a r =>
      split at hs
      next e0 =>
        cases hs
        show (match pm_ce S a with | .inl (t, n, .inr (.inl z)) => _ | _ => _) = _
        obtain ⟨n, h1, h2⟩ := pm_ar_ok e0
        rw [pm_ce_arr h1]
        exact if_pos ⟨rfl, h2⟩
      next => cases hs
    next => cases hs
  case aaload =>
    simp only [pm_sC] at hs
    simp only [pm_sB]
    split at hs
    next x a r =>
      split at hs
      next e0 =>
        cases hs
        show (match pm_ce S a with | .inl (t, n, .inr (.inr (.inr (.inr z)))) => _ | _ => _) = _
        rcases e0 with e0 | e0
        · obtain ⟨n, h1, h2⟩ := pm_ar_ok e0
          rw [pm_ce_arr h1]
          exact if_pos ⟨Or.inl rfl, h2⟩
        · obtain ⟨n, h1, h2⟩ := pm_ar_ok e0
          rw [pm_ce_arr h1]
          exact if_pos ⟨Or.inr rfl, h2⟩
      next => cases hs
    next => cases hs
  case iastore =>
    simp only [pm_sC] at hs
    simp only [pm_sB]
    split at hs
    next v x a r =>
      split at hs
      next e0 =>
        cases hs
        show (match pm_ce S a with | .inl (t, n, .inl z) => _ | _ => _) = _
        obtain ⟨n, h1, h2⟩ := pm_ar_ok e0
        rw [pm_ce_arr h1, pm_szi_hp h1 (Or.inl rfl)]
        exact if_pos ⟨rfl, h2⟩
      next => cases hs
    next => cases hs
  case bastore =>
    simp only [pm_sC] at hs
    simp only [pm_sB]
    split at hs
    next v x a r =>
      split at hs
      next e0 =>
        cases hs
        show (match pm_ce S a with | .inl (t, n, .inl z) => _ | _ => _) = _
        obtain ⟨n, h1, h2⟩ := pm_ar_ok e0.1
        rw [pm_ce_arr h1, pm_szi_hp h1 (Or.inr rfl)]
        exact if_pos ⟨rfl, h2, e0.2⟩
      next => cases hs
    next => cases hs
  case lastore =>
    simp only [pm_sC] at hs
    simp only [pm_sB]
    split at hs
    next v x a r =>
      split at hs
      next e0 =>
        cases hs
        show (match pm_ce S a with | .inl (t, n, .inr (.inl z)) => _ | _ => _) = _
        obtain ⟨n, h1, h2⟩ := pm_ar_ok e0
        rw [pm_ce_arr h1, pm_szl_hp h1]
        exact if_pos ⟨rfl, h2⟩
      next => cases hs
    next => cases hs
  case aastore =>
    simp only [pm_sC] at hs
    simp only [pm_sB]
    split at hs
    next v x a r =>
      split at hs
      next e0 =>
        cases hs
        show (match pm_ce S a, pm_ce S v with | .inl (t, n, .inr (.inr (.inr (.inr z)))), .inr (c, _) => _ | _, _ => _) = _
        obtain ⟨n, h1, h2⟩ := pm_ar_ok e0.1
        rw [pm_ce_arr h1, pm_isc_ok e0.2, pm_szr_hp h1]
        exact if_pos ⟨rfl, rfl, h2⟩
      next => cases hs
    next => cases hs
  case arraylength =>
    simp only [pm_sC] at hs
    simp only [pm_sB]
    split at hs
    next a r =>
      split at hs
      next t n ht =>
        split at hs
        next e0 =>
          cases hs
          show (match pm_ce S a with | .inl (t, x) => _ | _ => _) = _
          rw [pm_ce_arr ht]
          rcases (show t = 0 ∨ t = 1 ∨ t = 2 ∨ t = 3 ∨ t = 4 ∨ t = 9 by omega) with rfl | rfl | rfl | rfl | rfl | rfl <;> rfl
        next => cases hs
      next => cases hs
    next => cases hs
  case new idx =>
    simp only [pm_sC] at hs
    simp only [pm_sB]
    obtain ⟨c, h1, h2⟩ := Option.bind_eq_some_iff.mp hs
    split at h2
    next hc =>
      cases h2
      rw [h1, pm_mk_hp hc]
      have e : pm_nf c = (pm_clq c).2.2 := by unfold pm_nf; rw [pm_clq_ok hc]
      show Option.map _ pm_cl[c]? = _
      rw [pm_clq_ok hc, e]
      rfl
    next => cases h2
  case newarray ty =>
    simp only [pm_sC] at hs
    simp only [pm_sB]
    split at hs
    next x r =>
      split at hs
      next e0 =>
        dsimp only
        rw [if_pos e0]
        cases ty <;> simp only at hs <;> first | (cases hs; rw [pm_mka_hp]; rfl) | cases hs
      next => cases hs
    next => cases hs
  case anewarray idx =>
    simp only [pm_sC] at hs
    simp only [pm_sB]
    split at hs
    next x r =>
      split at hs
      next e0 =>
        dsimp only
        rw [if_pos e0]
        cases hs
        rw [pm_mka_hp]
        rfl
      next => cases hs
    next => cases hs
  case multianewarray idx dims =>
    simp only [pm_sC] at hs
    simp only [pm_sB]
    split at hs
    next k x r =>
      split at hs
      next e0 =>
        dsimp only
        rw [if_pos e0]
        cases hs
        rw [pm_mkm_hp]
        rfl
      next => cases hs
    next => cases hs
  case invokespecial idx =>
    simp only [pm_sC] at hs
    simp only [pm_sB]
    split at hs
    next a r =>
      split at hs
      next e0 =>
        dsimp only
        rw [if_pos e0]
        cases hs
        rfl
      next => cases hs
    next => cases hs
  all_goals (simp [pm_sC] at hs)
