/-! ===== heaps by labels ===== -/
abbrev hp_T : Type := Option (Nat × Int64)
def hp_of (t v : Int64) : Bool := decide (((t ^^^ (t + v)) &&& (v ^^^ (t + v))) < 0)
/-- item i with v comes to a heap; rule 0 sum, 1 greatest, 2 how many -/
def hp_in (c : Nat) (h : hp_T) (i : Nat) (v : Int64) : hp_T := match h with
  | none => some (i, if c = 2 then 1 else v)
  | some (f, t) => some (f, if c = 0 then t + v else if c = 1 then (if t < v then v else t) else t + 1)
/-- does it then not fit -/
def hp_ov (c : Nat) (h : hp_T) (v : Int64) : Bool := match h with
  | none => false
  | some (_, t) => decide (c = 0) && hp_of t v
/-- heap l, when n items have come -/
def hp_h (c : Nat) (key : Nat → Option Nat) (val : Nat → Int64) (l : Nat) : Nat → hp_T
  | 0 => none
  | n + 1 => if key n = some l then hp_in c (hp_h c key val l n) n (val n) else hp_h c key val l n
/-- something did not fit -/
def hp_t (c : Nat) (key : Nat → Option Nat) (val : Nat → Int64) : Nat → Bool
  | 0 => false
  | n + 1 => hp_t c key val n || (match key n with
    | none => false
    | some l => hp_ov c (hp_h c key val l n) (val n))
def hp_e (h : hp_T) (S : pm_T) (a l : Nat) : Prop := match h with
  | none => pm_zi S (a + 2) l = -1
  | some (f, t) => f < 120 ∧ pm_zi S (a + 2) l = nI f ∧ pm_zl S (a + 1) l = t
/-- the Heaps at a hold H -/
def hR (S : pm_T) (a : Nat) (H : Nat → hp_T) (t : Bool) : Prop := sP S a ∧ (∀ l, l < 100 → hp_e (H l) S a l) ∧ pm_gi S a 2 = if t = true then 1 else 0
/-- the cells of the Heaps at a -/
def cP (a : Nat) : Nat → Prop := fun b => a ≤ b ∧ b < a + 3
theorem sP_fr {P : Nat → Prop} {S S' : pm_T} {a : Nat} (h : sP S a) (hf : sp_fr P S S') : sP S' a := by
  unfold sP at h ⊢
  simp only [hf.2.2.1, hf.2.2.2.1]
  exact h
theorem hR_fr {P : Nat → Prop} {S S' : pm_T} {a : Nat} {H : Nat → hp_T} {t : Bool} (h : hR S a H t) (hf : sp_fr P S S') (hP : ∀ b, cP a b → ¬ P b) : hR S' a H t := by
  obtain ⟨h1, h2, h3⟩ := h
  refine ⟨sP_fr h1 hf, fun l hl => ?_, by rw [(hf.2.2.2.2.2 a (hP a ⟨by omega, by omega⟩)).1]; exact h3⟩
  have := h2 l hl
  unfold hp_e at this ⊢
  rw [(hf.2.2.2.2.2 (a + 1) (hP (a + 1) ⟨by omega, by omega⟩)).2.2.2, (hf.2.2.2.2.2 (a + 2) (hP (a + 2) ⟨by omega, by omega⟩)).2.2.1]
  exact this
section
variable {d a n k : Nat} {S : pm_T} {Q : Option Value → pm_T → Prop} {H : Nat → hp_T} {t : Bool}
set_option maxHeartbeats 1000000 in
theorem c_hBegin (hP : sP S a) (hQ : ∀ S', hR S' a (fun _ => none) false → sp_fr (cP a) S S' → Q none S') : pm_N d 13 [.ref a] S Q := by
  have f0 : sp_fr (cP a) S (pm_sgi S a 2 0) := sp_fr.gi ⟨by omega, by omega⟩ (sh_ne hP.1 (by decide))
  simp only [q13_0, q13_1, q13_2, q13_5, q13_6, q13_8, q13_9, q13_12, q13_13, q13_16, q13_17, q13_20, q13_21, q13_22, q13_23, q13_26, q13_29, q13_e, hP.1, true_or]
  refine sp_loop (n := 100) (P := cP a) (Inv := fun k S => sP S a ∧ pm_gi S a 2 = 0 ∧ ∀ l, l < k → pm_zi S (a + 2) l = -1) (head := fun k S => pm_V d 13 7 [.ref a, .int (nI k)] [] S Q) (fin := fun S => Q none S) ?_ ?_ _ ⟨sP_fr hP f0, ps_gi_self, fun l hl => absurd hl (by omega)⟩ (fun S' ⟨q1, q2, q3⟩ q4 => hQ S' ⟨q1, fun l hl => q3 l hl, by simpa using q2⟩ (f0.tr q4))
  · intro k S hk ⟨hP, hz, hl⟩ _ hN
    have e0 := pm_al_of hP.2.2.2.2 (Or.inl (by decide))
    have e1 : nI k < nI 100 := nI_lt hk (by decide)
    have e2 := pm_ar_nI hP.2.2.2.2 hk (by decide)
    rw [q13_7]
    simp only [q13_0, q13_1, q13_2, q13_5, q13_6, q13_8, q13_9, q13_12, q13_13, q13_16, q13_17, q13_20, q13_21, q13_22, q13_23, q13_26, q13_29, q13_e, hP.1, hP.2.2.1, pm_rf_some, e0, Option.isSome_some, Option.getD_some, e1, if_true, e2, nI_clamp (show k < 2 ^ 31 by omega), nI_1]
    have f : sp_fr (cP a) S (pm_szi S (a + 2) k (-1)) := sp_fr.zi ⟨by omega, by omega⟩
    refine hN _ ⟨sP_fr hP f, hz, fun l h => ?_⟩ f
    rw [ps_zi_zi]
    split
    · rfl
    · exact hl l (by omega)
  · intro S ⟨hP, hz, hl⟩ hF
    have e0 := pm_al_of hP.2.2.2.2 (Or.inl (by decide))
    rw [q13_7]
    simp only [q13_0, q13_1, q13_2, q13_5, q13_6, q13_8, q13_9, q13_12, q13_13, q13_16, q13_17, q13_20, q13_21, q13_22, q13_23, q13_26, q13_29, q13_e, hP.1, hP.2.2.1, pm_rf_some, e0, Option.isSome_some, Option.getD_some, show ¬ nI 100 < nI 100 by decide, if_false]
    exact hF
theorem nI_m1 {f : Nat} (h : f < 2 ^ 31) : ¬ nI f = -1 := by
  intro q
  have := nI_pos' h
  rw [q] at this
  exact absurd this (by decide)
theorem c_hasAny (hR : hR S a H t) (hk : k < 100) : pm_N d 14 [.ref a, .int (nI k)] S Q = Q (some (.int (if (H k).isSome = true then 1 else 0))) S := by
  obtain ⟨hP, h2, h3⟩ := hR
  have e0 := pm_al_of hP.2.2.2.2 (Or.inl (by decide))
  have e1 : nI k < nI 100 := nI_lt hk (by decide)
  have e2 := pm_ar_nI hP.2.2.2.2 hk (by decide)
  have e3 : ¬ nI k < 0 := k2_nlt (nI_pos' (by omega))
  simp only [q14_0, q14_1, q14_4, q14_5, q14_6, q14_9, q14_10, q14_13, q14_14, q14_17, q14_18, q14_19, q14_20, q14_23, q14_24, q14_27, q14_28, q14_e, hP.1, hP.2.2.1, pm_rf_some, e0, Option.isSome_some, Option.getD_some, e1, e3, if_true, if_false, e2, nI_clamp (show k < 2 ^ 31 by omega), true_or, or_true]
  have := h2 k hk
  cases hH : H k with
  | none =>
    rw [hH] at this
    rw [if_pos (show pm_zi S (a + 2) k = -1 from this)]
    simp
  | some q =>
    rw [hH] at this
    obtain ⟨f, t⟩ := q
    rw [if_neg (by rw [this.2.1]; exact nI_m1 (by have := this.1; omega))]
    simp
theorem c_maxL {x y : Int64} : pm_N d 144 [.long x, .long y] S Q = Q (some (.long (if x < y then y else x))) S := by
  simp only [q144_0, q144_1, q144_2, q144_3, q144_6, q144_7, q144_10, q144_11, q144_e, lg_cmp_lt]
  split <;> rfl
theorem c_addTo {v : Int64} (hP : sP S a) (hk : k < 100) : pm_N d 16 [.ref a, .int (nI k), .long v] S Q = Q none (pm_szl (if hp_of (pm_zl S (a + 1) k) v = true then pm_sgi S a 2 1 else S) (a + 1) k (pm_zl S (a + 1) k + v)) := by
  have e2 := pm_ar_nI hP.2.2.2.1 hk (by decide)
  unfold hp_of
  simp only [q16_0, q16_1, q16_4, q16_5, q16_6, q16_7, q16_8, q16_10, q16_11, q16_14, q16_15, q16_16, q16_18, q16_19, q16_20, q16_22, q16_23, q16_24, q16_25, q16_26, q16_29, q16_30, q16_31, q16_34, q16_35, q16_38, q16_39, q16_41, q16_42, q16_e, hP.1, hP.2.1, pm_rf_some, e2, nI_clamp (show k < 2 ^ 31 by omega), lg_cmp_lt, or_true, ps_gi_nx, ps_gi_sz, ps_gi_sh, ps_gi_gi, ps_gi_gl, ps_gi_gr, ps_gi_zi, ps_gi_zl, ps_gi_zr, ps_gi_ar, ps_gi_al, ps_gl_nx, ps_gl_sz, ps_gl_sh, ps_gl_gi, ps_gl_gl, ps_gl_gr, ps_gl_zi, ps_gl_zl, ps_gl_zr, ps_gl_ar, ps_gl_al, ps_gr_nx, ps_gr_sz, ps_gr_sh, ps_gr_gi, ps_gr_gl, ps_gr_gr, ps_gr_zi, ps_gr_zl, ps_gr_zr, ps_gr_ar, ps_gr_al, ps_zi_nx, ps_zi_sz, ps_zi_sh, ps_zi_gi, ps_zi_gl, ps_zi_gr, ps_zi_zi, ps_zi_zl, ps_zi_zr, ps_zi_ar, ps_zi_al, ps_zl_nx, ps_zl_sz, ps_zl_sh, ps_zl_gi, ps_zl_gl, ps_zl_gr, ps_zl_zi, ps_zl_zl, ps_zl_zr, ps_zl_ar, ps_zl_al, ps_zr_nx, ps_zr_sz, ps_zr_sh, ps_zr_gi, ps_zr_gl, ps_zr_gr, ps_zr_zi, ps_zr_zl, ps_zr_zr, ps_zr_ar, ps_zr_al, pm_rf_some, pm_rf_none, pm_tl_some, pm_tl_none, decide_eq_true_eq]
  split <;> rfl
set_option maxHeartbeats 1000000 in
theorem c_put {i c : Nat} {v : Int64} (h : hR S a H t) (hk : k < 100) (hi : i < 120) (hc : c < 3) (hQ : ∀ S', hR S' a (fun l => if l = k then hp_in c (H k) i v else H l) (t || hp_ov c (H k) v) → sp_fr (cP a) S S' → Q none S') : pm_N (d + 1) 15 [.ref a, .int (nI k), .int (nI i), .long v, .int (nI c)] S Q := by
  obtain ⟨hP, h2, h3⟩ := id h
  have e0 := pm_al_of hP.2.2.2.2 (Or.inl (by decide))
  have e1 : nI k < nI 100 := nI_lt hk (by decide)
  have e2 := pm_ar_nI hP.2.2.2.2 hk (by decide)
  have e2' := pm_ar_nI hP.2.2.2.1 hk (by decide)
  have e3 : ¬ nI k < 0 := k2_nlt (nI_pos' (by omega))
  have e4 := nI_clamp (show k < 2 ^ 31 by omega)
  have c0 : (nI c = 0) = (c = 0) := nI_e' (b := 0) (by omega) (by decide)
  have c1 : (nI c = 1) = (c = 1) := nI_e' (b := 1) (by omega) (by decide)
  have oth : ∀ S' : pm_T, (∀ l, l ≠ k → pm_zi S' (a + 2) l = pm_zi S (a + 2) l) → (∀ l, l ≠ k → pm_zl S' (a + 1) l = pm_zl S (a + 1) l) → ∀ l, l < 100 → l ≠ k → hp_e (H l) S' a l := by
    intro S' w1 w2 l hl hne
    have := h2 l hl
    unfold hp_e at this ⊢
    rw [w1 l hne, w2 l hne]
    exact this
  have fin : ∀ S', sp_fr (cP a) S S' → (∀ l, l ≠ k → pm_zi S' (a + 2) l = pm_zi S (a + 2) l) → (∀ l, l ≠ k → pm_zl S' (a + 1) l = pm_zl S (a + 1) l) → hp_e (hp_in c (H k) i v) S' a k → (pm_gi S' a 2 = if (t || hp_ov c (H k) v) = true then 1 else 0) → Q none S' := by
    intro S' f w1 w2 w3 w4
    refine hQ S' ⟨sP_fr hP f, fun l hl => ?_, w4⟩ f
    by_cases e : l = k
    · subst e
      simpa using w3
    · show hp_e (if l = k then _ else _) S' a l
      rw [if_neg e]
      exact oth S' w1 w2 l hl e
  have hk' := h2 k hk
  cases hH : H k with
  | none =>
    rw [hH] at hk'
    have hm : pm_zi S (a + 2) k = -1 := hk'
    simp only [q15_0, q15_1, q15_4, q15_5, q15_6, q15_9, q15_10, q15_13, q15_14, q15_15, q15_18, q15_19, q15_20, q15_21, q15_24, q15_25, q15_28, q15_29, q15_30, q15_31, q15_32, q15_35, q15_36, q15_38, q15_41, q15_43, q15_44, q15_47, q15_48, q15_51, q15_52, q15_53, q15_56, q15_58, q15_61, q15_62, q15_63, q15_64, q15_67, q15_70, q15_72, q15_73, q15_76, q15_77, q15_80, q15_81, q15_82, q15_85, q15_86, q15_87, q15_88, q15_91, q15_92, q15_95, q15_96, q15_99, q15_100, q15_101, q15_102, q15_103, q15_104, q15_105, q15_e, hP.1, hP.2.1, hP.2.2.1, pm_rf_some, e0, Option.isSome_some, Option.getD_some, e1, e3, if_true, if_false, e2, e4, hm, c0, c1, ps_gi_nx, ps_gi_sz, ps_gi_sh, ps_gi_gi, ps_gi_gl, ps_gi_gr, ps_gi_zi, ps_gi_zl, ps_gi_zr, ps_gi_ar, ps_gi_al, ps_gl_nx, ps_gl_sz, ps_gl_sh, ps_gl_gi, ps_gl_gl, ps_gl_gr, ps_gl_zi, ps_gl_zl, ps_gl_zr, ps_gl_ar, ps_gl_al, ps_gr_nx, ps_gr_sz, ps_gr_sh, ps_gr_gi, ps_gr_gl, ps_gr_gr, ps_gr_zi, ps_gr_zl, ps_gr_zr, ps_gr_ar, ps_gr_al, ps_zi_nx, ps_zi_sz, ps_zi_sh, ps_zi_gi, ps_zi_gl, ps_zi_gr, ps_zi_zi, ps_zi_zl, ps_zi_zr, ps_zi_ar, ps_zi_al, ps_zl_nx, ps_zl_sz, ps_zl_sh, ps_zl_gi, ps_zl_gl, ps_zl_gr, ps_zl_zi, ps_zl_zl, ps_zl_zr, ps_zl_ar, ps_zl_al, ps_zr_nx, ps_zr_sz, ps_zr_sh, ps_zr_gi, ps_zr_gl, ps_zr_gr, ps_zr_zi, ps_zr_zl, ps_zr_zr, ps_zr_ar, ps_zr_al, pm_rf_some, pm_rf_none, pm_tl_some, pm_tl_none, e2']
    have key : ∀ x : Int64, (x = if c = 2 then 1 else v) → Q none (pm_szl (pm_szi S (a + 2) k (nI i)) (a + 1) k x) := by
      intro x hx
      refine fin _ ((sp_fr.zi ⟨by omega, by omega⟩).tr (sp_fr.zl ⟨by omega, by omega⟩)) (fun l hl => ?_) (fun l hl => ?_) ?_ ?_
      · simp [ps_gi_nx, ps_gi_sz, ps_gi_sh, ps_gi_gi, ps_gi_gl, ps_gi_gr, ps_gi_zi, ps_gi_zl, ps_gi_zr, ps_gi_ar, ps_gi_al, ps_gl_nx, ps_gl_sz, ps_gl_sh, ps_gl_gi, ps_gl_gl, ps_gl_gr, ps_gl_zi, ps_gl_zl, ps_gl_zr, ps_gl_ar, ps_gl_al, ps_gr_nx, ps_gr_sz, ps_gr_sh, ps_gr_gi, ps_gr_gl, ps_gr_gr, ps_gr_zi, ps_gr_zl, ps_gr_zr, ps_gr_ar, ps_gr_al, ps_zi_nx, ps_zi_sz, ps_zi_sh, ps_zi_gi, ps_zi_gl, ps_zi_gr, ps_zi_zi, ps_zi_zl, ps_zi_zr, ps_zi_ar, ps_zi_al, ps_zl_nx, ps_zl_sz, ps_zl_sh, ps_zl_gi, ps_zl_gl, ps_zl_gr, ps_zl_zi, ps_zl_zl, ps_zl_zr, ps_zl_ar, ps_zl_al, ps_zr_nx, ps_zr_sz, ps_zr_sh, ps_zr_gi, ps_zr_gl, ps_zr_gr, ps_zr_zi, ps_zr_zl, ps_zr_zr, ps_zr_ar, ps_zr_al, pm_rf_some, pm_rf_none, pm_tl_some, pm_tl_none, hl]
      · simp [ps_gi_nx, ps_gi_sz, ps_gi_sh, ps_gi_gi, ps_gi_gl, ps_gi_gr, ps_gi_zi, ps_gi_zl, ps_gi_zr, ps_gi_ar, ps_gi_al, ps_gl_nx, ps_gl_sz, ps_gl_sh, ps_gl_gi, ps_gl_gl, ps_gl_gr, ps_gl_zi, ps_gl_zl, ps_gl_zr, ps_gl_ar, ps_gl_al, ps_gr_nx, ps_gr_sz, ps_gr_sh, ps_gr_gi, ps_gr_gl, ps_gr_gr, ps_gr_zi, ps_gr_zl, ps_gr_zr, ps_gr_ar, ps_gr_al, ps_zi_nx, ps_zi_sz, ps_zi_sh, ps_zi_gi, ps_zi_gl, ps_zi_gr, ps_zi_zi, ps_zi_zl, ps_zi_zr, ps_zi_ar, ps_zi_al, ps_zl_nx, ps_zl_sz, ps_zl_sh, ps_zl_gi, ps_zl_gl, ps_zl_gr, ps_zl_zi, ps_zl_zl, ps_zl_zr, ps_zl_ar, ps_zl_al, ps_zr_nx, ps_zr_sz, ps_zr_sh, ps_zr_gi, ps_zr_gl, ps_zr_gr, ps_zr_zi, ps_zr_zl, ps_zr_zr, ps_zr_ar, ps_zr_al, pm_rf_some, pm_rf_none, pm_tl_some, pm_tl_none, hl]
      · rw [hH]
        refine ⟨hi, ?_, ?_⟩
        · simp [ps_gi_nx, ps_gi_sz, ps_gi_sh, ps_gi_gi, ps_gi_gl, ps_gi_gr, ps_gi_zi, ps_gi_zl, ps_gi_zr, ps_gi_ar, ps_gi_al, ps_gl_nx, ps_gl_sz, ps_gl_sh, ps_gl_gi, ps_gl_gl, ps_gl_gr, ps_gl_zi, ps_gl_zl, ps_gl_zr, ps_gl_ar, ps_gl_al, ps_gr_nx, ps_gr_sz, ps_gr_sh, ps_gr_gi, ps_gr_gl, ps_gr_gr, ps_gr_zi, ps_gr_zl, ps_gr_zr, ps_gr_ar, ps_gr_al, ps_zi_nx, ps_zi_sz, ps_zi_sh, ps_zi_gi, ps_zi_gl, ps_zi_gr, ps_zi_zi, ps_zi_zl, ps_zi_zr, ps_zi_ar, ps_zi_al, ps_zl_nx, ps_zl_sz, ps_zl_sh, ps_zl_gi, ps_zl_gl, ps_zl_gr, ps_zl_zi, ps_zl_zl, ps_zl_zr, ps_zl_ar, ps_zl_al, ps_zr_nx, ps_zr_sz, ps_zr_sh, ps_zr_gi, ps_zr_gl, ps_zr_gr, ps_zr_zi, ps_zr_zl, ps_zr_zr, ps_zr_ar, ps_zr_al, pm_rf_some, pm_rf_none, pm_tl_some, pm_tl_none]
        · simpa [ps_gi_nx, ps_gi_sz, ps_gi_sh, ps_gi_gi, ps_gi_gl, ps_gi_gr, ps_gi_zi, ps_gi_zl, ps_gi_zr, ps_gi_ar, ps_gi_al, ps_gl_nx, ps_gl_sz, ps_gl_sh, ps_gl_gi, ps_gl_gl, ps_gl_gr, ps_gl_zi, ps_gl_zl, ps_gl_zr, ps_gl_ar, ps_gl_al, ps_gr_nx, ps_gr_sz, ps_gr_sh, ps_gr_gi, ps_gr_gl, ps_gr_gr, ps_gr_zi, ps_gr_zl, ps_gr_zr, ps_gr_ar, ps_gr_al, ps_zi_nx, ps_zi_sz, ps_zi_sh, ps_zi_gi, ps_zi_gl, ps_zi_gr, ps_zi_zi, ps_zi_zl, ps_zi_zr, ps_zi_ar, ps_zi_al, ps_zl_nx, ps_zl_sz, ps_zl_sh, ps_zl_gi, ps_zl_gl, ps_zl_gr, ps_zl_zi, ps_zl_zl, ps_zl_zr, ps_zl_ar, ps_zl_al, ps_zr_nx, ps_zr_sz, ps_zr_sh, ps_zr_gi, ps_zr_gl, ps_zr_gr, ps_zr_zi, ps_zr_zl, ps_zr_zr, ps_zr_ar, ps_zr_al, pm_rf_some, pm_rf_none, pm_tl_some, pm_tl_none] using hx
      · rw [hH]
        simpa [ps_gi_nx, ps_gi_sz, ps_gi_sh, ps_gi_gi, ps_gi_gl, ps_gi_gr, ps_gi_zi, ps_gi_zl, ps_gi_zr, ps_gi_ar, ps_gi_al, ps_gl_nx, ps_gl_sz, ps_gl_sh, ps_gl_gi, ps_gl_gl, ps_gl_gr, ps_gl_zi, ps_gl_zl, ps_gl_zr, ps_gl_ar, ps_gl_al, ps_gr_nx, ps_gr_sz, ps_gr_sh, ps_gr_gi, ps_gr_gl, ps_gr_gr, ps_gr_zi, ps_gr_zl, ps_gr_zr, ps_gr_ar, ps_gr_al, ps_zi_nx, ps_zi_sz, ps_zi_sh, ps_zi_gi, ps_zi_gl, ps_zi_gr, ps_zi_zi, ps_zi_zl, ps_zi_zr, ps_zi_ar, ps_zi_al, ps_zl_nx, ps_zl_sz, ps_zl_sh, ps_zl_gi, ps_zl_gl, ps_zl_gr, ps_zl_zi, ps_zl_zl, ps_zl_zr, ps_zl_ar, ps_zl_al, ps_zr_nx, ps_zr_sz, ps_zr_sh, ps_zr_gi, ps_zr_gl, ps_zr_gr, ps_zr_zi, ps_zr_zl, ps_zr_zr, ps_zr_ar, ps_zr_al, pm_rf_some, pm_rf_none, pm_tl_some, pm_tl_none, hp_ov] using h3
    by_cases z0 : c = 0
    · rw [if_pos z0]; exact key v (by rw [if_neg (by omega)])
    · rw [if_neg z0]
      by_cases z1 : c = 1
      · rw [if_pos z1]; exact key v (by rw [if_neg (by omega)])
      · rw [if_neg z1]; exact key 1 (by rw [if_pos (by omega)])
  | some q =>
    obtain ⟨f, tt⟩ := q
    rw [hH] at hk'
    have hm : ¬ pm_zi S (a + 2) k = -1 := by rw [hk'.2.1]; exact nI_m1 (by have := hk'.1; omega)
    simp only [q15_0, q15_1, q15_4, q15_5, q15_6, q15_9, q15_10, q15_13, q15_14, q15_15, q15_18, q15_19, q15_20, q15_21, q15_24, q15_25, q15_28, q15_29, q15_30, q15_31, q15_32, q15_35, q15_36, q15_38, q15_41, q15_43, q15_44, q15_47, q15_48, q15_51, q15_52, q15_53, q15_56, q15_58, q15_61, q15_62, q15_63, q15_64, q15_67, q15_70, q15_72, q15_73, q15_76, q15_77, q15_80, q15_81, q15_82, q15_85, q15_86, q15_87, q15_88, q15_91, q15_92, q15_95, q15_96, q15_99, q15_100, q15_101, q15_102, q15_103, q15_104, q15_105, q15_e, hP.1, hP.2.1, hP.2.2.1, pm_rf_some, e0, Option.isSome_some, Option.getD_some, e1, e3, if_true, if_false, e2, e4, hm, c0, c1, ps_gi_nx, ps_gi_sz, ps_gi_sh, ps_gi_gi, ps_gi_gl, ps_gi_gr, ps_gi_zi, ps_gi_zl, ps_gi_zr, ps_gi_ar, ps_gi_al, ps_gl_nx, ps_gl_sz, ps_gl_sh, ps_gl_gi, ps_gl_gl, ps_gl_gr, ps_gl_zi, ps_gl_zl, ps_gl_zr, ps_gl_ar, ps_gl_al, ps_gr_nx, ps_gr_sz, ps_gr_sh, ps_gr_gi, ps_gr_gl, ps_gr_gr, ps_gr_zi, ps_gr_zl, ps_gr_zr, ps_gr_ar, ps_gr_al, ps_zi_nx, ps_zi_sz, ps_zi_sh, ps_zi_gi, ps_zi_gl, ps_zi_gr, ps_zi_zi, ps_zi_zl, ps_zi_zr, ps_zi_ar, ps_zi_al, ps_zl_nx, ps_zl_sz, ps_zl_sh, ps_zl_gi, ps_zl_gl, ps_zl_gr, ps_zl_zi, ps_zl_zl, ps_zl_zr, ps_zl_ar, ps_zl_al, ps_zr_nx, ps_zr_sz, ps_zr_sh, ps_zr_gi, ps_zr_gl, ps_zr_gr, ps_zr_zi, ps_zr_zl, ps_zr_zr, ps_zr_ar, ps_zr_al, pm_rf_some, pm_rf_none, pm_tl_some, pm_tl_none, e2', c_addTo hP hk, c_maxL]
    have ht : pm_zl S (a + 1) k = tt := hk'.2.2
    have key : ∀ (x : Int64) (S0 : pm_T), (S0 = S ∨ S0 = pm_sgi S a 2 1) → (x = if c = 0 then tt + v else if c = 1 then (if tt < v then v else tt) else tt + 1) → (pm_gi S0 a 2 = if (t || hp_ov c (H k) v) = true then 1 else 0) → Q none (pm_szl S0 (a + 1) k x) := by
      intro x S0 hS0 hx hg
      have f0 : sp_fr (cP a) S S0 := by
        rcases hS0 with rfl | rfl
        · exact sp_fr.rf
        · exact sp_fr.gi ⟨by omega, by omega⟩ (sh_ne hP.1 (by decide))
      have z0 : ∀ b j, pm_zi S0 b j = pm_zi S b j := by rcases hS0 with rfl | rfl <;> exact fun _ _ => rfl
      have z1 : ∀ b j, pm_zl S0 b j = pm_zl S b j := by rcases hS0 with rfl | rfl <;> exact fun _ _ => rfl
      refine fin _ (f0.tr (sp_fr.zl ⟨by omega, by omega⟩)) (fun l hl => ?_) (fun l hl => ?_) ?_ ?_
      · simp [ps_gi_nx, ps_gi_sz, ps_gi_sh, ps_gi_gi, ps_gi_gl, ps_gi_gr, ps_gi_zi, ps_gi_zl, ps_gi_zr, ps_gi_ar, ps_gi_al, ps_gl_nx, ps_gl_sz, ps_gl_sh, ps_gl_gi, ps_gl_gl, ps_gl_gr, ps_gl_zi, ps_gl_zl, ps_gl_zr, ps_gl_ar, ps_gl_al, ps_gr_nx, ps_gr_sz, ps_gr_sh, ps_gr_gi, ps_gr_gl, ps_gr_gr, ps_gr_zi, ps_gr_zl, ps_gr_zr, ps_gr_ar, ps_gr_al, ps_zi_nx, ps_zi_sz, ps_zi_sh, ps_zi_gi, ps_zi_gl, ps_zi_gr, ps_zi_zi, ps_zi_zl, ps_zi_zr, ps_zi_ar, ps_zi_al, ps_zl_nx, ps_zl_sz, ps_zl_sh, ps_zl_gi, ps_zl_gl, ps_zl_gr, ps_zl_zi, ps_zl_zl, ps_zl_zr, ps_zl_ar, ps_zl_al, ps_zr_nx, ps_zr_sz, ps_zr_sh, ps_zr_gi, ps_zr_gl, ps_zr_gr, ps_zr_zi, ps_zr_zl, ps_zr_zr, ps_zr_ar, ps_zr_al, pm_rf_some, pm_rf_none, pm_tl_some, pm_tl_none, z0]
      · simp [ps_gi_nx, ps_gi_sz, ps_gi_sh, ps_gi_gi, ps_gi_gl, ps_gi_gr, ps_gi_zi, ps_gi_zl, ps_gi_zr, ps_gi_ar, ps_gi_al, ps_gl_nx, ps_gl_sz, ps_gl_sh, ps_gl_gi, ps_gl_gl, ps_gl_gr, ps_gl_zi, ps_gl_zl, ps_gl_zr, ps_gl_ar, ps_gl_al, ps_gr_nx, ps_gr_sz, ps_gr_sh, ps_gr_gi, ps_gr_gl, ps_gr_gr, ps_gr_zi, ps_gr_zl, ps_gr_zr, ps_gr_ar, ps_gr_al, ps_zi_nx, ps_zi_sz, ps_zi_sh, ps_zi_gi, ps_zi_gl, ps_zi_gr, ps_zi_zi, ps_zi_zl, ps_zi_zr, ps_zi_ar, ps_zi_al, ps_zl_nx, ps_zl_sz, ps_zl_sh, ps_zl_gi, ps_zl_gl, ps_zl_gr, ps_zl_zi, ps_zl_zl, ps_zl_zr, ps_zl_ar, ps_zl_al, ps_zr_nx, ps_zr_sz, ps_zr_sh, ps_zr_gi, ps_zr_gl, ps_zr_gr, ps_zr_zi, ps_zr_zl, ps_zr_zr, ps_zr_ar, ps_zr_al, pm_rf_some, pm_rf_none, pm_tl_some, pm_tl_none, hl, z1]
      · rw [hH]
        refine ⟨hk'.1, ?_, ?_⟩
        · simpa [ps_gi_nx, ps_gi_sz, ps_gi_sh, ps_gi_gi, ps_gi_gl, ps_gi_gr, ps_gi_zi, ps_gi_zl, ps_gi_zr, ps_gi_ar, ps_gi_al, ps_gl_nx, ps_gl_sz, ps_gl_sh, ps_gl_gi, ps_gl_gl, ps_gl_gr, ps_gl_zi, ps_gl_zl, ps_gl_zr, ps_gl_ar, ps_gl_al, ps_gr_nx, ps_gr_sz, ps_gr_sh, ps_gr_gi, ps_gr_gl, ps_gr_gr, ps_gr_zi, ps_gr_zl, ps_gr_zr, ps_gr_ar, ps_gr_al, ps_zi_nx, ps_zi_sz, ps_zi_sh, ps_zi_gi, ps_zi_gl, ps_zi_gr, ps_zi_zi, ps_zi_zl, ps_zi_zr, ps_zi_ar, ps_zi_al, ps_zl_nx, ps_zl_sz, ps_zl_sh, ps_zl_gi, ps_zl_gl, ps_zl_gr, ps_zl_zi, ps_zl_zl, ps_zl_zr, ps_zl_ar, ps_zl_al, ps_zr_nx, ps_zr_sz, ps_zr_sh, ps_zr_gi, ps_zr_gl, ps_zr_gr, ps_zr_zi, ps_zr_zl, ps_zr_zr, ps_zr_ar, ps_zr_al, pm_rf_some, pm_rf_none, pm_tl_some, pm_tl_none, z0] using hk'.2.1
        · simpa [ps_gi_nx, ps_gi_sz, ps_gi_sh, ps_gi_gi, ps_gi_gl, ps_gi_gr, ps_gi_zi, ps_gi_zl, ps_gi_zr, ps_gi_ar, ps_gi_al, ps_gl_nx, ps_gl_sz, ps_gl_sh, ps_gl_gi, ps_gl_gl, ps_gl_gr, ps_gl_zi, ps_gl_zl, ps_gl_zr, ps_gl_ar, ps_gl_al, ps_gr_nx, ps_gr_sz, ps_gr_sh, ps_gr_gi, ps_gr_gl, ps_gr_gr, ps_gr_zi, ps_gr_zl, ps_gr_zr, ps_gr_ar, ps_gr_al, ps_zi_nx, ps_zi_sz, ps_zi_sh, ps_zi_gi, ps_zi_gl, ps_zi_gr, ps_zi_zi, ps_zi_zl, ps_zi_zr, ps_zi_ar, ps_zi_al, ps_zl_nx, ps_zl_sz, ps_zl_sh, ps_zl_gi, ps_zl_gl, ps_zl_gr, ps_zl_zi, ps_zl_zl, ps_zl_zr, ps_zl_ar, ps_zl_al, ps_zr_nx, ps_zr_sz, ps_zr_sh, ps_zr_gi, ps_zr_gl, ps_zr_gr, ps_zr_zi, ps_zr_zl, ps_zr_zr, ps_zr_ar, ps_zr_al, pm_rf_some, pm_rf_none, pm_tl_some, pm_tl_none] using hx
      · simpa [ps_gi_nx, ps_gi_sz, ps_gi_sh, ps_gi_gi, ps_gi_gl, ps_gi_gr, ps_gi_zi, ps_gi_zl, ps_gi_zr, ps_gi_ar, ps_gi_al, ps_gl_nx, ps_gl_sz, ps_gl_sh, ps_gl_gi, ps_gl_gl, ps_gl_gr, ps_gl_zi, ps_gl_zl, ps_gl_zr, ps_gl_ar, ps_gl_al, ps_gr_nx, ps_gr_sz, ps_gr_sh, ps_gr_gi, ps_gr_gl, ps_gr_gr, ps_gr_zi, ps_gr_zl, ps_gr_zr, ps_gr_ar, ps_gr_al, ps_zi_nx, ps_zi_sz, ps_zi_sh, ps_zi_gi, ps_zi_gl, ps_zi_gr, ps_zi_zi, ps_zi_zl, ps_zi_zr, ps_zi_ar, ps_zi_al, ps_zl_nx, ps_zl_sz, ps_zl_sh, ps_zl_gi, ps_zl_gl, ps_zl_gr, ps_zl_zi, ps_zl_zl, ps_zl_zr, ps_zl_ar, ps_zl_al, ps_zr_nx, ps_zr_sz, ps_zr_sh, ps_zr_gi, ps_zr_gl, ps_zr_gr, ps_zr_zi, ps_zr_zl, ps_zr_zr, ps_zr_ar, ps_zr_al, pm_rf_some, pm_rf_none, pm_tl_some, pm_tl_none] using hg
    by_cases q0 : c = 0
    · rw [if_pos q0]
      refine key _ _ ?_ (by rw [if_pos q0, ht]) ?_
      · split
        · exact Or.inr rfl
        · exact Or.inl rfl
      · rw [hH]
        simp only [hp_ov, q0, decide_true, Bool.true_and, ht]
        cases hv : hp_of tt v
        · simpa using h3
        · simp [ps_gi_gi]
    · rw [if_neg q0]
      have ho : hp_ov c (H k) v = false := by rw [hH]; simp [hp_ov, q0]
      by_cases q1 : c = 1
      · rw [if_pos q1]
        exact key _ _ (Or.inl rfl) (by rw [if_neg q0, if_pos q1, ht]) (by rw [ho]; simpa using h3)
      · rw [if_neg q1]
        exact key _ _ (Or.inl rfl) (by rw [if_neg q0, if_neg q1, ht]) (by rw [ho]; simpa using h3)
theorem c_putNo {i c : Int32} {v : Int64} (hP : sP S a) : pm_N (d + 1) 15 [.ref a, .int (-1), .int i, .long v, .int c] S Q = Q none S := by
  simp only [q15_0, q15_1, q15_4, q15_5, q15_6, q15_9, q15_10, q15_13, q15_14, q15_15, q15_18, q15_19, q15_20, q15_21, q15_24, q15_25, q15_28, q15_29, q15_30, q15_31, q15_32, q15_35, q15_36, q15_38, q15_41, q15_43, q15_44, q15_47, q15_48, q15_51, q15_52, q15_53, q15_56, q15_58, q15_61, q15_62, q15_63, q15_64, q15_67, q15_70, q15_72, q15_73, q15_76, q15_77, q15_80, q15_81, q15_82, q15_85, q15_86, q15_87, q15_88, q15_91, q15_92, q15_95, q15_96, q15_99, q15_100, q15_101, q15_102, q15_103, q15_104, q15_105, q15_e, show (-1 : Int32) < 0 by decide, if_true]
end
