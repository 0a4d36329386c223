/-! ===== the class: test, arc, set, label, live ===== -/
def g_st (q : sp_G) (C : sp_C) : sp_G := (q.1, q.2.1, q.2.2.1, q.2.2.2.1, q.2.2.2.2.1, C)
def g_fx (q : sp_G) (b : Bool) (C : sp_C) : sp_G := (q.1, q.2.1, q.2.2.1, q.2.2.2.1, b, C)
def sp_pA (C : sp_C) (q : sp_A) : sp_C := (C.1, C.2.1, C.2.2.1 ++ [q], C.2.2.2)
def sp_setN (C : sp_C) (i : Nat) (v : Int64) : sp_C := (C.1, C.2.1.set i (v, (sp_nd C i).2), C.2.2)
def sp_setA (C : sp_C) (i : Nat) (v : Int64) : sp_C := (C.1, C.2.1, C.2.2.1.set i ((sp_ar C i).1, (sp_ar C i).2.1, v, (sp_ar C i).2.2.2), C.2.2.2)
def op_test (Z : sp_S) (s : Int32) (c : Int64) (t u : Int32) : Int32 × sp_S := if ¬ s < 0 ∧ s ≤ 8 ∧ (s < 4 ∨ (ix t Z.2.2.length).isSome = true) ∧ (¬ (s = 5 ∨ s = 6) ∨ (ix u Z.2.2.length).isSome = true) then (if Z.2.2.length < 20 then (nI Z.2.2.length, (Z.1, Z.2.1, Z.2.2 ++ [(s.toNatClampNeg, c, t, u)])) else (-1000002, Z)) else (-1000001, Z)
def op_arc (Z : sp_S) (g f t : Int32) (v : Int64) : Int32 × sp_S := match ix g Z.1.length with
  | none => (-1000001, Z)
  | some j => if (gg Z.1 j).1 = 0 then (match ix f (gg Z.1 j).2.2.2.2.2.2.1.length with
    | none => (-1000001, Z)
    | some a => match ix t (gg Z.1 j).2.2.2.2.2.2.1.length with
      | none => (-1000001, Z)
      | some b => if (gg Z.1 j).2.2.2.2.2.2.2.1.length < 30 then (nI (gg Z.1 j).2.2.2.2.2.2.2.1.length, (Z.1.set j (g_st (gg Z.1 j) (sp_pA (gg Z.1 j).2.2.2.2.2 (a, b, v, none, none))), Z.2)) else (-1000002, Z)) else (-1000001, Z)
def op_set (Z : sp_S) (g wh i : Int32) (v : Int64) : Int32 × sp_S := match ix g Z.1.length with
  | none => (-1000001, Z)
  | some j => if (gg Z.1 j).1 = 0 then (if wh = 0 ∨ wh = 1 then (match ix i (sp_len (gg Z.1 j).2.2.2.2.2 wh.toNatClampNeg) with
    | none => (-1000001, Z)
    | some k => (1, (Z.1.set j (g_st (gg Z.1 j) (if wh = 0 then sp_setN (gg Z.1 j).2.2.2.2.2 k v else sp_setA (gg Z.1 j).2.2.2.2.2 k v)), Z.2))) else (-1000001, Z)) else (-1000001, Z)
def lb_up (LB : Nat → Nat → Option Nat) (t i : Nat) (v : Option Nat) : Nat → Nat → Option Nat := fun t' i' => if t' = t ∧ i' = i then v else LB t' i'
def op_label (Z : sp_S) (t i v : Int32) : Int32 × sp_S := if (0 ≤ t ∧ t < 4) ∧ ¬ i < 0 ∧ i < 40 ∧ ¬ v < -1 ∧ v < 10 then (sp_eC (Z.2.1 t.toNatClampNeg i.toNatClampNeg), (Z.1, lb_up Z.2.1 t.toNatClampNeg i.toNatClampNeg (sp_de v), Z.2.2)) else (-2, Z)
def op_live (Z : sp_S) (g : Int32) (b : Bool) : Int32 × sp_S := match ix g Z.1.length with
  | none => (-1000001, Z)
  | some j => if (gg Z.1 j).1 = 0 then (-1000001, Z) else if (gg Z.1 j).2.2.2.2.1 = b then (if b = true then (1, (Z.1.set j (g_fx (gg Z.1 j) false (gg Z.1 j).2.2.2.2.2), Z.2)) else if (ct Z j).1 = 0 then (1, (Z.1.set j (g_fx (gg Z.1 j) true (ct Z j)), Z.2)) else (-1000003, Z)) else (0, Z)
section
variable {gs : List sp_G} {q : sp_G} {j g : Nat} {Z : sp_S}
theorem gg_set (hj : j < gs.length) (i : Nat) : gg (gs.set j q) i = if i = j then q else gg gs i := by
  unfold gg
  rw [List.getD_eq_getElem?_getD, List.getD_eq_getElem?_getD, List.getElem?_set]
  by_cases e : j = i
  · subst e; rw [if_pos rfl, if_pos rfl, if_pos hj]; rfl
  · rw [if_neg e, if_neg (fun h => e h.symm)]
theorem ct_st (h : (gg Z.1 g).1 = 0 ∨ (gg Z.1 g).2.2.2.2.1 = true) : ct Z g = (gg Z.1 g).2.2.2.2.2 := by
  show sp_ctn Z.2.1 Z.2.2 Z.1 (23 + 1) g = _
  unfold sp_ctn
  rw [if_pos h]
theorem wf_set (hw : wf Z) (hj : j < Z.1.length) (hq : gw Z.2.2 j q) : wf (Z.1.set j q, Z.2) := by
  refine ⟨by show (Z.1.set j q).length ≤ 24; rw [List.length_set]; exact hw.1, hw.2.1, hw.2.2.1, fun g hg => ?_⟩
  have hg' : g < Z.1.length := by simpa using hg
  show gw Z.2.2 g (gg (Z.1.set j q) g)
  rw [gg_set hj]
  split
  · next e => subst e; exact hq
  · exact hw.2.2.2 g hg'
end
section
variable {d x n k nw M a b L : Nat} {S S' : pm_T} {Q : Option Value → pm_T → Prop} {Z Z' : sp_S} {g s wc wh i t f u : Int32} {C : sp_C} {v c : Int64}
theorem cI_st {j : Nat} (hI : cI S x Z nw M) (hj : j < Z.1.length) (h : (gg Z.1 j).1 = 0 ∨ (gg Z.1 j).2.2.2.2.1 = true) : cC S (ad x j) (gg Z.1 j).2.2.2.2.2 := by
  rw [← ct_st h]
  exact (hI.2.2.2.2.2.2.2.2.2 j hj).2.2 (h.elim Or.inl (fun h => Or.inr (Or.inl h)))
/-- all live views are stale now -/
theorem cI_bump (hI : cI S x Z nw M) (hl : Z'.1.length = Z.1.length) (hn : nw < 2000) (hX : cX S' x) (hM : cM S' x M) (h4 : pm_gi S' x 4 = pm_gi S x 4) (h5 : pm_gi S' x 5 = nI (nw + 1)) (hT : cT S' (x + 3) Z'.2.2) (hL : cL S' (x + 2) Z'.2.1) (hF : ∀ j, j < Z.1.length → cF S' x j (gg Z'.1 j) ∧ pm_gi S' (ad x j) 13 = pm_gi S (ad x j) 13) (hC : ∀ j, j < Z.1.length → (gg Z'.1 j).1 = 0 ∨ (gg Z'.1 j).2.2.2.2.1 = true → cC S' (ad x j) (gg Z'.1 j).2.2.2.2.2) : cI S' x Z' (nw + 1) M := by
  obtain ⟨h1, h2, h3, h4', h5', h6, h7, h8, h9, h10⟩ := hI
  refine ⟨hX, hM, by rw [h4, h3, hl], h5, by omega, by omega, by rw [hl]; exact h7, hT, hL, fun j hj => ?_⟩
  rw [hl] at hj
  obtain ⟨f1, ⟨rk, f2, f3⟩, f4⟩ := h10 j hj
  obtain ⟨e1, e2⟩ := hF j hj
  refine ⟨e1, ⟨rk, by omega, e2.trans f3⟩, fun hfr => ?_⟩
  have hs : (gg Z'.1 j).1 = 0 ∨ (gg Z'.1 j).2.2.2.2.1 = true := by
    rcases hfr with h | h | h
    · exact Or.inl h
    · exact Or.inr h
    · rw [e2, f3] at h
      have := (nI_eq (by omega) (by omega)).mp h
      omega
  rw [ct_st hs]
  exact hC j hj hs
theorem sp_tin_b {L : Nat} (h : L ≤ 20) : (sp_tin t (nI L) = true) = ((ix t L).isSome = true) := by
  have := sp_tin_ix (t := t) h
  cases h1 : sp_tin t (nI L) <;> cases h2 : (ix t L).isSome <;> simp_all
theorem op_test_wf (hw : wf Z) : wf (op_test Z s c t u).2 := by
  unfold op_test
  split
  · next h =>
    obtain ⟨h1, h2, h3, h4⟩ := h
    split
    · next hl =>
      obtain ⟨m, hm, rfl⟩ := nI_of h1
      have hm8 : m ≤ 8 := by
        rw [Int32.le_iff_toInt_le, nI_toInt hm] at h2
        have : (8 : Int32).toInt = 8 := rfl
        omega
      rw [nI_clamp hm]
      refine wf_ts hw ⟨by simp; omega, fun k hk => ?_⟩
      have hk' : k < Z.2.2.length + 1 := by simpa using hk
      by_cases e : k = Z.2.2.length
      · subst e
        rw [te_new]
        refine ⟨hm8, fun q => ?_, fun q => ?_⟩
        · have q' : 4 ≤ m := q
          have : ¬ nI m < 4 := nI_nlt (a := m) (b := 4) q' (by omega)
          obtain ⟨y, hy⟩ := Option.isSome_iff_exists.mp (h3.resolve_left this)
          exact ⟨y, ix_some (by omega) hy⟩
        · have q' : m = 5 ∨ m = 6 := q
          have : ¬ ¬ (nI m = 5 ∨ nI m = 6) := fun z => z (q'.elim (fun e => Or.inl (by rw [e]; rfl)) (fun e => Or.inr (by rw [e]; rfl)))
          obtain ⟨y, hy⟩ := Option.isSome_iff_exists.mp (h4.resolve_left this)
          exact ⟨y, ix_some (by omega) hy⟩
      · rw [te_app (by omega)]
        exact hw.2.1.2 k (by omega)
    · exact hw
  · exact hw
set_option maxHeartbeats 2000000 in
theorem c_test (hw : wf Z) (hI : cI S x Z nw M) (hQ : ∀ S', cI S' x (op_test Z s c t u).2 nw M → frO (cO x) S S' → Q (some (.int (op_test Z s c t u).1)) S') : pm_N (d + 2) 60 [.ref x, .int s, .long c, .int t, .int u] S Q := by
  obtain ⟨h1, h2, h3, h4, h5, h6, h7, h8, h9, h10⟩ := id hI
  have hts := hw.2.1.1
  have eT : pm_gi S (x + 3) 4 = nI Z.2.2.length := h8.2.1
  unfold op_test at hQ
  simp only [q60_0, q60_1, q60_4, q60_5, q60_7, q60_9, q60_12, q60_15, q60_17, q60_18, q60_19, q60_22, q60_25, q60_27, q60_30, q60_32, q60_33, q60_34, q60_37, q60_38, q60_39, q60_41, q60_43, q60_46, q60_47, q60_50, q60_53, q60_54, q60_55, q60_e, h1.1, h1.2.2.2.1, pm_rf_some, h8.1.1, c_tFits h8.1, pm_tl_some, pm_z1, eT, sp_tin_b hts]
  by_cases c1 : ¬ s < 0 ∧ s ≤ 8 ∧ (s < 4 ∨ (ix t Z.2.2.length).isSome = true) ∧ (¬ (s = 5 ∨ s = 6) ∨ (ix u Z.2.2.length).isSome = true)
  · rw [if_neg (fun h => h c1)]; rw [if_pos c1] at hQ
    by_cases c2 : Z.2.2.length < 20
    · have e1 : nI Z.2.2.length < 20 := nI_lt (b := 20) c2 (by decide)
      rw [if_pos c2] at hQ
      obtain ⟨m, hm, rfl⟩ := nI_of c1.1
      rw [nI_clamp hm] at hQ
      simp only [e1, if_true, c_tAdd h8.1 eT c2, pm_tl_none, q60_0, q60_1, q60_4, q60_5, q60_7, q60_9, q60_12, q60_15, q60_17, q60_18, q60_19, q60_22, q60_25, q60_27, q60_30, q60_32, q60_33, q60_34, q60_37, q60_38, q60_39, q60_41, q60_43, q60_46, q60_47, q60_50, q60_53, q60_54, q60_55, q60_e, h1.1, h1.2.2.2.1, h8.1.1, pm_rf_some, ps_gi_nx, ps_gi_sz, ps_gi_sh, ps_gi_gi, ps_gi_gl, ps_gi_gr, ps_gi_zi, ps_gi_zl, ps_gi_zr, ps_gi_ar, ps_gi_al, ps_gl_nx, ps_gl_sz, ps_gl_sh, ps_gl_gi, ps_gl_gl, ps_gl_gr, ps_gl_zi, ps_gl_zl, ps_gl_zr, ps_gl_ar, ps_gl_al, ps_gr_nx, ps_gr_sz, ps_gr_sh, ps_gr_gi, ps_gr_gl, ps_gr_gr, ps_gr_zi, ps_gr_zl, ps_gr_zr, ps_gr_ar, ps_gr_al, ps_zi_nx, ps_zi_sz, ps_zi_sh, ps_zi_gi, ps_zi_gl, ps_zi_gr, ps_zi_zi, ps_zi_zl, ps_zi_zr, ps_zi_ar, ps_zi_al, ps_zl_nx, ps_zl_sz, ps_zl_sh, ps_zl_gi, ps_zl_gl, ps_zl_gr, ps_zl_zi, ps_zl_zl, ps_zl_zr, ps_zl_ar, ps_zl_al, ps_zr_nx, ps_zr_sz, ps_zr_sh, ps_zr_gi, ps_zr_gl, ps_zr_gr, ps_zr_zi, ps_zr_zl, ps_zr_zr, ps_zr_ar, ps_zr_al, pm_rf_some, pm_rf_none, pm_tl_some, pm_tl_none, and_self, nI_s1]
      have hfr : frO (fun b => x + 3 ≤ b ∧ b < x + 8) S (pm_sgi (pm_szi (pm_szi (pm_szl (pm_szi S (x + 3 + 1) Z.2.2.length (nI m)) (x + 3 + 2) Z.2.2.length c) (x + 3 + 3) Z.2.2.length t) (x + 3 + 4) Z.2.2.length u) (x + 3) 4 (nI (Z.2.2.length + 1))) := (frO.zi (by omega)).tr ((frO.zl (by omega)).tr ((frO.zi (by omega)).tr ((frO.zi (by omega)).tr (frO.gi (by omega)))))
      refine hQ _ ⟨h1, h2, by rw [(hfr x (by omega)).2.1]; exact h3, by rw [(hfr x (by omega)).2.1]; exact h4, h5, h6, h7, ⟨h8.1, by simp [ps_gi_nx, ps_gi_sz, ps_gi_sh, ps_gi_gi, ps_gi_gl, ps_gi_gr, ps_gi_zi, ps_gi_zl, ps_gi_zr, ps_gi_ar, ps_gi_al, ps_gl_nx, ps_gl_sz, ps_gl_sh, ps_gl_gi, ps_gl_gl, ps_gl_gr, ps_gl_zi, ps_gl_zl, ps_gl_zr, ps_gl_ar, ps_gl_al, ps_gr_nx, ps_gr_sz, ps_gr_sh, ps_gr_gi, ps_gr_gl, ps_gr_gr, ps_gr_zi, ps_gr_zl, ps_gr_zr, ps_gr_ar, ps_gr_al, ps_zi_nx, ps_zi_sz, ps_zi_sh, ps_zi_gi, ps_zi_gl, ps_zi_gr, ps_zi_zi, ps_zi_zl, ps_zi_zr, ps_zi_ar, ps_zi_al, ps_zl_nx, ps_zl_sz, ps_zl_sh, ps_zl_gi, ps_zl_gl, ps_zl_gr, ps_zl_zi, ps_zl_zl, ps_zl_zr, ps_zl_ar, ps_zl_al, ps_zr_nx, ps_zr_sz, ps_zr_sh, ps_zr_gi, ps_zr_gl, ps_zr_gr, ps_zr_zi, ps_zr_zl, ps_zr_zr, ps_zr_ar, ps_zr_al, pm_rf_some, pm_rf_none, pm_tl_some, pm_tl_none], fun k hk => ?_⟩, cL_frO h9 hfr (fun b q1 q2 => by omega), fun j hj => ?_⟩ (hfr.mono (fun b hb => by unfold cO; omega))
      · have hk' : k < Z.2.2.length + 1 := by simpa using hk
        by_cases e : k = Z.2.2.length
        · subst e
          dsimp only
          rw [te_new]
          simp [ps_gi_nx, ps_gi_sz, ps_gi_sh, ps_gi_gi, ps_gi_gl, ps_gi_gr, ps_gi_zi, ps_gi_zl, ps_gi_zr, ps_gi_ar, ps_gi_al, ps_gl_nx, ps_gl_sz, ps_gl_sh, ps_gl_gi, ps_gl_gl, ps_gl_gr, ps_gl_zi, ps_gl_zl, ps_gl_zr, ps_gl_ar, ps_gl_al, ps_gr_nx, ps_gr_sz, ps_gr_sh, ps_gr_gi, ps_gr_gl, ps_gr_gr, ps_gr_zi, ps_gr_zl, ps_gr_zr, ps_gr_ar, ps_gr_al, ps_zi_nx, ps_zi_sz, ps_zi_sh, ps_zi_gi, ps_zi_gl, ps_zi_gr, ps_zi_zi, ps_zi_zl, ps_zi_zr, ps_zi_ar, ps_zi_al, ps_zl_nx, ps_zl_sz, ps_zl_sh, ps_zl_gi, ps_zl_gl, ps_zl_gr, ps_zl_zi, ps_zl_zl, ps_zl_zr, ps_zl_ar, ps_zl_al, ps_zr_nx, ps_zr_sz, ps_zr_sh, ps_zr_gi, ps_zr_gl, ps_zr_gr, ps_zr_zi, ps_zr_zl, ps_zr_zr, ps_zr_ar, ps_zr_al, pm_rf_some, pm_rf_none, pm_tl_some, pm_tl_none]
        · dsimp only
          rw [te_app (by omega)]
          simp only [ps_gi_nx, ps_gi_sz, ps_gi_sh, ps_gi_gi, ps_gi_gl, ps_gi_gr, ps_gi_zi, ps_gi_zl, ps_gi_zr, ps_gi_ar, ps_gi_al, ps_gl_nx, ps_gl_sz, ps_gl_sh, ps_gl_gi, ps_gl_gl, ps_gl_gr, ps_gl_zi, ps_gl_zl, ps_gl_zr, ps_gl_ar, ps_gl_al, ps_gr_nx, ps_gr_sz, ps_gr_sh, ps_gr_gi, ps_gr_gl, ps_gr_gr, ps_gr_zi, ps_gr_zl, ps_gr_zr, ps_gr_ar, ps_gr_al, ps_zi_nx, ps_zi_sz, ps_zi_sh, ps_zi_gi, ps_zi_gl, ps_zi_gr, ps_zi_zi, ps_zi_zl, ps_zi_zr, ps_zi_ar, ps_zi_al, ps_zl_nx, ps_zl_sz, ps_zl_sh, ps_zl_gi, ps_zl_gl, ps_zl_gr, ps_zl_zi, ps_zl_zl, ps_zl_zr, ps_zl_ar, ps_zl_al, ps_zr_nx, ps_zr_sz, ps_zr_sh, ps_zr_gi, ps_zr_gl, ps_zr_gr, ps_zr_zi, ps_zr_zl, ps_zr_zr, ps_zr_ar, ps_zr_al, pm_rf_some, pm_rf_none, pm_tl_some, pm_tl_none, e, and_false, if_false]
          exact h8.2.2 k (by omega)
      · have ag := ad_ge (x := x) (j := j)
        obtain ⟨f1, ⟨rk, f2, f3⟩, f4⟩ := h10 j hj
        refine ⟨cF_frO f1 hfr (by omega), ⟨rk, f2, ((hfr _ (by omega)).2.1 _).trans f3⟩, fun z => ?_⟩
        rw [ct_ts hw hj]
        exact cC_frO (f4 (fresh_frO (Z := Z) hfr (by omega) z)) hfr (fun b hb => by unfold cB at hb; omega)
    · rw [if_neg c2] at hQ
      have e1 : ¬ nI Z.2.2.length < 20 := nI_nlt (b := 20) (by omega) (by omega)
      simp only [e1, if_false]
      exact hQ S hI frO.rf
  · rw [if_pos c1]; rw [if_neg c1] at hQ; exact hQ S hI frO.rf
end
