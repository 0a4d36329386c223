/-! ===== THE WHOLE STATE ===== -/
/-- kind, a, b, choices, fixed, what it has (of a BASE or a fixed one) -/
abbrev sp_G : Type := Nat × Nat × Nat × (Int32 × Int32 × Int32) × Bool × sp_C
/-- graphs, labels, tests -/
abbrev sp_S : Type := List sp_G × (Nat → Nat → Option Nat) × List sp_Te
def sp_g0 : sp_G := (0, 0, 0, (0, 0, 0), false, sp_0)
def gg (gs : List sp_G) (g : Nat) : sp_G := gs.getD g sp_g0
/-- not live -/
def gst (q : sp_G) : Prop := q.1 = 0 ∨ q.2.2.2.2.1 = true
def sp_ctn (LB : Nat → Nat → Option Nat) (ts : List sp_Te) (gs : List sp_G) : Nat → Nat → sp_C
  | 0, _ => sp_0
  | n + 1, g => if (gg gs g).1 = 0 ∨ (gg gs g).2.2.2.2.1 = true then (gg gs g).2.2.2.2.2 else sp_view LB ts (gg gs g).1 (gg gs g).2.2.2.1.1 (gg gs g).2.2.2.1.2.1 (gg gs g).2.2.2.1.2.2 (sp_ctn LB ts gs n (gg gs g).2.1) (sp_ctn LB ts gs n (gg gs g).2.2.1)
/-- what graph g has -/
def ct (Z : sp_S) (g : Nat) : sp_C := sp_ctn Z.2.1 Z.2.2 Z.1 24 g
/-- graph q, the g-th, is in order -/
def gw (ts : List sp_Te) (g : Nat) (q : sp_G) : Prop := q.1 ≤ 7 ∧ (q.1 ≠ 0 → q.2.1 < g ∧ q.2.2.1 < g ∧ sp_vok ts q.1 q.2.2.2.1.1 q.2.2.2.1.2.1 q.2.2.2.1.2.2 ∧ (¬ (q.1 = 3 ∨ q.1 = 4 ∨ q.1 = 5) → q.2.2.1 = q.2.1)) ∧ sp_gd q.2.2.2.2.2 ∧ (q.1 = 0 → q.2.2.2.2.1 = false ∧ q.2.2.2.2.2.1 = 0 ∧ q.2.2.2.2.2.2.1.length ≤ 12 ∧ q.2.2.2.2.2.2.2.1.length ≤ 30 ∧ q.2.2.2.2.2.2.2.2 = []) ∧ (q.2.2.2.2.1 = true → q.2.2.2.2.2.1 = 0) ∧ sp_wd q.2.2.2.2.2
def wf (Z : sp_S) : Prop := Z.1.length ≤ 24 ∧ sp_tok Z.2.2 ∧ sp_lb Z.2.1 ∧ ∀ g, g < Z.1.length → gw Z.2.2 g (gg Z.1 g)
theorem gg_no {gs : List sp_G} {g : Nat} (h : ¬ g < gs.length) : gg gs g = sp_g0 := by unfold gg; rw [List.getD_eq_getElem?_getD, List.getElem?_eq_none (by omega)]; rfl
theorem ctn_up {Z : sp_S} (hw : wf Z) : ∀ n g, g < n → sp_ctn Z.2.1 Z.2.2 Z.1 (n + 1) g = sp_ctn Z.2.1 Z.2.2 Z.1 n g
  | 0, g, h => by omega
  | n + 1, g, h => by
    conv => lhs; unfold sp_ctn
    conv => rhs; unfold sp_ctn
    by_cases hs : (gg Z.1 g).1 = 0 ∨ (gg Z.1 g).2.2.2.2.1 = true
    · rw [if_pos hs, if_pos hs]
    · rw [if_neg hs, if_neg hs]
      have hg : g < Z.1.length := by
        apply Classical.byContradiction
        intro q
        apply hs
        rw [gg_no q]
        exact Or.inl rfl
      obtain ⟨-, w2, -⟩ := hw.2.2.2 g hg
      obtain ⟨w3, w4, -⟩ := w2 (fun q => hs (Or.inl q))
      rw [ctn_up hw n _ (by omega), ctn_up hw n _ (by omega)]
theorem ct_step {Z : sp_S} (hw : wf Z) {g : Nat} (hg : g < Z.1.length) : ct Z g = if (gg Z.1 g).1 = 0 ∨ (gg Z.1 g).2.2.2.2.1 = true then (gg Z.1 g).2.2.2.2.2 else sp_view Z.2.1 Z.2.2 (gg Z.1 g).1 (gg Z.1 g).2.2.2.1.1 (gg Z.1 g).2.2.2.1.2.1 (gg Z.1 g).2.2.2.1.2.2 (ct Z (gg Z.1 g).2.1) (ct Z (gg Z.1 g).2.2.1) := by
  have h24 := hw.1
  show sp_ctn Z.2.1 Z.2.2 Z.1 (23 + 1) g = _
  conv => lhs; unfold sp_ctn
  by_cases hs : (gg Z.1 g).1 = 0 ∨ (gg Z.1 g).2.2.2.2.1 = true
  · rw [if_pos hs, if_pos hs]
  · rw [if_neg hs, if_neg hs]
    obtain ⟨-, w2, -⟩ := hw.2.2.2 g hg
    obtain ⟨w3, w4, -⟩ := w2 (fun q => hs (Or.inl q))
    rw [← ctn_up hw 23 _ (by omega), ← ctn_up hw 23 _ (by omega)]
    rfl
theorem ct_gd {Z : sp_S} (hw : wf Z) : ∀ n g, g < n → g < Z.1.length → sp_gd (ct Z g)
  | 0, g, h, _ => by omega
  | n + 1, g, h, hg => by
    rw [ct_step hw hg]
    obtain ⟨-, w2, w3, -⟩ := hw.2.2.2 g hg
    by_cases hs : (gg Z.1 g).1 = 0 ∨ (gg Z.1 g).2.2.2.2.1 = true
    · rw [if_pos hs]; exact w3
    · rw [if_neg hs]
      obtain ⟨w4, w5, -⟩ := w2 (fun q => hs (Or.inl q))
      exact sp_view_gd hw.2.2.1 (ct_gd hw n _ (by omega) (by omega)) (ct_gd hw n _ (by omega) (by omega))
theorem ct_wd {Z : sp_S} (hw : wf Z) : ∀ n g, g < n → g < Z.1.length → sp_wd (ct Z g)
  | 0, g, h, _ => by omega
  | n + 1, g, h, hg => by
    rw [ct_step hw hg]
    obtain ⟨-, w2, -, -, -, w3⟩ := hw.2.2.2 g hg
    by_cases hs : (gg Z.1 g).1 = 0 ∨ (gg Z.1 g).2.2.2.2.1 = true
    · rw [if_pos hs]; exact w3
    · rw [if_neg hs]
      obtain ⟨w4, w5, -⟩ := w2 (fun q => hs (Or.inl q))
      exact sp_view_wd (ct_wd hw n _ (by omega) (by omega)) (ct_wd hw n _ (by omega) (by omega)) (ct_gd hw _ _ (Nat.lt_succ_self _) (by omega))
/-! the class's cells -/
def ad (x j : Nat) : Nat := x + 52 + 15 * j
theorem ad_ge {x j : Nat} : x + 52 ≤ ad x j := by unfold ad; omega
theorem ad_lt {x i j : Nat} (h : i < j) : ad x i + 15 ≤ ad x j := by unfold ad; omega
theorem ad_ne {x i j : Nat} (h : i ≠ j) : ad x i + 15 ≤ ad x j ∨ ad x j + 15 ≤ ad x i := by unfold ad; omega
/-- the fields of the j-th Graph -/
def cF (S : pm_T) (x j : Nat) (q : sp_G) : Prop := pm_gi S (ad x j) 6 = nI q.1 ∧ (q.1 ≠ 0 → pm_gr S (ad x j) 7 = some (ad x q.2.1) ∧ pm_gr S (ad x j) 8 = some (ad x q.2.2.1) ∧ pm_gi S (ad x j) 9 = q.2.2.2.1.1 ∧ pm_gi S (ad x j) 10 = q.2.2.2.1.2.1 ∧ pm_gi S (ad x j) 11 = q.2.2.2.1.2.2) ∧ pm_gi S (ad x j) 12 = if q.2.2.2.2.1 = true then 1 else 0
/-- the object, its Reckoner, its arrays -/
def cX (S : pm_T) (x : Nat) : Prop := pm_sh S x = .inr 6 ∧ pm_gr S x 0 = some (x + 1) ∧ pm_gr S x 1 = some (x + 2) ∧ pm_gr S x 2 = some (x + 3) ∧ pm_gr S x 3 = some (x + 8) ∧ pm_sh S (x + 1) = .inl (4, 24) ∧ sR S (x + 2)
/-- how many Graphs there are made -/
def cM (S : pm_T) (x M : Nat) : Prop := M ≤ 24 ∧ (∀ j, j < 24 → pm_zr S (x + 1) j = if j < M then some (ad x j) else none) ∧ (∀ j, j < M → sG S (ad x j)) ∧ pm_nx S = x + 52 + 15 * M ∧ pm_sz S ≤ 100000 + 1000 * M
def fresh (S : pm_T) (x : Nat) (Z : sp_S) (nw j : Nat) : Prop := (gg Z.1 j).1 = 0 ∨ (gg Z.1 j).2.2.2.2.1 = true ∨ pm_gi S (ad x j) 13 = nI nw
def cI (S : pm_T) (x : Nat) (Z : sp_S) (nw M : Nat) : Prop := cX S x ∧ cM S x M ∧ pm_gi S x 4 = nI Z.1.length ∧ pm_gi S x 5 = nI nw ∧ 1 ≤ nw ∧ nw ≤ 2000 ∧ Z.1.length ≤ M ∧ cT S (x + 3) Z.2.2 ∧ cL S (x + 2) Z.2.1 ∧ ∀ j, j < Z.1.length → cF S x j (gg Z.1 j) ∧ (∃ rk, rk ≤ nw ∧ pm_gi S (ad x j) 13 = nI rk) ∧ (fresh S x Z nw j → cC S (ad x j) (ct Z j))
/-- where the class may write -/
def cO (x : Nat) : Nat → Prop := fun b => (x ≤ b ∧ b < x + 18) ∨ x + 52 ≤ b
theorem cX_fr {P : Nat → Prop} {S S' : pm_T} {x : Nat} (h : cX S x) (hf : sp_fr P S S') : cX S' x := by
  obtain ⟨h1, h2, h3, h4, h5, h6, h7⟩ := h
  exact ⟨by rw [hf.2.2.1]; exact h1, by rw [hf.2.2.2.1]; exact h2, by rw [hf.2.2.2.1]; exact h3, by rw [hf.2.2.2.1]; exact h4, by rw [hf.2.2.2.1]; exact h5, by rw [hf.2.2.1]; exact h6, sR_fr h7 hf⟩
theorem cM_fr {P : Nat → Prop} {S S' : pm_T} {x M : Nat} (h : cM S x M) (hf : sp_fr P S S') : cM S' x M := by
  obtain ⟨h1, h2, h3, h4, h5⟩ := h
  exact ⟨h1, fun j hj => by rw [hf.2.2.2.2.1]; exact h2 j hj, fun j hj => sG_fr (h3 j hj) hf, by rw [hf.1]; exact h4, by rw [hf.2.1.1]; exact h5⟩
theorem cF_fr {P : Nat → Prop} {S S' : pm_T} {x j : Nat} {q : sp_G} (h : cF S x j q) (hG : sG S (ad x j)) (hf : sp_fr P S S') : cF S' x j q := by
  obtain ⟨h1, h2, h3⟩ := h
  have e := fun k hk => hf.2.1.2 (ad x j) k hG.1 hk
  exact ⟨by rw [e 6 (by decide)]; exact h1, fun hq => by rw [hf.2.2.2.1, hf.2.2.2.1, e 9 (by decide), e 10 (by decide), e 11 (by decide)]; exact h2 hq, by rw [e 12 (by decide)]; exact h3⟩
section
variable {d x g n k nw M : Nat} {S : pm_T} {Q : Option Value → pm_T → Prop} {Z : sp_S}
/-- the j-th view has been reckoned -/
theorem cI_reck {S' : pm_T} (h : cI S x Z nw M) (hg : g < Z.1.length) (hf : sp_fr (rP (x + 2) (ad x g)) S S') (hC : cC S' (ad x g) (ct Z g)) (hT : cT S' (x + 3) Z.2.2) : cI (pm_sgi S' (ad x g) 13 (nI nw)) x Z nw M ∧ (∀ j, fresh S x Z nw j → fresh (pm_sgi S' (ad x g) 13 (nI nw)) x Z nw j) := by
  obtain ⟨h1, h2, h3, h4, h5, h6, h7, h8, h9, h10⟩ := h
  have ag := ad_ge (x := x) (j := g)
  have out : ∀ b, ¬ rP (x + 2) (ad x g) b → (∀ k, pm_gi S' b k = pm_gi S b k) := fun b hb => (hf.2.2.2.2.2 b hb).1
  have e0 : ∀ b k, ¬ (b = ad x g ∧ k = 13) → pm_gi (pm_sgi S' (ad x g) 13 (nI nw)) b k = pm_gi S' b k := fun b k h => by rw [ps_gi_gi, if_neg h]
  have hx : ∀ k, pm_gi (pm_sgi S' (ad x g) 13 (nI nw)) x k = pm_gi S x k := fun k => by rw [e0 _ _ (by omega), out x (by unfold rP cB; omega)]
  have hG : ∀ j, j < Z.1.length → sG S (ad x j) := fun j hj => h2.2.2.1 j (by omega)
  have r13 : ∀ j, j < Z.1.length → pm_gi (pm_sgi S' (ad x g) 13 (nI nw)) (ad x j) 13 = if j = g then nI nw else pm_gi S (ad x j) 13 := by
    intro j hj
    by_cases e : j = g
    · subst e; rw [ps_gi_self, if_pos rfl]
    · have := ad_ne (x := x) e
      rw [if_neg e, e0 _ _ (by omega), hf.2.1.2 (ad x j) 13 (hG j hj).1 (by decide)]
  have hfr : ∀ j, fresh S x Z nw j → fresh (pm_sgi S' (ad x g) 13 (nI nw)) x Z nw j := by
    intro j hfj
    rcases hfj with q | q | q
    · exact Or.inl q
    · exact Or.inr (Or.inl q)
    · refine Or.inr (Or.inr ?_)
      by_cases e : j = g
      · subst e; rw [ps_gi_self]
      · have := ad_ne (x := x) e
        rw [e0 _ _ (by omega)]
        by_cases hj : j < Z.1.length
        · rw [hf.2.1.2 (ad x j) 13 (hG j hj).1 (by decide)]; exact q
        · rw [out (ad x j) (by have := ad_ge (x := x) (j := j); unfold rP cB; omega)]; exact q
  have hX' : cX S' x := cX_fr h1 hf
  have hM' : cM S' x M := cM_fr h2 hf
  refine ⟨⟨hX', hM', by rw [hx]; exact h3, by rw [hx]; exact h4, h5, h6, h7, ⟨hT.1, by rw [e0 _ _ (by omega)]; exact hT.2.1, hT.2.2⟩, fun t i ht hi => ?_, fun j hj => ?_⟩, hfr⟩
  · show pm_zi S' (x + 2 + 7 + t) i = _
    rw [(hf.2.2.2.2.2 (x + 2 + 7 + t) (by unfold rP cB; omega)).2.2.1]
    exact h9 t i ht hi
  · obtain ⟨f1, f2, f3⟩ := h10 j hj
    have f1' := cF_fr f1 (hG j hj) hf
    refine ⟨⟨by rw [e0 _ _ (by omega)]; exact f1'.1, fun hq => ?_, by rw [e0 _ _ (by omega)]; exact f1'.2.2⟩, ?_, fun hfr' => ?_⟩
    · rw [e0 _ _ (by omega), e0 _ _ (by omega), e0 _ _ (by omega)]
      exact f1'.2.1 hq
    · rw [r13 j hj]
      by_cases e : j = g
      · rw [if_pos e]; exact ⟨nw, Nat.le_refl _, rfl⟩
      · rw [if_neg e]; exact f2
    · have keep : ∀ C, cC S' (ad x j) C → cC (pm_sgi S' (ad x g) 13 (nI nw)) (ad x j) C := by
        intro C hc
        unfold cC cN cA cH cZ at hc ⊢
        simpa [ps_gi_nx, ps_gi_sz, ps_gi_sh, ps_gi_gi, ps_gi_gl, ps_gi_gr, ps_gi_zi, ps_gi_zl, ps_gi_zr, ps_gi_ar, ps_gi_al, ps_gl_nx, ps_gl_sz, ps_gl_sh, ps_gl_gi, ps_gl_gl, ps_gl_gr, ps_gl_zi, ps_gl_zl, ps_gl_zr, ps_gl_ar, ps_gl_al, ps_gr_nx, ps_gr_sz, ps_gr_sh, ps_gr_gi, ps_gr_gl, ps_gr_gr, ps_gr_zi, ps_gr_zl, ps_gr_zr, ps_gr_ar, ps_gr_al, ps_zi_nx, ps_zi_sz, ps_zi_sh, ps_zi_gi, ps_zi_gl, ps_zi_gr, ps_zi_zi, ps_zi_zl, ps_zi_zr, ps_zi_ar, ps_zi_al, ps_zl_nx, ps_zl_sz, ps_zl_sh, ps_zl_gi, ps_zl_gl, ps_zl_gr, ps_zl_zi, ps_zl_zl, ps_zl_zr, ps_zl_ar, ps_zl_al, ps_zr_nx, ps_zr_sz, ps_zr_sh, ps_zr_gi, ps_zr_gl, ps_zr_gr, ps_zr_zi, ps_zr_zl, ps_zr_zr, ps_zr_ar, ps_zr_al, pm_rf_some, pm_rf_none, pm_tl_some, pm_tl_none, show ¬ (5 : Nat) = 13 by decide, show ¬ (3 : Nat) = 13 by decide] using hc
      by_cases e : j = g
      · subst e; exact keep _ hC
      · have hne := ad_ne (x := x) e
        refine keep _ (cC_fr (f3 ?_) hf (fun b hb q => by have := ad_ge (x := x) (j := j); unfold rP at q; unfold cB at hb q; omega))
        unfold fresh at hfr' ⊢
        rw [r13 j hj, if_neg e] at hfr'
        exact hfr'
end
