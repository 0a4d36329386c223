/-! ===== the class: GATHERED ===== -/
/-- the Graph at w has failure f and these lists, whatever f is -/
def cQ (S : pm_T) (w f : Nat) (ns : List sp_N) (as : List sp_A) (hs : List (Nat × Nat × Nat)) : Prop := pm_gi S w 5 = nI f ∧ cN S w ns ∧ cA S w as ∧ cH S w hs
/-- labels: table, node -/
def cL (S : pm_T) (r : Nat) (LB : Nat → Nat → Option Nat) : Prop := ∀ t i, t < 4 → i < 40 → pm_zi S (r + 7 + t) i = sp_eC (LB t i)
/-- labels are below 10 -/
def sp_lb (LB : Nat → Nat → Option Nat) : Prop := ∀ t i l, LB t i = some l → l < 10
theorem cQ_C {S : pm_T} {w f : Nat} {ns : List sp_N} {as : List sp_A} {hs : List (Nat × Nat × Nat)} (h : cQ S w f ns as hs) (hf : f ≤ 5) : cC S w (f, ns, as, hs) :=
  ⟨h.1, hf, fun _ => ⟨h.2.1, h.2.2.1, h.2.2.2⟩, ⟨ns.length, h.2.1.2.1, h.2.1.1⟩, ⟨as.length, h.2.2.1.2.1, h.2.2.1.1⟩, ⟨hs.length, h.2.2.2.2.1, h.2.2.2.1⟩⟩
theorem cQ_fr {P : Nat → Prop} {S S' : pm_T} {w f : Nat} {ns : List sp_N} {as : List sp_A} {hs : List (Nat × Nat × Nat)} (h : cQ S w f ns as hs) (hf : sp_fr P S S') (hP : ∀ b, cB w b → ¬ P b) : cQ S' w f ns as hs := by
  have e : ∀ j, j < 15 → (∀ k, pm_gi S' (w + j) k = pm_gi S (w + j) k) ∧ (∀ k, pm_gl S' (w + j) k = pm_gl S (w + j) k) ∧ (∀ k, pm_zi S' (w + j) k = pm_zi S (w + j) k) ∧ ∀ k, pm_zl S' (w + j) k = pm_zl S (w + j) k := fun j hj => hf.2.2.2.2.2 (w + j) (hP (w + j) ⟨by omega, by omega⟩)
  have e0 : ∀ k, pm_gi S' w k = pm_gi S w k := (e 0 (by decide)).1
  unfold cQ cN cA cH
  simp only [e0, (e 1 (by decide)).1, (e 5 (by decide)).1, (e 11 (by decide)).1, (e 2 (by decide)).2.2.2, (e 3 (by decide)).2.2.1, (e 4 (by decide)).2.2.1, (e 6 (by decide)).2.2.2, (e 7 (by decide)).2.2.1, (e 8 (by decide)).2.2.1, (e 9 (by decide)).2.2.1, (e 10 (by decide)).2.2.1, (e 12 (by decide)).2.2.1, (e 13 (by decide)).2.2.1, (e 14 (by decide)).2.2.1]
  exact h
theorem cQ_f {S : pm_T} {w f f' : Nat} {ns : List sp_N} {as : List sp_A} {hs : List (Nat × Nat × Nat)} (h : cQ S w f ns as hs) : cQ (pm_sgi S w 5 (nI f')) w f' ns as hs := by
  refine ⟨ps_gi_self, ?_, ?_, ?_⟩
  · simpa [cN, ps_gi_nx, ps_gi_sz, ps_gi_sh, ps_gi_gi, ps_gi_gl, ps_gi_gr, ps_gi_zi, ps_gi_zl, ps_gi_zr, ps_gi_ar, ps_gi_al, ps_gl_nx, ps_gl_sz, ps_gl_sh, ps_gl_gi, ps_gl_gl, ps_gl_gr, ps_gl_zi, ps_gl_zl, ps_gl_zr, ps_gl_ar, ps_gl_al, ps_gr_nx, ps_gr_sz, ps_gr_sh, ps_gr_gi, ps_gr_gl, ps_gr_gr, ps_gr_zi, ps_gr_zl, ps_gr_zr, ps_gr_ar, ps_gr_al, ps_zi_nx, ps_zi_sz, ps_zi_sh, ps_zi_gi, ps_zi_gl, ps_zi_gr, ps_zi_zi, ps_zi_zl, ps_zi_zr, ps_zi_ar, ps_zi_al, ps_zl_nx, ps_zl_sz, ps_zl_sh, ps_zl_gi, ps_zl_gl, ps_zl_gr, ps_zl_zi, ps_zl_zl, ps_zl_zr, ps_zl_ar, ps_zl_al, ps_zr_nx, ps_zr_sz, ps_zr_sh, ps_zr_gi, ps_zr_gl, ps_zr_gr, ps_zr_zi, ps_zr_zl, ps_zr_zr, ps_zr_ar, ps_zr_al, pm_rf_some, pm_rf_none, pm_tl_some, pm_tl_none] using h.2.1
  · simpa [cA, ps_gi_nx, ps_gi_sz, ps_gi_sh, ps_gi_gi, ps_gi_gl, ps_gi_gr, ps_gi_zi, ps_gi_zl, ps_gi_zr, ps_gi_ar, ps_gi_al, ps_gl_nx, ps_gl_sz, ps_gl_sh, ps_gl_gi, ps_gl_gl, ps_gl_gr, ps_gl_zi, ps_gl_zl, ps_gl_zr, ps_gl_ar, ps_gl_al, ps_gr_nx, ps_gr_sz, ps_gr_sh, ps_gr_gi, ps_gr_gl, ps_gr_gr, ps_gr_zi, ps_gr_zl, ps_gr_zr, ps_gr_ar, ps_gr_al, ps_zi_nx, ps_zi_sz, ps_zi_sh, ps_zi_gi, ps_zi_gl, ps_zi_gr, ps_zi_zi, ps_zi_zl, ps_zi_zr, ps_zi_ar, ps_zi_al, ps_zl_nx, ps_zl_sz, ps_zl_sh, ps_zl_gi, ps_zl_gl, ps_zl_gr, ps_zl_zi, ps_zl_zl, ps_zl_zr, ps_zl_ar, ps_zl_al, ps_zr_nx, ps_zr_sz, ps_zr_sh, ps_zr_gi, ps_zr_gl, ps_zr_gr, ps_zr_zi, ps_zr_zl, ps_zr_zr, ps_zr_ar, ps_zr_al, pm_rf_some, pm_rf_none, pm_tl_some, pm_tl_none] using h.2.2.1
  · simpa [cH, ps_gi_nx, ps_gi_sz, ps_gi_sh, ps_gi_gi, ps_gi_gl, ps_gi_gr, ps_gi_zi, ps_gi_zl, ps_gi_zr, ps_gi_ar, ps_gi_al, ps_gl_nx, ps_gl_sz, ps_gl_sh, ps_gl_gi, ps_gl_gl, ps_gl_gr, ps_gl_zi, ps_gl_zl, ps_gl_zr, ps_gl_ar, ps_gl_al, ps_gr_nx, ps_gr_sz, ps_gr_sh, ps_gr_gi, ps_gr_gl, ps_gr_gr, ps_gr_zi, ps_gr_zl, ps_gr_zr, ps_gr_ar, ps_gr_al, ps_zi_nx, ps_zi_sz, ps_zi_sh, ps_zi_gi, ps_zi_gl, ps_zi_gr, ps_zi_zi, ps_zi_zl, ps_zi_zr, ps_zi_ar, ps_zi_al, ps_zl_nx, ps_zl_sz, ps_zl_sh, ps_zl_gi, ps_zl_gl, ps_zl_gr, ps_zl_zi, ps_zl_zl, ps_zl_zr, ps_zl_ar, ps_zl_al, ps_zr_nx, ps_zr_sz, ps_zr_sh, ps_zr_gi, ps_zr_gl, ps_zr_gr, ps_zr_zi, ps_zr_zl, ps_zr_zr, ps_zr_ar, ps_zr_al, pm_rf_some, pm_rf_none, pm_tl_some, pm_tl_none] using h.2.2.2
/-- its cells but the first -/
def cB1 (w : Nat) : Nat → Prop := fun b => w < b ∧ b < w + 15
section
variable {d r w a b g n k : Nat} {S : pm_T} {Q : Option Value → pm_T → Prop} {Ca : sp_C} {f : Nat} {ns : List sp_N} {as : List sp_A} {hs : List (Nat × Nat × Nat)}
theorem fG_node_q {v : Int64} {x y : Option Nat} (hG : sG S w) (h : cQ S w f ns as hs) (hlt : ns.length < 40) : cQ (fG_node S w ns.length v (sp_eC x) (sp_eC y)) w f (ns ++ [(v, x, y)]) as hs ∧ sp_fr (cB1 w) S (fG_node S w ns.length v (sp_eC x) (sp_eC y)) := by
  obtain ⟨h1, ⟨n1, n2, n3⟩, a0, h0⟩ := h
  unfold fG_node
  rw [if_pos hlt]
  refine ⟨⟨by simpa [ps_gi_nx, ps_gi_sz, ps_gi_sh, ps_gi_gi, ps_gi_gl, ps_gi_gr, ps_gi_zi, ps_gi_zl, ps_gi_zr, ps_gi_ar, ps_gi_al, ps_gl_nx, ps_gl_sz, ps_gl_sh, ps_gl_gi, ps_gl_gl, ps_gl_gr, ps_gl_zi, ps_gl_zl, ps_gl_zr, ps_gl_ar, ps_gl_al, ps_gr_nx, ps_gr_sz, ps_gr_sh, ps_gr_gi, ps_gr_gl, ps_gr_gr, ps_gr_zi, ps_gr_zl, ps_gr_zr, ps_gr_ar, ps_gr_al, ps_zi_nx, ps_zi_sz, ps_zi_sh, ps_zi_gi, ps_zi_gl, ps_zi_gr, ps_zi_zi, ps_zi_zl, ps_zi_zr, ps_zi_ar, ps_zi_al, ps_zl_nx, ps_zl_sz, ps_zl_sh, ps_zl_gi, ps_zl_gl, ps_zl_gr, ps_zl_zi, ps_zl_zl, ps_zl_zr, ps_zl_ar, ps_zl_al, ps_zr_nx, ps_zr_sz, ps_zr_sh, ps_zr_gi, ps_zr_gl, ps_zr_gr, ps_zr_zi, ps_zr_zl, ps_zr_zr, ps_zr_ar, ps_zr_al, pm_rf_some, pm_rf_none, pm_tl_some, pm_tl_none] using h1, ⟨?_, ?_, fun i q hq => ?_⟩, by simpa [cA, ps_gi_nx, ps_gi_sz, ps_gi_sh, ps_gi_gi, ps_gi_gl, ps_gi_gr, ps_gi_zi, ps_gi_zl, ps_gi_zr, ps_gi_ar, ps_gi_al, ps_gl_nx, ps_gl_sz, ps_gl_sh, ps_gl_gi, ps_gl_gl, ps_gl_gr, ps_gl_zi, ps_gl_zl, ps_gl_zr, ps_gl_ar, ps_gl_al, ps_gr_nx, ps_gr_sz, ps_gr_sh, ps_gr_gi, ps_gr_gl, ps_gr_gr, ps_gr_zi, ps_gr_zl, ps_gr_zr, ps_gr_ar, ps_gr_al, ps_zi_nx, ps_zi_sz, ps_zi_sh, ps_zi_gi, ps_zi_gl, ps_zi_gr, ps_zi_zi, ps_zi_zl, ps_zi_zr, ps_zi_ar, ps_zi_al, ps_zl_nx, ps_zl_sz, ps_zl_sh, ps_zl_gi, ps_zl_gl, ps_zl_gr, ps_zl_zi, ps_zl_zl, ps_zl_zr, ps_zl_ar, ps_zl_al, ps_zr_nx, ps_zr_sz, ps_zr_sh, ps_zr_gi, ps_zr_gl, ps_zr_gr, ps_zr_zi, ps_zr_zl, ps_zr_zr, ps_zr_ar, ps_zr_al, pm_rf_some, pm_rf_none, pm_tl_some, pm_tl_none] using a0, by simpa [cH, ps_gi_nx, ps_gi_sz, ps_gi_sh, ps_gi_gi, ps_gi_gl, ps_gi_gr, ps_gi_zi, ps_gi_zl, ps_gi_zr, ps_gi_ar, ps_gi_al, ps_gl_nx, ps_gl_sz, ps_gl_sh, ps_gl_gi, ps_gl_gl, ps_gl_gr, ps_gl_zi, ps_gl_zl, ps_gl_zr, ps_gl_ar, ps_gl_al, ps_gr_nx, ps_gr_sz, ps_gr_sh, ps_gr_gi, ps_gr_gl, ps_gr_gr, ps_gr_zi, ps_gr_zl, ps_gr_zr, ps_gr_ar, ps_gr_al, ps_zi_nx, ps_zi_sz, ps_zi_sh, ps_zi_gi, ps_zi_gl, ps_zi_gr, ps_zi_zi, ps_zi_zl, ps_zi_zr, ps_zi_ar, ps_zi_al, ps_zl_nx, ps_zl_sz, ps_zl_sh, ps_zl_gi, ps_zl_gl, ps_zl_gr, ps_zl_zi, ps_zl_zl, ps_zl_zr, ps_zl_ar, ps_zl_al, ps_zr_nx, ps_zr_sz, ps_zr_sh, ps_zr_gi, ps_zr_gl, ps_zr_gr, ps_zr_zi, ps_zr_zl, ps_zr_zr, ps_zr_ar, ps_zr_al, pm_rf_some, pm_rf_none, pm_tl_some, pm_tl_none] using h0⟩, (((sp_fr.zl ⟨by omega, by omega⟩).tr (sp_fr.zi ⟨by omega, by omega⟩)).tr (sp_fr.zi ⟨by omega, by omega⟩)).tr (sp_fr.gi ⟨by omega, by omega⟩ (sh_ne hG.2.2.2.2.2.2.2.2.1.1 (by decide)))⟩
  · simp [ps_gi_gi]
  · simp; omega
  · have w1 : pm_zl (pm_sgi (pm_szi (pm_szi (pm_szl S (w + 2) ns.length v) (w + 3) ns.length (sp_eC x)) (w + 4) ns.length (sp_eC y)) (w + 1) 3 (nI (ns.length + 1))) (w + 2) i = if i = ns.length then v else pm_zl S (w + 2) i := by simp [ps_gi_nx, ps_gi_sz, ps_gi_sh, ps_gi_gi, ps_gi_gl, ps_gi_gr, ps_gi_zi, ps_gi_zl, ps_gi_zr, ps_gi_ar, ps_gi_al, ps_gl_nx, ps_gl_sz, ps_gl_sh, ps_gl_gi, ps_gl_gl, ps_gl_gr, ps_gl_zi, ps_gl_zl, ps_gl_zr, ps_gl_ar, ps_gl_al, ps_gr_nx, ps_gr_sz, ps_gr_sh, ps_gr_gi, ps_gr_gl, ps_gr_gr, ps_gr_zi, ps_gr_zl, ps_gr_zr, ps_gr_ar, ps_gr_al, ps_zi_nx, ps_zi_sz, ps_zi_sh, ps_zi_gi, ps_zi_gl, ps_zi_gr, ps_zi_zi, ps_zi_zl, ps_zi_zr, ps_zi_ar, ps_zi_al, ps_zl_nx, ps_zl_sz, ps_zl_sh, ps_zl_gi, ps_zl_gl, ps_zl_gr, ps_zl_zi, ps_zl_zl, ps_zl_zr, ps_zl_ar, ps_zl_al, ps_zr_nx, ps_zr_sz, ps_zr_sh, ps_zr_gi, ps_zr_gl, ps_zr_gr, ps_zr_zi, ps_zr_zl, ps_zr_zr, ps_zr_ar, ps_zr_al, pm_rf_some, pm_rf_none, pm_tl_some, pm_tl_none]
    have w2 : pm_zi (pm_sgi (pm_szi (pm_szi (pm_szl S (w + 2) ns.length v) (w + 3) ns.length (sp_eC x)) (w + 4) ns.length (sp_eC y)) (w + 1) 3 (nI (ns.length + 1))) (w + 3) i = if i = ns.length then sp_eC x else pm_zi S (w + 3) i := by simp [ps_gi_nx, ps_gi_sz, ps_gi_sh, ps_gi_gi, ps_gi_gl, ps_gi_gr, ps_gi_zi, ps_gi_zl, ps_gi_zr, ps_gi_ar, ps_gi_al, ps_gl_nx, ps_gl_sz, ps_gl_sh, ps_gl_gi, ps_gl_gl, ps_gl_gr, ps_gl_zi, ps_gl_zl, ps_gl_zr, ps_gl_ar, ps_gl_al, ps_gr_nx, ps_gr_sz, ps_gr_sh, ps_gr_gi, ps_gr_gl, ps_gr_gr, ps_gr_zi, ps_gr_zl, ps_gr_zr, ps_gr_ar, ps_gr_al, ps_zi_nx, ps_zi_sz, ps_zi_sh, ps_zi_gi, ps_zi_gl, ps_zi_gr, ps_zi_zi, ps_zi_zl, ps_zi_zr, ps_zi_ar, ps_zi_al, ps_zl_nx, ps_zl_sz, ps_zl_sh, ps_zl_gi, ps_zl_gl, ps_zl_gr, ps_zl_zi, ps_zl_zl, ps_zl_zr, ps_zl_ar, ps_zl_al, ps_zr_nx, ps_zr_sz, ps_zr_sh, ps_zr_gi, ps_zr_gl, ps_zr_gr, ps_zr_zi, ps_zr_zl, ps_zr_zr, ps_zr_ar, ps_zr_al, pm_rf_some, pm_rf_none, pm_tl_some, pm_tl_none]
    have w3 : pm_zi (pm_sgi (pm_szi (pm_szi (pm_szl S (w + 2) ns.length v) (w + 3) ns.length (sp_eC x)) (w + 4) ns.length (sp_eC y)) (w + 1) 3 (nI (ns.length + 1))) (w + 4) i = if i = ns.length then sp_eC y else pm_zi S (w + 4) i := by simp [ps_gi_nx, ps_gi_sz, ps_gi_sh, ps_gi_gi, ps_gi_gl, ps_gi_gr, ps_gi_zi, ps_gi_zl, ps_gi_zr, ps_gi_ar, ps_gi_al, ps_gl_nx, ps_gl_sz, ps_gl_sh, ps_gl_gi, ps_gl_gl, ps_gl_gr, ps_gl_zi, ps_gl_zl, ps_gl_zr, ps_gl_ar, ps_gl_al, ps_gr_nx, ps_gr_sz, ps_gr_sh, ps_gr_gi, ps_gr_gl, ps_gr_gr, ps_gr_zi, ps_gr_zl, ps_gr_zr, ps_gr_ar, ps_gr_al, ps_zi_nx, ps_zi_sz, ps_zi_sh, ps_zi_gi, ps_zi_gl, ps_zi_gr, ps_zi_zi, ps_zi_zl, ps_zi_zr, ps_zi_ar, ps_zi_al, ps_zl_nx, ps_zl_sz, ps_zl_sh, ps_zl_gi, ps_zl_gl, ps_zl_gr, ps_zl_zi, ps_zl_zl, ps_zl_zr, ps_zl_ar, ps_zl_al, ps_zr_nx, ps_zr_sz, ps_zr_sh, ps_zr_gi, ps_zr_gl, ps_zr_gr, ps_zr_zi, ps_zr_zl, ps_zr_zr, ps_zr_ar, ps_zr_al, pm_rf_some, pm_rf_none, pm_tl_some, pm_tl_none]
    rw [w1, w2, w3]
    rcases sp_snoc hq with ⟨q1, q2⟩ | ⟨rfl, rfl⟩
    · rw [if_neg (by omega), if_neg (by omega), if_neg (by omega)]
      exact n3 i q q1
    · rw [if_pos rfl, if_pos rfl, if_pos rfl]
      exact ⟨rfl, rfl, rfl⟩
theorem fG_arc_q {t h : Nat} {v : Int64} {x y : Option Nat} (hG : sG S w) (hc : cQ S w f ns as hs) (hlt : as.length < 120) : cQ (fG_arc S w as.length (nI t) (nI h) v (sp_eC x) (sp_eC y)) w f ns (as ++ [(t, h, v, x, y)]) hs ∧ sp_fr (cB1 w) S (fG_arc S w as.length (nI t) (nI h) v (sp_eC x) (sp_eC y)) := by
  obtain ⟨h1, n0, ⟨n1, n2, n3⟩, h0⟩ := hc
  generalize hk : as.length = k at *
  unfold fG_arc
  rw [if_pos hlt]
  refine ⟨⟨by simpa [ps_gi_nx, ps_gi_sz, ps_gi_sh, ps_gi_gi, ps_gi_gl, ps_gi_gr, ps_gi_zi, ps_gi_zl, ps_gi_zr, ps_gi_ar, ps_gi_al, ps_gl_nx, ps_gl_sz, ps_gl_sh, ps_gl_gi, ps_gl_gl, ps_gl_gr, ps_gl_zi, ps_gl_zl, ps_gl_zr, ps_gl_ar, ps_gl_al, ps_gr_nx, ps_gr_sz, ps_gr_sh, ps_gr_gi, ps_gr_gl, ps_gr_gr, ps_gr_zi, ps_gr_zl, ps_gr_zr, ps_gr_ar, ps_gr_al, ps_zi_nx, ps_zi_sz, ps_zi_sh, ps_zi_gi, ps_zi_gl, ps_zi_gr, ps_zi_zi, ps_zi_zl, ps_zi_zr, ps_zi_ar, ps_zi_al, ps_zl_nx, ps_zl_sz, ps_zl_sh, ps_zl_gi, ps_zl_gl, ps_zl_gr, ps_zl_zi, ps_zl_zl, ps_zl_zr, ps_zl_ar, ps_zl_al, ps_zr_nx, ps_zr_sz, ps_zr_sh, ps_zr_gi, ps_zr_gl, ps_zr_gr, ps_zr_zi, ps_zr_zl, ps_zr_zr, ps_zr_ar, ps_zr_al, pm_rf_some, pm_rf_none, pm_tl_some, pm_tl_none] using h1, by simpa [cN, ps_gi_nx, ps_gi_sz, ps_gi_sh, ps_gi_gi, ps_gi_gl, ps_gi_gr, ps_gi_zi, ps_gi_zl, ps_gi_zr, ps_gi_ar, ps_gi_al, ps_gl_nx, ps_gl_sz, ps_gl_sh, ps_gl_gi, ps_gl_gl, ps_gl_gr, ps_gl_zi, ps_gl_zl, ps_gl_zr, ps_gl_ar, ps_gl_al, ps_gr_nx, ps_gr_sz, ps_gr_sh, ps_gr_gi, ps_gr_gl, ps_gr_gr, ps_gr_zi, ps_gr_zl, ps_gr_zr, ps_gr_ar, ps_gr_al, ps_zi_nx, ps_zi_sz, ps_zi_sh, ps_zi_gi, ps_zi_gl, ps_zi_gr, ps_zi_zi, ps_zi_zl, ps_zi_zr, ps_zi_ar, ps_zi_al, ps_zl_nx, ps_zl_sz, ps_zl_sh, ps_zl_gi, ps_zl_gl, ps_zl_gr, ps_zl_zi, ps_zl_zl, ps_zl_zr, ps_zl_ar, ps_zl_al, ps_zr_nx, ps_zr_sz, ps_zr_sh, ps_zr_gi, ps_zr_gl, ps_zr_gr, ps_zr_zi, ps_zr_zl, ps_zr_zr, ps_zr_ar, ps_zr_al, pm_rf_some, pm_rf_none, pm_tl_some, pm_tl_none] using n0, ⟨?_, ?_, fun i q hq => ?_⟩, by simpa [cH, ps_gi_nx, ps_gi_sz, ps_gi_sh, ps_gi_gi, ps_gi_gl, ps_gi_gr, ps_gi_zi, ps_gi_zl, ps_gi_zr, ps_gi_ar, ps_gi_al, ps_gl_nx, ps_gl_sz, ps_gl_sh, ps_gl_gi, ps_gl_gl, ps_gl_gr, ps_gl_zi, ps_gl_zl, ps_gl_zr, ps_gl_ar, ps_gl_al, ps_gr_nx, ps_gr_sz, ps_gr_sh, ps_gr_gi, ps_gr_gl, ps_gr_gr, ps_gr_zi, ps_gr_zl, ps_gr_zr, ps_gr_ar, ps_gr_al, ps_zi_nx, ps_zi_sz, ps_zi_sh, ps_zi_gi, ps_zi_gl, ps_zi_gr, ps_zi_zi, ps_zi_zl, ps_zi_zr, ps_zi_ar, ps_zi_al, ps_zl_nx, ps_zl_sz, ps_zl_sh, ps_zl_gi, ps_zl_gl, ps_zl_gr, ps_zl_zi, ps_zl_zl, ps_zl_zr, ps_zl_ar, ps_zl_al, ps_zr_nx, ps_zr_sz, ps_zr_sh, ps_zr_gi, ps_zr_gl, ps_zr_gr, ps_zr_zi, ps_zr_zl, ps_zr_zr, ps_zr_ar, ps_zr_al, pm_rf_some, pm_rf_none, pm_tl_some, pm_tl_none] using h0⟩, (((((sp_fr.zi ⟨by omega, by omega⟩).tr (sp_fr.zi ⟨by omega, by omega⟩)).tr (sp_fr.zl ⟨by omega, by omega⟩)).tr (sp_fr.zi ⟨by omega, by omega⟩)).tr (sp_fr.zi ⟨by omega, by omega⟩)).tr (sp_fr.gi ⟨by omega, by omega⟩ (sh_ne hG.2.2.2.2.2.2.2.2.2.1.1 (by decide)))⟩
  · simp [ps_gi_gi, hk]
  · simp; omega
  · have w1 : pm_zi (pm_sgi (pm_szi (pm_szi (pm_szl (pm_szi (pm_szi S (w + 9) k (nI t)) (w + 10) k (nI h)) (w + 6) k v) (w + 7) k (sp_eC x)) (w + 8) k (sp_eC y)) (w + 5) 3 (nI (k + 1))) (w + 9) i = if i = k then nI t else pm_zi S (w + 9) i := by simp [ps_gi_nx, ps_gi_sz, ps_gi_sh, ps_gi_gi, ps_gi_gl, ps_gi_gr, ps_gi_zi, ps_gi_zl, ps_gi_zr, ps_gi_ar, ps_gi_al, ps_gl_nx, ps_gl_sz, ps_gl_sh, ps_gl_gi, ps_gl_gl, ps_gl_gr, ps_gl_zi, ps_gl_zl, ps_gl_zr, ps_gl_ar, ps_gl_al, ps_gr_nx, ps_gr_sz, ps_gr_sh, ps_gr_gi, ps_gr_gl, ps_gr_gr, ps_gr_zi, ps_gr_zl, ps_gr_zr, ps_gr_ar, ps_gr_al, ps_zi_nx, ps_zi_sz, ps_zi_sh, ps_zi_gi, ps_zi_gl, ps_zi_gr, ps_zi_zi, ps_zi_zl, ps_zi_zr, ps_zi_ar, ps_zi_al, ps_zl_nx, ps_zl_sz, ps_zl_sh, ps_zl_gi, ps_zl_gl, ps_zl_gr, ps_zl_zi, ps_zl_zl, ps_zl_zr, ps_zl_ar, ps_zl_al, ps_zr_nx, ps_zr_sz, ps_zr_sh, ps_zr_gi, ps_zr_gl, ps_zr_gr, ps_zr_zi, ps_zr_zl, ps_zr_zr, ps_zr_ar, ps_zr_al, pm_rf_some, pm_rf_none, pm_tl_some, pm_tl_none]
    have w2 : pm_zi (pm_sgi (pm_szi (pm_szi (pm_szl (pm_szi (pm_szi S (w + 9) k (nI t)) (w + 10) k (nI h)) (w + 6) k v) (w + 7) k (sp_eC x)) (w + 8) k (sp_eC y)) (w + 5) 3 (nI (k + 1))) (w + 10) i = if i = k then nI h else pm_zi S (w + 10) i := by simp [ps_gi_nx, ps_gi_sz, ps_gi_sh, ps_gi_gi, ps_gi_gl, ps_gi_gr, ps_gi_zi, ps_gi_zl, ps_gi_zr, ps_gi_ar, ps_gi_al, ps_gl_nx, ps_gl_sz, ps_gl_sh, ps_gl_gi, ps_gl_gl, ps_gl_gr, ps_gl_zi, ps_gl_zl, ps_gl_zr, ps_gl_ar, ps_gl_al, ps_gr_nx, ps_gr_sz, ps_gr_sh, ps_gr_gi, ps_gr_gl, ps_gr_gr, ps_gr_zi, ps_gr_zl, ps_gr_zr, ps_gr_ar, ps_gr_al, ps_zi_nx, ps_zi_sz, ps_zi_sh, ps_zi_gi, ps_zi_gl, ps_zi_gr, ps_zi_zi, ps_zi_zl, ps_zi_zr, ps_zi_ar, ps_zi_al, ps_zl_nx, ps_zl_sz, ps_zl_sh, ps_zl_gi, ps_zl_gl, ps_zl_gr, ps_zl_zi, ps_zl_zl, ps_zl_zr, ps_zl_ar, ps_zl_al, ps_zr_nx, ps_zr_sz, ps_zr_sh, ps_zr_gi, ps_zr_gl, ps_zr_gr, ps_zr_zi, ps_zr_zl, ps_zr_zr, ps_zr_ar, ps_zr_al, pm_rf_some, pm_rf_none, pm_tl_some, pm_tl_none]
    have w3 : pm_zl (pm_sgi (pm_szi (pm_szi (pm_szl (pm_szi (pm_szi S (w + 9) k (nI t)) (w + 10) k (nI h)) (w + 6) k v) (w + 7) k (sp_eC x)) (w + 8) k (sp_eC y)) (w + 5) 3 (nI (k + 1))) (w + 6) i = if i = k then v else pm_zl S (w + 6) i := by simp [ps_gi_nx, ps_gi_sz, ps_gi_sh, ps_gi_gi, ps_gi_gl, ps_gi_gr, ps_gi_zi, ps_gi_zl, ps_gi_zr, ps_gi_ar, ps_gi_al, ps_gl_nx, ps_gl_sz, ps_gl_sh, ps_gl_gi, ps_gl_gl, ps_gl_gr, ps_gl_zi, ps_gl_zl, ps_gl_zr, ps_gl_ar, ps_gl_al, ps_gr_nx, ps_gr_sz, ps_gr_sh, ps_gr_gi, ps_gr_gl, ps_gr_gr, ps_gr_zi, ps_gr_zl, ps_gr_zr, ps_gr_ar, ps_gr_al, ps_zi_nx, ps_zi_sz, ps_zi_sh, ps_zi_gi, ps_zi_gl, ps_zi_gr, ps_zi_zi, ps_zi_zl, ps_zi_zr, ps_zi_ar, ps_zi_al, ps_zl_nx, ps_zl_sz, ps_zl_sh, ps_zl_gi, ps_zl_gl, ps_zl_gr, ps_zl_zi, ps_zl_zl, ps_zl_zr, ps_zl_ar, ps_zl_al, ps_zr_nx, ps_zr_sz, ps_zr_sh, ps_zr_gi, ps_zr_gl, ps_zr_gr, ps_zr_zi, ps_zr_zl, ps_zr_zr, ps_zr_ar, ps_zr_al, pm_rf_some, pm_rf_none, pm_tl_some, pm_tl_none]
    have w4 : pm_zi (pm_sgi (pm_szi (pm_szi (pm_szl (pm_szi (pm_szi S (w + 9) k (nI t)) (w + 10) k (nI h)) (w + 6) k v) (w + 7) k (sp_eC x)) (w + 8) k (sp_eC y)) (w + 5) 3 (nI (k + 1))) (w + 7) i = if i = k then sp_eC x else pm_zi S (w + 7) i := by simp [ps_gi_nx, ps_gi_sz, ps_gi_sh, ps_gi_gi, ps_gi_gl, ps_gi_gr, ps_gi_zi, ps_gi_zl, ps_gi_zr, ps_gi_ar, ps_gi_al, ps_gl_nx, ps_gl_sz, ps_gl_sh, ps_gl_gi, ps_gl_gl, ps_gl_gr, ps_gl_zi, ps_gl_zl, ps_gl_zr, ps_gl_ar, ps_gl_al, ps_gr_nx, ps_gr_sz, ps_gr_sh, ps_gr_gi, ps_gr_gl, ps_gr_gr, ps_gr_zi, ps_gr_zl, ps_gr_zr, ps_gr_ar, ps_gr_al, ps_zi_nx, ps_zi_sz, ps_zi_sh, ps_zi_gi, ps_zi_gl, ps_zi_gr, ps_zi_zi, ps_zi_zl, ps_zi_zr, ps_zi_ar, ps_zi_al, ps_zl_nx, ps_zl_sz, ps_zl_sh, ps_zl_gi, ps_zl_gl, ps_zl_gr, ps_zl_zi, ps_zl_zl, ps_zl_zr, ps_zl_ar, ps_zl_al, ps_zr_nx, ps_zr_sz, ps_zr_sh, ps_zr_gi, ps_zr_gl, ps_zr_gr, ps_zr_zi, ps_zr_zl, ps_zr_zr, ps_zr_ar, ps_zr_al, pm_rf_some, pm_rf_none, pm_tl_some, pm_tl_none]
    have w5 : pm_zi (pm_sgi (pm_szi (pm_szi (pm_szl (pm_szi (pm_szi S (w + 9) k (nI t)) (w + 10) k (nI h)) (w + 6) k v) (w + 7) k (sp_eC x)) (w + 8) k (sp_eC y)) (w + 5) 3 (nI (k + 1))) (w + 8) i = if i = k then sp_eC y else pm_zi S (w + 8) i := by simp [ps_gi_nx, ps_gi_sz, ps_gi_sh, ps_gi_gi, ps_gi_gl, ps_gi_gr, ps_gi_zi, ps_gi_zl, ps_gi_zr, ps_gi_ar, ps_gi_al, ps_gl_nx, ps_gl_sz, ps_gl_sh, ps_gl_gi, ps_gl_gl, ps_gl_gr, ps_gl_zi, ps_gl_zl, ps_gl_zr, ps_gl_ar, ps_gl_al, ps_gr_nx, ps_gr_sz, ps_gr_sh, ps_gr_gi, ps_gr_gl, ps_gr_gr, ps_gr_zi, ps_gr_zl, ps_gr_zr, ps_gr_ar, ps_gr_al, ps_zi_nx, ps_zi_sz, ps_zi_sh, ps_zi_gi, ps_zi_gl, ps_zi_gr, ps_zi_zi, ps_zi_zl, ps_zi_zr, ps_zi_ar, ps_zi_al, ps_zl_nx, ps_zl_sz, ps_zl_sh, ps_zl_gi, ps_zl_gl, ps_zl_gr, ps_zl_zi, ps_zl_zl, ps_zl_zr, ps_zl_ar, ps_zl_al, ps_zr_nx, ps_zr_sz, ps_zr_sh, ps_zr_gi, ps_zr_gl, ps_zr_gr, ps_zr_zi, ps_zr_zl, ps_zr_zr, ps_zr_ar, ps_zr_al, pm_rf_some, pm_rf_none, pm_tl_some, pm_tl_none]
    rw [w1, w2, w3, w4, w5]
    rcases sp_snoc hq with ⟨q1, q2⟩ | ⟨q1, q2⟩
    · have : ¬ i = k := by omega
      simp only [if_neg this]
      exact n3 i q q1
    · have : i = k := by omega
      subst q2
      simp only [if_pos this]
      exact ⟨trivial, trivial, trivial, trivial, trivial⟩
theorem c_tooLong (hR : sR S r) (hG : sG S w) : pm_N d 43 [.ref r, .ref w] S Q = Q none (if pm_gi S (r + 11) 2 = 0 then S else pm_sgi S w 5 3) := by
  simp only [q43_0, q43_1, q43_4, q43_7, q43_10, q43_10N, q43_11, q43_12, q43_15, q43_e, hR.1, hR.2.2.2.1, pm_rf_some, hR.2.2.2.2.2.2.2.1.1, hG.1]
  split <;> rfl
end
/-! what is gathered -/
def ga_kn (LB : Nat → Nat → Option Nat) (t : Nat) : Nat → Option Nat := LB t
def ga_vn (Ca : sp_C) : Nat → Int64 := fun i => (sp_nd Ca i).1
def ga_ka (LB : Nat → Nat → Option Nat) (t : Nat) (Ca : sp_C) : Nat → Option Nat := fun e => match LB t (sp_ar Ca e).1, LB t (sp_ar Ca e).2.1 with
  | some x, some y => some (10 * x + y)
  | _, _ => none
def ga_va (Ca : sp_C) : Nat → Int64 := fun e => (sp_ar Ca e).2.2.1
def ga_hN (LB : Nat → Nat → Option Nat) (t c : Nat) (Ca : sp_C) (l : Nat) : hp_T := hp_h c (ga_kn LB t) (ga_vn Ca) l Ca.2.1.length
def ga_hA (LB : Nat → Nat → Option Nat) (t c : Nat) (Ca : sp_C) (l : Nat) : hp_T := hp_h c (ga_ka LB t Ca) (ga_va Ca) l Ca.2.2.1.length
def ga_N (LB : Nat → Nat → Option Nat) (t c : Nat) (Ca : sp_C) : Nat → List sp_N
  | 0 => []
  | k + 1 => ga_N LB t c Ca k ++ (match ga_hN LB t c Ca k with
    | none => []
    | some (f, v) => [(v, some f, none)])
def ga_A (LB : Nat → Nat → Option Nat) (t c : Nat) (Ca : sp_C) : Nat → List sp_A
  | 0 => []
  | k + 1 => ga_A LB t c Ca k ++ (match ga_hA LB t c Ca k with
    | none => []
    | some (f, v) => [((ga_N LB t c Ca (k / 10)).length, (ga_N LB t c Ca (k % 10)).length, v, some f, none)])
def ga_tN (LB : Nat → Nat → Option Nat) (t c : Nat) (Ca : sp_C) : Bool := hp_t c (ga_kn LB t) (ga_vn Ca) Ca.2.1.length
def ga_tA (LB : Nat → Nat → Option Nat) (t c : Nat) (Ca : sp_C) : Bool := hp_t c (ga_ka LB t Ca) (ga_va Ca) Ca.2.2.1.length
def sp_gat (LB : Nat → Nat → Option Nat) (t c : Nat) (Ca : sp_C) : sp_C := (if (ga_tN LB t c Ca || ga_tA LB t c Ca) = true then 3 else 0, ga_N LB t c Ca 10, ga_A LB t c Ca 100, [])
section
variable {LB : Nat → Nat → Option Nat} {t c : Nat} {Ca : sp_C}
theorem ga_N_le : ∀ k, (ga_N LB t c Ca k).length ≤ k
  | 0 => Nat.le_refl _
  | k + 1 => by
    have := ga_N_le k
    unfold ga_N
    rw [List.length_append]
    split <;> simp <;> omega
theorem ga_A_le : ∀ k, (ga_A LB t c Ca k).length ≤ k
  | 0 => Nat.le_refl _
  | k + 1 => by
    have := ga_A_le k
    unfold ga_A
    rw [List.length_append]
    split <;> simp <;> omega
theorem hp_in_s {c : Nat} {h : hp_T} {i : Nat} {v : Int64} : (hp_in c h i v).isSome = true := by unfold hp_in; split <;> rfl
theorem hp_some {c : Nat} {key : Nat → Option Nat} {val : Nat → Int64} {l : Nat} : ∀ n, ((hp_h c key val l n).isSome = true ↔ ∃ i, i < n ∧ key i = some l)
  | 0 => by simp [hp_h]
  | n + 1 => by
    unfold hp_h
    by_cases e : key n = some l
    · rw [if_pos e]
      exact ⟨fun _ => ⟨n, by omega, e⟩, fun _ => hp_in_s⟩
    · rw [if_neg e, hp_some n]
      constructor
      · rintro ⟨i, h1, h2⟩; exact ⟨i, by omega, h2⟩
      · rintro ⟨i, h1, h2⟩
        have : i ≠ n := fun q => e (q ▸ h2)
        exact ⟨i, by omega, h2⟩
theorem ga_some (ho : sp_ok Ca) (hl : sp_lb LB) {h : Nat} (hs : (ga_hA LB t c Ca h).isSome = true) : (ga_hN LB t c Ca (h / 10)).isSome = true ∧ (ga_hN LB t c Ca (h % 10)).isSome = true := by
  unfold ga_hA at hs
  rw [hp_some] at hs
  obtain ⟨e, he, hk⟩ := hs
  unfold ga_ka at hk
  split at hk
  next x y hx hy =>
    have := hl _ _ _ hx
    have := hl _ _ _ hy
    have hh : 10 * x + y = h := Option.some.inj hk
    have o := ho e he
    unfold ga_hN
    rw [hp_some, hp_some]
    refine ⟨⟨_, o.1, ?_⟩, ⟨_, o.2, ?_⟩⟩
    · show LB t _ = _; rw [hx]; congr 1; omega
    · show LB t _ = _; rw [hy]; congr 1; omega
  next => cases hk
end
