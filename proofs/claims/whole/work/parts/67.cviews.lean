/-! ===== the class: views ===== -/
/-- a view is being made of a -/
def cW (S : pm_T) (w a : Nat) (Ca C : sp_C) : Prop := sG S w ∧ sG S a ∧ cC S a Ca ∧ Ca.1 = 0 ∧ cC S w C ∧ (C.1 = 0 ∨ C.1 = 4) ∧ (w + 15 ≤ a ∨ a + 15 ≤ w)
section
variable {d w a n k : Nat} {S : pm_T} {Q : Option Value → pm_T → Prop} {C Ca : sp_C}
theorem cW_node {v : Int64} {x y : Option Nat} (h : cW S w a Ca C) (hk : pm_gi S (w + 1) 3 = nI k) (hk4 : k ≤ 40) : cW (fG_node S w k v (sp_eC x) (sp_eC y)) w a Ca (sp_addN C (v, x, y)) ∧ sp_fr (cB w) S (fG_node S w k v (sp_eC x) (sp_eC y)) := by
  obtain ⟨h1, h2, h3, h4, h5, h6, h7⟩ := h
  obtain ⟨g1, g2⟩ := fG_node_ok (v := v) (x := x) (y := y) h1 h5 hk hk4 h6
  exact ⟨⟨sG_fr h1 g2, sG_fr h2 g2, cC_fr h3 g2 (fun b hb hw => by unfold cB at hb hw; omega), h4, g1, sp_addN_f h6, h7⟩, g2⟩
theorem cW_arc {t h : Nat} {v : Int64} {x y : Option Nat} (hc : cW S w a Ca C) (hk : pm_gi S (w + 5) 3 = nI k) (hk4 : k ≤ 120) : cW (fG_arc S w k (nI t) (nI h) v (sp_eC x) (sp_eC y)) w a Ca (sp_addA C (t, h, v, x, y)) ∧ sp_fr (cB w) S (fG_arc S w k (nI t) (nI h) v (sp_eC x) (sp_eC y)) := by
  obtain ⟨h1, h2, h3, h4, h5, h6, h7⟩ := hc
  obtain ⟨g1, g2⟩ := fG_arc_ok (t := t) (h := h) (v := v) (x := x) (y := y) h1 h5 hk hk4 h6
  exact ⟨⟨sG_fr h1 g2, sG_fr h2 g2, cC_fr h3 g2 (fun b hb hw => by unfold cB at hb hw; omega), h4, g1, sp_addA_f h6, h7⟩, g2⟩
/-- what is read of a -/
theorem cC_n (h : cC S a Ca) (h0 : Ca.1 = 0) : pm_gi S (a + 1) 3 = nI Ca.2.1.length ∧ Ca.2.1.length ≤ 40 := ⟨(h.2.2.1 h0).1.1, (h.2.2.1 h0).1.2.1⟩
theorem cC_m (h : cC S a Ca) (h0 : Ca.1 = 0) : pm_gi S (a + 5) 3 = nI Ca.2.2.1.length ∧ Ca.2.2.1.length ≤ 120 := ⟨(h.2.2.1 h0).2.1.1, (h.2.2.1 h0).2.1.2.1⟩
theorem cC_nv (h : cC S a Ca) (h0 : Ca.1 = 0) (hk : k < Ca.2.1.length) : pm_zl S (a + 2) k = (sp_nd Ca k).1 := by
  have e : Ca.2.1[k]? = some (sp_nd Ca k) := by unfold sp_nd; rw [List.getD_eq_getElem?_getD, List.getElem?_eq_getElem hk]; rfl
  exact ((h.2.2.1 h0).1.2.2 k _ e).1
theorem cC_ae (h : cC S a Ca) (h0 : Ca.1 = 0) (hk : k < Ca.2.2.1.length) : pm_zi S (a + 9) k = nI (sp_ar Ca k).1 ∧ pm_zi S (a + 10) k = nI (sp_ar Ca k).2.1 ∧ pm_zl S (a + 6) k = (sp_ar Ca k).2.2.1 := by
  have e : Ca.2.2.1[k]? = some (sp_ar Ca k) := by unfold sp_ar; rw [List.getD_eq_getElem?_getD, List.getElem?_eq_getElem hk]; rfl
  have := (h.2.2.1 h0).2.1.2.2 k _ e
  exact ⟨this.1, this.2.1, this.2.2.1⟩
set_option maxHeartbeats 1000000 in
theorem c_copyNodes_l : ∀ (m k : Nat) (S : pm_T) (C : sp_C), k + m = Ca.2.1.length → cW S w a Ca C →
    (∀ S', cW S' w a Ca (sp_for (fun C i => sp_addN C ((sp_nd Ca i).1, some i, none)) m k C) → sp_fr (cB w) S S' → Q none S') →
    pm_V (d + 3) 29 2 [.ref w, .ref a, .int (nI k)] [] S Q := by
  intro m
  induction m with
  | zero =>
    intro k S C hk hW hQ
    obtain ⟨h1, h2, h3, h4, h5, h6, h7⟩ := id hW
    obtain ⟨a1, a2, a3, a4, a5, a6, a7, a8, a9, a10, a11⟩ := id h2
    have e1 : ¬ nI k < nI Ca.2.1.length := nI_nlt (by omega) (by have := (cC_n h3 h4).2; omega)
    rw [q29_2]
    simp only [q29_0, q29_1, q29_3, q29_3N, q29_4, q29_7, q29_10, q29_13, q29_14, q29_14N, q29_15, q29_18, q29_21, q29_22, q29_23, q29_24, q29_25, q29_28, q29_31, q29_34, q29_e, a1, a2, pm_rf_some, a9.1, (cC_n h3 h4).1, e1, if_false]
    exact hQ S hW sp_fr.rf
  | succ m ih =>
    intro k S C hk hW hQ
    obtain ⟨h1, h2, h3, h4, h5, h6, h7⟩ := id hW
    obtain ⟨a1, a2, a3, a4, a5, a6, a7, a8, a9, a10, a11⟩ := id h2
    have hn := (cC_n h3 h4).2
    have e1 : nI k < nI Ca.2.1.length := nI_lt (by omega) (by omega)
    obtain ⟨kv, hkv, hks⟩ := h5.2.2.2.1
    have e2 := pm_ar_nI a9.2.2.2.2.1 (show k < 40 by omega) (by decide)
    have e4 := nI_clamp (show k < 2 ^ 31 by omega)
    obtain ⟨g1, g2⟩ := cW_node (v := (sp_nd Ca k).1) (x := some k) (y := none) hW hks hkv
    rw [q29_2]
    simp only [q29_0, q29_1, q29_3, q29_3N, q29_4, q29_7, q29_10, q29_13, q29_14, q29_14N, q29_15, q29_18, q29_21, q29_22, q29_23, q29_24, q29_25, q29_28, q29_31, q29_34, q29_e, a1, a2, pm_rf_some, a9.1, a9.2.1, (cC_n h3 h4).1, e1, if_true, e2, e4, cC_nv h3 h4 (show k < Ca.2.1.length by omega), h1.1, c_addNode h1 hks hkv, pm_tl_none, nI_1]
    exact ih (k + 1) _ _ (by omega) g1 (fun S' q1 q2 => hQ S' q1 (g2.tr q2))
theorem c_copyNodes (hW : cW S w a Ca C) (hQ : ∀ S', cW S' w a Ca (sp_copyN Ca C) → sp_fr (cB w) S S' → Q none S') : pm_N (d + 3) 29 [.ref w, .ref a] S Q := by
  simp only [q29_0, q29_1, q29_3, q29_3N, q29_4, q29_7, q29_10, q29_13, q29_14, q29_14N, q29_15, q29_18, q29_21, q29_22, q29_23, q29_24, q29_25, q29_28, q29_31, q29_34, q29_e]
  exact c_copyNodes_l Ca.2.1.length 0 S C (by omega) hW hQ
end
