/-! ===== the class: views, turned and multiplied ===== -/
section
variable {d w a b n k : Nat} {S : pm_T} {Q : Option Value → pm_T → Prop} {C Ca Cb : sp_C}
set_option maxHeartbeats 1000000 in
theorem c_turn_l : ∀ (m k : Nat) (S : pm_T) (C : sp_C), k + m = Ca.2.2.1.length → cW S w a Ca C →
    (∀ S', cW S' w a Ca (sp_for (fun C e => sp_addA C ((sp_ar Ca e).2.1, (sp_ar Ca e).1, (sp_ar Ca e).2.2.1, some e, none)) m k C) → sp_fr (cB w) S S' → Q none S') →
    pm_V (d + 3) 31 7 [.ref w, .ref a, .int (nI k)] [] S Q := by
  intro m
  induction m with
  | zero =>
    intro k S C hk hW hQ
    obtain ⟨h1, h2, h3, h4, h5, h6, h7⟩ := id hW
    obtain ⟨a1, a2, a3, a4, a5, a6, a7, a8, a9, a10, a11⟩ := id h2
    have e1 : ¬ nI k < nI Ca.2.2.1.length := nI_nlt (by omega) (by have := (cC_m h3 h4).2; omega)
    rw [q31_7]
    simp only [q31_0, q31_1, q31_1N, q31_2, q31_5, q31_6, q31_8, q31_8N, q31_9, q31_12, q31_15, q31_18, q31_19, q31_19N, q31_20, q31_23, q31_24, q31_25, q31_25N, q31_26, q31_29, q31_30, q31_31, q31_31N, q31_32, q31_35, q31_38, q31_39, q31_40, q31_41, q31_42, q31_45, q31_48, q31_51, q31_e, a1, a3, pm_rf_some, a10.1, (cC_m h3 h4).1, e1, if_false]
    exact hQ S hW sp_fr.rf
  | succ m ih =>
    intro k S C hk hW hQ
    obtain ⟨h1, h2, h3, h4, h5, h6, h7⟩ := id hW
    obtain ⟨a1, a2, a3, a4, a5, a6, a7, a8, a9, a10, a11⟩ := id h2
    have hn := (cC_m h3 h4).2
    have e1 : nI k < nI Ca.2.2.1.length := nI_lt (by omega) (by omega)
    obtain ⟨kv, hkv, hks⟩ := h5.2.2.2.2.1
    have e2 := pm_ar_nI a10.2.2.2.2.1 (show k < 120 by omega) (by decide)
    have e3 := pm_ar_nI a7 (show k < 120 by omega) (by decide)
    have e5 := pm_ar_nI a8 (show k < 120 by omega) (by decide)
    have e4 := nI_clamp (show k < 2 ^ 31 by omega)
    have er := cC_ae h3 h4 (show k < Ca.2.2.1.length by omega)
    obtain ⟨g1, g2⟩ := cW_arc (t := (sp_ar Ca k).2.1) (h := (sp_ar Ca k).1) (v := (sp_ar Ca k).2.2.1) (x := some k) (y := none) hW hks hkv
    rw [q31_7]
    simp only [q31_0, q31_1, q31_1N, q31_2, q31_5, q31_6, q31_8, q31_8N, q31_9, q31_12, q31_15, q31_18, q31_19, q31_19N, q31_20, q31_23, q31_24, q31_25, q31_25N, q31_26, q31_29, q31_30, q31_31, q31_31N, q31_32, q31_35, q31_38, q31_39, q31_40, q31_41, q31_42, q31_45, q31_48, q31_51, q31_e, a1, a3, a4, a5, pm_rf_some, a10.1, a10.2.1, (cC_m h3 h4).1, e1, if_true, e2, e3, e5, e4, er.1, er.2.1, er.2.2, h1.1, c_addArc h1 hks hkv, pm_tl_none, nI_1]
    exact ih (k + 1) _ _ (by omega) g1 (fun S' q1 q2 => hQ S' q1 (g2.tr q2))
theorem c_turn (hW : cW S w a Ca C) (hQ : ∀ S', cW S' w a Ca (sp_turn Ca C) → sp_fr (cB w) S S' → Q none S') : pm_N (d + 4) 31 [.ref w, .ref a] S Q := by
  simp only [q31_0, q31_1, q31_1N, q31_2, q31_5, q31_6, q31_8, q31_8N, q31_9, q31_12, q31_15, q31_18, q31_19, q31_19N, q31_20, q31_23, q31_24, q31_25, q31_25N, q31_26, q31_29, q31_30, q31_31, q31_31N, q31_32, q31_35, q31_38, q31_39, q31_40, q31_41, q31_42, q31_45, q31_48, q31_51, q31_e]
  refine c_copyNodes hW fun S' h1 h2 => ?_
  simp only [pm_tl_none, q31_0, q31_1, q31_1N, q31_2, q31_5, q31_6, q31_8, q31_8N, q31_9, q31_12, q31_15, q31_18, q31_19, q31_19N, q31_20, q31_23, q31_24, q31_25, q31_25N, q31_26, q31_29, q31_30, q31_31, q31_31N, q31_32, q31_35, q31_38, q31_39, q31_40, q31_41, q31_42, q31_45, q31_48, q31_51, q31_e]
  exact c_turn_l Ca.2.2.1.length 0 S' _ (by omega) h1 (fun S'' q1 q2 => hQ S'' q1 (h2.tr q2))
/-- a view is being made of a and b -/
def cW2 (S : pm_T) (w a b : Nat) (Ca Cb C : sp_C) : Prop := cW S w a Ca C ∧ cW S w b Cb C
theorem cW2_node {v : Int64} {x y : Option Nat} (h : cW2 S w a b Ca Cb C) (hk : pm_gi S (w + 1) 3 = nI k) (hk4 : k ≤ 40) : cW2 (fG_node S w k v (sp_eC x) (sp_eC y)) w a b Ca Cb (sp_addN C (v, x, y)) ∧ sp_fr (cB w) S (fG_node S w k v (sp_eC x) (sp_eC y)) :=
  ⟨⟨(cW_node h.1 hk hk4).1, (cW_node h.2 hk hk4).1⟩, (cW_node h.1 hk hk4).2⟩
theorem cW2_arc {t h : Nat} {v : Int64} {x y : Option Nat} (hc : cW2 S w a b Ca Cb C) (hk : pm_gi S (w + 5) 3 = nI k) (hk4 : k ≤ 120) : cW2 (fG_arc S w k (nI t) (nI h) v (sp_eC x) (sp_eC y)) w a b Ca Cb (sp_addA C (t, h, v, x, y)) ∧ sp_fr (cB w) S (fG_arc S w k (nI t) (nI h) v (sp_eC x) (sp_eC y)) :=
  ⟨⟨(cW_arc hc.1 hk hk4).1, (cW_arc hc.2 hk hk4).1⟩, (cW_arc hc.1 hk hk4).2⟩
set_option maxHeartbeats 1000000 in
theorem c_pair_l {x : Nat} (hx : x < Ca.2.1.length) : ∀ (m k : Nat) (S : pm_T) (C : sp_C), k + m = Cb.2.1.length → cW2 S w a b Ca Cb C →
    (∀ S' l, cW2 S' w a b Ca Cb (sp_for (fun C y => sp_addN C ((sp_nd Ca x).1 + (sp_nd Cb y).1, some x, some y)) m k C) → sp_fr (cB w) S S' → pm_V (d + 3) 37 2 [.ref w, .ref a, .ref b, .int (nI (x + 1)), l] [] S' Q) →
    pm_V (d + 3) 37 16 [.ref w, .ref a, .ref b, .int (nI x), .int (nI k)] [] S Q := by
  intro m
  induction m with
  | zero =>
    intro k S C hk hW hQ
    obtain ⟨h1, h2, h3, h4, h5, h6, h7⟩ := id hW.2
    obtain ⟨a1, a2, a3, a4, a5, a6, a7, a8, a9, a10, a11⟩ := id h2
    have e1 : ¬ nI k < nI Cb.2.1.length := nI_nlt (by omega) (by have := (cC_n h3 h4).2; omega)
    rw [q37_16]
    simp only [q37_0, q37_1, q37_3, q37_3N, q37_4, q37_7, q37_10, q37_13, q37_14, q37_18, q37_18N, q37_19, q37_22, q37_25, q37_28, q37_29, q37_29N, q37_30, q37_33, q37_36, q37_37, q37_38, q37_38N, q37_39, q37_42, q37_45, q37_47, q37_48, q37_49, q37_50, q37_52, q37_55, q37_58, q37_61, q37_64, q37_67, q37_e, a1, a2, pm_rf_some, a9.1, (cC_n h3 h4).1, e1, if_false, nI_1]
    exact hQ S _ hW sp_fr.rf
  | succ m ih =>
    intro k S C hk hW hQ
    obtain ⟨h1, h2, h3, h4, h5, h6, h7⟩ := id hW.2
    obtain ⟨-, b2, b3, b4, -, -, -⟩ := id hW.1
    obtain ⟨a1, a2, a3, a4, a5, a6, a7, a8, a9, a10, a11⟩ := id h2
    obtain ⟨c1, c2, c3, c4, c5, c6, c7, c8, c9, c10, c11⟩ := id b2
    have hn := (cC_n h3 h4).2
    have hna := (cC_n b3 b4).2
    have e1 : nI k < nI Cb.2.1.length := nI_lt (by omega) (by omega)
    obtain ⟨kv, hkv, hks⟩ := h5.2.2.2.1
    have e2 := pm_ar_nI a9.2.2.2.2.1 (show k < 40 by omega) (by decide)
    have e3 := pm_ar_nI c9.2.2.2.2.1 (show x < 40 by omega) (by decide)
    have e4 := nI_clamp (show k < 2 ^ 31 by omega)
    have e5 := nI_clamp (show x < 2 ^ 31 by omega)
    obtain ⟨g1, g2⟩ := cW2_node (v := (sp_nd Ca x).1 + (sp_nd Cb k).1) (x := some x) (y := some k) hW hks hkv
    rw [q37_16]
    simp only [q37_0, q37_1, q37_3, q37_3N, q37_4, q37_7, q37_10, q37_13, q37_14, q37_18, q37_18N, q37_19, q37_22, q37_25, q37_28, q37_29, q37_29N, q37_30, q37_33, q37_36, q37_37, q37_38, q37_38N, q37_39, q37_42, q37_45, q37_47, q37_48, q37_49, q37_50, q37_52, q37_55, q37_58, q37_61, q37_64, q37_67, q37_e, a1, a2, c1, c2, pm_rf_some, a9.1, a9.2.1, c9.1, c9.2.1, (cC_n h3 h4).1, e1, if_true, e2, e3, e4, e5, cC_nv h3 h4 (show k < Cb.2.1.length by omega), cC_nv b3 b4 hx, h1.1, c_addNode h1 hks hkv, pm_tl_none, nI_1]
    exact ih (k + 1) _ _ (by omega) g1 (fun S' l q1 q2 => hQ S' l q1 (g2.tr q2))
set_option maxHeartbeats 1000000 in
theorem c_pair_o : ∀ (m k : Nat) (S : pm_T) (C : sp_C) (l : Value), k + m = Ca.2.1.length → cW2 S w a b Ca Cb C →
    (∀ S', cW2 S' w a b Ca Cb (sp_for (fun C x => sp_for (fun C y => sp_addN C ((sp_nd Ca x).1 + (sp_nd Cb y).1, some x, some y)) Cb.2.1.length 0 C) m k C) → sp_fr (cB w) S S' → Q none S') →
    pm_V (d + 3) 37 2 [.ref w, .ref a, .ref b, .int (nI k), l] [] S Q := by
  intro m
  induction m with
  | zero =>
    intro k S C l hk hW hQ
    obtain ⟨h1, h2, h3, h4, h5, h6, h7⟩ := id hW.1
    obtain ⟨a1, a2, a3, a4, a5, a6, a7, a8, a9, a10, a11⟩ := id h2
    have e1 : ¬ nI k < nI Ca.2.1.length := nI_nlt (by omega) (by have := (cC_n h3 h4).2; omega)
    rw [q37_2]
    simp only [q37_0, q37_1, q37_3, q37_3N, q37_4, q37_7, q37_10, q37_13, q37_14, q37_18, q37_18N, q37_19, q37_22, q37_25, q37_28, q37_29, q37_29N, q37_30, q37_33, q37_36, q37_37, q37_38, q37_38N, q37_39, q37_42, q37_45, q37_47, q37_48, q37_49, q37_50, q37_52, q37_55, q37_58, q37_61, q37_64, q37_67, q37_e, a1, a2, pm_rf_some, a9.1, (cC_n h3 h4).1, e1, if_false]
    exact hQ S hW sp_fr.rf
  | succ m ih =>
    intro k S C l hk hW hQ
    obtain ⟨h1, h2, h3, h4, h5, h6, h7⟩ := id hW.1
    obtain ⟨a1, a2, a3, a4, a5, a6, a7, a8, a9, a10, a11⟩ := id h2
    have hn := (cC_n h3 h4).2
    have e1 : nI k < nI Ca.2.1.length := nI_lt (by omega) (by omega)
    rw [q37_2]
    simp only [q37_0, q37_1, q37_3, q37_3N, q37_4, q37_7, q37_10, q37_13, q37_14, q37_18, q37_18N, q37_19, q37_22, q37_25, q37_28, q37_29, q37_29N, q37_30, q37_33, q37_36, q37_37, q37_38, q37_38N, q37_39, q37_42, q37_45, q37_47, q37_48, q37_49, q37_50, q37_52, q37_55, q37_58, q37_61, q37_64, q37_67, q37_e, a1, a2, pm_rf_some, a9.1, (cC_n h3 h4).1, e1, if_true]
    exact c_pair_l (by omega) Cb.2.1.length 0 S C (by omega) hW (fun S' l' q1 q2 => ih (k + 1) S' _ l' (by omega) q1 (fun S'' q3 q4 => hQ S'' q3 (q2.tr q4)))
theorem c_pairNodes (hW : cW2 S w a b Ca Cb C) (hQ : ∀ S', cW2 S' w a b Ca Cb (sp_pairN Ca Cb C) → sp_fr (cB w) S S' → Q none S') : pm_N (d + 3) 37 [.ref w, .ref a, .ref b] S Q := by
  simp only [q37_0, q37_1, q37_3, q37_3N, q37_4, q37_7, q37_10, q37_13, q37_14, q37_18, q37_18N, q37_19, q37_22, q37_25, q37_28, q37_29, q37_29N, q37_30, q37_33, q37_36, q37_37, q37_38, q37_38N, q37_39, q37_42, q37_45, q37_47, q37_48, q37_49, q37_50, q37_52, q37_55, q37_58, q37_61, q37_64, q37_67, q37_e]
  exact c_pair_o Ca.2.1.length 0 S C _ (by omega) hW hQ
end
