/-! ===== the class: views, turned and multiplied ===== -/
section
variable {d w a b n k : Nat} {S : pm_T} {Q : Option Value → pm_T → Prop} {C Ca Cb : sp_C}
set_option maxHeartbeats 1000000 in
theorem c_turn_l : ∀ (m k : Nat) (S : pm_T) (C : sp_C), k + m = Ca.2.2.1.length → cW S w a Ca C →
    (∀ S', cW S' w a Ca (sp_for (fun C e => sp_addA C ((sp_ar Ca e).2.1, (sp_ar Ca e).1, (sp_ar Ca e).2.2.1, some e, none)) m k C) → sp_fr (cB w) S S' → Q none S') →
    pm_V (d + 3) 30 7 [.ref w, .ref a, .int (nI k)] [] S Q := by
  intro m
  induction m with
  | zero =>
    intro k S C hk hW hQ
    obtain ⟨h1, h2, h3, h4, h5, h6, h7⟩ := id hW
    obtain ⟨a1, a2, a3, a4, a5, a6, a7, a8, a9, a10, a11⟩ := id h2
    have e1 : ¬ nI k < nI Ca.2.2.1.length := nI_nlt (by omega) (by have := (cC_m h3 h4).2; omega)
    rw [q30_7]
    simp only [q30_0, q30_1, q30_1N, q30_2, q30_5, q30_6, q30_8, q30_8N, q30_9, q30_12, q30_15, q30_18, q30_19, q30_19N, q30_20, q30_23, q30_24, q30_25, q30_25N, q30_26, q30_29, q30_30, q30_31, q30_31N, q30_32, q30_35, q30_38, q30_39, q30_40, q30_41, q30_42, q30_45, q30_48, q30_51, q30_e, a1, a3, pm_rf_some, a10.1, (cC_m h3 h4).1, e1, if_false]
    exact hQ S hW sp_fr.rf
  | succ m ih =>
    intro k S C hk hW hQ
    obtain ⟨h1, h2, h3, h4, h5, h6, h7⟩ := id hW
    obtain ⟨a1, a2, a3, a4, a5, a6, a7, a8, a9, a10, a11⟩ := id h2
    have hn := (cC_m h3 h4).2
    have e1 : nI k < nI Ca.2.2.1.length := nI_lt (by omega) (by omega)
    obtain ⟨kv, hkv, hks⟩ := h5.2.2.2.2.1
    have e2 := pm_ar_nI a10.2.2.2.2.1 (show k < 120 by omega) (by decide)
    have e3 := pm_ar_nI a7 (show k < 120 by omega) (by decide)
    have e5 := pm_ar_nI a8 (show k < 120 by omega) (by decide)
    have e4 := nI_clamp (show k < 2 ^ 31 by omega)
    have er := cC_ae h3 h4 (show k < Ca.2.2.1.length by omega)
    obtain ⟨g1, g2⟩ := cW_arc (t := (sp_ar Ca k).2.1) (h := (sp_ar Ca k).1) (v := (sp_ar Ca k).2.2.1) (x := some k) (y := none) hW hks hkv
    rw [q30_7]
    simp only [q30_0, q30_1, q30_1N, q30_2, q30_5, q30_6, q30_8, q30_8N, q30_9, q30_12, q30_15, q30_18, q30_19, q30_19N, q30_20, q30_23, q30_24, q30_25, q30_25N, q30_26, q30_29, q30_30, q30_31, q30_31N, q30_32, q30_35, q30_38, q30_39, q30_40, q30_41, q30_42, q30_45, q30_48, q30_51, q30_e, a1, a3, a4, a5, pm_rf_some, a10.1, a10.2.1, (cC_m h3 h4).1, e1, if_true, e2, e3, e5, e4, er.1, er.2.1, er.2.2, h1.1, c_addArc h1 hks hkv, pm_tl_none, nI_1]
    exact ih (k + 1) _ _ (by omega) g1 (fun S' q1 q2 => hQ S' q1 (g2.tr q2))
theorem c_turn (hW : cW S w a Ca C) (hQ : ∀ S', cW S' w a Ca (sp_turn Ca C) → sp_fr (cB w) S S' → Q none S') : pm_N (d + 4) 30 [.ref w, .ref a] S Q := by
  simp only [q30_0, q30_1, q30_1N, q30_2, q30_5, q30_6, q30_8, q30_8N, q30_9, q30_12, q30_15, q30_18, q30_19, q30_19N, q30_20, q30_23, q30_24, q30_25, q30_25N, q30_26, q30_29, q30_30, q30_31, q30_31N, q30_32, q30_35, q30_38, q30_39, q30_40, q30_41, q30_42, q30_45, q30_48, q30_51, q30_e]
  refine c_copyNodes hW fun S' h1 h2 => ?_
  simp only [pm_tl_none, q30_0, q30_1, q30_1N, q30_2, q30_5, q30_6, q30_8, q30_8N, q30_9, q30_12, q30_15, q30_18, q30_19, q30_19N, q30_20, q30_23, q30_24, q30_25, q30_25N, q30_26, q30_29, q30_30, q30_31, q30_31N, q30_32, q30_35, q30_38, q30_39, q30_40, q30_41, q30_42, q30_45, q30_48, q30_51, q30_e]
  exact c_turn_l Ca.2.2.1.length 0 S' _ (by omega) h1 (fun S'' q1 q2 => hQ S'' q1 (h2.tr q2))
/-- a view is being made of a and b -/
def cW2 (S : pm_T) (w a b : Nat) (Ca Cb C : sp_C) : Prop := cW S w a Ca C ∧ cW S w b Cb C
theorem cW2_node {v : Int64} {x y : Option Nat} (h : cW2 S w a b Ca Cb C) (hk : pm_gi S (w + 1) 3 = nI k) (hk4 : k ≤ 40) : cW2 (fG_node S w k v (sp_eC x) (sp_eC y)) w a b Ca Cb (sp_addN C (v, x, y)) ∧ sp_fr (cB w) S (fG_node S w k v (sp_eC x) (sp_eC y)) :=
  ⟨⟨(cW_node h.1 hk hk4).1, (cW_node h.2 hk hk4).1⟩, (cW_node h.1 hk hk4).2⟩
theorem cW2_arc {t h : Nat} {v : Int64} {x y : Option Nat} (hc : cW2 S w a b Ca Cb C) (hk : pm_gi S (w + 5) 3 = nI k) (hk4 : k ≤ 120) : cW2 (fG_arc S w k (nI t) (nI h) v (sp_eC x) (sp_eC y)) w a b Ca Cb (sp_addA C (t, h, v, x, y)) ∧ sp_fr (cB w) S (fG_arc S w k (nI t) (nI h) v (sp_eC x) (sp_eC y)) :=
  ⟨⟨(cW_arc hc.1 hk hk4).1, (cW_arc hc.2 hk hk4).1⟩, (cW_arc hc.1 hk hk4).2⟩
set_option maxHeartbeats 1000000 in
theorem c_pair_l {x : Nat} (hx : x < Ca.2.1.length) : ∀ (m k : Nat) (S : pm_T) (C : sp_C), k + m = Cb.2.1.length → cW2 S w a b Ca Cb C →
    (∀ S' l, cW2 S' w a b Ca Cb (sp_for (fun C y => sp_addN C ((sp_nd Ca x).1 + (sp_nd Cb y).1, some x, some y)) m k C) → sp_fr (cB w) S S' → pm_V (d + 3) 36 2 [.ref w, .ref a, .ref b, .int (nI (x + 1)), l] [] S' Q) →
    pm_V (d + 3) 36 16 [.ref w, .ref a, .ref b, .int (nI x), .int (nI k)] [] S Q := by
  intro m
  induction m with
  | zero =>
    intro k S C hk hW hQ
    obtain ⟨h1, h2, h3, h4, h5, h6, h7⟩ := id hW.2
    obtain ⟨a1, a2, a3, a4, a5, a6, a7, a8, a9, a10, a11⟩ := id h2
    have e1 : ¬ nI k < nI Cb.2.1.length := nI_nlt (by omega) (by have := (cC_n h3 h4).2; omega)
    rw [q36_16]
    simp only [q36_0, q36_1, q36_3, q36_3N, q36_4, q36_7, q36_10, q36_13, q36_14, q36_18, q36_18N, q36_19, q36_22, q36_25, q36_28, q36_29, q36_29N, q36_30, q36_33, q36_36, q36_37, q36_38, q36_38N, q36_39, q36_42, q36_45, q36_47, q36_48, q36_49, q36_50, q36_52, q36_55, q36_58, q36_61, q36_64, q36_67, q36_e, a1, a2, pm_rf_some, a9.1, (cC_n h3 h4).1, e1, if_false, nI_1]
    exact hQ S _ hW sp_fr.rf
  | succ m ih =>
    intro k S C hk hW hQ
    obtain ⟨h1, h2, h3, h4, h5, h6, h7⟩ := id hW.2
    obtain ⟨-, b2, b3, b4, -, -, -⟩ := id hW.1
    obtain ⟨a1, a2, a3, a4, a5, a6, a7, a8, a9, a10, a11⟩ := id h2
    obtain ⟨c1, c2, c3, c4, c5, c6, c7, c8, c9, c10, c11⟩ := id b2
    have hn := (cC_n h3 h4).2
    have hna := (cC_n b3 b4).2
    have e1 : nI k < nI Cb.2.1.length := nI_lt (by omega) (by omega)
    obtain ⟨kv, hkv, hks⟩ := h5.2.2.2.1
    have e2 := pm_ar_nI a9.2.2.2.2.1 (show k < 40 by omega) (by decide)
    have e3 := pm_ar_nI c9.2.2.2.2.1 (show x < 40 by omega) (by decide)
    have e4 := nI_clamp (show k < 2 ^ 31 by omega)
    have e5 := nI_clamp (show x < 2 ^ 31 by omega)
    obtain ⟨g1, g2⟩ := cW2_node (v := (sp_nd Ca x).1 + (sp_nd Cb k).1) (x := some x) (y := some k) hW hks hkv
    rw [q36_16]
    simp only [q36_0, q36_1, q36_3, q36_3N, q36_4, q36_7, q36_10, q36_13, q36_14, q36_18, q36_18N, q36_19, q36_22, q36_25, q36_28, q36_29, q36_29N, q36_30, q36_33, q36_36, q36_37, q36_38, q36_38N, q36_39, q36_42, q36_45, q36_47, q36_48, q36_49, q36_50, q36_52, q36_55, q36_58, q36_61, q36_64, q36_67, q36_e, a1, a2, c1, c2, pm_rf_some, a9.1, a9.2.1, c9.1, c9.2.1, (cC_n h3 h4).1, e1, if_true, e2, e3, e4, e5, cC_nv h3 h4 (show k < Cb.2.1.length by omega), cC_nv b3 b4 hx, h1.1, c_addNode h1 hks hkv, pm_tl_none, nI_1]
    exact ih (k + 1) _ _ (by omega) g1 (fun S' l q1 q2 => hQ S' l q1 (g2.tr q2))
set_option maxHeartbeats 1000000 in
theorem c_pair_o : ∀ (m k : Nat) (S : pm_T) (C : sp_C) (l : Value), k + m = Ca.2.1.length → cW2 S w a b Ca Cb C →
    (∀ S', cW2 S' w a b Ca Cb (sp_for (fun C x => sp_for (fun C y => sp_addN C ((sp_nd Ca x).1 + (sp_nd Cb y).1, some x, some y)) Cb.2.1.length 0 C) m k C) → sp_fr (cB w) S S' → Q none S') →
    pm_V (d + 3) 36 2 [.ref w, .ref a, .ref b, .int (nI k), l] [] S Q := by
  intro m
  induction m with
  | zero =>
    intro k S C l hk hW hQ
    obtain ⟨h1, h2, h3, h4, h5, h6, h7⟩ := id hW.1
    obtain ⟨a1, a2, a3, a4, a5, a6, a7, a8, a9, a10, a11⟩ := id h2
    have e1 : ¬ nI k < nI Ca.2.1.length := nI_nlt (by omega) (by have := (cC_n h3 h4).2; omega)
    rw [q36_2]
    simp only [q36_0, q36_1, q36_3, q36_3N, q36_4, q36_7, q36_10, q36_13, q36_14, q36_18, q36_18N, q36_19, q36_22, q36_25, q36_28, q36_29, q36_29N, q36_30, q36_33, q36_36, q36_37, q36_38, q36_38N, q36_39, q36_42, q36_45, q36_47, q36_48, q36_49, q36_50, q36_52, q36_55, q36_58, q36_61, q36_64, q36_67, q36_e, a1, a2, pm_rf_some, a9.1, (cC_n h3 h4).1, e1, if_false]
    exact hQ S hW sp_fr.rf
  | succ m ih =>
    intro k S C l hk hW hQ
    obtain ⟨h1, h2, h3, h4, h5, h6, h7⟩ := id hW.1
    obtain ⟨a1, a2, a3, a4, a5, a6, a7, a8, a9, a10, a11⟩ := id h2
    have hn := (cC_n h3 h4).2
    have e1 : nI k < nI Ca.2.1.length := nI_lt (by omega) (by omega)
    rw [q36_2]
    simp only [q36_0, q36_1, q36_3, q36_3N, q36_4, q36_7, q36_10, q36_13, q36_14, q36_18, q36_18N, q36_19, q36_22, q36_25, q36_28, q36_29, q36_29N, q36_30, q36_33, q36_36, q36_37, q36_38, q36_38N, q36_39, q36_42, q36_45, q36_47, q36_48, q36_49, q36_50, q36_52, q36_55, q36_58, q36_61, q36_64, q36_67, q36_e, a1, a2, pm_rf_some, a9.1, (cC_n h3 h4).1, e1, if_true]
    exact c_pair_l (by omega) Cb.2.1.length 0 S C (by omega) hW (fun S' l' q1 q2 => ih (k + 1) S' _ l' (by omega) q1 (fun S'' q3 q4 => hQ S'' q3 (q2.tr q4)))
theorem c_pairNodes (hW : cW2 S w a b Ca Cb C) (hQ : ∀ S', cW2 S' w a b Ca Cb (sp_pairN Ca Cb C) → sp_fr (cB w) S S' → Q none S') : pm_N (d + 3) 36 [.ref w, .ref a, .ref b] S Q := by
  simp only [q36_0, q36_1, q36_3, q36_3N, q36_4, q36_7, q36_10, q36_13, q36_14, q36_18, q36_18N, q36_19, q36_22, q36_25, q36_28, q36_29, q36_29N, q36_30, q36_33, q36_36, q36_37, q36_38, q36_38N, q36_39, q36_42, q36_45, q36_47, q36_48, q36_49, q36_50, q36_52, q36_55, q36_58, q36_61, q36_64, q36_67, q36_e]
  exact c_pair_o Ca.2.1.length 0 S C _ (by omega) hW hQ
end
