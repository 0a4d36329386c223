/-! ===== the class: arcs of a product (by wip/gen_mov.py) ===== -/
section
variable {d w a b n k : Nat} {S : pm_T} {Q : Option Value → pm_T → Prop} {C Ca Cb : sp_C}
set_option maxHeartbeats 2000000 in
theorem c_moveInA_l {x : Nat} (hx : x < Ca.2.2.1.length) : ∀ (m k : Nat) (S : pm_T) (C : sp_C), k + m = Cb.2.1.length → cW2 S w a b Ca Cb C →
    (∀ S' l, cW2 S' w a b Ca Cb (sp_for (fun C y => sp_addA C ((sp_ar Ca x).1 * Cb.2.1.length + y, (sp_ar Ca x).2.1 * Cb.2.1.length + y, (sp_ar Ca x).2.2.1, some x, none)) m k C) → sp_fr (cB w) S S' → pm_V (d + 3) 37 11 [.ref w, .ref a, .ref b, .int (nI Cb.2.1.length), .int (nI (x + 1)), l] [] S' Q) →
    pm_V (d + 3) 37 26 [.ref w, .ref a, .ref b, .int (nI Cb.2.1.length), .int (nI x), .int (nI k)] [] S Q := by
  intro m
  induction m with
  | zero =>
    intro k S C hk hW hQ
    obtain ⟨h1, h2, h3, h4, h5, h6, h7⟩ := id hW.2
    obtain ⟨-, b2, b3, b4, -, -, -⟩ := id hW.1
    obtain ⟨a1, a2, a3, a4, a5, a6, a7, a8, a9, a10, a11⟩ := id h2
    obtain ⟨c1, c2, c3, c4, c5, c6, c7, c8, c9, c10, c11⟩ := id b2
    have nb := (cC_n h3 h4)
    have mb := (cC_m h3 h4)
    have na := (cC_n b3 b4)
    have ma := (cC_m b3 b4)
    have e1 : ¬ nI k < nI Cb.2.1.length := nI_nlt (by omega) (by omega)
    rw [q37_26]
    simp only [q37_0, q37_0N, q37_1, q37_4, q37_7, q37_8, q37_9, q37_13, q37_13N, q37_14, q37_17, q37_20, q37_23, q37_24, q37_28, q37_29, q37_32, q37_33, q37_33N, q37_34, q37_37, q37_39, q37_40, q37_41, q37_42, q37_44, q37_45, q37_45N, q37_46, q37_49, q37_51, q37_52, q37_53, q37_54, q37_56, q37_57, q37_57N, q37_58, q37_61, q37_64, q37_66, q37_67, q37_69, q37_70, q37_73, q37_76, q37_79, q37_82, q37_85, q37_e, a1, a2, a3, a4, a5, c1, c2, c3, c4, c5, pm_rf_some, a9.1, a9.2.1, a10.1, a10.2.1, c9.1, c9.2.1, c10.1, c10.2.1, nb.1, mb.1, na.1, ma.1, e1, if_false, nI_1]
    exact hQ S _ hW sp_fr.rf
  | succ m ih =>
    intro k S C hk hW hQ
    obtain ⟨h1, h2, h3, h4, h5, h6, h7⟩ := id hW.2
    obtain ⟨-, b2, b3, b4, -, -, -⟩ := id hW.1
    obtain ⟨a1, a2, a3, a4, a5, a6, a7, a8, a9, a10, a11⟩ := id h2
    obtain ⟨c1, c2, c3, c4, c5, c6, c7, c8, c9, c10, c11⟩ := id b2
    have nb := (cC_n h3 h4)
    have mb := (cC_m h3 h4)
    have na := (cC_n b3 b4)
    have ma := (cC_m b3 b4)
    have e1 : nI k < nI Cb.2.1.length := nI_lt (by omega) (by omega)
    obtain ⟨kv, hkv, hks⟩ := h5.2.2.2.2.1
    have r1 := pm_ar_nI c7 (show x < 120 by omega) (by decide)
    have r2 := pm_ar_nI c8 (show x < 120 by omega) (by decide)
    have r3 := pm_ar_nI c10.2.2.2.2.1 (show x < 120 by omega) (by decide)
    have ra := cC_ae b3 b4 hx
    have e4 := nI_clamp (show k < 2 ^ 31 by omega)
    have e5 := nI_clamp (show x < 2 ^ 31 by omega)
    obtain ⟨g1, g2⟩ := cW2_arc (t := (sp_ar Ca x).1 * Cb.2.1.length + k) (h := (sp_ar Ca x).2.1 * Cb.2.1.length + k) (v := (sp_ar Ca x).2.2.1) (x := some x) (y := none) hW hks hkv
    rw [q37_26]
    simp only [q37_0, q37_0N, q37_1, q37_4, q37_7, q37_8, q37_9, q37_13, q37_13N, q37_14, q37_17, q37_20, q37_23, q37_24, q37_28, q37_29, q37_32, q37_33, q37_33N, q37_34, q37_37, q37_39, q37_40, q37_41, q37_42, q37_44, q37_45, q37_45N, q37_46, q37_49, q37_51, q37_52, q37_53, q37_54, q37_56, q37_57, q37_57N, q37_58, q37_61, q37_64, q37_66, q37_67, q37_69, q37_70, q37_73, q37_76, q37_79, q37_82, q37_85, q37_e, a1, a2, a3, a4, a5, c1, c2, c3, c4, c5, pm_rf_some, a9.1, a9.2.1, a10.1, a10.2.1, c9.1, c9.2.1, c10.1, c10.2.1, nb.1, mb.1, na.1, ma.1, e1, if_true, r1, r2, r3, ra.1, ra.2.1, ra.2.2, e4, e5, sp_at, h1.1, c_addArc h1 hks hkv, pm_tl_none, nI_1]
    exact ih (k + 1) _ _ (by omega) g1 (fun S' l q1 q2 => hQ S' l q1 (g2.tr q2))
set_option maxHeartbeats 2000000 in
theorem c_moveInA_o : ∀ (m k : Nat) (S : pm_T) (C : sp_C) (l : Value), k + m = Ca.2.2.1.length → cW2 S w a b Ca Cb C →
    (∀ S', cW2 S' w a b Ca Cb (sp_for (fun C x => sp_for (fun C y => sp_addA C ((sp_ar Ca x).1 * Cb.2.1.length + y, (sp_ar Ca x).2.1 * Cb.2.1.length + y, (sp_ar Ca x).2.2.1, some x, none)) Cb.2.1.length 0 C) m k C) → sp_fr (cB w) S S' → Q none S') →
    pm_V (d + 3) 37 11 [.ref w, .ref a, .ref b, .int (nI Cb.2.1.length), .int (nI k), l] [] S Q := by
  intro m
  induction m with
  | zero =>
    intro k S C l hk hW hQ
    obtain ⟨h1, h2, h3, h4, h5, h6, h7⟩ := id hW.2
    obtain ⟨-, b2, b3, b4, -, -, -⟩ := id hW.1
    obtain ⟨a1, a2, a3, a4, a5, a6, a7, a8, a9, a10, a11⟩ := id h2
    obtain ⟨c1, c2, c3, c4, c5, c6, c7, c8, c9, c10, c11⟩ := id b2
    have nb := (cC_n h3 h4)
    have mb := (cC_m h3 h4)
    have na := (cC_n b3 b4)
    have ma := (cC_m b3 b4)
    have e1 : ¬ nI k < nI Ca.2.2.1.length := nI_nlt (by omega) (by omega)
    rw [q37_11]
    simp only [q37_0, q37_0N, q37_1, q37_4, q37_7, q37_8, q37_9, q37_13, q37_13N, q37_14, q37_17, q37_20, q37_23, q37_24, q37_28, q37_29, q37_32, q37_33, q37_33N, q37_34, q37_37, q37_39, q37_40, q37_41, q37_42, q37_44, q37_45, q37_45N, q37_46, q37_49, q37_51, q37_52, q37_53, q37_54, q37_56, q37_57, q37_57N, q37_58, q37_61, q37_64, q37_66, q37_67, q37_69, q37_70, q37_73, q37_76, q37_79, q37_82, q37_85, q37_e, a1, a2, a3, a4, a5, c1, c2, c3, c4, c5, pm_rf_some, a9.1, a9.2.1, a10.1, a10.2.1, c9.1, c9.2.1, c10.1, c10.2.1, nb.1, mb.1, na.1, ma.1, e1, if_false]
    exact hQ S hW sp_fr.rf
  | succ m ih =>
    intro k S C l hk hW hQ
    obtain ⟨h1, h2, h3, h4, h5, h6, h7⟩ := id hW.2
    obtain ⟨-, b2, b3, b4, -, -, -⟩ := id hW.1
    obtain ⟨a1, a2, a3, a4, a5, a6, a7, a8, a9, a10, a11⟩ := id h2
    obtain ⟨c1, c2, c3, c4, c5, c6, c7, c8, c9, c10, c11⟩ := id b2
    have nb := (cC_n h3 h4)
    have mb := (cC_m h3 h4)
    have na := (cC_n b3 b4)
    have ma := (cC_m b3 b4)
    have e1 : nI k < nI Ca.2.2.1.length := nI_lt (by omega) (by omega)
    rw [q37_11]
    simp only [q37_0, q37_0N, q37_1, q37_4, q37_7, q37_8, q37_9, q37_13, q37_13N, q37_14, q37_17, q37_20, q37_23, q37_24, q37_28, q37_29, q37_32, q37_33, q37_33N, q37_34, q37_37, q37_39, q37_40, q37_41, q37_42, q37_44, q37_45, q37_45N, q37_46, q37_49, q37_51, q37_52, q37_53, q37_54, q37_56, q37_57, q37_57N, q37_58, q37_61, q37_64, q37_66, q37_67, q37_69, q37_70, q37_73, q37_76, q37_79, q37_82, q37_85, q37_e, a1, a2, a3, a4, a5, c1, c2, c3, c4, c5, pm_rf_some, a9.1, a9.2.1, a10.1, a10.2.1, c9.1, c9.2.1, c10.1, c10.2.1, nb.1, mb.1, na.1, ma.1, e1, if_true]
    exact c_moveInA_l (by omega) Cb.2.1.length 0 S C (by omega) hW (fun S' l' q1 q2 => ih (k + 1) S' _ l' (by omega) q1 (fun S'' q3 q4 => hQ S'' q3 (q2.tr q4)))
theorem c_moveInA (hW : cW2 S w a b Ca Cb C) (hQ : ∀ S', cW2 S' w a b Ca Cb (sp_movA Ca Cb C) → sp_fr (cB w) S S' → Q none S') : pm_N (d + 3) 37 [.ref w, .ref a, .ref b] S Q := by
  obtain ⟨h1, h2, h3, h4, h5, h6, h7⟩ := id hW.2
  obtain ⟨a1, a2, a3, a4, a5, a6, a7, a8, a9, a10, a11⟩ := id h2
  simp only [q37_0, q37_0N, q37_1, q37_4, q37_7, q37_8, q37_9, q37_13, q37_13N, q37_14, q37_17, q37_20, q37_23, q37_24, q37_28, q37_29, q37_32, q37_33, q37_33N, q37_34, q37_37, q37_39, q37_40, q37_41, q37_42, q37_44, q37_45, q37_45N, q37_46, q37_49, q37_51, q37_52, q37_53, q37_54, q37_56, q37_57, q37_57N, q37_58, q37_61, q37_64, q37_66, q37_67, q37_69, q37_70, q37_73, q37_76, q37_79, q37_82, q37_85, q37_e, a1, a2, pm_rf_some, a9.1, (cC_n h3 h4).1]
  exact c_moveInA_o Ca.2.2.1.length 0 S C _ (by omega) hW hQ
set_option maxHeartbeats 2000000 in
theorem c_moveInB_l {x : Nat} (hx : x < Ca.2.1.length) : ∀ (m k : Nat) (S : pm_T) (C : sp_C), k + m = Cb.2.2.1.length → cW2 S w a b Ca Cb C →
    (∀ S' l, cW2 S' w a b Ca Cb (sp_for (fun C y => sp_addA C (x * Cb.2.1.length + (sp_ar Cb y).1, x * Cb.2.1.length + (sp_ar Cb y).2.1, (sp_ar Cb y).2.2.1, none, some y)) m k C) → sp_fr (cB w) S S' → pm_V (d + 3) 38 11 [.ref w, .ref a, .ref b, .int (nI Cb.2.1.length), .int (nI (x + 1)), l] [] S' Q) →
    pm_V (d + 3) 38 26 [.ref w, .ref a, .ref b, .int (nI Cb.2.1.length), .int (nI x), .int (nI k)] [] S Q := by
  intro m
  induction m with
  | zero =>
    intro k S C hk hW hQ
    obtain ⟨h1, h2, h3, h4, h5, h6, h7⟩ := id hW.2
    obtain ⟨-, b2, b3, b4, -, -, -⟩ := id hW.1
    obtain ⟨a1, a2, a3, a4, a5, a6, a7, a8, a9, a10, a11⟩ := id h2
    obtain ⟨c1, c2, c3, c4, c5, c6, c7, c8, c9, c10, c11⟩ := id b2
    have nb := (cC_n h3 h4)
    have mb := (cC_m h3 h4)
    have na := (cC_n b3 b4)
    have ma := (cC_m b3 b4)
    have e1 : ¬ nI k < nI Cb.2.2.1.length := nI_nlt (by omega) (by omega)
    rw [q38_26]
    simp only [q38_0, q38_0N, q38_1, q38_4, q38_7, q38_8, q38_9, q38_13, q38_13N, q38_14, q38_17, q38_20, q38_23, q38_24, q38_28, q38_28N, q38_29, q38_32, q38_35, q38_38, q38_39, q38_41, q38_42, q38_43, q38_43N, q38_44, q38_47, q38_49, q38_50, q38_51, q38_53, q38_54, q38_55, q38_55N, q38_56, q38_59, q38_61, q38_62, q38_63, q38_63N, q38_64, q38_67, q38_70, q38_72, q38_73, q38_74, q38_76, q38_79, q38_82, q38_85, q38_88, q38_91, q38_e, a1, a2, a3, a4, a5, c1, c2, c3, c4, c5, pm_rf_some, a9.1, a9.2.1, a10.1, a10.2.1, c9.1, c9.2.1, c10.1, c10.2.1, nb.1, mb.1, na.1, ma.1, e1, if_false, nI_1]
    exact hQ S _ hW sp_fr.rf
  | succ m ih =>
    intro k S C hk hW hQ
    obtain ⟨h1, h2, h3, h4, h5, h6, h7⟩ := id hW.2
    obtain ⟨-, b2, b3, b4, -, -, -⟩ := id hW.1
    obtain ⟨a1, a2, a3, a4, a5, a6, a7, a8, a9, a10, a11⟩ := id h2
    obtain ⟨c1, c2, c3, c4, c5, c6, c7, c8, c9, c10, c11⟩ := id b2
    have nb := (cC_n h3 h4)
    have mb := (cC_m h3 h4)
    have na := (cC_n b3 b4)
    have ma := (cC_m b3 b4)
    have e1 : nI k < nI Cb.2.2.1.length := nI_lt (by omega) (by omega)
    obtain ⟨kv, hkv, hks⟩ := h5.2.2.2.2.1
    have s1 := pm_ar_nI a7 (show k < 120 by omega) (by decide)
    have s2 := pm_ar_nI a8 (show k < 120 by omega) (by decide)
    have s3 := pm_ar_nI a10.2.2.2.2.1 (show k < 120 by omega) (by decide)
    have rb := cC_ae h3 h4 (show k < Cb.2.2.1.length by omega)
    have e4 := nI_clamp (show k < 2 ^ 31 by omega)
    have e5 := nI_clamp (show x < 2 ^ 31 by omega)
    obtain ⟨g1, g2⟩ := cW2_arc (t := x * Cb.2.1.length + (sp_ar Cb k).1) (h := x * Cb.2.1.length + (sp_ar Cb k).2.1) (v := (sp_ar Cb k).2.2.1) (x := none) (y := some k) hW hks hkv
    rw [q38_26]
    simp only [q38_0, q38_0N, q38_1, q38_4, q38_7, q38_8, q38_9, q38_13, q38_13N, q38_14, q38_17, q38_20, q38_23, q38_24, q38_28, q38_28N, q38_29, q38_32, q38_35, q38_38, q38_39, q38_41, q38_42, q38_43, q38_43N, q38_44, q38_47, q38_49, q38_50, q38_51, q38_53, q38_54, q38_55, q38_55N, q38_56, q38_59, q38_61, q38_62, q38_63, q38_63N, q38_64, q38_67, q38_70, q38_72, q38_73, q38_74, q38_76, q38_79, q38_82, q38_85, q38_88, q38_91, q38_e, a1, a2, a3, a4, a5, c1, c2, c3, c4, c5, pm_rf_some, a9.1, a9.2.1, a10.1, a10.2.1, c9.1, c9.2.1, c10.1, c10.2.1, nb.1, mb.1, na.1, ma.1, e1, if_true, s1, s2, s3, rb.1, rb.2.1, rb.2.2, e4, e5, sp_at, h1.1, c_addArc h1 hks hkv, pm_tl_none, nI_1]
    exact ih (k + 1) _ _ (by omega) g1 (fun S' l q1 q2 => hQ S' l q1 (g2.tr q2))
set_option maxHeartbeats 2000000 in
theorem c_moveInB_o : ∀ (m k : Nat) (S : pm_T) (C : sp_C) (l : Value), k + m = Ca.2.1.length → cW2 S w a b Ca Cb C →
    (∀ S', cW2 S' w a b Ca Cb (sp_for (fun C x => sp_for (fun C y => sp_addA C (x * Cb.2.1.length + (sp_ar Cb y).1, x * Cb.2.1.length + (sp_ar Cb y).2.1, (sp_ar Cb y).2.2.1, none, some y)) Cb.2.2.1.length 0 C) m k C) → sp_fr (cB w) S S' → Q none S') →
    pm_V (d + 3) 38 11 [.ref w, .ref a, .ref b, .int (nI Cb.2.1.length), .int (nI k), l] [] S Q := by
  intro m
  induction m with
  | zero =>
    intro k S C l hk hW hQ
    obtain ⟨h1, h2, h3, h4, h5, h6, h7⟩ := id hW.2
    obtain ⟨-, b2, b3, b4, -, -, -⟩ := id hW.1
    obtain ⟨a1, a2, a3, a4, a5, a6, a7, a8, a9, a10, a11⟩ := id h2
    obtain ⟨c1, c2, c3, c4, c5, c6, c7, c8, c9, c10, c11⟩ := id b2
    have nb := (cC_n h3 h4)
    have mb := (cC_m h3 h4)
    have na := (cC_n b3 b4)
    have ma := (cC_m b3 b4)
    have e1 : ¬ nI k < nI Ca.2.1.length := nI_nlt (by omega) (by omega)
    rw [q38_11]
    simp only [q38_0, q38_0N, q38_1, q38_4, q38_7, q38_8, q38_9, q38_13, q38_13N, q38_14, q38_17, q38_20, q38_23, q38_24, q38_28, q38_28N, q38_29, q38_32, q38_35, q38_38, q38_39, q38_41, q38_42, q38_43, q38_43N, q38_44, q38_47, q38_49, q38_50, q38_51, q38_53, q38_54, q38_55, q38_55N, q38_56, q38_59, q38_61, q38_62, q38_63, q38_63N, q38_64, q38_67, q38_70, q38_72, q38_73, q38_74, q38_76, q38_79, q38_82, q38_85, q38_88, q38_91, q38_e, a1, a2, a3, a4, a5, c1, c2, c3, c4, c5, pm_rf_some, a9.1, a9.2.1, a10.1, a10.2.1, c9.1, c9.2.1, c10.1, c10.2.1, nb.1, mb.1, na.1, ma.1, e1, if_false]
    exact hQ S hW sp_fr.rf
  | succ m ih =>
    intro k S C l hk hW hQ
    obtain ⟨h1, h2, h3, h4, h5, h6, h7⟩ := id hW.2
    obtain ⟨-, b2, b3, b4, -, -, -⟩ := id hW.1
    obtain ⟨a1, a2, a3, a4, a5, a6, a7, a8, a9, a10, a11⟩ := id h2
    obtain ⟨c1, c2, c3, c4, c5, c6, c7, c8, c9, c10, c11⟩ := id b2
    have nb := (cC_n h3 h4)
    have mb := (cC_m h3 h4)
    have na := (cC_n b3 b4)
    have ma := (cC_m b3 b4)
    have e1 : nI k < nI Ca.2.1.length := nI_lt (by omega) (by omega)
    rw [q38_11]
    simp only [q38_0, q38_0N, q38_1, q38_4, q38_7, q38_8, q38_9, q38_13, q38_13N, q38_14, q38_17, q38_20, q38_23, q38_24, q38_28, q38_28N, q38_29, q38_32, q38_35, q38_38, q38_39, q38_41, q38_42, q38_43, q38_43N, q38_44, q38_47, q38_49, q38_50, q38_51, q38_53, q38_54, q38_55, q38_55N, q38_56, q38_59, q38_61, q38_62, q38_63, q38_63N, q38_64, q38_67, q38_70, q38_72, q38_73, q38_74, q38_76, q38_79, q38_82, q38_85, q38_88, q38_91, q38_e, a1, a2, a3, a4, a5, c1, c2, c3, c4, c5, pm_rf_some, a9.1, a9.2.1, a10.1, a10.2.1, c9.1, c9.2.1, c10.1, c10.2.1, nb.1, mb.1, na.1, ma.1, e1, if_true]
    exact c_moveInB_l (by omega) Cb.2.2.1.length 0 S C (by omega) hW (fun S' l' q1 q2 => ih (k + 1) S' _ l' (by omega) q1 (fun S'' q3 q4 => hQ S'' q3 (q2.tr q4)))
theorem c_moveInB (hW : cW2 S w a b Ca Cb C) (hQ : ∀ S', cW2 S' w a b Ca Cb (sp_movB Ca Cb C) → sp_fr (cB w) S S' → Q none S') : pm_N (d + 3) 38 [.ref w, .ref a, .ref b] S Q := by
  obtain ⟨h1, h2, h3, h4, h5, h6, h7⟩ := id hW.2
  obtain ⟨a1, a2, a3, a4, a5, a6, a7, a8, a9, a10, a11⟩ := id h2
  simp only [q38_0, q38_0N, q38_1, q38_4, q38_7, q38_8, q38_9, q38_13, q38_13N, q38_14, q38_17, q38_20, q38_23, q38_24, q38_28, q38_28N, q38_29, q38_32, q38_35, q38_38, q38_39, q38_41, q38_42, q38_43, q38_43N, q38_44, q38_47, q38_49, q38_50, q38_51, q38_53, q38_54, q38_55, q38_55N, q38_56, q38_59, q38_61, q38_62, q38_63, q38_63N, q38_64, q38_67, q38_70, q38_72, q38_73, q38_74, q38_76, q38_79, q38_82, q38_85, q38_88, q38_91, q38_e, a1, a2, pm_rf_some, a9.1, (cC_n h3 h4).1]
  exact c_moveInB_o Ca.2.1.length 0 S C _ (by omega) hW hQ
set_option maxHeartbeats 2000000 in
theorem c_moveInBoth_l {x : Nat} (hx : x < Ca.2.2.1.length) : ∀ (m k : Nat) (S : pm_T) (C : sp_C), k + m = Cb.2.2.1.length → cW2 S w a b Ca Cb C →
    (∀ S' l, cW2 S' w a b Ca Cb (sp_for (fun C y => sp_addA C ((sp_ar Ca x).1 * Cb.2.1.length + (sp_ar Cb y).1, (sp_ar Ca x).2.1 * Cb.2.1.length + (sp_ar Cb y).2.1, (sp_ar Ca x).2.2.1 * (sp_ar Cb y).2.2.1, some x, some y)) m k C) → sp_fr (cB w) S S' → pm_V (d + 3) 39 11 [.ref w, .ref a, .ref b, .int (nI Cb.2.1.length), .int (nI (x + 1)), l] [] S' Q) →
    pm_V (d + 3) 39 26 [.ref w, .ref a, .ref b, .int (nI Cb.2.1.length), .int (nI x), .int (nI k)] [] S Q := by
  intro m
  induction m with
  | zero =>
    intro k S C hk hW hQ
    obtain ⟨h1, h2, h3, h4, h5, h6, h7⟩ := id hW.2
    obtain ⟨-, b2, b3, b4, -, -, -⟩ := id hW.1
    obtain ⟨a1, a2, a3, a4, a5, a6, a7, a8, a9, a10, a11⟩ := id h2
    obtain ⟨c1, c2, c3, c4, c5, c6, c7, c8, c9, c10, c11⟩ := id b2
    have nb := (cC_n h3 h4)
    have mb := (cC_m h3 h4)
    have na := (cC_n b3 b4)
    have ma := (cC_m b3 b4)
    have e1 : ¬ nI k < nI Cb.2.2.1.length := nI_nlt (by omega) (by omega)
    rw [q39_26]
    simp only [q39_0, q39_0N, q39_1, q39_4, q39_7, q39_8, q39_9, q39_13, q39_13N, q39_14, q39_17, q39_20, q39_23, q39_24, q39_28, q39_28N, q39_29, q39_32, q39_35, q39_38, q39_39, q39_39N, q39_40, q39_43, q39_45, q39_46, q39_47, q39_48, q39_48N, q39_49, q39_52, q39_54, q39_55, q39_56, q39_56N, q39_57, q39_60, q39_62, q39_63, q39_64, q39_65, q39_65N, q39_66, q39_69, q39_71, q39_72, q39_73, q39_73N, q39_74, q39_77, q39_80, q39_82, q39_83, q39_83N, q39_84, q39_87, q39_90, q39_92, q39_93, q39_94, q39_96, q39_98, q39_101, q39_104, q39_107, q39_110, q39_113, q39_e, a1, a2, a3, a4, a5, c1, c2, c3, c4, c5, pm_rf_some, a9.1, a9.2.1, a10.1, a10.2.1, c9.1, c9.2.1, c10.1, c10.2.1, nb.1, mb.1, na.1, ma.1, e1, if_false, nI_1]
    exact hQ S _ hW sp_fr.rf
  | succ m ih =>
    intro k S C hk hW hQ
    obtain ⟨h1, h2, h3, h4, h5, h6, h7⟩ := id hW.2
    obtain ⟨-, b2, b3, b4, -, -, -⟩ := id hW.1
    obtain ⟨a1, a2, a3, a4, a5, a6, a7, a8, a9, a10, a11⟩ := id h2
    obtain ⟨c1, c2, c3, c4, c5, c6, c7, c8, c9, c10, c11⟩ := id b2
    have nb := (cC_n h3 h4)
    have mb := (cC_m h3 h4)
    have na := (cC_n b3 b4)
    have ma := (cC_m b3 b4)
    have e1 : nI k < nI Cb.2.2.1.length := nI_lt (by omega) (by omega)
    obtain ⟨kv, hkv, hks⟩ := h5.2.2.2.2.1
    have r1 := pm_ar_nI c7 (show x < 120 by omega) (by decide)
    have r2 := pm_ar_nI c8 (show x < 120 by omega) (by decide)
    have r3 := pm_ar_nI c10.2.2.2.2.1 (show x < 120 by omega) (by decide)
    have ra := cC_ae b3 b4 hx
    have s1 := pm_ar_nI a7 (show k < 120 by omega) (by decide)
    have s2 := pm_ar_nI a8 (show k < 120 by omega) (by decide)
    have s3 := pm_ar_nI a10.2.2.2.2.1 (show k < 120 by omega) (by decide)
    have rb := cC_ae h3 h4 (show k < Cb.2.2.1.length by omega)
    have e4 := nI_clamp (show k < 2 ^ 31 by omega)
    have e5 := nI_clamp (show x < 2 ^ 31 by omega)
    obtain ⟨g1, g2⟩ := cW2_arc (t := (sp_ar Ca x).1 * Cb.2.1.length + (sp_ar Cb k).1) (h := (sp_ar Ca x).2.1 * Cb.2.1.length + (sp_ar Cb k).2.1) (v := (sp_ar Ca x).2.2.1 * (sp_ar Cb k).2.2.1) (x := some x) (y := some k) hW hks hkv
    rw [q39_26]
    simp only [q39_0, q39_0N, q39_1, q39_4, q39_7, q39_8, q39_9, q39_13, q39_13N, q39_14, q39_17, q39_20, q39_23, q39_24, q39_28, q39_28N, q39_29, q39_32, q39_35, q39_38, q39_39, q39_39N, q39_40, q39_43, q39_45, q39_46, q39_47, q39_48, q39_48N, q39_49, q39_52, q39_54, q39_55, q39_56, q39_56N, q39_57, q39_60, q39_62, q39_63, q39_64, q39_65, q39_65N, q39_66, q39_69, q39_71, q39_72, q39_73, q39_73N, q39_74, q39_77, q39_80, q39_82, q39_83, q39_83N, q39_84, q39_87, q39_90, q39_92, q39_93, q39_94, q39_96, q39_98, q39_101, q39_104, q39_107, q39_110, q39_113, q39_e, a1, a2, a3, a4, a5, c1, c2, c3, c4, c5, pm_rf_some, a9.1, a9.2.1, a10.1, a10.2.1, c9.1, c9.2.1, c10.1, c10.2.1, nb.1, mb.1, na.1, ma.1, e1, if_true, r1, r2, r3, ra.1, ra.2.1, ra.2.2, s1, s2, s3, rb.1, rb.2.1, rb.2.2, e4, e5, sp_at, h1.1, c_addArc h1 hks hkv, pm_tl_none, nI_1]
    exact ih (k + 1) _ _ (by omega) g1 (fun S' l q1 q2 => hQ S' l q1 (g2.tr q2))
set_option maxHeartbeats 2000000 in
theorem c_moveInBoth_o : ∀ (m k : Nat) (S : pm_T) (C : sp_C) (l : Value), k + m = Ca.2.2.1.length → cW2 S w a b Ca Cb C →
    (∀ S', cW2 S' w a b Ca Cb (sp_for (fun C x => sp_for (fun C y => sp_addA C ((sp_ar Ca x).1 * Cb.2.1.length + (sp_ar Cb y).1, (sp_ar Ca x).2.1 * Cb.2.1.length + (sp_ar Cb y).2.1, (sp_ar Ca x).2.2.1 * (sp_ar Cb y).2.2.1, some x, some y)) Cb.2.2.1.length 0 C) m k C) → sp_fr (cB w) S S' → Q none S') →
    pm_V (d + 3) 39 11 [.ref w, .ref a, .ref b, .int (nI Cb.2.1.length), .int (nI k), l] [] S Q := by
  intro m
  induction m with
  | zero =>
    intro k S C l hk hW hQ
    obtain ⟨h1, h2, h3, h4, h5, h6, h7⟩ := id hW.2
    obtain ⟨-, b2, b3, b4, -, -, -⟩ := id hW.1
    obtain ⟨a1, a2, a3, a4, a5, a6, a7, a8, a9, a10, a11⟩ := id h2
    obtain ⟨c1, c2, c3, c4, c5, c6, c7, c8, c9, c10, c11⟩ := id b2
    have nb := (cC_n h3 h4)
    have mb := (cC_m h3 h4)
    have na := (cC_n b3 b4)
    have ma := (cC_m b3 b4)
    have e1 : ¬ nI k < nI Ca.2.2.1.length := nI_nlt (by omega) (by omega)
    rw [q39_11]
    simp only [q39_0, q39_0N, q39_1, q39_4, q39_7, q39_8, q39_9, q39_13, q39_13N, q39_14, q39_17, q39_20, q39_23, q39_24, q39_28, q39_28N, q39_29, q39_32, q39_35, q39_38, q39_39, q39_39N, q39_40, q39_43, q39_45, q39_46, q39_47, q39_48, q39_48N, q39_49, q39_52, q39_54, q39_55, q39_56, q39_56N, q39_57, q39_60, q39_62, q39_63, q39_64, q39_65, q39_65N, q39_66, q39_69, q39_71, q39_72, q39_73, q39_73N, q39_74, q39_77, q39_80, q39_82, q39_83, q39_83N, q39_84, q39_87, q39_90, q39_92, q39_93, q39_94, q39_96, q39_98, q39_101, q39_104, q39_107, q39_110, q39_113, q39_e, a1, a2, a3, a4, a5, c1, c2, c3, c4, c5, pm_rf_some, a9.1, a9.2.1, a10.1, a10.2.1, c9.1, c9.2.1, c10.1, c10.2.1, nb.1, mb.1, na.1, ma.1, e1, if_false]
    exact hQ S hW sp_fr.rf
  | succ m ih =>
    intro k S C l hk hW hQ
    obtain ⟨h1, h2, h3, h4, h5, h6, h7⟩ := id hW.2
    obtain ⟨-, b2, b3, b4, -, -, -⟩ := id hW.1
    obtain ⟨a1, a2, a3, a4, a5, a6, a7, a8, a9, a10, a11⟩ := id h2
    obtain ⟨c1, c2, c3, c4, c5, c6, c7, c8, c9, c10, c11⟩ := id b2
    have nb := (cC_n h3 h4)
    have mb := (cC_m h3 h4)
    have na := (cC_n b3 b4)
    have ma := (cC_m b3 b4)
    have e1 : nI k < nI Ca.2.2.1.length := nI_lt (by omega) (by omega)
    rw [q39_11]
    simp only [q39_0, q39_0N, q39_1, q39_4, q39_7, q39_8, q39_9, q39_13, q39_13N, q39_14, q39_17, q39_20, q39_23, q39_24, q39_28, q39_28N, q39_29, q39_32, q39_35, q39_38, q39_39, q39_39N, q39_40, q39_43, q39_45, q39_46, q39_47, q39_48, q39_48N, q39_49, q39_52, q39_54, q39_55, q39_56, q39_56N, q39_57, q39_60, q39_62, q39_63, q39_64, q39_65, q39_65N, q39_66, q39_69, q39_71, q39_72, q39_73, q39_73N, q39_74, q39_77, q39_80, q39_82, q39_83, q39_83N, q39_84, q39_87, q39_90, q39_92, q39_93, q39_94, q39_96, q39_98, q39_101, q39_104, q39_107, q39_110, q39_113, q39_e, a1, a2, a3, a4, a5, c1, c2, c3, c4, c5, pm_rf_some, a9.1, a9.2.1, a10.1, a10.2.1, c9.1, c9.2.1, c10.1, c10.2.1, nb.1, mb.1, na.1, ma.1, e1, if_true]
    exact c_moveInBoth_l (by omega) Cb.2.2.1.length 0 S C (by omega) hW (fun S' l' q1 q2 => ih (k + 1) S' _ l' (by omega) q1 (fun S'' q3 q4 => hQ S'' q3 (q2.tr q4)))
theorem c_moveInBoth (hW : cW2 S w a b Ca Cb C) (hQ : ∀ S', cW2 S' w a b Ca Cb (sp_movAB Ca Cb C) → sp_fr (cB w) S S' → Q none S') : pm_N (d + 3) 39 [.ref w, .ref a, .ref b] S Q := by
  obtain ⟨h1, h2, h3, h4, h5, h6, h7⟩ := id hW.2
  obtain ⟨a1, a2, a3, a4, a5, a6, a7, a8, a9, a10, a11⟩ := id h2
  simp only [q39_0, q39_0N, q39_1, q39_4, q39_7, q39_8, q39_9, q39_13, q39_13N, q39_14, q39_17, q39_20, q39_23, q39_24, q39_28, q39_28N, q39_29, q39_32, q39_35, q39_38, q39_39, q39_39N, q39_40, q39_43, q39_45, q39_46, q39_47, q39_48, q39_48N, q39_49, q39_52, q39_54, q39_55, q39_56, q39_56N, q39_57, q39_60, q39_62, q39_63, q39_64, q39_65, q39_65N, q39_66, q39_69, q39_71, q39_72, q39_73, q39_73N, q39_74, q39_77, q39_80, q39_82, q39_83, q39_83N, q39_84, q39_87, q39_90, q39_92, q39_93, q39_94, q39_96, q39_98, q39_101, q39_104, q39_107, q39_110, q39_113, q39_e, a1, a2, pm_rf_some, a9.1, (cC_n h3 h4).1]
  exact c_moveInBoth_o Ca.2.2.1.length 0 S C _ (by omega) hW hQ
end
