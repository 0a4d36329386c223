/-! ===== THE REFERENCE: turned, joined, less, product, lines ===== -/
def mW (S0 S : pm_T) (m g : Nat) (C : sp_C) : Prop := sM S m ∧ mQ S m g C ∧ frI (mP m g) S0 S
section
variable {S0 S S' : pm_T} {m a b g n k d j e t u : Nat} {C Ca Cb : sp_C} {Q : Option Value → pm_T → Prop} {v : Int64} {x y : Option Nat}
theorem mW_R (hW : mW S0 S m g C) (hR : mR S0 m a Ca) (hne : a ≠ g) : mR S m a Ca := mR_fr hR hW.2.2 (mB_ne hne)
theorem mW_node (hW : mW S0 S m g C) : mW S0 (fM_node S m g C.2.1.length v (sp_eM x) (sp_eM y)) m g (sp_addN C (v, x, y)) := by
  obtain ⟨q1, q2⟩ := mQ_node (v := v) (x := x) (y := y) hW.2.1
  exact ⟨sM_frI hW.1 q2, q1, hW.2.2.tr (q2.mono (fun b k h => Or.inl h))⟩
theorem mW_arc (hW : mW S0 S m g C) : mW S0 (fM_arc S m g C.2.2.1.length (nI t) (nI u) v (sp_eM x) (sp_eM y)) m g (sp_addA C (t, u, v, x, y)) := by
  obtain ⟨q1, q2⟩ := mQ_arc (t := t) (u := u) (v := v) (x := x) (y := y) hW.2.1
  exact ⟨sM_frI hW.1 q2, q1, hW.2.2.tr (q2.mono (fun b k h => Or.inl h))⟩
theorem m_addNodeW {x y : Int32} (hW : mW S0 S m g C) (hg : g < 24) : pm_N (d + 1) 102 [.ref m, .int (nI g), .long v, .int x, .int y] S Q = Q none (fM_node S m g C.2.1.length v x y) := m_addNode hW.1 hg hW.2.1.2.2.1.1 hW.2.1.2.2.1.2.1
theorem m_addArcW {t u x y : Int32} (hW : mW S0 S m g C) (hg : g < 24) : pm_N (d + 1) 103 [.ref m, .int (nI g), .int t, .int u, .long v, .int x, .int y] S Q = Q none (fM_arc S m g C.2.2.1.length t u v x y) := m_addArc hW.1 hg hW.2.1.2.2.1.2.2.1 hW.2.1.2.2.1.2.2.2.1
set_option maxHeartbeats 1000000 in
theorem m_sameNodes (hg : g < 24) (ha : a < 24) (hne : a ≠ g) (hR0 : mR S0 m a Ca) (hW : mW S0 S m g C) (hQ : ∀ S', mW S0 S' m g (sp_copyN Ca C) → Q none S') : pm_N (d + 2) 111 [.ref m, .int (nI g), .int (nI a)] S Q := by
  simp only [q111_0, q111_1, q111_3, q111_4, q111_7, q111_8, q111_9, q111_12, q111_13, q111_14, q111_15, q111_16, q111_17, q111_20, q111_21, q111_23, q111_26, q111_29, q111_32, q111_e]
  refine lp (n := Ca.2.1.length) (Inv := fun k S => mW S0 S m g (sp_for (fun C i => sp_addN C ((sp_nd Ca i).1, some i, none)) k 0 C)) (head := fun k S => pm_V (d + 2) 111 2 [.ref m, .int (nI g), .int (nI a), .int (nI k)] [] S Q) ?_ ?_ S hW
  · intro k S hk hW hN
    have hM := hW.1
    have hR := mW_R hW hR0 hne
    have e1 : nI k < nI Ca.2.1.length := nI_lt hk (by have := hR.2.1; omega)
    rw [q111_2]
    simp only [q111_0, q111_1, q111_3, q111_4, q111_7, q111_8, q111_9, q111_12, q111_13, q111_14, q111_15, q111_16, q111_17, q111_20, q111_21, q111_23, q111_26, q111_29, q111_32, q111_e, sM_0 hM, sM_r8 hM, pm_rf_some, ar8 hM ha, nc24 ha, hR.1, e1, if_true, mr_node hM hR ha hk, pm_tl_some, m_addNodeW hW hg, pm_tl_none, nI_1]
    exact hN _ (by rw [sp_for_n]; exact mW_node (x := some k) (y := none) hW)
  · intro S hW
    have hM := hW.1
    have hR := mW_R hW hR0 hne
    have e1 : ¬ nI Ca.2.1.length < nI Ca.2.1.length := nI_nlt (Nat.le_refl _) (by have := hR.2.1; omega)
    rw [q111_2]
    simp only [q111_0, q111_1, q111_3, q111_4, q111_7, q111_8, q111_9, q111_12, q111_13, q111_14, q111_15, q111_16, q111_17, q111_20, q111_21, q111_23, q111_26, q111_29, q111_32, q111_e, sM_0 hM, sM_r8 hM, pm_rf_some, ar8 hM ha, nc24 ha, hR.1, e1, if_false]
    exact hQ S hW
set_option maxHeartbeats 1000000 in
theorem m_turned (hg : g < 24) (ha : a < 24) (hne : a ≠ g) (hR0 : mR S0 m a Ca) (hW : mW S0 S m g C) (hQ : ∀ S', mW S0 S' m g (sp_turn Ca C) → Q none S') : pm_N (d + 3) 112 [.ref m, .int (nI g), .int (nI a)] S Q := by
  simp only [q112_0, q112_1, q112_2, q112_3, q112_6, q112_7, q112_9, q112_10, q112_13, q112_14, q112_15, q112_18, q112_19, q112_20, q112_21, q112_22, q112_23, q112_26, q112_27, q112_28, q112_29, q112_32, q112_33, q112_34, q112_35, q112_38, q112_39, q112_41, q112_44, q112_47, q112_50, q112_e, sM_0 hW.1]
  refine m_sameNodes hg ha hne hR0 hW fun S1 hW1 => ?_
  simp only [pm_tl_none, q112_0, q112_1, q112_2, q112_3, q112_6, q112_7, q112_9, q112_10, q112_13, q112_14, q112_15, q112_18, q112_19, q112_20, q112_21, q112_22, q112_23, q112_26, q112_27, q112_28, q112_29, q112_32, q112_33, q112_34, q112_35, q112_38, q112_39, q112_41, q112_44, q112_47, q112_50, q112_e]
  refine lp (n := Ca.2.2.1.length) (Inv := fun k S => mW S0 S m g (sp_for (fun C e => sp_addA C ((sp_ar Ca e).2.1, (sp_ar Ca e).1, (sp_ar Ca e).2.2.1, some e, none)) k 0 (sp_copyN Ca C))) (head := fun k S => pm_V (d + 3) 112 8 [.ref m, .int (nI g), .int (nI a), .int (nI k)] [] S Q) ?_ ?_ S1 hW1
  · intro k S hk hW hN
    have hM := hW.1
    have hR := mW_R hW hR0 hne
    have e1 : nI k < nI Ca.2.2.1.length := nI_lt hk (by have := hR.2.2.2.1; omega)
    rw [q112_8]
    simp only [q112_0, q112_1, q112_2, q112_3, q112_6, q112_7, q112_9, q112_10, q112_13, q112_14, q112_15, q112_18, q112_19, q112_20, q112_21, q112_22, q112_23, q112_26, q112_27, q112_28, q112_29, q112_32, q112_33, q112_34, q112_35, q112_38, q112_39, q112_41, q112_44, q112_47, q112_50, q112_e, sM_0 hM, sM_r9 hM, pm_rf_some, ar9 hM ha, nc24 ha, hR.2.2.1, e1, if_true, mr_to hM hR ha hk, mr_from hM hR ha hk, mr_arc hM hR ha hk, pm_tl_some, m_addArcW hW hg, pm_tl_none, nI_1]
    exact hN _ (by rw [sp_for_n]; exact mW_arc (x := some k) (y := none) hW)
  · intro S hW
    have hM := hW.1
    have hR := mW_R hW hR0 hne
    have e1 : ¬ nI Ca.2.2.1.length < nI Ca.2.2.1.length := nI_nlt (Nat.le_refl _) (by have := hR.2.2.2.1; omega)
    rw [q112_8]
    simp only [q112_0, q112_1, q112_2, q112_3, q112_6, q112_7, q112_9, q112_10, q112_13, q112_14, q112_15, q112_18, q112_19, q112_20, q112_21, q112_22, q112_23, q112_26, q112_27, q112_28, q112_29, q112_32, q112_33, q112_34, q112_35, q112_38, q112_39, q112_41, q112_44, q112_47, q112_50, q112_e, sM_0 hM, sM_r9 hM, pm_rf_some, ar9 hM ha, nc24 ha, hR.2.2.1, e1, if_false]
    exact hQ S hW
theorem m_hasArc_l (hM : sM S m) (ha : a < 24) (hR : mR S m a Ca) (ho : sp_ok Ca) (ht : t < 2 ^ 31) (hu : u < 2 ^ 31) : ∀ n k, k + n = Ca.2.2.1.length → pm_V (d + 1) 108 6 [.ref m, .int (nI a), .int (nI t), .int (nI u), .int (if sp_has Ca t u k = true then 1 else 0), .int (nI k)] [] S Q = Q (some (.int (if sp_has Ca t u Ca.2.2.1.length = true then 1 else 0))) S := by
  have l1 := hR.2.1
  have l2 := hR.2.2.2.1
  intro n
  induction n with
  | zero =>
    intro k hk
    have : k = Ca.2.2.1.length := by omega
    subst this
    have e1 : ¬ nI Ca.2.2.1.length < nI Ca.2.2.1.length := nI_nlt (Nat.le_refl _) (by omega)
    rw [q108_6]
    simp only [q108_0, q108_1, q108_3, q108_4, q108_8, q108_9, q108_12, q108_13, q108_14, q108_17, q108_19, q108_22, q108_23, q108_24, q108_26, q108_29, q108_30, q108_33, q108_34, q108_35, q108_37, q108_40, q108_41, q108_44, q108_45, q108_48, q108_49, q108_51, q108_54, q108_57, q108_59, q108_e, sM_0 hM, sM_r9 hM, pm_rf_some, ar9 hM ha, nc24 ha, hR.2.2.1, e1, if_false, pm_b01]
  | succ n ih =>
    intro k hk
    have hk2 : k < Ca.2.2.1.length := by omega
    have e1 : nI k < nI Ca.2.2.1.length := nI_lt hk2 (by omega)
    have o := ho k hk2
    have z1 : (nI (sp_ar Ca k).1 = nI t) = ((sp_ar Ca k).1 = t) := nI_e' (by omega) ht
    have z2 : (nI (sp_ar Ca k).2.1 = nI u) = ((sp_ar Ca k).2.1 = u) := nI_e' (by omega) hu
    have := ih (k + 1) (by omega)
    rw [sp_has_s] at this
    rw [q108_6]
    simp only [q108_0, q108_1, q108_3, q108_4, q108_8, q108_9, q108_12, q108_13, q108_14, q108_17, q108_19, q108_22, q108_23, q108_24, q108_26, q108_29, q108_30, q108_33, q108_34, q108_35, q108_37, q108_40, q108_41, q108_44, q108_45, q108_48, q108_49, q108_51, q108_54, q108_57, q108_59, q108_e, sM_0 hM, sM_r9 hM, pm_rf_some, ar9 hM ha, nc24 ha, hR.2.2.1, e1, if_true, pm_z1, mr_from hM hR ha hk2, mr_to hM hR ha hk2, pm_tl_some, z1, z2, nI_1]
    by_cases h1 : sp_has Ca t u k = true
    · rw [if_neg (fun h => h h1)]
      rw [h1] at this
      simpa using this
    · rw [if_pos h1]
      have h1' : sp_has Ca t u k = false := by simpa using h1
      rw [h1', Bool.false_or] at this
      by_cases h2 : (sp_ar Ca k).1 = t
      · rw [if_pos h2]
        by_cases h3 : (sp_ar Ca k).2.1 = u
        · rw [if_pos h3]
          simpa [h2, h3] using this
        · rw [if_neg h3]
          simpa [h2, h3] using this
      · rw [if_neg h2]
        simpa [h2] using this
theorem m_hasArc (hM : sM S m) (ha : a < 24) (hR : mR S m a Ca) (ho : sp_ok Ca) (ht : t < 2 ^ 31) (hu : u < 2 ^ 31) : pm_N (d + 1) 108 [.ref m, .int (nI a), .int (nI t), .int (nI u)] S Q = Q (some (.int (if sp_has Ca t u Ca.2.2.1.length = true then 1 else 0))) S := by
  simp only [q108_0, q108_1, q108_3, q108_4, q108_8, q108_9, q108_12, q108_13, q108_14, q108_17, q108_19, q108_22, q108_23, q108_24, q108_26, q108_29, q108_30, q108_33, q108_34, q108_35, q108_37, q108_40, q108_41, q108_44, q108_45, q108_48, q108_49, q108_51, q108_54, q108_57, q108_59, q108_e]
  exact m_hasArc_l hM ha hR ho ht hu Ca.2.2.1.length 0 (Nat.zero_add _)
set_option maxHeartbeats 1000000 in
theorem m_less (hg : g < 24) (ha : a < 24) (hb : b < 24) (hne : a ≠ g) (hnb : b ≠ g) (hR0 : mR S0 m a Ca) (hB0 : mR S0 m b Cb) (oa : sp_ok Ca) (ob : sp_ok Cb) (hW : mW S0 S m g C) (hQ : ∀ S', mW S0 S' m g (sp_less Ca Cb (sp_copyN Ca C) Ca.2.2.1.length) → Q none S') : pm_N (d + 3) 114 [.ref m, .int (nI g), .int (nI a), .int (nI b)] S Q := by
  simp only [q114_0, q114_1, q114_2, q114_3, q114_6, q114_7, q114_11, q114_12, q114_15, q114_16, q114_17, q114_20, q114_21, q114_22, q114_23, q114_24, q114_26, q114_29, q114_30, q114_31, q114_33, q114_36, q114_39, q114_42, q114_43, q114_44, q114_45, q114_46, q114_48, q114_51, q114_52, q114_53, q114_55, q114_58, q114_59, q114_60, q114_62, q114_65, q114_67, q114_69, q114_72, q114_75, q114_78, q114_e, sM_0 hW.1]
  refine m_sameNodes hg ha hne hR0 hW fun S1 hW1 => ?_
  simp only [pm_tl_none, q114_0, q114_1, q114_2, q114_3, q114_6, q114_7, q114_11, q114_12, q114_15, q114_16, q114_17, q114_20, q114_21, q114_22, q114_23, q114_24, q114_26, q114_29, q114_30, q114_31, q114_33, q114_36, q114_39, q114_42, q114_43, q114_44, q114_45, q114_46, q114_48, q114_51, q114_52, q114_53, q114_55, q114_58, q114_59, q114_60, q114_62, q114_65, q114_67, q114_69, q114_72, q114_75, q114_78, q114_e]
  refine lp (n := Ca.2.2.1.length) (Inv := fun k S => mW S0 S m g (sp_less Ca Cb (sp_copyN Ca C) k)) (head := fun k S => pm_V (d + 3) 114 9 [.ref m, .int (nI g), .int (nI a), .int (nI b), .int (nI k)] [] S Q) ?_ ?_ S1 hW1
  · intro k S hk hW hN
    have hM := hW.1
    have hR := mW_R hW hR0 hne
    have hB := mW_R hW hB0 hnb
    have l2 := hR.2.1
    have o := oa k hk
    have e1 : nI k < nI Ca.2.2.1.length := nI_lt hk (by have := hR.2.2.2.1; omega)
    rw [q114_9]
    simp only [q114_0, q114_1, q114_2, q114_3, q114_6, q114_7, q114_11, q114_12, q114_15, q114_16, q114_17, q114_20, q114_21, q114_22, q114_23, q114_24, q114_26, q114_29, q114_30, q114_31, q114_33, q114_36, q114_39, q114_42, q114_43, q114_44, q114_45, q114_46, q114_48, q114_51, q114_52, q114_53, q114_55, q114_58, q114_59, q114_60, q114_62, q114_65, q114_67, q114_69, q114_72, q114_75, q114_78, q114_e, sM_0 hM, sM_r9 hM, pm_rf_some, ar9 hM ha, nc24 ha, hR.2.2.1, e1, if_true, mr_to hM hR ha hk, mr_from hM hR ha hk, mr_arc hM hR ha hk, pm_tl_some, m_hasArc hM hb hB ob (show (sp_ar Ca k).1 < 2 ^ 31 by omega) (show (sp_ar Ca k).2.1 < 2 ^ 31 by omega), pm_z1, m_addArcW hW hg, pm_tl_none, nI_1]
    by_cases hc : sp_has Cb (sp_ar Ca k).1 (sp_ar Ca k).2.1 Cb.2.2.1.length = true
    · rw [if_neg (fun h => h hc)]
      exact hN _ (by rw [sp_less_s, if_pos hc]; exact hW)
    · rw [if_pos hc]
      exact hN _ (by rw [sp_less_s, if_neg hc]; exact mW_arc (x := some k) (y := none) hW)
  · intro S hW
    have hM := hW.1
    have hR := mW_R hW hR0 hne
    have e1 : ¬ nI Ca.2.2.1.length < nI Ca.2.2.1.length := nI_nlt (Nat.le_refl _) (by have := hR.2.2.2.1; omega)
    rw [q114_9]
    simp only [q114_0, q114_1, q114_2, q114_3, q114_6, q114_7, q114_11, q114_12, q114_15, q114_16, q114_17, q114_20, q114_21, q114_22, q114_23, q114_24, q114_26, q114_29, q114_30, q114_31, q114_33, q114_36, q114_39, q114_42, q114_43, q114_44, q114_45, q114_46, q114_48, q114_51, q114_52, q114_53, q114_55, q114_58, q114_59, q114_60, q114_62, q114_65, q114_67, q114_69, q114_72, q114_75, q114_78, q114_e, sM_0 hM, sM_r9 hM, pm_rf_some, ar9 hM ha, nc24 ha, hR.2.2.1, e1, if_false]
    exact hQ S hW
set_option maxHeartbeats 2000000 in
theorem m_joined (hg : g < 24) (ha : a < 24) (hb : b < 24) (hne : a ≠ g) (hnb : b ≠ g) (hR0 : mR S0 m a Ca) (hB0 : mR S0 m b Cb) (oa : sp_ok Ca) (ob : sp_ok Cb) (hW : mW S0 S m g C) (hQ : ∀ S', mW S0 S' m g (sp_join Ca Cb C) → Q none S') : pm_N (d + 3) 113 [.ref m, .int (nI g), .int (nI a), .int (nI b)] S Q := by
  simp only [q113_0, q113_1, q113_5, q113_6, q113_9, q113_10, q113_11, q113_14, q113_16, q113_17, q113_20, q113_21, q113_22, q113_25, q113_27, q113_28, q113_31, q113_32, q113_33, q113_36, q113_37, q113_40, q113_41, q113_43, q113_44, q113_45, q113_47, q113_50, q113_51, q113_52, q113_54, q113_57, q113_60, q113_61, q113_62, q113_64, q113_67, q113_69, q113_72, q113_74, q113_77, q113_79, q113_81, q113_82, q113_85, q113_86, q113_87, q113_90, q113_92, q113_95, q113_97, q113_100, q113_103, q113_106, q113_107, q113_111, q113_112, q113_115, q113_116, q113_117, q113_120, q113_121, q113_122, q113_123, q113_124, q113_126, q113_129, q113_130, q113_131, q113_133, q113_136, q113_137, q113_138, q113_140, q113_143, q113_145, q113_147, q113_150, q113_153, q113_156, q113_157, q113_161, q113_162, q113_165, q113_166, q113_167, q113_170, q113_171, q113_172, q113_173, q113_174, q113_176, q113_179, q113_180, q113_181, q113_183, q113_186, q113_189, q113_192, q113_193, q113_194, q113_195, q113_196, q113_198, q113_201, q113_202, q113_203, q113_205, q113_208, q113_209, q113_210, q113_212, q113_215, q113_217, q113_219, q113_222, q113_225, q113_228, q113_e]
  have L3 : ∀ S l5, mW S0 S m g (sp_join2 Ca (sp_join1 Ca Cb C (max Ca.2.1.length Cb.2.1.length)) Ca.2.2.1.length) → pm_V (d + 3) 113 159 [.ref m, .int (nI g), .int (nI a), .int (nI b), .int (nI 0), l5] [] S Q := by
    intro S l5 hW
    refine lp (n := Cb.2.2.1.length) (Inv := fun k S => mW S0 S m g (sp_join3 Ca Cb (sp_join2 Ca (sp_join1 Ca Cb C (max Ca.2.1.length Cb.2.1.length)) Ca.2.2.1.length) k)) (head := fun k S => pm_V (d + 3) 113 159 [.ref m, .int (nI g), .int (nI a), .int (nI b), .int (nI k), l5] [] S Q) ?_ ?_ S hW
    · intro k S hk hW hN
      have hM := hW.1
      have hR := mW_R hW hR0 hne
      have hB := mW_R hW hB0 hnb
      have l2 := hB.2.1
      have o := ob k hk
      have e1 : nI k < nI Cb.2.2.1.length := nI_lt hk (by have := hB.2.2.2.1; omega)
      rw [q113_159]
      simp only [q113_0, q113_1, q113_5, q113_6, q113_9, q113_10, q113_11, q113_14, q113_16, q113_17, q113_20, q113_21, q113_22, q113_25, q113_27, q113_28, q113_31, q113_32, q113_33, q113_36, q113_37, q113_40, q113_41, q113_43, q113_44, q113_45, q113_47, q113_50, q113_51, q113_52, q113_54, q113_57, q113_60, q113_61, q113_62, q113_64, q113_67, q113_69, q113_72, q113_74, q113_77, q113_79, q113_81, q113_82, q113_85, q113_86, q113_87, q113_90, q113_92, q113_95, q113_97, q113_100, q113_103, q113_106, q113_107, q113_111, q113_112, q113_115, q113_116, q113_117, q113_120, q113_121, q113_122, q113_123, q113_124, q113_126, q113_129, q113_130, q113_131, q113_133, q113_136, q113_137, q113_138, q113_140, q113_143, q113_145, q113_147, q113_150, q113_153, q113_156, q113_157, q113_161, q113_162, q113_165, q113_166, q113_167, q113_170, q113_171, q113_172, q113_173, q113_174, q113_176, q113_179, q113_180, q113_181, q113_183, q113_186, q113_189, q113_192, q113_193, q113_194, q113_195, q113_196, q113_198, q113_201, q113_202, q113_203, q113_205, q113_208, q113_209, q113_210, q113_212, q113_215, q113_217, q113_219, q113_222, q113_225, q113_228, q113_e, sM_0 hM, sM_r9 hM, pm_rf_some, ar9 hM hb, nc24 hb, hB.2.2.1, e1, if_true, mr_to hM hB hb hk, mr_from hM hB hb hk, mr_arc hM hB hb hk, pm_tl_some, m_hasArc hM ha hR oa (show (sp_ar Cb k).1 < 2 ^ 31 by omega) (show (sp_ar Cb k).2.1 < 2 ^ 31 by omega), pm_z1, m_addArcW hW hg, pm_tl_none, nI_1]
      by_cases hc : sp_has Ca (sp_ar Cb k).1 (sp_ar Cb k).2.1 Ca.2.2.1.length = true
      · rw [if_neg (fun h => h hc)]
        exact hN _ (by rw [sp_join3_s, if_pos hc]; exact hW)
      · rw [if_pos hc]
        exact hN _ (by rw [sp_join3_s, if_neg hc]; exact mW_arc (x := none) (y := some k) hW)
    · intro S hW
      have hM := hW.1
      have hB := mW_R hW hB0 hnb
      have e1 : ¬ nI Cb.2.2.1.length < nI Cb.2.2.1.length := nI_nlt (Nat.le_refl _) (by have := hB.2.2.2.1; omega)
      rw [q113_159]
      simp only [q113_0, q113_1, q113_5, q113_6, q113_9, q113_10, q113_11, q113_14, q113_16, q113_17, q113_20, q113_21, q113_22, q113_25, q113_27, q113_28, q113_31, q113_32, q113_33, q113_36, q113_37, q113_40, q113_41, q113_43, q113_44, q113_45, q113_47, q113_50, q113_51, q113_52, q113_54, q113_57, q113_60, q113_61, q113_62, q113_64, q113_67, q113_69, q113_72, q113_74, q113_77, q113_79, q113_81, q113_82, q113_85, q113_86, q113_87, q113_90, q113_92, q113_95, q113_97, q113_100, q113_103, q113_106, q113_107, q113_111, q113_112, q113_115, q113_116, q113_117, q113_120, q113_121, q113_122, q113_123, q113_124, q113_126, q113_129, q113_130, q113_131, q113_133, q113_136, q113_137, q113_138, q113_140, q113_143, q113_145, q113_147, q113_150, q113_153, q113_156, q113_157, q113_161, q113_162, q113_165, q113_166, q113_167, q113_170, q113_171, q113_172, q113_173, q113_174, q113_176, q113_179, q113_180, q113_181, q113_183, q113_186, q113_189, q113_192, q113_193, q113_194, q113_195, q113_196, q113_198, q113_201, q113_202, q113_203, q113_205, q113_208, q113_209, q113_210, q113_212, q113_215, q113_217, q113_219, q113_222, q113_225, q113_228, q113_e, sM_0 hM, sM_r9 hM, pm_rf_some, ar9 hM hb, nc24 hb, hB.2.2.1, e1, if_false]
      exact hQ S hW
  have L2 : ∀ S l5, mW S0 S m g (sp_join1 Ca Cb C (max Ca.2.1.length Cb.2.1.length)) → pm_V (d + 3) 113 109 [.ref m, .int (nI g), .int (nI a), .int (nI b), .int (nI 0), l5] [] S Q := by
    intro S l5 hW
    refine lp (n := Ca.2.2.1.length) (Inv := fun k S => mW S0 S m g (sp_join2 Ca (sp_join1 Ca Cb C (max Ca.2.1.length Cb.2.1.length)) k)) (head := fun k S => pm_V (d + 3) 113 109 [.ref m, .int (nI g), .int (nI a), .int (nI b), .int (nI k), l5] [] S Q) ?_ ?_ S hW
    · intro k S hk hW hN
      have hM := hW.1
      have hR := mW_R hW hR0 hne
      have e1 : nI k < nI Ca.2.2.1.length := nI_lt hk (by have := hR.2.2.2.1; omega)
      rw [q113_109]
      simp only [q113_0, q113_1, q113_5, q113_6, q113_9, q113_10, q113_11, q113_14, q113_16, q113_17, q113_20, q113_21, q113_22, q113_25, q113_27, q113_28, q113_31, q113_32, q113_33, q113_36, q113_37, q113_40, q113_41, q113_43, q113_44, q113_45, q113_47, q113_50, q113_51, q113_52, q113_54, q113_57, q113_60, q113_61, q113_62, q113_64, q113_67, q113_69, q113_72, q113_74, q113_77, q113_79, q113_81, q113_82, q113_85, q113_86, q113_87, q113_90, q113_92, q113_95, q113_97, q113_100, q113_103, q113_106, q113_107, q113_111, q113_112, q113_115, q113_116, q113_117, q113_120, q113_121, q113_122, q113_123, q113_124, q113_126, q113_129, q113_130, q113_131, q113_133, q113_136, q113_137, q113_138, q113_140, q113_143, q113_145, q113_147, q113_150, q113_153, q113_156, q113_157, q113_161, q113_162, q113_165, q113_166, q113_167, q113_170, q113_171, q113_172, q113_173, q113_174, q113_176, q113_179, q113_180, q113_181, q113_183, q113_186, q113_189, q113_192, q113_193, q113_194, q113_195, q113_196, q113_198, q113_201, q113_202, q113_203, q113_205, q113_208, q113_209, q113_210, q113_212, q113_215, q113_217, q113_219, q113_222, q113_225, q113_228, q113_e, sM_0 hM, sM_r9 hM, pm_rf_some, ar9 hM ha, nc24 ha, hR.2.2.1, e1, if_true, mr_to hM hR ha hk, mr_from hM hR ha hk, mr_arc hM hR ha hk, pm_tl_some, m_addArcW hW hg, pm_tl_none, nI_1]
      exact hN _ (by rw [sp_join2_s]; exact mW_arc (x := some k) (y := none) hW)
    · intro S hW
      have hM := hW.1
      have hR := mW_R hW hR0 hne
      have e1 : ¬ nI Ca.2.2.1.length < nI Ca.2.2.1.length := nI_nlt (Nat.le_refl _) (by have := hR.2.2.2.1; omega)
      rw [q113_109]
      simp only [q113_0, q113_1, q113_5, q113_6, q113_9, q113_10, q113_11, q113_14, q113_16, q113_17, q113_20, q113_21, q113_22, q113_25, q113_27, q113_28, q113_31, q113_32, q113_33, q113_36, q113_37, q113_40, q113_41, q113_43, q113_44, q113_45, q113_47, q113_50, q113_51, q113_52, q113_54, q113_57, q113_60, q113_61, q113_62, q113_64, q113_67, q113_69, q113_72, q113_74, q113_77, q113_79, q113_81, q113_82, q113_85, q113_86, q113_87, q113_90, q113_92, q113_95, q113_97, q113_100, q113_103, q113_106, q113_107, q113_111, q113_112, q113_115, q113_116, q113_117, q113_120, q113_121, q113_122, q113_123, q113_124, q113_126, q113_129, q113_130, q113_131, q113_133, q113_136, q113_137, q113_138, q113_140, q113_143, q113_145, q113_147, q113_150, q113_153, q113_156, q113_157, q113_161, q113_162, q113_165, q113_166, q113_167, q113_170, q113_171, q113_172, q113_173, q113_174, q113_176, q113_179, q113_180, q113_181, q113_183, q113_186, q113_189, q113_192, q113_193, q113_194, q113_195, q113_196, q113_198, q113_201, q113_202, q113_203, q113_205, q113_208, q113_209, q113_210, q113_212, q113_215, q113_217, q113_219, q113_222, q113_225, q113_228, q113_e, sM_0 hM, sM_r9 hM, pm_rf_some, ar9 hM ha, nc24 ha, hR.2.2.1, e1, if_false]
      exact L3 S _ hW
  have key : ∀ l5, pm_V (d + 3) 113 3 [.ref m, .int (nI g), .int (nI a), .int (nI b), .int (nI 0), l5] [] S Q := by
    refine lp (n := max Ca.2.1.length Cb.2.1.length) (Inv := fun k S => mW S0 S m g (sp_join1 Ca Cb C k)) (head := fun k S => ∀ l5, pm_V (d + 3) 113 3 [.ref m, .int (nI g), .int (nI a), .int (nI b), .int (nI k), l5] [] S Q) ?_ ?_ S hW
    · intro k S hk hW hN l5
      have hM := hW.1
      have hR := mW_R hW hR0 hne
      have hB := mW_R hW hB0 hnb
      have q1 := hR.2.1
      have q2 := hB.2.1
      have z1 : (nI k < nI Ca.2.1.length) = (k < Ca.2.1.length) := propext ⟨fun h => Classical.byContradiction fun q => nI_nlt (show Ca.2.1.length ≤ k by omega) (by omega) h, fun h => nI_lt h (by omega)⟩
      have z2 : (nI k < nI Cb.2.1.length) = (k < Cb.2.1.length) := propext ⟨fun h => Classical.byContradiction fun q => nI_nlt (show Cb.2.1.length ≤ k by omega) (by omega) h, fun h => nI_lt h (by omega)⟩
      rw [q113_3]
      by_cases c1 : k < Ca.2.1.length
      · simp only [q113_0, q113_1, q113_5, q113_6, q113_9, q113_10, q113_11, q113_14, q113_16, q113_17, q113_20, q113_21, q113_22, q113_25, q113_27, q113_28, q113_31, q113_32, q113_33, q113_36, q113_37, q113_40, q113_41, q113_43, q113_44, q113_45, q113_47, q113_50, q113_51, q113_52, q113_54, q113_57, q113_60, q113_61, q113_62, q113_64, q113_67, q113_69, q113_72, q113_74, q113_77, q113_79, q113_81, q113_82, q113_85, q113_86, q113_87, q113_90, q113_92, q113_95, q113_97, q113_100, q113_103, q113_106, q113_107, q113_111, q113_112, q113_115, q113_116, q113_117, q113_120, q113_121, q113_122, q113_123, q113_124, q113_126, q113_129, q113_130, q113_131, q113_133, q113_136, q113_137, q113_138, q113_140, q113_143, q113_145, q113_147, q113_150, q113_153, q113_156, q113_157, q113_161, q113_162, q113_165, q113_166, q113_167, q113_170, q113_171, q113_172, q113_173, q113_174, q113_176, q113_179, q113_180, q113_181, q113_183, q113_186, q113_189, q113_192, q113_193, q113_194, q113_195, q113_196, q113_198, q113_201, q113_202, q113_203, q113_205, q113_208, q113_209, q113_210, q113_212, q113_215, q113_217, q113_219, q113_222, q113_225, q113_228, q113_e, sM_0 hM, sM_r8 hM, pm_rf_some, ar8 hM ha, ar8 hM hb, nc24 ha, nc24 hb, hR.1, hB.1, z1, z2, c1, if_true, show ¬ (1 : Int32) = 0 by decide, if_false, mr_node hM hR ha c1, pm_tl_some, nI_1]
        by_cases c2 : k < Cb.2.1.length
        · simp only [c2, if_true, q113_0, q113_1, q113_5, q113_6, q113_9, q113_10, q113_11, q113_14, q113_16, q113_17, q113_20, q113_21, q113_22, q113_25, q113_27, q113_28, q113_31, q113_32, q113_33, q113_36, q113_37, q113_40, q113_41, q113_43, q113_44, q113_45, q113_47, q113_50, q113_51, q113_52, q113_54, q113_57, q113_60, q113_61, q113_62, q113_64, q113_67, q113_69, q113_72, q113_74, q113_77, q113_79, q113_81, q113_82, q113_85, q113_86, q113_87, q113_90, q113_92, q113_95, q113_97, q113_100, q113_103, q113_106, q113_107, q113_111, q113_112, q113_115, q113_116, q113_117, q113_120, q113_121, q113_122, q113_123, q113_124, q113_126, q113_129, q113_130, q113_131, q113_133, q113_136, q113_137, q113_138, q113_140, q113_143, q113_145, q113_147, q113_150, q113_153, q113_156, q113_157, q113_161, q113_162, q113_165, q113_166, q113_167, q113_170, q113_171, q113_172, q113_173, q113_174, q113_176, q113_179, q113_180, q113_181, q113_183, q113_186, q113_189, q113_192, q113_193, q113_194, q113_195, q113_196, q113_198, q113_201, q113_202, q113_203, q113_205, q113_208, q113_209, q113_210, q113_212, q113_215, q113_217, q113_219, q113_222, q113_225, q113_228, q113_e, sM_0 hM, m_addNodeW hW hg, pm_tl_none, nI_1]
          refine hN _ ?_ _
          rw [sp_join1_s, if_pos c1, if_pos c1, if_pos c2]
          exact mW_node (x := some k) (y := some k) hW
        · simp only [c2, if_false, q113_0, q113_1, q113_5, q113_6, q113_9, q113_10, q113_11, q113_14, q113_16, q113_17, q113_20, q113_21, q113_22, q113_25, q113_27, q113_28, q113_31, q113_32, q113_33, q113_36, q113_37, q113_40, q113_41, q113_43, q113_44, q113_45, q113_47, q113_50, q113_51, q113_52, q113_54, q113_57, q113_60, q113_61, q113_62, q113_64, q113_67, q113_69, q113_72, q113_74, q113_77, q113_79, q113_81, q113_82, q113_85, q113_86, q113_87, q113_90, q113_92, q113_95, q113_97, q113_100, q113_103, q113_106, q113_107, q113_111, q113_112, q113_115, q113_116, q113_117, q113_120, q113_121, q113_122, q113_123, q113_124, q113_126, q113_129, q113_130, q113_131, q113_133, q113_136, q113_137, q113_138, q113_140, q113_143, q113_145, q113_147, q113_150, q113_153, q113_156, q113_157, q113_161, q113_162, q113_165, q113_166, q113_167, q113_170, q113_171, q113_172, q113_173, q113_174, q113_176, q113_179, q113_180, q113_181, q113_183, q113_186, q113_189, q113_192, q113_193, q113_194, q113_195, q113_196, q113_198, q113_201, q113_202, q113_203, q113_205, q113_208, q113_209, q113_210, q113_212, q113_215, q113_217, q113_219, q113_222, q113_225, q113_228, q113_e, sM_0 hM, m_addNodeW hW hg, pm_tl_none, nI_1]
          refine hN _ ?_ _
          rw [sp_join1_s, if_pos c1, if_pos c1, if_neg c2]
          exact mW_node (x := some k) (y := none) hW
      · have c2 : k < Cb.2.1.length := by omega
        simp only [q113_0, q113_1, q113_5, q113_6, q113_9, q113_10, q113_11, q113_14, q113_16, q113_17, q113_20, q113_21, q113_22, q113_25, q113_27, q113_28, q113_31, q113_32, q113_33, q113_36, q113_37, q113_40, q113_41, q113_43, q113_44, q113_45, q113_47, q113_50, q113_51, q113_52, q113_54, q113_57, q113_60, q113_61, q113_62, q113_64, q113_67, q113_69, q113_72, q113_74, q113_77, q113_79, q113_81, q113_82, q113_85, q113_86, q113_87, q113_90, q113_92, q113_95, q113_97, q113_100, q113_103, q113_106, q113_107, q113_111, q113_112, q113_115, q113_116, q113_117, q113_120, q113_121, q113_122, q113_123, q113_124, q113_126, q113_129, q113_130, q113_131, q113_133, q113_136, q113_137, q113_138, q113_140, q113_143, q113_145, q113_147, q113_150, q113_153, q113_156, q113_157, q113_161, q113_162, q113_165, q113_166, q113_167, q113_170, q113_171, q113_172, q113_173, q113_174, q113_176, q113_179, q113_180, q113_181, q113_183, q113_186, q113_189, q113_192, q113_193, q113_194, q113_195, q113_196, q113_198, q113_201, q113_202, q113_203, q113_205, q113_208, q113_209, q113_210, q113_212, q113_215, q113_217, q113_219, q113_222, q113_225, q113_228, q113_e, sM_0 hM, sM_r8 hM, pm_rf_some, ar8 hM ha, ar8 hM hb, nc24 ha, nc24 hb, hR.1, hB.1, z1, z2, c1, c2, if_true, if_false, mr_node hM hB hb c2, pm_tl_some, m_addNodeW hW hg, pm_tl_none, nI_1]
        refine hN _ ?_ _
        rw [sp_join1_s, if_neg c1, if_neg c1, if_pos c2]
        exact mW_node (x := none) (y := some k) hW
    · intro S hW l5
      have hM := hW.1
      have hR := mW_R hW hR0 hne
      have hB := mW_R hW hB0 hnb
      have q1 := hR.2.1
      have q2 := hB.2.1
      have z1 : ¬ nI (max Ca.2.1.length Cb.2.1.length) < nI Ca.2.1.length := nI_nlt (by omega) (by omega)
      have z2 : ¬ nI (max Ca.2.1.length Cb.2.1.length) < nI Cb.2.1.length := nI_nlt (by omega) (by omega)
      rw [q113_3]
      simp only [q113_0, q113_1, q113_5, q113_6, q113_9, q113_10, q113_11, q113_14, q113_16, q113_17, q113_20, q113_21, q113_22, q113_25, q113_27, q113_28, q113_31, q113_32, q113_33, q113_36, q113_37, q113_40, q113_41, q113_43, q113_44, q113_45, q113_47, q113_50, q113_51, q113_52, q113_54, q113_57, q113_60, q113_61, q113_62, q113_64, q113_67, q113_69, q113_72, q113_74, q113_77, q113_79, q113_81, q113_82, q113_85, q113_86, q113_87, q113_90, q113_92, q113_95, q113_97, q113_100, q113_103, q113_106, q113_107, q113_111, q113_112, q113_115, q113_116, q113_117, q113_120, q113_121, q113_122, q113_123, q113_124, q113_126, q113_129, q113_130, q113_131, q113_133, q113_136, q113_137, q113_138, q113_140, q113_143, q113_145, q113_147, q113_150, q113_153, q113_156, q113_157, q113_161, q113_162, q113_165, q113_166, q113_167, q113_170, q113_171, q113_172, q113_173, q113_174, q113_176, q113_179, q113_180, q113_181, q113_183, q113_186, q113_189, q113_192, q113_193, q113_194, q113_195, q113_196, q113_198, q113_201, q113_202, q113_203, q113_205, q113_208, q113_209, q113_210, q113_212, q113_215, q113_217, q113_219, q113_222, q113_225, q113_228, q113_e, sM_0 hM, sM_r8 hM, pm_rf_some, ar8 hM ha, ar8 hM hb, nc24 ha, nc24 hb, hR.1, hB.1, z1, z2, if_false]
      exact L2 S _ hW
  exact key _
set_option maxHeartbeats 2000000 in
theorem m_lines (hg : g < 24) (ha : a < 24) (hne : a ≠ g) (hR0 : mR S0 m a Ca) (oa : sp_ok Ca) (hW : mW S0 S m g C) (hQ : ∀ S', mW S0 S' m g (sp_lines Ca C) → Q none S') : pm_N (d + 3) 116 [.ref m, .int (nI g), .int (nI a)] S Q := by
  simp only [q116_0, q116_1, q116_3, q116_4, q116_7, q116_8, q116_9, q116_12, q116_13, q116_14, q116_15, q116_16, q116_17, q116_20, q116_21, q116_23, q116_26, q116_29, q116_32, q116_33, q116_35, q116_36, q116_39, q116_40, q116_41, q116_44, q116_45, q116_49, q116_50, q116_53, q116_54, q116_55, q116_58, q116_59, q116_60, q116_62, q116_65, q116_66, q116_67, q116_68, q116_71, q116_74, q116_75, q116_76, q116_77, q116_79, q116_80, q116_81, q116_82, q116_83, q116_84, q116_87, q116_90, q116_91, q116_92, q116_93, q116_96, q116_98, q116_101, q116_104, q116_107, q116_110, q116_113, q116_e]
  have L2 : ∀ S l4, mW S0 S m g (sp_line1 Ca C Ca.2.2.1.length) → pm_V (d + 3) 116 34 [.ref m, .int (nI g), .int (nI a), .int (nI 0), l4] [] S Q := by
    intro S l4 hW
    revert l4
    refine lp (n := Ca.2.2.1.length) (Inv := fun k S => mW S0 S m g (sp_line3 Ca (sp_line1 Ca C Ca.2.2.1.length) k)) (head := fun k S => ∀ l4, pm_V (d + 3) 116 34 [.ref m, .int (nI g), .int (nI a), .int (nI k), l4] [] S Q) ?_ ?_ S hW
    · intro e S he hW hN l4
      have hM := hW.1
      have hR := mW_R hW hR0 hne
      have l2 := hR.2.2.2.1
      have e1 : nI e < nI Ca.2.2.1.length := nI_lt he (by omega)
      rw [q116_34]
      simp only [q116_0, q116_1, q116_3, q116_4, q116_7, q116_8, q116_9, q116_12, q116_13, q116_14, q116_15, q116_16, q116_17, q116_20, q116_21, q116_23, q116_26, q116_29, q116_32, q116_33, q116_35, q116_36, q116_39, q116_40, q116_41, q116_44, q116_45, q116_49, q116_50, q116_53, q116_54, q116_55, q116_58, q116_59, q116_60, q116_62, q116_65, q116_66, q116_67, q116_68, q116_71, q116_74, q116_75, q116_76, q116_77, q116_79, q116_80, q116_81, q116_82, q116_83, q116_84, q116_87, q116_90, q116_91, q116_92, q116_93, q116_96, q116_98, q116_101, q116_104, q116_107, q116_110, q116_113, q116_e, sM_0 hM, sM_r9 hM, pm_rf_some, ar9 hM ha, nc24 ha, hR.2.2.1, e1, if_true]
      refine lp (n := Ca.2.2.1.length) (Inv := fun k S => mW S0 S m g (sp_line2 Ca e (sp_line3 Ca (sp_line1 Ca C Ca.2.2.1.length) e) k)) (head := fun k S => pm_V (d + 3) 116 47 [.ref m, .int (nI g), .int (nI a), .int (nI e), .int (nI k)] [] S Q) ?_ ?_ S hW
      · intro k S hk hW hN
        have hM := hW.1
        have hR := mW_R hW hR0 hne
        have l1 := hR.2.1
        have o1 := oa k hk
        have o2 := oa e he
        have e1 : nI k < nI Ca.2.2.1.length := nI_lt hk (by omega)
        have z1 : (nI (sp_ar Ca k).1 = nI (sp_ar Ca e).2.1) = ((sp_ar Ca k).1 = (sp_ar Ca e).2.1) := nI_e' (by omega) (by omega)
        have hs : sp_line2 Ca e (sp_line3 Ca (sp_line1 Ca C Ca.2.2.1.length) e) (k + 1) = if (sp_ar Ca k).1 = (sp_ar Ca e).2.1 then sp_addA (sp_line2 Ca e (sp_line3 Ca (sp_line1 Ca C Ca.2.2.1.length) e) k) (e, k, (sp_nd Ca (sp_ar Ca e).2.1).1, some (sp_ar Ca e).2.1, none) else sp_line2 Ca e (sp_line3 Ca (sp_line1 Ca C Ca.2.2.1.length) e) k := by
          unfold sp_line2; rw [sp_for_n]
        rw [q116_47]
        simp only [q116_0, q116_1, q116_3, q116_4, q116_7, q116_8, q116_9, q116_12, q116_13, q116_14, q116_15, q116_16, q116_17, q116_20, q116_21, q116_23, q116_26, q116_29, q116_32, q116_33, q116_35, q116_36, q116_39, q116_40, q116_41, q116_44, q116_45, q116_49, q116_50, q116_53, q116_54, q116_55, q116_58, q116_59, q116_60, q116_62, q116_65, q116_66, q116_67, q116_68, q116_71, q116_74, q116_75, q116_76, q116_77, q116_79, q116_80, q116_81, q116_82, q116_83, q116_84, q116_87, q116_90, q116_91, q116_92, q116_93, q116_96, q116_98, q116_101, q116_104, q116_107, q116_110, q116_113, q116_e, sM_0 hM, sM_r9 hM, pm_rf_some, ar9 hM ha, nc24 ha, hR.2.2.1, e1, if_true, mr_from hM hR ha hk, mr_to hM hR ha he, mr_node hM hR ha o2.2, pm_tl_some, z1, m_addArcW hW hg, pm_tl_none, nI_1]
        by_cases hc : (sp_ar Ca k).1 = (sp_ar Ca e).2.1
        · rw [if_pos hc]
          exact hN _ (by rw [hs, if_pos hc]; exact mW_arc (x := some (sp_ar Ca e).2.1) (y := none) hW)
        · rw [if_neg hc]
          exact hN _ (by rw [hs, if_neg hc]; exact hW)
      · intro S hW
        have hM := hW.1
        have hR := mW_R hW hR0 hne
        have e1 : ¬ nI Ca.2.2.1.length < nI Ca.2.2.1.length := nI_nlt (Nat.le_refl _) (by omega)
        rw [q116_47]
        simp only [q116_0, q116_1, q116_3, q116_4, q116_7, q116_8, q116_9, q116_12, q116_13, q116_14, q116_15, q116_16, q116_17, q116_20, q116_21, q116_23, q116_26, q116_29, q116_32, q116_33, q116_35, q116_36, q116_39, q116_40, q116_41, q116_44, q116_45, q116_49, q116_50, q116_53, q116_54, q116_55, q116_58, q116_59, q116_60, q116_62, q116_65, q116_66, q116_67, q116_68, q116_71, q116_74, q116_75, q116_76, q116_77, q116_79, q116_80, q116_81, q116_82, q116_83, q116_84, q116_87, q116_90, q116_91, q116_92, q116_93, q116_96, q116_98, q116_101, q116_104, q116_107, q116_110, q116_113, q116_e, sM_0 hM, sM_r9 hM, pm_rf_some, ar9 hM ha, nc24 ha, hR.2.2.1, e1, if_false, nI_1]
        exact hN S (by unfold sp_line3 at hW ⊢; rw [sp_for_n]; exact hW) _
    · intro S hW l4
      have hM := hW.1
      have hR := mW_R hW hR0 hne
      have e1 : ¬ nI Ca.2.2.1.length < nI Ca.2.2.1.length := nI_nlt (Nat.le_refl _) (by have := hR.2.2.2.1; omega)
      rw [q116_34]
      simp only [q116_0, q116_1, q116_3, q116_4, q116_7, q116_8, q116_9, q116_12, q116_13, q116_14, q116_15, q116_16, q116_17, q116_20, q116_21, q116_23, q116_26, q116_29, q116_32, q116_33, q116_35, q116_36, q116_39, q116_40, q116_41, q116_44, q116_45, q116_49, q116_50, q116_53, q116_54, q116_55, q116_58, q116_59, q116_60, q116_62, q116_65, q116_66, q116_67, q116_68, q116_71, q116_74, q116_75, q116_76, q116_77, q116_79, q116_80, q116_81, q116_82, q116_83, q116_84, q116_87, q116_90, q116_91, q116_92, q116_93, q116_96, q116_98, q116_101, q116_104, q116_107, q116_110, q116_113, q116_e, sM_0 hM, sM_r9 hM, pm_rf_some, ar9 hM ha, nc24 ha, hR.2.2.1, e1, if_false]
      exact hQ S hW
  refine lp (n := Ca.2.2.1.length) (Inv := fun k S => mW S0 S m g (sp_line1 Ca C k)) (head := fun k S => pm_V (d + 3) 116 2 [.ref m, .int (nI g), .int (nI a), .int (nI k), pm_j] [] S Q) ?_ ?_ S hW
  · intro k S hk hW hN
    have hM := hW.1
    have hR := mW_R hW hR0 hne
    have e1 : nI k < nI Ca.2.2.1.length := nI_lt hk (by have := hR.2.2.2.1; omega)
    rw [q116_2]
    simp only [q116_0, q116_1, q116_3, q116_4, q116_7, q116_8, q116_9, q116_12, q116_13, q116_14, q116_15, q116_16, q116_17, q116_20, q116_21, q116_23, q116_26, q116_29, q116_32, q116_33, q116_35, q116_36, q116_39, q116_40, q116_41, q116_44, q116_45, q116_49, q116_50, q116_53, q116_54, q116_55, q116_58, q116_59, q116_60, q116_62, q116_65, q116_66, q116_67, q116_68, q116_71, q116_74, q116_75, q116_76, q116_77, q116_79, q116_80, q116_81, q116_82, q116_83, q116_84, q116_87, q116_90, q116_91, q116_92, q116_93, q116_96, q116_98, q116_101, q116_104, q116_107, q116_110, q116_113, q116_e, sM_0 hM, sM_r9 hM, pm_rf_some, ar9 hM ha, nc24 ha, hR.2.2.1, e1, if_true, mr_arc hM hR ha hk, pm_tl_some, m_addNodeW hW hg, pm_tl_none, nI_1]
    exact hN _ (by unfold sp_line1; rw [sp_for_n]; exact mW_node (x := some k) (y := none) hW)
  · intro S hW
    have hM := hW.1
    have hR := mW_R hW hR0 hne
    have e1 : ¬ nI Ca.2.2.1.length < nI Ca.2.2.1.length := nI_nlt (Nat.le_refl _) (by have := hR.2.2.2.1; omega)
    rw [q116_2]
    simp only [q116_0, q116_1, q116_3, q116_4, q116_7, q116_8, q116_9, q116_12, q116_13, q116_14, q116_15, q116_16, q116_17, q116_20, q116_21, q116_23, q116_26, q116_29, q116_32, q116_33, q116_35, q116_36, q116_39, q116_40, q116_41, q116_44, q116_45, q116_49, q116_50, q116_53, q116_54, q116_55, q116_58, q116_59, q116_60, q116_62, q116_65, q116_66, q116_67, q116_68, q116_71, q116_74, q116_75, q116_76, q116_77, q116_79, q116_80, q116_81, q116_82, q116_83, q116_84, q116_87, q116_90, q116_91, q116_92, q116_93, q116_96, q116_98, q116_101, q116_104, q116_107, q116_110, q116_113, q116_e, sM_0 hM, sM_r9 hM, pm_rf_some, ar9 hM ha, nc24 ha, hR.2.2.1, e1, if_false]
    exact L2 S _ hW
end
