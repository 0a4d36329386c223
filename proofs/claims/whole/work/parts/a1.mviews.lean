/-! ===== THE REFERENCE: turned, joined, less, product, lines ===== -/
def mW (S0 S : pm_T) (m g : Nat) (C : sp_C) : Prop := sM S m ∧ mQ S m g C ∧ frI (mP m g) S0 S
section
variable {S0 S S' : pm_T} {m a b g n k d j e t u : Nat} {C Ca Cb : sp_C} {Q : Option Value → pm_T → Prop} {v : Int64} {x y : Option Nat}
theorem mW_R (hW : mW S0 S m g C) (hR : mR S0 m a Ca) (hne : a ≠ g) : mR S m a Ca := mR_fr hR hW.2.2 (mB_ne hne)
theorem mW_node (hW : mW S0 S m g C) : mW S0 (fM_node S m g C.2.1.length v (sp_eM x) (sp_eM y)) m g (sp_addN C (v, x, y)) := by
  obtain ⟨q1, q2⟩ := mQ_node (v := v) (x := x) (y := y) hW.2.1
  exact ⟨sM_frI hW.1 q2, q1, hW.2.2.tr (q2.mono (fun b k h => Or.inl h))⟩
theorem mW_arc (hW : mW S0 S m g C) : mW S0 (fM_arc S m g C.2.2.1.length (nI t) (nI u) v (sp_eM x) (sp_eM y)) m g (sp_addA C (t, u, v, x, y)) := by
  obtain ⟨q1, q2⟩ := mQ_arc (t := t) (u := u) (v := v) (x := x) (y := y) hW.2.1
  exact ⟨sM_frI hW.1 q2, q1, hW.2.2.tr (q2.mono (fun b k h => Or.inl h))⟩
theorem m_addNodeW {x y : Int32} (hW : mW S0 S m g C) (hg : g < 24) : pm_N (d + 1) 103 [.ref m, .int (nI g), .long v, .int x, .int y] S Q = Q none (fM_node S m g C.2.1.length v x y) := m_addNode hW.1 hg hW.2.1.2.2.1.1 hW.2.1.2.2.1.2.1
theorem m_addArcW {t u x y : Int32} (hW : mW S0 S m g C) (hg : g < 24) : pm_N (d + 1) 104 [.ref m, .int (nI g), .int t, .int u, .long v, .int x, .int y] S Q = Q none (fM_arc S m g C.2.2.1.length t u v x y) := m_addArc hW.1 hg hW.2.1.2.2.1.2.2.1 hW.2.1.2.2.1.2.2.2.1
set_option maxHeartbeats 1000000 in
theorem m_sameNodes (hg : g < 24) (ha : a < 24) (hne : a ≠ g) (hR0 : mR S0 m a Ca) (hW : mW S0 S m g C) (hQ : ∀ S', mW S0 S' m g (sp_copyN Ca C) → Q none S') : pm_N (d + 2) 112 [.ref m, .int (nI g), .int (nI a)] S Q := by
  simp only [q112_0, q112_1, q112_3, q112_4, q112_7, q112_8, q112_9, q112_12, q112_13, q112_14, q112_15, q112_16, q112_17, q112_20, q112_21, q112_23, q112_26, q112_29, q112_32, q112_e]
  refine lp (n := Ca.2.1.length) (Inv := fun k S => mW S0 S m g (sp_for (fun C i => sp_addN C ((sp_nd Ca i).1, some i, none)) k 0 C)) (head := fun k S => pm_V (d + 2) 112 2 [.ref m, .int (nI g), .int (nI a), .int (nI k)] [] S Q) ?_ ?_ S hW
  · intro k S hk hW hN
    have hM := hW.1
    have hR := mW_R hW hR0 hne
    have e1 : nI k < nI Ca.2.1.length := nI_lt hk (by have := hR.2.1; omega)
    rw [q112_2]
    simp only [q112_0, q112_1, q112_3, q112_4, q112_7, q112_8, q112_9, q112_12, q112_13, q112_14, q112_15, q112_16, q112_17, q112_20, q112_21, q112_23, q112_26, q112_29, q112_32, q112_e, sM_0 hM, sM_r8 hM, pm_rf_some, ar8 hM ha, nc24 ha, hR.1, e1, if_true, mr_node hM hR ha hk, pm_tl_some, m_addNodeW hW hg, pm_tl_none, nI_1]
    exact hN _ (by rw [sp_for_n]; exact mW_node (x := some k) (y := none) hW)
  · intro S hW
    have hM := hW.1
    have hR := mW_R hW hR0 hne
    have e1 : ¬ nI Ca.2.1.length < nI Ca.2.1.length := nI_nlt (Nat.le_refl _) (by have := hR.2.1; omega)
    rw [q112_2]
    simp only [q112_0, q112_1, q112_3, q112_4, q112_7, q112_8, q112_9, q112_12, q112_13, q112_14, q112_15, q112_16, q112_17, q112_20, q112_21, q112_23, q112_26, q112_29, q112_32, q112_e, sM_0 hM, sM_r8 hM, pm_rf_some, ar8 hM ha, nc24 ha, hR.1, e1, if_false]
    exact hQ S hW
set_option maxHeartbeats 1000000 in
theorem m_turned (hg : g < 24) (ha : a < 24) (hne : a ≠ g) (hR0 : mR S0 m a Ca) (hW : mW S0 S m g C) (hQ : ∀ S', mW S0 S' m g (sp_turn Ca C) → Q none S') : pm_N (d + 3) 113 [.ref m, .int (nI g), .int (nI a)] S Q := by
  simp only [q113_0, q113_1, q113_2, q113_3, q113_6, q113_7, q113_9, q113_10, q113_13, q113_14, q113_15, q113_18, q113_19, q113_20, q113_21, q113_22, q113_23, q113_26, q113_27, q113_28, q113_29, q113_32, q113_33, q113_34, q113_35, q113_38, q113_39, q113_41, q113_44, q113_47, q113_50, q113_e, sM_0 hW.1]
  refine m_sameNodes hg ha hne hR0 hW fun S1 hW1 => ?_
  simp only [pm_tl_none, q113_0, q113_1, q113_2, q113_3, q113_6, q113_7, q113_9, q113_10, q113_13, q113_14, q113_15, q113_18, q113_19, q113_20, q113_21, q113_22, q113_23, q113_26, q113_27, q113_28, q113_29, q113_32, q113_33, q113_34, q113_35, q113_38, q113_39, q113_41, q113_44, q113_47, q113_50, q113_e]
  refine lp (n := Ca.2.2.1.length) (Inv := fun k S => mW S0 S m g (sp_for (fun C e => sp_addA C ((sp_ar Ca e).2.1, (sp_ar Ca e).1, (sp_ar Ca e).2.2.1, some e, none)) k 0 (sp_copyN Ca C))) (head := fun k S => pm_V (d + 3) 113 8 [.ref m, .int (nI g), .int (nI a), .int (nI k)] [] S Q) ?_ ?_ S1 hW1
  · intro k S hk hW hN
    have hM := hW.1
    have hR := mW_R hW hR0 hne
    have e1 : nI k < nI Ca.2.2.1.length := nI_lt hk (by have := hR.2.2.2.1; omega)
    rw [q113_8]
    simp only [q113_0, q113_1, q113_2, q113_3, q113_6, q113_7, q113_9, q113_10, q113_13, q113_14, q113_15, q113_18, q113_19, q113_20, q113_21, q113_22, q113_23, q113_26, q113_27, q113_28, q113_29, q113_32, q113_33, q113_34, q113_35, q113_38, q113_39, q113_41, q113_44, q113_47, q113_50, q113_e, sM_0 hM, sM_r9 hM, pm_rf_some, ar9 hM ha, nc24 ha, hR.2.2.1, e1, if_true, mr_to hM hR ha hk, mr_from hM hR ha hk, mr_arc hM hR ha hk, pm_tl_some, m_addArcW hW hg, pm_tl_none, nI_1]
    exact hN _ (by rw [sp_for_n]; exact mW_arc (x := some k) (y := none) hW)
  · intro S hW
    have hM := hW.1
    have hR := mW_R hW hR0 hne
    have e1 : ¬ nI Ca.2.2.1.length < nI Ca.2.2.1.length := nI_nlt (Nat.le_refl _) (by have := hR.2.2.2.1; omega)
    rw [q113_8]
    simp only [q113_0, q113_1, q113_2, q113_3, q113_6, q113_7, q113_9, q113_10, q113_13, q113_14, q113_15, q113_18, q113_19, q113_20, q113_21, q113_22, q113_23, q113_26, q113_27, q113_28, q113_29, q113_32, q113_33, q113_34, q113_35, q113_38, q113_39, q113_41, q113_44, q113_47, q113_50, q113_e, sM_0 hM, sM_r9 hM, pm_rf_some, ar9 hM ha, nc24 ha, hR.2.2.1, e1, if_false]
    exact hQ S hW
theorem m_hasArc_l (hM : sM S m) (ha : a < 24) (hR : mR S m a Ca) (ho : sp_ok Ca) (ht : t < 2 ^ 31) (hu : u < 2 ^ 31) : ∀ n k, k + n = Ca.2.2.1.length → pm_V (d + 1) 109 6 [.ref m, .int (nI a), .int (nI t), .int (nI u), .int (if sp_has Ca t u k = true then 1 else 0), .int (nI k)] [] S Q = Q (some (.int (if sp_has Ca t u Ca.2.2.1.length = true then 1 else 0))) S := by
  have l1 := hR.2.1
  have l2 := hR.2.2.2.1
  intro n
  induction n with
  | zero =>
    intro k hk
    have : k = Ca.2.2.1.length := by omega
    subst this
    have e1 : ¬ nI Ca.2.2.1.length < nI Ca.2.2.1.length := nI_nlt (Nat.le_refl _) (by omega)
    rw [q109_6]
    simp only [q109_0, q109_1, q109_3, q109_4, q109_8, q109_9, q109_12, q109_13, q109_14, q109_17, q109_19, q109_22, q109_23, q109_24, q109_26, q109_29, q109_30, q109_33, q109_34, q109_35, q109_37, q109_40, q109_41, q109_44, q109_45, q109_48, q109_49, q109_51, q109_54, q109_57, q109_59, q109_e, sM_0 hM, sM_r9 hM, pm_rf_some, ar9 hM ha, nc24 ha, hR.2.2.1, e1, if_false, pm_b01]
  | succ n ih =>
    intro k hk
    have hk2 : k < Ca.2.2.1.length := by omega
    have e1 : nI k < nI Ca.2.2.1.length := nI_lt hk2 (by omega)
    have o := ho k hk2
    have z1 : (nI (sp_ar Ca k).1 = nI t) = ((sp_ar Ca k).1 = t) := nI_e' (by omega) ht
    have z2 : (nI (sp_ar Ca k).2.1 = nI u) = ((sp_ar Ca k).2.1 = u) := nI_e' (by omega) hu
    have := ih (k + 1) (by omega)
    rw [sp_has_s] at this
    rw [q109_6]
    simp only [q109_0, q109_1, q109_3, q109_4, q109_8, q109_9, q109_12, q109_13, q109_14, q109_17, q109_19, q109_22, q109_23, q109_24, q109_26, q109_29, q109_30, q109_33, q109_34, q109_35, q109_37, q109_40, q109_41, q109_44, q109_45, q109_48, q109_49, q109_51, q109_54, q109_57, q109_59, q109_e, sM_0 hM, sM_r9 hM, pm_rf_some, ar9 hM ha, nc24 ha, hR.2.2.1, e1, if_true, pm_z1, mr_from hM hR ha hk2, mr_to hM hR ha hk2, pm_tl_some, z1, z2, nI_1]
    by_cases h1 : sp_has Ca t u k = true
    · rw [if_neg (fun h => h h1)]
      rw [h1] at this
      simpa using this
    · rw [if_pos h1]
      have h1' : sp_has Ca t u k = false := by simpa using h1
      rw [h1', Bool.false_or] at this
      by_cases h2 : (sp_ar Ca k).1 = t
      · rw [if_pos h2]
        by_cases h3 : (sp_ar Ca k).2.1 = u
        · rw [if_pos h3]
          simpa [h2, h3] using this
        · rw [if_neg h3]
          simpa [h2, h3] using this
      · rw [if_neg h2]
        simpa [h2] using this
theorem m_hasArc (hM : sM S m) (ha : a < 24) (hR : mR S m a Ca) (ho : sp_ok Ca) (ht : t < 2 ^ 31) (hu : u < 2 ^ 31) : pm_N (d + 1) 109 [.ref m, .int (nI a), .int (nI t), .int (nI u)] S Q = Q (some (.int (if sp_has Ca t u Ca.2.2.1.length = true then 1 else 0))) S := by
  simp only [q109_0, q109_1, q109_3, q109_4, q109_8, q109_9, q109_12, q109_13, q109_14, q109_17, q109_19, q109_22, q109_23, q109_24, q109_26, q109_29, q109_30, q109_33, q109_34, q109_35, q109_37, q109_40, q109_41, q109_44, q109_45, q109_48, q109_49, q109_51, q109_54, q109_57, q109_59, q109_e]
  exact m_hasArc_l hM ha hR ho ht hu Ca.2.2.1.length 0 (Nat.zero_add _)
set_option maxHeartbeats 1000000 in
theorem m_less (hg : g < 24) (ha : a < 24) (hb : b < 24) (hne : a ≠ g) (hnb : b ≠ g) (hR0 : mR S0 m a Ca) (hB0 : mR S0 m b Cb) (oa : sp_ok Ca) (ob : sp_ok Cb) (hW : mW S0 S m g C) (hQ : ∀ S', mW S0 S' m g (sp_less Ca Cb (sp_copyN Ca C) Ca.2.2.1.length) → Q none S') : pm_N (d + 3) 115 [.ref m, .int (nI g), .int (nI a), .int (nI b)] S Q := by
  simp only [q115_0, q115_1, q115_2, q115_3, q115_6, q115_7, q115_11, q115_12, q115_15, q115_16, q115_17, q115_20, q115_21, q115_22, q115_23, q115_24, q115_26, q115_29, q115_30, q115_31, q115_33, q115_36, q115_39, q115_42, q115_43, q115_44, q115_45, q115_46, q115_48, q115_51, q115_52, q115_53, q115_55, q115_58, q115_59, q115_60, q115_62, q115_65, q115_67, q115_69, q115_72, q115_75, q115_78, q115_e, sM_0 hW.1]
  refine m_sameNodes hg ha hne hR0 hW fun S1 hW1 => ?_
  simp only [pm_tl_none, q115_0, q115_1, q115_2, q115_3, q115_6, q115_7, q115_11, q115_12, q115_15, q115_16, q115_17, q115_20, q115_21, q115_22, q115_23, q115_24, q115_26, q115_29, q115_30, q115_31, q115_33, q115_36, q115_39, q115_42, q115_43, q115_44, q115_45, q115_46, q115_48, q115_51, q115_52, q115_53, q115_55, q115_58, q115_59, q115_60, q115_62, q115_65, q115_67, q115_69, q115_72, q115_75, q115_78, q115_e]
  refine lp (n := Ca.2.2.1.length) (Inv := fun k S => mW S0 S m g (sp_less Ca Cb (sp_copyN Ca C) k)) (head := fun k S => pm_V (d + 3) 115 9 [.ref m, .int (nI g), .int (nI a), .int (nI b), .int (nI k)] [] S Q) ?_ ?_ S1 hW1
  · intro k S hk hW hN
    have hM := hW.1
    have hR := mW_R hW hR0 hne
    have hB := mW_R hW hB0 hnb
    have l2 := hR.2.1
    have o := oa k hk
    have e1 : nI k < nI Ca.2.2.1.length := nI_lt hk (by have := hR.2.2.2.1; omega)
    rw [q115_9]
    simp only [q115_0, q115_1, q115_2, q115_3, q115_6, q115_7, q115_11, q115_12, q115_15, q115_16, q115_17, q115_20, q115_21, q115_22, q115_23, q115_24, q115_26, q115_29, q115_30, q115_31, q115_33, q115_36, q115_39, q115_42, q115_43, q115_44, q115_45, q115_46, q115_48, q115_51, q115_52, q115_53, q115_55, q115_58, q115_59, q115_60, q115_62, q115_65, q115_67, q115_69, q115_72, q115_75, q115_78, q115_e, sM_0 hM, sM_r9 hM, pm_rf_some, ar9 hM ha, nc24 ha, hR.2.2.1, e1, if_true, mr_to hM hR ha hk, mr_from hM hR ha hk, mr_arc hM hR ha hk, pm_tl_some, m_hasArc hM hb hB ob (show (sp_ar Ca k).1 < 2 ^ 31 by omega) (show (sp_ar Ca k).2.1 < 2 ^ 31 by omega), pm_z1, m_addArcW hW hg, pm_tl_none, nI_1]
    by_cases hc : sp_has Cb (sp_ar Ca k).1 (sp_ar Ca k).2.1 Cb.2.2.1.length = true
    · rw [if_neg (fun h => h hc)]
      exact hN _ (by rw [sp_less_s, if_pos hc]; exact hW)
    · rw [if_pos hc]
      exact hN _ (by rw [sp_less_s, if_neg hc]; exact mW_arc (x := some k) (y := none) hW)
  · intro S hW
    have hM := hW.1
    have hR := mW_R hW hR0 hne
    have e1 : ¬ nI Ca.2.2.1.length < nI Ca.2.2.1.length := nI_nlt (Nat.le_refl _) (by have := hR.2.2.2.1; omega)
    rw [q115_9]
    simp only [q115_0, q115_1, q115_2, q115_3, q115_6, q115_7, q115_11, q115_12, q115_15, q115_16, q115_17, q115_20, q115_21, q115_22, q115_23, q115_24, q115_26, q115_29, q115_30, q115_31, q115_33, q115_36, q115_39, q115_42, q115_43, q115_44, q115_45, q115_46, q115_48, q115_51, q115_52, q115_53, q115_55, q115_58, q115_59, q115_60, q115_62, q115_65, q115_67, q115_69, q115_72, q115_75, q115_78, q115_e, sM_0 hM, sM_r9 hM, pm_rf_some, ar9 hM ha, nc24 ha, hR.2.2.1, e1, if_false]
    exact hQ S hW
set_option maxHeartbeats 2000000 in
theorem m_joined (hg : g < 24) (ha : a < 24) (hb : b < 24) (hne : a ≠ g) (hnb : b ≠ g) (hR0 : mR S0 m a Ca) (hB0 : mR S0 m b Cb) (oa : sp_ok Ca) (ob : sp_ok Cb) (hW : mW S0 S m g C) (hQ : ∀ S', mW S0 S' m g (sp_join Ca Cb C) → Q none S') : pm_N (d + 3) 114 [.ref m, .int (nI g), .int (nI a), .int (nI b)] S Q := by
  simp only [q114_0, q114_1, q114_5, q114_6, q114_9, q114_10, q114_11, q114_14, q114_16, q114_17, q114_20, q114_21, q114_22, q114_25, q114_27, q114_28, q114_31, q114_32, q114_33, q114_36, q114_37, q114_40, q114_41, q114_43, q114_44, q114_45, q114_47, q114_50, q114_51, q114_52, q114_54, q114_57, q114_60, q114_61, q114_62, q114_64, q114_67, q114_69, q114_72, q114_74, q114_77, q114_79, q114_81, q114_82, q114_85, q114_86, q114_87, q114_90, q114_92, q114_95, q114_97, q114_100, q114_103, q114_106, q114_107, q114_111, q114_112, q114_115, q114_116, q114_117, q114_120, q114_121, q114_122, q114_123, q114_124, q114_126, q114_129, q114_130, q114_131, q114_133, q114_136, q114_137, q114_138, q114_140, q114_143, q114_145, q114_147, q114_150, q114_153, q114_156, q114_157, q114_161, q114_162, q114_165, q114_166, q114_167, q114_170, q114_171, q114_172, q114_173, q114_174, q114_176, q114_179, q114_180, q114_181, q114_183, q114_186, q114_189, q114_192, q114_193, q114_194, q114_195, q114_196, q114_198, q114_201, q114_202, q114_203, q114_205, q114_208, q114_209, q114_210, q114_212, q114_215, q114_217, q114_219, q114_222, q114_225, q114_228, q114_e]
  have L3 : ∀ S l5, mW S0 S m g (sp_join2 Ca (sp_join1 Ca Cb C (max Ca.2.1.length Cb.2.1.length)) Ca.2.2.1.length) → pm_V (d + 3) 114 159 [.ref m, .int (nI g), .int (nI a), .int (nI b), .int (nI 0), l5] [] S Q := by
    intro S l5 hW
    refine lp (n := Cb.2.2.1.length) (Inv := fun k S => mW S0 S m g (sp_join3 Ca Cb (sp_join2 Ca (sp_join1 Ca Cb C (max Ca.2.1.length Cb.2.1.length)) Ca.2.2.1.length) k)) (head := fun k S => pm_V (d + 3) 114 159 [.ref m, .int (nI g), .int (nI a), .int (nI b), .int (nI k), l5] [] S Q) ?_ ?_ S hW
    · intro k S hk hW hN
      have hM := hW.1
      have hR := mW_R hW hR0 hne
      have hB := mW_R hW hB0 hnb
      have l2 := hB.2.1
      have o := ob k hk
      have e1 : nI k < nI Cb.2.2.1.length := nI_lt hk (by have := hB.2.2.2.1; omega)
      rw [q114_159]
      simp only [q114_0, q114_1, q114_5, q114_6, q114_9, q114_10, q114_11, q114_14, q114_16, q114_17, q114_20, q114_21, q114_22, q114_25, q114_27, q114_28, q114_31, q114_32, q114_33, q114_36, q114_37, q114_40, q114_41, q114_43, q114_44, q114_45, q114_47, q114_50, q114_51, q114_52, q114_54, q114_57, q114_60, q114_61, q114_62, q114_64, q114_67, q114_69, q114_72, q114_74, q114_77, q114_79, q114_81, q114_82, q114_85, q114_86, q114_87, q114_90, q114_92, q114_95, q114_97, q114_100, q114_103, q114_106, q114_107, q114_111, q114_112, q114_115, q114_116, q114_117, q114_120, q114_121, q114_122, q114_123, q114_124, q114_126, q114_129, q114_130, q114_131, q114_133, q114_136, q114_137, q114_138, q114_140, q114_143, q114_145, q114_147, q114_150, q114_153, q114_156, q114_157, q114_161, q114_162, q114_165, q114_166, q114_167, q114_170, q114_171, q114_172, q114_173, q114_174, q114_176, q114_179, q114_180, q114_181, q114_183, q114_186, q114_189, q114_192, q114_193, q114_194, q114_195, q114_196, q114_198, q114_201, q114_202, q114_203, q114_205, q114_208, q114_209, q114_210, q114_212, q114_215, q114_217, q114_219, q114_222, q114_225, q114_228, q114_e, sM_0 hM, sM_r9 hM, pm_rf_some, ar9 hM hb, nc24 hb, hB.2.2.1, e1, if_true, mr_to hM hB hb hk, mr_from hM hB hb hk, mr_arc hM hB hb hk, pm_tl_some, m_hasArc hM ha hR oa (show (sp_ar Cb k).1 < 2 ^ 31 by omega) (show (sp_ar Cb k).2.1 < 2 ^ 31 by omega), pm_z1, m_addArcW hW hg, pm_tl_none, nI_1]
      by_cases hc : sp_has Ca (sp_ar Cb k).1 (sp_ar Cb k).2.1 Ca.2.2.1.length = true
      · rw [if_neg (fun h => h hc)]
        exact hN _ (by rw [sp_join3_s, if_pos hc]; exact hW)
      · rw [if_pos hc]
        exact hN _ (by rw [sp_join3_s, if_neg hc]; exact mW_arc (x := none) (y := some k) hW)
    · intro S hW
      have hM := hW.1
      have hB := mW_R hW hB0 hnb
      have e1 : ¬ nI Cb.2.2.1.length < nI Cb.2.2.1.length := nI_nlt (Nat.le_refl _) (by have := hB.2.2.2.1; omega)
      rw [q114_159]
      simp only [q114_0, q114_1, q114_5, q114_6, q114_9, q114_10, q114_11, q114_14, q114_16, q114_17, q114_20, q114_21, q114_22, q114_25, q114_27, q114_28, q114_31, q114_32, q114_33, q114_36, q114_37, q114_40, q114_41, q114_43, q114_44, q114_45, q114_47, q114_50, q114_51, q114_52, q114_54, q114_57, q114_60, q114_61, q114_62, q114_64, q114_67, q114_69, q114_72, q114_74, q114_77, q114_79, q114_81, q114_82, q114_85, q114_86, q114_87, q114_90, q114_92, q114_95, q114_97, q114_100, q114_103, q114_106, q114_107, q114_111, q114_112, q114_115, q114_116, q114_117, q114_120, q114_121, q114_122, q114_123, q114_124, q114_126, q114_129, q114_130, q114_131, q114_133, q114_136, q114_137, q114_138, q114_140, q114_143, q114_145, q114_147, q114_150, q114_153, q114_156, q114_157, q114_161, q114_162, q114_165, q114_166, q114_167, q114_170, q114_171, q114_172, q114_173, q114_174, q114_176, q114_179, q114_180, q114_181, q114_183, q114_186, q114_189, q114_192, q114_193, q114_194, q114_195, q114_196, q114_198, q114_201, q114_202, q114_203, q114_205, q114_208, q114_209, q114_210, q114_212, q114_215, q114_217, q114_219, q114_222, q114_225, q114_228, q114_e, sM_0 hM, sM_r9 hM, pm_rf_some, ar9 hM hb, nc24 hb, hB.2.2.1, e1, if_false]
      exact hQ S hW
  have L2 : ∀ S l5, mW S0 S m g (sp_join1 Ca Cb C (max Ca.2.1.length Cb.2.1.length)) → pm_V (d + 3) 114 109 [.ref m, .int (nI g), .int (nI a), .int (nI b), .int (nI 0), l5] [] S Q := by
    intro S l5 hW
    refine lp (n := Ca.2.2.1.length) (Inv := fun k S => mW S0 S m g (sp_join2 Ca (sp_join1 Ca Cb C (max Ca.2.1.length Cb.2.1.length)) k)) (head := fun k S => pm_V (d + 3) 114 109 [.ref m, .int (nI g), .int (nI a), .int (nI b), .int (nI k), l5] [] S Q) ?_ ?_ S hW
    · intro k S hk hW hN
      have hM := hW.1
      have hR := mW_R hW hR0 hne
      have e1 : nI k < nI Ca.2.2.1.length := nI_lt hk (by have := hR.2.2.2.1; omega)
      rw [q114_109]
      simp only [q114_0, q114_1, q114_5, q114_6, q114_9, q114_10, q114_11, q114_14, q114_16, q114_17, q114_20, q114_21, q114_22, q114_25, q114_27, q114_28, q114_31, q114_32, q114_33, q114_36, q114_37, q114_40, q114_41, q114_43, q114_44, q114_45, q114_47, q114_50, q114_51, q114_52, q114_54, q114_57, q114_60, q114_61, q114_62, q114_64, q114_67, q114_69, q114_72, q114_74, q114_77, q114_79, q114_81, q114_82, q114_85, q114_86, q114_87, q114_90, q114_92, q114_95, q114_97, q114_100, q114_103, q114_106, q114_107, q114_111, q114_112, q114_115, q114_116, q114_117, q114_120, q114_121, q114_122, q114_123, q114_124, q114_126, q114_129, q114_130, q114_131, q114_133, q114_136, q114_137, q114_138, q114_140, q114_143, q114_145, q114_147, q114_150, q114_153, q114_156, q114_157, q114_161, q114_162, q114_165, q114_166, q114_167, q114_170, q114_171, q114_172, q114_173, q114_174, q114_176, q114_179, q114_180, q114_181, q114_183, q114_186, q114_189, q114_192, q114_193, q114_194, q114_195, q114_196, q114_198, q114_201, q114_202, q114_203, q114_205, q114_208, q114_209, q114_210, q114_212, q114_215, q114_217, q114_219, q114_222, q114_225, q114_228, q114_e, sM_0 hM, sM_r9 hM, pm_rf_some, ar9 hM ha, nc24 ha, hR.2.2.1, e1, if_true, mr_to hM hR ha hk, mr_from hM hR ha hk, mr_arc hM hR ha hk, pm_tl_some, m_addArcW hW hg, pm_tl_none, nI_1]
      exact hN _ (by rw [sp_join2_s]; exact mW_arc (x := some k) (y := none) hW)
    · intro S hW
      have hM := hW.1
      have hR := mW_R hW hR0 hne
      have e1 : ¬ nI Ca.2.2.1.length < nI Ca.2.2.1.length := nI_nlt (Nat.le_refl _) (by have := hR.2.2.2.1; omega)
      rw [q114_109]
      simp only [q114_0, q114_1, q114_5, q114_6, q114_9, q114_10, q114_11, q114_14, q114_16, q114_17, q114_20, q114_21, q114_22, q114_25, q114_27, q114_28, q114_31, q114_32, q114_33, q114_36, q114_37, q114_40, q114_41, q114_43, q114_44, q114_45, q114_47, q114_50, q114_51, q114_52, q114_54, q114_57, q114_60, q114_61, q114_62, q114_64, q114_67, q114_69, q114_72, q114_74, q114_77, q114_79, q114_81, q114_82, q114_85, q114_86, q114_87, q114_90, q114_92, q114_95, q114_97, q114_100, q114_103, q114_106, q114_107, q114_111, q114_112, q114_115, q114_116, q114_117, q114_120, q114_121, q114_122, q114_123, q114_124, q114_126, q114_129, q114_130, q114_131, q114_133, q114_136, q114_137, q114_138, q114_140, q114_143, q114_145, q114_147, q114_150, q114_153, q114_156, q114_157, q114_161, q114_162, q114_165, q114_166, q114_167, q114_170, q114_171, q114_172, q114_173, q114_174, q114_176, q114_179, q114_180, q114_181, q114_183, q114_186, q114_189, q114_192, q114_193, q114_194, q114_195, q114_196, q114_198, q114_201, q114_202, q114_203, q114_205, q114_208, q114_209, q114_210, q114_212, q114_215, q114_217, q114_219, q114_222, q114_225, q114_228, q114_e, sM_0 hM, sM_r9 hM, pm_rf_some, ar9 hM ha, nc24 ha, hR.2.2.1, e1, if_false]
      exact L3 S _ hW
  have key : ∀ l5, pm_V (d + 3) 114 3 [.ref m, .int (nI g), .int (nI a), .int (nI b), .int (nI 0), l5] [] S Q := by
    refine lp (n := max Ca.2.1.length Cb.2.1.length) (Inv := fun k S => mW S0 S m g (sp_join1 Ca Cb C k)) (head := fun k S => ∀ l5, pm_V (d + 3) 114 3 [.ref m, .int (nI g), .int (nI a), .int (nI b), .int (nI k), l5] [] S Q) ?_ ?_ S hW
    · intro k S hk hW hN l5
      have hM := hW.1
      have hR := mW_R hW hR0 hne
      have hB := mW_R hW hB0 hnb
      have q1 := hR.2.1
      have q2 := hB.2.1
      have z1 : (nI k < nI Ca.2.1.length) = (k < Ca.2.1.length) := propext ⟨fun h => Classical.byContradiction fun q => nI_nlt (show Ca.2.1.length ≤ k by omega) (by omega) h, fun h => nI_lt h (by omega)⟩
      have z2 : (nI k < nI Cb.2.1.length) = (k < Cb.2.1.length) := propext ⟨fun h => Classical.byContradiction fun q => nI_nlt (show Cb.2.1.length ≤ k by omega) (by omega) h, fun h => nI_lt h (by omega)⟩
      rw [q114_3]
      by_cases c1 : k < Ca.2.1.length
      · simp only [q114_0, q114_1, q114_5, q114_6, q114_9, q114_10, q114_11, q114_14, q114_16, q114_17, q114_20, q114_21, q114_22, q114_25, q114_27, q114_28, q114_31, q114_32, q114_33, q114_36, q114_37, q114_40, q114_41, q114_43, q114_44, q114_45, q114_47, q114_50, q114_51, q114_52, q114_54, q114_57, q114_60, q114_61, q114_62, q114_64, q114_67, q114_69, q114_72, q114_74, q114_77, q114_79, q114_81, q114_82, q114_85, q114_86, q114_87, q114_90, q114_92, q114_95, q114_97, q114_100, q114_103, q114_106, q114_107, q114_111, q114_112, q114_115, q114_116, q114_117, q114_120, q114_121, q114_122, q114_123, q114_124, q114_126, q114_129, q114_130, q114_131, q114_133, q114_136, q114_137, q114_138, q114_140, q114_143, q114_145, q114_147, q114_150, q114_153, q114_156, q114_157, q114_161, q114_162, q114_165, q114_166, q114_167, q114_170, q114_171, q114_172, q114_173, q114_174, q114_176, q114_179, q114_180, q114_181, q114_183, q114_186, q114_189, q114_192, q114_193, q114_194, q114_195, q114_196, q114_198, q114_201, q114_202, q114_203, q114_205, q114_208, q114_209, q114_210, q114_212, q114_215, q114_217, q114_219, q114_222, q114_225, q114_228, q114_e, sM_0 hM, sM_r8 hM, pm_rf_some, ar8 hM ha, ar8 hM hb, nc24 ha, nc24 hb, hR.1, hB.1, z1, z2, c1, if_true, show ¬ (1 : Int32) = 0 by decide, if_false, mr_node hM hR ha c1, pm_tl_some, nI_1]
        by_cases c2 : k < Cb.2.1.length
        · simp only [c2, if_true, q114_0, q114_1, q114_5, q114_6, q114_9, q114_10, q114_11, q114_14, q114_16, q114_17, q114_20, q114_21, q114_22, q114_25, q114_27, q114_28, q114_31, q114_32, q114_33, q114_36, q114_37, q114_40, q114_41, q114_43, q114_44, q114_45, q114_47, q114_50, q114_51, q114_52, q114_54, q114_57, q114_60, q114_61, q114_62, q114_64, q114_67, q114_69, q114_72, q114_74, q114_77, q114_79, q114_81, q114_82, q114_85, q114_86, q114_87, q114_90, q114_92, q114_95, q114_97, q114_100, q114_103, q114_106, q114_107, q114_111, q114_112, q114_115, q114_116, q114_117, q114_120, q114_121, q114_122, q114_123, q114_124, q114_126, q114_129, q114_130, q114_131, q114_133, q114_136, q114_137, q114_138, q114_140, q114_143, q114_145, q114_147, q114_150, q114_153, q114_156, q114_157, q114_161, q114_162, q114_165, q114_166, q114_167, q114_170, q114_171, q114_172, q114_173, q114_174, q114_176, q114_179, q114_180, q114_181, q114_183, q114_186, q114_189, q114_192, q114_193, q114_194, q114_195, q114_196, q114_198, q114_201, q114_202, q114_203, q114_205, q114_208, q114_209, q114_210, q114_212, q114_215, q114_217, q114_219, q114_222, q114_225, q114_228, q114_e, sM_0 hM, m_addNodeW hW hg, pm_tl_none, nI_1]
          refine hN _ ?_ _
          rw [sp_join1_s, if_pos c1, if_pos c1, if_pos c2]
          exact mW_node (x := some k) (y := some k) hW
        · simp only [c2, if_false, q114_0, q114_1, q114_5, q114_6, q114_9, q114_10, q114_11, q114_14, q114_16, q114_17, q114_20, q114_21, q114_22, q114_25, q114_27, q114_28, q114_31, q114_32, q114_33, q114_36, q114_37, q114_40, q114_41, q114_43, q114_44, q114_45, q114_47, q114_50, q114_51, q114_52, q114_54, q114_57, q114_60, q114_61, q114_62, q114_64, q114_67, q114_69, q114_72, q114_74, q114_77, q114_79, q114_81, q114_82, q114_85, q114_86, q114_87, q114_90, q114_92, q114_95, q114_97, q114_100, q114_103, q114_106, q114_107, q114_111, q114_112, q114_115, q114_116, q114_117, q114_120, q114_121, q114_122, q114_123, q114_124, q114_126, q114_129, q114_130, q114_131, q114_133, q114_136, q114_137, q114_138, q114_140, q114_143, q114_145, q114_147, q114_150, q114_153, q114_156, q114_157, q114_161, q114_162, q114_165, q114_166, q114_167, q114_170, q114_171, q114_172, q114_173, q114_174, q114_176, q114_179, q114_180, q114_181, q114_183, q114_186, q114_189, q114_192, q114_193, q114_194, q114_195, q114_196, q114_198, q114_201, q114_202, q114_203, q114_205, q114_208, q114_209, q114_210, q114_212, q114_215, q114_217, q114_219, q114_222, q114_225, q114_228, q114_e, sM_0 hM, m_addNodeW hW hg, pm_tl_none, nI_1]
          refine hN _ ?_ _
          rw [sp_join1_s, if_pos c1, if_pos c1, if_neg c2]
          exact mW_node (x := some k) (y := none) hW
      · have c2 : k < Cb.2.1.length := by omega
        simp only [q114_0, q114_1, q114_5, q114_6, q114_9, q114_10, q114_11, q114_14, q114_16, q114_17, q114_20, q114_21, q114_22, q114_25, q114_27, q114_28, q114_31, q114_32, q114_33, q114_36, q114_37, q114_40, q114_41, q114_43, q114_44, q114_45, q114_47, q114_50, q114_51, q114_52, q114_54, q114_57, q114_60, q114_61, q114_62, q114_64, q114_67, q114_69, q114_72, q114_74, q114_77, q114_79, q114_81, q114_82, q114_85, q114_86, q114_87, q114_90, q114_92, q114_95, q114_97, q114_100, q114_103, q114_106, q114_107, q114_111, q114_112, q114_115, q114_116, q114_117, q114_120, q114_121, q114_122, q114_123, q114_124, q114_126, q114_129, q114_130, q114_131, q114_133, q114_136, q114_137, q114_138, q114_140, q114_143, q114_145, q114_147, q114_150, q114_153, q114_156, q114_157, q114_161, q114_162, q114_165, q114_166, q114_167, q114_170, q114_171, q114_172, q114_173, q114_174, q114_176, q114_179, q114_180, q114_181, q114_183, q114_186, q114_189, q114_192, q114_193, q114_194, q114_195, q114_196, q114_198, q114_201, q114_202, q114_203, q114_205, q114_208, q114_209, q114_210, q114_212, q114_215, q114_217, q114_219, q114_222, q114_225, q114_228, q114_e, sM_0 hM, sM_r8 hM, pm_rf_some, ar8 hM ha, ar8 hM hb, nc24 ha, nc24 hb, hR.1, hB.1, z1, z2, c1, c2, if_true, if_false, mr_node hM hB hb c2, pm_tl_some, m_addNodeW hW hg, pm_tl_none, nI_1]
        refine hN _ ?_ _
        rw [sp_join1_s, if_neg c1, if_neg c1, if_pos c2]
        exact mW_node (x := none) (y := some k) hW
    · intro S hW l5
      have hM := hW.1
      have hR := mW_R hW hR0 hne
      have hB := mW_R hW hB0 hnb
      have q1 := hR.2.1
      have q2 := hB.2.1
      have z1 : ¬ nI (max Ca.2.1.length Cb.2.1.length) < nI Ca.2.1.length := nI_nlt (by omega) (by omega)
      have z2 : ¬ nI (max Ca.2.1.length Cb.2.1.length) < nI Cb.2.1.length := nI_nlt (by omega) (by omega)
      rw [q114_3]
      simp only [q114_0, q114_1, q114_5, q114_6, q114_9, q114_10, q114_11, q114_14, q114_16, q114_17, q114_20, q114_21, q114_22, q114_25, q114_27, q114_28, q114_31, q114_32, q114_33, q114_36, q114_37, q114_40, q114_41, q114_43, q114_44, q114_45, q114_47, q114_50, q114_51, q114_52, q114_54, q114_57, q114_60, q114_61, q114_62, q114_64, q114_67, q114_69, q114_72, q114_74, q114_77, q114_79, q114_81, q114_82, q114_85, q114_86, q114_87, q114_90, q114_92, q114_95, q114_97, q114_100, q114_103, q114_106, q114_107, q114_111, q114_112, q114_115, q114_116, q114_117, q114_120, q114_121, q114_122, q114_123, q114_124, q114_126, q114_129, q114_130, q114_131, q114_133, q114_136, q114_137, q114_138, q114_140, q114_143, q114_145, q114_147, q114_150, q114_153, q114_156, q114_157, q114_161, q114_162, q114_165, q114_166, q114_167, q114_170, q114_171, q114_172, q114_173, q114_174, q114_176, q114_179, q114_180, q114_181, q114_183, q114_186, q114_189, q114_192, q114_193, q114_194, q114_195, q114_196, q114_198, q114_201, q114_202, q114_203, q114_205, q114_208, q114_209, q114_210, q114_212, q114_215, q114_217, q114_219, q114_222, q114_225, q114_228, q114_e, sM_0 hM, sM_r8 hM, pm_rf_some, ar8 hM ha, ar8 hM hb, nc24 ha, nc24 hb, hR.1, hB.1, z1, z2, if_false]
      exact L2 S _ hW
  exact key _
set_option maxHeartbeats 2000000 in
theorem m_lines (hg : g < 24) (ha : a < 24) (hne : a ≠ g) (hR0 : mR S0 m a Ca) (oa : sp_ok Ca) (hW : mW S0 S m g C) (hQ : ∀ S', mW S0 S' m g (sp_lines Ca C) → Q none S') : pm_N (d + 3) 117 [.ref m, .int (nI g), .int (nI a)] S Q := by
  simp only [q117_0, q117_1, q117_3, q117_4, q117_7, q117_8, q117_9, q117_12, q117_13, q117_14, q117_15, q117_16, q117_17, q117_20, q117_21, q117_23, q117_26, q117_29, q117_32, q117_33, q117_35, q117_36, q117_39, q117_40, q117_41, q117_44, q117_45, q117_49, q117_50, q117_53, q117_54, q117_55, q117_58, q117_59, q117_60, q117_62, q117_65, q117_66, q117_67, q117_68, q117_71, q117_74, q117_75, q117_76, q117_77, q117_79, q117_80, q117_81, q117_82, q117_83, q117_84, q117_87, q117_90, q117_91, q117_92, q117_93, q117_96, q117_98, q117_101, q117_104, q117_107, q117_110, q117_113, q117_e]
  have L2 : ∀ S l4, mW S0 S m g (sp_line1 Ca C Ca.2.2.1.length) → pm_V (d + 3) 117 34 [.ref m, .int (nI g), .int (nI a), .int (nI 0), l4] [] S Q := by
    intro S l4 hW
    revert l4
    refine lp (n := Ca.2.2.1.length) (Inv := fun k S => mW S0 S m g (sp_line3 Ca (sp_line1 Ca C Ca.2.2.1.length) k)) (head := fun k S => ∀ l4, pm_V (d + 3) 117 34 [.ref m, .int (nI g), .int (nI a), .int (nI k), l4] [] S Q) ?_ ?_ S hW
    · intro e S he hW hN l4
      have hM := hW.1
      have hR := mW_R hW hR0 hne
      have l2 := hR.2.2.2.1
      have e1 : nI e < nI Ca.2.2.1.length := nI_lt he (by omega)
      rw [q117_34]
      simp only [q117_0, q117_1, q117_3, q117_4, q117_7, q117_8, q117_9, q117_12, q117_13, q117_14, q117_15, q117_16, q117_17, q117_20, q117_21, q117_23, q117_26, q117_29, q117_32, q117_33, q117_35, q117_36, q117_39, q117_40, q117_41, q117_44, q117_45, q117_49, q117_50, q117_53, q117_54, q117_55, q117_58, q117_59, q117_60, q117_62, q117_65, q117_66, q117_67, q117_68, q117_71, q117_74, q117_75, q117_76, q117_77, q117_79, q117_80, q117_81, q117_82, q117_83, q117_84, q117_87, q117_90, q117_91, q117_92, q117_93, q117_96, q117_98, q117_101, q117_104, q117_107, q117_110, q117_113, q117_e, sM_0 hM, sM_r9 hM, pm_rf_some, ar9 hM ha, nc24 ha, hR.2.2.1, e1, if_true]
      refine lp (n := Ca.2.2.1.length) (Inv := fun k S => mW S0 S m g (sp_line2 Ca e (sp_line3 Ca (sp_line1 Ca C Ca.2.2.1.length) e) k)) (head := fun k S => pm_V (d + 3) 117 47 [.ref m, .int (nI g), .int (nI a), .int (nI e), .int (nI k)] [] S Q) ?_ ?_ S hW
      · intro k S hk hW hN
        have hM := hW.1
        have hR := mW_R hW hR0 hne
        have l1 := hR.2.1
        have o1 := oa k hk
        have o2 := oa e he
        have e1 : nI k < nI Ca.2.2.1.length := nI_lt hk (by omega)
        have z1 : (nI (sp_ar Ca k).1 = nI (sp_ar Ca e).2.1) = ((sp_ar Ca k).1 = (sp_ar Ca e).2.1) := nI_e' (by omega) (by omega)
        have hs : sp_line2 Ca e (sp_line3 Ca (sp_line1 Ca C Ca.2.2.1.length) e) (k + 1) = if (sp_ar Ca k).1 = (sp_ar Ca e).2.1 then sp_addA (sp_line2 Ca e (sp_line3 Ca (sp_line1 Ca C Ca.2.2.1.length) e) k) (e, k, (sp_nd Ca (sp_ar Ca e).2.1).1, some (sp_ar Ca e).2.1, none) else sp_line2 Ca e (sp_line3 Ca (sp_line1 Ca C Ca.2.2.1.length) e) k := by
          unfold sp_line2; rw [sp_for_n]
        rw [q117_47]
        simp only [q117_0, q117_1, q117_3, q117_4, q117_7, q117_8, q117_9, q117_12, q117_13, q117_14, q117_15, q117_16, q117_17, q117_20, q117_21, q117_23, q117_26, q117_29, q117_32, q117_33, q117_35, q117_36, q117_39, q117_40, q117_41, q117_44, q117_45, q117_49, q117_50, q117_53, q117_54, q117_55, q117_58, q117_59, q117_60, q117_62, q117_65, q117_66, q117_67, q117_68, q117_71, q117_74, q117_75, q117_76, q117_77, q117_79, q117_80, q117_81, q117_82, q117_83, q117_84, q117_87, q117_90, q117_91, q117_92, q117_93, q117_96, q117_98, q117_101, q117_104, q117_107, q117_110, q117_113, q117_e, sM_0 hM, sM_r9 hM, pm_rf_some, ar9 hM ha, nc24 ha, hR.2.2.1, e1, if_true, mr_from hM hR ha hk, mr_to hM hR ha he, mr_node hM hR ha o2.2, pm_tl_some, z1, m_addArcW hW hg, pm_tl_none, nI_1]
        by_cases hc : (sp_ar Ca k).1 = (sp_ar Ca e).2.1
        · rw [if_pos hc]
          exact hN _ (by rw [hs, if_pos hc]; exact mW_arc (x := some (sp_ar Ca e).2.1) (y := none) hW)
        · rw [if_neg hc]
          exact hN _ (by rw [hs, if_neg hc]; exact hW)
      · intro S hW
        have hM := hW.1
        have hR := mW_R hW hR0 hne
        have e1 : ¬ nI Ca.2.2.1.length < nI Ca.2.2.1.length := nI_nlt (Nat.le_refl _) (by omega)
        rw [q117_47]
        simp only [q117_0, q117_1, q117_3, q117_4, q117_7, q117_8, q117_9, q117_12, q117_13, q117_14, q117_15, q117_16, q117_17, q117_20, q117_21, q117_23, q117_26, q117_29, q117_32, q117_33, q117_35, q117_36, q117_39, q117_40, q117_41, q117_44, q117_45, q117_49, q117_50, q117_53, q117_54, q117_55, q117_58, q117_59, q117_60, q117_62, q117_65, q117_66, q117_67, q117_68, q117_71, q117_74, q117_75, q117_76, q117_77, q117_79, q117_80, q117_81, q117_82, q117_83, q117_84, q117_87, q117_90, q117_91, q117_92, q117_93, q117_96, q117_98, q117_101, q117_104, q117_107, q117_110, q117_113, q117_e, sM_0 hM, sM_r9 hM, pm_rf_some, ar9 hM ha, nc24 ha, hR.2.2.1, e1, if_false, nI_1]
        exact hN S (by unfold sp_line3 at hW ⊢; rw [sp_for_n]; exact hW) _
    · intro S hW l4
      have hM := hW.1
      have hR := mW_R hW hR0 hne
      have e1 : ¬ nI Ca.2.2.1.length < nI Ca.2.2.1.length := nI_nlt (Nat.le_refl _) (by have := hR.2.2.2.1; omega)
      rw [q117_34]
      simp only [q117_0, q117_1, q117_3, q117_4, q117_7, q117_8, q117_9, q117_12, q117_13, q117_14, q117_15, q117_16, q117_17, q117_20, q117_21, q117_23, q117_26, q117_29, q117_32, q117_33, q117_35, q117_36, q117_39, q117_40, q117_41, q117_44, q117_45, q117_49, q117_50, q117_53, q117_54, q117_55, q117_58, q117_59, q117_60, q117_62, q117_65, q117_66, q117_67, q117_68, q117_71, q117_74, q117_75, q117_76, q117_77, q117_79, q117_80, q117_81, q117_82, q117_83, q117_84, q117_87, q117_90, q117_91, q117_92, q117_93, q117_96, q117_98, q117_101, q117_104, q117_107, q117_110, q117_113, q117_e, sM_0 hM, sM_r9 hM, pm_rf_some, ar9 hM ha, nc24 ha, hR.2.2.1, e1, if_false]
      exact hQ S hW
  refine lp (n := Ca.2.2.1.length) (Inv := fun k S => mW S0 S m g (sp_line1 Ca C k)) (head := fun k S => pm_V (d + 3) 117 2 [.ref m, .int (nI g), .int (nI a), .int (nI k), pm_j] [] S Q) ?_ ?_ S hW
  · intro k S hk hW hN
    have hM := hW.1
    have hR := mW_R hW hR0 hne
    have e1 : nI k < nI Ca.2.2.1.length := nI_lt hk (by have := hR.2.2.2.1; omega)
    rw [q117_2]
    simp only [q117_0, q117_1, q117_3, q117_4, q117_7, q117_8, q117_9, q117_12, q117_13, q117_14, q117_15, q117_16, q117_17, q117_20, q117_21, q117_23, q117_26, q117_29, q117_32, q117_33, q117_35, q117_36, q117_39, q117_40, q117_41, q117_44, q117_45, q117_49, q117_50, q117_53, q117_54, q117_55, q117_58, q117_59, q117_60, q117_62, q117_65, q117_66, q117_67, q117_68, q117_71, q117_74, q117_75, q117_76, q117_77, q117_79, q117_80, q117_81, q117_82, q117_83, q117_84, q117_87, q117_90, q117_91, q117_92, q117_93, q117_96, q117_98, q117_101, q117_104, q117_107, q117_110, q117_113, q117_e, sM_0 hM, sM_r9 hM, pm_rf_some, ar9 hM ha, nc24 ha, hR.2.2.1, e1, if_true, mr_arc hM hR ha hk, pm_tl_some, m_addNodeW hW hg, pm_tl_none, nI_1]
    exact hN _ (by unfold sp_line1; rw [sp_for_n]; exact mW_node (x := some k) (y := none) hW)
  · intro S hW
    have hM := hW.1
    have hR := mW_R hW hR0 hne
    have e1 : ¬ nI Ca.2.2.1.length < nI Ca.2.2.1.length := nI_nlt (Nat.le_refl _) (by have := hR.2.2.2.1; omega)
    rw [q117_2]
    simp only [q117_0, q117_1, q117_3, q117_4, q117_7, q117_8, q117_9, q117_12, q117_13, q117_14, q117_15, q117_16, q117_17, q117_20, q117_21, q117_23, q117_26, q117_29, q117_32, q117_33, q117_35, q117_36, q117_39, q117_40, q117_41, q117_44, q117_45, q117_49, q117_50, q117_53, q117_54, q117_55, q117_58, q117_59, q117_60, q117_62, q117_65, q117_66, q117_67, q117_68, q117_71, q117_74, q117_75, q117_76, q117_77, q117_79, q117_80, q117_81, q117_82, q117_83, q117_84, q117_87, q117_90, q117_91, q117_92, q117_93, q117_96, q117_98, q117_101, q117_104, q117_107, q117_110, q117_113, q117_e, sM_0 hM, sM_r9 hM, pm_rf_some, ar9 hM ha, nc24 ha, hR.2.2.1, e1, if_false]
    exact L2 S _ hW
end
