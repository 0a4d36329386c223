/-! ===== THE REFERENCE: same, ask, count, reach ===== -/
section
variable {S S' : pm_T} {m a b n k d j L : Nat} {C Ca Cb : sp_C} {u : Prop} {Z : sp_S} {Q : Option Value → pm_T → Prop} {g wh e wc i t x s : Int32}
theorem mL_fr {P : Nat → Nat → Prop} (h : mL S m Z) (h24 : Z.1.length ≤ 24) (hf : frI P S S') (hP : ∀ b k, P b k → mS m b k) : mL S' m Z := by
  obtain ⟨hM, l0, l23, lT, lB, lG⟩ := h
  have nP : ∀ b k, ¬ mS m b k → ¬ P b k := fun b k q z => q (hP b k z)
  refine ⟨sM_frI hM hf, ?_, ?_, mTs_fr lT hf (fun b k q1 q2 => nP _ _ (by unfold mS; omega)), mLb_fr lB hf (fun k => nP _ _ (by unfold mS; omega)), fun j hj => ⟨mG_fr (lG j hj).1 hf (fun b q1 q2 => nP _ _ (by unfold mS; omega)), fun q => mC_fr ((lG j hj).2 q) hf (fun b k z => nP _ _ (mB_s b k z))⟩⟩
  · rw [(hf.2.2.2.2.2 m 0 (nP _ _ (by unfold mS; omega))).1]; exact l0
  · rw [(hf.2.2.2.2.2 m 23 (nP _ _ (by unfold mS; omega))).1]; exact l23
theorem mI_s (hw : wf Z) (h : mI S m Z) (hf : frI (mS m) S S') : mI S' m Z := by
  refine ⟨mL_fr h.1 hw.1 hf (fun _ _ q => q), ?_⟩
  rw [(hf.2.2.2.2.2 m 21 (by unfold mS; omega)).1]
  rcases h.2 with q | ⟨q1, q2⟩
  · exact Or.inl q
  · exact Or.inr ⟨q1, fun j hj => mC_fr (q2 j hj) hf mB_s⟩
theorem mS_O : ∀ b k, mS m b k → mO m b := fun b k q => by unfold mS at q; unfold mO; omega
theorem sp_all_mono {p : Nat → Bool} (h : sp_all p k = false) : ∀ n, k ≤ n → sp_all p n = false
  | 0, hk => by have : k = 0 := by omega
                rw [this] at h; exact h
  | n + 1, hk => by
    by_cases e : k = n + 1
    · rw [← e]; exact h
    · rw [sp_all_s, sp_all_mono h n (by omega), Bool.false_and]
theorem m_same_1 {l4 : Int32} (hM : sM S m) (ha : a < 24) (hb : b < 24) (ra : mR S m a Ca) (rb : mR S m b Cb) (hn : Ca.2.1.length = Cb.2.1.length) : ∀ n k, k + n = Ca.2.1.length → pm_V (d + 1) 137 84 [.ref m, .int (nI a), .int (nI b), .int (if sp_all (fun i => decide ((sp_nd Ca i).1 = (sp_nd Cb i).1)) k = true then 1 else 0), .int (nI k)] [] S Q = pm_V (d + 1) 137 132 [.ref m, .int (nI a), .int (nI b), .int (if sp_all (fun i => decide ((sp_nd Ca i).1 = (sp_nd Cb i).1)) Ca.2.1.length = true then 1 else 0), .int (nI 0)] [] S Q := by
  have l1 := ra.2.1
  intro n
  induction n with
  | zero =>
    intro k hk
    have : k = Ca.2.1.length := by omega
    subst this
    have e1 : ¬ nI Ca.2.1.length < nI Ca.2.1.length := nI_nlt (Nat.le_refl _) (by omega)
    rw [q137_84]
    simp only [q137_0, q137_1, q137_2, q137_5, q137_8, q137_9, q137_10, q137_13, q137_16, q137_18, q137_19, q137_20, q137_23, q137_24, q137_27, q137_28, q137_29, q137_32, q137_33, q137_36, q137_37, q137_38, q137_41, q137_44, q137_45, q137_46, q137_49, q137_50, q137_51, q137_52, q137_55, q137_56, q137_57, q137_60, q137_61, q137_64, q137_65, q137_66, q137_67, q137_70, q137_71, q137_72, q137_75, q137_76, q137_79, q137_80, q137_81, q137_82, q137_86, q137_87, q137_90, q137_91, q137_92, q137_95, q137_96, q137_99, q137_100, q137_101, q137_103, q137_106, q137_107, q137_108, q137_110, q137_113, q137_114, q137_117, q137_118, q137_121, q137_122, q137_123, q137_126, q137_129, q137_130, q137_134, q137_135, q137_138, q137_139, q137_140, q137_143, q137_144, q137_147, q137_148, q137_149, q137_151, q137_154, q137_155, q137_156, q137_158, q137_161, q137_164, q137_165, q137_166, q137_168, q137_171, q137_172, q137_173, q137_175, q137_178, q137_181, q137_182, q137_183, q137_185, q137_188, q137_189, q137_190, q137_192, q137_195, q137_196, q137_199, q137_200, q137_203, q137_204, q137_205, q137_208, q137_211, q137_212, q137_215, q137_216, q137_219, q137_220, q137_e, sM_0 hM, sM_r8 hM, pm_rf_some, ar8 hM ha, nc24 ha, ra.1, e1, if_false]
    rfl
  | succ n ih =>
    intro k hk
    have e1 : nI k < nI Ca.2.1.length := nI_lt (by omega) (by omega)
    have := ih (k + 1) (by omega)
    rw [sp_all_s] at this
    rw [q137_84]
    simp only [q137_0, q137_1, q137_2, q137_5, q137_8, q137_9, q137_10, q137_13, q137_16, q137_18, q137_19, q137_20, q137_23, q137_24, q137_27, q137_28, q137_29, q137_32, q137_33, q137_36, q137_37, q137_38, q137_41, q137_44, q137_45, q137_46, q137_49, q137_50, q137_51, q137_52, q137_55, q137_56, q137_57, q137_60, q137_61, q137_64, q137_65, q137_66, q137_67, q137_70, q137_71, q137_72, q137_75, q137_76, q137_79, q137_80, q137_81, q137_82, q137_86, q137_87, q137_90, q137_91, q137_92, q137_95, q137_96, q137_99, q137_100, q137_101, q137_103, q137_106, q137_107, q137_108, q137_110, q137_113, q137_114, q137_117, q137_118, q137_121, q137_122, q137_123, q137_126, q137_129, q137_130, q137_134, q137_135, q137_138, q137_139, q137_140, q137_143, q137_144, q137_147, q137_148, q137_149, q137_151, q137_154, q137_155, q137_156, q137_158, q137_161, q137_164, q137_165, q137_166, q137_168, q137_171, q137_172, q137_173, q137_175, q137_178, q137_181, q137_182, q137_183, q137_185, q137_188, q137_189, q137_190, q137_192, q137_195, q137_196, q137_199, q137_200, q137_203, q137_204, q137_205, q137_208, q137_211, q137_212, q137_215, q137_216, q137_219, q137_220, q137_e, sM_0 hM, sM_r8 hM, pm_rf_some, ar8 hM ha, nc24 ha, ra.1, e1, if_true, pm_z1, mr_node hM ra ha (show k < Ca.2.1.length by omega), mr_node hM rb hb (show k < Cb.2.1.length by omega), pm_tl_some, lg_cmp_eq, nI_1]
    cases hc : sp_all (fun i => decide ((sp_nd Ca i).1 = (sp_nd Cb i).1)) k with
    | false =>
      simp only [Bool.false_eq_true, not_false_eq_true, if_true, if_false, sp_all_mono hc Ca.2.1.length (by omega)]
      rfl
    | true =>
      rw [hc, Bool.true_and] at this
      simp only [not_true_eq_false, if_false]
      by_cases h2 : (sp_nd Ca k).1 = (sp_nd Cb k).1
      · rw [if_pos h2]
        simpa [h2] using this
      · rw [if_neg h2]
        simpa [h2] using this
theorem m_same_2 (hM : sM S m) (ha : a < 24) (hb : b < 24) (ra : mR S m a Ca) (rb : mR S m b Cb) (oa : sp_ok Ca) (ob : sp_ok Cb) (hn : Ca.2.2.1.length = Cb.2.2.1.length) {q0 : Bool} : ∀ n k, k + n = Ca.2.2.1.length → pm_V (d + 1) 137 132 [.ref m, .int (nI a), .int (nI b), .int (if (q0 && sp_all (fun e => decide ((sp_ar Ca e).1 = (sp_ar Cb e).1) && decide ((sp_ar Ca e).2.1 = (sp_ar Cb e).2.1) && decide ((sp_ar Ca e).2.2.1 = (sp_ar Cb e).2.2.1)) k) = true then 1 else 0), .int (nI k)] [] S Q = Q (some (.int (if (q0 && sp_all (fun e => decide ((sp_ar Ca e).1 = (sp_ar Cb e).1) && decide ((sp_ar Ca e).2.1 = (sp_ar Cb e).2.1) && decide ((sp_ar Ca e).2.2.1 = (sp_ar Cb e).2.2.1)) Ca.2.2.1.length) = true then 1 else 0))) S := by
  have l1 := ra.2.1
  have l2 := ra.2.2.2.1
  have l3 := rb.2.1
  intro n
  induction n with
  | zero =>
    intro k hk
    have : k = Ca.2.2.1.length := by omega
    subst this
    have e1 : ¬ nI Ca.2.2.1.length < nI Ca.2.2.1.length := nI_nlt (Nat.le_refl _) (by omega)
    rw [q137_132]
    simp only [q137_0, q137_1, q137_2, q137_5, q137_8, q137_9, q137_10, q137_13, q137_16, q137_18, q137_19, q137_20, q137_23, q137_24, q137_27, q137_28, q137_29, q137_32, q137_33, q137_36, q137_37, q137_38, q137_41, q137_44, q137_45, q137_46, q137_49, q137_50, q137_51, q137_52, q137_55, q137_56, q137_57, q137_60, q137_61, q137_64, q137_65, q137_66, q137_67, q137_70, q137_71, q137_72, q137_75, q137_76, q137_79, q137_80, q137_81, q137_82, q137_86, q137_87, q137_90, q137_91, q137_92, q137_95, q137_96, q137_99, q137_100, q137_101, q137_103, q137_106, q137_107, q137_108, q137_110, q137_113, q137_114, q137_117, q137_118, q137_121, q137_122, q137_123, q137_126, q137_129, q137_130, q137_134, q137_135, q137_138, q137_139, q137_140, q137_143, q137_144, q137_147, q137_148, q137_149, q137_151, q137_154, q137_155, q137_156, q137_158, q137_161, q137_164, q137_165, q137_166, q137_168, q137_171, q137_172, q137_173, q137_175, q137_178, q137_181, q137_182, q137_183, q137_185, q137_188, q137_189, q137_190, q137_192, q137_195, q137_196, q137_199, q137_200, q137_203, q137_204, q137_205, q137_208, q137_211, q137_212, q137_215, q137_216, q137_219, q137_220, q137_e, sM_0 hM, sM_r9 hM, pm_rf_some, ar9 hM ha, nc24 ha, ra.2.2.1, e1, if_false, pm_z1]
    split
    · rfl
    · next h => rw [if_pos (Classical.not_not.mp h)]
  | succ n ih =>
    intro k hk
    have ka : k < Ca.2.2.1.length := by omega
    have kb : k < Cb.2.2.1.length := by omega
    have o1 := oa k ka
    have o2 := ob k kb
    have e1 : nI k < nI Ca.2.2.1.length := nI_lt (by omega) (by omega)
    have z1 : (nI (sp_ar Ca k).1 = nI (sp_ar Cb k).1) = ((sp_ar Ca k).1 = (sp_ar Cb k).1) := nI_e' (by omega) (by omega)
    have z2 : (nI (sp_ar Ca k).2.1 = nI (sp_ar Cb k).2.1) = ((sp_ar Ca k).2.1 = (sp_ar Cb k).2.1) := nI_e' (by omega) (by omega)
    have := ih (k + 1) (by omega)
    rw [sp_all_s] at this
    rw [q137_132]
    simp only [q137_0, q137_1, q137_2, q137_5, q137_8, q137_9, q137_10, q137_13, q137_16, q137_18, q137_19, q137_20, q137_23, q137_24, q137_27, q137_28, q137_29, q137_32, q137_33, q137_36, q137_37, q137_38, q137_41, q137_44, q137_45, q137_46, q137_49, q137_50, q137_51, q137_52, q137_55, q137_56, q137_57, q137_60, q137_61, q137_64, q137_65, q137_66, q137_67, q137_70, q137_71, q137_72, q137_75, q137_76, q137_79, q137_80, q137_81, q137_82, q137_86, q137_87, q137_90, q137_91, q137_92, q137_95, q137_96, q137_99, q137_100, q137_101, q137_103, q137_106, q137_107, q137_108, q137_110, q137_113, q137_114, q137_117, q137_118, q137_121, q137_122, q137_123, q137_126, q137_129, q137_130, q137_134, q137_135, q137_138, q137_139, q137_140, q137_143, q137_144, q137_147, q137_148, q137_149, q137_151, q137_154, q137_155, q137_156, q137_158, q137_161, q137_164, q137_165, q137_166, q137_168, q137_171, q137_172, q137_173, q137_175, q137_178, q137_181, q137_182, q137_183, q137_185, q137_188, q137_189, q137_190, q137_192, q137_195, q137_196, q137_199, q137_200, q137_203, q137_204, q137_205, q137_208, q137_211, q137_212, q137_215, q137_216, q137_219, q137_220, q137_e, sM_0 hM, sM_r9 hM, pm_rf_some, ar9 hM ha, nc24 ha, ra.2.2.1, e1, if_true, pm_z1, mr_from hM ra ha ka, mr_to hM ra ha ka, mr_arc hM ra ha ka, mr_from hM rb hb kb, mr_to hM rb hb kb, mr_arc hM rb hb kb, pm_tl_some, z1, z2, lg_cmp_eq, nI_1]
    cases hc : (q0 && sp_all (fun e => decide ((sp_ar Ca e).1 = (sp_ar Cb e).1) && decide ((sp_ar Ca e).2.1 = (sp_ar Cb e).2.1) && decide ((sp_ar Ca e).2.2.1 = (sp_ar Cb e).2.2.1)) k) with
    | false =>
      have : (q0 && sp_all (fun e => decide ((sp_ar Ca e).1 = (sp_ar Cb e).1) && decide ((sp_ar Ca e).2.1 = (sp_ar Cb e).2.1) && decide ((sp_ar Ca e).2.2.1 = (sp_ar Cb e).2.2.1)) Ca.2.2.1.length) = false := by
        cases hq : q0 with
        | false => rfl
        | true =>
          rw [hq, Bool.true_and] at hc
          rw [Bool.true_and]
          exact sp_all_mono hc _ (by omega)
      simp only [Bool.false_eq_true, not_false_eq_true, if_true, if_false, this]
    | true =>
      rw [← Bool.and_assoc, hc, Bool.true_and] at this
      simp only [not_true_eq_false, if_false]
      by_cases h1 : (sp_ar Ca k).1 = (sp_ar Cb k).1
      · rw [if_pos h1]
        by_cases h2 : (sp_ar Ca k).2.1 = (sp_ar Cb k).2.1
        · rw [if_pos h2]
          by_cases h3 : (sp_ar Ca k).2.2.1 = (sp_ar Cb k).2.2.1
          · rw [if_pos h3]
            simpa [h1, h2, h3] using this
          · rw [if_neg h3]
            simpa [h1, h2, h3] using this
        · rw [if_neg h2]
          simpa [h1, h2] using this
      · rw [if_neg h1]
        simpa [h1] using this
set_option maxHeartbeats 2000000 in
theorem m_same (hw : wf Z) (hI : mI S m Z) (hQ : ∀ S', mI S' m Z → mF m S S' → Q (some (.int (op_same Z g e))) S') : pm_N (d + 9) 137 [.ref m, .int g, .int e] S Q := by
  have h24 := hw.1
  have hM := hI.1.1
  unfold op_same at hQ
  simp only [q137_0, q137_1, q137_2, q137_5, q137_8, q137_9, q137_10, q137_13, q137_16, q137_18, q137_19, q137_20, q137_23, q137_24, q137_27, q137_28, q137_29, q137_32, q137_33, q137_36, q137_37, q137_38, q137_41, q137_44, q137_45, q137_46, q137_49, q137_50, q137_51, q137_52, q137_55, q137_56, q137_57, q137_60, q137_61, q137_64, q137_65, q137_66, q137_67, q137_70, q137_71, q137_72, q137_75, q137_76, q137_79, q137_80, q137_81, q137_82, q137_86, q137_87, q137_90, q137_91, q137_92, q137_95, q137_96, q137_99, q137_100, q137_101, q137_103, q137_106, q137_107, q137_108, q137_110, q137_113, q137_114, q137_117, q137_118, q137_121, q137_122, q137_123, q137_126, q137_129, q137_130, q137_132, q137_134, q137_135, q137_138, q137_139, q137_140, q137_143, q137_144, q137_147, q137_148, q137_149, q137_151, q137_154, q137_155, q137_156, q137_158, q137_161, q137_164, q137_165, q137_166, q137_168, q137_171, q137_172, q137_173, q137_175, q137_178, q137_181, q137_182, q137_183, q137_185, q137_188, q137_189, q137_190, q137_192, q137_195, q137_196, q137_199, q137_200, q137_203, q137_204, q137_205, q137_208, q137_211, q137_212, q137_215, q137_216, q137_219, q137_220, q137_e, sM_0 hM, m_isG hw hI.1, pm_tl_some, pm_z1]
  cases hk : ix g Z.1.length with
  | none =>
    rw [hk] at hQ
    simp only [Option.isSome_none, Bool.false_eq_true, not_false_eq_true, if_true]
    exact hQ S hI mF.rf
  | some j =>
    rw [hk] at hQ
    dsimp only at hQ
    obtain ⟨hj, rfl⟩ := ix_some (by omega) hk
    have hj24 : j < 24 := by omega
    simp only [Option.isSome_some, not_true_eq_false, if_false]
    cases he : ix e Z.1.length with
    | none =>
      rw [he] at hQ
      simp only [Option.isSome_none, Bool.false_eq_true, not_false_eq_true, if_true]
      exact hQ S hI mF.rf
    | some k =>
      rw [he] at hQ
      dsimp only at hQ
      obtain ⟨hk2, rfl⟩ := ix_some (by omega) he
      have hk24 : k < 24 := by omega
      simp only [Option.isSome_some, not_true_eq_false, if_false]
      refine m_reckon (d := d) hw hI fun S1 i1 hA f1 n1 z1 => ?_
      have hR1 := hQ S1 i1 ⟨f1, n1, z1⟩
      have hM1 := i1.1.1
      have hC := hA j hj
      have hD := hA k hk2
      have z7 := mC_7 hC
      have z8 := mC_7 hD
      simp only [pm_tl_none, q137_0, q137_1, q137_2, q137_5, q137_8, q137_9, q137_10, q137_13, q137_16, q137_18, q137_19, q137_20, q137_23, q137_24, q137_27, q137_28, q137_29, q137_32, q137_33, q137_36, q137_37, q137_38, q137_41, q137_44, q137_45, q137_46, q137_49, q137_50, q137_51, q137_52, q137_55, q137_56, q137_57, q137_60, q137_61, q137_64, q137_65, q137_66, q137_67, q137_70, q137_71, q137_72, q137_75, q137_76, q137_79, q137_80, q137_81, q137_82, q137_86, q137_87, q137_90, q137_91, q137_92, q137_95, q137_96, q137_99, q137_100, q137_101, q137_103, q137_106, q137_107, q137_108, q137_110, q137_113, q137_114, q137_117, q137_118, q137_121, q137_122, q137_123, q137_126, q137_129, q137_130, q137_132, q137_134, q137_135, q137_138, q137_139, q137_140, q137_143, q137_144, q137_147, q137_148, q137_149, q137_151, q137_154, q137_155, q137_156, q137_158, q137_161, q137_164, q137_165, q137_166, q137_168, q137_171, q137_172, q137_173, q137_175, q137_178, q137_181, q137_182, q137_183, q137_185, q137_188, q137_189, q137_190, q137_192, q137_195, q137_196, q137_199, q137_200, q137_203, q137_204, q137_205, q137_208, q137_211, q137_212, q137_215, q137_216, q137_219, q137_220, q137_e, sM_0 hM1, sM_r7 hM1, sM_r8 hM1, sM_r9 hM1, pm_rf_some, ar7 hM1 hj24, ar7 hM1 hk24, ar8 hM1 hj24, ar8 hM1 hk24, ar9 hM1 hj24, ar9 hM1 hk24, nc24 hj24, nc24 hk24, z7, z8]
      by_cases c6 : (ct Z j).1 = 0
      · rw [if_pos c6]; rw [if_pos c6] at hR1
        by_cases c7 : (ct Z k).1 = 0
        · rw [if_pos c7]; rw [if_pos c7] at hR1
          obtain ⟨r1, -, -⟩ := hC.2.2 c6
          obtain ⟨s1, -, -⟩ := hD.2.2 c7
          have q1 := r1.2.1
          have q2 := r1.2.2.2.1
          have q3 := s1.2.1
          have q4 := s1.2.2.2.1
          have zn : (nI (ct Z j).2.1.length = nI (ct Z k).2.1.length) = ((ct Z j).2.1.length = (ct Z k).2.1.length) := nI_e' (by omega) (by omega)
          have zm : (nI (ct Z j).2.2.1.length = nI (ct Z k).2.2.1.length) = ((ct Z j).2.2.1.length = (ct Z k).2.2.1.length) := nI_e' (by omega) (by omega)
          simp only [r1.1, r1.2.2.1, s1.1, s1.2.2.1, zn, zm]
          have no : sp_like (ct Z j) (ct Z k) = false → pm_V (d + 9) 137 84 [.ref m, .int (nI j), .int (nI k), .int 0, .int 0] [] S1 Q := by
            intro hz
            rw [hz] at hR1
            rw [q137_84]
            simp only [q137_0, q137_1, q137_2, q137_5, q137_8, q137_9, q137_10, q137_13, q137_16, q137_18, q137_19, q137_20, q137_23, q137_24, q137_27, q137_28, q137_29, q137_32, q137_33, q137_36, q137_37, q137_38, q137_41, q137_44, q137_45, q137_46, q137_49, q137_50, q137_51, q137_52, q137_55, q137_56, q137_57, q137_60, q137_61, q137_64, q137_65, q137_66, q137_67, q137_70, q137_71, q137_72, q137_75, q137_76, q137_79, q137_80, q137_81, q137_82, q137_86, q137_87, q137_90, q137_91, q137_92, q137_95, q137_96, q137_99, q137_100, q137_101, q137_103, q137_106, q137_107, q137_108, q137_110, q137_113, q137_114, q137_117, q137_118, q137_121, q137_122, q137_123, q137_126, q137_129, q137_130, q137_134, q137_135, q137_138, q137_139, q137_140, q137_143, q137_144, q137_147, q137_148, q137_149, q137_151, q137_154, q137_155, q137_156, q137_158, q137_161, q137_164, q137_165, q137_166, q137_168, q137_171, q137_172, q137_173, q137_175, q137_178, q137_181, q137_182, q137_183, q137_185, q137_188, q137_189, q137_190, q137_192, q137_195, q137_196, q137_199, q137_200, q137_203, q137_204, q137_205, q137_208, q137_211, q137_212, q137_215, q137_216, q137_219, q137_220, q137_e, sM_0 hM1, sM_r8 hM1, pm_rf_some, ar8 hM1 hj24, nc24 hj24, if_true, ite_self]
            rw [q137_132]
            simp only [q137_0, q137_1, q137_2, q137_5, q137_8, q137_9, q137_10, q137_13, q137_16, q137_18, q137_19, q137_20, q137_23, q137_24, q137_27, q137_28, q137_29, q137_32, q137_33, q137_36, q137_37, q137_38, q137_41, q137_44, q137_45, q137_46, q137_49, q137_50, q137_51, q137_52, q137_55, q137_56, q137_57, q137_60, q137_61, q137_64, q137_65, q137_66, q137_67, q137_70, q137_71, q137_72, q137_75, q137_76, q137_79, q137_80, q137_81, q137_82, q137_86, q137_87, q137_90, q137_91, q137_92, q137_95, q137_96, q137_99, q137_100, q137_101, q137_103, q137_106, q137_107, q137_108, q137_110, q137_113, q137_114, q137_117, q137_118, q137_121, q137_122, q137_123, q137_126, q137_129, q137_130, q137_134, q137_135, q137_138, q137_139, q137_140, q137_143, q137_144, q137_147, q137_148, q137_149, q137_151, q137_154, q137_155, q137_156, q137_158, q137_161, q137_164, q137_165, q137_166, q137_168, q137_171, q137_172, q137_173, q137_175, q137_178, q137_181, q137_182, q137_183, q137_185, q137_188, q137_189, q137_190, q137_192, q137_195, q137_196, q137_199, q137_200, q137_203, q137_204, q137_205, q137_208, q137_211, q137_212, q137_215, q137_216, q137_219, q137_220, q137_e, sM_0 hM1, sM_r9 hM1, pm_rf_some, ar9 hM1 hj24, nc24 hj24, if_true, ite_self]
            exact hR1
          by_cases en : (ct Z j).2.1.length = (ct Z k).2.1.length
          · rw [if_pos en]
            by_cases em : (ct Z j).2.2.1.length = (ct Z k).2.2.1.length
            · rw [if_pos em]
              have e1 := m_same_1 (d := d + 8) (Q := Q) (l4 := 0) hM1 hj24 hk24 r1 s1 en _ 0 (Nat.zero_add _)
              have e2 := m_same_2 (d := d + 8) (Q := Q) (q0 := sp_all (fun i => decide ((sp_nd (ct Z j) i).1 = (sp_nd (ct Z k) i).1)) (ct Z j).2.1.length) hM1 hj24 hk24 r1 s1 (ct_gd hw _ _ (Nat.lt_succ_self _) hj c6) (ct_gd hw _ _ (Nat.lt_succ_self _) hk2 c7) em _ 0 (Nat.zero_add _)
              have el : sp_like (ct Z j) (ct Z k) = (sp_all (fun i => decide ((sp_nd (ct Z j) i).1 = (sp_nd (ct Z k) i).1)) (ct Z j).2.1.length && sp_all (fun e => decide ((sp_ar (ct Z j) e).1 = (sp_ar (ct Z k) e).1) && decide ((sp_ar (ct Z j) e).2.1 = (sp_ar (ct Z k) e).2.1) && decide ((sp_ar (ct Z j) e).2.2.1 = (sp_ar (ct Z k) e).2.2.1)) (ct Z j).2.2.1.length) := by
                unfold sp_like
                rw [decide_eq_true en, decide_eq_true em, Bool.true_and, Bool.true_and]
              rw [el] at hR1
              rw [show sp_all (fun e => decide ((sp_ar (ct Z j) e).1 = (sp_ar (ct Z k) e).1) && decide ((sp_ar (ct Z j) e).2.1 = (sp_ar (ct Z k) e).2.1) && decide ((sp_ar (ct Z j) e).2.2.1 = (sp_ar (ct Z k) e).2.2.1)) 0 = true from rfl, Bool.and_true] at e2
              exact Eq.mpr (e1.trans e2) hR1
            · rw [if_neg em]
              exact no (by unfold sp_like; rw [decide_eq_false em, Bool.and_false]; rfl)
          · rw [if_neg en]
            exact no (by unfold sp_like; rw [decide_eq_false en]; rfl)
        · rw [if_neg c7]; rw [if_neg c7] at hR1; exact hR1
      · rw [if_neg c6]; rw [if_neg c6] at hR1; exact hR1
set_option maxHeartbeats 2000000 in
theorem m_ask (hw : wf Z) (hI : mI S m Z) (hQ : ∀ S', mI S' m Z → mF m S S' → Q (some (.int (op_ask Z g wh i t))) S') : pm_N (d + 9) 139 [.ref m, .int g, .int wh, .int i, .int t] S Q := by
  have h24 := hw.1
  have h20 := hw.2.1.1
  have hM := hI.1.1
  unfold op_ask at hQ
  simp only [q139_0, q139_1, q139_2, q139_5, q139_8, q139_9, q139_10, q139_11, q139_14, q139_17, q139_18, q139_20, q139_23, q139_26, q139_28, q139_29, q139_30, q139_33, q139_34, q139_37, q139_38, q139_39, q139_42, q139_45, q139_46, q139_47, q139_48, q139_49, q139_50, q139_51, q139_54, q139_55, q139_56, q139_59, q139_62, q139_64, q139_65, q139_66, q139_67, q139_70, q139_71, q139_72, q139_75, q139_76, q139_77, q139_78, q139_79, q139_81, q139_84, q139_86, q139_88, q139_90, q139_93, q139_95, q139_98, q139_100, q139_101, q139_e, sM_0 hM, m_isG hw hI.1, m_isTs hw hI.1, pm_tl_some, m_in, in01, pm_z1]
  cases hk : ix g Z.1.length with
  | none =>
    rw [hk] at hQ
    simp only [Option.isSome_none, Bool.false_eq_true, not_false_eq_true, if_true]
    exact hQ S hI mF.rf
  | some j =>
    rw [hk] at hQ
    dsimp only at hQ
    obtain ⟨hj, rfl⟩ := ix_some (by omega) hk
    have hj24 : j < 24 := by omega
    simp only [Option.isSome_some, not_true_eq_false, if_false]
    by_cases c1 : wh = 0 ∨ wh = 1
    · rw [if_neg (fun h => h c1)]; rw [if_pos c1] at hQ
      cases hu : ix t Z.2.2.length with
      | none =>
        rw [hu] at hQ
        simp only [Option.isSome_none, Bool.false_eq_true, not_false_eq_true, if_true]
        exact hQ S hI mF.rf
      | some u =>
        rw [hu] at hQ
        dsimp only at hQ
        obtain ⟨hu1, rfl⟩ := ix_some (by omega) hu
        simp only [Option.isSome_some, not_true_eq_false, if_false]
        refine m_reckon (d := d) hw hI fun S1 i1 hA f1 n1 z1 => ?_
        have hM1 := i1.1.1
        have hC := hA j hj
        have z7 := mC_7 hC
        have F1 : mF m S S1 := ⟨f1, n1, z1⟩
        simp only [pm_tl_none, q139_0, q139_1, q139_2, q139_5, q139_8, q139_9, q139_10, q139_11, q139_14, q139_17, q139_18, q139_20, q139_23, q139_26, q139_28, q139_29, q139_30, q139_33, q139_34, q139_37, q139_38, q139_39, q139_42, q139_45, q139_46, q139_47, q139_48, q139_49, q139_50, q139_51, q139_54, q139_55, q139_56, q139_59, q139_62, q139_64, q139_65, q139_66, q139_67, q139_70, q139_71, q139_72, q139_75, q139_76, q139_77, q139_78, q139_79, q139_81, q139_84, q139_86, q139_88, q139_90, q139_93, q139_95, q139_98, q139_100, q139_101, q139_e, sM_0 hM1, sM_r7 hM1, pm_rf_some, ar7 hM1 hj24, nc24 hj24, z7]
        by_cases c6 : (ct Z j).1 = 0
        · rw [if_pos c6]; rw [if_pos c6] at hQ
          obtain ⟨r1, -, -⟩ := hC.2.2 c6
          have r4 := sp_len_le (w := wh.toNatClampNeg) r1
          simp only [q139_0, q139_1, q139_2, q139_5, q139_8, q139_9, q139_10, q139_11, q139_14, q139_17, q139_18, q139_20, q139_23, q139_26, q139_28, q139_29, q139_30, q139_33, q139_34, q139_37, q139_38, q139_39, q139_42, q139_45, q139_46, q139_47, q139_48, q139_49, q139_50, q139_51, q139_54, q139_55, q139_56, q139_59, q139_62, q139_64, q139_65, q139_66, q139_67, q139_70, q139_71, q139_72, q139_75, q139_76, q139_77, q139_78, q139_79, q139_81, q139_84, q139_86, q139_88, q139_90, q139_93, q139_95, q139_98, q139_100, q139_101, q139_e, sM_0 hM1, m_itemsOf hM1 hj24 r1 c1, pm_tl_some, m_in, in_ix (g := i) (show sp_len (ct Z j) wh.toNatClampNeg < 2 ^ 30 by omega), pm_z1]
          cases hi : ix i (sp_len (ct Z j) wh.toNatClampNeg) with
          | none =>
            rw [hi] at hQ
            simp only [Option.isSome_none, Bool.false_eq_true, not_false_eq_true, if_true]
            exact hQ S1 i1 F1
          | some k =>
            rw [hi] at hQ
            dsimp only at hQ
            obtain ⟨hk1, rfl⟩ := ix_some (by omega) hi
            have f0 : frI (mT m) S1 (pm_sgi (pm_sgi S1 m 29 0) m 30 0) := (frI.gi (by unfold mT; omega)).tr (frI.gi (by unfold mT; omega))
            have hX : aX S1 m j (ct Z j) Z.2.2 := ⟨hj24, r1, ct_gd hw _ _ (Nat.lt_succ_self _) hj c6, hw.2.1, i1.1.2.2.2.1⟩
            have hS : aS S1 (pm_sgi (pm_sgi S1 m 29 0) m 30 0) m (0, 0) := ⟨sM_frI hM1 f0, f0, by simp [ps_gi_nx, ps_gi_sz, ps_gi_sh, ps_gi_gi, ps_gi_gl, ps_gi_gr, ps_gi_zi, ps_gi_zl, ps_gi_zr, ps_gi_ar, ps_gi_al, ps_gl_nx, ps_gl_sz, ps_gl_sh, ps_gl_gi, ps_gl_gl, ps_gl_gr, ps_gl_zi, ps_gl_zl, ps_gl_zr, ps_gl_ar, ps_gl_al, ps_gr_nx, ps_gr_sz, ps_gr_sh, ps_gr_gi, ps_gr_gl, ps_gr_gr, ps_gr_zi, ps_gr_zl, ps_gr_zr, ps_gr_ar, ps_gr_al, ps_zi_nx, ps_zi_sz, ps_zi_sh, ps_zi_gi, ps_zi_gl, ps_zi_gr, ps_zi_zi, ps_zi_zl, ps_zi_zr, ps_zi_ar, ps_zi_al, ps_zl_nx, ps_zl_sz, ps_zl_sh, ps_zl_gi, ps_zl_gl, ps_zl_gr, ps_zl_zi, ps_zl_zl, ps_zl_zr, ps_zl_ar, ps_zl_al, ps_zr_nx, ps_zr_sz, ps_zr_sh, ps_zr_gi, ps_zr_gl, ps_zr_gr, ps_zr_zi, ps_zr_zl, ps_zr_zr, ps_zr_ar, ps_zr_al, pm_rf_some, pm_rf_none, pm_tl_some, pm_tl_none]; rfl, ps_gi_self⟩
            simp only [Option.isSome_some, not_true_eq_false, if_false, q139_0, q139_1, q139_2, q139_5, q139_8, q139_9, q139_10, q139_11, q139_14, q139_17, q139_18, q139_20, q139_23, q139_26, q139_28, q139_29, q139_30, q139_33, q139_34, q139_37, q139_38, q139_39, q139_42, q139_45, q139_46, q139_47, q139_48, q139_49, q139_50, q139_51, q139_54, q139_55, q139_56, q139_59, q139_62, q139_64, q139_65, q139_66, q139_67, q139_70, q139_71, q139_72, q139_75, q139_76, q139_77, q139_78, q139_79, q139_81, q139_84, q139_86, q139_88, q139_90, q139_93, q139_95, q139_98, q139_100, q139_101, q139_e, sM_0 hM1, ps_gi_nx, ps_gi_sz, ps_gi_sh, ps_gi_gi, ps_gi_gl, ps_gi_gr, ps_gi_zi, ps_gi_zl, ps_gi_zr, ps_gi_ar, ps_gi_al, ps_gl_nx, ps_gl_sz, ps_gl_sh, ps_gl_gi, ps_gl_gl, ps_gl_gr, ps_gl_zi, ps_gl_zl, ps_gl_zr, ps_gl_ar, ps_gl_al, ps_gr_nx, ps_gr_sz, ps_gr_sh, ps_gr_gi, ps_gr_gl, ps_gr_gr, ps_gr_zi, ps_gr_zl, ps_gr_zr, ps_gr_ar, ps_gr_al, ps_zi_nx, ps_zi_sz, ps_zi_sh, ps_zi_gi, ps_zi_gl, ps_zi_gr, ps_zi_zi, ps_zi_zl, ps_zi_zr, ps_zi_ar, ps_zi_al, ps_zl_nx, ps_zl_sz, ps_zl_sh, ps_zl_gi, ps_zl_gl, ps_zl_gr, ps_zl_zi, ps_zl_zl, ps_zl_zr, ps_zl_ar, ps_zl_al, ps_zr_nx, ps_zr_sz, ps_zr_sh, ps_zr_gi, ps_zr_gl, ps_zr_gr, ps_zr_zi, ps_zr_zl, ps_zr_zr, ps_zr_ar, ps_zr_al, pm_rf_some, pm_rf_none, pm_tl_some, pm_tl_none]
            have ww : ∃ w, wh = nI w ∧ (w = 0 ∨ w = 1) ∧ wh.toNatClampNeg = w := by
              rcases c1 with rfl | rfl
              · exact ⟨0, rfl, Or.inl rfl, rfl⟩
              · exact ⟨1, rfl, Or.inr rfl, rfl⟩
            obtain ⟨w, rfl, hww, ew⟩ := ww
            rw [ew] at hQ hk1
            refine m_asked (d := d + 4) hX hS hu1 hww hk1 (by decide) (by decide) fun S2 q2 => ?_
            have hb := sp_say_b (C := ct Z j) (ts := Z.2.2) 20 w k u (0, 0) (by decide) (by decide)
            have hR2 := hQ S2 (mI_s hw i1 (q2.2.1.mono mT_S)) (F1.tr (mF.I (q2.2.1.mono mT_S) mS_O))
            simp only [pm_tl_some, q139_0, q139_1, q139_2, q139_5, q139_8, q139_9, q139_10, q139_11, q139_14, q139_17, q139_18, q139_20, q139_23, q139_26, q139_28, q139_29, q139_30, q139_33, q139_34, q139_37, q139_38, q139_39, q139_42, q139_45, q139_46, q139_47, q139_48, q139_49, q139_50, q139_51, q139_54, q139_55, q139_56, q139_59, q139_62, q139_64, q139_65, q139_66, q139_67, q139_70, q139_71, q139_72, q139_75, q139_76, q139_77, q139_78, q139_79, q139_81, q139_84, q139_86, q139_88, q139_90, q139_93, q139_95, q139_98, q139_100, q139_101, q139_e]
            generalize hy : (sp_say (ct Z j) Z.2.2 20 w k u (0, 0)).1 = y at *
            by_cases cy : y < 10
            · rw [if_pos cy] at hR2
              have cy' : nI y < 10 := nI_lt (b := 10) cy (by decide)
              rw [if_pos cy']
              exact hR2
            · rw [if_neg cy] at hR2
              have cy' : ¬ nI y < 10 := nI_nlt (a := y) (b := 10) (by omega) (by have := hb.1; omega)
              rw [if_neg cy']
              exact hR2
        · rw [if_neg c6]; rw [if_neg c6] at hQ; exact hQ S1 i1 F1
    · rw [if_pos c1]; rw [if_neg c1] at hQ; exact hQ S hI mF.rf
theorem m_count_l (hw : wf Z) (hL : mL S m Z) : ∀ n k, k + n = Z.1.length → pm_V d 140 16 [.ref m, .int wh, .int (nI (sp_cnt (fun j => (gg Z.1 j).2.2.2.2.1) k)), .int (nI k)] [] S Q = pm_V d 140 47 [.ref m, .int wh, .int (nI (sp_cnt (fun j => (gg Z.1 j).2.2.2.2.1) Z.1.length)), .int (nI Z.1.length)] [] S Q := by
  have h24 := hw.1
  have hM := hL.1
  intro n
  induction n with
  | zero =>
    intro k hk
    have : k = Z.1.length := by omega
    subst this
    have e1 : ¬ nI Z.1.length < nI Z.1.length := nI_nlt (Nat.le_refl _) (by omega)
    rw [q140_16]
    simp only [q140_0, q140_1, q140_2, q140_3, q140_6, q140_9, q140_11, q140_12, q140_13, q140_14, q140_15, q140_17, q140_18, q140_21, q140_24, q140_25, q140_26, q140_29, q140_30, q140_31, q140_34, q140_35, q140_38, q140_39, q140_40, q140_41, q140_44, q140_48, q140_51, q140_52, q140_55, q140_58, q140_59, q140_60, q140_63, q140_64, q140_67, q140_70, q140_71, q140_e, sM_0 hM, hL.2.1, e1, if_false]
  | succ n ih =>
    intro k hk
    have hk24 : k < 24 := by omega
    have e1 : nI k < nI Z.1.length := nI_lt (by omega) (by omega)
    have := ih (k + 1) (by omega)
    rw [sp_cnt_s] at this
    rw [q140_16]
    simp only [q140_0, q140_1, q140_2, q140_3, q140_6, q140_9, q140_11, q140_12, q140_13, q140_14, q140_15, q140_17, q140_18, q140_21, q140_24, q140_25, q140_26, q140_29, q140_30, q140_31, q140_34, q140_35, q140_38, q140_39, q140_40, q140_41, q140_44, q140_48, q140_51, q140_52, q140_55, q140_58, q140_59, q140_60, q140_63, q140_64, q140_67, q140_70, q140_71, q140_e, sM_0 hM, hL.2.1, e1, if_true, sM_r6 hM, pm_rf_some, ar6 hM hk24, nc24 hk24, (hL.2.2.2.2.2 k (by omega)).1.2.2, nI_1]
    cases hz : (gg Z.1 k).2.2.2.2.1
    · simp only [hz] at this
      simp only [Bool.false_eq_true, if_false, if_true, q140_0, q140_1, q140_2, q140_3, q140_6, q140_9, q140_11, q140_12, q140_13, q140_14, q140_15, q140_17, q140_18, q140_21, q140_24, q140_25, q140_26, q140_29, q140_30, q140_31, q140_34, q140_35, q140_38, q140_39, q140_40, q140_41, q140_44, q140_48, q140_51, q140_52, q140_55, q140_58, q140_59, q140_60, q140_63, q140_64, q140_67, q140_70, q140_71, q140_e, nI_1]
      rw [show nI (sp_cnt (fun j => (gg Z.1 j).2.2.2.2.1) k) + 0 = nI (sp_cnt (fun j => (gg Z.1 j).2.2.2.2.1) k) from Int32.add_zero _]
      simpa using this
    · simp only [hz] at this
      simp only [if_true, show ¬ (1 : Int32) = 0 by decide, if_false, q140_0, q140_1, q140_2, q140_3, q140_6, q140_9, q140_11, q140_12, q140_13, q140_14, q140_15, q140_17, q140_18, q140_21, q140_24, q140_25, q140_26, q140_29, q140_30, q140_31, q140_34, q140_35, q140_38, q140_39, q140_40, q140_41, q140_44, q140_48, q140_51, q140_52, q140_55, q140_58, q140_59, q140_60, q140_63, q140_64, q140_67, q140_70, q140_71, q140_e, nI_1]
      simpa using this
theorem in02 : (0 ≤ x ∧ x ≤ 2) = (x = 0 ∨ x = 1 ∨ x = 2) := by
  refine propext ⟨fun h => ?_, fun h => by rcases h with rfl | rfl | rfl <;> decide⟩
  obtain ⟨k, hk, rfl⟩ := nI_of (k2_nlt h.1)
  have := (nI_le' (b := 2) hk (by decide)) ▸ h.2
  have : k = 0 ∨ k = 1 ∨ k = 2 := by have : k ≤ 2 := this; omega
  rcases this with rfl | rfl | rfl
  · exact Or.inl rfl
  · exact Or.inr (Or.inl rfl)
  · exact Or.inr (Or.inr rfl)
theorem m_count (hw : wf Z) (hI : mI S m Z) (hQ : ∀ S', mI S' m Z → mF m S S' → Q (some (.int (op_count Z wh))) S') : pm_N (d + 1) 140 [.ref m, .int wh] S Q := by
  have hR := hQ S hI mF.rf
  have hM := hI.1.1
  unfold op_count at hR
  simp only [q140_0, q140_1, q140_2, q140_3, q140_6, q140_9, q140_11, q140_12, q140_13, q140_14, q140_15, q140_17, q140_18, q140_21, q140_24, q140_25, q140_26, q140_29, q140_30, q140_31, q140_34, q140_35, q140_38, q140_39, q140_40, q140_41, q140_44, q140_47, q140_48, q140_51, q140_52, q140_55, q140_58, q140_59, q140_60, q140_63, q140_64, q140_67, q140_70, q140_71, q140_e, m_in, pm_tl_some, pm_z1, in02]
  have key := m_count_l (d := d + 1) (Q := Q) (wh := wh) hw hI.1 Z.1.length 0 (Nat.zero_add _)
  by_cases c : wh = 0 ∨ wh = 1 ∨ wh = 2
  · rw [if_neg (fun h => h c)]
    refine Eq.mpr key ?_
    simp only [q140_0, q140_1, q140_2, q140_3, q140_6, q140_9, q140_11, q140_12, q140_13, q140_14, q140_15, q140_17, q140_18, q140_21, q140_24, q140_25, q140_26, q140_29, q140_30, q140_31, q140_34, q140_35, q140_38, q140_39, q140_40, q140_41, q140_44, q140_47, q140_48, q140_51, q140_52, q140_55, q140_58, q140_59, q140_60, q140_63, q140_64, q140_67, q140_70, q140_71, q140_e, sM_0 hM, hI.1.2.1, hI.1.2.2.1]
    by_cases c0 : wh = 0
    · rw [if_pos c0]; rw [if_pos c0] at hR; exact hR
    · rw [if_neg c0]; rw [if_neg c0] at hR
      by_cases c1 : wh = 1
      · rw [if_pos c1]; rw [if_pos c1] at hR; exact hR
      · rw [if_neg c1]; rw [if_neg c1] at hR
        rw [if_pos ((c.resolve_left c0).resolve_left c1)] at hR; exact hR
  · rw [if_pos c]
    rw [if_neg (fun q => c (Or.inl q)), if_neg (fun q => c (Or.inr (Or.inl q))), if_neg (fun q => c (Or.inr (Or.inr q)))] at hR
    exact hR
end
