/-! ===== THE REFERENCE: label, test, view, live, clear ===== -/
theorem i_le3 {x : Int32} : (x ≤ 3) = (x < 4) := by rw [Int32.le_iff_toInt_le, Int32.lt_iff_toInt_lt]; have a : (3 : Int32).toInt = 3 := rfl; have b : (4 : Int32).toInt = 4 := rfl; rw [a, b]; exact propext ⟨(fun q => by omega), (fun q => by omega)⟩
theorem i_le39 {x : Int32} : (x ≤ 39) = (x < 40) := by rw [Int32.le_iff_toInt_le, Int32.lt_iff_toInt_lt]; have a : (39 : Int32).toInt = 39 := rfl; have b : (40 : Int32).toInt = 40 := rfl; rw [a, b]; exact propext ⟨(fun q => by omega), (fun q => by omega)⟩
theorem i_le9 {x : Int32} : (x ≤ 9) = (x < 10) := by rw [Int32.le_iff_toInt_le, Int32.lt_iff_toInt_lt]; have a : (9 : Int32).toInt = 9 := rfl; have b : (10 : Int32).toInt = 10 := rfl; rw [a, b]; exact propext ⟨(fun q => by omega), (fun q => by omega)⟩
theorem i_nlt {x y : Int32} : (y ≤ x) = (¬ x < y) := propext ⟨k2_nlt, k2_le⟩
section
variable {P : Nat → Nat → Prop} {S S' : pm_T} {m n k d j L : Nat} {C : sp_C} {Z : sp_S} {Q : Option Value → pm_T → Prop} {g wh i t f x s e a b c kk : Int32} {cc : Int64}
set_option maxHeartbeats 2000000 in
theorem m_label {v : Int32} (hw : wf Z) (hI : mI S m Z) (hQ : ∀ S', mI S' m (op_label Z t i v).2 → mF m S S' → Q (some (.int (op_label Z t i v).1)) S') : pm_N (d + 1) 95 [.ref m, .int t, .int i, .int v] S Q := by
  have h24 := hw.1
  have hM := hI.1.1
  unfold op_label at hQ
  simp only [q95_0, q95_1, q95_2, q95_3, q95_6, q95_9, q95_10, q95_11, q95_13, q95_16, q95_19, q95_20, q95_21, q95_23, q95_26, q95_29, q95_31, q95_32, q95_33, q95_36, q95_38, q95_39, q95_40, q95_41, q95_42, q95_43, q95_45, q95_46, q95_49, q95_51, q95_52, q95_53, q95_54, q95_55, q95_56, q95_57, q95_58, q95_59, q95_62, q95_64, q95_e, m_in, pm_tl_some, pm_z1, i_le3, i_le39, i_le9]
  by_cases c1 : 0 ≤ t ∧ t < 4
  · rw [if_neg (fun h => h c1)]
    by_cases c2 : 0 ≤ i ∧ i < 40
    · rw [if_neg (fun h => h c2)]
      by_cases c3 : -1 ≤ v ∧ v < 10
      · rw [if_neg (fun h => h c3)]
        have c4 : ¬ v < -1 := k2_nlt c3.1
        rw [if_pos ⟨c1, k2_nlt c2.1, c2.2, c4, c3.2⟩] at hQ
        obtain ⟨t', ht, rfl⟩ := nI_of (k2_nlt c1.1)
        obtain ⟨i', hi, rfl⟩ := nI_of (k2_nlt c2.1)
        have ht4 : t' < 4 := Classical.byContradiction fun q => nI_nlt (b := 4) (show 4 ≤ t' by omega) (by omega) c1.2
        have hi4 : i' < 40 := Classical.byContradiction fun q => nI_nlt (b := 40) (show 40 ≤ i' by omega) (by omega) c2.2
        rw [nI_clamp ht, nI_clamp hi] at hQ
        have e6 : (40 : Int32) * nI t' + nI i' = nI (40 * t' + i') := sp_at 40 t' i'
        have r2 := pm_ar_nI (sM_s21 hM) (show 40 * t' + i' < 160 by omega) (by decide)
        simp only [q95_0, q95_1, q95_2, q95_3, q95_6, q95_9, q95_10, q95_11, q95_13, q95_16, q95_19, q95_20, q95_21, q95_23, q95_26, q95_29, q95_31, q95_32, q95_33, q95_36, q95_38, q95_39, q95_40, q95_41, q95_42, q95_43, q95_45, q95_46, q95_49, q95_51, q95_52, q95_53, q95_54, q95_55, q95_56, q95_57, q95_58, q95_59, q95_62, q95_64, q95_e, sM_0 hM, sM_r22 hM, pm_rf_some, e6, r2, nI_clamp (show 40 * t' + i' < 2 ^ 31 by omega), ps_gi_nx, ps_gi_sz, ps_gi_sh, ps_gi_gi, ps_gi_gl, ps_gi_gr, ps_gi_zi, ps_gi_zl, ps_gi_zr, ps_gi_ar, ps_gi_al, ps_gl_nx, ps_gl_sz, ps_gl_sh, ps_gl_gi, ps_gl_gl, ps_gl_gr, ps_gl_zi, ps_gl_zl, ps_gl_zr, ps_gl_ar, ps_gl_al, ps_gr_nx, ps_gr_sz, ps_gr_sh, ps_gr_gi, ps_gr_gl, ps_gr_gr, ps_gr_zi, ps_gr_zl, ps_gr_zr, ps_gr_ar, ps_gr_al, ps_zi_nx, ps_zi_sz, ps_zi_sh, ps_zi_gi, ps_zi_gl, ps_zi_gr, ps_zi_zi, ps_zi_zl, ps_zi_zr, ps_zi_ar, ps_zi_al, ps_zl_nx, ps_zl_sz, ps_zl_sh, ps_zl_gi, ps_zl_gl, ps_zl_gr, ps_zl_zi, ps_zl_zl, ps_zl_zr, ps_zl_ar, ps_zl_al, ps_zr_nx, ps_zr_sz, ps_zr_sh, ps_zr_gi, ps_zr_gl, ps_zr_gr, ps_zr_zi, ps_zr_zl, ps_zr_zr, ps_zr_ar, ps_zr_al, pm_rf_some, pm_rf_none, pm_tl_some, pm_tl_none, true_or, hI.1.2.2.2.2.1 t' i' ht4 hi4]
        have F : frI (fun b k => (b = m + 21 ∧ k = 40 * t' + i') ∨ (b = m ∧ k = 21)) S (pm_sgi (pm_szi S (m + 21) (40 * t' + i') v) m 21 0) := (frI.zi (Or.inl ⟨rfl, rfl⟩)).tr (frI.gi (Or.inr ⟨rfl, rfl⟩))
        refine hQ _ ⟨⟨sM_frI hM F, ?_, ?_, mTs_fr hI.1.2.2.2.1 F (fun b k q1 q2 => by omega), fun t2 i2 h2 h3 => ?_, fun j hj => mK_j (Z := Z) hI.1 F hj (fun b q1 q2 => by omega) (fun b k q => by unfold mB at q; omega)⟩, Or.inl ps_gi_self⟩ (mF.I F (fun b k q => by unfold mO; omega))
        · rw [(F.2.2.2.2.2 m 0 (by omega)).1]; exact hI.1.2.1
        · rw [(F.2.2.2.2.2 m 23 (by omega)).1]; exact hI.1.2.2.1
        · show pm_zi (pm_szi S (m + 21) (40 * t' + i') v) (m + 21) (40 * t2 + i2) = sp_eC (lb_up Z.2.1 t' i' (sp_de v) t2 i2)
          rw [ps_zi_zi]
          unfold lb_up
          by_cases e : t2 = t' ∧ i2 = i'
          · rw [if_pos e, if_pos ⟨rfl, by omega⟩, (sp_de_of c4 c3.2).1]
          · rw [if_neg e, if_neg (fun q => e (by omega))]
            exact hI.1.2.2.2.2.1 t2 i2 h2 h3
      · rw [if_pos c3]; rw [if_neg (fun h => c3 ⟨k2_le h.2.2.2.1, h.2.2.2.2⟩)] at hQ; exact hQ S hI mF.rf
    · rw [if_pos c2]; rw [if_neg (fun h => c2 ⟨k2_le h.2.1, h.2.2.1⟩)] at hQ; exact hQ S hI mF.rf
  · rw [if_pos c1]; rw [if_neg (fun h => c1 h.1)] at hQ; exact hQ S hI mF.rf
set_option maxHeartbeats 2000000 in
theorem m_test (hw : wf Z) (hI : mI S m Z) (hQ : ∀ S', mI S' m (op_test Z s cc t f).2 → mF m S S' → Q (some (.int (op_test Z s cc t f).1)) S') : pm_N (d + 2) 96 [.ref m, .int s, .long cc, .int t, .int f] S Q := by
  have h24 := hw.1
  have h20 := hw.2.1.1
  have hM := hI.1.1
  unfold op_test at hQ
  have ez : (nI Z.2.2.length = 20) = (Z.2.2.length = 20) := nI_e' (b := 20) (by omega) (by decide)
  simp only [q96_0, q96_1, q96_2, q96_4, q96_7, q96_10, q96_11, q96_12, q96_15, q96_16, q96_18, q96_21, q96_24, q96_25, q96_26, q96_29, q96_30, q96_32, q96_35, q96_36, q96_38, q96_41, q96_44, q96_46, q96_47, q96_48, q96_51, q96_53, q96_56, q96_58, q96_59, q96_60, q96_63, q96_64, q96_67, q96_68, q96_69, q96_70, q96_73, q96_74, q96_77, q96_78, q96_79, q96_80, q96_83, q96_84, q96_87, q96_89, q96_90, q96_91, q96_94, q96_95, q96_98, q96_100, q96_101, q96_102, q96_103, q96_106, q96_107, q96_108, q96_111, q96_112, q96_115, q96_116, q96_117, q96_e, m_in, pm_tl_some, pm_z1, sM_0 hM, m_isTs hw hI.1, i_le3, hI.1.2.2.1, ez]
  have good : (¬ s < 0 ∧ s ≤ 8 ∧ (s < 4 ∨ (ix t Z.2.2.length).isSome = true) ∧ (¬ (s = 5 ∨ s = 6) ∨ (ix f Z.2.2.length).isSome = true)) → pm_V (d + 2) 96 47 [.ref m, .int s, .long cc, pm_j, .int t, .int f] [] S Q := by
    intro c1
    rw [if_pos c1] at hQ
    simp only [q96_0, q96_1, q96_2, q96_4, q96_7, q96_10, q96_11, q96_12, q96_15, q96_16, q96_18, q96_21, q96_24, q96_25, q96_26, q96_29, q96_30, q96_32, q96_35, q96_36, q96_38, q96_41, q96_44, q96_46, q96_47, q96_48, q96_51, q96_53, q96_56, q96_58, q96_59, q96_60, q96_63, q96_64, q96_67, q96_68, q96_69, q96_70, q96_73, q96_74, q96_77, q96_78, q96_79, q96_80, q96_83, q96_84, q96_87, q96_89, q96_90, q96_91, q96_94, q96_95, q96_98, q96_100, q96_101, q96_102, q96_103, q96_106, q96_107, q96_108, q96_111, q96_112, q96_115, q96_116, q96_117, q96_e, sM_0 hM, hI.1.2.2.1, ez]
    by_cases c2 : Z.2.2.length < 20
    · rw [if_pos c2] at hQ
      rw [if_neg (by omega)]
      obtain ⟨p, hp, rfl⟩ := nI_of c1.1
      rw [nI_clamp hp] at hQ
      simp only [q96_0, q96_1, q96_2, q96_4, q96_7, q96_10, q96_11, q96_12, q96_15, q96_16, q96_18, q96_21, q96_24, q96_25, q96_26, q96_29, q96_30, q96_32, q96_35, q96_36, q96_38, q96_41, q96_44, q96_46, q96_47, q96_48, q96_51, q96_53, q96_56, q96_58, q96_59, q96_60, q96_63, q96_64, q96_67, q96_68, q96_69, q96_70, q96_73, q96_74, q96_77, q96_78, q96_79, q96_80, q96_83, q96_84, q96_87, q96_89, q96_90, q96_91, q96_94, q96_95, q96_98, q96_100, q96_101, q96_102, q96_103, q96_106, q96_107, q96_108, q96_111, q96_112, q96_115, q96_116, q96_117, q96_e, sM_0 hM, sM_r24 hM, sM_r25 hM, sM_r26 hM, sM_r27 hM, pm_rf_some, hI.1.2.2.1, ar22 hM c2, ar23 hM c2, ar24 hM c2, ar25 hM c2, nI_clamp (show Z.2.2.length < 2 ^ 31 by omega), ps_gi_nx, ps_gi_sz, ps_gi_sh, ps_gi_gi, ps_gi_gl, ps_gi_gr, ps_gi_zi, ps_gi_zl, ps_gi_zr, ps_gi_ar, ps_gi_al, ps_gl_nx, ps_gl_sz, ps_gl_sh, ps_gl_gi, ps_gl_gl, ps_gl_gr, ps_gl_zi, ps_gl_zl, ps_gl_zr, ps_gl_ar, ps_gl_al, ps_gr_nx, ps_gr_sz, ps_gr_sh, ps_gr_gi, ps_gr_gl, ps_gr_gr, ps_gr_zi, ps_gr_zl, ps_gr_zr, ps_gr_ar, ps_gr_al, ps_zi_nx, ps_zi_sz, ps_zi_sh, ps_zi_gi, ps_zi_gl, ps_zi_gr, ps_zi_zi, ps_zi_zl, ps_zi_zr, ps_zi_ar, ps_zi_al, ps_zl_nx, ps_zl_sz, ps_zl_sh, ps_zl_gi, ps_zl_gl, ps_zl_gr, ps_zl_zi, ps_zl_zl, ps_zl_zr, ps_zl_ar, ps_zl_al, ps_zr_nx, ps_zr_sz, ps_zr_sh, ps_zr_gi, ps_zr_gl, ps_zr_gr, ps_zr_zi, ps_zr_zl, ps_zr_zr, ps_zr_ar, ps_zr_al, pm_rf_some, pm_rf_none, pm_tl_some, pm_tl_none, nI_1, and_self, if_true, nI_s1]
      have F : frI (fun b k => (m + 22 ≤ b ∧ b ≤ m + 25 ∧ k = Z.2.2.length) ∨ (b = m ∧ k = 23)) S (pm_sgi (pm_szi (pm_szi (pm_szl (pm_szi S (m + 22) Z.2.2.length (nI p)) (m + 23) Z.2.2.length cc) (m + 24) Z.2.2.length t) (m + 25) Z.2.2.length f) m 23 (nI (Z.2.2.length + 1))) := (frI.zi (by omega)).tr ((frI.zl (by omega)).tr ((frI.zi (by omega)).tr ((frI.zi (by omega)).tr (frI.gi (by omega)))))
      refine hQ _ ⟨⟨sM_frI hM F, ?_, ?_, fun k hk => ?_, mLb_fr hI.1.2.2.2.2.1 F (fun k => by omega), fun j hj => mK_j (Z := Z) hI.1 F hj (fun b q1 q2 => by omega) (fun b k q => by unfold mB at q; omega)⟩, ?_⟩ (mF.I F (fun b k q => by unfold mO; omega))
      · rw [(F.2.2.2.2.2 m 0 (by omega)).1]; exact hI.1.2.1
      · rw [ps_gi_self]; simp
      · have hk' : k < Z.2.2.length + 1 := by simpa using hk
        by_cases e : k = Z.2.2.length
        · subst e
          dsimp only
          rw [te_new]
          simp [ps_gi_nx, ps_gi_sz, ps_gi_sh, ps_gi_gi, ps_gi_gl, ps_gi_gr, ps_gi_zi, ps_gi_zl, ps_gi_zr, ps_gi_ar, ps_gi_al, ps_gl_nx, ps_gl_sz, ps_gl_sh, ps_gl_gi, ps_gl_gl, ps_gl_gr, ps_gl_zi, ps_gl_zl, ps_gl_zr, ps_gl_ar, ps_gl_al, ps_gr_nx, ps_gr_sz, ps_gr_sh, ps_gr_gi, ps_gr_gl, ps_gr_gr, ps_gr_zi, ps_gr_zl, ps_gr_zr, ps_gr_ar, ps_gr_al, ps_zi_nx, ps_zi_sz, ps_zi_sh, ps_zi_gi, ps_zi_gl, ps_zi_gr, ps_zi_zi, ps_zi_zl, ps_zi_zr, ps_zi_ar, ps_zi_al, ps_zl_nx, ps_zl_sz, ps_zl_sh, ps_zl_gi, ps_zl_gl, ps_zl_gr, ps_zl_zi, ps_zl_zl, ps_zl_zr, ps_zl_ar, ps_zl_al, ps_zr_nx, ps_zr_sz, ps_zr_sh, ps_zr_gi, ps_zr_gl, ps_zr_gr, ps_zr_zi, ps_zr_zl, ps_zr_zr, ps_zr_ar, ps_zr_al, pm_rf_some, pm_rf_none, pm_tl_some, pm_tl_none]
        · dsimp only
          rw [te_app (by omega)]
          simp only [ps_gi_nx, ps_gi_sz, ps_gi_sh, ps_gi_gi, ps_gi_gl, ps_gi_gr, ps_gi_zi, ps_gi_zl, ps_gi_zr, ps_gi_ar, ps_gi_al, ps_gl_nx, ps_gl_sz, ps_gl_sh, ps_gl_gi, ps_gl_gl, ps_gl_gr, ps_gl_zi, ps_gl_zl, ps_gl_zr, ps_gl_ar, ps_gl_al, ps_gr_nx, ps_gr_sz, ps_gr_sh, ps_gr_gi, ps_gr_gl, ps_gr_gr, ps_gr_zi, ps_gr_zl, ps_gr_zr, ps_gr_ar, ps_gr_al, ps_zi_nx, ps_zi_sz, ps_zi_sh, ps_zi_gi, ps_zi_gl, ps_zi_gr, ps_zi_zi, ps_zi_zl, ps_zi_zr, ps_zi_ar, ps_zi_al, ps_zl_nx, ps_zl_sz, ps_zl_sh, ps_zl_gi, ps_zl_gl, ps_zl_gr, ps_zl_zi, ps_zl_zl, ps_zl_zr, ps_zl_ar, ps_zl_al, ps_zr_nx, ps_zr_sz, ps_zr_sh, ps_zr_gi, ps_zr_gl, ps_zr_gr, ps_zr_zi, ps_zr_zl, ps_zr_zr, ps_zr_ar, ps_zr_al, pm_rf_some, pm_rf_none, pm_tl_some, pm_tl_none, e, and_false, if_false]
          exact hI.1.2.2.2.1 k (by omega)
      · rw [(F.2.2.2.2.2 m 21 (by omega)).1]
        rcases hI.2 with q | ⟨q1, q2⟩
        · exact Or.inl q
        · refine Or.inr ⟨q1, fun j hj => ?_⟩
          rw [ct_ts hw hj]
          exact mC_fr (q2 j hj) F (fun b k q => by unfold mB at q; omega)
    · rw [if_neg c2] at hQ
      rw [if_pos (by omega)]
      exact hQ S hI mF.rf
  have bad : ¬ (¬ s < 0 ∧ s ≤ 8 ∧ (s < 4 ∨ (ix t Z.2.2.length).isSome = true) ∧ (¬ (s = 5 ∨ s = 6) ∨ (ix f Z.2.2.length).isSome = true)) → Q (some (.int (-1000001))) S := fun q => by rw [if_neg q] at hQ; exact hQ S hI mF.rf
  have good' := fun h => by have := good h; simp only [q96_0, q96_1, q96_2, q96_4, q96_7, q96_10, q96_11, q96_12, q96_15, q96_16, q96_18, q96_21, q96_24, q96_25, q96_26, q96_29, q96_30, q96_32, q96_35, q96_36, q96_38, q96_41, q96_44, q96_46, q96_47, q96_48, q96_51, q96_53, q96_56, q96_58, q96_59, q96_60, q96_63, q96_64, q96_67, q96_68, q96_69, q96_70, q96_73, q96_74, q96_77, q96_78, q96_79, q96_80, q96_83, q96_84, q96_87, q96_89, q96_90, q96_91, q96_94, q96_95, q96_98, q96_100, q96_101, q96_102, q96_103, q96_106, q96_107, q96_108, q96_111, q96_112, q96_115, q96_116, q96_117, q96_e, sM_0 hM, hI.1.2.2.1, ez] at this; exact this
  by_cases c1 : 0 ≤ s ∧ s ≤ 8
  · rw [if_neg (fun h => h c1)]
    have c0 : ¬ s < 0 := k2_nlt c1.1
    by_cases c4 : s < 4
    · have n5 : ¬ (s = 5 ∨ s = 6) := fun q => by rcases q with rfl | rfl <;> exact absurd c4 (by decide)
      rw [if_pos c4, if_neg (fun q => n5 (Or.inl q)), if_neg (fun q => n5 (Or.inr q))]
      exact good' ⟨c0, c1.2, Or.inl c4, Or.inl n5⟩
    · rw [if_neg c4]
      by_cases ct' : (ix t Z.2.2.length).isSome = true
      · rw [if_neg (fun h => h ct')]
        by_cases c5 : s = 5
        · rw [if_pos c5]
          by_cases cf : (ix f Z.2.2.length).isSome = true
          · rw [if_neg (fun h => h cf)]
            exact good' ⟨c0, c1.2, Or.inr ct', Or.inr cf⟩
          · rw [if_pos cf]
            exact bad (fun q => q.2.2.2.elim (fun z => z (Or.inl c5)) cf)
        · rw [if_neg c5]
          by_cases c6 : s = 6
          · rw [if_pos c6]
            by_cases cf : (ix f Z.2.2.length).isSome = true
            · rw [if_neg (fun h => h cf)]
              exact good' ⟨c0, c1.2, Or.inr ct', Or.inr cf⟩
            · rw [if_pos cf]
              exact bad (fun q => q.2.2.2.elim (fun z => z (Or.inr c6)) cf)
          · rw [if_neg c6]
            exact good' ⟨c0, c1.2, Or.inr ct', Or.inl (fun q => q.elim c5 c6)⟩
      · rw [if_pos ct']
        exact bad (fun q => q.2.2.1.elim c4 ct')
  · rw [if_pos c1]
    exact bad (fun q => c1 ⟨k2_le q.1, q.2.1⟩)
set_option maxHeartbeats 2000000 in
theorem m_isTold (hw : wf Z) (hL : mL S m Z) (hk : 1 ≤ kk ∧ kk ≤ 7) : pm_N (d + 2) 97 [.ref m, .int kk, .int a, .int b, .int c, .int e] S Q = Q (some (.int (if sp_fits Z kk b c e then 1 else 0))) S := by
  have hM := hL.1
  have h7 : kk = 1 ∨ kk = 2 ∨ kk = 3 ∨ kk = 4 ∨ kk = 5 ∨ kk = 6 ∨ kk = 7 := by
    obtain ⟨p, hp, rfl⟩ := nI_of (x := kk) (fun q => by rw [Int32.lt_iff_toInt_lt] at q; have := hk.1; rw [Int32.le_iff_toInt_le] at this; have : (0 : Int32).toInt = 0 := rfl; have : (1 : Int32).toInt = 1 := rfl; omega)
    have q1 := hk.1
    have q2 := hk.2
    rw [Int32.le_iff_toInt_le, nI_toInt hp] at q1 q2
    have : (1 : Int32).toInt = 1 := rfl
    have : (7 : Int32).toInt = 7 := rfl
    rcases (show p = 1 ∨ p = 2 ∨ p = 3 ∨ p = 4 ∨ p = 5 ∨ p = 6 ∨ p = 7 by omega) with rfl | rfl | rfl | rfl | rfl | rfl | rfl
    · exact Or.inl rfl
    · exact Or.inr (Or.inl rfl)
    · exact Or.inr (Or.inr (Or.inl rfl))
    · exact Or.inr (Or.inr (Or.inr (Or.inl rfl)))
    · exact Or.inr (Or.inr (Or.inr (Or.inr (Or.inl rfl))))
    · exact Or.inr (Or.inr (Or.inr (Or.inr (Or.inr (Or.inl rfl)))))
    · exact Or.inr (Or.inr (Or.inr (Or.inr (Or.inr (Or.inr rfl)))))
  simp only [q97_0, q97_1, q97_40, q97_41, q97_42, q97_45, q97_46, q97_47, q97_50, q97_53, q97_55, q97_56, q97_59, q97_60, q97_62, q97_65, q97_68, q97_70, q97_71, q97_72, q97_75, q97_78, q97_79, q97_82, q97_83, q97_84, q97_85, q97_86, q97_87, q97_88, q97_91, q97_92, q97_93, q97_94, q97_97, q97_100, q97_102, q97_103, q97_104, q97_107, q97_110, q97_111, q97_114, q97_115, q97_116, q97_117, q97_118, q97_119, q97_122, q97_125, q97_127, q97_128, q97_129, q97_132, q97_135, q97_136, q97_139, q97_140, q97_e]
  unfold sp_fits
  rcases h7 with rfl | rfl | rfl | rfl | rfl | rfl | rfl
  · simp only [show pm_tsw 1 1 [40, 84, 86, 86, 92, 84] 116 = 40 by decide, q97_0, q97_1, q97_40, q97_41, q97_42, q97_45, q97_46, q97_47, q97_50, q97_53, q97_55, q97_56, q97_59, q97_60, q97_62, q97_65, q97_68, q97_70, q97_71, q97_72, q97_75, q97_78, q97_79, q97_82, q97_83, q97_84, q97_85, q97_86, q97_87, q97_88, q97_91, q97_92, q97_93, q97_94, q97_97, q97_100, q97_102, q97_103, q97_104, q97_107, q97_110, q97_111, q97_114, q97_115, q97_116, q97_117, q97_118, q97_119, q97_122, q97_125, q97_127, q97_128, q97_129, q97_132, q97_135, q97_136, q97_139, q97_140, q97_e, sM_0 hM, m_isTs hw hL, m_in, in01, pm_tl_some, pm_z1, true_or, or_true]
    by_cases b1 : b = -1
    · by_cases d1 : c = -1
      · by_cases q3 : e = 0 ∨ e = 1
        · simp [b1, d1, q3]
        · simp [b1, d1, q3]
      · by_cases d2 : (ix c Z.2.2.length).isSome = true
        · by_cases q3 : e = 0 ∨ e = 1
          · simp [b1, d1, d2, q3]
          · simp [b1, d1, d2, q3]
        · simp [b1, d1, d2]
    · by_cases b2 : (ix b Z.2.2.length).isSome = true
      · by_cases d1 : c = -1
        · by_cases q3 : e = 0 ∨ e = 1
          · simp [b1, b2, d1, q3]
          · simp [b1, b2, d1, q3]
        · by_cases d2 : (ix c Z.2.2.length).isSome = true
          · by_cases q3 : e = 0 ∨ e = 1
            · simp [b1, b2, d1, d2, q3]
            · simp [b1, b2, d1, d2, q3]
          · simp [b1, b2, d1, d2]
      · simp [b1, b2]
  · simp only [show pm_tsw 2 1 [40, 84, 86, 86, 92, 84] 116 = 84 by decide, q97_0, q97_1, q97_40, q97_41, q97_42, q97_45, q97_46, q97_47, q97_50, q97_53, q97_55, q97_56, q97_59, q97_60, q97_62, q97_65, q97_68, q97_70, q97_71, q97_72, q97_75, q97_78, q97_79, q97_82, q97_83, q97_84, q97_85, q97_86, q97_87, q97_88, q97_91, q97_92, q97_93, q97_94, q97_97, q97_100, q97_102, q97_103, q97_104, q97_107, q97_110, q97_111, q97_114, q97_115, q97_116, q97_117, q97_118, q97_119, q97_122, q97_125, q97_127, q97_128, q97_129, q97_132, q97_135, q97_136, q97_139, q97_140, q97_e, true_or, or_true]
    simp
  · simp only [show pm_tsw 3 1 [40, 84, 86, 86, 92, 84] 116 = 86 by decide, q97_0, q97_1, q97_40, q97_41, q97_42, q97_45, q97_46, q97_47, q97_50, q97_53, q97_55, q97_56, q97_59, q97_60, q97_62, q97_65, q97_68, q97_70, q97_71, q97_72, q97_75, q97_78, q97_79, q97_82, q97_83, q97_84, q97_85, q97_86, q97_87, q97_88, q97_91, q97_92, q97_93, q97_94, q97_97, q97_100, q97_102, q97_103, q97_104, q97_107, q97_110, q97_111, q97_114, q97_115, q97_116, q97_117, q97_118, q97_119, q97_122, q97_125, q97_127, q97_128, q97_129, q97_132, q97_135, q97_136, q97_139, q97_140, q97_e, sM_0 hM, m_isG hw hL, pm_tl_some, pm_b01]
    cases hb : (ix b Z.1.length).isSome <;> simp
  · simp only [show pm_tsw 4 1 [40, 84, 86, 86, 92, 84] 116 = 86 by decide, q97_0, q97_1, q97_40, q97_41, q97_42, q97_45, q97_46, q97_47, q97_50, q97_53, q97_55, q97_56, q97_59, q97_60, q97_62, q97_65, q97_68, q97_70, q97_71, q97_72, q97_75, q97_78, q97_79, q97_82, q97_83, q97_84, q97_85, q97_86, q97_87, q97_88, q97_91, q97_92, q97_93, q97_94, q97_97, q97_100, q97_102, q97_103, q97_104, q97_107, q97_110, q97_111, q97_114, q97_115, q97_116, q97_117, q97_118, q97_119, q97_122, q97_125, q97_127, q97_128, q97_129, q97_132, q97_135, q97_136, q97_139, q97_140, q97_e, sM_0 hM, m_isG hw hL, pm_tl_some, pm_b01]
    cases hb : (ix b Z.1.length).isSome <;> simp
  · simp only [show pm_tsw 5 1 [40, 84, 86, 86, 92, 84] 116 = 92 by decide, q97_0, q97_1, q97_40, q97_41, q97_42, q97_45, q97_46, q97_47, q97_50, q97_53, q97_55, q97_56, q97_59, q97_60, q97_62, q97_65, q97_68, q97_70, q97_71, q97_72, q97_75, q97_78, q97_79, q97_82, q97_83, q97_84, q97_85, q97_86, q97_87, q97_88, q97_91, q97_92, q97_93, q97_94, q97_97, q97_100, q97_102, q97_103, q97_104, q97_107, q97_110, q97_111, q97_114, q97_115, q97_116, q97_117, q97_118, q97_119, q97_122, q97_125, q97_127, q97_128, q97_129, q97_132, q97_135, q97_136, q97_139, q97_140, q97_e, sM_0 hM, m_isG hw hL, m_in, pm_tl_some, pm_z1, true_or, or_true]
    by_cases q : 0 ≤ c ∧ c ≤ 2
    · cases hb : (ix b Z.1.length).isSome <;> simp [q]
    · cases hb : (ix b Z.1.length).isSome <;> simp [q]
  · simp only [show pm_tsw 6 1 [40, 84, 86, 86, 92, 84] 116 = 84 by decide, q97_0, q97_1, q97_40, q97_41, q97_42, q97_45, q97_46, q97_47, q97_50, q97_53, q97_55, q97_56, q97_59, q97_60, q97_62, q97_65, q97_68, q97_70, q97_71, q97_72, q97_75, q97_78, q97_79, q97_82, q97_83, q97_84, q97_85, q97_86, q97_87, q97_88, q97_91, q97_92, q97_93, q97_94, q97_97, q97_100, q97_102, q97_103, q97_104, q97_107, q97_110, q97_111, q97_114, q97_115, q97_116, q97_117, q97_118, q97_119, q97_122, q97_125, q97_127, q97_128, q97_129, q97_132, q97_135, q97_136, q97_139, q97_140, q97_e, true_or, or_true]
    simp
  · simp only [show pm_tsw 7 1 [40, 84, 86, 86, 92, 84] 116 = 116 by decide, q97_0, q97_1, q97_40, q97_41, q97_42, q97_45, q97_46, q97_47, q97_50, q97_53, q97_55, q97_56, q97_59, q97_60, q97_62, q97_65, q97_68, q97_70, q97_71, q97_72, q97_75, q97_78, q97_79, q97_82, q97_83, q97_84, q97_85, q97_86, q97_87, q97_88, q97_91, q97_92, q97_93, q97_94, q97_97, q97_100, q97_102, q97_103, q97_104, q97_107, q97_110, q97_111, q97_114, q97_115, q97_116, q97_117, q97_118, q97_119, q97_122, q97_125, q97_127, q97_128, q97_129, q97_132, q97_135, q97_136, q97_139, q97_140, q97_e, m_in, i_le3, pm_tl_some, pm_z1, true_or, or_true]
    by_cases q1 : 0 ≤ b ∧ b < 4
    · by_cases q : 0 ≤ c ∧ c ≤ 2
      · simp [q, q1]
      · simp [q, q1]
    · simp [q1]
set_option maxHeartbeats 2000000 in
theorem m_view (hw : wf Z) (hI : mI S m Z) (hQ : ∀ S', mI S' m (op_view Z kk a b c e).2 → mF m S S' → Q (some (.int (op_view Z kk a b c e).1)) S') : pm_N (d + 3) 98 [.ref m, .int kk, .int a, .int b, .int c, .int e] S Q := by
  have h24 := hw.1
  have hM := hI.1.1
  unfold op_view at hQ
  simp only [q98_0, q98_1, q98_2, q98_4, q98_7, q98_10, q98_11, q98_12, q98_15, q98_18, q98_19, q98_20, q98_21, q98_22, q98_24, q98_26, q98_29, q98_32, q98_34, q98_35, q98_36, q98_39, q98_41, q98_44, q98_46, q98_47, q98_48, q98_51, q98_52, q98_55, q98_56, q98_57, q98_58, q98_61, q98_62, q98_65, q98_66, q98_67, q98_68, q98_71, q98_72, q98_75, q98_76, q98_77, q98_78, q98_81, q98_82, q98_85, q98_87, q98_88, q98_89, q98_92, q98_93, q98_96, q98_98, q98_99, q98_100, q98_103, q98_104, q98_107, q98_108, q98_109, q98_110, q98_111, q98_114, q98_115, q98_116, q98_119, q98_120, q98_121, q98_124, q98_125, q98_128, q98_129, q98_130, q98_e, m_in, pm_tl_some, pm_z1]
  by_cases c1 : 1 ≤ kk ∧ kk ≤ 7
  · rw [if_neg (fun h => h c1)]
    simp only [q98_0, q98_1, q98_2, q98_4, q98_7, q98_10, q98_11, q98_12, q98_15, q98_18, q98_19, q98_20, q98_21, q98_22, q98_24, q98_26, q98_29, q98_32, q98_34, q98_35, q98_36, q98_39, q98_41, q98_44, q98_46, q98_47, q98_48, q98_51, q98_52, q98_55, q98_56, q98_57, q98_58, q98_61, q98_62, q98_65, q98_66, q98_67, q98_68, q98_71, q98_72, q98_75, q98_76, q98_77, q98_78, q98_81, q98_82, q98_85, q98_87, q98_88, q98_89, q98_92, q98_93, q98_96, q98_98, q98_99, q98_100, q98_103, q98_104, q98_107, q98_108, q98_109, q98_110, q98_111, q98_114, q98_115, q98_116, q98_119, q98_120, q98_121, q98_124, q98_125, q98_128, q98_129, q98_130, q98_e, sM_0 hM, m_isG hw hI.1, pm_tl_some, pm_z1]
    cases hk : ix a Z.1.length with
    | none =>
      rw [hk] at hQ
      simp only [Option.isSome_none, Bool.false_eq_true, not_false_eq_true, if_true]
      exact hQ S hI mF.rf
    | some j =>
      rw [hk] at hQ
      dsimp only at hQ
      obtain ⟨hj, rfl⟩ := ix_some (by omega) hk
      have ez : (nI Z.1.length = 24) = (Z.1.length = 24) := nI_e' (b := 24) (by omega) (by decide)
      simp only [Option.isSome_some, not_true_eq_false, if_false, q98_0, q98_1, q98_2, q98_4, q98_7, q98_10, q98_11, q98_12, q98_15, q98_18, q98_19, q98_20, q98_21, q98_22, q98_24, q98_26, q98_29, q98_32, q98_34, q98_35, q98_36, q98_39, q98_41, q98_44, q98_46, q98_47, q98_48, q98_51, q98_52, q98_55, q98_56, q98_57, q98_58, q98_61, q98_62, q98_65, q98_66, q98_67, q98_68, q98_71, q98_72, q98_75, q98_76, q98_77, q98_78, q98_81, q98_82, q98_85, q98_87, q98_88, q98_89, q98_92, q98_93, q98_96, q98_98, q98_99, q98_100, q98_103, q98_104, q98_107, q98_108, q98_109, q98_110, q98_111, q98_114, q98_115, q98_116, q98_119, q98_120, q98_121, q98_124, q98_125, q98_128, q98_129, q98_130, q98_e, sM_0 hM, m_isTold hw hI.1 c1, pm_tl_some, pm_z1, hI.1.2.1, ez]
      by_cases hf : sp_fits Z kk b c e
      · rw [if_neg (fun h => h hf)]; rw [if_pos hf] at hQ
        by_cases c3 : Z.1.length < 24
        · rw [if_pos c3] at hQ
          rw [if_neg (by omega)]
          simp only [q98_0, q98_1, q98_2, q98_4, q98_7, q98_10, q98_11, q98_12, q98_15, q98_18, q98_19, q98_20, q98_21, q98_22, q98_24, q98_26, q98_29, q98_32, q98_34, q98_35, q98_36, q98_39, q98_41, q98_44, q98_46, q98_47, q98_48, q98_51, q98_52, q98_55, q98_56, q98_57, q98_58, q98_61, q98_62, q98_65, q98_66, q98_67, q98_68, q98_71, q98_72, q98_75, q98_76, q98_77, q98_78, q98_81, q98_82, q98_85, q98_87, q98_88, q98_89, q98_92, q98_93, q98_96, q98_98, q98_99, q98_100, q98_103, q98_104, q98_107, q98_108, q98_109, q98_110, q98_111, q98_114, q98_115, q98_116, q98_119, q98_120, q98_121, q98_124, q98_125, q98_128, q98_129, q98_130, q98_e, sM_0 hM, sM_r1 hM, sM_r2 hM, sM_r3 hM, sM_r4 hM, sM_r5 hM, sM_r6 hM, pm_rf_some, hI.1.2.1, ar1 hM c3, ar2 hM c3, ar3 hM c3, ar4 hM c3, ar5 hM c3, ar6 hM c3, nc24 c3, ps_gi_nx, ps_gi_sz, ps_gi_sh, ps_gi_gi, ps_gi_gl, ps_gi_gr, ps_gi_zi, ps_gi_zl, ps_gi_zr, ps_gi_ar, ps_gi_al, ps_gl_nx, ps_gl_sz, ps_gl_sh, ps_gl_gi, ps_gl_gl, ps_gl_gr, ps_gl_zi, ps_gl_zl, ps_gl_zr, ps_gl_ar, ps_gl_al, ps_gr_nx, ps_gr_sz, ps_gr_sh, ps_gr_gi, ps_gr_gl, ps_gr_gr, ps_gr_zi, ps_gr_zl, ps_gr_zr, ps_gr_ar, ps_gr_al, ps_zi_nx, ps_zi_sz, ps_zi_sh, ps_zi_gi, ps_zi_gl, ps_zi_gr, ps_zi_zi, ps_zi_zl, ps_zi_zr, ps_zi_ar, ps_zi_al, ps_zl_nx, ps_zl_sz, ps_zl_sh, ps_zl_gi, ps_zl_gl, ps_zl_gr, ps_zl_zi, ps_zl_zl, ps_zl_zr, ps_zl_ar, ps_zl_al, ps_zr_nx, ps_zr_sz, ps_zr_sh, ps_zr_gi, ps_zr_gl, ps_zr_gr, ps_zr_zi, ps_zr_zl, ps_zr_zr, ps_zr_ar, ps_zr_al, pm_rf_some, pm_rf_none, pm_tl_some, pm_tl_none, true_or, nI_1, and_self, if_true, show ¬ (0 : Nat) = 21 by decide, and_false, if_false, nI_s1]
          obtain ⟨k1, k2, k3⟩ := fits_k hf
          have F : frI (fun b k => (m + 1 ≤ b ∧ b ≤ m + 6 ∧ k = Z.1.length) ∨ (b = m ∧ (k = 0 ∨ k = 21))) S (pm_sgi (pm_sgi (pm_szi (pm_szi (pm_szi (pm_szi (pm_szi (pm_szi S (m + 1) Z.1.length kk) (m + 2) Z.1.length (nI j)) (m + 3) Z.1.length b) (m + 4) Z.1.length c) (m + 5) Z.1.length e) (m + 6) Z.1.length 0) m 0 (nI (Z.1.length + 1))) m 21 0) := (frI.zi (by omega)).tr ((frI.zi (by omega)).tr ((frI.zi (by omega)).tr ((frI.zi (by omega)).tr ((frI.zi (by omega)).tr ((frI.zi (by omega)).tr ((frI.gi (by omega)).tr (frI.gi (by omega))))))))
          have hlen : (Z.1 ++ [vw_g Z kk j b c e]).length = Z.1.length + 1 := by simp
          refine hQ _ ⟨⟨sM_frI hM F, ?_, ?_, mTs_fr hI.1.2.2.2.1 F (fun b k q1 q2 => by omega), mLb_fr hI.1.2.2.2.2.1 F (fun k => by omega), fun i hi => ?_⟩, Or.inl ps_gi_self⟩ (mF.I F (fun b k q => by unfold mO; omega))
          · rw [hlen, ps_gi_gi, if_neg (by omega), ps_gi_self]
          · rw [(F.2.2.2.2.2 m 23 (by omega)).1]; exact hI.1.2.2.1
          · have hi' : i < Z.1.length + 1 := by rw [← hlen]; exact hi
            by_cases ei : i = Z.1.length
            · subst ei
              dsimp only
              rw [gg_new]
              refine ⟨⟨?_, fun _ => ⟨?_, ?_, ?_, ?_, fun q => ?_⟩, ?_⟩, fun q => ?_⟩
              · simp [ps_gi_nx, ps_gi_sz, ps_gi_sh, ps_gi_gi, ps_gi_gl, ps_gi_gr, ps_gi_zi, ps_gi_zl, ps_gi_zr, ps_gi_ar, ps_gi_al, ps_gl_nx, ps_gl_sz, ps_gl_sh, ps_gl_gi, ps_gl_gl, ps_gl_gr, ps_gl_zi, ps_gl_zl, ps_gl_zr, ps_gl_ar, ps_gl_al, ps_gr_nx, ps_gr_sz, ps_gr_sh, ps_gr_gi, ps_gr_gl, ps_gr_gr, ps_gr_zi, ps_gr_zl, ps_gr_zr, ps_gr_ar, ps_gr_al, ps_zi_nx, ps_zi_sz, ps_zi_sh, ps_zi_gi, ps_zi_gl, ps_zi_gr, ps_zi_zi, ps_zi_zl, ps_zi_zr, ps_zi_ar, ps_zi_al, ps_zl_nx, ps_zl_sz, ps_zl_sh, ps_zl_gi, ps_zl_gl, ps_zl_gr, ps_zl_zi, ps_zl_zl, ps_zl_zr, ps_zl_ar, ps_zl_al, ps_zr_nx, ps_zr_sz, ps_zr_sh, ps_zr_gi, ps_zr_gl, ps_zr_gr, ps_zr_zi, ps_zr_zl, ps_zr_zr, ps_zr_ar, ps_zr_al, pm_rf_some, pm_rf_none, pm_tl_some, pm_tl_none]; exact k3
              · simp [ps_gi_nx, ps_gi_sz, ps_gi_sh, ps_gi_gi, ps_gi_gl, ps_gi_gr, ps_gi_zi, ps_gi_zl, ps_gi_zr, ps_gi_ar, ps_gi_al, ps_gl_nx, ps_gl_sz, ps_gl_sh, ps_gl_gi, ps_gl_gl, ps_gl_gr, ps_gl_zi, ps_gl_zl, ps_gl_zr, ps_gl_ar, ps_gl_al, ps_gr_nx, ps_gr_sz, ps_gr_sh, ps_gr_gi, ps_gr_gl, ps_gr_gr, ps_gr_zi, ps_gr_zl, ps_gr_zr, ps_gr_ar, ps_gr_al, ps_zi_nx, ps_zi_sz, ps_zi_sh, ps_zi_gi, ps_zi_gl, ps_zi_gr, ps_zi_zi, ps_zi_zl, ps_zi_zr, ps_zi_ar, ps_zi_al, ps_zl_nx, ps_zl_sz, ps_zl_sh, ps_zl_gi, ps_zl_gl, ps_zl_gr, ps_zl_zi, ps_zl_zl, ps_zl_zr, ps_zl_ar, ps_zl_al, ps_zr_nx, ps_zr_sz, ps_zr_sh, ps_zr_gi, ps_zr_gl, ps_zr_gr, ps_zr_zi, ps_zr_zl, ps_zr_zr, ps_zr_ar, ps_zr_al, pm_rf_some, pm_rf_none, pm_tl_some, pm_tl_none]; rfl
              · simp [ps_gi_nx, ps_gi_sz, ps_gi_sh, ps_gi_gi, ps_gi_gl, ps_gi_gr, ps_gi_zi, ps_gi_zl, ps_gi_zr, ps_gi_ar, ps_gi_al, ps_gl_nx, ps_gl_sz, ps_gl_sh, ps_gl_gi, ps_gl_gl, ps_gl_gr, ps_gl_zi, ps_gl_zl, ps_gl_zr, ps_gl_ar, ps_gl_al, ps_gr_nx, ps_gr_sz, ps_gr_sh, ps_gr_gi, ps_gr_gl, ps_gr_gr, ps_gr_zi, ps_gr_zl, ps_gr_zr, ps_gr_ar, ps_gr_al, ps_zi_nx, ps_zi_sz, ps_zi_sh, ps_zi_gi, ps_zi_gl, ps_zi_gr, ps_zi_zi, ps_zi_zl, ps_zi_zr, ps_zi_ar, ps_zi_al, ps_zl_nx, ps_zl_sz, ps_zl_sh, ps_zl_gi, ps_zl_gl, ps_zl_gr, ps_zl_zi, ps_zl_zl, ps_zl_zr, ps_zl_ar, ps_zl_al, ps_zr_nx, ps_zr_sz, ps_zr_sh, ps_zr_gi, ps_zr_gl, ps_zr_gr, ps_zr_zi, ps_zr_zl, ps_zr_zr, ps_zr_ar, ps_zr_al, pm_rf_some, pm_rf_none, pm_tl_some, pm_tl_none]; rfl
              · simp [ps_gi_nx, ps_gi_sz, ps_gi_sh, ps_gi_gi, ps_gi_gl, ps_gi_gr, ps_gi_zi, ps_gi_zl, ps_gi_zr, ps_gi_ar, ps_gi_al, ps_gl_nx, ps_gl_sz, ps_gl_sh, ps_gl_gi, ps_gl_gl, ps_gl_gr, ps_gl_zi, ps_gl_zl, ps_gl_zr, ps_gl_ar, ps_gl_al, ps_gr_nx, ps_gr_sz, ps_gr_sh, ps_gr_gi, ps_gr_gl, ps_gr_gr, ps_gr_zi, ps_gr_zl, ps_gr_zr, ps_gr_ar, ps_gr_al, ps_zi_nx, ps_zi_sz, ps_zi_sh, ps_zi_gi, ps_zi_gl, ps_zi_gr, ps_zi_zi, ps_zi_zl, ps_zi_zr, ps_zi_ar, ps_zi_al, ps_zl_nx, ps_zl_sz, ps_zl_sh, ps_zl_gi, ps_zl_gl, ps_zl_gr, ps_zl_zi, ps_zl_zl, ps_zl_zr, ps_zl_ar, ps_zl_al, ps_zr_nx, ps_zr_sz, ps_zr_sh, ps_zr_gi, ps_zr_gl, ps_zr_gr, ps_zr_zi, ps_zr_zl, ps_zr_zr, ps_zr_ar, ps_zr_al, pm_rf_some, pm_rf_none, pm_tl_some, pm_tl_none]; rfl
              · simp [ps_gi_nx, ps_gi_sz, ps_gi_sh, ps_gi_gi, ps_gi_gl, ps_gi_gr, ps_gi_zi, ps_gi_zl, ps_gi_zr, ps_gi_ar, ps_gi_al, ps_gl_nx, ps_gl_sz, ps_gl_sh, ps_gl_gi, ps_gl_gl, ps_gl_gr, ps_gl_zi, ps_gl_zl, ps_gl_zr, ps_gl_ar, ps_gl_al, ps_gr_nx, ps_gr_sz, ps_gr_sh, ps_gr_gi, ps_gr_gl, ps_gr_gr, ps_gr_zi, ps_gr_zl, ps_gr_zr, ps_gr_ar, ps_gr_al, ps_zi_nx, ps_zi_sz, ps_zi_sh, ps_zi_gi, ps_zi_gl, ps_zi_gr, ps_zi_zi, ps_zi_zl, ps_zi_zr, ps_zi_ar, ps_zi_al, ps_zl_nx, ps_zl_sz, ps_zl_sh, ps_zl_gi, ps_zl_gl, ps_zl_gr, ps_zl_zi, ps_zl_zl, ps_zl_zr, ps_zl_ar, ps_zl_al, ps_zr_nx, ps_zr_sz, ps_zr_sh, ps_zr_gi, ps_zr_gl, ps_zr_gr, ps_zr_zi, ps_zr_zl, ps_zr_zr, ps_zr_ar, ps_zr_al, pm_rf_some, pm_rf_none, pm_tl_some, pm_tl_none]; rfl
              · have q' : kk.toNatClampNeg = 3 ∨ kk.toNatClampNeg = 4 ∨ kk.toNatClampNeg = 5 := q
                have q2 : kk = 3 ∨ kk = 4 ∨ kk = 5 := by
                  rcases q' with q | q | q
                  · left; rw [k3, q]; rfl
                  · right; left; rw [k3, q]; rfl
                  · right; right; rw [k3, q]; rfl
                show b = nI (if kk = 3 ∨ kk = 4 ∨ kk = 5 then (ix b Z.1.length).getD 0 else j)
                rw [if_pos q2]
                have : (ix b Z.1.length).isSome = true := by
                  rcases hf with ⟨rfl, -⟩ | (rfl | rfl) | ⟨-, h⟩ | ⟨-, h, -⟩ | ⟨rfl, -⟩
                  · exact absurd q2 (by decide)
                  · exact absurd q2 (by decide)
                  · exact absurd q2 (by decide)
                  · exact h
                  · exact h
                  · exact absurd q2 (by decide)
                obtain ⟨y, hy⟩ := Option.isSome_iff_exists.mp this
                rw [hy]
                exact (ix_some (by omega) hy).2
              · simp [ps_gi_nx, ps_gi_sz, ps_gi_sh, ps_gi_gi, ps_gi_gl, ps_gi_gr, ps_gi_zi, ps_gi_zl, ps_gi_zr, ps_gi_ar, ps_gi_al, ps_gl_nx, ps_gl_sz, ps_gl_sh, ps_gl_gi, ps_gl_gl, ps_gl_gr, ps_gl_zi, ps_gl_zl, ps_gl_zr, ps_gl_ar, ps_gl_al, ps_gr_nx, ps_gr_sz, ps_gr_sh, ps_gr_gi, ps_gr_gl, ps_gr_gr, ps_gr_zi, ps_gr_zl, ps_gr_zr, ps_gr_ar, ps_gr_al, ps_zi_nx, ps_zi_sz, ps_zi_sh, ps_zi_gi, ps_zi_gl, ps_zi_gr, ps_zi_zi, ps_zi_zl, ps_zi_zr, ps_zi_ar, ps_zi_al, ps_zl_nx, ps_zl_sz, ps_zl_sh, ps_zl_gi, ps_zl_gl, ps_zl_gr, ps_zl_zi, ps_zl_zl, ps_zl_zr, ps_zl_ar, ps_zl_al, ps_zr_nx, ps_zr_sz, ps_zr_sh, ps_zr_gi, ps_zr_gl, ps_zr_gr, ps_zr_zi, ps_zr_zl, ps_zr_zr, ps_zr_ar, ps_zr_al, pm_rf_some, pm_rf_none, pm_tl_some, pm_tl_none]; rfl
              · rcases q with q | q
                · have : kk.toNatClampNeg = 0 := q
                  omega
                · cases q
            · have hj2 : i < Z.1.length := by omega
              dsimp only
              rw [gg_app hj2]
              exact mK_j hI.1 F hj2 (fun b q1 q2 => by omega) (fun b k q => by unfold mB at q; omega)
        · rw [if_neg c3] at hQ
          rw [if_pos (by omega)]
          exact hQ S hI mF.rf
      · rw [if_pos hf]; rw [if_neg hf] at hQ; exact hQ S hI mF.rf
  · rw [if_pos c1]
    have nf : ¬ sp_fits Z kk b c e := fun h => by
      apply c1
      rcases h with ⟨rfl, -⟩ | (rfl | rfl) | ⟨rfl | rfl, -⟩ | ⟨rfl, -⟩ | ⟨rfl, -⟩ <;> decide
    cases hk : ix a Z.1.length with
    | none => rw [hk] at hQ; exact hQ S hI mF.rf
    | some j => rw [hk] at hQ; dsimp only at hQ; rw [if_neg nf] at hQ; exact hQ S hI mF.rf
end
