/-! ===== THE REFERENCE: calls that change something ===== -/
section
variable {P : Nat → Nat → Prop} {S S' : pm_T} {m a b n k d j L : Nat} {C : sp_C} {u : Prop} {Z : sp_S} {Q : Option Value → pm_T → Prop} {g wh i t f x s c e : Int32} {v : Int64}
/-- what is kept, kept -/
theorem mK_j (h : mL S m Z) (hf : frI P S S') (hj : j < Z.1.length) (h1 : ∀ b, m + 1 ≤ b → b ≤ m + 6 → ¬ P b j) (h2 : ∀ b k, mB m j b k → ¬ P b k) : mG S' m j (gg Z.1 j) ∧ ((gg Z.1 j).1 = 0 ∨ (gg Z.1 j).2.2.2.2.1 = true → mC S' m ((gg Z.1 j).1 ≠ 0) j (gg Z.1 j).2.2.2.2.2) := ⟨mG_fr (h.2.2.2.2.2 j hj).1 hf h1, fun q => mC_fr ((h.2.2.2.2.2 j hj).2 q) hf h2⟩
set_option maxHeartbeats 2000000 in
theorem m_graph {n : Int32} (hw : wf Z) (hI : mI S m Z) (hQ : ∀ S', mI S' m (op_graph Z n).2 → mF m S S' → Q (some (.int (op_graph Z n).1)) S') : pm_N (d + 1) 92 [.ref m, .int n] S Q := by
  have h24 := hw.1
  have hM := hI.1.1
  unfold op_graph at hQ
  simp only [q92_0, q92_1, q92_2, q92_4, q92_7, q92_10, q92_12, q92_13, q92_14, q92_17, q92_19, q92_22, q92_24, q92_25, q92_26, q92_29, q92_30, q92_31, q92_34, q92_35, q92_36, q92_37, q92_38, q92_41, q92_42, q92_43, q92_44, q92_45, q92_48, q92_49, q92_50, q92_51, q92_52, q92_55, q92_56, q92_57, q92_58, q92_59, q92_62, q92_63, q92_64, q92_65, q92_66, q92_69, q92_70, q92_71, q92_72, q92_73, q92_75, q92_76, q92_79, q92_80, q92_83, q92_85, q92_86, q92_87, q92_88, q92_89, q92_90, q92_91, q92_94, q92_97, q92_98, q92_99, q92_102, q92_103, q92_104, q92_107, q92_108, q92_109, q92_112, q92_113, q92_e, sM_0 hM, m_in, pm_tl_some, pm_z1]
  by_cases c1 : n < 1
  · rw [if_pos (fun h => absurd c1 (k2_nlt h.1))]; rw [if_pos c1] at hQ; exact hQ S hI mF.rf
  · rw [if_neg c1] at hQ
    by_cases c2 : n ≤ 12
    · rw [if_neg (fun h => h ⟨k2_le c1, c2⟩)]; rw [if_pos c2] at hQ
      have ez : (nI Z.1.length = 24) = (Z.1.length = 24) := nI_e' (b := 24) (by omega) (by decide)
      simp only [hI.1.2.1, ez]
      by_cases c3 : Z.1.length < 24
      · rw [if_pos c3] at hQ
        rw [if_neg (by omega)]
        obtain ⟨p, hp, rfl⟩ := nI_of (x := n) (fun q => c1 (by rw [Int32.lt_iff_toInt_lt] at q ⊢; have : (0 : Int32).toInt = 0 := rfl; have : (1 : Int32).toInt = 1 := rfl; omega))
        have hp12 : p ≤ 12 := by
          rw [Int32.le_iff_toInt_le, nI_toInt hp] at c2
          have : (12 : Int32).toInt = 12 := rfl
          omega
        rw [nI_clamp hp] at hQ
        simp only [q92_0, q92_1, q92_2, q92_4, q92_7, q92_10, q92_12, q92_13, q92_14, q92_17, q92_19, q92_22, q92_24, q92_25, q92_26, q92_29, q92_30, q92_31, q92_34, q92_35, q92_36, q92_37, q92_38, q92_41, q92_42, q92_43, q92_44, q92_45, q92_48, q92_49, q92_50, q92_51, q92_52, q92_55, q92_56, q92_57, q92_58, q92_59, q92_62, q92_63, q92_64, q92_65, q92_66, q92_69, q92_70, q92_71, q92_72, q92_73, q92_75, q92_76, q92_79, q92_80, q92_83, q92_85, q92_86, q92_87, q92_88, q92_89, q92_90, q92_91, q92_94, q92_97, q92_98, q92_99, q92_102, q92_103, q92_104, q92_107, q92_108, q92_109, q92_112, q92_113, q92_e, sM_0 hM, sM_r1 hM, sM_r6 hM, sM_r7 hM, sM_r8 hM, sM_r9 hM, sM_r18 hM, pm_rf_some, ar1 hM c3, ar6 hM c3, ar7 hM c3, ar8 hM c3, ar9 hM c3, ar18 hM c3, nc24 c3, true_or, ps_gi_nx, ps_gi_sz, ps_gi_sh, ps_gi_gi, ps_gi_gl, ps_gi_gr, ps_gi_zi, ps_gi_zl, ps_gi_zr, ps_gi_ar, ps_gi_al, ps_gl_nx, ps_gl_sz, ps_gl_sh, ps_gl_gi, ps_gl_gl, ps_gl_gr, ps_gl_zi, ps_gl_zl, ps_gl_zr, ps_gl_ar, ps_gl_al, ps_gr_nx, ps_gr_sz, ps_gr_sh, ps_gr_gi, ps_gr_gl, ps_gr_gr, ps_gr_zi, ps_gr_zl, ps_gr_zr, ps_gr_ar, ps_gr_al, ps_zi_nx, ps_zi_sz, ps_zi_sh, ps_zi_gi, ps_zi_gl, ps_zi_gr, ps_zi_zi, ps_zi_zl, ps_zi_zr, ps_zi_ar, ps_zi_al, ps_zl_nx, ps_zl_sz, ps_zl_sh, ps_zl_gi, ps_zl_gl, ps_zl_gr, ps_zl_zi, ps_zl_zl, ps_zl_zr, ps_zl_ar, ps_zl_al, ps_zr_nx, ps_zr_sz, ps_zr_sh, ps_zr_gi, ps_zr_gl, ps_zr_gr, ps_zr_zi, ps_zr_zl, ps_zr_zr, ps_zr_ar, ps_zr_al, pm_rf_some, pm_rf_none, pm_tl_some, pm_tl_none]
        have f0 : frI (fun b k => k = Z.1.length ∧ (b = m + 1 ∨ b = m + 6 ∨ b = m + 7 ∨ b = m + 8 ∨ b = m + 9 ∨ b = m + 18)) S (pm_szi (pm_szi (pm_szi (pm_szi (pm_szi (pm_szi S (m + 1) Z.1.length 0) (m + 6) Z.1.length 0) (m + 7) Z.1.length 0) (m + 8) Z.1.length (nI p)) (m + 9) Z.1.length 0) (m + 18) Z.1.length 0) := (frI.zi ⟨rfl, by omega⟩).tr ((frI.zi ⟨rfl, by omega⟩).tr ((frI.zi ⟨rfl, by omega⟩).tr ((frI.zi ⟨rfl, by omega⟩).tr ((frI.zi ⟨rfl, by omega⟩).tr (frI.zi ⟨rfl, by omega⟩)))))
        have v1 : pm_zi (pm_szi (pm_szi (pm_szi (pm_szi (pm_szi (pm_szi S (m + 1) Z.1.length 0) (m + 6) Z.1.length 0) (m + 7) Z.1.length 0) (m + 8) Z.1.length (nI p)) (m + 9) Z.1.length 0) (m + 18) Z.1.length 0) (m + 1) Z.1.length = 0 := by simp [ps_gi_nx, ps_gi_sz, ps_gi_sh, ps_gi_gi, ps_gi_gl, ps_gi_gr, ps_gi_zi, ps_gi_zl, ps_gi_zr, ps_gi_ar, ps_gi_al, ps_gl_nx, ps_gl_sz, ps_gl_sh, ps_gl_gi, ps_gl_gl, ps_gl_gr, ps_gl_zi, ps_gl_zl, ps_gl_zr, ps_gl_ar, ps_gl_al, ps_gr_nx, ps_gr_sz, ps_gr_sh, ps_gr_gi, ps_gr_gl, ps_gr_gr, ps_gr_zi, ps_gr_zl, ps_gr_zr, ps_gr_ar, ps_gr_al, ps_zi_nx, ps_zi_sz, ps_zi_sh, ps_zi_gi, ps_zi_gl, ps_zi_gr, ps_zi_zi, ps_zi_zl, ps_zi_zr, ps_zi_ar, ps_zi_al, ps_zl_nx, ps_zl_sz, ps_zl_sh, ps_zl_gi, ps_zl_gl, ps_zl_gr, ps_zl_zi, ps_zl_zl, ps_zl_zr, ps_zl_ar, ps_zl_al, ps_zr_nx, ps_zr_sz, ps_zr_sh, ps_zr_gi, ps_zr_gl, ps_zr_gr, ps_zr_zi, ps_zr_zl, ps_zr_zr, ps_zr_ar, ps_zr_al, pm_rf_some, pm_rf_none, pm_tl_some, pm_tl_none]
        have v6 : pm_zi (pm_szi (pm_szi (pm_szi (pm_szi (pm_szi (pm_szi S (m + 1) Z.1.length 0) (m + 6) Z.1.length 0) (m + 7) Z.1.length 0) (m + 8) Z.1.length (nI p)) (m + 9) Z.1.length 0) (m + 18) Z.1.length 0) (m + 6) Z.1.length = 0 := by simp [ps_gi_nx, ps_gi_sz, ps_gi_sh, ps_gi_gi, ps_gi_gl, ps_gi_gr, ps_gi_zi, ps_gi_zl, ps_gi_zr, ps_gi_ar, ps_gi_al, ps_gl_nx, ps_gl_sz, ps_gl_sh, ps_gl_gi, ps_gl_gl, ps_gl_gr, ps_gl_zi, ps_gl_zl, ps_gl_zr, ps_gl_ar, ps_gl_al, ps_gr_nx, ps_gr_sz, ps_gr_sh, ps_gr_gi, ps_gr_gl, ps_gr_gr, ps_gr_zi, ps_gr_zl, ps_gr_zr, ps_gr_ar, ps_gr_al, ps_zi_nx, ps_zi_sz, ps_zi_sh, ps_zi_gi, ps_zi_gl, ps_zi_gr, ps_zi_zi, ps_zi_zl, ps_zi_zr, ps_zi_ar, ps_zi_al, ps_zl_nx, ps_zl_sz, ps_zl_sh, ps_zl_gi, ps_zl_gl, ps_zl_gr, ps_zl_zi, ps_zl_zl, ps_zl_zr, ps_zl_ar, ps_zl_al, ps_zr_nx, ps_zr_sz, ps_zr_sh, ps_zr_gi, ps_zr_gl, ps_zr_gr, ps_zr_zi, ps_zr_zl, ps_zr_zr, ps_zr_ar, ps_zr_al, pm_rf_some, pm_rf_none, pm_tl_some, pm_tl_none]
        have v7 : pm_zi (pm_szi (pm_szi (pm_szi (pm_szi (pm_szi (pm_szi S (m + 1) Z.1.length 0) (m + 6) Z.1.length 0) (m + 7) Z.1.length 0) (m + 8) Z.1.length (nI p)) (m + 9) Z.1.length 0) (m + 18) Z.1.length 0) (m + 7) Z.1.length = 0 := by simp [ps_gi_nx, ps_gi_sz, ps_gi_sh, ps_gi_gi, ps_gi_gl, ps_gi_gr, ps_gi_zi, ps_gi_zl, ps_gi_zr, ps_gi_ar, ps_gi_al, ps_gl_nx, ps_gl_sz, ps_gl_sh, ps_gl_gi, ps_gl_gl, ps_gl_gr, ps_gl_zi, ps_gl_zl, ps_gl_zr, ps_gl_ar, ps_gl_al, ps_gr_nx, ps_gr_sz, ps_gr_sh, ps_gr_gi, ps_gr_gl, ps_gr_gr, ps_gr_zi, ps_gr_zl, ps_gr_zr, ps_gr_ar, ps_gr_al, ps_zi_nx, ps_zi_sz, ps_zi_sh, ps_zi_gi, ps_zi_gl, ps_zi_gr, ps_zi_zi, ps_zi_zl, ps_zi_zr, ps_zi_ar, ps_zi_al, ps_zl_nx, ps_zl_sz, ps_zl_sh, ps_zl_gi, ps_zl_gl, ps_zl_gr, ps_zl_zi, ps_zl_zl, ps_zl_zr, ps_zl_ar, ps_zl_al, ps_zr_nx, ps_zr_sz, ps_zr_sh, ps_zr_gi, ps_zr_gl, ps_zr_gr, ps_zr_zi, ps_zr_zl, ps_zr_zr, ps_zr_ar, ps_zr_al, pm_rf_some, pm_rf_none, pm_tl_some, pm_tl_none]
        have v8 : pm_zi (pm_szi (pm_szi (pm_szi (pm_szi (pm_szi (pm_szi S (m + 1) Z.1.length 0) (m + 6) Z.1.length 0) (m + 7) Z.1.length 0) (m + 8) Z.1.length (nI p)) (m + 9) Z.1.length 0) (m + 18) Z.1.length 0) (m + 8) Z.1.length = nI p := by simp [ps_gi_nx, ps_gi_sz, ps_gi_sh, ps_gi_gi, ps_gi_gl, ps_gi_gr, ps_gi_zi, ps_gi_zl, ps_gi_zr, ps_gi_ar, ps_gi_al, ps_gl_nx, ps_gl_sz, ps_gl_sh, ps_gl_gi, ps_gl_gl, ps_gl_gr, ps_gl_zi, ps_gl_zl, ps_gl_zr, ps_gl_ar, ps_gl_al, ps_gr_nx, ps_gr_sz, ps_gr_sh, ps_gr_gi, ps_gr_gl, ps_gr_gr, ps_gr_zi, ps_gr_zl, ps_gr_zr, ps_gr_ar, ps_gr_al, ps_zi_nx, ps_zi_sz, ps_zi_sh, ps_zi_gi, ps_zi_gl, ps_zi_gr, ps_zi_zi, ps_zi_zl, ps_zi_zr, ps_zi_ar, ps_zi_al, ps_zl_nx, ps_zl_sz, ps_zl_sh, ps_zl_gi, ps_zl_gl, ps_zl_gr, ps_zl_zi, ps_zl_zl, ps_zl_zr, ps_zl_ar, ps_zl_al, ps_zr_nx, ps_zr_sz, ps_zr_sh, ps_zr_gi, ps_zr_gl, ps_zr_gr, ps_zr_zi, ps_zr_zl, ps_zr_zr, ps_zr_ar, ps_zr_al, pm_rf_some, pm_rf_none, pm_tl_some, pm_tl_none]
        have v9 : pm_zi (pm_szi (pm_szi (pm_szi (pm_szi (pm_szi (pm_szi S (m + 1) Z.1.length 0) (m + 6) Z.1.length 0) (m + 7) Z.1.length 0) (m + 8) Z.1.length (nI p)) (m + 9) Z.1.length 0) (m + 18) Z.1.length 0) (m + 9) Z.1.length = 0 := by simp [ps_gi_nx, ps_gi_sz, ps_gi_sh, ps_gi_gi, ps_gi_gl, ps_gi_gr, ps_gi_zi, ps_gi_zl, ps_gi_zr, ps_gi_ar, ps_gi_al, ps_gl_nx, ps_gl_sz, ps_gl_sh, ps_gl_gi, ps_gl_gl, ps_gl_gr, ps_gl_zi, ps_gl_zl, ps_gl_zr, ps_gl_ar, ps_gl_al, ps_gr_nx, ps_gr_sz, ps_gr_sh, ps_gr_gi, ps_gr_gl, ps_gr_gr, ps_gr_zi, ps_gr_zl, ps_gr_zr, ps_gr_ar, ps_gr_al, ps_zi_nx, ps_zi_sz, ps_zi_sh, ps_zi_gi, ps_zi_gl, ps_zi_gr, ps_zi_zi, ps_zi_zl, ps_zi_zr, ps_zi_ar, ps_zi_al, ps_zl_nx, ps_zl_sz, ps_zl_sh, ps_zl_gi, ps_zl_gl, ps_zl_gr, ps_zl_zi, ps_zl_zl, ps_zl_zr, ps_zl_ar, ps_zl_al, ps_zr_nx, ps_zr_sz, ps_zr_sh, ps_zr_gi, ps_zr_gl, ps_zr_gr, ps_zr_zi, ps_zr_zl, ps_zr_zr, ps_zr_ar, ps_zr_al, pm_rf_some, pm_rf_none, pm_tl_some, pm_tl_none]
        have v18 : pm_zi (pm_szi (pm_szi (pm_szi (pm_szi (pm_szi (pm_szi S (m + 1) Z.1.length 0) (m + 6) Z.1.length 0) (m + 7) Z.1.length 0) (m + 8) Z.1.length (nI p)) (m + 9) Z.1.length 0) (m + 18) Z.1.length 0) (m + 18) Z.1.length = 0 := by simp [ps_gi_nx, ps_gi_sz, ps_gi_sh, ps_gi_gi, ps_gi_gl, ps_gi_gr, ps_gi_zi, ps_gi_zl, ps_gi_zr, ps_gi_ar, ps_gi_al, ps_gl_nx, ps_gl_sz, ps_gl_sh, ps_gl_gi, ps_gl_gl, ps_gl_gr, ps_gl_zi, ps_gl_zl, ps_gl_zr, ps_gl_ar, ps_gl_al, ps_gr_nx, ps_gr_sz, ps_gr_sh, ps_gr_gi, ps_gr_gl, ps_gr_gr, ps_gr_zi, ps_gr_zl, ps_gr_zr, ps_gr_ar, ps_gr_al, ps_zi_nx, ps_zi_sz, ps_zi_sh, ps_zi_gi, ps_zi_gl, ps_zi_gr, ps_zi_zi, ps_zi_zl, ps_zi_zr, ps_zi_ar, ps_zi_al, ps_zl_nx, ps_zl_sz, ps_zl_sh, ps_zl_gi, ps_zl_gl, ps_zl_gr, ps_zl_zi, ps_zl_zl, ps_zl_zr, ps_zl_ar, ps_zl_al, ps_zr_nx, ps_zr_sz, ps_zr_sh, ps_zr_gi, ps_zr_gl, ps_zr_gr, ps_zr_zi, ps_zr_zl, ps_zr_zr, ps_zr_ar, ps_zr_al, pm_rf_some, pm_rf_none, pm_tl_some, pm_tl_none]
        generalize pm_szi (pm_szi (pm_szi (pm_szi (pm_szi (pm_szi S (m + 1) Z.1.length 0) (m + 6) Z.1.length 0) (m + 7) Z.1.length 0) (m + 8) Z.1.length (nI p)) (m + 9) Z.1.length 0) (m + 18) Z.1.length 0 = S0 at *
        refine lp (n := p) (Inv := fun k S' => frI (fun b k => b = m + 10 ∧ 40 * Z.1.length ≤ k ∧ k < 40 * Z.1.length + 40) S0 S' ∧ ∀ i, i < k → pm_zl S' (m + 10) (40 * Z.1.length + i) = 0) (head := fun k S' => pm_V (d + 1) 92 74 [.ref m, .int (nI p), .int (nI Z.1.length), .int (nI k)] [] S' Q) ?_ ?_ S0 ⟨frI.rf, fun i hi => by omega⟩
        · rintro k S1 hk ⟨hf, hz⟩ hN
          have hM1 := sM_frI (sM_frI hM f0) hf
          have e1 : nI k < nI p := nI_lt hk (by omega)
          have e6 : (40 : Int32) * nI Z.1.length + nI k = nI (40 * Z.1.length + k) := sp_at 40 Z.1.length k
          have r1 := pm_ar_nI (sM_s10 hM1) (show 40 * Z.1.length + k < 960 by omega) (by decide)
          rw [q92_74]
          simp only [q92_0, q92_1, q92_2, q92_4, q92_7, q92_10, q92_12, q92_13, q92_14, q92_17, q92_19, q92_22, q92_24, q92_25, q92_26, q92_29, q92_30, q92_31, q92_34, q92_35, q92_36, q92_37, q92_38, q92_41, q92_42, q92_43, q92_44, q92_45, q92_48, q92_49, q92_50, q92_51, q92_52, q92_55, q92_56, q92_57, q92_58, q92_59, q92_62, q92_63, q92_64, q92_65, q92_66, q92_69, q92_70, q92_71, q92_72, q92_73, q92_75, q92_76, q92_79, q92_80, q92_83, q92_85, q92_86, q92_87, q92_88, q92_89, q92_90, q92_91, q92_94, q92_98, q92_99, q92_102, q92_103, q92_104, q92_107, q92_108, q92_109, q92_112, q92_113, q92_e, e1, if_true, sM_0 hM1, sM_r10 hM1, pm_rf_some, e6, r1, nI_clamp (show 40 * Z.1.length + k < 2 ^ 31 by omega), nI_1]
          refine hN _ ⟨hf.tr (frI.zl ⟨rfl, by omega, by omega⟩), fun i hi => ?_⟩
          rw [ps_zl_zl]
          by_cases e : i = k
          · rw [if_pos ⟨rfl, by omega⟩]
          · rw [if_neg (by omega)]; exact hz i (by omega)
        · rintro S1 ⟨hf, hz⟩
          have hM1 := sM_frI (sM_frI hM f0) hf
          have e1 : ¬ nI p < nI p := nI_nlt (Nat.le_refl _) (by omega)
          have g0 : pm_gi S1 m 0 = nI Z.1.length := by rw [(hf.2.2.2.2.2 m 0 (by omega)).1, (f0.2.2.2.2.2 m 0 (by omega)).1]; exact hI.1.2.1
          rw [q92_74]
          simp only [q92_0, q92_1, q92_2, q92_4, q92_7, q92_10, q92_12, q92_13, q92_14, q92_17, q92_19, q92_22, q92_24, q92_25, q92_26, q92_29, q92_30, q92_31, q92_34, q92_35, q92_36, q92_37, q92_38, q92_41, q92_42, q92_43, q92_44, q92_45, q92_48, q92_49, q92_50, q92_51, q92_52, q92_55, q92_56, q92_57, q92_58, q92_59, q92_62, q92_63, q92_64, q92_65, q92_66, q92_69, q92_70, q92_71, q92_72, q92_73, q92_75, q92_76, q92_79, q92_80, q92_83, q92_85, q92_86, q92_87, q92_88, q92_89, q92_90, q92_91, q92_94, q92_97, q92_98, q92_99, q92_102, q92_103, q92_104, q92_107, q92_108, q92_109, q92_112, q92_113, q92_e, e1, if_false, sM_0 hM1, g0, nI_1, ps_gi_nx, ps_gi_sz, ps_gi_sh, ps_gi_gi, ps_gi_gl, ps_gi_gr, ps_gi_zi, ps_gi_zl, ps_gi_zr, ps_gi_ar, ps_gi_al, ps_gl_nx, ps_gl_sz, ps_gl_sh, ps_gl_gi, ps_gl_gl, ps_gl_gr, ps_gl_zi, ps_gl_zl, ps_gl_zr, ps_gl_ar, ps_gl_al, ps_gr_nx, ps_gr_sz, ps_gr_sh, ps_gr_gi, ps_gr_gl, ps_gr_gr, ps_gr_zi, ps_gr_zl, ps_gr_zr, ps_gr_ar, ps_gr_al, ps_zi_nx, ps_zi_sz, ps_zi_sh, ps_zi_gi, ps_zi_gl, ps_zi_gr, ps_zi_zi, ps_zi_zl, ps_zi_zr, ps_zi_ar, ps_zi_al, ps_zl_nx, ps_zl_sz, ps_zl_sh, ps_zl_gi, ps_zl_gl, ps_zl_gr, ps_zl_zi, ps_zl_zl, ps_zl_zr, ps_zl_ar, ps_zl_al, ps_zr_nx, ps_zr_sz, ps_zr_sh, ps_zr_gi, ps_zr_gl, ps_zr_gr, ps_zr_zi, ps_zr_zl, ps_zr_zr, ps_zr_ar, ps_zr_al, pm_rf_some, pm_rf_none, pm_tl_some, pm_tl_none, true_or]
          have F : frI (fun b k => (k = Z.1.length ∧ (b = m + 1 ∨ b = m + 6 ∨ b = m + 7 ∨ b = m + 8 ∨ b = m + 9 ∨ b = m + 18)) ∨ (b = m + 10 ∧ 40 * Z.1.length ≤ k ∧ k < 40 * Z.1.length + 40) ∨ (b = m ∧ (k = 0 ∨ k = 21))) S (pm_sgi (pm_sgi S1 m 0 (nI (Z.1.length + 1))) m 21 0) := (f0.mono (fun b k q => Or.inl q)).tr ((hf.mono (fun b k q => Or.inr (Or.inl q))).tr ((frI.gi (by omega)).tr (frI.gi (by omega))))
          have w := fun b (q : b = m + 1 ∨ b = m + 6 ∨ b = m + 7 ∨ b = m + 8 ∨ b = m + 9 ∨ b = m + 18) => (hf.2.2.2.2.2 b Z.1.length (by omega)).2.2.1
          have hlen : (Z.1 ++ [((0, 0, 0, (0, 0, 0), false, sp_base p) : sp_G)]).length = Z.1.length + 1 := by simp
          refine hQ _ ⟨⟨sM_frI hM F, ?_, ?_, mTs_fr hI.1.2.2.2.1 F (fun b k q1 q2 => by omega), mLb_fr hI.1.2.2.2.2.1 F (fun k => by omega), fun j hj => ?_⟩, Or.inl ps_gi_self⟩ (mF.I F (fun b k q => by unfold mO; omega))
          · rw [hlen, ps_gi_gi, if_neg (by omega), ps_gi_self]
          · rw [(F.2.2.2.2.2 m 23 (by omega)).1]; exact hI.1.2.2.1
          · have hj' : j < Z.1.length + 1 := by rw [← hlen]; exact hj
            by_cases ej : j = Z.1.length
            · subst ej
              dsimp only
              rw [gg_new]
              refine ⟨⟨(w (m + 1) (by omega)).trans v1, fun h => absurd rfl h, (w (m + 6) (by omega)).trans v6⟩, fun _ => ⟨(w (m + 7) (by omega)).trans v7, Nat.zero_le _, fun _ => ⟨⟨?_, ?_, ?_, ?_, fun i hi => ?_, (fun i hi => by simp [sp_base] at hi)⟩, ⟨?_, by simp [sp_base], (fun i hi => by simp [sp_base] at hi)⟩, fun h => absurd rfl h⟩⟩⟩
              · rw [show (sp_base p).2.1.length = p by simp [sp_base]]; exact (w (m + 8) (by omega)).trans v8
              · simp [sp_base]; omega
              · simp [sp_base]; exact ((w (m + 9) (by omega)).trans v9).trans rfl
              · simp [sp_base]
              · have hi' : i < p := by simpa [sp_base] using hi
                refine (hz i hi').trans ?_
                unfold sp_nd sp_base
                rw [List.getD_eq_getElem?_getD, List.getElem?_eq_getElem (by simpa using hi')]
                simp
              · simp [sp_base]; exact ((w (m + 18) (by omega)).trans v18).trans rfl
            · have hj2 : j < Z.1.length := by omega
              dsimp only
              rw [gg_app hj2]
              exact mK_j hI.1 F hj2 (fun b q1 q2 => by omega) (fun b k q => by unfold mB at q; omega)
      · rw [if_neg c3] at hQ
        rw [if_pos (by omega)]
        exact hQ S hI mF.rf
    · rw [if_pos (fun h => c2 h.2)]; rw [if_neg c2] at hQ; exact hQ S hI mF.rf
end
