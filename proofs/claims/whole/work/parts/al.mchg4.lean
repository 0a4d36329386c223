/-! ===== THE REFERENCE: live, clear ===== -/
section
variable {P : Nat → Nat → Prop} {S S' : pm_T} {m n k d j L : Nat} {C : sp_C} {Z : sp_S} {Q : Option Value → pm_T → Prop} {g : Int32}
/-- a view is fixed, or live again -/
theorem mI_fix {b : Bool} (hw : wf Z) (hI : mI S m Z) (hj : j < Z.1.length) (k0 : ¬ (gg Z.1 j).1 = 0) (hc : b = true → mC S m ((gg Z.1 j).1 ≠ 0) j C) : mI (pm_sgi (pm_szi S (m + 6) j (if b = true then 1 else 0)) m 21 0) m (Z.1.set j (g_fx (gg Z.1 j) b C), Z.2) ∧ mF m S (pm_sgi (pm_szi S (m + 6) j (if b = true then 1 else 0)) m 21 0) := by
  have F : frI (fun b k => (b = m + 6 ∧ k = j) ∨ (b = m ∧ k = 21)) S (pm_sgi (pm_szi S (m + 6) j (if b = true then 1 else 0)) m 21 0) := (frI.zi (Or.inl ⟨rfl, rfl⟩)).tr (frI.gi (Or.inr ⟨rfl, rfl⟩))
  refine ⟨⟨⟨sM_frI hI.1.1 F, ?_, ?_, mTs_fr hI.1.2.2.2.1 F (fun b k q1 q2 => by omega), mLb_fr hI.1.2.2.2.2.1 F (fun k => by omega), fun i hi => ?_⟩, Or.inl ps_gi_self⟩, mF.I F (fun b k q => by unfold mO; omega)⟩
  · rw [(F.2.2.2.2.2 m 0 (by omega)).1]; simp; exact hI.1.2.1
  · rw [(F.2.2.2.2.2 m 23 (by omega)).1]; exact hI.1.2.2.1
  · have hi' : i < Z.1.length := by simpa using hi
    show mG _ m i (gg (Z.1.set j _) i) ∧ ((gg (Z.1.set j _) i).1 = 0 ∨ (gg (Z.1.set j _) i).2.2.2.2.1 = true → mC _ m ((gg (Z.1.set j _) i).1 ≠ 0) i (gg (Z.1.set j _) i).2.2.2.2.2)
    rw [gg_set hj]
    by_cases ei : i = j
    · subst ei
      rw [if_pos rfl]
      obtain ⟨g1, g2, g3⟩ := (hI.1.2.2.2.2.2 i hj).1
      have w := fun b (q : m + 1 ≤ b ∧ b ≤ m + 5) => (F.2.2.2.2.2 b i (by omega)).2.2.1
      refine ⟨⟨(w (m + 1) (by omega)).trans g1, fun z => ?_, ?_⟩, fun q => mC_fr (hc (q.resolve_left k0)) F (fun b k q1 q2 => by unfold mB at q1; omega)⟩
      · obtain ⟨p1, p2, p3, p4, p5⟩ := g2 z
        exact ⟨(w (m + 2) (by omega)).trans p1, (w (m + 3) (by omega)).trans p2, (w (m + 4) (by omega)).trans p3, (w (m + 5) (by omega)).trans p4, p5⟩
      · show pm_zi (pm_szi S (m + 6) i _) (m + 6) i = _
        rw [ps_zi_self]
        rfl
    · rw [if_neg ei]
      exact ⟨mG_fr (hI.1.2.2.2.2.2 i hi').1 F (fun b q1 q2 => by omega), fun q => mC_fr ((hI.1.2.2.2.2.2 i hi').2 q) F (fun b k q1 q2 => by unfold mB at q1; omega)⟩
set_option maxHeartbeats 2000000 in
theorem m_live {b : Bool} (hw : wf Z) (hI : mI S m Z) (hQ : ∀ S', mI S' m (op_live Z g b).2 → mF m S S' → Q (some (.int (op_live Z g b).1)) S') : pm_N (d + 9) 128 [.ref m, .int g, .int (if b = true then 1 else 0)] S Q := by
  have h24 := hw.1
  have hM := hI.1.1
  unfold op_live at hQ
  simp only [q128_0, q128_1, q128_2, q128_5, q128_8, q128_10, q128_11, q128_12, q128_13, q128_16, q128_17, q128_18, q128_21, q128_22, q128_23, q128_24, q128_27, q128_28, q128_31, q128_32, q128_35, q128_36, q128_37, q128_40, q128_43, q128_44, q128_45, q128_48, q128_49, q128_50, q128_53, q128_54, q128_57, q128_58, q128_59, q128_60, q128_61, q128_64, q128_65, q128_e, sM_0 hM, m_isV hw hI.1, pm_tl_some]
  cases hk : ix g Z.1.length with
  | none =>
    rw [hk] at hQ
    simp only [if_true]
    exact hQ S hI mF.rf
  | some j =>
    rw [hk] at hQ
    dsimp only at hQ
    obtain ⟨hj, rfl⟩ := ix_some (by omega) hk
    have hj24 : j < 24 := by omega
    simp only [pm_z0]
    by_cases k0 : (gg Z.1 j).1 = 0
    · rw [if_pos k0]; rw [if_pos k0] at hQ; exact hQ S hI mF.rf
    · rw [if_neg k0]; rw [if_neg k0] at hQ
      have hG := (hI.1.2.2.2.2.2 j hj).1
      simp only [q128_0, q128_1, q128_2, q128_5, q128_8, q128_10, q128_11, q128_12, q128_13, q128_16, q128_17, q128_18, q128_21, q128_22, q128_23, q128_24, q128_27, q128_28, q128_31, q128_32, q128_35, q128_36, q128_37, q128_40, q128_43, q128_44, q128_45, q128_48, q128_49, q128_50, q128_53, q128_54, q128_57, q128_58, q128_59, q128_60, q128_61, q128_64, q128_65, q128_e, sM_0 hM, sM_r6 hM, pm_rf_some, ar6 hM hj24, nc24 hj24, hG.2.2]
      by_cases c1 : (gg Z.1 j).2.2.2.2.1 = b
      · rw [if_pos c1] at hQ
        rw [if_pos (by rw [c1])]
        cases b with
        | true =>
          rw [if_pos rfl] at hQ
          simp only [if_true, show ¬ (1 : Int32) = 0 by decide, if_false, q128_0, q128_1, q128_2, q128_5, q128_8, q128_10, q128_11, q128_12, q128_13, q128_16, q128_17, q128_18, q128_21, q128_22, q128_23, q128_24, q128_27, q128_28, q128_31, q128_32, q128_35, q128_36, q128_37, q128_40, q128_43, q128_44, q128_45, q128_48, q128_49, q128_50, q128_53, q128_54, q128_57, q128_58, q128_59, q128_60, q128_61, q128_64, q128_65, q128_e, sM_0 hM, sM_r6 hM, pm_rf_some, ar6 hM hj24, nc24 hj24, true_or, or_true, ps_gi_nx, ps_gi_sz, ps_gi_sh, ps_gi_gi, ps_gi_gl, ps_gi_gr, ps_gi_zi, ps_gi_zl, ps_gi_zr, ps_gi_ar, ps_gi_al, ps_gl_nx, ps_gl_sz, ps_gl_sh, ps_gl_gi, ps_gl_gl, ps_gl_gr, ps_gl_zi, ps_gl_zl, ps_gl_zr, ps_gl_ar, ps_gl_al, ps_gr_nx, ps_gr_sz, ps_gr_sh, ps_gr_gi, ps_gr_gl, ps_gr_gr, ps_gr_zi, ps_gr_zl, ps_gr_zr, ps_gr_ar, ps_gr_al, ps_zi_nx, ps_zi_sz, ps_zi_sh, ps_zi_gi, ps_zi_gl, ps_zi_gr, ps_zi_zi, ps_zi_zl, ps_zi_zr, ps_zi_ar, ps_zi_al, ps_zl_nx, ps_zl_sz, ps_zl_sh, ps_zl_gi, ps_zl_gl, ps_zl_gr, ps_zl_zi, ps_zl_zl, ps_zl_zr, ps_zl_ar, ps_zl_al, ps_zr_nx, ps_zr_sz, ps_zr_sh, ps_zr_gi, ps_zr_gl, ps_zr_gr, ps_zr_zi, ps_zr_zl, ps_zr_zr, ps_zr_ar, ps_zr_al, pm_rf_some, pm_rf_none, pm_tl_some, pm_tl_none]
          obtain ⟨y1, y2⟩ := mI_fix (C := (gg Z.1 j).2.2.2.2.2) (b := false) hw hI hj k0 (fun h => by cases h)
          exact hQ _ y1 y2
        | false =>
          rw [if_neg (by decide)] at hQ
          simp only [Bool.false_eq_true, if_false, if_true, q128_0, q128_1, q128_2, q128_5, q128_8, q128_10, q128_11, q128_12, q128_13, q128_16, q128_17, q128_18, q128_21, q128_22, q128_23, q128_24, q128_27, q128_28, q128_31, q128_32, q128_35, q128_36, q128_37, q128_40, q128_43, q128_44, q128_45, q128_48, q128_49, q128_50, q128_53, q128_54, q128_57, q128_58, q128_59, q128_60, q128_61, q128_64, q128_65, q128_e, sM_0 hM]
          refine m_reckon (d := d) hw hI fun S1 i1 hA f1 n1 z1 => ?_
          have hM1 := i1.1.1
          have hC := hA j hj
          have z7 := mC_7 hC
          have F1 : mF m S S1 := ⟨f1, n1, z1⟩
          simp only [pm_tl_none, q128_0, q128_1, q128_2, q128_5, q128_8, q128_10, q128_11, q128_12, q128_13, q128_16, q128_17, q128_18, q128_21, q128_22, q128_23, q128_24, q128_27, q128_28, q128_31, q128_32, q128_35, q128_36, q128_37, q128_40, q128_43, q128_44, q128_45, q128_48, q128_49, q128_50, q128_53, q128_54, q128_57, q128_58, q128_59, q128_60, q128_61, q128_64, q128_65, q128_e, sM_0 hM1, sM_r7 hM1, pm_rf_some, ar7 hM1 hj24, nc24 hj24, z7]
          by_cases c6 : (ct Z j).1 = 0
          · rw [if_pos c6] at hQ ⊢
            simp only [q128_0, q128_1, q128_2, q128_5, q128_8, q128_10, q128_11, q128_12, q128_13, q128_16, q128_17, q128_18, q128_21, q128_22, q128_23, q128_24, q128_27, q128_28, q128_31, q128_32, q128_35, q128_36, q128_37, q128_40, q128_43, q128_44, q128_45, q128_48, q128_49, q128_50, q128_53, q128_54, q128_57, q128_58, q128_59, q128_60, q128_61, q128_64, q128_65, q128_e, if_true, sM_0 hM1, sM_r6 hM1, pm_rf_some, ar6 hM1 hj24, nc24 hj24, true_or, or_true, ps_gi_nx, ps_gi_sz, ps_gi_sh, ps_gi_gi, ps_gi_gl, ps_gi_gr, ps_gi_zi, ps_gi_zl, ps_gi_zr, ps_gi_ar, ps_gi_al, ps_gl_nx, ps_gl_sz, ps_gl_sh, ps_gl_gi, ps_gl_gl, ps_gl_gr, ps_gl_zi, ps_gl_zl, ps_gl_zr, ps_gl_ar, ps_gl_al, ps_gr_nx, ps_gr_sz, ps_gr_sh, ps_gr_gi, ps_gr_gl, ps_gr_gr, ps_gr_zi, ps_gr_zl, ps_gr_zr, ps_gr_ar, ps_gr_al, ps_zi_nx, ps_zi_sz, ps_zi_sh, ps_zi_gi, ps_zi_gl, ps_zi_gr, ps_zi_zi, ps_zi_zl, ps_zi_zr, ps_zi_ar, ps_zi_al, ps_zl_nx, ps_zl_sz, ps_zl_sh, ps_zl_gi, ps_zl_gl, ps_zl_gr, ps_zl_zi, ps_zl_zl, ps_zl_zr, ps_zl_ar, ps_zl_al, ps_zr_nx, ps_zr_sz, ps_zr_sh, ps_zr_gi, ps_zr_gl, ps_zr_gr, ps_zr_zi, ps_zr_zl, ps_zr_zr, ps_zr_ar, ps_zr_al, pm_rf_some, pm_rf_none, pm_tl_some, pm_tl_none]
            obtain ⟨y1, y2⟩ := mI_fix (C := ct Z j) (b := true) hw i1 hj k0 (fun _ => hC)
            exact hQ _ y1 (F1.tr y2)
          · rw [if_neg c6] at hQ ⊢
            exact hQ S1 i1 F1
      · rw [if_neg c1] at hQ
        have : ¬ (if b = true then (1 : Int32) else 0) = (if (gg Z.1 j).2.2.2.2.1 = true then 1 else 0) := by
          cases h1 : (gg Z.1 j).2.2.2.2.1 <;> cases b <;> simp_all
        simp only [this, if_false]
        exact hQ S hI mF.rf
/-- all labels are taken away; what must hold then -/
theorem m_clearG {gc : Int32} (hM : sM S m) (h0 : pm_gi S m 0 = gc) (hQ : ∀ S', mI S' m ([], (fun _ _ => none), []) → mF m S S' → Q (some (.int gc)) S') : pm_N (d + 1) 141 [.ref m] S Q := by
  have f0 : frI (fun b k => b = m) S (pm_sgi (pm_sgi (pm_sgi S m 0 0) m 23 0) m 21 0) := (frI.gi (P := fun b _ => b = m) rfl).tr ((frI.gi (P := fun b _ => b = m) rfl).tr (frI.gi (P := fun b _ => b = m) rfl))
  simp only [q141_0, q141_1, q141_4, q141_5, q141_6, q141_7, q141_10, q141_11, q141_12, q141_15, q141_16, q141_17, q141_20, q141_21, q141_23, q141_26, q141_29, q141_30, q141_33, q141_34, q141_35, q141_36, q141_39, q141_42, q141_43, q141_e, sM_0 hM, h0, ps_gi_nx, ps_gi_sz, ps_gi_sh, ps_gi_gi, ps_gi_gl, ps_gi_gr, ps_gi_zi, ps_gi_zl, ps_gi_zr, ps_gi_ar, ps_gi_al, ps_gl_nx, ps_gl_sz, ps_gl_sh, ps_gl_gi, ps_gl_gl, ps_gl_gr, ps_gl_zi, ps_gl_zl, ps_gl_zr, ps_gl_ar, ps_gl_al, ps_gr_nx, ps_gr_sz, ps_gr_sh, ps_gr_gi, ps_gr_gl, ps_gr_gr, ps_gr_zi, ps_gr_zl, ps_gr_zr, ps_gr_ar, ps_gr_al, ps_zi_nx, ps_zi_sz, ps_zi_sh, ps_zi_gi, ps_zi_gl, ps_zi_gr, ps_zi_zi, ps_zi_zl, ps_zi_zr, ps_zi_ar, ps_zi_al, ps_zl_nx, ps_zl_sz, ps_zl_sh, ps_zl_gi, ps_zl_gl, ps_zl_gr, ps_zl_zi, ps_zl_zl, ps_zl_zr, ps_zl_ar, ps_zl_al, ps_zr_nx, ps_zr_sz, ps_zr_sh, ps_zr_gi, ps_zr_gl, ps_zr_gr, ps_zr_zi, ps_zr_zl, ps_zr_zr, ps_zr_ar, ps_zr_al, pm_rf_some, pm_rf_none, pm_tl_some, pm_tl_none, true_or]
  have g0 : pm_gi (pm_sgi (pm_sgi (pm_sgi S m 0 0) m 23 0) m 21 0) m 0 = 0 := by simp [ps_gi_nx, ps_gi_sz, ps_gi_sh, ps_gi_gi, ps_gi_gl, ps_gi_gr, ps_gi_zi, ps_gi_zl, ps_gi_zr, ps_gi_ar, ps_gi_al, ps_gl_nx, ps_gl_sz, ps_gl_sh, ps_gl_gi, ps_gl_gl, ps_gl_gr, ps_gl_zi, ps_gl_zl, ps_gl_zr, ps_gl_ar, ps_gl_al, ps_gr_nx, ps_gr_sz, ps_gr_sh, ps_gr_gi, ps_gr_gl, ps_gr_gr, ps_gr_zi, ps_gr_zl, ps_gr_zr, ps_gr_ar, ps_gr_al, ps_zi_nx, ps_zi_sz, ps_zi_sh, ps_zi_gi, ps_zi_gl, ps_zi_gr, ps_zi_zi, ps_zi_zl, ps_zi_zr, ps_zi_ar, ps_zi_al, ps_zl_nx, ps_zl_sz, ps_zl_sh, ps_zl_gi, ps_zl_gl, ps_zl_gr, ps_zl_zi, ps_zl_zl, ps_zl_zr, ps_zl_ar, ps_zl_al, ps_zr_nx, ps_zr_sz, ps_zr_sh, ps_zr_gi, ps_zr_gl, ps_zr_gr, ps_zr_zi, ps_zr_zl, ps_zr_zr, ps_zr_ar, ps_zr_al, pm_rf_some, pm_rf_none, pm_tl_some, pm_tl_none]
  have g23 : pm_gi (pm_sgi (pm_sgi (pm_sgi S m 0 0) m 23 0) m 21 0) m 23 = 0 := by simp [ps_gi_nx, ps_gi_sz, ps_gi_sh, ps_gi_gi, ps_gi_gl, ps_gi_gr, ps_gi_zi, ps_gi_zl, ps_gi_zr, ps_gi_ar, ps_gi_al, ps_gl_nx, ps_gl_sz, ps_gl_sh, ps_gl_gi, ps_gl_gl, ps_gl_gr, ps_gl_zi, ps_gl_zl, ps_gl_zr, ps_gl_ar, ps_gl_al, ps_gr_nx, ps_gr_sz, ps_gr_sh, ps_gr_gi, ps_gr_gl, ps_gr_gr, ps_gr_zi, ps_gr_zl, ps_gr_zr, ps_gr_ar, ps_gr_al, ps_zi_nx, ps_zi_sz, ps_zi_sh, ps_zi_gi, ps_zi_gl, ps_zi_gr, ps_zi_zi, ps_zi_zl, ps_zi_zr, ps_zi_ar, ps_zi_al, ps_zl_nx, ps_zl_sz, ps_zl_sh, ps_zl_gi, ps_zl_gl, ps_zl_gr, ps_zl_zi, ps_zl_zl, ps_zl_zr, ps_zl_ar, ps_zl_al, ps_zr_nx, ps_zr_sz, ps_zr_sh, ps_zr_gi, ps_zr_gl, ps_zr_gr, ps_zr_zi, ps_zr_zl, ps_zr_zr, ps_zr_ar, ps_zr_al, pm_rf_some, pm_rf_none, pm_tl_some, pm_tl_none]
  have g21 : pm_gi (pm_sgi (pm_sgi (pm_sgi S m 0 0) m 23 0) m 21 0) m 21 = 0 := by simp [ps_gi_nx, ps_gi_sz, ps_gi_sh, ps_gi_gi, ps_gi_gl, ps_gi_gr, ps_gi_zi, ps_gi_zl, ps_gi_zr, ps_gi_ar, ps_gi_al, ps_gl_nx, ps_gl_sz, ps_gl_sh, ps_gl_gi, ps_gl_gl, ps_gl_gr, ps_gl_zi, ps_gl_zl, ps_gl_zr, ps_gl_ar, ps_gl_al, ps_gr_nx, ps_gr_sz, ps_gr_sh, ps_gr_gi, ps_gr_gl, ps_gr_gr, ps_gr_zi, ps_gr_zl, ps_gr_zr, ps_gr_ar, ps_gr_al, ps_zi_nx, ps_zi_sz, ps_zi_sh, ps_zi_gi, ps_zi_gl, ps_zi_gr, ps_zi_zi, ps_zi_zl, ps_zi_zr, ps_zi_ar, ps_zi_al, ps_zl_nx, ps_zl_sz, ps_zl_sh, ps_zl_gi, ps_zl_gl, ps_zl_gr, ps_zl_zi, ps_zl_zl, ps_zl_zr, ps_zl_ar, ps_zl_al, ps_zr_nx, ps_zr_sz, ps_zr_sh, ps_zr_gi, ps_zr_gl, ps_zr_gr, ps_zr_zi, ps_zr_zl, ps_zr_zr, ps_zr_ar, ps_zr_al, pm_rf_some, pm_rf_none, pm_tl_some, pm_tl_none]
  generalize pm_sgi (pm_sgi (pm_sgi S m 0 0) m 23 0) m 21 0 = S0 at *
  refine lp (n := 160) (Inv := fun k S' => frI (fun b k => b = m + 21) S0 S' ∧ ∀ i, i < k → pm_zi S' (m + 21) i = -1) (head := fun k S' => pm_V (d + 1) 141 22 [.ref m, .int gc, .int (nI k)] [] S' Q) ?_ ?_ S0 ⟨frI.rf, fun i hi => by omega⟩
  · rintro k S1 hk ⟨hf, hz⟩ hN
    have hM1 := sM_frI (sM_frI hM f0) hf
    have e1 : nI k < 160 := nI_lt (b := 160) hk (by decide)
    have r1 := pm_ar_nI (sM_s21 hM1) hk (by decide)
    rw [q141_22]
    simp only [q141_0, q141_1, q141_4, q141_5, q141_6, q141_7, q141_10, q141_11, q141_12, q141_15, q141_16, q141_17, q141_20, q141_21, q141_23, q141_26, q141_29, q141_30, q141_33, q141_34, q141_35, q141_36, q141_39, q141_43, q141_e, e1, if_true, sM_0 hM1, sM_r22 hM1, pm_rf_some, r1, nI_clamp (show k < 2 ^ 31 by omega), nI_1]
    refine hN _ ⟨hf.tr (frI.zi rfl), fun i hi => ?_⟩
    rw [ps_zi_zi]
    by_cases e : i = k
    · rw [if_pos ⟨rfl, e⟩]
    · rw [if_neg (fun q => e q.2)]; exact hz i (by omega)
  · rintro S1 ⟨hf, hz⟩
    rw [q141_22]
    simp only [q141_0, q141_1, q141_4, q141_5, q141_6, q141_7, q141_10, q141_11, q141_12, q141_15, q141_16, q141_17, q141_20, q141_21, q141_23, q141_26, q141_29, q141_30, q141_33, q141_34, q141_35, q141_36, q141_39, q141_42, q141_43, q141_e, show ¬ nI 160 < 160 by decide, if_false]
    have F : frI (fun b k => b = m ∨ b = m + 21) S S1 := (f0.mono (fun b k q => Or.inl q)).tr (hf.mono (fun b k q => Or.inr q))
    have w := fun k => (hf.2.2.2.2.2 m k (by omega)).1
    exact hQ S1 ⟨⟨sM_frI hM F, (w 0).trans g0, (w 23).trans g23, (fun k hk => by cases hk), fun t i ht hi => hz _ (by omega), (fun j hj => by cases hj)⟩, Or.inl ((w 21).trans g21)⟩ (mF.I F (fun b k q => by unfold mO; omega))
theorem m_clear (hI : mI S m Z) (hQ : ∀ S', mI S' m (op_clear Z).2 → mF m S S' → Q (some (.int (op_clear Z).1)) S') : pm_N (d + 1) 141 [.ref m] S Q := m_clearG hI.1.1 hI.1.2.1 hQ
end
