/-! ===== THE REFERENCE: arc, set, label, test, view, live, clear ===== -/
section
variable {P : Nat → Nat → Prop} {S S' : pm_T} {m a b n k d j L : Nat} {C : sp_C} {u : Prop} {Z : sp_S} {Q : Option Value → pm_T → Prop} {g wh i t f x s e : Int32} {v c : Int64}
theorem mR_arc {x y : Int32} (hR : mR S m j C) (hH : mH S m j C) (hl : C.2.2.1.length < 120) (h7 : pm_zi S (m + 7) j = 0) : mR (fM_arc S m j C.2.2.1.length (nI a) (nI b) v x y) m j (sp_pA C (a, b, v, none, none)) ∧ mH (fM_arc S m j C.2.2.1.length (nI a) (nI b) v x y) m j (sp_pA C (a, b, v, none, none)) ∧ frI (mB m j) S (fM_arc S m j C.2.2.1.length (nI a) (nI b) v x y) ∧ pm_zi (fM_arc S m j C.2.2.1.length (nI a) (nI b) v x y) (m + 7) j = 0 := by
  unfold fM_arc
  rw [if_neg (by omega), if_pos h7]
  obtain ⟨p1, p2, p3, p4, p5, p6⟩ := hR
  refine ⟨⟨by simpa [ps_gi_nx, ps_gi_sz, ps_gi_sh, ps_gi_gi, ps_gi_gl, ps_gi_gr, ps_gi_zi, ps_gi_zl, ps_gi_zr, ps_gi_ar, ps_gi_al, ps_gl_nx, ps_gl_sz, ps_gl_sh, ps_gl_gi, ps_gl_gl, ps_gl_gr, ps_gl_zi, ps_gl_zl, ps_gl_zr, ps_gl_ar, ps_gl_al, ps_gr_nx, ps_gr_sz, ps_gr_sh, ps_gr_gi, ps_gr_gl, ps_gr_gr, ps_gr_zi, ps_gr_zl, ps_gr_zr, ps_gr_ar, ps_gr_al, ps_zi_nx, ps_zi_sz, ps_zi_sh, ps_zi_gi, ps_zi_gl, ps_zi_gr, ps_zi_zi, ps_zi_zl, ps_zi_zr, ps_zi_ar, ps_zi_al, ps_zl_nx, ps_zl_sz, ps_zl_sh, ps_zl_gi, ps_zl_gl, ps_zl_gr, ps_zl_zi, ps_zl_zl, ps_zl_zr, ps_zl_ar, ps_zl_al, ps_zr_nx, ps_zr_sz, ps_zr_sh, ps_zr_gi, ps_zr_gl, ps_zr_gr, ps_zr_zi, ps_zr_zl, ps_zr_zr, ps_zr_ar, ps_zr_al, pm_rf_some, pm_rf_none, pm_tl_some, pm_tl_none, sp_pA] using p1, p2, ?_, ?_, fun i hi => ?_, fun i hi => ?_⟩, ?_, ?_, by simpa [ps_gi_nx, ps_gi_sz, ps_gi_sh, ps_gi_gi, ps_gi_gl, ps_gi_gr, ps_gi_zi, ps_gi_zl, ps_gi_zr, ps_gi_ar, ps_gi_al, ps_gl_nx, ps_gl_sz, ps_gl_sh, ps_gl_gi, ps_gl_gl, ps_gl_gr, ps_gl_zi, ps_gl_zl, ps_gl_zr, ps_gl_ar, ps_gl_al, ps_gr_nx, ps_gr_sz, ps_gr_sh, ps_gr_gi, ps_gr_gl, ps_gr_gr, ps_gr_zi, ps_gr_zl, ps_gr_zr, ps_gr_ar, ps_gr_al, ps_zi_nx, ps_zi_sz, ps_zi_sh, ps_zi_gi, ps_zi_gl, ps_zi_gr, ps_zi_zi, ps_zi_zl, ps_zi_zr, ps_zi_ar, ps_zi_al, ps_zl_nx, ps_zl_sz, ps_zl_sh, ps_zl_gi, ps_zl_gl, ps_zl_gr, ps_zl_zi, ps_zl_zl, ps_zl_zr, ps_zl_ar, ps_zl_al, ps_zr_nx, ps_zr_sz, ps_zr_sh, ps_zr_gi, ps_zr_gl, ps_zr_gr, ps_zr_zi, ps_zr_zl, ps_zr_zr, ps_zr_ar, ps_zr_al, pm_rf_some, pm_rf_none, pm_tl_some, pm_tl_none] using h7⟩
  · simp [ps_gi_nx, ps_gi_sz, ps_gi_sh, ps_gi_gi, ps_gi_gl, ps_gi_gr, ps_gi_zi, ps_gi_zl, ps_gi_zr, ps_gi_ar, ps_gi_al, ps_gl_nx, ps_gl_sz, ps_gl_sh, ps_gl_gi, ps_gl_gl, ps_gl_gr, ps_gl_zi, ps_gl_zl, ps_gl_zr, ps_gl_ar, ps_gl_al, ps_gr_nx, ps_gr_sz, ps_gr_sh, ps_gr_gi, ps_gr_gl, ps_gr_gr, ps_gr_zi, ps_gr_zl, ps_gr_zr, ps_gr_ar, ps_gr_al, ps_zi_nx, ps_zi_sz, ps_zi_sh, ps_zi_gi, ps_zi_gl, ps_zi_gr, ps_zi_zi, ps_zi_zl, ps_zi_zr, ps_zi_ar, ps_zi_al, ps_zl_nx, ps_zl_sz, ps_zl_sh, ps_zl_gi, ps_zl_gl, ps_zl_gr, ps_zl_zi, ps_zl_zl, ps_zl_zr, ps_zl_ar, ps_zl_al, ps_zr_nx, ps_zr_sz, ps_zr_sh, ps_zr_gi, ps_zr_gl, ps_zr_gr, ps_zr_zi, ps_zr_zl, ps_zr_zr, ps_zr_ar, ps_zr_al, pm_rf_some, pm_rf_none, pm_tl_some, pm_tl_none, sp_pA]
  · simp [sp_pA]; omega
  · have := p5 i hi
    simpa [ps_gi_nx, ps_gi_sz, ps_gi_sh, ps_gi_gi, ps_gi_gl, ps_gi_gr, ps_gi_zi, ps_gi_zl, ps_gi_zr, ps_gi_ar, ps_gi_al, ps_gl_nx, ps_gl_sz, ps_gl_sh, ps_gl_gi, ps_gl_gl, ps_gl_gr, ps_gl_zi, ps_gl_zl, ps_gl_zr, ps_gl_ar, ps_gl_al, ps_gr_nx, ps_gr_sz, ps_gr_sh, ps_gr_gi, ps_gr_gl, ps_gr_gr, ps_gr_zi, ps_gr_zl, ps_gr_zr, ps_gr_ar, ps_gr_al, ps_zi_nx, ps_zi_sz, ps_zi_sh, ps_zi_gi, ps_zi_gl, ps_zi_gr, ps_zi_zi, ps_zi_zl, ps_zi_zr, ps_zi_ar, ps_zi_al, ps_zl_nx, ps_zl_sz, ps_zl_sh, ps_zl_gi, ps_zl_gl, ps_zl_gr, ps_zl_zi, ps_zl_zl, ps_zl_zr, ps_zl_ar, ps_zl_al, ps_zr_nx, ps_zr_sz, ps_zr_sh, ps_zr_gi, ps_zr_gl, ps_zr_gr, ps_zr_zi, ps_zr_zl, ps_zr_zr, ps_zr_ar, ps_zr_al, pm_rf_some, pm_rf_none, pm_tl_some, pm_tl_none, sp_pA, sp_nd_a] using this
  · have hi' : i < C.2.2.1.length + 1 := by simpa [sp_pA] using hi
    unfold sp_pA
    rw [sp_ar_app]
    by_cases e : i = C.2.2.1.length
    · subst e; rw [if_pos rfl]; simp [ps_gi_nx, ps_gi_sz, ps_gi_sh, ps_gi_gi, ps_gi_gl, ps_gi_gr, ps_gi_zi, ps_gi_zl, ps_gi_zr, ps_gi_ar, ps_gi_al, ps_gl_nx, ps_gl_sz, ps_gl_sh, ps_gl_gi, ps_gl_gl, ps_gl_gr, ps_gl_zi, ps_gl_zl, ps_gl_zr, ps_gl_ar, ps_gl_al, ps_gr_nx, ps_gr_sz, ps_gr_sh, ps_gr_gi, ps_gr_gl, ps_gr_gr, ps_gr_zi, ps_gr_zl, ps_gr_zr, ps_gr_ar, ps_gr_al, ps_zi_nx, ps_zi_sz, ps_zi_sh, ps_zi_gi, ps_zi_gl, ps_zi_gr, ps_zi_zi, ps_zi_zl, ps_zi_zr, ps_zi_ar, ps_zi_al, ps_zl_nx, ps_zl_sz, ps_zl_sh, ps_zl_gi, ps_zl_gl, ps_zl_gr, ps_zl_zi, ps_zl_zl, ps_zl_zr, ps_zl_ar, ps_zl_al, ps_zr_nx, ps_zr_sz, ps_zr_sh, ps_zr_gi, ps_zr_gl, ps_zr_gr, ps_zr_zi, ps_zr_zl, ps_zr_zr, ps_zr_ar, ps_zr_al, pm_rf_some, pm_rf_none, pm_tl_some, pm_tl_none]
    · rw [if_neg e]
      have := p6 i (by omega)
      simpa [ps_gi_nx, ps_gi_sz, ps_gi_sh, ps_gi_gi, ps_gi_gl, ps_gi_gr, ps_gi_zi, ps_gi_zl, ps_gi_zr, ps_gi_ar, ps_gi_al, ps_gl_nx, ps_gl_sz, ps_gl_sh, ps_gl_gi, ps_gl_gl, ps_gl_gr, ps_gl_zi, ps_gl_zl, ps_gl_zr, ps_gl_ar, ps_gl_al, ps_gr_nx, ps_gr_sz, ps_gr_sh, ps_gr_gi, ps_gr_gl, ps_gr_gr, ps_gr_zi, ps_gr_zl, ps_gr_zr, ps_gr_ar, ps_gr_al, ps_zi_nx, ps_zi_sz, ps_zi_sh, ps_zi_gi, ps_zi_gl, ps_zi_gr, ps_zi_zi, ps_zi_zl, ps_zi_zr, ps_zi_ar, ps_zi_al, ps_zl_nx, ps_zl_sz, ps_zl_sh, ps_zl_gi, ps_zl_gl, ps_zl_gr, ps_zl_zi, ps_zl_zl, ps_zl_zr, ps_zl_ar, ps_zl_al, ps_zr_nx, ps_zr_sz, ps_zr_sh, ps_zr_gi, ps_zr_gl, ps_zr_gr, ps_zr_zi, ps_zr_zl, ps_zr_zr, ps_zr_ar, ps_zr_al, pm_rf_some, pm_rf_none, pm_tl_some, pm_tl_none, e] using this
  · unfold mH at hH ⊢
    simpa [ps_gi_nx, ps_gi_sz, ps_gi_sh, ps_gi_gi, ps_gi_gl, ps_gi_gr, ps_gi_zi, ps_gi_zl, ps_gi_zr, ps_gi_ar, ps_gi_al, ps_gl_nx, ps_gl_sz, ps_gl_sh, ps_gl_gi, ps_gl_gl, ps_gl_gr, ps_gl_zi, ps_gl_zl, ps_gl_zr, ps_gl_ar, ps_gl_al, ps_gr_nx, ps_gr_sz, ps_gr_sh, ps_gr_gi, ps_gr_gl, ps_gr_gr, ps_gr_zi, ps_gr_zl, ps_gr_zr, ps_gr_ar, ps_gr_al, ps_zi_nx, ps_zi_sz, ps_zi_sh, ps_zi_gi, ps_zi_gl, ps_zi_gr, ps_zi_zi, ps_zi_zl, ps_zi_zr, ps_zi_ar, ps_zi_al, ps_zl_nx, ps_zl_sz, ps_zl_sh, ps_zl_gi, ps_zl_gl, ps_zl_gr, ps_zl_zi, ps_zl_zl, ps_zl_zr, ps_zl_ar, ps_zl_al, ps_zr_nx, ps_zr_sz, ps_zr_sh, ps_zr_gi, ps_zr_gl, ps_zr_gr, ps_zr_zi, ps_zr_zl, ps_zr_zr, ps_zr_ar, ps_zr_al, pm_rf_some, pm_rf_none, pm_tl_some, pm_tl_none, sp_pA, sp_hd_a] using hH
  · exact (frI.zi (by unfold mB; omega)).tr ((frI.zi (by unfold mB; omega)).tr ((frI.zl (by unfold mB; omega)).tr ((frI.zi (by unfold mB; omega)).tr ((frI.zi (by unfold mB; omega)).tr (frI.zi (by unfold mB; omega))))))
/-- the contents of a base graph have changed -/
theorem mI_val (hw : wf Z) (hI : mI S m Z) (hj : j < Z.1.length) (k0 : (gg Z.1 j).1 = 0) (hf : frI (mB m j) S S') (hc : mC S' m False j C) : mI (pm_sgi S' m 21 0) m (Z.1.set j (g_st (gg Z.1 j) C), Z.2) ∧ mF m S (pm_sgi S' m 21 0) := by
  have h24 := hw.1
  have F : frI (fun b k => mB m j b k ∨ (b = m ∧ k = 21)) S (pm_sgi S' m 21 0) := (hf.mono (fun b k q => Or.inl q)).tr (frI.gi (Or.inr ⟨rfl, rfl⟩))
  refine ⟨⟨⟨sM_frI hI.1.1 F, ?_, ?_, mTs_fr hI.1.2.2.2.1 F (fun b k q1 q2 => by unfold mB; omega), mLb_fr hI.1.2.2.2.2.1 F (fun k => by unfold mB; omega), fun i hi => ?_⟩, Or.inl ps_gi_self⟩, mF.I F (fun b k q => by unfold mB at q; unfold mO; omega)⟩
  · rw [(F.2.2.2.2.2 m 0 (by unfold mB; omega)).1]; simp; exact hI.1.2.1
  · rw [(F.2.2.2.2.2 m 23 (by unfold mB; omega)).1]; exact hI.1.2.2.1
  · have hi' : i < Z.1.length := by simpa using hi
    show mG _ m i (gg (Z.1.set j _) i) ∧ ((gg (Z.1.set j _) i).1 = 0 ∨ (gg (Z.1.set j _) i).2.2.2.2.1 = true → mC _ m ((gg (Z.1.set j _) i).1 ≠ 0) i (gg (Z.1.set j _) i).2.2.2.2.2)
    rw [gg_set hj]
    by_cases ei : i = j
    · subst ei
      rw [if_pos rfl]
      refine ⟨mG_fr (hI.1.2.2.2.2.2 i hj).1 F (fun b q1 q2 => by unfold mB; omega), fun _ => ?_⟩
      have hc' := mC_fr hc (frI.gi (P := fun b k => b = m ∧ k = 21) (x := 0) ⟨rfl, rfl⟩) (fun b k q1 q2 => by unfold mB at q1; omega)
      exact ⟨hc'.1, hc'.2.1, fun q => ⟨(hc'.2.2 q).1, (hc'.2.2 q).2.1, fun z => absurd k0 z⟩⟩
    · rw [if_neg ei]
      exact mK_j hI.1 F hi' (fun b q1 q2 => by unfold mB; omega) (fun b k q => by unfold mB at q ⊢; omega)
set_option maxHeartbeats 2000000 in
theorem m_arc (hw : wf Z) (hI : mI S m Z) (hQ : ∀ S', mI S' m (op_arc Z g f t v).2 → mF m S S' → Q (some (.int (op_arc Z g f t v).1)) S') : pm_N (d + 3) 93 [.ref m, .int g, .int f, .int t, .long v] S Q := by
  have h24 := hw.1
  have hM := hI.1.1
  unfold op_arc at hQ
  simp only [q93_0, q93_1, q93_2, q93_5, q93_8, q93_9, q93_10, q93_11, q93_14, q93_15, q93_16, q93_17, q93_18, q93_21, q93_24, q93_25, q93_26, q93_27, q93_30, q93_31, q93_32, q93_33, q93_34, q93_37, q93_40, q93_42, q93_43, q93_44, q93_47, q93_48, q93_49, q93_51, q93_54, q93_56, q93_57, q93_58, q93_59, q93_60, q93_61, q93_63, q93_65, q93_67, q93_70, q93_71, q93_72, q93_75, q93_76, q93_79, q93_80, q93_81, q93_82, q93_83, q93_e, sM_0 hM, m_isB hw hI.1, pm_tl_some, m_in, pm_z1]
  cases hk : ix g Z.1.length with
  | none =>
    rw [hk] at hQ
    simp only [if_true]
    exact hQ S hI mF.rf
  | some j =>
    rw [hk] at hQ
    dsimp only at hQ
    obtain ⟨hj, rfl⟩ := ix_some (by omega) hk
    have hj24 : j < 24 := by omega
    simp only [pm_z1]
    by_cases k0 : (gg Z.1 j).1 = 0
    · rw [if_neg (fun h => h k0)]; rw [if_pos k0] at hQ
      obtain ⟨w1, w2, w3, w4, w5, w6⟩ := hw.2.2.2 j hj
      obtain ⟨b1, b2, b3, b4, b5⟩ := w4 k0
      obtain ⟨c1, c2, c3⟩ := (hI.1.2.2.2.2.2 j hj).2 (Or.inl k0)
      obtain ⟨r1, r2, -⟩ := c3 b2
      rw [b2] at c1
      have z30 : (nI (gg Z.1 j).2.2.2.2.2.2.2.1.length = 30) = ((gg Z.1 j).2.2.2.2.2.2.2.1.length = 30) := nI_e' (b := 30) (by omega) (by decide)
      simp only [q93_0, q93_1, q93_2, q93_5, q93_8, q93_9, q93_10, q93_11, q93_14, q93_15, q93_16, q93_17, q93_18, q93_21, q93_24, q93_25, q93_26, q93_27, q93_30, q93_31, q93_32, q93_33, q93_34, q93_37, q93_40, q93_42, q93_43, q93_44, q93_47, q93_48, q93_49, q93_51, q93_54, q93_56, q93_57, q93_58, q93_59, q93_60, q93_61, q93_63, q93_65, q93_67, q93_70, q93_71, q93_72, q93_75, q93_76, q93_79, q93_80, q93_81, q93_82, q93_83, q93_e, sM_0 hM, sM_r8 hM, sM_r9 hM, pm_rf_some, ar8 hM hj24, ar9 hM hj24, nc24 hj24, r1.1, r1.2.2.1, m_in, in_ix (g := f) (show (gg Z.1 j).2.2.2.2.2.2.1.length < 2 ^ 30 by omega), in_ix (g := t) (show (gg Z.1 j).2.2.2.2.2.2.1.length < 2 ^ 30 by omega), pm_tl_some, pm_z1, z30]
      cases hf : ix f (gg Z.1 j).2.2.2.2.2.2.1.length with
      | none =>
        rw [hf] at hQ
        simp only [Option.isSome_none, Bool.false_eq_true, not_false_eq_true, if_true]
        exact hQ S hI mF.rf
      | some p =>
        rw [hf] at hQ
        dsimp only at hQ
        obtain ⟨hp, rfl⟩ := ix_some (by omega) hf
        simp only [Option.isSome_some, not_true_eq_false, if_false]
        cases ht : ix t (gg Z.1 j).2.2.2.2.2.2.1.length with
        | none =>
          rw [ht] at hQ
          simp only [Option.isSome_none, Bool.false_eq_true, not_false_eq_true, if_true]
          exact hQ S hI mF.rf
        | some r =>
          rw [ht] at hQ
          dsimp only at hQ
          obtain ⟨hr, rfl⟩ := ix_some (by omega) ht
          simp only [Option.isSome_some, not_true_eq_false, if_false]
          by_cases c30 : (gg Z.1 j).2.2.2.2.2.2.2.1.length < 30
          · rw [if_pos c30] at hQ
            rw [if_neg (by omega)]
            obtain ⟨q1, q2, q3, q4⟩ := mR_arc (a := p) (b := r) (v := v) (x := -1000004) (y := -1000004) r1 r2 (by omega) c1
            have hM1 := sM_frI hM q3
            have n9 := q1.2.2.1
            have hM2 : sM (pm_sgi (fM_arc S m j (gg Z.1 j).2.2.2.2.2.2.2.1.length (nI p) (nI r) v (-1000004) (-1000004)) m 21 0) m := hM1
            simp only [m_addArc hM hj24 r1.2.2.1 r1.2.2.2.1, pm_tl_none, q93_0, q93_1, q93_2, q93_5, q93_8, q93_9, q93_10, q93_11, q93_14, q93_15, q93_16, q93_17, q93_18, q93_21, q93_24, q93_25, q93_26, q93_27, q93_30, q93_31, q93_32, q93_33, q93_34, q93_37, q93_40, q93_42, q93_43, q93_44, q93_47, q93_48, q93_49, q93_51, q93_54, q93_56, q93_57, q93_58, q93_59, q93_60, q93_61, q93_63, q93_65, q93_67, q93_70, q93_71, q93_72, q93_75, q93_76, q93_79, q93_80, q93_81, q93_82, q93_83, q93_e, sM_0 hM1, true_or, sM_r9 hM1, sM_r9 hM2, sM_0 hM2, pm_rf_some, ar9 hM2 hj24, nc24 hj24, ps_gi_nx, ps_gi_sz, ps_gi_sh, ps_gi_gi, ps_gi_gl, ps_gi_gr, ps_gi_zi, ps_gi_zl, ps_gi_zr, ps_gi_ar, ps_gi_al, ps_gl_nx, ps_gl_sz, ps_gl_sh, ps_gl_gi, ps_gl_gl, ps_gl_gr, ps_gl_zi, ps_gl_zl, ps_gl_zr, ps_gl_ar, ps_gl_al, ps_gr_nx, ps_gr_sz, ps_gr_sh, ps_gr_gi, ps_gr_gl, ps_gr_gr, ps_gr_zi, ps_gr_zl, ps_gr_zr, ps_gr_ar, ps_gr_al, ps_zi_nx, ps_zi_sz, ps_zi_sh, ps_zi_gi, ps_zi_gl, ps_zi_gr, ps_zi_zi, ps_zi_zl, ps_zi_zr, ps_zi_ar, ps_zi_al, ps_zl_nx, ps_zl_sz, ps_zl_sh, ps_zl_gi, ps_zl_gl, ps_zl_gr, ps_zl_zi, ps_zl_zl, ps_zl_zr, ps_zl_ar, ps_zl_al, ps_zr_nx, ps_zr_sz, ps_zr_sh, ps_zr_gi, ps_zr_gl, ps_zr_gr, ps_zr_zi, ps_zr_zl, ps_zr_zr, ps_zr_ar, ps_zr_al, pm_rf_some, pm_rf_none, pm_tl_some, pm_tl_none, n9]
            rw [show (sp_pA (gg Z.1 j).2.2.2.2.2 (p, r, v, none, none)).2.2.1.length = (gg Z.1 j).2.2.2.2.2.2.2.1.length + 1 by simp [sp_pA], nI_s1]
            obtain ⟨y1, y2⟩ := mI_val (C := sp_pA (gg Z.1 j).2.2.2.2.2 (p, r, v, none, none)) hw hI hj k0 q3 ⟨by rw [q4]; show 0 = nI (gg Z.1 j).2.2.2.2.2.1; rw [b2]; rfl, by show (gg Z.1 j).2.2.2.2.2.1 ≤ 5; omega, fun _ => ⟨q1, q2, fun z => z.elim⟩⟩
            exact hQ _ y1 y2
          · rw [if_neg c30] at hQ
            rw [if_pos (by omega)]
            exact hQ S hI mF.rf
    · rw [if_pos k0]; rw [if_neg k0] at hQ; exact hQ S hI mF.rf
theorem mR_setN (hR : mR S m j C) (hk : k < C.2.1.length) : mR (pm_szl S (m + 10) (40 * j + k) v) m j (sp_setN C k v) := by
  obtain ⟨p1, p2, p3, p4, p5, p6⟩ := hR
  refine ⟨by rw [show (sp_setN C k v).2.1.length = C.2.1.length by simp [sp_setN]]; exact p1, by simpa [sp_setN] using p2, p3, p4, fun i hi => ?_, fun i hi => ?_⟩
  · have hi' : i < C.2.1.length := by simpa [sp_setN] using hi
    have e : sp_nd (sp_setN C k v) i = if i = k then (v, (sp_nd C k).2) else sp_nd C i := by
      unfold sp_nd sp_setN
      rw [List.getD_eq_getElem?_getD, List.getD_eq_getElem?_getD, List.getElem?_set]
      by_cases q : k = i
      · subst q; rw [if_pos rfl, if_pos rfl, if_pos hk]; rfl
      · rw [if_neg q, if_neg (fun z => q z.symm), List.getD_eq_getElem?_getD]
    rw [e, ps_zl_zl]
    by_cases q : i = k
    · rw [if_pos q, if_pos ⟨rfl, by omega⟩]
    · rw [if_neg q, if_neg (by omega)]; exact p5 i hi'
  · obtain ⟨q1, q2, q3⟩ := p6 i hi
    refine ⟨q1, q2, ?_⟩
    rw [ps_zl_zl, if_neg (by omega)]
    exact q3
theorem mR_setA (hR : mR S m j C) (hk : k < C.2.2.1.length) : mR (pm_szl S (m + 15) (120 * j + k) v) m j (sp_setA C k v) := by
  obtain ⟨p1, p2, p3, p4, p5, p6⟩ := hR
  refine ⟨p1, p2, by rw [show (sp_setA C k v).2.2.1.length = C.2.2.1.length by simp [sp_setA]]; exact p3, by simpa [sp_setA] using p4, fun i hi => ?_, fun i hi => ?_⟩
  · rw [ps_zl_zl, if_neg (by omega)]
    exact p5 i hi
  · have hi' : i < C.2.2.1.length := by simpa [sp_setA] using hi
    have e : sp_ar (sp_setA C k v) i = if i = k then ((sp_ar C k).1, (sp_ar C k).2.1, v, (sp_ar C k).2.2.2) else sp_ar C i := by
      unfold sp_ar sp_setA
      rw [List.getD_eq_getElem?_getD, List.getD_eq_getElem?_getD, List.getElem?_set]
      by_cases q : k = i
      · subst q; rw [if_pos rfl, if_pos rfl, if_pos hk]; rfl
      · rw [if_neg q, if_neg (fun z => q z.symm), List.getD_eq_getElem?_getD]
    obtain ⟨q1, q2, q3⟩ := p6 i hi'
    rw [e, ps_zl_zl]
    by_cases q : i = k
    · subst q
      rw [if_pos rfl, if_pos ⟨rfl, by omega⟩]
      exact ⟨q1, q2, rfl⟩
    · rw [if_neg q, if_neg (by omega)]; exact ⟨q1, q2, q3⟩
set_option maxHeartbeats 2000000 in
theorem m_set (hw : wf Z) (hI : mI S m Z) (hQ : ∀ S', mI S' m (op_set Z g wh i v).2 → mF m S S' → Q (some (.int (op_set Z g wh i v).1)) S') : pm_N (d + 3) 94 [.ref m, .int g, .int wh, .int i, .long v] S Q := by
  have h24 := hw.1
  have hM := hI.1.1
  unfold op_set at hQ
  simp only [q94_0, q94_1, q94_2, q94_5, q94_8, q94_9, q94_10, q94_11, q94_14, q94_17, q94_18, q94_19, q94_20, q94_23, q94_24, q94_27, q94_28, q94_29, q94_32, q94_33, q94_36, q94_37, q94_38, q94_39, q94_40, q94_43, q94_46, q94_48, q94_49, q94_50, q94_53, q94_54, q94_57, q94_59, q94_60, q94_61, q94_62, q94_63, q94_65, q94_66, q94_69, q94_70, q94_73, q94_75, q94_76, q94_77, q94_78, q94_79, q94_81, q94_82, q94_83, q94_84, q94_87, q94_88, q94_e, sM_0 hM, m_isB hw hI.1, pm_tl_some, m_in, pm_z1, in01]
  cases hk : ix g Z.1.length with
  | none =>
    rw [hk] at hQ
    simp only [if_true]
    exact hQ S hI mF.rf
  | some j =>
    rw [hk] at hQ
    dsimp only at hQ
    obtain ⟨hj, rfl⟩ := ix_some (by omega) hk
    have hj24 : j < 24 := by omega
    simp only [pm_z1]
    by_cases k0 : (gg Z.1 j).1 = 0
    · rw [if_neg (fun h => h k0)]; rw [if_pos k0] at hQ
      obtain ⟨w1, w2, w3, w4, w5, w6⟩ := hw.2.2.2 j hj
      obtain ⟨b1, b2, b3, b4, b5⟩ := w4 k0
      obtain ⟨c1, c2, c3⟩ := (hI.1.2.2.2.2.2 j hj).2 (Or.inl k0)
      obtain ⟨r1, r2, -⟩ := c3 b2
      by_cases cw : wh = 0 ∨ wh = 1
      · rw [if_neg (fun h => h cw)]; rw [if_pos cw] at hQ
        rcases cw with rfl | rfl
        · simp only [if_true, q94_0, q94_1, q94_2, q94_5, q94_8, q94_9, q94_10, q94_11, q94_14, q94_17, q94_18, q94_19, q94_20, q94_23, q94_24, q94_27, q94_28, q94_29, q94_32, q94_33, q94_36, q94_37, q94_38, q94_39, q94_40, q94_43, q94_46, q94_48, q94_49, q94_50, q94_53, q94_54, q94_57, q94_59, q94_60, q94_61, q94_62, q94_63, q94_65, q94_66, q94_69, q94_70, q94_73, q94_75, q94_76, q94_77, q94_78, q94_79, q94_81, q94_82, q94_83, q94_84, q94_87, q94_88, q94_e, sM_0 hM, sM_r8 hM, pm_rf_some, ar8 hM hj24, nc24 hj24, r1.1, m_in, in_ix (g := i) (show (gg Z.1 j).2.2.2.2.2.2.1.length < 2 ^ 30 by omega), pm_tl_some, pm_z1]
          have hq : sp_len (gg Z.1 j).2.2.2.2.2 ((0 : Int32).toNatClampNeg) = (gg Z.1 j).2.2.2.2.2.2.1.length := rfl
          rw [hq] at hQ
          cases hi : ix i (gg Z.1 j).2.2.2.2.2.2.1.length with
          | none =>
            rw [hi] at hQ
            simp only [Option.isSome_none, Bool.false_eq_true, not_false_eq_true, if_true]
            exact hQ S hI mF.rf
          | some k =>
            rw [hi] at hQ
            dsimp only at hQ
            obtain ⟨hk1, rfl⟩ := ix_some (by omega) hi
            have e6 : (40 : Int32) * nI j + nI k = nI (40 * j + k) := sp_at 40 j k
            have a1 := pm_ar_nI (sM_s10 hM) (show 40 * j + k < 960 by omega) (by decide)
            have q3 : frI (mB m j) S (pm_szl S (m + 10) (40 * j + k) v) := frI.zl (by unfold mB; omega)
            simp only [Option.isSome_some, not_true_eq_false, if_false, q94_0, q94_1, q94_2, q94_5, q94_8, q94_9, q94_10, q94_11, q94_14, q94_17, q94_18, q94_19, q94_20, q94_23, q94_24, q94_27, q94_28, q94_29, q94_32, q94_33, q94_36, q94_37, q94_38, q94_39, q94_40, q94_43, q94_46, q94_48, q94_49, q94_50, q94_53, q94_54, q94_57, q94_59, q94_60, q94_61, q94_62, q94_63, q94_65, q94_66, q94_69, q94_70, q94_73, q94_75, q94_76, q94_77, q94_78, q94_79, q94_81, q94_82, q94_83, q94_84, q94_87, q94_88, q94_e, if_true, sM_0 hM, sM_r10 hM, pm_rf_some, e6, a1, nI_clamp (show 40 * j + k < 2 ^ 31 by omega), ps_gi_nx, ps_gi_sz, ps_gi_sh, ps_gi_gi, ps_gi_gl, ps_gi_gr, ps_gi_zi, ps_gi_zl, ps_gi_zr, ps_gi_ar, ps_gi_al, ps_gl_nx, ps_gl_sz, ps_gl_sh, ps_gl_gi, ps_gl_gl, ps_gl_gr, ps_gl_zi, ps_gl_zl, ps_gl_zr, ps_gl_ar, ps_gl_al, ps_gr_nx, ps_gr_sz, ps_gr_sh, ps_gr_gi, ps_gr_gl, ps_gr_gr, ps_gr_zi, ps_gr_zl, ps_gr_zr, ps_gr_ar, ps_gr_al, ps_zi_nx, ps_zi_sz, ps_zi_sh, ps_zi_gi, ps_zi_gl, ps_zi_gr, ps_zi_zi, ps_zi_zl, ps_zi_zr, ps_zi_ar, ps_zi_al, ps_zl_nx, ps_zl_sz, ps_zl_sh, ps_zl_gi, ps_zl_gl, ps_zl_gr, ps_zl_zi, ps_zl_zl, ps_zl_zr, ps_zl_ar, ps_zl_al, ps_zr_nx, ps_zr_sz, ps_zr_sh, ps_zr_gi, ps_zr_gl, ps_zr_gr, ps_zr_zi, ps_zr_zl, ps_zr_zr, ps_zr_ar, ps_zr_al, pm_rf_some, pm_rf_none, pm_tl_some, pm_tl_none, true_or]
            obtain ⟨y1, y2⟩ := mI_val (C := sp_setN (gg Z.1 j).2.2.2.2.2 k v) hw hI hj k0 q3 ⟨c1, c2, fun _ => ⟨mR_setN r1 hk1, r2, fun z => z.elim⟩⟩
            exact hQ _ y1 y2
        · simp only [show ¬ (1 : Int32) = 0 by decide, if_false, q94_0, q94_1, q94_2, q94_5, q94_8, q94_9, q94_10, q94_11, q94_14, q94_17, q94_18, q94_19, q94_20, q94_23, q94_24, q94_27, q94_28, q94_29, q94_32, q94_33, q94_36, q94_37, q94_38, q94_39, q94_40, q94_43, q94_46, q94_48, q94_49, q94_50, q94_53, q94_54, q94_57, q94_59, q94_60, q94_61, q94_62, q94_63, q94_65, q94_66, q94_69, q94_70, q94_73, q94_75, q94_76, q94_77, q94_78, q94_79, q94_81, q94_82, q94_83, q94_84, q94_87, q94_88, q94_e, sM_0 hM, sM_r9 hM, pm_rf_some, ar9 hM hj24, nc24 hj24, r1.2.2.1, m_in, in_ix (g := i) (show (gg Z.1 j).2.2.2.2.2.2.2.1.length < 2 ^ 30 by omega), pm_tl_some, pm_z1]
          have hq : sp_len (gg Z.1 j).2.2.2.2.2 ((1 : Int32).toNatClampNeg) = (gg Z.1 j).2.2.2.2.2.2.2.1.length := rfl
          rw [hq] at hQ
          cases hi : ix i (gg Z.1 j).2.2.2.2.2.2.2.1.length with
          | none =>
            rw [hi] at hQ
            simp only [Option.isSome_none, Bool.false_eq_true, not_false_eq_true, if_true]
            exact hQ S hI mF.rf
          | some k =>
            rw [hi] at hQ
            dsimp only at hQ
            obtain ⟨hk1, rfl⟩ := ix_some (by omega) hi
            have e6 : (120 : Int32) * nI j + nI k = nI (120 * j + k) := sp_at 120 j k
            have a1 := pm_ar_nI (sM_s15 hM) (show 120 * j + k < 2880 by omega) (by decide)
            have q3 : frI (mB m j) S (pm_szl S (m + 15) (120 * j + k) v) := frI.zl (by unfold mB; omega)
            simp only [Option.isSome_some, not_true_eq_false, if_false, q94_0, q94_1, q94_2, q94_5, q94_8, q94_9, q94_10, q94_11, q94_14, q94_17, q94_18, q94_19, q94_20, q94_23, q94_24, q94_27, q94_28, q94_29, q94_32, q94_33, q94_36, q94_37, q94_38, q94_39, q94_40, q94_43, q94_46, q94_48, q94_49, q94_50, q94_53, q94_54, q94_57, q94_59, q94_60, q94_61, q94_62, q94_63, q94_65, q94_66, q94_69, q94_70, q94_73, q94_75, q94_76, q94_77, q94_78, q94_79, q94_81, q94_82, q94_83, q94_84, q94_87, q94_88, q94_e, show ¬ (1 : Int32) = 0 by decide, sM_0 hM, sM_r15 hM, pm_rf_some, e6, a1, nI_clamp (show 120 * j + k < 2 ^ 31 by omega), ps_gi_nx, ps_gi_sz, ps_gi_sh, ps_gi_gi, ps_gi_gl, ps_gi_gr, ps_gi_zi, ps_gi_zl, ps_gi_zr, ps_gi_ar, ps_gi_al, ps_gl_nx, ps_gl_sz, ps_gl_sh, ps_gl_gi, ps_gl_gl, ps_gl_gr, ps_gl_zi, ps_gl_zl, ps_gl_zr, ps_gl_ar, ps_gl_al, ps_gr_nx, ps_gr_sz, ps_gr_sh, ps_gr_gi, ps_gr_gl, ps_gr_gr, ps_gr_zi, ps_gr_zl, ps_gr_zr, ps_gr_ar, ps_gr_al, ps_zi_nx, ps_zi_sz, ps_zi_sh, ps_zi_gi, ps_zi_gl, ps_zi_gr, ps_zi_zi, ps_zi_zl, ps_zi_zr, ps_zi_ar, ps_zi_al, ps_zl_nx, ps_zl_sz, ps_zl_sh, ps_zl_gi, ps_zl_gl, ps_zl_gr, ps_zl_zi, ps_zl_zl, ps_zl_zr, ps_zl_ar, ps_zl_al, ps_zr_nx, ps_zr_sz, ps_zr_sh, ps_zr_gi, ps_zr_gl, ps_zr_gr, ps_zr_zi, ps_zr_zl, ps_zr_zr, ps_zr_ar, ps_zr_al, pm_rf_some, pm_rf_none, pm_tl_some, pm_tl_none, true_or]
            obtain ⟨y1, y2⟩ := mI_val (C := sp_setA (gg Z.1 j).2.2.2.2.2 k v) hw hI hj k0 q3 ⟨c1, c2, fun _ => ⟨mR_setA r1 hk1, r2, fun z => z.elim⟩⟩
            exact hQ _ y1 y2
      · rw [if_pos cw]; rw [if_neg cw] at hQ; exact hQ S hI mF.rf
    · rw [if_pos k0]; rw [if_neg k0] at hQ; exact hQ S hI mF.rf
end
