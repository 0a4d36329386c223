/-! ===== THE REFERENCE: filter, its loops ===== -/
/-- how far the filter is: k nodes are asked -/
def fJ (S0 S : pm_T) (m g : Nat) (X : sp_F) (k : Nat) : Prop := mW S0 S m g X.1 ∧ (X.1.1 = 0 → mst S m X.2.1 ∧ ∀ i, i < k → pm_zi S (m + 26) i = sp_eC (X.2.2 i))
section
variable {S0 S S' : pm_T} {m a g n k d j e t c i wh md b : Nat} {C Ca : sp_C} {ts : List sp_Te} {tb tc tq : Option Nat} {st : Nat × Nat} {Q : Option Value → pm_T → Prop}
theorem fN_ne {X : sp_F} (h : X.1.1 ≠ 0) : fi_N Ca ts tb md X i = X := by unfold fi_N; rw [if_neg h]
theorem fA_ne {X : sp_F} (h : X.1.1 ≠ 0) : fi_A Ca ts tc md X i = X := by unfold fi_A; rw [if_neg h]
set_option maxHeartbeats 2000000 in
theorem m_fil_1 {l4 l5 : Value} (hX : fX S0 m g a Ca ts tb tc md) (hW : mW S0 S m g sp_0) (hst : mst S m (0, 0)) (hQ : ∀ S', fJ S0 S' m g (fi_n Ca ts tb md Ca.2.1.length) Ca.2.1.length → pm_V (d + 6) 110 78 [.ref m, .int (nI g), .int (nI a), .int (nI Ca.2.1.length), l4, l5] [] S' Q) : pm_V (d + 6) 110 12 [.ref m, .int (nI g), .int (nI a), .int (nI 0), l4, l5] [] S Q := by
  obtain ⟨x1, x2, x3, x4, x5, x6, x7, x8, x9⟩ := id hX
  have ha := x1.1
  have l1 := x1.2.1.2.1
  refine lp (n := Ca.2.1.length) (Inv := fun k S => fJ S0 S m g (fi_n Ca ts tb md k) k) (head := fun k S => pm_V (d + 6) 110 12 [.ref m, .int (nI g), .int (nI a), .int (nI k), l4, l5] [] S Q) ?_ ?_ S ⟨hW, fun _ => ⟨hst, fun i hi => by omega⟩⟩
  · rintro k S hk ⟨hW, hJ⟩ hN
    have hM := hW.1
    have hR := mW_R hW x1.2.1 x8
    have hk4 : k < 40 := by omega
    have e1 : nI k < nI Ca.2.1.length := nI_lt hk (by omega)
    have ho := fi_n_ok (Ca := Ca) (ts := ts) (tb := tb) (md := md) k
    have fS : frI (mS m) S (pm_szi S (m + 26) k (-1)) := frI.zi (by unfold mS; omega)
    have hW1 := mW_s hW fS
    have hM1 := hW1.1
    have b3 := mW_by (i := 3) (by decide) hW1 x2
    have b3' : pm_zi S (m + 3) g = sp_eC tb := mW_by (i := 3) (by decide) hW x2
    rw [q110_12]
    simp only [q110_0, q110_1, q110_2, q110_5, q110_6, q110_7, q110_10, q110_11, q110_13, q110_14, q110_17, q110_18, q110_19, q110_22, q110_23, q110_26, q110_27, q110_28, q110_29, q110_30, q110_31, q110_32, q110_33, q110_34, q110_35, q110_38, q110_39, q110_40, q110_43, q110_46, q110_47, q110_50, q110_51, q110_52, q110_55, q110_56, q110_57, q110_58, q110_59, q110_60, q110_61, q110_62, q110_63, q110_66, q110_67, q110_69, q110_72, q110_75, q110_79, q110_81, q110_82, q110_85, q110_86, q110_87, q110_90, q110_91, q110_94, q110_95, q110_96, q110_97, q110_100, q110_101, q110_103, q110_104, q110_107, q110_108, q110_109, q110_110, q110_113, q110_114, q110_116, q110_118, q110_121, q110_123, q110_126, q110_127, q110_128, q110_129, q110_130, q110_131, q110_132, q110_135, q110_136, q110_137, q110_140, q110_143, q110_144, q110_145, q110_147, q110_149, q110_150, q110_151, q110_152, q110_155, q110_156, q110_158, q110_161, q110_164, q110_167, q110_e, sM_0 hM, sM_r8 hM, sM_r28 hM, sM_r3 hM, pm_rf_some, ar8 hM ha, nc24 ha, hR.1, e1, if_true, ar26 hM hk4, nI_clamp (show k < 2 ^ 31 by omega), ps_gi_nx, ps_gi_sz, ps_gi_sh, ps_gi_gi, ps_gi_gl, ps_gi_gr, ps_gi_zi, ps_gi_zl, ps_gi_zr, ps_gi_ar, ps_gi_al, ps_gl_nx, ps_gl_sz, ps_gl_sh, ps_gl_gi, ps_gl_gl, ps_gl_gr, ps_gl_zi, ps_gl_zl, ps_gl_zr, ps_gl_ar, ps_gl_al, ps_gr_nx, ps_gr_sz, ps_gr_sh, ps_gr_gi, ps_gr_gl, ps_gr_gr, ps_gr_zi, ps_gr_zl, ps_gr_zr, ps_gr_ar, ps_gr_al, ps_zi_nx, ps_zi_sz, ps_zi_sh, ps_zi_gi, ps_zi_gl, ps_zi_gr, ps_zi_zi, ps_zi_zl, ps_zi_zr, ps_zi_ar, ps_zi_al, ps_zl_nx, ps_zl_sz, ps_zl_sh, ps_zl_gi, ps_zl_gl, ps_zl_gr, ps_zl_zi, ps_zl_zl, ps_zl_zr, ps_zl_ar, ps_zl_al, ps_zr_nx, ps_zr_sz, ps_zr_sh, ps_zr_gi, ps_zr_gl, ps_zr_gr, ps_zr_zi, ps_zr_zl, ps_zr_zr, ps_zr_ar, ps_zr_al, pm_rf_some, pm_rf_none, pm_tl_some, pm_tl_none, ar3 hM x9, nc24 x9, show ¬ (m + 3 = m + 26) by omega, false_and, if_false, b3', nI_1]
    by_cases h0 : (fi_n Ca ts tb md k).1.1 = 0
    · obtain ⟨hs, hk26⟩ := hJ h0
      obtain ⟨o1, o2, o3, o4, o5, o6⟩ := ho
      obtain ⟨p1, p2, p3⟩ := o5 h0
      have hb := fi_ask_b (Ca := Ca) (ts := ts) (t := tb) (wh := 0) (i := k) p1 p2
      rw [show (0 : Int32) = nI 0 from rfl]
      refine m_passes (wh := 0) x1 x9 x8 x7 x4 x5 hW1 h0 hs p1 p2 (Or.inl rfl) hk (fun q => ?_) fun S2 w1 w2 w3 => ?_
      · have := hb.2.2 q
        have := (hb.1.2.2.2 (by omega)).2
        omega
      have s : fi_n Ca ts tb md (k + 1) = fi_N Ca ts tb md (fi_n Ca ts tb md k) k := fi_n_s
      generalize hy : fi_ask Ca ts tb 0 k (fi_n Ca ts tb md k).2.1 = y at *
      have hM2 := w1.1
      simp only [pm_tl_some, q110_0, q110_1, q110_2, q110_5, q110_6, q110_7, q110_10, q110_11, q110_13, q110_14, q110_17, q110_18, q110_19, q110_22, q110_23, q110_26, q110_27, q110_28, q110_29, q110_30, q110_31, q110_32, q110_33, q110_34, q110_35, q110_38, q110_39, q110_40, q110_43, q110_46, q110_47, q110_50, q110_51, q110_52, q110_55, q110_56, q110_57, q110_58, q110_59, q110_60, q110_61, q110_62, q110_63, q110_66, q110_67, q110_69, q110_72, q110_75, q110_79, q110_81, q110_82, q110_85, q110_86, q110_87, q110_90, q110_91, q110_94, q110_95, q110_96, q110_97, q110_100, q110_101, q110_103, q110_104, q110_107, q110_108, q110_109, q110_110, q110_113, q110_114, q110_116, q110_118, q110_121, q110_123, q110_126, q110_127, q110_128, q110_129, q110_130, q110_131, q110_132, q110_135, q110_136, q110_137, q110_140, q110_143, q110_144, q110_145, q110_147, q110_149, q110_150, q110_151, q110_152, q110_155, q110_156, q110_158, q110_161, q110_164, q110_167, q110_e]
      by_cases y1 : y.1 = 1
      · rw [if_pos y1] at w1
        have hR2 := mW_R w1 x1.2.1 x8
        have n8 := w1.2.1.2.2.1.1
        have fS2 : frI (mS m) S2 (pm_szi S2 (m + 26) k (nI (fi_n Ca ts tb md k).1.2.1.length)) := frI.zi (by unfold mS; omega)
        have hW3 := mW_s w1 fS2
        have hR3 := mW_R hW3 x1.2.1 x8
        simp only [y1, if_true, show ¬ (1 : Int32) = 0 by decide, if_false, q110_0, q110_1, q110_2, q110_5, q110_6, q110_7, q110_10, q110_11, q110_13, q110_14, q110_17, q110_18, q110_19, q110_22, q110_23, q110_26, q110_27, q110_28, q110_29, q110_30, q110_31, q110_32, q110_33, q110_34, q110_35, q110_38, q110_39, q110_40, q110_43, q110_46, q110_47, q110_50, q110_51, q110_52, q110_55, q110_56, q110_57, q110_58, q110_59, q110_60, q110_61, q110_62, q110_63, q110_66, q110_67, q110_69, q110_72, q110_75, q110_79, q110_81, q110_82, q110_85, q110_86, q110_87, q110_90, q110_91, q110_94, q110_95, q110_96, q110_97, q110_100, q110_101, q110_103, q110_104, q110_107, q110_108, q110_109, q110_110, q110_113, q110_114, q110_116, q110_118, q110_121, q110_123, q110_126, q110_127, q110_128, q110_129, q110_130, q110_131, q110_132, q110_135, q110_136, q110_137, q110_140, q110_143, q110_144, q110_145, q110_147, q110_149, q110_150, q110_151, q110_152, q110_155, q110_156, q110_158, q110_161, q110_164, q110_167, q110_e, sM_0 hM2, sM_r8 hM2, sM_r28 hM2, pm_rf_some, ar8 hM2 x9, nc24 x9, n8, ar26 hM2 hk4, nI_clamp (show k < 2 ^ 31 by omega), ps_gi_nx, ps_gi_sz, ps_gi_sh, ps_gi_gi, ps_gi_gl, ps_gi_gr, ps_gi_zi, ps_gi_zl, ps_gi_zr, ps_gi_ar, ps_gi_al, ps_gl_nx, ps_gl_sz, ps_gl_sh, ps_gl_gi, ps_gl_gl, ps_gl_gr, ps_gl_zi, ps_gl_zl, ps_gl_zr, ps_gl_ar, ps_gl_al, ps_gr_nx, ps_gr_sz, ps_gr_sh, ps_gr_gi, ps_gr_gl, ps_gr_gr, ps_gr_zi, ps_gr_zl, ps_gr_zr, ps_gr_ar, ps_gr_al, ps_zi_nx, ps_zi_sz, ps_zi_sh, ps_zi_gi, ps_zi_gl, ps_zi_gr, ps_zi_zi, ps_zi_zl, ps_zi_zr, ps_zi_ar, ps_zi_al, ps_zl_nx, ps_zl_sz, ps_zl_sh, ps_zl_gi, ps_zl_gl, ps_zl_gr, ps_zl_zi, ps_zl_zl, ps_zl_zr, ps_zl_ar, ps_zl_al, ps_zr_nx, ps_zr_sz, ps_zr_sh, ps_zr_gi, ps_zr_gl, ps_zr_gr, ps_zr_zi, ps_zr_zl, ps_zr_zr, ps_zr_ar, ps_zr_al, pm_rf_some, pm_rf_none, pm_tl_some, pm_tl_none, mr_node hW3.1 hR3 ha hk, pm_tl_some, m_addNodeW hW3 x9, pm_tl_none, nI_1]
        have e2 : sp_addN (fi_n Ca ts tb md k).1 ((sp_nd Ca k).1, some k, none) = ((fi_n Ca ts tb md k).1.1, (fi_n Ca ts tb md k).1.2.1 ++ [((sp_nd Ca k).1, some k, none)], (fi_n Ca ts tb md k).1.2.2) := by
          unfold sp_addN
          rw [if_neg (by omega), if_pos h0]
        have eX : fi_n Ca ts tb md (k + 1) = (((fi_n Ca ts tb md k).1.1, (fi_n Ca ts tb md k).1.2.1 ++ [((sp_nd Ca k).1, some k, none)], (fi_n Ca ts tb md k).1.2.2), y.2, fi_up (fi_n Ca ts tb md k).2.2 k (some (fi_n Ca ts tb md k).1.2.1.length)) := by
          rw [s]; unfold fi_N; rw [if_pos h0, hy, if_pos y1]
        have w4 := mW_node (v := (sp_nd Ca k).1) (x := some k) (y := none) hW3
        have fN := (mQ_node (v := (sp_nd Ca k).1) (x := some k) (y := none) hW3.2.1).2
        rw [e2] at w4
        refine hN _ ⟨by rw [eX]; exact w4, fun _ => ⟨?_, fun j hj => ?_⟩⟩
        · rw [eX]
          exact ⟨((fN.2.2.2.2.2 m 29 (by unfold mB; omega)).1).trans w2.1, ((fN.2.2.2.2.2 m 30 (by unfold mB; omega)).1).trans w2.2⟩
        · rw [eX]
          refine ((fN.2.2.2.2.2 (m + 26) j (by unfold mB; omega)).2.2.1).trans ?_
          rw [ps_zi_zi]
          show _ = sp_eC (if j = k then _ else _)
          by_cases e : j = k
          · rw [if_pos ⟨rfl, e⟩, if_pos e]; rfl
          · rw [if_neg (fun q => e q.2), if_neg e, w3 j, ps_zi_zi, if_neg (fun q => e q.2)]
            exact hk26 j (by omega)
      · rw [if_neg y1] at w1
        simp only [y1, if_false, if_true, nI_1]
        have kept : ∀ j, j < k + 1 → pm_zi S2 (m + 26) j = sp_eC (fi_up (fi_n Ca ts tb md k).2.2 k none j) := fun j hj => by
          rw [w3 j, ps_zi_zi]
          show _ = sp_eC (if j = k then _ else _)
          by_cases e : j = k
          · rw [if_pos ⟨rfl, e⟩, if_pos e]; rfl
          · rw [if_neg (fun q => e q.2), if_neg e]
            exact hk26 j (by omega)
        by_cases y0 : y.1 = 0
        · rw [if_pos y0] at w1
          have eX : fi_n Ca ts tb md (k + 1) = ((fi_n Ca ts tb md k).1, y.2, fi_up (fi_n Ca ts tb md k).2.2 k none) := by
            rw [s]; unfold fi_N; rw [if_pos h0, hy, if_neg y1, if_pos y0]
          exact hN _ (by rw [eX]; exact ⟨w1, fun _ => ⟨w2, kept⟩⟩)
        · rw [if_neg y0] at w1
          have eX : fi_n Ca ts tb md (k + 1) = (fi_bad md (fi_n Ca ts tb md k).1 0 k (y.1 - 10), y.2, fi_up (fi_n Ca ts tb md k).2.2 k none) := by
            rw [s]; unfold fi_N; rw [if_pos h0, hy, if_neg y1, if_neg y0]
          exact hN _ (by rw [eX]; exact ⟨w1, fun _ => ⟨w2, kept⟩⟩)
    · simp only [m_passes_b hW1 x9 h0, pm_tl_some, q110_0, q110_1, q110_2, q110_5, q110_6, q110_7, q110_10, q110_11, q110_13, q110_14, q110_17, q110_18, q110_19, q110_22, q110_23, q110_26, q110_27, q110_28, q110_29, q110_30, q110_31, q110_32, q110_33, q110_34, q110_35, q110_38, q110_39, q110_40, q110_43, q110_46, q110_47, q110_50, q110_51, q110_52, q110_55, q110_56, q110_57, q110_58, q110_59, q110_60, q110_61, q110_62, q110_63, q110_66, q110_67, q110_69, q110_72, q110_75, q110_79, q110_81, q110_82, q110_85, q110_86, q110_87, q110_90, q110_91, q110_94, q110_95, q110_96, q110_97, q110_100, q110_101, q110_103, q110_104, q110_107, q110_108, q110_109, q110_110, q110_113, q110_114, q110_116, q110_118, q110_121, q110_123, q110_126, q110_127, q110_128, q110_129, q110_130, q110_131, q110_132, q110_135, q110_136, q110_137, q110_140, q110_143, q110_144, q110_145, q110_147, q110_149, q110_150, q110_151, q110_152, q110_155, q110_156, q110_158, q110_161, q110_164, q110_167, q110_e, if_true, nI_1]
      refine hN _ ⟨?_, fun q => ?_⟩
      · rw [fi_n_s, fN_ne h0]; exact hW1
      · rw [fi_n_s, fN_ne h0] at q; exact absurd q h0
  · rintro S hJ
    have hM := hJ.1.1
    have hR := mW_R hJ.1 x1.2.1 x8
    have e1 : ¬ nI Ca.2.1.length < nI Ca.2.1.length := nI_nlt (Nat.le_refl _) (by omega)
    rw [q110_12]
    simp only [q110_0, q110_1, q110_2, q110_5, q110_6, q110_7, q110_10, q110_11, q110_13, q110_14, q110_17, q110_18, q110_19, q110_22, q110_23, q110_26, q110_27, q110_28, q110_29, q110_30, q110_31, q110_32, q110_33, q110_34, q110_35, q110_38, q110_39, q110_40, q110_43, q110_46, q110_47, q110_50, q110_51, q110_52, q110_55, q110_56, q110_57, q110_58, q110_59, q110_60, q110_61, q110_62, q110_63, q110_66, q110_67, q110_69, q110_72, q110_75, q110_79, q110_81, q110_82, q110_85, q110_86, q110_87, q110_90, q110_91, q110_94, q110_95, q110_96, q110_97, q110_100, q110_101, q110_103, q110_104, q110_107, q110_108, q110_109, q110_110, q110_113, q110_114, q110_116, q110_118, q110_121, q110_123, q110_126, q110_127, q110_128, q110_129, q110_130, q110_131, q110_132, q110_135, q110_136, q110_137, q110_140, q110_143, q110_144, q110_145, q110_147, q110_149, q110_150, q110_151, q110_152, q110_155, q110_156, q110_158, q110_161, q110_164, q110_167, q110_e, sM_0 hM, sM_r8 hM, pm_rf_some, ar8 hM ha, nc24 ha, hR.1, e1, if_false]
    exact hQ S hJ
set_option maxHeartbeats 2000000 in
theorem m_filter (hX : fX S0 m g a Ca ts tb tc md) (hW : mW S0 S m g sp_0) (hQ : ∀ S', mW S0 S' m g (sp_fil Ca ts tb tc md) → Q none S') : pm_N (d + 6) 110 [.ref m, .int (nI g), .int (nI a)] S Q := by
  obtain ⟨x1, x2, x3, x4, x5, x6, x7, x8, x9⟩ := id hX
  have ha := x1.1
  have l1 := x1.2.1.2.1
  have l2 := x1.2.1.2.2.2.1
  have hM := hW.1
  have f0 : frI (mS m) S (pm_sgi (pm_sgi S m 29 0) m 30 0) := (frI.gi (by unfold mS; omega)).tr (frI.gi (by unfold mS; omega))
  simp only [q110_0, q110_1, q110_2, q110_5, q110_6, q110_7, q110_10, q110_11, q110_13, q110_14, q110_17, q110_18, q110_19, q110_22, q110_23, q110_26, q110_27, q110_28, q110_29, q110_30, q110_31, q110_32, q110_33, q110_34, q110_35, q110_38, q110_39, q110_40, q110_43, q110_46, q110_47, q110_50, q110_51, q110_52, q110_55, q110_56, q110_57, q110_58, q110_59, q110_60, q110_61, q110_62, q110_63, q110_66, q110_67, q110_69, q110_72, q110_75, q110_78, q110_79, q110_80, q110_81, q110_82, q110_85, q110_86, q110_87, q110_90, q110_91, q110_94, q110_95, q110_96, q110_97, q110_100, q110_101, q110_103, q110_104, q110_107, q110_108, q110_109, q110_110, q110_113, q110_114, q110_116, q110_118, q110_121, q110_123, q110_126, q110_127, q110_128, q110_129, q110_130, q110_131, q110_132, q110_135, q110_136, q110_137, q110_140, q110_143, q110_144, q110_145, q110_147, q110_149, q110_150, q110_151, q110_152, q110_155, q110_156, q110_158, q110_161, q110_164, q110_167, q110_e, sM_0 hM, ps_gi_nx, ps_gi_sz, ps_gi_sh, ps_gi_gi, ps_gi_gl, ps_gi_gr, ps_gi_zi, ps_gi_zl, ps_gi_zr, ps_gi_ar, ps_gi_al, ps_gl_nx, ps_gl_sz, ps_gl_sh, ps_gl_gi, ps_gl_gl, ps_gl_gr, ps_gl_zi, ps_gl_zl, ps_gl_zr, ps_gl_ar, ps_gl_al, ps_gr_nx, ps_gr_sz, ps_gr_sh, ps_gr_gi, ps_gr_gl, ps_gr_gr, ps_gr_zi, ps_gr_zl, ps_gr_zr, ps_gr_ar, ps_gr_al, ps_zi_nx, ps_zi_sz, ps_zi_sh, ps_zi_gi, ps_zi_gl, ps_zi_gr, ps_zi_zi, ps_zi_zl, ps_zi_zr, ps_zi_ar, ps_zi_al, ps_zl_nx, ps_zl_sz, ps_zl_sh, ps_zl_gi, ps_zl_gl, ps_zl_gr, ps_zl_zi, ps_zl_zl, ps_zl_zr, ps_zl_ar, ps_zl_al, ps_zr_nx, ps_zr_sz, ps_zr_sh, ps_zr_gi, ps_zr_gl, ps_zr_gr, ps_zr_zi, ps_zr_zl, ps_zr_zr, ps_zr_ar, ps_zr_al, pm_rf_some, pm_rf_none, pm_tl_some, pm_tl_none]
  refine m_fil_1 hX (mW_s hW f0) ⟨by simp [ps_gi_nx, ps_gi_sz, ps_gi_sh, ps_gi_gi, ps_gi_gl, ps_gi_gr, ps_gi_zi, ps_gi_zl, ps_gi_zr, ps_gi_ar, ps_gi_al, ps_gl_nx, ps_gl_sz, ps_gl_sh, ps_gl_gi, ps_gl_gl, ps_gl_gr, ps_gl_zi, ps_gl_zl, ps_gl_zr, ps_gl_ar, ps_gl_al, ps_gr_nx, ps_gr_sz, ps_gr_sh, ps_gr_gi, ps_gr_gl, ps_gr_gr, ps_gr_zi, ps_gr_zl, ps_gr_zr, ps_gr_ar, ps_gr_al, ps_zi_nx, ps_zi_sz, ps_zi_sh, ps_zi_gi, ps_zi_gl, ps_zi_gr, ps_zi_zi, ps_zi_zl, ps_zi_zr, ps_zi_ar, ps_zi_al, ps_zl_nx, ps_zl_sz, ps_zl_sh, ps_zl_gi, ps_zl_gl, ps_zl_gr, ps_zl_zi, ps_zl_zl, ps_zl_zr, ps_zl_ar, ps_zl_al, ps_zr_nx, ps_zr_sz, ps_zr_sh, ps_zr_gi, ps_zr_gl, ps_zr_gr, ps_zr_zi, ps_zr_zl, ps_zr_zr, ps_zr_ar, ps_zr_al, pm_rf_some, pm_rf_none, pm_tl_some, pm_tl_none]; rfl, ps_gi_self⟩ fun S1 hJ1 => ?_
  simp only [q110_0, q110_1, q110_2, q110_5, q110_6, q110_7, q110_10, q110_11, q110_12, q110_13, q110_14, q110_17, q110_18, q110_19, q110_22, q110_23, q110_26, q110_27, q110_28, q110_29, q110_30, q110_31, q110_32, q110_33, q110_34, q110_35, q110_38, q110_39, q110_40, q110_43, q110_46, q110_47, q110_50, q110_51, q110_52, q110_55, q110_56, q110_57, q110_58, q110_59, q110_60, q110_61, q110_62, q110_63, q110_66, q110_67, q110_69, q110_72, q110_75, q110_78, q110_79, q110_81, q110_82, q110_85, q110_86, q110_87, q110_90, q110_91, q110_94, q110_95, q110_96, q110_97, q110_100, q110_101, q110_103, q110_104, q110_107, q110_108, q110_109, q110_110, q110_113, q110_114, q110_116, q110_118, q110_121, q110_123, q110_126, q110_127, q110_128, q110_129, q110_130, q110_131, q110_132, q110_135, q110_136, q110_137, q110_140, q110_143, q110_144, q110_145, q110_147, q110_149, q110_150, q110_151, q110_152, q110_155, q110_156, q110_158, q110_161, q110_164, q110_167, q110_e]
  have key : ∀ l4 l5, pm_V (d + 6) 110 80 [.ref m, .int (nI g), .int (nI a), .int (nI 0), l4, l5] [] S1 Q := by
    refine lp (n := Ca.2.2.1.length) (Inv := fun k S => fJ S0 S m g (fi_a Ca ts tb tc md k) Ca.2.1.length) (head := fun k S => ∀ l4 l5, pm_V (d + 6) 110 80 [.ref m, .int (nI g), .int (nI a), .int (nI k), l4, l5] [] S Q) ?_ ?_ S1 hJ1
    · rintro k S hk ⟨hW, hJ⟩ hN l4 l5
      have hM := hW.1
      have hR := mW_R hW x1.2.1 x8
      have e1 : nI k < nI Ca.2.2.1.length := nI_lt hk (by omega)
      have o := x1.2.2.1 k hk
      have ho := fi_a_ok (Ca := Ca) (ts := ts) (tb := tb) (tc := tc) (md := md) k
      have b4 := mW_by (i := 4) (by decide) hW x3
      have s : fi_a Ca ts tb tc md (k + 1) = fi_A Ca ts tc md (fi_a Ca ts tb tc md k) k := fi_a_s
      rw [q110_80]
      simp only [q110_0, q110_1, q110_2, q110_5, q110_6, q110_7, q110_10, q110_11, q110_13, q110_14, q110_17, q110_18, q110_19, q110_22, q110_23, q110_26, q110_27, q110_28, q110_29, q110_30, q110_31, q110_32, q110_33, q110_34, q110_35, q110_38, q110_39, q110_40, q110_43, q110_46, q110_47, q110_50, q110_51, q110_52, q110_55, q110_56, q110_57, q110_58, q110_59, q110_60, q110_61, q110_62, q110_63, q110_66, q110_67, q110_69, q110_72, q110_75, q110_78, q110_79, q110_81, q110_82, q110_85, q110_86, q110_87, q110_90, q110_91, q110_94, q110_95, q110_96, q110_97, q110_100, q110_101, q110_103, q110_104, q110_107, q110_108, q110_109, q110_110, q110_113, q110_114, q110_116, q110_118, q110_121, q110_123, q110_126, q110_127, q110_128, q110_129, q110_130, q110_131, q110_132, q110_135, q110_136, q110_137, q110_140, q110_143, q110_144, q110_145, q110_147, q110_149, q110_150, q110_151, q110_152, q110_155, q110_156, q110_158, q110_161, q110_164, q110_167, q110_e, sM_0 hM, sM_r9 hM, sM_r28 hM, sM_r4 hM, pm_rf_some, ar9 hM ha, nc24 ha, hR.2.2.1, e1, if_true, mr_from hM hR ha hk, mr_to hM hR ha hk, pm_tl_some, ar26 hM (show (sp_ar Ca k).1 < 40 by omega), ar26 hM (show (sp_ar Ca k).2.1 < 40 by omega), nI_clamp (show (sp_ar Ca k).1 < 2 ^ 31 by omega), nI_clamp (show (sp_ar Ca k).2.1 < 2 ^ 31 by omega), ar4 hM x9, nc24 x9, b4, nI_1]
      by_cases h0 : (fi_a Ca ts tb tc md k).1.1 = 0
      · obtain ⟨hs, hk26⟩ := hJ h0
        obtain ⟨o1, o2, o3, o4, o5, o6⟩ := ho
        obtain ⟨p1, p2, p3⟩ := o5 h0
        simp only [hk26 _ o.1, hk26 _ o.2]
        have stay : (fi_a Ca ts tb tc md (k + 1) = fi_a Ca ts tb tc md k) → ∀ l4 l5, pm_V (d + 6) 110 80 [.ref m, .int (nI g), .int (nI a), .int (nI (k + 1)), l4, l5] [] S Q := fun q => hN S (by rw [q]; exact ⟨hW, hJ⟩)
        cases hx : (fi_a Ca ts tb tc md k).2.2 (sp_ar Ca k).1 with
        | none =>
          simp only [show sp_eC none < 0 by decide, if_true]
          exact stay (by rw [s]; unfold fi_A; rw [if_pos h0, hx]) _ _
        | some xx =>
          have bx := o6 _ _ hx
          have ex : ¬ sp_eC (some xx) < 0 := k2_nlt (nI_pos' (by omega))
          simp only [ex, if_false]
          cases hyy : (fi_a Ca ts tb tc md k).2.2 (sp_ar Ca k).2.1 with
          | none =>
            simp only [show sp_eC none < 0 by decide, if_true]
            exact stay (by rw [s]; unfold fi_A; rw [if_pos h0, hx, hyy]) _ _
          | some yy =>
            have by' := o6 _ _ hyy
            have ey : ¬ sp_eC (some yy) < 0 := k2_nlt (nI_pos' (by omega))
            simp only [ey, if_false]
            have hb := fi_ask_b (Ca := Ca) (ts := ts) (t := tc) (wh := 1) (i := k) p1 p2
            rw [show (1 : Int32) = nI 1 from rfl]
            refine m_passes (wh := 1) x1 x9 x8 x7 x4 x6 hW h0 hs p1 p2 (Or.inr rfl) hk (fun q => ?_) fun S2 w1 w2 w3 => ?_
            · have := hb.2.2 q
              have := (hb.1.2.2.2 (by omega)).2
              omega
            have eA : fi_A Ca ts tc md (fi_a Ca ts tb tc md k) k = (if (fi_ask Ca ts tc 1 k (fi_a Ca ts tb tc md k).2.1).1 = 1 then (((fi_a Ca ts tb tc md k).1.1, (fi_a Ca ts tb tc md k).1.2.1, (fi_a Ca ts tb tc md k).1.2.2.1 ++ [(xx, yy, (sp_ar Ca k).2.2.1, some k, none)], (fi_a Ca ts tb tc md k).1.2.2.2), (fi_ask Ca ts tc 1 k (fi_a Ca ts tb tc md k).2.1).2, (fi_a Ca ts tb tc md k).2.2) else if (fi_ask Ca ts tc 1 k (fi_a Ca ts tb tc md k).2.1).1 = 0 then ((fi_a Ca ts tb tc md k).1, (fi_ask Ca ts tc 1 k (fi_a Ca ts tb tc md k).2.1).2, (fi_a Ca ts tb tc md k).2.2) else (fi_bad md (fi_a Ca ts tb tc md k).1 1 k ((fi_ask Ca ts tc 1 k (fi_a Ca ts tb tc md k).2.1).1 - 10), (fi_ask Ca ts tc 1 k (fi_a Ca ts tb tc md k).2.1).2, (fi_a Ca ts tb tc md k).2.2)) := by
              unfold fi_A; rw [if_pos h0, hx, hyy]
            rw [eA] at s
            generalize hy : fi_ask Ca ts tc 1 k (fi_a Ca ts tb tc md k).2.1 = y at *
            have hM2 := w1.1
            simp only [pm_tl_some, q110_0, q110_1, q110_2, q110_5, q110_6, q110_7, q110_10, q110_11, q110_13, q110_14, q110_17, q110_18, q110_19, q110_22, q110_23, q110_26, q110_27, q110_28, q110_29, q110_30, q110_31, q110_32, q110_33, q110_34, q110_35, q110_38, q110_39, q110_40, q110_43, q110_46, q110_47, q110_50, q110_51, q110_52, q110_55, q110_56, q110_57, q110_58, q110_59, q110_60, q110_61, q110_62, q110_63, q110_66, q110_67, q110_69, q110_72, q110_75, q110_78, q110_79, q110_81, q110_82, q110_85, q110_86, q110_87, q110_90, q110_91, q110_94, q110_95, q110_96, q110_97, q110_100, q110_101, q110_103, q110_104, q110_107, q110_108, q110_109, q110_110, q110_113, q110_114, q110_116, q110_118, q110_121, q110_123, q110_126, q110_127, q110_128, q110_129, q110_130, q110_131, q110_132, q110_135, q110_136, q110_137, q110_140, q110_143, q110_144, q110_145, q110_147, q110_149, q110_150, q110_151, q110_152, q110_155, q110_156, q110_158, q110_161, q110_164, q110_167, q110_e]
            by_cases y1 : y.1 = 1
            · rw [if_pos y1] at w1 s
              have hR2 := mW_R w1 x1.2.1 x8
              simp only [y1, if_true, show ¬ (1 : Int32) = 0 by decide, if_false, q110_0, q110_1, q110_2, q110_5, q110_6, q110_7, q110_10, q110_11, q110_13, q110_14, q110_17, q110_18, q110_19, q110_22, q110_23, q110_26, q110_27, q110_28, q110_29, q110_30, q110_31, q110_32, q110_33, q110_34, q110_35, q110_38, q110_39, q110_40, q110_43, q110_46, q110_47, q110_50, q110_51, q110_52, q110_55, q110_56, q110_57, q110_58, q110_59, q110_60, q110_61, q110_62, q110_63, q110_66, q110_67, q110_69, q110_72, q110_75, q110_78, q110_79, q110_81, q110_82, q110_85, q110_86, q110_87, q110_90, q110_91, q110_94, q110_95, q110_96, q110_97, q110_100, q110_101, q110_103, q110_104, q110_107, q110_108, q110_109, q110_110, q110_113, q110_114, q110_116, q110_118, q110_121, q110_123, q110_126, q110_127, q110_128, q110_129, q110_130, q110_131, q110_132, q110_135, q110_136, q110_137, q110_140, q110_143, q110_144, q110_145, q110_147, q110_149, q110_150, q110_151, q110_152, q110_155, q110_156, q110_158, q110_161, q110_164, q110_167, q110_e, sM_0 hM2, mr_arc hM2 hR2 ha hk, pm_tl_some, m_addArcW w1 x9, pm_tl_none, nI_1]
              have e2 : sp_addA (fi_a Ca ts tb tc md k).1 (xx, yy, (sp_ar Ca k).2.2.1, some k, none) = ((fi_a Ca ts tb tc md k).1.1, (fi_a Ca ts tb tc md k).1.2.1, (fi_a Ca ts tb tc md k).1.2.2.1 ++ [(xx, yy, (sp_ar Ca k).2.2.1, some k, none)], (fi_a Ca ts tb tc md k).1.2.2.2) := by
                unfold sp_addA
                rw [if_neg (by omega), if_pos h0]
              have w4 := mW_arc (t := xx) (u := yy) (v := (sp_ar Ca k).2.2.1) (x := some k) (y := none) w1
              have fN := (mQ_arc (t := xx) (u := yy) (v := (sp_ar Ca k).2.2.1) (x := some k) (y := none) w1.2.1).2
              rw [e2] at w4
              refine hN _ ⟨by rw [s]; exact w4, fun _ => ⟨?_, fun j hj => ?_⟩⟩ _ _
              · rw [s]
                exact ⟨((fN.2.2.2.2.2 m 29 (by unfold mB; omega)).1).trans w2.1, ((fN.2.2.2.2.2 m 30 (by unfold mB; omega)).1).trans w2.2⟩
              · rw [s]
                exact ((fN.2.2.2.2.2 (m + 26) j (by unfold mB; omega)).2.2.1).trans ((w3 j).trans (hk26 j hj))
            · rw [if_neg y1] at w1 s
              simp only [y1, if_false, if_true, nI_1]
              by_cases y0 : y.1 = 0
              · rw [if_pos y0] at w1 s
                exact hN _ (by rw [s]; exact ⟨w1, fun _ => ⟨w2, fun j hj => (w3 j).trans (hk26 j hj)⟩⟩) _ _
              · rw [if_neg y0] at w1 s
                exact hN _ (by rw [s]; exact ⟨w1, fun _ => ⟨w2, fun j hj => (w3 j).trans (hk26 j hj)⟩⟩) _ _
      · have stay : ∀ l4 l5, pm_V (d + 6) 110 80 [.ref m, .int (nI g), .int (nI a), .int (nI (k + 1)), l4, l5] [] S Q := hN S (by rw [s, fA_ne h0]; exact ⟨hW, hJ⟩)
        simp only [m_passes_b hW x9 h0, pm_tl_some, q110_0, q110_1, q110_2, q110_5, q110_6, q110_7, q110_10, q110_11, q110_13, q110_14, q110_17, q110_18, q110_19, q110_22, q110_23, q110_26, q110_27, q110_28, q110_29, q110_30, q110_31, q110_32, q110_33, q110_34, q110_35, q110_38, q110_39, q110_40, q110_43, q110_46, q110_47, q110_50, q110_51, q110_52, q110_55, q110_56, q110_57, q110_58, q110_59, q110_60, q110_61, q110_62, q110_63, q110_66, q110_67, q110_69, q110_72, q110_75, q110_78, q110_79, q110_81, q110_82, q110_85, q110_86, q110_87, q110_90, q110_91, q110_94, q110_95, q110_96, q110_97, q110_100, q110_101, q110_103, q110_104, q110_107, q110_108, q110_109, q110_110, q110_113, q110_114, q110_116, q110_118, q110_121, q110_123, q110_126, q110_127, q110_128, q110_129, q110_130, q110_131, q110_132, q110_135, q110_136, q110_137, q110_140, q110_143, q110_144, q110_145, q110_147, q110_149, q110_150, q110_151, q110_152, q110_155, q110_156, q110_158, q110_161, q110_164, q110_167, q110_e, if_true, nI_1]
        split
        · exact stay _ _
        · split
          · exact stay _ _
          · exact stay _ _
    · rintro S ⟨hW, hJ⟩ l4 l5
      have hM := hW.1
      have hR := mW_R hW x1.2.1 x8
      have e1 : ¬ nI Ca.2.2.1.length < nI Ca.2.2.1.length := nI_nlt (Nat.le_refl _) (by omega)
      rw [q110_80]
      simp only [q110_0, q110_1, q110_2, q110_5, q110_6, q110_7, q110_10, q110_11, q110_13, q110_14, q110_17, q110_18, q110_19, q110_22, q110_23, q110_26, q110_27, q110_28, q110_29, q110_30, q110_31, q110_32, q110_33, q110_34, q110_35, q110_38, q110_39, q110_40, q110_43, q110_46, q110_47, q110_50, q110_51, q110_52, q110_55, q110_56, q110_57, q110_58, q110_59, q110_60, q110_61, q110_62, q110_63, q110_66, q110_67, q110_69, q110_72, q110_75, q110_78, q110_79, q110_81, q110_82, q110_85, q110_86, q110_87, q110_90, q110_91, q110_94, q110_95, q110_96, q110_97, q110_100, q110_101, q110_103, q110_104, q110_107, q110_108, q110_109, q110_110, q110_113, q110_114, q110_116, q110_118, q110_121, q110_123, q110_126, q110_127, q110_128, q110_129, q110_130, q110_131, q110_132, q110_135, q110_136, q110_137, q110_140, q110_143, q110_144, q110_145, q110_147, q110_149, q110_150, q110_151, q110_152, q110_155, q110_156, q110_158, q110_161, q110_164, q110_167, q110_e, sM_0 hM, sM_r9 hM, pm_rf_some, ar9 hM ha, nc24 ha, hR.2.2.1, e1, if_false]
      exact hQ S hW
  exact key _ _
end
