/-! ===== THE REFERENCE: filter ===== -/
def fX (S0 : pm_T) (m g a : Nat) (Ca : sp_C) (ts : List sp_Te) (tb tc : Option Nat) (md : Nat) : Prop := aX S0 m a Ca ts ∧ pm_zi S0 (m + 3) g = sp_eC tb ∧ pm_zi S0 (m + 4) g = sp_eC tc ∧ pm_zi S0 (m + 5) g = nI md ∧ sp_tq ts tb ∧ sp_tq ts tc ∧ md < 2 ∧ a ≠ g ∧ g < 24
/-- steps and failures are told -/
def mst (S : pm_T) (m : Nat) (st : Nat × Nat) : Prop := pm_gi S m 29 = nI st.1 ∧ pm_gi S m 30 = nI st.2
section
variable {S0 S S' : pm_T} {m a g n k d j e t c i wh md b : Nat} {C Ca : sp_C} {ts : List sp_Te} {tb tc tq : Option Nat} {st : Nat × Nat} {Q : Option Value → pm_T → Prop}
theorem aX_W (hX : aX S0 m a Ca ts) (hW : mW S0 S m g C) (hne : a ≠ g) : aX S m a Ca ts := by
  obtain ⟨h1, h2, h3, h4, h5⟩ := hX
  refine ⟨h1, mW_R hW h2 hne, h3, h4, fun k hk => ?_⟩
  have f := hW.2.2.2.2.2.2.2
  rw [(f (m + 22) k (by unfold mP mB mS; omega)).2.2.1, (f (m + 23) k (by unfold mP mB mS; omega)).2.2.2, (f (m + 24) k (by unfold mP mB mS; omega)).2.2.1, (f (m + 25) k (by unfold mP mB mS; omega)).2.2.1]
  exact h5 k hk
theorem sp_hd_app {x : Nat} {ns : List sp_N} {as : List sp_A} {q : Nat × Nat × Nat} (i : Nat) : sp_hd (x, ns, as, C.2.2.2 ++ [q]) i = if i = C.2.2.2.length then q else sp_hd C i := by
  unfold sp_hd
  rw [List.getD_eq_getElem?_getD, List.getD_eq_getElem?_getD]
  by_cases h : i < C.2.2.2.length
  · rw [List.getElem?_append_left h, if_neg (by omega)]
  · rw [List.getElem?_append_right (by omega)]
    by_cases e : i = C.2.2.2.length
    · subst e; rw [Nat.sub_self, if_pos rfl]; rfl
    · rw [if_neg e, List.getElem?_eq_none (by simp; omega), List.getElem?_eq_none (by omega)]
def fM_hid (S : pm_T) (m g k wh i b : Nat) : pm_T := pm_szi (pm_szi (pm_szi S (m + 19) (160 * g + k) (nI (1000 * wh + i))) (m + 20) (160 * g + k) (nI b)) (m + 18) g (nI (k + 1))
theorem mQ_hid (h : mQ S m g C) (hl : C.2.2.2.length < 8) : mQ (fM_hid S m g C.2.2.2.length wh i b) m g (C.1, C.2.1, C.2.2.1, C.2.2.2 ++ [(wh, i, b)]) ∧ frI (mB m g) S (fM_hid S m g C.2.2.2.length wh i b) := by
  obtain ⟨h1, h2, h3, h4, h5⟩ := h
  refine ⟨⟨by simpa [fM_hid, ps_gi_nx, ps_gi_sz, ps_gi_sh, ps_gi_gi, ps_gi_gl, ps_gi_gr, ps_gi_zi, ps_gi_zl, ps_gi_zr, ps_gi_ar, ps_gi_al, ps_gl_nx, ps_gl_sz, ps_gl_sh, ps_gl_gi, ps_gl_gl, ps_gl_gr, ps_gl_zi, ps_gl_zl, ps_gl_zr, ps_gl_ar, ps_gl_al, ps_gr_nx, ps_gr_sz, ps_gr_sh, ps_gr_gi, ps_gr_gl, ps_gr_gr, ps_gr_zi, ps_gr_zl, ps_gr_zr, ps_gr_ar, ps_gr_al, ps_zi_nx, ps_zi_sz, ps_zi_sh, ps_zi_gi, ps_zi_gl, ps_zi_gr, ps_zi_zi, ps_zi_zl, ps_zi_zr, ps_zi_ar, ps_zi_al, ps_zl_nx, ps_zl_sz, ps_zl_sh, ps_zl_gi, ps_zl_gl, ps_zl_gr, ps_zl_zi, ps_zl_zl, ps_zl_zr, ps_zl_ar, ps_zl_al, ps_zr_nx, ps_zr_sz, ps_zr_sh, ps_zr_gi, ps_zr_gl, ps_zr_gr, ps_zr_zi, ps_zr_zl, ps_zr_zr, ps_zr_ar, ps_zr_al, pm_rf_some, pm_rf_none, pm_tl_some, pm_tl_none] using h1, h2, ?_, ?_, ⟨?_, ?_, fun k hk => ?_⟩⟩, ?_⟩
  · have : mR (fM_hid S m g C.2.2.2.length wh i b) m g C := by
      unfold mR at h3 ⊢
      simpa [fM_hid, ps_gi_nx, ps_gi_sz, ps_gi_sh, ps_gi_gi, ps_gi_gl, ps_gi_gr, ps_gi_zi, ps_gi_zl, ps_gi_zr, ps_gi_ar, ps_gi_al, ps_gl_nx, ps_gl_sz, ps_gl_sh, ps_gl_gi, ps_gl_gl, ps_gl_gr, ps_gl_zi, ps_gl_zl, ps_gl_zr, ps_gl_ar, ps_gl_al, ps_gr_nx, ps_gr_sz, ps_gr_sh, ps_gr_gi, ps_gr_gl, ps_gr_gr, ps_gr_zi, ps_gr_zl, ps_gr_zr, ps_gr_ar, ps_gr_al, ps_zi_nx, ps_zi_sz, ps_zi_sh, ps_zi_gi, ps_zi_gl, ps_zi_gr, ps_zi_zi, ps_zi_zl, ps_zi_zr, ps_zi_ar, ps_zi_al, ps_zl_nx, ps_zl_sz, ps_zl_sh, ps_zl_gi, ps_zl_gl, ps_zl_gr, ps_zl_zi, ps_zl_zl, ps_zl_zr, ps_zl_ar, ps_zl_al, ps_zr_nx, ps_zr_sz, ps_zr_sh, ps_zr_gi, ps_zr_gl, ps_zr_gr, ps_zr_zi, ps_zr_zl, ps_zr_zr, ps_zr_ar, ps_zr_al, pm_rf_some, pm_rf_none, pm_tl_some, pm_tl_none] using h3
    exact this
  · have : mU (fM_hid S m g C.2.2.2.length wh i b) m g C := by
      unfold mU at h4 ⊢
      simpa [fM_hid, ps_gi_nx, ps_gi_sz, ps_gi_sh, ps_gi_gi, ps_gi_gl, ps_gi_gr, ps_gi_zi, ps_gi_zl, ps_gi_zr, ps_gi_ar, ps_gi_al, ps_gl_nx, ps_gl_sz, ps_gl_sh, ps_gl_gi, ps_gl_gl, ps_gl_gr, ps_gl_zi, ps_gl_zl, ps_gl_zr, ps_gl_ar, ps_gl_al, ps_gr_nx, ps_gr_sz, ps_gr_sh, ps_gr_gi, ps_gr_gl, ps_gr_gr, ps_gr_zi, ps_gr_zl, ps_gr_zr, ps_gr_ar, ps_gr_al, ps_zi_nx, ps_zi_sz, ps_zi_sh, ps_zi_gi, ps_zi_gl, ps_zi_gr, ps_zi_zi, ps_zi_zl, ps_zi_zr, ps_zi_ar, ps_zi_al, ps_zl_nx, ps_zl_sz, ps_zl_sh, ps_zl_gi, ps_zl_gl, ps_zl_gr, ps_zl_zi, ps_zl_zl, ps_zl_zr, ps_zl_ar, ps_zl_al, ps_zr_nx, ps_zr_sz, ps_zr_sh, ps_zr_gi, ps_zr_gl, ps_zr_gr, ps_zr_zi, ps_zr_zl, ps_zr_zr, ps_zr_ar, ps_zr_al, pm_rf_some, pm_rf_none, pm_tl_some, pm_tl_none] using h4
    exact this
  · simp [fM_hid, ps_gi_nx, ps_gi_sz, ps_gi_sh, ps_gi_gi, ps_gi_gl, ps_gi_gr, ps_gi_zi, ps_gi_zl, ps_gi_zr, ps_gi_ar, ps_gi_al, ps_gl_nx, ps_gl_sz, ps_gl_sh, ps_gl_gi, ps_gl_gl, ps_gl_gr, ps_gl_zi, ps_gl_zl, ps_gl_zr, ps_gl_ar, ps_gl_al, ps_gr_nx, ps_gr_sz, ps_gr_sh, ps_gr_gi, ps_gr_gl, ps_gr_gr, ps_gr_zi, ps_gr_zl, ps_gr_zr, ps_gr_ar, ps_gr_al, ps_zi_nx, ps_zi_sz, ps_zi_sh, ps_zi_gi, ps_zi_gl, ps_zi_gr, ps_zi_zi, ps_zi_zl, ps_zi_zr, ps_zi_ar, ps_zi_al, ps_zl_nx, ps_zl_sz, ps_zl_sh, ps_zl_gi, ps_zl_gl, ps_zl_gr, ps_zl_zi, ps_zl_zl, ps_zl_zr, ps_zl_ar, ps_zl_al, ps_zr_nx, ps_zr_sz, ps_zr_sh, ps_zr_gi, ps_zr_gl, ps_zr_gr, ps_zr_zi, ps_zr_zl, ps_zr_zr, ps_zr_ar, ps_zr_al, pm_rf_some, pm_rf_none, pm_tl_some, pm_tl_none]
  · simp; omega
  · have hk' : k < C.2.2.2.length + 1 := by simpa using hk
    rw [sp_hd_app]
    by_cases e : k = C.2.2.2.length
    · subst e; rw [if_pos rfl]; simp [fM_hid, ps_gi_nx, ps_gi_sz, ps_gi_sh, ps_gi_gi, ps_gi_gl, ps_gi_gr, ps_gi_zi, ps_gi_zl, ps_gi_zr, ps_gi_ar, ps_gi_al, ps_gl_nx, ps_gl_sz, ps_gl_sh, ps_gl_gi, ps_gl_gl, ps_gl_gr, ps_gl_zi, ps_gl_zl, ps_gl_zr, ps_gl_ar, ps_gl_al, ps_gr_nx, ps_gr_sz, ps_gr_sh, ps_gr_gi, ps_gr_gl, ps_gr_gr, ps_gr_zi, ps_gr_zl, ps_gr_zr, ps_gr_ar, ps_gr_al, ps_zi_nx, ps_zi_sz, ps_zi_sh, ps_zi_gi, ps_zi_gl, ps_zi_gr, ps_zi_zi, ps_zi_zl, ps_zi_zr, ps_zi_ar, ps_zi_al, ps_zl_nx, ps_zl_sz, ps_zl_sh, ps_zl_gi, ps_zl_gl, ps_zl_gr, ps_zl_zi, ps_zl_zl, ps_zl_zr, ps_zl_ar, ps_zl_al, ps_zr_nx, ps_zr_sz, ps_zr_sh, ps_zr_gi, ps_zr_gl, ps_zr_gr, ps_zr_zi, ps_zr_zl, ps_zr_zr, ps_zr_ar, ps_zr_al, pm_rf_some, pm_rf_none, pm_tl_some, pm_tl_none]
    · rw [if_neg e]
      have := h5.2.2 k (by omega)
      simpa [fM_hid, ps_gi_nx, ps_gi_sz, ps_gi_sh, ps_gi_gi, ps_gi_gl, ps_gi_gr, ps_gi_zi, ps_gi_zl, ps_gi_zr, ps_gi_ar, ps_gi_al, ps_gl_nx, ps_gl_sz, ps_gl_sh, ps_gl_gi, ps_gl_gl, ps_gl_gr, ps_gl_zi, ps_gl_zl, ps_gl_zr, ps_gl_ar, ps_gl_al, ps_gr_nx, ps_gr_sz, ps_gr_sh, ps_gr_gi, ps_gr_gl, ps_gr_gr, ps_gr_zi, ps_gr_zl, ps_gr_zr, ps_gr_ar, ps_gr_al, ps_zi_nx, ps_zi_sz, ps_zi_sh, ps_zi_gi, ps_zi_gl, ps_zi_gr, ps_zi_zi, ps_zi_zl, ps_zi_zr, ps_zi_ar, ps_zi_al, ps_zl_nx, ps_zl_sz, ps_zl_sh, ps_zl_gi, ps_zl_gl, ps_zl_gr, ps_zl_zi, ps_zl_zl, ps_zl_zr, ps_zl_ar, ps_zl_al, ps_zr_nx, ps_zr_sz, ps_zr_sh, ps_zr_gi, ps_zr_gl, ps_zr_gr, ps_zr_zi, ps_zr_zl, ps_zr_zr, ps_zr_ar, ps_zr_al, pm_rf_some, pm_rf_none, pm_tl_some, pm_tl_none, e] using this
  · exact (frI.zi (by unfold mB; omega)).tr ((frI.zi (by unfold mB; omega)).tr (frI.zi (by unfold mB; omega)))
theorem mW_B (hW : mW S0 S m g C) {C' : sp_C} (q1 : mQ S' m g C') (q2 : frI (mB m g) S S') : mW S0 S' m g C' := ⟨sM_frI hW.1 q2, q1, hW.2.2.tr (q2.mono (fun b k h => Or.inl h))⟩
theorem ar5 (hM : sM S m) (hg : g < 24) : pm_ar S (m + 5) 0 (nI g) = true := pm_ar_nI (sM_s5 hM) hg (by decide)
theorem ar3 (hM : sM S m) (hg : g < 24) : pm_ar S (m + 3) 0 (nI g) = true := pm_ar_nI (sM_s3 hM) hg (by decide)
theorem ar18 (hM : sM S m) (hg : g < 24) : pm_ar S (m + 18) 0 (nI g) = true := pm_ar_nI (sM_s18 hM) hg (by decide)
theorem ar26 (hM : sM S m) (hi : i < 40) : pm_ar S (m + 26) 0 (nI i) = true := pm_ar_nI (sM_s26 hM) hi (by decide)
/-- broken before: nothing passes -/
theorem m_passes_b {x y z w : Int32} (hW : mW S0 S m g C) (hg : g < 24) (h0 : C.1 ≠ 0) : pm_N d 109 [.ref m, .int (nI g), .int x, .int y, .int z, .int w] S Q = Q (some (.int 0)) S := by
  have hM := hW.1
  have e0 : ¬ nI C.1 = 0 := fun q => h0 ((nI_eq (b := 0) (by have := hW.2.1.2.1; omega) (by decide)).mp q)
  simp only [q109_0, q109_1, q109_4, q109_5, q109_6, q109_9, q109_10, q109_11, q109_13, q109_14, q109_17, q109_18, q109_21, q109_22, q109_23, q109_24, q109_26, q109_28, q109_31, q109_33, q109_35, q109_37, q109_40, q109_42, q109_43, q109_46, q109_47, q109_50, q109_51, q109_52, q109_54, q109_56, q109_57, q109_59, q109_61, q109_62, q109_65, q109_66, q109_69, q109_70, q109_71, q109_72, q109_75, q109_76, q109_77, q109_79, q109_82, q109_85, q109_86, q109_89, q109_92, q109_93, q109_94, q109_95, q109_98, q109_99, q109_100, q109_101, q109_104, q109_105, q109_106, q109_108, q109_109, q109_110, q109_111, q109_114, q109_117, q109_118, q109_119, q109_120, q109_123, q109_124, q109_125, q109_126, q109_128, q109_129, q109_130, q109_133, q109_134, q109_135, q109_136, q109_137, q109_138, q109_139, q109_140, q109_e, sM_0 hM, sM_r7 hM, pm_rf_some, ar7 hM hg, nc24 hg, hW.2.1.1, e0, if_false, true_or]
set_option maxHeartbeats 1000000 in
/-- what comes behind the answer -/
theorem m_passes_1 {r : Nat} {l5 : Int32} (hW : mW S0 S m g C) (hg : g < 24) (hmd : md < 2) (h5 : pm_zi S0 (m + 5) g = nI md) (h0 : C.1 = 0) (hst : mst S m st) (hr : r = 0 ∨ r = 1 ∨ r = 11 ∨ r = 12 ∨ r = 15) (hw : wh ≤ 1) (hi : i < 120) (hh : r = 11 ∨ r = 12 → C.2.2.2.length < 8)
    (hQ : ∀ S', mW S0 S' m g (if r = 1 then C else if r = 0 then C else fi_bad md C wh i (r - 10)) → mst S' m st → (∀ j, pm_zi S' (m + 26) j = pm_zi S (m + 26) j) → Q (some (.int (if r = 1 then 1 else 0))) S') : pm_V (d + 5) 109 31 [.ref m, .int (nI g), .int (nI a), .int (nI wh), .int (nI i), .int l5, pm_j, pm_j] [.int (nI r)] S Q := by
  have hM := hW.1
  have hd := mW_by (i := 5) (by decide) hW h5
  have z1 : (nI md = 1) = (md = 1) := nI_e' (b := 1) (by omega) (by decide)
  simp only [q109_0, q109_1, q109_4, q109_5, q109_6, q109_9, q109_10, q109_11, q109_13, q109_14, q109_17, q109_18, q109_21, q109_22, q109_23, q109_24, q109_26, q109_28, q109_31, q109_33, q109_35, q109_37, q109_40, q109_42, q109_43, q109_46, q109_47, q109_50, q109_51, q109_52, q109_54, q109_56, q109_57, q109_59, q109_61, q109_62, q109_65, q109_66, q109_69, q109_70, q109_71, q109_72, q109_75, q109_76, q109_77, q109_79, q109_82, q109_85, q109_86, q109_89, q109_92, q109_93, q109_94, q109_95, q109_98, q109_99, q109_100, q109_101, q109_104, q109_105, q109_106, q109_108, q109_109, q109_110, q109_111, q109_114, q109_117, q109_118, q109_119, q109_120, q109_123, q109_124, q109_125, q109_126, q109_128, q109_129, q109_130, q109_133, q109_134, q109_135, q109_136, q109_137, q109_138, q109_139, q109_140, q109_e]
  by_cases c1 : r < 10
  · have e1 : nI r < 10 := nI_lt (b := 10) c1 (by decide)
    have e2 : (nI r = 1) = (r = 1) := nI_e' (b := 1) (by omega) (by decide)
    have := hQ S (by rcases (show r = 0 ∨ r = 1 by omega) with rfl | rfl <;> exact hW) hst (fun _ => rfl)
    simp only [e1, if_true, e2, true_or, or_true, q109_0, q109_1, q109_4, q109_5, q109_6, q109_9, q109_10, q109_11, q109_13, q109_14, q109_17, q109_18, q109_21, q109_22, q109_23, q109_24, q109_26, q109_28, q109_31, q109_33, q109_35, q109_37, q109_40, q109_42, q109_43, q109_46, q109_47, q109_50, q109_51, q109_52, q109_54, q109_56, q109_57, q109_59, q109_61, q109_62, q109_65, q109_66, q109_69, q109_70, q109_71, q109_72, q109_75, q109_76, q109_77, q109_79, q109_82, q109_85, q109_86, q109_89, q109_92, q109_93, q109_94, q109_95, q109_98, q109_99, q109_100, q109_101, q109_104, q109_105, q109_106, q109_108, q109_109, q109_110, q109_111, q109_114, q109_117, q109_118, q109_119, q109_120, q109_123, q109_124, q109_125, q109_126, q109_128, q109_129, q109_130, q109_133, q109_134, q109_135, q109_136, q109_137, q109_138, q109_139, q109_140, q109_e]
    by_cases h1 : r = 1
    · rw [if_pos h1]; rw [if_pos h1] at this; exact this
    · rw [if_neg h1]; rw [if_neg h1] at this; exact this
  · have e1 : ¬ nI r < 10 := nI_nlt (b := 10) (by omega) (by omega)
    have r1 : ¬ r = 1 := by omega
    have r0 : ¬ r = 0 := by omega
    rw [if_neg r1, if_neg r0, if_neg r1] at hQ
    have e3 : nI r - 10 = nI (r - 10) := by
      rcases (show r = 11 ∨ r = 12 ∨ r = 15 by omega) with rfl | rfl | rfl <;> decide
    have e4 : (nI (r - 10) = 5) = (r - 10 = 5) := nI_e' (b := 5) (by omega) (by decide)
    simp only [q109_0, q109_1, q109_4, q109_5, q109_6, q109_9, q109_10, q109_11, q109_13, q109_14, q109_17, q109_18, q109_21, q109_22, q109_23, q109_24, q109_26, q109_28, q109_31, q109_33, q109_35, q109_37, q109_40, q109_42, q109_43, q109_46, q109_47, q109_50, q109_51, q109_52, q109_54, q109_56, q109_57, q109_59, q109_61, q109_62, q109_65, q109_66, q109_69, q109_70, q109_71, q109_72, q109_75, q109_76, q109_77, q109_79, q109_82, q109_85, q109_86, q109_89, q109_92, q109_93, q109_94, q109_95, q109_98, q109_99, q109_100, q109_101, q109_104, q109_105, q109_106, q109_108, q109_109, q109_110, q109_111, q109_114, q109_117, q109_118, q109_119, q109_120, q109_123, q109_124, q109_125, q109_126, q109_128, q109_129, q109_130, q109_133, q109_134, q109_135, q109_136, q109_137, q109_138, q109_139, q109_140, q109_e, e1, if_false, e3, e4, sM_0 hM, sM_r5 hM, pm_rf_some, ar5 hM hg, nc24 hg, hd, z1]
    have brk : (r - 10 = 5 ∨ md = 1) → ∀ Q' : Option Value → pm_T → Prop, (Q' none (fM_breaks S m g (nI (r - 10))) ) → pm_N (d + 4) 101 [.ref m, .int (nI g), .int (nI (r - 10))] S Q' := fun _ Q' hq => by rw [m_breaks hM hg]; exact hq
    obtain ⟨b1, b2⟩ := mQ_brk (f := r - 10) hW.2.1 (by omega)
    have eb : (r - 10 = 5 ∨ md = 1) → fi_bad md C wh i (r - 10) = sp_brk C (r - 10) := fun q => by unfold fi_bad sp_brk; rw [if_pos q, if_pos h0]
    have fin : (r - 10 = 5 ∨ md = 1) → Q (some (.int 0)) (fM_breaks S m g (nI (r - 10))) := fun q => by
      refine hQ _ (by rw [eb q]; exact mW_B hW b1 b2) ⟨?_, ?_⟩ (fun j => ?_)
      · rw [(b2.2.2.2.2.2 m 29 (by unfold mB; omega)).1]; exact hst.1
      · rw [(b2.2.2.2.2.2 m 30 (by unfold mB; omega)).1]; exact hst.2
      · rw [(b2.2.2.2.2.2 (m + 26) j (by unfold mB; omega)).2.2.1]
    by_cases c5 : r - 10 = 5
    · rw [if_pos c5]
      refine brk (Or.inl c5) _ ?_
      simp only [pm_tl_none, q109_0, q109_1, q109_4, q109_5, q109_6, q109_9, q109_10, q109_11, q109_13, q109_14, q109_17, q109_18, q109_21, q109_22, q109_23, q109_24, q109_26, q109_28, q109_31, q109_33, q109_35, q109_37, q109_40, q109_42, q109_43, q109_46, q109_47, q109_50, q109_51, q109_52, q109_54, q109_56, q109_57, q109_59, q109_61, q109_62, q109_65, q109_66, q109_69, q109_70, q109_71, q109_72, q109_75, q109_76, q109_77, q109_79, q109_82, q109_85, q109_86, q109_89, q109_92, q109_93, q109_94, q109_95, q109_98, q109_99, q109_100, q109_101, q109_104, q109_105, q109_106, q109_108, q109_109, q109_110, q109_111, q109_114, q109_117, q109_118, q109_119, q109_120, q109_123, q109_124, q109_125, q109_126, q109_128, q109_129, q109_130, q109_133, q109_134, q109_135, q109_136, q109_137, q109_138, q109_139, q109_140, q109_e, true_or]
      exact fin (Or.inl c5)
    · rw [if_neg c5]
      by_cases cm : md = 1
      · rw [if_pos cm]
        refine brk (Or.inr cm) _ ?_
        simp only [pm_tl_none, q109_0, q109_1, q109_4, q109_5, q109_6, q109_9, q109_10, q109_11, q109_13, q109_14, q109_17, q109_18, q109_21, q109_22, q109_23, q109_24, q109_26, q109_28, q109_31, q109_33, q109_35, q109_37, q109_40, q109_42, q109_43, q109_46, q109_47, q109_50, q109_51, q109_52, q109_54, q109_56, q109_57, q109_59, q109_61, q109_62, q109_65, q109_66, q109_69, q109_70, q109_71, q109_72, q109_75, q109_76, q109_77, q109_79, q109_82, q109_85, q109_86, q109_89, q109_92, q109_93, q109_94, q109_95, q109_98, q109_99, q109_100, q109_101, q109_104, q109_105, q109_106, q109_108, q109_109, q109_110, q109_111, q109_114, q109_117, q109_118, q109_119, q109_120, q109_123, q109_124, q109_125, q109_126, q109_128, q109_129, q109_130, q109_133, q109_134, q109_135, q109_136, q109_137, q109_138, q109_139, q109_140, q109_e, true_or]
        exact fin (Or.inr cm)
      · rw [if_neg cm]
        have hl := hh (by omega)
        have h18 := hW.2.1.2.2.2.2.1
        have e6 : (160 : Int32) * nI g + nI C.2.2.2.length = nI (160 * g + C.2.2.2.length) := sp_at 160 g _
        have e7 : (1000 : Int32) * nI wh + nI i = nI (1000 * wh + i) := sp_at 1000 wh i
        have r1 := pm_ar_nI (sM_s19 hM) (show 160 * g + C.2.2.2.length < 3840 by omega) (by decide)
        have r2 := pm_ar_nI (sM_s20 hM) (show 160 * g + C.2.2.2.length < 3840 by omega) (by decide)
        obtain ⟨b3, b4⟩ := mQ_hid (wh := wh) (i := i) (b := r - 10) hW.2.1 hl
        simp only [q109_0, q109_1, q109_4, q109_5, q109_6, q109_9, q109_10, q109_11, q109_13, q109_14, q109_17, q109_18, q109_21, q109_22, q109_23, q109_24, q109_26, q109_28, q109_31, q109_33, q109_35, q109_37, q109_40, q109_42, q109_43, q109_46, q109_47, q109_50, q109_51, q109_52, q109_54, q109_56, q109_57, q109_59, q109_61, q109_62, q109_65, q109_66, q109_69, q109_70, q109_71, q109_72, q109_75, q109_76, q109_77, q109_79, q109_82, q109_85, q109_86, q109_89, q109_92, q109_93, q109_94, q109_95, q109_98, q109_99, q109_100, q109_101, q109_104, q109_105, q109_106, q109_108, q109_109, q109_110, q109_111, q109_114, q109_117, q109_118, q109_119, q109_120, q109_123, q109_124, q109_125, q109_126, q109_128, q109_129, q109_130, q109_133, q109_134, q109_135, q109_136, q109_137, q109_138, q109_139, q109_140, q109_e, sM_0 hM, sM_r19 hM, sM_r20 hM, sM_r18 hM, pm_rf_some, ar18 hM hg, nc24 hg, h18, e6, e7, r1, r2, nI_clamp (show 160 * g + C.2.2.2.length < 2 ^ 31 by omega), ps_gi_nx, ps_gi_sz, ps_gi_sh, ps_gi_gi, ps_gi_gl, ps_gi_gr, ps_gi_zi, ps_gi_zl, ps_gi_zr, ps_gi_ar, ps_gi_al, ps_gl_nx, ps_gl_sz, ps_gl_sh, ps_gl_gi, ps_gl_gl, ps_gl_gr, ps_gl_zi, ps_gl_zl, ps_gl_zr, ps_gl_ar, ps_gl_al, ps_gr_nx, ps_gr_sz, ps_gr_sh, ps_gr_gi, ps_gr_gl, ps_gr_gr, ps_gr_zi, ps_gr_zl, ps_gr_zr, ps_gr_ar, ps_gr_al, ps_zi_nx, ps_zi_sz, ps_zi_sh, ps_zi_gi, ps_zi_gl, ps_zi_gr, ps_zi_zi, ps_zi_zl, ps_zi_zr, ps_zi_ar, ps_zi_al, ps_zl_nx, ps_zl_sz, ps_zl_sh, ps_zl_gi, ps_zl_gl, ps_zl_gr, ps_zl_zi, ps_zl_zl, ps_zl_zr, ps_zl_ar, ps_zl_al, ps_zr_nx, ps_zr_sz, ps_zr_sh, ps_zr_gi, ps_zr_gl, ps_zr_gr, ps_zr_zi, ps_zr_zl, ps_zr_zr, ps_zr_ar, ps_zr_al, pm_rf_some, pm_rf_none, pm_tl_some, pm_tl_none, show ¬ (m + 18 = m + 19) by omega, show ¬ (m + 18 = m + 20) by omega, false_and, if_false, nI_1, true_or]
        have ef : fi_bad md C wh i (r - 10) = (C.1, C.2.1, C.2.2.1, C.2.2.2 ++ [(wh, i, r - 10)]) := by unfold fi_bad; rw [if_neg (by omega)]
        rw [ef] at hQ
        refine hQ _ (mW_B hW b3 b4) ⟨?_, ?_⟩ (fun j => ?_)
        · exact ((b4.2.2.2.2.2 m 29 (by unfold mB; omega)).1).trans hst.1
        · exact ((b4.2.2.2.2.2 m 30 (by unfold mB; omega)).1).trans hst.2
        · exact (b4.2.2.2.2.2 (m + 26) j (by unfold mB; omega)).2.2.1
/-- passes -/
theorem m_passes (hX : aX S0 m a Ca ts) (hg : g < 24) (hne : a ≠ g) (hmd : md < 2) (h5 : pm_zi S0 (m + 5) g = nI md) (hq : sp_tq ts tq) (hW : mW S0 S m g C) (h0 : C.1 = 0) (hst : mst S m st) (b1 : st.1 ≤ 2000) (b2 : st.2 ≤ 8) (hw : wh = 0 ∨ wh = 1) (hi : i < sp_len Ca wh) (hh : (fi_ask Ca ts tq wh i st).1 = 11 ∨ (fi_ask Ca ts tq wh i st).1 = 12 → C.2.2.2.length < 8)
    (hQ : ∀ S', mW S0 S' m g (if (fi_ask Ca ts tq wh i st).1 = 1 then C else if (fi_ask Ca ts tq wh i st).1 = 0 then C else fi_bad md C wh i ((fi_ask Ca ts tq wh i st).1 - 10)) → mst S' m (fi_ask Ca ts tq wh i st).2 → (∀ j, pm_zi S' (m + 26) j = pm_zi S (m + 26) j) → Q (some (.int (if (fi_ask Ca ts tq wh i st).1 = 1 then 1 else 0))) S') : pm_N (d + 5) 109 [.ref m, .int (nI g), .int (nI a), .int (nI wh), .int (nI i), .int (sp_eC tq)] S Q := by
  have hM := hW.1
  have hR := mW_R hW hX.2.1 hne
  have e0 : nI C.1 = 0 := by rw [h0]; rfl
  have hi2 : i < 120 := by
    have q1 := hR.2.1
    have q2 := hR.2.2.2.1
    rcases hw with rfl | rfl
    · have : i < Ca.2.1.length := hi
      omega
    · have : i < Ca.2.2.1.length := hi
      omega
  have hb := (fi_ask_b (Ca := Ca) (ts := ts) (t := tq) (wh := wh) (i := i) b1 b2).1
  simp only [q109_0, q109_1, q109_4, q109_5, q109_6, q109_9, q109_10, q109_11, q109_13, q109_14, q109_17, q109_18, q109_21, q109_22, q109_23, q109_24, q109_26, q109_28, q109_33, q109_35, q109_37, q109_40, q109_42, q109_43, q109_46, q109_47, q109_50, q109_51, q109_52, q109_54, q109_56, q109_57, q109_59, q109_61, q109_62, q109_65, q109_66, q109_69, q109_70, q109_71, q109_72, q109_75, q109_76, q109_77, q109_79, q109_82, q109_85, q109_86, q109_89, q109_92, q109_93, q109_94, q109_95, q109_98, q109_99, q109_100, q109_101, q109_104, q109_105, q109_106, q109_108, q109_109, q109_110, q109_111, q109_114, q109_117, q109_118, q109_119, q109_120, q109_123, q109_124, q109_125, q109_126, q109_128, q109_129, q109_130, q109_133, q109_134, q109_135, q109_136, q109_137, q109_138, q109_139, q109_140, q109_e, sM_0 hM, sM_r7 hM, pm_rf_some, ar7 hM hg, nc24 hg, hW.2.1.1, e0, if_true]
  cases tq with
  | none =>
    simp only [show sp_eC none = -1 from rfl, if_true]
    exact m_passes_1 (r := 1) hW hg hmd h5 h0 hst (by omega) (by omega) hi2 hh hQ
  | some t =>
    have ht := hq t rfl
    have h20 := hX.2.2.2.1.1
    have en : ¬ sp_eC (some t) = -1 := nI_m1 (show t < 2 ^ 31 by omega)
    simp only [en, if_false]
    refine m_asked (S0 := S) (aX_W hX hW hne) ⟨hM, frI.rf, hst.1, hst.2⟩ ht hw hi b1 b2 fun S' q1 => ?_
    simp only [pm_tl_some]
    have f := q1.2.1
    exact m_passes_1 (mW_s hW (f.mono mT_S)) hg hmd h5 h0 ⟨q1.2.2.1, q1.2.2.2⟩ hb.1 (by omega) hi2 hh fun S2 w1 w2 w3 => hQ S2 w1 w2 (fun j => (w3 j).trans (f.2.2.2.2.2 (m + 26) j (by unfold mT; omega)).2.2.1)
end
