/-! ===== the class: what tests say ===== -/
/-- how the class writes an answer -/
def sp_cd (r : Nat) : Int32 := if r < 10 then nI r else -(nI (r - 10))
theorem nI_0' : nI 0 = 0 := rfl
theorem nI_1' : nI 1 = 1 := rfl
section
variable {d a g n k : Nat} {S : pm_T} {Q : Option Value → pm_T → Prop} {C : sp_C} {ts : List sp_Te} {st : Nat × Nat}
theorem gT_6 {y : Int32} {f : Nat} (h : gT S a g C ts st) (hy : y = nI f) : gT (pm_sgi S a 6 y) a g C ts (st.1, f) ∧ sp_fr (fun b => b = a) S (pm_sgi S a 6 y) := by
  obtain ⟨h1, h2, h3, h4, h5, h6, h7⟩ := h
  have f : sp_fr (fun b => b = a) S (pm_sgi S a 6 y) := sp_fr.gi rfl (sh_ne h1.1.1 (by decide))
  refine ⟨⟨⟨h1.1, ?_, h1.2.2⟩, sG_fr h2 f, cC_fr h3 f (fun b hb hw => by unfold cB at hb; omega), h4, ?_, ?_, h7⟩, f⟩
  · simpa [ps_gi_nx, ps_gi_sz, ps_gi_sh, ps_gi_gi, ps_gi_gl, ps_gi_gr, ps_gi_zi, ps_gi_zl, ps_gi_zr, ps_gi_ar, ps_gi_al, ps_gl_nx, ps_gl_sz, ps_gl_sh, ps_gl_gi, ps_gl_gl, ps_gl_gr, ps_gl_zi, ps_gl_zl, ps_gl_zr, ps_gl_ar, ps_gl_al, ps_gr_nx, ps_gr_sz, ps_gr_sh, ps_gr_gi, ps_gr_gl, ps_gr_gr, ps_gr_zi, ps_gr_zl, ps_gr_zr, ps_gr_ar, ps_gr_al, ps_zi_nx, ps_zi_sz, ps_zi_sh, ps_zi_gi, ps_zi_gl, ps_zi_gr, ps_zi_zi, ps_zi_zl, ps_zi_zr, ps_zi_ar, ps_zi_al, ps_zl_nx, ps_zl_sz, ps_zl_sh, ps_zl_gi, ps_zl_gl, ps_zl_gr, ps_zl_zi, ps_zl_zl, ps_zl_zr, ps_zl_ar, ps_zl_al, ps_zr_nx, ps_zr_sz, ps_zr_sh, ps_zr_gi, ps_zr_gl, ps_zr_gr, ps_zr_zi, ps_zr_zl, ps_zr_zr, ps_zr_ar, ps_zr_al, pm_rf_some, pm_rf_none, pm_tl_some, pm_tl_none] using h1.2.1
  · simpa [ps_gi_nx, ps_gi_sz, ps_gi_sh, ps_gi_gi, ps_gi_gl, ps_gi_gr, ps_gi_zi, ps_gi_zl, ps_gi_zr, ps_gi_ar, ps_gi_al, ps_gl_nx, ps_gl_sz, ps_gl_sh, ps_gl_gi, ps_gl_gl, ps_gl_gr, ps_gl_zi, ps_gl_zl, ps_gl_zr, ps_gl_ar, ps_gl_al, ps_gr_nx, ps_gr_sz, ps_gr_sh, ps_gr_gi, ps_gr_gl, ps_gr_gr, ps_gr_zi, ps_gr_zl, ps_gr_zr, ps_gr_ar, ps_gr_al, ps_zi_nx, ps_zi_sz, ps_zi_sh, ps_zi_gi, ps_zi_gl, ps_zi_gr, ps_zi_zi, ps_zi_zl, ps_zi_zr, ps_zi_ar, ps_zi_al, ps_zl_nx, ps_zl_sz, ps_zl_sh, ps_zl_gi, ps_zl_gl, ps_zl_gr, ps_zl_zi, ps_zl_zl, ps_zl_zr, ps_zl_ar, ps_zl_al, ps_zr_nx, ps_zr_sz, ps_zr_sh, ps_zr_gi, ps_zr_gl, ps_zr_gr, ps_zr_zi, ps_zr_zl, ps_zr_zr, ps_zr_ar, ps_zr_al, pm_rf_some, pm_rf_none, pm_tl_some, pm_tl_none] using h5
  · simpa [ps_gi_nx, ps_gi_sz, ps_gi_sh, ps_gi_gi, ps_gi_gl, ps_gi_gr, ps_gi_zi, ps_gi_zl, ps_gi_zr, ps_gi_ar, ps_gi_al, ps_gl_nx, ps_gl_sz, ps_gl_sh, ps_gl_gi, ps_gl_gl, ps_gl_gr, ps_gl_zi, ps_gl_zl, ps_gl_zr, ps_gl_ar, ps_gl_al, ps_gr_nx, ps_gr_sz, ps_gr_sh, ps_gr_gi, ps_gr_gl, ps_gr_gr, ps_gr_zi, ps_gr_zl, ps_gr_zr, ps_gr_ar, ps_gr_al, ps_zi_nx, ps_zi_sz, ps_zi_sh, ps_zi_gi, ps_zi_gl, ps_zi_gr, ps_zi_zi, ps_zi_zl, ps_zi_zr, ps_zi_ar, ps_zi_al, ps_zl_nx, ps_zl_sz, ps_zl_sh, ps_zl_gi, ps_zl_gl, ps_zl_gr, ps_zl_zi, ps_zl_zl, ps_zl_zr, ps_zl_ar, ps_zl_al, ps_zr_nx, ps_zr_sz, ps_zr_sh, ps_zr_gi, ps_zr_gl, ps_zr_gr, ps_zr_zi, ps_zr_zl, ps_zr_zr, ps_zr_ar, ps_zr_al, pm_rf_some, pm_rf_none, pm_tl_some, pm_tl_none] using hy
theorem gT_5 {y : Int32} {s : Nat} (h : gT S a g C ts st) (hy : y = nI s) : gT (pm_sgi S a 5 y) a g C ts (s, st.2) ∧ sp_fr (fun b => b = a) S (pm_sgi S a 5 y) := by
  obtain ⟨h1, h2, h3, h4, h5, h6, h7⟩ := h
  have f : sp_fr (fun b => b = a) S (pm_sgi S a 5 y) := sp_fr.gi rfl (sh_ne h1.1.1 (by decide))
  refine ⟨⟨⟨h1.1, ?_, h1.2.2⟩, sG_fr h2 f, cC_fr h3 f (fun b hb hw => by unfold cB at hb; omega), h4, ?_, ?_, h7⟩, f⟩
  · simpa [ps_gi_nx, ps_gi_sz, ps_gi_sh, ps_gi_gi, ps_gi_gl, ps_gi_gr, ps_gi_zi, ps_gi_zl, ps_gi_zr, ps_gi_ar, ps_gi_al, ps_gl_nx, ps_gl_sz, ps_gl_sh, ps_gl_gi, ps_gl_gl, ps_gl_gr, ps_gl_zi, ps_gl_zl, ps_gl_zr, ps_gl_ar, ps_gl_al, ps_gr_nx, ps_gr_sz, ps_gr_sh, ps_gr_gi, ps_gr_gl, ps_gr_gr, ps_gr_zi, ps_gr_zl, ps_gr_zr, ps_gr_ar, ps_gr_al, ps_zi_nx, ps_zi_sz, ps_zi_sh, ps_zi_gi, ps_zi_gl, ps_zi_gr, ps_zi_zi, ps_zi_zl, ps_zi_zr, ps_zi_ar, ps_zi_al, ps_zl_nx, ps_zl_sz, ps_zl_sh, ps_zl_gi, ps_zl_gl, ps_zl_gr, ps_zl_zi, ps_zl_zl, ps_zl_zr, ps_zl_ar, ps_zl_al, ps_zr_nx, ps_zr_sz, ps_zr_sh, ps_zr_gi, ps_zr_gl, ps_zr_gr, ps_zr_zi, ps_zr_zl, ps_zr_zr, ps_zr_ar, ps_zr_al, pm_rf_some, pm_rf_none, pm_tl_some, pm_tl_none] using h1.2.1
  · simpa [ps_gi_nx, ps_gi_sz, ps_gi_sh, ps_gi_gi, ps_gi_gl, ps_gi_gr, ps_gi_zi, ps_gi_zl, ps_gi_zr, ps_gi_ar, ps_gi_al, ps_gl_nx, ps_gl_sz, ps_gl_sh, ps_gl_gi, ps_gl_gl, ps_gl_gr, ps_gl_zi, ps_gl_zl, ps_gl_zr, ps_gl_ar, ps_gl_al, ps_gr_nx, ps_gr_sz, ps_gr_sh, ps_gr_gi, ps_gr_gl, ps_gr_gr, ps_gr_zi, ps_gr_zl, ps_gr_zr, ps_gr_ar, ps_gr_al, ps_zi_nx, ps_zi_sz, ps_zi_sh, ps_zi_gi, ps_zi_gl, ps_zi_gr, ps_zi_zi, ps_zi_zl, ps_zi_zr, ps_zi_ar, ps_zi_al, ps_zl_nx, ps_zl_sz, ps_zl_sh, ps_zl_gi, ps_zl_gl, ps_zl_gr, ps_zl_zi, ps_zl_zl, ps_zl_zr, ps_zl_ar, ps_zl_al, ps_zr_nx, ps_zr_sz, ps_zr_sh, ps_zr_gi, ps_zr_gl, ps_zr_gr, ps_zr_zi, ps_zr_zl, ps_zr_zr, ps_zr_ar, ps_zr_al, pm_rf_some, pm_rf_none, pm_tl_some, pm_tl_none] using hy
  · simpa [ps_gi_nx, ps_gi_sz, ps_gi_sh, ps_gi_gi, ps_gi_gl, ps_gi_gr, ps_gi_zi, ps_gi_zl, ps_gi_zr, ps_gi_ar, ps_gi_al, ps_gl_nx, ps_gl_sz, ps_gl_sh, ps_gl_gi, ps_gl_gl, ps_gl_gr, ps_gl_zi, ps_gl_zl, ps_gl_zr, ps_gl_ar, ps_gl_al, ps_gr_nx, ps_gr_sz, ps_gr_sh, ps_gr_gi, ps_gr_gl, ps_gr_gr, ps_gr_zi, ps_gr_zl, ps_gr_zr, ps_gr_ar, ps_gr_al, ps_zi_nx, ps_zi_sz, ps_zi_sh, ps_zi_gi, ps_zi_gl, ps_zi_gr, ps_zi_zi, ps_zi_zl, ps_zi_zr, ps_zi_ar, ps_zi_al, ps_zl_nx, ps_zl_sz, ps_zl_sh, ps_zl_gi, ps_zl_gl, ps_zl_gr, ps_zl_zi, ps_zl_zl, ps_zl_zr, ps_zl_ar, ps_zl_al, ps_zr_nx, ps_zr_sz, ps_zr_sh, ps_zr_gi, ps_zr_gl, ps_zr_gr, ps_zr_zi, ps_zr_zl, ps_zr_zr, ps_zr_ar, ps_zr_al, pm_rf_some, pm_rf_none, pm_tl_some, pm_tl_none] using h6
theorem c_begun_q {b : Nat} (h : gT S a g C ts st) (hb : b = 1 ∨ b = 2) (h8 : st.2 ≤ 8) (hQ : ∀ S', gT S' a g C ts (sp_fl b st).2 → sp_fr (fun b => b = a) S S' → Q (some (.int (sp_cd (sp_fl b st).1))) S') : Q (some (.int (if pm_gi S a 6 + 1 ≤ 8 then -nI b else -5))) (pm_sgi S a 6 (pm_gi S a 6 + 1)) := by
  have e : pm_gi S a 6 + 1 = nI (st.2 + 1) := by rw [h.2.2.2.2.2.1, nI_1]
  obtain ⟨g1, g2⟩ := gT_6 (f := st.2 + 1) h e
  have := hQ _ g1 g2
  rw [e] at this ⊢
  have e8 : (nI (st.2 + 1) ≤ 8) = (st.2 + 1 ≤ 8) := nI_le' (b := 8) (by omega) (by decide)
  unfold sp_fl sp_cd at this
  by_cases hl : st.2 + 1 ≤ 8
  · rw [if_pos (show nI (st.2 + 1) ≤ 8 by rw [e8]; exact hl)]
    dsimp only at this
    rw [if_pos hl, if_neg (by omega), show 10 + b - 10 = b by omega] at this
    exact this
  · rw [if_neg (show ¬ nI (st.2 + 1) ≤ 8 by rw [e8]; exact hl)]
    dsimp only at this
    rw [if_neg hl, if_neg (by omega)] at this
    exact this
set_option maxHeartbeats 4000000 in
theorem c_sayOfItem {wh i t : Nat} (hT : gT S a g C ts st) (ho : sp_ok C) (hw : wh = 0 ∨ wh = 1) (hi : i < sp_len C wh) (ht : t < ts.length) (hl : ts.length ≤ 20) (hs4 : (sp_te ts t).1 < 4) (hf8 : st.2 ≤ 8)
    (hQ : ∀ S', gT S' a g C ts (sp_leaf (sp_te ts t).1 (sp_te ts t).2.1 (sp_v C wh i) (sp_many C wh i) st).2 → sp_fr (fun b => b = a) S S' → Q (some (.int (sp_cd (sp_leaf (sp_te ts t).1 (sp_te ts t).2.1 (sp_v C wh i) (sp_many C wh i) st).1))) S') :
    pm_N (d + 1) 50 [.ref a, .ref g, .int (nI wh), .int (nI i), .int (nI t)] S Q := by
  obtain ⟨h1, h2, h3, h4, h5, h6, h7⟩ := id hT
  have e1 := pm_ar_nI h1.1.2.2.2.2.2.1 (show t < 20 by omega) (by decide)
  have e2 := pm_ar_nI h1.1.2.2.2.2.2.2.1 (show t < 20 by omega) (by decide)
  have e3 := nI_clamp (show t < 2 ^ 31 by omega)
  have ht' := h1.2.2 t ht
  rcases hw with rfl | rfl
  · have hi : i < C.2.1.length := hi
    have hi2 : i < 40 := by have := cC_n h3 h4; omega
    have hv : sp_v C 0 i = (sp_nd C i).1 := rfl
    rw [hv] at hQ
    simp only [q50_0, q50_0N, q50_1, q50_2, q50_5, q50_8, q50_9, q50_10, q50_12, q50_13, q50_16, q50_18, q50_19, q50_21, q50_22, q50_25, q50_27, q50_28, q50_56, q50_58, q50_60, q50_61, q50_64, q50_65, q50_68, q50_69, q50_72, q50_73, q50_75, q50_76, q50_77, q50_80, q50_81, q50_82, q50_85, q50_88, q50_90, q50_92, q50_93, q50_94, q50_95, q50_98, q50_99, q50_102, q50_103, q50_106, q50_107, q50_109, q50_110, q50_112, q50_114, q50_117, q50_119, q50_120, q50_123, q50_124, q50_125, q50_128, q50_131, q50_133, q50_135, q50_136, q50_137, q50_138, q50_139, q50_140, q50_143, q50_144, q50_147, q50_148, q50_151, q50_152, q50_153, q50_156, q50_156N, q50_157, q50_158, q50_161, q50_164, q50_164N, q50_165, q50_166, q50_169, q50_170, q50_172, q50_173, q50_176, q50_177, q50_180, q50_181, q50_184, q50_e, h2.1, h2.2.1, h2.2.2.1, h2.2.2.2.1, h2.2.2.2.2.1, h2.2.2.2.2.2.1, h2.2.2.2.2.2.2.2.2.1.1, h2.2.2.2.2.2.2.2.2.1.2.1, h2.2.2.2.2.2.2.2.2.1.2.2.1, h2.2.2.2.2.2.2.2.2.1.2.2.2.1, h2.2.2.2.2.2.2.2.2.2.1.1, h2.2.2.2.2.2.2.2.2.2.1.2.1, h2.2.2.2.2.2.2.2.2.2.1.2.2.1, h2.2.2.2.2.2.2.2.2.2.1.2.2.2.1, h2.2.2.2.2.2.2.2.2.2.2.1, h2.2.2.2.2.2.2.2.2.2.2.2.1, h2.2.2.2.2.2.2.2.2.2.2.2.2.1, h2.2.2.2.2.2.2.2.2.2.2.2.2.2.1, pm_rf_some, h1.1.1, h1.1.2.1, h1.1.2.2.1, c_items h2, pm_tl_some, nI_0', show ¬ (1 : Int32) = 0 by decide, if_true, if_false, gr2 h2 hi2, gr3 h2 hi2, gr4 h2 hi2, nc4 hi2, cC_nv h3 h4 hi, e1, e2, e3, ht'.1, ht'.2.1]
    rcases (show (sp_te ts t).1 = 0 ∨ (sp_te ts t).1 = 1 ∨ (sp_te ts t).1 = 2 ∨ (sp_te ts t).1 = 3 by omega) with hs | hs | hs | hs
    · rw [hs] at hQ ⊢
      simp only [show pm_tsw (nI 0) 0 [56, 73, 107] 152 = 56 by decide, q50_0, q50_0N, q50_1, q50_2, q50_5, q50_8, q50_9, q50_10, q50_12, q50_13, q50_16, q50_18, q50_19, q50_21, q50_22, q50_25, q50_27, q50_28, q50_56, q50_58, q50_60, q50_61, q50_64, q50_65, q50_68, q50_69, q50_72, q50_73, q50_75, q50_76, q50_77, q50_80, q50_81, q50_82, q50_85, q50_88, q50_90, q50_92, q50_93, q50_94, q50_95, q50_98, q50_99, q50_102, q50_103, q50_106, q50_107, q50_109, q50_110, q50_112, q50_114, q50_117, q50_119, q50_120, q50_123, q50_124, q50_125, q50_128, q50_131, q50_133, q50_135, q50_136, q50_137, q50_138, q50_139, q50_140, q50_143, q50_144, q50_147, q50_148, q50_151, q50_152, q50_153, q50_156, q50_156N, q50_157, q50_158, q50_161, q50_164, q50_164N, q50_165, q50_166, q50_169, q50_170, q50_172, q50_173, q50_176, q50_177, q50_180, q50_181, q50_184, q50_e, c_answer, pm_tl_some, lg_cmp_le, or_true, true_or]
      simp only [sp_leaf, if_true] at hQ
      by_cases hc : (sp_te ts t).2.1 < (sp_nd C i).1
      · rw [if_neg (fun q => absurd hc (Int64.not_lt.mpr q))]
        rw [if_pos hc] at hQ
        exact hQ S hT sp_fr.rf
      · rw [if_pos (Int64.not_lt.mp hc)]
        rw [if_neg hc] at hQ
        exact hQ S hT sp_fr.rf
    · rw [hs] at hQ ⊢
      simp only [sp_leaf, show ¬ 1 = 0 by decide, if_true, if_false] at hQ
      simp only [show pm_tsw (nI 1) 0 [56, 73, 107] 152 = 73 by decide, q50_0, q50_0N, q50_1, q50_2, q50_5, q50_8, q50_9, q50_10, q50_12, q50_13, q50_16, q50_18, q50_19, q50_21, q50_22, q50_25, q50_27, q50_28, q50_56, q50_58, q50_60, q50_61, q50_64, q50_65, q50_68, q50_69, q50_72, q50_73, q50_75, q50_76, q50_77, q50_80, q50_81, q50_82, q50_85, q50_88, q50_90, q50_92, q50_93, q50_94, q50_95, q50_98, q50_99, q50_102, q50_103, q50_106, q50_107, q50_109, q50_110, q50_112, q50_114, q50_117, q50_119, q50_120, q50_123, q50_124, q50_125, q50_128, q50_131, q50_133, q50_135, q50_136, q50_137, q50_138, q50_139, q50_140, q50_143, q50_144, q50_147, q50_148, q50_151, q50_152, q50_153, q50_156, q50_156N, q50_157, q50_158, q50_161, q50_164, q50_164N, q50_165, q50_166, q50_169, q50_170, q50_172, q50_173, q50_176, q50_177, q50_180, q50_181, q50_184, q50_e, h1.1.1, pm_tl_some, lg_cmp_eq, or_true, true_or]
      by_cases hc : (sp_nd C i).1 = 0
      · simp only [if_pos hc, c_begun h1.1, pm_tl_some, q50_0, q50_0N, q50_1, q50_2, q50_5, q50_8, q50_9, q50_10, q50_12, q50_13, q50_16, q50_18, q50_19, q50_21, q50_22, q50_25, q50_27, q50_28, q50_56, q50_58, q50_60, q50_61, q50_64, q50_65, q50_68, q50_69, q50_72, q50_73, q50_75, q50_76, q50_77, q50_80, q50_81, q50_82, q50_85, q50_88, q50_90, q50_92, q50_93, q50_94, q50_95, q50_98, q50_99, q50_102, q50_103, q50_106, q50_107, q50_109, q50_110, q50_112, q50_114, q50_117, q50_119, q50_120, q50_123, q50_124, q50_125, q50_128, q50_131, q50_133, q50_135, q50_136, q50_137, q50_138, q50_139, q50_140, q50_143, q50_144, q50_147, q50_148, q50_151, q50_152, q50_153, q50_156, q50_156N, q50_157, q50_158, q50_161, q50_164, q50_164N, q50_165, q50_166, q50_169, q50_170, q50_172, q50_173, q50_176, q50_177, q50_180, q50_181, q50_184, q50_e]
        rw [if_pos hc] at hQ
        exact c_begun_q hT (Or.inl rfl) hf8 hQ
      · simp only [if_neg hc, hc, not_false_eq_true, c_answer, pm_tl_some, q50_0, q50_0N, q50_1, q50_2, q50_5, q50_8, q50_9, q50_10, q50_12, q50_13, q50_16, q50_18, q50_19, q50_21, q50_22, q50_25, q50_27, q50_28, q50_56, q50_58, q50_60, q50_61, q50_64, q50_65, q50_68, q50_69, q50_72, q50_73, q50_75, q50_76, q50_77, q50_80, q50_81, q50_82, q50_85, q50_88, q50_90, q50_92, q50_93, q50_94, q50_95, q50_98, q50_99, q50_102, q50_103, q50_106, q50_107, q50_109, q50_110, q50_112, q50_114, q50_117, q50_119, q50_120, q50_123, q50_124, q50_125, q50_128, q50_131, q50_133, q50_135, q50_136, q50_137, q50_138, q50_139, q50_140, q50_143, q50_144, q50_147, q50_148, q50_151, q50_152, q50_153, q50_156, q50_156N, q50_157, q50_158, q50_161, q50_164, q50_164N, q50_165, q50_166, q50_169, q50_170, q50_172, q50_173, q50_176, q50_177, q50_180, q50_181, q50_184, q50_e, lg_cmp_eq, or_true, true_or]
        rw [if_neg hc] at hQ
        by_cases hr : (sp_te ts t).2.1 - (sp_te ts t).2.1 / (sp_nd C i).1 * (sp_nd C i).1 = 0
        · rw [if_pos hr]
          rw [if_pos hr] at hQ
          exact hQ S hT sp_fr.rf
        · rw [if_neg hr]
          rw [if_neg hr] at hQ
          exact hQ S hT sp_fr.rf
    · rw [hs] at hQ ⊢
      simp only [sp_leaf, show ¬ 2 = 0 by decide, show ¬ 2 = 1 by decide, if_true, if_false] at hQ
      simp only [show pm_tsw (nI 2) 0 [56, 73, 107] 152 = 107 by decide, q50_0, q50_0N, q50_1, q50_2, q50_5, q50_8, q50_9, q50_10, q50_12, q50_13, q50_16, q50_18, q50_19, q50_21, q50_22, q50_25, q50_27, q50_28, q50_56, q50_58, q50_60, q50_61, q50_64, q50_65, q50_68, q50_69, q50_72, q50_73, q50_75, q50_76, q50_77, q50_80, q50_81, q50_82, q50_85, q50_88, q50_90, q50_92, q50_93, q50_94, q50_95, q50_98, q50_99, q50_102, q50_103, q50_106, q50_107, q50_109, q50_110, q50_112, q50_114, q50_117, q50_119, q50_120, q50_123, q50_124, q50_125, q50_128, q50_131, q50_133, q50_135, q50_136, q50_137, q50_138, q50_139, q50_140, q50_143, q50_144, q50_147, q50_148, q50_151, q50_152, q50_153, q50_156, q50_156N, q50_157, q50_158, q50_161, q50_164, q50_164N, q50_165, q50_166, q50_169, q50_170, q50_172, q50_173, q50_176, q50_177, q50_180, q50_181, q50_184, q50_e, h1.1.1, pm_tl_some, or_true, true_or]
      generalize hvv : (sp_nd C i).1 = vv at *
      by_cases hc : vv.toInt32 < 0
      · simp only [if_pos hc, c_begun h1.1, pm_tl_some, q50_0, q50_0N, q50_1, q50_2, q50_5, q50_8, q50_9, q50_10, q50_12, q50_13, q50_16, q50_18, q50_19, q50_21, q50_22, q50_25, q50_27, q50_28, q50_56, q50_58, q50_60, q50_61, q50_64, q50_65, q50_68, q50_69, q50_72, q50_73, q50_75, q50_76, q50_77, q50_80, q50_81, q50_82, q50_85, q50_88, q50_90, q50_92, q50_93, q50_94, q50_95, q50_98, q50_99, q50_102, q50_103, q50_106, q50_107, q50_109, q50_110, q50_112, q50_114, q50_117, q50_119, q50_120, q50_123, q50_124, q50_125, q50_128, q50_131, q50_133, q50_135, q50_136, q50_137, q50_138, q50_139, q50_140, q50_143, q50_144, q50_147, q50_148, q50_151, q50_152, q50_153, q50_156, q50_156N, q50_157, q50_158, q50_161, q50_164, q50_164N, q50_165, q50_166, q50_169, q50_170, q50_172, q50_173, q50_176, q50_177, q50_180, q50_181, q50_184, q50_e]
        rw [if_pos (Or.inl hc)] at hQ
        exact c_begun_q hT (Or.inr rfl) hf8 hQ
      · simp only [if_neg hc]
        by_cases hd : vv.toInt32 ≤ 3
        · rw [if_neg (fun q => q.elim hc (fun q => absurd q (Int32.not_lt.mpr hd)))] at hQ
          obtain ⟨j, hj, ej⟩ := nI_of hc
          have hj3 : j ≤ 3 := by
            have := hd
            rw [ej] at this
            exact (nI_le' (b := 3) hj (by decide)) ▸ this
          rw [ej, nI_clamp (by omega)] at hQ
          have hd' : nI j ≤ 3 := ej ▸ hd
          simp only [ej, hd', if_true, bl_read (show j < 64 by omega), bl_cmp, c_answer, pm_tl_some, q50_0, q50_0N, q50_1, q50_2, q50_5, q50_8, q50_9, q50_10, q50_12, q50_13, q50_16, q50_18, q50_19, q50_21, q50_22, q50_25, q50_27, q50_28, q50_56, q50_58, q50_60, q50_61, q50_64, q50_65, q50_68, q50_69, q50_72, q50_73, q50_75, q50_76, q50_77, q50_80, q50_81, q50_82, q50_85, q50_88, q50_90, q50_92, q50_93, q50_94, q50_95, q50_98, q50_99, q50_102, q50_103, q50_106, q50_107, q50_109, q50_110, q50_112, q50_114, q50_117, q50_119, q50_120, q50_123, q50_124, q50_125, q50_128, q50_131, q50_133, q50_135, q50_136, q50_137, q50_138, q50_139, q50_140, q50_143, q50_144, q50_147, q50_148, q50_151, q50_152, q50_153, q50_156, q50_156N, q50_157, q50_158, q50_161, q50_164, q50_164N, q50_165, q50_166, q50_169, q50_170, q50_172, q50_173, q50_176, q50_177, q50_180, q50_181, q50_184, q50_e, or_true, true_or]
          by_cases hb : bl (sp_te ts t).2.1 j = true
          · rw [if_pos hb]
            rw [if_pos hb] at hQ
            exact hQ S hT sp_fr.rf
          · rw [if_neg hb]
            rw [if_neg hb] at hQ
            exact hQ S hT sp_fr.rf
        · simp only [if_neg hd, c_begun h1.1, pm_tl_some, q50_0, q50_0N, q50_1, q50_2, q50_5, q50_8, q50_9, q50_10, q50_12, q50_13, q50_16, q50_18, q50_19, q50_21, q50_22, q50_25, q50_27, q50_28, q50_56, q50_58, q50_60, q50_61, q50_64, q50_65, q50_68, q50_69, q50_72, q50_73, q50_75, q50_76, q50_77, q50_80, q50_81, q50_82, q50_85, q50_88, q50_90, q50_92, q50_93, q50_94, q50_95, q50_98, q50_99, q50_102, q50_103, q50_106, q50_107, q50_109, q50_110, q50_112, q50_114, q50_117, q50_119, q50_120, q50_123, q50_124, q50_125, q50_128, q50_131, q50_133, q50_135, q50_136, q50_137, q50_138, q50_139, q50_140, q50_143, q50_144, q50_147, q50_148, q50_151, q50_152, q50_153, q50_156, q50_156N, q50_157, q50_158, q50_161, q50_164, q50_164N, q50_165, q50_166, q50_169, q50_170, q50_172, q50_173, q50_176, q50_177, q50_180, q50_181, q50_184, q50_e]
          rw [if_pos (Or.inr (Int32.not_le.mp hd))] at hQ
          exact c_begun_q hT (Or.inr rfl) hf8 hQ
    · rw [hs] at hQ ⊢
      simp only [sp_leaf, show ¬ 3 = 0 by decide, show ¬ 3 = 1 by decide, show ¬ 3 = 2 by decide, if_true, if_false] at hQ
      simp only [show pm_tsw (nI 3) 0 [56, 73, 107] 152 = 152 by decide, q50_0, q50_0N, q50_1, q50_2, q50_5, q50_8, q50_9, q50_10, q50_12, q50_13, q50_16, q50_18, q50_19, q50_21, q50_22, q50_25, q50_27, q50_28, q50_56, q50_58, q50_60, q50_61, q50_64, q50_65, q50_68, q50_69, q50_72, q50_73, q50_75, q50_76, q50_77, q50_80, q50_81, q50_82, q50_85, q50_88, q50_90, q50_92, q50_93, q50_94, q50_95, q50_98, q50_99, q50_102, q50_103, q50_106, q50_107, q50_109, q50_110, q50_112, q50_114, q50_117, q50_119, q50_120, q50_123, q50_124, q50_125, q50_128, q50_131, q50_133, q50_135, q50_136, q50_137, q50_138, q50_139, q50_140, q50_143, q50_144, q50_147, q50_148, q50_151, q50_152, q50_153, q50_156, q50_156N, q50_157, q50_158, q50_161, q50_164, q50_164N, q50_165, q50_166, q50_169, q50_170, q50_172, q50_173, q50_176, q50_177, q50_180, q50_181, q50_184, q50_e, h2.1, pm_tl_some, if_true, show ¬ (1 : Int32) = 0 by decide, if_false, c_countFromC h2 h3 h4 ho hi2, lg_cmp_lt, c_answer, or_true, true_or]
      by_cases hc : (nI (sp_many C 0 i)).toInt64 < (sp_te ts t).2.1
      · rw [if_pos hc]
        rw [if_pos hc] at hQ
        exact hQ S hT sp_fr.rf
      · rw [if_neg hc]
        rw [if_neg hc] at hQ
        exact hQ S hT sp_fr.rf
  · have hi : i < C.2.2.1.length := hi
    have hi2 : i < 120 := by have := cC_m h3 h4; omega
    have hv : sp_v C 1 i = (sp_ar C i).2.2.1 := rfl
    rw [hv] at hQ
    simp only [q50_0, q50_0N, q50_1, q50_2, q50_5, q50_8, q50_9, q50_10, q50_12, q50_13, q50_16, q50_18, q50_19, q50_21, q50_22, q50_25, q50_27, q50_28, q50_56, q50_58, q50_60, q50_61, q50_64, q50_65, q50_68, q50_69, q50_72, q50_73, q50_75, q50_76, q50_77, q50_80, q50_81, q50_82, q50_85, q50_88, q50_90, q50_92, q50_93, q50_94, q50_95, q50_98, q50_99, q50_102, q50_103, q50_106, q50_107, q50_109, q50_110, q50_112, q50_114, q50_117, q50_119, q50_120, q50_123, q50_124, q50_125, q50_128, q50_131, q50_133, q50_135, q50_136, q50_137, q50_138, q50_139, q50_140, q50_143, q50_144, q50_147, q50_148, q50_151, q50_152, q50_153, q50_156, q50_156N, q50_157, q50_158, q50_161, q50_164, q50_164N, q50_165, q50_166, q50_169, q50_170, q50_172, q50_173, q50_176, q50_177, q50_180, q50_181, q50_184, q50_e, h2.1, h2.2.1, h2.2.2.1, h2.2.2.2.1, h2.2.2.2.2.1, h2.2.2.2.2.2.1, h2.2.2.2.2.2.2.2.2.1.1, h2.2.2.2.2.2.2.2.2.1.2.1, h2.2.2.2.2.2.2.2.2.1.2.2.1, h2.2.2.2.2.2.2.2.2.1.2.2.2.1, h2.2.2.2.2.2.2.2.2.2.1.1, h2.2.2.2.2.2.2.2.2.2.1.2.1, h2.2.2.2.2.2.2.2.2.2.1.2.2.1, h2.2.2.2.2.2.2.2.2.2.1.2.2.2.1, h2.2.2.2.2.2.2.2.2.2.2.1, h2.2.2.2.2.2.2.2.2.2.2.2.1, h2.2.2.2.2.2.2.2.2.2.2.2.2.1, h2.2.2.2.2.2.2.2.2.2.2.2.2.2.1, pm_rf_some, h1.1.1, h1.1.2.1, h1.1.2.2.1, c_items h2, pm_tl_some, nI_1', show ¬ (1 : Int32) = 0 by decide, if_true, if_false, gr9 h2 hi2, gr10 h2 hi2, gr6 h2 hi2, gr7 h2 hi2, gr8 h2 hi2, nc12 hi2, (cC_ae h3 h4 hi).2.2, e1, e2, e3, ht'.1, ht'.2.1]
    rcases (show (sp_te ts t).1 = 0 ∨ (sp_te ts t).1 = 1 ∨ (sp_te ts t).1 = 2 ∨ (sp_te ts t).1 = 3 by omega) with hs | hs | hs | hs
    · rw [hs] at hQ ⊢
      simp only [show pm_tsw (nI 0) 0 [56, 73, 107] 152 = 56 by decide, q50_0, q50_0N, q50_1, q50_2, q50_5, q50_8, q50_9, q50_10, q50_12, q50_13, q50_16, q50_18, q50_19, q50_21, q50_22, q50_25, q50_27, q50_28, q50_56, q50_58, q50_60, q50_61, q50_64, q50_65, q50_68, q50_69, q50_72, q50_73, q50_75, q50_76, q50_77, q50_80, q50_81, q50_82, q50_85, q50_88, q50_90, q50_92, q50_93, q50_94, q50_95, q50_98, q50_99, q50_102, q50_103, q50_106, q50_107, q50_109, q50_110, q50_112, q50_114, q50_117, q50_119, q50_120, q50_123, q50_124, q50_125, q50_128, q50_131, q50_133, q50_135, q50_136, q50_137, q50_138, q50_139, q50_140, q50_143, q50_144, q50_147, q50_148, q50_151, q50_152, q50_153, q50_156, q50_156N, q50_157, q50_158, q50_161, q50_164, q50_164N, q50_165, q50_166, q50_169, q50_170, q50_172, q50_173, q50_176, q50_177, q50_180, q50_181, q50_184, q50_e, c_answer, pm_tl_some, lg_cmp_le, or_true, true_or]
      simp only [sp_leaf, if_true] at hQ
      by_cases hc : (sp_te ts t).2.1 < (sp_ar C i).2.2.1
      · rw [if_neg (fun q => absurd hc (Int64.not_lt.mpr q))]
        rw [if_pos hc] at hQ
        exact hQ S hT sp_fr.rf
      · rw [if_pos (Int64.not_lt.mp hc)]
        rw [if_neg hc] at hQ
        exact hQ S hT sp_fr.rf
    · rw [hs] at hQ ⊢
      simp only [sp_leaf, show ¬ 1 = 0 by decide, if_true, if_false] at hQ
      simp only [show pm_tsw (nI 1) 0 [56, 73, 107] 152 = 73 by decide, q50_0, q50_0N, q50_1, q50_2, q50_5, q50_8, q50_9, q50_10, q50_12, q50_13, q50_16, q50_18, q50_19, q50_21, q50_22, q50_25, q50_27, q50_28, q50_56, q50_58, q50_60, q50_61, q50_64, q50_65, q50_68, q50_69, q50_72, q50_73, q50_75, q50_76, q50_77, q50_80, q50_81, q50_82, q50_85, q50_88, q50_90, q50_92, q50_93, q50_94, q50_95, q50_98, q50_99, q50_102, q50_103, q50_106, q50_107, q50_109, q50_110, q50_112, q50_114, q50_117, q50_119, q50_120, q50_123, q50_124, q50_125, q50_128, q50_131, q50_133, q50_135, q50_136, q50_137, q50_138, q50_139, q50_140, q50_143, q50_144, q50_147, q50_148, q50_151, q50_152, q50_153, q50_156, q50_156N, q50_157, q50_158, q50_161, q50_164, q50_164N, q50_165, q50_166, q50_169, q50_170, q50_172, q50_173, q50_176, q50_177, q50_180, q50_181, q50_184, q50_e, h1.1.1, pm_tl_some, lg_cmp_eq, or_true, true_or]
      by_cases hc : (sp_ar C i).2.2.1 = 0
      · simp only [if_pos hc, c_begun h1.1, pm_tl_some, q50_0, q50_0N, q50_1, q50_2, q50_5, q50_8, q50_9, q50_10, q50_12, q50_13, q50_16, q50_18, q50_19, q50_21, q50_22, q50_25, q50_27, q50_28, q50_56, q50_58, q50_60, q50_61, q50_64, q50_65, q50_68, q50_69, q50_72, q50_73, q50_75, q50_76, q50_77, q50_80, q50_81, q50_82, q50_85, q50_88, q50_90, q50_92, q50_93, q50_94, q50_95, q50_98, q50_99, q50_102, q50_103, q50_106, q50_107, q50_109, q50_110, q50_112, q50_114, q50_117, q50_119, q50_120, q50_123, q50_124, q50_125, q50_128, q50_131, q50_133, q50_135, q50_136, q50_137, q50_138, q50_139, q50_140, q50_143, q50_144, q50_147, q50_148, q50_151, q50_152, q50_153, q50_156, q50_156N, q50_157, q50_158, q50_161, q50_164, q50_164N, q50_165, q50_166, q50_169, q50_170, q50_172, q50_173, q50_176, q50_177, q50_180, q50_181, q50_184, q50_e]
        rw [if_pos hc] at hQ
        exact c_begun_q hT (Or.inl rfl) hf8 hQ
      · simp only [if_neg hc, hc, not_false_eq_true, c_answer, pm_tl_some, q50_0, q50_0N, q50_1, q50_2, q50_5, q50_8, q50_9, q50_10, q50_12, q50_13, q50_16, q50_18, q50_19, q50_21, q50_22, q50_25, q50_27, q50_28, q50_56, q50_58, q50_60, q50_61, q50_64, q50_65, q50_68, q50_69, q50_72, q50_73, q50_75, q50_76, q50_77, q50_80, q50_81, q50_82, q50_85, q50_88, q50_90, q50_92, q50_93, q50_94, q50_95, q50_98, q50_99, q50_102, q50_103, q50_106, q50_107, q50_109, q50_110, q50_112, q50_114, q50_117, q50_119, q50_120, q50_123, q50_124, q50_125, q50_128, q50_131, q50_133, q50_135, q50_136, q50_137, q50_138, q50_139, q50_140, q50_143, q50_144, q50_147, q50_148, q50_151, q50_152, q50_153, q50_156, q50_156N, q50_157, q50_158, q50_161, q50_164, q50_164N, q50_165, q50_166, q50_169, q50_170, q50_172, q50_173, q50_176, q50_177, q50_180, q50_181, q50_184, q50_e, lg_cmp_eq, or_true, true_or]
        rw [if_neg hc] at hQ
        by_cases hr : (sp_te ts t).2.1 - (sp_te ts t).2.1 / (sp_ar C i).2.2.1 * (sp_ar C i).2.2.1 = 0
        · rw [if_pos hr]
          rw [if_pos hr] at hQ
          exact hQ S hT sp_fr.rf
        · rw [if_neg hr]
          rw [if_neg hr] at hQ
          exact hQ S hT sp_fr.rf
    · rw [hs] at hQ ⊢
      simp only [sp_leaf, show ¬ 2 = 0 by decide, show ¬ 2 = 1 by decide, if_true, if_false] at hQ
      simp only [show pm_tsw (nI 2) 0 [56, 73, 107] 152 = 107 by decide, q50_0, q50_0N, q50_1, q50_2, q50_5, q50_8, q50_9, q50_10, q50_12, q50_13, q50_16, q50_18, q50_19, q50_21, q50_22, q50_25, q50_27, q50_28, q50_56, q50_58, q50_60, q50_61, q50_64, q50_65, q50_68, q50_69, q50_72, q50_73, q50_75, q50_76, q50_77, q50_80, q50_81, q50_82, q50_85, q50_88, q50_90, q50_92, q50_93, q50_94, q50_95, q50_98, q50_99, q50_102, q50_103, q50_106, q50_107, q50_109, q50_110, q50_112, q50_114, q50_117, q50_119, q50_120, q50_123, q50_124, q50_125, q50_128, q50_131, q50_133, q50_135, q50_136, q50_137, q50_138, q50_139, q50_140, q50_143, q50_144, q50_147, q50_148, q50_151, q50_152, q50_153, q50_156, q50_156N, q50_157, q50_158, q50_161, q50_164, q50_164N, q50_165, q50_166, q50_169, q50_170, q50_172, q50_173, q50_176, q50_177, q50_180, q50_181, q50_184, q50_e, h1.1.1, pm_tl_some, or_true, true_or]
      generalize hvv : (sp_ar C i).2.2.1 = vv at *
      by_cases hc : vv.toInt32 < 0
      · simp only [if_pos hc, c_begun h1.1, pm_tl_some, q50_0, q50_0N, q50_1, q50_2, q50_5, q50_8, q50_9, q50_10, q50_12, q50_13, q50_16, q50_18, q50_19, q50_21, q50_22, q50_25, q50_27, q50_28, q50_56, q50_58, q50_60, q50_61, q50_64, q50_65, q50_68, q50_69, q50_72, q50_73, q50_75, q50_76, q50_77, q50_80, q50_81, q50_82, q50_85, q50_88, q50_90, q50_92, q50_93, q50_94, q50_95, q50_98, q50_99, q50_102, q50_103, q50_106, q50_107, q50_109, q50_110, q50_112, q50_114, q50_117, q50_119, q50_120, q50_123, q50_124, q50_125, q50_128, q50_131, q50_133, q50_135, q50_136, q50_137, q50_138, q50_139, q50_140, q50_143, q50_144, q50_147, q50_148, q50_151, q50_152, q50_153, q50_156, q50_156N, q50_157, q50_158, q50_161, q50_164, q50_164N, q50_165, q50_166, q50_169, q50_170, q50_172, q50_173, q50_176, q50_177, q50_180, q50_181, q50_184, q50_e]
        rw [if_pos (Or.inl hc)] at hQ
        exact c_begun_q hT (Or.inr rfl) hf8 hQ
      · simp only [if_neg hc]
        by_cases hd : vv.toInt32 ≤ 3
        · rw [if_neg (fun q => q.elim hc (fun q => absurd q (Int32.not_lt.mpr hd)))] at hQ
          obtain ⟨j, hj, ej⟩ := nI_of hc
          have hj3 : j ≤ 3 := by
            have := hd
            rw [ej] at this
            exact (nI_le' (b := 3) hj (by decide)) ▸ this
          rw [ej, nI_clamp (by omega)] at hQ
          have hd' : nI j ≤ 3 := ej ▸ hd
          simp only [ej, hd', if_true, bl_read (show j < 64 by omega), bl_cmp, c_answer, pm_tl_some, q50_0, q50_0N, q50_1, q50_2, q50_5, q50_8, q50_9, q50_10, q50_12, q50_13, q50_16, q50_18, q50_19, q50_21, q50_22, q50_25, q50_27, q50_28, q50_56, q50_58, q50_60, q50_61, q50_64, q50_65, q50_68, q50_69, q50_72, q50_73, q50_75, q50_76, q50_77, q50_80, q50_81, q50_82, q50_85, q50_88, q50_90, q50_92, q50_93, q50_94, q50_95, q50_98, q50_99, q50_102, q50_103, q50_106, q50_107, q50_109, q50_110, q50_112, q50_114, q50_117, q50_119, q50_120, q50_123, q50_124, q50_125, q50_128, q50_131, q50_133, q50_135, q50_136, q50_137, q50_138, q50_139, q50_140, q50_143, q50_144, q50_147, q50_148, q50_151, q50_152, q50_153, q50_156, q50_156N, q50_157, q50_158, q50_161, q50_164, q50_164N, q50_165, q50_166, q50_169, q50_170, q50_172, q50_173, q50_176, q50_177, q50_180, q50_181, q50_184, q50_e, or_true, true_or]
          by_cases hb : bl (sp_te ts t).2.1 j = true
          · rw [if_pos hb]
            rw [if_pos hb] at hQ
            exact hQ S hT sp_fr.rf
          · rw [if_neg hb]
            rw [if_neg hb] at hQ
            exact hQ S hT sp_fr.rf
        · simp only [if_neg hd, c_begun h1.1, pm_tl_some, q50_0, q50_0N, q50_1, q50_2, q50_5, q50_8, q50_9, q50_10, q50_12, q50_13, q50_16, q50_18, q50_19, q50_21, q50_22, q50_25, q50_27, q50_28, q50_56, q50_58, q50_60, q50_61, q50_64, q50_65, q50_68, q50_69, q50_72, q50_73, q50_75, q50_76, q50_77, q50_80, q50_81, q50_82, q50_85, q50_88, q50_90, q50_92, q50_93, q50_94, q50_95, q50_98, q50_99, q50_102, q50_103, q50_106, q50_107, q50_109, q50_110, q50_112, q50_114, q50_117, q50_119, q50_120, q50_123, q50_124, q50_125, q50_128, q50_131, q50_133, q50_135, q50_136, q50_137, q50_138, q50_139, q50_140, q50_143, q50_144, q50_147, q50_148, q50_151, q50_152, q50_153, q50_156, q50_156N, q50_157, q50_158, q50_161, q50_164, q50_164N, q50_165, q50_166, q50_169, q50_170, q50_172, q50_173, q50_176, q50_177, q50_180, q50_181, q50_184, q50_e]
          rw [if_pos (Or.inr (Int32.not_le.mp hd))] at hQ
          exact c_begun_q hT (Or.inr rfl) hf8 hQ
    · rw [hs] at hQ ⊢
      simp only [sp_leaf, show ¬ 3 = 0 by decide, show ¬ 3 = 1 by decide, show ¬ 3 = 2 by decide, if_true, if_false] at hQ
      simp only [show pm_tsw (nI 3) 0 [56, 73, 107] 152 = 152 by decide, q50_0, q50_0N, q50_1, q50_2, q50_5, q50_8, q50_9, q50_10, q50_12, q50_13, q50_16, q50_18, q50_19, q50_21, q50_22, q50_25, q50_27, q50_28, q50_56, q50_58, q50_60, q50_61, q50_64, q50_65, q50_68, q50_69, q50_72, q50_73, q50_75, q50_76, q50_77, q50_80, q50_81, q50_82, q50_85, q50_88, q50_90, q50_92, q50_93, q50_94, q50_95, q50_98, q50_99, q50_102, q50_103, q50_106, q50_107, q50_109, q50_110, q50_112, q50_114, q50_117, q50_119, q50_120, q50_123, q50_124, q50_125, q50_128, q50_131, q50_133, q50_135, q50_136, q50_137, q50_138, q50_139, q50_140, q50_143, q50_144, q50_147, q50_148, q50_151, q50_152, q50_153, q50_156, q50_156N, q50_157, q50_158, q50_161, q50_164, q50_164N, q50_165, q50_166, q50_169, q50_170, q50_172, q50_173, q50_176, q50_177, q50_180, q50_181, q50_184, q50_e, h2.1, pm_tl_some, if_true, show ¬ (1 : Int32) = 0 by decide, if_false, c_countBeside h2 h3 h4 ho hi, lg_cmp_lt, c_answer, or_true, true_or]
      by_cases hc : (nI (sp_many C 1 i)).toInt64 < (sp_te ts t).2.1
      · rw [if_pos hc]
        rw [if_pos hc] at hQ
        exact hQ S hT sp_fr.rf
      · rw [if_neg hc]
        rw [if_neg hc] at hQ
        exact hQ S hT sp_fr.rf
end
