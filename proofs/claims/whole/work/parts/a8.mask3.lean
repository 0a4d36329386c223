/-! ===== THE REFERENCE: asked, as the tests say ===== -/
section
variable {S0 S S' S'' : pm_T} {m a g n k d j e t u c i p wh sg : Nat} {C : sp_C} {ts : List sp_Te} {st st' : Nat × Nat} {Q : Option Value → pm_T → Prop} {v : Int64} {x y ar z : Int32} {l2 l3 : Value}
/-- the answer's end: the pile is one lower, or it is all over -/
def kE (S0 S : pm_T) (m a p d : Nat) (l2 l3 : Value) (z : Int32) (Q : Option Value → pm_T → Prop) (res : Nat × (Nat × Nat)) : Prop := ∀ S', aS S0 S' m res.2 → pk S S' m p → (res.1 ≠ 15 → pm_gi S' m 35 = nI p) → (if res.1 = 15 then Q (some (.int 15)) S' else pm_V (d + 4) 122 16 [.ref m, .int (nI a), l2, l3, .int z, .int (nI res.1)] [] S' Q)
/-- a test on the pile is asked -/
def kK (S0 : pm_T) (m a d : Nat) (C : sp_C) (ts : List sp_Te) (l2 l3 : Value) (z : Int32) (Q : Option Value → pm_T → Prop) (n : Nat) : Prop := ∀ wh i t st S p x, t < n → t < ts.length → p + t < 20 → (wh = 0 ∨ wh = 1) → i < sp_len C wh → st.1 ≤ 2000 → st.2 ≤ 8 → aS S0 S m st → pm_gi S m 35 = nI (p + 1) → pe S m p t wh i 0 (-1) → x < 0 → kE S0 S m a p d l2 l3 z Q (sp_say C ts n wh i t st) → pm_V (d + 4) 122 16 [.ref m, .int (nI a), l2, l3, .int z, .int x] [] S Q
theorem kE_k {S' : pm_T} {res : Nat × (Nat × Nat)} (h : kE S0 S m a p d l2 l3 z Q res) (hk : pk S S' m p) : kE S0 S' m a p d l2 l3 z Q res := fun S2 q1 q2 q3 => h S2 q1 (pil_tr hk q2) q3
/-- an answer below 15 ends it -/
theorem kE_end {r : Nat} (hS : aS S0 S m st) (h35 : pm_gi S m 35 = nI (p + 1)) (hr : r < 100) (h : kE S0 S m a p d l2 l3 z Q (r, st)) : pm_V (d + 4) 122 43 [.ref m, .int (nI a), l2, l3, .int z, .int x] [.int (nI r)] S Q := by
  by_cases e : r = 15
  · subst e
    have := h S hS pil_rf (fun q => absurd rfl q)
    rw [if_pos rfl] at this
    rw [m_after hS.1, if_pos (show nI 15 = 15 from rfl)]
    exact this
  · rw [m_after_1 hS.1 e hr h35]
    obtain ⟨q1, q2⟩ := aS_pop (p := p) (k := p) hS
    have := h _ q1 q2 (fun _ => ps_gi_self)
    rw [if_neg e] at this
    exact this
/-- the loop's head, with an answer: the pile's top goes on -/
theorem m_head_go {r : Nat} (hM : sM S m) (h35 : pm_gi S m 35 = nI (p + 1)) (hp : p < 100) (hr : r < 100) : pm_V (d + 4) 122 16 [.ref m, .int (nI a), l2, l3, .int z, .int (nI r)] [] S Q = pm_N (d + 3) 127 [.ref m, .int (nI a), .int (nI r)] S (fun r' S' => pm_V (d + 4) 122 43 [.ref m, .int (nI a), l2, l3, .int z, .int (nI r)] (r'.toList ++ []) S' Q) := by
  have e1 : ¬ nI (p + 1) ≤ 0 := by rw [nI_le0 (by omega)]; omega
  have e2 : ¬ nI r < 0 := k2_nlt (nI_pos' (by omega))
  rw [q122_16]
  simp only [q122_0, q122_1, q122_2, q122_5, q122_6, q122_8, q122_9, q122_10, q122_13, q122_14, q122_17, q122_20, q122_23, q122_25, q122_28, q122_29, q122_30, q122_33, q122_36, q122_37, q122_38, q122_40, q122_45, q122_47, q122_49, q122_52, q122_54, q122_55, q122_56, q122_57, q122_60, q122_62, q122_65, q122_66, q122_69, q122_70, q122_71, q122_74, q122_77, q122_79, q122_e, sM_0 hM, h35, e1, e2, if_false]
theorem m_head_b (hM : sM S m) (h35 : pm_gi S m 35 = nI (p + 1)) (hp : p < 100) (hx : x < 0) : pm_V (d + 4) 122 16 [.ref m, .int (nI a), l2, l3, .int z, .int x] [] S Q = pm_N (d + 3) 124 [.ref m, .int (nI a)] S (fun r' S' => pm_V (d + 4) 122 43 [.ref m, .int (nI a), l2, l3, .int z, .int x] (r'.toList ++ []) S' Q) := by
  have e1 : ¬ nI (p + 1) ≤ 0 := by rw [nI_le0 (by omega)]; omega
  rw [q122_16]
  simp only [q122_0, q122_1, q122_2, q122_5, q122_6, q122_8, q122_9, q122_10, q122_13, q122_14, q122_17, q122_20, q122_23, q122_25, q122_28, q122_29, q122_30, q122_33, q122_36, q122_37, q122_38, q122_40, q122_45, q122_47, q122_49, q122_52, q122_54, q122_55, q122_56, q122_57, q122_60, q122_62, q122_65, q122_66, q122_69, q122_70, q122_71, q122_74, q122_77, q122_79, q122_e, sM_0 hM, h35, e1, hx, if_false, if_true]
/-! goesOn -/
set_option maxHeartbeats 1000000 in
/-- said on, or mended, or turned -/
theorem m_go_r {r r' : Nat} (hX : aX S0 m a C ts) (hS : aS S0 S m st) (hp : p < 23) (h35 : pm_gi S m 35 = nI (p + 1)) (hpe : pe S m p t wh i sg ar) (ht : t < ts.length) (hs : 4 ≤ (sp_te ts t).1 ∧ (sp_te ts t).1 ≤ 8) (hr : r = 0 ∨ r = 1 ∨ r = 11 ∨ r = 12) (hw : wh = 0 ∨ wh = 1) (hsg : sg = 1 ∨ sg = 2)
    (hc : if 10 ≤ r then r' = (if (sp_te ts t).1 = 7 then 0 else r) else if (sp_te ts t).1 = 4 then r' = 1 - r else r' = r ∧ ¬ ((sp_te ts t).1 = 5 ∧ sg = 1 ∧ r = 1) ∧ ¬ ((sp_te ts t).1 = 6 ∧ sg = 1 ∧ r = 0) ∧ ¬ ((sp_te ts t).1 = 8 ∧ wh = 0 ∧ r = 0)) : pm_N (d + 3) 127 [.ref m, .int (nI a), .int (nI r)] S Q = Q (some (.int (nI r'))) S := by
  have hM := hS.1
  have h20 := aX_20 hX
  have hp' : p < 24 := by omega
  have tt := aS_t hX hS ht
  obtain ⟨q1, q2, q3, q4, q5⟩ := hpe
  have z4 : (nI (sp_te ts t).1 = 4) = ((sp_te ts t).1 = 4) := nI_e' (b := 4) (by omega) (by decide)
  have z5 : (nI (sp_te ts t).1 = 5) = ((sp_te ts t).1 = 5) := nI_e' (b := 5) (by omega) (by decide)
  have z6 : (nI (sp_te ts t).1 = 6) = ((sp_te ts t).1 = 6) := nI_e' (b := 6) (by omega) (by decide)
  have z7 : (nI (sp_te ts t).1 = 7) = ((sp_te ts t).1 = 7) := nI_e' (b := 7) (by omega) (by decide)
  have z8 : (nI (sp_te ts t).1 = 8) = ((sp_te ts t).1 = 8) := nI_e' (b := 8) (by omega) (by decide)
  have s1 : (nI sg = 1) = (sg = 1) := nI_e' (b := 1) (by omega) (by decide)
  have w0 : (nI wh = 0) = (wh = 0) := nI_e' (b := 0) (by omega) (by decide)
  simp only [q127_0, q127_1, q127_4, q127_5, q127_6, q127_7, q127_8, q127_11, q127_12, q127_13, q127_15, q127_16, q127_19, q127_21, q127_22, q127_24, q127_25, q127_27, q127_30, q127_32, q127_34, q127_37, q127_38, q127_40, q127_43, q127_44, q127_46, q127_49, q127_50, q127_53, q127_54, q127_55, q127_57, q127_58, q127_61, q127_62, q127_63, q127_64, q127_65, q127_67, q127_68, q127_71, q127_73, q127_75, q127_78, q127_79, q127_82, q127_83, q127_84, q127_85, q127_88, q127_89, q127_91, q127_92, q127_95, q127_96, q127_99, q127_100, q127_103, q127_104, q127_107, q127_108, q127_109, q127_110, q127_111, q127_112, q127_115, q127_117, q127_118, q127_119, q127_122, q127_123, q127_124, q127_125, q127_128, q127_129, q127_130, q127_133, q127_134, q127_135, q127_137, q127_139, q127_142, q127_143, q127_146, q127_147, q127_148, q127_151, q127_152, q127_155, q127_156, q127_157, q127_158, q127_161, q127_164, q127_165, q127_e, sM_0 hM, h35, nI_s1, sM_r36 hM, sM_r24 hM, sM_r39 hM, sM_r37 hM, pm_rf_some, ar28 hM hp', ar29 hM hp', ar31 hM hp', nc24 hp', q1, q2, q4, ar22 hM (show t < 20 by omega), nI_clamp (show t < 2 ^ 31 by omega), tt.1, z4, z5, z6, z7, z8, s1, w0]
  rcases hr with rfl | rfl | rfl | rfl
  · rw [if_neg (by decide)] at hc
    simp only [show nI 0 < 10 by decide, if_true, show ¬ nI 0 = 1 by decide, show nI 0 = 0 by decide, show ¬ (0 : Int32) = 1 by decide, if_false]
    by_cases h4 : (sp_te ts t).1 = 4
    · rw [if_pos h4] at hc; rw [if_pos h4, hc]; rfl
    · rw [if_neg h4] at hc
      rw [if_neg h4]
      obtain ⟨rfl, c1, c2, c3⟩ := hc
      by_cases h5 : (sp_te ts t).1 = 5
      · have h8 : ¬ (sp_te ts t).1 = 8 := by omega
        simp only [h5, if_true, show ¬ (5 : Nat) = 8 by decide, if_false, ite_self]
        rfl
      · by_cases h6 : (sp_te ts t).1 = 6
        · have : ¬ sg = 1 := fun q => c2 ⟨h6, q, rfl⟩
          simp only [h5, h6, if_false, if_true, this, show ¬ (6 : Nat) = 8 by decide, show ¬ (6 : Nat) = 5 by decide]
          rfl
        · simp only [h5, h6, if_false]
          by_cases h8 : (sp_te ts t).1 = 8
          · have : ¬ wh = 0 := fun q => c3 ⟨h8, q, rfl⟩
            simp only [h8, if_true, this, if_false]
            rfl
          · simp only [h8, if_false]
            rfl
  · rw [if_neg (by decide)] at hc
    simp only [show nI 1 < 10 by decide, if_true, show nI 1 = 1 by decide, show ¬ (1 : Int32) = 0 by decide, if_false]
    by_cases h4 : (sp_te ts t).1 = 4
    · rw [if_pos h4] at hc; rw [if_pos h4, hc]; rfl
    · rw [if_neg h4] at hc
      rw [if_neg h4]
      obtain ⟨rfl, c1, c2, c3⟩ := hc
      by_cases h5 : (sp_te ts t).1 = 5
      · have : ¬ sg = 1 := fun q => c1 ⟨h5, q, rfl⟩
        simp only [h5, if_true, this, if_false, show ¬ (5 : Nat) = 8 by decide]
        rfl
      · by_cases h6 : (sp_te ts t).1 = 6
        · simp only [h5, h6, if_false, if_true, show ¬ (6 : Nat) = 8 by decide, show ¬ (6 : Nat) = 5 by decide, ite_self]
          rfl
        · simp only [h5, h6, if_false, ite_self]
          rfl
  · rw [if_pos (by decide)] at hc
    rw [hc]
    simp only [show ¬ nI 11 < 10 by decide, if_false, show nI 11 = 11 by decide, if_true]
    by_cases h7 : (sp_te ts t).1 = 7
    · simp only [h7, if_true]; rfl
    · simp only [h7, if_false]; rfl
  · rw [if_pos (by decide)] at hc
    rw [hc]
    simp only [show ¬ nI 12 < 10 by decide, if_false, show ¬ nI 12 = 11 by decide, show nI 12 = 12 by decide, if_true]
    by_cases h7 : (sp_te ts t).1 = 7
    · simp only [h7, if_true, show ¬ (12 : Int32) = 11 by decide, if_false]; rfl
    · simp only [h7, if_false]; rfl
set_option maxHeartbeats 1000000 in
/-- the second part -/
theorem m_go_u {r : Nat} (hX : aX S0 m a C ts) (hS : aS S0 S m st) (hp : p < 23) (h35 : pm_gi S m 35 = nI (p + 1)) (hpe : pe S m p t wh i 1 ar) (ht : t < ts.length) (hc : (sp_te ts t).1 = 5 ∧ r = 1 ∨ (sp_te ts t).1 = 6 ∧ r = 0) : pm_N (d + 3) 127 [.ref m, .int (nI a), .int (nI r)] S Q = Q (some (.int (-1))) (fM_push (pm_szi S (m + 31) p 2) m (p + 1) (sp_te ts t).2.2.2 (nI wh) (nI i)) := by
  have hM := hS.1
  have h20 := aX_20 hX
  have hp' : p < 24 := by omega
  have tt := aS_t hX hS ht
  obtain ⟨q1, q2, q3, q4, q5⟩ := hpe
  have hM' : sM (pm_szi S (m + 31) p 2) m := hM
  simp only [q127_0, q127_1, q127_4, q127_5, q127_6, q127_7, q127_8, q127_11, q127_12, q127_13, q127_15, q127_16, q127_19, q127_21, q127_22, q127_24, q127_25, q127_27, q127_30, q127_32, q127_34, q127_37, q127_38, q127_40, q127_43, q127_44, q127_46, q127_49, q127_50, q127_53, q127_54, q127_55, q127_57, q127_58, q127_61, q127_62, q127_63, q127_64, q127_65, q127_67, q127_68, q127_71, q127_73, q127_75, q127_78, q127_79, q127_82, q127_83, q127_84, q127_85, q127_88, q127_89, q127_91, q127_92, q127_95, q127_96, q127_99, q127_100, q127_103, q127_104, q127_107, q127_108, q127_109, q127_110, q127_111, q127_112, q127_115, q127_117, q127_118, q127_119, q127_122, q127_123, q127_124, q127_125, q127_128, q127_129, q127_130, q127_133, q127_134, q127_135, q127_137, q127_139, q127_142, q127_143, q127_146, q127_147, q127_148, q127_151, q127_152, q127_155, q127_156, q127_157, q127_158, q127_161, q127_164, q127_165, q127_e, sM_0 hM, h35, nI_s1, sM_r36 hM, sM_r24 hM, sM_r39 hM, sM_r37 hM, sM_r38 hM, sM_r27 hM, pm_rf_some, ar28 hM hp', ar29 hM hp', ar30 hM hp', ar31 hM hp', nc24 hp', q1, q2, q3, q4, ar22 hM (show t < 20 by omega), ar25 hM (show t < 20 by omega), nI_clamp (show t < 2 ^ 31 by omega), tt.1, tt.2.2.2, ps_gi_nx, ps_gi_sz, ps_gi_sh, ps_gi_gi, ps_gi_gl, ps_gi_gr, ps_gi_zi, ps_gi_zl, ps_gi_zr, ps_gi_ar, ps_gi_al, ps_gl_nx, ps_gl_sz, ps_gl_sh, ps_gl_gi, ps_gl_gl, ps_gl_gr, ps_gl_zi, ps_gl_zl, ps_gl_zr, ps_gl_ar, ps_gl_al, ps_gr_nx, ps_gr_sz, ps_gr_sh, ps_gr_gi, ps_gr_gl, ps_gr_gr, ps_gr_zi, ps_gr_zl, ps_gr_zr, ps_gr_ar, ps_gr_al, ps_zi_nx, ps_zi_sz, ps_zi_sh, ps_zi_gi, ps_zi_gl, ps_zi_gr, ps_zi_zi, ps_zi_zl, ps_zi_zr, ps_zi_ar, ps_zi_al, ps_zl_nx, ps_zl_sz, ps_zl_sh, ps_zl_gi, ps_zl_gl, ps_zl_gr, ps_zl_zi, ps_zl_zl, ps_zl_zr, ps_zl_ar, ps_zl_al, ps_zr_nx, ps_zr_sz, ps_zr_sh, ps_zr_gi, ps_zr_gl, ps_zr_gr, ps_zr_zi, ps_zr_zl, ps_zr_zr, ps_zr_ar, ps_zr_al, pm_rf_some, pm_rf_none, pm_tl_some, pm_tl_none, show ¬ (m + 25 = m + 31) by omega, show ¬ (m + 29 = m + 31) by omega, show ¬ (m + 30 = m + 31) by omega, false_and, if_false, m_push hM' (show p + 1 < 24 by omega) h35, pm_tl_none]
  rcases hc with ⟨h5, rfl⟩ | ⟨h6, rfl⟩
  · rw [h5]
    simp only [show nI 1 < 10 by decide, if_true, show ¬ nI 5 = 4 by decide, if_false, show nI 5 = 5 by decide, show nI 1 = 1 by decide, show (1 : Int32) < 10 by decide, show ¬ (5 : Int32) = 4 by decide]
  · rw [h6]
    simp only [show nI 0 < 10 by decide, if_true, show ¬ nI 6 = 4 by decide, if_false, show ¬ nI 6 = 5 by decide, show nI 6 = 6 by decide, show nI 1 = 1 by decide, show nI 0 = 0 by decide, show (0 : Int32) < 10 by decide, show ¬ (6 : Int32) = 4 by decide, show ¬ (6 : Int32) = 5 by decide]
set_option maxHeartbeats 1000000 in
/-- the next arc -/
theorem m_go_n (hX : aX S0 m a C ts) (hS : aS S0 S m st) (hp : p < 23) (h35 : pm_gi S m 35 = nI (p + 1)) (hpe : pe S m p t 0 i sg ar) (ht : t < ts.length) (hc : (sp_te ts t).1 = 8) : pm_N (d + 3) 127 [.ref m, .int (nI a), .int (nI 0)] S Q = pm_N (d + 2) 125 [.ref m, .int (nI a), .int (nI p)] S (fun r S' => pm_V (d + 3) 127 165 [.ref m, .int (nI a), .int (nI 0), .int (nI p), .int (nI t), .int (nI 8)] (r.toList ++ []) S' Q) := by
  have hM := hS.1
  have h20 := aX_20 hX
  have hp' : p < 24 := by omega
  have tt := aS_t hX hS ht
  obtain ⟨q1, q2, q3, q4, q5⟩ := hpe
  simp only [q127_0, q127_1, q127_4, q127_5, q127_6, q127_7, q127_8, q127_11, q127_12, q127_13, q127_15, q127_16, q127_19, q127_21, q127_22, q127_24, q127_25, q127_27, q127_30, q127_32, q127_34, q127_37, q127_38, q127_40, q127_43, q127_44, q127_46, q127_49, q127_50, q127_53, q127_54, q127_55, q127_57, q127_58, q127_61, q127_62, q127_63, q127_64, q127_65, q127_67, q127_68, q127_71, q127_73, q127_75, q127_78, q127_79, q127_82, q127_83, q127_84, q127_85, q127_88, q127_89, q127_91, q127_92, q127_95, q127_96, q127_99, q127_100, q127_103, q127_104, q127_107, q127_108, q127_109, q127_110, q127_111, q127_112, q127_115, q127_117, q127_118, q127_119, q127_122, q127_123, q127_124, q127_125, q127_128, q127_129, q127_130, q127_133, q127_134, q127_135, q127_137, q127_139, q127_142, q127_143, q127_146, q127_147, q127_148, q127_151, q127_152, q127_155, q127_156, q127_157, q127_158, q127_161, q127_164, q127_e, sM_0 hM, h35, nI_s1, sM_r36 hM, sM_r24 hM, sM_r37 hM, pm_rf_some, ar28 hM hp', ar29 hM hp', nc24 hp', q1, q2, ar22 hM (show t < 20 by omega), nI_clamp (show t < 2 ^ 31 by omega), tt.1, hc, show nI 0 < 10 by decide, if_true, show ¬ nI 8 = 4 by decide, show ¬ nI 8 = 5 by decide, show ¬ nI 8 = 6 by decide, if_false, show nI 8 = 8 by decide, show nI 0 = 0 by decide, show (0 : Int32) < 10 by decide, show ¬ (8 : Int32) = 4 by decide, show ¬ (8 : Int32) = 5 by decide, show ¬ (8 : Int32) = 6 by decide]
end
