/-! ===== THE REFERENCE: asked, as the tests say ===== -/
section
variable {S0 S S' S'' : pm_T} {m a g n k d j e t u c i p wh sg : Nat} {C : sp_C} {ts : List sp_Te} {st st' : Nat × Nat} {Q : Option Value → pm_T → Prop} {v : Int64} {x y ar z : Int32} {l2 l3 : Value}
/-- the answer's end: the pile is one lower, or it is all over -/
def kE (S0 S : pm_T) (m a p d : Nat) (l2 l3 : Value) (z : Int32) (Q : Option Value → pm_T → Prop) (res : Nat × (Nat × Nat)) : Prop := ∀ S', aS S0 S' m res.2 → pk S S' m p → (res.1 ≠ 15 → pm_gi S' m 35 = nI p) → (if res.1 = 15 then Q (some (.int 15)) S' else pm_V (d + 4) 123 16 [.ref m, .int (nI a), l2, l3, .int z, .int (nI res.1)] [] S' Q)
/-- a test on the pile is asked -/
def kK (S0 : pm_T) (m a d : Nat) (C : sp_C) (ts : List sp_Te) (l2 l3 : Value) (z : Int32) (Q : Option Value → pm_T → Prop) (n : Nat) : Prop := ∀ wh i t st S p x, t < n → t < ts.length → p + t < 20 → (wh = 0 ∨ wh = 1) → i < sp_len C wh → st.1 ≤ 2000 → st.2 ≤ 8 → aS S0 S m st → pm_gi S m 35 = nI (p + 1) → pe S m p t wh i 0 (-1) → x < 0 → kE S0 S m a p d l2 l3 z Q (sp_say C ts n wh i t st) → pm_V (d + 4) 123 16 [.ref m, .int (nI a), l2, l3, .int z, .int x] [] S Q
theorem kE_k {S' : pm_T} {res : Nat × (Nat × Nat)} (h : kE S0 S m a p d l2 l3 z Q res) (hk : pk S S' m p) : kE S0 S' m a p d l2 l3 z Q res := fun S2 q1 q2 q3 => h S2 q1 (pil_tr hk q2) q3
/-- an answer below 15 ends it -/
theorem kE_end {r : Nat} (hS : aS S0 S m st) (h35 : pm_gi S m 35 = nI (p + 1)) (hr : r < 100) (h : kE S0 S m a p d l2 l3 z Q (r, st)) : pm_V (d + 4) 123 43 [.ref m, .int (nI a), l2, l3, .int z, .int x] [.int (nI r)] S Q := by
  by_cases e : r = 15
  · subst e
    have := h S hS pil_rf (fun q => absurd rfl q)
    rw [if_pos rfl] at this
    rw [m_after hS.1, if_pos (show nI 15 = 15 from rfl)]
    exact this
  · rw [m_after_1 hS.1 e hr h35]
    obtain ⟨q1, q2⟩ := aS_pop (p := p) (k := p) hS
    have := h _ q1 q2 (fun _ => ps_gi_self)
    rw [if_neg e] at this
    exact this
/-- the loop's head, with an answer: the pile's top goes on -/
theorem m_head_go {r : Nat} (hM : sM S m) (h35 : pm_gi S m 35 = nI (p + 1)) (hp : p < 100) (hr : r < 100) : pm_V (d + 4) 123 16 [.ref m, .int (nI a), l2, l3, .int z, .int (nI r)] [] S Q = pm_N (d + 3) 128 [.ref m, .int (nI a), .int (nI r)] S (fun r' S' => pm_V (d + 4) 123 43 [.ref m, .int (nI a), l2, l3, .int z, .int (nI r)] (r'.toList ++ []) S' Q) := by
  have e1 : ¬ nI (p + 1) ≤ 0 := by rw [nI_le0 (by omega)]; omega
  have e2 : ¬ nI r < 0 := k2_nlt (nI_pos' (by omega))
  rw [q123_16]
  simp only [q123_0, q123_1, q123_2, q123_5, q123_6, q123_8, q123_9, q123_10, q123_13, q123_14, q123_17, q123_20, q123_23, q123_25, q123_28, q123_29, q123_30, q123_33, q123_36, q123_37, q123_38, q123_40, q123_45, q123_47, q123_49, q123_52, q123_54, q123_55, q123_56, q123_57, q123_60, q123_62, q123_65, q123_66, q123_69, q123_70, q123_71, q123_74, q123_77, q123_79, q123_e, sM_0 hM, h35, e1, e2, if_false]
theorem m_head_b (hM : sM S m) (h35 : pm_gi S m 35 = nI (p + 1)) (hp : p < 100) (hx : x < 0) : pm_V (d + 4) 123 16 [.ref m, .int (nI a), l2, l3, .int z, .int x] [] S Q = pm_N (d + 3) 125 [.ref m, .int (nI a)] S (fun r' S' => pm_V (d + 4) 123 43 [.ref m, .int (nI a), l2, l3, .int z, .int x] (r'.toList ++ []) S' Q) := by
  have e1 : ¬ nI (p + 1) ≤ 0 := by rw [nI_le0 (by omega)]; omega
  rw [q123_16]
  simp only [q123_0, q123_1, q123_2, q123_5, q123_6, q123_8, q123_9, q123_10, q123_13, q123_14, q123_17, q123_20, q123_23, q123_25, q123_28, q123_29, q123_30, q123_33, q123_36, q123_37, q123_38, q123_40, q123_45, q123_47, q123_49, q123_52, q123_54, q123_55, q123_56, q123_57, q123_60, q123_62, q123_65, q123_66, q123_69, q123_70, q123_71, q123_74, q123_77, q123_79, q123_e, sM_0 hM, h35, e1, hx, if_false, if_true]
/-! goesOn -/
set_option maxHeartbeats 1000000 in
/-- said on, or mended, or turned -/
theorem m_go_r {r r' : Nat} (hX : aX S0 m a C ts) (hS : aS S0 S m st) (hp : p < 23) (h35 : pm_gi S m 35 = nI (p + 1)) (hpe : pe S m p t wh i sg ar) (ht : t < ts.length) (hs : 4 ≤ (sp_te ts t).1 ∧ (sp_te ts t).1 ≤ 8) (hr : r = 0 ∨ r = 1 ∨ r = 11 ∨ r = 12) (hw : wh = 0 ∨ wh = 1) (hsg : sg = 1 ∨ sg = 2)
    (hc : if 10 ≤ r then r' = (if (sp_te ts t).1 = 7 then 0 else r) else if (sp_te ts t).1 = 4 then r' = 1 - r else r' = r ∧ ¬ ((sp_te ts t).1 = 5 ∧ sg = 1 ∧ r = 1) ∧ ¬ ((sp_te ts t).1 = 6 ∧ sg = 1 ∧ r = 0) ∧ ¬ ((sp_te ts t).1 = 8 ∧ wh = 0 ∧ r = 0)) : pm_N (d + 3) 128 [.ref m, .int (nI a), .int (nI r)] S Q = Q (some (.int (nI r'))) S := by
  have hM := hS.1
  have h20 := aX_20 hX
  have hp' : p < 24 := by omega
  have tt := aS_t hX hS ht
  obtain ⟨q1, q2, q3, q4, q5⟩ := hpe
  have z4 : (nI (sp_te ts t).1 = 4) = ((sp_te ts t).1 = 4) := nI_e' (b := 4) (by omega) (by decide)
  have z5 : (nI (sp_te ts t).1 = 5) = ((sp_te ts t).1 = 5) := nI_e' (b := 5) (by omega) (by decide)
  have z6 : (nI (sp_te ts t).1 = 6) = ((sp_te ts t).1 = 6) := nI_e' (b := 6) (by omega) (by decide)
  have z7 : (nI (sp_te ts t).1 = 7) = ((sp_te ts t).1 = 7) := nI_e' (b := 7) (by omega) (by decide)
  have z8 : (nI (sp_te ts t).1 = 8) = ((sp_te ts t).1 = 8) := nI_e' (b := 8) (by omega) (by decide)
  have s1 : (nI sg = 1) = (sg = 1) := nI_e' (b := 1) (by omega) (by decide)
  have w0 : (nI wh = 0) = (wh = 0) := nI_e' (b := 0) (by omega) (by decide)
  simp only [q128_0, q128_1, q128_4, q128_5, q128_6, q128_7, q128_8, q128_11, q128_12, q128_13, q128_15, q128_16, q128_19, q128_21, q128_22, q128_24, q128_25, q128_27, q128_30, q128_32, q128_34, q128_37, q128_38, q128_40, q128_43, q128_44, q128_46, q128_49, q128_50, q128_53, q128_54, q128_55, q128_57, q128_58, q128_61, q128_62, q128_63, q128_64, q128_65, q128_67, q128_68, q128_71, q128_73, q128_75, q128_78, q128_79, q128_82, q128_83, q128_84, q128_85, q128_88, q128_89, q128_91, q128_92, q128_95, q128_96, q128_99, q128_100, q128_103, q128_104, q128_107, q128_108, q128_109, q128_110, q128_111, q128_112, q128_115, q128_117, q128_118, q128_119, q128_122, q128_123, q128_124, q128_125, q128_128, q128_129, q128_130, q128_133, q128_134, q128_135, q128_137, q128_139, q128_142, q128_143, q128_146, q128_147, q128_148, q128_151, q128_152, q128_155, q128_156, q128_157, q128_158, q128_161, q128_164, q128_165, q128_e, sM_0 hM, h35, nI_s1, sM_r36 hM, sM_r24 hM, sM_r39 hM, sM_r37 hM, pm_rf_some, ar28 hM hp', ar29 hM hp', ar31 hM hp', nc24 hp', q1, q2, q4, ar22 hM (show t < 20 by omega), nI_clamp (show t < 2 ^ 31 by omega), tt.1, z4, z5, z6, z7, z8, s1, w0]
  rcases hr with rfl | rfl | rfl | rfl
  · rw [if_neg (by decide)] at hc
    simp only [show nI 0 < 10 by decide, if_true, show ¬ nI 0 = 1 by decide, show nI 0 = 0 by decide, show ¬ (0 : Int32) = 1 by decide, if_false]
    by_cases h4 : (sp_te ts t).1 = 4
    · rw [if_pos h4] at hc; rw [if_pos h4, hc]; rfl
    · rw [if_neg h4] at hc
      rw [if_neg h4]
      obtain ⟨rfl, c1, c2, c3⟩ := hc
      by_cases h5 : (sp_te ts t).1 = 5
      · have h8 : ¬ (sp_te ts t).1 = 8 := by omega
        simp only [h5, if_true, show ¬ (5 : Nat) = 8 by decide, if_false, ite_self]
        rfl
      · by_cases h6 : (sp_te ts t).1 = 6
        · have : ¬ sg = 1 := fun q => c2 ⟨h6, q, rfl⟩
          simp only [h5, h6, if_false, if_true, this, show ¬ (6 : Nat) = 8 by decide, show ¬ (6 : Nat) = 5 by decide]
          rfl
        · simp only [h5, h6, if_false]
          by_cases h8 : (sp_te ts t).1 = 8
          · have : ¬ wh = 0 := fun q => c3 ⟨h8, q, rfl⟩
            simp only [h8, if_true, this, if_false]
            rfl
          · simp only [h8, if_false]
            rfl
  · rw [if_neg (by decide)] at hc
    simp only [show nI 1 < 10 by decide, if_true, show nI 1 = 1 by decide, show ¬ (1 : Int32) = 0 by decide, if_false]
    by_cases h4 : (sp_te ts t).1 = 4
    · rw [if_pos h4] at hc; rw [if_pos h4, hc]; rfl
    · rw [if_neg h4] at hc
      rw [if_neg h4]
      obtain ⟨rfl, c1, c2, c3⟩ := hc
      by_cases h5 : (sp_te ts t).1 = 5
      · have : ¬ sg = 1 := fun q => c1 ⟨h5, q, rfl⟩
        simp only [h5, if_true, this, if_false, show ¬ (5 : Nat) = 8 by decide]
        rfl
      · by_cases h6 : (sp_te ts t).1 = 6
        · simp only [h5, h6, if_false, if_true, show ¬ (6 : Nat) = 8 by decide, show ¬ (6 : Nat) = 5 by decide, ite_self]
          rfl
        · simp only [h5, h6, if_false, ite_self]
          rfl
  · rw [if_pos (by decide)] at hc
    rw [hc]
    simp only [show ¬ nI 11 < 10 by decide, if_false, show nI 11 = 11 by decide, if_true]
    by_cases h7 : (sp_te ts t).1 = 7
    · simp only [h7, if_true]; rfl
    · simp only [h7, if_false]; rfl
  · rw [if_pos (by decide)] at hc
    rw [hc]
    simp only [show ¬ nI 12 < 10 by decide, if_false, show ¬ nI 12 = 11 by decide, show nI 12 = 12 by decide, if_true]
    by_cases h7 : (sp_te ts t).1 = 7
    · simp only [h7, if_true, show ¬ (12 : Int32) = 11 by decide, if_false]; rfl
    · simp only [h7, if_false]; rfl
set_option maxHeartbeats 1000000 in
/-- the second part -/
theorem m_go_u {r : Nat} (hX : aX S0 m a C ts) (hS : aS S0 S m st) (hp : p < 23) (h35 : pm_gi S m 35 = nI (p + 1)) (hpe : pe S m p t wh i 1 ar) (ht : t < ts.length) (hc : (sp_te ts t).1 = 5 ∧ r = 1 ∨ (sp_te ts t).1 = 6 ∧ r = 0) : pm_N (d + 3) 128 [.ref m, .int (nI a), .int (nI r)] S Q = Q (some (.int (-1))) (fM_push (pm_szi S (m + 31) p 2) m (p + 1) (sp_te ts t).2.2.2 (nI wh) (nI i)) := by
  have hM := hS.1
  have h20 := aX_20 hX
  have hp' : p < 24 := by omega
  have tt := aS_t hX hS ht
  obtain ⟨q1, q2, q3, q4, q5⟩ := hpe
  have hM' : sM (pm_szi S (m + 31) p 2) m := hM
  simp only [q128_0, q128_1, q128_4, q128_5, q128_6, q128_7, q128_8, q128_11, q128_12, q128_13, q128_15, q128_16, q128_19, q128_21, q128_22, q128_24, q128_25, q128_27, q128_30, q128_32, q128_34, q128_37, q128_38, q128_40, q128_43, q128_44, q128_46, q128_49, q128_50, q128_53, q128_54, q128_55, q128_57, q128_58, q128_61, q128_62, q128_63, q128_64, q128_65, q128_67, q128_68, q128_71, q128_73, q128_75, q128_78, q128_79, q128_82, q128_83, q128_84, q128_85, q128_88, q128_89, q128_91, q128_92, q128_95, q128_96, q128_99, q128_100, q128_103, q128_104, q128_107, q128_108, q128_109, q128_110, q128_111, q128_112, q128_115, q128_117, q128_118, q128_119, q128_122, q128_123, q128_124, q128_125, q128_128, q128_129, q128_130, q128_133, q128_134, q128_135, q128_137, q128_139, q128_142, q128_143, q128_146, q128_147, q128_148, q128_151, q128_152, q128_155, q128_156, q128_157, q128_158, q128_161, q128_164, q128_165, q128_e, sM_0 hM, h35, nI_s1, sM_r36 hM, sM_r24 hM, sM_r39 hM, sM_r37 hM, sM_r38 hM, sM_r27 hM, pm_rf_some, ar28 hM hp', ar29 hM hp', ar30 hM hp', ar31 hM hp', nc24 hp', q1, q2, q3, q4, ar22 hM (show t < 20 by omega), ar25 hM (show t < 20 by omega), nI_clamp (show t < 2 ^ 31 by omega), tt.1, tt.2.2.2, ps_gi_nx, ps_gi_sz, ps_gi_sh, ps_gi_gi, ps_gi_gl, ps_gi_gr, ps_gi_zi, ps_gi_zl, ps_gi_zr, ps_gi_ar, ps_gi_al, ps_gl_nx, ps_gl_sz, ps_gl_sh, ps_gl_gi, ps_gl_gl, ps_gl_gr, ps_gl_zi, ps_gl_zl, ps_gl_zr, ps_gl_ar, ps_gl_al, ps_gr_nx, ps_gr_sz, ps_gr_sh, ps_gr_gi, ps_gr_gl, ps_gr_gr, ps_gr_zi, ps_gr_zl, ps_gr_zr, ps_gr_ar, ps_gr_al, ps_zi_nx, ps_zi_sz, ps_zi_sh, ps_zi_gi, ps_zi_gl, ps_zi_gr, ps_zi_zi, ps_zi_zl, ps_zi_zr, ps_zi_ar, ps_zi_al, ps_zl_nx, ps_zl_sz, ps_zl_sh, ps_zl_gi, ps_zl_gl, ps_zl_gr, ps_zl_zi, ps_zl_zl, ps_zl_zr, ps_zl_ar, ps_zl_al, ps_zr_nx, ps_zr_sz, ps_zr_sh, ps_zr_gi, ps_zr_gl, ps_zr_gr, ps_zr_zi, ps_zr_zl, ps_zr_zr, ps_zr_ar, ps_zr_al, pm_rf_some, pm_rf_none, pm_tl_some, pm_tl_none, show ¬ (m + 25 = m + 31) by omega, show ¬ (m + 29 = m + 31) by omega, show ¬ (m + 30 = m + 31) by omega, false_and, if_false, m_push hM' (show p + 1 < 24 by omega) h35, pm_tl_none]
  rcases hc with ⟨h5, rfl⟩ | ⟨h6, rfl⟩
  · rw [h5]
    simp only [show nI 1 < 10 by decide, if_true, show ¬ nI 5 = 4 by decide, if_false, show nI 5 = 5 by decide, show nI 1 = 1 by decide, show (1 : Int32) < 10 by decide, show ¬ (5 : Int32) = 4 by decide]
  · rw [h6]
    simp only [show nI 0 < 10 by decide, if_true, show ¬ nI 6 = 4 by decide, if_false, show ¬ nI 6 = 5 by decide, show nI 6 = 6 by decide, show nI 1 = 1 by decide, show nI 0 = 0 by decide, show (0 : Int32) < 10 by decide, show ¬ (6 : Int32) = 4 by decide, show ¬ (6 : Int32) = 5 by decide]
set_option maxHeartbeats 1000000 in
/-- the next arc -/
theorem m_go_n (hX : aX S0 m a C ts) (hS : aS S0 S m st) (hp : p < 23) (h35 : pm_gi S m 35 = nI (p + 1)) (hpe : pe S m p t 0 i sg ar) (ht : t < ts.length) (hc : (sp_te ts t).1 = 8) : pm_N (d + 3) 128 [.ref m, .int (nI a), .int (nI 0)] S Q = pm_N (d + 2) 126 [.ref m, .int (nI a), .int (nI p)] S (fun r S' => pm_V (d + 3) 128 165 [.ref m, .int (nI a), .int (nI 0), .int (nI p), .int (nI t), .int (nI 8)] (r.toList ++ []) S' Q) := by
  have hM := hS.1
  have h20 := aX_20 hX
  have hp' : p < 24 := by omega
  have tt := aS_t hX hS ht
  obtain ⟨q1, q2, q3, q4, q5⟩ := hpe
  simp only [q128_0, q128_1, q128_4, q128_5, q128_6, q128_7, q128_8, q128_11, q128_12, q128_13, q128_15, q128_16, q128_19, q128_21, q128_22, q128_24, q128_25, q128_27, q128_30, q128_32, q128_34, q128_37, q128_38, q128_40, q128_43, q128_44, q128_46, q128_49, q128_50, q128_53, q128_54, q128_55, q128_57, q128_58, q128_61, q128_62, q128_63, q128_64, q128_65, q128_67, q128_68, q128_71, q128_73, q128_75, q128_78, q128_79, q128_82, q128_83, q128_84, q128_85, q128_88, q128_89, q128_91, q128_92, q128_95, q128_96, q128_99, q128_100, q128_103, q128_104, q128_107, q128_108, q128_109, q128_110, q128_111, q128_112, q128_115, q128_117, q128_118, q128_119, q128_122, q128_123, q128_124, q128_125, q128_128, q128_129, q128_130, q128_133, q128_134, q128_135, q128_137, q128_139, q128_142, q128_143, q128_146, q128_147, q128_148, q128_151, q128_152, q128_155, q128_156, q128_157, q128_158, q128_161, q128_164, q128_e, sM_0 hM, h35, nI_s1, sM_r36 hM, sM_r24 hM, sM_r37 hM, pm_rf_some, ar28 hM hp', ar29 hM hp', nc24 hp', q1, q2, ar22 hM (show t < 20 by omega), nI_clamp (show t < 2 ^ 31 by omega), tt.1, hc, show nI 0 < 10 by decide, if_true, show ¬ nI 8 = 4 by decide, show ¬ nI 8 = 5 by decide, show ¬ nI 8 = 6 by decide, if_false, show nI 8 = 8 by decide, show nI 0 = 0 by decide, show (0 : Int32) < 10 by decide, show ¬ (8 : Int32) = 4 by decide, show ¬ (8 : Int32) = 5 by decide, show ¬ (8 : Int32) = 6 by decide]
end
