/-! ===== THE REFERENCE: asked, all sorts ===== -/
section
variable {S0 S S' S'' : pm_T} {m a g n k d j e t u c i p wh sg T : Nat} {C : sp_C} {ts : List sp_Te} {st st' : Nat × Nat} {Q : Option Value → pm_T → Prop} {v : Int64} {x y ar z : Int32} {l2 l3 : Value}
theorem m_K0 (hX : aX S0 m a C ts) : kK S0 m a d C ts l2 l3 z Q 0 := fun wh i t st S p x ht => absurd ht (by omega)
set_option maxHeartbeats 400000 in
theorem m_Ks (hX : aX S0 m a C ts) (ihK : kK S0 m a d C ts l2 l3 z Q n) : kK S0 m a d C ts l2 l3 z Q (n + 1) := by
  intro wh i t st S p x htn ht hp hw hi b1 b2 hS h35 hpe hx hE
  have h20 := aX_20 hX
  have hk := hX.2.2.2.1.2 t ht
  obtain ⟨o1, o2, o3, o4, o5, o6, o7⟩ := m_beg_ok hS h35 hpe rfl rfl
  rw [m_head_b hS.1 h35 (by omega) hx, m_beg hX hS (by omega) h35 hpe ht hw hi (by omega) rfl rfl]
  generalize hS1 : pm_sgi S m 29 (nI (st.1 + 1)) = S1 at *
  generalize hS2 : pm_szi S1 (m + 31) p 1 = S2 at *
  unfold sp_say at hE
  by_cases c1 : 2000 ≤ st.1
  · rw [if_pos c1] at hE ⊢
    simp only [pm_tl_some]
    exact kE_end (r := 15) o5 o7 (by decide) (kE_k hE o6)
  · rw [if_neg c1] at hE ⊢
    by_cases c2 : (sp_te ts t).1 < 4
    · rw [if_pos c2] at hE
      have hb := sp_leaf_b (sort := (sp_te ts t).1) (many := sp_many C wh i) (c := (sp_te ts t).2.1) (v := sp_v C wh i) (st := (st.1 + 1, st.2)) (by dsimp only; omega) b2
      refine m_leaf hX o1 c2 hw hi b2 fun S' q1 q2 => ?_
      simp only [pm_tl_some]
      have g35 : pm_gi S' m 35 = nI (p + 1) := by
        rcases q2 with rfl | ⟨w, rfl⟩
        · exact o3
        · rw [ps_gi_gi, if_neg (by omega)]; exact o3
      have kp : pk S S' m p := by
        rcases q2 with rfl | ⟨w, rfl⟩
        · exact o2
        · exact o2
      exact kE_end q1 g35 (by have := hb.1; omega) (kE_k hE kp)
    · rw [if_neg c2] at hE
      obtain ⟨eT, hTt⟩ := te_T hX ht (by omega)
      have tt := aS_t hX o1 ht
      have hM := o1.1
      have hR := aS_R hX o1
      by_cases c8 : (sp_te ts t).1 = 8
      · rw [if_pos c8] at hE
        rw [c8, show pm_tsw (nI 8) 0 [148, 162, 193, 234, 289, 289, 289, 289, 256] 289 = 256 by decide]
        rcases hw with rfl | rfl
        · rw [if_pos rfl] at hE
          simp only [q124_0, q124_1, q124_4, q124_5, q124_6, q124_7, q124_8, q124_11, q124_12, q124_13, q124_14, q124_15, q124_18, q124_19, q124_20, q124_22, q124_23, q124_26, q124_27, q124_28, q124_30, q124_31, q124_34, q124_35, q124_36, q124_38, q124_39, q124_40, q124_43, q124_44, q124_45, q124_48, q124_49, q124_52, q124_55, q124_58, q124_60, q124_61, q124_63, q124_66, q124_67, q124_68, q124_70, q124_73, q124_76, q124_77, q124_78, q124_80, q124_83, q124_85, q124_86, q124_89, q124_90, q124_91, q124_92, q124_93, q124_96, q124_97, q124_98, q124_148, q124_150, q124_152, q124_153, q124_156, q124_157, q124_160, q124_161, q124_162, q124_164, q124_165, q124_166, q124_169, q124_170, q124_171, q124_174, q124_177, q124_179, q124_181, q124_182, q124_183, q124_184, q124_187, q124_188, q124_191, q124_192, q124_193, q124_195, q124_196, q124_198, q124_200, q124_201, q124_202, q124_205, q124_208, q124_209, q124_210, q124_213, q124_216, q124_218, q124_220, q124_221, q124_222, q124_223, q124_224, q124_225, q124_228, q124_229, q124_232, q124_233, q124_234, q124_235, q124_236, q124_238, q124_240, q124_243, q124_244, q124_246, q124_247, q124_250, q124_251, q124_254, q124_255, q124_256, q124_258, q124_259, q124_262, q124_263, q124_264, q124_267, q124_268, q124_269, q124_270, q124_271, q124_272, q124_274, q124_277, q124_280, q124_281, q124_282, q124_283, q124_284, q124_285, q124_288, q124_289, q124_290, q124_291, q124_294, q124_295, q124_296, q124_298, q124_300, q124_303, q124_304, q124_e, show ¬ nI 0 = 1 by decide, if_false, sM_0 hM]
          refine m_nxt hX ihK ht c8 (by omega) hp hi C.2.2.1.length C.2.2.1.length 0 (st.1 + 1, st.2) S2 (-1) (Nat.le_refl _) (Nat.zero_add _) (by dsimp only; omega) b2 o1 o3 o4 rfl (kE_k hE o2) _ fun w S' hw => ?_
          simp only [pm_tl_some, q124_0, q124_1, q124_4, q124_5, q124_6, q124_7, q124_8, q124_11, q124_12, q124_13, q124_14, q124_15, q124_18, q124_19, q124_20, q124_22, q124_23, q124_26, q124_27, q124_28, q124_30, q124_31, q124_34, q124_35, q124_36, q124_38, q124_39, q124_40, q124_43, q124_44, q124_45, q124_48, q124_49, q124_52, q124_55, q124_58, q124_60, q124_61, q124_63, q124_66, q124_67, q124_68, q124_70, q124_73, q124_76, q124_77, q124_78, q124_80, q124_83, q124_85, q124_86, q124_89, q124_90, q124_91, q124_92, q124_93, q124_96, q124_97, q124_98, q124_148, q124_150, q124_152, q124_153, q124_156, q124_157, q124_160, q124_161, q124_162, q124_164, q124_165, q124_166, q124_169, q124_170, q124_171, q124_174, q124_177, q124_179, q124_181, q124_182, q124_183, q124_184, q124_187, q124_188, q124_191, q124_192, q124_193, q124_195, q124_196, q124_198, q124_200, q124_201, q124_202, q124_205, q124_208, q124_209, q124_210, q124_213, q124_216, q124_218, q124_220, q124_221, q124_222, q124_223, q124_224, q124_225, q124_228, q124_229, q124_232, q124_233, q124_234, q124_235, q124_236, q124_238, q124_240, q124_243, q124_244, q124_246, q124_247, q124_250, q124_251, q124_254, q124_255, q124_256, q124_258, q124_259, q124_262, q124_263, q124_264, q124_267, q124_268, q124_269, q124_270, q124_271, q124_272, q124_274, q124_277, q124_280, q124_281, q124_282, q124_283, q124_284, q124_285, q124_288, q124_289, q124_290, q124_291, q124_294, q124_295, q124_296, q124_298, q124_300, q124_303, q124_304, q124_e]
          exact hw _
        · rw [if_neg (by decide)] at hE
          have hi' : i < C.2.2.1.length := hi
          have hto := (hX.2.2.1 i hi').2
          simp only [q124_0, q124_1, q124_4, q124_5, q124_6, q124_7, q124_8, q124_11, q124_12, q124_13, q124_14, q124_15, q124_18, q124_19, q124_20, q124_22, q124_23, q124_26, q124_27, q124_28, q124_30, q124_31, q124_34, q124_35, q124_36, q124_38, q124_39, q124_40, q124_43, q124_44, q124_45, q124_48, q124_49, q124_52, q124_55, q124_58, q124_60, q124_61, q124_63, q124_66, q124_67, q124_68, q124_70, q124_73, q124_76, q124_77, q124_78, q124_80, q124_83, q124_85, q124_86, q124_89, q124_90, q124_91, q124_92, q124_93, q124_96, q124_97, q124_98, q124_148, q124_150, q124_152, q124_153, q124_156, q124_157, q124_160, q124_161, q124_162, q124_164, q124_165, q124_166, q124_169, q124_170, q124_171, q124_174, q124_177, q124_179, q124_181, q124_182, q124_183, q124_184, q124_187, q124_188, q124_191, q124_192, q124_193, q124_195, q124_196, q124_198, q124_200, q124_201, q124_202, q124_205, q124_208, q124_209, q124_210, q124_213, q124_216, q124_218, q124_220, q124_221, q124_222, q124_223, q124_224, q124_225, q124_228, q124_229, q124_232, q124_233, q124_234, q124_235, q124_236, q124_238, q124_240, q124_243, q124_244, q124_246, q124_247, q124_250, q124_251, q124_254, q124_255, q124_256, q124_258, q124_259, q124_262, q124_263, q124_264, q124_267, q124_268, q124_269, q124_270, q124_271, q124_272, q124_274, q124_277, q124_280, q124_281, q124_282, q124_283, q124_284, q124_285, q124_288, q124_289, q124_290, q124_291, q124_294, q124_295, q124_296, q124_298, q124_300, q124_303, q124_304, q124_e, show nI 1 = 1 by decide, if_true, sM_0 hM, sM_r26 hM, pm_rf_some, ar24 hM (show t < 20 by omega), nI_clamp (show t < 2 ^ 31 by omega), tt.2.2.1, mr_to hM hR hX.1 hi', pm_tl_some, m_push hM (show p + 1 < 24 by omega) o3, pm_tl_none]
          rw [show (0 : Int32) = nI 0 from rfl]
          refine m_sub (T := sp_tT ts t) (wh := 0) ihK o1 (by omega) (by omega) (by omega) (Or.inl rfl) hto (by dsimp only; omega) b2 eT fun S' q1 q2 q3 => ?_
          have hb := sp_say_b (C := C) (ts := ts) n 0 (sp_ar C i).2.1 (sp_tT ts t) (st.1 + 1, st.2) (by dsimp only; omega) b2
          generalize hy : sp_say C ts n 0 (sp_ar C i).2.1 (sp_tT ts t) (st.1 + 1, st.2) = y at *
          have kp : pk S S' m p := pil_tr o2 (pil_le q2 (by omega))
          by_cases c15 : y.1 = 15
          · rw [if_pos c15]
            have := hE S' q1 kp (fun z => absurd c15 z)
            rw [if_pos c15] at this
            exact this
          · rw [if_neg c15]
            have g35 := q3 c15
            have hr4 : y.1 = 0 ∨ y.1 = 1 ∨ y.1 = 11 ∨ y.1 = 12 := by have := hb.1; omega
            have pe2 : pe S' m p t 1 i 1 (-1) := pe_k o4 q2 (by omega)
            rw [m_head_go q1.1 g35 (by omega) (by omega), m_go_r (r' := y.1) hX q1 (by omega) g35 pe2 ht (by omega) hr4 (Or.inr rfl) (Or.inl rfl) ?_]
            · simp only [pm_tl_some]
              exact kE_end q1 g35 (by omega) (kE_k hE kp)
            · split
              · rw [if_neg (by omega)]
              · rw [if_neg (by omega)]
                exact ⟨rfl, by omega, by omega, by omega⟩
      · rw [if_neg c8] at hE
        dsimp only at hE
        have h8 := hk.1
        have etsw : pm_tsw (nI (sp_te ts t).1) 0 [148, 162, 193, 234, 289, 289, 289, 289, 256] 289 = 289 := by
          rcases (show (sp_te ts t).1 = 4 ∨ (sp_te ts t).1 = 5 ∨ (sp_te ts t).1 = 6 ∨ (sp_te ts t).1 = 7 by omega) with h | h | h | h <;> rw [h] <;> decide
        rw [etsw]
        simp only [q124_0, q124_1, q124_4, q124_5, q124_6, q124_7, q124_8, q124_11, q124_12, q124_13, q124_14, q124_15, q124_18, q124_19, q124_20, q124_22, q124_23, q124_26, q124_27, q124_28, q124_30, q124_31, q124_34, q124_35, q124_36, q124_38, q124_39, q124_40, q124_43, q124_44, q124_45, q124_48, q124_49, q124_52, q124_55, q124_58, q124_60, q124_61, q124_63, q124_66, q124_67, q124_68, q124_70, q124_73, q124_76, q124_77, q124_78, q124_80, q124_83, q124_85, q124_86, q124_89, q124_90, q124_91, q124_92, q124_93, q124_96, q124_97, q124_98, q124_148, q124_150, q124_152, q124_153, q124_156, q124_157, q124_160, q124_161, q124_162, q124_164, q124_165, q124_166, q124_169, q124_170, q124_171, q124_174, q124_177, q124_179, q124_181, q124_182, q124_183, q124_184, q124_187, q124_188, q124_191, q124_192, q124_193, q124_195, q124_196, q124_198, q124_200, q124_201, q124_202, q124_205, q124_208, q124_209, q124_210, q124_213, q124_216, q124_218, q124_220, q124_221, q124_222, q124_223, q124_224, q124_225, q124_228, q124_229, q124_232, q124_233, q124_234, q124_235, q124_236, q124_238, q124_240, q124_243, q124_244, q124_246, q124_247, q124_250, q124_251, q124_254, q124_255, q124_256, q124_258, q124_259, q124_262, q124_263, q124_264, q124_267, q124_268, q124_269, q124_270, q124_271, q124_272, q124_274, q124_277, q124_280, q124_281, q124_282, q124_283, q124_284, q124_285, q124_288, q124_289, q124_290, q124_291, q124_294, q124_295, q124_296, q124_298, q124_300, q124_303, q124_304, q124_e, sM_0 hM, sM_r26 hM, pm_rf_some, ar24 hM (show t < 20 by omega), nI_clamp (show t < 2 ^ 31 by omega), tt.2.2.1, m_push hM (show p + 1 < 24 by omega) o3, pm_tl_none, pm_tl_some]
        refine m_sub (T := sp_tT ts t) (wh := wh) ihK o1 (by omega) (by omega) (by omega) hw hi (by dsimp only; omega) b2 eT fun S' q1 q2 q3 => ?_
        have hb := sp_say_b (C := C) (ts := ts) n wh i (sp_tT ts t) (st.1 + 1, st.2) (by dsimp only; omega) b2
        generalize hy : sp_say C ts n wh i (sp_tT ts t) (st.1 + 1, st.2) = y at *
        have kp : pk S S' m p := pil_tr o2 (pil_le q2 (by omega))
        by_cases c15 : y.1 = 15
        · rw [if_pos c15]
          have e15 : (if (sp_te ts t).1 = 4 then (if y.1 < 10 then 1 - y.1 else y.1, y.2) else if (sp_te ts t).1 = 5 then (if y.1 = 1 then sp_say C ts n wh i (sp_tU ts t) y.2 else y) else if (sp_te ts t).1 = 6 then (if y.1 = 0 then sp_say C ts n wh i (sp_tU ts t) y.2 else y) else (if y.1 = 11 ∨ y.1 = 12 then 0 else y.1, y.2)) = y := by
            rw [if_neg (show ¬ y.1 < 10 by omega), if_neg (show ¬ y.1 = 1 by omega), if_neg (show ¬ y.1 = 0 by omega), if_neg (show ¬ (y.1 = 11 ∨ y.1 = 12) by omega)]
            split
            · rfl
            · split
              · rfl
              · split <;> rfl
          rw [e15] at hE
          have := hE S' q1 kp (fun z => absurd c15 z)
          rw [if_pos c15] at this
          exact this
        · rw [if_neg c15]
          have g35 := q3 c15
          obtain ⟨b3, b4⟩ := hb.2.2.2 c15
          have hr4 : y.1 = 0 ∨ y.1 = 1 ∨ y.1 = 11 ∨ y.1 = 12 := by have := hb.1; omega
          have pe2 : pe S' m p t wh i 1 (-1) := pe_k o4 q2 (by omega)
          rw [m_head_go q1.1 g35 (by omega) (by omega)]
          by_cases cu : (sp_te ts t).1 = 5 ∧ y.1 = 1 ∨ (sp_te ts t).1 = 6 ∧ y.1 = 0
          · obtain ⟨eU, hUt⟩ := te_U hX ht (by omega)
            have eE : (if (sp_te ts t).1 = 4 then (if y.1 < 10 then 1 - y.1 else y.1, y.2) else if (sp_te ts t).1 = 5 then (if y.1 = 1 then sp_say C ts n wh i (sp_tU ts t) y.2 else y) else if (sp_te ts t).1 = 6 then (if y.1 = 0 then sp_say C ts n wh i (sp_tU ts t) y.2 else y) else (if y.1 = 11 ∨ y.1 = 12 then 0 else y.1, y.2)) = sp_say C ts n wh i (sp_tU ts t) y.2 := by
              rw [if_neg (by omega)]
              rcases cu with ⟨u1, u2⟩ | ⟨u1, u2⟩
              · rw [if_pos u1, if_pos u2]
              · rw [if_neg (by omega), if_pos u1, if_pos u2]
            rw [eE] at hE
            rw [m_go_u hX q1 (by omega) g35 pe2 ht cu]
            simp only [pm_tl_some]
            have fS : frI (mT m) S' (pm_szi S' (m + 31) p 2) := frI.zi (by unfold mT; omega)
            have hS3 : aS S0 (pm_szi S' (m + 31) p 2) m y.2 := aS_s q1 fS q1.2.2.1 q1.2.2.2
            have k3 : pk S' (pm_szi S' (m + 31) p 2) m p := fun j b q1 q2 q3 => by rw [ps_zi_zi, if_neg (by omega)]
            have pe3 : pe (pm_szi S' (m + 31) p 2) m p t wh i 2 (-1) := by
              obtain ⟨q1, q2, q3, q4, q5⟩ := pe2
              refine ⟨?_, ?_, ?_, ?_, ?_⟩
              · rw [ps_zi_zi, if_neg (by omega)]; exact q1
              · rw [ps_zi_zi, if_neg (by omega)]; exact q2
              · rw [ps_zi_zi, if_neg (by omega)]; exact q3
              · rw [ps_zi_zi, if_pos ⟨rfl, rfl⟩]; rfl
              · rw [ps_zi_zi, if_neg (by omega)]; exact q5
            refine m_sub (T := sp_tU ts t) (wh := wh) ihK hS3 (by omega) (by omega) (by omega) hw hi b3 b4 eU fun S4 r1 r2 r3 => ?_
            have hb2 := sp_say_b (C := C) (ts := ts) n wh i (sp_tU ts t) y.2 b3 b4
            generalize hw2 : sp_say C ts n wh i (sp_tU ts t) y.2 = w at *
            have kp4 : pk S S4 m p := pil_tr kp (pil_tr k3 (pil_le r2 (by omega)))
            by_cases d15 : w.1 = 15
            · rw [if_pos d15]
              have := hE S4 r1 kp4 (fun z => absurd d15 z)
              rw [if_pos d15] at this
              exact this
            · rw [if_neg d15]
              have g354 := r3 d15
              have hr5 : w.1 = 0 ∨ w.1 = 1 ∨ w.1 = 11 ∨ w.1 = 12 := by have := hb2.1; omega
              have pe4 : pe S4 m p t wh i 2 (-1) := pe_k pe3 r2 (by omega)
              rw [m_head_go r1.1 g354 (by omega) (by omega), m_go_r (r' := w.1) hX r1 (by omega) g354 pe4 ht (by omega) hr5 hw (Or.inr rfl) ?_]
              · simp only [pm_tl_some]
                exact kE_end r1 g354 (by omega) (kE_k hE kp4)
              · split
                · rw [if_neg (by omega)]
                · rw [if_neg (by omega)]
                  exact ⟨rfl, by omega, by omega, by omega⟩
          · have e1 : ∃ r', r' < 100 ∧ (if (sp_te ts t).1 = 4 then (if y.1 < 10 then 1 - y.1 else y.1, y.2) else if (sp_te ts t).1 = 5 then (if y.1 = 1 then sp_say C ts n wh i (sp_tU ts t) y.2 else y) else if (sp_te ts t).1 = 6 then (if y.1 = 0 then sp_say C ts n wh i (sp_tU ts t) y.2 else y) else (if y.1 = 11 ∨ y.1 = 12 then 0 else y.1, y.2)) = (r', y.2) ∧ (if 10 ≤ y.1 then r' = (if (sp_te ts t).1 = 7 then 0 else y.1) else if (sp_te ts t).1 = 4 then r' = 1 - y.1 else r' = y.1 ∧ ¬ ((sp_te ts t).1 = 5 ∧ (1 : Nat) = 1 ∧ y.1 = 1) ∧ ¬ ((sp_te ts t).1 = 6 ∧ (1 : Nat) = 1 ∧ y.1 = 0) ∧ ¬ ((sp_te ts t).1 = 8 ∧ wh = 0 ∧ y.1 = 0)) := by
              rcases (show (sp_te ts t).1 = 4 ∨ (sp_te ts t).1 = 5 ∨ (sp_te ts t).1 = 6 ∨ (sp_te ts t).1 = 7 by omega) with h | h | h | h
              · refine ⟨if y.1 < 10 then 1 - y.1 else y.1, by split <;> omega, by rw [if_pos h], ?_⟩
                by_cases q : 10 ≤ y.1
                · rw [if_pos q, if_neg (by omega), if_neg (by omega)]
                · rw [if_neg q, if_pos h, if_pos (by omega)]
              · refine ⟨y.1, by omega, by rw [if_neg (by omega), if_pos h, if_neg (by omega)], ?_⟩
                by_cases q : 10 ≤ y.1
                · rw [if_pos q, if_neg (by omega)]
                · rw [if_neg q, if_neg (by omega)]
                  exact ⟨rfl, by omega, by omega, by omega⟩
              · refine ⟨y.1, by omega, by rw [if_neg (by omega), if_neg (by omega), if_pos h, if_neg (by omega)], ?_⟩
                by_cases q : 10 ≤ y.1
                · rw [if_pos q, if_neg (by omega)]
                · rw [if_neg q, if_neg (by omega)]
                  exact ⟨rfl, by omega, by omega, by omega⟩
              · refine ⟨if y.1 = 11 ∨ y.1 = 12 then 0 else y.1, by split <;> omega, by rw [if_neg (by omega), if_neg (by omega), if_neg (by omega)], ?_⟩
                by_cases q : 10 ≤ y.1
                · rw [if_pos q, if_pos h, if_pos (by omega)]
                · rw [if_neg q, if_neg (by omega), if_neg (by omega)]
                  exact ⟨rfl, by omega, by omega, by omega⟩
            obtain ⟨r', hr', e2, e3⟩ := e1
            rw [e2] at hE
            rw [m_go_r (r' := r') hX q1 (by omega) g35 pe2 ht (by omega) hr4 hw (Or.inl rfl) e3]
            simp only [pm_tl_some]
            exact kE_end q1 g35 hr' (kE_k hE kp)
theorem m_K (hX : aX S0 m a C ts) : ∀ n, kK S0 m a d C ts l2 l3 z Q n
  | 0 => m_K0 hX
  | n + 1 => m_Ks hX (m_K hX n)
set_option maxHeartbeats 1000000 in
/-- asked -/
theorem m_asked (hX : aX S0 m a C ts) (hS : aS S0 S m st) (ht : t < ts.length) (hw : wh = 0 ∨ wh = 1) (hi : i < sp_len C wh) (b1 : st.1 ≤ 2000) (b2 : st.2 ≤ 8) (hQ : ∀ S', aS S0 S' m (sp_say C ts 20 wh i t st).2 → Q (some (.int (nI (sp_say C ts 20 wh i t st).1))) S') : pm_N (d + 4) 122 [.ref m, .int (nI a), .int (nI wh), .int (nI i), .int (nI t)] S Q := by
  have h20 := aX_20 hX
  have hM := hS.1
  have hM' : sM (pm_sgi S m 35 0) m := hM
  have h35 : pm_gi (pm_sgi S m 35 0) m 35 = nI 0 := ps_gi_self
  obtain ⟨q1, -⟩ := aS_pop (p := 0) (k := 0) hS
  obtain ⟨f1, f2, f3, f4⟩ := fM_push_ok (p := 0) (t := t) (wh := wh) (i := i) q1
  simp only [q122_0, q122_1, q122_2, q122_5, q122_6, q122_8, q122_9, q122_10, q122_13, q122_14, q122_17, q122_20, q122_23, q122_25, q122_28, q122_29, q122_30, q122_33, q122_36, q122_37, q122_38, q122_40, q122_43, q122_45, q122_47, q122_49, q122_52, q122_54, q122_55, q122_56, q122_57, q122_60, q122_62, q122_65, q122_66, q122_69, q122_70, q122_71, q122_74, q122_77, q122_79, q122_e, sM_0 hM, ps_gi_nx, ps_gi_sz, ps_gi_sh, ps_gi_gi, ps_gi_gl, ps_gi_gr, ps_gi_zi, ps_gi_zl, ps_gi_zr, ps_gi_ar, ps_gi_al, ps_gl_nx, ps_gl_sz, ps_gl_sh, ps_gl_gi, ps_gl_gl, ps_gl_gr, ps_gl_zi, ps_gl_zl, ps_gl_zr, ps_gl_ar, ps_gl_al, ps_gr_nx, ps_gr_sz, ps_gr_sh, ps_gr_gi, ps_gr_gl, ps_gr_gr, ps_gr_zi, ps_gr_zl, ps_gr_zr, ps_gr_ar, ps_gr_al, ps_zi_nx, ps_zi_sz, ps_zi_sh, ps_zi_gi, ps_zi_gl, ps_zi_gr, ps_zi_zi, ps_zi_zl, ps_zi_zr, ps_zi_ar, ps_zi_al, ps_zl_nx, ps_zl_sz, ps_zl_sh, ps_zl_gi, ps_zl_gl, ps_zl_gr, ps_zl_zi, ps_zl_zl, ps_zl_zr, ps_zl_ar, ps_zl_al, ps_zr_nx, ps_zr_sz, ps_zr_sh, ps_zr_gi, ps_zr_gl, ps_zr_gr, ps_zr_zi, ps_zr_zl, ps_zr_zr, ps_zr_ar, ps_zr_al, pm_rf_some, pm_rf_none, pm_tl_some, pm_tl_none, m_push hM' (show 0 < 24 by decide) h35, pm_tl_none]
  refine m_K hX 20 wh i t st _ 0 (-1) (by omega) ht (by omega) hw hi b1 b2 f1 f3 f4 (by decide) fun S' r1 r2 r3 => ?_
  have hb := sp_say_b (C := C) (ts := ts) 20 wh i t st b1 b2
  by_cases c15 : (sp_say C ts 20 wh i t st).1 = 15
  · rw [if_pos c15]
    have := hQ S' r1
    rw [c15] at this
    exact this
  · rw [if_neg c15, q122_16]
    simp only [q122_0, q122_1, q122_2, q122_5, q122_6, q122_8, q122_9, q122_10, q122_13, q122_14, q122_17, q122_20, q122_23, q122_25, q122_28, q122_29, q122_30, q122_33, q122_36, q122_37, q122_38, q122_40, q122_43, q122_45, q122_47, q122_49, q122_52, q122_54, q122_55, q122_56, q122_57, q122_60, q122_62, q122_65, q122_66, q122_69, q122_70, q122_71, q122_74, q122_77, q122_79, q122_e, sM_0 r1.1, r3 c15, show nI 0 ≤ 0 by decide, if_true]
    exact hQ S' r1
end
