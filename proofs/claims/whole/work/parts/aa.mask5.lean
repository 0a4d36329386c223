/-! ===== THE REFERENCE: asked, all sorts ===== -/
section
variable {S0 S S' S'' : pm_T} {m a g n k d j e t u c i p wh sg T : Nat} {C : sp_C} {ts : List sp_Te} {st st' : Nat × Nat} {Q : Option Value → pm_T → Prop} {v : Int64} {x y ar z : Int32} {l2 l3 : Value}
theorem m_K0 (hX : aX S0 m a C ts) : kK S0 m a d C ts l2 l3 z Q 0 := fun wh i t st S p x ht => absurd ht (by omega)
set_option maxHeartbeats 400000 in
theorem m_Ks (hX : aX S0 m a C ts) (ihK : kK S0 m a d C ts l2 l3 z Q n) : kK S0 m a d C ts l2 l3 z Q (n + 1) := by
  intro wh i t st S p x htn ht hp hw hi b1 b2 hS h35 hpe hx hE
  have h20 := aX_20 hX
  have hk := hX.2.2.2.1.2 t ht
  obtain ⟨o1, o2, o3, o4, o5, o6, o7⟩ := m_beg_ok hS h35 hpe rfl rfl
  rw [m_head_b hS.1 h35 (by omega) hx, m_beg hX hS (by omega) h35 hpe ht hw hi (by omega) rfl rfl]
  generalize hS1 : pm_sgi S m 29 (nI (st.1 + 1)) = S1 at *
  generalize hS2 : pm_szi S1 (m + 31) p 1 = S2 at *
  unfold sp_say at hE
  by_cases c1 : 2000 ≤ st.1
  · rw [if_pos c1] at hE ⊢
    simp only [pm_tl_some]
    exact kE_end (r := 15) o5 o7 (by decide) (kE_k hE o6)
  · rw [if_neg c1] at hE ⊢
    by_cases c2 : (sp_te ts t).1 < 4
    · rw [if_pos c2] at hE
      have hb := sp_leaf_b (sort := (sp_te ts t).1) (many := sp_many C wh i) (c := (sp_te ts t).2.1) (v := sp_v C wh i) (st := (st.1 + 1, st.2)) (by dsimp only; omega) b2
      refine m_leaf hX o1 c2 hw hi b2 fun S' q1 q2 => ?_
      simp only [pm_tl_some]
      have g35 : pm_gi S' m 35 = nI (p + 1) := by
        rcases q2 with rfl | ⟨w, rfl⟩
        · exact o3
        · rw [ps_gi_gi, if_neg (by omega)]; exact o3
      have kp : pk S S' m p := by
        rcases q2 with rfl | ⟨w, rfl⟩
        · exact o2
        · exact o2
      exact kE_end q1 g35 (by have := hb.1; omega) (kE_k hE kp)
    · rw [if_neg c2] at hE
      obtain ⟨eT, hTt⟩ := te_T hX ht (by omega)
      have tt := aS_t hX o1 ht
      have hM := o1.1
      have hR := aS_R hX o1
      by_cases c8 : (sp_te ts t).1 = 8
      · rw [if_pos c8] at hE
        rw [c8, show pm_tsw (nI 8) 0 [148, 162, 193, 234, 289, 289, 289, 289, 256] 289 = 256 by decide]
        rcases hw with rfl | rfl
        · rw [if_pos rfl] at hE
          simp only [q125_0, q125_1, q125_4, q125_5, q125_6, q125_7, q125_8, q125_11, q125_12, q125_13, q125_14, q125_15, q125_18, q125_19, q125_20, q125_22, q125_23, q125_26, q125_27, q125_28, q125_30, q125_31, q125_34, q125_35, q125_36, q125_38, q125_39, q125_40, q125_43, q125_44, q125_45, q125_48, q125_49, q125_52, q125_55, q125_58, q125_60, q125_61, q125_63, q125_66, q125_67, q125_68, q125_70, q125_73, q125_76, q125_77, q125_78, q125_80, q125_83, q125_85, q125_86, q125_89, q125_90, q125_91, q125_92, q125_93, q125_96, q125_97, q125_98, q125_148, q125_150, q125_152, q125_153, q125_156, q125_157, q125_160, q125_161, q125_162, q125_164, q125_165, q125_166, q125_169, q125_170, q125_171, q125_174, q125_177, q125_179, q125_181, q125_182, q125_183, q125_184, q125_187, q125_188, q125_191, q125_192, q125_193, q125_195, q125_196, q125_198, q125_200, q125_201, q125_202, q125_205, q125_208, q125_209, q125_210, q125_213, q125_216, q125_218, q125_220, q125_221, q125_222, q125_223, q125_224, q125_225, q125_228, q125_229, q125_232, q125_233, q125_234, q125_235, q125_236, q125_238, q125_240, q125_243, q125_244, q125_246, q125_247, q125_250, q125_251, q125_254, q125_255, q125_256, q125_258, q125_259, q125_262, q125_263, q125_264, q125_267, q125_268, q125_269, q125_270, q125_271, q125_272, q125_274, q125_277, q125_280, q125_281, q125_282, q125_283, q125_284, q125_285, q125_288, q125_289, q125_290, q125_291, q125_294, q125_295, q125_296, q125_298, q125_300, q125_303, q125_304, q125_e, show ¬ nI 0 = 1 by decide, if_false, sM_0 hM]
          refine m_nxt hX ihK ht c8 (by omega) hp hi C.2.2.1.length C.2.2.1.length 0 (st.1 + 1, st.2) S2 (-1) (Nat.le_refl _) (Nat.zero_add _) (by dsimp only; omega) b2 o1 o3 o4 rfl (kE_k hE o2) _ fun w S' hw => ?_
          simp only [pm_tl_some, q125_0, q125_1, q125_4, q125_5, q125_6, q125_7, q125_8, q125_11, q125_12, q125_13, q125_14, q125_15, q125_18, q125_19, q125_20, q125_22, q125_23, q125_26, q125_27, q125_28, q125_30, q125_31, q125_34, q125_35, q125_36, q125_38, q125_39, q125_40, q125_43, q125_44, q125_45, q125_48, q125_49, q125_52, q125_55, q125_58, q125_60, q125_61, q125_63, q125_66, q125_67, q125_68, q125_70, q125_73, q125_76, q125_77, q125_78, q125_80, q125_83, q125_85, q125_86, q125_89, q125_90, q125_91, q125_92, q125_93, q125_96, q125_97, q125_98, q125_148, q125_150, q125_152, q125_153, q125_156, q125_157, q125_160, q125_161, q125_162, q125_164, q125_165, q125_166, q125_169, q125_170, q125_171, q125_174, q125_177, q125_179, q125_181, q125_182, q125_183, q125_184, q125_187, q125_188, q125_191, q125_192, q125_193, q125_195, q125_196, q125_198, q125_200, q125_201, q125_202, q125_205, q125_208, q125_209, q125_210, q125_213, q125_216, q125_218, q125_220, q125_221, q125_222, q125_223, q125_224, q125_225, q125_228, q125_229, q125_232, q125_233, q125_234, q125_235, q125_236, q125_238, q125_240, q125_243, q125_244, q125_246, q125_247, q125_250, q125_251, q125_254, q125_255, q125_256, q125_258, q125_259, q125_262, q125_263, q125_264, q125_267, q125_268, q125_269, q125_270, q125_271, q125_272, q125_274, q125_277, q125_280, q125_281, q125_282, q125_283, q125_284, q125_285, q125_288, q125_289, q125_290, q125_291, q125_294, q125_295, q125_296, q125_298, q125_300, q125_303, q125_304, q125_e]
          exact hw _
        · rw [if_neg (by decide)] at hE
          have hi' : i < C.2.2.1.length := hi
          have hto := (hX.2.2.1 i hi').2
          simp only [q125_0, q125_1, q125_4, q125_5, q125_6, q125_7, q125_8, q125_11, q125_12, q125_13, q125_14, q125_15, q125_18, q125_19, q125_20, q125_22, q125_23, q125_26, q125_27, q125_28, q125_30, q125_31, q125_34, q125_35, q125_36, q125_38, q125_39, q125_40, q125_43, q125_44, q125_45, q125_48, q125_49, q125_52, q125_55, q125_58, q125_60, q125_61, q125_63, q125_66, q125_67, q125_68, q125_70, q125_73, q125_76, q125_77, q125_78, q125_80, q125_83, q125_85, q125_86, q125_89, q125_90, q125_91, q125_92, q125_93, q125_96, q125_97, q125_98, q125_148, q125_150, q125_152, q125_153, q125_156, q125_157, q125_160, q125_161, q125_162, q125_164, q125_165, q125_166, q125_169, q125_170, q125_171, q125_174, q125_177, q125_179, q125_181, q125_182, q125_183, q125_184, q125_187, q125_188, q125_191, q125_192, q125_193, q125_195, q125_196, q125_198, q125_200, q125_201, q125_202, q125_205, q125_208, q125_209, q125_210, q125_213, q125_216, q125_218, q125_220, q125_221, q125_222, q125_223, q125_224, q125_225, q125_228, q125_229, q125_232, q125_233, q125_234, q125_235, q125_236, q125_238, q125_240, q125_243, q125_244, q125_246, q125_247, q125_250, q125_251, q125_254, q125_255, q125_256, q125_258, q125_259, q125_262, q125_263, q125_264, q125_267, q125_268, q125_269, q125_270, q125_271, q125_272, q125_274, q125_277, q125_280, q125_281, q125_282, q125_283, q125_284, q125_285, q125_288, q125_289, q125_290, q125_291, q125_294, q125_295, q125_296, q125_298, q125_300, q125_303, q125_304, q125_e, show nI 1 = 1 by decide, if_true, sM_0 hM, sM_r26 hM, pm_rf_some, ar24 hM (show t < 20 by omega), nI_clamp (show t < 2 ^ 31 by omega), tt.2.2.1, mr_to hM hR hX.1 hi', pm_tl_some, m_push hM (show p + 1 < 24 by omega) o3, pm_tl_none]
          rw [show (0 : Int32) = nI 0 from rfl]
          refine m_sub (T := sp_tT ts t) (wh := 0) ihK o1 (by omega) (by omega) (by omega) (Or.inl rfl) hto (by dsimp only; omega) b2 eT fun S' q1 q2 q3 => ?_
          have hb := sp_say_b (C := C) (ts := ts) n 0 (sp_ar C i).2.1 (sp_tT ts t) (st.1 + 1, st.2) (by dsimp only; omega) b2
          generalize hy : sp_say C ts n 0 (sp_ar C i).2.1 (sp_tT ts t) (st.1 + 1, st.2) = y at *
          have kp : pk S S' m p := pil_tr o2 (pil_le q2 (by omega))
          by_cases c15 : y.1 = 15
          · rw [if_pos c15]
            have := hE S' q1 kp (fun z => absurd c15 z)
            rw [if_pos c15] at this
            exact this
          · rw [if_neg c15]
            have g35 := q3 c15
            have hr4 : y.1 = 0 ∨ y.1 = 1 ∨ y.1 = 11 ∨ y.1 = 12 := by have := hb.1; omega
            have pe2 : pe S' m p t 1 i 1 (-1) := pe_k o4 q2 (by omega)
            rw [m_head_go q1.1 g35 (by omega) (by omega), m_go_r (r' := y.1) hX q1 (by omega) g35 pe2 ht (by omega) hr4 (Or.inr rfl) (Or.inl rfl) ?_]
            · simp only [pm_tl_some]
              exact kE_end q1 g35 (by omega) (kE_k hE kp)
            · split
              · rw [if_neg (by omega)]
              · rw [if_neg (by omega)]
                exact ⟨rfl, by omega, by omega, by omega⟩
      · rw [if_neg c8] at hE
        dsimp only at hE
        have h8 := hk.1
        have etsw : pm_tsw (nI (sp_te ts t).1) 0 [148, 162, 193, 234, 289, 289, 289, 289, 256] 289 = 289 := by
          rcases (show (sp_te ts t).1 = 4 ∨ (sp_te ts t).1 = 5 ∨ (sp_te ts t).1 = 6 ∨ (sp_te ts t).1 = 7 by omega) with h | h | h | h <;> rw [h] <;> decide
        rw [etsw]
        simp only [q125_0, q125_1, q125_4, q125_5, q125_6, q125_7, q125_8, q125_11, q125_12, q125_13, q125_14, q125_15, q125_18, q125_19, q125_20, q125_22, q125_23, q125_26, q125_27, q125_28, q125_30, q125_31, q125_34, q125_35, q125_36, q125_38, q125_39, q125_40, q125_43, q125_44, q125_45, q125_48, q125_49, q125_52, q125_55, q125_58, q125_60, q125_61, q125_63, q125_66, q125_67, q125_68, q125_70, q125_73, q125_76, q125_77, q125_78, q125_80, q125_83, q125_85, q125_86, q125_89, q125_90, q125_91, q125_92, q125_93, q125_96, q125_97, q125_98, q125_148, q125_150, q125_152, q125_153, q125_156, q125_157, q125_160, q125_161, q125_162, q125_164, q125_165, q125_166, q125_169, q125_170, q125_171, q125_174, q125_177, q125_179, q125_181, q125_182, q125_183, q125_184, q125_187, q125_188, q125_191, q125_192, q125_193, q125_195, q125_196, q125_198, q125_200, q125_201, q125_202, q125_205, q125_208, q125_209, q125_210, q125_213, q125_216, q125_218, q125_220, q125_221, q125_222, q125_223, q125_224, q125_225, q125_228, q125_229, q125_232, q125_233, q125_234, q125_235, q125_236, q125_238, q125_240, q125_243, q125_244, q125_246, q125_247, q125_250, q125_251, q125_254, q125_255, q125_256, q125_258, q125_259, q125_262, q125_263, q125_264, q125_267, q125_268, q125_269, q125_270, q125_271, q125_272, q125_274, q125_277, q125_280, q125_281, q125_282, q125_283, q125_284, q125_285, q125_288, q125_289, q125_290, q125_291, q125_294, q125_295, q125_296, q125_298, q125_300, q125_303, q125_304, q125_e, sM_0 hM, sM_r26 hM, pm_rf_some, ar24 hM (show t < 20 by omega), nI_clamp (show t < 2 ^ 31 by omega), tt.2.2.1, m_push hM (show p + 1 < 24 by omega) o3, pm_tl_none, pm_tl_some]
        refine m_sub (T := sp_tT ts t) (wh := wh) ihK o1 (by omega) (by omega) (by omega) hw hi (by dsimp only; omega) b2 eT fun S' q1 q2 q3 => ?_
        have hb := sp_say_b (C := C) (ts := ts) n wh i (sp_tT ts t) (st.1 + 1, st.2) (by dsimp only; omega) b2
        generalize hy : sp_say C ts n wh i (sp_tT ts t) (st.1 + 1, st.2) = y at *
        have kp : pk S S' m p := pil_tr o2 (pil_le q2 (by omega))
        by_cases c15 : y.1 = 15
        · rw [if_pos c15]
          have e15 : (if (sp_te ts t).1 = 4 then (if y.1 < 10 then 1 - y.1 else y.1, y.2) else if (sp_te ts t).1 = 5 then (if y.1 = 1 then sp_say C ts n wh i (sp_tU ts t) y.2 else y) else if (sp_te ts t).1 = 6 then (if y.1 = 0 then sp_say C ts n wh i (sp_tU ts t) y.2 else y) else (if y.1 = 11 ∨ y.1 = 12 then 0 else y.1, y.2)) = y := by
            rw [if_neg (show ¬ y.1 < 10 by omega), if_neg (show ¬ y.1 = 1 by omega), if_neg (show ¬ y.1 = 0 by omega), if_neg (show ¬ (y.1 = 11 ∨ y.1 = 12) by omega)]
            split
            · rfl
            · split
              · rfl
              · split <;> rfl
          rw [e15] at hE
          have := hE S' q1 kp (fun z => absurd c15 z)
          rw [if_pos c15] at this
          exact this
        · rw [if_neg c15]
          have g35 := q3 c15
          obtain ⟨b3, b4⟩ := hb.2.2.2 c15
          have hr4 : y.1 = 0 ∨ y.1 = 1 ∨ y.1 = 11 ∨ y.1 = 12 := by have := hb.1; omega
          have pe2 : pe S' m p t wh i 1 (-1) := pe_k o4 q2 (by omega)
          rw [m_head_go q1.1 g35 (by omega) (by omega)]
          by_cases cu : (sp_te ts t).1 = 5 ∧ y.1 = 1 ∨ (sp_te ts t).1 = 6 ∧ y.1 = 0
          · obtain ⟨eU, hUt⟩ := te_U hX ht (by omega)
            have eE : (if (sp_te ts t).1 = 4 then (if y.1 < 10 then 1 - y.1 else y.1, y.2) else if (sp_te ts t).1 = 5 then (if y.1 = 1 then sp_say C ts n wh i (sp_tU ts t) y.2 else y) else if (sp_te ts t).1 = 6 then (if y.1 = 0 then sp_say C ts n wh i (sp_tU ts t) y.2 else y) else (if y.1 = 11 ∨ y.1 = 12 then 0 else y.1, y.2)) = sp_say C ts n wh i (sp_tU ts t) y.2 := by
              rw [if_neg (by omega)]
              rcases cu with ⟨u1, u2⟩ | ⟨u1, u2⟩
              · rw [if_pos u1, if_pos u2]
              · rw [if_neg (by omega), if_pos u1, if_pos u2]
            rw [eE] at hE
            rw [m_go_u hX q1 (by omega) g35 pe2 ht cu]
            simp only [pm_tl_some]
            have fS : frI (mT m) S' (pm_szi S' (m + 31) p 2) := frI.zi (by unfold mT; omega)
            have hS3 : aS S0 (pm_szi S' (m + 31) p 2) m y.2 := aS_s q1 fS q1.2.2.1 q1.2.2.2
            have k3 : pk S' (pm_szi S' (m + 31) p 2) m p := fun j b q1 q2 q3 => by rw [ps_zi_zi, if_neg (by omega)]
            have pe3 : pe (pm_szi S' (m + 31) p 2) m p t wh i 2 (-1) := by
              obtain ⟨q1, q2, q3, q4, q5⟩ := pe2
              refine ⟨?_, ?_, ?_, ?_, ?_⟩
              · rw [ps_zi_zi, if_neg (by omega)]; exact q1
              · rw [ps_zi_zi, if_neg (by omega)]; exact q2
              · rw [ps_zi_zi, if_neg (by omega)]; exact q3
              · rw [ps_zi_zi, if_pos ⟨rfl, rfl⟩]; rfl
              · rw [ps_zi_zi, if_neg (by omega)]; exact q5
            refine m_sub (T := sp_tU ts t) (wh := wh) ihK hS3 (by omega) (by omega) (by omega) hw hi b3 b4 eU fun S4 r1 r2 r3 => ?_
            have hb2 := sp_say_b (C := C) (ts := ts) n wh i (sp_tU ts t) y.2 b3 b4
            generalize hw2 : sp_say C ts n wh i (sp_tU ts t) y.2 = w at *
            have kp4 : pk S S4 m p := pil_tr kp (pil_tr k3 (pil_le r2 (by omega)))
            by_cases d15 : w.1 = 15
            · rw [if_pos d15]
              have := hE S4 r1 kp4 (fun z => absurd d15 z)
              rw [if_pos d15] at this
              exact this
            · rw [if_neg d15]
              have g354 := r3 d15
              have hr5 : w.1 = 0 ∨ w.1 = 1 ∨ w.1 = 11 ∨ w.1 = 12 := by have := hb2.1; omega
              have pe4 : pe S4 m p t wh i 2 (-1) := pe_k pe3 r2 (by omega)
              rw [m_head_go r1.1 g354 (by omega) (by omega), m_go_r (r' := w.1) hX r1 (by omega) g354 pe4 ht (by omega) hr5 hw (Or.inr rfl) ?_]
              · simp only [pm_tl_some]
                exact kE_end r1 g354 (by omega) (kE_k hE kp4)
              · split
                · rw [if_neg (by omega)]
                · rw [if_neg (by omega)]
                  exact ⟨rfl, by omega, by omega, by omega⟩
          · have e1 : ∃ r', r' < 100 ∧ (if (sp_te ts t).1 = 4 then (if y.1 < 10 then 1 - y.1 else y.1, y.2) else if (sp_te ts t).1 = 5 then (if y.1 = 1 then sp_say C ts n wh i (sp_tU ts t) y.2 else y) else if (sp_te ts t).1 = 6 then (if y.1 = 0 then sp_say C ts n wh i (sp_tU ts t) y.2 else y) else (if y.1 = 11 ∨ y.1 = 12 then 0 else y.1, y.2)) = (r', y.2) ∧ (if 10 ≤ y.1 then r' = (if (sp_te ts t).1 = 7 then 0 else y.1) else if (sp_te ts t).1 = 4 then r' = 1 - y.1 else r' = y.1 ∧ ¬ ((sp_te ts t).1 = 5 ∧ (1 : Nat) = 1 ∧ y.1 = 1) ∧ ¬ ((sp_te ts t).1 = 6 ∧ (1 : Nat) = 1 ∧ y.1 = 0) ∧ ¬ ((sp_te ts t).1 = 8 ∧ wh = 0 ∧ y.1 = 0)) := by
              rcases (show (sp_te ts t).1 = 4 ∨ (sp_te ts t).1 = 5 ∨ (sp_te ts t).1 = 6 ∨ (sp_te ts t).1 = 7 by omega) with h | h | h | h
              · refine ⟨if y.1 < 10 then 1 - y.1 else y.1, by split <;> omega, by rw [if_pos h], ?_⟩
                by_cases q : 10 ≤ y.1
                · rw [if_pos q, if_neg (by omega), if_neg (by omega)]
                · rw [if_neg q, if_pos h, if_pos (by omega)]
              · refine ⟨y.1, by omega, by rw [if_neg (by omega), if_pos h, if_neg (by omega)], ?_⟩
                by_cases q : 10 ≤ y.1
                · rw [if_pos q, if_neg (by omega)]
                · rw [if_neg q, if_neg (by omega)]
                  exact ⟨rfl, by omega, by omega, by omega⟩
              · refine ⟨y.1, by omega, by rw [if_neg (by omega), if_neg (by omega), if_pos h, if_neg (by omega)], ?_⟩
                by_cases q : 10 ≤ y.1
                · rw [if_pos q, if_neg (by omega)]
                · rw [if_neg q, if_neg (by omega)]
                  exact ⟨rfl, by omega, by omega, by omega⟩
              · refine ⟨if y.1 = 11 ∨ y.1 = 12 then 0 else y.1, by split <;> omega, by rw [if_neg (by omega), if_neg (by omega), if_neg (by omega)], ?_⟩
                by_cases q : 10 ≤ y.1
                · rw [if_pos q, if_pos h, if_pos (by omega)]
                · rw [if_neg q, if_neg (by omega), if_neg (by omega)]
                  exact ⟨rfl, by omega, by omega, by omega⟩
            obtain ⟨r', hr', e2, e3⟩ := e1
            rw [e2] at hE
            rw [m_go_r (r' := r') hX q1 (by omega) g35 pe2 ht (by omega) hr4 hw (Or.inl rfl) e3]
            simp only [pm_tl_some]
            exact kE_end q1 g35 hr' (kE_k hE kp)
theorem m_K (hX : aX S0 m a C ts) : ∀ n, kK S0 m a d C ts l2 l3 z Q n
  | 0 => m_K0 hX
  | n + 1 => m_Ks hX (m_K hX n)
set_option maxHeartbeats 1000000 in
/-- asked -/
theorem m_asked (hX : aX S0 m a C ts) (hS : aS S0 S m st) (ht : t < ts.length) (hw : wh = 0 ∨ wh = 1) (hi : i < sp_len C wh) (b1 : st.1 ≤ 2000) (b2 : st.2 ≤ 8) (hQ : ∀ S', aS S0 S' m (sp_say C ts 20 wh i t st).2 → Q (some (.int (nI (sp_say C ts 20 wh i t st).1))) S') : pm_N (d + 4) 123 [.ref m, .int (nI a), .int (nI wh), .int (nI i), .int (nI t)] S Q := by
  have h20 := aX_20 hX
  have hM := hS.1
  have hM' : sM (pm_sgi S m 35 0) m := hM
  have h35 : pm_gi (pm_sgi S m 35 0) m 35 = nI 0 := ps_gi_self
  obtain ⟨q1, -⟩ := aS_pop (p := 0) (k := 0) hS
  obtain ⟨f1, f2, f3, f4⟩ := fM_push_ok (p := 0) (t := t) (wh := wh) (i := i) q1
  simp only [q123_0, q123_1, q123_2, q123_5, q123_6, q123_8, q123_9, q123_10, q123_13, q123_14, q123_17, q123_20, q123_23, q123_25, q123_28, q123_29, q123_30, q123_33, q123_36, q123_37, q123_38, q123_40, q123_43, q123_45, q123_47, q123_49, q123_52, q123_54, q123_55, q123_56, q123_57, q123_60, q123_62, q123_65, q123_66, q123_69, q123_70, q123_71, q123_74, q123_77, q123_79, q123_e, sM_0 hM, ps_gi_nx, ps_gi_sz, ps_gi_sh, ps_gi_gi, ps_gi_gl, ps_gi_gr, ps_gi_zi, ps_gi_zl, ps_gi_zr, ps_gi_ar, ps_gi_al, ps_gl_nx, ps_gl_sz, ps_gl_sh, ps_gl_gi, ps_gl_gl, ps_gl_gr, ps_gl_zi, ps_gl_zl, ps_gl_zr, ps_gl_ar, ps_gl_al, ps_gr_nx, ps_gr_sz, ps_gr_sh, ps_gr_gi, ps_gr_gl, ps_gr_gr, ps_gr_zi, ps_gr_zl, ps_gr_zr, ps_gr_ar, ps_gr_al, ps_zi_nx, ps_zi_sz, ps_zi_sh, ps_zi_gi, ps_zi_gl, ps_zi_gr, ps_zi_zi, ps_zi_zl, ps_zi_zr, ps_zi_ar, ps_zi_al, ps_zl_nx, ps_zl_sz, ps_zl_sh, ps_zl_gi, ps_zl_gl, ps_zl_gr, ps_zl_zi, ps_zl_zl, ps_zl_zr, ps_zl_ar, ps_zl_al, ps_zr_nx, ps_zr_sz, ps_zr_sh, ps_zr_gi, ps_zr_gl, ps_zr_gr, ps_zr_zi, ps_zr_zl, ps_zr_zr, ps_zr_ar, ps_zr_al, pm_rf_some, pm_rf_none, pm_tl_some, pm_tl_none, m_push hM' (show 0 < 24 by decide) h35, pm_tl_none]
  refine m_K hX 20 wh i t st _ 0 (-1) (by omega) ht (by omega) hw hi b1 b2 f1 f3 f4 (by decide) fun S' r1 r2 r3 => ?_
  have hb := sp_say_b (C := C) (ts := ts) 20 wh i t st b1 b2
  by_cases c15 : (sp_say C ts 20 wh i t st).1 = 15
  · rw [if_pos c15]
    have := hQ S' r1
    rw [c15] at this
    exact this
  · rw [if_neg c15, q123_16]
    simp only [q123_0, q123_1, q123_2, q123_5, q123_6, q123_8, q123_9, q123_10, q123_13, q123_14, q123_17, q123_20, q123_23, q123_25, q123_28, q123_29, q123_30, q123_33, q123_36, q123_37, q123_38, q123_40, q123_43, q123_45, q123_47, q123_49, q123_52, q123_54, q123_55, q123_56, q123_57, q123_60, q123_62, q123_65, q123_66, q123_69, q123_70, q123_71, q123_74, q123_77, q123_79, q123_e, sM_0 r1.1, r3 c15, show nI 0 ≤ 0 by decide, if_true]
    exact hQ S' r1
end
