/-! ===== the class: what tests say, of parts ===== -/
/-- say keeps step, for tests below n -/
def cSay (C : sp_C) (ts : List sp_Te) (a g n : Nat) : Prop := ∀ (d wh i t dep : Nat) (st : Nat × Nat) (S : pm_T) (Q : Option Value → pm_T → Prop), t < n → t < ts.length → (wh = 0 ∨ wh = 1) → i < sp_len C wh → dep + t < 20 → st.1 ≤ 2000 → st.2 ≤ 8 → gT S a g C ts st →
  (∀ S', gT S' a g C ts (sp_say C ts n wh i t st).2 → sp_fr (fun b => b = a) S S' → Q (some (.int (sp_cd (sp_say C ts n wh i t st).1))) S') →
  pm_N (3 * n + 4 + d) 50 [.ref a, .ref g, .int (nI wh), .int (nI i), .int (nI t), .int (nI dep)] S Q
theorem sp_cd_0 {r : Nat} (h : r = 0 ∨ r = 1 ∨ r = 11 ∨ r = 12 ∨ r = 15) : (sp_cd r = 0) = (r = 0) := by
  rcases h with rfl | rfl | rfl | rfl | rfl <;> decide
theorem sp_cd_1 {r : Nat} (h : r = 0 ∨ r = 1 ∨ r = 11 ∨ r = 12 ∨ r = 15) : (sp_cd r = 1) = (r = 1) := by
  rcases h with rfl | rfl | rfl | rfl | rfl <;> decide
theorem sp_cd_n {r : Nat} (h : r = 0 ∨ r = 1 ∨ r = 11 ∨ r = 12 ∨ r = 15) : (sp_cd r < 0) = (¬ r < 10) := by
  rcases h with rfl | rfl | rfl | rfl | rfl <;> decide
theorem sp_cd_m1 {r : Nat} (h : r = 0 ∨ r = 1 ∨ r = 11 ∨ r = 12 ∨ r = 15) : (sp_cd r = -1) = (r = 11) := by
  rcases h with rfl | rfl | rfl | rfl | rfl <;> decide
theorem sp_cd_m2 {r : Nat} (h : r = 0 ∨ r = 1 ∨ r = 11 ∨ r = 12 ∨ r = 15) : (sp_cd r = -2) = (r = 12) := by
  rcases h with rfl | rfl | rfl | rfl | rfl <;> decide
section
variable {d a g n k : Nat} {S : pm_T} {Q : Option Value → pm_T → Prop} {C : sp_C} {ts : List sp_Te} {st : Nat × Nat}
set_option maxHeartbeats 4000000 in
theorem c_someNext {i t dep : Nat} (hs : cSay C ts a g n) (ho : sp_ok C) (ht : t < n) (htl : t < ts.length) (hi : i < 40) (hdp : dep + 1 + t < 20) :
    ∀ (m e : Nat) (st : Nat × Nat) (S : pm_T) (l : Value), e + m = C.2.2.1.length → st.1 ≤ 2000 → st.2 ≤ 8 → gT S a g C ts st →
    (∀ S', gT S' a g C ts (sp_nxt (fun j st => sp_say C ts n 0 j t st) C i m e st).2 → sp_fr (fun b => b = a) S S' → Q (some (.int (sp_cd (sp_nxt (fun j st => sp_say C ts n 0 j t st) C i m e st).1))) S') →
    pm_V (3 * n + 4 + d + 1) 53 3 [.ref a, .ref g, .int (nI i), .int (nI t), .int (nI dep), .int (nI e), l] [] S Q := by
  intro m
  induction m with
  | zero =>
    intro e st S l he h1 h2 hT hQ
    obtain ⟨t1, t2, t3, t4, t5, t6, t7⟩ := id hT
    have hm := cC_m t3 t4
    have e1 : ¬ nI e < nI C.2.2.1.length := nI_nlt (by omega) (by omega)
    rw [q53_3]
    simp only [q53_0, q53_1, q53_5, q53_5N, q53_6, q53_9, q53_12, q53_15, q53_15N, q53_16, q53_19, q53_21, q53_22, q53_23, q53_26, q53_27, q53_27N, q53_28, q53_29, q53_29N, q53_30, q53_33, q53_35, q53_36, q53_37, q53_39, q53_40, q53_41, q53_44, q53_46, q53_48, q53_51, q53_53, q53_54, q53_57, q53_60, q53_61, q53_e, t2.1, t2.2.1, t2.2.2.1, t2.2.2.2.1, t2.2.2.2.2.1, t2.2.2.2.2.2.1, t2.2.2.2.2.2.2.2.2.1.1, t2.2.2.2.2.2.2.2.2.1.2.1, t2.2.2.2.2.2.2.2.2.1.2.2.1, t2.2.2.2.2.2.2.2.2.1.2.2.2.1, t2.2.2.2.2.2.2.2.2.2.1.1, t2.2.2.2.2.2.2.2.2.2.1.2.1, t2.2.2.2.2.2.2.2.2.2.1.2.2.1, t2.2.2.2.2.2.2.2.2.2.1.2.2.2.1, t2.2.2.2.2.2.2.2.2.2.2.1, t2.2.2.2.2.2.2.2.2.2.2.2.1, t2.2.2.2.2.2.2.2.2.2.2.2.2.1, t2.2.2.2.2.2.2.2.2.2.2.2.2.2.1, pm_rf_some, hm.1, e1, if_false]
    exact hQ S hT sp_fr.rf
  | succ m ih =>
    intro e st S l he h1 h2 hT hQ
    obtain ⟨t1, t2, t3, t4, t5, t6, t7⟩ := id hT
    have hm := cC_m t3 t4
    have hn := cC_n t3 t4
    have he1 : e < C.2.2.1.length := by omega
    have he2 : e < 120 := by omega
    have oe := ho e he1
    have e1 : nI e < nI C.2.2.1.length := nI_lt he1 (by omega)
    rw [q53_3]
    simp only [q53_0, q53_1, q53_5, q53_5N, q53_6, q53_9, q53_12, q53_15, q53_15N, q53_16, q53_19, q53_21, q53_22, q53_23, q53_26, q53_27, q53_27N, q53_28, q53_29, q53_29N, q53_30, q53_33, q53_35, q53_36, q53_37, q53_39, q53_40, q53_41, q53_44, q53_46, q53_48, q53_51, q53_53, q53_54, q53_57, q53_60, q53_61, q53_e, t2.1, t2.2.1, t2.2.2.1, t2.2.2.2.1, t2.2.2.2.2.1, t2.2.2.2.2.2.1, t2.2.2.2.2.2.2.2.2.1.1, t2.2.2.2.2.2.2.2.2.1.2.1, t2.2.2.2.2.2.2.2.2.1.2.2.1, t2.2.2.2.2.2.2.2.2.1.2.2.2.1, t2.2.2.2.2.2.2.2.2.2.1.1, t2.2.2.2.2.2.2.2.2.2.1.2.1, t2.2.2.2.2.2.2.2.2.2.1.2.2.1, t2.2.2.2.2.2.2.2.2.2.1.2.2.2.1, t2.2.2.2.2.2.2.2.2.2.2.1, t2.2.2.2.2.2.2.2.2.2.2.2.1, t2.2.2.2.2.2.2.2.2.2.2.2.2.1, t2.2.2.2.2.2.2.2.2.2.2.2.2.2.1, pm_rf_some, t1.1.1, hm.1, e1, if_true, gr9 t2 he2, gr10 t2 he2, gr6 t2 he2, gr7 t2 he2, gr8 t2 he2, nc12 he2, (cC_ae t3 t4 he1).1, (cC_ae t3 t4 he1).2.1, nI_e' (show (sp_ar C e).1 < 2 ^ 31 by omega) (show i < 2 ^ 31 by omega), nI_1]
    by_cases hc : (sp_ar C e).1 = i
    · rw [if_pos hc]
      have hb := sp_say_b (C := C) (ts := ts) n 0 (sp_ar C e).2.1 t st h1 h2
      refine hs d 0 (sp_ar C e).2.1 t (dep + 1) st S _ ht htl (Or.inl rfl) oe.2 hdp h1 h2 hT fun S' q1 q2 => ?_
      simp only [pm_tl_some, q53_0, q53_1, q53_5, q53_5N, q53_6, q53_9, q53_12, q53_15, q53_15N, q53_16, q53_19, q53_21, q53_22, q53_23, q53_26, q53_27, q53_27N, q53_28, q53_29, q53_29N, q53_30, q53_33, q53_35, q53_36, q53_37, q53_39, q53_40, q53_41, q53_44, q53_46, q53_48, q53_51, q53_53, q53_54, q53_57, q53_60, q53_61, q53_e, nI_1]
      unfold sp_nxt at hQ
      rw [if_pos hc] at hQ
      by_cases hz : (sp_say C ts n 0 (sp_ar C e).2.1 t st).1 = 0
      · rw [if_pos (show sp_cd (sp_say C ts n 0 (sp_ar C e).2.1 t st).1 = 0 by rw [sp_cd_0 hb.1]; exact hz)]
        rw [if_pos hz] at hQ
        exact ih (e + 1) _ S' _ (by omega) (hb.2.2.2 (by omega)).1 (hb.2.2.2 (by omega)).2 q1 (fun S'' w1 w2 => hQ S'' w1 (q2.tr w2))
      · rw [if_neg (show ¬ sp_cd (sp_say C ts n 0 (sp_ar C e).2.1 t st).1 = 0 by rw [sp_cd_0 hb.1]; exact hz)]
        rw [if_neg hz] at hQ
        exact hQ S' q1 q2
    · rw [if_neg hc]
      refine ih (e + 1) st S _ (by omega) h1 h2 hT ?_
      unfold sp_nxt at hQ
      rw [if_neg hc] at hQ
      exact hQ
set_option maxHeartbeats 8000000 in
theorem c_sayOfParts {wh i t dep : Nat} (hs : cSay C ts a g n) (ho : sp_ok C) (hk : sp_tok ts) (ht : t < n + 1) (htl : t < ts.length) (hw : wh = 0 ∨ wh = 1) (hi : i < sp_len C wh) (hdp : dep + t < 20) (h1 : st.1 + 1 ≤ 2000) (h2 : st.2 ≤ 8) (hs4 : ¬ (sp_te ts t).1 < 4) (hT : gT S a g C ts (st.1 + 1, st.2))
    (hQ : ∀ S', gT S' a g C ts (sp_say C ts (n + 1) wh i t st).2 → sp_fr (fun b => b = a) S S' → Q (some (.int (sp_cd (sp_say C ts (n + 1) wh i t st).1))) S') :
    pm_N (3 * n + 4 + d + 2) 52 [.ref a, .ref g, .int (nI wh), .int (nI i), .int (nI t), .int (nI dep)] S Q := by
  obtain ⟨t1, t2, t3, t4, t5, t6, t7⟩ := id hT
  have hm := cC_m t3 t4
  have hn := cC_n t3 t4
  have hl := hk.1
  obtain ⟨k1, k2, k3⟩ := hk.2 t htl
  obtain ⟨x, hx, ex⟩ := k2 (by omega)
  have e1 := pm_ar_nI t1.1.2.2.2.2.2.1 (show t < 20 by omega) (by decide)
  have e2 := pm_ar_nI t1.1.2.2.2.2.2.2.2.1 (show t < 20 by omega) (by decide)
  have e2' := pm_ar_nI t1.1.2.2.2.2.2.2.2.2 (show t < 20 by omega) (by decide)
  have e3 := nI_clamp (show t < 2 ^ 31 by omega)
  have ht' := t1.2.2 t htl
  have hTx : sp_tT ts t = x := by unfold sp_tT; rw [ex, nI_clamp (by omega)]
  have st2 : ¬ 2000 ≤ st.1 := by omega
  unfold sp_say at hQ
  rw [if_neg st2, if_neg hs4, hTx] at hQ
  by_cases h8 : (sp_te ts t).1 = 8
  · rw [if_pos h8] at hQ
    rcases hw with rfl | rfl
    · have hi40 : i < 40 := by have : i < C.2.1.length := hi
                               omega
      rw [if_pos rfl] at hQ
      simp only [q52_0, q52_1, q52_4, q52_6, q52_7, q52_9, q52_12, q52_13, q52_16, q52_17, q52_17N, q52_18, q52_19, q52_20, q52_23, q52_25, q52_26, q52_28, q52_31, q52_34, q52_35, q52_35N, q52_36, q52_37, q52_37N, q52_38, q52_41, q52_42, q52_43, q52_44, q52_47, q52_49, q52_50, q52_52, q52_53, q52_54, q52_57, q52_58, q52_59, q52_59N, q52_60, q52_61, q52_62, q52_63, q52_66, q52_68, q52_69, q52_71, q52_72, q52_73, q52_76, q52_78, q52_79, q52_82, q52_84, q52_85, q52_112, q52_114, q52_117, q52_119, q52_122, q52_123, q52_125, q52_126, q52_127, q52_129, q52_130, q52_133, q52_134, q52_134N, q52_135, q52_136, q52_137, q52_138, q52_141, q52_143, q52_144, q52_146, q52_147, q52_148, q52_151, q52_154, q52_156, q52_157, q52_159, q52_162, q52_163, q52_163N, q52_164, q52_165, q52_166, q52_167, q52_170, q52_172, q52_173, q52_175, q52_176, q52_177, q52_180, q52_183, q52_185, q52_186, q52_188, q52_189, q52_192, q52_194, q52_196, q52_199, q52_200, q52_203, q52_205, q52_e, t1.1.1, t1.1.2.1, t1.1.2.2.2.1, pm_rf_some, e1, e2, e3, ht'.1, h8, show nI 8 = 8 from rfl, if_true, nI_0', ht'.2.2.1, ex]
      simp only [q53_0, q53_1, q53_5, q53_5N, q53_6, q53_9, q53_12, q53_15, q53_15N, q53_16, q53_19, q53_21, q53_22, q53_23, q53_26, q53_27, q53_27N, q53_28, q53_29, q53_29N, q53_30, q53_33, q53_35, q53_36, q53_37, q53_39, q53_40, q53_41, q53_44, q53_46, q53_48, q53_51, q53_53, q53_54, q53_57, q53_60, q53_61, q53_e]
      refine c_someNext hs ho (by omega) (by omega) hi40 (by omega) C.2.2.1.length 0 (st.1 + 1, st.2) S _ (by omega) (by omega) h2 hT fun S' q1 q2 => ?_
      simp only [pm_tl_some, q52_0, q52_1, q52_4, q52_6, q52_7, q52_9, q52_12, q52_13, q52_16, q52_17, q52_17N, q52_18, q52_19, q52_20, q52_23, q52_25, q52_26, q52_28, q52_31, q52_34, q52_35, q52_35N, q52_36, q52_37, q52_37N, q52_38, q52_41, q52_42, q52_43, q52_44, q52_47, q52_49, q52_50, q52_52, q52_53, q52_54, q52_57, q52_58, q52_59, q52_59N, q52_60, q52_61, q52_62, q52_63, q52_66, q52_68, q52_69, q52_71, q52_72, q52_73, q52_76, q52_78, q52_79, q52_82, q52_84, q52_85, q52_112, q52_114, q52_117, q52_119, q52_122, q52_123, q52_125, q52_126, q52_127, q52_129, q52_130, q52_133, q52_134, q52_134N, q52_135, q52_136, q52_137, q52_138, q52_141, q52_143, q52_144, q52_146, q52_147, q52_148, q52_151, q52_154, q52_156, q52_157, q52_159, q52_162, q52_163, q52_163N, q52_164, q52_165, q52_166, q52_167, q52_170, q52_172, q52_173, q52_175, q52_176, q52_177, q52_180, q52_183, q52_185, q52_186, q52_188, q52_189, q52_192, q52_194, q52_196, q52_199, q52_200, q52_203, q52_205, q52_e]
      exact hQ S' q1 q2
    · have hi1 : i < C.2.2.1.length := hi
      have hi2 : i < 120 := by omega
      have oe := ho i hi1
      rw [if_neg (by decide)] at hQ
      simp only [q52_0, q52_1, q52_4, q52_6, q52_7, q52_9, q52_12, q52_13, q52_16, q52_17, q52_17N, q52_18, q52_19, q52_20, q52_23, q52_25, q52_26, q52_28, q52_31, q52_34, q52_35, q52_35N, q52_36, q52_37, q52_37N, q52_38, q52_41, q52_42, q52_43, q52_44, q52_47, q52_49, q52_50, q52_52, q52_53, q52_54, q52_57, q52_58, q52_59, q52_59N, q52_60, q52_61, q52_62, q52_63, q52_66, q52_68, q52_69, q52_71, q52_72, q52_73, q52_76, q52_78, q52_79, q52_82, q52_84, q52_85, q52_112, q52_114, q52_117, q52_119, q52_122, q52_123, q52_125, q52_126, q52_127, q52_129, q52_130, q52_133, q52_134, q52_134N, q52_135, q52_136, q52_137, q52_138, q52_141, q52_143, q52_144, q52_146, q52_147, q52_148, q52_151, q52_154, q52_156, q52_157, q52_159, q52_162, q52_163, q52_163N, q52_164, q52_165, q52_166, q52_167, q52_170, q52_172, q52_173, q52_175, q52_176, q52_177, q52_180, q52_183, q52_185, q52_186, q52_188, q52_189, q52_192, q52_194, q52_196, q52_199, q52_200, q52_203, q52_205, q52_e, t2.1, t2.2.1, t2.2.2.1, t2.2.2.2.1, t2.2.2.2.2.1, t2.2.2.2.2.2.1, t2.2.2.2.2.2.2.2.2.1.1, t2.2.2.2.2.2.2.2.2.1.2.1, t2.2.2.2.2.2.2.2.2.1.2.2.1, t2.2.2.2.2.2.2.2.2.1.2.2.2.1, t2.2.2.2.2.2.2.2.2.2.1.1, t2.2.2.2.2.2.2.2.2.2.1.2.1, t2.2.2.2.2.2.2.2.2.2.1.2.2.1, t2.2.2.2.2.2.2.2.2.2.1.2.2.2.1, t2.2.2.2.2.2.2.2.2.2.2.1, t2.2.2.2.2.2.2.2.2.2.2.2.1, t2.2.2.2.2.2.2.2.2.2.2.2.2.1, t2.2.2.2.2.2.2.2.2.2.2.2.2.2.1, pm_rf_some, t1.1.1, t1.1.2.1, t1.1.2.2.2.1, pm_rf_some, e1, e2, e3, ht'.1, h8, show nI 8 = 8 from rfl, if_true, nI_1', show ¬ (1 : Int32) = 0 by decide, if_false, ht'.2.2.1, ex, gr9 t2 hi2, gr10 t2 hi2, gr6 t2 hi2, gr7 t2 hi2, gr8 t2 hi2, nc12 hi2, (cC_ae t3 t4 hi1).2.1, nI_1]
      refine hs (d + 1) 0 (sp_ar C i).2.1 x (dep + 1) (st.1 + 1, st.2) S _ (by omega) (by omega) (Or.inl rfl) oe.2 (by omega) h1 h2 hT fun S' q1 q2 => ?_
      simp only [pm_tl_some, q52_0, q52_1, q52_4, q52_6, q52_7, q52_9, q52_12, q52_13, q52_16, q52_17, q52_17N, q52_18, q52_19, q52_20, q52_23, q52_25, q52_26, q52_28, q52_31, q52_34, q52_35, q52_35N, q52_36, q52_37, q52_37N, q52_38, q52_41, q52_42, q52_43, q52_44, q52_47, q52_49, q52_50, q52_52, q52_53, q52_54, q52_57, q52_58, q52_59, q52_59N, q52_60, q52_61, q52_62, q52_63, q52_66, q52_68, q52_69, q52_71, q52_72, q52_73, q52_76, q52_78, q52_79, q52_82, q52_84, q52_85, q52_112, q52_114, q52_117, q52_119, q52_122, q52_123, q52_125, q52_126, q52_127, q52_129, q52_130, q52_133, q52_134, q52_134N, q52_135, q52_136, q52_137, q52_138, q52_141, q52_143, q52_144, q52_146, q52_147, q52_148, q52_151, q52_154, q52_156, q52_157, q52_159, q52_162, q52_163, q52_163N, q52_164, q52_165, q52_166, q52_167, q52_170, q52_172, q52_173, q52_175, q52_176, q52_177, q52_180, q52_183, q52_185, q52_186, q52_188, q52_189, q52_192, q52_194, q52_196, q52_199, q52_200, q52_203, q52_205, q52_e]
      exact hQ S' q1 q2
  · rw [if_neg h8] at hQ
    have hb := sp_say_b (C := C) (ts := ts) n wh i x (st.1 + 1, st.2) h1 h2
    dsimp only at hQ
    have h8' : ¬ nI (sp_te ts t).1 = 8 := fun q => h8 ((nI_eq (a := (sp_te ts t).1) (b := 8) (by omega) (by decide)).mp q)
    simp only [q52_0, q52_1, q52_4, q52_6, q52_7, q52_9, q52_12, q52_13, q52_16, q52_17, q52_17N, q52_18, q52_19, q52_20, q52_23, q52_25, q52_26, q52_28, q52_31, q52_34, q52_35, q52_35N, q52_36, q52_37, q52_37N, q52_38, q52_41, q52_42, q52_43, q52_44, q52_47, q52_49, q52_50, q52_52, q52_53, q52_54, q52_57, q52_58, q52_59, q52_59N, q52_60, q52_61, q52_62, q52_63, q52_66, q52_68, q52_69, q52_71, q52_72, q52_73, q52_76, q52_78, q52_79, q52_82, q52_84, q52_85, q52_112, q52_114, q52_117, q52_119, q52_122, q52_123, q52_125, q52_126, q52_127, q52_129, q52_130, q52_133, q52_134, q52_134N, q52_135, q52_136, q52_137, q52_138, q52_141, q52_143, q52_144, q52_146, q52_147, q52_148, q52_151, q52_154, q52_156, q52_157, q52_159, q52_162, q52_163, q52_163N, q52_164, q52_165, q52_166, q52_167, q52_170, q52_172, q52_173, q52_175, q52_176, q52_177, q52_180, q52_183, q52_185, q52_186, q52_188, q52_189, q52_192, q52_194, q52_196, q52_199, q52_200, q52_203, q52_205, q52_e, t1.1.1, t1.1.2.1, t1.1.2.2.2.1, pm_rf_some, e1, e2, e3, ht'.1, h8', if_false, ht'.2.2.1, ex, nI_1]
    refine hs (d + 1) wh i x (dep + 1) (st.1 + 1, st.2) S _ (by omega) (by omega) hw hi (by omega) h1 h2 hT fun S1 q1 q2 => ?_
    generalize hX : sp_say C ts n wh i x (st.1 + 1, st.2) = X at *
    obtain ⟨b1, b2, b3, b4⟩ := hb
    obtain ⟨u1, u2, u3, u4, u5, u6, u7⟩ := id q1
    have a1 := pm_ar_nI u1.1.2.2.2.2.2.1 (show t < 20 by omega) (by decide)
    have a2' := pm_ar_nI u1.1.2.2.2.2.2.2.2.2 (show t < 20 by omega) (by decide)
    have hu' := u1.2.2 t htl
    simp only [pm_tl_some, q52_0, q52_1, q52_4, q52_6, q52_7, q52_9, q52_12, q52_13, q52_16, q52_17, q52_17N, q52_18, q52_19, q52_20, q52_23, q52_25, q52_26, q52_28, q52_31, q52_34, q52_35, q52_35N, q52_36, q52_37, q52_37N, q52_38, q52_41, q52_42, q52_43, q52_44, q52_47, q52_49, q52_50, q52_52, q52_53, q52_54, q52_57, q52_58, q52_59, q52_59N, q52_60, q52_61, q52_62, q52_63, q52_66, q52_68, q52_69, q52_71, q52_72, q52_73, q52_76, q52_78, q52_79, q52_82, q52_84, q52_85, q52_112, q52_114, q52_117, q52_119, q52_122, q52_123, q52_125, q52_126, q52_127, q52_129, q52_130, q52_133, q52_134, q52_134N, q52_135, q52_136, q52_137, q52_138, q52_141, q52_143, q52_144, q52_146, q52_147, q52_148, q52_151, q52_154, q52_156, q52_157, q52_159, q52_162, q52_163, q52_163N, q52_164, q52_165, q52_166, q52_167, q52_170, q52_172, q52_173, q52_175, q52_176, q52_177, q52_180, q52_183, q52_185, q52_186, q52_188, q52_189, q52_192, q52_194, q52_196, q52_199, q52_200, q52_203, q52_205, q52_e, u1.1.1, u1.1.2.1, pm_rf_some, a1, e3, hu'.1]
    rcases (show (sp_te ts t).1 = 4 ∨ (sp_te ts t).1 = 5 ∨ (sp_te ts t).1 = 6 ∨ (sp_te ts t).1 = 7 by omega) with h | h | h | h
    · rw [if_pos h] at hQ
      simp only [h, show pm_tsw (nI 4) 4 [112, 127, 157] 186 = 112 by decide, q52_0, q52_1, q52_4, q52_6, q52_7, q52_9, q52_12, q52_13, q52_16, q52_17, q52_17N, q52_18, q52_19, q52_20, q52_23, q52_25, q52_26, q52_28, q52_31, q52_34, q52_35, q52_35N, q52_36, q52_37, q52_37N, q52_38, q52_41, q52_42, q52_43, q52_44, q52_47, q52_49, q52_50, q52_52, q52_53, q52_54, q52_57, q52_58, q52_59, q52_59N, q52_60, q52_61, q52_62, q52_63, q52_66, q52_68, q52_69, q52_71, q52_72, q52_73, q52_76, q52_78, q52_79, q52_82, q52_84, q52_85, q52_112, q52_114, q52_117, q52_119, q52_122, q52_123, q52_125, q52_126, q52_127, q52_129, q52_130, q52_133, q52_134, q52_134N, q52_135, q52_136, q52_137, q52_138, q52_141, q52_143, q52_144, q52_146, q52_147, q52_148, q52_151, q52_154, q52_156, q52_157, q52_159, q52_162, q52_163, q52_163N, q52_164, q52_165, q52_166, q52_167, q52_170, q52_172, q52_173, q52_175, q52_176, q52_177, q52_180, q52_183, q52_185, q52_186, q52_188, q52_189, q52_192, q52_194, q52_196, q52_199, q52_200, q52_203, q52_205, q52_e, sp_cd_n b1]
      have := hQ S1 q1 q2
      by_cases hz : X.1 < 10
      · rw [if_neg (by omega)]
        rw [if_pos hz] at this
        have e : (1 : Int32) - sp_cd X.1 = sp_cd (1 - X.1) := by
          rcases (show X.1 = 0 ∨ X.1 = 1 by omega) with h | h <;> rw [h] <;> decide
        rw [e]
        exact this
      · rw [if_pos hz]
        rw [if_neg hz] at this
        exact this
    · have h4 : ¬ (sp_te ts t).1 = 4 := by omega
      rw [if_neg h4, if_pos h] at hQ
      obtain ⟨y, hy, ey⟩ := k3 (Or.inl h)
      have hUy : sp_tU ts t = y := by unfold sp_tU; rw [ey, nI_clamp (by omega)]
      rw [hUy] at hQ
      simp only [h, show pm_tsw (nI 5) 4 [112, 127, 157] 186 = 127 by decide, q52_0, q52_1, q52_4, q52_6, q52_7, q52_9, q52_12, q52_13, q52_16, q52_17, q52_17N, q52_18, q52_19, q52_20, q52_23, q52_25, q52_26, q52_28, q52_31, q52_34, q52_35, q52_35N, q52_36, q52_37, q52_37N, q52_38, q52_41, q52_42, q52_43, q52_44, q52_47, q52_49, q52_50, q52_52, q52_53, q52_54, q52_57, q52_58, q52_59, q52_59N, q52_60, q52_61, q52_62, q52_63, q52_66, q52_68, q52_69, q52_71, q52_72, q52_73, q52_76, q52_78, q52_79, q52_82, q52_84, q52_85, q52_112, q52_114, q52_117, q52_119, q52_122, q52_123, q52_125, q52_126, q52_127, q52_129, q52_130, q52_133, q52_134, q52_134N, q52_135, q52_136, q52_137, q52_138, q52_141, q52_143, q52_144, q52_146, q52_147, q52_148, q52_151, q52_154, q52_156, q52_157, q52_159, q52_162, q52_163, q52_163N, q52_164, q52_165, q52_166, q52_167, q52_170, q52_172, q52_173, q52_175, q52_176, q52_177, q52_180, q52_183, q52_185, q52_186, q52_188, q52_189, q52_192, q52_194, q52_196, q52_199, q52_200, q52_203, q52_205, q52_e, sp_cd_1 b1, u1.1.1, u1.1.2.2.2.2.1, pm_rf_some, a2', e3, hu'.2.2.2, ey, nI_1]
      by_cases hz : X.1 = 1
      · rw [if_pos hz]
        rw [if_pos hz] at hQ
        refine hs (d + 1) wh i y (dep + 1) X.2 S1 _ (by omega) (by omega) hw hi (by omega) (b4 (by omega)).1 (b4 (by omega)).2 q1 fun S2 w1 w2 => ?_
        simp only [pm_tl_some, q52_0, q52_1, q52_4, q52_6, q52_7, q52_9, q52_12, q52_13, q52_16, q52_17, q52_17N, q52_18, q52_19, q52_20, q52_23, q52_25, q52_26, q52_28, q52_31, q52_34, q52_35, q52_35N, q52_36, q52_37, q52_37N, q52_38, q52_41, q52_42, q52_43, q52_44, q52_47, q52_49, q52_50, q52_52, q52_53, q52_54, q52_57, q52_58, q52_59, q52_59N, q52_60, q52_61, q52_62, q52_63, q52_66, q52_68, q52_69, q52_71, q52_72, q52_73, q52_76, q52_78, q52_79, q52_82, q52_84, q52_85, q52_112, q52_114, q52_117, q52_119, q52_122, q52_123, q52_125, q52_126, q52_127, q52_129, q52_130, q52_133, q52_134, q52_134N, q52_135, q52_136, q52_137, q52_138, q52_141, q52_143, q52_144, q52_146, q52_147, q52_148, q52_151, q52_154, q52_156, q52_157, q52_159, q52_162, q52_163, q52_163N, q52_164, q52_165, q52_166, q52_167, q52_170, q52_172, q52_173, q52_175, q52_176, q52_177, q52_180, q52_183, q52_185, q52_186, q52_188, q52_189, q52_192, q52_194, q52_196, q52_199, q52_200, q52_203, q52_205, q52_e]
        exact hQ S2 w1 (q2.tr w2)
      · rw [if_neg hz]
        rw [if_neg hz] at hQ
        exact hQ S1 q1 q2
    · have h4 : ¬ (sp_te ts t).1 = 4 := by omega
      have h5 : ¬ (sp_te ts t).1 = 5 := by omega
      rw [if_neg h4, if_neg h5, if_pos h] at hQ
      obtain ⟨y, hy, ey⟩ := k3 (Or.inr h)
      have hUy : sp_tU ts t = y := by unfold sp_tU; rw [ey, nI_clamp (by omega)]
      rw [hUy] at hQ
      simp only [h, show pm_tsw (nI 6) 4 [112, 127, 157] 186 = 157 by decide, q52_0, q52_1, q52_4, q52_6, q52_7, q52_9, q52_12, q52_13, q52_16, q52_17, q52_17N, q52_18, q52_19, q52_20, q52_23, q52_25, q52_26, q52_28, q52_31, q52_34, q52_35, q52_35N, q52_36, q52_37, q52_37N, q52_38, q52_41, q52_42, q52_43, q52_44, q52_47, q52_49, q52_50, q52_52, q52_53, q52_54, q52_57, q52_58, q52_59, q52_59N, q52_60, q52_61, q52_62, q52_63, q52_66, q52_68, q52_69, q52_71, q52_72, q52_73, q52_76, q52_78, q52_79, q52_82, q52_84, q52_85, q52_112, q52_114, q52_117, q52_119, q52_122, q52_123, q52_125, q52_126, q52_127, q52_129, q52_130, q52_133, q52_134, q52_134N, q52_135, q52_136, q52_137, q52_138, q52_141, q52_143, q52_144, q52_146, q52_147, q52_148, q52_151, q52_154, q52_156, q52_157, q52_159, q52_162, q52_163, q52_163N, q52_164, q52_165, q52_166, q52_167, q52_170, q52_172, q52_173, q52_175, q52_176, q52_177, q52_180, q52_183, q52_185, q52_186, q52_188, q52_189, q52_192, q52_194, q52_196, q52_199, q52_200, q52_203, q52_205, q52_e, sp_cd_0 b1, u1.1.1, u1.1.2.2.2.2.1, pm_rf_some, a2', e3, hu'.2.2.2, ey, nI_1]
      by_cases hz : X.1 = 0
      · rw [if_pos hz]
        rw [if_pos hz] at hQ
        refine hs (d + 1) wh i y (dep + 1) X.2 S1 _ (by omega) (by omega) hw hi (by omega) (b4 (by omega)).1 (b4 (by omega)).2 q1 fun S2 w1 w2 => ?_
        simp only [pm_tl_some, q52_0, q52_1, q52_4, q52_6, q52_7, q52_9, q52_12, q52_13, q52_16, q52_17, q52_17N, q52_18, q52_19, q52_20, q52_23, q52_25, q52_26, q52_28, q52_31, q52_34, q52_35, q52_35N, q52_36, q52_37, q52_37N, q52_38, q52_41, q52_42, q52_43, q52_44, q52_47, q52_49, q52_50, q52_52, q52_53, q52_54, q52_57, q52_58, q52_59, q52_59N, q52_60, q52_61, q52_62, q52_63, q52_66, q52_68, q52_69, q52_71, q52_72, q52_73, q52_76, q52_78, q52_79, q52_82, q52_84, q52_85, q52_112, q52_114, q52_117, q52_119, q52_122, q52_123, q52_125, q52_126, q52_127, q52_129, q52_130, q52_133, q52_134, q52_134N, q52_135, q52_136, q52_137, q52_138, q52_141, q52_143, q52_144, q52_146, q52_147, q52_148, q52_151, q52_154, q52_156, q52_157, q52_159, q52_162, q52_163, q52_163N, q52_164, q52_165, q52_166, q52_167, q52_170, q52_172, q52_173, q52_175, q52_176, q52_177, q52_180, q52_183, q52_185, q52_186, q52_188, q52_189, q52_192, q52_194, q52_196, q52_199, q52_200, q52_203, q52_205, q52_e]
        exact hQ S2 w1 (q2.tr w2)
      · rw [if_neg hz]
        rw [if_neg hz] at hQ
        exact hQ S1 q1 q2
    · have h4 : ¬ (sp_te ts t).1 = 4 := by omega
      have h5 : ¬ (sp_te ts t).1 = 5 := by omega
      have h6 : ¬ (sp_te ts t).1 = 6 := by omega
      rw [if_neg h4, if_neg h5, if_neg h6] at hQ
      have := hQ S1 q1 q2
      simp only [h, show pm_tsw (nI 7) 4 [112, 127, 157] 186 = 186 by decide, q52_0, q52_1, q52_4, q52_6, q52_7, q52_9, q52_12, q52_13, q52_16, q52_17, q52_17N, q52_18, q52_19, q52_20, q52_23, q52_25, q52_26, q52_28, q52_31, q52_34, q52_35, q52_35N, q52_36, q52_37, q52_37N, q52_38, q52_41, q52_42, q52_43, q52_44, q52_47, q52_49, q52_50, q52_52, q52_53, q52_54, q52_57, q52_58, q52_59, q52_59N, q52_60, q52_61, q52_62, q52_63, q52_66, q52_68, q52_69, q52_71, q52_72, q52_73, q52_76, q52_78, q52_79, q52_82, q52_84, q52_85, q52_112, q52_114, q52_117, q52_119, q52_122, q52_123, q52_125, q52_126, q52_127, q52_129, q52_130, q52_133, q52_134, q52_134N, q52_135, q52_136, q52_137, q52_138, q52_141, q52_143, q52_144, q52_146, q52_147, q52_148, q52_151, q52_154, q52_156, q52_157, q52_159, q52_162, q52_163, q52_163N, q52_164, q52_165, q52_166, q52_167, q52_170, q52_172, q52_173, q52_175, q52_176, q52_177, q52_180, q52_183, q52_185, q52_186, q52_188, q52_189, q52_192, q52_194, q52_196, q52_199, q52_200, q52_203, q52_205, q52_e, sp_cd_m1 b1, sp_cd_m2 b1]
      by_cases hz : X.1 = 11
      · rw [if_pos hz]
        rw [if_pos (Or.inl hz)] at this
        exact this
      · rw [if_neg hz]
        by_cases hz2 : X.1 = 12
        · rw [if_pos hz2]
          rw [if_pos (Or.inr hz2)] at this
          exact this
        · rw [if_neg hz2]
          rw [if_neg (by omega)] at this
          exact this
set_option maxHeartbeats 4000000 in
theorem c_say (ho : sp_ok C) (hk : sp_tok ts) : ∀ n, cSay C ts a g n := by
  intro n
  induction n with
  | zero => intro d wh i t dep st S Q h; omega
  | succ n ih =>
    intro d wh i t dep st S Q ht htl hw hi hdp h1 h2 hT hQ
    obtain ⟨t1, t2, t3, t4, t5, t6, t7⟩ := id hT
    have hl := hk.1
    obtain ⟨k1, k2, k3⟩ := hk.2 t htl
    have hm := cC_m t3 t4
    have hn := cC_n t3 t4
    have e1 := pm_ar_nI t1.1.2.2.2.2.2.1 (show t < 20 by omega) (by decide)
    have e3 := nI_clamp (show t < 2 ^ 31 by omega)
    have ht' := t1.2.2 t htl
    have c1 : sp_tin (nI t) (nI ts.length) = true := by
      unfold sp_tin
      rw [decide_eq_true_iff]
      exact ⟨nI_pos' (by omega), nI_lt htl (by omega), nI_lt (b := 20) (by omega) (by decide)⟩
    have c2 : nI dep < 20 := nI_lt (b := 20) (by omega) (by decide)
    have c3 : ∀ x, pm_N (3 * n + 4 + d + 2) 20 [.ref (if nI wh = 0 then g + 1 else g + 5), .int (nI i)] S x = x (some (.int 1)) S := by
      intro x
      rcases hw with rfl | rfl
      · have hi : i < C.2.1.length := hi
        rw [if_pos (show nI 0 = 0 from rfl), c_hasN t2.2.2.2.2.2.2.2.2.1.1 hn.1 (by omega) (by omega), if_pos hi]
      · have hi : i < C.2.2.1.length := hi
        rw [if_neg (by decide), c_hasN t2.2.2.2.2.2.2.2.2.2.1.1 hm.1 (by omega) (by omega), if_pos hi]
    have c4 : pm_sh S (if nI wh = 0 then g + 1 else g + 5) = .inr 3 := by
      split
      · exact t2.2.2.2.2.2.2.2.2.1.1
      · exact t2.2.2.2.2.2.2.2.2.2.1.1
    have e5 : pm_gi S a 5 + 1 = nI (st.1 + 1) := by rw [t5, nI_1]
    obtain ⟨g1, g2⟩ := gT_5 (s := st.1 + 1) hT e5
    have le2 : (nI (st.1 + 1) ≤ 2000) = (st.1 + 1 ≤ 2000) := nI_le' (b := 2000) (by omega) (by decide)
    rw [show 3 * (n + 1) + 4 + d = 3 * n + 4 + d + 3 by omega]
    rw [e5] at g1 g2
    simp only [q50_0, q50_1, q50_3, q50_6, q50_9, q50_11, q50_13, q50_16, q50_16N, q50_17, q50_18, q50_21, q50_22, q50_25, q50_28, q50_30, q50_31, q50_32, q50_33, q50_36, q50_37, q50_38, q50_41, q50_42, q50_45, q50_48, q50_51, q50_53, q50_54, q50_55, q50_58, q50_60, q50_61, q50_62, q50_65, q50_66, q50_66N, q50_67, q50_68, q50_69, q50_71, q50_74, q50_77, q50_78, q50_78N, q50_79, q50_80, q50_81, q50_83, q50_85, q50_88, q50_e, t1.1.1, c_tHas t1.1, t1.2.1, c1, if_true, pm_tl_some, show ¬ (1 : Int32) = 0 by decide, if_false, c2, t2.1, c_items t2, c4, c3, e5, ps_gi_nx, ps_gi_sz, ps_gi_sh, ps_gi_gi, ps_gi_gl, ps_gi_gr, ps_gi_zi, ps_gi_zl, ps_gi_zr, ps_gi_ar, ps_gi_al, ps_gl_nx, ps_gl_sz, ps_gl_sh, ps_gl_gi, ps_gl_gl, ps_gl_gr, ps_gl_zi, ps_gl_zl, ps_gl_zr, ps_gl_ar, ps_gl_al, ps_gr_nx, ps_gr_sz, ps_gr_sh, ps_gr_gi, ps_gr_gl, ps_gr_gr, ps_gr_zi, ps_gr_zl, ps_gr_zr, ps_gr_ar, ps_gr_al, ps_zi_nx, ps_zi_sz, ps_zi_sh, ps_zi_gi, ps_zi_gl, ps_zi_gr, ps_zi_zi, ps_zi_zl, ps_zi_zr, ps_zi_ar, ps_zi_al, ps_zl_nx, ps_zl_sz, ps_zl_sh, ps_zl_gi, ps_zl_gl, ps_zl_gr, ps_zl_zi, ps_zl_zl, ps_zl_zr, ps_zl_ar, ps_zl_al, ps_zr_nx, ps_zr_sz, ps_zr_sh, ps_zr_gi, ps_zr_gl, ps_zr_gr, ps_zr_zi, ps_zr_zl, ps_zr_zr, ps_zr_ar, ps_zr_al, pm_rf_some, pm_rf_none, pm_tl_some, pm_tl_none, and_self, le2]
    by_cases hs : st.1 + 1 ≤ 2000
    · rw [if_pos hs]
      have e1' : pm_ar (pm_sgi S a 5 (nI (st.1 + 1))) (a + 1) 0 (nI t) = true := e1
      simp only [q50_0, q50_1, q50_3, q50_6, q50_9, q50_11, q50_13, q50_16, q50_16N, q50_17, q50_18, q50_21, q50_22, q50_25, q50_28, q50_30, q50_31, q50_32, q50_33, q50_36, q50_37, q50_38, q50_41, q50_42, q50_45, q50_48, q50_51, q50_53, q50_54, q50_55, q50_58, q50_60, q50_61, q50_62, q50_65, q50_66, q50_66N, q50_67, q50_68, q50_69, q50_71, q50_74, q50_77, q50_78, q50_78N, q50_79, q50_80, q50_81, q50_83, q50_85, q50_88, q50_e, ps_gi_nx, ps_gi_sz, ps_gi_sh, ps_gi_gi, ps_gi_gl, ps_gi_gr, ps_gi_zi, ps_gi_zl, ps_gi_zr, ps_gi_ar, ps_gi_al, ps_gl_nx, ps_gl_sz, ps_gl_sh, ps_gl_gi, ps_gl_gl, ps_gl_gr, ps_gl_zi, ps_gl_zl, ps_gl_zr, ps_gl_ar, ps_gl_al, ps_gr_nx, ps_gr_sz, ps_gr_sh, ps_gr_gi, ps_gr_gl, ps_gr_gr, ps_gr_zi, ps_gr_zl, ps_gr_zr, ps_gr_ar, ps_gr_al, ps_zi_nx, ps_zi_sz, ps_zi_sh, ps_zi_gi, ps_zi_gl, ps_zi_gr, ps_zi_zi, ps_zi_zl, ps_zi_zr, ps_zi_ar, ps_zi_al, ps_zl_nx, ps_zl_sz, ps_zl_sh, ps_zl_gi, ps_zl_gl, ps_zl_gr, ps_zl_zi, ps_zl_zl, ps_zl_zr, ps_zl_ar, ps_zl_al, ps_zr_nx, ps_zr_sz, ps_zr_sh, ps_zr_gi, ps_zr_gl, ps_zr_gr, ps_zr_zi, ps_zr_zl, ps_zr_zr, ps_zr_ar, ps_zr_al, pm_rf_some, pm_rf_none, pm_tl_some, pm_tl_none, t1.1.1, t1.1.2.1, pm_rf_some, e1, e3, ht'.1]
      by_cases hl4 : (sp_te ts t).1 < 4
      · have lt : nI (sp_te ts t).1 < 4 := nI_lt (b := 4) hl4 (by decide)
        simp only [lt, if_true, q50_0, q50_1, q50_3, q50_6, q50_9, q50_11, q50_13, q50_16, q50_16N, q50_17, q50_18, q50_21, q50_22, q50_25, q50_28, q50_30, q50_31, q50_32, q50_33, q50_36, q50_37, q50_38, q50_41, q50_42, q50_45, q50_48, q50_51, q50_53, q50_54, q50_55, q50_58, q50_60, q50_61, q50_62, q50_65, q50_66, q50_66N, q50_67, q50_68, q50_69, q50_71, q50_74, q50_77, q50_78, q50_78N, q50_79, q50_80, q50_81, q50_83, q50_85, q50_88, q50_e, ps_gi_nx, ps_gi_sz, ps_gi_sh, ps_gi_gi, ps_gi_gl, ps_gi_gr, ps_gi_zi, ps_gi_zl, ps_gi_zr, ps_gi_ar, ps_gi_al, ps_gl_nx, ps_gl_sz, ps_gl_sh, ps_gl_gi, ps_gl_gl, ps_gl_gr, ps_gl_zi, ps_gl_zl, ps_gl_zr, ps_gl_ar, ps_gl_al, ps_gr_nx, ps_gr_sz, ps_gr_sh, ps_gr_gi, ps_gr_gl, ps_gr_gr, ps_gr_zi, ps_gr_zl, ps_gr_zr, ps_gr_ar, ps_gr_al, ps_zi_nx, ps_zi_sz, ps_zi_sh, ps_zi_gi, ps_zi_gl, ps_zi_gr, ps_zi_zi, ps_zi_zl, ps_zi_zr, ps_zi_ar, ps_zi_al, ps_zl_nx, ps_zl_sz, ps_zl_sh, ps_zl_gi, ps_zl_gl, ps_zl_gr, ps_zl_zi, ps_zl_zl, ps_zl_zr, ps_zl_ar, ps_zl_al, ps_zr_nx, ps_zr_sz, ps_zr_sh, ps_zr_gi, ps_zr_gl, ps_zr_gr, ps_zr_zi, ps_zr_zl, ps_zr_zr, ps_zr_ar, ps_zr_al, pm_rf_some, pm_rf_none, pm_tl_some, pm_tl_none, t1.1.1]
        refine c_sayOfItem g1 ho hw hi htl hl hl4 h2 fun S' q1 q2 => ?_
        simp only [pm_tl_some, q50_0, q50_1, q50_3, q50_6, q50_9, q50_11, q50_13, q50_16, q50_16N, q50_17, q50_18, q50_21, q50_22, q50_25, q50_28, q50_30, q50_31, q50_32, q50_33, q50_36, q50_37, q50_38, q50_41, q50_42, q50_45, q50_48, q50_51, q50_53, q50_54, q50_55, q50_58, q50_60, q50_61, q50_62, q50_65, q50_66, q50_66N, q50_67, q50_68, q50_69, q50_71, q50_74, q50_77, q50_78, q50_78N, q50_79, q50_80, q50_81, q50_83, q50_85, q50_88, q50_e]
        unfold sp_say at hQ
        rw [if_neg (by omega), if_pos hl4] at hQ
        exact hQ S' q1 (g2.tr q2)
      · have lt : ¬ nI (sp_te ts t).1 < 4 := nI_nlt (b := 4) (by omega) (by omega)
        simp only [lt, if_false, q50_0, q50_1, q50_3, q50_6, q50_9, q50_11, q50_13, q50_16, q50_16N, q50_17, q50_18, q50_21, q50_22, q50_25, q50_28, q50_30, q50_31, q50_32, q50_33, q50_36, q50_37, q50_38, q50_41, q50_42, q50_45, q50_48, q50_51, q50_53, q50_54, q50_55, q50_58, q50_60, q50_61, q50_62, q50_65, q50_66, q50_66N, q50_67, q50_68, q50_69, q50_71, q50_74, q50_77, q50_78, q50_78N, q50_79, q50_80, q50_81, q50_83, q50_85, q50_88, q50_e, ps_gi_nx, ps_gi_sz, ps_gi_sh, ps_gi_gi, ps_gi_gl, ps_gi_gr, ps_gi_zi, ps_gi_zl, ps_gi_zr, ps_gi_ar, ps_gi_al, ps_gl_nx, ps_gl_sz, ps_gl_sh, ps_gl_gi, ps_gl_gl, ps_gl_gr, ps_gl_zi, ps_gl_zl, ps_gl_zr, ps_gl_ar, ps_gl_al, ps_gr_nx, ps_gr_sz, ps_gr_sh, ps_gr_gi, ps_gr_gl, ps_gr_gr, ps_gr_zi, ps_gr_zl, ps_gr_zr, ps_gr_ar, ps_gr_al, ps_zi_nx, ps_zi_sz, ps_zi_sh, ps_zi_gi, ps_zi_gl, ps_zi_gr, ps_zi_zi, ps_zi_zl, ps_zi_zr, ps_zi_ar, ps_zi_al, ps_zl_nx, ps_zl_sz, ps_zl_sh, ps_zl_gi, ps_zl_gl, ps_zl_gr, ps_zl_zi, ps_zl_zl, ps_zl_zr, ps_zl_ar, ps_zl_al, ps_zr_nx, ps_zr_sz, ps_zr_sh, ps_zr_gi, ps_zr_gl, ps_zr_gr, ps_zr_zi, ps_zr_zl, ps_zr_zr, ps_zr_ar, ps_zr_al, pm_rf_some, pm_rf_none, pm_tl_some, pm_tl_none, t1.1.1]
        refine c_sayOfParts ih ho hk ht htl hw hi hdp hs h2 hl4 g1 fun S' q1 q2 => ?_
        simp only [pm_tl_some, q50_0, q50_1, q50_3, q50_6, q50_9, q50_11, q50_13, q50_16, q50_16N, q50_17, q50_18, q50_21, q50_22, q50_25, q50_28, q50_30, q50_31, q50_32, q50_33, q50_36, q50_37, q50_38, q50_41, q50_42, q50_45, q50_48, q50_51, q50_53, q50_54, q50_55, q50_58, q50_60, q50_61, q50_62, q50_65, q50_66, q50_66N, q50_67, q50_68, q50_69, q50_71, q50_74, q50_77, q50_78, q50_78N, q50_79, q50_80, q50_81, q50_83, q50_85, q50_88, q50_e]
        exact hQ S' q1 (g2.tr q2)
    · rw [if_neg hs]
      unfold sp_say at hQ
      rw [if_pos (by omega)] at hQ
      exact hQ _ g1 g2
end
