/-! ===== the class: what tests say, of parts ===== -/
/-- say keeps step, for tests below n -/
def cSay (C : sp_C) (ts : List sp_Te) (a g n : Nat) : Prop := ∀ (d wh i t dep : Nat) (st : Nat × Nat) (S : pm_T) (Q : Option Value → pm_T → Prop), t < n → t < ts.length → (wh = 0 ∨ wh = 1) → i < sp_len C wh → dep + t < 20 → st.1 ≤ 2000 → st.2 ≤ 8 → gT S a g C ts st →
  (∀ S', gT S' a g C ts (sp_say C ts n wh i t st).2 → sp_fr (fun b => b = a) S S' → Q (some (.int (sp_cd (sp_say C ts n wh i t st).1))) S') →
  pm_N (3 * n + 4 + d) 49 [.ref a, .ref g, .int (nI wh), .int (nI i), .int (nI t), .int (nI dep)] S Q
theorem sp_cd_0 {r : Nat} (h : r = 0 ∨ r = 1 ∨ r = 11 ∨ r = 12 ∨ r = 15) : (sp_cd r = 0) = (r = 0) := by
  rcases h with rfl | rfl | rfl | rfl | rfl <;> decide
theorem sp_cd_1 {r : Nat} (h : r = 0 ∨ r = 1 ∨ r = 11 ∨ r = 12 ∨ r = 15) : (sp_cd r = 1) = (r = 1) := by
  rcases h with rfl | rfl | rfl | rfl | rfl <;> decide
theorem sp_cd_n {r : Nat} (h : r = 0 ∨ r = 1 ∨ r = 11 ∨ r = 12 ∨ r = 15) : (sp_cd r < 0) = (¬ r < 10) := by
  rcases h with rfl | rfl | rfl | rfl | rfl <;> decide
theorem sp_cd_m1 {r : Nat} (h : r = 0 ∨ r = 1 ∨ r = 11 ∨ r = 12 ∨ r = 15) : (sp_cd r = -1) = (r = 11) := by
  rcases h with rfl | rfl | rfl | rfl | rfl <;> decide
theorem sp_cd_m2 {r : Nat} (h : r = 0 ∨ r = 1 ∨ r = 11 ∨ r = 12 ∨ r = 15) : (sp_cd r = -2) = (r = 12) := by
  rcases h with rfl | rfl | rfl | rfl | rfl <;> decide
section
variable {d a g n k : Nat} {S : pm_T} {Q : Option Value → pm_T → Prop} {C : sp_C} {ts : List sp_Te} {st : Nat × Nat}
set_option maxHeartbeats 4000000 in
theorem c_someNext {i t dep : Nat} (hs : cSay C ts a g n) (ho : sp_ok C) (ht : t < n) (htl : t < ts.length) (hi : i < 40) (hdp : dep + 1 + t < 20) :
    ∀ (m e : Nat) (st : Nat × Nat) (S : pm_T) (l : Value), e + m = C.2.2.1.length → st.1 ≤ 2000 → st.2 ≤ 8 → gT S a g C ts st →
    (∀ S', gT S' a g C ts (sp_nxt (fun j st => sp_say C ts n 0 j t st) C i m e st).2 → sp_fr (fun b => b = a) S S' → Q (some (.int (sp_cd (sp_nxt (fun j st => sp_say C ts n 0 j t st) C i m e st).1))) S') →
    pm_V (3 * n + 4 + d + 1) 52 3 [.ref a, .ref g, .int (nI i), .int (nI t), .int (nI dep), .int (nI e), l] [] S Q := by
  intro m
  induction m with
  | zero =>
    intro e st S l he h1 h2 hT hQ
    obtain ⟨t1, t2, t3, t4, t5, t6, t7⟩ := id hT
    have hm := cC_m t3 t4
    have e1 : ¬ nI e < nI C.2.2.1.length := nI_nlt (by omega) (by omega)
    rw [q52_3]
    simp only [q52_0, q52_1, q52_5, q52_5N, q52_6, q52_9, q52_12, q52_15, q52_15N, q52_16, q52_19, q52_21, q52_22, q52_23, q52_26, q52_27, q52_27N, q52_28, q52_29, q52_29N, q52_30, q52_33, q52_35, q52_36, q52_37, q52_39, q52_40, q52_41, q52_44, q52_46, q52_48, q52_51, q52_53, q52_54, q52_57, q52_60, q52_61, q52_e, t2.1, t2.2.1, t2.2.2.1, t2.2.2.2.1, t2.2.2.2.2.1, t2.2.2.2.2.2.1, t2.2.2.2.2.2.2.2.2.1.1, t2.2.2.2.2.2.2.2.2.1.2.1, t2.2.2.2.2.2.2.2.2.1.2.2.1, t2.2.2.2.2.2.2.2.2.1.2.2.2.1, t2.2.2.2.2.2.2.2.2.2.1.1, t2.2.2.2.2.2.2.2.2.2.1.2.1, t2.2.2.2.2.2.2.2.2.2.1.2.2.1, t2.2.2.2.2.2.2.2.2.2.1.2.2.2.1, t2.2.2.2.2.2.2.2.2.2.2.1, t2.2.2.2.2.2.2.2.2.2.2.2.1, t2.2.2.2.2.2.2.2.2.2.2.2.2.1, t2.2.2.2.2.2.2.2.2.2.2.2.2.2.1, pm_rf_some, hm.1, e1, if_false]
    exact hQ S hT sp_fr.rf
  | succ m ih =>
    intro e st S l he h1 h2 hT hQ
    obtain ⟨t1, t2, t3, t4, t5, t6, t7⟩ := id hT
    have hm := cC_m t3 t4
    have hn := cC_n t3 t4
    have he1 : e < C.2.2.1.length := by omega
    have he2 : e < 120 := by omega
    have oe := ho e he1
    have e1 : nI e < nI C.2.2.1.length := nI_lt he1 (by omega)
    rw [q52_3]
    simp only [q52_0, q52_1, q52_5, q52_5N, q52_6, q52_9, q52_12, q52_15, q52_15N, q52_16, q52_19, q52_21, q52_22, q52_23, q52_26, q52_27, q52_27N, q52_28, q52_29, q52_29N, q52_30, q52_33, q52_35, q52_36, q52_37, q52_39, q52_40, q52_41, q52_44, q52_46, q52_48, q52_51, q52_53, q52_54, q52_57, q52_60, q52_61, q52_e, t2.1, t2.2.1, t2.2.2.1, t2.2.2.2.1, t2.2.2.2.2.1, t2.2.2.2.2.2.1, t2.2.2.2.2.2.2.2.2.1.1, t2.2.2.2.2.2.2.2.2.1.2.1, t2.2.2.2.2.2.2.2.2.1.2.2.1, t2.2.2.2.2.2.2.2.2.1.2.2.2.1, t2.2.2.2.2.2.2.2.2.2.1.1, t2.2.2.2.2.2.2.2.2.2.1.2.1, t2.2.2.2.2.2.2.2.2.2.1.2.2.1, t2.2.2.2.2.2.2.2.2.2.1.2.2.2.1, t2.2.2.2.2.2.2.2.2.2.2.1, t2.2.2.2.2.2.2.2.2.2.2.2.1, t2.2.2.2.2.2.2.2.2.2.2.2.2.1, t2.2.2.2.2.2.2.2.2.2.2.2.2.2.1, pm_rf_some, t1.1.1, hm.1, e1, if_true, gr9 t2 he2, gr10 t2 he2, gr6 t2 he2, gr7 t2 he2, gr8 t2 he2, nc12 he2, (cC_ae t3 t4 he1).1, (cC_ae t3 t4 he1).2.1, nI_e' (show (sp_ar C e).1 < 2 ^ 31 by omega) (show i < 2 ^ 31 by omega), nI_1]
    by_cases hc : (sp_ar C e).1 = i
    · rw [if_pos hc]
      have hb := sp_say_b (C := C) (ts := ts) n 0 (sp_ar C e).2.1 t st h1 h2
      refine hs d 0 (sp_ar C e).2.1 t (dep + 1) st S _ ht htl (Or.inl rfl) oe.2 hdp h1 h2 hT fun S' q1 q2 => ?_
      simp only [pm_tl_some, q52_0, q52_1, q52_5, q52_5N, q52_6, q52_9, q52_12, q52_15, q52_15N, q52_16, q52_19, q52_21, q52_22, q52_23, q52_26, q52_27, q52_27N, q52_28, q52_29, q52_29N, q52_30, q52_33, q52_35, q52_36, q52_37, q52_39, q52_40, q52_41, q52_44, q52_46, q52_48, q52_51, q52_53, q52_54, q52_57, q52_60, q52_61, q52_e, nI_1]
      unfold sp_nxt at hQ
      rw [if_pos hc] at hQ
      by_cases hz : (sp_say C ts n 0 (sp_ar C e).2.1 t st).1 = 0
      · rw [if_pos (show sp_cd (sp_say C ts n 0 (sp_ar C e).2.1 t st).1 = 0 by rw [sp_cd_0 hb.1]; exact hz)]
        rw [if_pos hz] at hQ
        exact ih (e + 1) _ S' _ (by omega) (hb.2.2.2 (by omega)).1 (hb.2.2.2 (by omega)).2 q1 (fun S'' w1 w2 => hQ S'' w1 (q2.tr w2))
      · rw [if_neg (show ¬ sp_cd (sp_say C ts n 0 (sp_ar C e).2.1 t st).1 = 0 by rw [sp_cd_0 hb.1]; exact hz)]
        rw [if_neg hz] at hQ
        exact hQ S' q1 q2
    · rw [if_neg hc]
      refine ih (e + 1) st S _ (by omega) h1 h2 hT ?_
      unfold sp_nxt at hQ
      rw [if_neg hc] at hQ
      exact hQ
set_option maxHeartbeats 8000000 in
theorem c_sayOfParts {wh i t dep : Nat} (hs : cSay C ts a g n) (ho : sp_ok C) (hk : sp_tok ts) (ht : t < n + 1) (htl : t < ts.length) (hw : wh = 0 ∨ wh = 1) (hi : i < sp_len C wh) (hdp : dep + t < 20) (h1 : st.1 + 1 ≤ 2000) (h2 : st.2 ≤ 8) (hs4 : ¬ (sp_te ts t).1 < 4) (hT : gT S a g C ts (st.1 + 1, st.2))
    (hQ : ∀ S', gT S' a g C ts (sp_say C ts (n + 1) wh i t st).2 → sp_fr (fun b => b = a) S S' → Q (some (.int (sp_cd (sp_say C ts (n + 1) wh i t st).1))) S') :
    pm_N (3 * n + 4 + d + 2) 51 [.ref a, .ref g, .int (nI wh), .int (nI i), .int (nI t), .int (nI dep)] S Q := by
  obtain ⟨t1, t2, t3, t4, t5, t6, t7⟩ := id hT
  have hm := cC_m t3 t4
  have hn := cC_n t3 t4
  have hl := hk.1
  obtain ⟨k1, k2, k3⟩ := hk.2 t htl
  obtain ⟨x, hx, ex⟩ := k2 (by omega)
  have e1 := pm_ar_nI t1.1.2.2.2.2.2.1 (show t < 20 by omega) (by decide)
  have e2 := pm_ar_nI t1.1.2.2.2.2.2.2.2.1 (show t < 20 by omega) (by decide)
  have e2' := pm_ar_nI t1.1.2.2.2.2.2.2.2.2 (show t < 20 by omega) (by decide)
  have e3 := nI_clamp (show t < 2 ^ 31 by omega)
  have ht' := t1.2.2 t htl
  have hTx : sp_tT ts t = x := by unfold sp_tT; rw [ex, nI_clamp (by omega)]
  have st2 : ¬ 2000 ≤ st.1 := by omega
  unfold sp_say at hQ
  rw [if_neg st2, if_neg hs4, hTx] at hQ
  by_cases h8 : (sp_te ts t).1 = 8
  · rw [if_pos h8] at hQ
    rcases hw with rfl | rfl
    · have hi40 : i < 40 := by have : i < C.2.1.length := hi
                               omega
      rw [if_pos rfl] at hQ
      simp only [q51_0, q51_1, q51_4, q51_6, q51_7, q51_9, q51_12, q51_13, q51_16, q51_17, q51_17N, q51_18, q51_19, q51_20, q51_23, q51_25, q51_26, q51_28, q51_31, q51_34, q51_35, q51_35N, q51_36, q51_37, q51_37N, q51_38, q51_41, q51_42, q51_43, q51_44, q51_47, q51_49, q51_50, q51_52, q51_53, q51_54, q51_57, q51_58, q51_59, q51_59N, q51_60, q51_61, q51_62, q51_63, q51_66, q51_68, q51_69, q51_71, q51_72, q51_73, q51_76, q51_78, q51_79, q51_82, q51_84, q51_85, q51_112, q51_114, q51_117, q51_119, q51_122, q51_123, q51_125, q51_126, q51_127, q51_129, q51_130, q51_133, q51_134, q51_134N, q51_135, q51_136, q51_137, q51_138, q51_141, q51_143, q51_144, q51_146, q51_147, q51_148, q51_151, q51_154, q51_156, q51_157, q51_159, q51_162, q51_163, q51_163N, q51_164, q51_165, q51_166, q51_167, q51_170, q51_172, q51_173, q51_175, q51_176, q51_177, q51_180, q51_183, q51_185, q51_186, q51_188, q51_189, q51_192, q51_194, q51_196, q51_199, q51_200, q51_203, q51_205, q51_e, t1.1.1, t1.1.2.1, t1.1.2.2.2.1, pm_rf_some, e1, e2, e3, ht'.1, h8, show nI 8 = 8 from rfl, if_true, nI_0', ht'.2.2.1, ex]
      simp only [q52_0, q52_1, q52_5, q52_5N, q52_6, q52_9, q52_12, q52_15, q52_15N, q52_16, q52_19, q52_21, q52_22, q52_23, q52_26, q52_27, q52_27N, q52_28, q52_29, q52_29N, q52_30, q52_33, q52_35, q52_36, q52_37, q52_39, q52_40, q52_41, q52_44, q52_46, q52_48, q52_51, q52_53, q52_54, q52_57, q52_60, q52_61, q52_e]
      refine c_someNext hs ho (by omega) (by omega) hi40 (by omega) C.2.2.1.length 0 (st.1 + 1, st.2) S _ (by omega) (by omega) h2 hT fun S' q1 q2 => ?_
      simp only [pm_tl_some, q51_0, q51_1, q51_4, q51_6, q51_7, q51_9, q51_12, q51_13, q51_16, q51_17, q51_17N, q51_18, q51_19, q51_20, q51_23, q51_25, q51_26, q51_28, q51_31, q51_34, q51_35, q51_35N, q51_36, q51_37, q51_37N, q51_38, q51_41, q51_42, q51_43, q51_44, q51_47, q51_49, q51_50, q51_52, q51_53, q51_54, q51_57, q51_58, q51_59, q51_59N, q51_60, q51_61, q51_62, q51_63, q51_66, q51_68, q51_69, q51_71, q51_72, q51_73, q51_76, q51_78, q51_79, q51_82, q51_84, q51_85, q51_112, q51_114, q51_117, q51_119, q51_122, q51_123, q51_125, q51_126, q51_127, q51_129, q51_130, q51_133, q51_134, q51_134N, q51_135, q51_136, q51_137, q51_138, q51_141, q51_143, q51_144, q51_146, q51_147, q51_148, q51_151, q51_154, q51_156, q51_157, q51_159, q51_162, q51_163, q51_163N, q51_164, q51_165, q51_166, q51_167, q51_170, q51_172, q51_173, q51_175, q51_176, q51_177, q51_180, q51_183, q51_185, q51_186, q51_188, q51_189, q51_192, q51_194, q51_196, q51_199, q51_200, q51_203, q51_205, q51_e]
      exact hQ S' q1 q2
    · have hi1 : i < C.2.2.1.length := hi
      have hi2 : i < 120 := by omega
      have oe := ho i hi1
      rw [if_neg (by decide)] at hQ
      simp only [q51_0, q51_1, q51_4, q51_6, q51_7, q51_9, q51_12, q51_13, q51_16, q51_17, q51_17N, q51_18, q51_19, q51_20, q51_23, q51_25, q51_26, q51_28, q51_31, q51_34, q51_35, q51_35N, q51_36, q51_37, q51_37N, q51_38, q51_41, q51_42, q51_43, q51_44, q51_47, q51_49, q51_50, q51_52, q51_53, q51_54, q51_57, q51_58, q51_59, q51_59N, q51_60, q51_61, q51_62, q51_63, q51_66, q51_68, q51_69, q51_71, q51_72, q51_73, q51_76, q51_78, q51_79, q51_82, q51_84, q51_85, q51_112, q51_114, q51_117, q51_119, q51_122, q51_123, q51_125, q51_126, q51_127, q51_129, q51_130, q51_133, q51_134, q51_134N, q51_135, q51_136, q51_137, q51_138, q51_141, q51_143, q51_144, q51_146, q51_147, q51_148, q51_151, q51_154, q51_156, q51_157, q51_159, q51_162, q51_163, q51_163N, q51_164, q51_165, q51_166, q51_167, q51_170, q51_172, q51_173, q51_175, q51_176, q51_177, q51_180, q51_183, q51_185, q51_186, q51_188, q51_189, q51_192, q51_194, q51_196, q51_199, q51_200, q51_203, q51_205, q51_e, t2.1, t2.2.1, t2.2.2.1, t2.2.2.2.1, t2.2.2.2.2.1, t2.2.2.2.2.2.1, t2.2.2.2.2.2.2.2.2.1.1, t2.2.2.2.2.2.2.2.2.1.2.1, t2.2.2.2.2.2.2.2.2.1.2.2.1, t2.2.2.2.2.2.2.2.2.1.2.2.2.1, t2.2.2.2.2.2.2.2.2.2.1.1, t2.2.2.2.2.2.2.2.2.2.1.2.1, t2.2.2.2.2.2.2.2.2.2.1.2.2.1, t2.2.2.2.2.2.2.2.2.2.1.2.2.2.1, t2.2.2.2.2.2.2.2.2.2.2.1, t2.2.2.2.2.2.2.2.2.2.2.2.1, t2.2.2.2.2.2.2.2.2.2.2.2.2.1, t2.2.2.2.2.2.2.2.2.2.2.2.2.2.1, pm_rf_some, t1.1.1, t1.1.2.1, t1.1.2.2.2.1, pm_rf_some, e1, e2, e3, ht'.1, h8, show nI 8 = 8 from rfl, if_true, nI_1', show ¬ (1 : Int32) = 0 by decide, if_false, ht'.2.2.1, ex, gr9 t2 hi2, gr10 t2 hi2, gr6 t2 hi2, gr7 t2 hi2, gr8 t2 hi2, nc12 hi2, (cC_ae t3 t4 hi1).2.1, nI_1]
      refine hs (d + 1) 0 (sp_ar C i).2.1 x (dep + 1) (st.1 + 1, st.2) S _ (by omega) (by omega) (Or.inl rfl) oe.2 (by omega) h1 h2 hT fun S' q1 q2 => ?_
      simp only [pm_tl_some, q51_0, q51_1, q51_4, q51_6, q51_7, q51_9, q51_12, q51_13, q51_16, q51_17, q51_17N, q51_18, q51_19, q51_20, q51_23, q51_25, q51_26, q51_28, q51_31, q51_34, q51_35, q51_35N, q51_36, q51_37, q51_37N, q51_38, q51_41, q51_42, q51_43, q51_44, q51_47, q51_49, q51_50, q51_52, q51_53, q51_54, q51_57, q51_58, q51_59, q51_59N, q51_60, q51_61, q51_62, q51_63, q51_66, q51_68, q51_69, q51_71, q51_72, q51_73, q51_76, q51_78, q51_79, q51_82, q51_84, q51_85, q51_112, q51_114, q51_117, q51_119, q51_122, q51_123, q51_125, q51_126, q51_127, q51_129, q51_130, q51_133, q51_134, q51_134N, q51_135, q51_136, q51_137, q51_138, q51_141, q51_143, q51_144, q51_146, q51_147, q51_148, q51_151, q51_154, q51_156, q51_157, q51_159, q51_162, q51_163, q51_163N, q51_164, q51_165, q51_166, q51_167, q51_170, q51_172, q51_173, q51_175, q51_176, q51_177, q51_180, q51_183, q51_185, q51_186, q51_188, q51_189, q51_192, q51_194, q51_196, q51_199, q51_200, q51_203, q51_205, q51_e]
      exact hQ S' q1 q2
  · rw [if_neg h8] at hQ
    have hb := sp_say_b (C := C) (ts := ts) n wh i x (st.1 + 1, st.2) h1 h2
    dsimp only at hQ
    have h8' : ¬ nI (sp_te ts t).1 = 8 := fun q => h8 ((nI_eq (a := (sp_te ts t).1) (b := 8) (by omega) (by decide)).mp q)
    simp only [q51_0, q51_1, q51_4, q51_6, q51_7, q51_9, q51_12, q51_13, q51_16, q51_17, q51_17N, q51_18, q51_19, q51_20, q51_23, q51_25, q51_26, q51_28, q51_31, q51_34, q51_35, q51_35N, q51_36, q51_37, q51_37N, q51_38, q51_41, q51_42, q51_43, q51_44, q51_47, q51_49, q51_50, q51_52, q51_53, q51_54, q51_57, q51_58, q51_59, q51_59N, q51_60, q51_61, q51_62, q51_63, q51_66, q51_68, q51_69, q51_71, q51_72, q51_73, q51_76, q51_78, q51_79, q51_82, q51_84, q51_85, q51_112, q51_114, q51_117, q51_119, q51_122, q51_123, q51_125, q51_126, q51_127, q51_129, q51_130, q51_133, q51_134, q51_134N, q51_135, q51_136, q51_137, q51_138, q51_141, q51_143, q51_144, q51_146, q51_147, q51_148, q51_151, q51_154, q51_156, q51_157, q51_159, q51_162, q51_163, q51_163N, q51_164, q51_165, q51_166, q51_167, q51_170, q51_172, q51_173, q51_175, q51_176, q51_177, q51_180, q51_183, q51_185, q51_186, q51_188, q51_189, q51_192, q51_194, q51_196, q51_199, q51_200, q51_203, q51_205, q51_e, t1.1.1, t1.1.2.1, t1.1.2.2.2.1, pm_rf_some, e1, e2, e3, ht'.1, h8', if_false, ht'.2.2.1, ex, nI_1]
    refine hs (d + 1) wh i x (dep + 1) (st.1 + 1, st.2) S _ (by omega) (by omega) hw hi (by omega) h1 h2 hT fun S1 q1 q2 => ?_
    generalize hX : sp_say C ts n wh i x (st.1 + 1, st.2) = X at *
    obtain ⟨b1, b2, b3, b4⟩ := hb
    obtain ⟨u1, u2, u3, u4, u5, u6, u7⟩ := id q1
    have a1 := pm_ar_nI u1.1.2.2.2.2.2.1 (show t < 20 by omega) (by decide)
    have a2' := pm_ar_nI u1.1.2.2.2.2.2.2.2.2 (show t < 20 by omega) (by decide)
    have hu' := u1.2.2 t htl
    simp only [pm_tl_some, q51_0, q51_1, q51_4, q51_6, q51_7, q51_9, q51_12, q51_13, q51_16, q51_17, q51_17N, q51_18, q51_19, q51_20, q51_23, q51_25, q51_26, q51_28, q51_31, q51_34, q51_35, q51_35N, q51_36, q51_37, q51_37N, q51_38, q51_41, q51_42, q51_43, q51_44, q51_47, q51_49, q51_50, q51_52, q51_53, q51_54, q51_57, q51_58, q51_59, q51_59N, q51_60, q51_61, q51_62, q51_63, q51_66, q51_68, q51_69, q51_71, q51_72, q51_73, q51_76, q51_78, q51_79, q51_82, q51_84, q51_85, q51_112, q51_114, q51_117, q51_119, q51_122, q51_123, q51_125, q51_126, q51_127, q51_129, q51_130, q51_133, q51_134, q51_134N, q51_135, q51_136, q51_137, q51_138, q51_141, q51_143, q51_144, q51_146, q51_147, q51_148, q51_151, q51_154, q51_156, q51_157, q51_159, q51_162, q51_163, q51_163N, q51_164, q51_165, q51_166, q51_167, q51_170, q51_172, q51_173, q51_175, q51_176, q51_177, q51_180, q51_183, q51_185, q51_186, q51_188, q51_189, q51_192, q51_194, q51_196, q51_199, q51_200, q51_203, q51_205, q51_e, u1.1.1, u1.1.2.1, pm_rf_some, a1, e3, hu'.1]
    rcases (show (sp_te ts t).1 = 4 ∨ (sp_te ts t).1 = 5 ∨ (sp_te ts t).1 = 6 ∨ (sp_te ts t).1 = 7 by omega) with h | h | h | h
    · rw [if_pos h] at hQ
      simp only [h, show pm_tsw (nI 4) 4 [112, 127, 157] 186 = 112 by decide, q51_0, q51_1, q51_4, q51_6, q51_7, q51_9, q51_12, q51_13, q51_16, q51_17, q51_17N, q51_18, q51_19, q51_20, q51_23, q51_25, q51_26, q51_28, q51_31, q51_34, q51_35, q51_35N, q51_36, q51_37, q51_37N, q51_38, q51_41, q51_42, q51_43, q51_44, q51_47, q51_49, q51_50, q51_52, q51_53, q51_54, q51_57, q51_58, q51_59, q51_59N, q51_60, q51_61, q51_62, q51_63, q51_66, q51_68, q51_69, q51_71, q51_72, q51_73, q51_76, q51_78, q51_79, q51_82, q51_84, q51_85, q51_112, q51_114, q51_117, q51_119, q51_122, q51_123, q51_125, q51_126, q51_127, q51_129, q51_130, q51_133, q51_134, q51_134N, q51_135, q51_136, q51_137, q51_138, q51_141, q51_143, q51_144, q51_146, q51_147, q51_148, q51_151, q51_154, q51_156, q51_157, q51_159, q51_162, q51_163, q51_163N, q51_164, q51_165, q51_166, q51_167, q51_170, q51_172, q51_173, q51_175, q51_176, q51_177, q51_180, q51_183, q51_185, q51_186, q51_188, q51_189, q51_192, q51_194, q51_196, q51_199, q51_200, q51_203, q51_205, q51_e, sp_cd_n b1]
      have := hQ S1 q1 q2
      by_cases hz : X.1 < 10
      · rw [if_neg (by omega)]
        rw [if_pos hz] at this
        have e : (1 : Int32) - sp_cd X.1 = sp_cd (1 - X.1) := by
          rcases (show X.1 = 0 ∨ X.1 = 1 by omega) with h | h <;> rw [h] <;> decide
        rw [e]
        exact this
      · rw [if_pos hz]
        rw [if_neg hz] at this
        exact this
    · have h4 : ¬ (sp_te ts t).1 = 4 := by omega
      rw [if_neg h4, if_pos h] at hQ
      obtain ⟨y, hy, ey⟩ := k3 (Or.inl h)
      have hUy : sp_tU ts t = y := by unfold sp_tU; rw [ey, nI_clamp (by omega)]
      rw [hUy] at hQ
      simp only [h, show pm_tsw (nI 5) 4 [112, 127, 157] 186 = 127 by decide, q51_0, q51_1, q51_4, q51_6, q51_7, q51_9, q51_12, q51_13, q51_16, q51_17, q51_17N, q51_18, q51_19, q51_20, q51_23, q51_25, q51_26, q51_28, q51_31, q51_34, q51_35, q51_35N, q51_36, q51_37, q51_37N, q51_38, q51_41, q51_42, q51_43, q51_44, q51_47, q51_49, q51_50, q51_52, q51_53, q51_54, q51_57, q51_58, q51_59, q51_59N, q51_60, q51_61, q51_62, q51_63, q51_66, q51_68, q51_69, q51_71, q51_72, q51_73, q51_76, q51_78, q51_79, q51_82, q51_84, q51_85, q51_112, q51_114, q51_117, q51_119, q51_122, q51_123, q51_125, q51_126, q51_127, q51_129, q51_130, q51_133, q51_134, q51_134N, q51_135, q51_136, q51_137, q51_138, q51_141, q51_143, q51_144, q51_146, q51_147, q51_148, q51_151, q51_154, q51_156, q51_157, q51_159, q51_162, q51_163, q51_163N, q51_164, q51_165, q51_166, q51_167, q51_170, q51_172, q51_173, q51_175, q51_176, q51_177, q51_180, q51_183, q51_185, q51_186, q51_188, q51_189, q51_192, q51_194, q51_196, q51_199, q51_200, q51_203, q51_205, q51_e, sp_cd_1 b1, u1.1.1, u1.1.2.2.2.2.1, pm_rf_some, a2', e3, hu'.2.2.2, ey, nI_1]
      by_cases hz : X.1 = 1
      · rw [if_pos hz]
        rw [if_pos hz] at hQ
        refine hs (d + 1) wh i y (dep + 1) X.2 S1 _ (by omega) (by omega) hw hi (by omega) (b4 (by omega)).1 (b4 (by omega)).2 q1 fun S2 w1 w2 => ?_
        simp only [pm_tl_some, q51_0, q51_1, q51_4, q51_6, q51_7, q51_9, q51_12, q51_13, q51_16, q51_17, q51_17N, q51_18, q51_19, q51_20, q51_23, q51_25, q51_26, q51_28, q51_31, q51_34, q51_35, q51_35N, q51_36, q51_37, q51_37N, q51_38, q51_41, q51_42, q51_43, q51_44, q51_47, q51_49, q51_50, q51_52, q51_53, q51_54, q51_57, q51_58, q51_59, q51_59N, q51_60, q51_61, q51_62, q51_63, q51_66, q51_68, q51_69, q51_71, q51_72, q51_73, q51_76, q51_78, q51_79, q51_82, q51_84, q51_85, q51_112, q51_114, q51_117, q51_119, q51_122, q51_123, q51_125, q51_126, q51_127, q51_129, q51_130, q51_133, q51_134, q51_134N, q51_135, q51_136, q51_137, q51_138, q51_141, q51_143, q51_144, q51_146, q51_147, q51_148, q51_151, q51_154, q51_156, q51_157, q51_159, q51_162, q51_163, q51_163N, q51_164, q51_165, q51_166, q51_167, q51_170, q51_172, q51_173, q51_175, q51_176, q51_177, q51_180, q51_183, q51_185, q51_186, q51_188, q51_189, q51_192, q51_194, q51_196, q51_199, q51_200, q51_203, q51_205, q51_e]
        exact hQ S2 w1 (q2.tr w2)
      · rw [if_neg hz]
        rw [if_neg hz] at hQ
        exact hQ S1 q1 q2
    · have h4 : ¬ (sp_te ts t).1 = 4 := by omega
      have h5 : ¬ (sp_te ts t).1 = 5 := by omega
      rw [if_neg h4, if_neg h5, if_pos h] at hQ
      obtain ⟨y, hy, ey⟩ := k3 (Or.inr h)
      have hUy : sp_tU ts t = y := by unfold sp_tU; rw [ey, nI_clamp (by omega)]
      rw [hUy] at hQ
      simp only [h, show pm_tsw (nI 6) 4 [112, 127, 157] 186 = 157 by decide, q51_0, q51_1, q51_4, q51_6, q51_7, q51_9, q51_12, q51_13, q51_16, q51_17, q51_17N, q51_18, q51_19, q51_20, q51_23, q51_25, q51_26, q51_28, q51_31, q51_34, q51_35, q51_35N, q51_36, q51_37, q51_37N, q51_38, q51_41, q51_42, q51_43, q51_44, q51_47, q51_49, q51_50, q51_52, q51_53, q51_54, q51_57, q51_58, q51_59, q51_59N, q51_60, q51_61, q51_62, q51_63, q51_66, q51_68, q51_69, q51_71, q51_72, q51_73, q51_76, q51_78, q51_79, q51_82, q51_84, q51_85, q51_112, q51_114, q51_117, q51_119, q51_122, q51_123, q51_125, q51_126, q51_127, q51_129, q51_130, q51_133, q51_134, q51_134N, q51_135, q51_136, q51_137, q51_138, q51_141, q51_143, q51_144, q51_146, q51_147, q51_148, q51_151, q51_154, q51_156, q51_157, q51_159, q51_162, q51_163, q51_163N, q51_164, q51_165, q51_166, q51_167, q51_170, q51_172, q51_173, q51_175, q51_176, q51_177, q51_180, q51_183, q51_185, q51_186, q51_188, q51_189, q51_192, q51_194, q51_196, q51_199, q51_200, q51_203, q51_205, q51_e, sp_cd_0 b1, u1.1.1, u1.1.2.2.2.2.1, pm_rf_some, a2', e3, hu'.2.2.2, ey, nI_1]
      by_cases hz : X.1 = 0
      · rw [if_pos hz]
        rw [if_pos hz] at hQ
        refine hs (d + 1) wh i y (dep + 1) X.2 S1 _ (by omega) (by omega) hw hi (by omega) (b4 (by omega)).1 (b4 (by omega)).2 q1 fun S2 w1 w2 => ?_
        simp only [pm_tl_some, q51_0, q51_1, q51_4, q51_6, q51_7, q51_9, q51_12, q51_13, q51_16, q51_17, q51_17N, q51_18, q51_19, q51_20, q51_23, q51_25, q51_26, q51_28, q51_31, q51_34, q51_35, q51_35N, q51_36, q51_37, q51_37N, q51_38, q51_41, q51_42, q51_43, q51_44, q51_47, q51_49, q51_50, q51_52, q51_53, q51_54, q51_57, q51_58, q51_59, q51_59N, q51_60, q51_61, q51_62, q51_63, q51_66, q51_68, q51_69, q51_71, q51_72, q51_73, q51_76, q51_78, q51_79, q51_82, q51_84, q51_85, q51_112, q51_114, q51_117, q51_119, q51_122, q51_123, q51_125, q51_126, q51_127, q51_129, q51_130, q51_133, q51_134, q51_134N, q51_135, q51_136, q51_137, q51_138, q51_141, q51_143, q51_144, q51_146, q51_147, q51_148, q51_151, q51_154, q51_156, q51_157, q51_159, q51_162, q51_163, q51_163N, q51_164, q51_165, q51_166, q51_167, q51_170, q51_172, q51_173, q51_175, q51_176, q51_177, q51_180, q51_183, q51_185, q51_186, q51_188, q51_189, q51_192, q51_194, q51_196, q51_199, q51_200, q51_203, q51_205, q51_e]
        exact hQ S2 w1 (q2.tr w2)
      · rw [if_neg hz]
        rw [if_neg hz] at hQ
        exact hQ S1 q1 q2
    · have h4 : ¬ (sp_te ts t).1 = 4 := by omega
      have h5 : ¬ (sp_te ts t).1 = 5 := by omega
      have h6 : ¬ (sp_te ts t).1 = 6 := by omega
      rw [if_neg h4, if_neg h5, if_neg h6] at hQ
      have := hQ S1 q1 q2
      simp only [h, show pm_tsw (nI 7) 4 [112, 127, 157] 186 = 186 by decide, q51_0, q51_1, q51_4, q51_6, q51_7, q51_9, q51_12, q51_13, q51_16, q51_17, q51_17N, q51_18, q51_19, q51_20, q51_23, q51_25, q51_26, q51_28, q51_31, q51_34, q51_35, q51_35N, q51_36, q51_37, q51_37N, q51_38, q51_41, q51_42, q51_43, q51_44, q51_47, q51_49, q51_50, q51_52, q51_53, q51_54, q51_57, q51_58, q51_59, q51_59N, q51_60, q51_61, q51_62, q51_63, q51_66, q51_68, q51_69, q51_71, q51_72, q51_73, q51_76, q51_78, q51_79, q51_82, q51_84, q51_85, q51_112, q51_114, q51_117, q51_119, q51_122, q51_123, q51_125, q51_126, q51_127, q51_129, q51_130, q51_133, q51_134, q51_134N, q51_135, q51_136, q51_137, q51_138, q51_141, q51_143, q51_144, q51_146, q51_147, q51_148, q51_151, q51_154, q51_156, q51_157, q51_159, q51_162, q51_163, q51_163N, q51_164, q51_165, q51_166, q51_167, q51_170, q51_172, q51_173, q51_175, q51_176, q51_177, q51_180, q51_183, q51_185, q51_186, q51_188, q51_189, q51_192, q51_194, q51_196, q51_199, q51_200, q51_203, q51_205, q51_e, sp_cd_m1 b1, sp_cd_m2 b1]
      by_cases hz : X.1 = 11
      · rw [if_pos hz]
        rw [if_pos (Or.inl hz)] at this
        exact this
      · rw [if_neg hz]
        by_cases hz2 : X.1 = 12
        · rw [if_pos hz2]
          rw [if_pos (Or.inr hz2)] at this
          exact this
        · rw [if_neg hz2]
          rw [if_neg (by omega)] at this
          exact this
set_option maxHeartbeats 4000000 in
theorem c_say (ho : sp_ok C) (hk : sp_tok ts) : ∀ n, cSay C ts a g n := by
  intro n
  induction n with
  | zero => intro d wh i t dep st S Q h; omega
  | succ n ih =>
    intro d wh i t dep st S Q ht htl hw hi hdp h1 h2 hT hQ
    obtain ⟨t1, t2, t3, t4, t5, t6, t7⟩ := id hT
    have hl := hk.1
    obtain ⟨k1, k2, k3⟩ := hk.2 t htl
    have hm := cC_m t3 t4
    have hn := cC_n t3 t4
    have e1 := pm_ar_nI t1.1.2.2.2.2.2.1 (show t < 20 by omega) (by decide)
    have e3 := nI_clamp (show t < 2 ^ 31 by omega)
    have ht' := t1.2.2 t htl
    have c1 : sp_tin (nI t) (nI ts.length) = true := by
      unfold sp_tin
      rw [decide_eq_true_iff]
      exact ⟨nI_pos' (by omega), nI_lt htl (by omega), nI_lt (b := 20) (by omega) (by decide)⟩
    have c2 : nI dep < 20 := nI_lt (b := 20) (by omega) (by decide)
    have c3 : ∀ x, pm_N (3 * n + 4 + d + 2) 20 [.ref (if nI wh = 0 then g + 1 else g + 5), .int (nI i)] S x = x (some (.int 1)) S := by
      intro x
      rcases hw with rfl | rfl
      · have hi : i < C.2.1.length := hi
        rw [if_pos (show nI 0 = 0 from rfl), c_hasN t2.2.2.2.2.2.2.2.2.1.1 hn.1 (by omega) (by omega), if_pos hi]
      · have hi : i < C.2.2.1.length := hi
        rw [if_neg (by decide), c_hasN t2.2.2.2.2.2.2.2.2.2.1.1 hm.1 (by omega) (by omega), if_pos hi]
    have c4 : pm_sh S (if nI wh = 0 then g + 1 else g + 5) = .inr 3 := by
      split
      · exact t2.2.2.2.2.2.2.2.2.1.1
      · exact t2.2.2.2.2.2.2.2.2.2.1.1
    have e5 : pm_gi S a 5 + 1 = nI (st.1 + 1) := by rw [t5, nI_1]
    obtain ⟨g1, g2⟩ := gT_5 (s := st.1 + 1) hT e5
    have le2 : (nI (st.1 + 1) ≤ 2000) = (st.1 + 1 ≤ 2000) := nI_le' (b := 2000) (by omega) (by decide)
    rw [show 3 * (n + 1) + 4 + d = 3 * n + 4 + d + 3 by omega]
    rw [e5] at g1 g2
    simp only [q49_0, q49_1, q49_3, q49_6, q49_9, q49_11, q49_13, q49_16, q49_16N, q49_17, q49_18, q49_21, q49_22, q49_25, q49_28, q49_30, q49_31, q49_32, q49_33, q49_36, q49_37, q49_38, q49_41, q49_42, q49_45, q49_48, q49_51, q49_53, q49_54, q49_55, q49_58, q49_60, q49_61, q49_62, q49_65, q49_66, q49_66N, q49_67, q49_68, q49_69, q49_71, q49_74, q49_77, q49_78, q49_78N, q49_79, q49_80, q49_81, q49_83, q49_85, q49_88, q49_e, t1.1.1, c_tHas t1.1, t1.2.1, c1, if_true, pm_tl_some, show ¬ (1 : Int32) = 0 by decide, if_false, c2, t2.1, c_items t2, c4, c3, e5, ps_gi_nx, ps_gi_sz, ps_gi_sh, ps_gi_gi, ps_gi_gl, ps_gi_gr, ps_gi_zi, ps_gi_zl, ps_gi_zr, ps_gi_ar, ps_gi_al, ps_gl_nx, ps_gl_sz, ps_gl_sh, ps_gl_gi, ps_gl_gl, ps_gl_gr, ps_gl_zi, ps_gl_zl, ps_gl_zr, ps_gl_ar, ps_gl_al, ps_gr_nx, ps_gr_sz, ps_gr_sh, ps_gr_gi, ps_gr_gl, ps_gr_gr, ps_gr_zi, ps_gr_zl, ps_gr_zr, ps_gr_ar, ps_gr_al, ps_zi_nx, ps_zi_sz, ps_zi_sh, ps_zi_gi, ps_zi_gl, ps_zi_gr, ps_zi_zi, ps_zi_zl, ps_zi_zr, ps_zi_ar, ps_zi_al, ps_zl_nx, ps_zl_sz, ps_zl_sh, ps_zl_gi, ps_zl_gl, ps_zl_gr, ps_zl_zi, ps_zl_zl, ps_zl_zr, ps_zl_ar, ps_zl_al, ps_zr_nx, ps_zr_sz, ps_zr_sh, ps_zr_gi, ps_zr_gl, ps_zr_gr, ps_zr_zi, ps_zr_zl, ps_zr_zr, ps_zr_ar, ps_zr_al, pm_rf_some, pm_rf_none, pm_tl_some, pm_tl_none, and_self, le2]
    by_cases hs : st.1 + 1 ≤ 2000
    · rw [if_pos hs]
      have e1' : pm_ar (pm_sgi S a 5 (nI (st.1 + 1))) (a + 1) 0 (nI t) = true := e1
      simp only [q49_0, q49_1, q49_3, q49_6, q49_9, q49_11, q49_13, q49_16, q49_16N, q49_17, q49_18, q49_21, q49_22, q49_25, q49_28, q49_30, q49_31, q49_32, q49_33, q49_36, q49_37, q49_38, q49_41, q49_42, q49_45, q49_48, q49_51, q49_53, q49_54, q49_55, q49_58, q49_60, q49_61, q49_62, q49_65, q49_66, q49_66N, q49_67, q49_68, q49_69, q49_71, q49_74, q49_77, q49_78, q49_78N, q49_79, q49_80, q49_81, q49_83, q49_85, q49_88, q49_e, ps_gi_nx, ps_gi_sz, ps_gi_sh, ps_gi_gi, ps_gi_gl, ps_gi_gr, ps_gi_zi, ps_gi_zl, ps_gi_zr, ps_gi_ar, ps_gi_al, ps_gl_nx, ps_gl_sz, ps_gl_sh, ps_gl_gi, ps_gl_gl, ps_gl_gr, ps_gl_zi, ps_gl_zl, ps_gl_zr, ps_gl_ar, ps_gl_al, ps_gr_nx, ps_gr_sz, ps_gr_sh, ps_gr_gi, ps_gr_gl, ps_gr_gr, ps_gr_zi, ps_gr_zl, ps_gr_zr, ps_gr_ar, ps_gr_al, ps_zi_nx, ps_zi_sz, ps_zi_sh, ps_zi_gi, ps_zi_gl, ps_zi_gr, ps_zi_zi, ps_zi_zl, ps_zi_zr, ps_zi_ar, ps_zi_al, ps_zl_nx, ps_zl_sz, ps_zl_sh, ps_zl_gi, ps_zl_gl, ps_zl_gr, ps_zl_zi, ps_zl_zl, ps_zl_zr, ps_zl_ar, ps_zl_al, ps_zr_nx, ps_zr_sz, ps_zr_sh, ps_zr_gi, ps_zr_gl, ps_zr_gr, ps_zr_zi, ps_zr_zl, ps_zr_zr, ps_zr_ar, ps_zr_al, pm_rf_some, pm_rf_none, pm_tl_some, pm_tl_none, t1.1.1, t1.1.2.1, pm_rf_some, e1, e3, ht'.1]
      by_cases hl4 : (sp_te ts t).1 < 4
      · have lt : nI (sp_te ts t).1 < 4 := nI_lt (b := 4) hl4 (by decide)
        simp only [lt, if_true, q49_0, q49_1, q49_3, q49_6, q49_9, q49_11, q49_13, q49_16, q49_16N, q49_17, q49_18, q49_21, q49_22, q49_25, q49_28, q49_30, q49_31, q49_32, q49_33, q49_36, q49_37, q49_38, q49_41, q49_42, q49_45, q49_48, q49_51, q49_53, q49_54, q49_55, q49_58, q49_60, q49_61, q49_62, q49_65, q49_66, q49_66N, q49_67, q49_68, q49_69, q49_71, q49_74, q49_77, q49_78, q49_78N, q49_79, q49_80, q49_81, q49_83, q49_85, q49_88, q49_e, ps_gi_nx, ps_gi_sz, ps_gi_sh, ps_gi_gi, ps_gi_gl, ps_gi_gr, ps_gi_zi, ps_gi_zl, ps_gi_zr, ps_gi_ar, ps_gi_al, ps_gl_nx, ps_gl_sz, ps_gl_sh, ps_gl_gi, ps_gl_gl, ps_gl_gr, ps_gl_zi, ps_gl_zl, ps_gl_zr, ps_gl_ar, ps_gl_al, ps_gr_nx, ps_gr_sz, ps_gr_sh, ps_gr_gi, ps_gr_gl, ps_gr_gr, ps_gr_zi, ps_gr_zl, ps_gr_zr, ps_gr_ar, ps_gr_al, ps_zi_nx, ps_zi_sz, ps_zi_sh, ps_zi_gi, ps_zi_gl, ps_zi_gr, ps_zi_zi, ps_zi_zl, ps_zi_zr, ps_zi_ar, ps_zi_al, ps_zl_nx, ps_zl_sz, ps_zl_sh, ps_zl_gi, ps_zl_gl, ps_zl_gr, ps_zl_zi, ps_zl_zl, ps_zl_zr, ps_zl_ar, ps_zl_al, ps_zr_nx, ps_zr_sz, ps_zr_sh, ps_zr_gi, ps_zr_gl, ps_zr_gr, ps_zr_zi, ps_zr_zl, ps_zr_zr, ps_zr_ar, ps_zr_al, pm_rf_some, pm_rf_none, pm_tl_some, pm_tl_none, t1.1.1]
        refine c_sayOfItem g1 ho hw hi htl hl hl4 h2 fun S' q1 q2 => ?_
        simp only [pm_tl_some, q49_0, q49_1, q49_3, q49_6, q49_9, q49_11, q49_13, q49_16, q49_16N, q49_17, q49_18, q49_21, q49_22, q49_25, q49_28, q49_30, q49_31, q49_32, q49_33, q49_36, q49_37, q49_38, q49_41, q49_42, q49_45, q49_48, q49_51, q49_53, q49_54, q49_55, q49_58, q49_60, q49_61, q49_62, q49_65, q49_66, q49_66N, q49_67, q49_68, q49_69, q49_71, q49_74, q49_77, q49_78, q49_78N, q49_79, q49_80, q49_81, q49_83, q49_85, q49_88, q49_e]
        unfold sp_say at hQ
        rw [if_neg (by omega), if_pos hl4] at hQ
        exact hQ S' q1 (g2.tr q2)
      · have lt : ¬ nI (sp_te ts t).1 < 4 := nI_nlt (b := 4) (by omega) (by omega)
        simp only [lt, if_false, q49_0, q49_1, q49_3, q49_6, q49_9, q49_11, q49_13, q49_16, q49_16N, q49_17, q49_18, q49_21, q49_22, q49_25, q49_28, q49_30, q49_31, q49_32, q49_33, q49_36, q49_37, q49_38, q49_41, q49_42, q49_45, q49_48, q49_51, q49_53, q49_54, q49_55, q49_58, q49_60, q49_61, q49_62, q49_65, q49_66, q49_66N, q49_67, q49_68, q49_69, q49_71, q49_74, q49_77, q49_78, q49_78N, q49_79, q49_80, q49_81, q49_83, q49_85, q49_88, q49_e, ps_gi_nx, ps_gi_sz, ps_gi_sh, ps_gi_gi, ps_gi_gl, ps_gi_gr, ps_gi_zi, ps_gi_zl, ps_gi_zr, ps_gi_ar, ps_gi_al, ps_gl_nx, ps_gl_sz, ps_gl_sh, ps_gl_gi, ps_gl_gl, ps_gl_gr, ps_gl_zi, ps_gl_zl, ps_gl_zr, ps_gl_ar, ps_gl_al, ps_gr_nx, ps_gr_sz, ps_gr_sh, ps_gr_gi, ps_gr_gl, ps_gr_gr, ps_gr_zi, ps_gr_zl, ps_gr_zr, ps_gr_ar, ps_gr_al, ps_zi_nx, ps_zi_sz, ps_zi_sh, ps_zi_gi, ps_zi_gl, ps_zi_gr, ps_zi_zi, ps_zi_zl, ps_zi_zr, ps_zi_ar, ps_zi_al, ps_zl_nx, ps_zl_sz, ps_zl_sh, ps_zl_gi, ps_zl_gl, ps_zl_gr, ps_zl_zi, ps_zl_zl, ps_zl_zr, ps_zl_ar, ps_zl_al, ps_zr_nx, ps_zr_sz, ps_zr_sh, ps_zr_gi, ps_zr_gl, ps_zr_gr, ps_zr_zi, ps_zr_zl, ps_zr_zr, ps_zr_ar, ps_zr_al, pm_rf_some, pm_rf_none, pm_tl_some, pm_tl_none, t1.1.1]
        refine c_sayOfParts ih ho hk ht htl hw hi hdp hs h2 hl4 g1 fun S' q1 q2 => ?_
        simp only [pm_tl_some, q49_0, q49_1, q49_3, q49_6, q49_9, q49_11, q49_13, q49_16, q49_16N, q49_17, q49_18, q49_21, q49_22, q49_25, q49_28, q49_30, q49_31, q49_32, q49_33, q49_36, q49_37, q49_38, q49_41, q49_42, q49_45, q49_48, q49_51, q49_53, q49_54, q49_55, q49_58, q49_60, q49_61, q49_62, q49_65, q49_66, q49_66N, q49_67, q49_68, q49_69, q49_71, q49_74, q49_77, q49_78, q49_78N, q49_79, q49_80, q49_81, q49_83, q49_85, q49_88, q49_e]
        exact hQ S' q1 (g2.tr q2)
    · rw [if_neg hs]
      unfold sp_say at hQ
      rw [if_pos (by omega)] at hQ
      exact hQ _ g1 g2
end
