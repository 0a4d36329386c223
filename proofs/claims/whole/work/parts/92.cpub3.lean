/-! ===== the class: down, same, count ===== -/
section
variable {d x n k nw M a b L : Nat} {S : pm_T} {Q : Option Value → pm_T → Prop} {Z : sp_S} {g wh e wc i t : Int32} {C Ca Cb : sp_C}
theorem ei_eq {r : Option Nat} (h : sp_bd r) (hi : ¬ i < 0) : (sp_eC r = i) = (r = some i.toNatClampNeg) := by
  obtain ⟨k, hk, rfl⟩ := nI_of hi
  rw [nI_clamp hk]
  cases r with
  | none =>
    refine propext ⟨fun q => absurd (q ▸ hi : ¬ sp_eC none < 0) (by decide), fun q => by cases q⟩
  | some q =>
    have := h q rfl
    show (nI q = nI k) = _
    rw [nI_e' (by omega) (by omega)]
    exact propext ⟨fun q => by rw [q], fun q => Option.some.inj q⟩
theorem sp_find_s (p : Nat → Bool) (m k : Nat) : sp_find p (m + 1) k = if p k = true then some k else sp_find p m (k + 1) := rfl
theorem sp_find_lt {p : Nat → Bool} : ∀ m k j, sp_find p m k = some j → j < k + m
  | 0, k, j, h => by cases h
  | m + 1, k, j, h => by
    rw [sp_find_s] at h
    split at h
    · cases h; omega
    · have := sp_find_lt m (k + 1) j h; omega
theorem c_firstOf_l {f : Nat → Option Nat} (hs : pm_sh S a = .inr 3) (hn : pm_gi S a 3 = nI L) (hL : L ≤ n) (hn2 : n ≤ 120) (hb : pm_sh S b = .inl (0, n)) (hf : ∀ k, k < L → pm_zi S b k = sp_eC (f k) ∧ sp_bd (f k)) (hi : ¬ i < 0) : ∀ m k, k + m = L → pm_V d 23 15 [.ref a, .int i, .int wc, .ref b, .int (nI k)] [] S Q = Q (some (.int (sp_eC (sp_find (fun k => f k == some i.toNatClampNeg) m k)))) S := by
  intro m
  induction m with
  | zero =>
    intro k hk
    have e1 : ¬ nI k < nI L := nI_nlt (by omega) (by omega)
    rw [q23_15]
    simp only [q23_0, q23_1, q23_4, q23_5, q23_6, q23_7, q23_8, q23_11, q23_11N, q23_12, q23_13, q23_17, q23_18, q23_21, q23_24, q23_24N, q23_25, q23_27, q23_28, q23_29, q23_32, q23_34, q23_35, q23_38, q23_41, q23_42, q23_e, hs, hn, e1, if_false]
    rfl
  | succ m ih =>
    intro k hk
    have e1 : nI k < nI L := nI_lt (by omega) (by omega)
    have e2 := pm_ar_nI hb (show k < n by omega) (by omega)
    obtain ⟨f1, f2⟩ := hf k (by omega)
    rw [q23_15]
    simp only [q23_0, q23_1, q23_4, q23_5, q23_6, q23_7, q23_8, q23_11, q23_11N, q23_12, q23_13, q23_17, q23_18, q23_21, q23_24, q23_24N, q23_25, q23_27, q23_28, q23_29, q23_32, q23_34, q23_35, q23_38, q23_41, q23_42, q23_e, hs, hn, e1, if_true, e2, nI_clamp (show k < 2 ^ 31 by omega), f1, ei_eq f2 hi, nI_1, ih (k + 1) (by omega), sp_find_s, beq_iff_eq]
    split <;> rfl
theorem c_firstOf {f : Nat → Option Nat} (hI : sI S a n) (hn : pm_gi S a 3 = nI L) (hL : L ≤ n) (hn2 : n ≤ 120) (hf : ∀ k, k < L → pm_zi S (if wc = 0 then a + 2 else a + 3) k = sp_eC (f k) ∧ sp_bd (f k)) : pm_N (d + 1) 23 [.ref a, .int i, .int wc] S Q = Q (some (.int (if i < 0 then -1 else sp_eC (sp_find (fun k => f k == some i.toNatClampNeg) L 0)))) S := by
  by_cases hi : i < 0
  · simp only [q23_0, q23_1, q23_4, q23_5, q23_6, q23_7, q23_8, q23_11, q23_11N, q23_12, q23_13, q23_17, q23_18, q23_21, q23_24, q23_24N, q23_25, q23_27, q23_28, q23_29, q23_32, q23_34, q23_35, q23_38, q23_41, q23_42, q23_e, hi, if_true]
  · have hb : pm_sh S (if wc = 0 then a + 2 else a + 3) = .inl (0, n) := by split; exact hI.2.2.2.2.2.1; exact hI.2.2.2.2.2.2
    simp only [q23_0, q23_1, q23_4, q23_5, q23_6, q23_7, q23_8, q23_11, q23_11N, q23_12, q23_13, q23_17, q23_18, q23_21, q23_24, q23_24N, q23_25, q23_27, q23_28, q23_29, q23_32, q23_34, q23_35, q23_38, q23_41, q23_42, q23_e, hi, if_false, hI.1, c_sources hI, pm_tl_some]
    exact c_firstOf_l hI.1 hn hL hn2 hb hf hi L 0 (by omega)
theorem sp_find_bd {p : Nat → Bool} (h : L ≤ 120) : sp_bd (sp_find p L 0) := fun j hj => by have := sp_find_lt _ _ _ hj; omega
theorem dn_eq {r : Option Nat} {i : Int32} (h : sp_bd r) : (if (if i < 0 then (-1 : Int32) else sp_eC r) < 0 then (-1000004 : Int32) else (if i < 0 then (-1 : Int32) else sp_eC r)) = if i < 0 then -1000004 else sp_eM r := by
  by_cases hi : i < 0
  · rw [if_pos hi, if_pos hi, if_pos (by decide)]
  · rw [if_neg hi, if_neg hi, sp_eM_of h]
theorem dn_fin {y : Int32} (h : Q (some (.int (if y < 0 then -1000004 else y))) S) : if y < 0 then Q (some (.int (-1000004))) S else Q (some (.int y)) S := by
  split
  next q => rw [if_pos q] at h; exact h
  next q => rw [if_neg q] at h; exact h
set_option maxHeartbeats 4000000 in
theorem c_down (hw : wf Z) (hI : cI S x Z nw M) (hQ : ∀ S', cI S' x Z nw M → frO (cO x) S S' → Q (some (.int (op_down Z g wh i wc))) S') : pm_N (d + 92) 67 [.ref x, .int g, .int wh, .int i, .int wc] S Q := by
  have hl := hw.1
  unfold op_down at hQ
  simp only [q67_0, q67_1, q67_2, q67_5, q67_5N, q67_7, q67_7N, q67_9, q67_9N, q67_12, q67_12N, q67_14, q67_17, q67_20, q67_21, q67_24, q67_27, q67_29, q67_32, q67_35, q67_37, q67_38, q67_39, q67_39N, q67_41, q67_44, q67_47, q67_49, q67_50, q67_50N, q67_52, q67_53, q67_56, q67_57, q67_59, q67_62, q67_64, q67_66, q67_69, q67_71, q67_74, q67_76, q67_e, hI.1.1, c_known hw hI, pm_tl_some]
  cases hk : ix g Z.1.length with
  | none =>
    rw [hk] at hQ
    simp only [Option.map_none, pm_rf_none, q67_0, q67_1, q67_2, q67_5, q67_5N, q67_7, q67_7N, q67_9, q67_9N, q67_12, q67_12N, q67_14, q67_17, q67_20, q67_21, q67_24, q67_27, q67_29, q67_32, q67_35, q67_37, q67_38, q67_39, q67_39N, q67_41, q67_44, q67_47, q67_49, q67_50, q67_50N, q67_52, q67_53, q67_56, q67_57, q67_59, q67_62, q67_64, q67_66, q67_69, q67_71, q67_74, q67_76, q67_e]
    exact hQ S hI frO.rf
  | some j =>
    rw [hk] at hQ
    dsimp only at hQ
    obtain ⟨hj, -⟩ := ix_some (by omega) hk
    have hG := cI_G hI hj
    have hF := cI_F hI hj
    have hk7 := (hw.2.2.2 j hj).1
    have e0 : (nI (gg Z.1 j).1 = 0) = ((gg Z.1 j).1 = 0) := nI_e' (b := 0) (by omega) (by decide)
    simp only [Option.map_some, pm_rf_some, q67_0, q67_1, q67_2, q67_5, q67_5N, q67_7, q67_7N, q67_9, q67_9N, q67_12, q67_12N, q67_14, q67_17, q67_20, q67_21, q67_24, q67_27, q67_29, q67_32, q67_35, q67_37, q67_38, q67_39, q67_39N, q67_41, q67_44, q67_47, q67_49, q67_50, q67_50N, q67_52, q67_53, q67_56, q67_57, q67_59, q67_62, q67_64, q67_66, q67_69, q67_71, q67_74, q67_76, q67_e, hG.1, hF.1, e0, c_isOneOfTwo, pm_tl_some, pm_z1, hI.1.1]
    by_cases c0 : (gg Z.1 j).1 = 0
    · rw [if_pos c0]; rw [if_pos c0] at hQ; exact hQ S hI frO.rf
    · rw [if_neg c0]; rw [if_neg c0] at hQ
      by_cases c1 : wh = 0 ∨ wh = 1
      · rw [if_neg (fun h => h c1)]; rw [if_pos c1] at hQ
        by_cases c2 : wc = 0 ∨ wc = 1
        · rw [if_neg (fun h => h c2)]; rw [if_pos c2] at hQ
          refine c_isBroken hw hj hI fun S1 i1 q1 f1 => ?_
          have hG1 := cI_G i1 hj
          have wd := ct_wd hw _ _ (Nat.lt_succ_self _) hj
          simp only [pm_tl_some, q67_0, q67_1, q67_2, q67_5, q67_5N, q67_7, q67_7N, q67_9, q67_9N, q67_12, q67_12N, q67_14, q67_17, q67_20, q67_21, q67_24, q67_27, q67_29, q67_32, q67_35, q67_37, q67_38, q67_39, q67_39N, q67_41, q67_44, q67_47, q67_49, q67_50, q67_50N, q67_52, q67_53, q67_56, q67_57, q67_59, q67_62, q67_64, q67_66, q67_69, q67_71, q67_74, q67_76, q67_e]
          by_cases c6 : (ct Z j).1 = 0
          · rw [if_pos c6] at hQ
            have hR := hQ S1 i1 f1
            simp only [c6, if_true, q67_0, q67_1, q67_2, q67_5, q67_5N, q67_7, q67_7N, q67_9, q67_9N, q67_12, q67_12N, q67_14, q67_17, q67_20, q67_21, q67_24, q67_27, q67_29, q67_32, q67_35, q67_37, q67_38, q67_39, q67_39N, q67_41, q67_44, q67_47, q67_49, q67_50, q67_50N, q67_52, q67_53, q67_56, q67_57, q67_59, q67_62, q67_64, q67_66, q67_69, q67_71, q67_74, q67_76, q67_e, hG1.1, c_items hG1, pm_tl_some]
            rcases c1 with rfl | rfl
            · have hn := cC_n q1 c6
              have hq : sp_len (ct Z j) ((0 : Int32).toNatClampNeg) = (ct Z j).2.1.length := rfl
              have ff : ∀ k, k < (ct Z j).2.1.length → pm_zi S1 (if wc = 0 then ad x j + 1 + 2 else ad x j + 1 + 3) k = sp_eC (sp_src (ct Z j) ((0 : Int32).toNatClampNeg) k wc.toNatClampNeg) ∧ sp_bd (sp_src (ct Z j) ((0 : Int32).toNatClampNeg) k wc.toNatClampNeg) := by
                intro k hk
                rcases c2 with rfl | rfl
                · exact ⟨(cC_ns q1 c6 hk).1, (sp_nd_bd wd hk).1⟩
                · exact ⟨(cC_ns q1 c6 hk).2, (sp_nd_bd wd hk).2⟩
              have hb := sp_find_bd (p := fun k => sp_src (ct Z j) ((0 : Int32).toNatClampNeg) k wc.toNatClampNeg == some i.toNatClampNeg) (show (ct Z j).2.1.length ≤ 120 by omega)
              rw [hq, ← dn_eq hb] at hR
              simp only [if_true, q67_0, q67_1, q67_2, q67_5, q67_5N, q67_7, q67_7N, q67_9, q67_9N, q67_12, q67_12N, q67_14, q67_17, q67_20, q67_21, q67_24, q67_27, q67_29, q67_32, q67_35, q67_37, q67_38, q67_39, q67_39N, q67_41, q67_44, q67_47, q67_49, q67_50, q67_50N, q67_52, q67_53, q67_56, q67_57, q67_59, q67_62, q67_64, q67_66, q67_69, q67_71, q67_74, q67_76, q67_e, hG1.2.2.2.2.2.2.2.2.1.1, c_firstOf hG1.2.2.2.2.2.2.2.2.1 hn.1 (by omega) (by decide) ff, pm_tl_some]
              exact dn_fin hR
            · have hn := cC_m q1 c6
              have hq : sp_len (ct Z j) ((1 : Int32).toNatClampNeg) = (ct Z j).2.2.1.length := rfl
              have ff : ∀ k, k < (ct Z j).2.2.1.length → pm_zi S1 (if wc = 0 then ad x j + 5 + 2 else ad x j + 5 + 3) k = sp_eC (sp_src (ct Z j) ((1 : Int32).toNatClampNeg) k wc.toNatClampNeg) ∧ sp_bd (sp_src (ct Z j) ((1 : Int32).toNatClampNeg) k wc.toNatClampNeg) := by
                intro k hk
                rcases c2 with rfl | rfl
                · exact ⟨(cC_as q1 c6 hk).1, (sp_ar_bd wd hk).1⟩
                · exact ⟨(cC_as q1 c6 hk).2, (sp_ar_bd wd hk).2⟩
              have hb := sp_find_bd (p := fun k => sp_src (ct Z j) ((1 : Int32).toNatClampNeg) k wc.toNatClampNeg == some i.toNatClampNeg) (show (ct Z j).2.2.1.length ≤ 120 by omega)
              rw [hq, ← dn_eq hb] at hR
              simp only [show ¬ (1 : Int32) = 0 by decide, if_false, q67_0, q67_1, q67_2, q67_5, q67_5N, q67_7, q67_7N, q67_9, q67_9N, q67_12, q67_12N, q67_14, q67_17, q67_20, q67_21, q67_24, q67_27, q67_29, q67_32, q67_35, q67_37, q67_38, q67_39, q67_39N, q67_41, q67_44, q67_47, q67_49, q67_50, q67_50N, q67_52, q67_53, q67_56, q67_57, q67_59, q67_62, q67_64, q67_66, q67_69, q67_71, q67_74, q67_76, q67_e, hG1.2.2.2.2.2.2.2.2.2.1.1, c_firstOf hG1.2.2.2.2.2.2.2.2.2.1 hn.1 (by omega) (by decide) ff, pm_tl_some]
              exact dn_fin hR
          · rw [if_neg c6] at hQ
            simp only [c6, if_false, show ¬ (1 : Int32) = 0 by decide, q67_0, q67_1, q67_2, q67_5, q67_5N, q67_7, q67_7N, q67_9, q67_9N, q67_12, q67_12N, q67_14, q67_17, q67_20, q67_21, q67_24, q67_27, q67_29, q67_32, q67_35, q67_37, q67_38, q67_39, q67_39N, q67_41, q67_44, q67_47, q67_49, q67_50, q67_50N, q67_52, q67_53, q67_56, q67_57, q67_59, q67_62, q67_64, q67_66, q67_69, q67_71, q67_74, q67_76, q67_e]
            exact hQ S1 i1 f1
        · rw [if_pos c2]; rw [if_neg c2] at hQ; exact hQ S hI frO.rf
      · rw [if_pos c1]; rw [if_neg c1] at hQ; exact hQ S hI frO.rf
/-! isLike -/
theorem sp_all_s (p : Nat → Bool) (n : Nat) : sp_all p (n + 1) = (sp_all p n && p n) := rfl
theorem c_like_1 (hA : sG S a) (hB : sG S b) (ca : cC S a Ca) (cb : cC S b Cb) (a0 : Ca.1 = 0) (b0 : Cb.1 = 0) (hn : Ca.2.1.length = Cb.2.1.length) : ∀ m k, k + m = Ca.2.1.length → sp_all (fun i => decide ((sp_nd Ca i).1 = (sp_nd Cb i).1)) k = true → pm_V d 11 38 [.ref a, .ref b, .int (nI k)] [] S Q = if sp_all (fun i => decide ((sp_nd Ca i).1 = (sp_nd Cb i).1)) Ca.2.1.length = true then pm_V d 11 81 [.ref a, .ref b, .int (nI 0)] [] S Q else Q (some (.int 0)) S := by
  have n1 := cC_n ca a0
  have n2 := cC_n cb b0
  intro m
  induction m with
  | zero =>
    intro k hk ha
    have : k = Ca.2.1.length := by omega
    subst this
    have e1 : ¬ nI Ca.2.1.length < nI Ca.2.1.length := nI_nlt (Nat.le_refl _) (by omega)
    rw [q11_38, if_pos ha]
    simp only [q11_0, q11_1, q11_4, q11_7, q11_7N, q11_8, q11_11, q11_14, q11_17, q11_18, q11_21, q11_24, q11_24N, q11_25, q11_28, q11_31, q11_34, q11_35, q11_36, q11_37, q11_39, q11_40, q11_43, q11_46, q11_49, q11_50, q11_53, q11_56, q11_57, q11_58, q11_58N, q11_59, q11_62, q11_65, q11_66, q11_67, q11_68, q11_71, q11_72, q11_73, q11_76, q11_79, q11_80, q11_82, q11_83, q11_86, q11_89, q11_92, q11_93, q11_96, q11_97, q11_98, q11_98N, q11_99, q11_102, q11_103, q11_104, q11_107, q11_108, q11_111, q11_112, q11_113, q11_113N, q11_114, q11_117, q11_118, q11_119, q11_122, q11_123, q11_126, q11_129, q11_130, q11_131, q11_131N, q11_132, q11_135, q11_138, q11_139, q11_140, q11_141, q11_144, q11_145, q11_146, q11_149, q11_152, q11_153, q11_e, or_true, true_or, hA.1, hA.2.1, hA.2.2.1, hA.2.2.2.1, hA.2.2.2.2.1, hA.2.2.2.2.2.1, hA.2.2.2.2.2.2.2.2.1.1, hA.2.2.2.2.2.2.2.2.1.2.1, hA.2.2.2.2.2.2.2.2.1.2.2.1, hA.2.2.2.2.2.2.2.2.1.2.2.2.1, hA.2.2.2.2.2.2.2.2.2.1.1, hA.2.2.2.2.2.2.2.2.2.1.2.1, hA.2.2.2.2.2.2.2.2.2.1.2.2.1, hA.2.2.2.2.2.2.2.2.2.1.2.2.2.1, hA.2.2.2.2.2.2.2.2.2.2.1, hA.2.2.2.2.2.2.2.2.2.2.2.1, hA.2.2.2.2.2.2.2.2.2.2.2.2.1, hA.2.2.2.2.2.2.2.2.2.2.2.2.2.1, pm_rf_some, n1.1, e1, if_false]
    rfl
  | succ m ih =>
    intro k hk ha
    have e1 : nI k < nI Ca.2.1.length := nI_lt (by omega) (by omega)
    have hk4 : k < 40 := by omega
    rw [q11_38]
    simp only [q11_0, q11_1, q11_4, q11_7, q11_7N, q11_8, q11_11, q11_14, q11_17, q11_18, q11_21, q11_24, q11_24N, q11_25, q11_28, q11_31, q11_34, q11_35, q11_36, q11_37, q11_39, q11_40, q11_43, q11_46, q11_49, q11_50, q11_53, q11_56, q11_57, q11_58, q11_58N, q11_59, q11_62, q11_65, q11_66, q11_67, q11_68, q11_71, q11_72, q11_73, q11_76, q11_79, q11_80, q11_82, q11_83, q11_86, q11_89, q11_92, q11_93, q11_96, q11_97, q11_98, q11_98N, q11_99, q11_102, q11_103, q11_104, q11_107, q11_108, q11_111, q11_112, q11_113, q11_113N, q11_114, q11_117, q11_118, q11_119, q11_122, q11_123, q11_126, q11_129, q11_130, q11_131, q11_131N, q11_132, q11_135, q11_138, q11_139, q11_140, q11_141, q11_144, q11_145, q11_146, q11_149, q11_152, q11_153, q11_e, or_true, true_or, hA.1, hA.2.1, hA.2.2.1, hA.2.2.2.1, hA.2.2.2.2.1, hA.2.2.2.2.2.1, hA.2.2.2.2.2.2.2.2.1.1, hA.2.2.2.2.2.2.2.2.1.2.1, hA.2.2.2.2.2.2.2.2.1.2.2.1, hA.2.2.2.2.2.2.2.2.1.2.2.2.1, hA.2.2.2.2.2.2.2.2.2.1.1, hA.2.2.2.2.2.2.2.2.2.1.2.1, hA.2.2.2.2.2.2.2.2.2.1.2.2.1, hA.2.2.2.2.2.2.2.2.2.1.2.2.2.1, hA.2.2.2.2.2.2.2.2.2.2.1, hA.2.2.2.2.2.2.2.2.2.2.2.1, hA.2.2.2.2.2.2.2.2.2.2.2.2.1, hA.2.2.2.2.2.2.2.2.2.2.2.2.2.1, pm_rf_some, hB.1, hB.2.1, hB.2.2.1, hB.2.2.2.1, hB.2.2.2.2.1, hB.2.2.2.2.2.1, hB.2.2.2.2.2.2.2.2.1.1, hB.2.2.2.2.2.2.2.2.1.2.1, hB.2.2.2.2.2.2.2.2.1.2.2.1, hB.2.2.2.2.2.2.2.2.1.2.2.2.1, hB.2.2.2.2.2.2.2.2.2.1.1, hB.2.2.2.2.2.2.2.2.2.1.2.1, hB.2.2.2.2.2.2.2.2.2.1.2.2.1, hB.2.2.2.2.2.2.2.2.2.1.2.2.2.1, hB.2.2.2.2.2.2.2.2.2.2.1, hB.2.2.2.2.2.2.2.2.2.2.2.1, hB.2.2.2.2.2.2.2.2.2.2.2.2.1, hB.2.2.2.2.2.2.2.2.2.2.2.2.2.1, pm_rf_some, n1.1, e1, if_true, gr2 hA hk4, gr3 hA hk4, gr4 hA hk4, nc4 hk4, gr2 hB hk4, gr3 hB hk4, gr4 hB hk4, nc4 hk4, cC_nv ca a0 (show k < Ca.2.1.length by omega), cC_nv cb b0 (show k < Cb.2.1.length by omega), lg_cmp_eq, nI_1]
    by_cases hc : (sp_nd Ca k).1 = (sp_nd Cb k).1
    · rw [if_pos hc]
      exact ih (k + 1) (by omega) (by rw [sp_all_s, ha]; simp [hc])
    · rw [if_neg hc, if_neg (by rw [sp_all_no (k := k) (by simp [hc]) _ (by omega)]; decide)]
theorem c_like_2 (hA : sG S a) (hB : sG S b) (ca : cC S a Ca) (cb : cC S b Cb) (a0 : Ca.1 = 0) (b0 : Cb.1 = 0) (oa : sp_ok Ca) (ob : sp_ok Cb) (hn : Ca.2.2.1.length = Cb.2.2.1.length) : ∀ m k, k + m = Ca.2.2.1.length → sp_all (fun e => decide ((sp_ar Ca e).1 = (sp_ar Cb e).1) && decide ((sp_ar Ca e).2.1 = (sp_ar Cb e).2.1) && decide ((sp_ar Ca e).2.2.1 = (sp_ar Cb e).2.2.1)) k = true → pm_V d 11 81 [.ref a, .ref b, .int (nI k)] [] S Q = Q (some (.int (if sp_all (fun e => decide ((sp_ar Ca e).1 = (sp_ar Cb e).1) && decide ((sp_ar Ca e).2.1 = (sp_ar Cb e).2.1) && decide ((sp_ar Ca e).2.2.1 = (sp_ar Cb e).2.2.1)) Ca.2.2.1.length = true then 1 else 0))) S := by
  have n1 := cC_m ca a0
  have n2 := cC_m cb b0
  have m1 := (cC_n ca a0).2
  have m2 := (cC_n cb b0).2
  intro m
  induction m with
  | zero =>
    intro k hk ha
    have : k = Ca.2.2.1.length := by omega
    subst this
    have e1 : ¬ nI Ca.2.2.1.length < nI Ca.2.2.1.length := nI_nlt (Nat.le_refl _) (by omega)
    rw [q11_81, if_pos ha]
    simp only [q11_0, q11_1, q11_4, q11_7, q11_7N, q11_8, q11_11, q11_14, q11_17, q11_18, q11_21, q11_24, q11_24N, q11_25, q11_28, q11_31, q11_34, q11_35, q11_36, q11_37, q11_39, q11_40, q11_43, q11_46, q11_49, q11_50, q11_53, q11_56, q11_57, q11_58, q11_58N, q11_59, q11_62, q11_65, q11_66, q11_67, q11_68, q11_71, q11_72, q11_73, q11_76, q11_79, q11_80, q11_82, q11_83, q11_86, q11_89, q11_92, q11_93, q11_96, q11_97, q11_98, q11_98N, q11_99, q11_102, q11_103, q11_104, q11_107, q11_108, q11_111, q11_112, q11_113, q11_113N, q11_114, q11_117, q11_118, q11_119, q11_122, q11_123, q11_126, q11_129, q11_130, q11_131, q11_131N, q11_132, q11_135, q11_138, q11_139, q11_140, q11_141, q11_144, q11_145, q11_146, q11_149, q11_152, q11_153, q11_e, or_true, true_or, hA.1, hA.2.1, hA.2.2.1, hA.2.2.2.1, hA.2.2.2.2.1, hA.2.2.2.2.2.1, hA.2.2.2.2.2.2.2.2.1.1, hA.2.2.2.2.2.2.2.2.1.2.1, hA.2.2.2.2.2.2.2.2.1.2.2.1, hA.2.2.2.2.2.2.2.2.1.2.2.2.1, hA.2.2.2.2.2.2.2.2.2.1.1, hA.2.2.2.2.2.2.2.2.2.1.2.1, hA.2.2.2.2.2.2.2.2.2.1.2.2.1, hA.2.2.2.2.2.2.2.2.2.1.2.2.2.1, hA.2.2.2.2.2.2.2.2.2.2.1, hA.2.2.2.2.2.2.2.2.2.2.2.1, hA.2.2.2.2.2.2.2.2.2.2.2.2.1, hA.2.2.2.2.2.2.2.2.2.2.2.2.2.1, pm_rf_some, n1.1, e1, if_false]
  | succ m ih =>
    intro k hk ha
    have e1 : nI k < nI Ca.2.2.1.length := nI_lt (by omega) (by omega)
    have hk4 : k < 120 := by omega
    have ka : k < Ca.2.2.1.length := by omega
    have kb : k < Cb.2.2.1.length := by omega
    have o1 := oa k ka
    have o2 := ob k kb
    have z1 : (nI (sp_ar Ca k).1 = nI (sp_ar Cb k).1) = ((sp_ar Ca k).1 = (sp_ar Cb k).1) := nI_e' (by omega) (by omega)
    have z2 : (nI (sp_ar Ca k).2.1 = nI (sp_ar Cb k).2.1) = ((sp_ar Ca k).2.1 = (sp_ar Cb k).2.1) := nI_e' (by omega) (by omega)
    rw [q11_81]
    simp only [q11_0, q11_1, q11_4, q11_7, q11_7N, q11_8, q11_11, q11_14, q11_17, q11_18, q11_21, q11_24, q11_24N, q11_25, q11_28, q11_31, q11_34, q11_35, q11_36, q11_37, q11_39, q11_40, q11_43, q11_46, q11_49, q11_50, q11_53, q11_56, q11_57, q11_58, q11_58N, q11_59, q11_62, q11_65, q11_66, q11_67, q11_68, q11_71, q11_72, q11_73, q11_76, q11_79, q11_80, q11_82, q11_83, q11_86, q11_89, q11_92, q11_93, q11_96, q11_97, q11_98, q11_98N, q11_99, q11_102, q11_103, q11_104, q11_107, q11_108, q11_111, q11_112, q11_113, q11_113N, q11_114, q11_117, q11_118, q11_119, q11_122, q11_123, q11_126, q11_129, q11_130, q11_131, q11_131N, q11_132, q11_135, q11_138, q11_139, q11_140, q11_141, q11_144, q11_145, q11_146, q11_149, q11_152, q11_153, q11_e, or_true, true_or, hA.1, hA.2.1, hA.2.2.1, hA.2.2.2.1, hA.2.2.2.2.1, hA.2.2.2.2.2.1, hA.2.2.2.2.2.2.2.2.1.1, hA.2.2.2.2.2.2.2.2.1.2.1, hA.2.2.2.2.2.2.2.2.1.2.2.1, hA.2.2.2.2.2.2.2.2.1.2.2.2.1, hA.2.2.2.2.2.2.2.2.2.1.1, hA.2.2.2.2.2.2.2.2.2.1.2.1, hA.2.2.2.2.2.2.2.2.2.1.2.2.1, hA.2.2.2.2.2.2.2.2.2.1.2.2.2.1, hA.2.2.2.2.2.2.2.2.2.2.1, hA.2.2.2.2.2.2.2.2.2.2.2.1, hA.2.2.2.2.2.2.2.2.2.2.2.2.1, hA.2.2.2.2.2.2.2.2.2.2.2.2.2.1, pm_rf_some, hB.1, hB.2.1, hB.2.2.1, hB.2.2.2.1, hB.2.2.2.2.1, hB.2.2.2.2.2.1, hB.2.2.2.2.2.2.2.2.1.1, hB.2.2.2.2.2.2.2.2.1.2.1, hB.2.2.2.2.2.2.2.2.1.2.2.1, hB.2.2.2.2.2.2.2.2.1.2.2.2.1, hB.2.2.2.2.2.2.2.2.2.1.1, hB.2.2.2.2.2.2.2.2.2.1.2.1, hB.2.2.2.2.2.2.2.2.2.1.2.2.1, hB.2.2.2.2.2.2.2.2.2.1.2.2.2.1, hB.2.2.2.2.2.2.2.2.2.2.1, hB.2.2.2.2.2.2.2.2.2.2.2.1, hB.2.2.2.2.2.2.2.2.2.2.2.2.1, hB.2.2.2.2.2.2.2.2.2.2.2.2.2.1, pm_rf_some, n1.1, e1, if_true, gr9 hA hk4, gr10 hA hk4, gr6 hA hk4, gr7 hA hk4, gr8 hA hk4, nc12 hk4, gr9 hB hk4, gr10 hB hk4, gr6 hB hk4, gr7 hB hk4, gr8 hB hk4, nc12 hk4, (cC_ae ca a0 ka).1, (cC_ae ca a0 ka).2.1, (cC_ae ca a0 ka).2.2, (cC_ae cb b0 kb).1, (cC_ae cb b0 kb).2.1, (cC_ae cb b0 kb).2.2, z1, z2, lg_cmp_eq, nI_1]
    by_cases hc : (sp_ar Ca k).1 = (sp_ar Cb k).1
    · rw [if_pos hc]
      by_cases hd : (sp_ar Ca k).2.1 = (sp_ar Cb k).2.1
      · rw [if_pos hd]
        by_cases he : (sp_ar Ca k).2.2.1 = (sp_ar Cb k).2.2.1
        · rw [if_pos he]
          exact ih (k + 1) (by omega) (by rw [sp_all_s, ha]; simp [hc, hd, he])
        · rw [if_neg he, if_neg (by rw [sp_all_no (k := k) (by simp [he]) _ (by omega)]; decide)]
      · rw [if_neg hd, if_neg (by rw [sp_all_no (k := k) (by simp [hd]) _ (by omega)]; decide)]
    · rw [if_neg hc, if_neg (by rw [sp_all_no (k := k) (by simp [hc]) _ (by omega)]; decide)]
theorem c_isLike (hA : sG S a) (hB : sG S b) (ca : cC S a Ca) (cb : cC S b Cb) (a0 : Ca.1 = 0) (b0 : Cb.1 = 0) (oa : sp_ok Ca) (ob : sp_ok Cb) : pm_N d 11 [.ref a, .ref b] S Q = Q (some (.int (if sp_like Ca Cb = true then 1 else 0))) S := by
  have n1 := cC_n ca a0
  have n2 := cC_n cb b0
  have m1 := cC_m ca a0
  have m2 := cC_m cb b0
  have z1 : (nI Ca.2.1.length = nI Cb.2.1.length) = (Ca.2.1.length = Cb.2.1.length) := nI_e' (by omega) (by omega)
  have z2 : (nI Ca.2.2.1.length = nI Cb.2.2.1.length) = (Ca.2.2.1.length = Cb.2.2.1.length) := nI_e' (by omega) (by omega)
  simp only [q11_0, q11_1, q11_4, q11_7, q11_7N, q11_8, q11_11, q11_14, q11_17, q11_18, q11_21, q11_24, q11_24N, q11_25, q11_28, q11_31, q11_34, q11_35, q11_36, q11_37, q11_39, q11_40, q11_43, q11_46, q11_49, q11_50, q11_53, q11_56, q11_57, q11_58, q11_58N, q11_59, q11_62, q11_65, q11_66, q11_67, q11_68, q11_71, q11_72, q11_73, q11_76, q11_79, q11_80, q11_82, q11_83, q11_86, q11_89, q11_92, q11_93, q11_96, q11_97, q11_98, q11_98N, q11_99, q11_102, q11_103, q11_104, q11_107, q11_108, q11_111, q11_112, q11_113, q11_113N, q11_114, q11_117, q11_118, q11_119, q11_122, q11_123, q11_126, q11_129, q11_130, q11_131, q11_131N, q11_132, q11_135, q11_138, q11_139, q11_140, q11_141, q11_144, q11_145, q11_146, q11_149, q11_152, q11_153, q11_e, or_true, true_or, hA.1, hA.2.1, hA.2.2.1, hA.2.2.2.1, hA.2.2.2.2.1, hA.2.2.2.2.2.1, hA.2.2.2.2.2.2.2.2.1.1, hA.2.2.2.2.2.2.2.2.1.2.1, hA.2.2.2.2.2.2.2.2.1.2.2.1, hA.2.2.2.2.2.2.2.2.1.2.2.2.1, hA.2.2.2.2.2.2.2.2.2.1.1, hA.2.2.2.2.2.2.2.2.2.1.2.1, hA.2.2.2.2.2.2.2.2.2.1.2.2.1, hA.2.2.2.2.2.2.2.2.2.1.2.2.2.1, hA.2.2.2.2.2.2.2.2.2.2.1, hA.2.2.2.2.2.2.2.2.2.2.2.1, hA.2.2.2.2.2.2.2.2.2.2.2.2.1, hA.2.2.2.2.2.2.2.2.2.2.2.2.2.1, pm_rf_some, hB.1, hB.2.1, hB.2.2.1, hB.2.2.2.1, hB.2.2.2.2.1, hB.2.2.2.2.2.1, hB.2.2.2.2.2.2.2.2.1.1, hB.2.2.2.2.2.2.2.2.1.2.1, hB.2.2.2.2.2.2.2.2.1.2.2.1, hB.2.2.2.2.2.2.2.2.1.2.2.2.1, hB.2.2.2.2.2.2.2.2.2.1.1, hB.2.2.2.2.2.2.2.2.2.1.2.1, hB.2.2.2.2.2.2.2.2.2.1.2.2.1, hB.2.2.2.2.2.2.2.2.2.1.2.2.2.1, hB.2.2.2.2.2.2.2.2.2.2.1, hB.2.2.2.2.2.2.2.2.2.2.2.1, hB.2.2.2.2.2.2.2.2.2.2.2.2.1, hB.2.2.2.2.2.2.2.2.2.2.2.2.2.1, pm_rf_some, n1.1, n2.1, m1.1, m2.1, z1, z2]
  unfold sp_like
  by_cases h1 : Ca.2.1.length = Cb.2.1.length
  · rw [if_pos h1]
    by_cases h2 : Ca.2.2.1.length = Cb.2.2.1.length
    · rw [if_pos h2]
      refine (c_like_1 hA hB ca cb a0 b0 h1 _ 0 (Nat.zero_add _) rfl).trans ?_
      rw [c_like_2 hA hB ca cb a0 b0 oa ob h2 _ 0 (Nat.zero_add _) rfl]
      split
      next h3 => rw [decide_eq_true h1, decide_eq_true h2, h3]; rfl
      next h3 => simp [h3]
    · rw [if_neg h2]; simp [h2]
  · rw [if_neg h1]; simp [h1]
theorem c_isBroken2 {j : Nat} (hw : wf Z) (hj : j < Z.1.length) (hI : cI S x Z nw M) (hQ : ∀ S', cI S' x Z nw M → cC S' (ad x j) (ct Z j) → fresh S' x Z nw j → (∀ k, fresh S x Z nw k → fresh S' x Z nw k) → frO (cO x) S S' → Q (some (.int (if (ct Z j).1 = 0 then 0 else 1))) S') : pm_N (d + 91) 84 [.ref x, .ref (ad x j)] S Q := by
  have hl := hw.1
  simp only [q84_0, q84_1, q84_1N, q84_2, q84_3, q84_6, q84_6N, q84_7, q84_10, q84_13, q84_14, q84_17, q84_18, q84_e, hI.1.1]
  rw [show (Value.int 0 : Value) = .int (nI 0) from rfl]
  refine c_refresh (d := d) hw 24 j 0 S (by omega) hj (by omega) hI _ fun S1 i1 c1 r1 m1 f1 => ?_
  have hG : sG S1 (ad x j) := i1.2.1.2.2.1 j (by have := i1.2.2.2.2.2.2.1; omega)
  have e : (nI (ct Z j).1 = 0) = ((ct Z j).1 = 0) := nI_e' (b := 0) (by have := c1.2.1; omega) (by decide)
  simp only [pm_tl_none, q84_0, q84_1, q84_1N, q84_2, q84_3, q84_6, q84_6N, q84_7, q84_10, q84_13, q84_14, q84_17, q84_18, q84_e, hG.1, c1.1, e, true_or, or_true]
  have := hQ S1 i1 c1 r1 m1 f1
  split
  next h => rw [if_pos h] at this; exact this
  next h => rw [if_neg h] at this; exact this
theorem q69_11x {l0 l1 l2 l4 : Value} {xn : Nat} {st : List Value} : pm_V d 69 11 [l0, l1, l2, .null, l4] (.ref xn :: st) S Q = pm_V d 69 13 [l0, l1, l2, .null, .ref xn] st S Q := pv_astore (pm_cdi rfl dX6_same_11) rfl
theorem q69_11xN {l0 l1 l2 l4 : Value} {st : List Value} : pm_V d 69 11 [l0, l1, l2, .null, l4] (.null :: st) S Q = pm_V d 69 13 [l0, l1, l2, .null, .null] st S Q := pv_astoreN (pm_cdi rfl dX6_same_11) rfl
set_option maxHeartbeats 4000000 in
theorem c_same (hw : wf Z) (hI : cI S x Z nw M) (hQ : ∀ S', cI S' x Z nw M → frO (cO x) S S' → Q (some (.int (op_same Z g e))) S') : pm_N (d + 92) 69 [.ref x, .int g, .int e] S Q := by
  have hl := hw.1
  unfold op_same at hQ
  simp only [q69_0, q69_1, q69_2, q69_5, q69_5N, q69_6, q69_7, q69_8, q69_11, q69_11N, q69_13, q69_13N, q69_14, q69_14N, q69_17, q69_17N, q69_19, q69_19N, q69_22, q69_24, q69_25, q69_26, q69_26N, q69_27, q69_30, q69_33, q69_34, q69_34N, q69_36, q69_39, q69_42, q69_44, q69_45, q69_45N, q69_46, q69_46N, q69_48, q69_51, q69_54, q69_55, q69_58, q69_59, q69_e, hI.1.1, c_known hw hI, pm_tl_some]
  cases hk : ix g Z.1.length with
  | none =>
    rw [hk] at hQ
    cases he : ix e Z.1.length with
    | none =>
      simp only [Option.map_none, pm_rf_none, q69_0, q69_1, q69_2, q69_5, q69_5N, q69_6, q69_7, q69_8, q69_11, q69_11N, q69_13, q69_13N, q69_14, q69_14N, q69_17, q69_17N, q69_19, q69_19N, q69_22, q69_24, q69_25, q69_26, q69_26N, q69_27, q69_30, q69_33, q69_34, q69_34N, q69_36, q69_39, q69_42, q69_44, q69_45, q69_45N, q69_46, q69_46N, q69_48, q69_51, q69_54, q69_55, q69_58, q69_59, q69_e, q69_11xN, hI.1.1, c_known hw hI, pm_tl_some, he]
      exact hQ S hI frO.rf
    | some j =>
      simp only [Option.map_none, Option.map_some, pm_rf_some, pm_rf_none, q69_0, q69_1, q69_2, q69_5, q69_5N, q69_6, q69_7, q69_8, q69_11, q69_11N, q69_13, q69_13N, q69_14, q69_14N, q69_17, q69_17N, q69_19, q69_19N, q69_22, q69_24, q69_25, q69_26, q69_26N, q69_27, q69_30, q69_33, q69_34, q69_34N, q69_36, q69_39, q69_42, q69_44, q69_45, q69_45N, q69_46, q69_46N, q69_48, q69_51, q69_54, q69_55, q69_58, q69_59, q69_e, q69_11x, hI.1.1, c_known hw hI, pm_tl_some, he]
      exact hQ S hI frO.rf
  | some j =>
    rw [hk] at hQ
    dsimp only at hQ
    obtain ⟨hj, -⟩ := ix_some (by omega) hk
    cases he : ix e Z.1.length with
    | none =>
      rw [he] at hQ
      simp only [Option.map_none, Option.map_some, pm_rf_some, pm_rf_none, q69_0, q69_1, q69_2, q69_5, q69_5N, q69_6, q69_7, q69_8, q69_11, q69_11N, q69_13, q69_13N, q69_14, q69_14N, q69_17, q69_17N, q69_19, q69_19N, q69_22, q69_24, q69_25, q69_26, q69_26N, q69_27, q69_30, q69_33, q69_34, q69_34N, q69_36, q69_39, q69_42, q69_44, q69_45, q69_45N, q69_46, q69_46N, q69_48, q69_51, q69_54, q69_55, q69_58, q69_59, q69_e, hI.1.1, c_known hw hI, pm_tl_some, he]
      exact hQ S hI frO.rf
    | some k =>
      rw [he] at hQ
      dsimp only at hQ
      obtain ⟨hk2, -⟩ := ix_some (by omega) he
      simp only [Option.map_some, pm_rf_some, q69_0, q69_1, q69_2, q69_5, q69_5N, q69_6, q69_7, q69_8, q69_11, q69_11N, q69_13, q69_13N, q69_14, q69_14N, q69_17, q69_17N, q69_19, q69_19N, q69_22, q69_24, q69_25, q69_26, q69_26N, q69_27, q69_30, q69_33, q69_34, q69_34N, q69_36, q69_39, q69_42, q69_44, q69_45, q69_45N, q69_46, q69_46N, q69_48, q69_51, q69_54, q69_55, q69_58, q69_59, q69_e, hI.1.1, c_known hw hI, pm_tl_some, he]
      refine c_isBroken2 hw hj hI fun S1 i1 q1 r1 m1 f1 => ?_
      simp only [pm_tl_some, q69_0, q69_1, q69_2, q69_5, q69_5N, q69_6, q69_7, q69_8, q69_11, q69_11N, q69_13, q69_13N, q69_14, q69_14N, q69_17, q69_17N, q69_19, q69_19N, q69_22, q69_24, q69_25, q69_26, q69_26N, q69_27, q69_30, q69_33, q69_34, q69_34N, q69_36, q69_39, q69_42, q69_44, q69_45, q69_45N, q69_46, q69_46N, q69_48, q69_51, q69_54, q69_55, q69_58, q69_59, q69_e, i1.1.1]
      by_cases c6 : (ct Z j).1 = 0
      · rw [if_pos c6] at hQ
        simp only [c6, if_true, q69_0, q69_1, q69_2, q69_5, q69_5N, q69_6, q69_7, q69_8, q69_11, q69_11N, q69_13, q69_13N, q69_14, q69_14N, q69_17, q69_17N, q69_19, q69_19N, q69_22, q69_24, q69_25, q69_26, q69_26N, q69_27, q69_30, q69_33, q69_34, q69_34N, q69_36, q69_39, q69_42, q69_44, q69_45, q69_45N, q69_46, q69_46N, q69_48, q69_51, q69_54, q69_55, q69_58, q69_59, q69_e, i1.1.1]
        refine c_isBroken2 hw hk2 i1 fun S2 i2 q2 r2 m2 f2 => ?_
        have q1' := (i2.2.2.2.2.2.2.2.2.2 j hj).2.2 (m2 j r1)
        simp only [pm_tl_some, q69_0, q69_1, q69_2, q69_5, q69_5N, q69_6, q69_7, q69_8, q69_11, q69_11N, q69_13, q69_13N, q69_14, q69_14N, q69_17, q69_17N, q69_19, q69_19N, q69_22, q69_24, q69_25, q69_26, q69_26N, q69_27, q69_30, q69_33, q69_34, q69_34N, q69_36, q69_39, q69_42, q69_44, q69_45, q69_45N, q69_46, q69_46N, q69_48, q69_51, q69_54, q69_55, q69_58, q69_59, q69_e]
        by_cases c7 : (ct Z k).1 = 0
        · rw [if_pos c7] at hQ
          have g1 := cI_G i2 hj
          have g2 := cI_G i2 hk2
          simp only [c7, if_true, q69_0, q69_1, q69_2, q69_5, q69_5N, q69_6, q69_7, q69_8, q69_11, q69_11N, q69_13, q69_13N, q69_14, q69_14N, q69_17, q69_17N, q69_19, q69_19N, q69_22, q69_24, q69_25, q69_26, q69_26N, q69_27, q69_30, q69_33, q69_34, q69_34N, q69_36, q69_39, q69_42, q69_44, q69_45, q69_45N, q69_46, q69_46N, q69_48, q69_51, q69_54, q69_55, q69_58, q69_59, q69_e, g1.1, c_isLike g1 g2 q1' q2 c6 c7 (ct_gd hw _ _ (Nat.lt_succ_self _) hj c6) (ct_gd hw _ _ (Nat.lt_succ_self _) hk2 c7), pm_tl_some]
          have hR := hQ S2 i2 (f1.tr f2)
          cases hz : sp_like (ct Z j) (ct Z k)
          · rw [hz] at hR; simpa using hR
          · rw [hz] at hR; simpa using hR
        · rw [if_neg c7] at hQ
          simp only [c7, if_false, show ¬ (1 : Int32) = 0 by decide, q69_0, q69_1, q69_2, q69_5, q69_5N, q69_6, q69_7, q69_8, q69_11, q69_11N, q69_13, q69_13N, q69_14, q69_14N, q69_17, q69_17N, q69_19, q69_19N, q69_22, q69_24, q69_25, q69_26, q69_26N, q69_27, q69_30, q69_33, q69_34, q69_34N, q69_36, q69_39, q69_42, q69_44, q69_45, q69_45N, q69_46, q69_46N, q69_48, q69_51, q69_54, q69_55, q69_58, q69_59, q69_e]
          exact hQ S2 i2 (f1.tr f2)
      · rw [if_neg c6] at hQ
        simp only [c6, if_false, show ¬ (1 : Int32) = 0 by decide, q69_0, q69_1, q69_2, q69_5, q69_5N, q69_6, q69_7, q69_8, q69_11, q69_11N, q69_13, q69_13N, q69_14, q69_14N, q69_17, q69_17N, q69_19, q69_19N, q69_22, q69_24, q69_25, q69_26, q69_26N, q69_27, q69_30, q69_33, q69_34, q69_34N, q69_36, q69_39, q69_42, q69_44, q69_45, q69_45N, q69_46, q69_46N, q69_48, q69_51, q69_54, q69_55, q69_58, q69_59, q69_e]
        exact hQ S1 i1 f1
theorem c_countFixed_l {l3 : Value} (hw : wf Z) (hI : cI S x Z nw M) : ∀ m k l3, k + m = Z.1.length → pm_V d 77 4 [.ref x, .int (nI (sp_cnt (fun j => (gg Z.1 j).2.2.2.2.1) k)), .int (nI k), l3] [] S Q = Q (some (.int (nI (sp_cnt (fun j => (gg Z.1 j).2.2.2.2.1) Z.1.length)))) S := by
  obtain ⟨h1, h2, h3, h4, h5, h6, h7, h8, h9, h10⟩ := id hI
  have hl := hw.1
  intro m
  induction m with
  | zero =>
    intro k l3 hk
    have : k = Z.1.length := by omega
    subst this
    have e1 : ¬ nI Z.1.length < nI Z.1.length := nI_nlt (Nat.le_refl _) (by omega)
    rw [q77_4]
    simp only [q77_0, q77_1, q77_2, q77_3, q77_5, q77_6, q77_9, q77_12, q77_13, q77_15, q77_18, q77_19, q77_22, q77_23, q77_23r, q77_24, q77_24N, q77_25, q77_25N, q77_26, q77_26N, q77_29, q77_29N, q77_30, q77_33, q77_36, q77_39, q77_42, q77_45, q77_46, q77_e, h1.1, h3, e1, if_false]
  | succ m ih =>
    intro k l3 hk
    have e1 : nI k < nI Z.1.length := nI_lt (by omega) (by omega)
    have e3 : nI k < 24 := nI_lt (b := 24) (by omega) (by decide)
    have e4 := pm_ar_nI h1.2.2.2.2.2.1 (show k < 24 by omega) (by decide)
    have e5 := h2.2.1 k (by omega)
    rw [if_pos (by omega)] at e5
    have hG := cI_G hI (show k < Z.1.length by omega)
    have hF := cI_F hI (show k < Z.1.length by omega)
    rw [q77_4]
    simp only [q77_0, q77_1, q77_2, q77_3, q77_5, q77_6, q77_9, q77_12, q77_13, q77_15, q77_18, q77_19, q77_22, q77_23, q77_23r, q77_24, q77_24N, q77_25, q77_25N, q77_26, q77_26N, q77_29, q77_29N, q77_30, q77_33, q77_36, q77_39, q77_42, q77_45, q77_46, q77_e, h1.1, h1.2.1, h3, e1, e3, if_true, e4, pm_rf_some, nI_clamp (show k < 2 ^ 31 by omega), e5, hG.1, hF.2.2, nI_1]
    have := fun l3 => ih (k + 1) l3 (by omega)
    cases hz : (gg Z.1 k).2.2.2.2.1
    · simp only [sp_cnt_s, hz] at this
      simpa using this _
    · simp only [sp_cnt_s, hz] at this
      simpa using this _
theorem c_count (hw : wf Z) (hI : cI S x Z nw M) (hQ : ∀ S', cI S' x Z nw M → frO (cO x) S S' → Q (some (.int (op_count Z wh))) S') : pm_N (d + 1) 72 [.ref x, .int wh] S Q := by
  have hT := hI.2.2.2.2.2.2.2.1
  have eT : pm_gi S (x + 3) 4 = nI Z.2.2.length := hT.2.1
  have hR := hQ S hI frO.rf
  unfold op_count at hR
  simp only [q72_0, q72_1, q72_4, q72_5, q72_8, q72_9, q72_10, q72_11, q72_14, q72_15, q72_18, q72_21, q72_22, q72_23, q72_24, q72_27, q72_28, q72_31, q72_34, q72_36, q72_e, hI.1.1, hI.1.2.2.2.1, pm_rf_some, hT.1.1, eT, hI.2.2.1]
  by_cases c0 : wh = 0
  · rw [if_pos c0]; rw [if_pos c0] at hR; exact hR
  · rw [if_neg c0]; rw [if_neg c0] at hR
    by_cases c1 : wh = 1
    · rw [if_pos c1]; rw [if_pos c1] at hR; exact hR
    · rw [if_neg c1]; rw [if_neg c1] at hR
      by_cases c2 : wh = 2
      · rw [if_pos c2]; rw [if_pos c2] at hR
        simp only [q77_0, q77_1, q77_2, q77_3, q77_5, q77_6, q77_9, q77_12, q77_13, q77_15, q77_18, q77_19, q77_22, q77_23, q77_23r, q77_24, q77_24N, q77_25, q77_25N, q77_26, q77_26N, q77_29, q77_29N, q77_30, q77_33, q77_36, q77_39, q77_42, q77_45, q77_46, q77_e]
        have := c_countFixed_l (d := d) (Q := fun r S' => pm_V (d + 1) 72 36 [.ref x, .int wh] (r.toList ++ []) S' Q) (l3 := pm_j) hw hI Z.1.length 0 pm_j (by omega)
        refine Eq.mpr this ?_
        simp only [pm_tl_some, q72_0, q72_1, q72_4, q72_5, q72_8, q72_9, q72_10, q72_11, q72_14, q72_15, q72_18, q72_21, q72_22, q72_23, q72_24, q72_27, q72_28, q72_31, q72_34, q72_36, q72_e]
        exact hR
      · rw [if_neg c2]; rw [if_neg c2] at hR; exact hR
end
