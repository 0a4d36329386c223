/-! ===== the class: arc, set, label, live ===== -/
section
variable {d x n k nw M a b L : Nat} {S S' : pm_T} {Q : Option Value → pm_T → Prop} {Z Z' : sp_S} {g s wc wh i t f u : Int32} {C : sp_C} {v c : Int64}
theorem sp_ok_mem (h : sp_ok C) : ∀ q, q ∈ C.2.2.1 → q.1 < C.2.1.length ∧ q.2.1 < C.2.1.length := by
  intro q hq
  obtain ⟨e, he, rfl⟩ := List.mem_iff_getElem.mp hq
  have := h e he
  unfold sp_ar at this
  rw [List.getD_eq_getElem?_getD, List.getElem?_eq_getElem he] at this
  exact this
theorem sp_pA_eq {q : sp_A} (h0 : C.1 = 0) (h : C.2.2.1.length < 120) : sp_addA C q = sp_pA C q := by
  unfold sp_addA sp_pA
  rw [if_neg (by omega), if_pos h0]
theorem op_arc_wf (hw : wf Z) : wf (op_arc Z g f t v).2 := by
  have hl := hw.1
  unfold op_arc
  split
  · exact hw
  · next j hk =>
    obtain ⟨hj, -⟩ := ix_some (by omega) hk
    obtain ⟨w1, w2, w3, w4, w5, w6⟩ := hw.2.2.2 j hj
    split
    · next k0 =>
      obtain ⟨b1, b2, b3, b4, b5⟩ := w4 k0
      split
      · exact hw
      · next a ha =>
        obtain ⟨ha1, -⟩ := ix_some (by omega) ha
        split
        · exact hw
        · next b hb =>
          obtain ⟨hb1, -⟩ := ix_some (by omega) hb
          split
          · next c3 =>
            refine wf_set hw hj ⟨w1, fun h => absurd k0 h, ?_, fun _ => ⟨b1, b2, b3, ?_, b5⟩, fun h => b2, ?_⟩
            · intro h0
              have iv : sp_iv (gg Z.1 j).2.2.2.2.2.2.1.length (gg Z.1 j).2.2.2.2.2 := fun _ => ⟨rfl, sp_ok_mem (w3 b2)⟩
              have := sp_iv_gd (sp_iv_A (q := (a, b, v, none, none)) iv ha1 hb1)
              rw [sp_pA_eq b2 (by omega)] at this
              exact this h0
            · simp [g_st, sp_pA]; omega
            · have := sp_wd_A (t := a) (u := b) (v := v) w6 sp_bd_n sp_bd_n
              rw [sp_pA_eq b2 (by omega)] at this
              exact this
          · exact hw
    · exact hw
/-- the time is told anew -/
theorem cF_now {q : sp_G} {j : Nat} {v : Int32} (h : cF S x j q) : cF (pm_sgi S x 5 v) x j q := cF_frO (P := fun b => b = x) h (frO.gi rfl) (by have := ad_ge (x := x) (j := j); omega)
theorem cC_now {j : Nat} {v : Int32} (h : cC S (ad x j) C) : cC (pm_sgi S x 5 v) (ad x j) C := cC_frO (P := fun b => b = x) h (frO.gi rfl) (fun b hb => by have := ad_ge (x := x) (j := j); unfold cB at hb; omega)
theorem cT_now {v : Int32} {ts : List sp_Te} (h : cT S (x + 3) ts) : cT (pm_sgi S x 5 v) (x + 3) ts := cT_frO (P := fun b => b = x) h (frO.gi rfl) (fun b q1 q2 => by omega)
set_option maxHeartbeats 2000000 in
theorem c_arc (hw : wf Z) (hn : nw < 2000) (hI : cI S x Z nw M) (hQ : ∀ S' nw', cI S' x (op_arc Z g f t v).2 nw' M → nw' ≤ nw + 1 → frO (cO x) S S' → Q (some (.int (op_arc Z g f t v).1)) S') : pm_N (d + 3) 57 [.ref x, .int g, .int f, .int t, .long v] S Q := by
  have hl := hw.1
  have hQ0 := fun h => hQ S nw h (by omega) frO.rf
  unfold op_arc at hQ hQ0
  simp only [q57_0, q57_1, q57_2, q57_5, q57_5N, q57_7, q57_7N, q57_9, q57_9N, q57_12, q57_12N, q57_14, q57_17, q57_20, q57_20N, q57_22, q57_25, q57_26, q57_29, q57_32, q57_32N, q57_34, q57_37, q57_38, q57_41, q57_44, q57_46, q57_47, q57_47N, q57_49, q57_52, q57_55, q57_57, q57_60, q57_62, q57_63, q57_63N, q57_65, q57_66, q57_67, q57_69, q57_70, q57_71, q57_74, q57_75, q57_76, q57_79, q57_80, q57_81, q57_84, q57_84N, q57_86, q57_89, q57_92, q57_93, q57_94, q57_e, hI.1.1, c_known hw hI, pm_tl_some]
  cases hk : ix g Z.1.length with
  | none =>
    rw [hk] at hQ0
    simp only [Option.map_none, pm_rf_none, q57_0, q57_1, q57_2, q57_5, q57_5N, q57_7, q57_7N, q57_9, q57_9N, q57_12, q57_12N, q57_14, q57_17, q57_20, q57_20N, q57_22, q57_25, q57_26, q57_29, q57_32, q57_32N, q57_34, q57_37, q57_38, q57_41, q57_44, q57_46, q57_47, q57_47N, q57_49, q57_52, q57_55, q57_57, q57_60, q57_62, q57_63, q57_63N, q57_65, q57_66, q57_67, q57_69, q57_70, q57_71, q57_74, q57_75, q57_76, q57_79, q57_80, q57_81, q57_84, q57_84N, q57_86, q57_89, q57_92, q57_93, q57_94, q57_e]
    exact hQ0 hI
  | some j =>
    rw [hk] at hQ hQ0
    dsimp only at hQ hQ0
    obtain ⟨hj, -⟩ := ix_some (by omega) hk
    have hG := cI_G hI hj
    have hF := cI_F hI hj
    obtain ⟨w1, w2, w3, w4, w5, w6⟩ := hw.2.2.2 j hj
    have e0 : (nI (gg Z.1 j).1 = 0) = ((gg Z.1 j).1 = 0) := nI_e' (b := 0) (by omega) (by decide)
    simp only [Option.map_some, pm_rf_some, q57_0, q57_1, q57_2, q57_5, q57_5N, q57_7, q57_7N, q57_9, q57_9N, q57_12, q57_12N, q57_14, q57_17, q57_20, q57_20N, q57_22, q57_25, q57_26, q57_29, q57_32, q57_32N, q57_34, q57_37, q57_38, q57_41, q57_44, q57_46, q57_47, q57_47N, q57_49, q57_52, q57_55, q57_57, q57_60, q57_62, q57_63, q57_63N, q57_65, q57_66, q57_67, q57_69, q57_70, q57_71, q57_74, q57_75, q57_76, q57_79, q57_80, q57_81, q57_84, q57_84N, q57_86, q57_89, q57_92, q57_93, q57_94, q57_e, hG.1, hF.1, e0]
    by_cases k0 : (gg Z.1 j).1 = 0
    · rw [if_pos k0] at hQ hQ0
      obtain ⟨b1, b2, b3, b4, b5⟩ := w4 k0
      have hC := cI_st hI hj (Or.inl k0)
      have hnn := cC_n hC b2
      have hmm := cC_m hC b2
      simp only [k0, if_true, q57_0, q57_1, q57_2, q57_5, q57_5N, q57_7, q57_7N, q57_9, q57_9N, q57_12, q57_12N, q57_14, q57_17, q57_20, q57_20N, q57_22, q57_25, q57_26, q57_29, q57_32, q57_32N, q57_34, q57_37, q57_38, q57_41, q57_44, q57_46, q57_47, q57_47N, q57_49, q57_52, q57_55, q57_57, q57_60, q57_62, q57_63, q57_63N, q57_65, q57_66, q57_67, q57_69, q57_70, q57_71, q57_74, q57_75, q57_76, q57_79, q57_80, q57_81, q57_84, q57_84N, q57_86, q57_89, q57_92, q57_93, q57_94, q57_e, hG.1, hG.2.1, hG.2.2.1, hG.2.2.2.1, hG.2.2.2.2.1, hG.2.2.2.2.2.1, hG.2.2.2.2.2.2.2.2.1.1, hG.2.2.2.2.2.2.2.2.1.2.1, hG.2.2.2.2.2.2.2.2.1.2.2.1, hG.2.2.2.2.2.2.2.2.1.2.2.2.1, hG.2.2.2.2.2.2.2.2.2.1.1, hG.2.2.2.2.2.2.2.2.2.1.2.1, hG.2.2.2.2.2.2.2.2.2.1.2.2.1, hG.2.2.2.2.2.2.2.2.2.1.2.2.2.1, hG.2.2.2.2.2.2.2.2.2.2.1, hG.2.2.2.2.2.2.2.2.2.2.2.1, hG.2.2.2.2.2.2.2.2.2.2.2.2.1, hG.2.2.2.2.2.2.2.2.2.2.2.2.2.1, pm_rf_some, c_hasX hG.2.2.2.2.2.2.2.2.1.1 hnn.1, pm_tl_some, pm_z1]
      cases hf : ix f (gg Z.1 j).2.2.2.2.2.2.1.length with
      | none =>
        rw [hf] at hQ0
        simp only [Option.isSome_none, Bool.false_eq_true, not_false_eq_true, if_true]
        exact hQ0 hI
      | some p =>
        rw [hf] at hQ hQ0
        dsimp only at hQ hQ0
        obtain ⟨hp, rfl⟩ := ix_some (by omega) hf
        simp only [Option.isSome_some, not_true_eq_false, if_false]
        cases ht : ix t (gg Z.1 j).2.2.2.2.2.2.1.length with
        | none =>
          rw [ht] at hQ0
          simp only [Option.isSome_none, Bool.false_eq_true, not_false_eq_true, if_true]
          exact hQ0 hI
        | some r =>
          rw [ht] at hQ hQ0
          dsimp only at hQ hQ0
          obtain ⟨hr, rfl⟩ := ix_some (by omega) ht
          simp only [Option.isSome_some, not_true_eq_false, if_false, hmm.1]
          by_cases c3 : (gg Z.1 j).2.2.2.2.2.2.2.1.length < 30
          · rw [if_pos c3] at hQ
            have e3 : nI (gg Z.1 j).2.2.2.2.2.2.2.1.length < 30 := nI_lt (b := 30) c3 (by decide)
            obtain ⟨q1, q2⟩ := fG_arc_ok (t := p) (h := r) (v := v) (x := none) (y := none) hG hC hmm.1 hmm.2 (Or.inl b2)
            rw [sp_pA_eq b2 (by omega)] at q1
            have x1 : cX (fG_arc S (ad x j) (gg Z.1 j).2.2.2.2.2.2.2.1.length (nI p) (nI r) v (sp_eC none) (sp_eC none)) x := cX_fr hI.1 q2
            have n1 := cC_m q1 b2
            have ag := ad_ge (x := x) (j := j)
            have hne : ∀ k, ¬ (ad x j + 5 = x ∧ k = 5) := fun k => by omega
            have now1 : pm_gi (fG_arc S (ad x j) (gg Z.1 j).2.2.2.2.2.2.2.1.length (nI p) (nI r) v (sp_eC none) (sp_eC none)) x 5 = nI nw := by rw [(q2.2.2.2.2.2 x (by unfold cB; omega)).1]; exact hI.2.2.2.1
            have g1 := sG_fr hG q2
            simp only [e3, if_true, c_addArc hG hmm.1 hmm.2, pm_tl_none, q57_0, q57_1, q57_2, q57_5, q57_5N, q57_7, q57_7N, q57_9, q57_9N, q57_12, q57_12N, q57_14, q57_17, q57_20, q57_20N, q57_22, q57_25, q57_26, q57_29, q57_32, q57_32N, q57_34, q57_37, q57_38, q57_41, q57_44, q57_46, q57_47, q57_47N, q57_49, q57_52, q57_55, q57_57, q57_60, q57_62, q57_63, q57_63N, q57_65, q57_66, q57_67, q57_69, q57_70, q57_71, q57_74, q57_75, q57_76, q57_79, q57_80, q57_81, q57_84, q57_84N, q57_86, q57_89, q57_92, q57_93, q57_94, q57_e]
            rw [show (-1 : Int32) = sp_eC none from rfl]
            generalize hA : fG_arc S (ad x j) (gg Z.1 j).2.2.2.2.2.2.2.1.length (nI p) (nI r) v (sp_eC none) (sp_eC none) = A at *
            have n1' : pm_gi A (ad x j + 5) 3 = nI ((gg Z.1 j).2.2.2.2.2.2.2.1.length + 1) := by rw [n1.1]; simp [sp_pA]
            simp only [q57_0, q57_1, q57_2, q57_5, q57_5N, q57_7, q57_7N, q57_9, q57_9N, q57_12, q57_12N, q57_14, q57_17, q57_20, q57_20N, q57_22, q57_25, q57_26, q57_29, q57_32, q57_32N, q57_34, q57_37, q57_38, q57_41, q57_44, q57_46, q57_47, q57_47N, q57_49, q57_52, q57_55, q57_57, q57_60, q57_62, q57_63, q57_63N, q57_65, q57_66, q57_67, q57_69, q57_70, q57_71, q57_74, q57_75, q57_76, q57_79, q57_80, q57_81, q57_84, q57_84N, q57_86, q57_89, q57_92, q57_93, q57_94, q57_e, x1.1, now1, nI_1, ps_gi_nx, ps_gi_sz, ps_gi_sh, ps_gi_gi, ps_gi_gl, ps_gi_gr, ps_gi_zi, ps_gi_zl, ps_gi_zr, ps_gi_ar, ps_gi_al, ps_gl_nx, ps_gl_sz, ps_gl_sh, ps_gl_gi, ps_gl_gl, ps_gl_gr, ps_gl_zi, ps_gl_zl, ps_gl_zr, ps_gl_ar, ps_gl_al, ps_gr_nx, ps_gr_sz, ps_gr_sh, ps_gr_gi, ps_gr_gl, ps_gr_gr, ps_gr_zi, ps_gr_zl, ps_gr_zr, ps_gr_ar, ps_gr_al, ps_zi_nx, ps_zi_sz, ps_zi_sh, ps_zi_gi, ps_zi_gl, ps_zi_gr, ps_zi_zi, ps_zi_zl, ps_zi_zr, ps_zi_ar, ps_zi_al, ps_zl_nx, ps_zl_sz, ps_zl_sh, ps_zl_gi, ps_zl_gl, ps_zl_gr, ps_zl_zi, ps_zl_zl, ps_zl_zr, ps_zl_ar, ps_zl_al, ps_zr_nx, ps_zr_sz, ps_zr_sh, ps_zr_gi, ps_zr_gl, ps_zr_gr, ps_zr_zi, ps_zr_zl, ps_zr_zr, ps_zr_ar, ps_zr_al, pm_rf_some, pm_rf_none, pm_tl_some, pm_tl_none, g1.1, g1.2.1, g1.2.2.1, g1.2.2.2.1, g1.2.2.2.2.1, g1.2.2.2.2.2.1, g1.2.2.2.2.2.2.2.2.1.1, g1.2.2.2.2.2.2.2.2.1.2.1, g1.2.2.2.2.2.2.2.2.1.2.2.1, g1.2.2.2.2.2.2.2.2.1.2.2.2.1, g1.2.2.2.2.2.2.2.2.2.1.1, g1.2.2.2.2.2.2.2.2.2.1.2.1, g1.2.2.2.2.2.2.2.2.2.1.2.2.1, g1.2.2.2.2.2.2.2.2.2.1.2.2.2.1, g1.2.2.2.2.2.2.2.2.2.2.1, g1.2.2.2.2.2.2.2.2.2.2.2.1, g1.2.2.2.2.2.2.2.2.2.2.2.2.1, g1.2.2.2.2.2.2.2.2.2.2.2.2.2.1, pm_rf_some, hne 3, if_false, n1', nI_s1, show ¬ (ad x j + 5 = x ∧ 3 = 5) by omega]
            refine hQ _ (nw + 1) ?_ (Nat.le_refl _) (((frO.of q2).mono (fun b hb => by unfold cB at hb; unfold cO; omega)).tr (frO.gi (Or.inl ⟨by omega, by omega⟩)))
            refine cI_bump hI (by simp) hn x1 (cM_fr (S' := A) hI.2.1 q2) ?_ ps_gi_self (cT_now ?_) ?_ (fun i hi => ?_) (fun i hi hs => ?_)
            · rw [ps_gi_gi, if_neg (by omega), (q2.2.2.2.2.2 x (by unfold cB; omega)).1]
            · exact cT_frO hI.2.2.2.2.2.2.2.1 (frO.of q2) (fun b q1 q2 q3 => by unfold cB at q3; omega)
            · exact cL_frO (S' := A) hI.2.2.2.2.2.2.2.2.1 (frO.of q2) (fun b q1 q2 q3 => by unfold cB at q3; omega)
            · have ai := ad_ge (x := x) (j := i)
              constructor
              · refine cF_now ?_
                show cF A x i (gg (Z.1.set j _) i)
                rw [gg_set hj]
                by_cases e : i = j
                · subst e; rw [if_pos rfl]; exact cF_fr hF hG q2
                · rw [if_neg e]; exact cF_fr (cI_F hI hi) (cI_G hI hi) q2
              · rw [ps_gi_gi, if_neg (by omega)]
                exact q2.2.1.2 _ _ (cI_G hI hi).1 (by decide)
            · refine cC_now ?_
              revert hs
              show (gg (Z.1.set j _) i).1 = 0 ∨ (gg (Z.1.set j _) i).2.2.2.2.1 = true → cC A (ad x i) (gg (Z.1.set j _) i).2.2.2.2.2
              rw [gg_set hj]
              by_cases e : i = j
              · subst e; rw [if_pos rfl]; exact fun _ => q1
              · rw [if_neg e]
                intro hs
                exact cC_fr (cI_st hI hi hs) q2 (fun b hb q => by have := ad_ne (x := x) e; unfold cB at hb q; omega)
          · rw [if_neg c3] at hQ0
            have e3 : ¬ nI (gg Z.1 j).2.2.2.2.2.2.2.1.length < 30 := nI_nlt (b := 30) (by omega) (by omega)
            simp only [e3, if_false]
            exact hQ0 hI
    · rw [if_neg k0] at hQ0
      simp only [k0, if_false]
      exact hQ0 hI
end
