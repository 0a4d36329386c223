/-! ===== the class: set, label, live ===== -/
section
variable {d x n k nw M a b L : Nat} {S S' : pm_T} {Q : Option Value → pm_T → Prop} {Z Z' : sp_S} {g s wc wh i t f u : Int32} {C : sp_C} {v c : Int64}
theorem sp_set_some {α : Type} {l : List α} {y z : α} {k i : Nat} (h : (l.set k y)[i]? = some z) : (i = k ∧ z = y) ∨ (i ≠ k ∧ l[i]? = some z) := by
  rw [List.getElem?_set] at h
  by_cases e : k = i
  · rw [if_pos e] at h
    split at h
    · cases h; exact Or.inl ⟨e.symm, rfl⟩
    · cases h
  · rw [if_neg e] at h
    exact Or.inr ⟨fun q => e q.symm, h⟩
theorem sp_nd_some (hk : k < C.2.1.length) : C.2.1[k]? = some (sp_nd C k) := by unfold sp_nd; rw [List.getD_eq_getElem?_getD, List.getElem?_eq_getElem hk]; rfl
theorem sp_ar_some (hk : k < C.2.2.1.length) : C.2.2.1[k]? = some (sp_ar C k) := by unfold sp_ar; rw [List.getD_eq_getElem?_getD, List.getElem?_eq_getElem hk]; rfl
theorem cC_setN (hC : cC S a C) (h0 : C.1 = 0) (hk : k < C.2.1.length) : cC (pm_szl S (a + 2) k v) a (sp_setN C k v) := by
  obtain ⟨h1, h2, h3, h4⟩ := hC
  obtain ⟨⟨n1, n2, n3⟩, ⟨m1, m2, m3⟩, h5⟩ := h3 h0
  refine ⟨h1, h2, fun _ => ⟨⟨by rw [show (sp_setN C k v).2.1.length = C.2.1.length by simp [sp_setN]]; exact n1, by simpa [sp_setN] using n2, fun i q hq => ?_⟩, ⟨m1, m2, fun e q hq => ?_⟩, h5⟩, h4⟩
  · show pm_zl (pm_szl S (a + 2) k v) (a + 2) i = _ ∧ pm_zi S (a + 3) i = _ ∧ pm_zi S (a + 4) i = _
    rw [ps_zl_zl]
    rcases sp_set_some hq with ⟨rfl, rfl⟩ | ⟨e, hq⟩
    · rw [if_pos ⟨rfl, rfl⟩]
      exact ⟨rfl, (n3 i _ (sp_nd_some hk)).2⟩
    · rw [if_neg (fun q => e q.2)]
      exact n3 i q hq
  · obtain ⟨p1, p2, p3, p4⟩ := m3 e q hq
    refine ⟨p1, p2, ?_, p4⟩
    rw [ps_zl_zl, if_neg (by omega)]
    exact p3
theorem cC_setA (hC : cC S a C) (h0 : C.1 = 0) (hk : k < C.2.2.1.length) : cC (pm_szl S (a + 6) k v) a (sp_setA C k v) := by
  obtain ⟨h1, h2, h3, h4⟩ := hC
  obtain ⟨⟨n1, n2, n3⟩, ⟨m1, m2, m3⟩, h5⟩ := h3 h0
  refine ⟨h1, h2, fun _ => ⟨⟨n1, n2, fun i q hq => ?_⟩, ⟨by rw [show (sp_setA C k v).2.2.1.length = C.2.2.1.length by simp [sp_setA]]; exact m1, by simpa [sp_setA] using m2, fun e q hq => ?_⟩, h5⟩, h4⟩
  · obtain ⟨p1, p2⟩ := n3 i q hq
    refine ⟨?_, p2⟩
    rw [ps_zl_zl, if_neg (by omega)]
    exact p1
  · show pm_zi S (a + 9) e = _ ∧ pm_zi S (a + 10) e = _ ∧ pm_zl (pm_szl S (a + 6) k v) (a + 6) e = _ ∧ pm_zi S (a + 7) e = _ ∧ pm_zi S (a + 8) e = _
    rw [ps_zl_zl]
    rcases sp_set_some hq with ⟨rfl, rfl⟩ | ⟨ne, hq⟩
    · rw [if_pos ⟨rfl, rfl⟩]
      obtain ⟨p1, p2, p3, p4⟩ := m3 e _ (sp_ar_some hk)
      exact ⟨p1, p2, rfl, p4⟩
    · rw [if_neg (fun q => ne q.2)]
      exact m3 e q hq
theorem sp_setN_wd (h : sp_wd C) (hk : k < C.2.1.length) : sp_wd (sp_setN C k v) := by
  obtain ⟨h1, h2, h3, h4, h5, h6, h7⟩ := h
  refine ⟨h1, by simpa [sp_setN] using h2, h3, h4, fun q hq => ?_, h6, h7⟩
  rcases List.mem_or_eq_of_mem_set hq with hq | rfl
  · exact h5 q hq
  · exact sp_nd_bd ⟨h1, h2, h3, h4, h5, h6, h7⟩ hk
theorem sp_setA_wd (h : sp_wd C) (hk : k < C.2.2.1.length) : sp_wd (sp_setA C k v) := by
  obtain ⟨h1, h2, h3, h4, h5, h6, h7⟩ := h
  refine ⟨h1, h2, by simpa [sp_setA] using h3, h4, h5, fun q hq => ?_, h7⟩
  rcases List.mem_or_eq_of_mem_set hq with hq | rfl
  · exact h6 q hq
  · exact sp_ar_bd ⟨h1, h2, h3, h4, h5, h6, h7⟩ hk
theorem sp_setN_gd (h0 : C.1 = 0) (h : sp_ok C) : sp_gd (sp_setN C k v) := by
  refine sp_iv_gd (N := C.2.1.length) fun _ => ⟨by simp [sp_setN], sp_ok_mem h⟩
theorem sp_setA_gd (h0 : C.1 = 0) (h : sp_ok C) (hk : k < C.2.2.1.length) : sp_gd (sp_setA C k v) := by
  refine sp_iv_gd (N := C.2.1.length) fun _ => ⟨rfl, fun q hq => ?_⟩
  rcases List.mem_or_eq_of_mem_set hq with hq | rfl
  · exact sp_ok_mem h q hq
  · exact h k hk
theorem op_set_wf (hw : wf Z) : wf (op_set Z g wh i v).2 := by
  have hl := hw.1
  unfold op_set
  split
  · exact hw
  · next j hk =>
    obtain ⟨hj, -⟩ := ix_some (by omega) hk
    obtain ⟨w1, w2, w3, w4, w5, w6⟩ := hw.2.2.2 j hj
    split
    · next k0 =>
      obtain ⟨b1, b2, b3, b4, b5⟩ := w4 k0
      split
      · next c1 =>
        split
        · exact hw
        · next k hi =>
          rcases c1 with rfl | rfl
          · obtain ⟨hk1, -⟩ := ix_some (n := (gg Z.1 j).2.2.2.2.2.2.1.length) (by omega) hi
            rw [if_pos rfl]
            exact wf_set hw hj ⟨w1, fun h => absurd k0 h, sp_setN_gd b2 (w3 b2), fun _ => ⟨b1, b2, by simp [g_st, sp_setN]; exact b3, b4, b5⟩, fun h => b2, sp_setN_wd w6 hk1⟩
          · obtain ⟨hk1, -⟩ := ix_some (n := (gg Z.1 j).2.2.2.2.2.2.2.1.length) (by omega) hi
            rw [if_neg (by decide)]
            exact wf_set hw hj ⟨w1, fun h => absurd k0 h, sp_setA_gd b2 (w3 b2) hk1, fun _ => ⟨b1, b2, b3, by simp [g_st, sp_setA]; exact b4, b5⟩, fun h => b2, sp_setA_wd w6 hk1⟩
      · exact hw
    · exact hw
/-- a value of a base graph has changed -/
theorem cI_val {A : pm_T} {j : Nat} (hw : wf Z) (hn : nw < 2000) (hI : cI S x Z nw M) (hj : j < Z.1.length) (q2 : sp_fr (cB (ad x j)) S A) (q1 : cC A (ad x j) C) : cI (pm_sgi A x 5 (nI (nw + 1))) x (Z.1.set j (g_st (gg Z.1 j) C), Z.2) (nw + 1) M ∧ frO (cO x) S (pm_sgi A x 5 (nI (nw + 1))) := by
  have ag := ad_ge (x := x) (j := j)
  have hG := cI_G hI hj
  have hF := cI_F hI hj
  refine ⟨?_, ((frO.of q2).mono (fun b hb => by unfold cB at hb; unfold cO; omega)).tr (frO.gi (Or.inl ⟨by omega, by omega⟩))⟩
  refine cI_bump hI (by simp) hn (cX_fr (S' := A) hI.1 q2) (cM_fr (S' := A) hI.2.1 q2) ?_ ps_gi_self (cT_now ?_) ?_ (fun i hi => ?_) (fun i hi hs => ?_)
  · rw [ps_gi_gi, if_neg (by omega), (q2.2.2.2.2.2 x (by unfold cB; omega)).1]
  · exact cT_frO hI.2.2.2.2.2.2.2.1 (frO.of q2) (fun b q1 q2 q3 => by unfold cB at q3; omega)
  · exact cL_frO (S' := A) hI.2.2.2.2.2.2.2.2.1 (frO.of q2) (fun b q1 q2 q3 => by unfold cB at q3; omega)
  · have ai := ad_ge (x := x) (j := i)
    constructor
    · refine cF_now ?_
      show cF A x i (gg (Z.1.set j _) i)
      rw [gg_set hj]
      by_cases e : i = j
      · subst e; rw [if_pos rfl]; exact cF_fr hF hG q2
      · rw [if_neg e]; exact cF_fr (cI_F hI hi) (cI_G hI hi) q2
    · rw [ps_gi_gi, if_neg (by omega)]
      exact q2.2.1.2 _ _ (cI_G hI hi).1 (by decide)
  · refine cC_now ?_
    revert hs
    show (gg (Z.1.set j _) i).1 = 0 ∨ (gg (Z.1.set j _) i).2.2.2.2.1 = true → cC A (ad x i) (gg (Z.1.set j _) i).2.2.2.2.2
    rw [gg_set hj]
    by_cases e : i = j
    · subst e; rw [if_pos rfl]; exact fun _ => q1
    · rw [if_neg e]
      intro hs
      exact cC_fr (cI_st hI hi hs) q2 (fun b hb q => by have := ad_ne (x := x) e; unfold cB at hb q; omega)
set_option maxHeartbeats 2000000 in
theorem c_set (hw : wf Z) (hn : nw < 2000) (hI : cI S x Z nw M) (hQ : ∀ S' nw', cI S' x (op_set Z g wh i v).2 nw' M → nw' ≤ nw + 1 → frO (cO x) S S' → Q (some (.int (op_set Z g wh i v).1)) S') : pm_N (d + 3) 58 [.ref x, .int g, .int wh, .int i, .long v] S Q := by
  have hl := hw.1
  have hQ0 := fun h => hQ S nw h (by omega) frO.rf
  unfold op_set at hQ hQ0
  simp only [q58_0, q58_1, q58_2, q58_5, q58_5N, q58_7, q58_7N, q58_9, q58_9N, q58_12, q58_12N, q58_14, q58_17, q58_20, q58_21, q58_24, q58_27, q58_29, q58_30, q58_30N, q58_32, q58_33, q58_36, q58_36N, q58_38, q58_38N, q58_40, q58_41, q58_44, q58_47, q58_49, q58_50, q58_50N, q58_52, q58_55, q58_56, q58_58, q58_59, q58_60, q58_61, q58_64, q58_65, q58_66, q58_69, q58_70, q58_e, hI.1.1, c_known hw hI, pm_tl_some]
  cases hk : ix g Z.1.length with
  | none =>
    rw [hk] at hQ0
    simp only [Option.map_none, pm_rf_none, q58_0, q58_1, q58_2, q58_5, q58_5N, q58_7, q58_7N, q58_9, q58_9N, q58_12, q58_12N, q58_14, q58_17, q58_20, q58_21, q58_24, q58_27, q58_29, q58_30, q58_30N, q58_32, q58_33, q58_36, q58_36N, q58_38, q58_38N, q58_40, q58_41, q58_44, q58_47, q58_49, q58_50, q58_50N, q58_52, q58_55, q58_56, q58_58, q58_59, q58_60, q58_61, q58_64, q58_65, q58_66, q58_69, q58_70, q58_e]
    exact hQ0 hI
  | some j =>
    rw [hk] at hQ hQ0
    dsimp only at hQ hQ0
    obtain ⟨hj, -⟩ := ix_some (by omega) hk
    have hG := cI_G hI hj
    have hF := cI_F hI hj
    obtain ⟨w1, w2, w3, w4, w5, w6⟩ := hw.2.2.2 j hj
    have e0 : (nI (gg Z.1 j).1 = 0) = ((gg Z.1 j).1 = 0) := nI_e' (b := 0) (by omega) (by decide)
    have ag := ad_ge (x := x) (j := j)
    simp only [Option.map_some, pm_rf_some, q58_0, q58_1, q58_2, q58_5, q58_5N, q58_7, q58_7N, q58_9, q58_9N, q58_12, q58_12N, q58_14, q58_17, q58_20, q58_21, q58_24, q58_27, q58_29, q58_30, q58_30N, q58_32, q58_33, q58_36, q58_36N, q58_38, q58_38N, q58_40, q58_41, q58_44, q58_47, q58_49, q58_50, q58_50N, q58_52, q58_55, q58_56, q58_58, q58_59, q58_60, q58_61, q58_64, q58_65, q58_66, q58_69, q58_70, q58_e, hG.1, hF.1, e0, c_isOneOfTwo, pm_tl_some, pm_z1]
    by_cases k0 : (gg Z.1 j).1 = 0
    · rw [if_pos k0]
      rw [if_pos k0] at hQ hQ0
      obtain ⟨b1, b2, b3, b4, b5⟩ := w4 k0
      have hC := cI_st hI hj (Or.inl k0)
      have hnn := cC_n hC b2
      have hmm := cC_m hC b2
      by_cases c1 : wh = 0 ∨ wh = 1
      · rw [if_neg (fun h => h c1)]; rw [if_pos c1] at hQ hQ0
        simp only [c_items hG, pm_tl_some, q58_0, q58_1, q58_2, q58_5, q58_5N, q58_7, q58_7N, q58_9, q58_9N, q58_12, q58_12N, q58_14, q58_17, q58_20, q58_21, q58_24, q58_27, q58_29, q58_30, q58_30N, q58_32, q58_33, q58_36, q58_36N, q58_38, q58_38N, q58_40, q58_41, q58_44, q58_47, q58_49, q58_50, q58_50N, q58_52, q58_55, q58_56, q58_58, q58_59, q58_60, q58_61, q58_64, q58_65, q58_66, q58_69, q58_70, q58_e]
        rcases c1 with rfl | rfl
        · simp only [if_true, q58_0, q58_1, q58_2, q58_5, q58_5N, q58_7, q58_7N, q58_9, q58_9N, q58_12, q58_12N, q58_14, q58_17, q58_20, q58_21, q58_24, q58_27, q58_29, q58_30, q58_30N, q58_32, q58_33, q58_36, q58_36N, q58_38, q58_38N, q58_40, q58_41, q58_44, q58_47, q58_49, q58_50, q58_50N, q58_52, q58_55, q58_56, q58_58, q58_59, q58_60, q58_61, q58_64, q58_65, q58_66, q58_69, q58_70, q58_e, hG.1, hG.2.1, hG.2.2.1, hG.2.2.2.1, hG.2.2.2.2.1, hG.2.2.2.2.2.1, hG.2.2.2.2.2.2.2.2.1.1, hG.2.2.2.2.2.2.2.2.1.2.1, hG.2.2.2.2.2.2.2.2.1.2.2.1, hG.2.2.2.2.2.2.2.2.1.2.2.2.1, hG.2.2.2.2.2.2.2.2.2.1.1, hG.2.2.2.2.2.2.2.2.2.1.2.1, hG.2.2.2.2.2.2.2.2.2.1.2.2.1, hG.2.2.2.2.2.2.2.2.2.1.2.2.2.1, hG.2.2.2.2.2.2.2.2.2.2.1, hG.2.2.2.2.2.2.2.2.2.2.2.1, hG.2.2.2.2.2.2.2.2.2.2.2.2.1, hG.2.2.2.2.2.2.2.2.2.2.2.2.2.1, pm_rf_some, c_hasX hG.2.2.2.2.2.2.2.2.1.1 hnn.1, pm_tl_some]
          have hq : sp_len (gg Z.1 j).2.2.2.2.2 ((0 : Int32).toNatClampNeg) = (gg Z.1 j).2.2.2.2.2.2.1.length := rfl
          rw [hq] at hQ hQ0
          cases hi : ix i (gg Z.1 j).2.2.2.2.2.2.1.length with
          | none =>
            rw [hi] at hQ0
            simp only [Option.isSome_none, Bool.false_eq_true, if_false, if_true, q58_0, q58_1, q58_2, q58_5, q58_5N, q58_7, q58_7N, q58_9, q58_9N, q58_12, q58_12N, q58_14, q58_17, q58_20, q58_21, q58_24, q58_27, q58_29, q58_30, q58_30N, q58_32, q58_33, q58_36, q58_36N, q58_38, q58_38N, q58_40, q58_41, q58_44, q58_47, q58_49, q58_50, q58_50N, q58_52, q58_55, q58_56, q58_58, q58_59, q58_60, q58_61, q58_64, q58_65, q58_66, q58_69, q58_70, q58_e]
            exact hQ0 hI
          | some k =>
            rw [hi] at hQ
            dsimp only at hQ
            obtain ⟨hk1, rfl⟩ := ix_some (by omega) hi
            have hk2 : k < 40 := by omega
            have q2 : sp_fr (cB (ad x j)) S (pm_szl S (ad x j + 2) k v) := sp_fr.zl ⟨by omega, by omega⟩
            simp only [Option.isSome_some, if_true, show ¬ (1 : Int32) = 0 by decide, if_false, q58_0, q58_1, q58_2, q58_5, q58_5N, q58_7, q58_7N, q58_9, q58_9N, q58_12, q58_12N, q58_14, q58_17, q58_20, q58_21, q58_24, q58_27, q58_29, q58_30, q58_30N, q58_32, q58_33, q58_36, q58_36N, q58_38, q58_38N, q58_40, q58_41, q58_44, q58_47, q58_49, q58_50, q58_50N, q58_52, q58_55, q58_56, q58_58, q58_59, q58_60, q58_61, q58_64, q58_65, q58_66, q58_69, q58_70, q58_e, hG.1, hG.2.1, hG.2.2.1, hG.2.2.2.1, hG.2.2.2.2.1, hG.2.2.2.2.2.1, hG.2.2.2.2.2.2.2.2.1.1, hG.2.2.2.2.2.2.2.2.1.2.1, hG.2.2.2.2.2.2.2.2.1.2.2.1, hG.2.2.2.2.2.2.2.2.1.2.2.2.1, hG.2.2.2.2.2.2.2.2.2.1.1, hG.2.2.2.2.2.2.2.2.2.1.2.1, hG.2.2.2.2.2.2.2.2.2.1.2.2.1, hG.2.2.2.2.2.2.2.2.2.1.2.2.2.1, hG.2.2.2.2.2.2.2.2.2.2.1, hG.2.2.2.2.2.2.2.2.2.2.2.1, hG.2.2.2.2.2.2.2.2.2.2.2.2.1, hG.2.2.2.2.2.2.2.2.2.2.2.2.2.1, pm_rf_some, gr2 hG hk2, gr3 hG hk2, gr4 hG hk2, nc4 hk2, hI.1.1, ps_gi_nx, ps_gi_sz, ps_gi_sh, ps_gi_gi, ps_gi_gl, ps_gi_gr, ps_gi_zi, ps_gi_zl, ps_gi_zr, ps_gi_ar, ps_gi_al, ps_gl_nx, ps_gl_sz, ps_gl_sh, ps_gl_gi, ps_gl_gl, ps_gl_gr, ps_gl_zi, ps_gl_zl, ps_gl_zr, ps_gl_ar, ps_gl_al, ps_gr_nx, ps_gr_sz, ps_gr_sh, ps_gr_gi, ps_gr_gl, ps_gr_gr, ps_gr_zi, ps_gr_zl, ps_gr_zr, ps_gr_ar, ps_gr_al, ps_zi_nx, ps_zi_sz, ps_zi_sh, ps_zi_gi, ps_zi_gl, ps_zi_gr, ps_zi_zi, ps_zi_zl, ps_zi_zr, ps_zi_ar, ps_zi_al, ps_zl_nx, ps_zl_sz, ps_zl_sh, ps_zl_gi, ps_zl_gl, ps_zl_gr, ps_zl_zi, ps_zl_zl, ps_zl_zr, ps_zl_ar, ps_zl_al, ps_zr_nx, ps_zr_sz, ps_zr_sh, ps_zr_gi, ps_zr_gl, ps_zr_gr, ps_zr_zi, ps_zr_zl, ps_zr_zr, ps_zr_ar, ps_zr_al, pm_rf_some, pm_rf_none, pm_tl_some, pm_tl_none, hI.2.2.2.1, nI_1]
            obtain ⟨z1, z2⟩ := cI_val hw hn hI hj q2 (cC_setN hC b2 hk1)
            exact hQ _ (nw + 1) z1 (Nat.le_refl _) z2
        · simp only [show ¬ (1 : Int32) = 0 by decide, if_false, if_true, q58_0, q58_1, q58_2, q58_5, q58_5N, q58_7, q58_7N, q58_9, q58_9N, q58_12, q58_12N, q58_14, q58_17, q58_20, q58_21, q58_24, q58_27, q58_29, q58_30, q58_30N, q58_32, q58_33, q58_36, q58_36N, q58_38, q58_38N, q58_40, q58_41, q58_44, q58_47, q58_49, q58_50, q58_50N, q58_52, q58_55, q58_56, q58_58, q58_59, q58_60, q58_61, q58_64, q58_65, q58_66, q58_69, q58_70, q58_e, hG.1, hG.2.1, hG.2.2.1, hG.2.2.2.1, hG.2.2.2.2.1, hG.2.2.2.2.2.1, hG.2.2.2.2.2.2.2.2.1.1, hG.2.2.2.2.2.2.2.2.1.2.1, hG.2.2.2.2.2.2.2.2.1.2.2.1, hG.2.2.2.2.2.2.2.2.1.2.2.2.1, hG.2.2.2.2.2.2.2.2.2.1.1, hG.2.2.2.2.2.2.2.2.2.1.2.1, hG.2.2.2.2.2.2.2.2.2.1.2.2.1, hG.2.2.2.2.2.2.2.2.2.1.2.2.2.1, hG.2.2.2.2.2.2.2.2.2.2.1, hG.2.2.2.2.2.2.2.2.2.2.2.1, hG.2.2.2.2.2.2.2.2.2.2.2.2.1, hG.2.2.2.2.2.2.2.2.2.2.2.2.2.1, pm_rf_some, c_hasX hG.2.2.2.2.2.2.2.2.2.1.1 hmm.1, pm_tl_some]
          have hq : sp_len (gg Z.1 j).2.2.2.2.2 ((1 : Int32).toNatClampNeg) = (gg Z.1 j).2.2.2.2.2.2.2.1.length := rfl
          rw [hq] at hQ hQ0
          cases hi : ix i (gg Z.1 j).2.2.2.2.2.2.2.1.length with
          | none =>
            rw [hi] at hQ0
            simp only [Option.isSome_none, Bool.false_eq_true, if_false, if_true, q58_0, q58_1, q58_2, q58_5, q58_5N, q58_7, q58_7N, q58_9, q58_9N, q58_12, q58_12N, q58_14, q58_17, q58_20, q58_21, q58_24, q58_27, q58_29, q58_30, q58_30N, q58_32, q58_33, q58_36, q58_36N, q58_38, q58_38N, q58_40, q58_41, q58_44, q58_47, q58_49, q58_50, q58_50N, q58_52, q58_55, q58_56, q58_58, q58_59, q58_60, q58_61, q58_64, q58_65, q58_66, q58_69, q58_70, q58_e]
            exact hQ0 hI
          | some k =>
            rw [hi] at hQ
            dsimp only at hQ
            obtain ⟨hk1, rfl⟩ := ix_some (by omega) hi
            have hk2 : k < 120 := by omega
            have q2 : sp_fr (cB (ad x j)) S (pm_szl S (ad x j + 6) k v) := sp_fr.zl ⟨by omega, by omega⟩
            simp only [Option.isSome_some, if_true, show ¬ (1 : Int32) = 0 by decide, if_false, q58_0, q58_1, q58_2, q58_5, q58_5N, q58_7, q58_7N, q58_9, q58_9N, q58_12, q58_12N, q58_14, q58_17, q58_20, q58_21, q58_24, q58_27, q58_29, q58_30, q58_30N, q58_32, q58_33, q58_36, q58_36N, q58_38, q58_38N, q58_40, q58_41, q58_44, q58_47, q58_49, q58_50, q58_50N, q58_52, q58_55, q58_56, q58_58, q58_59, q58_60, q58_61, q58_64, q58_65, q58_66, q58_69, q58_70, q58_e, hG.1, hG.2.1, hG.2.2.1, hG.2.2.2.1, hG.2.2.2.2.1, hG.2.2.2.2.2.1, hG.2.2.2.2.2.2.2.2.1.1, hG.2.2.2.2.2.2.2.2.1.2.1, hG.2.2.2.2.2.2.2.2.1.2.2.1, hG.2.2.2.2.2.2.2.2.1.2.2.2.1, hG.2.2.2.2.2.2.2.2.2.1.1, hG.2.2.2.2.2.2.2.2.2.1.2.1, hG.2.2.2.2.2.2.2.2.2.1.2.2.1, hG.2.2.2.2.2.2.2.2.2.1.2.2.2.1, hG.2.2.2.2.2.2.2.2.2.2.1, hG.2.2.2.2.2.2.2.2.2.2.2.1, hG.2.2.2.2.2.2.2.2.2.2.2.2.1, hG.2.2.2.2.2.2.2.2.2.2.2.2.2.1, pm_rf_some, gr9 hG hk2, gr10 hG hk2, gr6 hG hk2, gr7 hG hk2, gr8 hG hk2, nc12 hk2, hI.1.1, ps_gi_nx, ps_gi_sz, ps_gi_sh, ps_gi_gi, ps_gi_gl, ps_gi_gr, ps_gi_zi, ps_gi_zl, ps_gi_zr, ps_gi_ar, ps_gi_al, ps_gl_nx, ps_gl_sz, ps_gl_sh, ps_gl_gi, ps_gl_gl, ps_gl_gr, ps_gl_zi, ps_gl_zl, ps_gl_zr, ps_gl_ar, ps_gl_al, ps_gr_nx, ps_gr_sz, ps_gr_sh, ps_gr_gi, ps_gr_gl, ps_gr_gr, ps_gr_zi, ps_gr_zl, ps_gr_zr, ps_gr_ar, ps_gr_al, ps_zi_nx, ps_zi_sz, ps_zi_sh, ps_zi_gi, ps_zi_gl, ps_zi_gr, ps_zi_zi, ps_zi_zl, ps_zi_zr, ps_zi_ar, ps_zi_al, ps_zl_nx, ps_zl_sz, ps_zl_sh, ps_zl_gi, ps_zl_gl, ps_zl_gr, ps_zl_zi, ps_zl_zl, ps_zl_zr, ps_zl_ar, ps_zl_al, ps_zr_nx, ps_zr_sz, ps_zr_sh, ps_zr_gi, ps_zr_gl, ps_zr_gr, ps_zr_zi, ps_zr_zl, ps_zr_zr, ps_zr_ar, ps_zr_al, pm_rf_some, pm_rf_none, pm_tl_some, pm_tl_none, hI.2.2.2.1, nI_1]
            obtain ⟨z1, z2⟩ := cI_val hw hn hI hj q2 (cC_setA hC b2 hk1)
            exact hQ _ (nw + 1) z1 (Nat.le_refl _) z2
      · rw [if_pos c1]; rw [if_neg c1] at hQ0; exact hQ0 hI
    · rw [if_neg k0]
      rw [if_neg k0] at hQ0
      exact hQ0 hI
theorem sp_de_of {v : Int32} (h : ¬ v < -1) (h2 : v < 10) : sp_eC (sp_de v) = v ∧ ∀ l, sp_de v = some l → l < 10 := by
  unfold sp_de
  by_cases e : v = -1
  · rw [if_pos e, e]; exact ⟨rfl, fun l hl => by cases hl⟩
  · rw [if_neg e]
    have : ¬ v < 0 := fun q => by
      rw [Int32.lt_iff_toInt_lt] at h q
      have e1 : (-1 : Int32).toInt = -1 := by decide
      have e2 : (0 : Int32).toInt = 0 := by decide
      have : v.toInt = -1 := by omega
      exact e (Int32.toInt_inj.mp (by rw [this, e1]))
    obtain ⟨m, hm, rfl⟩ := nI_of this
    rw [nI_clamp hm]
    refine ⟨rfl, fun l hl => ?_⟩
    cases hl
    apply Classical.byContradiction
    intro q
    exact nI_nlt (b := 10) (show 10 ≤ m by omega) (by omega) h2
theorem op_label_wf {v : Int32} (hw : wf Z) : wf (op_label Z t i v).2 := by
  unfold op_label
  split
  · next h =>
    obtain ⟨h1, h2, h3, h4, h5⟩ := h
    refine ⟨hw.1, hw.2.1, fun t' i' l hl => ?_, hw.2.2.2⟩
    change (if t' = t.toNatClampNeg ∧ i' = i.toNatClampNeg then sp_de v else Z.2.1 t' i') = some l at hl
    split at hl
    · exact (sp_de_of h4 h5).2 l hl
    · exact hw.2.2.1 t' i' l hl
  · exact hw
set_option maxHeartbeats 2000000 in
theorem c_label {v : Int32} (hw : wf Z) (hn : nw < 2000) (hI : cI S x Z nw M) (hQ : ∀ S' nw', cI S' x (op_label Z t i v).2 nw' M → nw' ≤ nw + 1 → frO (cO x) S S' → Q (some (.int (op_label Z t i v).1)) S') : pm_N (d + 1) 59 [.ref x, .int t, .int i, .int v] S Q := by
  obtain ⟨h1, h2, h3, h4, h5, h6, h7, h8, h9, h10⟩ := id hI
  have hQ0 := fun h => hQ S nw h (by omega) frO.rf
  unfold op_label at hQ hQ0
  simp only [q59_0, q59_1, q59_4, q59_7, q59_8, q59_11, q59_12, q59_14, q59_17, q59_18, q59_19, q59_22, q59_23, q59_25, q59_28, q59_30, q59_31, q59_32, q59_35, q59_36, q59_36r, q59_37, q59_38, q59_39, q59_41, q59_42, q59_45, q59_46, q59_46r, q59_47, q59_48, q59_49, q59_50, q59_51, q59_52, q59_55, q59_56, q59_57, q59_60, q59_62, q59_e, c_isTable, pm_tl_some, pm_z1]
  by_cases c1 : 0 ≤ t ∧ t < 4
  · rw [if_neg (fun h => h c1)]
    by_cases c2 : i < 0
    · rw [if_pos c2]; rw [if_neg (fun h => h.2.1 c2)] at hQ0; exact hQ0 hI
    · rw [if_neg c2]
      by_cases c3 : i < 40
      · rw [if_pos c3]
        by_cases c4 : v < -1
        · rw [if_pos c4]; rw [if_neg (fun h => h.2.2.2.1 c4)] at hQ0; exact hQ0 hI
        · rw [if_neg c4]
          by_cases c5 : v < 10
          · rw [if_pos c5]
            rw [if_pos ⟨c1, c2, c3, c4, c5⟩] at hQ
            obtain ⟨t', ht, rfl⟩ := nI_of (k2_nlt c1.1)
            obtain ⟨i', hi, rfl⟩ := nI_of c2
            have ht4 : t' < 4 := Classical.byContradiction fun q => nI_nlt (b := 4) (show 4 ≤ t' by omega) (by omega) c1.2
            have hi4 : i' < 40 := Classical.byContradiction fun q => nI_nlt (b := 40) (show 40 ≤ i' by omega) (by omega) c3
            rw [nI_clamp ht, nI_clamp hi] at hQ
            have r := h1.2.2.2.2.2.2.2.2.2.2.2.2.2.2.2.1
            have r2 : ∀ t, t < 4 → pm_zr S (x + 8) t = some (x + 2 + 7 + t) ∧ pm_sh S (x + 2 + 7 + t) = .inl (0, 40) := h1.2.2.2.2.2.2.2.2.2.2.2.2.2.2.2.1
            have r3 : pm_sh S (x + 8) = .inl (3, 4) := h1.2.2.2.2.2.2.2.2.2.2.2.2.2.2.1
            have a1 := pm_ar_nI r3 ht4 (by decide)
            have a2 := pm_ar_nI (r2 t' ht4).2 hi4 (by decide)
            have q2 : sp_fr (fun b => b = x + 2 + 7 + t') S (pm_szi S (x + 2 + 7 + t') i' v) := sp_fr.zi rfl
            simp only [q59_0, q59_1, q59_4, q59_7, q59_8, q59_11, q59_12, q59_14, q59_17, q59_18, q59_19, q59_22, q59_23, q59_25, q59_28, q59_30, q59_31, q59_32, q59_35, q59_36, q59_36r, q59_37, q59_38, q59_39, q59_41, q59_42, q59_45, q59_46, q59_46r, q59_47, q59_48, q59_49, q59_50, q59_51, q59_52, q59_55, q59_56, q59_57, q59_60, q59_62, q59_e, h1.1, h1.2.2.2.2.1, pm_rf_some, a1, a2, nI_clamp ht, nI_clamp hi, (r2 t' ht4).1, ps_gi_nx, ps_gi_sz, ps_gi_sh, ps_gi_gi, ps_gi_gl, ps_gi_gr, ps_gi_zi, ps_gi_zl, ps_gi_zr, ps_gi_ar, ps_gi_al, ps_gl_nx, ps_gl_sz, ps_gl_sh, ps_gl_gi, ps_gl_gl, ps_gl_gr, ps_gl_zi, ps_gl_zl, ps_gl_zr, ps_gl_ar, ps_gl_al, ps_gr_nx, ps_gr_sz, ps_gr_sh, ps_gr_gi, ps_gr_gl, ps_gr_gr, ps_gr_zi, ps_gr_zl, ps_gr_zr, ps_gr_ar, ps_gr_al, ps_zi_nx, ps_zi_sz, ps_zi_sh, ps_zi_gi, ps_zi_gl, ps_zi_gr, ps_zi_zi, ps_zi_zl, ps_zi_zr, ps_zi_ar, ps_zi_al, ps_zl_nx, ps_zl_sz, ps_zl_sh, ps_zl_gi, ps_zl_gl, ps_zl_gr, ps_zl_zi, ps_zl_zl, ps_zl_zr, ps_zl_ar, ps_zl_al, ps_zr_nx, ps_zr_sz, ps_zr_sh, ps_zr_gi, ps_zr_gl, ps_zr_gr, ps_zr_zi, ps_zr_zl, ps_zr_zr, ps_zr_ar, ps_zr_al, pm_rf_some, pm_rf_none, pm_tl_some, pm_tl_none, h4, nI_1, h9 t' i' ht4 hi4]
            refine hQ _ (nw + 1) ?_ (Nat.le_refl _) (((frO.of q2).mono (fun b hb => by unfold cO; omega)).tr (frO.gi (Or.inl ⟨by omega, by omega⟩)))
            refine cI_bump hI rfl hn (cX_fr (S' := pm_szi S (x + 2 + 7 + t') i' v) h1 q2) (cM_fr (S' := pm_szi S (x + 2 + 7 + t') i' v) h2 q2) ?_ ps_gi_self (cT_now ?_) (fun t j ht' hj' => ?_) (fun j hj => ?_) (fun j hj hs => ?_)
            · rw [ps_gi_gi, if_neg (by omega)]; rfl
            · exact cT_frO h8 (frO.of q2) (fun b q1 q2 q3 => by omega)
            · show pm_zi (pm_szi S (x + 2 + 7 + t') i' v) (x + 2 + 7 + t) j = sp_eC (lb_up Z.2.1 t' i' (sp_de v) t j)
              rw [ps_zi_zi]
              unfold lb_up
              by_cases e : t = t' ∧ j = i'
              · rw [if_pos e, if_pos ⟨by omega, e.2⟩, (sp_de_of c4 c5).1]
              · rw [if_neg e, if_neg (fun q => e ⟨by omega, q.2⟩)]
                exact h9 t j ht' hj'
            · have ai := ad_ge (x := x) (j := j)
              refine ⟨show cF _ x j (gg Z.1 j) from cF_now (cF_fr (cI_F hI hj) (cI_G hI hj) q2), ?_⟩
              rw [ps_gi_gi, if_neg (by omega)]; rfl
            · show cC _ (ad x j) (gg Z.1 j).2.2.2.2.2
              have hs' : (gg Z.1 j).1 = 0 ∨ (gg Z.1 j).2.2.2.2.1 = true := hs
              refine cC_now (cC_fr (cI_st hI hj hs') q2 (fun b hb q => by have := ad_ge (x := x) (j := j); unfold cB at hb; omega))
          · rw [if_neg c5]; rw [if_neg (fun h => c5 h.2.2.2.2)] at hQ0; exact hQ0 hI
      · rw [if_neg c3]; rw [if_neg (fun h => c3 h.2.2.1)] at hQ0; exact hQ0 hI
  · rw [if_pos c1]; rw [if_neg (fun h => c1 h.1)] at hQ0; exact hQ0 hI
theorem op_live_wf {b : Bool} (hw : wf Z) : wf (op_live Z g b).2 := by
  have hl := hw.1
  unfold op_live
  split
  · exact hw
  · next j hk =>
    obtain ⟨hj, -⟩ := ix_some (by omega) hk
    obtain ⟨w1, w2, w3, w4, w5, w6⟩ := hw.2.2.2 j hj
    split
    · exact hw
    · next k0 =>
      split
      · split
        · exact wf_set hw hj ⟨w1, w2, w3, fun h => absurd h k0, (fun h => by cases h), w6⟩
        · split
          · next c0 => exact wf_set hw hj ⟨w1, w2, ct_gd hw _ _ (Nat.lt_succ_self _) hj, fun h => absurd h k0, fun _ => c0, ct_wd hw _ _ (Nat.lt_succ_self _) hj⟩
          · exact hw
      · exact hw
/-- a view is fixed, or live again -/
theorem cI_fix {j : Nat} {b : Bool} (hn : nw < 2000) (hI : cI S x Z nw M) (hj : j < Z.1.length) (k0 : ¬ (gg Z.1 j).1 = 0) (q1 : b = true → cC S (ad x j) C) : cI (pm_sgi (pm_sgi S (ad x j) 12 (if b = true then 1 else 0)) x 5 (nI (nw + 1))) x (Z.1.set j (g_fx (gg Z.1 j) b C), Z.2) (nw + 1) M ∧ frO (cO x) S (pm_sgi (pm_sgi S (ad x j) 12 (if b = true then 1 else 0)) x 5 (nI (nw + 1))) := by
  have ag := ad_ge (x := x) (j := j)
  have hG := cI_G hI hj
  have hF := cI_F hI hj
  have keep : ∀ i C, cC S (ad x i) C → cC (pm_sgi S (ad x j) 12 (if b = true then 1 else 0)) (ad x i) C := by
    intro i C hc
    unfold cC cN cA cH cZ at hc ⊢
    simpa [ps_gi_nx, ps_gi_sz, ps_gi_sh, ps_gi_gi, ps_gi_gl, ps_gi_gr, ps_gi_zi, ps_gi_zl, ps_gi_zr, ps_gi_ar, ps_gi_al, ps_gl_nx, ps_gl_sz, ps_gl_sh, ps_gl_gi, ps_gl_gl, ps_gl_gr, ps_gl_zi, ps_gl_zl, ps_gl_zr, ps_gl_ar, ps_gl_al, ps_gr_nx, ps_gr_sz, ps_gr_sh, ps_gr_gi, ps_gr_gl, ps_gr_gr, ps_gr_zi, ps_gr_zl, ps_gr_zr, ps_gr_ar, ps_gr_al, ps_zi_nx, ps_zi_sz, ps_zi_sh, ps_zi_gi, ps_zi_gl, ps_zi_gr, ps_zi_zi, ps_zi_zl, ps_zi_zr, ps_zi_ar, ps_zi_al, ps_zl_nx, ps_zl_sz, ps_zl_sh, ps_zl_gi, ps_zl_gl, ps_zl_gr, ps_zl_zi, ps_zl_zl, ps_zl_zr, ps_zl_ar, ps_zl_al, ps_zr_nx, ps_zr_sz, ps_zr_sh, ps_zr_gi, ps_zr_gl, ps_zr_gr, ps_zr_zi, ps_zr_zl, ps_zr_zr, ps_zr_ar, ps_zr_al, pm_rf_some, pm_rf_none, pm_tl_some, pm_tl_none, show ¬ (5 : Nat) = 12 by decide, show ¬ (3 : Nat) = 12 by decide] using hc
  refine ⟨?_, (frO.gi (Or.inr ag)).tr (frO.gi (Or.inl ⟨by omega, by omega⟩))⟩
  refine cI_bump hI (by simp) hn hI.1 hI.2.1 ?_ ps_gi_self (cT_now ?_) hI.2.2.2.2.2.2.2.2.1 (fun i hi => ?_) (fun i hi hs => ?_)
  · rw [ps_gi_gi, if_neg (by omega), ps_gi_gi, if_neg (by omega)]
  · exact cT_frO (P := fun b => b = ad x j) hI.2.2.2.2.2.2.2.1 (frO.gi rfl) (fun b q1 q2 q3 => by omega)
  · have ai := ad_ge (x := x) (j := i)
    constructor
    · refine cF_now ?_
      show cF _ x i (gg (Z.1.set j _) i)
      rw [gg_set hj]
      by_cases e : i = j
      · subst e
        rw [if_pos rfl]
        refine ⟨by rw [ps_gi_gi, if_neg (by omega)]; exact hF.1, fun h => ?_, ps_gi_self⟩
        have e0 : ∀ (k : Nat) (w : Int32), k ≠ 12 → pm_gi (pm_sgi S (ad x i) 12 w) (ad x i) k = pm_gi S (ad x i) k := fun k w hk => by rw [ps_gi_gi, if_neg (fun q => hk q.2)]
        rw [e0 9 _ (by decide), e0 10 _ (by decide), e0 11 _ (by decide)]
        exact hF.2.1 h
      · rw [if_neg e]
        exact cF_frO (P := fun b => b = ad x j) (cI_F hI hi) (frO.gi rfl) (by have := ad_ne (x := x) e; omega)
    · rw [ps_gi_gi, if_neg (by omega), ps_gi_gi, if_neg (by omega)]
  · refine cC_now (keep _ _ ?_)
    revert hs
    show (gg (Z.1.set j _) i).1 = 0 ∨ (gg (Z.1.set j _) i).2.2.2.2.1 = true → cC S (ad x i) (gg (Z.1.set j _) i).2.2.2.2.2
    rw [gg_set hj]
    by_cases e : i = j
    · subst e
      rw [if_pos rfl]
      intro hs
      exact q1 (hs.resolve_left k0)
    · rw [if_neg e]
      intro hs
      exact cI_st hI hi hs
set_option maxHeartbeats 2000000 in
theorem c_live {b : Bool} (hw : wf Z) (hn : nw < 2000) (hI : cI S x Z nw M) (hQ : ∀ S' nw', cI S' x (op_live Z g b).2 nw' M → nw' ≤ nw + 1 → frO (cO x) S S' → Q (some (.int (op_live Z g b).1)) S') : pm_N (d + 92) 62 [.ref x, .int g, .int (if b = true then 1 else 0)] S Q := by
  have hl := hw.1
  have hQ0 := fun S' h => hQ S' nw h (by omega)
  unfold op_live at hQ hQ0
  simp only [q62_0, q62_1, q62_2, q62_5, q62_5N, q62_6, q62_6N, q62_7, q62_7N, q62_10, q62_10N, q62_11, q62_14, q62_17, q62_19, q62_20, q62_20N, q62_21, q62_24, q62_25, q62_28, q62_29, q62_30, q62_31, q62_34, q62_35, q62_35N, q62_36, q62_39, q62_42, q62_44, q62_45, q62_45N, q62_46, q62_47, q62_50, q62_51, q62_54, q62_55, q62_58, q62_59, q62_60, q62_63, q62_64, q62_65, q62_68, q62_69, q62_e, hI.1.1, c_known hw hI, pm_tl_some]
  cases hk : ix g Z.1.length with
  | none =>
    rw [hk] at hQ0
    simp only [Option.map_none, pm_rf_none, q62_0, q62_1, q62_2, q62_5, q62_5N, q62_6, q62_6N, q62_7, q62_7N, q62_10, q62_10N, q62_11, q62_14, q62_17, q62_19, q62_20, q62_20N, q62_21, q62_24, q62_25, q62_28, q62_29, q62_30, q62_31, q62_34, q62_35, q62_35N, q62_36, q62_39, q62_42, q62_44, q62_45, q62_45N, q62_46, q62_47, q62_50, q62_51, q62_54, q62_55, q62_58, q62_59, q62_60, q62_63, q62_64, q62_65, q62_68, q62_69, q62_e]
    exact hQ0 S hI frO.rf
  | some j =>
    rw [hk] at hQ hQ0
    dsimp only at hQ hQ0
    obtain ⟨hj, -⟩ := ix_some (by omega) hk
    have hG := cI_G hI hj
    have hF := cI_F hI hj
    obtain ⟨w1, w2, w3, w4, w5, w6⟩ := hw.2.2.2 j hj
    have e0 : (nI (gg Z.1 j).1 = 0) = ((gg Z.1 j).1 = 0) := nI_e' (b := 0) (by omega) (by decide)
    have ag := ad_ge (x := x) (j := j)
    simp only [Option.map_some, pm_rf_some, q62_0, q62_1, q62_2, q62_5, q62_5N, q62_6, q62_6N, q62_7, q62_7N, q62_10, q62_10N, q62_11, q62_14, q62_17, q62_19, q62_20, q62_20N, q62_21, q62_24, q62_25, q62_28, q62_29, q62_30, q62_31, q62_34, q62_35, q62_35N, q62_36, q62_39, q62_42, q62_44, q62_45, q62_45N, q62_46, q62_47, q62_50, q62_51, q62_54, q62_55, q62_58, q62_59, q62_60, q62_63, q62_64, q62_65, q62_68, q62_69, q62_e, hG.1, hF.1, e0, hF.2.2]
    by_cases k0 : (gg Z.1 j).1 = 0
    · rw [if_pos k0]
      rw [if_pos k0] at hQ0
      exact hQ0 S hI frO.rf
    · rw [if_neg k0]
      rw [if_neg k0] at hQ hQ0
      by_cases c1 : (gg Z.1 j).2.2.2.2.1 = b
      · rw [if_pos c1] at hQ hQ0
        rw [if_pos (by rw [c1])]
        cases b with
        | true =>
          rw [if_pos rfl] at hQ
          simp only [if_true, show ¬ (1 : Int32) = 0 by decide, if_false, q62_0, q62_1, q62_2, q62_5, q62_5N, q62_6, q62_6N, q62_7, q62_7N, q62_10, q62_10N, q62_11, q62_14, q62_17, q62_19, q62_20, q62_20N, q62_21, q62_24, q62_25, q62_28, q62_29, q62_30, q62_31, q62_34, q62_35, q62_35N, q62_36, q62_39, q62_42, q62_44, q62_45, q62_45N, q62_46, q62_47, q62_50, q62_51, q62_54, q62_55, q62_58, q62_59, q62_60, q62_63, q62_64, q62_65, q62_68, q62_69, q62_e, hG.1, true_or, or_true, hI.1.1, ps_gi_nx, ps_gi_sz, ps_gi_sh, ps_gi_gi, ps_gi_gl, ps_gi_gr, ps_gi_zi, ps_gi_zl, ps_gi_zr, ps_gi_ar, ps_gi_al, ps_gl_nx, ps_gl_sz, ps_gl_sh, ps_gl_gi, ps_gl_gl, ps_gl_gr, ps_gl_zi, ps_gl_zl, ps_gl_zr, ps_gl_ar, ps_gl_al, ps_gr_nx, ps_gr_sz, ps_gr_sh, ps_gr_gi, ps_gr_gl, ps_gr_gr, ps_gr_zi, ps_gr_zl, ps_gr_zr, ps_gr_ar, ps_gr_al, ps_zi_nx, ps_zi_sz, ps_zi_sh, ps_zi_gi, ps_zi_gl, ps_zi_gr, ps_zi_zi, ps_zi_zl, ps_zi_zr, ps_zi_ar, ps_zi_al, ps_zl_nx, ps_zl_sz, ps_zl_sh, ps_zl_gi, ps_zl_gl, ps_zl_gr, ps_zl_zi, ps_zl_zl, ps_zl_zr, ps_zl_ar, ps_zl_al, ps_zr_nx, ps_zr_sz, ps_zr_sh, ps_zr_gi, ps_zr_gl, ps_zr_gr, ps_zr_zi, ps_zr_zl, ps_zr_zr, ps_zr_ar, ps_zr_al, pm_rf_some, pm_rf_none, pm_tl_some, pm_tl_none, show ¬ (x = ad x j ∧ 5 = 12) by omega, hI.2.2.2.1, nI_1]
          obtain ⟨z1, z2⟩ := cI_fix (C := (gg Z.1 j).2.2.2.2.2) (b := false) hn hI hj k0 (fun h => by cases h)
          exact hQ _ (nw + 1) z1 (Nat.le_refl _) z2
        | false =>
          rw [if_neg (by decide)] at hQ hQ0
          simp only [Bool.false_eq_true, if_false, if_true, q62_0, q62_1, q62_2, q62_5, q62_5N, q62_6, q62_6N, q62_7, q62_7N, q62_10, q62_10N, q62_11, q62_14, q62_17, q62_19, q62_20, q62_20N, q62_21, q62_24, q62_25, q62_28, q62_29, q62_30, q62_31, q62_34, q62_35, q62_35N, q62_36, q62_39, q62_42, q62_44, q62_45, q62_45N, q62_46, q62_47, q62_50, q62_51, q62_54, q62_55, q62_58, q62_59, q62_60, q62_63, q62_64, q62_65, q62_68, q62_69, q62_e, hI.1.1]
          refine c_isBroken hw hj hI fun S1 i1 p1 f1 => ?_
          have hG1 := cI_G i1 hj
          simp only [pm_tl_some, q62_0, q62_1, q62_2, q62_5, q62_5N, q62_6, q62_6N, q62_7, q62_7N, q62_10, q62_10N, q62_11, q62_14, q62_17, q62_19, q62_20, q62_20N, q62_21, q62_24, q62_25, q62_28, q62_29, q62_30, q62_31, q62_34, q62_35, q62_35N, q62_36, q62_39, q62_42, q62_44, q62_45, q62_45N, q62_46, q62_47, q62_50, q62_51, q62_54, q62_55, q62_58, q62_59, q62_60, q62_63, q62_64, q62_65, q62_68, q62_69, q62_e]
          by_cases c6 : (ct Z j).1 = 0
          · rw [if_pos c6] at hQ
            simp only [c6, if_true, q62_0, q62_1, q62_2, q62_5, q62_5N, q62_6, q62_6N, q62_7, q62_7N, q62_10, q62_10N, q62_11, q62_14, q62_17, q62_19, q62_20, q62_20N, q62_21, q62_24, q62_25, q62_28, q62_29, q62_30, q62_31, q62_34, q62_35, q62_35N, q62_36, q62_39, q62_42, q62_44, q62_45, q62_45N, q62_46, q62_47, q62_50, q62_51, q62_54, q62_55, q62_58, q62_59, q62_60, q62_63, q62_64, q62_65, q62_68, q62_69, q62_e, hG1.1, true_or, or_true, i1.1.1, ps_gi_nx, ps_gi_sz, ps_gi_sh, ps_gi_gi, ps_gi_gl, ps_gi_gr, ps_gi_zi, ps_gi_zl, ps_gi_zr, ps_gi_ar, ps_gi_al, ps_gl_nx, ps_gl_sz, ps_gl_sh, ps_gl_gi, ps_gl_gl, ps_gl_gr, ps_gl_zi, ps_gl_zl, ps_gl_zr, ps_gl_ar, ps_gl_al, ps_gr_nx, ps_gr_sz, ps_gr_sh, ps_gr_gi, ps_gr_gl, ps_gr_gr, ps_gr_zi, ps_gr_zl, ps_gr_zr, ps_gr_ar, ps_gr_al, ps_zi_nx, ps_zi_sz, ps_zi_sh, ps_zi_gi, ps_zi_gl, ps_zi_gr, ps_zi_zi, ps_zi_zl, ps_zi_zr, ps_zi_ar, ps_zi_al, ps_zl_nx, ps_zl_sz, ps_zl_sh, ps_zl_gi, ps_zl_gl, ps_zl_gr, ps_zl_zi, ps_zl_zl, ps_zl_zr, ps_zl_ar, ps_zl_al, ps_zr_nx, ps_zr_sz, ps_zr_sh, ps_zr_gi, ps_zr_gl, ps_zr_gr, ps_zr_zi, ps_zr_zl, ps_zr_zr, ps_zr_ar, ps_zr_al, pm_rf_some, pm_rf_none, pm_tl_some, pm_tl_none, show ¬ (x = ad x j ∧ 5 = 12) by omega, if_false, i1.2.2.2.1, nI_1]
            obtain ⟨z1, z2⟩ := cI_fix (C := ct Z j) (b := true) hn i1 hj k0 (fun _ => p1)
            exact hQ _ (nw + 1) z1 (Nat.le_refl _) (f1.tr z2)
          · rw [if_neg c6] at hQ0
            simp only [c6, if_false, show ¬ (1 : Int32) = 0 by decide, q62_0, q62_1, q62_2, q62_5, q62_5N, q62_6, q62_6N, q62_7, q62_7N, q62_10, q62_10N, q62_11, q62_14, q62_17, q62_19, q62_20, q62_20N, q62_21, q62_24, q62_25, q62_28, q62_29, q62_30, q62_31, q62_34, q62_35, q62_35N, q62_36, q62_39, q62_42, q62_44, q62_45, q62_45N, q62_46, q62_47, q62_50, q62_51, q62_54, q62_55, q62_58, q62_59, q62_60, q62_63, q62_64, q62_65, q62_68, q62_69, q62_e]
            exact hQ0 S1 i1 f1
      · rw [if_neg c1] at hQ0
        have : ¬ (if (gg Z.1 j).2.2.2.2.1 = true then (1 : Int32) else 0) = (if b = true then 1 else 0) := by
          cases h1 : (gg Z.1 j).2.2.2.2.1 <;> cases b <;> simp_all
        simp only [this, if_false]
        exact hQ0 S hI frO.rf
end
