/-! ===== the class: ask, down, same, count ===== -/
/-- all below n -/
def sp_all (p : Nat → Bool) : Nat → Bool
  | 0 => true
  | n + 1 => sp_all p n && p n
theorem sp_all_no {p : Nat → Bool} {k : Nat} (h : p k = false) : ∀ n, k < n → sp_all p n = false
  | 0, hk => by omega
  | n + 1, hk => by
    unfold sp_all
    by_cases e : k = n
    · subst e; rw [h, Bool.and_false]
    · rw [sp_all_no h n (by omega), Bool.false_and]
def sp_like (a b : sp_C) : Bool := decide (a.2.1.length = b.2.1.length) && decide (a.2.2.1.length = b.2.2.1.length) && sp_all (fun i => decide ((sp_nd a i).1 = (sp_nd b i).1)) a.2.1.length && sp_all (fun e => decide ((sp_ar a e).1 = (sp_ar b e).1) && decide ((sp_ar a e).2.1 = (sp_ar b e).2.1) && decide ((sp_ar a e).2.2.1 = (sp_ar b e).2.2.1)) a.2.2.1.length
def op_same (Z : sp_S) (g e : Int32) : Int32 := match ix g Z.1.length with
  | none => -1000001
  | some j => match ix e Z.1.length with
    | none => -1000001
    | some k => if (ct Z j).1 = 0 then (if (ct Z k).1 = 0 then (if sp_like (ct Z j) (ct Z k) = true then 1 else 0) else -1000003) else -1000003
section
variable {d x n k nw M a b : Nat} {S : pm_T} {Q : Option Value → pm_T → Prop} {Z : sp_S} {g wh e wc i t : Int32} {C Ca Cb : sp_C}
/-- only the Tests' steps and failures have changed -/
theorem cI_3 {S' : pm_T} (hI : cI S x Z nw M) (hf : sp_fr (fun b => b = x + 3) S S') (hT : cT S' (x + 3) Z.2.2) : cI S' x Z nw M ∧ ∀ j, cC S (ad x j) C → cC S' (ad x j) C := by
  obtain ⟨h1, h2, h3, h4, h5, h6, h7, h8, h9, h10⟩ := hI
  have keep : ∀ j C, cC S (ad x j) C → cC S' (ad x j) C := fun j C hc => cC_fr hc hf (fun b hb q => by have := ad_ge (x := x) (j := j); unfold cB at hb; omega)
  have e : ∀ j k, pm_gi S' (ad x j) k = pm_gi S (ad x j) k := fun j k => (hf.2.2.2.2.2 (ad x j) (by have := ad_ge (x := x) (j := j); omega)).1 k
  refine ⟨⟨cX_fr h1 hf, cM_fr h2 hf, by rw [(hf.2.2.2.2.2 x (by omega)).1]; exact h3, by rw [(hf.2.2.2.2.2 x (by omega)).1]; exact h4, h5, h6, h7, hT, fun t i ht hi => by rw [(hf.2.2.2.2.2 (x + 2 + 7 + t) (by omega)).2.2.1]; exact h9 t i ht hi, fun j hj => ?_⟩, fun j => keep j C⟩
  obtain ⟨f1, f2, f3⟩ := h10 j hj
  refine ⟨cF_fr f1 (h2.2.2.1 j (by omega)) hf, by rw [e]; exact f2, fun q => keep _ _ (f3 ?_)⟩
  unfold fresh at q ⊢
  rw [e] at q
  exact q
theorem sp_tin_ix {L : Nat} (h : L ≤ 20) : (if sp_tin t (nI L) = true then (1 : Int32) else 0) = if (ix t L).isSome = true then 1 else 0 := by
  cases hk : ix t L with
  | none =>
    have := ix_none hk
    rw [if_neg (by unfold sp_tin; simp only [decide_eq_true_eq]; exact fun q => this ⟨q.1, q.2.1⟩)]
    rfl
  | some u =>
    obtain ⟨hu, rfl⟩ := ix_some (by omega) hk
    rw [if_pos (by unfold sp_tin; simp only [decide_eq_true_eq]; exact ⟨nI_pos' (by omega), nI_lt hu (by omega), nI_lt (b := 20) (by omega) (by decide)⟩)]
    rfl
theorem sp_cd_ask {r : Nat} (h : r = 0 ∨ r = 1 ∨ r = 11 ∨ r = 12 ∨ r = 15) : (if sp_cd r < 0 then sp_cd r - 10 else sp_cd r) = if r < 10 then nI r else -nI r := by
  rcases h with rfl | rfl | rfl | rfl | rfl <;> decide
set_option maxHeartbeats 4000000 in
theorem c_ask (hw : wf Z) (hI : cI S x Z nw M) (hQ : ∀ S', cI S' x Z nw M → frO (cO x) S S' → Q (some (.int (op_ask Z g wh i t))) S') : pm_N (d + 92) 71 [.ref x, .int g, .int wh, .int i, .int t] S Q := by
  have hl := hw.1
  unfold op_ask at hQ
  simp only [q71_0, q71_1, q71_2, q71_5, q71_5N, q71_7, q71_7N, q71_9, q71_9N, q71_12, q71_13, q71_16, q71_19, q71_20, q71_23, q71_25, q71_28, q71_31, q71_33, q71_34, q71_35, q71_35N, q71_37, q71_40, q71_43, q71_45, q71_46, q71_46N, q71_48, q71_49, q71_52, q71_53, q71_56, q71_59, q71_61, q71_62, q71_63, q71_66, q71_69, q71_70, q71_73, q71_73N, q71_75, q71_76, q71_77, q71_79, q71_80, q71_83, q71_85, q71_87, q71_90, q71_92, q71_94, q71_95, q71_98, q71_100, q71_e, hI.1.1, c_known hw hI, pm_tl_some]
  cases hk : ix g Z.1.length with
  | none =>
    rw [hk] at hQ
    simp only [Option.map_none, pm_rf_none, q71_0, q71_1, q71_2, q71_5, q71_5N, q71_7, q71_7N, q71_9, q71_9N, q71_12, q71_13, q71_16, q71_19, q71_20, q71_23, q71_25, q71_28, q71_31, q71_33, q71_34, q71_35, q71_35N, q71_37, q71_40, q71_43, q71_45, q71_46, q71_46N, q71_48, q71_49, q71_52, q71_53, q71_56, q71_59, q71_61, q71_62, q71_63, q71_66, q71_69, q71_70, q71_73, q71_73N, q71_75, q71_76, q71_77, q71_79, q71_80, q71_83, q71_85, q71_87, q71_90, q71_92, q71_94, q71_95, q71_98, q71_100, q71_e]
    exact hQ S hI frO.rf
  | some j =>
    rw [hk] at hQ
    dsimp only at hQ
    obtain ⟨hj, -⟩ := ix_some (by omega) hk
    have hG := cI_G hI hj
    have hF := cI_F hI hj
    have hk7 := (hw.2.2.2 j hj).1
    have hT := hI.2.2.2.2.2.2.2.1
    have hts := hw.2.1.1
    have eT : pm_gi S (x + 3) 4 = nI Z.2.2.length := hT.2.1
    simp only [Option.map_some, pm_rf_some, q71_0, q71_1, q71_2, q71_5, q71_5N, q71_7, q71_7N, q71_9, q71_9N, q71_12, q71_13, q71_16, q71_19, q71_20, q71_23, q71_25, q71_28, q71_31, q71_33, q71_34, q71_35, q71_35N, q71_37, q71_40, q71_43, q71_45, q71_46, q71_46N, q71_48, q71_49, q71_52, q71_53, q71_56, q71_59, q71_61, q71_62, q71_63, q71_66, q71_69, q71_70, q71_73, q71_73N, q71_75, q71_76, q71_77, q71_79, q71_80, q71_83, q71_85, q71_87, q71_90, q71_92, q71_94, q71_95, q71_98, q71_100, q71_e, c_isOneOfTwo, pm_tl_some, pm_z1, hI.1.1, hI.1.2.2.2.1, hT.1.1, c_tHas hT.1, eT, sp_tin_ix hts]
    by_cases c1 : wh = 0 ∨ wh = 1
    · rw [if_neg (fun h => h c1)]; rw [if_pos c1] at hQ
      cases hu : ix t Z.2.2.length with
      | none =>
        rw [hu] at hQ
        simp only [Option.isSome_none, Bool.false_eq_true, not_false_eq_true, if_true]
        exact hQ S hI frO.rf
      | some u =>
        rw [hu] at hQ
        dsimp only at hQ
        obtain ⟨hu1, rfl⟩ := ix_some (by omega) hu
        simp only [Option.isSome_some, not_true_eq_false, if_false]
        refine c_isBroken hw hj hI fun S1 i1 q1 f1 => ?_
        have hG1 := cI_G i1 hj
        simp only [pm_tl_some, q71_0, q71_1, q71_2, q71_5, q71_5N, q71_7, q71_7N, q71_9, q71_9N, q71_12, q71_13, q71_16, q71_19, q71_20, q71_23, q71_25, q71_28, q71_31, q71_33, q71_34, q71_35, q71_35N, q71_37, q71_40, q71_43, q71_45, q71_46, q71_46N, q71_48, q71_49, q71_52, q71_53, q71_56, q71_59, q71_61, q71_62, q71_63, q71_66, q71_69, q71_70, q71_73, q71_73N, q71_75, q71_76, q71_77, q71_79, q71_80, q71_83, q71_85, q71_87, q71_90, q71_92, q71_94, q71_95, q71_98, q71_100, q71_e]
        by_cases c6 : (ct Z j).1 = 0
        · rw [if_pos c6] at hQ
          have hn := cC_n q1 c6
          have hm := cC_m q1 c6
          have T1 : cT S1 (x + 3) Z.2.2 := i1.2.2.2.2.2.2.2.1
          have ho := ct_gd hw _ _ (Nat.lt_succ_self _) hj c6
          have ag := ad_ge (x := x) (j := j)
          simp only [c6, if_true, q71_0, q71_1, q71_2, q71_5, q71_5N, q71_7, q71_7N, q71_9, q71_9N, q71_12, q71_13, q71_16, q71_19, q71_20, q71_23, q71_25, q71_28, q71_31, q71_33, q71_34, q71_35, q71_35N, q71_37, q71_40, q71_43, q71_45, q71_46, q71_46N, q71_48, q71_49, q71_52, q71_53, q71_56, q71_59, q71_61, q71_62, q71_63, q71_66, q71_69, q71_70, q71_73, q71_73N, q71_75, q71_76, q71_77, q71_79, q71_80, q71_83, q71_85, q71_87, q71_90, q71_92, q71_94, q71_95, q71_98, q71_100, q71_e, hG1.1, c_items hG1, pm_tl_some]
          obtain ⟨s0, -, e0⟩ := wb_of32 (pm_gi S1 (x + 3) 5)
          obtain ⟨u0, -, e1⟩ := wb_of32 (pm_gi S1 (x + 3) 6)
          have hT0 : gT S1 (x + 3) (ad x j) (ct Z j) Z.2.2 (s0, u0) := ⟨T1, hG1, q1, c6, e0, e1, by omega⟩
          obtain ⟨g1, g2⟩ := gT_st (st' := (0, 0)) hT0 (x := 0) (y := 0) rfl rfl
          have fin : ∀ (w k : Nat), (w = 0 ∨ w = 1) → k < sp_len (ct Z j) w → (∀ S', cI S' x Z nw M → frO (cO x) S S' → Q (some (.int (if (sp_say (ct Z j) Z.2.2 20 w k u (0, 0)).1 < 10 then nI (sp_say (ct Z j) Z.2.2 20 w k u (0, 0)).1 else -nI (sp_say (ct Z j) Z.2.2 20 w k u (0, 0)).1))) S') →
              pm_N (d + 91) 49 [.ref (x + 3), .ref (ad x j), .int (nI w), .int (nI k), .int (nI u), .int 0] (pm_sgi (pm_sgi S1 (x + 3) 5 0) (x + 3) 6 0) (fun r S' => pm_V (d + 92) 71 83 [.ref x, .int g, .int (nI w), .int (nI k), .int (nI u), .ref (ad x j), pm_j] (r.toList ++ []) S' Q) := by
            intro w k hw2 hk2 hQ
            have hb := sp_say_b (C := ct Z j) (ts := Z.2.2) 20 w k u (0, 0) (by decide) (by decide)
            refine c_say20 (r := x + 2) (d := d + 27) ho hw.2.1 hu1 hw2 hk2 (by decide) (by decide) g1 fun S2 q2 f2 => ?_
            simp only [pm_tl_some, q71_0, q71_1, q71_2, q71_5, q71_5N, q71_7, q71_7N, q71_9, q71_9N, q71_12, q71_13, q71_16, q71_19, q71_20, q71_23, q71_25, q71_28, q71_31, q71_33, q71_34, q71_35, q71_35N, q71_37, q71_40, q71_43, q71_45, q71_46, q71_46N, q71_48, q71_49, q71_52, q71_53, q71_56, q71_59, q71_61, q71_62, q71_63, q71_66, q71_69, q71_70, q71_73, q71_73N, q71_75, q71_76, q71_77, q71_79, q71_80, q71_83, q71_85, q71_87, q71_90, q71_92, q71_94, q71_95, q71_98, q71_100, q71_e]
            obtain ⟨i2, -⟩ := cI_3 (C := sp_0) i1 (g2.tr f2) q2.1
            have := hQ S2 i2 (f1.tr (frO.of ((g2.tr f2).mono (fun b hb => Or.inl (by omega)))))
            have e := sp_cd_ask hb.1
            split
            next h => rw [if_pos h] at e; rw [e]; exact this
            next h => rw [if_neg h] at e; rw [e]; exact this
          rcases c1 with rfl | rfl
          · simp only [if_true, q71_0, q71_1, q71_2, q71_5, q71_5N, q71_7, q71_7N, q71_9, q71_9N, q71_12, q71_13, q71_16, q71_19, q71_20, q71_23, q71_25, q71_28, q71_31, q71_33, q71_34, q71_35, q71_35N, q71_37, q71_40, q71_43, q71_45, q71_46, q71_46N, q71_48, q71_49, q71_52, q71_53, q71_56, q71_59, q71_61, q71_62, q71_63, q71_66, q71_69, q71_70, q71_73, q71_73N, q71_75, q71_76, q71_77, q71_79, q71_80, q71_83, q71_85, q71_87, q71_90, q71_92, q71_94, q71_95, q71_98, q71_100, q71_e, hG1.2.2.2.2.2.2.2.2.1.1, c_hasX hG1.2.2.2.2.2.2.2.2.1.1 hn.1, pm_tl_some]
            have hq : sp_len (ct Z j) ((0 : Int32).toNatClampNeg) = (ct Z j).2.1.length := rfl
            rw [hq] at hQ
            cases he : ix i (ct Z j).2.1.length with
            | none =>
              rw [he] at hQ
              simp only [Option.isSome_none, Bool.false_eq_true, if_false, if_true, q71_0, q71_1, q71_2, q71_5, q71_5N, q71_7, q71_7N, q71_9, q71_9N, q71_12, q71_13, q71_16, q71_19, q71_20, q71_23, q71_25, q71_28, q71_31, q71_33, q71_34, q71_35, q71_35N, q71_37, q71_40, q71_43, q71_45, q71_46, q71_46N, q71_48, q71_49, q71_52, q71_53, q71_56, q71_59, q71_61, q71_62, q71_63, q71_66, q71_69, q71_70, q71_73, q71_73N, q71_75, q71_76, q71_77, q71_79, q71_80, q71_83, q71_85, q71_87, q71_90, q71_92, q71_94, q71_95, q71_98, q71_100, q71_e]
              exact hQ S1 i1 f1
            | some k =>
              rw [he] at hQ
              obtain ⟨hk1, rfl⟩ := ix_some (by omega) he
              simp only [Option.isSome_some, if_true, show ¬ (1 : Int32) = 0 by decide, if_false, q71_0, q71_1, q71_2, q71_5, q71_5N, q71_7, q71_7N, q71_9, q71_9N, q71_12, q71_13, q71_16, q71_19, q71_20, q71_23, q71_25, q71_28, q71_31, q71_33, q71_34, q71_35, q71_35N, q71_37, q71_40, q71_43, q71_45, q71_46, q71_46N, q71_48, q71_49, q71_52, q71_53, q71_56, q71_59, q71_61, q71_62, q71_63, q71_66, q71_69, q71_70, q71_73, q71_73N, q71_75, q71_76, q71_77, q71_79, q71_80, q71_83, q71_85, q71_87, q71_90, q71_92, q71_94, q71_95, q71_98, q71_100, q71_e, i1.1.1, i1.1.2.2.2.1, pm_rf_some, T1.1.1, c_tBegin T1.1, pm_tl_none, ps_gi_nx, ps_gi_sz, ps_gi_sh, ps_gi_gi, ps_gi_gl, ps_gi_gr, ps_gi_zi, ps_gi_zl, ps_gi_zr, ps_gi_ar, ps_gi_al, ps_gl_nx, ps_gl_sz, ps_gl_sh, ps_gl_gi, ps_gl_gl, ps_gl_gr, ps_gl_zi, ps_gl_zl, ps_gl_zr, ps_gl_ar, ps_gl_al, ps_gr_nx, ps_gr_sz, ps_gr_sh, ps_gr_gi, ps_gr_gl, ps_gr_gr, ps_gr_zi, ps_gr_zl, ps_gr_zr, ps_gr_ar, ps_gr_al, ps_zi_nx, ps_zi_sz, ps_zi_sh, ps_zi_gi, ps_zi_gl, ps_zi_gr, ps_zi_zi, ps_zi_zl, ps_zi_zr, ps_zi_ar, ps_zi_al, ps_zl_nx, ps_zl_sz, ps_zl_sh, ps_zl_gi, ps_zl_gl, ps_zl_gr, ps_zl_zi, ps_zl_zl, ps_zl_zr, ps_zl_ar, ps_zl_al, ps_zr_nx, ps_zr_sz, ps_zr_sh, ps_zr_gi, ps_zr_gl, ps_zr_gr, ps_zr_zi, ps_zr_zl, ps_zr_zr, ps_zr_ar, ps_zr_al, pm_rf_some, pm_rf_none, pm_tl_some, pm_tl_none]
              exact fin 0 k (Or.inl rfl) hk1 hQ
          · simp only [show ¬ (1 : Int32) = 0 by decide, if_false, if_true, q71_0, q71_1, q71_2, q71_5, q71_5N, q71_7, q71_7N, q71_9, q71_9N, q71_12, q71_13, q71_16, q71_19, q71_20, q71_23, q71_25, q71_28, q71_31, q71_33, q71_34, q71_35, q71_35N, q71_37, q71_40, q71_43, q71_45, q71_46, q71_46N, q71_48, q71_49, q71_52, q71_53, q71_56, q71_59, q71_61, q71_62, q71_63, q71_66, q71_69, q71_70, q71_73, q71_73N, q71_75, q71_76, q71_77, q71_79, q71_80, q71_83, q71_85, q71_87, q71_90, q71_92, q71_94, q71_95, q71_98, q71_100, q71_e, hG1.2.2.2.2.2.2.2.2.2.1.1, c_hasX hG1.2.2.2.2.2.2.2.2.2.1.1 hm.1, pm_tl_some]
            have hq : sp_len (ct Z j) ((1 : Int32).toNatClampNeg) = (ct Z j).2.2.1.length := rfl
            rw [hq] at hQ
            cases he : ix i (ct Z j).2.2.1.length with
            | none =>
              rw [he] at hQ
              simp only [Option.isSome_none, Bool.false_eq_true, if_false, if_true, q71_0, q71_1, q71_2, q71_5, q71_5N, q71_7, q71_7N, q71_9, q71_9N, q71_12, q71_13, q71_16, q71_19, q71_20, q71_23, q71_25, q71_28, q71_31, q71_33, q71_34, q71_35, q71_35N, q71_37, q71_40, q71_43, q71_45, q71_46, q71_46N, q71_48, q71_49, q71_52, q71_53, q71_56, q71_59, q71_61, q71_62, q71_63, q71_66, q71_69, q71_70, q71_73, q71_73N, q71_75, q71_76, q71_77, q71_79, q71_80, q71_83, q71_85, q71_87, q71_90, q71_92, q71_94, q71_95, q71_98, q71_100, q71_e]
              exact hQ S1 i1 f1
            | some k =>
              rw [he] at hQ
              obtain ⟨hk1, rfl⟩ := ix_some (by omega) he
              simp only [Option.isSome_some, if_true, show ¬ (1 : Int32) = 0 by decide, if_false, q71_0, q71_1, q71_2, q71_5, q71_5N, q71_7, q71_7N, q71_9, q71_9N, q71_12, q71_13, q71_16, q71_19, q71_20, q71_23, q71_25, q71_28, q71_31, q71_33, q71_34, q71_35, q71_35N, q71_37, q71_40, q71_43, q71_45, q71_46, q71_46N, q71_48, q71_49, q71_52, q71_53, q71_56, q71_59, q71_61, q71_62, q71_63, q71_66, q71_69, q71_70, q71_73, q71_73N, q71_75, q71_76, q71_77, q71_79, q71_80, q71_83, q71_85, q71_87, q71_90, q71_92, q71_94, q71_95, q71_98, q71_100, q71_e, i1.1.1, i1.1.2.2.2.1, pm_rf_some, T1.1.1, c_tBegin T1.1, pm_tl_none, ps_gi_nx, ps_gi_sz, ps_gi_sh, ps_gi_gi, ps_gi_gl, ps_gi_gr, ps_gi_zi, ps_gi_zl, ps_gi_zr, ps_gi_ar, ps_gi_al, ps_gl_nx, ps_gl_sz, ps_gl_sh, ps_gl_gi, ps_gl_gl, ps_gl_gr, ps_gl_zi, ps_gl_zl, ps_gl_zr, ps_gl_ar, ps_gl_al, ps_gr_nx, ps_gr_sz, ps_gr_sh, ps_gr_gi, ps_gr_gl, ps_gr_gr, ps_gr_zi, ps_gr_zl, ps_gr_zr, ps_gr_ar, ps_gr_al, ps_zi_nx, ps_zi_sz, ps_zi_sh, ps_zi_gi, ps_zi_gl, ps_zi_gr, ps_zi_zi, ps_zi_zl, ps_zi_zr, ps_zi_ar, ps_zi_al, ps_zl_nx, ps_zl_sz, ps_zl_sh, ps_zl_gi, ps_zl_gl, ps_zl_gr, ps_zl_zi, ps_zl_zl, ps_zl_zr, ps_zl_ar, ps_zl_al, ps_zr_nx, ps_zr_sz, ps_zr_sh, ps_zr_gi, ps_zr_gl, ps_zr_gr, ps_zr_zi, ps_zr_zl, ps_zr_zr, ps_zr_ar, ps_zr_al, pm_rf_some, pm_rf_none, pm_tl_some, pm_tl_none]
              exact fin 1 k (Or.inr rfl) hk1 hQ
        · rw [if_neg c6] at hQ
          simp only [c6, if_false, show ¬ (1 : Int32) = 0 by decide, q71_0, q71_1, q71_2, q71_5, q71_5N, q71_7, q71_7N, q71_9, q71_9N, q71_12, q71_13, q71_16, q71_19, q71_20, q71_23, q71_25, q71_28, q71_31, q71_33, q71_34, q71_35, q71_35N, q71_37, q71_40, q71_43, q71_45, q71_46, q71_46N, q71_48, q71_49, q71_52, q71_53, q71_56, q71_59, q71_61, q71_62, q71_63, q71_66, q71_69, q71_70, q71_73, q71_73N, q71_75, q71_76, q71_77, q71_79, q71_80, q71_83, q71_85, q71_87, q71_90, q71_92, q71_94, q71_95, q71_98, q71_100, q71_e]
          exact hQ S1 i1 f1
    · rw [if_pos c1]; rw [if_neg c1] at hQ; exact hQ S hI frO.rf
end
