/-! ===== the class: calls that change nothing ===== -/
def sp_find (p : Nat → Bool) : Nat → Nat → Option Nat
  | 0, _ => none
  | m + 1, k => if p k = true then some k else sp_find p m (k + 1)
def op_down (Z : sp_S) (g wh i wc : Int32) : Int32 := match ix g Z.1.length with
  | none => -1000001
  | some j => if (gg Z.1 j).1 = 0 then -1000001 else if wh = 0 ∨ wh = 1 then (if wc = 0 ∨ wc = 1 then (if (ct Z j).1 = 0 then (if i < 0 then -1000004 else sp_eM (sp_find (fun k => sp_src (ct Z j) wh.toNatClampNeg k wc.toNatClampNeg == some i.toNatClampNeg) (sp_len (ct Z j) wh.toNatClampNeg) 0)) else -1000003) else -1000001) else -1000001
def op_count (Z : sp_S) (wh : Int32) : Int32 := if wh = 0 then nI Z.1.length else if wh = 1 then nI Z.2.2.length else if wh = 2 then nI (sp_cnt (fun j => (gg Z.1 j).2.2.2.2.1) Z.1.length) else -1000001
section
variable {d x n k nw M a : Nat} {S : pm_T} {Q : Option Value → pm_T → Prop} {Z : sp_S} {g wh e wc i t : Int32} {C : sp_C}
theorem c_hasX (hs : pm_sh S a = .inr 3) (hn : pm_gi S a 3 = nI n) : pm_N d 20 [.ref a, .int i] S Q = Q (some (.int (if (ix i n).isSome = true then 1 else 0))) S := by
  rw [c_has hs, hn]
  unfold ix
  split <;> rfl
theorem cC_ns (h : cC S a C) (h0 : C.1 = 0) (hk : k < C.2.1.length) : pm_zi S (a + 3) k = sp_eC (sp_nd C k).2.1 ∧ pm_zi S (a + 4) k = sp_eC (sp_nd C k).2.2 := by
  have e : C.2.1[k]? = some (sp_nd C k) := by unfold sp_nd; rw [List.getD_eq_getElem?_getD, List.getElem?_eq_getElem hk]; rfl
  exact ((h.2.2.1 h0).1.2.2 k _ e).2
theorem cC_as (h : cC S a C) (h0 : C.1 = 0) (hk : k < C.2.2.1.length) : pm_zi S (a + 7) k = sp_eC (sp_ar C k).2.2.2.1 ∧ pm_zi S (a + 8) k = sp_eC (sp_ar C k).2.2.2.2 := by
  have e : C.2.2.1[k]? = some (sp_ar C k) := by unfold sp_ar; rw [List.getD_eq_getElem?_getD, List.getElem?_eq_getElem hk]; rfl
  exact ((h.2.2.1 h0).2.1.2.2 k _ e).2.2.2
theorem cC_hs (h : cC S a C) (h0 : C.1 = 0) (hk : k < C.2.2.2.length) : pm_zi S (a + 12) k = nI (sp_hd C k).1 ∧ pm_zi S (a + 13) k = nI (sp_hd C k).2.1 ∧ pm_zi S (a + 14) k = nI (sp_hd C k).2.2 := by
  have e : C.2.2.2[k]? = some (sp_hd C k) := by unfold sp_hd; rw [List.getD_eq_getElem?_getD, List.getElem?_eq_getElem hk]; rfl
  exact (h.2.2.1 h0).2.2.2.2 k _ e
theorem sp_nd_bd (h : sp_wd C) (hk : k < C.2.1.length) : sp_bd (sp_nd C k).2.1 ∧ sp_bd (sp_nd C k).2.2 := by
  apply h.2.2.2.2.1
  unfold sp_nd
  rw [List.getD_eq_getElem?_getD, List.getElem?_eq_getElem hk]
  exact List.getElem_mem hk
theorem sp_ar_bd (h : sp_wd C) (hk : k < C.2.2.1.length) : sp_bd (sp_ar C k).2.2.2.1 ∧ sp_bd (sp_ar C k).2.2.2.2 := by
  apply h.2.2.2.2.2.1
  unfold sp_ar
  rw [List.getD_eq_getElem?_getD, List.getElem?_eq_getElem hk]
  exact List.getElem_mem hk
theorem sp_eC_neg {r : Option Nat} (h : sp_bd r) : (sp_eC r < 0) = (r = none) := by
  cases r with
  | none => simp [sp_eC]
  | some q =>
    have := h q rfl
    have : ¬ nI q < 0 := k2_nlt (nI_pos' (by omega))
    simp [sp_eC, this]
theorem sp_eM_of {r : Option Nat} (h : sp_bd r) : (if sp_eC r < 0 then (-1000004 : Int32) else sp_eC r) = sp_eM r := by
  cases r with
  | none => decide
  | some q => rw [if_neg (by rw [sp_eC_neg h]; simp)]; rfl
set_option maxHeartbeats 4000000 in
theorem c_end (hw : wf Z) (hI : cI S x Z nw M) (hQ : ∀ S', cI S' x Z nw M → frO (cO x) S S' → Q (some (.int (op_end Z g e wc))) S') : pm_N (d + 92) 64 [.ref x, .int g, .int e, .int wc] S Q := by
  have hl := hw.1
  unfold op_end at hQ
  simp only [q64_0, q64_1, q64_2, q64_5, q64_5N, q64_7, q64_7N, q64_9, q64_9N, q64_12, q64_13, q64_16, q64_19, q64_21, q64_22, q64_23, q64_23N, q64_25, q64_28, q64_31, q64_33, q64_34, q64_34N, q64_36, q64_39, q64_40, q64_43, q64_46, q64_48, q64_49, q64_50, q64_53, q64_53N, q64_55, q64_58, q64_59, q64_60, q64_63, q64_63N, q64_65, q64_68, q64_69, q64_70, q64_e, hI.1.1, c_known hw hI, pm_tl_some]
  cases hk : ix g Z.1.length with
  | none =>
    rw [hk] at hQ
    simp only [Option.map_none, pm_rf_none, q64_0, q64_1, q64_2, q64_5, q64_5N, q64_7, q64_7N, q64_9, q64_9N, q64_12, q64_13, q64_16, q64_19, q64_21, q64_22, q64_23, q64_23N, q64_25, q64_28, q64_31, q64_33, q64_34, q64_34N, q64_36, q64_39, q64_40, q64_43, q64_46, q64_48, q64_49, q64_50, q64_53, q64_53N, q64_55, q64_58, q64_59, q64_60, q64_63, q64_63N, q64_65, q64_68, q64_69, q64_70, q64_e]
    exact hQ S hI frO.rf
  | some j =>
    rw [hk] at hQ
    dsimp only at hQ
    obtain ⟨hj, -⟩ := ix_some (by omega) hk
    have hG := cI_G hI hj
    have hF := cI_F hI hj
    have hk7 := (hw.2.2.2 j hj).1
    simp only [Option.map_some, pm_rf_some, q64_0, q64_1, q64_2, q64_5, q64_5N, q64_7, q64_7N, q64_9, q64_9N, q64_12, q64_13, q64_16, q64_19, q64_21, q64_22, q64_23, q64_23N, q64_25, q64_28, q64_31, q64_33, q64_34, q64_34N, q64_36, q64_39, q64_40, q64_43, q64_46, q64_48, q64_49, q64_50, q64_53, q64_53N, q64_55, q64_58, q64_59, q64_60, q64_63, q64_63N, q64_65, q64_68, q64_69, q64_70, q64_e, c_isOneOfTwo, pm_tl_some, pm_z1, hI.1.1]
    by_cases c1 : wc = 0 ∨ wc = 1
    · rw [if_neg (fun h => h c1)]; rw [if_pos c1] at hQ
      refine c_isBroken hw hj hI fun S1 i1 q1 f1 => ?_
      have hG1 := cI_G i1 hj
      simp only [pm_tl_some, q64_0, q64_1, q64_2, q64_5, q64_5N, q64_7, q64_7N, q64_9, q64_9N, q64_12, q64_13, q64_16, q64_19, q64_21, q64_22, q64_23, q64_23N, q64_25, q64_28, q64_31, q64_33, q64_34, q64_34N, q64_36, q64_39, q64_40, q64_43, q64_46, q64_48, q64_49, q64_50, q64_53, q64_53N, q64_55, q64_58, q64_59, q64_60, q64_63, q64_63N, q64_65, q64_68, q64_69, q64_70, q64_e]
      by_cases c6 : (ct Z j).1 = 0
      · rw [if_pos c6] at hQ
        have hm := cC_m q1 c6
        simp only [c6, if_true, q64_0, q64_1, q64_2, q64_5, q64_5N, q64_7, q64_7N, q64_9, q64_9N, q64_12, q64_13, q64_16, q64_19, q64_21, q64_22, q64_23, q64_23N, q64_25, q64_28, q64_31, q64_33, q64_34, q64_34N, q64_36, q64_39, q64_40, q64_43, q64_46, q64_48, q64_49, q64_50, q64_53, q64_53N, q64_55, q64_58, q64_59, q64_60, q64_63, q64_63N, q64_65, q64_68, q64_69, q64_70, q64_e, hG1.1, hG1.2.1, hG1.2.2.1, hG1.2.2.2.1, hG1.2.2.2.2.1, hG1.2.2.2.2.2.1, hG1.2.2.2.2.2.2.2.2.1.1, hG1.2.2.2.2.2.2.2.2.1.2.1, hG1.2.2.2.2.2.2.2.2.1.2.2.1, hG1.2.2.2.2.2.2.2.2.1.2.2.2.1, hG1.2.2.2.2.2.2.2.2.2.1.1, hG1.2.2.2.2.2.2.2.2.2.1.2.1, hG1.2.2.2.2.2.2.2.2.2.1.2.2.1, hG1.2.2.2.2.2.2.2.2.2.1.2.2.2.1, hG1.2.2.2.2.2.2.2.2.2.2.1, hG1.2.2.2.2.2.2.2.2.2.2.2.1, hG1.2.2.2.2.2.2.2.2.2.2.2.2.1, hG1.2.2.2.2.2.2.2.2.2.2.2.2.2.1, pm_rf_some, c_hasX hG1.2.2.2.2.2.2.2.2.2.1.1 hm.1, pm_tl_some]
        cases he : ix e (ct Z j).2.2.1.length with
        | none =>
          rw [he] at hQ
          simp only [Option.isSome_none, Bool.false_eq_true, if_false, if_true, q64_0, q64_1, q64_2, q64_5, q64_5N, q64_7, q64_7N, q64_9, q64_9N, q64_12, q64_13, q64_16, q64_19, q64_21, q64_22, q64_23, q64_23N, q64_25, q64_28, q64_31, q64_33, q64_34, q64_34N, q64_36, q64_39, q64_40, q64_43, q64_46, q64_48, q64_49, q64_50, q64_53, q64_53N, q64_55, q64_58, q64_59, q64_60, q64_63, q64_63N, q64_65, q64_68, q64_69, q64_70, q64_e]
          exact hQ S1 i1 f1
        | some k =>
          rw [he] at hQ
          obtain ⟨hk1, rfl⟩ := ix_some (by omega) he
          have hk2 : k < 120 := by omega
          simp only [Option.isSome_some, if_true, show ¬ (1 : Int32) = 0 by decide, if_false, q64_0, q64_1, q64_2, q64_5, q64_5N, q64_7, q64_7N, q64_9, q64_9N, q64_12, q64_13, q64_16, q64_19, q64_21, q64_22, q64_23, q64_23N, q64_25, q64_28, q64_31, q64_33, q64_34, q64_34N, q64_36, q64_39, q64_40, q64_43, q64_46, q64_48, q64_49, q64_50, q64_53, q64_53N, q64_55, q64_58, q64_59, q64_60, q64_63, q64_63N, q64_65, q64_68, q64_69, q64_70, q64_e, hG1.1, hG1.2.1, hG1.2.2.1, hG1.2.2.2.1, hG1.2.2.2.2.1, hG1.2.2.2.2.2.1, hG1.2.2.2.2.2.2.2.2.1.1, hG1.2.2.2.2.2.2.2.2.1.2.1, hG1.2.2.2.2.2.2.2.2.1.2.2.1, hG1.2.2.2.2.2.2.2.2.1.2.2.2.1, hG1.2.2.2.2.2.2.2.2.2.1.1, hG1.2.2.2.2.2.2.2.2.2.1.2.1, hG1.2.2.2.2.2.2.2.2.2.1.2.2.1, hG1.2.2.2.2.2.2.2.2.2.1.2.2.2.1, hG1.2.2.2.2.2.2.2.2.2.2.1, hG1.2.2.2.2.2.2.2.2.2.2.2.1, hG1.2.2.2.2.2.2.2.2.2.2.2.2.1, hG1.2.2.2.2.2.2.2.2.2.2.2.2.2.1, pm_rf_some, gr9 hG1 hk2, gr10 hG1 hk2, gr6 hG1 hk2, gr7 hG1 hk2, gr8 hG1 hk2, nc12 hk2, (cC_ae q1 c6 hk1).1, (cC_ae q1 c6 hk1).2.1]
          dsimp only at hQ
          by_cases c7 : wc = 0
          · rw [if_pos c7]; rw [if_pos c7] at hQ; exact hQ S1 i1 f1
          · rw [if_neg c7]; rw [if_neg c7] at hQ; exact hQ S1 i1 f1
      · rw [if_neg c6] at hQ
        simp only [c6, if_false, show ¬ (1 : Int32) = 0 by decide, q64_0, q64_1, q64_2, q64_5, q64_5N, q64_7, q64_7N, q64_9, q64_9N, q64_12, q64_13, q64_16, q64_19, q64_21, q64_22, q64_23, q64_23N, q64_25, q64_28, q64_31, q64_33, q64_34, q64_34N, q64_36, q64_39, q64_40, q64_43, q64_46, q64_48, q64_49, q64_50, q64_53, q64_53N, q64_55, q64_58, q64_59, q64_60, q64_63, q64_63N, q64_65, q64_68, q64_69, q64_70, q64_e]
        exact hQ S1 i1 f1
    · rw [if_pos c1]; rw [if_neg c1] at hQ; exact hQ S hI frO.rf
set_option maxHeartbeats 4000000 in
theorem c_value (hw : wf Z) (hI : cI S x Z nw M) (hQ : ∀ S', cI S' x Z nw M → frO (cO x) S S' → Q (some (.long (op_value Z g wh i))) S') : pm_N (d + 92) 65 [.ref x, .int g, .int wh, .int i] S Q := by
  have hl := hw.1
  unfold op_value at hQ
  simp only [q65_0, q65_1, q65_2, q65_5, q65_5N, q65_7, q65_7N, q65_9, q65_9N, q65_12, q65_13, q65_16, q65_19, q65_22, q65_23, q65_24, q65_24N, q65_26, q65_29, q65_32, q65_35, q65_36, q65_36N, q65_38, q65_39, q65_42, q65_42N, q65_44, q65_44N, q65_46, q65_47, q65_50, q65_53, q65_53N, q65_55, q65_58, q65_59, q65_60, q65_63, q65_66, q65_e, hI.1.1, c_known hw hI, pm_tl_some]
  cases hk : ix g Z.1.length with
  | none =>
    rw [hk] at hQ
    simp only [Option.map_none, pm_rf_none, q65_0, q65_1, q65_2, q65_5, q65_5N, q65_7, q65_7N, q65_9, q65_9N, q65_12, q65_13, q65_16, q65_19, q65_22, q65_23, q65_24, q65_24N, q65_26, q65_29, q65_32, q65_35, q65_36, q65_36N, q65_38, q65_39, q65_42, q65_42N, q65_44, q65_44N, q65_46, q65_47, q65_50, q65_53, q65_53N, q65_55, q65_58, q65_59, q65_60, q65_63, q65_66, q65_e]
    exact hQ S hI frO.rf
  | some j =>
    rw [hk] at hQ
    dsimp only at hQ
    obtain ⟨hj, -⟩ := ix_some (by omega) hk
    have hG := cI_G hI hj
    have hF := cI_F hI hj
    have hk7 := (hw.2.2.2 j hj).1
    simp only [Option.map_some, pm_rf_some, q65_0, q65_1, q65_2, q65_5, q65_5N, q65_7, q65_7N, q65_9, q65_9N, q65_12, q65_13, q65_16, q65_19, q65_22, q65_23, q65_24, q65_24N, q65_26, q65_29, q65_32, q65_35, q65_36, q65_36N, q65_38, q65_39, q65_42, q65_42N, q65_44, q65_44N, q65_46, q65_47, q65_50, q65_53, q65_53N, q65_55, q65_58, q65_59, q65_60, q65_63, q65_66, q65_e, c_isOneOfTwo, pm_tl_some, pm_z1, hI.1.1]
    by_cases c1 : wh = 0 ∨ wh = 1
    · rw [if_neg (fun h => h c1)]; rw [if_pos c1] at hQ
      refine c_isBroken hw hj hI fun S1 i1 q1 f1 => ?_
      have hG1 := cI_G i1 hj
      simp only [pm_tl_some, q65_0, q65_1, q65_2, q65_5, q65_5N, q65_7, q65_7N, q65_9, q65_9N, q65_12, q65_13, q65_16, q65_19, q65_22, q65_23, q65_24, q65_24N, q65_26, q65_29, q65_32, q65_35, q65_36, q65_36N, q65_38, q65_39, q65_42, q65_42N, q65_44, q65_44N, q65_46, q65_47, q65_50, q65_53, q65_53N, q65_55, q65_58, q65_59, q65_60, q65_63, q65_66, q65_e]
      by_cases c6 : (ct Z j).1 = 0
      · rw [if_pos c6] at hQ
        simp only [c6, if_true, q65_0, q65_1, q65_2, q65_5, q65_5N, q65_7, q65_7N, q65_9, q65_9N, q65_12, q65_13, q65_16, q65_19, q65_22, q65_23, q65_24, q65_24N, q65_26, q65_29, q65_32, q65_35, q65_36, q65_36N, q65_38, q65_39, q65_42, q65_42N, q65_44, q65_44N, q65_46, q65_47, q65_50, q65_53, q65_53N, q65_55, q65_58, q65_59, q65_60, q65_63, q65_66, q65_e, hG1.1, c_items hG1, pm_tl_some]
        rcases c1 with rfl | rfl
        · have hn := cC_n q1 c6
          simp only [if_true, q65_0, q65_1, q65_2, q65_5, q65_5N, q65_7, q65_7N, q65_9, q65_9N, q65_12, q65_13, q65_16, q65_19, q65_22, q65_23, q65_24, q65_24N, q65_26, q65_29, q65_32, q65_35, q65_36, q65_36N, q65_38, q65_39, q65_42, q65_42N, q65_44, q65_44N, q65_46, q65_47, q65_50, q65_53, q65_53N, q65_55, q65_58, q65_59, q65_60, q65_63, q65_66, q65_e, hG1.1, hG1.2.1, hG1.2.2.1, hG1.2.2.2.1, hG1.2.2.2.2.1, hG1.2.2.2.2.2.1, hG1.2.2.2.2.2.2.2.2.1.1, hG1.2.2.2.2.2.2.2.2.1.2.1, hG1.2.2.2.2.2.2.2.2.1.2.2.1, hG1.2.2.2.2.2.2.2.2.1.2.2.2.1, hG1.2.2.2.2.2.2.2.2.2.1.1, hG1.2.2.2.2.2.2.2.2.2.1.2.1, hG1.2.2.2.2.2.2.2.2.2.1.2.2.1, hG1.2.2.2.2.2.2.2.2.2.1.2.2.2.1, hG1.2.2.2.2.2.2.2.2.2.2.1, hG1.2.2.2.2.2.2.2.2.2.2.2.1, hG1.2.2.2.2.2.2.2.2.2.2.2.2.1, hG1.2.2.2.2.2.2.2.2.2.2.2.2.2.1, pm_rf_some, c_hasX hG1.2.2.2.2.2.2.2.2.1.1 hn.1, pm_tl_some]
          have hq : sp_len (ct Z j) ((0 : Int32).toNatClampNeg) = (ct Z j).2.1.length := rfl
          rw [hq] at hQ
          cases he : ix i (ct Z j).2.1.length with
          | none =>
            rw [he] at hQ
            simp only [Option.isSome_none, Bool.false_eq_true, if_false, if_true, q65_0, q65_1, q65_2, q65_5, q65_5N, q65_7, q65_7N, q65_9, q65_9N, q65_12, q65_13, q65_16, q65_19, q65_22, q65_23, q65_24, q65_24N, q65_26, q65_29, q65_32, q65_35, q65_36, q65_36N, q65_38, q65_39, q65_42, q65_42N, q65_44, q65_44N, q65_46, q65_47, q65_50, q65_53, q65_53N, q65_55, q65_58, q65_59, q65_60, q65_63, q65_66, q65_e]
            exact hQ S1 i1 f1
          | some k =>
            rw [he] at hQ
            obtain ⟨hk1, rfl⟩ := ix_some (by omega) he
            have hk2 : k < 40 := by omega
            simp only [Option.isSome_some, if_true, show ¬ (1 : Int32) = 0 by decide, if_false, q65_0, q65_1, q65_2, q65_5, q65_5N, q65_7, q65_7N, q65_9, q65_9N, q65_12, q65_13, q65_16, q65_19, q65_22, q65_23, q65_24, q65_24N, q65_26, q65_29, q65_32, q65_35, q65_36, q65_36N, q65_38, q65_39, q65_42, q65_42N, q65_44, q65_44N, q65_46, q65_47, q65_50, q65_53, q65_53N, q65_55, q65_58, q65_59, q65_60, q65_63, q65_66, q65_e, hG1.1, hG1.2.1, hG1.2.2.1, hG1.2.2.2.1, hG1.2.2.2.2.1, hG1.2.2.2.2.2.1, hG1.2.2.2.2.2.2.2.2.1.1, hG1.2.2.2.2.2.2.2.2.1.2.1, hG1.2.2.2.2.2.2.2.2.1.2.2.1, hG1.2.2.2.2.2.2.2.2.1.2.2.2.1, hG1.2.2.2.2.2.2.2.2.2.1.1, hG1.2.2.2.2.2.2.2.2.2.1.2.1, hG1.2.2.2.2.2.2.2.2.2.1.2.2.1, hG1.2.2.2.2.2.2.2.2.2.1.2.2.2.1, hG1.2.2.2.2.2.2.2.2.2.2.1, hG1.2.2.2.2.2.2.2.2.2.2.2.1, hG1.2.2.2.2.2.2.2.2.2.2.2.2.1, hG1.2.2.2.2.2.2.2.2.2.2.2.2.2.1, pm_rf_some, gr2 hG1 hk2, gr3 hG1 hk2, gr4 hG1 hk2, nc4 hk2, cC_nv q1 c6 hk1]
            exact hQ S1 i1 f1
        · have hn := cC_m q1 c6
          simp only [show ¬ (1 : Int32) = 0 by decide, if_false, if_true, q65_0, q65_1, q65_2, q65_5, q65_5N, q65_7, q65_7N, q65_9, q65_9N, q65_12, q65_13, q65_16, q65_19, q65_22, q65_23, q65_24, q65_24N, q65_26, q65_29, q65_32, q65_35, q65_36, q65_36N, q65_38, q65_39, q65_42, q65_42N, q65_44, q65_44N, q65_46, q65_47, q65_50, q65_53, q65_53N, q65_55, q65_58, q65_59, q65_60, q65_63, q65_66, q65_e, hG1.1, hG1.2.1, hG1.2.2.1, hG1.2.2.2.1, hG1.2.2.2.2.1, hG1.2.2.2.2.2.1, hG1.2.2.2.2.2.2.2.2.1.1, hG1.2.2.2.2.2.2.2.2.1.2.1, hG1.2.2.2.2.2.2.2.2.1.2.2.1, hG1.2.2.2.2.2.2.2.2.1.2.2.2.1, hG1.2.2.2.2.2.2.2.2.2.1.1, hG1.2.2.2.2.2.2.2.2.2.1.2.1, hG1.2.2.2.2.2.2.2.2.2.1.2.2.1, hG1.2.2.2.2.2.2.2.2.2.1.2.2.2.1, hG1.2.2.2.2.2.2.2.2.2.2.1, hG1.2.2.2.2.2.2.2.2.2.2.2.1, hG1.2.2.2.2.2.2.2.2.2.2.2.2.1, hG1.2.2.2.2.2.2.2.2.2.2.2.2.2.1, pm_rf_some, c_hasX hG1.2.2.2.2.2.2.2.2.2.1.1 hn.1, pm_tl_some]
          have hq : sp_len (ct Z j) ((1 : Int32).toNatClampNeg) = (ct Z j).2.2.1.length := rfl
          rw [hq] at hQ
          cases he : ix i (ct Z j).2.2.1.length with
          | none =>
            rw [he] at hQ
            simp only [Option.isSome_none, Bool.false_eq_true, if_false, if_true, q65_0, q65_1, q65_2, q65_5, q65_5N, q65_7, q65_7N, q65_9, q65_9N, q65_12, q65_13, q65_16, q65_19, q65_22, q65_23, q65_24, q65_24N, q65_26, q65_29, q65_32, q65_35, q65_36, q65_36N, q65_38, q65_39, q65_42, q65_42N, q65_44, q65_44N, q65_46, q65_47, q65_50, q65_53, q65_53N, q65_55, q65_58, q65_59, q65_60, q65_63, q65_66, q65_e]
            exact hQ S1 i1 f1
          | some k =>
            rw [he] at hQ
            obtain ⟨hk1, rfl⟩ := ix_some (by omega) he
            have hk2 : k < 120 := by omega
            simp only [Option.isSome_some, if_true, show ¬ (1 : Int32) = 0 by decide, if_false, q65_0, q65_1, q65_2, q65_5, q65_5N, q65_7, q65_7N, q65_9, q65_9N, q65_12, q65_13, q65_16, q65_19, q65_22, q65_23, q65_24, q65_24N, q65_26, q65_29, q65_32, q65_35, q65_36, q65_36N, q65_38, q65_39, q65_42, q65_42N, q65_44, q65_44N, q65_46, q65_47, q65_50, q65_53, q65_53N, q65_55, q65_58, q65_59, q65_60, q65_63, q65_66, q65_e, hG1.1, hG1.2.1, hG1.2.2.1, hG1.2.2.2.1, hG1.2.2.2.2.1, hG1.2.2.2.2.2.1, hG1.2.2.2.2.2.2.2.2.1.1, hG1.2.2.2.2.2.2.2.2.1.2.1, hG1.2.2.2.2.2.2.2.2.1.2.2.1, hG1.2.2.2.2.2.2.2.2.1.2.2.2.1, hG1.2.2.2.2.2.2.2.2.2.1.1, hG1.2.2.2.2.2.2.2.2.2.1.2.1, hG1.2.2.2.2.2.2.2.2.2.1.2.2.1, hG1.2.2.2.2.2.2.2.2.2.1.2.2.2.1, hG1.2.2.2.2.2.2.2.2.2.2.1, hG1.2.2.2.2.2.2.2.2.2.2.2.1, hG1.2.2.2.2.2.2.2.2.2.2.2.2.1, hG1.2.2.2.2.2.2.2.2.2.2.2.2.2.1, pm_rf_some, gr9 hG1 hk2, gr10 hG1 hk2, gr6 hG1 hk2, gr7 hG1 hk2, gr8 hG1 hk2, nc12 hk2, (cC_ae q1 c6 hk1).2.2]
            exact hQ S1 i1 f1
      · rw [if_neg c6] at hQ
        simp only [c6, if_false, show ¬ (1 : Int32) = 0 by decide, q65_0, q65_1, q65_2, q65_5, q65_5N, q65_7, q65_7N, q65_9, q65_9N, q65_12, q65_13, q65_16, q65_19, q65_22, q65_23, q65_24, q65_24N, q65_26, q65_29, q65_32, q65_35, q65_36, q65_36N, q65_38, q65_39, q65_42, q65_42N, q65_44, q65_44N, q65_46, q65_47, q65_50, q65_53, q65_53N, q65_55, q65_58, q65_59, q65_60, q65_63, q65_66, q65_e]
        exact hQ S1 i1 f1
    · rw [if_pos c1]; rw [if_neg c1] at hQ; exact hQ S hI frO.rf
set_option maxHeartbeats 4000000 in
theorem c_hidden (hw : wf Z) (hI : cI S x Z nw M) (hQ : ∀ S', cI S' x Z nw M → frO (cO x) S S' → Q (some (.int (op_hidden Z g e wh))) S') : pm_N (d + 92) 68 [.ref x, .int g, .int e, .int wh] S Q := by
  have hl := hw.1
  unfold op_hidden at hQ
  simp only [q68_0, q68_1, q68_2, q68_5, q68_5N, q68_7, q68_7N, q68_9, q68_9N, q68_12, q68_12N, q68_14, q68_17, q68_18, q68_21, q68_22, q68_25, q68_26, q68_27, q68_30, q68_32, q68_33, q68_34, q68_34N, q68_36, q68_39, q68_42, q68_44, q68_45, q68_45N, q68_47, q68_50, q68_50N, q68_52, q68_53, q68_56, q68_57, q68_57N, q68_59, q68_62, q68_65, q68_67, q68_68, q68_69, q68_72, q68_72N, q68_74, q68_77, q68_78, q68_79, q68_80, q68_81, q68_82, q68_85, q68_85N, q68_87, q68_90, q68_91, q68_92, q68_95, q68_95N, q68_97, q68_100, q68_101, q68_102, q68_e, hI.1.1, c_known hw hI, pm_tl_some]
  cases hk : ix g Z.1.length with
  | none =>
    rw [hk] at hQ
    simp only [Option.map_none, pm_rf_none, q68_0, q68_1, q68_2, q68_5, q68_5N, q68_7, q68_7N, q68_9, q68_9N, q68_12, q68_12N, q68_14, q68_17, q68_18, q68_21, q68_22, q68_25, q68_26, q68_27, q68_30, q68_32, q68_33, q68_34, q68_34N, q68_36, q68_39, q68_42, q68_44, q68_45, q68_45N, q68_47, q68_50, q68_50N, q68_52, q68_53, q68_56, q68_57, q68_57N, q68_59, q68_62, q68_65, q68_67, q68_68, q68_69, q68_72, q68_72N, q68_74, q68_77, q68_78, q68_79, q68_80, q68_81, q68_82, q68_85, q68_85N, q68_87, q68_90, q68_91, q68_92, q68_95, q68_95N, q68_97, q68_100, q68_101, q68_102, q68_e]
    exact hQ S hI frO.rf
  | some j =>
    rw [hk] at hQ
    dsimp only at hQ
    obtain ⟨hj, -⟩ := ix_some (by omega) hk
    have hG := cI_G hI hj
    have hF := cI_F hI hj
    have hk7 := (hw.2.2.2 j hj).1
    have e1 : (nI (gg Z.1 j).1 = 1) = ((gg Z.1 j).1 = 1) := nI_e' (b := 1) (by omega) (by decide)
    simp only [Option.map_some, pm_rf_some, q68_0, q68_1, q68_2, q68_5, q68_5N, q68_7, q68_7N, q68_9, q68_9N, q68_12, q68_12N, q68_14, q68_17, q68_18, q68_21, q68_22, q68_25, q68_26, q68_27, q68_30, q68_32, q68_33, q68_34, q68_34N, q68_36, q68_39, q68_42, q68_44, q68_45, q68_45N, q68_47, q68_50, q68_50N, q68_52, q68_53, q68_56, q68_57, q68_57N, q68_59, q68_62, q68_65, q68_67, q68_68, q68_69, q68_72, q68_72N, q68_74, q68_77, q68_78, q68_79, q68_80, q68_81, q68_82, q68_85, q68_85N, q68_87, q68_90, q68_91, q68_92, q68_95, q68_95N, q68_97, q68_100, q68_101, q68_102, q68_e, hG.1, hF.1, e1, hI.1.1]
    by_cases c0 : (gg Z.1 j).1 = 1
    · rw [if_pos c0]; rw [if_pos c0] at hQ
      by_cases c1 : wh < 0
      · rw [if_pos c1]; rw [if_pos c1] at hQ; exact hQ S hI frO.rf
      · rw [if_neg c1]; rw [if_neg c1] at hQ
        by_cases c2 : wh ≤ 2
        · rw [if_pos c2]; rw [if_pos c2] at hQ
          refine c_isBroken hw hj hI fun S1 i1 q1 f1 => ?_
          have hG1 := cI_G i1 hj
          simp only [pm_tl_some, q68_0, q68_1, q68_2, q68_5, q68_5N, q68_7, q68_7N, q68_9, q68_9N, q68_12, q68_12N, q68_14, q68_17, q68_18, q68_21, q68_22, q68_25, q68_26, q68_27, q68_30, q68_32, q68_33, q68_34, q68_34N, q68_36, q68_39, q68_42, q68_44, q68_45, q68_45N, q68_47, q68_50, q68_50N, q68_52, q68_53, q68_56, q68_57, q68_57N, q68_59, q68_62, q68_65, q68_67, q68_68, q68_69, q68_72, q68_72N, q68_74, q68_77, q68_78, q68_79, q68_80, q68_81, q68_82, q68_85, q68_85N, q68_87, q68_90, q68_91, q68_92, q68_95, q68_95N, q68_97, q68_100, q68_101, q68_102, q68_e]
          by_cases c6 : (ct Z j).1 = 0
          · rw [if_pos c6] at hQ
            have hh := (q1.2.2.1 c6).2.2
            simp only [c6, if_true, q68_0, q68_1, q68_2, q68_5, q68_5N, q68_7, q68_7N, q68_9, q68_9N, q68_12, q68_12N, q68_14, q68_17, q68_18, q68_21, q68_22, q68_25, q68_26, q68_27, q68_30, q68_32, q68_33, q68_34, q68_34N, q68_36, q68_39, q68_42, q68_44, q68_45, q68_45N, q68_47, q68_50, q68_50N, q68_52, q68_53, q68_56, q68_57, q68_57N, q68_59, q68_62, q68_65, q68_67, q68_68, q68_69, q68_72, q68_72N, q68_74, q68_77, q68_78, q68_79, q68_80, q68_81, q68_82, q68_85, q68_85N, q68_87, q68_90, q68_91, q68_92, q68_95, q68_95N, q68_97, q68_100, q68_101, q68_102, q68_e, hG1.1, hG1.2.1, hG1.2.2.1, hG1.2.2.2.1, hG1.2.2.2.2.1, hG1.2.2.2.2.2.1, hG1.2.2.2.2.2.2.2.2.1.1, hG1.2.2.2.2.2.2.2.2.1.2.1, hG1.2.2.2.2.2.2.2.2.1.2.2.1, hG1.2.2.2.2.2.2.2.2.1.2.2.2.1, hG1.2.2.2.2.2.2.2.2.2.1.1, hG1.2.2.2.2.2.2.2.2.2.1.2.1, hG1.2.2.2.2.2.2.2.2.2.1.2.2.1, hG1.2.2.2.2.2.2.2.2.2.1.2.2.2.1, hG1.2.2.2.2.2.2.2.2.2.2.1, hG1.2.2.2.2.2.2.2.2.2.2.2.1, hG1.2.2.2.2.2.2.2.2.2.2.2.2.1, hG1.2.2.2.2.2.2.2.2.2.2.2.2.2.1, pm_rf_some, hh.1]
            cases he : ix e (ct Z j).2.2.2.length with
            | none =>
              rw [he] at hQ
              have := ix_none he
              by_cases c7 : e < 0
              · rw [if_pos c7]; exact hQ S1 i1 f1
              · rw [if_neg c7, if_neg (fun q => this ⟨k2_le c7, q⟩)]; exact hQ S1 i1 f1
            | some k =>
              rw [he] at hQ
              dsimp only at hQ
              have h8 := hh.2.1
              obtain ⟨hk1, rfl⟩ := ix_some (by omega) he
              have e3 := pm_ar_nI hG1.2.2.2.2.2.2.2.2.2.2.2.2.2.2.1 (show k < 8 by omega) (by decide)
              have e4 := pm_ar_nI hG1.2.2.2.2.2.2.2.2.2.2.2.2.2.2.2.1 (show k < 8 by omega) (by decide)
              have e5 := pm_ar_nI hG1.2.2.2.2.2.2.2.2.2.2.2.2.2.2.2.2 (show k < 8 by omega) (by decide)
              have eh := cC_hs q1 c6 hk1
              simp only [show ¬ nI k < 0 from k2_nlt (nI_pos' (by omega)), if_false, show nI k < nI (ct Z j).2.2.2.length from nI_lt hk1 (by omega), if_true, q68_0, q68_1, q68_2, q68_5, q68_5N, q68_7, q68_7N, q68_9, q68_9N, q68_12, q68_12N, q68_14, q68_17, q68_18, q68_21, q68_22, q68_25, q68_26, q68_27, q68_30, q68_32, q68_33, q68_34, q68_34N, q68_36, q68_39, q68_42, q68_44, q68_45, q68_45N, q68_47, q68_50, q68_50N, q68_52, q68_53, q68_56, q68_57, q68_57N, q68_59, q68_62, q68_65, q68_67, q68_68, q68_69, q68_72, q68_72N, q68_74, q68_77, q68_78, q68_79, q68_80, q68_81, q68_82, q68_85, q68_85N, q68_87, q68_90, q68_91, q68_92, q68_95, q68_95N, q68_97, q68_100, q68_101, q68_102, q68_e, hG1.1, hG1.2.1, hG1.2.2.1, hG1.2.2.2.1, hG1.2.2.2.2.1, hG1.2.2.2.2.2.1, hG1.2.2.2.2.2.2.2.2.1.1, hG1.2.2.2.2.2.2.2.2.1.2.1, hG1.2.2.2.2.2.2.2.2.1.2.2.1, hG1.2.2.2.2.2.2.2.2.1.2.2.2.1, hG1.2.2.2.2.2.2.2.2.2.1.1, hG1.2.2.2.2.2.2.2.2.2.1.2.1, hG1.2.2.2.2.2.2.2.2.2.1.2.2.1, hG1.2.2.2.2.2.2.2.2.2.1.2.2.2.1, hG1.2.2.2.2.2.2.2.2.2.2.1, hG1.2.2.2.2.2.2.2.2.2.2.2.1, hG1.2.2.2.2.2.2.2.2.2.2.2.2.1, hG1.2.2.2.2.2.2.2.2.2.2.2.2.2.1, pm_rf_some, e3, e4, e5, nI_clamp (show k < 2 ^ 31 by omega), eh.1, eh.2.1, eh.2.2]
              by_cases c7 : wh = 0
              · rw [if_pos c7]; rw [if_pos c7] at hQ; exact hQ S1 i1 f1
              · rw [if_neg c7]; rw [if_neg c7] at hQ
                by_cases c8 : wh = 1
                · rw [if_pos c8]; rw [if_pos c8] at hQ; exact hQ S1 i1 f1
                · rw [if_neg c8]; rw [if_neg c8] at hQ; exact hQ S1 i1 f1
          · rw [if_neg c6] at hQ
            simp only [c6, if_false, show ¬ (1 : Int32) = 0 by decide, q68_0, q68_1, q68_2, q68_5, q68_5N, q68_7, q68_7N, q68_9, q68_9N, q68_12, q68_12N, q68_14, q68_17, q68_18, q68_21, q68_22, q68_25, q68_26, q68_27, q68_30, q68_32, q68_33, q68_34, q68_34N, q68_36, q68_39, q68_42, q68_44, q68_45, q68_45N, q68_47, q68_50, q68_50N, q68_52, q68_53, q68_56, q68_57, q68_57N, q68_59, q68_62, q68_65, q68_67, q68_68, q68_69, q68_72, q68_72N, q68_74, q68_77, q68_78, q68_79, q68_80, q68_81, q68_82, q68_85, q68_85N, q68_87, q68_90, q68_91, q68_92, q68_95, q68_95N, q68_97, q68_100, q68_101, q68_102, q68_e]
            exact hQ S1 i1 f1
        · rw [if_neg c2]; rw [if_neg c2] at hQ; exact hQ S hI frO.rf
    · rw [if_neg c0]; rw [if_neg c0] at hQ; exact hQ S hI frO.rf
set_option maxHeartbeats 4000000 in
theorem c_up (hw : wf Z) (hI : cI S x Z nw M) (hQ : ∀ S', cI S' x Z nw M → frO (cO x) S S' → Q (some (.int (op_up Z g wh i wc))) S') : pm_N (d + 92) 66 [.ref x, .int g, .int wh, .int i, .int wc] S Q := by
  have hl := hw.1
  unfold op_up at hQ
  simp only [q66_0, q66_1, q66_2, q66_5, q66_5N, q66_7, q66_7N, q66_9, q66_9N, q66_12, q66_12N, q66_14, q66_17, q66_20, q66_21, q66_24, q66_27, q66_29, q66_32, q66_35, q66_37, q66_38, q66_39, q66_39N, q66_41, q66_44, q66_47, q66_49, q66_50, q66_50N, q66_52, q66_53, q66_56, q66_56N, q66_58, q66_58N, q66_60, q66_61, q66_64, q66_67, q66_69, q66_70, q66_70N, q66_72, q66_74, q66_77, q66_78, q66_79, q66_81, q66_83, q66_86, q66_88, q66_91, q66_93, q66_e, hI.1.1, c_known hw hI, pm_tl_some]
  cases hk : ix g Z.1.length with
  | none =>
    rw [hk] at hQ
    simp only [Option.map_none, pm_rf_none, q66_0, q66_1, q66_2, q66_5, q66_5N, q66_7, q66_7N, q66_9, q66_9N, q66_12, q66_12N, q66_14, q66_17, q66_20, q66_21, q66_24, q66_27, q66_29, q66_32, q66_35, q66_37, q66_38, q66_39, q66_39N, q66_41, q66_44, q66_47, q66_49, q66_50, q66_50N, q66_52, q66_53, q66_56, q66_56N, q66_58, q66_58N, q66_60, q66_61, q66_64, q66_67, q66_69, q66_70, q66_70N, q66_72, q66_74, q66_77, q66_78, q66_79, q66_81, q66_83, q66_86, q66_88, q66_91, q66_93, q66_e]
    exact hQ S hI frO.rf
  | some j =>
    rw [hk] at hQ
    dsimp only at hQ
    obtain ⟨hj, -⟩ := ix_some (by omega) hk
    have hG := cI_G hI hj
    have hF := cI_F hI hj
    have hk7 := (hw.2.2.2 j hj).1
    have e0 : (nI (gg Z.1 j).1 = 0) = ((gg Z.1 j).1 = 0) := nI_e' (b := 0) (by omega) (by decide)
    simp only [Option.map_some, pm_rf_some, q66_0, q66_1, q66_2, q66_5, q66_5N, q66_7, q66_7N, q66_9, q66_9N, q66_12, q66_12N, q66_14, q66_17, q66_20, q66_21, q66_24, q66_27, q66_29, q66_32, q66_35, q66_37, q66_38, q66_39, q66_39N, q66_41, q66_44, q66_47, q66_49, q66_50, q66_50N, q66_52, q66_53, q66_56, q66_56N, q66_58, q66_58N, q66_60, q66_61, q66_64, q66_67, q66_69, q66_70, q66_70N, q66_72, q66_74, q66_77, q66_78, q66_79, q66_81, q66_83, q66_86, q66_88, q66_91, q66_93, q66_e, hG.1, hF.1, e0, c_isOneOfTwo, pm_tl_some, pm_z1, hI.1.1]
    by_cases c0 : (gg Z.1 j).1 = 0
    · rw [if_pos c0]; rw [if_pos c0] at hQ; exact hQ S hI frO.rf
    · rw [if_neg c0]; rw [if_neg c0] at hQ
      by_cases c1 : wh = 0 ∨ wh = 1
      · rw [if_neg (fun h => h c1)]; rw [if_pos c1] at hQ
        by_cases c2 : wc = 0 ∨ wc = 1
        · rw [if_neg (fun h => h c2)]; rw [if_pos c2] at hQ
          refine c_isBroken hw hj hI fun S1 i1 q1 f1 => ?_
          have hG1 := cI_G i1 hj
          have wd := ct_wd hw _ _ (Nat.lt_succ_self _) hj
          simp only [pm_tl_some, q66_0, q66_1, q66_2, q66_5, q66_5N, q66_7, q66_7N, q66_9, q66_9N, q66_12, q66_12N, q66_14, q66_17, q66_20, q66_21, q66_24, q66_27, q66_29, q66_32, q66_35, q66_37, q66_38, q66_39, q66_39N, q66_41, q66_44, q66_47, q66_49, q66_50, q66_50N, q66_52, q66_53, q66_56, q66_56N, q66_58, q66_58N, q66_60, q66_61, q66_64, q66_67, q66_69, q66_70, q66_70N, q66_72, q66_74, q66_77, q66_78, q66_79, q66_81, q66_83, q66_86, q66_88, q66_91, q66_93, q66_e]
          by_cases c6 : (ct Z j).1 = 0
          · rw [if_pos c6] at hQ
            simp only [c6, if_true, q66_0, q66_1, q66_2, q66_5, q66_5N, q66_7, q66_7N, q66_9, q66_9N, q66_12, q66_12N, q66_14, q66_17, q66_20, q66_21, q66_24, q66_27, q66_29, q66_32, q66_35, q66_37, q66_38, q66_39, q66_39N, q66_41, q66_44, q66_47, q66_49, q66_50, q66_50N, q66_52, q66_53, q66_56, q66_56N, q66_58, q66_58N, q66_60, q66_61, q66_64, q66_67, q66_69, q66_70, q66_70N, q66_72, q66_74, q66_77, q66_78, q66_79, q66_81, q66_83, q66_86, q66_88, q66_91, q66_93, q66_e, hG1.1, c_items hG1, pm_tl_some]
            rcases c1 with rfl | rfl
            · have hn := cC_n q1 c6
              simp only [if_true, q66_0, q66_1, q66_2, q66_5, q66_5N, q66_7, q66_7N, q66_9, q66_9N, q66_12, q66_12N, q66_14, q66_17, q66_20, q66_21, q66_24, q66_27, q66_29, q66_32, q66_35, q66_37, q66_38, q66_39, q66_39N, q66_41, q66_44, q66_47, q66_49, q66_50, q66_50N, q66_52, q66_53, q66_56, q66_56N, q66_58, q66_58N, q66_60, q66_61, q66_64, q66_67, q66_69, q66_70, q66_70N, q66_72, q66_74, q66_77, q66_78, q66_79, q66_81, q66_83, q66_86, q66_88, q66_91, q66_93, q66_e, hG1.1, hG1.2.1, hG1.2.2.1, hG1.2.2.2.1, hG1.2.2.2.2.1, hG1.2.2.2.2.2.1, hG1.2.2.2.2.2.2.2.2.1.1, hG1.2.2.2.2.2.2.2.2.1.2.1, hG1.2.2.2.2.2.2.2.2.1.2.2.1, hG1.2.2.2.2.2.2.2.2.1.2.2.2.1, hG1.2.2.2.2.2.2.2.2.2.1.1, hG1.2.2.2.2.2.2.2.2.2.1.2.1, hG1.2.2.2.2.2.2.2.2.2.1.2.2.1, hG1.2.2.2.2.2.2.2.2.2.1.2.2.2.1, hG1.2.2.2.2.2.2.2.2.2.2.1, hG1.2.2.2.2.2.2.2.2.2.2.2.1, hG1.2.2.2.2.2.2.2.2.2.2.2.2.1, hG1.2.2.2.2.2.2.2.2.2.2.2.2.2.1, pm_rf_some, c_hasX hG1.2.2.2.2.2.2.2.2.1.1 hn.1, pm_tl_some]
              have hq : sp_len (ct Z j) ((0 : Int32).toNatClampNeg) = (ct Z j).2.1.length := rfl
              rw [hq] at hQ
              cases he : ix i (ct Z j).2.1.length with
              | none =>
                rw [he] at hQ
                simp only [Option.isSome_none, Bool.false_eq_true, if_false, if_true, q66_0, q66_1, q66_2, q66_5, q66_5N, q66_7, q66_7N, q66_9, q66_9N, q66_12, q66_12N, q66_14, q66_17, q66_20, q66_21, q66_24, q66_27, q66_29, q66_32, q66_35, q66_37, q66_38, q66_39, q66_39N, q66_41, q66_44, q66_47, q66_49, q66_50, q66_50N, q66_52, q66_53, q66_56, q66_56N, q66_58, q66_58N, q66_60, q66_61, q66_64, q66_67, q66_69, q66_70, q66_70N, q66_72, q66_74, q66_77, q66_78, q66_79, q66_81, q66_83, q66_86, q66_88, q66_91, q66_93, q66_e]
                exact hQ S1 i1 f1
              | some k =>
                rw [he] at hQ
                obtain ⟨hk1, rfl⟩ := ix_some (by omega) he
                have hk2 : k < 40 := by omega
                simp only [Option.isSome_some, if_true, show ¬ (1 : Int32) = 0 by decide, if_false, q66_0, q66_1, q66_2, q66_5, q66_5N, q66_7, q66_7N, q66_9, q66_9N, q66_12, q66_12N, q66_14, q66_17, q66_20, q66_21, q66_24, q66_27, q66_29, q66_32, q66_35, q66_37, q66_38, q66_39, q66_39N, q66_41, q66_44, q66_47, q66_49, q66_50, q66_50N, q66_52, q66_53, q66_56, q66_56N, q66_58, q66_58N, q66_60, q66_61, q66_64, q66_67, q66_69, q66_70, q66_70N, q66_72, q66_74, q66_77, q66_78, q66_79, q66_81, q66_83, q66_86, q66_88, q66_91, q66_93, q66_e, c_sources hG1.2.2.2.2.2.2.2.2.1, pm_tl_some]
                dsimp only at hQ
                rcases c2 with rfl | rfl
                · simp only [if_true, q66_0, q66_1, q66_2, q66_5, q66_5N, q66_7, q66_7N, q66_9, q66_9N, q66_12, q66_12N, q66_14, q66_17, q66_20, q66_21, q66_24, q66_27, q66_29, q66_32, q66_35, q66_37, q66_38, q66_39, q66_39N, q66_41, q66_44, q66_47, q66_49, q66_50, q66_50N, q66_52, q66_53, q66_56, q66_56N, q66_58, q66_58N, q66_60, q66_61, q66_64, q66_67, q66_69, q66_70, q66_70N, q66_72, q66_74, q66_77, q66_78, q66_79, q66_81, q66_83, q66_86, q66_88, q66_91, q66_93, q66_e, gr2 hG1 hk2, gr3 hG1 hk2, gr4 hG1 hk2, nc4 hk2, (cC_ns q1 c6 hk1).1]
                  have e := sp_eM_of (sp_nd_bd wd hk1).1
                  have hR := hQ S1 i1 f1
                  split
                  next h => rw [if_pos h] at e; exact (show sp_eM (sp_src (ct Z j) ((0 : Int32).toNatClampNeg) k ((0 : Int32).toNatClampNeg)) = _ from e.symm) ▸ hR
                  next h => rw [if_neg h] at e; exact (show sp_eM (sp_src (ct Z j) ((0 : Int32).toNatClampNeg) k ((0 : Int32).toNatClampNeg)) = _ from e.symm) ▸ hR
                · simp only [if_true, show ¬ (1 : Int32) = 0 by decide, if_false, q66_0, q66_1, q66_2, q66_5, q66_5N, q66_7, q66_7N, q66_9, q66_9N, q66_12, q66_12N, q66_14, q66_17, q66_20, q66_21, q66_24, q66_27, q66_29, q66_32, q66_35, q66_37, q66_38, q66_39, q66_39N, q66_41, q66_44, q66_47, q66_49, q66_50, q66_50N, q66_52, q66_53, q66_56, q66_56N, q66_58, q66_58N, q66_60, q66_61, q66_64, q66_67, q66_69, q66_70, q66_70N, q66_72, q66_74, q66_77, q66_78, q66_79, q66_81, q66_83, q66_86, q66_88, q66_91, q66_93, q66_e, gr2 hG1 hk2, gr3 hG1 hk2, gr4 hG1 hk2, nc4 hk2, (cC_ns q1 c6 hk1).2]
                  have e := sp_eM_of (sp_nd_bd wd hk1).2
                  have hR := hQ S1 i1 f1
                  split
                  next h => rw [if_pos h] at e; exact (show sp_eM (sp_src (ct Z j) ((0 : Int32).toNatClampNeg) k ((1 : Int32).toNatClampNeg)) = _ from e.symm) ▸ hR
                  next h => rw [if_neg h] at e; exact (show sp_eM (sp_src (ct Z j) ((0 : Int32).toNatClampNeg) k ((1 : Int32).toNatClampNeg)) = _ from e.symm) ▸ hR
            · have hn := cC_m q1 c6
              simp only [show ¬ (1 : Int32) = 0 by decide, if_false, if_true, q66_0, q66_1, q66_2, q66_5, q66_5N, q66_7, q66_7N, q66_9, q66_9N, q66_12, q66_12N, q66_14, q66_17, q66_20, q66_21, q66_24, q66_27, q66_29, q66_32, q66_35, q66_37, q66_38, q66_39, q66_39N, q66_41, q66_44, q66_47, q66_49, q66_50, q66_50N, q66_52, q66_53, q66_56, q66_56N, q66_58, q66_58N, q66_60, q66_61, q66_64, q66_67, q66_69, q66_70, q66_70N, q66_72, q66_74, q66_77, q66_78, q66_79, q66_81, q66_83, q66_86, q66_88, q66_91, q66_93, q66_e, hG1.1, hG1.2.1, hG1.2.2.1, hG1.2.2.2.1, hG1.2.2.2.2.1, hG1.2.2.2.2.2.1, hG1.2.2.2.2.2.2.2.2.1.1, hG1.2.2.2.2.2.2.2.2.1.2.1, hG1.2.2.2.2.2.2.2.2.1.2.2.1, hG1.2.2.2.2.2.2.2.2.1.2.2.2.1, hG1.2.2.2.2.2.2.2.2.2.1.1, hG1.2.2.2.2.2.2.2.2.2.1.2.1, hG1.2.2.2.2.2.2.2.2.2.1.2.2.1, hG1.2.2.2.2.2.2.2.2.2.1.2.2.2.1, hG1.2.2.2.2.2.2.2.2.2.2.1, hG1.2.2.2.2.2.2.2.2.2.2.2.1, hG1.2.2.2.2.2.2.2.2.2.2.2.2.1, hG1.2.2.2.2.2.2.2.2.2.2.2.2.2.1, pm_rf_some, c_hasX hG1.2.2.2.2.2.2.2.2.2.1.1 hn.1, pm_tl_some]
              have hq : sp_len (ct Z j) ((1 : Int32).toNatClampNeg) = (ct Z j).2.2.1.length := rfl
              rw [hq] at hQ
              cases he : ix i (ct Z j).2.2.1.length with
              | none =>
                rw [he] at hQ
                simp only [Option.isSome_none, Bool.false_eq_true, if_false, if_true, q66_0, q66_1, q66_2, q66_5, q66_5N, q66_7, q66_7N, q66_9, q66_9N, q66_12, q66_12N, q66_14, q66_17, q66_20, q66_21, q66_24, q66_27, q66_29, q66_32, q66_35, q66_37, q66_38, q66_39, q66_39N, q66_41, q66_44, q66_47, q66_49, q66_50, q66_50N, q66_52, q66_53, q66_56, q66_56N, q66_58, q66_58N, q66_60, q66_61, q66_64, q66_67, q66_69, q66_70, q66_70N, q66_72, q66_74, q66_77, q66_78, q66_79, q66_81, q66_83, q66_86, q66_88, q66_91, q66_93, q66_e]
                exact hQ S1 i1 f1
              | some k =>
                rw [he] at hQ
                obtain ⟨hk1, rfl⟩ := ix_some (by omega) he
                have hk2 : k < 120 := by omega
                simp only [Option.isSome_some, if_true, show ¬ (1 : Int32) = 0 by decide, if_false, q66_0, q66_1, q66_2, q66_5, q66_5N, q66_7, q66_7N, q66_9, q66_9N, q66_12, q66_12N, q66_14, q66_17, q66_20, q66_21, q66_24, q66_27, q66_29, q66_32, q66_35, q66_37, q66_38, q66_39, q66_39N, q66_41, q66_44, q66_47, q66_49, q66_50, q66_50N, q66_52, q66_53, q66_56, q66_56N, q66_58, q66_58N, q66_60, q66_61, q66_64, q66_67, q66_69, q66_70, q66_70N, q66_72, q66_74, q66_77, q66_78, q66_79, q66_81, q66_83, q66_86, q66_88, q66_91, q66_93, q66_e, c_sources hG1.2.2.2.2.2.2.2.2.2.1, pm_tl_some]
                dsimp only at hQ
                rcases c2 with rfl | rfl
                · simp only [if_true, q66_0, q66_1, q66_2, q66_5, q66_5N, q66_7, q66_7N, q66_9, q66_9N, q66_12, q66_12N, q66_14, q66_17, q66_20, q66_21, q66_24, q66_27, q66_29, q66_32, q66_35, q66_37, q66_38, q66_39, q66_39N, q66_41, q66_44, q66_47, q66_49, q66_50, q66_50N, q66_52, q66_53, q66_56, q66_56N, q66_58, q66_58N, q66_60, q66_61, q66_64, q66_67, q66_69, q66_70, q66_70N, q66_72, q66_74, q66_77, q66_78, q66_79, q66_81, q66_83, q66_86, q66_88, q66_91, q66_93, q66_e, gr9 hG1 hk2, gr10 hG1 hk2, gr6 hG1 hk2, gr7 hG1 hk2, gr8 hG1 hk2, nc12 hk2, (cC_as q1 c6 hk1).1]
                  have e := sp_eM_of (sp_ar_bd wd hk1).1
                  have hR := hQ S1 i1 f1
                  split
                  next h => rw [if_pos h] at e; exact (show sp_eM (sp_src (ct Z j) ((1 : Int32).toNatClampNeg) k ((0 : Int32).toNatClampNeg)) = _ from e.symm) ▸ hR
                  next h => rw [if_neg h] at e; exact (show sp_eM (sp_src (ct Z j) ((1 : Int32).toNatClampNeg) k ((0 : Int32).toNatClampNeg)) = _ from e.symm) ▸ hR
                · simp only [if_true, show ¬ (1 : Int32) = 0 by decide, if_false, q66_0, q66_1, q66_2, q66_5, q66_5N, q66_7, q66_7N, q66_9, q66_9N, q66_12, q66_12N, q66_14, q66_17, q66_20, q66_21, q66_24, q66_27, q66_29, q66_32, q66_35, q66_37, q66_38, q66_39, q66_39N, q66_41, q66_44, q66_47, q66_49, q66_50, q66_50N, q66_52, q66_53, q66_56, q66_56N, q66_58, q66_58N, q66_60, q66_61, q66_64, q66_67, q66_69, q66_70, q66_70N, q66_72, q66_74, q66_77, q66_78, q66_79, q66_81, q66_83, q66_86, q66_88, q66_91, q66_93, q66_e, gr9 hG1 hk2, gr10 hG1 hk2, gr6 hG1 hk2, gr7 hG1 hk2, gr8 hG1 hk2, nc12 hk2, (cC_as q1 c6 hk1).2]
                  have e := sp_eM_of (sp_ar_bd wd hk1).2
                  have hR := hQ S1 i1 f1
                  split
                  next h => rw [if_pos h] at e; exact (show sp_eM (sp_src (ct Z j) ((1 : Int32).toNatClampNeg) k ((1 : Int32).toNatClampNeg)) = _ from e.symm) ▸ hR
                  next h => rw [if_neg h] at e; exact (show sp_eM (sp_src (ct Z j) ((1 : Int32).toNatClampNeg) k ((1 : Int32).toNatClampNeg)) = _ from e.symm) ▸ hR
          · rw [if_neg c6] at hQ
            simp only [c6, if_false, show ¬ (1 : Int32) = 0 by decide, q66_0, q66_1, q66_2, q66_5, q66_5N, q66_7, q66_7N, q66_9, q66_9N, q66_12, q66_12N, q66_14, q66_17, q66_20, q66_21, q66_24, q66_27, q66_29, q66_32, q66_35, q66_37, q66_38, q66_39, q66_39N, q66_41, q66_44, q66_47, q66_49, q66_50, q66_50N, q66_52, q66_53, q66_56, q66_56N, q66_58, q66_58N, q66_60, q66_61, q66_64, q66_67, q66_69, q66_70, q66_70N, q66_72, q66_74, q66_77, q66_78, q66_79, q66_81, q66_83, q66_86, q66_88, q66_91, q66_93, q66_e]
            exact hQ S1 i1 f1
        · rw [if_pos c2]; rw [if_neg c2] at hQ; exact hQ S hI frO.rf
      · rw [if_pos c1]; rw [if_neg c1] at hQ; exact hQ S hI frO.rf
end
