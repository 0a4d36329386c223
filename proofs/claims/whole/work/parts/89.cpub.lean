/-! ===== what the calls answer (those that change nothing), and the class ===== -/
/-- a number below n -/
def ix (x : Int32) (n : Nat) : Option Nat := if 0 ≤ x ∧ x < nI n then some x.toNatClampNeg else none
theorem ix_some {x : Int32} {n j : Nat} (hn : n < 2 ^ 30) (h : ix x n = some j) : j < n ∧ x = nI j := by
  unfold ix at h
  split at h
  next hc =>
    cases h
    obtain ⟨k, hk, rfl⟩ := nI_of (k2_nlt hc.1)
    rw [nI_clamp hk]
    refine ⟨?_, rfl⟩
    apply Classical.byContradiction
    intro q
    exact nI_nlt (show n ≤ k by omega) hk hc.2
  next => cases h
theorem ix_none {x : Int32} {n : Nat} (h : ix x n = none) : ¬ (0 ≤ x ∧ x < nI n) := by
  unfold ix at h
  split at h
  next => cases h
  next hc => exact hc
theorem ix_nI {n j : Nat} (hn : n < 2 ^ 30) (h : j < n) : ix (nI j) n = some j := by
  unfold ix
  rw [if_pos ⟨nI_pos' (by omega), nI_lt h (by omega)⟩, nI_clamp (by omega)]
def sp_hd (C : sp_C) (i : Nat) : Nat × Nat × Nat := C.2.2.2.getD i (0, 0, 0)
/-- whence item i came -/
def sp_src (C : sp_C) (wh i wc : Nat) : Option Nat := if wh = 0 then (if wc = 0 then (sp_nd C i).2.1 else (sp_nd C i).2.2) else (if wc = 0 then (sp_ar C i).2.2.2.1 else (sp_ar C i).2.2.2.2)
def op_told (Z : sp_S) (g wh : Int32) : Int32 := match ix g Z.1.length with
  | none => -1000001
  | some j => if wh < 0 then -1000001 else if wh ≤ 5 then (if wh = 2 then nI (gg Z.1 j).1 else if wh = 4 then (if (gg Z.1 j).2.2.2.2.1 = true then 0 else 1) else if wh = 5 then nI (ct Z j).1 else if (ct Z j).1 = 0 then (if wh = 3 then nI (ct Z j).2.2.2.length else if wh = 0 then nI (ct Z j).2.1.length else nI (ct Z j).2.2.1.length) else -1000003) else -1000001
def op_end (Z : sp_S) (g e wc : Int32) : Int32 := match ix g Z.1.length with
  | none => -1000001
  | some j => if wc = 0 ∨ wc = 1 then (if (ct Z j).1 = 0 then (match ix e (ct Z j).2.2.1.length with
    | none => -1000001
    | some k => if wc = 0 then nI (sp_ar (ct Z j) k).1 else nI (sp_ar (ct Z j) k).2.1) else -1000003) else -1000001
def op_value (Z : sp_S) (g wh i : Int32) : Int64 := match ix g Z.1.length with
  | none => -1000001
  | some j => if wh = 0 ∨ wh = 1 then (if (ct Z j).1 = 0 then (match ix i (sp_len (ct Z j) wh.toNatClampNeg) with
    | none => -1000001
    | some k => sp_v (ct Z j) wh.toNatClampNeg k) else -1000003) else -1000001
def op_up (Z : sp_S) (g wh i wc : Int32) : Int32 := match ix g Z.1.length with
  | none => -1000001
  | some j => if (gg Z.1 j).1 = 0 then -1000001 else if wh = 0 ∨ wh = 1 then (if wc = 0 ∨ wc = 1 then (if (ct Z j).1 = 0 then (match ix i (sp_len (ct Z j) wh.toNatClampNeg) with
    | none => -1000001
    | some k => sp_eM (sp_src (ct Z j) wh.toNatClampNeg k wc.toNatClampNeg)) else -1000003) else -1000001) else -1000001
def op_hidden (Z : sp_S) (g k wh : Int32) : Int32 := match ix g Z.1.length with
  | none => -1000001
  | some j => if (gg Z.1 j).1 = 1 then (if wh < 0 then -1000001 else if wh ≤ 2 then (if (ct Z j).1 = 0 then (match ix k (ct Z j).2.2.2.length with
    | none => -1000004
    | some i => if wh = 0 then nI (sp_hd (ct Z j) i).1 else if wh = 1 then nI (sp_hd (ct Z j) i).2.1 else nI (sp_hd (ct Z j) i).2.2) else -1000003) else -1000001) else -1000001
def op_ask (Z : sp_S) (g wh i t : Int32) : Int32 := match ix g Z.1.length with
  | none => -1000001
  | some j => if wh = 0 ∨ wh = 1 then (match ix t Z.2.2.length with
    | none => -1000001
    | some u => if (ct Z j).1 = 0 then (match ix i (sp_len (ct Z j) wh.toNatClampNeg) with
      | none => -1000001
      | some k => (if (sp_say (ct Z j) Z.2.2 20 wh.toNatClampNeg k u (0, 0)).1 < 10 then nI (sp_say (ct Z j) Z.2.2 20 wh.toNatClampNeg k u (0, 0)).1 else -nI (sp_say (ct Z j) Z.2.2 20 wh.toNatClampNeg k u (0, 0)).1)) else -1000003) else -1000001
section
variable {d x n k nw M : Nat} {S : pm_T} {Q : Option Value → pm_T → Prop} {Z : sp_S} {g wh e wc i t : Int32}
theorem c_known (hw : wf Z) (hI : cI S x Z nw M) : pm_N d 75 [.ref x, .int g] S Q = Q (some (va_rf ((ix g Z.1.length).map (ad x)))) S := by
  obtain ⟨h1, h2, h3, h4, h5, h6, h7, h8, h9, h10⟩ := hI
  have hl := hw.1
  simp only [q75_0, q75_1, q75_4, q75_5, q75_6, q75_9, q75_12, q75_13, q75_15, q75_18, q75_19, q75_22, q75_23, q75_23r, q75_24, q75_27, q75_28, q75_28N, q75_e, h1.1, h1.2.1, pm_rf_some, h3]
  cases hk : ix g Z.1.length with
  | none =>
    have := ix_none hk
    by_cases c1 : g < 0
    · rw [if_pos c1]; rfl
    · rw [if_neg c1, if_neg (fun q => this ⟨k2_le c1, q⟩)]; rfl
  | some j =>
    obtain ⟨hj, rfl⟩ := ix_some (by omega) hk
    have e1 : ¬ nI j < 0 := k2_nlt (nI_pos' (by omega))
    have e2 : nI j < nI Z.1.length := nI_lt hj (by omega)
    have e3 : nI j < 24 := nI_lt (b := 24) (by omega) (by decide)
    have e4 := pm_ar_nI h1.2.2.2.2.2.1 (show j < 24 by omega) (by decide)
    have e5 := h2.2.1 j (by omega)
    rw [if_pos (by omega)] at e5
    simp only [e1, e2, e3, if_false, if_true, q75_0, q75_1, q75_4, q75_5, q75_6, q75_9, q75_12, q75_13, q75_15, q75_18, q75_19, q75_22, q75_23, q75_23r, q75_24, q75_27, q75_28, q75_28N, q75_e, e4, nI_clamp (show j < 2 ^ 31 by omega), e5, pm_rf_some, Option.map_some]
theorem c_isBroken {j : Nat} (hw : wf Z) (hj : j < Z.1.length) (hI : cI S x Z nw M) (hQ : ∀ S', cI S' x Z nw M → cC S' (ad x j) (ct Z j) → frO (cO x) S S' → Q (some (.int (if (ct Z j).1 = 0 then 0 else 1))) S') : pm_N (d + 91) 84 [.ref x, .ref (ad x j)] S Q := by
  have hl := hw.1
  simp only [q84_0, q84_1, q84_1N, q84_2, q84_3, q84_6, q84_6N, q84_7, q84_10, q84_13, q84_14, q84_17, q84_18, q84_e, hI.1.1]
  rw [show (Value.int 0 : Value) = .int (nI 0) from rfl]
  refine c_refresh (d := d) hw 24 j 0 S (by omega) hj (by omega) hI _ fun S1 i1 c1 _ _ f1 => ?_
  have hG : sG S1 (ad x j) := i1.2.1.2.2.1 j (by have := i1.2.2.2.2.2.2.1; omega)
  have e : (nI (ct Z j).1 = 0) = ((ct Z j).1 = 0) := nI_e' (b := 0) (by have := c1.2.1; omega) (by decide)
  simp only [pm_tl_none, q84_0, q84_1, q84_1N, q84_2, q84_3, q84_6, q84_6N, q84_7, q84_10, q84_13, q84_14, q84_17, q84_18, q84_e, hG.1, c1.1, e, true_or, or_true]
  have := hQ S1 i1 c1 f1
  split
  next h => rw [if_pos h] at this; exact this
  next h => rw [if_neg h] at this; exact this
theorem cI_G {j : Nat} (hI : cI S x Z nw M) (hj : j < Z.1.length) : sG S (ad x j) := hI.2.1.2.2.1 j (by have := hI.2.2.2.2.2.2.1; omega)
theorem cI_F {j : Nat} (hI : cI S x Z nw M) (hj : j < Z.1.length) : cF S x j (gg Z.1 j) := (hI.2.2.2.2.2.2.2.2.2 j hj).1
set_option maxHeartbeats 2000000 in
theorem c_told (hw : wf Z) (hI : cI S x Z nw M) (hQ : ∀ S', cI S' x Z nw M → frO (cO x) S S' → Q (some (.int (op_told Z g wh))) S') : pm_N (d + 92) 63 [.ref x, .int g, .int wh] S Q := by
  have hl := hw.1
  unfold op_told at hQ
  simp only [q63_0, q63_1, q63_2, q63_5, q63_5N, q63_6, q63_6N, q63_7, q63_7N, q63_10, q63_11, q63_14, q63_15, q63_16, q63_19, q63_21, q63_22, q63_23, q63_24, q63_27, q63_27N, q63_28, q63_31, q63_32, q63_33, q63_34, q63_37, q63_37N, q63_38, q63_41, q63_44, q63_45, q63_48, q63_49, q63_50, q63_51, q63_51N, q63_52, q63_55, q63_57, q63_58, q63_59, q63_62, q63_62N, q63_63, q63_66, q63_67, q63_69, q63_72, q63_74, q63_75, q63_76, q63_77, q63_80, q63_80N, q63_81, q63_84, q63_87, q63_90, q63_90N, q63_91, q63_92, q63_95, q63_98, q63_e, hI.1.1, c_known hw hI, pm_tl_some]
  cases hk : ix g Z.1.length with
  | none =>
    rw [hk] at hQ
    simp only [Option.map_none, pm_rf_none, q63_0, q63_1, q63_2, q63_5, q63_5N, q63_6, q63_6N, q63_7, q63_7N, q63_10, q63_11, q63_14, q63_15, q63_16, q63_19, q63_21, q63_22, q63_23, q63_24, q63_27, q63_27N, q63_28, q63_31, q63_32, q63_33, q63_34, q63_37, q63_37N, q63_38, q63_41, q63_44, q63_45, q63_48, q63_49, q63_50, q63_51, q63_51N, q63_52, q63_55, q63_57, q63_58, q63_59, q63_62, q63_62N, q63_63, q63_66, q63_67, q63_69, q63_72, q63_74, q63_75, q63_76, q63_77, q63_80, q63_80N, q63_81, q63_84, q63_87, q63_90, q63_90N, q63_91, q63_92, q63_95, q63_98, q63_e]
    exact hQ S hI frO.rf
  | some j =>
    rw [hk] at hQ
    dsimp only at hQ
    obtain ⟨hj, -⟩ := ix_some (by omega) hk
    have hG := cI_G hI hj
    have hF := cI_F hI hj
    simp only [Option.map_some, pm_rf_some, q63_0, q63_1, q63_2, q63_5, q63_5N, q63_6, q63_6N, q63_7, q63_7N, q63_10, q63_11, q63_14, q63_15, q63_16, q63_19, q63_21, q63_22, q63_23, q63_24, q63_27, q63_27N, q63_28, q63_31, q63_32, q63_33, q63_34, q63_37, q63_37N, q63_38, q63_41, q63_44, q63_45, q63_48, q63_49, q63_50, q63_51, q63_51N, q63_52, q63_55, q63_57, q63_58, q63_59, q63_62, q63_62N, q63_63, q63_66, q63_67, q63_69, q63_72, q63_74, q63_75, q63_76, q63_77, q63_80, q63_80N, q63_81, q63_84, q63_87, q63_90, q63_90N, q63_91, q63_92, q63_95, q63_98, q63_e, hG.1, hF.1, hF.2.2, hI.1.1]
    by_cases c1 : wh < 0
    · rw [if_pos c1]; rw [if_pos c1] at hQ; exact hQ S hI frO.rf
    · rw [if_neg c1]; rw [if_neg c1] at hQ
      by_cases c2 : wh ≤ 5
      · rw [if_pos c2]; rw [if_pos c2] at hQ
        by_cases c3 : wh = 2
        · rw [if_pos c3]; rw [if_pos c3] at hQ; exact hQ S hI frO.rf
        · rw [if_neg c3]; rw [if_neg c3] at hQ
          by_cases c4 : wh = 4
          · rw [if_pos c4]; rw [if_pos c4] at hQ
            cases hfx : (gg Z.1 j).2.2.2.2.1
            · rw [hfx] at hQ
              simp only [Bool.false_eq_true, if_false, if_true] at hQ ⊢
              exact hQ S hI frO.rf
            · rw [hfx] at hQ
              simp only [if_false, if_true, show ¬ (1 : Int32) = 0 by decide] at hQ ⊢
              exact hQ S hI frO.rf
          · rw [if_neg c4]; rw [if_neg c4] at hQ
            refine c_isBroken hw hj hI fun S1 i1 q1 f1 => ?_
            have hG1 := cI_G i1 hj
            simp only [pm_tl_some, q63_0, q63_1, q63_2, q63_5, q63_5N, q63_6, q63_6N, q63_7, q63_7N, q63_10, q63_11, q63_14, q63_15, q63_16, q63_19, q63_21, q63_22, q63_23, q63_24, q63_27, q63_27N, q63_28, q63_31, q63_32, q63_33, q63_34, q63_37, q63_37N, q63_38, q63_41, q63_44, q63_45, q63_48, q63_49, q63_50, q63_51, q63_51N, q63_52, q63_55, q63_57, q63_58, q63_59, q63_62, q63_62N, q63_63, q63_66, q63_67, q63_69, q63_72, q63_74, q63_75, q63_76, q63_77, q63_80, q63_80N, q63_81, q63_84, q63_87, q63_90, q63_90N, q63_91, q63_92, q63_95, q63_98, q63_e, hG1.1, q1.1]
            by_cases c5 : wh = 5
            · rw [if_pos c5]; rw [if_pos c5] at hQ; exact hQ S1 i1 f1
            · rw [if_neg c5]; rw [if_neg c5] at hQ
              by_cases c6 : (ct Z j).1 = 0
              · rw [if_pos c6] at hQ
                have hn := cC_n q1 c6
                have hm := cC_m q1 c6
                have hh := (q1.2.2.1 c6).2.2.1
                simp only [c6, if_true, q63_0, q63_1, q63_2, q63_5, q63_5N, q63_6, q63_6N, q63_7, q63_7N, q63_10, q63_11, q63_14, q63_15, q63_16, q63_19, q63_21, q63_22, q63_23, q63_24, q63_27, q63_27N, q63_28, q63_31, q63_32, q63_33, q63_34, q63_37, q63_37N, q63_38, q63_41, q63_44, q63_45, q63_48, q63_49, q63_50, q63_51, q63_51N, q63_52, q63_55, q63_57, q63_58, q63_59, q63_62, q63_62N, q63_63, q63_66, q63_67, q63_69, q63_72, q63_74, q63_75, q63_76, q63_77, q63_80, q63_80N, q63_81, q63_84, q63_87, q63_90, q63_90N, q63_91, q63_92, q63_95, q63_98, q63_e, hG1.1, hG1.2.1, hG1.2.2.1, hG1.2.2.2.1, hG1.2.2.2.2.1, hG1.2.2.2.2.2.1, hG1.2.2.2.2.2.2.2.2.1.1, hG1.2.2.2.2.2.2.2.2.1.2.1, hG1.2.2.2.2.2.2.2.2.1.2.2.1, hG1.2.2.2.2.2.2.2.2.1.2.2.2.1, hG1.2.2.2.2.2.2.2.2.2.1.1, hG1.2.2.2.2.2.2.2.2.2.1.2.1, hG1.2.2.2.2.2.2.2.2.2.1.2.2.1, hG1.2.2.2.2.2.2.2.2.2.1.2.2.2.1, hG1.2.2.2.2.2.2.2.2.2.2.1, hG1.2.2.2.2.2.2.2.2.2.2.2.1, hG1.2.2.2.2.2.2.2.2.2.2.2.2.1, hG1.2.2.2.2.2.2.2.2.2.2.2.2.2.1, pm_rf_some, hh, c_items hG1, pm_tl_some]
                by_cases c7 : wh = 3
                · rw [if_pos c7]; rw [if_pos c7] at hQ; exact hQ S1 i1 f1
                · rw [if_neg c7]; rw [if_neg c7] at hQ
                  by_cases c8 : wh = 0
                  · simp only [c8, if_true, q63_0, q63_1, q63_2, q63_5, q63_5N, q63_6, q63_6N, q63_7, q63_7N, q63_10, q63_11, q63_14, q63_15, q63_16, q63_19, q63_21, q63_22, q63_23, q63_24, q63_27, q63_27N, q63_28, q63_31, q63_32, q63_33, q63_34, q63_37, q63_37N, q63_38, q63_41, q63_44, q63_45, q63_48, q63_49, q63_50, q63_51, q63_51N, q63_52, q63_55, q63_57, q63_58, q63_59, q63_62, q63_62N, q63_63, q63_66, q63_67, q63_69, q63_72, q63_74, q63_75, q63_76, q63_77, q63_80, q63_80N, q63_81, q63_84, q63_87, q63_90, q63_90N, q63_91, q63_92, q63_95, q63_98, q63_e, hG1.1, hG1.2.1, hG1.2.2.1, hG1.2.2.2.1, hG1.2.2.2.2.1, hG1.2.2.2.2.2.1, hG1.2.2.2.2.2.2.2.2.1.1, hG1.2.2.2.2.2.2.2.2.1.2.1, hG1.2.2.2.2.2.2.2.2.1.2.2.1, hG1.2.2.2.2.2.2.2.2.1.2.2.2.1, hG1.2.2.2.2.2.2.2.2.2.1.1, hG1.2.2.2.2.2.2.2.2.2.1.2.1, hG1.2.2.2.2.2.2.2.2.2.1.2.2.1, hG1.2.2.2.2.2.2.2.2.2.1.2.2.2.1, hG1.2.2.2.2.2.2.2.2.2.2.1, hG1.2.2.2.2.2.2.2.2.2.2.2.1, hG1.2.2.2.2.2.2.2.2.2.2.2.2.1, hG1.2.2.2.2.2.2.2.2.2.2.2.2.2.1, pm_rf_some, hn.1] at hQ ⊢
                    exact hQ S1 i1 f1
                  · simp only [c8, if_false, q63_0, q63_1, q63_2, q63_5, q63_5N, q63_6, q63_6N, q63_7, q63_7N, q63_10, q63_11, q63_14, q63_15, q63_16, q63_19, q63_21, q63_22, q63_23, q63_24, q63_27, q63_27N, q63_28, q63_31, q63_32, q63_33, q63_34, q63_37, q63_37N, q63_38, q63_41, q63_44, q63_45, q63_48, q63_49, q63_50, q63_51, q63_51N, q63_52, q63_55, q63_57, q63_58, q63_59, q63_62, q63_62N, q63_63, q63_66, q63_67, q63_69, q63_72, q63_74, q63_75, q63_76, q63_77, q63_80, q63_80N, q63_81, q63_84, q63_87, q63_90, q63_90N, q63_91, q63_92, q63_95, q63_98, q63_e, hG1.1, hG1.2.1, hG1.2.2.1, hG1.2.2.2.1, hG1.2.2.2.2.1, hG1.2.2.2.2.2.1, hG1.2.2.2.2.2.2.2.2.1.1, hG1.2.2.2.2.2.2.2.2.1.2.1, hG1.2.2.2.2.2.2.2.2.1.2.2.1, hG1.2.2.2.2.2.2.2.2.1.2.2.2.1, hG1.2.2.2.2.2.2.2.2.2.1.1, hG1.2.2.2.2.2.2.2.2.2.1.2.1, hG1.2.2.2.2.2.2.2.2.2.1.2.2.1, hG1.2.2.2.2.2.2.2.2.2.1.2.2.2.1, hG1.2.2.2.2.2.2.2.2.2.2.1, hG1.2.2.2.2.2.2.2.2.2.2.2.1, hG1.2.2.2.2.2.2.2.2.2.2.2.2.1, hG1.2.2.2.2.2.2.2.2.2.2.2.2.2.1, pm_rf_some, hm.1] at hQ ⊢
                    exact hQ S1 i1 f1
              · rw [if_neg c6] at hQ
                simp only [c6, if_false, show ¬ (1 : Int32) = 0 by decide, q63_0, q63_1, q63_2, q63_5, q63_5N, q63_6, q63_6N, q63_7, q63_7N, q63_10, q63_11, q63_14, q63_15, q63_16, q63_19, q63_21, q63_22, q63_23, q63_24, q63_27, q63_27N, q63_28, q63_31, q63_32, q63_33, q63_34, q63_37, q63_37N, q63_38, q63_41, q63_44, q63_45, q63_48, q63_49, q63_50, q63_51, q63_51N, q63_52, q63_55, q63_57, q63_58, q63_59, q63_62, q63_62N, q63_63, q63_66, q63_67, q63_69, q63_72, q63_74, q63_75, q63_76, q63_77, q63_80, q63_80N, q63_81, q63_84, q63_87, q63_90, q63_90N, q63_91, q63_92, q63_95, q63_98, q63_e]
                exact hQ S1 i1 f1
      · rw [if_neg c2]; rw [if_neg c2] at hQ; exact hQ S hI frO.rf
end
