/-! ===== reach ===== -/
def rc_1 (C : sp_C) (v : Int64) (e : Nat) : Int64 := if bl v (sp_ar C e).1 = true then v ||| ((1 : Int64) <<< ((nI (sp_ar C e).2.1).toInt64 &&& 63)) else v
/-- one sweep over the arcs -/
def rc_s (C : sp_C) (v : Int64) : Int64 := sp_for (rc_1 C) C.2.2.1.length 0 v
def rc_n (C : sp_C) (v : Int64) : Nat → Int64
  | 0 => v
  | k + 1 => rc_s C (rc_n C v k)
def rc_0 (s : Nat) : Int64 := (1 : Int64) <<< ((nI s).toInt64 &&& 63)
def sp_reach (C : sp_C) (s : Nat) : Nat := sp_cnt (bl (rc_n C (rc_0 s) C.2.1.length)) 64
def op_reach (Z : sp_S) (g s : Int32) : Int32 := match ix g Z.1.length with
  | none => -1000001
  | some j => if (ct Z j).1 = 0 then (match ix s (ct Z j).2.1.length with
    | none => -1000001
    | some k => nI (sp_reach (ct Z j) k)) else -1000003
theorem rc_stay {C : sp_C} {v : Int64} {k : Nat} (h : rc_s C (rc_n C v k) = rc_n C v k) : ∀ n, k ≤ n → rc_n C v n = rc_n C v k := by
  intro n
  induction n with
  | zero => intro hk; have : k = 0 := by omega
            rw [this]
  | succ n ih =>
    intro hk
    by_cases e : k = n + 1
    · rw [e]
    · show rc_s C (rc_n C v n) = _
      rw [ih (by omega), h]
section
variable {d x n k nw M a b L : Nat} {S : pm_T} {Q : Option Value → pm_T → Prop} {Z : sp_S} {g s wc i t : Int32} {C : sp_C}
theorem c_reach_1 {l0 l4 l5 : Value} {l1 : Int32} (hG : sG S a) (hC : cC S a C) (h0 : C.1 = 0) (ho : sp_ok C) : ∀ m k v, k + m = C.2.2.1.length → pm_V d 10 25 [.ref a, .int l1, .long v, pm_j, l4, l5, pm_j, .int (nI k)] [] S Q = pm_V d 10 71 [.ref a, .int l1, .long (sp_for (rc_1 C) m k v), pm_j, l4, l5, pm_j, .int (nI C.2.2.1.length)] [] S Q := by
  have n1 := cC_m hC h0
  have m1 := (cC_n hC h0).2
  intro m
  induction m with
  | zero =>
    intro k v hk
    have : k = C.2.2.1.length := by omega
    subst this
    have e1 : ¬ nI C.2.2.1.length < nI C.2.2.1.length := nI_nlt (Nat.le_refl _) (by omega)
    rw [q10_25]
    simp only [q10_0, q10_1, q10_2, q10_3, q10_4, q10_5, q10_9, q10_10, q10_13, q10_16, q10_19, q10_20, q10_22, q10_23, q10_27, q10_28, q10_31, q10_34, q10_37, q10_38, q10_39, q10_42, q10_44, q10_45, q10_46, q10_47, q10_48, q10_49, q10_50, q10_53, q10_54, q10_55, q10_56, q10_59, q10_61, q10_62, q10_63, q10_64, q10_65, q10_68, q10_72, q10_74, q10_75, q10_78, q10_81, q10_84, q10_87, q10_88, q10_91, q10_e, hG.1, hG.2.1, hG.2.2.1, hG.2.2.2.1, hG.2.2.2.2.1, hG.2.2.2.2.2.1, hG.2.2.2.2.2.2.2.2.1.1, hG.2.2.2.2.2.2.2.2.1.2.1, hG.2.2.2.2.2.2.2.2.1.2.2.1, hG.2.2.2.2.2.2.2.2.1.2.2.2.1, hG.2.2.2.2.2.2.2.2.2.1.1, hG.2.2.2.2.2.2.2.2.2.1.2.1, hG.2.2.2.2.2.2.2.2.2.1.2.2.1, hG.2.2.2.2.2.2.2.2.2.1.2.2.2.1, hG.2.2.2.2.2.2.2.2.2.2.1, hG.2.2.2.2.2.2.2.2.2.2.2.1, hG.2.2.2.2.2.2.2.2.2.2.2.2.1, hG.2.2.2.2.2.2.2.2.2.2.2.2.2.1, pm_rf_some, n1.1, e1, if_false]
    rfl
  | succ m ih =>
    intro k v hk
    have e1 : nI k < nI C.2.2.1.length := nI_lt (by omega) (by omega)
    have hk4 : k < 120 := by omega
    have ka : k < C.2.2.1.length := by omega
    have o1 := ho k ka
    rw [q10_25]
    simp only [q10_0, q10_1, q10_2, q10_3, q10_4, q10_5, q10_9, q10_10, q10_13, q10_16, q10_19, q10_20, q10_22, q10_23, q10_27, q10_28, q10_31, q10_34, q10_37, q10_38, q10_39, q10_42, q10_44, q10_45, q10_46, q10_47, q10_48, q10_49, q10_50, q10_53, q10_54, q10_55, q10_56, q10_59, q10_61, q10_62, q10_63, q10_64, q10_65, q10_68, q10_72, q10_74, q10_75, q10_78, q10_81, q10_84, q10_87, q10_88, q10_91, q10_e, hG.1, hG.2.1, hG.2.2.1, hG.2.2.2.1, hG.2.2.2.2.1, hG.2.2.2.2.2.1, hG.2.2.2.2.2.2.2.2.1.1, hG.2.2.2.2.2.2.2.2.1.2.1, hG.2.2.2.2.2.2.2.2.1.2.2.1, hG.2.2.2.2.2.2.2.2.1.2.2.2.1, hG.2.2.2.2.2.2.2.2.2.1.1, hG.2.2.2.2.2.2.2.2.2.1.2.1, hG.2.2.2.2.2.2.2.2.2.1.2.2.1, hG.2.2.2.2.2.2.2.2.2.1.2.2.2.1, hG.2.2.2.2.2.2.2.2.2.2.1, hG.2.2.2.2.2.2.2.2.2.2.2.1, hG.2.2.2.2.2.2.2.2.2.2.2.2.1, hG.2.2.2.2.2.2.2.2.2.2.2.2.2.1, pm_rf_some, n1.1, e1, if_true, gr9 hG hk4, gr10 hG hk4, gr6 hG hk4, gr7 hG hk4, gr8 hG hk4, nc12 hk4, (cC_ae hC h0 ka).1, (cC_ae hC h0 ka).2.1, bl_read (show (sp_ar C k).1 < 64 by omega), bl_cmp, nI_1]
    rw [sp_for_s]
    by_cases hc : bl v (sp_ar C k).1 = true
    · rw [if_pos hc, ih (k + 1) _ (by omega)]
      unfold rc_1
      rw [if_pos hc]
    · rw [if_neg hc, ih (k + 1) _ (by omega)]
      unfold rc_1
      rw [if_neg hc]
theorem c_reach_2 {v : Int64} {l1 : Int32} (hG : sG S a) (hC : cC S a C) (h0 : C.1 = 0) (ho : sp_ok C) : ∀ m k l5 l6 l7, k + m = C.2.1.length → pm_V (d + 1) 10 7 [.ref a, .int l1, .long (rc_n C v k), pm_j, .int (nI k), l5, l6, l7] [] S Q = Q (some (.int (nI (sp_cnt (bl (rc_n C v C.2.1.length)) 64)))) S := by
  have n1 := cC_m hC h0
  have m1 := cC_n hC h0
  intro m
  induction m with
  | zero =>
    intro k l5 l6 l7 hk
    have : k = C.2.1.length := by omega
    subst this
    have e1 : ¬ nI C.2.1.length < nI C.2.1.length := nI_nlt (Nat.le_refl _) (by omega)
    rw [q10_7]
    simp only [q10_0, q10_1, q10_2, q10_3, q10_4, q10_5, q10_9, q10_10, q10_13, q10_16, q10_19, q10_20, q10_22, q10_23, q10_27, q10_28, q10_31, q10_34, q10_37, q10_38, q10_39, q10_42, q10_44, q10_45, q10_46, q10_47, q10_48, q10_49, q10_50, q10_53, q10_54, q10_55, q10_56, q10_59, q10_61, q10_62, q10_63, q10_64, q10_65, q10_68, q10_71, q10_72, q10_74, q10_75, q10_78, q10_81, q10_84, q10_87, q10_88, q10_91, q10_e, hG.1, hG.2.1, hG.2.2.1, hG.2.2.2.1, hG.2.2.2.2.1, hG.2.2.2.2.2.1, hG.2.2.2.2.2.2.2.2.1.1, hG.2.2.2.2.2.2.2.2.1.2.1, hG.2.2.2.2.2.2.2.2.1.2.2.1, hG.2.2.2.2.2.2.2.2.1.2.2.2.1, hG.2.2.2.2.2.2.2.2.2.1.1, hG.2.2.2.2.2.2.2.2.2.1.2.1, hG.2.2.2.2.2.2.2.2.2.1.2.2.1, hG.2.2.2.2.2.2.2.2.2.1.2.2.2.1, hG.2.2.2.2.2.2.2.2.2.2.1, hG.2.2.2.2.2.2.2.2.2.2.2.1, hG.2.2.2.2.2.2.2.2.2.2.2.2.1, hG.2.2.2.2.2.2.2.2.2.2.2.2.2.1, pm_rf_some, m1.1, e1, if_false, c_bitCount, pm_tl_some]
  | succ m ih =>
    intro k l5 l6 l7 hk
    have e1 : nI k < nI C.2.1.length := nI_lt (by omega) (by omega)
    rw [q10_7]
    simp only [q10_0, q10_1, q10_2, q10_3, q10_4, q10_5, q10_9, q10_10, q10_13, q10_16, q10_19, q10_20, q10_22, q10_23, q10_27, q10_28, q10_31, q10_34, q10_37, q10_38, q10_39, q10_42, q10_44, q10_45, q10_46, q10_47, q10_48, q10_49, q10_50, q10_53, q10_54, q10_55, q10_56, q10_59, q10_61, q10_62, q10_63, q10_64, q10_65, q10_68, q10_72, q10_74, q10_75, q10_78, q10_81, q10_84, q10_87, q10_88, q10_91, q10_e, hG.1, hG.2.1, hG.2.2.1, hG.2.2.2.1, hG.2.2.2.2.1, hG.2.2.2.2.2.1, hG.2.2.2.2.2.2.2.2.1.1, hG.2.2.2.2.2.2.2.2.1.2.1, hG.2.2.2.2.2.2.2.2.1.2.2.1, hG.2.2.2.2.2.2.2.2.1.2.2.2.1, hG.2.2.2.2.2.2.2.2.2.1.1, hG.2.2.2.2.2.2.2.2.2.1.2.1, hG.2.2.2.2.2.2.2.2.2.1.2.2.1, hG.2.2.2.2.2.2.2.2.2.1.2.2.2.1, hG.2.2.2.2.2.2.2.2.2.2.1, hG.2.2.2.2.2.2.2.2.2.2.2.1, hG.2.2.2.2.2.2.2.2.2.2.2.2.1, hG.2.2.2.2.2.2.2.2.2.2.2.2.2.1, pm_rf_some, m1.1, e1, if_true]
    refine (c_reach_1 (l0 := pm_j) hG hC h0 ho C.2.2.1.length 0 (rc_n C v k) (Nat.zero_add _)).trans ?_
    simp only [q10_0, q10_1, q10_2, q10_3, q10_4, q10_5, q10_9, q10_10, q10_13, q10_16, q10_19, q10_20, q10_22, q10_23, q10_27, q10_28, q10_31, q10_34, q10_37, q10_38, q10_39, q10_42, q10_44, q10_45, q10_46, q10_47, q10_48, q10_49, q10_50, q10_53, q10_54, q10_55, q10_56, q10_59, q10_61, q10_62, q10_63, q10_64, q10_65, q10_68, q10_71, q10_72, q10_74, q10_75, q10_78, q10_81, q10_84, q10_87, q10_88, q10_91, q10_e, lg_cmp_eq, c_bitCount, pm_tl_some, nI_1]
    by_cases hc : sp_for (rc_1 C) C.2.2.1.length 0 (rc_n C v k) = rc_n C v k
    · rw [if_pos hc, hc, rc_stay (k := k) hc C.2.1.length (by omega)]
    · rw [if_neg hc]
      exact ih (k + 1) _ _ _ (by omega)
theorem c_countReached {s : Nat} (hG : sG S a) (hC : cC S a C) (h0 : C.1 = 0) (ho : sp_ok C) : pm_N (d + 1) 10 [.ref a, .int (nI s)] S Q = Q (some (.int (nI (sp_reach C s)))) S := by
  simp only [q10_0, q10_1, q10_2, q10_3, q10_4, q10_5, q10_9, q10_10, q10_13, q10_16, q10_19, q10_20, q10_22, q10_23, q10_27, q10_28, q10_31, q10_34, q10_37, q10_38, q10_39, q10_42, q10_44, q10_45, q10_46, q10_47, q10_48, q10_49, q10_50, q10_53, q10_54, q10_55, q10_56, q10_59, q10_61, q10_62, q10_63, q10_64, q10_65, q10_68, q10_71, q10_72, q10_74, q10_75, q10_78, q10_81, q10_84, q10_87, q10_88, q10_91, q10_e]
  exact c_reach_2 (v := rc_0 s) hG hC h0 ho _ 0 _ _ _ (Nat.zero_add _)
set_option maxHeartbeats 4000000 in
theorem c_reach (hw : wf Z) (hI : cI S x Z nw M) (hQ : ∀ S', cI S' x Z nw M → frO (cO x) S S' → Q (some (.int (op_reach Z g s))) S') : pm_N (d + 92) 70 [.ref x, .int g, .int s] S Q := by
  have hl := hw.1
  unfold op_reach at hQ
  simp only [q70_0, q70_1, q70_2, q70_5, q70_5N, q70_6, q70_6N, q70_7, q70_7N, q70_10, q70_12, q70_13, q70_14, q70_14N, q70_15, q70_18, q70_21, q70_23, q70_24, q70_24N, q70_25, q70_28, q70_29, q70_32, q70_35, q70_35N, q70_36, q70_37, q70_40, q70_43, q70_45, q70_e, hI.1.1, c_known hw hI, pm_tl_some]
  cases hk : ix g Z.1.length with
  | none =>
    rw [hk] at hQ
    simp only [Option.map_none, pm_rf_none, q70_0, q70_1, q70_2, q70_5, q70_5N, q70_6, q70_6N, q70_7, q70_7N, q70_10, q70_12, q70_13, q70_14, q70_14N, q70_15, q70_18, q70_21, q70_23, q70_24, q70_24N, q70_25, q70_28, q70_29, q70_32, q70_35, q70_35N, q70_36, q70_37, q70_40, q70_43, q70_45, q70_e]
    exact hQ S hI frO.rf
  | some j =>
    rw [hk] at hQ
    dsimp only at hQ
    obtain ⟨hj, -⟩ := ix_some (by omega) hk
    simp only [Option.map_some, pm_rf_some, q70_0, q70_1, q70_2, q70_5, q70_5N, q70_6, q70_6N, q70_7, q70_7N, q70_10, q70_12, q70_13, q70_14, q70_14N, q70_15, q70_18, q70_21, q70_23, q70_24, q70_24N, q70_25, q70_28, q70_29, q70_32, q70_35, q70_35N, q70_36, q70_37, q70_40, q70_43, q70_45, q70_e, hI.1.1]
    refine c_isBroken hw hj hI fun S1 i1 q1 f1 => ?_
    have hG1 := cI_G i1 hj
    simp only [pm_tl_some, q70_0, q70_1, q70_2, q70_5, q70_5N, q70_6, q70_6N, q70_7, q70_7N, q70_10, q70_12, q70_13, q70_14, q70_14N, q70_15, q70_18, q70_21, q70_23, q70_24, q70_24N, q70_25, q70_28, q70_29, q70_32, q70_35, q70_35N, q70_36, q70_37, q70_40, q70_43, q70_45, q70_e]
    by_cases c6 : (ct Z j).1 = 0
    · rw [if_pos c6] at hQ
      have hn := cC_n q1 c6
      simp only [c6, if_true, q70_0, q70_1, q70_2, q70_5, q70_5N, q70_6, q70_6N, q70_7, q70_7N, q70_10, q70_12, q70_13, q70_14, q70_14N, q70_15, q70_18, q70_21, q70_23, q70_24, q70_24N, q70_25, q70_28, q70_29, q70_32, q70_35, q70_35N, q70_36, q70_37, q70_40, q70_43, q70_45, q70_e, hG1.1, hG1.2.1, hG1.2.2.1, hG1.2.2.2.1, hG1.2.2.2.2.1, hG1.2.2.2.2.2.1, hG1.2.2.2.2.2.2.2.2.1.1, hG1.2.2.2.2.2.2.2.2.1.2.1, hG1.2.2.2.2.2.2.2.2.1.2.2.1, hG1.2.2.2.2.2.2.2.2.1.2.2.2.1, hG1.2.2.2.2.2.2.2.2.2.1.1, hG1.2.2.2.2.2.2.2.2.2.1.2.1, hG1.2.2.2.2.2.2.2.2.2.1.2.2.1, hG1.2.2.2.2.2.2.2.2.2.1.2.2.2.1, hG1.2.2.2.2.2.2.2.2.2.2.1, hG1.2.2.2.2.2.2.2.2.2.2.2.1, hG1.2.2.2.2.2.2.2.2.2.2.2.2.1, hG1.2.2.2.2.2.2.2.2.2.2.2.2.2.1, pm_rf_some, c_hasX hG1.2.2.2.2.2.2.2.2.1.1 hn.1, pm_tl_some]
      cases he : ix s (ct Z j).2.1.length with
      | none =>
        rw [he] at hQ
        simp only [Option.isSome_none, Bool.false_eq_true, if_false, if_true, q70_0, q70_1, q70_2, q70_5, q70_5N, q70_6, q70_6N, q70_7, q70_7N, q70_10, q70_12, q70_13, q70_14, q70_14N, q70_15, q70_18, q70_21, q70_23, q70_24, q70_24N, q70_25, q70_28, q70_29, q70_32, q70_35, q70_35N, q70_36, q70_37, q70_40, q70_43, q70_45, q70_e]
        exact hQ S1 i1 f1
      | some k =>
        rw [he] at hQ
        obtain ⟨hk1, rfl⟩ := ix_some (by omega) he
        simp only [Option.isSome_some, if_true, show ¬ (1 : Int32) = 0 by decide, if_false, q70_0, q70_1, q70_2, q70_5, q70_5N, q70_6, q70_6N, q70_7, q70_7N, q70_10, q70_12, q70_13, q70_14, q70_14N, q70_15, q70_18, q70_21, q70_23, q70_24, q70_24N, q70_25, q70_28, q70_29, q70_32, q70_35, q70_35N, q70_36, q70_37, q70_40, q70_43, q70_45, q70_e, hG1.1, c_countReached hG1 q1 c6 (ct_gd hw _ _ (Nat.lt_succ_self _) hj c6), pm_tl_some]
        exact hQ S1 i1 f1
    · rw [if_neg c6] at hQ
      simp only [c6, if_false, show ¬ (1 : Int32) = 0 by decide, q70_0, q70_1, q70_2, q70_5, q70_5N, q70_6, q70_6N, q70_7, q70_7N, q70_10, q70_12, q70_13, q70_14, q70_14N, q70_15, q70_18, q70_21, q70_23, q70_24, q70_24N, q70_25, q70_28, q70_29, q70_32, q70_35, q70_35N, q70_36, q70_37, q70_40, q70_43, q70_45, q70_e]
      exact hQ S1 i1 f1
end
