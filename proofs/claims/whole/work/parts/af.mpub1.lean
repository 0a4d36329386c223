/-! ===== THE REFERENCE: calls that change nothing ===== -/
def mF (m : Nat) (S S' : pm_T) : Prop := frO (mO m) S S' ∧ pm_nx S' = pm_nx S ∧ pm_sz S' = pm_sz S
theorem mF.rf {m : Nat} {S : pm_T} : mF m S S := ⟨frO.rf, rfl, rfl⟩
theorem mF.tr {m : Nat} {S S' S'' : pm_T} (h : mF m S S') (h' : mF m S' S'') : mF m S S'' := ⟨h.1.tr h'.1, h'.2.1.trans h.2.1, h'.2.2.trans h.2.2⟩
theorem mF.I {m : Nat} {P : Nat → Nat → Prop} {S S' : pm_T} (h : frI P S S') (hP : ∀ b k, P b k → mO m b) : mF m S S' := ⟨h.O hP, h.1, h.2.1⟩
theorem hid_q : ∀ a, a < 2 → ∀ b, b < 120 → nI (1000 * a + b) / 1000 = nI a ∧ nI (1000 * a + b) - nI (1000 * a + b) / 1000 * 1000 = nI b := by decide +kernel
section
variable {S S' : pm_T} {m a n k d j L : Nat} {C : sp_C} {u : Prop} {Z : sp_S} {Q : Option Value → pm_T → Prop} {g wh e wc i t x : Int32}
theorem in_ix (hL : L < 2 ^ 30) : (0 ≤ g ∧ g ≤ nI L - 1) = ((ix g L).isSome = true) := by
  refine propext ((sp_in hL).trans ⟨?_, fun h => ?_⟩)
  · rintro ⟨j, hj, rfl⟩
    rw [ix_nI hL hj]; rfl
  · obtain ⟨j, hj⟩ := Option.isSome_iff_exists.mp h
    obtain ⟨h1, h2⟩ := ix_some hL hj
    exact ⟨j, h1, h2⟩
theorem in01 : (0 ≤ x ∧ x ≤ 1) = (x = 0 ∨ x = 1) := by
  refine propext ⟨fun h => ?_, fun h => by rcases h with rfl | rfl <;> decide⟩
  obtain ⟨k, hk, rfl⟩ := nI_of (k2_nlt h.1)
  have := (nI_le' (b := 1) hk (by decide)) ▸ h.2
  have : k = 0 ∨ k = 1 := by have : k ≤ 1 := this; omega
  rcases this with rfl | rfl
  · exact Or.inl rfl
  · exact Or.inr rfl
theorem m_isG (hw : wf Z) (hL : mL S m Z) : pm_N (d + 1) 88 [.ref m, .int g] S Q = Q (some (.int (if (ix g Z.1.length).isSome = true then 1 else 0))) S := by
  have := hw.1
  rw [m_isGraph hL.1, hL.2.1]
  simp only [in_ix (g := g) (show Z.1.length < 2 ^ 30 by omega)]
theorem m_isTs (hw : wf Z) (hL : mL S m Z) : pm_N (d + 1) 91 [.ref m, .int g] S Q = Q (some (.int (if (ix g Z.2.2.length).isSome = true then 1 else 0))) S := by
  have := hw.2.1.1
  rw [m_isTest hL.1, hL.2.2.1]
  simp only [in_ix (g := g) (show Z.2.2.length < 2 ^ 30 by omega)]
/-- the kind of g, if there is such a graph -/
def kd (Z : sp_S) (g : Int32) : Option Nat := (ix g Z.1.length).map (fun j => (gg Z.1 j).1)
theorem m_isB (hw : wf Z) (hL : mL S m Z) : pm_N (d + 2) 89 [.ref m, .int g] S Q = Q (some (.int (match ix g Z.1.length with
    | none => 0
    | some j => if (gg Z.1 j).1 = 0 then 1 else 0))) S := by
  have h24 := hw.1
  have hM := hL.1
  simp only [q89_0, q89_1, q89_2, q89_5, q89_8, q89_9, q89_12, q89_13, q89_14, q89_17, q89_18, q89_21, q89_22, q89_e, sM_0 hM, m_isG hw hL, pm_tl_some, or_true, true_or]
  cases hk : ix g Z.1.length with
  | none => simp
  | some j =>
    obtain ⟨hj, rfl⟩ := ix_some (by omega) hk
    have hj24 : j < 24 := by omega
    have hk7 := (hw.2.2.2 j hj).1
    have e0 : (nI (gg Z.1 j).1 = 0) = ((gg Z.1 j).1 = 0) := nI_e' (b := 0) (by omega) (by decide)
    simp only [Option.isSome_some, if_true, show ¬ (1 : Int32) = 0 by decide, if_false, q89_0, q89_1, q89_2, q89_5, q89_8, q89_9, q89_12, q89_13, q89_14, q89_17, q89_18, q89_21, q89_22, q89_e, sM_0 hM, sM_r1 hM, pm_rf_some, ar1 hM hj24, nc24 hj24, (hL.2.2.2.2.2 j hj).1.1, e0, or_true, true_or]
    split <;> rfl
theorem m_isV (hw : wf Z) (hL : mL S m Z) : pm_N (d + 2) 90 [.ref m, .int g] S Q = Q (some (.int (match ix g Z.1.length with
    | none => 0
    | some j => if (gg Z.1 j).1 = 0 then 0 else 1))) S := by
  have h24 := hw.1
  have hM := hL.1
  simp only [q90_0, q90_1, q90_2, q90_5, q90_8, q90_9, q90_12, q90_13, q90_14, q90_17, q90_18, q90_21, q90_22, q90_e, sM_0 hM, m_isG hw hL, pm_tl_some, or_true, true_or]
  cases hk : ix g Z.1.length with
  | none => simp
  | some j =>
    obtain ⟨hj, rfl⟩ := ix_some (by omega) hk
    have hj24 : j < 24 := by omega
    have hk7 := (hw.2.2.2 j hj).1
    have e0 := nI_le0 (show (gg Z.1 j).1 < 2 ^ 31 by omega)
    simp only [Option.isSome_some, if_true, show ¬ (1 : Int32) = 0 by decide, if_false, q90_0, q90_1, q90_2, q90_5, q90_8, q90_9, q90_12, q90_13, q90_14, q90_17, q90_18, q90_21, q90_22, q90_e, sM_0 hM, sM_r1 hM, pm_rf_some, ar1 hM hj24, nc24 hj24, (hL.2.2.2.2.2 j hj).1.1, e0, or_true, true_or]
    split <;> rfl
theorem mC_7 (h : mC S m u j C) : (pm_zi S (m + 7) j = 0) = (C.1 = 0) := by rw [h.1]; exact nI_e' (b := 0) (by have := h.2.1; omega) (by decide)
theorem m_itemsOf (hM : sM S m) (hj : j < 24) (hR : mR S m j C) (hw : wh = 0 ∨ wh = 1) : pm_N d 131 [.ref m, .int (nI j), .int wh] S Q = Q (some (.int (nI (sp_len C wh.toNatClampNeg)))) S := by
  rcases hw with rfl | rfl
  · simp only [q131_0, q131_1, q131_4, q131_5, q131_8, q131_9, q131_10, q131_13, q131_14, q131_17, q131_18, q131_19, q131_e, sM_0 hM, sM_r8 hM, pm_rf_some, ar8 hM hj, nc24 hj, if_true, hR.1]; rfl
  · simp only [q131_0, q131_1, q131_4, q131_5, q131_8, q131_9, q131_10, q131_13, q131_14, q131_17, q131_18, q131_19, q131_e, sM_0 hM, sM_r9 hM, pm_rf_some, ar9 hM hj, nc24 hj, show ¬ (1 : Int32) = 0 by decide, if_false, hR.2.2.1]; rfl
theorem sp_len_le {w : Nat} (hR : mR S m j C) : sp_len C w ≤ 120 := by
  have := hR.2.1
  have := hR.2.2.2.1
  unfold sp_len; split <;> omega
set_option maxHeartbeats 2000000 in
theorem m_told (hw : wf Z) (hI : mI S m Z) (hQ : ∀ S', mI S' m Z → mF m S S' → Q (some (.int (op_told Z g wh))) S') : pm_N (d + 9) 129 [.ref m, .int g, .int wh] S Q := by
  have h24 := hw.1
  have hM := hI.1.1
  unfold op_told at hQ
  simp only [q129_0, q129_1, q129_2, q129_5, q129_8, q129_9, q129_10, q129_11, q129_14, q129_17, q129_19, q129_20, q129_21, q129_24, q129_25, q129_28, q129_29, q129_30, q129_33, q129_34, q129_35, q129_38, q129_39, q129_40, q129_43, q129_46, q129_47, q129_48, q129_84, q129_85, q129_88, q129_89, q129_90, q129_91, q129_92, q129_95, q129_96, q129_97, q129_98, q129_99, q129_102, q129_103, q129_104, q129_105, q129_106, q129_109, q129_110, q129_111, q129_112, q129_113, q129_116, q129_117, q129_118, q129_121, q129_122, q129_125, q129_126, q129_127, q129_128, q129_131, q129_132, q129_133, q129_e, sM_0 hM, m_isG hw hI.1, pm_tl_some, m_in, pm_z1]
  cases hk : ix g Z.1.length with
  | none =>
    rw [hk] at hQ
    simp only [Option.isSome_none, Bool.false_eq_true, not_false_eq_true, if_true]
    exact hQ S hI mF.rf
  | some j =>
    rw [hk] at hQ
    dsimp only at hQ
    obtain ⟨hj, rfl⟩ := ix_some (by omega) hk
    have hj24 : j < 24 := by omega
    simp only [Option.isSome_some, not_true_eq_false, if_false]
    by_cases c1 : wh < 0
    · rw [if_pos (fun h => absurd c1 (k2_nlt h.1))]; rw [if_pos c1] at hQ; exact hQ S hI mF.rf
    · rw [if_neg c1] at hQ
      by_cases c2 : wh ≤ 5
      · rw [if_neg (fun h => h ⟨k2_le c1, c2⟩)]; rw [if_pos c2] at hQ
        refine m_reckon (d := d) hw hI fun S1 i1 hA f1 n1 z1 => ?_
        have hR1 := hQ S1 i1 ⟨f1, n1, z1⟩
        have hM1 := i1.1.1
        have hC := hA j hj
        have z7 := mC_7 hC
        have hG := (i1.1.2.2.2.2.2 j hj).1
        simp only [pm_tl_none, q129_0, q129_1, q129_2, q129_5, q129_8, q129_9, q129_10, q129_11, q129_14, q129_17, q129_19, q129_20, q129_21, q129_24, q129_25, q129_28, q129_29, q129_30, q129_33, q129_34, q129_35, q129_38, q129_39, q129_40, q129_43, q129_46, q129_47, q129_48, q129_84, q129_85, q129_88, q129_89, q129_90, q129_91, q129_92, q129_95, q129_96, q129_97, q129_98, q129_99, q129_102, q129_103, q129_104, q129_105, q129_106, q129_109, q129_110, q129_111, q129_112, q129_113, q129_116, q129_117, q129_118, q129_121, q129_122, q129_125, q129_126, q129_127, q129_128, q129_131, q129_132, q129_133, q129_e, sM_0 hM1, sM_r7 hM1, pm_rf_some, ar7 hM1 hj24, nc24 hj24, z7]
        obtain ⟨w, hw2, rfl⟩ := nI_of c1
        have hw5 : w ≤ 5 := by have := (nI_le' (b := 5) hw2 (by decide)) ▸ c2; exact this
        have wc : w = 0 ∨ w = 1 ∨ w = 2 ∨ w = 3 ∨ w = 4 ∨ w = 5 := by omega
        by_cases c6 : (ct Z j).1 = 0
        · have hc6 := hC.2.2 c6
          simp only [c6, if_true] at hR1 ⊢
          rcases wc with rfl | rfl | rfl | rfl | rfl | rfl
          · simp only [show pm_tsw (nI 0) 0 [84, 91, 98, 105, 112] 127 = 84 by decide, q129_0, q129_1, q129_2, q129_5, q129_8, q129_9, q129_10, q129_11, q129_14, q129_17, q129_19, q129_20, q129_21, q129_24, q129_25, q129_28, q129_29, q129_30, q129_33, q129_34, q129_35, q129_38, q129_39, q129_40, q129_43, q129_46, q129_47, q129_48, q129_84, q129_85, q129_88, q129_89, q129_90, q129_91, q129_92, q129_95, q129_96, q129_97, q129_98, q129_99, q129_102, q129_103, q129_104, q129_105, q129_106, q129_109, q129_110, q129_111, q129_112, q129_113, q129_116, q129_117, q129_118, q129_121, q129_122, q129_125, q129_126, q129_127, q129_128, q129_131, q129_132, q129_133, q129_e, sM_0 hM1, sM_r8 hM1, pm_rf_some, ar8 hM1 hj24, nc24 hj24, hc6.1.1]
            simpa [show nI 0 = 0 from rfl, show nI 1 = 1 from rfl, show nI 2 = 2 from rfl, show nI 3 = 3 from rfl, show nI 4 = 4 from rfl, show nI 5 = 5 from rfl] using hR1
          · simp only [show pm_tsw (nI 1) 0 [84, 91, 98, 105, 112] 127 = 91 by decide, q129_0, q129_1, q129_2, q129_5, q129_8, q129_9, q129_10, q129_11, q129_14, q129_17, q129_19, q129_20, q129_21, q129_24, q129_25, q129_28, q129_29, q129_30, q129_33, q129_34, q129_35, q129_38, q129_39, q129_40, q129_43, q129_46, q129_47, q129_48, q129_84, q129_85, q129_88, q129_89, q129_90, q129_91, q129_92, q129_95, q129_96, q129_97, q129_98, q129_99, q129_102, q129_103, q129_104, q129_105, q129_106, q129_109, q129_110, q129_111, q129_112, q129_113, q129_116, q129_117, q129_118, q129_121, q129_122, q129_125, q129_126, q129_127, q129_128, q129_131, q129_132, q129_133, q129_e, sM_0 hM1, sM_r9 hM1, pm_rf_some, ar9 hM1 hj24, nc24 hj24, hc6.1.2.2.1]
            simpa [show nI 0 = 0 from rfl, show nI 1 = 1 from rfl, show nI 2 = 2 from rfl, show nI 3 = 3 from rfl, show nI 4 = 4 from rfl, show nI 5 = 5 from rfl] using hR1
          · simp only [show pm_tsw (nI 2) 0 [84, 91, 98, 105, 112] 127 = 98 by decide, q129_0, q129_1, q129_2, q129_5, q129_8, q129_9, q129_10, q129_11, q129_14, q129_17, q129_19, q129_20, q129_21, q129_24, q129_25, q129_28, q129_29, q129_30, q129_33, q129_34, q129_35, q129_38, q129_39, q129_40, q129_43, q129_46, q129_47, q129_48, q129_84, q129_85, q129_88, q129_89, q129_90, q129_91, q129_92, q129_95, q129_96, q129_97, q129_98, q129_99, q129_102, q129_103, q129_104, q129_105, q129_106, q129_109, q129_110, q129_111, q129_112, q129_113, q129_116, q129_117, q129_118, q129_121, q129_122, q129_125, q129_126, q129_127, q129_128, q129_131, q129_132, q129_133, q129_e, sM_0 hM1, sM_r1 hM1, pm_rf_some, ar1 hM1 hj24, nc24 hj24, hG.1]
            simpa [show nI 0 = 0 from rfl, show nI 1 = 1 from rfl, show nI 2 = 2 from rfl, show nI 3 = 3 from rfl, show nI 4 = 4 from rfl, show nI 5 = 5 from rfl] using hR1
          · simp only [show pm_tsw (nI 3) 0 [84, 91, 98, 105, 112] 127 = 105 by decide, q129_0, q129_1, q129_2, q129_5, q129_8, q129_9, q129_10, q129_11, q129_14, q129_17, q129_19, q129_20, q129_21, q129_24, q129_25, q129_28, q129_29, q129_30, q129_33, q129_34, q129_35, q129_38, q129_39, q129_40, q129_43, q129_46, q129_47, q129_48, q129_84, q129_85, q129_88, q129_89, q129_90, q129_91, q129_92, q129_95, q129_96, q129_97, q129_98, q129_99, q129_102, q129_103, q129_104, q129_105, q129_106, q129_109, q129_110, q129_111, q129_112, q129_113, q129_116, q129_117, q129_118, q129_121, q129_122, q129_125, q129_126, q129_127, q129_128, q129_131, q129_132, q129_133, q129_e, sM_0 hM1, sM_r18 hM1, pm_rf_some, ar18 hM1 hj24, nc24 hj24, hc6.2.1.1]
            simpa [show nI 0 = 0 from rfl, show nI 1 = 1 from rfl, show nI 2 = 2 from rfl, show nI 3 = 3 from rfl, show nI 4 = 4 from rfl, show nI 5 = 5 from rfl] using hR1
          · simp only [show pm_tsw (nI 4) 0 [84, 91, 98, 105, 112] 127 = 112 by decide, q129_0, q129_1, q129_2, q129_5, q129_8, q129_9, q129_10, q129_11, q129_14, q129_17, q129_19, q129_20, q129_21, q129_24, q129_25, q129_28, q129_29, q129_30, q129_33, q129_34, q129_35, q129_38, q129_39, q129_40, q129_43, q129_46, q129_47, q129_48, q129_84, q129_85, q129_88, q129_89, q129_90, q129_91, q129_92, q129_95, q129_96, q129_97, q129_98, q129_99, q129_102, q129_103, q129_104, q129_105, q129_106, q129_109, q129_110, q129_111, q129_112, q129_113, q129_116, q129_117, q129_118, q129_121, q129_122, q129_125, q129_126, q129_127, q129_128, q129_131, q129_132, q129_133, q129_e, sM_0 hM1, sM_r6 hM1, pm_rf_some, ar6 hM1 hj24, nc24 hj24, hG.2.2]
            cases hfx : (gg Z.1 j).2.2.2.2.1 <;> (rw [hfx] at hR1; simpa [show nI 0 = 0 from rfl, show nI 1 = 1 from rfl, show nI 2 = 2 from rfl, show nI 3 = 3 from rfl, show nI 4 = 4 from rfl, show nI 5 = 5 from rfl] using hR1)
          · simp only [show pm_tsw (nI 5) 0 [84, 91, 98, 105, 112] 127 = 127 by decide, q129_0, q129_1, q129_2, q129_5, q129_8, q129_9, q129_10, q129_11, q129_14, q129_17, q129_19, q129_20, q129_21, q129_24, q129_25, q129_28, q129_29, q129_30, q129_33, q129_34, q129_35, q129_38, q129_39, q129_40, q129_43, q129_46, q129_47, q129_48, q129_84, q129_85, q129_88, q129_89, q129_90, q129_91, q129_92, q129_95, q129_96, q129_97, q129_98, q129_99, q129_102, q129_103, q129_104, q129_105, q129_106, q129_109, q129_110, q129_111, q129_112, q129_113, q129_116, q129_117, q129_118, q129_121, q129_122, q129_125, q129_126, q129_127, q129_128, q129_131, q129_132, q129_133, q129_e, sM_0 hM1, sM_r7 hM1, pm_rf_some, ar7 hM1 hj24, nc24 hj24, hC.1, c6]
            simpa [show nI 0 = 0 from rfl, show nI 1 = 1 from rfl, show nI 2 = 2 from rfl, show nI 3 = 3 from rfl, show nI 4 = 4 from rfl, show nI 5 = 5 from rfl] using hR1
        · simp only [c6, if_false] at hR1 ⊢
          rcases wc with rfl | rfl | rfl | rfl | rfl | rfl
          · simp only [show nI 0 < 2 by decide, if_true]
            simpa [show nI 0 = 0 from rfl, show nI 1 = 1 from rfl, show nI 2 = 2 from rfl, show nI 3 = 3 from rfl, show nI 4 = 4 from rfl, show nI 5 = 5 from rfl] using hR1
          · simp only [show nI 1 < 2 by decide, if_true]
            simpa [show nI 0 = 0 from rfl, show nI 1 = 1 from rfl, show nI 2 = 2 from rfl, show nI 3 = 3 from rfl, show nI 4 = 4 from rfl, show nI 5 = 5 from rfl] using hR1
          · simp only [show ¬ nI 2 < 2 by decide, show ¬ nI 2 = 3 by decide, if_false, show pm_tsw (nI 2) 0 [84, 91, 98, 105, 112] 127 = 98 by decide, q129_0, q129_1, q129_2, q129_5, q129_8, q129_9, q129_10, q129_11, q129_14, q129_17, q129_19, q129_20, q129_21, q129_24, q129_25, q129_28, q129_29, q129_30, q129_33, q129_34, q129_35, q129_38, q129_39, q129_40, q129_43, q129_46, q129_47, q129_48, q129_84, q129_85, q129_88, q129_89, q129_90, q129_91, q129_92, q129_95, q129_96, q129_97, q129_98, q129_99, q129_102, q129_103, q129_104, q129_105, q129_106, q129_109, q129_110, q129_111, q129_112, q129_113, q129_116, q129_117, q129_118, q129_121, q129_122, q129_125, q129_126, q129_127, q129_128, q129_131, q129_132, q129_133, q129_e, sM_0 hM1, sM_r1 hM1, pm_rf_some, ar1 hM1 hj24, nc24 hj24, hG.1]
            simpa [show nI 0 = 0 from rfl, show nI 1 = 1 from rfl, show nI 2 = 2 from rfl, show nI 3 = 3 from rfl, show nI 4 = 4 from rfl, show nI 5 = 5 from rfl] using hR1
          · simp only [show ¬ nI 3 < 2 by decide, if_false, show nI 3 = 3 by decide, if_true, show ¬ (3 : Int32) < 2 by decide]
            simpa [show nI 0 = 0 from rfl, show nI 1 = 1 from rfl, show nI 2 = 2 from rfl, show nI 3 = 3 from rfl, show nI 4 = 4 from rfl, show nI 5 = 5 from rfl] using hR1
          · simp only [show ¬ nI 4 < 2 by decide, show ¬ nI 4 = 3 by decide, if_false, show pm_tsw (nI 4) 0 [84, 91, 98, 105, 112] 127 = 112 by decide, q129_0, q129_1, q129_2, q129_5, q129_8, q129_9, q129_10, q129_11, q129_14, q129_17, q129_19, q129_20, q129_21, q129_24, q129_25, q129_28, q129_29, q129_30, q129_33, q129_34, q129_35, q129_38, q129_39, q129_40, q129_43, q129_46, q129_47, q129_48, q129_84, q129_85, q129_88, q129_89, q129_90, q129_91, q129_92, q129_95, q129_96, q129_97, q129_98, q129_99, q129_102, q129_103, q129_104, q129_105, q129_106, q129_109, q129_110, q129_111, q129_112, q129_113, q129_116, q129_117, q129_118, q129_121, q129_122, q129_125, q129_126, q129_127, q129_128, q129_131, q129_132, q129_133, q129_e, sM_0 hM1, sM_r6 hM1, pm_rf_some, ar6 hM1 hj24, nc24 hj24, hG.2.2]
            cases hfx : (gg Z.1 j).2.2.2.2.1 <;> (rw [hfx] at hR1; simpa [show nI 0 = 0 from rfl, show nI 1 = 1 from rfl, show nI 2 = 2 from rfl, show nI 3 = 3 from rfl, show nI 4 = 4 from rfl, show nI 5 = 5 from rfl] using hR1)
          · simp only [show ¬ nI 5 < 2 by decide, show ¬ nI 5 = 3 by decide, if_false, show pm_tsw (nI 5) 0 [84, 91, 98, 105, 112] 127 = 127 by decide, q129_0, q129_1, q129_2, q129_5, q129_8, q129_9, q129_10, q129_11, q129_14, q129_17, q129_19, q129_20, q129_21, q129_24, q129_25, q129_28, q129_29, q129_30, q129_33, q129_34, q129_35, q129_38, q129_39, q129_40, q129_43, q129_46, q129_47, q129_48, q129_84, q129_85, q129_88, q129_89, q129_90, q129_91, q129_92, q129_95, q129_96, q129_97, q129_98, q129_99, q129_102, q129_103, q129_104, q129_105, q129_106, q129_109, q129_110, q129_111, q129_112, q129_113, q129_116, q129_117, q129_118, q129_121, q129_122, q129_125, q129_126, q129_127, q129_128, q129_131, q129_132, q129_133, q129_e, sM_0 hM1, sM_r7 hM1, pm_rf_some, ar7 hM1 hj24, nc24 hj24, hC.1]
            simpa [show nI 0 = 0 from rfl, show nI 1 = 1 from rfl, show nI 2 = 2 from rfl, show nI 3 = 3 from rfl, show nI 4 = 4 from rfl, show nI 5 = 5 from rfl] using hR1
      · rw [if_pos (fun h => c2 h.2)]; rw [if_neg c2] at hQ; exact hQ S hI mF.rf
set_option maxHeartbeats 2000000 in
theorem m_end (hw : wf Z) (hI : mI S m Z) (hQ : ∀ S', mI S' m Z → mF m S S' → Q (some (.int (op_end Z g e wc))) S') : pm_N (d + 9) 130 [.ref m, .int g, .int e, .int wc] S Q := by
  have h24 := hw.1
  have hM := hI.1.1
  unfold op_end at hQ
  simp only [q130_0, q130_1, q130_2, q130_5, q130_8, q130_9, q130_10, q130_11, q130_14, q130_17, q130_19, q130_20, q130_21, q130_24, q130_25, q130_28, q130_29, q130_30, q130_33, q130_36, q130_37, q130_38, q130_39, q130_40, q130_43, q130_44, q130_45, q130_46, q130_47, q130_50, q130_53, q130_55, q130_58, q130_59, q130_62, q130_63, q130_64, q130_65, q130_68, q130_71, q130_72, q130_73, q130_74, q130_77, q130_e, sM_0 hM, m_isG hw hI.1, pm_tl_some, m_in, pm_z1, in01]
  cases hk : ix g Z.1.length with
  | none =>
    rw [hk] at hQ
    simp only [Option.isSome_none, Bool.false_eq_true, not_false_eq_true, if_true]
    exact hQ S hI mF.rf
  | some j =>
    rw [hk] at hQ
    dsimp only at hQ
    obtain ⟨hj, rfl⟩ := ix_some (by omega) hk
    have hj24 : j < 24 := by omega
    simp only [Option.isSome_some, not_true_eq_false, if_false]
    by_cases c1 : wc = 0 ∨ wc = 1
    · rw [if_neg (fun h => h c1)]; rw [if_pos c1] at hQ
      refine m_reckon (d := d) hw hI fun S1 i1 hA f1 n1 z1 => ?_
      have hR1 := hQ S1 i1 ⟨f1, n1, z1⟩
      have hM1 := i1.1.1
      have hC := hA j hj
      have z7 := mC_7 hC
      simp only [pm_tl_none, q130_0, q130_1, q130_2, q130_5, q130_8, q130_9, q130_10, q130_11, q130_14, q130_17, q130_19, q130_20, q130_21, q130_24, q130_25, q130_28, q130_29, q130_30, q130_33, q130_36, q130_37, q130_38, q130_39, q130_40, q130_43, q130_44, q130_45, q130_46, q130_47, q130_50, q130_53, q130_55, q130_58, q130_59, q130_62, q130_63, q130_64, q130_65, q130_68, q130_71, q130_72, q130_73, q130_74, q130_77, q130_e, sM_0 hM1, sM_r7 hM1, pm_rf_some, ar7 hM1 hj24, nc24 hj24, z7]
      by_cases c6 : (ct Z j).1 = 0
      · rw [if_pos c6]; rw [if_pos c6] at hR1
        obtain ⟨r1, r2, r3⟩ := hC.2.2 c6
        have r4 := r1.2.2.2.1
        simp only [q130_0, q130_1, q130_2, q130_5, q130_8, q130_9, q130_10, q130_11, q130_14, q130_17, q130_19, q130_20, q130_21, q130_24, q130_25, q130_28, q130_29, q130_30, q130_33, q130_36, q130_37, q130_38, q130_39, q130_40, q130_43, q130_44, q130_45, q130_46, q130_47, q130_50, q130_53, q130_55, q130_58, q130_59, q130_62, q130_63, q130_64, q130_65, q130_68, q130_71, q130_72, q130_73, q130_74, q130_77, q130_e, sM_0 hM1, sM_r9 hM1, pm_rf_some, ar9 hM1 hj24, nc24 hj24, r1.2.2.1, m_in, in_ix (g := e) (show (ct Z j).2.2.1.length < 2 ^ 30 by omega), pm_tl_some, pm_z1]
        cases he : ix e (ct Z j).2.2.1.length with
        | none =>
          rw [he] at hR1
          simp only [Option.isSome_none, Bool.false_eq_true, not_false_eq_true, if_true]
          exact hR1
        | some k =>
          rw [he] at hR1
          dsimp only at hR1
          obtain ⟨hk1, rfl⟩ := ix_some (by omega) he
          simp only [Option.isSome_some, not_true_eq_false, if_false, mr_from hM1 r1 hj24 hk1, mr_to hM1 r1 hj24 hk1, pm_tl_some, q130_0, q130_1, q130_2, q130_5, q130_8, q130_9, q130_10, q130_11, q130_14, q130_17, q130_19, q130_20, q130_21, q130_24, q130_25, q130_28, q130_29, q130_30, q130_33, q130_36, q130_37, q130_38, q130_39, q130_40, q130_43, q130_44, q130_45, q130_46, q130_47, q130_50, q130_53, q130_55, q130_58, q130_59, q130_62, q130_63, q130_64, q130_65, q130_68, q130_71, q130_72, q130_73, q130_74, q130_77, q130_e]
          by_cases c7 : wc = 0
          · rw [if_pos c7]; rw [if_pos c7] at hR1; exact hR1
          · rw [if_neg c7]; rw [if_neg c7] at hR1; exact hR1
      · rw [if_neg c6]; rw [if_neg c6] at hR1; exact hR1
    · rw [if_pos c1]; rw [if_neg c1] at hQ; exact hQ S hI mF.rf
set_option maxHeartbeats 2000000 in
theorem m_value (hw : wf Z) (hI : mI S m Z) (hQ : ∀ S', mI S' m Z → mF m S S' → Q (some (.long (op_value Z g wh i))) S') : pm_N (d + 9) 132 [.ref m, .int g, .int wh, .int i] S Q := by
  have h24 := hw.1
  have hM := hI.1.1
  unfold op_value at hQ
  simp only [q132_0, q132_1, q132_2, q132_5, q132_8, q132_9, q132_10, q132_11, q132_14, q132_17, q132_20, q132_21, q132_22, q132_25, q132_26, q132_29, q132_30, q132_31, q132_34, q132_37, q132_38, q132_39, q132_40, q132_41, q132_42, q132_43, q132_46, q132_47, q132_48, q132_51, q132_54, q132_57, q132_60, q132_61, q132_64, q132_65, q132_66, q132_67, q132_70, q132_73, q132_74, q132_75, q132_76, q132_79, q132_e, sM_0 hM, m_isG hw hI.1, pm_tl_some, m_in, pm_z1, in01]
  cases hk : ix g Z.1.length with
  | none =>
    rw [hk] at hQ
    simp only [Option.isSome_none, Bool.false_eq_true, not_false_eq_true, if_true]
    exact hQ S hI mF.rf
  | some j =>
    rw [hk] at hQ
    dsimp only at hQ
    obtain ⟨hj, rfl⟩ := ix_some (by omega) hk
    have hj24 : j < 24 := by omega
    simp only [Option.isSome_some, not_true_eq_false, if_false]
    by_cases c1 : wh = 0 ∨ wh = 1
    · rw [if_neg (fun h => h c1)]; rw [if_pos c1] at hQ
      refine m_reckon (d := d) hw hI fun S1 i1 hA f1 n1 z1 => ?_
      have hR1 := hQ S1 i1 ⟨f1, n1, z1⟩
      have hM1 := i1.1.1
      have hC := hA j hj
      have z7 := mC_7 hC
      simp only [pm_tl_none, q132_0, q132_1, q132_2, q132_5, q132_8, q132_9, q132_10, q132_11, q132_14, q132_17, q132_20, q132_21, q132_22, q132_25, q132_26, q132_29, q132_30, q132_31, q132_34, q132_37, q132_38, q132_39, q132_40, q132_41, q132_42, q132_43, q132_46, q132_47, q132_48, q132_51, q132_54, q132_57, q132_60, q132_61, q132_64, q132_65, q132_66, q132_67, q132_70, q132_73, q132_74, q132_75, q132_76, q132_79, q132_e, sM_0 hM1, sM_r7 hM1, pm_rf_some, ar7 hM1 hj24, nc24 hj24, z7]
      by_cases c6 : (ct Z j).1 = 0
      · rw [if_pos c6]; rw [if_pos c6] at hR1
        obtain ⟨r1, r2, r3⟩ := hC.2.2 c6
        have r4 := sp_len_le (w := wh.toNatClampNeg) r1
        simp only [q132_0, q132_1, q132_2, q132_5, q132_8, q132_9, q132_10, q132_11, q132_14, q132_17, q132_20, q132_21, q132_22, q132_25, q132_26, q132_29, q132_30, q132_31, q132_34, q132_37, q132_38, q132_39, q132_40, q132_41, q132_42, q132_43, q132_46, q132_47, q132_48, q132_51, q132_54, q132_57, q132_60, q132_61, q132_64, q132_65, q132_66, q132_67, q132_70, q132_73, q132_74, q132_75, q132_76, q132_79, q132_e, sM_0 hM1, m_itemsOf hM1 hj24 r1 c1, pm_tl_some, m_in, in_ix (g := i) (show sp_len (ct Z j) wh.toNatClampNeg < 2 ^ 30 by omega), pm_z1]
        cases he : ix i (sp_len (ct Z j) wh.toNatClampNeg) with
        | none =>
          rw [he] at hR1
          simp only [Option.isSome_none, Bool.false_eq_true, not_false_eq_true, if_true]
          exact hR1
        | some k =>
          rw [he] at hR1
          dsimp only at hR1
          obtain ⟨hk1, rfl⟩ := ix_some (by omega) he
          simp only [Option.isSome_some, not_true_eq_false, if_false, q132_0, q132_1, q132_2, q132_5, q132_8, q132_9, q132_10, q132_11, q132_14, q132_17, q132_20, q132_21, q132_22, q132_25, q132_26, q132_29, q132_30, q132_31, q132_34, q132_37, q132_38, q132_39, q132_40, q132_41, q132_42, q132_43, q132_46, q132_47, q132_48, q132_51, q132_54, q132_57, q132_60, q132_61, q132_64, q132_65, q132_66, q132_67, q132_70, q132_73, q132_74, q132_75, q132_76, q132_79, q132_e]
          rcases c1 with rfl | rfl
          · simp only [if_true, q132_0, q132_1, q132_2, q132_5, q132_8, q132_9, q132_10, q132_11, q132_14, q132_17, q132_20, q132_21, q132_22, q132_25, q132_26, q132_29, q132_30, q132_31, q132_34, q132_37, q132_38, q132_39, q132_40, q132_41, q132_42, q132_43, q132_46, q132_47, q132_48, q132_51, q132_54, q132_57, q132_60, q132_61, q132_64, q132_65, q132_66, q132_67, q132_70, q132_73, q132_74, q132_75, q132_76, q132_79, q132_e, sM_0 hM1, mr_node hM1 r1 hj24 (show k < (ct Z j).2.1.length from hk1), pm_tl_some]
            exact hR1
          · simp only [show ¬ (1 : Int32) = 0 by decide, if_false, q132_0, q132_1, q132_2, q132_5, q132_8, q132_9, q132_10, q132_11, q132_14, q132_17, q132_20, q132_21, q132_22, q132_25, q132_26, q132_29, q132_30, q132_31, q132_34, q132_37, q132_38, q132_39, q132_40, q132_41, q132_42, q132_43, q132_46, q132_47, q132_48, q132_51, q132_54, q132_57, q132_60, q132_61, q132_64, q132_65, q132_66, q132_67, q132_70, q132_73, q132_74, q132_75, q132_76, q132_79, q132_e, sM_0 hM1, mr_arc hM1 r1 hj24 (show k < (ct Z j).2.2.1.length from hk1), pm_tl_some]
            exact hR1
      · rw [if_neg c6]; rw [if_neg c6] at hR1; exact hR1
    · rw [if_pos c1]; rw [if_neg c1] at hQ; exact hQ S hI mF.rf
theorem m_upOf (hM : sM S m) (hj : j < 24) (hR : mR S m j C) (hU : mU S m j C) (hw : wh = 0 ∨ wh = 1) (hc : wc = 0 ∨ wc = 1) (hk : k < sp_len C wh.toNatClampNeg) : pm_N d 133 [.ref m, .int (nI j), .int wh, .int (nI k), .int wc] S Q = Q (some (.int (sp_eM (sp_src C wh.toNatClampNeg k wc.toNatClampNeg)))) S := by
  have q1 := hR.2.1
  have q2 := hR.2.2.2.1
  rcases hw with rfl | rfl
  · have hk' : k < C.2.1.length := hk
    have e6 : (40 : Int32) * nI j + nI k = nI (40 * j + k) := sp_at 40 j k
    have r1 := pm_ar_nI (sM_s11 hM) (show 40 * j + k < 960 by omega) (by decide)
    have r2 := pm_ar_nI (sM_s12 hM) (show 40 * j + k < 960 by omega) (by decide)
    rcases hc with rfl | rfl
    · simp only [q133_0, q133_1, q133_4, q133_6, q133_9, q133_10, q133_13, q133_15, q133_16, q133_17, q133_18, q133_19, q133_20, q133_23, q133_24, q133_27, q133_29, q133_30, q133_31, q133_32, q133_33, q133_34, q133_35, q133_37, q133_40, q133_41, q133_44, q133_46, q133_47, q133_48, q133_49, q133_50, q133_51, q133_54, q133_55, q133_58, q133_60, q133_61, q133_62, q133_63, q133_64, q133_65, q133_e, if_true, sM_0 hM, sM_r11 hM, pm_rf_some, e6, r1, nI_clamp (show 40 * j + k < 2 ^ 31 by omega), (hU.1 k hk').1]; rfl
    · simp only [q133_0, q133_1, q133_4, q133_6, q133_9, q133_10, q133_13, q133_15, q133_16, q133_17, q133_18, q133_19, q133_20, q133_23, q133_24, q133_27, q133_29, q133_30, q133_31, q133_32, q133_33, q133_34, q133_35, q133_37, q133_40, q133_41, q133_44, q133_46, q133_47, q133_48, q133_49, q133_50, q133_51, q133_54, q133_55, q133_58, q133_60, q133_61, q133_62, q133_63, q133_64, q133_65, q133_e, if_true, show ¬ (1 : Int32) = 0 by decide, if_false, sM_0 hM, sM_r12 hM, pm_rf_some, e6, r2, nI_clamp (show 40 * j + k < 2 ^ 31 by omega), (hU.1 k hk').2]; rfl
  · have hk' : k < C.2.2.1.length := hk
    have e6 : (120 : Int32) * nI j + nI k = nI (120 * j + k) := sp_at 120 j k
    have r1 := pm_ar_nI (sM_s16 hM) (show 120 * j + k < 2880 by omega) (by decide)
    have r2 := pm_ar_nI (sM_s17 hM) (show 120 * j + k < 2880 by omega) (by decide)
    rcases hc with rfl | rfl
    · simp only [q133_0, q133_1, q133_4, q133_6, q133_9, q133_10, q133_13, q133_15, q133_16, q133_17, q133_18, q133_19, q133_20, q133_23, q133_24, q133_27, q133_29, q133_30, q133_31, q133_32, q133_33, q133_34, q133_35, q133_37, q133_40, q133_41, q133_44, q133_46, q133_47, q133_48, q133_49, q133_50, q133_51, q133_54, q133_55, q133_58, q133_60, q133_61, q133_62, q133_63, q133_64, q133_65, q133_e, if_true, show ¬ (1 : Int32) = 0 by decide, if_false, sM_0 hM, sM_r16 hM, pm_rf_some, e6, r1, nI_clamp (show 120 * j + k < 2 ^ 31 by omega), (hU.2 k hk').1]; rfl
    · simp only [q133_0, q133_1, q133_4, q133_6, q133_9, q133_10, q133_13, q133_15, q133_16, q133_17, q133_18, q133_19, q133_20, q133_23, q133_24, q133_27, q133_29, q133_30, q133_31, q133_32, q133_33, q133_34, q133_35, q133_37, q133_40, q133_41, q133_44, q133_46, q133_47, q133_48, q133_49, q133_50, q133_51, q133_54, q133_55, q133_58, q133_60, q133_61, q133_62, q133_63, q133_64, q133_65, q133_e, show ¬ (1 : Int32) = 0 by decide, if_false, sM_0 hM, sM_r17 hM, pm_rf_some, e6, r2, nI_clamp (show 120 * j + k < 2 ^ 31 by omega), (hU.2 k hk').2]; rfl
set_option maxHeartbeats 2000000 in
theorem m_up (hw : wf Z) (hI : mI S m Z) (hQ : ∀ S', mI S' m Z → mF m S S' → Q (some (.int (op_up Z g wh i wc))) S') : pm_N (d + 9) 134 [.ref m, .int g, .int wh, .int i, .int wc] S Q := by
  have h24 := hw.1
  have hM := hI.1.1
  unfold op_up at hQ
  simp only [q134_0, q134_1, q134_2, q134_5, q134_8, q134_9, q134_10, q134_11, q134_14, q134_17, q134_19, q134_20, q134_21, q134_24, q134_27, q134_29, q134_30, q134_31, q134_34, q134_35, q134_38, q134_39, q134_40, q134_43, q134_46, q134_47, q134_48, q134_49, q134_50, q134_51, q134_52, q134_55, q134_56, q134_57, q134_60, q134_63, q134_65, q134_68, q134_69, q134_70, q134_71, q134_72, q134_74, q134_77, q134_e, sM_0 hM, m_isV hw hI.1, pm_tl_some, m_in, pm_z1, in01]
  cases hk : ix g Z.1.length with
  | none =>
    rw [hk] at hQ
    simp only [if_true]
    exact hQ S hI mF.rf
  | some j =>
    rw [hk] at hQ
    dsimp only at hQ
    obtain ⟨hj, rfl⟩ := ix_some (by omega) hk
    have hj24 : j < 24 := by omega
    simp only [pm_z0]
    by_cases c0 : (gg Z.1 j).1 = 0
    · rw [if_pos c0]; rw [if_pos c0] at hQ; exact hQ S hI mF.rf
    · rw [if_neg c0]; rw [if_neg c0] at hQ
      by_cases c1 : wh = 0 ∨ wh = 1
      · rw [if_neg (fun h => h c1)]; rw [if_pos c1] at hQ
        by_cases c2 : wc = 0 ∨ wc = 1
        · rw [if_neg (fun h => h c2)]; rw [if_pos c2] at hQ
          refine m_reckon (d := d) hw hI fun S1 i1 hA f1 n1 z1 => ?_
          have hR1 := hQ S1 i1 ⟨f1, n1, z1⟩
          have hM1 := i1.1.1
          have hC := hA j hj
          have z7 := mC_7 hC
          simp only [pm_tl_none, q134_0, q134_1, q134_2, q134_5, q134_8, q134_9, q134_10, q134_11, q134_14, q134_17, q134_19, q134_20, q134_21, q134_24, q134_27, q134_29, q134_30, q134_31, q134_34, q134_35, q134_38, q134_39, q134_40, q134_43, q134_46, q134_47, q134_48, q134_49, q134_50, q134_51, q134_52, q134_55, q134_56, q134_57, q134_60, q134_63, q134_65, q134_68, q134_69, q134_70, q134_71, q134_72, q134_74, q134_77, q134_e, sM_0 hM1, sM_r7 hM1, pm_rf_some, ar7 hM1 hj24, nc24 hj24, z7]
          by_cases c6 : (ct Z j).1 = 0
          · rw [if_pos c6]; rw [if_pos c6] at hR1
            obtain ⟨r1, r2, r3⟩ := hC.2.2 c6
            have r4 := sp_len_le (w := wh.toNatClampNeg) r1
            simp only [q134_0, q134_1, q134_2, q134_5, q134_8, q134_9, q134_10, q134_11, q134_14, q134_17, q134_19, q134_20, q134_21, q134_24, q134_27, q134_29, q134_30, q134_31, q134_34, q134_35, q134_38, q134_39, q134_40, q134_43, q134_46, q134_47, q134_48, q134_49, q134_50, q134_51, q134_52, q134_55, q134_56, q134_57, q134_60, q134_63, q134_65, q134_68, q134_69, q134_70, q134_71, q134_72, q134_74, q134_77, q134_e, sM_0 hM1, m_itemsOf hM1 hj24 r1 c1, pm_tl_some, m_in, in_ix (g := i) (show sp_len (ct Z j) wh.toNatClampNeg < 2 ^ 30 by omega), pm_z1]
            cases he : ix i (sp_len (ct Z j) wh.toNatClampNeg) with
            | none =>
              rw [he] at hR1
              simp only [Option.isSome_none, Bool.false_eq_true, not_false_eq_true, if_true]
              exact hR1
            | some k =>
              rw [he] at hR1
              dsimp only at hR1
              obtain ⟨hk1, rfl⟩ := ix_some (by omega) he
              simp only [Option.isSome_some, not_true_eq_false, if_false, q134_0, q134_1, q134_2, q134_5, q134_8, q134_9, q134_10, q134_11, q134_14, q134_17, q134_19, q134_20, q134_21, q134_24, q134_27, q134_29, q134_30, q134_31, q134_34, q134_35, q134_38, q134_39, q134_40, q134_43, q134_46, q134_47, q134_48, q134_49, q134_50, q134_51, q134_52, q134_55, q134_56, q134_57, q134_60, q134_63, q134_65, q134_68, q134_69, q134_70, q134_71, q134_72, q134_74, q134_77, q134_e, sM_0 hM1, m_upOf hM1 hj24 r1 (r3 c0) c1 c2 hk1, pm_tl_some]
              exact hR1
          · rw [if_neg c6]; rw [if_neg c6] at hR1; exact hR1
        · rw [if_pos c2]; rw [if_neg c2] at hQ; exact hQ S hI mF.rf
      · rw [if_pos c1]; rw [if_neg c1] at hQ; exact hQ S hI mF.rf
theorem eM_eq {r : Option Nat} (h : sp_bd r) (hi : ¬ i < 0) : (sp_eM r = i) = (r = some i.toNatClampNeg) := by
  obtain ⟨k, hk, rfl⟩ := nI_of hi
  rw [nI_clamp hk]
  cases r with
  | none =>
    refine propext ⟨fun q => absurd (q ▸ hi : ¬ sp_eM none < 0) (by decide), fun q => by cases q⟩
  | some q =>
    have := h q rfl
    show (nI q = nI k) = _
    rw [nI_e' (by omega) (by omega)]
    exact propext ⟨fun q => by rw [q], fun q => Option.some.inj q⟩
theorem sp_src_bd {w c : Nat} (h : sp_wd C) (hk : k < sp_len C w) : sp_bd (sp_src C w k c) := by
  unfold sp_src sp_len at *
  split
  · next e => rw [if_pos e] at hk; split; exact (sp_nd_bd h hk).1; exact (sp_nd_bd h hk).2
  · next e => rw [if_neg e] at hk; split; exact (sp_ar_bd h hk).1; exact (sp_ar_bd h hk).2
theorem m_down_l (hM : sM S m) (hj : j < 24) (hR : mR S m j C) (hU : mU S m j C) (wd : sp_wd C) (hw : wh = 0 ∨ wh = 1) (hc : wc = 0 ∨ wc = 1) (hi : ¬ i < 0) : ∀ n k, k + n = sp_len C wh.toNatClampNeg → pm_V (d + 1) 135 50 [.ref m, .int (nI j), .int wh, .int i, .int wc, .int (nI k)] [] S Q = Q (some (.int (sp_eM (sp_find (fun k => sp_src C wh.toNatClampNeg k wc.toNatClampNeg == some i.toNatClampNeg) n k)))) S := by
  have r4 := sp_len_le (w := wh.toNatClampNeg) hR
  intro n
  induction n with
  | zero =>
    intro k hk
    have e1 : ¬ nI k < nI (sp_len C wh.toNatClampNeg) := nI_nlt (by omega) (by omega)
    rw [q135_50]
    simp only [q135_0, q135_1, q135_2, q135_5, q135_8, q135_9, q135_10, q135_11, q135_14, q135_17, q135_19, q135_20, q135_21, q135_24, q135_27, q135_29, q135_30, q135_31, q135_34, q135_35, q135_38, q135_39, q135_40, q135_43, q135_46, q135_47, q135_48, q135_52, q135_53, q135_54, q135_55, q135_58, q135_61, q135_62, q135_65, q135_66, q135_67, q135_68, q135_70, q135_72, q135_75, q135_76, q135_79, q135_81, q135_82, q135_85, q135_88, q135_90, q135_e, sM_0 hM, m_itemsOf hM hj hR hw, pm_tl_some, e1, if_false]
    rfl
  | succ n ih =>
    intro k hk
    have hk2 : k < sp_len C wh.toNatClampNeg := by omega
    have e1 : nI k < nI (sp_len C wh.toNatClampNeg) := nI_lt hk2 (by omega)
    rw [q135_50]
    simp only [q135_0, q135_1, q135_2, q135_5, q135_8, q135_9, q135_10, q135_11, q135_14, q135_17, q135_19, q135_20, q135_21, q135_24, q135_27, q135_29, q135_30, q135_31, q135_34, q135_35, q135_38, q135_39, q135_40, q135_43, q135_46, q135_47, q135_48, q135_52, q135_53, q135_54, q135_55, q135_58, q135_61, q135_62, q135_65, q135_66, q135_67, q135_68, q135_70, q135_72, q135_75, q135_76, q135_79, q135_81, q135_82, q135_85, q135_88, q135_90, q135_e, sM_0 hM, m_itemsOf hM hj hR hw, pm_tl_some, e1, if_true, hi, if_false, m_upOf hM hj hR hU hw hc hk2, eM_eq (sp_src_bd wd hk2) hi, nI_1, ih (k + 1) (by omega), sp_find_s, beq_iff_eq]
    split <;> rfl
set_option maxHeartbeats 2000000 in
theorem m_down (hw : wf Z) (hI : mI S m Z) (hQ : ∀ S', mI S' m Z → mF m S S' → Q (some (.int (op_down Z g wh i wc))) S') : pm_N (d + 9) 135 [.ref m, .int g, .int wh, .int i, .int wc] S Q := by
  have h24 := hw.1
  have hM := hI.1.1
  unfold op_down at hQ
  simp only [q135_0, q135_1, q135_2, q135_5, q135_8, q135_9, q135_10, q135_11, q135_14, q135_17, q135_19, q135_20, q135_21, q135_24, q135_27, q135_29, q135_30, q135_31, q135_34, q135_35, q135_38, q135_39, q135_40, q135_43, q135_46, q135_47, q135_48, q135_52, q135_53, q135_54, q135_55, q135_58, q135_61, q135_62, q135_65, q135_66, q135_67, q135_68, q135_70, q135_72, q135_75, q135_76, q135_79, q135_81, q135_82, q135_85, q135_88, q135_90, q135_e, sM_0 hM, m_isV hw hI.1, pm_tl_some, m_in, pm_z1, in01]
  cases hk : ix g Z.1.length with
  | none =>
    rw [hk] at hQ
    simp only [if_true]
    exact hQ S hI mF.rf
  | some j =>
    rw [hk] at hQ
    dsimp only at hQ
    obtain ⟨hj, rfl⟩ := ix_some (by omega) hk
    have hj24 : j < 24 := by omega
    simp only [pm_z0]
    by_cases c0 : (gg Z.1 j).1 = 0
    · rw [if_pos c0]; rw [if_pos c0] at hQ; exact hQ S hI mF.rf
    · rw [if_neg c0]; rw [if_neg c0] at hQ
      by_cases c1 : wh = 0 ∨ wh = 1
      · rw [if_neg (fun h => h c1)]; rw [if_pos c1] at hQ
        by_cases c2 : wc = 0 ∨ wc = 1
        · rw [if_neg (fun h => h c2)]; rw [if_pos c2] at hQ
          refine m_reckon (d := d) hw hI fun S1 i1 hA f1 n1 z1 => ?_
          have hR1 := hQ S1 i1 ⟨f1, n1, z1⟩
          have hM1 := i1.1.1
          have hC := hA j hj
          have z7 := mC_7 hC
          simp only [pm_tl_none, q135_0, q135_1, q135_2, q135_5, q135_8, q135_9, q135_10, q135_11, q135_14, q135_17, q135_19, q135_20, q135_21, q135_24, q135_27, q135_29, q135_30, q135_31, q135_34, q135_35, q135_38, q135_39, q135_40, q135_43, q135_46, q135_47, q135_48, q135_52, q135_53, q135_54, q135_55, q135_58, q135_61, q135_62, q135_65, q135_66, q135_67, q135_68, q135_70, q135_72, q135_75, q135_76, q135_79, q135_81, q135_82, q135_85, q135_88, q135_90, q135_e, sM_0 hM1, sM_r7 hM1, pm_rf_some, ar7 hM1 hj24, nc24 hj24, z7]
          by_cases c6 : (ct Z j).1 = 0
          · rw [if_pos c6]; rw [if_pos c6] at hR1
            obtain ⟨r1, r2, r3⟩ := hC.2.2 c6
            by_cases ci : i < 0
            · rw [if_pos ci] at hR1
              rw [q135_50]
              simp only [q135_0, q135_1, q135_2, q135_5, q135_8, q135_9, q135_10, q135_11, q135_14, q135_17, q135_19, q135_20, q135_21, q135_24, q135_27, q135_29, q135_30, q135_31, q135_34, q135_35, q135_38, q135_39, q135_40, q135_43, q135_46, q135_47, q135_48, q135_52, q135_53, q135_54, q135_55, q135_58, q135_61, q135_62, q135_65, q135_66, q135_67, q135_68, q135_70, q135_72, q135_75, q135_76, q135_79, q135_81, q135_82, q135_85, q135_88, q135_90, q135_e, sM_0 hM1, m_itemsOf hM1 hj24 r1 c1, pm_tl_some, ci, if_true, ite_self]
              exact hR1
            · rw [if_neg ci] at hR1
              exact Eq.mpr (m_down_l hM1 hj24 r1 (r3 c0) (ct_wd hw _ _ (Nat.lt_succ_self _) hj) c1 c2 ci _ 0 (Nat.zero_add _)) hR1
          · rw [if_neg c6]; rw [if_neg c6] at hR1; exact hR1
        · rw [if_pos c2]; rw [if_neg c2] at hQ; exact hQ S hI mF.rf
      · rw [if_pos c1]; rw [if_neg c1] at hQ; exact hQ S hI mF.rf
set_option maxHeartbeats 2000000 in
theorem m_hidden {kk : Int32} (hw : wf Z) (hI : mI S m Z) (hQ : ∀ S', mI S' m Z → mF m S S' → Q (some (.int (op_hidden Z g kk wh))) S') : pm_N (d + 9) 136 [.ref m, .int g, .int kk, .int wh] S Q := by
  have h24 := hw.1
  have hM := hI.1.1
  unfold op_hidden at hQ
  simp only [q136_0, q136_1, q136_2, q136_5, q136_8, q136_9, q136_12, q136_13, q136_14, q136_15, q136_18, q136_19, q136_20, q136_21, q136_24, q136_27, q136_29, q136_30, q136_31, q136_34, q136_35, q136_38, q136_39, q136_40, q136_43, q136_46, q136_47, q136_48, q136_49, q136_50, q136_53, q136_54, q136_55, q136_56, q136_57, q136_60, q136_63, q136_65, q136_66, q136_67, q136_70, q136_73, q136_74, q136_75, q136_76, q136_77, q136_78, q136_80, q136_81, q136_84, q136_86, q136_89, q136_90, q136_93, q136_94, q136_95, q136_98, q136_100, q136_103, q136_104, q136_107, q136_108, q136_111, q136_114, q136_115, q136_116, q136_117, q136_118, q136_119, q136_e, sM_0 hM, m_isG hw hI.1, pm_tl_some, m_in, pm_z1]
  cases hk : ix g Z.1.length with
  | none =>
    rw [hk] at hQ
    simp only [Option.isSome_none, Bool.false_eq_true, not_false_eq_true, if_true]
    exact hQ S hI mF.rf
  | some j =>
    rw [hk] at hQ
    dsimp only at hQ
    obtain ⟨hj, rfl⟩ := ix_some (by omega) hk
    have hj24 : j < 24 := by omega
    have hk7 := (hw.2.2.2 j hj).1
    have e1 : (nI (gg Z.1 j).1 = 1) = ((gg Z.1 j).1 = 1) := nI_e' (b := 1) (by omega) (by decide)
    simp only [Option.isSome_some, not_true_eq_false, if_false, q136_0, q136_1, q136_2, q136_5, q136_8, q136_9, q136_12, q136_13, q136_14, q136_15, q136_18, q136_19, q136_20, q136_21, q136_24, q136_27, q136_29, q136_30, q136_31, q136_34, q136_35, q136_38, q136_39, q136_40, q136_43, q136_46, q136_47, q136_48, q136_49, q136_50, q136_53, q136_54, q136_55, q136_56, q136_57, q136_60, q136_63, q136_65, q136_66, q136_67, q136_70, q136_73, q136_74, q136_75, q136_76, q136_77, q136_78, q136_80, q136_81, q136_84, q136_86, q136_89, q136_90, q136_93, q136_94, q136_95, q136_98, q136_100, q136_103, q136_104, q136_107, q136_108, q136_111, q136_114, q136_115, q136_116, q136_117, q136_118, q136_119, q136_e, sM_0 hM, sM_r1 hM, pm_rf_some, ar1 hM hj24, nc24 hj24, (hI.1.2.2.2.2.2 j hj).1.1, e1, m_in, pm_tl_some, pm_z1]
    by_cases c0 : (gg Z.1 j).1 = 1
    · rw [if_pos c0]; rw [if_pos c0] at hQ
      by_cases c1 : wh < 0
      · rw [if_pos (fun h => absurd c1 (k2_nlt h.1))]; rw [if_pos c1] at hQ; exact hQ S hI mF.rf
      · rw [if_neg c1] at hQ
        by_cases c2 : wh ≤ 2
        · rw [if_neg (fun h => h ⟨k2_le c1, c2⟩)]; rw [if_pos c2] at hQ
          refine m_reckon (d := d) hw hI fun S1 i1 hA f1 n1 z1 => ?_
          have hR1 := hQ S1 i1 ⟨f1, n1, z1⟩
          have hM1 := i1.1.1
          have hC := hA j hj
          have z7 := mC_7 hC
          simp only [pm_tl_none, q136_0, q136_1, q136_2, q136_5, q136_8, q136_9, q136_12, q136_13, q136_14, q136_15, q136_18, q136_19, q136_20, q136_21, q136_24, q136_27, q136_29, q136_30, q136_31, q136_34, q136_35, q136_38, q136_39, q136_40, q136_43, q136_46, q136_47, q136_48, q136_49, q136_50, q136_53, q136_54, q136_55, q136_56, q136_57, q136_60, q136_63, q136_65, q136_66, q136_67, q136_70, q136_73, q136_74, q136_75, q136_76, q136_77, q136_78, q136_80, q136_81, q136_84, q136_86, q136_89, q136_90, q136_93, q136_94, q136_95, q136_98, q136_100, q136_103, q136_104, q136_107, q136_108, q136_111, q136_114, q136_115, q136_116, q136_117, q136_118, q136_119, q136_e, sM_0 hM1, sM_r7 hM1, pm_rf_some, ar7 hM1 hj24, nc24 hj24, z7]
          by_cases c6 : (ct Z j).1 = 0
          · rw [if_pos c6]; rw [if_pos c6] at hR1
            obtain ⟨r1, r2, r3⟩ := hC.2.2 c6
            have r8 := r2.2.1
            simp only [q136_0, q136_1, q136_2, q136_5, q136_8, q136_9, q136_12, q136_13, q136_14, q136_15, q136_18, q136_19, q136_20, q136_21, q136_24, q136_27, q136_29, q136_30, q136_31, q136_34, q136_35, q136_38, q136_39, q136_40, q136_43, q136_46, q136_47, q136_48, q136_49, q136_50, q136_53, q136_54, q136_55, q136_56, q136_57, q136_60, q136_63, q136_65, q136_66, q136_67, q136_70, q136_73, q136_74, q136_75, q136_76, q136_77, q136_78, q136_80, q136_81, q136_84, q136_86, q136_89, q136_90, q136_93, q136_94, q136_95, q136_98, q136_100, q136_103, q136_104, q136_107, q136_108, q136_111, q136_114, q136_115, q136_116, q136_117, q136_118, q136_119, q136_e, sM_0 hM1, sM_r18 hM1, pm_rf_some, ar18 hM1 hj24, nc24 hj24, r2.1, m_in, in_ix (g := kk) (show (ct Z j).2.2.2.length < 2 ^ 30 by omega), pm_tl_some, pm_z1]
            cases he : ix kk (ct Z j).2.2.2.length with
            | none =>
              rw [he] at hR1
              simp only [Option.isSome_none, Bool.false_eq_true, not_false_eq_true, if_true]
              exact hR1
            | some k =>
              rw [he] at hR1
              dsimp only at hR1
              obtain ⟨hk1, rfl⟩ := ix_some (by omega) he
              have wd := ct_wd hw _ _ (Nat.lt_succ_self _) hj
              have hd : sp_hd (ct Z j) k ∈ (ct Z j).2.2.2 := by
                unfold sp_hd
                rw [List.getD_eq_getElem?_getD, List.getElem?_eq_getElem hk1]
                exact List.getElem_mem hk1
              obtain ⟨d1, d2, d3⟩ := wd.2.2.2.2.2.2 _ hd
              obtain ⟨q1, q2⟩ := hid_q _ (show (sp_hd (ct Z j) k).1 < 2 by omega) _ d2
              rw [q1] at q2
              have e6 : (160 : Int32) * nI j + nI k = nI (160 * j + k) := sp_at 160 j k
              have a1 := pm_ar_nI (sM_s19 hM1) (show 160 * j + k < 3840 by omega) (by decide)
              have a2 := pm_ar_nI (sM_s20 hM1) (show 160 * j + k < 3840 by omega) (by decide)
              obtain ⟨v1, v2⟩ := r2.2.2 k hk1
              simp only [Option.isSome_some, not_true_eq_false, if_false, q136_0, q136_1, q136_2, q136_5, q136_8, q136_9, q136_12, q136_13, q136_14, q136_15, q136_18, q136_19, q136_20, q136_21, q136_24, q136_27, q136_29, q136_30, q136_31, q136_34, q136_35, q136_38, q136_39, q136_40, q136_43, q136_46, q136_47, q136_48, q136_49, q136_50, q136_53, q136_54, q136_55, q136_56, q136_57, q136_60, q136_63, q136_65, q136_66, q136_67, q136_70, q136_73, q136_74, q136_75, q136_76, q136_77, q136_78, q136_80, q136_81, q136_84, q136_86, q136_89, q136_90, q136_93, q136_94, q136_95, q136_98, q136_100, q136_103, q136_104, q136_107, q136_108, q136_111, q136_114, q136_115, q136_116, q136_117, q136_118, q136_119, q136_e, sM_0 hM1, sM_r19 hM1, sM_r20 hM1, pm_rf_some, e6, a1, a2, nI_clamp (show 160 * j + k < 2 ^ 31 by omega), v1, v2, q1, q2, show ¬ (1000 : Int32) = 0 by decide, not_false_eq_true]
              by_cases w0 : wh = 0
              · rw [if_pos w0]; rw [if_pos w0] at hR1; exact hR1
              · rw [if_neg w0]; rw [if_neg w0] at hR1
                by_cases w1 : wh = 1
                · rw [if_pos w1]; rw [if_pos w1] at hR1; exact hR1
                · rw [if_neg w1]; rw [if_neg w1] at hR1; exact hR1
          · rw [if_neg c6]; rw [if_neg c6] at hR1; exact hR1
        · rw [if_pos (fun h => c2 h.2)]; rw [if_neg c2] at hQ; exact hQ S hI mF.rf
    · rw [if_neg c0]; rw [if_neg c0] at hQ; exact hQ S hI mF.rf
end
