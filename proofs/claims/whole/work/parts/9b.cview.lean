/-! ===== the class: view, clear ===== -/
/-- do the choices fit -/
abbrev sp_fits (Z : sp_S) (k b c d : Int32) : Prop := (k = 1 ∧ (b = -1 ∨ (ix b Z.2.2.length).isSome = true) ∧ (c = -1 ∨ (ix c Z.2.2.length).isSome = true) ∧ (d = 0 ∨ d = 1)) ∨ (k = 2 ∨ k = 6) ∨ ((k = 3 ∨ k = 4) ∧ (ix b Z.1.length).isSome = true) ∨ (k = 5 ∧ (ix b Z.1.length).isSome = true ∧ 0 ≤ c ∧ c ≤ 2) ∨ (k = 7 ∧ (0 ≤ b ∧ b < 4) ∧ 0 ≤ c ∧ c ≤ 2)
def vw_g (Z : sp_S) (k : Int32) (a : Nat) (b c d : Int32) : sp_G := (k.toNatClampNeg, a, (if k = 3 ∨ k = 4 ∨ k = 5 then (ix b Z.1.length).getD 0 else a), (b, c, d), false, sp_0)
def op_view (Z : sp_S) (k a b c d : Int32) : Int32 × sp_S := match ix a Z.1.length with
  | none => (-1000001, Z)
  | some j => if sp_fits Z k b c d then (if Z.1.length < 24 then (nI Z.1.length, (Z.1 ++ [vw_g Z k j b c d], Z.2)) else (-1000002, Z)) else (-1000001, Z)
def op_clear (Z : sp_S) : Int32 × sp_S := (nI Z.1.length, ([], fun _ _ => none, []))
theorem op_clear_wf {Z : sp_S} : wf (op_clear Z).2 := ⟨Nat.zero_le _, ⟨Nat.zero_le _, (fun k hk => by cases hk)⟩, (fun t i l h => by cases h), (fun g hg => by cases hg)⟩
section
variable {d x n nw M L : Nat} {S S' : pm_T} {Q : Option Value → pm_T → Prop} {Z Z' : sp_S} {k a b c e g s wc wh i t f u : Int32} {C : sp_C}
theorem c_isTA (hw : wf Z) (hI : cI S x Z nw M) : pm_N (d + 1) 79 [.ref x, .int b] S Q = Q (some (.int (if b = -1 ∨ (ix b Z.2.2.length).isSome = true then 1 else 0))) S := by
  have hts := hw.2.1.1
  have h8 := hI.2.2.2.2.2.2.2.1
  have eT : pm_gi S (x + 3) 4 = nI Z.2.2.length := h8.2.1
  simp only [q79_0, q79_1, q79_2, q79_5, q79_6, q79_9, q79_10, q79_13, q79_16, q79_17, q79_20, q79_21, q79_e, hI.1.1, hI.1.2.2.2.1, pm_rf_some, h8.1.1, c_tHas h8.1, eT, sp_tin_b hts, pm_tl_some, pm_z1, true_or, or_true]
  by_cases h1 : b = -1
  · simp [h1]
  · by_cases h2 : (ix b Z.2.2.length).isSome = true
    · simp [h1, h2]
    · simp [h1, h2]
theorem tsw_no (h1 : ¬ k = 1) (h2 : ¬ k = 2) (h3 : ¬ k = 3) (h4 : ¬ k = 4) (h5 : ¬ k = 5) (h6 : ¬ k = 6) (h7 : ¬ k = 7) {ts : List Nat} {df : Nat} (hl : ts.length = 7) : pm_tsw k 1 ts df = df := by
  unfold pm_tsw
  split
  · rfl
  · next h =>
    have key : ∀ n : Nat, n < 8 → k.toInt = n → k = nI n := fun n hn e => Int32.toInt_inj.mp (by rw [e, nI_toInt (by omega)])
    have : ¬ k.toInt < 8 := by
      intro q
      have : k.toInt = 1 ∨ k.toInt = 2 ∨ k.toInt = 3 ∨ k.toInt = 4 ∨ k.toInt = 5 ∨ k.toInt = 6 ∨ k.toInt = 7 := by omega
      rcases this with q | q | q | q | q | q | q
      · exact h1 (key 1 (by decide) q)
      · exact h2 (key 2 (by decide) q)
      · exact h3 (key 3 (by decide) q)
      · exact h4 (key 4 (by decide) q)
      · exact h5 (key 5 (by decide) q)
      · exact h6 (key 6 (by decide) q)
      · exact h7 (key 7 (by decide) q)
    rw [List.getD_eq_getElem?_getD, List.getElem?_eq_none (by omega)]
    rfl
set_option maxHeartbeats 2000000 in
theorem c_fits (hw : wf Z) (hI : cI S x Z nw M) : pm_N (d + 2) 78 [.ref x, .int k, .int b, .int c, .int e] S Q = Q (some (.int (if sp_fits Z k b c e then 1 else 0))) S := by
  simp only [q78_0, q78_1, q78_44, q78_45, q78_46, q78_49, q78_52, q78_53, q78_54, q78_57, q78_60, q78_62, q78_65, q78_68, q78_69, q78_72, q78_73, q78_74, q78_75, q78_76, q78_77, q78_78, q78_81, q78_81N, q78_84, q78_85, q78_88, q78_89, q78_90, q78_91, q78_92, q78_95, q78_95N, q78_98, q78_99, q78_102, q78_105, q78_106, q78_109, q78_110, q78_111, q78_112, q78_115, q78_118, q78_119, q78_122, q78_125, q78_126, q78_129, q78_130, q78_131, q78_132, q78_e]
  unfold sp_fits
  by_cases h1 : k = 1
  · subst h1
    simp only [show pm_tsw 1 1 [44, 74, 76, 76, 90, 74, 111] 131 = 44 by decide, q78_0, q78_1, q78_44, q78_45, q78_46, q78_49, q78_52, q78_53, q78_54, q78_57, q78_60, q78_62, q78_65, q78_68, q78_69, q78_72, q78_73, q78_74, q78_75, q78_76, q78_77, q78_78, q78_81, q78_81N, q78_84, q78_85, q78_88, q78_89, q78_90, q78_91, q78_92, q78_95, q78_95N, q78_98, q78_99, q78_102, q78_105, q78_106, q78_109, q78_110, q78_111, q78_112, q78_115, q78_118, q78_119, q78_122, q78_125, q78_126, q78_129, q78_130, q78_131, q78_132, q78_e, hI.1.1, c_isTA hw hI, pm_tl_some, pm_z1, c_isOneOfTwo, true_or, or_true]
    by_cases q1 : b = -1 ∨ (ix b Z.2.2.length).isSome = true
    · by_cases q2 : c = -1 ∨ (ix c Z.2.2.length).isSome = true
      · by_cases q3 : e = 0 ∨ e = 1
        · simp [q1, q2, q3]
        · simp [q1, q2, q3, show ¬ (1 : Int32) = 2 by decide, show ¬ (1 : Int32) = 6 by decide, show ¬ (1 : Int32) = 3 by decide, show ¬ (1 : Int32) = 4 by decide, show ¬ (1 : Int32) = 5 by decide, show ¬ (1 : Int32) = 7 by decide]
      · simp [q1, q2, show ¬ (1 : Int32) = 2 by decide, show ¬ (1 : Int32) = 6 by decide, show ¬ (1 : Int32) = 3 by decide, show ¬ (1 : Int32) = 4 by decide, show ¬ (1 : Int32) = 5 by decide, show ¬ (1 : Int32) = 7 by decide]
    · simp [q1, show ¬ (1 : Int32) = 2 by decide, show ¬ (1 : Int32) = 6 by decide, show ¬ (1 : Int32) = 3 by decide, show ¬ (1 : Int32) = 4 by decide, show ¬ (1 : Int32) = 5 by decide, show ¬ (1 : Int32) = 7 by decide]
  · by_cases h2 : k = 2
    · subst h2
      simp only [show pm_tsw 2 1 [44, 74, 76, 76, 90, 74, 111] 131 = 74 by decide, q78_0, q78_1, q78_44, q78_45, q78_46, q78_49, q78_52, q78_53, q78_54, q78_57, q78_60, q78_62, q78_65, q78_68, q78_69, q78_72, q78_73, q78_74, q78_75, q78_76, q78_77, q78_78, q78_81, q78_81N, q78_84, q78_85, q78_88, q78_89, q78_90, q78_91, q78_92, q78_95, q78_95N, q78_98, q78_99, q78_102, q78_105, q78_106, q78_109, q78_110, q78_111, q78_112, q78_115, q78_118, q78_119, q78_122, q78_125, q78_126, q78_129, q78_130, q78_131, q78_132, q78_e, true_or, or_true]
      simp
    · by_cases h3 : k = 3
      · subst h3
        simp only [show pm_tsw 3 1 [44, 74, 76, 76, 90, 74, 111] 131 = 76 by decide, q78_0, q78_1, q78_44, q78_45, q78_46, q78_49, q78_52, q78_53, q78_54, q78_57, q78_60, q78_62, q78_65, q78_68, q78_69, q78_72, q78_73, q78_74, q78_75, q78_76, q78_77, q78_78, q78_81, q78_81N, q78_84, q78_85, q78_88, q78_89, q78_90, q78_91, q78_92, q78_95, q78_95N, q78_98, q78_99, q78_102, q78_105, q78_106, q78_109, q78_110, q78_111, q78_112, q78_115, q78_118, q78_119, q78_122, q78_125, q78_126, q78_129, q78_130, q78_131, q78_132, q78_e, hI.1.1, c_known hw hI, pm_tl_some, true_or, or_true]
        cases hb : ix b Z.1.length with
        | none => simp [pm_rf_none, q78_0, q78_1, q78_44, q78_45, q78_46, q78_49, q78_52, q78_53, q78_54, q78_57, q78_60, q78_62, q78_65, q78_68, q78_69, q78_72, q78_73, q78_74, q78_75, q78_76, q78_77, q78_78, q78_81, q78_81N, q78_84, q78_85, q78_88, q78_89, q78_90, q78_91, q78_92, q78_95, q78_95N, q78_98, q78_99, q78_102, q78_105, q78_106, q78_109, q78_110, q78_111, q78_112, q78_115, q78_118, q78_119, q78_122, q78_125, q78_126, q78_129, q78_130, q78_131, q78_132, q78_e, show ¬ (3 : Int32) = 2 by decide, show ¬ (3 : Int32) = 6 by decide, show ¬ (3 : Int32) = 1 by decide, show ¬ (3 : Int32) = 5 by decide, show ¬ (3 : Int32) = 7 by decide]
        | some j => simp [pm_rf_some, q78_0, q78_1, q78_44, q78_45, q78_46, q78_49, q78_52, q78_53, q78_54, q78_57, q78_60, q78_62, q78_65, q78_68, q78_69, q78_72, q78_73, q78_74, q78_75, q78_76, q78_77, q78_78, q78_81, q78_81N, q78_84, q78_85, q78_88, q78_89, q78_90, q78_91, q78_92, q78_95, q78_95N, q78_98, q78_99, q78_102, q78_105, q78_106, q78_109, q78_110, q78_111, q78_112, q78_115, q78_118, q78_119, q78_122, q78_125, q78_126, q78_129, q78_130, q78_131, q78_132, q78_e]
      · by_cases h4 : k = 4
        · subst h4
          simp only [show pm_tsw 4 1 [44, 74, 76, 76, 90, 74, 111] 131 = 76 by decide, q78_0, q78_1, q78_44, q78_45, q78_46, q78_49, q78_52, q78_53, q78_54, q78_57, q78_60, q78_62, q78_65, q78_68, q78_69, q78_72, q78_73, q78_74, q78_75, q78_76, q78_77, q78_78, q78_81, q78_81N, q78_84, q78_85, q78_88, q78_89, q78_90, q78_91, q78_92, q78_95, q78_95N, q78_98, q78_99, q78_102, q78_105, q78_106, q78_109, q78_110, q78_111, q78_112, q78_115, q78_118, q78_119, q78_122, q78_125, q78_126, q78_129, q78_130, q78_131, q78_132, q78_e, hI.1.1, c_known hw hI, pm_tl_some, true_or, or_true]
          cases hb : ix b Z.1.length with
          | none => simp [pm_rf_none, q78_0, q78_1, q78_44, q78_45, q78_46, q78_49, q78_52, q78_53, q78_54, q78_57, q78_60, q78_62, q78_65, q78_68, q78_69, q78_72, q78_73, q78_74, q78_75, q78_76, q78_77, q78_78, q78_81, q78_81N, q78_84, q78_85, q78_88, q78_89, q78_90, q78_91, q78_92, q78_95, q78_95N, q78_98, q78_99, q78_102, q78_105, q78_106, q78_109, q78_110, q78_111, q78_112, q78_115, q78_118, q78_119, q78_122, q78_125, q78_126, q78_129, q78_130, q78_131, q78_132, q78_e, show ¬ (4 : Int32) = 2 by decide, show ¬ (4 : Int32) = 6 by decide, show ¬ (4 : Int32) = 1 by decide, show ¬ (4 : Int32) = 5 by decide, show ¬ (4 : Int32) = 7 by decide]
          | some j => simp [pm_rf_some, q78_0, q78_1, q78_44, q78_45, q78_46, q78_49, q78_52, q78_53, q78_54, q78_57, q78_60, q78_62, q78_65, q78_68, q78_69, q78_72, q78_73, q78_74, q78_75, q78_76, q78_77, q78_78, q78_81, q78_81N, q78_84, q78_85, q78_88, q78_89, q78_90, q78_91, q78_92, q78_95, q78_95N, q78_98, q78_99, q78_102, q78_105, q78_106, q78_109, q78_110, q78_111, q78_112, q78_115, q78_118, q78_119, q78_122, q78_125, q78_126, q78_129, q78_130, q78_131, q78_132, q78_e]
        · by_cases h5 : k = 5
          · subst h5
            simp only [show pm_tsw 5 1 [44, 74, 76, 76, 90, 74, 111] 131 = 90 by decide, q78_0, q78_1, q78_44, q78_45, q78_46, q78_49, q78_52, q78_53, q78_54, q78_57, q78_60, q78_62, q78_65, q78_68, q78_69, q78_72, q78_73, q78_74, q78_75, q78_76, q78_77, q78_78, q78_81, q78_81N, q78_84, q78_85, q78_88, q78_89, q78_90, q78_91, q78_92, q78_95, q78_95N, q78_98, q78_99, q78_102, q78_105, q78_106, q78_109, q78_110, q78_111, q78_112, q78_115, q78_118, q78_119, q78_122, q78_125, q78_126, q78_129, q78_130, q78_131, q78_132, q78_e, hI.1.1, c_known hw hI, pm_tl_some, true_or, or_true]
            cases hb : ix b Z.1.length with
            | none => simp [pm_rf_none, q78_0, q78_1, q78_44, q78_45, q78_46, q78_49, q78_52, q78_53, q78_54, q78_57, q78_60, q78_62, q78_65, q78_68, q78_69, q78_72, q78_73, q78_74, q78_75, q78_76, q78_77, q78_78, q78_81, q78_81N, q78_84, q78_85, q78_88, q78_89, q78_90, q78_91, q78_92, q78_95, q78_95N, q78_98, q78_99, q78_102, q78_105, q78_106, q78_109, q78_110, q78_111, q78_112, q78_115, q78_118, q78_119, q78_122, q78_125, q78_126, q78_129, q78_130, q78_131, q78_132, q78_e, show ¬ (5 : Int32) = 2 by decide, show ¬ (5 : Int32) = 6 by decide, show ¬ (5 : Int32) = 1 by decide, show ¬ (5 : Int32) = 3 by decide, show ¬ (5 : Int32) = 4 by decide, show ¬ (5 : Int32) = 7 by decide]
            | some j =>
              simp only [Option.map_some, pm_rf_some, q78_0, q78_1, q78_44, q78_45, q78_46, q78_49, q78_52, q78_53, q78_54, q78_57, q78_60, q78_62, q78_65, q78_68, q78_69, q78_72, q78_73, q78_74, q78_75, q78_76, q78_77, q78_78, q78_81, q78_81N, q78_84, q78_85, q78_88, q78_89, q78_90, q78_91, q78_92, q78_95, q78_95N, q78_98, q78_99, q78_102, q78_105, q78_106, q78_109, q78_110, q78_111, q78_112, q78_115, q78_118, q78_119, q78_122, q78_125, q78_126, q78_129, q78_130, q78_131, q78_132, q78_e, c_isOneOfThree, pm_tl_some, pm_z1, true_or, or_true]
              by_cases q : 0 ≤ c ∧ c ≤ 2
              · simp [q, q78_0, q78_1, q78_44, q78_45, q78_46, q78_49, q78_52, q78_53, q78_54, q78_57, q78_60, q78_62, q78_65, q78_68, q78_69, q78_72, q78_73, q78_74, q78_75, q78_76, q78_77, q78_78, q78_81, q78_81N, q78_84, q78_85, q78_88, q78_89, q78_90, q78_91, q78_92, q78_95, q78_95N, q78_98, q78_99, q78_102, q78_105, q78_106, q78_109, q78_110, q78_111, q78_112, q78_115, q78_118, q78_119, q78_122, q78_125, q78_126, q78_129, q78_130, q78_131, q78_132, q78_e]
              · simp [q, q78_0, q78_1, q78_44, q78_45, q78_46, q78_49, q78_52, q78_53, q78_54, q78_57, q78_60, q78_62, q78_65, q78_68, q78_69, q78_72, q78_73, q78_74, q78_75, q78_76, q78_77, q78_78, q78_81, q78_81N, q78_84, q78_85, q78_88, q78_89, q78_90, q78_91, q78_92, q78_95, q78_95N, q78_98, q78_99, q78_102, q78_105, q78_106, q78_109, q78_110, q78_111, q78_112, q78_115, q78_118, q78_119, q78_122, q78_125, q78_126, q78_129, q78_130, q78_131, q78_132, q78_e, show ¬ (5 : Int32) = 2 by decide, show ¬ (5 : Int32) = 6 by decide, show ¬ (5 : Int32) = 1 by decide, show ¬ (5 : Int32) = 3 by decide, show ¬ (5 : Int32) = 4 by decide, show ¬ (5 : Int32) = 7 by decide]
          · by_cases h6 : k = 6
            · subst h6
              simp only [show pm_tsw 6 1 [44, 74, 76, 76, 90, 74, 111] 131 = 74 by decide, q78_0, q78_1, q78_44, q78_45, q78_46, q78_49, q78_52, q78_53, q78_54, q78_57, q78_60, q78_62, q78_65, q78_68, q78_69, q78_72, q78_73, q78_74, q78_75, q78_76, q78_77, q78_78, q78_81, q78_81N, q78_84, q78_85, q78_88, q78_89, q78_90, q78_91, q78_92, q78_95, q78_95N, q78_98, q78_99, q78_102, q78_105, q78_106, q78_109, q78_110, q78_111, q78_112, q78_115, q78_118, q78_119, q78_122, q78_125, q78_126, q78_129, q78_130, q78_131, q78_132, q78_e, true_or, or_true]
              simp
            · by_cases h7 : k = 7
              · subst h7
                simp only [show pm_tsw 7 1 [44, 74, 76, 76, 90, 74, 111] 131 = 111 by decide, q78_0, q78_1, q78_44, q78_45, q78_46, q78_49, q78_52, q78_53, q78_54, q78_57, q78_60, q78_62, q78_65, q78_68, q78_69, q78_72, q78_73, q78_74, q78_75, q78_76, q78_77, q78_78, q78_81, q78_81N, q78_84, q78_85, q78_88, q78_89, q78_90, q78_91, q78_92, q78_95, q78_95N, q78_98, q78_99, q78_102, q78_105, q78_106, q78_109, q78_110, q78_111, q78_112, q78_115, q78_118, q78_119, q78_122, q78_125, q78_126, q78_129, q78_130, q78_131, q78_132, q78_e, c_isTable, c_isOneOfThree, pm_tl_some, pm_z1, true_or, or_true]
                by_cases q1 : 0 ≤ b ∧ b < 4
                · by_cases q : 0 ≤ c ∧ c ≤ 2
                  · simp [q, q1]
                  · simp [q, q1, show ¬ (7 : Int32) = 2 by decide, show ¬ (7 : Int32) = 6 by decide, show ¬ (7 : Int32) = 1 by decide, show ¬ (7 : Int32) = 3 by decide, show ¬ (7 : Int32) = 4 by decide, show ¬ (7 : Int32) = 5 by decide]
                · simp [q1, show ¬ (7 : Int32) = 2 by decide, show ¬ (7 : Int32) = 6 by decide, show ¬ (7 : Int32) = 1 by decide, show ¬ (7 : Int32) = 3 by decide, show ¬ (7 : Int32) = 4 by decide, show ¬ (7 : Int32) = 5 by decide]
              · simp only [tsw_no h1 h2 h3 h4 h5 h6 h7 (ts := [44, 74, 76, 76, 90, 74, 111]) (df := 131) rfl, q78_0, q78_1, q78_44, q78_45, q78_46, q78_49, q78_52, q78_53, q78_54, q78_57, q78_60, q78_62, q78_65, q78_68, q78_69, q78_72, q78_73, q78_74, q78_75, q78_76, q78_77, q78_78, q78_81, q78_81N, q78_84, q78_85, q78_88, q78_89, q78_90, q78_91, q78_92, q78_95, q78_95N, q78_98, q78_99, q78_102, q78_105, q78_106, q78_109, q78_110, q78_111, q78_112, q78_115, q78_118, q78_119, q78_122, q78_125, q78_126, q78_129, q78_130, q78_131, q78_132, q78_e, true_or, or_true]
                simp [h1, h2, h3, h4, h5, h6, h7]
theorem fits_k (h : sp_fits Z k b c e) : 1 ≤ k.toNatClampNeg ∧ k.toNatClampNeg ≤ 7 ∧ k = nI k.toNatClampNeg := by
  rcases h with ⟨rfl, -⟩ | (rfl | rfl) | ⟨rfl | rfl, -⟩ | ⟨rfl, -⟩ | ⟨rfl, -⟩ <;> decide
theorem fits_vok (hw : wf Z) (h : sp_fits Z k b c e) : sp_vok Z.2.2 k.toNatClampNeg b c e := by
  have hts := hw.2.1.1
  have tq : ∀ {b : Int32}, (b = -1 ∨ (ix b Z.2.2.length).isSome = true) → ∃ tb, b = sp_eC tb ∧ sp_tq Z.2.2 tb := by
    intro b hb
    rcases hb with rfl | hb
    · exact ⟨none, rfl, fun x hx => by cases hx⟩
    · obtain ⟨y, hy⟩ := Option.isSome_iff_exists.mp hb
      obtain ⟨y1, y2⟩ := ix_some (by omega) hy
      exact ⟨some y, y2, fun x hx => by cases hx; exact y1⟩
  have c3 : ∀ {c : Int32}, 0 ≤ c → c ≤ 2 → ∃ m, c = nI m ∧ m < 3 := by
    intro c q1 q2
    obtain ⟨m, hm, rfl⟩ := nI_of (k2_nlt q1)
    refine ⟨m, rfl, ?_⟩
    rw [Int32.le_iff_toInt_le, nI_toInt hm] at q2
    have : (2 : Int32).toInt = 2 := rfl
    omega
  rcases h with ⟨rfl, h1, h2, h3⟩ | (rfl | rfl) | ⟨rfl | rfl, -⟩ | ⟨rfl, h1, h2, h3⟩ | ⟨rfl, h1, h2, h3⟩
  · refine ⟨fun _ => ?_, (fun h => absurd h (by decide)), (fun h => absurd h (by decide))⟩
    obtain ⟨tb, e1, q1⟩ := tq h1
    obtain ⟨tc, e2, q2⟩ := tq h2
    rcases h3 with rfl | rfl
    · exact ⟨tb, tc, 0, e1, e2, rfl, q1, q2, by decide⟩
    · exact ⟨tb, tc, 1, e1, e2, rfl, q1, q2, by decide⟩
  · exact ⟨(fun h => absurd h (by decide)), (fun h => absurd h (by decide)), (fun h => absurd h (by decide))⟩
  · exact ⟨(fun h => absurd h (by decide)), (fun h => absurd h (by decide)), (fun h => absurd h (by decide))⟩
  · exact ⟨(fun h => absurd h (by decide)), (fun h => absurd h (by decide)), (fun h => absurd h (by decide))⟩
  · exact ⟨(fun h => absurd h (by decide)), (fun h => absurd h (by decide)), (fun h => absurd h (by decide))⟩
  · refine ⟨(fun h => absurd h (by decide)), fun _ => c3 h2 h3, (fun h => absurd h (by decide))⟩
  · refine ⟨(fun h => absurd h (by decide)), (fun h => absurd h (by decide)), fun _ => ?_⟩
    obtain ⟨m, e1, q1⟩ := c3 h2 h3
    obtain ⟨t, ht, rfl⟩ := nI_of (k2_nlt h1.1)
    exact ⟨t, m, rfl, Classical.byContradiction fun q => nI_nlt (b := 4) (show 4 ≤ t by omega) (by omega) h1.2, e1, q1⟩
theorem fits_b (hw : wf Z) {j : Nat} (hj : j < Z.1.length) (h : sp_fits Z k b c e) : (vw_g Z k j b c e).2.2.1 < Z.1.length := by
  have hl := hw.1
  show (if k = 3 ∨ k = 4 ∨ k = 5 then (ix b Z.1.length).getD 0 else j) < _
  split
  · next q =>
    have : (ix b Z.1.length).isSome = true := by
      rcases h with ⟨rfl, -⟩ | (rfl | rfl) | ⟨-, h⟩ | ⟨-, h, -⟩ | ⟨rfl, -⟩
      · exact absurd q (by decide)
      · exact absurd q (by decide)
      · exact absurd q (by decide)
      · exact h
      · exact h
      · exact absurd q (by decide)
    obtain ⟨y, hy⟩ := Option.isSome_iff_exists.mp this
    rw [hy]
    exact (ix_some (by omega) hy).1
  · exact hj
theorem op_view_wf (hw : wf Z) : wf (op_view Z k a b c e).2 := by
  have hl := hw.1
  unfold op_view
  split
  · exact hw
  · next j hk =>
    obtain ⟨hj, -⟩ := ix_some (by omega) hk
    split
    · next hf =>
      split
      · next h24 =>
        obtain ⟨k1, k2, k3⟩ := fits_k hf
        refine wf_app hw h24 ⟨k2, fun _ => ⟨hj, fits_b hw hj hf, fits_vok hw hf, fun q => ?_⟩, (fun _ e he => by cases he), fun h => ?_, (fun h => by cases h), sp_wd_0⟩
        · show (if k = 3 ∨ k = 4 ∨ k = 5 then (ix b Z.1.length).getD 0 else j) = j
          rw [if_neg]
          intro z
          apply q
          rcases z with rfl | rfl | rfl
          · exact Or.inl rfl
          · exact Or.inr (Or.inl rfl)
          · exact Or.inr (Or.inr rfl)
        · have : k.toNatClampNeg = 0 := h
          omega
      · exact hw
    · exact hw
/-- a new view is told -/
theorem cI_view {S1 : pm_T} {M1 j : Nat} (hw : wf Z) (hj : j < Z.1.length) (hf : sp_fits Z k b c e) (j1 : cJ S1 x Z nw M1 (Z.1.length + 1)) : cI (pm_sgi (pm_sgi (pm_sgi (fG_bec S1 (ad x Z.1.length) k (some (ad x j)) (some (ad x (vw_g Z k j b c e).2.2.1))) (ad x Z.1.length) 9 b) (ad x Z.1.length) 10 c) (ad x Z.1.length) 11 e) x (Z.1 ++ [vw_g Z k j b c e], Z.2) nw M1 ∧ frO (cO x) S1 (pm_sgi (pm_sgi (pm_sgi (fG_bec S1 (ad x Z.1.length) k (some (ad x j)) (some (ad x (vw_g Z k j b c e).2.2.1))) (ad x Z.1.length) 9 b) (ad x Z.1.length) 10 c) (ad x Z.1.length) 11 e) := by
  have lM := j1.2.2.2.2.2.2.1
  have ag := ad_ge (x := x) (j := Z.1.length)
  have g1 : sG S1 (ad x Z.1.length) := j1.2.1.2.2.1 _ (by omega)
  obtain ⟨k1, k2, k3⟩ := fits_k hf
  obtain ⟨b1, b2, b3, b4, b5, b6, b7, b8, b9, b10⟩ := fG_bec_ok (v := k) (p := some (ad x j)) (q := some (ad x (vw_g Z k j b c e).2.2.1)) g1
  generalize hB : fG_bec S1 (ad x Z.1.length) k (some (ad x j)) (some (ad x (vw_g Z k j b c e).2.2.1)) = B at *
  have e0 : ∀ i, i ≠ 9 → i ≠ 10 → i ≠ 11 → pm_gi (pm_sgi (pm_sgi (pm_sgi B (ad x Z.1.length) 9 b) (ad x Z.1.length) 10 c) (ad x Z.1.length) 11 e) (ad x Z.1.length) i = pm_gi B (ad x Z.1.length) i := fun i q1 q2 q3 => by rw [ps_gi_gi, if_neg (fun q => q3 q.2), ps_gi_gi, if_neg (fun q => q2 q.2), ps_gi_gi, if_neg (fun q => q1 q.2)]
  have e9 : pm_gi (pm_sgi (pm_sgi (pm_sgi B (ad x Z.1.length) 9 b) (ad x Z.1.length) 10 c) (ad x Z.1.length) 11 e) (ad x Z.1.length) 9 = b := by simp [ps_gi_nx, ps_gi_sz, ps_gi_sh, ps_gi_gi, ps_gi_gl, ps_gi_gr, ps_gi_zi, ps_gi_zl, ps_gi_zr, ps_gi_ar, ps_gi_al, ps_gl_nx, ps_gl_sz, ps_gl_sh, ps_gl_gi, ps_gl_gl, ps_gl_gr, ps_gl_zi, ps_gl_zl, ps_gl_zr, ps_gl_ar, ps_gl_al, ps_gr_nx, ps_gr_sz, ps_gr_sh, ps_gr_gi, ps_gr_gl, ps_gr_gr, ps_gr_zi, ps_gr_zl, ps_gr_zr, ps_gr_ar, ps_gr_al, ps_zi_nx, ps_zi_sz, ps_zi_sh, ps_zi_gi, ps_zi_gl, ps_zi_gr, ps_zi_zi, ps_zi_zl, ps_zi_zr, ps_zi_ar, ps_zi_al, ps_zl_nx, ps_zl_sz, ps_zl_sh, ps_zl_gi, ps_zl_gl, ps_zl_gr, ps_zl_zi, ps_zl_zl, ps_zl_zr, ps_zl_ar, ps_zl_al, ps_zr_nx, ps_zr_sz, ps_zr_sh, ps_zr_gi, ps_zr_gl, ps_zr_gr, ps_zr_zi, ps_zr_zl, ps_zr_zr, ps_zr_ar, ps_zr_al, pm_rf_some, pm_rf_none, pm_tl_some, pm_tl_none]
  have e10 : pm_gi (pm_sgi (pm_sgi (pm_sgi B (ad x Z.1.length) 9 b) (ad x Z.1.length) 10 c) (ad x Z.1.length) 11 e) (ad x Z.1.length) 10 = c := by simp [ps_gi_nx, ps_gi_sz, ps_gi_sh, ps_gi_gi, ps_gi_gl, ps_gi_gr, ps_gi_zi, ps_gi_zl, ps_gi_zr, ps_gi_ar, ps_gi_al, ps_gl_nx, ps_gl_sz, ps_gl_sh, ps_gl_gi, ps_gl_gl, ps_gl_gr, ps_gl_zi, ps_gl_zl, ps_gl_zr, ps_gl_ar, ps_gl_al, ps_gr_nx, ps_gr_sz, ps_gr_sh, ps_gr_gi, ps_gr_gl, ps_gr_gr, ps_gr_zi, ps_gr_zl, ps_gr_zr, ps_gr_ar, ps_gr_al, ps_zi_nx, ps_zi_sz, ps_zi_sh, ps_zi_gi, ps_zi_gl, ps_zi_gr, ps_zi_zi, ps_zi_zl, ps_zi_zr, ps_zi_ar, ps_zi_al, ps_zl_nx, ps_zl_sz, ps_zl_sh, ps_zl_gi, ps_zl_gl, ps_zl_gr, ps_zl_zi, ps_zl_zl, ps_zl_zr, ps_zl_ar, ps_zl_al, ps_zr_nx, ps_zr_sz, ps_zr_sh, ps_zr_gi, ps_zr_gl, ps_zr_gr, ps_zr_zi, ps_zr_zl, ps_zr_zr, ps_zr_ar, ps_zr_al, pm_rf_some, pm_rf_none, pm_tl_some, pm_tl_none]
  have e11 : pm_gi (pm_sgi (pm_sgi (pm_sgi B (ad x Z.1.length) 9 b) (ad x Z.1.length) 10 c) (ad x Z.1.length) 11 e) (ad x Z.1.length) 11 = e := ps_gi_self
  have F2 : frO (cB (ad x Z.1.length)) S1 (pm_sgi (pm_sgi (pm_sgi B (ad x Z.1.length) 9 b) (ad x Z.1.length) 10 c) (ad x Z.1.length) 11 e) := b2.tr ((frO.gi ⟨by omega, by omega⟩).tr ((frO.gi ⟨by omega, by omega⟩).tr (frO.gi ⟨by omega, by omega⟩)))
  have bl : ∀ j, j < Z.1.length → ∀ b, cB (ad x j) b → ¬ cB (ad x Z.1.length) b := fun j hj b hb q => by
    have := ad_lt (x := x) hj
    unfold cB at hb q; omega
  have hbx : ∀ b, x ≤ b → b < x + 18 → ¬ cB (ad x Z.1.length) b := fun b q1 q2 q => by unfold cB at q; omega
  generalize hD : pm_sgi (pm_sgi (pm_sgi B (ad x Z.1.length) 9 b) (ad x Z.1.length) 10 c) (ad x Z.1.length) 11 e = D at *
  have hG : sG D (ad x Z.1.length) := by rw [← hD]; exact sG_sgi (sG_sgi (sG_sgi b1))
  have r7 : pm_gr D (ad x Z.1.length) 7 = some (ad x j) := by rw [← hD]; exact b8
  have r8 : pm_gr D (ad x Z.1.length) 8 = some (ad x (vw_g Z k j b c e).2.2.1) := by rw [← hD]; exact b9
  have nD : pm_nx D = pm_nx S1 := by rw [← hD]; exact b3
  have zD : pm_sz D = pm_sz S1 := by rw [← hD]; exact b4
  have gM : ∀ j, j < M1 → sG D (ad x j) := by
    intro j hj
    by_cases e : j = Z.1.length
    · subst e; exact hG
    · exact sG_frO (j1.2.1.2.2.1 j hj) F2 (fun b hb q => by have := ad_ne (x := x) e; unfold cB at hb q; omega)
  obtain ⟨h1, h2, h3, h4, h5, h6, h7, h8, h9, h10⟩ := cJ_frO j1 F2 hbx bl gM nD zD
  have hlen : (Z.1 ++ [vw_g Z k j b c e]).length = Z.1.length + 1 := by simp
  refine ⟨⟨h1, h2, by rw [hlen]; exact h3, h4, h5, h6, by rw [hlen]; exact h7, h8, h9, fun i hi => ?_⟩, F2.mono (fun b hb => by unfold cB at hb; unfold cO; omega)⟩
  have hi' : i < Z.1.length + 1 := by rw [← hlen]; exact hi
  by_cases ei : i = Z.1.length
  · subst ei
    unfold fresh
    dsimp only
    rw [gg_new]
    refine ⟨⟨by rw [e0 6 (by decide) (by decide) (by decide), b5]; exact k3, fun _ => ⟨r7, r8, e9, e10, e11⟩, by rw [e0 12 (by decide) (by decide) (by decide), b6]; rfl⟩, ⟨0, by omega, by rw [e0 13 (by decide) (by decide) (by decide), b7]; rfl⟩, fun q => ?_⟩
    rcases q with q | q | q
    · have : k.toNatClampNeg = 0 := q
      omega
    · cases q
    · rw [e0 13 (by decide) (by decide) (by decide), b7] at q
      have := (nI_eq (a := 0) (b := nw) (by decide) (by omega)).mp q
      omega
  · have hj2 : i < Z.1.length := by omega
    obtain ⟨p1, p2, p3⟩ := h10 i hj2
    rw [ct_app hw hj2]
    unfold fresh
    dsimp only
    rw [gg_app hj2]
    exact ⟨p1, p2, p3⟩
set_option maxHeartbeats 2000000 in
theorem c_view (hw : wf Z) (hI : cI S x Z nw M) (hQ : ∀ S' M', cI S' x (op_view Z k a b c e).2 nw M' → frO (cO x) S S' → Q (some (.int (op_view Z k a b c e).1)) S') : pm_N (d + 5) 61 [.ref x, .int k, .int a, .int b, .int c, .int e] S Q := by
  have hl := hw.1
  unfold op_view at hQ
  simp only [q61_0, q61_1, q61_2, q61_5, q61_5N, q61_7, q61_7N, q61_9, q61_9N, q61_12, q61_13, q61_14, q61_15, q61_17, q61_19, q61_22, q61_25, q61_27, q61_28, q61_29, q61_32, q61_35, q61_36, q61_37, q61_40, q61_43, q61_43N, q61_45, q61_45N, q61_47, q61_48, q61_51, q61_51N, q61_53, q61_53N, q61_55, q61_55N, q61_58, q61_60, q61_61, q61_61N, q61_63, q61_64, q61_64N, q61_66, q61_66N, q61_68, q61_71, q61_71N, q61_73, q61_74, q61_76, q61_78, q61_81, q61_82, q61_85, q61_86, q61_87, q61_e, hI.1.1, c_known hw hI, pm_tl_some]
  cases hk : ix a Z.1.length with
  | none =>
    rw [hk] at hQ
    simp only [Option.map_none, pm_rf_none, q61_0, q61_1, q61_2, q61_5, q61_5N, q61_7, q61_7N, q61_9, q61_9N, q61_12, q61_13, q61_14, q61_15, q61_17, q61_19, q61_22, q61_25, q61_27, q61_28, q61_29, q61_32, q61_35, q61_36, q61_37, q61_40, q61_43, q61_43N, q61_45, q61_45N, q61_47, q61_48, q61_51, q61_51N, q61_53, q61_53N, q61_55, q61_55N, q61_58, q61_60, q61_61, q61_61N, q61_63, q61_64, q61_64N, q61_66, q61_66N, q61_68, q61_71, q61_71N, q61_73, q61_74, q61_76, q61_78, q61_81, q61_82, q61_85, q61_86, q61_87, q61_e]
    exact hQ S M hI frO.rf
  | some j =>
    rw [hk] at hQ
    dsimp only at hQ
    obtain ⟨hj, -⟩ := ix_some (by omega) hk
    simp only [Option.map_some, pm_rf_some, q61_0, q61_1, q61_2, q61_5, q61_5N, q61_7, q61_7N, q61_9, q61_9N, q61_12, q61_13, q61_14, q61_15, q61_17, q61_19, q61_22, q61_25, q61_27, q61_28, q61_29, q61_32, q61_35, q61_36, q61_37, q61_40, q61_43, q61_43N, q61_45, q61_45N, q61_47, q61_48, q61_51, q61_51N, q61_53, q61_53N, q61_55, q61_55N, q61_58, q61_60, q61_61, q61_61N, q61_63, q61_64, q61_64N, q61_66, q61_66N, q61_68, q61_71, q61_71N, q61_73, q61_74, q61_76, q61_78, q61_81, q61_82, q61_85, q61_86, q61_87, q61_e, hI.1.1, c_fits hw hI, pm_tl_some, pm_z1]
    by_cases hf : sp_fits Z k b c e
    · rw [if_neg (fun h => h hf)]; rw [if_pos hf] at hQ
      have hb := fits_b hw hj hf
      have sec : ∀ (P : Prop), (P ↔ pm_V (d + 5) 61 47 [.ref x, .int k, .int a, .int b, .int c, .int e, .ref (ad x j), .ref (ad x (vw_g Z k j b c e).2.2.1), pm_j] [] S Q) → pm_V (d + 5) 61 47 [.ref x, .int k, .int a, .int b, .int c, .int e, .ref (ad x j), .ref (ad x (vw_g Z k j b c e).2.2.1), pm_j] [] S Q → P := fun P h q => h.mpr q
      have main : pm_V (d + 5) 61 47 [.ref x, .int k, .int a, .int b, .int c, .int e, .ref (ad x j), .ref (ad x (vw_g Z k j b c e).2.2.1), pm_j] [] S Q := by
        simp only [q61_0, q61_1, q61_2, q61_5, q61_5N, q61_7, q61_7N, q61_9, q61_9N, q61_12, q61_13, q61_14, q61_15, q61_17, q61_19, q61_22, q61_25, q61_27, q61_28, q61_29, q61_32, q61_35, q61_36, q61_37, q61_40, q61_43, q61_43N, q61_45, q61_45N, q61_47, q61_48, q61_51, q61_51N, q61_53, q61_53N, q61_55, q61_55N, q61_58, q61_60, q61_61, q61_61N, q61_63, q61_64, q61_64N, q61_66, q61_66N, q61_68, q61_71, q61_71N, q61_73, q61_74, q61_76, q61_78, q61_81, q61_82, q61_85, q61_86, q61_87, q61_e, hI.1.1]
        by_cases h24 : Z.1.length < 24
        · rw [if_pos h24] at hQ
          refine c_nextGraph hI h24 fun S1 M1 j1 f1 => ?_
          have lM := j1.2.2.2.2.2.2.1
          have g1 : sG S1 (ad x Z.1.length) := j1.2.1.2.2.1 _ (by omega)
          obtain ⟨b1, b2, b3, b4, b5, b6, b7, b8, b9, b10⟩ := fG_bec_ok (v := k) (p := some (ad x j)) (q := some (ad x (vw_g Z k j b c e).2.2.1)) g1
          have eb : ∀ Q, pm_N (d + 4) 1 [.ref (ad x Z.1.length), .int k, .ref (ad x j), .ref (ad x (vw_g Z k j b c e).2.2.1)] S1 Q = Q none (fG_bec S1 (ad x Z.1.length) k (some (ad x j)) (some (ad x (vw_g Z k j b c e).2.2.1))) := fun Q => c_become g1
          obtain ⟨z1, z2⟩ := cI_view hw hj hf j1
          have x4 := z1.2.2.1
          have xs := z1.1.1
          simp only [pm_tl_some, q61_0, q61_1, q61_2, q61_5, q61_5N, q61_7, q61_7N, q61_9, q61_9N, q61_12, q61_13, q61_14, q61_15, q61_17, q61_19, q61_22, q61_25, q61_27, q61_28, q61_29, q61_32, q61_35, q61_36, q61_37, q61_40, q61_43, q61_43N, q61_45, q61_45N, q61_47, q61_48, q61_51, q61_51N, q61_53, q61_53N, q61_55, q61_55N, q61_58, q61_60, q61_61, q61_61N, q61_63, q61_64, q61_64N, q61_66, q61_66N, q61_68, q61_71, q61_71N, q61_73, q61_74, q61_76, q61_78, q61_81, q61_82, q61_85, q61_86, q61_87, q61_e, g1.1, eb, pm_tl_none, b1.1, c_choose b1]
          rw [show (Z.1 ++ [vw_g Z k j b c e], Z.2).1.length = Z.1.length + 1 by simp] at x4
          simp only [q61_0, q61_1, q61_2, q61_5, q61_5N, q61_7, q61_7N, q61_9, q61_9N, q61_12, q61_13, q61_14, q61_15, q61_17, q61_19, q61_22, q61_25, q61_27, q61_28, q61_29, q61_32, q61_35, q61_36, q61_37, q61_40, q61_43, q61_43N, q61_45, q61_45N, q61_47, q61_48, q61_51, q61_51N, q61_53, q61_53N, q61_55, q61_55N, q61_58, q61_60, q61_61, q61_61N, q61_63, q61_64, q61_64N, q61_66, q61_66N, q61_68, q61_71, q61_71N, q61_73, q61_74, q61_76, q61_78, q61_81, q61_82, q61_85, q61_86, q61_87, q61_e, xs, x4, nI_s1]
          exact hQ _ M1 z1 (f1.tr z2)
        · rw [if_neg h24] at hQ
          simp only [c_nextNull hI (by omega), pm_tl_some, q61_0, q61_1, q61_2, q61_5, q61_5N, q61_7, q61_7N, q61_9, q61_9N, q61_12, q61_13, q61_14, q61_15, q61_17, q61_19, q61_22, q61_25, q61_27, q61_28, q61_29, q61_32, q61_35, q61_36, q61_37, q61_40, q61_43, q61_43N, q61_45, q61_45N, q61_47, q61_48, q61_51, q61_51N, q61_53, q61_53N, q61_55, q61_55N, q61_58, q61_60, q61_61, q61_61N, q61_63, q61_64, q61_64N, q61_66, q61_66N, q61_68, q61_71, q61_71N, q61_73, q61_74, q61_76, q61_78, q61_81, q61_82, q61_85, q61_86, q61_87, q61_e]
          exact hQ S M hI frO.rf
      simp only [c_isOfTwo, pm_tl_some, q61_0, q61_1, q61_2, q61_5, q61_5N, q61_7, q61_7N, q61_9, q61_9N, q61_12, q61_13, q61_14, q61_15, q61_17, q61_19, q61_22, q61_25, q61_27, q61_28, q61_29, q61_32, q61_35, q61_36, q61_37, q61_40, q61_43, q61_43N, q61_45, q61_45N, q61_48, q61_51, q61_51N, q61_53, q61_53N, q61_55, q61_55N, q61_58, q61_60, q61_61, q61_61N, q61_63, q61_64, q61_64N, q61_66, q61_66N, q61_68, q61_71, q61_71N, q61_73, q61_74, q61_76, q61_78, q61_81, q61_82, q61_85, q61_86, q61_87, q61_e, pm_z1]
      by_cases h2 : k = 3 ∨ k = 4 ∨ k = 5
      · rw [if_neg (fun h => h h2)]
        have e2 : (vw_g Z k j b c e).2.2.1 = (ix b Z.1.length).getD 0 := by show (if _ then _ else _) = _; rw [if_pos h2]
        have : (ix b Z.1.length).isSome = true := by
          rcases hf with ⟨rfl, -⟩ | (rfl | rfl) | ⟨-, h⟩ | ⟨-, h, -⟩ | ⟨rfl, -⟩
          · exact absurd h2 (by decide)
          · exact absurd h2 (by decide)
          · exact absurd h2 (by decide)
          · exact h
          · exact h
          · exact absurd h2 (by decide)
        obtain ⟨y, hy⟩ := Option.isSome_iff_exists.mp this
        rw [hy] at e2
        rw [e2] at main
        simp only [hI.1.1, c_known hw hI, hy, Option.map_some, pm_rf_some, pm_tl_some, q61_0, q61_1, q61_2, q61_5, q61_5N, q61_7, q61_7N, q61_9, q61_9N, q61_12, q61_13, q61_14, q61_15, q61_17, q61_19, q61_22, q61_25, q61_27, q61_28, q61_29, q61_32, q61_35, q61_36, q61_37, q61_40, q61_43, q61_43N, q61_45, q61_45N, q61_48, q61_51, q61_51N, q61_53, q61_53N, q61_55, q61_55N, q61_58, q61_60, q61_61, q61_61N, q61_63, q61_64, q61_64N, q61_66, q61_66N, q61_68, q61_71, q61_71N, q61_73, q61_74, q61_76, q61_78, q61_81, q61_82, q61_85, q61_86, q61_87, q61_e]
        exact main
      · rw [if_pos h2]
        have e2 : (vw_g Z k j b c e).2.2.1 = j := by show (if _ then _ else _) = _; rw [if_neg h2]
        rw [e2] at main
        exact main
    · rw [if_pos hf]; rw [if_neg hf] at hQ; exact hQ S M hI frO.rf
/-! clear -/
set_option maxHeartbeats 1000000 in
theorem c_rem_1 {tb : Nat} (hX : cX S x) (ht : tb < 4) {l2 : Value} (hQ : ∀ S', (∀ i, i < 40 → pm_zi S' (x + 2 + 7 + tb) i = -1) → sp_fr (fun b => b = x + 2 + 7 + tb) S S' → pm_V d 74 30 [.ref x, .int (nI tb), .int (nI 40)] [] S' Q) : pm_V d 74 9 [.ref x, .int (nI tb), .int (nI 0)] [] S Q := by
  refine sp_loop (n := 40) (P := fun b => b = x + 2 + 7 + tb) (Inv := fun k S => cX S x ∧ ∀ i, i < k → pm_zi S (x + 2 + 7 + tb) i = -1) (head := fun k S => pm_V d 74 9 [.ref x, .int (nI tb), .int (nI k)] [] S Q) (fin := fun S => pm_V d 74 30 [.ref x, .int (nI tb), .int (nI 40)] [] S Q) ?_ ?_ S ⟨hX, fun i hi => by omega⟩ (fun S' h1 h2 => hQ S' h1.2 h2)
  · rintro k S hk ⟨hX, hz⟩ _ hN
    have r2 : ∀ t, t < 4 → pm_zr S (x + 8) t = some (x + 2 + 7 + t) ∧ pm_sh S (x + 2 + 7 + t) = .inl (0, 40) := hX.2.2.2.2.2.2.2.2.2.2.2.2.2.2.2.1
    have r3 : pm_sh S (x + 8) = .inl (3, 4) := hX.2.2.2.2.2.2.2.2.2.2.2.2.2.2.1
    have a1 := pm_ar_nI r3 ht (by decide)
    have a2 := pm_ar_nI (r2 tb ht).2 hk (by decide)
    have e1 : nI k < 40 := nI_lt (b := 40) hk (by decide)
    have q2 : sp_fr (fun b => b = x + 2 + 7 + tb) S (pm_szi S (x + 2 + 7 + tb) k (-1)) := sp_fr.zi rfl
    rw [q74_9]
    simp only [q74_0, q74_1, q74_3, q74_4, q74_7, q74_8, q74_10, q74_12, q74_15, q74_16, q74_19, q74_20, q74_20r, q74_21, q74_22, q74_23, q74_24, q74_27, q74_33, q74_36, q74_e, e1, if_true, hX.1, hX.2.2.2.2.1, pm_rf_some, a1, a2, nI_clamp (show tb < 2 ^ 31 by omega), nI_clamp (show k < 2 ^ 31 by omega), (r2 tb ht).1, nI_1]
    refine hN _ ⟨cX_fr hX q2, fun i hi => ?_⟩ q2
    rw [ps_zi_zi]
    by_cases e : i = k
    · rw [if_pos ⟨rfl, e⟩]
    · rw [if_neg (fun q => e q.2)]; exact hz i (by omega)
  · rintro S - hF
    rw [q74_9]
    simp only [q74_0, q74_1, q74_3, q74_4, q74_7, q74_8, q74_10, q74_12, q74_15, q74_16, q74_19, q74_20, q74_20r, q74_21, q74_22, q74_23, q74_24, q74_27, q74_33, q74_36, q74_e, show ¬ nI 40 < 40 by decide, if_false]
    exact hF
set_option maxHeartbeats 1000000 in
theorem c_removeLabels (hX : cX S x) (hQ : ∀ S', cL S' (x + 2) (fun _ _ => none) → sp_fr (fun b => x + 9 ≤ b ∧ b < x + 13) S S' → Q none S') : pm_N d 74 [.ref x] S Q := by
  simp only [q74_0, q74_1, q74_3, q74_4, q74_7, q74_8, q74_10, q74_12, q74_15, q74_16, q74_19, q74_20, q74_20r, q74_21, q74_22, q74_23, q74_24, q74_27, q74_30, q74_33, q74_36, q74_e]
  have key : ∀ l2, pm_V d 74 2 [.ref x, .int (nI 0), l2] [] S Q := by
    refine sp_loop (n := 4) (P := fun b => x + 9 ≤ b ∧ b < x + 13) (Inv := fun k S => cX S x ∧ ∀ t i, t < k → i < 40 → pm_zi S (x + 2 + 7 + t) i = -1) (head := fun k S => ∀ l2, pm_V d 74 2 [.ref x, .int (nI k), l2] [] S Q) (fin := fun S => Q none S) ?_ ?_ S ⟨hX, fun t i ht => by omega⟩ (fun S' h1 h2 => hQ S' (fun t i ht hi => h1.2 t i ht hi) h2)
    · rintro k S hk ⟨hX, hz⟩ _ hN l2
      have e1 : nI k < 4 := nI_lt (b := 4) hk (by decide)
      rw [q74_2]
      simp only [q74_0, q74_1, q74_3, q74_4, q74_7, q74_8, q74_10, q74_12, q74_15, q74_16, q74_19, q74_20, q74_20r, q74_21, q74_22, q74_23, q74_24, q74_27, q74_33, q74_36, q74_e, e1, if_true]
      refine c_rem_1 (l2 := l2) hX hk fun S' q1 q2 => ?_
      simp only [q74_0, q74_1, q74_3, q74_4, q74_7, q74_8, q74_10, q74_12, q74_15, q74_16, q74_19, q74_20, q74_20r, q74_21, q74_22, q74_23, q74_24, q74_27, q74_30, q74_33, q74_36, q74_e, nI_1]
      refine hN S' ⟨cX_fr hX q2, fun t i ht hi => ?_⟩ (q2.mono (fun b hb => by omega)) _
      by_cases e : t = k
      · subst e; exact q1 i hi
      · rw [(q2.2.2.2.2.2 (x + 2 + 7 + t) (by omega)).2.2.1]; exact hz t i (by omega) hi
    · rintro S - hF l2
      rw [q74_2]
      simp only [q74_0, q74_1, q74_3, q74_4, q74_7, q74_8, q74_10, q74_12, q74_15, q74_16, q74_19, q74_20, q74_20r, q74_21, q74_22, q74_23, q74_24, q74_27, q74_30, q74_33, q74_36, q74_e, show ¬ nI 4 < 4 by decide, if_false]
      exact hF
  exact key _
theorem c_clear (hn : nw < 2000) (hI : cI S x Z nw M) (hQ : ∀ S', cI S' x (op_clear Z).2 (nw + 1) M → frO (cO x) S S' → Q (some (.int (op_clear Z).1)) S') : pm_N (d + 1) 73 [.ref x] S Q := by
  obtain ⟨h1, h2, h3, h4, h5, h6, h7, h8, h9, h10⟩ := id hI
  have f1 : frO (cO x) S (pm_sgi (pm_sgi S x 4 0) (x + 3) 4 0) := (frO.gi (Or.inl ⟨by omega, by omega⟩)).tr (frO.gi (Or.inl ⟨by omega, by omega⟩))
  have hX : cX (pm_sgi (pm_sgi S x 4 0) (x + 3) 4 0) x := h1
  simp only [q73_0, q73_1, q73_4, q73_5, q73_6, q73_7, q73_10, q73_11, q73_14, q73_15, q73_18, q73_19, q73_22, q73_23, q73_24, q73_27, q73_28, q73_29, q73_32, q73_33, q73_e, h1.1, h3, h1.2.2.2.1, pm_rf_some, h8.1.1, ps_gi_nx, ps_gi_sz, ps_gi_sh, ps_gi_gi, ps_gi_gl, ps_gi_gr, ps_gi_zi, ps_gi_zl, ps_gi_zr, ps_gi_ar, ps_gi_al, ps_gl_nx, ps_gl_sz, ps_gl_sh, ps_gl_gi, ps_gl_gl, ps_gl_gr, ps_gl_zi, ps_gl_zl, ps_gl_zr, ps_gl_ar, ps_gl_al, ps_gr_nx, ps_gr_sz, ps_gr_sh, ps_gr_gi, ps_gr_gl, ps_gr_gr, ps_gr_zi, ps_gr_zl, ps_gr_zr, ps_gr_ar, ps_gr_al, ps_zi_nx, ps_zi_sz, ps_zi_sh, ps_zi_gi, ps_zi_gl, ps_zi_gr, ps_zi_zi, ps_zi_zl, ps_zi_zr, ps_zi_ar, ps_zi_al, ps_zl_nx, ps_zl_sz, ps_zl_sh, ps_zl_gi, ps_zl_gl, ps_zl_gr, ps_zl_zi, ps_zl_zl, ps_zl_zr, ps_zl_ar, ps_zl_al, ps_zr_nx, ps_zr_sz, ps_zr_sh, ps_zr_gi, ps_zr_gl, ps_zr_gr, ps_zr_zi, ps_zr_zl, ps_zr_zr, ps_zr_ar, ps_zr_al, pm_rf_some, pm_rf_none, pm_tl_some, pm_tl_none]
  refine c_removeLabels hX fun S1 l1 q1 => ?_
  have e5 : pm_gi S1 x 5 = nI nw := by
    rw [(q1.2.2.2.2.2 x (by omega)).1, ps_gi_gi, if_neg (by omega), ps_gi_gi, if_neg (by omega)]
    exact h4
  simp only [pm_tl_none, q73_0, q73_1, q73_4, q73_5, q73_6, q73_7, q73_10, q73_11, q73_14, q73_15, q73_18, q73_19, q73_22, q73_23, q73_24, q73_27, q73_28, q73_29, q73_32, q73_33, q73_e, (cX_fr hX q1).1, e5, nI_1]
  refine hQ _ ⟨cX_fr (S' := S1) hX q1, cM_fr (S' := S1) (S := pm_sgi (pm_sgi S x 4 0) (x + 3) 4 0) h2 q1, ?_, ps_gi_self, by omega, by omega, Nat.zero_le _, ⟨?_, ?_, fun k hk => by cases hk⟩, l1, fun j hj => by cases hj⟩ (f1.tr (((frO.of q1).mono (fun b hb => Or.inl (by omega))).tr (frO.gi (Or.inl ⟨by omega, by omega⟩))))
  · rw [ps_gi_gi, if_neg (by omega), (q1.2.2.2.2.2 x (by omega)).1, ps_gi_gi, if_neg (by omega), ps_gi_self]; rfl
  · exact (cX_fr (S' := S1) hX q1).2.2.2.2.2.2.2.2.2.2.2.2.1
  · rw [ps_gi_gi, if_neg (by omega), (q1.2.2.2.2.2 (x + 3) (by omega)).1, ps_gi_self]; rfl
end
