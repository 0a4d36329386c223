/-! ===== the class: small methods ===== -/
/-- Tests at a -/
def sT (S : pm_T) (a : Nat) : Prop := pm_sh S a = .inr 5 ∧ pm_gr S a 0 = some (a + 1) ∧ pm_gr S a 1 = some (a + 2) ∧ pm_gr S a 2 = some (a + 3) ∧ pm_gr S a 3 = some (a + 4) ∧ pm_sh S (a + 1) = .inl (0, 20) ∧ pm_sh S (a + 2) = .inl (1, 20) ∧ pm_sh S (a + 3) = .inl (0, 20) ∧ pm_sh S (a + 4) = .inl (0, 20)
/-- Heaps at a -/
def sP (S : pm_T) (a : Nat) : Prop := pm_sh S a = .inr 1 ∧ pm_gr S a 0 = some (a + 1) ∧ pm_gr S a 1 = some (a + 2) ∧ pm_sh S (a + 1) = .inl (1, 100) ∧ pm_sh S (a + 2) = .inl (0, 100)
/-- a number of a test, if there are n -/
def sp_tin (x n : Int32) : Bool := decide (0 ≤ x ∧ x < n ∧ x < 20)
section
variable {d a n k : Nat} {S : pm_T} {Q : Option Value → pm_T → Prop} {i j x y z : Int32} {v : Int64}
theorem c_isOneOfTwo : pm_N d 82 [.int i] S Q = Q (some (.int (if i = 0 ∨ i = 1 then 1 else 0))) S := by
  simp only [q82_0, q82_1, q82_4, q82_5, q82_6, q82_9, q82_10, q82_13, q82_14, q82_e, or_true, true_or]
  by_cases h1 : i = 0
  · simp [h1]
  · by_cases h2 : i = 1 <;> simp [h1, h2]
theorem c_isOneOfThree : pm_N d 83 [.int i] S Q = Q (some (.int (if 0 ≤ i ∧ i ≤ 2 then 1 else 0))) S := by
  simp only [q83_0, q83_1, q83_4, q83_5, q83_6, q83_9, q83_10, q83_13, q83_14, q83_e, or_true, true_or]
  by_cases h1 : i < 0
  · rw [if_pos h1, if_neg (fun h => k2_nlt h.1 h1)]
  · rw [if_neg h1]
    by_cases h2 : i ≤ 2
    · rw [if_pos h2, if_pos ⟨k2_le h1, h2⟩]
    · rw [if_neg h2, if_neg (fun h => h2 h.2)]
theorem c_isTable : pm_N d 81 [.int i] S Q = Q (some (.int (if 0 ≤ i ∧ i < 4 then 1 else 0))) S := by
  simp only [q81_0, q81_1, q81_4, q81_5, q81_6, q81_9, q81_10, q81_13, q81_14, q81_e, or_true, true_or]
  by_cases h1 : i < 0
  · rw [if_pos h1, if_neg (fun h => k2_nlt h.1 h1)]
  · rw [if_neg h1]
    by_cases h2 : i < 4
    · rw [if_pos h2, if_pos ⟨k2_le h1, h2⟩]
    · rw [if_neg h2, if_neg (fun h => h2 h.2)]
theorem c_isOfTwo : pm_N d 80 [.int i] S Q = Q (some (.int (if i = 3 ∨ i = 4 ∨ i = 5 then 1 else 0))) S := by
  simp only [q80_0, q80_1, q80_2, q80_5, q80_6, q80_7, q80_10, q80_11, q80_12, q80_15, q80_16, q80_19, q80_20, q80_e, or_true, true_or]
  by_cases h1 : i = 3
  · simp [h1]
  · by_cases h2 : i = 4
    · simp [h1, h2]
    · by_cases h3 : i = 5 <;> simp [h1, h2, h3]
theorem c_tHas (hT : sT S a) : pm_N d 45 [.ref a, .int i] S Q = Q (some (.int (if sp_tin i (pm_gi S a 4) = true then 1 else 0))) S := by
  unfold sp_tin
  simp only [q45_0, q45_1, q45_4, q45_5, q45_6, q45_9, q45_12, q45_13, q45_15, q45_18, q45_19, q45_22, q45_23, q45_e, hT.1, or_true, true_or, decide_eq_true_eq]
  by_cases h1 : i < 0
  · rw [if_pos h1, if_neg (fun h => k2_nlt h.1 h1)]
  · rw [if_neg h1]
    by_cases h2 : i < pm_gi S a 4
    · rw [if_pos h2]
      by_cases h3 : i < 20
      · rw [if_pos h3, if_pos ⟨k2_le h1, h2, h3⟩]
      · rw [if_neg h3, if_neg (fun h => h3 h.2.2)]
    · rw [if_neg h2, if_neg (fun h => h2 h.2.1)]
theorem c_tBegin (hT : sT S a) : pm_N d 48 [.ref a] S Q = Q none (pm_sgi (pm_sgi S a 5 0) a 6 0) := by
  simp only [q48_0, q48_1, q48_2, q48_5, q48_6, q48_7, q48_10, q48_e, hT.1, ps_gi_nx, ps_gi_sz, ps_gi_sh, ps_gi_gi, ps_gi_gl, ps_gi_gr, ps_gi_zi, ps_gi_zl, ps_gi_zr, ps_gi_ar, ps_gi_al, ps_gl_nx, ps_gl_sz, ps_gl_sh, ps_gl_gi, ps_gl_gl, ps_gl_gr, ps_gl_zi, ps_gl_zl, ps_gl_zr, ps_gl_ar, ps_gl_al, ps_gr_nx, ps_gr_sz, ps_gr_sh, ps_gr_gi, ps_gr_gl, ps_gr_gr, ps_gr_zi, ps_gr_zl, ps_gr_zr, ps_gr_ar, ps_gr_al, ps_zi_nx, ps_zi_sz, ps_zi_sh, ps_zi_gi, ps_zi_gl, ps_zi_gr, ps_zi_zi, ps_zi_zl, ps_zi_zr, ps_zi_ar, ps_zi_al, ps_zl_nx, ps_zl_sz, ps_zl_sh, ps_zl_gi, ps_zl_gl, ps_zl_gr, ps_zl_zi, ps_zl_zl, ps_zl_zr, ps_zl_ar, ps_zl_al, ps_zr_nx, ps_zr_sz, ps_zr_sh, ps_zr_gi, ps_zr_gl, ps_zr_gr, ps_zr_zi, ps_zr_zl, ps_zr_zr, ps_zr_ar, ps_zr_al, pm_rf_some, pm_rf_none, pm_tl_some, pm_tl_none]
theorem c_answer : pm_N d 53 [.int i] S Q = Q (some (.int (if i = 0 then 0 else 1))) S := by
  simp only [q53_0, q53_1, q53_4, q53_5, q53_8, q53_9, q53_e]
  split <;> rfl
theorem c_begun (hT : sT S a) : pm_N d 54 [.ref a, .int i] S Q = Q (some (.int (if pm_gi S a 6 + 1 ≤ 8 then -i else -5))) (pm_sgi S a 6 (pm_gi S a 6 + 1)) := by
  simp only [q54_0, q54_1, q54_2, q54_5, q54_6, q54_7, q54_10, q54_11, q54_14, q54_16, q54_19, q54_21, q54_24, q54_25, q54_26, q54_e, hT.1, ps_gi_nx, ps_gi_sz, ps_gi_sh, ps_gi_gi, ps_gi_gl, ps_gi_gr, ps_gi_zi, ps_gi_zl, ps_gi_zr, ps_gi_ar, ps_gi_al, ps_gl_nx, ps_gl_sz, ps_gl_sh, ps_gl_gi, ps_gl_gl, ps_gl_gr, ps_gl_zi, ps_gl_zl, ps_gl_zr, ps_gl_ar, ps_gl_al, ps_gr_nx, ps_gr_sz, ps_gr_sh, ps_gr_gi, ps_gr_gl, ps_gr_gr, ps_gr_zi, ps_gr_zl, ps_gr_zr, ps_gr_ar, ps_gr_al, ps_zi_nx, ps_zi_sz, ps_zi_sh, ps_zi_gi, ps_zi_gl, ps_zi_gr, ps_zi_zi, ps_zi_zl, ps_zi_zr, ps_zi_ar, ps_zi_al, ps_zl_nx, ps_zl_sz, ps_zl_sh, ps_zl_gi, ps_zl_gl, ps_zl_gr, ps_zl_zi, ps_zl_zl, ps_zl_zr, ps_zl_ar, ps_zl_al, ps_zr_nx, ps_zr_sz, ps_zr_sh, ps_zr_gi, ps_zr_gl, ps_zr_gr, ps_zr_zi, ps_zr_zl, ps_zr_zr, ps_zr_ar, ps_zr_al, pm_rf_some, pm_rf_none, pm_tl_some, pm_tl_none, and_self, if_true]
  split <;> rfl
theorem c_tAdd (hT : sT S a) (hk : pm_gi S a 4 = nI k) (hk2 : k < 20) : pm_N d 47 [.ref a, .int i, .long v, .int x, .int y] S Q = Q none (pm_sgi (pm_szi (pm_szi (pm_szl (pm_szi S (a + 1) k i) (a + 2) k v) (a + 3) k x) (a + 4) k y) a 4 (nI (k + 1))) := by
  obtain ⟨h1, h2, h3, h4, h5, h6, h7, h8, h9⟩ := hT
  have e1 := pm_ar_nI h6 hk2 (by decide)
  have e2 := pm_ar_nI h7 hk2 (by decide)
  have e3 := pm_ar_nI h8 hk2 (by decide)
  have e4 := pm_ar_nI h9 hk2 (by decide)
  have e5 := nI_clamp (show k < 2 ^ 31 by omega)
  have e6 : nI k < 20 := nI_lt (b := 20) hk2 (by decide)
  simp only [q47_0, q47_1, q47_4, q47_6, q47_9, q47_10, q47_11, q47_14, q47_15, q47_18, q47_19, q47_20, q47_21, q47_24, q47_25, q47_28, q47_29, q47_30, q47_31, q47_34, q47_35, q47_38, q47_40, q47_41, q47_42, q47_45, q47_46, q47_49, q47_51, q47_52, q47_53, q47_54, q47_57, q47_58, q47_59, q47_62, q47_e, h1, hk, e6, if_true, ps_gi_nx, ps_gi_sz, ps_gi_sh, ps_gi_gi, ps_gi_gl, ps_gi_gr, ps_gi_zi, ps_gi_zl, ps_gi_zr, ps_gi_ar, ps_gi_al, ps_gl_nx, ps_gl_sz, ps_gl_sh, ps_gl_gi, ps_gl_gl, ps_gl_gr, ps_gl_zi, ps_gl_zl, ps_gl_zr, ps_gl_ar, ps_gl_al, ps_gr_nx, ps_gr_sz, ps_gr_sh, ps_gr_gi, ps_gr_gl, ps_gr_gr, ps_gr_zi, ps_gr_zl, ps_gr_zr, ps_gr_ar, ps_gr_al, ps_zi_nx, ps_zi_sz, ps_zi_sh, ps_zi_gi, ps_zi_gl, ps_zi_gr, ps_zi_zi, ps_zi_zl, ps_zi_zr, ps_zi_ar, ps_zi_al, ps_zl_nx, ps_zl_sz, ps_zl_sh, ps_zl_gi, ps_zl_gl, ps_zl_gr, ps_zl_zi, ps_zl_zl, ps_zl_zr, ps_zl_ar, ps_zl_al, ps_zr_nx, ps_zr_sz, ps_zr_sh, ps_zr_gi, ps_zr_gl, ps_zr_gr, ps_zr_zi, ps_zr_zl, ps_zr_zr, ps_zr_ar, ps_zr_al, pm_rf_some, pm_rf_none, pm_tl_some, pm_tl_none, h2, h3, h4, h5, pm_rf_some, e1, e2, e3, e4, e5, nI_1]
theorem c_tFits (hT : sT S a) : pm_N (d + 1) 46 [.ref a, .int i, .int x, .int y] S Q = Q (some (.int (if ¬ i < 0 ∧ i ≤ 8 ∧ (i < 4 ∨ sp_tin x (pm_gi S a 4) = true) ∧ (¬ (i = 5 ∨ i = 6) ∨ sp_tin y (pm_gi S a 4) = true) then 1 else 0))) S := by
  simp only [q46_0, q46_1, q46_4, q46_5, q46_7, q46_10, q46_11, q46_12, q46_13, q46_14, q46_17, q46_18, q46_21, q46_22, q46_24, q46_25, q46_26, q46_29, q46_30, q46_32, q46_35, q46_36, q46_39, q46_40, q46_42, q46_44, q46_47, q46_48, q46_49, q46_52, q46_55, q46_57, q46_60, q46_61, q46_62, q46_65, q46_68, q46_69, q46_72, q46_73, q46_e, hT.1, c_tHas hT, pm_tl_some, pm_b01, or_true, true_or, pm_z1]
  by_cases a1 : i < 0
  · simp [a1]
  · by_cases a2 : i ≤ 8
    · by_cases a3 : i < 4 <;> by_cases a4 : i = 5 <;> by_cases a5 : i = 6 <;> cases a6 : sp_tin x (pm_gi S a 4) <;> cases a7 : sp_tin y (pm_gi S a 4) <;> simp [a1, a2, a3, a4, a5]
    · simp [a1, a2]
end
