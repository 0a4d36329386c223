/-! ===== the class: small methods ===== -/
/-- Tests at a -/
def sT (S : pm_T) (a : Nat) : Prop := pm_sh S a = .inr 5 ∧ pm_gr S a 0 = some (a + 1) ∧ pm_gr S a 1 = some (a + 2) ∧ pm_gr S a 2 = some (a + 3) ∧ pm_gr S a 3 = some (a + 4) ∧ pm_sh S (a + 1) = .inl (0, 20) ∧ pm_sh S (a + 2) = .inl (1, 20) ∧ pm_sh S (a + 3) = .inl (0, 20) ∧ pm_sh S (a + 4) = .inl (0, 20)
/-- Heaps at a -/
def sP (S : pm_T) (a : Nat) : Prop := pm_sh S a = .inr 1 ∧ pm_gr S a 0 = some (a + 1) ∧ pm_gr S a 1 = some (a + 2) ∧ pm_sh S (a + 1) = .inl (1, 100) ∧ pm_sh S (a + 2) = .inl (0, 100)
/-- a number of a test, if there are n -/
def sp_tin (x n : Int32) : Bool := decide (0 ≤ x ∧ x < n ∧ x < 20)
section
variable {d a n k : Nat} {S : pm_T} {Q : Option Value → pm_T → Prop} {i j x y z : Int32} {v : Int64}
theorem c_isOneOfTwo : pm_N d 83 [.int i] S Q = Q (some (.int (if i = 0 ∨ i = 1 then 1 else 0))) S := by
  simp only [q83_0, q83_1, q83_4, q83_5, q83_6, q83_9, q83_10, q83_13, q83_14, q83_e, or_true, true_or]
  by_cases h1 : i = 0
  · simp [h1]
  · by_cases h2 : i = 1 <;> simp [h1, h2]
theorem c_isOneOfThree : pm_N d 84 [.int i] S Q = Q (some (.int (if 0 ≤ i ∧ i ≤ 2 then 1 else 0))) S := by
  simp only [q84_0, q84_1, q84_4, q84_5, q84_6, q84_9, q84_10, q84_13, q84_14, q84_e, or_true, true_or]
  by_cases h1 : i < 0
  · rw [if_pos h1, if_neg (fun h => k2_nlt h.1 h1)]
  · rw [if_neg h1]
    by_cases h2 : i ≤ 2
    · rw [if_pos h2, if_pos ⟨k2_le h1, h2⟩]
    · rw [if_neg h2, if_neg (fun h => h2 h.2)]
theorem c_isTable : pm_N d 82 [.int i] S Q = Q (some (.int (if 0 ≤ i ∧ i < 4 then 1 else 0))) S := by
  simp only [q82_0, q82_1, q82_4, q82_5, q82_6, q82_9, q82_10, q82_13, q82_14, q82_e, or_true, true_or]
  by_cases h1 : i < 0
  · rw [if_pos h1, if_neg (fun h => k2_nlt h.1 h1)]
  · rw [if_neg h1]
    by_cases h2 : i < 4
    · rw [if_pos h2, if_pos ⟨k2_le h1, h2⟩]
    · rw [if_neg h2, if_neg (fun h => h2 h.2)]
theorem c_isOfTwo : pm_N d 81 [.int i] S Q = Q (some (.int (if i = 3 ∨ i = 4 ∨ i = 5 then 1 else 0))) S := by
  simp only [q81_0, q81_1, q81_2, q81_5, q81_6, q81_7, q81_10, q81_11, q81_12, q81_15, q81_16, q81_19, q81_20, q81_e, or_true, true_or]
  by_cases h1 : i = 3
  · simp [h1]
  · by_cases h2 : i = 4
    · simp [h1, h2]
    · by_cases h3 : i = 5 <;> simp [h1, h2, h3]
theorem c_tHas (hT : sT S a) : pm_N d 46 [.ref a, .int i] S Q = Q (some (.int (if sp_tin i (pm_gi S a 4) = true then 1 else 0))) S := by
  unfold sp_tin
  simp only [q46_0, q46_1, q46_4, q46_5, q46_6, q46_9, q46_12, q46_13, q46_15, q46_18, q46_19, q46_22, q46_23, q46_e, hT.1, or_true, true_or, decide_eq_true_eq]
  by_cases h1 : i < 0
  · rw [if_pos h1, if_neg (fun h => k2_nlt h.1 h1)]
  · rw [if_neg h1]
    by_cases h2 : i < pm_gi S a 4
    · rw [if_pos h2]
      by_cases h3 : i < 20
      · rw [if_pos h3, if_pos ⟨k2_le h1, h2, h3⟩]
      · rw [if_neg h3, if_neg (fun h => h3 h.2.2)]
    · rw [if_neg h2, if_neg (fun h => h2 h.2.1)]
theorem c_tBegin (hT : sT S a) : pm_N d 49 [.ref a] S Q = Q none (pm_sgi (pm_sgi S a 5 0) a 6 0) := by
  simp only [q49_0, q49_1, q49_2, q49_5, q49_6, q49_7, q49_10, q49_e, hT.1, ps_gi_nx, ps_gi_sz, ps_gi_sh, ps_gi_gi, ps_gi_gl, ps_gi_gr, ps_gi_zi, ps_gi_zl, ps_gi_zr, ps_gi_ar, ps_gi_al, ps_gl_nx, ps_gl_sz, ps_gl_sh, ps_gl_gi, ps_gl_gl, ps_gl_gr, ps_gl_zi, ps_gl_zl, ps_gl_zr, ps_gl_ar, ps_gl_al, ps_gr_nx, ps_gr_sz, ps_gr_sh, ps_gr_gi, ps_gr_gl, ps_gr_gr, ps_gr_zi, ps_gr_zl, ps_gr_zr, ps_gr_ar, ps_gr_al, ps_zi_nx, ps_zi_sz, ps_zi_sh, ps_zi_gi, ps_zi_gl, ps_zi_gr, ps_zi_zi, ps_zi_zl, ps_zi_zr, ps_zi_ar, ps_zi_al, ps_zl_nx, ps_zl_sz, ps_zl_sh, ps_zl_gi, ps_zl_gl, ps_zl_gr, ps_zl_zi, ps_zl_zl, ps_zl_zr, ps_zl_ar, ps_zl_al, ps_zr_nx, ps_zr_sz, ps_zr_sh, ps_zr_gi, ps_zr_gl, ps_zr_gr, ps_zr_zi, ps_zr_zl, ps_zr_zr, ps_zr_ar, ps_zr_al, pm_rf_some, pm_rf_none, pm_tl_some, pm_tl_none]
theorem c_answer : pm_N d 54 [.int i] S Q = Q (some (.int (if i = 0 then 0 else 1))) S := by
  simp only [q54_0, q54_1, q54_4, q54_5, q54_8, q54_9, q54_e]
  split <;> rfl
theorem c_begun (hT : sT S a) : pm_N d 55 [.ref a, .int i] S Q = Q (some (.int (if pm_gi S a 6 + 1 ≤ 8 then -i else -5))) (pm_sgi S a 6 (pm_gi S a 6 + 1)) := by
  simp only [q55_0, q55_1, q55_2, q55_5, q55_6, q55_7, q55_10, q55_11, q55_14, q55_16, q55_19, q55_21, q55_24, q55_25, q55_26, q55_e, hT.1, ps_gi_nx, ps_gi_sz, ps_gi_sh, ps_gi_gi, ps_gi_gl, ps_gi_gr, ps_gi_zi, ps_gi_zl, ps_gi_zr, ps_gi_ar, ps_gi_al, ps_gl_nx, ps_gl_sz, ps_gl_sh, ps_gl_gi, ps_gl_gl, ps_gl_gr, ps_gl_zi, ps_gl_zl, ps_gl_zr, ps_gl_ar, ps_gl_al, ps_gr_nx, ps_gr_sz, ps_gr_sh, ps_gr_gi, ps_gr_gl, ps_gr_gr, ps_gr_zi, ps_gr_zl, ps_gr_zr, ps_gr_ar, ps_gr_al, ps_zi_nx, ps_zi_sz, ps_zi_sh, ps_zi_gi, ps_zi_gl, ps_zi_gr, ps_zi_zi, ps_zi_zl, ps_zi_zr, ps_zi_ar, ps_zi_al, ps_zl_nx, ps_zl_sz, ps_zl_sh, ps_zl_gi, ps_zl_gl, ps_zl_gr, ps_zl_zi, ps_zl_zl, ps_zl_zr, ps_zl_ar, ps_zl_al, ps_zr_nx, ps_zr_sz, ps_zr_sh, ps_zr_gi, ps_zr_gl, ps_zr_gr, ps_zr_zi, ps_zr_zl, ps_zr_zr, ps_zr_ar, ps_zr_al, pm_rf_some, pm_rf_none, pm_tl_some, pm_tl_none, and_self, if_true]
  split <;> rfl
theorem c_tAdd (hT : sT S a) (hk : pm_gi S a 4 = nI k) (hk2 : k < 20) : pm_N d 48 [.ref a, .int i, .long v, .int x, .int y] S Q = Q none (pm_sgi (pm_szi (pm_szi (pm_szl (pm_szi S (a + 1) k i) (a + 2) k v) (a + 3) k x) (a + 4) k y) a 4 (nI (k + 1))) := by
  obtain ⟨h1, h2, h3, h4, h5, h6, h7, h8, h9⟩ := hT
  have e1 := pm_ar_nI h6 hk2 (by decide)
  have e2 := pm_ar_nI h7 hk2 (by decide)
  have e3 := pm_ar_nI h8 hk2 (by decide)
  have e4 := pm_ar_nI h9 hk2 (by decide)
  have e5 := nI_clamp (show k < 2 ^ 31 by omega)
  have e6 : nI k < 20 := nI_lt (b := 20) hk2 (by decide)
  simp only [q48_0, q48_1, q48_4, q48_6, q48_9, q48_10, q48_11, q48_14, q48_15, q48_18, q48_19, q48_20, q48_21, q48_24, q48_25, q48_28, q48_29, q48_30, q48_31, q48_34, q48_35, q48_38, q48_40, q48_41, q48_42, q48_45, q48_46, q48_49, q48_51, q48_52, q48_53, q48_54, q48_57, q48_58, q48_59, q48_62, q48_e, h1, hk, e6, if_true, ps_gi_nx, ps_gi_sz, ps_gi_sh, ps_gi_gi, ps_gi_gl, ps_gi_gr, ps_gi_zi, ps_gi_zl, ps_gi_zr, ps_gi_ar, ps_gi_al, ps_gl_nx, ps_gl_sz, ps_gl_sh, ps_gl_gi, ps_gl_gl, ps_gl_gr, ps_gl_zi, ps_gl_zl, ps_gl_zr, ps_gl_ar, ps_gl_al, ps_gr_nx, ps_gr_sz, ps_gr_sh, ps_gr_gi, ps_gr_gl, ps_gr_gr, ps_gr_zi, ps_gr_zl, ps_gr_zr, ps_gr_ar, ps_gr_al, ps_zi_nx, ps_zi_sz, ps_zi_sh, ps_zi_gi, ps_zi_gl, ps_zi_gr, ps_zi_zi, ps_zi_zl, ps_zi_zr, ps_zi_ar, ps_zi_al, ps_zl_nx, ps_zl_sz, ps_zl_sh, ps_zl_gi, ps_zl_gl, ps_zl_gr, ps_zl_zi, ps_zl_zl, ps_zl_zr, ps_zl_ar, ps_zl_al, ps_zr_nx, ps_zr_sz, ps_zr_sh, ps_zr_gi, ps_zr_gl, ps_zr_gr, ps_zr_zi, ps_zr_zl, ps_zr_zr, ps_zr_ar, ps_zr_al, pm_rf_some, pm_rf_none, pm_tl_some, pm_tl_none, h2, h3, h4, h5, pm_rf_some, e1, e2, e3, e4, e5, nI_1]
theorem c_tFits (hT : sT S a) : pm_N (d + 1) 47 [.ref a, .int i, .int x, .int y] S Q = Q (some (.int (if ¬ i < 0 ∧ i ≤ 8 ∧ (i < 4 ∨ sp_tin x (pm_gi S a 4) = true) ∧ (¬ (i = 5 ∨ i = 6) ∨ sp_tin y (pm_gi S a 4) = true) then 1 else 0))) S := by
  simp only [q47_0, q47_1, q47_4, q47_5, q47_7, q47_10, q47_11, q47_12, q47_13, q47_14, q47_17, q47_18, q47_21, q47_22, q47_24, q47_25, q47_26, q47_29, q47_30, q47_32, q47_35, q47_36, q47_39, q47_40, q47_42, q47_44, q47_47, q47_48, q47_49, q47_52, q47_55, q47_57, q47_60, q47_61, q47_62, q47_65, q47_68, q47_69, q47_72, q47_73, q47_e, hT.1, c_tHas hT, pm_tl_some, pm_b01, or_true, true_or, pm_z1]
  by_cases a1 : i < 0
  · simp [a1]
  · by_cases a2 : i ≤ 8
    · by_cases a3 : i < 4 <;> by_cases a4 : i = 5 <;> by_cases a5 : i = 6 <;> cases a6 : sp_tin x (pm_gi S a 4) <;> cases a7 : sp_tin y (pm_gi S a 4) <;> simp [a1, a2, a3, a4, a5]
    · simp [a1, a2]
end
