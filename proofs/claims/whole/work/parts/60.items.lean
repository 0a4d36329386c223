/-! ===== Items, HiddenItems ===== -/
theorem pm_b01 {c : Prop} [Decidable c] : ((if c then (1 : Int32) else 0) = 0 ∨ (if c then (1 : Int32) else 0) = 1) = True := by split <;> simp
theorem pm_b10 {c : Prop} [Decidable c] : ((if c then (0 : Int32) else 1) = 0 ∨ (if c then (0 : Int32) else 1) = 1) = True := by split <;> simp
theorem pm_z1 {c : Prop} [Decidable c] : ((if c then (1 : Int32) else 0) = 0) = ¬ c := by split <;> simp_all
theorem pm_z0 {c : Prop} [Decidable c] : ((if c then (0 : Int32) else 1) = 0) = c := by split <;> simp_all
/-- Items at a, of n places -/
def sI (S : pm_T) (a n : Nat) : Prop := pm_sh S a = .inr 3 ∧ pm_gr S a 0 = some (a + 1) ∧ pm_gr S a 1 = some (a + 2) ∧ pm_gr S a 2 = some (a + 3) ∧ pm_sh S (a + 1) = .inl (1, n) ∧ pm_sh S (a + 2) = .inl (0, n) ∧ pm_sh S (a + 3) = .inl (0, n)
/-- HiddenItems at a -/
def sH (S : pm_T) (a : Nat) : Prop := pm_sh S a = .inr 2 ∧ pm_gr S a 0 = some (a + 1) ∧ pm_gr S a 1 = some (a + 2) ∧ pm_gr S a 2 = some (a + 3) ∧ pm_sh S (a + 1) = .inl (0, 8) ∧ pm_sh S (a + 2) = .inl (0, 8) ∧ pm_sh S (a + 3) = .inl (0, 8)
section
variable {d a n k : Nat} {S : pm_T} {Q : Option Value → pm_T → Prop} {i x y z : Int32} {v : Int64}
theorem c_has (hs : pm_sh S a = .inr 3) : pm_N d 20 [.ref a, .int i] S Q = Q (some (.int (if 0 ≤ i ∧ i < pm_gi S a 3 then 1 else 0))) S := by
  simp only [q20_0, q20_1, q20_4, q20_5, q20_6, q20_9, q20_12, q20_13, q20_16, q20_17, q20_e, hs, or_true, true_or]
  by_cases h1 : i < 0
  · rw [if_pos h1, if_neg (fun h => k2_nlt h.1 h1)]
  · rw [if_neg h1]
    by_cases h2 : i < pm_gi S a 3
    · rw [if_pos h2, if_pos ⟨k2_le h1, h2⟩]
    · rw [if_neg h2, if_neg (fun h => h2 h.2)]
theorem c_iadd (hI : sI S a n) (hk : pm_gi S a 3 = nI k) (hkn : k < n) (hn : n < 2 ^ 31) : pm_N d 21 [.ref a, .long v, .int x, .int y] S Q = Q (some (.int 1)) (pm_sgi (pm_szi (pm_szi (pm_szl S (a + 1) k v) (a + 2) k x) (a + 3) k y) a 3 (nI (k + 1))) := by
  obtain ⟨h1, h2, h3, h4, h5, h6, h7⟩ := id hI
  have h8 := pm_al_of h5 (Or.inl (by decide))
  have e1 := pm_ar_nI h5 hkn hn
  have e2 := pm_ar_nI h6 hkn hn
  have e3 := pm_ar_nI h7 hkn hn
  have e4 := nI_clamp (show k < 2 ^ 31 by omega)
  have e5 := nI_lt hkn hn
  simp only [q21_0, q21_1, q21_4, q21_5, q21_8, q21_9, q21_12, q21_13, q21_14, q21_15, q21_18, q21_19, q21_22, q21_23, q21_24, q21_25, q21_28, q21_29, q21_32, q21_33, q21_34, q21_35, q21_38, q21_39, q21_42, q21_44, q21_45, q21_46, q21_47, q21_50, q21_51, q21_52, q21_55, q21_56, q21_e, h1, h8, Option.getD_some, Option.isSome_some, hk, e5, if_true, ps_gi_nx, ps_gi_sz, ps_gi_sh, ps_gi_gi, ps_gi_gl, ps_gi_gr, ps_gi_zi, ps_gi_zl, ps_gi_zr, ps_gi_ar, ps_gi_al, ps_gl_nx, ps_gl_sz, ps_gl_sh, ps_gl_gi, ps_gl_gl, ps_gl_gr, ps_gl_zi, ps_gl_zl, ps_gl_zr, ps_gl_ar, ps_gl_al, ps_gr_nx, ps_gr_sz, ps_gr_sh, ps_gr_gi, ps_gr_gl, ps_gr_gr, ps_gr_zi, ps_gr_zl, ps_gr_zr, ps_gr_ar, ps_gr_al, ps_zi_nx, ps_zi_sz, ps_zi_sh, ps_zi_gi, ps_zi_gl, ps_zi_gr, ps_zi_zi, ps_zi_zl, ps_zi_zr, ps_zi_ar, ps_zi_al, ps_zl_nx, ps_zl_sz, ps_zl_sh, ps_zl_gi, ps_zl_gl, ps_zl_gr, ps_zl_zi, ps_zl_zl, ps_zl_zr, ps_zl_ar, ps_zl_al, ps_zr_nx, ps_zr_sz, ps_zr_sh, ps_zr_gi, ps_zr_gl, ps_zr_gr, ps_zr_zi, ps_zr_zl, ps_zr_zr, ps_zr_ar, ps_zr_al, pm_rf_some, pm_rf_none, pm_tl_some, pm_tl_none, h2, h3, h4, e1, e2, e3, e4, nI_1, or_true]
theorem c_iaddF (hI : sI S a n) (hk : pm_gi S a 3 = nI k) (hkn : n ≤ k) (hn : k < 2 ^ 31) : pm_N d 21 [.ref a, .long v, .int x, .int y] S Q = Q (some (.int 0)) S := by
  obtain ⟨h1, h2, h3, h4, h5, h6, h7⟩ := id hI
  have h8 := pm_al_of h5 (Or.inl (by decide))
  have e5 : ¬ nI k < nI n := nI_nlt hkn hn
  simp only [q21_0, q21_1, q21_4, q21_5, q21_8, q21_9, q21_12, q21_13, q21_14, q21_15, q21_18, q21_19, q21_22, q21_23, q21_24, q21_25, q21_28, q21_29, q21_32, q21_33, q21_34, q21_35, q21_38, q21_39, q21_42, q21_44, q21_45, q21_46, q21_47, q21_50, q21_51, q21_52, q21_55, q21_56, q21_e, h1, h8, Option.getD_some, Option.isSome_some, hk, e5, if_false, ps_gi_nx, ps_gi_sz, ps_gi_sh, ps_gi_gi, ps_gi_gl, ps_gi_gr, ps_gi_zi, ps_gi_zl, ps_gi_zr, ps_gi_ar, ps_gi_al, ps_gl_nx, ps_gl_sz, ps_gl_sh, ps_gl_gi, ps_gl_gl, ps_gl_gr, ps_gl_zi, ps_gl_zl, ps_gl_zr, ps_gl_ar, ps_gl_al, ps_gr_nx, ps_gr_sz, ps_gr_sh, ps_gr_gi, ps_gr_gl, ps_gr_gr, ps_gr_zi, ps_gr_zl, ps_gr_zr, ps_gr_ar, ps_gr_al, ps_zi_nx, ps_zi_sz, ps_zi_sh, ps_zi_gi, ps_zi_gl, ps_zi_gr, ps_zi_zi, ps_zi_zl, ps_zi_zr, ps_zi_ar, ps_zi_al, ps_zl_nx, ps_zl_sz, ps_zl_sh, ps_zl_gi, ps_zl_gl, ps_zl_gr, ps_zl_zi, ps_zl_zl, ps_zl_zr, ps_zl_ar, ps_zl_al, ps_zr_nx, ps_zr_sz, ps_zr_sh, ps_zr_gi, ps_zr_gl, ps_zr_gr, ps_zr_zi, ps_zr_zl, ps_zr_zr, ps_zr_ar, ps_zr_al, pm_rf_some, pm_rf_none, pm_tl_some, pm_tl_none, h2, true_or]
theorem c_sources (hI : sI S a n) : pm_N d 22 [.ref a, .int i] S Q = Q (some (.ref (if i = 0 then a + 2 else a + 3))) S := by
  obtain ⟨h1, h2, h3, h4, h5, h6, h7⟩ := hI
  simp only [q22_0, q22_1, q22_4, q22_5, q22_8, q22_11, q22_12, q22_15, q22_e, h1, h3, h4, pm_rf_some]
  split <;> rfl
theorem c_hadd (hH : sH S a) (hk : pm_gi S a 3 = nI k) (hk8 : k < 8) : pm_N d 18 [.ref a, .int x, .int y, .int z] S Q = Q none (pm_sgi (pm_szi (pm_szi (pm_szi S (a + 1) k x) (a + 2) k y) (a + 3) k z) a 3 (nI (k + 1))) := by
  obtain ⟨h1, h2, h3, h4, h5, h6, h7⟩ := id hH
  have e1 := pm_ar_nI h5 hk8 (by decide)
  have e2 := pm_ar_nI h6 hk8 (by decide)
  have e3 := pm_ar_nI h7 hk8 (by decide)
  have e4 := nI_clamp (show k < 2 ^ 31 by omega)
  have e5 : nI k < 8 := nI_lt (b := 8) hk8 (by decide)
  simp only [q18_0, q18_1, q18_4, q18_6, q18_9, q18_10, q18_11, q18_14, q18_15, q18_18, q18_19, q18_20, q18_21, q18_24, q18_25, q18_28, q18_29, q18_30, q18_31, q18_34, q18_35, q18_38, q18_39, q18_40, q18_41, q18_42, q18_45, q18_46, q18_47, q18_50, q18_e, h1, hk, e5, if_true, ps_gi_nx, ps_gi_sz, ps_gi_sh, ps_gi_gi, ps_gi_gl, ps_gi_gr, ps_gi_zi, ps_gi_zl, ps_gi_zr, ps_gi_ar, ps_gi_al, ps_gl_nx, ps_gl_sz, ps_gl_sh, ps_gl_gi, ps_gl_gl, ps_gl_gr, ps_gl_zi, ps_gl_zl, ps_gl_zr, ps_gl_ar, ps_gl_al, ps_gr_nx, ps_gr_sz, ps_gr_sh, ps_gr_gi, ps_gr_gl, ps_gr_gr, ps_gr_zi, ps_gr_zl, ps_gr_zr, ps_gr_ar, ps_gr_al, ps_zi_nx, ps_zi_sz, ps_zi_sh, ps_zi_gi, ps_zi_gl, ps_zi_gr, ps_zi_zi, ps_zi_zl, ps_zi_zr, ps_zi_ar, ps_zi_al, ps_zl_nx, ps_zl_sz, ps_zl_sh, ps_zl_gi, ps_zl_gl, ps_zl_gr, ps_zl_zi, ps_zl_zl, ps_zl_zr, ps_zl_ar, ps_zl_al, ps_zr_nx, ps_zr_sz, ps_zr_sh, ps_zr_gi, ps_zr_gl, ps_zr_gr, ps_zr_zi, ps_zr_zl, ps_zr_zr, ps_zr_ar, ps_zr_al, pm_rf_some, pm_rf_none, pm_tl_some, pm_tl_none, h2, h3, h4, e1, e2, e3, e4, nI_1]
end
