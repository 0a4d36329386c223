/-! ===== the reference: what adds ===== -/
def fM_breaks (S : pm_T) (m j : Nat) (x : Int32) : pm_T := pm_szi S (m + 7) j (if pm_zi S (m + 7) j = 0 then x else pm_zi S (m + 7) j)
/-- a node is added, where there is room and nothing has failed -/
def fM_node (S : pm_T) (m j k : Nat) (v : Int64) (x y : Int32) : pm_T :=
  if k = 40 then fM_breaks S m j 4 else if pm_zi S (m + 7) j = 0 then pm_szi (pm_szi (pm_szi (pm_szl S (m + 10) (40 * j + k) v) (m + 11) (40 * j + k) x) (m + 12) (40 * j + k) y) (m + 8) j (nI (k + 1)) else S
def fM_arc (S : pm_T) (m j k : Nat) (t h : Int32) (v : Int64) (x y : Int32) : pm_T :=
  if k = 120 then fM_breaks S m j 4 else if pm_zi S (m + 7) j = 0 then pm_szi (pm_szi (pm_szi (pm_szl (pm_szi (pm_szi S (m + 13) (120 * j + k) t) (m + 14) (120 * j + k) h) (m + 15) (120 * j + k) v) (m + 16) (120 * j + k) x) (m + 17) (120 * j + k) y) (m + 9) j (nI (k + 1)) else S
theorem sp_at (c j k : Nat) : nI c * nI j + nI k = nI (c * j + k) := by rw [pk_mul, nI_add]
section
variable {d m j k : Nat} {S : pm_T} {Q : Option Value → pm_T → Prop} {x y t h : Int32} {v : Int64}
theorem m_breaks (hM : sM S m) (hj : j < 24) : pm_N d 102 [.ref m, .int (nI j), .int x] S Q = Q none (fM_breaks S m j x) := by
  have e1 := pm_ar_nI (sM_s7 hM) hj (by decide)
  have e4 := nI_clamp (show j < 2 ^ 31 by omega)
  unfold fM_breaks
  simp only [q102_0, q102_1, q102_4, q102_5, q102_6, q102_9, q102_10, q102_11, q102_14, q102_15, q102_18, q102_19, q102_22, q102_23, q102_24, q102_25, q102_e, sM_0 hM, sM_r7 hM, pm_rf_some, e1, e4]
  split <;> rfl
theorem m_addNode (hM : sM S m) (hj : j < 24) (hk : pm_zi S (m + 8) j = nI k) (hk4 : k ≤ 40) : pm_N (d + 1) 103 [.ref m, .int (nI j), .long v, .int x, .int y] S Q = Q none (fM_node S m j k v x y) := by
  have e1 := pm_ar_nI (sM_s7 hM) hj (by decide)
  have e2 := pm_ar_nI (sM_s8 hM) hj (by decide)
  have e4 := nI_clamp (show j < 2 ^ 31 by omega)
  have e5 := nI_clamp (show 40 * j + k < 2 ^ 31 by omega)
  have e6 : (40 : Int32) * nI j + nI k = nI (40 * j + k) := sp_at 40 j k
  unfold fM_node
  by_cases h1 : k = 40
  · subst h1
    have c1 : nI 40 = 40 := by decide
    have hM' : sM (fM_breaks S m j 4) m := hM
    have b1 : ¬ pm_zi (fM_breaks S m j 4) (m + 7) j = 0 := by
      unfold fM_breaks
      rw [ps_zi_self]
      split <;> simp_all
    rw [if_pos rfl]
    simp only [q103_0, q103_1, q103_4, q103_5, q103_6, q103_8, q103_11, q103_12, q103_13, q103_14, q103_17, q103_18, q103_21, q103_22, q103_23, q103_26, q103_28, q103_29, q103_30, q103_31, q103_34, q103_35, q103_36, q103_37, q103_39, q103_40, q103_43, q103_45, q103_46, q103_47, q103_48, q103_51, q103_53, q103_55, q103_56, q103_57, q103_60, q103_62, q103_64, q103_65, q103_66, q103_69, q103_70, q103_71, q103_72, q103_73, q103_74, q103_75, q103_e, sM_0 hM, sM_r8 hM, sM_r7 hM, pm_rf_some, e1, e2, e4, hk, c1, if_true, m_breaks hM hj, pm_tl_none]
    simp only [q103_0, q103_1, q103_4, q103_5, q103_6, q103_8, q103_11, q103_12, q103_13, q103_14, q103_17, q103_18, q103_21, q103_22, q103_23, q103_26, q103_28, q103_29, q103_30, q103_31, q103_34, q103_35, q103_36, q103_37, q103_39, q103_40, q103_43, q103_45, q103_46, q103_47, q103_48, q103_51, q103_53, q103_55, q103_56, q103_57, q103_60, q103_62, q103_64, q103_65, q103_66, q103_69, q103_70, q103_71, q103_72, q103_73, q103_74, q103_75, q103_e, sM_0 hM', sM_r7 hM', pm_rf_some, show pm_ar (fM_breaks S m j 4) (m + 7) 0 (nI j) = true from e1, e4, b1, if_false]
  · have c1 : ¬ nI k = 40 := fun q => h1 ((nI_eq (a := k) (b := 40) (by omega) (by decide)).mp q)
    have r1 := pm_ar_nI (sM_s10 hM) (show 40 * j + k < 960 by omega) (by decide)
    have r2 := pm_ar_nI (sM_s11 hM) (show 40 * j + k < 960 by omega) (by decide)
    have r3 := pm_ar_nI (sM_s12 hM) (show 40 * j + k < 960 by omega) (by decide)
    rw [if_neg h1]
    simp only [q103_0, q103_1, q103_4, q103_5, q103_6, q103_8, q103_11, q103_12, q103_13, q103_14, q103_17, q103_18, q103_21, q103_22, q103_23, q103_26, q103_28, q103_29, q103_30, q103_31, q103_34, q103_35, q103_36, q103_37, q103_39, q103_40, q103_43, q103_45, q103_46, q103_47, q103_48, q103_51, q103_53, q103_55, q103_56, q103_57, q103_60, q103_62, q103_64, q103_65, q103_66, q103_69, q103_70, q103_71, q103_72, q103_73, q103_74, q103_75, q103_e, sM_0 hM, sM_r8 hM, sM_r7 hM, sM_r10 hM, sM_r11 hM, sM_r12 hM, pm_rf_some, e1, e2, e4, hk, c1, if_false, e6, r1, r2, r3, e5, ps_gi_nx, ps_gi_sz, ps_gi_sh, ps_gi_gi, ps_gi_gl, ps_gi_gr, ps_gi_zi, ps_gi_zl, ps_gi_zr, ps_gi_ar, ps_gi_al, ps_gl_nx, ps_gl_sz, ps_gl_sh, ps_gl_gi, ps_gl_gl, ps_gl_gr, ps_gl_zi, ps_gl_zl, ps_gl_zr, ps_gl_ar, ps_gl_al, ps_gr_nx, ps_gr_sz, ps_gr_sh, ps_gr_gi, ps_gr_gl, ps_gr_gr, ps_gr_zi, ps_gr_zl, ps_gr_zr, ps_gr_ar, ps_gr_al, ps_zi_nx, ps_zi_sz, ps_zi_sh, ps_zi_gi, ps_zi_gl, ps_zi_gr, ps_zi_zi, ps_zi_zl, ps_zi_zr, ps_zi_ar, ps_zi_al, ps_zl_nx, ps_zl_sz, ps_zl_sh, ps_zl_gi, ps_zl_gl, ps_zl_gr, ps_zl_zi, ps_zl_zl, ps_zl_zr, ps_zl_ar, ps_zl_al, ps_zr_nx, ps_zr_sz, ps_zr_sh, ps_zr_gi, ps_zr_gl, ps_zr_gr, ps_zr_zi, ps_zr_zl, ps_zr_zr, ps_zr_ar, ps_zr_al, pm_rf_some, pm_rf_none, pm_tl_some, pm_tl_none, nI_1]
    by_cases h2 : pm_zi S (m + 7) j = 0
    · rw [if_pos h2, if_pos h2]
      simp (config := { decide := false }) [hk, nI_1]
    · rw [if_neg h2, if_neg h2]
end
