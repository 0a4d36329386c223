/-! ===== the reference: what adds ===== -/
def fM_breaks (S : pm_T) (m j : Nat) (x : Int32) : pm_T := pm_szi S (m + 7) j (if pm_zi S (m + 7) j = 0 then x else pm_zi S (m + 7) j)
/-- a node is added, where there is room and nothing has failed -/
def fM_node (S : pm_T) (m j k : Nat) (v : Int64) (x y : Int32) : pm_T :=
  if k = 40 then fM_breaks S m j 4 else if pm_zi S (m + 7) j = 0 then pm_szi (pm_szi (pm_szi (pm_szl S (m + 10) (40 * j + k) v) (m + 11) (40 * j + k) x) (m + 12) (40 * j + k) y) (m + 8) j (nI (k + 1)) else S
def fM_arc (S : pm_T) (m j k : Nat) (t h : Int32) (v : Int64) (x y : Int32) : pm_T :=
  if k = 120 then fM_breaks S m j 4 else if pm_zi S (m + 7) j = 0 then pm_szi (pm_szi (pm_szi (pm_szl (pm_szi (pm_szi S (m + 13) (120 * j + k) t) (m + 14) (120 * j + k) h) (m + 15) (120 * j + k) v) (m + 16) (120 * j + k) x) (m + 17) (120 * j + k) y) (m + 9) j (nI (k + 1)) else S
theorem sp_at (c j k : Nat) : nI c * nI j + nI k = nI (c * j + k) := by rw [pk_mul, nI_add]
section
variable {d m j k : Nat} {S : pm_T} {Q : Option Value → pm_T → Prop} {x y t h : Int32} {v : Int64}
theorem m_breaks (hM : sM S m) (hj : j < 24) : pm_N d 101 [.ref m, .int (nI j), .int x] S Q = Q none (fM_breaks S m j x) := by
  have e1 := pm_ar_nI (sM_s7 hM) hj (by decide)
  have e4 := nI_clamp (show j < 2 ^ 31 by omega)
  unfold fM_breaks
  simp only [q101_0, q101_1, q101_4, q101_5, q101_6, q101_9, q101_10, q101_11, q101_14, q101_15, q101_18, q101_19, q101_22, q101_23, q101_24, q101_25, q101_e, sM_0 hM, sM_r7 hM, pm_rf_some, e1, e4]
  split <;> rfl
theorem m_addNode (hM : sM S m) (hj : j < 24) (hk : pm_zi S (m + 8) j = nI k) (hk4 : k ≤ 40) : pm_N (d + 1) 102 [.ref m, .int (nI j), .long v, .int x, .int y] S Q = Q none (fM_node S m j k v x y) := by
  have e1 := pm_ar_nI (sM_s7 hM) hj (by decide)
  have e2 := pm_ar_nI (sM_s8 hM) hj (by decide)
  have e4 := nI_clamp (show j < 2 ^ 31 by omega)
  have e5 := nI_clamp (show 40 * j + k < 2 ^ 31 by omega)
  have e6 : (40 : Int32) * nI j + nI k = nI (40 * j + k) := sp_at 40 j k
  unfold fM_node
  by_cases h1 : k = 40
  · subst h1
    have c1 : nI 40 = 40 := by decide
    have hM' : sM (fM_breaks S m j 4) m := hM
    have b1 : ¬ pm_zi (fM_breaks S m j 4) (m + 7) j = 0 := by
      unfold fM_breaks
      rw [ps_zi_self]
      split <;> simp_all
    rw [if_pos rfl]
    simp only [q102_0, q102_1, q102_4, q102_5, q102_6, q102_8, q102_11, q102_12, q102_13, q102_14, q102_17, q102_18, q102_21, q102_22, q102_23, q102_26, q102_28, q102_29, q102_30, q102_31, q102_34, q102_35, q102_36, q102_37, q102_39, q102_40, q102_43, q102_45, q102_46, q102_47, q102_48, q102_51, q102_53, q102_55, q102_56, q102_57, q102_60, q102_62, q102_64, q102_65, q102_66, q102_69, q102_70, q102_71, q102_72, q102_73, q102_74, q102_75, q102_e, sM_0 hM, sM_r8 hM, sM_r7 hM, pm_rf_some, e1, e2, e4, hk, c1, if_true, m_breaks hM hj, pm_tl_none]
    simp only [q102_0, q102_1, q102_4, q102_5, q102_6, q102_8, q102_11, q102_12, q102_13, q102_14, q102_17, q102_18, q102_21, q102_22, q102_23, q102_26, q102_28, q102_29, q102_30, q102_31, q102_34, q102_35, q102_36, q102_37, q102_39, q102_40, q102_43, q102_45, q102_46, q102_47, q102_48, q102_51, q102_53, q102_55, q102_56, q102_57, q102_60, q102_62, q102_64, q102_65, q102_66, q102_69, q102_70, q102_71, q102_72, q102_73, q102_74, q102_75, q102_e, sM_0 hM', sM_r7 hM', pm_rf_some, show pm_ar (fM_breaks S m j 4) (m + 7) 0 (nI j) = true from e1, e4, b1, if_false]
  · have c1 : ¬ nI k = 40 := fun q => h1 ((nI_eq (a := k) (b := 40) (by omega) (by decide)).mp q)
    have r1 := pm_ar_nI (sM_s10 hM) (show 40 * j + k < 960 by omega) (by decide)
    have r2 := pm_ar_nI (sM_s11 hM) (show 40 * j + k < 960 by omega) (by decide)
    have r3 := pm_ar_nI (sM_s12 hM) (show 40 * j + k < 960 by omega) (by decide)
    rw [if_neg h1]
    simp only [q102_0, q102_1, q102_4, q102_5, q102_6, q102_8, q102_11, q102_12, q102_13, q102_14, q102_17, q102_18, q102_21, q102_22, q102_23, q102_26, q102_28, q102_29, q102_30, q102_31, q102_34, q102_35, q102_36, q102_37, q102_39, q102_40, q102_43, q102_45, q102_46, q102_47, q102_48, q102_51, q102_53, q102_55, q102_56, q102_57, q102_60, q102_62, q102_64, q102_65, q102_66, q102_69, q102_70, q102_71, q102_72, q102_73, q102_74, q102_75, q102_e, sM_0 hM, sM_r8 hM, sM_r7 hM, sM_r10 hM, sM_r11 hM, sM_r12 hM, pm_rf_some, e1, e2, e4, hk, c1, if_false, e6, r1, r2, r3, e5, ps_gi_nx, ps_gi_sz, ps_gi_sh, ps_gi_gi, ps_gi_gl, ps_gi_gr, ps_gi_zi, ps_gi_zl, ps_gi_zr, ps_gi_ar, ps_gi_al, ps_gl_nx, ps_gl_sz, ps_gl_sh, ps_gl_gi, ps_gl_gl, ps_gl_gr, ps_gl_zi, ps_gl_zl, ps_gl_zr, ps_gl_ar, ps_gl_al, ps_gr_nx, ps_gr_sz, ps_gr_sh, ps_gr_gi, ps_gr_gl, ps_gr_gr, ps_gr_zi, ps_gr_zl, ps_gr_zr, ps_gr_ar, ps_gr_al, ps_zi_nx, ps_zi_sz, ps_zi_sh, ps_zi_gi, ps_zi_gl, ps_zi_gr, ps_zi_zi, ps_zi_zl, ps_zi_zr, ps_zi_ar, ps_zi_al, ps_zl_nx, ps_zl_sz, ps_zl_sh, ps_zl_gi, ps_zl_gl, ps_zl_gr, ps_zl_zi, ps_zl_zl, ps_zl_zr, ps_zl_ar, ps_zl_al, ps_zr_nx, ps_zr_sz, ps_zr_sh, ps_zr_gi, ps_zr_gl, ps_zr_gr, ps_zr_zi, ps_zr_zl, ps_zr_zr, ps_zr_ar, ps_zr_al, pm_rf_some, pm_rf_none, pm_tl_some, pm_tl_none, nI_1]
    by_cases h2 : pm_zi S (m + 7) j = 0
    · rw [if_pos h2, if_pos h2]
      simp (config := { decide := false }) [hk, nI_1]
    · rw [if_neg h2, if_neg h2]
end
