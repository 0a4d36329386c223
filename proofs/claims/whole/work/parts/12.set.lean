/-! ===== what is read behind a write ===== -/
section
variable {S : pm_T} {a k b j t n c : Nat} {x : Int32} {y : Int64} {r : Option Nat}
theorem ps_gi_nx : pm_nx (pm_sgi S a k x) = pm_nx S := rfl
theorem ps_gi_sz : pm_sz (pm_sgi S a k x) = pm_sz S := rfl
theorem ps_gi_sh : pm_sh (pm_sgi S a k x) b = pm_sh S b := rfl
theorem ps_gi_gi : pm_gi (pm_sgi S a k x) b j = if b = a ∧ j = k then x else pm_gi S b j := rfl
theorem ps_gi_self : pm_gi (pm_sgi S a k x) a k = x := by rw [ps_gi_gi, if_pos ⟨rfl, rfl⟩]
theorem ps_gi_ne (h : ¬ (b = a ∧ j = k)) : pm_gi (pm_sgi S a k x) b j = pm_gi S b j := by rw [ps_gi_gi, if_neg h]
theorem ps_gi_gl : pm_gl (pm_sgi S a k x) b j = pm_gl S b j := rfl
theorem ps_gi_gr : pm_gr (pm_sgi S a k x) b j = pm_gr S b j := rfl
theorem ps_gi_zi : pm_zi (pm_sgi S a k x) b j = pm_zi S b j := rfl
theorem ps_gi_zl : pm_zl (pm_sgi S a k x) b j = pm_zl S b j := rfl
theorem ps_gi_zr : pm_zr (pm_sgi S a k x) b j = pm_zr S b j := rfl
theorem ps_gi_ar {i : Int32} : pm_ar (pm_sgi S a k x) b t i = pm_ar S b t i := rfl
theorem ps_gi_al : pm_al (pm_sgi S a k x) b = pm_al S b := rfl
theorem ps_gl_nx : pm_nx (pm_sgl S a k y) = pm_nx S := rfl
theorem ps_gl_sz : pm_sz (pm_sgl S a k y) = pm_sz S := rfl
theorem ps_gl_sh : pm_sh (pm_sgl S a k y) b = pm_sh S b := rfl
theorem ps_gl_gi : pm_gi (pm_sgl S a k y) b j = pm_gi S b j := rfl
theorem ps_gl_gl : pm_gl (pm_sgl S a k y) b j = if b = a ∧ j = k then y else pm_gl S b j := rfl
theorem ps_gl_self : pm_gl (pm_sgl S a k y) a k = y := by rw [ps_gl_gl, if_pos ⟨rfl, rfl⟩]
theorem ps_gl_ne (h : ¬ (b = a ∧ j = k)) : pm_gl (pm_sgl S a k y) b j = pm_gl S b j := by rw [ps_gl_gl, if_neg h]
theorem ps_gl_gr : pm_gr (pm_sgl S a k y) b j = pm_gr S b j := rfl
theorem ps_gl_zi : pm_zi (pm_sgl S a k y) b j = pm_zi S b j := rfl
theorem ps_gl_zl : pm_zl (pm_sgl S a k y) b j = pm_zl S b j := rfl
theorem ps_gl_zr : pm_zr (pm_sgl S a k y) b j = pm_zr S b j := rfl
theorem ps_gl_ar {i : Int32} : pm_ar (pm_sgl S a k y) b t i = pm_ar S b t i := rfl
theorem ps_gl_al : pm_al (pm_sgl S a k y) b = pm_al S b := rfl
theorem ps_gr_nx : pm_nx (pm_sgr S a k r) = pm_nx S := rfl
theorem ps_gr_sz : pm_sz (pm_sgr S a k r) = pm_sz S := rfl
theorem ps_gr_sh : pm_sh (pm_sgr S a k r) b = pm_sh S b := rfl
theorem ps_gr_gi : pm_gi (pm_sgr S a k r) b j = pm_gi S b j := rfl
theorem ps_gr_gl : pm_gl (pm_sgr S a k r) b j = pm_gl S b j := rfl
theorem ps_gr_gr : pm_gr (pm_sgr S a k r) b j = if b = a ∧ j = k then r else pm_gr S b j := rfl
theorem ps_gr_self : pm_gr (pm_sgr S a k r) a k = r := by rw [ps_gr_gr, if_pos ⟨rfl, rfl⟩]
theorem ps_gr_ne (h : ¬ (b = a ∧ j = k)) : pm_gr (pm_sgr S a k r) b j = pm_gr S b j := by rw [ps_gr_gr, if_neg h]
theorem ps_gr_zi : pm_zi (pm_sgr S a k r) b j = pm_zi S b j := rfl
theorem ps_gr_zl : pm_zl (pm_sgr S a k r) b j = pm_zl S b j := rfl
theorem ps_gr_zr : pm_zr (pm_sgr S a k r) b j = pm_zr S b j := rfl
theorem ps_gr_ar {i : Int32} : pm_ar (pm_sgr S a k r) b t i = pm_ar S b t i := rfl
theorem ps_gr_al : pm_al (pm_sgr S a k r) b = pm_al S b := rfl
theorem ps_zi_nx : pm_nx (pm_szi S a k x) = pm_nx S := rfl
theorem ps_zi_sz : pm_sz (pm_szi S a k x) = pm_sz S := rfl
theorem ps_zi_sh : pm_sh (pm_szi S a k x) b = pm_sh S b := rfl
theorem ps_zi_gi : pm_gi (pm_szi S a k x) b j = pm_gi S b j := rfl
theorem ps_zi_gl : pm_gl (pm_szi S a k x) b j = pm_gl S b j := rfl
theorem ps_zi_gr : pm_gr (pm_szi S a k x) b j = pm_gr S b j := rfl
theorem ps_zi_zi : pm_zi (pm_szi S a k x) b j = if b = a ∧ j = k then x else pm_zi S b j := rfl
theorem ps_zi_self : pm_zi (pm_szi S a k x) a k = x := by rw [ps_zi_zi, if_pos ⟨rfl, rfl⟩]
theorem ps_zi_ne (h : ¬ (b = a ∧ j = k)) : pm_zi (pm_szi S a k x) b j = pm_zi S b j := by rw [ps_zi_zi, if_neg h]
theorem ps_zi_zl : pm_zl (pm_szi S a k x) b j = pm_zl S b j := rfl
theorem ps_zi_zr : pm_zr (pm_szi S a k x) b j = pm_zr S b j := rfl
theorem ps_zi_ar {i : Int32} : pm_ar (pm_szi S a k x) b t i = pm_ar S b t i := rfl
theorem ps_zi_al : pm_al (pm_szi S a k x) b = pm_al S b := rfl
theorem ps_zl_nx : pm_nx (pm_szl S a k y) = pm_nx S := rfl
theorem ps_zl_sz : pm_sz (pm_szl S a k y) = pm_sz S := rfl
theorem ps_zl_sh : pm_sh (pm_szl S a k y) b = pm_sh S b := rfl
theorem ps_zl_gi : pm_gi (pm_szl S a k y) b j = pm_gi S b j := rfl
theorem ps_zl_gl : pm_gl (pm_szl S a k y) b j = pm_gl S b j := rfl
theorem ps_zl_gr : pm_gr (pm_szl S a k y) b j = pm_gr S b j := rfl
theorem ps_zl_zi : pm_zi (pm_szl S a k y) b j = pm_zi S b j := rfl
theorem ps_zl_zl : pm_zl (pm_szl S a k y) b j = if b = a ∧ j = k then y else pm_zl S b j := rfl
theorem ps_zl_self : pm_zl (pm_szl S a k y) a k = y := by rw [ps_zl_zl, if_pos ⟨rfl, rfl⟩]
theorem ps_zl_ne (h : ¬ (b = a ∧ j = k)) : pm_zl (pm_szl S a k y) b j = pm_zl S b j := by rw [ps_zl_zl, if_neg h]
theorem ps_zl_zr : pm_zr (pm_szl S a k y) b j = pm_zr S b j := rfl
theorem ps_zl_ar {i : Int32} : pm_ar (pm_szl S a k y) b t i = pm_ar S b t i := rfl
theorem ps_zl_al : pm_al (pm_szl S a k y) b = pm_al S b := rfl
theorem ps_zr_nx : pm_nx (pm_szr S a k r) = pm_nx S := rfl
theorem ps_zr_sz : pm_sz (pm_szr S a k r) = pm_sz S := rfl
theorem ps_zr_sh : pm_sh (pm_szr S a k r) b = pm_sh S b := rfl
theorem ps_zr_gi : pm_gi (pm_szr S a k r) b j = pm_gi S b j := rfl
theorem ps_zr_gl : pm_gl (pm_szr S a k r) b j = pm_gl S b j := rfl
theorem ps_zr_gr : pm_gr (pm_szr S a k r) b j = pm_gr S b j := rfl
theorem ps_zr_zi : pm_zi (pm_szr S a k r) b j = pm_zi S b j := rfl
theorem ps_zr_zl : pm_zl (pm_szr S a k r) b j = pm_zl S b j := rfl
theorem ps_zr_zr : pm_zr (pm_szr S a k r) b j = if b = a ∧ j = k then r else pm_zr S b j := rfl
theorem ps_zr_self : pm_zr (pm_szr S a k r) a k = r := by rw [ps_zr_zr, if_pos ⟨rfl, rfl⟩]
theorem ps_zr_ne (h : ¬ (b = a ∧ j = k)) : pm_zr (pm_szr S a k r) b j = pm_zr S b j := by rw [ps_zr_zr, if_neg h]
theorem ps_zr_ar {i : Int32} : pm_ar (pm_szr S a k r) b t i = pm_ar S b t i := rfl
theorem ps_zr_al : pm_al (pm_szr S a k r) b = pm_al S b := rfl
theorem pm_ar_of {i : Int32} (h : pm_sh S a = .inl (t, n)) (hi : pm_in i n = true) : pm_ar S a t i = true := by unfold pm_ar; rw [h]; simp [hi]
theorem pm_ar_nI {m : Nat} (h : pm_sh S a = .inl (t, n)) (hm : m < n) (hn : n < 2 ^ 31) : pm_ar S a t (nI m) = true := pm_ar_of h (by unfold pm_in; rw [nI_clamp (by omega)]; simp [nI_pos' (show m < 2 ^ 31 by omega), hm])
theorem pm_al_of (h : pm_sh S a = .inl (t, n)) (ht : t < 5 ∨ t = 9) : pm_al S a = some n := by unfold pm_al; rw [h]; simp [ht]
theorem pm_rf_some : va_rf (some a) = .ref a := rfl
theorem pm_rf_none : va_rf none = .null := rfl
theorem pm_tl_some {v : Value} {l : List Value} : (some v).toList ++ l = v :: l := rfl
theorem pm_tl_none {l : List Value} : (none : Option Value).toList ++ l = l := rfl
end
