/-! ===== THE REFERENCE: tests, the small methods ===== -/
/-- what asking changes -/
def mT (m b k : Nat) : Prop := (b = m ∧ 28 ≤ k) ∨ (m + 28 ≤ b ∧ b < m + 33)
theorem mB_t {m a : Nat} : ∀ b k, mB m a b k → ¬ mT m b k := fun b k q => by unfold mB at q; unfold mT; omega
theorem mT_S {m : Nat} : ∀ b k, mT m b k → mS m b k := fun b k q => by unfold mT at q; unfold mS; omega
theorem pm_sgi_id {S : pm_T} {a k : Nat} {v : Int32} (h : pm_gi S a k = v) : pm_sgi S a k v = S := by
  have : pm_u2 S.2.2.2.1 a k v = S.2.2.2.1 := by
    funext b j
    unfold pm_u2
    split
    · next q => rw [q.1, q.2]; exact h.symm
    · rfl
  unfold pm_sgi
  rw [this]
theorem bl_sar {v : Int64} {h : Nat} (hh : h < 64) : (v >>> ((nI h).toInt64 &&& 63)) &&& 1 = if bl v h = true then 1 else 0 := by
  have e : bl (v >>> ((nI h).toInt64 &&& 63)) 0 = bl v h := by
    unfold bl
    rw [wb_c h hh, Int64.toBitVec_shiftRight, wb_tb, wb_sm h hh, BitVec.testBit_toNat, BitVec.testBit_toNat]
    rw [BitVec.sshiftRight_eq', BitVec.getLsbD_sshiftRight, BitVec.toNat_ofNat, Nat.mod_eq_of_lt (show h < 2 ^ 64 by omega)]
    simp [hh]
  have k : ∀ w : Int64, w &&& 1 = if bl w 0 = true then 1 else 0 := by
    intro w
    obtain ⟨n, hn, rfl⟩ := wb_of w
    rw [wb_a1 hn, bl_lN hn, Nat.testBit_zero]
    have : n % 2 = 0 ∨ n % 2 = 1 := by omega
    rcases this with q | q <;> (rw [q]; simp; try rfl)
  rw [k, e]
/-- what the tests read -/
def aX (S0 : pm_T) (m a : Nat) (C : sp_C) (ts : List sp_Te) : Prop := a < 24 ∧ mR S0 m a C ∧ sp_ok C ∧ sp_tok ts ∧ ∀ k, k < ts.length → pm_zi S0 (m + 22) k = nI (sp_te ts k).1 ∧ pm_zl S0 (m + 23) k = (sp_te ts k).2.1 ∧ pm_zi S0 (m + 24) k = (sp_te ts k).2.2.1 ∧ pm_zi S0 (m + 25) k = (sp_te ts k).2.2.2
def aS (S0 S : pm_T) (m : Nat) (st : Nat × Nat) : Prop := sM S m ∧ frI (mT m) S0 S ∧ pm_gi S m 29 = nI st.1 ∧ pm_gi S m 30 = nI st.2
/-- the pile at j -/
def pe (S : pm_T) (m j t wh i sg : Nat) (ar : Int32) : Prop := pm_zi S (m + 28) j = nI t ∧ pm_zi S (m + 29) j = nI wh ∧ pm_zi S (m + 30) j = nI i ∧ pm_zi S (m + 31) j = nI sg ∧ pm_zi S (m + 32) j = ar
/-- the pile below p is as it was -/
def pk (S S' : pm_T) (m p : Nat) : Prop := ∀ j b, j < p → 28 ≤ b → b ≤ 32 → pm_zi S' (m + b) j = pm_zi S (m + b) j
section
variable {S0 S S' S'' : pm_T} {m a g n k d j e t u c i p wh sg : Nat} {C : sp_C} {ts : List sp_Te} {st st' : Nat × Nat} {Q : Option Value → pm_T → Prop} {v : Int64} {x y ar : Int32}
theorem pil_rf : pk S S m p := fun _ _ _ _ _ => rfl
theorem pil_tr (h : pk S S' m p) (h' : pk S' S'' m p) : pk S S'' m p := fun j b q1 q2 q3 => (h' j b q1 q2 q3).trans (h j b q1 q2 q3)
theorem pil_le {p' : Nat} (h : pk S S' m p') (hp : p ≤ p') : pk S S' m p := fun j b q1 q2 q3 => h j b (by omega) q2 q3
theorem pe_k (h : pe S m j t wh i sg ar) (hk : pk S S' m p) (hj : j < p) : pe S' m j t wh i sg ar := ⟨(hk j 28 hj (by decide) (by decide)).trans h.1, (hk j 29 hj (by decide) (by decide)).trans h.2.1, (hk j 30 hj (by decide) (by decide)).trans h.2.2.1, (hk j 31 hj (by decide) (by decide)).trans h.2.2.2.1, (hk j 32 hj (by decide) (by decide)).trans h.2.2.2.2⟩
theorem aS_R (hX : aX S0 m a C ts) (hS : aS S0 S m st) : mR S m a C := mR_fr hX.2.1 hS.2.1 mB_t
theorem aS_t (hX : aX S0 m a C ts) (hS : aS S0 S m st) (ht : t < ts.length) : pm_zi S (m + 22) t = nI (sp_te ts t).1 ∧ pm_zl S (m + 23) t = (sp_te ts t).2.1 ∧ pm_zi S (m + 24) t = (sp_te ts t).2.2.1 ∧ pm_zi S (m + 25) t = (sp_te ts t).2.2.2 := by
  have f := hS.2.1.2.2.2.2.2
  rw [(f (m + 22) t (by unfold mT; omega)).2.2.1, (f (m + 23) t (by unfold mT; omega)).2.2.2, (f (m + 24) t (by unfold mT; omega)).2.2.1, (f (m + 25) t (by unfold mT; omega)).2.2.1]
  exact hX.2.2.2.2 t ht
theorem aS_s (hS : aS S0 S m st) (hf : frI (mT m) S S') (h1 : pm_gi S' m 29 = nI st'.1) (h2 : pm_gi S' m 30 = nI st'.2) : aS S0 S' m st' := ⟨sM_frI hS.1 hf, hS.2.1.tr hf, h1, h2⟩
theorem ar28 (hM : sM S m) (hp : p < 24) : pm_ar S (m + 28) 0 (nI p) = true := pm_ar_nI (sM_s28 hM) hp (by decide)
theorem ar29 (hM : sM S m) (hp : p < 24) : pm_ar S (m + 29) 0 (nI p) = true := pm_ar_nI (sM_s29 hM) hp (by decide)
theorem ar30 (hM : sM S m) (hp : p < 24) : pm_ar S (m + 30) 0 (nI p) = true := pm_ar_nI (sM_s30 hM) hp (by decide)
theorem ar31 (hM : sM S m) (hp : p < 24) : pm_ar S (m + 31) 0 (nI p) = true := pm_ar_nI (sM_s31 hM) hp (by decide)
theorem ar32 (hM : sM S m) (hp : p < 24) : pm_ar S (m + 32) 0 (nI p) = true := pm_ar_nI (sM_s32 hM) hp (by decide)
theorem ar22 (hM : sM S m) (ht : t < 20) : pm_ar S (m + 22) 0 (nI t) = true := pm_ar_nI (sM_s22 hM) ht (by decide)
theorem ar23 (hM : sM S m) (ht : t < 20) : pm_ar S (m + 23) 1 (nI t) = true := pm_ar_nI (sM_s23 hM) ht (by decide)
theorem ar24 (hM : sM S m) (ht : t < 20) : pm_ar S (m + 24) 0 (nI t) = true := pm_ar_nI (sM_s24 hM) ht (by decide)
theorem ar25 (hM : sM S m) (ht : t < 20) : pm_ar S (m + 25) 0 (nI t) = true := pm_ar_nI (sM_s25 hM) ht (by decide)
def fM_push (S : pm_T) (m p : Nat) (t wh i : Int32) : pm_T := pm_sgi (pm_szi (pm_szi (pm_szi (pm_szi (pm_szi S (m + 28) p t) (m + 29) p wh) (m + 30) p i) (m + 31) p 0) (m + 32) p (-1)) m 35 (nI (p + 1))
theorem m_push {t wh i : Int32} (hM : sM S m) (hp : p < 24) (h35 : pm_gi S m 35 = nI p) : pm_N d 120 [.ref m, .int t, .int wh, .int i] S Q = Q none (fM_push S m p t wh i) := by
  unfold fM_push
  simp only [q120_0, q120_1, q120_4, q120_5, q120_8, q120_9, q120_10, q120_11, q120_14, q120_15, q120_18, q120_19, q120_20, q120_21, q120_24, q120_25, q120_28, q120_29, q120_30, q120_31, q120_34, q120_35, q120_38, q120_39, q120_40, q120_41, q120_44, q120_45, q120_48, q120_49, q120_50, q120_51, q120_52, q120_55, q120_56, q120_57, q120_60, q120_e, sM_0 hM, sM_r36 hM, sM_r37 hM, sM_r38 hM, sM_r39 hM, sM_r40 hM, pm_rf_some, h35, ar28 hM hp, ar29 hM hp, ar30 hM hp, ar31 hM hp, ar32 hM hp, nc24 hp, ps_gi_nx, ps_gi_sz, ps_gi_sh, ps_gi_gi, ps_gi_gl, ps_gi_gr, ps_gi_zi, ps_gi_zl, ps_gi_zr, ps_gi_ar, ps_gi_al, ps_gl_nx, ps_gl_sz, ps_gl_sh, ps_gl_gi, ps_gl_gl, ps_gl_gr, ps_gl_zi, ps_gl_zl, ps_gl_zr, ps_gl_ar, ps_gl_al, ps_gr_nx, ps_gr_sz, ps_gr_sh, ps_gr_gi, ps_gr_gl, ps_gr_gr, ps_gr_zi, ps_gr_zl, ps_gr_zr, ps_gr_ar, ps_gr_al, ps_zi_nx, ps_zi_sz, ps_zi_sh, ps_zi_gi, ps_zi_gl, ps_zi_gr, ps_zi_zi, ps_zi_zl, ps_zi_zr, ps_zi_ar, ps_zi_al, ps_zl_nx, ps_zl_sz, ps_zl_sh, ps_zl_gi, ps_zl_gl, ps_zl_gr, ps_zl_zi, ps_zl_zl, ps_zl_zr, ps_zl_ar, ps_zl_al, ps_zr_nx, ps_zr_sz, ps_zr_sh, ps_zr_gi, ps_zr_gl, ps_zr_gr, ps_zr_zi, ps_zr_zl, ps_zr_zr, ps_zr_ar, ps_zr_al, pm_rf_some, pm_rf_none, pm_tl_some, pm_tl_none, nI_1]
theorem fM_push_ok (hS : aS S0 S m st) : aS S0 (fM_push S m p (nI t) (nI wh) (nI i)) m st ∧ pk S (fM_push S m p (nI t) (nI wh) (nI i)) m p ∧ pm_gi (fM_push S m p (nI t) (nI wh) (nI i)) m 35 = nI (p + 1) ∧ pe (fM_push S m p (nI t) (nI wh) (nI i)) m p t wh i 0 (-1) := by
  have fr : frI (mT m) S (fM_push S m p (nI t) (nI wh) (nI i)) := (frI.zi (by unfold mT; omega)).tr ((frI.zi (by unfold mT; omega)).tr ((frI.zi (by unfold mT; omega)).tr ((frI.zi (by unfold mT; omega)).tr ((frI.zi (by unfold mT; omega)).tr (frI.gi (by unfold mT; omega))))))
  refine ⟨aS_s hS fr ?_ ?_, fun j b q1 q2 q3 => ?_, ps_gi_self, ?_⟩
  · unfold fM_push; rw [ps_gi_gi, if_neg (by omega)]; exact hS.2.2.1
  · unfold fM_push; rw [ps_gi_gi, if_neg (by omega)]; exact hS.2.2.2
  · have e : ¬ j = p := by omega
    unfold fM_push
    simp only [ps_gi_nx, ps_gi_sz, ps_gi_sh, ps_gi_gi, ps_gi_gl, ps_gi_gr, ps_gi_zi, ps_gi_zl, ps_gi_zr, ps_gi_ar, ps_gi_al, ps_gl_nx, ps_gl_sz, ps_gl_sh, ps_gl_gi, ps_gl_gl, ps_gl_gr, ps_gl_zi, ps_gl_zl, ps_gl_zr, ps_gl_ar, ps_gl_al, ps_gr_nx, ps_gr_sz, ps_gr_sh, ps_gr_gi, ps_gr_gl, ps_gr_gr, ps_gr_zi, ps_gr_zl, ps_gr_zr, ps_gr_ar, ps_gr_al, ps_zi_nx, ps_zi_sz, ps_zi_sh, ps_zi_gi, ps_zi_gl, ps_zi_gr, ps_zi_zi, ps_zi_zl, ps_zi_zr, ps_zi_ar, ps_zi_al, ps_zl_nx, ps_zl_sz, ps_zl_sh, ps_zl_gi, ps_zl_gl, ps_zl_gr, ps_zl_zi, ps_zl_zl, ps_zl_zr, ps_zl_ar, ps_zl_al, ps_zr_nx, ps_zr_sz, ps_zr_sh, ps_zr_gi, ps_zr_gl, ps_zr_gr, ps_zr_zi, ps_zr_zl, ps_zr_zr, ps_zr_ar, ps_zr_al, pm_rf_some, pm_rf_none, pm_tl_some, pm_tl_none, e, and_false, if_false]
  · unfold fM_push pe
    simp [ps_gi_nx, ps_gi_sz, ps_gi_sh, ps_gi_gi, ps_gi_gl, ps_gi_gr, ps_gi_zi, ps_gi_zl, ps_gi_zr, ps_gi_ar, ps_gi_al, ps_gl_nx, ps_gl_sz, ps_gl_sh, ps_gl_gi, ps_gl_gl, ps_gl_gr, ps_gl_zi, ps_gl_zl, ps_gl_zr, ps_gl_ar, ps_gl_al, ps_gr_nx, ps_gr_sz, ps_gr_sh, ps_gr_gi, ps_gr_gl, ps_gr_gr, ps_gr_zi, ps_gr_zl, ps_gr_zr, ps_gr_ar, ps_gr_al, ps_zi_nx, ps_zi_sz, ps_zi_sh, ps_zi_gi, ps_zi_gl, ps_zi_gr, ps_zi_zi, ps_zi_zl, ps_zi_zr, ps_zi_ar, ps_zi_al, ps_zl_nx, ps_zl_sz, ps_zl_sh, ps_zl_gi, ps_zl_gl, ps_zl_gr, ps_zl_zi, ps_zl_zl, ps_zl_zr, ps_zl_ar, ps_zl_al, ps_zr_nx, ps_zr_sz, ps_zr_sh, ps_zr_gi, ps_zr_gl, ps_zr_gr, ps_zr_zi, ps_zr_zl, ps_zr_zr, ps_zr_ar, ps_zr_al, pm_rf_some, pm_rf_none, pm_tl_some, pm_tl_none]
    rfl
theorem m_manyOf_l (hM : sM S m) (ha : a < 24) (hR : mR S m a C) (ho : sp_ok C) (hw : wh = 0 ∨ wh = 1) (hi : i < sp_len C wh) : ∀ n k l6, k + n = C.2.2.1.length → pm_V (d + 1) 126 6 [.ref m, .int (nI a), .int (nI wh), .int (nI i), .int (nI (sp_cnt (sp_is C wh i) k)), .int (nI k), l6] [] S Q = Q (some (.int (nI (sp_many C wh i)))) S := by
  have l1 := hR.2.1
  have l2 := hR.2.2.2.1
  intro n
  induction n with
  | zero =>
    intro k l6 hk
    have : k = C.2.2.1.length := by omega
    subst this
    have e1 : ¬ nI C.2.2.1.length < nI C.2.2.1.length := nI_nlt (Nat.le_refl _) (by omega)
    rw [q126_6]
    simp only [q126_0, q126_1, q126_3, q126_4, q126_8, q126_9, q126_12, q126_13, q126_14, q126_17, q126_18, q126_21, q126_22, q126_23, q126_25, q126_28, q126_29, q126_32, q126_33, q126_36, q126_37, q126_40, q126_41, q126_42, q126_44, q126_47, q126_48, q126_49, q126_50, q126_53, q126_56, q126_57, q126_58, q126_60, q126_63, q126_64, q126_65, q126_66, q126_69, q126_72, q126_73, q126_76, q126_77, q126_79, q126_81, q126_83, q126_86, q126_87, q126_90, q126_91, q126_92, q126_94, q126_97, q126_100, q126_102, q126_e, sM_0 hM, sM_r9 hM, pm_rf_some, ar9 hM ha, nc24 ha, hR.2.2.1, e1, if_false]
    rfl
  | succ n ih =>
    intro k l6 hk
    have hk2 : k < C.2.2.1.length := by omega
    have e1 : nI k < nI C.2.2.1.length := nI_lt hk2 (by omega)
    have o := ho k hk2
    have := fun l6 => ih (k + 1) l6 (by omega)
    rw [sp_cnt_s] at this
    rw [q126_6]
    rcases hw with rfl | rfl
    · have hi' : i < C.2.1.length := hi
      have z1 : (nI (sp_ar C k).1 = nI i) = ((sp_ar C k).1 = i) := nI_e' (by omega) (by omega)
      simp only [q126_0, q126_1, q126_3, q126_4, q126_8, q126_9, q126_12, q126_13, q126_14, q126_17, q126_18, q126_21, q126_22, q126_23, q126_25, q126_28, q126_29, q126_32, q126_33, q126_36, q126_37, q126_40, q126_41, q126_42, q126_44, q126_47, q126_48, q126_49, q126_50, q126_53, q126_56, q126_57, q126_58, q126_60, q126_63, q126_64, q126_65, q126_66, q126_69, q126_72, q126_73, q126_76, q126_77, q126_79, q126_81, q126_83, q126_86, q126_87, q126_90, q126_91, q126_92, q126_94, q126_97, q126_100, q126_102, q126_e, sM_0 hM, sM_r9 hM, pm_rf_some, ar9 hM ha, nc24 ha, hR.2.2.1, e1, if_true, nI_0', mr_from hM hR ha hk2, pm_tl_some, z1, nI_1]
      by_cases h1 : (sp_ar C k).1 = i
      · have hs : sp_is C 0 i k = true := by unfold sp_is; rw [if_pos rfl, h1]; exact beq_self_eq_true i
        rw [hs] at this
        simp only [h1, if_true, q126_0, q126_1, q126_3, q126_4, q126_8, q126_9, q126_12, q126_13, q126_14, q126_17, q126_18, q126_21, q126_22, q126_23, q126_25, q126_28, q126_29, q126_32, q126_33, q126_36, q126_37, q126_40, q126_41, q126_42, q126_44, q126_47, q126_48, q126_49, q126_50, q126_53, q126_56, q126_57, q126_58, q126_60, q126_63, q126_64, q126_65, q126_66, q126_69, q126_72, q126_73, q126_76, q126_77, q126_79, q126_81, q126_83, q126_86, q126_87, q126_90, q126_91, q126_92, q126_94, q126_97, q126_100, q126_102, q126_e, show ¬ (1 : Int32) = 0 by decide, if_false, nI_1]
        exact this _
      · have hs : sp_is C 0 i k = false := by unfold sp_is; rw [if_pos rfl]; exact beq_false_of_ne h1
        rw [hs] at this
        simp only [h1, if_false, if_true, q126_0, q126_1, q126_3, q126_4, q126_8, q126_9, q126_12, q126_13, q126_14, q126_17, q126_18, q126_21, q126_22, q126_23, q126_25, q126_28, q126_29, q126_32, q126_33, q126_36, q126_37, q126_40, q126_41, q126_42, q126_44, q126_47, q126_48, q126_49, q126_50, q126_53, q126_56, q126_57, q126_58, q126_60, q126_63, q126_64, q126_65, q126_66, q126_69, q126_72, q126_73, q126_76, q126_77, q126_79, q126_81, q126_83, q126_86, q126_87, q126_90, q126_91, q126_92, q126_94, q126_97, q126_100, q126_102, q126_e, nI_1]
        rw [show nI (sp_cnt (sp_is C 0 i) k) + 0 = nI (sp_cnt (sp_is C 0 i) k) from Int32.add_zero _]
        exact this _
    · have hi' : i < C.2.2.1.length := hi
      have o2 := ho i hi'
      have z1 : (nI (sp_ar C k).1 = nI (sp_ar C i).1) = ((sp_ar C k).1 = (sp_ar C i).1) := nI_e' (by omega) (by omega)
      have z2 : (nI (sp_ar C k).2.1 = nI (sp_ar C i).2.1) = ((sp_ar C k).2.1 = (sp_ar C i).2.1) := nI_e' (by omega) (by omega)
      simp only [q126_0, q126_1, q126_3, q126_4, q126_8, q126_9, q126_12, q126_13, q126_14, q126_17, q126_18, q126_21, q126_22, q126_23, q126_25, q126_28, q126_29, q126_32, q126_33, q126_36, q126_37, q126_40, q126_41, q126_42, q126_44, q126_47, q126_48, q126_49, q126_50, q126_53, q126_56, q126_57, q126_58, q126_60, q126_63, q126_64, q126_65, q126_66, q126_69, q126_72, q126_73, q126_76, q126_77, q126_79, q126_81, q126_83, q126_86, q126_87, q126_90, q126_91, q126_92, q126_94, q126_97, q126_100, q126_102, q126_e, sM_0 hM, sM_r9 hM, pm_rf_some, ar9 hM ha, nc24 ha, hR.2.2.1, e1, if_true, show ¬ nI 1 = 0 by decide, if_false, mr_from hM hR ha hk2, mr_to hM hR ha hk2, mr_from hM hR ha hi', mr_to hM hR ha hi', pm_tl_some, z1, z2, nI_1]
      by_cases h1 : (sp_ar C k).1 = (sp_ar C i).1
      · by_cases h2 : (sp_ar C k).2.1 = (sp_ar C i).2.1
        · have hs : sp_is C 1 i k = true := by unfold sp_is; rw [if_neg (by decide), h1, h2]; simp
          rw [hs] at this
          simp only [h1, h2, if_true, q126_0, q126_1, q126_3, q126_4, q126_8, q126_9, q126_12, q126_13, q126_14, q126_17, q126_18, q126_21, q126_22, q126_23, q126_25, q126_28, q126_29, q126_32, q126_33, q126_36, q126_37, q126_40, q126_41, q126_42, q126_44, q126_47, q126_48, q126_49, q126_50, q126_53, q126_56, q126_57, q126_58, q126_60, q126_63, q126_64, q126_65, q126_66, q126_69, q126_72, q126_73, q126_76, q126_77, q126_79, q126_81, q126_83, q126_86, q126_87, q126_90, q126_91, q126_92, q126_94, q126_97, q126_100, q126_102, q126_e, show ¬ (1 : Int32) = 0 by decide, if_false, nI_1]
          exact this _
        · have hs : sp_is C 1 i k = false := by unfold sp_is; rw [if_neg (by decide)]; simp [h2]
          rw [hs] at this
          simp only [h1, h2, if_false, if_true, q126_0, q126_1, q126_3, q126_4, q126_8, q126_9, q126_12, q126_13, q126_14, q126_17, q126_18, q126_21, q126_22, q126_23, q126_25, q126_28, q126_29, q126_32, q126_33, q126_36, q126_37, q126_40, q126_41, q126_42, q126_44, q126_47, q126_48, q126_49, q126_50, q126_53, q126_56, q126_57, q126_58, q126_60, q126_63, q126_64, q126_65, q126_66, q126_69, q126_72, q126_73, q126_76, q126_77, q126_79, q126_81, q126_83, q126_86, q126_87, q126_90, q126_91, q126_92, q126_94, q126_97, q126_100, q126_102, q126_e, nI_1]
          rw [show nI (sp_cnt (sp_is C 1 i) k) + 0 = nI (sp_cnt (sp_is C 1 i) k) from Int32.add_zero _]
          exact this _
      · have hs : sp_is C 1 i k = false := by unfold sp_is; rw [if_neg (by decide)]; simp [h1]
        rw [hs] at this
        simp only [h1, if_false, if_true, q126_0, q126_1, q126_3, q126_4, q126_8, q126_9, q126_12, q126_13, q126_14, q126_17, q126_18, q126_21, q126_22, q126_23, q126_25, q126_28, q126_29, q126_32, q126_33, q126_36, q126_37, q126_40, q126_41, q126_42, q126_44, q126_47, q126_48, q126_49, q126_50, q126_53, q126_56, q126_57, q126_58, q126_60, q126_63, q126_64, q126_65, q126_66, q126_69, q126_72, q126_73, q126_76, q126_77, q126_79, q126_81, q126_83, q126_86, q126_87, q126_90, q126_91, q126_92, q126_94, q126_97, q126_100, q126_102, q126_e, nI_1]
        rw [show nI (sp_cnt (sp_is C 1 i) k) + 0 = nI (sp_cnt (sp_is C 1 i) k) from Int32.add_zero _]
        exact this _
theorem m_manyOf (hM : sM S m) (ha : a < 24) (hR : mR S m a C) (ho : sp_ok C) (hw : wh = 0 ∨ wh = 1) (hi : i < sp_len C wh) : pm_N (d + 1) 126 [.ref m, .int (nI a), .int (nI wh), .int (nI i)] S Q = Q (some (.int (nI (sp_many C wh i)))) S := by
  simp only [q126_0, q126_1, q126_3, q126_4, q126_8, q126_9, q126_12, q126_13, q126_14, q126_17, q126_18, q126_21, q126_22, q126_23, q126_25, q126_28, q126_29, q126_32, q126_33, q126_36, q126_37, q126_40, q126_41, q126_42, q126_44, q126_47, q126_48, q126_49, q126_50, q126_53, q126_56, q126_57, q126_58, q126_60, q126_63, q126_64, q126_65, q126_66, q126_69, q126_72, q126_73, q126_76, q126_77, q126_79, q126_81, q126_83, q126_86, q126_87, q126_90, q126_91, q126_92, q126_94, q126_97, q126_100, q126_102, q126_e]
  exact m_manyOf_l hM ha hR ho hw hi C.2.2.1.length 0 _ (Nat.zero_add _)
theorem m_fails {b f : Nat} (hM : sM S m) (h30 : pm_gi S m 30 = nI f) (hf : f ≤ 8) (hb : b ≤ 5) : pm_N d 123 [.ref m, .int (nI b)] S Q = Q (some (.int (nI (if f + 1 ≤ 8 then 10 + b else 15)))) (pm_sgi S m 30 (nI (f + 1))) := by
  have z : (nI (f + 1) = 9) = (f + 1 = 9) := nI_e' (b := 9) (by omega) (by decide)
  have e10 : (10 : Int32) + nI b = nI (10 + b) := by rw [← nI_add]; rfl
  simp only [q123_0, q123_1, q123_2, q123_5, q123_6, q123_7, q123_10, q123_12, q123_13, q123_16, q123_18, q123_21, q123_22, q123_25, q123_26, q123_27, q123_e, sM_0 hM, h30, nI_1, ps_gi_nx, ps_gi_sz, ps_gi_sh, ps_gi_gi, ps_gi_gl, ps_gi_gr, ps_gi_zi, ps_gi_zl, ps_gi_zr, ps_gi_ar, ps_gi_al, ps_gl_nx, ps_gl_sz, ps_gl_sh, ps_gl_gi, ps_gl_gl, ps_gl_gr, ps_gl_zi, ps_gl_zl, ps_gl_zr, ps_gl_ar, ps_gl_al, ps_gr_nx, ps_gr_sz, ps_gr_sh, ps_gr_gi, ps_gr_gl, ps_gr_gr, ps_gr_zi, ps_gr_zl, ps_gr_zr, ps_gr_ar, ps_gr_al, ps_zi_nx, ps_zi_sz, ps_zi_sh, ps_zi_gi, ps_zi_gl, ps_zi_gr, ps_zi_zi, ps_zi_zl, ps_zi_zr, ps_zi_ar, ps_zi_al, ps_zl_nx, ps_zl_sz, ps_zl_sh, ps_zl_gi, ps_zl_gl, ps_zl_gr, ps_zl_zi, ps_zl_zl, ps_zl_zr, ps_zl_ar, ps_zl_al, ps_zr_nx, ps_zr_sz, ps_zr_sh, ps_zr_gi, ps_zr_gl, ps_zr_gr, ps_zr_zi, ps_zr_zl, ps_zr_zr, ps_zr_ar, ps_zr_al, pm_rf_some, pm_rf_none, pm_tl_some, pm_tl_none, and_self, if_true, z, e10]
  by_cases h : f + 1 = 9
  · rw [if_pos h, if_neg (by omega)]; rfl
  · rw [if_neg h, if_pos (by omega)]
theorem m_arcBehind_l (hM : sM S m) (ha : a < 24) (hR : mR S m a C) (ho : sp_ok C) (hi : i < 2 ^ 31) : ∀ n k, k + n = C.2.2.1.length → pm_V (d + 1) 121 5 [.ref m, .int (nI a), .int (nI i), .int x, .int (nI k)] [] S Q = Q (some (.int (sp_eC (sp_find (fun e => (sp_ar C e).1 == i) n k)))) S := by
  have l1 := hR.2.1
  have l2 := hR.2.2.2.1
  intro n
  induction n with
  | zero =>
    intro k hk
    have e1 : ¬ nI k < nI C.2.2.1.length := nI_nlt (by omega) (by omega)
    rw [q121_5]
    simp only [q121_0, q121_1, q121_2, q121_3, q121_7, q121_8, q121_11, q121_12, q121_13, q121_16, q121_17, q121_18, q121_20, q121_23, q121_24, q121_27, q121_30, q121_33, q121_35, q121_36, q121_39, q121_40, q121_41, q121_44, q121_46, q121_49, q121_50, q121_e, sM_0 hM, sM_r9 hM, pm_rf_some, ar9 hM ha, nc24 ha, hR.2.2.1, e1, if_false]
    rfl
  | succ n ih =>
    intro k hk
    have hk2 : k < C.2.2.1.length := by omega
    have e1 : nI k < nI C.2.2.1.length := nI_lt hk2 (by omega)
    have o := ho k hk2
    have z1 : (nI (sp_ar C k).1 = nI i) = ((sp_ar C k).1 = i) := nI_e' (by omega) hi
    rw [q121_5]
    simp only [q121_0, q121_1, q121_2, q121_3, q121_7, q121_8, q121_11, q121_12, q121_13, q121_16, q121_17, q121_18, q121_20, q121_23, q121_24, q121_27, q121_30, q121_33, q121_35, q121_36, q121_39, q121_40, q121_41, q121_44, q121_46, q121_49, q121_50, q121_e, sM_0 hM, sM_r9 hM, pm_rf_some, ar9 hM ha, nc24 ha, hR.2.2.1, e1, if_true, mr_from hM hR ha hk2, pm_tl_some, z1, nI_1, ih (k + 1) (by omega), sp_find_s, beq_iff_eq]
    split <;> rfl
theorem m_arcBehind (hM : sM S m) (ha : a < 24) (hR : mR S m a C) (ho : sp_ok C) (hi : i < 2 ^ 31) (hx : x + 1 = nI e) (he : e ≤ C.2.2.1.length) : pm_N (d + 1) 121 [.ref m, .int (nI a), .int (nI i), .int x] S Q = Q (some (.int (sp_eC (sp_find (fun e => (sp_ar C e).1 == i) (C.2.2.1.length - e) e)))) S := by
  simp only [q121_0, q121_1, q121_2, q121_3, q121_7, q121_8, q121_11, q121_12, q121_13, q121_16, q121_17, q121_18, q121_20, q121_23, q121_24, q121_27, q121_30, q121_33, q121_35, q121_36, q121_39, q121_40, q121_41, q121_44, q121_46, q121_49, q121_50, q121_e, hx]
  exact m_arcBehind_l hM ha hR ho hi _ e (by omega)
end
