/-! ===== THE REFERENCE: what may change, by cell and place ===== -/
def frI (P : Nat → Nat → Prop) (S S' : pm_T) : Prop := pm_nx S' = pm_nx S ∧ pm_sz S' = pm_sz S ∧ (∀ b, pm_sh S' b = pm_sh S b) ∧ (∀ b k, pm_gr S' b k = pm_gr S b k) ∧ (∀ b k, pm_zr S' b k = pm_zr S b k) ∧ ∀ b k, ¬ P b k → pm_gi S' b k = pm_gi S b k ∧ pm_gl S' b k = pm_gl S b k ∧ pm_zi S' b k = pm_zi S b k ∧ pm_zl S' b k = pm_zl S b k
section
variable {P P' : Nat → Nat → Prop} {S S' S'' : pm_T} {a k : Nat} {x : Int32} {v : Int64}
theorem frI.rf : frI P S S := ⟨rfl, rfl, fun _ => rfl, fun _ _ => rfl, fun _ _ => rfl, fun _ _ _ => ⟨rfl, rfl, rfl, rfl⟩⟩
theorem frI.tr (h : frI P S S') (h' : frI P S' S'') : frI P S S'' := ⟨h'.1.trans h.1, h'.2.1.trans h.2.1, fun b => (h'.2.2.1 b).trans (h.2.2.1 b), fun b k => (h'.2.2.2.1 b k).trans (h.2.2.2.1 b k), fun b k => (h'.2.2.2.2.1 b k).trans (h.2.2.2.2.1 b k), fun b k hb => by
  obtain ⟨a1, a2, a3, a4⟩ := h.2.2.2.2.2 b k hb
  obtain ⟨b1, b2, b3, b4⟩ := h'.2.2.2.2.2 b k hb
  exact ⟨b1.trans a1, b2.trans a2, b3.trans a3, b4.trans a4⟩⟩
theorem frI.mono (h : frI P S S') (hP : ∀ b k, P b k → P' b k) : frI P' S S' := ⟨h.1, h.2.1, h.2.2.1, h.2.2.2.1, h.2.2.2.2.1, fun b k hb => h.2.2.2.2.2 b k (fun q => hb (hP b k q))⟩
theorem frI.gi (ha : P a k) : frI P S (pm_sgi S a k x) := ⟨rfl, rfl, fun _ => rfl, fun _ _ => rfl, fun _ _ => rfl, fun b j hb => ⟨by rw [ps_gi_gi, if_neg (show ¬ (b = a ∧ j = k) from fun q => hb (q.1 ▸ q.2 ▸ ha))], rfl, rfl, rfl⟩⟩
theorem frI.gl (ha : P a k) : frI P S (pm_sgl S a k v) := ⟨rfl, rfl, fun _ => rfl, fun _ _ => rfl, fun _ _ => rfl, fun b j hb => ⟨rfl, by rw [ps_gl_gl, if_neg (show ¬ (b = a ∧ j = k) from fun q => hb (q.1 ▸ q.2 ▸ ha))], rfl, rfl⟩⟩
theorem frI.zi (ha : P a k) : frI P S (pm_szi S a k x) := ⟨rfl, rfl, fun _ => rfl, fun _ _ => rfl, fun _ _ => rfl, fun b j hb => ⟨rfl, rfl, by rw [ps_zi_zi, if_neg (show ¬ (b = a ∧ j = k) from fun q => hb (q.1 ▸ q.2 ▸ ha))], rfl⟩⟩
theorem frI.zl (ha : P a k) : frI P S (pm_szl S a k v) := ⟨rfl, rfl, fun _ => rfl, fun _ _ => rfl, fun _ _ => rfl, fun b j hb => ⟨rfl, rfl, rfl, by rw [ps_zl_zl, if_neg (show ¬ (b = a ∧ j = k) from fun q => hb (q.1 ▸ q.2 ▸ ha))]⟩⟩
theorem frI.O {R : Nat → Prop} (h : frI P S S') (hP : ∀ b k, P b k → R b) : frO R S S' := fun b hb => ⟨h.2.2.1 b, fun k => (h.2.2.2.2.2 b k (fun q => hb (hP b k q))).1, fun k => (h.2.2.2.2.2 b k (fun q => hb (hP b k q))).2.1, h.2.2.2.1 b, fun k => (h.2.2.2.2.2 b k (fun q => hb (hP b k q))).2.2.1, fun k => (h.2.2.2.2.2 b k (fun q => hb (hP b k q))).2.2.2, h.2.2.2.2.1 b⟩
theorem sM_frI {m : Nat} (h : sM S m) (hf : frI P S S') : sM S' m := by
  refine ⟨(hf.2.2.1 m).trans h.1, fun q hq => ?_⟩
  obtain ⟨h1, h2⟩ := h.2 q hq
  exact ⟨(hf.2.2.2.1 m _).trans h1, (hf.2.2.1 _).trans h2⟩
end
/-- a loop -/
theorem lp {n : Nat} {Inv : Nat → pm_T → Prop} {head : Nat → pm_T → Prop} (step : ∀ k S, k < n → Inv k S → (∀ S', Inv (k + 1) S' → head (k + 1) S') → head k S) (stop : ∀ S, Inv n S → head n S) (S : pm_T) (h0 : Inv 0 S) : head 0 S := by
  have key : ∀ m k S, k + m = n → Inv k S → head k S := by
    intro m
    induction m with
    | zero => intro k S hk hI; have : k = n := by omega
              subst this; exact stop S hI
    | succ m ih => intro k S hk hI; exact step k S (by omega) hI (fun S' q => ih (k + 1) S' (by omega) q)
  exact key n 0 S (by omega) h0
/-- what belongs to graph g -/
def mB (m g b k : Nat) : Prop := ((b = m + 7 ∨ b = m + 8 ∨ b = m + 9 ∨ b = m + 18) ∧ k = g) ∨ ((b = m + 10 ∨ b = m + 11 ∨ b = m + 12) ∧ 40 * g ≤ k ∧ k < 40 * g + 40) ∨ ((m + 13 ≤ b ∧ b ≤ m + 17) ∧ 120 * g ≤ k ∧ k < 120 * g + 120) ∨ ((b = m + 19 ∨ b = m + 20) ∧ 160 * g ≤ k ∧ k < 160 * g + 160)
/-- scratch -/
def mS (m b k : Nat) : Prop := (b = m ∧ 28 ≤ k) ∨ (m + 26 ≤ b ∧ b < m + 34)
def mP (m g b k : Nat) : Prop := mB m g b k ∨ mS m b k
def mR (S : pm_T) (m a : Nat) (C : sp_C) : Prop := pm_zi S (m + 8) a = nI C.2.1.length ∧ C.2.1.length ≤ 40 ∧ pm_zi S (m + 9) a = nI C.2.2.1.length ∧ C.2.2.1.length ≤ 120 ∧ (∀ i, i < C.2.1.length → pm_zl S (m + 10) (40 * a + i) = (sp_nd C i).1) ∧ ∀ e, e < C.2.2.1.length → pm_zi S (m + 13) (120 * a + e) = nI (sp_ar C e).1 ∧ pm_zi S (m + 14) (120 * a + e) = nI (sp_ar C e).2.1 ∧ pm_zl S (m + 15) (120 * a + e) = (sp_ar C e).2.2.1
def mU (S : pm_T) (m a : Nat) (C : sp_C) : Prop := (∀ i, i < C.2.1.length → pm_zi S (m + 11) (40 * a + i) = sp_eM (sp_nd C i).2.1 ∧ pm_zi S (m + 12) (40 * a + i) = sp_eM (sp_nd C i).2.2) ∧ ∀ e, e < C.2.2.1.length → pm_zi S (m + 16) (120 * a + e) = sp_eM (sp_ar C e).2.2.2.1 ∧ pm_zi S (m + 17) (120 * a + e) = sp_eM (sp_ar C e).2.2.2.2
def mH (S : pm_T) (m a : Nat) (C : sp_C) : Prop := pm_zi S (m + 18) a = nI C.2.2.2.length ∧ C.2.2.2.length ≤ 8 ∧ ∀ i, i < C.2.2.2.length → pm_zi S (m + 19) (160 * a + i) = nI (1000 * (sp_hd C i).1 + (sp_hd C i).2.1) ∧ pm_zi S (m + 20) (160 * a + i) = nI (sp_hd C i).2.2
/-- graph g is C, whatever it be -/
def mQ (S : pm_T) (m g : Nat) (C : sp_C) : Prop := pm_zi S (m + 7) g = nI C.1 ∧ C.1 ≤ 5 ∧ mR S m g C ∧ mU S m g C ∧ mH S m g C
section
variable {P : Nat → Nat → Prop} {S S' : pm_T} {m a g n k d j e : Nat} {C Ca : sp_C} {Q : Option Value → pm_T → Prop}
theorem mR_fr (h : mR S m a C) (hf : frI P S S') (hP : ∀ b k, mB m a b k → ¬ P b k) : mR S' m a C := by
  obtain ⟨h1, h2, h3, h4, h5, h6⟩ := h
  have e := fun b k (q : mB m a b k) => hf.2.2.2.2.2 b k (hP b k q)
  refine ⟨((e (m + 8) a (by unfold mB; omega)).2.2.1).trans h1, h2, ((e (m + 9) a (by unfold mB; omega)).2.2.1).trans h3, h4, fun i hi => ((e (m + 10) (40 * a + i) (by unfold mB; omega)).2.2.2).trans (h5 i hi), fun i hi => ?_⟩
  obtain ⟨p1, p2, p3⟩ := h6 i hi
  exact ⟨((e (m + 13) (120 * a + i) (by unfold mB; omega)).2.2.1).trans p1, ((e (m + 14) (120 * a + i) (by unfold mB; omega)).2.2.1).trans p2, ((e (m + 15) (120 * a + i) (by unfold mB; omega)).2.2.2).trans p3⟩
theorem mU_fr (h : mU S m a C) (h2 : C.2.1.length ≤ 40) (h3 : C.2.2.1.length ≤ 120) (hf : frI P S S') (hP : ∀ b k, mB m a b k → ¬ P b k) : mU S' m a C := by
  have e := fun b k (q : mB m a b k) => hf.2.2.2.2.2 b k (hP b k q)
  refine ⟨fun i hi => ?_, fun i hi => ?_⟩
  · obtain ⟨p1, p2⟩ := h.1 i hi
    exact ⟨((e (m + 11) (40 * a + i) (by unfold mB; omega)).2.2.1).trans p1, ((e (m + 12) (40 * a + i) (by unfold mB; omega)).2.2.1).trans p2⟩
  · obtain ⟨p1, p2⟩ := h.2 i hi
    exact ⟨((e (m + 16) (120 * a + i) (by unfold mB; omega)).2.2.1).trans p1, ((e (m + 17) (120 * a + i) (by unfold mB; omega)).2.2.1).trans p2⟩
theorem mH_fr (h : mH S m a C) (hf : frI P S S') (hP : ∀ b k, mB m a b k → ¬ P b k) : mH S' m a C := by
  obtain ⟨h1, h2, h3⟩ := h
  have e := fun b k (q : mB m a b k) => hf.2.2.2.2.2 b k (hP b k q)
  refine ⟨((e (m + 18) a (by unfold mB; omega)).2.2.1).trans h1, h2, fun i hi => ?_⟩
  obtain ⟨p1, p2⟩ := h3 i hi
  exact ⟨((e (m + 19) (160 * a + i) (by unfold mB; omega)).2.2.1).trans p1, ((e (m + 20) (160 * a + i) (by unfold mB; omega)).2.2.1).trans p2⟩
theorem mQ_fr (h : mQ S m a C) (hf : frI P S S') (hP : ∀ b k, mB m a b k → ¬ P b k) : mQ S' m a C := by
  obtain ⟨h1, h2, h3, h4, h5⟩ := h
  exact ⟨((hf.2.2.2.2.2 (m + 7) a (hP _ _ (by unfold mB; omega))).2.2.1).trans h1, h2, mR_fr h3 hf hP, mU_fr h4 h3.2.1 h3.2.2.2.1 hf hP, mH_fr h5 hf hP⟩
theorem mB_ne (h : a ≠ g) : ∀ b k, mB m a b k → ¬ mP m g b k := fun b k q => by unfold mB at q; unfold mP mB mS; omega
theorem mB_s : ∀ b k, mB m a b k → ¬ mS m b k := fun b k q => by unfold mB at q; unfold mS; omega
/-! reading -/
theorem m_fromOf (hM : sM S m) (hg : g < 24) (he : e < 120) : pm_N d 104 [.ref m, .int (nI g), .int (nI e)] S Q = Q (some (.int (pm_zi S (m + 13) (120 * g + e)))) S := by
  have e1 : (120 : Int32) * nI g + nI e = nI (120 * g + e) := sp_at 120 g e
  have r1 := pm_ar_nI (sM_s13 hM) (show 120 * g + e < 2880 by omega) (by decide)
  simp only [q104_0, q104_1, q104_4, q104_6, q104_7, q104_8, q104_9, q104_10, q104_11, q104_e, sM_0 hM, sM_r13 hM, pm_rf_some, e1, r1, nI_clamp (show 120 * g + e < 2 ^ 31 by omega)]
theorem m_toOf (hM : sM S m) (hg : g < 24) (he : e < 120) : pm_N d 105 [.ref m, .int (nI g), .int (nI e)] S Q = Q (some (.int (pm_zi S (m + 14) (120 * g + e)))) S := by
  have e1 : (120 : Int32) * nI g + nI e = nI (120 * g + e) := sp_at 120 g e
  have r1 := pm_ar_nI (sM_s14 hM) (show 120 * g + e < 2880 by omega) (by decide)
  simp only [q105_0, q105_1, q105_4, q105_6, q105_7, q105_8, q105_9, q105_10, q105_11, q105_e, sM_0 hM, sM_r14 hM, pm_rf_some, e1, r1, nI_clamp (show 120 * g + e < 2 ^ 31 by omega)]
theorem m_ofArc (hM : sM S m) (hg : g < 24) (he : e < 120) : pm_N d 107 [.ref m, .int (nI g), .int (nI e)] S Q = Q (some (.long (pm_zl S (m + 15) (120 * g + e)))) S := by
  have e1 : (120 : Int32) * nI g + nI e = nI (120 * g + e) := sp_at 120 g e
  have r1 := pm_ar_nI (sM_s15 hM) (show 120 * g + e < 2880 by omega) (by decide)
  simp only [q107_0, q107_1, q107_4, q107_6, q107_7, q107_8, q107_9, q107_10, q107_11, q107_e, sM_0 hM, sM_r15 hM, pm_rf_some, e1, r1, nI_clamp (show 120 * g + e < 2 ^ 31 by omega)]
theorem m_ofNode (hM : sM S m) (hg : g < 24) (he : e < 40) : pm_N d 106 [.ref m, .int (nI g), .int (nI e)] S Q = Q (some (.long (pm_zl S (m + 10) (40 * g + e)))) S := by
  have e1 : (40 : Int32) * nI g + nI e = nI (40 * g + e) := sp_at 40 g e
  have r1 := pm_ar_nI (sM_s10 hM) (show 40 * g + e < 960 by omega) (by decide)
  simp only [q106_0, q106_1, q106_4, q106_6, q106_7, q106_8, q106_9, q106_10, q106_11, q106_e, sM_0 hM, sM_r10 hM, pm_rf_some, e1, r1, nI_clamp (show 40 * g + e < 2 ^ 31 by omega)]
/-- contents, read by the reference -/
theorem mr_from (hM : sM S m) (hR : mR S m a C) (ha : a < 24) (he : e < C.2.2.1.length) : pm_N d 104 [.ref m, .int (nI a), .int (nI e)] S Q = Q (some (.int (nI (sp_ar C e).1))) S := by
  rw [m_fromOf hM ha (by have := hR.2.2.2.1; omega), (hR.2.2.2.2.2 e he).1]
theorem mr_to (hM : sM S m) (hR : mR S m a C) (ha : a < 24) (he : e < C.2.2.1.length) : pm_N d 105 [.ref m, .int (nI a), .int (nI e)] S Q = Q (some (.int (nI (sp_ar C e).2.1))) S := by
  rw [m_toOf hM ha (by have := hR.2.2.2.1; omega), (hR.2.2.2.2.2 e he).2.1]
theorem mr_arc (hM : sM S m) (hR : mR S m a C) (ha : a < 24) (he : e < C.2.2.1.length) : pm_N d 107 [.ref m, .int (nI a), .int (nI e)] S Q = Q (some (.long (sp_ar C e).2.2.1)) S := by
  rw [m_ofArc hM ha (by have := hR.2.2.2.1; omega), (hR.2.2.2.2.2 e he).2.2]
theorem mr_node (hM : sM S m) (hR : mR S m a C) (ha : a < 24) (he : e < C.2.1.length) : pm_N d 106 [.ref m, .int (nI a), .int (nI e)] S Q = Q (some (.long (sp_nd C e).1)) S := by
  rw [m_ofNode hM ha (by have := hR.2.1; omega), hR.2.2.2.2.1 e he]
theorem ar7 (hM : sM S m) (hg : g < 24) : pm_ar S (m + 7) 0 (nI g) = true := pm_ar_nI (sM_s7 hM) hg (by decide)
theorem ar8 (hM : sM S m) (hg : g < 24) : pm_ar S (m + 8) 0 (nI g) = true := pm_ar_nI (sM_s8 hM) hg (by decide)
theorem ar9 (hM : sM S m) (hg : g < 24) : pm_ar S (m + 9) 0 (nI g) = true := pm_ar_nI (sM_s9 hM) hg (by decide)
theorem nc24 (hg : g < 24) : (nI g).toNatClampNeg = g := nI_clamp (by omega)
/-! adding -/
theorem m_addArc {t h x y : Int32} {v : Int64} (hM : sM S m) (hj : j < 24) (hk : pm_zi S (m + 9) j = nI k) (hk4 : k ≤ 120) : pm_N (d + 1) 103 [.ref m, .int (nI j), .int t, .int h, .long v, .int x, .int y] S Q = Q none (fM_arc S m j k t h v x y) := by
  have e1 := ar7 hM hj
  have e2 := ar9 hM hj
  have e4 := nc24 hj
  have e5 := nI_clamp (show 120 * j + k < 2 ^ 31 by omega)
  have e6 : (120 : Int32) * nI j + nI k = nI (120 * j + k) := sp_at 120 j k
  unfold fM_arc
  by_cases h1 : k = 120
  · subst h1
    have c1 : nI 120 = 120 := by decide
    have hM' : sM (fM_breaks S m j 4) m := hM
    have b1 : ¬ pm_zi (fM_breaks S m j 4) (m + 7) j = 0 := by
      unfold fM_breaks
      rw [ps_zi_self]
      split <;> simp_all
    rw [if_pos rfl]
    simp only [q103_0, q103_1, q103_4, q103_5, q103_6, q103_8, q103_11, q103_12, q103_13, q103_14, q103_17, q103_18, q103_21, q103_22, q103_23, q103_26, q103_28, q103_29, q103_30, q103_31, q103_34, q103_35, q103_36, q103_37, q103_39, q103_40, q103_43, q103_45, q103_46, q103_47, q103_48, q103_51, q103_53, q103_54, q103_55, q103_56, q103_59, q103_61, q103_63, q103_64, q103_65, q103_68, q103_70, q103_72, q103_73, q103_74, q103_77, q103_79, q103_81, q103_82, q103_83, q103_86, q103_87, q103_88, q103_89, q103_90, q103_91, q103_92, q103_e, sM_0 hM, sM_r9 hM, sM_r7 hM, pm_rf_some, e1, e2, e4, hk, c1, if_true, m_breaks hM hj, pm_tl_none]
    simp only [q103_0, q103_1, q103_4, q103_5, q103_6, q103_8, q103_11, q103_12, q103_13, q103_14, q103_17, q103_18, q103_21, q103_22, q103_23, q103_26, q103_28, q103_29, q103_30, q103_31, q103_34, q103_35, q103_36, q103_37, q103_39, q103_40, q103_43, q103_45, q103_46, q103_47, q103_48, q103_51, q103_53, q103_54, q103_55, q103_56, q103_59, q103_61, q103_63, q103_64, q103_65, q103_68, q103_70, q103_72, q103_73, q103_74, q103_77, q103_79, q103_81, q103_82, q103_83, q103_86, q103_87, q103_88, q103_89, q103_90, q103_91, q103_92, q103_e, sM_0 hM', sM_r7 hM', pm_rf_some, show pm_ar (fM_breaks S m j 4) (m + 7) 0 (nI j) = true from e1, e4, b1, if_false]
  · have c1 : ¬ nI k = 120 := fun q => h1 ((nI_eq (a := k) (b := 120) (by omega) (by decide)).mp q)
    have r1 := pm_ar_nI (sM_s13 hM) (show 120 * j + k < 2880 by omega) (by decide)
    have r2 := pm_ar_nI (sM_s14 hM) (show 120 * j + k < 2880 by omega) (by decide)
    have r3 := pm_ar_nI (sM_s15 hM) (show 120 * j + k < 2880 by omega) (by decide)
    have r4 := pm_ar_nI (sM_s16 hM) (show 120 * j + k < 2880 by omega) (by decide)
    have r5 := pm_ar_nI (sM_s17 hM) (show 120 * j + k < 2880 by omega) (by decide)
    rw [if_neg h1]
    simp only [q103_0, q103_1, q103_4, q103_5, q103_6, q103_8, q103_11, q103_12, q103_13, q103_14, q103_17, q103_18, q103_21, q103_22, q103_23, q103_26, q103_28, q103_29, q103_30, q103_31, q103_34, q103_35, q103_36, q103_37, q103_39, q103_40, q103_43, q103_45, q103_46, q103_47, q103_48, q103_51, q103_53, q103_54, q103_55, q103_56, q103_59, q103_61, q103_63, q103_64, q103_65, q103_68, q103_70, q103_72, q103_73, q103_74, q103_77, q103_79, q103_81, q103_82, q103_83, q103_86, q103_87, q103_88, q103_89, q103_90, q103_91, q103_92, q103_e, sM_0 hM, sM_r9 hM, sM_r7 hM, sM_r13 hM, sM_r14 hM, sM_r15 hM, sM_r16 hM, sM_r17 hM, pm_rf_some, e1, e2, e4, hk, c1, if_false, e6, r1, r2, r3, r4, r5, e5, ps_gi_nx, ps_gi_sz, ps_gi_sh, ps_gi_gi, ps_gi_gl, ps_gi_gr, ps_gi_zi, ps_gi_zl, ps_gi_zr, ps_gi_ar, ps_gi_al, ps_gl_nx, ps_gl_sz, ps_gl_sh, ps_gl_gi, ps_gl_gl, ps_gl_gr, ps_gl_zi, ps_gl_zl, ps_gl_zr, ps_gl_ar, ps_gl_al, ps_gr_nx, ps_gr_sz, ps_gr_sh, ps_gr_gi, ps_gr_gl, ps_gr_gr, ps_gr_zi, ps_gr_zl, ps_gr_zr, ps_gr_ar, ps_gr_al, ps_zi_nx, ps_zi_sz, ps_zi_sh, ps_zi_gi, ps_zi_gl, ps_zi_gr, ps_zi_zi, ps_zi_zl, ps_zi_zr, ps_zi_ar, ps_zi_al, ps_zl_nx, ps_zl_sz, ps_zl_sh, ps_zl_gi, ps_zl_gl, ps_zl_gr, ps_zl_zi, ps_zl_zl, ps_zl_zr, ps_zl_ar, ps_zl_al, ps_zr_nx, ps_zr_sz, ps_zr_sh, ps_zr_gi, ps_zr_gl, ps_zr_gr, ps_zr_zi, ps_zr_zl, ps_zr_zr, ps_zr_ar, ps_zr_al, pm_rf_some, pm_rf_none, pm_tl_some, pm_tl_none, nI_1]
    by_cases h2 : pm_zi S (m + 7) j = 0
    · rw [if_pos h2, if_pos h2]
      simp (config := { decide := false }) [hk, nI_1]
    · rw [if_neg h2, if_neg h2]
theorem sp_nd_app {q : sp_N} {x : Nat} {r : List sp_A × List (Nat × Nat × Nat)} (i : Nat) : sp_nd (x, C.2.1 ++ [q], r) i = if i = C.2.1.length then q else sp_nd C i := by
  unfold sp_nd
  rw [List.getD_eq_getElem?_getD, List.getD_eq_getElem?_getD]
  by_cases h : i < C.2.1.length
  · rw [List.getElem?_append_left h, if_neg (by omega)]
  · rw [List.getElem?_append_right (by omega)]
    by_cases e : i = C.2.1.length
    · subst e; rw [Nat.sub_self, if_pos rfl]; rfl
    · rw [if_neg e, List.getElem?_eq_none (by simp; omega), List.getElem?_eq_none (by omega)]
theorem sp_ar_app {q : sp_A} {x : Nat} {ns : List sp_N} {r : List (Nat × Nat × Nat)} (i : Nat) : sp_ar (x, ns, C.2.2.1 ++ [q], r) i = if i = C.2.2.1.length then q else sp_ar C i := by
  unfold sp_ar
  rw [List.getD_eq_getElem?_getD, List.getD_eq_getElem?_getD]
  by_cases h : i < C.2.2.1.length
  · rw [List.getElem?_append_left h, if_neg (by omega)]
  · rw [List.getElem?_append_right (by omega)]
    by_cases e : i = C.2.2.1.length
    · subst e; rw [Nat.sub_self, if_pos rfl]; rfl
    · rw [if_neg e, List.getElem?_eq_none (by simp; omega), List.getElem?_eq_none (by omega)]
theorem sp_ar_n {x : Nat} {ns : List sp_N} (i : Nat) : sp_ar (x, ns, C.2.2) i = sp_ar C i := rfl
theorem sp_hd_n {x : Nat} {ns : List sp_N} (i : Nat) : sp_hd (x, ns, C.2.2) i = sp_hd C i := rfl
theorem sp_hd_a {x : Nat} {ns : List sp_N} {as : List sp_A} (i : Nat) : sp_hd (x, ns, as, C.2.2.2) i = sp_hd C i := rfl
theorem sp_nd_a {x : Nat} {r : List sp_A × List (Nat × Nat × Nat)} (i : Nat) : sp_nd (x, C.2.1, r) i = sp_nd C i := rfl
/-- it breaks, if it wasn't broken -/
theorem mQ_brk {f : Nat} (h : mQ S m g C) (hf : 1 ≤ f ∧ f ≤ 5) : mQ (fM_breaks S m g (nI f)) m g (sp_brk C f) ∧ frI (mB m g) S (fM_breaks S m g (nI f)) := by
  obtain ⟨h1, h2, h3, h4, h5⟩ := h
  have fr : frI (mB m g) S (fM_breaks S m g (nI f)) := frI.zi (by unfold mB; omega)
  have fr7 : frI (fun b k => b = m + 7) S (fM_breaks S m g (nI f)) := frI.zi rfl
  have e0 : (nI C.1 = 0) = (C.1 = 0) := nI_e' (b := 0) (by omega) (by decide)
  refine ⟨⟨?_, ?_, ?_, ?_, ?_⟩, fr⟩
  · unfold fM_breaks
    rw [ps_zi_self]
    simp only [h1, e0]
    unfold sp_brk
    dsimp only
    split <;> rfl
  · unfold sp_brk; dsimp only; split <;> omega
  · obtain ⟨p1, p2, p3, p4, p5, p6⟩ := h3
    refine ⟨?_, p2, ?_, p4, p5, fun e he => ?_⟩
    · rw [(fr7.2.2.2.2.2 (m + 8) g (by omega)).2.2.1]; exact p1
    · rw [(fr7.2.2.2.2.2 (m + 9) g (by omega)).2.2.1]; exact p3
    · rw [(fr7.2.2.2.2.2 (m + 13) _ (by omega)).2.2.1, (fr7.2.2.2.2.2 (m + 14) _ (by omega)).2.2.1]; exact p6 e he
  · refine ⟨fun i hi => ?_, fun i hi => ?_⟩
    · rw [(fr7.2.2.2.2.2 (m + 11) _ (by omega)).2.2.1, (fr7.2.2.2.2.2 (m + 12) _ (by omega)).2.2.1]; exact h4.1 i hi
    · rw [(fr7.2.2.2.2.2 (m + 16) _ (by omega)).2.2.1, (fr7.2.2.2.2.2 (m + 17) _ (by omega)).2.2.1]; exact h4.2 i hi
  · refine ⟨?_, h5.2.1, fun i hi => ?_⟩
    · rw [(fr7.2.2.2.2.2 (m + 18) _ (by omega)).2.2.1]; exact h5.1
    · rw [(fr7.2.2.2.2.2 (m + 19) _ (by omega)).2.2.1, (fr7.2.2.2.2.2 (m + 20) _ (by omega)).2.2.1]; exact h5.2.2 i hi
theorem mQ_node {v : Int64} {x y : Option Nat} (h : mQ S m g C) : mQ (fM_node S m g C.2.1.length v (sp_eM x) (sp_eM y)) m g (sp_addN C (v, x, y)) ∧ frI (mB m g) S (fM_node S m g C.2.1.length v (sp_eM x) (sp_eM y)) := by
  obtain ⟨h1, h2, h3, h4, h5⟩ := id h
  have e0 : (nI C.1 = 0) = (C.1 = 0) := nI_e' (b := 0) (by omega) (by decide)
  unfold fM_node sp_addN
  by_cases c1 : C.2.1.length = 40
  · rw [if_pos c1, if_pos c1]
    exact mQ_brk (f := 4) h (by decide)
  · rw [if_neg c1, if_neg c1]
    simp only [h1, e0]
    by_cases c2 : C.1 = 0
    · rw [if_pos c2, if_pos c2]
      obtain ⟨p1, p2, p3, p4, p5, p6⟩ := h3
      refine ⟨⟨by simpa [ps_gi_nx, ps_gi_sz, ps_gi_sh, ps_gi_gi, ps_gi_gl, ps_gi_gr, ps_gi_zi, ps_gi_zl, ps_gi_zr, ps_gi_ar, ps_gi_al, ps_gl_nx, ps_gl_sz, ps_gl_sh, ps_gl_gi, ps_gl_gl, ps_gl_gr, ps_gl_zi, ps_gl_zl, ps_gl_zr, ps_gl_ar, ps_gl_al, ps_gr_nx, ps_gr_sz, ps_gr_sh, ps_gr_gi, ps_gr_gl, ps_gr_gr, ps_gr_zi, ps_gr_zl, ps_gr_zr, ps_gr_ar, ps_gr_al, ps_zi_nx, ps_zi_sz, ps_zi_sh, ps_zi_gi, ps_zi_gl, ps_zi_gr, ps_zi_zi, ps_zi_zl, ps_zi_zr, ps_zi_ar, ps_zi_al, ps_zl_nx, ps_zl_sz, ps_zl_sh, ps_zl_gi, ps_zl_gl, ps_zl_gr, ps_zl_zi, ps_zl_zl, ps_zl_zr, ps_zl_ar, ps_zl_al, ps_zr_nx, ps_zr_sz, ps_zr_sh, ps_zr_gi, ps_zr_gl, ps_zr_gr, ps_zr_zi, ps_zr_zl, ps_zr_zr, ps_zr_ar, ps_zr_al, pm_rf_some, pm_rf_none, pm_tl_some, pm_tl_none] using h1, h2, ⟨?_, ?_, by simpa [ps_gi_nx, ps_gi_sz, ps_gi_sh, ps_gi_gi, ps_gi_gl, ps_gi_gr, ps_gi_zi, ps_gi_zl, ps_gi_zr, ps_gi_ar, ps_gi_al, ps_gl_nx, ps_gl_sz, ps_gl_sh, ps_gl_gi, ps_gl_gl, ps_gl_gr, ps_gl_zi, ps_gl_zl, ps_gl_zr, ps_gl_ar, ps_gl_al, ps_gr_nx, ps_gr_sz, ps_gr_sh, ps_gr_gi, ps_gr_gl, ps_gr_gr, ps_gr_zi, ps_gr_zl, ps_gr_zr, ps_gr_ar, ps_gr_al, ps_zi_nx, ps_zi_sz, ps_zi_sh, ps_zi_gi, ps_zi_gl, ps_zi_gr, ps_zi_zi, ps_zi_zl, ps_zi_zr, ps_zi_ar, ps_zi_al, ps_zl_nx, ps_zl_sz, ps_zl_sh, ps_zl_gi, ps_zl_gl, ps_zl_gr, ps_zl_zi, ps_zl_zl, ps_zl_zr, ps_zl_ar, ps_zl_al, ps_zr_nx, ps_zr_sz, ps_zr_sh, ps_zr_gi, ps_zr_gl, ps_zr_gr, ps_zr_zi, ps_zr_zl, ps_zr_zr, ps_zr_ar, ps_zr_al, pm_rf_some, pm_rf_none, pm_tl_some, pm_tl_none] using p3, p4, fun i hi => ?_, fun e he => ?_⟩, ⟨fun i hi => ?_, fun i hi => ?_⟩, ?_⟩, ?_⟩
      · simp [ps_gi_nx, ps_gi_sz, ps_gi_sh, ps_gi_gi, ps_gi_gl, ps_gi_gr, ps_gi_zi, ps_gi_zl, ps_gi_zr, ps_gi_ar, ps_gi_al, ps_gl_nx, ps_gl_sz, ps_gl_sh, ps_gl_gi, ps_gl_gl, ps_gl_gr, ps_gl_zi, ps_gl_zl, ps_gl_zr, ps_gl_ar, ps_gl_al, ps_gr_nx, ps_gr_sz, ps_gr_sh, ps_gr_gi, ps_gr_gl, ps_gr_gr, ps_gr_zi, ps_gr_zl, ps_gr_zr, ps_gr_ar, ps_gr_al, ps_zi_nx, ps_zi_sz, ps_zi_sh, ps_zi_gi, ps_zi_gl, ps_zi_gr, ps_zi_zi, ps_zi_zl, ps_zi_zr, ps_zi_ar, ps_zi_al, ps_zl_nx, ps_zl_sz, ps_zl_sh, ps_zl_gi, ps_zl_gl, ps_zl_gr, ps_zl_zi, ps_zl_zl, ps_zl_zr, ps_zl_ar, ps_zl_al, ps_zr_nx, ps_zr_sz, ps_zr_sh, ps_zr_gi, ps_zr_gl, ps_zr_gr, ps_zr_zi, ps_zr_zl, ps_zr_zr, ps_zr_ar, ps_zr_al, pm_rf_some, pm_rf_none, pm_tl_some, pm_tl_none]
      · simp; omega
      · have hi' : i < C.2.1.length + 1 := by simpa using hi
        rw [sp_nd_app]
        by_cases e : i = C.2.1.length
        · subst e; rw [if_pos rfl]; simp [ps_gi_nx, ps_gi_sz, ps_gi_sh, ps_gi_gi, ps_gi_gl, ps_gi_gr, ps_gi_zi, ps_gi_zl, ps_gi_zr, ps_gi_ar, ps_gi_al, ps_gl_nx, ps_gl_sz, ps_gl_sh, ps_gl_gi, ps_gl_gl, ps_gl_gr, ps_gl_zi, ps_gl_zl, ps_gl_zr, ps_gl_ar, ps_gl_al, ps_gr_nx, ps_gr_sz, ps_gr_sh, ps_gr_gi, ps_gr_gl, ps_gr_gr, ps_gr_zi, ps_gr_zl, ps_gr_zr, ps_gr_ar, ps_gr_al, ps_zi_nx, ps_zi_sz, ps_zi_sh, ps_zi_gi, ps_zi_gl, ps_zi_gr, ps_zi_zi, ps_zi_zl, ps_zi_zr, ps_zi_ar, ps_zi_al, ps_zl_nx, ps_zl_sz, ps_zl_sh, ps_zl_gi, ps_zl_gl, ps_zl_gr, ps_zl_zi, ps_zl_zl, ps_zl_zr, ps_zl_ar, ps_zl_al, ps_zr_nx, ps_zr_sz, ps_zr_sh, ps_zr_gi, ps_zr_gl, ps_zr_gr, ps_zr_zi, ps_zr_zl, ps_zr_zr, ps_zr_ar, ps_zr_al, pm_rf_some, pm_rf_none, pm_tl_some, pm_tl_none]
        · rw [if_neg e]
          have := p5 i (by omega)
          simpa [ps_gi_nx, ps_gi_sz, ps_gi_sh, ps_gi_gi, ps_gi_gl, ps_gi_gr, ps_gi_zi, ps_gi_zl, ps_gi_zr, ps_gi_ar, ps_gi_al, ps_gl_nx, ps_gl_sz, ps_gl_sh, ps_gl_gi, ps_gl_gl, ps_gl_gr, ps_gl_zi, ps_gl_zl, ps_gl_zr, ps_gl_ar, ps_gl_al, ps_gr_nx, ps_gr_sz, ps_gr_sh, ps_gr_gi, ps_gr_gl, ps_gr_gr, ps_gr_zi, ps_gr_zl, ps_gr_zr, ps_gr_ar, ps_gr_al, ps_zi_nx, ps_zi_sz, ps_zi_sh, ps_zi_gi, ps_zi_gl, ps_zi_gr, ps_zi_zi, ps_zi_zl, ps_zi_zr, ps_zi_ar, ps_zi_al, ps_zl_nx, ps_zl_sz, ps_zl_sh, ps_zl_gi, ps_zl_gl, ps_zl_gr, ps_zl_zi, ps_zl_zl, ps_zl_zr, ps_zl_ar, ps_zl_al, ps_zr_nx, ps_zr_sz, ps_zr_sh, ps_zr_gi, ps_zr_gl, ps_zr_gr, ps_zr_zi, ps_zr_zl, ps_zr_zr, ps_zr_ar, ps_zr_al, pm_rf_some, pm_rf_none, pm_tl_some, pm_tl_none, e] using this
      · simpa [ps_gi_nx, ps_gi_sz, ps_gi_sh, ps_gi_gi, ps_gi_gl, ps_gi_gr, ps_gi_zi, ps_gi_zl, ps_gi_zr, ps_gi_ar, ps_gi_al, ps_gl_nx, ps_gl_sz, ps_gl_sh, ps_gl_gi, ps_gl_gl, ps_gl_gr, ps_gl_zi, ps_gl_zl, ps_gl_zr, ps_gl_ar, ps_gl_al, ps_gr_nx, ps_gr_sz, ps_gr_sh, ps_gr_gi, ps_gr_gl, ps_gr_gr, ps_gr_zi, ps_gr_zl, ps_gr_zr, ps_gr_ar, ps_gr_al, ps_zi_nx, ps_zi_sz, ps_zi_sh, ps_zi_gi, ps_zi_gl, ps_zi_gr, ps_zi_zi, ps_zi_zl, ps_zi_zr, ps_zi_ar, ps_zi_al, ps_zl_nx, ps_zl_sz, ps_zl_sh, ps_zl_gi, ps_zl_gl, ps_zl_gr, ps_zl_zi, ps_zl_zl, ps_zl_zr, ps_zl_ar, ps_zl_al, ps_zr_nx, ps_zr_sz, ps_zr_sh, ps_zr_gi, ps_zr_gl, ps_zr_gr, ps_zr_zi, ps_zr_zl, ps_zr_zr, ps_zr_ar, ps_zr_al, pm_rf_some, pm_rf_none, pm_tl_some, pm_tl_none, sp_ar_n] using p6 e he
      · have hi' : i < C.2.1.length + 1 := by simpa using hi
        rw [sp_nd_app]
        by_cases e : i = C.2.1.length
        · subst e; rw [if_pos rfl]; simp [ps_gi_nx, ps_gi_sz, ps_gi_sh, ps_gi_gi, ps_gi_gl, ps_gi_gr, ps_gi_zi, ps_gi_zl, ps_gi_zr, ps_gi_ar, ps_gi_al, ps_gl_nx, ps_gl_sz, ps_gl_sh, ps_gl_gi, ps_gl_gl, ps_gl_gr, ps_gl_zi, ps_gl_zl, ps_gl_zr, ps_gl_ar, ps_gl_al, ps_gr_nx, ps_gr_sz, ps_gr_sh, ps_gr_gi, ps_gr_gl, ps_gr_gr, ps_gr_zi, ps_gr_zl, ps_gr_zr, ps_gr_ar, ps_gr_al, ps_zi_nx, ps_zi_sz, ps_zi_sh, ps_zi_gi, ps_zi_gl, ps_zi_gr, ps_zi_zi, ps_zi_zl, ps_zi_zr, ps_zi_ar, ps_zi_al, ps_zl_nx, ps_zl_sz, ps_zl_sh, ps_zl_gi, ps_zl_gl, ps_zl_gr, ps_zl_zi, ps_zl_zl, ps_zl_zr, ps_zl_ar, ps_zl_al, ps_zr_nx, ps_zr_sz, ps_zr_sh, ps_zr_gi, ps_zr_gl, ps_zr_gr, ps_zr_zi, ps_zr_zl, ps_zr_zr, ps_zr_ar, ps_zr_al, pm_rf_some, pm_rf_none, pm_tl_some, pm_tl_none]
        · rw [if_neg e]
          have := h4.1 i (by omega)
          simpa [ps_gi_nx, ps_gi_sz, ps_gi_sh, ps_gi_gi, ps_gi_gl, ps_gi_gr, ps_gi_zi, ps_gi_zl, ps_gi_zr, ps_gi_ar, ps_gi_al, ps_gl_nx, ps_gl_sz, ps_gl_sh, ps_gl_gi, ps_gl_gl, ps_gl_gr, ps_gl_zi, ps_gl_zl, ps_gl_zr, ps_gl_ar, ps_gl_al, ps_gr_nx, ps_gr_sz, ps_gr_sh, ps_gr_gi, ps_gr_gl, ps_gr_gr, ps_gr_zi, ps_gr_zl, ps_gr_zr, ps_gr_ar, ps_gr_al, ps_zi_nx, ps_zi_sz, ps_zi_sh, ps_zi_gi, ps_zi_gl, ps_zi_gr, ps_zi_zi, ps_zi_zl, ps_zi_zr, ps_zi_ar, ps_zi_al, ps_zl_nx, ps_zl_sz, ps_zl_sh, ps_zl_gi, ps_zl_gl, ps_zl_gr, ps_zl_zi, ps_zl_zl, ps_zl_zr, ps_zl_ar, ps_zl_al, ps_zr_nx, ps_zr_sz, ps_zr_sh, ps_zr_gi, ps_zr_gl, ps_zr_gr, ps_zr_zi, ps_zr_zl, ps_zr_zr, ps_zr_ar, ps_zr_al, pm_rf_some, pm_rf_none, pm_tl_some, pm_tl_none, e] using this
      · have := h4.2 i hi
        simpa [ps_gi_nx, ps_gi_sz, ps_gi_sh, ps_gi_gi, ps_gi_gl, ps_gi_gr, ps_gi_zi, ps_gi_zl, ps_gi_zr, ps_gi_ar, ps_gi_al, ps_gl_nx, ps_gl_sz, ps_gl_sh, ps_gl_gi, ps_gl_gl, ps_gl_gr, ps_gl_zi, ps_gl_zl, ps_gl_zr, ps_gl_ar, ps_gl_al, ps_gr_nx, ps_gr_sz, ps_gr_sh, ps_gr_gi, ps_gr_gl, ps_gr_gr, ps_gr_zi, ps_gr_zl, ps_gr_zr, ps_gr_ar, ps_gr_al, ps_zi_nx, ps_zi_sz, ps_zi_sh, ps_zi_gi, ps_zi_gl, ps_zi_gr, ps_zi_zi, ps_zi_zl, ps_zi_zr, ps_zi_ar, ps_zi_al, ps_zl_nx, ps_zl_sz, ps_zl_sh, ps_zl_gi, ps_zl_gl, ps_zl_gr, ps_zl_zi, ps_zl_zl, ps_zl_zr, ps_zl_ar, ps_zl_al, ps_zr_nx, ps_zr_sz, ps_zr_sh, ps_zr_gi, ps_zr_gl, ps_zr_gr, ps_zr_zi, ps_zr_zl, ps_zr_zr, ps_zr_ar, ps_zr_al, pm_rf_some, pm_rf_none, pm_tl_some, pm_tl_none, sp_ar_n] using this
      · unfold mH at h5 ⊢
        simpa [ps_gi_nx, ps_gi_sz, ps_gi_sh, ps_gi_gi, ps_gi_gl, ps_gi_gr, ps_gi_zi, ps_gi_zl, ps_gi_zr, ps_gi_ar, ps_gi_al, ps_gl_nx, ps_gl_sz, ps_gl_sh, ps_gl_gi, ps_gl_gl, ps_gl_gr, ps_gl_zi, ps_gl_zl, ps_gl_zr, ps_gl_ar, ps_gl_al, ps_gr_nx, ps_gr_sz, ps_gr_sh, ps_gr_gi, ps_gr_gl, ps_gr_gr, ps_gr_zi, ps_gr_zl, ps_gr_zr, ps_gr_ar, ps_gr_al, ps_zi_nx, ps_zi_sz, ps_zi_sh, ps_zi_gi, ps_zi_gl, ps_zi_gr, ps_zi_zi, ps_zi_zl, ps_zi_zr, ps_zi_ar, ps_zi_al, ps_zl_nx, ps_zl_sz, ps_zl_sh, ps_zl_gi, ps_zl_gl, ps_zl_gr, ps_zl_zi, ps_zl_zl, ps_zl_zr, ps_zl_ar, ps_zl_al, ps_zr_nx, ps_zr_sz, ps_zr_sh, ps_zr_gi, ps_zr_gl, ps_zr_gr, ps_zr_zi, ps_zr_zl, ps_zr_zr, ps_zr_ar, ps_zr_al, pm_rf_some, pm_rf_none, pm_tl_some, pm_tl_none, sp_hd_n, sp_hd_a] using h5
      · exact (frI.zl (by unfold mB; omega)).tr ((frI.zi (by unfold mB; omega)).tr ((frI.zi (by unfold mB; omega)).tr (frI.zi (by unfold mB; omega))))
    · rw [if_neg c2, if_neg c2]
      exact ⟨h, frI.rf⟩
theorem mQ_arc {t u : Nat} {v : Int64} {x y : Option Nat} (h : mQ S m g C) : mQ (fM_arc S m g C.2.2.1.length (nI t) (nI u) v (sp_eM x) (sp_eM y)) m g (sp_addA C (t, u, v, x, y)) ∧ frI (mB m g) S (fM_arc S m g C.2.2.1.length (nI t) (nI u) v (sp_eM x) (sp_eM y)) := by
  obtain ⟨h1, h2, h3, h4, h5⟩ := id h
  have e0 : (nI C.1 = 0) = (C.1 = 0) := nI_e' (b := 0) (by omega) (by decide)
  unfold fM_arc sp_addA
  by_cases c1 : C.2.2.1.length = 120
  · rw [if_pos c1, if_pos c1]
    exact mQ_brk (f := 4) h (by decide)
  · rw [if_neg c1, if_neg c1]
    simp only [h1, e0]
    by_cases c2 : C.1 = 0
    · rw [if_pos c2, if_pos c2]
      obtain ⟨p1, p2, p3, p4, p5, p6⟩ := h3
      refine ⟨⟨by simpa [ps_gi_nx, ps_gi_sz, ps_gi_sh, ps_gi_gi, ps_gi_gl, ps_gi_gr, ps_gi_zi, ps_gi_zl, ps_gi_zr, ps_gi_ar, ps_gi_al, ps_gl_nx, ps_gl_sz, ps_gl_sh, ps_gl_gi, ps_gl_gl, ps_gl_gr, ps_gl_zi, ps_gl_zl, ps_gl_zr, ps_gl_ar, ps_gl_al, ps_gr_nx, ps_gr_sz, ps_gr_sh, ps_gr_gi, ps_gr_gl, ps_gr_gr, ps_gr_zi, ps_gr_zl, ps_gr_zr, ps_gr_ar, ps_gr_al, ps_zi_nx, ps_zi_sz, ps_zi_sh, ps_zi_gi, ps_zi_gl, ps_zi_gr, ps_zi_zi, ps_zi_zl, ps_zi_zr, ps_zi_ar, ps_zi_al, ps_zl_nx, ps_zl_sz, ps_zl_sh, ps_zl_gi, ps_zl_gl, ps_zl_gr, ps_zl_zi, ps_zl_zl, ps_zl_zr, ps_zl_ar, ps_zl_al, ps_zr_nx, ps_zr_sz, ps_zr_sh, ps_zr_gi, ps_zr_gl, ps_zr_gr, ps_zr_zi, ps_zr_zl, ps_zr_zr, ps_zr_ar, ps_zr_al, pm_rf_some, pm_rf_none, pm_tl_some, pm_tl_none] using h1, h2, ⟨by simpa [ps_gi_nx, ps_gi_sz, ps_gi_sh, ps_gi_gi, ps_gi_gl, ps_gi_gr, ps_gi_zi, ps_gi_zl, ps_gi_zr, ps_gi_ar, ps_gi_al, ps_gl_nx, ps_gl_sz, ps_gl_sh, ps_gl_gi, ps_gl_gl, ps_gl_gr, ps_gl_zi, ps_gl_zl, ps_gl_zr, ps_gl_ar, ps_gl_al, ps_gr_nx, ps_gr_sz, ps_gr_sh, ps_gr_gi, ps_gr_gl, ps_gr_gr, ps_gr_zi, ps_gr_zl, ps_gr_zr, ps_gr_ar, ps_gr_al, ps_zi_nx, ps_zi_sz, ps_zi_sh, ps_zi_gi, ps_zi_gl, ps_zi_gr, ps_zi_zi, ps_zi_zl, ps_zi_zr, ps_zi_ar, ps_zi_al, ps_zl_nx, ps_zl_sz, ps_zl_sh, ps_zl_gi, ps_zl_gl, ps_zl_gr, ps_zl_zi, ps_zl_zl, ps_zl_zr, ps_zl_ar, ps_zl_al, ps_zr_nx, ps_zr_sz, ps_zr_sh, ps_zr_gi, ps_zr_gl, ps_zr_gr, ps_zr_zi, ps_zr_zl, ps_zr_zr, ps_zr_ar, ps_zr_al, pm_rf_some, pm_rf_none, pm_tl_some, pm_tl_none] using p1, p2, ?_, ?_, fun i hi => ?_, fun i hi => ?_⟩, ⟨fun i hi => ?_, fun i hi => ?_⟩, ?_⟩, ?_⟩
      · simp [ps_gi_nx, ps_gi_sz, ps_gi_sh, ps_gi_gi, ps_gi_gl, ps_gi_gr, ps_gi_zi, ps_gi_zl, ps_gi_zr, ps_gi_ar, ps_gi_al, ps_gl_nx, ps_gl_sz, ps_gl_sh, ps_gl_gi, ps_gl_gl, ps_gl_gr, ps_gl_zi, ps_gl_zl, ps_gl_zr, ps_gl_ar, ps_gl_al, ps_gr_nx, ps_gr_sz, ps_gr_sh, ps_gr_gi, ps_gr_gl, ps_gr_gr, ps_gr_zi, ps_gr_zl, ps_gr_zr, ps_gr_ar, ps_gr_al, ps_zi_nx, ps_zi_sz, ps_zi_sh, ps_zi_gi, ps_zi_gl, ps_zi_gr, ps_zi_zi, ps_zi_zl, ps_zi_zr, ps_zi_ar, ps_zi_al, ps_zl_nx, ps_zl_sz, ps_zl_sh, ps_zl_gi, ps_zl_gl, ps_zl_gr, ps_zl_zi, ps_zl_zl, ps_zl_zr, ps_zl_ar, ps_zl_al, ps_zr_nx, ps_zr_sz, ps_zr_sh, ps_zr_gi, ps_zr_gl, ps_zr_gr, ps_zr_zi, ps_zr_zl, ps_zr_zr, ps_zr_ar, ps_zr_al, pm_rf_some, pm_rf_none, pm_tl_some, pm_tl_none]
      · simp; omega
      · simpa [ps_gi_nx, ps_gi_sz, ps_gi_sh, ps_gi_gi, ps_gi_gl, ps_gi_gr, ps_gi_zi, ps_gi_zl, ps_gi_zr, ps_gi_ar, ps_gi_al, ps_gl_nx, ps_gl_sz, ps_gl_sh, ps_gl_gi, ps_gl_gl, ps_gl_gr, ps_gl_zi, ps_gl_zl, ps_gl_zr, ps_gl_ar, ps_gl_al, ps_gr_nx, ps_gr_sz, ps_gr_sh, ps_gr_gi, ps_gr_gl, ps_gr_gr, ps_gr_zi, ps_gr_zl, ps_gr_zr, ps_gr_ar, ps_gr_al, ps_zi_nx, ps_zi_sz, ps_zi_sh, ps_zi_gi, ps_zi_gl, ps_zi_gr, ps_zi_zi, ps_zi_zl, ps_zi_zr, ps_zi_ar, ps_zi_al, ps_zl_nx, ps_zl_sz, ps_zl_sh, ps_zl_gi, ps_zl_gl, ps_zl_gr, ps_zl_zi, ps_zl_zl, ps_zl_zr, ps_zl_ar, ps_zl_al, ps_zr_nx, ps_zr_sz, ps_zr_sh, ps_zr_gi, ps_zr_gl, ps_zr_gr, ps_zr_zi, ps_zr_zl, ps_zr_zr, ps_zr_ar, ps_zr_al, pm_rf_some, pm_rf_none, pm_tl_some, pm_tl_none, sp_nd_a] using p5 i hi
      · have hi' : i < C.2.2.1.length + 1 := by simpa using hi
        rw [sp_ar_app]
        by_cases e : i = C.2.2.1.length
        · subst e; rw [if_pos rfl]; simp [ps_gi_nx, ps_gi_sz, ps_gi_sh, ps_gi_gi, ps_gi_gl, ps_gi_gr, ps_gi_zi, ps_gi_zl, ps_gi_zr, ps_gi_ar, ps_gi_al, ps_gl_nx, ps_gl_sz, ps_gl_sh, ps_gl_gi, ps_gl_gl, ps_gl_gr, ps_gl_zi, ps_gl_zl, ps_gl_zr, ps_gl_ar, ps_gl_al, ps_gr_nx, ps_gr_sz, ps_gr_sh, ps_gr_gi, ps_gr_gl, ps_gr_gr, ps_gr_zi, ps_gr_zl, ps_gr_zr, ps_gr_ar, ps_gr_al, ps_zi_nx, ps_zi_sz, ps_zi_sh, ps_zi_gi, ps_zi_gl, ps_zi_gr, ps_zi_zi, ps_zi_zl, ps_zi_zr, ps_zi_ar, ps_zi_al, ps_zl_nx, ps_zl_sz, ps_zl_sh, ps_zl_gi, ps_zl_gl, ps_zl_gr, ps_zl_zi, ps_zl_zl, ps_zl_zr, ps_zl_ar, ps_zl_al, ps_zr_nx, ps_zr_sz, ps_zr_sh, ps_zr_gi, ps_zr_gl, ps_zr_gr, ps_zr_zi, ps_zr_zl, ps_zr_zr, ps_zr_ar, ps_zr_al, pm_rf_some, pm_rf_none, pm_tl_some, pm_tl_none]
        · rw [if_neg e]
          have := p6 i (by omega)
          simpa [ps_gi_nx, ps_gi_sz, ps_gi_sh, ps_gi_gi, ps_gi_gl, ps_gi_gr, ps_gi_zi, ps_gi_zl, ps_gi_zr, ps_gi_ar, ps_gi_al, ps_gl_nx, ps_gl_sz, ps_gl_sh, ps_gl_gi, ps_gl_gl, ps_gl_gr, ps_gl_zi, ps_gl_zl, ps_gl_zr, ps_gl_ar, ps_gl_al, ps_gr_nx, ps_gr_sz, ps_gr_sh, ps_gr_gi, ps_gr_gl, ps_gr_gr, ps_gr_zi, ps_gr_zl, ps_gr_zr, ps_gr_ar, ps_gr_al, ps_zi_nx, ps_zi_sz, ps_zi_sh, ps_zi_gi, ps_zi_gl, ps_zi_gr, ps_zi_zi, ps_zi_zl, ps_zi_zr, ps_zi_ar, ps_zi_al, ps_zl_nx, ps_zl_sz, ps_zl_sh, ps_zl_gi, ps_zl_gl, ps_zl_gr, ps_zl_zi, ps_zl_zl, ps_zl_zr, ps_zl_ar, ps_zl_al, ps_zr_nx, ps_zr_sz, ps_zr_sh, ps_zr_gi, ps_zr_gl, ps_zr_gr, ps_zr_zi, ps_zr_zl, ps_zr_zr, ps_zr_ar, ps_zr_al, pm_rf_some, pm_rf_none, pm_tl_some, pm_tl_none, e] using this
      · have := h4.1 i hi
        simpa [ps_gi_nx, ps_gi_sz, ps_gi_sh, ps_gi_gi, ps_gi_gl, ps_gi_gr, ps_gi_zi, ps_gi_zl, ps_gi_zr, ps_gi_ar, ps_gi_al, ps_gl_nx, ps_gl_sz, ps_gl_sh, ps_gl_gi, ps_gl_gl, ps_gl_gr, ps_gl_zi, ps_gl_zl, ps_gl_zr, ps_gl_ar, ps_gl_al, ps_gr_nx, ps_gr_sz, ps_gr_sh, ps_gr_gi, ps_gr_gl, ps_gr_gr, ps_gr_zi, ps_gr_zl, ps_gr_zr, ps_gr_ar, ps_gr_al, ps_zi_nx, ps_zi_sz, ps_zi_sh, ps_zi_gi, ps_zi_gl, ps_zi_gr, ps_zi_zi, ps_zi_zl, ps_zi_zr, ps_zi_ar, ps_zi_al, ps_zl_nx, ps_zl_sz, ps_zl_sh, ps_zl_gi, ps_zl_gl, ps_zl_gr, ps_zl_zi, ps_zl_zl, ps_zl_zr, ps_zl_ar, ps_zl_al, ps_zr_nx, ps_zr_sz, ps_zr_sh, ps_zr_gi, ps_zr_gl, ps_zr_gr, ps_zr_zi, ps_zr_zl, ps_zr_zr, ps_zr_ar, ps_zr_al, pm_rf_some, pm_rf_none, pm_tl_some, pm_tl_none, sp_nd_a] using this
      · have hi' : i < C.2.2.1.length + 1 := by simpa using hi
        rw [sp_ar_app]
        by_cases e : i = C.2.2.1.length
        · subst e; rw [if_pos rfl]; simp [ps_gi_nx, ps_gi_sz, ps_gi_sh, ps_gi_gi, ps_gi_gl, ps_gi_gr, ps_gi_zi, ps_gi_zl, ps_gi_zr, ps_gi_ar, ps_gi_al, ps_gl_nx, ps_gl_sz, ps_gl_sh, ps_gl_gi, ps_gl_gl, ps_gl_gr, ps_gl_zi, ps_gl_zl, ps_gl_zr, ps_gl_ar, ps_gl_al, ps_gr_nx, ps_gr_sz, ps_gr_sh, ps_gr_gi, ps_gr_gl, ps_gr_gr, ps_gr_zi, ps_gr_zl, ps_gr_zr, ps_gr_ar, ps_gr_al, ps_zi_nx, ps_zi_sz, ps_zi_sh, ps_zi_gi, ps_zi_gl, ps_zi_gr, ps_zi_zi, ps_zi_zl, ps_zi_zr, ps_zi_ar, ps_zi_al, ps_zl_nx, ps_zl_sz, ps_zl_sh, ps_zl_gi, ps_zl_gl, ps_zl_gr, ps_zl_zi, ps_zl_zl, ps_zl_zr, ps_zl_ar, ps_zl_al, ps_zr_nx, ps_zr_sz, ps_zr_sh, ps_zr_gi, ps_zr_gl, ps_zr_gr, ps_zr_zi, ps_zr_zl, ps_zr_zr, ps_zr_ar, ps_zr_al, pm_rf_some, pm_rf_none, pm_tl_some, pm_tl_none]
        · rw [if_neg e]
          have := h4.2 i (by omega)
          simpa [ps_gi_nx, ps_gi_sz, ps_gi_sh, ps_gi_gi, ps_gi_gl, ps_gi_gr, ps_gi_zi, ps_gi_zl, ps_gi_zr, ps_gi_ar, ps_gi_al, ps_gl_nx, ps_gl_sz, ps_gl_sh, ps_gl_gi, ps_gl_gl, ps_gl_gr, ps_gl_zi, ps_gl_zl, ps_gl_zr, ps_gl_ar, ps_gl_al, ps_gr_nx, ps_gr_sz, ps_gr_sh, ps_gr_gi, ps_gr_gl, ps_gr_gr, ps_gr_zi, ps_gr_zl, ps_gr_zr, ps_gr_ar, ps_gr_al, ps_zi_nx, ps_zi_sz, ps_zi_sh, ps_zi_gi, ps_zi_gl, ps_zi_gr, ps_zi_zi, ps_zi_zl, ps_zi_zr, ps_zi_ar, ps_zi_al, ps_zl_nx, ps_zl_sz, ps_zl_sh, ps_zl_gi, ps_zl_gl, ps_zl_gr, ps_zl_zi, ps_zl_zl, ps_zl_zr, ps_zl_ar, ps_zl_al, ps_zr_nx, ps_zr_sz, ps_zr_sh, ps_zr_gi, ps_zr_gl, ps_zr_gr, ps_zr_zi, ps_zr_zl, ps_zr_zr, ps_zr_ar, ps_zr_al, pm_rf_some, pm_rf_none, pm_tl_some, pm_tl_none, e] using this
      · unfold mH at h5 ⊢
        simpa [ps_gi_nx, ps_gi_sz, ps_gi_sh, ps_gi_gi, ps_gi_gl, ps_gi_gr, ps_gi_zi, ps_gi_zl, ps_gi_zr, ps_gi_ar, ps_gi_al, ps_gl_nx, ps_gl_sz, ps_gl_sh, ps_gl_gi, ps_gl_gl, ps_gl_gr, ps_gl_zi, ps_gl_zl, ps_gl_zr, ps_gl_ar, ps_gl_al, ps_gr_nx, ps_gr_sz, ps_gr_sh, ps_gr_gi, ps_gr_gl, ps_gr_gr, ps_gr_zi, ps_gr_zl, ps_gr_zr, ps_gr_ar, ps_gr_al, ps_zi_nx, ps_zi_sz, ps_zi_sh, ps_zi_gi, ps_zi_gl, ps_zi_gr, ps_zi_zi, ps_zi_zl, ps_zi_zr, ps_zi_ar, ps_zi_al, ps_zl_nx, ps_zl_sz, ps_zl_sh, ps_zl_gi, ps_zl_gl, ps_zl_gr, ps_zl_zi, ps_zl_zl, ps_zl_zr, ps_zl_ar, ps_zl_al, ps_zr_nx, ps_zr_sz, ps_zr_sh, ps_zr_gi, ps_zr_gl, ps_zr_gr, ps_zr_zi, ps_zr_zl, ps_zr_zr, ps_zr_ar, ps_zr_al, pm_rf_some, pm_rf_none, pm_tl_some, pm_tl_none, sp_hd_n, sp_hd_a] using h5
      · exact (frI.zi (by unfold mB; omega)).tr ((frI.zi (by unfold mB; omega)).tr ((frI.zl (by unfold mB; omega)).tr ((frI.zi (by unfold mB; omega)).tr ((frI.zi (by unfold mB; omega)).tr (frI.zi (by unfold mB; omega))))))
    · rw [if_neg c2, if_neg c2]
      exact ⟨h, frI.rf⟩
end
