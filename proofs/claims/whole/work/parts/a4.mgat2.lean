/-! ===== THE REFERENCE: gathered, its loops ===== -/
def gJ (S0 S : pm_T) (m g : Nat) (fl : Bool) (B : sp_C) : Prop := ∃ C, mW S0 S m g C ∧ (fl = false → C = B) ∧ (fl = true → C.1 = 3)
def mN (LB : Nat → Nat → Option Nat) (t c : Nat) (Ca : sp_C) (S : pm_T) (m L : Nat) (fl : Bool) : Prop := fl = false → ∀ l, l < L → pm_zi S (m + 27) l = if (ga_hN LB t c Ca l).isSome = true then nI (ga_N LB t c Ca l).length else -1
/-- what gathering reads -/
def gX (LB : Nat → Nat → Option Nat) (t c : Nat) (S0 : pm_T) (m g : Nat) : Prop := t < 4 ∧ c < 3 ∧ pm_zi S0 (m + 4) g = nI c ∧ pm_zi S0 (m + 3) g = nI t ∧ ∀ i, i < 40 → pm_zi S0 (m + 21) (40 * t + i) = sp_eC (LB t i)
section
variable {LB : Nat → Nat → Option Nat} {S0 S S' : pm_T} {m a b g n k d j e t u c i cnt l : Nat} {C Ca Cb B : sp_C} {Q : Option Value → pm_T → Prop} {v : Int64} {h : hp_T} {fl : Bool}
theorem mW_s (hW : mW S0 S m g C) (hf : frI (mS m) S S') : mW S0 S' m g C := ⟨sM_frI hW.1 hf, mQ_fr hW.2.1 hf mB_s, hW.2.2.tr (hf.mono (fun b k h => Or.inr h))⟩
theorem gJ_s (hW : gJ S0 S m g fl B) (hf : frI (mS m) S S') : gJ S0 S' m g fl B := by
  obtain ⟨C, h1, h2⟩ := hW
  exact ⟨C, mW_s h1 hf, h2⟩
theorem sp_brk_ne {f : Nat} (h : C.1 ≠ 0) : sp_brk C f = C := by unfold sp_brk; rw [if_neg h]
theorem m_labelOf (hX : gX LB t c S0 m g) (hg : g < 24) (hi : i < 40) (hW : mW S0 S m g C) : pm_N d 118 [.ref m, .int (nI g), .int (nI i)] S Q = Q (some (.int (sp_eC (LB t i)))) S := by
  obtain ⟨x1, x2, x3, x4, x5⟩ := hX
  have hM := hW.1
  have b3 := mW_by (i := 3) (by decide) hW x4
  have r1 := pm_ar_nI (sM_s3 hM) hg (by decide)
  have r2 := pm_ar_nI (sM_s21 hM) (show 40 * t + i < 160 by omega) (by decide)
  have e6 : (40 : Int32) * nI t + nI i = nI (40 * t + i) := sp_at 40 t i
  have l1 : pm_zi S (m + 21) (40 * t + i) = sp_eC (LB t i) := by rw [(hW.2.2.2.2.2.2.2 (m + 21) _ (by unfold mP mB mS; omega)).2.2.1]; exact x5 i hi
  simp only [q118_0, q118_1, q118_4, q118_6, q118_7, q118_10, q118_11, q118_12, q118_13, q118_14, q118_15, q118_16, q118_e, sM_0 hM, sM_r22 hM, sM_r3 hM, pm_rf_some, r1, nc24 hg, b3, e6, r2, nI_clamp (show 40 * t + i < 2 ^ 31 by omega), l1]
theorem eC_nI {r : Option Nat} (h : ∀ x, r = some x → x < 10) (hl : l < 2 ^ 31) : (sp_eC r = nI l) = (r = some l) := by
  cases r with
  | none => refine propext ⟨fun q => ?_, fun q => by cases q⟩
            have := nI_pos' hl
            rw [← q] at this
            exact absurd this (by decide)
  | some x =>
    have := h x rfl
    show (nI x = nI l) = _
    rw [nI_e' (by omega) hl]
    exact propext ⟨fun q => by rw [q], fun q => Option.some.inj q⟩
theorem nI_le0 {k : Nat} (h : k < 2 ^ 31) : (nI k ≤ 0) = (k = 0) := by
  refine propext ⟨fun q => ?_, fun q => by subst q; decide⟩
  rw [Int32.le_iff_toInt_le, nI_toInt h] at q
  have : (0 : Int32).toInt = 0 := rfl
  omega
theorem gJ_comes (hW : gJ S0 S m g fl B) (hB : B.1 = 0) (hX : gX LB t c S0 m g) (hg : g < 24) (hh : mh S m c h cnt) (hcnt : cnt < 500) (hQ : ∀ S', gJ S0 S' m g (fl || hp_ov c h v) B → mh S' m c (hp_in c h i v) (cnt + 1) → frI (mc m g) S S' → Q none S') : pm_N (d + 1) 119 [.ref m, .int (nI g), .int (nI i), .long v] S Q := by
  obtain ⟨C, h1, h2, h3⟩ := hW
  refine m_comes hX.2.1 hX.2.2.1 hg h1 hh hcnt fun S' w1 w2 w3 => hQ S' ⟨_, w1, ?_, ?_⟩ w2 w3
  · intro q
    rw [Bool.or_eq_false_iff] at q
    rw [q.2, if_neg (by decide)]
    exact h2 q.1
  · intro q
    cases hf : fl with
    | true =>
      have := h3 hf
      split
      · rw [sp_brk_ne (by omega)]; exact this
      · exact this
    | false =>
      rw [hf, Bool.false_or] at q
      rw [if_pos q, h2 hf]
      unfold sp_brk
      rw [if_pos hB]
theorem gJ_M (hW : gJ S0 S m g fl B) : sM S m := by obtain ⟨C, h1, -⟩ := hW; exact h1.1
theorem gJ_R (hW : gJ S0 S m g fl B) (hR : mR S0 m a Ca) (hne : a ≠ g) : mR S m a Ca := by obtain ⟨C, h1, -⟩ := hW; exact mW_R h1 hR hne
theorem gJ_lab (hW : gJ S0 S m g fl B) (hX : gX LB t c S0 m g) (hg : g < 24) (hi : i < 40) : pm_N d 118 [.ref m, .int (nI g), .int (nI i)] S Q = Q (some (.int (sp_eC (LB t i)))) S := by obtain ⟨C, h1, -⟩ := hW; exact m_labelOf hX hg hi h1
theorem mN_fr {P : Nat → Nat → Prop} {L : Nat} {fl' : Bool} (hN : mN LB t c Ca S m L fl) (hfl : fl' = false → fl = false) (hf : frI P S S') (hP : ∀ l, l < L → ¬ P (m + 27) l) : mN LB t c Ca S' m L fl' := fun q l hl => by rw [(hf.2.2.2.2.2 (m + 27) l (hP l hl)).2.2.1]; exact hN (hfl q) l hl
theorem ar27 (hM : sM S m) (hl : l < 10) : pm_ar S (m + 27) 0 (nI l) = true := pm_ar_nI (sM_s27 hM) hl (by decide)
theorem hp_cnt0 (hf : frI (mS m) S S') (h31 : pm_gi S' m 31 = 0) (h33 : pm_gl S' m 33 = 0) : mh S' m c none 0 := ⟨h31, rfl, h33⟩
set_option maxHeartbeats 4000000 in
/-- one label: its nodes -/
theorem m_gat_n (hX : gX LB t c S0 m g) (hlb : sp_lb LB) (hg : g < 24) (ha : a < 24) (hne : a ≠ g) (hR0 : mR S0 m a Ca) (hl : l < 10) {l5 : Value} (hJ : gJ S0 S m g (hp_g c (ga_kn LB t) (ga_vn Ca) Ca.2.1.length l) (0, ga_N LB t c Ca l, [], [])) (hN : mN LB t c Ca S m l (hp_g c (ga_kn LB t) (ga_vn Ca) Ca.2.1.length l)) (hh : mh S m c none 0)
    (hQ : ∀ S' cnt, cnt ≤ 40 → gJ S0 S' m g (hp_g c (ga_kn LB t) (ga_vn Ca) Ca.2.1.length (l + 1)) (0, ga_N LB t c Ca l, [], []) → mN LB t c Ca S' m l (hp_g c (ga_kn LB t) (ga_vn Ca) Ca.2.1.length (l + 1)) → mh S' m c (ga_hN LB t c Ca l) cnt → pm_V (d + 2) 120 63 [.ref m, .int (nI g), .int (nI a), .int (nI l), .int (nI Ca.2.1.length), l5] [] S' Q) :
    pm_V (d + 2) 120 21 [.ref m, .int (nI g), .int (nI a), .int (nI l), .int (nI 0), l5] [] S Q := by
  have r2 := hR0.2.1
  refine lp (n := Ca.2.1.length) (Inv := fun k S => ∃ cnt, cnt ≤ k ∧ gJ S0 S m g (hp_g c (ga_kn LB t) (ga_vn Ca) Ca.2.1.length l || hp_o c (ga_kn LB t) (ga_vn Ca) l k) (0, ga_N LB t c Ca l, [], []) ∧ mN LB t c Ca S m l (hp_g c (ga_kn LB t) (ga_vn Ca) Ca.2.1.length l || hp_o c (ga_kn LB t) (ga_vn Ca) l k) ∧ mh S m c (hp_h c (ga_kn LB t) (ga_vn Ca) l k) cnt) (head := fun k S => pm_V (d + 2) 120 21 [.ref m, .int (nI g), .int (nI a), .int (nI l), .int (nI k), l5] [] S Q) ?_ ?_ S ⟨0, Nat.le_refl _, by rw [show hp_o c (ga_kn LB t) (ga_vn Ca) l 0 = false from rfl, Bool.or_false]; exact hJ, by rw [show hp_o c (ga_kn LB t) (ga_vn Ca) l 0 = false from rfl, Bool.or_false]; exact hN, hh⟩
  · rintro k S hk ⟨cnt, c1, c2, c3, c4⟩ hNx
    have hM := gJ_M c2
    have hR := gJ_R c2 hR0 hne
    have e1 : nI k < nI Ca.2.1.length := nI_lt hk (by omega)
    have z := eC_nI (r := LB t k) (l := l) (fun x hx => hlb t k x hx) (by omega)
    rw [q120_21]
    simp only [q120_0, q120_1, q120_3, q120_5, q120_8, q120_9, q120_10, q120_13, q120_14, q120_15, q120_18, q120_19, q120_23, q120_24, q120_27, q120_28, q120_29, q120_32, q120_33, q120_34, q120_36, q120_39, q120_40, q120_43, q120_44, q120_45, q120_47, q120_48, q120_49, q120_51, q120_54, q120_57, q120_60, q120_64, q120_67, q120_68, q120_69, q120_72, q120_75, q120_76, q120_79, q120_80, q120_81, q120_84, q120_85, q120_86, q120_87, q120_90, q120_93, q120_94, q120_95, q120_96, q120_99, q120_100, q120_103, q120_105, q120_108, q120_111, q120_114, q120_115, q120_116, q120_117, q120_119, q120_122, q120_123, q120_125, q120_127, q120_129, q120_132, q120_133, q120_134, q120_137, q120_138, q120_139, q120_142, q120_143, q120_145, q120_147, q120_148, q120_151, q120_152, q120_153, q120_156, q120_157, q120_158, q120_159, q120_160, q120_162, q120_165, q120_168, q120_169, q120_172, q120_173, q120_174, q120_175, q120_176, q120_178, q120_181, q120_184, q120_186, q120_189, q120_190, q120_191, q120_193, q120_194, q120_195, q120_197, q120_200, q120_203, q120_206, q120_209, q120_210, q120_213, q120_216, q120_217, q120_218, q120_219, q120_222, q120_223, q120_224, q120_225, q120_228, q120_230, q120_231, q120_232, q120_235, q120_236, q120_239, q120_241, q120_244, q120_247, q120_250, q120_253, q120_256, q120_e, sM_0 hM, sM_r8 hM, pm_rf_some, ar8 hM ha, nc24 ha, hR.1, e1, if_true, gJ_lab c2 hX hg (show k < 40 by omega), pm_tl_some, z, mr_node hM hR ha hk, nI_1]
    by_cases hc : LB t k = some l
    · rw [if_pos hc]
      refine gJ_comes c2 rfl hX hg c4 (by omega) fun S' w1 w2 w3 => ?_
      simp only [pm_tl_none, q120_0, q120_1, q120_3, q120_5, q120_8, q120_9, q120_10, q120_13, q120_14, q120_15, q120_18, q120_19, q120_23, q120_24, q120_27, q120_28, q120_29, q120_32, q120_33, q120_34, q120_36, q120_39, q120_40, q120_43, q120_44, q120_45, q120_47, q120_48, q120_49, q120_51, q120_54, q120_57, q120_60, q120_64, q120_67, q120_68, q120_69, q120_72, q120_75, q120_76, q120_79, q120_80, q120_81, q120_84, q120_85, q120_86, q120_87, q120_90, q120_93, q120_94, q120_95, q120_96, q120_99, q120_100, q120_103, q120_105, q120_108, q120_111, q120_114, q120_115, q120_116, q120_117, q120_119, q120_122, q120_123, q120_125, q120_127, q120_129, q120_132, q120_133, q120_134, q120_137, q120_138, q120_139, q120_142, q120_143, q120_145, q120_147, q120_148, q120_151, q120_152, q120_153, q120_156, q120_157, q120_158, q120_159, q120_160, q120_162, q120_165, q120_168, q120_169, q120_172, q120_173, q120_174, q120_175, q120_176, q120_178, q120_181, q120_184, q120_186, q120_189, q120_190, q120_191, q120_193, q120_194, q120_195, q120_197, q120_200, q120_203, q120_206, q120_209, q120_210, q120_213, q120_216, q120_217, q120_218, q120_219, q120_222, q120_223, q120_224, q120_225, q120_228, q120_230, q120_231, q120_232, q120_235, q120_236, q120_239, q120_241, q120_244, q120_247, q120_250, q120_253, q120_256, q120_e, nI_1]
      have eo : (hp_g c (ga_kn LB t) (ga_vn Ca) Ca.2.1.length l || hp_o c (ga_kn LB t) (ga_vn Ca) l k || hp_ov c (hp_h c (ga_kn LB t) (ga_vn Ca) l k) (sp_nd Ca k).1) = (hp_g c (ga_kn LB t) (ga_vn Ca) Ca.2.1.length l || hp_o c (ga_kn LB t) (ga_vn Ca) l (k + 1)) := by
        rw [hp_o_s, show decide (ga_kn LB t k = some l) = true from decide_eq_true hc, Bool.true_and, Bool.or_assoc]
        rfl
      rw [eo] at w1
      refine hNx S' ⟨cnt + 1, by omega, w1, mN_fr c3 (fun q => ?_) w3 (fun l hl => by unfold mc; omega), ?_⟩
      · rw [hp_o_s, ← Bool.or_assoc, Bool.or_eq_false_iff] at q
        exact q.1
      · show mh S' m c (if ga_kn LB t k = some l then _ else _) _
        rw [if_pos (show ga_kn LB t k = some l from hc)]
        exact w2
    · rw [if_neg hc]
      have eo : hp_o c (ga_kn LB t) (ga_vn Ca) l (k + 1) = hp_o c (ga_kn LB t) (ga_vn Ca) l k := by
        rw [hp_o_s, show decide (ga_kn LB t k = some l) = false from decide_eq_false hc, Bool.false_and, Bool.or_false]
      refine hNx S ⟨cnt, by omega, by rw [eo]; exact c2, by rw [eo]; exact c3, ?_⟩
      show mh S m c (if ga_kn LB t k = some l then _ else _) _
      rw [if_neg (show ¬ ga_kn LB t k = some l from hc)]
      exact c4
  · rintro S ⟨cnt, c1, c2, c3, c4⟩
    have hM := gJ_M c2
    have hR := gJ_R c2 hR0 hne
    have e1 : ¬ nI Ca.2.1.length < nI Ca.2.1.length := nI_nlt (Nat.le_refl _) (by omega)
    rw [q120_21]
    simp only [q120_0, q120_1, q120_3, q120_5, q120_8, q120_9, q120_10, q120_13, q120_14, q120_15, q120_18, q120_19, q120_23, q120_24, q120_27, q120_28, q120_29, q120_32, q120_33, q120_34, q120_36, q120_39, q120_40, q120_43, q120_44, q120_45, q120_47, q120_48, q120_49, q120_51, q120_54, q120_57, q120_60, q120_64, q120_67, q120_68, q120_69, q120_72, q120_75, q120_76, q120_79, q120_80, q120_81, q120_84, q120_85, q120_86, q120_87, q120_90, q120_93, q120_94, q120_95, q120_96, q120_99, q120_100, q120_103, q120_105, q120_108, q120_111, q120_114, q120_115, q120_116, q120_117, q120_119, q120_122, q120_123, q120_125, q120_127, q120_129, q120_132, q120_133, q120_134, q120_137, q120_138, q120_139, q120_142, q120_143, q120_145, q120_147, q120_148, q120_151, q120_152, q120_153, q120_156, q120_157, q120_158, q120_159, q120_160, q120_162, q120_165, q120_168, q120_169, q120_172, q120_173, q120_174, q120_175, q120_176, q120_178, q120_181, q120_184, q120_186, q120_189, q120_190, q120_191, q120_193, q120_194, q120_195, q120_197, q120_200, q120_203, q120_206, q120_209, q120_210, q120_213, q120_216, q120_217, q120_218, q120_219, q120_222, q120_223, q120_224, q120_225, q120_228, q120_230, q120_231, q120_232, q120_235, q120_236, q120_239, q120_241, q120_244, q120_247, q120_250, q120_253, q120_256, q120_e, sM_0 hM, sM_r8 hM, pm_rf_some, ar8 hM ha, nc24 ha, hR.1, e1, if_false]
    exact hQ S cnt (by omega) c2 c3 c4
theorem gJ_node {x y : Option Nat} (hJ : gJ S0 S m g fl B) (hB : sp_addN B (v, x, y) = Cb) (hg : g < 24) (hQ : ∀ S', gJ S0 S' m g fl Cb → frI (mB m g) S S' → Q none S') : pm_N (d + 1) 103 [.ref m, .int (nI g), .long v, .int (sp_eM x), .int (sp_eM y)] S Q := by
  obtain ⟨C, h1, h2, h3⟩ := hJ
  rw [m_addNodeW h1 hg]
  refine hQ _ ⟨_, mW_node h1, fun q => by rw [h2 q]; exact hB, fun q => ?_⟩ (mQ_node h1.2.1).2
  rw [sp_addN_ne (by rw [h3 q]; decide)]
  exact h3 q
set_option maxHeartbeats 4000000 in
theorem m_gat_1 (hX : gX LB t c S0 m g) (hlb : sp_lb LB) (hg : g < 24) (ha : a < 24) (hne : a ≠ g) (hR0 : mR S0 m a Ca) {l5 : Value} (hJ : gJ S0 S m g false (0, [], [], []))
    (hQ : ∀ S' l4, gJ S0 S' m g (hp_g c (ga_kn LB t) (ga_vn Ca) Ca.2.1.length 10) (0, ga_N LB t c Ca 10, [], []) → mN LB t c Ca S' m 10 (hp_g c (ga_kn LB t) (ga_vn Ca) Ca.2.1.length 10) → pm_V (d + 2) 120 114 [.ref m, .int (nI g), .int (nI a), .int (nI 10), l4, l5] [] S' Q) : ∀ l4, pm_V (d + 2) 120 2 [.ref m, .int (nI g), .int (nI a), .int (nI 0), l4, l5] [] S Q := by
  have r2 := hR0.2.1
  refine lp (n := 10) (Inv := fun l S => gJ S0 S m g (hp_g c (ga_kn LB t) (ga_vn Ca) Ca.2.1.length l) (0, ga_N LB t c Ca l, [], []) ∧ mN LB t c Ca S m l (hp_g c (ga_kn LB t) (ga_vn Ca) Ca.2.1.length l)) (head := fun l S => ∀ l4, pm_V (d + 2) 120 2 [.ref m, .int (nI g), .int (nI a), .int (nI l), l4, l5] [] S Q) ?_ ?_ S ⟨hJ, fun _ l hl => by omega⟩
  · rintro l S hl ⟨hJ, hN⟩ hNx l4
    have hM := gJ_M hJ
    have e1 : nI l < 10 := nI_lt (b := 10) hl (by decide)
    have f1 : frI (mS m) S (pm_sgl (pm_sgi S m 31 0) m 33 0) := (frI.gi (by unfold mS; omega)).tr (frI.gl (by unfold mS; omega))
    rw [q120_2]
    simp only [q120_0, q120_1, q120_3, q120_5, q120_8, q120_9, q120_10, q120_13, q120_14, q120_15, q120_18, q120_19, q120_23, q120_24, q120_27, q120_28, q120_29, q120_32, q120_33, q120_34, q120_36, q120_39, q120_40, q120_43, q120_44, q120_45, q120_47, q120_48, q120_49, q120_51, q120_54, q120_57, q120_60, q120_64, q120_67, q120_68, q120_69, q120_72, q120_75, q120_76, q120_79, q120_80, q120_81, q120_84, q120_85, q120_86, q120_87, q120_90, q120_93, q120_94, q120_95, q120_96, q120_99, q120_100, q120_103, q120_105, q120_108, q120_111, q120_115, q120_116, q120_117, q120_119, q120_122, q120_123, q120_125, q120_127, q120_129, q120_132, q120_133, q120_134, q120_137, q120_138, q120_139, q120_142, q120_143, q120_145, q120_147, q120_148, q120_151, q120_152, q120_153, q120_156, q120_157, q120_158, q120_159, q120_160, q120_162, q120_165, q120_168, q120_169, q120_172, q120_173, q120_174, q120_175, q120_176, q120_178, q120_181, q120_184, q120_186, q120_189, q120_190, q120_191, q120_193, q120_194, q120_195, q120_197, q120_200, q120_203, q120_206, q120_209, q120_210, q120_213, q120_216, q120_217, q120_218, q120_219, q120_222, q120_223, q120_224, q120_225, q120_228, q120_230, q120_231, q120_232, q120_235, q120_236, q120_239, q120_241, q120_244, q120_247, q120_250, q120_253, q120_256, q120_e, sM_0 hM, e1, if_true, ps_gi_nx, ps_gi_sz, ps_gi_sh, ps_gi_gi, ps_gi_gl, ps_gi_gr, ps_gi_zi, ps_gi_zl, ps_gi_zr, ps_gi_ar, ps_gi_al, ps_gl_nx, ps_gl_sz, ps_gl_sh, ps_gl_gi, ps_gl_gl, ps_gl_gr, ps_gl_zi, ps_gl_zl, ps_gl_zr, ps_gl_ar, ps_gl_al, ps_gr_nx, ps_gr_sz, ps_gr_sh, ps_gr_gi, ps_gr_gl, ps_gr_gr, ps_gr_zi, ps_gr_zl, ps_gr_zr, ps_gr_ar, ps_gr_al, ps_zi_nx, ps_zi_sz, ps_zi_sh, ps_zi_gi, ps_zi_gl, ps_zi_gr, ps_zi_zi, ps_zi_zl, ps_zi_zr, ps_zi_ar, ps_zi_al, ps_zl_nx, ps_zl_sz, ps_zl_sh, ps_zl_gi, ps_zl_gl, ps_zl_gr, ps_zl_zi, ps_zl_zl, ps_zl_zr, ps_zl_ar, ps_zl_al, ps_zr_nx, ps_zr_sz, ps_zr_sh, ps_zr_gi, ps_zr_gl, ps_zr_gr, ps_zr_zi, ps_zr_zl, ps_zr_zr, ps_zr_ar, ps_zr_al, pm_rf_some, pm_rf_none, pm_tl_some, pm_tl_none]
    refine m_gat_n hX hlb hg ha hne hR0 hl (gJ_s hJ f1) (mN_fr (P := fun b k => b = m) hN (fun q => q) ((frI.gi (P := fun b _ => b = m) rfl).tr (frI.gl (P := fun b _ => b = m) rfl)) (fun l hl => by omega)) ⟨by simp [ps_gi_nx, ps_gi_sz, ps_gi_sh, ps_gi_gi, ps_gi_gl, ps_gi_gr, ps_gi_zi, ps_gi_zl, ps_gi_zr, ps_gi_ar, ps_gi_al, ps_gl_nx, ps_gl_sz, ps_gl_sh, ps_gl_gi, ps_gl_gl, ps_gl_gr, ps_gl_zi, ps_gl_zl, ps_gl_zr, ps_gl_ar, ps_gl_al, ps_gr_nx, ps_gr_sz, ps_gr_sh, ps_gr_gi, ps_gr_gl, ps_gr_gr, ps_gr_zi, ps_gr_zl, ps_gr_zr, ps_gr_ar, ps_gr_al, ps_zi_nx, ps_zi_sz, ps_zi_sh, ps_zi_gi, ps_zi_gl, ps_zi_gr, ps_zi_zi, ps_zi_zl, ps_zi_zr, ps_zi_ar, ps_zi_al, ps_zl_nx, ps_zl_sz, ps_zl_sh, ps_zl_gi, ps_zl_gl, ps_zl_gr, ps_zl_zi, ps_zl_zl, ps_zl_zr, ps_zl_ar, ps_zl_al, ps_zr_nx, ps_zr_sz, ps_zr_sh, ps_zr_gi, ps_zr_gl, ps_zr_gr, ps_zr_zi, ps_zr_zl, ps_zr_zr, ps_zr_ar, ps_zr_al, pm_rf_some, pm_rf_none, pm_tl_some, pm_tl_none]; rfl, rfl, ps_gl_self⟩ fun S1 cnt q1 q2 q3 q4 => ?_
    have hM1 := gJ_M q2
    have zc := nI_le0 (show cnt < 2 ^ 31 by omega)
    cases hh : ga_hN LB t c Ca l with
    | none =>
      rw [hh] at q4
      obtain ⟨p1, p2, p3⟩ := q4
      subst p2
      have f2 : frI (mS m) S1 (pm_szi S1 (m + 27) l (-1)) := frI.zi (by unfold mS; omega)
      simp only [q120_0, q120_1, q120_3, q120_5, q120_8, q120_9, q120_10, q120_13, q120_14, q120_15, q120_18, q120_19, q120_23, q120_24, q120_27, q120_28, q120_29, q120_32, q120_33, q120_34, q120_36, q120_39, q120_40, q120_43, q120_44, q120_45, q120_47, q120_48, q120_49, q120_51, q120_54, q120_57, q120_60, q120_63, q120_64, q120_67, q120_68, q120_69, q120_72, q120_75, q120_76, q120_79, q120_80, q120_81, q120_84, q120_85, q120_86, q120_87, q120_90, q120_93, q120_94, q120_95, q120_96, q120_99, q120_100, q120_103, q120_105, q120_108, q120_111, q120_114, q120_115, q120_116, q120_117, q120_119, q120_122, q120_123, q120_125, q120_127, q120_129, q120_132, q120_133, q120_134, q120_137, q120_138, q120_139, q120_142, q120_143, q120_145, q120_147, q120_148, q120_151, q120_152, q120_153, q120_156, q120_157, q120_158, q120_159, q120_160, q120_162, q120_165, q120_168, q120_169, q120_172, q120_173, q120_174, q120_175, q120_176, q120_178, q120_181, q120_184, q120_186, q120_189, q120_190, q120_191, q120_193, q120_194, q120_195, q120_197, q120_200, q120_203, q120_206, q120_209, q120_210, q120_213, q120_216, q120_217, q120_218, q120_219, q120_222, q120_223, q120_224, q120_225, q120_228, q120_230, q120_231, q120_232, q120_235, q120_236, q120_239, q120_241, q120_244, q120_247, q120_250, q120_253, q120_256, q120_e, sM_0 hM1, sM_r34 hM1, pm_rf_some, p1, zc, if_true, ar27 hM1 hl, nI_clamp (show l < 2 ^ 31 by omega), ps_gi_nx, ps_gi_sz, ps_gi_sh, ps_gi_gi, ps_gi_gl, ps_gi_gr, ps_gi_zi, ps_gi_zl, ps_gi_zr, ps_gi_ar, ps_gi_al, ps_gl_nx, ps_gl_sz, ps_gl_sh, ps_gl_gi, ps_gl_gl, ps_gl_gr, ps_gl_zi, ps_gl_zl, ps_gl_zr, ps_gl_ar, ps_gl_al, ps_gr_nx, ps_gr_sz, ps_gr_sh, ps_gr_gi, ps_gr_gl, ps_gr_gr, ps_gr_zi, ps_gr_zl, ps_gr_zr, ps_gr_ar, ps_gr_al, ps_zi_nx, ps_zi_sz, ps_zi_sh, ps_zi_gi, ps_zi_gl, ps_zi_gr, ps_zi_zi, ps_zi_zl, ps_zi_zr, ps_zi_ar, ps_zi_al, ps_zl_nx, ps_zl_sz, ps_zl_sh, ps_zl_gi, ps_zl_gl, ps_zl_gr, ps_zl_zi, ps_zl_zl, ps_zl_zr, ps_zl_ar, ps_zl_al, ps_zr_nx, ps_zr_sz, ps_zr_sh, ps_zr_gi, ps_zr_gl, ps_zr_gr, ps_zr_zi, ps_zr_zl, ps_zr_zr, ps_zr_ar, ps_zr_al, pm_rf_some, pm_rf_none, pm_tl_some, pm_tl_none, nI_1]
      refine hNx _ ⟨?_, fun q l' hl' => ?_⟩ _
      · have : ga_N LB t c Ca (l + 1) = ga_N LB t c Ca l := by rw [ga_N_s, hh]; exact List.append_nil _
        rw [this]
        exact gJ_s q2 f2
      · rw [ps_zi_zi]
        by_cases e : l' = l
        · subst e; rw [if_pos ⟨rfl, rfl⟩, hh]; rfl
        · rw [if_neg (fun z => e z.2)]; exact q3 q l' (by omega)
    | some p =>
      obtain ⟨f, tt⟩ := p
      rw [hh] at q4
      obtain ⟨p1, p2, p3, p4, p5⟩ := q4
      have nz : ¬ cnt = 0 := by omega
      obtain ⟨C, h1, h2, h3⟩ := id q2
      have n8 := h1.2.1.2.2.1.1
      have f2 : frI (mS m) S1 (pm_szi S1 (m + 27) l (nI C.2.1.length)) := frI.zi (by unfold mS; omega)
      simp only [q120_0, q120_1, q120_3, q120_5, q120_8, q120_9, q120_10, q120_13, q120_14, q120_15, q120_18, q120_19, q120_23, q120_24, q120_27, q120_28, q120_29, q120_32, q120_33, q120_34, q120_36, q120_39, q120_40, q120_43, q120_44, q120_45, q120_47, q120_48, q120_49, q120_51, q120_54, q120_57, q120_60, q120_63, q120_64, q120_67, q120_68, q120_69, q120_72, q120_75, q120_76, q120_79, q120_80, q120_81, q120_84, q120_85, q120_86, q120_87, q120_90, q120_93, q120_94, q120_95, q120_96, q120_99, q120_100, q120_103, q120_105, q120_108, q120_111, q120_114, q120_115, q120_116, q120_117, q120_119, q120_122, q120_123, q120_125, q120_127, q120_129, q120_132, q120_133, q120_134, q120_137, q120_138, q120_139, q120_142, q120_143, q120_145, q120_147, q120_148, q120_151, q120_152, q120_153, q120_156, q120_157, q120_158, q120_159, q120_160, q120_162, q120_165, q120_168, q120_169, q120_172, q120_173, q120_174, q120_175, q120_176, q120_178, q120_181, q120_184, q120_186, q120_189, q120_190, q120_191, q120_193, q120_194, q120_195, q120_197, q120_200, q120_203, q120_206, q120_209, q120_210, q120_213, q120_216, q120_217, q120_218, q120_219, q120_222, q120_223, q120_224, q120_225, q120_228, q120_230, q120_231, q120_232, q120_235, q120_236, q120_239, q120_241, q120_244, q120_247, q120_250, q120_253, q120_256, q120_e, sM_0 hM1, sM_r34 hM1, sM_r8 hM1, pm_rf_some, p1, zc, nz, if_false, ar8 hM1 hg, nc24 hg, n8, ar27 hM1 hl, nI_clamp (show l < 2 ^ 31 by omega), ps_gi_nx, ps_gi_sz, ps_gi_sh, ps_gi_gi, ps_gi_gl, ps_gi_gr, ps_gi_zi, ps_gi_zl, ps_gi_zr, ps_gi_ar, ps_gi_al, ps_gl_nx, ps_gl_sz, ps_gl_sh, ps_gl_gi, ps_gl_gl, ps_gl_gr, ps_gl_zi, ps_gl_zl, ps_gl_zr, ps_gl_ar, ps_gl_al, ps_gr_nx, ps_gr_sz, ps_gr_sh, ps_gr_gi, ps_gr_gl, ps_gr_gr, ps_gr_zi, ps_gr_zl, ps_gr_zr, ps_gr_ar, ps_gr_al, ps_zi_nx, ps_zi_sz, ps_zi_sh, ps_zi_gi, ps_zi_gl, ps_zi_gr, ps_zi_zi, ps_zi_zl, ps_zi_zr, ps_zi_ar, ps_zi_al, ps_zl_nx, ps_zl_sz, ps_zl_sh, ps_zl_gi, ps_zl_gl, ps_zl_gr, ps_zl_zi, ps_zl_zl, ps_zl_zr, ps_zl_ar, ps_zl_al, ps_zr_nx, ps_zr_sz, ps_zr_sh, ps_zr_gi, ps_zr_gl, ps_zr_gr, ps_zr_zi, ps_zr_zl, ps_zr_zr, ps_zr_ar, ps_zr_al, pm_rf_some, pm_rf_none, pm_tl_some, pm_tl_none, p3, p4]
      have eB : sp_addN (0, ga_N LB t c Ca l, [], []) (tt, some f, none) = (0, ga_N LB t c Ca (l + 1), [], []) := by
        have := ga_N_le (LB := LB) (t := t) (c := c) (Ca := Ca) l
        unfold sp_addN
        rw [if_neg (by show ¬ (ga_N LB t c Ca l).length = 40; omega), if_pos rfl, ga_N_s, hh]
      refine gJ_node (x := some f) (y := none) (gJ_s q2 f2) eB hg fun S' w1 w2 => ?_
      simp only [pm_tl_none, q120_0, q120_1, q120_3, q120_5, q120_8, q120_9, q120_10, q120_13, q120_14, q120_15, q120_18, q120_19, q120_23, q120_24, q120_27, q120_28, q120_29, q120_32, q120_33, q120_34, q120_36, q120_39, q120_40, q120_43, q120_44, q120_45, q120_47, q120_48, q120_49, q120_51, q120_54, q120_57, q120_60, q120_63, q120_64, q120_67, q120_68, q120_69, q120_72, q120_75, q120_76, q120_79, q120_80, q120_81, q120_84, q120_85, q120_86, q120_87, q120_90, q120_93, q120_94, q120_95, q120_96, q120_99, q120_100, q120_103, q120_105, q120_108, q120_111, q120_114, q120_115, q120_116, q120_117, q120_119, q120_122, q120_123, q120_125, q120_127, q120_129, q120_132, q120_133, q120_134, q120_137, q120_138, q120_139, q120_142, q120_143, q120_145, q120_147, q120_148, q120_151, q120_152, q120_153, q120_156, q120_157, q120_158, q120_159, q120_160, q120_162, q120_165, q120_168, q120_169, q120_172, q120_173, q120_174, q120_175, q120_176, q120_178, q120_181, q120_184, q120_186, q120_189, q120_190, q120_191, q120_193, q120_194, q120_195, q120_197, q120_200, q120_203, q120_206, q120_209, q120_210, q120_213, q120_216, q120_217, q120_218, q120_219, q120_222, q120_223, q120_224, q120_225, q120_228, q120_230, q120_231, q120_232, q120_235, q120_236, q120_239, q120_241, q120_244, q120_247, q120_250, q120_253, q120_256, q120_e, nI_1]
      refine hNx S' ⟨w1, fun q l' hl' => ?_⟩ _
      rw [(w2.2.2.2.2.2 (m + 27) l' (by unfold mB; omega)).2.2.1, ps_zi_zi]
      by_cases e : l' = l
      · subst e; rw [if_pos ⟨rfl, rfl⟩, hh, h2 q]; rfl
      · rw [if_neg (fun z => e z.2)]; exact q3 q l' (by omega)
  · rintro S ⟨hJ, hN⟩ l4
    rw [q120_2]
    simp only [q120_0, q120_1, q120_3, q120_5, q120_8, q120_9, q120_10, q120_13, q120_14, q120_15, q120_18, q120_19, q120_23, q120_24, q120_27, q120_28, q120_29, q120_32, q120_33, q120_34, q120_36, q120_39, q120_40, q120_43, q120_44, q120_45, q120_47, q120_48, q120_49, q120_51, q120_54, q120_57, q120_60, q120_63, q120_64, q120_67, q120_68, q120_69, q120_72, q120_75, q120_76, q120_79, q120_80, q120_81, q120_84, q120_85, q120_86, q120_87, q120_90, q120_93, q120_94, q120_95, q120_96, q120_99, q120_100, q120_103, q120_105, q120_108, q120_111, q120_115, q120_116, q120_117, q120_119, q120_122, q120_123, q120_125, q120_127, q120_129, q120_132, q120_133, q120_134, q120_137, q120_138, q120_139, q120_142, q120_143, q120_145, q120_147, q120_148, q120_151, q120_152, q120_153, q120_156, q120_157, q120_158, q120_159, q120_160, q120_162, q120_165, q120_168, q120_169, q120_172, q120_173, q120_174, q120_175, q120_176, q120_178, q120_181, q120_184, q120_186, q120_189, q120_190, q120_191, q120_193, q120_194, q120_195, q120_197, q120_200, q120_203, q120_206, q120_209, q120_210, q120_213, q120_216, q120_217, q120_218, q120_219, q120_222, q120_223, q120_224, q120_225, q120_228, q120_230, q120_231, q120_232, q120_235, q120_236, q120_239, q120_241, q120_244, q120_247, q120_250, q120_253, q120_256, q120_e, show ¬ nI 10 < 10 by decide, if_false]
    exact hQ S _ hJ hN
end
