/-! ===== THE REFERENCE: gathered, its loops ===== -/
def gJ (S0 S : pm_T) (m g : Nat) (fl : Bool) (B : sp_C) : Prop := ∃ C, mW S0 S m g C ∧ (fl = false → C = B) ∧ (fl = true → C.1 = 3)
def mN (LB : Nat → Nat → Option Nat) (t c : Nat) (Ca : sp_C) (S : pm_T) (m L : Nat) (fl : Bool) : Prop := fl = false → ∀ l, l < L → pm_zi S (m + 27) l = if (ga_hN LB t c Ca l).isSome = true then nI (ga_N LB t c Ca l).length else -1
/-- what gathering reads -/
def gX (LB : Nat → Nat → Option Nat) (t c : Nat) (S0 : pm_T) (m g : Nat) : Prop := t < 4 ∧ c < 3 ∧ pm_zi S0 (m + 4) g = nI c ∧ pm_zi S0 (m + 3) g = nI t ∧ ∀ i, i < 40 → pm_zi S0 (m + 21) (40 * t + i) = sp_eC (LB t i)
section
variable {LB : Nat → Nat → Option Nat} {S0 S S' : pm_T} {m a b g n k d j e t u c i cnt l : Nat} {C Ca Cb B : sp_C} {Q : Option Value → pm_T → Prop} {v : Int64} {h : hp_T} {fl : Bool}
theorem mW_s (hW : mW S0 S m g C) (hf : frI (mS m) S S') : mW S0 S' m g C := ⟨sM_frI hW.1 hf, mQ_fr hW.2.1 hf mB_s, hW.2.2.tr (hf.mono (fun b k h => Or.inr h))⟩
theorem gJ_s (hW : gJ S0 S m g fl B) (hf : frI (mS m) S S') : gJ S0 S' m g fl B := by
  obtain ⟨C, h1, h2⟩ := hW
  exact ⟨C, mW_s h1 hf, h2⟩
theorem sp_brk_ne {f : Nat} (h : C.1 ≠ 0) : sp_brk C f = C := by unfold sp_brk; rw [if_neg h]
theorem m_labelOf (hX : gX LB t c S0 m g) (hg : g < 24) (hi : i < 40) (hW : mW S0 S m g C) : pm_N d 117 [.ref m, .int (nI g), .int (nI i)] S Q = Q (some (.int (sp_eC (LB t i)))) S := by
  obtain ⟨x1, x2, x3, x4, x5⟩ := hX
  have hM := hW.1
  have b3 := mW_by (i := 3) (by decide) hW x4
  have r1 := pm_ar_nI (sM_s3 hM) hg (by decide)
  have r2 := pm_ar_nI (sM_s21 hM) (show 40 * t + i < 160 by omega) (by decide)
  have e6 : (40 : Int32) * nI t + nI i = nI (40 * t + i) := sp_at 40 t i
  have l1 : pm_zi S (m + 21) (40 * t + i) = sp_eC (LB t i) := by rw [(hW.2.2.2.2.2.2.2 (m + 21) _ (by unfold mP mB mS; omega)).2.2.1]; exact x5 i hi
  simp only [q117_0, q117_1, q117_4, q117_6, q117_7, q117_10, q117_11, q117_12, q117_13, q117_14, q117_15, q117_16, q117_e, sM_0 hM, sM_r22 hM, sM_r3 hM, pm_rf_some, r1, nc24 hg, b3, e6, r2, nI_clamp (show 40 * t + i < 2 ^ 31 by omega), l1]
theorem eC_nI {r : Option Nat} (h : ∀ x, r = some x → x < 10) (hl : l < 2 ^ 31) : (sp_eC r = nI l) = (r = some l) := by
  cases r with
  | none => refine propext ⟨fun q => ?_, fun q => by cases q⟩
            have := nI_pos' hl
            rw [← q] at this
            exact absurd this (by decide)
  | some x =>
    have := h x rfl
    show (nI x = nI l) = _
    rw [nI_e' (by omega) hl]
    exact propext ⟨fun q => by rw [q], fun q => Option.some.inj q⟩
theorem nI_le0 {k : Nat} (h : k < 2 ^ 31) : (nI k ≤ 0) = (k = 0) := by
  refine propext ⟨fun q => ?_, fun q => by subst q; decide⟩
  rw [Int32.le_iff_toInt_le, nI_toInt h] at q
  have : (0 : Int32).toInt = 0 := rfl
  omega
theorem gJ_comes (hW : gJ S0 S m g fl B) (hB : B.1 = 0) (hX : gX LB t c S0 m g) (hg : g < 24) (hh : mh S m c h cnt) (hcnt : cnt < 500) (hQ : ∀ S', gJ S0 S' m g (fl || hp_ov c h v) B → mh S' m c (hp_in c h i v) (cnt + 1) → frI (mc m g) S S' → Q none S') : pm_N (d + 1) 118 [.ref m, .int (nI g), .int (nI i), .long v] S Q := by
  obtain ⟨C, h1, h2, h3⟩ := hW
  refine m_comes hX.2.1 hX.2.2.1 hg h1 hh hcnt fun S' w1 w2 w3 => hQ S' ⟨_, w1, ?_, ?_⟩ w2 w3
  · intro q
    rw [Bool.or_eq_false_iff] at q
    rw [q.2, if_neg (by decide)]
    exact h2 q.1
  · intro q
    cases hf : fl with
    | true =>
      have := h3 hf
      split
      · rw [sp_brk_ne (by omega)]; exact this
      · exact this
    | false =>
      rw [hf, Bool.false_or] at q
      rw [if_pos q, h2 hf]
      unfold sp_brk
      rw [if_pos hB]
theorem gJ_M (hW : gJ S0 S m g fl B) : sM S m := by obtain ⟨C, h1, -⟩ := hW; exact h1.1
theorem gJ_R (hW : gJ S0 S m g fl B) (hR : mR S0 m a Ca) (hne : a ≠ g) : mR S m a Ca := by obtain ⟨C, h1, -⟩ := hW; exact mW_R h1 hR hne
theorem gJ_lab (hW : gJ S0 S m g fl B) (hX : gX LB t c S0 m g) (hg : g < 24) (hi : i < 40) : pm_N d 117 [.ref m, .int (nI g), .int (nI i)] S Q = Q (some (.int (sp_eC (LB t i)))) S := by obtain ⟨C, h1, -⟩ := hW; exact m_labelOf hX hg hi h1
theorem mN_fr {P : Nat → Nat → Prop} {L : Nat} {fl' : Bool} (hN : mN LB t c Ca S m L fl) (hfl : fl' = false → fl = false) (hf : frI P S S') (hP : ∀ l, l < L → ¬ P (m + 27) l) : mN LB t c Ca S' m L fl' := fun q l hl => by rw [(hf.2.2.2.2.2 (m + 27) l (hP l hl)).2.2.1]; exact hN (hfl q) l hl
theorem ar27 (hM : sM S m) (hl : l < 10) : pm_ar S (m + 27) 0 (nI l) = true := pm_ar_nI (sM_s27 hM) hl (by decide)
theorem hp_cnt0 (hf : frI (mS m) S S') (h31 : pm_gi S' m 31 = 0) (h33 : pm_gl S' m 33 = 0) : mh S' m c none 0 := ⟨h31, rfl, h33⟩
set_option maxHeartbeats 4000000 in
/-- one label: its nodes -/
theorem m_gat_n (hX : gX LB t c S0 m g) (hlb : sp_lb LB) (hg : g < 24) (ha : a < 24) (hne : a ≠ g) (hR0 : mR S0 m a Ca) (hl : l < 10) {l5 : Value} (hJ : gJ S0 S m g (hp_g c (ga_kn LB t) (ga_vn Ca) Ca.2.1.length l) (0, ga_N LB t c Ca l, [], [])) (hN : mN LB t c Ca S m l (hp_g c (ga_kn LB t) (ga_vn Ca) Ca.2.1.length l)) (hh : mh S m c none 0)
    (hQ : ∀ S' cnt, cnt ≤ 40 → gJ S0 S' m g (hp_g c (ga_kn LB t) (ga_vn Ca) Ca.2.1.length (l + 1)) (0, ga_N LB t c Ca l, [], []) → mN LB t c Ca S' m l (hp_g c (ga_kn LB t) (ga_vn Ca) Ca.2.1.length (l + 1)) → mh S' m c (ga_hN LB t c Ca l) cnt → pm_V (d + 2) 119 63 [.ref m, .int (nI g), .int (nI a), .int (nI l), .int (nI Ca.2.1.length), l5] [] S' Q) :
    pm_V (d + 2) 119 21 [.ref m, .int (nI g), .int (nI a), .int (nI l), .int (nI 0), l5] [] S Q := by
  have r2 := hR0.2.1
  refine lp (n := Ca.2.1.length) (Inv := fun k S => ∃ cnt, cnt ≤ k ∧ gJ S0 S m g (hp_g c (ga_kn LB t) (ga_vn Ca) Ca.2.1.length l || hp_o c (ga_kn LB t) (ga_vn Ca) l k) (0, ga_N LB t c Ca l, [], []) ∧ mN LB t c Ca S m l (hp_g c (ga_kn LB t) (ga_vn Ca) Ca.2.1.length l || hp_o c (ga_kn LB t) (ga_vn Ca) l k) ∧ mh S m c (hp_h c (ga_kn LB t) (ga_vn Ca) l k) cnt) (head := fun k S => pm_V (d + 2) 119 21 [.ref m, .int (nI g), .int (nI a), .int (nI l), .int (nI k), l5] [] S Q) ?_ ?_ S ⟨0, Nat.le_refl _, by rw [show hp_o c (ga_kn LB t) (ga_vn Ca) l 0 = false from rfl, Bool.or_false]; exact hJ, by rw [show hp_o c (ga_kn LB t) (ga_vn Ca) l 0 = false from rfl, Bool.or_false]; exact hN, hh⟩
  · rintro k S hk ⟨cnt, c1, c2, c3, c4⟩ hNx
    have hM := gJ_M c2
    have hR := gJ_R c2 hR0 hne
    have e1 : nI k < nI Ca.2.1.length := nI_lt hk (by omega)
    have z := eC_nI (r := LB t k) (l := l) (fun x hx => hlb t k x hx) (by omega)
    rw [q119_21]
    simp only [q119_0, q119_1, q119_3, q119_5, q119_8, q119_9, q119_10, q119_13, q119_14, q119_15, q119_18, q119_19, q119_23, q119_24, q119_27, q119_28, q119_29, q119_32, q119_33, q119_34, q119_36, q119_39, q119_40, q119_43, q119_44, q119_45, q119_47, q119_48, q119_49, q119_51, q119_54, q119_57, q119_60, q119_64, q119_67, q119_68, q119_69, q119_72, q119_75, q119_76, q119_79, q119_80, q119_81, q119_84, q119_85, q119_86, q119_87, q119_90, q119_93, q119_94, q119_95, q119_96, q119_99, q119_100, q119_103, q119_105, q119_108, q119_111, q119_114, q119_115, q119_116, q119_117, q119_119, q119_122, q119_123, q119_125, q119_127, q119_129, q119_132, q119_133, q119_134, q119_137, q119_138, q119_139, q119_142, q119_143, q119_145, q119_147, q119_148, q119_151, q119_152, q119_153, q119_156, q119_157, q119_158, q119_159, q119_160, q119_162, q119_165, q119_168, q119_169, q119_172, q119_173, q119_174, q119_175, q119_176, q119_178, q119_181, q119_184, q119_186, q119_189, q119_190, q119_191, q119_193, q119_194, q119_195, q119_197, q119_200, q119_203, q119_206, q119_209, q119_210, q119_213, q119_216, q119_217, q119_218, q119_219, q119_222, q119_223, q119_224, q119_225, q119_228, q119_230, q119_231, q119_232, q119_235, q119_236, q119_239, q119_241, q119_244, q119_247, q119_250, q119_253, q119_256, q119_e, sM_0 hM, sM_r8 hM, pm_rf_some, ar8 hM ha, nc24 ha, hR.1, e1, if_true, gJ_lab c2 hX hg (show k < 40 by omega), pm_tl_some, z, mr_node hM hR ha hk, nI_1]
    by_cases hc : LB t k = some l
    · rw [if_pos hc]
      refine gJ_comes c2 rfl hX hg c4 (by omega) fun S' w1 w2 w3 => ?_
      simp only [pm_tl_none, q119_0, q119_1, q119_3, q119_5, q119_8, q119_9, q119_10, q119_13, q119_14, q119_15, q119_18, q119_19, q119_23, q119_24, q119_27, q119_28, q119_29, q119_32, q119_33, q119_34, q119_36, q119_39, q119_40, q119_43, q119_44, q119_45, q119_47, q119_48, q119_49, q119_51, q119_54, q119_57, q119_60, q119_64, q119_67, q119_68, q119_69, q119_72, q119_75, q119_76, q119_79, q119_80, q119_81, q119_84, q119_85, q119_86, q119_87, q119_90, q119_93, q119_94, q119_95, q119_96, q119_99, q119_100, q119_103, q119_105, q119_108, q119_111, q119_114, q119_115, q119_116, q119_117, q119_119, q119_122, q119_123, q119_125, q119_127, q119_129, q119_132, q119_133, q119_134, q119_137, q119_138, q119_139, q119_142, q119_143, q119_145, q119_147, q119_148, q119_151, q119_152, q119_153, q119_156, q119_157, q119_158, q119_159, q119_160, q119_162, q119_165, q119_168, q119_169, q119_172, q119_173, q119_174, q119_175, q119_176, q119_178, q119_181, q119_184, q119_186, q119_189, q119_190, q119_191, q119_193, q119_194, q119_195, q119_197, q119_200, q119_203, q119_206, q119_209, q119_210, q119_213, q119_216, q119_217, q119_218, q119_219, q119_222, q119_223, q119_224, q119_225, q119_228, q119_230, q119_231, q119_232, q119_235, q119_236, q119_239, q119_241, q119_244, q119_247, q119_250, q119_253, q119_256, q119_e, nI_1]
      have eo : (hp_g c (ga_kn LB t) (ga_vn Ca) Ca.2.1.length l || hp_o c (ga_kn LB t) (ga_vn Ca) l k || hp_ov c (hp_h c (ga_kn LB t) (ga_vn Ca) l k) (sp_nd Ca k).1) = (hp_g c (ga_kn LB t) (ga_vn Ca) Ca.2.1.length l || hp_o c (ga_kn LB t) (ga_vn Ca) l (k + 1)) := by
        rw [hp_o_s, show decide (ga_kn LB t k = some l) = true from decide_eq_true hc, Bool.true_and, Bool.or_assoc]
        rfl
      rw [eo] at w1
      refine hNx S' ⟨cnt + 1, by omega, w1, mN_fr c3 (fun q => ?_) w3 (fun l hl => by unfold mc; omega), ?_⟩
      · rw [hp_o_s, ← Bool.or_assoc, Bool.or_eq_false_iff] at q
        exact q.1
      · show mh S' m c (if ga_kn LB t k = some l then _ else _) _
        rw [if_pos (show ga_kn LB t k = some l from hc)]
        exact w2
    · rw [if_neg hc]
      have eo : hp_o c (ga_kn LB t) (ga_vn Ca) l (k + 1) = hp_o c (ga_kn LB t) (ga_vn Ca) l k := by
        rw [hp_o_s, show decide (ga_kn LB t k = some l) = false from decide_eq_false hc, Bool.false_and, Bool.or_false]
      refine hNx S ⟨cnt, by omega, by rw [eo]; exact c2, by rw [eo]; exact c3, ?_⟩
      show mh S m c (if ga_kn LB t k = some l then _ else _) _
      rw [if_neg (show ¬ ga_kn LB t k = some l from hc)]
      exact c4
  · rintro S ⟨cnt, c1, c2, c3, c4⟩
    have hM := gJ_M c2
    have hR := gJ_R c2 hR0 hne
    have e1 : ¬ nI Ca.2.1.length < nI Ca.2.1.length := nI_nlt (Nat.le_refl _) (by omega)
    rw [q119_21]
    simp only [q119_0, q119_1, q119_3, q119_5, q119_8, q119_9, q119_10, q119_13, q119_14, q119_15, q119_18, q119_19, q119_23, q119_24, q119_27, q119_28, q119_29, q119_32, q119_33, q119_34, q119_36, q119_39, q119_40, q119_43, q119_44, q119_45, q119_47, q119_48, q119_49, q119_51, q119_54, q119_57, q119_60, q119_64, q119_67, q119_68, q119_69, q119_72, q119_75, q119_76, q119_79, q119_80, q119_81, q119_84, q119_85, q119_86, q119_87, q119_90, q119_93, q119_94, q119_95, q119_96, q119_99, q119_100, q119_103, q119_105, q119_108, q119_111, q119_114, q119_115, q119_116, q119_117, q119_119, q119_122, q119_123, q119_125, q119_127, q119_129, q119_132, q119_133, q119_134, q119_137, q119_138, q119_139, q119_142, q119_143, q119_145, q119_147, q119_148, q119_151, q119_152, q119_153, q119_156, q119_157, q119_158, q119_159, q119_160, q119_162, q119_165, q119_168, q119_169, q119_172, q119_173, q119_174, q119_175, q119_176, q119_178, q119_181, q119_184, q119_186, q119_189, q119_190, q119_191, q119_193, q119_194, q119_195, q119_197, q119_200, q119_203, q119_206, q119_209, q119_210, q119_213, q119_216, q119_217, q119_218, q119_219, q119_222, q119_223, q119_224, q119_225, q119_228, q119_230, q119_231, q119_232, q119_235, q119_236, q119_239, q119_241, q119_244, q119_247, q119_250, q119_253, q119_256, q119_e, sM_0 hM, sM_r8 hM, pm_rf_some, ar8 hM ha, nc24 ha, hR.1, e1, if_false]
    exact hQ S cnt (by omega) c2 c3 c4
theorem gJ_node {x y : Option Nat} (hJ : gJ S0 S m g fl B) (hB : sp_addN B (v, x, y) = Cb) (hg : g < 24) (hQ : ∀ S', gJ S0 S' m g fl Cb → frI (mB m g) S S' → Q none S') : pm_N (d + 1) 102 [.ref m, .int (nI g), .long v, .int (sp_eM x), .int (sp_eM y)] S Q := by
  obtain ⟨C, h1, h2, h3⟩ := hJ
  rw [m_addNodeW h1 hg]
  refine hQ _ ⟨_, mW_node h1, fun q => by rw [h2 q]; exact hB, fun q => ?_⟩ (mQ_node h1.2.1).2
  rw [sp_addN_ne (by rw [h3 q]; decide)]
  exact h3 q
set_option maxHeartbeats 4000000 in
theorem m_gat_1 (hX : gX LB t c S0 m g) (hlb : sp_lb LB) (hg : g < 24) (ha : a < 24) (hne : a ≠ g) (hR0 : mR S0 m a Ca) {l5 : Value} (hJ : gJ S0 S m g false (0, [], [], []))
    (hQ : ∀ S' l4, gJ S0 S' m g (hp_g c (ga_kn LB t) (ga_vn Ca) Ca.2.1.length 10) (0, ga_N LB t c Ca 10, [], []) → mN LB t c Ca S' m 10 (hp_g c (ga_kn LB t) (ga_vn Ca) Ca.2.1.length 10) → pm_V (d + 2) 119 114 [.ref m, .int (nI g), .int (nI a), .int (nI 10), l4, l5] [] S' Q) : ∀ l4, pm_V (d + 2) 119 2 [.ref m, .int (nI g), .int (nI a), .int (nI 0), l4, l5] [] S Q := by
  have r2 := hR0.2.1
  refine lp (n := 10) (Inv := fun l S => gJ S0 S m g (hp_g c (ga_kn LB t) (ga_vn Ca) Ca.2.1.length l) (0, ga_N LB t c Ca l, [], []) ∧ mN LB t c Ca S m l (hp_g c (ga_kn LB t) (ga_vn Ca) Ca.2.1.length l)) (head := fun l S => ∀ l4, pm_V (d + 2) 119 2 [.ref m, .int (nI g), .int (nI a), .int (nI l), l4, l5] [] S Q) ?_ ?_ S ⟨hJ, fun _ l hl => by omega⟩
  · rintro l S hl ⟨hJ, hN⟩ hNx l4
    have hM := gJ_M hJ
    have e1 : nI l < 10 := nI_lt (b := 10) hl (by decide)
    have f1 : frI (mS m) S (pm_sgl (pm_sgi S m 31 0) m 33 0) := (frI.gi (by unfold mS; omega)).tr (frI.gl (by unfold mS; omega))
    rw [q119_2]
    simp only [q119_0, q119_1, q119_3, q119_5, q119_8, q119_9, q119_10, q119_13, q119_14, q119_15, q119_18, q119_19, q119_23, q119_24, q119_27, q119_28, q119_29, q119_32, q119_33, q119_34, q119_36, q119_39, q119_40, q119_43, q119_44, q119_45, q119_47, q119_48, q119_49, q119_51, q119_54, q119_57, q119_60, q119_64, q119_67, q119_68, q119_69, q119_72, q119_75, q119_76, q119_79, q119_80, q119_81, q119_84, q119_85, q119_86, q119_87, q119_90, q119_93, q119_94, q119_95, q119_96, q119_99, q119_100, q119_103, q119_105, q119_108, q119_111, q119_115, q119_116, q119_117, q119_119, q119_122, q119_123, q119_125, q119_127, q119_129, q119_132, q119_133, q119_134, q119_137, q119_138, q119_139, q119_142, q119_143, q119_145, q119_147, q119_148, q119_151, q119_152, q119_153, q119_156, q119_157, q119_158, q119_159, q119_160, q119_162, q119_165, q119_168, q119_169, q119_172, q119_173, q119_174, q119_175, q119_176, q119_178, q119_181, q119_184, q119_186, q119_189, q119_190, q119_191, q119_193, q119_194, q119_195, q119_197, q119_200, q119_203, q119_206, q119_209, q119_210, q119_213, q119_216, q119_217, q119_218, q119_219, q119_222, q119_223, q119_224, q119_225, q119_228, q119_230, q119_231, q119_232, q119_235, q119_236, q119_239, q119_241, q119_244, q119_247, q119_250, q119_253, q119_256, q119_e, sM_0 hM, e1, if_true, ps_gi_nx, ps_gi_sz, ps_gi_sh, ps_gi_gi, ps_gi_gl, ps_gi_gr, ps_gi_zi, ps_gi_zl, ps_gi_zr, ps_gi_ar, ps_gi_al, ps_gl_nx, ps_gl_sz, ps_gl_sh, ps_gl_gi, ps_gl_gl, ps_gl_gr, ps_gl_zi, ps_gl_zl, ps_gl_zr, ps_gl_ar, ps_gl_al, ps_gr_nx, ps_gr_sz, ps_gr_sh, ps_gr_gi, ps_gr_gl, ps_gr_gr, ps_gr_zi, ps_gr_zl, ps_gr_zr, ps_gr_ar, ps_gr_al, ps_zi_nx, ps_zi_sz, ps_zi_sh, ps_zi_gi, ps_zi_gl, ps_zi_gr, ps_zi_zi, ps_zi_zl, ps_zi_zr, ps_zi_ar, ps_zi_al, ps_zl_nx, ps_zl_sz, ps_zl_sh, ps_zl_gi, ps_zl_gl, ps_zl_gr, ps_zl_zi, ps_zl_zl, ps_zl_zr, ps_zl_ar, ps_zl_al, ps_zr_nx, ps_zr_sz, ps_zr_sh, ps_zr_gi, ps_zr_gl, ps_zr_gr, ps_zr_zi, ps_zr_zl, ps_zr_zr, ps_zr_ar, ps_zr_al, pm_rf_some, pm_rf_none, pm_tl_some, pm_tl_none]
    refine m_gat_n hX hlb hg ha hne hR0 hl (gJ_s hJ f1) (mN_fr (P := fun b k => b = m) hN (fun q => q) ((frI.gi (P := fun b _ => b = m) rfl).tr (frI.gl (P := fun b _ => b = m) rfl)) (fun l hl => by omega)) ⟨by simp [ps_gi_nx, ps_gi_sz, ps_gi_sh, ps_gi_gi, ps_gi_gl, ps_gi_gr, ps_gi_zi, ps_gi_zl, ps_gi_zr, ps_gi_ar, ps_gi_al, ps_gl_nx, ps_gl_sz, ps_gl_sh, ps_gl_gi, ps_gl_gl, ps_gl_gr, ps_gl_zi, ps_gl_zl, ps_gl_zr, ps_gl_ar, ps_gl_al, ps_gr_nx, ps_gr_sz, ps_gr_sh, ps_gr_gi, ps_gr_gl, ps_gr_gr, ps_gr_zi, ps_gr_zl, ps_gr_zr, ps_gr_ar, ps_gr_al, ps_zi_nx, ps_zi_sz, ps_zi_sh, ps_zi_gi, ps_zi_gl, ps_zi_gr, ps_zi_zi, ps_zi_zl, ps_zi_zr, ps_zi_ar, ps_zi_al, ps_zl_nx, ps_zl_sz, ps_zl_sh, ps_zl_gi, ps_zl_gl, ps_zl_gr, ps_zl_zi, ps_zl_zl, ps_zl_zr, ps_zl_ar, ps_zl_al, ps_zr_nx, ps_zr_sz, ps_zr_sh, ps_zr_gi, ps_zr_gl, ps_zr_gr, ps_zr_zi, ps_zr_zl, ps_zr_zr, ps_zr_ar, ps_zr_al, pm_rf_some, pm_rf_none, pm_tl_some, pm_tl_none]; rfl, rfl, ps_gl_self⟩ fun S1 cnt q1 q2 q3 q4 => ?_
    have hM1 := gJ_M q2
    have zc := nI_le0 (show cnt < 2 ^ 31 by omega)
    cases hh : ga_hN LB t c Ca l with
    | none =>
      rw [hh] at q4
      obtain ⟨p1, p2, p3⟩ := q4
      subst p2
      have f2 : frI (mS m) S1 (pm_szi S1 (m + 27) l (-1)) := frI.zi (by unfold mS; omega)
      simp only [q119_0, q119_1, q119_3, q119_5, q119_8, q119_9, q119_10, q119_13, q119_14, q119_15, q119_18, q119_19, q119_23, q119_24, q119_27, q119_28, q119_29, q119_32, q119_33, q119_34, q119_36, q119_39, q119_40, q119_43, q119_44, q119_45, q119_47, q119_48, q119_49, q119_51, q119_54, q119_57, q119_60, q119_63, q119_64, q119_67, q119_68, q119_69, q119_72, q119_75, q119_76, q119_79, q119_80, q119_81, q119_84, q119_85, q119_86, q119_87, q119_90, q119_93, q119_94, q119_95, q119_96, q119_99, q119_100, q119_103, q119_105, q119_108, q119_111, q119_114, q119_115, q119_116, q119_117, q119_119, q119_122, q119_123, q119_125, q119_127, q119_129, q119_132, q119_133, q119_134, q119_137, q119_138, q119_139, q119_142, q119_143, q119_145, q119_147, q119_148, q119_151, q119_152, q119_153, q119_156, q119_157, q119_158, q119_159, q119_160, q119_162, q119_165, q119_168, q119_169, q119_172, q119_173, q119_174, q119_175, q119_176, q119_178, q119_181, q119_184, q119_186, q119_189, q119_190, q119_191, q119_193, q119_194, q119_195, q119_197, q119_200, q119_203, q119_206, q119_209, q119_210, q119_213, q119_216, q119_217, q119_218, q119_219, q119_222, q119_223, q119_224, q119_225, q119_228, q119_230, q119_231, q119_232, q119_235, q119_236, q119_239, q119_241, q119_244, q119_247, q119_250, q119_253, q119_256, q119_e, sM_0 hM1, sM_r34 hM1, pm_rf_some, p1, zc, if_true, ar27 hM1 hl, nI_clamp (show l < 2 ^ 31 by omega), ps_gi_nx, ps_gi_sz, ps_gi_sh, ps_gi_gi, ps_gi_gl, ps_gi_gr, ps_gi_zi, ps_gi_zl, ps_gi_zr, ps_gi_ar, ps_gi_al, ps_gl_nx, ps_gl_sz, ps_gl_sh, ps_gl_gi, ps_gl_gl, ps_gl_gr, ps_gl_zi, ps_gl_zl, ps_gl_zr, ps_gl_ar, ps_gl_al, ps_gr_nx, ps_gr_sz, ps_gr_sh, ps_gr_gi, ps_gr_gl, ps_gr_gr, ps_gr_zi, ps_gr_zl, ps_gr_zr, ps_gr_ar, ps_gr_al, ps_zi_nx, ps_zi_sz, ps_zi_sh, ps_zi_gi, ps_zi_gl, ps_zi_gr, ps_zi_zi, ps_zi_zl, ps_zi_zr, ps_zi_ar, ps_zi_al, ps_zl_nx, ps_zl_sz, ps_zl_sh, ps_zl_gi, ps_zl_gl, ps_zl_gr, ps_zl_zi, ps_zl_zl, ps_zl_zr, ps_zl_ar, ps_zl_al, ps_zr_nx, ps_zr_sz, ps_zr_sh, ps_zr_gi, ps_zr_gl, ps_zr_gr, ps_zr_zi, ps_zr_zl, ps_zr_zr, ps_zr_ar, ps_zr_al, pm_rf_some, pm_rf_none, pm_tl_some, pm_tl_none, nI_1]
      refine hNx _ ⟨?_, fun q l' hl' => ?_⟩ _
      · have : ga_N LB t c Ca (l + 1) = ga_N LB t c Ca l := by rw [ga_N_s, hh]; exact List.append_nil _
        rw [this]
        exact gJ_s q2 f2
      · rw [ps_zi_zi]
        by_cases e : l' = l
        · subst e; rw [if_pos ⟨rfl, rfl⟩, hh]; rfl
        · rw [if_neg (fun z => e z.2)]; exact q3 q l' (by omega)
    | some p =>
      obtain ⟨f, tt⟩ := p
      rw [hh] at q4
      obtain ⟨p1, p2, p3, p4, p5⟩ := q4
      have nz : ¬ cnt = 0 := by omega
      obtain ⟨C, h1, h2, h3⟩ := id q2
      have n8 := h1.2.1.2.2.1.1
      have f2 : frI (mS m) S1 (pm_szi S1 (m + 27) l (nI C.2.1.length)) := frI.zi (by unfold mS; omega)
      simp only [q119_0, q119_1, q119_3, q119_5, q119_8, q119_9, q119_10, q119_13, q119_14, q119_15, q119_18, q119_19, q119_23, q119_24, q119_27, q119_28, q119_29, q119_32, q119_33, q119_34, q119_36, q119_39, q119_40, q119_43, q119_44, q119_45, q119_47, q119_48, q119_49, q119_51, q119_54, q119_57, q119_60, q119_63, q119_64, q119_67, q119_68, q119_69, q119_72, q119_75, q119_76, q119_79, q119_80, q119_81, q119_84, q119_85, q119_86, q119_87, q119_90, q119_93, q119_94, q119_95, q119_96, q119_99, q119_100, q119_103, q119_105, q119_108, q119_111, q119_114, q119_115, q119_116, q119_117, q119_119, q119_122, q119_123, q119_125, q119_127, q119_129, q119_132, q119_133, q119_134, q119_137, q119_138, q119_139, q119_142, q119_143, q119_145, q119_147, q119_148, q119_151, q119_152, q119_153, q119_156, q119_157, q119_158, q119_159, q119_160, q119_162, q119_165, q119_168, q119_169, q119_172, q119_173, q119_174, q119_175, q119_176, q119_178, q119_181, q119_184, q119_186, q119_189, q119_190, q119_191, q119_193, q119_194, q119_195, q119_197, q119_200, q119_203, q119_206, q119_209, q119_210, q119_213, q119_216, q119_217, q119_218, q119_219, q119_222, q119_223, q119_224, q119_225, q119_228, q119_230, q119_231, q119_232, q119_235, q119_236, q119_239, q119_241, q119_244, q119_247, q119_250, q119_253, q119_256, q119_e, sM_0 hM1, sM_r34 hM1, sM_r8 hM1, pm_rf_some, p1, zc, nz, if_false, ar8 hM1 hg, nc24 hg, n8, ar27 hM1 hl, nI_clamp (show l < 2 ^ 31 by omega), ps_gi_nx, ps_gi_sz, ps_gi_sh, ps_gi_gi, ps_gi_gl, ps_gi_gr, ps_gi_zi, ps_gi_zl, ps_gi_zr, ps_gi_ar, ps_gi_al, ps_gl_nx, ps_gl_sz, ps_gl_sh, ps_gl_gi, ps_gl_gl, ps_gl_gr, ps_gl_zi, ps_gl_zl, ps_gl_zr, ps_gl_ar, ps_gl_al, ps_gr_nx, ps_gr_sz, ps_gr_sh, ps_gr_gi, ps_gr_gl, ps_gr_gr, ps_gr_zi, ps_gr_zl, ps_gr_zr, ps_gr_ar, ps_gr_al, ps_zi_nx, ps_zi_sz, ps_zi_sh, ps_zi_gi, ps_zi_gl, ps_zi_gr, ps_zi_zi, ps_zi_zl, ps_zi_zr, ps_zi_ar, ps_zi_al, ps_zl_nx, ps_zl_sz, ps_zl_sh, ps_zl_gi, ps_zl_gl, ps_zl_gr, ps_zl_zi, ps_zl_zl, ps_zl_zr, ps_zl_ar, ps_zl_al, ps_zr_nx, ps_zr_sz, ps_zr_sh, ps_zr_gi, ps_zr_gl, ps_zr_gr, ps_zr_zi, ps_zr_zl, ps_zr_zr, ps_zr_ar, ps_zr_al, pm_rf_some, pm_rf_none, pm_tl_some, pm_tl_none, p3, p4]
      have eB : sp_addN (0, ga_N LB t c Ca l, [], []) (tt, some f, none) = (0, ga_N LB t c Ca (l + 1), [], []) := by
        have := ga_N_le (LB := LB) (t := t) (c := c) (Ca := Ca) l
        unfold sp_addN
        rw [if_neg (by show ¬ (ga_N LB t c Ca l).length = 40; omega), if_pos rfl, ga_N_s, hh]
      refine gJ_node (x := some f) (y := none) (gJ_s q2 f2) eB hg fun S' w1 w2 => ?_
      simp only [pm_tl_none, q119_0, q119_1, q119_3, q119_5, q119_8, q119_9, q119_10, q119_13, q119_14, q119_15, q119_18, q119_19, q119_23, q119_24, q119_27, q119_28, q119_29, q119_32, q119_33, q119_34, q119_36, q119_39, q119_40, q119_43, q119_44, q119_45, q119_47, q119_48, q119_49, q119_51, q119_54, q119_57, q119_60, q119_63, q119_64, q119_67, q119_68, q119_69, q119_72, q119_75, q119_76, q119_79, q119_80, q119_81, q119_84, q119_85, q119_86, q119_87, q119_90, q119_93, q119_94, q119_95, q119_96, q119_99, q119_100, q119_103, q119_105, q119_108, q119_111, q119_114, q119_115, q119_116, q119_117, q119_119, q119_122, q119_123, q119_125, q119_127, q119_129, q119_132, q119_133, q119_134, q119_137, q119_138, q119_139, q119_142, q119_143, q119_145, q119_147, q119_148, q119_151, q119_152, q119_153, q119_156, q119_157, q119_158, q119_159, q119_160, q119_162, q119_165, q119_168, q119_169, q119_172, q119_173, q119_174, q119_175, q119_176, q119_178, q119_181, q119_184, q119_186, q119_189, q119_190, q119_191, q119_193, q119_194, q119_195, q119_197, q119_200, q119_203, q119_206, q119_209, q119_210, q119_213, q119_216, q119_217, q119_218, q119_219, q119_222, q119_223, q119_224, q119_225, q119_228, q119_230, q119_231, q119_232, q119_235, q119_236, q119_239, q119_241, q119_244, q119_247, q119_250, q119_253, q119_256, q119_e, nI_1]
      refine hNx S' ⟨w1, fun q l' hl' => ?_⟩ _
      rw [(w2.2.2.2.2.2 (m + 27) l' (by unfold mB; omega)).2.2.1, ps_zi_zi]
      by_cases e : l' = l
      · subst e; rw [if_pos ⟨rfl, rfl⟩, hh, h2 q]; rfl
      · rw [if_neg (fun z => e z.2)]; exact q3 q l' (by omega)
  · rintro S ⟨hJ, hN⟩ l4
    rw [q119_2]
    simp only [q119_0, q119_1, q119_3, q119_5, q119_8, q119_9, q119_10, q119_13, q119_14, q119_15, q119_18, q119_19, q119_23, q119_24, q119_27, q119_28, q119_29, q119_32, q119_33, q119_34, q119_36, q119_39, q119_40, q119_43, q119_44, q119_45, q119_47, q119_48, q119_49, q119_51, q119_54, q119_57, q119_60, q119_63, q119_64, q119_67, q119_68, q119_69, q119_72, q119_75, q119_76, q119_79, q119_80, q119_81, q119_84, q119_85, q119_86, q119_87, q119_90, q119_93, q119_94, q119_95, q119_96, q119_99, q119_100, q119_103, q119_105, q119_108, q119_111, q119_115, q119_116, q119_117, q119_119, q119_122, q119_123, q119_125, q119_127, q119_129, q119_132, q119_133, q119_134, q119_137, q119_138, q119_139, q119_142, q119_143, q119_145, q119_147, q119_148, q119_151, q119_152, q119_153, q119_156, q119_157, q119_158, q119_159, q119_160, q119_162, q119_165, q119_168, q119_169, q119_172, q119_173, q119_174, q119_175, q119_176, q119_178, q119_181, q119_184, q119_186, q119_189, q119_190, q119_191, q119_193, q119_194, q119_195, q119_197, q119_200, q119_203, q119_206, q119_209, q119_210, q119_213, q119_216, q119_217, q119_218, q119_219, q119_222, q119_223, q119_224, q119_225, q119_228, q119_230, q119_231, q119_232, q119_235, q119_236, q119_239, q119_241, q119_244, q119_247, q119_250, q119_253, q119_256, q119_e, show ¬ nI 10 < 10 by decide, if_false]
    exact hQ S _ hJ hN
end
