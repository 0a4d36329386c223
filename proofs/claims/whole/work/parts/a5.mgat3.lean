/-! ===== THE REFERENCE: gathered, its arcs ===== -/
section
variable {LB : Nat → Nat → Option Nat} {S0 S S' : pm_T} {m a b g n k d j e t u c i cnt l mm : Nat} {C Ca Cb B : sp_C} {Q : Option Value → pm_T → Prop} {v : Int64} {h : hp_T} {fl : Bool}
theorem ka_eq (hlb : sp_lb LB) (hm : mm < 10) : (ga_ka LB t Ca k = some (10 * l + mm)) = (LB t (sp_ar Ca k).1 = some l ∧ LB t (sp_ar Ca k).2.1 = some mm) := by
  unfold ga_ka
  cases h1 : LB t (sp_ar Ca k).1 with
  | none => exact propext ⟨(fun q => by simp at q), (fun q => by simp at q)⟩
  | some x =>
    cases h2 : LB t (sp_ar Ca k).2.1 with
    | none => exact propext ⟨(fun q => by simp at q), (fun q => by simp at q)⟩
    | some y =>
      have := hlb t _ y h2
      refine propext ⟨fun q => ?_, fun q => ?_⟩
      · have := Option.some.inj q
        exact ⟨by congr 1; omega, by congr 1; omega⟩
      · rw [Option.some.inj q.1, Option.some.inj q.2]
theorem mQ_arcB {t u x y : Int32} (h : mQ S m g C) (h0 : C.1 ≠ 0) : mQ (fM_arc S m g C.2.2.1.length t u v x y) m g C ∧ frI (mB m g) S (fM_arc S m g C.2.2.1.length t u v x y) := by
  have e0 : (nI C.1 = 0) = (C.1 = 0) := nI_e' (b := 0) (by have := h.2.1; omega) (by decide)
  unfold fM_arc
  split
  · obtain ⟨q1, q2⟩ := mQ_brk (f := 4) h (by decide)
    rw [sp_brk_ne h0] at q1
    exact ⟨q1, q2⟩
  · simp only [h.1, e0, h0, if_false]
    exact ⟨h, frI.rf⟩
theorem gJ_arc {p q : Int32} {x y : Option Nat} (hJ : gJ S0 S m g fl B) (hp : fl = false → p = nI t ∧ q = nI u) (hB : sp_addA B (t, u, v, x, y) = Cb) (hg : g < 24) (hQ : ∀ S', gJ S0 S' m g fl Cb → frI (mB m g) S S' → Q none S') : pm_N (d + 1) 103 [.ref m, .int (nI g), .int p, .int q, .long v, .int (sp_eM x), .int (sp_eM y)] S Q := by
  obtain ⟨C, h1, h2, h3⟩ := hJ
  rw [m_addArcW h1 hg]
  cases hf : fl with
  | false =>
    obtain ⟨rfl, rfl⟩ := hp hf
    exact hQ _ ⟨_, mW_arc h1, (fun q => by rw [h2 hf]; exact hB), (fun q => by rw [hf] at q; cases q)⟩ (mQ_arc h1.2.1).2
  | true =>
    have h3' := h3 hf
    obtain ⟨q1, q2⟩ := mQ_arcB (t := p) (u := q) (v := v) (x := sp_eM x) (y := sp_eM y) h1.2.1 (by omega)
    exact hQ _ ⟨C, ⟨sM_frI h1.1 q2, q1, h1.2.2.tr (q2.mono (fun b k h => Or.inl h))⟩, (fun q => by rw [hf] at q; cases q), fun _ => h3'⟩ q2
/-- the flag before the heap z of arcs, and k arcs -/
def gF (LB : Nat → Nat → Option Nat) (t c : Nat) (Ca : sp_C) (z : Nat) : Bool := hp_g c (ga_kn LB t) (ga_vn Ca) Ca.2.1.length 10 || hp_g c (ga_ka LB t Ca) (ga_va Ca) Ca.2.2.1.length z
set_option maxHeartbeats 4000000 in
theorem m_gat_a (hX : gX LB t c S0 m g) (hlb : sp_lb LB) (ho : sp_ok Ca) (hg : g < 24) (ha : a < 24) (hne : a ≠ g) (hR0 : mR S0 m a Ca) (hl : l < 10) (hm : mm < 10) {B : sp_C} (hB : B.1 = 0) (hJ : gJ S0 S m g (gF LB t c Ca (10 * l + mm)) B) (hN : mN LB t c Ca S m 10 (gF LB t c Ca (10 * l + mm))) (hh : mh S m c none 0)
    (hQ : ∀ S' cnt, cnt ≤ 120 → gJ S0 S' m g (gF LB t c Ca (10 * l + mm + 1)) B → mN LB t c Ca S' m 10 (gF LB t c Ca (10 * l + mm + 1)) → mh S' m c (ga_hA LB t c Ca (10 * l + mm)) cnt → pm_V (d + 2) 119 209 [.ref m, .int (nI g), .int (nI a), .int (nI l), .int (nI mm), .int (nI Ca.2.2.1.length)] [] S' Q) :
    pm_V (d + 2) 119 145 [.ref m, .int (nI g), .int (nI a), .int (nI l), .int (nI mm), .int (nI 0)] [] S Q := by
  have r1 := hR0.2.1
  have r2 := hR0.2.2.2.1
  refine lp (n := Ca.2.2.1.length) (Inv := fun k S => ∃ cnt, cnt ≤ k ∧ gJ S0 S m g (gF LB t c Ca (10 * l + mm) || hp_o c (ga_ka LB t Ca) (ga_va Ca) (10 * l + mm) k) B ∧ mN LB t c Ca S m 10 (gF LB t c Ca (10 * l + mm) || hp_o c (ga_ka LB t Ca) (ga_va Ca) (10 * l + mm) k) ∧ mh S m c (hp_h c (ga_ka LB t Ca) (ga_va Ca) (10 * l + mm) k) cnt) (head := fun k S => pm_V (d + 2) 119 145 [.ref m, .int (nI g), .int (nI a), .int (nI l), .int (nI mm), .int (nI k)] [] S Q) ?_ ?_ S ⟨0, Nat.le_refl _, by rw [show hp_o c (ga_ka LB t Ca) (ga_va Ca) (10 * l + mm) 0 = false from rfl, Bool.or_false]; exact hJ, by rw [show hp_o c (ga_ka LB t Ca) (ga_va Ca) (10 * l + mm) 0 = false from rfl, Bool.or_false]; exact hN, hh⟩
  · rintro k S hk ⟨cnt, c1, c2, c3, c4⟩ hNx
    have hM := gJ_M c2
    have hR := gJ_R c2 hR0 hne
    have o := ho k hk
    have e1 : nI k < nI Ca.2.2.1.length := nI_lt hk (by omega)
    have z1 := eC_nI (r := LB t (sp_ar Ca k).1) (l := l) (fun x hx => hlb t _ x hx) (by omega)
    have z2 := eC_nI (r := LB t (sp_ar Ca k).2.1) (l := mm) (fun x hx => hlb t _ x hx) (by omega)
    have ke := ka_eq (t := t) (Ca := Ca) (k := k) (l := l) hlb hm
    have no : ¬ (LB t (sp_ar Ca k).1 = some l ∧ LB t (sp_ar Ca k).2.1 = some mm) → pm_V (d + 2) 119 145 [.ref m, .int (nI g), .int (nI a), .int (nI l), .int (nI mm), .int (nI (k + 1))] [] S Q := by
      intro hc
      rw [← ke] at hc
      have eo : hp_o c (ga_ka LB t Ca) (ga_va Ca) (10 * l + mm) (k + 1) = hp_o c (ga_ka LB t Ca) (ga_va Ca) (10 * l + mm) k := by
        rw [hp_o_s, decide_eq_false hc, Bool.false_and, Bool.or_false]
      refine hNx S ⟨cnt, by omega, by rw [eo]; exact c2, by rw [eo]; exact c3, ?_⟩
      show mh S m c (if ga_ka LB t Ca k = some (10 * l + mm) then _ else _) _
      rw [if_neg hc]
      exact c4
    rw [q119_145]
    simp only [q119_0, q119_1, q119_3, q119_5, q119_8, q119_9, q119_10, q119_13, q119_14, q119_15, q119_18, q119_19, q119_23, q119_24, q119_27, q119_28, q119_29, q119_32, q119_33, q119_34, q119_36, q119_39, q119_40, q119_43, q119_44, q119_45, q119_47, q119_48, q119_49, q119_51, q119_54, q119_57, q119_60, q119_63, q119_64, q119_67, q119_68, q119_69, q119_72, q119_75, q119_76, q119_79, q119_80, q119_81, q119_84, q119_85, q119_86, q119_87, q119_90, q119_93, q119_94, q119_95, q119_96, q119_99, q119_100, q119_103, q119_105, q119_108, q119_111, q119_114, q119_115, q119_117, q119_119, q119_122, q119_123, q119_127, q119_129, q119_132, q119_133, q119_134, q119_137, q119_138, q119_139, q119_142, q119_143, q119_147, q119_148, q119_151, q119_152, q119_153, q119_156, q119_157, q119_158, q119_159, q119_160, q119_162, q119_165, q119_168, q119_169, q119_172, q119_173, q119_174, q119_175, q119_176, q119_178, q119_181, q119_184, q119_186, q119_189, q119_190, q119_191, q119_193, q119_194, q119_195, q119_197, q119_200, q119_203, q119_206, q119_210, q119_213, q119_216, q119_217, q119_218, q119_219, q119_222, q119_223, q119_224, q119_225, q119_228, q119_230, q119_231, q119_232, q119_235, q119_236, q119_239, q119_241, q119_244, q119_247, q119_250, q119_253, q119_256, q119_e, sM_0 hM, sM_r9 hM, pm_rf_some, ar9 hM ha, nc24 ha, hR.2.2.1, e1, if_true, mr_from hM hR ha hk, mr_to hM hR ha hk, gJ_lab c2 hX hg (show (sp_ar Ca k).1 < 40 by omega), gJ_lab c2 hX hg (show (sp_ar Ca k).2.1 < 40 by omega), pm_tl_some, z1, z2, mr_arc hM hR ha hk, nI_1]
    by_cases h1 : LB t (sp_ar Ca k).1 = some l
    · rw [if_pos h1]
      by_cases h2 : LB t (sp_ar Ca k).2.1 = some mm
      · rw [if_pos h2]
        have hc : ga_ka LB t Ca k = some (10 * l + mm) := by rw [ke]; exact ⟨h1, h2⟩
        refine gJ_comes c2 hB hX hg c4 (by omega) fun S' w1 w2 w3 => ?_
        simp only [pm_tl_none, q119_0, q119_1, q119_3, q119_5, q119_8, q119_9, q119_10, q119_13, q119_14, q119_15, q119_18, q119_19, q119_23, q119_24, q119_27, q119_28, q119_29, q119_32, q119_33, q119_34, q119_36, q119_39, q119_40, q119_43, q119_44, q119_45, q119_47, q119_48, q119_49, q119_51, q119_54, q119_57, q119_60, q119_63, q119_64, q119_67, q119_68, q119_69, q119_72, q119_75, q119_76, q119_79, q119_80, q119_81, q119_84, q119_85, q119_86, q119_87, q119_90, q119_93, q119_94, q119_95, q119_96, q119_99, q119_100, q119_103, q119_105, q119_108, q119_111, q119_114, q119_115, q119_117, q119_119, q119_122, q119_123, q119_127, q119_129, q119_132, q119_133, q119_134, q119_137, q119_138, q119_139, q119_142, q119_143, q119_147, q119_148, q119_151, q119_152, q119_153, q119_156, q119_157, q119_158, q119_159, q119_160, q119_162, q119_165, q119_168, q119_169, q119_172, q119_173, q119_174, q119_175, q119_176, q119_178, q119_181, q119_184, q119_186, q119_189, q119_190, q119_191, q119_193, q119_194, q119_195, q119_197, q119_200, q119_203, q119_206, q119_210, q119_213, q119_216, q119_217, q119_218, q119_219, q119_222, q119_223, q119_224, q119_225, q119_228, q119_230, q119_231, q119_232, q119_235, q119_236, q119_239, q119_241, q119_244, q119_247, q119_250, q119_253, q119_256, q119_e, nI_1]
        have eo : (gF LB t c Ca (10 * l + mm) || hp_o c (ga_ka LB t Ca) (ga_va Ca) (10 * l + mm) k || hp_ov c (hp_h c (ga_ka LB t Ca) (ga_va Ca) (10 * l + mm) k) (sp_ar Ca k).2.2.1) = (gF LB t c Ca (10 * l + mm) || hp_o c (ga_ka LB t Ca) (ga_va Ca) (10 * l + mm) (k + 1)) := by
          rw [hp_o_s, decide_eq_true hc, Bool.true_and, Bool.or_assoc]
          rfl
        rw [eo] at w1
        refine hNx S' ⟨cnt + 1, by omega, w1, mN_fr c3 (fun q => ?_) w3 (fun l hl => by unfold mc; omega), ?_⟩
        · rw [hp_o_s, ← Bool.or_assoc, Bool.or_eq_false_iff] at q
          exact q.1
        · show mh S' m c (if ga_ka LB t Ca k = some (10 * l + mm) then _ else _) _
          rw [if_pos hc]
          exact w2
      · rw [if_neg h2]
        exact no (fun q => h2 q.2)
    · rw [if_neg h1]
      exact no (fun q => h1 q.1)
  · rintro S ⟨cnt, c1, c2, c3, c4⟩
    have hM := gJ_M c2
    have hR := gJ_R c2 hR0 hne
    have e1 : ¬ nI Ca.2.2.1.length < nI Ca.2.2.1.length := nI_nlt (Nat.le_refl _) (by omega)
    have ef : (gF LB t c Ca (10 * l + mm) || hp_o c (ga_ka LB t Ca) (ga_va Ca) (10 * l + mm) Ca.2.2.1.length) = gF LB t c Ca (10 * l + mm + 1) := by
      unfold gF
      rw [hp_g_s (key := ga_ka LB t Ca) Ca.2.2.1.length (10 * l + mm), Bool.or_assoc]
    rw [ef] at c2 c3
    rw [q119_145]
    simp only [q119_0, q119_1, q119_3, q119_5, q119_8, q119_9, q119_10, q119_13, q119_14, q119_15, q119_18, q119_19, q119_23, q119_24, q119_27, q119_28, q119_29, q119_32, q119_33, q119_34, q119_36, q119_39, q119_40, q119_43, q119_44, q119_45, q119_47, q119_48, q119_49, q119_51, q119_54, q119_57, q119_60, q119_63, q119_64, q119_67, q119_68, q119_69, q119_72, q119_75, q119_76, q119_79, q119_80, q119_81, q119_84, q119_85, q119_86, q119_87, q119_90, q119_93, q119_94, q119_95, q119_96, q119_99, q119_100, q119_103, q119_105, q119_108, q119_111, q119_114, q119_115, q119_117, q119_119, q119_122, q119_123, q119_127, q119_129, q119_132, q119_133, q119_134, q119_137, q119_138, q119_139, q119_142, q119_143, q119_147, q119_148, q119_151, q119_152, q119_153, q119_156, q119_157, q119_158, q119_159, q119_160, q119_162, q119_165, q119_168, q119_169, q119_172, q119_173, q119_174, q119_175, q119_176, q119_178, q119_181, q119_184, q119_186, q119_189, q119_190, q119_191, q119_193, q119_194, q119_195, q119_197, q119_200, q119_203, q119_206, q119_210, q119_213, q119_216, q119_217, q119_218, q119_219, q119_222, q119_223, q119_224, q119_225, q119_228, q119_230, q119_231, q119_232, q119_235, q119_236, q119_239, q119_241, q119_244, q119_247, q119_250, q119_253, q119_256, q119_e, sM_0 hM, sM_r9 hM, pm_rf_some, ar9 hM ha, nc24 ha, hR.2.2.1, e1, if_false]
    exact hQ S cnt (by omega) c2 c3 c4
theorem gF_mono {z : Nat} (q : gF LB t c Ca (z + 1) = false) : gF LB t c Ca z = false := by
  unfold gF at q ⊢
  rw [hp_g_s (key := ga_ka LB t Ca) Ca.2.2.1.length z, ← Bool.or_assoc, Bool.or_eq_false_iff] at q
  exact q.1
set_option maxHeartbeats 4000000 in
/-- a pair of labels -/
theorem m_gat_p (hX : gX LB t c S0 m g) (hlb : sp_lb LB) (ho : sp_ok Ca) (hg : g < 24) (ha : a < 24) (hne : a ≠ g) (hR0 : mR S0 m a Ca) (hl : l < 10) (hm : mm < 10) {l5 : Value} (hJ : gJ S0 S m g (gF LB t c Ca (10 * l + mm)) (0, ga_N LB t c Ca 10, ga_A LB t c Ca (10 * l + mm), [])) (hN : mN LB t c Ca S m 10 (gF LB t c Ca (10 * l + mm)))
    (hQ : ∀ S' l5, gJ S0 S' m g (gF LB t c Ca (10 * l + mm + 1)) (0, ga_N LB t c Ca 10, ga_A LB t c Ca (10 * l + mm + 1), []) → mN LB t c Ca S' m 10 (gF LB t c Ca (10 * l + mm + 1)) → pm_V (d + 2) 119 125 [.ref m, .int (nI g), .int (nI a), .int (nI l), .int (nI (mm + 1)), l5] [] S' Q) :
    pm_V (d + 2) 119 125 [.ref m, .int (nI g), .int (nI a), .int (nI l), .int (nI mm), l5] [] S Q := by
  have hM := gJ_M hJ
  have e1 : nI mm < 10 := nI_lt (b := 10) hm (by decide)
  have f1 : frI (mS m) S (pm_sgl (pm_sgi S m 31 0) m 33 0) := (frI.gi (by unfold mS; omega)).tr (frI.gl (by unfold mS; omega))
  have f1' : frI (fun b _ => b = m) S (pm_sgl (pm_sgi S m 31 0) m 33 0) := (frI.gi (P := fun b _ => b = m) rfl).tr (frI.gl (P := fun b _ => b = m) rfl)
  rw [q119_125]
  simp only [q119_0, q119_1, q119_3, q119_5, q119_8, q119_9, q119_10, q119_13, q119_14, q119_15, q119_18, q119_19, q119_23, q119_24, q119_27, q119_28, q119_29, q119_32, q119_33, q119_34, q119_36, q119_39, q119_40, q119_43, q119_44, q119_45, q119_47, q119_48, q119_49, q119_51, q119_54, q119_57, q119_60, q119_63, q119_64, q119_67, q119_68, q119_69, q119_72, q119_75, q119_76, q119_79, q119_80, q119_81, q119_84, q119_85, q119_86, q119_87, q119_90, q119_93, q119_94, q119_95, q119_96, q119_99, q119_100, q119_103, q119_105, q119_108, q119_111, q119_114, q119_115, q119_117, q119_119, q119_122, q119_123, q119_127, q119_129, q119_132, q119_133, q119_134, q119_137, q119_138, q119_139, q119_142, q119_143, q119_147, q119_148, q119_151, q119_152, q119_153, q119_156, q119_157, q119_158, q119_159, q119_160, q119_162, q119_165, q119_168, q119_169, q119_172, q119_173, q119_174, q119_175, q119_176, q119_178, q119_181, q119_184, q119_186, q119_189, q119_190, q119_191, q119_193, q119_194, q119_195, q119_197, q119_200, q119_203, q119_206, q119_210, q119_213, q119_216, q119_217, q119_218, q119_219, q119_222, q119_223, q119_224, q119_225, q119_228, q119_230, q119_231, q119_232, q119_235, q119_236, q119_239, q119_241, q119_244, q119_247, q119_253, q119_256, q119_e, sM_0 hM, e1, if_true, ps_gi_nx, ps_gi_sz, ps_gi_sh, ps_gi_gi, ps_gi_gl, ps_gi_gr, ps_gi_zi, ps_gi_zl, ps_gi_zr, ps_gi_ar, ps_gi_al, ps_gl_nx, ps_gl_sz, ps_gl_sh, ps_gl_gi, ps_gl_gl, ps_gl_gr, ps_gl_zi, ps_gl_zl, ps_gl_zr, ps_gl_ar, ps_gl_al, ps_gr_nx, ps_gr_sz, ps_gr_sh, ps_gr_gi, ps_gr_gl, ps_gr_gr, ps_gr_zi, ps_gr_zl, ps_gr_zr, ps_gr_ar, ps_gr_al, ps_zi_nx, ps_zi_sz, ps_zi_sh, ps_zi_gi, ps_zi_gl, ps_zi_gr, ps_zi_zi, ps_zi_zl, ps_zi_zr, ps_zi_ar, ps_zi_al, ps_zl_nx, ps_zl_sz, ps_zl_sh, ps_zl_gi, ps_zl_gl, ps_zl_gr, ps_zl_zi, ps_zl_zl, ps_zl_zr, ps_zl_ar, ps_zl_al, ps_zr_nx, ps_zr_sz, ps_zr_sh, ps_zr_gi, ps_zr_gl, ps_zr_gr, ps_zr_zi, ps_zr_zl, ps_zr_zr, ps_zr_ar, ps_zr_al, pm_rf_some, pm_rf_none, pm_tl_some, pm_tl_none]
  refine m_gat_a hX hlb ho hg ha hne hR0 hl hm rfl (gJ_s hJ f1) (mN_fr hN (fun q => q) f1' (fun l hl => by omega)) ⟨by simp [ps_gi_nx, ps_gi_sz, ps_gi_sh, ps_gi_gi, ps_gi_gl, ps_gi_gr, ps_gi_zi, ps_gi_zl, ps_gi_zr, ps_gi_ar, ps_gi_al, ps_gl_nx, ps_gl_sz, ps_gl_sh, ps_gl_gi, ps_gl_gl, ps_gl_gr, ps_gl_zi, ps_gl_zl, ps_gl_zr, ps_gl_ar, ps_gl_al, ps_gr_nx, ps_gr_sz, ps_gr_sh, ps_gr_gi, ps_gr_gl, ps_gr_gr, ps_gr_zi, ps_gr_zl, ps_gr_zr, ps_gr_ar, ps_gr_al, ps_zi_nx, ps_zi_sz, ps_zi_sh, ps_zi_gi, ps_zi_gl, ps_zi_gr, ps_zi_zi, ps_zi_zl, ps_zi_zr, ps_zi_ar, ps_zi_al, ps_zl_nx, ps_zl_sz, ps_zl_sh, ps_zl_gi, ps_zl_gl, ps_zl_gr, ps_zl_zi, ps_zl_zl, ps_zl_zr, ps_zl_ar, ps_zl_al, ps_zr_nx, ps_zr_sz, ps_zr_sh, ps_zr_gi, ps_zr_gl, ps_zr_gr, ps_zr_zi, ps_zr_zl, ps_zr_zr, ps_zr_ar, ps_zr_al, pm_rf_some, pm_rf_none, pm_tl_some, pm_tl_none]; rfl, rfl, ps_gl_self⟩ fun S1 cnt q1 q2 q3 q4 => ?_
  have hM1 := gJ_M q2
  have zc := nI_le0 (show cnt < 2 ^ 31 by omega)
  cases hh : ga_hA LB t c Ca (10 * l + mm) with
  | none =>
    rw [hh] at q4
    obtain ⟨p1, p2, p3⟩ := q4
    subst p2
    simp only [q119_0, q119_1, q119_3, q119_5, q119_8, q119_9, q119_10, q119_13, q119_14, q119_15, q119_18, q119_19, q119_23, q119_24, q119_27, q119_28, q119_29, q119_32, q119_33, q119_34, q119_36, q119_39, q119_40, q119_43, q119_44, q119_45, q119_47, q119_48, q119_49, q119_51, q119_54, q119_57, q119_60, q119_63, q119_64, q119_67, q119_68, q119_69, q119_72, q119_75, q119_76, q119_79, q119_80, q119_81, q119_84, q119_85, q119_86, q119_87, q119_90, q119_93, q119_94, q119_95, q119_96, q119_99, q119_100, q119_103, q119_105, q119_108, q119_111, q119_114, q119_115, q119_117, q119_119, q119_122, q119_123, q119_127, q119_129, q119_132, q119_133, q119_134, q119_137, q119_138, q119_139, q119_142, q119_143, q119_147, q119_148, q119_151, q119_152, q119_153, q119_156, q119_157, q119_158, q119_159, q119_160, q119_162, q119_165, q119_168, q119_169, q119_172, q119_173, q119_174, q119_175, q119_176, q119_178, q119_181, q119_184, q119_186, q119_189, q119_190, q119_191, q119_193, q119_194, q119_195, q119_197, q119_200, q119_203, q119_206, q119_209, q119_210, q119_213, q119_216, q119_217, q119_218, q119_219, q119_222, q119_223, q119_224, q119_225, q119_228, q119_230, q119_231, q119_232, q119_235, q119_236, q119_239, q119_241, q119_244, q119_247, q119_250, q119_253, q119_256, q119_e, sM_0 hM1, p1, zc, if_true, nI_1]
    refine hQ S1 _ ?_ q3
    have : ga_A LB t c Ca (10 * l + mm + 1) = ga_A LB t c Ca (10 * l + mm) := by rw [ga_A_s, hh]; exact List.append_nil _
    rw [this]
    exact q2
  | some p =>
    obtain ⟨f, tt⟩ := p
    rw [hh] at q4
    obtain ⟨p1, p2, p3, p4, p5⟩ := q4
    have nz : ¬ cnt = 0 := by omega
    obtain ⟨s1, s2⟩ := ga_some (h := 10 * l + mm) (c := c) ho hlb (by rw [hh]; rfl)
    rw [show (10 * l + mm) / 10 = l by omega] at s1
    rw [show (10 * l + mm) % 10 = mm by omega] at s2
    simp only [q119_0, q119_1, q119_3, q119_5, q119_8, q119_9, q119_10, q119_13, q119_14, q119_15, q119_18, q119_19, q119_23, q119_24, q119_27, q119_28, q119_29, q119_32, q119_33, q119_34, q119_36, q119_39, q119_40, q119_43, q119_44, q119_45, q119_47, q119_48, q119_49, q119_51, q119_54, q119_57, q119_60, q119_63, q119_64, q119_67, q119_68, q119_69, q119_72, q119_75, q119_76, q119_79, q119_80, q119_81, q119_84, q119_85, q119_86, q119_87, q119_90, q119_93, q119_94, q119_95, q119_96, q119_99, q119_100, q119_103, q119_105, q119_108, q119_111, q119_114, q119_115, q119_117, q119_119, q119_122, q119_123, q119_127, q119_129, q119_132, q119_133, q119_134, q119_137, q119_138, q119_139, q119_142, q119_143, q119_147, q119_148, q119_151, q119_152, q119_153, q119_156, q119_157, q119_158, q119_159, q119_160, q119_162, q119_165, q119_168, q119_169, q119_172, q119_173, q119_174, q119_175, q119_176, q119_178, q119_181, q119_184, q119_186, q119_189, q119_190, q119_191, q119_193, q119_194, q119_195, q119_197, q119_200, q119_203, q119_206, q119_209, q119_210, q119_213, q119_216, q119_217, q119_218, q119_219, q119_222, q119_223, q119_224, q119_225, q119_228, q119_230, q119_231, q119_232, q119_235, q119_236, q119_239, q119_241, q119_244, q119_247, q119_250, q119_253, q119_256, q119_e, sM_0 hM1, sM_r34 hM1, pm_rf_some, p1, zc, nz, if_false, ar27 hM1 hl, ar27 hM1 hm, nI_clamp (show l < 2 ^ 31 by omega), nI_clamp (show mm < 2 ^ 31 by omega), p3, p4]
    have eB : sp_addA (0, ga_N LB t c Ca 10, ga_A LB t c Ca (10 * l + mm), []) ((ga_N LB t c Ca l).length, (ga_N LB t c Ca mm).length, tt, some f, none) = (0, ga_N LB t c Ca 10, ga_A LB t c Ca (10 * l + mm + 1), []) := by
      have := ga_A_le (LB := LB) (t := t) (c := c) (Ca := Ca) (10 * l + mm)
      unfold sp_addA
      rw [if_neg (by show ¬ (ga_A LB t c Ca (10 * l + mm)).length = 120; omega), if_pos rfl, ga_A_s, hh, show (10 * l + mm) / 10 = l by omega, show (10 * l + mm) % 10 = mm by omega]
    refine gJ_arc (x := some f) (y := none) q2 (fun q => ?_) eB hg fun S' w1 w2 => ?_
    · have n1 := q3 q l hl
      have n2 := q3 q mm hm
      rw [if_pos s1] at n1
      rw [if_pos s2] at n2
      exact ⟨n1, n2⟩
    · simp only [pm_tl_none, q119_0, q119_1, q119_3, q119_5, q119_8, q119_9, q119_10, q119_13, q119_14, q119_15, q119_18, q119_19, q119_23, q119_24, q119_27, q119_28, q119_29, q119_32, q119_33, q119_34, q119_36, q119_39, q119_40, q119_43, q119_44, q119_45, q119_47, q119_48, q119_49, q119_51, q119_54, q119_57, q119_60, q119_63, q119_64, q119_67, q119_68, q119_69, q119_72, q119_75, q119_76, q119_79, q119_80, q119_81, q119_84, q119_85, q119_86, q119_87, q119_90, q119_93, q119_94, q119_95, q119_96, q119_99, q119_100, q119_103, q119_105, q119_108, q119_111, q119_114, q119_115, q119_117, q119_119, q119_122, q119_123, q119_127, q119_129, q119_132, q119_133, q119_134, q119_137, q119_138, q119_139, q119_142, q119_143, q119_147, q119_148, q119_151, q119_152, q119_153, q119_156, q119_157, q119_158, q119_159, q119_160, q119_162, q119_165, q119_168, q119_169, q119_172, q119_173, q119_174, q119_175, q119_176, q119_178, q119_181, q119_184, q119_186, q119_189, q119_190, q119_191, q119_193, q119_194, q119_195, q119_197, q119_200, q119_203, q119_206, q119_209, q119_210, q119_213, q119_216, q119_217, q119_218, q119_219, q119_222, q119_223, q119_224, q119_225, q119_228, q119_230, q119_231, q119_232, q119_235, q119_236, q119_239, q119_241, q119_244, q119_247, q119_250, q119_253, q119_256, q119_e, nI_1]
      exact hQ S' _ w1 (mN_fr q3 (fun q => q) w2 (fun l hl => by unfold mB; omega))
set_option maxHeartbeats 4000000 in
theorem m_gathered (hX : gX LB t c S0 m g) (hlb : sp_lb LB) (ho : sp_ok Ca) (hg : g < 24) (ha : a < 24) (hne : a ≠ g) (hR0 : mR S0 m a Ca) (hW : mW S0 S m g sp_0) (hQ : ∀ S' C, mW S0 S' m g C → C.1 = (sp_gat LB t c Ca).1 → (C.1 = 0 → C = sp_gat LB t c Ca) → Q none S') : pm_N (d + 2) 119 [.ref m, .int (nI g), .int (nI a)] S Q := by
  simp only [q119_0, q119_1, q119_3, q119_5, q119_8, q119_9, q119_10, q119_13, q119_14, q119_15, q119_18, q119_19, q119_21, q119_23, q119_24, q119_27, q119_28, q119_29, q119_32, q119_33, q119_34, q119_36, q119_39, q119_40, q119_43, q119_44, q119_45, q119_47, q119_48, q119_49, q119_51, q119_54, q119_57, q119_60, q119_63, q119_64, q119_67, q119_68, q119_69, q119_72, q119_75, q119_76, q119_79, q119_80, q119_81, q119_84, q119_85, q119_86, q119_87, q119_90, q119_93, q119_94, q119_95, q119_96, q119_99, q119_100, q119_103, q119_105, q119_108, q119_111, q119_114, q119_115, q119_116, q119_117, q119_119, q119_122, q119_123, q119_125, q119_127, q119_129, q119_132, q119_133, q119_134, q119_137, q119_138, q119_139, q119_142, q119_143, q119_145, q119_147, q119_148, q119_151, q119_152, q119_153, q119_156, q119_157, q119_158, q119_159, q119_160, q119_162, q119_165, q119_168, q119_169, q119_172, q119_173, q119_174, q119_175, q119_176, q119_178, q119_181, q119_184, q119_186, q119_189, q119_190, q119_191, q119_193, q119_194, q119_195, q119_197, q119_200, q119_203, q119_206, q119_209, q119_210, q119_213, q119_216, q119_217, q119_218, q119_219, q119_222, q119_223, q119_224, q119_225, q119_228, q119_230, q119_231, q119_232, q119_235, q119_236, q119_239, q119_241, q119_244, q119_247, q119_250, q119_253, q119_256, q119_e]
  refine m_gat_1 hX hlb hg ha hne hR0 ⟨sp_0, hW, fun _ => rfl, fun q => by cases q⟩ (fun S1 l4 hJ hN => ?_) _
  simp only [q119_0, q119_1, q119_2, q119_3, q119_5, q119_8, q119_9, q119_10, q119_13, q119_14, q119_15, q119_18, q119_19, q119_21, q119_23, q119_24, q119_27, q119_28, q119_29, q119_32, q119_33, q119_34, q119_36, q119_39, q119_40, q119_43, q119_44, q119_45, q119_47, q119_48, q119_49, q119_51, q119_54, q119_57, q119_60, q119_63, q119_64, q119_67, q119_68, q119_69, q119_72, q119_75, q119_76, q119_79, q119_80, q119_81, q119_84, q119_85, q119_86, q119_87, q119_90, q119_93, q119_94, q119_95, q119_96, q119_99, q119_100, q119_103, q119_105, q119_108, q119_111, q119_114, q119_115, q119_117, q119_119, q119_122, q119_123, q119_125, q119_127, q119_129, q119_132, q119_133, q119_134, q119_137, q119_138, q119_139, q119_142, q119_143, q119_145, q119_147, q119_148, q119_151, q119_152, q119_153, q119_156, q119_157, q119_158, q119_159, q119_160, q119_162, q119_165, q119_168, q119_169, q119_172, q119_173, q119_174, q119_175, q119_176, q119_178, q119_181, q119_184, q119_186, q119_189, q119_190, q119_191, q119_193, q119_194, q119_195, q119_197, q119_200, q119_203, q119_206, q119_209, q119_210, q119_213, q119_216, q119_217, q119_218, q119_219, q119_222, q119_223, q119_224, q119_225, q119_228, q119_230, q119_231, q119_232, q119_235, q119_236, q119_239, q119_241, q119_244, q119_247, q119_250, q119_253, q119_256, q119_e]
  have f0 : gF LB t c Ca 0 = hp_g c (ga_kn LB t) (ga_vn Ca) Ca.2.1.length 10 := by
    unfold gF
    rw [show hp_g c (ga_ka LB t Ca) (ga_va Ca) Ca.2.2.1.length 0 = false from rfl, Bool.or_false]
  have key : ∀ l4 l5, pm_V (d + 2) 119 116 [.ref m, .int (nI g), .int (nI a), .int (nI 0), l4, l5] [] S1 Q := by
    refine lp (n := 10) (Inv := fun l S => gJ S0 S m g (gF LB t c Ca (10 * l)) (0, ga_N LB t c Ca 10, ga_A LB t c Ca (10 * l), []) ∧ mN LB t c Ca S m 10 (gF LB t c Ca (10 * l))) (head := fun l S => ∀ l4 l5, pm_V (d + 2) 119 116 [.ref m, .int (nI g), .int (nI a), .int (nI l), l4, l5] [] S Q) ?_ ?_ S1 ⟨by rw [Nat.mul_zero, f0]; exact hJ, by rw [Nat.mul_zero, f0]; exact hN⟩
    · rintro l S hl ⟨hJ, hN⟩ hNx l4 l5
      have e1 : nI l < 10 := nI_lt (b := 10) hl (by decide)
      rw [q119_116]
      simp only [q119_0, q119_1, q119_3, q119_5, q119_8, q119_9, q119_10, q119_13, q119_14, q119_15, q119_18, q119_19, q119_23, q119_24, q119_27, q119_28, q119_29, q119_32, q119_33, q119_34, q119_36, q119_39, q119_40, q119_43, q119_44, q119_45, q119_47, q119_48, q119_49, q119_51, q119_54, q119_57, q119_60, q119_63, q119_64, q119_67, q119_68, q119_69, q119_72, q119_75, q119_76, q119_79, q119_80, q119_81, q119_84, q119_85, q119_86, q119_87, q119_90, q119_93, q119_94, q119_95, q119_96, q119_99, q119_100, q119_103, q119_105, q119_108, q119_111, q119_114, q119_115, q119_117, q119_119, q119_122, q119_123, q119_127, q119_129, q119_132, q119_133, q119_134, q119_137, q119_138, q119_139, q119_142, q119_143, q119_147, q119_148, q119_151, q119_152, q119_153, q119_156, q119_157, q119_158, q119_159, q119_160, q119_162, q119_165, q119_168, q119_169, q119_172, q119_173, q119_174, q119_175, q119_176, q119_178, q119_181, q119_184, q119_186, q119_189, q119_190, q119_191, q119_193, q119_194, q119_195, q119_197, q119_200, q119_203, q119_206, q119_209, q119_210, q119_213, q119_216, q119_217, q119_218, q119_219, q119_222, q119_223, q119_224, q119_225, q119_228, q119_230, q119_231, q119_232, q119_235, q119_236, q119_239, q119_241, q119_244, q119_247, q119_250, q119_253, q119_256, q119_e, e1, if_true]
      have key2 : ∀ l5, pm_V (d + 2) 119 125 [.ref m, .int (nI g), .int (nI a), .int (nI l), .int (nI 0), l5] [] S Q := by
        refine lp (n := 10) (Inv := fun mm S => gJ S0 S m g (gF LB t c Ca (10 * l + mm)) (0, ga_N LB t c Ca 10, ga_A LB t c Ca (10 * l + mm), []) ∧ mN LB t c Ca S m 10 (gF LB t c Ca (10 * l + mm))) (head := fun mm S => ∀ l5, pm_V (d + 2) 119 125 [.ref m, .int (nI g), .int (nI a), .int (nI l), .int (nI mm), l5] [] S Q) ?_ ?_ S ⟨hJ, hN⟩
        · rintro mm S hm ⟨hJ, hN⟩ hNx l5
          exact m_gat_p hX hlb ho hg ha hne hR0 hl hm hJ hN fun S' l5 w1 w2 => hNx S' ⟨w1, w2⟩ l5
        · rintro S ⟨hJ, hN⟩ l5
          rw [q119_125]
          simp only [q119_0, q119_1, q119_3, q119_5, q119_8, q119_9, q119_10, q119_13, q119_14, q119_15, q119_18, q119_19, q119_23, q119_24, q119_27, q119_28, q119_29, q119_32, q119_33, q119_34, q119_36, q119_39, q119_40, q119_43, q119_44, q119_45, q119_47, q119_48, q119_49, q119_51, q119_54, q119_57, q119_60, q119_63, q119_64, q119_67, q119_68, q119_69, q119_72, q119_75, q119_76, q119_79, q119_80, q119_81, q119_84, q119_85, q119_86, q119_87, q119_90, q119_93, q119_94, q119_95, q119_96, q119_99, q119_100, q119_103, q119_105, q119_108, q119_111, q119_114, q119_115, q119_117, q119_119, q119_122, q119_123, q119_127, q119_129, q119_132, q119_133, q119_134, q119_137, q119_138, q119_139, q119_142, q119_143, q119_147, q119_148, q119_151, q119_152, q119_153, q119_156, q119_157, q119_158, q119_159, q119_160, q119_162, q119_165, q119_168, q119_169, q119_172, q119_173, q119_174, q119_175, q119_176, q119_178, q119_181, q119_184, q119_186, q119_189, q119_190, q119_191, q119_193, q119_194, q119_195, q119_197, q119_200, q119_203, q119_206, q119_209, q119_210, q119_213, q119_216, q119_217, q119_218, q119_219, q119_222, q119_223, q119_224, q119_225, q119_228, q119_230, q119_231, q119_232, q119_235, q119_236, q119_239, q119_241, q119_244, q119_247, q119_250, q119_253, q119_256, q119_e, show ¬ nI 10 < 10 by decide, if_false, nI_1]
          exact hNx S ⟨hJ, hN⟩ _ _
      exact key2 _
    · rintro S ⟨⟨C, h1, h2, h3⟩, hN⟩ l4 l5
      rw [q119_116]
      simp only [q119_0, q119_1, q119_3, q119_5, q119_8, q119_9, q119_10, q119_13, q119_14, q119_15, q119_18, q119_19, q119_23, q119_24, q119_27, q119_28, q119_29, q119_32, q119_33, q119_34, q119_36, q119_39, q119_40, q119_43, q119_44, q119_45, q119_47, q119_48, q119_49, q119_51, q119_54, q119_57, q119_60, q119_63, q119_64, q119_67, q119_68, q119_69, q119_72, q119_75, q119_76, q119_79, q119_80, q119_81, q119_84, q119_85, q119_86, q119_87, q119_90, q119_93, q119_94, q119_95, q119_96, q119_99, q119_100, q119_103, q119_105, q119_108, q119_111, q119_114, q119_115, q119_117, q119_119, q119_122, q119_123, q119_127, q119_129, q119_132, q119_133, q119_134, q119_137, q119_138, q119_139, q119_142, q119_143, q119_147, q119_148, q119_151, q119_152, q119_153, q119_156, q119_157, q119_158, q119_159, q119_160, q119_162, q119_165, q119_168, q119_169, q119_172, q119_173, q119_174, q119_175, q119_176, q119_178, q119_181, q119_184, q119_186, q119_189, q119_190, q119_191, q119_193, q119_194, q119_195, q119_197, q119_200, q119_203, q119_206, q119_209, q119_210, q119_213, q119_216, q119_217, q119_218, q119_219, q119_222, q119_223, q119_224, q119_225, q119_228, q119_230, q119_231, q119_232, q119_235, q119_236, q119_239, q119_241, q119_244, q119_247, q119_250, q119_253, q119_256, q119_e, show ¬ nI 10 < 10 by decide, if_false]
      have ef : gF LB t c Ca (10 * 10) = (ga_tN LB t c Ca || ga_tA LB t c Ca) := by
        unfold gF ga_tN ga_tA
        rw [hp_g_t (key := ga_kn LB t) (fun i l _ q => hlb t i l q), hp_g_t (key := ga_ka LB t Ca)]
        intro i l _ q
        unfold ga_ka at q
        split at q
        · next x y q1 q2 =>
          have := hlb t _ x q1
          have := hlb t _ y q2
          cases q
          omega
        · cases q
      rw [ef] at h2 h3
      cases hf : (ga_tN LB t c Ca || ga_tA LB t c Ca) with
      | false =>
        have e := h2 hf
        have : sp_gat LB t c Ca = C := by unfold sp_gat; rw [hf, e]; rfl
        exact hQ S C h1 (by rw [this]) (fun _ => this.symm)
      | true =>
        have e := h3 hf
        exact hQ S C h1 (by rw [e]; unfold sp_gat; rw [hf]; rfl) (fun q => by omega)
  exact key _ _
end
