/-! ===== the class: GATHERED, end ===== -/
section
variable {d r w a b g n k : Nat} {S : pm_T} {Q : Option Value → pm_T → Prop} {Ca : sp_C} {LB : Nat → Nat → Option Nat} {t c : Nat}
/-- what gathering changes -/
def gP2 (r w : Nat) : Nat → Prop := fun b => (w ≤ b ∧ b < w + 15) ∨ (r + 11 ≤ b ∧ b < r + 16)
theorem gP_2 {r w b : Nat} (h : gP r w b) : gP2 r w b := by unfold gP at h; unfold gP2; omega
theorem c_long_q {f : Nat} {ns : List sp_N} {as : List sp_A} {tl : Bool} {H : Nat → hp_T} (hd : gD r w a) (hS : gS S r w a Ca LB t c) (hH : hR S (r + 11) H tl) (hC : cQ S w f ns as []) (hp : ga_pl LB t c Ca S r 10)
    (hQ : ∀ S', gS S' r w a Ca LB t c → cQ S' w (if tl = true then 3 else f) ns as [] → ga_pl LB t c Ca S' r 10 → sp_fr (gP2 r w) S S' → Q none S') : pm_N d 43 [.ref r, .ref w] S Q := by
  rw [c_tooLong hS.1 hS.2.1, hH.2.2]
  cases tl
  · simp only [Bool.false_eq_true, if_false, if_true]
    exact hQ S hS (by simpa using hC) hp sp_fr.rf
  · simp only [if_true, show ¬ (1 : Int32) = 0 by decide, if_false]
    have f : sp_fr (gP2 r w) S (pm_sgi S w 5 3) := sp_fr.gi (Or.inl ⟨by omega, by omega⟩) (fun _ => rfl)
    exact hQ _ (gS_5 hS hd) (by rw [if_pos rfl]; exact cQ_f (f' := 3) hC) hp f
set_option maxHeartbeats 2000000 in
theorem c_gatherNodes (hd : gD r w a) (ht : t < 4) (hc : c < 3) (hlb : sp_lb LB) (h0 : Ca.1 = 0) (hS : gS S r w a Ca LB t c) (hC : cQ S w 0 [] [] [])
    (hQ : ∀ S', gS S' r w a Ca LB t c → cQ S' w (if ga_tN LB t c Ca = true then 3 else 0) (ga_N LB t c Ca 10) [] [] → ga_pl LB t c Ca S' r 10 → sp_fr (gP2 r w) S S' → Q none S') : pm_N (d + 3) 41 [.ref r, .ref w, .ref a] S Q := by
  obtain ⟨h1, h2, h3, h4, h5, h6, h7⟩ := id hS
  obtain ⟨d1, d2, d3⟩ := id hd
  have e2 := pm_ar_nI h1.2.2.2.2.2.2.2.2.1 ht (by decide)
  simp only [q41_0, q41_1, q41_4, q41_4N, q41_5, q41_8, q41_8r, q41_9, q41_9N, q41_10, q41_11, q41_14, q41_17, q41_18, q41_22, q41_22N, q41_23, q41_26, q41_29, q41_32, q41_33, q41_36, q41_36N, q41_37, q41_39, q41_40, q41_42, q41_42N, q41_43, q41_46, q41_49, q41_51, q41_52, q41_52N, q41_53, q41_56, q41_59, q41_62, q41_66, q41_70, q41_72, q41_75, q41_76, q41_79, q41_81, q41_82, q41_83, q41_84, q41_87, q41_89, q41_92, q41_95, q41_96, q41_99, q41_101, q41_101N, q41_102, q41_105, q41_108, q41_109, q41_109N, q41_110, q41_111, q41_114, q41_117, q41_119, q41_120, q41_121, q41_124, q41_127, q41_129, q41_130, q41_131, q41_134, q41_137, q41_141, q41_141N, q41_142, q41_145, q41_e, h1.1, h1.2.2.1, h1.2.2.2.1, pm_rf_some, h2.1, h6, e2, nI_clamp (show t < 2 ^ 31 by omega), (h1.2.2.2.2.2.2.2.2.2.1 t ht).1, h1.2.2.2.2.2.2.2.1.1]
  refine c_hBegin h1.2.2.2.2.2.2.2.1 fun S1 q1 f1 => ?_
  simp only [pm_tl_none, q41_0, q41_1, q41_4, q41_4N, q41_5, q41_8, q41_8r, q41_9, q41_9N, q41_10, q41_11, q41_14, q41_17, q41_18, q41_22, q41_22N, q41_23, q41_26, q41_29, q41_32, q41_33, q41_36, q41_36N, q41_37, q41_39, q41_40, q41_42, q41_42N, q41_43, q41_46, q41_49, q41_51, q41_52, q41_52N, q41_53, q41_56, q41_59, q41_62, q41_66, q41_70, q41_72, q41_75, q41_76, q41_79, q41_81, q41_82, q41_83, q41_84, q41_87, q41_89, q41_92, q41_95, q41_96, q41_99, q41_101, q41_101N, q41_102, q41_105, q41_108, q41_109, q41_109N, q41_110, q41_111, q41_114, q41_117, q41_119, q41_120, q41_121, q41_124, q41_127, q41_129, q41_130, q41_131, q41_134, q41_137, q41_141, q41_141N, q41_142, q41_145, q41_e]
  have x1 := gS_fr hS f1 hd (fun b hb => by unfold cP at hb; unfold gP; omega)
  refine c_gatN_1 hd ht hc hlb h0 x1 q1 fun S2 x2 q2 f2 => ?_
  simp only [q41_0, q41_1, q41_4, q41_4N, q41_5, q41_8, q41_8r, q41_9, q41_9N, q41_10, q41_11, q41_14, q41_17, q41_18, q41_22, q41_22N, q41_23, q41_26, q41_29, q41_32, q41_33, q41_36, q41_36N, q41_37, q41_39, q41_40, q41_42, q41_42N, q41_43, q41_46, q41_49, q41_51, q41_52, q41_52N, q41_53, q41_56, q41_59, q41_62, q41_65, q41_66, q41_70, q41_72, q41_75, q41_76, q41_79, q41_81, q41_82, q41_83, q41_84, q41_87, q41_89, q41_92, q41_95, q41_96, q41_99, q41_101, q41_101N, q41_102, q41_105, q41_108, q41_109, q41_109N, q41_110, q41_111, q41_114, q41_117, q41_119, q41_120, q41_121, q41_124, q41_127, q41_129, q41_130, q41_131, q41_134, q41_137, q41_141, q41_141N, q41_142, q41_145, q41_e]
  have c2 := cQ_fr (cQ_fr hC f1 (fun b hb hw => by unfold cP at hw; unfold cB at hb; omega)) f2 (fun b hb hw => by unfold cP at hw; unfold cB at hb; omega)
  refine c_gatN_2 hd ht hc h0 x2 q2 c2 fun S3 x3 q3 c3 p3 f3 => ?_
  simp only [q41_0, q41_1, q41_4, q41_4N, q41_5, q41_8, q41_8r, q41_9, q41_9N, q41_10, q41_11, q41_14, q41_17, q41_18, q41_22, q41_22N, q41_23, q41_26, q41_29, q41_32, q41_33, q41_36, q41_36N, q41_37, q41_39, q41_40, q41_42, q41_42N, q41_43, q41_46, q41_49, q41_51, q41_52, q41_52N, q41_53, q41_56, q41_59, q41_62, q41_65, q41_66, q41_70, q41_72, q41_75, q41_76, q41_79, q41_81, q41_82, q41_83, q41_84, q41_87, q41_89, q41_92, q41_95, q41_96, q41_99, q41_101, q41_101N, q41_102, q41_105, q41_108, q41_109, q41_109N, q41_110, q41_111, q41_114, q41_117, q41_119, q41_120, q41_121, q41_124, q41_127, q41_129, q41_130, q41_131, q41_134, q41_137, q41_140, q41_141, q41_141N, q41_142, q41_145, q41_e, x3.1.1]
  refine c_long_q hd x3 q3 c3 p3 fun S4 x4 c4 p4 f4 => ?_
  simp only [pm_tl_none, q41_0, q41_1, q41_4, q41_4N, q41_5, q41_8, q41_8r, q41_9, q41_9N, q41_10, q41_11, q41_14, q41_17, q41_18, q41_22, q41_22N, q41_23, q41_26, q41_29, q41_32, q41_33, q41_36, q41_36N, q41_37, q41_39, q41_40, q41_42, q41_42N, q41_43, q41_46, q41_49, q41_51, q41_52, q41_52N, q41_53, q41_56, q41_59, q41_62, q41_65, q41_66, q41_70, q41_72, q41_75, q41_76, q41_79, q41_81, q41_82, q41_83, q41_84, q41_87, q41_89, q41_92, q41_95, q41_96, q41_99, q41_101, q41_101N, q41_102, q41_105, q41_108, q41_109, q41_109N, q41_110, q41_111, q41_114, q41_117, q41_119, q41_120, q41_121, q41_124, q41_127, q41_129, q41_130, q41_131, q41_134, q41_137, q41_140, q41_141, q41_141N, q41_142, q41_145, q41_e]
  refine hQ S4 x4 c4 p4 ?_
  exact (((f1.tr f2).mono (fun b hb => by unfold cP at hb; unfold gP2; omega)).tr (f3.mono (fun b hb => gP_2 hb))).tr f4
set_option maxHeartbeats 2000000 in
theorem c_gatA_1 {l5 l6 : Value} (hd : gD r w a) (ht : t < 4) (hc : c < 3) (hlb : sp_lb LB) (ho : sp_ok Ca) (h0 : Ca.1 = 0) (hS : gS S r w a Ca LB t c) (hH : hR S (r + 11) (fun _ => none) false)
    (hQ : ∀ S' l5 l6, gS S' r w a Ca LB t c → hR S' (r + 11) (ga_hA LB t c Ca) (ga_tA LB t c Ca) → sp_fr (cP (r + 11)) S S' → pm_V (d + 3) 42 103 [.ref r, .ref w, .ref a, .ref (r + 7 + t), .int (nI Ca.2.2.1.length), l5, l6] [] S' Q) :
    pm_V (d + 3) 42 20 [.ref r, .ref w, .ref a, .ref (r + 7 + t), .int (nI 0), l5, l6] [] S Q := by
  refine sp_loop (n := Ca.2.2.1.length) (P := cP (r + 11)) (Inv := fun k S => gS S r w a Ca LB t c ∧ hR S (r + 11) (fun l => hp_h c (ga_ka LB t Ca) (ga_va Ca) l k) (hp_t c (ga_ka LB t Ca) (ga_va Ca) k)) (head := fun k S => ∀ l5 l6, pm_V (d + 3) 42 20 [.ref r, .ref w, .ref a, .ref (r + 7 + t), .int (nI k), l5, l6] [] S Q) (fin := fun S => ∀ l5 l6, pm_V (d + 3) 42 103 [.ref r, .ref w, .ref a, .ref (r + 7 + t), .int (nI Ca.2.2.1.length), l5, l6] [] S Q) ?_ ?_ S ⟨hS, hH⟩ (fun S' q1 q2 l5 l6 => hQ S' l5 l6 q1.1 q1.2 q2) l5 l6
  · intro k S hk ⟨hS, hH⟩ _ hN l5 l6
    obtain ⟨h1, h2, h3, h4, h5, h6, h7⟩ := id hS
    have hn := cC_n h4 h0
    have hm := cC_m h4 h0
    have o := ho k hk
    have e1 : nI k < nI Ca.2.2.1.length := nI_lt hk (by omega)
    have hk2 : k < 120 := by omega
    have b1 : (sp_ar Ca k).1 < 40 := by omega
    have b2 : (sp_ar Ca k).2.1 < 40 := by omega
    have e2 := pm_ar_nI (h1.2.2.2.2.2.2.2.2.2.1 t ht).2 b1 (by decide)
    have e3 := pm_ar_nI (h1.2.2.2.2.2.2.2.2.2.1 t ht).2 b2 (by decide)
    have er := cC_ae h4 h0 hk
    rw [q42_20]
    simp only [q42_0, q42_1, q42_4, q42_4N, q42_5, q42_8, q42_8r, q42_9, q42_9N, q42_10, q42_11, q42_14, q42_17, q42_18, q42_22, q42_22N, q42_23, q42_26, q42_29, q42_32, q42_32N, q42_33, q42_33N, q42_34, q42_37, q42_39, q42_40, q42_41, q42_43, q42_43N, q42_44, q42_44N, q42_45, q42_48, q42_50, q42_51, q42_52, q42_54, q42_56, q42_57, q42_60, q42_62, q42_63, q42_66, q42_67, q42_70, q42_72, q42_74, q42_75, q42_77, q42_78, q42_80, q42_80N, q42_81, q42_84, q42_87, q42_89, q42_90, q42_90N, q42_91, q42_94, q42_97, q42_100, q42_104, q42_108, q42_110, q42_113, q42_114, q42_117, q42_119, q42_122, q42_125, q42_126, q42_129, q42_131, q42_133, q42_134, q42_135, q42_137, q42_138, q42_141, q42_143, q42_145, q42_146, q42_147, q42_149, q42_149N, q42_150, q42_152, q42_154, q42_155, q42_158, q42_161, q42_163, q42_164, q42_165, q42_168, q42_171, q42_173, q42_174, q42_175, q42_178, q42_181, q42_184, q42_185, q42_185N, q42_186, q42_189, q42_e, h3.1, h3.2.1, h3.2.2.1, h3.2.2.2.1, h3.2.2.2.2.1, h3.2.2.2.2.2.1, h3.2.2.2.2.2.2.2.2.1.1, h3.2.2.2.2.2.2.2.2.1.2.1, h3.2.2.2.2.2.2.2.2.1.2.2.1, h3.2.2.2.2.2.2.2.2.1.2.2.2.1, h3.2.2.2.2.2.2.2.2.2.1.1, h3.2.2.2.2.2.2.2.2.2.1.2.1, h3.2.2.2.2.2.2.2.2.2.1.2.2.1, h3.2.2.2.2.2.2.2.2.2.1.2.2.2.1, h3.2.2.2.2.2.2.2.2.2.2.1, h3.2.2.2.2.2.2.2.2.2.2.2.1, h3.2.2.2.2.2.2.2.2.2.2.2.2.1, h3.2.2.2.2.2.2.2.2.2.2.2.2.2.1, pm_rf_some, hm.1, e1, if_true, h1.1, h1.2.2.2.1, e2, e3, gr9 h3 hk2, gr10 h3 hk2, gr6 h3 hk2, gr7 h3 hk2, gr8 h3 hk2, nc12 hk2, nc4 b1, nc4 b2, er.1, er.2.1, er.2.2, h5 t _ ht b1, h5 t _ ht b2, h2.1, h7, h1.2.2.2.2.2.2.2.1.1]
    have no : ga_ka LB t Ca k = none → ∀ l5 l6, pm_V (d + 3) 42 20 [.ref r, .ref w, .ref a, .ref (r + 7 + t), .int (nI (k + 1)), l5, l6] [] S Q := by
      intro hl
      refine hN _ ⟨hS, ?_⟩ sp_fr.rf
      rw [hp_h_no hl, hp_t_no hl]
      exact hH
    cases hx : LB t (sp_ar Ca k).1 with
    | none =>
      simp only [sp_eC, if_true, q42_0, q42_1, q42_4, q42_4N, q42_5, q42_8, q42_8r, q42_9, q42_9N, q42_10, q42_11, q42_14, q42_17, q42_18, q42_22, q42_22N, q42_23, q42_26, q42_29, q42_32, q42_32N, q42_33, q42_33N, q42_34, q42_37, q42_39, q42_40, q42_41, q42_43, q42_43N, q42_44, q42_44N, q42_45, q42_48, q42_50, q42_51, q42_52, q42_54, q42_56, q42_57, q42_60, q42_62, q42_63, q42_66, q42_67, q42_70, q42_72, q42_74, q42_75, q42_77, q42_78, q42_80, q42_80N, q42_81, q42_84, q42_87, q42_89, q42_90, q42_90N, q42_91, q42_94, q42_97, q42_100, q42_104, q42_108, q42_110, q42_113, q42_114, q42_117, q42_119, q42_122, q42_125, q42_126, q42_129, q42_131, q42_133, q42_134, q42_135, q42_137, q42_138, q42_141, q42_143, q42_145, q42_146, q42_147, q42_149, q42_149N, q42_150, q42_152, q42_154, q42_155, q42_158, q42_161, q42_163, q42_164, q42_165, q42_168, q42_171, q42_173, q42_174, q42_175, q42_178, q42_181, q42_184, q42_185, q42_185N, q42_186, q42_189, q42_e, nI_1]
      exact no (by unfold ga_ka; rw [hx]) _ _
    | some x =>
      have hx9 := hlb _ _ _ hx
      cases hy : LB t (sp_ar Ca k).2.1 with
      | none =>
        simp only [sp_eC, nI_m1 (show x < 2 ^ 31 by omega), if_false, if_true, q42_0, q42_1, q42_4, q42_4N, q42_5, q42_8, q42_8r, q42_9, q42_9N, q42_10, q42_11, q42_14, q42_17, q42_18, q42_22, q42_22N, q42_23, q42_26, q42_29, q42_32, q42_32N, q42_33, q42_33N, q42_34, q42_37, q42_39, q42_40, q42_41, q42_43, q42_43N, q42_44, q42_44N, q42_45, q42_48, q42_50, q42_51, q42_52, q42_54, q42_56, q42_57, q42_60, q42_62, q42_63, q42_66, q42_67, q42_70, q42_72, q42_74, q42_75, q42_77, q42_78, q42_80, q42_80N, q42_81, q42_84, q42_87, q42_89, q42_90, q42_90N, q42_91, q42_94, q42_97, q42_100, q42_104, q42_108, q42_110, q42_113, q42_114, q42_117, q42_119, q42_122, q42_125, q42_126, q42_129, q42_131, q42_133, q42_134, q42_135, q42_137, q42_138, q42_141, q42_143, q42_145, q42_146, q42_147, q42_149, q42_149N, q42_150, q42_152, q42_154, q42_155, q42_158, q42_161, q42_163, q42_164, q42_165, q42_168, q42_171, q42_173, q42_174, q42_175, q42_178, q42_181, q42_184, q42_185, q42_185N, q42_186, q42_189, q42_e, nI_1]
        exact no (by unfold ga_ka; rw [hx, hy]) _ _
      | some y =>
        have hy9 := hlb _ _ _ hy
        have em : nI x * 10 + nI y = nI (10 * x + y) := by rw [show (10 : Int32) = nI 10 from rfl, pk_mul, nI_add, Nat.mul_comm]
        have e : ga_ka LB t Ca k = some (10 * x + y) := by unfold ga_ka; rw [hx, hy]
        simp only [sp_eC, nI_m1 (show x < 2 ^ 31 by omega), nI_m1 (show y < 2 ^ 31 by omega), if_false, em]
        refine c_put hH (show 10 * x + y < 100 by omega) hk2 hc fun S' q1 q2 => ?_
        simp only [pm_tl_none, q42_0, q42_1, q42_4, q42_4N, q42_5, q42_8, q42_8r, q42_9, q42_9N, q42_10, q42_11, q42_14, q42_17, q42_18, q42_22, q42_22N, q42_23, q42_26, q42_29, q42_32, q42_32N, q42_33, q42_33N, q42_34, q42_37, q42_39, q42_40, q42_41, q42_43, q42_43N, q42_44, q42_44N, q42_45, q42_48, q42_50, q42_51, q42_52, q42_54, q42_56, q42_57, q42_60, q42_62, q42_63, q42_66, q42_67, q42_70, q42_72, q42_74, q42_75, q42_77, q42_78, q42_80, q42_80N, q42_81, q42_84, q42_87, q42_89, q42_90, q42_90N, q42_91, q42_94, q42_97, q42_100, q42_104, q42_108, q42_110, q42_113, q42_114, q42_117, q42_119, q42_122, q42_125, q42_126, q42_129, q42_131, q42_133, q42_134, q42_135, q42_137, q42_138, q42_141, q42_143, q42_145, q42_146, q42_147, q42_149, q42_149N, q42_150, q42_152, q42_154, q42_155, q42_158, q42_161, q42_163, q42_164, q42_165, q42_168, q42_171, q42_173, q42_174, q42_175, q42_178, q42_181, q42_184, q42_185, q42_185N, q42_186, q42_189, q42_e, nI_1]
        refine hN _ ⟨gS_fr hS q2 hd (fun b hb => by unfold cP at hb; unfold gP; omega), ?_⟩ q2 _ _
        have q1' : hR S' (r + 11) (fun j => if j = 10 * x + y then hp_in c (hp_h c (ga_ka LB t Ca) (ga_va Ca) (10 * x + y) k) k (ga_va Ca k) else hp_h c (ga_ka LB t Ca) (ga_va Ca) j k) (hp_t c (ga_ka LB t Ca) (ga_va Ca) k || hp_ov c (hp_h c (ga_ka LB t Ca) (ga_va Ca) (10 * x + y) k) (ga_va Ca k)) := q1
        rw [hp_h_put e, ← hp_t_put e] at q1'
        exact q1'
  · intro S ⟨hS, hH⟩ hF l5 l6
    obtain ⟨h1, h2, h3, h4, h5, h6, h7⟩ := id hS
    have hm := cC_m h4 h0
    have e1 : ¬ nI Ca.2.2.1.length < nI Ca.2.2.1.length := nI_nlt (by omega) (by omega)
    rw [q42_20]
    simp only [q42_0, q42_1, q42_4, q42_4N, q42_5, q42_8, q42_8r, q42_9, q42_9N, q42_10, q42_11, q42_14, q42_17, q42_18, q42_22, q42_22N, q42_23, q42_26, q42_29, q42_32, q42_32N, q42_33, q42_33N, q42_34, q42_37, q42_39, q42_40, q42_41, q42_43, q42_43N, q42_44, q42_44N, q42_45, q42_48, q42_50, q42_51, q42_52, q42_54, q42_56, q42_57, q42_60, q42_62, q42_63, q42_66, q42_67, q42_70, q42_72, q42_74, q42_75, q42_77, q42_78, q42_80, q42_80N, q42_81, q42_84, q42_87, q42_89, q42_90, q42_90N, q42_91, q42_94, q42_97, q42_100, q42_104, q42_108, q42_110, q42_113, q42_114, q42_117, q42_119, q42_122, q42_125, q42_126, q42_129, q42_131, q42_133, q42_134, q42_135, q42_137, q42_138, q42_141, q42_143, q42_145, q42_146, q42_147, q42_149, q42_149N, q42_150, q42_152, q42_154, q42_155, q42_158, q42_161, q42_163, q42_164, q42_165, q42_168, q42_171, q42_173, q42_174, q42_175, q42_178, q42_181, q42_184, q42_185, q42_185N, q42_186, q42_189, q42_e, h3.1, h3.2.1, h3.2.2.1, h3.2.2.2.1, h3.2.2.2.2.1, h3.2.2.2.2.2.1, h3.2.2.2.2.2.2.2.2.1.1, h3.2.2.2.2.2.2.2.2.1.2.1, h3.2.2.2.2.2.2.2.2.1.2.2.1, h3.2.2.2.2.2.2.2.2.1.2.2.2.1, h3.2.2.2.2.2.2.2.2.2.1.1, h3.2.2.2.2.2.2.2.2.2.1.2.1, h3.2.2.2.2.2.2.2.2.2.1.2.2.1, h3.2.2.2.2.2.2.2.2.2.1.2.2.2.1, h3.2.2.2.2.2.2.2.2.2.2.1, h3.2.2.2.2.2.2.2.2.2.2.2.1, h3.2.2.2.2.2.2.2.2.2.2.2.2.1, h3.2.2.2.2.2.2.2.2.2.2.2.2.2.1, pm_rf_some, hm.1, e1, if_false]
    exact hF _ _
set_option maxHeartbeats 2000000 in
theorem c_gatA_2 {l5 l6 : Value} {f : Nat} (hd : gD r w a) (ht : t < 4) (hc : c < 3) (hlb : sp_lb LB) (ho : sp_ok Ca) (h0 : Ca.1 = 0) (hS : gS S r w a Ca LB t c) (hH : hR S (r + 11) (ga_hA LB t c Ca) (ga_tA LB t c Ca)) (hp : ga_pl LB t c Ca S r 10) (hC : cQ S w f (ga_N LB t c Ca 10) [] [])
    (hQ : ∀ S' l5 l6, gS S' r w a Ca LB t c → hR S' (r + 11) (ga_hA LB t c Ca) (ga_tA LB t c Ca) → cQ S' w f (ga_N LB t c Ca 10) (ga_A LB t c Ca 100) [] → ga_pl LB t c Ca S' r 10 → sp_fr (cB1 w) S S' → pm_V (d + 3) 42 184 [.ref r, .ref w, .ref a, .ref (r + 7 + t), .int (nI 100), l5, l6] [] S' Q) :
    pm_V (d + 3) 42 106 [.ref r, .ref w, .ref a, .ref (r + 7 + t), .int (nI 0), l5, l6] [] S Q := by
  refine sp_loop (n := 100) (P := cB1 w) (Inv := fun k S => gS S r w a Ca LB t c ∧ hR S (r + 11) (ga_hA LB t c Ca) (ga_tA LB t c Ca) ∧ cQ S w f (ga_N LB t c Ca 10) (ga_A LB t c Ca k) [] ∧ ga_pl LB t c Ca S r 10) (head := fun k S => ∀ l5 l6, pm_V (d + 3) 42 106 [.ref r, .ref w, .ref a, .ref (r + 7 + t), .int (nI k), l5, l6] [] S Q) (fin := fun S => ∀ l5 l6, pm_V (d + 3) 42 184 [.ref r, .ref w, .ref a, .ref (r + 7 + t), .int (nI 100), l5, l6] [] S Q) ?_ ?_ S ⟨hS, hH, hC, hp⟩ (fun S' q1 q2 l5 l6 => hQ S' l5 l6 q1.1 q1.2.1 q1.2.2.1 q1.2.2.2 q2) l5 l6
  · intro k S hk ⟨hS, hH, hC, hp⟩ _ hN l5 l6
    obtain ⟨h1, h2, h3, h4, h5, h6, h7⟩ := id hS
    obtain ⟨d1, d2, d3⟩ := id hd
    have e1 : nI k < 100 := nI_lt (b := 100) hk (by decide)
    have e3 := pm_ar_nI h1.2.2.2.2.2.2.2.1.2.2.2.1 hk (by decide)
    have e5 := pm_ar_nI h1.2.2.2.2.2.2.2.1.2.2.2.2 hk (by decide)
    have e4 := nI_clamp (show k < 2 ^ 31 by omega)
    rw [q42_106]
    simp only [q42_0, q42_1, q42_4, q42_4N, q42_5, q42_8, q42_8r, q42_9, q42_9N, q42_10, q42_11, q42_14, q42_17, q42_18, q42_22, q42_22N, q42_23, q42_26, q42_29, q42_32, q42_32N, q42_33, q42_33N, q42_34, q42_37, q42_39, q42_40, q42_41, q42_43, q42_43N, q42_44, q42_44N, q42_45, q42_48, q42_50, q42_51, q42_52, q42_54, q42_56, q42_57, q42_60, q42_62, q42_63, q42_66, q42_67, q42_70, q42_72, q42_74, q42_75, q42_77, q42_78, q42_80, q42_80N, q42_81, q42_84, q42_87, q42_89, q42_90, q42_90N, q42_91, q42_94, q42_97, q42_100, q42_104, q42_108, q42_110, q42_113, q42_114, q42_117, q42_119, q42_122, q42_125, q42_126, q42_129, q42_131, q42_133, q42_134, q42_135, q42_137, q42_138, q42_141, q42_143, q42_145, q42_146, q42_147, q42_149, q42_149N, q42_150, q42_152, q42_154, q42_155, q42_158, q42_161, q42_163, q42_164, q42_165, q42_168, q42_171, q42_173, q42_174, q42_175, q42_178, q42_181, q42_185, q42_185N, q42_186, q42_189, q42_e, e1, if_true, h1.1, h1.2.2.2.1, pm_rf_some, h1.2.2.2.2.2.2.2.1.1, c_hasAny hH hk, pm_tl_some]
    cases hh : ga_hA LB t c Ca k with
    | none =>
      simp only [Option.isSome_none, Bool.false_eq_true, if_false, if_true, q42_0, q42_1, q42_4, q42_4N, q42_5, q42_8, q42_8r, q42_9, q42_9N, q42_10, q42_11, q42_14, q42_17, q42_18, q42_22, q42_22N, q42_23, q42_26, q42_29, q42_32, q42_32N, q42_33, q42_33N, q42_34, q42_37, q42_39, q42_40, q42_41, q42_43, q42_43N, q42_44, q42_44N, q42_45, q42_48, q42_50, q42_51, q42_52, q42_54, q42_56, q42_57, q42_60, q42_62, q42_63, q42_66, q42_67, q42_70, q42_72, q42_74, q42_75, q42_77, q42_78, q42_80, q42_80N, q42_81, q42_84, q42_87, q42_89, q42_90, q42_90N, q42_91, q42_94, q42_97, q42_100, q42_104, q42_108, q42_110, q42_113, q42_114, q42_117, q42_119, q42_122, q42_125, q42_126, q42_129, q42_131, q42_133, q42_134, q42_135, q42_137, q42_138, q42_141, q42_143, q42_145, q42_146, q42_147, q42_149, q42_149N, q42_150, q42_152, q42_154, q42_155, q42_158, q42_161, q42_163, q42_164, q42_165, q42_168, q42_171, q42_173, q42_174, q42_175, q42_178, q42_181, q42_185, q42_185N, q42_186, q42_189, q42_e, nI_1]
      refine hN _ ⟨hS, hH, ?_, hp⟩ sp_fr.rf _ _
      have : ga_A LB t c Ca (k + 1) = ga_A LB t c Ca k := by rw [ga_A_s, hh]; simp
      rw [this]; exact hC
    | some q =>
      obtain ⟨fi, v⟩ := q
      have hw := hH.2.1 k (by omega)
      rw [hh] at hw
      obtain ⟨z1, z2⟩ := ga_some (h := k) ho hlb (by rw [hh]; rfl)
      have hle := ga_A_le (LB := LB) (t := t) (c := c) (Ca := Ca) k
      have b1 : k / 10 < 10 := by omega
      have b2 : k % 10 < 10 := by omega
      have p1 := hp _ b1
      have p2 := hp _ b2
      rw [if_pos z1] at p1
      rw [if_pos z2] at p2
      have y1 : nI k / 10 = nI (k / 10) := pk_div (d := 10) (by omega) (by decide) (by decide)
      have y2 : nI k - nI (k / 10) * 10 = nI (k % 10) := by rw [← y1]; exact pk_rem (d := 10) (by omega) (by decide) (by decide)
      have x1 := pm_ar_nI h1.2.2.2.2.2.2.2.2.2.2.1 (show k / 10 < 40 by omega) (by decide)
      have x2 := pm_ar_nI h1.2.2.2.2.2.2.2.2.2.2.1 (show k % 10 < 40 by omega) (by decide)
      obtain ⟨g1, g2⟩ := fG_arc_q (t := (ga_N LB t c Ca (k / 10)).length) (h := (ga_N LB t c Ca (k % 10)).length) (v := v) (x := some fi) (y := none) h2 hC (by omega)
      simp only [Option.isSome_some, show ¬ (1 : Int32) = 0 by decide, show ¬ (10 : Int32) = 0 by decide, if_false, if_true, not_false_eq_true, q42_0, q42_1, q42_4, q42_4N, q42_5, q42_8, q42_8r, q42_9, q42_9N, q42_10, q42_11, q42_14, q42_17, q42_18, q42_22, q42_22N, q42_23, q42_26, q42_29, q42_32, q42_32N, q42_33, q42_33N, q42_34, q42_37, q42_39, q42_40, q42_41, q42_43, q42_43N, q42_44, q42_44N, q42_45, q42_48, q42_50, q42_51, q42_52, q42_54, q42_56, q42_57, q42_60, q42_62, q42_63, q42_66, q42_67, q42_70, q42_72, q42_74, q42_75, q42_77, q42_78, q42_80, q42_80N, q42_81, q42_84, q42_87, q42_89, q42_90, q42_90N, q42_91, q42_94, q42_97, q42_100, q42_104, q42_108, q42_110, q42_113, q42_114, q42_117, q42_119, q42_122, q42_125, q42_126, q42_129, q42_131, q42_133, q42_134, q42_135, q42_137, q42_138, q42_141, q42_143, q42_145, q42_146, q42_147, q42_149, q42_149N, q42_150, q42_152, q42_154, q42_155, q42_158, q42_161, q42_163, q42_164, q42_165, q42_168, q42_171, q42_173, q42_174, q42_175, q42_178, q42_181, q42_185, q42_185N, q42_186, q42_189, q42_e, h1.1, h1.2.2.2.2.1, h1.2.2.2.1, h1.2.2.2.2.2.2.2.1.1, h1.2.2.2.2.2.2.2.1.2.1, h1.2.2.2.2.2.2.2.1.2.2.1, h2.1, h2.2.1, h2.2.2.1, h2.2.2.2.1, h2.2.2.2.2.1, h2.2.2.2.2.2.1, h2.2.2.2.2.2.2.2.2.1.1, h2.2.2.2.2.2.2.2.2.1.2.1, h2.2.2.2.2.2.2.2.2.1.2.2.1, h2.2.2.2.2.2.2.2.2.1.2.2.2.1, h2.2.2.2.2.2.2.2.2.2.1.1, h2.2.2.2.2.2.2.2.2.2.1.2.1, h2.2.2.2.2.2.2.2.2.2.1.2.2.1, h2.2.2.2.2.2.2.2.2.2.1.2.2.2.1, h2.2.2.2.2.2.2.2.2.2.2.1, h2.2.2.2.2.2.2.2.2.2.2.2.1, h2.2.2.2.2.2.2.2.2.2.2.2.2.1, h2.2.2.2.2.2.2.2.2.2.2.2.2.2.1, pm_rf_some, y1, y2, x1, x2, nI_clamp (show k / 10 < 2 ^ 31 by omega), nI_clamp (show k % 10 < 2 ^ 31 by omega), p1, p2, e3, e5, e4, hw.2.2, hw.2.1, c_addArc h2 hC.2.2.1.1 (by omega), pm_tl_none, nI_1]
      refine hN _ ⟨?_, ?_, ?_, ?_⟩ g2 _ _
      · exact gS_fr hS g2 hd (fun b hb => Or.inl hb)
      · exact hR_fr hH g2 (fun b hb hw => by unfold cP at hb; unfold cB1 at hw; omega)
      · have : ga_A LB t c Ca (k + 1) = ga_A LB t c Ca k ++ [((ga_N LB t c Ca (k / 10)).length, (ga_N LB t c Ca (k % 10)).length, v, some fi, none)] := by rw [ga_A_s, hh]
        rw [this]; exact g1
      · intro l hl
        refine ((g2.2.2.2.2.2 (r + 14) (by unfold cB1; omega)).2.2.1 l).trans (hp l hl)
  · intro S _ hF l5 l6
    rw [q42_106]
    simp only [q42_0, q42_1, q42_4, q42_4N, q42_5, q42_8, q42_8r, q42_9, q42_9N, q42_10, q42_11, q42_14, q42_17, q42_18, q42_22, q42_22N, q42_23, q42_26, q42_29, q42_32, q42_32N, q42_33, q42_33N, q42_34, q42_37, q42_39, q42_40, q42_41, q42_43, q42_43N, q42_44, q42_44N, q42_45, q42_48, q42_50, q42_51, q42_52, q42_54, q42_56, q42_57, q42_60, q42_62, q42_63, q42_66, q42_67, q42_70, q42_72, q42_74, q42_75, q42_77, q42_78, q42_80, q42_80N, q42_81, q42_84, q42_87, q42_89, q42_90, q42_90N, q42_91, q42_94, q42_97, q42_100, q42_104, q42_108, q42_110, q42_113, q42_114, q42_117, q42_119, q42_122, q42_125, q42_126, q42_129, q42_131, q42_133, q42_134, q42_135, q42_137, q42_138, q42_141, q42_143, q42_145, q42_146, q42_147, q42_149, q42_149N, q42_150, q42_152, q42_154, q42_155, q42_158, q42_161, q42_163, q42_164, q42_165, q42_168, q42_171, q42_173, q42_174, q42_175, q42_178, q42_181, q42_185, q42_185N, q42_186, q42_189, q42_e, show ¬ nI 100 < 100 by decide, if_false]
    exact hF _ _
set_option maxHeartbeats 2000000 in
theorem c_gatherArcs {f : Nat} (hd : gD r w a) (ht : t < 4) (hc : c < 3) (hlb : sp_lb LB) (ho : sp_ok Ca) (h0 : Ca.1 = 0) (hS : gS S r w a Ca LB t c) (hp : ga_pl LB t c Ca S r 10) (hC : cQ S w f (ga_N LB t c Ca 10) [] [])
    (hQ : ∀ S', gS S' r w a Ca LB t c → cQ S' w (if ga_tA LB t c Ca = true then 3 else f) (ga_N LB t c Ca 10) (ga_A LB t c Ca 100) [] → sp_fr (gP2 r w) S S' → Q none S') : pm_N (d + 3) 42 [.ref r, .ref w, .ref a] S Q := by
  obtain ⟨h1, h2, h3, h4, h5, h6, h7⟩ := id hS
  obtain ⟨d1, d2, d3⟩ := id hd
  have e2 := pm_ar_nI h1.2.2.2.2.2.2.2.2.1 ht (by decide)
  simp only [q42_0, q42_1, q42_4, q42_4N, q42_5, q42_8, q42_8r, q42_9, q42_9N, q42_10, q42_11, q42_14, q42_17, q42_18, q42_22, q42_22N, q42_23, q42_26, q42_29, q42_32, q42_32N, q42_33, q42_33N, q42_34, q42_37, q42_39, q42_40, q42_41, q42_43, q42_43N, q42_44, q42_44N, q42_45, q42_48, q42_50, q42_51, q42_52, q42_54, q42_56, q42_57, q42_60, q42_62, q42_63, q42_66, q42_67, q42_70, q42_72, q42_74, q42_75, q42_77, q42_78, q42_80, q42_80N, q42_81, q42_84, q42_87, q42_89, q42_90, q42_90N, q42_91, q42_94, q42_97, q42_100, q42_104, q42_108, q42_110, q42_113, q42_114, q42_117, q42_119, q42_122, q42_125, q42_126, q42_129, q42_131, q42_133, q42_134, q42_135, q42_137, q42_138, q42_141, q42_143, q42_145, q42_146, q42_147, q42_149, q42_149N, q42_150, q42_152, q42_154, q42_155, q42_158, q42_161, q42_163, q42_164, q42_165, q42_168, q42_171, q42_173, q42_174, q42_175, q42_178, q42_181, q42_185, q42_185N, q42_186, q42_189, q42_e, h1.1, h1.2.2.1, h1.2.2.2.1, pm_rf_some, h2.1, h6, e2, nI_clamp (show t < 2 ^ 31 by omega), (h1.2.2.2.2.2.2.2.2.2.1 t ht).1, h1.2.2.2.2.2.2.2.1.1]
  refine c_hBegin h1.2.2.2.2.2.2.2.1 fun S1 q1 f1 => ?_
  simp only [pm_tl_none, q42_0, q42_1, q42_4, q42_4N, q42_5, q42_8, q42_8r, q42_9, q42_9N, q42_10, q42_11, q42_14, q42_17, q42_18, q42_22, q42_22N, q42_23, q42_26, q42_29, q42_32, q42_32N, q42_33, q42_33N, q42_34, q42_37, q42_39, q42_40, q42_41, q42_43, q42_43N, q42_44, q42_44N, q42_45, q42_48, q42_50, q42_51, q42_52, q42_54, q42_56, q42_57, q42_60, q42_62, q42_63, q42_66, q42_67, q42_70, q42_72, q42_74, q42_75, q42_77, q42_78, q42_80, q42_80N, q42_81, q42_84, q42_87, q42_89, q42_90, q42_90N, q42_91, q42_94, q42_97, q42_100, q42_104, q42_108, q42_110, q42_113, q42_114, q42_117, q42_119, q42_122, q42_125, q42_126, q42_129, q42_131, q42_133, q42_134, q42_135, q42_137, q42_138, q42_141, q42_143, q42_145, q42_146, q42_147, q42_149, q42_149N, q42_150, q42_152, q42_154, q42_155, q42_158, q42_161, q42_163, q42_164, q42_165, q42_168, q42_171, q42_173, q42_174, q42_175, q42_178, q42_181, q42_185, q42_185N, q42_186, q42_189, q42_e]
  have x1 := gS_fr hS f1 hd (fun b hb => by unfold cP at hb; unfold gP; omega)
  refine c_gatA_1 hd ht hc hlb ho h0 x1 q1 fun S2 l5 l6 x2 q2 f2 => ?_
  simp only [q42_0, q42_1, q42_4, q42_4N, q42_5, q42_8, q42_8r, q42_9, q42_9N, q42_10, q42_11, q42_14, q42_17, q42_18, q42_22, q42_22N, q42_23, q42_26, q42_29, q42_32, q42_32N, q42_33, q42_33N, q42_34, q42_37, q42_39, q42_40, q42_41, q42_43, q42_43N, q42_44, q42_44N, q42_45, q42_48, q42_50, q42_51, q42_52, q42_54, q42_56, q42_57, q42_60, q42_62, q42_63, q42_66, q42_67, q42_70, q42_72, q42_74, q42_75, q42_77, q42_78, q42_80, q42_80N, q42_81, q42_84, q42_87, q42_89, q42_90, q42_90N, q42_91, q42_94, q42_97, q42_100, q42_103, q42_104, q42_108, q42_110, q42_113, q42_114, q42_117, q42_119, q42_122, q42_125, q42_126, q42_129, q42_131, q42_133, q42_134, q42_135, q42_137, q42_138, q42_141, q42_143, q42_145, q42_146, q42_147, q42_149, q42_149N, q42_150, q42_152, q42_154, q42_155, q42_158, q42_161, q42_163, q42_164, q42_165, q42_168, q42_171, q42_173, q42_174, q42_175, q42_178, q42_181, q42_185, q42_185N, q42_186, q42_189, q42_e]
  have c2 := cQ_fr (cQ_fr hC f1 (fun b hb hw => by unfold cP at hw; unfold cB at hb; omega)) f2 (fun b hb hw => by unfold cP at hw; unfold cB at hb; omega)
  have p2 : ga_pl LB t c Ca S2 r 10 := fun l hl => (((f1.tr f2).2.2.2.2.2 (r + 14) (by unfold cP; omega)).2.2.1 l).trans (hp l hl)
  refine c_gatA_2 hd ht hc hlb ho h0 x2 q2 p2 c2 fun S3 l5 l6 x3 q3 c3 p3 f3 => ?_
  simp only [q42_0, q42_1, q42_4, q42_4N, q42_5, q42_8, q42_8r, q42_9, q42_9N, q42_10, q42_11, q42_14, q42_17, q42_18, q42_22, q42_22N, q42_23, q42_26, q42_29, q42_32, q42_32N, q42_33, q42_33N, q42_34, q42_37, q42_39, q42_40, q42_41, q42_43, q42_43N, q42_44, q42_44N, q42_45, q42_48, q42_50, q42_51, q42_52, q42_54, q42_56, q42_57, q42_60, q42_62, q42_63, q42_66, q42_67, q42_70, q42_72, q42_74, q42_75, q42_77, q42_78, q42_80, q42_80N, q42_81, q42_84, q42_87, q42_89, q42_90, q42_90N, q42_91, q42_94, q42_97, q42_100, q42_103, q42_104, q42_108, q42_110, q42_113, q42_114, q42_117, q42_119, q42_122, q42_125, q42_126, q42_129, q42_131, q42_133, q42_134, q42_135, q42_137, q42_138, q42_141, q42_143, q42_145, q42_146, q42_147, q42_149, q42_149N, q42_150, q42_152, q42_154, q42_155, q42_158, q42_161, q42_163, q42_164, q42_165, q42_168, q42_171, q42_173, q42_174, q42_175, q42_178, q42_181, q42_184, q42_185, q42_185N, q42_186, q42_189, q42_e, x3.1.1]
  refine c_long_q hd x3 q3 c3 p3 fun S4 x4 c4 p4 f4 => ?_
  simp only [pm_tl_none, q42_0, q42_1, q42_4, q42_4N, q42_5, q42_8, q42_8r, q42_9, q42_9N, q42_10, q42_11, q42_14, q42_17, q42_18, q42_22, q42_22N, q42_23, q42_26, q42_29, q42_32, q42_32N, q42_33, q42_33N, q42_34, q42_37, q42_39, q42_40, q42_41, q42_43, q42_43N, q42_44, q42_44N, q42_45, q42_48, q42_50, q42_51, q42_52, q42_54, q42_56, q42_57, q42_60, q42_62, q42_63, q42_66, q42_67, q42_70, q42_72, q42_74, q42_75, q42_77, q42_78, q42_80, q42_80N, q42_81, q42_84, q42_87, q42_89, q42_90, q42_90N, q42_91, q42_94, q42_97, q42_100, q42_103, q42_104, q42_108, q42_110, q42_113, q42_114, q42_117, q42_119, q42_122, q42_125, q42_126, q42_129, q42_131, q42_133, q42_134, q42_135, q42_137, q42_138, q42_141, q42_143, q42_145, q42_146, q42_147, q42_149, q42_149N, q42_150, q42_152, q42_154, q42_155, q42_158, q42_161, q42_163, q42_164, q42_165, q42_168, q42_171, q42_173, q42_174, q42_175, q42_178, q42_181, q42_184, q42_185, q42_185N, q42_186, q42_189, q42_e]
  refine hQ S4 x4 c4 ?_
  exact (((f1.tr f2).mono (fun b hb => by unfold cP at hb; unfold gP2; omega)).tr (f3.mono (fun b hb => by unfold cB1 at hb; unfold gP2; omega))).tr f4
end
