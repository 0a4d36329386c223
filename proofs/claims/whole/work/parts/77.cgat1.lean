/-! ===== the class: GATHERED, the methods ===== -/
def gP (r w : Nat) : Nat → Prop := fun b => (w < b ∧ b < w + 15) ∨ (r + 11 ≤ b ∧ b < r + 16)
def gD (r w a : Nat) : Prop := r + 16 ≤ w ∧ r + 16 ≤ a ∧ (w + 15 ≤ a ∨ a + 15 ≤ w)
/-- what stays while a view is gathered -/
def gS (S : pm_T) (r w a : Nat) (Ca : sp_C) (LB : Nat → Nat → Option Nat) (t c : Nat) : Prop := sR S r ∧ sG S w ∧ sG S a ∧ cC S a Ca ∧ cL S r LB ∧ pm_gi S w 9 = nI t ∧ pm_gi S w 10 = nI c
def ga_pl (LB : Nat → Nat → Option Nat) (t c : Nat) (Ca : sp_C) (S : pm_T) (r k : Nat) : Prop := ∀ l, l < k → pm_zi S (r + 14) l = if (ga_hN LB t c Ca l).isSome = true then nI (ga_N LB t c Ca l).length else -1
theorem hp_h_put {c : Nat} {key : Nat → Option Nat} {val : Nat → Int64} {k l : Nat} (h : key k = some l) : (fun j => if j = l then hp_in c (hp_h c key val l k) k (val k) else hp_h c key val j k) = fun j => hp_h c key val j (k + 1) := by
  funext j
  by_cases e : j = l
  · subst e
    simp [hp_h, h]
  · have : ¬ key k = some j := fun q => e (Option.some.inj (q.symm.trans h))
    simp [hp_h, e, this]
theorem hp_h_no {c : Nat} {key : Nat → Option Nat} {val : Nat → Int64} {k : Nat} (h : key k = none) : (fun j => hp_h c key val j (k + 1)) = fun j => hp_h c key val j k := by
  funext j
  simp [hp_h, h]
theorem hp_t_put {c : Nat} {key : Nat → Option Nat} {val : Nat → Int64} {k l : Nat} (h : key k = some l) : hp_t c key val (k + 1) = (hp_t c key val k || hp_ov c (hp_h c key val l k) (val k)) := by
  unfold hp_t
  rw [h]
  cases k <;> rfl
theorem hp_t_no {c : Nat} {key : Nat → Option Nat} {val : Nat → Int64} {k : Nat} (h : key k = none) : hp_t c key val (k + 1) = hp_t c key val k := by
  conv => lhs; unfold hp_t
  rw [h]
  simp
section
variable {d r w a b g n k : Nat} {S : pm_T} {Q : Option Value → pm_T → Prop} {Ca : sp_C} {LB : Nat → Nat → Option Nat} {t c : Nat}
theorem ga_N_s : ga_N LB t c Ca (k + 1) = ga_N LB t c Ca k ++ (match ga_hN LB t c Ca k with
    | none => []
    | some (f, v) => [(v, some f, none)]) := rfl
theorem ga_A_s : ga_A LB t c Ca (k + 1) = ga_A LB t c Ca k ++ (match ga_hA LB t c Ca k with
    | none => []
    | some (f, v) => [((ga_N LB t c Ca (k / 10)).length, (ga_N LB t c Ca (k % 10)).length, v, some f, none)]) := rfl
theorem gS_fr {P : Nat → Prop} {S' : pm_T} (h : gS S r w a Ca LB t c) (hf : sp_fr P S S') (hd : gD r w a) (hP : ∀ b, P b → gP r w b) : gS S' r w a Ca LB t c := by
  obtain ⟨h1, h2, h3, h4, h5, h6, h7⟩ := h
  obtain ⟨d1, d2, d3⟩ := hd
  have ew := (hf.2.2.2.2.2 w (fun q => by have := hP w q; unfold gP at this; omega)).1
  refine ⟨sR_fr h1 hf, sG_fr h2 hf, sG_fr h3 hf, cC_fr h4 hf (fun b hb hw => by have := hP b hw; unfold gP at this; unfold cB at hb; omega), fun t i ht hi => ?_, by rw [ew]; exact h6, by rw [ew]; exact h7⟩
  rw [(hf.2.2.2.2.2 (r + 7 + t) (fun q => by have := hP _ q; unfold gP at this; omega)).2.2.1]
  exact h5 t i ht hi
theorem gS_5 {x : Int32} (h : gS S r w a Ca LB t c) (hd : gD r w a) : gS (pm_sgi S w 5 x) r w a Ca LB t c := by
  obtain ⟨h1, h2, h3, h4, h5, h6, h7⟩ := h
  obtain ⟨d1, d2, d3⟩ := hd
  have f : sp_fr (fun b => b = w) S (pm_sgi S w 5 x) := sp_fr.gi rfl (fun _ => rfl)
  refine ⟨sR_fr h1 f, sG_fr h2 f, sG_fr h3 f, cC_fr h4 f (fun b hb hw => by unfold cB at hb; omega), h5, ?_, ?_⟩
  · rw [ps_gi_gi, if_neg (by omega)]; exact h6
  · rw [ps_gi_gi, if_neg (by omega)]; exact h7
set_option maxHeartbeats 2000000 in
theorem c_gatN_1 (hd : gD r w a) (ht : t < 4) (hc : c < 3) (hlb : sp_lb LB) (h0 : Ca.1 = 0) (hS : gS S r w a Ca LB t c) (hH : hR S (r + 11) (fun _ => none) false)
    (hQ : ∀ S', gS S' r w a Ca LB t c → hR S' (r + 11) (ga_hN LB t c Ca) (ga_tN LB t c Ca) → sp_fr (cP (r + 11)) S S' → pm_V (d + 3) 41 65 [.ref r, .ref w, .ref a, .ref (r + 7 + t), .int (nI Ca.2.1.length)] [] S' Q) :
    pm_V (d + 3) 41 20 [.ref r, .ref w, .ref a, .ref (r + 7 + t), .int (nI 0)] [] S Q := by
  refine sp_loop (n := Ca.2.1.length) (P := cP (r + 11)) (Inv := fun k S => gS S r w a Ca LB t c ∧ hR S (r + 11) (fun l => hp_h c (ga_kn LB t) (ga_vn Ca) l k) (hp_t c (ga_kn LB t) (ga_vn Ca) k)) (head := fun k S => pm_V (d + 3) 41 20 [.ref r, .ref w, .ref a, .ref (r + 7 + t), .int (nI k)] [] S Q) (fin := fun S => pm_V (d + 3) 41 65 [.ref r, .ref w, .ref a, .ref (r + 7 + t), .int (nI Ca.2.1.length)] [] S Q) ?_ ?_ S ⟨hS, hH⟩ (fun S' q1 q2 => hQ S' q1.1 q1.2 q2)
  · intro k S hk ⟨hS, hH⟩ _ hN
    obtain ⟨h1, h2, h3, h4, h5, h6, h7⟩ := id hS
    have hn := cC_n h4 h0
    have e1 : nI k < nI Ca.2.1.length := nI_lt hk (by omega)
    have hk2 : k < 40 := by omega
    have e2 := pm_ar_nI (h1.2.2.2.2.2.2.2.2.2.1 t ht).2 hk2 (by decide)
    rw [q41_20]
    simp only [q41_0, q41_1, q41_4, q41_4N, q41_5, q41_8, q41_8r, q41_9, q41_9N, q41_10, q41_11, q41_14, q41_17, q41_18, q41_22, q41_22N, q41_23, q41_26, q41_29, q41_32, q41_33, q41_36, q41_36N, q41_37, q41_39, q41_40, q41_42, q41_42N, q41_43, q41_46, q41_49, q41_51, q41_52, q41_52N, q41_53, q41_56, q41_59, q41_62, q41_66, q41_70, q41_72, q41_75, q41_76, q41_79, q41_81, q41_82, q41_83, q41_84, q41_87, q41_89, q41_92, q41_95, q41_96, q41_99, q41_101, q41_101N, q41_102, q41_105, q41_108, q41_109, q41_109N, q41_110, q41_111, q41_114, q41_117, q41_119, q41_120, q41_121, q41_124, q41_127, q41_129, q41_130, q41_131, q41_134, q41_137, q41_140, q41_141, q41_141N, q41_142, q41_145, q41_e, h3.1, h3.2.1, h3.2.2.1, h3.2.2.2.1, h3.2.2.2.2.1, h3.2.2.2.2.2.1, h3.2.2.2.2.2.2.2.2.1.1, h3.2.2.2.2.2.2.2.2.1.2.1, h3.2.2.2.2.2.2.2.2.1.2.2.1, h3.2.2.2.2.2.2.2.2.1.2.2.2.1, h3.2.2.2.2.2.2.2.2.2.1.1, h3.2.2.2.2.2.2.2.2.2.1.2.1, h3.2.2.2.2.2.2.2.2.2.1.2.2.1, h3.2.2.2.2.2.2.2.2.2.1.2.2.2.1, h3.2.2.2.2.2.2.2.2.2.2.1, h3.2.2.2.2.2.2.2.2.2.2.2.1, h3.2.2.2.2.2.2.2.2.2.2.2.2.1, h3.2.2.2.2.2.2.2.2.2.2.2.2.2.1, pm_rf_some, hn.1, e1, if_true, h1.1, h1.2.2.2.1, e2, gr2 h3 hk2, gr3 h3 hk2, gr4 h3 hk2, nc4 hk2, h5 t k ht hk2, cC_nv h4 h0 hk, h2.1, h7, h1.2.2.2.2.2.2.2.1.1]
    cases hl : LB t k with
    | none =>
      simp only [sp_eC, c_putNo h1.2.2.2.2.2.2.2.1, pm_tl_none, q41_0, q41_1, q41_4, q41_4N, q41_5, q41_8, q41_8r, q41_9, q41_9N, q41_10, q41_11, q41_14, q41_17, q41_18, q41_22, q41_22N, q41_23, q41_26, q41_29, q41_32, q41_33, q41_36, q41_36N, q41_37, q41_39, q41_40, q41_42, q41_42N, q41_43, q41_46, q41_49, q41_51, q41_52, q41_52N, q41_53, q41_56, q41_59, q41_62, q41_66, q41_70, q41_72, q41_75, q41_76, q41_79, q41_81, q41_82, q41_83, q41_84, q41_87, q41_89, q41_92, q41_95, q41_96, q41_99, q41_101, q41_101N, q41_102, q41_105, q41_108, q41_109, q41_109N, q41_110, q41_111, q41_114, q41_117, q41_119, q41_120, q41_121, q41_124, q41_127, q41_129, q41_130, q41_131, q41_134, q41_137, q41_140, q41_141, q41_141N, q41_142, q41_145, q41_e, nI_1]
      refine hN _ ⟨hS, ?_⟩ sp_fr.rf
      rw [hp_h_no (show ga_kn LB t k = none from hl), hp_t_no (show ga_kn LB t k = none from hl)]
      exact hH
    | some l =>
      simp only [sp_eC]
      refine c_put hH (show l < 100 by have := hlb _ _ _ hl; omega) (by omega) hc fun S' q1 q2 => ?_
      simp only [pm_tl_none, q41_0, q41_1, q41_4, q41_4N, q41_5, q41_8, q41_8r, q41_9, q41_9N, q41_10, q41_11, q41_14, q41_17, q41_18, q41_22, q41_22N, q41_23, q41_26, q41_29, q41_32, q41_33, q41_36, q41_36N, q41_37, q41_39, q41_40, q41_42, q41_42N, q41_43, q41_46, q41_49, q41_51, q41_52, q41_52N, q41_53, q41_56, q41_59, q41_62, q41_66, q41_70, q41_72, q41_75, q41_76, q41_79, q41_81, q41_82, q41_83, q41_84, q41_87, q41_89, q41_92, q41_95, q41_96, q41_99, q41_101, q41_101N, q41_102, q41_105, q41_108, q41_109, q41_109N, q41_110, q41_111, q41_114, q41_117, q41_119, q41_120, q41_121, q41_124, q41_127, q41_129, q41_130, q41_131, q41_134, q41_137, q41_140, q41_141, q41_141N, q41_142, q41_145, q41_e, nI_1]
      have e : ga_kn LB t k = some l := hl
      refine hN _ ⟨gS_fr hS q2 hd (fun b hb => by unfold cP at hb; unfold gP; omega), ?_⟩ q2
      have q1' : hR S' (r + 11) (fun j => if j = l then hp_in c (hp_h c (ga_kn LB t) (ga_vn Ca) l k) k (ga_vn Ca k) else hp_h c (ga_kn LB t) (ga_vn Ca) j k) (hp_t c (ga_kn LB t) (ga_vn Ca) k || hp_ov c (hp_h c (ga_kn LB t) (ga_vn Ca) l k) (ga_vn Ca k)) := q1
      rw [hp_h_put e, ← hp_t_put e] at q1'
      exact q1'
  · intro S ⟨hS, hH⟩ hF
    obtain ⟨h1, h2, h3, h4, h5, h6, h7⟩ := id hS
    have hn := cC_n h4 h0
    have e1 : ¬ nI Ca.2.1.length < nI Ca.2.1.length := nI_nlt (by omega) (by omega)
    rw [q41_20]
    simp only [q41_0, q41_1, q41_4, q41_4N, q41_5, q41_8, q41_8r, q41_9, q41_9N, q41_10, q41_11, q41_14, q41_17, q41_18, q41_22, q41_22N, q41_23, q41_26, q41_29, q41_32, q41_33, q41_36, q41_36N, q41_37, q41_39, q41_40, q41_42, q41_42N, q41_43, q41_46, q41_49, q41_51, q41_52, q41_52N, q41_53, q41_56, q41_59, q41_62, q41_66, q41_70, q41_72, q41_75, q41_76, q41_79, q41_81, q41_82, q41_83, q41_84, q41_87, q41_89, q41_92, q41_95, q41_96, q41_99, q41_101, q41_101N, q41_102, q41_105, q41_108, q41_109, q41_109N, q41_110, q41_111, q41_114, q41_117, q41_119, q41_120, q41_121, q41_124, q41_127, q41_129, q41_130, q41_131, q41_134, q41_137, q41_140, q41_141, q41_141N, q41_142, q41_145, q41_e, h3.1, h3.2.1, h3.2.2.1, h3.2.2.2.1, h3.2.2.2.2.1, h3.2.2.2.2.2.1, h3.2.2.2.2.2.2.2.2.1.1, h3.2.2.2.2.2.2.2.2.1.2.1, h3.2.2.2.2.2.2.2.2.1.2.2.1, h3.2.2.2.2.2.2.2.2.1.2.2.2.1, h3.2.2.2.2.2.2.2.2.2.1.1, h3.2.2.2.2.2.2.2.2.2.1.2.1, h3.2.2.2.2.2.2.2.2.2.1.2.2.1, h3.2.2.2.2.2.2.2.2.2.1.2.2.2.1, h3.2.2.2.2.2.2.2.2.2.2.1, h3.2.2.2.2.2.2.2.2.2.2.2.1, h3.2.2.2.2.2.2.2.2.2.2.2.2.1, h3.2.2.2.2.2.2.2.2.2.2.2.2.2.1, pm_rf_some, hn.1, e1, if_false]
    exact hF
theorem ga_pl_s {S' : pm_T} {k : Nat} {x : Int32} (hp : ga_pl LB t c Ca S r k) (h1 : ∀ j, j ≠ k → pm_zi S' (r + 14) j = pm_zi S (r + 14) j) (h2 : pm_zi S' (r + 14) k = x) (hx : x = if (ga_hN LB t c Ca k).isSome = true then nI (ga_N LB t c Ca k).length else -1) : ga_pl LB t c Ca S' r (k + 1) := by
  intro l hl
  by_cases e : l = k
  · subst e; rw [h2, hx]
  · rw [h1 l e]; exact hp l (by omega)
set_option maxHeartbeats 2000000 in
theorem c_gatN_2 (hd : gD r w a) (ht : t < 4) (hc : c < 3) (h0 : Ca.1 = 0) (hS : gS S r w a Ca LB t c) (hH : hR S (r + 11) (ga_hN LB t c Ca) (ga_tN LB t c Ca)) (hC : cQ S w 0 [] [] [])
    (hQ : ∀ S', gS S' r w a Ca LB t c → hR S' (r + 11) (ga_hN LB t c Ca) (ga_tN LB t c Ca) → cQ S' w 0 (ga_N LB t c Ca 10) [] [] → ga_pl LB t c Ca S' r 10 → sp_fr (gP r w) S S' → pm_V (d + 3) 41 140 [.ref r, .ref w, .ref a, .ref (r + 7 + t), .int (nI 10)] [] S' Q) :
    pm_V (d + 3) 41 68 [.ref r, .ref w, .ref a, .ref (r + 7 + t), .int (nI 0)] [] S Q := by
  refine sp_loop (n := 10) (P := gP r w) (Inv := fun k S => gS S r w a Ca LB t c ∧ hR S (r + 11) (ga_hN LB t c Ca) (ga_tN LB t c Ca) ∧ cQ S w 0 (ga_N LB t c Ca k) [] [] ∧ ga_pl LB t c Ca S r k) (head := fun k S => pm_V (d + 3) 41 68 [.ref r, .ref w, .ref a, .ref (r + 7 + t), .int (nI k)] [] S Q) (fin := fun S => pm_V (d + 3) 41 140 [.ref r, .ref w, .ref a, .ref (r + 7 + t), .int (nI 10)] [] S Q) ?_ ?_ S ⟨hS, hH, hC, fun l hl => absurd hl (by omega)⟩ (fun S' q1 q2 => hQ S' q1.1 q1.2.1 q1.2.2.1 q1.2.2.2 q2)
  · intro k S hk ⟨hS, hH, hC, hp⟩ _ hN
    obtain ⟨h1, h2, h3, h4, h5, h6, h7⟩ := id hS
    obtain ⟨d1, d2, d3⟩ := id hd
    have e1 : nI k < 10 := nI_lt (b := 10) hk (by decide)
    have e2 := pm_ar_nI h1.2.2.2.2.2.2.2.2.2.2.1 (show k < 40 by omega) (by decide)
    have e3 := pm_ar_nI h1.2.2.2.2.2.2.2.1.2.2.2.1 (show k < 100 by omega) (by decide)
    have e5 := pm_ar_nI h1.2.2.2.2.2.2.2.1.2.2.2.2 (show k < 100 by omega) (by decide)
    have e4 := nI_clamp (show k < 2 ^ 31 by omega)
    have f1 : sp_fr (gP r w) S (pm_szi S (r + 14) k (-1)) := sp_fr.zi (Or.inr ⟨by omega, by omega⟩)
    have f1' : sp_fr (fun b => b = r + 14) S (pm_szi S (r + 14) k (-1)) := sp_fr.zi rfl
    have hH1 : hR (pm_szi S (r + 14) k (-1)) (r + 11) (ga_hN LB t c Ca) (ga_tN LB t c Ca) := hR_fr hH f1' (fun b hb hw => by unfold cP at hb; omega)
    have hC1 : cQ (pm_szi S (r + 14) k (-1)) w 0 (ga_N LB t c Ca k) [] [] := cQ_fr hC f1' (fun b hb hw => by unfold cB at hb; omega)
    rw [q41_68]
    simp only [q41_0, q41_1, q41_4, q41_4N, q41_5, q41_8, q41_8r, q41_9, q41_9N, q41_10, q41_11, q41_14, q41_17, q41_18, q41_22, q41_22N, q41_23, q41_26, q41_29, q41_32, q41_33, q41_36, q41_36N, q41_37, q41_39, q41_40, q41_42, q41_42N, q41_43, q41_46, q41_49, q41_51, q41_52, q41_52N, q41_53, q41_56, q41_59, q41_62, q41_66, q41_70, q41_72, q41_75, q41_76, q41_79, q41_81, q41_82, q41_83, q41_84, q41_87, q41_89, q41_92, q41_95, q41_96, q41_99, q41_101, q41_101N, q41_102, q41_105, q41_108, q41_109, q41_109N, q41_110, q41_111, q41_114, q41_117, q41_119, q41_120, q41_121, q41_124, q41_127, q41_129, q41_130, q41_131, q41_134, q41_137, q41_141, q41_141N, q41_142, q41_145, q41_e, e1, if_true, h1.1, h1.2.2.2.2.1, h1.2.2.2.1, pm_rf_some, e2, e4, ps_gi_nx, ps_gi_sz, ps_gi_sh, ps_gi_gi, ps_gi_gl, ps_gi_gr, ps_gi_zi, ps_gi_zl, ps_gi_zr, ps_gi_ar, ps_gi_al, ps_gl_nx, ps_gl_sz, ps_gl_sh, ps_gl_gi, ps_gl_gl, ps_gl_gr, ps_gl_zi, ps_gl_zl, ps_gl_zr, ps_gl_ar, ps_gl_al, ps_gr_nx, ps_gr_sz, ps_gr_sh, ps_gr_gi, ps_gr_gl, ps_gr_gr, ps_gr_zi, ps_gr_zl, ps_gr_zr, ps_gr_ar, ps_gr_al, ps_zi_nx, ps_zi_sz, ps_zi_sh, ps_zi_gi, ps_zi_gl, ps_zi_gr, ps_zi_zi, ps_zi_zl, ps_zi_zr, ps_zi_ar, ps_zi_al, ps_zl_nx, ps_zl_sz, ps_zl_sh, ps_zl_gi, ps_zl_gl, ps_zl_gr, ps_zl_zi, ps_zl_zl, ps_zl_zr, ps_zl_ar, ps_zl_al, ps_zr_nx, ps_zr_sz, ps_zr_sh, ps_zr_gi, ps_zr_gl, ps_zr_gr, ps_zr_zi, ps_zr_zl, ps_zr_zr, ps_zr_ar, ps_zr_al, pm_rf_some, pm_rf_none, pm_tl_some, pm_tl_none, h1.2.2.2.2.2.2.2.1.1, c_hasAny hH1 (show k < 100 by omega)]
    cases hh : ga_hN LB t c Ca k with
    | none =>
      simp only [Option.isSome_none, Bool.false_eq_true, if_false, if_true, q41_0, q41_1, q41_4, q41_4N, q41_5, q41_8, q41_8r, q41_9, q41_9N, q41_10, q41_11, q41_14, q41_17, q41_18, q41_22, q41_22N, q41_23, q41_26, q41_29, q41_32, q41_33, q41_36, q41_36N, q41_37, q41_39, q41_40, q41_42, q41_42N, q41_43, q41_46, q41_49, q41_51, q41_52, q41_52N, q41_53, q41_56, q41_59, q41_62, q41_66, q41_70, q41_72, q41_75, q41_76, q41_79, q41_81, q41_82, q41_83, q41_84, q41_87, q41_89, q41_92, q41_95, q41_96, q41_99, q41_101, q41_101N, q41_102, q41_105, q41_108, q41_109, q41_109N, q41_110, q41_111, q41_114, q41_117, q41_119, q41_120, q41_121, q41_124, q41_127, q41_129, q41_130, q41_131, q41_134, q41_137, q41_141, q41_141N, q41_142, q41_145, q41_e, nI_1]
      refine hN _ ⟨gS_fr hS f1 hd (fun b hb => hb), hH1, ?_, ?_⟩ f1
      · have : ga_N LB t c Ca (k + 1) = ga_N LB t c Ca k := by rw [ga_N_s, hh]; simp
        rw [this]; exact hC1
      · exact ga_pl_s hp (fun j hj => by rw [ps_zi_zi, if_neg (by omega)]) ps_zi_self (by rw [hh]; rfl)
    | some q =>
      obtain ⟨fi, v⟩ := q
      have hw := hH.2.1 k (by omega)
      rw [hh] at hw
      have hle := ga_N_le (LB := LB) (t := t) (c := c) (Ca := Ca) k
      have f2 : sp_fr (gP r w) (pm_szi S (r + 14) k (-1)) (pm_szi (pm_szi S (r + 14) k (-1)) (r + 14) k (nI (ga_N LB t c Ca k).length)) := sp_fr.zi (Or.inr ⟨by omega, by omega⟩)
      have f2' : sp_fr (fun b => b = r + 14) (pm_szi S (r + 14) k (-1)) (pm_szi (pm_szi S (r + 14) k (-1)) (r + 14) k (nI (ga_N LB t c Ca k).length)) := sp_fr.zi rfl
      have hC2 := cQ_fr hC1 f2' (fun b hb hw => by unfold cB at hb; omega)
      have hw2 : sG (pm_szi (pm_szi S (r + 14) k (-1)) (r + 14) k (nI (ga_N LB t c Ca k).length)) w := sG_fr (sG_fr h2 f1) f2
      obtain ⟨g1, g2⟩ := fG_node_q (v := v) (x := some fi) (y := none) hw2 hC2 (by omega)
      simp only [Option.isSome_some, show ¬ (1 : Int32) = 0 by decide, if_false, if_true, q41_0, q41_1, q41_4, q41_4N, q41_5, q41_8, q41_8r, q41_9, q41_9N, q41_10, q41_11, q41_14, q41_17, q41_18, q41_22, q41_22N, q41_23, q41_26, q41_29, q41_32, q41_33, q41_36, q41_36N, q41_37, q41_39, q41_40, q41_42, q41_42N, q41_43, q41_46, q41_49, q41_51, q41_52, q41_52N, q41_53, q41_56, q41_59, q41_62, q41_66, q41_70, q41_72, q41_75, q41_76, q41_79, q41_81, q41_82, q41_83, q41_84, q41_87, q41_89, q41_92, q41_95, q41_96, q41_99, q41_101, q41_101N, q41_102, q41_105, q41_108, q41_109, q41_109N, q41_110, q41_111, q41_114, q41_117, q41_119, q41_120, q41_121, q41_124, q41_127, q41_129, q41_130, q41_131, q41_134, q41_137, q41_141, q41_141N, q41_142, q41_145, q41_e, h1.1, h1.2.2.2.2.1, h1.2.2.2.1, h1.2.2.2.2.2.2.2.1.1, h1.2.2.2.2.2.2.2.1.2.1, h1.2.2.2.2.2.2.2.1.2.2.1, h2.1, h2.2.1, h2.2.2.1, h2.2.2.2.1, h2.2.2.2.2.1, h2.2.2.2.2.2.1, h2.2.2.2.2.2.2.2.2.1.1, h2.2.2.2.2.2.2.2.2.1.2.1, h2.2.2.2.2.2.2.2.2.1.2.2.1, h2.2.2.2.2.2.2.2.2.1.2.2.2.1, h2.2.2.2.2.2.2.2.2.2.1.1, h2.2.2.2.2.2.2.2.2.2.1.2.1, h2.2.2.2.2.2.2.2.2.2.1.2.2.1, h2.2.2.2.2.2.2.2.2.2.1.2.2.2.1, h2.2.2.2.2.2.2.2.2.2.2.1, h2.2.2.2.2.2.2.2.2.2.2.2.1, h2.2.2.2.2.2.2.2.2.2.2.2.2.1, h2.2.2.2.2.2.2.2.2.2.2.2.2.2.1, pm_rf_some, e2, e3, e5, e4, ps_gi_nx, ps_gi_sz, ps_gi_sh, ps_gi_gi, ps_gi_gl, ps_gi_gr, ps_gi_zi, ps_gi_zl, ps_gi_zr, ps_gi_ar, ps_gi_al, ps_gl_nx, ps_gl_sz, ps_gl_sh, ps_gl_gi, ps_gl_gl, ps_gl_gr, ps_gl_zi, ps_gl_zl, ps_gl_zr, ps_gl_ar, ps_gl_al, ps_gr_nx, ps_gr_sz, ps_gr_sh, ps_gr_gi, ps_gr_gl, ps_gr_gr, ps_gr_zi, ps_gr_zl, ps_gr_zr, ps_gr_ar, ps_gr_al, ps_zi_nx, ps_zi_sz, ps_zi_sh, ps_zi_gi, ps_zi_gl, ps_zi_gr, ps_zi_zi, ps_zi_zl, ps_zi_zr, ps_zi_ar, ps_zi_al, ps_zl_nx, ps_zl_sz, ps_zl_sh, ps_zl_gi, ps_zl_gl, ps_zl_gr, ps_zl_zi, ps_zl_zl, ps_zl_zr, ps_zl_ar, ps_zl_al, ps_zr_nx, ps_zr_sz, ps_zr_sh, ps_zr_gi, ps_zr_gl, ps_zr_gr, ps_zr_zi, ps_zr_zl, ps_zr_zr, ps_zr_ar, ps_zr_al, pm_rf_some, pm_rf_none, pm_tl_some, pm_tl_none, hC.2.1.1, hw.2.2, hw.2.1, show ¬ (r + 13 = r + 14 ∧ k = k) by omega, show ¬ r + 11 + 2 = r + 14 by omega, false_and, c_addNode hw2 hC2.2.1.1 (by omega), nI_1]
      refine hN _ ⟨?_, ?_, ?_, ?_⟩ ((f1.tr f2).tr (g2.mono (fun b hb => Or.inl hb)))
      · exact gS_fr (gS_fr (gS_fr hS f1 hd (fun b hb => hb)) f2 hd (fun b hb => hb)) g2 hd (fun b hb => Or.inl hb)
      · exact hR_fr (hR_fr hH1 f2' (fun b hb hw => by unfold cP at hb; omega)) g2 (fun b hb hw => by unfold cP at hb; unfold cB1 at hw; omega)
      · have : ga_N LB t c Ca (k + 1) = ga_N LB t c Ca k ++ [(v, some fi, none)] := by rw [ga_N_s, hh]
        rw [this]; exact g1
      · have z : ∀ j, pm_zi (fG_node (pm_szi (pm_szi S (r + 14) k (-1)) (r + 14) k (nI (ga_N LB t c Ca k).length)) w (ga_N LB t c Ca k).length v (sp_eC (some fi)) (sp_eC none)) (r + 14) j = pm_zi (pm_szi (pm_szi S (r + 14) k (-1)) (r + 14) k (nI (ga_N LB t c Ca k).length)) (r + 14) j := fun j => (g2.2.2.2.2.2 (r + 14) (by unfold cB1; omega)).2.2.1 j
        exact ga_pl_s (x := nI (ga_N LB t c Ca k).length) hp (fun j hj => (z j).trans (by rw [ps_zi_zi, if_neg (by omega), ps_zi_zi, if_neg (by omega)])) ((z k).trans ps_zi_self) (by rw [hh]; rfl)
  · intro S _ hF
    rw [q41_68]
    simp only [q41_0, q41_1, q41_4, q41_4N, q41_5, q41_8, q41_8r, q41_9, q41_9N, q41_10, q41_11, q41_14, q41_17, q41_18, q41_22, q41_22N, q41_23, q41_26, q41_29, q41_32, q41_33, q41_36, q41_36N, q41_37, q41_39, q41_40, q41_42, q41_42N, q41_43, q41_46, q41_49, q41_51, q41_52, q41_52N, q41_53, q41_56, q41_59, q41_62, q41_66, q41_70, q41_72, q41_75, q41_76, q41_79, q41_81, q41_82, q41_83, q41_84, q41_87, q41_89, q41_92, q41_95, q41_96, q41_99, q41_101, q41_101N, q41_102, q41_105, q41_108, q41_109, q41_109N, q41_110, q41_111, q41_114, q41_117, q41_119, q41_120, q41_121, q41_124, q41_127, q41_129, q41_130, q41_131, q41_134, q41_137, q41_141, q41_141N, q41_142, q41_145, q41_e, show ¬ nI 10 < 10 by decide, if_false]
    exact hF
end
