/-! ===== THE REFERENCE: gathered ===== -/
def hp_o (c : Nat) (key : Nat → Option Nat) (val : Nat → Int64) (l : Nat) : Nat → Bool
  | 0 => false
  | n + 1 => hp_o c key val l n || (decide (key n = some l) && hp_ov c (hp_h c key val l n) (val n))
def hp_g (c : Nat) (key : Nat → Option Nat) (val : Nat → Int64) (n : Nat) : Nat → Bool
  | 0 => false
  | L + 1 => hp_g c key val n L || hp_o c key val L n
section
variable {c : Nat} {key : Nat → Option Nat} {val : Nat → Int64}
theorem hp_o_s (l n : Nat) : hp_o c key val l (n + 1) = (hp_o c key val l n || (decide (key n = some l) && hp_ov c (hp_h c key val l n) (val n))) := rfl
theorem hp_g_s (n L : Nat) : hp_g c key val n (L + 1) = (hp_g c key val n L || hp_o c key val L n) := rfl
theorem hp_o_i {l : Nat} : ∀ n, hp_o c key val l n = true ↔ ∃ i, i < n ∧ key i = some l ∧ hp_ov c (hp_h c key val l i) (val i) = true
  | 0 => ⟨(fun h => by cases h), (fun ⟨i, hi, _⟩ => by omega)⟩
  | n + 1 => by
    rw [hp_o_s, Bool.or_eq_true, hp_o_i n, Bool.and_eq_true, decide_eq_true_eq]
    constructor
    · rintro (⟨i, h1, h2⟩ | h)
      · exact ⟨i, by omega, h2⟩
      · exact ⟨n, by omega, h⟩
    · rintro ⟨i, h1, h2⟩
      by_cases e : i = n
      · subst e; exact Or.inr h2
      · exact Or.inl ⟨i, by omega, h2⟩
theorem hp_g_i {n : Nat} : ∀ L, hp_g c key val n L = true ↔ ∃ l, l < L ∧ hp_o c key val l n = true
  | 0 => ⟨(fun h => by cases h), (fun ⟨i, hi, _⟩ => by omega)⟩
  | L + 1 => by
    rw [hp_g_s, Bool.or_eq_true, hp_g_i L]
    constructor
    · rintro (⟨i, h1, h2⟩ | h)
      · exact ⟨i, by omega, h2⟩
      · exact ⟨L, by omega, h⟩
    · rintro ⟨i, h1, h2⟩
      by_cases e : i = L
      · subst e; exact Or.inr h2
      · exact Or.inl ⟨i, by omega, h2⟩
theorem hp_t_i : ∀ n, hp_t c key val n = true ↔ ∃ i l, i < n ∧ key i = some l ∧ hp_ov c (hp_h c key val l i) (val i) = true
  | 0 => ⟨(fun h => by cases h), (fun ⟨i, l, hi, _⟩ => by omega)⟩
  | n + 1 => by
    cases hk : key n with
    | none =>
      rw [hp_t_no hk, hp_t_i n]
      constructor
      · rintro ⟨i, l, h1, h2⟩; exact ⟨i, l, by omega, h2⟩
      · rintro ⟨i, l, h1, h2, h3⟩
        by_cases e : i = n
        · subst e; rw [hk] at h2; cases h2
        · exact ⟨i, l, by omega, h2, h3⟩
    | some k =>
      rw [hp_t_put hk, Bool.or_eq_true, hp_t_i n]
      constructor
      · rintro (⟨i, l, h1, h2⟩ | h)
        · exact ⟨i, l, by omega, h2⟩
        · exact ⟨n, k, by omega, hk, h⟩
      · rintro ⟨i, l, h1, h2, h3⟩
        by_cases e : i = n
        · subst e; rw [hk] at h2; cases h2; exact Or.inr h3
        · exact Or.inl ⟨i, l, by omega, h2, h3⟩
theorem hp_g_t {n K : Nat} (hk : ∀ i l, i < n → key i = some l → l < K) : hp_g c key val n K = hp_t c key val n := by
  rw [Bool.eq_iff_iff, hp_g_i, hp_t_i]
  constructor
  · rintro ⟨l, h1, h2⟩
    obtain ⟨i, h3, h4, h5⟩ := (hp_o_i n).mp h2
    exact ⟨i, l, h3, h4, h5⟩
  · rintro ⟨i, l, h1, h2, h3⟩
    exact ⟨l, hk i l h1 h2, (hp_o_i n).mpr ⟨i, h1, h2, h3⟩⟩
end
theorem and_neg (x y : Int64) : ((x &&& y) < 0) = (x < 0 ∧ y < 0) := by
  have e : ∀ z : Int64, (z < 0) = (z.toBitVec.msb = true) := by
    intro z
    rw [BitVec.msb_eq_toInt, decide_eq_true_eq, Int64.lt_iff_toInt_lt]
    rfl
  rw [e, e, e, Int64.toBitVec_and, BitVec.msb_and, Bool.and_eq_true]
/-- what has come to the heap h -/
def mh (S : pm_T) (m c : Nat) (h : hp_T) (cnt : Nat) : Prop := pm_gi S m 31 = nI cnt ∧ match h with
  | none => cnt = 0 ∧ pm_gl S m 33 = 0
  | some (f, t) => 1 ≤ cnt ∧ pm_gi S m 32 = nI f ∧ pm_gl S m 33 = t ∧ (c = 2 → t = (nI cnt).toInt64)
/-- what comes changes -/
def mc (m g b k : Nat) : Prop := (b = m ∧ 31 ≤ k ∧ k ≤ 33) ∨ (b = m + 7 ∧ k = g)
section
variable {S0 S S' : pm_T} {m a b g n k d j e t u c i cnt : Nat} {C Ca Cb B : sp_C} {Q : Option Value → pm_T → Prop} {v : Int64} {h : hp_T}
theorem nI_64 {k : Nat} (h : k < 2 ^ 31) : (nI (k + 1)).toInt64 = (nI k).toInt64 + 1 ∨ ¬ k < 1000 := by
  by_cases q : k < 1000
  · left
    have e : ∀ k, k < 1001 → (nI k).toInt64 = lN k := by decide +kernel
    rw [e _ (by omega), e _ (by omega), show (1 : Int64) = lN 1 from rfl, wb_add]
  · exact Or.inr q
theorem mW_mc {f : Nat} (hW : mW S0 S m g C) (hf : frI (mc m g) S S') (h7 : pm_zi S' (m + 7) g = nI f) (hf5 : f ≤ 5) : mW S0 S' m g (f, C.2) := by
  obtain ⟨hM, ⟨h1, h2, h3, h4, h5⟩, h6⟩ := hW
  have e := fun b k (q : ¬ mc m g b k) => hf.2.2.2.2.2 b k q
  refine ⟨sM_frI hM hf, ⟨h7, hf5, ⟨?_, h3.2.1, ?_, h3.2.2.2.1, fun i hi => ?_, fun i hi => ?_⟩, ⟨fun i hi => ?_, fun i hi => ?_⟩, ⟨?_, h5.2.1, fun i hi => ?_⟩⟩, h6.tr (hf.mono (fun b k q => by unfold mc at q; unfold mP mB mS; omega))⟩
  · rw [(e (m + 8) g (by unfold mc; omega)).2.2.1]; exact h3.1
  · rw [(e (m + 9) g (by unfold mc; omega)).2.2.1]; exact h3.2.2.1
  · rw [(e (m + 10) _ (by unfold mc; omega)).2.2.2]; exact h3.2.2.2.2.1 i hi
  · rw [(e (m + 13) _ (by unfold mc; omega)).2.2.1, (e (m + 14) _ (by unfold mc; omega)).2.2.1, (e (m + 15) _ (by unfold mc; omega)).2.2.2]; exact h3.2.2.2.2.2 i hi
  · rw [(e (m + 11) _ (by unfold mc; omega)).2.2.1, (e (m + 12) _ (by unfold mc; omega)).2.2.1]; exact h4.1 i hi
  · rw [(e (m + 16) _ (by unfold mc; omega)).2.2.1, (e (m + 17) _ (by unfold mc; omega)).2.2.1]; exact h4.2 i hi
  · rw [(e (m + 18) _ (by unfold mc; omega)).2.2.1]; exact h5.1
  · rw [(e (m + 19) _ (by unfold mc; omega)).2.2.1, (e (m + 20) _ (by unfold mc; omega)).2.2.1]; exact h5.2.2 i hi
/-- total, first, came are told -/
def fM_c (S : pm_T) (m : Nat) (t : Int64) (f : Int32) (cnt : Nat) : pm_T := pm_sgi (pm_sgi (pm_sgl S m 33 t) m 32 f) m 31 (nI cnt)
theorem fM_c_ok {tt : Int64} {ff : Nat} (hW : mW S0 S m g C) (hf : frI (mc m g) S S') (hW' : ∃ f, f ≤ 5 ∧ pm_zi S' (m + 7) g = nI f ∧ B = (f, C.2)) (hcnt : 1 ≤ cnt) (hc : c = 2 → tt = (nI cnt).toInt64) : mW S0 (fM_c S' m tt (nI ff) cnt) m g B ∧ mh (fM_c S' m tt (nI ff) cnt) m c (some (ff, tt)) cnt ∧ frI (mc m g) S (fM_c S' m tt (nI ff) cnt) := by
  obtain ⟨f, f1, f2, rfl⟩ := hW'
  have fr : frI (mc m g) S (fM_c S' m tt (nI ff) cnt) := hf.tr ((frI.gl (by unfold mc; omega)).tr ((frI.gi (by unfold mc; omega)).tr (frI.gi (by unfold mc; omega))))
  refine ⟨mW_mc hW fr f2 f1, ⟨ps_gi_self, hcnt, ?_, ?_, hc⟩, fr⟩
  · unfold fM_c; rw [ps_gi_gi, if_neg (by omega), ps_gi_self]
  · unfold fM_c; simp [ps_gi_nx, ps_gi_sz, ps_gi_sh, ps_gi_gi, ps_gi_gl, ps_gi_gr, ps_gi_zi, ps_gi_zl, ps_gi_zr, ps_gi_ar, ps_gi_al, ps_gl_nx, ps_gl_sz, ps_gl_sh, ps_gl_gi, ps_gl_gl, ps_gl_gr, ps_gl_zi, ps_gl_zl, ps_gl_zr, ps_gl_ar, ps_gl_al, ps_gr_nx, ps_gr_sz, ps_gr_sh, ps_gr_gi, ps_gr_gl, ps_gr_gr, ps_gr_zi, ps_gr_zl, ps_gr_zr, ps_gr_ar, ps_gr_al, ps_zi_nx, ps_zi_sz, ps_zi_sh, ps_zi_gi, ps_zi_gl, ps_zi_gr, ps_zi_zi, ps_zi_zl, ps_zi_zr, ps_zi_ar, ps_zi_al, ps_zl_nx, ps_zl_sz, ps_zl_sh, ps_zl_gi, ps_zl_gl, ps_zl_gr, ps_zl_zi, ps_zl_zl, ps_zl_zr, ps_zl_ar, ps_zl_al, ps_zr_nx, ps_zr_sz, ps_zr_sh, ps_zr_gi, ps_zr_gl, ps_zr_gr, ps_zr_zi, ps_zr_zl, ps_zr_zr, ps_zr_ar, ps_zr_al, pm_rf_some, pm_rf_none, pm_tl_some, pm_tl_none]
set_option maxHeartbeats 4000000 in
theorem m_comes (hc : c < 3) (hc0 : pm_zi S0 (m + 4) g = nI c) (hg : g < 24) (hW : mW S0 S m g C) (hh : mh S m c h cnt) (hcnt : cnt < 500) (hQ : ∀ S', mW S0 S' m g (if hp_ov c h v = true then sp_brk C 3 else C) → mh S' m c (hp_in c h i v) (cnt + 1) → frI (mc m g) S S' → Q none S') : pm_N (d + 1) 118 [.ref m, .int (nI g), .int (nI i), .long v] S Q := by
  have hM := hW.1
  have hc1 := mW_by (i := 4) (by decide) hW hc0
  have z0 : (nI c = 0) = (c = 0) := nI_e' (b := 0) (by omega) (by decide)
  have z1 : (nI c = 1) = (c = 1) := nI_e' (b := 1) (by omega) (by decide)
  have zc : (nI cnt = 0) = (cnt = 0) := nI_e' (b := 0) (by omega) (by decide)
  have h7 := hW.2.1.1
  have h5 := hW.2.1.2.1
  have keep : ∃ f, f ≤ 5 ∧ pm_zi S (m + 7) g = nI f ∧ C = (f, C.2) := ⟨C.1, h5, h7, rfl⟩
  have i64 : (nI (cnt + 1)).toInt64 = (nI cnt).toInt64 + 1 := (nI_64 (by omega)).resolve_right (by omega)
  simp only [q118_0, q118_1, q118_4, q118_5, q118_6, q118_9, q118_10, q118_13, q118_14, q118_15, q118_17, q118_18, q118_21, q118_23, q118_24, q118_25, q118_26, q118_29, q118_30, q118_32, q118_33, q118_34, q118_35, q118_38, q118_39, q118_40, q118_41, q118_44, q118_45, q118_47, q118_50, q118_53, q118_54, q118_57, q118_58, q118_59, q118_60, q118_63, q118_64, q118_65, q118_68, q118_71, q118_72, q118_73, q118_76, q118_77, q118_80, q118_81, q118_84, q118_85, q118_88, q118_91, q118_94, q118_95, q118_96, q118_99, q118_100, q118_101, q118_102, q118_105, q118_106, q118_107, q118_110, q118_113, q118_114, q118_117, q118_118, q118_121, q118_124, q118_125, q118_126, q118_129, q118_130, q118_131, q118_134, q118_e, sM_0 hM, sM_r4 hM, pm_rf_some, ar4 hM hg, nc24 hg, hc1, z0, z1, ps_gi_nx, ps_gi_sz, ps_gi_sh, ps_gi_gi, ps_gi_gl, ps_gi_gr, ps_gi_zi, ps_gi_zl, ps_gi_zr, ps_gi_ar, ps_gi_al, ps_gl_nx, ps_gl_sz, ps_gl_sh, ps_gl_gi, ps_gl_gl, ps_gl_gr, ps_gl_zi, ps_gl_zl, ps_gl_zr, ps_gl_ar, ps_gl_al, ps_gr_nx, ps_gr_sz, ps_gr_sh, ps_gr_gi, ps_gr_gl, ps_gr_gr, ps_gr_zi, ps_gr_zl, ps_gr_zr, ps_gr_ar, ps_gr_al, ps_zi_nx, ps_zi_sz, ps_zi_sh, ps_zi_gi, ps_zi_gl, ps_zi_gr, ps_zi_zi, ps_zi_zl, ps_zi_zr, ps_zi_ar, ps_zi_al, ps_zl_nx, ps_zl_sz, ps_zl_sh, ps_zl_gi, ps_zl_gl, ps_zl_gr, ps_zl_zi, ps_zl_zl, ps_zl_zr, ps_zl_ar, ps_zl_al, ps_zr_nx, ps_zr_sz, ps_zr_sh, ps_zr_gi, ps_zr_gl, ps_zr_gr, ps_zr_zi, ps_zr_zl, ps_zr_zr, ps_zr_ar, ps_zr_al, pm_rf_some, pm_rf_none, pm_tl_some, pm_tl_none, hh.1, zc, lg_cmp_lt, lg_cmp_le, show ¬ (31 : Nat) = 32 by decide, and_false, if_false, and_self, if_true, nI_1]
  cases h with
  | none =>
    obtain ⟨n1, n2, n3⟩ := hh
    subst n2
    have hq : hp_ov c (none : hp_T) v = false := rfl
    rw [hq, if_neg (by decide)] at hQ
    by_cases c0 : c = 0
    · subst c0
      have : ¬ ((0 : Int64) ^^^ v < 0 ∧ v ^^^ v < 0) := fun q => by rw [Int64.xor_self] at q; exact absurd q.2 (by decide)
      simp only [if_true, n3, Int64.zero_add, Int64.xor_self, show ¬ (0 : Int64) < 0 by decide, if_false, ite_self]
      obtain ⟨y1, y2, y3⟩ := fM_c_ok (c := 0) (cnt := 0 + 1) (tt := v) (ff := i) hW frI.rf keep (by decide) (fun q => absurd q (by decide))
      exact hQ _ y1 y2 y3
    · by_cases c1 : c = 1
      · subst c1
        simp only [if_true, if_false, show ¬ (1 : Nat) = 0 by decide]
        obtain ⟨y1, y2, y3⟩ := fM_c_ok (c := 1) (cnt := 0 + 1) (tt := v) (ff := i) hW frI.rf keep (by decide) (fun q => absurd q (by decide))
        exact hQ _ y1 y2 y3
      · have c2 : c = 2 := by omega
        subst c2
        simp only [if_true, if_false, show ¬ (2 : Nat) = 0 by decide, show ¬ (2 : Nat) = 1 by decide]
        obtain ⟨y1, y2, y3⟩ := fM_c_ok (c := 2) (cnt := 0 + 1) (tt := (nI (0 + 1)).toInt64) (ff := i) hW frI.rf keep (by decide) (fun _ => rfl)
        exact hQ _ y1 y2 y3
  | some p =>
    obtain ⟨f, tt⟩ := p
    obtain ⟨n1, n2, n3, n4, n5⟩ := hh
    have nz : ¬ cnt = 0 := by omega
    by_cases c0 : c = 0
    · subst c0
      have hq : hp_ov 0 (some (f, tt)) v = decide (((tt ^^^ (tt + v)) &&& (v ^^^ (tt + v))) < 0) := rfl
      rw [hq] at hQ
      simp only [and_neg, decide_eq_true_eq] at hQ
      simp only [if_true, n3, n4, nz, if_false]
      by_cases q1 : tt ^^^ (tt + v) < 0
      · rw [if_pos q1]
        by_cases q2 : v ^^^ (tt + v) < 0
        · rw [if_pos q2]
          rw [if_pos ⟨q1, q2⟩] at hQ
          simp only [m_breaks hM hg, pm_tl_none, q118_0, q118_1, q118_4, q118_5, q118_6, q118_9, q118_10, q118_13, q118_14, q118_15, q118_17, q118_18, q118_21, q118_23, q118_24, q118_25, q118_26, q118_29, q118_30, q118_32, q118_33, q118_34, q118_35, q118_38, q118_39, q118_40, q118_41, q118_44, q118_45, q118_47, q118_50, q118_53, q118_54, q118_57, q118_58, q118_59, q118_60, q118_63, q118_64, q118_65, q118_68, q118_71, q118_72, q118_73, q118_76, q118_77, q118_80, q118_81, q118_84, q118_85, q118_88, q118_91, q118_94, q118_95, q118_96, q118_99, q118_100, q118_101, q118_102, q118_105, q118_106, q118_107, q118_110, q118_113, q118_114, q118_117, q118_118, q118_121, q118_124, q118_125, q118_126, q118_129, q118_130, q118_131, q118_134, q118_e]
          obtain ⟨b1, b2⟩ := mQ_brk (f := 3) hW.2.1 (by decide)
          have b2' : frI (mc m g) S (fM_breaks S m g 3) := frI.zi (by unfold mc; omega)
          have hM' : pm_sh (fM_breaks S m g 3) m = .inr 7 := sM_0 hM
          have g31 : pm_gi (fM_breaks S m g 3) m 31 = nI cnt := n1
          have g32 : pm_gi (fM_breaks S m g 3) m 32 = nI f := n3
          simp only [q118_0, q118_1, q118_4, q118_5, q118_6, q118_9, q118_10, q118_13, q118_14, q118_15, q118_17, q118_18, q118_21, q118_23, q118_24, q118_25, q118_26, q118_29, q118_30, q118_32, q118_33, q118_34, q118_35, q118_38, q118_39, q118_40, q118_41, q118_44, q118_45, q118_47, q118_50, q118_53, q118_54, q118_57, q118_58, q118_59, q118_60, q118_63, q118_64, q118_65, q118_68, q118_71, q118_72, q118_73, q118_76, q118_77, q118_80, q118_81, q118_84, q118_85, q118_88, q118_91, q118_94, q118_95, q118_96, q118_99, q118_100, q118_101, q118_102, q118_105, q118_106, q118_107, q118_110, q118_113, q118_114, q118_117, q118_118, q118_121, q118_124, q118_125, q118_126, q118_129, q118_130, q118_131, q118_134, q118_e, hM', ps_gi_nx, ps_gi_sz, ps_gi_sh, ps_gi_gi, ps_gi_gl, ps_gi_gr, ps_gi_zi, ps_gi_zl, ps_gi_zr, ps_gi_ar, ps_gi_al, ps_gl_nx, ps_gl_sz, ps_gl_sh, ps_gl_gi, ps_gl_gl, ps_gl_gr, ps_gl_zi, ps_gl_zl, ps_gl_zr, ps_gl_ar, ps_gl_al, ps_gr_nx, ps_gr_sz, ps_gr_sh, ps_gr_gi, ps_gr_gl, ps_gr_gr, ps_gr_zi, ps_gr_zl, ps_gr_zr, ps_gr_ar, ps_gr_al, ps_zi_nx, ps_zi_sz, ps_zi_sh, ps_zi_gi, ps_zi_gl, ps_zi_gr, ps_zi_zi, ps_zi_zl, ps_zi_zr, ps_zi_ar, ps_zi_al, ps_zl_nx, ps_zl_sz, ps_zl_sh, ps_zl_gi, ps_zl_gl, ps_zl_gr, ps_zl_zi, ps_zl_zl, ps_zl_zr, ps_zl_ar, ps_zl_al, ps_zr_nx, ps_zr_sz, ps_zr_sh, ps_zr_gi, ps_zr_gl, ps_zr_gr, ps_zr_zi, ps_zr_zl, ps_zr_zr, ps_zr_ar, ps_zr_al, pm_rf_some, pm_rf_none, pm_tl_some, pm_tl_none, g31, g32, zc, nz, show ¬ (31 : Nat) = 32 by decide, and_false, if_false, nI_1]
          obtain ⟨y1, y2, y3⟩ := fM_c_ok (c := 0) (cnt := cnt + 1) (tt := tt + v) (ff := f) hW b2' ⟨(sp_brk C 3).1, b1.2.1, b1.1, rfl⟩ (by omega) (fun q => absurd q (by decide))
          exact hQ _ y1 y2 y3
        · rw [if_neg q2]
          rw [if_neg (fun q => q2 q.2)] at hQ
          obtain ⟨y1, y2, y3⟩ := fM_c_ok (c := 0) (cnt := cnt + 1) (tt := tt + v) (ff := f) hW frI.rf keep (by omega) (fun q => absurd q (by decide))
          exact hQ _ y1 y2 y3
      · rw [if_neg q1]
        rw [if_neg (fun q => q1 q.1)] at hQ
        obtain ⟨y1, y2, y3⟩ := fM_c_ok (c := 0) (cnt := cnt + 1) (tt := tt + v) (ff := f) hW frI.rf keep (by omega) (fun q => absurd q (by decide))
        exact hQ _ y1 y2 y3
    · have hq : hp_ov c (some (f, tt)) v = false := by show (decide (c = 0) && _) = false; rw [decide_eq_false c0]; rfl
      rw [hq, if_neg (by decide)] at hQ
      by_cases c1 : c = 1
      · subst c1
        simp only [if_true, if_false, show ¬ (1 : Nat) = 0 by decide, n3, n4, nz]
        by_cases q : v ≤ tt
        · rw [if_pos q]
          obtain ⟨y1, y2, y3⟩ := fM_c_ok (c := 1) (cnt := cnt + 1) (tt := tt) (ff := f) hW frI.rf keep (by omega) (fun q => absurd q (by decide))
          refine hQ _ y1 ?_ y3
          have e : hp_in 1 (some (f, tt)) i v = some (f, tt) := by
            show some (f, if (1 : Nat) = 0 then _ else if (1 : Nat) = 1 then (if tt < v then v else tt) else _) = _
            rw [if_neg (by decide), if_pos rfl, if_neg (fun z => by rw [Int64.lt_iff_toInt_lt] at z; rw [Int64.le_iff_toInt_le] at q; omega)]
          rw [e]; exact y2
        · rw [if_neg q]
          obtain ⟨y1, y2, y3⟩ := fM_c_ok (c := 1) (cnt := cnt + 1) (tt := v) (ff := f) hW frI.rf keep (by omega) (fun q => absurd q (by decide))
          refine hQ _ y1 ?_ y3
          have e : hp_in 1 (some (f, tt)) i v = some (f, v) := by
            show some (f, if (1 : Nat) = 0 then _ else if (1 : Nat) = 1 then (if tt < v then v else tt) else _) = _
            rw [if_neg (by decide), if_pos rfl, if_pos (by rw [Int64.le_iff_toInt_le] at q; rw [Int64.lt_iff_toInt_lt]; omega)]
          rw [e]; exact y2
      · have c2 : c = 2 := by omega
        subst c2
        simp only [if_true, if_false, show ¬ (2 : Nat) = 0 by decide, show ¬ (2 : Nat) = 1 by decide, n3, nz]
        obtain ⟨y1, y2, y3⟩ := fM_c_ok (c := 2) (cnt := cnt + 1) (tt := (nI (cnt + 1)).toInt64) (ff := f) hW frI.rf keep (by omega) (fun _ => rfl)
        refine hQ _ y1 ?_ y3
        have e : hp_in 2 (some (f, tt)) i v = some (f, (nI (cnt + 1)).toInt64) := by
          show some (f, if (2 : Nat) = 0 then _ else if (2 : Nat) = 1 then _ else tt + 1) = _
          rw [if_neg (by decide), if_neg (by decide), n5 rfl, i64]
        rw [e]; exact y2
end
