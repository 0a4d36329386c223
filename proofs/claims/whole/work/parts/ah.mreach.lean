/-! ===== THE REFERENCE: reach ===== -/
def cn (v : Int64) : Nat := sp_cnt (bl v) 64
section
variable {p q : Nat → Bool} {h n N : Nat} {v w : Int64}
theorem sp_cnt_or (hq : ∀ i, q i = (p i || decide (h = i))) (hp : p h = false) : ∀ n, sp_cnt q n = sp_cnt p n + (if h < n then 1 else 0)
  | 0 => rfl
  | n + 1 => by
    rw [sp_cnt_s, sp_cnt_s, sp_cnt_or hq hp n, hq n]
    by_cases e : h = n
    · subst e
      rw [hp, if_neg (Nat.lt_irrefl h), if_pos (Nat.lt_succ_self h)]
      simp
    · rw [decide_eq_false e, Bool.or_false]
      by_cases c : h < n
      · rw [if_pos c, if_pos (show h < n + 1 by omega)]; omega
      · rw [if_neg c, if_neg (show ¬ h < n + 1 by omega)]; omega
theorem cn_or (hh : h < 64) (hp : bl v h = false) : cn (v ||| ((1 : Int64) <<< ((nI h).toInt64 &&& 63))) = cn v + 1 := by
  unfold cn
  rw [sp_cnt_or (p := bl v) (fun i => bl_or hh i) hp, if_pos hh]
theorem or_same (hh : h < 64) (hp : bl v h = true) : v ||| ((1 : Int64) <<< ((nI h).toInt64 &&& 63)) = v := by
  apply bl_ext
  intro k hk
  rw [bl_or hh]
  by_cases e : h = k
  · subst e; rw [hp]; rfl
  · rw [decide_eq_false e, Bool.or_false]
theorem sp_cnt_out (hp : ∀ i, N ≤ i → p i = false) : ∀ n, N ≤ n → sp_cnt p n = sp_cnt p N
  | 0, h => by have : N = 0 := by omega
               rw [this]
  | n + 1, h => by
    by_cases e : N = n + 1
    · rw [e]
    · rw [sp_cnt_s, sp_cnt_out hp n (by omega), hp n (by omega)]; rfl
theorem cn_le (hp : ∀ i, N ≤ i → bl v i = false) (hN : N ≤ 64) : cn v ≤ N := by
  unfold cn
  rw [sp_cnt_out hp 64 hN]
  exact sp_cnt_le _ _
end
section
variable {S0 S S' : pm_T} {m a n k d j N : Nat} {C : sp_C} {Z : sp_S} {Q : Option Value → pm_T → Prop} {g s : Int32} {v v0 : Int64}
theorem rc_1_c (ho : (sp_ar C k).1 < 40 ∧ (sp_ar C k).2.1 < 40) : (bl v (sp_ar C k).1 = true ∧ bl v (sp_ar C k).2.1 = false ∧ cn (rc_1 C v k) = cn v + 1) ∨ (¬ (bl v (sp_ar C k).1 = true ∧ bl v (sp_ar C k).2.1 = false) ∧ rc_1 C v k = v) := by
  unfold rc_1
  cases h1 : bl v (sp_ar C k).1 with
  | false => exact Or.inr ⟨(fun q => by cases q.1), (by rw [if_neg (by decide)])⟩
  | true =>
    rw [if_pos rfl]
    cases h2 : bl v (sp_ar C k).2.1 with
    | false => exact Or.inl ⟨rfl, rfl, cn_or (by omega) h2⟩
    | true => exact Or.inr ⟨(fun q => by cases q.2), or_same (by omega) h2⟩
theorem rc_1_out (ho : (sp_ar C k).2.1 < N) (hv : ∀ i, N ≤ i → bl v i = false) (hN : N ≤ 40) : ∀ i, N ≤ i → bl (rc_1 C v k) i = false := by
  intro i hi
  unfold rc_1
  split
  · rw [bl_or (by omega), hv i hi, decide_eq_false (by omega)]; rfl
  · exact hv i hi
theorem rc_f_le (ho : ∀ e, e < C.2.2.1.length → (sp_ar C e).1 < 40 ∧ (sp_ar C e).2.1 < 40) : ∀ k, k ≤ C.2.2.1.length → cn v ≤ cn (sp_for (rc_1 C) k 0 v) ∧ (cn (sp_for (rc_1 C) k 0 v) = cn v → sp_for (rc_1 C) k 0 v = v)
  | 0, _ => ⟨Nat.le_refl _, fun _ => rfl⟩
  | k + 1, hk => by
    obtain ⟨h1, h2⟩ := rc_f_le ho k (by omega)
    rw [sp_for_n]
    rcases rc_1_c (v := sp_for (rc_1 C) k 0 v) (ho k (by omega)) with ⟨-, -, e⟩ | ⟨-, e⟩
    · exact ⟨by omega, fun q => by omega⟩
    · rw [e]; exact ⟨h1, h2⟩
theorem ar33 (hM : sM S m) (hk : k < 40) : pm_ar S (m + 33) 2 (nI k) = true := pm_ar_nI (sM_s33 hM) hk (by decide)
/-- which nodes are met -/
def mMt (S : pm_T) (m N : Nat) (v : Int64) : Prop := ∀ i, i < N → pm_zi S (m + 33) i = if bl v i = true then 1 else 0
def mZ (S0 S : pm_T) (m : Nat) : Prop := frI (fun b _ => b = m + 33) S0 S
set_option maxHeartbeats 2000000 in
/-- one sweep -/
theorem m_sweep (hM0 : sM S0 m) (ha : a < 24) (hR0 : mR S0 m a C) (ho : sp_ok C) (hz : mZ S0 S m) (hm : mMt S m C.2.1.length v) (hv : ∀ i, C.2.1.length ≤ i → bl v i = false) {x : Int32}
    (hQ : ∀ S', mZ S0 S' m → mMt S' m C.2.1.length (rc_s C v) → pm_V (d + 1) 138 163 [.ref m, .int (nI a), .int x, .int (nI (cn (rc_s C v))), .int (if cn (rc_s C v) = cn v then 0 else 1), .int (nI C.2.2.1.length)] [] S' Q) :
    pm_V (d + 1) 138 97 [.ref m, .int (nI a), .int x, .int (nI (cn v)), .int 0, .int (nI 0)] [] S Q := by
  have l1 := hR0.2.1
  have l2 := hR0.2.2.2.1
  have o40 : ∀ e, e < C.2.2.1.length → (sp_ar C e).1 < 40 ∧ (sp_ar C e).2.1 < 40 := fun e he => by have := ho e he; omega
  refine lp (n := C.2.2.1.length) (Inv := fun k S => mZ S0 S m ∧ mMt S m C.2.1.length (sp_for (rc_1 C) k 0 v)) (head := fun k S => pm_V (d + 1) 138 97 [.ref m, .int (nI a), .int x, .int (nI (cn (sp_for (rc_1 C) k 0 v))), .int (if cn (sp_for (rc_1 C) k 0 v) = cn v then 0 else 1), .int (nI k)] [] S Q) ?_ ?_ S ⟨hz, hm⟩ |> fun h => by rw [show (if cn (sp_for (rc_1 C) 0 0 v) = cn v then (0 : Int32) else 1) = 0 from if_pos rfl] at h; exact h
  · rintro k S hk ⟨hz, hm⟩ hN
    have hM := sM_frI hM0 hz
    have hR := mR_fr hR0 hz (fun b k q1 q2 => by unfold mB at q1; omega)
    have o := ho k hk
    have e1 : nI k < nI C.2.2.1.length := nI_lt hk (by omega)
    have le := (rc_f_le (v := v) o40 k (by omega)).1
    generalize hw : sp_for (rc_1 C) k 0 v = w at *
    have es : sp_for (rc_1 C) (k + 1) 0 v = rc_1 C w k := by rw [sp_for_n, hw]
    rw [es] at hN
    rw [q138_97]
    simp only [q138_0, q138_1, q138_2, q138_5, q138_8, q138_10, q138_11, q138_12, q138_15, q138_16, q138_19, q138_20, q138_21, q138_24, q138_27, q138_28, q138_29, q138_30, q138_31, q138_34, q138_35, q138_36, q138_37, q138_38, q138_41, q138_44, q138_46, q138_47, q138_48, q138_50, q138_51, q138_54, q138_55, q138_56, q138_59, q138_60, q138_63, q138_64, q138_65, q138_66, q138_69, q138_70, q138_73, q138_74, q138_75, q138_78, q138_81, q138_82, q138_83, q138_84, q138_88, q138_91, q138_92, q138_94, q138_95, q138_99, q138_100, q138_103, q138_104, q138_105, q138_108, q138_109, q138_112, q138_113, q138_114, q138_116, q138_119, q138_120, q138_123, q138_124, q138_127, q138_128, q138_129, q138_131, q138_134, q138_135, q138_138, q138_139, q138_142, q138_143, q138_144, q138_146, q138_149, q138_150, q138_151, q138_154, q138_155, q138_157, q138_160, q138_166, q138_167, q138_e, sM_0 hM, sM_r9 hM, sM_r41 hM, pm_rf_some, ar9 hM ha, nc24 ha, hR.2.2.1, e1, if_true, mr_from hM hR ha hk, mr_to hM hR ha hk, pm_tl_some, ar33 hM (show (sp_ar C k).1 < 40 by omega), ar33 hM (show (sp_ar C k).2.1 < 40 by omega), nI_clamp (show (sp_ar C k).1 < 2 ^ 31 by omega), nI_clamp (show (sp_ar C k).2.1 < 2 ^ 31 by omega), hm _ o.1, hm _ o.2, pm_z1, nI_1, or_true, true_or]
    rcases rc_1_c (v := w) (o40 k hk) with ⟨h1, h2, h3⟩ | ⟨h1, h2⟩
    · have h2' : ¬ bl w (sp_ar C k).2.1 = true := by rw [h2]; decide
      have h4 : ¬ cn w + 1 = cn v := by omega
      rw [if_neg (fun z => z h1), if_pos h2']
      rw [h3, if_neg h4] at hN
      refine hN _ ⟨hz.tr (frI.zi rfl), fun i hi => ?_⟩
      rw [ps_zi_zi]
      have : rc_1 C w k = w ||| ((1 : Int64) <<< ((nI (sp_ar C k).2.1).toInt64 &&& 63)) := by unfold rc_1; rw [if_pos h1]
      rw [this, bl_or (by omega)]
      by_cases e : i = (sp_ar C k).2.1
      · rw [if_pos ⟨rfl, e⟩, ← e]; simp
      · rw [if_neg (fun z => e z.2), decide_eq_false (fun z => e z.symm), Bool.or_false]; exact hm i hi
    · rw [h2] at hN
      have stay := hN S ⟨hz, hm⟩
      by_cases q1 : bl w (sp_ar C k).1 = true
      · rw [if_neg (fun z => z q1)]
        rw [if_neg (fun z => h1 ⟨q1, by simpa using z⟩)]
        exact stay
      · rw [if_pos q1]
        exact stay
  · rintro S ⟨hz, hm⟩
    have hM := sM_frI hM0 hz
    have hR := mR_fr hR0 hz (fun b k q1 q2 => by unfold mB at q1; omega)
    have e1 : ¬ nI C.2.2.1.length < nI C.2.2.1.length := nI_nlt (Nat.le_refl _) (by omega)
    rw [q138_97]
    simp only [q138_0, q138_1, q138_2, q138_5, q138_8, q138_10, q138_11, q138_12, q138_15, q138_16, q138_19, q138_20, q138_21, q138_24, q138_27, q138_28, q138_29, q138_30, q138_31, q138_34, q138_35, q138_36, q138_37, q138_38, q138_41, q138_44, q138_46, q138_47, q138_48, q138_50, q138_51, q138_54, q138_55, q138_56, q138_59, q138_60, q138_63, q138_64, q138_65, q138_66, q138_69, q138_70, q138_73, q138_74, q138_75, q138_78, q138_81, q138_82, q138_83, q138_84, q138_88, q138_91, q138_92, q138_94, q138_95, q138_99, q138_100, q138_103, q138_104, q138_105, q138_108, q138_109, q138_112, q138_113, q138_114, q138_116, q138_119, q138_120, q138_123, q138_124, q138_127, q138_128, q138_129, q138_131, q138_134, q138_135, q138_138, q138_139, q138_142, q138_143, q138_144, q138_146, q138_149, q138_150, q138_151, q138_154, q138_155, q138_157, q138_160, q138_166, q138_167, q138_e, sM_0 hM, sM_r9 hM, pm_rf_some, ar9 hM ha, nc24 ha, hR.2.2.1, e1, if_false]
    exact hQ S hz hm
theorem rc_s_out (ho : sp_ok C) (hN : C.2.1.length ≤ 40) (hv : ∀ i, C.2.1.length ≤ i → bl v i = false) : ∀ i, C.2.1.length ≤ i → bl (rc_s C v) i = false := by
  unfold rc_s
  have : ∀ k, k ≤ C.2.2.1.length → ∀ i, C.2.1.length ≤ i → bl (sp_for (rc_1 C) k 0 v) i = false := by
    intro k
    induction k with
    | zero => intro _; exact hv
    | succ k ih => intro hk; rw [sp_for_n]; exact rc_1_out (ho k (by omega)).2 (ih (by omega)) hN
  exact this _ (Nat.le_refl _)
/-- until nothing more is met -/
theorem m_while (hM0 : sM S0 m) (ha : a < 24) (hR0 : mR S0 m a C) (ho : sp_ok C) {x : Int32} (hQ : ∀ S', mZ S0 S' m → Q (some (.int (nI (cn (rc_n C v0 C.2.1.length))))) S') : ∀ f k S l5, C.2.1.length ≤ cn (rc_n C v0 k) + f → k + 1 ≤ cn (rc_n C v0 k) → mZ S0 S m → mMt S m C.2.1.length (rc_n C v0 k) → (∀ i, C.2.1.length ≤ i → bl (rc_n C v0 k) i = false) → pm_V (d + 1) 138 86 [.ref m, .int (nI a), .int x, .int (nI (cn (rc_n C v0 k))), .int 1, l5] [] S Q := by
  have l1 := hR0.2.1
  have o40 : ∀ e, e < C.2.2.1.length → (sp_ar C e).1 < 40 ∧ (sp_ar C e).2.1 < 40 := fun e he => by have := ho e he; omega
  intro f
  induction f with
  | zero =>
    intro k S l5 hf hk hz hm hv
    have hc := cn_le hv (by omega)
    rw [q138_86]
    simp only [q138_0, q138_1, q138_2, q138_5, q138_8, q138_10, q138_11, q138_12, q138_15, q138_16, q138_19, q138_20, q138_21, q138_24, q138_27, q138_28, q138_29, q138_30, q138_31, q138_34, q138_35, q138_36, q138_37, q138_38, q138_41, q138_44, q138_46, q138_47, q138_48, q138_50, q138_51, q138_54, q138_55, q138_56, q138_59, q138_60, q138_63, q138_64, q138_65, q138_66, q138_69, q138_70, q138_73, q138_74, q138_75, q138_78, q138_81, q138_82, q138_83, q138_84, q138_88, q138_91, q138_92, q138_94, q138_95, q138_99, q138_100, q138_103, q138_104, q138_105, q138_108, q138_109, q138_112, q138_113, q138_114, q138_116, q138_119, q138_120, q138_123, q138_124, q138_127, q138_128, q138_129, q138_131, q138_134, q138_135, q138_138, q138_139, q138_142, q138_143, q138_144, q138_146, q138_149, q138_150, q138_151, q138_154, q138_155, q138_157, q138_160, q138_163, q138_166, q138_167, q138_e, show ¬ (1 : Int32) = 0 by decide, if_false]
    refine m_sweep hM0 ha hR0 ho hz hm hv fun S1 z1 m1 => ?_
    have hv1 := rc_s_out ho l1 hv
    have hc1 := cn_le hv1 (by omega)
    have le := rc_f_le (v := rc_n C v0 k) o40 C.2.2.1.length (Nat.le_refl _)
    have le1 : cn (rc_n C v0 k) ≤ cn (rc_s C (rc_n C v0 k)) := le.1
    have eq : cn (rc_s C (rc_n C v0 k)) = cn (rc_n C v0 k) := by omega
    have ev : rc_s C (rc_n C v0 k) = rc_n C v0 k := le.2 eq
    rw [if_pos eq, ev]
    simp only [q138_0, q138_1, q138_2, q138_5, q138_8, q138_10, q138_11, q138_12, q138_15, q138_16, q138_19, q138_20, q138_21, q138_24, q138_27, q138_28, q138_29, q138_30, q138_31, q138_34, q138_35, q138_36, q138_37, q138_38, q138_41, q138_44, q138_46, q138_47, q138_48, q138_50, q138_51, q138_54, q138_55, q138_56, q138_59, q138_60, q138_63, q138_64, q138_65, q138_66, q138_69, q138_70, q138_73, q138_74, q138_75, q138_78, q138_81, q138_82, q138_83, q138_84, q138_88, q138_91, q138_92, q138_94, q138_95, q138_99, q138_100, q138_103, q138_104, q138_105, q138_108, q138_109, q138_112, q138_113, q138_114, q138_116, q138_119, q138_120, q138_123, q138_124, q138_127, q138_128, q138_129, q138_131, q138_134, q138_135, q138_138, q138_139, q138_142, q138_143, q138_144, q138_146, q138_149, q138_150, q138_151, q138_154, q138_155, q138_157, q138_160, q138_163, q138_166, q138_167, q138_e]
    rw [q138_86]
    simp only [q138_0, q138_1, q138_2, q138_5, q138_8, q138_10, q138_11, q138_12, q138_15, q138_16, q138_19, q138_20, q138_21, q138_24, q138_27, q138_28, q138_29, q138_30, q138_31, q138_34, q138_35, q138_36, q138_37, q138_38, q138_41, q138_44, q138_46, q138_47, q138_48, q138_50, q138_51, q138_54, q138_55, q138_56, q138_59, q138_60, q138_63, q138_64, q138_65, q138_66, q138_69, q138_70, q138_73, q138_74, q138_75, q138_78, q138_81, q138_82, q138_83, q138_84, q138_88, q138_91, q138_92, q138_94, q138_95, q138_99, q138_100, q138_103, q138_104, q138_105, q138_108, q138_109, q138_112, q138_113, q138_114, q138_116, q138_119, q138_120, q138_123, q138_124, q138_127, q138_128, q138_129, q138_131, q138_134, q138_135, q138_138, q138_139, q138_142, q138_143, q138_144, q138_146, q138_149, q138_150, q138_151, q138_154, q138_155, q138_157, q138_160, q138_163, q138_166, q138_167, q138_e, if_true]
    have := hQ S1 z1
    rw [rc_stay (k := k) ev C.2.1.length (by omega)] at this
    exact this
  | succ f ih =>
    intro k S l5 hf hk hz hm hv
    have hc := cn_le hv (by omega)
    rw [q138_86]
    simp only [q138_0, q138_1, q138_2, q138_5, q138_8, q138_10, q138_11, q138_12, q138_15, q138_16, q138_19, q138_20, q138_21, q138_24, q138_27, q138_28, q138_29, q138_30, q138_31, q138_34, q138_35, q138_36, q138_37, q138_38, q138_41, q138_44, q138_46, q138_47, q138_48, q138_50, q138_51, q138_54, q138_55, q138_56, q138_59, q138_60, q138_63, q138_64, q138_65, q138_66, q138_69, q138_70, q138_73, q138_74, q138_75, q138_78, q138_81, q138_82, q138_83, q138_84, q138_88, q138_91, q138_92, q138_94, q138_95, q138_99, q138_100, q138_103, q138_104, q138_105, q138_108, q138_109, q138_112, q138_113, q138_114, q138_116, q138_119, q138_120, q138_123, q138_124, q138_127, q138_128, q138_129, q138_131, q138_134, q138_135, q138_138, q138_139, q138_142, q138_143, q138_144, q138_146, q138_149, q138_150, q138_151, q138_154, q138_155, q138_157, q138_160, q138_163, q138_166, q138_167, q138_e, show ¬ (1 : Int32) = 0 by decide, if_false]
    refine m_sweep hM0 ha hR0 ho hz hm hv fun S1 z1 m1 => ?_
    have hv1 := rc_s_out ho l1 hv
    have le := rc_f_le (v := rc_n C v0 k) o40 C.2.2.1.length (Nat.le_refl _)
    have le1 : cn (rc_n C v0 k) ≤ cn (rc_s C (rc_n C v0 k)) := le.1
    simp only [q138_0, q138_1, q138_2, q138_5, q138_8, q138_10, q138_11, q138_12, q138_15, q138_16, q138_19, q138_20, q138_21, q138_24, q138_27, q138_28, q138_29, q138_30, q138_31, q138_34, q138_35, q138_36, q138_37, q138_38, q138_41, q138_44, q138_46, q138_47, q138_48, q138_50, q138_51, q138_54, q138_55, q138_56, q138_59, q138_60, q138_63, q138_64, q138_65, q138_66, q138_69, q138_70, q138_73, q138_74, q138_75, q138_78, q138_81, q138_82, q138_83, q138_84, q138_88, q138_91, q138_92, q138_94, q138_95, q138_99, q138_100, q138_103, q138_104, q138_105, q138_108, q138_109, q138_112, q138_113, q138_114, q138_116, q138_119, q138_120, q138_123, q138_124, q138_127, q138_128, q138_129, q138_131, q138_134, q138_135, q138_138, q138_139, q138_142, q138_143, q138_144, q138_146, q138_149, q138_150, q138_151, q138_154, q138_155, q138_157, q138_160, q138_163, q138_166, q138_167, q138_e]
    by_cases eq : cn (rc_s C (rc_n C v0 k)) = cn (rc_n C v0 k)
    · have ev : rc_s C (rc_n C v0 k) = rc_n C v0 k := le.2 eq
      rw [if_pos eq, ev, q138_86]
      simp only [q138_0, q138_1, q138_2, q138_5, q138_8, q138_10, q138_11, q138_12, q138_15, q138_16, q138_19, q138_20, q138_21, q138_24, q138_27, q138_28, q138_29, q138_30, q138_31, q138_34, q138_35, q138_36, q138_37, q138_38, q138_41, q138_44, q138_46, q138_47, q138_48, q138_50, q138_51, q138_54, q138_55, q138_56, q138_59, q138_60, q138_63, q138_64, q138_65, q138_66, q138_69, q138_70, q138_73, q138_74, q138_75, q138_78, q138_81, q138_82, q138_83, q138_84, q138_88, q138_91, q138_92, q138_94, q138_95, q138_99, q138_100, q138_103, q138_104, q138_105, q138_108, q138_109, q138_112, q138_113, q138_114, q138_116, q138_119, q138_120, q138_123, q138_124, q138_127, q138_128, q138_129, q138_131, q138_134, q138_135, q138_138, q138_139, q138_142, q138_143, q138_144, q138_146, q138_149, q138_150, q138_151, q138_154, q138_155, q138_157, q138_160, q138_163, q138_166, q138_167, q138_e, if_true]
      have := hQ S1 z1
      rw [rc_stay (k := k) ev C.2.1.length (by omega)] at this
      exact this
    · rw [if_neg eq]
      have e2 : rc_n C v0 (k + 1) = rc_s C (rc_n C v0 k) := rfl
      have := ih (k + 1) S1 (.int (nI C.2.2.1.length)) (by rw [e2]; omega) (by rw [e2]; omega) z1 (by rw [e2]; exact m1) (by rw [e2]; exact hv1)
      rw [e2] at this
      exact this
theorem bl_rc0 {s : Nat} (hs : s < 40) (i : Nat) : bl (rc_0 s) i = decide (s = i) := bl_bit (by omega) i
theorem cn_rc0 {s : Nat} (hs : s < 40) : cn (rc_0 s) = 1 := by
  have := cn_or (v := 0) (h := s) (by omega) (bl_0 s)
  have e : (0 : Int64) ||| ((1 : Int64) <<< ((nI s).toInt64 &&& 63)) = rc_0 s := by
    apply bl_ext
    intro k hk
    rw [bl_or (by omega), bl_0, bl_rc0 hs, Bool.false_or]
  rw [e] at this
  rw [this]
  have : cn 0 = 0 := by
    unfold cn
    have : ∀ n, sp_cnt (bl 0) n = 0 := by
      intro n
      induction n with
      | zero => rfl
      | succ n ih => rw [sp_cnt_s, ih, bl_0]; rfl
    exact this 64
  omega
set_option maxHeartbeats 2000000 in
theorem m_reach (hw : wf Z) (hI : mI S m Z) (hQ : ∀ S', mI S' m Z → mF m S S' → Q (some (.int (op_reach Z g s))) S') : pm_N (d + 9) 138 [.ref m, .int g, .int s] S Q := by
  have h24 := hw.1
  have hM := hI.1.1
  unfold op_reach at hQ
  simp only [q138_0, q138_1, q138_2, q138_5, q138_8, q138_10, q138_11, q138_12, q138_15, q138_16, q138_19, q138_20, q138_21, q138_24, q138_27, q138_28, q138_29, q138_30, q138_31, q138_34, q138_35, q138_36, q138_37, q138_38, q138_41, q138_44, q138_46, q138_47, q138_48, q138_50, q138_51, q138_54, q138_55, q138_56, q138_59, q138_60, q138_63, q138_64, q138_65, q138_66, q138_69, q138_70, q138_73, q138_74, q138_75, q138_78, q138_81, q138_82, q138_83, q138_84, q138_86, q138_88, q138_91, q138_92, q138_94, q138_95, q138_97, q138_99, q138_100, q138_103, q138_104, q138_105, q138_108, q138_109, q138_112, q138_113, q138_114, q138_116, q138_119, q138_120, q138_123, q138_124, q138_127, q138_128, q138_129, q138_131, q138_134, q138_135, q138_138, q138_139, q138_142, q138_143, q138_144, q138_146, q138_149, q138_150, q138_151, q138_154, q138_155, q138_157, q138_160, q138_163, q138_166, q138_167, q138_e, sM_0 hM, m_isG hw hI.1, pm_tl_some, pm_z1]
  cases hk : ix g Z.1.length with
  | none =>
    rw [hk] at hQ
    simp only [Option.isSome_none, Bool.false_eq_true, not_false_eq_true, if_true]
    exact hQ S hI mF.rf
  | some j =>
    rw [hk] at hQ
    dsimp only at hQ
    obtain ⟨hj, rfl⟩ := ix_some (by omega) hk
    have hj24 : j < 24 := by omega
    simp only [Option.isSome_some, not_true_eq_false, if_false]
    refine m_reckon (d := d) hw hI fun S1 i1 hA f1 n1 z1 => ?_
    have hM1 := i1.1.1
    have hC := hA j hj
    have z7 := mC_7 hC
    have F1 : mF m S S1 := ⟨f1, n1, z1⟩
    simp only [pm_tl_none, q138_0, q138_1, q138_2, q138_5, q138_8, q138_10, q138_11, q138_12, q138_15, q138_16, q138_19, q138_20, q138_21, q138_24, q138_27, q138_28, q138_29, q138_30, q138_31, q138_34, q138_35, q138_36, q138_37, q138_38, q138_41, q138_44, q138_46, q138_47, q138_48, q138_50, q138_51, q138_54, q138_55, q138_56, q138_59, q138_60, q138_63, q138_64, q138_65, q138_66, q138_69, q138_70, q138_73, q138_74, q138_75, q138_78, q138_81, q138_82, q138_83, q138_84, q138_86, q138_88, q138_91, q138_92, q138_94, q138_95, q138_97, q138_99, q138_100, q138_103, q138_104, q138_105, q138_108, q138_109, q138_112, q138_113, q138_114, q138_116, q138_119, q138_120, q138_123, q138_124, q138_127, q138_128, q138_129, q138_131, q138_134, q138_135, q138_138, q138_139, q138_142, q138_143, q138_144, q138_146, q138_149, q138_150, q138_151, q138_154, q138_155, q138_157, q138_160, q138_163, q138_166, q138_167, q138_e, sM_0 hM1, sM_r7 hM1, pm_rf_some, ar7 hM1 hj24, nc24 hj24, z7]
    by_cases c6 : (ct Z j).1 = 0
    · rw [if_pos c6]; rw [if_pos c6] at hQ
      obtain ⟨r1, -, -⟩ := hC.2.2 c6
      have l1 := r1.2.1
      have ho := ct_gd hw _ _ (Nat.lt_succ_self _) hj c6
      simp only [q138_0, q138_1, q138_2, q138_5, q138_8, q138_10, q138_11, q138_12, q138_15, q138_16, q138_19, q138_20, q138_21, q138_24, q138_27, q138_28, q138_29, q138_30, q138_31, q138_34, q138_35, q138_36, q138_37, q138_38, q138_41, q138_44, q138_46, q138_47, q138_48, q138_50, q138_51, q138_54, q138_55, q138_56, q138_59, q138_60, q138_63, q138_64, q138_65, q138_66, q138_69, q138_70, q138_73, q138_74, q138_75, q138_78, q138_81, q138_82, q138_83, q138_84, q138_86, q138_88, q138_91, q138_92, q138_94, q138_95, q138_97, q138_99, q138_100, q138_103, q138_104, q138_105, q138_108, q138_109, q138_112, q138_113, q138_114, q138_116, q138_119, q138_120, q138_123, q138_124, q138_127, q138_128, q138_129, q138_131, q138_134, q138_135, q138_138, q138_139, q138_142, q138_143, q138_144, q138_146, q138_149, q138_150, q138_151, q138_154, q138_155, q138_157, q138_160, q138_163, q138_166, q138_167, q138_e, sM_0 hM1, sM_r8 hM1, pm_rf_some, ar8 hM1 hj24, nc24 hj24, r1.1, m_in, in_ix (g := s) (show (ct Z j).2.1.length < 2 ^ 30 by omega), pm_tl_some, pm_z1]
      cases he : ix s (ct Z j).2.1.length with
      | none =>
        rw [he] at hQ
        simp only [Option.isSome_none, Bool.false_eq_true, not_false_eq_true, if_true]
        exact hQ S1 i1 F1
      | some k =>
        rw [he] at hQ
        dsimp only at hQ
        obtain ⟨hk1, rfl⟩ := ix_some (by omega) he
        simp only [Option.isSome_some, not_true_eq_false, if_false]
        have bz : ∀ i, (ct Z j).2.1.length ≤ i → bl (rc_0 k) i = false := fun i hi => by rw [bl_rc0 (by omega), decide_eq_false (by omega)]
        refine lp (n := (ct Z j).2.1.length) (Inv := fun i S => mZ S1 S m ∧ ∀ i', i' < i → pm_zi S (m + 33) i' = if bl (rc_0 k) i' = true then 1 else 0) (head := fun i S => pm_V (d + 9) 138 49 [.ref m, .int (nI j), .int (nI k), .int (nI i), pm_j, pm_j] [] S Q) ?_ ?_ S1 ⟨frI.rf, fun i hi => by omega⟩
        · rintro i S2 hi ⟨hz, hm⟩ hN
          have hM2 := sM_frI hM1 hz
          have hR := mR_fr r1 hz (fun b k q1 q2 => by unfold mB at q1; omega)
          have e1 : nI i < nI (ct Z j).2.1.length := nI_lt hi (by omega)
          have zz : (nI i = nI k) = (i = k) := nI_e' (by omega) (by omega)
          rw [q138_49]
          simp only [q138_0, q138_1, q138_2, q138_5, q138_8, q138_10, q138_11, q138_12, q138_15, q138_16, q138_19, q138_20, q138_21, q138_24, q138_27, q138_28, q138_29, q138_30, q138_31, q138_34, q138_35, q138_36, q138_37, q138_38, q138_41, q138_44, q138_46, q138_47, q138_48, q138_50, q138_51, q138_54, q138_55, q138_56, q138_59, q138_60, q138_63, q138_64, q138_65, q138_66, q138_69, q138_70, q138_73, q138_74, q138_75, q138_78, q138_81, q138_82, q138_83, q138_84, q138_88, q138_91, q138_92, q138_94, q138_95, q138_97, q138_99, q138_100, q138_103, q138_104, q138_105, q138_108, q138_109, q138_112, q138_113, q138_114, q138_116, q138_119, q138_120, q138_123, q138_124, q138_127, q138_128, q138_129, q138_131, q138_134, q138_135, q138_138, q138_139, q138_142, q138_143, q138_144, q138_146, q138_149, q138_150, q138_151, q138_154, q138_155, q138_157, q138_160, q138_163, q138_166, q138_167, q138_e, sM_0 hM2, sM_r8 hM2, sM_r41 hM2, pm_rf_some, ar8 hM2 hj24, nc24 hj24, hR.1, e1, if_true, ar33 hM2 (show i < 40 by omega), nI_clamp (show i < 2 ^ 31 by omega), zz, or_true, true_or, nI_1]
          have fin : ∀ x : Int32, x = (if bl (rc_0 k) i = true then 1 else 0) → pm_V (d + 9) 138 49 [.ref m, .int (nI j), .int (nI k), .int (nI (i + 1)), pm_j, pm_j] [] (pm_szi S2 (m + 33) i x) Q := fun x hx => by
            refine hN _ ⟨hz.tr (frI.zi rfl), fun i' hi' => ?_⟩
            rw [ps_zi_zi]
            by_cases e : i' = i
            · rw [if_pos ⟨rfl, e⟩, e]; exact hx
            · rw [if_neg (fun q => e q.2)]; exact hm i' (by omega)
          by_cases e : i = k
          · rw [if_pos e]; exact fin 1 (by rw [bl_rc0 (by omega), decide_eq_true e.symm]; rfl)
          · rw [if_neg e]; exact fin 0 (by rw [bl_rc0 (by omega), decide_eq_false (fun q => e q.symm)]; rfl)
        · rintro S2 ⟨hz, hm⟩
          have hM2 := sM_frI hM1 hz
          have hR := mR_fr r1 hz (fun b k q1 q2 => by unfold mB at q1; omega)
          have e1 : ¬ nI (ct Z j).2.1.length < nI (ct Z j).2.1.length := nI_nlt (Nat.le_refl _) (by omega)
          rw [q138_49]
          simp only [q138_0, q138_1, q138_2, q138_5, q138_8, q138_10, q138_11, q138_12, q138_15, q138_16, q138_19, q138_20, q138_21, q138_24, q138_27, q138_28, q138_29, q138_30, q138_31, q138_34, q138_35, q138_36, q138_37, q138_38, q138_41, q138_44, q138_46, q138_47, q138_48, q138_50, q138_51, q138_54, q138_55, q138_56, q138_59, q138_60, q138_63, q138_64, q138_65, q138_66, q138_69, q138_70, q138_73, q138_74, q138_75, q138_78, q138_81, q138_82, q138_83, q138_84, q138_88, q138_91, q138_92, q138_94, q138_95, q138_97, q138_99, q138_100, q138_103, q138_104, q138_105, q138_108, q138_109, q138_112, q138_113, q138_114, q138_116, q138_119, q138_120, q138_123, q138_124, q138_127, q138_128, q138_129, q138_131, q138_134, q138_135, q138_138, q138_139, q138_142, q138_143, q138_144, q138_146, q138_149, q138_150, q138_151, q138_154, q138_155, q138_157, q138_160, q138_163, q138_166, q138_167, q138_e, sM_0 hM2, sM_r8 hM2, pm_rf_some, ar8 hM2 hj24, nc24 hj24, hR.1, e1, if_false]
          have c0 := cn_rc0 (s := k) (by omega)
          have := m_while (d := d + 8) (v0 := rc_0 k) (Q := Q) (x := nI k) hM1 hj24 r1 ho (fun S3 z3 => hQ S3 (mI_s hw i1 (frI.mono z3 (fun b k q => by unfold mS; omega))) (F1.tr (mF.I z3 (fun b k q => by unfold mO; omega)))) (ct Z j).2.1.length 0 S2 pm_j (by omega) (by show 0 + 1 ≤ cn (rc_0 k); omega) hz hm bz
          rw [show rc_n (ct Z j) (rc_0 k) 0 = rc_0 k from rfl, c0] at this
          exact this
    · rw [if_neg c6]; rw [if_neg c6] at hQ; exact hQ S1 i1 F1
end
