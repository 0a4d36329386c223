/-! ===== the class: PRODUCT ===== -/
/-- n nodes, m arcs would be there; or that is too many -/
def sp_z (C : sp_C) (n m : Nat) : Prop := (n ≤ 40 ∧ m ≤ 120 ∧ C.1 = 0 ∧ C.2.1.length = n ∧ C.2.2.1.length = m) ∨ ((40 < n ∨ 120 < m) ∧ C.1 = 4)
theorem sp_z_N {C : sp_C} {n m : Nat} {q : sp_N} (h : sp_z C n m) : sp_z (sp_addN C q) (n + 1) m := by
  rcases h with ⟨h1, h2, h3, h4, h5⟩ | ⟨h1, h2⟩
  · unfold sp_addN sp_brk
    by_cases e : C.2.1.length = 40
    · rw [if_pos e, if_pos h3]; exact Or.inr ⟨by omega, rfl⟩
    · rw [if_neg e, if_pos h3]; exact Or.inl ⟨by omega, h2, h3, by simp [h4], h5⟩
  · rw [sp_addN_ne (by omega)]
    exact Or.inr ⟨by omega, h2⟩
theorem sp_z_A {C : sp_C} {n m : Nat} {q : sp_A} (h : sp_z C n m) : sp_z (sp_addA C q) n (m + 1) := by
  rcases h with ⟨h1, h2, h3, h4, h5⟩ | ⟨h1, h2⟩
  · unfold sp_addA sp_brk
    by_cases e : C.2.2.1.length = 120
    · rw [if_pos e, if_pos h3]; exact Or.inr ⟨by omega, rfl⟩
    · rw [if_neg e, if_pos h3]; exact Or.inl ⟨h1, by omega, h3, h4, by simp [h5]⟩
  · rw [sp_addA_ne (by omega)]
    exact Or.inr ⟨by omega, h2⟩
theorem sp_z_for {f : sp_C → Nat → sp_C} {x y : Nat} (hf : ∀ C i n m, sp_z C n m → sp_z (f C i) (n + x) (m + y)) : ∀ (k j : Nat) (C : sp_C) (n m : Nat), sp_z C n m → sp_z (sp_for f k j C) (n + k * x) (m + k * y)
  | 0, j, C, n, m, h => by simpa [sp_for_0] using h
  | k + 1, j, C, n, m, h => by
    rw [sp_for_s]
    have := sp_z_for hf k (j + 1) _ _ _ (hf C j n m h)
    rw [Nat.succ_mul, Nat.succ_mul, show n + (k * x + x) = n + x + k * x by omega, show m + (k * y + y) = m + y + k * y by omega]
    exact this
/-- sort 0: both move; 1: one moves; 2: one or both -/
def sp_prod (a b : sp_C) (c : Nat) (C : sp_C) : sp_C := if c = 1 then sp_movB a b (sp_movA a b (sp_pairN a b C)) else sp_movAB a b (if c = 0 then sp_pairN a b C else sp_movB a b (sp_movA a b (sp_pairN a b C)))
theorem sp_pairN_z {a b C : sp_C} {n m : Nat} (h : sp_z C n m) : sp_z (sp_pairN a b C) (n + a.2.1.length * b.2.1.length) m := by
  have := sp_z_for (f := fun C x => sp_for (fun C y => sp_addN C ((sp_nd a x).1 + (sp_nd b y).1, some x, some y)) b.2.1.length 0 C) (x := b.2.1.length) (y := 0) (fun C i n m h => by
    have := sp_z_for (f := fun C y => sp_addN C ((sp_nd a i).1 + (sp_nd b y).1, some i, some y)) (x := 1) (y := 0) (fun C j n m h => sp_z_N h) b.2.1.length 0 C n m h
    simpa using this) a.2.1.length 0 C n m h
  simpa [sp_pairN] using this
theorem sp_movA_z {a b C : sp_C} {n m : Nat} (h : sp_z C n m) : sp_z (sp_movA a b C) n (m + a.2.2.1.length * b.2.1.length) := by
  have := sp_z_for (f := fun C e => sp_for (fun C y => sp_addA C ((sp_ar a e).1 * b.2.1.length + y, (sp_ar a e).2.1 * b.2.1.length + y, (sp_ar a e).2.2.1, some e, none)) b.2.1.length 0 C) (x := 0) (y := b.2.1.length) (fun C i n m h => by
    have := sp_z_for (f := fun C y => sp_addA C ((sp_ar a i).1 * b.2.1.length + y, (sp_ar a i).2.1 * b.2.1.length + y, (sp_ar a i).2.2.1, some i, none)) (x := 0) (y := 1) (fun C j n m h => sp_z_A h) b.2.1.length 0 C n m h
    simpa using this) a.2.2.1.length 0 C n m h
  simpa [sp_movA] using this
theorem sp_movB_z {a b C : sp_C} {n m : Nat} (h : sp_z C n m) : sp_z (sp_movB a b C) n (m + a.2.1.length * b.2.2.1.length) := by
  have := sp_z_for (f := fun C x => sp_for (fun C f => sp_addA C (x * b.2.1.length + (sp_ar b f).1, x * b.2.1.length + (sp_ar b f).2.1, (sp_ar b f).2.2.1, none, some f)) b.2.2.1.length 0 C) (x := 0) (y := b.2.2.1.length) (fun C i n m h => by
    have := sp_z_for (f := fun C f => sp_addA C (i * b.2.1.length + (sp_ar b f).1, i * b.2.1.length + (sp_ar b f).2.1, (sp_ar b f).2.2.1, none, some f)) (x := 0) (y := 1) (fun C j n m h => sp_z_A h) b.2.2.1.length 0 C n m h
    simpa using this) a.2.1.length 0 C n m h
  simpa [sp_movB] using this
theorem sp_movAB_z {a b C : sp_C} {n m : Nat} (h : sp_z C n m) : sp_z (sp_movAB a b C) n (m + a.2.2.1.length * b.2.2.1.length) := by
  have := sp_z_for (f := fun C e => sp_for (fun C f => sp_addA C ((sp_ar a e).1 * b.2.1.length + (sp_ar b f).1, (sp_ar a e).2.1 * b.2.1.length + (sp_ar b f).2.1, (sp_ar a e).2.2.1 * (sp_ar b f).2.2.1, some e, some f)) b.2.2.1.length 0 C) (x := 0) (y := b.2.2.1.length) (fun C i n m h => by
    have := sp_z_for (f := fun C f => sp_addA C ((sp_ar a i).1 * b.2.1.length + (sp_ar b f).1, (sp_ar a i).2.1 * b.2.1.length + (sp_ar b f).2.1, (sp_ar a i).2.2.1 * (sp_ar b f).2.2.1, some i, some f)) (x := 0) (y := 1) (fun C j n m h => sp_z_A h) b.2.2.1.length 0 C n m h
    simpa using this) a.2.2.1.length 0 C n m h
  simpa [sp_movAB] using this
theorem sp_prod_z {a b : sp_C} {c : Nat} : sp_z (sp_prod a b c sp_0) (a.2.1.length * b.2.1.length) ((if c = 0 then 0 else a.2.2.1.length * b.2.1.length + a.2.1.length * b.2.2.1.length) + (if c = 1 then 0 else a.2.2.1.length * b.2.2.1.length)) := by
  have h0 : sp_z sp_0 0 0 := Or.inl ⟨by decide, by decide, rfl, rfl, rfl⟩
  have h1 := sp_pairN_z (a := a) (b := b) h0
  rw [Nat.zero_add] at h1
  have h2 := sp_movB_z (a := a) (b := b) (sp_movA_z (a := a) (b := b) h1)
  rw [Nat.zero_add] at h2
  unfold sp_prod
  by_cases c1 : c = 1
  · rw [if_pos c1, if_pos c1, if_neg (by omega)]
    exact h2
  · rw [if_neg c1, if_neg c1]
    by_cases c0 : c = 0
    · rw [if_pos c0, if_pos c0]
      exact sp_movAB_z h1
    · rw [if_neg c0, if_neg c0]
      exact sp_movAB_z h2
theorem cC_same {S : pm_T} {g : Nat} {C C' : sp_C} (h : cC S g C) (h0 : C.1 ≠ 0) (he : C'.1 = C.1) : cC S g C' := ⟨by rw [he]; exact h.1, by rw [he]; exact h.2.1, fun q => absurd (he ▸ q) h0, h.2.2.2⟩
section
variable {d r w a b g n k : Nat} {S : pm_T} {Q : Option Value → pm_T → Prop} {C Ca Cb : sp_C}
theorem nI_le' {a b : Nat} (ha : a < 2 ^ 31) (hb : b < 2 ^ 31) : (nI a ≤ nI b) = (a ≤ b) := by
  rw [Int32.le_iff_toInt_le, nI_toInt ha, nI_toInt hb]
  simp
theorem nI_e' {a b : Nat} (ha : a < 2 ^ 31) (hb : b < 2 ^ 31) : (nI a = nI b) = (a = b) := propext (nI_eq (by omega) (by omega))
theorem cW2_large {C' : sp_C} (h : cW2 S w a b Ca Cb C) (h0 : C'.1 = 4) : cW2 (pm_sgi S w 5 4) w a b Ca Cb C' ∧ sp_fr (cB w) S (pm_sgi S w 5 4) := by
  have f : sp_fr (cB w) S (pm_sgi S w 5 4) := sp_fr.gi ⟨by omega, by omega⟩ (fun _ => rfl)
  obtain ⟨h1, h2, h3, h4, h5, h6, h7⟩ := id h.1
  obtain ⟨-, b2, b3, b4, -, -, b7⟩ := id h.2
  have hc : cC (pm_sgi S w 5 4) w C' := by
    refine ⟨by rw [ps_gi_self, h0]; rfl, by omega, fun q => by omega, ?_⟩
    simpa [cZ, ps_gi_gi] using h5.2.2.2
  exact ⟨⟨⟨sG_fr h1 f, sG_fr h2 f, cC_fr h3 f (fun b hb hw => by unfold cB at hb hw; omega), h4, hc, Or.inr h0, h7⟩, ⟨sG_fr h1 f, sG_fr b2 f, cC_fr b3 f (fun b hb hw => by unfold cB at hb hw; omega), b4, hc, Or.inr h0, b7⟩⟩, f⟩
set_option maxHeartbeats 2000000 in
theorem c_multiply {c : Nat} (hc : pm_gi S w 10 = nI c) (hc3 : c < 3) (hW : cW2 S w a b Ca Cb sp_0) (hQ : ∀ S', cW2 S' w a b Ca Cb (sp_prod Ca Cb c sp_0) → sp_fr (cB w) S S' → Q none S') : pm_N (d + 4) 35 [.ref w, .ref a, .ref b] S Q := by
  obtain ⟨h1, h2, h3, h4, h5, h6, h7⟩ := id hW.1
  obtain ⟨-, b2, b3, b4, -, -, -⟩ := id hW.2
  have n1 := cC_n h3 h4
  have m1 := cC_m h3 h4
  have n2 := cC_n b3 b4
  have m2 := cC_m b3 b4
  have z := sp_prod_z (a := Ca) (b := Cb) (c := c)
  have B1 : Ca.2.1.length * Cb.2.1.length ≤ 1600 := Nat.mul_le_mul n1.2 n2.2
  have B2 : Ca.2.2.1.length * Cb.2.1.length ≤ 4800 := Nat.mul_le_mul m1.2 n2.2
  have B3 : Ca.2.1.length * Cb.2.2.1.length ≤ 4800 := Nat.mul_le_mul n1.2 m2.2
  have B4 : Ca.2.2.1.length * Cb.2.2.1.length ≤ 14400 := Nat.mul_le_mul m1.2 m2.2
  have big : (40 < Ca.2.1.length * Cb.2.1.length ∨ 120 < (if c = 0 then 0 else Ca.2.2.1.length * Cb.2.1.length + Ca.2.1.length * Cb.2.2.1.length) + (if c = 1 then 0 else Ca.2.2.1.length * Cb.2.2.1.length)) → Q none (pm_sgi S w 5 4) := by
    intro hb
    have h4 : (sp_prod Ca Cb c sp_0).1 = 4 := by
      rcases z with z | z
      · omega
      · exact z.2
    have := cW2_large hW h4
    exact hQ _ this.1 this.2
  have q40 : (nI (Ca.2.1.length * Cb.2.1.length) ≤ 40) = (Ca.2.1.length * Cb.2.1.length ≤ 40) := nI_le' (b := 40) (by omega) (by decide)
  generalize hA : Ca.2.1.length * Cb.2.1.length = A at *
  generalize hB : Ca.2.2.1.length * Cb.2.1.length = B at *
  generalize hD : Ca.2.1.length * Cb.2.2.1.length = D at *
  generalize hE : Ca.2.2.1.length * Cb.2.2.1.length = E at *
  rcases (show c = 0 ∨ c = 1 ∨ c = 2 by omega) with rfl | rfl | rfl
  · have q120 : (0 + nI E ≤ 120) = (E ≤ 120) := by rw [Int32.zero_add]; exact nI_le' (b := 120) (by omega) (by decide)
    have k0 : nI 0 = 0 := rfl
    simp only [q35_0, q35_1, q35_4, q35_5, q35_6, q35_9, q35_10, q35_13, q35_13N, q35_14, q35_17, q35_20, q35_20N, q35_21, q35_24, q35_27, q35_28, q35_28N, q35_29, q35_32, q35_35, q35_35N, q35_36, q35_39, q35_42, q35_43, q35_44, q35_46, q35_47, q35_48, q35_51, q35_52, q35_55, q35_55N, q35_56, q35_59, q35_62, q35_62N, q35_63, q35_66, q35_69, q35_70, q35_72, q35_72N, q35_73, q35_76, q35_79, q35_79N, q35_80, q35_83, q35_86, q35_87, q35_89, q35_92, q35_94, q35_96, q35_97, q35_99, q35_102, q35_103, q35_104, q35_107, q35_108, q35_109, q35_109N, q35_110, q35_110N, q35_111, q35_114, q35_115, q35_118, q35_119, q35_119N, q35_120, q35_120N, q35_121, q35_124, q35_125, q35_125N, q35_126, q35_126N, q35_127, q35_130, q35_131, q35_132, q35_135, q35_136, q35_136N, q35_137, q35_137N, q35_138, q35_141, q35_e, h2.1, h2.2.1, h2.2.2.1, h2.2.2.2.1, h2.2.2.2.2.1, h2.2.2.2.2.2.1, h2.2.2.2.2.2.2.2.2.1.1, h2.2.2.2.2.2.2.2.2.1.2.1, h2.2.2.2.2.2.2.2.2.1.2.2.1, h2.2.2.2.2.2.2.2.2.1.2.2.2.1, h2.2.2.2.2.2.2.2.2.2.1.1, h2.2.2.2.2.2.2.2.2.2.1.2.1, h2.2.2.2.2.2.2.2.2.2.1.2.2.1, h2.2.2.2.2.2.2.2.2.2.1.2.2.2.1, h2.2.2.2.2.2.2.2.2.2.2.1, h2.2.2.2.2.2.2.2.2.2.2.2.1, h2.2.2.2.2.2.2.2.2.2.2.2.2.1, h2.2.2.2.2.2.2.2.2.2.2.2.2.2.1, pm_rf_some, b2.1, b2.2.1, b2.2.2.1, b2.2.2.2.1, b2.2.2.2.2.1, b2.2.2.2.2.2.1, b2.2.2.2.2.2.2.2.2.1.1, b2.2.2.2.2.2.2.2.2.1.2.1, b2.2.2.2.2.2.2.2.2.1.2.2.1, b2.2.2.2.2.2.2.2.2.1.2.2.2.1, b2.2.2.2.2.2.2.2.2.2.1.1, b2.2.2.2.2.2.2.2.2.2.1.2.1, b2.2.2.2.2.2.2.2.2.2.1.2.2.1, b2.2.2.2.2.2.2.2.2.2.1.2.2.2.1, b2.2.2.2.2.2.2.2.2.2.2.1, b2.2.2.2.2.2.2.2.2.2.2.2.1, b2.2.2.2.2.2.2.2.2.2.2.2.2.1, b2.2.2.2.2.2.2.2.2.2.2.2.2.2.1, pm_rf_some, h1.1, hc, k0, if_true, show ¬ (0 : Int32) = 1 by decide, if_false, n1.1, n2.1, m1.1, m2.1, pk_mul, hA, hE, q40, q120, ps_gi_nx, ps_gi_sz, ps_gi_sh, ps_gi_gi, ps_gi_gl, ps_gi_gr, ps_gi_zi, ps_gi_zl, ps_gi_zr, ps_gi_ar, ps_gi_al, ps_gl_nx, ps_gl_sz, ps_gl_sh, ps_gl_gi, ps_gl_gl, ps_gl_gr, ps_gl_zi, ps_gl_zl, ps_gl_zr, ps_gl_ar, ps_gl_al, ps_gr_nx, ps_gr_sz, ps_gr_sh, ps_gr_gi, ps_gr_gl, ps_gr_gr, ps_gr_zi, ps_gr_zl, ps_gr_zr, ps_gr_ar, ps_gr_al, ps_zi_nx, ps_zi_sz, ps_zi_sh, ps_zi_gi, ps_zi_gl, ps_zi_gr, ps_zi_zi, ps_zi_zl, ps_zi_zr, ps_zi_ar, ps_zi_al, ps_zl_nx, ps_zl_sz, ps_zl_sh, ps_zl_gi, ps_zl_gl, ps_zl_gr, ps_zl_zi, ps_zl_zl, ps_zl_zr, ps_zl_ar, ps_zl_al, ps_zr_nx, ps_zr_sz, ps_zr_sh, ps_zr_gi, ps_zr_gl, ps_zr_gr, ps_zr_zi, ps_zr_zl, ps_zr_zr, ps_zr_ar, ps_zr_al, pm_rf_some, pm_rf_none, pm_tl_some, pm_tl_none]
    by_cases x1 : A ≤ 40
    · rw [if_pos x1]
      by_cases x2 : E ≤ 120
      · rw [if_pos x2]
        refine c_pairNodes hW fun S1 p1 f1 => ?_
        simp only [q35_0, q35_1, q35_4, q35_5, q35_6, q35_9, q35_10, q35_13, q35_13N, q35_14, q35_17, q35_20, q35_20N, q35_21, q35_24, q35_27, q35_28, q35_28N, q35_29, q35_32, q35_35, q35_35N, q35_36, q35_39, q35_42, q35_43, q35_44, q35_46, q35_47, q35_48, q35_51, q35_52, q35_55, q35_55N, q35_56, q35_59, q35_62, q35_62N, q35_63, q35_66, q35_69, q35_70, q35_72, q35_72N, q35_73, q35_76, q35_79, q35_79N, q35_80, q35_83, q35_86, q35_87, q35_89, q35_92, q35_94, q35_96, q35_97, q35_99, q35_102, q35_103, q35_104, q35_107, q35_108, q35_109, q35_109N, q35_110, q35_110N, q35_111, q35_114, q35_115, q35_118, q35_119, q35_119N, q35_120, q35_120N, q35_121, q35_124, q35_125, q35_125N, q35_126, q35_126N, q35_127, q35_130, q35_131, q35_132, q35_135, q35_136, q35_136N, q35_137, q35_137N, q35_138, q35_141, q35_e, pm_tl_none, if_true, show ¬ (0 : Int32) = 1 by decide, if_false]
        refine c_moveInBoth p1 fun S2 p2 f2 => ?_
        simp only [q35_0, q35_1, q35_4, q35_5, q35_6, q35_9, q35_10, q35_13, q35_13N, q35_14, q35_17, q35_20, q35_20N, q35_21, q35_24, q35_27, q35_28, q35_28N, q35_29, q35_32, q35_35, q35_35N, q35_36, q35_39, q35_42, q35_43, q35_44, q35_46, q35_47, q35_48, q35_51, q35_52, q35_55, q35_55N, q35_56, q35_59, q35_62, q35_62N, q35_63, q35_66, q35_69, q35_70, q35_72, q35_72N, q35_73, q35_76, q35_79, q35_79N, q35_80, q35_83, q35_86, q35_87, q35_89, q35_92, q35_94, q35_96, q35_97, q35_99, q35_102, q35_103, q35_104, q35_107, q35_108, q35_109, q35_109N, q35_110, q35_110N, q35_111, q35_114, q35_115, q35_118, q35_119, q35_119N, q35_120, q35_120N, q35_121, q35_124, q35_125, q35_125N, q35_126, q35_126N, q35_127, q35_130, q35_131, q35_132, q35_135, q35_136, q35_136N, q35_137, q35_137N, q35_138, q35_141, q35_e, pm_tl_none]
        exact hQ S2 p2 (f1.tr f2)
      · rw [if_neg x2]
        exact big (by simp; omega)
    · rw [if_neg x1]
      exact big (by simp; omega)
  · have q120 : (nI B + nI D + 0 ≤ 120) = (B + D ≤ 120) := by rw [Int32.add_zero, nI_add]; exact nI_le' (b := 120) (by omega) (by decide)
    have k0 : nI 1 = 1 := rfl
    simp only [q35_0, q35_1, q35_4, q35_5, q35_6, q35_9, q35_10, q35_13, q35_13N, q35_14, q35_17, q35_20, q35_20N, q35_21, q35_24, q35_27, q35_28, q35_28N, q35_29, q35_32, q35_35, q35_35N, q35_36, q35_39, q35_42, q35_43, q35_44, q35_46, q35_47, q35_48, q35_51, q35_52, q35_55, q35_55N, q35_56, q35_59, q35_62, q35_62N, q35_63, q35_66, q35_69, q35_70, q35_72, q35_72N, q35_73, q35_76, q35_79, q35_79N, q35_80, q35_83, q35_86, q35_87, q35_89, q35_92, q35_94, q35_96, q35_97, q35_99, q35_102, q35_103, q35_104, q35_107, q35_108, q35_109, q35_109N, q35_110, q35_110N, q35_111, q35_114, q35_115, q35_118, q35_119, q35_119N, q35_120, q35_120N, q35_121, q35_124, q35_125, q35_125N, q35_126, q35_126N, q35_127, q35_130, q35_131, q35_132, q35_135, q35_136, q35_136N, q35_137, q35_137N, q35_138, q35_141, q35_e, h2.1, h2.2.1, h2.2.2.1, h2.2.2.2.1, h2.2.2.2.2.1, h2.2.2.2.2.2.1, h2.2.2.2.2.2.2.2.2.1.1, h2.2.2.2.2.2.2.2.2.1.2.1, h2.2.2.2.2.2.2.2.2.1.2.2.1, h2.2.2.2.2.2.2.2.2.1.2.2.2.1, h2.2.2.2.2.2.2.2.2.2.1.1, h2.2.2.2.2.2.2.2.2.2.1.2.1, h2.2.2.2.2.2.2.2.2.2.1.2.2.1, h2.2.2.2.2.2.2.2.2.2.1.2.2.2.1, h2.2.2.2.2.2.2.2.2.2.2.1, h2.2.2.2.2.2.2.2.2.2.2.2.1, h2.2.2.2.2.2.2.2.2.2.2.2.2.1, h2.2.2.2.2.2.2.2.2.2.2.2.2.2.1, pm_rf_some, b2.1, b2.2.1, b2.2.2.1, b2.2.2.2.1, b2.2.2.2.2.1, b2.2.2.2.2.2.1, b2.2.2.2.2.2.2.2.2.1.1, b2.2.2.2.2.2.2.2.2.1.2.1, b2.2.2.2.2.2.2.2.2.1.2.2.1, b2.2.2.2.2.2.2.2.2.1.2.2.2.1, b2.2.2.2.2.2.2.2.2.2.1.1, b2.2.2.2.2.2.2.2.2.2.1.2.1, b2.2.2.2.2.2.2.2.2.2.1.2.2.1, b2.2.2.2.2.2.2.2.2.2.1.2.2.2.1, b2.2.2.2.2.2.2.2.2.2.2.1, b2.2.2.2.2.2.2.2.2.2.2.2.1, b2.2.2.2.2.2.2.2.2.2.2.2.2.1, b2.2.2.2.2.2.2.2.2.2.2.2.2.2.1, pm_rf_some, h1.1, hc, k0, if_true, show ¬ (1 : Int32) = 0 by decide, if_false, n1.1, n2.1, m1.1, m2.1, pk_mul, hA, hB, hD, hE, q40, q120, ps_gi_nx, ps_gi_sz, ps_gi_sh, ps_gi_gi, ps_gi_gl, ps_gi_gr, ps_gi_zi, ps_gi_zl, ps_gi_zr, ps_gi_ar, ps_gi_al, ps_gl_nx, ps_gl_sz, ps_gl_sh, ps_gl_gi, ps_gl_gl, ps_gl_gr, ps_gl_zi, ps_gl_zl, ps_gl_zr, ps_gl_ar, ps_gl_al, ps_gr_nx, ps_gr_sz, ps_gr_sh, ps_gr_gi, ps_gr_gl, ps_gr_gr, ps_gr_zi, ps_gr_zl, ps_gr_zr, ps_gr_ar, ps_gr_al, ps_zi_nx, ps_zi_sz, ps_zi_sh, ps_zi_gi, ps_zi_gl, ps_zi_gr, ps_zi_zi, ps_zi_zl, ps_zi_zr, ps_zi_ar, ps_zi_al, ps_zl_nx, ps_zl_sz, ps_zl_sh, ps_zl_gi, ps_zl_gl, ps_zl_gr, ps_zl_zi, ps_zl_zl, ps_zl_zr, ps_zl_ar, ps_zl_al, ps_zr_nx, ps_zr_sz, ps_zr_sh, ps_zr_gi, ps_zr_gl, ps_zr_gr, ps_zr_zi, ps_zr_zl, ps_zr_zr, ps_zr_ar, ps_zr_al, pm_rf_some, pm_rf_none, pm_tl_some, pm_tl_none]
    by_cases x1 : A ≤ 40
    · rw [if_pos x1]
      by_cases x2 : B + D ≤ 120
      · rw [if_pos x2]
        refine c_pairNodes hW fun S1 p1 f1 => ?_
        simp only [q35_0, q35_1, q35_4, q35_5, q35_6, q35_9, q35_10, q35_13, q35_13N, q35_14, q35_17, q35_20, q35_20N, q35_21, q35_24, q35_27, q35_28, q35_28N, q35_29, q35_32, q35_35, q35_35N, q35_36, q35_39, q35_42, q35_43, q35_44, q35_46, q35_47, q35_48, q35_51, q35_52, q35_55, q35_55N, q35_56, q35_59, q35_62, q35_62N, q35_63, q35_66, q35_69, q35_70, q35_72, q35_72N, q35_73, q35_76, q35_79, q35_79N, q35_80, q35_83, q35_86, q35_87, q35_89, q35_92, q35_94, q35_96, q35_97, q35_99, q35_102, q35_103, q35_104, q35_107, q35_108, q35_109, q35_109N, q35_110, q35_110N, q35_111, q35_114, q35_115, q35_118, q35_119, q35_119N, q35_120, q35_120N, q35_121, q35_124, q35_125, q35_125N, q35_126, q35_126N, q35_127, q35_130, q35_131, q35_132, q35_135, q35_136, q35_136N, q35_137, q35_137N, q35_138, q35_141, q35_e, pm_tl_none, if_true, show ¬ (1 : Int32) = 0 by decide, if_false]
        refine c_moveInA p1 fun S2 p2 f2 => ?_
        simp only [q35_0, q35_1, q35_4, q35_5, q35_6, q35_9, q35_10, q35_13, q35_13N, q35_14, q35_17, q35_20, q35_20N, q35_21, q35_24, q35_27, q35_28, q35_28N, q35_29, q35_32, q35_35, q35_35N, q35_36, q35_39, q35_42, q35_43, q35_44, q35_46, q35_47, q35_48, q35_51, q35_52, q35_55, q35_55N, q35_56, q35_59, q35_62, q35_62N, q35_63, q35_66, q35_69, q35_70, q35_72, q35_72N, q35_73, q35_76, q35_79, q35_79N, q35_80, q35_83, q35_86, q35_87, q35_89, q35_92, q35_94, q35_96, q35_97, q35_99, q35_102, q35_103, q35_104, q35_107, q35_108, q35_109, q35_109N, q35_110, q35_110N, q35_111, q35_114, q35_115, q35_118, q35_119, q35_119N, q35_120, q35_120N, q35_121, q35_124, q35_125, q35_125N, q35_126, q35_126N, q35_127, q35_130, q35_131, q35_132, q35_135, q35_136, q35_136N, q35_137, q35_137N, q35_138, q35_141, q35_e, pm_tl_none]
        refine c_moveInB p2 fun S3 p3 f3 => ?_
        simp only [q35_0, q35_1, q35_4, q35_5, q35_6, q35_9, q35_10, q35_13, q35_13N, q35_14, q35_17, q35_20, q35_20N, q35_21, q35_24, q35_27, q35_28, q35_28N, q35_29, q35_32, q35_35, q35_35N, q35_36, q35_39, q35_42, q35_43, q35_44, q35_46, q35_47, q35_48, q35_51, q35_52, q35_55, q35_55N, q35_56, q35_59, q35_62, q35_62N, q35_63, q35_66, q35_69, q35_70, q35_72, q35_72N, q35_73, q35_76, q35_79, q35_79N, q35_80, q35_83, q35_86, q35_87, q35_89, q35_92, q35_94, q35_96, q35_97, q35_99, q35_102, q35_103, q35_104, q35_107, q35_108, q35_109, q35_109N, q35_110, q35_110N, q35_111, q35_114, q35_115, q35_118, q35_119, q35_119N, q35_120, q35_120N, q35_121, q35_124, q35_125, q35_125N, q35_126, q35_126N, q35_127, q35_130, q35_131, q35_132, q35_135, q35_136, q35_136N, q35_137, q35_137N, q35_138, q35_141, q35_e, pm_tl_none, if_true]
        exact hQ S3 p3 ((f1.tr f2).tr f3)
      · rw [if_neg x2]
        exact big (by simp; omega)
    · rw [if_neg x1]
      exact big (by simp; omega)
  · have q120 : (nI B + nI D + nI E ≤ 120) = (B + D + E ≤ 120) := by rw [nI_add, nI_add]; exact nI_le' (b := 120) (by omega) (by decide)
    have k0 : nI 2 = 2 := rfl
    simp only [q35_0, q35_1, q35_4, q35_5, q35_6, q35_9, q35_10, q35_13, q35_13N, q35_14, q35_17, q35_20, q35_20N, q35_21, q35_24, q35_27, q35_28, q35_28N, q35_29, q35_32, q35_35, q35_35N, q35_36, q35_39, q35_42, q35_43, q35_44, q35_46, q35_47, q35_48, q35_51, q35_52, q35_55, q35_55N, q35_56, q35_59, q35_62, q35_62N, q35_63, q35_66, q35_69, q35_70, q35_72, q35_72N, q35_73, q35_76, q35_79, q35_79N, q35_80, q35_83, q35_86, q35_87, q35_89, q35_92, q35_94, q35_96, q35_97, q35_99, q35_102, q35_103, q35_104, q35_107, q35_108, q35_109, q35_109N, q35_110, q35_110N, q35_111, q35_114, q35_115, q35_118, q35_119, q35_119N, q35_120, q35_120N, q35_121, q35_124, q35_125, q35_125N, q35_126, q35_126N, q35_127, q35_130, q35_131, q35_132, q35_135, q35_136, q35_136N, q35_137, q35_137N, q35_138, q35_141, q35_e, h2.1, h2.2.1, h2.2.2.1, h2.2.2.2.1, h2.2.2.2.2.1, h2.2.2.2.2.2.1, h2.2.2.2.2.2.2.2.2.1.1, h2.2.2.2.2.2.2.2.2.1.2.1, h2.2.2.2.2.2.2.2.2.1.2.2.1, h2.2.2.2.2.2.2.2.2.1.2.2.2.1, h2.2.2.2.2.2.2.2.2.2.1.1, h2.2.2.2.2.2.2.2.2.2.1.2.1, h2.2.2.2.2.2.2.2.2.2.1.2.2.1, h2.2.2.2.2.2.2.2.2.2.1.2.2.2.1, h2.2.2.2.2.2.2.2.2.2.2.1, h2.2.2.2.2.2.2.2.2.2.2.2.1, h2.2.2.2.2.2.2.2.2.2.2.2.2.1, h2.2.2.2.2.2.2.2.2.2.2.2.2.2.1, pm_rf_some, b2.1, b2.2.1, b2.2.2.1, b2.2.2.2.1, b2.2.2.2.2.1, b2.2.2.2.2.2.1, b2.2.2.2.2.2.2.2.2.1.1, b2.2.2.2.2.2.2.2.2.1.2.1, b2.2.2.2.2.2.2.2.2.1.2.2.1, b2.2.2.2.2.2.2.2.2.1.2.2.2.1, b2.2.2.2.2.2.2.2.2.2.1.1, b2.2.2.2.2.2.2.2.2.2.1.2.1, b2.2.2.2.2.2.2.2.2.2.1.2.2.1, b2.2.2.2.2.2.2.2.2.2.1.2.2.2.1, b2.2.2.2.2.2.2.2.2.2.2.1, b2.2.2.2.2.2.2.2.2.2.2.2.1, b2.2.2.2.2.2.2.2.2.2.2.2.2.1, b2.2.2.2.2.2.2.2.2.2.2.2.2.2.1, pm_rf_some, h1.1, hc, k0, if_true, show ¬ (2 : Int32) = 0 by decide, show ¬ (2 : Int32) = 1 by decide, if_false, n1.1, n2.1, m1.1, m2.1, pk_mul, hA, hB, hD, hE, q40, q120, ps_gi_nx, ps_gi_sz, ps_gi_sh, ps_gi_gi, ps_gi_gl, ps_gi_gr, ps_gi_zi, ps_gi_zl, ps_gi_zr, ps_gi_ar, ps_gi_al, ps_gl_nx, ps_gl_sz, ps_gl_sh, ps_gl_gi, ps_gl_gl, ps_gl_gr, ps_gl_zi, ps_gl_zl, ps_gl_zr, ps_gl_ar, ps_gl_al, ps_gr_nx, ps_gr_sz, ps_gr_sh, ps_gr_gi, ps_gr_gl, ps_gr_gr, ps_gr_zi, ps_gr_zl, ps_gr_zr, ps_gr_ar, ps_gr_al, ps_zi_nx, ps_zi_sz, ps_zi_sh, ps_zi_gi, ps_zi_gl, ps_zi_gr, ps_zi_zi, ps_zi_zl, ps_zi_zr, ps_zi_ar, ps_zi_al, ps_zl_nx, ps_zl_sz, ps_zl_sh, ps_zl_gi, ps_zl_gl, ps_zl_gr, ps_zl_zi, ps_zl_zl, ps_zl_zr, ps_zl_ar, ps_zl_al, ps_zr_nx, ps_zr_sz, ps_zr_sh, ps_zr_gi, ps_zr_gl, ps_zr_gr, ps_zr_zi, ps_zr_zl, ps_zr_zr, ps_zr_ar, ps_zr_al, pm_rf_some, pm_rf_none, pm_tl_some, pm_tl_none]
    by_cases x1 : A ≤ 40
    · rw [if_pos x1]
      by_cases x2 : B + D + E ≤ 120
      · rw [if_pos x2]
        refine c_pairNodes hW fun S1 p1 f1 => ?_
        simp only [q35_0, q35_1, q35_4, q35_5, q35_6, q35_9, q35_10, q35_13, q35_13N, q35_14, q35_17, q35_20, q35_20N, q35_21, q35_24, q35_27, q35_28, q35_28N, q35_29, q35_32, q35_35, q35_35N, q35_36, q35_39, q35_42, q35_43, q35_44, q35_46, q35_47, q35_48, q35_51, q35_52, q35_55, q35_55N, q35_56, q35_59, q35_62, q35_62N, q35_63, q35_66, q35_69, q35_70, q35_72, q35_72N, q35_73, q35_76, q35_79, q35_79N, q35_80, q35_83, q35_86, q35_87, q35_89, q35_92, q35_94, q35_96, q35_97, q35_99, q35_102, q35_103, q35_104, q35_107, q35_108, q35_109, q35_109N, q35_110, q35_110N, q35_111, q35_114, q35_115, q35_118, q35_119, q35_119N, q35_120, q35_120N, q35_121, q35_124, q35_125, q35_125N, q35_126, q35_126N, q35_127, q35_130, q35_131, q35_132, q35_135, q35_136, q35_136N, q35_137, q35_137N, q35_138, q35_141, q35_e, pm_tl_none, if_true, show ¬ (2 : Int32) = 0 by decide, if_false]
        refine c_moveInA p1 fun S2 p2 f2 => ?_
        simp only [q35_0, q35_1, q35_4, q35_5, q35_6, q35_9, q35_10, q35_13, q35_13N, q35_14, q35_17, q35_20, q35_20N, q35_21, q35_24, q35_27, q35_28, q35_28N, q35_29, q35_32, q35_35, q35_35N, q35_36, q35_39, q35_42, q35_43, q35_44, q35_46, q35_47, q35_48, q35_51, q35_52, q35_55, q35_55N, q35_56, q35_59, q35_62, q35_62N, q35_63, q35_66, q35_69, q35_70, q35_72, q35_72N, q35_73, q35_76, q35_79, q35_79N, q35_80, q35_83, q35_86, q35_87, q35_89, q35_92, q35_94, q35_96, q35_97, q35_99, q35_102, q35_103, q35_104, q35_107, q35_108, q35_109, q35_109N, q35_110, q35_110N, q35_111, q35_114, q35_115, q35_118, q35_119, q35_119N, q35_120, q35_120N, q35_121, q35_124, q35_125, q35_125N, q35_126, q35_126N, q35_127, q35_130, q35_131, q35_132, q35_135, q35_136, q35_136N, q35_137, q35_137N, q35_138, q35_141, q35_e, pm_tl_none]
        refine c_moveInB p2 fun S3 p3 f3 => ?_
        simp only [q35_0, q35_1, q35_4, q35_5, q35_6, q35_9, q35_10, q35_13, q35_13N, q35_14, q35_17, q35_20, q35_20N, q35_21, q35_24, q35_27, q35_28, q35_28N, q35_29, q35_32, q35_35, q35_35N, q35_36, q35_39, q35_42, q35_43, q35_44, q35_46, q35_47, q35_48, q35_51, q35_52, q35_55, q35_55N, q35_56, q35_59, q35_62, q35_62N, q35_63, q35_66, q35_69, q35_70, q35_72, q35_72N, q35_73, q35_76, q35_79, q35_79N, q35_80, q35_83, q35_86, q35_87, q35_89, q35_92, q35_94, q35_96, q35_97, q35_99, q35_102, q35_103, q35_104, q35_107, q35_108, q35_109, q35_109N, q35_110, q35_110N, q35_111, q35_114, q35_115, q35_118, q35_119, q35_119N, q35_120, q35_120N, q35_121, q35_124, q35_125, q35_125N, q35_126, q35_126N, q35_127, q35_130, q35_131, q35_132, q35_135, q35_136, q35_136N, q35_137, q35_137N, q35_138, q35_141, q35_e, pm_tl_none, if_true, show ¬ (2 : Int32) = 1 by decide, if_false]
        refine c_moveInBoth p3 fun S4 p4 f4 => ?_
        simp only [q35_0, q35_1, q35_4, q35_5, q35_6, q35_9, q35_10, q35_13, q35_13N, q35_14, q35_17, q35_20, q35_20N, q35_21, q35_24, q35_27, q35_28, q35_28N, q35_29, q35_32, q35_35, q35_35N, q35_36, q35_39, q35_42, q35_43, q35_44, q35_46, q35_47, q35_48, q35_51, q35_52, q35_55, q35_55N, q35_56, q35_59, q35_62, q35_62N, q35_63, q35_66, q35_69, q35_70, q35_72, q35_72N, q35_73, q35_76, q35_79, q35_79N, q35_80, q35_83, q35_86, q35_87, q35_89, q35_92, q35_94, q35_96, q35_97, q35_99, q35_102, q35_103, q35_104, q35_107, q35_108, q35_109, q35_109N, q35_110, q35_110N, q35_111, q35_114, q35_115, q35_118, q35_119, q35_119N, q35_120, q35_120N, q35_121, q35_124, q35_125, q35_125N, q35_126, q35_126N, q35_127, q35_130, q35_131, q35_132, q35_135, q35_136, q35_136N, q35_137, q35_137N, q35_138, q35_141, q35_e, pm_tl_none]
        exact hQ S4 p4 (((f1.tr f2).tr f3).tr f4)
      · rw [if_neg x2]
        exact big (by simp; omega)
    · rw [if_neg x1]
      exact big (by simp; omega)
end
