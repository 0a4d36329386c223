/-! ===== Graph ===== -/
/-- a Graph at g, with all that it is made of, in fifteen cells -/
def sG (S : pm_T) (g : Nat) : Prop := pm_sh S g = .inr 0 ∧ pm_gr S g 0 = some (g + 1) ∧ pm_gr S g 1 = some (g + 5) ∧ pm_gr S g 2 = some (g + 9) ∧ pm_gr S g 3 = some (g + 10) ∧ pm_gr S g 4 = some (g + 11) ∧ pm_sh S (g + 9) = .inl (0, 120) ∧ pm_sh S (g + 10) = .inl (0, 120) ∧ sI S (g + 1) 40 ∧ sI S (g + 5) 120 ∧ sH S (g + 11)
/-- numbers below n that p holds of -/
def sp_cnt (p : Nat → Bool) : Nat → Nat
  | 0 => 0
  | n + 1 => sp_cnt p n + (if p n then 1 else 0)
theorem sp_cnt_s (p : Nat → Bool) (n : Nat) : sp_cnt p (n + 1) = sp_cnt p n + (if p n then 1 else 0) := rfl
theorem sp_cnt_le (p : Nat → Bool) : ∀ n, sp_cnt p n ≤ n
  | 0 => Nat.le_refl _
  | n + 1 => by have := sp_cnt_le p n; unfold sp_cnt; split <;> omega
section
variable {d g n k : Nat} {S : pm_T} {Q : Option Value → pm_T → Prop} {i x y z : Int32} {v : Int64}
theorem c_items (hG : sG S g) : pm_N d 5 [.ref g, .int i] S Q = Q (some (.ref (if i = 0 then g + 1 else g + 5))) S := by
  obtain ⟨h1, h2, h3, -⟩ := hG
  simp only [q5_0, q5_1, q5_4, q5_5, q5_8, q5_11, q5_12, q5_15, q5_15N, q5_e, h1, h2, h3, pm_rf_some]
  split <;> rfl
theorem c_isStale (hG : sG S g) : pm_N d 4 [.ref g, .int i] S Q = Q (some (.int (if pm_gi S g 6 = 0 then 0 else if pm_gi S g 12 = 0 then (if pm_gi S g 13 = i then 0 else 1) else 0))) S := by
  obtain ⟨h1, -⟩ := hG
  simp only [q4_0, q4_1, q4_4, q4_7, q4_8, q4_11, q4_14, q4_15, q4_18, q4_19, q4_22, q4_23, q4_26, q4_27, q4_e, h1, or_true, true_or]
  split
  · rfl
  · split
    · split <;> rfl
    · rfl
theorem c_choose (hG : sG S g) : pm_N d 2 [.ref g, .int x, .int y, .int z] S Q = Q none (pm_sgi (pm_sgi (pm_sgi S g 9 x) g 10 y) g 11 z) := by
  obtain ⟨h1, -⟩ := hG
  simp only [q2_0, q2_1, q2_2, q2_5, q2_6, q2_7, q2_10, q2_11, q2_12, q2_15, q2_e, h1, ps_gi_nx, ps_gi_sz, ps_gi_sh, ps_gi_gi, ps_gi_gl, ps_gi_gr, ps_gi_zi, ps_gi_zl, ps_gi_zr, ps_gi_ar, ps_gi_al, ps_gl_nx, ps_gl_sz, ps_gl_sh, ps_gl_gi, ps_gl_gl, ps_gl_gr, ps_gl_zi, ps_gl_zl, ps_gl_zr, ps_gl_ar, ps_gl_al, ps_gr_nx, ps_gr_sz, ps_gr_sh, ps_gr_gi, ps_gr_gl, ps_gr_gr, ps_gr_zi, ps_gr_zl, ps_gr_zr, ps_gr_ar, ps_gr_al, ps_zi_nx, ps_zi_sz, ps_zi_sh, ps_zi_gi, ps_zi_gl, ps_zi_gr, ps_zi_zi, ps_zi_zl, ps_zi_zr, ps_zi_ar, ps_zi_al, ps_zl_nx, ps_zl_sz, ps_zl_sh, ps_zl_gi, ps_zl_gl, ps_zl_gr, ps_zl_zi, ps_zl_zl, ps_zl_zr, ps_zl_ar, ps_zl_al, ps_zr_nx, ps_zr_sz, ps_zr_sh, ps_zr_gi, ps_zr_gl, ps_zr_gr, ps_zr_zi, ps_zr_zl, ps_zr_zr, ps_zr_ar, ps_zr_al, pm_rf_some, pm_rf_none, pm_tl_some, pm_tl_none]
/-- nothing in it -/
def fG_empty (S : pm_T) (g : Nat) : pm_T := pm_sgi (pm_sgi (pm_sgi (pm_sgi S (g + 1) 3 0) (g + 5) 3 0) (g + 11) 3 0) g 5 0
theorem c_empty (hG : sG S g) : pm_N d 3 [.ref g] S Q = Q none (fG_empty S g) := by
  obtain ⟨h1, h2, h3, h4, h5, h6, h7, h8, h9, h10, h11⟩ := hG
  simp only [q3_0, q3_1, q3_4, q3_5, q3_8, q3_9, q3_12, q3_13, q3_16, q3_17, q3_20, q3_21, q3_24, q3_25, q3_26, q3_29, q3_e, h1, h2, h3, h6, h9.1, h10.1, h11.1, ps_gi_nx, ps_gi_sz, ps_gi_sh, ps_gi_gi, ps_gi_gl, ps_gi_gr, ps_gi_zi, ps_gi_zl, ps_gi_zr, ps_gi_ar, ps_gi_al, ps_gl_nx, ps_gl_sz, ps_gl_sh, ps_gl_gi, ps_gl_gl, ps_gl_gr, ps_gl_zi, ps_gl_zl, ps_gl_zr, ps_gl_ar, ps_gl_al, ps_gr_nx, ps_gr_sz, ps_gr_sh, ps_gr_gi, ps_gr_gl, ps_gr_gr, ps_gr_zi, ps_gr_zl, ps_gr_zr, ps_gr_ar, ps_gr_al, ps_zi_nx, ps_zi_sz, ps_zi_sh, ps_zi_gi, ps_zi_gl, ps_zi_gr, ps_zi_zi, ps_zi_zl, ps_zi_zr, ps_zi_ar, ps_zi_al, ps_zl_nx, ps_zl_sz, ps_zl_sh, ps_zl_gi, ps_zl_gl, ps_zl_gr, ps_zl_zi, ps_zl_zl, ps_zl_zr, ps_zl_ar, ps_zl_al, ps_zr_nx, ps_zr_sz, ps_zr_sh, ps_zr_gi, ps_zr_gl, ps_zr_gr, ps_zr_zi, ps_zr_zl, ps_zr_zr, ps_zr_ar, ps_zr_al, pm_rf_some, pm_rf_none, pm_tl_some, pm_tl_none, fG_empty]
/-- a node, or LARGE -/
def fG_node (S : pm_T) (g k : Nat) (v : Int64) (x y : Int32) : pm_T := if k < 40 then pm_sgi (pm_szi (pm_szi (pm_szl S (g + 2) k v) (g + 3) k x) (g + 4) k y) (g + 1) 3 (nI (k + 1)) else pm_sgi S g 5 4
theorem c_addNode (hG : sG S g) (hk : pm_gi S (g + 1) 3 = nI k) (hk4 : k ≤ 40) : pm_N (d + 2) 6 [.ref g, .long v, .int x, .int y] S Q = Q none (fG_node S g k v x y) := by
  obtain ⟨h1, h2, h3, h4, h5, h6, h7, h8, h9, h10, h11⟩ := hG
  unfold fG_node
  by_cases hlt : k < 40
  · rw [if_pos hlt]
    simp only [q6_0, q6_1, q6_4, q6_5, q6_6, q6_8, q6_11, q6_14, q6_15, q6_16, q6_19, q6_e, h1, h2, pm_rf_some, h9.1, c_iadd h9 hk hlt (by decide), show ¬ (1 : Int32) = 0 by decide, if_false, ps_gi_nx, ps_gi_sz, ps_gi_sh, ps_gi_gi, ps_gi_gl, ps_gi_gr, ps_gi_zi, ps_gi_zl, ps_gi_zr, ps_gi_ar, ps_gi_al, ps_gl_nx, ps_gl_sz, ps_gl_sh, ps_gl_gi, ps_gl_gl, ps_gl_gr, ps_gl_zi, ps_gl_zl, ps_gl_zr, ps_gl_ar, ps_gl_al, ps_gr_nx, ps_gr_sz, ps_gr_sh, ps_gr_gi, ps_gr_gl, ps_gr_gr, ps_gr_zi, ps_gr_zl, ps_gr_zr, ps_gr_ar, ps_gr_al, ps_zi_nx, ps_zi_sz, ps_zi_sh, ps_zi_gi, ps_zi_gl, ps_zi_gr, ps_zi_zi, ps_zi_zl, ps_zi_zr, ps_zi_ar, ps_zi_al, ps_zl_nx, ps_zl_sz, ps_zl_sh, ps_zl_gi, ps_zl_gl, ps_zl_gr, ps_zl_zi, ps_zl_zl, ps_zl_zr, ps_zl_ar, ps_zl_al, ps_zr_nx, ps_zr_sz, ps_zr_sh, ps_zr_gi, ps_zr_gl, ps_zr_gr, ps_zr_zi, ps_zr_zl, ps_zr_zr, ps_zr_ar, ps_zr_al, pm_rf_some, pm_rf_none, pm_tl_some, pm_tl_none]
  · rw [if_neg hlt]
    simp only [q6_0, q6_1, q6_4, q6_5, q6_6, q6_8, q6_11, q6_14, q6_15, q6_16, q6_19, q6_e, h1, h2, pm_rf_some, h9.1, c_iaddF h9 hk (by omega) (by omega), if_true, ps_gi_nx, ps_gi_sz, ps_gi_sh, ps_gi_gi, ps_gi_gl, ps_gi_gr, ps_gi_zi, ps_gi_zl, ps_gi_zr, ps_gi_ar, ps_gi_al, ps_gl_nx, ps_gl_sz, ps_gl_sh, ps_gl_gi, ps_gl_gl, ps_gl_gr, ps_gl_zi, ps_gl_zl, ps_gl_zr, ps_gl_ar, ps_gl_al, ps_gr_nx, ps_gr_sz, ps_gr_sh, ps_gr_gi, ps_gr_gl, ps_gr_gr, ps_gr_zi, ps_gr_zl, ps_gr_zr, ps_gr_ar, ps_gr_al, ps_zi_nx, ps_zi_sz, ps_zi_sh, ps_zi_gi, ps_zi_gl, ps_zi_gr, ps_zi_zi, ps_zi_zl, ps_zi_zr, ps_zi_ar, ps_zi_al, ps_zl_nx, ps_zl_sz, ps_zl_sh, ps_zl_gi, ps_zl_gl, ps_zl_gr, ps_zl_zi, ps_zl_zl, ps_zl_zr, ps_zl_ar, ps_zl_al, ps_zr_nx, ps_zr_sz, ps_zr_sh, ps_zr_gi, ps_zr_gl, ps_zr_gr, ps_zr_zi, ps_zr_zl, ps_zr_zr, ps_zr_ar, ps_zr_al, pm_rf_some, pm_rf_none, pm_tl_some, pm_tl_none]
/-- an arc, or LARGE -/
def fG_arc (S : pm_T) (g k : Nat) (t h : Int32) (v : Int64) (x y : Int32) : pm_T := if k < 120 then pm_sgi (pm_szi (pm_szi (pm_szl (pm_szi (pm_szi S (g + 9) k t) (g + 10) k h) (g + 6) k v) (g + 7) k x) (g + 8) k y) (g + 5) 3 (nI (k + 1)) else pm_sgi S g 5 4
theorem pm_szi_szi {a b j : Nat} (h : a ≠ b) : pm_szi (pm_szi S a k x) b j y = pm_szi (pm_szi S b j y) a k x := by
  have e : pm_u2 (pm_u2 S.2.2.2.2.2.2.1 a k x) b j y = pm_u2 (pm_u2 S.2.2.2.2.2.2.1 b j y) a k x := by
    funext c i
    unfold pm_u2
    by_cases h1 : c = b ∧ i = j
    · rw [if_pos h1, if_neg (fun q => h (q.1.symm.trans h1.1)), if_pos h1]
    · rw [if_neg h1, if_neg h1]
  unfold pm_szi
  exact congrArg (fun f => (S.1, S.2.1, S.2.2.1, S.2.2.2.1, S.2.2.2.2.1, S.2.2.2.2.2.1, f, S.2.2.2.2.2.2.2.1, S.2.2.2.2.2.2.2.2)) e
/-- the arc's ends may be written last -/
theorem fG_arc_sw {t h c : Int32} : pm_szi (pm_szi (pm_sgi (pm_szi (pm_szi (pm_szl S (g + 6) k v) (g + 7) k x) (g + 8) k y) (g + 5) 3 c) (g + 9) k t) (g + 10) k h = pm_sgi (pm_szi (pm_szi (pm_szl (pm_szi (pm_szi S (g + 9) k t) (g + 10) k h) (g + 6) k v) (g + 7) k x) (g + 8) k y) (g + 5) 3 c := by
  show pm_sgi (pm_szi (pm_szi (pm_szi (pm_szi (pm_szl S (g + 6) k v) (g + 7) k x) (g + 8) k y) (g + 9) k t) (g + 10) k h) (g + 5) 3 c = pm_sgi (pm_szi (pm_szi (pm_szi (pm_szi (pm_szl S (g + 6) k v) (g + 9) k t) (g + 10) k h) (g + 7) k x) (g + 8) k y) (g + 5) 3 c
  rw [pm_szi_szi (a := g + 8) (b := g + 9) (by omega), pm_szi_szi (a := g + 8) (b := g + 10) (by omega), pm_szi_szi (a := g + 7) (b := g + 9) (by omega), pm_szi_szi (a := g + 7) (b := g + 10) (by omega)]
theorem c_addArc {t h : Int32} (hG : sG S g) (hk : pm_gi S (g + 5) 3 = nI k) (hk4 : k ≤ 120) : pm_N (d + 2) 7 [.ref g, .int t, .int h, .long v, .int x, .int y] S Q = Q none (fG_arc S g k t h v x y) := by
  obtain ⟨h1, h2, h3, h4, h5, h6, h7, h8, h9, h10, h11⟩ := hG
  unfold fG_arc
  by_cases hlt : k < 120
  · have e2 := pm_ar_nI h7 hlt (by decide)
    have e3 := pm_ar_nI h8 hlt (by decide)
    have e4 := nI_clamp (show k < 2 ^ 31 by omega)
    rw [if_pos hlt, ← fG_arc_sw]
    simp only [q7_0, q7_1, q7_4, q7_7, q7_9, q7_10, q7_13, q7_14, q7_16, q7_18, q7_21, q7_24, q7_25, q7_26, q7_29, q7_30, q7_31, q7_34, q7_36, q7_37, q7_38, q7_39, q7_42, q7_44, q7_45, q7_46, q7_e, h1, h3, h4, h5, pm_rf_some, h10.1, hk, e2, e3, e4, c_iadd h10 hk hlt (by decide), show ¬ (1 : Int32) = 0 by decide, if_false, ps_gi_nx, ps_gi_sz, ps_gi_sh, ps_gi_gi, ps_gi_gl, ps_gi_gr, ps_gi_zi, ps_gi_zl, ps_gi_zr, ps_gi_ar, ps_gi_al, ps_gl_nx, ps_gl_sz, ps_gl_sh, ps_gl_gi, ps_gl_gl, ps_gl_gr, ps_gl_zi, ps_gl_zl, ps_gl_zr, ps_gl_ar, ps_gl_al, ps_gr_nx, ps_gr_sz, ps_gr_sh, ps_gr_gi, ps_gr_gl, ps_gr_gr, ps_gr_zi, ps_gr_zl, ps_gr_zr, ps_gr_ar, ps_gr_al, ps_zi_nx, ps_zi_sz, ps_zi_sh, ps_zi_gi, ps_zi_gl, ps_zi_gr, ps_zi_zi, ps_zi_zl, ps_zi_zr, ps_zi_ar, ps_zi_al, ps_zl_nx, ps_zl_sz, ps_zl_sh, ps_zl_gi, ps_zl_gl, ps_zl_gr, ps_zl_zi, ps_zl_zl, ps_zl_zr, ps_zl_ar, ps_zl_al, ps_zr_nx, ps_zr_sz, ps_zr_sh, ps_zr_gi, ps_zr_gl, ps_zr_gr, ps_zr_zi, ps_zr_zl, ps_zr_zr, ps_zr_ar, ps_zr_al, pm_rf_some, pm_rf_none, pm_tl_some, pm_tl_none]
  · rw [if_neg hlt]
    simp only [q7_0, q7_1, q7_4, q7_7, q7_9, q7_10, q7_13, q7_14, q7_16, q7_18, q7_21, q7_24, q7_25, q7_26, q7_29, q7_30, q7_31, q7_34, q7_36, q7_37, q7_38, q7_39, q7_42, q7_44, q7_45, q7_46, q7_e, h1, h3, pm_rf_some, h10.1, hk, c_iaddF h10 hk (by omega) (by omega), if_true, ps_gi_nx, ps_gi_sz, ps_gi_sh, ps_gi_gi, ps_gi_gl, ps_gi_gr, ps_gi_zi, ps_gi_zl, ps_gi_zr, ps_gi_ar, ps_gi_al, ps_gl_nx, ps_gl_sz, ps_gl_sh, ps_gl_gi, ps_gl_gl, ps_gl_gr, ps_gl_zi, ps_gl_zl, ps_gl_zr, ps_gl_ar, ps_gl_al, ps_gr_nx, ps_gr_sz, ps_gr_sh, ps_gr_gi, ps_gr_gl, ps_gr_gr, ps_gr_zi, ps_gr_zl, ps_gr_zr, ps_gr_ar, ps_gr_al, ps_zi_nx, ps_zi_sz, ps_zi_sh, ps_zi_gi, ps_zi_gl, ps_zi_gr, ps_zi_zi, ps_zi_zl, ps_zi_zr, ps_zi_ar, ps_zi_al, ps_zl_nx, ps_zl_sz, ps_zl_sh, ps_zl_gi, ps_zl_gl, ps_zl_gr, ps_zl_zi, ps_zl_zl, ps_zl_zr, ps_zl_ar, ps_zl_al, ps_zr_nx, ps_zr_sz, ps_zr_sh, ps_zr_gi, ps_zr_gl, ps_zr_gr, ps_zr_zi, ps_zr_zl, ps_zr_zr, ps_zr_ar, ps_zr_al, pm_rf_some, pm_rf_none, pm_tl_some, pm_tl_none]
theorem sI_sgr {a b n k : Nat} {r : Option Nat} {c : Nat} (ha : pm_sh S a = .inr c) (hc : c ≠ 3) (h : sI S b n) : sI (pm_sgr S a k r) b n := by
  obtain ⟨h1, h2, h3, h4, h5, h6, h7⟩ := h
  have hne : b ≠ a := fun e => by subst e; rw [h1] at ha; exact hc (Sum.inr.inj ha).symm
  refine ⟨h1, ?_, ?_, ?_, h5, h6, h7⟩ <;> (rw [ps_gr_gr, if_neg (fun q => hne q.1)]; assumption)
theorem sH_sgr {a b k : Nat} {r : Option Nat} {c : Nat} (ha : pm_sh S a = .inr c) (hc : c ≠ 2) (h : sH S b) : sH (pm_sgr S a k r) b := by
  obtain ⟨h1, h2, h3, h4, h5, h6, h7⟩ := h
  have hne : b ≠ a := fun e => by subst e; rw [h1] at ha; exact hc (Sum.inr.inj ha).symm
  refine ⟨h1, ?_, ?_, ?_, h5, h6, h7⟩ <;> (rw [ps_gr_gr, if_neg (fun q => hne q.1)]; assumption)
/-- a and b of a graph may be set -/
theorem sG_sgr {a k : Nat} {r : Option Nat} (ha : pm_sh S a = .inr 0) (hk : 4 < k) (h : sG S g) : sG (pm_sgr S a k r) g := by
  obtain ⟨h1, h2, h3, h4, h5, h6, h7, h8, h9, h10, h11⟩ := h
  refine ⟨h1, ?_, ?_, ?_, ?_, ?_, h7, h8, sI_sgr ha (by decide) h9, sI_sgr ha (by decide) h10, sH_sgr ha (by decide) h11⟩ <;> (rw [ps_gr_gr, if_neg (fun q => by omega)]; assumption)
theorem c_become {p q : Nat} (hG : sG S g) : pm_N (d + 1) 1 [.ref g, .int x, .ref p, .ref q] S Q = Q none (fG_empty (pm_sgi (pm_sgi (pm_sgr (pm_sgr (pm_sgi S g 6 x) g 7 (some p)) g 8 (some q)) g 12 0) g 13 0) g) := by
  obtain ⟨h1, h2, h3, h4, h5, h6, h7, h8, h9, h10, h11⟩ := id hG
  have hG1 : sG (pm_sgi S g 6 x) g := hG
  have hG' : sG (pm_sgi (pm_sgi (pm_sgr (pm_sgr (pm_sgi S g 6 x) g 7 (some p)) g 8 (some q)) g 12 0) g 13 0) g := sG_sgr (S := pm_sgr (pm_sgi S g 6 x) g 7 (some p)) h1 (by decide) (sG_sgr h1 (by decide) hG1)
  simp only [q1_0, q1_1, q1_2, q1_5, q1_6, q1_6N, q1_7, q1_7N, q1_10, q1_11, q1_11N, q1_12, q1_12N, q1_15, q1_16, q1_17, q1_20, q1_21, q1_22, q1_25, q1_26, q1_29, q1_e, h1, ps_gi_nx, ps_gi_sz, ps_gi_sh, ps_gi_gi, ps_gi_gl, ps_gi_gr, ps_gi_zi, ps_gi_zl, ps_gi_zr, ps_gi_ar, ps_gi_al, ps_gl_nx, ps_gl_sz, ps_gl_sh, ps_gl_gi, ps_gl_gl, ps_gl_gr, ps_gl_zi, ps_gl_zl, ps_gl_zr, ps_gl_ar, ps_gl_al, ps_gr_nx, ps_gr_sz, ps_gr_sh, ps_gr_gi, ps_gr_gl, ps_gr_gr, ps_gr_zi, ps_gr_zl, ps_gr_zr, ps_gr_ar, ps_gr_al, ps_zi_nx, ps_zi_sz, ps_zi_sh, ps_zi_gi, ps_zi_gl, ps_zi_gr, ps_zi_zi, ps_zi_zl, ps_zi_zr, ps_zi_ar, ps_zi_al, ps_zl_nx, ps_zl_sz, ps_zl_sh, ps_zl_gi, ps_zl_gl, ps_zl_gr, ps_zl_zi, ps_zl_zl, ps_zl_zr, ps_zl_ar, ps_zl_al, ps_zr_nx, ps_zr_sz, ps_zr_sh, ps_zr_gi, ps_zr_gl, ps_zr_gr, ps_zr_zi, ps_zr_zl, ps_zr_zr, ps_zr_ar, ps_zr_al, pm_rf_some, pm_rf_none, pm_tl_some, pm_tl_none, true_or, c_empty hG']
theorem c_countFrom_l (hG : sG S g) (hn : pm_gi S (g + 5) 3 = nI n) (hn2 : n ≤ 120) : ∀ m k, k + m = n → pm_V d 8 4 [.ref g, .int i, .int (nI (sp_cnt (fun e => pm_zi S (g + 9) e == i) k)), .int (nI k)] [] S Q = Q (some (.int (nI (sp_cnt (fun e => pm_zi S (g + 9) e == i) n)))) S := by
  obtain ⟨h1, h2, h3, h4, h5, h6, h7, h8, h9, h10, h11⟩ := hG
  intro m
  induction m with
  | zero =>
    intro k hk
    have : k = n := by omega
    subst this
    have e1 : ¬ nI k < nI k := nI_nlt (Nat.le_refl _) (by omega)
    rw [q8_4]
    simp only [q8_0, q8_1, q8_2, q8_3, q8_5, q8_6, q8_9, q8_12, q8_15, q8_16, q8_19, q8_20, q8_21, q8_22, q8_25, q8_28, q8_31, q8_34, q8_35, q8_e, h1, h3, pm_rf_some, h10.1, hn, e1, if_false]
  | succ m ih =>
    intro k hk
    have e1 : nI k < nI n := nI_lt (by omega) (by omega)
    have e2 := pm_ar_nI h7 (show k < 120 by omega) (by decide)
    have e4 := nI_clamp (show k < 2 ^ 31 by omega)
    have := ih (k + 1) (by omega)
    rw [q8_4]
    simp only [q8_0, q8_1, q8_2, q8_3, q8_5, q8_6, q8_9, q8_12, q8_15, q8_16, q8_19, q8_20, q8_21, q8_22, q8_25, q8_28, q8_31, q8_34, q8_35, q8_e, h1, h3, h4, pm_rf_some, h10.1, hn, e1, if_true, e2, e4, nI_1]
    rw [sp_cnt_s] at this
    by_cases h : pm_zi S (g + 9) k = i
    · rw [if_pos h]
      simpa [h] using this
    · rw [if_neg h]
      simpa [h] using this
theorem c_countFrom (hG : sG S g) (hn : pm_gi S (g + 5) 3 = nI n) (hn2 : n ≤ 120) : pm_N d 8 [.ref g, .int i] S Q = Q (some (.int (nI (sp_cnt (fun e => pm_zi S (g + 9) e == i) n)))) S := by
  have := c_countFrom_l (d := d) (Q := Q) (i := i) hG hn hn2 n 0 (by omega)
  simp only [q8_0, q8_1, q8_2, q8_3, q8_5, q8_6, q8_9, q8_12, q8_15, q8_16, q8_19, q8_20, q8_21, q8_22, q8_25, q8_28, q8_31, q8_34, q8_35, q8_e]
  exact this
end
