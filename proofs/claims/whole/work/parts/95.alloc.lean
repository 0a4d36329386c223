/-! ===== the class: new objects ===== -/
section
variable {S : pm_T} {b c t n k : Nat}
theorem pn_k_nx : pm_nx (pm_mk S c) = pm_nx S + 1 := rfl
theorem pn_k_sz : pm_sz (pm_mk S c) = pm_sz S + pm_nf c := rfl
theorem pn_k_sh : pm_sh (pm_mk S c) b = if b = pm_nx S then .inr c else pm_sh S b := by unfold pm_sh pm_mk pm_up pm_nx; rfl
theorem pn_k_gi : pm_gi (pm_mk S c) b k = if b = pm_nx S then 0 else pm_gi S b k := by unfold pm_gi pm_mk pm_up pm_nx; dsimp only; split <;> rfl
theorem pn_k_gl : pm_gl (pm_mk S c) b k = if b = pm_nx S then 0 else pm_gl S b k := by unfold pm_gl pm_mk pm_up pm_nx; dsimp only; split <;> rfl
theorem pn_k_gr : pm_gr (pm_mk S c) b k = if b = pm_nx S then none else pm_gr S b k := by unfold pm_gr pm_mk pm_up pm_nx; dsimp only; split <;> rfl
theorem pn_k_zi : pm_zi (pm_mk S c) b k = pm_zi S b k := rfl
theorem pn_k_zl : pm_zl (pm_mk S c) b k = pm_zl S b k := rfl
theorem pn_k_zr : pm_zr (pm_mk S c) b k = pm_zr S b k := rfl
theorem pn_a_nx : pm_nx (pm_mka S t n) = pm_nx S + 1 := rfl
theorem pn_a_sz : pm_sz (pm_mka S t n) = pm_sz S + n := rfl
theorem pn_a_sh : pm_sh (pm_mka S t n) b = if b = pm_nx S then .inl (t, n) else pm_sh S b := by unfold pm_sh pm_mka pm_up pm_nx; rfl
theorem pn_a_gi : pm_gi (pm_mka S t n) b k = pm_gi S b k := rfl
theorem pn_a_gl : pm_gl (pm_mka S t n) b k = pm_gl S b k := rfl
theorem pn_a_gr : pm_gr (pm_mka S t n) b k = pm_gr S b k := rfl
theorem pn_a_zi : pm_zi (pm_mka S t n) b k = if b = pm_nx S then 0 else pm_zi S b k := by unfold pm_zi pm_mka pm_up pm_nx; dsimp only; split <;> rfl
theorem pn_a_zl : pm_zl (pm_mka S t n) b k = if b = pm_nx S then 0 else pm_zl S b k := by unfold pm_zl pm_mka pm_up pm_nx; dsimp only; split <;> rfl
theorem pn_a_zr : pm_zr (pm_mka S t n) b k = if b = pm_nx S then none else pm_zr S b k := by unfold pm_zr pm_mka pm_up pm_nx; dsimp only; split <;> rfl
theorem frO.mk {P : Nat → Prop} (ha : P (pm_nx S)) : frO P S (pm_mk S c) := fun b hb => by
  have h : ¬ b = pm_nx S := fun q => hb (q ▸ ha)
  exact ⟨by rw [pn_k_sh, if_neg h], fun k => by rw [pn_k_gi, if_neg h], fun k => by rw [pn_k_gl, if_neg h], fun k => by rw [pn_k_gr, if_neg h], fun _ => rfl, fun _ => rfl, fun _ => rfl⟩
theorem frO.mka {P : Nat → Prop} (ha : P (pm_nx S)) : frO P S (pm_mka S t n) := fun b hb => by
  have h : ¬ b = pm_nx S := fun q => hb (q ▸ ha)
  exact ⟨by rw [pn_a_sh, if_neg h], fun _ => rfl, fun _ => rfl, fun _ => rfl, fun k => by rw [pn_a_zi, if_neg h], fun k => by rw [pn_a_zl, if_neg h], fun k => by rw [pn_a_zr, if_neg h]⟩
end
section
variable {d a n k : Nat} {S : pm_T} {Q : Option Value → pm_T → Prop}
def fN_items (S : pm_T) (a n : Nat) : pm_T := pm_sgi (pm_sgr (pm_mka (pm_sgr (pm_mka (pm_sgr (pm_mka S 1 n) a 0 (some (pm_nx S))) 0 n) a 1 (some (pm_nx S + 1))) 0 n) a 2 (some (pm_nx S + 1 + 1))) a 3 0
theorem c_newItems (hs : pm_sh S a = .inr 3) (ha : a < pm_nx S) (hn : n ≤ 60000) : pm_N (d + 1) 19 [.ref a, .int (nI n)] S Q = Q none (fN_items S a n) := by
  have h0 : (a = pm_nx S) = False := eq_false (by omega)
  have h1 : (a = pm_nx S + 1) = False := eq_false (by omega)
  have h2 : (a = pm_nx S + 1 + 1) = False := eq_false (by omega)
  have hx : 0 ≤ nI n ∧ (nI n).toNatClampNeg ≤ 60000 := ⟨nI_pos' (by omega), by rw [nI_clamp (by omega)]; exact hn⟩
  have hm : ∀ Q, pm_N d 143 [.int (nI n), .int 0] S Q = Q (some (.int (nI n))) S := fun Q => by
    have := c_maxN (d := d) (S := S) (Q := Q) (x := n) (y := 0) (by omega) (by decide)
    rw [show max n 0 = n by omega] at this
    exact this
  unfold fN_items
  simp only [q19_0, q19_1, q19_4, q19_5, q19_6, q19_9, q19_10, q19_11, q19_12, q19_14, q19_14N, q19_17, q19_18, q19_19, q19_21, q19_21N, q19_24, q19_25, q19_26, q19_28, q19_28N, q19_31, q19_32, q19_33, q19_36, q19_e, hm, pm_tl_some, pn_a_sh, pn_a_nx, ps_gr_nx, ps_gr_sh, hs, h0, h1, h2, if_false, hx.1, hn, and_self, nI_clamp (show n < 2 ^ 31 by omega)]
theorem fN_items_ok (hs : pm_sh S a = .inr 3) (hn : pm_nx S = a + 1) : sI (fN_items S a n) a n ∧ pm_nx (fN_items S a n) = a + 4 ∧ pm_sz (fN_items S a n) = pm_sz S + n + n + n ∧ frO (fun b => a ≤ b) S (fN_items S a n) := by
  unfold fN_items
  refine ⟨?_, ?_, rfl, ?_⟩
  · have q2 : ¬ a = a + 1 + 1 := by omega
    have q3 : ¬ a = a + 1 + 1 + 1 := by omega
    unfold sI
    simp [q2, q3, ps_gi_nx, ps_gi_sz, ps_gi_sh, ps_gi_gi, ps_gi_gl, ps_gi_gr, ps_gi_zi, ps_gi_zl, ps_gi_zr, ps_gi_ar, ps_gi_al, ps_gl_nx, ps_gl_sz, ps_gl_sh, ps_gl_gi, ps_gl_gl, ps_gl_gr, ps_gl_zi, ps_gl_zl, ps_gl_zr, ps_gl_ar, ps_gl_al, ps_gr_nx, ps_gr_sz, ps_gr_sh, ps_gr_gi, ps_gr_gl, ps_gr_gr, ps_gr_zi, ps_gr_zl, ps_gr_zr, ps_gr_ar, ps_gr_al, ps_zi_nx, ps_zi_sz, ps_zi_sh, ps_zi_gi, ps_zi_gl, ps_zi_gr, ps_zi_zi, ps_zi_zl, ps_zi_zr, ps_zi_ar, ps_zi_al, ps_zl_nx, ps_zl_sz, ps_zl_sh, ps_zl_gi, ps_zl_gl, ps_zl_gr, ps_zl_zi, ps_zl_zl, ps_zl_zr, ps_zl_ar, ps_zl_al, ps_zr_nx, ps_zr_sz, ps_zr_sh, ps_zr_gi, ps_zr_gl, ps_zr_gr, ps_zr_zi, ps_zr_zl, ps_zr_zr, ps_zr_ar, ps_zr_al, pm_rf_some, pm_rf_none, pm_tl_some, pm_tl_none, pn_a_sh, pn_a_nx, pn_a_gr, hn, hs]
  · show pm_nx S + 1 + 1 + 1 = _; omega
  · refine (((((frO.mka ?_).tr (frO.gr ?_)).tr (frO.mka ?_)).tr (frO.gr ?_)).tr (frO.mka ?_)).tr ((frO.gr ?_).tr (frO.gi ?_)) <;> (try simp only [ps_gi_nx, ps_gi_sz, ps_gi_sh, ps_gi_gi, ps_gi_gl, ps_gi_gr, ps_gi_zi, ps_gi_zl, ps_gi_zr, ps_gi_ar, ps_gi_al, ps_gl_nx, ps_gl_sz, ps_gl_sh, ps_gl_gi, ps_gl_gl, ps_gl_gr, ps_gl_zi, ps_gl_zl, ps_gl_zr, ps_gl_ar, ps_gl_al, ps_gr_nx, ps_gr_sz, ps_gr_sh, ps_gr_gi, ps_gr_gl, ps_gr_gr, ps_gr_zi, ps_gr_zl, ps_gr_zr, ps_gr_ar, ps_gr_al, ps_zi_nx, ps_zi_sz, ps_zi_sh, ps_zi_gi, ps_zi_gl, ps_zi_gr, ps_zi_zi, ps_zi_zl, ps_zi_zr, ps_zi_ar, ps_zi_al, ps_zl_nx, ps_zl_sz, ps_zl_sh, ps_zl_gi, ps_zl_gl, ps_zl_gr, ps_zl_zi, ps_zl_zl, ps_zl_zr, ps_zl_ar, ps_zl_al, ps_zr_nx, ps_zr_sz, ps_zr_sh, ps_zr_gi, ps_zr_gl, ps_zr_gr, ps_zr_zi, ps_zr_zl, ps_zr_zr, ps_zr_ar, ps_zr_al, pm_rf_some, pm_rf_none, pm_tl_some, pm_tl_none, pn_a_nx]) <;> omega
def fN_hid (S : pm_T) (a : Nat) : pm_T := pm_sgi (pm_sgr (pm_mka (pm_sgr (pm_mka (pm_sgr (pm_mka S 0 8) a 0 (some (pm_nx S))) 0 8) a 1 (some (pm_nx S + 1))) 0 8) a 2 (some (pm_nx S + 1 + 1))) a 3 0
theorem c_newHid (hs : pm_sh S a = .inr 2) (ha : a < pm_nx S) : pm_N d 17 [.ref a] S Q = Q none (fN_hid S a) := by
  have h0 : (a = pm_nx S) = False := eq_false (by omega)
  have h1 : (a = pm_nx S + 1) = False := eq_false (by omega)
  have h2 : (a = pm_nx S + 1 + 1) = False := eq_false (by omega)
  unfold fN_hid
  simp only [q17_0, q17_1, q17_4, q17_5, q17_7, q17_9, q17_9N, q17_12, q17_13, q17_15, q17_17, q17_17N, q17_20, q17_21, q17_23, q17_25, q17_25N, q17_28, q17_29, q17_30, q17_33, q17_e, pm_tl_some, pn_a_sh, pn_a_nx, ps_gr_nx, ps_gr_sh, hs, h0, h1, h2, if_false, show (0 : Int32) ≤ 8 by decide, show (8 : Int32).toNatClampNeg = 8 by decide, show (8 : Nat) ≤ 60000 by decide, and_self]
theorem fN_hid_ok (hs : pm_sh S a = .inr 2) (hn : pm_nx S = a + 1) : sH (fN_hid S a) a ∧ pm_nx (fN_hid S a) = a + 4 ∧ pm_sz (fN_hid S a) = pm_sz S + 8 + 8 + 8 ∧ frO (fun b => a ≤ b) S (fN_hid S a) := by
  unfold fN_hid
  refine ⟨?_, ?_, rfl, ?_⟩
  · have q2 : ¬ a = a + 1 + 1 := by omega
    have q3 : ¬ a = a + 1 + 1 + 1 := by omega
    unfold sH
    simp [q2, q3, ps_gi_nx, ps_gi_sz, ps_gi_sh, ps_gi_gi, ps_gi_gl, ps_gi_gr, ps_gi_zi, ps_gi_zl, ps_gi_zr, ps_gi_ar, ps_gi_al, ps_gl_nx, ps_gl_sz, ps_gl_sh, ps_gl_gi, ps_gl_gl, ps_gl_gr, ps_gl_zi, ps_gl_zl, ps_gl_zr, ps_gl_ar, ps_gl_al, ps_gr_nx, ps_gr_sz, ps_gr_sh, ps_gr_gi, ps_gr_gl, ps_gr_gr, ps_gr_zi, ps_gr_zl, ps_gr_zr, ps_gr_ar, ps_gr_al, ps_zi_nx, ps_zi_sz, ps_zi_sh, ps_zi_gi, ps_zi_gl, ps_zi_gr, ps_zi_zi, ps_zi_zl, ps_zi_zr, ps_zi_ar, ps_zi_al, ps_zl_nx, ps_zl_sz, ps_zl_sh, ps_zl_gi, ps_zl_gl, ps_zl_gr, ps_zl_zi, ps_zl_zl, ps_zl_zr, ps_zl_ar, ps_zl_al, ps_zr_nx, ps_zr_sz, ps_zr_sh, ps_zr_gi, ps_zr_gl, ps_zr_gr, ps_zr_zi, ps_zr_zl, ps_zr_zr, ps_zr_ar, ps_zr_al, pm_rf_some, pm_rf_none, pm_tl_some, pm_tl_none, pn_a_sh, pn_a_nx, pn_a_gr, hn, hs]
  · show pm_nx S + 1 + 1 + 1 = _; omega
  · refine (((((frO.mka ?_).tr (frO.gr ?_)).tr (frO.mka ?_)).tr (frO.gr ?_)).tr (frO.mka ?_)).tr ((frO.gr ?_).tr (frO.gi ?_)) <;> (try simp only [ps_gi_nx, ps_gi_sz, ps_gi_sh, ps_gi_gi, ps_gi_gl, ps_gi_gr, ps_gi_zi, ps_gi_zl, ps_gi_zr, ps_gi_ar, ps_gi_al, ps_gl_nx, ps_gl_sz, ps_gl_sh, ps_gl_gi, ps_gl_gl, ps_gl_gr, ps_gl_zi, ps_gl_zl, ps_gl_zr, ps_gl_ar, ps_gl_al, ps_gr_nx, ps_gr_sz, ps_gr_sh, ps_gr_gi, ps_gr_gl, ps_gr_gr, ps_gr_zi, ps_gr_zl, ps_gr_zr, ps_gr_ar, ps_gr_al, ps_zi_nx, ps_zi_sz, ps_zi_sh, ps_zi_gi, ps_zi_gl, ps_zi_gr, ps_zi_zi, ps_zi_zl, ps_zi_zr, ps_zi_ar, ps_zi_al, ps_zl_nx, ps_zl_sz, ps_zl_sh, ps_zl_gi, ps_zl_gl, ps_zl_gr, ps_zl_zi, ps_zl_zl, ps_zl_zr, ps_zl_ar, ps_zl_al, ps_zr_nx, ps_zr_sz, ps_zr_sh, ps_zr_gi, ps_zr_gl, ps_zr_gr, ps_zr_zi, ps_zr_zl, ps_zr_zr, ps_zr_ar, ps_zr_al, pm_rf_some, pm_rf_none, pm_tl_some, pm_tl_none, pn_a_nx]) <;> omega
/-! frames, by cells -/
theorem sI_frO {P : Nat → Prop} {S' : pm_T} (h : sI S a n) (hf : frO P S S') (hP : ∀ b, a ≤ b → b < a + 4 → ¬ P b) : sI S' a n := by
  have e0 := hf a (hP a (by omega) (by omega))
  have e1 := hf (a + 1) (hP _ (by omega) (by omega))
  have e2 := hf (a + 2) (hP _ (by omega) (by omega))
  have e3 := hf (a + 3) (hP _ (by omega) (by omega))
  unfold sI at h ⊢
  simp only [e0.1, e0.2.2.2.1, e1.1, e2.1, e3.1]
  exact h
theorem sH_frO {P : Nat → Prop} {S' : pm_T} (h : sH S a) (hf : frO P S S') (hP : ∀ b, a ≤ b → b < a + 4 → ¬ P b) : sH S' a := by
  have e0 := hf a (hP a (by omega) (by omega))
  have e1 := hf (a + 1) (hP _ (by omega) (by omega))
  have e2 := hf (a + 2) (hP _ (by omega) (by omega))
  have e3 := hf (a + 3) (hP _ (by omega) (by omega))
  unfold sH at h ⊢
  simp only [e0.1, e0.2.2.2.1, e1.1, e2.1, e3.1]
  exact h
theorem sG_frO {P : Nat → Prop} {S' : pm_T} {g : Nat} (h : sG S g) (hf : frO P S S') (hP : ∀ b, cB g b → ¬ P b) : sG S' g := by
  have e0 := hf g (hP g ⟨by omega, by omega⟩)
  have e9 := hf (g + 9) (hP _ ⟨by omega, by omega⟩)
  have e10 := hf (g + 10) (hP _ ⟨by omega, by omega⟩)
  obtain ⟨h1, h2, h3, h4, h5, h6, h7, h8, h9, h10, h11⟩ := h
  refine ⟨by rw [e0.1]; exact h1, by rw [e0.2.2.2.1]; exact h2, by rw [e0.2.2.2.1]; exact h3, by rw [e0.2.2.2.1]; exact h4, by rw [e0.2.2.2.1]; exact h5, by rw [e0.2.2.2.1]; exact h6, by rw [e9.1]; exact h7, by rw [e10.1]; exact h8, sI_frO h9 hf (fun b q1 q2 => hP b ⟨by omega, by omega⟩), sI_frO h10 hf (fun b q1 q2 => hP b ⟨by omega, by omega⟩), sH_frO h11 hf (fun b q1 q2 => hP b ⟨by omega, by omega⟩)⟩
theorem cC_frO {P : Nat → Prop} {S' : pm_T} {g : Nat} {C : sp_C} (h : cC S g C) (hf : frO P S S') (hP : ∀ b, cB g b → ¬ P b) : cC S' g C := by
  have e : ∀ j, j < 15 → _ := fun j hj => hf (g + j) (hP (g + j) ⟨by omega, by omega⟩)
  have e0 : ∀ k, pm_gi S' g k = pm_gi S g k := (e 0 (by decide)).2.1
  unfold cC cN cA cH cZ
  simp only [e0, (e 1 (by decide)).2.1, (e 5 (by decide)).2.1, (e 11 (by decide)).2.1, (e 2 (by decide)).2.2.2.2.2.1, (e 3 (by decide)).2.2.2.2.1, (e 4 (by decide)).2.2.2.2.1, (e 6 (by decide)).2.2.2.2.2.1, (e 7 (by decide)).2.2.2.2.1, (e 8 (by decide)).2.2.2.2.1, (e 9 (by decide)).2.2.2.2.1, (e 10 (by decide)).2.2.2.2.1, (e 12 (by decide)).2.2.2.2.1, (e 13 (by decide)).2.2.2.2.1, (e 14 (by decide)).2.2.2.2.1]
  exact h
theorem sG_sgi {g : Nat} {x : Int32} (h : sG S g) : sG (pm_sgi S a k x) g := h
set_option maxHeartbeats 2000000 in
/-- a new Graph -/
theorem c_newGraph (hs : pm_sh S a = .inr 0) (hn : pm_nx S = a + 1) (hQ : ∀ S', sG S' a → pm_nx S' = a + 15 → pm_sz S' ≤ pm_sz S + 900 → frO (fun b => a ≤ b) S S' → Q none S') : pm_N (d + 3) 0 [.ref a] S Q := by
  have n3 : pm_nf 3 = 4 := by decide
  have n2 : pm_nf 2 = 4 := by decide
  have x1 : (0 : Int32) ≤ 120 := by decide
  have x3 : (120 : Nat) ≤ 60000 := by decide
  have x2 : (120 : Int32).toNatClampNeg = 120 := by decide
  -- nodes
  have s1 : pm_sh (pm_mk S 3) (a + 1) = .inr 3 := by rw [pn_k_sh, hn, if_pos rfl]
  obtain ⟨i1, j1, z1, f1⟩ := fN_items_ok (n := 40) s1 (show pm_nx (pm_mk S 3) = a + 1 + 1 by rw [pn_k_nx, hn])
  have g1 : frO (fun b => a < b) S (fN_items (pm_mk S 3) (a + 1) 40) := (frO.mk (show a < pm_nx S by omega)).tr (f1.mono (fun b hb => by omega))
  have e1 : ∀ Q, pm_N (d + 2) 19 [.ref (a + 1), .int 40] (pm_mk S 3) Q = Q none (fN_items (pm_mk S 3) (a + 1) 40) := fun Q => c_newItems (d := d + 1) (n := 40) s1 (by rw [pn_k_nx]; omega) (by decide)
  simp only [q0_0, q0_1, q0_4, q0_5, q0_8, q0_9, q0_11, q0_14, q0_14N, q0_17, q0_18, q0_21, q0_22, q0_24, q0_27, q0_27N, q0_30, q0_31, q0_33, q0_35, q0_35N, q0_38, q0_39, q0_41, q0_43, q0_43N, q0_46, q0_47, q0_50, q0_51, q0_54, q0_54N, q0_57, q0_58, q0_59, q0_62, q0_63, q0_64, q0_67, q0_68, q0_69, q0_69N, q0_72, q0_73, q0_74, q0_74N, q0_77, q0_78, q0_79, q0_82, q0_83, q0_84, q0_87, q0_88, q0_89, q0_92, q0_93, q0_94, q0_97, q0_98, q0_99, q0_102, q0_e, hn, e1, pm_tl_none]
  generalize hA : fN_items (pm_mk S 3) (a + 1) 40 = A at *
  have a0 : pm_sh A a = .inr 0 := by rw [(g1 a (by omega)).1]; exact hs
  have zA : pm_sz A = pm_sz S + 124 := by rw [z1, pn_k_sz, n3]
  -- arcs
  simp only [q0_0, q0_1, q0_4, q0_5, q0_8, q0_9, q0_11, q0_14, q0_14N, q0_17, q0_18, q0_21, q0_22, q0_24, q0_27, q0_27N, q0_30, q0_31, q0_33, q0_35, q0_35N, q0_38, q0_39, q0_41, q0_43, q0_43N, q0_46, q0_47, q0_50, q0_51, q0_54, q0_54N, q0_57, q0_58, q0_59, q0_62, q0_63, q0_64, q0_67, q0_68, q0_69, q0_69N, q0_72, q0_73, q0_74, q0_74N, q0_77, q0_78, q0_79, q0_82, q0_83, q0_84, q0_87, q0_88, q0_89, q0_92, q0_93, q0_94, q0_97, q0_98, q0_99, q0_102, q0_e, a0, ps_gr_nx, j1]
  generalize hB : pm_sgr A a 0 (some (a + 1)) = B at *
  have b0 : pm_sh B a = .inr 0 := by rw [← hB]; exact a0
  have bn : pm_nx B = a + 5 := by rw [← hB]; exact j1
  have zB : pm_sz B = pm_sz S + 124 := by rw [← hB]; exact zA
  have br0 : pm_gr B a 0 = some (a + 1) := by rw [← hB]; exact ps_gr_self
  have ib : sI B (a + 1) 40 := by rw [← hB]; exact sI_sgr a0 (by decide) i1
  have gB : frO (fun b => a ≤ b) S B := by rw [← hB]; exact (g1.mono (fun b hb => Nat.le_of_lt hb)).tr (frO.gr (Nat.le_refl _))
  clear hB
  have s2 : pm_sh (pm_mk B 3) (a + 5) = .inr 3 := by rw [pn_k_sh, bn, if_pos rfl]
  obtain ⟨i2, j2, z2, f2⟩ := fN_items_ok (n := 120) s2 (show pm_nx (pm_mk B 3) = a + 5 + 1 by rw [pn_k_nx, bn])
  have g2 : frO (fun b => a + 4 < b) B (fN_items (pm_mk B 3) (a + 5) 120) := (frO.mk (show a + 4 < pm_nx B by omega)).tr (f2.mono (fun b hb => by omega))
  have e2 : ∀ Q, pm_N (d + 2) 19 [.ref (a + 5), .int 120] (pm_mk B 3) Q = Q none (fN_items (pm_mk B 3) (a + 5) 120) := fun Q => c_newItems (d := d + 1) (n := 120) s2 (by rw [pn_k_nx]; omega) (by decide)
  simp only [show a + 1 + 4 = a + 5 by omega, bn, q0_0, q0_1, q0_4, q0_5, q0_8, q0_9, q0_11, q0_14, q0_14N, q0_17, q0_18, q0_21, q0_22, q0_24, q0_27, q0_27N, q0_30, q0_31, q0_33, q0_35, q0_35N, q0_38, q0_39, q0_41, q0_43, q0_43N, q0_46, q0_47, q0_50, q0_51, q0_54, q0_54N, q0_57, q0_58, q0_59, q0_62, q0_63, q0_64, q0_67, q0_68, q0_69, q0_69N, q0_72, q0_73, q0_74, q0_74N, q0_77, q0_78, q0_79, q0_82, q0_83, q0_84, q0_87, q0_88, q0_89, q0_92, q0_93, q0_94, q0_97, q0_98, q0_99, q0_102, q0_e, e2, pm_tl_none]
  generalize hC : fN_items (pm_mk B 3) (a + 5) 120 = C at *
  have c0 : pm_sh C a = .inr 0 := by rw [(g2 a (by omega)).1]; exact b0
  have zC : pm_sz C = pm_sz S + 488 := by rw [z2, pn_k_sz, n3, zB]
  have cr0 : pm_gr C a 0 = some (a + 1) := by rw [(g2 a (by omega)).2.2.2.1]; exact br0
  have ic : sI C (a + 1) 40 := sI_frO ib g2 (fun b q1 q2 => by omega)
  have gC : frO (fun b => a ≤ b) S C := gB.tr (g2.mono (fun b hb => by omega))
  simp only [q0_0, q0_1, q0_4, q0_5, q0_8, q0_9, q0_11, q0_14, q0_14N, q0_17, q0_18, q0_21, q0_22, q0_24, q0_27, q0_27N, q0_30, q0_31, q0_33, q0_35, q0_35N, q0_38, q0_39, q0_41, q0_43, q0_43N, q0_46, q0_47, q0_50, q0_51, q0_54, q0_54N, q0_57, q0_58, q0_59, q0_62, q0_63, q0_64, q0_67, q0_68, q0_69, q0_69N, q0_72, q0_73, q0_74, q0_74N, q0_77, q0_78, q0_79, q0_82, q0_83, q0_84, q0_87, q0_88, q0_89, q0_92, q0_93, q0_94, q0_97, q0_98, q0_99, q0_102, q0_e, c0]
  generalize hD : pm_sgr C a 1 (some (a + 5)) = D at *
  have d0 : pm_sh D a = .inr 0 := by rw [← hD]; exact c0
  have dn : pm_nx D = a + 9 := by rw [← hD]; exact j2
  have zD : pm_sz D = pm_sz S + 488 := by rw [← hD]; exact zC
  have dr0 : pm_gr D a 0 = some (a + 1) := by rw [← hD, ps_gr_gr, if_neg (by omega)]; exact cr0
  have dr1 : pm_gr D a 1 = some (a + 5) := by rw [← hD]; exact ps_gr_self
  have i1d : sI D (a + 1) 40 := by rw [← hD]; exact sI_sgr c0 (by decide) ic
  have i2d : sI D (a + 5) 120 := by rw [← hD]; exact sI_sgr c0 (by decide) i2
  have gD : frO (fun b => a ≤ b) S D := by rw [← hD]; exact gC.tr (frO.gr (Nat.le_refl _))
  clear hD
  -- from, to
  have m1 : pm_sh (pm_mka D 0 120) a = .inr 0 := by rw [pn_a_sh, dn, if_neg (by omega)]; exact d0
  simp only [q0_0, q0_1, q0_4, q0_5, q0_8, q0_9, q0_11, q0_14, q0_14N, q0_17, q0_18, q0_21, q0_22, q0_24, q0_27, q0_27N, q0_30, q0_31, q0_33, q0_35, q0_35N, q0_38, q0_39, q0_41, q0_43, q0_43N, q0_46, q0_47, q0_50, q0_51, q0_54, q0_54N, q0_57, q0_58, q0_59, q0_62, q0_63, q0_64, q0_67, q0_68, q0_69, q0_69N, q0_72, q0_73, q0_74, q0_74N, q0_77, q0_78, q0_79, q0_82, q0_83, q0_84, q0_87, q0_88, q0_89, q0_92, q0_93, q0_94, q0_97, q0_98, q0_99, q0_102, q0_e, dn, x1, x2, x3, and_self, m1]
  generalize hE : pm_sgr (pm_mka D 0 120) a 2 (some (a + 9)) = E at *
  have e0 : pm_sh E a = .inr 0 := by rw [← hE]; exact m1
  have en : pm_nx E = a + 10 := by rw [← hE, ps_gr_nx, pn_a_nx, dn]
  have zE : pm_sz E = pm_sz S + 608 := by rw [← hE, ps_gr_sz, pn_a_sz, zD]
  have er : pm_gr E a 0 = some (a + 1) ∧ pm_gr E a 1 = some (a + 5) ∧ pm_gr E a 2 = some (a + 9) := by
    rw [← hE, ps_gr_self, ps_gr_gr, ps_gr_gr, if_neg (by omega), if_neg (by omega)]
    exact ⟨dr0, dr1, rfl⟩
  have es : pm_sh E (a + 9) = .inl (0, 120) := by rw [← hE, ps_gr_sh, pn_a_sh, dn, if_pos rfl]
  have gE0 : frO (fun b => b = a ∨ a + 9 ≤ b) D E := by rw [← hE]; exact (frO.mka (by right; omega)).tr (frO.gr (Or.inl rfl))
  have i1e : sI E (a + 1) 40 := sI_frO i1d gE0 (fun b q1 q2 => by omega)
  have i2e : sI E (a + 5) 120 := sI_frO i2d gE0 (fun b q1 q2 => by omega)
  have gE : frO (fun b => a ≤ b) S E := gD.tr (gE0.mono (fun b hb => by omega))
  clear hE
  have m2 : pm_sh (pm_mka E 0 120) a = .inr 0 := by rw [pn_a_sh, en, if_neg (by omega)]; exact e0
  simp only [q0_0, q0_1, q0_4, q0_5, q0_8, q0_9, q0_11, q0_14, q0_14N, q0_17, q0_18, q0_21, q0_22, q0_24, q0_27, q0_27N, q0_30, q0_31, q0_33, q0_35, q0_35N, q0_38, q0_39, q0_41, q0_43, q0_43N, q0_46, q0_47, q0_50, q0_51, q0_54, q0_54N, q0_57, q0_58, q0_59, q0_62, q0_63, q0_64, q0_67, q0_68, q0_69, q0_69N, q0_72, q0_73, q0_74, q0_74N, q0_77, q0_78, q0_79, q0_82, q0_83, q0_84, q0_87, q0_88, q0_89, q0_92, q0_93, q0_94, q0_97, q0_98, q0_99, q0_102, q0_e, en, x1, x2, x3, and_self, m2]
  generalize hF : pm_sgr (pm_mka E 0 120) a 3 (some (a + 10)) = F at *
  have f0 : pm_sh F a = .inr 0 := by rw [← hF]; exact m2
  have fn : pm_nx F = a + 11 := by rw [← hF, ps_gr_nx, pn_a_nx, en]
  have zF : pm_sz F = pm_sz S + 728 := by rw [← hF, ps_gr_sz, pn_a_sz, zE]
  have fr : pm_gr F a 0 = some (a + 1) ∧ pm_gr F a 1 = some (a + 5) ∧ pm_gr F a 2 = some (a + 9) ∧ pm_gr F a 3 = some (a + 10) := by
    rw [← hF, ps_gr_self, ps_gr_gr, ps_gr_gr, ps_gr_gr, if_neg (by omega), if_neg (by omega), if_neg (by omega)]
    exact ⟨er.1, er.2.1, er.2.2, rfl⟩
  have fs : pm_sh F (a + 9) = .inl (0, 120) ∧ pm_sh F (a + 10) = .inl (0, 120) := by rw [← hF, ps_gr_sh, ps_gr_sh, pn_a_sh, pn_a_sh, en, if_pos rfl, if_neg (by omega)]; exact ⟨es, rfl⟩
  have gF0 : frO (fun b => b = a ∨ a + 10 ≤ b) E F := by rw [← hF]; exact (frO.mka (by right; omega)).tr (frO.gr (Or.inl rfl))
  have i1f : sI F (a + 1) 40 := sI_frO i1e gF0 (fun b q1 q2 => by omega)
  have i2f : sI F (a + 5) 120 := sI_frO i2e gF0 (fun b q1 q2 => by omega)
  have gF : frO (fun b => a ≤ b) S F := gE.tr (gF0.mono (fun b hb => by omega))
  clear hF
  -- hidden ones
  have s3 : pm_sh (pm_mk F 2) (a + 11) = .inr 2 := by rw [pn_k_sh, fn, if_pos rfl]
  obtain ⟨i3, j3, z3, f3⟩ := fN_hid_ok s3 (show pm_nx (pm_mk F 2) = a + 11 + 1 by rw [pn_k_nx, fn])
  have g3 : frO (fun b => a + 10 < b) F (fN_hid (pm_mk F 2) (a + 11)) := (frO.mk (show a + 10 < pm_nx F by omega)).tr (f3.mono (fun b hb => by omega))
  have e3 : ∀ Q, pm_N (d + 2) 17 [.ref (a + 11)] (pm_mk F 2) Q = Q none (fN_hid (pm_mk F 2) (a + 11)) := fun Q => c_newHid s3 (by rw [pn_k_nx]; omega)
  simp only [q0_0, q0_1, q0_4, q0_5, q0_8, q0_9, q0_11, q0_14, q0_14N, q0_17, q0_18, q0_21, q0_22, q0_24, q0_27, q0_27N, q0_30, q0_31, q0_33, q0_35, q0_35N, q0_38, q0_39, q0_41, q0_43, q0_43N, q0_46, q0_47, q0_50, q0_51, q0_54, q0_54N, q0_57, q0_58, q0_59, q0_62, q0_63, q0_64, q0_67, q0_68, q0_69, q0_69N, q0_72, q0_73, q0_74, q0_74N, q0_77, q0_78, q0_79, q0_82, q0_83, q0_84, q0_87, q0_88, q0_89, q0_92, q0_93, q0_94, q0_97, q0_98, q0_99, q0_102, q0_e, fn, e3, pm_tl_none]
  generalize hG : fN_hid (pm_mk F 2) (a + 11) = G at *
  have k0 : pm_sh G a = .inr 0 := by rw [(g3 a (by omega)).1]; exact f0
  simp only [q0_0, q0_1, q0_4, q0_5, q0_8, q0_9, q0_11, q0_14, q0_14N, q0_17, q0_18, q0_21, q0_22, q0_24, q0_27, q0_27N, q0_30, q0_31, q0_33, q0_35, q0_35N, q0_38, q0_39, q0_41, q0_43, q0_43N, q0_46, q0_47, q0_50, q0_51, q0_54, q0_54N, q0_57, q0_58, q0_59, q0_62, q0_63, q0_64, q0_67, q0_68, q0_69, q0_69N, q0_72, q0_73, q0_74, q0_74N, q0_77, q0_78, q0_79, q0_82, q0_83, q0_84, q0_87, q0_88, q0_89, q0_92, q0_93, q0_94, q0_97, q0_98, q0_99, q0_102, q0_e, k0, true_or, or_true, ps_gi_nx, ps_gi_sz, ps_gi_sh, ps_gi_gi, ps_gi_gl, ps_gi_gr, ps_gi_zi, ps_gi_zl, ps_gi_zr, ps_gi_ar, ps_gi_al, ps_gl_nx, ps_gl_sz, ps_gl_sh, ps_gl_gi, ps_gl_gl, ps_gl_gr, ps_gl_zi, ps_gl_zl, ps_gl_zr, ps_gl_ar, ps_gl_al, ps_gr_nx, ps_gr_sz, ps_gr_sh, ps_gr_gi, ps_gr_gl, ps_gr_gr, ps_gr_zi, ps_gr_zl, ps_gr_zr, ps_gr_ar, ps_gr_al, ps_zi_nx, ps_zi_sz, ps_zi_sh, ps_zi_gi, ps_zi_gl, ps_zi_gr, ps_zi_zi, ps_zi_zl, ps_zi_zr, ps_zi_ar, ps_zi_al, ps_zl_nx, ps_zl_sz, ps_zl_sh, ps_zl_gi, ps_zl_gl, ps_zl_gr, ps_zl_zi, ps_zl_zl, ps_zl_zr, ps_zl_ar, ps_zl_al, ps_zr_nx, ps_zr_sz, ps_zr_sh, ps_zr_gi, ps_zr_gl, ps_zr_gr, ps_zr_zi, ps_zr_zl, ps_zr_zr, ps_zr_ar, ps_zr_al, pm_rf_some, pm_rf_none, pm_tl_some, pm_tl_none]
  have gg0 : pm_gr G a 0 = some (a + 1) ∧ pm_gr G a 1 = some (a + 5) ∧ pm_gr G a 2 = some (a + 9) ∧ pm_gr G a 3 = some (a + 10) := by
    rw [(g3 a (by omega)).2.2.2.1, (g3 a (by omega)).2.2.2.1, (g3 a (by omega)).2.2.2.1, (g3 a (by omega)).2.2.2.1]; exact fr
  have ig1 : sI G (a + 1) 40 := sI_frO i1f g3 (fun b q1 q2 => by omega)
  have ig2 : sI G (a + 5) 120 := sI_frO i2f g3 (fun b q1 q2 => by omega)
  have gs : pm_sh G (a + 9) = .inl (0, 120) ∧ pm_sh G (a + 10) = .inl (0, 120) := by rw [(g3 (a + 9) (by omega)).1, (g3 (a + 10) (by omega)).1]; exact fs
  have GG : sG (pm_sgr G a 4 (some (a + 11))) a := ⟨k0, by rw [ps_gr_gr, if_neg (by omega)]; exact gg0.1, by rw [ps_gr_gr, if_neg (by omega)]; exact gg0.2.1, by rw [ps_gr_gr, if_neg (by omega)]; exact gg0.2.2.1, by rw [ps_gr_gr, if_neg (by omega)]; exact gg0.2.2.2, ps_gr_self, gs.1, gs.2, sI_sgr k0 (by decide) ig1, sI_sgr k0 (by decide) ig2, sH_sgr k0 (by decide) i3⟩
  refine hQ _ ?_ ?_ ?_ ?_
  · exact sG_sgi (sG_sgi (sG_sgi (sG_sgi (sG_sgi (sG_sgr k0 (by decide) (sG_sgr k0 (by decide) (sG_sgi (sG_sgi GG))))))))
  · show pm_nx G = _; exact j3
  · show pm_sz G ≤ _; rw [z3, pn_k_sz, n2, zF]; omega
  · exact (gF.tr (g3.mono (fun b hb => by omega))).tr ((frO.gr (Nat.le_refl a)).tr ((frO.gi (Nat.le_refl a)).tr ((frO.gi (Nat.le_refl a)).tr ((frO.gr (Nat.le_refl a)).tr ((frO.gr (Nat.le_refl a)).tr ((frO.gi (Nat.le_refl a)).tr ((frO.gi (Nat.le_refl a)).tr ((frO.gi (Nat.le_refl a)).tr ((frO.gi (Nat.le_refl a)).tr (frO.gi (Nat.le_refl a)))))))))))
end
