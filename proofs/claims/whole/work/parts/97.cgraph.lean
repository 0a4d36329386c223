/-! ===== the class: graph, test, view ===== -/
def sp_base (n : Nat) : sp_C := (0, List.replicate n (0, none, none), [], [])
def op_graph (Z : sp_S) (n : Int32) : Int32 × sp_S := if n < 1 then (-1000001, Z) else if n ≤ 12 then (if Z.1.length < 24 then (nI Z.1.length, (Z.1 ++ [(0, 0, 0, (0, 0, 0), false, sp_base n.toNatClampNeg)], Z.2)) else (-1000002, Z)) else (-1000001, Z)
theorem nI_s1 (k : Nat) : nI (k + 1) - 1 = nI k := by rw [← nI_1, Int32.add_sub_cancel]
section
variable {d x n k nw M a b L : Nat} {S : pm_T} {Q : Option Value → pm_T → Prop} {Z : sp_S} {g s wc i t : Int32} {C : sp_C}
theorem c_nextNull (hI : cI S x Z nw M) (hl : Z.1.length = 24) : pm_N d 76 [.ref x] S Q = Q (some .null) S := by
  have e : ¬ nI Z.1.length < 24 := by rw [hl]; decide
  simp only [q76_0, q76_1, q76_4, q76_6, q76_9, q76_10, q76_10N, q76_11, q76_12, q76_15, q76_16, q76_19, q76_19r, q76_20, q76_20N, q76_23, q76_24, q76_27, q76_28, q76_31, q76_34, q76_35, q76_38, q76_39, q76_40, q76_41, q76_44, q76_45, q76_46, q76_49, q76_50, q76_53, q76_54, q76_57, q76_58, q76_59, q76_59r, q76_60, q76_60N, q76_e, hI.1.1, hI.2.2.1, e, if_false]
/-- one more is told -/
theorem cJ_next (hI : cJ S x Z nw M L) (hL : Z.1.length ≤ n) (hn : n ≤ M) : cJ (pm_sgi S x 4 (nI n)) x Z nw M n := by
  obtain ⟨h1, h2, h3, h4, h5, h6, h7, h8, h9, h10⟩ := hI
  have e0 : ∀ b k, ¬ (b = x ∧ k = 4) → pm_gi (pm_sgi S x 4 (nI n)) b k = pm_gi S b k := fun b k h => by rw [ps_gi_gi, if_neg h]
  refine ⟨h1, h2, ps_gi_self, by rw [e0 _ _ (by omega)]; exact h4, h5, h6, hn, ⟨h8.1, by rw [e0 _ _ (by omega)]; exact h8.2.1, h8.2.2⟩, h9, fun j hj => ?_⟩
  have ag := ad_ge (x := x) (j := j)
  obtain ⟨f1, f2, f3⟩ := h10 j hj
  have hf : frO (fun b => b = x) S (pm_sgi S x 4 (nI n)) := frO.gi rfl
  exact ⟨cF_frO f1 hf (by omega), by rw [e0 _ _ (by omega)]; exact f2, fun z => cC_frO (f3 (fresh_frO hf (by omega) z)) hf (fun b hb => by unfold cB at hb; omega)⟩
set_option maxHeartbeats 2000000 in
theorem c_nextGraph (hI : cI S x Z nw M) (hl : Z.1.length < 24) (hQ : ∀ S' M', cJ S' x Z nw M' (Z.1.length + 1) → frO (cO x) S S' → Q (some (.ref (ad x Z.1.length))) S') : pm_N (d + 4) 76 [.ref x] S Q := by
  obtain ⟨h1, h2, h3, h4, h5, h6, h7, h8, h9, h10⟩ := id hI
  have e1 : nI Z.1.length < 24 := nI_lt (b := 24) hl (by decide)
  have e2 := pm_ar_nI h1.2.2.2.2.2.1 hl (by decide)
  have e3 := nI_clamp (show Z.1.length < 2 ^ 31 by omega)
  by_cases hM : Z.1.length < M
  · have e4 := h2.2.1 Z.1.length hl
    rw [if_pos hM] at e4
    simp only [q76_0, q76_1, q76_4, q76_6, q76_9, q76_10, q76_10N, q76_11, q76_12, q76_15, q76_16, q76_19, q76_19r, q76_20, q76_20N, q76_23, q76_24, q76_27, q76_28, q76_31, q76_34, q76_35, q76_38, q76_39, q76_40, q76_41, q76_44, q76_45, q76_46, q76_49, q76_50, q76_53, q76_54, q76_57, q76_58, q76_59, q76_59r, q76_60, q76_60N, q76_e, h1.1, h1.2.1, h3, e1, if_true, pm_rf_some, e2, e3, e4, nI_1, ps_gi_nx, ps_gi_sz, ps_gi_sh, ps_gi_gi, ps_gi_gl, ps_gi_gr, ps_gi_zi, ps_gi_zl, ps_gi_zr, ps_gi_ar, ps_gi_al, ps_gl_nx, ps_gl_sz, ps_gl_sh, ps_gl_gi, ps_gl_gl, ps_gl_gr, ps_gl_zi, ps_gl_zl, ps_gl_zr, ps_gl_ar, ps_gl_al, ps_gr_nx, ps_gr_sz, ps_gr_sh, ps_gr_gi, ps_gr_gl, ps_gr_gr, ps_gr_zi, ps_gr_zl, ps_gr_zr, ps_gr_ar, ps_gr_al, ps_zi_nx, ps_zi_sz, ps_zi_sh, ps_zi_gi, ps_zi_gl, ps_zi_gr, ps_zi_zi, ps_zi_zl, ps_zi_zr, ps_zi_ar, ps_zi_al, ps_zl_nx, ps_zl_sz, ps_zl_sh, ps_zl_gi, ps_zl_gl, ps_zl_gr, ps_zl_zi, ps_zl_zl, ps_zl_zr, ps_zl_ar, ps_zl_al, ps_zr_nx, ps_zr_sz, ps_zr_sh, ps_zr_gi, ps_zr_gl, ps_zr_gr, ps_zr_zi, ps_zr_zl, ps_zr_zr, ps_zr_ar, ps_zr_al, pm_rf_some, pm_rf_none, pm_tl_some, pm_tl_none, and_self, nI_s1]
    exact hQ _ M (cJ_next (L := Z.1.length) hI (by omega) hM) (frO.gi (Or.inl ⟨by omega, by omega⟩))
  · have hMe : M = Z.1.length := by omega
    have e4 := h2.2.1 Z.1.length hl
    rw [if_neg hM] at e4
    have hnx : pm_nx S = ad x Z.1.length := by rw [h2.2.2.2.1, hMe]; rfl
    have s0 : pm_sh (pm_mk S 0) (ad x Z.1.length) = .inr 0 := by rw [pn_k_sh, hnx, if_pos rfl]
    have ag := ad_ge (x := x) (j := Z.1.length)
    simp only [q76_0, q76_1, q76_4, q76_6, q76_9, q76_10, q76_10N, q76_11, q76_12, q76_15, q76_16, q76_19, q76_19r, q76_20, q76_20N, q76_23, q76_24, q76_27, q76_28, q76_31, q76_34, q76_35, q76_38, q76_39, q76_40, q76_41, q76_44, q76_45, q76_46, q76_49, q76_50, q76_53, q76_54, q76_57, q76_58, q76_59, q76_59r, q76_60, q76_60N, q76_e, h1.1, h1.2.1, h3, e1, if_true, pm_rf_some, pm_rf_none, e2, e3, e4, hnx]
    refine c_newGraph s0 (by rw [pn_k_nx, hnx]) fun S2 g2 n2 z2 f2 => ?_
    have hf : frO (fun b => ad x Z.1.length ≤ b) S S2 := (frO.mk (by omega)).tr f2
    have x0 := hf x (by omega)
    have x1 := hf (x + 1) (by omega)
    have r0 : pm_sh S2 x = .inr 6 := x0.1.trans h1.1
    have r1 : pm_gr S2 x 0 = some (x + 1) := (x0.2.2.2.1 0).trans h1.2.1
    have r2 : pm_gi S2 x 4 = nI Z.1.length := (x0.2.1 4).trans h3
    have e2' : pm_ar S2 (x + 1) 4 (nI Z.1.length) = true := pm_ar_nI (x1.1.trans h1.2.2.2.2.2.1) hl (by decide)
    simp only [pm_tl_none, q76_0, q76_1, q76_4, q76_6, q76_9, q76_10, q76_10N, q76_11, q76_12, q76_15, q76_16, q76_19, q76_19r, q76_20, q76_20N, q76_23, q76_24, q76_27, q76_28, q76_31, q76_34, q76_35, q76_38, q76_39, q76_40, q76_41, q76_44, q76_45, q76_46, q76_49, q76_50, q76_53, q76_54, q76_57, q76_58, q76_59, q76_59r, q76_60, q76_60N, q76_e, e2', g2.1, r0, r1, r2, pm_rf_some, nI_1, ps_gi_nx, ps_gi_sz, ps_gi_sh, ps_gi_gi, ps_gi_gl, ps_gi_gr, ps_gi_zi, ps_gi_zl, ps_gi_zr, ps_gi_ar, ps_gi_al, ps_gl_nx, ps_gl_sz, ps_gl_sh, ps_gl_gi, ps_gl_gl, ps_gl_gr, ps_gl_zi, ps_gl_zl, ps_gl_zr, ps_gl_ar, ps_gl_al, ps_gr_nx, ps_gr_sz, ps_gr_sh, ps_gr_gi, ps_gr_gl, ps_gr_gr, ps_gr_zi, ps_gr_zl, ps_gr_zr, ps_gr_ar, ps_gr_al, ps_zi_nx, ps_zi_sz, ps_zi_sh, ps_zi_gi, ps_zi_gl, ps_zi_gr, ps_zi_zi, ps_zi_zl, ps_zi_zr, ps_zi_ar, ps_zi_al, ps_zl_nx, ps_zl_sz, ps_zl_sh, ps_zl_gi, ps_zl_gl, ps_zl_gr, ps_zl_zi, ps_zl_zl, ps_zl_zr, ps_zl_ar, ps_zl_al, ps_zr_nx, ps_zr_sz, ps_zr_sh, ps_zr_gi, ps_zr_gl, ps_zr_gr, ps_zr_zi, ps_zr_zl, ps_zr_zr, ps_zr_ar, ps_zr_al, pm_rf_some, pm_rf_none, pm_tl_some, pm_tl_none, and_self, if_true, nI_s1, e3]
    have hf2 : frO (fun b => b = x + 1 ∨ ad x Z.1.length ≤ b) S (pm_szr S2 (x + 1) Z.1.length (some (ad x Z.1.length))) := (hf.mono (fun b hb => Or.inr hb)).tr (frO.zr (Or.inl rfl))
    have gj : ∀ j, j < M → ∀ b, cB (ad x j) b → ¬ (ad x Z.1.length ≤ b) := fun j hj b hb q => by
      have := ad_lt (x := x) (show j < Z.1.length by omega)
      unfold cB at hb; omega
    have hC : cJ (pm_szr S2 (x + 1) Z.1.length (some (ad x Z.1.length))) x Z nw (M + 1) Z.1.length := by
      refine ⟨?_, ⟨by omega, fun j hj => ?_, fun j hj => ?_, ?_, ?_⟩, r2, (x0.2.1 5).trans h4, h5, h6, by omega, cT_frO (S' := S2) h8 hf (fun b q1 q2 q3 => by omega), cL_frO (S' := S2) h9 hf (fun b q1 q2 q3 => by omega), fun j hj => ?_⟩
      · obtain ⟨k1, k2, k3, k4, k5, k6, k7⟩ := cX_frO (P := fun b => ad x Z.1.length ≤ b) (S' := S2) h1 hf (fun b q1 q2 q3 => by omega)
        exact ⟨k1, k2, k3, k4, k5, k6, sR_frO (P := fun b => b = x + 1) k7 (frO.zr rfl) (fun b q1 q2 q3 => by omega)⟩
      · rw [ps_zr_zr]
        by_cases e : j = Z.1.length
        · rw [if_pos ⟨rfl, e⟩, if_pos (by omega), e]
        · rw [if_neg (fun q => e q.2), (x1.2.2.2.2.2.2 j), h2.2.1 j hj]
          by_cases q : j < M
          · rw [if_pos q, if_pos (by omega)]
          · rw [if_neg q, if_neg (by omega)]
      · by_cases e : j = Z.1.length
        · subst e; exact g2
        · exact sG_frO (S' := S2) (h2.2.2.1 j (by omega)) hf (gj j (by omega))
      · show pm_nx S2 = _
        rw [n2, hMe]; unfold ad; omega
      · show pm_sz S2 ≤ _
        have q1 := h2.2.2.2.2
        have q2 : pm_nf 0 = 14 := by decide
        rw [pn_k_sz, q2] at z2
        exact Nat.le_trans z2 (by omega)
      · obtain ⟨f1, ⟨rk, f2', f3⟩, f4⟩ := h10 j hj
        have hja : ¬ ad x Z.1.length ≤ ad x j := gj j (by omega) (ad x j) ⟨by omega, by omega⟩
        exact ⟨cF_frO (S' := S2) f1 hf hja, ⟨rk, f2', ((hf _ hja).2.1 _).trans f3⟩, fun z => cC_frO (S' := S2) (f4 (fresh_frO (S' := S2) hf hja z)) hf (gj j (by omega))⟩
    exact hQ _ (M + 1) (cJ_next hC (by omega) (by omega)) ((hf2.mono (fun b hb => by unfold cO; omega)).tr (frO.gi (Or.inl ⟨by omega, by omega⟩)))
theorem q1_eN {v : Int32} : pm_N d 1 [.ref a, .int v, .null, .null] S Q = pm_V d 1 0 [.ref a, .int v, .null, .null] [] S Q := pv_ent (Nat.le_of_ble_eq_true rfl) rfl
def fG_bec (S : pm_T) (g : Nat) (v : Int32) (p q : Option Nat) : pm_T := fG_empty (pm_sgi (pm_sgi (pm_sgr (pm_sgr (pm_sgi S g 6 v) g 7 p) g 8 q) g 12 0) g 13 0) g
theorem c_become0 {v : Int32} (hG : sG S a) : pm_N (d + 1) 1 [.ref a, .int v, .null, .null] S Q = Q none (fG_bec S a v none none) := by
  obtain ⟨h1, h2, h3, h4, h5, h6, h7, h8, h9, h10, h11⟩ := id hG
  have hG1 : sG (pm_sgi S a 6 v) a := hG
  have hG' : sG (pm_sgi (pm_sgi (pm_sgr (pm_sgr (pm_sgi S a 6 v) a 7 none) a 8 none) a 12 0) a 13 0) a := sG_sgi (sG_sgi (sG_sgr (S := pm_sgr (pm_sgi S a 6 v) a 7 none) h1 (by decide) (sG_sgr h1 (by decide) hG1)))
  unfold fG_bec
  simp only [q1_eN, q1_0, q1_1, q1_2, q1_5, q1_6, q1_6N, q1_7, q1_7N, q1_10, q1_11, q1_11N, q1_12, q1_12N, q1_15, q1_16, q1_17, q1_20, q1_21, q1_22, q1_25, q1_26, q1_29, q1_e, h1, ps_gi_nx, ps_gi_sz, ps_gi_sh, ps_gi_gi, ps_gi_gl, ps_gi_gr, ps_gi_zi, ps_gi_zl, ps_gi_zr, ps_gi_ar, ps_gi_al, ps_gl_nx, ps_gl_sz, ps_gl_sh, ps_gl_gi, ps_gl_gl, ps_gl_gr, ps_gl_zi, ps_gl_zl, ps_gl_zr, ps_gl_ar, ps_gl_al, ps_gr_nx, ps_gr_sz, ps_gr_sh, ps_gr_gi, ps_gr_gl, ps_gr_gr, ps_gr_zi, ps_gr_zl, ps_gr_zr, ps_gr_ar, ps_gr_al, ps_zi_nx, ps_zi_sz, ps_zi_sh, ps_zi_gi, ps_zi_gl, ps_zi_gr, ps_zi_zi, ps_zi_zl, ps_zi_zr, ps_zi_ar, ps_zi_al, ps_zl_nx, ps_zl_sz, ps_zl_sh, ps_zl_gi, ps_zl_gl, ps_zl_gr, ps_zl_zi, ps_zl_zl, ps_zl_zr, ps_zl_ar, ps_zl_al, ps_zr_nx, ps_zr_sz, ps_zr_sh, ps_zr_gi, ps_zr_gl, ps_zr_gr, ps_zr_zi, ps_zr_zl, ps_zr_zr, ps_zr_ar, ps_zr_al, pm_rf_some, pm_rf_none, pm_tl_some, pm_tl_none, true_or, c_empty hG']
theorem fG_bec_ok {v : Int32} {p q : Option Nat} (hG : sG S a) : sG (fG_bec S a v p q) a ∧ frO (cB a) S (fG_bec S a v p q) ∧ pm_nx (fG_bec S a v p q) = pm_nx S ∧ pm_sz (fG_bec S a v p q) = pm_sz S ∧ pm_gi (fG_bec S a v p q) a 6 = v ∧ pm_gi (fG_bec S a v p q) a 12 = 0 ∧ pm_gi (fG_bec S a v p q) a 13 = 0 ∧ pm_gr (fG_bec S a v p q) a 7 = p ∧ pm_gr (fG_bec S a v p q) a 8 = q ∧ cC (fG_bec S a v p q) a sp_0 := by
  have h1 := hG.1
  have hG1 : sG (pm_sgi S a 6 v) a := hG
  have hG' : sG (pm_sgi (pm_sgi (pm_sgr (pm_sgr (pm_sgi S a 6 v) a 7 p) a 8 q) a 12 0) a 13 0) a := sG_sgi (sG_sgi (sG_sgr (S := pm_sgr (pm_sgi S a 6 v) a 7 p) h1 (by decide) (sG_sgr h1 (by decide) hG1)))
  obtain ⟨w1, w2⟩ := fG_empty_q hG'
  have fr : frO (cB a) S (pm_sgi (pm_sgi (pm_sgr (pm_sgr (pm_sgi S a 6 v) a 7 p) a 8 q) a 12 0) a 13 0) := (frO.gi ⟨by omega, by omega⟩).tr ((frO.gr ⟨by omega, by omega⟩).tr ((frO.gr ⟨by omega, by omega⟩).tr ((frO.gi ⟨by omega, by omega⟩).tr (frO.gi ⟨by omega, by omega⟩))))
  have e : ∀ k, k ≠ 5 → pm_gi (fG_bec S a v p q) a k = pm_gi (pm_sgi (pm_sgi (pm_sgr (pm_sgr (pm_sgi S a 6 v) a 7 p) a 8 q) a 12 0) a 13 0) a k := fun k hk => w2.2.1.2 a k h1 hk
  refine ⟨sG_fr hG' w2, fr.tr (frO.of w2), w2.1, w2.2.1.1, ?_, ?_, ?_, ?_, ?_, cQ_C w1 (by decide)⟩
  · rw [e 6 (by decide)]; simp [ps_gi_nx, ps_gi_sz, ps_gi_sh, ps_gi_gi, ps_gi_gl, ps_gi_gr, ps_gi_zi, ps_gi_zl, ps_gi_zr, ps_gi_ar, ps_gi_al, ps_gl_nx, ps_gl_sz, ps_gl_sh, ps_gl_gi, ps_gl_gl, ps_gl_gr, ps_gl_zi, ps_gl_zl, ps_gl_zr, ps_gl_ar, ps_gl_al, ps_gr_nx, ps_gr_sz, ps_gr_sh, ps_gr_gi, ps_gr_gl, ps_gr_gr, ps_gr_zi, ps_gr_zl, ps_gr_zr, ps_gr_ar, ps_gr_al, ps_zi_nx, ps_zi_sz, ps_zi_sh, ps_zi_gi, ps_zi_gl, ps_zi_gr, ps_zi_zi, ps_zi_zl, ps_zi_zr, ps_zi_ar, ps_zi_al, ps_zl_nx, ps_zl_sz, ps_zl_sh, ps_zl_gi, ps_zl_gl, ps_zl_gr, ps_zl_zi, ps_zl_zl, ps_zl_zr, ps_zl_ar, ps_zl_al, ps_zr_nx, ps_zr_sz, ps_zr_sh, ps_zr_gi, ps_zr_gl, ps_zr_gr, ps_zr_zi, ps_zr_zl, ps_zr_zr, ps_zr_ar, ps_zr_al, pm_rf_some, pm_rf_none, pm_tl_some, pm_tl_none]
  · rw [e 12 (by decide)]; simp [ps_gi_nx, ps_gi_sz, ps_gi_sh, ps_gi_gi, ps_gi_gl, ps_gi_gr, ps_gi_zi, ps_gi_zl, ps_gi_zr, ps_gi_ar, ps_gi_al, ps_gl_nx, ps_gl_sz, ps_gl_sh, ps_gl_gi, ps_gl_gl, ps_gl_gr, ps_gl_zi, ps_gl_zl, ps_gl_zr, ps_gl_ar, ps_gl_al, ps_gr_nx, ps_gr_sz, ps_gr_sh, ps_gr_gi, ps_gr_gl, ps_gr_gr, ps_gr_zi, ps_gr_zl, ps_gr_zr, ps_gr_ar, ps_gr_al, ps_zi_nx, ps_zi_sz, ps_zi_sh, ps_zi_gi, ps_zi_gl, ps_zi_gr, ps_zi_zi, ps_zi_zl, ps_zi_zr, ps_zi_ar, ps_zi_al, ps_zl_nx, ps_zl_sz, ps_zl_sh, ps_zl_gi, ps_zl_gl, ps_zl_gr, ps_zl_zi, ps_zl_zl, ps_zl_zr, ps_zl_ar, ps_zl_al, ps_zr_nx, ps_zr_sz, ps_zr_sh, ps_zr_gi, ps_zr_gl, ps_zr_gr, ps_zr_zi, ps_zr_zl, ps_zr_zr, ps_zr_ar, ps_zr_al, pm_rf_some, pm_rf_none, pm_tl_some, pm_tl_none]
  · rw [e 13 (by decide)]; simp [ps_gi_nx, ps_gi_sz, ps_gi_sh, ps_gi_gi, ps_gi_gl, ps_gi_gr, ps_gi_zi, ps_gi_zl, ps_gi_zr, ps_gi_ar, ps_gi_al, ps_gl_nx, ps_gl_sz, ps_gl_sh, ps_gl_gi, ps_gl_gl, ps_gl_gr, ps_gl_zi, ps_gl_zl, ps_gl_zr, ps_gl_ar, ps_gl_al, ps_gr_nx, ps_gr_sz, ps_gr_sh, ps_gr_gi, ps_gr_gl, ps_gr_gr, ps_gr_zi, ps_gr_zl, ps_gr_zr, ps_gr_ar, ps_gr_al, ps_zi_nx, ps_zi_sz, ps_zi_sh, ps_zi_gi, ps_zi_gl, ps_zi_gr, ps_zi_zi, ps_zi_zl, ps_zi_zr, ps_zi_ar, ps_zi_al, ps_zl_nx, ps_zl_sz, ps_zl_sh, ps_zl_gi, ps_zl_gl, ps_zl_gr, ps_zl_zi, ps_zl_zl, ps_zl_zr, ps_zl_ar, ps_zl_al, ps_zr_nx, ps_zr_sz, ps_zr_sh, ps_zr_gi, ps_zr_gl, ps_zr_gr, ps_zr_zi, ps_zr_zl, ps_zr_zr, ps_zr_ar, ps_zr_al, pm_rf_some, pm_rf_none, pm_tl_some, pm_tl_none]
  · show pm_gr (fG_empty _ a) a 7 = _; rw [w2.2.2.2.1]; simp [ps_gi_nx, ps_gi_sz, ps_gi_sh, ps_gi_gi, ps_gi_gl, ps_gi_gr, ps_gi_zi, ps_gi_zl, ps_gi_zr, ps_gi_ar, ps_gi_al, ps_gl_nx, ps_gl_sz, ps_gl_sh, ps_gl_gi, ps_gl_gl, ps_gl_gr, ps_gl_zi, ps_gl_zl, ps_gl_zr, ps_gl_ar, ps_gl_al, ps_gr_nx, ps_gr_sz, ps_gr_sh, ps_gr_gi, ps_gr_gl, ps_gr_gr, ps_gr_zi, ps_gr_zl, ps_gr_zr, ps_gr_ar, ps_gr_al, ps_zi_nx, ps_zi_sz, ps_zi_sh, ps_zi_gi, ps_zi_gl, ps_zi_gr, ps_zi_zi, ps_zi_zl, ps_zi_zr, ps_zi_ar, ps_zi_al, ps_zl_nx, ps_zl_sz, ps_zl_sh, ps_zl_gi, ps_zl_gl, ps_zl_gr, ps_zl_zi, ps_zl_zl, ps_zl_zr, ps_zl_ar, ps_zl_al, ps_zr_nx, ps_zr_sz, ps_zr_sh, ps_zr_gi, ps_zr_gl, ps_zr_gr, ps_zr_zi, ps_zr_zl, ps_zr_zr, ps_zr_ar, ps_zr_al, pm_rf_some, pm_rf_none, pm_tl_some, pm_tl_none]
  · show pm_gr (fG_empty _ a) a 8 = _; rw [w2.2.2.2.1]; simp [ps_gi_nx, ps_gi_sz, ps_gi_sh, ps_gi_gi, ps_gi_gl, ps_gi_gr, ps_gi_zi, ps_gi_zl, ps_gi_zr, ps_gi_ar, ps_gi_al, ps_gl_nx, ps_gl_sz, ps_gl_sh, ps_gl_gi, ps_gl_gl, ps_gl_gr, ps_gl_zi, ps_gl_zl, ps_gl_zr, ps_gl_ar, ps_gl_al, ps_gr_nx, ps_gr_sz, ps_gr_sh, ps_gr_gi, ps_gr_gl, ps_gr_gr, ps_gr_zi, ps_gr_zl, ps_gr_zr, ps_gr_ar, ps_gr_al, ps_zi_nx, ps_zi_sz, ps_zi_sh, ps_zi_gi, ps_zi_gl, ps_zi_gr, ps_zi_zi, ps_zi_zl, ps_zi_zr, ps_zi_ar, ps_zi_al, ps_zl_nx, ps_zl_sz, ps_zl_sh, ps_zl_gi, ps_zl_gl, ps_zl_gr, ps_zl_zi, ps_zl_zl, ps_zl_zr, ps_zl_ar, ps_zl_al, ps_zr_nx, ps_zr_sz, ps_zr_sh, ps_zr_gi, ps_zr_gl, ps_zr_gr, ps_zr_zi, ps_zr_zl, ps_zr_zr, ps_zr_ar, ps_zr_al, pm_rf_some, pm_rf_none, pm_tl_some, pm_tl_none]
theorem sp_base_s (h : k < 40) : sp_addN (sp_base k) (0, none, none) = sp_base (k + 1) := by
  unfold sp_addN sp_base
  rw [if_neg (by simp; omega), if_pos rfl]
  simp [List.replicate_succ']
theorem sp_base_gd : sp_gd (sp_base n) := fun _ e he => by simp [sp_base] at he
theorem sp_base_wd (h : n ≤ 12) : sp_wd (sp_base n) := by
  refine ⟨by simp [sp_base], by simp [sp_base]; omega, by simp [sp_base], by simp [sp_base], fun q hq => ?_, fun q hq => by simp [sp_base] at hq, fun q hq => by simp [sp_base] at hq⟩
  have : q = (0, none, none) := (List.mem_replicate.mp hq).2
  subst this
  exact ⟨sp_bd_n, sp_bd_n⟩
theorem op_graph_wf {n : Int32} (hw : wf Z) : wf (op_graph Z n).2 := by
  unfold op_graph
  split
  · exact hw
  · next h1 =>
    split
    · next h2 =>
      split
      · next h3 =>
        obtain ⟨m, hm, rfl⟩ := nI_of (x := n) (fun q => h1 (by rw [Int32.lt_iff_toInt_lt] at q ⊢; have : (0 : Int32).toInt = 0 := rfl; have : (1 : Int32).toInt = 1 := rfl; omega))
        have hm12 : m ≤ 12 := by
          rw [Int32.le_iff_toInt_le, nI_toInt hm] at h2
          have : (12 : Int32).toInt = 12 := rfl
          omega
        rw [nI_clamp hm]
        exact wf_app hw h3 ⟨Nat.zero_le 7, fun h => absurd rfl h, sp_base_gd, fun _ => ⟨rfl, rfl, by simp [sp_base]; omega, by simp [sp_base], rfl⟩, fun _ => rfl, sp_base_wd hm12⟩
      · exact hw
    · exact hw
set_option maxHeartbeats 4000000 in
theorem c_graph {n : Int32} (hw : wf Z) (hI : cI S x Z nw M) (hQ : ∀ S' M', cI S' x (op_graph Z n).2 nw M' → frO (cO x) S S' → Q (some (.int (op_graph Z n).1)) S') : pm_N (d + 5) 56 [.ref x, .int n] S Q := by
  have hwl := hw.1
  unfold op_graph at hQ
  simp only [q56_0, q56_1, q56_2, q56_5, q56_6, q56_8, q56_11, q56_13, q56_14, q56_15, q56_18, q56_18N, q56_19, q56_19N, q56_20, q56_20N, q56_23, q56_25, q56_26, q56_26N, q56_27, q56_28, q56_29, q56_30, q56_33, q56_34, q56_36, q56_37, q56_40, q56_40N, q56_41, q56_42, q56_43, q56_44, q56_47, q56_50, q56_53, q56_54, q56_57, q56_58, q56_59, q56_e, hI.1.1]
  by_cases c1 : n < 1
  · rw [if_pos c1]; rw [if_pos c1] at hQ; exact hQ S M hI frO.rf
  · rw [if_neg c1]; rw [if_neg c1] at hQ
    by_cases c2 : n ≤ 12
    · rw [if_pos c2]; rw [if_pos c2] at hQ
      by_cases c3 : Z.1.length < 24
      · rw [if_pos c3] at hQ
        obtain ⟨m, hm, rfl⟩ := nI_of (x := n) (fun q => c1 (by rw [Int32.lt_iff_toInt_lt] at q ⊢; have : (0 : Int32).toInt = 0 := rfl; have : (1 : Int32).toInt = 1 := rfl; omega))
        have hm12 : m ≤ 12 := by
          rw [Int32.le_iff_toInt_le, nI_toInt hm] at c2
          have : (12 : Int32).toInt = 12 := rfl
          omega
        rw [nI_clamp hm] at hQ
        refine c_nextGraph hI c3 fun S1 M1 j1 f1 => ?_
        have lM := j1.2.2.2.2.2.2.1
        have ag := ad_ge (x := x) (j := Z.1.length)
        have g1 : sG S1 (ad x Z.1.length) := j1.2.1.2.2.1 _ (by omega)
        simp only [pm_tl_some, q56_0, q56_1, q56_2, q56_5, q56_6, q56_8, q56_11, q56_13, q56_14, q56_15, q56_18, q56_18N, q56_19, q56_19N, q56_20, q56_20N, q56_23, q56_25, q56_26, q56_26N, q56_27, q56_28, q56_29, q56_30, q56_33, q56_34, q56_36, q56_37, q56_40, q56_40N, q56_41, q56_42, q56_43, q56_44, q56_47, q56_50, q56_53, q56_54, q56_57, q56_58, q56_59, q56_e, g1.1, c_become0 g1, pm_tl_none]
        obtain ⟨b1, b2, b3, b4, b5, b6, b7, -, -, b10⟩ := fG_bec_ok (v := 0) (p := none) (q := none) g1
        have bl : ∀ j, j < Z.1.length → ∀ b, cB (ad x j) b → ¬ cB (ad x Z.1.length) b := fun j hj b hb q => by
          have := ad_lt (x := x) hj
          unfold cB at hb q; omega
        have hbx : ∀ b, x ≤ b → b < x + 18 → ¬ cB (ad x Z.1.length) b := fun b q1 q2 q => by unfold cB at q; omega
        have gM : ∀ S', frO (cB (ad x Z.1.length)) S1 S' → sG S' (ad x Z.1.length) → ∀ j, j < M1 → sG S' (ad x j) := by
          intro S' hf hg j hj
          by_cases e : j = Z.1.length
          · subst e; exact hg
          · exact sG_frO (j1.2.1.2.2.1 j hj) hf (fun b hb q => by have := ad_ne (x := x) e; unfold cB at hb q; omega)
        have key := sp_loop (n := m) (P := cB (ad x Z.1.length)) (Inv := fun k S => sG S (ad x Z.1.length) ∧ cC S (ad x Z.1.length) (sp_base k)) (head := fun k S => pm_V (d + 5) 56 35 [.ref x, .int (nI m), .ref (ad x Z.1.length), .int (nI k)] [] S Q) (fin := fun S => pm_V (d + 5) 56 53 [.ref x, .int (nI m), .ref (ad x Z.1.length), .int (nI m)] [] S Q) ?_ ?_ (fG_bec S1 (ad x Z.1.length) 0 none none) ⟨b1, b10⟩ ?_
        · exact key
        · rintro k S hk ⟨hG, hC⟩ _ hN
          have e1 : nI k < nI m := nI_lt (by omega) (by omega)
          have hk2 := (cC_n hC rfl).1
          rw [show (sp_base k).2.1.length = k by simp [sp_base]] at hk2
          obtain ⟨q1, q2⟩ := fG_node_ok (v := 0) (x := none) (y := none) hG hC hk2 (by omega) (Or.inl rfl)
          rw [q56_35]
          simp only [q56_0, q56_1, q56_2, q56_5, q56_6, q56_8, q56_11, q56_13, q56_14, q56_15, q56_18, q56_18N, q56_19, q56_19N, q56_20, q56_20N, q56_23, q56_25, q56_26, q56_26N, q56_27, q56_28, q56_29, q56_30, q56_33, q56_34, q56_36, q56_37, q56_40, q56_40N, q56_41, q56_42, q56_43, q56_44, q56_47, q56_50, q56_54, q56_57, q56_58, q56_59, q56_e, e1, if_true, hG.1, c_addNode hG hk2 (show k ≤ 40 by omega), pm_tl_none, nI_1]
          rw [sp_base_s (by omega)] at q1
          exact hN _ ⟨sG_fr hG q2, q1⟩ q2
        · rintro S ⟨hG, hC⟩ hF
          have e1 : ¬ nI m < nI m := nI_nlt (Nat.le_refl _) (by omega)
          rw [q56_35]
          simp only [q56_0, q56_1, q56_2, q56_5, q56_6, q56_8, q56_11, q56_13, q56_14, q56_15, q56_18, q56_18N, q56_19, q56_19N, q56_20, q56_20N, q56_23, q56_25, q56_26, q56_26N, q56_27, q56_28, q56_29, q56_30, q56_33, q56_34, q56_36, q56_37, q56_40, q56_40N, q56_41, q56_42, q56_43, q56_44, q56_47, q56_50, q56_54, q56_57, q56_58, q56_59, q56_e, e1, if_false]
          exact hF
        · rintro S2 ⟨hG, hC⟩ f2
          have F2 : frO (cB (ad x Z.1.length)) S1 S2 := b2.tr (frO.of f2)
          have J2 := cJ_frO j1 F2 hbx bl (gM S2 F2 hG) (f2.1.trans b3) (f2.2.1.1.trans b4)
          simp only [q56_0, q56_1, q56_2, q56_5, q56_6, q56_8, q56_11, q56_13, q56_14, q56_15, q56_18, q56_18N, q56_19, q56_19N, q56_20, q56_20N, q56_23, q56_25, q56_26, q56_26N, q56_27, q56_28, q56_29, q56_30, q56_33, q56_34, q56_36, q56_37, q56_40, q56_40N, q56_41, q56_42, q56_43, q56_44, q56_47, q56_50, q56_53, q56_54, q56_57, q56_58, q56_59, q56_e, J2.1.1, J2.2.2.1, nI_s1]
          refine hQ S2 M1 ?_ (f1.tr (F2.mono (fun b hb => by unfold cB at hb; unfold cO; omega)))
          obtain ⟨h1, h2, h3, h4, h5, h6, h7, h8, h9, h10⟩ := J2
          have hlen : (Z.1 ++ [((0, 0, 0, (0, 0, 0), false, sp_base m) : sp_G)]).length = Z.1.length + 1 := by simp
          refine ⟨h1, h2, by rw [hlen]; exact h3, h4, h5, h6, by rw [hlen]; exact h7, h8, h9, fun j hj => ?_⟩
          have hj' : j < Z.1.length + 1 := by rw [← hlen]; exact hj
          by_cases e : j = Z.1.length
          · subst e
            have k6 : pm_gi S2 (ad x Z.1.length) 6 = 0 := (f2.2.1.2 _ 6 b1.1 (by decide)).trans b5
            have k12 : pm_gi S2 (ad x Z.1.length) 12 = 0 := (f2.2.1.2 _ 12 b1.1 (by decide)).trans b6
            have k13 : pm_gi S2 (ad x Z.1.length) 13 = 0 := (f2.2.1.2 _ 13 b1.1 (by decide)).trans b7
            have hct : ct (Z.1 ++ [((0, 0, 0, (0, 0, 0), false, sp_base m) : sp_G)], Z.2) Z.1.length = sp_base m := by
              show sp_ctn Z.2.1 Z.2.2 (Z.1 ++ [_]) (23 + 1) Z.1.length = _
              unfold sp_ctn
              rw [gg_new, if_pos (Or.inl rfl)]
            dsimp only
            rw [gg_new, hct]
            exact ⟨⟨k6, fun h => absurd rfl h, k12⟩, ⟨0, by omega, k13⟩, fun _ => hC⟩
          · have hj2 : j < Z.1.length := by omega
            obtain ⟨p1, p2, p3⟩ := h10 j hj2
            have hct := ct_app (q := ((0, 0, 0, (0, 0, 0), false, sp_base m) : sp_G)) hw hj2
            rw [hct]
            unfold fresh
            dsimp only
            rw [gg_app hj2]
            exact ⟨p1, p2, p3⟩
      · rw [if_neg c3] at hQ
        simp only [c_nextNull hI (by omega), pm_tl_some, q56_0, q56_1, q56_2, q56_5, q56_6, q56_8, q56_11, q56_13, q56_14, q56_15, q56_18, q56_18N, q56_19, q56_19N, q56_20, q56_20N, q56_23, q56_25, q56_26, q56_26N, q56_27, q56_28, q56_29, q56_30, q56_33, q56_34, q56_36, q56_37, q56_40, q56_40N, q56_41, q56_42, q56_43, q56_44, q56_47, q56_50, q56_53, q56_54, q56_57, q56_58, q56_59, q56_e]
        exact hQ S M hI frO.rf
    · rw [if_neg c2]; rw [if_neg c2] at hQ; exact hQ S M hI frO.rf
end
