/-! ===== the class: its constructors ===== -/
section
variable {S : pm_T} {b k n j : Nat}
theorem pn_m_nx : pm_nx (pm_mkm S n k) = pm_nx S + 1 + n := rfl
theorem pn_m_sz : pm_sz (pm_mkm S n k) = pm_sz S + n + n * k := rfl
theorem pn_m_sh : pm_sh (pm_mkm S n k) b = if b = pm_nx S then .inl (3, n) else if pm_nx S < b ∧ b < pm_nx S + 1 + n then .inl (0, k) else pm_sh S b := rfl
theorem pn_m_gr : pm_gr (pm_mkm S n k) b j = pm_gr S b j := rfl
theorem pn_m_gi : pm_gi (pm_mkm S n k) b j = pm_gi S b j := rfl
theorem pn_m_zr : pm_zr (pm_mkm S n k) b j = if b = pm_nx S then (if j < n then some (pm_nx S + 1 + j) else none) else pm_zr S b j := by unfold pm_zr pm_mkm pm_up pm_nx; dsimp only; split <;> rfl
theorem frO.mkm {P : Nat → Prop} (ha : ∀ b, pm_nx S ≤ b → P b) : frO P S (pm_mkm S n k) := fun b hb => by
  have h : b < pm_nx S := Classical.byContradiction fun q => hb (ha b (by omega))
  refine ⟨?_, fun _ => rfl, fun _ => rfl, fun _ => rfl, fun i => ?_, fun _ => rfl, fun i => ?_⟩
  · rw [pn_m_sh, if_neg (by omega), if_neg (by omega)]
  · show (if pm_nx S < b ∧ b < pm_nx S + 1 + n then (fun _ => (0 : Int32)) else S.2.2.2.2.2.2.1 b) i = _
    rw [if_neg (by omega)]; rfl
  · rw [pn_m_zr, if_neg (by omega)]
end
section
variable {d a r x n k : Nat} {S : pm_T} {Q : Option Value → pm_T → Prop}
def fN_tests (S : pm_T) (a : Nat) : pm_T := pm_sgi (pm_sgi (pm_sgi (pm_sgr (pm_mka (pm_sgr (pm_mka (pm_sgr (pm_mka (pm_sgr (pm_mka S 0 20) a 0 (some (pm_nx S))) 1 20) a 1 (some (pm_nx S + 1))) 0 20) a 2 (some (pm_nx S + 1 + 1))) 0 20) a 3 (some (pm_nx S + 1 + 1 + 1))) a 4 0) a 5 0) a 6 0
theorem c_newTests (hs : pm_sh S a = .inr 5) (hn : pm_nx S = a + 1) (hQ : ∀ S', sT S' a → pm_gi S' a 4 = 0 → pm_nx S' = a + 5 → pm_sz S' = pm_sz S + 80 → frO (fun b => a ≤ b) S S' → Q none S') : pm_N d 44 [.ref a] S Q := by
  have h0 : (a = pm_nx S) = False := eq_false (by omega)
  have h1 : (a = pm_nx S + 1) = False := eq_false (by omega)
  have h2 : (a = pm_nx S + 1 + 1) = False := eq_false (by omega)
  have h3 : (a = pm_nx S + 1 + 1 + 1) = False := eq_false (by omega)
  have e : pm_N d 44 [.ref a] S Q = Q none (fN_tests S a) := by
    unfold fN_tests
    simp only [q44_0, q44_1, q44_4, q44_5, q44_7, q44_9, q44_9N, q44_12, q44_13, q44_15, q44_17, q44_17N, q44_20, q44_21, q44_23, q44_25, q44_25N, q44_28, q44_29, q44_31, q44_33, q44_33N, q44_36, q44_37, q44_38, q44_41, q44_42, q44_43, q44_46, q44_47, q44_48, q44_51, q44_e, pm_tl_some, pn_a_sh, pn_a_nx, ps_gr_nx, ps_gr_sh, ps_gi_sh, hs, h0, h1, h2, h3, if_false, show (0 : Int32) ≤ 20 by decide, show (20 : Int32).toNatClampNeg = 20 by decide, show (20 : Nat) ≤ 60000 by decide, and_self]
  rw [e]
  refine hQ _ ?_ ?_ ?_ rfl ?_
  · have q2 : ¬ a = a + 1 + 1 := by omega
    have q3 : ¬ a = a + 1 + 1 + 1 := by omega
    have q4 : ¬ a = a + 1 + 1 + 1 + 1 := by omega
    unfold sT fN_tests
    simp [q2, q3, q4, ps_gi_nx, ps_gi_sz, ps_gi_sh, ps_gi_gi, ps_gi_gl, ps_gi_gr, ps_gi_zi, ps_gi_zl, ps_gi_zr, ps_gi_ar, ps_gi_al, ps_gl_nx, ps_gl_sz, ps_gl_sh, ps_gl_gi, ps_gl_gl, ps_gl_gr, ps_gl_zi, ps_gl_zl, ps_gl_zr, ps_gl_ar, ps_gl_al, ps_gr_nx, ps_gr_sz, ps_gr_sh, ps_gr_gi, ps_gr_gl, ps_gr_gr, ps_gr_zi, ps_gr_zl, ps_gr_zr, ps_gr_ar, ps_gr_al, ps_zi_nx, ps_zi_sz, ps_zi_sh, ps_zi_gi, ps_zi_gl, ps_zi_gr, ps_zi_zi, ps_zi_zl, ps_zi_zr, ps_zi_ar, ps_zi_al, ps_zl_nx, ps_zl_sz, ps_zl_sh, ps_zl_gi, ps_zl_gl, ps_zl_gr, ps_zl_zi, ps_zl_zl, ps_zl_zr, ps_zl_ar, ps_zl_al, ps_zr_nx, ps_zr_sz, ps_zr_sh, ps_zr_gi, ps_zr_gl, ps_zr_gr, ps_zr_zi, ps_zr_zl, ps_zr_zr, ps_zr_ar, ps_zr_al, pm_rf_some, pm_rf_none, pm_tl_some, pm_tl_none, pn_a_sh, pn_a_nx, pn_a_gr, hn, hs]
  · unfold fN_tests; simp [ps_gi_nx, ps_gi_sz, ps_gi_sh, ps_gi_gi, ps_gi_gl, ps_gi_gr, ps_gi_zi, ps_gi_zl, ps_gi_zr, ps_gi_ar, ps_gi_al, ps_gl_nx, ps_gl_sz, ps_gl_sh, ps_gl_gi, ps_gl_gl, ps_gl_gr, ps_gl_zi, ps_gl_zl, ps_gl_zr, ps_gl_ar, ps_gl_al, ps_gr_nx, ps_gr_sz, ps_gr_sh, ps_gr_gi, ps_gr_gl, ps_gr_gr, ps_gr_zi, ps_gr_zl, ps_gr_zr, ps_gr_ar, ps_gr_al, ps_zi_nx, ps_zi_sz, ps_zi_sh, ps_zi_gi, ps_zi_gl, ps_zi_gr, ps_zi_zi, ps_zi_zl, ps_zi_zr, ps_zi_ar, ps_zi_al, ps_zl_nx, ps_zl_sz, ps_zl_sh, ps_zl_gi, ps_zl_gl, ps_zl_gr, ps_zl_zi, ps_zl_zl, ps_zl_zr, ps_zl_ar, ps_zl_al, ps_zr_nx, ps_zr_sz, ps_zr_sh, ps_zr_gi, ps_zr_gl, ps_zr_gr, ps_zr_zi, ps_zr_zl, ps_zr_zr, ps_zr_ar, ps_zr_al, pm_rf_some, pm_rf_none, pm_tl_some, pm_tl_none]
  · show pm_nx S + 1 + 1 + 1 + 1 = _; omega
  · unfold fN_tests
    refine ((((((((frO.mka ?_).tr (frO.gr ?_)).tr (frO.mka ?_)).tr (frO.gr ?_)).tr (frO.mka ?_)).tr (frO.gr ?_)).tr (frO.mka ?_)).tr (frO.gr ?_)).tr ((frO.gi ?_).tr ((frO.gi ?_).tr (frO.gi ?_))) <;> (try simp only [ps_gi_nx, ps_gi_sz, ps_gi_sh, ps_gi_gi, ps_gi_gl, ps_gi_gr, ps_gi_zi, ps_gi_zl, ps_gi_zr, ps_gi_ar, ps_gi_al, ps_gl_nx, ps_gl_sz, ps_gl_sh, ps_gl_gi, ps_gl_gl, ps_gl_gr, ps_gl_zi, ps_gl_zl, ps_gl_zr, ps_gl_ar, ps_gl_al, ps_gr_nx, ps_gr_sz, ps_gr_sh, ps_gr_gi, ps_gr_gl, ps_gr_gr, ps_gr_zi, ps_gr_zl, ps_gr_zr, ps_gr_ar, ps_gr_al, ps_zi_nx, ps_zi_sz, ps_zi_sh, ps_zi_gi, ps_zi_gl, ps_zi_gr, ps_zi_zi, ps_zi_zl, ps_zi_zr, ps_zi_ar, ps_zi_al, ps_zl_nx, ps_zl_sz, ps_zl_sh, ps_zl_gi, ps_zl_gl, ps_zl_gr, ps_zl_zi, ps_zl_zl, ps_zl_zr, ps_zl_ar, ps_zl_al, ps_zr_nx, ps_zr_sz, ps_zr_sh, ps_zr_gi, ps_zr_gl, ps_zr_gr, ps_zr_zi, ps_zr_zl, ps_zr_zr, ps_zr_ar, ps_zr_al, pm_rf_some, pm_rf_none, pm_tl_some, pm_tl_none, pn_a_nx]) <;> omega
def fN_heaps (S : pm_T) (a : Nat) : pm_T := pm_sgi (pm_sgr (pm_mka (pm_sgr (pm_mka S 1 100) a 0 (some (pm_nx S))) 0 100) a 1 (some (pm_nx S + 1))) a 2 0
theorem c_newHeaps (hs : pm_sh S a = .inr 1) (hn : pm_nx S = a + 1) (hQ : ∀ S', sP S' a → pm_nx S' = a + 3 → pm_sz S' = pm_sz S + 200 → frO (fun b => a ≤ b) S S' → Q none S') : pm_N d 12 [.ref a] S Q := by
  have h0 : (a = pm_nx S) = False := eq_false (by omega)
  have h1 : (a = pm_nx S + 1) = False := eq_false (by omega)
  have e : pm_N d 12 [.ref a] S Q = Q none (fN_heaps S a) := by
    unfold fN_heaps
    simp only [q12_0, q12_1, q12_4, q12_5, q12_7, q12_9, q12_9N, q12_12, q12_13, q12_15, q12_17, q12_17N, q12_20, q12_21, q12_22, q12_25, q12_e, pm_tl_some, pn_a_sh, pn_a_nx, ps_gr_nx, ps_gr_sh, ps_gi_sh, hs, h0, h1, if_false, show (0 : Int32) ≤ 100 by decide, show (100 : Int32).toNatClampNeg = 100 by decide, show (100 : Nat) ≤ 60000 by decide, and_self, true_or]
  rw [e]
  refine hQ _ ?_ ?_ rfl ?_
  · have q2 : ¬ a = a + 1 + 1 := by omega
    unfold sP fN_heaps
    simp [q2, ps_gi_nx, ps_gi_sz, ps_gi_sh, ps_gi_gi, ps_gi_gl, ps_gi_gr, ps_gi_zi, ps_gi_zl, ps_gi_zr, ps_gi_ar, ps_gi_al, ps_gl_nx, ps_gl_sz, ps_gl_sh, ps_gl_gi, ps_gl_gl, ps_gl_gr, ps_gl_zi, ps_gl_zl, ps_gl_zr, ps_gl_ar, ps_gl_al, ps_gr_nx, ps_gr_sz, ps_gr_sh, ps_gr_gi, ps_gr_gl, ps_gr_gr, ps_gr_zi, ps_gr_zl, ps_gr_zr, ps_gr_ar, ps_gr_al, ps_zi_nx, ps_zi_sz, ps_zi_sh, ps_zi_gi, ps_zi_gl, ps_zi_gr, ps_zi_zi, ps_zi_zl, ps_zi_zr, ps_zi_ar, ps_zi_al, ps_zl_nx, ps_zl_sz, ps_zl_sh, ps_zl_gi, ps_zl_gl, ps_zl_gr, ps_zl_zi, ps_zl_zl, ps_zl_zr, ps_zl_ar, ps_zl_al, ps_zr_nx, ps_zr_sz, ps_zr_sh, ps_zr_gi, ps_zr_gl, ps_zr_gr, ps_zr_zi, ps_zr_zl, ps_zr_zr, ps_zr_ar, ps_zr_al, pm_rf_some, pm_rf_none, pm_tl_some, pm_tl_none, pn_a_sh, pn_a_nx, pn_a_gr, hn, hs]
  · show pm_nx S + 1 + 1 = _; omega
  · unfold fN_heaps
    refine ((((frO.mka ?_).tr (frO.gr ?_)).tr (frO.mka ?_)).tr (frO.gr ?_)).tr (frO.gi ?_) <;> (try simp only [ps_gi_nx, ps_gi_sz, ps_gi_sh, ps_gi_gi, ps_gi_gl, ps_gi_gr, ps_gi_zi, ps_gi_zl, ps_gi_zr, ps_gi_ar, ps_gi_al, ps_gl_nx, ps_gl_sz, ps_gl_sh, ps_gl_gi, ps_gl_gl, ps_gl_gr, ps_gl_zi, ps_gl_zl, ps_gl_zr, ps_gl_ar, ps_gl_al, ps_gr_nx, ps_gr_sz, ps_gr_sh, ps_gr_gi, ps_gr_gl, ps_gr_gr, ps_gr_zi, ps_gr_zl, ps_gr_zr, ps_gr_ar, ps_gr_al, ps_zi_nx, ps_zi_sz, ps_zi_sh, ps_zi_gi, ps_zi_gl, ps_zi_gr, ps_zi_zi, ps_zi_zl, ps_zi_zr, ps_zi_ar, ps_zi_al, ps_zl_nx, ps_zl_sz, ps_zl_sh, ps_zl_gi, ps_zl_gl, ps_zl_gr, ps_zl_zi, ps_zl_zl, ps_zl_zr, ps_zl_ar, ps_zl_al, ps_zr_nx, ps_zr_sz, ps_zr_sh, ps_zr_gi, ps_zr_gl, ps_zr_gr, ps_zr_zi, ps_zr_zl, ps_zr_zr, ps_zr_ar, ps_zr_al, pm_rf_some, pm_rf_none, pm_tl_some, pm_tl_none, pn_a_nx]) <;> omega
set_option maxHeartbeats 2000000 in
theorem c_newReck (hs : pm_sh S r = .inr 4) (hn : pm_nx S = r + 1) (hQ : ∀ S', sR S' r → pm_gi S' (r + 1) 4 = 0 → pm_nx S' = r + 16 → pm_sz S' ≤ pm_sz S + 1000 → frO (fun b => r ≤ b) S S' → Q none S') : pm_N (d + 1) 24 [.ref r] S Q := by
  simp only [q24_0, q24_1, q24_4, q24_5, q24_8, q24_9, q24_12, q24_12N, q24_15, q24_16, q24_17, q24_19, q24_23, q24_23N, q24_26, q24_27, q24_30, q24_31, q24_34, q24_34N, q24_37, q24_38, q24_40, q24_42, q24_42N, q24_45, q24_46, q24_48, q24_50, q24_50N, q24_53, q24_e, hn]
  refine c_newTests (by rw [pn_k_sh, hn, if_pos rfl]) (by rw [pn_k_nx, hn]) fun T t1 t2 t3 t4 t5 => ?_
  have fT : frO (fun b => r < b) S T := (frO.mk (show r < pm_nx S by omega)).tr (t5.mono (fun b hb => by omega))
  have Tr : pm_sh T r = .inr 4 := (fT r (by omega)).1.trans hs
  have nz5 : pm_nf 5 = 7 := by decide
  have zT : pm_sz T = pm_sz S + 87 := by rw [t4, pn_k_sz, nz5]
  have m1 : pm_sh (pm_mkm (pm_sgr T r 0 (some (r + 1))) 4 40) r = .inr 4 := by rw [pn_m_sh, ps_gr_nx, t3, if_neg (by omega), if_neg (by omega)]; exact Tr
  simp only [pm_tl_none, q24_0, q24_1, q24_4, q24_5, q24_8, q24_9, q24_12, q24_12N, q24_15, q24_16, q24_17, q24_19, q24_23, q24_23N, q24_26, q24_27, q24_30, q24_31, q24_34, q24_34N, q24_37, q24_38, q24_40, q24_42, q24_42N, q24_45, q24_46, q24_48, q24_50, q24_50N, q24_53, q24_e, Tr, ps_gr_nx, t3, show (0 : Int32) ≤ 4 by decide, show (0 : Int32) ≤ 40 by decide, show (4 : Int32).toNatClampNeg = 4 by decide, show (40 : Int32).toNatClampNeg = 40 by decide, show (4 : Nat) ≤ 60000 by decide, show (40 : Nat) ≤ 60000 by decide, and_self, m1]
  have nU : pm_nx (pm_sgr (pm_mkm (pm_sgr T r 0 (some (r + 1))) 4 40) r 1 (some (r + 1 + 5))) = r + 11 := by rw [ps_gr_nx, pn_m_nx, ps_gr_nx, t3]
  have nU' : pm_nx (pm_mkm (pm_sgr T r 0 (some (r + 1))) 4 40) = r + 11 := by rw [pn_m_nx, ps_gr_nx, t3]
  rw [nU']
  refine c_newHeaps (by rw [pn_k_sh, nU, if_pos rfl]) (by rw [pn_k_nx, nU]) fun H h1 h2 h3 h4 => ?_
  have fH : frO (fun b => r + 10 < b) (pm_sgr (pm_mkm (pm_sgr T r 0 (some (r + 1))) 4 40) r 1 (some (r + 1 + 5))) H := (frO.mk (by show r + 10 < _; rw [nU]; omega)).tr (h4.mono (fun b hb => by omega))
  have fU : frO (fun b => b = r ∨ r + 6 ≤ b) T H := ((frO.gr (P := fun b => b = r ∨ r + 6 ≤ b) (Or.inl rfl)).tr ((frO.mkm (fun b hb => Or.inr (by rw [ps_gr_nx, t3] at hb; omega))).tr (frO.gr (Or.inl rfl)))).tr (fH.mono (fun b hb => Or.inr (by omega)))
  have Hr : pm_sh H r = .inr 4 := by rw [(fH r (by omega)).1]; exact m1
  have Hg : ∀ k, pm_gr H r k = if k = 1 then some (r + 6) else if k = 0 then some (r + 1) else pm_gr T r k := fun k => by
    rw [(fH r (by omega)).2.2.2.1, ps_gr_gr, pn_m_gr, ps_gr_gr]
    by_cases e1 : k = 1
    · rw [if_pos ⟨rfl, e1⟩, if_pos e1]
    · rw [if_neg (fun q => e1 q.2), if_neg e1]
      by_cases e0 : k = 0
      · rw [if_pos ⟨rfl, e0⟩, if_pos e0]
      · rw [if_neg (fun q => e0 q.2), if_neg e0]
  have H6 : pm_sh H (r + 6) = .inl (3, 4) := by rw [(fH (r + 6) (by omega)).1, ps_gr_sh, pn_m_sh, ps_gr_nx, t3, if_pos (by omega)]
  have H7 : ∀ t, t < 4 → pm_zr H (r + 6) t = some (r + 7 + t) ∧ pm_sh H (r + 7 + t) = .inl (0, 40) := fun t ht => by
    refine ⟨?_, ?_⟩
    · rw [(fH (r + 6) (by omega)).2.2.2.2.2.2]
      show pm_zr (pm_mkm (pm_sgr T r 0 (some (r + 1))) 4 40) (r + 6) t = _
      rw [pn_m_zr, ps_gr_nx, t3, if_pos (by omega), if_pos ht]
    · rw [(fH (r + 7 + t) (by omega)).1, ps_gr_sh, pn_m_sh, ps_gr_nx, t3, if_neg (by omega), if_pos (by omega)]
  have nz1 : pm_nf 1 = 3 := by decide
  have zH : pm_sz H = pm_sz S + 454 := by rw [h3, pn_k_sz, ps_gr_sz, pn_m_sz, ps_gr_sz, zT, nz1]
  have T1 : sT H (r + 1) := sT_frO t1 fU (fun b q1 q2 q3 => by omega)
  have T4 : pm_gi H (r + 1) 4 = 0 := ((fU (r + 1) (by omega)).2.1 4).trans t2
  have a1 : pm_sh (pm_mka (pm_sgr H r 2 (some (r + 11))) 0 40) r = .inr 4 := by rw [pn_a_sh, ps_gr_nx, h2, if_neg (by omega)]; exact Hr
  have a2 : pm_sh (pm_mka (pm_sgr (pm_mka (pm_sgr H r 2 (some (r + 11))) 0 40) r 3 (some (r + 11 + 3))) 1 40) r = .inr 4 := by rw [pn_a_sh, ps_gr_nx, pn_a_nx, ps_gr_nx, h2, if_neg (by omega)]; exact a1
  simp only [pm_tl_none, q24_0, q24_1, q24_4, q24_5, q24_8, q24_9, q24_12, q24_12N, q24_15, q24_16, q24_17, q24_19, q24_23, q24_23N, q24_26, q24_27, q24_30, q24_31, q24_34, q24_34N, q24_37, q24_38, q24_40, q24_42, q24_42N, q24_45, q24_46, q24_48, q24_50, q24_50N, q24_53, q24_e, Hr, ps_gr_nx, pn_a_nx, h2, show (0 : Int32) ≤ 40 by decide, show (40 : Int32).toNatClampNeg = 40 by decide, show (40 : Nat) ≤ 60000 by decide, and_self, a1, a2]
  have fE : frO (fun b => b = r ∨ r + 14 ≤ b) H (pm_sgr (pm_mka (pm_sgr (pm_mka (pm_sgr H r 2 (some (r + 11))) 0 40) r 3 (some (r + 11 + 3))) 1 40) r 4 (some (r + 11 + 3 + 1))) := (frO.gr (Or.inl rfl)).tr ((frO.mka (Or.inr (by rw [ps_gr_nx, h2]; omega))).tr ((frO.gr (Or.inl rfl)).tr ((frO.mka (Or.inr (by rw [ps_gr_nx, pn_a_nx, ps_gr_nx, h2]; omega))).tr (frO.gr (Or.inl rfl)))))
  refine hQ _ ⟨a2, ?_, ?_, ?_, ?_, ?_, sT_frO T1 fE (fun b q1 q2 q3 => by omega), sP_frO h1 fE (fun b q1 q2 q3 => by omega), ?_, fun t ht => ?_, ?_, ?_⟩ ?_ ?_ ?_ ?_
  · simp [ps_gi_nx, ps_gi_sz, ps_gi_sh, ps_gi_gi, ps_gi_gl, ps_gi_gr, ps_gi_zi, ps_gi_zl, ps_gi_zr, ps_gi_ar, ps_gi_al, ps_gl_nx, ps_gl_sz, ps_gl_sh, ps_gl_gi, ps_gl_gl, ps_gl_gr, ps_gl_zi, ps_gl_zl, ps_gl_zr, ps_gl_ar, ps_gl_al, ps_gr_nx, ps_gr_sz, ps_gr_sh, ps_gr_gi, ps_gr_gl, ps_gr_gr, ps_gr_zi, ps_gr_zl, ps_gr_zr, ps_gr_ar, ps_gr_al, ps_zi_nx, ps_zi_sz, ps_zi_sh, ps_zi_gi, ps_zi_gl, ps_zi_gr, ps_zi_zi, ps_zi_zl, ps_zi_zr, ps_zi_ar, ps_zi_al, ps_zl_nx, ps_zl_sz, ps_zl_sh, ps_zl_gi, ps_zl_gl, ps_zl_gr, ps_zl_zi, ps_zl_zl, ps_zl_zr, ps_zl_ar, ps_zl_al, ps_zr_nx, ps_zr_sz, ps_zr_sh, ps_zr_gi, ps_zr_gl, ps_zr_gr, ps_zr_zi, ps_zr_zl, ps_zr_zr, ps_zr_ar, ps_zr_al, pm_rf_some, pm_rf_none, pm_tl_some, pm_tl_none, pn_a_gr, Hg]
  · simp [ps_gi_nx, ps_gi_sz, ps_gi_sh, ps_gi_gi, ps_gi_gl, ps_gi_gr, ps_gi_zi, ps_gi_zl, ps_gi_zr, ps_gi_ar, ps_gi_al, ps_gl_nx, ps_gl_sz, ps_gl_sh, ps_gl_gi, ps_gl_gl, ps_gl_gr, ps_gl_zi, ps_gl_zl, ps_gl_zr, ps_gl_ar, ps_gl_al, ps_gr_nx, ps_gr_sz, ps_gr_sh, ps_gr_gi, ps_gr_gl, ps_gr_gr, ps_gr_zi, ps_gr_zl, ps_gr_zr, ps_gr_ar, ps_gr_al, ps_zi_nx, ps_zi_sz, ps_zi_sh, ps_zi_gi, ps_zi_gl, ps_zi_gr, ps_zi_zi, ps_zi_zl, ps_zi_zr, ps_zi_ar, ps_zi_al, ps_zl_nx, ps_zl_sz, ps_zl_sh, ps_zl_gi, ps_zl_gl, ps_zl_gr, ps_zl_zi, ps_zl_zl, ps_zl_zr, ps_zl_ar, ps_zl_al, ps_zr_nx, ps_zr_sz, ps_zr_sh, ps_zr_gi, ps_zr_gl, ps_zr_gr, ps_zr_zi, ps_zr_zl, ps_zr_zr, ps_zr_ar, ps_zr_al, pm_rf_some, pm_rf_none, pm_tl_some, pm_tl_none, pn_a_gr, Hg]
  · simp [ps_gi_nx, ps_gi_sz, ps_gi_sh, ps_gi_gi, ps_gi_gl, ps_gi_gr, ps_gi_zi, ps_gi_zl, ps_gi_zr, ps_gi_ar, ps_gi_al, ps_gl_nx, ps_gl_sz, ps_gl_sh, ps_gl_gi, ps_gl_gl, ps_gl_gr, ps_gl_zi, ps_gl_zl, ps_gl_zr, ps_gl_ar, ps_gl_al, ps_gr_nx, ps_gr_sz, ps_gr_sh, ps_gr_gi, ps_gr_gl, ps_gr_gr, ps_gr_zi, ps_gr_zl, ps_gr_zr, ps_gr_ar, ps_gr_al, ps_zi_nx, ps_zi_sz, ps_zi_sh, ps_zi_gi, ps_zi_gl, ps_zi_gr, ps_zi_zi, ps_zi_zl, ps_zi_zr, ps_zi_ar, ps_zi_al, ps_zl_nx, ps_zl_sz, ps_zl_sh, ps_zl_gi, ps_zl_gl, ps_zl_gr, ps_zl_zi, ps_zl_zl, ps_zl_zr, ps_zl_ar, ps_zl_al, ps_zr_nx, ps_zr_sz, ps_zr_sh, ps_zr_gi, ps_zr_gl, ps_zr_gr, ps_zr_zi, ps_zr_zl, ps_zr_zr, ps_zr_ar, ps_zr_al, pm_rf_some, pm_rf_none, pm_tl_some, pm_tl_none, pn_a_gr, Hg]
  · simp [ps_gi_nx, ps_gi_sz, ps_gi_sh, ps_gi_gi, ps_gi_gl, ps_gi_gr, ps_gi_zi, ps_gi_zl, ps_gi_zr, ps_gi_ar, ps_gi_al, ps_gl_nx, ps_gl_sz, ps_gl_sh, ps_gl_gi, ps_gl_gl, ps_gl_gr, ps_gl_zi, ps_gl_zl, ps_gl_zr, ps_gl_ar, ps_gl_al, ps_gr_nx, ps_gr_sz, ps_gr_sh, ps_gr_gi, ps_gr_gl, ps_gr_gr, ps_gr_zi, ps_gr_zl, ps_gr_zr, ps_gr_ar, ps_gr_al, ps_zi_nx, ps_zi_sz, ps_zi_sh, ps_zi_gi, ps_zi_gl, ps_zi_gr, ps_zi_zi, ps_zi_zl, ps_zi_zr, ps_zi_ar, ps_zi_al, ps_zl_nx, ps_zl_sz, ps_zl_sh, ps_zl_gi, ps_zl_gl, ps_zl_gr, ps_zl_zi, ps_zl_zl, ps_zl_zr, ps_zl_ar, ps_zl_al, ps_zr_nx, ps_zr_sz, ps_zr_sh, ps_zr_gi, ps_zr_gl, ps_zr_gr, ps_zr_zi, ps_zr_zl, ps_zr_zr, ps_zr_ar, ps_zr_al, pm_rf_some, pm_rf_none, pm_tl_some, pm_tl_none, pn_a_gr, Hg]
  · exact ps_gr_self
  · rw [(fE (r + 6) (by omega)).1]; exact H6
  · rw [(fE (r + 6) (by omega)).2.2.2.2.2.2, (fE (r + 7 + t) (by omega)).1]; exact H7 t ht
  · rw [ps_gr_sh, pn_a_sh, ps_gr_nx, pn_a_nx, ps_gr_nx, h2, if_neg (by omega), ps_gr_sh, pn_a_sh, ps_gr_nx, h2, if_pos (by omega)]
  · rw [ps_gr_sh, pn_a_sh, ps_gr_nx, pn_a_nx, ps_gr_nx, h2, if_pos (by omega)]
  · rw [(fE (r + 1) (by omega)).2.1]; exact T4
  · show pm_nx H + 1 + 1 = _; omega
  · show pm_sz H + 40 + 40 ≤ _; omega
  · exact (fT.mono (fun b hb => Nat.le_of_lt hb)).tr ((fU.mono (fun b hb => by omega)).tr (fE.mono (fun b hb => by omega)))
/-- what the constructor makes -/
def cW0 (S : pm_T) (x : Nat) : Prop := cX S x ∧ (∀ j, j < 24 → pm_zr S (x + 1) j = none) ∧ pm_gi S x 4 = 0 ∧ pm_gi S x 5 = 1 ∧ cT S (x + 3) [] ∧ cL S (x + 2) (fun _ _ => none)
set_option maxHeartbeats 2000000 in
theorem c_newVJ (hs : pm_sh S x = .inr 6) (hn : pm_nx S = x + 1) (hQ : ∀ S', cW0 S' x → pm_nx S' = x + 18 → pm_sz S' ≤ pm_sz S + 2000 → frO (fun b => x ≤ b) S S' → Q none S') : pm_N (d + 2) 55 [.ref x] S Q := by
  have a1 : pm_sh (pm_mka S 4 24) x = .inr 6 := by rw [pn_a_sh, hn, if_neg (by omega)]; exact hs
  have nA : pm_nx (pm_sgr (pm_mka S 4 24) x 0 (some (x + 1))) = x + 2 := by rw [ps_gr_nx, pn_a_nx, hn]
  have nA' : pm_nx (pm_mka S 4 24) = x + 2 := by rw [pn_a_nx, hn]
  simp only [q55_0, q55_1, q55_4, q55_5, q55_7, q55_10, q55_10N, q55_13, q55_14, q55_17, q55_18, q55_21, q55_21N, q55_24, q55_25, q55_26, q55_29, q55_32, q55_32N, q55_35, q55_36, q55_37, q55_40, q55_43, q55_43N, q55_46, q55_47, q55_48, q55_51, q55_52, q55_53, q55_56, q55_57, q55_60, q55_e, hn, show (0 : Int32) ≤ 24 by decide, show (24 : Int32).toNatClampNeg = 24 by decide, show (24 : Nat) ≤ 60000 by decide, and_self, a1, nA, nA']
  refine c_newReck (by rw [pn_k_sh, nA, if_pos rfl]) (by rw [pn_k_nx, nA]) fun R r1 r2 r3 r4 r5 => ?_
  have fR : frO (fun b => x + 2 ≤ b) (pm_sgr (pm_mka S 4 24) x 0 (some (x + 1))) R := (frO.mk (by show x + 2 ≤ _; rw [nA]; exact Nat.le_refl _)).tr r5
  have R0 : pm_sh R x = .inr 6 := by rw [(fR x (by omega)).1]; exact a1
  have Rg : pm_gr R x 0 = some (x + 1) := by rw [(fR x (by omega)).2.2.2.1]; exact ps_gr_self
  have R1 : pm_sh R (x + 1) = .inl (4, 24) := by rw [(fR (x + 1) (by omega)).1, ps_gr_sh, pn_a_sh, hn, if_pos rfl]
  have Rz : ∀ j, pm_zr R (x + 1) j = none := fun j => by
    rw [(fR (x + 1) (by omega)).2.2.2.2.2.2]
    show pm_zr (pm_mka S 4 24) (x + 1) j = none
    rw [pn_a_zr, hn, if_pos rfl]
  have nz4 : pm_nf 4 = 5 := by decide
  have zR : pm_sz R ≤ pm_sz S + 1100 := by
    rw [pn_k_sz, nz4, ps_gr_sz, pn_a_sz] at r4
    omega
  have g2 : pm_gr (pm_sgr R x 1 (some (x + 2))) (x + 2) 0 = some (x + 3) := by rw [ps_gr_gr, if_neg (by omega)]; exact r1.2.1
  have g3 : pm_gr (pm_sgr (pm_sgr R x 1 (some (x + 2))) x 2 (some (x + 3))) (x + 2) 1 = some (x + 8) := by rw [ps_gr_gr, if_neg (by omega), ps_gr_gr, if_neg (by omega)]; exact r1.2.2.1
  simp only [pm_tl_none, q55_0, q55_1, q55_4, q55_5, q55_7, q55_10, q55_10N, q55_13, q55_14, q55_17, q55_18, q55_21, q55_21N, q55_24, q55_25, q55_26, q55_29, q55_32, q55_32N, q55_35, q55_36, q55_37, q55_40, q55_43, q55_43N, q55_46, q55_47, q55_48, q55_51, q55_52, q55_53, q55_56, q55_57, q55_60, q55_e, R0, ps_gr_sh, ps_gi_sh, ps_gr_self, pm_rf_some, r1.1, g2, show pm_gr (pm_sgr (pm_sgr R x 1 (some (x + 2))) x 2 (some (x + 3))) x 1 = some (x + 2) by rw [ps_gr_gr, if_neg (by omega), ps_gr_self], g3]
  have fE : frO (fun b => b = x) R (pm_sgi (pm_sgi (pm_sgr (pm_sgr (pm_sgr R x 1 (some (x + 2))) x 2 (some (x + 3))) x 3 (some (x + 8))) x 4 0) x 5 1) := (frO.gr (P := fun b => b = x) rfl).tr ((frO.gr (P := fun b => b = x) rfl).tr ((frO.gr (P := fun b => b = x) rfl).tr ((frO.gi (P := fun b => b = x) rfl).tr (frO.gi (P := fun b => b = x) rfl))))
  have hX : cX (pm_sgi (pm_sgi (pm_sgr (pm_sgr (pm_sgr R x 1 (some (x + 2))) x 2 (some (x + 3))) x 3 (some (x + 8))) x 4 0) x 5 1) x := by
    refine ⟨R0, ?_, ?_, ?_, ?_, R1, sR_frO r1 fE (fun b q1 q2 q3 => by omega)⟩
    · rw [ps_gi_gr, ps_gi_gr, ps_gr_gr, if_neg (by omega), ps_gr_gr, if_neg (by omega), ps_gr_gr, if_neg (by omega)]; exact Rg
    · rw [ps_gi_gr, ps_gi_gr, ps_gr_gr, if_neg (by omega), ps_gr_gr, if_neg (by omega), ps_gr_self]
    · rw [ps_gi_gr, ps_gi_gr, ps_gr_gr, if_neg (by omega), ps_gr_self]
    · rw [ps_gi_gr, ps_gi_gr, ps_gr_self]
  refine c_removeLabels hX fun S' l1 f1 => ?_
  simp only [pm_tl_none, q55_0, q55_1, q55_4, q55_5, q55_7, q55_10, q55_10N, q55_13, q55_14, q55_17, q55_18, q55_21, q55_21N, q55_24, q55_25, q55_26, q55_29, q55_32, q55_32N, q55_35, q55_36, q55_37, q55_40, q55_43, q55_43N, q55_46, q55_47, q55_48, q55_51, q55_52, q55_53, q55_56, q55_57, q55_60, q55_e]
  have hX' := cX_fr hX f1
  have w := fun b (q : ¬ (x + 9 ≤ b ∧ b < x + 13)) => f1.2.2.2.2.2 b q
  refine hQ S' ⟨hX', fun j hj => ?_, ?_, ?_, ⟨hX'.2.2.2.2.2.2.2.2.2.2.2.2.1, ?_, (fun k hk => by cases hk)⟩, l1⟩ ?_ ?_ ?_
  · rw [f1.2.2.2.2.1]; exact Rz j
  · rw [(w x (by omega)).1, ps_gi_gi, if_neg (by omega), ps_gi_self]
  · rw [(w x (by omega)).1, ps_gi_self]
  · rw [(w (x + 3) (by omega)).1, ps_gi_gi, if_neg (by omega), ps_gi_gi, if_neg (by omega)]; exact r2
  · rw [f1.1]; exact r3
  · rw [f1.2.1.1]; show pm_sz R ≤ _; omega
  · have f0 : frO (fun b => x ≤ b) S (pm_sgr (pm_mka S 4 24) x 0 (some (x + 1))) := (frO.mka (by show x ≤ pm_nx S; omega)).tr (frO.gr (Nat.le_refl x))
    exact f0.tr ((fR.mono (fun b hb => by omega)).tr ((fE.mono (fun b hb => by omega)).tr ((frO.of f1).mono (fun b hb => by omega))))
end
