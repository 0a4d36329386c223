/-! ===== THE REFERENCE: its whole state, reckon ===== -/
def mG (S : pm_T) (m j : Nat) (q : sp_G) : Prop := pm_zi S (m + 1) j = nI q.1 ∧ (q.1 ≠ 0 → pm_zi S (m + 2) j = nI q.2.1 ∧ pm_zi S (m + 3) j = q.2.2.2.1.1 ∧ pm_zi S (m + 4) j = q.2.2.2.1.2.1 ∧ pm_zi S (m + 5) j = q.2.2.2.1.2.2 ∧ (q.1 = 3 ∨ q.1 = 4 ∨ q.1 = 5 → q.2.2.2.1.1 = nI q.2.2.1)) ∧ pm_zi S (m + 6) j = if q.2.2.2.2.1 = true then 1 else 0
def mC (S : pm_T) (m : Nat) (u : Prop) (j : Nat) (C : sp_C) : Prop := pm_zi S (m + 7) j = nI C.1 ∧ C.1 ≤ 5 ∧ (C.1 = 0 → mR S m j C ∧ mH S m j C ∧ (u → mU S m j C))
def mL (S : pm_T) (m : Nat) (Z : sp_S) : Prop := sM S m ∧ pm_gi S m 0 = nI Z.1.length ∧ pm_gi S m 23 = nI Z.2.2.length ∧ mTs S m Z.2.2 ∧ mLb S m Z.2.1 ∧ ∀ j, j < Z.1.length → mG S m j (gg Z.1 j) ∧ ((gg Z.1 j).1 = 0 ∨ (gg Z.1 j).2.2.2.2.1 = true → mC S m ((gg Z.1 j).1 ≠ 0) j (gg Z.1 j).2.2.2.2.2)
def mAll (S : pm_T) (m : Nat) (Z : sp_S) : Prop := ∀ j, j < Z.1.length → mC S m ((gg Z.1 j).1 ≠ 0) j (ct Z j)
def mI (S : pm_T) (m : Nat) (Z : sp_S) : Prop := mL S m Z ∧ (pm_gi S m 21 = 0 ∨ pm_gi S m 21 = 1 ∧ mAll S m Z)
/-- the reference's cells -/
def mO (m b : Nat) : Prop := m ≤ b ∧ b < m + 34
section
variable {P : Nat → Nat → Prop} {S0 S S' : pm_T} {m a g n k d j : Nat} {C : sp_C} {u : Prop} {Z : sp_S} {Q : Option Value → pm_T → Prop}
theorem mC_fr (h : mC S m u a C) (hf : frI P S S') (hP : ∀ b k, mB m a b k → ¬ P b k) : mC S' m u a C := by
  obtain ⟨h1, h2, h3⟩ := h
  refine ⟨((hf.2.2.2.2.2 (m + 7) a (hP _ _ (by unfold mB; omega))).2.2.1).trans h1, h2, fun q => ?_⟩
  obtain ⟨p1, p2, p3⟩ := h3 q
  exact ⟨mR_fr p1 hf hP, mH_fr p2 hf hP, fun z => mU_fr (p3 z) p1.2.1 p1.2.2.2.1 hf hP⟩
theorem mG_fr {q : sp_G} (h : mG S m j q) (hf : frI P S S') (hP : ∀ b, m + 1 ≤ b → b ≤ m + 6 → ¬ P b j) : mG S' m j q := by
  have e := fun b q1 q2 => (hf.2.2.2.2.2 b j (hP b q1 q2)).2.2.1
  obtain ⟨h1, h2, h3⟩ := h
  refine ⟨(e (m + 1) (by omega) (by omega)).trans h1, fun z => ?_, (e (m + 6) (by omega) (by omega)).trans h3⟩
  obtain ⟨p1, p2, p3, p4, p5⟩ := h2 z
  exact ⟨(e (m + 2) (by omega) (by omega)).trans p1, (e (m + 3) (by omega) (by omega)).trans p2, (e (m + 4) (by omega) (by omega)).trans p3, (e (m + 5) (by omega) (by omega)).trans p4, p5⟩
theorem mTs_fr {ts : List sp_Te} (h : mTs S m ts) (hf : frI P S S') (hP : ∀ b k, m + 22 ≤ b → b ≤ m + 25 → ¬ P b k) : mTs S' m ts := fun k hk => by
  obtain ⟨p1, p2, p3, p4⟩ := h k hk
  exact ⟨((hf.2.2.2.2.2 (m + 22) k (hP _ _ (by omega) (by omega))).2.2.1).trans p1, ((hf.2.2.2.2.2 (m + 23) k (hP _ _ (by omega) (by omega))).2.2.2).trans p2, ((hf.2.2.2.2.2 (m + 24) k (hP _ _ (by omega) (by omega))).2.2.1).trans p3, ((hf.2.2.2.2.2 (m + 25) k (hP _ _ (by omega) (by omega))).2.2.1).trans p4⟩
theorem mLb_fr {LB : Nat → Nat → Option Nat} (h : mLb S m LB) (hf : frI P S S') (hP : ∀ k, ¬ P (m + 21) k) : mLb S' m LB := fun t i ht hi => ((hf.2.2.2.2.2 (m + 21) _ (hP _)).2.2.1).trans (h t i ht hi)
theorem mP_O (hg : g < 24) : ∀ b k, mP m g b k → mO m b := fun b k q => by unfold mP mB mS at q; unfold mO; omega
theorem mC_V (hw : wf Z) (hj : j < Z.1.length) (h : mC S m u j (ct Z j)) : mV S m j (ct Z j) := ⟨h.1, h.2.1, fun q => ⟨(h.2.2 q).1, ct_gd hw _ _ (Nat.lt_succ_self _) hj q⟩⟩
theorem ar6 (hM : sM S m) (hg : g < 24) : pm_ar S (m + 6) 2 (nI g) = true := pm_ar_nI (sM_s6 hM) hg (by decide)
set_option maxHeartbeats 2000000 in
theorem m_reckon (hw : wf Z) (hI : mI S m Z) (hQ : ∀ S', mI S' m Z → mAll S' m Z → frO (mO m) S S' → pm_nx S' = pm_nx S → pm_sz S' = pm_sz S → Q none S') : pm_N (d + 8) 99 [.ref m] S Q := by
  obtain ⟨hL, h21⟩ := id hI
  obtain ⟨hM, -⟩ := id hL
  have h24 := hw.1
  rcases h21 with h21 | ⟨h21, hA⟩
  · have hM0 : sM (pm_sgi S m 21 1) m := hM
    simp only [q99_0, q99_1, q99_4, q99_7, q99_8, q99_9, q99_10, q99_13, q99_14, q99_16, q99_17, q99_20, q99_23, q99_24, q99_27, q99_28, q99_29, q99_32, q99_33, q99_36, q99_37, q99_38, q99_41, q99_42, q99_43, q99_46, q99_49, q99_52, q99_e, sM_0 hM, h21, if_true, or_true]
    have f21 : frI (fun b k => b = m ∧ k = 21) S (pm_sgi S m 21 1) := frI.gi ⟨rfl, rfl⟩
    refine lp (n := Z.1.length) (Inv := fun k S' => mL S' m Z ∧ pm_gi S' m 21 = 1 ∧ (∀ j, j < k → mC S' m ((gg Z.1 j).1 ≠ 0) j (ct Z j)) ∧ frO (mO m) S S' ∧ pm_nx S' = pm_nx S ∧ pm_sz S' = pm_sz S) (head := fun k S => pm_V (d + 8) 99 15 [.ref m, .int (nI k)] [] S Q) ?_ ?_ (pm_sgi S m 21 1) ⟨?_, ps_gi_self, fun j hj => by omega, frO.gi ⟨by omega, by omega⟩, rfl, rfl⟩
    · rintro k S' hk ⟨hL', g21, hC, hO, n1, n2⟩ hN
      obtain ⟨hM', l0, l23, lT, lB, lG⟩ := id hL'
      obtain ⟨hG, hst⟩ := lG k hk
      obtain ⟨w1, w2, w3, w4, w5⟩ := hw.2.2.2 k hk
      have hk24 : k < 24 := by omega
      have e1 : nI k < nI Z.1.length := nI_lt hk (by omega)
      have z0 := nI_le0 (show (gg Z.1 k).1 < 2 ^ 31 by omega)
      have stay : ((gg Z.1 k).1 = 0 ∨ (gg Z.1 k).2.2.2.2.1 = true) → pm_V (d + 8) 99 15 [.ref m, .int (nI (k + 1))] [] S' Q := fun q => by
        refine hN S' ⟨hL', g21, fun j hj => ?_, hO, n1, n2⟩
        by_cases e : j = k
        · subst e
          rw [ct_st q]
          exact hst q
        · exact hC j (by omega)
      rw [q99_15]
      simp only [q99_0, q99_1, q99_4, q99_7, q99_8, q99_9, q99_10, q99_13, q99_14, q99_16, q99_17, q99_20, q99_23, q99_24, q99_27, q99_28, q99_29, q99_32, q99_33, q99_36, q99_37, q99_38, q99_41, q99_42, q99_43, q99_46, q99_49, q99_52, q99_e, sM_0 hM', l0, e1, if_true, sM_r1 hM', sM_r6 hM', pm_rf_some, ar1 hM' hk24, ar6 hM' hk24, nc24 hk24, hG.1, z0, hG.2.2, nI_1]
      by_cases k0 : (gg Z.1 k).1 = 0
      · rw [if_pos k0]; exact stay (Or.inl k0)
      · rw [if_neg k0]
        cases hfx : (gg Z.1 k).2.2.2.2.1 with
        | true =>
          simp only [if_true, show ¬ (1 : Int32) = 0 by decide, if_false]
          exact stay (Or.inr hfx)
        | false =>
          obtain ⟨v1, v2, v3, v4⟩ := w2 k0
          obtain ⟨p1, p2, p3, p4, p5⟩ := hG.2.1 k0
          simp only [Bool.false_eq_true, if_false, if_true]
          refine m_reckonOne (d := d) (a := (gg Z.1 k).2.1) (b := (gg Z.1 k).2.2.1) (Ca := ct Z (gg Z.1 k).2.1) (Cb := ct Z (gg Z.1 k).2.2.1) hM' hk24 (by omega) w1 hG.1 p1 p2 p3 p4 v1 v2 p5 (fun q => by rw [v4 q]) hw.2.2.1 hw.2.1 v3 lT lB (mC_V hw (by omega) (hC _ v1)) (mC_V hw (by omega) (hC _ v2)) fun S2 hE => ?_
          have hct : ct Z k = sp_view Z.2.1 Z.2.2 (gg Z.1 k).1 (gg Z.1 k).2.2.2.1.1 (gg Z.1 k).2.2.2.1.2.1 (gg Z.1 k).2.2.2.1.2.2 (ct Z (gg Z.1 k).2.1) (ct Z (gg Z.1 k).2.2.1) := by
            rw [ct_step hw hk, if_neg (fun q => q.elim k0 (fun q => by rw [hfx] at q; cases q))]
          rw [← hct] at hE
          obtain ⟨x1, x2, x3, x4, x5⟩ := hE
          simp only [pm_tl_none, q99_0, q99_1, q99_4, q99_7, q99_8, q99_9, q99_10, q99_13, q99_14, q99_16, q99_17, q99_20, q99_23, q99_24, q99_27, q99_28, q99_29, q99_32, q99_33, q99_36, q99_37, q99_38, q99_41, q99_42, q99_43, q99_46, q99_49, q99_52, q99_e, nI_1]
          have keep : ∀ j, j ≠ k → ∀ u C, mC S' m u j C → mC S2 m u j C := fun j e u C h => mC_fr h x2 (mB_ne e)
          refine hN S2 ⟨⟨x1, ?_, ?_, mTs_fr lT x2 (fun b k q1 q2 => by unfold mP mB mS; omega), mLb_fr lB x2 (fun k => by unfold mP mB mS; omega), fun j hj => ⟨mG_fr (lG j hj).1 x2 (fun b q1 q2 => by unfold mP mB mS; omega), fun q => ?_⟩⟩, ?_, fun j hj => ?_, hO.tr (x2.O (mP_O hk24)), x2.1.trans n1, x2.2.1.trans n2⟩
          · rw [(x2.2.2.2.2.2 m 0 (by unfold mP mB mS; omega)).1]; exact l0
          · rw [(x2.2.2.2.2.2 m 23 (by unfold mP mB mS; omega)).1]; exact l23
          · by_cases e : j = k
            · subst e
              exact absurd q (fun q => q.elim k0 (fun q => by rw [hfx] at q; cases q))
            · exact keep j e _ _ ((lG j hj).2 q)
          · rw [(x2.2.2.2.2.2 m 21 (by unfold mP mB mS; omega)).1]; exact g21
          · by_cases e : j = k
            · subst e
              exact ⟨x3, x4, fun q => ⟨(x5 q).2.2.1, (x5 q).2.2.2.2, fun _ => (x5 q).2.2.2.1⟩⟩
            · exact keep j e _ _ (hC j (by omega))
    · rintro S' ⟨hL', g21, hC, hO, n1, n2⟩
      have hM' := hL'.1
      have e1 : ¬ nI Z.1.length < nI Z.1.length := nI_nlt (Nat.le_refl _) (by omega)
      rw [q99_15]
      simp only [q99_0, q99_1, q99_4, q99_7, q99_8, q99_9, q99_10, q99_13, q99_14, q99_16, q99_17, q99_20, q99_23, q99_24, q99_27, q99_28, q99_29, q99_32, q99_33, q99_36, q99_37, q99_38, q99_41, q99_42, q99_43, q99_46, q99_49, q99_52, q99_e, sM_0 hM', hL'.2.1, e1, if_false]
      exact hQ S' ⟨hL', Or.inr ⟨g21, hC⟩⟩ hC hO n1 n2
    · obtain ⟨-, l0, l23, lT, lB, lG⟩ := hL
      refine ⟨hM0, by rw [ps_gi_gi, if_neg (by omega)]; exact l0, by rw [ps_gi_gi, if_neg (by omega)]; exact l23, mTs_fr lT f21 (fun b k q1 q2 q3 => by omega), mLb_fr lB f21 (fun k q => by omega), fun j hj => ⟨mG_fr (lG j hj).1 f21 (fun b q1 q2 q3 => by omega), fun q => mC_fr ((lG j hj).2 q) f21 (fun b k q1 q2 => by unfold mB at q1; omega)⟩⟩
  · simp only [q99_0, q99_1, q99_4, q99_7, q99_8, q99_9, q99_10, q99_13, q99_14, q99_16, q99_17, q99_20, q99_23, q99_24, q99_27, q99_28, q99_29, q99_32, q99_33, q99_36, q99_37, q99_38, q99_41, q99_42, q99_43, q99_46, q99_49, q99_52, q99_e, sM_0 hM, h21, show ¬ (1 : Int32) = 0 by decide, if_false]
    exact hQ S hI hA frO.rf rfl rfl
end
