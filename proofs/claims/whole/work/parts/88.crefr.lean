/-! ===== the class: refresh ===== -/
/-- nothing changes but in the cells of P -/
def frO (P : Nat → Prop) (S S' : pm_T) : Prop := ∀ b, ¬ P b → pm_sh S' b = pm_sh S b ∧ (∀ k, pm_gi S' b k = pm_gi S b k) ∧ (∀ k, pm_gl S' b k = pm_gl S b k) ∧ (∀ k, pm_gr S' b k = pm_gr S b k) ∧ (∀ k, pm_zi S' b k = pm_zi S b k) ∧ (∀ k, pm_zl S' b k = pm_zl S b k) ∧ ∀ k, pm_zr S' b k = pm_zr S b k
section
variable {P P' : Nat → Prop} {S S' S'' : pm_T} {a k : Nat}
theorem frO.rf : frO P S S := fun b _ => ⟨rfl, fun _ => rfl, fun _ => rfl, fun _ => rfl, fun _ => rfl, fun _ => rfl, fun _ => rfl⟩
theorem frO.tr (h : frO P S S') (h' : frO P S' S'') : frO P S S'' := fun b hb => by
  obtain ⟨a1, a2, a3, a4, a5, a6, a7⟩ := h b hb
  obtain ⟨b1, b2, b3, b4, b5, b6, b7⟩ := h' b hb
  exact ⟨b1.trans a1, fun k => (b2 k).trans (a2 k), fun k => (b3 k).trans (a3 k), fun k => (b4 k).trans (a4 k), fun k => (b5 k).trans (a5 k), fun k => (b6 k).trans (a6 k), fun k => (b7 k).trans (a7 k)⟩
theorem frO.mono (h : frO P S S') (hP : ∀ b, P b → P' b) : frO P' S S' := fun b hb => h b (fun q => hb (hP b q))
theorem frO.of (h : sp_fr P S S') : frO P S S' := fun b hb => ⟨h.2.2.1 b, (h.2.2.2.2.2 b hb).1, (h.2.2.2.2.2 b hb).2.1, h.2.2.2.1 b, (h.2.2.2.2.2 b hb).2.2.1, (h.2.2.2.2.2 b hb).2.2.2, h.2.2.2.2.1 b⟩
theorem frO.gi {x : Int32} (ha : P a) : frO P S (pm_sgi S a k x) := fun b hb => ⟨rfl, fun j => by rw [ps_gi_gi, if_neg (show ¬ (b = a ∧ j = k) from fun q => hb (q.1 ▸ ha))], fun _ => rfl, fun _ => rfl, fun _ => rfl, fun _ => rfl, fun _ => rfl⟩
theorem frO.gr {x : Option Nat} (ha : P a) : frO P S (pm_sgr S a k x) := fun b hb => ⟨rfl, fun _ => rfl, fun _ => rfl, fun j => by rw [ps_gr_gr, if_neg (show ¬ (b = a ∧ j = k) from fun q => hb (q.1 ▸ ha))], fun _ => rfl, fun _ => rfl, fun _ => rfl⟩
theorem frO.zi {x : Int32} (ha : P a) : frO P S (pm_szi S a k x) := fun b hb => ⟨rfl, fun _ => rfl, fun _ => rfl, fun _ => rfl, fun j => by rw [ps_zi_zi, if_neg (show ¬ (b = a ∧ j = k) from fun q => hb (q.1 ▸ ha))], fun _ => rfl, fun _ => rfl⟩
theorem frO.zl {x : Int64} (ha : P a) : frO P S (pm_szl S a k x) := fun b hb => ⟨rfl, fun _ => rfl, fun _ => rfl, fun _ => rfl, fun _ => rfl, fun j => by rw [ps_zl_zl, if_neg (show ¬ (b = a ∧ j = k) from fun q => hb (q.1 ▸ ha))], fun _ => rfl⟩
theorem frO.zr {x : Option Nat} (ha : P a) : frO P S (pm_szr S a k x) := fun b hb => ⟨rfl, fun _ => rfl, fun _ => rfl, fun _ => rfl, fun _ => rfl, fun _ => rfl, fun j => by rw [ps_zr_zr, if_neg (show ¬ (b = a ∧ j = k) from fun q => hb (q.1 ▸ ha))]⟩
end
section
variable {d x g n k nw M : Nat} {S : pm_T} {Q : Option Value → pm_T → Prop} {Z : sp_S}
theorem sp_fr_O {S' : pm_T} (hf : sp_fr (rP (x + 2) (ad x g)) S S') : frO (cO x) S S' := (frO.of hf).mono (fun b hb => by have := ad_ge (x := x) (j := g); unfold rP cB at hb; unfold cO; omega)
set_option maxHeartbeats 4000000 in
theorem c_refresh (hw : wf Z) : ∀ n g dep S, g < n → g < Z.1.length → dep + g < 24 → cI S x Z nw M →
    ∀ Q : Option Value → pm_T → Prop, (∀ S', cI S' x Z nw M → cC S' (ad x g) (ct Z g) → fresh S' x Z nw g → (∀ j, fresh S x Z nw j → fresh S' x Z nw j) → frO (cO x) S S' → Q none S') →
    pm_N (d + n + 66) 85 [.ref x, .ref (ad x g), .int (nI dep)] S Q := by
  intro n
  induction n with
  | zero => intro g dep S h; omega
  | succ n ih =>
    intro g dep S hgn hg hdep hI Q hQ
    rw [show d + (n + 1) + 66 = d + n + 66 + 1 by omega]
    obtain ⟨h1, h2, h3, h4, h5, h6, h7, h8, h9, h10⟩ := id hI
    obtain ⟨f1, ⟨rk, rk1, rk2⟩, f3⟩ := h10 g hg
    obtain ⟨w1, w2, w3, w4, w5⟩ := hw.2.2.2 g hg
    have hG := h2.2.2.1 g (by omega)
    have ag := ad_ge (x := x) (j := g)
    have e24 : nI dep < 24 := nI_lt (b := 24) (by omega) (by decide)
    simp only [q85_0, q85_0N, q85_1, q85_1N, q85_4, q85_5, q85_7, q85_10, q85_10N, q85_11, q85_12, q85_15, q85_18, q85_21, q85_22, q85_23, q85_23N, q85_24, q85_27, q85_28, q85_29, q85_30, q85_33, q85_34, q85_34N, q85_35, q85_38, q85_39, q85_40, q85_41, q85_44, q85_45, q85_48, q85_48N, q85_49, q85_52, q85_52N, q85_53, q85_54, q85_57, q85_60, q85_e, e24, if_true, h1.1, h4, hG.1, c_isStale hG, f1.1, f1.2.2, rk2, pm_tl_some]
    by_cases k0 : (gg Z.1 g).1 = 0
    · have : fresh S x Z nw g := Or.inl k0
      simp only [k0, nI_0', if_true]
      exact hQ S hI (f3 this) this (fun j h => h) frO.rf
    · have k0' : ¬ nI (gg Z.1 g).1 = 0 := fun q => k0 ((nI_eq (b := 0) (by omega) (by decide)).mp q)
      cases hfx : (gg Z.1 g).2.2.2.2.1 with
      | true =>
        have : fresh S x Z nw g := Or.inr (Or.inl hfx)
        simp only [k0', if_false, if_true, show ¬ (1 : Int32) = 0 by decide]
        exact hQ S hI (f3 this) this (fun j h => h) frO.rf
      | false =>
        by_cases hr : rk = nw
        · subst hr
          have : fresh S x Z rk g := Or.inr (Or.inr rk2)
          simp only [k0', if_false, if_true, Bool.false_eq_true]
          exact hQ S hI (f3 this) this (fun j h => h) frO.rf
        · have hr' : ¬ nI rk = nI nw := fun q => hr ((nI_eq (by omega) (by omega)).mp q)
          obtain ⟨v1, v2, v3, v4⟩ := w2 k0
          obtain ⟨c1, c2, c3, c4, c5⟩ := f1.2.1 k0
          simp only [k0', if_false, if_true, Bool.false_eq_true, hr', show ¬ (1 : Int32) = 0 by decide, q85_0, q85_0N, q85_1, q85_1N, q85_4, q85_5, q85_7, q85_10, q85_10N, q85_11, q85_12, q85_15, q85_18, q85_21, q85_22, q85_23, q85_23N, q85_24, q85_27, q85_28, q85_29, q85_30, q85_33, q85_34, q85_34N, q85_35, q85_38, q85_39, q85_40, q85_41, q85_44, q85_45, q85_48, q85_48N, q85_49, q85_52, q85_52N, q85_53, q85_54, q85_57, q85_60, h1.1, hG.1, c1, pm_rf_some, nI_1]
          refine ih (gg Z.1 g).2.1 (dep + 1) S (by omega) (by omega) (by omega) hI _ fun S1 i1 a1 fa1 m1 o1 => ?_
          have hG1 : sG S1 (ad x g) := i1.2.1.2.2.1 g (by omega)
          have F1 := (i1.2.2.2.2.2.2.2.2.2 g hg).1
          simp only [pm_tl_none, q85_0, q85_0N, q85_1, q85_1N, q85_4, q85_5, q85_7, q85_10, q85_10N, q85_11, q85_12, q85_15, q85_18, q85_21, q85_22, q85_23, q85_23N, q85_24, q85_27, q85_28, q85_29, q85_30, q85_33, q85_34, q85_34N, q85_35, q85_38, q85_39, q85_40, q85_41, q85_44, q85_45, q85_48, q85_48N, q85_49, q85_52, q85_52N, q85_53, q85_54, q85_57, q85_60, i1.1.1, hG1.1, (F1.2.1 k0).2.1, pm_rf_some, nI_1]
          refine ih (gg Z.1 g).2.2.1 (dep + 1) S1 (by omega) (by omega) (by omega) i1 _ fun S2 i2 b2 fb2 m2 o2 => ?_
          obtain ⟨j1, j2, j3, j4, j5, j6, j7, j8, j9, j10⟩ := id i2
          have hG2 : sG S2 (ad x g) := j2.2.2.1 g (by omega)
          have F2 := (j10 g hg).1
          have a2 := (j10 (gg Z.1 g).2.1 (by omega)).2.2 (m2 _ fa1)
          obtain ⟨u1, u2, u3, u4, u5⟩ := F2.2.1 k0
          have hrS : rS S2 (x + 2) (ad x g) (ad x (gg Z.1 g).2.1) (ad x (gg Z.1 g).2.2.1) (ct Z (gg Z.1 g).2.1) (ct Z (gg Z.1 g).2.2.1) Z.2.2 Z.2.1 (gg Z.1 g).1 (gg Z.1 g).2.2.2.1.1 (gg Z.1 g).2.2.2.1.2.1 (gg Z.1 g).2.2.2.1.2.2 := ⟨j1.2.2.2.2.2.2, j8, j9, hG2, j2.2.2.1 _ (by omega), j2.2.2.1 _ (by omega), a2, b2, u1, u2, F2.1, u3, u4, u5⟩
          simp only [pm_tl_none, q85_0, q85_0N, q85_1, q85_1N, q85_4, q85_5, q85_7, q85_10, q85_10N, q85_11, q85_12, q85_15, q85_18, q85_21, q85_22, q85_23, q85_23N, q85_24, q85_27, q85_28, q85_29, q85_30, q85_33, q85_34, q85_34N, q85_35, q85_38, q85_39, q85_40, q85_41, q85_44, q85_45, q85_48, q85_48N, q85_49, q85_52, q85_52N, q85_53, q85_54, q85_57, q85_60, j1.1, j1.2.2.1, pm_rf_some, j1.2.2.2.2.2.2.1]
          have a2' := ad_ge (x := x) (j := (gg Z.1 g).2.1)
          have b2' := ad_ge (x := x) (j := (gg Z.1 g).2.2.1)
          refine c_reckon (by omega) (ad_lt v1) (ad_lt v2) (by omega) (by omega) hw.2.2.1 hw.2.1 (ct_gd hw _ _ (Nat.lt_succ_self _) (by omega)) (ct_gd hw _ _ (Nat.lt_succ_self _) (by omega)) (by omega) w1 v3 hrS fun S3 c3 t3 fr3 => ?_
          have hct : ct Z g = sp_view Z.2.1 Z.2.2 (gg Z.1 g).1 (gg Z.1 g).2.2.2.1.1 (gg Z.1 g).2.2.2.1.2.1 (gg Z.1 g).2.2.2.1.2.2 (ct Z (gg Z.1 g).2.1) (ct Z (gg Z.1 g).2.2.1) := by
            rw [ct_step hw hg, if_neg (fun q => q.elim k0 (fun q => by rw [hfx] at q; cases q))]
          rw [← hct] at c3
          have hG3 : sG S3 (ad x g) := sG_fr hG2 fr3
          have hX3 : cX S3 x := cX_fr j1 fr3
          have n3 : pm_gi S3 x 5 = nI nw := by rw [(fr3.2.2.2.2.2 x (by unfold rP cB; omega)).1]; exact j4
          simp only [pm_tl_none, q85_0, q85_0N, q85_1, q85_1N, q85_4, q85_5, q85_7, q85_10, q85_10N, q85_11, q85_12, q85_15, q85_18, q85_21, q85_22, q85_23, q85_23N, q85_24, q85_27, q85_28, q85_29, q85_30, q85_33, q85_34, q85_34N, q85_35, q85_38, q85_39, q85_40, q85_41, q85_44, q85_45, q85_48, q85_48N, q85_49, q85_52, q85_52N, q85_53, q85_54, q85_57, q85_60, hX3.1, n3, hG3.1]
          obtain ⟨z1, z2⟩ := cI_reck i2 hg fr3 c3 t3
          have f13 : frO (cO x) S2 (pm_sgi S3 (ad x g) 13 (nI nw)) := (sp_fr_O fr3).tr (frO.gi (Or.inr ag))
          refine hQ _ z1 ((z1.2.2.2.2.2.2.2.2.2 g hg).2.2 (Or.inr (Or.inr ps_gi_self))) (Or.inr (Or.inr ps_gi_self)) (fun j hj => z2 j (m2 j (m1 j hj))) ((o1.tr o2).tr f13)
end
