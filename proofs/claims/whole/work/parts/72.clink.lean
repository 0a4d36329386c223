/-! ===== the class: the Reckoner; arcs known by bits; LESS, JOINED ===== -/
/-- the Reckoner at r, in sixteen cells -/
def sR (S : pm_T) (r : Nat) : Prop := pm_sh S r = .inr 4 ∧ pm_gr S r 0 = some (r + 1) ∧ pm_gr S r 1 = some (r + 6) ∧ pm_gr S r 2 = some (r + 11) ∧ pm_gr S r 3 = some (r + 14) ∧ pm_gr S r 4 = some (r + 15) ∧ sT S (r + 1) ∧ sP S (r + 11) ∧ pm_sh S (r + 6) = .inl (3, 4) ∧ (∀ t, t < 4 → pm_zr S (r + 6) t = some (r + 7 + t) ∧ pm_sh S (r + 7 + t) = .inl (0, 40)) ∧ pm_sh S (r + 14) = .inl (0, 40) ∧ pm_sh S (r + 15) = .inl (1, 40)
theorem sR_fr {P : Nat → Prop} {S S' : pm_T} {r : Nat} (h : sR S r) (hf : sp_fr P S S') : sR S' r := by
  unfold sR sT sP at h ⊢
  simp only [hf.2.2.1, hf.2.2.2.1, hf.2.2.2.2.1]
  exact h
/-- an arc from t to h among the first n -/
def sp_has (C : sp_C) (t h : Nat) : Nat → Bool
  | 0 => false
  | n + 1 => sp_has C t h n || (decide ((sp_ar C n).1 = t) && decide ((sp_ar C n).2.1 = h))
theorem sp_has_s (C : sp_C) (t h n : Nat) : sp_has C t h (n + 1) = (sp_has C t h n || (decide ((sp_ar C n).1 = t) && decide ((sp_ar C n).2.1 = h))) := rfl
/-- the bits say which arcs C has among the first n -/
def lk (S : pm_T) (r : Nat) (C : sp_C) (n : Nat) : Prop := ∀ t h, t < 40 → h < 64 → bl (pm_zl S (r + 15) t) h = sp_has C t h n
theorem lk_fr {P : Nat → Prop} {S S' : pm_T} {r n : Nat} {C : sp_C} (h : lk S r C n) (hf : sp_fr P S S') (hP : ¬ P (r + 15)) : lk S' r C n := by
  intro t j ht hj
  rw [(hf.2.2.2.2.2 (r + 15) hP).2.2.2 t]
  exact h t j ht hj
section
variable {d r w a b g n k : Nat} {S : pm_T} {Q : Option Value → pm_T → Prop} {C Ca Cb : sp_C}
set_option maxHeartbeats 1000000 in
theorem c_link (hR : sR S r) (hG : sG S g) (hC : cC S g C) (h0 : C.1 = 0) (ho : sp_ok C) (hd : r + 16 ≤ g) (hQ : ∀ S', lk S' r C C.2.2.1.length → sp_fr (fun b => b = r + 15) S S' → Q none S') : pm_N d 31 [.ref r, .ref g] S Q := by
  simp only [q31_0, q31_1, q31_3, q31_5, q31_8, q31_9, q31_12, q31_13, q31_14, q31_15, q31_18, q31_22, q31_24, q31_24N, q31_25, q31_28, q31_31, q31_34, q31_35, q31_38, q31_38N, q31_39, q31_42, q31_43, q31_44, q31_45, q31_46, q31_47, q31_47N, q31_48, q31_51, q31_52, q31_53, q31_54, q31_55, q31_56, q31_59, q31_62, q31_e]
  refine sp_loop (n := 40) (P := fun b => b = r + 15) (Inv := fun k S => sR S r ∧ sG S g ∧ cC S g C ∧ ∀ t, t < k → pm_zl S (r + 15) t = 0) (head := fun k S => pm_V d 31 2 [.ref r, .ref g, .int (nI k)] [] S Q) (fin := fun S => pm_V d 31 21 [.ref r, .ref g, .int (nI 40)] [] S Q) ?_ ?_ S ⟨hR, hG, hC, fun t ht => absurd ht (by omega)⟩ ?_
  · intro k S hk ⟨hR, hG, hC, hz⟩ _ hN
    have e1 : nI k < 40 := nI_lt (b := 40) hk (by decide)
    have e2 := pm_ar_nI hR.2.2.2.2.2.2.2.2.2.2.2 hk (by decide)
    rw [q31_2]
    simp only [q31_0, q31_1, q31_3, q31_5, q31_8, q31_9, q31_12, q31_13, q31_14, q31_15, q31_18, q31_22, q31_24, q31_24N, q31_25, q31_28, q31_31, q31_34, q31_35, q31_38, q31_38N, q31_39, q31_42, q31_43, q31_44, q31_45, q31_46, q31_47, q31_47N, q31_48, q31_51, q31_52, q31_53, q31_54, q31_55, q31_56, q31_59, q31_62, q31_e, e1, if_true, hR.1, hR.2.2.2.2.2.1, pm_rf_some, e2, nc4 hk, nI_1]
    have f : sp_fr (fun b => b = r + 15) S (pm_szl S (r + 15) k 0) := sp_fr.zl rfl
    refine hN _ ⟨sR_fr hR f, sG_fr hG f, cC_fr hC f (fun b hb hw => by unfold cB at hb; omega), fun t ht => ?_⟩ f
    rw [ps_zl_zl]
    split
    · rfl
    · exact hz t (by omega)
  · intro S _ hF
    rw [q31_2]
    simp only [q31_0, q31_1, q31_3, q31_5, q31_8, q31_9, q31_12, q31_13, q31_14, q31_15, q31_18, q31_22, q31_24, q31_24N, q31_25, q31_28, q31_31, q31_34, q31_35, q31_38, q31_38N, q31_39, q31_42, q31_43, q31_44, q31_45, q31_46, q31_47, q31_47N, q31_48, q31_51, q31_52, q31_53, q31_54, q31_55, q31_56, q31_59, q31_62, q31_e, show ¬ nI 40 < 40 by decide, if_false]
    exact hF
  · intro S1 ⟨hR, hG, hC, hz⟩ hf
    simp only [q31_0, q31_1, q31_3, q31_5, q31_8, q31_9, q31_12, q31_13, q31_14, q31_15, q31_18, q31_21, q31_22, q31_24, q31_24N, q31_25, q31_28, q31_31, q31_34, q31_35, q31_38, q31_38N, q31_39, q31_42, q31_43, q31_44, q31_45, q31_46, q31_47, q31_47N, q31_48, q31_51, q31_52, q31_53, q31_54, q31_55, q31_56, q31_59, q31_62, q31_e]
    refine sp_loop (n := C.2.2.1.length) (P := fun b => b = r + 15) (Inv := fun k S => sR S r ∧ sG S g ∧ cC S g C ∧ lk S r C k) (head := fun k S => pm_V d 31 23 [.ref r, .ref g, .int (nI k)] [] S Q) (fin := fun S => Q none S) ?_ ?_ S1 ⟨hR, hG, hC, fun t h ht _ => by rw [hz t ht, bl_0]; rfl⟩ (fun S2 h2 h3 => hQ S2 h2.2.2.2 (hf.tr h3))
    · intro k S hk ⟨hR, hG, hC, hz⟩ _ hN
      have hm := (cC_m hC h0).2
      have hn := (cC_n hC h0).2
      have e1 : nI k < nI C.2.2.1.length := nI_lt hk (by omega)
      have hk2 : k < 120 := by omega
      have o2 := ho k hk
      have ht : (sp_ar C k).1 < 40 := by omega
      have e2 := pm_ar_nI hR.2.2.2.2.2.2.2.2.2.2.2 ht (by decide)
      rw [q31_23]
      simp only [q31_0, q31_1, q31_3, q31_5, q31_8, q31_9, q31_12, q31_13, q31_14, q31_15, q31_18, q31_22, q31_24, q31_24N, q31_25, q31_28, q31_31, q31_34, q31_35, q31_38, q31_38N, q31_39, q31_42, q31_43, q31_44, q31_45, q31_46, q31_47, q31_47N, q31_48, q31_51, q31_52, q31_53, q31_54, q31_55, q31_56, q31_59, q31_62, q31_e, hG.1, hG.2.1, hG.2.2.1, hG.2.2.2.1, hG.2.2.2.2.1, hG.2.2.2.2.2.1, hG.2.2.2.2.2.2.2.2.1.1, hG.2.2.2.2.2.2.2.2.1.2.1, hG.2.2.2.2.2.2.2.2.1.2.2.1, hG.2.2.2.2.2.2.2.2.1.2.2.2.1, hG.2.2.2.2.2.2.2.2.2.1.1, hG.2.2.2.2.2.2.2.2.2.1.2.1, hG.2.2.2.2.2.2.2.2.2.1.2.2.1, hG.2.2.2.2.2.2.2.2.2.1.2.2.2.1, hG.2.2.2.2.2.2.2.2.2.2.1, hG.2.2.2.2.2.2.2.2.2.2.2.1, hG.2.2.2.2.2.2.2.2.2.2.2.2.1, hG.2.2.2.2.2.2.2.2.2.2.2.2.2.1, pm_rf_some, (cC_m hC h0).1, e1, if_true, hR.1, hR.2.2.2.2.2.1, gr9 hG hk2, gr10 hG hk2, gr6 hG hk2, gr7 hG hk2, gr8 hG hk2, nc12 hk2, (cC_ae hC h0 hk).1, (cC_ae hC h0 hk).2.1, e2, nc4 ht, nI_1]
      have f : ∀ v, sp_fr (fun b => b = r + 15) S (pm_szl S (r + 15) (sp_ar C k).1 v) := fun v => sp_fr.zl rfl
      refine hN _ ⟨sR_fr hR (f _), sG_fr hG (f _), cC_fr hC (f _) (fun b hb hw => by unfold cB at hb; omega), fun t h ht hh => ?_⟩ (f _)
      rw [ps_zl_zl, sp_has_s]
      by_cases et : t = (sp_ar C k).1
      · subst et
        rw [if_pos ⟨rfl, rfl⟩, bl_or (by omega), hz _ _ ht hh]
        simp
      · rw [if_neg (fun q => et q.2), hz t h ht hh]
        simp [show ¬ (sp_ar C k).1 = t from fun q => et q.symm]
    · intro S ⟨hR, hG, hC, hz⟩ hF
      have hm := (cC_m hC h0).2
      have e1 : ¬ nI C.2.2.1.length < nI C.2.2.1.length := nI_nlt (by omega) (by omega)
      rw [q31_23]
      simp only [q31_0, q31_1, q31_3, q31_5, q31_8, q31_9, q31_12, q31_13, q31_14, q31_15, q31_18, q31_22, q31_24, q31_24N, q31_25, q31_28, q31_31, q31_34, q31_35, q31_38, q31_38N, q31_39, q31_42, q31_43, q31_44, q31_45, q31_46, q31_47, q31_47N, q31_48, q31_51, q31_52, q31_53, q31_54, q31_55, q31_56, q31_59, q31_62, q31_e, hG.1, hG.2.1, hG.2.2.1, hG.2.2.2.1, hG.2.2.2.2.1, hG.2.2.2.2.2.1, hG.2.2.2.2.2.2.2.2.1.1, hG.2.2.2.2.2.2.2.2.1.2.1, hG.2.2.2.2.2.2.2.2.1.2.2.1, hG.2.2.2.2.2.2.2.2.1.2.2.2.1, hG.2.2.2.2.2.2.2.2.2.1.1, hG.2.2.2.2.2.2.2.2.2.1.2.1, hG.2.2.2.2.2.2.2.2.2.1.2.2.1, hG.2.2.2.2.2.2.2.2.2.1.2.2.2.1, hG.2.2.2.2.2.2.2.2.2.2.1, hG.2.2.2.2.2.2.2.2.2.2.2.1, hG.2.2.2.2.2.2.2.2.2.2.2.2.1, hG.2.2.2.2.2.2.2.2.2.2.2.2.2.1, pm_rf_some, (cC_m hC h0).1, e1, if_false]
      exact hF
theorem bl_cmp {c : Bool} : (lg_cmp (if c = true then (1 : Int64) else 0) 1 = 0) = (c = true) := by cases c <;> decide
theorem c_isLinked {t h : Nat} (hR : sR S r) (ht : t < 40) (hh : h < 64) : pm_N d 32 [.ref r, .int (nI t), .int (nI h)] S Q = Q (some (.int (if bl (pm_zl S (r + 15) t) h = true then 1 else 0))) S := by
  have e2 := pm_ar_nI hR.2.2.2.2.2.2.2.2.2.2.2 ht (by decide)
  simp only [q32_0, q32_1, q32_4, q32_5, q32_6, q32_7, q32_8, q32_9, q32_10, q32_11, q32_12, q32_15, q32_16, q32_19, q32_20, q32_e, hR.1, hR.2.2.2.2.2.1, pm_rf_some, e2, nc4 ht, bl_read hh, bl_cmp, or_true, true_or]
  split <;> rfl
/-- a's arcs that b has none like -/
def sp_less (a b C : sp_C) (k : Nat) : sp_C := sp_for (fun C e => if sp_has b (sp_ar a e).1 (sp_ar a e).2.1 b.2.2.1.length = true then C else sp_addA C ((sp_ar a e).1, (sp_ar a e).2.1, (sp_ar a e).2.2.1, some e, none)) k 0 C
theorem sp_less_s {a b C : sp_C} {k : Nat} : sp_less a b C (k + 1) = if sp_has b (sp_ar a k).1 (sp_ar a k).2.1 b.2.2.1.length = true then sp_less a b C k else sp_addA (sp_less a b C k) ((sp_ar a k).1, (sp_ar a k).2.1, (sp_ar a k).2.2.1, some k, none) := by unfold sp_less; rw [sp_for_n]
set_option maxHeartbeats 1000000 in
theorem c_copyUnlinked (hR : sR S r) (hw : r + 16 ≤ w) (hL : lk S r Cb Cb.2.2.1.length) (ho : sp_ok Ca) (hW : cW S w a Ca C) (hQ : ∀ S', cW S' w a Ca (sp_less Ca Cb C Ca.2.2.1.length) → sp_fr (cB w) S S' → Q none S') : pm_N (d + 3) 33 [.ref r, .ref w, .ref a] S Q := by
  simp only [q33_0, q33_1, q33_3, q33_3N, q33_4, q33_7, q33_10, q33_13, q33_14, q33_14N, q33_15, q33_18, q33_19, q33_20, q33_20N, q33_21, q33_24, q33_25, q33_26, q33_29, q33_32, q33_32N, q33_33, q33_33N, q33_34, q33_37, q33_38, q33_39, q33_39N, q33_40, q33_43, q33_44, q33_45, q33_45N, q33_46, q33_49, q33_52, q33_53, q33_54, q33_55, q33_56, q33_59, q33_62, q33_65, q33_e]
  refine sp_loop (n := Ca.2.2.1.length) (P := cB w) (Inv := fun k S => sR S r ∧ lk S r Cb Cb.2.2.1.length ∧ cW S w a Ca (sp_less Ca Cb C k)) (head := fun k S => pm_V (d + 3) 33 2 [.ref r, .ref w, .ref a, .int (nI k)] [] S Q) (fin := fun S => Q none S) ?_ ?_ S ⟨hR, hL, hW⟩ (fun S' q1 q2 => hQ S' q1.2.2 q2)
  · intro k S hk ⟨hR, hL, hW⟩ _ hN
    obtain ⟨h1, h2, h3, h4, h5, h6, h7⟩ := id hW
    have hm := (cC_m h3 h4).2
    have hn := (cC_n h3 h4).2
    have e1 : nI k < nI Ca.2.2.1.length := nI_lt (by omega) (by omega)
    obtain ⟨kv, hkv, hks⟩ := h5.2.2.2.2.1
    have hk2 : k < 120 := by omega
    have o2 := ho k hk
    have ht : (sp_ar Ca k).1 < 40 := by omega
    have hh : (sp_ar Ca k).2.1 < 64 := by omega
    obtain ⟨g1, g2⟩ := cW_arc (t := (sp_ar Ca k).1) (h := (sp_ar Ca k).2.1) (v := (sp_ar Ca k).2.2.1) (x := some k) (y := none) hW hks hkv
    rw [q33_2]
    simp only [q33_0, q33_1, q33_3, q33_3N, q33_4, q33_7, q33_10, q33_13, q33_14, q33_14N, q33_15, q33_18, q33_19, q33_20, q33_20N, q33_21, q33_24, q33_25, q33_26, q33_29, q33_32, q33_32N, q33_33, q33_33N, q33_34, q33_37, q33_38, q33_39, q33_39N, q33_40, q33_43, q33_44, q33_45, q33_45N, q33_46, q33_49, q33_52, q33_53, q33_54, q33_55, q33_56, q33_59, q33_62, q33_65, q33_e, h2.1, h2.2.1, h2.2.2.1, h2.2.2.2.1, h2.2.2.2.2.1, h2.2.2.2.2.2.1, h2.2.2.2.2.2.2.2.2.1.1, h2.2.2.2.2.2.2.2.2.1.2.1, h2.2.2.2.2.2.2.2.2.1.2.2.1, h2.2.2.2.2.2.2.2.2.1.2.2.2.1, h2.2.2.2.2.2.2.2.2.2.1.1, h2.2.2.2.2.2.2.2.2.2.1.2.1, h2.2.2.2.2.2.2.2.2.2.1.2.2.1, h2.2.2.2.2.2.2.2.2.2.1.2.2.2.1, h2.2.2.2.2.2.2.2.2.2.2.1, h2.2.2.2.2.2.2.2.2.2.2.2.1, h2.2.2.2.2.2.2.2.2.2.2.2.2.1, h2.2.2.2.2.2.2.2.2.2.2.2.2.2.1, pm_rf_some, (cC_m h3 h4).1, e1, if_true, gr9 h2 hk2, gr10 h2 hk2, gr6 h2 hk2, gr7 h2 hk2, gr8 h2 hk2, nc12 hk2, (cC_ae h3 h4 hk).1, (cC_ae h3 h4 hk).2.1, (cC_ae h3 h4 hk).2.2, hR.1, c_isLinked hR ht hh, hL _ _ ht hh, pm_tl_some, pm_z1, h1.1, c_addArc h1 hks hkv, pm_tl_none, nI_1]
    by_cases hc : sp_has Cb (sp_ar Ca k).1 (sp_ar Ca k).2.1 Cb.2.2.1.length = true
    · rw [if_neg (by simp [hc])]
      exact hN _ ⟨hR, hL, by rw [sp_less_s, if_pos hc]; exact hW⟩ sp_fr.rf
    · rw [if_pos hc]
      exact hN _ ⟨sR_fr hR g2, lk_fr hL g2 (by unfold cB; omega), by rw [sp_less_s, if_neg hc]; exact g1⟩ g2
  · intro S ⟨hR, hL, hW⟩ hF
    obtain ⟨h1, h2, h3, h4, h5, h6, h7⟩ := id hW
    have hm := (cC_m h3 h4).2
    have e1 : ¬ nI Ca.2.2.1.length < nI Ca.2.2.1.length := nI_nlt (by omega) (by omega)
    rw [q33_2]
    simp only [q33_0, q33_1, q33_3, q33_3N, q33_4, q33_7, q33_10, q33_13, q33_14, q33_14N, q33_15, q33_18, q33_19, q33_20, q33_20N, q33_21, q33_24, q33_25, q33_26, q33_29, q33_32, q33_32N, q33_33, q33_33N, q33_34, q33_37, q33_38, q33_39, q33_39N, q33_40, q33_43, q33_44, q33_45, q33_45N, q33_46, q33_49, q33_52, q33_53, q33_54, q33_55, q33_56, q33_59, q33_62, q33_65, q33_e, h2.1, h2.2.1, h2.2.2.1, h2.2.2.2.1, h2.2.2.2.2.1, h2.2.2.2.2.2.1, h2.2.2.2.2.2.2.2.2.1.1, h2.2.2.2.2.2.2.2.2.1.2.1, h2.2.2.2.2.2.2.2.2.1.2.2.1, h2.2.2.2.2.2.2.2.2.1.2.2.2.1, h2.2.2.2.2.2.2.2.2.2.1.1, h2.2.2.2.2.2.2.2.2.2.1.2.1, h2.2.2.2.2.2.2.2.2.2.1.2.2.1, h2.2.2.2.2.2.2.2.2.2.1.2.2.2.1, h2.2.2.2.2.2.2.2.2.2.2.1, h2.2.2.2.2.2.2.2.2.2.2.2.1, h2.2.2.2.2.2.2.2.2.2.2.2.2.1, h2.2.2.2.2.2.2.2.2.2.2.2.2.2.1, pm_rf_some, (cC_m h3 h4).1, e1, if_false]
    exact hF
end
