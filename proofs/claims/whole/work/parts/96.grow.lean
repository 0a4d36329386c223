/-! ===== frames by cells for all that the class has ===== -/
section
variable {P : Nat → Prop} {S S' : pm_T} {a r x n nw M L : Nat} {Z : sp_S}
theorem sT_frO (h : sT S a) (hf : frO P S S') (hP : ∀ b, a ≤ b → b < a + 5 → ¬ P b) : sT S' a := by
  have e0 := hf a (hP a (by omega) (by omega))
  have e1 := hf (a + 1) (hP _ (by omega) (by omega))
  have e2 := hf (a + 2) (hP _ (by omega) (by omega))
  have e3 := hf (a + 3) (hP _ (by omega) (by omega))
  have e4 := hf (a + 4) (hP _ (by omega) (by omega))
  unfold sT at h ⊢
  simp only [e0.1, e0.2.2.2.1, e1.1, e2.1, e3.1, e4.1]
  exact h
theorem sP_frO (h : sP S a) (hf : frO P S S') (hP : ∀ b, a ≤ b → b < a + 3 → ¬ P b) : sP S' a := by
  have e0 := hf a (hP a (by omega) (by omega))
  have e1 := hf (a + 1) (hP _ (by omega) (by omega))
  have e2 := hf (a + 2) (hP _ (by omega) (by omega))
  unfold sP at h ⊢
  simp only [e0.1, e0.2.2.2.1, e1.1, e2.1]
  exact h
theorem sR_frO (h : sR S r) (hf : frO P S S') (hP : ∀ b, r ≤ b → b < r + 16 → ¬ P b) : sR S' r := by
  have e : ∀ j, j < 16 → _ := fun j hj => hf (r + j) (hP (r + j) (by omega) (by omega))
  have e0 := e 0 (by decide)
  obtain ⟨h1, h2, h3, h4, h5, h6, h7, h8, h9, h10, h11, h12⟩ := h
  refine ⟨e0.1.trans h1, (e0.2.2.2.1 _).trans h2, (e0.2.2.2.1 _).trans h3, (e0.2.2.2.1 _).trans h4, (e0.2.2.2.1 _).trans h5, (e0.2.2.2.1 _).trans h6, sT_frO h7 hf (fun b q1 q2 => hP b (by omega) (by omega)), sP_frO h8 hf (fun b q1 q2 => hP b (by omega) (by omega)), (e 6 (by decide)).1.trans h9, fun t ht => ?_, (e 14 (by decide)).1.trans h11, (e 15 (by decide)).1.trans h12⟩
  exact ⟨((e 6 (by decide)).2.2.2.2.2.2 t).trans (h10 t ht).1, (hf (r + 7 + t) (hP _ (by omega) (by omega))).1.trans (h10 t ht).2⟩
theorem cX_frO (h : cX S x) (hf : frO P S S') (hP : ∀ b, x ≤ b → b < x + 18 → ¬ P b) : cX S' x := by
  have e0 := hf x (hP x (by omega) (by omega))
  have e1 := hf (x + 1) (hP _ (by omega) (by omega))
  obtain ⟨h1, h2, h3, h4, h5, h6, h7⟩ := h
  exact ⟨e0.1.trans h1, (e0.2.2.2.1 _).trans h2, (e0.2.2.2.1 _).trans h3, (e0.2.2.2.1 _).trans h4, (e0.2.2.2.1 _).trans h5, e1.1.trans h6, sR_frO h7 hf (fun b q1 q2 => hP b (by omega) (by omega))⟩
theorem cT_frO {ts : List sp_Te} (h : cT S a ts) (hf : frO P S S') (hP : ∀ b, a ≤ b → b < a + 5 → ¬ P b) : cT S' a ts := by
  refine ⟨sT_frO h.1 hf hP, ((hf a (hP a (by omega) (by omega))).2.1 4).trans h.2.1, fun k hk => ?_⟩
  obtain ⟨h1, h2, h3, h4⟩ := h.2.2 k hk
  exact ⟨((hf (a + 1) (hP _ (by omega) (by omega))).2.2.2.2.1 k).trans h1, ((hf (a + 2) (hP _ (by omega) (by omega))).2.2.2.2.2.1 k).trans h2, ((hf (a + 3) (hP _ (by omega) (by omega))).2.2.2.2.1 k).trans h3, ((hf (a + 4) (hP _ (by omega) (by omega))).2.2.2.2.1 k).trans h4⟩
theorem cL_frO {LB : Nat → Nat → Option Nat} (h : cL S r LB) (hf : frO P S S') (hP : ∀ b, r + 7 ≤ b → b < r + 11 → ¬ P b) : cL S' r LB := fun t i ht hi => ((hf (r + 7 + t) (hP _ (by omega) (by omega))).2.2.2.2.1 i).trans (h t i ht hi)
theorem cF_frO {j : Nat} {q : sp_G} (h : cF S x j q) (hf : frO P S S') (hP : ¬ P (ad x j)) : cF S' x j q := by
  have e := hf _ hP
  obtain ⟨h1, h2, h3⟩ := h
  exact ⟨(e.2.1 _).trans h1, fun hq => ⟨(e.2.2.2.1 _).trans (h2 hq).1, (e.2.2.2.1 _).trans (h2 hq).2.1, (e.2.1 _).trans (h2 hq).2.2.1, (e.2.1 _).trans (h2 hq).2.2.2.1, (e.2.1 _).trans (h2 hq).2.2.2.2⟩, (e.2.1 _).trans h3⟩
/-- all is in order, but L is told as the number of graphs -/
def cJ (S : pm_T) (x : Nat) (Z : sp_S) (nw M L : Nat) : Prop := cX S x ∧ cM S x M ∧ pm_gi S x 4 = nI L ∧ pm_gi S x 5 = nI nw ∧ 1 ≤ nw ∧ nw ≤ 2000 ∧ L ≤ M ∧ cT S (x + 3) Z.2.2 ∧ cL S (x + 2) Z.2.1 ∧ ∀ j, j < Z.1.length → cF S x j (gg Z.1 j) ∧ (∃ rk, rk ≤ nw ∧ pm_gi S (ad x j) 13 = nI rk) ∧ (fresh S x Z nw j → cC S (ad x j) (ct Z j))
theorem fresh_frO {j : Nat} (hf : frO P S S') (hP : ¬ P (ad x j)) (h : fresh S' x Z nw j) : fresh S x Z nw j := by
  unfold fresh at h ⊢
  rw [(hf _ hP).2.1] at h
  exact h
theorem cJ_frO (h : cJ S x Z nw M L) (hf : frO P S S') (hx : ∀ b, x ≤ b → b < x + 18 → ¬ P b) (hj : ∀ j, j < Z.1.length → ∀ b, cB (ad x j) b → ¬ P b) (hG : ∀ j, j < M → sG S' (ad x j)) (hn : pm_nx S' = pm_nx S) (hz : pm_sz S' = pm_sz S) : cJ S' x Z nw M L := by
  obtain ⟨h1, h2, h3, h4, h5, h6, h7, h8, h9, h10⟩ := h
  have e0 := hf x (hx x (by omega) (by omega))
  have e1 := hf (x + 1) (hx _ (by omega) (by omega))
  refine ⟨cX_frO h1 hf hx, ⟨h2.1, fun j q => (e1.2.2.2.2.2.2 j).trans (h2.2.1 j q), hG, hn.trans h2.2.2.2.1, hz ▸ h2.2.2.2.2⟩, (e0.2.1 _).trans h3, (e0.2.1 _).trans h4, h5, h6, h7, cT_frO h8 hf (fun b q1 q2 => hx b (by omega) (by omega)), cL_frO h9 hf (fun b q1 q2 => hx b (by omega) (by omega)), fun j q => ?_⟩
  have hja := hj j q (ad x j) ⟨by omega, by omega⟩
  obtain ⟨f1, ⟨rk, f2, f3⟩, f4⟩ := h10 j q
  exact ⟨cF_frO f1 hf hja, ⟨rk, f2, ((hf _ hja).2.1 _).trans f3⟩, fun z => cC_frO (f4 (fresh_frO hf hja z)) hf (hj j q)⟩
theorem cI_J : cI S x Z nw M ↔ cJ S x Z nw M Z.1.length := Iff.rfl
/-- nothing of the class has changed -/
theorem cI_frO (h : cI S x Z nw M) (hf : frO P S S') (hP : ∀ b, cO x b → ¬ P b) (hn : pm_nx S' = pm_nx S) (hz : pm_sz S' = pm_sz S) : cI S' x Z nw M := by
  have hc : ∀ j b, cB (ad x j) b → ¬ P b := fun j b hb => hP b (by have := ad_ge (x := x) (j := j); unfold cB at hb; unfold cO; omega)
  exact cJ_frO (L := Z.1.length) h hf (fun b q1 q2 => hP b (Or.inl ⟨q1, q2⟩)) (fun j _ b hb => hc j b hb) (fun j hj => sG_frO (h.2.1.2.2.1 j hj) hf (hc j)) hn hz
end
/-! ===== more graphs, more tests ===== -/
section
variable {q : sp_G} {te : sp_Te} {ts : List sp_Te} {gs : List sp_G} {Z : sp_S} {C Ca Cb : sp_C} {LB : Nat → Nat → Option Nat}
theorem gg_app {j : Nat} (h : j < gs.length) : gg (gs ++ [q]) j = gg gs j := by
  unfold gg
  rw [List.getD_eq_getElem?_getD, List.getD_eq_getElem?_getD, List.getElem?_append_left h]
theorem gg_new : gg (gs ++ [q]) gs.length = q := by
  unfold gg
  rw [List.getD_eq_getElem?_getD, List.getElem?_append_right (Nat.le_refl _), Nat.sub_self]
  rfl
theorem ctn_app (hw : wf Z) : ∀ n g, g < Z.1.length → sp_ctn Z.2.1 Z.2.2 (Z.1 ++ [q]) n g = sp_ctn Z.2.1 Z.2.2 Z.1 n g
  | 0, g, _ => rfl
  | n + 1, g, hg => by
    unfold sp_ctn
    rw [gg_app hg]
    by_cases hs : (gg Z.1 g).1 = 0 ∨ (gg Z.1 g).2.2.2.2.1 = true
    · rw [if_pos hs, if_pos hs]
    · rw [if_neg hs, if_neg hs]
      obtain ⟨-, w2, -⟩ := hw.2.2.2 g hg
      obtain ⟨w3, w4, -⟩ := w2 (fun q => hs (Or.inl q))
      rw [ctn_app hw n _ (by omega), ctn_app hw n _ (by omega)]
theorem ct_app (hw : wf Z) {g : Nat} (hg : g < Z.1.length) : ct (Z.1 ++ [q], Z.2) g = ct Z g := ctn_app hw 24 g hg
theorem te_app {t : Nat} (h : t < ts.length) : sp_te (ts ++ [te]) t = sp_te ts t := by
  unfold sp_te
  rw [List.getD_eq_getElem?_getD, List.getD_eq_getElem?_getD, List.getElem?_append_left h]
theorem te_new : sp_te (ts ++ [te]) ts.length = te := by
  unfold sp_te
  rw [List.getD_eq_getElem?_getD, List.getElem?_append_right (Nat.le_refl _), Nat.sub_self]
  rfl
theorem tok_T (hk : sp_tok ts) {t : Nat} (h : t < ts.length) (h4 : 4 ≤ (sp_te ts t).1) : sp_tT ts t < t := by
  obtain ⟨x, hx, e⟩ := (hk.2 t h).2.1 h4
  have := hk.1
  unfold sp_tT
  rw [e, nI_clamp (by omega)]
  exact hx
theorem tok_U (hk : sp_tok ts) {t : Nat} (h : t < ts.length) (h4 : (sp_te ts t).1 = 5 ∨ (sp_te ts t).1 = 6) : sp_tU ts t < t := by
  obtain ⟨x, hx, e⟩ := (hk.2 t h).2.2 h4
  have := hk.1
  unfold sp_tU
  rw [e, nI_clamp (by omega)]
  exact hx
theorem say_app (hk : sp_tok ts) : ∀ n wh i t st, t < ts.length → sp_say C (ts ++ [te]) n wh i t st = sp_say C ts n wh i t st
  | 0, _, _, _, _, _ => rfl
  | n + 1, wh, i, t, st, ht => by
    have eT : sp_tT (ts ++ [te]) t = sp_tT ts t := by unfold sp_tT; rw [te_app ht]
    have eU : sp_tU (ts ++ [te]) t = sp_tU ts t := by unfold sp_tU; rw [te_app ht]
    unfold sp_say
    rw [te_app ht, eT, eU]
    by_cases h1 : 2000 ≤ st.1
    · rw [if_pos h1, if_pos h1]
    · rw [if_neg h1, if_neg h1]
      by_cases h2 : (sp_te ts t).1 < 4
      · rw [if_pos h2, if_pos h2]
      · rw [if_neg h2, if_neg h2]
        have hT := tok_T hk ht (by omega)
        have f : (fun j st => sp_say C (ts ++ [te]) n 0 j (sp_tT ts t) st) = fun j st => sp_say C ts n 0 j (sp_tT ts t) st := by
          funext j st
          exact say_app hk n 0 j _ st (by omega)
        rw [f, say_app hk n _ _ (sp_tT ts t) _ (by omega), say_app hk n _ _ (sp_tT ts t) _ (by omega)]
        by_cases h8 : (sp_te ts t).1 = 8
        · rw [if_pos h8, if_pos h8]
        · rw [if_neg h8, if_neg h8]
          dsimp only
          by_cases h5 : (sp_te ts t).1 = 5
          · rw [say_app hk n _ _ (sp_tU ts t) _ (by have := tok_U hk ht (Or.inl h5); omega)]
          · by_cases h6 : (sp_te ts t).1 = 6
            · rw [say_app hk n _ _ (sp_tU ts t) _ (by have := tok_U hk ht (Or.inr h6); omega)]
            · rw [if_neg h5, if_neg h5, if_neg h6, if_neg h6]
theorem ask_app (hk : sp_tok ts) {t : Option Nat} (h : sp_tq ts t) : fi_ask Ca (ts ++ [te]) t = fi_ask Ca ts t := by
  funext wh i st
  cases t with
  | none => rfl
  | some t => exact say_app hk 20 wh i t st (h t rfl)
theorem fil_app (hk : sp_tok ts) {tb tc : Option Nat} {md : Nat} (h1 : sp_tq ts tb) (h2 : sp_tq ts tc) : sp_fil Ca (ts ++ [te]) tb tc md = sp_fil Ca ts tb tc md := by
  have e1 : fi_N Ca (ts ++ [te]) tb md = fi_N Ca ts tb md := by
    funext X i
    unfold fi_N
    rw [ask_app hk h1]
  have e2 : fi_A Ca (ts ++ [te]) tc md = fi_A Ca ts tc md := by
    funext X i
    unfold fi_A
    rw [ask_app hk h2]
  unfold sp_fil fi_a fi_n
  rw [e1, e2]
theorem view_app (hk : sp_tok ts) {k : Nat} {cb cc cd : Int32} (hv : sp_vok ts k cb cc cd) : sp_view LB (ts ++ [te]) k cb cc cd Ca Cb = sp_view LB ts k cb cc cd Ca Cb := by
  unfold sp_view
  by_cases h1 : k = 1
  · obtain ⟨tb, tc, md, rfl, rfl, rfl, q1, q2, q3⟩ := hv.1 h1
    have := hk.1
    rw [sp_de_e (fun x hx => by have := q1 x hx; omega), sp_de_e (fun x hx => by have := q2 x hx; omega), fil_app hk q1 q2]
  · simp only [if_neg h1]
theorem ctn_ts (hw : wf Z) : ∀ n g, g < Z.1.length → sp_ctn Z.2.1 (Z.2.2 ++ [te]) Z.1 n g = sp_ctn Z.2.1 Z.2.2 Z.1 n g
  | 0, g, _ => rfl
  | n + 1, g, hg => by
    unfold sp_ctn
    by_cases hs : (gg Z.1 g).1 = 0 ∨ (gg Z.1 g).2.2.2.2.1 = true
    · rw [if_pos hs, if_pos hs]
    · rw [if_neg hs, if_neg hs]
      obtain ⟨-, w2, -⟩ := hw.2.2.2 g hg
      obtain ⟨w3, w4, w5, -⟩ := w2 (fun q => hs (Or.inl q))
      rw [ctn_ts hw n _ (by omega), ctn_ts hw n _ (by omega), view_app hw.2.1 w5]
theorem ct_ts (hw : wf Z) {g : Nat} (hg : g < Z.1.length) : ct (Z.1, Z.2.1, Z.2.2 ++ [te]) g = ct Z g := ctn_ts hw 24 g hg
theorem tq_app {t : Option Nat} (h : sp_tq ts t) : sp_tq (ts ++ [te]) t := fun x hx => by have := h x hx; rw [List.length_append]; omega
theorem vok_app {k : Nat} {cb cc cd : Int32} (hv : sp_vok ts k cb cc cd) : sp_vok (ts ++ [te]) k cb cc cd := by
  refine ⟨fun h => ?_, hv.2⟩
  obtain ⟨tb, tc, md, e1, e2, e3, q1, q2, q3⟩ := hv.1 h
  exact ⟨tb, tc, md, e1, e2, e3, tq_app q1, tq_app q2, q3⟩
theorem wf_app (hw : wf Z) (hl : Z.1.length < 24) (hq : gw Z.2.2 Z.1.length q) : wf (Z.1 ++ [q], Z.2) := by
  refine ⟨by show (Z.1 ++ [q]).length ≤ 24; rw [List.length_append]; simp; omega, hw.2.1, hw.2.2.1, fun g hg => ?_⟩
  have hg' : g < Z.1.length + 1 := by simpa using hg
  by_cases e : g = Z.1.length
  · subst e
    show gw Z.2.2 Z.1.length (gg (Z.1 ++ [q]) Z.1.length)
    rw [gg_new]; exact hq
  · show gw Z.2.2 g (gg (Z.1 ++ [q]) g)
    rw [gg_app (by omega)]
    exact hw.2.2.2 g (by omega)
theorem wf_ts (hw : wf Z) (ht : sp_tok (Z.2.2 ++ [te])) : wf (Z.1, Z.2.1, Z.2.2 ++ [te]) := by
  refine ⟨hw.1, ht, hw.2.2.1, fun g hg => ?_⟩
  obtain ⟨w1, w2, w3⟩ := hw.2.2.2 g hg
  exact ⟨w1, fun h => ⟨(w2 h).1, (w2 h).2.1, vok_app (w2 h).2.2.1, (w2 h).2.2.2⟩, w3⟩
end
