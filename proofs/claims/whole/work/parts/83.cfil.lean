/-! ===== FILTER: the class ===== -/
def fS (S : pm_T) (r w a : Nat) (Ca : sp_C) (ts : List sp_Te) (tb tc : Option Nat) (md : Nat) (st : Nat × Nat) : Prop := sR S r ∧ sG S w ∧ gT S (r + 1) a Ca ts st ∧ pm_gi S w 9 = sp_eC tb ∧ pm_gi S w 10 = sp_eC tc ∧ pm_gi S w 11 = nI md
def fP (r w : Nat) : Nat → Prop := fun b => (w ≤ b ∧ b < w + 15) ∨ b = r + 1 ∨ b = r + 14
def fP1 (r w : Nat) : Nat → Prop := fun b => (w < b ∧ b < w + 15) ∨ b = r + 14
theorem cT_fr {P : Nat → Prop} {S S' : pm_T} {a : Nat} {ts : List sp_Te} (h : cT S a ts) (hf : sp_fr P S S') (hP : ∀ b, a ≤ b → b < a + 5 → ¬ P b) : cT S' a ts := by
  obtain ⟨h1, h2, h3⟩ := h
  have e : ∀ j, j < 5 → (∀ k, pm_gi S' (a + j) k = pm_gi S (a + j) k) ∧ (∀ k, pm_gl S' (a + j) k = pm_gl S (a + j) k) ∧ (∀ k, pm_zi S' (a + j) k = pm_zi S (a + j) k) ∧ ∀ k, pm_zl S' (a + j) k = pm_zl S (a + j) k := fun j hj => hf.2.2.2.2.2 (a + j) (hP (a + j) (by omega) (by omega))
  refine ⟨?_, ?_, fun k hk => ?_⟩
  · unfold sT at h1 ⊢
    simp only [hf.2.2.1, hf.2.2.2.1]
    exact h1
  · rw [show pm_gi S' a 4 = pm_gi S a 4 from (e 0 (by decide)).1 4]; exact h2
  · rw [(e 1 (by decide)).2.2.1, (e 2 (by decide)).2.2.2, (e 3 (by decide)).2.2.1, (e 4 (by decide)).2.2.1]; exact h3 k hk
section
variable {d r w a n k : Nat} {S : pm_T} {Q : Option Value → pm_T → Prop} {Ca : sp_C} {ts : List sp_Te} {tb tc : Option Nat} {md : Nat} {st : Nat × Nat} {ns : List sp_N} {as : List sp_A} {hs : List (Nat × Nat × Nat)}
theorem gT_fr {P : Nat → Prop} {S' : pm_T} {g : Nat} {C : sp_C} {a : Nat} (h : gT S a g C ts st) (hf : sp_fr P S S') (hP : ∀ b, a ≤ b → b < a + 5 → ¬ P b) (hG : ∀ b, cB g b → ¬ P b) : gT S' a g C ts st := by
  obtain ⟨h1, h2, h3, h4, h5, h6, h7⟩ := h
  have e := (hf.2.2.2.2.2 a (hP a (by omega) (by omega))).1
  exact ⟨cT_fr h1 hf hP, sG_fr h2 hf, cC_fr h3 hf hG, h4, by rw [e]; exact h5, by rw [e]; exact h6, h7⟩
theorem fS_fr {P : Nat → Prop} {S' : pm_T} (h : fS S r w a Ca ts tb tc md st) (hf : sp_fr P S S') (hd : gD r w a) (hP : ∀ b, P b → fP1 r w b) : fS S' r w a Ca ts tb tc md st := by
  obtain ⟨h1, h2, h3, h4, h5, h6⟩ := h
  obtain ⟨d1, d2, d3⟩ := hd
  have ew := (hf.2.2.2.2.2 w (fun q => by have := hP w q; unfold fP1 at this; omega)).1
  exact ⟨sR_fr h1 hf, sG_fr h2 hf, gT_fr h3 hf (fun b b1 b2 q => by have := hP b q; unfold fP1 at this; omega) (fun b hb q => by have := hP b q; unfold fP1 at this; unfold cB at hb; omega), by rw [ew]; exact h4, by rw [ew]; exact h5, by rw [ew]; exact h6⟩
theorem fS_5 {x : Int32} (h : fS S r w a Ca ts tb tc md st) (hd : gD r w a) : fS (pm_sgi S w 5 x) r w a Ca ts tb tc md st := by
  obtain ⟨h1, h2, h3, h4, h5, h6⟩ := h
  obtain ⟨d1, d2, d3⟩ := hd
  have f : sp_fr (fun b => b = w) S (pm_sgi S w 5 x) := sp_fr.gi rfl (fun _ => rfl)
  refine ⟨sR_fr h1 f, sG_fr h2 f, gT_fr h3 f (fun b b1 b2 q => by omega) (fun b hb q => by unfold cB at hb; omega), ?_, ?_, ?_⟩
  · rw [ps_gi_gi, if_neg (by omega)]; exact h4
  · rw [ps_gi_gi, if_neg (by omega)]; exact h5
  · rw [ps_gi_gi, if_neg (by omega)]; exact h6
theorem fS_st {S' : pm_T} {st' : Nat × Nat} (h : fS S r w a Ca ts tb tc md st) (hd : gD r w a) (hf : sp_fr (fun b => b = r + 1) S S') (hT : gT S' (r + 1) a Ca ts st') : fS S' r w a Ca ts tb tc md st' := by
  obtain ⟨h1, h2, h3, h4, h5, h6⟩ := h
  obtain ⟨d1, d2, d3⟩ := hd
  have ew := (hf.2.2.2.2.2 w (by omega)).1
  exact ⟨sR_fr h1 hf, sG_fr h2 hf, hT, by rw [ew]; exact h4, by rw [ew]; exact h5, by rw [ew]; exact h6⟩
theorem fG_hid_q {f x y z : Nat} (hG : sG S w) (h : cQ S w f ns as hs) (hlt : hs.length < 8) : cQ (pm_sgi (pm_szi (pm_szi (pm_szi S (w + 12) hs.length (nI x)) (w + 13) hs.length (nI y)) (w + 14) hs.length (nI z)) (w + 11) 3 (nI (hs.length + 1))) w f ns as (hs ++ [(x, y, z)]) ∧ sp_fr (cB1 w) S (pm_sgi (pm_szi (pm_szi (pm_szi S (w + 12) hs.length (nI x)) (w + 13) hs.length (nI y)) (w + 14) hs.length (nI z)) (w + 11) 3 (nI (hs.length + 1))) := by
  obtain ⟨h1, n0, a0, ⟨n1, n2, n3⟩⟩ := h
  generalize hk : hs.length = k at *
  refine ⟨⟨by simpa [ps_gi_nx, ps_gi_sz, ps_gi_sh, ps_gi_gi, ps_gi_gl, ps_gi_gr, ps_gi_zi, ps_gi_zl, ps_gi_zr, ps_gi_ar, ps_gi_al, ps_gl_nx, ps_gl_sz, ps_gl_sh, ps_gl_gi, ps_gl_gl, ps_gl_gr, ps_gl_zi, ps_gl_zl, ps_gl_zr, ps_gl_ar, ps_gl_al, ps_gr_nx, ps_gr_sz, ps_gr_sh, ps_gr_gi, ps_gr_gl, ps_gr_gr, ps_gr_zi, ps_gr_zl, ps_gr_zr, ps_gr_ar, ps_gr_al, ps_zi_nx, ps_zi_sz, ps_zi_sh, ps_zi_gi, ps_zi_gl, ps_zi_gr, ps_zi_zi, ps_zi_zl, ps_zi_zr, ps_zi_ar, ps_zi_al, ps_zl_nx, ps_zl_sz, ps_zl_sh, ps_zl_gi, ps_zl_gl, ps_zl_gr, ps_zl_zi, ps_zl_zl, ps_zl_zr, ps_zl_ar, ps_zl_al, ps_zr_nx, ps_zr_sz, ps_zr_sh, ps_zr_gi, ps_zr_gl, ps_zr_gr, ps_zr_zi, ps_zr_zl, ps_zr_zr, ps_zr_ar, ps_zr_al, pm_rf_some, pm_rf_none, pm_tl_some, pm_tl_none] using h1, by simpa [cN, ps_gi_nx, ps_gi_sz, ps_gi_sh, ps_gi_gi, ps_gi_gl, ps_gi_gr, ps_gi_zi, ps_gi_zl, ps_gi_zr, ps_gi_ar, ps_gi_al, ps_gl_nx, ps_gl_sz, ps_gl_sh, ps_gl_gi, ps_gl_gl, ps_gl_gr, ps_gl_zi, ps_gl_zl, ps_gl_zr, ps_gl_ar, ps_gl_al, ps_gr_nx, ps_gr_sz, ps_gr_sh, ps_gr_gi, ps_gr_gl, ps_gr_gr, ps_gr_zi, ps_gr_zl, ps_gr_zr, ps_gr_ar, ps_gr_al, ps_zi_nx, ps_zi_sz, ps_zi_sh, ps_zi_gi, ps_zi_gl, ps_zi_gr, ps_zi_zi, ps_zi_zl, ps_zi_zr, ps_zi_ar, ps_zi_al, ps_zl_nx, ps_zl_sz, ps_zl_sh, ps_zl_gi, ps_zl_gl, ps_zl_gr, ps_zl_zi, ps_zl_zl, ps_zl_zr, ps_zl_ar, ps_zl_al, ps_zr_nx, ps_zr_sz, ps_zr_sh, ps_zr_gi, ps_zr_gl, ps_zr_gr, ps_zr_zi, ps_zr_zl, ps_zr_zr, ps_zr_ar, ps_zr_al, pm_rf_some, pm_rf_none, pm_tl_some, pm_tl_none] using n0, by simpa [cA, ps_gi_nx, ps_gi_sz, ps_gi_sh, ps_gi_gi, ps_gi_gl, ps_gi_gr, ps_gi_zi, ps_gi_zl, ps_gi_zr, ps_gi_ar, ps_gi_al, ps_gl_nx, ps_gl_sz, ps_gl_sh, ps_gl_gi, ps_gl_gl, ps_gl_gr, ps_gl_zi, ps_gl_zl, ps_gl_zr, ps_gl_ar, ps_gl_al, ps_gr_nx, ps_gr_sz, ps_gr_sh, ps_gr_gi, ps_gr_gl, ps_gr_gr, ps_gr_zi, ps_gr_zl, ps_gr_zr, ps_gr_ar, ps_gr_al, ps_zi_nx, ps_zi_sz, ps_zi_sh, ps_zi_gi, ps_zi_gl, ps_zi_gr, ps_zi_zi, ps_zi_zl, ps_zi_zr, ps_zi_ar, ps_zi_al, ps_zl_nx, ps_zl_sz, ps_zl_sh, ps_zl_gi, ps_zl_gl, ps_zl_gr, ps_zl_zi, ps_zl_zl, ps_zl_zr, ps_zl_ar, ps_zl_al, ps_zr_nx, ps_zr_sz, ps_zr_sh, ps_zr_gi, ps_zr_gl, ps_zr_gr, ps_zr_zi, ps_zr_zl, ps_zr_zr, ps_zr_ar, ps_zr_al, pm_rf_some, pm_rf_none, pm_tl_some, pm_tl_none] using a0, ⟨?_, ?_, fun i q hq => ?_⟩⟩, (((sp_fr.zi ⟨by omega, by omega⟩).tr (sp_fr.zi ⟨by omega, by omega⟩)).tr (sp_fr.zi ⟨by omega, by omega⟩)).tr (sp_fr.gi ⟨by omega, by omega⟩ (sh_ne hG.2.2.2.2.2.2.2.2.2.2.1 (by decide)))⟩
  · simp [ps_gi_gi, hk]
  · simp; omega
  · have w1 : pm_zi (pm_sgi (pm_szi (pm_szi (pm_szi S (w + 12) k (nI x)) (w + 13) k (nI y)) (w + 14) k (nI z)) (w + 11) 3 (nI (k + 1))) (w + 12) i = if i = k then nI x else pm_zi S (w + 12) i := by simp [ps_gi_nx, ps_gi_sz, ps_gi_sh, ps_gi_gi, ps_gi_gl, ps_gi_gr, ps_gi_zi, ps_gi_zl, ps_gi_zr, ps_gi_ar, ps_gi_al, ps_gl_nx, ps_gl_sz, ps_gl_sh, ps_gl_gi, ps_gl_gl, ps_gl_gr, ps_gl_zi, ps_gl_zl, ps_gl_zr, ps_gl_ar, ps_gl_al, ps_gr_nx, ps_gr_sz, ps_gr_sh, ps_gr_gi, ps_gr_gl, ps_gr_gr, ps_gr_zi, ps_gr_zl, ps_gr_zr, ps_gr_ar, ps_gr_al, ps_zi_nx, ps_zi_sz, ps_zi_sh, ps_zi_gi, ps_zi_gl, ps_zi_gr, ps_zi_zi, ps_zi_zl, ps_zi_zr, ps_zi_ar, ps_zi_al, ps_zl_nx, ps_zl_sz, ps_zl_sh, ps_zl_gi, ps_zl_gl, ps_zl_gr, ps_zl_zi, ps_zl_zl, ps_zl_zr, ps_zl_ar, ps_zl_al, ps_zr_nx, ps_zr_sz, ps_zr_sh, ps_zr_gi, ps_zr_gl, ps_zr_gr, ps_zr_zi, ps_zr_zl, ps_zr_zr, ps_zr_ar, ps_zr_al, pm_rf_some, pm_rf_none, pm_tl_some, pm_tl_none]
    have w2 : pm_zi (pm_sgi (pm_szi (pm_szi (pm_szi S (w + 12) k (nI x)) (w + 13) k (nI y)) (w + 14) k (nI z)) (w + 11) 3 (nI (k + 1))) (w + 13) i = if i = k then nI y else pm_zi S (w + 13) i := by simp [ps_gi_nx, ps_gi_sz, ps_gi_sh, ps_gi_gi, ps_gi_gl, ps_gi_gr, ps_gi_zi, ps_gi_zl, ps_gi_zr, ps_gi_ar, ps_gi_al, ps_gl_nx, ps_gl_sz, ps_gl_sh, ps_gl_gi, ps_gl_gl, ps_gl_gr, ps_gl_zi, ps_gl_zl, ps_gl_zr, ps_gl_ar, ps_gl_al, ps_gr_nx, ps_gr_sz, ps_gr_sh, ps_gr_gi, ps_gr_gl, ps_gr_gr, ps_gr_zi, ps_gr_zl, ps_gr_zr, ps_gr_ar, ps_gr_al, ps_zi_nx, ps_zi_sz, ps_zi_sh, ps_zi_gi, ps_zi_gl, ps_zi_gr, ps_zi_zi, ps_zi_zl, ps_zi_zr, ps_zi_ar, ps_zi_al, ps_zl_nx, ps_zl_sz, ps_zl_sh, ps_zl_gi, ps_zl_gl, ps_zl_gr, ps_zl_zi, ps_zl_zl, ps_zl_zr, ps_zl_ar, ps_zl_al, ps_zr_nx, ps_zr_sz, ps_zr_sh, ps_zr_gi, ps_zr_gl, ps_zr_gr, ps_zr_zi, ps_zr_zl, ps_zr_zr, ps_zr_ar, ps_zr_al, pm_rf_some, pm_rf_none, pm_tl_some, pm_tl_none]
    have w3 : pm_zi (pm_sgi (pm_szi (pm_szi (pm_szi S (w + 12) k (nI x)) (w + 13) k (nI y)) (w + 14) k (nI z)) (w + 11) 3 (nI (k + 1))) (w + 14) i = if i = k then nI z else pm_zi S (w + 14) i := by simp [ps_gi_nx, ps_gi_sz, ps_gi_sh, ps_gi_gi, ps_gi_gl, ps_gi_gr, ps_gi_zi, ps_gi_zl, ps_gi_zr, ps_gi_ar, ps_gi_al, ps_gl_nx, ps_gl_sz, ps_gl_sh, ps_gl_gi, ps_gl_gl, ps_gl_gr, ps_gl_zi, ps_gl_zl, ps_gl_zr, ps_gl_ar, ps_gl_al, ps_gr_nx, ps_gr_sz, ps_gr_sh, ps_gr_gi, ps_gr_gl, ps_gr_gr, ps_gr_zi, ps_gr_zl, ps_gr_zr, ps_gr_ar, ps_gr_al, ps_zi_nx, ps_zi_sz, ps_zi_sh, ps_zi_gi, ps_zi_gl, ps_zi_gr, ps_zi_zi, ps_zi_zl, ps_zi_zr, ps_zi_ar, ps_zi_al, ps_zl_nx, ps_zl_sz, ps_zl_sh, ps_zl_gi, ps_zl_gl, ps_zl_gr, ps_zl_zi, ps_zl_zl, ps_zl_zr, ps_zl_ar, ps_zl_al, ps_zr_nx, ps_zr_sz, ps_zr_sh, ps_zr_gi, ps_zr_gl, ps_zr_gr, ps_zr_zi, ps_zr_zl, ps_zr_zr, ps_zr_ar, ps_zr_al, pm_rf_some, pm_rf_none, pm_tl_some, pm_tl_none]
    rw [w1, w2, w3]
    rcases sp_snoc hq with ⟨q1, q2⟩ | ⟨q1, q2⟩
    · have : ¬ i = k := by omega
      simp only [if_neg this]
      exact n3 i q q1
    · have : i = k := by omega
      subst q2
      simp only [if_pos this]
      exact ⟨trivial, trivial, trivial⟩
set_option maxHeartbeats 2000000 in
theorem c_fail {wh i b : Nat} (hd : gD r w a) (hS : fS S r w a Ca ts tb tc md st) (hC : cQ S w 0 ns as hs) (hb : b ≤ 5) (hmd : md < 2) (h8 : ¬ (b = 5 ∨ md = 1) → hs.length < 8)
    (hQ : ∀ S', fS S' r w a Ca ts tb tc md st → cQ S' w (fi_bad md (0, ns, as, hs) wh i b).1 (fi_bad md (0, ns, as, hs) wh i b).2.1 (fi_bad md (0, ns, as, hs) wh i b).2.2.1 (fi_bad md (0, ns, as, hs) wh i b).2.2.2 → sp_fr (cB w) S S' → Q none S') :
    pm_N (d + 1) 28 [.ref w, .int (nI wh), .int (nI i), .int (nI b)] S Q := by
  obtain ⟨h1, h2, h3, h4, h5, h6⟩ := id hS
  have c1 : (nI md = 1) = (md = 1) := nI_e' (b := 1) (by omega) (by decide)
  have c5 : (nI b = 5) = (b = 5) := nI_e' (b := 5) (by omega) (by decide)
  simp only [q28_0, q28_1, q28_4, q28_5, q28_8, q28_9, q28_10, q28_13, q28_14, q28_15, q28_18, q28_21, q28_22, q28_25, q28_26, q28_27, q28_28, q28_31, q28_e, h2.1, h2.2.1, h2.2.2.1, h2.2.2.2.1, h2.2.2.2.2.1, h2.2.2.2.2.2.1, h2.2.2.2.2.2.2.2.2.1.1, h2.2.2.2.2.2.2.2.2.1.2.1, h2.2.2.2.2.2.2.2.2.1.2.2.1, h2.2.2.2.2.2.2.2.2.1.2.2.2.1, h2.2.2.2.2.2.2.2.2.2.1.1, h2.2.2.2.2.2.2.2.2.2.1.2.1, h2.2.2.2.2.2.2.2.2.2.1.2.2.1, h2.2.2.2.2.2.2.2.2.2.1.2.2.2.1, h2.2.2.2.2.2.2.2.2.2.2.1, h2.2.2.2.2.2.2.2.2.2.2.2.1, h2.2.2.2.2.2.2.2.2.2.2.2.2.1, h2.2.2.2.2.2.2.2.2.2.2.2.2.2.1, pm_rf_some, h6, c1, c5]
  unfold fi_bad at hQ
  have brk : (b = 5 ∨ md = 1) → Q none (pm_sgi S w 5 (nI b)) := by
    intro hz
    rw [if_pos hz] at hQ
    exact hQ _ (fS_5 hS hd) (cQ_f hC) (sp_fr.gi ⟨by omega, by omega⟩ (fun _ => rfl))
  by_cases z1 : md = 1
  · rw [if_pos z1]
    exact brk (Or.inr z1)
  · rw [if_neg z1]
    by_cases z5 : b = 5
    · rw [if_pos z5]
      exact brk (Or.inl z5)
    · rw [if_neg z5]
      have hz : ¬ (b = 5 ∨ md = 1) := by omega
      rw [if_neg hz] at hQ
      obtain ⟨g1, g2⟩ := fG_hid_q (x := wh) (y := i) (z := b) h2 hC (h8 hz)
      simp only [c_hadd h2.2.2.2.2.2.2.2.2.2.2 hC.2.2.2.1 (h8 hz), pm_tl_none, q28_0, q28_1, q28_4, q28_5, q28_8, q28_9, q28_10, q28_13, q28_14, q28_15, q28_18, q28_21, q28_22, q28_25, q28_26, q28_27, q28_28, q28_31, q28_e]
      exact hQ _ (fS_fr hS g2 hd (fun b hb => Or.inl hb)) g1 (g2.mono (fun b hb => by unfold cB1 at hb; unfold cB; omega))
theorem c_say20 {wh i t : Nat} (ho : sp_ok Ca) (hk : sp_tok ts) (ht : t < ts.length) (hw : wh = 0 ∨ wh = 1) (hi : i < sp_len Ca wh) (h1 : st.1 ≤ 2000) (h2 : st.2 ≤ 8) (hT : gT S (r + 1) a Ca ts st)
    (hQ : ∀ S', gT S' (r + 1) a Ca ts (sp_say Ca ts 20 wh i t st).2 → sp_fr (fun b => b = r + 1) S S' → Q (some (.int (sp_cd (sp_say Ca ts 20 wh i t st).1))) S') :
    pm_N (d + 64) 49 [.ref (r + 1), .ref a, .int (nI wh), .int (nI i), .int (nI t), .int 0] S Q := by
  have hl := hk.1
  have := c_say (a := r + 1) (g := a) ho hk 20 d wh i t 0 st S Q (by omega) ht hw hi (by omega) h1 h2 hT hQ
  rw [show 3 * 20 + 4 + d = d + 64 by omega] at this
  exact this
/-- tests are there -/
def sp_tq (ts : List sp_Te) (t : Option Nat) : Prop := ∀ x, t = some x → x < ts.length
def fI (S : pm_T) (r w a : Nat) (Ca : sp_C) (ts : List sp_Te) (tb tc : Option Nat) (md : Nat) (X : sp_F) (k : Nat) : Prop := fS S r w a Ca ts tb tc md X.2.1 ∧ cQ S w X.1.1 X.1.2.1 X.1.2.2.1 X.1.2.2.2 ∧ (X.1.1 = 0 → ∀ i, i < k → pm_zi S (r + 14) i = sp_eC (X.2.2 i))
theorem sp_cd_neg {r : Nat} (h : r = 0 ∨ r = 1 ∨ r = 11 ∨ r = 12 ∨ r = 15) (h1 : ¬ r = 1) (h0 : ¬ r = 0) : -sp_cd r = nI (r - 10) := by
  rcases h with rfl | rfl | rfl | rfl | rfl
  · omega
  · omega
  all_goals decide
set_option maxHeartbeats 4000000 in
theorem c_filterNodes (hd : gD r w a) (ho : sp_ok Ca) (hk : sp_tok ts) (hb : sp_tq ts tb) (hmd : md < 2) (hS : fS S r w a Ca ts tb tc md (0, 0)) (hC : cQ S w 0 [] [] [])
    (hQ : ∀ S', fI S' r w a Ca ts tb tc md (fi_n Ca ts tb md Ca.2.1.length) Ca.2.1.length → sp_fr (fP r w) S S' → Q none S') : pm_N (d + 65) 26 [.ref r, .ref w, .ref a] S Q := by
  have h4 := hS.2.2.2.1
  simp only [q26_0, q26_0N, q26_1, q26_4, q26_5, q26_6, q26_10, q26_10N, q26_11, q26_14, q26_17, q26_20, q26_20N, q26_21, q26_24, q26_27, q26_28, q26_29, q26_32, q26_33, q26_36, q26_37, q26_40, q26_40N, q26_41, q26_42, q26_44, q26_45, q26_46, q26_49, q26_51, q26_52, q26_55, q26_57, q26_58, q26_59, q26_61, q26_62, q26_65, q26_66, q26_69, q26_71, q26_71N, q26_72, q26_75, q26_78, q26_79, q26_79N, q26_80, q26_80N, q26_81, q26_84, q26_87, q26_89, q26_90, q26_92, q26_93, q26_96, q26_99, q26_101, q26_104, q26_104N, q26_105, q26_106, q26_108, q26_110, q26_111, q26_114, q26_117, q26_120, q26_e, hS.2.1.1, h4]
  have key : ∀ l5, pm_V (d + 65) 26 8 [.ref r, .ref w, .ref a, .int (sp_eC tb), .int (nI 0), l5] [] S Q := by
    refine sp_loop (n := Ca.2.1.length) (P := fP r w) (Inv := fun k S => fI S r w a Ca ts tb tc md (fi_n Ca ts tb md k) k) (head := fun k S => ∀ l5, pm_V (d + 65) 26 8 [.ref r, .ref w, .ref a, .int (sp_eC tb), .int (nI k), l5] [] S Q) (fin := fun S => Q none S) ?_ ?_ S ⟨hS, hC, fun _ i hi => absurd hi (by omega)⟩ hQ
    · intro k S hk1 ⟨hS, hC, hp⟩ hX hN l5
      obtain ⟨h1, h2, h3, h4, h5, h6⟩ := id hS
      obtain ⟨d1, d2, d3⟩ := id hd
      obtain ⟨t1, t2, t3, t4, t5, t6, t7⟩ := id h3
      have hn := cC_n t3 t4
      have hk4 : k < 40 := by omega
      have e1 : nI k < nI Ca.2.1.length := nI_lt hk1 (by omega)
      have o := fi_n_ok (Ca := Ca) (ts := ts) (tb := tb) (md := md) k
      rw [q26_8]
      simp only [q26_0, q26_0N, q26_1, q26_4, q26_5, q26_6, q26_10, q26_10N, q26_11, q26_14, q26_17, q26_20, q26_20N, q26_21, q26_24, q26_28, q26_29, q26_32, q26_33, q26_36, q26_37, q26_40, q26_40N, q26_41, q26_42, q26_44, q26_45, q26_46, q26_49, q26_51, q26_52, q26_55, q26_57, q26_58, q26_59, q26_61, q26_62, q26_65, q26_66, q26_69, q26_71, q26_71N, q26_72, q26_75, q26_78, q26_79, q26_79N, q26_80, q26_80N, q26_81, q26_84, q26_87, q26_89, q26_90, q26_92, q26_93, q26_96, q26_99, q26_101, q26_104, q26_104N, q26_105, q26_106, q26_108, q26_110, q26_111, q26_114, q26_117, q26_120, q26_e, t2.1, t2.2.1, t2.2.2.1, t2.2.2.2.1, t2.2.2.2.2.1, t2.2.2.2.2.2.1, t2.2.2.2.2.2.2.2.2.1.1, t2.2.2.2.2.2.2.2.2.1.2.1, t2.2.2.2.2.2.2.2.2.1.2.2.1, t2.2.2.2.2.2.2.2.2.1.2.2.2.1, t2.2.2.2.2.2.2.2.2.2.1.1, t2.2.2.2.2.2.2.2.2.2.1.2.1, t2.2.2.2.2.2.2.2.2.2.1.2.2.1, t2.2.2.2.2.2.2.2.2.2.1.2.2.2.1, t2.2.2.2.2.2.2.2.2.2.2.1, t2.2.2.2.2.2.2.2.2.2.2.2.1, t2.2.2.2.2.2.2.2.2.2.2.2.2.1, t2.2.2.2.2.2.2.2.2.2.2.2.2.2.1, pm_rf_some, h2.1, hn.1, e1, if_true, hC.1]
      by_cases h0 : (fi_n Ca ts tb md k).1.1 = 0
      · have hp := hp h0
        obtain ⟨p1, p2, p3⟩ := o.2.2.2.2.1 h0
        rw [if_pos (show nI (fi_n Ca ts tb md k).1.1 = 0 by rw [h0]; rfl)]
        have hfs : fi_n Ca ts tb md (k + 1) = fi_N Ca ts tb md (fi_n Ca ts tb md k) k := fi_n_s
        obtain ⟨hab, hac⟩ := fi_ask_b (Ca := Ca) (ts := ts) (t := tb) (wh := 0) (i := k) p1 p2
        have on := fi_N_ok (Ca := Ca) (ts := ts) (tb := tb) (md := md) (i := k) o
        generalize hXX : fi_n Ca ts tb md k = X at *
        generalize hyy : fi_ask Ca ts tb 0 k X.2.1 = y at *
        have go : ∀ S', fS S' r w a Ca ts tb tc md y.2 → cQ S' w X.1.1 X.1.2.1 X.1.2.2.1 X.1.2.2.2 → (∀ i, i < k → pm_zi S' (r + 14) i = sp_eC (X.2.2 i)) → sp_fr (fP r w) S S' → pm_V (d + 65) 26 51 [.ref r, .ref w, .ref a, .int (sp_eC tb), .int (nI k), .int (sp_cd y.1)] [] S' Q := by
          intro S' hS' hC' hp' f'
          obtain ⟨h1, h2, h3, h4, h5, h6⟩ := id hS'
          obtain ⟨t1, t2, t3, t4, t5, t6, t7⟩ := id h3
          have e2 := pm_ar_nI h1.2.2.2.2.2.2.2.2.2.2.1 hk4 (by decide)
          have f1 : sp_fr (fun b => b = r + 14) S' (pm_szi S' (r + 14) k (-1)) := sp_fr.zi rfl
          have hS1 := fS_fr hS' f1 hd (fun b hb => Or.inr hb)
          have hC1 := cQ_fr hC' f1 (fun b hb q => by unfold cB at hb; omega)
          have hp1 : ∀ i, i < k + 1 → pm_zi (pm_szi S' (r + 14) k (-1)) (r + 14) i = sp_eC (fi_up X.2.2 k none i) := by
            intro i hi
            rw [ps_zi_zi]
            unfold fi_up
            by_cases e : i = k
            · rw [if_pos ⟨rfl, e⟩, if_pos e]; rfl
            · rw [if_neg (fun q => e q.2), if_neg e]; exact hp' i (by omega)
          have f1' : sp_fr (fP r w) S (pm_szi S' (r + 14) k (-1)) := f'.tr (f1.mono (fun b hb => Or.inr (Or.inr hb)))
          simp only [q26_0, q26_0N, q26_1, q26_4, q26_5, q26_6, q26_10, q26_10N, q26_11, q26_14, q26_17, q26_20, q26_20N, q26_21, q26_24, q26_28, q26_29, q26_32, q26_33, q26_36, q26_37, q26_40, q26_40N, q26_41, q26_42, q26_44, q26_45, q26_46, q26_49, q26_51, q26_52, q26_55, q26_57, q26_58, q26_59, q26_61, q26_62, q26_65, q26_66, q26_69, q26_71, q26_71N, q26_72, q26_75, q26_78, q26_79, q26_79N, q26_80, q26_80N, q26_81, q26_84, q26_87, q26_89, q26_90, q26_92, q26_93, q26_96, q26_99, q26_101, q26_104, q26_104N, q26_105, q26_106, q26_108, q26_110, q26_111, q26_114, q26_117, q26_120, q26_e, h1.1, h1.2.2.2.2.1, pm_rf_some, e2, nc4 hk4, sp_cd_1 hab.1, sp_cd_n hab.1]
          unfold fi_N at hfs on
          rw [if_pos h0, hyy] at hfs on
          by_cases y1 : y.1 = 1
          · rw [if_pos y1]
            rw [if_pos y1] at hfs on
            have f2 : sp_fr (fun b => b = r + 14) (pm_szi S' (r + 14) k (-1)) (pm_szi (pm_szi S' (r + 14) k (-1)) (r + 14) k (nI X.1.2.1.length)) := sp_fr.zi rfl
            have hC2 := cQ_fr hC1 f2 (fun b hb q => by unfold cB at hb; omega)
            have hS2 := fS_fr hS1 f2 hd (fun b hb => Or.inr hb)
            have hlen : X.1.2.1.length < 40 := by have := o.2.1; omega
            obtain ⟨g1, g2⟩ := fG_node_q (v := (sp_nd Ca k).1) (x := some k) (y := none) hS2.2.1 hC2 hlen
            simp only [q26_0, q26_0N, q26_1, q26_4, q26_5, q26_6, q26_10, q26_10N, q26_11, q26_14, q26_17, q26_20, q26_20N, q26_21, q26_24, q26_28, q26_29, q26_32, q26_33, q26_36, q26_37, q26_40, q26_40N, q26_41, q26_42, q26_44, q26_45, q26_46, q26_49, q26_51, q26_52, q26_55, q26_57, q26_58, q26_59, q26_61, q26_62, q26_65, q26_66, q26_69, q26_71, q26_71N, q26_72, q26_75, q26_78, q26_79, q26_79N, q26_80, q26_80N, q26_81, q26_84, q26_87, q26_89, q26_90, q26_92, q26_93, q26_96, q26_99, q26_101, q26_104, q26_104N, q26_105, q26_106, q26_108, q26_110, q26_111, q26_114, q26_117, q26_120, q26_e, h1.1, h1.2.2.2.2.1, h2.1, h2.2.1, h2.2.2.1, h2.2.2.2.1, h2.2.2.2.2.1, h2.2.2.2.2.2.1, h2.2.2.2.2.2.2.2.2.1.1, h2.2.2.2.2.2.2.2.2.1.2.1, h2.2.2.2.2.2.2.2.2.1.2.2.1, h2.2.2.2.2.2.2.2.2.1.2.2.2.1, h2.2.2.2.2.2.2.2.2.2.1.1, h2.2.2.2.2.2.2.2.2.2.1.2.1, h2.2.2.2.2.2.2.2.2.2.1.2.2.1, h2.2.2.2.2.2.2.2.2.2.1.2.2.2.1, h2.2.2.2.2.2.2.2.2.2.2.1, h2.2.2.2.2.2.2.2.2.2.2.2.1, h2.2.2.2.2.2.2.2.2.2.2.2.2.1, h2.2.2.2.2.2.2.2.2.2.2.2.2.2.1, pm_rf_some, t2.1, t2.2.1, t2.2.2.1, t2.2.2.2.1, t2.2.2.2.2.1, t2.2.2.2.2.2.1, t2.2.2.2.2.2.2.2.2.1.1, t2.2.2.2.2.2.2.2.2.1.2.1, t2.2.2.2.2.2.2.2.2.1.2.2.1, t2.2.2.2.2.2.2.2.2.1.2.2.2.1, t2.2.2.2.2.2.2.2.2.2.1.1, t2.2.2.2.2.2.2.2.2.2.1.2.1, t2.2.2.2.2.2.2.2.2.2.1.2.2.1, t2.2.2.2.2.2.2.2.2.2.1.2.2.2.1, t2.2.2.2.2.2.2.2.2.2.2.1, t2.2.2.2.2.2.2.2.2.2.2.2.1, t2.2.2.2.2.2.2.2.2.2.2.2.2.1, t2.2.2.2.2.2.2.2.2.2.2.2.2.2.1, pm_rf_some, e2, nc4 hk4, ps_gi_nx, ps_gi_sz, ps_gi_sh, ps_gi_gi, ps_gi_gl, ps_gi_gr, ps_gi_zi, ps_gi_zl, ps_gi_zr, ps_gi_ar, ps_gi_al, ps_gl_nx, ps_gl_sz, ps_gl_sh, ps_gl_gi, ps_gl_gl, ps_gl_gr, ps_gl_zi, ps_gl_zl, ps_gl_zr, ps_gl_ar, ps_gl_al, ps_gr_nx, ps_gr_sz, ps_gr_sh, ps_gr_gi, ps_gr_gl, ps_gr_gr, ps_gr_zi, ps_gr_zl, ps_gr_zr, ps_gr_ar, ps_gr_al, ps_zi_nx, ps_zi_sz, ps_zi_sh, ps_zi_gi, ps_zi_gl, ps_zi_gr, ps_zi_zi, ps_zi_zl, ps_zi_zr, ps_zi_ar, ps_zi_al, ps_zl_nx, ps_zl_sz, ps_zl_sh, ps_zl_gi, ps_zl_gl, ps_zl_gr, ps_zl_zi, ps_zl_zl, ps_zl_zr, ps_zl_ar, ps_zl_al, ps_zr_nx, ps_zr_sz, ps_zr_sh, ps_zr_gi, ps_zr_gl, ps_zr_gr, ps_zr_zi, ps_zr_zl, ps_zr_zr, ps_zr_ar, ps_zr_al, pm_rf_some, pm_rf_none, pm_tl_some, pm_tl_none, hC'.2.1.1, gr2 t2 hk4, gr3 t2 hk4, gr4 t2 hk4, nc4 hk4, cC_nv t3 t4 hk1, c_addNode hS2.2.1 hC2.2.1.1 (show X.1.2.1.length ≤ 40 by omega), pm_tl_none, nI_1]
            refine hN _ ⟨?_, ?_, fun _ i hi => ?_⟩ ?_ _
            · rw [hfs]; exact fS_fr hS2 g2 hd (fun b hb => Or.inl hb)
            · rw [hfs]; exact g1
            · rw [hfs]
              refine ((g2.2.2.2.2.2 (r + 14) (by unfold cB1; omega)).2.2.1 i).trans ?_
              rw [ps_zi_zi, ps_zi_zi]
              show _ = sp_eC (fi_up X.2.2 k _ i)
              unfold fi_up
              by_cases e : i = k
              · rw [if_pos ⟨rfl, e⟩, if_pos e]; rfl
              · rw [if_neg (fun q => e q.2), if_neg (fun q => e q.2), if_neg e]; exact hp' i (by omega)
            · exact (f1'.tr (f2.mono (fun b hb => Or.inr (Or.inr hb)))).tr (g2.mono (fun b hb => by unfold cB1 at hb; unfold fP; omega))
          · rw [if_neg y1]
            rw [if_neg y1] at hfs on
            by_cases y0 : y.1 = 0
            · rw [if_neg (show ¬ ¬ y.1 < 10 by omega)]
              rw [if_pos y0] at hfs
              simp only [q26_0, q26_0N, q26_1, q26_4, q26_5, q26_6, q26_10, q26_10N, q26_11, q26_14, q26_17, q26_20, q26_20N, q26_21, q26_24, q26_28, q26_29, q26_32, q26_33, q26_36, q26_37, q26_40, q26_40N, q26_41, q26_42, q26_44, q26_45, q26_46, q26_49, q26_51, q26_52, q26_55, q26_57, q26_58, q26_59, q26_61, q26_62, q26_65, q26_66, q26_69, q26_71, q26_71N, q26_72, q26_75, q26_78, q26_79, q26_79N, q26_80, q26_80N, q26_81, q26_84, q26_87, q26_89, q26_90, q26_92, q26_93, q26_96, q26_99, q26_101, q26_104, q26_104N, q26_105, q26_106, q26_108, q26_110, q26_111, q26_114, q26_117, q26_120, q26_e, nI_1]
              exact hN _ ⟨by rw [hfs]; exact hS1, by rw [hfs]; exact hC1, fun _ => by rw [hfs]; exact hp1⟩ f1' _
            · have yb := hab.1
              rw [if_pos (show ¬ y.1 < 10 by omega)]
              rw [if_neg y0] at hfs on
              rw [h0] at hC1
              simp only [q26_0, q26_0N, q26_1, q26_4, q26_5, q26_6, q26_10, q26_10N, q26_11, q26_14, q26_17, q26_20, q26_20N, q26_21, q26_24, q26_28, q26_29, q26_32, q26_33, q26_36, q26_37, q26_40, q26_40N, q26_41, q26_42, q26_44, q26_45, q26_46, q26_49, q26_51, q26_52, q26_55, q26_57, q26_58, q26_59, q26_61, q26_62, q26_65, q26_66, q26_69, q26_71, q26_71N, q26_72, q26_75, q26_78, q26_79, q26_79N, q26_80, q26_80N, q26_81, q26_84, q26_87, q26_89, q26_90, q26_92, q26_93, q26_96, q26_99, q26_101, q26_104, q26_104N, q26_105, q26_106, q26_108, q26_110, q26_111, q26_114, q26_117, q26_120, q26_e, sp_cd_neg yb y1 y0]
              rw [show (0 : Int32) = nI 0 from rfl]
              refine c_fail hd hS1 hC1 (by omega) hmd (fun hz => ?_) fun S2 q1 q2 f3 => ?_
              · have := hac.2 (by omega)
                have := (hab.2.2.2 (by omega)).2
                omega
              · simp only [pm_tl_none, q26_0, q26_0N, q26_1, q26_4, q26_5, q26_6, q26_10, q26_10N, q26_11, q26_14, q26_17, q26_20, q26_20N, q26_21, q26_24, q26_28, q26_29, q26_32, q26_33, q26_36, q26_37, q26_40, q26_40N, q26_41, q26_42, q26_44, q26_45, q26_46, q26_49, q26_51, q26_52, q26_55, q26_57, q26_58, q26_59, q26_61, q26_62, q26_65, q26_66, q26_69, q26_71, q26_71N, q26_72, q26_75, q26_78, q26_79, q26_79N, q26_80, q26_80N, q26_81, q26_84, q26_87, q26_89, q26_90, q26_92, q26_93, q26_96, q26_99, q26_101, q26_104, q26_104N, q26_105, q26_106, q26_108, q26_110, q26_111, q26_114, q26_117, q26_120, q26_e, nI_1]
                have hX0 : X.1 = (0, X.1.2.1, X.1.2.2.1, X.1.2.2.2) := by rw [← h0]
                refine hN _ ⟨by rw [hfs]; exact q1, by rw [hfs]; dsimp only; rw [hX0]; exact q2, fun _ => ?_⟩ (f1'.tr (f3.mono (fun b hb => Or.inl hb))) _
                rw [hfs]
                intro i hi
                exact ((f3.2.2.2.2.2 (r + 14) (by unfold cB; omega)).2.2.1 i).trans (hp1 i hi)
        simp only [q26_0, q26_0N, q26_1, q26_4, q26_5, q26_6, q26_10, q26_10N, q26_11, q26_14, q26_17, q26_20, q26_20N, q26_21, q26_24, q26_27, q26_28, q26_29, q26_32, q26_33, q26_36, q26_37, q26_40, q26_40N, q26_41, q26_42, q26_44, q26_45, q26_46, q26_49, q26_52, q26_55, q26_57, q26_58, q26_59, q26_61, q26_62, q26_65, q26_66, q26_69, q26_71, q26_71N, q26_72, q26_75, q26_78, q26_79, q26_79N, q26_80, q26_80N, q26_81, q26_84, q26_87, q26_89, q26_90, q26_92, q26_93, q26_96, q26_99, q26_101, q26_104, q26_104N, q26_105, q26_106, q26_108, q26_110, q26_111, q26_114, q26_117, q26_120, q26_e]
        cases htb : tb with
        | none =>
          have hy : y = (1, X.2.1) := by rw [← hyy, htb]; rfl
          simp only [sp_eC, if_true, q26_0, q26_0N, q26_1, q26_4, q26_5, q26_6, q26_10, q26_10N, q26_11, q26_14, q26_17, q26_20, q26_20N, q26_21, q26_24, q26_27, q26_28, q26_29, q26_32, q26_33, q26_36, q26_37, q26_40, q26_40N, q26_41, q26_42, q26_44, q26_45, q26_46, q26_49, q26_52, q26_55, q26_57, q26_58, q26_59, q26_61, q26_62, q26_65, q26_66, q26_69, q26_71, q26_71N, q26_72, q26_75, q26_78, q26_79, q26_79N, q26_80, q26_80N, q26_81, q26_84, q26_87, q26_89, q26_90, q26_92, q26_93, q26_96, q26_99, q26_101, q26_104, q26_104N, q26_105, q26_106, q26_108, q26_110, q26_111, q26_114, q26_117, q26_120, q26_e]
          have := go S (by rw [hy]; exact hS) hC hp sp_fr.rf
          rw [hy, htb] at this
          exact this
        | some t =>
          have hy : y = sp_say Ca ts 20 0 k t X.2.1 := by rw [← hyy, htb]; rfl
          have htl := hb t htb
          have htl2 := hk.1
          simp only [sp_eC, nI_m1 (show t < 2 ^ 31 by omega), if_false, q26_0, q26_0N, q26_1, q26_4, q26_5, q26_6, q26_10, q26_10N, q26_11, q26_14, q26_17, q26_20, q26_20N, q26_21, q26_24, q26_27, q26_28, q26_29, q26_32, q26_33, q26_36, q26_37, q26_40, q26_40N, q26_41, q26_42, q26_44, q26_45, q26_46, q26_49, q26_52, q26_55, q26_57, q26_58, q26_59, q26_61, q26_62, q26_65, q26_66, q26_69, q26_71, q26_71N, q26_72, q26_75, q26_78, q26_79, q26_79N, q26_80, q26_80N, q26_81, q26_84, q26_87, q26_89, q26_90, q26_92, q26_93, q26_96, q26_99, q26_101, q26_104, q26_104N, q26_105, q26_106, q26_108, q26_110, q26_111, q26_114, q26_117, q26_120, q26_e, h1.1, h1.2.1, pm_rf_some, t1.1.1]
          rw [show (Value.int 0 : Value) = .int (nI 0) from rfl]
          refine c_say20 ho hk htl (Or.inl rfl) hk1 p1 p2 h3 fun S' q1 q2 => ?_
          simp only [pm_tl_some, q26_0, q26_0N, q26_1, q26_4, q26_5, q26_6, q26_10, q26_10N, q26_11, q26_14, q26_17, q26_20, q26_20N, q26_21, q26_24, q26_27, q26_28, q26_29, q26_32, q26_33, q26_36, q26_37, q26_40, q26_40N, q26_41, q26_42, q26_44, q26_45, q26_46, q26_49, q26_52, q26_55, q26_57, q26_58, q26_59, q26_61, q26_62, q26_65, q26_66, q26_69, q26_71, q26_71N, q26_72, q26_75, q26_78, q26_79, q26_79N, q26_80, q26_80N, q26_81, q26_84, q26_87, q26_89, q26_90, q26_92, q26_93, q26_96, q26_99, q26_101, q26_104, q26_104N, q26_105, q26_106, q26_108, q26_110, q26_111, q26_114, q26_117, q26_120, q26_e]
          have := go S' (by rw [hy]; exact fS_st hS hd q2 q1) (cQ_fr hC q2 (fun b hb q => by unfold cB at hb; omega)) (fun i hi => ((q2.2.2.2.2.2 (r + 14) (by omega)).2.2.1 i).trans (hp i hi)) (q2.mono (fun b hb => Or.inr (Or.inl hb)))
          rw [hy, htb] at this
          exact this
      · have : ¬ nI (fi_n Ca ts tb md k).1.1 = 0 := fun q => h0 ((nI_eq (b := 0) (by have := o.1; omega) (by decide)).mp q)
        rw [if_neg this]
        refine hX S ?_ sp_fr.rf
        show fI S r w a Ca ts tb tc md (fi_n Ca ts tb md Ca.2.1.length) Ca.2.1.length
        rw [fi_n_stay h0 (by omega)]
        exact ⟨hS, hC, fun q => absurd q h0⟩
    · intro S ⟨hS, hC, hp⟩ hF l5
      obtain ⟨t1, t2, t3, t4, t5, t6, t7⟩ := id hS.2.2.1
      have hn := cC_n t3 t4
      have e1 : ¬ nI Ca.2.1.length < nI Ca.2.1.length := nI_nlt (by omega) (by omega)
      rw [q26_8]
      simp only [q26_0, q26_0N, q26_1, q26_4, q26_5, q26_6, q26_10, q26_10N, q26_11, q26_14, q26_17, q26_20, q26_20N, q26_21, q26_24, q26_28, q26_29, q26_32, q26_33, q26_36, q26_37, q26_40, q26_40N, q26_41, q26_42, q26_44, q26_45, q26_46, q26_49, q26_51, q26_52, q26_55, q26_57, q26_58, q26_59, q26_61, q26_62, q26_65, q26_66, q26_69, q26_71, q26_71N, q26_72, q26_75, q26_78, q26_79, q26_79N, q26_80, q26_80N, q26_81, q26_84, q26_87, q26_89, q26_90, q26_92, q26_93, q26_96, q26_99, q26_101, q26_104, q26_104N, q26_105, q26_106, q26_108, q26_110, q26_111, q26_114, q26_117, q26_120, q26_e, t2.1, t2.2.1, t2.2.2.1, t2.2.2.2.1, t2.2.2.2.2.1, t2.2.2.2.2.2.1, t2.2.2.2.2.2.2.2.2.1.1, t2.2.2.2.2.2.2.2.2.1.2.1, t2.2.2.2.2.2.2.2.2.1.2.2.1, t2.2.2.2.2.2.2.2.2.1.2.2.2.1, t2.2.2.2.2.2.2.2.2.2.1.1, t2.2.2.2.2.2.2.2.2.2.1.2.1, t2.2.2.2.2.2.2.2.2.2.1.2.2.1, t2.2.2.2.2.2.2.2.2.2.1.2.2.2.1, t2.2.2.2.2.2.2.2.2.2.2.1, t2.2.2.2.2.2.2.2.2.2.2.2.1, t2.2.2.2.2.2.2.2.2.2.2.2.2.1, t2.2.2.2.2.2.2.2.2.2.2.2.2.2.1, pm_rf_some, hn.1, e1, if_false]
      exact hF
  exact key _
end
