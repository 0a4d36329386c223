/-! ===== THE REFERENCE: asked says what the tests say ===== -/
section
variable {f : Nat → Nat × Nat → Nat × (Nat × Nat)} {C : sp_C} {i : Nat}
theorem nxt_s (r e : Nat) (st : Nat × Nat) : sp_nxt f C i (r + 1) e st = if (sp_ar C e).1 = i then (if (f (sp_ar C e).2.1 st).1 = 0 then sp_nxt f C i r (e + 1) (f (sp_ar C e).2.1 st).2 else f (sp_ar C e).2.1 st) else sp_nxt f C i r (e + 1) st := rfl
theorem nxt_none : ∀ r e st, sp_find (fun e => (sp_ar C e).1 == i) r e = none → sp_nxt f C i r e st = (0, st)
  | 0, _, _, _ => rfl
  | r + 1, e, st, h => by
    rw [sp_find_s] at h
    by_cases c : (sp_ar C e).1 = i
    · rw [if_pos (by rw [c]; exact beq_self_eq_true i)] at h; cases h
    · rw [if_neg (by simpa using c)] at h
      rw [nxt_s, if_neg c]
      exact nxt_none r (e + 1) st h
theorem nxt_some {e' : Nat} : ∀ r e st, sp_find (fun e => (sp_ar C e).1 == i) r e = some e' → e ≤ e' ∧ e' < e + r ∧ (sp_ar C e').1 = i ∧ sp_nxt f C i r e st = if (f (sp_ar C e').2.1 st).1 = 0 then sp_nxt f C i (e + r - e' - 1) (e' + 1) (f (sp_ar C e').2.1 st).2 else f (sp_ar C e').2.1 st
  | 0, _, _, h => by cases h
  | r + 1, e, st, h => by
    rw [sp_find_s] at h
    by_cases c : (sp_ar C e).1 = i
    · rw [if_pos (by rw [c]; exact beq_self_eq_true i)] at h
      cases h
      rw [nxt_s, if_pos c]
      refine ⟨Nat.le_refl _, by omega, c, ?_⟩
      rw [show e' + (r + 1) - e' - 1 = r by omega]
    · rw [if_neg (by simpa using c)] at h
      obtain ⟨h1, h2, h3, h4⟩ := nxt_some r (e + 1) st h
      rw [nxt_s, if_neg c, h4]
      refine ⟨by omega, by omega, h3, ?_⟩
      rw [show e + 1 + r - e' - 1 = e + (r + 1) - e' - 1 by omega]
end
section
variable {S0 S S' S'' : pm_T} {m a g n k d j e t u c i p wh sg T : Nat} {C : sp_C} {ts : List sp_Te} {st st' : Nat × Nat} {Q : Option Value → pm_T → Prop} {v : Int64} {x y ar z : Int32} {l2 l3 : Value}
/-- a part is asked -/
theorem m_sub {tI : Int32} (ihK : kK S0 m a d C ts l2 l3 z Q n) (hS : aS S0 S m st) (hT : T < n) (hTl : T < ts.length) (hp : p + 1 + T < 20) (hw : wh = 0 ∨ wh = 1) (hi : i < sp_len C wh) (b1 : st.1 ≤ 2000) (b2 : st.2 ≤ 8) (htI : tI = nI T)
    (hE : ∀ S', aS S0 S' m (sp_say C ts n wh i T st).2 → pk S S' m (p + 1) → ((sp_say C ts n wh i T st).1 ≠ 15 → pm_gi S' m 35 = nI (p + 1)) → (if (sp_say C ts n wh i T st).1 = 15 then Q (some (.int 15)) S' else pm_V (d + 4) 122 16 [.ref m, .int (nI a), l2, l3, .int z, .int (nI (sp_say C ts n wh i T st).1)] [] S' Q)) :
    pm_V (d + 4) 122 43 [.ref m, .int (nI a), l2, l3, .int z, .int x] [.int (-1)] (fM_push S m (p + 1) tI (nI wh) (nI i)) Q := by
  subst htI
  obtain ⟨f1, f2, f3, f4⟩ := fM_push_ok (p := p + 1) (t := T) (wh := wh) (i := i) hS
  rw [m_after_0 f1.1 (by decide)]
  exact ihK wh i T st _ (p + 1) (-1) hT hTl hp hw hi b1 b2 f1 f3 f4 (by decide) fun S' q1 q2 q3 => hE S' q1 (pil_tr f2 q2) q3
theorem te_T (hX : aX S0 m a C ts) (ht : t < ts.length) (h4 : 4 ≤ (sp_te ts t).1) : (sp_te ts t).2.2.1 = nI (sp_tT ts t) ∧ sp_tT ts t < t := by
  obtain ⟨y, hy, e⟩ := (hX.2.2.2.1.2 t ht).2.1 h4
  have := aX_20 hX
  unfold sp_tT
  rw [e, nI_clamp (by omega)]
  exact ⟨rfl, hy⟩
theorem te_U (hX : aX S0 m a C ts) (ht : t < ts.length) (h4 : (sp_te ts t).1 = 5 ∨ (sp_te ts t).1 = 6) : (sp_te ts t).2.2.2 = nI (sp_tU ts t) ∧ sp_tU ts t < t := by
  obtain ⟨y, hy, e⟩ := (hX.2.2.2.1.2 t ht).2.2 h4
  have := aX_20 hX
  unfold sp_tU
  rw [e, nI_clamp (by omega)]
  exact ⟨rfl, hy⟩
set_option maxHeartbeats 400000 in
/-- the arcs from a node, one behind the other -/
theorem m_nxt (hX : aX S0 m a C ts) (ihK : kK S0 m a d C ts l2 l3 z Q n) (ht : t < ts.length) (hs8 : (sp_te ts t).1 = 8) (hTn : sp_tT ts t < n) (hp : p + t < 20) (hi : i < C.2.1.length) : ∀ N r e st S ar, r ≤ N → e + r = C.2.2.1.length → st.1 ≤ 2000 → st.2 ≤ 8 → aS S0 S m st → pm_gi S m 35 = nI (p + 1) → pe S m p t 0 i 1 ar → ar + 1 = nI e → kE S0 S m a p d l2 l3 z Q (sp_nxt (fun j st => sp_say C ts n 0 j (sp_tT ts t) st) C i r e st) → ∀ R : Option Value → pm_T → Prop, (∀ w S', (∀ x, pm_V (d + 4) 122 43 [.ref m, .int (nI a), l2, l3, .int z, .int x] [.int w] S' Q) → R (some (.int w)) S') → pm_N (d + 2) 125 [.ref m, .int (nI a), .int (nI p)] S R := by
  have l2' := hX.2.1.2.2.2.1
  obtain ⟨eT, hTt⟩ := te_T hX ht (by omega)
  intro N
  induction N with
  | zero =>
    intro r e st S ar hr he b1 b2 hS h35 hpe hx hE R hR
    have : r = 0 := by omega
    subst this
    have hf : sp_find (fun e => (sp_ar C e).1 == i) (C.2.2.1.length - e) e = none := by rw [show C.2.2.1.length - e = 0 by omega]; rfl
    rw [m_next_0 hX hS (by omega) hpe hi hx (by omega) hf]
    refine hR 0 _ fun x => ?_
    have fS : frI (mT m) S (pm_szi S (m + 32) p (-1)) := frI.zi (by unfold mT; omega)
    exact kE_end (r := 0) (aS_s hS fS hS.2.2.1 hS.2.2.2) h35 (by decide) (kE_k hE (fun j b q1 q2 q3 => by rw [ps_zi_zi, if_neg (by omega)]))
  | succ N ih =>
    intro r e st S ar hr he b1 b2 hS h35 hpe hx hE R hR
    have er : C.2.2.1.length - e = r := by omega
    cases hf : sp_find (fun e => (sp_ar C e).1 == i) r e with
    | none =>
      rw [nxt_none r e st hf] at hE
      rw [m_next_0 hX hS (by omega) hpe hi hx (by omega) (by rw [er]; exact hf)]
      refine hR 0 _ fun x => ?_
      have fS : frI (mT m) S (pm_szi S (m + 32) p (-1)) := frI.zi (by unfold mT; omega)
      exact kE_end (r := 0) (aS_s hS fS hS.2.2.1 hS.2.2.2) h35 (by decide) (kE_k hE (fun j b q1 q2 q3 => by rw [ps_zi_zi, if_neg (by omega)]))
    | some e' =>
      obtain ⟨h1, h2, h3, h4⟩ := nxt_some (f := fun j st => sp_say C ts n 0 j (sp_tT ts t) st) r e st hf
      rw [h4] at hE
      have hto : (sp_ar C e').2.1 < C.2.1.length := (hX.2.2.1 e' (by omega)).2
      rw [m_next_1 hX hS (by omega) hpe ht h35 hi hx (by omega) (by rw [er]; exact hf) (by omega)]
      refine hR (-1) _ fun x => ?_
      have fS : frI (mT m) S (pm_szi S (m + 32) p (nI e')) := frI.zi (by unfold mT; omega)
      have hS1 : aS S0 (pm_szi S (m + 32) p (nI e')) m st := aS_s hS fS hS.2.2.1 hS.2.2.2
      have k1 : pk S (pm_szi S (m + 32) p (nI e')) m p := fun j b q1 q2 q3 => by rw [ps_zi_zi, if_neg (by omega)]
      have pe1 : pe (pm_szi S (m + 32) p (nI e')) m p t 0 i 1 (nI e') := by
        obtain ⟨q1, q2, q3, q4, q5⟩ := hpe
        refine ⟨?_, ?_, ?_, ?_, ?_⟩
        · rw [ps_zi_zi, if_neg (by omega)]; exact q1
        · rw [ps_zi_zi, if_neg (by omega)]; exact q2
        · rw [ps_zi_zi, if_neg (by omega)]; exact q3
        · rw [ps_zi_zi, if_neg (by omega)]; exact q4
        · rw [ps_zi_zi, if_pos ⟨rfl, rfl⟩]
      rw [show (0 : Int32) = nI 0 from rfl]
      refine m_sub (T := sp_tT ts t) (wh := 0) ihK hS1 hTn (by omega) (by omega) (Or.inl rfl) hto b1 b2 eT fun S' q1 q2 q3 => ?_
      have hb := sp_say_b (C := C) (ts := ts) n 0 (sp_ar C e').2.1 (sp_tT ts t) st b1 b2
      generalize hy : sp_say C ts n 0 (sp_ar C e').2.1 (sp_tT ts t) st = y at *
      by_cases c15 : y.1 = 15
      · rw [if_pos c15]
        rw [if_neg (by omega)] at hE
        have := hE S' q1 (pil_tr k1 (pil_le q2 (by omega))) (fun z => absurd c15 z)
        rw [if_pos c15] at this
        exact this
      · rw [if_neg c15]
        have g35 := q3 c15
        obtain ⟨b3, b4⟩ := hb.2.2.2 c15
        have hr4 : y.1 = 0 ∨ y.1 = 1 ∨ y.1 = 11 ∨ y.1 = 12 := by have := hb.1; omega
        have pe2 : pe S' m p t 0 i 1 (nI e') := pe_k pe1 q2 (by omega)
        have kp : pk S S' m p := pil_tr k1 (pil_le q2 (by omega))
        by_cases c0 : y.1 = 0
        · rw [if_pos c0] at hE
          rw [m_head_go q1.1 g35 (by omega) (by omega), c0, m_go_n hX q1 (by omega) g35 pe2 ht hs8]
          refine ih (e + r - e' - 1) (e' + 1) y.2 S' (nI e') (by omega) (by omega) b3 b4 q1 g35 pe2 (nI_1 _) (kE_k hE kp) _ fun w S2 hw => ?_
          simp only [pm_tl_some, q127_0, q127_1, q127_4, q127_5, q127_6, q127_7, q127_8, q127_11, q127_12, q127_13, q127_15, q127_16, q127_19, q127_21, q127_22, q127_24, q127_25, q127_27, q127_30, q127_32, q127_34, q127_37, q127_38, q127_40, q127_43, q127_44, q127_46, q127_49, q127_50, q127_53, q127_54, q127_55, q127_57, q127_58, q127_61, q127_62, q127_63, q127_64, q127_65, q127_67, q127_68, q127_71, q127_73, q127_75, q127_78, q127_79, q127_82, q127_83, q127_84, q127_85, q127_88, q127_89, q127_91, q127_92, q127_95, q127_96, q127_99, q127_100, q127_103, q127_104, q127_107, q127_108, q127_109, q127_110, q127_111, q127_112, q127_115, q127_117, q127_118, q127_119, q127_122, q127_123, q127_124, q127_125, q127_128, q127_129, q127_130, q127_133, q127_134, q127_135, q127_137, q127_139, q127_142, q127_143, q127_146, q127_147, q127_148, q127_151, q127_152, q127_155, q127_156, q127_157, q127_158, q127_161, q127_164, q127_165, q127_e]
          exact hw _
        · rw [if_neg c0] at hE
          rw [m_head_go q1.1 g35 (by omega) (by omega), m_go_r (r' := y.1) hX q1 (by omega) g35 pe2 ht (by omega) hr4 (Or.inl rfl) (Or.inl rfl) ?_]
          · simp only [pm_tl_some]
            exact kE_end q1 g35 (by omega) (kE_k hE kp)
          · split
            · rw [if_neg (by omega)]
            · rw [if_neg (by omega)]
              exact ⟨rfl, by omega, by omega, by omega⟩
end
