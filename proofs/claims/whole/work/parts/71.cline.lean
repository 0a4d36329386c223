/-! ===== loops ===== -/
theorem sp_for_r {α : Type} (f : α → Nat → α) : ∀ (m k : Nat) (x : α), sp_for f (m + 1) k x = f (sp_for f m k x) (k + m)
  | 0, k, x => rfl
  | m + 1, k, x => by
    rw [sp_for_s, sp_for_r f m (k + 1) (f x k), sp_for_s]
    congr 1
    omega
theorem sp_for_n {α : Type} (f : α → Nat → α) (m : Nat) (x : α) : sp_for f (m + 1) 0 x = f (sp_for f m 0 x) m := by rw [sp_for_r, Nat.zero_add]
theorem sp_for_stay {α : Type} {f : α → Nat → α} {p : α → Prop} (hf : ∀ x k, p x → f x k = x) {x : α} {k : Nat} (hp : p (sp_for f k 0 x)) : ∀ n, k ≤ n → sp_for f n 0 x = sp_for f k 0 x := by
  intro n
  induction n with
  | zero => intro h; have : k = 0 := by omega
            rw [this]
  | succ n ih =>
    intro h
    by_cases e : k = n + 1
    · rw [e]
    · have := ih (by omega)
      rw [sp_for_n, this, hf _ _ hp]
theorem sp_for_inv {α : Type} {f : α → Nat → α} {p : α → Prop} (hf : ∀ x k, p x → p (f x k)) {x : α} (hx : p x) : ∀ n, p (sp_for f n 0 x) := by
  intro n
  induction n with
  | zero => exact hx
  | succ n ih => rw [sp_for_n]; exact hf _ _ ih
theorem sp_loop {P : Nat → Prop} {n : Nat} {Inv : Nat → pm_T → Prop} {head : Nat → pm_T → Prop} {fin : pm_T → Prop}
    (step : ∀ k S, k < n → Inv k S → (∀ S', Inv n S' → sp_fr P S S' → fin S') → (∀ S', Inv (k + 1) S' → sp_fr P S S' → head (k + 1) S') → head k S)
    (stop : ∀ S, Inv n S → fin S → head n S) (S : pm_T) (h0 : Inv 0 S) (hF : ∀ S', Inv n S' → sp_fr P S S' → fin S') : head 0 S := by
  have key : ∀ m k S, k + m = n → Inv k S → (∀ S', Inv n S' → sp_fr P S S' → fin S') → head k S := by
    intro m
    induction m with
    | zero => intro k S hk hI hF; have : k = n := by omega
              subst this; exact stop S hI (hF S hI sp_fr.rf)
    | succ m ih => intro k S hk hI hF; exact step k S (by omega) hI hF (fun S' q1 q2 => ih (k + 1) S' (by omega) q1 (fun S'' q3 q4 => hF S'' q3 (q2.tr q4)))
  exact key n 0 S (by omega) h0 hF
section
variable {S : pm_T} {g k : Nat}
theorem gr9 (h : sG S g) (hk : k < 120) : pm_ar S (g + 9) 0 (nI k) = true := pm_ar_nI h.2.2.2.2.2.2.1 hk (by decide)
theorem gr10 (h : sG S g) (hk : k < 120) : pm_ar S (g + 10) 0 (nI k) = true := pm_ar_nI h.2.2.2.2.2.2.2.1 hk (by decide)
theorem gr6 (h : sG S g) (hk : k < 120) : pm_ar S (g + 6) 1 (nI k) = true := pm_ar_nI h.2.2.2.2.2.2.2.2.2.1.2.2.2.2.1 hk (by decide)
theorem gr7 (h : sG S g) (hk : k < 120) : pm_ar S (g + 7) 0 (nI k) = true := pm_ar_nI h.2.2.2.2.2.2.2.2.2.1.2.2.2.2.2.1 hk (by decide)
theorem gr8 (h : sG S g) (hk : k < 120) : pm_ar S (g + 8) 0 (nI k) = true := pm_ar_nI h.2.2.2.2.2.2.2.2.2.1.2.2.2.2.2.2 hk (by decide)
theorem gr2 (h : sG S g) (hk : k < 40) : pm_ar S (g + 2) 1 (nI k) = true := pm_ar_nI h.2.2.2.2.2.2.2.2.1.2.2.2.2.1 hk (by decide)
theorem gr3 (h : sG S g) (hk : k < 40) : pm_ar S (g + 3) 0 (nI k) = true := pm_ar_nI h.2.2.2.2.2.2.2.2.1.2.2.2.2.2.1 hk (by decide)
theorem gr4 (h : sG S g) (hk : k < 40) : pm_ar S (g + 4) 0 (nI k) = true := pm_ar_nI h.2.2.2.2.2.2.2.2.1.2.2.2.2.2.2 hk (by decide)
theorem nc12 (hk : k < 120) : (nI k).toNatClampNeg = k := nI_clamp (by omega)
theorem nc4 (hk : k < 40) : (nI k).toNatClampNeg = k := nI_clamp (by omega)
end
/-- arcs run between nodes -/
def sp_ok (C : sp_C) : Prop := ∀ e, e < C.2.2.1.length → (sp_ar C e).1 < C.2.1.length ∧ (sp_ar C e).2.1 < C.2.1.length
theorem sp_addA_ne {C : sp_C} {q : sp_A} (h : C.1 ≠ 0) : sp_addA C q = C := by
  unfold sp_addA sp_brk
  rw [if_neg h, if_neg h]
  split <;> rfl
theorem sp_addN_ne {C : sp_C} {q : sp_N} (h : C.1 ≠ 0) : sp_addN C q = C := by
  unfold sp_addN sp_brk
  rw [if_neg h, if_neg h]
  split <;> rfl
/-! ===== the class: LINES ===== -/
def sp_line1 (a C : sp_C) (k : Nat) : sp_C := sp_for (fun C e => sp_addN C ((sp_ar a e).2.2.1, some e, none)) k 0 C
def sp_line2 (a : sp_C) (e : Nat) (C : sp_C) (k : Nat) : sp_C := sp_for (fun C f => if (sp_ar a f).1 = (sp_ar a e).2.1 then sp_addA C (e, f, (sp_nd a (sp_ar a e).2.1).1, some (sp_ar a e).2.1, none) else C) k 0 C
def sp_line3 (a C : sp_C) (k : Nat) : sp_C := sp_for (fun C e => sp_line2 a e C a.2.2.1.length) k 0 C
def sp_lines (a C : sp_C) : sp_C := sp_line3 a (sp_line1 a C a.2.2.1.length) a.2.2.1.length
theorem sp_line2_ne {a C : sp_C} {e k : Nat} (h : C.1 ≠ 0) : sp_line2 a e C k = C :=
  sp_for_stay (p := fun C => C.1 ≠ 0) (k := 0) (fun x j hx => by
    split
    · exact sp_addA_ne hx
    · rfl) h k (by omega)
section
variable {d w a n k : Nat} {S : pm_T} {Q : Option Value → pm_T → Prop} {C Ca : sp_C}
set_option maxHeartbeats 1000000 in
theorem c_line_1 {l3 l4 : Value} (hW : cW S w a Ca C) (hQ : ∀ S', cW S' w a Ca (sp_line1 Ca C Ca.2.2.1.length) → sp_fr (cB w) S S' → pm_V (d + 3) 40 34 [.ref w, .ref a, .int (nI Ca.2.2.1.length), l3, l4] [] S' Q) :
    pm_V (d + 3) 40 2 [.ref w, .ref a, .int (nI 0), l3, l4] [] S Q := by
  refine sp_loop (n := Ca.2.2.1.length) (P := cB w) (Inv := fun k S => cW S w a Ca (sp_line1 Ca C k)) (head := fun k S => pm_V (d + 3) 40 2 [.ref w, .ref a, .int (nI k), l3, l4] [] S Q) (fin := fun S => pm_V (d + 3) 40 34 [.ref w, .ref a, .int (nI Ca.2.2.1.length), l3, l4] [] S Q) ?_ ?_ S hW hQ
  · intro k S hk hW _ hN
    obtain ⟨h1, h2, h3, h4, h5, h6, h7⟩ := id hW
    have hm := (cC_m h3 h4).2
    have e1 : nI k < nI Ca.2.2.1.length := nI_lt (by omega) (by omega)
    obtain ⟨kv, hkv, hks⟩ := h5.2.2.2.1
    have hk2 : k < 120 := by omega
    obtain ⟨g1, g2⟩ := cW_node (v := (sp_ar Ca k).2.2.1) (x := some k) (y := none) hW hks hkv
    rw [q40_2]
    simp only [q40_0, q40_1, q40_3, q40_3N, q40_4, q40_7, q40_10, q40_13, q40_14, q40_14N, q40_15, q40_18, q40_21, q40_22, q40_23, q40_24, q40_25, q40_28, q40_31, q40_35, q40_37, q40_37N, q40_38, q40_41, q40_44, q40_47, q40_48, q40_51, q40_54, q40_54N, q40_55, q40_58, q40_59, q40_60, q40_61, q40_62, q40_66, q40_66N, q40_67, q40_70, q40_73, q40_76, q40_76N, q40_77, q40_80, q40_82, q40_83, q40_84, q40_87, q40_88, q40_89, q40_91, q40_91N, q40_92, q40_95, q40_98, q40_99, q40_100, q40_101, q40_102, q40_105, q40_108, q40_111, q40_114, q40_117, q40_e, h2.1, h2.2.1, h2.2.2.1, h2.2.2.2.1, h2.2.2.2.2.1, h2.2.2.2.2.2.1, h2.2.2.2.2.2.2.2.2.1.1, h2.2.2.2.2.2.2.2.2.1.2.1, h2.2.2.2.2.2.2.2.2.1.2.2.1, h2.2.2.2.2.2.2.2.2.1.2.2.2.1, h2.2.2.2.2.2.2.2.2.2.1.1, h2.2.2.2.2.2.2.2.2.2.1.2.1, h2.2.2.2.2.2.2.2.2.2.1.2.2.1, h2.2.2.2.2.2.2.2.2.2.1.2.2.2.1, h2.2.2.2.2.2.2.2.2.2.2.1, h2.2.2.2.2.2.2.2.2.2.2.2.1, h2.2.2.2.2.2.2.2.2.2.2.2.2.1, h2.2.2.2.2.2.2.2.2.2.2.2.2.2.1, pm_rf_some, (cC_m h3 h4).1, e1, if_true, gr9 h2 hk2, gr10 h2 hk2, gr6 h2 hk2, gr7 h2 hk2, gr8 h2 hk2, nc12 hk2, (cC_ae h3 h4 hk).2.2, h1.1, c_addNode h1 hks hkv, pm_tl_none, nI_1]
    exact hN _ (by unfold sp_line1 at g1 ⊢; rw [sp_for_n]; exact g1) g2
  · intro S hW hF
    obtain ⟨h1, h2, h3, h4, h5, h6, h7⟩ := id hW
    have hm := (cC_m h3 h4).2
    have e1 : ¬ nI Ca.2.2.1.length < nI Ca.2.2.1.length := nI_nlt (by omega) (by omega)
    rw [q40_2]
    simp only [q40_0, q40_1, q40_3, q40_3N, q40_4, q40_7, q40_10, q40_13, q40_14, q40_14N, q40_15, q40_18, q40_21, q40_22, q40_23, q40_24, q40_25, q40_28, q40_31, q40_35, q40_37, q40_37N, q40_38, q40_41, q40_44, q40_47, q40_48, q40_51, q40_54, q40_54N, q40_55, q40_58, q40_59, q40_60, q40_61, q40_62, q40_66, q40_66N, q40_67, q40_70, q40_73, q40_76, q40_76N, q40_77, q40_80, q40_82, q40_83, q40_84, q40_87, q40_88, q40_89, q40_91, q40_91N, q40_92, q40_95, q40_98, q40_99, q40_100, q40_101, q40_102, q40_105, q40_108, q40_111, q40_114, q40_117, q40_e, h2.1, h2.2.1, h2.2.2.1, h2.2.2.2.1, h2.2.2.2.2.1, h2.2.2.2.2.2.1, h2.2.2.2.2.2.2.2.2.1.1, h2.2.2.2.2.2.2.2.2.1.2.1, h2.2.2.2.2.2.2.2.2.1.2.2.1, h2.2.2.2.2.2.2.2.2.1.2.2.2.1, h2.2.2.2.2.2.2.2.2.2.1.1, h2.2.2.2.2.2.2.2.2.2.1.2.1, h2.2.2.2.2.2.2.2.2.2.1.2.2.1, h2.2.2.2.2.2.2.2.2.2.1.2.2.2.1, h2.2.2.2.2.2.2.2.2.2.2.1, h2.2.2.2.2.2.2.2.2.2.2.2.1, h2.2.2.2.2.2.2.2.2.2.2.2.2.1, h2.2.2.2.2.2.2.2.2.2.2.2.2.2.1, pm_rf_some, (cC_m h3 h4).1, e1, if_false]
    exact hF
set_option maxHeartbeats 1000000 in
theorem c_line_2 {e : Nat} (he : e < Ca.2.2.1.length) (ho : sp_ok Ca) (hW : cW S w a Ca C) (hQ : ∀ S', cW S' w a Ca (sp_line2 Ca e C Ca.2.2.1.length) → sp_fr (cB w) S S' → pm_V (d + 3) 40 36 [.ref w, .ref a, .int (nI (e + 1)), .int (nI (sp_ar Ca e).2.1), .int (nI Ca.2.2.1.length)] [] S' Q) :
    pm_V (d + 3) 40 64 [.ref w, .ref a, .int (nI e), .int (nI (sp_ar Ca e).2.1), .int (nI 0)] [] S Q := by
  refine sp_loop (n := Ca.2.2.1.length) (P := cB w) (Inv := fun k S => cW S w a Ca (sp_line2 Ca e C k)) (head := fun k S => pm_V (d + 3) 40 64 [.ref w, .ref a, .int (nI e), .int (nI (sp_ar Ca e).2.1), .int (nI k)] [] S Q) (fin := fun S => pm_V (d + 3) 40 36 [.ref w, .ref a, .int (nI (e + 1)), .int (nI (sp_ar Ca e).2.1), .int (nI Ca.2.2.1.length)] [] S Q) ?_ ?_ S hW hQ
  · intro k S hk hW _ hN
    obtain ⟨h1, h2, h3, h4, h5, h6, h7⟩ := id hW
    have hm := (cC_m h3 h4).2
    have hn := (cC_n h3 h4).2
    have e1 : nI k < nI Ca.2.2.1.length := nI_lt (by omega) (by omega)
    obtain ⟨kv, hkv, hks⟩ := h5.2.2.2.2.1
    have hk2 : k < 120 := by omega
    have o1 := ho e he
    have o2 := ho k hk
    have hb : (sp_ar Ca e).2.1 < 40 := by omega
    obtain ⟨g1, g2⟩ := cW_arc (t := e) (h := k) (v := (sp_nd Ca (sp_ar Ca e).2.1).1) (x := some (sp_ar Ca e).2.1) (y := none) hW hks hkv
    rw [q40_64]
    simp only [q40_0, q40_1, q40_3, q40_3N, q40_4, q40_7, q40_10, q40_13, q40_14, q40_14N, q40_15, q40_18, q40_21, q40_22, q40_23, q40_24, q40_25, q40_28, q40_31, q40_35, q40_37, q40_37N, q40_38, q40_41, q40_44, q40_47, q40_48, q40_51, q40_54, q40_54N, q40_55, q40_58, q40_59, q40_60, q40_61, q40_62, q40_66, q40_66N, q40_67, q40_70, q40_73, q40_76, q40_76N, q40_77, q40_80, q40_82, q40_83, q40_84, q40_87, q40_88, q40_89, q40_91, q40_91N, q40_92, q40_95, q40_98, q40_99, q40_100, q40_101, q40_102, q40_105, q40_108, q40_111, q40_114, q40_117, q40_e, h2.1, h2.2.1, h2.2.2.1, h2.2.2.2.1, h2.2.2.2.2.1, h2.2.2.2.2.2.1, h2.2.2.2.2.2.2.2.2.1.1, h2.2.2.2.2.2.2.2.2.1.2.1, h2.2.2.2.2.2.2.2.2.1.2.2.1, h2.2.2.2.2.2.2.2.2.1.2.2.2.1, h2.2.2.2.2.2.2.2.2.2.1.1, h2.2.2.2.2.2.2.2.2.2.1.2.1, h2.2.2.2.2.2.2.2.2.2.1.2.2.1, h2.2.2.2.2.2.2.2.2.2.1.2.2.2.1, h2.2.2.2.2.2.2.2.2.2.2.1, h2.2.2.2.2.2.2.2.2.2.2.2.1, h2.2.2.2.2.2.2.2.2.2.2.2.2.1, h2.2.2.2.2.2.2.2.2.2.2.2.2.2.1, pm_rf_some, (cC_m h3 h4).1, e1, if_true, gr9 h2 hk2, gr10 h2 hk2, gr6 h2 hk2, gr7 h2 hk2, gr8 h2 hk2, nc12 hk2, gr2 h2 hb, gr3 h2 hb, gr4 h2 hb, nc4 hb, (cC_ae h3 h4 hk).1, cC_nv h3 h4 o1.2, h1.1, c_addArc h1 hks hkv, pm_tl_none, nI_1]
    have hs : sp_line2 Ca e C (k + 1) = if (sp_ar Ca k).1 = (sp_ar Ca e).2.1 then sp_addA (sp_line2 Ca e C k) (e, k, (sp_nd Ca (sp_ar Ca e).2.1).1, some (sp_ar Ca e).2.1, none) else sp_line2 Ca e C k := by
      unfold sp_line2; rw [sp_for_n]
    by_cases hc : (sp_ar Ca k).1 = (sp_ar Ca e).2.1
    · rw [if_pos (by rw [hc])]
      exact hN _ (by rw [hs, if_pos hc]; exact g1) g2
    · rw [if_neg (fun q => hc ((nI_eq (by omega) (by omega)).mp q))]
      exact hN _ (by rw [hs, if_neg hc]; exact hW) sp_fr.rf
  · intro S hW hF
    obtain ⟨h1, h2, h3, h4, h5, h6, h7⟩ := id hW
    have hm := (cC_m h3 h4).2
    have e1 : ¬ nI Ca.2.2.1.length < nI Ca.2.2.1.length := nI_nlt (by omega) (by omega)
    rw [q40_64]
    simp only [q40_0, q40_1, q40_3, q40_3N, q40_4, q40_7, q40_10, q40_13, q40_14, q40_14N, q40_15, q40_18, q40_21, q40_22, q40_23, q40_24, q40_25, q40_28, q40_31, q40_35, q40_37, q40_37N, q40_38, q40_41, q40_44, q40_47, q40_48, q40_51, q40_54, q40_54N, q40_55, q40_58, q40_59, q40_60, q40_61, q40_62, q40_66, q40_66N, q40_67, q40_70, q40_73, q40_76, q40_76N, q40_77, q40_80, q40_82, q40_83, q40_84, q40_87, q40_88, q40_89, q40_91, q40_91N, q40_92, q40_95, q40_98, q40_99, q40_100, q40_101, q40_102, q40_105, q40_108, q40_111, q40_114, q40_117, q40_e, h2.1, h2.2.1, h2.2.2.1, h2.2.2.2.1, h2.2.2.2.2.1, h2.2.2.2.2.2.1, h2.2.2.2.2.2.2.2.2.1.1, h2.2.2.2.2.2.2.2.2.1.2.1, h2.2.2.2.2.2.2.2.2.1.2.2.1, h2.2.2.2.2.2.2.2.2.1.2.2.2.1, h2.2.2.2.2.2.2.2.2.2.1.1, h2.2.2.2.2.2.2.2.2.2.1.2.1, h2.2.2.2.2.2.2.2.2.2.1.2.2.1, h2.2.2.2.2.2.2.2.2.2.1.2.2.2.1, h2.2.2.2.2.2.2.2.2.2.2.1, h2.2.2.2.2.2.2.2.2.2.2.2.1, h2.2.2.2.2.2.2.2.2.2.2.2.2.1, h2.2.2.2.2.2.2.2.2.2.2.2.2.2.1, pm_rf_some, (cC_m h3 h4).1, e1, if_false, nI_1]
    exact hF
set_option maxHeartbeats 1000000 in
theorem c_line (ho : sp_ok Ca) (hW : cW S w a Ca C) (hQ : ∀ S', cW S' w a Ca (sp_lines Ca C) → sp_fr (cB w) S S' → Q none S') : pm_N (d + 3) 40 [.ref w, .ref a] S Q := by
  simp only [q40_0, q40_1, q40_3, q40_3N, q40_4, q40_7, q40_10, q40_13, q40_14, q40_14N, q40_15, q40_18, q40_21, q40_22, q40_23, q40_24, q40_25, q40_28, q40_31, q40_35, q40_37, q40_37N, q40_38, q40_41, q40_44, q40_47, q40_48, q40_51, q40_54, q40_54N, q40_55, q40_58, q40_59, q40_60, q40_61, q40_62, q40_66, q40_66N, q40_67, q40_70, q40_73, q40_76, q40_76N, q40_77, q40_80, q40_82, q40_83, q40_84, q40_87, q40_88, q40_89, q40_91, q40_91N, q40_92, q40_95, q40_98, q40_99, q40_100, q40_101, q40_102, q40_105, q40_108, q40_111, q40_114, q40_117, q40_e]
  refine c_line_1 hW fun S' h1 h2 => ?_
  simp only [q40_0, q40_1, q40_3, q40_3N, q40_4, q40_7, q40_10, q40_13, q40_14, q40_14N, q40_15, q40_18, q40_21, q40_22, q40_23, q40_24, q40_25, q40_28, q40_31, q40_34, q40_35, q40_37, q40_37N, q40_38, q40_41, q40_44, q40_47, q40_48, q40_51, q40_54, q40_54N, q40_55, q40_58, q40_59, q40_60, q40_61, q40_62, q40_66, q40_66N, q40_67, q40_70, q40_73, q40_76, q40_76N, q40_77, q40_80, q40_82, q40_83, q40_84, q40_87, q40_88, q40_89, q40_91, q40_91N, q40_92, q40_95, q40_98, q40_99, q40_100, q40_101, q40_102, q40_105, q40_108, q40_111, q40_114, q40_117, q40_e]
  have key : ∀ l3 l4, pm_V (d + 3) 40 36 [.ref w, .ref a, .int (nI 0), l3, l4] [] S' Q := by
    refine sp_loop (n := Ca.2.2.1.length) (P := cB w) (Inv := fun k S => cW S w a Ca (sp_line3 Ca (sp_line1 Ca C Ca.2.2.1.length) k)) (head := fun k S => ∀ l3 l4, pm_V (d + 3) 40 36 [.ref w, .ref a, .int (nI k), l3, l4] [] S Q) (fin := fun S => Q none S) ?_ ?_ S' h1 (fun S'' q1 q2 => hQ S'' q1 (h2.tr q2))
    · intro k S hk hW hX hN l3 l4
      obtain ⟨h1, h2, h3, h4, h5, h6, h7⟩ := id hW
      have hm := (cC_m h3 h4).2
      have e1 : nI k < nI Ca.2.2.1.length := nI_lt (by omega) (by omega)
      have hk2 : k < 120 := by omega
      have hf : pm_gi S w 5 = nI (sp_line3 Ca (sp_line1 Ca C Ca.2.2.1.length) k).1 := h5.1
      rw [q40_36]
      simp only [q40_0, q40_1, q40_3, q40_3N, q40_4, q40_7, q40_10, q40_13, q40_14, q40_14N, q40_15, q40_18, q40_21, q40_22, q40_23, q40_24, q40_25, q40_28, q40_31, q40_35, q40_37, q40_37N, q40_38, q40_41, q40_44, q40_47, q40_48, q40_51, q40_54, q40_54N, q40_55, q40_58, q40_59, q40_60, q40_61, q40_62, q40_66, q40_66N, q40_67, q40_70, q40_73, q40_76, q40_76N, q40_77, q40_80, q40_82, q40_83, q40_84, q40_87, q40_88, q40_89, q40_91, q40_91N, q40_92, q40_95, q40_98, q40_99, q40_100, q40_101, q40_102, q40_105, q40_108, q40_111, q40_114, q40_117, q40_e, h2.1, h2.2.1, h2.2.2.1, h2.2.2.2.1, h2.2.2.2.2.1, h2.2.2.2.2.2.1, h2.2.2.2.2.2.2.2.2.1.1, h2.2.2.2.2.2.2.2.2.1.2.1, h2.2.2.2.2.2.2.2.2.1.2.2.1, h2.2.2.2.2.2.2.2.2.1.2.2.2.1, h2.2.2.2.2.2.2.2.2.2.1.1, h2.2.2.2.2.2.2.2.2.2.1.2.1, h2.2.2.2.2.2.2.2.2.2.1.2.2.1, h2.2.2.2.2.2.2.2.2.2.1.2.2.2.1, h2.2.2.2.2.2.2.2.2.2.2.1, h2.2.2.2.2.2.2.2.2.2.2.2.1, h2.2.2.2.2.2.2.2.2.2.2.2.2.1, h2.2.2.2.2.2.2.2.2.2.2.2.2.2.1, pm_rf_some, h1.1, (cC_m h3 h4).1, e1, if_true, gr9 h2 hk2, gr10 h2 hk2, gr6 h2 hk2, gr7 h2 hk2, gr8 h2 hk2, nc12 hk2, (cC_ae h3 h4 hk).2.1, hf]
      by_cases hz : (sp_line3 Ca (sp_line1 Ca C Ca.2.2.1.length) k).1 = 0
      · rw [if_pos (by rw [hz]; rfl)]
        refine c_line_2 hk ho hW fun S'' q1 q2 => hN S'' ?_ q2 _ _
        show cW S'' w a Ca (sp_line3 _ _ (k + 1))
        unfold sp_line3
        rw [sp_for_n]
        exact q1
      · have : ¬ nI (sp_line3 Ca (sp_line1 Ca C Ca.2.2.1.length) k).1 = 0 := fun q => hz ((nI_eq (b := 0) (by have := h5.2.1; omega) (by decide)).mp q)
        rw [if_neg this]
        refine hX S ?_ sp_fr.rf
        have := sp_for_stay (f := fun C e => sp_line2 Ca e C Ca.2.2.1.length) (p := fun C => C.1 ≠ 0) (fun x k hx => sp_line2_ne hx) hz Ca.2.2.1.length (by omega)
        show cW S w a Ca (sp_for _ _ _ _)
        rw [this]
        exact hW
    · intro S hW hF l3 l4
      obtain ⟨h1, h2, h3, h4, h5, h6, h7⟩ := id hW
      have hm := (cC_m h3 h4).2
      have e1 : ¬ nI Ca.2.2.1.length < nI Ca.2.2.1.length := nI_nlt (by omega) (by omega)
      rw [q40_36]
      simp only [q40_0, q40_1, q40_3, q40_3N, q40_4, q40_7, q40_10, q40_13, q40_14, q40_14N, q40_15, q40_18, q40_21, q40_22, q40_23, q40_24, q40_25, q40_28, q40_31, q40_35, q40_37, q40_37N, q40_38, q40_41, q40_44, q40_47, q40_48, q40_51, q40_54, q40_54N, q40_55, q40_58, q40_59, q40_60, q40_61, q40_62, q40_66, q40_66N, q40_67, q40_70, q40_73, q40_76, q40_76N, q40_77, q40_80, q40_82, q40_83, q40_84, q40_87, q40_88, q40_89, q40_91, q40_91N, q40_92, q40_95, q40_98, q40_99, q40_100, q40_101, q40_102, q40_105, q40_108, q40_111, q40_114, q40_117, q40_e, h2.1, h2.2.1, h2.2.2.1, h2.2.2.2.1, h2.2.2.2.2.1, h2.2.2.2.2.2.1, h2.2.2.2.2.2.2.2.2.1.1, h2.2.2.2.2.2.2.2.2.1.2.1, h2.2.2.2.2.2.2.2.2.1.2.2.1, h2.2.2.2.2.2.2.2.2.1.2.2.2.1, h2.2.2.2.2.2.2.2.2.2.1.1, h2.2.2.2.2.2.2.2.2.2.1.2.1, h2.2.2.2.2.2.2.2.2.2.1.2.2.1, h2.2.2.2.2.2.2.2.2.2.1.2.2.2.1, h2.2.2.2.2.2.2.2.2.2.2.1, h2.2.2.2.2.2.2.2.2.2.2.2.1, h2.2.2.2.2.2.2.2.2.2.2.2.2.1, h2.2.2.2.2.2.2.2.2.2.2.2.2.2.1, pm_rf_some, (cC_m h3 h4).1, e1, if_false]
      exact hF
  exact key _ _
end
