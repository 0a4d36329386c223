/-! ===== TESTS: what they say ===== -/
/-- sort, number, first part, second part -/
abbrev sp_Te : Type := Nat × Int64 × Int32 × Int32
def sp_te (ts : List sp_Te) (t : Nat) : sp_Te := ts.getD t (0, 0, 0, 0)
def sp_tT (ts : List sp_Te) (t : Nat) : Nat := (sp_te ts t).2.2.1.toNatClampNeg
def sp_tU (ts : List sp_Te) (t : Nat) : Nat := (sp_te ts t).2.2.2.toNatClampNeg
/-- parts are elder tests -/
def sp_tok (ts : List sp_Te) : Prop := ts.length ≤ 20 ∧ ∀ k, k < ts.length → (sp_te ts k).1 ≤ 8 ∧ (4 ≤ (sp_te ts k).1 → ∃ x, x < k ∧ (sp_te ts k).2.2.1 = nI x) ∧ ((sp_te ts k).1 = 5 ∨ (sp_te ts k).1 = 6 → ∃ x, x < k ∧ (sp_te ts k).2.2.2 = nI x)
def sp_v (C : sp_C) (wh i : Nat) : Int64 := if wh = 0 then (sp_nd C i).1 else (sp_ar C i).2.2.1
def sp_len (C : sp_C) (wh : Nat) : Nat := if wh = 0 then C.2.1.length else C.2.2.1.length
def sp_is (C : sp_C) (wh i e : Nat) : Bool := if wh = 0 then (sp_ar C e).1 == i else (sp_ar C e).1 == (sp_ar C i).1 && (sp_ar C e).2.1 == (sp_ar C i).2.1
def sp_many (C : sp_C) (wh i : Nat) : Nat := sp_cnt (sp_is C wh i) C.2.2.1.length
/-- a failure begins -/
def sp_fl (b : Nat) (st : Nat × Nat) : Nat × (Nat × Nat) := (if st.2 + 1 ≤ 8 then 10 + b else 15, (st.1, st.2 + 1))
/-- sorts 0 to 3 -/
def sp_leaf (sort : Nat) (c v : Int64) (many : Nat) (st : Nat × Nat) : Nat × (Nat × Nat) :=
  if sort = 0 then (if c < v then 1 else 0, st)
  else if sort = 1 then (if v = 0 then sp_fl 1 st else (if c - c / v * v = 0 then 1 else 0, st))
  else if sort = 2 then (if v.toInt32 < 0 ∨ 3 < v.toInt32 then sp_fl 2 st else (if bl c v.toInt32.toNatClampNeg = true then 1 else 0, st))
  else (if (nI many).toInt64 < c then 0 else 1, st)
/-- the arcs from i, one behind the other, until one says otherwise than no -/
def sp_nxt (f : Nat → Nat × Nat → Nat × (Nat × Nat)) (C : sp_C) (i : Nat) : Nat → Nat → Nat × Nat → Nat × (Nat × Nat)
  | 0, _, st => (0, st)
  | m + 1, e, st => if (sp_ar C e).1 = i then (if (f (sp_ar C e).2.1 st).1 = 0 then sp_nxt f C i m (e + 1) (f (sp_ar C e).2.1 st).2 else f (sp_ar C e).2.1 st) else sp_nxt f C i m (e + 1) st
/-- what test t says of item i; steps and failures begun before and after -/
def sp_say (C : sp_C) (ts : List sp_Te) : Nat → Nat → Nat → Nat → Nat × Nat → Nat × (Nat × Nat)
  | 0, _, _, _, st => (15, st)
  | n + 1, wh, i, t, st =>
    if 2000 ≤ st.1 then (15, (st.1 + 1, st.2))
    else if (sp_te ts t).1 < 4 then sp_leaf (sp_te ts t).1 (sp_te ts t).2.1 (sp_v C wh i) (sp_many C wh i) (st.1 + 1, st.2)
    else if (sp_te ts t).1 = 8 then (if wh = 0 then sp_nxt (fun j st => sp_say C ts n 0 j (sp_tT ts t) st) C i C.2.2.1.length 0 (st.1 + 1, st.2) else sp_say C ts n 0 (sp_ar C i).2.1 (sp_tT ts t) (st.1 + 1, st.2))
    else
      let x := sp_say C ts n wh i (sp_tT ts t) (st.1 + 1, st.2)
      if (sp_te ts t).1 = 4 then (if x.1 < 10 then 1 - x.1 else x.1, x.2)
      else if (sp_te ts t).1 = 5 then (if x.1 = 1 then sp_say C ts n wh i (sp_tU ts t) x.2 else x)
      else if (sp_te ts t).1 = 6 then (if x.1 = 0 then sp_say C ts n wh i (sp_tU ts t) x.2 else x)
      else (if x.1 = 11 ∨ x.1 = 12 then 0 else x.1, x.2)
/-- answers, and what was used -/
def sp_b (x : Nat × (Nat × Nat)) : Prop := (x.1 = 0 ∨ x.1 = 1 ∨ x.1 = 11 ∨ x.1 = 12 ∨ x.1 = 15) ∧ x.2.1 ≤ 2001 ∧ x.2.2 ≤ 9 ∧ (x.1 ≠ 15 → x.2.1 ≤ 2000 ∧ x.2.2 ≤ 8)
theorem sp_b_01 {r : Nat} {st : Nat × Nat} (hr : r = 0 ∨ r = 1) (h1 : st.1 ≤ 2000) (h2 : st.2 ≤ 8) : sp_b (r, st) := ⟨by omega, by dsimp only; omega, by dsimp only; omega, fun _ => ⟨h1, h2⟩⟩
theorem sp_fl_b {b : Nat} {st : Nat × Nat} (hb : b = 1 ∨ b = 2) (h1 : st.1 ≤ 2000) (h2 : st.2 ≤ 8) : sp_b (sp_fl b st) := by
  unfold sp_fl sp_b
  dsimp only
  split <;> omega
theorem sp_leaf_b {sort many : Nat} {c v : Int64} {st : Nat × Nat} (h1 : st.1 ≤ 2000) (h2 : st.2 ≤ 8) : sp_b (sp_leaf sort c v many st) := by
  unfold sp_leaf
  repeat' split
  all_goals first
    | exact sp_b_01 (Or.inl rfl) h1 h2
    | exact sp_b_01 (Or.inr rfl) h1 h2
    | exact sp_fl_b (Or.inl rfl) h1 h2
    | exact sp_fl_b (Or.inr rfl) h1 h2
theorem sp_nxt_b {f : Nat → Nat × Nat → Nat × (Nat × Nat)} {C : sp_C} {i : Nat} (hf : ∀ j st, st.1 ≤ 2000 → st.2 ≤ 8 → sp_b (f j st)) : ∀ m e st, st.1 ≤ 2000 → st.2 ≤ 8 → sp_b (sp_nxt f C i m e st)
  | 0, e, st, h1, h2 => sp_b_01 (Or.inl rfl) h1 h2
  | m + 1, e, st, h1, h2 => by
    unfold sp_nxt
    split
    · have hb := hf (sp_ar C e).2.1 st h1 h2
      split
      next h => exact sp_nxt_b hf m (e + 1) _ (hb.2.2.2 (by omega)).1 (hb.2.2.2 (by omega)).2
      next h => exact hb
    · exact sp_nxt_b hf m (e + 1) st h1 h2
theorem sp_say_b {C : sp_C} {ts : List sp_Te} : ∀ n wh i t st, st.1 ≤ 2000 → st.2 ≤ 8 → sp_b (sp_say C ts n wh i t st)
  | 0, wh, i, t, st, h1, h2 => ⟨Or.inr (Or.inr (Or.inr (Or.inr rfl))), by show st.1 ≤ 2001; omega, by show st.2 ≤ 9; omega, fun h => absurd rfl h⟩
  | n + 1, wh, i, t, st, h1, h2 => by
    unfold sp_say
    by_cases hs : 2000 ≤ st.1
    · rw [if_pos hs]
      exact ⟨Or.inr (Or.inr (Or.inr (Or.inr rfl))), by show st.1 + 1 ≤ 2001; omega, by show st.2 ≤ 9; omega, fun h => absurd rfl h⟩
    · rw [if_neg hs]
      have hx := sp_say_b (C := C) (ts := ts) n wh i (sp_tT ts t) (st.1 + 1, st.2) (by show st.1 + 1 ≤ 2000; omega) h2
      dsimp only
      generalize sp_say C ts n wh i (sp_tT ts t) (st.1 + 1, st.2) = x at hx
      obtain ⟨x1, x2, x3, x4⟩ := id hx
      split
      · exact sp_leaf_b (by show st.1 + 1 ≤ 2000; omega) h2
      · split
        · split
          · exact sp_nxt_b (fun j st h1 h2 => sp_say_b n 0 j (sp_tT ts t) st h1 h2) _ _ _ (by show st.1 + 1 ≤ 2000; omega) h2
          · exact sp_say_b n 0 _ _ _ (by show st.1 + 1 ≤ 2000; omega) h2
        · split
          · refine ⟨?_, x2, x3, ?_⟩
            · dsimp only; split <;> omega
            · dsimp only; intro h; exact x4 (by split at h <;> omega)
          · split
            · split
              · exact sp_say_b n wh i _ _ (x4 (by omega)).1 (x4 (by omega)).2
              · exact hx
            · split
              · split
                · exact sp_say_b n wh i _ _ (x4 (by omega)).1 (x4 (by omega)).2
                · exact hx
              · refine ⟨?_, x2, x3, ?_⟩
                · dsimp only; split <;> omega
                · dsimp only; intro h; exact x4 (by split at h <;> omega)
/-! the class -/
/-- the Tests at a hold ts -/
def cT (S : pm_T) (a : Nat) (ts : List sp_Te) : Prop := sT S a ∧ pm_gi S a 4 = nI ts.length ∧ ∀ k, k < ts.length → pm_zi S (a + 1) k = nI (sp_te ts k).1 ∧ pm_zl S (a + 2) k = (sp_te ts k).2.1 ∧ pm_zi S (a + 3) k = (sp_te ts k).2.2.1 ∧ pm_zi S (a + 4) k = (sp_te ts k).2.2.2
/-- tests are being asked of the Graph at g -/
def gT (S : pm_T) (a g : Nat) (C : sp_C) (ts : List sp_Te) (st : Nat × Nat) : Prop := cT S a ts ∧ sG S g ∧ cC S g C ∧ C.1 = 0 ∧ pm_gi S a 5 = nI st.1 ∧ pm_gi S a 6 = nI st.2 ∧ a + 5 ≤ g
theorem sp_cnt_congr {p q : Nat → Bool} : ∀ {n : Nat}, (∀ e, e < n → p e = q e) → sp_cnt p n = sp_cnt q n
  | 0, _ => rfl
  | n + 1, h => by
    unfold sp_cnt
    rw [sp_cnt_congr (fun e he => h e (by omega)), h n (by omega)]
section
variable {d a g n k : Nat} {S : pm_T} {Q : Option Value → pm_T → Prop} {C : sp_C} {ts : List sp_Te} {st : Nat × Nat}
theorem nI_beq {a b : Nat} (ha : a < 2 ^ 31) (hb : b < 2 ^ 31) : (nI a == nI b) = (a == b) := by rw [Bool.eq_iff_iff, beq_iff_eq, beq_iff_eq, nI_e' ha hb]
theorem gT_st {st' : Nat × Nat} {x y : Int32} (h : gT S a g C ts st) (hx : x = nI st'.1) (hy : y = nI st'.2) : gT (pm_sgi (pm_sgi S a 5 x) a 6 y) a g C ts st' ∧ sp_fr (fun b => b = a) S (pm_sgi (pm_sgi S a 5 x) a 6 y) := by
  obtain ⟨h1, h2, h3, h4, h5, h6, h7⟩ := h
  have f : sp_fr (fun b => b = a) S (pm_sgi (pm_sgi S a 5 x) a 6 y) := sp_fr.tr (P := fun b => b = a) (sp_fr.gi rfl (sh_ne h1.1.1 (by decide))) (sp_fr.gi rfl (sh_ne h1.1.1 (by decide)))
  refine ⟨⟨⟨h1.1, ?_, h1.2.2⟩, sG_fr h2 f, cC_fr h3 f (fun b hb hw => by unfold cB at hb; omega), h4, ?_, ?_, h7⟩, f⟩
  · simpa [ps_gi_nx, ps_gi_sz, ps_gi_sh, ps_gi_gi, ps_gi_gl, ps_gi_gr, ps_gi_zi, ps_gi_zl, ps_gi_zr, ps_gi_ar, ps_gi_al, ps_gl_nx, ps_gl_sz, ps_gl_sh, ps_gl_gi, ps_gl_gl, ps_gl_gr, ps_gl_zi, ps_gl_zl, ps_gl_zr, ps_gl_ar, ps_gl_al, ps_gr_nx, ps_gr_sz, ps_gr_sh, ps_gr_gi, ps_gr_gl, ps_gr_gr, ps_gr_zi, ps_gr_zl, ps_gr_zr, ps_gr_ar, ps_gr_al, ps_zi_nx, ps_zi_sz, ps_zi_sh, ps_zi_gi, ps_zi_gl, ps_zi_gr, ps_zi_zi, ps_zi_zl, ps_zi_zr, ps_zi_ar, ps_zi_al, ps_zl_nx, ps_zl_sz, ps_zl_sh, ps_zl_gi, ps_zl_gl, ps_zl_gr, ps_zl_zi, ps_zl_zl, ps_zl_zr, ps_zl_ar, ps_zl_al, ps_zr_nx, ps_zr_sz, ps_zr_sh, ps_zr_gi, ps_zr_gl, ps_zr_gr, ps_zr_zi, ps_zr_zl, ps_zr_zr, ps_zr_ar, ps_zr_al, pm_rf_some, pm_rf_none, pm_tl_some, pm_tl_none] using h1.2.1
  · simpa [ps_gi_nx, ps_gi_sz, ps_gi_sh, ps_gi_gi, ps_gi_gl, ps_gi_gr, ps_gi_zi, ps_gi_zl, ps_gi_zr, ps_gi_ar, ps_gi_al, ps_gl_nx, ps_gl_sz, ps_gl_sh, ps_gl_gi, ps_gl_gl, ps_gl_gr, ps_gl_zi, ps_gl_zl, ps_gl_zr, ps_gl_ar, ps_gl_al, ps_gr_nx, ps_gr_sz, ps_gr_sh, ps_gr_gi, ps_gr_gl, ps_gr_gr, ps_gr_zi, ps_gr_zl, ps_gr_zr, ps_gr_ar, ps_gr_al, ps_zi_nx, ps_zi_sz, ps_zi_sh, ps_zi_gi, ps_zi_gl, ps_zi_gr, ps_zi_zi, ps_zi_zl, ps_zi_zr, ps_zi_ar, ps_zi_al, ps_zl_nx, ps_zl_sz, ps_zl_sh, ps_zl_gi, ps_zl_gl, ps_zl_gr, ps_zl_zi, ps_zl_zl, ps_zl_zr, ps_zl_ar, ps_zl_al, ps_zr_nx, ps_zr_sz, ps_zr_sh, ps_zr_gi, ps_zr_gl, ps_zr_gr, ps_zr_zi, ps_zr_zl, ps_zr_zr, ps_zr_ar, ps_zr_al, pm_rf_some, pm_rf_none, pm_tl_some, pm_tl_none] using hx
  · simpa [ps_gi_nx, ps_gi_sz, ps_gi_sh, ps_gi_gi, ps_gi_gl, ps_gi_gr, ps_gi_zi, ps_gi_zl, ps_gi_zr, ps_gi_ar, ps_gi_al, ps_gl_nx, ps_gl_sz, ps_gl_sh, ps_gl_gi, ps_gl_gl, ps_gl_gr, ps_gl_zi, ps_gl_zl, ps_gl_zr, ps_gl_ar, ps_gl_al, ps_gr_nx, ps_gr_sz, ps_gr_sh, ps_gr_gi, ps_gr_gl, ps_gr_gr, ps_gr_zi, ps_gr_zl, ps_gr_zr, ps_gr_ar, ps_gr_al, ps_zi_nx, ps_zi_sz, ps_zi_sh, ps_zi_gi, ps_zi_gl, ps_zi_gr, ps_zi_zi, ps_zi_zl, ps_zi_zr, ps_zi_ar, ps_zi_al, ps_zl_nx, ps_zl_sz, ps_zl_sh, ps_zl_gi, ps_zl_gl, ps_zl_gr, ps_zl_zi, ps_zl_zl, ps_zl_zr, ps_zl_ar, ps_zl_al, ps_zr_nx, ps_zr_sz, ps_zr_sh, ps_zr_gi, ps_zr_gl, ps_zr_gr, ps_zr_zi, ps_zr_zl, ps_zr_zr, ps_zr_ar, ps_zr_al, pm_rf_some, pm_rf_none, pm_tl_some, pm_tl_none] using hy
theorem c_countFromC (hG : sG S g) (hC : cC S g C) (h0 : C.1 = 0) (ho : sp_ok C) {i : Nat} (hi : i < 40) : pm_N d 8 [.ref g, .int (nI i)] S Q = Q (some (.int (nI (sp_many C 0 i)))) S := by
  have hm := cC_m hC h0
  have hn := cC_n hC h0
  rw [c_countFrom hG hm.1 hm.2]
  unfold sp_many
  rw [sp_cnt_congr (fun e he => ?_)]
  have := ho e he
  rw [(cC_ae hC h0 he).1]
  simp only [sp_is, if_true]
  exact nI_beq (by omega) (by omega)
set_option maxHeartbeats 1000000 in
theorem c_countBeside (hG : sG S g) (hC : cC S g C) (h0 : C.1 = 0) (ho : sp_ok C) {i : Nat} (hi : i < C.2.2.1.length) : pm_N d 9 [.ref g, .int (nI i)] S Q = Q (some (.int (nI (sp_many C 1 i)))) S := by
  have hm := cC_m hC h0
  have hn := cC_n hC h0
  have hi2 : i < 120 := by omega
  have key : ∀ m k, k + m = C.2.2.1.length → pm_V d 9 4 [.ref g, .int (nI i), .int (nI (sp_cnt (sp_is C 1 i) k)), .int (nI k)] [] S Q = Q (some (.int (nI (sp_many C 1 i)))) S := by
    intro m
    induction m with
    | zero =>
      intro k hk
      have : k = C.2.2.1.length := by omega
      subst this
      have e1 : ¬ nI C.2.2.1.length < nI C.2.2.1.length := nI_nlt (by omega) (by omega)
      rw [q9_4]
      simp only [q9_0, q9_1, q9_2, q9_3, q9_5, q9_6, q9_9, q9_12, q9_15, q9_16, q9_19, q9_20, q9_21, q9_22, q9_25, q9_26, q9_27, q9_30, q9_31, q9_34, q9_35, q9_36, q9_37, q9_40, q9_41, q9_42, q9_45, q9_48, q9_51, q9_54, q9_55, q9_e, hG.1, hG.2.1, hG.2.2.1, hG.2.2.2.1, hG.2.2.2.2.1, hG.2.2.2.2.2.1, hG.2.2.2.2.2.2.2.2.1.1, hG.2.2.2.2.2.2.2.2.1.2.1, hG.2.2.2.2.2.2.2.2.1.2.2.1, hG.2.2.2.2.2.2.2.2.1.2.2.2.1, hG.2.2.2.2.2.2.2.2.2.1.1, hG.2.2.2.2.2.2.2.2.2.1.2.1, hG.2.2.2.2.2.2.2.2.2.1.2.2.1, hG.2.2.2.2.2.2.2.2.2.1.2.2.2.1, hG.2.2.2.2.2.2.2.2.2.2.1, hG.2.2.2.2.2.2.2.2.2.2.2.1, hG.2.2.2.2.2.2.2.2.2.2.2.2.1, hG.2.2.2.2.2.2.2.2.2.2.2.2.2.1, pm_rf_some, hm.1, e1, if_false]
      rfl
    | succ m ih =>
      intro k hk
      have hk1 : k < C.2.2.1.length := by omega
      have hk2 : k < 120 := by omega
      have e1 : nI k < nI C.2.2.1.length := nI_lt hk1 (by omega)
      have oi := ho i hi
      have ok := ho k hk1
      have this := ih (k + 1) (by omega)
      rw [sp_cnt_s] at this
      rw [q9_4]
      simp only [q9_0, q9_1, q9_2, q9_3, q9_5, q9_6, q9_9, q9_12, q9_15, q9_16, q9_19, q9_20, q9_21, q9_22, q9_25, q9_26, q9_27, q9_30, q9_31, q9_34, q9_35, q9_36, q9_37, q9_40, q9_41, q9_42, q9_45, q9_48, q9_51, q9_54, q9_55, q9_e, hG.1, hG.2.1, hG.2.2.1, hG.2.2.2.1, hG.2.2.2.2.1, hG.2.2.2.2.2.1, hG.2.2.2.2.2.2.2.2.1.1, hG.2.2.2.2.2.2.2.2.1.2.1, hG.2.2.2.2.2.2.2.2.1.2.2.1, hG.2.2.2.2.2.2.2.2.1.2.2.2.1, hG.2.2.2.2.2.2.2.2.2.1.1, hG.2.2.2.2.2.2.2.2.2.1.2.1, hG.2.2.2.2.2.2.2.2.2.1.2.2.1, hG.2.2.2.2.2.2.2.2.2.1.2.2.2.1, hG.2.2.2.2.2.2.2.2.2.2.1, hG.2.2.2.2.2.2.2.2.2.2.2.1, hG.2.2.2.2.2.2.2.2.2.2.2.2.1, hG.2.2.2.2.2.2.2.2.2.2.2.2.2.1, pm_rf_some, hm.1, e1, if_true, gr9 hG hk2, gr10 hG hk2, gr6 hG hk2, gr7 hG hk2, gr8 hG hk2, nc12 hk2, gr9 hG hi2, gr10 hG hi2, gr6 hG hi2, gr7 hG hi2, gr8 hG hi2, nc12 hi2, (cC_ae hC h0 hk1).1, (cC_ae hC h0 hk1).2.1, (cC_ae hC h0 hi).1, (cC_ae hC h0 hi).2.1, nI_1, nI_e' (show (sp_ar C k).1 < 2 ^ 31 by omega) (show (sp_ar C i).1 < 2 ^ 31 by omega), nI_e' (show (sp_ar C k).2.1 < 2 ^ 31 by omega) (show (sp_ar C i).2.1 < 2 ^ 31 by omega)]
      by_cases h1 : (sp_ar C k).1 = (sp_ar C i).1
      · by_cases h2 : (sp_ar C k).2.1 = (sp_ar C i).2.1
        · rw [if_pos h1, if_pos h2]
          simpa [sp_is, h1, h2] using this
        · rw [if_pos h1, if_neg h2]
          simpa [sp_is, h1, h2] using this
      · rw [if_neg h1]
        simpa [sp_is, h1] using this
  have := key C.2.2.1.length 0 (by omega)
  simp only [q9_0, q9_1, q9_2, q9_3, q9_5, q9_6, q9_9, q9_12, q9_15, q9_16, q9_19, q9_20, q9_21, q9_22, q9_25, q9_26, q9_27, q9_30, q9_31, q9_34, q9_35, q9_36, q9_37, q9_40, q9_41, q9_42, q9_45, q9_48, q9_51, q9_54, q9_55, q9_e]
  exact this
end
