/-! ===== views are in order: sizes, numbers ===== -/
def sp_bd (r : Option Nat) : Prop := ∀ i, r = some i → i < 120
def sp_wd (C : sp_C) : Prop := C.1 ≤ 5 ∧ C.2.1.length ≤ 40 ∧ C.2.2.1.length ≤ 120 ∧ C.2.2.2.length ≤ 8 ∧ (∀ q, q ∈ C.2.1 → sp_bd q.2.1 ∧ sp_bd q.2.2) ∧ (∀ q, q ∈ C.2.2.1 → sp_bd q.2.2.2.1 ∧ sp_bd q.2.2.2.2) ∧ ∀ q, q ∈ C.2.2.2 → q.1 ≤ 1 ∧ q.2.1 < 120 ∧ q.2.2 ≤ 5
theorem sp_bd_n : sp_bd none := fun i h => by cases h
theorem sp_bd_s {i : Nat} (h : i < 120) : sp_bd (some i) := fun j hj => by cases hj; exact h
theorem sp_wd_e {f : Nat} (h : f ≤ 5) : sp_wd (f, [], [], []) := ⟨h, Nat.zero_le _, Nat.zero_le _, Nat.zero_le _, (fun q hq => by cases hq), (fun q hq => by cases hq), (fun q hq => by cases hq)⟩
theorem sp_wd_0 : sp_wd sp_0 := sp_wd_e (by decide)
theorem sp_wd_b {C : sp_C} (h : sp_wd C) : sp_wd (sp_brk C 4) := by
  refine ⟨?_, h.2⟩
  have := h.1
  unfold sp_brk
  dsimp only
  split <;> omega
theorem sp_wd_N {C : sp_C} {v : Int64} {a b : Option Nat} (h : sp_wd C) (ha : sp_bd a) (hb : sp_bd b) : sp_wd (sp_addN C (v, a, b)) := by
  unfold sp_addN
  split
  · exact sp_wd_b h
  · split
    · obtain ⟨h1, h2, h3, h4, h5, h6, h7⟩ := h
      refine ⟨h1, ?_, h3, h4, fun q hq => ?_, h6, h7⟩
      · show (C.2.1 ++ [_]).length ≤ 40
        rw [List.length_append]; show _ + 1 ≤ 40; omega
      · rcases List.mem_append.mp hq with hq | hq
        · exact h5 q hq
        · rw [List.mem_singleton] at hq; subst hq; exact ⟨ha, hb⟩
    · exact h
theorem sp_wd_A {C : sp_C} {t u : Nat} {v : Int64} {a b : Option Nat} (h : sp_wd C) (ha : sp_bd a) (hb : sp_bd b) : sp_wd (sp_addA C (t, u, v, a, b)) := by
  unfold sp_addA
  split
  · exact sp_wd_b h
  · split
    · obtain ⟨h1, h2, h3, h4, h5, h6, h7⟩ := h
      refine ⟨h1, h2, ?_, h4, h5, fun q hq => ?_, h7⟩
      · show (C.2.2.1 ++ [_]).length ≤ 120
        rw [List.length_append]; show _ + 1 ≤ 120; omega
      · rcases List.mem_append.mp hq with hq | hq
        · exact h6 q hq
        · rw [List.mem_singleton] at hq; subst hq; exact ⟨ha, hb⟩
    · exact h
theorem sp_wd_for {f : sp_C → Nat → sp_C} {n : Nat} {C : sp_C} (hf : ∀ k C, k < n → sp_wd C → sp_wd (f C k)) (h : sp_wd C) : sp_wd (sp_for f n 0 C) := sp_for_ind (p := fun _ C => sp_wd C) (fun k C hk hC => hf k C hk hC) h
section
variable {a b C : sp_C} {LB : Nat → Nat → Option Nat} {ts : List sp_Te} {tb tc : Option Nat} {md t c : Nat}
theorem sp_copyN_wd (ha : sp_wd a) (h : sp_wd C) : sp_wd (sp_copyN a C) := sp_wd_for (fun k C hk hC => sp_wd_N hC (sp_bd_s (by have := ha.2.1; omega)) sp_bd_n) h
theorem sp_turn_wd (ha : sp_wd a) : sp_wd (sp_turn a sp_0) := sp_wd_for (fun k C hk hC => sp_wd_A hC (sp_bd_s (by have := ha.2.2.1; omega)) sp_bd_n) (sp_copyN_wd ha sp_wd_0)
theorem sp_less_wd (ha : sp_wd a) : sp_wd (sp_less a b (sp_copyN a sp_0) a.2.2.1.length) := sp_wd_for (fun k C hk hC => by
  split
  · exact hC
  · exact sp_wd_A hC (sp_bd_s (by have := ha.2.2.1; omega)) sp_bd_n) (sp_copyN_wd ha sp_wd_0)
theorem sp_bd_i {p : Prop} [Decidable p] {k : Nat} (h : k < 120) : sp_bd (if p then some k else none) := by
  split
  · exact sp_bd_s h
  · exact sp_bd_n
theorem sp_join_wd (ha : sp_wd a) (hb : sp_wd b) : sp_wd (sp_join a b sp_0) := by
  have l1 : max a.2.1.length b.2.1.length ≤ 40 := Nat.max_le.mpr ⟨ha.2.1, hb.2.1⟩
  refine sp_wd_for (fun k C hk hC => ?_) (sp_wd_for (fun k C hk hC => ?_) (sp_wd_for (fun k C hk hC => ?_) sp_wd_0))
  · split
    · exact hC
    · exact sp_wd_A hC sp_bd_n (sp_bd_s (by have := hb.2.2.1; omega))
  · exact sp_wd_A hC (sp_bd_s (by have := ha.2.2.1; omega)) sp_bd_n
  · exact sp_wd_N hC (sp_bd_i (by omega)) (sp_bd_i (by omega))
theorem sp_lines_wd (ha : sp_wd a) (ho : sp_ok a) : sp_wd (sp_lines a sp_0) := by
  refine sp_wd_for (fun e C he hC => sp_wd_for (fun k C hk hC => ?_) hC) (sp_wd_for (fun k C hk hC => ?_) sp_wd_0)
  · split
    · exact sp_wd_A hC (sp_bd_s (by have := ha.2.1; have := (ho e he).2; omega)) sp_bd_n
    · exact hC
  · exact sp_wd_N hC (sp_bd_s (by have := ha.2.2.1; omega)) sp_bd_n
theorem sp_pairN_wd (ha : sp_wd a) (hb : sp_wd b) (h : sp_wd C) : sp_wd (sp_pairN a b C) := sp_wd_for (fun k C hk hC => sp_wd_for (fun j C hj hC => sp_wd_N hC (sp_bd_s (by have := ha.2.1; omega)) (sp_bd_s (by have := hb.2.1; omega))) hC) h
theorem sp_movA_wd (ha : sp_wd a) (h : sp_wd C) : sp_wd (sp_movA a b C) := sp_wd_for (fun k C hk hC => sp_wd_for (fun j C hj hC => sp_wd_A hC (sp_bd_s (by have := ha.2.2.1; omega)) sp_bd_n) hC) h
theorem sp_movB_wd (hb : sp_wd b) (h : sp_wd C) : sp_wd (sp_movB a b C) := sp_wd_for (fun k C hk hC => sp_wd_for (fun j C hj hC => sp_wd_A hC sp_bd_n (sp_bd_s (by have := hb.2.2.1; omega))) hC) h
theorem sp_movAB_wd (ha : sp_wd a) (hb : sp_wd b) (h : sp_wd C) : sp_wd (sp_movAB a b C) := sp_wd_for (fun k C hk hC => sp_wd_for (fun j C hj hC => sp_wd_A hC (sp_bd_s (by have := ha.2.2.1; omega)) (sp_bd_s (by have := hb.2.2.1; omega))) hC) h
theorem sp_prod_wd (ha : sp_wd a) (hb : sp_wd b) : sp_wd (sp_prod a b c sp_0) := by
  have h1 := sp_pairN_wd ha hb sp_wd_0
  have h2 := sp_movB_wd (a := a) hb (sp_movA_wd (b := b) ha h1)
  unfold sp_prod
  split
  · exact h2
  · refine sp_movAB_wd ha hb ?_
    split
    · exact h1
    · exact h2
/-- the filter's lists -/
def fi_w (X : sp_F) : Prop := (∀ q, q ∈ X.1.2.1 → sp_bd q.2.1 ∧ sp_bd q.2.2) ∧ (∀ q, q ∈ X.1.2.2.1 → sp_bd q.2.2.2.1 ∧ sp_bd q.2.2.2.2) ∧ ∀ q, q ∈ X.1.2.2.2 → q.1 ≤ 1 ∧ q.2.1 < 120 ∧ q.2.2 ≤ 5
theorem fi_bad_w {X : sp_F} {wh i u : Nat} {st : Nat × Nat} {p : Nat → Option Nat} (h : fi_w X) (hw : wh ≤ 1) (hi : i < 120) (hu : u ≤ 5) : fi_w (fi_bad md X.1 wh i u, st, p) := by
  obtain ⟨h1, h2, h3⟩ := h
  unfold fi_bad
  split
  · exact ⟨h1, h2, h3⟩
  · refine ⟨h1, h2, fun q hq => ?_⟩
    rcases List.mem_append.mp hq with hq | hq
    · exact h3 q hq
    · rw [List.mem_singleton] at hq; subst hq; exact ⟨hw, hi, hu⟩
theorem fi_N_w {X : sp_F} {i n m : Nat} (ho : fi_ok X n m) (h : fi_w X) (hi : i < 120) : fi_w (fi_N a ts tb md X i) := by
  obtain ⟨h1, h2, h3⟩ := id h
  unfold fi_N
  split
  next h0 =>
    have hb := (fi_ask_b (Ca := a) (ts := ts) (t := tb) (wh := 0) (i := i) (ho.2.2.2.2.1 h0).1 (ho.2.2.2.2.1 h0).2.1).1.1
    split
    · refine ⟨fun q hq => ?_, h2, h3⟩
      rcases List.mem_append.mp hq with hq | hq
      · exact h1 q hq
      · rw [List.mem_singleton] at hq; subst hq; exact ⟨sp_bd_s hi, sp_bd_n⟩
    · split
      · exact ⟨h1, h2, h3⟩
      · exact fi_bad_w h (by decide) hi (by omega)
  next => exact h
theorem fi_A_w {X : sp_F} {i n m : Nat} (ho : fi_ok X n m) (h : fi_w X) (hi : i < 120) : fi_w (fi_A a ts tc md X i) := by
  obtain ⟨h1, h2, h3⟩ := id h
  unfold fi_A
  split
  next h0 =>
    have hb := (fi_ask_b (Ca := a) (ts := ts) (t := tc) (wh := 1) (i := i) (ho.2.2.2.2.1 h0).1 (ho.2.2.2.2.1 h0).2.1).1.1
    split
    · split
      · refine ⟨h1, fun q hq => ?_, h3⟩
        rcases List.mem_append.mp hq with hq | hq
        · exact h2 q hq
        · rw [List.mem_singleton] at hq; subst hq; exact ⟨sp_bd_s hi, sp_bd_n⟩
      · split
        · exact ⟨h1, h2, h3⟩
        · exact fi_bad_w h (by decide) hi (by omega)
    · exact h
  next => exact h
theorem sp_fil_wd (ha : sp_wd a) : sp_wd (sp_fil a ts tb tc md) := by
  have h1 : ∀ k, k ≤ a.2.1.length → fi_w (fi_n a ts tb md k) := by
    intro k
    induction k with
    | zero => intro _; exact ⟨(fun q hq => by cases hq), (fun q hq => by cases hq), (fun q hq => by cases hq)⟩
    | succ k ih => intro hk; rw [fi_n_s]; exact fi_N_w (fi_n_ok k) (ih (by omega)) (by have := ha.2.1; omega)
  have h2 : ∀ k, k ≤ a.2.2.1.length → fi_w (fi_a a ts tb tc md k) := by
    intro k
    induction k with
    | zero => intro _; exact h1 _ (Nat.le_refl _)
    | succ k ih => intro hk; rw [fi_a_s]; exact fi_A_w (fi_a_ok k) (ih (by omega)) (by have := ha.2.2.1; omega)
  have o := fi_a_ok (Ca := a) (ts := ts) (tb := tb) (tc := tc) (md := md) a.2.2.1.length
  obtain ⟨w1, w2, w3⟩ := h2 _ (Nat.le_refl _)
  exact ⟨o.1, Nat.le_trans o.2.1 ha.2.1, Nat.le_trans o.2.2.1 ha.2.2.1, o.2.2.2.1, w1, w2, w3⟩
theorem hp_h_lt {key : Nat → Option Nat} {val : Nat → Int64} {l f : Nat} {v : Int64} : ∀ n, hp_h c key val l n = some (f, v) → f < n
  | 0, h => by cases h
  | n + 1, h => by
    unfold hp_h at h
    split at h
    · unfold hp_in at h
      split at h
      · cases h; omega
      next f' t' hh => cases h; have := hp_h_lt n hh; omega
    · have := hp_h_lt n h; omega
theorem sp_gat_wd (ha : sp_wd a) : sp_wd (sp_gat LB t c a) := by
  have l1 := ga_N_le (LB := LB) (t := t) (c := c) (Ca := a) 10
  have l2 := ga_A_le (LB := LB) (t := t) (c := c) (Ca := a) 100
  have n1 : ∀ k, ∀ q, q ∈ ga_N LB t c a k → sp_bd q.2.1 ∧ sp_bd q.2.2 := by
    intro k
    induction k with
    | zero => intro q hq; cases hq
    | succ k ih =>
      intro q hq
      rw [ga_N_s] at hq
      rcases List.mem_append.mp hq with hq | hq
      · exact ih q hq
      · cases hh : ga_hN LB t c a k with
        | none => rw [hh] at hq; cases hq
        | some p =>
          rw [hh] at hq
          dsimp only at hq
          rw [List.mem_singleton] at hq
          subst hq
          have := hp_h_lt _ hh
          exact ⟨sp_bd_s (by have := ha.2.1; omega), sp_bd_n⟩
  have n2 : ∀ k, ∀ q, q ∈ ga_A LB t c a k → sp_bd q.2.2.2.1 ∧ sp_bd q.2.2.2.2 := by
    intro k
    induction k with
    | zero => intro q hq; cases hq
    | succ k ih =>
      intro q hq
      rw [ga_A_s] at hq
      rcases List.mem_append.mp hq with hq | hq
      · exact ih q hq
      · cases hh : ga_hA LB t c a k with
        | none => rw [hh] at hq; cases hq
        | some p =>
          rw [hh] at hq
          dsimp only at hq
          rw [List.mem_singleton] at hq
          subst hq
          have := hp_h_lt _ hh
          exact ⟨sp_bd_s (by have := ha.2.2.1; omega), sp_bd_n⟩
  refine ⟨?_, by show (ga_N LB t c a 10).length ≤ 40; omega, by show (ga_A LB t c a 100).length ≤ 120; omega, Nat.zero_le _, n1 _, n2 _, fun q hq => by cases hq⟩
  show (if _ then 3 else 0) ≤ 5
  split <;> omega
theorem sp_view_wd {k : Nat} {cb cc cd : Int32} (ha : sp_wd a) (hb : sp_wd b) (ga : sp_gd a) : sp_wd (sp_view LB ts k cb cc cd a b) := by
  unfold sp_view
  split
  · exact sp_wd_e ha.1
  next h =>
    split
    · exact sp_wd_e hb.1
    next h' =>
      have oa := ga (Classical.not_not.mp h)
      split
      · exact sp_fil_wd ha
      · split
        · exact sp_turn_wd ha
        · split
          · exact sp_join_wd ha hb
          · split
            · exact sp_less_wd ha
            · split
              · exact sp_prod_wd ha hb
              · split
                · exact sp_lines_wd ha oa
                · exact sp_gat_wd ha
end
