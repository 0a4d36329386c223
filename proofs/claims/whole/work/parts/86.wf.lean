/-! ===== views are in order: arcs run between nodes ===== -/
theorem sp_for_ind {α : Type} {f : α → Nat → α} {p : Nat → α → Prop} {n : Nat} (hf : ∀ k x, k < n → p k x → p (k + 1) (f x k)) {x : α} (h0 : p 0 x) : p n (sp_for f n 0 x) := by
  have : ∀ k, k ≤ n → p k (sp_for f k 0 x) := by
    intro k
    induction k with
    | zero => intro _; exact h0
    | succ k ih => intro hk; rw [sp_for_n]; exact hf k _ (by omega) (ih (by omega))
  exact this n (Nat.le_refl _)
def sp_iv (N : Nat) (C : sp_C) : Prop := C.1 = 0 → C.2.1.length = N ∧ ∀ q, q ∈ C.2.2.1 → q.1 < N ∧ q.2.1 < N
def sp_nv (n : Nat) (C : sp_C) : Prop := C.1 = 0 → C.2.1.length = n ∧ C.2.2.1 = []
theorem sp_iv_gd {N : Nat} {C : sp_C} (h : sp_iv N C) : sp_gd C := by
  intro h0 e he
  obtain ⟨h1, h2⟩ := h h0
  have : sp_ar C e ∈ C.2.2.1 := by
    unfold sp_ar
    rw [List.getD_eq_getElem?_getD, List.getElem?_eq_getElem he]
    exact List.getElem_mem he
  rw [h1]
  exact h2 _ this
theorem sp_addN_0 {C : sp_C} {q : sp_N} (h : (sp_addN C q).1 = 0) : C.1 = 0 ∧ sp_addN C q = (C.1, C.2.1 ++ [q], C.2.2) := by
  by_cases h0 : C.1 = 0
  · refine ⟨h0, ?_⟩
    unfold sp_addN at h ⊢
    by_cases e : C.2.1.length = 40
    · rw [if_pos e] at h; simp [sp_brk, h0] at h
    · rw [if_neg e, if_pos h0]
  · rw [sp_addN_ne h0] at h; exact absurd h h0
theorem sp_addA_0 {C : sp_C} {q : sp_A} (h : (sp_addA C q).1 = 0) : C.1 = 0 ∧ sp_addA C q = (C.1, C.2.1, C.2.2.1 ++ [q], C.2.2.2) := by
  by_cases h0 : C.1 = 0
  · refine ⟨h0, ?_⟩
    unfold sp_addA at h ⊢
    by_cases e : C.2.2.1.length = 120
    · rw [if_pos e] at h; simp [sp_brk, h0] at h
    · rw [if_neg e, if_pos h0]
  · rw [sp_addA_ne h0] at h; exact absurd h h0
theorem sp_nv_N {n : Nat} {C : sp_C} {q : sp_N} (h : sp_nv n C) : sp_nv (n + 1) (sp_addN C q) := by
  intro h0
  obtain ⟨h1, h2⟩ := sp_addN_0 h0
  rw [h2]
  obtain ⟨h3, h4⟩ := h h1
  exact ⟨by simp [h3], h4⟩
theorem sp_iv_A {N : Nat} {C : sp_C} {q : sp_A} (h : sp_iv N C) (a : q.1 < N) (b : q.2.1 < N) : sp_iv N (sp_addA C q) := by
  intro h0
  obtain ⟨h1, h2⟩ := sp_addA_0 h0
  rw [h2]
  obtain ⟨h3, h4⟩ := h h1
  refine ⟨h3, fun p hp => ?_⟩
  rcases List.mem_append.mp hp with hp | hp
  · exact h4 p hp
  · rw [List.mem_singleton] at hp
    subst hp
    exact ⟨a, b⟩
theorem sp_nv_iv {n : Nat} {C : sp_C} (h : sp_nv n C) : sp_iv n C := fun h0 => ⟨(h h0).1, fun q hq => by rw [(h h0).2] at hq; cases hq⟩
theorem sp_nv_0 : sp_nv 0 sp_0 := fun _ => ⟨rfl, rfl⟩
theorem sp_copyN_nv {a : sp_C} : sp_nv a.2.1.length (sp_copyN a sp_0) := sp_for_ind (p := fun k C => sp_nv k C) (fun k C _ h => sp_nv_N h) sp_nv_0
theorem sp_turn_gd {a : sp_C} (h : sp_ok a) : sp_gd (sp_turn a sp_0) := by
  apply sp_iv_gd (N := a.2.1.length)
  unfold sp_turn
  exact sp_for_ind (p := fun _ C => sp_iv a.2.1.length C) (fun k C hk hC => sp_iv_A hC (h k hk).2 (h k hk).1) (sp_nv_iv sp_copyN_nv)
theorem sp_less_gd {a b : sp_C} (h : sp_ok a) : sp_gd (sp_less a b (sp_copyN a sp_0) a.2.2.1.length) := by
  apply sp_iv_gd (N := a.2.1.length)
  unfold sp_less
  exact sp_for_ind (p := fun _ C => sp_iv a.2.1.length C) (fun k C hk hC => by
    split
    · exact hC
    · exact sp_iv_A hC (h k hk).1 (h k hk).2) (sp_nv_iv sp_copyN_nv)
theorem sp_join_gd {a b : sp_C} (ha : sp_ok a) (hb : sp_ok b) : sp_gd (sp_join a b sp_0) := by
  apply sp_iv_gd (N := max a.2.1.length b.2.1.length)
  have l1 := Nat.le_max_left a.2.1.length b.2.1.length
  have l2 := Nat.le_max_right a.2.1.length b.2.1.length
  unfold sp_join sp_join3 sp_join2 sp_join1
  refine sp_for_ind (p := fun _ C => sp_iv (max a.2.1.length b.2.1.length) C) (fun k C hk hC => ?_) (sp_for_ind (p := fun _ C => sp_iv (max a.2.1.length b.2.1.length) C) (fun k C hk hC => ?_) (sp_nv_iv (sp_for_ind (p := fun k C => sp_nv k C) (fun k C _ h => sp_nv_N h) sp_nv_0)))
  · split
    · exact hC
    · have := hb k hk; exact sp_iv_A hC (by show (sp_ar b k).1 < _; omega) (by show (sp_ar b k).2.1 < _; omega)
  · have := ha k hk; exact sp_iv_A hC (by show (sp_ar a k).1 < _; omega) (by show (sp_ar a k).2.1 < _; omega)
theorem sp_lines_gd {a : sp_C} : sp_gd (sp_lines a sp_0) := by
  apply sp_iv_gd (N := a.2.2.1.length)
  unfold sp_lines sp_line3 sp_line2 sp_line1
  refine sp_for_ind (p := fun _ C => sp_iv a.2.2.1.length C) (fun e C he hC => ?_) (sp_nv_iv (sp_for_ind (p := fun k C => sp_nv k C) (fun k C _ h => sp_nv_N h) sp_nv_0))
  exact sp_for_ind (p := fun _ C => sp_iv a.2.2.1.length C) (fun k C hk hC => by
    split
    · exact sp_iv_A hC he hk
    · exact hC) hC
theorem sp_mulm {x n y m : Nat} (h : x < n) (h2 : y < m) : x * m + y < n * m := by
  have : (x + 1) * m ≤ n * m := Nat.mul_le_mul_right m h
  rw [Nat.succ_mul] at this
  omega
theorem sp_pairN_nv {a b : sp_C} : sp_nv (a.2.1.length * b.2.1.length) (sp_pairN a b sp_0) := by
  unfold sp_pairN
  refine sp_for_ind (p := fun k C => sp_nv (k * b.2.1.length) C) (fun k C _ h => ?_) (by rw [Nat.zero_mul]; exact sp_nv_0)
  rw [Nat.succ_mul]
  exact sp_for_ind (p := fun j C => sp_nv (k * b.2.1.length + j) C) (fun j C _ h => sp_nv_N h) h
theorem sp_movA_iv {a b C : sp_C} (h : sp_ok a) (hC : sp_iv (a.2.1.length * b.2.1.length) C) : sp_iv (a.2.1.length * b.2.1.length) (sp_movA a b C) := by
  unfold sp_movA
  exact sp_for_ind (p := fun _ C => sp_iv _ C) (fun e C he hC => sp_for_ind (p := fun _ C => sp_iv _ C) (fun y C hy hC => sp_iv_A hC (sp_mulm (h e he).1 hy) (sp_mulm (h e he).2 hy)) hC) hC
theorem sp_movB_iv {a b C : sp_C} (h : sp_ok b) (hC : sp_iv (a.2.1.length * b.2.1.length) C) : sp_iv (a.2.1.length * b.2.1.length) (sp_movB a b C) := by
  unfold sp_movB
  exact sp_for_ind (p := fun _ C => sp_iv _ C) (fun x C hx hC => sp_for_ind (p := fun _ C => sp_iv _ C) (fun f C hf hC => sp_iv_A hC (sp_mulm hx (h f hf).1) (sp_mulm hx (h f hf).2)) hC) hC
theorem sp_movAB_iv {a b C : sp_C} (ha : sp_ok a) (h : sp_ok b) (hC : sp_iv (a.2.1.length * b.2.1.length) C) : sp_iv (a.2.1.length * b.2.1.length) (sp_movAB a b C) := by
  unfold sp_movAB
  exact sp_for_ind (p := fun _ C => sp_iv _ C) (fun e C he hC => sp_for_ind (p := fun _ C => sp_iv _ C) (fun f C hf hC => sp_iv_A hC (sp_mulm (ha e he).1 (h f hf).1) (sp_mulm (ha e he).2 (h f hf).2)) hC) hC
theorem sp_prod_gd {a b : sp_C} {c : Nat} (ha : sp_ok a) (hb : sp_ok b) : sp_gd (sp_prod a b c sp_0) := by
  apply sp_iv_gd (N := a.2.1.length * b.2.1.length)
  have h1 := sp_nv_iv (sp_pairN_nv (a := a) (b := b))
  have h2 := sp_movB_iv hb (sp_movA_iv ha h1)
  unfold sp_prod
  split
  · exact h2
  · refine sp_movAB_iv ha hb ?_
    split
    · exact h1
    · exact h2
theorem fi_A_n {Ca : sp_C} {ts : List sp_Te} {tc : Option Nat} {md : Nat} {X : sp_F} {i n m : Nat} (hX : fi_ok X n m) (h : ∀ q, q ∈ X.1.2.2.1 → q.1 < X.1.2.1.length ∧ q.2.1 < X.1.2.1.length) : ∀ q, q ∈ (fi_A Ca ts tc md X i).1.2.2.1 → q.1 < (fi_A Ca ts tc md X i).1.2.1.length ∧ q.2.1 < (fi_A Ca ts tc md X i).1.2.1.length := by
  unfold fi_A
  split
  · split
    next x y hx hy =>
      split
      · intro q hq
        rcases List.mem_append.mp hq with hq | hq
        · exact h q hq
        · rw [List.mem_singleton] at hq
          subst hq
          exact ⟨hX.2.2.2.2.2 _ _ hx, hX.2.2.2.2.2 _ _ hy⟩
      · split
        · exact h
        · unfold fi_bad
          split
          · exact h
          · exact h
    next => exact h
  · exact h
theorem fi_N_n {Ca : sp_C} {ts : List sp_Te} {tc : Option Nat} {md : Nat} {X : sp_F} {i : Nat} (h : X.1.2.2.1 = []) : (fi_N Ca ts tc md X i).1.2.2.1 = [] := by
  unfold fi_N
  split
  · split
    · exact h
    · split
      · exact h
      · unfold fi_bad
        split
        · exact h
        · exact h
  · exact h
theorem sp_fil_gd {Ca : sp_C} {ts : List sp_Te} {tb tc : Option Nat} {md : Nat} : sp_gd (sp_fil Ca ts tb tc md) := by
  have h1 : ∀ k, (fi_n Ca ts tb md k).1.2.2.1 = [] := by
    intro k
    induction k with
    | zero => rfl
    | succ k ih => rw [fi_n_s]; exact fi_N_n ih
  have h2 : ∀ k, ∀ q, q ∈ (fi_a Ca ts tb tc md k).1.2.2.1 → q.1 < (fi_a Ca ts tb tc md k).1.2.1.length ∧ q.2.1 < (fi_a Ca ts tb tc md k).1.2.1.length := by
    intro k
    induction k with
    | zero => intro q hq; have : (fi_a Ca ts tb tc md 0).1.2.2.1 = [] := h1 _
              rw [this] at hq; cases hq
    | succ k ih => rw [fi_a_s]; exact fi_A_n (fi_a_ok k) ih
  exact sp_iv_gd (N := (sp_fil Ca ts tb tc md).2.1.length) (fun _ => ⟨rfl, h2 _⟩)
theorem ga_N_mono {LB : Nat → Nat → Option Nat} {t c : Nat} {Ca : sp_C} {k : Nat} : ∀ n, k ≤ n → (ga_N LB t c Ca k).length ≤ (ga_N LB t c Ca n).length
  | 0, h => by have : k = 0 := by omega
               rw [this]; exact Nat.le_refl _
  | n + 1, h => by
    by_cases e : k = n + 1
    · rw [e]; exact Nat.le_refl _
    · have := ga_N_mono (LB := LB) (t := t) (c := c) (Ca := Ca) n (show k ≤ n by omega)
      rw [ga_N_s, List.length_append]
      omega
theorem ga_N_lt {LB : Nat → Nat → Option Nat} {t c : Nat} {Ca : sp_C} {k n : Nat} (h : (ga_hN LB t c Ca k).isSome = true) (hk : k < n) : (ga_N LB t c Ca k).length < (ga_N LB t c Ca n).length := by
  have h1 := ga_N_mono (LB := LB) (t := t) (c := c) (Ca := Ca) n (show k + 1 ≤ n by omega)
  have h2 : (ga_N LB t c Ca (k + 1)).length = (ga_N LB t c Ca k).length + 1 := by
    rw [ga_N_s, List.length_append]
    cases hh : ga_hN LB t c Ca k with
    | none => rw [hh] at h; cases h
    | some q => rfl
  omega
theorem sp_gat_gd {LB : Nat → Nat → Option Nat} {t c : Nat} {Ca : sp_C} (ho : sp_ok Ca) (hl : sp_lb LB) : sp_gd (sp_gat LB t c Ca) := by
  apply sp_iv_gd (N := (ga_N LB t c Ca 10).length)
  refine fun _ => ⟨rfl, ?_⟩
  have : ∀ k, k ≤ 100 → ∀ q, q ∈ ga_A LB t c Ca k → q.1 < (ga_N LB t c Ca 10).length ∧ q.2.1 < (ga_N LB t c Ca 10).length := by
    intro k
    induction k with
    | zero => intro _ q hq; cases hq
    | succ k ih =>
      intro hk q hq
      rw [ga_A_s] at hq
      rcases List.mem_append.mp hq with hq | hq
      · exact ih (by omega) q hq
      · cases hh : ga_hA LB t c Ca k with
        | none => rw [hh] at hq; cases hq
        | some p =>
          rw [hh] at hq
          dsimp only at hq
          rw [List.mem_singleton] at hq
          subst hq
          obtain ⟨z1, z2⟩ := ga_some (h := k) ho hl (by rw [hh]; rfl)
          exact ⟨ga_N_lt z1 (by omega), ga_N_lt z2 (by omega)⟩
  exact this 100 (Nat.le_refl _)
theorem sp_view_gd {LB : Nat → Nat → Option Nat} {ts : List sp_Te} {k : Nat} {cb cc cd : Int32} {Ca Cb : sp_C} (hl : sp_lb LB) (ha : sp_gd Ca) (hb : sp_gd Cb) : sp_gd (sp_view LB ts k cb cc cd Ca Cb) := by
  unfold sp_view
  split
  next h => exact fun q => absurd q h
  next h =>
    split
    next h => exact fun q => absurd q h
    next h' =>
      have oa := ha (Classical.not_not.mp h)
      have ob := hb (Classical.not_not.mp h')
      split
      · exact sp_fil_gd
      · split
        · exact sp_turn_gd oa
        · split
          · exact sp_join_gd oa ob
          · split
            · exact sp_less_gd oa
            · split
              · exact sp_prod_gd oa ob
              · split
                · exact sp_lines_gd
                · exact sp_gat_gd oa hl
