/-! ===== FILTER: the spec ===== -/
def sp_c (st : Nat × Nat) (x : Nat × (Nat × Nat)) : Prop := st.2 ≤ x.2.2 ∧ (x.1 = 11 ∨ x.1 = 12 → st.2 + 1 ≤ x.2.2)
theorem sp_c_i {st : Nat × Nat} {r s : Nat} (h : r ≠ 11 ∧ r ≠ 12) : sp_c st (r, (s, st.2)) := ⟨Nat.le_refl _, fun q => by have : r = 11 ∨ r = 12 := q; omega⟩
theorem sp_leaf_c {sort many : Nat} {c v : Int64} {st : Nat × Nat} : sp_c st (sp_leaf sort c v many st) := by
  unfold sp_leaf sp_fl sp_c
  repeat' split
  all_goals (dsimp only; omega)
theorem sp_nxt_c {f : Nat → Nat × Nat → Nat × (Nat × Nat)} {C : sp_C} {i : Nat} (hf : ∀ j st, sp_c st (f j st)) : ∀ m e st, sp_c st (sp_nxt f C i m e st)
  | 0, e, st => sp_c_i (r := 0) (s := st.1) (by decide)
  | m + 1, e, st => by
    unfold sp_nxt
    split
    · have hb := hf (sp_ar C e).2.1 st
      split
      next h =>
        have := sp_nxt_c (C := C) (i := i) hf m (e + 1) (f (sp_ar C e).2.1 st).2
        unfold sp_c at this hb ⊢
        exact ⟨by omega, fun q => by have := this.2 q; omega⟩
      next h => exact hb
    · exact sp_nxt_c hf m (e + 1) st
theorem sp_say_c {C : sp_C} {ts : List sp_Te} : ∀ n wh i t st, sp_c st (sp_say C ts n wh i t st)
  | 0, wh, i, t, st => sp_c_i (r := 15) (s := st.1) (by decide)
  | n + 1, wh, i, t, st => by
    unfold sp_say
    by_cases hs : 2000 ≤ st.1
    · rw [if_pos hs]
      exact sp_c_i (r := 15) (s := st.1 + 1) (by decide)
    · rw [if_neg hs]
      have hx := sp_say_c (C := C) (ts := ts) n wh i (sp_tT ts t) (st.1 + 1, st.2)
      have hu := fun st' => sp_say_c (C := C) (ts := ts) n wh i (sp_tU ts t) st'
      dsimp only
      generalize sp_say C ts n wh i (sp_tT ts t) (st.1 + 1, st.2) = x at hx
      have hx : sp_c st x := hx
      have hxu : sp_c st (sp_say C ts n wh i (sp_tU ts t) x.2) := by
        have := hu x.2
        unfold sp_c at this hx ⊢
        exact ⟨by omega, fun q => by have := this.2 q; omega⟩
      split
      · exact sp_leaf_c (st := (st.1 + 1, st.2))
      · split
        · split
          · exact sp_nxt_c (fun j st => sp_say_c n 0 j (sp_tT ts t) st) _ _ (st.1 + 1, st.2)
          · exact sp_say_c n 0 _ _ (st.1 + 1, st.2)
        · split
          · unfold sp_c at hx ⊢
            dsimp only
            refine ⟨hx.1, fun q => hx.2 ?_⟩
            split at q <;> omega
          · split
            · split
              · exact hxu
              · exact hx
            · split
              · split
                · exact hxu
                · exact hx
              · unfold sp_c at hx ⊢
                dsimp only
                refine ⟨hx.1, fun q => hx.2 ?_⟩
                split at q <;> omega
/-- contents so far, steps and failures, new numbers of nodes -/
abbrev sp_F : Type := sp_C × (Nat × Nat) × (Nat → Option Nat)
def fi_ask (Ca : sp_C) (ts : List sp_Te) (t : Option Nat) (wh i : Nat) (st : Nat × Nat) : Nat × (Nat × Nat) := match t with
  | none => (1, st)
  | some t => sp_say Ca ts 20 wh i t st
def fi_bad (md : Nat) (C : sp_C) (wh i b : Nat) : sp_C := if b = 5 ∨ md = 1 then (b, C.2) else (C.1, C.2.1, C.2.2.1, C.2.2.2 ++ [(wh, i, b)])
def fi_up (p : Nat → Option Nat) (i : Nat) (v : Option Nat) : Nat → Option Nat := fun j => if j = i then v else p j
def fi_N (Ca : sp_C) (ts : List sp_Te) (tb : Option Nat) (md : Nat) (X : sp_F) (i : Nat) : sp_F := if X.1.1 = 0 then
    (if (fi_ask Ca ts tb 0 i X.2.1).1 = 1 then ((X.1.1, X.1.2.1 ++ [((sp_nd Ca i).1, some i, none)], X.1.2.2), (fi_ask Ca ts tb 0 i X.2.1).2, fi_up X.2.2 i (some X.1.2.1.length))
    else if (fi_ask Ca ts tb 0 i X.2.1).1 = 0 then (X.1, (fi_ask Ca ts tb 0 i X.2.1).2, fi_up X.2.2 i none)
    else (fi_bad md X.1 0 i ((fi_ask Ca ts tb 0 i X.2.1).1 - 10), (fi_ask Ca ts tb 0 i X.2.1).2, fi_up X.2.2 i none)) else X
def fi_A (Ca : sp_C) (ts : List sp_Te) (tc : Option Nat) (md : Nat) (X : sp_F) (e : Nat) : sp_F := if X.1.1 = 0 then
    (match X.2.2 (sp_ar Ca e).1, X.2.2 (sp_ar Ca e).2.1 with
    | some x, some y => (if (fi_ask Ca ts tc 1 e X.2.1).1 = 1 then ((X.1.1, X.1.2.1, X.1.2.2.1 ++ [(x, y, (sp_ar Ca e).2.2.1, some e, none)], X.1.2.2.2), (fi_ask Ca ts tc 1 e X.2.1).2, X.2.2)
      else if (fi_ask Ca ts tc 1 e X.2.1).1 = 0 then (X.1, (fi_ask Ca ts tc 1 e X.2.1).2, X.2.2)
      else (fi_bad md X.1 1 e ((fi_ask Ca ts tc 1 e X.2.1).1 - 10), (fi_ask Ca ts tc 1 e X.2.1).2, X.2.2))
    | _, _ => X) else X
def fi_0 : sp_F := (sp_0, (0, 0), fun _ => none)
def fi_n (Ca : sp_C) (ts : List sp_Te) (tb : Option Nat) (md k : Nat) : sp_F := sp_for (fi_N Ca ts tb md) k 0 fi_0
def fi_a (Ca : sp_C) (ts : List sp_Te) (tb tc : Option Nat) (md k : Nat) : sp_F := sp_for (fi_A Ca ts tc md) k 0 (fi_n Ca ts tb md Ca.2.1.length)
def sp_fil (Ca : sp_C) (ts : List sp_Te) (tb tc : Option Nat) (md : Nat) : sp_C := (fi_a Ca ts tb tc md Ca.2.2.1.length).1
/-- bounds -/
def fi_ok (X : sp_F) (n m : Nat) : Prop := X.1.1 ≤ 5 ∧ X.1.2.1.length ≤ n ∧ X.1.2.2.1.length ≤ m ∧ X.1.2.2.2.length ≤ 8 ∧ (X.1.1 = 0 → X.2.1.1 ≤ 2000 ∧ X.2.1.2 ≤ 8 ∧ X.1.2.2.2.length ≤ X.2.1.2) ∧ ∀ i x, X.2.2 i = some x → x < X.1.2.1.length
theorem fi_ask_b {Ca : sp_C} {ts : List sp_Te} {t : Option Nat} {wh i : Nat} {st : Nat × Nat} (h1 : st.1 ≤ 2000) (h2 : st.2 ≤ 8) : sp_b (fi_ask Ca ts t wh i st) ∧ sp_c st (fi_ask Ca ts t wh i st) := by
  unfold fi_ask
  split
  · exact ⟨sp_b_01 (Or.inr rfl) h1 h2, sp_c_i (r := 1) (s := st.1) (by decide)⟩
  · exact ⟨sp_say_b _ _ _ _ _ h1 h2, sp_say_c _ _ _ _ _⟩
theorem fi_bad_ok {X : sp_F} {n m wh i md : Nat} {y : Nat × (Nat × Nat)} {p : Nat → Option Nat} (hX : fi_ok X n m) (h0 : X.1.1 = 0) (hb : sp_b y) (hc : sp_c X.2.1 y) (n1 : ¬ y.1 = 1) (n0 : ¬ y.1 = 0) (hp : ∀ i x, p i = some x → x < X.1.2.1.length) : fi_ok (fi_bad md X.1 wh i (y.1 - 10), y.2, p) n m := by
  obtain ⟨o1, o2, o3, o4, o5, o6⟩ := hX
  obtain ⟨b1, b2, b3, b4⟩ := hb
  obtain ⟨c1, c2⟩ := hc
  obtain ⟨p1, p2, p3⟩ := o5 h0
  unfold fi_bad
  by_cases hz : y.1 - 10 = 5 ∨ md = 1
  · rw [if_pos hz]
    exact ⟨by show y.1 - 10 ≤ 5; omega, o2, o3, o4, fun q => by have : y.1 - 10 = 0 := q; omega, hp⟩
  · rw [if_neg hz]
    have h15 : y.1 ≠ 15 := by omega
    have := b4 h15
    have := c2 (by omega)
    refine ⟨o1, o2, o3, ?_, fun _ => ⟨?_, ?_, ?_⟩, hp⟩
    · show (X.1.2.2.2 ++ [_]).length ≤ 8
      rw [List.length_append]; show _ + 1 ≤ 8; omega
    · show y.2.1 ≤ 2000; omega
    · show y.2.2 ≤ 8; omega
    · show (X.1.2.2.2 ++ [_]).length ≤ y.2.2
      rw [List.length_append]; show _ + 1 ≤ _; omega
theorem fi_N_ok {Ca : sp_C} {ts : List sp_Te} {tb : Option Nat} {md : Nat} {X : sp_F} {i n m : Nat} (hX : fi_ok X n m) : fi_ok (fi_N Ca ts tb md X i) (n + 1) m := by
  obtain ⟨o1, o2, o3, o4, o5, o6⟩ := id hX
  unfold fi_N
  by_cases h0 : X.1.1 = 0
  · rw [if_pos h0]
    obtain ⟨p1, p2, p3⟩ := o5 h0
    obtain ⟨⟨b1, b2, b3, b4⟩, c1, c2⟩ := fi_ask_b (Ca := Ca) (ts := ts) (t := tb) (wh := 0) (i := i) p1 p2
    have hb := fi_ask_b (Ca := Ca) (ts := ts) (t := tb) (wh := 0) (i := i) p1 p2
    generalize fi_ask Ca ts tb 0 i X.2.1 = y at *
    by_cases y1 : y.1 = 1
    · rw [if_pos y1]
      have := b4 (by omega)
      refine ⟨o1, ?_, o3, o4, fun _ => ⟨this.1, this.2, ?_⟩, fun j x hx => ?_⟩
      · show (X.1.2.1 ++ [_]).length ≤ n + 1
        rw [List.length_append]; show _ + 1 ≤ _; omega
      · show X.1.2.2.2.length ≤ y.2.2; omega
      · show x < (X.1.2.1 ++ [_]).length
        rw [List.length_append]
        have hx : (if j = i then some X.1.2.1.length else X.2.2 j) = some x := hx
        show x < _ + 1
        split at hx
        · cases hx; omega
        · have := o6 j x hx; omega
    · rw [if_neg y1]
      have hp : ∀ j x, fi_up X.2.2 i none j = some x → x < X.1.2.1.length := by
        intro j x hx
        have hx : (if j = i then none else X.2.2 j) = some x := hx
        split at hx
        · cases hx
        · exact o6 j x hx
      by_cases y0 : y.1 = 0
      · rw [if_pos y0]
        have := b4 (by omega)
        exact ⟨o1, by show X.1.2.1.length ≤ n + 1; omega, o3, o4, fun _ => ⟨this.1, this.2, by show X.1.2.2.2.length ≤ y.2.2; omega⟩, hp⟩
      · rw [if_neg y0]
        have := fi_bad_ok (md := md) (wh := 0) (i := i) hX h0 hb.1 hb.2 y1 y0 hp
        exact ⟨this.1, Nat.le_succ_of_le this.2.1, this.2.2⟩
  · rw [if_neg h0]
    exact ⟨o1, by omega, o3, o4, o5, o6⟩
theorem fi_A_ok {Ca : sp_C} {ts : List sp_Te} {tc : Option Nat} {md : Nat} {X : sp_F} {i n m : Nat} (hX : fi_ok X n m) : fi_ok (fi_A Ca ts tc md X i) n (m + 1) := by
  obtain ⟨o1, o2, o3, o4, o5, o6⟩ := id hX
  have same : fi_ok X n (m + 1) := ⟨o1, o2, by omega, o4, o5, o6⟩
  unfold fi_A
  by_cases h0 : X.1.1 = 0
  · rw [if_pos h0]
    obtain ⟨p1, p2, p3⟩ := o5 h0
    split
    next x y hx hy =>
      obtain ⟨⟨b1, b2, b3, b4⟩, c1, c2⟩ := fi_ask_b (Ca := Ca) (ts := ts) (t := tc) (wh := 1) (i := i) p1 p2
      have hb := fi_ask_b (Ca := Ca) (ts := ts) (t := tc) (wh := 1) (i := i) p1 p2
      generalize fi_ask Ca ts tc 1 i X.2.1 = y at *
      by_cases y1 : y.1 = 1
      · rw [if_pos y1]
        have := b4 (by omega)
        refine ⟨o1, o2, ?_, o4, fun _ => ⟨this.1, this.2, ?_⟩, o6⟩
        · show (X.1.2.2.1 ++ [_]).length ≤ m + 1
          rw [List.length_append]; show _ + 1 ≤ _; omega
        · show X.1.2.2.2.length ≤ y.2.2; omega
      · rw [if_neg y1]
        by_cases y0 : y.1 = 0
        · rw [if_pos y0]
          have := b4 (by omega)
          exact ⟨o1, o2, by show X.1.2.2.1.length ≤ m + 1; omega, o4, fun _ => ⟨this.1, this.2, by show X.1.2.2.2.length ≤ y.2.2; omega⟩, o6⟩
        · rw [if_neg y0]
          have := fi_bad_ok (md := md) (wh := 1) (i := i) hX h0 hb.1 hb.2 y1 y0 o6
          exact ⟨this.1, this.2.1, Nat.le_succ_of_le this.2.2.1, this.2.2.2⟩
    next => exact same
  · rw [if_neg h0]
    exact same
theorem fi_n_ok {Ca : sp_C} {ts : List sp_Te} {tb : Option Nat} {md : Nat} : ∀ k, fi_ok (fi_n Ca ts tb md k) k 0
  | 0 => ⟨Nat.zero_le _, Nat.le_refl _, Nat.le_refl _, Nat.zero_le _, fun _ => ⟨Nat.zero_le _, Nat.zero_le _, Nat.le_refl _⟩, fun i x h => by cases h⟩
  | k + 1 => by unfold fi_n; rw [sp_for_n]; exact fi_N_ok (fi_n_ok k)
theorem fi_a_ok {Ca : sp_C} {ts : List sp_Te} {tb tc : Option Nat} {md : Nat} : ∀ k, fi_ok (fi_a Ca ts tb tc md k) Ca.2.1.length k
  | 0 => fi_n_ok _
  | k + 1 => by unfold fi_a; rw [sp_for_n]; exact fi_A_ok (fi_a_ok k)
theorem fi_n_s {Ca : sp_C} {ts : List sp_Te} {tb : Option Nat} {md k : Nat} : fi_n Ca ts tb md (k + 1) = fi_N Ca ts tb md (fi_n Ca ts tb md k) k := by unfold fi_n; rw [sp_for_n]
theorem fi_a_s {Ca : sp_C} {ts : List sp_Te} {tb tc : Option Nat} {md k : Nat} : fi_a Ca ts tb tc md (k + 1) = fi_A Ca ts tc md (fi_a Ca ts tb tc md k) k := by unfold fi_a; rw [sp_for_n]
theorem fi_n_stay {Ca : sp_C} {ts : List sp_Te} {tb : Option Nat} {md k n : Nat} (h : (fi_n Ca ts tb md k).1.1 ≠ 0) (hk : k ≤ n) : fi_n Ca ts tb md n = fi_n Ca ts tb md k :=
  sp_for_stay (p := fun X : sp_F => X.1.1 ≠ 0) (fun X j hX => by unfold fi_N; rw [if_neg hX]) h n hk
theorem fi_a_stay {Ca : sp_C} {ts : List sp_Te} {tb tc : Option Nat} {md k n : Nat} (h : (fi_a Ca ts tb tc md k).1.1 ≠ 0) (hk : k ≤ n) : fi_a Ca ts tb tc md n = fi_a Ca ts tb tc md k :=
  sp_for_stay (p := fun X : sp_F => X.1.1 ≠ 0) (fun X j hX => by unfold fi_A; rw [if_neg hX]) h n hk
