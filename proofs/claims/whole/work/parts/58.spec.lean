/-! ===== WHAT BOTH ARE ABOUT: contents of graphs as lists ===== -/
/-- a node: its value, whence it came of a, of b -/
abbrev sp_N : Type := Int64 × Option Nat × Option Nat
/-- an arc: from, to, value, whence it came -/
abbrev sp_A : Type := Nat × Nat × Int64 × Option Nat × Option Nat
/-- what a graph has: failure, nodes, arcs, hidden ones (what, number, failure) -/
abbrev sp_C : Type := Nat × List sp_N × List sp_A × List (Nat × Nat × Nat)
def sp_0 : sp_C := (0, [], [], [])
def sp_brk (C : sp_C) (f : Nat) : sp_C := (if C.1 = 0 then f else C.1, C.2)
def sp_addN (C : sp_C) (q : sp_N) : sp_C := if C.2.1.length = 40 then sp_brk C 4 else if C.1 = 0 then (C.1, C.2.1 ++ [q], C.2.2) else C
def sp_addA (C : sp_C) (q : sp_A) : sp_C := if C.2.2.1.length = 120 then sp_brk C 4 else if C.1 = 0 then (C.1, C.2.1, C.2.2.1 ++ [q], C.2.2.2) else C
def sp_dN : sp_N := (0, none, none)
def sp_dA : sp_A := (0, 0, 0, none, none)
def sp_nd (C : sp_C) (i : Nat) : sp_N := C.2.1.getD i sp_dN
def sp_ar (C : sp_C) (e : Nat) : sp_A := C.2.2.1.getD e sp_dA
/-- f over k, k + 1 .. (m of them) -/
def sp_for {α : Type} (f : α → Nat → α) : Nat → Nat → α → α
  | 0, _, x => x
  | m + 1, k, x => sp_for f m (k + 1) (f x k)
theorem sp_for_0 {α : Type} (f : α → Nat → α) (k : Nat) (x : α) : sp_for f 0 k x = x := rfl
theorem sp_for_s {α : Type} (f : α → Nat → α) (m k : Nat) (x : α) : sp_for f (m + 1) k x = sp_for f m (k + 1) (f x k) := rfl
def sp_copyN (a C : sp_C) : sp_C := sp_for (fun C i => sp_addN C ((sp_nd a i).1, some i, none)) a.2.1.length 0 C
def sp_turn (a C : sp_C) : sp_C := sp_for (fun C e => sp_addA C ((sp_ar a e).2.1, (sp_ar a e).1, (sp_ar a e).2.2.1, some e, none)) a.2.2.1.length 0 (sp_copyN a C)
/-- a node for each pair -/
def sp_pairN (a b C : sp_C) : sp_C := sp_for (fun C x => sp_for (fun C y => sp_addN C ((sp_nd a x).1 + (sp_nd b y).1, some x, some y)) b.2.1.length 0 C) a.2.1.length 0 C
def sp_movA (a b C : sp_C) : sp_C := sp_for (fun C e => sp_for (fun C y => sp_addA C ((sp_ar a e).1 * b.2.1.length + y, (sp_ar a e).2.1 * b.2.1.length + y, (sp_ar a e).2.2.1, some e, none)) b.2.1.length 0 C) a.2.2.1.length 0 C
def sp_movB (a b C : sp_C) : sp_C := sp_for (fun C x => sp_for (fun C f => sp_addA C (x * b.2.1.length + (sp_ar b f).1, x * b.2.1.length + (sp_ar b f).2.1, (sp_ar b f).2.2.1, none, some f)) b.2.2.1.length 0 C) a.2.1.length 0 C
def sp_movAB (a b C : sp_C) : sp_C := sp_for (fun C e => sp_for (fun C f => sp_addA C ((sp_ar a e).1 * b.2.1.length + (sp_ar b f).1, (sp_ar a e).2.1 * b.2.1.length + (sp_ar b f).2.1, (sp_ar a e).2.2.1 * (sp_ar b f).2.2.1, some e, some f)) b.2.2.1.length 0 C) a.2.2.1.length 0 C
/-! how each side writes whence an item came -/
def sp_eC (r : Option Nat) : Int32 := match r with
  | none => -1
  | some i => nI i
def sp_eM (r : Option Nat) : Int32 := match r with
  | none => -1000004
  | some i => nI i
/-! ===== what may have changed ===== -/
/-- nothing but numbers in the cells of P -/
def sp_fr (P : Nat → Prop) (S S' : pm_T) : Prop := pm_nx S' = pm_nx S ∧ (pm_sz S' = pm_sz S ∧ ∀ b k, pm_sh S b = .inr 0 → k ≠ 5 → pm_gi S' b k = pm_gi S b k) ∧ (∀ b, pm_sh S' b = pm_sh S b) ∧ (∀ b k, pm_gr S' b k = pm_gr S b k) ∧ (∀ b k, pm_zr S' b k = pm_zr S b k) ∧ ∀ b, ¬ P b → (∀ k, pm_gi S' b k = pm_gi S b k) ∧ (∀ k, pm_gl S' b k = pm_gl S b k) ∧ (∀ k, pm_zi S' b k = pm_zi S b k) ∧ ∀ k, pm_zl S' b k = pm_zl S b k
section
variable {P P' : Nat → Prop} {S S' S'' : pm_T} {a k : Nat} {x : Int32} {v : Int64}
theorem sp_fr.rf : sp_fr P S S := ⟨rfl, ⟨rfl, fun _ _ _ _ => rfl⟩, fun _ => rfl, fun _ _ => rfl, fun _ _ => rfl, fun _ _ => ⟨fun _ => rfl, fun _ => rfl, fun _ => rfl, fun _ => rfl⟩⟩
theorem sp_fr.tr (h : sp_fr P S S') (h' : sp_fr P S' S'') : sp_fr P S S'' :=
  ⟨h'.1.trans h.1, ⟨h'.2.1.1.trans h.2.1.1, fun b k q1 q2 => (h'.2.1.2 b k ((h.2.2.1 b).trans q1) q2).trans (h.2.1.2 b k q1 q2)⟩, fun b => (h'.2.2.1 b).trans (h.2.2.1 b), fun b k => (h'.2.2.2.1 b k).trans (h.2.2.2.1 b k), fun b k => (h'.2.2.2.2.1 b k).trans (h.2.2.2.2.1 b k), fun b hb =>
    ⟨fun k => ((h'.2.2.2.2.2 b hb).1 k).trans ((h.2.2.2.2.2 b hb).1 k), fun k => ((h'.2.2.2.2.2 b hb).2.1 k).trans ((h.2.2.2.2.2 b hb).2.1 k), fun k => ((h'.2.2.2.2.2 b hb).2.2.1 k).trans ((h.2.2.2.2.2 b hb).2.2.1 k), fun k => ((h'.2.2.2.2.2 b hb).2.2.2 k).trans ((h.2.2.2.2.2 b hb).2.2.2 k)⟩⟩
theorem sp_fr.mono (h : sp_fr P S S') (hP : ∀ b, P b → P' b) : sp_fr P' S S' := ⟨h.1, h.2.1, h.2.2.1, h.2.2.2.1, h.2.2.2.2.1, fun b hb => h.2.2.2.2.2 b (fun q => hb (hP b q))⟩
theorem sh_ne {c : Nat} (h : pm_sh S a = .inr c) (hc : c ≠ 0) : pm_sh S a = .inr 0 → k = 5 := fun q => absurd (Sum.inr.inj (h.symm.trans q)) hc
theorem sp_fr.gi (ha : P a) (hk : pm_sh S a = .inr 0 → k = 5) : sp_fr P S (pm_sgi S a k x) := ⟨rfl, ⟨rfl, fun b j q1 q2 => by rw [ps_gi_gi, if_neg (show ¬ (b = a ∧ j = k) from fun q => q2 (q.2.trans (hk (q.1 ▸ q1))))]⟩, fun _ => rfl, fun _ _ => rfl, fun _ _ => rfl, fun b hb => ⟨fun j => by rw [ps_gi_gi, if_neg (show ¬ (b = a ∧ j = k) from fun q => hb (q.1 ▸ ha))], fun _ => rfl, fun _ => rfl, fun _ => rfl⟩⟩
theorem sp_fr.gl (ha : P a) : sp_fr P S (pm_sgl S a k v) := ⟨rfl, ⟨rfl, fun _ _ _ _ => rfl⟩, fun _ => rfl, fun _ _ => rfl, fun _ _ => rfl, fun b hb => ⟨fun _ => rfl, fun j => by rw [ps_gl_gl, if_neg (show ¬ (b = a ∧ j = k) from fun q => hb (q.1 ▸ ha))], fun _ => rfl, fun _ => rfl⟩⟩
theorem sp_fr.zi (ha : P a) : sp_fr P S (pm_szi S a k x) := ⟨rfl, ⟨rfl, fun _ _ _ _ => rfl⟩, fun _ => rfl, fun _ _ => rfl, fun _ _ => rfl, fun b hb => ⟨fun _ => rfl, fun _ => rfl, fun j => by rw [ps_zi_zi, if_neg (show ¬ (b = a ∧ j = k) from fun q => hb (q.1 ▸ ha))], fun _ => rfl⟩⟩
theorem sp_fr.zl (ha : P a) : sp_fr P S (pm_szl S a k v) := ⟨rfl, ⟨rfl, fun _ _ _ _ => rfl⟩, fun _ => rfl, fun _ _ => rfl, fun _ _ => rfl, fun b hb => ⟨fun _ => rfl, fun _ => rfl, fun _ => rfl, fun j => by rw [ps_zl_zl, if_neg (show ¬ (b = a ∧ j = k) from fun q => hb (q.1 ▸ ha))]⟩⟩
end
