/-! ===== THE PURE MACHINE: a function over numbers and lists that says what bytecode does; part 03 ties it to the real one ===== -/
/-- a cell: an array (number of its type, length, contents) or an object (number of its class, fields). Types: 0 int, 1 long, 2 boolean, 3 rows of ints, 4 references; 9 the script; any other: no cell of ours -/
abbrev pm_E : Type := (Nat × vp_A) ⊕ (Nat × List Value)
/-- the next address, the slots made so far, the cells -/
abbrev pm_H : Type := Nat × Nat × (Nat → pm_E)
def pm_m (i : Nat) : pm_MT := pm_ms.getD i (0, yL_law, ⟨#[]⟩, 0, none, 9, 0)
def pm_own (i : Nat) : Nat := (pm_m i).1
def pm_y (i : Nat) : MethodName := (pm_m i).2.1
def pm_by (i : Nat) : ByteArray := (pm_m i).2.2.1
def pm_mx (i : Nat) : Nat := (pm_m i).2.2.2.1
def pm_rt (i : Nat) : Option FieldType := (pm_m i).2.2.2.2.1
def pm_kd (i : Nat) : Nat := (pm_m i).2.2.2.2.2.1
def pm_np (i : Nat) : Nat := (pm_m i).2.2.2.2.2.2
def pm_cd (i pc : Nat) : Option (Instr × Nat) := match decode (pm_by i) pc with
  | .ok x => some x
  | .error _ => none
def pm_key (i idx : Nat) : Nat := if idx < 1000 then pm_own i * 1000 + idx else 999999
def pm_up {α : Type} (f : Nat → α) (a : Nat) (v : α) : Nat → α := fun q => if q = a then v else f q
/-- a local that holds nothing -/
abbrev pm_j : Value := .retAddr 0
def pm_clr (L : List Value) (i : Nat) : List Value := match i with
  | 0 => L
  | k + 1 => match L[k]? with
    | some (.long _) => L.set k pm_j
    | some (.double _) => L.set k pm_j
    | _ => L
def pm_st1 (L : List Value) (i : Nat) (v : Value) : Option (List Value) := if i < L.length then some ((pm_clr L i).set i v) else none
def pm_st2 (L : List Value) (i : Nat) (v : Value) : Option (List Value) := if i + 1 < L.length then some (((pm_clr L i).set i v).set (i + 1) pm_j) else none
def pm_to (pc : Nat) (off : Int) : Option Nat := if 0 ≤ (pc : Int) + off then some ((pc : Int) + off).toNat else none
def pm_br (c : Prop) [Decidable c] (pc : Nat) (off : Int) : Option Nat := if c then pm_to pc off else some (pc + 3)
def pm_cnd (c : Jvm.ClassFile.Cond) (x y : Int32) : Bool := match c with
  | .eq => decide (x = y)
  | .ne => decide (¬ x = y)
  | .lt => decide (x < y)
  | .ge => decide (y ≤ x)
  | .gt => decide (y < x)
  | .le => decide (x ≤ y)
/-- what touches neither the heap nor the pool: the next place, the locals, the stack -/
def pm_sA (ins : Instr) (len pc : Nat) (L st : List Value) : Option (Nat × List Value × List Value) := match ins with
  | .iconst n => some (pc + 1, L, .int (Int32.ofInt n) :: st)
  | .bipush n => some (pc + 2, L, .int (Int8.ofInt n).toInt32 :: st)
  | .sipush n => some (pc + 3, L, .int (Int16.ofInt n).toInt32 :: st)
  | .lconst n => some (pc + 1, L, .long (Int64.ofNat (n : Nat)) :: st)
  | .aconst_null => some (pc + 1, L, .null :: st)
  | .iload_n k => match L[(k : Nat)]? with
    | some (.int x) => some (pc + 1, L, .int x :: st)
    | _ => none
  | .iload k => match L[k]? with
    | some (.int x) => some (pc + 2, L, .int x :: st)
    | _ => none
  | .lload_n k => match L[(k : Nat)]? with
    | some (.long x) => some (pc + 1, L, .long x :: st)
    | _ => none
  | .lload k => match L[k]? with
    | some (.long x) => some (pc + 2, L, .long x :: st)
    | _ => none
  | .aload_n k => match L[(k : Nat)]? with
    | some (.ref x) => some (pc + 1, L, .ref x :: st)
    | some .null => some (pc + 1, L, .null :: st)
    | _ => none
  | .aload k => match L[k]? with
    | some (.ref x) => some (pc + 2, L, .ref x :: st)
    | some .null => some (pc + 2, L, .null :: st)
    | _ => none
  | .istore_n k => match st with
    | .int x :: r => (pm_st1 L k (.int x)).map fun L' => (pc + 1, L', r)
    | _ => none
  | .istore k => match st with
    | .int x :: r => (pm_st1 L k (.int x)).map fun L' => (pc + 2, L', r)
    | _ => none
  | .lstore_n k => match st with
    | .long x :: r => (pm_st2 L k (.long x)).map fun L' => (pc + 1, L', r)
    | _ => none
  | .lstore k => match st with
    | .long x :: r => (pm_st2 L k (.long x)).map fun L' => (pc + 2, L', r)
    | _ => none
  | .astore_n k => match st with
    | .ref x :: r => (pm_st1 L k (.ref x)).map fun L' => (pc + 1, L', r)
    | .null :: r => (pm_st1 L k .null).map fun L' => (pc + 1, L', r)
    | _ => none
  | .astore k => match st with
    | .ref x :: r => (pm_st1 L k (.ref x)).map fun L' => (pc + 2, L', r)
    | .null :: r => (pm_st1 L k .null).map fun L' => (pc + 2, L', r)
    | _ => none
  | .iinc k n => match L[k]? with
    | some (.int x) => (pm_st1 L k (.int (x + Int32.ofInt n))).map fun L' => (pc + 3, L', st)
    | _ => none
  | .iadd => match st with
    | .int y :: .int x :: r => some (pc + 1, L, .int (x + y) :: r)
    | _ => none
  | .isub => match st with
    | .int y :: .int x :: r => some (pc + 1, L, .int (x - y) :: r)
    | _ => none
  | .imul => match st with
    | .int y :: .int x :: r => some (pc + 1, L, .int (x * y) :: r)
    | _ => none
  | .iand => match st with
    | .int y :: .int x :: r => some (pc + 1, L, .int (x &&& y) :: r)
    | _ => none
  | .idiv => match st with
    | .int y :: .int x :: r => if y = 0 then none else some (pc + 1, L, .int (x / y) :: r)
    | _ => none
  | .irem => match st with
    | .int y :: .int x :: r => if y = 0 then none else some (pc + 1, L, .int (x - x / y * y) :: r)
    | _ => none
  | .ineg => match st with
    | .int x :: r => some (pc + 1, L, .int (-x) :: r)
    | _ => none
  | .ladd => match st with
    | .long y :: .long x :: r => some (pc + 1, L, .long (x + y) :: r)
    | _ => none
  | .lsub => match st with
    | .long y :: .long x :: r => some (pc + 1, L, .long (x - y) :: r)
    | _ => none
  | .lmul => match st with
    | .long y :: .long x :: r => some (pc + 1, L, .long (x * y) :: r)
    | _ => none
  | .land => match st with
    | .long y :: .long x :: r => some (pc + 1, L, .long (x &&& y) :: r)
    | _ => none
  | .lor => match st with
    | .long y :: .long x :: r => some (pc + 1, L, .long (x ||| y) :: r)
    | _ => none
  | .lxor => match st with
    | .long y :: .long x :: r => some (pc + 1, L, .long (x ^^^ y) :: r)
    | _ => none
  | .lrem => match st with
    | .long y :: .long x :: r => if y = 0 then none else some (pc + 1, L, .long (x - x / y * y) :: r)
    | _ => none
  | .lshl => match st with
    | .int y :: .long x :: r => some (pc + 1, L, .long (x <<< (y.toInt64 &&& 63)) :: r)
    | _ => none
  | .lshr => match st with
    | .int y :: .long x :: r => some (pc + 1, L, .long (x >>> (y.toInt64 &&& 63)) :: r)
    | _ => none
  | .lushr => match st with
    | .int y :: .long x :: r => some (pc + 1, L, .long (x.toUInt64 >>> (y.toInt64.toUInt64 &&& Int64.toUInt64 63)).toInt64 :: r)
    | _ => none
  | .lcmp => match st with
    | .long y :: .long x :: r => some (pc + 1, L, .int (lg_cmp x y) :: r)
    | _ => none
  | .i2l => match st with
    | .int x :: r => some (pc + 1, L, .long x.toInt64 :: r)
    | _ => none
  | .l2i => match st with
    | .long x :: r => some (pc + 1, L, .int x.toInt32 :: r)
    | _ => none
  | .dup => match st with
    | .int x :: r => some (pc + 1, L, .int x :: .int x :: r)
    | .ref x :: r => some (pc + 1, L, .ref x :: .ref x :: r)
    | _ => none
  | .dup2 => match st with
    | .int x :: .ref a :: r => some (pc + 1, L, .int x :: .ref a :: .int x :: .ref a :: r)
    | _ => none
  | .pop => match st with
    | .int _ :: r => some (pc + 1, L, r)
    | .ref _ :: r => some (pc + 1, L, r)
    | _ => none
  | .goto off => (pm_to pc off).map fun t => (t, L, st)
  | .ifCond c off => match st with
    | .int x :: r => (pm_br (pm_cnd c x 0 = true) pc off).map fun t => (t, L, r)
    | _ => none
  | .if_icmp c off => match st with
    | .int y :: .int x :: r => (pm_br (pm_cnd c x y = true) pc off).map fun t => (t, L, r)
    | _ => none
  | .ifnull off => match st with
    | .null :: r => (pm_to pc off).map fun t => (t, L, r)
    | .ref _ :: r => some (pc + 3, L, r)
    | _ => none
  | .ifnonnull off => match st with
    | .null :: r => some (pc + 3, L, r)
    | .ref _ :: r => (pm_to pc off).map fun t => (t, L, r)
    | _ => none
  | .tableswitch dflt lo hi offs => match st with
    | .int x :: r => if x.toInt < lo ∨ hi < x.toInt then (pm_to pc dflt).map fun t => (t, L, r) else (match offs[(x.toInt - lo).toNat]? with
      | some off => (pm_to pc off).map fun t => (t, L, r)
      | none => none)
    | _ => none
  | _ => none
def pm_len (ins : Instr) (len : Nat) : Bool := match ins with
  | .tableswitch _ _ _ _ => true
  | .multianewarray _ _ => len == 4
  | .bipush _ | .iload _ | .lload _ | .aload _ | .istore _ | .lstore _ | .astore _ | .newarray _ | .ldc _ => len == 2
  | .sipush _ | .iinc _ _ | .goto _ | .ifCond _ _ | .if_icmp _ _ | .ifnull _ | .ifnonnull _ | .getfield _ | .putfield _ | .new _ | .anewarray _ | .ldc_w _ | .ldc2_w _ | .invokevirtual _ | .invokespecial _ | .invokestatic _ => len == 3
  | _ => len == 1
/-- a value that a field of a type may hold -/
def pm_fit (ty : FieldType) (v : Value) : Bool := match ty, v with
  | .int, .int _ => true
  | .boolean, .int x => x == 0 || x == 1
  | .long, .long _ => true
  | .object _, .ref _ => true
  | .object _, .null => true
  | .array _, .ref _ => true
  | .array _, .null => true
  | _, _ => false
def pm_fin (c k : Nat) : Bool := match pm_cl[c]? with
  | some q => (q.2.1 k).2.2.2
  | none => true
def pm_dv (ty : FieldType) : Value := defaultValue ty
def pm_in (x : Int32) (n : Nat) : Bool := decide (0 ≤ x) && decide (x.toNatClampNeg < n)
/-- what touches the heap or the pool -/
def pm_sB (i : Nat) (ins : Instr) (pc : Nat) (st : List Value) (h : pm_H) : Option (Nat × List Value × pm_H) := match ins with
  | .ldc idx => (pm_kc.lookup (pm_key i idx)).map fun v => (pc + 2, .int v :: st, h)
  | .ldc_w idx => (pm_kc.lookup (pm_key i idx)).map fun v => (pc + 3, .int v :: st, h)
  | .ldc2_w idx => (pm_kl.lookup (pm_key i idx)).map fun v => (pc + 3, .long v :: st, h)
  | .getfield idx => match st, pm_fl.lookup (pm_key i idx) with
    | .ref a :: r, some (c, k) => match h.2.2 a with
      | .inr (c', fs) => if c' = c then (fs[k]?).map fun v => (pc + 3, v :: r, h) else none
      | _ => none
    | _, _ => none
  | .putfield idx => match st, pm_fl.lookup (pm_key i idx) with
    | v :: .ref a :: r, some (c, k) => match h.2.2 a with
      | .inr (c', fs) => if c' = c ∧ k < fs.length ∧ pm_fit (pm_fty c k) v = true ∧ (pm_fin c k = true → pm_kd i = 2 ∧ pm_own i = c) then some (pc + 3, r, (h.1, h.2.1, pm_up h.2.2 a (.inr (c, fs.set k v)))) else none
      | _ => none
    | _, _ => none
  | .iaload => match st with
    | .int x :: .ref a :: r => match h.2.2 a with
      | .inl (t, n, .inl z) => if (t = 0 ∨ t = 9) ∧ pm_in x n = true then some (pc + 1, .int (z x.toNatClampNeg) :: r, h) else none
      | _ => none
    | _ => none
  | .baload => match st with
    | .int x :: .ref a :: r => match h.2.2 a with
      | .inl (t, n, .inl z) => if t = 2 ∧ pm_in x n = true then some (pc + 1, .int (z x.toNatClampNeg) :: r, h) else none
      | _ => none
    | _ => none
  | .laload => match st with
    | .int x :: .ref a :: r => match h.2.2 a with
      | .inl (t, n, .inr (.inl z)) => if t = 1 ∧ pm_in x n = true then some (pc + 1, .long (z x.toNatClampNeg) :: r, h) else none
      | _ => none
    | _ => none
  | .aaload => match st with
    | .int x :: .ref a :: r => match h.2.2 a with
      | .inl (t, n, .inr (.inr (.inr (.inr z)))) => if (t = 3 ∨ t = 4) ∧ pm_in x n = true then some (pc + 1, va_rf (z x.toNatClampNeg) :: r, h) else none
      | _ => none
    | _ => none
  | .iastore => match st with
    | .int v :: .int x :: .ref a :: r => match h.2.2 a with
      | .inl (t, n, .inl z) => if t = 0 ∧ pm_in x n = true then some (pc + 1, r, (h.1, h.2.1, pm_up h.2.2 a (.inl (t, n, .inl (pm_up z x.toNatClampNeg v))))) else none
      | _ => none
    | _ => none
  | .bastore => match st with
    | .int v :: .int x :: .ref a :: r => match h.2.2 a with
      | .inl (t, n, .inl z) => if t = 2 ∧ pm_in x n = true ∧ (v = 0 ∨ v = 1) then some (pc + 1, r, (h.1, h.2.1, pm_up h.2.2 a (.inl (t, n, .inl (pm_up z x.toNatClampNeg v))))) else none
      | _ => none
    | _ => none
  | .lastore => match st with
    | .long v :: .int x :: .ref a :: r => match h.2.2 a with
      | .inl (t, n, .inr (.inl z)) => if t = 1 ∧ pm_in x n = true then some (pc + 1, r, (h.1, h.2.1, pm_up h.2.2 a (.inl (t, n, .inr (.inl (pm_up z x.toNatClampNeg v)))))) else none
      | _ => none
    | _ => none
  | .aastore => match st with
    | .ref v :: .int x :: .ref a :: r => match h.2.2 a, h.2.2 v with
      | .inl (t, n, .inr (.inr (.inr (.inr z)))), .inr (c, _) => if t = 4 ∧ c = 0 ∧ pm_in x n = true then some (pc + 1, r, (h.1, h.2.1, pm_up h.2.2 a (.inl (t, n, .inr (.inr (.inr (.inr (pm_up z x.toNatClampNeg (some v))))))))) else none
      | _, _ => none
    | _ => none
  | .arraylength => match st with
    | .ref a :: r => match h.2.2 a with
      | .inl (t, x) => if t < 5 ∨ t = 9 then some (pc + 1, .int (Int32.ofNat x.1) :: r, h) else none
      | _ => none
    | _ => none
  | .new idx => (pm_lc.lookup (pm_key i idx)).bind fun c => (pm_cl[c]?).map fun q => (pc + 3, .ref h.1 :: st, (h.1 + 1, h.2.1 + q.2.2, pm_up h.2.2 h.1 (.inr (c, (List.range q.2.2).map fun k => pm_dv (pm_fty c k)))))
  | .newarray ty => match st with
    | .int x :: r => if 0 ≤ x ∧ x.toNatClampNeg ≤ 60000 then (match ty with
      | .int => some (pc + 2, .ref h.1 :: r, (h.1 + 1, h.2.1 + x.toNatClampNeg, pm_up h.2.2 h.1 (.inl (0, x.toNatClampNeg, .inl fun _ => 0))))
      | .long => some (pc + 2, .ref h.1 :: r, (h.1 + 1, h.2.1 + x.toNatClampNeg, pm_up h.2.2 h.1 (.inl (1, x.toNatClampNeg, .inr (.inl fun _ => 0)))))
      | .boolean => some (pc + 2, .ref h.1 :: r, (h.1 + 1, h.2.1 + x.toNatClampNeg, pm_up h.2.2 h.1 (.inl (2, x.toNatClampNeg, .inl fun _ => 0))))
      | _ => none) else none
    | _ => none
  | .anewarray idx => match st with
    | .int x :: r => if pm_lc.lookup (pm_key i idx) = some 0 ∧ 0 ≤ x ∧ x.toNatClampNeg ≤ 60000 then some (pc + 3, .ref h.1 :: r, (h.1 + 1, h.2.1 + x.toNatClampNeg, pm_up h.2.2 h.1 (.inl (4, x.toNatClampNeg, .inr (.inr (.inr (.inr fun _ => none))))))) else none
    | _ => none
  | .multianewarray idx dims => match st with
    | .int k :: .int x :: r => if pm_key i idx = pm_mul ∧ dims = 2 ∧ 0 ≤ x ∧ 0 ≤ k ∧ x.toNatClampNeg ≤ 60000 ∧ k.toNatClampNeg ≤ 60000 then some (pc + 4, .ref h.1 :: r, (h.1 + 1 + x.toNatClampNeg, h.2.1 + x.toNatClampNeg + x.toNatClampNeg * k.toNatClampNeg,
        fun q => if q = h.1 then .inl (3, x.toNatClampNeg, .inr (.inr (.inr (.inr fun j => if j < x.toNatClampNeg then some (h.1 + 1 + j) else none)))) else if h.1 < q ∧ q < h.1 + 1 + x.toNatClampNeg then .inl (0, k.toNatClampNeg, .inl fun _ => 0) else h.2.2 q)) else none
    | _ => none
  | .invokespecial idx => match st with
    | .ref _ :: r => if (pm_key i idx) ∈ pm_mo ∧ (r.map Value.category).sum ≤ 8 then some (pc + 3, r, h) else none
    | _ => none
  | _ => none
/-- a call: the method, its arguments, what stays on the stack -/
def pm_cal (i : Nat) (ins : Instr) (st : List Value) (h : pm_H) : Option (Nat × List Value × List Value) := match ins with
  | .invokestatic idx => match pm_ml.lookup (pm_key i idx) with
    | some j => if pm_kd j = 0 ∧ (st.take (pm_np j)).length = pm_np j ∧ ((st.drop (pm_np j)).map Value.category).sum ≤ 8 then some (j, (st.take (pm_np j)).reverse, st.drop (pm_np j)) else none
    | none => none
  | .invokevirtual idx => match (match pm_ml.lookup (pm_key i idx) with
      | some j => some j
      | none => pm_nl.lookup (pm_key i idx)) with
    | some j => match st.drop (pm_np j) with
      | .ref a :: r => match h.2.2 a with
        | .inr (c, _) => if pm_kd j = 1 ∧ c = pm_own j ∧ (st.take (pm_np j)).length = pm_np j ∧ (r.map Value.category).sum ≤ 8 then some (j, .ref a :: (st.take (pm_np j)).reverse, r) else none
        | _ => none
      | _ => none
    | none => none
  | .invokespecial idx => match (match pm_ml.lookup (pm_key i idx) with
      | some j => some j
      | none => pm_nl.lookup (pm_key i idx)) with
    | some j => match st.drop (pm_np j) with
      | .ref a :: r => if pm_kd j = 2 ∧ (st.take (pm_np j)).length = pm_np j ∧ (r.map Value.category).sum ≤ 8 then some (j, .ref a :: (st.take (pm_np j)).reverse, r) else none
      | _ => none
    | none => none
  | _ => none
def pm_ret (i : Nat) (ins : Instr) (st : List Value) : Option (Option Value) := match ins with
  | .ireturn => match st, pm_rt i with
    | [.int v], some .int => some (some (.int v))
    | [.int v], some .boolean => if v = 0 ∨ v = 1 then some (some (.int v)) else none
    | _, _ => none
  | .lreturn => match st, pm_rt i with
    | [.long v], some .long => some (some (.long v))
    | _, _ => none
  | .areturn => match st, pm_rt i with
    | [.ref a], some (.object _) => some (some (.ref a))
    | [.null], some (.object _) => some (some .null)
    | [.ref a], some (.array _) => some (some (.ref a))
    | _, _ => none
  | .return_ => match st, pm_rt i with
    | [], none => some none
    | _, _ => none
  | _ => none
def pm_sl : List Value → List Value
  | [] => []
  | .long x :: r => .long x :: pm_j :: pm_sl r
  | .double x :: r => .double x :: pm_j :: pm_sl r
  | v :: r => v :: pm_sl r
def pm_ent (as : List Value) (n : Nat) : List Value := pm_sl as ++ List.replicate (n - (pm_sl as).length) pm_j
/-- fuel, depth, method, place, locals, stack, heap -/
def pm_ex : Nat → Nat → Nat → Nat → List Value → List Value → pm_H → Option (Option Value × pm_H)
  | 0, _, _, _, _, _, _ => none
  | n + 1, d, i, pc, L, st, h =>
    match pm_cd i pc with
    | none => none
    | some (ins, len) =>
      if pm_len ins len = true then
        match pm_cal i ins st h with
        | some (j, as, rest) =>
          match d with
          | 0 => none
          | d' + 1 =>
            if (pm_sl as).length ≤ pm_mx j then
              match pm_ex n d' j 0 (pm_ent as (pm_mx j)) [] h with
              | none => none
              | some (r, h') => pm_ex n (d' + 1) i (pc + 3) L (r.toList ++ rest) h'
            else none
        | none =>
          match pm_ret i ins st with
          | some r => some (r, h)
          | none =>
            match pm_sA ins len pc L st with
            | some (pc', L', st') => pm_ex n d i pc' L' st' h
            | none =>
              match pm_sB i ins pc st h with
              | some (pc', st', h') => pm_ex n d i pc' L st' h'
              | none => none
      else none
