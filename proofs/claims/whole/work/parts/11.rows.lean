/-! ===== one row an instruction, for pm_V ===== -/
section PVI
variable {d i pc tgt : Nat} {L L' st : List Value} {S : pm_T} {Q : Option Value → pm_T → Prop}
theorem pv_iconst {n : Int} {v : Int32} (hc : pm_cd i pc = some (.iconst n, 1)) (hv : Int32.ofInt n = v) : pm_V d i pc L st S Q = pm_V d i (pc + 1) L (.int v :: st) S Q := pv_A hc rfl rfl rfl (by simp only [pm_sA, hv])
theorem pv_bipush {n : Int} {v : Int32} (hc : pm_cd i pc = some (.bipush n, 2)) (hv : (Int8.ofInt n).toInt32 = v) : pm_V d i pc L st S Q = pm_V d i (pc + 2) L (.int v :: st) S Q := pv_A hc rfl rfl rfl (by simp only [pm_sA, hv])
theorem pv_sipush {n : Int} {v : Int32} (hc : pm_cd i pc = some (.sipush n, 3)) (hv : (Int16.ofInt n).toInt32 = v) : pm_V d i pc L st S Q = pm_V d i (pc + 3) L (.int v :: st) S Q := pv_A hc rfl rfl rfl (by simp only [pm_sA, hv])
theorem pv_lconst {n : Fin 2} {v : Int64} (hc : pm_cd i pc = some (.lconst n, 1)) (hv : Int64.ofNat (n : Nat) = v) : pm_V d i pc L st S Q = pm_V d i (pc + 1) L (.long v :: st) S Q := pv_A hc rfl rfl rfl (by simp only [pm_sA, hv])
theorem pv_null (hc : pm_cd i pc = some (.aconst_null, 1)) : pm_V d i pc L st S Q = pm_V d i (pc + 1) L (.null :: st) S Q := pv_A hc rfl rfl rfl (by simp only [pm_sA])
theorem pv_iload_n {k : Fin 4} {x : Int32} (hc : pm_cd i pc = some (.iload_n k, 1)) (hl : L[(k : Nat)]? = some (.int x)) : pm_V d i pc L st S Q = pm_V d i (pc + 1) L (.int x :: st) S Q := pv_A hc rfl rfl rfl (by simp only [pm_sA, hl])
theorem pv_iload {k : Nat} {x : Int32} (hc : pm_cd i pc = some (.iload k, 2)) (hl : L[k]? = some (.int x)) : pm_V d i pc L st S Q = pm_V d i (pc + 2) L (.int x :: st) S Q := pv_A hc rfl rfl rfl (by simp only [pm_sA, hl])
theorem pv_lload_n {k : Fin 4} {x : Int64} (hc : pm_cd i pc = some (.lload_n k, 1)) (hl : L[(k : Nat)]? = some (.long x)) : pm_V d i pc L st S Q = pm_V d i (pc + 1) L (.long x :: st) S Q := pv_A hc rfl rfl rfl (by simp only [pm_sA, hl])
theorem pv_lload {k : Nat} {x : Int64} (hc : pm_cd i pc = some (.lload k, 2)) (hl : L[k]? = some (.long x)) : pm_V d i pc L st S Q = pm_V d i (pc + 2) L (.long x :: st) S Q := pv_A hc rfl rfl rfl (by simp only [pm_sA, hl])
theorem pv_aload_n {k : Fin 4} {x : Nat} (hc : pm_cd i pc = some (.aload_n k, 1)) (hl : L[(k : Nat)]? = some (.ref x)) : pm_V d i pc L st S Q = pm_V d i (pc + 1) L (.ref x :: st) S Q := pv_A hc rfl rfl rfl (by simp only [pm_sA, hl])
theorem pv_aload {k : Nat} {x : Nat} (hc : pm_cd i pc = some (.aload k, 2)) (hl : L[k]? = some (.ref x)) : pm_V d i pc L st S Q = pm_V d i (pc + 2) L (.ref x :: st) S Q := pv_A hc rfl rfl rfl (by simp only [pm_sA, hl])
theorem pv_aload_nN {k : Fin 4} (hc : pm_cd i pc = some (.aload_n k, 1)) (hl : L[(k : Nat)]? = some .null) : pm_V d i pc L st S Q = pm_V d i (pc + 1) L (.null :: st) S Q := pv_A hc rfl rfl rfl (by simp only [pm_sA, hl])
theorem pv_aloadN {k : Nat} (hc : pm_cd i pc = some (.aload k, 2)) (hl : L[k]? = some .null) : pm_V d i pc L st S Q = pm_V d i (pc + 2) L (.null :: st) S Q := pv_A hc rfl rfl rfl (by simp only [pm_sA, hl])
theorem pv_istore_n {k : Fin 4} {x : Int32} (hc : pm_cd i pc = some (.istore_n k, 1)) (hl : pm_st1 L k (.int x) = some L') : pm_V d i pc L (.int x :: st) S Q = pm_V d i (pc + 1) L' st S Q := pv_A hc rfl rfl rfl (by simp only [pm_sA, hl, Option.map_some])
theorem pv_istore {k : Nat} {x : Int32} (hc : pm_cd i pc = some (.istore k, 2)) (hl : pm_st1 L k (.int x) = some L') : pm_V d i pc L (.int x :: st) S Q = pm_V d i (pc + 2) L' st S Q := pv_A hc rfl rfl rfl (by simp only [pm_sA, hl, Option.map_some])
theorem pv_lstore_n {k : Fin 4} {x : Int64} (hc : pm_cd i pc = some (.lstore_n k, 1)) (hl : pm_st2 L k (.long x) = some L') : pm_V d i pc L (.long x :: st) S Q = pm_V d i (pc + 1) L' st S Q := pv_A hc rfl rfl rfl (by simp only [pm_sA, hl, Option.map_some])
theorem pv_lstore {k : Nat} {x : Int64} (hc : pm_cd i pc = some (.lstore k, 2)) (hl : pm_st2 L k (.long x) = some L') : pm_V d i pc L (.long x :: st) S Q = pm_V d i (pc + 2) L' st S Q := pv_A hc rfl rfl rfl (by simp only [pm_sA, hl, Option.map_some])
theorem pv_astore_n {k : Fin 4} {x : Nat} (hc : pm_cd i pc = some (.astore_n k, 1)) (hl : pm_st1 L k (.ref x) = some L') : pm_V d i pc L (.ref x :: st) S Q = pm_V d i (pc + 1) L' st S Q := pv_A hc rfl rfl rfl (by simp only [pm_sA, hl, Option.map_some])
theorem pv_astore {k : Nat} {x : Nat} (hc : pm_cd i pc = some (.astore k, 2)) (hl : pm_st1 L k (.ref x) = some L') : pm_V d i pc L (.ref x :: st) S Q = pm_V d i (pc + 2) L' st S Q := pv_A hc rfl rfl rfl (by simp only [pm_sA, hl, Option.map_some])
theorem pv_astore_nN {k : Fin 4} (hc : pm_cd i pc = some (.astore_n k, 1)) (hl : pm_st1 L k .null = some L') : pm_V d i pc L (.null :: st) S Q = pm_V d i (pc + 1) L' st S Q := pv_A hc rfl rfl rfl (by simp only [pm_sA, hl, Option.map_some])
theorem pv_astoreN {k : Nat} (hc : pm_cd i pc = some (.astore k, 2)) (hl : pm_st1 L k .null = some L') : pm_V d i pc L (.null :: st) S Q = pm_V d i (pc + 2) L' st S Q := pv_A hc rfl rfl rfl (by simp only [pm_sA, hl, Option.map_some])
theorem pv_iinc {k : Nat} {n : Int} {x v : Int32} (hc : pm_cd i pc = some (.iinc k n, 3)) (h1 : L[k]? = some (.int x)) (hv : Int32.ofInt n = v) (hl : pm_st1 L k (.int (x + v)) = some L') : pm_V d i pc L st S Q = pm_V d i (pc + 3) L' st S Q := pv_A hc rfl rfl rfl (by simp only [pm_sA, h1, hv, hl, Option.map_some])
theorem pv_iadd {x y : Int32} (hc : pm_cd i pc = some (.iadd, 1)) : pm_V d i pc L (.int y :: .int x :: st) S Q = pm_V d i (pc + 1) L (.int (x + y) :: st) S Q := pv_A hc rfl rfl rfl (by simp only [pm_sA])
theorem pv_isub {x y : Int32} (hc : pm_cd i pc = some (.isub, 1)) : pm_V d i pc L (.int y :: .int x :: st) S Q = pm_V d i (pc + 1) L (.int (x - y) :: st) S Q := pv_A hc rfl rfl rfl (by simp only [pm_sA])
theorem pv_imul {x y : Int32} (hc : pm_cd i pc = some (.imul, 1)) : pm_V d i pc L (.int y :: .int x :: st) S Q = pm_V d i (pc + 1) L (.int (x * y) :: st) S Q := pv_A hc rfl rfl rfl (by simp only [pm_sA])
theorem pv_iand {x y : Int32} (hc : pm_cd i pc = some (.iand, 1)) : pm_V d i pc L (.int y :: .int x :: st) S Q = pm_V d i (pc + 1) L (.int (x &&& y) :: st) S Q := pv_A hc rfl rfl rfl (by simp only [pm_sA])
theorem pv_idiv {x y : Int32} (hc : pm_cd i pc = some (.idiv, 1)) (h0 : ¬ y = 0) : pm_V d i pc L (.int y :: .int x :: st) S Q = pm_V d i (pc + 1) L (.int (x / y) :: st) S Q := pv_A hc rfl rfl rfl (by simp only [pm_sA, if_neg h0])
theorem pv_irem {x y : Int32} (hc : pm_cd i pc = some (.irem, 1)) (h0 : ¬ y = 0) : pm_V d i pc L (.int y :: .int x :: st) S Q = pm_V d i (pc + 1) L (.int (x - x / y * y) :: st) S Q := pv_A hc rfl rfl rfl (by simp only [pm_sA, if_neg h0])
theorem pv_ineg {x : Int32} (hc : pm_cd i pc = some (.ineg, 1)) : pm_V d i pc L (.int x :: st) S Q = pm_V d i (pc + 1) L (.int (-x) :: st) S Q := pv_A hc rfl rfl rfl (by simp only [pm_sA])
theorem pv_ladd {x y : Int64} (hc : pm_cd i pc = some (.ladd, 1)) : pm_V d i pc L (.long y :: .long x :: st) S Q = pm_V d i (pc + 1) L (.long (x + y) :: st) S Q := pv_A hc rfl rfl rfl (by simp only [pm_sA])
theorem pv_lsub {x y : Int64} (hc : pm_cd i pc = some (.lsub, 1)) : pm_V d i pc L (.long y :: .long x :: st) S Q = pm_V d i (pc + 1) L (.long (x - y) :: st) S Q := pv_A hc rfl rfl rfl (by simp only [pm_sA])
theorem pv_lmul {x y : Int64} (hc : pm_cd i pc = some (.lmul, 1)) : pm_V d i pc L (.long y :: .long x :: st) S Q = pm_V d i (pc + 1) L (.long (x * y) :: st) S Q := pv_A hc rfl rfl rfl (by simp only [pm_sA])
theorem pv_land {x y : Int64} (hc : pm_cd i pc = some (.land, 1)) : pm_V d i pc L (.long y :: .long x :: st) S Q = pm_V d i (pc + 1) L (.long (x &&& y) :: st) S Q := pv_A hc rfl rfl rfl (by simp only [pm_sA])
theorem pv_lor {x y : Int64} (hc : pm_cd i pc = some (.lor, 1)) : pm_V d i pc L (.long y :: .long x :: st) S Q = pm_V d i (pc + 1) L (.long (x ||| y) :: st) S Q := pv_A hc rfl rfl rfl (by simp only [pm_sA])
theorem pv_lxor {x y : Int64} (hc : pm_cd i pc = some (.lxor, 1)) : pm_V d i pc L (.long y :: .long x :: st) S Q = pm_V d i (pc + 1) L (.long (x ^^^ y) :: st) S Q := pv_A hc rfl rfl rfl (by simp only [pm_sA])
theorem pv_lrem {x y : Int64} (hc : pm_cd i pc = some (.lrem, 1)) (h0 : ¬ y = 0) : pm_V d i pc L (.long y :: .long x :: st) S Q = pm_V d i (pc + 1) L (.long (x - x / y * y) :: st) S Q := pv_A hc rfl rfl rfl (by simp only [pm_sA, if_neg h0])
theorem pv_lshl {x : Int64} {y : Int32} (hc : pm_cd i pc = some (.lshl, 1)) : pm_V d i pc L (.int y :: .long x :: st) S Q = pm_V d i (pc + 1) L (.long (x <<< (y.toInt64 &&& 63)) :: st) S Q := pv_A hc rfl rfl rfl (by simp only [pm_sA])
theorem pv_lshr {x : Int64} {y : Int32} (hc : pm_cd i pc = some (.lshr, 1)) : pm_V d i pc L (.int y :: .long x :: st) S Q = pm_V d i (pc + 1) L (.long (x >>> (y.toInt64 &&& 63)) :: st) S Q := pv_A hc rfl rfl rfl (by simp only [pm_sA])
theorem pv_lushr {x : Int64} {y : Int32} (hc : pm_cd i pc = some (.lushr, 1)) : pm_V d i pc L (.int y :: .long x :: st) S Q = pm_V d i (pc + 1) L (.long ((x.toUInt64 >>> (y.toInt64.toUInt64 &&& Int64.toUInt64 63)).toInt64) :: st) S Q := pv_A hc rfl rfl rfl (by simp only [pm_sA])
theorem pv_lcmp {x y : Int64} (hc : pm_cd i pc = some (.lcmp, 1)) : pm_V d i pc L (.long y :: .long x :: st) S Q = pm_V d i (pc + 1) L (.int (lg_cmp x y) :: st) S Q := pv_A hc rfl rfl rfl (by simp only [pm_sA])
theorem pv_i2l {x : Int32} (hc : pm_cd i pc = some (.i2l, 1)) : pm_V d i pc L (.int x :: st) S Q = pm_V d i (pc + 1) L (.long x.toInt64 :: st) S Q := pv_A hc rfl rfl rfl (by simp only [pm_sA])
theorem pv_l2i {x : Int64} (hc : pm_cd i pc = some (.l2i, 1)) : pm_V d i pc L (.long x :: st) S Q = pm_V d i (pc + 1) L (.int x.toInt32 :: st) S Q := pv_A hc rfl rfl rfl (by simp only [pm_sA])
theorem pv_dupI {x : Int32} (hc : pm_cd i pc = some (.dup, 1)) : pm_V d i pc L (.int x :: st) S Q = pm_V d i (pc + 1) L (.int x :: .int x :: st) S Q := pv_A hc rfl rfl rfl (by simp only [pm_sA])
theorem pv_dupA {x : Nat} (hc : pm_cd i pc = some (.dup, 1)) : pm_V d i pc L (.ref x :: st) S Q = pm_V d i (pc + 1) L (.ref x :: .ref x :: st) S Q := pv_A hc rfl rfl rfl (by simp only [pm_sA])
theorem pv_dup2 {x : Int32} {a : Nat} (hc : pm_cd i pc = some (.dup2, 1)) : pm_V d i pc L (.int x :: .ref a :: st) S Q = pm_V d i (pc + 1) L (.int x :: .ref a :: .int x :: .ref a :: st) S Q := pv_A hc rfl rfl rfl (by simp only [pm_sA])
theorem pv_popI {x : Int32} (hc : pm_cd i pc = some (.pop, 1)) : pm_V d i pc L (.int x :: st) S Q = pm_V d i (pc + 1) L st S Q := pv_A hc rfl rfl rfl (by simp only [pm_sA])
theorem pv_popA {x : Nat} (hc : pm_cd i pc = some (.pop, 1)) : pm_V d i pc L (.ref x :: st) S Q = pm_V d i (pc + 1) L st S Q := pv_A hc rfl rfl rfl (by simp only [pm_sA])
theorem pv_goto {off : Int} (hc : pm_cd i pc = some (.goto off, 3)) (ht : pm_to pc off = some tgt) : pm_V d i pc L st S Q = pm_V d i tgt L st S Q := pv_A hc rfl rfl rfl (by simp only [pm_sA, ht, Option.map_some])
theorem pv_ifnullA {off : Int} {x : Nat} (hc : pm_cd i pc = some (.ifnull off, 3)) : pm_V d i pc L (.ref x :: st) S Q = pm_V d i (pc + 3) L st S Q := pv_A hc rfl rfl rfl (by simp only [pm_sA])
theorem pv_ifnullN {off : Int} (hc : pm_cd i pc = some (.ifnull off, 3)) (ht : pm_to pc off = some tgt) : pm_V d i pc L (.null :: st) S Q = pm_V d i tgt L st S Q := pv_A hc rfl rfl rfl (by simp only [pm_sA, ht, Option.map_some])
theorem pv_ifnonA {off : Int} {x : Nat} (hc : pm_cd i pc = some (.ifnonnull off, 3)) (ht : pm_to pc off = some tgt) : pm_V d i pc L (.ref x :: st) S Q = pm_V d i tgt L st S Q := pv_A hc rfl rfl rfl (by simp only [pm_sA, ht, Option.map_some])
theorem pv_ifnonN {off : Int} (hc : pm_cd i pc = some (.ifnonnull off, 3)) : pm_V d i pc L (.null :: st) S Q = pm_V d i (pc + 3) L st S Q := pv_A hc rfl rfl rfl (by simp only [pm_sA])
theorem pm_ge {x y : Int32} : (y ≤ x) = ¬ (x < y) := propext ⟨fun h => k2_nlt h, fun h => k2_le h⟩
theorem pm_gt {x y : Int32} : (y < x) = ¬ (x ≤ y) := propext ⟨fun h => k2_nle h, fun h => k2_lt h⟩
theorem pv_if_eq {x : Int32} {off : Int} (hc : pm_cd i pc = some (.ifCond .eq off, 3)) (ht : pm_to pc off = some tgt) : pm_V d i pc L (.int x :: st) S Q = if x = 0 then pm_V d i tgt L st S Q else pm_V d i (pc + 3) L st S Q := by
  by_cases h : x = 0
  · rw [if_pos h]
    exact pv_A hc rfl rfl rfl (by simp [pm_sA, pm_br, pm_cnd, h, ht, pm_ge, pm_gt])
  · rw [if_neg h]
    exact pv_A hc rfl rfl rfl (by simp [pm_sA, pm_br, pm_cnd, h, ht, pm_ge, pm_gt])
theorem pv_if_ne {x : Int32} {off : Int} (hc : pm_cd i pc = some (.ifCond .ne off, 3)) (ht : pm_to pc off = some tgt) : pm_V d i pc L (.int x :: st) S Q = if x = 0 then pm_V d i (pc + 3) L st S Q else pm_V d i tgt L st S Q := by
  by_cases h : x = 0
  · rw [if_pos h]
    exact pv_A hc rfl rfl rfl (by simp [pm_sA, pm_br, pm_cnd, h, ht, pm_ge, pm_gt])
  · rw [if_neg h]
    exact pv_A hc rfl rfl rfl (by simp [pm_sA, pm_br, pm_cnd, h, ht, pm_ge, pm_gt])
theorem pv_if_lt {x : Int32} {off : Int} (hc : pm_cd i pc = some (.ifCond .lt off, 3)) (ht : pm_to pc off = some tgt) : pm_V d i pc L (.int x :: st) S Q = if x < 0 then pm_V d i tgt L st S Q else pm_V d i (pc + 3) L st S Q := by
  by_cases h : x < 0
  · rw [if_pos h]
    exact pv_A hc rfl rfl rfl (by simp [pm_sA, pm_br, pm_cnd, h, ht, pm_ge, pm_gt])
  · rw [if_neg h]
    exact pv_A hc rfl rfl rfl (by simp [pm_sA, pm_br, pm_cnd, h, ht, pm_ge, pm_gt])
theorem pv_if_ge {x : Int32} {off : Int} (hc : pm_cd i pc = some (.ifCond .ge off, 3)) (ht : pm_to pc off = some tgt) : pm_V d i pc L (.int x :: st) S Q = if x < 0 then pm_V d i (pc + 3) L st S Q else pm_V d i tgt L st S Q := by
  by_cases h : x < 0
  · rw [if_pos h]
    exact pv_A hc rfl rfl rfl (by simp [pm_sA, pm_br, pm_cnd, h, ht, pm_ge, pm_gt])
  · rw [if_neg h]
    exact pv_A hc rfl rfl rfl (by simp [pm_sA, pm_br, pm_cnd, h, ht, pm_ge, pm_gt])
theorem pv_if_gt {x : Int32} {off : Int} (hc : pm_cd i pc = some (.ifCond .gt off, 3)) (ht : pm_to pc off = some tgt) : pm_V d i pc L (.int x :: st) S Q = if x ≤ 0 then pm_V d i (pc + 3) L st S Q else pm_V d i tgt L st S Q := by
  by_cases h : x ≤ 0
  · rw [if_pos h]
    exact pv_A hc rfl rfl rfl (by simp [pm_sA, pm_br, pm_cnd, h, ht, pm_ge, pm_gt])
  · rw [if_neg h]
    exact pv_A hc rfl rfl rfl (by simp [pm_sA, pm_br, pm_cnd, h, ht, pm_ge, pm_gt])
theorem pv_if_le {x : Int32} {off : Int} (hc : pm_cd i pc = some (.ifCond .le off, 3)) (ht : pm_to pc off = some tgt) : pm_V d i pc L (.int x :: st) S Q = if x ≤ 0 then pm_V d i tgt L st S Q else pm_V d i (pc + 3) L st S Q := by
  by_cases h : x ≤ 0
  · rw [if_pos h]
    exact pv_A hc rfl rfl rfl (by simp [pm_sA, pm_br, pm_cnd, h, ht, pm_ge, pm_gt])
  · rw [if_neg h]
    exact pv_A hc rfl rfl rfl (by simp [pm_sA, pm_br, pm_cnd, h, ht, pm_ge, pm_gt])
theorem pv_icmp_eq {x y : Int32} {off : Int} (hc : pm_cd i pc = some (.if_icmp .eq off, 3)) (ht : pm_to pc off = some tgt) : pm_V d i pc L (.int y :: .int x :: st) S Q = if x = y then pm_V d i tgt L st S Q else pm_V d i (pc + 3) L st S Q := by
  by_cases h : x = y
  · rw [if_pos h]
    exact pv_A hc rfl rfl rfl (by simp [pm_sA, pm_br, pm_cnd, h, ht, pm_ge, pm_gt])
  · rw [if_neg h]
    exact pv_A hc rfl rfl rfl (by simp [pm_sA, pm_br, pm_cnd, h, ht, pm_ge, pm_gt])
theorem pv_icmp_ne {x y : Int32} {off : Int} (hc : pm_cd i pc = some (.if_icmp .ne off, 3)) (ht : pm_to pc off = some tgt) : pm_V d i pc L (.int y :: .int x :: st) S Q = if x = y then pm_V d i (pc + 3) L st S Q else pm_V d i tgt L st S Q := by
  by_cases h : x = y
  · rw [if_pos h]
    exact pv_A hc rfl rfl rfl (by simp [pm_sA, pm_br, pm_cnd, h, ht, pm_ge, pm_gt])
  · rw [if_neg h]
    exact pv_A hc rfl rfl rfl (by simp [pm_sA, pm_br, pm_cnd, h, ht, pm_ge, pm_gt])
theorem pv_icmp_lt {x y : Int32} {off : Int} (hc : pm_cd i pc = some (.if_icmp .lt off, 3)) (ht : pm_to pc off = some tgt) : pm_V d i pc L (.int y :: .int x :: st) S Q = if x < y then pm_V d i tgt L st S Q else pm_V d i (pc + 3) L st S Q := by
  by_cases h : x < y
  · rw [if_pos h]
    exact pv_A hc rfl rfl rfl (by simp [pm_sA, pm_br, pm_cnd, h, ht, pm_ge, pm_gt])
  · rw [if_neg h]
    exact pv_A hc rfl rfl rfl (by simp [pm_sA, pm_br, pm_cnd, h, ht, pm_ge, pm_gt])
theorem pv_icmp_ge {x y : Int32} {off : Int} (hc : pm_cd i pc = some (.if_icmp .ge off, 3)) (ht : pm_to pc off = some tgt) : pm_V d i pc L (.int y :: .int x :: st) S Q = if x < y then pm_V d i (pc + 3) L st S Q else pm_V d i tgt L st S Q := by
  by_cases h : x < y
  · rw [if_pos h]
    exact pv_A hc rfl rfl rfl (by simp [pm_sA, pm_br, pm_cnd, h, ht, pm_ge, pm_gt])
  · rw [if_neg h]
    exact pv_A hc rfl rfl rfl (by simp [pm_sA, pm_br, pm_cnd, h, ht, pm_ge, pm_gt])
theorem pv_icmp_gt {x y : Int32} {off : Int} (hc : pm_cd i pc = some (.if_icmp .gt off, 3)) (ht : pm_to pc off = some tgt) : pm_V d i pc L (.int y :: .int x :: st) S Q = if x ≤ y then pm_V d i (pc + 3) L st S Q else pm_V d i tgt L st S Q := by
  by_cases h : x ≤ y
  · rw [if_pos h]
    exact pv_A hc rfl rfl rfl (by simp [pm_sA, pm_br, pm_cnd, h, ht, pm_ge, pm_gt])
  · rw [if_neg h]
    exact pv_A hc rfl rfl rfl (by simp [pm_sA, pm_br, pm_cnd, h, ht, pm_ge, pm_gt])
theorem pv_icmp_le {x y : Int32} {off : Int} (hc : pm_cd i pc = some (.if_icmp .le off, 3)) (ht : pm_to pc off = some tgt) : pm_V d i pc L (.int y :: .int x :: st) S Q = if x ≤ y then pm_V d i tgt L st S Q else pm_V d i (pc + 3) L st S Q := by
  by_cases h : x ≤ y
  · rw [if_pos h]
    exact pv_A hc rfl rfl rfl (by simp [pm_sA, pm_br, pm_cnd, h, ht, pm_ge, pm_gt])
  · rw [if_neg h]
    exact pv_A hc rfl rfl rfl (by simp [pm_sA, pm_br, pm_cnd, h, ht, pm_ge, pm_gt])
/-- where a switch goes -/
def pm_tsw (x : Int32) (lo : Int) (ts : List Nat) (df : Nat) : Nat := if x.toInt < lo then df else ts.getD (x.toInt - lo).toNat df
theorem pv_tsw {x : Int32} {dflt lo hi : Int} {offs : Array Int} {len df : Nat} {ts : List Nat} (hc : pm_cd i pc = some (.tableswitch dflt lo hi offs, len)) (h1 : hi = lo + ts.length - 1) (h2 : pm_to pc dflt = some df) (h3 : offs.toList.map (pm_to pc) = ts.map some) : pm_V d i pc L (.int x :: st) S Q = pm_V d i (pm_tsw x lo ts df) L st S Q := by
  refine pv_A hc rfl rfl rfl ?_
  have hlen : offs.size = ts.length := by
    have := congrArg List.length h3
    simpa using this
  simp only [pm_sA]
  unfold pm_tsw
  by_cases a : x.toInt < lo
  · rw [if_pos (Or.inl a), if_pos a, h2]; rfl
  · rw [if_neg a]
    by_cases b : hi < x.toInt
    · rw [if_pos (Or.inr b), h2, List.getD_eq_getElem?_getD, List.getElem?_eq_none (by omega)]
      rfl
    · rw [if_neg (by omega)]
      have hk : (x.toInt - lo).toNat < ts.length := by omega
      generalize (x.toInt - lo).toNat = k at hk ⊢
      have e1 : offs[k]? = some offs[k] := Array.getElem?_eq_getElem (by omega)
      have e2 := congrArg (fun l => l[k]?) h3
      simp only [List.getElem?_map, Array.getElem?_toList, e1, Option.map_some, List.getElem?_eq_getElem hk] at e2
      rw [e1, List.getD_eq_getElem?_getD, List.getElem?_eq_getElem hk]
      dsimp only
      rw [Option.some.inj e2]
      rfl
theorem pv_ldc {idx : Nat} {v : Int32} (hc : pm_cd i pc = some (.ldc idx, 2)) (hk : pm_kc.lookup (pm_key i idx) = some v) : pm_V d i pc L st S Q = pm_V d i (pc + 2) L (.int v :: st) S Q := pv_C hc rfl rfl rfl rfl (by simp only [pm_sC, hk, Option.map_some])
theorem pv_ldcw {idx : Nat} {v : Int32} (hc : pm_cd i pc = some (.ldc_w idx, 3)) (hk : pm_kc.lookup (pm_key i idx) = some v) : pm_V d i pc L st S Q = pm_V d i (pc + 3) L (.int v :: st) S Q := pv_C hc rfl rfl rfl rfl (by simp only [pm_sC, hk, Option.map_some])
theorem pv_ldc2 {idx : Nat} {v : Int64} (hc : pm_cd i pc = some (.ldc2_w idx, 3)) (hk : pm_kl.lookup (pm_key i idx) = some v) : pm_V d i pc L st S Q = pm_V d i (pc + 3) L (.long v :: st) S Q := pv_C hc rfl rfl rfl rfl (by simp only [pm_sC, hk, Option.map_some])
theorem pm_isc_of {a c : Nat} (h : pm_sh S a = .inr c) : pm_isc S a c = true := by unfold pm_isc; rw [h]; simp
theorem pv_getI {idx a c k : Nat} (hc : pm_cd i pc = some (.getfield idx, 3)) (hf : pm_fl.lookup (pm_key i idx) = some (c, k)) (hk : k < pm_nf c) (ht : pm_ft c k = 0 ∨ pm_ft c k = 2) (hs : pm_sh S a = .inr c) : pm_V d i pc L (.ref a :: st) S Q = pm_V d i (pc + 3) L (.int (pm_gi S a k) :: st) S Q := by
  refine pv_C hc rfl rfl rfl rfl ?_
  simp only [pm_sC, hf]
  rw [if_pos ⟨pm_isc_of hs, hk⟩]
  unfold pm_fv
  rcases ht with ht | ht <;> (rw [ht]; rfl)
theorem pv_getL {idx a c k : Nat} (hc : pm_cd i pc = some (.getfield idx, 3)) (hf : pm_fl.lookup (pm_key i idx) = some (c, k)) (hk : k < pm_nf c) (ht : pm_ft c k = 1) (hs : pm_sh S a = .inr c) : pm_V d i pc L (.ref a :: st) S Q = pm_V d i (pc + 3) L (.long (pm_gl S a k) :: st) S Q := by
  refine pv_C hc rfl rfl rfl rfl ?_
  simp only [pm_sC, hf]
  rw [if_pos ⟨pm_isc_of hs, hk⟩]
  unfold pm_fv
  rw [ht]
  rfl
theorem pv_getA {idx a c k : Nat} (hc : pm_cd i pc = some (.getfield idx, 3)) (hf : pm_fl.lookup (pm_key i idx) = some (c, k)) (hk : k < pm_nf c) (ht : pm_ft c k = 3) (hs : pm_sh S a = .inr c) : pm_V d i pc L (.ref a :: st) S Q = pm_V d i (pc + 3) L (va_rf (pm_gr S a k) :: st) S Q := by
  refine pv_C hc rfl rfl rfl rfl ?_
  simp only [pm_sC, hf]
  rw [if_pos ⟨pm_isc_of hs, hk⟩]
  unfold pm_fv
  rw [ht]
  rfl
theorem pv_putI {idx a c k : Nat} {x : Int32} (hc : pm_cd i pc = some (.putfield idx, 3)) (hf : pm_fl.lookup (pm_key i idx) = some (c, k)) (hp : pm_putok i c k = true) (ht : pm_ft c k = 0) (hs : pm_sh S a = .inr c) : pm_V d i pc L (.int x :: .ref a :: st) S Q = pm_V d i (pc + 3) L st (pm_sgi S a k x) Q := by
  refine pv_C hc rfl rfl rfl rfl ?_
  simp only [pm_sC, hf]
  rw [if_pos ⟨pm_isc_of hs, hp, Or.inl ht⟩]
theorem pv_putZ {idx a c k : Nat} {x : Int32} (hc : pm_cd i pc = some (.putfield idx, 3)) (hf : pm_fl.lookup (pm_key i idx) = some (c, k)) (hp : pm_putok i c k = true) (ht : pm_ft c k = 2) (hs : pm_sh S a = .inr c) (hx : x = 0 ∨ x = 1) : pm_V d i pc L (.int x :: .ref a :: st) S Q = pm_V d i (pc + 3) L st (pm_sgi S a k x) Q := by
  refine pv_C hc rfl rfl rfl rfl ?_
  simp only [pm_sC, hf]
  rw [if_pos ⟨pm_isc_of hs, hp, Or.inr ⟨ht, hx⟩⟩]
theorem pv_putL {idx a c k : Nat} {x : Int64} (hc : pm_cd i pc = some (.putfield idx, 3)) (hf : pm_fl.lookup (pm_key i idx) = some (c, k)) (hp : pm_putok i c k = true) (ht : pm_ft c k = 1) (hs : pm_sh S a = .inr c) : pm_V d i pc L (.long x :: .ref a :: st) S Q = pm_V d i (pc + 3) L st (pm_sgl S a k x) Q := by
  refine pv_C hc rfl rfl rfl rfl ?_
  simp only [pm_sC, hf]
  rw [if_pos ⟨pm_isc_of hs, hp, ht⟩]
theorem pv_putA {idx a c k x : Nat} (hc : pm_cd i pc = some (.putfield idx, 3)) (hf : pm_fl.lookup (pm_key i idx) = some (c, k)) (hp : pm_putok i c k = true) (ht : pm_ft c k = 3) (hs : pm_sh S a = .inr c) : pm_V d i pc L (.ref x :: .ref a :: st) S Q = pm_V d i (pc + 3) L st (pm_sgr S a k (some x)) Q := by
  refine pv_C hc rfl rfl rfl rfl ?_
  simp only [pm_sC, hf]
  rw [if_pos ⟨pm_isc_of hs, hp, ht⟩]
theorem pv_putN {idx a c k : Nat} (hc : pm_cd i pc = some (.putfield idx, 3)) (hf : pm_fl.lookup (pm_key i idx) = some (c, k)) (hp : pm_putok i c k = true) (ht : pm_ft c k = 3) (hs : pm_sh S a = .inr c) : pm_V d i pc L (.null :: .ref a :: st) S Q = pm_V d i (pc + 3) L st (pm_sgr S a k none) Q := by
  refine pv_C hc rfl rfl rfl rfl ?_
  simp only [pm_sC, hf]
  rw [if_pos ⟨pm_isc_of hs, hp, ht⟩]
theorem pv_iald {a : Nat} {x : Int32} (hc : pm_cd i pc = some (.iaload, 1)) (hs : pm_ar S a 0 x = true) : pm_V d i pc L (.int x :: .ref a :: st) S Q = pm_V d i (pc + 1) L (.int (pm_zi S a x.toNatClampNeg) :: st) S Q := pv_C hc rfl rfl rfl rfl (by simp only [pm_sC]; rw [if_pos (Or.inl hs)])
theorem pv_sald {a : Nat} {x : Int32} (hc : pm_cd i pc = some (.iaload, 1)) (hs : pm_ar S a 9 x = true) : pm_V d i pc L (.int x :: .ref a :: st) S Q = pm_V d i (pc + 1) L (.int (pm_zi S a x.toNatClampNeg) :: st) S Q := pv_C hc rfl rfl rfl rfl (by simp only [pm_sC]; rw [if_pos (Or.inr hs)])
theorem pv_bald {a : Nat} {x : Int32} (hc : pm_cd i pc = some (.baload, 1)) (hs : pm_ar S a 2 x = true) : pm_V d i pc L (.int x :: .ref a :: st) S Q = pm_V d i (pc + 1) L (.int (pm_zi S a x.toNatClampNeg) :: st) S Q := pv_C hc rfl rfl rfl rfl (by simp only [pm_sC]; rw [if_pos hs])
theorem pv_lald {a : Nat} {x : Int32} (hc : pm_cd i pc = some (.laload, 1)) (hs : pm_ar S a 1 x = true) : pm_V d i pc L (.int x :: .ref a :: st) S Q = pm_V d i (pc + 1) L (.long (pm_zl S a x.toNatClampNeg) :: st) S Q := pv_C hc rfl rfl rfl rfl (by simp only [pm_sC]; rw [if_pos hs])
theorem pv_aaldR {a : Nat} {x : Int32} (hc : pm_cd i pc = some (.aaload, 1)) (hs : pm_ar S a 3 x = true) : pm_V d i pc L (.int x :: .ref a :: st) S Q = pm_V d i (pc + 1) L (va_rf (pm_zr S a x.toNatClampNeg) :: st) S Q := pv_C hc rfl rfl rfl rfl (by simp only [pm_sC]; rw [if_pos (Or.inl hs)])
theorem pv_aaldQ {a : Nat} {x : Int32} (hc : pm_cd i pc = some (.aaload, 1)) (hs : pm_ar S a 4 x = true) : pm_V d i pc L (.int x :: .ref a :: st) S Q = pm_V d i (pc + 1) L (va_rf (pm_zr S a x.toNatClampNeg) :: st) S Q := pv_C hc rfl rfl rfl rfl (by simp only [pm_sC]; rw [if_pos (Or.inr hs)])
theorem pv_iast {a : Nat} {x v : Int32} (hc : pm_cd i pc = some (.iastore, 1)) (hs : pm_ar S a 0 x = true) : pm_V d i pc L (.int v :: .int x :: .ref a :: st) S Q = pm_V d i (pc + 1) L st (pm_szi S a x.toNatClampNeg v) Q := pv_C hc rfl rfl rfl rfl (by simp only [pm_sC]; rw [if_pos hs])
theorem pv_bast {a : Nat} {x v : Int32} (hc : pm_cd i pc = some (.bastore, 1)) (hs : pm_ar S a 2 x = true) (hv : v = 0 ∨ v = 1) : pm_V d i pc L (.int v :: .int x :: .ref a :: st) S Q = pm_V d i (pc + 1) L st (pm_szi S a x.toNatClampNeg v) Q := pv_C hc rfl rfl rfl rfl (by simp only [pm_sC]; rw [if_pos ⟨hs, hv⟩])
theorem pv_last {a : Nat} {x : Int32} {v : Int64} (hc : pm_cd i pc = some (.lastore, 1)) (hs : pm_ar S a 1 x = true) : pm_V d i pc L (.long v :: .int x :: .ref a :: st) S Q = pm_V d i (pc + 1) L st (pm_szl S a x.toNatClampNeg v) Q := pv_C hc rfl rfl rfl rfl (by simp only [pm_sC]; rw [if_pos hs])
theorem pv_aast {a v : Nat} {x : Int32} (hc : pm_cd i pc = some (.aastore, 1)) (hs : pm_ar S a 4 x = true) (hv : pm_sh S v = .inr 0) : pm_V d i pc L (.ref v :: .int x :: .ref a :: st) S Q = pm_V d i (pc + 1) L st (pm_szr S a x.toNatClampNeg (some v)) Q := pv_C hc rfl rfl rfl rfl (by simp only [pm_sC]; rw [if_pos ⟨hs, pm_isc_of hv⟩])
/-- an array's length -/
def pm_al (S : pm_T) (a : Nat) : Option Nat := match pm_sh S a with
  | .inl (t, n) => if t < 5 ∨ t = 9 then some n else none
  | _ => none
theorem pv_alen {a : Nat} (hc : pm_cd i pc = some (.arraylength, 1)) (hs : (pm_al S a).isSome = true) : pm_V d i pc L (.ref a :: st) S Q = pm_V d i (pc + 1) L (.int (nI ((pm_al S a).getD 0)) :: st) S Q := by
  refine pv_C hc rfl rfl rfl rfl ?_
  simp only [pm_sC]
  unfold pm_al at hs ⊢
  split at hs
  next t m e =>
    split at hs
    next e0 => simp only [e]; rw [if_pos e0, if_pos e0]; rfl
    next => cases hs
  next => cases hs
theorem pv_new {idx c : Nat} (hc : pm_cd i pc = some (.new idx, 3)) (hl : pm_lc.lookup (pm_key i idx) = some c) (hn : c < pm_cl.length) : pm_V d i pc L st S Q = pm_V d i (pc + 3) L (.ref (pm_nx S) :: st) (pm_mk S c) Q := by
  refine pv_C hc rfl rfl rfl rfl ?_
  simp only [pm_sC, hl, Option.bind_some]
  rw [if_pos hn]
  rfl
theorem pv_newI {x : Int32} (hc : pm_cd i pc = some (.newarray .int, 2)) (h : 0 ≤ x ∧ x.toNatClampNeg ≤ 60000) : pm_V d i pc L (.int x :: st) S Q = pm_V d i (pc + 2) L (.ref (pm_nx S) :: st) (pm_mka S 0 x.toNatClampNeg) Q := pv_C hc rfl rfl rfl rfl (by simp only [pm_sC]; rw [if_pos h]; rfl)
theorem pv_newL {x : Int32} (hc : pm_cd i pc = some (.newarray .long, 2)) (h : 0 ≤ x ∧ x.toNatClampNeg ≤ 60000) : pm_V d i pc L (.int x :: st) S Q = pm_V d i (pc + 2) L (.ref (pm_nx S) :: st) (pm_mka S 1 x.toNatClampNeg) Q := pv_C hc rfl rfl rfl rfl (by simp only [pm_sC]; rw [if_pos h]; rfl)
theorem pv_newZ {x : Int32} (hc : pm_cd i pc = some (.newarray .boolean, 2)) (h : 0 ≤ x ∧ x.toNatClampNeg ≤ 60000) : pm_V d i pc L (.int x :: st) S Q = pm_V d i (pc + 2) L (.ref (pm_nx S) :: st) (pm_mka S 2 x.toNatClampNeg) Q := pv_C hc rfl rfl rfl rfl (by simp only [pm_sC]; rw [if_pos h]; rfl)
theorem pv_newQ {idx : Nat} {x : Int32} (hc : pm_cd i pc = some (.anewarray idx, 3)) (hl : pm_lc.lookup (pm_key i idx) = some 0) (h : 0 ≤ x ∧ x.toNatClampNeg ≤ 60000) : pm_V d i pc L (.int x :: st) S Q = pm_V d i (pc + 3) L (.ref (pm_nx S) :: st) (pm_mka S 4 x.toNatClampNeg) Q := pv_C hc rfl rfl rfl rfl (by simp only [pm_sC]; rw [if_pos ⟨hl, h⟩]; rfl)
theorem pv_newM {idx : Nat} {x k : Int32} (hc : pm_cd i pc = some (.multianewarray idx 2, 4)) (hl : pm_key i idx = pm_mul) (h : 0 ≤ x ∧ 0 ≤ k ∧ x.toNatClampNeg ≤ 60000 ∧ k.toNatClampNeg ≤ 60000) : pm_V d i pc L (.int k :: .int x :: st) S Q = pm_V d i (pc + 4) L (.ref (pm_nx S) :: st) (pm_mkm S x.toNatClampNeg k.toNatClampNeg) Q := pv_C hc rfl rfl rfl rfl (by simp only [pm_sC]; rw [if_pos ⟨hl, trivial, h⟩]; rfl)
theorem pv_obj {idx a : Nat} (hc : pm_cd i pc = some (.invokespecial idx, 3)) (h1 : pm_key i idx ∈ pm_mo ∧ pm_ml.lookup (pm_key i idx) = none ∧ pm_nl.lookup (pm_key i idx) = none) (h2 : (st.map Value.category).sum ≤ 8) : pm_V d i pc L (.ref a :: st) S Q = pm_V d i (pc + 3) L st S Q := pv_C hc rfl (by simp only [pm_cat, h1.2.1, h1.2.2]) rfl rfl (by simp only [pm_sC]; rw [if_pos ⟨h1.1, h2⟩])
theorem pv_rI {x : Int32} (hc : pm_cd i pc = some (.ireturn, 1)) (ht : pm_rt i = some .int) : pm_V d i pc L [.int x] S Q = Q (some (.int x)) S := pv_R hc rfl rfl (by simp only [pm_ret, ht])
theorem pv_rZ {x : Int32} (hc : pm_cd i pc = some (.ireturn, 1)) (ht : pm_rt i = some .boolean) (hx : x = 0 ∨ x = 1) : pm_V d i pc L [.int x] S Q = Q (some (.int x)) S := pv_R hc rfl rfl (by simp only [pm_ret, ht]; rw [if_pos hx])
theorem pv_rL {x : Int64} (hc : pm_cd i pc = some (.lreturn, 1)) (ht : pm_rt i = some .long) : pm_V d i pc L [.long x] S Q = Q (some (.long x)) S := pv_R hc rfl rfl (by simp only [pm_ret, ht])
theorem pv_rA {a : Nat} {n : String} (hc : pm_cd i pc = some (.areturn, 1)) (ht : pm_rt i = some (.object n)) : pm_V d i pc L [.ref a] S Q = Q (some (.ref a)) S := pv_R hc rfl rfl (by simp only [pm_ret, ht])
theorem pv_rN {n : String} (hc : pm_cd i pc = some (.areturn, 1)) (ht : pm_rt i = some (.object n)) : pm_V d i pc L [.null] S Q = Q (some .null) S := pv_R hc rfl rfl (by simp only [pm_ret, ht])
theorem pv_rR {a : Nat} {ty : FieldType} (hc : pm_cd i pc = some (.areturn, 1)) (ht : pm_rt i = some (.array ty)) : pm_V d i pc L [.ref a] S Q = Q (some (.ref a)) S := pv_R hc rfl rfl (by simp only [pm_ret, ht])
theorem pv_rV (hc : pm_cd i pc = some (.return_, 1)) (ht : pm_rt i = none) : pm_V d i pc L [] S Q = Q none S := pv_R hc rfl rfl (by simp only [pm_ret, ht])
/-! calls: the arguments stand on the stack, the last on top -/
theorem pv_callS {idx j : Nat} {as st' : List Value} (hc : pm_cd i pc = some (.invokestatic idx, 3)) (hl : pm_ml.lookup (pm_key i idx) = some j) (hk : pm_kd j = 0) (hn : as.length = pm_np j) (he : st' = as.reverse ++ st) (hr : (st.map Value.category).sum ≤ 8) : pm_V (d + 1) i pc L st' S Q = pm_N d j as S (fun r S' => pm_V (d + 1) i (pc + 3) L (r.toList ++ st) S' Q) := by
  refine pv_K hc rfl ?_
  have e1 : st'.take (pm_np j) = as.reverse := by rw [he, ← hn, ← List.length_reverse (as := as)]; exact List.take_left
  have e2 : st'.drop (pm_np j) = st := by rw [he, ← hn, ← List.length_reverse (as := as)]; exact List.drop_left
  simp only [pm_cat, hl]
  rw [if_pos ⟨hk, by rw [e1, List.length_reverse, hn], by rw [e2]; exact hr⟩, e1, e2, List.reverse_reverse]
theorem pv_callV {idx j a : Nat} {as st' : List Value} (hc : pm_cd i pc = some (.invokevirtual idx, 3)) (hl : pm_ml.lookup (pm_key i idx) = some j ∨ (pm_ml.lookup (pm_key i idx) = none ∧ pm_nl.lookup (pm_key i idx) = some j)) (hk : pm_kd j = 1) (hn : as.length = pm_np j) (he : st' = as.reverse ++ .ref a :: st) (hr : (st.map Value.category).sum ≤ 8) {cl : Nat} (ho : pm_own j = cl) (hs : pm_sh S a = .inr cl) : pm_V (d + 1) i pc L st' S Q = pm_N d j (.ref a :: as) S (fun r S' => pm_V (d + 1) i (pc + 3) L (r.toList ++ st) S' Q) := by
  refine pv_K hc rfl ?_
  have e1 : st'.take (pm_np j) = as.reverse := by rw [he, ← hn, ← List.length_reverse (as := as)]; exact List.take_left
  have e2 : st'.drop (pm_np j) = .ref a :: st := by rw [he, ← hn, ← List.length_reverse (as := as)]; exact List.drop_left
  have e3 : pm_isc S a (pm_own j) = true := by rw [ho]; exact pm_isc_of hs
  rcases hl with hl | ⟨hl, hl2⟩
  · simp only [pm_cat, hl]
    rw [e2]
    dsimp only
    rw [if_pos ⟨hk, e3, by rw [e1, List.length_reverse, hn], hr⟩, e1, List.reverse_reverse]
  · simp only [pm_cat, hl, hl2]
    rw [e2]
    dsimp only
    rw [if_pos ⟨hk, e3, by rw [e1, List.length_reverse, hn], hr⟩, e1, List.reverse_reverse]
theorem pv_callI {idx j a : Nat} {as st' : List Value} (hc : pm_cd i pc = some (.invokespecial idx, 3)) (hl : pm_ml.lookup (pm_key i idx) = some j ∨ (pm_ml.lookup (pm_key i idx) = none ∧ pm_nl.lookup (pm_key i idx) = some j)) (hk : pm_kd j = 2) (hn : as.length = pm_np j) (he : st' = as.reverse ++ .ref a :: st) (hr : (st.map Value.category).sum ≤ 8) : pm_V (d + 1) i pc L st' S Q = pm_N d j (.ref a :: as) S (fun r S' => pm_V (d + 1) i (pc + 3) L (r.toList ++ st) S' Q) := by
  refine pv_K hc rfl ?_
  have e1 : st'.take (pm_np j) = as.reverse := by rw [he, ← hn, ← List.length_reverse (as := as)]; exact List.take_left
  have e2 : st'.drop (pm_np j) = .ref a :: st := by rw [he, ← hn, ← List.length_reverse (as := as)]; exact List.drop_left
  rcases hl with hl | ⟨hl, hl2⟩
  · simp only [pm_cat, hl]
    rw [e2]
    dsimp only
    rw [if_pos ⟨hk, by rw [e1, List.length_reverse, hn], hr⟩, e1, List.reverse_reverse]
  · simp only [pm_cat, hl, hl2]
    rw [e2]
    dsimp only
    rw [if_pos ⟨hk, by rw [e1, List.length_reverse, hn], hr⟩, e1, List.reverse_reverse]
theorem pv_ent {j : Nat} {as L' : List Value} (h1 : (pm_sl as).length ≤ pm_mx j) (h2 : pm_ent as (pm_mx j) = L') : pm_N d j as S Q = pm_V d j 0 L' [] S Q := by
  unfold pm_N
  rw [h2]
  exact propext ⟨fun h => h.2, fun h => ⟨h1, h⟩⟩
end PVI
