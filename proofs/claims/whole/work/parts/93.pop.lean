/-! ===== bitCount: byte by byte ===== -/
def pc_M (c : Nat) : Nat → Nat
  | 0 => 0
  | k + 1 => c + 256 * pc_M c k
theorem pc_M_s (c k : Nat) : pc_M c (k + 1) = c + 256 * pc_M c k := rfl
theorem pc_and {b m R M : Nat} (hb : b < 256) (hm : m < 256) : (b + 256 * R) &&& (m + 256 * M) = (b &&& m) + 256 * (R &&& M) := by
  have h1 := Nat.and_mod_two_pow (a := b + 256 * R) (b := m + 256 * M) (n := 8)
  have h2 := Nat.and_div_two_pow (a := b + 256 * R) (b := m + 256 * M) (n := 8)
  have e1 : (b + 256 * R) % 2 ^ 8 = b := by omega
  have e2 : (m + 256 * M) % 2 ^ 8 = m := by omega
  have e3 : (b + 256 * R) / 2 ^ 8 = R := by omega
  have e4 : (m + 256 * M) / 2 ^ 8 = M := by omega
  rw [e1, e2] at h1
  rw [e3, e4] at h2
  rw [← h1, ← h2]
  omega
theorem pc_b1 : ∀ b, b < 256 → (b / 2 &&& 85) ≤ b ∧ (b / 2 + 128 &&& 85) = (b / 2 &&& 85) := by decide +kernel
theorem pc_b2 : ∀ b, b < 256 → (b / 4 + 64 &&& 51) = (b / 4 &&& 51) ∧ (b / 4 + 128 &&& 51) = (b / 4 &&& 51) ∧ (b / 4 + 192 &&& 51) = (b / 4 &&& 51) ∧ (b &&& 51) + (b / 4 &&& 51) < 256 := by decide +kernel
theorem pc_b3 : ∀ b, b < 256 → ∀ r, r < 5 → (b / 16 ≤ 4 ∧ b % 16 ≤ 4) → (b + (b / 16 + 16 * r) < 256) ∧ (b + (b / 16 + 16 * r) &&& 15) = (b + b / 16 &&& 15) := by decide +kernel
def pc_a (b : Nat) : Nat := b - (b / 2 &&& 85)
def pc_b (b : Nat) : Nat := (b &&& 51) + (b / 4 &&& 51)
def pc_c (b : Nat) : Nat := b + b / 16 &&& 15
def pc_m (f : Nat → Nat) : Nat → Nat → Nat
  | 0, _ => 0
  | k + 1, N => f (N % 256) + 256 * pc_m f k (N / 256)
theorem pc_m_s (f : Nat → Nat) (k N : Nat) : pc_m f (k + 1) N = f (N % 256) + 256 * pc_m f k (N / 256) := rfl
theorem pc_lt {f : Nat → Nat} (hf : ∀ b, b < 256 → f b < 256) : ∀ k N, pc_m f k N < 256 ^ k
  | 0, N => by unfold pc_m; decide
  | k + 1, N => by
    rw [pc_m_s]
    have := pc_lt hf k (N / 256)
    have := hf (N % 256) (Nat.mod_lt _ (by decide))
    rw [Nat.pow_succ]
    omega
theorem pc_s1 : ∀ k N, N < 256 ^ k → (N / 2 &&& pc_M 85 k) ≤ N ∧ N - (N / 2 &&& pc_M 85 k) = pc_m pc_a k N
  | 0, N, h => by
    have : N = 0 := by simpa using h
    subst this
    exact ⟨by simp, by simp [pc_m]⟩
  | k + 1, N, h => by
    rw [Nat.pow_succ] at h
    obtain ⟨i1, i2⟩ := pc_s1 k (N / 256) (by omega)
    have hb : N % 256 < 256 := Nat.mod_lt _ (by decide)
    obtain ⟨b1, b2⟩ := pc_b1 _ hb
    have e : N / 2 = (N % 256 / 2 + 128 * (N / 256 % 2)) + 256 * (N / 256 / 2) := by omega
    have e2 : (N % 256 / 2 + 128 * (N / 256 % 2) &&& 85) = (N % 256 / 2 &&& 85) := by
      rcases Nat.mod_two_eq_zero_or_one (N / 256) with z | z <;> rw [z]
      · rfl
      · exact b2
    have e3 : (N / 2 &&& pc_M 85 (k + 1)) = (N % 256 / 2 &&& 85) + 256 * (N / 256 / 2 &&& pc_M 85 k) := by
      rw [e]
      rw [pc_M_s, pc_and (by omega) (by decide), e2]
    rw [e3]
    refine ⟨by omega, ?_⟩
    rw [pc_m_s]
    rw [← i2]
    unfold pc_a
    omega
theorem pc_s2 : ∀ k N, N < 256 ^ k → (N &&& pc_M 51 k) + (N / 4 &&& pc_M 51 k) = pc_m pc_b k N
  | 0, N, h => by
    simp [pc_m, pc_M]
  | k + 1, N, h => by
    rw [Nat.pow_succ] at h
    have i2 := pc_s2 k (N / 256) (by omega)
    have hb : N % 256 < 256 := Nat.mod_lt _ (by decide)
    obtain ⟨b1, b2, b3, b4⟩ := pc_b2 _ hb
    have e : N / 4 = (N % 256 / 4 + 64 * (N / 256 % 4)) + 256 * (N / 256 / 4) := by omega
    have e2 : (N % 256 / 4 + 64 * (N / 256 % 4) &&& 51) = (N % 256 / 4 &&& 51) := by
      have : N / 256 % 4 < 4 := Nat.mod_lt _ (by decide)
      have : N / 256 % 4 = 0 ∨ N / 256 % 4 = 1 ∨ N / 256 % 4 = 2 ∨ N / 256 % 4 = 3 := by omega
      rcases this with z | z | z | z <;> rw [z]
      · rfl
      · exact b1
      · exact b2
      · exact b3
    have e3 : (N / 4 &&& pc_M 51 (k + 1)) = (N % 256 / 4 &&& 51) + 256 * (N / 256 / 4 &&& pc_M 51 k) := by
      rw [e]
      rw [pc_M_s, pc_and (by omega) (by decide), e2]
    have e4 : (N &&& pc_M 51 (k + 1)) = (N % 256 &&& 51) + 256 * (N / 256 &&& pc_M 51 k) := by
      conv => lhs; rw [show N = N % 256 + 256 * (N / 256) by omega]
      rw [pc_M_s, pc_and (by omega) (by decide)]
    rw [e3, e4]
    rw [pc_m_s]
    rw [← i2]
    unfold pc_b
    omega
/-- each half of each byte is 4 at most -/
def pc_4 : Nat → Nat → Prop
  | 0, _ => True
  | k + 1, N => N % 16 ≤ 4 ∧ N % 256 / 16 ≤ 4 ∧ pc_4 k (N / 256)
theorem pc_4_0 : ∀ k, pc_4 k 0
  | 0 => trivial
  | k + 1 => ⟨by decide, by decide, pc_4_0 k⟩
theorem pc_s3 : ∀ k N, N < 256 ^ k → pc_4 k N → (N + N / 16 &&& pc_M 15 k) = pc_m pc_c k N ∧ N + N / 16 < 256 ^ k
  | 0, N, h, _ => by
    have : N = 0 := by simpa using h
    subst this
    exact ⟨by simp [pc_m, pc_M], by decide⟩
  | k + 1, N, h, h4 => by
    rw [Nat.pow_succ] at h
    obtain ⟨h5, h6, h7⟩ := h4
    obtain ⟨i2, i3⟩ := pc_s3 k (N / 256) (by omega) h7
    have hb : N % 256 < 256 := Nat.mod_lt _ (by decide)
    have hr : N / 256 % 16 ≤ 4 := by
      cases k with
      | zero => have : N / 256 = 0 := by simp at h; omega
                rw [this]; decide
      | succ k => exact h7.1
    obtain ⟨b1, b2⟩ := pc_b3 _ hb (N / 256 % 16) (by omega) ⟨h6, by omega⟩
    have e : N + N / 16 = (N % 256 + (N % 256 / 16 + 16 * (N / 256 % 16))) + 256 * (N / 256 + N / 256 / 16) := by omega
    refine ⟨?_, by rw [Nat.pow_succ]; omega⟩
    rw [e]
    rw [pc_M_s, pc_m_s, pc_and b1 (by decide), b2, ← i2]
    rfl
theorem pc_cb (f g : Nat → Nat) (hf : ∀ b, b < 256 → f b < 256) : ∀ k N, pc_m g k (pc_m f k N) = pc_m (fun b => g (f b)) k N
  | 0, N => rfl
  | k + 1, N => by
    rw [pc_m_s g, pc_m_s f, pc_m_s (fun b => g (f b))]
    have := hf (N % 256) (Nat.mod_lt _ (by decide))
    rw [show (f (N % 256) + 256 * pc_m f k (N / 256)) % 256 = f (N % 256) by omega, show (f (N % 256) + 256 * pc_m f k (N / 256)) / 256 = pc_m f k (N / 256) by omega, pc_cb f g hf k (N / 256)]
theorem pc_fa : ∀ b, b < 256 → pc_a b < 256 := fun b hb => by unfold pc_a; omega
theorem pc_fb : ∀ b, b < 256 → pc_b b < 256 := fun b hb => (pc_b2 b hb).2.2.2
theorem pc_f4 : ∀ b, b < 256 → pc_b (pc_a b) % 16 ≤ 4 ∧ pc_b (pc_a b) % 256 / 16 ≤ 4 := by decide +kernel
theorem pc_4m : ∀ k N, pc_4 k (pc_m (fun b => pc_b (pc_a b)) k N)
  | 0, N => trivial
  | k + 1, N => by
    have hb : N % 256 < 256 := Nat.mod_lt _ (by decide)
    obtain ⟨h1, h2⟩ := pc_f4 _ hb
    have h3 := pc_fb _ (pc_fa _ hb)
    rw [pc_m_s]
    refine ⟨by omega, by omega, ?_⟩
    rw [show (pc_b (pc_a (N % 256)) + 256 * pc_m (fun b => pc_b (pc_a b)) k (N / 256)) / 256 = pc_m (fun b => pc_b (pc_a b)) k (N / 256) by omega]
    exact pc_4m k (N / 256)
theorem pc_8 : ∀ b, b < 256 → pc_c (pc_b (pc_a b)) = sp_cnt (fun i => b.testBit i) 8 := by decide +kernel
theorem sp_cnt_add (p : Nat → Bool) (a : Nat) : ∀ b, sp_cnt p (a + b) = sp_cnt p a + sp_cnt (fun i => p (a + i)) b
  | 0 => rfl
  | b + 1 => by
    show sp_cnt p (a + b) + (if p (a + b) then 1 else 0) = sp_cnt p a + (sp_cnt (fun i => p (a + i)) b + (if p (a + b) then 1 else 0))
    rw [sp_cnt_add p a b, Nat.add_assoc]
theorem pc_cnt (N : Nat) : sp_cnt (fun i => N.testBit i) 64 = pc_c (pc_b (pc_a (N % 256))) + pc_c (pc_b (pc_a (N / 256 % 256))) + pc_c (pc_b (pc_a (N / 256 / 256 % 256))) + pc_c (pc_b (pc_a (N / 256 / 256 / 256 % 256))) + pc_c (pc_b (pc_a (N / 256 / 256 / 256 / 256 % 256))) + pc_c (pc_b (pc_a (N / 256 / 256 / 256 / 256 / 256 % 256))) + pc_c (pc_b (pc_a (N / 256 / 256 / 256 / 256 / 256 / 256 % 256))) + pc_c (pc_b (pc_a (N / 256 / 256 / 256 / 256 / 256 / 256 / 256 % 256))) := by
  have st : ∀ N m, sp_cnt (fun i => N.testBit i) (8 + m) = pc_c (pc_b (pc_a (N % 256))) + sp_cnt (fun i => (N / 256).testBit i) m := by
    intro N m
    rw [sp_cnt_add, pc_8 _ (Nat.mod_lt _ (by decide))]
    congr 1
    · apply sp_cnt_congr
      intro e he
      rw [show (256 : Nat) = 2 ^ 8 by decide, Nat.testBit_mod_two_pow, decide_eq_true he, Bool.true_and]
    · apply sp_cnt_congr
      intro e he
      rw [show (256 : Nat) = 2 ^ 8 by decide, Nat.testBit_div_two_pow, Nat.add_comm]
  rw [show (64 : Nat) = 8 + (8 + (8 + (8 + (8 + (8 + (8 + (8 + 0))))))) by decide, st, st, st, st, st, st, st, st]
  simp only [sp_cnt, Nat.add_assoc, Nat.add_zero]
theorem pc_le : ∀ b, b < 256 → pc_c (pc_b (pc_a b)) ≤ 8 := fun b hb => by rw [pc_8 b hb]; exact sp_cnt_le _ _
/-- the last three additions -/
theorem pc_end (N : Nat) : ∃ X, X < 2 ^ 60 ∧ pc_m (fun b => pc_c (pc_b (pc_a b))) 8 N = X ∧ X + X / 256 < 2 ^ 61 ∧ X + X / 256 + (X + X / 256) / 65536 < 2 ^ 62 ∧ X + X / 256 + (X + X / 256) / 65536 + (X + X / 256 + (X + X / 256) / 65536) / 4294967296 < 2 ^ 63 ∧ (X + X / 256 + (X + X / 256) / 65536 + (X + X / 256 + (X + X / 256) / 65536) / 4294967296) % 128 = sp_cnt (fun i => N.testBit i) 64 := by
  have b0 := pc_le _ (Nat.mod_lt N (by decide : 256 > 0))
  have b1 := pc_le _ (Nat.mod_lt (N / 256) (by decide : 256 > 0))
  have b2 := pc_le _ (Nat.mod_lt (N / 256 / 256) (by decide : 256 > 0))
  have b3 := pc_le _ (Nat.mod_lt (N / 256 / 256 / 256) (by decide : 256 > 0))
  have b4 := pc_le _ (Nat.mod_lt (N / 256 / 256 / 256 / 256) (by decide : 256 > 0))
  have b5 := pc_le _ (Nat.mod_lt (N / 256 / 256 / 256 / 256 / 256) (by decide : 256 > 0))
  have b6 := pc_le _ (Nat.mod_lt (N / 256 / 256 / 256 / 256 / 256 / 256) (by decide : 256 > 0))
  have b7 := pc_le _ (Nat.mod_lt (N / 256 / 256 / 256 / 256 / 256 / 256 / 256) (by decide : 256 > 0))
  rw [pc_cnt]
  simp only [pc_m]
  generalize pc_c (pc_b (pc_a (N % 256))) = p0 at *
  generalize pc_c (pc_b (pc_a (N / 256 % 256))) = p1 at *
  generalize pc_c (pc_b (pc_a (N / 256 / 256 % 256))) = p2 at *
  generalize pc_c (pc_b (pc_a (N / 256 / 256 / 256 % 256))) = p3 at *
  generalize pc_c (pc_b (pc_a (N / 256 / 256 / 256 / 256 % 256))) = p4 at *
  generalize pc_c (pc_b (pc_a (N / 256 / 256 / 256 / 256 / 256 % 256))) = p5 at *
  generalize pc_c (pc_b (pc_a (N / 256 / 256 / 256 / 256 / 256 / 256 % 256))) = p6 at *
  generalize pc_c (pc_b (pc_a (N / 256 / 256 / 256 / 256 / 256 / 256 / 256 % 256))) = p7 at *
  have e7 : ∃ Y7, Y7 = p7 + 256 * 0 := ⟨_, rfl⟩
  obtain ⟨Y7, h7⟩ := e7
  rw [← h7]
  have e6 : ∃ Y, Y = p6 + 256 * Y7 := ⟨_, rfl⟩
  obtain ⟨Y6, h6⟩ := e6
  rw [← h6]
  have e5 : ∃ Y, Y = p5 + 256 * Y6 := ⟨_, rfl⟩
  obtain ⟨Y5, h5⟩ := e5
  rw [← h5]
  have e4 : ∃ Y, Y = p4 + 256 * Y5 := ⟨_, rfl⟩
  obtain ⟨Y4, h4⟩ := e4
  rw [← h4]
  have e3 : ∃ Y, Y = p3 + 256 * Y4 := ⟨_, rfl⟩
  obtain ⟨Y3, h3⟩ := e3
  rw [← h3]
  have e2 : ∃ Y, Y = p2 + 256 * Y3 := ⟨_, rfl⟩
  obtain ⟨Y2, h2⟩ := e2
  rw [← h2]
  have e1 : ∃ Y, Y = p1 + 256 * Y2 := ⟨_, rfl⟩
  obtain ⟨Y1, h1⟩ := e1
  rw [← h1]
  have e0 : ∃ Y, Y = p0 + 256 * Y1 := ⟨_, rfl⟩
  obtain ⟨X, h0⟩ := e0
  rw [← h0]
  have q1 : X / 256 = Y1 := by clear h1 h2 h3 h4 h5 h6 h7; omega
  have w : X + Y1 = (p0 + p1) + 256 * (p1 + p2) + 65536 * (Y2 + Y3) := by clear h3 h4 h5 h6 h7 q1; omega
  have q2 : (X + Y1) / 65536 = Y2 + Y3 := by clear h0 h1 h2 h3 h4 h5 h6 h7 q1; omega
  have w2 : Y2 + Y3 = (p2 + p3) + 256 * (p3 + p4) + 65536 * (Y4 + Y5) := by clear h0 h1 h5 h6 h7 q1 q2 w; omega
  have w3 : Y4 + Y5 = (p4 + p5) + 256 * (p5 + p6) + 65536 * (Y6 + Y7) := by clear h0 h1 h2 h3 h7 q1 q2 w w2; omega
  have q3 : (X + Y1 + (Y2 + Y3)) / 4294967296 = Y4 + Y5 + (Y6 + Y7) := by
    rw [w]
    clear h0 h1 h2 h3 h4 h5 h6 h7 q1 q2 w
    generalize Y6 + Y7 = c at *
    generalize Y4 + Y5 = a at *
    generalize Y2 + Y3 = b at *
    omega
  have l7 : Y7 ≤ 8 := by omega
  have l6 : Y6 ≤ 2056 := by omega
  have l5 : Y5 ≤ 526344 := by clear h0 h1 h2 h3 h4 h6 h7 w w2 w3 q1 q2 q3; omega
  have l4 : Y4 ≤ 134744072 := by clear h0 h1 h2 h3 h5 h6 h7 w w2 w3 q1 q2 q3; omega
  have l3 : Y3 ≤ 34494482440 := by clear h0 h1 h2 h4 h5 h6 h7 w w2 w3 q1 q2 q3; omega
  have l2 : Y2 ≤ 8830587504648 := by clear h0 h1 h3 h4 h5 h6 h7 w w2 w3 q1 q2 q3; omega
  have l1 : Y1 ≤ 2260630401189896 := by clear h0 h2 h3 h4 h5 h6 h7 w w2 w3 q1 q2 q3; omega
  have l0 : X ≤ 578721382704613384 := by clear h1 h2 h3 h4 h5 h6 h7 w w2 w3 q1 q2 q3; omega
  refine ⟨X, ?_, rfl, ?_, ?_, ?_, ?_⟩
  · clear h0 h1 h2 h3 h4 h5 h6 h7 w w2 w3 q1 q2 q3; omega
  · rw [q1]; clear h0 h1 h2 h3 h4 h5 h6 h7 w w2 w3 q1 q2 q3; omega
  · rw [q1, q2]; clear h0 h1 h2 h3 h4 h5 h6 h7 w w2 w3 q1 q2 q3; omega
  · rw [q1, q2, q3]; clear h0 h1 h2 h3 h4 h5 h6 h7 w w2 w3 q1 q2 q3; omega
  · rw [q1, q2, q3, w, w2, w3, h6, h7]
    clear h0 h1 h2 h3 h4 h5 h6 h7 w w2 w3 q1 q2 q3 l0 l1 l2 l3 l4 l5 l6 l7
    omega
theorem wb_sub {a b : Nat} (ha : a < 2 ^ 64) (h : b ≤ a) : lN a - lN b = lN (a - b) := by
  apply wb_inj
  rw [Int64.toBitVec_sub, wb_tb, wb_tb, wb_tb]
  apply BitVec.eq_of_toNat_eq
  rw [BitVec.toNat_sub, BitVec.toNat_ofNat, BitVec.toNat_ofNat, BitVec.toNat_ofNat]
  omega
theorem wb_add (a b : Nat) : lN a + lN b = lN (a + b) := by
  apply wb_inj
  rw [Int64.toBitVec_add, wb_tb, wb_tb, wb_tb]
  apply BitVec.eq_of_toNat_eq
  rw [BitVec.toNat_add, BitVec.toNat_ofNat, BitVec.toNat_ofNat, BitVec.toNat_ofNat]
  omega
theorem wb_i (n : Nat) : (lN n).toInt32 = nI n := by
  apply Int32.toBitVec_inj.mp
  show (BitVec.ofNat 64 n).signExtend 32 = BitVec.ofNat 32 n
  rw [BitVec.signExtend_eq_setWidth_of_le _ (by decide)]
  apply BitVec.eq_of_toNat_eq
  rw [BitVec.toNat_setWidth, BitVec.toNat_ofNat, BitVec.toNat_ofNat]
  omega
theorem wb_127 (n : Nat) : nI n &&& 127 = nI (n % 128) := by
  apply Int32.toBitVec_inj.mp
  rw [Int32.toBitVec_and]
  show BitVec.ofNat 32 n &&& BitVec.ofNat 32 127 = BitVec.ofNat 32 (n % 128)
  apply BitVec.eq_of_toNat_eq
  rw [BitVec.toNat_and, BitVec.toNat_ofNat, BitVec.toNat_ofNat, BitVec.toNat_ofNat, show 127 % 2 ^ 32 = 2 ^ 7 - 1 by decide, Nat.and_two_pow_sub_one_eq_mod]
  omega
section
variable {d : Nat} {S : pm_T} {Q : Option Value → pm_T → Prop} {n : Nat}
theorem pc_h1 (hn : n < 2 ^ 64) : ((lN n).toUInt64 >>> ((1 : Int32).toInt64.toUInt64 &&& Int64.toUInt64 63)).toInt64 = lN (n / 2) := wb_shr (k := 1) hn (by decide)
theorem pc_h2 (hn : n < 2 ^ 64) : ((lN n).toUInt64 >>> ((2 : Int32).toInt64.toUInt64 &&& Int64.toUInt64 63)).toInt64 = lN (n / 4) := wb_shr (k := 2) hn (by decide)
theorem pc_h4 (hn : n < 2 ^ 64) : ((lN n).toUInt64 >>> ((4 : Int32).toInt64.toUInt64 &&& Int64.toUInt64 63)).toInt64 = lN (n / 16) := wb_shr (k := 4) hn (by decide)
theorem pc_h8 (hn : n < 2 ^ 64) : ((lN n).toUInt64 >>> ((8 : Int32).toInt64.toUInt64 &&& Int64.toUInt64 63)).toInt64 = lN (n / 256) := wb_shr (k := 8) hn (by decide)
theorem pc_h16 (hn : n < 2 ^ 64) : ((lN n).toUInt64 >>> ((16 : Int32).toInt64.toUInt64 &&& Int64.toUInt64 63)).toInt64 = lN (n / 65536) := wb_shr (k := 16) hn (by decide)
theorem pc_h32 (hn : n < 2 ^ 64) : ((lN n).toUInt64 >>> ((32 : Int32).toInt64.toUInt64 &&& Int64.toUInt64 63)).toInt64 = lN (n / 4294967296) := wb_shr (k := 32) hn (by decide)
theorem pc_k1 : (6148914691236517205 : Int64) = lN (pc_M 85 8) := by decide +kernel
theorem pc_k2 : (3689348814741910323 : Int64) = lN (pc_M 51 8) := by decide +kernel
theorem pc_k3 : (1085102592571150095 : Int64) = lN (pc_M 15 8) := by decide +kernel
theorem c_bitCount {v : Int64} : pm_N d 142 [.long v] S Q = Q (some (.int (nI (sp_cnt (bl v) 64)))) S := by
  obtain ⟨N, hN, rfl⟩ := wb_of v
  have hN' : N < 256 ^ 8 := hN
  have m1 : pc_M 85 8 < 2 ^ 64 := by decide
  have m2 : pc_M 51 8 < 2 ^ 64 := by decide
  have m3 : pc_M 15 8 < 2 ^ 64 := by decide
  obtain ⟨a1, a2⟩ := pc_s1 8 N hN'
  have A : pc_m pc_a 8 N < 2 ^ 64 := pc_lt pc_fa 8 N
  have B0 := pc_s2 8 _ (pc_lt pc_fa 8 N)
  rw [pc_cb pc_a pc_b pc_fa] at B0
  have B : pc_m (fun b => pc_b (pc_a b)) 8 N < 2 ^ 64 := pc_lt (fun b hb => pc_fb _ (pc_fa b hb)) 8 N
  obtain ⟨c1, c2⟩ := pc_s3 8 _ B (pc_4m 8 N)
  rw [pc_cb (fun b => pc_b (pc_a b)) pc_c (fun b hb => pc_fb _ (pc_fa b hb))] at c1
  obtain ⟨X, x1, x2, x3, x4, x5, x6⟩ := pc_end N
  rw [x2] at c1
  have hb : sp_cnt (bl (lN N)) 64 = sp_cnt (fun i => N.testBit i) 64 := sp_cnt_congr (fun e he => bl_lN hN e)
  rw [hb, ← x6]
  have d1 : N / 2 < 2 ^ 64 := by omega
  have d2 : pc_m pc_a 8 N / 4 < 2 ^ 64 := by omega
  have c2' : pc_m (fun b => pc_b (pc_a b)) 8 N + pc_m (fun b => pc_b (pc_a b)) 8 N / 16 < 2 ^ 64 := c2
  simp only [q142_0, q142_1, q142_2, q142_3, q142_4, q142_7, q142_8, q142_9, q142_10, q142_11, q142_14, q142_15, q142_16, q142_17, q142_18, q142_21, q142_22, q142_23, q142_24, q142_25, q142_26, q142_27, q142_28, q142_29, q142_32, q142_33, q142_34, q142_35, q142_36, q142_38, q142_39, q142_40, q142_41, q142_42, q142_43, q142_45, q142_46, q142_47, q142_48, q142_49, q142_50, q142_52, q142_53, q142_54, q142_55, q142_56, q142_57, q142_59, q142_60, q142_e, pc_k1, pc_k2, pc_k3, pc_h1 hN, wb_and d1 m1, wb_sub hN a1, a2, wb_and A m2, pc_h2 A, wb_and d2 m2, wb_add, B0, pc_h4 B, wb_and c2' m3, c1, pc_h8 (show X < 2 ^ 64 by omega), pc_h16 (show X + X / 256 < 2 ^ 64 by omega), pc_h32 (show X + X / 256 + (X + X / 256) / 65536 < 2 ^ 64 by omega), wb_i, wb_127]
end
