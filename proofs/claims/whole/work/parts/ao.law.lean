/-! ===== THE LAW: both keep step ===== -/
section
variable {P : Nat → Prop} {S S' : pm_T} {m x b L k d n M nw : Nat} {Z : sp_S} {Q : Option Value → pm_T → Prop}
theorem sM_frO (h : sM S m) (hf : frO P S S') (hP : ∀ b, mO m b → ¬ P b) : sM S' m := by
  have e0 := hf m (hP m ⟨by omega, by omega⟩)
  refine ⟨e0.1.trans h.1, fun q hq => ?_⟩
  obtain ⟨h1, h2⟩ := h.2 q hq
  have hl : q.2.1 < 34 := (by decide : ∀ q ∈ sM_t, q.2.1 < 34) q hq
  exact ⟨(e0.2.2.2.1 _).trans h1, (hf (m + q.2.1) (hP _ ⟨by omega, by omega⟩)).1.trans h2⟩
theorem mI_frO (h : mI S m Z) (hf : frO P S S') (hP : ∀ b, mO m b → ¬ P b) : mI S' m Z := by
  have e := fun j (hj : j < 34) => hf (m + j) (hP (m + j) ⟨by omega, by omega⟩)
  have g : ∀ k, pm_gi S' m k = pm_gi S m k := (e 0 (by decide)).2.1
  have zi := fun j (hj : j < 34) => (e j hj).2.2.2.2.1
  have zl := fun j (hj : j < 34) => (e j hj).2.2.2.2.2.1
  have hM := sM_frO h.1.1 hf hP
  obtain ⟨⟨-, h2⟩, h3⟩ := h
  unfold mTs mLb mG mC mR mH mU at h2
  unfold mAll mC mR mH mU at h3
  refine ⟨⟨hM, ?_⟩, ?_⟩
  · unfold mTs mLb mG mC mR mH mU
    simp only [g, zi 1 (by decide), zi 2 (by decide), zi 3 (by decide), zi 4 (by decide), zi 5 (by decide), zi 6 (by decide), zi 7 (by decide), zi 8 (by decide), zi 9 (by decide), zl 10 (by decide), zi 11 (by decide), zi 12 (by decide), zi 13 (by decide), zi 14 (by decide), zl 15 (by decide), zi 16 (by decide), zi 17 (by decide), zi 18 (by decide), zi 19 (by decide), zi 20 (by decide), zi 21 (by decide), zi 22 (by decide), zl 23 (by decide), zi 24 (by decide), zi 25 (by decide)]
    exact h2
  · unfold mAll mC mR mH mU
    simp only [g, zi 7 (by decide), zi 8 (by decide), zi 9 (by decide), zl 10 (by decide), zi 11 (by decide), zi 12 (by decide), zi 13 (by decide), zi 14 (by decide), zl 15 (by decide), zi 16 (by decide), zi 17 (by decide), zi 18 (by decide), zi 19 (by decide), zi 20 (by decide)]
    exact h3
/-- both hold the same -/
def lI (b L x : Nat) (S : pm_T) (k : Nat) : Prop := ∃ Z nw M, wf Z ∧ cI S x Z nw M ∧ mI S (x + 18) Z ∧ nw ≤ k + 1 ∧ pm_sh S b = .inl (9, L)
theorem and31 (v : Int32) : ∃ w, w < 32 ∧ v &&& 31 = nI w := by
  obtain ⟨n, hn, rfl⟩ := wb_of32 v
  refine ⟨n % 32, Nat.mod_lt _ (by decide), ?_⟩
  apply Int32.toBitVec_inj.mp
  rw [Int32.toBitVec_and]
  show BitVec.ofNat 32 n &&& BitVec.ofNat 32 31 = BitVec.ofNat 32 (n % 32)
  apply BitVec.eq_of_toNat_eq
  rw [BitVec.toNat_and, BitVec.toNat_ofNat, BitVec.toNat_ofNat, BitVec.toNat_ofNat, show 31 % 2 ^ 32 = 2 ^ 5 - 1 by decide, Nat.and_two_pow_sub_one_eq_mod]
  omega
/-- what the class leaves alone -/
theorem l_after (hb : b < x) (f : frO (cO x) S S') : pm_sh S' b = pm_sh S b ∧ ∀ i, pm_zi S' b i = pm_zi S b i := ⟨(f b (by unfold cO; omega)).1, (f b (by unfold cO; omega)).2.2.2.2.1⟩
theorem l_after' (hb : b < x) (f : mF (x + 18) S S') : pm_sh S' b = pm_sh S b := (f.1 b (by unfold mO; omega)).1
theorem l_m (h : mI S (x + 18) Z) (f : frO (cO x) S S') : mI S' (x + 18) Z := mI_frO h f (fun b q1 q2 => by unfold mO at q1; unfold cO at q2; omega)
theorem l_c (h : cI S x Z nw M) (f : mF (x + 18) S S') : cI S' x Z nw M := cI_frO h f.1 (fun b q1 q2 => by unfold mO at q2; unfold cO at q1; omega) f.2.1 f.2.2
set_option maxHeartbeats 1000000 in
theorem l_graph (hb : b < x) (hk : 6 * k + 6 ≤ L) (hL : L ≤ 3072) (hw : wf Z) (hC : cI S x Z nw M) (hM : mI S (x + 18) Z) (hn : nw ≤ k + 1) (hs : pm_sh S b = .inl (9, L)) (hN : ∀ S', lI b L x S' (k + 1) → pm_V (d + 93) 146 971 [.ref b, .ref x, .ref (x + 18), .int (nI (6 * k))] [] S' Q) : pm_V (d + 93) 146 120 [.ref b, .ref x, .ref (x + 18), .int (nI (6 * k))] [] S Q := by
  have hnw : nw < 2000 := by omega
  have i1 : nI (6 * k) + 1 = nI (6 * k + 1) := nI_1 _
  have i2 : nI (6 * k) + 2 = nI (6 * k + 2) := (nI_add (6 * k) 2)
  have i3 : nI (6 * k) + 3 = nI (6 * k + 3) := (nI_add (6 * k) 3)
  have i4 : nI (6 * k) + 4 = nI (6 * k + 4) := (nI_add (6 * k) 4)
  have i5 : nI (6 * k) + 5 = nI (6 * k + 5) := (nI_add (6 * k) 5)
  have a1 := pm_ar_nI hs (show 6 * k + 1 < L by omega) (by omega)
  have a2 := pm_ar_nI hs (show 6 * k + 2 < L by omega) (by omega)
  have a3 := pm_ar_nI hs (show 6 * k + 3 < L by omega) (by omega)
  have a4 := pm_ar_nI hs (show 6 * k + 4 < L by omega) (by omega)
  have a5 := pm_ar_nI hs (show 6 * k + 5 < L by omega) (by omega)
  have n1 := nI_clamp (show 6 * k + 1 < 2 ^ 31 by omega)
  have n2 := nI_clamp (show 6 * k + 2 < 2 ^ 31 by omega)
  have n3 := nI_clamp (show 6 * k + 3 < 2 ^ 31 by omega)
  have n4 := nI_clamp (show 6 * k + 4 < 2 ^ 31 by omega)
  have n5 := nI_clamp (show 6 * k + 5 < 2 ^ 31 by omega)
  have mid : ∀ S1, frO (cO x) S S1 → pm_sh S1 b = .inl (9, L) ∧ (∀ i, pm_zi S1 b i = pm_zi S b i) ∧ mI S1 (x + 18) Z := fun S1 f1 => ⟨(l_after hb f1).1.trans hs, (l_after hb f1).2, l_m hM f1⟩
  simp only [q146_120, q146_120N, q146_121, q146_122, q146_123, q146_124, q146_125, q146_126, q146_129, q146_129N, q146_130, q146_131, q146_132, q146_133, q146_134, q146_135, q146_138, q146_141, q146_142, i1, i2, i3, i4, i5, a1, a2, a3, a4, a5, n1, n2, n3, n4, n5, hC.1.1]
  refine c_graph hw hC fun S1 M1 u1 f1 => ?_
  obtain ⟨s1, z1, g1⟩ := mid S1 f1
  have a1 := pm_ar_nI s1 (show 6 * k + 1 < L by omega) (by omega)
  have a2 := pm_ar_nI s1 (show 6 * k + 2 < L by omega) (by omega)
  have a3 := pm_ar_nI s1 (show 6 * k + 3 < L by omega) (by omega)
  have a4 := pm_ar_nI s1 (show 6 * k + 4 < L by omega) (by omega)
  have a5 := pm_ar_nI s1 (show 6 * k + 5 < L by omega) (by omega)
  simp only [pm_tl_some, q146_120, q146_120N, q146_121, q146_122, q146_123, q146_124, q146_125, q146_126, q146_129, q146_129N, q146_130, q146_131, q146_132, q146_133, q146_134, q146_135, q146_138, q146_141, q146_142, i1, i2, i3, i4, i5, a1, a2, a3, a4, a5, n1, n2, n3, n4, n5, z1, sM_0 g1.1.1]
  refine m_graph hw g1 fun S2 u2 f2 => ?_
  simp only [pm_tl_some, q146_120, q146_120N, q146_121, q146_122, q146_123, q146_124, q146_125, q146_126, q146_129, q146_129N, q146_130, q146_131, q146_132, q146_133, q146_134, q146_135, q146_138, q146_141, q146_142, lg_cmp_eq, if_true]
  exact hN S2 ⟨_, _, _, op_graph_wf hw, l_c u1 f2, u2, (by omega), (l_after' hb f2).trans s1⟩

set_option maxHeartbeats 1000000 in
theorem l_arc (hb : b < x) (hk : 6 * k + 6 ≤ L) (hL : L ≤ 3072) (hw : wf Z) (hC : cI S x Z nw M) (hM : mI S (x + 18) Z) (hn : nw ≤ k + 1) (hs : pm_sh S b = .inl (9, L)) (hN : ∀ S', lI b L x S' (k + 1) → pm_V (d + 93) 146 971 [.ref b, .ref x, .ref (x + 18), .int (nI (6 * k))] [] S' Q) : pm_V (d + 93) 146 143 [.ref b, .ref x, .ref (x + 18), .int (nI (6 * k))] [] S Q := by
  have hnw : nw < 2000 := by omega
  have i1 : nI (6 * k) + 1 = nI (6 * k + 1) := nI_1 _
  have i2 : nI (6 * k) + 2 = nI (6 * k + 2) := (nI_add (6 * k) 2)
  have i3 : nI (6 * k) + 3 = nI (6 * k + 3) := (nI_add (6 * k) 3)
  have i4 : nI (6 * k) + 4 = nI (6 * k + 4) := (nI_add (6 * k) 4)
  have i5 : nI (6 * k) + 5 = nI (6 * k + 5) := (nI_add (6 * k) 5)
  have a1 := pm_ar_nI hs (show 6 * k + 1 < L by omega) (by omega)
  have a2 := pm_ar_nI hs (show 6 * k + 2 < L by omega) (by omega)
  have a3 := pm_ar_nI hs (show 6 * k + 3 < L by omega) (by omega)
  have a4 := pm_ar_nI hs (show 6 * k + 4 < L by omega) (by omega)
  have a5 := pm_ar_nI hs (show 6 * k + 5 < L by omega) (by omega)
  have n1 := nI_clamp (show 6 * k + 1 < 2 ^ 31 by omega)
  have n2 := nI_clamp (show 6 * k + 2 < 2 ^ 31 by omega)
  have n3 := nI_clamp (show 6 * k + 3 < 2 ^ 31 by omega)
  have n4 := nI_clamp (show 6 * k + 4 < 2 ^ 31 by omega)
  have n5 := nI_clamp (show 6 * k + 5 < 2 ^ 31 by omega)
  have mid : ∀ S1, frO (cO x) S S1 → pm_sh S1 b = .inl (9, L) ∧ (∀ i, pm_zi S1 b i = pm_zi S b i) ∧ mI S1 (x + 18) Z := fun S1 f1 => ⟨(l_after hb f1).1.trans hs, (l_after hb f1).2, l_m hM f1⟩
  simp only [q146_143, q146_143N, q146_144, q146_145, q146_146, q146_147, q146_148, q146_149, q146_150, q146_151, q146_152, q146_153, q146_154, q146_155, q146_156, q146_157, q146_158, q146_159, q146_160, q146_161, q146_162, q146_163, q146_164, q146_165, q146_167, q146_168, q146_169, q146_170, q146_171, q146_172, q146_173, q146_174, q146_177, q146_178, q146_179, q146_182, q146_182N, q146_183, q146_184, q146_185, q146_186, q146_187, q146_188, q146_189, q146_190, q146_191, q146_192, q146_193, q146_194, q146_195, q146_196, q146_197, q146_198, q146_199, q146_200, q146_201, q146_202, q146_203, q146_204, q146_206, q146_207, q146_208, q146_209, q146_210, q146_211, q146_212, q146_213, q146_216, q146_217, q146_218, q146_221, q146_224, q146_225, i1, i2, i3, i4, i5, a1, a2, a3, a4, a5, n1, n2, n3, n4, n5, hC.1.1]
  refine c_arc hw hnw hC fun S1 nw1 u1 le1 f1 => ?_
  obtain ⟨s1, z1, g1⟩ := mid S1 f1
  have a1 := pm_ar_nI s1 (show 6 * k + 1 < L by omega) (by omega)
  have a2 := pm_ar_nI s1 (show 6 * k + 2 < L by omega) (by omega)
  have a3 := pm_ar_nI s1 (show 6 * k + 3 < L by omega) (by omega)
  have a4 := pm_ar_nI s1 (show 6 * k + 4 < L by omega) (by omega)
  have a5 := pm_ar_nI s1 (show 6 * k + 5 < L by omega) (by omega)
  simp only [pm_tl_some, q146_143, q146_143N, q146_144, q146_145, q146_146, q146_147, q146_148, q146_149, q146_150, q146_151, q146_152, q146_153, q146_154, q146_155, q146_156, q146_157, q146_158, q146_159, q146_160, q146_161, q146_162, q146_163, q146_164, q146_165, q146_167, q146_168, q146_169, q146_170, q146_171, q146_172, q146_173, q146_174, q146_177, q146_178, q146_179, q146_182, q146_182N, q146_183, q146_184, q146_185, q146_186, q146_187, q146_188, q146_189, q146_190, q146_191, q146_192, q146_193, q146_194, q146_195, q146_196, q146_197, q146_198, q146_199, q146_200, q146_201, q146_202, q146_203, q146_204, q146_206, q146_207, q146_208, q146_209, q146_210, q146_211, q146_212, q146_213, q146_216, q146_217, q146_218, q146_221, q146_224, q146_225, i1, i2, i3, i4, i5, a1, a2, a3, a4, a5, n1, n2, n3, n4, n5, z1, sM_0 g1.1.1]
  refine m_arc hw g1 fun S2 u2 f2 => ?_
  simp only [pm_tl_some, q146_143, q146_143N, q146_144, q146_145, q146_146, q146_147, q146_148, q146_149, q146_150, q146_151, q146_152, q146_153, q146_154, q146_155, q146_156, q146_157, q146_158, q146_159, q146_160, q146_161, q146_162, q146_163, q146_164, q146_165, q146_167, q146_168, q146_169, q146_170, q146_171, q146_172, q146_173, q146_174, q146_177, q146_178, q146_179, q146_182, q146_182N, q146_183, q146_184, q146_185, q146_186, q146_187, q146_188, q146_189, q146_190, q146_191, q146_192, q146_193, q146_194, q146_195, q146_196, q146_197, q146_198, q146_199, q146_200, q146_201, q146_202, q146_203, q146_204, q146_206, q146_207, q146_208, q146_209, q146_210, q146_211, q146_212, q146_213, q146_216, q146_217, q146_218, q146_221, q146_224, q146_225, lg_cmp_eq, if_true]
  exact hN S2 ⟨_, _, _, op_arc_wf hw, l_c u1 f2, u2, (by omega), (l_after' hb f2).trans s1⟩

set_option maxHeartbeats 1000000 in
theorem l_set (hb : b < x) (hk : 6 * k + 6 ≤ L) (hL : L ≤ 3072) (hw : wf Z) (hC : cI S x Z nw M) (hM : mI S (x + 18) Z) (hn : nw ≤ k + 1) (hs : pm_sh S b = .inl (9, L)) (hN : ∀ S', lI b L x S' (k + 1) → pm_V (d + 93) 146 971 [.ref b, .ref x, .ref (x + 18), .int (nI (6 * k))] [] S' Q) : pm_V (d + 93) 146 226 [.ref b, .ref x, .ref (x + 18), .int (nI (6 * k))] [] S Q := by
  have hnw : nw < 2000 := by omega
  have i1 : nI (6 * k) + 1 = nI (6 * k + 1) := nI_1 _
  have i2 : nI (6 * k) + 2 = nI (6 * k + 2) := (nI_add (6 * k) 2)
  have i3 : nI (6 * k) + 3 = nI (6 * k + 3) := (nI_add (6 * k) 3)
  have i4 : nI (6 * k) + 4 = nI (6 * k + 4) := (nI_add (6 * k) 4)
  have i5 : nI (6 * k) + 5 = nI (6 * k + 5) := (nI_add (6 * k) 5)
  have a1 := pm_ar_nI hs (show 6 * k + 1 < L by omega) (by omega)
  have a2 := pm_ar_nI hs (show 6 * k + 2 < L by omega) (by omega)
  have a3 := pm_ar_nI hs (show 6 * k + 3 < L by omega) (by omega)
  have a4 := pm_ar_nI hs (show 6 * k + 4 < L by omega) (by omega)
  have a5 := pm_ar_nI hs (show 6 * k + 5 < L by omega) (by omega)
  have n1 := nI_clamp (show 6 * k + 1 < 2 ^ 31 by omega)
  have n2 := nI_clamp (show 6 * k + 2 < 2 ^ 31 by omega)
  have n3 := nI_clamp (show 6 * k + 3 < 2 ^ 31 by omega)
  have n4 := nI_clamp (show 6 * k + 4 < 2 ^ 31 by omega)
  have n5 := nI_clamp (show 6 * k + 5 < 2 ^ 31 by omega)
  have mid : ∀ S1, frO (cO x) S S1 → pm_sh S1 b = .inl (9, L) ∧ (∀ i, pm_zi S1 b i = pm_zi S b i) ∧ mI S1 (x + 18) Z := fun S1 f1 => ⟨(l_after hb f1).1.trans hs, (l_after hb f1).2, l_m hM f1⟩
  simp only [q146_226, q146_226N, q146_227, q146_228, q146_229, q146_230, q146_231, q146_232, q146_233, q146_234, q146_235, q146_236, q146_237, q146_238, q146_239, q146_240, q146_241, q146_242, q146_243, q146_244, q146_245, q146_246, q146_247, q146_248, q146_250, q146_251, q146_252, q146_253, q146_254, q146_255, q146_256, q146_257, q146_260, q146_261, q146_262, q146_265, q146_265N, q146_266, q146_267, q146_268, q146_269, q146_270, q146_271, q146_272, q146_273, q146_274, q146_275, q146_276, q146_277, q146_278, q146_279, q146_280, q146_281, q146_282, q146_283, q146_284, q146_285, q146_286, q146_287, q146_289, q146_290, q146_291, q146_292, q146_293, q146_294, q146_295, q146_296, q146_299, q146_300, q146_301, q146_304, q146_307, q146_308, i1, i2, i3, i4, i5, a1, a2, a3, a4, a5, n1, n2, n3, n4, n5, hC.1.1]
  refine c_set hw hnw hC fun S1 nw1 u1 le1 f1 => ?_
  obtain ⟨s1, z1, g1⟩ := mid S1 f1
  have a1 := pm_ar_nI s1 (show 6 * k + 1 < L by omega) (by omega)
  have a2 := pm_ar_nI s1 (show 6 * k + 2 < L by omega) (by omega)
  have a3 := pm_ar_nI s1 (show 6 * k + 3 < L by omega) (by omega)
  have a4 := pm_ar_nI s1 (show 6 * k + 4 < L by omega) (by omega)
  have a5 := pm_ar_nI s1 (show 6 * k + 5 < L by omega) (by omega)
  simp only [pm_tl_some, q146_226, q146_226N, q146_227, q146_228, q146_229, q146_230, q146_231, q146_232, q146_233, q146_234, q146_235, q146_236, q146_237, q146_238, q146_239, q146_240, q146_241, q146_242, q146_243, q146_244, q146_245, q146_246, q146_247, q146_248, q146_250, q146_251, q146_252, q146_253, q146_254, q146_255, q146_256, q146_257, q146_260, q146_261, q146_262, q146_265, q146_265N, q146_266, q146_267, q146_268, q146_269, q146_270, q146_271, q146_272, q146_273, q146_274, q146_275, q146_276, q146_277, q146_278, q146_279, q146_280, q146_281, q146_282, q146_283, q146_284, q146_285, q146_286, q146_287, q146_289, q146_290, q146_291, q146_292, q146_293, q146_294, q146_295, q146_296, q146_299, q146_300, q146_301, q146_304, q146_307, q146_308, i1, i2, i3, i4, i5, a1, a2, a3, a4, a5, n1, n2, n3, n4, n5, z1, sM_0 g1.1.1]
  refine m_set hw g1 fun S2 u2 f2 => ?_
  simp only [pm_tl_some, q146_226, q146_226N, q146_227, q146_228, q146_229, q146_230, q146_231, q146_232, q146_233, q146_234, q146_235, q146_236, q146_237, q146_238, q146_239, q146_240, q146_241, q146_242, q146_243, q146_244, q146_245, q146_246, q146_247, q146_248, q146_250, q146_251, q146_252, q146_253, q146_254, q146_255, q146_256, q146_257, q146_260, q146_261, q146_262, q146_265, q146_265N, q146_266, q146_267, q146_268, q146_269, q146_270, q146_271, q146_272, q146_273, q146_274, q146_275, q146_276, q146_277, q146_278, q146_279, q146_280, q146_281, q146_282, q146_283, q146_284, q146_285, q146_286, q146_287, q146_289, q146_290, q146_291, q146_292, q146_293, q146_294, q146_295, q146_296, q146_299, q146_300, q146_301, q146_304, q146_307, q146_308, lg_cmp_eq, if_true]
  exact hN S2 ⟨_, _, _, op_set_wf hw, l_c u1 f2, u2, (by omega), (l_after' hb f2).trans s1⟩

set_option maxHeartbeats 1000000 in
theorem l_label (hb : b < x) (hk : 6 * k + 6 ≤ L) (hL : L ≤ 3072) (hw : wf Z) (hC : cI S x Z nw M) (hM : mI S (x + 18) Z) (hn : nw ≤ k + 1) (hs : pm_sh S b = .inl (9, L)) (hN : ∀ S', lI b L x S' (k + 1) → pm_V (d + 93) 146 971 [.ref b, .ref x, .ref (x + 18), .int (nI (6 * k))] [] S' Q) : pm_V (d + 93) 146 309 [.ref b, .ref x, .ref (x + 18), .int (nI (6 * k))] [] S Q := by
  have hnw : nw < 2000 := by omega
  have i1 : nI (6 * k) + 1 = nI (6 * k + 1) := nI_1 _
  have i2 : nI (6 * k) + 2 = nI (6 * k + 2) := (nI_add (6 * k) 2)
  have i3 : nI (6 * k) + 3 = nI (6 * k + 3) := (nI_add (6 * k) 3)
  have i4 : nI (6 * k) + 4 = nI (6 * k + 4) := (nI_add (6 * k) 4)
  have i5 : nI (6 * k) + 5 = nI (6 * k + 5) := (nI_add (6 * k) 5)
  have a1 := pm_ar_nI hs (show 6 * k + 1 < L by omega) (by omega)
  have a2 := pm_ar_nI hs (show 6 * k + 2 < L by omega) (by omega)
  have a3 := pm_ar_nI hs (show 6 * k + 3 < L by omega) (by omega)
  have a4 := pm_ar_nI hs (show 6 * k + 4 < L by omega) (by omega)
  have a5 := pm_ar_nI hs (show 6 * k + 5 < L by omega) (by omega)
  have n1 := nI_clamp (show 6 * k + 1 < 2 ^ 31 by omega)
  have n2 := nI_clamp (show 6 * k + 2 < 2 ^ 31 by omega)
  have n3 := nI_clamp (show 6 * k + 3 < 2 ^ 31 by omega)
  have n4 := nI_clamp (show 6 * k + 4 < 2 ^ 31 by omega)
  have n5 := nI_clamp (show 6 * k + 5 < 2 ^ 31 by omega)
  have mid : ∀ S1, frO (cO x) S S1 → pm_sh S1 b = .inl (9, L) ∧ (∀ i, pm_zi S1 b i = pm_zi S b i) ∧ mI S1 (x + 18) Z := fun S1 f1 => ⟨(l_after hb f1).1.trans hs, (l_after hb f1).2, l_m hM f1⟩
  simp only [q146_309, q146_309N, q146_310, q146_311, q146_312, q146_313, q146_314, q146_315, q146_316, q146_317, q146_318, q146_319, q146_320, q146_321, q146_322, q146_323, q146_324, q146_325, q146_328, q146_328N, q146_329, q146_330, q146_331, q146_332, q146_333, q146_334, q146_335, q146_336, q146_337, q146_338, q146_339, q146_340, q146_341, q146_342, q146_343, q146_344, q146_347, q146_350, q146_351, i1, i2, i3, i4, i5, a1, a2, a3, a4, a5, n1, n2, n3, n4, n5, hC.1.1]
  refine c_label hw hnw hC fun S1 nw1 u1 le1 f1 => ?_
  obtain ⟨s1, z1, g1⟩ := mid S1 f1
  have a1 := pm_ar_nI s1 (show 6 * k + 1 < L by omega) (by omega)
  have a2 := pm_ar_nI s1 (show 6 * k + 2 < L by omega) (by omega)
  have a3 := pm_ar_nI s1 (show 6 * k + 3 < L by omega) (by omega)
  have a4 := pm_ar_nI s1 (show 6 * k + 4 < L by omega) (by omega)
  have a5 := pm_ar_nI s1 (show 6 * k + 5 < L by omega) (by omega)
  simp only [pm_tl_some, q146_309, q146_309N, q146_310, q146_311, q146_312, q146_313, q146_314, q146_315, q146_316, q146_317, q146_318, q146_319, q146_320, q146_321, q146_322, q146_323, q146_324, q146_325, q146_328, q146_328N, q146_329, q146_330, q146_331, q146_332, q146_333, q146_334, q146_335, q146_336, q146_337, q146_338, q146_339, q146_340, q146_341, q146_342, q146_343, q146_344, q146_347, q146_350, q146_351, i1, i2, i3, i4, i5, a1, a2, a3, a4, a5, n1, n2, n3, n4, n5, z1, sM_0 g1.1.1]
  refine m_label hw g1 fun S2 u2 f2 => ?_
  simp only [pm_tl_some, q146_309, q146_309N, q146_310, q146_311, q146_312, q146_313, q146_314, q146_315, q146_316, q146_317, q146_318, q146_319, q146_320, q146_321, q146_322, q146_323, q146_324, q146_325, q146_328, q146_328N, q146_329, q146_330, q146_331, q146_332, q146_333, q146_334, q146_335, q146_336, q146_337, q146_338, q146_339, q146_340, q146_341, q146_342, q146_343, q146_344, q146_347, q146_350, q146_351, lg_cmp_eq, if_true]
  exact hN S2 ⟨_, _, _, op_label_wf hw, l_c u1 f2, u2, (by omega), (l_after' hb f2).trans s1⟩

set_option maxHeartbeats 1000000 in
theorem l_test (hb : b < x) (hk : 6 * k + 6 ≤ L) (hL : L ≤ 3072) (hw : wf Z) (hC : cI S x Z nw M) (hM : mI S (x + 18) Z) (hn : nw ≤ k + 1) (hs : pm_sh S b = .inl (9, L)) (hN : ∀ S', lI b L x S' (k + 1) → pm_V (d + 93) 146 971 [.ref b, .ref x, .ref (x + 18), .int (nI (6 * k))] [] S' Q) : pm_V (d + 93) 146 352 [.ref b, .ref x, .ref (x + 18), .int (nI (6 * k))] [] S Q := by
  have hnw : nw < 2000 := by omega
  have i1 : nI (6 * k) + 1 = nI (6 * k + 1) := nI_1 _
  have i2 : nI (6 * k) + 2 = nI (6 * k + 2) := (nI_add (6 * k) 2)
  have i3 : nI (6 * k) + 3 = nI (6 * k + 3) := (nI_add (6 * k) 3)
  have i4 : nI (6 * k) + 4 = nI (6 * k + 4) := (nI_add (6 * k) 4)
  have i5 : nI (6 * k) + 5 = nI (6 * k + 5) := (nI_add (6 * k) 5)
  have a1 := pm_ar_nI hs (show 6 * k + 1 < L by omega) (by omega)
  have a2 := pm_ar_nI hs (show 6 * k + 2 < L by omega) (by omega)
  have a3 := pm_ar_nI hs (show 6 * k + 3 < L by omega) (by omega)
  have a4 := pm_ar_nI hs (show 6 * k + 4 < L by omega) (by omega)
  have a5 := pm_ar_nI hs (show 6 * k + 5 < L by omega) (by omega)
  have n1 := nI_clamp (show 6 * k + 1 < 2 ^ 31 by omega)
  have n2 := nI_clamp (show 6 * k + 2 < 2 ^ 31 by omega)
  have n3 := nI_clamp (show 6 * k + 3 < 2 ^ 31 by omega)
  have n4 := nI_clamp (show 6 * k + 4 < 2 ^ 31 by omega)
  have n5 := nI_clamp (show 6 * k + 5 < 2 ^ 31 by omega)
  have mid : ∀ S1, frO (cO x) S S1 → pm_sh S1 b = .inl (9, L) ∧ (∀ i, pm_zi S1 b i = pm_zi S b i) ∧ mI S1 (x + 18) Z := fun S1 f1 => ⟨(l_after hb f1).1.trans hs, (l_after hb f1).2, l_m hM f1⟩
  simp only [q146_352, q146_352N, q146_353, q146_354, q146_355, q146_356, q146_357, q146_358, q146_359, q146_360, q146_361, q146_362, q146_363, q146_364, q146_366, q146_367, q146_368, q146_369, q146_370, q146_371, q146_372, q146_373, q146_376, q146_377, q146_378, q146_379, q146_380, q146_381, q146_382, q146_383, q146_384, q146_385, q146_386, q146_387, q146_388, q146_391, q146_391N, q146_392, q146_393, q146_394, q146_395, q146_396, q146_397, q146_398, q146_399, q146_400, q146_401, q146_402, q146_403, q146_405, q146_406, q146_407, q146_408, q146_409, q146_410, q146_411, q146_412, q146_415, q146_416, q146_417, q146_418, q146_419, q146_420, q146_421, q146_422, q146_423, q146_424, q146_425, q146_426, q146_427, q146_430, q146_433, q146_434, i1, i2, i3, i4, i5, a1, a2, a3, a4, a5, n1, n2, n3, n4, n5, hC.1.1]
  refine c_test hw hC fun S1 u1 f1 => ?_
  obtain ⟨s1, z1, g1⟩ := mid S1 f1
  have a1 := pm_ar_nI s1 (show 6 * k + 1 < L by omega) (by omega)
  have a2 := pm_ar_nI s1 (show 6 * k + 2 < L by omega) (by omega)
  have a3 := pm_ar_nI s1 (show 6 * k + 3 < L by omega) (by omega)
  have a4 := pm_ar_nI s1 (show 6 * k + 4 < L by omega) (by omega)
  have a5 := pm_ar_nI s1 (show 6 * k + 5 < L by omega) (by omega)
  simp only [pm_tl_some, q146_352, q146_352N, q146_353, q146_354, q146_355, q146_356, q146_357, q146_358, q146_359, q146_360, q146_361, q146_362, q146_363, q146_364, q146_366, q146_367, q146_368, q146_369, q146_370, q146_371, q146_372, q146_373, q146_376, q146_377, q146_378, q146_379, q146_380, q146_381, q146_382, q146_383, q146_384, q146_385, q146_386, q146_387, q146_388, q146_391, q146_391N, q146_392, q146_393, q146_394, q146_395, q146_396, q146_397, q146_398, q146_399, q146_400, q146_401, q146_402, q146_403, q146_405, q146_406, q146_407, q146_408, q146_409, q146_410, q146_411, q146_412, q146_415, q146_416, q146_417, q146_418, q146_419, q146_420, q146_421, q146_422, q146_423, q146_424, q146_425, q146_426, q146_427, q146_430, q146_433, q146_434, i1, i2, i3, i4, i5, a1, a2, a3, a4, a5, n1, n2, n3, n4, n5, z1, sM_0 g1.1.1]
  refine m_test hw g1 fun S2 u2 f2 => ?_
  simp only [pm_tl_some, q146_352, q146_352N, q146_353, q146_354, q146_355, q146_356, q146_357, q146_358, q146_359, q146_360, q146_361, q146_362, q146_363, q146_364, q146_366, q146_367, q146_368, q146_369, q146_370, q146_371, q146_372, q146_373, q146_376, q146_377, q146_378, q146_379, q146_380, q146_381, q146_382, q146_383, q146_384, q146_385, q146_386, q146_387, q146_388, q146_391, q146_391N, q146_392, q146_393, q146_394, q146_395, q146_396, q146_397, q146_398, q146_399, q146_400, q146_401, q146_402, q146_403, q146_405, q146_406, q146_407, q146_408, q146_409, q146_410, q146_411, q146_412, q146_415, q146_416, q146_417, q146_418, q146_419, q146_420, q146_421, q146_422, q146_423, q146_424, q146_425, q146_426, q146_427, q146_430, q146_433, q146_434, lg_cmp_eq, if_true]
  exact hN S2 ⟨_, _, _, op_test_wf hw, l_c u1 f2, u2, (by omega), (l_after' hb f2).trans s1⟩

set_option maxHeartbeats 1000000 in
theorem l_view (hb : b < x) (hk : 6 * k + 6 ≤ L) (hL : L ≤ 3072) (hw : wf Z) (hC : cI S x Z nw M) (hM : mI S (x + 18) Z) (hn : nw ≤ k + 1) (hs : pm_sh S b = .inl (9, L)) (hN : ∀ S', lI b L x S' (k + 1) → pm_V (d + 93) 146 971 [.ref b, .ref x, .ref (x + 18), .int (nI (6 * k))] [] S' Q) : pm_V (d + 93) 146 435 [.ref b, .ref x, .ref (x + 18), .int (nI (6 * k))] [] S Q := by
  have hnw : nw < 2000 := by omega
  have i1 : nI (6 * k) + 1 = nI (6 * k + 1) := nI_1 _
  have i2 : nI (6 * k) + 2 = nI (6 * k + 2) := (nI_add (6 * k) 2)
  have i3 : nI (6 * k) + 3 = nI (6 * k + 3) := (nI_add (6 * k) 3)
  have i4 : nI (6 * k) + 4 = nI (6 * k + 4) := (nI_add (6 * k) 4)
  have i5 : nI (6 * k) + 5 = nI (6 * k + 5) := (nI_add (6 * k) 5)
  have a1 := pm_ar_nI hs (show 6 * k + 1 < L by omega) (by omega)
  have a2 := pm_ar_nI hs (show 6 * k + 2 < L by omega) (by omega)
  have a3 := pm_ar_nI hs (show 6 * k + 3 < L by omega) (by omega)
  have a4 := pm_ar_nI hs (show 6 * k + 4 < L by omega) (by omega)
  have a5 := pm_ar_nI hs (show 6 * k + 5 < L by omega) (by omega)
  have n1 := nI_clamp (show 6 * k + 1 < 2 ^ 31 by omega)
  have n2 := nI_clamp (show 6 * k + 2 < 2 ^ 31 by omega)
  have n3 := nI_clamp (show 6 * k + 3 < 2 ^ 31 by omega)
  have n4 := nI_clamp (show 6 * k + 4 < 2 ^ 31 by omega)
  have n5 := nI_clamp (show 6 * k + 5 < 2 ^ 31 by omega)
  have mid : ∀ S1, frO (cO x) S S1 → pm_sh S1 b = .inl (9, L) ∧ (∀ i, pm_zi S1 b i = pm_zi S b i) ∧ mI S1 (x + 18) Z := fun S1 f1 => ⟨(l_after hb f1).1.trans hs, (l_after hb f1).2, l_m hM f1⟩
  simp only [q146_435, q146_435N, q146_436, q146_437, q146_438, q146_439, q146_440, q146_441, q146_442, q146_443, q146_444, q146_445, q146_446, q146_447, q146_448, q146_449, q146_450, q146_451, q146_452, q146_453, q146_454, q146_455, q146_456, q146_457, q146_458, q146_459, q146_460, q146_461, q146_464, q146_464N, q146_465, q146_466, q146_467, q146_468, q146_469, q146_470, q146_471, q146_472, q146_473, q146_474, q146_475, q146_476, q146_477, q146_478, q146_479, q146_480, q146_481, q146_482, q146_483, q146_484, q146_485, q146_486, q146_487, q146_488, q146_489, q146_490, q146_493, q146_496, q146_497, i1, i2, i3, i4, i5, a1, a2, a3, a4, a5, n1, n2, n3, n4, n5, hC.1.1]
  refine c_view hw hC fun S1 M1 u1 f1 => ?_
  obtain ⟨s1, z1, g1⟩ := mid S1 f1
  have a1 := pm_ar_nI s1 (show 6 * k + 1 < L by omega) (by omega)
  have a2 := pm_ar_nI s1 (show 6 * k + 2 < L by omega) (by omega)
  have a3 := pm_ar_nI s1 (show 6 * k + 3 < L by omega) (by omega)
  have a4 := pm_ar_nI s1 (show 6 * k + 4 < L by omega) (by omega)
  have a5 := pm_ar_nI s1 (show 6 * k + 5 < L by omega) (by omega)
  simp only [pm_tl_some, q146_435, q146_435N, q146_436, q146_437, q146_438, q146_439, q146_440, q146_441, q146_442, q146_443, q146_444, q146_445, q146_446, q146_447, q146_448, q146_449, q146_450, q146_451, q146_452, q146_453, q146_454, q146_455, q146_456, q146_457, q146_458, q146_459, q146_460, q146_461, q146_464, q146_464N, q146_465, q146_466, q146_467, q146_468, q146_469, q146_470, q146_471, q146_472, q146_473, q146_474, q146_475, q146_476, q146_477, q146_478, q146_479, q146_480, q146_481, q146_482, q146_483, q146_484, q146_485, q146_486, q146_487, q146_488, q146_489, q146_490, q146_493, q146_496, q146_497, i1, i2, i3, i4, i5, a1, a2, a3, a4, a5, n1, n2, n3, n4, n5, z1, sM_0 g1.1.1]
  refine m_view hw g1 fun S2 u2 f2 => ?_
  simp only [pm_tl_some, q146_435, q146_435N, q146_436, q146_437, q146_438, q146_439, q146_440, q146_441, q146_442, q146_443, q146_444, q146_445, q146_446, q146_447, q146_448, q146_449, q146_450, q146_451, q146_452, q146_453, q146_454, q146_455, q146_456, q146_457, q146_458, q146_459, q146_460, q146_461, q146_464, q146_464N, q146_465, q146_466, q146_467, q146_468, q146_469, q146_470, q146_471, q146_472, q146_473, q146_474, q146_475, q146_476, q146_477, q146_478, q146_479, q146_480, q146_481, q146_482, q146_483, q146_484, q146_485, q146_486, q146_487, q146_488, q146_489, q146_490, q146_493, q146_496, q146_497, lg_cmp_eq, if_true]
  exact hN S2 ⟨_, _, _, op_view_wf hw, l_c u1 f2, u2, (by omega), (l_after' hb f2).trans s1⟩

set_option maxHeartbeats 1000000 in
theorem l_live (hb : b < x) (hk : 6 * k + 6 ≤ L) (hL : L ≤ 3072) (hw : wf Z) (hC : cI S x Z nw M) (hM : mI S (x + 18) Z) (hn : nw ≤ k + 1) (hs : pm_sh S b = .inl (9, L)) (hN : ∀ S', lI b L x S' (k + 1) → pm_V (d + 93) 146 971 [.ref b, .ref x, .ref (x + 18), .int (nI (6 * k))] [] S' Q) : pm_V (d + 93) 146 498 [.ref b, .ref x, .ref (x + 18), .int (nI (6 * k))] [] S Q := by
  have hnw : nw < 2000 := by omega
  have i1 : nI (6 * k) + 1 = nI (6 * k + 1) := nI_1 _
  have i2 : nI (6 * k) + 2 = nI (6 * k + 2) := (nI_add (6 * k) 2)
  have i3 : nI (6 * k) + 3 = nI (6 * k + 3) := (nI_add (6 * k) 3)
  have i4 : nI (6 * k) + 4 = nI (6 * k + 4) := (nI_add (6 * k) 4)
  have i5 : nI (6 * k) + 5 = nI (6 * k + 5) := (nI_add (6 * k) 5)
  have a1 := pm_ar_nI hs (show 6 * k + 1 < L by omega) (by omega)
  have a2 := pm_ar_nI hs (show 6 * k + 2 < L by omega) (by omega)
  have a3 := pm_ar_nI hs (show 6 * k + 3 < L by omega) (by omega)
  have a4 := pm_ar_nI hs (show 6 * k + 4 < L by omega) (by omega)
  have a5 := pm_ar_nI hs (show 6 * k + 5 < L by omega) (by omega)
  have n1 := nI_clamp (show 6 * k + 1 < 2 ^ 31 by omega)
  have n2 := nI_clamp (show 6 * k + 2 < 2 ^ 31 by omega)
  have n3 := nI_clamp (show 6 * k + 3 < 2 ^ 31 by omega)
  have n4 := nI_clamp (show 6 * k + 4 < 2 ^ 31 by omega)
  have n5 := nI_clamp (show 6 * k + 5 < 2 ^ 31 by omega)
  have mid : ∀ S1, frO (cO x) S S1 → pm_sh S1 b = .inl (9, L) ∧ (∀ i, pm_zi S1 b i = pm_zi S b i) ∧ mI S1 (x + 18) Z := fun S1 f1 => ⟨(l_after hb f1).1.trans hs, (l_after hb f1).2, l_m hM f1⟩
  simp only [q146_498, q146_498N, q146_499, q146_500, q146_501, q146_502, q146_503, q146_504, q146_505, q146_506, q146_507, q146_508, q146_509, q146_512, q146_513, q146_516, q146_517, q146_520, q146_520N, q146_521, q146_522, q146_523, q146_524, q146_525, q146_526, q146_527, q146_528, q146_529, q146_530, q146_531, q146_534, q146_535, q146_538, q146_539, q146_542, q146_545, q146_546, i1, i2, i3, i4, i5, a1, a2, a3, a4, a5, n1, n2, n3, n4, n5, hC.1.1]
  by_cases h2 : pm_zi S b (6 * k + 2) = 0
  · rw [if_pos h2]
    refine c_live (b := false) hw hnw hC fun S1 nw1 u1 le1 f1 => ?_
    obtain ⟨s1, z1, g1⟩ := mid S1 f1
    have a1 := pm_ar_nI s1 (show 6 * k + 1 < L by omega) (by omega)
    have a2 := pm_ar_nI s1 (show 6 * k + 2 < L by omega) (by omega)
    have a3 := pm_ar_nI s1 (show 6 * k + 3 < L by omega) (by omega)
    have a4 := pm_ar_nI s1 (show 6 * k + 4 < L by omega) (by omega)
    have a5 := pm_ar_nI s1 (show 6 * k + 5 < L by omega) (by omega)
    simp only [pm_tl_some, q146_498, q146_498N, q146_499, q146_500, q146_501, q146_502, q146_503, q146_504, q146_505, q146_506, q146_507, q146_508, q146_509, q146_512, q146_513, q146_516, q146_517, q146_520, q146_520N, q146_521, q146_522, q146_523, q146_524, q146_525, q146_526, q146_527, q146_528, q146_529, q146_530, q146_531, q146_534, q146_535, q146_538, q146_539, q146_542, q146_545, q146_546, i1, i2, i3, i4, i5, a1, a2, a3, a4, a5, n1, n2, n3, n4, n5, z1, h2, if_true, if_false, sM_0 g1.1.1]
    refine m_live (b := false) hw g1 fun S2 u2 f2 => ?_
    simp only [pm_tl_some, q146_498, q146_498N, q146_499, q146_500, q146_501, q146_502, q146_503, q146_504, q146_505, q146_506, q146_507, q146_508, q146_509, q146_512, q146_513, q146_516, q146_517, q146_520, q146_520N, q146_521, q146_522, q146_523, q146_524, q146_525, q146_526, q146_527, q146_528, q146_529, q146_530, q146_531, q146_534, q146_535, q146_538, q146_539, q146_542, q146_545, q146_546, if_true]
    exact hN S2 ⟨_, _, _, op_live_wf hw, l_c u1 f2, u2, (by omega), (l_after' hb f2).trans s1⟩
  · rw [if_neg h2]
    refine c_live (b := true) hw hnw hC fun S1 nw1 u1 le1 f1 => ?_
    obtain ⟨s1, z1, g1⟩ := mid S1 f1
    have a1 := pm_ar_nI s1 (show 6 * k + 1 < L by omega) (by omega)
    have a2 := pm_ar_nI s1 (show 6 * k + 2 < L by omega) (by omega)
    have a3 := pm_ar_nI s1 (show 6 * k + 3 < L by omega) (by omega)
    have a4 := pm_ar_nI s1 (show 6 * k + 4 < L by omega) (by omega)
    have a5 := pm_ar_nI s1 (show 6 * k + 5 < L by omega) (by omega)
    simp only [pm_tl_some, q146_498, q146_498N, q146_499, q146_500, q146_501, q146_502, q146_503, q146_504, q146_505, q146_506, q146_507, q146_508, q146_509, q146_512, q146_513, q146_516, q146_517, q146_520, q146_520N, q146_521, q146_522, q146_523, q146_524, q146_525, q146_526, q146_527, q146_528, q146_529, q146_530, q146_531, q146_534, q146_535, q146_538, q146_539, q146_542, q146_545, q146_546, i1, i2, i3, i4, i5, a1, a2, a3, a4, a5, n1, n2, n3, n4, n5, z1, h2, if_true, if_false, sM_0 g1.1.1]
    refine m_live (b := true) hw g1 fun S2 u2 f2 => ?_
    simp only [pm_tl_some, q146_498, q146_498N, q146_499, q146_500, q146_501, q146_502, q146_503, q146_504, q146_505, q146_506, q146_507, q146_508, q146_509, q146_512, q146_513, q146_516, q146_517, q146_520, q146_520N, q146_521, q146_522, q146_523, q146_524, q146_525, q146_526, q146_527, q146_528, q146_529, q146_530, q146_531, q146_534, q146_535, q146_538, q146_539, q146_542, q146_545, q146_546, if_true]
    exact hN S2 ⟨_, _, _, op_live_wf hw, l_c u1 f2, u2, (by omega), (l_after' hb f2).trans s1⟩

set_option maxHeartbeats 1000000 in
theorem l_told (hb : b < x) (hk : 6 * k + 6 ≤ L) (hL : L ≤ 3072) (hw : wf Z) (hC : cI S x Z nw M) (hM : mI S (x + 18) Z) (hn : nw ≤ k + 1) (hs : pm_sh S b = .inl (9, L)) (hN : ∀ S', lI b L x S' (k + 1) → pm_V (d + 93) 146 971 [.ref b, .ref x, .ref (x + 18), .int (nI (6 * k))] [] S' Q) : pm_V (d + 93) 146 547 [.ref b, .ref x, .ref (x + 18), .int (nI (6 * k))] [] S Q := by
  have hnw : nw < 2000 := by omega
  have i1 : nI (6 * k) + 1 = nI (6 * k + 1) := nI_1 _
  have i2 : nI (6 * k) + 2 = nI (6 * k + 2) := (nI_add (6 * k) 2)
  have i3 : nI (6 * k) + 3 = nI (6 * k + 3) := (nI_add (6 * k) 3)
  have i4 : nI (6 * k) + 4 = nI (6 * k + 4) := (nI_add (6 * k) 4)
  have i5 : nI (6 * k) + 5 = nI (6 * k + 5) := (nI_add (6 * k) 5)
  have a1 := pm_ar_nI hs (show 6 * k + 1 < L by omega) (by omega)
  have a2 := pm_ar_nI hs (show 6 * k + 2 < L by omega) (by omega)
  have a3 := pm_ar_nI hs (show 6 * k + 3 < L by omega) (by omega)
  have a4 := pm_ar_nI hs (show 6 * k + 4 < L by omega) (by omega)
  have a5 := pm_ar_nI hs (show 6 * k + 5 < L by omega) (by omega)
  have n1 := nI_clamp (show 6 * k + 1 < 2 ^ 31 by omega)
  have n2 := nI_clamp (show 6 * k + 2 < 2 ^ 31 by omega)
  have n3 := nI_clamp (show 6 * k + 3 < 2 ^ 31 by omega)
  have n4 := nI_clamp (show 6 * k + 4 < 2 ^ 31 by omega)
  have n5 := nI_clamp (show 6 * k + 5 < 2 ^ 31 by omega)
  have mid : ∀ S1, frO (cO x) S S1 → pm_sh S1 b = .inl (9, L) ∧ (∀ i, pm_zi S1 b i = pm_zi S b i) ∧ mI S1 (x + 18) Z := fun S1 f1 => ⟨(l_after hb f1).1.trans hs, (l_after hb f1).2, l_m hM f1⟩
  simp only [q146_547, q146_547N, q146_548, q146_549, q146_550, q146_551, q146_552, q146_553, q146_554, q146_555, q146_556, q146_557, q146_558, q146_561, q146_561N, q146_562, q146_563, q146_564, q146_565, q146_566, q146_567, q146_568, q146_569, q146_570, q146_571, q146_572, q146_575, q146_578, q146_579, i1, i2, i3, i4, i5, a1, a2, a3, a4, a5, n1, n2, n3, n4, n5, hC.1.1]
  refine c_told hw hC fun S1 u1 f1 => ?_
  obtain ⟨s1, z1, g1⟩ := mid S1 f1
  have a1 := pm_ar_nI s1 (show 6 * k + 1 < L by omega) (by omega)
  have a2 := pm_ar_nI s1 (show 6 * k + 2 < L by omega) (by omega)
  have a3 := pm_ar_nI s1 (show 6 * k + 3 < L by omega) (by omega)
  have a4 := pm_ar_nI s1 (show 6 * k + 4 < L by omega) (by omega)
  have a5 := pm_ar_nI s1 (show 6 * k + 5 < L by omega) (by omega)
  simp only [pm_tl_some, q146_547, q146_547N, q146_548, q146_549, q146_550, q146_551, q146_552, q146_553, q146_554, q146_555, q146_556, q146_557, q146_558, q146_561, q146_561N, q146_562, q146_563, q146_564, q146_565, q146_566, q146_567, q146_568, q146_569, q146_570, q146_571, q146_572, q146_575, q146_578, q146_579, i1, i2, i3, i4, i5, a1, a2, a3, a4, a5, n1, n2, n3, n4, n5, z1, sM_0 g1.1.1]
  refine m_told hw g1 fun S2 u2 f2 => ?_
  simp only [pm_tl_some, q146_547, q146_547N, q146_548, q146_549, q146_550, q146_551, q146_552, q146_553, q146_554, q146_555, q146_556, q146_557, q146_558, q146_561, q146_561N, q146_562, q146_563, q146_564, q146_565, q146_566, q146_567, q146_568, q146_569, q146_570, q146_571, q146_572, q146_575, q146_578, q146_579, lg_cmp_eq, if_true]
  exact hN S2 ⟨_, _, _, hw, l_c u1 f2, u2, (by omega), (l_after' hb f2).trans s1⟩

set_option maxHeartbeats 1000000 in
theorem l_end (hb : b < x) (hk : 6 * k + 6 ≤ L) (hL : L ≤ 3072) (hw : wf Z) (hC : cI S x Z nw M) (hM : mI S (x + 18) Z) (hn : nw ≤ k + 1) (hs : pm_sh S b = .inl (9, L)) (hN : ∀ S', lI b L x S' (k + 1) → pm_V (d + 93) 146 971 [.ref b, .ref x, .ref (x + 18), .int (nI (6 * k))] [] S' Q) : pm_V (d + 93) 146 580 [.ref b, .ref x, .ref (x + 18), .int (nI (6 * k))] [] S Q := by
  have hnw : nw < 2000 := by omega
  have i1 : nI (6 * k) + 1 = nI (6 * k + 1) := nI_1 _
  have i2 : nI (6 * k) + 2 = nI (6 * k + 2) := (nI_add (6 * k) 2)
  have i3 : nI (6 * k) + 3 = nI (6 * k + 3) := (nI_add (6 * k) 3)
  have i4 : nI (6 * k) + 4 = nI (6 * k + 4) := (nI_add (6 * k) 4)
  have i5 : nI (6 * k) + 5 = nI (6 * k + 5) := (nI_add (6 * k) 5)
  have a1 := pm_ar_nI hs (show 6 * k + 1 < L by omega) (by omega)
  have a2 := pm_ar_nI hs (show 6 * k + 2 < L by omega) (by omega)
  have a3 := pm_ar_nI hs (show 6 * k + 3 < L by omega) (by omega)
  have a4 := pm_ar_nI hs (show 6 * k + 4 < L by omega) (by omega)
  have a5 := pm_ar_nI hs (show 6 * k + 5 < L by omega) (by omega)
  have n1 := nI_clamp (show 6 * k + 1 < 2 ^ 31 by omega)
  have n2 := nI_clamp (show 6 * k + 2 < 2 ^ 31 by omega)
  have n3 := nI_clamp (show 6 * k + 3 < 2 ^ 31 by omega)
  have n4 := nI_clamp (show 6 * k + 4 < 2 ^ 31 by omega)
  have n5 := nI_clamp (show 6 * k + 5 < 2 ^ 31 by omega)
  have mid : ∀ S1, frO (cO x) S S1 → pm_sh S1 b = .inl (9, L) ∧ (∀ i, pm_zi S1 b i = pm_zi S b i) ∧ mI S1 (x + 18) Z := fun S1 f1 => ⟨(l_after hb f1).1.trans hs, (l_after hb f1).2, l_m hM f1⟩
  simp only [q146_580, q146_580N, q146_581, q146_582, q146_583, q146_584, q146_585, q146_586, q146_587, q146_588, q146_589, q146_590, q146_591, q146_592, q146_593, q146_594, q146_595, q146_596, q146_599, q146_599N, q146_600, q146_601, q146_602, q146_603, q146_604, q146_605, q146_606, q146_607, q146_608, q146_609, q146_610, q146_611, q146_612, q146_613, q146_614, q146_615, q146_618, q146_621, q146_622, i1, i2, i3, i4, i5, a1, a2, a3, a4, a5, n1, n2, n3, n4, n5, hC.1.1]
  refine c_end hw hC fun S1 u1 f1 => ?_
  obtain ⟨s1, z1, g1⟩ := mid S1 f1
  have a1 := pm_ar_nI s1 (show 6 * k + 1 < L by omega) (by omega)
  have a2 := pm_ar_nI s1 (show 6 * k + 2 < L by omega) (by omega)
  have a3 := pm_ar_nI s1 (show 6 * k + 3 < L by omega) (by omega)
  have a4 := pm_ar_nI s1 (show 6 * k + 4 < L by omega) (by omega)
  have a5 := pm_ar_nI s1 (show 6 * k + 5 < L by omega) (by omega)
  simp only [pm_tl_some, q146_580, q146_580N, q146_581, q146_582, q146_583, q146_584, q146_585, q146_586, q146_587, q146_588, q146_589, q146_590, q146_591, q146_592, q146_593, q146_594, q146_595, q146_596, q146_599, q146_599N, q146_600, q146_601, q146_602, q146_603, q146_604, q146_605, q146_606, q146_607, q146_608, q146_609, q146_610, q146_611, q146_612, q146_613, q146_614, q146_615, q146_618, q146_621, q146_622, i1, i2, i3, i4, i5, a1, a2, a3, a4, a5, n1, n2, n3, n4, n5, z1, sM_0 g1.1.1]
  refine m_end hw g1 fun S2 u2 f2 => ?_
  simp only [pm_tl_some, q146_580, q146_580N, q146_581, q146_582, q146_583, q146_584, q146_585, q146_586, q146_587, q146_588, q146_589, q146_590, q146_591, q146_592, q146_593, q146_594, q146_595, q146_596, q146_599, q146_599N, q146_600, q146_601, q146_602, q146_603, q146_604, q146_605, q146_606, q146_607, q146_608, q146_609, q146_610, q146_611, q146_612, q146_613, q146_614, q146_615, q146_618, q146_621, q146_622, lg_cmp_eq, if_true]
  exact hN S2 ⟨_, _, _, hw, l_c u1 f2, u2, (by omega), (l_after' hb f2).trans s1⟩

set_option maxHeartbeats 1000000 in
theorem l_value (hb : b < x) (hk : 6 * k + 6 ≤ L) (hL : L ≤ 3072) (hw : wf Z) (hC : cI S x Z nw M) (hM : mI S (x + 18) Z) (hn : nw ≤ k + 1) (hs : pm_sh S b = .inl (9, L)) (hN : ∀ S', lI b L x S' (k + 1) → pm_V (d + 93) 146 971 [.ref b, .ref x, .ref (x + 18), .int (nI (6 * k))] [] S' Q) : pm_V (d + 93) 146 623 [.ref b, .ref x, .ref (x + 18), .int (nI (6 * k))] [] S Q := by
  have hnw : nw < 2000 := by omega
  have i1 : nI (6 * k) + 1 = nI (6 * k + 1) := nI_1 _
  have i2 : nI (6 * k) + 2 = nI (6 * k + 2) := (nI_add (6 * k) 2)
  have i3 : nI (6 * k) + 3 = nI (6 * k + 3) := (nI_add (6 * k) 3)
  have i4 : nI (6 * k) + 4 = nI (6 * k + 4) := (nI_add (6 * k) 4)
  have i5 : nI (6 * k) + 5 = nI (6 * k + 5) := (nI_add (6 * k) 5)
  have a1 := pm_ar_nI hs (show 6 * k + 1 < L by omega) (by omega)
  have a2 := pm_ar_nI hs (show 6 * k + 2 < L by omega) (by omega)
  have a3 := pm_ar_nI hs (show 6 * k + 3 < L by omega) (by omega)
  have a4 := pm_ar_nI hs (show 6 * k + 4 < L by omega) (by omega)
  have a5 := pm_ar_nI hs (show 6 * k + 5 < L by omega) (by omega)
  have n1 := nI_clamp (show 6 * k + 1 < 2 ^ 31 by omega)
  have n2 := nI_clamp (show 6 * k + 2 < 2 ^ 31 by omega)
  have n3 := nI_clamp (show 6 * k + 3 < 2 ^ 31 by omega)
  have n4 := nI_clamp (show 6 * k + 4 < 2 ^ 31 by omega)
  have n5 := nI_clamp (show 6 * k + 5 < 2 ^ 31 by omega)
  have mid : ∀ S1, frO (cO x) S S1 → pm_sh S1 b = .inl (9, L) ∧ (∀ i, pm_zi S1 b i = pm_zi S b i) ∧ mI S1 (x + 18) Z := fun S1 f1 => ⟨(l_after hb f1).1.trans hs, (l_after hb f1).2, l_m hM f1⟩
  simp only [q146_623, q146_623N, q146_624, q146_625, q146_626, q146_627, q146_628, q146_629, q146_630, q146_631, q146_632, q146_633, q146_634, q146_635, q146_636, q146_637, q146_638, q146_639, q146_642, q146_642N, q146_643, q146_644, q146_645, q146_646, q146_647, q146_648, q146_649, q146_650, q146_651, q146_652, q146_653, q146_654, q146_655, q146_656, q146_657, q146_658, q146_661, q146_662, q146_665, q146_666, i1, i2, i3, i4, i5, a1, a2, a3, a4, a5, n1, n2, n3, n4, n5, hC.1.1]
  refine c_value hw hC fun S1 u1 f1 => ?_
  obtain ⟨s1, z1, g1⟩ := mid S1 f1
  have a1 := pm_ar_nI s1 (show 6 * k + 1 < L by omega) (by omega)
  have a2 := pm_ar_nI s1 (show 6 * k + 2 < L by omega) (by omega)
  have a3 := pm_ar_nI s1 (show 6 * k + 3 < L by omega) (by omega)
  have a4 := pm_ar_nI s1 (show 6 * k + 4 < L by omega) (by omega)
  have a5 := pm_ar_nI s1 (show 6 * k + 5 < L by omega) (by omega)
  simp only [pm_tl_some, q146_623, q146_623N, q146_624, q146_625, q146_626, q146_627, q146_628, q146_629, q146_630, q146_631, q146_632, q146_633, q146_634, q146_635, q146_636, q146_637, q146_638, q146_639, q146_642, q146_642N, q146_643, q146_644, q146_645, q146_646, q146_647, q146_648, q146_649, q146_650, q146_651, q146_652, q146_653, q146_654, q146_655, q146_656, q146_657, q146_658, q146_661, q146_662, q146_665, q146_666, i1, i2, i3, i4, i5, a1, a2, a3, a4, a5, n1, n2, n3, n4, n5, z1, sM_0 g1.1.1]
  refine m_value hw g1 fun S2 u2 f2 => ?_
  simp only [pm_tl_some, q146_623, q146_623N, q146_624, q146_625, q146_626, q146_627, q146_628, q146_629, q146_630, q146_631, q146_632, q146_633, q146_634, q146_635, q146_636, q146_637, q146_638, q146_639, q146_642, q146_642N, q146_643, q146_644, q146_645, q146_646, q146_647, q146_648, q146_649, q146_650, q146_651, q146_652, q146_653, q146_654, q146_655, q146_656, q146_657, q146_658, q146_661, q146_662, q146_665, q146_666, lg_cmp_eq, if_true]
  exact hN S2 ⟨_, _, _, hw, l_c u1 f2, u2, (by omega), (l_after' hb f2).trans s1⟩

set_option maxHeartbeats 1000000 in
theorem l_up (hb : b < x) (hk : 6 * k + 6 ≤ L) (hL : L ≤ 3072) (hw : wf Z) (hC : cI S x Z nw M) (hM : mI S (x + 18) Z) (hn : nw ≤ k + 1) (hs : pm_sh S b = .inl (9, L)) (hN : ∀ S', lI b L x S' (k + 1) → pm_V (d + 93) 146 971 [.ref b, .ref x, .ref (x + 18), .int (nI (6 * k))] [] S' Q) : pm_V (d + 93) 146 667 [.ref b, .ref x, .ref (x + 18), .int (nI (6 * k))] [] S Q := by
  have hnw : nw < 2000 := by omega
  have i1 : nI (6 * k) + 1 = nI (6 * k + 1) := nI_1 _
  have i2 : nI (6 * k) + 2 = nI (6 * k + 2) := (nI_add (6 * k) 2)
  have i3 : nI (6 * k) + 3 = nI (6 * k + 3) := (nI_add (6 * k) 3)
  have i4 : nI (6 * k) + 4 = nI (6 * k + 4) := (nI_add (6 * k) 4)
  have i5 : nI (6 * k) + 5 = nI (6 * k + 5) := (nI_add (6 * k) 5)
  have a1 := pm_ar_nI hs (show 6 * k + 1 < L by omega) (by omega)
  have a2 := pm_ar_nI hs (show 6 * k + 2 < L by omega) (by omega)
  have a3 := pm_ar_nI hs (show 6 * k + 3 < L by omega) (by omega)
  have a4 := pm_ar_nI hs (show 6 * k + 4 < L by omega) (by omega)
  have a5 := pm_ar_nI hs (show 6 * k + 5 < L by omega) (by omega)
  have n1 := nI_clamp (show 6 * k + 1 < 2 ^ 31 by omega)
  have n2 := nI_clamp (show 6 * k + 2 < 2 ^ 31 by omega)
  have n3 := nI_clamp (show 6 * k + 3 < 2 ^ 31 by omega)
  have n4 := nI_clamp (show 6 * k + 4 < 2 ^ 31 by omega)
  have n5 := nI_clamp (show 6 * k + 5 < 2 ^ 31 by omega)
  have mid : ∀ S1, frO (cO x) S S1 → pm_sh S1 b = .inl (9, L) ∧ (∀ i, pm_zi S1 b i = pm_zi S b i) ∧ mI S1 (x + 18) Z := fun S1 f1 => ⟨(l_after hb f1).1.trans hs, (l_after hb f1).2, l_m hM f1⟩
  simp only [q146_667, q146_667N, q146_668, q146_669, q146_670, q146_671, q146_672, q146_673, q146_674, q146_675, q146_676, q146_677, q146_678, q146_679, q146_680, q146_681, q146_682, q146_683, q146_684, q146_685, q146_686, q146_687, q146_688, q146_691, q146_691N, q146_692, q146_693, q146_694, q146_695, q146_696, q146_697, q146_698, q146_699, q146_700, q146_701, q146_702, q146_703, q146_704, q146_705, q146_706, q146_707, q146_708, q146_709, q146_710, q146_711, q146_712, q146_715, q146_718, q146_719, i1, i2, i3, i4, i5, a1, a2, a3, a4, a5, n1, n2, n3, n4, n5, hC.1.1]
  refine c_up hw hC fun S1 u1 f1 => ?_
  obtain ⟨s1, z1, g1⟩ := mid S1 f1
  have a1 := pm_ar_nI s1 (show 6 * k + 1 < L by omega) (by omega)
  have a2 := pm_ar_nI s1 (show 6 * k + 2 < L by omega) (by omega)
  have a3 := pm_ar_nI s1 (show 6 * k + 3 < L by omega) (by omega)
  have a4 := pm_ar_nI s1 (show 6 * k + 4 < L by omega) (by omega)
  have a5 := pm_ar_nI s1 (show 6 * k + 5 < L by omega) (by omega)
  simp only [pm_tl_some, q146_667, q146_667N, q146_668, q146_669, q146_670, q146_671, q146_672, q146_673, q146_674, q146_675, q146_676, q146_677, q146_678, q146_679, q146_680, q146_681, q146_682, q146_683, q146_684, q146_685, q146_686, q146_687, q146_688, q146_691, q146_691N, q146_692, q146_693, q146_694, q146_695, q146_696, q146_697, q146_698, q146_699, q146_700, q146_701, q146_702, q146_703, q146_704, q146_705, q146_706, q146_707, q146_708, q146_709, q146_710, q146_711, q146_712, q146_715, q146_718, q146_719, i1, i2, i3, i4, i5, a1, a2, a3, a4, a5, n1, n2, n3, n4, n5, z1, sM_0 g1.1.1]
  refine m_up hw g1 fun S2 u2 f2 => ?_
  simp only [pm_tl_some, q146_667, q146_667N, q146_668, q146_669, q146_670, q146_671, q146_672, q146_673, q146_674, q146_675, q146_676, q146_677, q146_678, q146_679, q146_680, q146_681, q146_682, q146_683, q146_684, q146_685, q146_686, q146_687, q146_688, q146_691, q146_691N, q146_692, q146_693, q146_694, q146_695, q146_696, q146_697, q146_698, q146_699, q146_700, q146_701, q146_702, q146_703, q146_704, q146_705, q146_706, q146_707, q146_708, q146_709, q146_710, q146_711, q146_712, q146_715, q146_718, q146_719, lg_cmp_eq, if_true]
  exact hN S2 ⟨_, _, _, hw, l_c u1 f2, u2, (by omega), (l_after' hb f2).trans s1⟩

set_option maxHeartbeats 1000000 in
theorem l_down (hb : b < x) (hk : 6 * k + 6 ≤ L) (hL : L ≤ 3072) (hw : wf Z) (hC : cI S x Z nw M) (hM : mI S (x + 18) Z) (hn : nw ≤ k + 1) (hs : pm_sh S b = .inl (9, L)) (hN : ∀ S', lI b L x S' (k + 1) → pm_V (d + 93) 146 971 [.ref b, .ref x, .ref (x + 18), .int (nI (6 * k))] [] S' Q) : pm_V (d + 93) 146 720 [.ref b, .ref x, .ref (x + 18), .int (nI (6 * k))] [] S Q := by
  have hnw : nw < 2000 := by omega
  have i1 : nI (6 * k) + 1 = nI (6 * k + 1) := nI_1 _
  have i2 : nI (6 * k) + 2 = nI (6 * k + 2) := (nI_add (6 * k) 2)
  have i3 : nI (6 * k) + 3 = nI (6 * k + 3) := (nI_add (6 * k) 3)
  have i4 : nI (6 * k) + 4 = nI (6 * k + 4) := (nI_add (6 * k) 4)
  have i5 : nI (6 * k) + 5 = nI (6 * k + 5) := (nI_add (6 * k) 5)
  have a1 := pm_ar_nI hs (show 6 * k + 1 < L by omega) (by omega)
  have a2 := pm_ar_nI hs (show 6 * k + 2 < L by omega) (by omega)
  have a3 := pm_ar_nI hs (show 6 * k + 3 < L by omega) (by omega)
  have a4 := pm_ar_nI hs (show 6 * k + 4 < L by omega) (by omega)
  have a5 := pm_ar_nI hs (show 6 * k + 5 < L by omega) (by omega)
  have n1 := nI_clamp (show 6 * k + 1 < 2 ^ 31 by omega)
  have n2 := nI_clamp (show 6 * k + 2 < 2 ^ 31 by omega)
  have n3 := nI_clamp (show 6 * k + 3 < 2 ^ 31 by omega)
  have n4 := nI_clamp (show 6 * k + 4 < 2 ^ 31 by omega)
  have n5 := nI_clamp (show 6 * k + 5 < 2 ^ 31 by omega)
  have mid : ∀ S1, frO (cO x) S S1 → pm_sh S1 b = .inl (9, L) ∧ (∀ i, pm_zi S1 b i = pm_zi S b i) ∧ mI S1 (x + 18) Z := fun S1 f1 => ⟨(l_after hb f1).1.trans hs, (l_after hb f1).2, l_m hM f1⟩
  simp only [q146_720, q146_720N, q146_721, q146_722, q146_723, q146_724, q146_725, q146_726, q146_727, q146_728, q146_729, q146_730, q146_731, q146_732, q146_733, q146_734, q146_735, q146_736, q146_737, q146_738, q146_739, q146_740, q146_741, q146_744, q146_744N, q146_745, q146_746, q146_747, q146_748, q146_749, q146_750, q146_751, q146_752, q146_753, q146_754, q146_755, q146_756, q146_757, q146_758, q146_759, q146_760, q146_761, q146_762, q146_763, q146_764, q146_765, q146_768, q146_771, q146_772, i1, i2, i3, i4, i5, a1, a2, a3, a4, a5, n1, n2, n3, n4, n5, hC.1.1]
  refine c_down hw hC fun S1 u1 f1 => ?_
  obtain ⟨s1, z1, g1⟩ := mid S1 f1
  have a1 := pm_ar_nI s1 (show 6 * k + 1 < L by omega) (by omega)
  have a2 := pm_ar_nI s1 (show 6 * k + 2 < L by omega) (by omega)
  have a3 := pm_ar_nI s1 (show 6 * k + 3 < L by omega) (by omega)
  have a4 := pm_ar_nI s1 (show 6 * k + 4 < L by omega) (by omega)
  have a5 := pm_ar_nI s1 (show 6 * k + 5 < L by omega) (by omega)
  simp only [pm_tl_some, q146_720, q146_720N, q146_721, q146_722, q146_723, q146_724, q146_725, q146_726, q146_727, q146_728, q146_729, q146_730, q146_731, q146_732, q146_733, q146_734, q146_735, q146_736, q146_737, q146_738, q146_739, q146_740, q146_741, q146_744, q146_744N, q146_745, q146_746, q146_747, q146_748, q146_749, q146_750, q146_751, q146_752, q146_753, q146_754, q146_755, q146_756, q146_757, q146_758, q146_759, q146_760, q146_761, q146_762, q146_763, q146_764, q146_765, q146_768, q146_771, q146_772, i1, i2, i3, i4, i5, a1, a2, a3, a4, a5, n1, n2, n3, n4, n5, z1, sM_0 g1.1.1]
  refine m_down hw g1 fun S2 u2 f2 => ?_
  simp only [pm_tl_some, q146_720, q146_720N, q146_721, q146_722, q146_723, q146_724, q146_725, q146_726, q146_727, q146_728, q146_729, q146_730, q146_731, q146_732, q146_733, q146_734, q146_735, q146_736, q146_737, q146_738, q146_739, q146_740, q146_741, q146_744, q146_744N, q146_745, q146_746, q146_747, q146_748, q146_749, q146_750, q146_751, q146_752, q146_753, q146_754, q146_755, q146_756, q146_757, q146_758, q146_759, q146_760, q146_761, q146_762, q146_763, q146_764, q146_765, q146_768, q146_771, q146_772, lg_cmp_eq, if_true]
  exact hN S2 ⟨_, _, _, hw, l_c u1 f2, u2, (by omega), (l_after' hb f2).trans s1⟩

set_option maxHeartbeats 1000000 in
theorem l_hidden (hb : b < x) (hk : 6 * k + 6 ≤ L) (hL : L ≤ 3072) (hw : wf Z) (hC : cI S x Z nw M) (hM : mI S (x + 18) Z) (hn : nw ≤ k + 1) (hs : pm_sh S b = .inl (9, L)) (hN : ∀ S', lI b L x S' (k + 1) → pm_V (d + 93) 146 971 [.ref b, .ref x, .ref (x + 18), .int (nI (6 * k))] [] S' Q) : pm_V (d + 93) 146 773 [.ref b, .ref x, .ref (x + 18), .int (nI (6 * k))] [] S Q := by
  have hnw : nw < 2000 := by omega
  have i1 : nI (6 * k) + 1 = nI (6 * k + 1) := nI_1 _
  have i2 : nI (6 * k) + 2 = nI (6 * k + 2) := (nI_add (6 * k) 2)
  have i3 : nI (6 * k) + 3 = nI (6 * k + 3) := (nI_add (6 * k) 3)
  have i4 : nI (6 * k) + 4 = nI (6 * k + 4) := (nI_add (6 * k) 4)
  have i5 : nI (6 * k) + 5 = nI (6 * k + 5) := (nI_add (6 * k) 5)
  have a1 := pm_ar_nI hs (show 6 * k + 1 < L by omega) (by omega)
  have a2 := pm_ar_nI hs (show 6 * k + 2 < L by omega) (by omega)
  have a3 := pm_ar_nI hs (show 6 * k + 3 < L by omega) (by omega)
  have a4 := pm_ar_nI hs (show 6 * k + 4 < L by omega) (by omega)
  have a5 := pm_ar_nI hs (show 6 * k + 5 < L by omega) (by omega)
  have n1 := nI_clamp (show 6 * k + 1 < 2 ^ 31 by omega)
  have n2 := nI_clamp (show 6 * k + 2 < 2 ^ 31 by omega)
  have n3 := nI_clamp (show 6 * k + 3 < 2 ^ 31 by omega)
  have n4 := nI_clamp (show 6 * k + 4 < 2 ^ 31 by omega)
  have n5 := nI_clamp (show 6 * k + 5 < 2 ^ 31 by omega)
  have mid : ∀ S1, frO (cO x) S S1 → pm_sh S1 b = .inl (9, L) ∧ (∀ i, pm_zi S1 b i = pm_zi S b i) ∧ mI S1 (x + 18) Z := fun S1 f1 => ⟨(l_after hb f1).1.trans hs, (l_after hb f1).2, l_m hM f1⟩
  simp only [q146_773, q146_773N, q146_774, q146_775, q146_776, q146_777, q146_778, q146_779, q146_780, q146_781, q146_782, q146_783, q146_784, q146_785, q146_786, q146_787, q146_788, q146_789, q146_792, q146_792N, q146_793, q146_794, q146_795, q146_796, q146_797, q146_798, q146_799, q146_800, q146_801, q146_802, q146_803, q146_804, q146_805, q146_806, q146_807, q146_808, q146_811, q146_814, q146_815, i1, i2, i3, i4, i5, a1, a2, a3, a4, a5, n1, n2, n3, n4, n5, hC.1.1]
  refine c_hidden hw hC fun S1 u1 f1 => ?_
  obtain ⟨s1, z1, g1⟩ := mid S1 f1
  have a1 := pm_ar_nI s1 (show 6 * k + 1 < L by omega) (by omega)
  have a2 := pm_ar_nI s1 (show 6 * k + 2 < L by omega) (by omega)
  have a3 := pm_ar_nI s1 (show 6 * k + 3 < L by omega) (by omega)
  have a4 := pm_ar_nI s1 (show 6 * k + 4 < L by omega) (by omega)
  have a5 := pm_ar_nI s1 (show 6 * k + 5 < L by omega) (by omega)
  simp only [pm_tl_some, q146_773, q146_773N, q146_774, q146_775, q146_776, q146_777, q146_778, q146_779, q146_780, q146_781, q146_782, q146_783, q146_784, q146_785, q146_786, q146_787, q146_788, q146_789, q146_792, q146_792N, q146_793, q146_794, q146_795, q146_796, q146_797, q146_798, q146_799, q146_800, q146_801, q146_802, q146_803, q146_804, q146_805, q146_806, q146_807, q146_808, q146_811, q146_814, q146_815, i1, i2, i3, i4, i5, a1, a2, a3, a4, a5, n1, n2, n3, n4, n5, z1, sM_0 g1.1.1]
  refine m_hidden hw g1 fun S2 u2 f2 => ?_
  simp only [pm_tl_some, q146_773, q146_773N, q146_774, q146_775, q146_776, q146_777, q146_778, q146_779, q146_780, q146_781, q146_782, q146_783, q146_784, q146_785, q146_786, q146_787, q146_788, q146_789, q146_792, q146_792N, q146_793, q146_794, q146_795, q146_796, q146_797, q146_798, q146_799, q146_800, q146_801, q146_802, q146_803, q146_804, q146_805, q146_806, q146_807, q146_808, q146_811, q146_814, q146_815, lg_cmp_eq, if_true]
  exact hN S2 ⟨_, _, _, hw, l_c u1 f2, u2, (by omega), (l_after' hb f2).trans s1⟩

set_option maxHeartbeats 1000000 in
theorem l_same (hb : b < x) (hk : 6 * k + 6 ≤ L) (hL : L ≤ 3072) (hw : wf Z) (hC : cI S x Z nw M) (hM : mI S (x + 18) Z) (hn : nw ≤ k + 1) (hs : pm_sh S b = .inl (9, L)) (hN : ∀ S', lI b L x S' (k + 1) → pm_V (d + 93) 146 971 [.ref b, .ref x, .ref (x + 18), .int (nI (6 * k))] [] S' Q) : pm_V (d + 93) 146 816 [.ref b, .ref x, .ref (x + 18), .int (nI (6 * k))] [] S Q := by
  have hnw : nw < 2000 := by omega
  have i1 : nI (6 * k) + 1 = nI (6 * k + 1) := nI_1 _
  have i2 : nI (6 * k) + 2 = nI (6 * k + 2) := (nI_add (6 * k) 2)
  have i3 : nI (6 * k) + 3 = nI (6 * k + 3) := (nI_add (6 * k) 3)
  have i4 : nI (6 * k) + 4 = nI (6 * k + 4) := (nI_add (6 * k) 4)
  have i5 : nI (6 * k) + 5 = nI (6 * k + 5) := (nI_add (6 * k) 5)
  have a1 := pm_ar_nI hs (show 6 * k + 1 < L by omega) (by omega)
  have a2 := pm_ar_nI hs (show 6 * k + 2 < L by omega) (by omega)
  have a3 := pm_ar_nI hs (show 6 * k + 3 < L by omega) (by omega)
  have a4 := pm_ar_nI hs (show 6 * k + 4 < L by omega) (by omega)
  have a5 := pm_ar_nI hs (show 6 * k + 5 < L by omega) (by omega)
  have n1 := nI_clamp (show 6 * k + 1 < 2 ^ 31 by omega)
  have n2 := nI_clamp (show 6 * k + 2 < 2 ^ 31 by omega)
  have n3 := nI_clamp (show 6 * k + 3 < 2 ^ 31 by omega)
  have n4 := nI_clamp (show 6 * k + 4 < 2 ^ 31 by omega)
  have n5 := nI_clamp (show 6 * k + 5 < 2 ^ 31 by omega)
  have mid : ∀ S1, frO (cO x) S S1 → pm_sh S1 b = .inl (9, L) ∧ (∀ i, pm_zi S1 b i = pm_zi S b i) ∧ mI S1 (x + 18) Z := fun S1 f1 => ⟨(l_after hb f1).1.trans hs, (l_after hb f1).2, l_m hM f1⟩
  simp only [q146_816, q146_816N, q146_817, q146_818, q146_819, q146_820, q146_821, q146_822, q146_823, q146_824, q146_825, q146_826, q146_827, q146_830, q146_830N, q146_831, q146_832, q146_833, q146_834, q146_835, q146_836, q146_837, q146_838, q146_839, q146_840, q146_841, q146_844, q146_847, q146_848, i1, i2, i3, i4, i5, a1, a2, a3, a4, a5, n1, n2, n3, n4, n5, hC.1.1]
  refine c_same hw hC fun S1 u1 f1 => ?_
  obtain ⟨s1, z1, g1⟩ := mid S1 f1
  have a1 := pm_ar_nI s1 (show 6 * k + 1 < L by omega) (by omega)
  have a2 := pm_ar_nI s1 (show 6 * k + 2 < L by omega) (by omega)
  have a3 := pm_ar_nI s1 (show 6 * k + 3 < L by omega) (by omega)
  have a4 := pm_ar_nI s1 (show 6 * k + 4 < L by omega) (by omega)
  have a5 := pm_ar_nI s1 (show 6 * k + 5 < L by omega) (by omega)
  simp only [pm_tl_some, q146_816, q146_816N, q146_817, q146_818, q146_819, q146_820, q146_821, q146_822, q146_823, q146_824, q146_825, q146_826, q146_827, q146_830, q146_830N, q146_831, q146_832, q146_833, q146_834, q146_835, q146_836, q146_837, q146_838, q146_839, q146_840, q146_841, q146_844, q146_847, q146_848, i1, i2, i3, i4, i5, a1, a2, a3, a4, a5, n1, n2, n3, n4, n5, z1, sM_0 g1.1.1]
  refine m_same hw g1 fun S2 u2 f2 => ?_
  simp only [pm_tl_some, q146_816, q146_816N, q146_817, q146_818, q146_819, q146_820, q146_821, q146_822, q146_823, q146_824, q146_825, q146_826, q146_827, q146_830, q146_830N, q146_831, q146_832, q146_833, q146_834, q146_835, q146_836, q146_837, q146_838, q146_839, q146_840, q146_841, q146_844, q146_847, q146_848, lg_cmp_eq, if_true]
  exact hN S2 ⟨_, _, _, hw, l_c u1 f2, u2, (by omega), (l_after' hb f2).trans s1⟩

set_option maxHeartbeats 1000000 in
theorem l_reach (hb : b < x) (hk : 6 * k + 6 ≤ L) (hL : L ≤ 3072) (hw : wf Z) (hC : cI S x Z nw M) (hM : mI S (x + 18) Z) (hn : nw ≤ k + 1) (hs : pm_sh S b = .inl (9, L)) (hN : ∀ S', lI b L x S' (k + 1) → pm_V (d + 93) 146 971 [.ref b, .ref x, .ref (x + 18), .int (nI (6 * k))] [] S' Q) : pm_V (d + 93) 146 849 [.ref b, .ref x, .ref (x + 18), .int (nI (6 * k))] [] S Q := by
  have hnw : nw < 2000 := by omega
  have i1 : nI (6 * k) + 1 = nI (6 * k + 1) := nI_1 _
  have i2 : nI (6 * k) + 2 = nI (6 * k + 2) := (nI_add (6 * k) 2)
  have i3 : nI (6 * k) + 3 = nI (6 * k + 3) := (nI_add (6 * k) 3)
  have i4 : nI (6 * k) + 4 = nI (6 * k + 4) := (nI_add (6 * k) 4)
  have i5 : nI (6 * k) + 5 = nI (6 * k + 5) := (nI_add (6 * k) 5)
  have a1 := pm_ar_nI hs (show 6 * k + 1 < L by omega) (by omega)
  have a2 := pm_ar_nI hs (show 6 * k + 2 < L by omega) (by omega)
  have a3 := pm_ar_nI hs (show 6 * k + 3 < L by omega) (by omega)
  have a4 := pm_ar_nI hs (show 6 * k + 4 < L by omega) (by omega)
  have a5 := pm_ar_nI hs (show 6 * k + 5 < L by omega) (by omega)
  have n1 := nI_clamp (show 6 * k + 1 < 2 ^ 31 by omega)
  have n2 := nI_clamp (show 6 * k + 2 < 2 ^ 31 by omega)
  have n3 := nI_clamp (show 6 * k + 3 < 2 ^ 31 by omega)
  have n4 := nI_clamp (show 6 * k + 4 < 2 ^ 31 by omega)
  have n5 := nI_clamp (show 6 * k + 5 < 2 ^ 31 by omega)
  have mid : ∀ S1, frO (cO x) S S1 → pm_sh S1 b = .inl (9, L) ∧ (∀ i, pm_zi S1 b i = pm_zi S b i) ∧ mI S1 (x + 18) Z := fun S1 f1 => ⟨(l_after hb f1).1.trans hs, (l_after hb f1).2, l_m hM f1⟩
  simp only [q146_849, q146_849N, q146_850, q146_851, q146_852, q146_853, q146_854, q146_855, q146_856, q146_857, q146_858, q146_859, q146_860, q146_863, q146_863N, q146_864, q146_865, q146_866, q146_867, q146_868, q146_869, q146_870, q146_871, q146_872, q146_873, q146_874, q146_877, q146_880, q146_881, i1, i2, i3, i4, i5, a1, a2, a3, a4, a5, n1, n2, n3, n4, n5, hC.1.1]
  refine c_reach hw hC fun S1 u1 f1 => ?_
  obtain ⟨s1, z1, g1⟩ := mid S1 f1
  have a1 := pm_ar_nI s1 (show 6 * k + 1 < L by omega) (by omega)
  have a2 := pm_ar_nI s1 (show 6 * k + 2 < L by omega) (by omega)
  have a3 := pm_ar_nI s1 (show 6 * k + 3 < L by omega) (by omega)
  have a4 := pm_ar_nI s1 (show 6 * k + 4 < L by omega) (by omega)
  have a5 := pm_ar_nI s1 (show 6 * k + 5 < L by omega) (by omega)
  simp only [pm_tl_some, q146_849, q146_849N, q146_850, q146_851, q146_852, q146_853, q146_854, q146_855, q146_856, q146_857, q146_858, q146_859, q146_860, q146_863, q146_863N, q146_864, q146_865, q146_866, q146_867, q146_868, q146_869, q146_870, q146_871, q146_872, q146_873, q146_874, q146_877, q146_880, q146_881, i1, i2, i3, i4, i5, a1, a2, a3, a4, a5, n1, n2, n3, n4, n5, z1, sM_0 g1.1.1]
  refine m_reach hw g1 fun S2 u2 f2 => ?_
  simp only [pm_tl_some, q146_849, q146_849N, q146_850, q146_851, q146_852, q146_853, q146_854, q146_855, q146_856, q146_857, q146_858, q146_859, q146_860, q146_863, q146_863N, q146_864, q146_865, q146_866, q146_867, q146_868, q146_869, q146_870, q146_871, q146_872, q146_873, q146_874, q146_877, q146_880, q146_881, lg_cmp_eq, if_true]
  exact hN S2 ⟨_, _, _, hw, l_c u1 f2, u2, (by omega), (l_after' hb f2).trans s1⟩

set_option maxHeartbeats 1000000 in
theorem l_ask (hb : b < x) (hk : 6 * k + 6 ≤ L) (hL : L ≤ 3072) (hw : wf Z) (hC : cI S x Z nw M) (hM : mI S (x + 18) Z) (hn : nw ≤ k + 1) (hs : pm_sh S b = .inl (9, L)) (hN : ∀ S', lI b L x S' (k + 1) → pm_V (d + 93) 146 971 [.ref b, .ref x, .ref (x + 18), .int (nI (6 * k))] [] S' Q) : pm_V (d + 93) 146 882 [.ref b, .ref x, .ref (x + 18), .int (nI (6 * k))] [] S Q := by
  have hnw : nw < 2000 := by omega
  have i1 : nI (6 * k) + 1 = nI (6 * k + 1) := nI_1 _
  have i2 : nI (6 * k) + 2 = nI (6 * k + 2) := (nI_add (6 * k) 2)
  have i3 : nI (6 * k) + 3 = nI (6 * k + 3) := (nI_add (6 * k) 3)
  have i4 : nI (6 * k) + 4 = nI (6 * k + 4) := (nI_add (6 * k) 4)
  have i5 : nI (6 * k) + 5 = nI (6 * k + 5) := (nI_add (6 * k) 5)
  have a1 := pm_ar_nI hs (show 6 * k + 1 < L by omega) (by omega)
  have a2 := pm_ar_nI hs (show 6 * k + 2 < L by omega) (by omega)
  have a3 := pm_ar_nI hs (show 6 * k + 3 < L by omega) (by omega)
  have a4 := pm_ar_nI hs (show 6 * k + 4 < L by omega) (by omega)
  have a5 := pm_ar_nI hs (show 6 * k + 5 < L by omega) (by omega)
  have n1 := nI_clamp (show 6 * k + 1 < 2 ^ 31 by omega)
  have n2 := nI_clamp (show 6 * k + 2 < 2 ^ 31 by omega)
  have n3 := nI_clamp (show 6 * k + 3 < 2 ^ 31 by omega)
  have n4 := nI_clamp (show 6 * k + 4 < 2 ^ 31 by omega)
  have n5 := nI_clamp (show 6 * k + 5 < 2 ^ 31 by omega)
  have mid : ∀ S1, frO (cO x) S S1 → pm_sh S1 b = .inl (9, L) ∧ (∀ i, pm_zi S1 b i = pm_zi S b i) ∧ mI S1 (x + 18) Z := fun S1 f1 => ⟨(l_after hb f1).1.trans hs, (l_after hb f1).2, l_m hM f1⟩
  simp only [q146_882, q146_882N, q146_883, q146_884, q146_885, q146_886, q146_887, q146_888, q146_889, q146_890, q146_891, q146_892, q146_893, q146_894, q146_895, q146_896, q146_897, q146_898, q146_899, q146_900, q146_901, q146_902, q146_903, q146_906, q146_906N, q146_907, q146_908, q146_909, q146_910, q146_911, q146_912, q146_913, q146_914, q146_915, q146_916, q146_917, q146_918, q146_919, q146_920, q146_921, q146_922, q146_923, q146_924, q146_925, q146_926, q146_927, q146_930, q146_933, q146_934, i1, i2, i3, i4, i5, a1, a2, a3, a4, a5, n1, n2, n3, n4, n5, hC.1.1]
  refine c_ask hw hC fun S1 u1 f1 => ?_
  obtain ⟨s1, z1, g1⟩ := mid S1 f1
  have a1 := pm_ar_nI s1 (show 6 * k + 1 < L by omega) (by omega)
  have a2 := pm_ar_nI s1 (show 6 * k + 2 < L by omega) (by omega)
  have a3 := pm_ar_nI s1 (show 6 * k + 3 < L by omega) (by omega)
  have a4 := pm_ar_nI s1 (show 6 * k + 4 < L by omega) (by omega)
  have a5 := pm_ar_nI s1 (show 6 * k + 5 < L by omega) (by omega)
  simp only [pm_tl_some, q146_882, q146_882N, q146_883, q146_884, q146_885, q146_886, q146_887, q146_888, q146_889, q146_890, q146_891, q146_892, q146_893, q146_894, q146_895, q146_896, q146_897, q146_898, q146_899, q146_900, q146_901, q146_902, q146_903, q146_906, q146_906N, q146_907, q146_908, q146_909, q146_910, q146_911, q146_912, q146_913, q146_914, q146_915, q146_916, q146_917, q146_918, q146_919, q146_920, q146_921, q146_922, q146_923, q146_924, q146_925, q146_926, q146_927, q146_930, q146_933, q146_934, i1, i2, i3, i4, i5, a1, a2, a3, a4, a5, n1, n2, n3, n4, n5, z1, sM_0 g1.1.1]
  refine m_ask hw g1 fun S2 u2 f2 => ?_
  simp only [pm_tl_some, q146_882, q146_882N, q146_883, q146_884, q146_885, q146_886, q146_887, q146_888, q146_889, q146_890, q146_891, q146_892, q146_893, q146_894, q146_895, q146_896, q146_897, q146_898, q146_899, q146_900, q146_901, q146_902, q146_903, q146_906, q146_906N, q146_907, q146_908, q146_909, q146_910, q146_911, q146_912, q146_913, q146_914, q146_915, q146_916, q146_917, q146_918, q146_919, q146_920, q146_921, q146_922, q146_923, q146_924, q146_925, q146_926, q146_927, q146_930, q146_933, q146_934, lg_cmp_eq, if_true]
  exact hN S2 ⟨_, _, _, hw, l_c u1 f2, u2, (by omega), (l_after' hb f2).trans s1⟩

set_option maxHeartbeats 1000000 in
theorem l_count (hb : b < x) (hk : 6 * k + 6 ≤ L) (hL : L ≤ 3072) (hw : wf Z) (hC : cI S x Z nw M) (hM : mI S (x + 18) Z) (hn : nw ≤ k + 1) (hs : pm_sh S b = .inl (9, L)) (hN : ∀ S', lI b L x S' (k + 1) → pm_V (d + 93) 146 971 [.ref b, .ref x, .ref (x + 18), .int (nI (6 * k))] [] S' Q) : pm_V (d + 93) 146 935 [.ref b, .ref x, .ref (x + 18), .int (nI (6 * k))] [] S Q := by
  have hnw : nw < 2000 := by omega
  have i1 : nI (6 * k) + 1 = nI (6 * k + 1) := nI_1 _
  have i2 : nI (6 * k) + 2 = nI (6 * k + 2) := (nI_add (6 * k) 2)
  have i3 : nI (6 * k) + 3 = nI (6 * k + 3) := (nI_add (6 * k) 3)
  have i4 : nI (6 * k) + 4 = nI (6 * k + 4) := (nI_add (6 * k) 4)
  have i5 : nI (6 * k) + 5 = nI (6 * k + 5) := (nI_add (6 * k) 5)
  have a1 := pm_ar_nI hs (show 6 * k + 1 < L by omega) (by omega)
  have a2 := pm_ar_nI hs (show 6 * k + 2 < L by omega) (by omega)
  have a3 := pm_ar_nI hs (show 6 * k + 3 < L by omega) (by omega)
  have a4 := pm_ar_nI hs (show 6 * k + 4 < L by omega) (by omega)
  have a5 := pm_ar_nI hs (show 6 * k + 5 < L by omega) (by omega)
  have n1 := nI_clamp (show 6 * k + 1 < 2 ^ 31 by omega)
  have n2 := nI_clamp (show 6 * k + 2 < 2 ^ 31 by omega)
  have n3 := nI_clamp (show 6 * k + 3 < 2 ^ 31 by omega)
  have n4 := nI_clamp (show 6 * k + 4 < 2 ^ 31 by omega)
  have n5 := nI_clamp (show 6 * k + 5 < 2 ^ 31 by omega)
  have mid : ∀ S1, frO (cO x) S S1 → pm_sh S1 b = .inl (9, L) ∧ (∀ i, pm_zi S1 b i = pm_zi S b i) ∧ mI S1 (x + 18) Z := fun S1 f1 => ⟨(l_after hb f1).1.trans hs, (l_after hb f1).2, l_m hM f1⟩
  simp only [q146_935, q146_935N, q146_936, q146_937, q146_938, q146_939, q146_940, q146_941, q146_944, q146_944N, q146_945, q146_946, q146_947, q146_948, q146_949, q146_950, q146_953, q146_956, q146_957, i1, i2, i3, i4, i5, a1, a2, a3, a4, a5, n1, n2, n3, n4, n5, hC.1.1]
  refine c_count hw hC fun S1 u1 f1 => ?_
  obtain ⟨s1, z1, g1⟩ := mid S1 f1
  have a1 := pm_ar_nI s1 (show 6 * k + 1 < L by omega) (by omega)
  have a2 := pm_ar_nI s1 (show 6 * k + 2 < L by omega) (by omega)
  have a3 := pm_ar_nI s1 (show 6 * k + 3 < L by omega) (by omega)
  have a4 := pm_ar_nI s1 (show 6 * k + 4 < L by omega) (by omega)
  have a5 := pm_ar_nI s1 (show 6 * k + 5 < L by omega) (by omega)
  simp only [pm_tl_some, q146_935, q146_935N, q146_936, q146_937, q146_938, q146_939, q146_940, q146_941, q146_944, q146_944N, q146_945, q146_946, q146_947, q146_948, q146_949, q146_950, q146_953, q146_956, q146_957, i1, i2, i3, i4, i5, a1, a2, a3, a4, a5, n1, n2, n3, n4, n5, z1, sM_0 g1.1.1]
  refine m_count hw g1 fun S2 u2 f2 => ?_
  simp only [pm_tl_some, q146_935, q146_935N, q146_936, q146_937, q146_938, q146_939, q146_940, q146_941, q146_944, q146_944N, q146_945, q146_946, q146_947, q146_948, q146_949, q146_950, q146_953, q146_956, q146_957, lg_cmp_eq, if_true]
  exact hN S2 ⟨_, _, _, hw, l_c u1 f2, u2, (by omega), (l_after' hb f2).trans s1⟩

set_option maxHeartbeats 1000000 in
theorem l_clear (hb : b < x) (hk : 6 * k + 6 ≤ L) (hL : L ≤ 3072) (hw : wf Z) (hC : cI S x Z nw M) (hM : mI S (x + 18) Z) (hn : nw ≤ k + 1) (hs : pm_sh S b = .inl (9, L)) (hN : ∀ S', lI b L x S' (k + 1) → pm_V (d + 93) 146 971 [.ref b, .ref x, .ref (x + 18), .int (nI (6 * k))] [] S' Q) : pm_V (d + 93) 146 958 [.ref b, .ref x, .ref (x + 18), .int (nI (6 * k))] [] S Q := by
  have hnw : nw < 2000 := by omega
  have i1 : nI (6 * k) + 1 = nI (6 * k + 1) := nI_1 _
  have i2 : nI (6 * k) + 2 = nI (6 * k + 2) := (nI_add (6 * k) 2)
  have i3 : nI (6 * k) + 3 = nI (6 * k + 3) := (nI_add (6 * k) 3)
  have i4 : nI (6 * k) + 4 = nI (6 * k + 4) := (nI_add (6 * k) 4)
  have i5 : nI (6 * k) + 5 = nI (6 * k + 5) := (nI_add (6 * k) 5)
  have a1 := pm_ar_nI hs (show 6 * k + 1 < L by omega) (by omega)
  have a2 := pm_ar_nI hs (show 6 * k + 2 < L by omega) (by omega)
  have a3 := pm_ar_nI hs (show 6 * k + 3 < L by omega) (by omega)
  have a4 := pm_ar_nI hs (show 6 * k + 4 < L by omega) (by omega)
  have a5 := pm_ar_nI hs (show 6 * k + 5 < L by omega) (by omega)
  have n1 := nI_clamp (show 6 * k + 1 < 2 ^ 31 by omega)
  have n2 := nI_clamp (show 6 * k + 2 < 2 ^ 31 by omega)
  have n3 := nI_clamp (show 6 * k + 3 < 2 ^ 31 by omega)
  have n4 := nI_clamp (show 6 * k + 4 < 2 ^ 31 by omega)
  have n5 := nI_clamp (show 6 * k + 5 < 2 ^ 31 by omega)
  have mid : ∀ S1, frO (cO x) S S1 → pm_sh S1 b = .inl (9, L) ∧ (∀ i, pm_zi S1 b i = pm_zi S b i) ∧ mI S1 (x + 18) Z := fun S1 f1 => ⟨(l_after hb f1).1.trans hs, (l_after hb f1).2, l_m hM f1⟩
  simp only [q146_958, q146_958N, q146_959, q146_962, q146_962N, q146_963, q146_966, q146_969, q146_970, i1, i2, i3, i4, i5, a1, a2, a3, a4, a5, n1, n2, n3, n4, n5, hC.1.1]
  refine c_clear hnw hC fun S1 u1 f1 => ?_
  obtain ⟨s1, z1, g1⟩ := mid S1 f1
  have a1 := pm_ar_nI s1 (show 6 * k + 1 < L by omega) (by omega)
  have a2 := pm_ar_nI s1 (show 6 * k + 2 < L by omega) (by omega)
  have a3 := pm_ar_nI s1 (show 6 * k + 3 < L by omega) (by omega)
  have a4 := pm_ar_nI s1 (show 6 * k + 4 < L by omega) (by omega)
  have a5 := pm_ar_nI s1 (show 6 * k + 5 < L by omega) (by omega)
  simp only [pm_tl_some, q146_958, q146_958N, q146_959, q146_962, q146_962N, q146_963, q146_966, q146_969, q146_970, i1, i2, i3, i4, i5, a1, a2, a3, a4, a5, n1, n2, n3, n4, n5, z1, sM_0 g1.1.1]
  refine m_clear g1 fun S2 u2 f2 => ?_
  simp only [pm_tl_some, q146_958, q146_958N, q146_959, q146_962, q146_962N, q146_963, q146_966, q146_969, q146_970, lg_cmp_eq, if_true]
  exact hN S2 ⟨_, _, _, op_clear_wf, l_c u1 f2, u2, (by omega), (l_after' hb f2).trans s1⟩
end
