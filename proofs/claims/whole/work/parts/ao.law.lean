/-! ===== THE LAW: both keep step ===== -/
section
variable {P : Nat → Prop} {S S' : pm_T} {m x b L k d n M nw : Nat} {Z : sp_S} {Q : Option Value → pm_T → Prop}
theorem sM_frO (h : sM S m) (hf : frO P S S') (hP : ∀ b, mO m b → ¬ P b) : sM S' m := by
  have e0 := hf m (hP m ⟨by omega, by omega⟩)
  refine ⟨e0.1.trans h.1, fun q hq => ?_⟩
  obtain ⟨h1, h2⟩ := h.2 q hq
  have hl : q.2.1 < 34 := (by decide : ∀ q ∈ sM_t, q.2.1 < 34) q hq
  exact ⟨(e0.2.2.2.1 _).trans h1, (hf (m + q.2.1) (hP _ ⟨by omega, by omega⟩)).1.trans h2⟩
theorem mI_frO (h : mI S m Z) (hf : frO P S S') (hP : ∀ b, mO m b → ¬ P b) : mI S' m Z := by
  have e := fun j (hj : j < 34) => hf (m + j) (hP (m + j) ⟨by omega, by omega⟩)
  have g : ∀ k, pm_gi S' m k = pm_gi S m k := (e 0 (by decide)).2.1
  have zi := fun j (hj : j < 34) => (e j hj).2.2.2.2.1
  have zl := fun j (hj : j < 34) => (e j hj).2.2.2.2.2.1
  have hM := sM_frO h.1.1 hf hP
  obtain ⟨⟨-, h2⟩, h3⟩ := h
  unfold mTs mLb mG mC mR mH mU at h2
  unfold mAll mC mR mH mU at h3
  refine ⟨⟨hM, ?_⟩, ?_⟩
  · unfold mTs mLb mG mC mR mH mU
    simp only [g, zi 1 (by decide), zi 2 (by decide), zi 3 (by decide), zi 4 (by decide), zi 5 (by decide), zi 6 (by decide), zi 7 (by decide), zi 8 (by decide), zi 9 (by decide), zl 10 (by decide), zi 11 (by decide), zi 12 (by decide), zi 13 (by decide), zi 14 (by decide), zl 15 (by decide), zi 16 (by decide), zi 17 (by decide), zi 18 (by decide), zi 19 (by decide), zi 20 (by decide), zi 21 (by decide), zi 22 (by decide), zl 23 (by decide), zi 24 (by decide), zi 25 (by decide)]
    exact h2
  · unfold mAll mC mR mH mU
    simp only [g, zi 7 (by decide), zi 8 (by decide), zi 9 (by decide), zl 10 (by decide), zi 11 (by decide), zi 12 (by decide), zi 13 (by decide), zi 14 (by decide), zl 15 (by decide), zi 16 (by decide), zi 17 (by decide), zi 18 (by decide), zi 19 (by decide), zi 20 (by decide)]
    exact h3
/-- both hold the same -/
def lI (b L x : Nat) (S : pm_T) (k : Nat) : Prop := ∃ Z nw M, wf Z ∧ cI S x Z nw M ∧ mI S (x + 18) Z ∧ nw ≤ k + 1 ∧ pm_sh S b = .inl (9, L)
theorem and31 (v : Int32) : ∃ w, w < 32 ∧ v &&& 31 = nI w := by
  obtain ⟨n, hn, rfl⟩ := wb_of32 v
  refine ⟨n % 32, Nat.mod_lt _ (by decide), ?_⟩
  apply Int32.toBitVec_inj.mp
  rw [Int32.toBitVec_and]
  show BitVec.ofNat 32 n &&& BitVec.ofNat 32 31 = BitVec.ofNat 32 (n % 32)
  apply BitVec.eq_of_toNat_eq
  rw [BitVec.toNat_and, BitVec.toNat_ofNat, BitVec.toNat_ofNat, BitVec.toNat_ofNat, show 31 % 2 ^ 32 = 2 ^ 5 - 1 by decide, Nat.and_two_pow_sub_one_eq_mod]
  omega
/-- what the class leaves alone -/
theorem l_after (hb : b < x) (f : frO (cO x) S S') : pm_sh S' b = pm_sh S b ∧ ∀ i, pm_zi S' b i = pm_zi S b i := ⟨(f b (by unfold cO; omega)).1, (f b (by unfold cO; omega)).2.2.2.2.1⟩
theorem l_after' (hb : b < x) (f : mF (x + 18) S S') : pm_sh S' b = pm_sh S b := (f.1 b (by unfold mO; omega)).1
theorem l_m (h : mI S (x + 18) Z) (f : frO (cO x) S S') : mI S' (x + 18) Z := mI_frO h f (fun b q1 q2 => by unfold mO at q1; unfold cO at q2; omega)
theorem l_c (h : cI S x Z nw M) (f : mF (x + 18) S S') : cI S' x Z nw M := cI_frO h f.1 (fun b q1 q2 => by unfold mO at q2; unfold cO at q1; omega) f.2.1 f.2.2
set_option maxHeartbeats 1000000 in
theorem l_graph (hb : b < x) (hk : 6 * k + 6 ≤ L) (hL : L ≤ 3072) (hw : wf Z) (hC : cI S x Z nw M) (hM : mI S (x + 18) Z) (hn : nw ≤ k + 1) (hs : pm_sh S b = .inl (9, L)) (hN : ∀ S', lI b L x S' (k + 1) → pm_V (d + 93) 145 971 [.ref b, .ref x, .ref (x + 18), .int (nI (6 * k))] [] S' Q) : pm_V (d + 93) 145 120 [.ref b, .ref x, .ref (x + 18), .int (nI (6 * k))] [] S Q := by
  have hnw : nw < 2000 := by omega
  have i1 : nI (6 * k) + 1 = nI (6 * k + 1) := nI_1 _
  have i2 : nI (6 * k) + 2 = nI (6 * k + 2) := (nI_add (6 * k) 2)
  have i3 : nI (6 * k) + 3 = nI (6 * k + 3) := (nI_add (6 * k) 3)
  have i4 : nI (6 * k) + 4 = nI (6 * k + 4) := (nI_add (6 * k) 4)
  have i5 : nI (6 * k) + 5 = nI (6 * k + 5) := (nI_add (6 * k) 5)
  have a1 := pm_ar_nI hs (show 6 * k + 1 < L by omega) (by omega)
  have a2 := pm_ar_nI hs (show 6 * k + 2 < L by omega) (by omega)
  have a3 := pm_ar_nI hs (show 6 * k + 3 < L by omega) (by omega)
  have a4 := pm_ar_nI hs (show 6 * k + 4 < L by omega) (by omega)
  have a5 := pm_ar_nI hs (show 6 * k + 5 < L by omega) (by omega)
  have n1 := nI_clamp (show 6 * k + 1 < 2 ^ 31 by omega)
  have n2 := nI_clamp (show 6 * k + 2 < 2 ^ 31 by omega)
  have n3 := nI_clamp (show 6 * k + 3 < 2 ^ 31 by omega)
  have n4 := nI_clamp (show 6 * k + 4 < 2 ^ 31 by omega)
  have n5 := nI_clamp (show 6 * k + 5 < 2 ^ 31 by omega)
  have mid : ∀ S1, frO (cO x) S S1 → pm_sh S1 b = .inl (9, L) ∧ (∀ i, pm_zi S1 b i = pm_zi S b i) ∧ mI S1 (x + 18) Z := fun S1 f1 => ⟨(l_after hb f1).1.trans hs, (l_after hb f1).2, l_m hM f1⟩
  simp only [q145_120, q145_120N, q145_121, q145_122, q145_123, q145_124, q145_125, q145_126, q145_129, q145_129N, q145_130, q145_131, q145_132, q145_133, q145_134, q145_135, q145_138, q145_141, q145_142, i1, i2, i3, i4, i5, a1, a2, a3, a4, a5, n1, n2, n3, n4, n5, hC.1.1]
  refine c_graph hw hC fun S1 M1 u1 f1 => ?_
  obtain ⟨s1, z1, g1⟩ := mid S1 f1
  have a1 := pm_ar_nI s1 (show 6 * k + 1 < L by omega) (by omega)
  have a2 := pm_ar_nI s1 (show 6 * k + 2 < L by omega) (by omega)
  have a3 := pm_ar_nI s1 (show 6 * k + 3 < L by omega) (by omega)
  have a4 := pm_ar_nI s1 (show 6 * k + 4 < L by omega) (by omega)
  have a5 := pm_ar_nI s1 (show 6 * k + 5 < L by omega) (by omega)
  simp only [pm_tl_some, q145_120, q145_120N, q145_121, q145_122, q145_123, q145_124, q145_125, q145_126, q145_129, q145_129N, q145_130, q145_131, q145_132, q145_133, q145_134, q145_135, q145_138, q145_141, q145_142, i1, i2, i3, i4, i5, a1, a2, a3, a4, a5, n1, n2, n3, n4, n5, z1, sM_0 g1.1.1]
  refine m_graph hw g1 fun S2 u2 f2 => ?_
  simp only [pm_tl_some, q145_120, q145_120N, q145_121, q145_122, q145_123, q145_124, q145_125, q145_126, q145_129, q145_129N, q145_130, q145_131, q145_132, q145_133, q145_134, q145_135, q145_138, q145_141, q145_142, lg_cmp_eq, if_true]
  exact hN S2 ⟨_, _, _, op_graph_wf hw, l_c u1 f2, u2, (by omega), (l_after' hb f2).trans s1⟩

set_option maxHeartbeats 1000000 in
theorem l_arc (hb : b < x) (hk : 6 * k + 6 ≤ L) (hL : L ≤ 3072) (hw : wf Z) (hC : cI S x Z nw M) (hM : mI S (x + 18) Z) (hn : nw ≤ k + 1) (hs : pm_sh S b = .inl (9, L)) (hN : ∀ S', lI b L x S' (k + 1) → pm_V (d + 93) 145 971 [.ref b, .ref x, .ref (x + 18), .int (nI (6 * k))] [] S' Q) : pm_V (d + 93) 145 143 [.ref b, .ref x, .ref (x + 18), .int (nI (6 * k))] [] S Q := by
  have hnw : nw < 2000 := by omega
  have i1 : nI (6 * k) + 1 = nI (6 * k + 1) := nI_1 _
  have i2 : nI (6 * k) + 2 = nI (6 * k + 2) := (nI_add (6 * k) 2)
  have i3 : nI (6 * k) + 3 = nI (6 * k + 3) := (nI_add (6 * k) 3)
  have i4 : nI (6 * k) + 4 = nI (6 * k + 4) := (nI_add (6 * k) 4)
  have i5 : nI (6 * k) + 5 = nI (6 * k + 5) := (nI_add (6 * k) 5)
  have a1 := pm_ar_nI hs (show 6 * k + 1 < L by omega) (by omega)
  have a2 := pm_ar_nI hs (show 6 * k + 2 < L by omega) (by omega)
  have a3 := pm_ar_nI hs (show 6 * k + 3 < L by omega) (by omega)
  have a4 := pm_ar_nI hs (show 6 * k + 4 < L by omega) (by omega)
  have a5 := pm_ar_nI hs (show 6 * k + 5 < L by omega) (by omega)
  have n1 := nI_clamp (show 6 * k + 1 < 2 ^ 31 by omega)
  have n2 := nI_clamp (show 6 * k + 2 < 2 ^ 31 by omega)
  have n3 := nI_clamp (show 6 * k + 3 < 2 ^ 31 by omega)
  have n4 := nI_clamp (show 6 * k + 4 < 2 ^ 31 by omega)
  have n5 := nI_clamp (show 6 * k + 5 < 2 ^ 31 by omega)
  have mid : ∀ S1, frO (cO x) S S1 → pm_sh S1 b = .inl (9, L) ∧ (∀ i, pm_zi S1 b i = pm_zi S b i) ∧ mI S1 (x + 18) Z := fun S1 f1 => ⟨(l_after hb f1).1.trans hs, (l_after hb f1).2, l_m hM f1⟩
  simp only [q145_143, q145_143N, q145_144, q145_145, q145_146, q145_147, q145_148, q145_149, q145_150, q145_151, q145_152, q145_153, q145_154, q145_155, q145_156, q145_157, q145_158, q145_159, q145_160, q145_161, q145_162, q145_163, q145_164, q145_165, q145_167, q145_168, q145_169, q145_170, q145_171, q145_172, q145_173, q145_174, q145_177, q145_178, q145_179, q145_182, q145_182N, q145_183, q145_184, q145_185, q145_186, q145_187, q145_188, q145_189, q145_190, q145_191, q145_192, q145_193, q145_194, q145_195, q145_196, q145_197, q145_198, q145_199, q145_200, q145_201, q145_202, q145_203, q145_204, q145_206, q145_207, q145_208, q145_209, q145_210, q145_211, q145_212, q145_213, q145_216, q145_217, q145_218, q145_221, q145_224, q145_225, i1, i2, i3, i4, i5, a1, a2, a3, a4, a5, n1, n2, n3, n4, n5, hC.1.1]
  refine c_arc hw hnw hC fun S1 nw1 u1 le1 f1 => ?_
  obtain ⟨s1, z1, g1⟩ := mid S1 f1
  have a1 := pm_ar_nI s1 (show 6 * k + 1 < L by omega) (by omega)
  have a2 := pm_ar_nI s1 (show 6 * k + 2 < L by omega) (by omega)
  have a3 := pm_ar_nI s1 (show 6 * k + 3 < L by omega) (by omega)
  have a4 := pm_ar_nI s1 (show 6 * k + 4 < L by omega) (by omega)
  have a5 := pm_ar_nI s1 (show 6 * k + 5 < L by omega) (by omega)
  simp only [pm_tl_some, q145_143, q145_143N, q145_144, q145_145, q145_146, q145_147, q145_148, q145_149, q145_150, q145_151, q145_152, q145_153, q145_154, q145_155, q145_156, q145_157, q145_158, q145_159, q145_160, q145_161, q145_162, q145_163, q145_164, q145_165, q145_167, q145_168, q145_169, q145_170, q145_171, q145_172, q145_173, q145_174, q145_177, q145_178, q145_179, q145_182, q145_182N, q145_183, q145_184, q145_185, q145_186, q145_187, q145_188, q145_189, q145_190, q145_191, q145_192, q145_193, q145_194, q145_195, q145_196, q145_197, q145_198, q145_199, q145_200, q145_201, q145_202, q145_203, q145_204, q145_206, q145_207, q145_208, q145_209, q145_210, q145_211, q145_212, q145_213, q145_216, q145_217, q145_218, q145_221, q145_224, q145_225, i1, i2, i3, i4, i5, a1, a2, a3, a4, a5, n1, n2, n3, n4, n5, z1, sM_0 g1.1.1]
  refine m_arc hw g1 fun S2 u2 f2 => ?_
  simp only [pm_tl_some, q145_143, q145_143N, q145_144, q145_145, q145_146, q145_147, q145_148, q145_149, q145_150, q145_151, q145_152, q145_153, q145_154, q145_155, q145_156, q145_157, q145_158, q145_159, q145_160, q145_161, q145_162, q145_163, q145_164, q145_165, q145_167, q145_168, q145_169, q145_170, q145_171, q145_172, q145_173, q145_174, q145_177, q145_178, q145_179, q145_182, q145_182N, q145_183, q145_184, q145_185, q145_186, q145_187, q145_188, q145_189, q145_190, q145_191, q145_192, q145_193, q145_194, q145_195, q145_196, q145_197, q145_198, q145_199, q145_200, q145_201, q145_202, q145_203, q145_204, q145_206, q145_207, q145_208, q145_209, q145_210, q145_211, q145_212, q145_213, q145_216, q145_217, q145_218, q145_221, q145_224, q145_225, lg_cmp_eq, if_true]
  exact hN S2 ⟨_, _, _, op_arc_wf hw, l_c u1 f2, u2, (by omega), (l_after' hb f2).trans s1⟩

set_option maxHeartbeats 1000000 in
theorem l_set (hb : b < x) (hk : 6 * k + 6 ≤ L) (hL : L ≤ 3072) (hw : wf Z) (hC : cI S x Z nw M) (hM : mI S (x + 18) Z) (hn : nw ≤ k + 1) (hs : pm_sh S b = .inl (9, L)) (hN : ∀ S', lI b L x S' (k + 1) → pm_V (d + 93) 145 971 [.ref b, .ref x, .ref (x + 18), .int (nI (6 * k))] [] S' Q) : pm_V (d + 93) 145 226 [.ref b, .ref x, .ref (x + 18), .int (nI (6 * k))] [] S Q := by
  have hnw : nw < 2000 := by omega
  have i1 : nI (6 * k) + 1 = nI (6 * k + 1) := nI_1 _
  have i2 : nI (6 * k) + 2 = nI (6 * k + 2) := (nI_add (6 * k) 2)
  have i3 : nI (6 * k) + 3 = nI (6 * k + 3) := (nI_add (6 * k) 3)
  have i4 : nI (6 * k) + 4 = nI (6 * k + 4) := (nI_add (6 * k) 4)
  have i5 : nI (6 * k) + 5 = nI (6 * k + 5) := (nI_add (6 * k) 5)
  have a1 := pm_ar_nI hs (show 6 * k + 1 < L by omega) (by omega)
  have a2 := pm_ar_nI hs (show 6 * k + 2 < L by omega) (by omega)
  have a3 := pm_ar_nI hs (show 6 * k + 3 < L by omega) (by omega)
  have a4 := pm_ar_nI hs (show 6 * k + 4 < L by omega) (by omega)
  have a5 := pm_ar_nI hs (show 6 * k + 5 < L by omega) (by omega)
  have n1 := nI_clamp (show 6 * k + 1 < 2 ^ 31 by omega)
  have n2 := nI_clamp (show 6 * k + 2 < 2 ^ 31 by omega)
  have n3 := nI_clamp (show 6 * k + 3 < 2 ^ 31 by omega)
  have n4 := nI_clamp (show 6 * k + 4 < 2 ^ 31 by omega)
  have n5 := nI_clamp (show 6 * k + 5 < 2 ^ 31 by omega)
  have mid : ∀ S1, frO (cO x) S S1 → pm_sh S1 b = .inl (9, L) ∧ (∀ i, pm_zi S1 b i = pm_zi S b i) ∧ mI S1 (x + 18) Z := fun S1 f1 => ⟨(l_after hb f1).1.trans hs, (l_after hb f1).2, l_m hM f1⟩
  simp only [q145_226, q145_226N, q145_227, q145_228, q145_229, q145_230, q145_231, q145_232, q145_233, q145_234, q145_235, q145_236, q145_237, q145_238, q145_239, q145_240, q145_241, q145_242, q145_243, q145_244, q145_245, q145_246, q145_247, q145_248, q145_250, q145_251, q145_252, q145_253, q145_254, q145_255, q145_256, q145_257, q145_260, q145_261, q145_262, q145_265, q145_265N, q145_266, q145_267, q145_268, q145_269, q145_270, q145_271, q145_272, q145_273, q145_274, q145_275, q145_276, q145_277, q145_278, q145_279, q145_280, q145_281, q145_282, q145_283, q145_284, q145_285, q145_286, q145_287, q145_289, q145_290, q145_291, q145_292, q145_293, q145_294, q145_295, q145_296, q145_299, q145_300, q145_301, q145_304, q145_307, q145_308, i1, i2, i3, i4, i5, a1, a2, a3, a4, a5, n1, n2, n3, n4, n5, hC.1.1]
  refine c_set hw hnw hC fun S1 nw1 u1 le1 f1 => ?_
  obtain ⟨s1, z1, g1⟩ := mid S1 f1
  have a1 := pm_ar_nI s1 (show 6 * k + 1 < L by omega) (by omega)
  have a2 := pm_ar_nI s1 (show 6 * k + 2 < L by omega) (by omega)
  have a3 := pm_ar_nI s1 (show 6 * k + 3 < L by omega) (by omega)
  have a4 := pm_ar_nI s1 (show 6 * k + 4 < L by omega) (by omega)
  have a5 := pm_ar_nI s1 (show 6 * k + 5 < L by omega) (by omega)
  simp only [pm_tl_some, q145_226, q145_226N, q145_227, q145_228, q145_229, q145_230, q145_231, q145_232, q145_233, q145_234, q145_235, q145_236, q145_237, q145_238, q145_239, q145_240, q145_241, q145_242, q145_243, q145_244, q145_245, q145_246, q145_247, q145_248, q145_250, q145_251, q145_252, q145_253, q145_254, q145_255, q145_256, q145_257, q145_260, q145_261, q145_262, q145_265, q145_265N, q145_266, q145_267, q145_268, q145_269, q145_270, q145_271, q145_272, q145_273, q145_274, q145_275, q145_276, q145_277, q145_278, q145_279, q145_280, q145_281, q145_282, q145_283, q145_284, q145_285, q145_286, q145_287, q145_289, q145_290, q145_291, q145_292, q145_293, q145_294, q145_295, q145_296, q145_299, q145_300, q145_301, q145_304, q145_307, q145_308, i1, i2, i3, i4, i5, a1, a2, a3, a4, a5, n1, n2, n3, n4, n5, z1, sM_0 g1.1.1]
  refine m_set hw g1 fun S2 u2 f2 => ?_
  simp only [pm_tl_some, q145_226, q145_226N, q145_227, q145_228, q145_229, q145_230, q145_231, q145_232, q145_233, q145_234, q145_235, q145_236, q145_237, q145_238, q145_239, q145_240, q145_241, q145_242, q145_243, q145_244, q145_245, q145_246, q145_247, q145_248, q145_250, q145_251, q145_252, q145_253, q145_254, q145_255, q145_256, q145_257, q145_260, q145_261, q145_262, q145_265, q145_265N, q145_266, q145_267, q145_268, q145_269, q145_270, q145_271, q145_272, q145_273, q145_274, q145_275, q145_276, q145_277, q145_278, q145_279, q145_280, q145_281, q145_282, q145_283, q145_284, q145_285, q145_286, q145_287, q145_289, q145_290, q145_291, q145_292, q145_293, q145_294, q145_295, q145_296, q145_299, q145_300, q145_301, q145_304, q145_307, q145_308, lg_cmp_eq, if_true]
  exact hN S2 ⟨_, _, _, op_set_wf hw, l_c u1 f2, u2, (by omega), (l_after' hb f2).trans s1⟩

set_option maxHeartbeats 1000000 in
theorem l_label (hb : b < x) (hk : 6 * k + 6 ≤ L) (hL : L ≤ 3072) (hw : wf Z) (hC : cI S x Z nw M) (hM : mI S (x + 18) Z) (hn : nw ≤ k + 1) (hs : pm_sh S b = .inl (9, L)) (hN : ∀ S', lI b L x S' (k + 1) → pm_V (d + 93) 145 971 [.ref b, .ref x, .ref (x + 18), .int (nI (6 * k))] [] S' Q) : pm_V (d + 93) 145 309 [.ref b, .ref x, .ref (x + 18), .int (nI (6 * k))] [] S Q := by
  have hnw : nw < 2000 := by omega
  have i1 : nI (6 * k) + 1 = nI (6 * k + 1) := nI_1 _
  have i2 : nI (6 * k) + 2 = nI (6 * k + 2) := (nI_add (6 * k) 2)
  have i3 : nI (6 * k) + 3 = nI (6 * k + 3) := (nI_add (6 * k) 3)
  have i4 : nI (6 * k) + 4 = nI (6 * k + 4) := (nI_add (6 * k) 4)
  have i5 : nI (6 * k) + 5 = nI (6 * k + 5) := (nI_add (6 * k) 5)
  have a1 := pm_ar_nI hs (show 6 * k + 1 < L by omega) (by omega)
  have a2 := pm_ar_nI hs (show 6 * k + 2 < L by omega) (by omega)
  have a3 := pm_ar_nI hs (show 6 * k + 3 < L by omega) (by omega)
  have a4 := pm_ar_nI hs (show 6 * k + 4 < L by omega) (by omega)
  have a5 := pm_ar_nI hs (show 6 * k + 5 < L by omega) (by omega)
  have n1 := nI_clamp (show 6 * k + 1 < 2 ^ 31 by omega)
  have n2 := nI_clamp (show 6 * k + 2 < 2 ^ 31 by omega)
  have n3 := nI_clamp (show 6 * k + 3 < 2 ^ 31 by omega)
  have n4 := nI_clamp (show 6 * k + 4 < 2 ^ 31 by omega)
  have n5 := nI_clamp (show 6 * k + 5 < 2 ^ 31 by omega)
  have mid : ∀ S1, frO (cO x) S S1 → pm_sh S1 b = .inl (9, L) ∧ (∀ i, pm_zi S1 b i = pm_zi S b i) ∧ mI S1 (x + 18) Z := fun S1 f1 => ⟨(l_after hb f1).1.trans hs, (l_after hb f1).2, l_m hM f1⟩
  simp only [q145_309, q145_309N, q145_310, q145_311, q145_312, q145_313, q145_314, q145_315, q145_316, q145_317, q145_318, q145_319, q145_320, q145_321, q145_322, q145_323, q145_324, q145_325, q145_328, q145_328N, q145_329, q145_330, q145_331, q145_332, q145_333, q145_334, q145_335, q145_336, q145_337, q145_338, q145_339, q145_340, q145_341, q145_342, q145_343, q145_344, q145_347, q145_350, q145_351, i1, i2, i3, i4, i5, a1, a2, a3, a4, a5, n1, n2, n3, n4, n5, hC.1.1]
  refine c_label hw hnw hC fun S1 nw1 u1 le1 f1 => ?_
  obtain ⟨s1, z1, g1⟩ := mid S1 f1
  have a1 := pm_ar_nI s1 (show 6 * k + 1 < L by omega) (by omega)
  have a2 := pm_ar_nI s1 (show 6 * k + 2 < L by omega) (by omega)
  have a3 := pm_ar_nI s1 (show 6 * k + 3 < L by omega) (by omega)
  have a4 := pm_ar_nI s1 (show 6 * k + 4 < L by omega) (by omega)
  have a5 := pm_ar_nI s1 (show 6 * k + 5 < L by omega) (by omega)
  simp only [pm_tl_some, q145_309, q145_309N, q145_310, q145_311, q145_312, q145_313, q145_314, q145_315, q145_316, q145_317, q145_318, q145_319, q145_320, q145_321, q145_322, q145_323, q145_324, q145_325, q145_328, q145_328N, q145_329, q145_330, q145_331, q145_332, q145_333, q145_334, q145_335, q145_336, q145_337, q145_338, q145_339, q145_340, q145_341, q145_342, q145_343, q145_344, q145_347, q145_350, q145_351, i1, i2, i3, i4, i5, a1, a2, a3, a4, a5, n1, n2, n3, n4, n5, z1, sM_0 g1.1.1]
  refine m_label hw g1 fun S2 u2 f2 => ?_
  simp only [pm_tl_some, q145_309, q145_309N, q145_310, q145_311, q145_312, q145_313, q145_314, q145_315, q145_316, q145_317, q145_318, q145_319, q145_320, q145_321, q145_322, q145_323, q145_324, q145_325, q145_328, q145_328N, q145_329, q145_330, q145_331, q145_332, q145_333, q145_334, q145_335, q145_336, q145_337, q145_338, q145_339, q145_340, q145_341, q145_342, q145_343, q145_344, q145_347, q145_350, q145_351, lg_cmp_eq, if_true]
  exact hN S2 ⟨_, _, _, op_label_wf hw, l_c u1 f2, u2, (by omega), (l_after' hb f2).trans s1⟩

set_option maxHeartbeats 1000000 in
theorem l_test (hb : b < x) (hk : 6 * k + 6 ≤ L) (hL : L ≤ 3072) (hw : wf Z) (hC : cI S x Z nw M) (hM : mI S (x + 18) Z) (hn : nw ≤ k + 1) (hs : pm_sh S b = .inl (9, L)) (hN : ∀ S', lI b L x S' (k + 1) → pm_V (d + 93) 145 971 [.ref b, .ref x, .ref (x + 18), .int (nI (6 * k))] [] S' Q) : pm_V (d + 93) 145 352 [.ref b, .ref x, .ref (x + 18), .int (nI (6 * k))] [] S Q := by
  have hnw : nw < 2000 := by omega
  have i1 : nI (6 * k) + 1 = nI (6 * k + 1) := nI_1 _
  have i2 : nI (6 * k) + 2 = nI (6 * k + 2) := (nI_add (6 * k) 2)
  have i3 : nI (6 * k) + 3 = nI (6 * k + 3) := (nI_add (6 * k) 3)
  have i4 : nI (6 * k) + 4 = nI (6 * k + 4) := (nI_add (6 * k) 4)
  have i5 : nI (6 * k) + 5 = nI (6 * k + 5) := (nI_add (6 * k) 5)
  have a1 := pm_ar_nI hs (show 6 * k + 1 < L by omega) (by omega)
  have a2 := pm_ar_nI hs (show 6 * k + 2 < L by omega) (by omega)
  have a3 := pm_ar_nI hs (show 6 * k + 3 < L by omega) (by omega)
  have a4 := pm_ar_nI hs (show 6 * k + 4 < L by omega) (by omega)
  have a5 := pm_ar_nI hs (show 6 * k + 5 < L by omega) (by omega)
  have n1 := nI_clamp (show 6 * k + 1 < 2 ^ 31 by omega)
  have n2 := nI_clamp (show 6 * k + 2 < 2 ^ 31 by omega)
  have n3 := nI_clamp (show 6 * k + 3 < 2 ^ 31 by omega)
  have n4 := nI_clamp (show 6 * k + 4 < 2 ^ 31 by omega)
  have n5 := nI_clamp (show 6 * k + 5 < 2 ^ 31 by omega)
  have mid : ∀ S1, frO (cO x) S S1 → pm_sh S1 b = .inl (9, L) ∧ (∀ i, pm_zi S1 b i = pm_zi S b i) ∧ mI S1 (x + 18) Z := fun S1 f1 => ⟨(l_after hb f1).1.trans hs, (l_after hb f1).2, l_m hM f1⟩
  simp only [q145_352, q145_352N, q145_353, q145_354, q145_355, q145_356, q145_357, q145_358, q145_359, q145_360, q145_361, q145_362, q145_363, q145_364, q145_366, q145_367, q145_368, q145_369, q145_370, q145_371, q145_372, q145_373, q145_376, q145_377, q145_378, q145_379, q145_380, q145_381, q145_382, q145_383, q145_384, q145_385, q145_386, q145_387, q145_388, q145_391, q145_391N, q145_392, q145_393, q145_394, q145_395, q145_396, q145_397, q145_398, q145_399, q145_400, q145_401, q145_402, q145_403, q145_405, q145_406, q145_407, q145_408, q145_409, q145_410, q145_411, q145_412, q145_415, q145_416, q145_417, q145_418, q145_419, q145_420, q145_421, q145_422, q145_423, q145_424, q145_425, q145_426, q145_427, q145_430, q145_433, q145_434, i1, i2, i3, i4, i5, a1, a2, a3, a4, a5, n1, n2, n3, n4, n5, hC.1.1]
  refine c_test hw hC fun S1 u1 f1 => ?_
  obtain ⟨s1, z1, g1⟩ := mid S1 f1
  have a1 := pm_ar_nI s1 (show 6 * k + 1 < L by omega) (by omega)
  have a2 := pm_ar_nI s1 (show 6 * k + 2 < L by omega) (by omega)
  have a3 := pm_ar_nI s1 (show 6 * k + 3 < L by omega) (by omega)
  have a4 := pm_ar_nI s1 (show 6 * k + 4 < L by omega) (by omega)
  have a5 := pm_ar_nI s1 (show 6 * k + 5 < L by omega) (by omega)
  simp only [pm_tl_some, q145_352, q145_352N, q145_353, q145_354, q145_355, q145_356, q145_357, q145_358, q145_359, q145_360, q145_361, q145_362, q145_363, q145_364, q145_366, q145_367, q145_368, q145_369, q145_370, q145_371, q145_372, q145_373, q145_376, q145_377, q145_378, q145_379, q145_380, q145_381, q145_382, q145_383, q145_384, q145_385, q145_386, q145_387, q145_388, q145_391, q145_391N, q145_392, q145_393, q145_394, q145_395, q145_396, q145_397, q145_398, q145_399, q145_400, q145_401, q145_402, q145_403, q145_405, q145_406, q145_407, q145_408, q145_409, q145_410, q145_411, q145_412, q145_415, q145_416, q145_417, q145_418, q145_419, q145_420, q145_421, q145_422, q145_423, q145_424, q145_425, q145_426, q145_427, q145_430, q145_433, q145_434, i1, i2, i3, i4, i5, a1, a2, a3, a4, a5, n1, n2, n3, n4, n5, z1, sM_0 g1.1.1]
  refine m_test hw g1 fun S2 u2 f2 => ?_
  simp only [pm_tl_some, q145_352, q145_352N, q145_353, q145_354, q145_355, q145_356, q145_357, q145_358, q145_359, q145_360, q145_361, q145_362, q145_363, q145_364, q145_366, q145_367, q145_368, q145_369, q145_370, q145_371, q145_372, q145_373, q145_376, q145_377, q145_378, q145_379, q145_380, q145_381, q145_382, q145_383, q145_384, q145_385, q145_386, q145_387, q145_388, q145_391, q145_391N, q145_392, q145_393, q145_394, q145_395, q145_396, q145_397, q145_398, q145_399, q145_400, q145_401, q145_402, q145_403, q145_405, q145_406, q145_407, q145_408, q145_409, q145_410, q145_411, q145_412, q145_415, q145_416, q145_417, q145_418, q145_419, q145_420, q145_421, q145_422, q145_423, q145_424, q145_425, q145_426, q145_427, q145_430, q145_433, q145_434, lg_cmp_eq, if_true]
  exact hN S2 ⟨_, _, _, op_test_wf hw, l_c u1 f2, u2, (by omega), (l_after' hb f2).trans s1⟩

set_option maxHeartbeats 1000000 in
theorem l_view (hb : b < x) (hk : 6 * k + 6 ≤ L) (hL : L ≤ 3072) (hw : wf Z) (hC : cI S x Z nw M) (hM : mI S (x + 18) Z) (hn : nw ≤ k + 1) (hs : pm_sh S b = .inl (9, L)) (hN : ∀ S', lI b L x S' (k + 1) → pm_V (d + 93) 145 971 [.ref b, .ref x, .ref (x + 18), .int (nI (6 * k))] [] S' Q) : pm_V (d + 93) 145 435 [.ref b, .ref x, .ref (x + 18), .int (nI (6 * k))] [] S Q := by
  have hnw : nw < 2000 := by omega
  have i1 : nI (6 * k) + 1 = nI (6 * k + 1) := nI_1 _
  have i2 : nI (6 * k) + 2 = nI (6 * k + 2) := (nI_add (6 * k) 2)
  have i3 : nI (6 * k) + 3 = nI (6 * k + 3) := (nI_add (6 * k) 3)
  have i4 : nI (6 * k) + 4 = nI (6 * k + 4) := (nI_add (6 * k) 4)
  have i5 : nI (6 * k) + 5 = nI (6 * k + 5) := (nI_add (6 * k) 5)
  have a1 := pm_ar_nI hs (show 6 * k + 1 < L by omega) (by omega)
  have a2 := pm_ar_nI hs (show 6 * k + 2 < L by omega) (by omega)
  have a3 := pm_ar_nI hs (show 6 * k + 3 < L by omega) (by omega)
  have a4 := pm_ar_nI hs (show 6 * k + 4 < L by omega) (by omega)
  have a5 := pm_ar_nI hs (show 6 * k + 5 < L by omega) (by omega)
  have n1 := nI_clamp (show 6 * k + 1 < 2 ^ 31 by omega)
  have n2 := nI_clamp (show 6 * k + 2 < 2 ^ 31 by omega)
  have n3 := nI_clamp (show 6 * k + 3 < 2 ^ 31 by omega)
  have n4 := nI_clamp (show 6 * k + 4 < 2 ^ 31 by omega)
  have n5 := nI_clamp (show 6 * k + 5 < 2 ^ 31 by omega)
  have mid : ∀ S1, frO (cO x) S S1 → pm_sh S1 b = .inl (9, L) ∧ (∀ i, pm_zi S1 b i = pm_zi S b i) ∧ mI S1 (x + 18) Z := fun S1 f1 => ⟨(l_after hb f1).1.trans hs, (l_after hb f1).2, l_m hM f1⟩
  simp only [q145_435, q145_435N, q145_436, q145_437, q145_438, q145_439, q145_440, q145_441, q145_442, q145_443, q145_444, q145_445, q145_446, q145_447, q145_448, q145_449, q145_450, q145_451, q145_452, q145_453, q145_454, q145_455, q145_456, q145_457, q145_458, q145_459, q145_460, q145_461, q145_464, q145_464N, q145_465, q145_466, q145_467, q145_468, q145_469, q145_470, q145_471, q145_472, q145_473, q145_474, q145_475, q145_476, q145_477, q145_478, q145_479, q145_480, q145_481, q145_482, q145_483, q145_484, q145_485, q145_486, q145_487, q145_488, q145_489, q145_490, q145_493, q145_496, q145_497, i1, i2, i3, i4, i5, a1, a2, a3, a4, a5, n1, n2, n3, n4, n5, hC.1.1]
  refine c_view hw hC fun S1 M1 u1 f1 => ?_
  obtain ⟨s1, z1, g1⟩ := mid S1 f1
  have a1 := pm_ar_nI s1 (show 6 * k + 1 < L by omega) (by omega)
  have a2 := pm_ar_nI s1 (show 6 * k + 2 < L by omega) (by omega)
  have a3 := pm_ar_nI s1 (show 6 * k + 3 < L by omega) (by omega)
  have a4 := pm_ar_nI s1 (show 6 * k + 4 < L by omega) (by omega)
  have a5 := pm_ar_nI s1 (show 6 * k + 5 < L by omega) (by omega)
  simp only [pm_tl_some, q145_435, q145_435N, q145_436, q145_437, q145_438, q145_439, q145_440, q145_441, q145_442, q145_443, q145_444, q145_445, q145_446, q145_447, q145_448, q145_449, q145_450, q145_451, q145_452, q145_453, q145_454, q145_455, q145_456, q145_457, q145_458, q145_459, q145_460, q145_461, q145_464, q145_464N, q145_465, q145_466, q145_467, q145_468, q145_469, q145_470, q145_471, q145_472, q145_473, q145_474, q145_475, q145_476, q145_477, q145_478, q145_479, q145_480, q145_481, q145_482, q145_483, q145_484, q145_485, q145_486, q145_487, q145_488, q145_489, q145_490, q145_493, q145_496, q145_497, i1, i2, i3, i4, i5, a1, a2, a3, a4, a5, n1, n2, n3, n4, n5, z1, sM_0 g1.1.1]
  refine m_view hw g1 fun S2 u2 f2 => ?_
  simp only [pm_tl_some, q145_435, q145_435N, q145_436, q145_437, q145_438, q145_439, q145_440, q145_441, q145_442, q145_443, q145_444, q145_445, q145_446, q145_447, q145_448, q145_449, q145_450, q145_451, q145_452, q145_453, q145_454, q145_455, q145_456, q145_457, q145_458, q145_459, q145_460, q145_461, q145_464, q145_464N, q145_465, q145_466, q145_467, q145_468, q145_469, q145_470, q145_471, q145_472, q145_473, q145_474, q145_475, q145_476, q145_477, q145_478, q145_479, q145_480, q145_481, q145_482, q145_483, q145_484, q145_485, q145_486, q145_487, q145_488, q145_489, q145_490, q145_493, q145_496, q145_497, lg_cmp_eq, if_true]
  exact hN S2 ⟨_, _, _, op_view_wf hw, l_c u1 f2, u2, (by omega), (l_after' hb f2).trans s1⟩

set_option maxHeartbeats 1000000 in
theorem l_live (hb : b < x) (hk : 6 * k + 6 ≤ L) (hL : L ≤ 3072) (hw : wf Z) (hC : cI S x Z nw M) (hM : mI S (x + 18) Z) (hn : nw ≤ k + 1) (hs : pm_sh S b = .inl (9, L)) (hN : ∀ S', lI b L x S' (k + 1) → pm_V (d + 93) 145 971 [.ref b, .ref x, .ref (x + 18), .int (nI (6 * k))] [] S' Q) : pm_V (d + 93) 145 498 [.ref b, .ref x, .ref (x + 18), .int (nI (6 * k))] [] S Q := by
  have hnw : nw < 2000 := by omega
  have i1 : nI (6 * k) + 1 = nI (6 * k + 1) := nI_1 _
  have i2 : nI (6 * k) + 2 = nI (6 * k + 2) := (nI_add (6 * k) 2)
  have i3 : nI (6 * k) + 3 = nI (6 * k + 3) := (nI_add (6 * k) 3)
  have i4 : nI (6 * k) + 4 = nI (6 * k + 4) := (nI_add (6 * k) 4)
  have i5 : nI (6 * k) + 5 = nI (6 * k + 5) := (nI_add (6 * k) 5)
  have a1 := pm_ar_nI hs (show 6 * k + 1 < L by omega) (by omega)
  have a2 := pm_ar_nI hs (show 6 * k + 2 < L by omega) (by omega)
  have a3 := pm_ar_nI hs (show 6 * k + 3 < L by omega) (by omega)
  have a4 := pm_ar_nI hs (show 6 * k + 4 < L by omega) (by omega)
  have a5 := pm_ar_nI hs (show 6 * k + 5 < L by omega) (by omega)
  have n1 := nI_clamp (show 6 * k + 1 < 2 ^ 31 by omega)
  have n2 := nI_clamp (show 6 * k + 2 < 2 ^ 31 by omega)
  have n3 := nI_clamp (show 6 * k + 3 < 2 ^ 31 by omega)
  have n4 := nI_clamp (show 6 * k + 4 < 2 ^ 31 by omega)
  have n5 := nI_clamp (show 6 * k + 5 < 2 ^ 31 by omega)
  have mid : ∀ S1, frO (cO x) S S1 → pm_sh S1 b = .inl (9, L) ∧ (∀ i, pm_zi S1 b i = pm_zi S b i) ∧ mI S1 (x + 18) Z := fun S1 f1 => ⟨(l_after hb f1).1.trans hs, (l_after hb f1).2, l_m hM f1⟩
  simp only [q145_498, q145_498N, q145_499, q145_500, q145_501, q145_502, q145_503, q145_504, q145_505, q145_506, q145_507, q145_508, q145_509, q145_512, q145_513, q145_516, q145_517, q145_520, q145_520N, q145_521, q145_522, q145_523, q145_524, q145_525, q145_526, q145_527, q145_528, q145_529, q145_530, q145_531, q145_534, q145_535, q145_538, q145_539, q145_542, q145_545, q145_546, i1, i2, i3, i4, i5, a1, a2, a3, a4, a5, n1, n2, n3, n4, n5, hC.1.1]
  by_cases h2 : pm_zi S b (6 * k + 2) = 0
  · rw [if_pos h2]
    refine c_live (b := false) hw hnw hC fun S1 nw1 u1 le1 f1 => ?_
    obtain ⟨s1, z1, g1⟩ := mid S1 f1
    have a1 := pm_ar_nI s1 (show 6 * k + 1 < L by omega) (by omega)
    have a2 := pm_ar_nI s1 (show 6 * k + 2 < L by omega) (by omega)
    have a3 := pm_ar_nI s1 (show 6 * k + 3 < L by omega) (by omega)
    have a4 := pm_ar_nI s1 (show 6 * k + 4 < L by omega) (by omega)
    have a5 := pm_ar_nI s1 (show 6 * k + 5 < L by omega) (by omega)
    simp only [pm_tl_some, q145_498, q145_498N, q145_499, q145_500, q145_501, q145_502, q145_503, q145_504, q145_505, q145_506, q145_507, q145_508, q145_509, q145_512, q145_513, q145_516, q145_517, q145_520, q145_520N, q145_521, q145_522, q145_523, q145_524, q145_525, q145_526, q145_527, q145_528, q145_529, q145_530, q145_531, q145_534, q145_535, q145_538, q145_539, q145_542, q145_545, q145_546, i1, i2, i3, i4, i5, a1, a2, a3, a4, a5, n1, n2, n3, n4, n5, z1, h2, if_true, if_false, sM_0 g1.1.1]
    refine m_live (b := false) hw g1 fun S2 u2 f2 => ?_
    simp only [pm_tl_some, q145_498, q145_498N, q145_499, q145_500, q145_501, q145_502, q145_503, q145_504, q145_505, q145_506, q145_507, q145_508, q145_509, q145_512, q145_513, q145_516, q145_517, q145_520, q145_520N, q145_521, q145_522, q145_523, q145_524, q145_525, q145_526, q145_527, q145_528, q145_529, q145_530, q145_531, q145_534, q145_535, q145_538, q145_539, q145_542, q145_545, q145_546, if_true]
    exact hN S2 ⟨_, _, _, op_live_wf hw, l_c u1 f2, u2, (by omega), (l_after' hb f2).trans s1⟩
  · rw [if_neg h2]
    refine c_live (b := true) hw hnw hC fun S1 nw1 u1 le1 f1 => ?_
    obtain ⟨s1, z1, g1⟩ := mid S1 f1
    have a1 := pm_ar_nI s1 (show 6 * k + 1 < L by omega) (by omega)
    have a2 := pm_ar_nI s1 (show 6 * k + 2 < L by omega) (by omega)
    have a3 := pm_ar_nI s1 (show 6 * k + 3 < L by omega) (by omega)
    have a4 := pm_ar_nI s1 (show 6 * k + 4 < L by omega) (by omega)
    have a5 := pm_ar_nI s1 (show 6 * k + 5 < L by omega) (by omega)
    simp only [pm_tl_some, q145_498, q145_498N, q145_499, q145_500, q145_501, q145_502, q145_503, q145_504, q145_505, q145_506, q145_507, q145_508, q145_509, q145_512, q145_513, q145_516, q145_517, q145_520, q145_520N, q145_521, q145_522, q145_523, q145_524, q145_525, q145_526, q145_527, q145_528, q145_529, q145_530, q145_531, q145_534, q145_535, q145_538, q145_539, q145_542, q145_545, q145_546, i1, i2, i3, i4, i5, a1, a2, a3, a4, a5, n1, n2, n3, n4, n5, z1, h2, if_true, if_false, sM_0 g1.1.1]
    refine m_live (b := true) hw g1 fun S2 u2 f2 => ?_
    simp only [pm_tl_some, q145_498, q145_498N, q145_499, q145_500, q145_501, q145_502, q145_503, q145_504, q145_505, q145_506, q145_507, q145_508, q145_509, q145_512, q145_513, q145_516, q145_517, q145_520, q145_520N, q145_521, q145_522, q145_523, q145_524, q145_525, q145_526, q145_527, q145_528, q145_529, q145_530, q145_531, q145_534, q145_535, q145_538, q145_539, q145_542, q145_545, q145_546, if_true]
    exact hN S2 ⟨_, _, _, op_live_wf hw, l_c u1 f2, u2, (by omega), (l_after' hb f2).trans s1⟩

set_option maxHeartbeats 1000000 in
theorem l_told (hb : b < x) (hk : 6 * k + 6 ≤ L) (hL : L ≤ 3072) (hw : wf Z) (hC : cI S x Z nw M) (hM : mI S (x + 18) Z) (hn : nw ≤ k + 1) (hs : pm_sh S b = .inl (9, L)) (hN : ∀ S', lI b L x S' (k + 1) → pm_V (d + 93) 145 971 [.ref b, .ref x, .ref (x + 18), .int (nI (6 * k))] [] S' Q) : pm_V (d + 93) 145 547 [.ref b, .ref x, .ref (x + 18), .int (nI (6 * k))] [] S Q := by
  have hnw : nw < 2000 := by omega
  have i1 : nI (6 * k) + 1 = nI (6 * k + 1) := nI_1 _
  have i2 : nI (6 * k) + 2 = nI (6 * k + 2) := (nI_add (6 * k) 2)
  have i3 : nI (6 * k) + 3 = nI (6 * k + 3) := (nI_add (6 * k) 3)
  have i4 : nI (6 * k) + 4 = nI (6 * k + 4) := (nI_add (6 * k) 4)
  have i5 : nI (6 * k) + 5 = nI (6 * k + 5) := (nI_add (6 * k) 5)
  have a1 := pm_ar_nI hs (show 6 * k + 1 < L by omega) (by omega)
  have a2 := pm_ar_nI hs (show 6 * k + 2 < L by omega) (by omega)
  have a3 := pm_ar_nI hs (show 6 * k + 3 < L by omega) (by omega)
  have a4 := pm_ar_nI hs (show 6 * k + 4 < L by omega) (by omega)
  have a5 := pm_ar_nI hs (show 6 * k + 5 < L by omega) (by omega)
  have n1 := nI_clamp (show 6 * k + 1 < 2 ^ 31 by omega)
  have n2 := nI_clamp (show 6 * k + 2 < 2 ^ 31 by omega)
  have n3 := nI_clamp (show 6 * k + 3 < 2 ^ 31 by omega)
  have n4 := nI_clamp (show 6 * k + 4 < 2 ^ 31 by omega)
  have n5 := nI_clamp (show 6 * k + 5 < 2 ^ 31 by omega)
  have mid : ∀ S1, frO (cO x) S S1 → pm_sh S1 b = .inl (9, L) ∧ (∀ i, pm_zi S1 b i = pm_zi S b i) ∧ mI S1 (x + 18) Z := fun S1 f1 => ⟨(l_after hb f1).1.trans hs, (l_after hb f1).2, l_m hM f1⟩
  simp only [q145_547, q145_547N, q145_548, q145_549, q145_550, q145_551, q145_552, q145_553, q145_554, q145_555, q145_556, q145_557, q145_558, q145_561, q145_561N, q145_562, q145_563, q145_564, q145_565, q145_566, q145_567, q145_568, q145_569, q145_570, q145_571, q145_572, q145_575, q145_578, q145_579, i1, i2, i3, i4, i5, a1, a2, a3, a4, a5, n1, n2, n3, n4, n5, hC.1.1]
  refine c_told hw hC fun S1 u1 f1 => ?_
  obtain ⟨s1, z1, g1⟩ := mid S1 f1
  have a1 := pm_ar_nI s1 (show 6 * k + 1 < L by omega) (by omega)
  have a2 := pm_ar_nI s1 (show 6 * k + 2 < L by omega) (by omega)
  have a3 := pm_ar_nI s1 (show 6 * k + 3 < L by omega) (by omega)
  have a4 := pm_ar_nI s1 (show 6 * k + 4 < L by omega) (by omega)
  have a5 := pm_ar_nI s1 (show 6 * k + 5 < L by omega) (by omega)
  simp only [pm_tl_some, q145_547, q145_547N, q145_548, q145_549, q145_550, q145_551, q145_552, q145_553, q145_554, q145_555, q145_556, q145_557, q145_558, q145_561, q145_561N, q145_562, q145_563, q145_564, q145_565, q145_566, q145_567, q145_568, q145_569, q145_570, q145_571, q145_572, q145_575, q145_578, q145_579, i1, i2, i3, i4, i5, a1, a2, a3, a4, a5, n1, n2, n3, n4, n5, z1, sM_0 g1.1.1]
  refine m_told hw g1 fun S2 u2 f2 => ?_
  simp only [pm_tl_some, q145_547, q145_547N, q145_548, q145_549, q145_550, q145_551, q145_552, q145_553, q145_554, q145_555, q145_556, q145_557, q145_558, q145_561, q145_561N, q145_562, q145_563, q145_564, q145_565, q145_566, q145_567, q145_568, q145_569, q145_570, q145_571, q145_572, q145_575, q145_578, q145_579, lg_cmp_eq, if_true]
  exact hN S2 ⟨_, _, _, hw, l_c u1 f2, u2, (by omega), (l_after' hb f2).trans s1⟩

set_option maxHeartbeats 1000000 in
theorem l_end (hb : b < x) (hk : 6 * k + 6 ≤ L) (hL : L ≤ 3072) (hw : wf Z) (hC : cI S x Z nw M) (hM : mI S (x + 18) Z) (hn : nw ≤ k + 1) (hs : pm_sh S b = .inl (9, L)) (hN : ∀ S', lI b L x S' (k + 1) → pm_V (d + 93) 145 971 [.ref b, .ref x, .ref (x + 18), .int (nI (6 * k))] [] S' Q) : pm_V (d + 93) 145 580 [.ref b, .ref x, .ref (x + 18), .int (nI (6 * k))] [] S Q := by
  have hnw : nw < 2000 := by omega
  have i1 : nI (6 * k) + 1 = nI (6 * k + 1) := nI_1 _
  have i2 : nI (6 * k) + 2 = nI (6 * k + 2) := (nI_add (6 * k) 2)
  have i3 : nI (6 * k) + 3 = nI (6 * k + 3) := (nI_add (6 * k) 3)
  have i4 : nI (6 * k) + 4 = nI (6 * k + 4) := (nI_add (6 * k) 4)
  have i5 : nI (6 * k) + 5 = nI (6 * k + 5) := (nI_add (6 * k) 5)
  have a1 := pm_ar_nI hs (show 6 * k + 1 < L by omega) (by omega)
  have a2 := pm_ar_nI hs (show 6 * k + 2 < L by omega) (by omega)
  have a3 := pm_ar_nI hs (show 6 * k + 3 < L by omega) (by omega)
  have a4 := pm_ar_nI hs (show 6 * k + 4 < L by omega) (by omega)
  have a5 := pm_ar_nI hs (show 6 * k + 5 < L by omega) (by omega)
  have n1 := nI_clamp (show 6 * k + 1 < 2 ^ 31 by omega)
  have n2 := nI_clamp (show 6 * k + 2 < 2 ^ 31 by omega)
  have n3 := nI_clamp (show 6 * k + 3 < 2 ^ 31 by omega)
  have n4 := nI_clamp (show 6 * k + 4 < 2 ^ 31 by omega)
  have n5 := nI_clamp (show 6 * k + 5 < 2 ^ 31 by omega)
  have mid : ∀ S1, frO (cO x) S S1 → pm_sh S1 b = .inl (9, L) ∧ (∀ i, pm_zi S1 b i = pm_zi S b i) ∧ mI S1 (x + 18) Z := fun S1 f1 => ⟨(l_after hb f1).1.trans hs, (l_after hb f1).2, l_m hM f1⟩
  simp only [q145_580, q145_580N, q145_581, q145_582, q145_583, q145_584, q145_585, q145_586, q145_587, q145_588, q145_589, q145_590, q145_591, q145_592, q145_593, q145_594, q145_595, q145_596, q145_599, q145_599N, q145_600, q145_601, q145_602, q145_603, q145_604, q145_605, q145_606, q145_607, q145_608, q145_609, q145_610, q145_611, q145_612, q145_613, q145_614, q145_615, q145_618, q145_621, q145_622, i1, i2, i3, i4, i5, a1, a2, a3, a4, a5, n1, n2, n3, n4, n5, hC.1.1]
  refine c_end hw hC fun S1 u1 f1 => ?_
  obtain ⟨s1, z1, g1⟩ := mid S1 f1
  have a1 := pm_ar_nI s1 (show 6 * k + 1 < L by omega) (by omega)
  have a2 := pm_ar_nI s1 (show 6 * k + 2 < L by omega) (by omega)
  have a3 := pm_ar_nI s1 (show 6 * k + 3 < L by omega) (by omega)
  have a4 := pm_ar_nI s1 (show 6 * k + 4 < L by omega) (by omega)
  have a5 := pm_ar_nI s1 (show 6 * k + 5 < L by omega) (by omega)
  simp only [pm_tl_some, q145_580, q145_580N, q145_581, q145_582, q145_583, q145_584, q145_585, q145_586, q145_587, q145_588, q145_589, q145_590, q145_591, q145_592, q145_593, q145_594, q145_595, q145_596, q145_599, q145_599N, q145_600, q145_601, q145_602, q145_603, q145_604, q145_605, q145_606, q145_607, q145_608, q145_609, q145_610, q145_611, q145_612, q145_613, q145_614, q145_615, q145_618, q145_621, q145_622, i1, i2, i3, i4, i5, a1, a2, a3, a4, a5, n1, n2, n3, n4, n5, z1, sM_0 g1.1.1]
  refine m_end hw g1 fun S2 u2 f2 => ?_
  simp only [pm_tl_some, q145_580, q145_580N, q145_581, q145_582, q145_583, q145_584, q145_585, q145_586, q145_587, q145_588, q145_589, q145_590, q145_591, q145_592, q145_593, q145_594, q145_595, q145_596, q145_599, q145_599N, q145_600, q145_601, q145_602, q145_603, q145_604, q145_605, q145_606, q145_607, q145_608, q145_609, q145_610, q145_611, q145_612, q145_613, q145_614, q145_615, q145_618, q145_621, q145_622, lg_cmp_eq, if_true]
  exact hN S2 ⟨_, _, _, hw, l_c u1 f2, u2, (by omega), (l_after' hb f2).trans s1⟩

set_option maxHeartbeats 1000000 in
theorem l_value (hb : b < x) (hk : 6 * k + 6 ≤ L) (hL : L ≤ 3072) (hw : wf Z) (hC : cI S x Z nw M) (hM : mI S (x + 18) Z) (hn : nw ≤ k + 1) (hs : pm_sh S b = .inl (9, L)) (hN : ∀ S', lI b L x S' (k + 1) → pm_V (d + 93) 145 971 [.ref b, .ref x, .ref (x + 18), .int (nI (6 * k))] [] S' Q) : pm_V (d + 93) 145 623 [.ref b, .ref x, .ref (x + 18), .int (nI (6 * k))] [] S Q := by
  have hnw : nw < 2000 := by omega
  have i1 : nI (6 * k) + 1 = nI (6 * k + 1) := nI_1 _
  have i2 : nI (6 * k) + 2 = nI (6 * k + 2) := (nI_add (6 * k) 2)
  have i3 : nI (6 * k) + 3 = nI (6 * k + 3) := (nI_add (6 * k) 3)
  have i4 : nI (6 * k) + 4 = nI (6 * k + 4) := (nI_add (6 * k) 4)
  have i5 : nI (6 * k) + 5 = nI (6 * k + 5) := (nI_add (6 * k) 5)
  have a1 := pm_ar_nI hs (show 6 * k + 1 < L by omega) (by omega)
  have a2 := pm_ar_nI hs (show 6 * k + 2 < L by omega) (by omega)
  have a3 := pm_ar_nI hs (show 6 * k + 3 < L by omega) (by omega)
  have a4 := pm_ar_nI hs (show 6 * k + 4 < L by omega) (by omega)
  have a5 := pm_ar_nI hs (show 6 * k + 5 < L by omega) (by omega)
  have n1 := nI_clamp (show 6 * k + 1 < 2 ^ 31 by omega)
  have n2 := nI_clamp (show 6 * k + 2 < 2 ^ 31 by omega)
  have n3 := nI_clamp (show 6 * k + 3 < 2 ^ 31 by omega)
  have n4 := nI_clamp (show 6 * k + 4 < 2 ^ 31 by omega)
  have n5 := nI_clamp (show 6 * k + 5 < 2 ^ 31 by omega)
  have mid : ∀ S1, frO (cO x) S S1 → pm_sh S1 b = .inl (9, L) ∧ (∀ i, pm_zi S1 b i = pm_zi S b i) ∧ mI S1 (x + 18) Z := fun S1 f1 => ⟨(l_after hb f1).1.trans hs, (l_after hb f1).2, l_m hM f1⟩
  simp only [q145_623, q145_623N, q145_624, q145_625, q145_626, q145_627, q145_628, q145_629, q145_630, q145_631, q145_632, q145_633, q145_634, q145_635, q145_636, q145_637, q145_638, q145_639, q145_642, q145_642N, q145_643, q145_644, q145_645, q145_646, q145_647, q145_648, q145_649, q145_650, q145_651, q145_652, q145_653, q145_654, q145_655, q145_656, q145_657, q145_658, q145_661, q145_662, q145_665, q145_666, i1, i2, i3, i4, i5, a1, a2, a3, a4, a5, n1, n2, n3, n4, n5, hC.1.1]
  refine c_value hw hC fun S1 u1 f1 => ?_
  obtain ⟨s1, z1, g1⟩ := mid S1 f1
  have a1 := pm_ar_nI s1 (show 6 * k + 1 < L by omega) (by omega)
  have a2 := pm_ar_nI s1 (show 6 * k + 2 < L by omega) (by omega)
  have a3 := pm_ar_nI s1 (show 6 * k + 3 < L by omega) (by omega)
  have a4 := pm_ar_nI s1 (show 6 * k + 4 < L by omega) (by omega)
  have a5 := pm_ar_nI s1 (show 6 * k + 5 < L by omega) (by omega)
  simp only [pm_tl_some, q145_623, q145_623N, q145_624, q145_625, q145_626, q145_627, q145_628, q145_629, q145_630, q145_631, q145_632, q145_633, q145_634, q145_635, q145_636, q145_637, q145_638, q145_639, q145_642, q145_642N, q145_643, q145_644, q145_645, q145_646, q145_647, q145_648, q145_649, q145_650, q145_651, q145_652, q145_653, q145_654, q145_655, q145_656, q145_657, q145_658, q145_661, q145_662, q145_665, q145_666, i1, i2, i3, i4, i5, a1, a2, a3, a4, a5, n1, n2, n3, n4, n5, z1, sM_0 g1.1.1]
  refine m_value hw g1 fun S2 u2 f2 => ?_
  simp only [pm_tl_some, q145_623, q145_623N, q145_624, q145_625, q145_626, q145_627, q145_628, q145_629, q145_630, q145_631, q145_632, q145_633, q145_634, q145_635, q145_636, q145_637, q145_638, q145_639, q145_642, q145_642N, q145_643, q145_644, q145_645, q145_646, q145_647, q145_648, q145_649, q145_650, q145_651, q145_652, q145_653, q145_654, q145_655, q145_656, q145_657, q145_658, q145_661, q145_662, q145_665, q145_666, lg_cmp_eq, if_true]
  exact hN S2 ⟨_, _, _, hw, l_c u1 f2, u2, (by omega), (l_after' hb f2).trans s1⟩

set_option maxHeartbeats 1000000 in
theorem l_up (hb : b < x) (hk : 6 * k + 6 ≤ L) (hL : L ≤ 3072) (hw : wf Z) (hC : cI S x Z nw M) (hM : mI S (x + 18) Z) (hn : nw ≤ k + 1) (hs : pm_sh S b = .inl (9, L)) (hN : ∀ S', lI b L x S' (k + 1) → pm_V (d + 93) 145 971 [.ref b, .ref x, .ref (x + 18), .int (nI (6 * k))] [] S' Q) : pm_V (d + 93) 145 667 [.ref b, .ref x, .ref (x + 18), .int (nI (6 * k))] [] S Q := by
  have hnw : nw < 2000 := by omega
  have i1 : nI (6 * k) + 1 = nI (6 * k + 1) := nI_1 _
  have i2 : nI (6 * k) + 2 = nI (6 * k + 2) := (nI_add (6 * k) 2)
  have i3 : nI (6 * k) + 3 = nI (6 * k + 3) := (nI_add (6 * k) 3)
  have i4 : nI (6 * k) + 4 = nI (6 * k + 4) := (nI_add (6 * k) 4)
  have i5 : nI (6 * k) + 5 = nI (6 * k + 5) := (nI_add (6 * k) 5)
  have a1 := pm_ar_nI hs (show 6 * k + 1 < L by omega) (by omega)
  have a2 := pm_ar_nI hs (show 6 * k + 2 < L by omega) (by omega)
  have a3 := pm_ar_nI hs (show 6 * k + 3 < L by omega) (by omega)
  have a4 := pm_ar_nI hs (show 6 * k + 4 < L by omega) (by omega)
  have a5 := pm_ar_nI hs (show 6 * k + 5 < L by omega) (by omega)
  have n1 := nI_clamp (show 6 * k + 1 < 2 ^ 31 by omega)
  have n2 := nI_clamp (show 6 * k + 2 < 2 ^ 31 by omega)
  have n3 := nI_clamp (show 6 * k + 3 < 2 ^ 31 by omega)
  have n4 := nI_clamp (show 6 * k + 4 < 2 ^ 31 by omega)
  have n5 := nI_clamp (show 6 * k + 5 < 2 ^ 31 by omega)
  have mid : ∀ S1, frO (cO x) S S1 → pm_sh S1 b = .inl (9, L) ∧ (∀ i, pm_zi S1 b i = pm_zi S b i) ∧ mI S1 (x + 18) Z := fun S1 f1 => ⟨(l_after hb f1).1.trans hs, (l_after hb f1).2, l_m hM f1⟩
  simp only [q145_667, q145_667N, q145_668, q145_669, q145_670, q145_671, q145_672, q145_673, q145_674, q145_675, q145_676, q145_677, q145_678, q145_679, q145_680, q145_681, q145_682, q145_683, q145_684, q145_685, q145_686, q145_687, q145_688, q145_691, q145_691N, q145_692, q145_693, q145_694, q145_695, q145_696, q145_697, q145_698, q145_699, q145_700, q145_701, q145_702, q145_703, q145_704, q145_705, q145_706, q145_707, q145_708, q145_709, q145_710, q145_711, q145_712, q145_715, q145_718, q145_719, i1, i2, i3, i4, i5, a1, a2, a3, a4, a5, n1, n2, n3, n4, n5, hC.1.1]
  refine c_up hw hC fun S1 u1 f1 => ?_
  obtain ⟨s1, z1, g1⟩ := mid S1 f1
  have a1 := pm_ar_nI s1 (show 6 * k + 1 < L by omega) (by omega)
  have a2 := pm_ar_nI s1 (show 6 * k + 2 < L by omega) (by omega)
  have a3 := pm_ar_nI s1 (show 6 * k + 3 < L by omega) (by omega)
  have a4 := pm_ar_nI s1 (show 6 * k + 4 < L by omega) (by omega)
  have a5 := pm_ar_nI s1 (show 6 * k + 5 < L by omega) (by omega)
  simp only [pm_tl_some, q145_667, q145_667N, q145_668, q145_669, q145_670, q145_671, q145_672, q145_673, q145_674, q145_675, q145_676, q145_677, q145_678, q145_679, q145_680, q145_681, q145_682, q145_683, q145_684, q145_685, q145_686, q145_687, q145_688, q145_691, q145_691N, q145_692, q145_693, q145_694, q145_695, q145_696, q145_697, q145_698, q145_699, q145_700, q145_701, q145_702, q145_703, q145_704, q145_705, q145_706, q145_707, q145_708, q145_709, q145_710, q145_711, q145_712, q145_715, q145_718, q145_719, i1, i2, i3, i4, i5, a1, a2, a3, a4, a5, n1, n2, n3, n4, n5, z1, sM_0 g1.1.1]
  refine m_up hw g1 fun S2 u2 f2 => ?_
  simp only [pm_tl_some, q145_667, q145_667N, q145_668, q145_669, q145_670, q145_671, q145_672, q145_673, q145_674, q145_675, q145_676, q145_677, q145_678, q145_679, q145_680, q145_681, q145_682, q145_683, q145_684, q145_685, q145_686, q145_687, q145_688, q145_691, q145_691N, q145_692, q145_693, q145_694, q145_695, q145_696, q145_697, q145_698, q145_699, q145_700, q145_701, q145_702, q145_703, q145_704, q145_705, q145_706, q145_707, q145_708, q145_709, q145_710, q145_711, q145_712, q145_715, q145_718, q145_719, lg_cmp_eq, if_true]
  exact hN S2 ⟨_, _, _, hw, l_c u1 f2, u2, (by omega), (l_after' hb f2).trans s1⟩

set_option maxHeartbeats 1000000 in
theorem l_down (hb : b < x) (hk : 6 * k + 6 ≤ L) (hL : L ≤ 3072) (hw : wf Z) (hC : cI S x Z nw M) (hM : mI S (x + 18) Z) (hn : nw ≤ k + 1) (hs : pm_sh S b = .inl (9, L)) (hN : ∀ S', lI b L x S' (k + 1) → pm_V (d + 93) 145 971 [.ref b, .ref x, .ref (x + 18), .int (nI (6 * k))] [] S' Q) : pm_V (d + 93) 145 720 [.ref b, .ref x, .ref (x + 18), .int (nI (6 * k))] [] S Q := by
  have hnw : nw < 2000 := by omega
  have i1 : nI (6 * k) + 1 = nI (6 * k + 1) := nI_1 _
  have i2 : nI (6 * k) + 2 = nI (6 * k + 2) := (nI_add (6 * k) 2)
  have i3 : nI (6 * k) + 3 = nI (6 * k + 3) := (nI_add (6 * k) 3)
  have i4 : nI (6 * k) + 4 = nI (6 * k + 4) := (nI_add (6 * k) 4)
  have i5 : nI (6 * k) + 5 = nI (6 * k + 5) := (nI_add (6 * k) 5)
  have a1 := pm_ar_nI hs (show 6 * k + 1 < L by omega) (by omega)
  have a2 := pm_ar_nI hs (show 6 * k + 2 < L by omega) (by omega)
  have a3 := pm_ar_nI hs (show 6 * k + 3 < L by omega) (by omega)
  have a4 := pm_ar_nI hs (show 6 * k + 4 < L by omega) (by omega)
  have a5 := pm_ar_nI hs (show 6 * k + 5 < L by omega) (by omega)
  have n1 := nI_clamp (show 6 * k + 1 < 2 ^ 31 by omega)
  have n2 := nI_clamp (show 6 * k + 2 < 2 ^ 31 by omega)
  have n3 := nI_clamp (show 6 * k + 3 < 2 ^ 31 by omega)
  have n4 := nI_clamp (show 6 * k + 4 < 2 ^ 31 by omega)
  have n5 := nI_clamp (show 6 * k + 5 < 2 ^ 31 by omega)
  have mid : ∀ S1, frO (cO x) S S1 → pm_sh S1 b = .inl (9, L) ∧ (∀ i, pm_zi S1 b i = pm_zi S b i) ∧ mI S1 (x + 18) Z := fun S1 f1 => ⟨(l_after hb f1).1.trans hs, (l_after hb f1).2, l_m hM f1⟩
  simp only [q145_720, q145_720N, q145_721, q145_722, q145_723, q145_724, q145_725, q145_726, q145_727, q145_728, q145_729, q145_730, q145_731, q145_732, q145_733, q145_734, q145_735, q145_736, q145_737, q145_738, q145_739, q145_740, q145_741, q145_744, q145_744N, q145_745, q145_746, q145_747, q145_748, q145_749, q145_750, q145_751, q145_752, q145_753, q145_754, q145_755, q145_756, q145_757, q145_758, q145_759, q145_760, q145_761, q145_762, q145_763, q145_764, q145_765, q145_768, q145_771, q145_772, i1, i2, i3, i4, i5, a1, a2, a3, a4, a5, n1, n2, n3, n4, n5, hC.1.1]
  refine c_down hw hC fun S1 u1 f1 => ?_
  obtain ⟨s1, z1, g1⟩ := mid S1 f1
  have a1 := pm_ar_nI s1 (show 6 * k + 1 < L by omega) (by omega)
  have a2 := pm_ar_nI s1 (show 6 * k + 2 < L by omega) (by omega)
  have a3 := pm_ar_nI s1 (show 6 * k + 3 < L by omega) (by omega)
  have a4 := pm_ar_nI s1 (show 6 * k + 4 < L by omega) (by omega)
  have a5 := pm_ar_nI s1 (show 6 * k + 5 < L by omega) (by omega)
  simp only [pm_tl_some, q145_720, q145_720N, q145_721, q145_722, q145_723, q145_724, q145_725, q145_726, q145_727, q145_728, q145_729, q145_730, q145_731, q145_732, q145_733, q145_734, q145_735, q145_736, q145_737, q145_738, q145_739, q145_740, q145_741, q145_744, q145_744N, q145_745, q145_746, q145_747, q145_748, q145_749, q145_750, q145_751, q145_752, q145_753, q145_754, q145_755, q145_756, q145_757, q145_758, q145_759, q145_760, q145_761, q145_762, q145_763, q145_764, q145_765, q145_768, q145_771, q145_772, i1, i2, i3, i4, i5, a1, a2, a3, a4, a5, n1, n2, n3, n4, n5, z1, sM_0 g1.1.1]
  refine m_down hw g1 fun S2 u2 f2 => ?_
  simp only [pm_tl_some, q145_720, q145_720N, q145_721, q145_722, q145_723, q145_724, q145_725, q145_726, q145_727, q145_728, q145_729, q145_730, q145_731, q145_732, q145_733, q145_734, q145_735, q145_736, q145_737, q145_738, q145_739, q145_740, q145_741, q145_744, q145_744N, q145_745, q145_746, q145_747, q145_748, q145_749, q145_750, q145_751, q145_752, q145_753, q145_754, q145_755, q145_756, q145_757, q145_758, q145_759, q145_760, q145_761, q145_762, q145_763, q145_764, q145_765, q145_768, q145_771, q145_772, lg_cmp_eq, if_true]
  exact hN S2 ⟨_, _, _, hw, l_c u1 f2, u2, (by omega), (l_after' hb f2).trans s1⟩

set_option maxHeartbeats 1000000 in
theorem l_hidden (hb : b < x) (hk : 6 * k + 6 ≤ L) (hL : L ≤ 3072) (hw : wf Z) (hC : cI S x Z nw M) (hM : mI S (x + 18) Z) (hn : nw ≤ k + 1) (hs : pm_sh S b = .inl (9, L)) (hN : ∀ S', lI b L x S' (k + 1) → pm_V (d + 93) 145 971 [.ref b, .ref x, .ref (x + 18), .int (nI (6 * k))] [] S' Q) : pm_V (d + 93) 145 773 [.ref b, .ref x, .ref (x + 18), .int (nI (6 * k))] [] S Q := by
  have hnw : nw < 2000 := by omega
  have i1 : nI (6 * k) + 1 = nI (6 * k + 1) := nI_1 _
  have i2 : nI (6 * k) + 2 = nI (6 * k + 2) := (nI_add (6 * k) 2)
  have i3 : nI (6 * k) + 3 = nI (6 * k + 3) := (nI_add (6 * k) 3)
  have i4 : nI (6 * k) + 4 = nI (6 * k + 4) := (nI_add (6 * k) 4)
  have i5 : nI (6 * k) + 5 = nI (6 * k + 5) := (nI_add (6 * k) 5)
  have a1 := pm_ar_nI hs (show 6 * k + 1 < L by omega) (by omega)
  have a2 := pm_ar_nI hs (show 6 * k + 2 < L by omega) (by omega)
  have a3 := pm_ar_nI hs (show 6 * k + 3 < L by omega) (by omega)
  have a4 := pm_ar_nI hs (show 6 * k + 4 < L by omega) (by omega)
  have a5 := pm_ar_nI hs (show 6 * k + 5 < L by omega) (by omega)
  have n1 := nI_clamp (show 6 * k + 1 < 2 ^ 31 by omega)
  have n2 := nI_clamp (show 6 * k + 2 < 2 ^ 31 by omega)
  have n3 := nI_clamp (show 6 * k + 3 < 2 ^ 31 by omega)
  have n4 := nI_clamp (show 6 * k + 4 < 2 ^ 31 by omega)
  have n5 := nI_clamp (show 6 * k + 5 < 2 ^ 31 by omega)
  have mid : ∀ S1, frO (cO x) S S1 → pm_sh S1 b = .inl (9, L) ∧ (∀ i, pm_zi S1 b i = pm_zi S b i) ∧ mI S1 (x + 18) Z := fun S1 f1 => ⟨(l_after hb f1).1.trans hs, (l_after hb f1).2, l_m hM f1⟩
  simp only [q145_773, q145_773N, q145_774, q145_775, q145_776, q145_777, q145_778, q145_779, q145_780, q145_781, q145_782, q145_783, q145_784, q145_785, q145_786, q145_787, q145_788, q145_789, q145_792, q145_792N, q145_793, q145_794, q145_795, q145_796, q145_797, q145_798, q145_799, q145_800, q145_801, q145_802, q145_803, q145_804, q145_805, q145_806, q145_807, q145_808, q145_811, q145_814, q145_815, i1, i2, i3, i4, i5, a1, a2, a3, a4, a5, n1, n2, n3, n4, n5, hC.1.1]
  refine c_hidden hw hC fun S1 u1 f1 => ?_
  obtain ⟨s1, z1, g1⟩ := mid S1 f1
  have a1 := pm_ar_nI s1 (show 6 * k + 1 < L by omega) (by omega)
  have a2 := pm_ar_nI s1 (show 6 * k + 2 < L by omega) (by omega)
  have a3 := pm_ar_nI s1 (show 6 * k + 3 < L by omega) (by omega)
  have a4 := pm_ar_nI s1 (show 6 * k + 4 < L by omega) (by omega)
  have a5 := pm_ar_nI s1 (show 6 * k + 5 < L by omega) (by omega)
  simp only [pm_tl_some, q145_773, q145_773N, q145_774, q145_775, q145_776, q145_777, q145_778, q145_779, q145_780, q145_781, q145_782, q145_783, q145_784, q145_785, q145_786, q145_787, q145_788, q145_789, q145_792, q145_792N, q145_793, q145_794, q145_795, q145_796, q145_797, q145_798, q145_799, q145_800, q145_801, q145_802, q145_803, q145_804, q145_805, q145_806, q145_807, q145_808, q145_811, q145_814, q145_815, i1, i2, i3, i4, i5, a1, a2, a3, a4, a5, n1, n2, n3, n4, n5, z1, sM_0 g1.1.1]
  refine m_hidden hw g1 fun S2 u2 f2 => ?_
  simp only [pm_tl_some, q145_773, q145_773N, q145_774, q145_775, q145_776, q145_777, q145_778, q145_779, q145_780, q145_781, q145_782, q145_783, q145_784, q145_785, q145_786, q145_787, q145_788, q145_789, q145_792, q145_792N, q145_793, q145_794, q145_795, q145_796, q145_797, q145_798, q145_799, q145_800, q145_801, q145_802, q145_803, q145_804, q145_805, q145_806, q145_807, q145_808, q145_811, q145_814, q145_815, lg_cmp_eq, if_true]
  exact hN S2 ⟨_, _, _, hw, l_c u1 f2, u2, (by omega), (l_after' hb f2).trans s1⟩

set_option maxHeartbeats 1000000 in
theorem l_same (hb : b < x) (hk : 6 * k + 6 ≤ L) (hL : L ≤ 3072) (hw : wf Z) (hC : cI S x Z nw M) (hM : mI S (x + 18) Z) (hn : nw ≤ k + 1) (hs : pm_sh S b = .inl (9, L)) (hN : ∀ S', lI b L x S' (k + 1) → pm_V (d + 93) 145 971 [.ref b, .ref x, .ref (x + 18), .int (nI (6 * k))] [] S' Q) : pm_V (d + 93) 145 816 [.ref b, .ref x, .ref (x + 18), .int (nI (6 * k))] [] S Q := by
  have hnw : nw < 2000 := by omega
  have i1 : nI (6 * k) + 1 = nI (6 * k + 1) := nI_1 _
  have i2 : nI (6 * k) + 2 = nI (6 * k + 2) := (nI_add (6 * k) 2)
  have i3 : nI (6 * k) + 3 = nI (6 * k + 3) := (nI_add (6 * k) 3)
  have i4 : nI (6 * k) + 4 = nI (6 * k + 4) := (nI_add (6 * k) 4)
  have i5 : nI (6 * k) + 5 = nI (6 * k + 5) := (nI_add (6 * k) 5)
  have a1 := pm_ar_nI hs (show 6 * k + 1 < L by omega) (by omega)
  have a2 := pm_ar_nI hs (show 6 * k + 2 < L by omega) (by omega)
  have a3 := pm_ar_nI hs (show 6 * k + 3 < L by omega) (by omega)
  have a4 := pm_ar_nI hs (show 6 * k + 4 < L by omega) (by omega)
  have a5 := pm_ar_nI hs (show 6 * k + 5 < L by omega) (by omega)
  have n1 := nI_clamp (show 6 * k + 1 < 2 ^ 31 by omega)
  have n2 := nI_clamp (show 6 * k + 2 < 2 ^ 31 by omega)
  have n3 := nI_clamp (show 6 * k + 3 < 2 ^ 31 by omega)
  have n4 := nI_clamp (show 6 * k + 4 < 2 ^ 31 by omega)
  have n5 := nI_clamp (show 6 * k + 5 < 2 ^ 31 by omega)
  have mid : ∀ S1, frO (cO x) S S1 → pm_sh S1 b = .inl (9, L) ∧ (∀ i, pm_zi S1 b i = pm_zi S b i) ∧ mI S1 (x + 18) Z := fun S1 f1 => ⟨(l_after hb f1).1.trans hs, (l_after hb f1).2, l_m hM f1⟩
  simp only [q145_816, q145_816N, q145_817, q145_818, q145_819, q145_820, q145_821, q145_822, q145_823, q145_824, q145_825, q145_826, q145_827, q145_830, q145_830N, q145_831, q145_832, q145_833, q145_834, q145_835, q145_836, q145_837, q145_838, q145_839, q145_840, q145_841, q145_844, q145_847, q145_848, i1, i2, i3, i4, i5, a1, a2, a3, a4, a5, n1, n2, n3, n4, n5, hC.1.1]
  refine c_same hw hC fun S1 u1 f1 => ?_
  obtain ⟨s1, z1, g1⟩ := mid S1 f1
  have a1 := pm_ar_nI s1 (show 6 * k + 1 < L by omega) (by omega)
  have a2 := pm_ar_nI s1 (show 6 * k + 2 < L by omega) (by omega)
  have a3 := pm_ar_nI s1 (show 6 * k + 3 < L by omega) (by omega)
  have a4 := pm_ar_nI s1 (show 6 * k + 4 < L by omega) (by omega)
  have a5 := pm_ar_nI s1 (show 6 * k + 5 < L by omega) (by omega)
  simp only [pm_tl_some, q145_816, q145_816N, q145_817, q145_818, q145_819, q145_820, q145_821, q145_822, q145_823, q145_824, q145_825, q145_826, q145_827, q145_830, q145_830N, q145_831, q145_832, q145_833, q145_834, q145_835, q145_836, q145_837, q145_838, q145_839, q145_840, q145_841, q145_844, q145_847, q145_848, i1, i2, i3, i4, i5, a1, a2, a3, a4, a5, n1, n2, n3, n4, n5, z1, sM_0 g1.1.1]
  refine m_same hw g1 fun S2 u2 f2 => ?_
  simp only [pm_tl_some, q145_816, q145_816N, q145_817, q145_818, q145_819, q145_820, q145_821, q145_822, q145_823, q145_824, q145_825, q145_826, q145_827, q145_830, q145_830N, q145_831, q145_832, q145_833, q145_834, q145_835, q145_836, q145_837, q145_838, q145_839, q145_840, q145_841, q145_844, q145_847, q145_848, lg_cmp_eq, if_true]
  exact hN S2 ⟨_, _, _, hw, l_c u1 f2, u2, (by omega), (l_after' hb f2).trans s1⟩

set_option maxHeartbeats 1000000 in
theorem l_reach (hb : b < x) (hk : 6 * k + 6 ≤ L) (hL : L ≤ 3072) (hw : wf Z) (hC : cI S x Z nw M) (hM : mI S (x + 18) Z) (hn : nw ≤ k + 1) (hs : pm_sh S b = .inl (9, L)) (hN : ∀ S', lI b L x S' (k + 1) → pm_V (d + 93) 145 971 [.ref b, .ref x, .ref (x + 18), .int (nI (6 * k))] [] S' Q) : pm_V (d + 93) 145 849 [.ref b, .ref x, .ref (x + 18), .int (nI (6 * k))] [] S Q := by
  have hnw : nw < 2000 := by omega
  have i1 : nI (6 * k) + 1 = nI (6 * k + 1) := nI_1 _
  have i2 : nI (6 * k) + 2 = nI (6 * k + 2) := (nI_add (6 * k) 2)
  have i3 : nI (6 * k) + 3 = nI (6 * k + 3) := (nI_add (6 * k) 3)
  have i4 : nI (6 * k) + 4 = nI (6 * k + 4) := (nI_add (6 * k) 4)
  have i5 : nI (6 * k) + 5 = nI (6 * k + 5) := (nI_add (6 * k) 5)
  have a1 := pm_ar_nI hs (show 6 * k + 1 < L by omega) (by omega)
  have a2 := pm_ar_nI hs (show 6 * k + 2 < L by omega) (by omega)
  have a3 := pm_ar_nI hs (show 6 * k + 3 < L by omega) (by omega)
  have a4 := pm_ar_nI hs (show 6 * k + 4 < L by omega) (by omega)
  have a5 := pm_ar_nI hs (show 6 * k + 5 < L by omega) (by omega)
  have n1 := nI_clamp (show 6 * k + 1 < 2 ^ 31 by omega)
  have n2 := nI_clamp (show 6 * k + 2 < 2 ^ 31 by omega)
  have n3 := nI_clamp (show 6 * k + 3 < 2 ^ 31 by omega)
  have n4 := nI_clamp (show 6 * k + 4 < 2 ^ 31 by omega)
  have n5 := nI_clamp (show 6 * k + 5 < 2 ^ 31 by omega)
  have mid : ∀ S1, frO (cO x) S S1 → pm_sh S1 b = .inl (9, L) ∧ (∀ i, pm_zi S1 b i = pm_zi S b i) ∧ mI S1 (x + 18) Z := fun S1 f1 => ⟨(l_after hb f1).1.trans hs, (l_after hb f1).2, l_m hM f1⟩
  simp only [q145_849, q145_849N, q145_850, q145_851, q145_852, q145_853, q145_854, q145_855, q145_856, q145_857, q145_858, q145_859, q145_860, q145_863, q145_863N, q145_864, q145_865, q145_866, q145_867, q145_868, q145_869, q145_870, q145_871, q145_872, q145_873, q145_874, q145_877, q145_880, q145_881, i1, i2, i3, i4, i5, a1, a2, a3, a4, a5, n1, n2, n3, n4, n5, hC.1.1]
  refine c_reach hw hC fun S1 u1 f1 => ?_
  obtain ⟨s1, z1, g1⟩ := mid S1 f1
  have a1 := pm_ar_nI s1 (show 6 * k + 1 < L by omega) (by omega)
  have a2 := pm_ar_nI s1 (show 6 * k + 2 < L by omega) (by omega)
  have a3 := pm_ar_nI s1 (show 6 * k + 3 < L by omega) (by omega)
  have a4 := pm_ar_nI s1 (show 6 * k + 4 < L by omega) (by omega)
  have a5 := pm_ar_nI s1 (show 6 * k + 5 < L by omega) (by omega)
  simp only [pm_tl_some, q145_849, q145_849N, q145_850, q145_851, q145_852, q145_853, q145_854, q145_855, q145_856, q145_857, q145_858, q145_859, q145_860, q145_863, q145_863N, q145_864, q145_865, q145_866, q145_867, q145_868, q145_869, q145_870, q145_871, q145_872, q145_873, q145_874, q145_877, q145_880, q145_881, i1, i2, i3, i4, i5, a1, a2, a3, a4, a5, n1, n2, n3, n4, n5, z1, sM_0 g1.1.1]
  refine m_reach hw g1 fun S2 u2 f2 => ?_
  simp only [pm_tl_some, q145_849, q145_849N, q145_850, q145_851, q145_852, q145_853, q145_854, q145_855, q145_856, q145_857, q145_858, q145_859, q145_860, q145_863, q145_863N, q145_864, q145_865, q145_866, q145_867, q145_868, q145_869, q145_870, q145_871, q145_872, q145_873, q145_874, q145_877, q145_880, q145_881, lg_cmp_eq, if_true]
  exact hN S2 ⟨_, _, _, hw, l_c u1 f2, u2, (by omega), (l_after' hb f2).trans s1⟩

set_option maxHeartbeats 1000000 in
theorem l_ask (hb : b < x) (hk : 6 * k + 6 ≤ L) (hL : L ≤ 3072) (hw : wf Z) (hC : cI S x Z nw M) (hM : mI S (x + 18) Z) (hn : nw ≤ k + 1) (hs : pm_sh S b = .inl (9, L)) (hN : ∀ S', lI b L x S' (k + 1) → pm_V (d + 93) 145 971 [.ref b, .ref x, .ref (x + 18), .int (nI (6 * k))] [] S' Q) : pm_V (d + 93) 145 882 [.ref b, .ref x, .ref (x + 18), .int (nI (6 * k))] [] S Q := by
  have hnw : nw < 2000 := by omega
  have i1 : nI (6 * k) + 1 = nI (6 * k + 1) := nI_1 _
  have i2 : nI (6 * k) + 2 = nI (6 * k + 2) := (nI_add (6 * k) 2)
  have i3 : nI (6 * k) + 3 = nI (6 * k + 3) := (nI_add (6 * k) 3)
  have i4 : nI (6 * k) + 4 = nI (6 * k + 4) := (nI_add (6 * k) 4)
  have i5 : nI (6 * k) + 5 = nI (6 * k + 5) := (nI_add (6 * k) 5)
  have a1 := pm_ar_nI hs (show 6 * k + 1 < L by omega) (by omega)
  have a2 := pm_ar_nI hs (show 6 * k + 2 < L by omega) (by omega)
  have a3 := pm_ar_nI hs (show 6 * k + 3 < L by omega) (by omega)
  have a4 := pm_ar_nI hs (show 6 * k + 4 < L by omega) (by omega)
  have a5 := pm_ar_nI hs (show 6 * k + 5 < L by omega) (by omega)
  have n1 := nI_clamp (show 6 * k + 1 < 2 ^ 31 by omega)
  have n2 := nI_clamp (show 6 * k + 2 < 2 ^ 31 by omega)
  have n3 := nI_clamp (show 6 * k + 3 < 2 ^ 31 by omega)
  have n4 := nI_clamp (show 6 * k + 4 < 2 ^ 31 by omega)
  have n5 := nI_clamp (show 6 * k + 5 < 2 ^ 31 by omega)
  have mid : ∀ S1, frO (cO x) S S1 → pm_sh S1 b = .inl (9, L) ∧ (∀ i, pm_zi S1 b i = pm_zi S b i) ∧ mI S1 (x + 18) Z := fun S1 f1 => ⟨(l_after hb f1).1.trans hs, (l_after hb f1).2, l_m hM f1⟩
  simp only [q145_882, q145_882N, q145_883, q145_884, q145_885, q145_886, q145_887, q145_888, q145_889, q145_890, q145_891, q145_892, q145_893, q145_894, q145_895, q145_896, q145_897, q145_898, q145_899, q145_900, q145_901, q145_902, q145_903, q145_906, q145_906N, q145_907, q145_908, q145_909, q145_910, q145_911, q145_912, q145_913, q145_914, q145_915, q145_916, q145_917, q145_918, q145_919, q145_920, q145_921, q145_922, q145_923, q145_924, q145_925, q145_926, q145_927, q145_930, q145_933, q145_934, i1, i2, i3, i4, i5, a1, a2, a3, a4, a5, n1, n2, n3, n4, n5, hC.1.1]
  refine c_ask hw hC fun S1 u1 f1 => ?_
  obtain ⟨s1, z1, g1⟩ := mid S1 f1
  have a1 := pm_ar_nI s1 (show 6 * k + 1 < L by omega) (by omega)
  have a2 := pm_ar_nI s1 (show 6 * k + 2 < L by omega) (by omega)
  have a3 := pm_ar_nI s1 (show 6 * k + 3 < L by omega) (by omega)
  have a4 := pm_ar_nI s1 (show 6 * k + 4 < L by omega) (by omega)
  have a5 := pm_ar_nI s1 (show 6 * k + 5 < L by omega) (by omega)
  simp only [pm_tl_some, q145_882, q145_882N, q145_883, q145_884, q145_885, q145_886, q145_887, q145_888, q145_889, q145_890, q145_891, q145_892, q145_893, q145_894, q145_895, q145_896, q145_897, q145_898, q145_899, q145_900, q145_901, q145_902, q145_903, q145_906, q145_906N, q145_907, q145_908, q145_909, q145_910, q145_911, q145_912, q145_913, q145_914, q145_915, q145_916, q145_917, q145_918, q145_919, q145_920, q145_921, q145_922, q145_923, q145_924, q145_925, q145_926, q145_927, q145_930, q145_933, q145_934, i1, i2, i3, i4, i5, a1, a2, a3, a4, a5, n1, n2, n3, n4, n5, z1, sM_0 g1.1.1]
  refine m_ask hw g1 fun S2 u2 f2 => ?_
  simp only [pm_tl_some, q145_882, q145_882N, q145_883, q145_884, q145_885, q145_886, q145_887, q145_888, q145_889, q145_890, q145_891, q145_892, q145_893, q145_894, q145_895, q145_896, q145_897, q145_898, q145_899, q145_900, q145_901, q145_902, q145_903, q145_906, q145_906N, q145_907, q145_908, q145_909, q145_910, q145_911, q145_912, q145_913, q145_914, q145_915, q145_916, q145_917, q145_918, q145_919, q145_920, q145_921, q145_922, q145_923, q145_924, q145_925, q145_926, q145_927, q145_930, q145_933, q145_934, lg_cmp_eq, if_true]
  exact hN S2 ⟨_, _, _, hw, l_c u1 f2, u2, (by omega), (l_after' hb f2).trans s1⟩

set_option maxHeartbeats 1000000 in
theorem l_count (hb : b < x) (hk : 6 * k + 6 ≤ L) (hL : L ≤ 3072) (hw : wf Z) (hC : cI S x Z nw M) (hM : mI S (x + 18) Z) (hn : nw ≤ k + 1) (hs : pm_sh S b = .inl (9, L)) (hN : ∀ S', lI b L x S' (k + 1) → pm_V (d + 93) 145 971 [.ref b, .ref x, .ref (x + 18), .int (nI (6 * k))] [] S' Q) : pm_V (d + 93) 145 935 [.ref b, .ref x, .ref (x + 18), .int (nI (6 * k))] [] S Q := by
  have hnw : nw < 2000 := by omega
  have i1 : nI (6 * k) + 1 = nI (6 * k + 1) := nI_1 _
  have i2 : nI (6 * k) + 2 = nI (6 * k + 2) := (nI_add (6 * k) 2)
  have i3 : nI (6 * k) + 3 = nI (6 * k + 3) := (nI_add (6 * k) 3)
  have i4 : nI (6 * k) + 4 = nI (6 * k + 4) := (nI_add (6 * k) 4)
  have i5 : nI (6 * k) + 5 = nI (6 * k + 5) := (nI_add (6 * k) 5)
  have a1 := pm_ar_nI hs (show 6 * k + 1 < L by omega) (by omega)
  have a2 := pm_ar_nI hs (show 6 * k + 2 < L by omega) (by omega)
  have a3 := pm_ar_nI hs (show 6 * k + 3 < L by omega) (by omega)
  have a4 := pm_ar_nI hs (show 6 * k + 4 < L by omega) (by omega)
  have a5 := pm_ar_nI hs (show 6 * k + 5 < L by omega) (by omega)
  have n1 := nI_clamp (show 6 * k + 1 < 2 ^ 31 by omega)
  have n2 := nI_clamp (show 6 * k + 2 < 2 ^ 31 by omega)
  have n3 := nI_clamp (show 6 * k + 3 < 2 ^ 31 by omega)
  have n4 := nI_clamp (show 6 * k + 4 < 2 ^ 31 by omega)
  have n5 := nI_clamp (show 6 * k + 5 < 2 ^ 31 by omega)
  have mid : ∀ S1, frO (cO x) S S1 → pm_sh S1 b = .inl (9, L) ∧ (∀ i, pm_zi S1 b i = pm_zi S b i) ∧ mI S1 (x + 18) Z := fun S1 f1 => ⟨(l_after hb f1).1.trans hs, (l_after hb f1).2, l_m hM f1⟩
  simp only [q145_935, q145_935N, q145_936, q145_937, q145_938, q145_939, q145_940, q145_941, q145_944, q145_944N, q145_945, q145_946, q145_947, q145_948, q145_949, q145_950, q145_953, q145_956, q145_957, i1, i2, i3, i4, i5, a1, a2, a3, a4, a5, n1, n2, n3, n4, n5, hC.1.1]
  refine c_count hw hC fun S1 u1 f1 => ?_
  obtain ⟨s1, z1, g1⟩ := mid S1 f1
  have a1 := pm_ar_nI s1 (show 6 * k + 1 < L by omega) (by omega)
  have a2 := pm_ar_nI s1 (show 6 * k + 2 < L by omega) (by omega)
  have a3 := pm_ar_nI s1 (show 6 * k + 3 < L by omega) (by omega)
  have a4 := pm_ar_nI s1 (show 6 * k + 4 < L by omega) (by omega)
  have a5 := pm_ar_nI s1 (show 6 * k + 5 < L by omega) (by omega)
  simp only [pm_tl_some, q145_935, q145_935N, q145_936, q145_937, q145_938, q145_939, q145_940, q145_941, q145_944, q145_944N, q145_945, q145_946, q145_947, q145_948, q145_949, q145_950, q145_953, q145_956, q145_957, i1, i2, i3, i4, i5, a1, a2, a3, a4, a5, n1, n2, n3, n4, n5, z1, sM_0 g1.1.1]
  refine m_count hw g1 fun S2 u2 f2 => ?_
  simp only [pm_tl_some, q145_935, q145_935N, q145_936, q145_937, q145_938, q145_939, q145_940, q145_941, q145_944, q145_944N, q145_945, q145_946, q145_947, q145_948, q145_949, q145_950, q145_953, q145_956, q145_957, lg_cmp_eq, if_true]
  exact hN S2 ⟨_, _, _, hw, l_c u1 f2, u2, (by omega), (l_after' hb f2).trans s1⟩

set_option maxHeartbeats 1000000 in
theorem l_clear (hb : b < x) (hk : 6 * k + 6 ≤ L) (hL : L ≤ 3072) (hw : wf Z) (hC : cI S x Z nw M) (hM : mI S (x + 18) Z) (hn : nw ≤ k + 1) (hs : pm_sh S b = .inl (9, L)) (hN : ∀ S', lI b L x S' (k + 1) → pm_V (d + 93) 145 971 [.ref b, .ref x, .ref (x + 18), .int (nI (6 * k))] [] S' Q) : pm_V (d + 93) 145 958 [.ref b, .ref x, .ref (x + 18), .int (nI (6 * k))] [] S Q := by
  have hnw : nw < 2000 := by omega
  have i1 : nI (6 * k) + 1 = nI (6 * k + 1) := nI_1 _
  have i2 : nI (6 * k) + 2 = nI (6 * k + 2) := (nI_add (6 * k) 2)
  have i3 : nI (6 * k) + 3 = nI (6 * k + 3) := (nI_add (6 * k) 3)
  have i4 : nI (6 * k) + 4 = nI (6 * k + 4) := (nI_add (6 * k) 4)
  have i5 : nI (6 * k) + 5 = nI (6 * k + 5) := (nI_add (6 * k) 5)
  have a1 := pm_ar_nI hs (show 6 * k + 1 < L by omega) (by omega)
  have a2 := pm_ar_nI hs (show 6 * k + 2 < L by omega) (by omega)
  have a3 := pm_ar_nI hs (show 6 * k + 3 < L by omega) (by omega)
  have a4 := pm_ar_nI hs (show 6 * k + 4 < L by omega) (by omega)
  have a5 := pm_ar_nI hs (show 6 * k + 5 < L by omega) (by omega)
  have n1 := nI_clamp (show 6 * k + 1 < 2 ^ 31 by omega)
  have n2 := nI_clamp (show 6 * k + 2 < 2 ^ 31 by omega)
  have n3 := nI_clamp (show 6 * k + 3 < 2 ^ 31 by omega)
  have n4 := nI_clamp (show 6 * k + 4 < 2 ^ 31 by omega)
  have n5 := nI_clamp (show 6 * k + 5 < 2 ^ 31 by omega)
  have mid : ∀ S1, frO (cO x) S S1 → pm_sh S1 b = .inl (9, L) ∧ (∀ i, pm_zi S1 b i = pm_zi S b i) ∧ mI S1 (x + 18) Z := fun S1 f1 => ⟨(l_after hb f1).1.trans hs, (l_after hb f1).2, l_m hM f1⟩
  simp only [q145_958, q145_958N, q145_959, q145_962, q145_962N, q145_963, q145_966, q145_969, q145_970, i1, i2, i3, i4, i5, a1, a2, a3, a4, a5, n1, n2, n3, n4, n5, hC.1.1]
  refine c_clear hnw hC fun S1 u1 f1 => ?_
  obtain ⟨s1, z1, g1⟩ := mid S1 f1
  have a1 := pm_ar_nI s1 (show 6 * k + 1 < L by omega) (by omega)
  have a2 := pm_ar_nI s1 (show 6 * k + 2 < L by omega) (by omega)
  have a3 := pm_ar_nI s1 (show 6 * k + 3 < L by omega) (by omega)
  have a4 := pm_ar_nI s1 (show 6 * k + 4 < L by omega) (by omega)
  have a5 := pm_ar_nI s1 (show 6 * k + 5 < L by omega) (by omega)
  simp only [pm_tl_some, q145_958, q145_958N, q145_959, q145_962, q145_962N, q145_963, q145_966, q145_969, q145_970, i1, i2, i3, i4, i5, a1, a2, a3, a4, a5, n1, n2, n3, n4, n5, z1, sM_0 g1.1.1]
  refine m_clear g1 fun S2 u2 f2 => ?_
  simp only [pm_tl_some, q145_958, q145_958N, q145_959, q145_962, q145_962N, q145_963, q145_966, q145_969, q145_970, lg_cmp_eq, if_true]
  exact hN S2 ⟨_, _, _, op_clear_wf, l_c u1 f2, u2, (by omega), (l_after' hb f2).trans s1⟩
end
