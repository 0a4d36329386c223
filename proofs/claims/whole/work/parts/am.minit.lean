/-! ===== THE REFERENCE: its constructor (by a script) ===== -/
def hdM (S0 S : pm_T) (m : Nat) (l : List (Nat × Nat × Nat × Nat)) (z : Nat) : Prop := pm_sh S m = .inr 7 ∧ pm_nx S = m + 1 + l.length ∧ pm_sz S = pm_sz S0 + z ∧ (∀ q ∈ l, q.2.1 ≤ l.length ∧ 1 ≤ q.2.1 ∧ pm_gr S m q.1 = some (m + q.2.1) ∧ pm_sh S (m + q.2.1) = .inl (q.2.2.1, q.2.2.2)) ∧ frO (fun b => m ≤ b) S0 S
section
variable {S0 S : pm_T} {m d f t n z : Nat} {l : List (Nat × Nat × Nat × Nat)} {Q : Option Value → pm_T → Prop}
theorem hd_sh (h : hdM S0 S m l z) : pm_sh (pm_mka S t n) m = .inr 7 := by
  rw [pn_a_sh, if_neg (by have := h.2.1; omega)]; exact h.1
theorem hd_step (f t n : Nat) (h : hdM S0 S m l z) (hf : ∀ q ∈ l, q.1 ≠ f) : hdM S0 (pm_sgr (pm_mka S t n) m f (some (pm_nx S))) m ((f, l.length + 1, t, n) :: l) (z + n) := by
  obtain ⟨h1, h2, h3, h4, h5⟩ := id h
  have hl : ((f, l.length + 1, t, n) :: l).length = l.length + 1 := rfl
  refine ⟨hd_sh h, ?_, ?_, fun q hq => ?_, h5.tr ((frO.mka (by show m ≤ pm_nx S; omega)).tr (frO.gr (Nat.le_refl m)))⟩
  · rw [ps_gr_nx, pn_a_nx, h2, hl]; omega
  · rw [ps_gr_sz, pn_a_sz, h3]; omega
  · rcases List.mem_cons.mp hq with rfl | hq
    · refine ⟨Nat.le_refl _, by show 1 ≤ l.length + 1; omega, ?_, ?_⟩
      · rw [ps_gr_self, h2]; show some (m + 1 + l.length) = some (m + (l.length + 1)); congr 1; omega
      · rw [ps_gr_sh, pn_a_sh, if_pos (by rw [h2]; show m + (l.length + 1) = m + 1 + l.length; omega)]
    · obtain ⟨a1, a2, a3, a4⟩ := h4 q hq
      refine ⟨by rw [hl]; omega, a2, ?_, ?_⟩
      · rw [ps_gr_gr, if_neg (fun z => hf q hq z.2)]; exact a3
      · rw [ps_gr_sh, pn_a_sh, if_neg (by rw [h2]; omega)]; exact a4
theorem hd_go (f t n i z' : Nat) (h : hdM S0 S m l z) (hf : ∀ q ∈ l, q.1 ≠ f) (hi : l.length + 1 = i) (hz : z + n = z') (K : pm_T → Prop) (hK : ∀ S', hdM S0 S' m ((f, i, t, n) :: l) z' → K S') : K (pm_sgr (pm_mka S t n) m f (some (pm_nx S))) := by
  subst hi hz
  exact hK _ (hd_step f t n h hf)
set_option maxHeartbeats 1000000 in
theorem m_init (h0 : pm_sh S m = .inr 7) (hn : pm_nx S = m + 1) (hg0 : ∀ S', frO (fun b => m ≤ b) S S' → sM S' m → pm_nx S' = m + 34 → pm_sz S' = pm_sz S + 25650 → mI S' m ([], (fun _ _ => none), []) → Q none S') : pm_N (d + 2) 87 [.ref m] S Q := by
  rw [q87_e, q87_0, q87_1]
  have h0' : hdM S S m [] 0 := ⟨h0, hn, rfl, (fun q hq => by cases hq), frO.rf⟩
  have go : ∀ S0, hdM S S0 m [] 0 → pm_V (d + 2) 87 4 [.ref m] [] S0 Q := by
    intro S0 g0
    rw [q87_4, q87_5, q87_7 (by decide), q87_9 (hd_sh g0), show ((24 : Int32).toNatClampNeg) = 24 by decide]
    refine hd_go 1 0 24 1 24 g0 (by decide) rfl rfl (fun S' => pm_V (d + 2) 87 12 [.ref m] [] S' Q) (fun S1 g1 => ?_)
    clear g0
    rw [q87_12, q87_13, q87_15 (by decide), q87_17 (hd_sh g1), show ((24 : Int32).toNatClampNeg) = 24 by decide]
    refine hd_go 2 0 24 2 48 g1 (by decide) rfl rfl (fun S' => pm_V (d + 2) 87 20 [.ref m] [] S' Q) (fun S2 g2 => ?_)
    clear g1
    rw [q87_20, q87_21, q87_23 (by decide), q87_25 (hd_sh g2), show ((24 : Int32).toNatClampNeg) = 24 by decide]
    refine hd_go 3 0 24 3 72 g2 (by decide) rfl rfl (fun S' => pm_V (d + 2) 87 28 [.ref m] [] S' Q) (fun S3 g3 => ?_)
    clear g2
    rw [q87_28, q87_29, q87_31 (by decide), q87_33 (hd_sh g3), show ((24 : Int32).toNatClampNeg) = 24 by decide]
    refine hd_go 4 0 24 4 96 g3 (by decide) rfl rfl (fun S' => pm_V (d + 2) 87 36 [.ref m] [] S' Q) (fun S4 g4 => ?_)
    clear g3
    rw [q87_36, q87_37, q87_39 (by decide), q87_41 (hd_sh g4), show ((24 : Int32).toNatClampNeg) = 24 by decide]
    refine hd_go 5 0 24 5 120 g4 (by decide) rfl rfl (fun S' => pm_V (d + 2) 87 44 [.ref m] [] S' Q) (fun S5 g5 => ?_)
    clear g4
    rw [q87_44, q87_45, q87_47 (by decide), q87_49 (hd_sh g5), show ((24 : Int32).toNatClampNeg) = 24 by decide]
    refine hd_go 6 2 24 6 144 g5 (by decide) rfl rfl (fun S' => pm_V (d + 2) 87 52 [.ref m] [] S' Q) (fun S6 g6 => ?_)
    clear g5
    rw [q87_52, q87_53, q87_55 (by decide), q87_57 (hd_sh g6), show ((24 : Int32).toNatClampNeg) = 24 by decide]
    refine hd_go 7 0 24 7 168 g6 (by decide) rfl rfl (fun S' => pm_V (d + 2) 87 60 [.ref m] [] S' Q) (fun S7 g7 => ?_)
    clear g6
    rw [q87_60, q87_61, q87_63 (by decide), q87_65 (hd_sh g7), show ((24 : Int32).toNatClampNeg) = 24 by decide]
    refine hd_go 8 0 24 8 192 g7 (by decide) rfl rfl (fun S' => pm_V (d + 2) 87 68 [.ref m] [] S' Q) (fun S8 g8 => ?_)
    clear g7
    rw [q87_68, q87_69, q87_71 (by decide), q87_73 (hd_sh g8), show ((24 : Int32).toNatClampNeg) = 24 by decide]
    refine hd_go 9 0 24 9 216 g8 (by decide) rfl rfl (fun S' => pm_V (d + 2) 87 76 [.ref m] [] S' Q) (fun S9 g9 => ?_)
    clear g8
    rw [q87_76, q87_77, q87_80 (by decide), q87_82 (hd_sh g9), show ((960 : Int32).toNatClampNeg) = 960 by decide]
    refine hd_go 10 1 960 10 1176 g9 (by decide) rfl rfl (fun S' => pm_V (d + 2) 87 85 [.ref m] [] S' Q) (fun S10 g10 => ?_)
    clear g9
    rw [q87_85, q87_86, q87_89 (by decide), q87_91 (hd_sh g10), show ((960 : Int32).toNatClampNeg) = 960 by decide]
    refine hd_go 11 0 960 11 2136 g10 (by decide) rfl rfl (fun S' => pm_V (d + 2) 87 94 [.ref m] [] S' Q) (fun S11 g11 => ?_)
    clear g10
    rw [q87_94, q87_95, q87_98 (by decide), q87_100 (hd_sh g11), show ((960 : Int32).toNatClampNeg) = 960 by decide]
    refine hd_go 12 0 960 12 3096 g11 (by decide) rfl rfl (fun S' => pm_V (d + 2) 87 103 [.ref m] [] S' Q) (fun S12 g12 => ?_)
    clear g11
    rw [q87_103, q87_104, q87_107 (by decide), q87_109 (hd_sh g12), show ((2880 : Int32).toNatClampNeg) = 2880 by decide]
    refine hd_go 13 0 2880 13 5976 g12 (by decide) rfl rfl (fun S' => pm_V (d + 2) 87 112 [.ref m] [] S' Q) (fun S13 g13 => ?_)
    clear g12
    rw [q87_112, q87_113, q87_116 (by decide), q87_118 (hd_sh g13), show ((2880 : Int32).toNatClampNeg) = 2880 by decide]
    refine hd_go 14 0 2880 14 8856 g13 (by decide) rfl rfl (fun S' => pm_V (d + 2) 87 121 [.ref m] [] S' Q) (fun S14 g14 => ?_)
    clear g13
    rw [q87_121, q87_122, q87_125 (by decide), q87_127 (hd_sh g14), show ((2880 : Int32).toNatClampNeg) = 2880 by decide]
    refine hd_go 15 1 2880 15 11736 g14 (by decide) rfl rfl (fun S' => pm_V (d + 2) 87 130 [.ref m] [] S' Q) (fun S15 g15 => ?_)
    clear g14
    rw [q87_130, q87_131, q87_134 (by decide), q87_136 (hd_sh g15), show ((2880 : Int32).toNatClampNeg) = 2880 by decide]
    refine hd_go 16 0 2880 16 14616 g15 (by decide) rfl rfl (fun S' => pm_V (d + 2) 87 139 [.ref m] [] S' Q) (fun S16 g16 => ?_)
    clear g15
    rw [q87_139, q87_140, q87_143 (by decide), q87_145 (hd_sh g16), show ((2880 : Int32).toNatClampNeg) = 2880 by decide]
    refine hd_go 17 0 2880 17 17496 g16 (by decide) rfl rfl (fun S' => pm_V (d + 2) 87 148 [.ref m] [] S' Q) (fun S17 g17 => ?_)
    clear g16
    rw [q87_148, q87_149, q87_151 (by decide), q87_153 (hd_sh g17), show ((24 : Int32).toNatClampNeg) = 24 by decide]
    refine hd_go 18 0 24 18 17520 g17 (by decide) rfl rfl (fun S' => pm_V (d + 2) 87 156 [.ref m] [] S' Q) (fun S18 g18 => ?_)
    clear g17
    rw [q87_156, q87_157, q87_160 (by decide), q87_162 (hd_sh g18), show ((3840 : Int32).toNatClampNeg) = 3840 by decide]
    refine hd_go 19 0 3840 19 21360 g18 (by decide) rfl rfl (fun S' => pm_V (d + 2) 87 165 [.ref m] [] S' Q) (fun S19 g19 => ?_)
    clear g18
    rw [q87_165, q87_166, q87_169 (by decide), q87_171 (hd_sh g19), show ((3840 : Int32).toNatClampNeg) = 3840 by decide]
    refine hd_go 20 0 3840 20 25200 g19 (by decide) rfl rfl (fun S' => pm_V (d + 2) 87 174 [.ref m] [] S' Q) (fun S20 g20 => ?_)
    clear g19
    rw [q87_174, q87_175, q87_178 (by decide), q87_180 (hd_sh g20), show ((160 : Int32).toNatClampNeg) = 160 by decide]
    refine hd_go 22 0 160 21 25360 g20 (by decide) rfl rfl (fun S' => pm_V (d + 2) 87 183 [.ref m] [] S' Q) (fun S21 g21 => ?_)
    clear g20
    rw [q87_183, q87_184, q87_186 (by decide), q87_188 (hd_sh g21), show ((20 : Int32).toNatClampNeg) = 20 by decide]
    refine hd_go 24 0 20 22 25380 g21 (by decide) rfl rfl (fun S' => pm_V (d + 2) 87 191 [.ref m] [] S' Q) (fun S22 g22 => ?_)
    clear g21
    rw [q87_191, q87_192, q87_194 (by decide), q87_196 (hd_sh g22), show ((20 : Int32).toNatClampNeg) = 20 by decide]
    refine hd_go 25 1 20 23 25400 g22 (by decide) rfl rfl (fun S' => pm_V (d + 2) 87 199 [.ref m] [] S' Q) (fun S23 g23 => ?_)
    clear g22
    rw [q87_199, q87_200, q87_202 (by decide), q87_204 (hd_sh g23), show ((20 : Int32).toNatClampNeg) = 20 by decide]
    refine hd_go 26 0 20 24 25420 g23 (by decide) rfl rfl (fun S' => pm_V (d + 2) 87 207 [.ref m] [] S' Q) (fun S24 g24 => ?_)
    clear g23
    rw [q87_207, q87_208, q87_210 (by decide), q87_212 (hd_sh g24), show ((20 : Int32).toNatClampNeg) = 20 by decide]
    refine hd_go 27 0 20 25 25440 g24 (by decide) rfl rfl (fun S' => pm_V (d + 2) 87 215 [.ref m] [] S' Q) (fun S25 g25 => ?_)
    clear g24
    rw [q87_215, q87_216, q87_218 (by decide), q87_220 (hd_sh g25), show ((40 : Int32).toNatClampNeg) = 40 by decide]
    refine hd_go 28 0 40 26 25480 g25 (by decide) rfl rfl (fun S' => pm_V (d + 2) 87 223 [.ref m] [] S' Q) (fun S26 g26 => ?_)
    clear g25
    rw [q87_223, q87_224, q87_226 (by decide), q87_228 (hd_sh g26), show ((10 : Int32).toNatClampNeg) = 10 by decide]
    refine hd_go 34 0 10 27 25490 g26 (by decide) rfl rfl (fun S' => pm_V (d + 2) 87 231 [.ref m] [] S' Q) (fun S27 g27 => ?_)
    clear g26
    rw [q87_231, q87_232, q87_234 (by decide), q87_236 (hd_sh g27), show ((24 : Int32).toNatClampNeg) = 24 by decide]
    refine hd_go 36 0 24 28 25514 g27 (by decide) rfl rfl (fun S' => pm_V (d + 2) 87 239 [.ref m] [] S' Q) (fun S28 g28 => ?_)
    clear g27
    rw [q87_239, q87_240, q87_242 (by decide), q87_244 (hd_sh g28), show ((24 : Int32).toNatClampNeg) = 24 by decide]
    refine hd_go 37 0 24 29 25538 g28 (by decide) rfl rfl (fun S' => pm_V (d + 2) 87 247 [.ref m] [] S' Q) (fun S29 g29 => ?_)
    clear g28
    rw [q87_247, q87_248, q87_250 (by decide), q87_252 (hd_sh g29), show ((24 : Int32).toNatClampNeg) = 24 by decide]
    refine hd_go 38 0 24 30 25562 g29 (by decide) rfl rfl (fun S' => pm_V (d + 2) 87 255 [.ref m] [] S' Q) (fun S30 g30 => ?_)
    clear g29
    rw [q87_255, q87_256, q87_258 (by decide), q87_260 (hd_sh g30), show ((24 : Int32).toNatClampNeg) = 24 by decide]
    refine hd_go 39 0 24 31 25586 g30 (by decide) rfl rfl (fun S' => pm_V (d + 2) 87 263 [.ref m] [] S' Q) (fun S31 g31 => ?_)
    clear g30
    rw [q87_263, q87_264, q87_266 (by decide), q87_268 (hd_sh g31), show ((24 : Int32).toNatClampNeg) = 24 by decide]
    refine hd_go 40 0 24 32 25610 g31 (by decide) rfl rfl (fun S' => pm_V (d + 2) 87 271 [.ref m] [] S' Q) (fun S32 g32 => ?_)
    clear g31
    rw [q87_271, q87_272, q87_274 (by decide), q87_276 (hd_sh g32), show ((40 : Int32).toNatClampNeg) = 40 by decide]
    refine hd_go 41 2 40 33 25650 g32 (by decide) rfl rfl (fun S' => pm_V (d + 2) 87 279 [.ref m] [] S' Q) (fun S33 g33 => ?_)
    clear g32
    have hM : sM S33 m := ⟨g33.1, fun q hq => (g33.2.2.2.1 q ((by decide : ∀ q ∈ sM_t, q ∈ ([(41, 33, 2, 40), (40, 32, 0, 24), (39, 31, 0, 24), (38, 30, 0, 24), (37, 29, 0, 24), (36, 28, 0, 24), (34, 27, 0, 10), (28, 26, 0, 40), (27, 25, 0, 20), (26, 24, 0, 20), (25, 23, 1, 20), (24, 22, 0, 20), (22, 21, 0, 160), (20, 20, 0, 3840), (19, 19, 0, 3840), (18, 18, 0, 24), (17, 17, 0, 2880), (16, 16, 0, 2880), (15, 15, 1, 2880), (14, 14, 0, 2880), (13, 13, 0, 2880), (12, 12, 0, 960), (11, 11, 0, 960), (10, 10, 1, 960), (9, 9, 0, 24), (8, 8, 0, 24), (7, 7, 0, 24), (6, 6, 2, 24), (5, 5, 0, 24), (4, 4, 0, 24), (3, 3, 0, 24), (2, 2, 0, 24), (1, 1, 0, 24)] : List (Nat × Nat × Nat × Nat))) q hq)).2.2⟩
    rw [q87_279, q87_280 g33.1]
    refine m_clearG hM rfl fun S' w1 w2 => ?_
    simp only [pm_tl_some, q87_283, q87_284]
    exact hg0 S' (g33.2.2.2.2.tr (w2.1.mono (fun b hb => hb.1))) w1.1.1 (w2.2.1.trans g33.2.1) (w2.2.2.trans g33.2.2.1) w1
  exact go S h0'
end
