/-! ===== THE REFERENCE: its constructor (by a script) ===== -/
def hdM (S0 S : pm_T) (m : Nat) (l : List (Nat × Nat × Nat × Nat)) (z : Nat) : Prop := pm_sh S m = .inr 7 ∧ pm_nx S = m + 1 + l.length ∧ pm_sz S = pm_sz S0 + z ∧ (∀ q ∈ l, q.2.1 ≤ l.length ∧ 1 ≤ q.2.1 ∧ pm_gr S m q.1 = some (m + q.2.1) ∧ pm_sh S (m + q.2.1) = .inl (q.2.2.1, q.2.2.2)) ∧ frO (fun b => m ≤ b) S0 S
section
variable {S0 S : pm_T} {m d f t n z : Nat} {l : List (Nat × Nat × Nat × Nat)} {Q : Option Value → pm_T → Prop}
theorem hd_sh (h : hdM S0 S m l z) : pm_sh (pm_mka S t n) m = .inr 7 := by
  rw [pn_a_sh, if_neg (by have := h.2.1; omega)]; exact h.1
theorem hd_step (f t n : Nat) (h : hdM S0 S m l z) (hf : ∀ q ∈ l, q.1 ≠ f) : hdM S0 (pm_sgr (pm_mka S t n) m f (some (pm_nx S))) m ((f, l.length + 1, t, n) :: l) (z + n) := by
  obtain ⟨h1, h2, h3, h4, h5⟩ := id h
  have hl : ((f, l.length + 1, t, n) :: l).length = l.length + 1 := rfl
  refine ⟨hd_sh h, ?_, ?_, fun q hq => ?_, h5.tr ((frO.mka (by show m ≤ pm_nx S; omega)).tr (frO.gr (Nat.le_refl m)))⟩
  · rw [ps_gr_nx, pn_a_nx, h2, hl]; omega
  · rw [ps_gr_sz, pn_a_sz, h3]; omega
  · rcases List.mem_cons.mp hq with rfl | hq
    · refine ⟨Nat.le_refl _, by show 1 ≤ l.length + 1; omega, ?_, ?_⟩
      · rw [ps_gr_self, h2]; show some (m + 1 + l.length) = some (m + (l.length + 1)); congr 1; omega
      · rw [ps_gr_sh, pn_a_sh, if_pos (by rw [h2]; show m + (l.length + 1) = m + 1 + l.length; omega)]
    · obtain ⟨a1, a2, a3, a4⟩ := h4 q hq
      refine ⟨by rw [hl]; omega, a2, ?_, ?_⟩
      · rw [ps_gr_gr, if_neg (fun z => hf q hq z.2)]; exact a3
      · rw [ps_gr_sh, pn_a_sh, if_neg (by rw [h2]; omega)]; exact a4
theorem hd_go (f t n i z' : Nat) (h : hdM S0 S m l z) (hf : ∀ q ∈ l, q.1 ≠ f) (hi : l.length + 1 = i) (hz : z + n = z') (K : pm_T → Prop) (hK : ∀ S', hdM S0 S' m ((f, i, t, n) :: l) z' → K S') : K (pm_sgr (pm_mka S t n) m f (some (pm_nx S))) := by
  subst hi hz
  exact hK _ (hd_step f t n h hf)
set_option maxHeartbeats 1000000 in
theorem m_init (h0 : pm_sh S m = .inr 7) (hn : pm_nx S = m + 1) (hg0 : ∀ S', frO (fun b => m ≤ b) S S' → sM S' m → pm_nx S' = m + 34 → pm_sz S' = pm_sz S + 25650 → mI S' m ([], (fun _ _ => none), []) → Q none S') : pm_N (d + 2) 86 [.ref m] S Q := by
  rw [q86_e, q86_0, q86_1]
  have h0' : hdM S S m [] 0 := ⟨h0, hn, rfl, (fun q hq => by cases hq), frO.rf⟩
  have go : ∀ S0, hdM S S0 m [] 0 → pm_V (d + 2) 86 4 [.ref m] [] S0 Q := by
    intro S0 g0
    rw [q86_4, q86_5, q86_7 (by decide), q86_9 (hd_sh g0), show ((24 : Int32).toNatClampNeg) = 24 by decide]
    refine hd_go 1 0 24 1 24 g0 (by decide) rfl rfl (fun S' => pm_V (d + 2) 86 12 [.ref m] [] S' Q) (fun S1 g1 => ?_)
    clear g0
    rw [q86_12, q86_13, q86_15 (by decide), q86_17 (hd_sh g1), show ((24 : Int32).toNatClampNeg) = 24 by decide]
    refine hd_go 2 0 24 2 48 g1 (by decide) rfl rfl (fun S' => pm_V (d + 2) 86 20 [.ref m] [] S' Q) (fun S2 g2 => ?_)
    clear g1
    rw [q86_20, q86_21, q86_23 (by decide), q86_25 (hd_sh g2), show ((24 : Int32).toNatClampNeg) = 24 by decide]
    refine hd_go 3 0 24 3 72 g2 (by decide) rfl rfl (fun S' => pm_V (d + 2) 86 28 [.ref m] [] S' Q) (fun S3 g3 => ?_)
    clear g2
    rw [q86_28, q86_29, q86_31 (by decide), q86_33 (hd_sh g3), show ((24 : Int32).toNatClampNeg) = 24 by decide]
    refine hd_go 4 0 24 4 96 g3 (by decide) rfl rfl (fun S' => pm_V (d + 2) 86 36 [.ref m] [] S' Q) (fun S4 g4 => ?_)
    clear g3
    rw [q86_36, q86_37, q86_39 (by decide), q86_41 (hd_sh g4), show ((24 : Int32).toNatClampNeg) = 24 by decide]
    refine hd_go 5 0 24 5 120 g4 (by decide) rfl rfl (fun S' => pm_V (d + 2) 86 44 [.ref m] [] S' Q) (fun S5 g5 => ?_)
    clear g4
    rw [q86_44, q86_45, q86_47 (by decide), q86_49 (hd_sh g5), show ((24 : Int32).toNatClampNeg) = 24 by decide]
    refine hd_go 6 2 24 6 144 g5 (by decide) rfl rfl (fun S' => pm_V (d + 2) 86 52 [.ref m] [] S' Q) (fun S6 g6 => ?_)
    clear g5
    rw [q86_52, q86_53, q86_55 (by decide), q86_57 (hd_sh g6), show ((24 : Int32).toNatClampNeg) = 24 by decide]
    refine hd_go 7 0 24 7 168 g6 (by decide) rfl rfl (fun S' => pm_V (d + 2) 86 60 [.ref m] [] S' Q) (fun S7 g7 => ?_)
    clear g6
    rw [q86_60, q86_61, q86_63 (by decide), q86_65 (hd_sh g7), show ((24 : Int32).toNatClampNeg) = 24 by decide]
    refine hd_go 8 0 24 8 192 g7 (by decide) rfl rfl (fun S' => pm_V (d + 2) 86 68 [.ref m] [] S' Q) (fun S8 g8 => ?_)
    clear g7
    rw [q86_68, q86_69, q86_71 (by decide), q86_73 (hd_sh g8), show ((24 : Int32).toNatClampNeg) = 24 by decide]
    refine hd_go 9 0 24 9 216 g8 (by decide) rfl rfl (fun S' => pm_V (d + 2) 86 76 [.ref m] [] S' Q) (fun S9 g9 => ?_)
    clear g8
    rw [q86_76, q86_77, q86_80 (by decide), q86_82 (hd_sh g9), show ((960 : Int32).toNatClampNeg) = 960 by decide]
    refine hd_go 10 1 960 10 1176 g9 (by decide) rfl rfl (fun S' => pm_V (d + 2) 86 85 [.ref m] [] S' Q) (fun S10 g10 => ?_)
    clear g9
    rw [q86_85, q86_86, q86_89 (by decide), q86_91 (hd_sh g10), show ((960 : Int32).toNatClampNeg) = 960 by decide]
    refine hd_go 11 0 960 11 2136 g10 (by decide) rfl rfl (fun S' => pm_V (d + 2) 86 94 [.ref m] [] S' Q) (fun S11 g11 => ?_)
    clear g10
    rw [q86_94, q86_95, q86_98 (by decide), q86_100 (hd_sh g11), show ((960 : Int32).toNatClampNeg) = 960 by decide]
    refine hd_go 12 0 960 12 3096 g11 (by decide) rfl rfl (fun S' => pm_V (d + 2) 86 103 [.ref m] [] S' Q) (fun S12 g12 => ?_)
    clear g11
    rw [q86_103, q86_104, q86_107 (by decide), q86_109 (hd_sh g12), show ((2880 : Int32).toNatClampNeg) = 2880 by decide]
    refine hd_go 13 0 2880 13 5976 g12 (by decide) rfl rfl (fun S' => pm_V (d + 2) 86 112 [.ref m] [] S' Q) (fun S13 g13 => ?_)
    clear g12
    rw [q86_112, q86_113, q86_116 (by decide), q86_118 (hd_sh g13), show ((2880 : Int32).toNatClampNeg) = 2880 by decide]
    refine hd_go 14 0 2880 14 8856 g13 (by decide) rfl rfl (fun S' => pm_V (d + 2) 86 121 [.ref m] [] S' Q) (fun S14 g14 => ?_)
    clear g13
    rw [q86_121, q86_122, q86_125 (by decide), q86_127 (hd_sh g14), show ((2880 : Int32).toNatClampNeg) = 2880 by decide]
    refine hd_go 15 1 2880 15 11736 g14 (by decide) rfl rfl (fun S' => pm_V (d + 2) 86 130 [.ref m] [] S' Q) (fun S15 g15 => ?_)
    clear g14
    rw [q86_130, q86_131, q86_134 (by decide), q86_136 (hd_sh g15), show ((2880 : Int32).toNatClampNeg) = 2880 by decide]
    refine hd_go 16 0 2880 16 14616 g15 (by decide) rfl rfl (fun S' => pm_V (d + 2) 86 139 [.ref m] [] S' Q) (fun S16 g16 => ?_)
    clear g15
    rw [q86_139, q86_140, q86_143 (by decide), q86_145 (hd_sh g16), show ((2880 : Int32).toNatClampNeg) = 2880 by decide]
    refine hd_go 17 0 2880 17 17496 g16 (by decide) rfl rfl (fun S' => pm_V (d + 2) 86 148 [.ref m] [] S' Q) (fun S17 g17 => ?_)
    clear g16
    rw [q86_148, q86_149, q86_151 (by decide), q86_153 (hd_sh g17), show ((24 : Int32).toNatClampNeg) = 24 by decide]
    refine hd_go 18 0 24 18 17520 g17 (by decide) rfl rfl (fun S' => pm_V (d + 2) 86 156 [.ref m] [] S' Q) (fun S18 g18 => ?_)
    clear g17
    rw [q86_156, q86_157, q86_160 (by decide), q86_162 (hd_sh g18), show ((3840 : Int32).toNatClampNeg) = 3840 by decide]
    refine hd_go 19 0 3840 19 21360 g18 (by decide) rfl rfl (fun S' => pm_V (d + 2) 86 165 [.ref m] [] S' Q) (fun S19 g19 => ?_)
    clear g18
    rw [q86_165, q86_166, q86_169 (by decide), q86_171 (hd_sh g19), show ((3840 : Int32).toNatClampNeg) = 3840 by decide]
    refine hd_go 20 0 3840 20 25200 g19 (by decide) rfl rfl (fun S' => pm_V (d + 2) 86 174 [.ref m] [] S' Q) (fun S20 g20 => ?_)
    clear g19
    rw [q86_174, q86_175, q86_178 (by decide), q86_180 (hd_sh g20), show ((160 : Int32).toNatClampNeg) = 160 by decide]
    refine hd_go 22 0 160 21 25360 g20 (by decide) rfl rfl (fun S' => pm_V (d + 2) 86 183 [.ref m] [] S' Q) (fun S21 g21 => ?_)
    clear g20
    rw [q86_183, q86_184, q86_186 (by decide), q86_188 (hd_sh g21), show ((20 : Int32).toNatClampNeg) = 20 by decide]
    refine hd_go 24 0 20 22 25380 g21 (by decide) rfl rfl (fun S' => pm_V (d + 2) 86 191 [.ref m] [] S' Q) (fun S22 g22 => ?_)
    clear g21
    rw [q86_191, q86_192, q86_194 (by decide), q86_196 (hd_sh g22), show ((20 : Int32).toNatClampNeg) = 20 by decide]
    refine hd_go 25 1 20 23 25400 g22 (by decide) rfl rfl (fun S' => pm_V (d + 2) 86 199 [.ref m] [] S' Q) (fun S23 g23 => ?_)
    clear g22
    rw [q86_199, q86_200, q86_202 (by decide), q86_204 (hd_sh g23), show ((20 : Int32).toNatClampNeg) = 20 by decide]
    refine hd_go 26 0 20 24 25420 g23 (by decide) rfl rfl (fun S' => pm_V (d + 2) 86 207 [.ref m] [] S' Q) (fun S24 g24 => ?_)
    clear g23
    rw [q86_207, q86_208, q86_210 (by decide), q86_212 (hd_sh g24), show ((20 : Int32).toNatClampNeg) = 20 by decide]
    refine hd_go 27 0 20 25 25440 g24 (by decide) rfl rfl (fun S' => pm_V (d + 2) 86 215 [.ref m] [] S' Q) (fun S25 g25 => ?_)
    clear g24
    rw [q86_215, q86_216, q86_218 (by decide), q86_220 (hd_sh g25), show ((40 : Int32).toNatClampNeg) = 40 by decide]
    refine hd_go 28 0 40 26 25480 g25 (by decide) rfl rfl (fun S' => pm_V (d + 2) 86 223 [.ref m] [] S' Q) (fun S26 g26 => ?_)
    clear g25
    rw [q86_223, q86_224, q86_226 (by decide), q86_228 (hd_sh g26), show ((10 : Int32).toNatClampNeg) = 10 by decide]
    refine hd_go 34 0 10 27 25490 g26 (by decide) rfl rfl (fun S' => pm_V (d + 2) 86 231 [.ref m] [] S' Q) (fun S27 g27 => ?_)
    clear g26
    rw [q86_231, q86_232, q86_234 (by decide), q86_236 (hd_sh g27), show ((24 : Int32).toNatClampNeg) = 24 by decide]
    refine hd_go 36 0 24 28 25514 g27 (by decide) rfl rfl (fun S' => pm_V (d + 2) 86 239 [.ref m] [] S' Q) (fun S28 g28 => ?_)
    clear g27
    rw [q86_239, q86_240, q86_242 (by decide), q86_244 (hd_sh g28), show ((24 : Int32).toNatClampNeg) = 24 by decide]
    refine hd_go 37 0 24 29 25538 g28 (by decide) rfl rfl (fun S' => pm_V (d + 2) 86 247 [.ref m] [] S' Q) (fun S29 g29 => ?_)
    clear g28
    rw [q86_247, q86_248, q86_250 (by decide), q86_252 (hd_sh g29), show ((24 : Int32).toNatClampNeg) = 24 by decide]
    refine hd_go 38 0 24 30 25562 g29 (by decide) rfl rfl (fun S' => pm_V (d + 2) 86 255 [.ref m] [] S' Q) (fun S30 g30 => ?_)
    clear g29
    rw [q86_255, q86_256, q86_258 (by decide), q86_260 (hd_sh g30), show ((24 : Int32).toNatClampNeg) = 24 by decide]
    refine hd_go 39 0 24 31 25586 g30 (by decide) rfl rfl (fun S' => pm_V (d + 2) 86 263 [.ref m] [] S' Q) (fun S31 g31 => ?_)
    clear g30
    rw [q86_263, q86_264, q86_266 (by decide), q86_268 (hd_sh g31), show ((24 : Int32).toNatClampNeg) = 24 by decide]
    refine hd_go 40 0 24 32 25610 g31 (by decide) rfl rfl (fun S' => pm_V (d + 2) 86 271 [.ref m] [] S' Q) (fun S32 g32 => ?_)
    clear g31
    rw [q86_271, q86_272, q86_274 (by decide), q86_276 (hd_sh g32), show ((40 : Int32).toNatClampNeg) = 40 by decide]
    refine hd_go 41 2 40 33 25650 g32 (by decide) rfl rfl (fun S' => pm_V (d + 2) 86 279 [.ref m] [] S' Q) (fun S33 g33 => ?_)
    clear g32
    have hM : sM S33 m := ⟨g33.1, fun q hq => (g33.2.2.2.1 q ((by decide : ∀ q ∈ sM_t, q ∈ ([(41, 33, 2, 40), (40, 32, 0, 24), (39, 31, 0, 24), (38, 30, 0, 24), (37, 29, 0, 24), (36, 28, 0, 24), (34, 27, 0, 10), (28, 26, 0, 40), (27, 25, 0, 20), (26, 24, 0, 20), (25, 23, 1, 20), (24, 22, 0, 20), (22, 21, 0, 160), (20, 20, 0, 3840), (19, 19, 0, 3840), (18, 18, 0, 24), (17, 17, 0, 2880), (16, 16, 0, 2880), (15, 15, 1, 2880), (14, 14, 0, 2880), (13, 13, 0, 2880), (12, 12, 0, 960), (11, 11, 0, 960), (10, 10, 1, 960), (9, 9, 0, 24), (8, 8, 0, 24), (7, 7, 0, 24), (6, 6, 2, 24), (5, 5, 0, 24), (4, 4, 0, 24), (3, 3, 0, 24), (2, 2, 0, 24), (1, 1, 0, 24)] : List (Nat × Nat × Nat × Nat))) q hq)).2.2⟩
    rw [q86_279, q86_280 g33.1]
    refine m_clearG hM rfl fun S' w1 w2 => ?_
    simp only [pm_tl_some, q86_283, q86_284]
    exact hg0 S' (g33.2.2.2.2.tr (w2.1.mono (fun b hb => hb.1))) w1.1.1 (w2.2.1.trans g33.2.1) (w2.2.2.trans g33.2.2.1) w1
  exact go S h0'
end
