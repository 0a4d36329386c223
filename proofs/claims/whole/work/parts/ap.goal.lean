/-! ===== THE LAW: the loop, and the claim ===== -/
section
variable {S S' : pm_T} {x b L k d : Nat} {Q : Option Value → pm_T → Prop}
theorem l_cond {i : Nat} (hi : i < 2 ^ 29) (hL : L < 2 ^ 29) : (nI i ≤ nI L - 6) = (i + 6 ≤ L) := by
  have e1 := pk_sub_toInt (a := L) (b := 6) (by omega) (by decide)
  rw [show nI 6 = 6 by decide] at e1
  rw [Int32.le_iff_toInt_le, e1, nI_toInt (by omega)]
  exact propext ⟨(fun q => by omega), (fun q => by omega)⟩
theorem l_tsw {w : Nat} (h : 18 ≤ w) (hw : w < 32) : pm_tsw (nI w) 0 [120, 143, 226, 309, 352, 435, 498, 547, 580, 623, 667, 720, 773, 816, 849, 882, 935, 958] 971 = 971 := by
  have : ∀ w, w < 32 → 18 ≤ w → pm_tsw (nI w) 0 [120, 143, 226, 309, 352, 435, 498, 547, 580, 623, 667, 720, 773, 816, 849, 882, 935, 958] 971 = 971 := by decide +kernel
  exact this w hw h
set_option maxHeartbeats 4000000 in
theorem l_loop (hb : b < x) (hL : L ≤ 3072) (hQ : ∀ S' k, lI b L x S' k → Q (some (.int 1)) S') : ∀ f k S, L ≤ 6 * k + f → 6 * k ≤ L + 5 → lI b L x S k → pm_V (d + 93) 145 18 [.ref b, .ref x, .ref (x + 18), .int (nI (6 * k))] [] S Q := by
  intro f
  induction f using Nat.strongRecOn with
  | ind f ih =>
    intro k S hf h6 hI
    obtain ⟨Z, nw, M, hw, hC, hM, hn, hs⟩ := id hI
    have hal : pm_al S b = some L := pm_al_of hs (Or.inr rfl)
    have hc := l_cond (i := 6 * k) (L := L) (by omega) (by omega)
    rw [q145_18]
    by_cases c : 6 * k + 6 ≤ L
    · have a0 := pm_ar_nI hs (show 6 * k < L by omega) (by omega)
      have n0 := nI_clamp (show 6 * k < 2 ^ 31 by omega)
      have i6 : nI (6 * k) + 6 = nI (6 * (k + 1)) := (nI_add (6 * k) 6)
      obtain ⟨w, hw32, ew⟩ := and31 (pm_zi S b (6 * k))
      have hN : ∀ S', lI b L x S' (k + 1) → pm_V (d + 93) 145 971 [.ref b, .ref x, .ref (x + 18), .int (nI (6 * k))] [] S' Q := by
        intro S' hI'
        simp only [q145_971, q145_974, i6]
        exact ih (f - 6) (by omega) (k + 1) S' (by omega) (by omega) hI'
      simp only [q145_19, q145_20, q145_21, q145_23, q145_24, q145_27, q145_28, q145_29, q145_30, q145_32, q145_33, hal, Option.isSome_some, Option.getD_some, hc, c, if_true, a0, n0, ew]
      by_cases h18 : 18 ≤ w
      · rw [l_tsw h18 hw32]
        exact hN S ⟨Z, nw, M, hw, hC, hM, by omega, hs⟩
      · rcases (show w = 0 ∨ w = 1 ∨ w = 2 ∨ w = 3 ∨ w = 4 ∨ w = 5 ∨ w = 6 ∨ w = 7 ∨ w = 8 ∨ w = 9 ∨ w = 10 ∨ w = 11 ∨ w = 12 ∨ w = 13 ∨ w = 14 ∨ w = 15 ∨ w = 16 ∨ w = 17 by omega) with rfl | rfl | rfl | rfl | rfl | rfl | rfl | rfl | rfl | rfl | rfl | rfl | rfl | rfl | rfl | rfl | rfl | rfl
        · exact l_graph hb c hL hw hC hM hn hs hN
        · exact l_arc hb c hL hw hC hM hn hs hN
        · exact l_set hb c hL hw hC hM hn hs hN
        · exact l_label hb c hL hw hC hM hn hs hN
        · exact l_test hb c hL hw hC hM hn hs hN
        · exact l_view hb c hL hw hC hM hn hs hN
        · exact l_live hb c hL hw hC hM hn hs hN
        · exact l_told hb c hL hw hC hM hn hs hN
        · exact l_end hb c hL hw hC hM hn hs hN
        · exact l_value hb c hL hw hC hM hn hs hN
        · exact l_up hb c hL hw hC hM hn hs hN
        · exact l_down hb c hL hw hC hM hn hs hN
        · exact l_hidden hb c hL hw hC hM hn hs hN
        · exact l_same hb c hL hw hC hM hn hs hN
        · exact l_reach hb c hL hw hC hM hn hs hN
        · exact l_ask hb c hL hw hC hM hn hs hN
        · exact l_count hb c hL hw hC hM hn hs hN
        · exact l_clear hb c hL hw hC hM hn hs hN
    · simp only [q145_19, q145_20, q145_21, q145_23, q145_24, q145_977, q145_978, hal, Option.isSome_some, Option.getD_some, hc, c, if_false, or_true]
      exact hQ S k hI
theorem wf_0 : wf ([], (fun _ _ => none), []) := op_clear_wf (Z := ([], (fun _ _ => none), []))
set_option maxHeartbeats 2000000 in
theorem pm_goal2_ok : pm_goal2 := by
  intro b B L xs hb hL
  rw [show pm_law = 145 by decide +kernel, show (1000 : Nat) = 907 + 93 from rfl]
  have n0 : pm_nx (pm_s0 b B L xs) = B := rfl
  have z0 : pm_sz (pm_s0 b B L xs) = 0 := rfl
  have s0 : pm_sh (pm_s0 b B L xs) b = .inl (9, L) := by
    show (if b = b then (Sum.inl (9, L) : pm_Sh) else .inl (8, 0)) = _
    rw [if_pos rfl]
  generalize pm_s0 b B L xs = S at *
  simp only [q145_e, q145_0, q145_3, q145_4, q145_7, q145_7N, q145_8, q145_11, q145_12, q145_15, q145_15N, q145_16, q145_17, n0]
  refine c_newVJ (d := 907 + 90) (by rw [pn_k_sh, n0, if_pos rfl]) (by rw [pn_k_nx, n0]) fun S1 w1 w2 w3 w4 => ?_
  have f1 : frO (fun b => B ≤ b) S S1 := (frO.mk (by show B ≤ pm_nx S; omega)).tr w4
  have zf : pm_nf 6 = 6 := by decide
  have z1 : pm_sz S1 ≤ 2100 := by rw [pn_k_sz, z0, zf] at w3; omega
  simp only [pm_tl_none, q145_0, q145_3, q145_4, q145_7, q145_7N, q145_8, q145_11, q145_12, q145_15, q145_15N, q145_16, q145_17, w2, List.nil_append]
  refine m_init (d := 907 + 90) (m := B + 18) (by rw [pn_k_sh, w2, if_pos rfl]) (by rw [pn_k_nx, w2]) fun S2 v1 v2 v3 v4 v5 => ?_
  have f2 : frO (fun b => B + 18 ≤ b) S1 S2 := (frO.mk (by show B + 18 ≤ pm_nx S1; omega)).tr v1
  have zf7 : pm_nf 7 = 42 := by decide
  have z2 : pm_sz S2 ≤ 100000 := by rw [pn_k_sz, zf7] at v4; omega
  simp only [pm_tl_none, q145_0, q145_3, q145_4, q145_7, q145_7N, q145_8, q145_11, q145_12, q145_15, q145_15N, q145_16, q145_17, List.nil_append]
  obtain ⟨u1, u2, u3, u4, u5, u6⟩ := w1
  have hC : cI S2 B ([], (fun _ _ => none), []) 1 0 := by
    have e0 := f2 B (by omega)
    have e1 := f2 (B + 1) (by omega)
    refine ⟨cX_frO u1 f2 (fun b q1 q2 q3 => by omega), ⟨by decide, fun j hj => ?_, (fun j hj => by cases hj), ?_, by omega⟩, ?_, ?_, by decide, by decide, Nat.zero_le _, cT_frO u5 f2 (fun b q1 q2 q3 => by omega), cL_frO u6 f2 (fun b q1 q2 q3 => by omega), (fun j hj => by cases hj)⟩
    · rw [e1.2.2.2.2.2.2, u2 j hj, if_neg (by omega)]
    · rw [v3]
    · rw [e0.2.1]; exact u3
    · rw [e0.2.1]; exact u4
  have hs2 : pm_sh S2 b = .inl (9, L) := by rw [(f2 b (by omega)).1, (f1 b (by omega)).1]; exact s0
  refine l_loop (d := 907) (x := B) hb hL (fun S3 k hI => ?_) L 0 S2 (by omega) (by omega) ⟨_, 1, 0, wf_0, hC, v5, by omega, hs2⟩
  obtain ⟨Z, nw, M, hw, hC3, -⟩ := hI
  obtain ⟨c1, -, -, c4, c5⟩ := hC3.2.1
  exact ⟨rfl, by omega, by omega⟩
end
theorem whole_start {p : Program} {e : Env} {s : State} {m : MethodId} {below : List Frame} {meth : Method} {c : Code} (l : Launch) {b L : Nat} {xs : Nat → Int32} (hL : L ≤ 3072) (C0 : lw_At p s m meth c b L xs) : W p l e room_1 s m #[Value.ref b] below meth c s.heap [] 0 0 (lw_Z below #[Value.ref b] s) (entryFrame m ([Value.ref b] : List Value).toArray 4) :=
  pm_whole (pm_goal_of pm_goal2_ok) l hL C0
