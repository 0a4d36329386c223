/-! ===== the reference: leaves ===== -/
theorem sp_in {g : Int32} {G : Nat} (hG : G < 2 ^ 30) : (0 ≤ g ∧ g ≤ nI G - 1) ↔ ∃ j, j < G ∧ g = nI j := by
  constructor
  · rintro ⟨h1, h2⟩
    have e0 : ¬ g < 0 := k2_nlt h1
    obtain ⟨j, hj, rfl⟩ := nI_of e0
    refine ⟨j, ?_, rfl⟩
    rw [Int32.le_iff_toInt_le] at h2
    have e1 := pk_sub_toInt (a := G) (b := 1) hG (by decide)
    rw [show nI 1 = 1 by decide] at e1
    rw [e1, nI_toInt hj] at h2
    omega
  · rintro ⟨j, hj, rfl⟩
    refine ⟨nI_pos' (by omega), ?_⟩
    rw [Int32.le_iff_toInt_le]
    have e1 := pk_sub_toInt (a := G) (b := 1) hG (by decide)
    rw [show nI 1 = 1 by decide] at e1
    rw [e1, nI_toInt (by omega)]
    omega
section
variable {d m : Nat} {S : pm_T} {Q : Option Value → pm_T → Prop} {g i x y lo hi : Int32} {v : Int64} {G : Nat}
theorem m_in : pm_N d 88 [.int x, .int lo, .int hi] S Q = Q (some (.int (if lo ≤ x ∧ x ≤ hi then 1 else 0))) S := by
  simp only [q88_0, q88_1, q88_2, q88_5, q88_6, q88_7, q88_10, q88_11, q88_14, q88_15, q88_e, or_true, true_or]
  by_cases h1 : x < lo
  · rw [if_pos h1, if_neg (fun h => k2_nlt h.1 h1)]
  · rw [if_neg h1]
    by_cases h2 : x ≤ hi
    · rw [if_pos h2, if_pos ⟨k2_le h1, h2⟩]
    · rw [if_neg h2, if_neg (fun h => h2 h.2)]
theorem m_isGraph (hM : sM S m) : pm_N (d + 1) 89 [.ref m, .int g] S Q = Q (some (.int (if 0 ≤ g ∧ g ≤ pm_gi S m 0 - 1 then 1 else 0))) S := by
  simp only [q89_0, q89_1, q89_2, q89_3, q89_6, q89_7, q89_8, q89_11, q89_e, sM_0 hM, m_in, pm_tl_some, pm_b01]
theorem m_isTest (hM : sM S m) : pm_N (d + 1) 92 [.ref m, .int g] S Q = Q (some (.int (if 0 ≤ g ∧ g ≤ pm_gi S m 23 - 1 then 1 else 0))) S := by
  simp only [q92_0, q92_1, q92_2, q92_3, q92_6, q92_7, q92_8, q92_11, q92_e, sM_0 hM, m_in, pm_tl_some, pm_b01]
end
