/-! ===== the reference: leaves ===== -/
theorem sp_in {g : Int32} {G : Nat} (hG : G < 2 ^ 30) : (0 ≤ g ∧ g ≤ nI G - 1) ↔ ∃ j, j < G ∧ g = nI j := by
  constructor
  · rintro ⟨h1, h2⟩
    have e0 : ¬ g < 0 := k2_nlt h1
    obtain ⟨j, hj, rfl⟩ := nI_of e0
    refine ⟨j, ?_, rfl⟩
    rw [Int32.le_iff_toInt_le] at h2
    have e1 := pk_sub_toInt (a := G) (b := 1) hG (by decide)
    rw [show nI 1 = 1 by decide] at e1
    rw [e1, nI_toInt hj] at h2
    omega
  · rintro ⟨j, hj, rfl⟩
    refine ⟨nI_pos' (by omega), ?_⟩
    rw [Int32.le_iff_toInt_le]
    have e1 := pk_sub_toInt (a := G) (b := 1) hG (by decide)
    rw [show nI 1 = 1 by decide] at e1
    rw [e1, nI_toInt (by omega)]
    omega
section
variable {d m : Nat} {S : pm_T} {Q : Option Value → pm_T → Prop} {g i x y lo hi : Int32} {v : Int64} {G : Nat}
theorem m_in : pm_N d 87 [.int x, .int lo, .int hi] S Q = Q (some (.int (if lo ≤ x ∧ x ≤ hi then 1 else 0))) S := by
  simp only [q87_0, q87_1, q87_2, q87_5, q87_6, q87_7, q87_10, q87_11, q87_14, q87_15, q87_e, or_true, true_or]
  by_cases h1 : x < lo
  · rw [if_pos h1, if_neg (fun h => k2_nlt h.1 h1)]
  · rw [if_neg h1]
    by_cases h2 : x ≤ hi
    · rw [if_pos h2, if_pos ⟨k2_le h1, h2⟩]
    · rw [if_neg h2, if_neg (fun h => h2 h.2)]
theorem m_isGraph (hM : sM S m) : pm_N (d + 1) 88 [.ref m, .int g] S Q = Q (some (.int (if 0 ≤ g ∧ g ≤ pm_gi S m 0 - 1 then 1 else 0))) S := by
  simp only [q88_0, q88_1, q88_2, q88_3, q88_6, q88_7, q88_8, q88_11, q88_e, sM_0 hM, m_in, pm_tl_some, pm_b01]
theorem m_isTest (hM : sM S m) : pm_N (d + 1) 91 [.ref m, .int g] S Q = Q (some (.int (if 0 ≤ g ∧ g ≤ pm_gi S m 23 - 1 then 1 else 0))) S := by
  simp only [q91_0, q91_1, q91_2, q91_3, q91_6, q91_7, q91_8, q91_11, q91_e, sM_0 hM, m_in, pm_tl_some, pm_b01]
end
