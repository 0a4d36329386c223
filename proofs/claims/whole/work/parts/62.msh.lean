/-! ===== the reference: its cells ===== -/
/-- field, place behind the object, type, length -/
def sM_t : List (Nat × Nat × Nat × Nat) := [(1, 1, 0, 24), (2, 2, 0, 24), (3, 3, 0, 24), (4, 4, 0, 24), (5, 5, 0, 24), (6, 6, 2, 24), (7, 7, 0, 24), (8, 8, 0, 24), (9, 9, 0, 24), (10, 10, 1, 960), (11, 11, 0, 960), (12, 12, 0, 960), (13, 13, 0, 2880), (14, 14, 0, 2880), (15, 15, 1, 2880), (16, 16, 0, 2880), (17, 17, 0, 2880), (18, 18, 0, 24), (19, 19, 0, 3840), (20, 20, 0, 3840), (22, 21, 0, 160), (24, 22, 0, 20), (25, 23, 1, 20), (26, 24, 0, 20), (27, 25, 0, 20), (28, 26, 0, 40), (34, 27, 0, 10), (36, 28, 0, 24), (37, 29, 0, 24), (38, 30, 0, 24), (39, 31, 0, 24), (40, 32, 0, 24), (41, 33, 2, 40)]
/-- the reference at m -/
def sM (S : pm_T) (m : Nat) : Prop := pm_sh S m = .inr 7 ∧ ∀ q ∈ sM_t, pm_gr S m q.1 = some (m + q.2.1) ∧ pm_sh S (m + q.2.1) = .inl (q.2.2.1, q.2.2.2)
section
variable {S : pm_T} {m : Nat}
theorem sM_0 (h : sM S m) : pm_sh S m = .inr 7 := h.1
theorem sM_r1 (h : sM S m) : pm_gr S m 1 = some (m + 1) := (h.2 (1, 1, 0, 24) (by decide)).1
theorem sM_s1 (h : sM S m) : pm_sh S (m + 1) = .inl (0, 24) := (h.2 (1, 1, 0, 24) (by decide)).2
theorem sM_r2 (h : sM S m) : pm_gr S m 2 = some (m + 2) := (h.2 (2, 2, 0, 24) (by decide)).1
theorem sM_s2 (h : sM S m) : pm_sh S (m + 2) = .inl (0, 24) := (h.2 (2, 2, 0, 24) (by decide)).2
theorem sM_r3 (h : sM S m) : pm_gr S m 3 = some (m + 3) := (h.2 (3, 3, 0, 24) (by decide)).1
theorem sM_s3 (h : sM S m) : pm_sh S (m + 3) = .inl (0, 24) := (h.2 (3, 3, 0, 24) (by decide)).2
theorem sM_r4 (h : sM S m) : pm_gr S m 4 = some (m + 4) := (h.2 (4, 4, 0, 24) (by decide)).1
theorem sM_s4 (h : sM S m) : pm_sh S (m + 4) = .inl (0, 24) := (h.2 (4, 4, 0, 24) (by decide)).2
theorem sM_r5 (h : sM S m) : pm_gr S m 5 = some (m + 5) := (h.2 (5, 5, 0, 24) (by decide)).1
theorem sM_s5 (h : sM S m) : pm_sh S (m + 5) = .inl (0, 24) := (h.2 (5, 5, 0, 24) (by decide)).2
theorem sM_r6 (h : sM S m) : pm_gr S m 6 = some (m + 6) := (h.2 (6, 6, 2, 24) (by decide)).1
theorem sM_s6 (h : sM S m) : pm_sh S (m + 6) = .inl (2, 24) := (h.2 (6, 6, 2, 24) (by decide)).2
theorem sM_r7 (h : sM S m) : pm_gr S m 7 = some (m + 7) := (h.2 (7, 7, 0, 24) (by decide)).1
theorem sM_s7 (h : sM S m) : pm_sh S (m + 7) = .inl (0, 24) := (h.2 (7, 7, 0, 24) (by decide)).2
theorem sM_r8 (h : sM S m) : pm_gr S m 8 = some (m + 8) := (h.2 (8, 8, 0, 24) (by decide)).1
theorem sM_s8 (h : sM S m) : pm_sh S (m + 8) = .inl (0, 24) := (h.2 (8, 8, 0, 24) (by decide)).2
theorem sM_r9 (h : sM S m) : pm_gr S m 9 = some (m + 9) := (h.2 (9, 9, 0, 24) (by decide)).1
theorem sM_s9 (h : sM S m) : pm_sh S (m + 9) = .inl (0, 24) := (h.2 (9, 9, 0, 24) (by decide)).2
theorem sM_r10 (h : sM S m) : pm_gr S m 10 = some (m + 10) := (h.2 (10, 10, 1, 960) (by decide)).1
theorem sM_s10 (h : sM S m) : pm_sh S (m + 10) = .inl (1, 960) := (h.2 (10, 10, 1, 960) (by decide)).2
theorem sM_r11 (h : sM S m) : pm_gr S m 11 = some (m + 11) := (h.2 (11, 11, 0, 960) (by decide)).1
theorem sM_s11 (h : sM S m) : pm_sh S (m + 11) = .inl (0, 960) := (h.2 (11, 11, 0, 960) (by decide)).2
theorem sM_r12 (h : sM S m) : pm_gr S m 12 = some (m + 12) := (h.2 (12, 12, 0, 960) (by decide)).1
theorem sM_s12 (h : sM S m) : pm_sh S (m + 12) = .inl (0, 960) := (h.2 (12, 12, 0, 960) (by decide)).2
theorem sM_r13 (h : sM S m) : pm_gr S m 13 = some (m + 13) := (h.2 (13, 13, 0, 2880) (by decide)).1
theorem sM_s13 (h : sM S m) : pm_sh S (m + 13) = .inl (0, 2880) := (h.2 (13, 13, 0, 2880) (by decide)).2
theorem sM_r14 (h : sM S m) : pm_gr S m 14 = some (m + 14) := (h.2 (14, 14, 0, 2880) (by decide)).1
theorem sM_s14 (h : sM S m) : pm_sh S (m + 14) = .inl (0, 2880) := (h.2 (14, 14, 0, 2880) (by decide)).2
theorem sM_r15 (h : sM S m) : pm_gr S m 15 = some (m + 15) := (h.2 (15, 15, 1, 2880) (by decide)).1
theorem sM_s15 (h : sM S m) : pm_sh S (m + 15) = .inl (1, 2880) := (h.2 (15, 15, 1, 2880) (by decide)).2
theorem sM_r16 (h : sM S m) : pm_gr S m 16 = some (m + 16) := (h.2 (16, 16, 0, 2880) (by decide)).1
theorem sM_s16 (h : sM S m) : pm_sh S (m + 16) = .inl (0, 2880) := (h.2 (16, 16, 0, 2880) (by decide)).2
theorem sM_r17 (h : sM S m) : pm_gr S m 17 = some (m + 17) := (h.2 (17, 17, 0, 2880) (by decide)).1
theorem sM_s17 (h : sM S m) : pm_sh S (m + 17) = .inl (0, 2880) := (h.2 (17, 17, 0, 2880) (by decide)).2
theorem sM_r18 (h : sM S m) : pm_gr S m 18 = some (m + 18) := (h.2 (18, 18, 0, 24) (by decide)).1
theorem sM_s18 (h : sM S m) : pm_sh S (m + 18) = .inl (0, 24) := (h.2 (18, 18, 0, 24) (by decide)).2
theorem sM_r19 (h : sM S m) : pm_gr S m 19 = some (m + 19) := (h.2 (19, 19, 0, 3840) (by decide)).1
theorem sM_s19 (h : sM S m) : pm_sh S (m + 19) = .inl (0, 3840) := (h.2 (19, 19, 0, 3840) (by decide)).2
theorem sM_r20 (h : sM S m) : pm_gr S m 20 = some (m + 20) := (h.2 (20, 20, 0, 3840) (by decide)).1
theorem sM_s20 (h : sM S m) : pm_sh S (m + 20) = .inl (0, 3840) := (h.2 (20, 20, 0, 3840) (by decide)).2
theorem sM_r22 (h : sM S m) : pm_gr S m 22 = some (m + 21) := (h.2 (22, 21, 0, 160) (by decide)).1
theorem sM_s21 (h : sM S m) : pm_sh S (m + 21) = .inl (0, 160) := (h.2 (22, 21, 0, 160) (by decide)).2
theorem sM_r24 (h : sM S m) : pm_gr S m 24 = some (m + 22) := (h.2 (24, 22, 0, 20) (by decide)).1
theorem sM_s22 (h : sM S m) : pm_sh S (m + 22) = .inl (0, 20) := (h.2 (24, 22, 0, 20) (by decide)).2
theorem sM_r25 (h : sM S m) : pm_gr S m 25 = some (m + 23) := (h.2 (25, 23, 1, 20) (by decide)).1
theorem sM_s23 (h : sM S m) : pm_sh S (m + 23) = .inl (1, 20) := (h.2 (25, 23, 1, 20) (by decide)).2
theorem sM_r26 (h : sM S m) : pm_gr S m 26 = some (m + 24) := (h.2 (26, 24, 0, 20) (by decide)).1
theorem sM_s24 (h : sM S m) : pm_sh S (m + 24) = .inl (0, 20) := (h.2 (26, 24, 0, 20) (by decide)).2
theorem sM_r27 (h : sM S m) : pm_gr S m 27 = some (m + 25) := (h.2 (27, 25, 0, 20) (by decide)).1
theorem sM_s25 (h : sM S m) : pm_sh S (m + 25) = .inl (0, 20) := (h.2 (27, 25, 0, 20) (by decide)).2
theorem sM_r28 (h : sM S m) : pm_gr S m 28 = some (m + 26) := (h.2 (28, 26, 0, 40) (by decide)).1
theorem sM_s26 (h : sM S m) : pm_sh S (m + 26) = .inl (0, 40) := (h.2 (28, 26, 0, 40) (by decide)).2
theorem sM_r34 (h : sM S m) : pm_gr S m 34 = some (m + 27) := (h.2 (34, 27, 0, 10) (by decide)).1
theorem sM_s27 (h : sM S m) : pm_sh S (m + 27) = .inl (0, 10) := (h.2 (34, 27, 0, 10) (by decide)).2
theorem sM_r36 (h : sM S m) : pm_gr S m 36 = some (m + 28) := (h.2 (36, 28, 0, 24) (by decide)).1
theorem sM_s28 (h : sM S m) : pm_sh S (m + 28) = .inl (0, 24) := (h.2 (36, 28, 0, 24) (by decide)).2
theorem sM_r37 (h : sM S m) : pm_gr S m 37 = some (m + 29) := (h.2 (37, 29, 0, 24) (by decide)).1
theorem sM_s29 (h : sM S m) : pm_sh S (m + 29) = .inl (0, 24) := (h.2 (37, 29, 0, 24) (by decide)).2
theorem sM_r38 (h : sM S m) : pm_gr S m 38 = some (m + 30) := (h.2 (38, 30, 0, 24) (by decide)).1
theorem sM_s30 (h : sM S m) : pm_sh S (m + 30) = .inl (0, 24) := (h.2 (38, 30, 0, 24) (by decide)).2
theorem sM_r39 (h : sM S m) : pm_gr S m 39 = some (m + 31) := (h.2 (39, 31, 0, 24) (by decide)).1
theorem sM_s31 (h : sM S m) : pm_sh S (m + 31) = .inl (0, 24) := (h.2 (39, 31, 0, 24) (by decide)).2
theorem sM_r40 (h : sM S m) : pm_gr S m 40 = some (m + 32) := (h.2 (40, 32, 0, 24) (by decide)).1
theorem sM_s32 (h : sM S m) : pm_sh S (m + 32) = .inl (0, 24) := (h.2 (40, 32, 0, 24) (by decide)).2
theorem sM_r41 (h : sM S m) : pm_gr S m 41 = some (m + 33) := (h.2 (41, 33, 2, 40) (by decide)).1
theorem sM_s33 (h : sM S m) : pm_sh S (m + 33) = .inl (2, 40) := (h.2 (41, 33, 2, 40) (by decide)).2
end
