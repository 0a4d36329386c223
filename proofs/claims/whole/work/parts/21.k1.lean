section
variable {d : Nat} {S : pm_T} {Q : Option Value → pm_T → Prop} {an r0n r1n r2n r3n r4n r5n v0n v1n v2n vn xn yn : Nat} {ki r0i r1i r2i r3i r4i v0i v1i v2i v3i v4i v5i vi xi yi : Int32} {l0 l1 l10 l2 l3 l4 l5 l6 l7 l8 l9 v0v v1v v2v : Value} {r0j r1j v0j v1j v2j v3j vj xj yj : Int64} {st : List Value}
/-! 25: ViewsJoins$Reckoner.reckon(LViewsJoins$Graph;)V -/
theorem dX4_reckon_0 : decode cX4_reckon 0 = .ok (.aload_n 1, 1) := by decide +kernel
theorem dX4_reckon_1 : decode cX4_reckon 1 = .ok (.getfield 38, 3) := by decide +kernel
theorem dX4_reckon_4 : decode cX4_reckon 4 = .ok (.astore_n 2, 1) := by decide +kernel
theorem dX4_reckon_5 : decode cX4_reckon 5 = .ok (.aload_n 1, 1) := by decide +kernel
theorem dX4_reckon_6 : decode cX4_reckon 6 = .ok (.getfield 44, 3) := by decide +kernel
theorem dX4_reckon_9 : decode cX4_reckon 9 = .ok (.astore_n 3, 1) := by decide +kernel
theorem dX4_reckon_10 : decode cX4_reckon 10 = .ok (.aload_n 2, 1) := by decide +kernel
theorem dX4_reckon_11 : decode cX4_reckon 11 = .ok (.ifnull 7, 3) := by decide +kernel
theorem dX4_reckon_14 : decode cX4_reckon 14 = .ok (.aload_n 3, 1) := by decide +kernel
theorem dX4_reckon_15 : decode cX4_reckon 15 = .ok (.ifnonnull 4, 3) := by decide +kernel
theorem dX4_reckon_18 : decode cX4_reckon 18 = .ok (.return_, 1) := by decide +kernel
theorem dX4_reckon_19 : decode cX4_reckon 19 = .ok (.aload_n 1, 1) := by decide +kernel
theorem dX4_reckon_20 : decode cX4_reckon 20 = .ok (.invokevirtual 47, 3) := by decide +kernel
theorem dX4_reckon_23 : decode cX4_reckon 23 = .ok (.aload_n 1, 1) := by decide +kernel
theorem dX4_reckon_24 : decode cX4_reckon 24 = .ok (.aload_n 2, 1) := by decide +kernel
theorem dX4_reckon_25 : decode cX4_reckon 25 = .ok (.getfield 50, 3) := by decide +kernel
theorem dX4_reckon_28 : decode cX4_reckon 28 = .ok (.ifCond .eq 10, 3) := by decide +kernel
theorem dX4_reckon_31 : decode cX4_reckon 31 = .ok (.aload_n 2, 1) := by decide +kernel
theorem dX4_reckon_32 : decode cX4_reckon 32 = .ok (.getfield 50, 3) := by decide +kernel
theorem dX4_reckon_35 : decode cX4_reckon 35 = .ok (.goto 7, 3) := by decide +kernel
theorem dX4_reckon_38 : decode cX4_reckon 38 = .ok (.aload_n 3, 1) := by decide +kernel
theorem dX4_reckon_39 : decode cX4_reckon 39 = .ok (.getfield 50, 3) := by decide +kernel
theorem dX4_reckon_42 : decode cX4_reckon 42 = .ok (.putfield 50, 3) := by decide +kernel
theorem dX4_reckon_45 : decode cX4_reckon 45 = .ok (.aload_n 1, 1) := by decide +kernel
theorem dX4_reckon_46 : decode cX4_reckon 46 = .ok (.getfield 50, 3) := by decide +kernel
theorem dX4_reckon_49 : decode cX4_reckon 49 = .ok (.ifCond .eq 4, 3) := by decide +kernel
theorem dX4_reckon_52 : decode cX4_reckon 52 = .ok (.return_, 1) := by decide +kernel
theorem dX4_reckon_53 : decode cX4_reckon 53 = .ok (.aload_n 1, 1) := by decide +kernel
theorem dX4_reckon_54 : decode cX4_reckon 54 = .ok (.getfield 54, 3) := by decide +kernel
theorem dX4_reckon_57 : decode cX4_reckon 57 = .ok (.tableswitch 134 1 7 #[43, 65, 73, 83, 102, 111, 119], 43) := by decide +kernel
theorem dX4_reckon_100 : decode cX4_reckon 100 = .ok (.aload_n 0, 1) := by decide +kernel
theorem dX4_reckon_101 : decode cX4_reckon 101 = .ok (.getfield 12, 3) := by decide +kernel
theorem dX4_reckon_104 : decode cX4_reckon 104 = .ok (.invokevirtual 57, 3) := by decide +kernel
theorem dX4_reckon_107 : decode cX4_reckon 107 = .ok (.aload_n 0, 1) := by decide +kernel
theorem dX4_reckon_108 : decode cX4_reckon 108 = .ok (.aload_n 1, 1) := by decide +kernel
theorem dX4_reckon_109 : decode cX4_reckon 109 = .ok (.aload_n 2, 1) := by decide +kernel
theorem dX4_reckon_110 : decode cX4_reckon 110 = .ok (.invokevirtual 60, 3) := by decide +kernel
theorem dX4_reckon_113 : decode cX4_reckon 113 = .ok (.aload_n 0, 1) := by decide +kernel
theorem dX4_reckon_114 : decode cX4_reckon 114 = .ok (.aload_n 1, 1) := by decide +kernel
theorem dX4_reckon_115 : decode cX4_reckon 115 = .ok (.aload_n 2, 1) := by decide +kernel
theorem dX4_reckon_116 : decode cX4_reckon 116 = .ok (.invokevirtual 64, 3) := by decide +kernel
theorem dX4_reckon_119 : decode cX4_reckon 119 = .ok (.goto 72, 3) := by decide +kernel
theorem dX4_reckon_122 : decode cX4_reckon 122 = .ok (.aload_n 1, 1) := by decide +kernel
theorem dX4_reckon_123 : decode cX4_reckon 123 = .ok (.aload_n 2, 1) := by decide +kernel
theorem dX4_reckon_124 : decode cX4_reckon 124 = .ok (.invokestatic 67, 3) := by decide +kernel
theorem dX4_reckon_127 : decode cX4_reckon 127 = .ok (.goto 64, 3) := by decide +kernel
theorem dX4_reckon_130 : decode cX4_reckon 130 = .ok (.aload_n 0, 1) := by decide +kernel
theorem dX4_reckon_131 : decode cX4_reckon 131 = .ok (.aload_n 1, 1) := by decide +kernel
theorem dX4_reckon_132 : decode cX4_reckon 132 = .ok (.aload_n 2, 1) := by decide +kernel
theorem dX4_reckon_133 : decode cX4_reckon 133 = .ok (.aload_n 3, 1) := by decide +kernel
theorem dX4_reckon_134 : decode cX4_reckon 134 = .ok (.invokevirtual 70, 3) := by decide +kernel
theorem dX4_reckon_137 : decode cX4_reckon 137 = .ok (.goto 54, 3) := by decide +kernel
theorem dX4_reckon_140 : decode cX4_reckon 140 = .ok (.aload_n 1, 1) := by decide +kernel
theorem dX4_reckon_141 : decode cX4_reckon 141 = .ok (.aload_n 2, 1) := by decide +kernel
theorem dX4_reckon_142 : decode cX4_reckon 142 = .ok (.invokestatic 74, 3) := by decide +kernel
theorem dX4_reckon_145 : decode cX4_reckon 145 = .ok (.aload_n 0, 1) := by decide +kernel
theorem dX4_reckon_146 : decode cX4_reckon 146 = .ok (.aload_n 3, 1) := by decide +kernel
theorem dX4_reckon_147 : decode cX4_reckon 147 = .ok (.invokevirtual 77, 3) := by decide +kernel
theorem dX4_reckon_150 : decode cX4_reckon 150 = .ok (.aload_n 0, 1) := by decide +kernel
theorem dX4_reckon_151 : decode cX4_reckon 151 = .ok (.aload_n 1, 1) := by decide +kernel
theorem dX4_reckon_152 : decode cX4_reckon 152 = .ok (.aload_n 2, 1) := by decide +kernel
theorem dX4_reckon_153 : decode cX4_reckon 153 = .ok (.invokevirtual 81, 3) := by decide +kernel
theorem dX4_reckon_156 : decode cX4_reckon 156 = .ok (.goto 35, 3) := by decide +kernel
theorem dX4_reckon_159 : decode cX4_reckon 159 = .ok (.aload_n 1, 1) := by decide +kernel
theorem dX4_reckon_160 : decode cX4_reckon 160 = .ok (.aload_n 2, 1) := by decide +kernel
theorem dX4_reckon_161 : decode cX4_reckon 161 = .ok (.aload_n 3, 1) := by decide +kernel
theorem dX4_reckon_162 : decode cX4_reckon 162 = .ok (.invokestatic 84, 3) := by decide +kernel
theorem dX4_reckon_165 : decode cX4_reckon 165 = .ok (.goto 26, 3) := by decide +kernel
theorem dX4_reckon_168 : decode cX4_reckon 168 = .ok (.aload_n 1, 1) := by decide +kernel
theorem dX4_reckon_169 : decode cX4_reckon 169 = .ok (.aload_n 2, 1) := by decide +kernel
theorem dX4_reckon_170 : decode cX4_reckon 170 = .ok (.invokestatic 87, 3) := by decide +kernel
theorem dX4_reckon_173 : decode cX4_reckon 173 = .ok (.goto 18, 3) := by decide +kernel
theorem dX4_reckon_176 : decode cX4_reckon 176 = .ok (.aload_n 0, 1) := by decide +kernel
theorem dX4_reckon_177 : decode cX4_reckon 177 = .ok (.aload_n 1, 1) := by decide +kernel
theorem dX4_reckon_178 : decode cX4_reckon 178 = .ok (.aload_n 2, 1) := by decide +kernel
theorem dX4_reckon_179 : decode cX4_reckon 179 = .ok (.invokevirtual 90, 3) := by decide +kernel
theorem dX4_reckon_182 : decode cX4_reckon 182 = .ok (.aload_n 0, 1) := by decide +kernel
theorem dX4_reckon_183 : decode cX4_reckon 183 = .ok (.aload_n 1, 1) := by decide +kernel
theorem dX4_reckon_184 : decode cX4_reckon 184 = .ok (.aload_n 2, 1) := by decide +kernel
theorem dX4_reckon_185 : decode cX4_reckon 185 = .ok (.invokevirtual 93, 3) := by decide +kernel
theorem dX4_reckon_188 : decode cX4_reckon 188 = .ok (.goto 3, 3) := by decide +kernel
theorem dX4_reckon_191 : decode cX4_reckon 191 = .ok (.return_, 1) := by decide +kernel
theorem q25_0 : pm_V d 25 0 [l0, .ref xn, l2, l3] st S Q = pm_V d 25 1 [l0, .ref xn, l2, l3] (.ref xn :: st) S Q := pv_aload_n (pm_cdi rfl dX4_reckon_0) rfl
theorem q25_0N : pm_V d 25 0 [l0, .null, l2, l3] st S Q = pm_V d 25 1 [l0, .null, l2, l3] (.null :: st) S Q := pv_aload_nN (pm_cdi rfl dX4_reckon_0) rfl
theorem q25_1 (hs : pm_sh S an = .inr 0) : pm_V d 25 1 [l0, l1, l2, l3] (.ref an :: st) S Q = pm_V d 25 4 [l0, l1, l2, l3] (va_rf (pm_gr S an 7) :: st) S Q := pv_getA (pm_cdi rfl dX4_reckon_1) (by decide +kernel) (by decide +kernel) (by decide +kernel) hs
theorem q25_4 : pm_V d 25 4 [l0, .ref yn, l2, l3] (.ref xn :: st) S Q = pm_V d 25 5 [l0, .ref yn, .ref xn, l3] st S Q := pv_astore_n (pm_cdi rfl dX4_reckon_4) rfl
theorem q25_4N : pm_V d 25 4 [l0, .ref yn, l2, l3] (.null :: st) S Q = pm_V d 25 5 [l0, .ref yn, .null, l3] st S Q := pv_astore_nN (pm_cdi rfl dX4_reckon_4) rfl
theorem q25_5 : pm_V d 25 5 [l0, .ref xn, l2, l3] st S Q = pm_V d 25 6 [l0, .ref xn, l2, l3] (.ref xn :: st) S Q := pv_aload_n (pm_cdi rfl dX4_reckon_5) rfl
theorem q25_5N : pm_V d 25 5 [l0, .null, l2, l3] st S Q = pm_V d 25 6 [l0, .null, l2, l3] (.null :: st) S Q := pv_aload_nN (pm_cdi rfl dX4_reckon_5) rfl
theorem q25_6 (hs : pm_sh S an = .inr 0) : pm_V d 25 6 [l0, l1, l2, l3] (.ref an :: st) S Q = pm_V d 25 9 [l0, l1, l2, l3] (va_rf (pm_gr S an 8) :: st) S Q := pv_getA (pm_cdi rfl dX4_reckon_6) (by decide +kernel) (by decide +kernel) (by decide +kernel) hs
theorem q25_9 : pm_V d 25 9 [l0, l1, .ref yn, l3] (.ref xn :: st) S Q = pm_V d 25 10 [l0, l1, .ref yn, .ref xn] st S Q := pv_astore_n (pm_cdi rfl dX4_reckon_9) rfl
theorem q25_9N : pm_V d 25 9 [l0, l1, .ref yn, l3] (.null :: st) S Q = pm_V d 25 10 [l0, l1, .ref yn, .null] st S Q := pv_astore_nN (pm_cdi rfl dX4_reckon_9) rfl
theorem q25_10 : pm_V d 25 10 [l0, l1, .ref xn, l3] st S Q = pm_V d 25 11 [l0, l1, .ref xn, l3] (.ref xn :: st) S Q := pv_aload_n (pm_cdi rfl dX4_reckon_10) rfl
theorem q25_10N : pm_V d 25 10 [l0, l1, .null, l3] st S Q = pm_V d 25 11 [l0, l1, .null, l3] (.null :: st) S Q := pv_aload_nN (pm_cdi rfl dX4_reckon_10) rfl
theorem q25_11 : pm_V d 25 11 [l0, l1, l2, l3] (.ref xn :: st) S Q = pm_V d 25 14 [l0, l1, l2, l3] st S Q := pv_ifnullA (pm_cdi rfl dX4_reckon_11)
theorem q25_11N : pm_V d 25 11 [l0, l1, l2, l3] (.null :: st) S Q = pm_V d 25 18 [l0, l1, l2, l3] st S Q := pv_ifnullN (pm_cdi rfl dX4_reckon_11) rfl
theorem q25_14 : pm_V d 25 14 [l0, l1, l2, .ref xn] st S Q = pm_V d 25 15 [l0, l1, l2, .ref xn] (.ref xn :: st) S Q := pv_aload_n (pm_cdi rfl dX4_reckon_14) rfl
theorem q25_14N : pm_V d 25 14 [l0, l1, l2, .null] st S Q = pm_V d 25 15 [l0, l1, l2, .null] (.null :: st) S Q := pv_aload_nN (pm_cdi rfl dX4_reckon_14) rfl
theorem q25_15 : pm_V d 25 15 [l0, l1, l2, l3] (.ref xn :: st) S Q = pm_V d 25 19 [l0, l1, l2, l3] st S Q := pv_ifnonA (pm_cdi rfl dX4_reckon_15) rfl
theorem q25_15N : pm_V d 25 15 [l0, l1, l2, l3] (.null :: st) S Q = pm_V d 25 18 [l0, l1, l2, l3] st S Q := pv_ifnonN (pm_cdi rfl dX4_reckon_15)
theorem q25_18 : pm_V d 25 18 [l0, l1, l2, l3] [] S Q = Q none S := pv_rV (pm_cdi rfl dX4_reckon_18) (by decide +kernel)
theorem q25_19 : pm_V d 25 19 [l0, .ref xn, l2, l3] st S Q = pm_V d 25 20 [l0, .ref xn, l2, l3] (.ref xn :: st) S Q := pv_aload_n (pm_cdi rfl dX4_reckon_19) rfl
theorem q25_19N : pm_V d 25 19 [l0, .null, l2, l3] st S Q = pm_V d 25 20 [l0, .null, l2, l3] (.null :: st) S Q := pv_aload_nN (pm_cdi rfl dX4_reckon_19) rfl
theorem q25_20 (hs : pm_sh S an = .inr 0) : pm_V (d + 1) 25 20 [l0, l1, l2, l3] [.ref an] S Q = pm_N d 3 [.ref an] S (fun r S' => pm_V (d + 1) 25 23 [l0, l1, l2, l3] (r.toList ++ []) S' Q) := pv_callV (as := []) (pm_cdi rfl dX4_reckon_20) (Or.inl (by decide +kernel)) (by decide +kernel) (show _ = _ from (by decide +kernel : 0 = pm_np 3)) rfl (Nat.le_of_ble_eq_true rfl) (cl := 0) (by decide +kernel) hs
theorem q25_23 : pm_V d 25 23 [l0, .ref xn, l2, l3] st S Q = pm_V d 25 24 [l0, .ref xn, l2, l3] (.ref xn :: st) S Q := pv_aload_n (pm_cdi rfl dX4_reckon_23) rfl
theorem q25_23N : pm_V d 25 23 [l0, .null, l2, l3] st S Q = pm_V d 25 24 [l0, .null, l2, l3] (.null :: st) S Q := pv_aload_nN (pm_cdi rfl dX4_reckon_23) rfl
theorem q25_24 : pm_V d 25 24 [l0, l1, .ref xn, l3] st S Q = pm_V d 25 25 [l0, l1, .ref xn, l3] (.ref xn :: st) S Q := pv_aload_n (pm_cdi rfl dX4_reckon_24) rfl
theorem q25_24N : pm_V d 25 24 [l0, l1, .null, l3] st S Q = pm_V d 25 25 [l0, l1, .null, l3] (.null :: st) S Q := pv_aload_nN (pm_cdi rfl dX4_reckon_24) rfl
theorem q25_25 (hs : pm_sh S an = .inr 0) : pm_V d 25 25 [l0, l1, l2, l3] (.ref an :: st) S Q = pm_V d 25 28 [l0, l1, l2, l3] (.int (pm_gi S an 5) :: st) S Q := pv_getI (pm_cdi rfl dX4_reckon_25) (by decide +kernel) (by decide +kernel) (by decide +kernel) hs
theorem q25_28 : pm_V d 25 28 [l0, l1, l2, l3] (.int xi :: st) S Q = if xi = 0 then pm_V d 25 38 [l0, l1, l2, l3] st S Q else pm_V d 25 31 [l0, l1, l2, l3] st S Q := pv_if_eq (pm_cdi rfl dX4_reckon_28) rfl
theorem q25_31 : pm_V d 25 31 [l0, l1, .ref xn, l3] st S Q = pm_V d 25 32 [l0, l1, .ref xn, l3] (.ref xn :: st) S Q := pv_aload_n (pm_cdi rfl dX4_reckon_31) rfl
theorem q25_31N : pm_V d 25 31 [l0, l1, .null, l3] st S Q = pm_V d 25 32 [l0, l1, .null, l3] (.null :: st) S Q := pv_aload_nN (pm_cdi rfl dX4_reckon_31) rfl
theorem q25_32 (hs : pm_sh S an = .inr 0) : pm_V d 25 32 [l0, l1, l2, l3] (.ref an :: st) S Q = pm_V d 25 35 [l0, l1, l2, l3] (.int (pm_gi S an 5) :: st) S Q := pv_getI (pm_cdi rfl dX4_reckon_32) (by decide +kernel) (by decide +kernel) (by decide +kernel) hs
theorem q25_35 : pm_V d 25 35 [l0, l1, l2, l3] st S Q = pm_V d 25 42 [l0, l1, l2, l3] st S Q := pv_goto (pm_cdi rfl dX4_reckon_35) rfl
theorem q25_38 : pm_V d 25 38 [l0, l1, l2, .ref xn] st S Q = pm_V d 25 39 [l0, l1, l2, .ref xn] (.ref xn :: st) S Q := pv_aload_n (pm_cdi rfl dX4_reckon_38) rfl
theorem q25_38N : pm_V d 25 38 [l0, l1, l2, .null] st S Q = pm_V d 25 39 [l0, l1, l2, .null] (.null :: st) S Q := pv_aload_nN (pm_cdi rfl dX4_reckon_38) rfl
theorem q25_39 (hs : pm_sh S an = .inr 0) : pm_V d 25 39 [l0, l1, l2, l3] (.ref an :: st) S Q = pm_V d 25 42 [l0, l1, l2, l3] (.int (pm_gi S an 5) :: st) S Q := pv_getI (pm_cdi rfl dX4_reckon_39) (by decide +kernel) (by decide +kernel) (by decide +kernel) hs
theorem q25_42 (hs : pm_sh S an = .inr 0) : pm_V d 25 42 [l0, l1, l2, l3] (.int xi :: .ref an :: st) S Q = pm_V d 25 45 [l0, l1, l2, l3] st (pm_sgi S an 5 xi) Q := pv_putI (pm_cdi rfl dX4_reckon_42) (by decide +kernel) (by decide +kernel) (by decide +kernel) hs
theorem q25_45 : pm_V d 25 45 [l0, .ref xn, l2, l3] st S Q = pm_V d 25 46 [l0, .ref xn, l2, l3] (.ref xn :: st) S Q := pv_aload_n (pm_cdi rfl dX4_reckon_45) rfl
theorem q25_45N : pm_V d 25 45 [l0, .null, l2, l3] st S Q = pm_V d 25 46 [l0, .null, l2, l3] (.null :: st) S Q := pv_aload_nN (pm_cdi rfl dX4_reckon_45) rfl
theorem q25_46 (hs : pm_sh S an = .inr 0) : pm_V d 25 46 [l0, l1, l2, l3] (.ref an :: st) S Q = pm_V d 25 49 [l0, l1, l2, l3] (.int (pm_gi S an 5) :: st) S Q := pv_getI (pm_cdi rfl dX4_reckon_46) (by decide +kernel) (by decide +kernel) (by decide +kernel) hs
theorem q25_49 : pm_V d 25 49 [l0, l1, l2, l3] (.int xi :: st) S Q = if xi = 0 then pm_V d 25 53 [l0, l1, l2, l3] st S Q else pm_V d 25 52 [l0, l1, l2, l3] st S Q := pv_if_eq (pm_cdi rfl dX4_reckon_49) rfl
theorem q25_52 : pm_V d 25 52 [l0, l1, l2, l3] [] S Q = Q none S := pv_rV (pm_cdi rfl dX4_reckon_52) (by decide +kernel)
theorem q25_53 : pm_V d 25 53 [l0, .ref xn, l2, l3] st S Q = pm_V d 25 54 [l0, .ref xn, l2, l3] (.ref xn :: st) S Q := pv_aload_n (pm_cdi rfl dX4_reckon_53) rfl
theorem q25_53N : pm_V d 25 53 [l0, .null, l2, l3] st S Q = pm_V d 25 54 [l0, .null, l2, l3] (.null :: st) S Q := pv_aload_nN (pm_cdi rfl dX4_reckon_53) rfl
theorem q25_54 (hs : pm_sh S an = .inr 0) : pm_V d 25 54 [l0, l1, l2, l3] (.ref an :: st) S Q = pm_V d 25 57 [l0, l1, l2, l3] (.int (pm_gi S an 6) :: st) S Q := pv_getI (pm_cdi rfl dX4_reckon_54) (by decide +kernel) (by decide +kernel) (by decide +kernel) hs
theorem q25_57 : pm_V d 25 57 [l0, l1, l2, l3] (.int xi :: st) S Q = pm_V d 25 (pm_tsw xi 1 [100, 122, 130, 140, 159, 168, 176] 191) [l0, l1, l2, l3] st S Q := pv_tsw (pm_cdi rfl dX4_reckon_57) (by decide +kernel) rfl (by decide +kernel)
theorem q25_100 : pm_V d 25 100 [.ref xn, l1, l2, l3] st S Q = pm_V d 25 101 [.ref xn, l1, l2, l3] (.ref xn :: st) S Q := pv_aload_n (pm_cdi rfl dX4_reckon_100) rfl
theorem q25_101 (hs : pm_sh S an = .inr 4) : pm_V d 25 101 [l0, l1, l2, l3] (.ref an :: st) S Q = pm_V d 25 104 [l0, l1, l2, l3] (va_rf (pm_gr S an 0) :: st) S Q := pv_getA (pm_cdi rfl dX4_reckon_101) (by decide +kernel) (by decide +kernel) (by decide +kernel) hs
theorem q25_104 (hs : pm_sh S an = .inr 5) : pm_V (d + 1) 25 104 [l0, l1, l2, l3] [.ref an] S Q = pm_N d 48 [.ref an] S (fun r S' => pm_V (d + 1) 25 107 [l0, l1, l2, l3] (r.toList ++ []) S' Q) := pv_callV (as := []) (pm_cdi rfl dX4_reckon_104) (Or.inl (by decide +kernel)) (by decide +kernel) (show _ = _ from (by decide +kernel : 0 = pm_np 48)) rfl (Nat.le_of_ble_eq_true rfl) (cl := 5) (by decide +kernel) hs
theorem q25_107 : pm_V d 25 107 [.ref xn, l1, l2, l3] st S Q = pm_V d 25 108 [.ref xn, l1, l2, l3] (.ref xn :: st) S Q := pv_aload_n (pm_cdi rfl dX4_reckon_107) rfl
theorem q25_108 : pm_V d 25 108 [l0, .ref xn, l2, l3] st S Q = pm_V d 25 109 [l0, .ref xn, l2, l3] (.ref xn :: st) S Q := pv_aload_n (pm_cdi rfl dX4_reckon_108) rfl
theorem q25_108N : pm_V d 25 108 [l0, .null, l2, l3] st S Q = pm_V d 25 109 [l0, .null, l2, l3] (.null :: st) S Q := pv_aload_nN (pm_cdi rfl dX4_reckon_108) rfl
theorem q25_109 : pm_V d 25 109 [l0, l1, .ref xn, l3] st S Q = pm_V d 25 110 [l0, l1, .ref xn, l3] (.ref xn :: st) S Q := pv_aload_n (pm_cdi rfl dX4_reckon_109) rfl
theorem q25_109N : pm_V d 25 109 [l0, l1, .null, l3] st S Q = pm_V d 25 110 [l0, l1, .null, l3] (.null :: st) S Q := pv_aload_nN (pm_cdi rfl dX4_reckon_109) rfl
theorem q25_110 (hs : pm_sh S an = .inr 4) : pm_V (d + 1) 25 110 [l0, l1, l2, l3] [v1v, v0v, .ref an] S Q = pm_N d 26 [.ref an, v0v, v1v] S (fun r S' => pm_V (d + 1) 25 113 [l0, l1, l2, l3] (r.toList ++ []) S' Q) := pv_callV (as := [v0v, v1v]) (pm_cdi rfl dX4_reckon_110) (Or.inl (by decide +kernel)) (by decide +kernel) (show _ = _ from (by decide +kernel : 2 = pm_np 26)) rfl (Nat.le_of_ble_eq_true rfl) (cl := 4) (by decide +kernel) hs
theorem q25_113 : pm_V d 25 113 [.ref xn, l1, l2, l3] st S Q = pm_V d 25 114 [.ref xn, l1, l2, l3] (.ref xn :: st) S Q := pv_aload_n (pm_cdi rfl dX4_reckon_113) rfl
theorem q25_114 : pm_V d 25 114 [l0, .ref xn, l2, l3] st S Q = pm_V d 25 115 [l0, .ref xn, l2, l3] (.ref xn :: st) S Q := pv_aload_n (pm_cdi rfl dX4_reckon_114) rfl
theorem q25_114N : pm_V d 25 114 [l0, .null, l2, l3] st S Q = pm_V d 25 115 [l0, .null, l2, l3] (.null :: st) S Q := pv_aload_nN (pm_cdi rfl dX4_reckon_114) rfl
theorem q25_115 : pm_V d 25 115 [l0, l1, .ref xn, l3] st S Q = pm_V d 25 116 [l0, l1, .ref xn, l3] (.ref xn :: st) S Q := pv_aload_n (pm_cdi rfl dX4_reckon_115) rfl
theorem q25_115N : pm_V d 25 115 [l0, l1, .null, l3] st S Q = pm_V d 25 116 [l0, l1, .null, l3] (.null :: st) S Q := pv_aload_nN (pm_cdi rfl dX4_reckon_115) rfl
theorem q25_116 (hs : pm_sh S an = .inr 4) : pm_V (d + 1) 25 116 [l0, l1, l2, l3] [v1v, v0v, .ref an] S Q = pm_N d 27 [.ref an, v0v, v1v] S (fun r S' => pm_V (d + 1) 25 119 [l0, l1, l2, l3] (r.toList ++ []) S' Q) := pv_callV (as := [v0v, v1v]) (pm_cdi rfl dX4_reckon_116) (Or.inl (by decide +kernel)) (by decide +kernel) (show _ = _ from (by decide +kernel : 2 = pm_np 27)) rfl (Nat.le_of_ble_eq_true rfl) (cl := 4) (by decide +kernel) hs
theorem q25_119 : pm_V d 25 119 [l0, l1, l2, l3] st S Q = pm_V d 25 191 [l0, l1, l2, l3] st S Q := pv_goto (pm_cdi rfl dX4_reckon_119) rfl
theorem q25_122 : pm_V d 25 122 [l0, .ref xn, l2, l3] st S Q = pm_V d 25 123 [l0, .ref xn, l2, l3] (.ref xn :: st) S Q := pv_aload_n (pm_cdi rfl dX4_reckon_122) rfl
theorem q25_122N : pm_V d 25 122 [l0, .null, l2, l3] st S Q = pm_V d 25 123 [l0, .null, l2, l3] (.null :: st) S Q := pv_aload_nN (pm_cdi rfl dX4_reckon_122) rfl
theorem q25_123 : pm_V d 25 123 [l0, l1, .ref xn, l3] st S Q = pm_V d 25 124 [l0, l1, .ref xn, l3] (.ref xn :: st) S Q := pv_aload_n (pm_cdi rfl dX4_reckon_123) rfl
theorem q25_123N : pm_V d 25 123 [l0, l1, .null, l3] st S Q = pm_V d 25 124 [l0, l1, .null, l3] (.null :: st) S Q := pv_aload_nN (pm_cdi rfl dX4_reckon_123) rfl
theorem q25_124 : pm_V (d + 1) 25 124 [l0, l1, l2, l3] [v1v, v0v] S Q = pm_N d 30 [v0v, v1v] S (fun r S' => pm_V (d + 1) 25 127 [l0, l1, l2, l3] (r.toList ++ []) S' Q) := pv_callS (as := [v0v, v1v]) (pm_cdi rfl dX4_reckon_124) (by decide +kernel) (by decide +kernel) (show _ = _ from (by decide +kernel : 2 = pm_np 30)) rfl (Nat.le_of_ble_eq_true rfl)
theorem q25_127 : pm_V d 25 127 [l0, l1, l2, l3] st S Q = pm_V d 25 191 [l0, l1, l2, l3] st S Q := pv_goto (pm_cdi rfl dX4_reckon_127) rfl
theorem q25_130 : pm_V d 25 130 [.ref xn, l1, l2, l3] st S Q = pm_V d 25 131 [.ref xn, l1, l2, l3] (.ref xn :: st) S Q := pv_aload_n (pm_cdi rfl dX4_reckon_130) rfl
theorem q25_131 : pm_V d 25 131 [l0, .ref xn, l2, l3] st S Q = pm_V d 25 132 [l0, .ref xn, l2, l3] (.ref xn :: st) S Q := pv_aload_n (pm_cdi rfl dX4_reckon_131) rfl
theorem q25_131N : pm_V d 25 131 [l0, .null, l2, l3] st S Q = pm_V d 25 132 [l0, .null, l2, l3] (.null :: st) S Q := pv_aload_nN (pm_cdi rfl dX4_reckon_131) rfl
theorem q25_132 : pm_V d 25 132 [l0, l1, .ref xn, l3] st S Q = pm_V d 25 133 [l0, l1, .ref xn, l3] (.ref xn :: st) S Q := pv_aload_n (pm_cdi rfl dX4_reckon_132) rfl
theorem q25_132N : pm_V d 25 132 [l0, l1, .null, l3] st S Q = pm_V d 25 133 [l0, l1, .null, l3] (.null :: st) S Q := pv_aload_nN (pm_cdi rfl dX4_reckon_132) rfl
theorem q25_133 : pm_V d 25 133 [l0, l1, l2, .ref xn] st S Q = pm_V d 25 134 [l0, l1, l2, .ref xn] (.ref xn :: st) S Q := pv_aload_n (pm_cdi rfl dX4_reckon_133) rfl
theorem q25_133N : pm_V d 25 133 [l0, l1, l2, .null] st S Q = pm_V d 25 134 [l0, l1, l2, .null] (.null :: st) S Q := pv_aload_nN (pm_cdi rfl dX4_reckon_133) rfl
theorem q25_134 (hs : pm_sh S an = .inr 4) : pm_V (d + 1) 25 134 [l0, l1, l2, l3] [v2v, v1v, v0v, .ref an] S Q = pm_N d 34 [.ref an, v0v, v1v, v2v] S (fun r S' => pm_V (d + 1) 25 137 [l0, l1, l2, l3] (r.toList ++ []) S' Q) := pv_callV (as := [v0v, v1v, v2v]) (pm_cdi rfl dX4_reckon_134) (Or.inl (by decide +kernel)) (by decide +kernel) (show _ = _ from (by decide +kernel : 3 = pm_np 34)) rfl (Nat.le_of_ble_eq_true rfl) (cl := 4) (by decide +kernel) hs
theorem q25_137 : pm_V d 25 137 [l0, l1, l2, l3] st S Q = pm_V d 25 191 [l0, l1, l2, l3] st S Q := pv_goto (pm_cdi rfl dX4_reckon_137) rfl
theorem q25_140 : pm_V d 25 140 [l0, .ref xn, l2, l3] st S Q = pm_V d 25 141 [l0, .ref xn, l2, l3] (.ref xn :: st) S Q := pv_aload_n (pm_cdi rfl dX4_reckon_140) rfl
theorem q25_140N : pm_V d 25 140 [l0, .null, l2, l3] st S Q = pm_V d 25 141 [l0, .null, l2, l3] (.null :: st) S Q := pv_aload_nN (pm_cdi rfl dX4_reckon_140) rfl
theorem q25_141 : pm_V d 25 141 [l0, l1, .ref xn, l3] st S Q = pm_V d 25 142 [l0, l1, .ref xn, l3] (.ref xn :: st) S Q := pv_aload_n (pm_cdi rfl dX4_reckon_141) rfl
theorem q25_141N : pm_V d 25 141 [l0, l1, .null, l3] st S Q = pm_V d 25 142 [l0, l1, .null, l3] (.null :: st) S Q := pv_aload_nN (pm_cdi rfl dX4_reckon_141) rfl
theorem q25_142 : pm_V (d + 1) 25 142 [l0, l1, l2, l3] [v1v, v0v] S Q = pm_N d 29 [v0v, v1v] S (fun r S' => pm_V (d + 1) 25 145 [l0, l1, l2, l3] (r.toList ++ []) S' Q) := pv_callS (as := [v0v, v1v]) (pm_cdi rfl dX4_reckon_142) (by decide +kernel) (by decide +kernel) (show _ = _ from (by decide +kernel : 2 = pm_np 29)) rfl (Nat.le_of_ble_eq_true rfl)
theorem q25_145 : pm_V d 25 145 [.ref xn, l1, l2, l3] st S Q = pm_V d 25 146 [.ref xn, l1, l2, l3] (.ref xn :: st) S Q := pv_aload_n (pm_cdi rfl dX4_reckon_145) rfl
theorem q25_146 : pm_V d 25 146 [l0, l1, l2, .ref xn] st S Q = pm_V d 25 147 [l0, l1, l2, .ref xn] (.ref xn :: st) S Q := pv_aload_n (pm_cdi rfl dX4_reckon_146) rfl
theorem q25_146N : pm_V d 25 146 [l0, l1, l2, .null] st S Q = pm_V d 25 147 [l0, l1, l2, .null] (.null :: st) S Q := pv_aload_nN (pm_cdi rfl dX4_reckon_146) rfl
theorem q25_147 (hs : pm_sh S an = .inr 4) : pm_V (d + 1) 25 147 [l0, l1, l2, l3] [v0v, .ref an] S Q = pm_N d 31 [.ref an, v0v] S (fun r S' => pm_V (d + 1) 25 150 [l0, l1, l2, l3] (r.toList ++ []) S' Q) := pv_callV (as := [v0v]) (pm_cdi rfl dX4_reckon_147) (Or.inl (by decide +kernel)) (by decide +kernel) (show _ = _ from (by decide +kernel : 1 = pm_np 31)) rfl (Nat.le_of_ble_eq_true rfl) (cl := 4) (by decide +kernel) hs
theorem q25_150 : pm_V d 25 150 [.ref xn, l1, l2, l3] st S Q = pm_V d 25 151 [.ref xn, l1, l2, l3] (.ref xn :: st) S Q := pv_aload_n (pm_cdi rfl dX4_reckon_150) rfl
theorem q25_151 : pm_V d 25 151 [l0, .ref xn, l2, l3] st S Q = pm_V d 25 152 [l0, .ref xn, l2, l3] (.ref xn :: st) S Q := pv_aload_n (pm_cdi rfl dX4_reckon_151) rfl
theorem q25_151N : pm_V d 25 151 [l0, .null, l2, l3] st S Q = pm_V d 25 152 [l0, .null, l2, l3] (.null :: st) S Q := pv_aload_nN (pm_cdi rfl dX4_reckon_151) rfl
theorem q25_152 : pm_V d 25 152 [l0, l1, .ref xn, l3] st S Q = pm_V d 25 153 [l0, l1, .ref xn, l3] (.ref xn :: st) S Q := pv_aload_n (pm_cdi rfl dX4_reckon_152) rfl
theorem q25_152N : pm_V d 25 152 [l0, l1, .null, l3] st S Q = pm_V d 25 153 [l0, l1, .null, l3] (.null :: st) S Q := pv_aload_nN (pm_cdi rfl dX4_reckon_152) rfl
theorem q25_153 (hs : pm_sh S an = .inr 4) : pm_V (d + 1) 25 153 [l0, l1, l2, l3] [v1v, v0v, .ref an] S Q = pm_N d 33 [.ref an, v0v, v1v] S (fun r S' => pm_V (d + 1) 25 156 [l0, l1, l2, l3] (r.toList ++ []) S' Q) := pv_callV (as := [v0v, v1v]) (pm_cdi rfl dX4_reckon_153) (Or.inl (by decide +kernel)) (by decide +kernel) (show _ = _ from (by decide +kernel : 2 = pm_np 33)) rfl (Nat.le_of_ble_eq_true rfl) (cl := 4) (by decide +kernel) hs
theorem q25_156 : pm_V d 25 156 [l0, l1, l2, l3] st S Q = pm_V d 25 191 [l0, l1, l2, l3] st S Q := pv_goto (pm_cdi rfl dX4_reckon_156) rfl
theorem q25_159 : pm_V d 25 159 [l0, .ref xn, l2, l3] st S Q = pm_V d 25 160 [l0, .ref xn, l2, l3] (.ref xn :: st) S Q := pv_aload_n (pm_cdi rfl dX4_reckon_159) rfl
theorem q25_159N : pm_V d 25 159 [l0, .null, l2, l3] st S Q = pm_V d 25 160 [l0, .null, l2, l3] (.null :: st) S Q := pv_aload_nN (pm_cdi rfl dX4_reckon_159) rfl
theorem q25_160 : pm_V d 25 160 [l0, l1, .ref xn, l3] st S Q = pm_V d 25 161 [l0, l1, .ref xn, l3] (.ref xn :: st) S Q := pv_aload_n (pm_cdi rfl dX4_reckon_160) rfl
theorem q25_160N : pm_V d 25 160 [l0, l1, .null, l3] st S Q = pm_V d 25 161 [l0, l1, .null, l3] (.null :: st) S Q := pv_aload_nN (pm_cdi rfl dX4_reckon_160) rfl
theorem q25_161 : pm_V d 25 161 [l0, l1, l2, .ref xn] st S Q = pm_V d 25 162 [l0, l1, l2, .ref xn] (.ref xn :: st) S Q := pv_aload_n (pm_cdi rfl dX4_reckon_161) rfl
theorem q25_161N : pm_V d 25 161 [l0, l1, l2, .null] st S Q = pm_V d 25 162 [l0, l1, l2, .null] (.null :: st) S Q := pv_aload_nN (pm_cdi rfl dX4_reckon_161) rfl
theorem q25_162 : pm_V (d + 1) 25 162 [l0, l1, l2, l3] [v2v, v1v, v0v] S Q = pm_N d 35 [v0v, v1v, v2v] S (fun r S' => pm_V (d + 1) 25 165 [l0, l1, l2, l3] (r.toList ++ []) S' Q) := pv_callS (as := [v0v, v1v, v2v]) (pm_cdi rfl dX4_reckon_162) (by decide +kernel) (by decide +kernel) (show _ = _ from (by decide +kernel : 3 = pm_np 35)) rfl (Nat.le_of_ble_eq_true rfl)
theorem q25_165 : pm_V d 25 165 [l0, l1, l2, l3] st S Q = pm_V d 25 191 [l0, l1, l2, l3] st S Q := pv_goto (pm_cdi rfl dX4_reckon_165) rfl
theorem q25_168 : pm_V d 25 168 [l0, .ref xn, l2, l3] st S Q = pm_V d 25 169 [l0, .ref xn, l2, l3] (.ref xn :: st) S Q := pv_aload_n (pm_cdi rfl dX4_reckon_168) rfl
theorem q25_168N : pm_V d 25 168 [l0, .null, l2, l3] st S Q = pm_V d 25 169 [l0, .null, l2, l3] (.null :: st) S Q := pv_aload_nN (pm_cdi rfl dX4_reckon_168) rfl
theorem q25_169 : pm_V d 25 169 [l0, l1, .ref xn, l3] st S Q = pm_V d 25 170 [l0, l1, .ref xn, l3] (.ref xn :: st) S Q := pv_aload_n (pm_cdi rfl dX4_reckon_169) rfl
theorem q25_169N : pm_V d 25 169 [l0, l1, .null, l3] st S Q = pm_V d 25 170 [l0, l1, .null, l3] (.null :: st) S Q := pv_aload_nN (pm_cdi rfl dX4_reckon_169) rfl
theorem q25_170 : pm_V (d + 1) 25 170 [l0, l1, l2, l3] [v1v, v0v] S Q = pm_N d 40 [v0v, v1v] S (fun r S' => pm_V (d + 1) 25 173 [l0, l1, l2, l3] (r.toList ++ []) S' Q) := pv_callS (as := [v0v, v1v]) (pm_cdi rfl dX4_reckon_170) (by decide +kernel) (by decide +kernel) (show _ = _ from (by decide +kernel : 2 = pm_np 40)) rfl (Nat.le_of_ble_eq_true rfl)
theorem q25_173 : pm_V d 25 173 [l0, l1, l2, l3] st S Q = pm_V d 25 191 [l0, l1, l2, l3] st S Q := pv_goto (pm_cdi rfl dX4_reckon_173) rfl
theorem q25_176 : pm_V d 25 176 [.ref xn, l1, l2, l3] st S Q = pm_V d 25 177 [.ref xn, l1, l2, l3] (.ref xn :: st) S Q := pv_aload_n (pm_cdi rfl dX4_reckon_176) rfl
theorem q25_177 : pm_V d 25 177 [l0, .ref xn, l2, l3] st S Q = pm_V d 25 178 [l0, .ref xn, l2, l3] (.ref xn :: st) S Q := pv_aload_n (pm_cdi rfl dX4_reckon_177) rfl
theorem q25_177N : pm_V d 25 177 [l0, .null, l2, l3] st S Q = pm_V d 25 178 [l0, .null, l2, l3] (.null :: st) S Q := pv_aload_nN (pm_cdi rfl dX4_reckon_177) rfl
theorem q25_178 : pm_V d 25 178 [l0, l1, .ref xn, l3] st S Q = pm_V d 25 179 [l0, l1, .ref xn, l3] (.ref xn :: st) S Q := pv_aload_n (pm_cdi rfl dX4_reckon_178) rfl
theorem q25_178N : pm_V d 25 178 [l0, l1, .null, l3] st S Q = pm_V d 25 179 [l0, l1, .null, l3] (.null :: st) S Q := pv_aload_nN (pm_cdi rfl dX4_reckon_178) rfl
theorem q25_179 (hs : pm_sh S an = .inr 4) : pm_V (d + 1) 25 179 [l0, l1, l2, l3] [v1v, v0v, .ref an] S Q = pm_N d 41 [.ref an, v0v, v1v] S (fun r S' => pm_V (d + 1) 25 182 [l0, l1, l2, l3] (r.toList ++ []) S' Q) := pv_callV (as := [v0v, v1v]) (pm_cdi rfl dX4_reckon_179) (Or.inl (by decide +kernel)) (by decide +kernel) (show _ = _ from (by decide +kernel : 2 = pm_np 41)) rfl (Nat.le_of_ble_eq_true rfl) (cl := 4) (by decide +kernel) hs
theorem q25_182 : pm_V d 25 182 [.ref xn, l1, l2, l3] st S Q = pm_V d 25 183 [.ref xn, l1, l2, l3] (.ref xn :: st) S Q := pv_aload_n (pm_cdi rfl dX4_reckon_182) rfl
theorem q25_183 : pm_V d 25 183 [l0, .ref xn, l2, l3] st S Q = pm_V d 25 184 [l0, .ref xn, l2, l3] (.ref xn :: st) S Q := pv_aload_n (pm_cdi rfl dX4_reckon_183) rfl
theorem q25_183N : pm_V d 25 183 [l0, .null, l2, l3] st S Q = pm_V d 25 184 [l0, .null, l2, l3] (.null :: st) S Q := pv_aload_nN (pm_cdi rfl dX4_reckon_183) rfl
theorem q25_184 : pm_V d 25 184 [l0, l1, .ref xn, l3] st S Q = pm_V d 25 185 [l0, l1, .ref xn, l3] (.ref xn :: st) S Q := pv_aload_n (pm_cdi rfl dX4_reckon_184) rfl
theorem q25_184N : pm_V d 25 184 [l0, l1, .null, l3] st S Q = pm_V d 25 185 [l0, l1, .null, l3] (.null :: st) S Q := pv_aload_nN (pm_cdi rfl dX4_reckon_184) rfl
theorem q25_185 (hs : pm_sh S an = .inr 4) : pm_V (d + 1) 25 185 [l0, l1, l2, l3] [v1v, v0v, .ref an] S Q = pm_N d 42 [.ref an, v0v, v1v] S (fun r S' => pm_V (d + 1) 25 188 [l0, l1, l2, l3] (r.toList ++ []) S' Q) := pv_callV (as := [v0v, v1v]) (pm_cdi rfl dX4_reckon_185) (Or.inl (by decide +kernel)) (by decide +kernel) (show _ = _ from (by decide +kernel : 2 = pm_np 42)) rfl (Nat.le_of_ble_eq_true rfl) (cl := 4) (by decide +kernel) hs
theorem q25_188 : pm_V d 25 188 [l0, l1, l2, l3] st S Q = pm_V d 25 191 [l0, l1, l2, l3] st S Q := pv_goto (pm_cdi rfl dX4_reckon_188) rfl
theorem q25_191 : pm_V d 25 191 [l0, l1, l2, l3] [] S Q = Q none S := pv_rV (pm_cdi rfl dX4_reckon_191) (by decide +kernel)
theorem q25_e : pm_N d 25 [.ref an, .ref v0n] S Q = pm_V d 25 0 [.ref an, .ref v0n, pm_j, pm_j] [] S Q := pv_ent (Nat.le_of_ble_eq_true rfl) rfl
/-! 26: ViewsJoins$Reckoner.filterNodes(LViewsJoins$Graph;LViewsJoins$Graph;)V -/
theorem dX4_filterNodes_0 : decode cX4_filterNodes 0 = .ok (.aload_n 1, 1) := by decide +kernel
theorem dX4_filterNodes_1 : decode cX4_filterNodes 1 = .ok (.getfield 96, 3) := by decide +kernel
theorem dX4_filterNodes_4 : decode cX4_filterNodes 4 = .ok (.istore_n 3, 1) := by decide +kernel
theorem dX4_filterNodes_5 : decode cX4_filterNodes 5 = .ok (.iconst 0, 1) := by decide +kernel
theorem dX4_filterNodes_6 : decode cX4_filterNodes 6 = .ok (.istore 4, 2) := by decide +kernel
theorem dX4_filterNodes_8 : decode cX4_filterNodes 8 = .ok (.iload 4, 2) := by decide +kernel
theorem dX4_filterNodes_10 : decode cX4_filterNodes 10 = .ok (.aload_n 2, 1) := by decide +kernel
theorem dX4_filterNodes_11 : decode cX4_filterNodes 11 = .ok (.getfield 99, 3) := by decide +kernel
theorem dX4_filterNodes_14 : decode cX4_filterNodes 14 = .ok (.getfield 103, 3) := by decide +kernel
theorem dX4_filterNodes_17 : decode cX4_filterNodes 17 = .ok (.if_icmp .ge 103, 3) := by decide +kernel
theorem dX4_filterNodes_20 : decode cX4_filterNodes 20 = .ok (.aload_n 1, 1) := by decide +kernel
theorem dX4_filterNodes_21 : decode cX4_filterNodes 21 = .ok (.getfield 50, 3) := by decide +kernel
theorem dX4_filterNodes_24 : decode cX4_filterNodes 24 = .ok (.ifCond .ne 96, 3) := by decide +kernel
theorem dX4_filterNodes_27 : decode cX4_filterNodes 27 = .ok (.iload_n 3, 1) := by decide +kernel
theorem dX4_filterNodes_28 : decode cX4_filterNodes 28 = .ok (.iconst (-1), 1) := by decide +kernel
theorem dX4_filterNodes_29 : decode cX4_filterNodes 29 = .ok (.if_icmp .ne 7, 3) := by decide +kernel
theorem dX4_filterNodes_32 : decode cX4_filterNodes 32 = .ok (.iconst 1, 1) := by decide +kernel
theorem dX4_filterNodes_33 : decode cX4_filterNodes 33 = .ok (.goto 16, 3) := by decide +kernel
theorem dX4_filterNodes_36 : decode cX4_filterNodes 36 = .ok (.aload_n 0, 1) := by decide +kernel
theorem dX4_filterNodes_37 : decode cX4_filterNodes 37 = .ok (.getfield 12, 3) := by decide +kernel
theorem dX4_filterNodes_40 : decode cX4_filterNodes 40 = .ok (.aload_n 2, 1) := by decide +kernel
theorem dX4_filterNodes_41 : decode cX4_filterNodes 41 = .ok (.iconst 0, 1) := by decide +kernel
theorem dX4_filterNodes_42 : decode cX4_filterNodes 42 = .ok (.iload 4, 2) := by decide +kernel
theorem dX4_filterNodes_44 : decode cX4_filterNodes 44 = .ok (.iload_n 3, 1) := by decide +kernel
theorem dX4_filterNodes_45 : decode cX4_filterNodes 45 = .ok (.iconst 0, 1) := by decide +kernel
theorem dX4_filterNodes_46 : decode cX4_filterNodes 46 = .ok (.invokevirtual 108, 3) := by decide +kernel
theorem dX4_filterNodes_49 : decode cX4_filterNodes 49 = .ok (.istore 5, 2) := by decide +kernel
theorem dX4_filterNodes_51 : decode cX4_filterNodes 51 = .ok (.aload_n 0, 1) := by decide +kernel
theorem dX4_filterNodes_52 : decode cX4_filterNodes 52 = .ok (.getfield 30, 3) := by decide +kernel
theorem dX4_filterNodes_55 : decode cX4_filterNodes 55 = .ok (.iload 4, 2) := by decide +kernel
theorem dX4_filterNodes_57 : decode cX4_filterNodes 57 = .ok (.iconst (-1), 1) := by decide +kernel
theorem dX4_filterNodes_58 : decode cX4_filterNodes 58 = .ok (.iastore, 1) := by decide +kernel
theorem dX4_filterNodes_59 : decode cX4_filterNodes 59 = .ok (.iload 5, 2) := by decide +kernel
theorem dX4_filterNodes_61 : decode cX4_filterNodes 61 = .ok (.iconst 1, 1) := by decide +kernel
theorem dX4_filterNodes_62 : decode cX4_filterNodes 62 = .ok (.if_icmp .ne 37, 3) := by decide +kernel
theorem dX4_filterNodes_65 : decode cX4_filterNodes 65 = .ok (.aload_n 0, 1) := by decide +kernel
theorem dX4_filterNodes_66 : decode cX4_filterNodes 66 = .ok (.getfield 30, 3) := by decide +kernel
theorem dX4_filterNodes_69 : decode cX4_filterNodes 69 = .ok (.iload 4, 2) := by decide +kernel
theorem dX4_filterNodes_71 : decode cX4_filterNodes 71 = .ok (.aload_n 1, 1) := by decide +kernel
theorem dX4_filterNodes_72 : decode cX4_filterNodes 72 = .ok (.getfield 99, 3) := by decide +kernel
theorem dX4_filterNodes_75 : decode cX4_filterNodes 75 = .ok (.getfield 103, 3) := by decide +kernel
theorem dX4_filterNodes_78 : decode cX4_filterNodes 78 = .ok (.iastore, 1) := by decide +kernel
theorem dX4_filterNodes_79 : decode cX4_filterNodes 79 = .ok (.aload_n 1, 1) := by decide +kernel
theorem dX4_filterNodes_80 : decode cX4_filterNodes 80 = .ok (.aload_n 2, 1) := by decide +kernel
theorem dX4_filterNodes_81 : decode cX4_filterNodes 81 = .ok (.getfield 99, 3) := by decide +kernel
theorem dX4_filterNodes_84 : decode cX4_filterNodes 84 = .ok (.getfield 112, 3) := by decide +kernel
theorem dX4_filterNodes_87 : decode cX4_filterNodes 87 = .ok (.iload 4, 2) := by decide +kernel
theorem dX4_filterNodes_89 : decode cX4_filterNodes 89 = .ok (.laload, 1) := by decide +kernel
theorem dX4_filterNodes_90 : decode cX4_filterNodes 90 = .ok (.iload 4, 2) := by decide +kernel
theorem dX4_filterNodes_92 : decode cX4_filterNodes 92 = .ok (.iconst (-1), 1) := by decide +kernel
theorem dX4_filterNodes_93 : decode cX4_filterNodes 93 = .ok (.invokevirtual 115, 3) := by decide +kernel
theorem dX4_filterNodes_96 : decode cX4_filterNodes 96 = .ok (.goto 18, 3) := by decide +kernel
theorem dX4_filterNodes_99 : decode cX4_filterNodes 99 = .ok (.iload 5, 2) := by decide +kernel
theorem dX4_filterNodes_101 : decode cX4_filterNodes 101 = .ok (.ifCond .ge 13, 3) := by decide +kernel
theorem dX4_filterNodes_104 : decode cX4_filterNodes 104 = .ok (.aload_n 1, 1) := by decide +kernel
theorem dX4_filterNodes_105 : decode cX4_filterNodes 105 = .ok (.iconst 0, 1) := by decide +kernel
theorem dX4_filterNodes_106 : decode cX4_filterNodes 106 = .ok (.iload 4, 2) := by decide +kernel
theorem dX4_filterNodes_108 : decode cX4_filterNodes 108 = .ok (.iload 5, 2) := by decide +kernel
theorem dX4_filterNodes_110 : decode cX4_filterNodes 110 = .ok (.ineg, 1) := by decide +kernel
theorem dX4_filterNodes_111 : decode cX4_filterNodes 111 = .ok (.invokestatic 119, 3) := by decide +kernel
theorem dX4_filterNodes_114 : decode cX4_filterNodes 114 = .ok (.iinc 4 1, 3) := by decide +kernel
theorem dX4_filterNodes_117 : decode cX4_filterNodes 117 = .ok (.goto (-109), 3) := by decide +kernel
theorem dX4_filterNodes_120 : decode cX4_filterNodes 120 = .ok (.return_, 1) := by decide +kernel
theorem q26_0 : pm_V d 26 0 [l0, .ref xn, l2, l3, l4, l5] st S Q = pm_V d 26 1 [l0, .ref xn, l2, l3, l4, l5] (.ref xn :: st) S Q := pv_aload_n (pm_cdi rfl dX4_filterNodes_0) rfl
theorem q26_0N : pm_V d 26 0 [l0, .null, l2, l3, l4, l5] st S Q = pm_V d 26 1 [l0, .null, l2, l3, l4, l5] (.null :: st) S Q := pv_aload_nN (pm_cdi rfl dX4_filterNodes_0) rfl
theorem q26_1 (hs : pm_sh S an = .inr 0) : pm_V d 26 1 [l0, l1, l2, l3, l4, l5] (.ref an :: st) S Q = pm_V d 26 4 [l0, l1, l2, l3, l4, l5] (.int (pm_gi S an 9) :: st) S Q := pv_getI (pm_cdi rfl dX4_filterNodes_1) (by decide +kernel) (by decide +kernel) (by decide +kernel) hs
theorem q26_4 : pm_V d 26 4 [l0, l1, .ref yn, l3, l4, l5] (.int xi :: st) S Q = pm_V d 26 5 [l0, l1, .ref yn, .int xi, l4, l5] st S Q := pv_istore_n (pm_cdi rfl dX4_filterNodes_4) rfl
theorem q26_5 : pm_V d 26 5 [l0, l1, l2, l3, l4, l5] st S Q = pm_V d 26 6 [l0, l1, l2, l3, l4, l5] (.int 0 :: st) S Q := pv_iconst (pm_cdi rfl dX4_filterNodes_5) (by decide +kernel)
theorem q26_6 : pm_V d 26 6 [l0, l1, l2, .int yi, l4, l5] (.int xi :: st) S Q = pm_V d 26 8 [l0, l1, l2, .int yi, .int xi, l5] st S Q := pv_istore (pm_cdi rfl dX4_filterNodes_6) rfl
theorem q26_8 : pm_V d 26 8 [l0, l1, l2, l3, .int xi, l5] st S Q = pm_V d 26 10 [l0, l1, l2, l3, .int xi, l5] (.int xi :: st) S Q := pv_iload (pm_cdi rfl dX4_filterNodes_8) rfl
theorem q26_10 : pm_V d 26 10 [l0, l1, .ref xn, l3, l4, l5] st S Q = pm_V d 26 11 [l0, l1, .ref xn, l3, l4, l5] (.ref xn :: st) S Q := pv_aload_n (pm_cdi rfl dX4_filterNodes_10) rfl
theorem q26_10N : pm_V d 26 10 [l0, l1, .null, l3, l4, l5] st S Q = pm_V d 26 11 [l0, l1, .null, l3, l4, l5] (.null :: st) S Q := pv_aload_nN (pm_cdi rfl dX4_filterNodes_10) rfl
theorem q26_11 (hs : pm_sh S an = .inr 0) : pm_V d 26 11 [l0, l1, l2, l3, l4, l5] (.ref an :: st) S Q = pm_V d 26 14 [l0, l1, l2, l3, l4, l5] (va_rf (pm_gr S an 0) :: st) S Q := pv_getA (pm_cdi rfl dX4_filterNodes_11) (by decide +kernel) (by decide +kernel) (by decide +kernel) hs
theorem q26_14 (hs : pm_sh S an = .inr 3) : pm_V d 26 14 [l0, l1, l2, l3, l4, l5] (.ref an :: st) S Q = pm_V d 26 17 [l0, l1, l2, l3, l4, l5] (.int (pm_gi S an 3) :: st) S Q := pv_getI (pm_cdi rfl dX4_filterNodes_14) (by decide +kernel) (by decide +kernel) (by decide +kernel) hs
theorem q26_17 : pm_V d 26 17 [l0, l1, l2, l3, l4, l5] (.int yi :: .int xi :: st) S Q = if xi < yi then pm_V d 26 20 [l0, l1, l2, l3, l4, l5] st S Q else pm_V d 26 120 [l0, l1, l2, l3, l4, l5] st S Q := pv_icmp_ge (pm_cdi rfl dX4_filterNodes_17) rfl
theorem q26_20 : pm_V d 26 20 [l0, .ref xn, l2, l3, l4, l5] st S Q = pm_V d 26 21 [l0, .ref xn, l2, l3, l4, l5] (.ref xn :: st) S Q := pv_aload_n (pm_cdi rfl dX4_filterNodes_20) rfl
theorem q26_20N : pm_V d 26 20 [l0, .null, l2, l3, l4, l5] st S Q = pm_V d 26 21 [l0, .null, l2, l3, l4, l5] (.null :: st) S Q := pv_aload_nN (pm_cdi rfl dX4_filterNodes_20) rfl
theorem q26_21 (hs : pm_sh S an = .inr 0) : pm_V d 26 21 [l0, l1, l2, l3, l4, l5] (.ref an :: st) S Q = pm_V d 26 24 [l0, l1, l2, l3, l4, l5] (.int (pm_gi S an 5) :: st) S Q := pv_getI (pm_cdi rfl dX4_filterNodes_21) (by decide +kernel) (by decide +kernel) (by decide +kernel) hs
theorem q26_24 : pm_V d 26 24 [l0, l1, l2, l3, l4, l5] (.int xi :: st) S Q = if xi = 0 then pm_V d 26 27 [l0, l1, l2, l3, l4, l5] st S Q else pm_V d 26 120 [l0, l1, l2, l3, l4, l5] st S Q := pv_if_ne (pm_cdi rfl dX4_filterNodes_24) rfl
theorem q26_27 : pm_V d 26 27 [l0, l1, l2, .int xi, l4, l5] st S Q = pm_V d 26 28 [l0, l1, l2, .int xi, l4, l5] (.int xi :: st) S Q := pv_iload_n (pm_cdi rfl dX4_filterNodes_27) rfl
theorem q26_28 : pm_V d 26 28 [l0, l1, l2, l3, l4, l5] st S Q = pm_V d 26 29 [l0, l1, l2, l3, l4, l5] (.int (-1) :: st) S Q := pv_iconst (pm_cdi rfl dX4_filterNodes_28) (by decide +kernel)
theorem q26_29 : pm_V d 26 29 [l0, l1, l2, l3, l4, l5] (.int yi :: .int xi :: st) S Q = if xi = yi then pm_V d 26 32 [l0, l1, l2, l3, l4, l5] st S Q else pm_V d 26 36 [l0, l1, l2, l3, l4, l5] st S Q := pv_icmp_ne (pm_cdi rfl dX4_filterNodes_29) rfl
theorem q26_32 : pm_V d 26 32 [l0, l1, l2, l3, l4, l5] st S Q = pm_V d 26 33 [l0, l1, l2, l3, l4, l5] (.int 1 :: st) S Q := pv_iconst (pm_cdi rfl dX4_filterNodes_32) (by decide +kernel)
theorem q26_33 : pm_V d 26 33 [l0, l1, l2, l3, l4, l5] st S Q = pm_V d 26 49 [l0, l1, l2, l3, l4, l5] st S Q := pv_goto (pm_cdi rfl dX4_filterNodes_33) rfl
theorem q26_36 : pm_V d 26 36 [.ref xn, l1, l2, l3, l4, l5] st S Q = pm_V d 26 37 [.ref xn, l1, l2, l3, l4, l5] (.ref xn :: st) S Q := pv_aload_n (pm_cdi rfl dX4_filterNodes_36) rfl
theorem q26_37 (hs : pm_sh S an = .inr 4) : pm_V d 26 37 [l0, l1, l2, l3, l4, l5] (.ref an :: st) S Q = pm_V d 26 40 [l0, l1, l2, l3, l4, l5] (va_rf (pm_gr S an 0) :: st) S Q := pv_getA (pm_cdi rfl dX4_filterNodes_37) (by decide +kernel) (by decide +kernel) (by decide +kernel) hs
theorem q26_40 : pm_V d 26 40 [l0, l1, .ref xn, l3, l4, l5] st S Q = pm_V d 26 41 [l0, l1, .ref xn, l3, l4, l5] (.ref xn :: st) S Q := pv_aload_n (pm_cdi rfl dX4_filterNodes_40) rfl
theorem q26_40N : pm_V d 26 40 [l0, l1, .null, l3, l4, l5] st S Q = pm_V d 26 41 [l0, l1, .null, l3, l4, l5] (.null :: st) S Q := pv_aload_nN (pm_cdi rfl dX4_filterNodes_40) rfl
theorem q26_41 : pm_V d 26 41 [l0, l1, l2, l3, l4, l5] st S Q = pm_V d 26 42 [l0, l1, l2, l3, l4, l5] (.int 0 :: st) S Q := pv_iconst (pm_cdi rfl dX4_filterNodes_41) (by decide +kernel)
theorem q26_42 : pm_V d 26 42 [l0, l1, l2, l3, .int xi, l5] st S Q = pm_V d 26 44 [l0, l1, l2, l3, .int xi, l5] (.int xi :: st) S Q := pv_iload (pm_cdi rfl dX4_filterNodes_42) rfl
theorem q26_44 : pm_V d 26 44 [l0, l1, l2, .int xi, l4, l5] st S Q = pm_V d 26 45 [l0, l1, l2, .int xi, l4, l5] (.int xi :: st) S Q := pv_iload_n (pm_cdi rfl dX4_filterNodes_44) rfl
theorem q26_45 : pm_V d 26 45 [l0, l1, l2, l3, l4, l5] st S Q = pm_V d 26 46 [l0, l1, l2, l3, l4, l5] (.int 0 :: st) S Q := pv_iconst (pm_cdi rfl dX4_filterNodes_45) (by decide +kernel)
theorem q26_46 (hs : pm_sh S an = .inr 5) : pm_V (d + 1) 26 46 [l0, l1, l2, l3, l4, l5] [.int v4i, .int v3i, .int v2i, .int v1i, v0v, .ref an] S Q = pm_N d 49 [.ref an, v0v, .int v1i, .int v2i, .int v3i, .int v4i] S (fun r S' => pm_V (d + 1) 26 49 [l0, l1, l2, l3, l4, l5] (r.toList ++ []) S' Q) := pv_callV (as := [v0v, .int v1i, .int v2i, .int v3i, .int v4i]) (pm_cdi rfl dX4_filterNodes_46) (Or.inr (by decide +kernel)) (by decide +kernel) (show _ = _ from (by decide +kernel : 5 = pm_np 49)) rfl (Nat.le_of_ble_eq_true rfl) (cl := 5) (by decide +kernel) hs
theorem q26_49 : pm_V d 26 49 [l0, l1, l2, l3, .int yi, l5] (.int xi :: st) S Q = pm_V d 26 51 [l0, l1, l2, l3, .int yi, .int xi] st S Q := pv_istore (pm_cdi rfl dX4_filterNodes_49) rfl
theorem q26_51 : pm_V d 26 51 [.ref xn, l1, l2, l3, l4, l5] st S Q = pm_V d 26 52 [.ref xn, l1, l2, l3, l4, l5] (.ref xn :: st) S Q := pv_aload_n (pm_cdi rfl dX4_filterNodes_51) rfl
theorem q26_52 (hs : pm_sh S an = .inr 4) : pm_V d 26 52 [l0, l1, l2, l3, l4, l5] (.ref an :: st) S Q = pm_V d 26 55 [l0, l1, l2, l3, l4, l5] (va_rf (pm_gr S an 3) :: st) S Q := pv_getA (pm_cdi rfl dX4_filterNodes_52) (by decide +kernel) (by decide +kernel) (by decide +kernel) hs
theorem q26_55 : pm_V d 26 55 [l0, l1, l2, l3, .int xi, l5] st S Q = pm_V d 26 57 [l0, l1, l2, l3, .int xi, l5] (.int xi :: st) S Q := pv_iload (pm_cdi rfl dX4_filterNodes_55) rfl
theorem q26_57 : pm_V d 26 57 [l0, l1, l2, l3, l4, l5] st S Q = pm_V d 26 58 [l0, l1, l2, l3, l4, l5] (.int (-1) :: st) S Q := pv_iconst (pm_cdi rfl dX4_filterNodes_57) (by decide +kernel)
theorem q26_58 (hs : pm_ar S an 0 xi = true) : pm_V d 26 58 [l0, l1, l2, l3, l4, l5] (.int vi :: .int xi :: .ref an :: st) S Q = pm_V d 26 59 [l0, l1, l2, l3, l4, l5] st (pm_szi S an xi.toNatClampNeg vi) Q := pv_iast (pm_cdi rfl dX4_filterNodes_58) hs
theorem q26_59 : pm_V d 26 59 [l0, l1, l2, l3, l4, .int xi] st S Q = pm_V d 26 61 [l0, l1, l2, l3, l4, .int xi] (.int xi :: st) S Q := pv_iload (pm_cdi rfl dX4_filterNodes_59) rfl
theorem q26_61 : pm_V d 26 61 [l0, l1, l2, l3, l4, l5] st S Q = pm_V d 26 62 [l0, l1, l2, l3, l4, l5] (.int 1 :: st) S Q := pv_iconst (pm_cdi rfl dX4_filterNodes_61) (by decide +kernel)
theorem q26_62 : pm_V d 26 62 [l0, l1, l2, l3, l4, l5] (.int yi :: .int xi :: st) S Q = if xi = yi then pm_V d 26 65 [l0, l1, l2, l3, l4, l5] st S Q else pm_V d 26 99 [l0, l1, l2, l3, l4, l5] st S Q := pv_icmp_ne (pm_cdi rfl dX4_filterNodes_62) rfl
theorem q26_65 : pm_V d 26 65 [.ref xn, l1, l2, l3, l4, l5] st S Q = pm_V d 26 66 [.ref xn, l1, l2, l3, l4, l5] (.ref xn :: st) S Q := pv_aload_n (pm_cdi rfl dX4_filterNodes_65) rfl
theorem q26_66 (hs : pm_sh S an = .inr 4) : pm_V d 26 66 [l0, l1, l2, l3, l4, l5] (.ref an :: st) S Q = pm_V d 26 69 [l0, l1, l2, l3, l4, l5] (va_rf (pm_gr S an 3) :: st) S Q := pv_getA (pm_cdi rfl dX4_filterNodes_66) (by decide +kernel) (by decide +kernel) (by decide +kernel) hs
theorem q26_69 : pm_V d 26 69 [l0, l1, l2, l3, .int xi, l5] st S Q = pm_V d 26 71 [l0, l1, l2, l3, .int xi, l5] (.int xi :: st) S Q := pv_iload (pm_cdi rfl dX4_filterNodes_69) rfl
theorem q26_71 : pm_V d 26 71 [l0, .ref xn, l2, l3, l4, l5] st S Q = pm_V d 26 72 [l0, .ref xn, l2, l3, l4, l5] (.ref xn :: st) S Q := pv_aload_n (pm_cdi rfl dX4_filterNodes_71) rfl
theorem q26_71N : pm_V d 26 71 [l0, .null, l2, l3, l4, l5] st S Q = pm_V d 26 72 [l0, .null, l2, l3, l4, l5] (.null :: st) S Q := pv_aload_nN (pm_cdi rfl dX4_filterNodes_71) rfl
theorem q26_72 (hs : pm_sh S an = .inr 0) : pm_V d 26 72 [l0, l1, l2, l3, l4, l5] (.ref an :: st) S Q = pm_V d 26 75 [l0, l1, l2, l3, l4, l5] (va_rf (pm_gr S an 0) :: st) S Q := pv_getA (pm_cdi rfl dX4_filterNodes_72) (by decide +kernel) (by decide +kernel) (by decide +kernel) hs
theorem q26_75 (hs : pm_sh S an = .inr 3) : pm_V d 26 75 [l0, l1, l2, l3, l4, l5] (.ref an :: st) S Q = pm_V d 26 78 [l0, l1, l2, l3, l4, l5] (.int (pm_gi S an 3) :: st) S Q := pv_getI (pm_cdi rfl dX4_filterNodes_75) (by decide +kernel) (by decide +kernel) (by decide +kernel) hs
theorem q26_78 (hs : pm_ar S an 0 xi = true) : pm_V d 26 78 [l0, l1, l2, l3, l4, l5] (.int vi :: .int xi :: .ref an :: st) S Q = pm_V d 26 79 [l0, l1, l2, l3, l4, l5] st (pm_szi S an xi.toNatClampNeg vi) Q := pv_iast (pm_cdi rfl dX4_filterNodes_78) hs
theorem q26_79 : pm_V d 26 79 [l0, .ref xn, l2, l3, l4, l5] st S Q = pm_V d 26 80 [l0, .ref xn, l2, l3, l4, l5] (.ref xn :: st) S Q := pv_aload_n (pm_cdi rfl dX4_filterNodes_79) rfl
theorem q26_79N : pm_V d 26 79 [l0, .null, l2, l3, l4, l5] st S Q = pm_V d 26 80 [l0, .null, l2, l3, l4, l5] (.null :: st) S Q := pv_aload_nN (pm_cdi rfl dX4_filterNodes_79) rfl
theorem q26_80 : pm_V d 26 80 [l0, l1, .ref xn, l3, l4, l5] st S Q = pm_V d 26 81 [l0, l1, .ref xn, l3, l4, l5] (.ref xn :: st) S Q := pv_aload_n (pm_cdi rfl dX4_filterNodes_80) rfl
theorem q26_80N : pm_V d 26 80 [l0, l1, .null, l3, l4, l5] st S Q = pm_V d 26 81 [l0, l1, .null, l3, l4, l5] (.null :: st) S Q := pv_aload_nN (pm_cdi rfl dX4_filterNodes_80) rfl
theorem q26_81 (hs : pm_sh S an = .inr 0) : pm_V d 26 81 [l0, l1, l2, l3, l4, l5] (.ref an :: st) S Q = pm_V d 26 84 [l0, l1, l2, l3, l4, l5] (va_rf (pm_gr S an 0) :: st) S Q := pv_getA (pm_cdi rfl dX4_filterNodes_81) (by decide +kernel) (by decide +kernel) (by decide +kernel) hs
theorem q26_84 (hs : pm_sh S an = .inr 3) : pm_V d 26 84 [l0, l1, l2, l3, l4, l5] (.ref an :: st) S Q = pm_V d 26 87 [l0, l1, l2, l3, l4, l5] (va_rf (pm_gr S an 0) :: st) S Q := pv_getA (pm_cdi rfl dX4_filterNodes_84) (by decide +kernel) (by decide +kernel) (by decide +kernel) hs
theorem q26_87 : pm_V d 26 87 [l0, l1, l2, l3, .int xi, l5] st S Q = pm_V d 26 89 [l0, l1, l2, l3, .int xi, l5] (.int xi :: st) S Q := pv_iload (pm_cdi rfl dX4_filterNodes_87) rfl
theorem q26_89 (hs : pm_ar S an 1 xi = true) : pm_V d 26 89 [l0, l1, l2, l3, l4, l5] (.int xi :: .ref an :: st) S Q = pm_V d 26 90 [l0, l1, l2, l3, l4, l5] (.long (pm_zl S an xi.toNatClampNeg) :: st) S Q := pv_lald (pm_cdi rfl dX4_filterNodes_89) hs
theorem q26_90 : pm_V d 26 90 [l0, l1, l2, l3, .int xi, l5] st S Q = pm_V d 26 92 [l0, l1, l2, l3, .int xi, l5] (.int xi :: st) S Q := pv_iload (pm_cdi rfl dX4_filterNodes_90) rfl
theorem q26_92 : pm_V d 26 92 [l0, l1, l2, l3, l4, l5] st S Q = pm_V d 26 93 [l0, l1, l2, l3, l4, l5] (.int (-1) :: st) S Q := pv_iconst (pm_cdi rfl dX4_filterNodes_92) (by decide +kernel)
theorem q26_93 (hs : pm_sh S an = .inr 0) : pm_V (d + 1) 26 93 [l0, l1, l2, l3, l4, l5] [.int v2i, .int v1i, .long v0j, .ref an] S Q = pm_N d 6 [.ref an, .long v0j, .int v1i, .int v2i] S (fun r S' => pm_V (d + 1) 26 96 [l0, l1, l2, l3, l4, l5] (r.toList ++ []) S' Q) := pv_callV (as := [.long v0j, .int v1i, .int v2i]) (pm_cdi rfl dX4_filterNodes_93) (Or.inl (by decide +kernel)) (by decide +kernel) (show _ = _ from (by decide +kernel : 3 = pm_np 6)) rfl (Nat.le_of_ble_eq_true rfl) (cl := 0) (by decide +kernel) hs
theorem q26_96 : pm_V d 26 96 [l0, l1, l2, l3, l4, l5] st S Q = pm_V d 26 114 [l0, l1, l2, l3, l4, l5] st S Q := pv_goto (pm_cdi rfl dX4_filterNodes_96) rfl
theorem q26_99 : pm_V d 26 99 [l0, l1, l2, l3, l4, .int xi] st S Q = pm_V d 26 101 [l0, l1, l2, l3, l4, .int xi] (.int xi :: st) S Q := pv_iload (pm_cdi rfl dX4_filterNodes_99) rfl
theorem q26_101 : pm_V d 26 101 [l0, l1, l2, l3, l4, l5] (.int xi :: st) S Q = if xi < 0 then pm_V d 26 104 [l0, l1, l2, l3, l4, l5] st S Q else pm_V d 26 114 [l0, l1, l2, l3, l4, l5] st S Q := pv_if_ge (pm_cdi rfl dX4_filterNodes_101) rfl
theorem q26_104 : pm_V d 26 104 [l0, .ref xn, l2, l3, l4, l5] st S Q = pm_V d 26 105 [l0, .ref xn, l2, l3, l4, l5] (.ref xn :: st) S Q := pv_aload_n (pm_cdi rfl dX4_filterNodes_104) rfl
theorem q26_104N : pm_V d 26 104 [l0, .null, l2, l3, l4, l5] st S Q = pm_V d 26 105 [l0, .null, l2, l3, l4, l5] (.null :: st) S Q := pv_aload_nN (pm_cdi rfl dX4_filterNodes_104) rfl
theorem q26_105 : pm_V d 26 105 [l0, l1, l2, l3, l4, l5] st S Q = pm_V d 26 106 [l0, l1, l2, l3, l4, l5] (.int 0 :: st) S Q := pv_iconst (pm_cdi rfl dX4_filterNodes_105) (by decide +kernel)
theorem q26_106 : pm_V d 26 106 [l0, l1, l2, l3, .int xi, l5] st S Q = pm_V d 26 108 [l0, l1, l2, l3, .int xi, l5] (.int xi :: st) S Q := pv_iload (pm_cdi rfl dX4_filterNodes_106) rfl
theorem q26_108 : pm_V d 26 108 [l0, l1, l2, l3, l4, .int xi] st S Q = pm_V d 26 110 [l0, l1, l2, l3, l4, .int xi] (.int xi :: st) S Q := pv_iload (pm_cdi rfl dX4_filterNodes_108) rfl
theorem q26_110 : pm_V d 26 110 [l0, l1, l2, l3, l4, l5] (.int xi :: st) S Q = pm_V d 26 111 [l0, l1, l2, l3, l4, l5] (.int (-xi) :: st) S Q := pv_ineg (pm_cdi rfl dX4_filterNodes_110)
theorem q26_111 : pm_V (d + 1) 26 111 [l0, l1, l2, l3, l4, l5] [.int v3i, .int v2i, .int v1i, v0v] S Q = pm_N d 28 [v0v, .int v1i, .int v2i, .int v3i] S (fun r S' => pm_V (d + 1) 26 114 [l0, l1, l2, l3, l4, l5] (r.toList ++ []) S' Q) := pv_callS (as := [v0v, .int v1i, .int v2i, .int v3i]) (pm_cdi rfl dX4_filterNodes_111) (by decide +kernel) (by decide +kernel) (show _ = _ from (by decide +kernel : 4 = pm_np 28)) rfl (Nat.le_of_ble_eq_true rfl)
theorem q26_114 : pm_V d 26 114 [l0, l1, l2, .int yi, .int xi, l5] st S Q = pm_V d 26 117 [l0, l1, l2, .int yi, .int (xi + 1), l5] st S Q := pv_iinc (pm_cdi rfl dX4_filterNodes_114) rfl (by decide +kernel) rfl
theorem q26_117 : pm_V d 26 117 [l0, l1, l2, l3, l4, l5] st S Q = pm_V d 26 8 [l0, l1, l2, l3, l4, l5] st S Q := pv_goto (pm_cdi rfl dX4_filterNodes_117) rfl
theorem q26_120 : pm_V d 26 120 [l0, l1, l2, l3, l4, l5] [] S Q = Q none S := pv_rV (pm_cdi rfl dX4_filterNodes_120) (by decide +kernel)
theorem q26_e : pm_N d 26 [.ref an, .ref v0n, .ref v1n] S Q = pm_V d 26 0 [.ref an, .ref v0n, .ref v1n, pm_j, pm_j, pm_j] [] S Q := pv_ent (Nat.le_of_ble_eq_true rfl) rfl
/-! 27: ViewsJoins$Reckoner.filterArcs(LViewsJoins$Graph;LViewsJoins$Graph;)V -/
theorem dX4_filterArcs_0 : decode cX4_filterArcs 0 = .ok (.aload_n 1, 1) := by decide +kernel
theorem dX4_filterArcs_1 : decode cX4_filterArcs 1 = .ok (.getfield 123, 3) := by decide +kernel
theorem dX4_filterArcs_4 : decode cX4_filterArcs 4 = .ok (.istore_n 3, 1) := by decide +kernel
theorem dX4_filterArcs_5 : decode cX4_filterArcs 5 = .ok (.iconst 0, 1) := by decide +kernel
theorem dX4_filterArcs_6 : decode cX4_filterArcs 6 = .ok (.istore 4, 2) := by decide +kernel
theorem dX4_filterArcs_8 : decode cX4_filterArcs 8 = .ok (.iload 4, 2) := by decide +kernel
theorem dX4_filterArcs_10 : decode cX4_filterArcs 10 = .ok (.aload_n 2, 1) := by decide +kernel
theorem dX4_filterArcs_11 : decode cX4_filterArcs 11 = .ok (.getfield 126, 3) := by decide +kernel
theorem dX4_filterArcs_14 : decode cX4_filterArcs 14 = .ok (.getfield 103, 3) := by decide +kernel
theorem dX4_filterArcs_17 : decode cX4_filterArcs 17 = .ok (.if_icmp .ge 128, 3) := by decide +kernel
theorem dX4_filterArcs_20 : decode cX4_filterArcs 20 = .ok (.aload_n 1, 1) := by decide +kernel
theorem dX4_filterArcs_21 : decode cX4_filterArcs 21 = .ok (.getfield 50, 3) := by decide +kernel
theorem dX4_filterArcs_24 : decode cX4_filterArcs 24 = .ok (.ifCond .ne 121, 3) := by decide +kernel
theorem dX4_filterArcs_27 : decode cX4_filterArcs 27 = .ok (.aload_n 0, 1) := by decide +kernel
theorem dX4_filterArcs_28 : decode cX4_filterArcs 28 = .ok (.getfield 30, 3) := by decide +kernel
theorem dX4_filterArcs_31 : decode cX4_filterArcs 31 = .ok (.aload_n 2, 1) := by decide +kernel
theorem dX4_filterArcs_32 : decode cX4_filterArcs 32 = .ok (.getfield 129, 3) := by decide +kernel
theorem dX4_filterArcs_35 : decode cX4_filterArcs 35 = .ok (.iload 4, 2) := by decide +kernel
theorem dX4_filterArcs_37 : decode cX4_filterArcs 37 = .ok (.iaload, 1) := by decide +kernel
theorem dX4_filterArcs_38 : decode cX4_filterArcs 38 = .ok (.iaload, 1) := by decide +kernel
theorem dX4_filterArcs_39 : decode cX4_filterArcs 39 = .ok (.istore 5, 2) := by decide +kernel
theorem dX4_filterArcs_41 : decode cX4_filterArcs 41 = .ok (.aload_n 0, 1) := by decide +kernel
theorem dX4_filterArcs_42 : decode cX4_filterArcs 42 = .ok (.getfield 30, 3) := by decide +kernel
theorem dX4_filterArcs_45 : decode cX4_filterArcs 45 = .ok (.aload_n 2, 1) := by decide +kernel
theorem dX4_filterArcs_46 : decode cX4_filterArcs 46 = .ok (.getfield 132, 3) := by decide +kernel
theorem dX4_filterArcs_49 : decode cX4_filterArcs 49 = .ok (.iload 4, 2) := by decide +kernel
theorem dX4_filterArcs_51 : decode cX4_filterArcs 51 = .ok (.iaload, 1) := by decide +kernel
theorem dX4_filterArcs_52 : decode cX4_filterArcs 52 = .ok (.iaload, 1) := by decide +kernel
theorem dX4_filterArcs_53 : decode cX4_filterArcs 53 = .ok (.istore 6, 2) := by decide +kernel
theorem dX4_filterArcs_55 : decode cX4_filterArcs 55 = .ok (.iload 5, 2) := by decide +kernel
theorem dX4_filterArcs_57 : decode cX4_filterArcs 57 = .ok (.iconst (-1), 1) := by decide +kernel
theorem dX4_filterArcs_58 : decode cX4_filterArcs 58 = .ok (.if_icmp .eq 81, 3) := by decide +kernel
theorem dX4_filterArcs_61 : decode cX4_filterArcs 61 = .ok (.iload 6, 2) := by decide +kernel
theorem dX4_filterArcs_63 : decode cX4_filterArcs 63 = .ok (.iconst (-1), 1) := by decide +kernel
theorem dX4_filterArcs_64 : decode cX4_filterArcs 64 = .ok (.if_icmp .ne 6, 3) := by decide +kernel
theorem dX4_filterArcs_67 : decode cX4_filterArcs 67 = .ok (.goto 72, 3) := by decide +kernel
theorem dX4_filterArcs_70 : decode cX4_filterArcs 70 = .ok (.iload_n 3, 1) := by decide +kernel
theorem dX4_filterArcs_71 : decode cX4_filterArcs 71 = .ok (.iconst (-1), 1) := by decide +kernel
theorem dX4_filterArcs_72 : decode cX4_filterArcs 72 = .ok (.if_icmp .ne 7, 3) := by decide +kernel
theorem dX4_filterArcs_75 : decode cX4_filterArcs 75 = .ok (.iconst 1, 1) := by decide +kernel
theorem dX4_filterArcs_76 : decode cX4_filterArcs 76 = .ok (.goto 16, 3) := by decide +kernel
theorem dX4_filterArcs_79 : decode cX4_filterArcs 79 = .ok (.aload_n 0, 1) := by decide +kernel
theorem dX4_filterArcs_80 : decode cX4_filterArcs 80 = .ok (.getfield 12, 3) := by decide +kernel
theorem dX4_filterArcs_83 : decode cX4_filterArcs 83 = .ok (.aload_n 2, 1) := by decide +kernel
theorem dX4_filterArcs_84 : decode cX4_filterArcs 84 = .ok (.iconst 1, 1) := by decide +kernel
theorem dX4_filterArcs_85 : decode cX4_filterArcs 85 = .ok (.iload 4, 2) := by decide +kernel
theorem dX4_filterArcs_87 : decode cX4_filterArcs 87 = .ok (.iload_n 3, 1) := by decide +kernel
theorem dX4_filterArcs_88 : decode cX4_filterArcs 88 = .ok (.iconst 0, 1) := by decide +kernel
theorem dX4_filterArcs_89 : decode cX4_filterArcs 89 = .ok (.invokevirtual 108, 3) := by decide +kernel
theorem dX4_filterArcs_92 : decode cX4_filterArcs 92 = .ok (.istore 7, 2) := by decide +kernel
theorem dX4_filterArcs_94 : decode cX4_filterArcs 94 = .ok (.iload 7, 2) := by decide +kernel
theorem dX4_filterArcs_96 : decode cX4_filterArcs 96 = .ok (.iconst 1, 1) := by decide +kernel
theorem dX4_filterArcs_97 : decode cX4_filterArcs 97 = .ok (.if_icmp .ne 27, 3) := by decide +kernel
theorem dX4_filterArcs_100 : decode cX4_filterArcs 100 = .ok (.aload_n 1, 1) := by decide +kernel
theorem dX4_filterArcs_101 : decode cX4_filterArcs 101 = .ok (.iload 5, 2) := by decide +kernel
theorem dX4_filterArcs_103 : decode cX4_filterArcs 103 = .ok (.iload 6, 2) := by decide +kernel
theorem dX4_filterArcs_105 : decode cX4_filterArcs 105 = .ok (.aload_n 2, 1) := by decide +kernel
theorem dX4_filterArcs_106 : decode cX4_filterArcs 106 = .ok (.getfield 126, 3) := by decide +kernel
theorem dX4_filterArcs_109 : decode cX4_filterArcs 109 = .ok (.getfield 112, 3) := by decide +kernel
theorem dX4_filterArcs_112 : decode cX4_filterArcs 112 = .ok (.iload 4, 2) := by decide +kernel
theorem dX4_filterArcs_114 : decode cX4_filterArcs 114 = .ok (.laload, 1) := by decide +kernel
theorem dX4_filterArcs_115 : decode cX4_filterArcs 115 = .ok (.iload 4, 2) := by decide +kernel
theorem dX4_filterArcs_117 : decode cX4_filterArcs 117 = .ok (.iconst (-1), 1) := by decide +kernel
theorem dX4_filterArcs_118 : decode cX4_filterArcs 118 = .ok (.invokevirtual 135, 3) := by decide +kernel
theorem dX4_filterArcs_121 : decode cX4_filterArcs 121 = .ok (.goto 18, 3) := by decide +kernel
theorem dX4_filterArcs_124 : decode cX4_filterArcs 124 = .ok (.iload 7, 2) := by decide +kernel
theorem dX4_filterArcs_126 : decode cX4_filterArcs 126 = .ok (.ifCond .ge 13, 3) := by decide +kernel
theorem dX4_filterArcs_129 : decode cX4_filterArcs 129 = .ok (.aload_n 1, 1) := by decide +kernel
theorem dX4_filterArcs_130 : decode cX4_filterArcs 130 = .ok (.iconst 1, 1) := by decide +kernel
theorem dX4_filterArcs_131 : decode cX4_filterArcs 131 = .ok (.iload 4, 2) := by decide +kernel
theorem dX4_filterArcs_133 : decode cX4_filterArcs 133 = .ok (.iload 7, 2) := by decide +kernel
theorem dX4_filterArcs_135 : decode cX4_filterArcs 135 = .ok (.ineg, 1) := by decide +kernel
theorem dX4_filterArcs_136 : decode cX4_filterArcs 136 = .ok (.invokestatic 119, 3) := by decide +kernel
theorem dX4_filterArcs_139 : decode cX4_filterArcs 139 = .ok (.iinc 4 1, 3) := by decide +kernel
theorem dX4_filterArcs_142 : decode cX4_filterArcs 142 = .ok (.goto (-134), 3) := by decide +kernel
theorem dX4_filterArcs_145 : decode cX4_filterArcs 145 = .ok (.return_, 1) := by decide +kernel
theorem q27_0 : pm_V d 27 0 [l0, .ref xn, l2, l3, l4, l5, l6, l7] st S Q = pm_V d 27 1 [l0, .ref xn, l2, l3, l4, l5, l6, l7] (.ref xn :: st) S Q := pv_aload_n (pm_cdi rfl dX4_filterArcs_0) rfl
theorem q27_0N : pm_V d 27 0 [l0, .null, l2, l3, l4, l5, l6, l7] st S Q = pm_V d 27 1 [l0, .null, l2, l3, l4, l5, l6, l7] (.null :: st) S Q := pv_aload_nN (pm_cdi rfl dX4_filterArcs_0) rfl
theorem q27_1 (hs : pm_sh S an = .inr 0) : pm_V d 27 1 [l0, l1, l2, l3, l4, l5, l6, l7] (.ref an :: st) S Q = pm_V d 27 4 [l0, l1, l2, l3, l4, l5, l6, l7] (.int (pm_gi S an 10) :: st) S Q := pv_getI (pm_cdi rfl dX4_filterArcs_1) (by decide +kernel) (by decide +kernel) (by decide +kernel) hs
theorem q27_4 : pm_V d 27 4 [l0, l1, .ref yn, l3, l4, l5, l6, l7] (.int xi :: st) S Q = pm_V d 27 5 [l0, l1, .ref yn, .int xi, l4, l5, l6, l7] st S Q := pv_istore_n (pm_cdi rfl dX4_filterArcs_4) rfl
theorem q27_5 : pm_V d 27 5 [l0, l1, l2, l3, l4, l5, l6, l7] st S Q = pm_V d 27 6 [l0, l1, l2, l3, l4, l5, l6, l7] (.int 0 :: st) S Q := pv_iconst (pm_cdi rfl dX4_filterArcs_5) (by decide +kernel)
theorem q27_6 : pm_V d 27 6 [l0, l1, l2, .int yi, l4, l5, l6, l7] (.int xi :: st) S Q = pm_V d 27 8 [l0, l1, l2, .int yi, .int xi, l5, l6, l7] st S Q := pv_istore (pm_cdi rfl dX4_filterArcs_6) rfl
theorem q27_8 : pm_V d 27 8 [l0, l1, l2, l3, .int xi, l5, l6, l7] st S Q = pm_V d 27 10 [l0, l1, l2, l3, .int xi, l5, l6, l7] (.int xi :: st) S Q := pv_iload (pm_cdi rfl dX4_filterArcs_8) rfl
theorem q27_10 : pm_V d 27 10 [l0, l1, .ref xn, l3, l4, l5, l6, l7] st S Q = pm_V d 27 11 [l0, l1, .ref xn, l3, l4, l5, l6, l7] (.ref xn :: st) S Q := pv_aload_n (pm_cdi rfl dX4_filterArcs_10) rfl
theorem q27_10N : pm_V d 27 10 [l0, l1, .null, l3, l4, l5, l6, l7] st S Q = pm_V d 27 11 [l0, l1, .null, l3, l4, l5, l6, l7] (.null :: st) S Q := pv_aload_nN (pm_cdi rfl dX4_filterArcs_10) rfl
theorem q27_11 (hs : pm_sh S an = .inr 0) : pm_V d 27 11 [l0, l1, l2, l3, l4, l5, l6, l7] (.ref an :: st) S Q = pm_V d 27 14 [l0, l1, l2, l3, l4, l5, l6, l7] (va_rf (pm_gr S an 1) :: st) S Q := pv_getA (pm_cdi rfl dX4_filterArcs_11) (by decide +kernel) (by decide +kernel) (by decide +kernel) hs
theorem q27_14 (hs : pm_sh S an = .inr 3) : pm_V d 27 14 [l0, l1, l2, l3, l4, l5, l6, l7] (.ref an :: st) S Q = pm_V d 27 17 [l0, l1, l2, l3, l4, l5, l6, l7] (.int (pm_gi S an 3) :: st) S Q := pv_getI (pm_cdi rfl dX4_filterArcs_14) (by decide +kernel) (by decide +kernel) (by decide +kernel) hs
theorem q27_17 : pm_V d 27 17 [l0, l1, l2, l3, l4, l5, l6, l7] (.int yi :: .int xi :: st) S Q = if xi < yi then pm_V d 27 20 [l0, l1, l2, l3, l4, l5, l6, l7] st S Q else pm_V d 27 145 [l0, l1, l2, l3, l4, l5, l6, l7] st S Q := pv_icmp_ge (pm_cdi rfl dX4_filterArcs_17) rfl
theorem q27_20 : pm_V d 27 20 [l0, .ref xn, l2, l3, l4, l5, l6, l7] st S Q = pm_V d 27 21 [l0, .ref xn, l2, l3, l4, l5, l6, l7] (.ref xn :: st) S Q := pv_aload_n (pm_cdi rfl dX4_filterArcs_20) rfl
theorem q27_20N : pm_V d 27 20 [l0, .null, l2, l3, l4, l5, l6, l7] st S Q = pm_V d 27 21 [l0, .null, l2, l3, l4, l5, l6, l7] (.null :: st) S Q := pv_aload_nN (pm_cdi rfl dX4_filterArcs_20) rfl
theorem q27_21 (hs : pm_sh S an = .inr 0) : pm_V d 27 21 [l0, l1, l2, l3, l4, l5, l6, l7] (.ref an :: st) S Q = pm_V d 27 24 [l0, l1, l2, l3, l4, l5, l6, l7] (.int (pm_gi S an 5) :: st) S Q := pv_getI (pm_cdi rfl dX4_filterArcs_21) (by decide +kernel) (by decide +kernel) (by decide +kernel) hs
theorem q27_24 : pm_V d 27 24 [l0, l1, l2, l3, l4, l5, l6, l7] (.int xi :: st) S Q = if xi = 0 then pm_V d 27 27 [l0, l1, l2, l3, l4, l5, l6, l7] st S Q else pm_V d 27 145 [l0, l1, l2, l3, l4, l5, l6, l7] st S Q := pv_if_ne (pm_cdi rfl dX4_filterArcs_24) rfl
theorem q27_27 : pm_V d 27 27 [.ref xn, l1, l2, l3, l4, l5, l6, l7] st S Q = pm_V d 27 28 [.ref xn, l1, l2, l3, l4, l5, l6, l7] (.ref xn :: st) S Q := pv_aload_n (pm_cdi rfl dX4_filterArcs_27) rfl
theorem q27_28 (hs : pm_sh S an = .inr 4) : pm_V d 27 28 [l0, l1, l2, l3, l4, l5, l6, l7] (.ref an :: st) S Q = pm_V d 27 31 [l0, l1, l2, l3, l4, l5, l6, l7] (va_rf (pm_gr S an 3) :: st) S Q := pv_getA (pm_cdi rfl dX4_filterArcs_28) (by decide +kernel) (by decide +kernel) (by decide +kernel) hs
theorem q27_31 : pm_V d 27 31 [l0, l1, .ref xn, l3, l4, l5, l6, l7] st S Q = pm_V d 27 32 [l0, l1, .ref xn, l3, l4, l5, l6, l7] (.ref xn :: st) S Q := pv_aload_n (pm_cdi rfl dX4_filterArcs_31) rfl
theorem q27_31N : pm_V d 27 31 [l0, l1, .null, l3, l4, l5, l6, l7] st S Q = pm_V d 27 32 [l0, l1, .null, l3, l4, l5, l6, l7] (.null :: st) S Q := pv_aload_nN (pm_cdi rfl dX4_filterArcs_31) rfl
theorem q27_32 (hs : pm_sh S an = .inr 0) : pm_V d 27 32 [l0, l1, l2, l3, l4, l5, l6, l7] (.ref an :: st) S Q = pm_V d 27 35 [l0, l1, l2, l3, l4, l5, l6, l7] (va_rf (pm_gr S an 2) :: st) S Q := pv_getA (pm_cdi rfl dX4_filterArcs_32) (by decide +kernel) (by decide +kernel) (by decide +kernel) hs
theorem q27_35 : pm_V d 27 35 [l0, l1, l2, l3, .int xi, l5, l6, l7] st S Q = pm_V d 27 37 [l0, l1, l2, l3, .int xi, l5, l6, l7] (.int xi :: st) S Q := pv_iload (pm_cdi rfl dX4_filterArcs_35) rfl
theorem q27_37 (hs : pm_ar S an 0 xi = true) : pm_V d 27 37 [l0, l1, l2, l3, l4, l5, l6, l7] (.int xi :: .ref an :: st) S Q = pm_V d 27 38 [l0, l1, l2, l3, l4, l5, l6, l7] (.int (pm_zi S an xi.toNatClampNeg) :: st) S Q := pv_iald (pm_cdi rfl dX4_filterArcs_37) hs
theorem q27_38 (hs : pm_ar S an 0 xi = true) : pm_V d 27 38 [l0, l1, l2, l3, l4, l5, l6, l7] (.int xi :: .ref an :: st) S Q = pm_V d 27 39 [l0, l1, l2, l3, l4, l5, l6, l7] (.int (pm_zi S an xi.toNatClampNeg) :: st) S Q := pv_iald (pm_cdi rfl dX4_filterArcs_38) hs
theorem q27_39 : pm_V d 27 39 [l0, l1, l2, l3, .int yi, l5, l6, l7] (.int xi :: st) S Q = pm_V d 27 41 [l0, l1, l2, l3, .int yi, .int xi, l6, l7] st S Q := pv_istore (pm_cdi rfl dX4_filterArcs_39) rfl
theorem q27_41 : pm_V d 27 41 [.ref xn, l1, l2, l3, l4, l5, l6, l7] st S Q = pm_V d 27 42 [.ref xn, l1, l2, l3, l4, l5, l6, l7] (.ref xn :: st) S Q := pv_aload_n (pm_cdi rfl dX4_filterArcs_41) rfl
theorem q27_42 (hs : pm_sh S an = .inr 4) : pm_V d 27 42 [l0, l1, l2, l3, l4, l5, l6, l7] (.ref an :: st) S Q = pm_V d 27 45 [l0, l1, l2, l3, l4, l5, l6, l7] (va_rf (pm_gr S an 3) :: st) S Q := pv_getA (pm_cdi rfl dX4_filterArcs_42) (by decide +kernel) (by decide +kernel) (by decide +kernel) hs
theorem q27_45 : pm_V d 27 45 [l0, l1, .ref xn, l3, l4, l5, l6, l7] st S Q = pm_V d 27 46 [l0, l1, .ref xn, l3, l4, l5, l6, l7] (.ref xn :: st) S Q := pv_aload_n (pm_cdi rfl dX4_filterArcs_45) rfl
theorem q27_45N : pm_V d 27 45 [l0, l1, .null, l3, l4, l5, l6, l7] st S Q = pm_V d 27 46 [l0, l1, .null, l3, l4, l5, l6, l7] (.null :: st) S Q := pv_aload_nN (pm_cdi rfl dX4_filterArcs_45) rfl
theorem q27_46 (hs : pm_sh S an = .inr 0) : pm_V d 27 46 [l0, l1, l2, l3, l4, l5, l6, l7] (.ref an :: st) S Q = pm_V d 27 49 [l0, l1, l2, l3, l4, l5, l6, l7] (va_rf (pm_gr S an 3) :: st) S Q := pv_getA (pm_cdi rfl dX4_filterArcs_46) (by decide +kernel) (by decide +kernel) (by decide +kernel) hs
theorem q27_49 : pm_V d 27 49 [l0, l1, l2, l3, .int xi, l5, l6, l7] st S Q = pm_V d 27 51 [l0, l1, l2, l3, .int xi, l5, l6, l7] (.int xi :: st) S Q := pv_iload (pm_cdi rfl dX4_filterArcs_49) rfl
theorem q27_51 (hs : pm_ar S an 0 xi = true) : pm_V d 27 51 [l0, l1, l2, l3, l4, l5, l6, l7] (.int xi :: .ref an :: st) S Q = pm_V d 27 52 [l0, l1, l2, l3, l4, l5, l6, l7] (.int (pm_zi S an xi.toNatClampNeg) :: st) S Q := pv_iald (pm_cdi rfl dX4_filterArcs_51) hs
theorem q27_52 (hs : pm_ar S an 0 xi = true) : pm_V d 27 52 [l0, l1, l2, l3, l4, l5, l6, l7] (.int xi :: .ref an :: st) S Q = pm_V d 27 53 [l0, l1, l2, l3, l4, l5, l6, l7] (.int (pm_zi S an xi.toNatClampNeg) :: st) S Q := pv_iald (pm_cdi rfl dX4_filterArcs_52) hs
theorem q27_53 : pm_V d 27 53 [l0, l1, l2, l3, l4, .int yi, l6, l7] (.int xi :: st) S Q = pm_V d 27 55 [l0, l1, l2, l3, l4, .int yi, .int xi, l7] st S Q := pv_istore (pm_cdi rfl dX4_filterArcs_53) rfl
theorem q27_55 : pm_V d 27 55 [l0, l1, l2, l3, l4, .int xi, l6, l7] st S Q = pm_V d 27 57 [l0, l1, l2, l3, l4, .int xi, l6, l7] (.int xi :: st) S Q := pv_iload (pm_cdi rfl dX4_filterArcs_55) rfl
theorem q27_57 : pm_V d 27 57 [l0, l1, l2, l3, l4, l5, l6, l7] st S Q = pm_V d 27 58 [l0, l1, l2, l3, l4, l5, l6, l7] (.int (-1) :: st) S Q := pv_iconst (pm_cdi rfl dX4_filterArcs_57) (by decide +kernel)
theorem q27_58 : pm_V d 27 58 [l0, l1, l2, l3, l4, l5, l6, l7] (.int yi :: .int xi :: st) S Q = if xi = yi then pm_V d 27 139 [l0, l1, l2, l3, l4, l5, l6, l7] st S Q else pm_V d 27 61 [l0, l1, l2, l3, l4, l5, l6, l7] st S Q := pv_icmp_eq (pm_cdi rfl dX4_filterArcs_58) rfl
theorem q27_61 : pm_V d 27 61 [l0, l1, l2, l3, l4, l5, .int xi, l7] st S Q = pm_V d 27 63 [l0, l1, l2, l3, l4, l5, .int xi, l7] (.int xi :: st) S Q := pv_iload (pm_cdi rfl dX4_filterArcs_61) rfl
theorem q27_63 : pm_V d 27 63 [l0, l1, l2, l3, l4, l5, l6, l7] st S Q = pm_V d 27 64 [l0, l1, l2, l3, l4, l5, l6, l7] (.int (-1) :: st) S Q := pv_iconst (pm_cdi rfl dX4_filterArcs_63) (by decide +kernel)
theorem q27_64 : pm_V d 27 64 [l0, l1, l2, l3, l4, l5, l6, l7] (.int yi :: .int xi :: st) S Q = if xi = yi then pm_V d 27 67 [l0, l1, l2, l3, l4, l5, l6, l7] st S Q else pm_V d 27 70 [l0, l1, l2, l3, l4, l5, l6, l7] st S Q := pv_icmp_ne (pm_cdi rfl dX4_filterArcs_64) rfl
theorem q27_67 : pm_V d 27 67 [l0, l1, l2, l3, l4, l5, l6, l7] st S Q = pm_V d 27 139 [l0, l1, l2, l3, l4, l5, l6, l7] st S Q := pv_goto (pm_cdi rfl dX4_filterArcs_67) rfl
theorem q27_70 : pm_V d 27 70 [l0, l1, l2, .int xi, l4, l5, l6, l7] st S Q = pm_V d 27 71 [l0, l1, l2, .int xi, l4, l5, l6, l7] (.int xi :: st) S Q := pv_iload_n (pm_cdi rfl dX4_filterArcs_70) rfl
theorem q27_71 : pm_V d 27 71 [l0, l1, l2, l3, l4, l5, l6, l7] st S Q = pm_V d 27 72 [l0, l1, l2, l3, l4, l5, l6, l7] (.int (-1) :: st) S Q := pv_iconst (pm_cdi rfl dX4_filterArcs_71) (by decide +kernel)
theorem q27_72 : pm_V d 27 72 [l0, l1, l2, l3, l4, l5, l6, l7] (.int yi :: .int xi :: st) S Q = if xi = yi then pm_V d 27 75 [l0, l1, l2, l3, l4, l5, l6, l7] st S Q else pm_V d 27 79 [l0, l1, l2, l3, l4, l5, l6, l7] st S Q := pv_icmp_ne (pm_cdi rfl dX4_filterArcs_72) rfl
theorem q27_75 : pm_V d 27 75 [l0, l1, l2, l3, l4, l5, l6, l7] st S Q = pm_V d 27 76 [l0, l1, l2, l3, l4, l5, l6, l7] (.int 1 :: st) S Q := pv_iconst (pm_cdi rfl dX4_filterArcs_75) (by decide +kernel)
theorem q27_76 : pm_V d 27 76 [l0, l1, l2, l3, l4, l5, l6, l7] st S Q = pm_V d 27 92 [l0, l1, l2, l3, l4, l5, l6, l7] st S Q := pv_goto (pm_cdi rfl dX4_filterArcs_76) rfl
theorem q27_79 : pm_V d 27 79 [.ref xn, l1, l2, l3, l4, l5, l6, l7] st S Q = pm_V d 27 80 [.ref xn, l1, l2, l3, l4, l5, l6, l7] (.ref xn :: st) S Q := pv_aload_n (pm_cdi rfl dX4_filterArcs_79) rfl
theorem q27_80 (hs : pm_sh S an = .inr 4) : pm_V d 27 80 [l0, l1, l2, l3, l4, l5, l6, l7] (.ref an :: st) S Q = pm_V d 27 83 [l0, l1, l2, l3, l4, l5, l6, l7] (va_rf (pm_gr S an 0) :: st) S Q := pv_getA (pm_cdi rfl dX4_filterArcs_80) (by decide +kernel) (by decide +kernel) (by decide +kernel) hs
theorem q27_83 : pm_V d 27 83 [l0, l1, .ref xn, l3, l4, l5, l6, l7] st S Q = pm_V d 27 84 [l0, l1, .ref xn, l3, l4, l5, l6, l7] (.ref xn :: st) S Q := pv_aload_n (pm_cdi rfl dX4_filterArcs_83) rfl
theorem q27_83N : pm_V d 27 83 [l0, l1, .null, l3, l4, l5, l6, l7] st S Q = pm_V d 27 84 [l0, l1, .null, l3, l4, l5, l6, l7] (.null :: st) S Q := pv_aload_nN (pm_cdi rfl dX4_filterArcs_83) rfl
theorem q27_84 : pm_V d 27 84 [l0, l1, l2, l3, l4, l5, l6, l7] st S Q = pm_V d 27 85 [l0, l1, l2, l3, l4, l5, l6, l7] (.int 1 :: st) S Q := pv_iconst (pm_cdi rfl dX4_filterArcs_84) (by decide +kernel)
theorem q27_85 : pm_V d 27 85 [l0, l1, l2, l3, .int xi, l5, l6, l7] st S Q = pm_V d 27 87 [l0, l1, l2, l3, .int xi, l5, l6, l7] (.int xi :: st) S Q := pv_iload (pm_cdi rfl dX4_filterArcs_85) rfl
theorem q27_87 : pm_V d 27 87 [l0, l1, l2, .int xi, l4, l5, l6, l7] st S Q = pm_V d 27 88 [l0, l1, l2, .int xi, l4, l5, l6, l7] (.int xi :: st) S Q := pv_iload_n (pm_cdi rfl dX4_filterArcs_87) rfl
theorem q27_88 : pm_V d 27 88 [l0, l1, l2, l3, l4, l5, l6, l7] st S Q = pm_V d 27 89 [l0, l1, l2, l3, l4, l5, l6, l7] (.int 0 :: st) S Q := pv_iconst (pm_cdi rfl dX4_filterArcs_88) (by decide +kernel)
theorem q27_89 (hs : pm_sh S an = .inr 5) : pm_V (d + 1) 27 89 [l0, l1, l2, l3, l4, l5, l6, l7] [.int v4i, .int v3i, .int v2i, .int v1i, v0v, .ref an] S Q = pm_N d 49 [.ref an, v0v, .int v1i, .int v2i, .int v3i, .int v4i] S (fun r S' => pm_V (d + 1) 27 92 [l0, l1, l2, l3, l4, l5, l6, l7] (r.toList ++ []) S' Q) := pv_callV (as := [v0v, .int v1i, .int v2i, .int v3i, .int v4i]) (pm_cdi rfl dX4_filterArcs_89) (Or.inr (by decide +kernel)) (by decide +kernel) (show _ = _ from (by decide +kernel : 5 = pm_np 49)) rfl (Nat.le_of_ble_eq_true rfl) (cl := 5) (by decide +kernel) hs
theorem q27_92 : pm_V d 27 92 [l0, l1, l2, l3, l4, l5, .int yi, l7] (.int xi :: st) S Q = pm_V d 27 94 [l0, l1, l2, l3, l4, l5, .int yi, .int xi] st S Q := pv_istore (pm_cdi rfl dX4_filterArcs_92) rfl
theorem q27_94 : pm_V d 27 94 [l0, l1, l2, l3, l4, l5, l6, .int xi] st S Q = pm_V d 27 96 [l0, l1, l2, l3, l4, l5, l6, .int xi] (.int xi :: st) S Q := pv_iload (pm_cdi rfl dX4_filterArcs_94) rfl
theorem q27_96 : pm_V d 27 96 [l0, l1, l2, l3, l4, l5, l6, l7] st S Q = pm_V d 27 97 [l0, l1, l2, l3, l4, l5, l6, l7] (.int 1 :: st) S Q := pv_iconst (pm_cdi rfl dX4_filterArcs_96) (by decide +kernel)
theorem q27_97 : pm_V d 27 97 [l0, l1, l2, l3, l4, l5, l6, l7] (.int yi :: .int xi :: st) S Q = if xi = yi then pm_V d 27 100 [l0, l1, l2, l3, l4, l5, l6, l7] st S Q else pm_V d 27 124 [l0, l1, l2, l3, l4, l5, l6, l7] st S Q := pv_icmp_ne (pm_cdi rfl dX4_filterArcs_97) rfl
theorem q27_100 : pm_V d 27 100 [l0, .ref xn, l2, l3, l4, l5, l6, l7] st S Q = pm_V d 27 101 [l0, .ref xn, l2, l3, l4, l5, l6, l7] (.ref xn :: st) S Q := pv_aload_n (pm_cdi rfl dX4_filterArcs_100) rfl
theorem q27_100N : pm_V d 27 100 [l0, .null, l2, l3, l4, l5, l6, l7] st S Q = pm_V d 27 101 [l0, .null, l2, l3, l4, l5, l6, l7] (.null :: st) S Q := pv_aload_nN (pm_cdi rfl dX4_filterArcs_100) rfl
theorem q27_101 : pm_V d 27 101 [l0, l1, l2, l3, l4, .int xi, l6, l7] st S Q = pm_V d 27 103 [l0, l1, l2, l3, l4, .int xi, l6, l7] (.int xi :: st) S Q := pv_iload (pm_cdi rfl dX4_filterArcs_101) rfl
theorem q27_103 : pm_V d 27 103 [l0, l1, l2, l3, l4, l5, .int xi, l7] st S Q = pm_V d 27 105 [l0, l1, l2, l3, l4, l5, .int xi, l7] (.int xi :: st) S Q := pv_iload (pm_cdi rfl dX4_filterArcs_103) rfl
theorem q27_105 : pm_V d 27 105 [l0, l1, .ref xn, l3, l4, l5, l6, l7] st S Q = pm_V d 27 106 [l0, l1, .ref xn, l3, l4, l5, l6, l7] (.ref xn :: st) S Q := pv_aload_n (pm_cdi rfl dX4_filterArcs_105) rfl
theorem q27_105N : pm_V d 27 105 [l0, l1, .null, l3, l4, l5, l6, l7] st S Q = pm_V d 27 106 [l0, l1, .null, l3, l4, l5, l6, l7] (.null :: st) S Q := pv_aload_nN (pm_cdi rfl dX4_filterArcs_105) rfl
theorem q27_106 (hs : pm_sh S an = .inr 0) : pm_V d 27 106 [l0, l1, l2, l3, l4, l5, l6, l7] (.ref an :: st) S Q = pm_V d 27 109 [l0, l1, l2, l3, l4, l5, l6, l7] (va_rf (pm_gr S an 1) :: st) S Q := pv_getA (pm_cdi rfl dX4_filterArcs_106) (by decide +kernel) (by decide +kernel) (by decide +kernel) hs
theorem q27_109 (hs : pm_sh S an = .inr 3) : pm_V d 27 109 [l0, l1, l2, l3, l4, l5, l6, l7] (.ref an :: st) S Q = pm_V d 27 112 [l0, l1, l2, l3, l4, l5, l6, l7] (va_rf (pm_gr S an 0) :: st) S Q := pv_getA (pm_cdi rfl dX4_filterArcs_109) (by decide +kernel) (by decide +kernel) (by decide +kernel) hs
theorem q27_112 : pm_V d 27 112 [l0, l1, l2, l3, .int xi, l5, l6, l7] st S Q = pm_V d 27 114 [l0, l1, l2, l3, .int xi, l5, l6, l7] (.int xi :: st) S Q := pv_iload (pm_cdi rfl dX4_filterArcs_112) rfl
theorem q27_114 (hs : pm_ar S an 1 xi = true) : pm_V d 27 114 [l0, l1, l2, l3, l4, l5, l6, l7] (.int xi :: .ref an :: st) S Q = pm_V d 27 115 [l0, l1, l2, l3, l4, l5, l6, l7] (.long (pm_zl S an xi.toNatClampNeg) :: st) S Q := pv_lald (pm_cdi rfl dX4_filterArcs_114) hs
theorem q27_115 : pm_V d 27 115 [l0, l1, l2, l3, .int xi, l5, l6, l7] st S Q = pm_V d 27 117 [l0, l1, l2, l3, .int xi, l5, l6, l7] (.int xi :: st) S Q := pv_iload (pm_cdi rfl dX4_filterArcs_115) rfl
theorem q27_117 : pm_V d 27 117 [l0, l1, l2, l3, l4, l5, l6, l7] st S Q = pm_V d 27 118 [l0, l1, l2, l3, l4, l5, l6, l7] (.int (-1) :: st) S Q := pv_iconst (pm_cdi rfl dX4_filterArcs_117) (by decide +kernel)
theorem q27_118 (hs : pm_sh S an = .inr 0) : pm_V (d + 1) 27 118 [l0, l1, l2, l3, l4, l5, l6, l7] [.int v4i, .int v3i, .long v2j, .int v1i, .int v0i, .ref an] S Q = pm_N d 7 [.ref an, .int v0i, .int v1i, .long v2j, .int v3i, .int v4i] S (fun r S' => pm_V (d + 1) 27 121 [l0, l1, l2, l3, l4, l5, l6, l7] (r.toList ++ []) S' Q) := pv_callV (as := [.int v0i, .int v1i, .long v2j, .int v3i, .int v4i]) (pm_cdi rfl dX4_filterArcs_118) (Or.inl (by decide +kernel)) (by decide +kernel) (show _ = _ from (by decide +kernel : 5 = pm_np 7)) rfl (Nat.le_of_ble_eq_true rfl) (cl := 0) (by decide +kernel) hs
theorem q27_121 : pm_V d 27 121 [l0, l1, l2, l3, l4, l5, l6, l7] st S Q = pm_V d 27 139 [l0, l1, l2, l3, l4, l5, l6, l7] st S Q := pv_goto (pm_cdi rfl dX4_filterArcs_121) rfl
theorem q27_124 : pm_V d 27 124 [l0, l1, l2, l3, l4, l5, l6, .int xi] st S Q = pm_V d 27 126 [l0, l1, l2, l3, l4, l5, l6, .int xi] (.int xi :: st) S Q := pv_iload (pm_cdi rfl dX4_filterArcs_124) rfl
theorem q27_126 : pm_V d 27 126 [l0, l1, l2, l3, l4, l5, l6, l7] (.int xi :: st) S Q = if xi < 0 then pm_V d 27 129 [l0, l1, l2, l3, l4, l5, l6, l7] st S Q else pm_V d 27 139 [l0, l1, l2, l3, l4, l5, l6, l7] st S Q := pv_if_ge (pm_cdi rfl dX4_filterArcs_126) rfl
theorem q27_129 : pm_V d 27 129 [l0, .ref xn, l2, l3, l4, l5, l6, l7] st S Q = pm_V d 27 130 [l0, .ref xn, l2, l3, l4, l5, l6, l7] (.ref xn :: st) S Q := pv_aload_n (pm_cdi rfl dX4_filterArcs_129) rfl
theorem q27_129N : pm_V d 27 129 [l0, .null, l2, l3, l4, l5, l6, l7] st S Q = pm_V d 27 130 [l0, .null, l2, l3, l4, l5, l6, l7] (.null :: st) S Q := pv_aload_nN (pm_cdi rfl dX4_filterArcs_129) rfl
theorem q27_130 : pm_V d 27 130 [l0, l1, l2, l3, l4, l5, l6, l7] st S Q = pm_V d 27 131 [l0, l1, l2, l3, l4, l5, l6, l7] (.int 1 :: st) S Q := pv_iconst (pm_cdi rfl dX4_filterArcs_130) (by decide +kernel)
theorem q27_131 : pm_V d 27 131 [l0, l1, l2, l3, .int xi, l5, l6, l7] st S Q = pm_V d 27 133 [l0, l1, l2, l3, .int xi, l5, l6, l7] (.int xi :: st) S Q := pv_iload (pm_cdi rfl dX4_filterArcs_131) rfl
theorem q27_133 : pm_V d 27 133 [l0, l1, l2, l3, l4, l5, l6, .int xi] st S Q = pm_V d 27 135 [l0, l1, l2, l3, l4, l5, l6, .int xi] (.int xi :: st) S Q := pv_iload (pm_cdi rfl dX4_filterArcs_133) rfl
theorem q27_135 : pm_V d 27 135 [l0, l1, l2, l3, l4, l5, l6, l7] (.int xi :: st) S Q = pm_V d 27 136 [l0, l1, l2, l3, l4, l5, l6, l7] (.int (-xi) :: st) S Q := pv_ineg (pm_cdi rfl dX4_filterArcs_135)
theorem q27_136 : pm_V (d + 1) 27 136 [l0, l1, l2, l3, l4, l5, l6, l7] [.int v3i, .int v2i, .int v1i, v0v] S Q = pm_N d 28 [v0v, .int v1i, .int v2i, .int v3i] S (fun r S' => pm_V (d + 1) 27 139 [l0, l1, l2, l3, l4, l5, l6, l7] (r.toList ++ []) S' Q) := pv_callS (as := [v0v, .int v1i, .int v2i, .int v3i]) (pm_cdi rfl dX4_filterArcs_136) (by decide +kernel) (by decide +kernel) (show _ = _ from (by decide +kernel : 4 = pm_np 28)) rfl (Nat.le_of_ble_eq_true rfl)
theorem q27_139 : pm_V d 27 139 [l0, l1, l2, .int yi, .int xi, l5, l6, l7] st S Q = pm_V d 27 142 [l0, l1, l2, .int yi, .int (xi + 1), l5, l6, l7] st S Q := pv_iinc (pm_cdi rfl dX4_filterArcs_139) rfl (by decide +kernel) rfl
theorem q27_142 : pm_V d 27 142 [l0, l1, l2, l3, l4, l5, l6, l7] st S Q = pm_V d 27 8 [l0, l1, l2, l3, l4, l5, l6, l7] st S Q := pv_goto (pm_cdi rfl dX4_filterArcs_142) rfl
theorem q27_145 : pm_V d 27 145 [l0, l1, l2, l3, l4, l5, l6, l7] [] S Q = Q none S := pv_rV (pm_cdi rfl dX4_filterArcs_145) (by decide +kernel)
theorem q27_e : pm_N d 27 [.ref an, .ref v0n, .ref v1n] S Q = pm_V d 27 0 [.ref an, .ref v0n, .ref v1n, pm_j, pm_j, pm_j, pm_j, pm_j] [] S Q := pv_ent (Nat.le_of_ble_eq_true rfl) rfl
/-! 28: ViewsJoins$Reckoner.fail(LViewsJoins$Graph;III)V -/
theorem dX4_fail_0 : decode cX4_fail 0 = .ok (.aload_n 0, 1) := by decide +kernel
theorem dX4_fail_1 : decode cX4_fail 1 = .ok (.getfield 139, 3) := by decide +kernel
theorem dX4_fail_4 : decode cX4_fail 4 = .ok (.iconst 1, 1) := by decide +kernel
theorem dX4_fail_5 : decode cX4_fail 5 = .ok (.if_icmp .eq 8, 3) := by decide +kernel
theorem dX4_fail_8 : decode cX4_fail 8 = .ok (.iload_n 3, 1) := by decide +kernel
theorem dX4_fail_9 : decode cX4_fail 9 = .ok (.iconst 5, 1) := by decide +kernel
theorem dX4_fail_10 : decode cX4_fail 10 = .ok (.if_icmp .ne 11, 3) := by decide +kernel
theorem dX4_fail_13 : decode cX4_fail 13 = .ok (.aload_n 0, 1) := by decide +kernel
theorem dX4_fail_14 : decode cX4_fail 14 = .ok (.iload_n 3, 1) := by decide +kernel
theorem dX4_fail_15 : decode cX4_fail 15 = .ok (.putfield 50, 3) := by decide +kernel
theorem dX4_fail_18 : decode cX4_fail 18 = .ok (.goto 13, 3) := by decide +kernel
theorem dX4_fail_21 : decode cX4_fail 21 = .ok (.aload_n 0, 1) := by decide +kernel
theorem dX4_fail_22 : decode cX4_fail 22 = .ok (.getfield 142, 3) := by decide +kernel
theorem dX4_fail_25 : decode cX4_fail 25 = .ok (.iload_n 1, 1) := by decide +kernel
theorem dX4_fail_26 : decode cX4_fail 26 = .ok (.iload_n 2, 1) := by decide +kernel
theorem dX4_fail_27 : decode cX4_fail 27 = .ok (.iload_n 3, 1) := by decide +kernel
theorem dX4_fail_28 : decode cX4_fail 28 = .ok (.invokevirtual 146, 3) := by decide +kernel
theorem dX4_fail_31 : decode cX4_fail 31 = .ok (.return_, 1) := by decide +kernel
theorem q28_0 : pm_V d 28 0 [.ref xn, l1, l2, l3] st S Q = pm_V d 28 1 [.ref xn, l1, l2, l3] (.ref xn :: st) S Q := pv_aload_n (pm_cdi rfl dX4_fail_0) rfl
theorem q28_1 (hs : pm_sh S an = .inr 0) : pm_V d 28 1 [l0, l1, l2, l3] (.ref an :: st) S Q = pm_V d 28 4 [l0, l1, l2, l3] (.int (pm_gi S an 11) :: st) S Q := pv_getI (pm_cdi rfl dX4_fail_1) (by decide +kernel) (by decide +kernel) (by decide +kernel) hs
theorem q28_4 : pm_V d 28 4 [l0, l1, l2, l3] st S Q = pm_V d 28 5 [l0, l1, l2, l3] (.int 1 :: st) S Q := pv_iconst (pm_cdi rfl dX4_fail_4) (by decide +kernel)
theorem q28_5 : pm_V d 28 5 [l0, l1, l2, l3] (.int yi :: .int xi :: st) S Q = if xi = yi then pm_V d 28 13 [l0, l1, l2, l3] st S Q else pm_V d 28 8 [l0, l1, l2, l3] st S Q := pv_icmp_eq (pm_cdi rfl dX4_fail_5) rfl
theorem q28_8 : pm_V d 28 8 [l0, l1, l2, .int xi] st S Q = pm_V d 28 9 [l0, l1, l2, .int xi] (.int xi :: st) S Q := pv_iload_n (pm_cdi rfl dX4_fail_8) rfl
theorem q28_9 : pm_V d 28 9 [l0, l1, l2, l3] st S Q = pm_V d 28 10 [l0, l1, l2, l3] (.int 5 :: st) S Q := pv_iconst (pm_cdi rfl dX4_fail_9) (by decide +kernel)
theorem q28_10 : pm_V d 28 10 [l0, l1, l2, l3] (.int yi :: .int xi :: st) S Q = if xi = yi then pm_V d 28 13 [l0, l1, l2, l3] st S Q else pm_V d 28 21 [l0, l1, l2, l3] st S Q := pv_icmp_ne (pm_cdi rfl dX4_fail_10) rfl
theorem q28_13 : pm_V d 28 13 [.ref xn, l1, l2, l3] st S Q = pm_V d 28 14 [.ref xn, l1, l2, l3] (.ref xn :: st) S Q := pv_aload_n (pm_cdi rfl dX4_fail_13) rfl
theorem q28_14 : pm_V d 28 14 [l0, l1, l2, .int xi] st S Q = pm_V d 28 15 [l0, l1, l2, .int xi] (.int xi :: st) S Q := pv_iload_n (pm_cdi rfl dX4_fail_14) rfl
theorem q28_15 (hs : pm_sh S an = .inr 0) : pm_V d 28 15 [l0, l1, l2, l3] (.int xi :: .ref an :: st) S Q = pm_V d 28 18 [l0, l1, l2, l3] st (pm_sgi S an 5 xi) Q := pv_putI (pm_cdi rfl dX4_fail_15) (by decide +kernel) (by decide +kernel) (by decide +kernel) hs
theorem q28_18 : pm_V d 28 18 [l0, l1, l2, l3] st S Q = pm_V d 28 31 [l0, l1, l2, l3] st S Q := pv_goto (pm_cdi rfl dX4_fail_18) rfl
theorem q28_21 : pm_V d 28 21 [.ref xn, l1, l2, l3] st S Q = pm_V d 28 22 [.ref xn, l1, l2, l3] (.ref xn :: st) S Q := pv_aload_n (pm_cdi rfl dX4_fail_21) rfl
theorem q28_22 (hs : pm_sh S an = .inr 0) : pm_V d 28 22 [l0, l1, l2, l3] (.ref an :: st) S Q = pm_V d 28 25 [l0, l1, l2, l3] (va_rf (pm_gr S an 4) :: st) S Q := pv_getA (pm_cdi rfl dX4_fail_22) (by decide +kernel) (by decide +kernel) (by decide +kernel) hs
theorem q28_25 : pm_V d 28 25 [l0, .int xi, l2, l3] st S Q = pm_V d 28 26 [l0, .int xi, l2, l3] (.int xi :: st) S Q := pv_iload_n (pm_cdi rfl dX4_fail_25) rfl
theorem q28_26 : pm_V d 28 26 [l0, l1, .int xi, l3] st S Q = pm_V d 28 27 [l0, l1, .int xi, l3] (.int xi :: st) S Q := pv_iload_n (pm_cdi rfl dX4_fail_26) rfl
theorem q28_27 : pm_V d 28 27 [l0, l1, l2, .int xi] st S Q = pm_V d 28 28 [l0, l1, l2, .int xi] (.int xi :: st) S Q := pv_iload_n (pm_cdi rfl dX4_fail_27) rfl
theorem q28_28 (hs : pm_sh S an = .inr 2) : pm_V (d + 1) 28 28 [l0, l1, l2, l3] [.int v2i, .int v1i, .int v0i, .ref an] S Q = pm_N d 18 [.ref an, .int v0i, .int v1i, .int v2i] S (fun r S' => pm_V (d + 1) 28 31 [l0, l1, l2, l3] (r.toList ++ []) S' Q) := pv_callV (as := [.int v0i, .int v1i, .int v2i]) (pm_cdi rfl dX4_fail_28) (Or.inl (by decide +kernel)) (by decide +kernel) (show _ = _ from (by decide +kernel : 3 = pm_np 18)) rfl (Nat.le_of_ble_eq_true rfl) (cl := 2) (by decide +kernel) hs
theorem q28_31 : pm_V d 28 31 [l0, l1, l2, l3] [] S Q = Q none S := pv_rV (pm_cdi rfl dX4_fail_31) (by decide +kernel)
theorem q28_e : pm_N d 28 [.ref v0n, .int v1i, .int v2i, .int v3i] S Q = pm_V d 28 0 [.ref v0n, .int v1i, .int v2i, .int v3i] [] S Q := pv_ent (Nat.le_of_ble_eq_true rfl) rfl
/-! 29: ViewsJoins$Reckoner.copyNodes(LViewsJoins$Graph;LViewsJoins$Graph;)V -/
theorem dX4_copyNodes_0 : decode cX4_copyNodes 0 = .ok (.iconst 0, 1) := by decide +kernel
theorem dX4_copyNodes_1 : decode cX4_copyNodes 1 = .ok (.istore_n 2, 1) := by decide +kernel
theorem dX4_copyNodes_2 : decode cX4_copyNodes 2 = .ok (.iload_n 2, 1) := by decide +kernel
theorem dX4_copyNodes_3 : decode cX4_copyNodes 3 = .ok (.aload_n 1, 1) := by decide +kernel
theorem dX4_copyNodes_4 : decode cX4_copyNodes 4 = .ok (.getfield 99, 3) := by decide +kernel
theorem dX4_copyNodes_7 : decode cX4_copyNodes 7 = .ok (.getfield 103, 3) := by decide +kernel
theorem dX4_copyNodes_10 : decode cX4_copyNodes 10 = .ok (.if_icmp .ge 24, 3) := by decide +kernel
theorem dX4_copyNodes_13 : decode cX4_copyNodes 13 = .ok (.aload_n 0, 1) := by decide +kernel
theorem dX4_copyNodes_14 : decode cX4_copyNodes 14 = .ok (.aload_n 1, 1) := by decide +kernel
theorem dX4_copyNodes_15 : decode cX4_copyNodes 15 = .ok (.getfield 99, 3) := by decide +kernel
theorem dX4_copyNodes_18 : decode cX4_copyNodes 18 = .ok (.getfield 112, 3) := by decide +kernel
theorem dX4_copyNodes_21 : decode cX4_copyNodes 21 = .ok (.iload_n 2, 1) := by decide +kernel
theorem dX4_copyNodes_22 : decode cX4_copyNodes 22 = .ok (.laload, 1) := by decide +kernel
theorem dX4_copyNodes_23 : decode cX4_copyNodes 23 = .ok (.iload_n 2, 1) := by decide +kernel
theorem dX4_copyNodes_24 : decode cX4_copyNodes 24 = .ok (.iconst (-1), 1) := by decide +kernel
theorem dX4_copyNodes_25 : decode cX4_copyNodes 25 = .ok (.invokevirtual 115, 3) := by decide +kernel
theorem dX4_copyNodes_28 : decode cX4_copyNodes 28 = .ok (.iinc 2 1, 3) := by decide +kernel
theorem dX4_copyNodes_31 : decode cX4_copyNodes 31 = .ok (.goto (-29), 3) := by decide +kernel
theorem dX4_copyNodes_34 : decode cX4_copyNodes 34 = .ok (.return_, 1) := by decide +kernel
theorem q29_0 : pm_V d 29 0 [l0, l1, l2] st S Q = pm_V d 29 1 [l0, l1, l2] (.int 0 :: st) S Q := pv_iconst (pm_cdi rfl dX4_copyNodes_0) (by decide +kernel)
theorem q29_1 : pm_V d 29 1 [l0, .ref yn, l2] (.int xi :: st) S Q = pm_V d 29 2 [l0, .ref yn, .int xi] st S Q := pv_istore_n (pm_cdi rfl dX4_copyNodes_1) rfl
theorem q29_2 : pm_V d 29 2 [l0, l1, .int xi] st S Q = pm_V d 29 3 [l0, l1, .int xi] (.int xi :: st) S Q := pv_iload_n (pm_cdi rfl dX4_copyNodes_2) rfl
theorem q29_3 : pm_V d 29 3 [l0, .ref xn, l2] st S Q = pm_V d 29 4 [l0, .ref xn, l2] (.ref xn :: st) S Q := pv_aload_n (pm_cdi rfl dX4_copyNodes_3) rfl
theorem q29_3N : pm_V d 29 3 [l0, .null, l2] st S Q = pm_V d 29 4 [l0, .null, l2] (.null :: st) S Q := pv_aload_nN (pm_cdi rfl dX4_copyNodes_3) rfl
theorem q29_4 (hs : pm_sh S an = .inr 0) : pm_V d 29 4 [l0, l1, l2] (.ref an :: st) S Q = pm_V d 29 7 [l0, l1, l2] (va_rf (pm_gr S an 0) :: st) S Q := pv_getA (pm_cdi rfl dX4_copyNodes_4) (by decide +kernel) (by decide +kernel) (by decide +kernel) hs
theorem q29_7 (hs : pm_sh S an = .inr 3) : pm_V d 29 7 [l0, l1, l2] (.ref an :: st) S Q = pm_V d 29 10 [l0, l1, l2] (.int (pm_gi S an 3) :: st) S Q := pv_getI (pm_cdi rfl dX4_copyNodes_7) (by decide +kernel) (by decide +kernel) (by decide +kernel) hs
theorem q29_10 : pm_V d 29 10 [l0, l1, l2] (.int yi :: .int xi :: st) S Q = if xi < yi then pm_V d 29 13 [l0, l1, l2] st S Q else pm_V d 29 34 [l0, l1, l2] st S Q := pv_icmp_ge (pm_cdi rfl dX4_copyNodes_10) rfl
theorem q29_13 : pm_V d 29 13 [.ref xn, l1, l2] st S Q = pm_V d 29 14 [.ref xn, l1, l2] (.ref xn :: st) S Q := pv_aload_n (pm_cdi rfl dX4_copyNodes_13) rfl
theorem q29_14 : pm_V d 29 14 [l0, .ref xn, l2] st S Q = pm_V d 29 15 [l0, .ref xn, l2] (.ref xn :: st) S Q := pv_aload_n (pm_cdi rfl dX4_copyNodes_14) rfl
theorem q29_14N : pm_V d 29 14 [l0, .null, l2] st S Q = pm_V d 29 15 [l0, .null, l2] (.null :: st) S Q := pv_aload_nN (pm_cdi rfl dX4_copyNodes_14) rfl
theorem q29_15 (hs : pm_sh S an = .inr 0) : pm_V d 29 15 [l0, l1, l2] (.ref an :: st) S Q = pm_V d 29 18 [l0, l1, l2] (va_rf (pm_gr S an 0) :: st) S Q := pv_getA (pm_cdi rfl dX4_copyNodes_15) (by decide +kernel) (by decide +kernel) (by decide +kernel) hs
theorem q29_18 (hs : pm_sh S an = .inr 3) : pm_V d 29 18 [l0, l1, l2] (.ref an :: st) S Q = pm_V d 29 21 [l0, l1, l2] (va_rf (pm_gr S an 0) :: st) S Q := pv_getA (pm_cdi rfl dX4_copyNodes_18) (by decide +kernel) (by decide +kernel) (by decide +kernel) hs
theorem q29_21 : pm_V d 29 21 [l0, l1, .int xi] st S Q = pm_V d 29 22 [l0, l1, .int xi] (.int xi :: st) S Q := pv_iload_n (pm_cdi rfl dX4_copyNodes_21) rfl
theorem q29_22 (hs : pm_ar S an 1 xi = true) : pm_V d 29 22 [l0, l1, l2] (.int xi :: .ref an :: st) S Q = pm_V d 29 23 [l0, l1, l2] (.long (pm_zl S an xi.toNatClampNeg) :: st) S Q := pv_lald (pm_cdi rfl dX4_copyNodes_22) hs
theorem q29_23 : pm_V d 29 23 [l0, l1, .int xi] st S Q = pm_V d 29 24 [l0, l1, .int xi] (.int xi :: st) S Q := pv_iload_n (pm_cdi rfl dX4_copyNodes_23) rfl
theorem q29_24 : pm_V d 29 24 [l0, l1, l2] st S Q = pm_V d 29 25 [l0, l1, l2] (.int (-1) :: st) S Q := pv_iconst (pm_cdi rfl dX4_copyNodes_24) (by decide +kernel)
theorem q29_25 (hs : pm_sh S an = .inr 0) : pm_V (d + 1) 29 25 [l0, l1, l2] [.int v2i, .int v1i, .long v0j, .ref an] S Q = pm_N d 6 [.ref an, .long v0j, .int v1i, .int v2i] S (fun r S' => pm_V (d + 1) 29 28 [l0, l1, l2] (r.toList ++ []) S' Q) := pv_callV (as := [.long v0j, .int v1i, .int v2i]) (pm_cdi rfl dX4_copyNodes_25) (Or.inl (by decide +kernel)) (by decide +kernel) (show _ = _ from (by decide +kernel : 3 = pm_np 6)) rfl (Nat.le_of_ble_eq_true rfl) (cl := 0) (by decide +kernel) hs
theorem q29_28 : pm_V d 29 28 [l0, .ref yn, .int xi] st S Q = pm_V d 29 31 [l0, .ref yn, .int (xi + 1)] st S Q := pv_iinc (pm_cdi rfl dX4_copyNodes_28) rfl (by decide +kernel) rfl
theorem q29_31 : pm_V d 29 31 [l0, l1, l2] st S Q = pm_V d 29 2 [l0, l1, l2] st S Q := pv_goto (pm_cdi rfl dX4_copyNodes_31) rfl
theorem q29_34 : pm_V d 29 34 [l0, l1, l2] [] S Q = Q none S := pv_rV (pm_cdi rfl dX4_copyNodes_34) (by decide +kernel)
theorem q29_e : pm_N d 29 [.ref v0n, .ref v1n] S Q = pm_V d 29 0 [.ref v0n, .ref v1n, pm_j] [] S Q := pv_ent (Nat.le_of_ble_eq_true rfl) rfl
/-! 30: ViewsJoins$Reckoner.turn(LViewsJoins$Graph;LViewsJoins$Graph;)V -/
theorem dX4_turn_0 : decode cX4_turn 0 = .ok (.aload_n 0, 1) := by decide +kernel
theorem dX4_turn_1 : decode cX4_turn 1 = .ok (.aload_n 1, 1) := by decide +kernel
theorem dX4_turn_2 : decode cX4_turn 2 = .ok (.invokestatic 74, 3) := by decide +kernel
theorem dX4_turn_5 : decode cX4_turn 5 = .ok (.iconst 0, 1) := by decide +kernel
theorem dX4_turn_6 : decode cX4_turn 6 = .ok (.istore_n 2, 1) := by decide +kernel
theorem dX4_turn_7 : decode cX4_turn 7 = .ok (.iload_n 2, 1) := by decide +kernel
theorem dX4_turn_8 : decode cX4_turn 8 = .ok (.aload_n 1, 1) := by decide +kernel
theorem dX4_turn_9 : decode cX4_turn 9 = .ok (.getfield 126, 3) := by decide +kernel
theorem dX4_turn_12 : decode cX4_turn 12 = .ok (.getfield 103, 3) := by decide +kernel
theorem dX4_turn_15 : decode cX4_turn 15 = .ok (.if_icmp .ge 36, 3) := by decide +kernel
theorem dX4_turn_18 : decode cX4_turn 18 = .ok (.aload_n 0, 1) := by decide +kernel
theorem dX4_turn_19 : decode cX4_turn 19 = .ok (.aload_n 1, 1) := by decide +kernel
theorem dX4_turn_20 : decode cX4_turn 20 = .ok (.getfield 132, 3) := by decide +kernel
theorem dX4_turn_23 : decode cX4_turn 23 = .ok (.iload_n 2, 1) := by decide +kernel
theorem dX4_turn_24 : decode cX4_turn 24 = .ok (.iaload, 1) := by decide +kernel
theorem dX4_turn_25 : decode cX4_turn 25 = .ok (.aload_n 1, 1) := by decide +kernel
theorem dX4_turn_26 : decode cX4_turn 26 = .ok (.getfield 129, 3) := by decide +kernel
theorem dX4_turn_29 : decode cX4_turn 29 = .ok (.iload_n 2, 1) := by decide +kernel
theorem dX4_turn_30 : decode cX4_turn 30 = .ok (.iaload, 1) := by decide +kernel
theorem dX4_turn_31 : decode cX4_turn 31 = .ok (.aload_n 1, 1) := by decide +kernel
theorem dX4_turn_32 : decode cX4_turn 32 = .ok (.getfield 126, 3) := by decide +kernel
theorem dX4_turn_35 : decode cX4_turn 35 = .ok (.getfield 112, 3) := by decide +kernel
theorem dX4_turn_38 : decode cX4_turn 38 = .ok (.iload_n 2, 1) := by decide +kernel
theorem dX4_turn_39 : decode cX4_turn 39 = .ok (.laload, 1) := by decide +kernel
theorem dX4_turn_40 : decode cX4_turn 40 = .ok (.iload_n 2, 1) := by decide +kernel
theorem dX4_turn_41 : decode cX4_turn 41 = .ok (.iconst (-1), 1) := by decide +kernel
theorem dX4_turn_42 : decode cX4_turn 42 = .ok (.invokevirtual 135, 3) := by decide +kernel
theorem dX4_turn_45 : decode cX4_turn 45 = .ok (.iinc 2 1, 3) := by decide +kernel
theorem dX4_turn_48 : decode cX4_turn 48 = .ok (.goto (-41), 3) := by decide +kernel
theorem dX4_turn_51 : decode cX4_turn 51 = .ok (.return_, 1) := by decide +kernel
theorem q30_0 : pm_V d 30 0 [.ref xn, l1, l2] st S Q = pm_V d 30 1 [.ref xn, l1, l2] (.ref xn :: st) S Q := pv_aload_n (pm_cdi rfl dX4_turn_0) rfl
theorem q30_1 : pm_V d 30 1 [l0, .ref xn, l2] st S Q = pm_V d 30 2 [l0, .ref xn, l2] (.ref xn :: st) S Q := pv_aload_n (pm_cdi rfl dX4_turn_1) rfl
theorem q30_1N : pm_V d 30 1 [l0, .null, l2] st S Q = pm_V d 30 2 [l0, .null, l2] (.null :: st) S Q := pv_aload_nN (pm_cdi rfl dX4_turn_1) rfl
theorem q30_2 : pm_V (d + 1) 30 2 [l0, l1, l2] [v1v, v0v] S Q = pm_N d 29 [v0v, v1v] S (fun r S' => pm_V (d + 1) 30 5 [l0, l1, l2] (r.toList ++ []) S' Q) := pv_callS (as := [v0v, v1v]) (pm_cdi rfl dX4_turn_2) (by decide +kernel) (by decide +kernel) (show _ = _ from (by decide +kernel : 2 = pm_np 29)) rfl (Nat.le_of_ble_eq_true rfl)
theorem q30_5 : pm_V d 30 5 [l0, l1, l2] st S Q = pm_V d 30 6 [l0, l1, l2] (.int 0 :: st) S Q := pv_iconst (pm_cdi rfl dX4_turn_5) (by decide +kernel)
theorem q30_6 : pm_V d 30 6 [l0, .ref yn, l2] (.int xi :: st) S Q = pm_V d 30 7 [l0, .ref yn, .int xi] st S Q := pv_istore_n (pm_cdi rfl dX4_turn_6) rfl
theorem q30_7 : pm_V d 30 7 [l0, l1, .int xi] st S Q = pm_V d 30 8 [l0, l1, .int xi] (.int xi :: st) S Q := pv_iload_n (pm_cdi rfl dX4_turn_7) rfl
theorem q30_8 : pm_V d 30 8 [l0, .ref xn, l2] st S Q = pm_V d 30 9 [l0, .ref xn, l2] (.ref xn :: st) S Q := pv_aload_n (pm_cdi rfl dX4_turn_8) rfl
theorem q30_8N : pm_V d 30 8 [l0, .null, l2] st S Q = pm_V d 30 9 [l0, .null, l2] (.null :: st) S Q := pv_aload_nN (pm_cdi rfl dX4_turn_8) rfl
theorem q30_9 (hs : pm_sh S an = .inr 0) : pm_V d 30 9 [l0, l1, l2] (.ref an :: st) S Q = pm_V d 30 12 [l0, l1, l2] (va_rf (pm_gr S an 1) :: st) S Q := pv_getA (pm_cdi rfl dX4_turn_9) (by decide +kernel) (by decide +kernel) (by decide +kernel) hs
theorem q30_12 (hs : pm_sh S an = .inr 3) : pm_V d 30 12 [l0, l1, l2] (.ref an :: st) S Q = pm_V d 30 15 [l0, l1, l2] (.int (pm_gi S an 3) :: st) S Q := pv_getI (pm_cdi rfl dX4_turn_12) (by decide +kernel) (by decide +kernel) (by decide +kernel) hs
theorem q30_15 : pm_V d 30 15 [l0, l1, l2] (.int yi :: .int xi :: st) S Q = if xi < yi then pm_V d 30 18 [l0, l1, l2] st S Q else pm_V d 30 51 [l0, l1, l2] st S Q := pv_icmp_ge (pm_cdi rfl dX4_turn_15) rfl
theorem q30_18 : pm_V d 30 18 [.ref xn, l1, l2] st S Q = pm_V d 30 19 [.ref xn, l1, l2] (.ref xn :: st) S Q := pv_aload_n (pm_cdi rfl dX4_turn_18) rfl
theorem q30_19 : pm_V d 30 19 [l0, .ref xn, l2] st S Q = pm_V d 30 20 [l0, .ref xn, l2] (.ref xn :: st) S Q := pv_aload_n (pm_cdi rfl dX4_turn_19) rfl
theorem q30_19N : pm_V d 30 19 [l0, .null, l2] st S Q = pm_V d 30 20 [l0, .null, l2] (.null :: st) S Q := pv_aload_nN (pm_cdi rfl dX4_turn_19) rfl
theorem q30_20 (hs : pm_sh S an = .inr 0) : pm_V d 30 20 [l0, l1, l2] (.ref an :: st) S Q = pm_V d 30 23 [l0, l1, l2] (va_rf (pm_gr S an 3) :: st) S Q := pv_getA (pm_cdi rfl dX4_turn_20) (by decide +kernel) (by decide +kernel) (by decide +kernel) hs
theorem q30_23 : pm_V d 30 23 [l0, l1, .int xi] st S Q = pm_V d 30 24 [l0, l1, .int xi] (.int xi :: st) S Q := pv_iload_n (pm_cdi rfl dX4_turn_23) rfl
theorem q30_24 (hs : pm_ar S an 0 xi = true) : pm_V d 30 24 [l0, l1, l2] (.int xi :: .ref an :: st) S Q = pm_V d 30 25 [l0, l1, l2] (.int (pm_zi S an xi.toNatClampNeg) :: st) S Q := pv_iald (pm_cdi rfl dX4_turn_24) hs
theorem q30_25 : pm_V d 30 25 [l0, .ref xn, l2] st S Q = pm_V d 30 26 [l0, .ref xn, l2] (.ref xn :: st) S Q := pv_aload_n (pm_cdi rfl dX4_turn_25) rfl
theorem q30_25N : pm_V d 30 25 [l0, .null, l2] st S Q = pm_V d 30 26 [l0, .null, l2] (.null :: st) S Q := pv_aload_nN (pm_cdi rfl dX4_turn_25) rfl
theorem q30_26 (hs : pm_sh S an = .inr 0) : pm_V d 30 26 [l0, l1, l2] (.ref an :: st) S Q = pm_V d 30 29 [l0, l1, l2] (va_rf (pm_gr S an 2) :: st) S Q := pv_getA (pm_cdi rfl dX4_turn_26) (by decide +kernel) (by decide +kernel) (by decide +kernel) hs
theorem q30_29 : pm_V d 30 29 [l0, l1, .int xi] st S Q = pm_V d 30 30 [l0, l1, .int xi] (.int xi :: st) S Q := pv_iload_n (pm_cdi rfl dX4_turn_29) rfl
theorem q30_30 (hs : pm_ar S an 0 xi = true) : pm_V d 30 30 [l0, l1, l2] (.int xi :: .ref an :: st) S Q = pm_V d 30 31 [l0, l1, l2] (.int (pm_zi S an xi.toNatClampNeg) :: st) S Q := pv_iald (pm_cdi rfl dX4_turn_30) hs
theorem q30_31 : pm_V d 30 31 [l0, .ref xn, l2] st S Q = pm_V d 30 32 [l0, .ref xn, l2] (.ref xn :: st) S Q := pv_aload_n (pm_cdi rfl dX4_turn_31) rfl
theorem q30_31N : pm_V d 30 31 [l0, .null, l2] st S Q = pm_V d 30 32 [l0, .null, l2] (.null :: st) S Q := pv_aload_nN (pm_cdi rfl dX4_turn_31) rfl
theorem q30_32 (hs : pm_sh S an = .inr 0) : pm_V d 30 32 [l0, l1, l2] (.ref an :: st) S Q = pm_V d 30 35 [l0, l1, l2] (va_rf (pm_gr S an 1) :: st) S Q := pv_getA (pm_cdi rfl dX4_turn_32) (by decide +kernel) (by decide +kernel) (by decide +kernel) hs
theorem q30_35 (hs : pm_sh S an = .inr 3) : pm_V d 30 35 [l0, l1, l2] (.ref an :: st) S Q = pm_V d 30 38 [l0, l1, l2] (va_rf (pm_gr S an 0) :: st) S Q := pv_getA (pm_cdi rfl dX4_turn_35) (by decide +kernel) (by decide +kernel) (by decide +kernel) hs
theorem q30_38 : pm_V d 30 38 [l0, l1, .int xi] st S Q = pm_V d 30 39 [l0, l1, .int xi] (.int xi :: st) S Q := pv_iload_n (pm_cdi rfl dX4_turn_38) rfl
theorem q30_39 (hs : pm_ar S an 1 xi = true) : pm_V d 30 39 [l0, l1, l2] (.int xi :: .ref an :: st) S Q = pm_V d 30 40 [l0, l1, l2] (.long (pm_zl S an xi.toNatClampNeg) :: st) S Q := pv_lald (pm_cdi rfl dX4_turn_39) hs
theorem q30_40 : pm_V d 30 40 [l0, l1, .int xi] st S Q = pm_V d 30 41 [l0, l1, .int xi] (.int xi :: st) S Q := pv_iload_n (pm_cdi rfl dX4_turn_40) rfl
theorem q30_41 : pm_V d 30 41 [l0, l1, l2] st S Q = pm_V d 30 42 [l0, l1, l2] (.int (-1) :: st) S Q := pv_iconst (pm_cdi rfl dX4_turn_41) (by decide +kernel)
theorem q30_42 (hs : pm_sh S an = .inr 0) : pm_V (d + 1) 30 42 [l0, l1, l2] [.int v4i, .int v3i, .long v2j, .int v1i, .int v0i, .ref an] S Q = pm_N d 7 [.ref an, .int v0i, .int v1i, .long v2j, .int v3i, .int v4i] S (fun r S' => pm_V (d + 1) 30 45 [l0, l1, l2] (r.toList ++ []) S' Q) := pv_callV (as := [.int v0i, .int v1i, .long v2j, .int v3i, .int v4i]) (pm_cdi rfl dX4_turn_42) (Or.inl (by decide +kernel)) (by decide +kernel) (show _ = _ from (by decide +kernel : 5 = pm_np 7)) rfl (Nat.le_of_ble_eq_true rfl) (cl := 0) (by decide +kernel) hs
theorem q30_45 : pm_V d 30 45 [l0, .ref yn, .int xi] st S Q = pm_V d 30 48 [l0, .ref yn, .int (xi + 1)] st S Q := pv_iinc (pm_cdi rfl dX4_turn_45) rfl (by decide +kernel) rfl
theorem q30_48 : pm_V d 30 48 [l0, l1, l2] st S Q = pm_V d 30 7 [l0, l1, l2] st S Q := pv_goto (pm_cdi rfl dX4_turn_48) rfl
theorem q30_51 : pm_V d 30 51 [l0, l1, l2] [] S Q = Q none S := pv_rV (pm_cdi rfl dX4_turn_51) (by decide +kernel)
theorem q30_e : pm_N d 30 [.ref v0n, .ref v1n] S Q = pm_V d 30 0 [.ref v0n, .ref v1n, pm_j] [] S Q := pv_ent (Nat.le_of_ble_eq_true rfl) rfl
/-! 31: ViewsJoins$Reckoner.link(LViewsJoins$Graph;)V -/
theorem dX4_link_0 : decode cX4_link 0 = .ok (.iconst 0, 1) := by decide +kernel
theorem dX4_link_1 : decode cX4_link 1 = .ok (.istore_n 2, 1) := by decide +kernel
theorem dX4_link_2 : decode cX4_link 2 = .ok (.iload_n 2, 1) := by decide +kernel
theorem dX4_link_3 : decode cX4_link 3 = .ok (.bipush 40, 2) := by decide +kernel
theorem dX4_link_5 : decode cX4_link 5 = .ok (.if_icmp .ge 16, 3) := by decide +kernel
theorem dX4_link_8 : decode cX4_link 8 = .ok (.aload_n 0, 1) := by decide +kernel
theorem dX4_link_9 : decode cX4_link 9 = .ok (.getfield 34, 3) := by decide +kernel
theorem dX4_link_12 : decode cX4_link 12 = .ok (.iload_n 2, 1) := by decide +kernel
theorem dX4_link_13 : decode cX4_link 13 = .ok (.lconst 0, 1) := by decide +kernel
theorem dX4_link_14 : decode cX4_link 14 = .ok (.lastore, 1) := by decide +kernel
theorem dX4_link_15 : decode cX4_link 15 = .ok (.iinc 2 1, 3) := by decide +kernel
theorem dX4_link_18 : decode cX4_link 18 = .ok (.goto (-16), 3) := by decide +kernel
theorem dX4_link_21 : decode cX4_link 21 = .ok (.iconst 0, 1) := by decide +kernel
theorem dX4_link_22 : decode cX4_link 22 = .ok (.istore_n 2, 1) := by decide +kernel
theorem dX4_link_23 : decode cX4_link 23 = .ok (.iload_n 2, 1) := by decide +kernel
theorem dX4_link_24 : decode cX4_link 24 = .ok (.aload_n 1, 1) := by decide +kernel
theorem dX4_link_25 : decode cX4_link 25 = .ok (.getfield 126, 3) := by decide +kernel
theorem dX4_link_28 : decode cX4_link 28 = .ok (.getfield 103, 3) := by decide +kernel
theorem dX4_link_31 : decode cX4_link 31 = .ok (.if_icmp .ge 31, 3) := by decide +kernel
theorem dX4_link_34 : decode cX4_link 34 = .ok (.aload_n 0, 1) := by decide +kernel
theorem dX4_link_35 : decode cX4_link 35 = .ok (.getfield 34, 3) := by decide +kernel
theorem dX4_link_38 : decode cX4_link 38 = .ok (.aload_n 1, 1) := by decide +kernel
theorem dX4_link_39 : decode cX4_link 39 = .ok (.getfield 129, 3) := by decide +kernel
theorem dX4_link_42 : decode cX4_link 42 = .ok (.iload_n 2, 1) := by decide +kernel
theorem dX4_link_43 : decode cX4_link 43 = .ok (.iaload, 1) := by decide +kernel
theorem dX4_link_44 : decode cX4_link 44 = .ok (.dup2, 1) := by decide +kernel
theorem dX4_link_45 : decode cX4_link 45 = .ok (.laload, 1) := by decide +kernel
theorem dX4_link_46 : decode cX4_link 46 = .ok (.lconst 1, 1) := by decide +kernel
theorem dX4_link_47 : decode cX4_link 47 = .ok (.aload_n 1, 1) := by decide +kernel
theorem dX4_link_48 : decode cX4_link 48 = .ok (.getfield 132, 3) := by decide +kernel
theorem dX4_link_51 : decode cX4_link 51 = .ok (.iload_n 2, 1) := by decide +kernel
theorem dX4_link_52 : decode cX4_link 52 = .ok (.iaload, 1) := by decide +kernel
theorem dX4_link_53 : decode cX4_link 53 = .ok (.lshl, 1) := by decide +kernel
theorem dX4_link_54 : decode cX4_link 54 = .ok (.lor, 1) := by decide +kernel
theorem dX4_link_55 : decode cX4_link 55 = .ok (.lastore, 1) := by decide +kernel
theorem dX4_link_56 : decode cX4_link 56 = .ok (.iinc 2 1, 3) := by decide +kernel
theorem dX4_link_59 : decode cX4_link 59 = .ok (.goto (-36), 3) := by decide +kernel
theorem dX4_link_62 : decode cX4_link 62 = .ok (.return_, 1) := by decide +kernel
theorem q31_0 : pm_V d 31 0 [l0, l1, l2] st S Q = pm_V d 31 1 [l0, l1, l2] (.int 0 :: st) S Q := pv_iconst (pm_cdi rfl dX4_link_0) (by decide +kernel)
theorem q31_1 : pm_V d 31 1 [l0, .ref yn, l2] (.int xi :: st) S Q = pm_V d 31 2 [l0, .ref yn, .int xi] st S Q := pv_istore_n (pm_cdi rfl dX4_link_1) rfl
theorem q31_2 : pm_V d 31 2 [l0, l1, .int xi] st S Q = pm_V d 31 3 [l0, l1, .int xi] (.int xi :: st) S Q := pv_iload_n (pm_cdi rfl dX4_link_2) rfl
theorem q31_3 : pm_V d 31 3 [l0, l1, l2] st S Q = pm_V d 31 5 [l0, l1, l2] (.int 40 :: st) S Q := pv_bipush (pm_cdi rfl dX4_link_3) (by decide +kernel)
theorem q31_5 : pm_V d 31 5 [l0, l1, l2] (.int yi :: .int xi :: st) S Q = if xi < yi then pm_V d 31 8 [l0, l1, l2] st S Q else pm_V d 31 21 [l0, l1, l2] st S Q := pv_icmp_ge (pm_cdi rfl dX4_link_5) rfl
theorem q31_8 : pm_V d 31 8 [.ref xn, l1, l2] st S Q = pm_V d 31 9 [.ref xn, l1, l2] (.ref xn :: st) S Q := pv_aload_n (pm_cdi rfl dX4_link_8) rfl
theorem q31_9 (hs : pm_sh S an = .inr 4) : pm_V d 31 9 [l0, l1, l2] (.ref an :: st) S Q = pm_V d 31 12 [l0, l1, l2] (va_rf (pm_gr S an 4) :: st) S Q := pv_getA (pm_cdi rfl dX4_link_9) (by decide +kernel) (by decide +kernel) (by decide +kernel) hs
theorem q31_12 : pm_V d 31 12 [l0, l1, .int xi] st S Q = pm_V d 31 13 [l0, l1, .int xi] (.int xi :: st) S Q := pv_iload_n (pm_cdi rfl dX4_link_12) rfl
theorem q31_13 : pm_V d 31 13 [l0, l1, l2] st S Q = pm_V d 31 14 [l0, l1, l2] (.long 0 :: st) S Q := pv_lconst (pm_cdi rfl dX4_link_13) (by decide +kernel)
theorem q31_14 (hs : pm_ar S an 1 xi = true) : pm_V d 31 14 [l0, l1, l2] (.long vj :: .int xi :: .ref an :: st) S Q = pm_V d 31 15 [l0, l1, l2] st (pm_szl S an xi.toNatClampNeg vj) Q := pv_last (pm_cdi rfl dX4_link_14) hs
theorem q31_15 : pm_V d 31 15 [l0, .ref yn, .int xi] st S Q = pm_V d 31 18 [l0, .ref yn, .int (xi + 1)] st S Q := pv_iinc (pm_cdi rfl dX4_link_15) rfl (by decide +kernel) rfl
theorem q31_18 : pm_V d 31 18 [l0, l1, l2] st S Q = pm_V d 31 2 [l0, l1, l2] st S Q := pv_goto (pm_cdi rfl dX4_link_18) rfl
theorem q31_21 : pm_V d 31 21 [l0, l1, l2] st S Q = pm_V d 31 22 [l0, l1, l2] (.int 0 :: st) S Q := pv_iconst (pm_cdi rfl dX4_link_21) (by decide +kernel)
theorem q31_22 : pm_V d 31 22 [l0, .ref yn, l2] (.int xi :: st) S Q = pm_V d 31 23 [l0, .ref yn, .int xi] st S Q := pv_istore_n (pm_cdi rfl dX4_link_22) rfl
theorem q31_23 : pm_V d 31 23 [l0, l1, .int xi] st S Q = pm_V d 31 24 [l0, l1, .int xi] (.int xi :: st) S Q := pv_iload_n (pm_cdi rfl dX4_link_23) rfl
theorem q31_24 : pm_V d 31 24 [l0, .ref xn, l2] st S Q = pm_V d 31 25 [l0, .ref xn, l2] (.ref xn :: st) S Q := pv_aload_n (pm_cdi rfl dX4_link_24) rfl
theorem q31_24N : pm_V d 31 24 [l0, .null, l2] st S Q = pm_V d 31 25 [l0, .null, l2] (.null :: st) S Q := pv_aload_nN (pm_cdi rfl dX4_link_24) rfl
theorem q31_25 (hs : pm_sh S an = .inr 0) : pm_V d 31 25 [l0, l1, l2] (.ref an :: st) S Q = pm_V d 31 28 [l0, l1, l2] (va_rf (pm_gr S an 1) :: st) S Q := pv_getA (pm_cdi rfl dX4_link_25) (by decide +kernel) (by decide +kernel) (by decide +kernel) hs
theorem q31_28 (hs : pm_sh S an = .inr 3) : pm_V d 31 28 [l0, l1, l2] (.ref an :: st) S Q = pm_V d 31 31 [l0, l1, l2] (.int (pm_gi S an 3) :: st) S Q := pv_getI (pm_cdi rfl dX4_link_28) (by decide +kernel) (by decide +kernel) (by decide +kernel) hs
theorem q31_31 : pm_V d 31 31 [l0, l1, l2] (.int yi :: .int xi :: st) S Q = if xi < yi then pm_V d 31 34 [l0, l1, l2] st S Q else pm_V d 31 62 [l0, l1, l2] st S Q := pv_icmp_ge (pm_cdi rfl dX4_link_31) rfl
theorem q31_34 : pm_V d 31 34 [.ref xn, l1, l2] st S Q = pm_V d 31 35 [.ref xn, l1, l2] (.ref xn :: st) S Q := pv_aload_n (pm_cdi rfl dX4_link_34) rfl
theorem q31_35 (hs : pm_sh S an = .inr 4) : pm_V d 31 35 [l0, l1, l2] (.ref an :: st) S Q = pm_V d 31 38 [l0, l1, l2] (va_rf (pm_gr S an 4) :: st) S Q := pv_getA (pm_cdi rfl dX4_link_35) (by decide +kernel) (by decide +kernel) (by decide +kernel) hs
theorem q31_38 : pm_V d 31 38 [l0, .ref xn, l2] st S Q = pm_V d 31 39 [l0, .ref xn, l2] (.ref xn :: st) S Q := pv_aload_n (pm_cdi rfl dX4_link_38) rfl
theorem q31_38N : pm_V d 31 38 [l0, .null, l2] st S Q = pm_V d 31 39 [l0, .null, l2] (.null :: st) S Q := pv_aload_nN (pm_cdi rfl dX4_link_38) rfl
theorem q31_39 (hs : pm_sh S an = .inr 0) : pm_V d 31 39 [l0, l1, l2] (.ref an :: st) S Q = pm_V d 31 42 [l0, l1, l2] (va_rf (pm_gr S an 2) :: st) S Q := pv_getA (pm_cdi rfl dX4_link_39) (by decide +kernel) (by decide +kernel) (by decide +kernel) hs
theorem q31_42 : pm_V d 31 42 [l0, l1, .int xi] st S Q = pm_V d 31 43 [l0, l1, .int xi] (.int xi :: st) S Q := pv_iload_n (pm_cdi rfl dX4_link_42) rfl
theorem q31_43 (hs : pm_ar S an 0 xi = true) : pm_V d 31 43 [l0, l1, l2] (.int xi :: .ref an :: st) S Q = pm_V d 31 44 [l0, l1, l2] (.int (pm_zi S an xi.toNatClampNeg) :: st) S Q := pv_iald (pm_cdi rfl dX4_link_43) hs
theorem q31_44 : pm_V d 31 44 [l0, l1, l2] (.int xi :: .ref an :: st) S Q = pm_V d 31 45 [l0, l1, l2] (.int xi :: .ref an :: .int xi :: .ref an :: st) S Q := pv_dup2 (pm_cdi rfl dX4_link_44)
theorem q31_45 (hs : pm_ar S an 1 xi = true) : pm_V d 31 45 [l0, l1, l2] (.int xi :: .ref an :: st) S Q = pm_V d 31 46 [l0, l1, l2] (.long (pm_zl S an xi.toNatClampNeg) :: st) S Q := pv_lald (pm_cdi rfl dX4_link_45) hs
theorem q31_46 : pm_V d 31 46 [l0, l1, l2] st S Q = pm_V d 31 47 [l0, l1, l2] (.long 1 :: st) S Q := pv_lconst (pm_cdi rfl dX4_link_46) (by decide +kernel)
theorem q31_47 : pm_V d 31 47 [l0, .ref xn, l2] st S Q = pm_V d 31 48 [l0, .ref xn, l2] (.ref xn :: st) S Q := pv_aload_n (pm_cdi rfl dX4_link_47) rfl
theorem q31_47N : pm_V d 31 47 [l0, .null, l2] st S Q = pm_V d 31 48 [l0, .null, l2] (.null :: st) S Q := pv_aload_nN (pm_cdi rfl dX4_link_47) rfl
theorem q31_48 (hs : pm_sh S an = .inr 0) : pm_V d 31 48 [l0, l1, l2] (.ref an :: st) S Q = pm_V d 31 51 [l0, l1, l2] (va_rf (pm_gr S an 3) :: st) S Q := pv_getA (pm_cdi rfl dX4_link_48) (by decide +kernel) (by decide +kernel) (by decide +kernel) hs
theorem q31_51 : pm_V d 31 51 [l0, l1, .int xi] st S Q = pm_V d 31 52 [l0, l1, .int xi] (.int xi :: st) S Q := pv_iload_n (pm_cdi rfl dX4_link_51) rfl
theorem q31_52 (hs : pm_ar S an 0 xi = true) : pm_V d 31 52 [l0, l1, l2] (.int xi :: .ref an :: st) S Q = pm_V d 31 53 [l0, l1, l2] (.int (pm_zi S an xi.toNatClampNeg) :: st) S Q := pv_iald (pm_cdi rfl dX4_link_52) hs
theorem q31_53 : pm_V d 31 53 [l0, l1, l2] (.int yi :: .long xj :: st) S Q = pm_V d 31 54 [l0, l1, l2] (.long (xj <<< (yi.toInt64 &&& 63)) :: st) S Q := pv_lshl (pm_cdi rfl dX4_link_53)
theorem q31_54 : pm_V d 31 54 [l0, l1, l2] (.long yj :: .long xj :: st) S Q = pm_V d 31 55 [l0, l1, l2] (.long (xj ||| yj) :: st) S Q := pv_lor (pm_cdi rfl dX4_link_54)
theorem q31_55 (hs : pm_ar S an 1 xi = true) : pm_V d 31 55 [l0, l1, l2] (.long vj :: .int xi :: .ref an :: st) S Q = pm_V d 31 56 [l0, l1, l2] st (pm_szl S an xi.toNatClampNeg vj) Q := pv_last (pm_cdi rfl dX4_link_55) hs
theorem q31_56 : pm_V d 31 56 [l0, .ref yn, .int xi] st S Q = pm_V d 31 59 [l0, .ref yn, .int (xi + 1)] st S Q := pv_iinc (pm_cdi rfl dX4_link_56) rfl (by decide +kernel) rfl
theorem q31_59 : pm_V d 31 59 [l0, l1, l2] st S Q = pm_V d 31 23 [l0, l1, l2] st S Q := pv_goto (pm_cdi rfl dX4_link_59) rfl
theorem q31_62 : pm_V d 31 62 [l0, l1, l2] [] S Q = Q none S := pv_rV (pm_cdi rfl dX4_link_62) (by decide +kernel)
theorem q31_e : pm_N d 31 [.ref an, .ref v0n] S Q = pm_V d 31 0 [.ref an, .ref v0n, pm_j] [] S Q := pv_ent (Nat.le_of_ble_eq_true rfl) rfl
/-! 32: ViewsJoins$Reckoner.isLinked(II)Z -/
theorem dX4_isLinked_0 : decode cX4_isLinked 0 = .ok (.aload_n 0, 1) := by decide +kernel
theorem dX4_isLinked_1 : decode cX4_isLinked 1 = .ok (.getfield 34, 3) := by decide +kernel
theorem dX4_isLinked_4 : decode cX4_isLinked 4 = .ok (.iload_n 1, 1) := by decide +kernel
theorem dX4_isLinked_5 : decode cX4_isLinked 5 = .ok (.laload, 1) := by decide +kernel
theorem dX4_isLinked_6 : decode cX4_isLinked 6 = .ok (.iload_n 2, 1) := by decide +kernel
theorem dX4_isLinked_7 : decode cX4_isLinked 7 = .ok (.lushr, 1) := by decide +kernel
theorem dX4_isLinked_8 : decode cX4_isLinked 8 = .ok (.lconst 1, 1) := by decide +kernel
theorem dX4_isLinked_9 : decode cX4_isLinked 9 = .ok (.land, 1) := by decide +kernel
theorem dX4_isLinked_10 : decode cX4_isLinked 10 = .ok (.lconst 1, 1) := by decide +kernel
theorem dX4_isLinked_11 : decode cX4_isLinked 11 = .ok (.lcmp, 1) := by decide +kernel
theorem dX4_isLinked_12 : decode cX4_isLinked 12 = .ok (.ifCond .ne 7, 3) := by decide +kernel
theorem dX4_isLinked_15 : decode cX4_isLinked 15 = .ok (.iconst 1, 1) := by decide +kernel
theorem dX4_isLinked_16 : decode cX4_isLinked 16 = .ok (.goto 4, 3) := by decide +kernel
theorem dX4_isLinked_19 : decode cX4_isLinked 19 = .ok (.iconst 0, 1) := by decide +kernel
theorem dX4_isLinked_20 : decode cX4_isLinked 20 = .ok (.ireturn, 1) := by decide +kernel
theorem q32_0 : pm_V d 32 0 [.ref xn, l1, l2] st S Q = pm_V d 32 1 [.ref xn, l1, l2] (.ref xn :: st) S Q := pv_aload_n (pm_cdi rfl dX4_isLinked_0) rfl
theorem q32_1 (hs : pm_sh S an = .inr 4) : pm_V d 32 1 [l0, l1, l2] (.ref an :: st) S Q = pm_V d 32 4 [l0, l1, l2] (va_rf (pm_gr S an 4) :: st) S Q := pv_getA (pm_cdi rfl dX4_isLinked_1) (by decide +kernel) (by decide +kernel) (by decide +kernel) hs
theorem q32_4 : pm_V d 32 4 [l0, .int xi, l2] st S Q = pm_V d 32 5 [l0, .int xi, l2] (.int xi :: st) S Q := pv_iload_n (pm_cdi rfl dX4_isLinked_4) rfl
theorem q32_5 (hs : pm_ar S an 1 xi = true) : pm_V d 32 5 [l0, l1, l2] (.int xi :: .ref an :: st) S Q = pm_V d 32 6 [l0, l1, l2] (.long (pm_zl S an xi.toNatClampNeg) :: st) S Q := pv_lald (pm_cdi rfl dX4_isLinked_5) hs
theorem q32_6 : pm_V d 32 6 [l0, l1, .int xi] st S Q = pm_V d 32 7 [l0, l1, .int xi] (.int xi :: st) S Q := pv_iload_n (pm_cdi rfl dX4_isLinked_6) rfl
theorem q32_7 : pm_V d 32 7 [l0, l1, l2] (.int yi :: .long xj :: st) S Q = pm_V d 32 8 [l0, l1, l2] (.long ((xj.toUInt64 >>> (yi.toInt64.toUInt64 &&& Int64.toUInt64 63)).toInt64) :: st) S Q := pv_lushr (pm_cdi rfl dX4_isLinked_7)
theorem q32_8 : pm_V d 32 8 [l0, l1, l2] st S Q = pm_V d 32 9 [l0, l1, l2] (.long 1 :: st) S Q := pv_lconst (pm_cdi rfl dX4_isLinked_8) (by decide +kernel)
theorem q32_9 : pm_V d 32 9 [l0, l1, l2] (.long yj :: .long xj :: st) S Q = pm_V d 32 10 [l0, l1, l2] (.long (xj &&& yj) :: st) S Q := pv_land (pm_cdi rfl dX4_isLinked_9)
theorem q32_10 : pm_V d 32 10 [l0, l1, l2] st S Q = pm_V d 32 11 [l0, l1, l2] (.long 1 :: st) S Q := pv_lconst (pm_cdi rfl dX4_isLinked_10) (by decide +kernel)
theorem q32_11 : pm_V d 32 11 [l0, l1, l2] (.long yj :: .long xj :: st) S Q = pm_V d 32 12 [l0, l1, l2] (.int (lg_cmp xj yj) :: st) S Q := pv_lcmp (pm_cdi rfl dX4_isLinked_11)
theorem q32_12 : pm_V d 32 12 [l0, l1, l2] (.int xi :: st) S Q = if xi = 0 then pm_V d 32 15 [l0, l1, l2] st S Q else pm_V d 32 19 [l0, l1, l2] st S Q := pv_if_ne (pm_cdi rfl dX4_isLinked_12) rfl
theorem q32_15 : pm_V d 32 15 [l0, l1, l2] st S Q = pm_V d 32 16 [l0, l1, l2] (.int 1 :: st) S Q := pv_iconst (pm_cdi rfl dX4_isLinked_15) (by decide +kernel)
theorem q32_16 : pm_V d 32 16 [l0, l1, l2] st S Q = pm_V d 32 20 [l0, l1, l2] st S Q := pv_goto (pm_cdi rfl dX4_isLinked_16) rfl
theorem q32_19 : pm_V d 32 19 [l0, l1, l2] st S Q = pm_V d 32 20 [l0, l1, l2] (.int 0 :: st) S Q := pv_iconst (pm_cdi rfl dX4_isLinked_19) (by decide +kernel)
theorem q32_20 (hx : xi = 0 ∨ xi = 1) : pm_V d 32 20 [l0, l1, l2] [.int xi] S Q = Q (some (.int xi)) S := pv_rZ (pm_cdi rfl dX4_isLinked_20) (by decide +kernel) hx
theorem q32_e : pm_N d 32 [.ref an, .int v0i, .int v1i] S Q = pm_V d 32 0 [.ref an, .int v0i, .int v1i] [] S Q := pv_ent (Nat.le_of_ble_eq_true rfl) rfl
/-! 33: ViewsJoins$Reckoner.copyUnlinked(LViewsJoins$Graph;LViewsJoins$Graph;)V -/
theorem dX4_copyUnlinked_0 : decode cX4_copyUnlinked 0 = .ok (.iconst 0, 1) := by decide +kernel
theorem dX4_copyUnlinked_1 : decode cX4_copyUnlinked 1 = .ok (.istore_n 3, 1) := by decide +kernel
theorem dX4_copyUnlinked_2 : decode cX4_copyUnlinked 2 = .ok (.iload_n 3, 1) := by decide +kernel
theorem dX4_copyUnlinked_3 : decode cX4_copyUnlinked 3 = .ok (.aload_n 2, 1) := by decide +kernel
theorem dX4_copyUnlinked_4 : decode cX4_copyUnlinked 4 = .ok (.getfield 126, 3) := by decide +kernel
theorem dX4_copyUnlinked_7 : decode cX4_copyUnlinked 7 = .ok (.getfield 103, 3) := by decide +kernel
theorem dX4_copyUnlinked_10 : decode cX4_copyUnlinked 10 = .ok (.if_icmp .ge 55, 3) := by decide +kernel
theorem dX4_copyUnlinked_13 : decode cX4_copyUnlinked 13 = .ok (.aload_n 0, 1) := by decide +kernel
theorem dX4_copyUnlinked_14 : decode cX4_copyUnlinked 14 = .ok (.aload_n 2, 1) := by decide +kernel
theorem dX4_copyUnlinked_15 : decode cX4_copyUnlinked 15 = .ok (.getfield 129, 3) := by decide +kernel
theorem dX4_copyUnlinked_18 : decode cX4_copyUnlinked 18 = .ok (.iload_n 3, 1) := by decide +kernel
theorem dX4_copyUnlinked_19 : decode cX4_copyUnlinked 19 = .ok (.iaload, 1) := by decide +kernel
theorem dX4_copyUnlinked_20 : decode cX4_copyUnlinked 20 = .ok (.aload_n 2, 1) := by decide +kernel
theorem dX4_copyUnlinked_21 : decode cX4_copyUnlinked 21 = .ok (.getfield 132, 3) := by decide +kernel
theorem dX4_copyUnlinked_24 : decode cX4_copyUnlinked 24 = .ok (.iload_n 3, 1) := by decide +kernel
theorem dX4_copyUnlinked_25 : decode cX4_copyUnlinked 25 = .ok (.iaload, 1) := by decide +kernel
theorem dX4_copyUnlinked_26 : decode cX4_copyUnlinked 26 = .ok (.invokevirtual 152, 3) := by decide +kernel
theorem dX4_copyUnlinked_29 : decode cX4_copyUnlinked 29 = .ok (.ifCond .ne 30, 3) := by decide +kernel
theorem dX4_copyUnlinked_32 : decode cX4_copyUnlinked 32 = .ok (.aload_n 1, 1) := by decide +kernel
theorem dX4_copyUnlinked_33 : decode cX4_copyUnlinked 33 = .ok (.aload_n 2, 1) := by decide +kernel
theorem dX4_copyUnlinked_34 : decode cX4_copyUnlinked 34 = .ok (.getfield 129, 3) := by decide +kernel
theorem dX4_copyUnlinked_37 : decode cX4_copyUnlinked 37 = .ok (.iload_n 3, 1) := by decide +kernel
theorem dX4_copyUnlinked_38 : decode cX4_copyUnlinked 38 = .ok (.iaload, 1) := by decide +kernel
theorem dX4_copyUnlinked_39 : decode cX4_copyUnlinked 39 = .ok (.aload_n 2, 1) := by decide +kernel
theorem dX4_copyUnlinked_40 : decode cX4_copyUnlinked 40 = .ok (.getfield 132, 3) := by decide +kernel
theorem dX4_copyUnlinked_43 : decode cX4_copyUnlinked 43 = .ok (.iload_n 3, 1) := by decide +kernel
theorem dX4_copyUnlinked_44 : decode cX4_copyUnlinked 44 = .ok (.iaload, 1) := by decide +kernel
theorem dX4_copyUnlinked_45 : decode cX4_copyUnlinked 45 = .ok (.aload_n 2, 1) := by decide +kernel
theorem dX4_copyUnlinked_46 : decode cX4_copyUnlinked 46 = .ok (.getfield 126, 3) := by decide +kernel
theorem dX4_copyUnlinked_49 : decode cX4_copyUnlinked 49 = .ok (.getfield 112, 3) := by decide +kernel
theorem dX4_copyUnlinked_52 : decode cX4_copyUnlinked 52 = .ok (.iload_n 3, 1) := by decide +kernel
theorem dX4_copyUnlinked_53 : decode cX4_copyUnlinked 53 = .ok (.laload, 1) := by decide +kernel
theorem dX4_copyUnlinked_54 : decode cX4_copyUnlinked 54 = .ok (.iload_n 3, 1) := by decide +kernel
theorem dX4_copyUnlinked_55 : decode cX4_copyUnlinked 55 = .ok (.iconst (-1), 1) := by decide +kernel
theorem dX4_copyUnlinked_56 : decode cX4_copyUnlinked 56 = .ok (.invokevirtual 135, 3) := by decide +kernel
theorem dX4_copyUnlinked_59 : decode cX4_copyUnlinked 59 = .ok (.iinc 3 1, 3) := by decide +kernel
theorem dX4_copyUnlinked_62 : decode cX4_copyUnlinked 62 = .ok (.goto (-60), 3) := by decide +kernel
theorem dX4_copyUnlinked_65 : decode cX4_copyUnlinked 65 = .ok (.return_, 1) := by decide +kernel
theorem q33_0 : pm_V d 33 0 [l0, l1, l2, l3] st S Q = pm_V d 33 1 [l0, l1, l2, l3] (.int 0 :: st) S Q := pv_iconst (pm_cdi rfl dX4_copyUnlinked_0) (by decide +kernel)
theorem q33_1 : pm_V d 33 1 [l0, l1, .ref yn, l3] (.int xi :: st) S Q = pm_V d 33 2 [l0, l1, .ref yn, .int xi] st S Q := pv_istore_n (pm_cdi rfl dX4_copyUnlinked_1) rfl
theorem q33_2 : pm_V d 33 2 [l0, l1, l2, .int xi] st S Q = pm_V d 33 3 [l0, l1, l2, .int xi] (.int xi :: st) S Q := pv_iload_n (pm_cdi rfl dX4_copyUnlinked_2) rfl
theorem q33_3 : pm_V d 33 3 [l0, l1, .ref xn, l3] st S Q = pm_V d 33 4 [l0, l1, .ref xn, l3] (.ref xn :: st) S Q := pv_aload_n (pm_cdi rfl dX4_copyUnlinked_3) rfl
theorem q33_3N : pm_V d 33 3 [l0, l1, .null, l3] st S Q = pm_V d 33 4 [l0, l1, .null, l3] (.null :: st) S Q := pv_aload_nN (pm_cdi rfl dX4_copyUnlinked_3) rfl
theorem q33_4 (hs : pm_sh S an = .inr 0) : pm_V d 33 4 [l0, l1, l2, l3] (.ref an :: st) S Q = pm_V d 33 7 [l0, l1, l2, l3] (va_rf (pm_gr S an 1) :: st) S Q := pv_getA (pm_cdi rfl dX4_copyUnlinked_4) (by decide +kernel) (by decide +kernel) (by decide +kernel) hs
theorem q33_7 (hs : pm_sh S an = .inr 3) : pm_V d 33 7 [l0, l1, l2, l3] (.ref an :: st) S Q = pm_V d 33 10 [l0, l1, l2, l3] (.int (pm_gi S an 3) :: st) S Q := pv_getI (pm_cdi rfl dX4_copyUnlinked_7) (by decide +kernel) (by decide +kernel) (by decide +kernel) hs
theorem q33_10 : pm_V d 33 10 [l0, l1, l2, l3] (.int yi :: .int xi :: st) S Q = if xi < yi then pm_V d 33 13 [l0, l1, l2, l3] st S Q else pm_V d 33 65 [l0, l1, l2, l3] st S Q := pv_icmp_ge (pm_cdi rfl dX4_copyUnlinked_10) rfl
theorem q33_13 : pm_V d 33 13 [.ref xn, l1, l2, l3] st S Q = pm_V d 33 14 [.ref xn, l1, l2, l3] (.ref xn :: st) S Q := pv_aload_n (pm_cdi rfl dX4_copyUnlinked_13) rfl
theorem q33_14 : pm_V d 33 14 [l0, l1, .ref xn, l3] st S Q = pm_V d 33 15 [l0, l1, .ref xn, l3] (.ref xn :: st) S Q := pv_aload_n (pm_cdi rfl dX4_copyUnlinked_14) rfl
theorem q33_14N : pm_V d 33 14 [l0, l1, .null, l3] st S Q = pm_V d 33 15 [l0, l1, .null, l3] (.null :: st) S Q := pv_aload_nN (pm_cdi rfl dX4_copyUnlinked_14) rfl
theorem q33_15 (hs : pm_sh S an = .inr 0) : pm_V d 33 15 [l0, l1, l2, l3] (.ref an :: st) S Q = pm_V d 33 18 [l0, l1, l2, l3] (va_rf (pm_gr S an 2) :: st) S Q := pv_getA (pm_cdi rfl dX4_copyUnlinked_15) (by decide +kernel) (by decide +kernel) (by decide +kernel) hs
theorem q33_18 : pm_V d 33 18 [l0, l1, l2, .int xi] st S Q = pm_V d 33 19 [l0, l1, l2, .int xi] (.int xi :: st) S Q := pv_iload_n (pm_cdi rfl dX4_copyUnlinked_18) rfl
theorem q33_19 (hs : pm_ar S an 0 xi = true) : pm_V d 33 19 [l0, l1, l2, l3] (.int xi :: .ref an :: st) S Q = pm_V d 33 20 [l0, l1, l2, l3] (.int (pm_zi S an xi.toNatClampNeg) :: st) S Q := pv_iald (pm_cdi rfl dX4_copyUnlinked_19) hs
theorem q33_20 : pm_V d 33 20 [l0, l1, .ref xn, l3] st S Q = pm_V d 33 21 [l0, l1, .ref xn, l3] (.ref xn :: st) S Q := pv_aload_n (pm_cdi rfl dX4_copyUnlinked_20) rfl
theorem q33_20N : pm_V d 33 20 [l0, l1, .null, l3] st S Q = pm_V d 33 21 [l0, l1, .null, l3] (.null :: st) S Q := pv_aload_nN (pm_cdi rfl dX4_copyUnlinked_20) rfl
theorem q33_21 (hs : pm_sh S an = .inr 0) : pm_V d 33 21 [l0, l1, l2, l3] (.ref an :: st) S Q = pm_V d 33 24 [l0, l1, l2, l3] (va_rf (pm_gr S an 3) :: st) S Q := pv_getA (pm_cdi rfl dX4_copyUnlinked_21) (by decide +kernel) (by decide +kernel) (by decide +kernel) hs
theorem q33_24 : pm_V d 33 24 [l0, l1, l2, .int xi] st S Q = pm_V d 33 25 [l0, l1, l2, .int xi] (.int xi :: st) S Q := pv_iload_n (pm_cdi rfl dX4_copyUnlinked_24) rfl
theorem q33_25 (hs : pm_ar S an 0 xi = true) : pm_V d 33 25 [l0, l1, l2, l3] (.int xi :: .ref an :: st) S Q = pm_V d 33 26 [l0, l1, l2, l3] (.int (pm_zi S an xi.toNatClampNeg) :: st) S Q := pv_iald (pm_cdi rfl dX4_copyUnlinked_25) hs
theorem q33_26 (hs : pm_sh S an = .inr 4) : pm_V (d + 1) 33 26 [l0, l1, l2, l3] [.int v1i, .int v0i, .ref an] S Q = pm_N d 32 [.ref an, .int v0i, .int v1i] S (fun r S' => pm_V (d + 1) 33 29 [l0, l1, l2, l3] (r.toList ++ []) S' Q) := pv_callV (as := [.int v0i, .int v1i]) (pm_cdi rfl dX4_copyUnlinked_26) (Or.inl (by decide +kernel)) (by decide +kernel) (show _ = _ from (by decide +kernel : 2 = pm_np 32)) rfl (Nat.le_of_ble_eq_true rfl) (cl := 4) (by decide +kernel) hs
theorem q33_29 : pm_V d 33 29 [l0, l1, l2, l3] (.int xi :: st) S Q = if xi = 0 then pm_V d 33 32 [l0, l1, l2, l3] st S Q else pm_V d 33 59 [l0, l1, l2, l3] st S Q := pv_if_ne (pm_cdi rfl dX4_copyUnlinked_29) rfl
theorem q33_32 : pm_V d 33 32 [l0, .ref xn, l2, l3] st S Q = pm_V d 33 33 [l0, .ref xn, l2, l3] (.ref xn :: st) S Q := pv_aload_n (pm_cdi rfl dX4_copyUnlinked_32) rfl
theorem q33_32N : pm_V d 33 32 [l0, .null, l2, l3] st S Q = pm_V d 33 33 [l0, .null, l2, l3] (.null :: st) S Q := pv_aload_nN (pm_cdi rfl dX4_copyUnlinked_32) rfl
theorem q33_33 : pm_V d 33 33 [l0, l1, .ref xn, l3] st S Q = pm_V d 33 34 [l0, l1, .ref xn, l3] (.ref xn :: st) S Q := pv_aload_n (pm_cdi rfl dX4_copyUnlinked_33) rfl
theorem q33_33N : pm_V d 33 33 [l0, l1, .null, l3] st S Q = pm_V d 33 34 [l0, l1, .null, l3] (.null :: st) S Q := pv_aload_nN (pm_cdi rfl dX4_copyUnlinked_33) rfl
theorem q33_34 (hs : pm_sh S an = .inr 0) : pm_V d 33 34 [l0, l1, l2, l3] (.ref an :: st) S Q = pm_V d 33 37 [l0, l1, l2, l3] (va_rf (pm_gr S an 2) :: st) S Q := pv_getA (pm_cdi rfl dX4_copyUnlinked_34) (by decide +kernel) (by decide +kernel) (by decide +kernel) hs
theorem q33_37 : pm_V d 33 37 [l0, l1, l2, .int xi] st S Q = pm_V d 33 38 [l0, l1, l2, .int xi] (.int xi :: st) S Q := pv_iload_n (pm_cdi rfl dX4_copyUnlinked_37) rfl
theorem q33_38 (hs : pm_ar S an 0 xi = true) : pm_V d 33 38 [l0, l1, l2, l3] (.int xi :: .ref an :: st) S Q = pm_V d 33 39 [l0, l1, l2, l3] (.int (pm_zi S an xi.toNatClampNeg) :: st) S Q := pv_iald (pm_cdi rfl dX4_copyUnlinked_38) hs
theorem q33_39 : pm_V d 33 39 [l0, l1, .ref xn, l3] st S Q = pm_V d 33 40 [l0, l1, .ref xn, l3] (.ref xn :: st) S Q := pv_aload_n (pm_cdi rfl dX4_copyUnlinked_39) rfl
theorem q33_39N : pm_V d 33 39 [l0, l1, .null, l3] st S Q = pm_V d 33 40 [l0, l1, .null, l3] (.null :: st) S Q := pv_aload_nN (pm_cdi rfl dX4_copyUnlinked_39) rfl
theorem q33_40 (hs : pm_sh S an = .inr 0) : pm_V d 33 40 [l0, l1, l2, l3] (.ref an :: st) S Q = pm_V d 33 43 [l0, l1, l2, l3] (va_rf (pm_gr S an 3) :: st) S Q := pv_getA (pm_cdi rfl dX4_copyUnlinked_40) (by decide +kernel) (by decide +kernel) (by decide +kernel) hs
theorem q33_43 : pm_V d 33 43 [l0, l1, l2, .int xi] st S Q = pm_V d 33 44 [l0, l1, l2, .int xi] (.int xi :: st) S Q := pv_iload_n (pm_cdi rfl dX4_copyUnlinked_43) rfl
theorem q33_44 (hs : pm_ar S an 0 xi = true) : pm_V d 33 44 [l0, l1, l2, l3] (.int xi :: .ref an :: st) S Q = pm_V d 33 45 [l0, l1, l2, l3] (.int (pm_zi S an xi.toNatClampNeg) :: st) S Q := pv_iald (pm_cdi rfl dX4_copyUnlinked_44) hs
theorem q33_45 : pm_V d 33 45 [l0, l1, .ref xn, l3] st S Q = pm_V d 33 46 [l0, l1, .ref xn, l3] (.ref xn :: st) S Q := pv_aload_n (pm_cdi rfl dX4_copyUnlinked_45) rfl
theorem q33_45N : pm_V d 33 45 [l0, l1, .null, l3] st S Q = pm_V d 33 46 [l0, l1, .null, l3] (.null :: st) S Q := pv_aload_nN (pm_cdi rfl dX4_copyUnlinked_45) rfl
theorem q33_46 (hs : pm_sh S an = .inr 0) : pm_V d 33 46 [l0, l1, l2, l3] (.ref an :: st) S Q = pm_V d 33 49 [l0, l1, l2, l3] (va_rf (pm_gr S an 1) :: st) S Q := pv_getA (pm_cdi rfl dX4_copyUnlinked_46) (by decide +kernel) (by decide +kernel) (by decide +kernel) hs
theorem q33_49 (hs : pm_sh S an = .inr 3) : pm_V d 33 49 [l0, l1, l2, l3] (.ref an :: st) S Q = pm_V d 33 52 [l0, l1, l2, l3] (va_rf (pm_gr S an 0) :: st) S Q := pv_getA (pm_cdi rfl dX4_copyUnlinked_49) (by decide +kernel) (by decide +kernel) (by decide +kernel) hs
theorem q33_52 : pm_V d 33 52 [l0, l1, l2, .int xi] st S Q = pm_V d 33 53 [l0, l1, l2, .int xi] (.int xi :: st) S Q := pv_iload_n (pm_cdi rfl dX4_copyUnlinked_52) rfl
theorem q33_53 (hs : pm_ar S an 1 xi = true) : pm_V d 33 53 [l0, l1, l2, l3] (.int xi :: .ref an :: st) S Q = pm_V d 33 54 [l0, l1, l2, l3] (.long (pm_zl S an xi.toNatClampNeg) :: st) S Q := pv_lald (pm_cdi rfl dX4_copyUnlinked_53) hs
theorem q33_54 : pm_V d 33 54 [l0, l1, l2, .int xi] st S Q = pm_V d 33 55 [l0, l1, l2, .int xi] (.int xi :: st) S Q := pv_iload_n (pm_cdi rfl dX4_copyUnlinked_54) rfl
theorem q33_55 : pm_V d 33 55 [l0, l1, l2, l3] st S Q = pm_V d 33 56 [l0, l1, l2, l3] (.int (-1) :: st) S Q := pv_iconst (pm_cdi rfl dX4_copyUnlinked_55) (by decide +kernel)
theorem q33_56 (hs : pm_sh S an = .inr 0) : pm_V (d + 1) 33 56 [l0, l1, l2, l3] [.int v4i, .int v3i, .long v2j, .int v1i, .int v0i, .ref an] S Q = pm_N d 7 [.ref an, .int v0i, .int v1i, .long v2j, .int v3i, .int v4i] S (fun r S' => pm_V (d + 1) 33 59 [l0, l1, l2, l3] (r.toList ++ []) S' Q) := pv_callV (as := [.int v0i, .int v1i, .long v2j, .int v3i, .int v4i]) (pm_cdi rfl dX4_copyUnlinked_56) (Or.inl (by decide +kernel)) (by decide +kernel) (show _ = _ from (by decide +kernel : 5 = pm_np 7)) rfl (Nat.le_of_ble_eq_true rfl) (cl := 0) (by decide +kernel) hs
theorem q33_59 : pm_V d 33 59 [l0, l1, .ref yn, .int xi] st S Q = pm_V d 33 62 [l0, l1, .ref yn, .int (xi + 1)] st S Q := pv_iinc (pm_cdi rfl dX4_copyUnlinked_59) rfl (by decide +kernel) rfl
theorem q33_62 : pm_V d 33 62 [l0, l1, l2, l3] st S Q = pm_V d 33 2 [l0, l1, l2, l3] st S Q := pv_goto (pm_cdi rfl dX4_copyUnlinked_62) rfl
theorem q33_65 : pm_V d 33 65 [l0, l1, l2, l3] [] S Q = Q none S := pv_rV (pm_cdi rfl dX4_copyUnlinked_65) (by decide +kernel)
theorem q33_e : pm_N d 33 [.ref an, .ref v0n, .ref v1n] S Q = pm_V d 33 0 [.ref an, .ref v0n, .ref v1n, pm_j] [] S Q := pv_ent (Nat.le_of_ble_eq_true rfl) rfl
/-! 34: ViewsJoins$Reckoner.join(LViewsJoins$Graph;LViewsJoins$Graph;LViewsJoins$Graph;)V -/
theorem dX4_join_0 : decode cX4_join 0 = .ok (.aload_n 2, 1) := by decide +kernel
theorem dX4_join_1 : decode cX4_join 1 = .ok (.getfield 99, 3) := by decide +kernel
theorem dX4_join_4 : decode cX4_join 4 = .ok (.getfield 103, 3) := by decide +kernel
theorem dX4_join_7 : decode cX4_join 7 = .ok (.aload_n 3, 1) := by decide +kernel
theorem dX4_join_8 : decode cX4_join 8 = .ok (.getfield 99, 3) := by decide +kernel
theorem dX4_join_11 : decode cX4_join 11 = .ok (.getfield 103, 3) := by decide +kernel
theorem dX4_join_14 : decode cX4_join 14 = .ok (.invokestatic 156, 3) := by decide +kernel
theorem dX4_join_17 : decode cX4_join 17 = .ok (.istore 4, 2) := by decide +kernel
theorem dX4_join_19 : decode cX4_join 19 = .ok (.iconst 0, 1) := by decide +kernel
theorem dX4_join_20 : decode cX4_join 20 = .ok (.istore 5, 2) := by decide +kernel
theorem dX4_join_22 : decode cX4_join 22 = .ok (.iload 5, 2) := by decide +kernel
theorem dX4_join_24 : decode cX4_join 24 = .ok (.iload 4, 2) := by decide +kernel
theorem dX4_join_26 : decode cX4_join 26 = .ok (.if_icmp .ge 85, 3) := by decide +kernel
theorem dX4_join_29 : decode cX4_join 29 = .ok (.aload_n 2, 1) := by decide +kernel
theorem dX4_join_30 : decode cX4_join 30 = .ok (.getfield 99, 3) := by decide +kernel
theorem dX4_join_33 : decode cX4_join 33 = .ok (.iload 5, 2) := by decide +kernel
theorem dX4_join_35 : decode cX4_join 35 = .ok (.invokevirtual 162, 3) := by decide +kernel
theorem dX4_join_38 : decode cX4_join 38 = .ok (.istore 6, 2) := by decide +kernel
theorem dX4_join_40 : decode cX4_join 40 = .ok (.iload 6, 2) := by decide +kernel
theorem dX4_join_42 : decode cX4_join 42 = .ok (.ifCond .eq 16, 3) := by decide +kernel
theorem dX4_join_45 : decode cX4_join 45 = .ok (.aload_n 2, 1) := by decide +kernel
theorem dX4_join_46 : decode cX4_join 46 = .ok (.getfield 99, 3) := by decide +kernel
theorem dX4_join_49 : decode cX4_join 49 = .ok (.getfield 112, 3) := by decide +kernel
theorem dX4_join_52 : decode cX4_join 52 = .ok (.iload 5, 2) := by decide +kernel
theorem dX4_join_54 : decode cX4_join 54 = .ok (.laload, 1) := by decide +kernel
theorem dX4_join_55 : decode cX4_join 55 = .ok (.goto 13, 3) := by decide +kernel
theorem dX4_join_58 : decode cX4_join 58 = .ok (.aload_n 3, 1) := by decide +kernel
theorem dX4_join_59 : decode cX4_join 59 = .ok (.getfield 99, 3) := by decide +kernel
theorem dX4_join_62 : decode cX4_join 62 = .ok (.getfield 112, 3) := by decide +kernel
theorem dX4_join_65 : decode cX4_join 65 = .ok (.iload 5, 2) := by decide +kernel
theorem dX4_join_67 : decode cX4_join 67 = .ok (.laload, 1) := by decide +kernel
theorem dX4_join_68 : decode cX4_join 68 = .ok (.lstore 7, 2) := by decide +kernel
theorem dX4_join_70 : decode cX4_join 70 = .ok (.aload_n 1, 1) := by decide +kernel
theorem dX4_join_71 : decode cX4_join 71 = .ok (.lload 7, 2) := by decide +kernel
theorem dX4_join_73 : decode cX4_join 73 = .ok (.iload 6, 2) := by decide +kernel
theorem dX4_join_75 : decode cX4_join 75 = .ok (.ifCond .eq 8, 3) := by decide +kernel
theorem dX4_join_78 : decode cX4_join 78 = .ok (.iload 5, 2) := by decide +kernel
theorem dX4_join_80 : decode cX4_join 80 = .ok (.goto 4, 3) := by decide +kernel
theorem dX4_join_83 : decode cX4_join 83 = .ok (.iconst (-1), 1) := by decide +kernel
theorem dX4_join_84 : decode cX4_join 84 = .ok (.aload_n 3, 1) := by decide +kernel
theorem dX4_join_85 : decode cX4_join 85 = .ok (.getfield 99, 3) := by decide +kernel
theorem dX4_join_88 : decode cX4_join 88 = .ok (.iload 5, 2) := by decide +kernel
theorem dX4_join_90 : decode cX4_join 90 = .ok (.invokevirtual 162, 3) := by decide +kernel
theorem dX4_join_93 : decode cX4_join 93 = .ok (.ifCond .eq 8, 3) := by decide +kernel
theorem dX4_join_96 : decode cX4_join 96 = .ok (.iload 5, 2) := by decide +kernel
theorem dX4_join_98 : decode cX4_join 98 = .ok (.goto 4, 3) := by decide +kernel
theorem dX4_join_101 : decode cX4_join 101 = .ok (.iconst (-1), 1) := by decide +kernel
theorem dX4_join_102 : decode cX4_join 102 = .ok (.invokevirtual 115, 3) := by decide +kernel
theorem dX4_join_105 : decode cX4_join 105 = .ok (.iinc 5 1, 3) := by decide +kernel
theorem dX4_join_108 : decode cX4_join 108 = .ok (.goto (-86), 3) := by decide +kernel
theorem dX4_join_111 : decode cX4_join 111 = .ok (.iconst 0, 1) := by decide +kernel
theorem dX4_join_112 : decode cX4_join 112 = .ok (.istore 5, 2) := by decide +kernel
theorem dX4_join_114 : decode cX4_join 114 = .ok (.iload 5, 2) := by decide +kernel
theorem dX4_join_116 : decode cX4_join 116 = .ok (.aload_n 2, 1) := by decide +kernel
theorem dX4_join_117 : decode cX4_join 117 = .ok (.getfield 126, 3) := by decide +kernel
theorem dX4_join_120 : decode cX4_join 120 = .ok (.getfield 103, 3) := by decide +kernel
theorem dX4_join_123 : decode cX4_join 123 = .ok (.if_icmp .ge 40, 3) := by decide +kernel
theorem dX4_join_126 : decode cX4_join 126 = .ok (.aload_n 1, 1) := by decide +kernel
theorem dX4_join_127 : decode cX4_join 127 = .ok (.aload_n 2, 1) := by decide +kernel
theorem dX4_join_128 : decode cX4_join 128 = .ok (.getfield 129, 3) := by decide +kernel
theorem dX4_join_131 : decode cX4_join 131 = .ok (.iload 5, 2) := by decide +kernel
theorem dX4_join_133 : decode cX4_join 133 = .ok (.iaload, 1) := by decide +kernel
theorem dX4_join_134 : decode cX4_join 134 = .ok (.aload_n 2, 1) := by decide +kernel
theorem dX4_join_135 : decode cX4_join 135 = .ok (.getfield 132, 3) := by decide +kernel
theorem dX4_join_138 : decode cX4_join 138 = .ok (.iload 5, 2) := by decide +kernel
theorem dX4_join_140 : decode cX4_join 140 = .ok (.iaload, 1) := by decide +kernel
theorem dX4_join_141 : decode cX4_join 141 = .ok (.aload_n 2, 1) := by decide +kernel
theorem dX4_join_142 : decode cX4_join 142 = .ok (.getfield 126, 3) := by decide +kernel
theorem dX4_join_145 : decode cX4_join 145 = .ok (.getfield 112, 3) := by decide +kernel
theorem dX4_join_148 : decode cX4_join 148 = .ok (.iload 5, 2) := by decide +kernel
theorem dX4_join_150 : decode cX4_join 150 = .ok (.laload, 1) := by decide +kernel
theorem dX4_join_151 : decode cX4_join 151 = .ok (.iload 5, 2) := by decide +kernel
theorem dX4_join_153 : decode cX4_join 153 = .ok (.iconst (-1), 1) := by decide +kernel
theorem dX4_join_154 : decode cX4_join 154 = .ok (.invokevirtual 135, 3) := by decide +kernel
theorem dX4_join_157 : decode cX4_join 157 = .ok (.iinc 5 1, 3) := by decide +kernel
theorem dX4_join_160 : decode cX4_join 160 = .ok (.goto (-46), 3) := by decide +kernel
theorem dX4_join_163 : decode cX4_join 163 = .ok (.aload_n 0, 1) := by decide +kernel
theorem dX4_join_164 : decode cX4_join 164 = .ok (.aload_n 2, 1) := by decide +kernel
theorem dX4_join_165 : decode cX4_join 165 = .ok (.invokevirtual 77, 3) := by decide +kernel
theorem dX4_join_168 : decode cX4_join 168 = .ok (.iconst 0, 1) := by decide +kernel
theorem dX4_join_169 : decode cX4_join 169 = .ok (.istore 5, 2) := by decide +kernel
theorem dX4_join_171 : decode cX4_join 171 = .ok (.iload 5, 2) := by decide +kernel
theorem dX4_join_173 : decode cX4_join 173 = .ok (.aload_n 3, 1) := by decide +kernel
theorem dX4_join_174 : decode cX4_join 174 = .ok (.getfield 126, 3) := by decide +kernel
theorem dX4_join_177 : decode cX4_join 177 = .ok (.getfield 103, 3) := by decide +kernel
theorem dX4_join_180 : decode cX4_join 180 = .ok (.if_icmp .ge 61, 3) := by decide +kernel
theorem dX4_join_183 : decode cX4_join 183 = .ok (.aload_n 0, 1) := by decide +kernel
theorem dX4_join_184 : decode cX4_join 184 = .ok (.aload_n 3, 1) := by decide +kernel
theorem dX4_join_185 : decode cX4_join 185 = .ok (.getfield 129, 3) := by decide +kernel
theorem dX4_join_188 : decode cX4_join 188 = .ok (.iload 5, 2) := by decide +kernel
theorem dX4_join_190 : decode cX4_join 190 = .ok (.iaload, 1) := by decide +kernel
theorem dX4_join_191 : decode cX4_join 191 = .ok (.aload_n 3, 1) := by decide +kernel
theorem dX4_join_192 : decode cX4_join 192 = .ok (.getfield 132, 3) := by decide +kernel
theorem dX4_join_195 : decode cX4_join 195 = .ok (.iload 5, 2) := by decide +kernel
theorem dX4_join_197 : decode cX4_join 197 = .ok (.iaload, 1) := by decide +kernel
theorem dX4_join_198 : decode cX4_join 198 = .ok (.invokevirtual 152, 3) := by decide +kernel
theorem dX4_join_201 : decode cX4_join 201 = .ok (.ifCond .ne 34, 3) := by decide +kernel
theorem dX4_join_204 : decode cX4_join 204 = .ok (.aload_n 1, 1) := by decide +kernel
theorem dX4_join_205 : decode cX4_join 205 = .ok (.aload_n 3, 1) := by decide +kernel
theorem dX4_join_206 : decode cX4_join 206 = .ok (.getfield 129, 3) := by decide +kernel
theorem dX4_join_209 : decode cX4_join 209 = .ok (.iload 5, 2) := by decide +kernel
theorem dX4_join_211 : decode cX4_join 211 = .ok (.iaload, 1) := by decide +kernel
theorem dX4_join_212 : decode cX4_join 212 = .ok (.aload_n 3, 1) := by decide +kernel
theorem dX4_join_213 : decode cX4_join 213 = .ok (.getfield 132, 3) := by decide +kernel
theorem dX4_join_216 : decode cX4_join 216 = .ok (.iload 5, 2) := by decide +kernel
theorem dX4_join_218 : decode cX4_join 218 = .ok (.iaload, 1) := by decide +kernel
theorem dX4_join_219 : decode cX4_join 219 = .ok (.aload_n 3, 1) := by decide +kernel
theorem dX4_join_220 : decode cX4_join 220 = .ok (.getfield 126, 3) := by decide +kernel
theorem dX4_join_223 : decode cX4_join 223 = .ok (.getfield 112, 3) := by decide +kernel
theorem dX4_join_226 : decode cX4_join 226 = .ok (.iload 5, 2) := by decide +kernel
theorem dX4_join_228 : decode cX4_join 228 = .ok (.laload, 1) := by decide +kernel
theorem dX4_join_229 : decode cX4_join 229 = .ok (.iconst (-1), 1) := by decide +kernel
theorem dX4_join_230 : decode cX4_join 230 = .ok (.iload 5, 2) := by decide +kernel
theorem dX4_join_232 : decode cX4_join 232 = .ok (.invokevirtual 135, 3) := by decide +kernel
theorem dX4_join_235 : decode cX4_join 235 = .ok (.iinc 5 1, 3) := by decide +kernel
theorem dX4_join_238 : decode cX4_join 238 = .ok (.goto (-67), 3) := by decide +kernel
theorem dX4_join_241 : decode cX4_join 241 = .ok (.return_, 1) := by decide +kernel
theorem q34_0 : pm_V d 34 0 [l0, l1, .ref xn, l3, l4, l5, l6, l7, l8] st S Q = pm_V d 34 1 [l0, l1, .ref xn, l3, l4, l5, l6, l7, l8] (.ref xn :: st) S Q := pv_aload_n (pm_cdi rfl dX4_join_0) rfl
theorem q34_0N : pm_V d 34 0 [l0, l1, .null, l3, l4, l5, l6, l7, l8] st S Q = pm_V d 34 1 [l0, l1, .null, l3, l4, l5, l6, l7, l8] (.null :: st) S Q := pv_aload_nN (pm_cdi rfl dX4_join_0) rfl
theorem q34_1 (hs : pm_sh S an = .inr 0) : pm_V d 34 1 [l0, l1, l2, l3, l4, l5, l6, l7, l8] (.ref an :: st) S Q = pm_V d 34 4 [l0, l1, l2, l3, l4, l5, l6, l7, l8] (va_rf (pm_gr S an 0) :: st) S Q := pv_getA (pm_cdi rfl dX4_join_1) (by decide +kernel) (by decide +kernel) (by decide +kernel) hs
theorem q34_4 (hs : pm_sh S an = .inr 3) : pm_V d 34 4 [l0, l1, l2, l3, l4, l5, l6, l7, l8] (.ref an :: st) S Q = pm_V d 34 7 [l0, l1, l2, l3, l4, l5, l6, l7, l8] (.int (pm_gi S an 3) :: st) S Q := pv_getI (pm_cdi rfl dX4_join_4) (by decide +kernel) (by decide +kernel) (by decide +kernel) hs
theorem q34_7 : pm_V d 34 7 [l0, l1, l2, .ref xn, l4, l5, l6, l7, l8] st S Q = pm_V d 34 8 [l0, l1, l2, .ref xn, l4, l5, l6, l7, l8] (.ref xn :: st) S Q := pv_aload_n (pm_cdi rfl dX4_join_7) rfl
theorem q34_7N : pm_V d 34 7 [l0, l1, l2, .null, l4, l5, l6, l7, l8] st S Q = pm_V d 34 8 [l0, l1, l2, .null, l4, l5, l6, l7, l8] (.null :: st) S Q := pv_aload_nN (pm_cdi rfl dX4_join_7) rfl
theorem q34_8 (hs : pm_sh S an = .inr 0) : pm_V d 34 8 [l0, l1, l2, l3, l4, l5, l6, l7, l8] (.ref an :: st) S Q = pm_V d 34 11 [l0, l1, l2, l3, l4, l5, l6, l7, l8] (va_rf (pm_gr S an 0) :: st) S Q := pv_getA (pm_cdi rfl dX4_join_8) (by decide +kernel) (by decide +kernel) (by decide +kernel) hs
theorem q34_11 (hs : pm_sh S an = .inr 3) : pm_V d 34 11 [l0, l1, l2, l3, l4, l5, l6, l7, l8] (.ref an :: st) S Q = pm_V d 34 14 [l0, l1, l2, l3, l4, l5, l6, l7, l8] (.int (pm_gi S an 3) :: st) S Q := pv_getI (pm_cdi rfl dX4_join_11) (by decide +kernel) (by decide +kernel) (by decide +kernel) hs
theorem q34_14 : pm_V (d + 1) 34 14 [l0, l1, l2, l3, l4, l5, l6, l7, l8] [.int v1i, .int v0i] S Q = pm_N d 143 [.int v0i, .int v1i] S (fun r S' => pm_V (d + 1) 34 17 [l0, l1, l2, l3, l4, l5, l6, l7, l8] (r.toList ++ []) S' Q) := pv_callS (as := [.int v0i, .int v1i]) (pm_cdi rfl dX4_join_14) (by decide +kernel) (by decide +kernel) (show _ = _ from (by decide +kernel : 2 = pm_np 143)) rfl (Nat.le_of_ble_eq_true rfl)
theorem q34_17 : pm_V d 34 17 [l0, l1, l2, .ref yn, l4, l5, l6, l7, l8] (.int xi :: st) S Q = pm_V d 34 19 [l0, l1, l2, .ref yn, .int xi, l5, l6, l7, l8] st S Q := pv_istore (pm_cdi rfl dX4_join_17) rfl
theorem q34_19 : pm_V d 34 19 [l0, l1, l2, l3, l4, l5, l6, l7, l8] st S Q = pm_V d 34 20 [l0, l1, l2, l3, l4, l5, l6, l7, l8] (.int 0 :: st) S Q := pv_iconst (pm_cdi rfl dX4_join_19) (by decide +kernel)
theorem q34_20 : pm_V d 34 20 [l0, l1, l2, l3, .int yi, l5, l6, l7, l8] (.int xi :: st) S Q = pm_V d 34 22 [l0, l1, l2, l3, .int yi, .int xi, l6, l7, l8] st S Q := pv_istore (pm_cdi rfl dX4_join_20) rfl
theorem q34_22 : pm_V d 34 22 [l0, l1, l2, l3, l4, .int xi, l6, l7, l8] st S Q = pm_V d 34 24 [l0, l1, l2, l3, l4, .int xi, l6, l7, l8] (.int xi :: st) S Q := pv_iload (pm_cdi rfl dX4_join_22) rfl
theorem q34_24 : pm_V d 34 24 [l0, l1, l2, l3, .int xi, l5, l6, l7, l8] st S Q = pm_V d 34 26 [l0, l1, l2, l3, .int xi, l5, l6, l7, l8] (.int xi :: st) S Q := pv_iload (pm_cdi rfl dX4_join_24) rfl
theorem q34_26 : pm_V d 34 26 [l0, l1, l2, l3, l4, l5, l6, l7, l8] (.int yi :: .int xi :: st) S Q = if xi < yi then pm_V d 34 29 [l0, l1, l2, l3, l4, l5, l6, l7, l8] st S Q else pm_V d 34 111 [l0, l1, l2, l3, l4, l5, l6, l7, l8] st S Q := pv_icmp_ge (pm_cdi rfl dX4_join_26) rfl
theorem q34_29 : pm_V d 34 29 [l0, l1, .ref xn, l3, l4, l5, l6, l7, l8] st S Q = pm_V d 34 30 [l0, l1, .ref xn, l3, l4, l5, l6, l7, l8] (.ref xn :: st) S Q := pv_aload_n (pm_cdi rfl dX4_join_29) rfl
theorem q34_29N : pm_V d 34 29 [l0, l1, .null, l3, l4, l5, l6, l7, l8] st S Q = pm_V d 34 30 [l0, l1, .null, l3, l4, l5, l6, l7, l8] (.null :: st) S Q := pv_aload_nN (pm_cdi rfl dX4_join_29) rfl
theorem q34_30 (hs : pm_sh S an = .inr 0) : pm_V d 34 30 [l0, l1, l2, l3, l4, l5, l6, l7, l8] (.ref an :: st) S Q = pm_V d 34 33 [l0, l1, l2, l3, l4, l5, l6, l7, l8] (va_rf (pm_gr S an 0) :: st) S Q := pv_getA (pm_cdi rfl dX4_join_30) (by decide +kernel) (by decide +kernel) (by decide +kernel) hs
theorem q34_33 : pm_V d 34 33 [l0, l1, l2, l3, l4, .int xi, l6, l7, l8] st S Q = pm_V d 34 35 [l0, l1, l2, l3, l4, .int xi, l6, l7, l8] (.int xi :: st) S Q := pv_iload (pm_cdi rfl dX4_join_33) rfl
theorem q34_35 (hs : pm_sh S an = .inr 3) : pm_V (d + 1) 34 35 [l0, l1, l2, l3, l4, l5, l6, l7, l8] [.int v0i, .ref an] S Q = pm_N d 20 [.ref an, .int v0i] S (fun r S' => pm_V (d + 1) 34 38 [l0, l1, l2, l3, l4, l5, l6, l7, l8] (r.toList ++ []) S' Q) := pv_callV (as := [.int v0i]) (pm_cdi rfl dX4_join_35) (Or.inl (by decide +kernel)) (by decide +kernel) (show _ = _ from (by decide +kernel : 1 = pm_np 20)) rfl (Nat.le_of_ble_eq_true rfl) (cl := 3) (by decide +kernel) hs
theorem q34_38 : pm_V d 34 38 [l0, l1, l2, l3, l4, .int yi, l6, l7, l8] (.int xi :: st) S Q = pm_V d 34 40 [l0, l1, l2, l3, l4, .int yi, .int xi, l7, l8] st S Q := pv_istore (pm_cdi rfl dX4_join_38) rfl
theorem q34_40 : pm_V d 34 40 [l0, l1, l2, l3, l4, l5, .int xi, l7, l8] st S Q = pm_V d 34 42 [l0, l1, l2, l3, l4, l5, .int xi, l7, l8] (.int xi :: st) S Q := pv_iload (pm_cdi rfl dX4_join_40) rfl
theorem q34_42 : pm_V d 34 42 [l0, l1, l2, l3, l4, l5, l6, l7, l8] (.int xi :: st) S Q = if xi = 0 then pm_V d 34 58 [l0, l1, l2, l3, l4, l5, l6, l7, l8] st S Q else pm_V d 34 45 [l0, l1, l2, l3, l4, l5, l6, l7, l8] st S Q := pv_if_eq (pm_cdi rfl dX4_join_42) rfl
theorem q34_45 : pm_V d 34 45 [l0, l1, .ref xn, l3, l4, l5, l6, l7, l8] st S Q = pm_V d 34 46 [l0, l1, .ref xn, l3, l4, l5, l6, l7, l8] (.ref xn :: st) S Q := pv_aload_n (pm_cdi rfl dX4_join_45) rfl
theorem q34_45N : pm_V d 34 45 [l0, l1, .null, l3, l4, l5, l6, l7, l8] st S Q = pm_V d 34 46 [l0, l1, .null, l3, l4, l5, l6, l7, l8] (.null :: st) S Q := pv_aload_nN (pm_cdi rfl dX4_join_45) rfl
theorem q34_46 (hs : pm_sh S an = .inr 0) : pm_V d 34 46 [l0, l1, l2, l3, l4, l5, l6, l7, l8] (.ref an :: st) S Q = pm_V d 34 49 [l0, l1, l2, l3, l4, l5, l6, l7, l8] (va_rf (pm_gr S an 0) :: st) S Q := pv_getA (pm_cdi rfl dX4_join_46) (by decide +kernel) (by decide +kernel) (by decide +kernel) hs
theorem q34_49 (hs : pm_sh S an = .inr 3) : pm_V d 34 49 [l0, l1, l2, l3, l4, l5, l6, l7, l8] (.ref an :: st) S Q = pm_V d 34 52 [l0, l1, l2, l3, l4, l5, l6, l7, l8] (va_rf (pm_gr S an 0) :: st) S Q := pv_getA (pm_cdi rfl dX4_join_49) (by decide +kernel) (by decide +kernel) (by decide +kernel) hs
theorem q34_52 : pm_V d 34 52 [l0, l1, l2, l3, l4, .int xi, l6, l7, l8] st S Q = pm_V d 34 54 [l0, l1, l2, l3, l4, .int xi, l6, l7, l8] (.int xi :: st) S Q := pv_iload (pm_cdi rfl dX4_join_52) rfl
theorem q34_54 (hs : pm_ar S an 1 xi = true) : pm_V d 34 54 [l0, l1, l2, l3, l4, l5, l6, l7, l8] (.int xi :: .ref an :: st) S Q = pm_V d 34 55 [l0, l1, l2, l3, l4, l5, l6, l7, l8] (.long (pm_zl S an xi.toNatClampNeg) :: st) S Q := pv_lald (pm_cdi rfl dX4_join_54) hs
theorem q34_55 : pm_V d 34 55 [l0, l1, l2, l3, l4, l5, l6, l7, l8] st S Q = pm_V d 34 68 [l0, l1, l2, l3, l4, l5, l6, l7, l8] st S Q := pv_goto (pm_cdi rfl dX4_join_55) rfl
theorem q34_58 : pm_V d 34 58 [l0, l1, l2, .ref xn, l4, l5, l6, l7, l8] st S Q = pm_V d 34 59 [l0, l1, l2, .ref xn, l4, l5, l6, l7, l8] (.ref xn :: st) S Q := pv_aload_n (pm_cdi rfl dX4_join_58) rfl
theorem q34_58N : pm_V d 34 58 [l0, l1, l2, .null, l4, l5, l6, l7, l8] st S Q = pm_V d 34 59 [l0, l1, l2, .null, l4, l5, l6, l7, l8] (.null :: st) S Q := pv_aload_nN (pm_cdi rfl dX4_join_58) rfl
theorem q34_59 (hs : pm_sh S an = .inr 0) : pm_V d 34 59 [l0, l1, l2, l3, l4, l5, l6, l7, l8] (.ref an :: st) S Q = pm_V d 34 62 [l0, l1, l2, l3, l4, l5, l6, l7, l8] (va_rf (pm_gr S an 0) :: st) S Q := pv_getA (pm_cdi rfl dX4_join_59) (by decide +kernel) (by decide +kernel) (by decide +kernel) hs
theorem q34_62 (hs : pm_sh S an = .inr 3) : pm_V d 34 62 [l0, l1, l2, l3, l4, l5, l6, l7, l8] (.ref an :: st) S Q = pm_V d 34 65 [l0, l1, l2, l3, l4, l5, l6, l7, l8] (va_rf (pm_gr S an 0) :: st) S Q := pv_getA (pm_cdi rfl dX4_join_62) (by decide +kernel) (by decide +kernel) (by decide +kernel) hs
theorem q34_65 : pm_V d 34 65 [l0, l1, l2, l3, l4, .int xi, l6, l7, l8] st S Q = pm_V d 34 67 [l0, l1, l2, l3, l4, .int xi, l6, l7, l8] (.int xi :: st) S Q := pv_iload (pm_cdi rfl dX4_join_65) rfl
theorem q34_67 (hs : pm_ar S an 1 xi = true) : pm_V d 34 67 [l0, l1, l2, l3, l4, l5, l6, l7, l8] (.int xi :: .ref an :: st) S Q = pm_V d 34 68 [l0, l1, l2, l3, l4, l5, l6, l7, l8] (.long (pm_zl S an xi.toNatClampNeg) :: st) S Q := pv_lald (pm_cdi rfl dX4_join_67) hs
theorem q34_68 : pm_V d 34 68 [l0, l1, l2, l3, l4, l5, .int yi, l7, l8] (.long xj :: st) S Q = pm_V d 34 70 [l0, l1, l2, l3, l4, l5, .int yi, .long xj, pm_j] st S Q := pv_lstore (pm_cdi rfl dX4_join_68) rfl
theorem q34_70 : pm_V d 34 70 [l0, .ref xn, l2, l3, l4, l5, l6, l7, l8] st S Q = pm_V d 34 71 [l0, .ref xn, l2, l3, l4, l5, l6, l7, l8] (.ref xn :: st) S Q := pv_aload_n (pm_cdi rfl dX4_join_70) rfl
theorem q34_70N : pm_V d 34 70 [l0, .null, l2, l3, l4, l5, l6, l7, l8] st S Q = pm_V d 34 71 [l0, .null, l2, l3, l4, l5, l6, l7, l8] (.null :: st) S Q := pv_aload_nN (pm_cdi rfl dX4_join_70) rfl
theorem q34_71 : pm_V d 34 71 [l0, l1, l2, l3, l4, l5, l6, .long xj, l8] st S Q = pm_V d 34 73 [l0, l1, l2, l3, l4, l5, l6, .long xj, l8] (.long xj :: st) S Q := pv_lload (pm_cdi rfl dX4_join_71) rfl
theorem q34_73 : pm_V d 34 73 [l0, l1, l2, l3, l4, l5, .int xi, l7, l8] st S Q = pm_V d 34 75 [l0, l1, l2, l3, l4, l5, .int xi, l7, l8] (.int xi :: st) S Q := pv_iload (pm_cdi rfl dX4_join_73) rfl
theorem q34_75 : pm_V d 34 75 [l0, l1, l2, l3, l4, l5, l6, l7, l8] (.int xi :: st) S Q = if xi = 0 then pm_V d 34 83 [l0, l1, l2, l3, l4, l5, l6, l7, l8] st S Q else pm_V d 34 78 [l0, l1, l2, l3, l4, l5, l6, l7, l8] st S Q := pv_if_eq (pm_cdi rfl dX4_join_75) rfl
theorem q34_78 : pm_V d 34 78 [l0, l1, l2, l3, l4, .int xi, l6, l7, l8] st S Q = pm_V d 34 80 [l0, l1, l2, l3, l4, .int xi, l6, l7, l8] (.int xi :: st) S Q := pv_iload (pm_cdi rfl dX4_join_78) rfl
theorem q34_80 : pm_V d 34 80 [l0, l1, l2, l3, l4, l5, l6, l7, l8] st S Q = pm_V d 34 84 [l0, l1, l2, l3, l4, l5, l6, l7, l8] st S Q := pv_goto (pm_cdi rfl dX4_join_80) rfl
theorem q34_83 : pm_V d 34 83 [l0, l1, l2, l3, l4, l5, l6, l7, l8] st S Q = pm_V d 34 84 [l0, l1, l2, l3, l4, l5, l6, l7, l8] (.int (-1) :: st) S Q := pv_iconst (pm_cdi rfl dX4_join_83) (by decide +kernel)
theorem q34_84 : pm_V d 34 84 [l0, l1, l2, .ref xn, l4, l5, l6, l7, l8] st S Q = pm_V d 34 85 [l0, l1, l2, .ref xn, l4, l5, l6, l7, l8] (.ref xn :: st) S Q := pv_aload_n (pm_cdi rfl dX4_join_84) rfl
theorem q34_84N : pm_V d 34 84 [l0, l1, l2, .null, l4, l5, l6, l7, l8] st S Q = pm_V d 34 85 [l0, l1, l2, .null, l4, l5, l6, l7, l8] (.null :: st) S Q := pv_aload_nN (pm_cdi rfl dX4_join_84) rfl
theorem q34_85 (hs : pm_sh S an = .inr 0) : pm_V d 34 85 [l0, l1, l2, l3, l4, l5, l6, l7, l8] (.ref an :: st) S Q = pm_V d 34 88 [l0, l1, l2, l3, l4, l5, l6, l7, l8] (va_rf (pm_gr S an 0) :: st) S Q := pv_getA (pm_cdi rfl dX4_join_85) (by decide +kernel) (by decide +kernel) (by decide +kernel) hs
theorem q34_88 : pm_V d 34 88 [l0, l1, l2, l3, l4, .int xi, l6, l7, l8] st S Q = pm_V d 34 90 [l0, l1, l2, l3, l4, .int xi, l6, l7, l8] (.int xi :: st) S Q := pv_iload (pm_cdi rfl dX4_join_88) rfl
theorem q34_90 (hs : pm_sh S an = .inr 3) : pm_V (d + 1) 34 90 [l0, l1, l2, l3, l4, l5, l6, l7, l8] [.int v0i, .ref an, .int r0i, .long r1j, .ref r2n] S Q = pm_N d 20 [.ref an, .int v0i] S (fun r S' => pm_V (d + 1) 34 93 [l0, l1, l2, l3, l4, l5, l6, l7, l8] (r.toList ++ [.int r0i, .long r1j, .ref r2n]) S' Q) := pv_callV (as := [.int v0i]) (pm_cdi rfl dX4_join_90) (Or.inl (by decide +kernel)) (by decide +kernel) (show _ = _ from (by decide +kernel : 1 = pm_np 20)) rfl (Nat.le_of_ble_eq_true rfl) (cl := 3) (by decide +kernel) hs
theorem q34_93 : pm_V d 34 93 [l0, l1, l2, l3, l4, l5, l6, l7, l8] (.int xi :: st) S Q = if xi = 0 then pm_V d 34 101 [l0, l1, l2, l3, l4, l5, l6, l7, l8] st S Q else pm_V d 34 96 [l0, l1, l2, l3, l4, l5, l6, l7, l8] st S Q := pv_if_eq (pm_cdi rfl dX4_join_93) rfl
theorem q34_96 : pm_V d 34 96 [l0, l1, l2, l3, l4, .int xi, l6, l7, l8] st S Q = pm_V d 34 98 [l0, l1, l2, l3, l4, .int xi, l6, l7, l8] (.int xi :: st) S Q := pv_iload (pm_cdi rfl dX4_join_96) rfl
theorem q34_98 : pm_V d 34 98 [l0, l1, l2, l3, l4, l5, l6, l7, l8] st S Q = pm_V d 34 102 [l0, l1, l2, l3, l4, l5, l6, l7, l8] st S Q := pv_goto (pm_cdi rfl dX4_join_98) rfl
theorem q34_101 : pm_V d 34 101 [l0, l1, l2, l3, l4, l5, l6, l7, l8] st S Q = pm_V d 34 102 [l0, l1, l2, l3, l4, l5, l6, l7, l8] (.int (-1) :: st) S Q := pv_iconst (pm_cdi rfl dX4_join_101) (by decide +kernel)
theorem q34_102 (hs : pm_sh S an = .inr 0) : pm_V (d + 1) 34 102 [l0, l1, l2, l3, l4, l5, l6, l7, l8] [.int v2i, .int v1i, .long v0j, .ref an] S Q = pm_N d 6 [.ref an, .long v0j, .int v1i, .int v2i] S (fun r S' => pm_V (d + 1) 34 105 [l0, l1, l2, l3, l4, l5, l6, l7, l8] (r.toList ++ []) S' Q) := pv_callV (as := [.long v0j, .int v1i, .int v2i]) (pm_cdi rfl dX4_join_102) (Or.inl (by decide +kernel)) (by decide +kernel) (show _ = _ from (by decide +kernel : 3 = pm_np 6)) rfl (Nat.le_of_ble_eq_true rfl) (cl := 0) (by decide +kernel) hs
theorem q34_105 : pm_V d 34 105 [l0, l1, l2, l3, .int yi, .int xi, l6, l7, l8] st S Q = pm_V d 34 108 [l0, l1, l2, l3, .int yi, .int (xi + 1), l6, l7, l8] st S Q := pv_iinc (pm_cdi rfl dX4_join_105) rfl (by decide +kernel) rfl
theorem q34_108 : pm_V d 34 108 [l0, l1, l2, l3, l4, l5, l6, l7, l8] st S Q = pm_V d 34 22 [l0, l1, l2, l3, l4, l5, l6, l7, l8] st S Q := pv_goto (pm_cdi rfl dX4_join_108) rfl
theorem q34_111 : pm_V d 34 111 [l0, l1, l2, l3, l4, l5, l6, l7, l8] st S Q = pm_V d 34 112 [l0, l1, l2, l3, l4, l5, l6, l7, l8] (.int 0 :: st) S Q := pv_iconst (pm_cdi rfl dX4_join_111) (by decide +kernel)
theorem q34_112 : pm_V d 34 112 [l0, l1, l2, l3, .int yi, l5, l6, l7, l8] (.int xi :: st) S Q = pm_V d 34 114 [l0, l1, l2, l3, .int yi, .int xi, l6, l7, l8] st S Q := pv_istore (pm_cdi rfl dX4_join_112) rfl
theorem q34_114 : pm_V d 34 114 [l0, l1, l2, l3, l4, .int xi, l6, l7, l8] st S Q = pm_V d 34 116 [l0, l1, l2, l3, l4, .int xi, l6, l7, l8] (.int xi :: st) S Q := pv_iload (pm_cdi rfl dX4_join_114) rfl
theorem q34_116 : pm_V d 34 116 [l0, l1, .ref xn, l3, l4, l5, l6, l7, l8] st S Q = pm_V d 34 117 [l0, l1, .ref xn, l3, l4, l5, l6, l7, l8] (.ref xn :: st) S Q := pv_aload_n (pm_cdi rfl dX4_join_116) rfl
theorem q34_116N : pm_V d 34 116 [l0, l1, .null, l3, l4, l5, l6, l7, l8] st S Q = pm_V d 34 117 [l0, l1, .null, l3, l4, l5, l6, l7, l8] (.null :: st) S Q := pv_aload_nN (pm_cdi rfl dX4_join_116) rfl
theorem q34_117 (hs : pm_sh S an = .inr 0) : pm_V d 34 117 [l0, l1, l2, l3, l4, l5, l6, l7, l8] (.ref an :: st) S Q = pm_V d 34 120 [l0, l1, l2, l3, l4, l5, l6, l7, l8] (va_rf (pm_gr S an 1) :: st) S Q := pv_getA (pm_cdi rfl dX4_join_117) (by decide +kernel) (by decide +kernel) (by decide +kernel) hs
theorem q34_120 (hs : pm_sh S an = .inr 3) : pm_V d 34 120 [l0, l1, l2, l3, l4, l5, l6, l7, l8] (.ref an :: st) S Q = pm_V d 34 123 [l0, l1, l2, l3, l4, l5, l6, l7, l8] (.int (pm_gi S an 3) :: st) S Q := pv_getI (pm_cdi rfl dX4_join_120) (by decide +kernel) (by decide +kernel) (by decide +kernel) hs
theorem q34_123 : pm_V d 34 123 [l0, l1, l2, l3, l4, l5, l6, l7, l8] (.int yi :: .int xi :: st) S Q = if xi < yi then pm_V d 34 126 [l0, l1, l2, l3, l4, l5, l6, l7, l8] st S Q else pm_V d 34 163 [l0, l1, l2, l3, l4, l5, l6, l7, l8] st S Q := pv_icmp_ge (pm_cdi rfl dX4_join_123) rfl
theorem q34_126 : pm_V d 34 126 [l0, .ref xn, l2, l3, l4, l5, l6, l7, l8] st S Q = pm_V d 34 127 [l0, .ref xn, l2, l3, l4, l5, l6, l7, l8] (.ref xn :: st) S Q := pv_aload_n (pm_cdi rfl dX4_join_126) rfl
theorem q34_126N : pm_V d 34 126 [l0, .null, l2, l3, l4, l5, l6, l7, l8] st S Q = pm_V d 34 127 [l0, .null, l2, l3, l4, l5, l6, l7, l8] (.null :: st) S Q := pv_aload_nN (pm_cdi rfl dX4_join_126) rfl
theorem q34_127 : pm_V d 34 127 [l0, l1, .ref xn, l3, l4, l5, l6, l7, l8] st S Q = pm_V d 34 128 [l0, l1, .ref xn, l3, l4, l5, l6, l7, l8] (.ref xn :: st) S Q := pv_aload_n (pm_cdi rfl dX4_join_127) rfl
theorem q34_127N : pm_V d 34 127 [l0, l1, .null, l3, l4, l5, l6, l7, l8] st S Q = pm_V d 34 128 [l0, l1, .null, l3, l4, l5, l6, l7, l8] (.null :: st) S Q := pv_aload_nN (pm_cdi rfl dX4_join_127) rfl
theorem q34_128 (hs : pm_sh S an = .inr 0) : pm_V d 34 128 [l0, l1, l2, l3, l4, l5, l6, l7, l8] (.ref an :: st) S Q = pm_V d 34 131 [l0, l1, l2, l3, l4, l5, l6, l7, l8] (va_rf (pm_gr S an 2) :: st) S Q := pv_getA (pm_cdi rfl dX4_join_128) (by decide +kernel) (by decide +kernel) (by decide +kernel) hs
theorem q34_131 : pm_V d 34 131 [l0, l1, l2, l3, l4, .int xi, l6, l7, l8] st S Q = pm_V d 34 133 [l0, l1, l2, l3, l4, .int xi, l6, l7, l8] (.int xi :: st) S Q := pv_iload (pm_cdi rfl dX4_join_131) rfl
theorem q34_133 (hs : pm_ar S an 0 xi = true) : pm_V d 34 133 [l0, l1, l2, l3, l4, l5, l6, l7, l8] (.int xi :: .ref an :: st) S Q = pm_V d 34 134 [l0, l1, l2, l3, l4, l5, l6, l7, l8] (.int (pm_zi S an xi.toNatClampNeg) :: st) S Q := pv_iald (pm_cdi rfl dX4_join_133) hs
theorem q34_134 : pm_V d 34 134 [l0, l1, .ref xn, l3, l4, l5, l6, l7, l8] st S Q = pm_V d 34 135 [l0, l1, .ref xn, l3, l4, l5, l6, l7, l8] (.ref xn :: st) S Q := pv_aload_n (pm_cdi rfl dX4_join_134) rfl
theorem q34_134N : pm_V d 34 134 [l0, l1, .null, l3, l4, l5, l6, l7, l8] st S Q = pm_V d 34 135 [l0, l1, .null, l3, l4, l5, l6, l7, l8] (.null :: st) S Q := pv_aload_nN (pm_cdi rfl dX4_join_134) rfl
theorem q34_135 (hs : pm_sh S an = .inr 0) : pm_V d 34 135 [l0, l1, l2, l3, l4, l5, l6, l7, l8] (.ref an :: st) S Q = pm_V d 34 138 [l0, l1, l2, l3, l4, l5, l6, l7, l8] (va_rf (pm_gr S an 3) :: st) S Q := pv_getA (pm_cdi rfl dX4_join_135) (by decide +kernel) (by decide +kernel) (by decide +kernel) hs
theorem q34_138 : pm_V d 34 138 [l0, l1, l2, l3, l4, .int xi, l6, l7, l8] st S Q = pm_V d 34 140 [l0, l1, l2, l3, l4, .int xi, l6, l7, l8] (.int xi :: st) S Q := pv_iload (pm_cdi rfl dX4_join_138) rfl
theorem q34_140 (hs : pm_ar S an 0 xi = true) : pm_V d 34 140 [l0, l1, l2, l3, l4, l5, l6, l7, l8] (.int xi :: .ref an :: st) S Q = pm_V d 34 141 [l0, l1, l2, l3, l4, l5, l6, l7, l8] (.int (pm_zi S an xi.toNatClampNeg) :: st) S Q := pv_iald (pm_cdi rfl dX4_join_140) hs
theorem q34_141 : pm_V d 34 141 [l0, l1, .ref xn, l3, l4, l5, l6, l7, l8] st S Q = pm_V d 34 142 [l0, l1, .ref xn, l3, l4, l5, l6, l7, l8] (.ref xn :: st) S Q := pv_aload_n (pm_cdi rfl dX4_join_141) rfl
theorem q34_141N : pm_V d 34 141 [l0, l1, .null, l3, l4, l5, l6, l7, l8] st S Q = pm_V d 34 142 [l0, l1, .null, l3, l4, l5, l6, l7, l8] (.null :: st) S Q := pv_aload_nN (pm_cdi rfl dX4_join_141) rfl
theorem q34_142 (hs : pm_sh S an = .inr 0) : pm_V d 34 142 [l0, l1, l2, l3, l4, l5, l6, l7, l8] (.ref an :: st) S Q = pm_V d 34 145 [l0, l1, l2, l3, l4, l5, l6, l7, l8] (va_rf (pm_gr S an 1) :: st) S Q := pv_getA (pm_cdi rfl dX4_join_142) (by decide +kernel) (by decide +kernel) (by decide +kernel) hs
theorem q34_145 (hs : pm_sh S an = .inr 3) : pm_V d 34 145 [l0, l1, l2, l3, l4, l5, l6, l7, l8] (.ref an :: st) S Q = pm_V d 34 148 [l0, l1, l2, l3, l4, l5, l6, l7, l8] (va_rf (pm_gr S an 0) :: st) S Q := pv_getA (pm_cdi rfl dX4_join_145) (by decide +kernel) (by decide +kernel) (by decide +kernel) hs
theorem q34_148 : pm_V d 34 148 [l0, l1, l2, l3, l4, .int xi, l6, l7, l8] st S Q = pm_V d 34 150 [l0, l1, l2, l3, l4, .int xi, l6, l7, l8] (.int xi :: st) S Q := pv_iload (pm_cdi rfl dX4_join_148) rfl
theorem q34_150 (hs : pm_ar S an 1 xi = true) : pm_V d 34 150 [l0, l1, l2, l3, l4, l5, l6, l7, l8] (.int xi :: .ref an :: st) S Q = pm_V d 34 151 [l0, l1, l2, l3, l4, l5, l6, l7, l8] (.long (pm_zl S an xi.toNatClampNeg) :: st) S Q := pv_lald (pm_cdi rfl dX4_join_150) hs
theorem q34_151 : pm_V d 34 151 [l0, l1, l2, l3, l4, .int xi, l6, l7, l8] st S Q = pm_V d 34 153 [l0, l1, l2, l3, l4, .int xi, l6, l7, l8] (.int xi :: st) S Q := pv_iload (pm_cdi rfl dX4_join_151) rfl
theorem q34_153 : pm_V d 34 153 [l0, l1, l2, l3, l4, l5, l6, l7, l8] st S Q = pm_V d 34 154 [l0, l1, l2, l3, l4, l5, l6, l7, l8] (.int (-1) :: st) S Q := pv_iconst (pm_cdi rfl dX4_join_153) (by decide +kernel)
theorem q34_154 (hs : pm_sh S an = .inr 0) : pm_V (d + 1) 34 154 [l0, l1, l2, l3, l4, l5, l6, l7, l8] [.int v4i, .int v3i, .long v2j, .int v1i, .int v0i, .ref an] S Q = pm_N d 7 [.ref an, .int v0i, .int v1i, .long v2j, .int v3i, .int v4i] S (fun r S' => pm_V (d + 1) 34 157 [l0, l1, l2, l3, l4, l5, l6, l7, l8] (r.toList ++ []) S' Q) := pv_callV (as := [.int v0i, .int v1i, .long v2j, .int v3i, .int v4i]) (pm_cdi rfl dX4_join_154) (Or.inl (by decide +kernel)) (by decide +kernel) (show _ = _ from (by decide +kernel : 5 = pm_np 7)) rfl (Nat.le_of_ble_eq_true rfl) (cl := 0) (by decide +kernel) hs
theorem q34_157 : pm_V d 34 157 [l0, l1, l2, l3, .int yi, .int xi, l6, l7, l8] st S Q = pm_V d 34 160 [l0, l1, l2, l3, .int yi, .int (xi + 1), l6, l7, l8] st S Q := pv_iinc (pm_cdi rfl dX4_join_157) rfl (by decide +kernel) rfl
theorem q34_160 : pm_V d 34 160 [l0, l1, l2, l3, l4, l5, l6, l7, l8] st S Q = pm_V d 34 114 [l0, l1, l2, l3, l4, l5, l6, l7, l8] st S Q := pv_goto (pm_cdi rfl dX4_join_160) rfl
theorem q34_163 : pm_V d 34 163 [.ref xn, l1, l2, l3, l4, l5, l6, l7, l8] st S Q = pm_V d 34 164 [.ref xn, l1, l2, l3, l4, l5, l6, l7, l8] (.ref xn :: st) S Q := pv_aload_n (pm_cdi rfl dX4_join_163) rfl
theorem q34_164 : pm_V d 34 164 [l0, l1, .ref xn, l3, l4, l5, l6, l7, l8] st S Q = pm_V d 34 165 [l0, l1, .ref xn, l3, l4, l5, l6, l7, l8] (.ref xn :: st) S Q := pv_aload_n (pm_cdi rfl dX4_join_164) rfl
theorem q34_164N : pm_V d 34 164 [l0, l1, .null, l3, l4, l5, l6, l7, l8] st S Q = pm_V d 34 165 [l0, l1, .null, l3, l4, l5, l6, l7, l8] (.null :: st) S Q := pv_aload_nN (pm_cdi rfl dX4_join_164) rfl
theorem q34_165 (hs : pm_sh S an = .inr 4) : pm_V (d + 1) 34 165 [l0, l1, l2, l3, l4, l5, l6, l7, l8] [v0v, .ref an] S Q = pm_N d 31 [.ref an, v0v] S (fun r S' => pm_V (d + 1) 34 168 [l0, l1, l2, l3, l4, l5, l6, l7, l8] (r.toList ++ []) S' Q) := pv_callV (as := [v0v]) (pm_cdi rfl dX4_join_165) (Or.inl (by decide +kernel)) (by decide +kernel) (show _ = _ from (by decide +kernel : 1 = pm_np 31)) rfl (Nat.le_of_ble_eq_true rfl) (cl := 4) (by decide +kernel) hs
theorem q34_168 : pm_V d 34 168 [l0, l1, l2, l3, l4, l5, l6, l7, l8] st S Q = pm_V d 34 169 [l0, l1, l2, l3, l4, l5, l6, l7, l8] (.int 0 :: st) S Q := pv_iconst (pm_cdi rfl dX4_join_168) (by decide +kernel)
theorem q34_169 : pm_V d 34 169 [l0, l1, l2, l3, .int yi, l5, l6, l7, l8] (.int xi :: st) S Q = pm_V d 34 171 [l0, l1, l2, l3, .int yi, .int xi, l6, l7, l8] st S Q := pv_istore (pm_cdi rfl dX4_join_169) rfl
theorem q34_171 : pm_V d 34 171 [l0, l1, l2, l3, l4, .int xi, l6, l7, l8] st S Q = pm_V d 34 173 [l0, l1, l2, l3, l4, .int xi, l6, l7, l8] (.int xi :: st) S Q := pv_iload (pm_cdi rfl dX4_join_171) rfl
theorem q34_173 : pm_V d 34 173 [l0, l1, l2, .ref xn, l4, l5, l6, l7, l8] st S Q = pm_V d 34 174 [l0, l1, l2, .ref xn, l4, l5, l6, l7, l8] (.ref xn :: st) S Q := pv_aload_n (pm_cdi rfl dX4_join_173) rfl
theorem q34_173N : pm_V d 34 173 [l0, l1, l2, .null, l4, l5, l6, l7, l8] st S Q = pm_V d 34 174 [l0, l1, l2, .null, l4, l5, l6, l7, l8] (.null :: st) S Q := pv_aload_nN (pm_cdi rfl dX4_join_173) rfl
theorem q34_174 (hs : pm_sh S an = .inr 0) : pm_V d 34 174 [l0, l1, l2, l3, l4, l5, l6, l7, l8] (.ref an :: st) S Q = pm_V d 34 177 [l0, l1, l2, l3, l4, l5, l6, l7, l8] (va_rf (pm_gr S an 1) :: st) S Q := pv_getA (pm_cdi rfl dX4_join_174) (by decide +kernel) (by decide +kernel) (by decide +kernel) hs
theorem q34_177 (hs : pm_sh S an = .inr 3) : pm_V d 34 177 [l0, l1, l2, l3, l4, l5, l6, l7, l8] (.ref an :: st) S Q = pm_V d 34 180 [l0, l1, l2, l3, l4, l5, l6, l7, l8] (.int (pm_gi S an 3) :: st) S Q := pv_getI (pm_cdi rfl dX4_join_177) (by decide +kernel) (by decide +kernel) (by decide +kernel) hs
theorem q34_180 : pm_V d 34 180 [l0, l1, l2, l3, l4, l5, l6, l7, l8] (.int yi :: .int xi :: st) S Q = if xi < yi then pm_V d 34 183 [l0, l1, l2, l3, l4, l5, l6, l7, l8] st S Q else pm_V d 34 241 [l0, l1, l2, l3, l4, l5, l6, l7, l8] st S Q := pv_icmp_ge (pm_cdi rfl dX4_join_180) rfl
theorem q34_183 : pm_V d 34 183 [.ref xn, l1, l2, l3, l4, l5, l6, l7, l8] st S Q = pm_V d 34 184 [.ref xn, l1, l2, l3, l4, l5, l6, l7, l8] (.ref xn :: st) S Q := pv_aload_n (pm_cdi rfl dX4_join_183) rfl
theorem q34_184 : pm_V d 34 184 [l0, l1, l2, .ref xn, l4, l5, l6, l7, l8] st S Q = pm_V d 34 185 [l0, l1, l2, .ref xn, l4, l5, l6, l7, l8] (.ref xn :: st) S Q := pv_aload_n (pm_cdi rfl dX4_join_184) rfl
theorem q34_184N : pm_V d 34 184 [l0, l1, l2, .null, l4, l5, l6, l7, l8] st S Q = pm_V d 34 185 [l0, l1, l2, .null, l4, l5, l6, l7, l8] (.null :: st) S Q := pv_aload_nN (pm_cdi rfl dX4_join_184) rfl
theorem q34_185 (hs : pm_sh S an = .inr 0) : pm_V d 34 185 [l0, l1, l2, l3, l4, l5, l6, l7, l8] (.ref an :: st) S Q = pm_V d 34 188 [l0, l1, l2, l3, l4, l5, l6, l7, l8] (va_rf (pm_gr S an 2) :: st) S Q := pv_getA (pm_cdi rfl dX4_join_185) (by decide +kernel) (by decide +kernel) (by decide +kernel) hs
theorem q34_188 : pm_V d 34 188 [l0, l1, l2, l3, l4, .int xi, l6, l7, l8] st S Q = pm_V d 34 190 [l0, l1, l2, l3, l4, .int xi, l6, l7, l8] (.int xi :: st) S Q := pv_iload (pm_cdi rfl dX4_join_188) rfl
theorem q34_190 (hs : pm_ar S an 0 xi = true) : pm_V d 34 190 [l0, l1, l2, l3, l4, l5, l6, l7, l8] (.int xi :: .ref an :: st) S Q = pm_V d 34 191 [l0, l1, l2, l3, l4, l5, l6, l7, l8] (.int (pm_zi S an xi.toNatClampNeg) :: st) S Q := pv_iald (pm_cdi rfl dX4_join_190) hs
theorem q34_191 : pm_V d 34 191 [l0, l1, l2, .ref xn, l4, l5, l6, l7, l8] st S Q = pm_V d 34 192 [l0, l1, l2, .ref xn, l4, l5, l6, l7, l8] (.ref xn :: st) S Q := pv_aload_n (pm_cdi rfl dX4_join_191) rfl
theorem q34_191N : pm_V d 34 191 [l0, l1, l2, .null, l4, l5, l6, l7, l8] st S Q = pm_V d 34 192 [l0, l1, l2, .null, l4, l5, l6, l7, l8] (.null :: st) S Q := pv_aload_nN (pm_cdi rfl dX4_join_191) rfl
theorem q34_192 (hs : pm_sh S an = .inr 0) : pm_V d 34 192 [l0, l1, l2, l3, l4, l5, l6, l7, l8] (.ref an :: st) S Q = pm_V d 34 195 [l0, l1, l2, l3, l4, l5, l6, l7, l8] (va_rf (pm_gr S an 3) :: st) S Q := pv_getA (pm_cdi rfl dX4_join_192) (by decide +kernel) (by decide +kernel) (by decide +kernel) hs
theorem q34_195 : pm_V d 34 195 [l0, l1, l2, l3, l4, .int xi, l6, l7, l8] st S Q = pm_V d 34 197 [l0, l1, l2, l3, l4, .int xi, l6, l7, l8] (.int xi :: st) S Q := pv_iload (pm_cdi rfl dX4_join_195) rfl
theorem q34_197 (hs : pm_ar S an 0 xi = true) : pm_V d 34 197 [l0, l1, l2, l3, l4, l5, l6, l7, l8] (.int xi :: .ref an :: st) S Q = pm_V d 34 198 [l0, l1, l2, l3, l4, l5, l6, l7, l8] (.int (pm_zi S an xi.toNatClampNeg) :: st) S Q := pv_iald (pm_cdi rfl dX4_join_197) hs
theorem q34_198 (hs : pm_sh S an = .inr 4) : pm_V (d + 1) 34 198 [l0, l1, l2, l3, l4, l5, l6, l7, l8] [.int v1i, .int v0i, .ref an] S Q = pm_N d 32 [.ref an, .int v0i, .int v1i] S (fun r S' => pm_V (d + 1) 34 201 [l0, l1, l2, l3, l4, l5, l6, l7, l8] (r.toList ++ []) S' Q) := pv_callV (as := [.int v0i, .int v1i]) (pm_cdi rfl dX4_join_198) (Or.inl (by decide +kernel)) (by decide +kernel) (show _ = _ from (by decide +kernel : 2 = pm_np 32)) rfl (Nat.le_of_ble_eq_true rfl) (cl := 4) (by decide +kernel) hs
theorem q34_201 : pm_V d 34 201 [l0, l1, l2, l3, l4, l5, l6, l7, l8] (.int xi :: st) S Q = if xi = 0 then pm_V d 34 204 [l0, l1, l2, l3, l4, l5, l6, l7, l8] st S Q else pm_V d 34 235 [l0, l1, l2, l3, l4, l5, l6, l7, l8] st S Q := pv_if_ne (pm_cdi rfl dX4_join_201) rfl
theorem q34_204 : pm_V d 34 204 [l0, .ref xn, l2, l3, l4, l5, l6, l7, l8] st S Q = pm_V d 34 205 [l0, .ref xn, l2, l3, l4, l5, l6, l7, l8] (.ref xn :: st) S Q := pv_aload_n (pm_cdi rfl dX4_join_204) rfl
theorem q34_204N : pm_V d 34 204 [l0, .null, l2, l3, l4, l5, l6, l7, l8] st S Q = pm_V d 34 205 [l0, .null, l2, l3, l4, l5, l6, l7, l8] (.null :: st) S Q := pv_aload_nN (pm_cdi rfl dX4_join_204) rfl
theorem q34_205 : pm_V d 34 205 [l0, l1, l2, .ref xn, l4, l5, l6, l7, l8] st S Q = pm_V d 34 206 [l0, l1, l2, .ref xn, l4, l5, l6, l7, l8] (.ref xn :: st) S Q := pv_aload_n (pm_cdi rfl dX4_join_205) rfl
theorem q34_205N : pm_V d 34 205 [l0, l1, l2, .null, l4, l5, l6, l7, l8] st S Q = pm_V d 34 206 [l0, l1, l2, .null, l4, l5, l6, l7, l8] (.null :: st) S Q := pv_aload_nN (pm_cdi rfl dX4_join_205) rfl
theorem q34_206 (hs : pm_sh S an = .inr 0) : pm_V d 34 206 [l0, l1, l2, l3, l4, l5, l6, l7, l8] (.ref an :: st) S Q = pm_V d 34 209 [l0, l1, l2, l3, l4, l5, l6, l7, l8] (va_rf (pm_gr S an 2) :: st) S Q := pv_getA (pm_cdi rfl dX4_join_206) (by decide +kernel) (by decide +kernel) (by decide +kernel) hs
theorem q34_209 : pm_V d 34 209 [l0, l1, l2, l3, l4, .int xi, l6, l7, l8] st S Q = pm_V d 34 211 [l0, l1, l2, l3, l4, .int xi, l6, l7, l8] (.int xi :: st) S Q := pv_iload (pm_cdi rfl dX4_join_209) rfl
theorem q34_211 (hs : pm_ar S an 0 xi = true) : pm_V d 34 211 [l0, l1, l2, l3, l4, l5, l6, l7, l8] (.int xi :: .ref an :: st) S Q = pm_V d 34 212 [l0, l1, l2, l3, l4, l5, l6, l7, l8] (.int (pm_zi S an xi.toNatClampNeg) :: st) S Q := pv_iald (pm_cdi rfl dX4_join_211) hs
theorem q34_212 : pm_V d 34 212 [l0, l1, l2, .ref xn, l4, l5, l6, l7, l8] st S Q = pm_V d 34 213 [l0, l1, l2, .ref xn, l4, l5, l6, l7, l8] (.ref xn :: st) S Q := pv_aload_n (pm_cdi rfl dX4_join_212) rfl
theorem q34_212N : pm_V d 34 212 [l0, l1, l2, .null, l4, l5, l6, l7, l8] st S Q = pm_V d 34 213 [l0, l1, l2, .null, l4, l5, l6, l7, l8] (.null :: st) S Q := pv_aload_nN (pm_cdi rfl dX4_join_212) rfl
theorem q34_213 (hs : pm_sh S an = .inr 0) : pm_V d 34 213 [l0, l1, l2, l3, l4, l5, l6, l7, l8] (.ref an :: st) S Q = pm_V d 34 216 [l0, l1, l2, l3, l4, l5, l6, l7, l8] (va_rf (pm_gr S an 3) :: st) S Q := pv_getA (pm_cdi rfl dX4_join_213) (by decide +kernel) (by decide +kernel) (by decide +kernel) hs
theorem q34_216 : pm_V d 34 216 [l0, l1, l2, l3, l4, .int xi, l6, l7, l8] st S Q = pm_V d 34 218 [l0, l1, l2, l3, l4, .int xi, l6, l7, l8] (.int xi :: st) S Q := pv_iload (pm_cdi rfl dX4_join_216) rfl
theorem q34_218 (hs : pm_ar S an 0 xi = true) : pm_V d 34 218 [l0, l1, l2, l3, l4, l5, l6, l7, l8] (.int xi :: .ref an :: st) S Q = pm_V d 34 219 [l0, l1, l2, l3, l4, l5, l6, l7, l8] (.int (pm_zi S an xi.toNatClampNeg) :: st) S Q := pv_iald (pm_cdi rfl dX4_join_218) hs
theorem q34_219 : pm_V d 34 219 [l0, l1, l2, .ref xn, l4, l5, l6, l7, l8] st S Q = pm_V d 34 220 [l0, l1, l2, .ref xn, l4, l5, l6, l7, l8] (.ref xn :: st) S Q := pv_aload_n (pm_cdi rfl dX4_join_219) rfl
theorem q34_219N : pm_V d 34 219 [l0, l1, l2, .null, l4, l5, l6, l7, l8] st S Q = pm_V d 34 220 [l0, l1, l2, .null, l4, l5, l6, l7, l8] (.null :: st) S Q := pv_aload_nN (pm_cdi rfl dX4_join_219) rfl
theorem q34_220 (hs : pm_sh S an = .inr 0) : pm_V d 34 220 [l0, l1, l2, l3, l4, l5, l6, l7, l8] (.ref an :: st) S Q = pm_V d 34 223 [l0, l1, l2, l3, l4, l5, l6, l7, l8] (va_rf (pm_gr S an 1) :: st) S Q := pv_getA (pm_cdi rfl dX4_join_220) (by decide +kernel) (by decide +kernel) (by decide +kernel) hs
theorem q34_223 (hs : pm_sh S an = .inr 3) : pm_V d 34 223 [l0, l1, l2, l3, l4, l5, l6, l7, l8] (.ref an :: st) S Q = pm_V d 34 226 [l0, l1, l2, l3, l4, l5, l6, l7, l8] (va_rf (pm_gr S an 0) :: st) S Q := pv_getA (pm_cdi rfl dX4_join_223) (by decide +kernel) (by decide +kernel) (by decide +kernel) hs
theorem q34_226 : pm_V d 34 226 [l0, l1, l2, l3, l4, .int xi, l6, l7, l8] st S Q = pm_V d 34 228 [l0, l1, l2, l3, l4, .int xi, l6, l7, l8] (.int xi :: st) S Q := pv_iload (pm_cdi rfl dX4_join_226) rfl
theorem q34_228 (hs : pm_ar S an 1 xi = true) : pm_V d 34 228 [l0, l1, l2, l3, l4, l5, l6, l7, l8] (.int xi :: .ref an :: st) S Q = pm_V d 34 229 [l0, l1, l2, l3, l4, l5, l6, l7, l8] (.long (pm_zl S an xi.toNatClampNeg) :: st) S Q := pv_lald (pm_cdi rfl dX4_join_228) hs
theorem q34_229 : pm_V d 34 229 [l0, l1, l2, l3, l4, l5, l6, l7, l8] st S Q = pm_V d 34 230 [l0, l1, l2, l3, l4, l5, l6, l7, l8] (.int (-1) :: st) S Q := pv_iconst (pm_cdi rfl dX4_join_229) (by decide +kernel)
theorem q34_230 : pm_V d 34 230 [l0, l1, l2, l3, l4, .int xi, l6, l7, l8] st S Q = pm_V d 34 232 [l0, l1, l2, l3, l4, .int xi, l6, l7, l8] (.int xi :: st) S Q := pv_iload (pm_cdi rfl dX4_join_230) rfl
theorem q34_232 (hs : pm_sh S an = .inr 0) : pm_V (d + 1) 34 232 [l0, l1, l2, l3, l4, l5, l6, l7, l8] [.int v4i, .int v3i, .long v2j, .int v1i, .int v0i, .ref an] S Q = pm_N d 7 [.ref an, .int v0i, .int v1i, .long v2j, .int v3i, .int v4i] S (fun r S' => pm_V (d + 1) 34 235 [l0, l1, l2, l3, l4, l5, l6, l7, l8] (r.toList ++ []) S' Q) := pv_callV (as := [.int v0i, .int v1i, .long v2j, .int v3i, .int v4i]) (pm_cdi rfl dX4_join_232) (Or.inl (by decide +kernel)) (by decide +kernel) (show _ = _ from (by decide +kernel : 5 = pm_np 7)) rfl (Nat.le_of_ble_eq_true rfl) (cl := 0) (by decide +kernel) hs
theorem q34_235 : pm_V d 34 235 [l0, l1, l2, l3, .int yi, .int xi, l6, l7, l8] st S Q = pm_V d 34 238 [l0, l1, l2, l3, .int yi, .int (xi + 1), l6, l7, l8] st S Q := pv_iinc (pm_cdi rfl dX4_join_235) rfl (by decide +kernel) rfl
theorem q34_238 : pm_V d 34 238 [l0, l1, l2, l3, l4, l5, l6, l7, l8] st S Q = pm_V d 34 171 [l0, l1, l2, l3, l4, l5, l6, l7, l8] st S Q := pv_goto (pm_cdi rfl dX4_join_238) rfl
theorem q34_241 : pm_V d 34 241 [l0, l1, l2, l3, l4, l5, l6, l7, l8] [] S Q = Q none S := pv_rV (pm_cdi rfl dX4_join_241) (by decide +kernel)
theorem q34_e : pm_N d 34 [.ref an, .ref v0n, .ref v1n, .ref v2n] S Q = pm_V d 34 0 [.ref an, .ref v0n, .ref v1n, .ref v2n, pm_j, pm_j, pm_j, pm_j, pm_j] [] S Q := pv_ent (Nat.le_of_ble_eq_true rfl) rfl
/-! 35: ViewsJoins$Reckoner.multiply(LViewsJoins$Graph;LViewsJoins$Graph;LViewsJoins$Graph;)V -/
theorem dX4_multiply_0 : decode cX4_multiply 0 = .ok (.aload_n 0, 1) := by decide +kernel
theorem dX4_multiply_1 : decode cX4_multiply 1 = .ok (.getfield 123, 3) := by decide +kernel
theorem dX4_multiply_4 : decode cX4_multiply 4 = .ok (.istore_n 3, 1) := by decide +kernel
theorem dX4_multiply_5 : decode cX4_multiply 5 = .ok (.iload_n 3, 1) := by decide +kernel
theorem dX4_multiply_6 : decode cX4_multiply 6 = .ok (.ifCond .ne 7, 3) := by decide +kernel
theorem dX4_multiply_9 : decode cX4_multiply 9 = .ok (.iconst 0, 1) := by decide +kernel
theorem dX4_multiply_10 : decode cX4_multiply 10 = .ok (.goto 34, 3) := by decide +kernel
theorem dX4_multiply_13 : decode cX4_multiply 13 = .ok (.aload_n 1, 1) := by decide +kernel
theorem dX4_multiply_14 : decode cX4_multiply 14 = .ok (.getfield 126, 3) := by decide +kernel
theorem dX4_multiply_17 : decode cX4_multiply 17 = .ok (.getfield 103, 3) := by decide +kernel
theorem dX4_multiply_20 : decode cX4_multiply 20 = .ok (.aload_n 2, 1) := by decide +kernel
theorem dX4_multiply_21 : decode cX4_multiply 21 = .ok (.getfield 99, 3) := by decide +kernel
theorem dX4_multiply_24 : decode cX4_multiply 24 = .ok (.getfield 103, 3) := by decide +kernel
theorem dX4_multiply_27 : decode cX4_multiply 27 = .ok (.imul, 1) := by decide +kernel
theorem dX4_multiply_28 : decode cX4_multiply 28 = .ok (.aload_n 1, 1) := by decide +kernel
theorem dX4_multiply_29 : decode cX4_multiply 29 = .ok (.getfield 99, 3) := by decide +kernel
theorem dX4_multiply_32 : decode cX4_multiply 32 = .ok (.getfield 103, 3) := by decide +kernel
theorem dX4_multiply_35 : decode cX4_multiply 35 = .ok (.aload_n 2, 1) := by decide +kernel
theorem dX4_multiply_36 : decode cX4_multiply 36 = .ok (.getfield 126, 3) := by decide +kernel
theorem dX4_multiply_39 : decode cX4_multiply 39 = .ok (.getfield 103, 3) := by decide +kernel
theorem dX4_multiply_42 : decode cX4_multiply 42 = .ok (.imul, 1) := by decide +kernel
theorem dX4_multiply_43 : decode cX4_multiply 43 = .ok (.iadd, 1) := by decide +kernel
theorem dX4_multiply_44 : decode cX4_multiply 44 = .ok (.istore 4, 2) := by decide +kernel
theorem dX4_multiply_46 : decode cX4_multiply 46 = .ok (.iload_n 3, 1) := by decide +kernel
theorem dX4_multiply_47 : decode cX4_multiply 47 = .ok (.iconst 1, 1) := by decide +kernel
theorem dX4_multiply_48 : decode cX4_multiply 48 = .ok (.if_icmp .ne 7, 3) := by decide +kernel
theorem dX4_multiply_51 : decode cX4_multiply 51 = .ok (.iconst 0, 1) := by decide +kernel
theorem dX4_multiply_52 : decode cX4_multiply 52 = .ok (.goto 18, 3) := by decide +kernel
theorem dX4_multiply_55 : decode cX4_multiply 55 = .ok (.aload_n 1, 1) := by decide +kernel
theorem dX4_multiply_56 : decode cX4_multiply 56 = .ok (.getfield 126, 3) := by decide +kernel
theorem dX4_multiply_59 : decode cX4_multiply 59 = .ok (.getfield 103, 3) := by decide +kernel
theorem dX4_multiply_62 : decode cX4_multiply 62 = .ok (.aload_n 2, 1) := by decide +kernel
theorem dX4_multiply_63 : decode cX4_multiply 63 = .ok (.getfield 126, 3) := by decide +kernel
theorem dX4_multiply_66 : decode cX4_multiply 66 = .ok (.getfield 103, 3) := by decide +kernel
theorem dX4_multiply_69 : decode cX4_multiply 69 = .ok (.imul, 1) := by decide +kernel
theorem dX4_multiply_70 : decode cX4_multiply 70 = .ok (.istore 5, 2) := by decide +kernel
theorem dX4_multiply_72 : decode cX4_multiply 72 = .ok (.aload_n 1, 1) := by decide +kernel
theorem dX4_multiply_73 : decode cX4_multiply 73 = .ok (.getfield 99, 3) := by decide +kernel
theorem dX4_multiply_76 : decode cX4_multiply 76 = .ok (.getfield 103, 3) := by decide +kernel
theorem dX4_multiply_79 : decode cX4_multiply 79 = .ok (.aload_n 2, 1) := by decide +kernel
theorem dX4_multiply_80 : decode cX4_multiply 80 = .ok (.getfield 99, 3) := by decide +kernel
theorem dX4_multiply_83 : decode cX4_multiply 83 = .ok (.getfield 103, 3) := by decide +kernel
theorem dX4_multiply_86 : decode cX4_multiply 86 = .ok (.imul, 1) := by decide +kernel
theorem dX4_multiply_87 : decode cX4_multiply 87 = .ok (.bipush 40, 2) := by decide +kernel
theorem dX4_multiply_89 : decode cX4_multiply 89 = .ok (.if_icmp .gt 13, 3) := by decide +kernel
theorem dX4_multiply_92 : decode cX4_multiply 92 = .ok (.iload 4, 2) := by decide +kernel
theorem dX4_multiply_94 : decode cX4_multiply 94 = .ok (.iload 5, 2) := by decide +kernel
theorem dX4_multiply_96 : decode cX4_multiply 96 = .ok (.iadd, 1) := by decide +kernel
theorem dX4_multiply_97 : decode cX4_multiply 97 = .ok (.bipush 120, 2) := by decide +kernel
theorem dX4_multiply_99 : decode cX4_multiply 99 = .ok (.if_icmp .le 9, 3) := by decide +kernel
theorem dX4_multiply_102 : decode cX4_multiply 102 = .ok (.aload_n 0, 1) := by decide +kernel
theorem dX4_multiply_103 : decode cX4_multiply 103 = .ok (.iconst 4, 1) := by decide +kernel
theorem dX4_multiply_104 : decode cX4_multiply 104 = .ok (.putfield 50, 3) := by decide +kernel
theorem dX4_multiply_107 : decode cX4_multiply 107 = .ok (.return_, 1) := by decide +kernel
theorem dX4_multiply_108 : decode cX4_multiply 108 = .ok (.aload_n 0, 1) := by decide +kernel
theorem dX4_multiply_109 : decode cX4_multiply 109 = .ok (.aload_n 1, 1) := by decide +kernel
theorem dX4_multiply_110 : decode cX4_multiply 110 = .ok (.aload_n 2, 1) := by decide +kernel
theorem dX4_multiply_111 : decode cX4_multiply 111 = .ok (.invokestatic 166, 3) := by decide +kernel
theorem dX4_multiply_114 : decode cX4_multiply 114 = .ok (.iload_n 3, 1) := by decide +kernel
theorem dX4_multiply_115 : decode cX4_multiply 115 = .ok (.ifCond .eq 15, 3) := by decide +kernel
theorem dX4_multiply_118 : decode cX4_multiply 118 = .ok (.aload_n 0, 1) := by decide +kernel
theorem dX4_multiply_119 : decode cX4_multiply 119 = .ok (.aload_n 1, 1) := by decide +kernel
theorem dX4_multiply_120 : decode cX4_multiply 120 = .ok (.aload_n 2, 1) := by decide +kernel
theorem dX4_multiply_121 : decode cX4_multiply 121 = .ok (.invokestatic 169, 3) := by decide +kernel
theorem dX4_multiply_124 : decode cX4_multiply 124 = .ok (.aload_n 0, 1) := by decide +kernel
theorem dX4_multiply_125 : decode cX4_multiply 125 = .ok (.aload_n 1, 1) := by decide +kernel
theorem dX4_multiply_126 : decode cX4_multiply 126 = .ok (.aload_n 2, 1) := by decide +kernel
theorem dX4_multiply_127 : decode cX4_multiply 127 = .ok (.invokestatic 172, 3) := by decide +kernel
theorem dX4_multiply_130 : decode cX4_multiply 130 = .ok (.iload_n 3, 1) := by decide +kernel
theorem dX4_multiply_131 : decode cX4_multiply 131 = .ok (.iconst 1, 1) := by decide +kernel
theorem dX4_multiply_132 : decode cX4_multiply 132 = .ok (.if_icmp .eq 9, 3) := by decide +kernel
theorem dX4_multiply_135 : decode cX4_multiply 135 = .ok (.aload_n 0, 1) := by decide +kernel
theorem dX4_multiply_136 : decode cX4_multiply 136 = .ok (.aload_n 1, 1) := by decide +kernel
theorem dX4_multiply_137 : decode cX4_multiply 137 = .ok (.aload_n 2, 1) := by decide +kernel
theorem dX4_multiply_138 : decode cX4_multiply 138 = .ok (.invokestatic 175, 3) := by decide +kernel
theorem dX4_multiply_141 : decode cX4_multiply 141 = .ok (.return_, 1) := by decide +kernel
theorem q35_0 : pm_V d 35 0 [.ref xn, l1, l2, l3, l4, l5] st S Q = pm_V d 35 1 [.ref xn, l1, l2, l3, l4, l5] (.ref xn :: st) S Q := pv_aload_n (pm_cdi rfl dX4_multiply_0) rfl
theorem q35_1 (hs : pm_sh S an = .inr 0) : pm_V d 35 1 [l0, l1, l2, l3, l4, l5] (.ref an :: st) S Q = pm_V d 35 4 [l0, l1, l2, l3, l4, l5] (.int (pm_gi S an 10) :: st) S Q := pv_getI (pm_cdi rfl dX4_multiply_1) (by decide +kernel) (by decide +kernel) (by decide +kernel) hs
theorem q35_4 : pm_V d 35 4 [l0, l1, .ref yn, l3, l4, l5] (.int xi :: st) S Q = pm_V d 35 5 [l0, l1, .ref yn, .int xi, l4, l5] st S Q := pv_istore_n (pm_cdi rfl dX4_multiply_4) rfl
theorem q35_5 : pm_V d 35 5 [l0, l1, l2, .int xi, l4, l5] st S Q = pm_V d 35 6 [l0, l1, l2, .int xi, l4, l5] (.int xi :: st) S Q := pv_iload_n (pm_cdi rfl dX4_multiply_5) rfl
theorem q35_6 : pm_V d 35 6 [l0, l1, l2, l3, l4, l5] (.int xi :: st) S Q = if xi = 0 then pm_V d 35 9 [l0, l1, l2, l3, l4, l5] st S Q else pm_V d 35 13 [l0, l1, l2, l3, l4, l5] st S Q := pv_if_ne (pm_cdi rfl dX4_multiply_6) rfl
theorem q35_9 : pm_V d 35 9 [l0, l1, l2, l3, l4, l5] st S Q = pm_V d 35 10 [l0, l1, l2, l3, l4, l5] (.int 0 :: st) S Q := pv_iconst (pm_cdi rfl dX4_multiply_9) (by decide +kernel)
theorem q35_10 : pm_V d 35 10 [l0, l1, l2, l3, l4, l5] st S Q = pm_V d 35 44 [l0, l1, l2, l3, l4, l5] st S Q := pv_goto (pm_cdi rfl dX4_multiply_10) rfl
theorem q35_13 : pm_V d 35 13 [l0, .ref xn, l2, l3, l4, l5] st S Q = pm_V d 35 14 [l0, .ref xn, l2, l3, l4, l5] (.ref xn :: st) S Q := pv_aload_n (pm_cdi rfl dX4_multiply_13) rfl
theorem q35_13N : pm_V d 35 13 [l0, .null, l2, l3, l4, l5] st S Q = pm_V d 35 14 [l0, .null, l2, l3, l4, l5] (.null :: st) S Q := pv_aload_nN (pm_cdi rfl dX4_multiply_13) rfl
theorem q35_14 (hs : pm_sh S an = .inr 0) : pm_V d 35 14 [l0, l1, l2, l3, l4, l5] (.ref an :: st) S Q = pm_V d 35 17 [l0, l1, l2, l3, l4, l5] (va_rf (pm_gr S an 1) :: st) S Q := pv_getA (pm_cdi rfl dX4_multiply_14) (by decide +kernel) (by decide +kernel) (by decide +kernel) hs
theorem q35_17 (hs : pm_sh S an = .inr 3) : pm_V d 35 17 [l0, l1, l2, l3, l4, l5] (.ref an :: st) S Q = pm_V d 35 20 [l0, l1, l2, l3, l4, l5] (.int (pm_gi S an 3) :: st) S Q := pv_getI (pm_cdi rfl dX4_multiply_17) (by decide +kernel) (by decide +kernel) (by decide +kernel) hs
theorem q35_20 : pm_V d 35 20 [l0, l1, .ref xn, l3, l4, l5] st S Q = pm_V d 35 21 [l0, l1, .ref xn, l3, l4, l5] (.ref xn :: st) S Q := pv_aload_n (pm_cdi rfl dX4_multiply_20) rfl
theorem q35_20N : pm_V d 35 20 [l0, l1, .null, l3, l4, l5] st S Q = pm_V d 35 21 [l0, l1, .null, l3, l4, l5] (.null :: st) S Q := pv_aload_nN (pm_cdi rfl dX4_multiply_20) rfl
theorem q35_21 (hs : pm_sh S an = .inr 0) : pm_V d 35 21 [l0, l1, l2, l3, l4, l5] (.ref an :: st) S Q = pm_V d 35 24 [l0, l1, l2, l3, l4, l5] (va_rf (pm_gr S an 0) :: st) S Q := pv_getA (pm_cdi rfl dX4_multiply_21) (by decide +kernel) (by decide +kernel) (by decide +kernel) hs
theorem q35_24 (hs : pm_sh S an = .inr 3) : pm_V d 35 24 [l0, l1, l2, l3, l4, l5] (.ref an :: st) S Q = pm_V d 35 27 [l0, l1, l2, l3, l4, l5] (.int (pm_gi S an 3) :: st) S Q := pv_getI (pm_cdi rfl dX4_multiply_24) (by decide +kernel) (by decide +kernel) (by decide +kernel) hs
theorem q35_27 : pm_V d 35 27 [l0, l1, l2, l3, l4, l5] (.int yi :: .int xi :: st) S Q = pm_V d 35 28 [l0, l1, l2, l3, l4, l5] (.int (xi * yi) :: st) S Q := pv_imul (pm_cdi rfl dX4_multiply_27)
theorem q35_28 : pm_V d 35 28 [l0, .ref xn, l2, l3, l4, l5] st S Q = pm_V d 35 29 [l0, .ref xn, l2, l3, l4, l5] (.ref xn :: st) S Q := pv_aload_n (pm_cdi rfl dX4_multiply_28) rfl
theorem q35_28N : pm_V d 35 28 [l0, .null, l2, l3, l4, l5] st S Q = pm_V d 35 29 [l0, .null, l2, l3, l4, l5] (.null :: st) S Q := pv_aload_nN (pm_cdi rfl dX4_multiply_28) rfl
theorem q35_29 (hs : pm_sh S an = .inr 0) : pm_V d 35 29 [l0, l1, l2, l3, l4, l5] (.ref an :: st) S Q = pm_V d 35 32 [l0, l1, l2, l3, l4, l5] (va_rf (pm_gr S an 0) :: st) S Q := pv_getA (pm_cdi rfl dX4_multiply_29) (by decide +kernel) (by decide +kernel) (by decide +kernel) hs
theorem q35_32 (hs : pm_sh S an = .inr 3) : pm_V d 35 32 [l0, l1, l2, l3, l4, l5] (.ref an :: st) S Q = pm_V d 35 35 [l0, l1, l2, l3, l4, l5] (.int (pm_gi S an 3) :: st) S Q := pv_getI (pm_cdi rfl dX4_multiply_32) (by decide +kernel) (by decide +kernel) (by decide +kernel) hs
theorem q35_35 : pm_V d 35 35 [l0, l1, .ref xn, l3, l4, l5] st S Q = pm_V d 35 36 [l0, l1, .ref xn, l3, l4, l5] (.ref xn :: st) S Q := pv_aload_n (pm_cdi rfl dX4_multiply_35) rfl
theorem q35_35N : pm_V d 35 35 [l0, l1, .null, l3, l4, l5] st S Q = pm_V d 35 36 [l0, l1, .null, l3, l4, l5] (.null :: st) S Q := pv_aload_nN (pm_cdi rfl dX4_multiply_35) rfl
theorem q35_36 (hs : pm_sh S an = .inr 0) : pm_V d 35 36 [l0, l1, l2, l3, l4, l5] (.ref an :: st) S Q = pm_V d 35 39 [l0, l1, l2, l3, l4, l5] (va_rf (pm_gr S an 1) :: st) S Q := pv_getA (pm_cdi rfl dX4_multiply_36) (by decide +kernel) (by decide +kernel) (by decide +kernel) hs
theorem q35_39 (hs : pm_sh S an = .inr 3) : pm_V d 35 39 [l0, l1, l2, l3, l4, l5] (.ref an :: st) S Q = pm_V d 35 42 [l0, l1, l2, l3, l4, l5] (.int (pm_gi S an 3) :: st) S Q := pv_getI (pm_cdi rfl dX4_multiply_39) (by decide +kernel) (by decide +kernel) (by decide +kernel) hs
theorem q35_42 : pm_V d 35 42 [l0, l1, l2, l3, l4, l5] (.int yi :: .int xi :: st) S Q = pm_V d 35 43 [l0, l1, l2, l3, l4, l5] (.int (xi * yi) :: st) S Q := pv_imul (pm_cdi rfl dX4_multiply_42)
theorem q35_43 : pm_V d 35 43 [l0, l1, l2, l3, l4, l5] (.int yi :: .int xi :: st) S Q = pm_V d 35 44 [l0, l1, l2, l3, l4, l5] (.int (xi + yi) :: st) S Q := pv_iadd (pm_cdi rfl dX4_multiply_43)
theorem q35_44 : pm_V d 35 44 [l0, l1, l2, .int yi, l4, l5] (.int xi :: st) S Q = pm_V d 35 46 [l0, l1, l2, .int yi, .int xi, l5] st S Q := pv_istore (pm_cdi rfl dX4_multiply_44) rfl
theorem q35_46 : pm_V d 35 46 [l0, l1, l2, .int xi, l4, l5] st S Q = pm_V d 35 47 [l0, l1, l2, .int xi, l4, l5] (.int xi :: st) S Q := pv_iload_n (pm_cdi rfl dX4_multiply_46) rfl
theorem q35_47 : pm_V d 35 47 [l0, l1, l2, l3, l4, l5] st S Q = pm_V d 35 48 [l0, l1, l2, l3, l4, l5] (.int 1 :: st) S Q := pv_iconst (pm_cdi rfl dX4_multiply_47) (by decide +kernel)
theorem q35_48 : pm_V d 35 48 [l0, l1, l2, l3, l4, l5] (.int yi :: .int xi :: st) S Q = if xi = yi then pm_V d 35 51 [l0, l1, l2, l3, l4, l5] st S Q else pm_V d 35 55 [l0, l1, l2, l3, l4, l5] st S Q := pv_icmp_ne (pm_cdi rfl dX4_multiply_48) rfl
theorem q35_51 : pm_V d 35 51 [l0, l1, l2, l3, l4, l5] st S Q = pm_V d 35 52 [l0, l1, l2, l3, l4, l5] (.int 0 :: st) S Q := pv_iconst (pm_cdi rfl dX4_multiply_51) (by decide +kernel)
theorem q35_52 : pm_V d 35 52 [l0, l1, l2, l3, l4, l5] st S Q = pm_V d 35 70 [l0, l1, l2, l3, l4, l5] st S Q := pv_goto (pm_cdi rfl dX4_multiply_52) rfl
theorem q35_55 : pm_V d 35 55 [l0, .ref xn, l2, l3, l4, l5] st S Q = pm_V d 35 56 [l0, .ref xn, l2, l3, l4, l5] (.ref xn :: st) S Q := pv_aload_n (pm_cdi rfl dX4_multiply_55) rfl
theorem q35_55N : pm_V d 35 55 [l0, .null, l2, l3, l4, l5] st S Q = pm_V d 35 56 [l0, .null, l2, l3, l4, l5] (.null :: st) S Q := pv_aload_nN (pm_cdi rfl dX4_multiply_55) rfl
theorem q35_56 (hs : pm_sh S an = .inr 0) : pm_V d 35 56 [l0, l1, l2, l3, l4, l5] (.ref an :: st) S Q = pm_V d 35 59 [l0, l1, l2, l3, l4, l5] (va_rf (pm_gr S an 1) :: st) S Q := pv_getA (pm_cdi rfl dX4_multiply_56) (by decide +kernel) (by decide +kernel) (by decide +kernel) hs
theorem q35_59 (hs : pm_sh S an = .inr 3) : pm_V d 35 59 [l0, l1, l2, l3, l4, l5] (.ref an :: st) S Q = pm_V d 35 62 [l0, l1, l2, l3, l4, l5] (.int (pm_gi S an 3) :: st) S Q := pv_getI (pm_cdi rfl dX4_multiply_59) (by decide +kernel) (by decide +kernel) (by decide +kernel) hs
theorem q35_62 : pm_V d 35 62 [l0, l1, .ref xn, l3, l4, l5] st S Q = pm_V d 35 63 [l0, l1, .ref xn, l3, l4, l5] (.ref xn :: st) S Q := pv_aload_n (pm_cdi rfl dX4_multiply_62) rfl
theorem q35_62N : pm_V d 35 62 [l0, l1, .null, l3, l4, l5] st S Q = pm_V d 35 63 [l0, l1, .null, l3, l4, l5] (.null :: st) S Q := pv_aload_nN (pm_cdi rfl dX4_multiply_62) rfl
theorem q35_63 (hs : pm_sh S an = .inr 0) : pm_V d 35 63 [l0, l1, l2, l3, l4, l5] (.ref an :: st) S Q = pm_V d 35 66 [l0, l1, l2, l3, l4, l5] (va_rf (pm_gr S an 1) :: st) S Q := pv_getA (pm_cdi rfl dX4_multiply_63) (by decide +kernel) (by decide +kernel) (by decide +kernel) hs
theorem q35_66 (hs : pm_sh S an = .inr 3) : pm_V d 35 66 [l0, l1, l2, l3, l4, l5] (.ref an :: st) S Q = pm_V d 35 69 [l0, l1, l2, l3, l4, l5] (.int (pm_gi S an 3) :: st) S Q := pv_getI (pm_cdi rfl dX4_multiply_66) (by decide +kernel) (by decide +kernel) (by decide +kernel) hs
theorem q35_69 : pm_V d 35 69 [l0, l1, l2, l3, l4, l5] (.int yi :: .int xi :: st) S Q = pm_V d 35 70 [l0, l1, l2, l3, l4, l5] (.int (xi * yi) :: st) S Q := pv_imul (pm_cdi rfl dX4_multiply_69)
theorem q35_70 : pm_V d 35 70 [l0, l1, l2, l3, .int yi, l5] (.int xi :: st) S Q = pm_V d 35 72 [l0, l1, l2, l3, .int yi, .int xi] st S Q := pv_istore (pm_cdi rfl dX4_multiply_70) rfl
theorem q35_72 : pm_V d 35 72 [l0, .ref xn, l2, l3, l4, l5] st S Q = pm_V d 35 73 [l0, .ref xn, l2, l3, l4, l5] (.ref xn :: st) S Q := pv_aload_n (pm_cdi rfl dX4_multiply_72) rfl
theorem q35_72N : pm_V d 35 72 [l0, .null, l2, l3, l4, l5] st S Q = pm_V d 35 73 [l0, .null, l2, l3, l4, l5] (.null :: st) S Q := pv_aload_nN (pm_cdi rfl dX4_multiply_72) rfl
theorem q35_73 (hs : pm_sh S an = .inr 0) : pm_V d 35 73 [l0, l1, l2, l3, l4, l5] (.ref an :: st) S Q = pm_V d 35 76 [l0, l1, l2, l3, l4, l5] (va_rf (pm_gr S an 0) :: st) S Q := pv_getA (pm_cdi rfl dX4_multiply_73) (by decide +kernel) (by decide +kernel) (by decide +kernel) hs
theorem q35_76 (hs : pm_sh S an = .inr 3) : pm_V d 35 76 [l0, l1, l2, l3, l4, l5] (.ref an :: st) S Q = pm_V d 35 79 [l0, l1, l2, l3, l4, l5] (.int (pm_gi S an 3) :: st) S Q := pv_getI (pm_cdi rfl dX4_multiply_76) (by decide +kernel) (by decide +kernel) (by decide +kernel) hs
theorem q35_79 : pm_V d 35 79 [l0, l1, .ref xn, l3, l4, l5] st S Q = pm_V d 35 80 [l0, l1, .ref xn, l3, l4, l5] (.ref xn :: st) S Q := pv_aload_n (pm_cdi rfl dX4_multiply_79) rfl
theorem q35_79N : pm_V d 35 79 [l0, l1, .null, l3, l4, l5] st S Q = pm_V d 35 80 [l0, l1, .null, l3, l4, l5] (.null :: st) S Q := pv_aload_nN (pm_cdi rfl dX4_multiply_79) rfl
theorem q35_80 (hs : pm_sh S an = .inr 0) : pm_V d 35 80 [l0, l1, l2, l3, l4, l5] (.ref an :: st) S Q = pm_V d 35 83 [l0, l1, l2, l3, l4, l5] (va_rf (pm_gr S an 0) :: st) S Q := pv_getA (pm_cdi rfl dX4_multiply_80) (by decide +kernel) (by decide +kernel) (by decide +kernel) hs
theorem q35_83 (hs : pm_sh S an = .inr 3) : pm_V d 35 83 [l0, l1, l2, l3, l4, l5] (.ref an :: st) S Q = pm_V d 35 86 [l0, l1, l2, l3, l4, l5] (.int (pm_gi S an 3) :: st) S Q := pv_getI (pm_cdi rfl dX4_multiply_83) (by decide +kernel) (by decide +kernel) (by decide +kernel) hs
theorem q35_86 : pm_V d 35 86 [l0, l1, l2, l3, l4, l5] (.int yi :: .int xi :: st) S Q = pm_V d 35 87 [l0, l1, l2, l3, l4, l5] (.int (xi * yi) :: st) S Q := pv_imul (pm_cdi rfl dX4_multiply_86)
theorem q35_87 : pm_V d 35 87 [l0, l1, l2, l3, l4, l5] st S Q = pm_V d 35 89 [l0, l1, l2, l3, l4, l5] (.int 40 :: st) S Q := pv_bipush (pm_cdi rfl dX4_multiply_87) (by decide +kernel)
theorem q35_89 : pm_V d 35 89 [l0, l1, l2, l3, l4, l5] (.int yi :: .int xi :: st) S Q = if xi ≤ yi then pm_V d 35 92 [l0, l1, l2, l3, l4, l5] st S Q else pm_V d 35 102 [l0, l1, l2, l3, l4, l5] st S Q := pv_icmp_gt (pm_cdi rfl dX4_multiply_89) rfl
theorem q35_92 : pm_V d 35 92 [l0, l1, l2, l3, .int xi, l5] st S Q = pm_V d 35 94 [l0, l1, l2, l3, .int xi, l5] (.int xi :: st) S Q := pv_iload (pm_cdi rfl dX4_multiply_92) rfl
theorem q35_94 : pm_V d 35 94 [l0, l1, l2, l3, l4, .int xi] st S Q = pm_V d 35 96 [l0, l1, l2, l3, l4, .int xi] (.int xi :: st) S Q := pv_iload (pm_cdi rfl dX4_multiply_94) rfl
theorem q35_96 : pm_V d 35 96 [l0, l1, l2, l3, l4, l5] (.int yi :: .int xi :: st) S Q = pm_V d 35 97 [l0, l1, l2, l3, l4, l5] (.int (xi + yi) :: st) S Q := pv_iadd (pm_cdi rfl dX4_multiply_96)
theorem q35_97 : pm_V d 35 97 [l0, l1, l2, l3, l4, l5] st S Q = pm_V d 35 99 [l0, l1, l2, l3, l4, l5] (.int 120 :: st) S Q := pv_bipush (pm_cdi rfl dX4_multiply_97) (by decide +kernel)
theorem q35_99 : pm_V d 35 99 [l0, l1, l2, l3, l4, l5] (.int yi :: .int xi :: st) S Q = if xi ≤ yi then pm_V d 35 108 [l0, l1, l2, l3, l4, l5] st S Q else pm_V d 35 102 [l0, l1, l2, l3, l4, l5] st S Q := pv_icmp_le (pm_cdi rfl dX4_multiply_99) rfl
theorem q35_102 : pm_V d 35 102 [.ref xn, l1, l2, l3, l4, l5] st S Q = pm_V d 35 103 [.ref xn, l1, l2, l3, l4, l5] (.ref xn :: st) S Q := pv_aload_n (pm_cdi rfl dX4_multiply_102) rfl
theorem q35_103 : pm_V d 35 103 [l0, l1, l2, l3, l4, l5] st S Q = pm_V d 35 104 [l0, l1, l2, l3, l4, l5] (.int 4 :: st) S Q := pv_iconst (pm_cdi rfl dX4_multiply_103) (by decide +kernel)
theorem q35_104 (hs : pm_sh S an = .inr 0) : pm_V d 35 104 [l0, l1, l2, l3, l4, l5] (.int xi :: .ref an :: st) S Q = pm_V d 35 107 [l0, l1, l2, l3, l4, l5] st (pm_sgi S an 5 xi) Q := pv_putI (pm_cdi rfl dX4_multiply_104) (by decide +kernel) (by decide +kernel) (by decide +kernel) hs
theorem q35_107 : pm_V d 35 107 [l0, l1, l2, l3, l4, l5] [] S Q = Q none S := pv_rV (pm_cdi rfl dX4_multiply_107) (by decide +kernel)
theorem q35_108 : pm_V d 35 108 [.ref xn, l1, l2, l3, l4, l5] st S Q = pm_V d 35 109 [.ref xn, l1, l2, l3, l4, l5] (.ref xn :: st) S Q := pv_aload_n (pm_cdi rfl dX4_multiply_108) rfl
theorem q35_109 : pm_V d 35 109 [l0, .ref xn, l2, l3, l4, l5] st S Q = pm_V d 35 110 [l0, .ref xn, l2, l3, l4, l5] (.ref xn :: st) S Q := pv_aload_n (pm_cdi rfl dX4_multiply_109) rfl
theorem q35_109N : pm_V d 35 109 [l0, .null, l2, l3, l4, l5] st S Q = pm_V d 35 110 [l0, .null, l2, l3, l4, l5] (.null :: st) S Q := pv_aload_nN (pm_cdi rfl dX4_multiply_109) rfl
theorem q35_110 : pm_V d 35 110 [l0, l1, .ref xn, l3, l4, l5] st S Q = pm_V d 35 111 [l0, l1, .ref xn, l3, l4, l5] (.ref xn :: st) S Q := pv_aload_n (pm_cdi rfl dX4_multiply_110) rfl
theorem q35_110N : pm_V d 35 110 [l0, l1, .null, l3, l4, l5] st S Q = pm_V d 35 111 [l0, l1, .null, l3, l4, l5] (.null :: st) S Q := pv_aload_nN (pm_cdi rfl dX4_multiply_110) rfl
theorem q35_111 : pm_V (d + 1) 35 111 [l0, l1, l2, l3, l4, l5] [v2v, v1v, v0v] S Q = pm_N d 36 [v0v, v1v, v2v] S (fun r S' => pm_V (d + 1) 35 114 [l0, l1, l2, l3, l4, l5] (r.toList ++ []) S' Q) := pv_callS (as := [v0v, v1v, v2v]) (pm_cdi rfl dX4_multiply_111) (by decide +kernel) (by decide +kernel) (show _ = _ from (by decide +kernel : 3 = pm_np 36)) rfl (Nat.le_of_ble_eq_true rfl)
theorem q35_114 : pm_V d 35 114 [l0, l1, l2, .int xi, l4, l5] st S Q = pm_V d 35 115 [l0, l1, l2, .int xi, l4, l5] (.int xi :: st) S Q := pv_iload_n (pm_cdi rfl dX4_multiply_114) rfl
theorem q35_115 : pm_V d 35 115 [l0, l1, l2, l3, l4, l5] (.int xi :: st) S Q = if xi = 0 then pm_V d 35 130 [l0, l1, l2, l3, l4, l5] st S Q else pm_V d 35 118 [l0, l1, l2, l3, l4, l5] st S Q := pv_if_eq (pm_cdi rfl dX4_multiply_115) rfl
theorem q35_118 : pm_V d 35 118 [.ref xn, l1, l2, l3, l4, l5] st S Q = pm_V d 35 119 [.ref xn, l1, l2, l3, l4, l5] (.ref xn :: st) S Q := pv_aload_n (pm_cdi rfl dX4_multiply_118) rfl
theorem q35_119 : pm_V d 35 119 [l0, .ref xn, l2, l3, l4, l5] st S Q = pm_V d 35 120 [l0, .ref xn, l2, l3, l4, l5] (.ref xn :: st) S Q := pv_aload_n (pm_cdi rfl dX4_multiply_119) rfl
theorem q35_119N : pm_V d 35 119 [l0, .null, l2, l3, l4, l5] st S Q = pm_V d 35 120 [l0, .null, l2, l3, l4, l5] (.null :: st) S Q := pv_aload_nN (pm_cdi rfl dX4_multiply_119) rfl
theorem q35_120 : pm_V d 35 120 [l0, l1, .ref xn, l3, l4, l5] st S Q = pm_V d 35 121 [l0, l1, .ref xn, l3, l4, l5] (.ref xn :: st) S Q := pv_aload_n (pm_cdi rfl dX4_multiply_120) rfl
theorem q35_120N : pm_V d 35 120 [l0, l1, .null, l3, l4, l5] st S Q = pm_V d 35 121 [l0, l1, .null, l3, l4, l5] (.null :: st) S Q := pv_aload_nN (pm_cdi rfl dX4_multiply_120) rfl
theorem q35_121 : pm_V (d + 1) 35 121 [l0, l1, l2, l3, l4, l5] [v2v, v1v, v0v] S Q = pm_N d 37 [v0v, v1v, v2v] S (fun r S' => pm_V (d + 1) 35 124 [l0, l1, l2, l3, l4, l5] (r.toList ++ []) S' Q) := pv_callS (as := [v0v, v1v, v2v]) (pm_cdi rfl dX4_multiply_121) (by decide +kernel) (by decide +kernel) (show _ = _ from (by decide +kernel : 3 = pm_np 37)) rfl (Nat.le_of_ble_eq_true rfl)
theorem q35_124 : pm_V d 35 124 [.ref xn, l1, l2, l3, l4, l5] st S Q = pm_V d 35 125 [.ref xn, l1, l2, l3, l4, l5] (.ref xn :: st) S Q := pv_aload_n (pm_cdi rfl dX4_multiply_124) rfl
theorem q35_125 : pm_V d 35 125 [l0, .ref xn, l2, l3, l4, l5] st S Q = pm_V d 35 126 [l0, .ref xn, l2, l3, l4, l5] (.ref xn :: st) S Q := pv_aload_n (pm_cdi rfl dX4_multiply_125) rfl
theorem q35_125N : pm_V d 35 125 [l0, .null, l2, l3, l4, l5] st S Q = pm_V d 35 126 [l0, .null, l2, l3, l4, l5] (.null :: st) S Q := pv_aload_nN (pm_cdi rfl dX4_multiply_125) rfl
theorem q35_126 : pm_V d 35 126 [l0, l1, .ref xn, l3, l4, l5] st S Q = pm_V d 35 127 [l0, l1, .ref xn, l3, l4, l5] (.ref xn :: st) S Q := pv_aload_n (pm_cdi rfl dX4_multiply_126) rfl
theorem q35_126N : pm_V d 35 126 [l0, l1, .null, l3, l4, l5] st S Q = pm_V d 35 127 [l0, l1, .null, l3, l4, l5] (.null :: st) S Q := pv_aload_nN (pm_cdi rfl dX4_multiply_126) rfl
theorem q35_127 : pm_V (d + 1) 35 127 [l0, l1, l2, l3, l4, l5] [v2v, v1v, v0v] S Q = pm_N d 38 [v0v, v1v, v2v] S (fun r S' => pm_V (d + 1) 35 130 [l0, l1, l2, l3, l4, l5] (r.toList ++ []) S' Q) := pv_callS (as := [v0v, v1v, v2v]) (pm_cdi rfl dX4_multiply_127) (by decide +kernel) (by decide +kernel) (show _ = _ from (by decide +kernel : 3 = pm_np 38)) rfl (Nat.le_of_ble_eq_true rfl)
theorem q35_130 : pm_V d 35 130 [l0, l1, l2, .int xi, l4, l5] st S Q = pm_V d 35 131 [l0, l1, l2, .int xi, l4, l5] (.int xi :: st) S Q := pv_iload_n (pm_cdi rfl dX4_multiply_130) rfl
theorem q35_131 : pm_V d 35 131 [l0, l1, l2, l3, l4, l5] st S Q = pm_V d 35 132 [l0, l1, l2, l3, l4, l5] (.int 1 :: st) S Q := pv_iconst (pm_cdi rfl dX4_multiply_131) (by decide +kernel)
theorem q35_132 : pm_V d 35 132 [l0, l1, l2, l3, l4, l5] (.int yi :: .int xi :: st) S Q = if xi = yi then pm_V d 35 141 [l0, l1, l2, l3, l4, l5] st S Q else pm_V d 35 135 [l0, l1, l2, l3, l4, l5] st S Q := pv_icmp_eq (pm_cdi rfl dX4_multiply_132) rfl
theorem q35_135 : pm_V d 35 135 [.ref xn, l1, l2, l3, l4, l5] st S Q = pm_V d 35 136 [.ref xn, l1, l2, l3, l4, l5] (.ref xn :: st) S Q := pv_aload_n (pm_cdi rfl dX4_multiply_135) rfl
theorem q35_136 : pm_V d 35 136 [l0, .ref xn, l2, l3, l4, l5] st S Q = pm_V d 35 137 [l0, .ref xn, l2, l3, l4, l5] (.ref xn :: st) S Q := pv_aload_n (pm_cdi rfl dX4_multiply_136) rfl
theorem q35_136N : pm_V d 35 136 [l0, .null, l2, l3, l4, l5] st S Q = pm_V d 35 137 [l0, .null, l2, l3, l4, l5] (.null :: st) S Q := pv_aload_nN (pm_cdi rfl dX4_multiply_136) rfl
theorem q35_137 : pm_V d 35 137 [l0, l1, .ref xn, l3, l4, l5] st S Q = pm_V d 35 138 [l0, l1, .ref xn, l3, l4, l5] (.ref xn :: st) S Q := pv_aload_n (pm_cdi rfl dX4_multiply_137) rfl
theorem q35_137N : pm_V d 35 137 [l0, l1, .null, l3, l4, l5] st S Q = pm_V d 35 138 [l0, l1, .null, l3, l4, l5] (.null :: st) S Q := pv_aload_nN (pm_cdi rfl dX4_multiply_137) rfl
theorem q35_138 : pm_V (d + 1) 35 138 [l0, l1, l2, l3, l4, l5] [v2v, v1v, v0v] S Q = pm_N d 39 [v0v, v1v, v2v] S (fun r S' => pm_V (d + 1) 35 141 [l0, l1, l2, l3, l4, l5] (r.toList ++ []) S' Q) := pv_callS (as := [v0v, v1v, v2v]) (pm_cdi rfl dX4_multiply_138) (by decide +kernel) (by decide +kernel) (show _ = _ from (by decide +kernel : 3 = pm_np 39)) rfl (Nat.le_of_ble_eq_true rfl)
theorem q35_141 : pm_V d 35 141 [l0, l1, l2, l3, l4, l5] [] S Q = Q none S := pv_rV (pm_cdi rfl dX4_multiply_141) (by decide +kernel)
theorem q35_e : pm_N d 35 [.ref v0n, .ref v1n, .ref v2n] S Q = pm_V d 35 0 [.ref v0n, .ref v1n, .ref v2n, pm_j, pm_j, pm_j] [] S Q := pv_ent (Nat.le_of_ble_eq_true rfl) rfl
/-! 36: ViewsJoins$Reckoner.pairNodes(LViewsJoins$Graph;LViewsJoins$Graph;LViewsJoins$Graph;)V -/
theorem dX4_pairNodes_0 : decode cX4_pairNodes 0 = .ok (.iconst 0, 1) := by decide +kernel
theorem dX4_pairNodes_1 : decode cX4_pairNodes 1 = .ok (.istore_n 3, 1) := by decide +kernel
theorem dX4_pairNodes_2 : decode cX4_pairNodes 2 = .ok (.iload_n 3, 1) := by decide +kernel
theorem dX4_pairNodes_3 : decode cX4_pairNodes 3 = .ok (.aload_n 1, 1) := by decide +kernel
theorem dX4_pairNodes_4 : decode cX4_pairNodes 4 = .ok (.getfield 99, 3) := by decide +kernel
theorem dX4_pairNodes_7 : decode cX4_pairNodes 7 = .ok (.getfield 103, 3) := by decide +kernel
theorem dX4_pairNodes_10 : decode cX4_pairNodes 10 = .ok (.if_icmp .ge 57, 3) := by decide +kernel
theorem dX4_pairNodes_13 : decode cX4_pairNodes 13 = .ok (.iconst 0, 1) := by decide +kernel
theorem dX4_pairNodes_14 : decode cX4_pairNodes 14 = .ok (.istore 4, 2) := by decide +kernel
theorem dX4_pairNodes_16 : decode cX4_pairNodes 16 = .ok (.iload 4, 2) := by decide +kernel
theorem dX4_pairNodes_18 : decode cX4_pairNodes 18 = .ok (.aload_n 2, 1) := by decide +kernel
theorem dX4_pairNodes_19 : decode cX4_pairNodes 19 = .ok (.getfield 99, 3) := by decide +kernel
theorem dX4_pairNodes_22 : decode cX4_pairNodes 22 = .ok (.getfield 103, 3) := by decide +kernel
theorem dX4_pairNodes_25 : decode cX4_pairNodes 25 = .ok (.if_icmp .ge 36, 3) := by decide +kernel
theorem dX4_pairNodes_28 : decode cX4_pairNodes 28 = .ok (.aload_n 0, 1) := by decide +kernel
theorem dX4_pairNodes_29 : decode cX4_pairNodes 29 = .ok (.aload_n 1, 1) := by decide +kernel
theorem dX4_pairNodes_30 : decode cX4_pairNodes 30 = .ok (.getfield 99, 3) := by decide +kernel
theorem dX4_pairNodes_33 : decode cX4_pairNodes 33 = .ok (.getfield 112, 3) := by decide +kernel
theorem dX4_pairNodes_36 : decode cX4_pairNodes 36 = .ok (.iload_n 3, 1) := by decide +kernel
theorem dX4_pairNodes_37 : decode cX4_pairNodes 37 = .ok (.laload, 1) := by decide +kernel
theorem dX4_pairNodes_38 : decode cX4_pairNodes 38 = .ok (.aload_n 2, 1) := by decide +kernel
theorem dX4_pairNodes_39 : decode cX4_pairNodes 39 = .ok (.getfield 99, 3) := by decide +kernel
theorem dX4_pairNodes_42 : decode cX4_pairNodes 42 = .ok (.getfield 112, 3) := by decide +kernel
theorem dX4_pairNodes_45 : decode cX4_pairNodes 45 = .ok (.iload 4, 2) := by decide +kernel
theorem dX4_pairNodes_47 : decode cX4_pairNodes 47 = .ok (.laload, 1) := by decide +kernel
theorem dX4_pairNodes_48 : decode cX4_pairNodes 48 = .ok (.ladd, 1) := by decide +kernel
theorem dX4_pairNodes_49 : decode cX4_pairNodes 49 = .ok (.iload_n 3, 1) := by decide +kernel
theorem dX4_pairNodes_50 : decode cX4_pairNodes 50 = .ok (.iload 4, 2) := by decide +kernel
theorem dX4_pairNodes_52 : decode cX4_pairNodes 52 = .ok (.invokevirtual 115, 3) := by decide +kernel
theorem dX4_pairNodes_55 : decode cX4_pairNodes 55 = .ok (.iinc 4 1, 3) := by decide +kernel
theorem dX4_pairNodes_58 : decode cX4_pairNodes 58 = .ok (.goto (-42), 3) := by decide +kernel
theorem dX4_pairNodes_61 : decode cX4_pairNodes 61 = .ok (.iinc 3 1, 3) := by decide +kernel
theorem dX4_pairNodes_64 : decode cX4_pairNodes 64 = .ok (.goto (-62), 3) := by decide +kernel
theorem dX4_pairNodes_67 : decode cX4_pairNodes 67 = .ok (.return_, 1) := by decide +kernel
theorem q36_0 : pm_V d 36 0 [l0, l1, l2, l3, l4] st S Q = pm_V d 36 1 [l0, l1, l2, l3, l4] (.int 0 :: st) S Q := pv_iconst (pm_cdi rfl dX4_pairNodes_0) (by decide +kernel)
theorem q36_1 : pm_V d 36 1 [l0, l1, .ref yn, l3, l4] (.int xi :: st) S Q = pm_V d 36 2 [l0, l1, .ref yn, .int xi, l4] st S Q := pv_istore_n (pm_cdi rfl dX4_pairNodes_1) rfl
theorem q36_2 : pm_V d 36 2 [l0, l1, l2, .int xi, l4] st S Q = pm_V d 36 3 [l0, l1, l2, .int xi, l4] (.int xi :: st) S Q := pv_iload_n (pm_cdi rfl dX4_pairNodes_2) rfl
theorem q36_3 : pm_V d 36 3 [l0, .ref xn, l2, l3, l4] st S Q = pm_V d 36 4 [l0, .ref xn, l2, l3, l4] (.ref xn :: st) S Q := pv_aload_n (pm_cdi rfl dX4_pairNodes_3) rfl
theorem q36_3N : pm_V d 36 3 [l0, .null, l2, l3, l4] st S Q = pm_V d 36 4 [l0, .null, l2, l3, l4] (.null :: st) S Q := pv_aload_nN (pm_cdi rfl dX4_pairNodes_3) rfl
theorem q36_4 (hs : pm_sh S an = .inr 0) : pm_V d 36 4 [l0, l1, l2, l3, l4] (.ref an :: st) S Q = pm_V d 36 7 [l0, l1, l2, l3, l4] (va_rf (pm_gr S an 0) :: st) S Q := pv_getA (pm_cdi rfl dX4_pairNodes_4) (by decide +kernel) (by decide +kernel) (by decide +kernel) hs
theorem q36_7 (hs : pm_sh S an = .inr 3) : pm_V d 36 7 [l0, l1, l2, l3, l4] (.ref an :: st) S Q = pm_V d 36 10 [l0, l1, l2, l3, l4] (.int (pm_gi S an 3) :: st) S Q := pv_getI (pm_cdi rfl dX4_pairNodes_7) (by decide +kernel) (by decide +kernel) (by decide +kernel) hs
theorem q36_10 : pm_V d 36 10 [l0, l1, l2, l3, l4] (.int yi :: .int xi :: st) S Q = if xi < yi then pm_V d 36 13 [l0, l1, l2, l3, l4] st S Q else pm_V d 36 67 [l0, l1, l2, l3, l4] st S Q := pv_icmp_ge (pm_cdi rfl dX4_pairNodes_10) rfl
theorem q36_13 : pm_V d 36 13 [l0, l1, l2, l3, l4] st S Q = pm_V d 36 14 [l0, l1, l2, l3, l4] (.int 0 :: st) S Q := pv_iconst (pm_cdi rfl dX4_pairNodes_13) (by decide +kernel)
theorem q36_14 : pm_V d 36 14 [l0, l1, l2, .int yi, l4] (.int xi :: st) S Q = pm_V d 36 16 [l0, l1, l2, .int yi, .int xi] st S Q := pv_istore (pm_cdi rfl dX4_pairNodes_14) rfl
theorem q36_16 : pm_V d 36 16 [l0, l1, l2, l3, .int xi] st S Q = pm_V d 36 18 [l0, l1, l2, l3, .int xi] (.int xi :: st) S Q := pv_iload (pm_cdi rfl dX4_pairNodes_16) rfl
theorem q36_18 : pm_V d 36 18 [l0, l1, .ref xn, l3, l4] st S Q = pm_V d 36 19 [l0, l1, .ref xn, l3, l4] (.ref xn :: st) S Q := pv_aload_n (pm_cdi rfl dX4_pairNodes_18) rfl
theorem q36_18N : pm_V d 36 18 [l0, l1, .null, l3, l4] st S Q = pm_V d 36 19 [l0, l1, .null, l3, l4] (.null :: st) S Q := pv_aload_nN (pm_cdi rfl dX4_pairNodes_18) rfl
theorem q36_19 (hs : pm_sh S an = .inr 0) : pm_V d 36 19 [l0, l1, l2, l3, l4] (.ref an :: st) S Q = pm_V d 36 22 [l0, l1, l2, l3, l4] (va_rf (pm_gr S an 0) :: st) S Q := pv_getA (pm_cdi rfl dX4_pairNodes_19) (by decide +kernel) (by decide +kernel) (by decide +kernel) hs
theorem q36_22 (hs : pm_sh S an = .inr 3) : pm_V d 36 22 [l0, l1, l2, l3, l4] (.ref an :: st) S Q = pm_V d 36 25 [l0, l1, l2, l3, l4] (.int (pm_gi S an 3) :: st) S Q := pv_getI (pm_cdi rfl dX4_pairNodes_22) (by decide +kernel) (by decide +kernel) (by decide +kernel) hs
theorem q36_25 : pm_V d 36 25 [l0, l1, l2, l3, l4] (.int yi :: .int xi :: st) S Q = if xi < yi then pm_V d 36 28 [l0, l1, l2, l3, l4] st S Q else pm_V d 36 61 [l0, l1, l2, l3, l4] st S Q := pv_icmp_ge (pm_cdi rfl dX4_pairNodes_25) rfl
theorem q36_28 : pm_V d 36 28 [.ref xn, l1, l2, l3, l4] st S Q = pm_V d 36 29 [.ref xn, l1, l2, l3, l4] (.ref xn :: st) S Q := pv_aload_n (pm_cdi rfl dX4_pairNodes_28) rfl
theorem q36_29 : pm_V d 36 29 [l0, .ref xn, l2, l3, l4] st S Q = pm_V d 36 30 [l0, .ref xn, l2, l3, l4] (.ref xn :: st) S Q := pv_aload_n (pm_cdi rfl dX4_pairNodes_29) rfl
theorem q36_29N : pm_V d 36 29 [l0, .null, l2, l3, l4] st S Q = pm_V d 36 30 [l0, .null, l2, l3, l4] (.null :: st) S Q := pv_aload_nN (pm_cdi rfl dX4_pairNodes_29) rfl
theorem q36_30 (hs : pm_sh S an = .inr 0) : pm_V d 36 30 [l0, l1, l2, l3, l4] (.ref an :: st) S Q = pm_V d 36 33 [l0, l1, l2, l3, l4] (va_rf (pm_gr S an 0) :: st) S Q := pv_getA (pm_cdi rfl dX4_pairNodes_30) (by decide +kernel) (by decide +kernel) (by decide +kernel) hs
theorem q36_33 (hs : pm_sh S an = .inr 3) : pm_V d 36 33 [l0, l1, l2, l3, l4] (.ref an :: st) S Q = pm_V d 36 36 [l0, l1, l2, l3, l4] (va_rf (pm_gr S an 0) :: st) S Q := pv_getA (pm_cdi rfl dX4_pairNodes_33) (by decide +kernel) (by decide +kernel) (by decide +kernel) hs
theorem q36_36 : pm_V d 36 36 [l0, l1, l2, .int xi, l4] st S Q = pm_V d 36 37 [l0, l1, l2, .int xi, l4] (.int xi :: st) S Q := pv_iload_n (pm_cdi rfl dX4_pairNodes_36) rfl
theorem q36_37 (hs : pm_ar S an 1 xi = true) : pm_V d 36 37 [l0, l1, l2, l3, l4] (.int xi :: .ref an :: st) S Q = pm_V d 36 38 [l0, l1, l2, l3, l4] (.long (pm_zl S an xi.toNatClampNeg) :: st) S Q := pv_lald (pm_cdi rfl dX4_pairNodes_37) hs
theorem q36_38 : pm_V d 36 38 [l0, l1, .ref xn, l3, l4] st S Q = pm_V d 36 39 [l0, l1, .ref xn, l3, l4] (.ref xn :: st) S Q := pv_aload_n (pm_cdi rfl dX4_pairNodes_38) rfl
theorem q36_38N : pm_V d 36 38 [l0, l1, .null, l3, l4] st S Q = pm_V d 36 39 [l0, l1, .null, l3, l4] (.null :: st) S Q := pv_aload_nN (pm_cdi rfl dX4_pairNodes_38) rfl
theorem q36_39 (hs : pm_sh S an = .inr 0) : pm_V d 36 39 [l0, l1, l2, l3, l4] (.ref an :: st) S Q = pm_V d 36 42 [l0, l1, l2, l3, l4] (va_rf (pm_gr S an 0) :: st) S Q := pv_getA (pm_cdi rfl dX4_pairNodes_39) (by decide +kernel) (by decide +kernel) (by decide +kernel) hs
theorem q36_42 (hs : pm_sh S an = .inr 3) : pm_V d 36 42 [l0, l1, l2, l3, l4] (.ref an :: st) S Q = pm_V d 36 45 [l0, l1, l2, l3, l4] (va_rf (pm_gr S an 0) :: st) S Q := pv_getA (pm_cdi rfl dX4_pairNodes_42) (by decide +kernel) (by decide +kernel) (by decide +kernel) hs
theorem q36_45 : pm_V d 36 45 [l0, l1, l2, l3, .int xi] st S Q = pm_V d 36 47 [l0, l1, l2, l3, .int xi] (.int xi :: st) S Q := pv_iload (pm_cdi rfl dX4_pairNodes_45) rfl
theorem q36_47 (hs : pm_ar S an 1 xi = true) : pm_V d 36 47 [l0, l1, l2, l3, l4] (.int xi :: .ref an :: st) S Q = pm_V d 36 48 [l0, l1, l2, l3, l4] (.long (pm_zl S an xi.toNatClampNeg) :: st) S Q := pv_lald (pm_cdi rfl dX4_pairNodes_47) hs
theorem q36_48 : pm_V d 36 48 [l0, l1, l2, l3, l4] (.long yj :: .long xj :: st) S Q = pm_V d 36 49 [l0, l1, l2, l3, l4] (.long (xj + yj) :: st) S Q := pv_ladd (pm_cdi rfl dX4_pairNodes_48)
theorem q36_49 : pm_V d 36 49 [l0, l1, l2, .int xi, l4] st S Q = pm_V d 36 50 [l0, l1, l2, .int xi, l4] (.int xi :: st) S Q := pv_iload_n (pm_cdi rfl dX4_pairNodes_49) rfl
theorem q36_50 : pm_V d 36 50 [l0, l1, l2, l3, .int xi] st S Q = pm_V d 36 52 [l0, l1, l2, l3, .int xi] (.int xi :: st) S Q := pv_iload (pm_cdi rfl dX4_pairNodes_50) rfl
theorem q36_52 (hs : pm_sh S an = .inr 0) : pm_V (d + 1) 36 52 [l0, l1, l2, l3, l4] [.int v2i, .int v1i, .long v0j, .ref an] S Q = pm_N d 6 [.ref an, .long v0j, .int v1i, .int v2i] S (fun r S' => pm_V (d + 1) 36 55 [l0, l1, l2, l3, l4] (r.toList ++ []) S' Q) := pv_callV (as := [.long v0j, .int v1i, .int v2i]) (pm_cdi rfl dX4_pairNodes_52) (Or.inl (by decide +kernel)) (by decide +kernel) (show _ = _ from (by decide +kernel : 3 = pm_np 6)) rfl (Nat.le_of_ble_eq_true rfl) (cl := 0) (by decide +kernel) hs
theorem q36_55 : pm_V d 36 55 [l0, l1, l2, .int yi, .int xi] st S Q = pm_V d 36 58 [l0, l1, l2, .int yi, .int (xi + 1)] st S Q := pv_iinc (pm_cdi rfl dX4_pairNodes_55) rfl (by decide +kernel) rfl
theorem q36_58 : pm_V d 36 58 [l0, l1, l2, l3, l4] st S Q = pm_V d 36 16 [l0, l1, l2, l3, l4] st S Q := pv_goto (pm_cdi rfl dX4_pairNodes_58) rfl
theorem q36_61 : pm_V d 36 61 [l0, l1, .ref yn, .int xi, l4] st S Q = pm_V d 36 64 [l0, l1, .ref yn, .int (xi + 1), l4] st S Q := pv_iinc (pm_cdi rfl dX4_pairNodes_61) rfl (by decide +kernel) rfl
theorem q36_64 : pm_V d 36 64 [l0, l1, l2, l3, l4] st S Q = pm_V d 36 2 [l0, l1, l2, l3, l4] st S Q := pv_goto (pm_cdi rfl dX4_pairNodes_64) rfl
theorem q36_67 : pm_V d 36 67 [l0, l1, l2, l3, l4] [] S Q = Q none S := pv_rV (pm_cdi rfl dX4_pairNodes_67) (by decide +kernel)
theorem q36_e : pm_N d 36 [.ref v0n, .ref v1n, .ref v2n] S Q = pm_V d 36 0 [.ref v0n, .ref v1n, .ref v2n, pm_j, pm_j] [] S Q := pv_ent (Nat.le_of_ble_eq_true rfl) rfl
/-! 37: ViewsJoins$Reckoner.moveInA(LViewsJoins$Graph;LViewsJoins$Graph;LViewsJoins$Graph;)V -/
theorem dX4_moveInA_0 : decode cX4_moveInA 0 = .ok (.aload_n 2, 1) := by decide +kernel
theorem dX4_moveInA_1 : decode cX4_moveInA 1 = .ok (.getfield 99, 3) := by decide +kernel
theorem dX4_moveInA_4 : decode cX4_moveInA 4 = .ok (.getfield 103, 3) := by decide +kernel
theorem dX4_moveInA_7 : decode cX4_moveInA 7 = .ok (.istore_n 3, 1) := by decide +kernel
theorem dX4_moveInA_8 : decode cX4_moveInA 8 = .ok (.iconst 0, 1) := by decide +kernel
theorem dX4_moveInA_9 : decode cX4_moveInA 9 = .ok (.istore 4, 2) := by decide +kernel
theorem dX4_moveInA_11 : decode cX4_moveInA 11 = .ok (.iload 4, 2) := by decide +kernel
theorem dX4_moveInA_13 : decode cX4_moveInA 13 = .ok (.aload_n 1, 1) := by decide +kernel
theorem dX4_moveInA_14 : decode cX4_moveInA 14 = .ok (.getfield 126, 3) := by decide +kernel
theorem dX4_moveInA_17 : decode cX4_moveInA 17 = .ok (.getfield 103, 3) := by decide +kernel
theorem dX4_moveInA_20 : decode cX4_moveInA 20 = .ok (.if_icmp .ge 65, 3) := by decide +kernel
theorem dX4_moveInA_23 : decode cX4_moveInA 23 = .ok (.iconst 0, 1) := by decide +kernel
theorem dX4_moveInA_24 : decode cX4_moveInA 24 = .ok (.istore 5, 2) := by decide +kernel
theorem dX4_moveInA_26 : decode cX4_moveInA 26 = .ok (.iload 5, 2) := by decide +kernel
theorem dX4_moveInA_28 : decode cX4_moveInA 28 = .ok (.iload_n 3, 1) := by decide +kernel
theorem dX4_moveInA_29 : decode cX4_moveInA 29 = .ok (.if_icmp .ge 50, 3) := by decide +kernel
theorem dX4_moveInA_32 : decode cX4_moveInA 32 = .ok (.aload_n 0, 1) := by decide +kernel
theorem dX4_moveInA_33 : decode cX4_moveInA 33 = .ok (.aload_n 1, 1) := by decide +kernel
theorem dX4_moveInA_34 : decode cX4_moveInA 34 = .ok (.getfield 129, 3) := by decide +kernel
theorem dX4_moveInA_37 : decode cX4_moveInA 37 = .ok (.iload 4, 2) := by decide +kernel
theorem dX4_moveInA_39 : decode cX4_moveInA 39 = .ok (.iaload, 1) := by decide +kernel
theorem dX4_moveInA_40 : decode cX4_moveInA 40 = .ok (.iload_n 3, 1) := by decide +kernel
theorem dX4_moveInA_41 : decode cX4_moveInA 41 = .ok (.imul, 1) := by decide +kernel
theorem dX4_moveInA_42 : decode cX4_moveInA 42 = .ok (.iload 5, 2) := by decide +kernel
theorem dX4_moveInA_44 : decode cX4_moveInA 44 = .ok (.iadd, 1) := by decide +kernel
theorem dX4_moveInA_45 : decode cX4_moveInA 45 = .ok (.aload_n 1, 1) := by decide +kernel
theorem dX4_moveInA_46 : decode cX4_moveInA 46 = .ok (.getfield 132, 3) := by decide +kernel
theorem dX4_moveInA_49 : decode cX4_moveInA 49 = .ok (.iload 4, 2) := by decide +kernel
theorem dX4_moveInA_51 : decode cX4_moveInA 51 = .ok (.iaload, 1) := by decide +kernel
theorem dX4_moveInA_52 : decode cX4_moveInA 52 = .ok (.iload_n 3, 1) := by decide +kernel
theorem dX4_moveInA_53 : decode cX4_moveInA 53 = .ok (.imul, 1) := by decide +kernel
theorem dX4_moveInA_54 : decode cX4_moveInA 54 = .ok (.iload 5, 2) := by decide +kernel
theorem dX4_moveInA_56 : decode cX4_moveInA 56 = .ok (.iadd, 1) := by decide +kernel
theorem dX4_moveInA_57 : decode cX4_moveInA 57 = .ok (.aload_n 1, 1) := by decide +kernel
theorem dX4_moveInA_58 : decode cX4_moveInA 58 = .ok (.getfield 126, 3) := by decide +kernel
theorem dX4_moveInA_61 : decode cX4_moveInA 61 = .ok (.getfield 112, 3) := by decide +kernel
theorem dX4_moveInA_64 : decode cX4_moveInA 64 = .ok (.iload 4, 2) := by decide +kernel
theorem dX4_moveInA_66 : decode cX4_moveInA 66 = .ok (.laload, 1) := by decide +kernel
theorem dX4_moveInA_67 : decode cX4_moveInA 67 = .ok (.iload 4, 2) := by decide +kernel
theorem dX4_moveInA_69 : decode cX4_moveInA 69 = .ok (.iconst (-1), 1) := by decide +kernel
theorem dX4_moveInA_70 : decode cX4_moveInA 70 = .ok (.invokevirtual 135, 3) := by decide +kernel
theorem dX4_moveInA_73 : decode cX4_moveInA 73 = .ok (.iinc 5 1, 3) := by decide +kernel
theorem dX4_moveInA_76 : decode cX4_moveInA 76 = .ok (.goto (-50), 3) := by decide +kernel
theorem dX4_moveInA_79 : decode cX4_moveInA 79 = .ok (.iinc 4 1, 3) := by decide +kernel
theorem dX4_moveInA_82 : decode cX4_moveInA 82 = .ok (.goto (-71), 3) := by decide +kernel
theorem dX4_moveInA_85 : decode cX4_moveInA 85 = .ok (.return_, 1) := by decide +kernel
theorem q37_0 : pm_V d 37 0 [l0, l1, .ref xn, l3, l4, l5] st S Q = pm_V d 37 1 [l0, l1, .ref xn, l3, l4, l5] (.ref xn :: st) S Q := pv_aload_n (pm_cdi rfl dX4_moveInA_0) rfl
theorem q37_0N : pm_V d 37 0 [l0, l1, .null, l3, l4, l5] st S Q = pm_V d 37 1 [l0, l1, .null, l3, l4, l5] (.null :: st) S Q := pv_aload_nN (pm_cdi rfl dX4_moveInA_0) rfl
theorem q37_1 (hs : pm_sh S an = .inr 0) : pm_V d 37 1 [l0, l1, l2, l3, l4, l5] (.ref an :: st) S Q = pm_V d 37 4 [l0, l1, l2, l3, l4, l5] (va_rf (pm_gr S an 0) :: st) S Q := pv_getA (pm_cdi rfl dX4_moveInA_1) (by decide +kernel) (by decide +kernel) (by decide +kernel) hs
theorem q37_4 (hs : pm_sh S an = .inr 3) : pm_V d 37 4 [l0, l1, l2, l3, l4, l5] (.ref an :: st) S Q = pm_V d 37 7 [l0, l1, l2, l3, l4, l5] (.int (pm_gi S an 3) :: st) S Q := pv_getI (pm_cdi rfl dX4_moveInA_4) (by decide +kernel) (by decide +kernel) (by decide +kernel) hs
theorem q37_7 : pm_V d 37 7 [l0, l1, .ref yn, l3, l4, l5] (.int xi :: st) S Q = pm_V d 37 8 [l0, l1, .ref yn, .int xi, l4, l5] st S Q := pv_istore_n (pm_cdi rfl dX4_moveInA_7) rfl
theorem q37_8 : pm_V d 37 8 [l0, l1, l2, l3, l4, l5] st S Q = pm_V d 37 9 [l0, l1, l2, l3, l4, l5] (.int 0 :: st) S Q := pv_iconst (pm_cdi rfl dX4_moveInA_8) (by decide +kernel)
theorem q37_9 : pm_V d 37 9 [l0, l1, l2, .int yi, l4, l5] (.int xi :: st) S Q = pm_V d 37 11 [l0, l1, l2, .int yi, .int xi, l5] st S Q := pv_istore (pm_cdi rfl dX4_moveInA_9) rfl
theorem q37_11 : pm_V d 37 11 [l0, l1, l2, l3, .int xi, l5] st S Q = pm_V d 37 13 [l0, l1, l2, l3, .int xi, l5] (.int xi :: st) S Q := pv_iload (pm_cdi rfl dX4_moveInA_11) rfl
theorem q37_13 : pm_V d 37 13 [l0, .ref xn, l2, l3, l4, l5] st S Q = pm_V d 37 14 [l0, .ref xn, l2, l3, l4, l5] (.ref xn :: st) S Q := pv_aload_n (pm_cdi rfl dX4_moveInA_13) rfl
theorem q37_13N : pm_V d 37 13 [l0, .null, l2, l3, l4, l5] st S Q = pm_V d 37 14 [l0, .null, l2, l3, l4, l5] (.null :: st) S Q := pv_aload_nN (pm_cdi rfl dX4_moveInA_13) rfl
theorem q37_14 (hs : pm_sh S an = .inr 0) : pm_V d 37 14 [l0, l1, l2, l3, l4, l5] (.ref an :: st) S Q = pm_V d 37 17 [l0, l1, l2, l3, l4, l5] (va_rf (pm_gr S an 1) :: st) S Q := pv_getA (pm_cdi rfl dX4_moveInA_14) (by decide +kernel) (by decide +kernel) (by decide +kernel) hs
theorem q37_17 (hs : pm_sh S an = .inr 3) : pm_V d 37 17 [l0, l1, l2, l3, l4, l5] (.ref an :: st) S Q = pm_V d 37 20 [l0, l1, l2, l3, l4, l5] (.int (pm_gi S an 3) :: st) S Q := pv_getI (pm_cdi rfl dX4_moveInA_17) (by decide +kernel) (by decide +kernel) (by decide +kernel) hs
theorem q37_20 : pm_V d 37 20 [l0, l1, l2, l3, l4, l5] (.int yi :: .int xi :: st) S Q = if xi < yi then pm_V d 37 23 [l0, l1, l2, l3, l4, l5] st S Q else pm_V d 37 85 [l0, l1, l2, l3, l4, l5] st S Q := pv_icmp_ge (pm_cdi rfl dX4_moveInA_20) rfl
theorem q37_23 : pm_V d 37 23 [l0, l1, l2, l3, l4, l5] st S Q = pm_V d 37 24 [l0, l1, l2, l3, l4, l5] (.int 0 :: st) S Q := pv_iconst (pm_cdi rfl dX4_moveInA_23) (by decide +kernel)
theorem q37_24 : pm_V d 37 24 [l0, l1, l2, l3, .int yi, l5] (.int xi :: st) S Q = pm_V d 37 26 [l0, l1, l2, l3, .int yi, .int xi] st S Q := pv_istore (pm_cdi rfl dX4_moveInA_24) rfl
theorem q37_26 : pm_V d 37 26 [l0, l1, l2, l3, l4, .int xi] st S Q = pm_V d 37 28 [l0, l1, l2, l3, l4, .int xi] (.int xi :: st) S Q := pv_iload (pm_cdi rfl dX4_moveInA_26) rfl
theorem q37_28 : pm_V d 37 28 [l0, l1, l2, .int xi, l4, l5] st S Q = pm_V d 37 29 [l0, l1, l2, .int xi, l4, l5] (.int xi :: st) S Q := pv_iload_n (pm_cdi rfl dX4_moveInA_28) rfl
theorem q37_29 : pm_V d 37 29 [l0, l1, l2, l3, l4, l5] (.int yi :: .int xi :: st) S Q = if xi < yi then pm_V d 37 32 [l0, l1, l2, l3, l4, l5] st S Q else pm_V d 37 79 [l0, l1, l2, l3, l4, l5] st S Q := pv_icmp_ge (pm_cdi rfl dX4_moveInA_29) rfl
theorem q37_32 : pm_V d 37 32 [.ref xn, l1, l2, l3, l4, l5] st S Q = pm_V d 37 33 [.ref xn, l1, l2, l3, l4, l5] (.ref xn :: st) S Q := pv_aload_n (pm_cdi rfl dX4_moveInA_32) rfl
theorem q37_33 : pm_V d 37 33 [l0, .ref xn, l2, l3, l4, l5] st S Q = pm_V d 37 34 [l0, .ref xn, l2, l3, l4, l5] (.ref xn :: st) S Q := pv_aload_n (pm_cdi rfl dX4_moveInA_33) rfl
theorem q37_33N : pm_V d 37 33 [l0, .null, l2, l3, l4, l5] st S Q = pm_V d 37 34 [l0, .null, l2, l3, l4, l5] (.null :: st) S Q := pv_aload_nN (pm_cdi rfl dX4_moveInA_33) rfl
theorem q37_34 (hs : pm_sh S an = .inr 0) : pm_V d 37 34 [l0, l1, l2, l3, l4, l5] (.ref an :: st) S Q = pm_V d 37 37 [l0, l1, l2, l3, l4, l5] (va_rf (pm_gr S an 2) :: st) S Q := pv_getA (pm_cdi rfl dX4_moveInA_34) (by decide +kernel) (by decide +kernel) (by decide +kernel) hs
theorem q37_37 : pm_V d 37 37 [l0, l1, l2, l3, .int xi, l5] st S Q = pm_V d 37 39 [l0, l1, l2, l3, .int xi, l5] (.int xi :: st) S Q := pv_iload (pm_cdi rfl dX4_moveInA_37) rfl
theorem q37_39 (hs : pm_ar S an 0 xi = true) : pm_V d 37 39 [l0, l1, l2, l3, l4, l5] (.int xi :: .ref an :: st) S Q = pm_V d 37 40 [l0, l1, l2, l3, l4, l5] (.int (pm_zi S an xi.toNatClampNeg) :: st) S Q := pv_iald (pm_cdi rfl dX4_moveInA_39) hs
theorem q37_40 : pm_V d 37 40 [l0, l1, l2, .int xi, l4, l5] st S Q = pm_V d 37 41 [l0, l1, l2, .int xi, l4, l5] (.int xi :: st) S Q := pv_iload_n (pm_cdi rfl dX4_moveInA_40) rfl
theorem q37_41 : pm_V d 37 41 [l0, l1, l2, l3, l4, l5] (.int yi :: .int xi :: st) S Q = pm_V d 37 42 [l0, l1, l2, l3, l4, l5] (.int (xi * yi) :: st) S Q := pv_imul (pm_cdi rfl dX4_moveInA_41)
theorem q37_42 : pm_V d 37 42 [l0, l1, l2, l3, l4, .int xi] st S Q = pm_V d 37 44 [l0, l1, l2, l3, l4, .int xi] (.int xi :: st) S Q := pv_iload (pm_cdi rfl dX4_moveInA_42) rfl
theorem q37_44 : pm_V d 37 44 [l0, l1, l2, l3, l4, l5] (.int yi :: .int xi :: st) S Q = pm_V d 37 45 [l0, l1, l2, l3, l4, l5] (.int (xi + yi) :: st) S Q := pv_iadd (pm_cdi rfl dX4_moveInA_44)
theorem q37_45 : pm_V d 37 45 [l0, .ref xn, l2, l3, l4, l5] st S Q = pm_V d 37 46 [l0, .ref xn, l2, l3, l4, l5] (.ref xn :: st) S Q := pv_aload_n (pm_cdi rfl dX4_moveInA_45) rfl
theorem q37_45N : pm_V d 37 45 [l0, .null, l2, l3, l4, l5] st S Q = pm_V d 37 46 [l0, .null, l2, l3, l4, l5] (.null :: st) S Q := pv_aload_nN (pm_cdi rfl dX4_moveInA_45) rfl
theorem q37_46 (hs : pm_sh S an = .inr 0) : pm_V d 37 46 [l0, l1, l2, l3, l4, l5] (.ref an :: st) S Q = pm_V d 37 49 [l0, l1, l2, l3, l4, l5] (va_rf (pm_gr S an 3) :: st) S Q := pv_getA (pm_cdi rfl dX4_moveInA_46) (by decide +kernel) (by decide +kernel) (by decide +kernel) hs
theorem q37_49 : pm_V d 37 49 [l0, l1, l2, l3, .int xi, l5] st S Q = pm_V d 37 51 [l0, l1, l2, l3, .int xi, l5] (.int xi :: st) S Q := pv_iload (pm_cdi rfl dX4_moveInA_49) rfl
theorem q37_51 (hs : pm_ar S an 0 xi = true) : pm_V d 37 51 [l0, l1, l2, l3, l4, l5] (.int xi :: .ref an :: st) S Q = pm_V d 37 52 [l0, l1, l2, l3, l4, l5] (.int (pm_zi S an xi.toNatClampNeg) :: st) S Q := pv_iald (pm_cdi rfl dX4_moveInA_51) hs
theorem q37_52 : pm_V d 37 52 [l0, l1, l2, .int xi, l4, l5] st S Q = pm_V d 37 53 [l0, l1, l2, .int xi, l4, l5] (.int xi :: st) S Q := pv_iload_n (pm_cdi rfl dX4_moveInA_52) rfl
theorem q37_53 : pm_V d 37 53 [l0, l1, l2, l3, l4, l5] (.int yi :: .int xi :: st) S Q = pm_V d 37 54 [l0, l1, l2, l3, l4, l5] (.int (xi * yi) :: st) S Q := pv_imul (pm_cdi rfl dX4_moveInA_53)
theorem q37_54 : pm_V d 37 54 [l0, l1, l2, l3, l4, .int xi] st S Q = pm_V d 37 56 [l0, l1, l2, l3, l4, .int xi] (.int xi :: st) S Q := pv_iload (pm_cdi rfl dX4_moveInA_54) rfl
theorem q37_56 : pm_V d 37 56 [l0, l1, l2, l3, l4, l5] (.int yi :: .int xi :: st) S Q = pm_V d 37 57 [l0, l1, l2, l3, l4, l5] (.int (xi + yi) :: st) S Q := pv_iadd (pm_cdi rfl dX4_moveInA_56)
theorem q37_57 : pm_V d 37 57 [l0, .ref xn, l2, l3, l4, l5] st S Q = pm_V d 37 58 [l0, .ref xn, l2, l3, l4, l5] (.ref xn :: st) S Q := pv_aload_n (pm_cdi rfl dX4_moveInA_57) rfl
theorem q37_57N : pm_V d 37 57 [l0, .null, l2, l3, l4, l5] st S Q = pm_V d 37 58 [l0, .null, l2, l3, l4, l5] (.null :: st) S Q := pv_aload_nN (pm_cdi rfl dX4_moveInA_57) rfl
theorem q37_58 (hs : pm_sh S an = .inr 0) : pm_V d 37 58 [l0, l1, l2, l3, l4, l5] (.ref an :: st) S Q = pm_V d 37 61 [l0, l1, l2, l3, l4, l5] (va_rf (pm_gr S an 1) :: st) S Q := pv_getA (pm_cdi rfl dX4_moveInA_58) (by decide +kernel) (by decide +kernel) (by decide +kernel) hs
theorem q37_61 (hs : pm_sh S an = .inr 3) : pm_V d 37 61 [l0, l1, l2, l3, l4, l5] (.ref an :: st) S Q = pm_V d 37 64 [l0, l1, l2, l3, l4, l5] (va_rf (pm_gr S an 0) :: st) S Q := pv_getA (pm_cdi rfl dX4_moveInA_61) (by decide +kernel) (by decide +kernel) (by decide +kernel) hs
theorem q37_64 : pm_V d 37 64 [l0, l1, l2, l3, .int xi, l5] st S Q = pm_V d 37 66 [l0, l1, l2, l3, .int xi, l5] (.int xi :: st) S Q := pv_iload (pm_cdi rfl dX4_moveInA_64) rfl
theorem q37_66 (hs : pm_ar S an 1 xi = true) : pm_V d 37 66 [l0, l1, l2, l3, l4, l5] (.int xi :: .ref an :: st) S Q = pm_V d 37 67 [l0, l1, l2, l3, l4, l5] (.long (pm_zl S an xi.toNatClampNeg) :: st) S Q := pv_lald (pm_cdi rfl dX4_moveInA_66) hs
theorem q37_67 : pm_V d 37 67 [l0, l1, l2, l3, .int xi, l5] st S Q = pm_V d 37 69 [l0, l1, l2, l3, .int xi, l5] (.int xi :: st) S Q := pv_iload (pm_cdi rfl dX4_moveInA_67) rfl
theorem q37_69 : pm_V d 37 69 [l0, l1, l2, l3, l4, l5] st S Q = pm_V d 37 70 [l0, l1, l2, l3, l4, l5] (.int (-1) :: st) S Q := pv_iconst (pm_cdi rfl dX4_moveInA_69) (by decide +kernel)
theorem q37_70 (hs : pm_sh S an = .inr 0) : pm_V (d + 1) 37 70 [l0, l1, l2, l3, l4, l5] [.int v4i, .int v3i, .long v2j, .int v1i, .int v0i, .ref an] S Q = pm_N d 7 [.ref an, .int v0i, .int v1i, .long v2j, .int v3i, .int v4i] S (fun r S' => pm_V (d + 1) 37 73 [l0, l1, l2, l3, l4, l5] (r.toList ++ []) S' Q) := pv_callV (as := [.int v0i, .int v1i, .long v2j, .int v3i, .int v4i]) (pm_cdi rfl dX4_moveInA_70) (Or.inl (by decide +kernel)) (by decide +kernel) (show _ = _ from (by decide +kernel : 5 = pm_np 7)) rfl (Nat.le_of_ble_eq_true rfl) (cl := 0) (by decide +kernel) hs
theorem q37_73 : pm_V d 37 73 [l0, l1, l2, l3, .int yi, .int xi] st S Q = pm_V d 37 76 [l0, l1, l2, l3, .int yi, .int (xi + 1)] st S Q := pv_iinc (pm_cdi rfl dX4_moveInA_73) rfl (by decide +kernel) rfl
theorem q37_76 : pm_V d 37 76 [l0, l1, l2, l3, l4, l5] st S Q = pm_V d 37 26 [l0, l1, l2, l3, l4, l5] st S Q := pv_goto (pm_cdi rfl dX4_moveInA_76) rfl
theorem q37_79 : pm_V d 37 79 [l0, l1, l2, .int yi, .int xi, l5] st S Q = pm_V d 37 82 [l0, l1, l2, .int yi, .int (xi + 1), l5] st S Q := pv_iinc (pm_cdi rfl dX4_moveInA_79) rfl (by decide +kernel) rfl
theorem q37_82 : pm_V d 37 82 [l0, l1, l2, l3, l4, l5] st S Q = pm_V d 37 11 [l0, l1, l2, l3, l4, l5] st S Q := pv_goto (pm_cdi rfl dX4_moveInA_82) rfl
theorem q37_85 : pm_V d 37 85 [l0, l1, l2, l3, l4, l5] [] S Q = Q none S := pv_rV (pm_cdi rfl dX4_moveInA_85) (by decide +kernel)
theorem q37_e : pm_N d 37 [.ref v0n, .ref v1n, .ref v2n] S Q = pm_V d 37 0 [.ref v0n, .ref v1n, .ref v2n, pm_j, pm_j, pm_j] [] S Q := pv_ent (Nat.le_of_ble_eq_true rfl) rfl
end
