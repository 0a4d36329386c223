section
variable {d : Nat} {S : pm_T} {Q : Option Value → pm_T → Prop} {an r0n r1n r2n r3n r4n r5n v0n v1n v2n vn xn yn : Nat} {ki r0i r1i r2i r3i r4i v0i v1i v2i v3i v4i v5i vi xi yi : Int32} {l0 l1 l10 l2 l3 l4 l5 l6 l7 l8 l9 v0v v1v v2v : Value} {r0j r1j v0j v1j v2j v3j vj xj yj : Int64} {st : List Value}
/-! 51: ViewsJoins$Tests.sayOfParts(LViewsJoins$Graph;IIII)I -/
theorem dX5_sayOfParts_0 : decode cX5_sayOfParts 0 = .ok (.aload_n 0, 1) := by decide +kernel
theorem dX5_sayOfParts_1 : decode cX5_sayOfParts 1 = .ok (.getfield 9, 3) := by decide +kernel
theorem dX5_sayOfParts_4 : decode cX5_sayOfParts 4 = .ok (.iload 4, 2) := by decide +kernel
theorem dX5_sayOfParts_6 : decode cX5_sayOfParts 6 = .ok (.iaload, 1) := by decide +kernel
theorem dX5_sayOfParts_7 : decode cX5_sayOfParts 7 = .ok (.bipush 8, 2) := by decide +kernel
theorem dX5_sayOfParts_9 : decode cX5_sayOfParts 9 = .ok (.if_icmp .ne 49, 3) := by decide +kernel
theorem dX5_sayOfParts_12 : decode cX5_sayOfParts 12 = .ok (.iload_n 2, 1) := by decide +kernel
theorem dX5_sayOfParts_13 : decode cX5_sayOfParts 13 = .ok (.ifCond .ne 21, 3) := by decide +kernel
theorem dX5_sayOfParts_16 : decode cX5_sayOfParts 16 = .ok (.aload_n 0, 1) := by decide +kernel
theorem dX5_sayOfParts_17 : decode cX5_sayOfParts 17 = .ok (.aload_n 1, 1) := by decide +kernel
theorem dX5_sayOfParts_18 : decode cX5_sayOfParts 18 = .ok (.iload_n 3, 1) := by decide +kernel
theorem dX5_sayOfParts_19 : decode cX5_sayOfParts 19 = .ok (.aload_n 0, 1) := by decide +kernel
theorem dX5_sayOfParts_20 : decode cX5_sayOfParts 20 = .ok (.getfield 19, 3) := by decide +kernel
theorem dX5_sayOfParts_23 : decode cX5_sayOfParts 23 = .ok (.iload 4, 2) := by decide +kernel
theorem dX5_sayOfParts_25 : decode cX5_sayOfParts 25 = .ok (.iaload, 1) := by decide +kernel
theorem dX5_sayOfParts_26 : decode cX5_sayOfParts 26 = .ok (.iload 5, 2) := by decide +kernel
theorem dX5_sayOfParts_28 : decode cX5_sayOfParts 28 = .ok (.invokevirtual 73, 3) := by decide +kernel
theorem dX5_sayOfParts_31 : decode cX5_sayOfParts 31 = .ok (.goto 26, 3) := by decide +kernel
theorem dX5_sayOfParts_34 : decode cX5_sayOfParts 34 = .ok (.aload_n 0, 1) := by decide +kernel
theorem dX5_sayOfParts_35 : decode cX5_sayOfParts 35 = .ok (.aload_n 1, 1) := by decide +kernel
theorem dX5_sayOfParts_36 : decode cX5_sayOfParts 36 = .ok (.iconst 0, 1) := by decide +kernel
theorem dX5_sayOfParts_37 : decode cX5_sayOfParts 37 = .ok (.aload_n 1, 1) := by decide +kernel
theorem dX5_sayOfParts_38 : decode cX5_sayOfParts 38 = .ok (.getfield 76, 3) := by decide +kernel
theorem dX5_sayOfParts_41 : decode cX5_sayOfParts 41 = .ok (.iload_n 3, 1) := by decide +kernel
theorem dX5_sayOfParts_42 : decode cX5_sayOfParts 42 = .ok (.iaload, 1) := by decide +kernel
theorem dX5_sayOfParts_43 : decode cX5_sayOfParts 43 = .ok (.aload_n 0, 1) := by decide +kernel
theorem dX5_sayOfParts_44 : decode cX5_sayOfParts 44 = .ok (.getfield 19, 3) := by decide +kernel
theorem dX5_sayOfParts_47 : decode cX5_sayOfParts 47 = .ok (.iload 4, 2) := by decide +kernel
theorem dX5_sayOfParts_49 : decode cX5_sayOfParts 49 = .ok (.iaload, 1) := by decide +kernel
theorem dX5_sayOfParts_50 : decode cX5_sayOfParts 50 = .ok (.iload 5, 2) := by decide +kernel
theorem dX5_sayOfParts_52 : decode cX5_sayOfParts 52 = .ok (.iconst 1, 1) := by decide +kernel
theorem dX5_sayOfParts_53 : decode cX5_sayOfParts 53 = .ok (.iadd, 1) := by decide +kernel
theorem dX5_sayOfParts_54 : decode cX5_sayOfParts 54 = .ok (.invokevirtual 79, 3) := by decide +kernel
theorem dX5_sayOfParts_57 : decode cX5_sayOfParts 57 = .ok (.ireturn, 1) := by decide +kernel
theorem dX5_sayOfParts_58 : decode cX5_sayOfParts 58 = .ok (.aload_n 0, 1) := by decide +kernel
theorem dX5_sayOfParts_59 : decode cX5_sayOfParts 59 = .ok (.aload_n 1, 1) := by decide +kernel
theorem dX5_sayOfParts_60 : decode cX5_sayOfParts 60 = .ok (.iload_n 2, 1) := by decide +kernel
theorem dX5_sayOfParts_61 : decode cX5_sayOfParts 61 = .ok (.iload_n 3, 1) := by decide +kernel
theorem dX5_sayOfParts_62 : decode cX5_sayOfParts 62 = .ok (.aload_n 0, 1) := by decide +kernel
theorem dX5_sayOfParts_63 : decode cX5_sayOfParts 63 = .ok (.getfield 19, 3) := by decide +kernel
theorem dX5_sayOfParts_66 : decode cX5_sayOfParts 66 = .ok (.iload 4, 2) := by decide +kernel
theorem dX5_sayOfParts_68 : decode cX5_sayOfParts 68 = .ok (.iaload, 1) := by decide +kernel
theorem dX5_sayOfParts_69 : decode cX5_sayOfParts 69 = .ok (.iload 5, 2) := by decide +kernel
theorem dX5_sayOfParts_71 : decode cX5_sayOfParts 71 = .ok (.iconst 1, 1) := by decide +kernel
theorem dX5_sayOfParts_72 : decode cX5_sayOfParts 72 = .ok (.iadd, 1) := by decide +kernel
theorem dX5_sayOfParts_73 : decode cX5_sayOfParts 73 = .ok (.invokevirtual 79, 3) := by decide +kernel
theorem dX5_sayOfParts_76 : decode cX5_sayOfParts 76 = .ok (.istore 6, 2) := by decide +kernel
theorem dX5_sayOfParts_78 : decode cX5_sayOfParts 78 = .ok (.aload_n 0, 1) := by decide +kernel
theorem dX5_sayOfParts_79 : decode cX5_sayOfParts 79 = .ok (.getfield 9, 3) := by decide +kernel
theorem dX5_sayOfParts_82 : decode cX5_sayOfParts 82 = .ok (.iload 4, 2) := by decide +kernel
theorem dX5_sayOfParts_84 : decode cX5_sayOfParts 84 = .ok (.iaload, 1) := by decide +kernel
theorem dX5_sayOfParts_85 : decode cX5_sayOfParts 85 = .ok (.tableswitch 101 4 6 #[27, 42, 72], 27) := by decide +kernel
theorem dX5_sayOfParts_112 : decode cX5_sayOfParts 112 = .ok (.iload 6, 2) := by decide +kernel
theorem dX5_sayOfParts_114 : decode cX5_sayOfParts 114 = .ok (.ifCond .ge 8, 3) := by decide +kernel
theorem dX5_sayOfParts_117 : decode cX5_sayOfParts 117 = .ok (.iload 6, 2) := by decide +kernel
theorem dX5_sayOfParts_119 : decode cX5_sayOfParts 119 = .ok (.goto 7, 3) := by decide +kernel
theorem dX5_sayOfParts_122 : decode cX5_sayOfParts 122 = .ok (.iconst 1, 1) := by decide +kernel
theorem dX5_sayOfParts_123 : decode cX5_sayOfParts 123 = .ok (.iload 6, 2) := by decide +kernel
theorem dX5_sayOfParts_125 : decode cX5_sayOfParts 125 = .ok (.isub, 1) := by decide +kernel
theorem dX5_sayOfParts_126 : decode cX5_sayOfParts 126 = .ok (.ireturn, 1) := by decide +kernel
theorem dX5_sayOfParts_127 : decode cX5_sayOfParts 127 = .ok (.iload 6, 2) := by decide +kernel
theorem dX5_sayOfParts_129 : decode cX5_sayOfParts 129 = .ok (.iconst 1, 1) := by decide +kernel
theorem dX5_sayOfParts_130 : decode cX5_sayOfParts 130 = .ok (.if_icmp .ne 24, 3) := by decide +kernel
theorem dX5_sayOfParts_133 : decode cX5_sayOfParts 133 = .ok (.aload_n 0, 1) := by decide +kernel
theorem dX5_sayOfParts_134 : decode cX5_sayOfParts 134 = .ok (.aload_n 1, 1) := by decide +kernel
theorem dX5_sayOfParts_135 : decode cX5_sayOfParts 135 = .ok (.iload_n 2, 1) := by decide +kernel
theorem dX5_sayOfParts_136 : decode cX5_sayOfParts 136 = .ok (.iload_n 3, 1) := by decide +kernel
theorem dX5_sayOfParts_137 : decode cX5_sayOfParts 137 = .ok (.aload_n 0, 1) := by decide +kernel
theorem dX5_sayOfParts_138 : decode cX5_sayOfParts 138 = .ok (.getfield 22, 3) := by decide +kernel
theorem dX5_sayOfParts_141 : decode cX5_sayOfParts 141 = .ok (.iload 4, 2) := by decide +kernel
theorem dX5_sayOfParts_143 : decode cX5_sayOfParts 143 = .ok (.iaload, 1) := by decide +kernel
theorem dX5_sayOfParts_144 : decode cX5_sayOfParts 144 = .ok (.iload 5, 2) := by decide +kernel
theorem dX5_sayOfParts_146 : decode cX5_sayOfParts 146 = .ok (.iconst 1, 1) := by decide +kernel
theorem dX5_sayOfParts_147 : decode cX5_sayOfParts 147 = .ok (.iadd, 1) := by decide +kernel
theorem dX5_sayOfParts_148 : decode cX5_sayOfParts 148 = .ok (.invokevirtual 79, 3) := by decide +kernel
theorem dX5_sayOfParts_151 : decode cX5_sayOfParts 151 = .ok (.goto 5, 3) := by decide +kernel
theorem dX5_sayOfParts_154 : decode cX5_sayOfParts 154 = .ok (.iload 6, 2) := by decide +kernel
theorem dX5_sayOfParts_156 : decode cX5_sayOfParts 156 = .ok (.ireturn, 1) := by decide +kernel
theorem dX5_sayOfParts_157 : decode cX5_sayOfParts 157 = .ok (.iload 6, 2) := by decide +kernel
theorem dX5_sayOfParts_159 : decode cX5_sayOfParts 159 = .ok (.ifCond .ne 24, 3) := by decide +kernel
theorem dX5_sayOfParts_162 : decode cX5_sayOfParts 162 = .ok (.aload_n 0, 1) := by decide +kernel
theorem dX5_sayOfParts_163 : decode cX5_sayOfParts 163 = .ok (.aload_n 1, 1) := by decide +kernel
theorem dX5_sayOfParts_164 : decode cX5_sayOfParts 164 = .ok (.iload_n 2, 1) := by decide +kernel
theorem dX5_sayOfParts_165 : decode cX5_sayOfParts 165 = .ok (.iload_n 3, 1) := by decide +kernel
theorem dX5_sayOfParts_166 : decode cX5_sayOfParts 166 = .ok (.aload_n 0, 1) := by decide +kernel
theorem dX5_sayOfParts_167 : decode cX5_sayOfParts 167 = .ok (.getfield 22, 3) := by decide +kernel
theorem dX5_sayOfParts_170 : decode cX5_sayOfParts 170 = .ok (.iload 4, 2) := by decide +kernel
theorem dX5_sayOfParts_172 : decode cX5_sayOfParts 172 = .ok (.iaload, 1) := by decide +kernel
theorem dX5_sayOfParts_173 : decode cX5_sayOfParts 173 = .ok (.iload 5, 2) := by decide +kernel
theorem dX5_sayOfParts_175 : decode cX5_sayOfParts 175 = .ok (.iconst 1, 1) := by decide +kernel
theorem dX5_sayOfParts_176 : decode cX5_sayOfParts 176 = .ok (.iadd, 1) := by decide +kernel
theorem dX5_sayOfParts_177 : decode cX5_sayOfParts 177 = .ok (.invokevirtual 79, 3) := by decide +kernel
theorem dX5_sayOfParts_180 : decode cX5_sayOfParts 180 = .ok (.goto 5, 3) := by decide +kernel
theorem dX5_sayOfParts_183 : decode cX5_sayOfParts 183 = .ok (.iload 6, 2) := by decide +kernel
theorem dX5_sayOfParts_185 : decode cX5_sayOfParts 185 = .ok (.ireturn, 1) := by decide +kernel
theorem dX5_sayOfParts_186 : decode cX5_sayOfParts 186 = .ok (.iload 6, 2) := by decide +kernel
theorem dX5_sayOfParts_188 : decode cX5_sayOfParts 188 = .ok (.iconst (-1), 1) := by decide +kernel
theorem dX5_sayOfParts_189 : decode cX5_sayOfParts 189 = .ok (.if_icmp .eq 10, 3) := by decide +kernel
theorem dX5_sayOfParts_192 : decode cX5_sayOfParts 192 = .ok (.iload 6, 2) := by decide +kernel
theorem dX5_sayOfParts_194 : decode cX5_sayOfParts 194 = .ok (.bipush (-2), 2) := by decide +kernel
theorem dX5_sayOfParts_196 : decode cX5_sayOfParts 196 = .ok (.if_icmp .ne 7, 3) := by decide +kernel
theorem dX5_sayOfParts_199 : decode cX5_sayOfParts 199 = .ok (.iconst 0, 1) := by decide +kernel
theorem dX5_sayOfParts_200 : decode cX5_sayOfParts 200 = .ok (.goto 5, 3) := by decide +kernel
theorem dX5_sayOfParts_203 : decode cX5_sayOfParts 203 = .ok (.iload 6, 2) := by decide +kernel
theorem dX5_sayOfParts_205 : decode cX5_sayOfParts 205 = .ok (.ireturn, 1) := by decide +kernel
theorem q51_0 : pm_V d 51 0 [.ref xn, l1, l2, l3, l4, l5, l6] st S Q = pm_V d 51 1 [.ref xn, l1, l2, l3, l4, l5, l6] (.ref xn :: st) S Q := pv_aload_n (pm_cdi rfl dX5_sayOfParts_0) rfl
theorem q51_1 (hs : pm_sh S an = .inr 5) : pm_V d 51 1 [l0, l1, l2, l3, l4, l5, l6] (.ref an :: st) S Q = pm_V d 51 4 [l0, l1, l2, l3, l4, l5, l6] (va_rf (pm_gr S an 0) :: st) S Q := pv_getA (pm_cdi rfl dX5_sayOfParts_1) (by decide +kernel) (by decide +kernel) (by decide +kernel) hs
theorem q51_4 : pm_V d 51 4 [l0, l1, l2, l3, .int xi, l5, l6] st S Q = pm_V d 51 6 [l0, l1, l2, l3, .int xi, l5, l6] (.int xi :: st) S Q := pv_iload (pm_cdi rfl dX5_sayOfParts_4) rfl
theorem q51_6 (hs : pm_ar S an 0 xi = true) : pm_V d 51 6 [l0, l1, l2, l3, l4, l5, l6] (.int xi :: .ref an :: st) S Q = pm_V d 51 7 [l0, l1, l2, l3, l4, l5, l6] (.int (pm_zi S an xi.toNatClampNeg) :: st) S Q := pv_iald (pm_cdi rfl dX5_sayOfParts_6) hs
theorem q51_7 : pm_V d 51 7 [l0, l1, l2, l3, l4, l5, l6] st S Q = pm_V d 51 9 [l0, l1, l2, l3, l4, l5, l6] (.int 8 :: st) S Q := pv_bipush (pm_cdi rfl dX5_sayOfParts_7) (by decide +kernel)
theorem q51_9 : pm_V d 51 9 [l0, l1, l2, l3, l4, l5, l6] (.int yi :: .int xi :: st) S Q = if xi = yi then pm_V d 51 12 [l0, l1, l2, l3, l4, l5, l6] st S Q else pm_V d 51 58 [l0, l1, l2, l3, l4, l5, l6] st S Q := pv_icmp_ne (pm_cdi rfl dX5_sayOfParts_9) rfl
theorem q51_12 : pm_V d 51 12 [l0, l1, .int xi, l3, l4, l5, l6] st S Q = pm_V d 51 13 [l0, l1, .int xi, l3, l4, l5, l6] (.int xi :: st) S Q := pv_iload_n (pm_cdi rfl dX5_sayOfParts_12) rfl
theorem q51_13 : pm_V d 51 13 [l0, l1, l2, l3, l4, l5, l6] (.int xi :: st) S Q = if xi = 0 then pm_V d 51 16 [l0, l1, l2, l3, l4, l5, l6] st S Q else pm_V d 51 34 [l0, l1, l2, l3, l4, l5, l6] st S Q := pv_if_ne (pm_cdi rfl dX5_sayOfParts_13) rfl
theorem q51_16 : pm_V d 51 16 [.ref xn, l1, l2, l3, l4, l5, l6] st S Q = pm_V d 51 17 [.ref xn, l1, l2, l3, l4, l5, l6] (.ref xn :: st) S Q := pv_aload_n (pm_cdi rfl dX5_sayOfParts_16) rfl
theorem q51_17 : pm_V d 51 17 [l0, .ref xn, l2, l3, l4, l5, l6] st S Q = pm_V d 51 18 [l0, .ref xn, l2, l3, l4, l5, l6] (.ref xn :: st) S Q := pv_aload_n (pm_cdi rfl dX5_sayOfParts_17) rfl
theorem q51_17N : pm_V d 51 17 [l0, .null, l2, l3, l4, l5, l6] st S Q = pm_V d 51 18 [l0, .null, l2, l3, l4, l5, l6] (.null :: st) S Q := pv_aload_nN (pm_cdi rfl dX5_sayOfParts_17) rfl
theorem q51_18 : pm_V d 51 18 [l0, l1, l2, .int xi, l4, l5, l6] st S Q = pm_V d 51 19 [l0, l1, l2, .int xi, l4, l5, l6] (.int xi :: st) S Q := pv_iload_n (pm_cdi rfl dX5_sayOfParts_18) rfl
theorem q51_19 : pm_V d 51 19 [.ref xn, l1, l2, l3, l4, l5, l6] st S Q = pm_V d 51 20 [.ref xn, l1, l2, l3, l4, l5, l6] (.ref xn :: st) S Q := pv_aload_n (pm_cdi rfl dX5_sayOfParts_19) rfl
theorem q51_20 (hs : pm_sh S an = .inr 5) : pm_V d 51 20 [l0, l1, l2, l3, l4, l5, l6] (.ref an :: st) S Q = pm_V d 51 23 [l0, l1, l2, l3, l4, l5, l6] (va_rf (pm_gr S an 2) :: st) S Q := pv_getA (pm_cdi rfl dX5_sayOfParts_20) (by decide +kernel) (by decide +kernel) (by decide +kernel) hs
theorem q51_23 : pm_V d 51 23 [l0, l1, l2, l3, .int xi, l5, l6] st S Q = pm_V d 51 25 [l0, l1, l2, l3, .int xi, l5, l6] (.int xi :: st) S Q := pv_iload (pm_cdi rfl dX5_sayOfParts_23) rfl
theorem q51_25 (hs : pm_ar S an 0 xi = true) : pm_V d 51 25 [l0, l1, l2, l3, l4, l5, l6] (.int xi :: .ref an :: st) S Q = pm_V d 51 26 [l0, l1, l2, l3, l4, l5, l6] (.int (pm_zi S an xi.toNatClampNeg) :: st) S Q := pv_iald (pm_cdi rfl dX5_sayOfParts_25) hs
theorem q51_26 : pm_V d 51 26 [l0, l1, l2, l3, l4, .int xi, l6] st S Q = pm_V d 51 28 [l0, l1, l2, l3, l4, .int xi, l6] (.int xi :: st) S Q := pv_iload (pm_cdi rfl dX5_sayOfParts_26) rfl
theorem q51_28 (hs : pm_sh S an = .inr 5) : pm_V (d + 1) 51 28 [l0, l1, l2, l3, l4, l5, l6] [.int v3i, .int v2i, .int v1i, v0v, .ref an] S Q = pm_N d 52 [.ref an, v0v, .int v1i, .int v2i, .int v3i] S (fun r S' => pm_V (d + 1) 51 31 [l0, l1, l2, l3, l4, l5, l6] (r.toList ++ []) S' Q) := pv_callV (as := [v0v, .int v1i, .int v2i, .int v3i]) (pm_cdi rfl dX5_sayOfParts_28) (Or.inl (by decide +kernel)) (by decide +kernel) (show _ = _ from (by decide +kernel : 4 = pm_np 52)) rfl (Nat.le_of_ble_eq_true rfl) (cl := 5) (by decide +kernel) hs
theorem q51_31 : pm_V d 51 31 [l0, l1, l2, l3, l4, l5, l6] st S Q = pm_V d 51 57 [l0, l1, l2, l3, l4, l5, l6] st S Q := pv_goto (pm_cdi rfl dX5_sayOfParts_31) rfl
theorem q51_34 : pm_V d 51 34 [.ref xn, l1, l2, l3, l4, l5, l6] st S Q = pm_V d 51 35 [.ref xn, l1, l2, l3, l4, l5, l6] (.ref xn :: st) S Q := pv_aload_n (pm_cdi rfl dX5_sayOfParts_34) rfl
theorem q51_35 : pm_V d 51 35 [l0, .ref xn, l2, l3, l4, l5, l6] st S Q = pm_V d 51 36 [l0, .ref xn, l2, l3, l4, l5, l6] (.ref xn :: st) S Q := pv_aload_n (pm_cdi rfl dX5_sayOfParts_35) rfl
theorem q51_35N : pm_V d 51 35 [l0, .null, l2, l3, l4, l5, l6] st S Q = pm_V d 51 36 [l0, .null, l2, l3, l4, l5, l6] (.null :: st) S Q := pv_aload_nN (pm_cdi rfl dX5_sayOfParts_35) rfl
theorem q51_36 : pm_V d 51 36 [l0, l1, l2, l3, l4, l5, l6] st S Q = pm_V d 51 37 [l0, l1, l2, l3, l4, l5, l6] (.int 0 :: st) S Q := pv_iconst (pm_cdi rfl dX5_sayOfParts_36) (by decide +kernel)
theorem q51_37 : pm_V d 51 37 [l0, .ref xn, l2, l3, l4, l5, l6] st S Q = pm_V d 51 38 [l0, .ref xn, l2, l3, l4, l5, l6] (.ref xn :: st) S Q := pv_aload_n (pm_cdi rfl dX5_sayOfParts_37) rfl
theorem q51_37N : pm_V d 51 37 [l0, .null, l2, l3, l4, l5, l6] st S Q = pm_V d 51 38 [l0, .null, l2, l3, l4, l5, l6] (.null :: st) S Q := pv_aload_nN (pm_cdi rfl dX5_sayOfParts_37) rfl
theorem q51_38 (hs : pm_sh S an = .inr 0) : pm_V d 51 38 [l0, l1, l2, l3, l4, l5, l6] (.ref an :: st) S Q = pm_V d 51 41 [l0, l1, l2, l3, l4, l5, l6] (va_rf (pm_gr S an 3) :: st) S Q := pv_getA (pm_cdi rfl dX5_sayOfParts_38) (by decide +kernel) (by decide +kernel) (by decide +kernel) hs
theorem q51_41 : pm_V d 51 41 [l0, l1, l2, .int xi, l4, l5, l6] st S Q = pm_V d 51 42 [l0, l1, l2, .int xi, l4, l5, l6] (.int xi :: st) S Q := pv_iload_n (pm_cdi rfl dX5_sayOfParts_41) rfl
theorem q51_42 (hs : pm_ar S an 0 xi = true) : pm_V d 51 42 [l0, l1, l2, l3, l4, l5, l6] (.int xi :: .ref an :: st) S Q = pm_V d 51 43 [l0, l1, l2, l3, l4, l5, l6] (.int (pm_zi S an xi.toNatClampNeg) :: st) S Q := pv_iald (pm_cdi rfl dX5_sayOfParts_42) hs
theorem q51_43 : pm_V d 51 43 [.ref xn, l1, l2, l3, l4, l5, l6] st S Q = pm_V d 51 44 [.ref xn, l1, l2, l3, l4, l5, l6] (.ref xn :: st) S Q := pv_aload_n (pm_cdi rfl dX5_sayOfParts_43) rfl
theorem q51_44 (hs : pm_sh S an = .inr 5) : pm_V d 51 44 [l0, l1, l2, l3, l4, l5, l6] (.ref an :: st) S Q = pm_V d 51 47 [l0, l1, l2, l3, l4, l5, l6] (va_rf (pm_gr S an 2) :: st) S Q := pv_getA (pm_cdi rfl dX5_sayOfParts_44) (by decide +kernel) (by decide +kernel) (by decide +kernel) hs
theorem q51_47 : pm_V d 51 47 [l0, l1, l2, l3, .int xi, l5, l6] st S Q = pm_V d 51 49 [l0, l1, l2, l3, .int xi, l5, l6] (.int xi :: st) S Q := pv_iload (pm_cdi rfl dX5_sayOfParts_47) rfl
theorem q51_49 (hs : pm_ar S an 0 xi = true) : pm_V d 51 49 [l0, l1, l2, l3, l4, l5, l6] (.int xi :: .ref an :: st) S Q = pm_V d 51 50 [l0, l1, l2, l3, l4, l5, l6] (.int (pm_zi S an xi.toNatClampNeg) :: st) S Q := pv_iald (pm_cdi rfl dX5_sayOfParts_49) hs
theorem q51_50 : pm_V d 51 50 [l0, l1, l2, l3, l4, .int xi, l6] st S Q = pm_V d 51 52 [l0, l1, l2, l3, l4, .int xi, l6] (.int xi :: st) S Q := pv_iload (pm_cdi rfl dX5_sayOfParts_50) rfl
theorem q51_52 : pm_V d 51 52 [l0, l1, l2, l3, l4, l5, l6] st S Q = pm_V d 51 53 [l0, l1, l2, l3, l4, l5, l6] (.int 1 :: st) S Q := pv_iconst (pm_cdi rfl dX5_sayOfParts_52) (by decide +kernel)
theorem q51_53 : pm_V d 51 53 [l0, l1, l2, l3, l4, l5, l6] (.int yi :: .int xi :: st) S Q = pm_V d 51 54 [l0, l1, l2, l3, l4, l5, l6] (.int (xi + yi) :: st) S Q := pv_iadd (pm_cdi rfl dX5_sayOfParts_53)
theorem q51_54 (hs : pm_sh S an = .inr 5) : pm_V (d + 1) 51 54 [l0, l1, l2, l3, l4, l5, l6] [.int v4i, .int v3i, .int v2i, .int v1i, v0v, .ref an] S Q = pm_N d 49 [.ref an, v0v, .int v1i, .int v2i, .int v3i, .int v4i] S (fun r S' => pm_V (d + 1) 51 57 [l0, l1, l2, l3, l4, l5, l6] (r.toList ++ []) S' Q) := pv_callV (as := [v0v, .int v1i, .int v2i, .int v3i, .int v4i]) (pm_cdi rfl dX5_sayOfParts_54) (Or.inl (by decide +kernel)) (by decide +kernel) (show _ = _ from (by decide +kernel : 5 = pm_np 49)) rfl (Nat.le_of_ble_eq_true rfl) (cl := 5) (by decide +kernel) hs
theorem q51_57 : pm_V d 51 57 [l0, l1, l2, l3, l4, l5, l6] [.int xi] S Q = Q (some (.int xi)) S := pv_rI (pm_cdi rfl dX5_sayOfParts_57) (by decide +kernel)
theorem q51_58 : pm_V d 51 58 [.ref xn, l1, l2, l3, l4, l5, l6] st S Q = pm_V d 51 59 [.ref xn, l1, l2, l3, l4, l5, l6] (.ref xn :: st) S Q := pv_aload_n (pm_cdi rfl dX5_sayOfParts_58) rfl
theorem q51_59 : pm_V d 51 59 [l0, .ref xn, l2, l3, l4, l5, l6] st S Q = pm_V d 51 60 [l0, .ref xn, l2, l3, l4, l5, l6] (.ref xn :: st) S Q := pv_aload_n (pm_cdi rfl dX5_sayOfParts_59) rfl
theorem q51_59N : pm_V d 51 59 [l0, .null, l2, l3, l4, l5, l6] st S Q = pm_V d 51 60 [l0, .null, l2, l3, l4, l5, l6] (.null :: st) S Q := pv_aload_nN (pm_cdi rfl dX5_sayOfParts_59) rfl
theorem q51_60 : pm_V d 51 60 [l0, l1, .int xi, l3, l4, l5, l6] st S Q = pm_V d 51 61 [l0, l1, .int xi, l3, l4, l5, l6] (.int xi :: st) S Q := pv_iload_n (pm_cdi rfl dX5_sayOfParts_60) rfl
theorem q51_61 : pm_V d 51 61 [l0, l1, l2, .int xi, l4, l5, l6] st S Q = pm_V d 51 62 [l0, l1, l2, .int xi, l4, l5, l6] (.int xi :: st) S Q := pv_iload_n (pm_cdi rfl dX5_sayOfParts_61) rfl
theorem q51_62 : pm_V d 51 62 [.ref xn, l1, l2, l3, l4, l5, l6] st S Q = pm_V d 51 63 [.ref xn, l1, l2, l3, l4, l5, l6] (.ref xn :: st) S Q := pv_aload_n (pm_cdi rfl dX5_sayOfParts_62) rfl
theorem q51_63 (hs : pm_sh S an = .inr 5) : pm_V d 51 63 [l0, l1, l2, l3, l4, l5, l6] (.ref an :: st) S Q = pm_V d 51 66 [l0, l1, l2, l3, l4, l5, l6] (va_rf (pm_gr S an 2) :: st) S Q := pv_getA (pm_cdi rfl dX5_sayOfParts_63) (by decide +kernel) (by decide +kernel) (by decide +kernel) hs
theorem q51_66 : pm_V d 51 66 [l0, l1, l2, l3, .int xi, l5, l6] st S Q = pm_V d 51 68 [l0, l1, l2, l3, .int xi, l5, l6] (.int xi :: st) S Q := pv_iload (pm_cdi rfl dX5_sayOfParts_66) rfl
theorem q51_68 (hs : pm_ar S an 0 xi = true) : pm_V d 51 68 [l0, l1, l2, l3, l4, l5, l6] (.int xi :: .ref an :: st) S Q = pm_V d 51 69 [l0, l1, l2, l3, l4, l5, l6] (.int (pm_zi S an xi.toNatClampNeg) :: st) S Q := pv_iald (pm_cdi rfl dX5_sayOfParts_68) hs
theorem q51_69 : pm_V d 51 69 [l0, l1, l2, l3, l4, .int xi, l6] st S Q = pm_V d 51 71 [l0, l1, l2, l3, l4, .int xi, l6] (.int xi :: st) S Q := pv_iload (pm_cdi rfl dX5_sayOfParts_69) rfl
theorem q51_71 : pm_V d 51 71 [l0, l1, l2, l3, l4, l5, l6] st S Q = pm_V d 51 72 [l0, l1, l2, l3, l4, l5, l6] (.int 1 :: st) S Q := pv_iconst (pm_cdi rfl dX5_sayOfParts_71) (by decide +kernel)
theorem q51_72 : pm_V d 51 72 [l0, l1, l2, l3, l4, l5, l6] (.int yi :: .int xi :: st) S Q = pm_V d 51 73 [l0, l1, l2, l3, l4, l5, l6] (.int (xi + yi) :: st) S Q := pv_iadd (pm_cdi rfl dX5_sayOfParts_72)
theorem q51_73 (hs : pm_sh S an = .inr 5) : pm_V (d + 1) 51 73 [l0, l1, l2, l3, l4, l5, l6] [.int v4i, .int v3i, .int v2i, .int v1i, v0v, .ref an] S Q = pm_N d 49 [.ref an, v0v, .int v1i, .int v2i, .int v3i, .int v4i] S (fun r S' => pm_V (d + 1) 51 76 [l0, l1, l2, l3, l4, l5, l6] (r.toList ++ []) S' Q) := pv_callV (as := [v0v, .int v1i, .int v2i, .int v3i, .int v4i]) (pm_cdi rfl dX5_sayOfParts_73) (Or.inl (by decide +kernel)) (by decide +kernel) (show _ = _ from (by decide +kernel : 5 = pm_np 49)) rfl (Nat.le_of_ble_eq_true rfl) (cl := 5) (by decide +kernel) hs
theorem q51_76 : pm_V d 51 76 [l0, l1, l2, l3, l4, .int yi, l6] (.int xi :: st) S Q = pm_V d 51 78 [l0, l1, l2, l3, l4, .int yi, .int xi] st S Q := pv_istore (pm_cdi rfl dX5_sayOfParts_76) rfl
theorem q51_78 : pm_V d 51 78 [.ref xn, l1, l2, l3, l4, l5, l6] st S Q = pm_V d 51 79 [.ref xn, l1, l2, l3, l4, l5, l6] (.ref xn :: st) S Q := pv_aload_n (pm_cdi rfl dX5_sayOfParts_78) rfl
theorem q51_79 (hs : pm_sh S an = .inr 5) : pm_V d 51 79 [l0, l1, l2, l3, l4, l5, l6] (.ref an :: st) S Q = pm_V d 51 82 [l0, l1, l2, l3, l4, l5, l6] (va_rf (pm_gr S an 0) :: st) S Q := pv_getA (pm_cdi rfl dX5_sayOfParts_79) (by decide +kernel) (by decide +kernel) (by decide +kernel) hs
theorem q51_82 : pm_V d 51 82 [l0, l1, l2, l3, .int xi, l5, l6] st S Q = pm_V d 51 84 [l0, l1, l2, l3, .int xi, l5, l6] (.int xi :: st) S Q := pv_iload (pm_cdi rfl dX5_sayOfParts_82) rfl
theorem q51_84 (hs : pm_ar S an 0 xi = true) : pm_V d 51 84 [l0, l1, l2, l3, l4, l5, l6] (.int xi :: .ref an :: st) S Q = pm_V d 51 85 [l0, l1, l2, l3, l4, l5, l6] (.int (pm_zi S an xi.toNatClampNeg) :: st) S Q := pv_iald (pm_cdi rfl dX5_sayOfParts_84) hs
theorem q51_85 : pm_V d 51 85 [l0, l1, l2, l3, l4, l5, l6] (.int xi :: st) S Q = pm_V d 51 (pm_tsw xi 4 [112, 127, 157] 186) [l0, l1, l2, l3, l4, l5, l6] st S Q := pv_tsw (pm_cdi rfl dX5_sayOfParts_85) (by decide +kernel) rfl (by decide +kernel)
theorem q51_112 : pm_V d 51 112 [l0, l1, l2, l3, l4, l5, .int xi] st S Q = pm_V d 51 114 [l0, l1, l2, l3, l4, l5, .int xi] (.int xi :: st) S Q := pv_iload (pm_cdi rfl dX5_sayOfParts_112) rfl
theorem q51_114 : pm_V d 51 114 [l0, l1, l2, l3, l4, l5, l6] (.int xi :: st) S Q = if xi < 0 then pm_V d 51 117 [l0, l1, l2, l3, l4, l5, l6] st S Q else pm_V d 51 122 [l0, l1, l2, l3, l4, l5, l6] st S Q := pv_if_ge (pm_cdi rfl dX5_sayOfParts_114) rfl
theorem q51_117 : pm_V d 51 117 [l0, l1, l2, l3, l4, l5, .int xi] st S Q = pm_V d 51 119 [l0, l1, l2, l3, l4, l5, .int xi] (.int xi :: st) S Q := pv_iload (pm_cdi rfl dX5_sayOfParts_117) rfl
theorem q51_119 : pm_V d 51 119 [l0, l1, l2, l3, l4, l5, l6] st S Q = pm_V d 51 126 [l0, l1, l2, l3, l4, l5, l6] st S Q := pv_goto (pm_cdi rfl dX5_sayOfParts_119) rfl
theorem q51_122 : pm_V d 51 122 [l0, l1, l2, l3, l4, l5, l6] st S Q = pm_V d 51 123 [l0, l1, l2, l3, l4, l5, l6] (.int 1 :: st) S Q := pv_iconst (pm_cdi rfl dX5_sayOfParts_122) (by decide +kernel)
theorem q51_123 : pm_V d 51 123 [l0, l1, l2, l3, l4, l5, .int xi] st S Q = pm_V d 51 125 [l0, l1, l2, l3, l4, l5, .int xi] (.int xi :: st) S Q := pv_iload (pm_cdi rfl dX5_sayOfParts_123) rfl
theorem q51_125 : pm_V d 51 125 [l0, l1, l2, l3, l4, l5, l6] (.int yi :: .int xi :: st) S Q = pm_V d 51 126 [l0, l1, l2, l3, l4, l5, l6] (.int (xi - yi) :: st) S Q := pv_isub (pm_cdi rfl dX5_sayOfParts_125)
theorem q51_126 : pm_V d 51 126 [l0, l1, l2, l3, l4, l5, l6] [.int xi] S Q = Q (some (.int xi)) S := pv_rI (pm_cdi rfl dX5_sayOfParts_126) (by decide +kernel)
theorem q51_127 : pm_V d 51 127 [l0, l1, l2, l3, l4, l5, .int xi] st S Q = pm_V d 51 129 [l0, l1, l2, l3, l4, l5, .int xi] (.int xi :: st) S Q := pv_iload (pm_cdi rfl dX5_sayOfParts_127) rfl
theorem q51_129 : pm_V d 51 129 [l0, l1, l2, l3, l4, l5, l6] st S Q = pm_V d 51 130 [l0, l1, l2, l3, l4, l5, l6] (.int 1 :: st) S Q := pv_iconst (pm_cdi rfl dX5_sayOfParts_129) (by decide +kernel)
theorem q51_130 : pm_V d 51 130 [l0, l1, l2, l3, l4, l5, l6] (.int yi :: .int xi :: st) S Q = if xi = yi then pm_V d 51 133 [l0, l1, l2, l3, l4, l5, l6] st S Q else pm_V d 51 154 [l0, l1, l2, l3, l4, l5, l6] st S Q := pv_icmp_ne (pm_cdi rfl dX5_sayOfParts_130) rfl
theorem q51_133 : pm_V d 51 133 [.ref xn, l1, l2, l3, l4, l5, l6] st S Q = pm_V d 51 134 [.ref xn, l1, l2, l3, l4, l5, l6] (.ref xn :: st) S Q := pv_aload_n (pm_cdi rfl dX5_sayOfParts_133) rfl
theorem q51_134 : pm_V d 51 134 [l0, .ref xn, l2, l3, l4, l5, l6] st S Q = pm_V d 51 135 [l0, .ref xn, l2, l3, l4, l5, l6] (.ref xn :: st) S Q := pv_aload_n (pm_cdi rfl dX5_sayOfParts_134) rfl
theorem q51_134N : pm_V d 51 134 [l0, .null, l2, l3, l4, l5, l6] st S Q = pm_V d 51 135 [l0, .null, l2, l3, l4, l5, l6] (.null :: st) S Q := pv_aload_nN (pm_cdi rfl dX5_sayOfParts_134) rfl
theorem q51_135 : pm_V d 51 135 [l0, l1, .int xi, l3, l4, l5, l6] st S Q = pm_V d 51 136 [l0, l1, .int xi, l3, l4, l5, l6] (.int xi :: st) S Q := pv_iload_n (pm_cdi rfl dX5_sayOfParts_135) rfl
theorem q51_136 : pm_V d 51 136 [l0, l1, l2, .int xi, l4, l5, l6] st S Q = pm_V d 51 137 [l0, l1, l2, .int xi, l4, l5, l6] (.int xi :: st) S Q := pv_iload_n (pm_cdi rfl dX5_sayOfParts_136) rfl
theorem q51_137 : pm_V d 51 137 [.ref xn, l1, l2, l3, l4, l5, l6] st S Q = pm_V d 51 138 [.ref xn, l1, l2, l3, l4, l5, l6] (.ref xn :: st) S Q := pv_aload_n (pm_cdi rfl dX5_sayOfParts_137) rfl
theorem q51_138 (hs : pm_sh S an = .inr 5) : pm_V d 51 138 [l0, l1, l2, l3, l4, l5, l6] (.ref an :: st) S Q = pm_V d 51 141 [l0, l1, l2, l3, l4, l5, l6] (va_rf (pm_gr S an 3) :: st) S Q := pv_getA (pm_cdi rfl dX5_sayOfParts_138) (by decide +kernel) (by decide +kernel) (by decide +kernel) hs
theorem q51_141 : pm_V d 51 141 [l0, l1, l2, l3, .int xi, l5, l6] st S Q = pm_V d 51 143 [l0, l1, l2, l3, .int xi, l5, l6] (.int xi :: st) S Q := pv_iload (pm_cdi rfl dX5_sayOfParts_141) rfl
theorem q51_143 (hs : pm_ar S an 0 xi = true) : pm_V d 51 143 [l0, l1, l2, l3, l4, l5, l6] (.int xi :: .ref an :: st) S Q = pm_V d 51 144 [l0, l1, l2, l3, l4, l5, l6] (.int (pm_zi S an xi.toNatClampNeg) :: st) S Q := pv_iald (pm_cdi rfl dX5_sayOfParts_143) hs
theorem q51_144 : pm_V d 51 144 [l0, l1, l2, l3, l4, .int xi, l6] st S Q = pm_V d 51 146 [l0, l1, l2, l3, l4, .int xi, l6] (.int xi :: st) S Q := pv_iload (pm_cdi rfl dX5_sayOfParts_144) rfl
theorem q51_146 : pm_V d 51 146 [l0, l1, l2, l3, l4, l5, l6] st S Q = pm_V d 51 147 [l0, l1, l2, l3, l4, l5, l6] (.int 1 :: st) S Q := pv_iconst (pm_cdi rfl dX5_sayOfParts_146) (by decide +kernel)
theorem q51_147 : pm_V d 51 147 [l0, l1, l2, l3, l4, l5, l6] (.int yi :: .int xi :: st) S Q = pm_V d 51 148 [l0, l1, l2, l3, l4, l5, l6] (.int (xi + yi) :: st) S Q := pv_iadd (pm_cdi rfl dX5_sayOfParts_147)
theorem q51_148 (hs : pm_sh S an = .inr 5) : pm_V (d + 1) 51 148 [l0, l1, l2, l3, l4, l5, l6] [.int v4i, .int v3i, .int v2i, .int v1i, v0v, .ref an] S Q = pm_N d 49 [.ref an, v0v, .int v1i, .int v2i, .int v3i, .int v4i] S (fun r S' => pm_V (d + 1) 51 151 [l0, l1, l2, l3, l4, l5, l6] (r.toList ++ []) S' Q) := pv_callV (as := [v0v, .int v1i, .int v2i, .int v3i, .int v4i]) (pm_cdi rfl dX5_sayOfParts_148) (Or.inl (by decide +kernel)) (by decide +kernel) (show _ = _ from (by decide +kernel : 5 = pm_np 49)) rfl (Nat.le_of_ble_eq_true rfl) (cl := 5) (by decide +kernel) hs
theorem q51_151 : pm_V d 51 151 [l0, l1, l2, l3, l4, l5, l6] st S Q = pm_V d 51 156 [l0, l1, l2, l3, l4, l5, l6] st S Q := pv_goto (pm_cdi rfl dX5_sayOfParts_151) rfl
theorem q51_154 : pm_V d 51 154 [l0, l1, l2, l3, l4, l5, .int xi] st S Q = pm_V d 51 156 [l0, l1, l2, l3, l4, l5, .int xi] (.int xi :: st) S Q := pv_iload (pm_cdi rfl dX5_sayOfParts_154) rfl
theorem q51_156 : pm_V d 51 156 [l0, l1, l2, l3, l4, l5, l6] [.int xi] S Q = Q (some (.int xi)) S := pv_rI (pm_cdi rfl dX5_sayOfParts_156) (by decide +kernel)
theorem q51_157 : pm_V d 51 157 [l0, l1, l2, l3, l4, l5, .int xi] st S Q = pm_V d 51 159 [l0, l1, l2, l3, l4, l5, .int xi] (.int xi :: st) S Q := pv_iload (pm_cdi rfl dX5_sayOfParts_157) rfl
theorem q51_159 : pm_V d 51 159 [l0, l1, l2, l3, l4, l5, l6] (.int xi :: st) S Q = if xi = 0 then pm_V d 51 162 [l0, l1, l2, l3, l4, l5, l6] st S Q else pm_V d 51 183 [l0, l1, l2, l3, l4, l5, l6] st S Q := pv_if_ne (pm_cdi rfl dX5_sayOfParts_159) rfl
theorem q51_162 : pm_V d 51 162 [.ref xn, l1, l2, l3, l4, l5, l6] st S Q = pm_V d 51 163 [.ref xn, l1, l2, l3, l4, l5, l6] (.ref xn :: st) S Q := pv_aload_n (pm_cdi rfl dX5_sayOfParts_162) rfl
theorem q51_163 : pm_V d 51 163 [l0, .ref xn, l2, l3, l4, l5, l6] st S Q = pm_V d 51 164 [l0, .ref xn, l2, l3, l4, l5, l6] (.ref xn :: st) S Q := pv_aload_n (pm_cdi rfl dX5_sayOfParts_163) rfl
theorem q51_163N : pm_V d 51 163 [l0, .null, l2, l3, l4, l5, l6] st S Q = pm_V d 51 164 [l0, .null, l2, l3, l4, l5, l6] (.null :: st) S Q := pv_aload_nN (pm_cdi rfl dX5_sayOfParts_163) rfl
theorem q51_164 : pm_V d 51 164 [l0, l1, .int xi, l3, l4, l5, l6] st S Q = pm_V d 51 165 [l0, l1, .int xi, l3, l4, l5, l6] (.int xi :: st) S Q := pv_iload_n (pm_cdi rfl dX5_sayOfParts_164) rfl
theorem q51_165 : pm_V d 51 165 [l0, l1, l2, .int xi, l4, l5, l6] st S Q = pm_V d 51 166 [l0, l1, l2, .int xi, l4, l5, l6] (.int xi :: st) S Q := pv_iload_n (pm_cdi rfl dX5_sayOfParts_165) rfl
theorem q51_166 : pm_V d 51 166 [.ref xn, l1, l2, l3, l4, l5, l6] st S Q = pm_V d 51 167 [.ref xn, l1, l2, l3, l4, l5, l6] (.ref xn :: st) S Q := pv_aload_n (pm_cdi rfl dX5_sayOfParts_166) rfl
theorem q51_167 (hs : pm_sh S an = .inr 5) : pm_V d 51 167 [l0, l1, l2, l3, l4, l5, l6] (.ref an :: st) S Q = pm_V d 51 170 [l0, l1, l2, l3, l4, l5, l6] (va_rf (pm_gr S an 3) :: st) S Q := pv_getA (pm_cdi rfl dX5_sayOfParts_167) (by decide +kernel) (by decide +kernel) (by decide +kernel) hs
theorem q51_170 : pm_V d 51 170 [l0, l1, l2, l3, .int xi, l5, l6] st S Q = pm_V d 51 172 [l0, l1, l2, l3, .int xi, l5, l6] (.int xi :: st) S Q := pv_iload (pm_cdi rfl dX5_sayOfParts_170) rfl
theorem q51_172 (hs : pm_ar S an 0 xi = true) : pm_V d 51 172 [l0, l1, l2, l3, l4, l5, l6] (.int xi :: .ref an :: st) S Q = pm_V d 51 173 [l0, l1, l2, l3, l4, l5, l6] (.int (pm_zi S an xi.toNatClampNeg) :: st) S Q := pv_iald (pm_cdi rfl dX5_sayOfParts_172) hs
theorem q51_173 : pm_V d 51 173 [l0, l1, l2, l3, l4, .int xi, l6] st S Q = pm_V d 51 175 [l0, l1, l2, l3, l4, .int xi, l6] (.int xi :: st) S Q := pv_iload (pm_cdi rfl dX5_sayOfParts_173) rfl
theorem q51_175 : pm_V d 51 175 [l0, l1, l2, l3, l4, l5, l6] st S Q = pm_V d 51 176 [l0, l1, l2, l3, l4, l5, l6] (.int 1 :: st) S Q := pv_iconst (pm_cdi rfl dX5_sayOfParts_175) (by decide +kernel)
theorem q51_176 : pm_V d 51 176 [l0, l1, l2, l3, l4, l5, l6] (.int yi :: .int xi :: st) S Q = pm_V d 51 177 [l0, l1, l2, l3, l4, l5, l6] (.int (xi + yi) :: st) S Q := pv_iadd (pm_cdi rfl dX5_sayOfParts_176)
theorem q51_177 (hs : pm_sh S an = .inr 5) : pm_V (d + 1) 51 177 [l0, l1, l2, l3, l4, l5, l6] [.int v4i, .int v3i, .int v2i, .int v1i, v0v, .ref an] S Q = pm_N d 49 [.ref an, v0v, .int v1i, .int v2i, .int v3i, .int v4i] S (fun r S' => pm_V (d + 1) 51 180 [l0, l1, l2, l3, l4, l5, l6] (r.toList ++ []) S' Q) := pv_callV (as := [v0v, .int v1i, .int v2i, .int v3i, .int v4i]) (pm_cdi rfl dX5_sayOfParts_177) (Or.inl (by decide +kernel)) (by decide +kernel) (show _ = _ from (by decide +kernel : 5 = pm_np 49)) rfl (Nat.le_of_ble_eq_true rfl) (cl := 5) (by decide +kernel) hs
theorem q51_180 : pm_V d 51 180 [l0, l1, l2, l3, l4, l5, l6] st S Q = pm_V d 51 185 [l0, l1, l2, l3, l4, l5, l6] st S Q := pv_goto (pm_cdi rfl dX5_sayOfParts_180) rfl
theorem q51_183 : pm_V d 51 183 [l0, l1, l2, l3, l4, l5, .int xi] st S Q = pm_V d 51 185 [l0, l1, l2, l3, l4, l5, .int xi] (.int xi :: st) S Q := pv_iload (pm_cdi rfl dX5_sayOfParts_183) rfl
theorem q51_185 : pm_V d 51 185 [l0, l1, l2, l3, l4, l5, l6] [.int xi] S Q = Q (some (.int xi)) S := pv_rI (pm_cdi rfl dX5_sayOfParts_185) (by decide +kernel)
theorem q51_186 : pm_V d 51 186 [l0, l1, l2, l3, l4, l5, .int xi] st S Q = pm_V d 51 188 [l0, l1, l2, l3, l4, l5, .int xi] (.int xi :: st) S Q := pv_iload (pm_cdi rfl dX5_sayOfParts_186) rfl
theorem q51_188 : pm_V d 51 188 [l0, l1, l2, l3, l4, l5, l6] st S Q = pm_V d 51 189 [l0, l1, l2, l3, l4, l5, l6] (.int (-1) :: st) S Q := pv_iconst (pm_cdi rfl dX5_sayOfParts_188) (by decide +kernel)
theorem q51_189 : pm_V d 51 189 [l0, l1, l2, l3, l4, l5, l6] (.int yi :: .int xi :: st) S Q = if xi = yi then pm_V d 51 199 [l0, l1, l2, l3, l4, l5, l6] st S Q else pm_V d 51 192 [l0, l1, l2, l3, l4, l5, l6] st S Q := pv_icmp_eq (pm_cdi rfl dX5_sayOfParts_189) rfl
theorem q51_192 : pm_V d 51 192 [l0, l1, l2, l3, l4, l5, .int xi] st S Q = pm_V d 51 194 [l0, l1, l2, l3, l4, l5, .int xi] (.int xi :: st) S Q := pv_iload (pm_cdi rfl dX5_sayOfParts_192) rfl
theorem q51_194 : pm_V d 51 194 [l0, l1, l2, l3, l4, l5, l6] st S Q = pm_V d 51 196 [l0, l1, l2, l3, l4, l5, l6] (.int (-2) :: st) S Q := pv_bipush (pm_cdi rfl dX5_sayOfParts_194) (by decide +kernel)
theorem q51_196 : pm_V d 51 196 [l0, l1, l2, l3, l4, l5, l6] (.int yi :: .int xi :: st) S Q = if xi = yi then pm_V d 51 199 [l0, l1, l2, l3, l4, l5, l6] st S Q else pm_V d 51 203 [l0, l1, l2, l3, l4, l5, l6] st S Q := pv_icmp_ne (pm_cdi rfl dX5_sayOfParts_196) rfl
theorem q51_199 : pm_V d 51 199 [l0, l1, l2, l3, l4, l5, l6] st S Q = pm_V d 51 200 [l0, l1, l2, l3, l4, l5, l6] (.int 0 :: st) S Q := pv_iconst (pm_cdi rfl dX5_sayOfParts_199) (by decide +kernel)
theorem q51_200 : pm_V d 51 200 [l0, l1, l2, l3, l4, l5, l6] st S Q = pm_V d 51 205 [l0, l1, l2, l3, l4, l5, l6] st S Q := pv_goto (pm_cdi rfl dX5_sayOfParts_200) rfl
theorem q51_203 : pm_V d 51 203 [l0, l1, l2, l3, l4, l5, .int xi] st S Q = pm_V d 51 205 [l0, l1, l2, l3, l4, l5, .int xi] (.int xi :: st) S Q := pv_iload (pm_cdi rfl dX5_sayOfParts_203) rfl
theorem q51_205 : pm_V d 51 205 [l0, l1, l2, l3, l4, l5, l6] [.int xi] S Q = Q (some (.int xi)) S := pv_rI (pm_cdi rfl dX5_sayOfParts_205) (by decide +kernel)
theorem q51_e : pm_N d 51 [.ref an, .ref v0n, .int v1i, .int v2i, .int v3i, .int v4i] S Q = pm_V d 51 0 [.ref an, .ref v0n, .int v1i, .int v2i, .int v3i, .int v4i, pm_j] [] S Q := pv_ent (Nat.le_of_ble_eq_true rfl) rfl
/-! 52: ViewsJoins$Tests.sayOfSomeNext(LViewsJoins$Graph;III)I -/
theorem dX5_sayOfSomeNext_0 : decode cX5_sayOfSomeNext 0 = .ok (.iconst 0, 1) := by decide +kernel
theorem dX5_sayOfSomeNext_1 : decode cX5_sayOfSomeNext 1 = .ok (.istore 5, 2) := by decide +kernel
theorem dX5_sayOfSomeNext_3 : decode cX5_sayOfSomeNext 3 = .ok (.iload 5, 2) := by decide +kernel
theorem dX5_sayOfSomeNext_5 : decode cX5_sayOfSomeNext 5 = .ok (.aload_n 1, 1) := by decide +kernel
theorem dX5_sayOfSomeNext_6 : decode cX5_sayOfSomeNext 6 = .ok (.getfield 82, 3) := by decide +kernel
theorem dX5_sayOfSomeNext_9 : decode cX5_sayOfSomeNext 9 = .ok (.getfield 86, 3) := by decide +kernel
theorem dX5_sayOfSomeNext_12 : decode cX5_sayOfSomeNext 12 = .ok (.if_icmp .ge 48, 3) := by decide +kernel
theorem dX5_sayOfSomeNext_15 : decode cX5_sayOfSomeNext 15 = .ok (.aload_n 1, 1) := by decide +kernel
theorem dX5_sayOfSomeNext_16 : decode cX5_sayOfSomeNext 16 = .ok (.getfield 87, 3) := by decide +kernel
theorem dX5_sayOfSomeNext_19 : decode cX5_sayOfSomeNext 19 = .ok (.iload 5, 2) := by decide +kernel
theorem dX5_sayOfSomeNext_21 : decode cX5_sayOfSomeNext 21 = .ok (.iaload, 1) := by decide +kernel
theorem dX5_sayOfSomeNext_22 : decode cX5_sayOfSomeNext 22 = .ok (.iload_n 2, 1) := by decide +kernel
theorem dX5_sayOfSomeNext_23 : decode cX5_sayOfSomeNext 23 = .ok (.if_icmp .ne 31, 3) := by decide +kernel
theorem dX5_sayOfSomeNext_26 : decode cX5_sayOfSomeNext 26 = .ok (.aload_n 0, 1) := by decide +kernel
theorem dX5_sayOfSomeNext_27 : decode cX5_sayOfSomeNext 27 = .ok (.aload_n 1, 1) := by decide +kernel
theorem dX5_sayOfSomeNext_28 : decode cX5_sayOfSomeNext 28 = .ok (.iconst 0, 1) := by decide +kernel
theorem dX5_sayOfSomeNext_29 : decode cX5_sayOfSomeNext 29 = .ok (.aload_n 1, 1) := by decide +kernel
theorem dX5_sayOfSomeNext_30 : decode cX5_sayOfSomeNext 30 = .ok (.getfield 76, 3) := by decide +kernel
theorem dX5_sayOfSomeNext_33 : decode cX5_sayOfSomeNext 33 = .ok (.iload 5, 2) := by decide +kernel
theorem dX5_sayOfSomeNext_35 : decode cX5_sayOfSomeNext 35 = .ok (.iaload, 1) := by decide +kernel
theorem dX5_sayOfSomeNext_36 : decode cX5_sayOfSomeNext 36 = .ok (.iload_n 3, 1) := by decide +kernel
theorem dX5_sayOfSomeNext_37 : decode cX5_sayOfSomeNext 37 = .ok (.iload 4, 2) := by decide +kernel
theorem dX5_sayOfSomeNext_39 : decode cX5_sayOfSomeNext 39 = .ok (.iconst 1, 1) := by decide +kernel
theorem dX5_sayOfSomeNext_40 : decode cX5_sayOfSomeNext 40 = .ok (.iadd, 1) := by decide +kernel
theorem dX5_sayOfSomeNext_41 : decode cX5_sayOfSomeNext 41 = .ok (.invokevirtual 79, 3) := by decide +kernel
theorem dX5_sayOfSomeNext_44 : decode cX5_sayOfSomeNext 44 = .ok (.istore 6, 2) := by decide +kernel
theorem dX5_sayOfSomeNext_46 : decode cX5_sayOfSomeNext 46 = .ok (.iload 6, 2) := by decide +kernel
theorem dX5_sayOfSomeNext_48 : decode cX5_sayOfSomeNext 48 = .ok (.ifCond .eq 6, 3) := by decide +kernel
theorem dX5_sayOfSomeNext_51 : decode cX5_sayOfSomeNext 51 = .ok (.iload 6, 2) := by decide +kernel
theorem dX5_sayOfSomeNext_53 : decode cX5_sayOfSomeNext 53 = .ok (.ireturn, 1) := by decide +kernel
theorem dX5_sayOfSomeNext_54 : decode cX5_sayOfSomeNext 54 = .ok (.iinc 5 1, 3) := by decide +kernel
theorem dX5_sayOfSomeNext_57 : decode cX5_sayOfSomeNext 57 = .ok (.goto (-54), 3) := by decide +kernel
theorem dX5_sayOfSomeNext_60 : decode cX5_sayOfSomeNext 60 = .ok (.iconst 0, 1) := by decide +kernel
theorem dX5_sayOfSomeNext_61 : decode cX5_sayOfSomeNext 61 = .ok (.ireturn, 1) := by decide +kernel
theorem q52_0 : pm_V d 52 0 [l0, l1, l2, l3, l4, l5, l6] st S Q = pm_V d 52 1 [l0, l1, l2, l3, l4, l5, l6] (.int 0 :: st) S Q := pv_iconst (pm_cdi rfl dX5_sayOfSomeNext_0) (by decide +kernel)
theorem q52_1 : pm_V d 52 1 [l0, l1, l2, l3, .int yi, l5, l6] (.int xi :: st) S Q = pm_V d 52 3 [l0, l1, l2, l3, .int yi, .int xi, l6] st S Q := pv_istore (pm_cdi rfl dX5_sayOfSomeNext_1) rfl
theorem q52_3 : pm_V d 52 3 [l0, l1, l2, l3, l4, .int xi, l6] st S Q = pm_V d 52 5 [l0, l1, l2, l3, l4, .int xi, l6] (.int xi :: st) S Q := pv_iload (pm_cdi rfl dX5_sayOfSomeNext_3) rfl
theorem q52_5 : pm_V d 52 5 [l0, .ref xn, l2, l3, l4, l5, l6] st S Q = pm_V d 52 6 [l0, .ref xn, l2, l3, l4, l5, l6] (.ref xn :: st) S Q := pv_aload_n (pm_cdi rfl dX5_sayOfSomeNext_5) rfl
theorem q52_5N : pm_V d 52 5 [l0, .null, l2, l3, l4, l5, l6] st S Q = pm_V d 52 6 [l0, .null, l2, l3, l4, l5, l6] (.null :: st) S Q := pv_aload_nN (pm_cdi rfl dX5_sayOfSomeNext_5) rfl
theorem q52_6 (hs : pm_sh S an = .inr 0) : pm_V d 52 6 [l0, l1, l2, l3, l4, l5, l6] (.ref an :: st) S Q = pm_V d 52 9 [l0, l1, l2, l3, l4, l5, l6] (va_rf (pm_gr S an 1) :: st) S Q := pv_getA (pm_cdi rfl dX5_sayOfSomeNext_6) (by decide +kernel) (by decide +kernel) (by decide +kernel) hs
theorem q52_9 (hs : pm_sh S an = .inr 3) : pm_V d 52 9 [l0, l1, l2, l3, l4, l5, l6] (.ref an :: st) S Q = pm_V d 52 12 [l0, l1, l2, l3, l4, l5, l6] (.int (pm_gi S an 3) :: st) S Q := pv_getI (pm_cdi rfl dX5_sayOfSomeNext_9) (by decide +kernel) (by decide +kernel) (by decide +kernel) hs
theorem q52_12 : pm_V d 52 12 [l0, l1, l2, l3, l4, l5, l6] (.int yi :: .int xi :: st) S Q = if xi < yi then pm_V d 52 15 [l0, l1, l2, l3, l4, l5, l6] st S Q else pm_V d 52 60 [l0, l1, l2, l3, l4, l5, l6] st S Q := pv_icmp_ge (pm_cdi rfl dX5_sayOfSomeNext_12) rfl
theorem q52_15 : pm_V d 52 15 [l0, .ref xn, l2, l3, l4, l5, l6] st S Q = pm_V d 52 16 [l0, .ref xn, l2, l3, l4, l5, l6] (.ref xn :: st) S Q := pv_aload_n (pm_cdi rfl dX5_sayOfSomeNext_15) rfl
theorem q52_15N : pm_V d 52 15 [l0, .null, l2, l3, l4, l5, l6] st S Q = pm_V d 52 16 [l0, .null, l2, l3, l4, l5, l6] (.null :: st) S Q := pv_aload_nN (pm_cdi rfl dX5_sayOfSomeNext_15) rfl
theorem q52_16 (hs : pm_sh S an = .inr 0) : pm_V d 52 16 [l0, l1, l2, l3, l4, l5, l6] (.ref an :: st) S Q = pm_V d 52 19 [l0, l1, l2, l3, l4, l5, l6] (va_rf (pm_gr S an 2) :: st) S Q := pv_getA (pm_cdi rfl dX5_sayOfSomeNext_16) (by decide +kernel) (by decide +kernel) (by decide +kernel) hs
theorem q52_19 : pm_V d 52 19 [l0, l1, l2, l3, l4, .int xi, l6] st S Q = pm_V d 52 21 [l0, l1, l2, l3, l4, .int xi, l6] (.int xi :: st) S Q := pv_iload (pm_cdi rfl dX5_sayOfSomeNext_19) rfl
theorem q52_21 (hs : pm_ar S an 0 xi = true) : pm_V d 52 21 [l0, l1, l2, l3, l4, l5, l6] (.int xi :: .ref an :: st) S Q = pm_V d 52 22 [l0, l1, l2, l3, l4, l5, l6] (.int (pm_zi S an xi.toNatClampNeg) :: st) S Q := pv_iald (pm_cdi rfl dX5_sayOfSomeNext_21) hs
theorem q52_22 : pm_V d 52 22 [l0, l1, .int xi, l3, l4, l5, l6] st S Q = pm_V d 52 23 [l0, l1, .int xi, l3, l4, l5, l6] (.int xi :: st) S Q := pv_iload_n (pm_cdi rfl dX5_sayOfSomeNext_22) rfl
theorem q52_23 : pm_V d 52 23 [l0, l1, l2, l3, l4, l5, l6] (.int yi :: .int xi :: st) S Q = if xi = yi then pm_V d 52 26 [l0, l1, l2, l3, l4, l5, l6] st S Q else pm_V d 52 54 [l0, l1, l2, l3, l4, l5, l6] st S Q := pv_icmp_ne (pm_cdi rfl dX5_sayOfSomeNext_23) rfl
theorem q52_26 : pm_V d 52 26 [.ref xn, l1, l2, l3, l4, l5, l6] st S Q = pm_V d 52 27 [.ref xn, l1, l2, l3, l4, l5, l6] (.ref xn :: st) S Q := pv_aload_n (pm_cdi rfl dX5_sayOfSomeNext_26) rfl
theorem q52_27 : pm_V d 52 27 [l0, .ref xn, l2, l3, l4, l5, l6] st S Q = pm_V d 52 28 [l0, .ref xn, l2, l3, l4, l5, l6] (.ref xn :: st) S Q := pv_aload_n (pm_cdi rfl dX5_sayOfSomeNext_27) rfl
theorem q52_27N : pm_V d 52 27 [l0, .null, l2, l3, l4, l5, l6] st S Q = pm_V d 52 28 [l0, .null, l2, l3, l4, l5, l6] (.null :: st) S Q := pv_aload_nN (pm_cdi rfl dX5_sayOfSomeNext_27) rfl
theorem q52_28 : pm_V d 52 28 [l0, l1, l2, l3, l4, l5, l6] st S Q = pm_V d 52 29 [l0, l1, l2, l3, l4, l5, l6] (.int 0 :: st) S Q := pv_iconst (pm_cdi rfl dX5_sayOfSomeNext_28) (by decide +kernel)
theorem q52_29 : pm_V d 52 29 [l0, .ref xn, l2, l3, l4, l5, l6] st S Q = pm_V d 52 30 [l0, .ref xn, l2, l3, l4, l5, l6] (.ref xn :: st) S Q := pv_aload_n (pm_cdi rfl dX5_sayOfSomeNext_29) rfl
theorem q52_29N : pm_V d 52 29 [l0, .null, l2, l3, l4, l5, l6] st S Q = pm_V d 52 30 [l0, .null, l2, l3, l4, l5, l6] (.null :: st) S Q := pv_aload_nN (pm_cdi rfl dX5_sayOfSomeNext_29) rfl
theorem q52_30 (hs : pm_sh S an = .inr 0) : pm_V d 52 30 [l0, l1, l2, l3, l4, l5, l6] (.ref an :: st) S Q = pm_V d 52 33 [l0, l1, l2, l3, l4, l5, l6] (va_rf (pm_gr S an 3) :: st) S Q := pv_getA (pm_cdi rfl dX5_sayOfSomeNext_30) (by decide +kernel) (by decide +kernel) (by decide +kernel) hs
theorem q52_33 : pm_V d 52 33 [l0, l1, l2, l3, l4, .int xi, l6] st S Q = pm_V d 52 35 [l0, l1, l2, l3, l4, .int xi, l6] (.int xi :: st) S Q := pv_iload (pm_cdi rfl dX5_sayOfSomeNext_33) rfl
theorem q52_35 (hs : pm_ar S an 0 xi = true) : pm_V d 52 35 [l0, l1, l2, l3, l4, l5, l6] (.int xi :: .ref an :: st) S Q = pm_V d 52 36 [l0, l1, l2, l3, l4, l5, l6] (.int (pm_zi S an xi.toNatClampNeg) :: st) S Q := pv_iald (pm_cdi rfl dX5_sayOfSomeNext_35) hs
theorem q52_36 : pm_V d 52 36 [l0, l1, l2, .int xi, l4, l5, l6] st S Q = pm_V d 52 37 [l0, l1, l2, .int xi, l4, l5, l6] (.int xi :: st) S Q := pv_iload_n (pm_cdi rfl dX5_sayOfSomeNext_36) rfl
theorem q52_37 : pm_V d 52 37 [l0, l1, l2, l3, .int xi, l5, l6] st S Q = pm_V d 52 39 [l0, l1, l2, l3, .int xi, l5, l6] (.int xi :: st) S Q := pv_iload (pm_cdi rfl dX5_sayOfSomeNext_37) rfl
theorem q52_39 : pm_V d 52 39 [l0, l1, l2, l3, l4, l5, l6] st S Q = pm_V d 52 40 [l0, l1, l2, l3, l4, l5, l6] (.int 1 :: st) S Q := pv_iconst (pm_cdi rfl dX5_sayOfSomeNext_39) (by decide +kernel)
theorem q52_40 : pm_V d 52 40 [l0, l1, l2, l3, l4, l5, l6] (.int yi :: .int xi :: st) S Q = pm_V d 52 41 [l0, l1, l2, l3, l4, l5, l6] (.int (xi + yi) :: st) S Q := pv_iadd (pm_cdi rfl dX5_sayOfSomeNext_40)
theorem q52_41 (hs : pm_sh S an = .inr 5) : pm_V (d + 1) 52 41 [l0, l1, l2, l3, l4, l5, l6] [.int v4i, .int v3i, .int v2i, .int v1i, v0v, .ref an] S Q = pm_N d 49 [.ref an, v0v, .int v1i, .int v2i, .int v3i, .int v4i] S (fun r S' => pm_V (d + 1) 52 44 [l0, l1, l2, l3, l4, l5, l6] (r.toList ++ []) S' Q) := pv_callV (as := [v0v, .int v1i, .int v2i, .int v3i, .int v4i]) (pm_cdi rfl dX5_sayOfSomeNext_41) (Or.inl (by decide +kernel)) (by decide +kernel) (show _ = _ from (by decide +kernel : 5 = pm_np 49)) rfl (Nat.le_of_ble_eq_true rfl) (cl := 5) (by decide +kernel) hs
theorem q52_44 : pm_V d 52 44 [l0, l1, l2, l3, l4, .int yi, l6] (.int xi :: st) S Q = pm_V d 52 46 [l0, l1, l2, l3, l4, .int yi, .int xi] st S Q := pv_istore (pm_cdi rfl dX5_sayOfSomeNext_44) rfl
theorem q52_46 : pm_V d 52 46 [l0, l1, l2, l3, l4, l5, .int xi] st S Q = pm_V d 52 48 [l0, l1, l2, l3, l4, l5, .int xi] (.int xi :: st) S Q := pv_iload (pm_cdi rfl dX5_sayOfSomeNext_46) rfl
theorem q52_48 : pm_V d 52 48 [l0, l1, l2, l3, l4, l5, l6] (.int xi :: st) S Q = if xi = 0 then pm_V d 52 54 [l0, l1, l2, l3, l4, l5, l6] st S Q else pm_V d 52 51 [l0, l1, l2, l3, l4, l5, l6] st S Q := pv_if_eq (pm_cdi rfl dX5_sayOfSomeNext_48) rfl
theorem q52_51 : pm_V d 52 51 [l0, l1, l2, l3, l4, l5, .int xi] st S Q = pm_V d 52 53 [l0, l1, l2, l3, l4, l5, .int xi] (.int xi :: st) S Q := pv_iload (pm_cdi rfl dX5_sayOfSomeNext_51) rfl
theorem q52_53 : pm_V d 52 53 [l0, l1, l2, l3, l4, l5, l6] [.int xi] S Q = Q (some (.int xi)) S := pv_rI (pm_cdi rfl dX5_sayOfSomeNext_53) (by decide +kernel)
theorem q52_54 : pm_V d 52 54 [l0, l1, l2, l3, .int yi, .int xi, l6] st S Q = pm_V d 52 57 [l0, l1, l2, l3, .int yi, .int (xi + 1), l6] st S Q := pv_iinc (pm_cdi rfl dX5_sayOfSomeNext_54) rfl (by decide +kernel) rfl
theorem q52_57 : pm_V d 52 57 [l0, l1, l2, l3, l4, l5, l6] st S Q = pm_V d 52 3 [l0, l1, l2, l3, l4, l5, l6] st S Q := pv_goto (pm_cdi rfl dX5_sayOfSomeNext_57) rfl
theorem q52_60 : pm_V d 52 60 [l0, l1, l2, l3, l4, l5, l6] st S Q = pm_V d 52 61 [l0, l1, l2, l3, l4, l5, l6] (.int 0 :: st) S Q := pv_iconst (pm_cdi rfl dX5_sayOfSomeNext_60) (by decide +kernel)
theorem q52_61 : pm_V d 52 61 [l0, l1, l2, l3, l4, l5, l6] [.int xi] S Q = Q (some (.int xi)) S := pv_rI (pm_cdi rfl dX5_sayOfSomeNext_61) (by decide +kernel)
theorem q52_e : pm_N d 52 [.ref an, .ref v0n, .int v1i, .int v2i, .int v3i] S Q = pm_V d 52 0 [.ref an, .ref v0n, .int v1i, .int v2i, .int v3i, pm_j, pm_j] [] S Q := pv_ent (Nat.le_of_ble_eq_true rfl) rfl
/-! 53: ViewsJoins$Tests.answer(Z)I -/
theorem dX5_answer_0 : decode cX5_answer 0 = .ok (.iload_n 0, 1) := by decide +kernel
theorem dX5_answer_1 : decode cX5_answer 1 = .ok (.ifCond .eq 7, 3) := by decide +kernel
theorem dX5_answer_4 : decode cX5_answer 4 = .ok (.iconst 1, 1) := by decide +kernel
theorem dX5_answer_5 : decode cX5_answer 5 = .ok (.goto 4, 3) := by decide +kernel
theorem dX5_answer_8 : decode cX5_answer 8 = .ok (.iconst 0, 1) := by decide +kernel
theorem dX5_answer_9 : decode cX5_answer 9 = .ok (.ireturn, 1) := by decide +kernel
theorem q53_0 : pm_V d 53 0 [.int xi] st S Q = pm_V d 53 1 [.int xi] (.int xi :: st) S Q := pv_iload_n (pm_cdi rfl dX5_answer_0) rfl
theorem q53_1 : pm_V d 53 1 [l0] (.int xi :: st) S Q = if xi = 0 then pm_V d 53 8 [l0] st S Q else pm_V d 53 4 [l0] st S Q := pv_if_eq (pm_cdi rfl dX5_answer_1) rfl
theorem q53_4 : pm_V d 53 4 [l0] st S Q = pm_V d 53 5 [l0] (.int 1 :: st) S Q := pv_iconst (pm_cdi rfl dX5_answer_4) (by decide +kernel)
theorem q53_5 : pm_V d 53 5 [l0] st S Q = pm_V d 53 9 [l0] st S Q := pv_goto (pm_cdi rfl dX5_answer_5) rfl
theorem q53_8 : pm_V d 53 8 [l0] st S Q = pm_V d 53 9 [l0] (.int 0 :: st) S Q := pv_iconst (pm_cdi rfl dX5_answer_8) (by decide +kernel)
theorem q53_9 : pm_V d 53 9 [l0] [.int xi] S Q = Q (some (.int xi)) S := pv_rI (pm_cdi rfl dX5_answer_9) (by decide +kernel)
theorem q53_e : pm_N d 53 [.int v0i] S Q = pm_V d 53 0 [.int v0i] [] S Q := pv_ent (Nat.le_of_ble_eq_true rfl) rfl
/-! 54: ViewsJoins$Tests.begun(I)I -/
theorem dX5_begun_0 : decode cX5_begun 0 = .ok (.aload_n 0, 1) := by decide +kernel
theorem dX5_begun_1 : decode cX5_begun 1 = .ok (.dup, 1) := by decide +kernel
theorem dX5_begun_2 : decode cX5_begun 2 = .ok (.getfield 32, 3) := by decide +kernel
theorem dX5_begun_5 : decode cX5_begun 5 = .ok (.iconst 1, 1) := by decide +kernel
theorem dX5_begun_6 : decode cX5_begun 6 = .ok (.iadd, 1) := by decide +kernel
theorem dX5_begun_7 : decode cX5_begun 7 = .ok (.putfield 32, 3) := by decide +kernel
theorem dX5_begun_10 : decode cX5_begun 10 = .ok (.aload_n 0, 1) := by decide +kernel
theorem dX5_begun_11 : decode cX5_begun 11 = .ok (.getfield 32, 3) := by decide +kernel
theorem dX5_begun_14 : decode cX5_begun 14 = .ok (.bipush 8, 2) := by decide +kernel
theorem dX5_begun_16 : decode cX5_begun 16 = .ok (.if_icmp .le 8, 3) := by decide +kernel
theorem dX5_begun_19 : decode cX5_begun 19 = .ok (.bipush (-5), 2) := by decide +kernel
theorem dX5_begun_21 : decode cX5_begun 21 = .ok (.goto 5, 3) := by decide +kernel
theorem dX5_begun_24 : decode cX5_begun 24 = .ok (.iload_n 1, 1) := by decide +kernel
theorem dX5_begun_25 : decode cX5_begun 25 = .ok (.ineg, 1) := by decide +kernel
theorem dX5_begun_26 : decode cX5_begun 26 = .ok (.ireturn, 1) := by decide +kernel
theorem q54_0 : pm_V d 54 0 [.ref xn, l1] st S Q = pm_V d 54 1 [.ref xn, l1] (.ref xn :: st) S Q := pv_aload_n (pm_cdi rfl dX5_begun_0) rfl
theorem q54_1 : pm_V d 54 1 [l0, l1] (.ref xn :: st) S Q = pm_V d 54 2 [l0, l1] (.ref xn :: .ref xn :: st) S Q := pv_dupA (pm_cdi rfl dX5_begun_1)
theorem q54_2 (hs : pm_sh S an = .inr 5) : pm_V d 54 2 [l0, l1] (.ref an :: st) S Q = pm_V d 54 5 [l0, l1] (.int (pm_gi S an 6) :: st) S Q := pv_getI (pm_cdi rfl dX5_begun_2) (by decide +kernel) (by decide +kernel) (by decide +kernel) hs
theorem q54_5 : pm_V d 54 5 [l0, l1] st S Q = pm_V d 54 6 [l0, l1] (.int 1 :: st) S Q := pv_iconst (pm_cdi rfl dX5_begun_5) (by decide +kernel)
theorem q54_6 : pm_V d 54 6 [l0, l1] (.int yi :: .int xi :: st) S Q = pm_V d 54 7 [l0, l1] (.int (xi + yi) :: st) S Q := pv_iadd (pm_cdi rfl dX5_begun_6)
theorem q54_7 (hs : pm_sh S an = .inr 5) : pm_V d 54 7 [l0, l1] (.int xi :: .ref an :: st) S Q = pm_V d 54 10 [l0, l1] st (pm_sgi S an 6 xi) Q := pv_putI (pm_cdi rfl dX5_begun_7) (by decide +kernel) (by decide +kernel) (by decide +kernel) hs
theorem q54_10 : pm_V d 54 10 [.ref xn, l1] st S Q = pm_V d 54 11 [.ref xn, l1] (.ref xn :: st) S Q := pv_aload_n (pm_cdi rfl dX5_begun_10) rfl
theorem q54_11 (hs : pm_sh S an = .inr 5) : pm_V d 54 11 [l0, l1] (.ref an :: st) S Q = pm_V d 54 14 [l0, l1] (.int (pm_gi S an 6) :: st) S Q := pv_getI (pm_cdi rfl dX5_begun_11) (by decide +kernel) (by decide +kernel) (by decide +kernel) hs
theorem q54_14 : pm_V d 54 14 [l0, l1] st S Q = pm_V d 54 16 [l0, l1] (.int 8 :: st) S Q := pv_bipush (pm_cdi rfl dX5_begun_14) (by decide +kernel)
theorem q54_16 : pm_V d 54 16 [l0, l1] (.int yi :: .int xi :: st) S Q = if xi ≤ yi then pm_V d 54 24 [l0, l1] st S Q else pm_V d 54 19 [l0, l1] st S Q := pv_icmp_le (pm_cdi rfl dX5_begun_16) rfl
theorem q54_19 : pm_V d 54 19 [l0, l1] st S Q = pm_V d 54 21 [l0, l1] (.int (-5) :: st) S Q := pv_bipush (pm_cdi rfl dX5_begun_19) (by decide +kernel)
theorem q54_21 : pm_V d 54 21 [l0, l1] st S Q = pm_V d 54 26 [l0, l1] st S Q := pv_goto (pm_cdi rfl dX5_begun_21) rfl
theorem q54_24 : pm_V d 54 24 [l0, .int xi] st S Q = pm_V d 54 25 [l0, .int xi] (.int xi :: st) S Q := pv_iload_n (pm_cdi rfl dX5_begun_24) rfl
theorem q54_25 : pm_V d 54 25 [l0, l1] (.int xi :: st) S Q = pm_V d 54 26 [l0, l1] (.int (-xi) :: st) S Q := pv_ineg (pm_cdi rfl dX5_begun_25)
theorem q54_26 : pm_V d 54 26 [l0, l1] [.int xi] S Q = Q (some (.int xi)) S := pv_rI (pm_cdi rfl dX5_begun_26) (by decide +kernel)
theorem q54_e : pm_N d 54 [.ref an, .int v0i] S Q = pm_V d 54 0 [.ref an, .int v0i] [] S Q := pv_ent (Nat.le_of_ble_eq_true rfl) rfl
/-! 55: ViewsJoins.<init>()V -/
theorem dX6_init_0 : decode cX6_init 0 = .ok (.aload_n 0, 1) := by decide +kernel
theorem dX6_init_1 : decode cX6_init 1 = .ok (.invokespecial 1, 3) := by decide +kernel
theorem dX6_init_4 : decode cX6_init 4 = .ok (.aload_n 0, 1) := by decide +kernel
theorem dX6_init_5 : decode cX6_init 5 = .ok (.bipush 24, 2) := by decide +kernel
theorem dX6_init_7 : decode cX6_init 7 = .ok (.anewarray 9, 3) := by decide +kernel
theorem dX6_init_10 : decode cX6_init 10 = .ok (.putfield 11, 3) := by decide +kernel
theorem dX6_init_13 : decode cX6_init 13 = .ok (.aload_n 0, 1) := by decide +kernel
theorem dX6_init_14 : decode cX6_init 14 = .ok (.new 15, 3) := by decide +kernel
theorem dX6_init_17 : decode cX6_init 17 = .ok (.dup, 1) := by decide +kernel
theorem dX6_init_18 : decode cX6_init 18 = .ok (.invokespecial 17, 3) := by decide +kernel
theorem dX6_init_21 : decode cX6_init 21 = .ok (.putfield 18, 3) := by decide +kernel
theorem dX6_init_24 : decode cX6_init 24 = .ok (.aload_n 0, 1) := by decide +kernel
theorem dX6_init_25 : decode cX6_init 25 = .ok (.aload_n 0, 1) := by decide +kernel
theorem dX6_init_26 : decode cX6_init 26 = .ok (.getfield 18, 3) := by decide +kernel
theorem dX6_init_29 : decode cX6_init 29 = .ok (.getfield 22, 3) := by decide +kernel
theorem dX6_init_32 : decode cX6_init 32 = .ok (.putfield 26, 3) := by decide +kernel
theorem dX6_init_35 : decode cX6_init 35 = .ok (.aload_n 0, 1) := by decide +kernel
theorem dX6_init_36 : decode cX6_init 36 = .ok (.aload_n 0, 1) := by decide +kernel
theorem dX6_init_37 : decode cX6_init 37 = .ok (.getfield 18, 3) := by decide +kernel
theorem dX6_init_40 : decode cX6_init 40 = .ok (.getfield 27, 3) := by decide +kernel
theorem dX6_init_43 : decode cX6_init 43 = .ok (.putfield 31, 3) := by decide +kernel
theorem dX6_init_46 : decode cX6_init 46 = .ok (.aload_n 0, 1) := by decide +kernel
theorem dX6_init_47 : decode cX6_init 47 = .ok (.iconst 0, 1) := by decide +kernel
theorem dX6_init_48 : decode cX6_init 48 = .ok (.putfield 32, 3) := by decide +kernel
theorem dX6_init_51 : decode cX6_init 51 = .ok (.aload_n 0, 1) := by decide +kernel
theorem dX6_init_52 : decode cX6_init 52 = .ok (.iconst 1, 1) := by decide +kernel
theorem dX6_init_53 : decode cX6_init 53 = .ok (.putfield 36, 3) := by decide +kernel
theorem dX6_init_56 : decode cX6_init 56 = .ok (.aload_n 0, 1) := by decide +kernel
theorem dX6_init_57 : decode cX6_init 57 = .ok (.invokevirtual 39, 3) := by decide +kernel
theorem dX6_init_60 : decode cX6_init 60 = .ok (.return_, 1) := by decide +kernel
theorem q55_0 : pm_V d 55 0 [.ref xn] st S Q = pm_V d 55 1 [.ref xn] (.ref xn :: st) S Q := pv_aload_n (pm_cdi rfl dX6_init_0) rfl
theorem q55_1 : pm_V d 55 1 [l0] [.ref an] S Q = pm_V d 55 4 [l0] [] S Q := pv_obj (pm_cdi rfl dX6_init_1) (by decide +kernel) (Nat.le_of_ble_eq_true rfl)
theorem q55_4 : pm_V d 55 4 [.ref xn] st S Q = pm_V d 55 5 [.ref xn] (.ref xn :: st) S Q := pv_aload_n (pm_cdi rfl dX6_init_4) rfl
theorem q55_5 : pm_V d 55 5 [l0] st S Q = pm_V d 55 7 [l0] (.int 24 :: st) S Q := pv_bipush (pm_cdi rfl dX6_init_5) (by decide +kernel)
theorem q55_7 (h : 0 ≤ xi ∧ xi.toNatClampNeg ≤ 60000) : pm_V d 55 7 [l0] (.int xi :: st) S Q = pm_V d 55 10 [l0] (.ref (pm_nx S) :: st) (pm_mka S 4 xi.toNatClampNeg) Q := pv_newQ (pm_cdi rfl dX6_init_7) (by decide +kernel) h
theorem q55_10 (hs : pm_sh S an = .inr 6) : pm_V d 55 10 [l0] (.ref xn :: .ref an :: st) S Q = pm_V d 55 13 [l0] st (pm_sgr S an 0 (some xn)) Q := pv_putA (pm_cdi rfl dX6_init_10) (by decide +kernel) (by decide +kernel) (by decide +kernel) hs
theorem q55_10N (hs : pm_sh S an = .inr 6) : pm_V d 55 10 [l0] (.null :: .ref an :: st) S Q = pm_V d 55 13 [l0] st (pm_sgr S an 0 none) Q := pv_putN (pm_cdi rfl dX6_init_10) (by decide +kernel) (by decide +kernel) (by decide +kernel) hs
theorem q55_13 : pm_V d 55 13 [.ref xn] st S Q = pm_V d 55 14 [.ref xn] (.ref xn :: st) S Q := pv_aload_n (pm_cdi rfl dX6_init_13) rfl
theorem q55_14 : pm_V d 55 14 [l0] st S Q = pm_V d 55 17 [l0] (.ref (pm_nx S) :: st) (pm_mk S 4) Q := pv_new (pm_cdi rfl dX6_init_14) (by decide +kernel) (by decide +kernel)
theorem q55_17 : pm_V d 55 17 [l0] (.ref xn :: st) S Q = pm_V d 55 18 [l0] (.ref xn :: .ref xn :: st) S Q := pv_dupA (pm_cdi rfl dX6_init_17)
theorem q55_18 : pm_V (d + 1) 55 18 [l0] [.ref an, .ref r0n, .ref r1n] S Q = pm_N d 24 [.ref an] S (fun r S' => pm_V (d + 1) 55 21 [l0] (r.toList ++ [.ref r0n, .ref r1n]) S' Q) := pv_callI (as := []) (pm_cdi rfl dX6_init_18) (Or.inr (by decide +kernel)) (by decide +kernel) (show _ = _ from (by decide +kernel : 0 = pm_np 24)) rfl (Nat.le_of_ble_eq_true rfl)
theorem q55_21 (hs : pm_sh S an = .inr 6) : pm_V d 55 21 [l0] (.ref xn :: .ref an :: st) S Q = pm_V d 55 24 [l0] st (pm_sgr S an 1 (some xn)) Q := pv_putA (pm_cdi rfl dX6_init_21) (by decide +kernel) (by decide +kernel) (by decide +kernel) hs
theorem q55_21N (hs : pm_sh S an = .inr 6) : pm_V d 55 21 [l0] (.null :: .ref an :: st) S Q = pm_V d 55 24 [l0] st (pm_sgr S an 1 none) Q := pv_putN (pm_cdi rfl dX6_init_21) (by decide +kernel) (by decide +kernel) (by decide +kernel) hs
theorem q55_24 : pm_V d 55 24 [.ref xn] st S Q = pm_V d 55 25 [.ref xn] (.ref xn :: st) S Q := pv_aload_n (pm_cdi rfl dX6_init_24) rfl
theorem q55_25 : pm_V d 55 25 [.ref xn] st S Q = pm_V d 55 26 [.ref xn] (.ref xn :: st) S Q := pv_aload_n (pm_cdi rfl dX6_init_25) rfl
theorem q55_26 (hs : pm_sh S an = .inr 6) : pm_V d 55 26 [l0] (.ref an :: st) S Q = pm_V d 55 29 [l0] (va_rf (pm_gr S an 1) :: st) S Q := pv_getA (pm_cdi rfl dX6_init_26) (by decide +kernel) (by decide +kernel) (by decide +kernel) hs
theorem q55_29 (hs : pm_sh S an = .inr 4) : pm_V d 55 29 [l0] (.ref an :: st) S Q = pm_V d 55 32 [l0] (va_rf (pm_gr S an 0) :: st) S Q := pv_getA (pm_cdi rfl dX6_init_29) (by decide +kernel) (by decide +kernel) (by decide +kernel) hs
theorem q55_32 (hs : pm_sh S an = .inr 6) : pm_V d 55 32 [l0] (.ref xn :: .ref an :: st) S Q = pm_V d 55 35 [l0] st (pm_sgr S an 2 (some xn)) Q := pv_putA (pm_cdi rfl dX6_init_32) (by decide +kernel) (by decide +kernel) (by decide +kernel) hs
theorem q55_32N (hs : pm_sh S an = .inr 6) : pm_V d 55 32 [l0] (.null :: .ref an :: st) S Q = pm_V d 55 35 [l0] st (pm_sgr S an 2 none) Q := pv_putN (pm_cdi rfl dX6_init_32) (by decide +kernel) (by decide +kernel) (by decide +kernel) hs
theorem q55_35 : pm_V d 55 35 [.ref xn] st S Q = pm_V d 55 36 [.ref xn] (.ref xn :: st) S Q := pv_aload_n (pm_cdi rfl dX6_init_35) rfl
theorem q55_36 : pm_V d 55 36 [.ref xn] st S Q = pm_V d 55 37 [.ref xn] (.ref xn :: st) S Q := pv_aload_n (pm_cdi rfl dX6_init_36) rfl
theorem q55_37 (hs : pm_sh S an = .inr 6) : pm_V d 55 37 [l0] (.ref an :: st) S Q = pm_V d 55 40 [l0] (va_rf (pm_gr S an 1) :: st) S Q := pv_getA (pm_cdi rfl dX6_init_37) (by decide +kernel) (by decide +kernel) (by decide +kernel) hs
theorem q55_40 (hs : pm_sh S an = .inr 4) : pm_V d 55 40 [l0] (.ref an :: st) S Q = pm_V d 55 43 [l0] (va_rf (pm_gr S an 1) :: st) S Q := pv_getA (pm_cdi rfl dX6_init_40) (by decide +kernel) (by decide +kernel) (by decide +kernel) hs
theorem q55_43 (hs : pm_sh S an = .inr 6) : pm_V d 55 43 [l0] (.ref xn :: .ref an :: st) S Q = pm_V d 55 46 [l0] st (pm_sgr S an 3 (some xn)) Q := pv_putA (pm_cdi rfl dX6_init_43) (by decide +kernel) (by decide +kernel) (by decide +kernel) hs
theorem q55_43N (hs : pm_sh S an = .inr 6) : pm_V d 55 43 [l0] (.null :: .ref an :: st) S Q = pm_V d 55 46 [l0] st (pm_sgr S an 3 none) Q := pv_putN (pm_cdi rfl dX6_init_43) (by decide +kernel) (by decide +kernel) (by decide +kernel) hs
theorem q55_46 : pm_V d 55 46 [.ref xn] st S Q = pm_V d 55 47 [.ref xn] (.ref xn :: st) S Q := pv_aload_n (pm_cdi rfl dX6_init_46) rfl
theorem q55_47 : pm_V d 55 47 [l0] st S Q = pm_V d 55 48 [l0] (.int 0 :: st) S Q := pv_iconst (pm_cdi rfl dX6_init_47) (by decide +kernel)
theorem q55_48 (hs : pm_sh S an = .inr 6) : pm_V d 55 48 [l0] (.int xi :: .ref an :: st) S Q = pm_V d 55 51 [l0] st (pm_sgi S an 4 xi) Q := pv_putI (pm_cdi rfl dX6_init_48) (by decide +kernel) (by decide +kernel) (by decide +kernel) hs
theorem q55_51 : pm_V d 55 51 [.ref xn] st S Q = pm_V d 55 52 [.ref xn] (.ref xn :: st) S Q := pv_aload_n (pm_cdi rfl dX6_init_51) rfl
theorem q55_52 : pm_V d 55 52 [l0] st S Q = pm_V d 55 53 [l0] (.int 1 :: st) S Q := pv_iconst (pm_cdi rfl dX6_init_52) (by decide +kernel)
theorem q55_53 (hs : pm_sh S an = .inr 6) : pm_V d 55 53 [l0] (.int xi :: .ref an :: st) S Q = pm_V d 55 56 [l0] st (pm_sgi S an 5 xi) Q := pv_putI (pm_cdi rfl dX6_init_53) (by decide +kernel) (by decide +kernel) (by decide +kernel) hs
theorem q55_56 : pm_V d 55 56 [.ref xn] st S Q = pm_V d 55 57 [.ref xn] (.ref xn :: st) S Q := pv_aload_n (pm_cdi rfl dX6_init_56) rfl
theorem q55_57 (hs : pm_sh S an = .inr 6) : pm_V (d + 1) 55 57 [l0] [.ref an] S Q = pm_N d 74 [.ref an] S (fun r S' => pm_V (d + 1) 55 60 [l0] (r.toList ++ []) S' Q) := pv_callV (as := []) (pm_cdi rfl dX6_init_57) (Or.inl (by decide +kernel)) (by decide +kernel) (show _ = _ from (by decide +kernel : 0 = pm_np 74)) rfl (Nat.le_of_ble_eq_true rfl) (cl := 6) (by decide +kernel) hs
theorem q55_60 : pm_V d 55 60 [l0] [] S Q = Q none S := pv_rV (pm_cdi rfl dX6_init_60) (by decide +kernel)
theorem q55_e : pm_N d 55 [.ref an] S Q = pm_V d 55 0 [.ref an] [] S Q := pv_ent (Nat.le_of_ble_eq_true rfl) rfl
/-! 56: ViewsJoins.graph(I)I -/
theorem dX6_graph_0 : decode cX6_graph 0 = .ok (.iload_n 1, 1) := by decide +kernel
theorem dX6_graph_1 : decode cX6_graph 1 = .ok (.iconst 1, 1) := by decide +kernel
theorem dX6_graph_2 : decode cX6_graph 2 = .ok (.if_icmp .lt 9, 3) := by decide +kernel
theorem dX6_graph_5 : decode cX6_graph 5 = .ok (.iload_n 1, 1) := by decide +kernel
theorem dX6_graph_6 : decode cX6_graph 6 = .ok (.bipush 12, 2) := by decide +kernel
theorem dX6_graph_8 : decode cX6_graph 8 = .ok (.if_icmp .le 6, 3) := by decide +kernel
theorem dX6_graph_11 : decode cX6_graph 11 = .ok (.ldc 42, 2) := by decide +kernel
theorem dX6_graph_13 : decode cX6_graph 13 = .ok (.ireturn, 1) := by decide +kernel
theorem dX6_graph_14 : decode cX6_graph 14 = .ok (.aload_n 0, 1) := by decide +kernel
theorem dX6_graph_15 : decode cX6_graph 15 = .ok (.invokevirtual 43, 3) := by decide +kernel
theorem dX6_graph_18 : decode cX6_graph 18 = .ok (.astore_n 2, 1) := by decide +kernel
theorem dX6_graph_19 : decode cX6_graph 19 = .ok (.aload_n 2, 1) := by decide +kernel
theorem dX6_graph_20 : decode cX6_graph 20 = .ok (.ifnonnull 6, 3) := by decide +kernel
theorem dX6_graph_23 : decode cX6_graph 23 = .ok (.ldc 47, 2) := by decide +kernel
theorem dX6_graph_25 : decode cX6_graph 25 = .ok (.ireturn, 1) := by decide +kernel
theorem dX6_graph_26 : decode cX6_graph 26 = .ok (.aload_n 2, 1) := by decide +kernel
theorem dX6_graph_27 : decode cX6_graph 27 = .ok (.iconst 0, 1) := by decide +kernel
theorem dX6_graph_28 : decode cX6_graph 28 = .ok (.aconst_null, 1) := by decide +kernel
theorem dX6_graph_29 : decode cX6_graph 29 = .ok (.aconst_null, 1) := by decide +kernel
theorem dX6_graph_30 : decode cX6_graph 30 = .ok (.invokevirtual 48, 3) := by decide +kernel
theorem dX6_graph_33 : decode cX6_graph 33 = .ok (.iconst 0, 1) := by decide +kernel
theorem dX6_graph_34 : decode cX6_graph 34 = .ok (.istore_n 3, 1) := by decide +kernel
theorem dX6_graph_35 : decode cX6_graph 35 = .ok (.iload_n 3, 1) := by decide +kernel
theorem dX6_graph_36 : decode cX6_graph 36 = .ok (.iload_n 1, 1) := by decide +kernel
theorem dX6_graph_37 : decode cX6_graph 37 = .ok (.if_icmp .ge 16, 3) := by decide +kernel
theorem dX6_graph_40 : decode cX6_graph 40 = .ok (.aload_n 2, 1) := by decide +kernel
theorem dX6_graph_41 : decode cX6_graph 41 = .ok (.lconst 0, 1) := by decide +kernel
theorem dX6_graph_42 : decode cX6_graph 42 = .ok (.iconst (-1), 1) := by decide +kernel
theorem dX6_graph_43 : decode cX6_graph 43 = .ok (.iconst (-1), 1) := by decide +kernel
theorem dX6_graph_44 : decode cX6_graph 44 = .ok (.invokevirtual 52, 3) := by decide +kernel
theorem dX6_graph_47 : decode cX6_graph 47 = .ok (.iinc 3 1, 3) := by decide +kernel
theorem dX6_graph_50 : decode cX6_graph 50 = .ok (.goto (-15), 3) := by decide +kernel
theorem dX6_graph_53 : decode cX6_graph 53 = .ok (.aload_n 0, 1) := by decide +kernel
theorem dX6_graph_54 : decode cX6_graph 54 = .ok (.getfield 32, 3) := by decide +kernel
theorem dX6_graph_57 : decode cX6_graph 57 = .ok (.iconst 1, 1) := by decide +kernel
theorem dX6_graph_58 : decode cX6_graph 58 = .ok (.isub, 1) := by decide +kernel
theorem dX6_graph_59 : decode cX6_graph 59 = .ok (.ireturn, 1) := by decide +kernel
theorem q56_0 : pm_V d 56 0 [l0, .int xi, l2, l3] st S Q = pm_V d 56 1 [l0, .int xi, l2, l3] (.int xi :: st) S Q := pv_iload_n (pm_cdi rfl dX6_graph_0) rfl
theorem q56_1 : pm_V d 56 1 [l0, l1, l2, l3] st S Q = pm_V d 56 2 [l0, l1, l2, l3] (.int 1 :: st) S Q := pv_iconst (pm_cdi rfl dX6_graph_1) (by decide +kernel)
theorem q56_2 : pm_V d 56 2 [l0, l1, l2, l3] (.int yi :: .int xi :: st) S Q = if xi < yi then pm_V d 56 11 [l0, l1, l2, l3] st S Q else pm_V d 56 5 [l0, l1, l2, l3] st S Q := pv_icmp_lt (pm_cdi rfl dX6_graph_2) rfl
theorem q56_5 : pm_V d 56 5 [l0, .int xi, l2, l3] st S Q = pm_V d 56 6 [l0, .int xi, l2, l3] (.int xi :: st) S Q := pv_iload_n (pm_cdi rfl dX6_graph_5) rfl
theorem q56_6 : pm_V d 56 6 [l0, l1, l2, l3] st S Q = pm_V d 56 8 [l0, l1, l2, l3] (.int 12 :: st) S Q := pv_bipush (pm_cdi rfl dX6_graph_6) (by decide +kernel)
theorem q56_8 : pm_V d 56 8 [l0, l1, l2, l3] (.int yi :: .int xi :: st) S Q = if xi ≤ yi then pm_V d 56 14 [l0, l1, l2, l3] st S Q else pm_V d 56 11 [l0, l1, l2, l3] st S Q := pv_icmp_le (pm_cdi rfl dX6_graph_8) rfl
theorem q56_11 : pm_V d 56 11 [l0, l1, l2, l3] st S Q = pm_V d 56 13 [l0, l1, l2, l3] (.int (-1000001) :: st) S Q := pv_ldc (pm_cdi rfl dX6_graph_11) (by decide +kernel)
theorem q56_13 : pm_V d 56 13 [l0, l1, l2, l3] [.int xi] S Q = Q (some (.int xi)) S := pv_rI (pm_cdi rfl dX6_graph_13) (by decide +kernel)
theorem q56_14 : pm_V d 56 14 [.ref xn, l1, l2, l3] st S Q = pm_V d 56 15 [.ref xn, l1, l2, l3] (.ref xn :: st) S Q := pv_aload_n (pm_cdi rfl dX6_graph_14) rfl
theorem q56_15 (hs : pm_sh S an = .inr 6) : pm_V (d + 1) 56 15 [l0, l1, l2, l3] [.ref an] S Q = pm_N d 76 [.ref an] S (fun r S' => pm_V (d + 1) 56 18 [l0, l1, l2, l3] (r.toList ++ []) S' Q) := pv_callV (as := []) (pm_cdi rfl dX6_graph_15) (Or.inl (by decide +kernel)) (by decide +kernel) (show _ = _ from (by decide +kernel : 0 = pm_np 76)) rfl (Nat.le_of_ble_eq_true rfl) (cl := 6) (by decide +kernel) hs
theorem q56_18 : pm_V d 56 18 [l0, .int yi, l2, l3] (.ref xn :: st) S Q = pm_V d 56 19 [l0, .int yi, .ref xn, l3] st S Q := pv_astore_n (pm_cdi rfl dX6_graph_18) rfl
theorem q56_18N : pm_V d 56 18 [l0, .int yi, l2, l3] (.null :: st) S Q = pm_V d 56 19 [l0, .int yi, .null, l3] st S Q := pv_astore_nN (pm_cdi rfl dX6_graph_18) rfl
theorem q56_19 : pm_V d 56 19 [l0, l1, .ref xn, l3] st S Q = pm_V d 56 20 [l0, l1, .ref xn, l3] (.ref xn :: st) S Q := pv_aload_n (pm_cdi rfl dX6_graph_19) rfl
theorem q56_19N : pm_V d 56 19 [l0, l1, .null, l3] st S Q = pm_V d 56 20 [l0, l1, .null, l3] (.null :: st) S Q := pv_aload_nN (pm_cdi rfl dX6_graph_19) rfl
theorem q56_20 : pm_V d 56 20 [l0, l1, l2, l3] (.ref xn :: st) S Q = pm_V d 56 26 [l0, l1, l2, l3] st S Q := pv_ifnonA (pm_cdi rfl dX6_graph_20) rfl
theorem q56_20N : pm_V d 56 20 [l0, l1, l2, l3] (.null :: st) S Q = pm_V d 56 23 [l0, l1, l2, l3] st S Q := pv_ifnonN (pm_cdi rfl dX6_graph_20)
theorem q56_23 : pm_V d 56 23 [l0, l1, l2, l3] st S Q = pm_V d 56 25 [l0, l1, l2, l3] (.int (-1000002) :: st) S Q := pv_ldc (pm_cdi rfl dX6_graph_23) (by decide +kernel)
theorem q56_25 : pm_V d 56 25 [l0, l1, l2, l3] [.int xi] S Q = Q (some (.int xi)) S := pv_rI (pm_cdi rfl dX6_graph_25) (by decide +kernel)
theorem q56_26 : pm_V d 56 26 [l0, l1, .ref xn, l3] st S Q = pm_V d 56 27 [l0, l1, .ref xn, l3] (.ref xn :: st) S Q := pv_aload_n (pm_cdi rfl dX6_graph_26) rfl
theorem q56_26N : pm_V d 56 26 [l0, l1, .null, l3] st S Q = pm_V d 56 27 [l0, l1, .null, l3] (.null :: st) S Q := pv_aload_nN (pm_cdi rfl dX6_graph_26) rfl
theorem q56_27 : pm_V d 56 27 [l0, l1, l2, l3] st S Q = pm_V d 56 28 [l0, l1, l2, l3] (.int 0 :: st) S Q := pv_iconst (pm_cdi rfl dX6_graph_27) (by decide +kernel)
theorem q56_28 : pm_V d 56 28 [l0, l1, l2, l3] st S Q = pm_V d 56 29 [l0, l1, l2, l3] (.null :: st) S Q := pv_null (pm_cdi rfl dX6_graph_28)
theorem q56_29 : pm_V d 56 29 [l0, l1, l2, l3] st S Q = pm_V d 56 30 [l0, l1, l2, l3] (.null :: st) S Q := pv_null (pm_cdi rfl dX6_graph_29)
theorem q56_30 (hs : pm_sh S an = .inr 0) : pm_V (d + 1) 56 30 [l0, l1, l2, l3] [v2v, v1v, .int v0i, .ref an] S Q = pm_N d 1 [.ref an, .int v0i, v1v, v2v] S (fun r S' => pm_V (d + 1) 56 33 [l0, l1, l2, l3] (r.toList ++ []) S' Q) := pv_callV (as := [.int v0i, v1v, v2v]) (pm_cdi rfl dX6_graph_30) (Or.inl (by decide +kernel)) (by decide +kernel) (show _ = _ from (by decide +kernel : 3 = pm_np 1)) rfl (Nat.le_of_ble_eq_true rfl) (cl := 0) (by decide +kernel) hs
theorem q56_33 : pm_V d 56 33 [l0, l1, l2, l3] st S Q = pm_V d 56 34 [l0, l1, l2, l3] (.int 0 :: st) S Q := pv_iconst (pm_cdi rfl dX6_graph_33) (by decide +kernel)
theorem q56_34 : pm_V d 56 34 [l0, l1, .ref yn, l3] (.int xi :: st) S Q = pm_V d 56 35 [l0, l1, .ref yn, .int xi] st S Q := pv_istore_n (pm_cdi rfl dX6_graph_34) rfl
theorem q56_35 : pm_V d 56 35 [l0, l1, l2, .int xi] st S Q = pm_V d 56 36 [l0, l1, l2, .int xi] (.int xi :: st) S Q := pv_iload_n (pm_cdi rfl dX6_graph_35) rfl
theorem q56_36 : pm_V d 56 36 [l0, .int xi, l2, l3] st S Q = pm_V d 56 37 [l0, .int xi, l2, l3] (.int xi :: st) S Q := pv_iload_n (pm_cdi rfl dX6_graph_36) rfl
theorem q56_37 : pm_V d 56 37 [l0, l1, l2, l3] (.int yi :: .int xi :: st) S Q = if xi < yi then pm_V d 56 40 [l0, l1, l2, l3] st S Q else pm_V d 56 53 [l0, l1, l2, l3] st S Q := pv_icmp_ge (pm_cdi rfl dX6_graph_37) rfl
theorem q56_40 : pm_V d 56 40 [l0, l1, .ref xn, l3] st S Q = pm_V d 56 41 [l0, l1, .ref xn, l3] (.ref xn :: st) S Q := pv_aload_n (pm_cdi rfl dX6_graph_40) rfl
theorem q56_40N : pm_V d 56 40 [l0, l1, .null, l3] st S Q = pm_V d 56 41 [l0, l1, .null, l3] (.null :: st) S Q := pv_aload_nN (pm_cdi rfl dX6_graph_40) rfl
theorem q56_41 : pm_V d 56 41 [l0, l1, l2, l3] st S Q = pm_V d 56 42 [l0, l1, l2, l3] (.long 0 :: st) S Q := pv_lconst (pm_cdi rfl dX6_graph_41) (by decide +kernel)
theorem q56_42 : pm_V d 56 42 [l0, l1, l2, l3] st S Q = pm_V d 56 43 [l0, l1, l2, l3] (.int (-1) :: st) S Q := pv_iconst (pm_cdi rfl dX6_graph_42) (by decide +kernel)
theorem q56_43 : pm_V d 56 43 [l0, l1, l2, l3] st S Q = pm_V d 56 44 [l0, l1, l2, l3] (.int (-1) :: st) S Q := pv_iconst (pm_cdi rfl dX6_graph_43) (by decide +kernel)
theorem q56_44 (hs : pm_sh S an = .inr 0) : pm_V (d + 1) 56 44 [l0, l1, l2, l3] [.int v2i, .int v1i, .long v0j, .ref an] S Q = pm_N d 6 [.ref an, .long v0j, .int v1i, .int v2i] S (fun r S' => pm_V (d + 1) 56 47 [l0, l1, l2, l3] (r.toList ++ []) S' Q) := pv_callV (as := [.long v0j, .int v1i, .int v2i]) (pm_cdi rfl dX6_graph_44) (Or.inl (by decide +kernel)) (by decide +kernel) (show _ = _ from (by decide +kernel : 3 = pm_np 6)) rfl (Nat.le_of_ble_eq_true rfl) (cl := 0) (by decide +kernel) hs
theorem q56_47 : pm_V d 56 47 [l0, l1, .ref yn, .int xi] st S Q = pm_V d 56 50 [l0, l1, .ref yn, .int (xi + 1)] st S Q := pv_iinc (pm_cdi rfl dX6_graph_47) rfl (by decide +kernel) rfl
theorem q56_50 : pm_V d 56 50 [l0, l1, l2, l3] st S Q = pm_V d 56 35 [l0, l1, l2, l3] st S Q := pv_goto (pm_cdi rfl dX6_graph_50) rfl
theorem q56_53 : pm_V d 56 53 [.ref xn, l1, l2, l3] st S Q = pm_V d 56 54 [.ref xn, l1, l2, l3] (.ref xn :: st) S Q := pv_aload_n (pm_cdi rfl dX6_graph_53) rfl
theorem q56_54 (hs : pm_sh S an = .inr 6) : pm_V d 56 54 [l0, l1, l2, l3] (.ref an :: st) S Q = pm_V d 56 57 [l0, l1, l2, l3] (.int (pm_gi S an 4) :: st) S Q := pv_getI (pm_cdi rfl dX6_graph_54) (by decide +kernel) (by decide +kernel) (by decide +kernel) hs
theorem q56_57 : pm_V d 56 57 [l0, l1, l2, l3] st S Q = pm_V d 56 58 [l0, l1, l2, l3] (.int 1 :: st) S Q := pv_iconst (pm_cdi rfl dX6_graph_57) (by decide +kernel)
theorem q56_58 : pm_V d 56 58 [l0, l1, l2, l3] (.int yi :: .int xi :: st) S Q = pm_V d 56 59 [l0, l1, l2, l3] (.int (xi - yi) :: st) S Q := pv_isub (pm_cdi rfl dX6_graph_58)
theorem q56_59 : pm_V d 56 59 [l0, l1, l2, l3] [.int xi] S Q = Q (some (.int xi)) S := pv_rI (pm_cdi rfl dX6_graph_59) (by decide +kernel)
theorem q56_e : pm_N d 56 [.ref an, .int v0i] S Q = pm_V d 56 0 [.ref an, .int v0i, pm_j, pm_j] [] S Q := pv_ent (Nat.le_of_ble_eq_true rfl) rfl
/-! 57: ViewsJoins.arc(IIIJ)I -/
theorem dX6_arc_0 : decode cX6_arc 0 = .ok (.aload_n 0, 1) := by decide +kernel
theorem dX6_arc_1 : decode cX6_arc 1 = .ok (.iload_n 1, 1) := by decide +kernel
theorem dX6_arc_2 : decode cX6_arc 2 = .ok (.invokevirtual 56, 3) := by decide +kernel
theorem dX6_arc_5 : decode cX6_arc 5 = .ok (.astore 6, 2) := by decide +kernel
theorem dX6_arc_7 : decode cX6_arc 7 = .ok (.aload 6, 2) := by decide +kernel
theorem dX6_arc_9 : decode cX6_arc 9 = .ok (.ifnull 35, 3) := by decide +kernel
theorem dX6_arc_12 : decode cX6_arc 12 = .ok (.aload 6, 2) := by decide +kernel
theorem dX6_arc_14 : decode cX6_arc 14 = .ok (.getfield 60, 3) := by decide +kernel
theorem dX6_arc_17 : decode cX6_arc 17 = .ok (.ifCond .ne 27, 3) := by decide +kernel
theorem dX6_arc_20 : decode cX6_arc 20 = .ok (.aload 6, 2) := by decide +kernel
theorem dX6_arc_22 : decode cX6_arc 22 = .ok (.getfield 63, 3) := by decide +kernel
theorem dX6_arc_25 : decode cX6_arc 25 = .ok (.iload_n 2, 1) := by decide +kernel
theorem dX6_arc_26 : decode cX6_arc 26 = .ok (.invokevirtual 67, 3) := by decide +kernel
theorem dX6_arc_29 : decode cX6_arc 29 = .ok (.ifCond .eq 15, 3) := by decide +kernel
theorem dX6_arc_32 : decode cX6_arc 32 = .ok (.aload 6, 2) := by decide +kernel
theorem dX6_arc_34 : decode cX6_arc 34 = .ok (.getfield 63, 3) := by decide +kernel
theorem dX6_arc_37 : decode cX6_arc 37 = .ok (.iload_n 3, 1) := by decide +kernel
theorem dX6_arc_38 : decode cX6_arc 38 = .ok (.invokevirtual 67, 3) := by decide +kernel
theorem dX6_arc_41 : decode cX6_arc 41 = .ok (.ifCond .ne 6, 3) := by decide +kernel
theorem dX6_arc_44 : decode cX6_arc 44 = .ok (.ldc 42, 2) := by decide +kernel
theorem dX6_arc_46 : decode cX6_arc 46 = .ok (.ireturn, 1) := by decide +kernel
theorem dX6_arc_47 : decode cX6_arc 47 = .ok (.aload 6, 2) := by decide +kernel
theorem dX6_arc_49 : decode cX6_arc 49 = .ok (.getfield 73, 3) := by decide +kernel
theorem dX6_arc_52 : decode cX6_arc 52 = .ok (.getfield 76, 3) := by decide +kernel
theorem dX6_arc_55 : decode cX6_arc 55 = .ok (.bipush 30, 2) := by decide +kernel
theorem dX6_arc_57 : decode cX6_arc 57 = .ok (.if_icmp .lt 6, 3) := by decide +kernel
theorem dX6_arc_60 : decode cX6_arc 60 = .ok (.ldc 47, 2) := by decide +kernel
theorem dX6_arc_62 : decode cX6_arc 62 = .ok (.ireturn, 1) := by decide +kernel
theorem dX6_arc_63 : decode cX6_arc 63 = .ok (.aload 6, 2) := by decide +kernel
theorem dX6_arc_65 : decode cX6_arc 65 = .ok (.iload_n 2, 1) := by decide +kernel
theorem dX6_arc_66 : decode cX6_arc 66 = .ok (.iload_n 3, 1) := by decide +kernel
theorem dX6_arc_67 : decode cX6_arc 67 = .ok (.lload 4, 2) := by decide +kernel
theorem dX6_arc_69 : decode cX6_arc 69 = .ok (.iconst (-1), 1) := by decide +kernel
theorem dX6_arc_70 : decode cX6_arc 70 = .ok (.iconst (-1), 1) := by decide +kernel
theorem dX6_arc_71 : decode cX6_arc 71 = .ok (.invokevirtual 79, 3) := by decide +kernel
theorem dX6_arc_74 : decode cX6_arc 74 = .ok (.aload_n 0, 1) := by decide +kernel
theorem dX6_arc_75 : decode cX6_arc 75 = .ok (.dup, 1) := by decide +kernel
theorem dX6_arc_76 : decode cX6_arc 76 = .ok (.getfield 36, 3) := by decide +kernel
theorem dX6_arc_79 : decode cX6_arc 79 = .ok (.iconst 1, 1) := by decide +kernel
theorem dX6_arc_80 : decode cX6_arc 80 = .ok (.iadd, 1) := by decide +kernel
theorem dX6_arc_81 : decode cX6_arc 81 = .ok (.putfield 36, 3) := by decide +kernel
theorem dX6_arc_84 : decode cX6_arc 84 = .ok (.aload 6, 2) := by decide +kernel
theorem dX6_arc_86 : decode cX6_arc 86 = .ok (.getfield 73, 3) := by decide +kernel
theorem dX6_arc_89 : decode cX6_arc 89 = .ok (.getfield 76, 3) := by decide +kernel
theorem dX6_arc_92 : decode cX6_arc 92 = .ok (.iconst 1, 1) := by decide +kernel
theorem dX6_arc_93 : decode cX6_arc 93 = .ok (.isub, 1) := by decide +kernel
theorem dX6_arc_94 : decode cX6_arc 94 = .ok (.ireturn, 1) := by decide +kernel
theorem q57_0 : pm_V d 57 0 [.ref xn, l1, l2, l3, l4, l5, l6] st S Q = pm_V d 57 1 [.ref xn, l1, l2, l3, l4, l5, l6] (.ref xn :: st) S Q := pv_aload_n (pm_cdi rfl dX6_arc_0) rfl
theorem q57_1 : pm_V d 57 1 [l0, .int xi, l2, l3, l4, l5, l6] st S Q = pm_V d 57 2 [l0, .int xi, l2, l3, l4, l5, l6] (.int xi :: st) S Q := pv_iload_n (pm_cdi rfl dX6_arc_1) rfl
theorem q57_2 (hs : pm_sh S an = .inr 6) : pm_V (d + 1) 57 2 [l0, l1, l2, l3, l4, l5, l6] [.int v0i, .ref an] S Q = pm_N d 75 [.ref an, .int v0i] S (fun r S' => pm_V (d + 1) 57 5 [l0, l1, l2, l3, l4, l5, l6] (r.toList ++ []) S' Q) := pv_callV (as := [.int v0i]) (pm_cdi rfl dX6_arc_2) (Or.inl (by decide +kernel)) (by decide +kernel) (show _ = _ from (by decide +kernel : 1 = pm_np 75)) rfl (Nat.le_of_ble_eq_true rfl) (cl := 6) (by decide +kernel) hs
theorem q57_5 : pm_V d 57 5 [l0, l1, l2, l3, l4, pm_j, l6] (.ref xn :: st) S Q = pm_V d 57 7 [l0, l1, l2, l3, l4, pm_j, .ref xn] st S Q := pv_astore (pm_cdi rfl dX6_arc_5) rfl
theorem q57_5N : pm_V d 57 5 [l0, l1, l2, l3, l4, pm_j, l6] (.null :: st) S Q = pm_V d 57 7 [l0, l1, l2, l3, l4, pm_j, .null] st S Q := pv_astoreN (pm_cdi rfl dX6_arc_5) rfl
theorem q57_7 : pm_V d 57 7 [l0, l1, l2, l3, l4, l5, .ref xn] st S Q = pm_V d 57 9 [l0, l1, l2, l3, l4, l5, .ref xn] (.ref xn :: st) S Q := pv_aload (pm_cdi rfl dX6_arc_7) rfl
theorem q57_7N : pm_V d 57 7 [l0, l1, l2, l3, l4, l5, .null] st S Q = pm_V d 57 9 [l0, l1, l2, l3, l4, l5, .null] (.null :: st) S Q := pv_aloadN (pm_cdi rfl dX6_arc_7) rfl
theorem q57_9 : pm_V d 57 9 [l0, l1, l2, l3, l4, l5, l6] (.ref xn :: st) S Q = pm_V d 57 12 [l0, l1, l2, l3, l4, l5, l6] st S Q := pv_ifnullA (pm_cdi rfl dX6_arc_9)
theorem q57_9N : pm_V d 57 9 [l0, l1, l2, l3, l4, l5, l6] (.null :: st) S Q = pm_V d 57 44 [l0, l1, l2, l3, l4, l5, l6] st S Q := pv_ifnullN (pm_cdi rfl dX6_arc_9) rfl
theorem q57_12 : pm_V d 57 12 [l0, l1, l2, l3, l4, l5, .ref xn] st S Q = pm_V d 57 14 [l0, l1, l2, l3, l4, l5, .ref xn] (.ref xn :: st) S Q := pv_aload (pm_cdi rfl dX6_arc_12) rfl
theorem q57_12N : pm_V d 57 12 [l0, l1, l2, l3, l4, l5, .null] st S Q = pm_V d 57 14 [l0, l1, l2, l3, l4, l5, .null] (.null :: st) S Q := pv_aloadN (pm_cdi rfl dX6_arc_12) rfl
theorem q57_14 (hs : pm_sh S an = .inr 0) : pm_V d 57 14 [l0, l1, l2, l3, l4, l5, l6] (.ref an :: st) S Q = pm_V d 57 17 [l0, l1, l2, l3, l4, l5, l6] (.int (pm_gi S an 6) :: st) S Q := pv_getI (pm_cdi rfl dX6_arc_14) (by decide +kernel) (by decide +kernel) (by decide +kernel) hs
theorem q57_17 : pm_V d 57 17 [l0, l1, l2, l3, l4, l5, l6] (.int xi :: st) S Q = if xi = 0 then pm_V d 57 20 [l0, l1, l2, l3, l4, l5, l6] st S Q else pm_V d 57 44 [l0, l1, l2, l3, l4, l5, l6] st S Q := pv_if_ne (pm_cdi rfl dX6_arc_17) rfl
theorem q57_20 : pm_V d 57 20 [l0, l1, l2, l3, l4, l5, .ref xn] st S Q = pm_V d 57 22 [l0, l1, l2, l3, l4, l5, .ref xn] (.ref xn :: st) S Q := pv_aload (pm_cdi rfl dX6_arc_20) rfl
theorem q57_20N : pm_V d 57 20 [l0, l1, l2, l3, l4, l5, .null] st S Q = pm_V d 57 22 [l0, l1, l2, l3, l4, l5, .null] (.null :: st) S Q := pv_aloadN (pm_cdi rfl dX6_arc_20) rfl
theorem q57_22 (hs : pm_sh S an = .inr 0) : pm_V d 57 22 [l0, l1, l2, l3, l4, l5, l6] (.ref an :: st) S Q = pm_V d 57 25 [l0, l1, l2, l3, l4, l5, l6] (va_rf (pm_gr S an 0) :: st) S Q := pv_getA (pm_cdi rfl dX6_arc_22) (by decide +kernel) (by decide +kernel) (by decide +kernel) hs
theorem q57_25 : pm_V d 57 25 [l0, l1, .int xi, l3, l4, l5, l6] st S Q = pm_V d 57 26 [l0, l1, .int xi, l3, l4, l5, l6] (.int xi :: st) S Q := pv_iload_n (pm_cdi rfl dX6_arc_25) rfl
theorem q57_26 (hs : pm_sh S an = .inr 3) : pm_V (d + 1) 57 26 [l0, l1, l2, l3, l4, l5, l6] [.int v0i, .ref an] S Q = pm_N d 20 [.ref an, .int v0i] S (fun r S' => pm_V (d + 1) 57 29 [l0, l1, l2, l3, l4, l5, l6] (r.toList ++ []) S' Q) := pv_callV (as := [.int v0i]) (pm_cdi rfl dX6_arc_26) (Or.inl (by decide +kernel)) (by decide +kernel) (show _ = _ from (by decide +kernel : 1 = pm_np 20)) rfl (Nat.le_of_ble_eq_true rfl) (cl := 3) (by decide +kernel) hs
theorem q57_29 : pm_V d 57 29 [l0, l1, l2, l3, l4, l5, l6] (.int xi :: st) S Q = if xi = 0 then pm_V d 57 44 [l0, l1, l2, l3, l4, l5, l6] st S Q else pm_V d 57 32 [l0, l1, l2, l3, l4, l5, l6] st S Q := pv_if_eq (pm_cdi rfl dX6_arc_29) rfl
theorem q57_32 : pm_V d 57 32 [l0, l1, l2, l3, l4, l5, .ref xn] st S Q = pm_V d 57 34 [l0, l1, l2, l3, l4, l5, .ref xn] (.ref xn :: st) S Q := pv_aload (pm_cdi rfl dX6_arc_32) rfl
theorem q57_32N : pm_V d 57 32 [l0, l1, l2, l3, l4, l5, .null] st S Q = pm_V d 57 34 [l0, l1, l2, l3, l4, l5, .null] (.null :: st) S Q := pv_aloadN (pm_cdi rfl dX6_arc_32) rfl
theorem q57_34 (hs : pm_sh S an = .inr 0) : pm_V d 57 34 [l0, l1, l2, l3, l4, l5, l6] (.ref an :: st) S Q = pm_V d 57 37 [l0, l1, l2, l3, l4, l5, l6] (va_rf (pm_gr S an 0) :: st) S Q := pv_getA (pm_cdi rfl dX6_arc_34) (by decide +kernel) (by decide +kernel) (by decide +kernel) hs
theorem q57_37 : pm_V d 57 37 [l0, l1, l2, .int xi, l4, l5, l6] st S Q = pm_V d 57 38 [l0, l1, l2, .int xi, l4, l5, l6] (.int xi :: st) S Q := pv_iload_n (pm_cdi rfl dX6_arc_37) rfl
theorem q57_38 (hs : pm_sh S an = .inr 3) : pm_V (d + 1) 57 38 [l0, l1, l2, l3, l4, l5, l6] [.int v0i, .ref an] S Q = pm_N d 20 [.ref an, .int v0i] S (fun r S' => pm_V (d + 1) 57 41 [l0, l1, l2, l3, l4, l5, l6] (r.toList ++ []) S' Q) := pv_callV (as := [.int v0i]) (pm_cdi rfl dX6_arc_38) (Or.inl (by decide +kernel)) (by decide +kernel) (show _ = _ from (by decide +kernel : 1 = pm_np 20)) rfl (Nat.le_of_ble_eq_true rfl) (cl := 3) (by decide +kernel) hs
theorem q57_41 : pm_V d 57 41 [l0, l1, l2, l3, l4, l5, l6] (.int xi :: st) S Q = if xi = 0 then pm_V d 57 44 [l0, l1, l2, l3, l4, l5, l6] st S Q else pm_V d 57 47 [l0, l1, l2, l3, l4, l5, l6] st S Q := pv_if_ne (pm_cdi rfl dX6_arc_41) rfl
theorem q57_44 : pm_V d 57 44 [l0, l1, l2, l3, l4, l5, l6] st S Q = pm_V d 57 46 [l0, l1, l2, l3, l4, l5, l6] (.int (-1000001) :: st) S Q := pv_ldc (pm_cdi rfl dX6_arc_44) (by decide +kernel)
theorem q57_46 : pm_V d 57 46 [l0, l1, l2, l3, l4, l5, l6] [.int xi] S Q = Q (some (.int xi)) S := pv_rI (pm_cdi rfl dX6_arc_46) (by decide +kernel)
theorem q57_47 : pm_V d 57 47 [l0, l1, l2, l3, l4, l5, .ref xn] st S Q = pm_V d 57 49 [l0, l1, l2, l3, l4, l5, .ref xn] (.ref xn :: st) S Q := pv_aload (pm_cdi rfl dX6_arc_47) rfl
theorem q57_47N : pm_V d 57 47 [l0, l1, l2, l3, l4, l5, .null] st S Q = pm_V d 57 49 [l0, l1, l2, l3, l4, l5, .null] (.null :: st) S Q := pv_aloadN (pm_cdi rfl dX6_arc_47) rfl
theorem q57_49 (hs : pm_sh S an = .inr 0) : pm_V d 57 49 [l0, l1, l2, l3, l4, l5, l6] (.ref an :: st) S Q = pm_V d 57 52 [l0, l1, l2, l3, l4, l5, l6] (va_rf (pm_gr S an 1) :: st) S Q := pv_getA (pm_cdi rfl dX6_arc_49) (by decide +kernel) (by decide +kernel) (by decide +kernel) hs
theorem q57_52 (hs : pm_sh S an = .inr 3) : pm_V d 57 52 [l0, l1, l2, l3, l4, l5, l6] (.ref an :: st) S Q = pm_V d 57 55 [l0, l1, l2, l3, l4, l5, l6] (.int (pm_gi S an 3) :: st) S Q := pv_getI (pm_cdi rfl dX6_arc_52) (by decide +kernel) (by decide +kernel) (by decide +kernel) hs
theorem q57_55 : pm_V d 57 55 [l0, l1, l2, l3, l4, l5, l6] st S Q = pm_V d 57 57 [l0, l1, l2, l3, l4, l5, l6] (.int 30 :: st) S Q := pv_bipush (pm_cdi rfl dX6_arc_55) (by decide +kernel)
theorem q57_57 : pm_V d 57 57 [l0, l1, l2, l3, l4, l5, l6] (.int yi :: .int xi :: st) S Q = if xi < yi then pm_V d 57 63 [l0, l1, l2, l3, l4, l5, l6] st S Q else pm_V d 57 60 [l0, l1, l2, l3, l4, l5, l6] st S Q := pv_icmp_lt (pm_cdi rfl dX6_arc_57) rfl
theorem q57_60 : pm_V d 57 60 [l0, l1, l2, l3, l4, l5, l6] st S Q = pm_V d 57 62 [l0, l1, l2, l3, l4, l5, l6] (.int (-1000002) :: st) S Q := pv_ldc (pm_cdi rfl dX6_arc_60) (by decide +kernel)
theorem q57_62 : pm_V d 57 62 [l0, l1, l2, l3, l4, l5, l6] [.int xi] S Q = Q (some (.int xi)) S := pv_rI (pm_cdi rfl dX6_arc_62) (by decide +kernel)
theorem q57_63 : pm_V d 57 63 [l0, l1, l2, l3, l4, l5, .ref xn] st S Q = pm_V d 57 65 [l0, l1, l2, l3, l4, l5, .ref xn] (.ref xn :: st) S Q := pv_aload (pm_cdi rfl dX6_arc_63) rfl
theorem q57_63N : pm_V d 57 63 [l0, l1, l2, l3, l4, l5, .null] st S Q = pm_V d 57 65 [l0, l1, l2, l3, l4, l5, .null] (.null :: st) S Q := pv_aloadN (pm_cdi rfl dX6_arc_63) rfl
theorem q57_65 : pm_V d 57 65 [l0, l1, .int xi, l3, l4, l5, l6] st S Q = pm_V d 57 66 [l0, l1, .int xi, l3, l4, l5, l6] (.int xi :: st) S Q := pv_iload_n (pm_cdi rfl dX6_arc_65) rfl
theorem q57_66 : pm_V d 57 66 [l0, l1, l2, .int xi, l4, l5, l6] st S Q = pm_V d 57 67 [l0, l1, l2, .int xi, l4, l5, l6] (.int xi :: st) S Q := pv_iload_n (pm_cdi rfl dX6_arc_66) rfl
theorem q57_67 : pm_V d 57 67 [l0, l1, l2, l3, .long xj, l5, l6] st S Q = pm_V d 57 69 [l0, l1, l2, l3, .long xj, l5, l6] (.long xj :: st) S Q := pv_lload (pm_cdi rfl dX6_arc_67) rfl
theorem q57_69 : pm_V d 57 69 [l0, l1, l2, l3, l4, l5, l6] st S Q = pm_V d 57 70 [l0, l1, l2, l3, l4, l5, l6] (.int (-1) :: st) S Q := pv_iconst (pm_cdi rfl dX6_arc_69) (by decide +kernel)
theorem q57_70 : pm_V d 57 70 [l0, l1, l2, l3, l4, l5, l6] st S Q = pm_V d 57 71 [l0, l1, l2, l3, l4, l5, l6] (.int (-1) :: st) S Q := pv_iconst (pm_cdi rfl dX6_arc_70) (by decide +kernel)
theorem q57_71 (hs : pm_sh S an = .inr 0) : pm_V (d + 1) 57 71 [l0, l1, l2, l3, l4, l5, l6] [.int v4i, .int v3i, .long v2j, .int v1i, .int v0i, .ref an] S Q = pm_N d 7 [.ref an, .int v0i, .int v1i, .long v2j, .int v3i, .int v4i] S (fun r S' => pm_V (d + 1) 57 74 [l0, l1, l2, l3, l4, l5, l6] (r.toList ++ []) S' Q) := pv_callV (as := [.int v0i, .int v1i, .long v2j, .int v3i, .int v4i]) (pm_cdi rfl dX6_arc_71) (Or.inl (by decide +kernel)) (by decide +kernel) (show _ = _ from (by decide +kernel : 5 = pm_np 7)) rfl (Nat.le_of_ble_eq_true rfl) (cl := 0) (by decide +kernel) hs
theorem q57_74 : pm_V d 57 74 [.ref xn, l1, l2, l3, l4, l5, l6] st S Q = pm_V d 57 75 [.ref xn, l1, l2, l3, l4, l5, l6] (.ref xn :: st) S Q := pv_aload_n (pm_cdi rfl dX6_arc_74) rfl
theorem q57_75 : pm_V d 57 75 [l0, l1, l2, l3, l4, l5, l6] (.ref xn :: st) S Q = pm_V d 57 76 [l0, l1, l2, l3, l4, l5, l6] (.ref xn :: .ref xn :: st) S Q := pv_dupA (pm_cdi rfl dX6_arc_75)
theorem q57_76 (hs : pm_sh S an = .inr 6) : pm_V d 57 76 [l0, l1, l2, l3, l4, l5, l6] (.ref an :: st) S Q = pm_V d 57 79 [l0, l1, l2, l3, l4, l5, l6] (.int (pm_gi S an 5) :: st) S Q := pv_getI (pm_cdi rfl dX6_arc_76) (by decide +kernel) (by decide +kernel) (by decide +kernel) hs
theorem q57_79 : pm_V d 57 79 [l0, l1, l2, l3, l4, l5, l6] st S Q = pm_V d 57 80 [l0, l1, l2, l3, l4, l5, l6] (.int 1 :: st) S Q := pv_iconst (pm_cdi rfl dX6_arc_79) (by decide +kernel)
theorem q57_80 : pm_V d 57 80 [l0, l1, l2, l3, l4, l5, l6] (.int yi :: .int xi :: st) S Q = pm_V d 57 81 [l0, l1, l2, l3, l4, l5, l6] (.int (xi + yi) :: st) S Q := pv_iadd (pm_cdi rfl dX6_arc_80)
theorem q57_81 (hs : pm_sh S an = .inr 6) : pm_V d 57 81 [l0, l1, l2, l3, l4, l5, l6] (.int xi :: .ref an :: st) S Q = pm_V d 57 84 [l0, l1, l2, l3, l4, l5, l6] st (pm_sgi S an 5 xi) Q := pv_putI (pm_cdi rfl dX6_arc_81) (by decide +kernel) (by decide +kernel) (by decide +kernel) hs
theorem q57_84 : pm_V d 57 84 [l0, l1, l2, l3, l4, l5, .ref xn] st S Q = pm_V d 57 86 [l0, l1, l2, l3, l4, l5, .ref xn] (.ref xn :: st) S Q := pv_aload (pm_cdi rfl dX6_arc_84) rfl
theorem q57_84N : pm_V d 57 84 [l0, l1, l2, l3, l4, l5, .null] st S Q = pm_V d 57 86 [l0, l1, l2, l3, l4, l5, .null] (.null :: st) S Q := pv_aloadN (pm_cdi rfl dX6_arc_84) rfl
theorem q57_86 (hs : pm_sh S an = .inr 0) : pm_V d 57 86 [l0, l1, l2, l3, l4, l5, l6] (.ref an :: st) S Q = pm_V d 57 89 [l0, l1, l2, l3, l4, l5, l6] (va_rf (pm_gr S an 1) :: st) S Q := pv_getA (pm_cdi rfl dX6_arc_86) (by decide +kernel) (by decide +kernel) (by decide +kernel) hs
theorem q57_89 (hs : pm_sh S an = .inr 3) : pm_V d 57 89 [l0, l1, l2, l3, l4, l5, l6] (.ref an :: st) S Q = pm_V d 57 92 [l0, l1, l2, l3, l4, l5, l6] (.int (pm_gi S an 3) :: st) S Q := pv_getI (pm_cdi rfl dX6_arc_89) (by decide +kernel) (by decide +kernel) (by decide +kernel) hs
theorem q57_92 : pm_V d 57 92 [l0, l1, l2, l3, l4, l5, l6] st S Q = pm_V d 57 93 [l0, l1, l2, l3, l4, l5, l6] (.int 1 :: st) S Q := pv_iconst (pm_cdi rfl dX6_arc_92) (by decide +kernel)
theorem q57_93 : pm_V d 57 93 [l0, l1, l2, l3, l4, l5, l6] (.int yi :: .int xi :: st) S Q = pm_V d 57 94 [l0, l1, l2, l3, l4, l5, l6] (.int (xi - yi) :: st) S Q := pv_isub (pm_cdi rfl dX6_arc_93)
theorem q57_94 : pm_V d 57 94 [l0, l1, l2, l3, l4, l5, l6] [.int xi] S Q = Q (some (.int xi)) S := pv_rI (pm_cdi rfl dX6_arc_94) (by decide +kernel)
theorem q57_e : pm_N d 57 [.ref an, .int v0i, .int v1i, .int v2i, .long v3j] S Q = pm_V d 57 0 [.ref an, .int v0i, .int v1i, .int v2i, .long v3j, pm_j, pm_j] [] S Q := pv_ent (Nat.le_of_ble_eq_true rfl) rfl
/-! 58: ViewsJoins.set(IIIJ)I -/
theorem dX6_set_0 : decode cX6_set 0 = .ok (.aload_n 0, 1) := by decide +kernel
theorem dX6_set_1 : decode cX6_set 1 = .ok (.iload_n 1, 1) := by decide +kernel
theorem dX6_set_2 : decode cX6_set 2 = .ok (.invokevirtual 56, 3) := by decide +kernel
theorem dX6_set_5 : decode cX6_set 5 = .ok (.astore 6, 2) := by decide +kernel
theorem dX6_set_7 : decode cX6_set 7 = .ok (.aload 6, 2) := by decide +kernel
theorem dX6_set_9 : decode cX6_set 9 = .ok (.ifnull 18, 3) := by decide +kernel
theorem dX6_set_12 : decode cX6_set 12 = .ok (.aload 6, 2) := by decide +kernel
theorem dX6_set_14 : decode cX6_set 14 = .ok (.getfield 60, 3) := by decide +kernel
theorem dX6_set_17 : decode cX6_set 17 = .ok (.ifCond .ne 10, 3) := by decide +kernel
theorem dX6_set_20 : decode cX6_set 20 = .ok (.iload_n 2, 1) := by decide +kernel
theorem dX6_set_21 : decode cX6_set 21 = .ok (.invokestatic 83, 3) := by decide +kernel
theorem dX6_set_24 : decode cX6_set 24 = .ok (.ifCond .ne 6, 3) := by decide +kernel
theorem dX6_set_27 : decode cX6_set 27 = .ok (.ldc 42, 2) := by decide +kernel
theorem dX6_set_29 : decode cX6_set 29 = .ok (.ireturn, 1) := by decide +kernel
theorem dX6_set_30 : decode cX6_set 30 = .ok (.aload 6, 2) := by decide +kernel
theorem dX6_set_32 : decode cX6_set 32 = .ok (.iload_n 2, 1) := by decide +kernel
theorem dX6_set_33 : decode cX6_set 33 = .ok (.invokevirtual 86, 3) := by decide +kernel
theorem dX6_set_36 : decode cX6_set 36 = .ok (.astore 7, 2) := by decide +kernel
theorem dX6_set_38 : decode cX6_set 38 = .ok (.aload 7, 2) := by decide +kernel
theorem dX6_set_40 : decode cX6_set 40 = .ok (.iload_n 3, 1) := by decide +kernel
theorem dX6_set_41 : decode cX6_set 41 = .ok (.invokevirtual 67, 3) := by decide +kernel
theorem dX6_set_44 : decode cX6_set 44 = .ok (.ifCond .ne 6, 3) := by decide +kernel
theorem dX6_set_47 : decode cX6_set 47 = .ok (.ldc 42, 2) := by decide +kernel
theorem dX6_set_49 : decode cX6_set 49 = .ok (.ireturn, 1) := by decide +kernel
theorem dX6_set_50 : decode cX6_set 50 = .ok (.aload 7, 2) := by decide +kernel
theorem dX6_set_52 : decode cX6_set 52 = .ok (.getfield 90, 3) := by decide +kernel
theorem dX6_set_55 : decode cX6_set 55 = .ok (.iload_n 3, 1) := by decide +kernel
theorem dX6_set_56 : decode cX6_set 56 = .ok (.lload 4, 2) := by decide +kernel
theorem dX6_set_58 : decode cX6_set 58 = .ok (.lastore, 1) := by decide +kernel
theorem dX6_set_59 : decode cX6_set 59 = .ok (.aload_n 0, 1) := by decide +kernel
theorem dX6_set_60 : decode cX6_set 60 = .ok (.dup, 1) := by decide +kernel
theorem dX6_set_61 : decode cX6_set 61 = .ok (.getfield 36, 3) := by decide +kernel
theorem dX6_set_64 : decode cX6_set 64 = .ok (.iconst 1, 1) := by decide +kernel
theorem dX6_set_65 : decode cX6_set 65 = .ok (.iadd, 1) := by decide +kernel
theorem dX6_set_66 : decode cX6_set 66 = .ok (.putfield 36, 3) := by decide +kernel
theorem dX6_set_69 : decode cX6_set 69 = .ok (.iconst 1, 1) := by decide +kernel
theorem dX6_set_70 : decode cX6_set 70 = .ok (.ireturn, 1) := by decide +kernel
theorem q58_0 : pm_V d 58 0 [.ref xn, l1, l2, l3, l4, l5, l6, l7] st S Q = pm_V d 58 1 [.ref xn, l1, l2, l3, l4, l5, l6, l7] (.ref xn :: st) S Q := pv_aload_n (pm_cdi rfl dX6_set_0) rfl
theorem q58_1 : pm_V d 58 1 [l0, .int xi, l2, l3, l4, l5, l6, l7] st S Q = pm_V d 58 2 [l0, .int xi, l2, l3, l4, l5, l6, l7] (.int xi :: st) S Q := pv_iload_n (pm_cdi rfl dX6_set_1) rfl
theorem q58_2 (hs : pm_sh S an = .inr 6) : pm_V (d + 1) 58 2 [l0, l1, l2, l3, l4, l5, l6, l7] [.int v0i, .ref an] S Q = pm_N d 75 [.ref an, .int v0i] S (fun r S' => pm_V (d + 1) 58 5 [l0, l1, l2, l3, l4, l5, l6, l7] (r.toList ++ []) S' Q) := pv_callV (as := [.int v0i]) (pm_cdi rfl dX6_set_2) (Or.inl (by decide +kernel)) (by decide +kernel) (show _ = _ from (by decide +kernel : 1 = pm_np 75)) rfl (Nat.le_of_ble_eq_true rfl) (cl := 6) (by decide +kernel) hs
theorem q58_5 : pm_V d 58 5 [l0, l1, l2, l3, l4, pm_j, l6, l7] (.ref xn :: st) S Q = pm_V d 58 7 [l0, l1, l2, l3, l4, pm_j, .ref xn, l7] st S Q := pv_astore (pm_cdi rfl dX6_set_5) rfl
theorem q58_5N : pm_V d 58 5 [l0, l1, l2, l3, l4, pm_j, l6, l7] (.null :: st) S Q = pm_V d 58 7 [l0, l1, l2, l3, l4, pm_j, .null, l7] st S Q := pv_astoreN (pm_cdi rfl dX6_set_5) rfl
theorem q58_7 : pm_V d 58 7 [l0, l1, l2, l3, l4, l5, .ref xn, l7] st S Q = pm_V d 58 9 [l0, l1, l2, l3, l4, l5, .ref xn, l7] (.ref xn :: st) S Q := pv_aload (pm_cdi rfl dX6_set_7) rfl
theorem q58_7N : pm_V d 58 7 [l0, l1, l2, l3, l4, l5, .null, l7] st S Q = pm_V d 58 9 [l0, l1, l2, l3, l4, l5, .null, l7] (.null :: st) S Q := pv_aloadN (pm_cdi rfl dX6_set_7) rfl
theorem q58_9 : pm_V d 58 9 [l0, l1, l2, l3, l4, l5, l6, l7] (.ref xn :: st) S Q = pm_V d 58 12 [l0, l1, l2, l3, l4, l5, l6, l7] st S Q := pv_ifnullA (pm_cdi rfl dX6_set_9)
theorem q58_9N : pm_V d 58 9 [l0, l1, l2, l3, l4, l5, l6, l7] (.null :: st) S Q = pm_V d 58 27 [l0, l1, l2, l3, l4, l5, l6, l7] st S Q := pv_ifnullN (pm_cdi rfl dX6_set_9) rfl
theorem q58_12 : pm_V d 58 12 [l0, l1, l2, l3, l4, l5, .ref xn, l7] st S Q = pm_V d 58 14 [l0, l1, l2, l3, l4, l5, .ref xn, l7] (.ref xn :: st) S Q := pv_aload (pm_cdi rfl dX6_set_12) rfl
theorem q58_12N : pm_V d 58 12 [l0, l1, l2, l3, l4, l5, .null, l7] st S Q = pm_V d 58 14 [l0, l1, l2, l3, l4, l5, .null, l7] (.null :: st) S Q := pv_aloadN (pm_cdi rfl dX6_set_12) rfl
theorem q58_14 (hs : pm_sh S an = .inr 0) : pm_V d 58 14 [l0, l1, l2, l3, l4, l5, l6, l7] (.ref an :: st) S Q = pm_V d 58 17 [l0, l1, l2, l3, l4, l5, l6, l7] (.int (pm_gi S an 6) :: st) S Q := pv_getI (pm_cdi rfl dX6_set_14) (by decide +kernel) (by decide +kernel) (by decide +kernel) hs
theorem q58_17 : pm_V d 58 17 [l0, l1, l2, l3, l4, l5, l6, l7] (.int xi :: st) S Q = if xi = 0 then pm_V d 58 20 [l0, l1, l2, l3, l4, l5, l6, l7] st S Q else pm_V d 58 27 [l0, l1, l2, l3, l4, l5, l6, l7] st S Q := pv_if_ne (pm_cdi rfl dX6_set_17) rfl
theorem q58_20 : pm_V d 58 20 [l0, l1, .int xi, l3, l4, l5, l6, l7] st S Q = pm_V d 58 21 [l0, l1, .int xi, l3, l4, l5, l6, l7] (.int xi :: st) S Q := pv_iload_n (pm_cdi rfl dX6_set_20) rfl
theorem q58_21 : pm_V (d + 1) 58 21 [l0, l1, l2, l3, l4, l5, l6, l7] [.int v0i] S Q = pm_N d 82 [.int v0i] S (fun r S' => pm_V (d + 1) 58 24 [l0, l1, l2, l3, l4, l5, l6, l7] (r.toList ++ []) S' Q) := pv_callS (as := [.int v0i]) (pm_cdi rfl dX6_set_21) (by decide +kernel) (by decide +kernel) (show _ = _ from (by decide +kernel : 1 = pm_np 82)) rfl (Nat.le_of_ble_eq_true rfl)
theorem q58_24 : pm_V d 58 24 [l0, l1, l2, l3, l4, l5, l6, l7] (.int xi :: st) S Q = if xi = 0 then pm_V d 58 27 [l0, l1, l2, l3, l4, l5, l6, l7] st S Q else pm_V d 58 30 [l0, l1, l2, l3, l4, l5, l6, l7] st S Q := pv_if_ne (pm_cdi rfl dX6_set_24) rfl
theorem q58_27 : pm_V d 58 27 [l0, l1, l2, l3, l4, l5, l6, l7] st S Q = pm_V d 58 29 [l0, l1, l2, l3, l4, l5, l6, l7] (.int (-1000001) :: st) S Q := pv_ldc (pm_cdi rfl dX6_set_27) (by decide +kernel)
theorem q58_29 : pm_V d 58 29 [l0, l1, l2, l3, l4, l5, l6, l7] [.int xi] S Q = Q (some (.int xi)) S := pv_rI (pm_cdi rfl dX6_set_29) (by decide +kernel)
theorem q58_30 : pm_V d 58 30 [l0, l1, l2, l3, l4, l5, .ref xn, l7] st S Q = pm_V d 58 32 [l0, l1, l2, l3, l4, l5, .ref xn, l7] (.ref xn :: st) S Q := pv_aload (pm_cdi rfl dX6_set_30) rfl
theorem q58_30N : pm_V d 58 30 [l0, l1, l2, l3, l4, l5, .null, l7] st S Q = pm_V d 58 32 [l0, l1, l2, l3, l4, l5, .null, l7] (.null :: st) S Q := pv_aloadN (pm_cdi rfl dX6_set_30) rfl
theorem q58_32 : pm_V d 58 32 [l0, l1, .int xi, l3, l4, l5, l6, l7] st S Q = pm_V d 58 33 [l0, l1, .int xi, l3, l4, l5, l6, l7] (.int xi :: st) S Q := pv_iload_n (pm_cdi rfl dX6_set_32) rfl
theorem q58_33 (hs : pm_sh S an = .inr 0) : pm_V (d + 1) 58 33 [l0, l1, l2, l3, l4, l5, l6, l7] [.int v0i, .ref an] S Q = pm_N d 5 [.ref an, .int v0i] S (fun r S' => pm_V (d + 1) 58 36 [l0, l1, l2, l3, l4, l5, l6, l7] (r.toList ++ []) S' Q) := pv_callV (as := [.int v0i]) (pm_cdi rfl dX6_set_33) (Or.inl (by decide +kernel)) (by decide +kernel) (show _ = _ from (by decide +kernel : 1 = pm_np 5)) rfl (Nat.le_of_ble_eq_true rfl) (cl := 0) (by decide +kernel) hs
theorem q58_36 : pm_V d 58 36 [l0, l1, l2, l3, l4, l5, .ref yn, l7] (.ref xn :: st) S Q = pm_V d 58 38 [l0, l1, l2, l3, l4, l5, .ref yn, .ref xn] st S Q := pv_astore (pm_cdi rfl dX6_set_36) rfl
theorem q58_36N : pm_V d 58 36 [l0, l1, l2, l3, l4, l5, .ref yn, l7] (.null :: st) S Q = pm_V d 58 38 [l0, l1, l2, l3, l4, l5, .ref yn, .null] st S Q := pv_astoreN (pm_cdi rfl dX6_set_36) rfl
theorem q58_38 : pm_V d 58 38 [l0, l1, l2, l3, l4, l5, l6, .ref xn] st S Q = pm_V d 58 40 [l0, l1, l2, l3, l4, l5, l6, .ref xn] (.ref xn :: st) S Q := pv_aload (pm_cdi rfl dX6_set_38) rfl
theorem q58_38N : pm_V d 58 38 [l0, l1, l2, l3, l4, l5, l6, .null] st S Q = pm_V d 58 40 [l0, l1, l2, l3, l4, l5, l6, .null] (.null :: st) S Q := pv_aloadN (pm_cdi rfl dX6_set_38) rfl
theorem q58_40 : pm_V d 58 40 [l0, l1, l2, .int xi, l4, l5, l6, l7] st S Q = pm_V d 58 41 [l0, l1, l2, .int xi, l4, l5, l6, l7] (.int xi :: st) S Q := pv_iload_n (pm_cdi rfl dX6_set_40) rfl
theorem q58_41 (hs : pm_sh S an = .inr 3) : pm_V (d + 1) 58 41 [l0, l1, l2, l3, l4, l5, l6, l7] [.int v0i, .ref an] S Q = pm_N d 20 [.ref an, .int v0i] S (fun r S' => pm_V (d + 1) 58 44 [l0, l1, l2, l3, l4, l5, l6, l7] (r.toList ++ []) S' Q) := pv_callV (as := [.int v0i]) (pm_cdi rfl dX6_set_41) (Or.inl (by decide +kernel)) (by decide +kernel) (show _ = _ from (by decide +kernel : 1 = pm_np 20)) rfl (Nat.le_of_ble_eq_true rfl) (cl := 3) (by decide +kernel) hs
theorem q58_44 : pm_V d 58 44 [l0, l1, l2, l3, l4, l5, l6, l7] (.int xi :: st) S Q = if xi = 0 then pm_V d 58 47 [l0, l1, l2, l3, l4, l5, l6, l7] st S Q else pm_V d 58 50 [l0, l1, l2, l3, l4, l5, l6, l7] st S Q := pv_if_ne (pm_cdi rfl dX6_set_44) rfl
theorem q58_47 : pm_V d 58 47 [l0, l1, l2, l3, l4, l5, l6, l7] st S Q = pm_V d 58 49 [l0, l1, l2, l3, l4, l5, l6, l7] (.int (-1000001) :: st) S Q := pv_ldc (pm_cdi rfl dX6_set_47) (by decide +kernel)
theorem q58_49 : pm_V d 58 49 [l0, l1, l2, l3, l4, l5, l6, l7] [.int xi] S Q = Q (some (.int xi)) S := pv_rI (pm_cdi rfl dX6_set_49) (by decide +kernel)
theorem q58_50 : pm_V d 58 50 [l0, l1, l2, l3, l4, l5, l6, .ref xn] st S Q = pm_V d 58 52 [l0, l1, l2, l3, l4, l5, l6, .ref xn] (.ref xn :: st) S Q := pv_aload (pm_cdi rfl dX6_set_50) rfl
theorem q58_50N : pm_V d 58 50 [l0, l1, l2, l3, l4, l5, l6, .null] st S Q = pm_V d 58 52 [l0, l1, l2, l3, l4, l5, l6, .null] (.null :: st) S Q := pv_aloadN (pm_cdi rfl dX6_set_50) rfl
theorem q58_52 (hs : pm_sh S an = .inr 3) : pm_V d 58 52 [l0, l1, l2, l3, l4, l5, l6, l7] (.ref an :: st) S Q = pm_V d 58 55 [l0, l1, l2, l3, l4, l5, l6, l7] (va_rf (pm_gr S an 0) :: st) S Q := pv_getA (pm_cdi rfl dX6_set_52) (by decide +kernel) (by decide +kernel) (by decide +kernel) hs
theorem q58_55 : pm_V d 58 55 [l0, l1, l2, .int xi, l4, l5, l6, l7] st S Q = pm_V d 58 56 [l0, l1, l2, .int xi, l4, l5, l6, l7] (.int xi :: st) S Q := pv_iload_n (pm_cdi rfl dX6_set_55) rfl
theorem q58_56 : pm_V d 58 56 [l0, l1, l2, l3, .long xj, l5, l6, l7] st S Q = pm_V d 58 58 [l0, l1, l2, l3, .long xj, l5, l6, l7] (.long xj :: st) S Q := pv_lload (pm_cdi rfl dX6_set_56) rfl
theorem q58_58 (hs : pm_ar S an 1 xi = true) : pm_V d 58 58 [l0, l1, l2, l3, l4, l5, l6, l7] (.long vj :: .int xi :: .ref an :: st) S Q = pm_V d 58 59 [l0, l1, l2, l3, l4, l5, l6, l7] st (pm_szl S an xi.toNatClampNeg vj) Q := pv_last (pm_cdi rfl dX6_set_58) hs
theorem q58_59 : pm_V d 58 59 [.ref xn, l1, l2, l3, l4, l5, l6, l7] st S Q = pm_V d 58 60 [.ref xn, l1, l2, l3, l4, l5, l6, l7] (.ref xn :: st) S Q := pv_aload_n (pm_cdi rfl dX6_set_59) rfl
theorem q58_60 : pm_V d 58 60 [l0, l1, l2, l3, l4, l5, l6, l7] (.ref xn :: st) S Q = pm_V d 58 61 [l0, l1, l2, l3, l4, l5, l6, l7] (.ref xn :: .ref xn :: st) S Q := pv_dupA (pm_cdi rfl dX6_set_60)
theorem q58_61 (hs : pm_sh S an = .inr 6) : pm_V d 58 61 [l0, l1, l2, l3, l4, l5, l6, l7] (.ref an :: st) S Q = pm_V d 58 64 [l0, l1, l2, l3, l4, l5, l6, l7] (.int (pm_gi S an 5) :: st) S Q := pv_getI (pm_cdi rfl dX6_set_61) (by decide +kernel) (by decide +kernel) (by decide +kernel) hs
theorem q58_64 : pm_V d 58 64 [l0, l1, l2, l3, l4, l5, l6, l7] st S Q = pm_V d 58 65 [l0, l1, l2, l3, l4, l5, l6, l7] (.int 1 :: st) S Q := pv_iconst (pm_cdi rfl dX6_set_64) (by decide +kernel)
theorem q58_65 : pm_V d 58 65 [l0, l1, l2, l3, l4, l5, l6, l7] (.int yi :: .int xi :: st) S Q = pm_V d 58 66 [l0, l1, l2, l3, l4, l5, l6, l7] (.int (xi + yi) :: st) S Q := pv_iadd (pm_cdi rfl dX6_set_65)
theorem q58_66 (hs : pm_sh S an = .inr 6) : pm_V d 58 66 [l0, l1, l2, l3, l4, l5, l6, l7] (.int xi :: .ref an :: st) S Q = pm_V d 58 69 [l0, l1, l2, l3, l4, l5, l6, l7] st (pm_sgi S an 5 xi) Q := pv_putI (pm_cdi rfl dX6_set_66) (by decide +kernel) (by decide +kernel) (by decide +kernel) hs
theorem q58_69 : pm_V d 58 69 [l0, l1, l2, l3, l4, l5, l6, l7] st S Q = pm_V d 58 70 [l0, l1, l2, l3, l4, l5, l6, l7] (.int 1 :: st) S Q := pv_iconst (pm_cdi rfl dX6_set_69) (by decide +kernel)
theorem q58_70 : pm_V d 58 70 [l0, l1, l2, l3, l4, l5, l6, l7] [.int xi] S Q = Q (some (.int xi)) S := pv_rI (pm_cdi rfl dX6_set_70) (by decide +kernel)
theorem q58_e : pm_N d 58 [.ref an, .int v0i, .int v1i, .int v2i, .long v3j] S Q = pm_V d 58 0 [.ref an, .int v0i, .int v1i, .int v2i, .long v3j, pm_j, pm_j, pm_j] [] S Q := pv_ent (Nat.le_of_ble_eq_true rfl) rfl
/-! 59: ViewsJoins.label(III)I -/
theorem dX6_label_0 : decode cX6_label 0 = .ok (.iload_n 1, 1) := by decide +kernel
theorem dX6_label_1 : decode cX6_label 1 = .ok (.invokestatic 94, 3) := by decide +kernel
theorem dX6_label_4 : decode cX6_label 4 = .ok (.ifCond .eq 24, 3) := by decide +kernel
theorem dX6_label_7 : decode cX6_label 7 = .ok (.iload_n 2, 1) := by decide +kernel
theorem dX6_label_8 : decode cX6_label 8 = .ok (.ifCond .lt 20, 3) := by decide +kernel
theorem dX6_label_11 : decode cX6_label 11 = .ok (.iload_n 2, 1) := by decide +kernel
theorem dX6_label_12 : decode cX6_label 12 = .ok (.bipush 40, 2) := by decide +kernel
theorem dX6_label_14 : decode cX6_label 14 = .ok (.if_icmp .ge 14, 3) := by decide +kernel
theorem dX6_label_17 : decode cX6_label 17 = .ok (.iload_n 3, 1) := by decide +kernel
theorem dX6_label_18 : decode cX6_label 18 = .ok (.iconst (-1), 1) := by decide +kernel
theorem dX6_label_19 : decode cX6_label 19 = .ok (.if_icmp .lt 9, 3) := by decide +kernel
theorem dX6_label_22 : decode cX6_label 22 = .ok (.iload_n 3, 1) := by decide +kernel
theorem dX6_label_23 : decode cX6_label 23 = .ok (.bipush 10, 2) := by decide +kernel
theorem dX6_label_25 : decode cX6_label 25 = .ok (.if_icmp .lt 6, 3) := by decide +kernel
theorem dX6_label_28 : decode cX6_label 28 = .ok (.bipush (-2), 2) := by decide +kernel
theorem dX6_label_30 : decode cX6_label 30 = .ok (.ireturn, 1) := by decide +kernel
theorem dX6_label_31 : decode cX6_label 31 = .ok (.aload_n 0, 1) := by decide +kernel
theorem dX6_label_32 : decode cX6_label 32 = .ok (.getfield 31, 3) := by decide +kernel
theorem dX6_label_35 : decode cX6_label 35 = .ok (.iload_n 1, 1) := by decide +kernel
theorem dX6_label_36 : decode cX6_label 36 = .ok (.aaload, 1) := by decide +kernel
theorem dX6_label_37 : decode cX6_label 37 = .ok (.iload_n 2, 1) := by decide +kernel
theorem dX6_label_38 : decode cX6_label 38 = .ok (.iaload, 1) := by decide +kernel
theorem dX6_label_39 : decode cX6_label 39 = .ok (.istore 4, 2) := by decide +kernel
theorem dX6_label_41 : decode cX6_label 41 = .ok (.aload_n 0, 1) := by decide +kernel
theorem dX6_label_42 : decode cX6_label 42 = .ok (.getfield 31, 3) := by decide +kernel
theorem dX6_label_45 : decode cX6_label 45 = .ok (.iload_n 1, 1) := by decide +kernel
theorem dX6_label_46 : decode cX6_label 46 = .ok (.aaload, 1) := by decide +kernel
theorem dX6_label_47 : decode cX6_label 47 = .ok (.iload_n 2, 1) := by decide +kernel
theorem dX6_label_48 : decode cX6_label 48 = .ok (.iload_n 3, 1) := by decide +kernel
theorem dX6_label_49 : decode cX6_label 49 = .ok (.iastore, 1) := by decide +kernel
theorem dX6_label_50 : decode cX6_label 50 = .ok (.aload_n 0, 1) := by decide +kernel
theorem dX6_label_51 : decode cX6_label 51 = .ok (.dup, 1) := by decide +kernel
theorem dX6_label_52 : decode cX6_label 52 = .ok (.getfield 36, 3) := by decide +kernel
theorem dX6_label_55 : decode cX6_label 55 = .ok (.iconst 1, 1) := by decide +kernel
theorem dX6_label_56 : decode cX6_label 56 = .ok (.iadd, 1) := by decide +kernel
theorem dX6_label_57 : decode cX6_label 57 = .ok (.putfield 36, 3) := by decide +kernel
theorem dX6_label_60 : decode cX6_label 60 = .ok (.iload 4, 2) := by decide +kernel
theorem dX6_label_62 : decode cX6_label 62 = .ok (.ireturn, 1) := by decide +kernel
theorem q59_0 : pm_V d 59 0 [l0, .int xi, l2, l3, l4] st S Q = pm_V d 59 1 [l0, .int xi, l2, l3, l4] (.int xi :: st) S Q := pv_iload_n (pm_cdi rfl dX6_label_0) rfl
theorem q59_1 : pm_V (d + 1) 59 1 [l0, l1, l2, l3, l4] [.int v0i] S Q = pm_N d 81 [.int v0i] S (fun r S' => pm_V (d + 1) 59 4 [l0, l1, l2, l3, l4] (r.toList ++ []) S' Q) := pv_callS (as := [.int v0i]) (pm_cdi rfl dX6_label_1) (by decide +kernel) (by decide +kernel) (show _ = _ from (by decide +kernel : 1 = pm_np 81)) rfl (Nat.le_of_ble_eq_true rfl)
theorem q59_4 : pm_V d 59 4 [l0, l1, l2, l3, l4] (.int xi :: st) S Q = if xi = 0 then pm_V d 59 28 [l0, l1, l2, l3, l4] st S Q else pm_V d 59 7 [l0, l1, l2, l3, l4] st S Q := pv_if_eq (pm_cdi rfl dX6_label_4) rfl
theorem q59_7 : pm_V d 59 7 [l0, l1, .int xi, l3, l4] st S Q = pm_V d 59 8 [l0, l1, .int xi, l3, l4] (.int xi :: st) S Q := pv_iload_n (pm_cdi rfl dX6_label_7) rfl
theorem q59_8 : pm_V d 59 8 [l0, l1, l2, l3, l4] (.int xi :: st) S Q = if xi < 0 then pm_V d 59 28 [l0, l1, l2, l3, l4] st S Q else pm_V d 59 11 [l0, l1, l2, l3, l4] st S Q := pv_if_lt (pm_cdi rfl dX6_label_8) rfl
theorem q59_11 : pm_V d 59 11 [l0, l1, .int xi, l3, l4] st S Q = pm_V d 59 12 [l0, l1, .int xi, l3, l4] (.int xi :: st) S Q := pv_iload_n (pm_cdi rfl dX6_label_11) rfl
theorem q59_12 : pm_V d 59 12 [l0, l1, l2, l3, l4] st S Q = pm_V d 59 14 [l0, l1, l2, l3, l4] (.int 40 :: st) S Q := pv_bipush (pm_cdi rfl dX6_label_12) (by decide +kernel)
theorem q59_14 : pm_V d 59 14 [l0, l1, l2, l3, l4] (.int yi :: .int xi :: st) S Q = if xi < yi then pm_V d 59 17 [l0, l1, l2, l3, l4] st S Q else pm_V d 59 28 [l0, l1, l2, l3, l4] st S Q := pv_icmp_ge (pm_cdi rfl dX6_label_14) rfl
theorem q59_17 : pm_V d 59 17 [l0, l1, l2, .int xi, l4] st S Q = pm_V d 59 18 [l0, l1, l2, .int xi, l4] (.int xi :: st) S Q := pv_iload_n (pm_cdi rfl dX6_label_17) rfl
theorem q59_18 : pm_V d 59 18 [l0, l1, l2, l3, l4] st S Q = pm_V d 59 19 [l0, l1, l2, l3, l4] (.int (-1) :: st) S Q := pv_iconst (pm_cdi rfl dX6_label_18) (by decide +kernel)
theorem q59_19 : pm_V d 59 19 [l0, l1, l2, l3, l4] (.int yi :: .int xi :: st) S Q = if xi < yi then pm_V d 59 28 [l0, l1, l2, l3, l4] st S Q else pm_V d 59 22 [l0, l1, l2, l3, l4] st S Q := pv_icmp_lt (pm_cdi rfl dX6_label_19) rfl
theorem q59_22 : pm_V d 59 22 [l0, l1, l2, .int xi, l4] st S Q = pm_V d 59 23 [l0, l1, l2, .int xi, l4] (.int xi :: st) S Q := pv_iload_n (pm_cdi rfl dX6_label_22) rfl
theorem q59_23 : pm_V d 59 23 [l0, l1, l2, l3, l4] st S Q = pm_V d 59 25 [l0, l1, l2, l3, l4] (.int 10 :: st) S Q := pv_bipush (pm_cdi rfl dX6_label_23) (by decide +kernel)
theorem q59_25 : pm_V d 59 25 [l0, l1, l2, l3, l4] (.int yi :: .int xi :: st) S Q = if xi < yi then pm_V d 59 31 [l0, l1, l2, l3, l4] st S Q else pm_V d 59 28 [l0, l1, l2, l3, l4] st S Q := pv_icmp_lt (pm_cdi rfl dX6_label_25) rfl
theorem q59_28 : pm_V d 59 28 [l0, l1, l2, l3, l4] st S Q = pm_V d 59 30 [l0, l1, l2, l3, l4] (.int (-2) :: st) S Q := pv_bipush (pm_cdi rfl dX6_label_28) (by decide +kernel)
theorem q59_30 : pm_V d 59 30 [l0, l1, l2, l3, l4] [.int xi] S Q = Q (some (.int xi)) S := pv_rI (pm_cdi rfl dX6_label_30) (by decide +kernel)
theorem q59_31 : pm_V d 59 31 [.ref xn, l1, l2, l3, l4] st S Q = pm_V d 59 32 [.ref xn, l1, l2, l3, l4] (.ref xn :: st) S Q := pv_aload_n (pm_cdi rfl dX6_label_31) rfl
theorem q59_32 (hs : pm_sh S an = .inr 6) : pm_V d 59 32 [l0, l1, l2, l3, l4] (.ref an :: st) S Q = pm_V d 59 35 [l0, l1, l2, l3, l4] (va_rf (pm_gr S an 3) :: st) S Q := pv_getA (pm_cdi rfl dX6_label_32) (by decide +kernel) (by decide +kernel) (by decide +kernel) hs
theorem q59_35 : pm_V d 59 35 [l0, .int xi, l2, l3, l4] st S Q = pm_V d 59 36 [l0, .int xi, l2, l3, l4] (.int xi :: st) S Q := pv_iload_n (pm_cdi rfl dX6_label_35) rfl
theorem q59_36 (hs : pm_ar S an 4 xi = true) : pm_V d 59 36 [l0, l1, l2, l3, l4] (.int xi :: .ref an :: st) S Q = pm_V d 59 37 [l0, l1, l2, l3, l4] (va_rf (pm_zr S an xi.toNatClampNeg) :: st) S Q := pv_aaldQ (pm_cdi rfl dX6_label_36) hs
theorem q59_36r (hs : pm_ar S an 3 xi = true) : pm_V d 59 36 [l0, l1, l2, l3, l4] (.int xi :: .ref an :: st) S Q = pm_V d 59 37 [l0, l1, l2, l3, l4] (va_rf (pm_zr S an xi.toNatClampNeg) :: st) S Q := pv_aaldR (pm_cdi rfl dX6_label_36) hs
theorem q59_37 : pm_V d 59 37 [l0, l1, .int xi, l3, l4] st S Q = pm_V d 59 38 [l0, l1, .int xi, l3, l4] (.int xi :: st) S Q := pv_iload_n (pm_cdi rfl dX6_label_37) rfl
theorem q59_38 (hs : pm_ar S an 0 xi = true) : pm_V d 59 38 [l0, l1, l2, l3, l4] (.int xi :: .ref an :: st) S Q = pm_V d 59 39 [l0, l1, l2, l3, l4] (.int (pm_zi S an xi.toNatClampNeg) :: st) S Q := pv_iald (pm_cdi rfl dX6_label_38) hs
theorem q59_39 : pm_V d 59 39 [l0, l1, l2, .int yi, l4] (.int xi :: st) S Q = pm_V d 59 41 [l0, l1, l2, .int yi, .int xi] st S Q := pv_istore (pm_cdi rfl dX6_label_39) rfl
theorem q59_41 : pm_V d 59 41 [.ref xn, l1, l2, l3, l4] st S Q = pm_V d 59 42 [.ref xn, l1, l2, l3, l4] (.ref xn :: st) S Q := pv_aload_n (pm_cdi rfl dX6_label_41) rfl
theorem q59_42 (hs : pm_sh S an = .inr 6) : pm_V d 59 42 [l0, l1, l2, l3, l4] (.ref an :: st) S Q = pm_V d 59 45 [l0, l1, l2, l3, l4] (va_rf (pm_gr S an 3) :: st) S Q := pv_getA (pm_cdi rfl dX6_label_42) (by decide +kernel) (by decide +kernel) (by decide +kernel) hs
theorem q59_45 : pm_V d 59 45 [l0, .int xi, l2, l3, l4] st S Q = pm_V d 59 46 [l0, .int xi, l2, l3, l4] (.int xi :: st) S Q := pv_iload_n (pm_cdi rfl dX6_label_45) rfl
theorem q59_46 (hs : pm_ar S an 4 xi = true) : pm_V d 59 46 [l0, l1, l2, l3, l4] (.int xi :: .ref an :: st) S Q = pm_V d 59 47 [l0, l1, l2, l3, l4] (va_rf (pm_zr S an xi.toNatClampNeg) :: st) S Q := pv_aaldQ (pm_cdi rfl dX6_label_46) hs
theorem q59_46r (hs : pm_ar S an 3 xi = true) : pm_V d 59 46 [l0, l1, l2, l3, l4] (.int xi :: .ref an :: st) S Q = pm_V d 59 47 [l0, l1, l2, l3, l4] (va_rf (pm_zr S an xi.toNatClampNeg) :: st) S Q := pv_aaldR (pm_cdi rfl dX6_label_46) hs
theorem q59_47 : pm_V d 59 47 [l0, l1, .int xi, l3, l4] st S Q = pm_V d 59 48 [l0, l1, .int xi, l3, l4] (.int xi :: st) S Q := pv_iload_n (pm_cdi rfl dX6_label_47) rfl
theorem q59_48 : pm_V d 59 48 [l0, l1, l2, .int xi, l4] st S Q = pm_V d 59 49 [l0, l1, l2, .int xi, l4] (.int xi :: st) S Q := pv_iload_n (pm_cdi rfl dX6_label_48) rfl
theorem q59_49 (hs : pm_ar S an 0 xi = true) : pm_V d 59 49 [l0, l1, l2, l3, l4] (.int vi :: .int xi :: .ref an :: st) S Q = pm_V d 59 50 [l0, l1, l2, l3, l4] st (pm_szi S an xi.toNatClampNeg vi) Q := pv_iast (pm_cdi rfl dX6_label_49) hs
theorem q59_50 : pm_V d 59 50 [.ref xn, l1, l2, l3, l4] st S Q = pm_V d 59 51 [.ref xn, l1, l2, l3, l4] (.ref xn :: st) S Q := pv_aload_n (pm_cdi rfl dX6_label_50) rfl
theorem q59_51 : pm_V d 59 51 [l0, l1, l2, l3, l4] (.ref xn :: st) S Q = pm_V d 59 52 [l0, l1, l2, l3, l4] (.ref xn :: .ref xn :: st) S Q := pv_dupA (pm_cdi rfl dX6_label_51)
theorem q59_52 (hs : pm_sh S an = .inr 6) : pm_V d 59 52 [l0, l1, l2, l3, l4] (.ref an :: st) S Q = pm_V d 59 55 [l0, l1, l2, l3, l4] (.int (pm_gi S an 5) :: st) S Q := pv_getI (pm_cdi rfl dX6_label_52) (by decide +kernel) (by decide +kernel) (by decide +kernel) hs
theorem q59_55 : pm_V d 59 55 [l0, l1, l2, l3, l4] st S Q = pm_V d 59 56 [l0, l1, l2, l3, l4] (.int 1 :: st) S Q := pv_iconst (pm_cdi rfl dX6_label_55) (by decide +kernel)
theorem q59_56 : pm_V d 59 56 [l0, l1, l2, l3, l4] (.int yi :: .int xi :: st) S Q = pm_V d 59 57 [l0, l1, l2, l3, l4] (.int (xi + yi) :: st) S Q := pv_iadd (pm_cdi rfl dX6_label_56)
theorem q59_57 (hs : pm_sh S an = .inr 6) : pm_V d 59 57 [l0, l1, l2, l3, l4] (.int xi :: .ref an :: st) S Q = pm_V d 59 60 [l0, l1, l2, l3, l4] st (pm_sgi S an 5 xi) Q := pv_putI (pm_cdi rfl dX6_label_57) (by decide +kernel) (by decide +kernel) (by decide +kernel) hs
theorem q59_60 : pm_V d 59 60 [l0, l1, l2, l3, .int xi] st S Q = pm_V d 59 62 [l0, l1, l2, l3, .int xi] (.int xi :: st) S Q := pv_iload (pm_cdi rfl dX6_label_60) rfl
theorem q59_62 : pm_V d 59 62 [l0, l1, l2, l3, l4] [.int xi] S Q = Q (some (.int xi)) S := pv_rI (pm_cdi rfl dX6_label_62) (by decide +kernel)
theorem q59_e : pm_N d 59 [.ref an, .int v0i, .int v1i, .int v2i] S Q = pm_V d 59 0 [.ref an, .int v0i, .int v1i, .int v2i, pm_j] [] S Q := pv_ent (Nat.le_of_ble_eq_true rfl) rfl
/-! 60: ViewsJoins.test(IJII)I -/
theorem dX6_test_0 : decode cX6_test 0 = .ok (.aload_n 0, 1) := by decide +kernel
theorem dX6_test_1 : decode cX6_test 1 = .ok (.getfield 26, 3) := by decide +kernel
theorem dX6_test_4 : decode cX6_test 4 = .ok (.iload_n 1, 1) := by decide +kernel
theorem dX6_test_5 : decode cX6_test 5 = .ok (.iload 4, 2) := by decide +kernel
theorem dX6_test_7 : decode cX6_test 7 = .ok (.iload 5, 2) := by decide +kernel
theorem dX6_test_9 : decode cX6_test 9 = .ok (.invokevirtual 97, 3) := by decide +kernel
theorem dX6_test_12 : decode cX6_test 12 = .ok (.ifCond .ne 6, 3) := by decide +kernel
theorem dX6_test_15 : decode cX6_test 15 = .ok (.ldc 42, 2) := by decide +kernel
theorem dX6_test_17 : decode cX6_test 17 = .ok (.ireturn, 1) := by decide +kernel
theorem dX6_test_18 : decode cX6_test 18 = .ok (.aload_n 0, 1) := by decide +kernel
theorem dX6_test_19 : decode cX6_test 19 = .ok (.getfield 26, 3) := by decide +kernel
theorem dX6_test_22 : decode cX6_test 22 = .ok (.getfield 103, 3) := by decide +kernel
theorem dX6_test_25 : decode cX6_test 25 = .ok (.bipush 20, 2) := by decide +kernel
theorem dX6_test_27 : decode cX6_test 27 = .ok (.if_icmp .lt 6, 3) := by decide +kernel
theorem dX6_test_30 : decode cX6_test 30 = .ok (.ldc 47, 2) := by decide +kernel
theorem dX6_test_32 : decode cX6_test 32 = .ok (.ireturn, 1) := by decide +kernel
theorem dX6_test_33 : decode cX6_test 33 = .ok (.aload_n 0, 1) := by decide +kernel
theorem dX6_test_34 : decode cX6_test 34 = .ok (.getfield 26, 3) := by decide +kernel
theorem dX6_test_37 : decode cX6_test 37 = .ok (.iload_n 1, 1) := by decide +kernel
theorem dX6_test_38 : decode cX6_test 38 = .ok (.lload_n 2, 1) := by decide +kernel
theorem dX6_test_39 : decode cX6_test 39 = .ok (.iload 4, 2) := by decide +kernel
theorem dX6_test_41 : decode cX6_test 41 = .ok (.iload 5, 2) := by decide +kernel
theorem dX6_test_43 : decode cX6_test 43 = .ok (.invokevirtual 104, 3) := by decide +kernel
theorem dX6_test_46 : decode cX6_test 46 = .ok (.aload_n 0, 1) := by decide +kernel
theorem dX6_test_47 : decode cX6_test 47 = .ok (.getfield 26, 3) := by decide +kernel
theorem dX6_test_50 : decode cX6_test 50 = .ok (.getfield 103, 3) := by decide +kernel
theorem dX6_test_53 : decode cX6_test 53 = .ok (.iconst 1, 1) := by decide +kernel
theorem dX6_test_54 : decode cX6_test 54 = .ok (.isub, 1) := by decide +kernel
theorem dX6_test_55 : decode cX6_test 55 = .ok (.ireturn, 1) := by decide +kernel
theorem q60_0 : pm_V d 60 0 [.ref xn, l1, l2, l3, l4, l5] st S Q = pm_V d 60 1 [.ref xn, l1, l2, l3, l4, l5] (.ref xn :: st) S Q := pv_aload_n (pm_cdi rfl dX6_test_0) rfl
theorem q60_1 (hs : pm_sh S an = .inr 6) : pm_V d 60 1 [l0, l1, l2, l3, l4, l5] (.ref an :: st) S Q = pm_V d 60 4 [l0, l1, l2, l3, l4, l5] (va_rf (pm_gr S an 2) :: st) S Q := pv_getA (pm_cdi rfl dX6_test_1) (by decide +kernel) (by decide +kernel) (by decide +kernel) hs
theorem q60_4 : pm_V d 60 4 [l0, .int xi, l2, l3, l4, l5] st S Q = pm_V d 60 5 [l0, .int xi, l2, l3, l4, l5] (.int xi :: st) S Q := pv_iload_n (pm_cdi rfl dX6_test_4) rfl
theorem q60_5 : pm_V d 60 5 [l0, l1, l2, l3, .int xi, l5] st S Q = pm_V d 60 7 [l0, l1, l2, l3, .int xi, l5] (.int xi :: st) S Q := pv_iload (pm_cdi rfl dX6_test_5) rfl
theorem q60_7 : pm_V d 60 7 [l0, l1, l2, l3, l4, .int xi] st S Q = pm_V d 60 9 [l0, l1, l2, l3, l4, .int xi] (.int xi :: st) S Q := pv_iload (pm_cdi rfl dX6_test_7) rfl
theorem q60_9 (hs : pm_sh S an = .inr 5) : pm_V (d + 1) 60 9 [l0, l1, l2, l3, l4, l5] [.int v2i, .int v1i, .int v0i, .ref an] S Q = pm_N d 46 [.ref an, .int v0i, .int v1i, .int v2i] S (fun r S' => pm_V (d + 1) 60 12 [l0, l1, l2, l3, l4, l5] (r.toList ++ []) S' Q) := pv_callV (as := [.int v0i, .int v1i, .int v2i]) (pm_cdi rfl dX6_test_9) (Or.inl (by decide +kernel)) (by decide +kernel) (show _ = _ from (by decide +kernel : 3 = pm_np 46)) rfl (Nat.le_of_ble_eq_true rfl) (cl := 5) (by decide +kernel) hs
theorem q60_12 : pm_V d 60 12 [l0, l1, l2, l3, l4, l5] (.int xi :: st) S Q = if xi = 0 then pm_V d 60 15 [l0, l1, l2, l3, l4, l5] st S Q else pm_V d 60 18 [l0, l1, l2, l3, l4, l5] st S Q := pv_if_ne (pm_cdi rfl dX6_test_12) rfl
theorem q60_15 : pm_V d 60 15 [l0, l1, l2, l3, l4, l5] st S Q = pm_V d 60 17 [l0, l1, l2, l3, l4, l5] (.int (-1000001) :: st) S Q := pv_ldc (pm_cdi rfl dX6_test_15) (by decide +kernel)
theorem q60_17 : pm_V d 60 17 [l0, l1, l2, l3, l4, l5] [.int xi] S Q = Q (some (.int xi)) S := pv_rI (pm_cdi rfl dX6_test_17) (by decide +kernel)
theorem q60_18 : pm_V d 60 18 [.ref xn, l1, l2, l3, l4, l5] st S Q = pm_V d 60 19 [.ref xn, l1, l2, l3, l4, l5] (.ref xn :: st) S Q := pv_aload_n (pm_cdi rfl dX6_test_18) rfl
theorem q60_19 (hs : pm_sh S an = .inr 6) : pm_V d 60 19 [l0, l1, l2, l3, l4, l5] (.ref an :: st) S Q = pm_V d 60 22 [l0, l1, l2, l3, l4, l5] (va_rf (pm_gr S an 2) :: st) S Q := pv_getA (pm_cdi rfl dX6_test_19) (by decide +kernel) (by decide +kernel) (by decide +kernel) hs
theorem q60_22 (hs : pm_sh S an = .inr 5) : pm_V d 60 22 [l0, l1, l2, l3, l4, l5] (.ref an :: st) S Q = pm_V d 60 25 [l0, l1, l2, l3, l4, l5] (.int (pm_gi S an 4) :: st) S Q := pv_getI (pm_cdi rfl dX6_test_22) (by decide +kernel) (by decide +kernel) (by decide +kernel) hs
theorem q60_25 : pm_V d 60 25 [l0, l1, l2, l3, l4, l5] st S Q = pm_V d 60 27 [l0, l1, l2, l3, l4, l5] (.int 20 :: st) S Q := pv_bipush (pm_cdi rfl dX6_test_25) (by decide +kernel)
theorem q60_27 : pm_V d 60 27 [l0, l1, l2, l3, l4, l5] (.int yi :: .int xi :: st) S Q = if xi < yi then pm_V d 60 33 [l0, l1, l2, l3, l4, l5] st S Q else pm_V d 60 30 [l0, l1, l2, l3, l4, l5] st S Q := pv_icmp_lt (pm_cdi rfl dX6_test_27) rfl
theorem q60_30 : pm_V d 60 30 [l0, l1, l2, l3, l4, l5] st S Q = pm_V d 60 32 [l0, l1, l2, l3, l4, l5] (.int (-1000002) :: st) S Q := pv_ldc (pm_cdi rfl dX6_test_30) (by decide +kernel)
theorem q60_32 : pm_V d 60 32 [l0, l1, l2, l3, l4, l5] [.int xi] S Q = Q (some (.int xi)) S := pv_rI (pm_cdi rfl dX6_test_32) (by decide +kernel)
theorem q60_33 : pm_V d 60 33 [.ref xn, l1, l2, l3, l4, l5] st S Q = pm_V d 60 34 [.ref xn, l1, l2, l3, l4, l5] (.ref xn :: st) S Q := pv_aload_n (pm_cdi rfl dX6_test_33) rfl
theorem q60_34 (hs : pm_sh S an = .inr 6) : pm_V d 60 34 [l0, l1, l2, l3, l4, l5] (.ref an :: st) S Q = pm_V d 60 37 [l0, l1, l2, l3, l4, l5] (va_rf (pm_gr S an 2) :: st) S Q := pv_getA (pm_cdi rfl dX6_test_34) (by decide +kernel) (by decide +kernel) (by decide +kernel) hs
theorem q60_37 : pm_V d 60 37 [l0, .int xi, l2, l3, l4, l5] st S Q = pm_V d 60 38 [l0, .int xi, l2, l3, l4, l5] (.int xi :: st) S Q := pv_iload_n (pm_cdi rfl dX6_test_37) rfl
theorem q60_38 : pm_V d 60 38 [l0, l1, .long xj, l3, l4, l5] st S Q = pm_V d 60 39 [l0, l1, .long xj, l3, l4, l5] (.long xj :: st) S Q := pv_lload_n (pm_cdi rfl dX6_test_38) rfl
theorem q60_39 : pm_V d 60 39 [l0, l1, l2, l3, .int xi, l5] st S Q = pm_V d 60 41 [l0, l1, l2, l3, .int xi, l5] (.int xi :: st) S Q := pv_iload (pm_cdi rfl dX6_test_39) rfl
theorem q60_41 : pm_V d 60 41 [l0, l1, l2, l3, l4, .int xi] st S Q = pm_V d 60 43 [l0, l1, l2, l3, l4, .int xi] (.int xi :: st) S Q := pv_iload (pm_cdi rfl dX6_test_41) rfl
theorem q60_43 (hs : pm_sh S an = .inr 5) : pm_V (d + 1) 60 43 [l0, l1, l2, l3, l4, l5] [.int v3i, .int v2i, .long v1j, .int v0i, .ref an] S Q = pm_N d 47 [.ref an, .int v0i, .long v1j, .int v2i, .int v3i] S (fun r S' => pm_V (d + 1) 60 46 [l0, l1, l2, l3, l4, l5] (r.toList ++ []) S' Q) := pv_callV (as := [.int v0i, .long v1j, .int v2i, .int v3i]) (pm_cdi rfl dX6_test_43) (Or.inl (by decide +kernel)) (by decide +kernel) (show _ = _ from (by decide +kernel : 4 = pm_np 47)) rfl (Nat.le_of_ble_eq_true rfl) (cl := 5) (by decide +kernel) hs
theorem q60_46 : pm_V d 60 46 [.ref xn, l1, l2, l3, l4, l5] st S Q = pm_V d 60 47 [.ref xn, l1, l2, l3, l4, l5] (.ref xn :: st) S Q := pv_aload_n (pm_cdi rfl dX6_test_46) rfl
theorem q60_47 (hs : pm_sh S an = .inr 6) : pm_V d 60 47 [l0, l1, l2, l3, l4, l5] (.ref an :: st) S Q = pm_V d 60 50 [l0, l1, l2, l3, l4, l5] (va_rf (pm_gr S an 2) :: st) S Q := pv_getA (pm_cdi rfl dX6_test_47) (by decide +kernel) (by decide +kernel) (by decide +kernel) hs
theorem q60_50 (hs : pm_sh S an = .inr 5) : pm_V d 60 50 [l0, l1, l2, l3, l4, l5] (.ref an :: st) S Q = pm_V d 60 53 [l0, l1, l2, l3, l4, l5] (.int (pm_gi S an 4) :: st) S Q := pv_getI (pm_cdi rfl dX6_test_50) (by decide +kernel) (by decide +kernel) (by decide +kernel) hs
theorem q60_53 : pm_V d 60 53 [l0, l1, l2, l3, l4, l5] st S Q = pm_V d 60 54 [l0, l1, l2, l3, l4, l5] (.int 1 :: st) S Q := pv_iconst (pm_cdi rfl dX6_test_53) (by decide +kernel)
theorem q60_54 : pm_V d 60 54 [l0, l1, l2, l3, l4, l5] (.int yi :: .int xi :: st) S Q = pm_V d 60 55 [l0, l1, l2, l3, l4, l5] (.int (xi - yi) :: st) S Q := pv_isub (pm_cdi rfl dX6_test_54)
theorem q60_55 : pm_V d 60 55 [l0, l1, l2, l3, l4, l5] [.int xi] S Q = Q (some (.int xi)) S := pv_rI (pm_cdi rfl dX6_test_55) (by decide +kernel)
theorem q60_e : pm_N d 60 [.ref an, .int v0i, .long v1j, .int v2i, .int v3i] S Q = pm_V d 60 0 [.ref an, .int v0i, .long v1j, pm_j, .int v2i, .int v3i] [] S Q := pv_ent (Nat.le_of_ble_eq_true rfl) rfl
/-! 61: ViewsJoins.view(IIIII)I -/
theorem dX6_view_0 : decode cX6_view 0 = .ok (.aload_n 0, 1) := by decide +kernel
theorem dX6_view_1 : decode cX6_view 1 = .ok (.iload_n 2, 1) := by decide +kernel
theorem dX6_view_2 : decode cX6_view 2 = .ok (.invokevirtual 56, 3) := by decide +kernel
theorem dX6_view_5 : decode cX6_view 5 = .ok (.astore 6, 2) := by decide +kernel
theorem dX6_view_7 : decode cX6_view 7 = .ok (.aload 6, 2) := by decide +kernel
theorem dX6_view_9 : decode cX6_view 9 = .ok (.ifnull 16, 3) := by decide +kernel
theorem dX6_view_12 : decode cX6_view 12 = .ok (.aload_n 0, 1) := by decide +kernel
theorem dX6_view_13 : decode cX6_view 13 = .ok (.iload_n 1, 1) := by decide +kernel
theorem dX6_view_14 : decode cX6_view 14 = .ok (.iload_n 3, 1) := by decide +kernel
theorem dX6_view_15 : decode cX6_view 15 = .ok (.iload 4, 2) := by decide +kernel
theorem dX6_view_17 : decode cX6_view 17 = .ok (.iload 5, 2) := by decide +kernel
theorem dX6_view_19 : decode cX6_view 19 = .ok (.invokevirtual 108, 3) := by decide +kernel
theorem dX6_view_22 : decode cX6_view 22 = .ok (.ifCond .ne 6, 3) := by decide +kernel
theorem dX6_view_25 : decode cX6_view 25 = .ok (.ldc 42, 2) := by decide +kernel
theorem dX6_view_27 : decode cX6_view 27 = .ok (.ireturn, 1) := by decide +kernel
theorem dX6_view_28 : decode cX6_view 28 = .ok (.iload_n 1, 1) := by decide +kernel
theorem dX6_view_29 : decode cX6_view 29 = .ok (.invokestatic 111, 3) := by decide +kernel
theorem dX6_view_32 : decode cX6_view 32 = .ok (.ifCond .eq 11, 3) := by decide +kernel
theorem dX6_view_35 : decode cX6_view 35 = .ok (.aload_n 0, 1) := by decide +kernel
theorem dX6_view_36 : decode cX6_view 36 = .ok (.iload_n 3, 1) := by decide +kernel
theorem dX6_view_37 : decode cX6_view 37 = .ok (.invokevirtual 56, 3) := by decide +kernel
theorem dX6_view_40 : decode cX6_view 40 = .ok (.goto 5, 3) := by decide +kernel
theorem dX6_view_43 : decode cX6_view 43 = .ok (.aload 6, 2) := by decide +kernel
theorem dX6_view_45 : decode cX6_view 45 = .ok (.astore 7, 2) := by decide +kernel
theorem dX6_view_47 : decode cX6_view 47 = .ok (.aload_n 0, 1) := by decide +kernel
theorem dX6_view_48 : decode cX6_view 48 = .ok (.invokevirtual 43, 3) := by decide +kernel
theorem dX6_view_51 : decode cX6_view 51 = .ok (.astore 8, 2) := by decide +kernel
theorem dX6_view_53 : decode cX6_view 53 = .ok (.aload 8, 2) := by decide +kernel
theorem dX6_view_55 : decode cX6_view 55 = .ok (.ifnonnull 6, 3) := by decide +kernel
theorem dX6_view_58 : decode cX6_view 58 = .ok (.ldc 47, 2) := by decide +kernel
theorem dX6_view_60 : decode cX6_view 60 = .ok (.ireturn, 1) := by decide +kernel
theorem dX6_view_61 : decode cX6_view 61 = .ok (.aload 8, 2) := by decide +kernel
theorem dX6_view_63 : decode cX6_view 63 = .ok (.iload_n 1, 1) := by decide +kernel
theorem dX6_view_64 : decode cX6_view 64 = .ok (.aload 6, 2) := by decide +kernel
theorem dX6_view_66 : decode cX6_view 66 = .ok (.aload 7, 2) := by decide +kernel
theorem dX6_view_68 : decode cX6_view 68 = .ok (.invokevirtual 48, 3) := by decide +kernel
theorem dX6_view_71 : decode cX6_view 71 = .ok (.aload 8, 2) := by decide +kernel
theorem dX6_view_73 : decode cX6_view 73 = .ok (.iload_n 3, 1) := by decide +kernel
theorem dX6_view_74 : decode cX6_view 74 = .ok (.iload 4, 2) := by decide +kernel
theorem dX6_view_76 : decode cX6_view 76 = .ok (.iload 5, 2) := by decide +kernel
theorem dX6_view_78 : decode cX6_view 78 = .ok (.invokevirtual 114, 3) := by decide +kernel
theorem dX6_view_81 : decode cX6_view 81 = .ok (.aload_n 0, 1) := by decide +kernel
theorem dX6_view_82 : decode cX6_view 82 = .ok (.getfield 32, 3) := by decide +kernel
theorem dX6_view_85 : decode cX6_view 85 = .ok (.iconst 1, 1) := by decide +kernel
theorem dX6_view_86 : decode cX6_view 86 = .ok (.isub, 1) := by decide +kernel
theorem dX6_view_87 : decode cX6_view 87 = .ok (.ireturn, 1) := by decide +kernel
theorem q61_0 : pm_V d 61 0 [.ref xn, l1, l2, l3, l4, l5, l6, l7, l8] st S Q = pm_V d 61 1 [.ref xn, l1, l2, l3, l4, l5, l6, l7, l8] (.ref xn :: st) S Q := pv_aload_n (pm_cdi rfl dX6_view_0) rfl
theorem q61_1 : pm_V d 61 1 [l0, l1, .int xi, l3, l4, l5, l6, l7, l8] st S Q = pm_V d 61 2 [l0, l1, .int xi, l3, l4, l5, l6, l7, l8] (.int xi :: st) S Q := pv_iload_n (pm_cdi rfl dX6_view_1) rfl
theorem q61_2 (hs : pm_sh S an = .inr 6) : pm_V (d + 1) 61 2 [l0, l1, l2, l3, l4, l5, l6, l7, l8] [.int v0i, .ref an] S Q = pm_N d 75 [.ref an, .int v0i] S (fun r S' => pm_V (d + 1) 61 5 [l0, l1, l2, l3, l4, l5, l6, l7, l8] (r.toList ++ []) S' Q) := pv_callV (as := [.int v0i]) (pm_cdi rfl dX6_view_2) (Or.inl (by decide +kernel)) (by decide +kernel) (show _ = _ from (by decide +kernel : 1 = pm_np 75)) rfl (Nat.le_of_ble_eq_true rfl) (cl := 6) (by decide +kernel) hs
theorem q61_5 : pm_V d 61 5 [l0, l1, l2, l3, l4, .int yi, l6, l7, l8] (.ref xn :: st) S Q = pm_V d 61 7 [l0, l1, l2, l3, l4, .int yi, .ref xn, l7, l8] st S Q := pv_astore (pm_cdi rfl dX6_view_5) rfl
theorem q61_5N : pm_V d 61 5 [l0, l1, l2, l3, l4, .int yi, l6, l7, l8] (.null :: st) S Q = pm_V d 61 7 [l0, l1, l2, l3, l4, .int yi, .null, l7, l8] st S Q := pv_astoreN (pm_cdi rfl dX6_view_5) rfl
theorem q61_7 : pm_V d 61 7 [l0, l1, l2, l3, l4, l5, .ref xn, l7, l8] st S Q = pm_V d 61 9 [l0, l1, l2, l3, l4, l5, .ref xn, l7, l8] (.ref xn :: st) S Q := pv_aload (pm_cdi rfl dX6_view_7) rfl
theorem q61_7N : pm_V d 61 7 [l0, l1, l2, l3, l4, l5, .null, l7, l8] st S Q = pm_V d 61 9 [l0, l1, l2, l3, l4, l5, .null, l7, l8] (.null :: st) S Q := pv_aloadN (pm_cdi rfl dX6_view_7) rfl
theorem q61_9 : pm_V d 61 9 [l0, l1, l2, l3, l4, l5, l6, l7, l8] (.ref xn :: st) S Q = pm_V d 61 12 [l0, l1, l2, l3, l4, l5, l6, l7, l8] st S Q := pv_ifnullA (pm_cdi rfl dX6_view_9)
theorem q61_9N : pm_V d 61 9 [l0, l1, l2, l3, l4, l5, l6, l7, l8] (.null :: st) S Q = pm_V d 61 25 [l0, l1, l2, l3, l4, l5, l6, l7, l8] st S Q := pv_ifnullN (pm_cdi rfl dX6_view_9) rfl
theorem q61_12 : pm_V d 61 12 [.ref xn, l1, l2, l3, l4, l5, l6, l7, l8] st S Q = pm_V d 61 13 [.ref xn, l1, l2, l3, l4, l5, l6, l7, l8] (.ref xn :: st) S Q := pv_aload_n (pm_cdi rfl dX6_view_12) rfl
theorem q61_13 : pm_V d 61 13 [l0, .int xi, l2, l3, l4, l5, l6, l7, l8] st S Q = pm_V d 61 14 [l0, .int xi, l2, l3, l4, l5, l6, l7, l8] (.int xi :: st) S Q := pv_iload_n (pm_cdi rfl dX6_view_13) rfl
theorem q61_14 : pm_V d 61 14 [l0, l1, l2, .int xi, l4, l5, l6, l7, l8] st S Q = pm_V d 61 15 [l0, l1, l2, .int xi, l4, l5, l6, l7, l8] (.int xi :: st) S Q := pv_iload_n (pm_cdi rfl dX6_view_14) rfl
theorem q61_15 : pm_V d 61 15 [l0, l1, l2, l3, .int xi, l5, l6, l7, l8] st S Q = pm_V d 61 17 [l0, l1, l2, l3, .int xi, l5, l6, l7, l8] (.int xi :: st) S Q := pv_iload (pm_cdi rfl dX6_view_15) rfl
theorem q61_17 : pm_V d 61 17 [l0, l1, l2, l3, l4, .int xi, l6, l7, l8] st S Q = pm_V d 61 19 [l0, l1, l2, l3, l4, .int xi, l6, l7, l8] (.int xi :: st) S Q := pv_iload (pm_cdi rfl dX6_view_17) rfl
theorem q61_19 (hs : pm_sh S an = .inr 6) : pm_V (d + 1) 61 19 [l0, l1, l2, l3, l4, l5, l6, l7, l8] [.int v3i, .int v2i, .int v1i, .int v0i, .ref an] S Q = pm_N d 78 [.ref an, .int v0i, .int v1i, .int v2i, .int v3i] S (fun r S' => pm_V (d + 1) 61 22 [l0, l1, l2, l3, l4, l5, l6, l7, l8] (r.toList ++ []) S' Q) := pv_callV (as := [.int v0i, .int v1i, .int v2i, .int v3i]) (pm_cdi rfl dX6_view_19) (Or.inl (by decide +kernel)) (by decide +kernel) (show _ = _ from (by decide +kernel : 4 = pm_np 78)) rfl (Nat.le_of_ble_eq_true rfl) (cl := 6) (by decide +kernel) hs
theorem q61_22 : pm_V d 61 22 [l0, l1, l2, l3, l4, l5, l6, l7, l8] (.int xi :: st) S Q = if xi = 0 then pm_V d 61 25 [l0, l1, l2, l3, l4, l5, l6, l7, l8] st S Q else pm_V d 61 28 [l0, l1, l2, l3, l4, l5, l6, l7, l8] st S Q := pv_if_ne (pm_cdi rfl dX6_view_22) rfl
theorem q61_25 : pm_V d 61 25 [l0, l1, l2, l3, l4, l5, l6, l7, l8] st S Q = pm_V d 61 27 [l0, l1, l2, l3, l4, l5, l6, l7, l8] (.int (-1000001) :: st) S Q := pv_ldc (pm_cdi rfl dX6_view_25) (by decide +kernel)
theorem q61_27 : pm_V d 61 27 [l0, l1, l2, l3, l4, l5, l6, l7, l8] [.int xi] S Q = Q (some (.int xi)) S := pv_rI (pm_cdi rfl dX6_view_27) (by decide +kernel)
theorem q61_28 : pm_V d 61 28 [l0, .int xi, l2, l3, l4, l5, l6, l7, l8] st S Q = pm_V d 61 29 [l0, .int xi, l2, l3, l4, l5, l6, l7, l8] (.int xi :: st) S Q := pv_iload_n (pm_cdi rfl dX6_view_28) rfl
theorem q61_29 : pm_V (d + 1) 61 29 [l0, l1, l2, l3, l4, l5, l6, l7, l8] [.int v0i] S Q = pm_N d 80 [.int v0i] S (fun r S' => pm_V (d + 1) 61 32 [l0, l1, l2, l3, l4, l5, l6, l7, l8] (r.toList ++ []) S' Q) := pv_callS (as := [.int v0i]) (pm_cdi rfl dX6_view_29) (by decide +kernel) (by decide +kernel) (show _ = _ from (by decide +kernel : 1 = pm_np 80)) rfl (Nat.le_of_ble_eq_true rfl)
theorem q61_32 : pm_V d 61 32 [l0, l1, l2, l3, l4, l5, l6, l7, l8] (.int xi :: st) S Q = if xi = 0 then pm_V d 61 43 [l0, l1, l2, l3, l4, l5, l6, l7, l8] st S Q else pm_V d 61 35 [l0, l1, l2, l3, l4, l5, l6, l7, l8] st S Q := pv_if_eq (pm_cdi rfl dX6_view_32) rfl
theorem q61_35 : pm_V d 61 35 [.ref xn, l1, l2, l3, l4, l5, l6, l7, l8] st S Q = pm_V d 61 36 [.ref xn, l1, l2, l3, l4, l5, l6, l7, l8] (.ref xn :: st) S Q := pv_aload_n (pm_cdi rfl dX6_view_35) rfl
theorem q61_36 : pm_V d 61 36 [l0, l1, l2, .int xi, l4, l5, l6, l7, l8] st S Q = pm_V d 61 37 [l0, l1, l2, .int xi, l4, l5, l6, l7, l8] (.int xi :: st) S Q := pv_iload_n (pm_cdi rfl dX6_view_36) rfl
theorem q61_37 (hs : pm_sh S an = .inr 6) : pm_V (d + 1) 61 37 [l0, l1, l2, l3, l4, l5, l6, l7, l8] [.int v0i, .ref an] S Q = pm_N d 75 [.ref an, .int v0i] S (fun r S' => pm_V (d + 1) 61 40 [l0, l1, l2, l3, l4, l5, l6, l7, l8] (r.toList ++ []) S' Q) := pv_callV (as := [.int v0i]) (pm_cdi rfl dX6_view_37) (Or.inl (by decide +kernel)) (by decide +kernel) (show _ = _ from (by decide +kernel : 1 = pm_np 75)) rfl (Nat.le_of_ble_eq_true rfl) (cl := 6) (by decide +kernel) hs
theorem q61_40 : pm_V d 61 40 [l0, l1, l2, l3, l4, l5, l6, l7, l8] st S Q = pm_V d 61 45 [l0, l1, l2, l3, l4, l5, l6, l7, l8] st S Q := pv_goto (pm_cdi rfl dX6_view_40) rfl
theorem q61_43 : pm_V d 61 43 [l0, l1, l2, l3, l4, l5, .ref xn, l7, l8] st S Q = pm_V d 61 45 [l0, l1, l2, l3, l4, l5, .ref xn, l7, l8] (.ref xn :: st) S Q := pv_aload (pm_cdi rfl dX6_view_43) rfl
theorem q61_43N : pm_V d 61 43 [l0, l1, l2, l3, l4, l5, .null, l7, l8] st S Q = pm_V d 61 45 [l0, l1, l2, l3, l4, l5, .null, l7, l8] (.null :: st) S Q := pv_aloadN (pm_cdi rfl dX6_view_43) rfl
theorem q61_45 : pm_V d 61 45 [l0, l1, l2, l3, l4, l5, .ref yn, l7, l8] (.ref xn :: st) S Q = pm_V d 61 47 [l0, l1, l2, l3, l4, l5, .ref yn, .ref xn, l8] st S Q := pv_astore (pm_cdi rfl dX6_view_45) rfl
theorem q61_45N : pm_V d 61 45 [l0, l1, l2, l3, l4, l5, .ref yn, l7, l8] (.null :: st) S Q = pm_V d 61 47 [l0, l1, l2, l3, l4, l5, .ref yn, .null, l8] st S Q := pv_astoreN (pm_cdi rfl dX6_view_45) rfl
theorem q61_47 : pm_V d 61 47 [.ref xn, l1, l2, l3, l4, l5, l6, l7, l8] st S Q = pm_V d 61 48 [.ref xn, l1, l2, l3, l4, l5, l6, l7, l8] (.ref xn :: st) S Q := pv_aload_n (pm_cdi rfl dX6_view_47) rfl
theorem q61_48 (hs : pm_sh S an = .inr 6) : pm_V (d + 1) 61 48 [l0, l1, l2, l3, l4, l5, l6, l7, l8] [.ref an] S Q = pm_N d 76 [.ref an] S (fun r S' => pm_V (d + 1) 61 51 [l0, l1, l2, l3, l4, l5, l6, l7, l8] (r.toList ++ []) S' Q) := pv_callV (as := []) (pm_cdi rfl dX6_view_48) (Or.inl (by decide +kernel)) (by decide +kernel) (show _ = _ from (by decide +kernel : 0 = pm_np 76)) rfl (Nat.le_of_ble_eq_true rfl) (cl := 6) (by decide +kernel) hs
theorem q61_51 : pm_V d 61 51 [l0, l1, l2, l3, l4, l5, l6, .ref yn, l8] (.ref xn :: st) S Q = pm_V d 61 53 [l0, l1, l2, l3, l4, l5, l6, .ref yn, .ref xn] st S Q := pv_astore (pm_cdi rfl dX6_view_51) rfl
theorem q61_51N : pm_V d 61 51 [l0, l1, l2, l3, l4, l5, l6, .ref yn, l8] (.null :: st) S Q = pm_V d 61 53 [l0, l1, l2, l3, l4, l5, l6, .ref yn, .null] st S Q := pv_astoreN (pm_cdi rfl dX6_view_51) rfl
theorem q61_53 : pm_V d 61 53 [l0, l1, l2, l3, l4, l5, l6, l7, .ref xn] st S Q = pm_V d 61 55 [l0, l1, l2, l3, l4, l5, l6, l7, .ref xn] (.ref xn :: st) S Q := pv_aload (pm_cdi rfl dX6_view_53) rfl
theorem q61_53N : pm_V d 61 53 [l0, l1, l2, l3, l4, l5, l6, l7, .null] st S Q = pm_V d 61 55 [l0, l1, l2, l3, l4, l5, l6, l7, .null] (.null :: st) S Q := pv_aloadN (pm_cdi rfl dX6_view_53) rfl
theorem q61_55 : pm_V d 61 55 [l0, l1, l2, l3, l4, l5, l6, l7, l8] (.ref xn :: st) S Q = pm_V d 61 61 [l0, l1, l2, l3, l4, l5, l6, l7, l8] st S Q := pv_ifnonA (pm_cdi rfl dX6_view_55) rfl
theorem q61_55N : pm_V d 61 55 [l0, l1, l2, l3, l4, l5, l6, l7, l8] (.null :: st) S Q = pm_V d 61 58 [l0, l1, l2, l3, l4, l5, l6, l7, l8] st S Q := pv_ifnonN (pm_cdi rfl dX6_view_55)
theorem q61_58 : pm_V d 61 58 [l0, l1, l2, l3, l4, l5, l6, l7, l8] st S Q = pm_V d 61 60 [l0, l1, l2, l3, l4, l5, l6, l7, l8] (.int (-1000002) :: st) S Q := pv_ldc (pm_cdi rfl dX6_view_58) (by decide +kernel)
theorem q61_60 : pm_V d 61 60 [l0, l1, l2, l3, l4, l5, l6, l7, l8] [.int xi] S Q = Q (some (.int xi)) S := pv_rI (pm_cdi rfl dX6_view_60) (by decide +kernel)
theorem q61_61 : pm_V d 61 61 [l0, l1, l2, l3, l4, l5, l6, l7, .ref xn] st S Q = pm_V d 61 63 [l0, l1, l2, l3, l4, l5, l6, l7, .ref xn] (.ref xn :: st) S Q := pv_aload (pm_cdi rfl dX6_view_61) rfl
theorem q61_61N : pm_V d 61 61 [l0, l1, l2, l3, l4, l5, l6, l7, .null] st S Q = pm_V d 61 63 [l0, l1, l2, l3, l4, l5, l6, l7, .null] (.null :: st) S Q := pv_aloadN (pm_cdi rfl dX6_view_61) rfl
theorem q61_63 : pm_V d 61 63 [l0, .int xi, l2, l3, l4, l5, l6, l7, l8] st S Q = pm_V d 61 64 [l0, .int xi, l2, l3, l4, l5, l6, l7, l8] (.int xi :: st) S Q := pv_iload_n (pm_cdi rfl dX6_view_63) rfl
theorem q61_64 : pm_V d 61 64 [l0, l1, l2, l3, l4, l5, .ref xn, l7, l8] st S Q = pm_V d 61 66 [l0, l1, l2, l3, l4, l5, .ref xn, l7, l8] (.ref xn :: st) S Q := pv_aload (pm_cdi rfl dX6_view_64) rfl
theorem q61_64N : pm_V d 61 64 [l0, l1, l2, l3, l4, l5, .null, l7, l8] st S Q = pm_V d 61 66 [l0, l1, l2, l3, l4, l5, .null, l7, l8] (.null :: st) S Q := pv_aloadN (pm_cdi rfl dX6_view_64) rfl
theorem q61_66 : pm_V d 61 66 [l0, l1, l2, l3, l4, l5, l6, .ref xn, l8] st S Q = pm_V d 61 68 [l0, l1, l2, l3, l4, l5, l6, .ref xn, l8] (.ref xn :: st) S Q := pv_aload (pm_cdi rfl dX6_view_66) rfl
theorem q61_66N : pm_V d 61 66 [l0, l1, l2, l3, l4, l5, l6, .null, l8] st S Q = pm_V d 61 68 [l0, l1, l2, l3, l4, l5, l6, .null, l8] (.null :: st) S Q := pv_aloadN (pm_cdi rfl dX6_view_66) rfl
theorem q61_68 (hs : pm_sh S an = .inr 0) : pm_V (d + 1) 61 68 [l0, l1, l2, l3, l4, l5, l6, l7, l8] [v2v, v1v, .int v0i, .ref an] S Q = pm_N d 1 [.ref an, .int v0i, v1v, v2v] S (fun r S' => pm_V (d + 1) 61 71 [l0, l1, l2, l3, l4, l5, l6, l7, l8] (r.toList ++ []) S' Q) := pv_callV (as := [.int v0i, v1v, v2v]) (pm_cdi rfl dX6_view_68) (Or.inl (by decide +kernel)) (by decide +kernel) (show _ = _ from (by decide +kernel : 3 = pm_np 1)) rfl (Nat.le_of_ble_eq_true rfl) (cl := 0) (by decide +kernel) hs
theorem q61_71 : pm_V d 61 71 [l0, l1, l2, l3, l4, l5, l6, l7, .ref xn] st S Q = pm_V d 61 73 [l0, l1, l2, l3, l4, l5, l6, l7, .ref xn] (.ref xn :: st) S Q := pv_aload (pm_cdi rfl dX6_view_71) rfl
theorem q61_71N : pm_V d 61 71 [l0, l1, l2, l3, l4, l5, l6, l7, .null] st S Q = pm_V d 61 73 [l0, l1, l2, l3, l4, l5, l6, l7, .null] (.null :: st) S Q := pv_aloadN (pm_cdi rfl dX6_view_71) rfl
theorem q61_73 : pm_V d 61 73 [l0, l1, l2, .int xi, l4, l5, l6, l7, l8] st S Q = pm_V d 61 74 [l0, l1, l2, .int xi, l4, l5, l6, l7, l8] (.int xi :: st) S Q := pv_iload_n (pm_cdi rfl dX6_view_73) rfl
theorem q61_74 : pm_V d 61 74 [l0, l1, l2, l3, .int xi, l5, l6, l7, l8] st S Q = pm_V d 61 76 [l0, l1, l2, l3, .int xi, l5, l6, l7, l8] (.int xi :: st) S Q := pv_iload (pm_cdi rfl dX6_view_74) rfl
theorem q61_76 : pm_V d 61 76 [l0, l1, l2, l3, l4, .int xi, l6, l7, l8] st S Q = pm_V d 61 78 [l0, l1, l2, l3, l4, .int xi, l6, l7, l8] (.int xi :: st) S Q := pv_iload (pm_cdi rfl dX6_view_76) rfl
theorem q61_78 (hs : pm_sh S an = .inr 0) : pm_V (d + 1) 61 78 [l0, l1, l2, l3, l4, l5, l6, l7, l8] [.int v2i, .int v1i, .int v0i, .ref an] S Q = pm_N d 2 [.ref an, .int v0i, .int v1i, .int v2i] S (fun r S' => pm_V (d + 1) 61 81 [l0, l1, l2, l3, l4, l5, l6, l7, l8] (r.toList ++ []) S' Q) := pv_callV (as := [.int v0i, .int v1i, .int v2i]) (pm_cdi rfl dX6_view_78) (Or.inl (by decide +kernel)) (by decide +kernel) (show _ = _ from (by decide +kernel : 3 = pm_np 2)) rfl (Nat.le_of_ble_eq_true rfl) (cl := 0) (by decide +kernel) hs
theorem q61_81 : pm_V d 61 81 [.ref xn, l1, l2, l3, l4, l5, l6, l7, l8] st S Q = pm_V d 61 82 [.ref xn, l1, l2, l3, l4, l5, l6, l7, l8] (.ref xn :: st) S Q := pv_aload_n (pm_cdi rfl dX6_view_81) rfl
theorem q61_82 (hs : pm_sh S an = .inr 6) : pm_V d 61 82 [l0, l1, l2, l3, l4, l5, l6, l7, l8] (.ref an :: st) S Q = pm_V d 61 85 [l0, l1, l2, l3, l4, l5, l6, l7, l8] (.int (pm_gi S an 4) :: st) S Q := pv_getI (pm_cdi rfl dX6_view_82) (by decide +kernel) (by decide +kernel) (by decide +kernel) hs
theorem q61_85 : pm_V d 61 85 [l0, l1, l2, l3, l4, l5, l6, l7, l8] st S Q = pm_V d 61 86 [l0, l1, l2, l3, l4, l5, l6, l7, l8] (.int 1 :: st) S Q := pv_iconst (pm_cdi rfl dX6_view_85) (by decide +kernel)
theorem q61_86 : pm_V d 61 86 [l0, l1, l2, l3, l4, l5, l6, l7, l8] (.int yi :: .int xi :: st) S Q = pm_V d 61 87 [l0, l1, l2, l3, l4, l5, l6, l7, l8] (.int (xi - yi) :: st) S Q := pv_isub (pm_cdi rfl dX6_view_86)
theorem q61_87 : pm_V d 61 87 [l0, l1, l2, l3, l4, l5, l6, l7, l8] [.int xi] S Q = Q (some (.int xi)) S := pv_rI (pm_cdi rfl dX6_view_87) (by decide +kernel)
theorem q61_e : pm_N d 61 [.ref an, .int v0i, .int v1i, .int v2i, .int v3i, .int v4i] S Q = pm_V d 61 0 [.ref an, .int v0i, .int v1i, .int v2i, .int v3i, .int v4i, pm_j, pm_j, pm_j] [] S Q := pv_ent (Nat.le_of_ble_eq_true rfl) rfl
/-! 62: ViewsJoins.live(IZ)I -/
theorem dX6_live_0 : decode cX6_live 0 = .ok (.aload_n 0, 1) := by decide +kernel
theorem dX6_live_1 : decode cX6_live 1 = .ok (.iload_n 1, 1) := by decide +kernel
theorem dX6_live_2 : decode cX6_live 2 = .ok (.invokevirtual 56, 3) := by decide +kernel
theorem dX6_live_5 : decode cX6_live 5 = .ok (.astore_n 3, 1) := by decide +kernel
theorem dX6_live_6 : decode cX6_live 6 = .ok (.aload_n 3, 1) := by decide +kernel
theorem dX6_live_7 : decode cX6_live 7 = .ok (.ifnull 10, 3) := by decide +kernel
theorem dX6_live_10 : decode cX6_live 10 = .ok (.aload_n 3, 1) := by decide +kernel
theorem dX6_live_11 : decode cX6_live 11 = .ok (.getfield 60, 3) := by decide +kernel
theorem dX6_live_14 : decode cX6_live 14 = .ok (.ifCond .ne 6, 3) := by decide +kernel
theorem dX6_live_17 : decode cX6_live 17 = .ok (.ldc 42, 2) := by decide +kernel
theorem dX6_live_19 : decode cX6_live 19 = .ok (.ireturn, 1) := by decide +kernel
theorem dX6_live_20 : decode cX6_live 20 = .ok (.aload_n 3, 1) := by decide +kernel
theorem dX6_live_21 : decode cX6_live 21 = .ok (.getfield 118, 3) := by decide +kernel
theorem dX6_live_24 : decode cX6_live 24 = .ok (.iload_n 2, 1) := by decide +kernel
theorem dX6_live_25 : decode cX6_live 25 = .ok (.if_icmp .eq 5, 3) := by decide +kernel
theorem dX6_live_28 : decode cX6_live 28 = .ok (.iconst 0, 1) := by decide +kernel
theorem dX6_live_29 : decode cX6_live 29 = .ok (.ireturn, 1) := by decide +kernel
theorem dX6_live_30 : decode cX6_live 30 = .ok (.iload_n 2, 1) := by decide +kernel
theorem dX6_live_31 : decode cX6_live 31 = .ok (.ifCond .ne 14, 3) := by decide +kernel
theorem dX6_live_34 : decode cX6_live 34 = .ok (.aload_n 0, 1) := by decide +kernel
theorem dX6_live_35 : decode cX6_live 35 = .ok (.aload_n 3, 1) := by decide +kernel
theorem dX6_live_36 : decode cX6_live 36 = .ok (.invokevirtual 122, 3) := by decide +kernel
theorem dX6_live_39 : decode cX6_live 39 = .ok (.ifCond .eq 6, 3) := by decide +kernel
theorem dX6_live_42 : decode cX6_live 42 = .ok (.ldc 126, 2) := by decide +kernel
theorem dX6_live_44 : decode cX6_live 44 = .ok (.ireturn, 1) := by decide +kernel
theorem dX6_live_45 : decode cX6_live 45 = .ok (.aload_n 3, 1) := by decide +kernel
theorem dX6_live_46 : decode cX6_live 46 = .ok (.iload_n 2, 1) := by decide +kernel
theorem dX6_live_47 : decode cX6_live 47 = .ok (.ifCond .ne 7, 3) := by decide +kernel
theorem dX6_live_50 : decode cX6_live 50 = .ok (.iconst 1, 1) := by decide +kernel
theorem dX6_live_51 : decode cX6_live 51 = .ok (.goto 4, 3) := by decide +kernel
theorem dX6_live_54 : decode cX6_live 54 = .ok (.iconst 0, 1) := by decide +kernel
theorem dX6_live_55 : decode cX6_live 55 = .ok (.putfield 118, 3) := by decide +kernel
theorem dX6_live_58 : decode cX6_live 58 = .ok (.aload_n 0, 1) := by decide +kernel
theorem dX6_live_59 : decode cX6_live 59 = .ok (.dup, 1) := by decide +kernel
theorem dX6_live_60 : decode cX6_live 60 = .ok (.getfield 36, 3) := by decide +kernel
theorem dX6_live_63 : decode cX6_live 63 = .ok (.iconst 1, 1) := by decide +kernel
theorem dX6_live_64 : decode cX6_live 64 = .ok (.iadd, 1) := by decide +kernel
theorem dX6_live_65 : decode cX6_live 65 = .ok (.putfield 36, 3) := by decide +kernel
theorem dX6_live_68 : decode cX6_live 68 = .ok (.iconst 1, 1) := by decide +kernel
theorem dX6_live_69 : decode cX6_live 69 = .ok (.ireturn, 1) := by decide +kernel
theorem q62_0 : pm_V d 62 0 [.ref xn, l1, l2, l3] st S Q = pm_V d 62 1 [.ref xn, l1, l2, l3] (.ref xn :: st) S Q := pv_aload_n (pm_cdi rfl dX6_live_0) rfl
theorem q62_1 : pm_V d 62 1 [l0, .int xi, l2, l3] st S Q = pm_V d 62 2 [l0, .int xi, l2, l3] (.int xi :: st) S Q := pv_iload_n (pm_cdi rfl dX6_live_1) rfl
theorem q62_2 (hs : pm_sh S an = .inr 6) : pm_V (d + 1) 62 2 [l0, l1, l2, l3] [.int v0i, .ref an] S Q = pm_N d 75 [.ref an, .int v0i] S (fun r S' => pm_V (d + 1) 62 5 [l0, l1, l2, l3] (r.toList ++ []) S' Q) := pv_callV (as := [.int v0i]) (pm_cdi rfl dX6_live_2) (Or.inl (by decide +kernel)) (by decide +kernel) (show _ = _ from (by decide +kernel : 1 = pm_np 75)) rfl (Nat.le_of_ble_eq_true rfl) (cl := 6) (by decide +kernel) hs
theorem q62_5 : pm_V d 62 5 [l0, l1, .int yi, l3] (.ref xn :: st) S Q = pm_V d 62 6 [l0, l1, .int yi, .ref xn] st S Q := pv_astore_n (pm_cdi rfl dX6_live_5) rfl
theorem q62_5N : pm_V d 62 5 [l0, l1, .int yi, l3] (.null :: st) S Q = pm_V d 62 6 [l0, l1, .int yi, .null] st S Q := pv_astore_nN (pm_cdi rfl dX6_live_5) rfl
theorem q62_6 : pm_V d 62 6 [l0, l1, l2, .ref xn] st S Q = pm_V d 62 7 [l0, l1, l2, .ref xn] (.ref xn :: st) S Q := pv_aload_n (pm_cdi rfl dX6_live_6) rfl
theorem q62_6N : pm_V d 62 6 [l0, l1, l2, .null] st S Q = pm_V d 62 7 [l0, l1, l2, .null] (.null :: st) S Q := pv_aload_nN (pm_cdi rfl dX6_live_6) rfl
theorem q62_7 : pm_V d 62 7 [l0, l1, l2, l3] (.ref xn :: st) S Q = pm_V d 62 10 [l0, l1, l2, l3] st S Q := pv_ifnullA (pm_cdi rfl dX6_live_7)
theorem q62_7N : pm_V d 62 7 [l0, l1, l2, l3] (.null :: st) S Q = pm_V d 62 17 [l0, l1, l2, l3] st S Q := pv_ifnullN (pm_cdi rfl dX6_live_7) rfl
theorem q62_10 : pm_V d 62 10 [l0, l1, l2, .ref xn] st S Q = pm_V d 62 11 [l0, l1, l2, .ref xn] (.ref xn :: st) S Q := pv_aload_n (pm_cdi rfl dX6_live_10) rfl
theorem q62_10N : pm_V d 62 10 [l0, l1, l2, .null] st S Q = pm_V d 62 11 [l0, l1, l2, .null] (.null :: st) S Q := pv_aload_nN (pm_cdi rfl dX6_live_10) rfl
theorem q62_11 (hs : pm_sh S an = .inr 0) : pm_V d 62 11 [l0, l1, l2, l3] (.ref an :: st) S Q = pm_V d 62 14 [l0, l1, l2, l3] (.int (pm_gi S an 6) :: st) S Q := pv_getI (pm_cdi rfl dX6_live_11) (by decide +kernel) (by decide +kernel) (by decide +kernel) hs
theorem q62_14 : pm_V d 62 14 [l0, l1, l2, l3] (.int xi :: st) S Q = if xi = 0 then pm_V d 62 17 [l0, l1, l2, l3] st S Q else pm_V d 62 20 [l0, l1, l2, l3] st S Q := pv_if_ne (pm_cdi rfl dX6_live_14) rfl
theorem q62_17 : pm_V d 62 17 [l0, l1, l2, l3] st S Q = pm_V d 62 19 [l0, l1, l2, l3] (.int (-1000001) :: st) S Q := pv_ldc (pm_cdi rfl dX6_live_17) (by decide +kernel)
theorem q62_19 : pm_V d 62 19 [l0, l1, l2, l3] [.int xi] S Q = Q (some (.int xi)) S := pv_rI (pm_cdi rfl dX6_live_19) (by decide +kernel)
theorem q62_20 : pm_V d 62 20 [l0, l1, l2, .ref xn] st S Q = pm_V d 62 21 [l0, l1, l2, .ref xn] (.ref xn :: st) S Q := pv_aload_n (pm_cdi rfl dX6_live_20) rfl
theorem q62_20N : pm_V d 62 20 [l0, l1, l2, .null] st S Q = pm_V d 62 21 [l0, l1, l2, .null] (.null :: st) S Q := pv_aload_nN (pm_cdi rfl dX6_live_20) rfl
theorem q62_21 (hs : pm_sh S an = .inr 0) : pm_V d 62 21 [l0, l1, l2, l3] (.ref an :: st) S Q = pm_V d 62 24 [l0, l1, l2, l3] (.int (pm_gi S an 12) :: st) S Q := pv_getI (pm_cdi rfl dX6_live_21) (by decide +kernel) (by decide +kernel) (by decide +kernel) hs
theorem q62_24 : pm_V d 62 24 [l0, l1, .int xi, l3] st S Q = pm_V d 62 25 [l0, l1, .int xi, l3] (.int xi :: st) S Q := pv_iload_n (pm_cdi rfl dX6_live_24) rfl
theorem q62_25 : pm_V d 62 25 [l0, l1, l2, l3] (.int yi :: .int xi :: st) S Q = if xi = yi then pm_V d 62 30 [l0, l1, l2, l3] st S Q else pm_V d 62 28 [l0, l1, l2, l3] st S Q := pv_icmp_eq (pm_cdi rfl dX6_live_25) rfl
theorem q62_28 : pm_V d 62 28 [l0, l1, l2, l3] st S Q = pm_V d 62 29 [l0, l1, l2, l3] (.int 0 :: st) S Q := pv_iconst (pm_cdi rfl dX6_live_28) (by decide +kernel)
theorem q62_29 : pm_V d 62 29 [l0, l1, l2, l3] [.int xi] S Q = Q (some (.int xi)) S := pv_rI (pm_cdi rfl dX6_live_29) (by decide +kernel)
theorem q62_30 : pm_V d 62 30 [l0, l1, .int xi, l3] st S Q = pm_V d 62 31 [l0, l1, .int xi, l3] (.int xi :: st) S Q := pv_iload_n (pm_cdi rfl dX6_live_30) rfl
theorem q62_31 : pm_V d 62 31 [l0, l1, l2, l3] (.int xi :: st) S Q = if xi = 0 then pm_V d 62 34 [l0, l1, l2, l3] st S Q else pm_V d 62 45 [l0, l1, l2, l3] st S Q := pv_if_ne (pm_cdi rfl dX6_live_31) rfl
theorem q62_34 : pm_V d 62 34 [.ref xn, l1, l2, l3] st S Q = pm_V d 62 35 [.ref xn, l1, l2, l3] (.ref xn :: st) S Q := pv_aload_n (pm_cdi rfl dX6_live_34) rfl
theorem q62_35 : pm_V d 62 35 [l0, l1, l2, .ref xn] st S Q = pm_V d 62 36 [l0, l1, l2, .ref xn] (.ref xn :: st) S Q := pv_aload_n (pm_cdi rfl dX6_live_35) rfl
theorem q62_35N : pm_V d 62 35 [l0, l1, l2, .null] st S Q = pm_V d 62 36 [l0, l1, l2, .null] (.null :: st) S Q := pv_aload_nN (pm_cdi rfl dX6_live_35) rfl
theorem q62_36 (hs : pm_sh S an = .inr 6) : pm_V (d + 1) 62 36 [l0, l1, l2, l3] [v0v, .ref an] S Q = pm_N d 84 [.ref an, v0v] S (fun r S' => pm_V (d + 1) 62 39 [l0, l1, l2, l3] (r.toList ++ []) S' Q) := pv_callV (as := [v0v]) (pm_cdi rfl dX6_live_36) (Or.inl (by decide +kernel)) (by decide +kernel) (show _ = _ from (by decide +kernel : 1 = pm_np 84)) rfl (Nat.le_of_ble_eq_true rfl) (cl := 6) (by decide +kernel) hs
theorem q62_39 : pm_V d 62 39 [l0, l1, l2, l3] (.int xi :: st) S Q = if xi = 0 then pm_V d 62 45 [l0, l1, l2, l3] st S Q else pm_V d 62 42 [l0, l1, l2, l3] st S Q := pv_if_eq (pm_cdi rfl dX6_live_39) rfl
theorem q62_42 : pm_V d 62 42 [l0, l1, l2, l3] st S Q = pm_V d 62 44 [l0, l1, l2, l3] (.int (-1000003) :: st) S Q := pv_ldc (pm_cdi rfl dX6_live_42) (by decide +kernel)
theorem q62_44 : pm_V d 62 44 [l0, l1, l2, l3] [.int xi] S Q = Q (some (.int xi)) S := pv_rI (pm_cdi rfl dX6_live_44) (by decide +kernel)
theorem q62_45 : pm_V d 62 45 [l0, l1, l2, .ref xn] st S Q = pm_V d 62 46 [l0, l1, l2, .ref xn] (.ref xn :: st) S Q := pv_aload_n (pm_cdi rfl dX6_live_45) rfl
theorem q62_45N : pm_V d 62 45 [l0, l1, l2, .null] st S Q = pm_V d 62 46 [l0, l1, l2, .null] (.null :: st) S Q := pv_aload_nN (pm_cdi rfl dX6_live_45) rfl
theorem q62_46 : pm_V d 62 46 [l0, l1, .int xi, l3] st S Q = pm_V d 62 47 [l0, l1, .int xi, l3] (.int xi :: st) S Q := pv_iload_n (pm_cdi rfl dX6_live_46) rfl
theorem q62_47 : pm_V d 62 47 [l0, l1, l2, l3] (.int xi :: st) S Q = if xi = 0 then pm_V d 62 50 [l0, l1, l2, l3] st S Q else pm_V d 62 54 [l0, l1, l2, l3] st S Q := pv_if_ne (pm_cdi rfl dX6_live_47) rfl
theorem q62_50 : pm_V d 62 50 [l0, l1, l2, l3] st S Q = pm_V d 62 51 [l0, l1, l2, l3] (.int 1 :: st) S Q := pv_iconst (pm_cdi rfl dX6_live_50) (by decide +kernel)
theorem q62_51 : pm_V d 62 51 [l0, l1, l2, l3] st S Q = pm_V d 62 55 [l0, l1, l2, l3] st S Q := pv_goto (pm_cdi rfl dX6_live_51) rfl
theorem q62_54 : pm_V d 62 54 [l0, l1, l2, l3] st S Q = pm_V d 62 55 [l0, l1, l2, l3] (.int 0 :: st) S Q := pv_iconst (pm_cdi rfl dX6_live_54) (by decide +kernel)
theorem q62_55 (hs : pm_sh S an = .inr 0) (hx : xi = 0 ∨ xi = 1) : pm_V d 62 55 [l0, l1, l2, l3] (.int xi :: .ref an :: st) S Q = pm_V d 62 58 [l0, l1, l2, l3] st (pm_sgi S an 12 xi) Q := pv_putZ (pm_cdi rfl dX6_live_55) (by decide +kernel) (by decide +kernel) (by decide +kernel) hs hx
theorem q62_58 : pm_V d 62 58 [.ref xn, l1, l2, l3] st S Q = pm_V d 62 59 [.ref xn, l1, l2, l3] (.ref xn :: st) S Q := pv_aload_n (pm_cdi rfl dX6_live_58) rfl
theorem q62_59 : pm_V d 62 59 [l0, l1, l2, l3] (.ref xn :: st) S Q = pm_V d 62 60 [l0, l1, l2, l3] (.ref xn :: .ref xn :: st) S Q := pv_dupA (pm_cdi rfl dX6_live_59)
theorem q62_60 (hs : pm_sh S an = .inr 6) : pm_V d 62 60 [l0, l1, l2, l3] (.ref an :: st) S Q = pm_V d 62 63 [l0, l1, l2, l3] (.int (pm_gi S an 5) :: st) S Q := pv_getI (pm_cdi rfl dX6_live_60) (by decide +kernel) (by decide +kernel) (by decide +kernel) hs
theorem q62_63 : pm_V d 62 63 [l0, l1, l2, l3] st S Q = pm_V d 62 64 [l0, l1, l2, l3] (.int 1 :: st) S Q := pv_iconst (pm_cdi rfl dX6_live_63) (by decide +kernel)
theorem q62_64 : pm_V d 62 64 [l0, l1, l2, l3] (.int yi :: .int xi :: st) S Q = pm_V d 62 65 [l0, l1, l2, l3] (.int (xi + yi) :: st) S Q := pv_iadd (pm_cdi rfl dX6_live_64)
theorem q62_65 (hs : pm_sh S an = .inr 6) : pm_V d 62 65 [l0, l1, l2, l3] (.int xi :: .ref an :: st) S Q = pm_V d 62 68 [l0, l1, l2, l3] st (pm_sgi S an 5 xi) Q := pv_putI (pm_cdi rfl dX6_live_65) (by decide +kernel) (by decide +kernel) (by decide +kernel) hs
theorem q62_68 : pm_V d 62 68 [l0, l1, l2, l3] st S Q = pm_V d 62 69 [l0, l1, l2, l3] (.int 1 :: st) S Q := pv_iconst (pm_cdi rfl dX6_live_68) (by decide +kernel)
theorem q62_69 : pm_V d 62 69 [l0, l1, l2, l3] [.int xi] S Q = Q (some (.int xi)) S := pv_rI (pm_cdi rfl dX6_live_69) (by decide +kernel)
theorem q62_e : pm_N d 62 [.ref an, .int v0i, .int v1i] S Q = pm_V d 62 0 [.ref an, .int v0i, .int v1i, pm_j] [] S Q := pv_ent (Nat.le_of_ble_eq_true rfl) rfl
/-! 63: ViewsJoins.told(II)I -/
theorem dX6_told_0 : decode cX6_told 0 = .ok (.aload_n 0, 1) := by decide +kernel
theorem dX6_told_1 : decode cX6_told 1 = .ok (.iload_n 1, 1) := by decide +kernel
theorem dX6_told_2 : decode cX6_told 2 = .ok (.invokevirtual 56, 3) := by decide +kernel
theorem dX6_told_5 : decode cX6_told 5 = .ok (.astore_n 3, 1) := by decide +kernel
theorem dX6_told_6 : decode cX6_told 6 = .ok (.aload_n 3, 1) := by decide +kernel
theorem dX6_told_7 : decode cX6_told 7 = .ok (.ifnull 12, 3) := by decide +kernel
theorem dX6_told_10 : decode cX6_told 10 = .ok (.iload_n 2, 1) := by decide +kernel
theorem dX6_told_11 : decode cX6_told 11 = .ok (.ifCond .lt 8, 3) := by decide +kernel
theorem dX6_told_14 : decode cX6_told 14 = .ok (.iload_n 2, 1) := by decide +kernel
theorem dX6_told_15 : decode cX6_told 15 = .ok (.iconst 5, 1) := by decide +kernel
theorem dX6_told_16 : decode cX6_told 16 = .ok (.if_icmp .le 6, 3) := by decide +kernel
theorem dX6_told_19 : decode cX6_told 19 = .ok (.ldc 42, 2) := by decide +kernel
theorem dX6_told_21 : decode cX6_told 21 = .ok (.ireturn, 1) := by decide +kernel
theorem dX6_told_22 : decode cX6_told 22 = .ok (.iload_n 2, 1) := by decide +kernel
theorem dX6_told_23 : decode cX6_told 23 = .ok (.iconst 2, 1) := by decide +kernel
theorem dX6_told_24 : decode cX6_told 24 = .ok (.if_icmp .ne 8, 3) := by decide +kernel
theorem dX6_told_27 : decode cX6_told 27 = .ok (.aload_n 3, 1) := by decide +kernel
theorem dX6_told_28 : decode cX6_told 28 = .ok (.getfield 60, 3) := by decide +kernel
theorem dX6_told_31 : decode cX6_told 31 = .ok (.ireturn, 1) := by decide +kernel
theorem dX6_told_32 : decode cX6_told 32 = .ok (.iload_n 2, 1) := by decide +kernel
theorem dX6_told_33 : decode cX6_told 33 = .ok (.iconst 4, 1) := by decide +kernel
theorem dX6_told_34 : decode cX6_told 34 = .ok (.if_icmp .ne 16, 3) := by decide +kernel
theorem dX6_told_37 : decode cX6_told 37 = .ok (.aload_n 3, 1) := by decide +kernel
theorem dX6_told_38 : decode cX6_told 38 = .ok (.getfield 118, 3) := by decide +kernel
theorem dX6_told_41 : decode cX6_told 41 = .ok (.ifCond .eq 7, 3) := by decide +kernel
theorem dX6_told_44 : decode cX6_told 44 = .ok (.iconst 0, 1) := by decide +kernel
theorem dX6_told_45 : decode cX6_told 45 = .ok (.goto 4, 3) := by decide +kernel
theorem dX6_told_48 : decode cX6_told 48 = .ok (.iconst 1, 1) := by decide +kernel
theorem dX6_told_49 : decode cX6_told 49 = .ok (.ireturn, 1) := by decide +kernel
theorem dX6_told_50 : decode cX6_told 50 = .ok (.aload_n 0, 1) := by decide +kernel
theorem dX6_told_51 : decode cX6_told 51 = .ok (.aload_n 3, 1) := by decide +kernel
theorem dX6_told_52 : decode cX6_told 52 = .ok (.invokevirtual 122, 3) := by decide +kernel
theorem dX6_told_55 : decode cX6_told 55 = .ok (.istore 4, 2) := by decide +kernel
theorem dX6_told_57 : decode cX6_told 57 = .ok (.iload_n 2, 1) := by decide +kernel
theorem dX6_told_58 : decode cX6_told 58 = .ok (.iconst 5, 1) := by decide +kernel
theorem dX6_told_59 : decode cX6_told 59 = .ok (.if_icmp .ne 8, 3) := by decide +kernel
theorem dX6_told_62 : decode cX6_told 62 = .ok (.aload_n 3, 1) := by decide +kernel
theorem dX6_told_63 : decode cX6_told 63 = .ok (.getfield 127, 3) := by decide +kernel
theorem dX6_told_66 : decode cX6_told 66 = .ok (.ireturn, 1) := by decide +kernel
theorem dX6_told_67 : decode cX6_told 67 = .ok (.iload 4, 2) := by decide +kernel
theorem dX6_told_69 : decode cX6_told 69 = .ok (.ifCond .eq 6, 3) := by decide +kernel
theorem dX6_told_72 : decode cX6_told 72 = .ok (.ldc 126, 2) := by decide +kernel
theorem dX6_told_74 : decode cX6_told 74 = .ok (.ireturn, 1) := by decide +kernel
theorem dX6_told_75 : decode cX6_told 75 = .ok (.iload_n 2, 1) := by decide +kernel
theorem dX6_told_76 : decode cX6_told 76 = .ok (.iconst 3, 1) := by decide +kernel
theorem dX6_told_77 : decode cX6_told 77 = .ok (.if_icmp .ne 13, 3) := by decide +kernel
theorem dX6_told_80 : decode cX6_told 80 = .ok (.aload_n 3, 1) := by decide +kernel
theorem dX6_told_81 : decode cX6_told 81 = .ok (.getfield 130, 3) := by decide +kernel
theorem dX6_told_84 : decode cX6_told 84 = .ok (.getfield 134, 3) := by decide +kernel
theorem dX6_told_87 : decode cX6_told 87 = .ok (.goto 11, 3) := by decide +kernel
theorem dX6_told_90 : decode cX6_told 90 = .ok (.aload_n 3, 1) := by decide +kernel
theorem dX6_told_91 : decode cX6_told 91 = .ok (.iload_n 2, 1) := by decide +kernel
theorem dX6_told_92 : decode cX6_told 92 = .ok (.invokevirtual 86, 3) := by decide +kernel
theorem dX6_told_95 : decode cX6_told 95 = .ok (.getfield 76, 3) := by decide +kernel
theorem dX6_told_98 : decode cX6_told 98 = .ok (.ireturn, 1) := by decide +kernel
theorem q63_0 : pm_V d 63 0 [.ref xn, l1, l2, l3, l4] st S Q = pm_V d 63 1 [.ref xn, l1, l2, l3, l4] (.ref xn :: st) S Q := pv_aload_n (pm_cdi rfl dX6_told_0) rfl
theorem q63_1 : pm_V d 63 1 [l0, .int xi, l2, l3, l4] st S Q = pm_V d 63 2 [l0, .int xi, l2, l3, l4] (.int xi :: st) S Q := pv_iload_n (pm_cdi rfl dX6_told_1) rfl
theorem q63_2 (hs : pm_sh S an = .inr 6) : pm_V (d + 1) 63 2 [l0, l1, l2, l3, l4] [.int v0i, .ref an] S Q = pm_N d 75 [.ref an, .int v0i] S (fun r S' => pm_V (d + 1) 63 5 [l0, l1, l2, l3, l4] (r.toList ++ []) S' Q) := pv_callV (as := [.int v0i]) (pm_cdi rfl dX6_told_2) (Or.inl (by decide +kernel)) (by decide +kernel) (show _ = _ from (by decide +kernel : 1 = pm_np 75)) rfl (Nat.le_of_ble_eq_true rfl) (cl := 6) (by decide +kernel) hs
theorem q63_5 : pm_V d 63 5 [l0, l1, .int yi, l3, l4] (.ref xn :: st) S Q = pm_V d 63 6 [l0, l1, .int yi, .ref xn, l4] st S Q := pv_astore_n (pm_cdi rfl dX6_told_5) rfl
theorem q63_5N : pm_V d 63 5 [l0, l1, .int yi, l3, l4] (.null :: st) S Q = pm_V d 63 6 [l0, l1, .int yi, .null, l4] st S Q := pv_astore_nN (pm_cdi rfl dX6_told_5) rfl
theorem q63_6 : pm_V d 63 6 [l0, l1, l2, .ref xn, l4] st S Q = pm_V d 63 7 [l0, l1, l2, .ref xn, l4] (.ref xn :: st) S Q := pv_aload_n (pm_cdi rfl dX6_told_6) rfl
theorem q63_6N : pm_V d 63 6 [l0, l1, l2, .null, l4] st S Q = pm_V d 63 7 [l0, l1, l2, .null, l4] (.null :: st) S Q := pv_aload_nN (pm_cdi rfl dX6_told_6) rfl
theorem q63_7 : pm_V d 63 7 [l0, l1, l2, l3, l4] (.ref xn :: st) S Q = pm_V d 63 10 [l0, l1, l2, l3, l4] st S Q := pv_ifnullA (pm_cdi rfl dX6_told_7)
theorem q63_7N : pm_V d 63 7 [l0, l1, l2, l3, l4] (.null :: st) S Q = pm_V d 63 19 [l0, l1, l2, l3, l4] st S Q := pv_ifnullN (pm_cdi rfl dX6_told_7) rfl
theorem q63_10 : pm_V d 63 10 [l0, l1, .int xi, l3, l4] st S Q = pm_V d 63 11 [l0, l1, .int xi, l3, l4] (.int xi :: st) S Q := pv_iload_n (pm_cdi rfl dX6_told_10) rfl
theorem q63_11 : pm_V d 63 11 [l0, l1, l2, l3, l4] (.int xi :: st) S Q = if xi < 0 then pm_V d 63 19 [l0, l1, l2, l3, l4] st S Q else pm_V d 63 14 [l0, l1, l2, l3, l4] st S Q := pv_if_lt (pm_cdi rfl dX6_told_11) rfl
theorem q63_14 : pm_V d 63 14 [l0, l1, .int xi, l3, l4] st S Q = pm_V d 63 15 [l0, l1, .int xi, l3, l4] (.int xi :: st) S Q := pv_iload_n (pm_cdi rfl dX6_told_14) rfl
theorem q63_15 : pm_V d 63 15 [l0, l1, l2, l3, l4] st S Q = pm_V d 63 16 [l0, l1, l2, l3, l4] (.int 5 :: st) S Q := pv_iconst (pm_cdi rfl dX6_told_15) (by decide +kernel)
theorem q63_16 : pm_V d 63 16 [l0, l1, l2, l3, l4] (.int yi :: .int xi :: st) S Q = if xi ≤ yi then pm_V d 63 22 [l0, l1, l2, l3, l4] st S Q else pm_V d 63 19 [l0, l1, l2, l3, l4] st S Q := pv_icmp_le (pm_cdi rfl dX6_told_16) rfl
theorem q63_19 : pm_V d 63 19 [l0, l1, l2, l3, l4] st S Q = pm_V d 63 21 [l0, l1, l2, l3, l4] (.int (-1000001) :: st) S Q := pv_ldc (pm_cdi rfl dX6_told_19) (by decide +kernel)
theorem q63_21 : pm_V d 63 21 [l0, l1, l2, l3, l4] [.int xi] S Q = Q (some (.int xi)) S := pv_rI (pm_cdi rfl dX6_told_21) (by decide +kernel)
theorem q63_22 : pm_V d 63 22 [l0, l1, .int xi, l3, l4] st S Q = pm_V d 63 23 [l0, l1, .int xi, l3, l4] (.int xi :: st) S Q := pv_iload_n (pm_cdi rfl dX6_told_22) rfl
theorem q63_23 : pm_V d 63 23 [l0, l1, l2, l3, l4] st S Q = pm_V d 63 24 [l0, l1, l2, l3, l4] (.int 2 :: st) S Q := pv_iconst (pm_cdi rfl dX6_told_23) (by decide +kernel)
theorem q63_24 : pm_V d 63 24 [l0, l1, l2, l3, l4] (.int yi :: .int xi :: st) S Q = if xi = yi then pm_V d 63 27 [l0, l1, l2, l3, l4] st S Q else pm_V d 63 32 [l0, l1, l2, l3, l4] st S Q := pv_icmp_ne (pm_cdi rfl dX6_told_24) rfl
theorem q63_27 : pm_V d 63 27 [l0, l1, l2, .ref xn, l4] st S Q = pm_V d 63 28 [l0, l1, l2, .ref xn, l4] (.ref xn :: st) S Q := pv_aload_n (pm_cdi rfl dX6_told_27) rfl
theorem q63_27N : pm_V d 63 27 [l0, l1, l2, .null, l4] st S Q = pm_V d 63 28 [l0, l1, l2, .null, l4] (.null :: st) S Q := pv_aload_nN (pm_cdi rfl dX6_told_27) rfl
theorem q63_28 (hs : pm_sh S an = .inr 0) : pm_V d 63 28 [l0, l1, l2, l3, l4] (.ref an :: st) S Q = pm_V d 63 31 [l0, l1, l2, l3, l4] (.int (pm_gi S an 6) :: st) S Q := pv_getI (pm_cdi rfl dX6_told_28) (by decide +kernel) (by decide +kernel) (by decide +kernel) hs
theorem q63_31 : pm_V d 63 31 [l0, l1, l2, l3, l4] [.int xi] S Q = Q (some (.int xi)) S := pv_rI (pm_cdi rfl dX6_told_31) (by decide +kernel)
theorem q63_32 : pm_V d 63 32 [l0, l1, .int xi, l3, l4] st S Q = pm_V d 63 33 [l0, l1, .int xi, l3, l4] (.int xi :: st) S Q := pv_iload_n (pm_cdi rfl dX6_told_32) rfl
theorem q63_33 : pm_V d 63 33 [l0, l1, l2, l3, l4] st S Q = pm_V d 63 34 [l0, l1, l2, l3, l4] (.int 4 :: st) S Q := pv_iconst (pm_cdi rfl dX6_told_33) (by decide +kernel)
theorem q63_34 : pm_V d 63 34 [l0, l1, l2, l3, l4] (.int yi :: .int xi :: st) S Q = if xi = yi then pm_V d 63 37 [l0, l1, l2, l3, l4] st S Q else pm_V d 63 50 [l0, l1, l2, l3, l4] st S Q := pv_icmp_ne (pm_cdi rfl dX6_told_34) rfl
theorem q63_37 : pm_V d 63 37 [l0, l1, l2, .ref xn, l4] st S Q = pm_V d 63 38 [l0, l1, l2, .ref xn, l4] (.ref xn :: st) S Q := pv_aload_n (pm_cdi rfl dX6_told_37) rfl
theorem q63_37N : pm_V d 63 37 [l0, l1, l2, .null, l4] st S Q = pm_V d 63 38 [l0, l1, l2, .null, l4] (.null :: st) S Q := pv_aload_nN (pm_cdi rfl dX6_told_37) rfl
theorem q63_38 (hs : pm_sh S an = .inr 0) : pm_V d 63 38 [l0, l1, l2, l3, l4] (.ref an :: st) S Q = pm_V d 63 41 [l0, l1, l2, l3, l4] (.int (pm_gi S an 12) :: st) S Q := pv_getI (pm_cdi rfl dX6_told_38) (by decide +kernel) (by decide +kernel) (by decide +kernel) hs
theorem q63_41 : pm_V d 63 41 [l0, l1, l2, l3, l4] (.int xi :: st) S Q = if xi = 0 then pm_V d 63 48 [l0, l1, l2, l3, l4] st S Q else pm_V d 63 44 [l0, l1, l2, l3, l4] st S Q := pv_if_eq (pm_cdi rfl dX6_told_41) rfl
theorem q63_44 : pm_V d 63 44 [l0, l1, l2, l3, l4] st S Q = pm_V d 63 45 [l0, l1, l2, l3, l4] (.int 0 :: st) S Q := pv_iconst (pm_cdi rfl dX6_told_44) (by decide +kernel)
theorem q63_45 : pm_V d 63 45 [l0, l1, l2, l3, l4] st S Q = pm_V d 63 49 [l0, l1, l2, l3, l4] st S Q := pv_goto (pm_cdi rfl dX6_told_45) rfl
theorem q63_48 : pm_V d 63 48 [l0, l1, l2, l3, l4] st S Q = pm_V d 63 49 [l0, l1, l2, l3, l4] (.int 1 :: st) S Q := pv_iconst (pm_cdi rfl dX6_told_48) (by decide +kernel)
theorem q63_49 : pm_V d 63 49 [l0, l1, l2, l3, l4] [.int xi] S Q = Q (some (.int xi)) S := pv_rI (pm_cdi rfl dX6_told_49) (by decide +kernel)
theorem q63_50 : pm_V d 63 50 [.ref xn, l1, l2, l3, l4] st S Q = pm_V d 63 51 [.ref xn, l1, l2, l3, l4] (.ref xn :: st) S Q := pv_aload_n (pm_cdi rfl dX6_told_50) rfl
theorem q63_51 : pm_V d 63 51 [l0, l1, l2, .ref xn, l4] st S Q = pm_V d 63 52 [l0, l1, l2, .ref xn, l4] (.ref xn :: st) S Q := pv_aload_n (pm_cdi rfl dX6_told_51) rfl
theorem q63_51N : pm_V d 63 51 [l0, l1, l2, .null, l4] st S Q = pm_V d 63 52 [l0, l1, l2, .null, l4] (.null :: st) S Q := pv_aload_nN (pm_cdi rfl dX6_told_51) rfl
theorem q63_52 (hs : pm_sh S an = .inr 6) : pm_V (d + 1) 63 52 [l0, l1, l2, l3, l4] [v0v, .ref an] S Q = pm_N d 84 [.ref an, v0v] S (fun r S' => pm_V (d + 1) 63 55 [l0, l1, l2, l3, l4] (r.toList ++ []) S' Q) := pv_callV (as := [v0v]) (pm_cdi rfl dX6_told_52) (Or.inl (by decide +kernel)) (by decide +kernel) (show _ = _ from (by decide +kernel : 1 = pm_np 84)) rfl (Nat.le_of_ble_eq_true rfl) (cl := 6) (by decide +kernel) hs
theorem q63_55 : pm_V d 63 55 [l0, l1, l2, .ref yn, l4] (.int xi :: st) S Q = pm_V d 63 57 [l0, l1, l2, .ref yn, .int xi] st S Q := pv_istore (pm_cdi rfl dX6_told_55) rfl
theorem q63_57 : pm_V d 63 57 [l0, l1, .int xi, l3, l4] st S Q = pm_V d 63 58 [l0, l1, .int xi, l3, l4] (.int xi :: st) S Q := pv_iload_n (pm_cdi rfl dX6_told_57) rfl
theorem q63_58 : pm_V d 63 58 [l0, l1, l2, l3, l4] st S Q = pm_V d 63 59 [l0, l1, l2, l3, l4] (.int 5 :: st) S Q := pv_iconst (pm_cdi rfl dX6_told_58) (by decide +kernel)
theorem q63_59 : pm_V d 63 59 [l0, l1, l2, l3, l4] (.int yi :: .int xi :: st) S Q = if xi = yi then pm_V d 63 62 [l0, l1, l2, l3, l4] st S Q else pm_V d 63 67 [l0, l1, l2, l3, l4] st S Q := pv_icmp_ne (pm_cdi rfl dX6_told_59) rfl
theorem q63_62 : pm_V d 63 62 [l0, l1, l2, .ref xn, l4] st S Q = pm_V d 63 63 [l0, l1, l2, .ref xn, l4] (.ref xn :: st) S Q := pv_aload_n (pm_cdi rfl dX6_told_62) rfl
theorem q63_62N : pm_V d 63 62 [l0, l1, l2, .null, l4] st S Q = pm_V d 63 63 [l0, l1, l2, .null, l4] (.null :: st) S Q := pv_aload_nN (pm_cdi rfl dX6_told_62) rfl
theorem q63_63 (hs : pm_sh S an = .inr 0) : pm_V d 63 63 [l0, l1, l2, l3, l4] (.ref an :: st) S Q = pm_V d 63 66 [l0, l1, l2, l3, l4] (.int (pm_gi S an 5) :: st) S Q := pv_getI (pm_cdi rfl dX6_told_63) (by decide +kernel) (by decide +kernel) (by decide +kernel) hs
theorem q63_66 : pm_V d 63 66 [l0, l1, l2, l3, l4] [.int xi] S Q = Q (some (.int xi)) S := pv_rI (pm_cdi rfl dX6_told_66) (by decide +kernel)
theorem q63_67 : pm_V d 63 67 [l0, l1, l2, l3, .int xi] st S Q = pm_V d 63 69 [l0, l1, l2, l3, .int xi] (.int xi :: st) S Q := pv_iload (pm_cdi rfl dX6_told_67) rfl
theorem q63_69 : pm_V d 63 69 [l0, l1, l2, l3, l4] (.int xi :: st) S Q = if xi = 0 then pm_V d 63 75 [l0, l1, l2, l3, l4] st S Q else pm_V d 63 72 [l0, l1, l2, l3, l4] st S Q := pv_if_eq (pm_cdi rfl dX6_told_69) rfl
theorem q63_72 : pm_V d 63 72 [l0, l1, l2, l3, l4] st S Q = pm_V d 63 74 [l0, l1, l2, l3, l4] (.int (-1000003) :: st) S Q := pv_ldc (pm_cdi rfl dX6_told_72) (by decide +kernel)
theorem q63_74 : pm_V d 63 74 [l0, l1, l2, l3, l4] [.int xi] S Q = Q (some (.int xi)) S := pv_rI (pm_cdi rfl dX6_told_74) (by decide +kernel)
theorem q63_75 : pm_V d 63 75 [l0, l1, .int xi, l3, l4] st S Q = pm_V d 63 76 [l0, l1, .int xi, l3, l4] (.int xi :: st) S Q := pv_iload_n (pm_cdi rfl dX6_told_75) rfl
theorem q63_76 : pm_V d 63 76 [l0, l1, l2, l3, l4] st S Q = pm_V d 63 77 [l0, l1, l2, l3, l4] (.int 3 :: st) S Q := pv_iconst (pm_cdi rfl dX6_told_76) (by decide +kernel)
theorem q63_77 : pm_V d 63 77 [l0, l1, l2, l3, l4] (.int yi :: .int xi :: st) S Q = if xi = yi then pm_V d 63 80 [l0, l1, l2, l3, l4] st S Q else pm_V d 63 90 [l0, l1, l2, l3, l4] st S Q := pv_icmp_ne (pm_cdi rfl dX6_told_77) rfl
theorem q63_80 : pm_V d 63 80 [l0, l1, l2, .ref xn, l4] st S Q = pm_V d 63 81 [l0, l1, l2, .ref xn, l4] (.ref xn :: st) S Q := pv_aload_n (pm_cdi rfl dX6_told_80) rfl
theorem q63_80N : pm_V d 63 80 [l0, l1, l2, .null, l4] st S Q = pm_V d 63 81 [l0, l1, l2, .null, l4] (.null :: st) S Q := pv_aload_nN (pm_cdi rfl dX6_told_80) rfl
theorem q63_81 (hs : pm_sh S an = .inr 0) : pm_V d 63 81 [l0, l1, l2, l3, l4] (.ref an :: st) S Q = pm_V d 63 84 [l0, l1, l2, l3, l4] (va_rf (pm_gr S an 4) :: st) S Q := pv_getA (pm_cdi rfl dX6_told_81) (by decide +kernel) (by decide +kernel) (by decide +kernel) hs
theorem q63_84 (hs : pm_sh S an = .inr 2) : pm_V d 63 84 [l0, l1, l2, l3, l4] (.ref an :: st) S Q = pm_V d 63 87 [l0, l1, l2, l3, l4] (.int (pm_gi S an 3) :: st) S Q := pv_getI (pm_cdi rfl dX6_told_84) (by decide +kernel) (by decide +kernel) (by decide +kernel) hs
theorem q63_87 : pm_V d 63 87 [l0, l1, l2, l3, l4] st S Q = pm_V d 63 98 [l0, l1, l2, l3, l4] st S Q := pv_goto (pm_cdi rfl dX6_told_87) rfl
theorem q63_90 : pm_V d 63 90 [l0, l1, l2, .ref xn, l4] st S Q = pm_V d 63 91 [l0, l1, l2, .ref xn, l4] (.ref xn :: st) S Q := pv_aload_n (pm_cdi rfl dX6_told_90) rfl
theorem q63_90N : pm_V d 63 90 [l0, l1, l2, .null, l4] st S Q = pm_V d 63 91 [l0, l1, l2, .null, l4] (.null :: st) S Q := pv_aload_nN (pm_cdi rfl dX6_told_90) rfl
theorem q63_91 : pm_V d 63 91 [l0, l1, .int xi, l3, l4] st S Q = pm_V d 63 92 [l0, l1, .int xi, l3, l4] (.int xi :: st) S Q := pv_iload_n (pm_cdi rfl dX6_told_91) rfl
theorem q63_92 (hs : pm_sh S an = .inr 0) : pm_V (d + 1) 63 92 [l0, l1, l2, l3, l4] [.int v0i, .ref an] S Q = pm_N d 5 [.ref an, .int v0i] S (fun r S' => pm_V (d + 1) 63 95 [l0, l1, l2, l3, l4] (r.toList ++ []) S' Q) := pv_callV (as := [.int v0i]) (pm_cdi rfl dX6_told_92) (Or.inl (by decide +kernel)) (by decide +kernel) (show _ = _ from (by decide +kernel : 1 = pm_np 5)) rfl (Nat.le_of_ble_eq_true rfl) (cl := 0) (by decide +kernel) hs
theorem q63_95 (hs : pm_sh S an = .inr 3) : pm_V d 63 95 [l0, l1, l2, l3, l4] (.ref an :: st) S Q = pm_V d 63 98 [l0, l1, l2, l3, l4] (.int (pm_gi S an 3) :: st) S Q := pv_getI (pm_cdi rfl dX6_told_95) (by decide +kernel) (by decide +kernel) (by decide +kernel) hs
theorem q63_98 : pm_V d 63 98 [l0, l1, l2, l3, l4] [.int xi] S Q = Q (some (.int xi)) S := pv_rI (pm_cdi rfl dX6_told_98) (by decide +kernel)
theorem q63_e : pm_N d 63 [.ref an, .int v0i, .int v1i] S Q = pm_V d 63 0 [.ref an, .int v0i, .int v1i, pm_j, pm_j] [] S Q := pv_ent (Nat.le_of_ble_eq_true rfl) rfl
/-! 64: ViewsJoins.end(III)I -/
theorem dX6_end_0 : decode cX6_end 0 = .ok (.aload_n 0, 1) := by decide +kernel
theorem dX6_end_1 : decode cX6_end 1 = .ok (.iload_n 1, 1) := by decide +kernel
theorem dX6_end_2 : decode cX6_end 2 = .ok (.invokevirtual 56, 3) := by decide +kernel
theorem dX6_end_5 : decode cX6_end 5 = .ok (.astore 4, 2) := by decide +kernel
theorem dX6_end_7 : decode cX6_end 7 = .ok (.aload 4, 2) := by decide +kernel
theorem dX6_end_9 : decode cX6_end 9 = .ok (.ifnull 10, 3) := by decide +kernel
theorem dX6_end_12 : decode cX6_end 12 = .ok (.iload_n 3, 1) := by decide +kernel
theorem dX6_end_13 : decode cX6_end 13 = .ok (.invokestatic 83, 3) := by decide +kernel
theorem dX6_end_16 : decode cX6_end 16 = .ok (.ifCond .ne 6, 3) := by decide +kernel
theorem dX6_end_19 : decode cX6_end 19 = .ok (.ldc 42, 2) := by decide +kernel
theorem dX6_end_21 : decode cX6_end 21 = .ok (.ireturn, 1) := by decide +kernel
theorem dX6_end_22 : decode cX6_end 22 = .ok (.aload_n 0, 1) := by decide +kernel
theorem dX6_end_23 : decode cX6_end 23 = .ok (.aload 4, 2) := by decide +kernel
theorem dX6_end_25 : decode cX6_end 25 = .ok (.invokevirtual 122, 3) := by decide +kernel
theorem dX6_end_28 : decode cX6_end 28 = .ok (.ifCond .eq 6, 3) := by decide +kernel
theorem dX6_end_31 : decode cX6_end 31 = .ok (.ldc 126, 2) := by decide +kernel
theorem dX6_end_33 : decode cX6_end 33 = .ok (.ireturn, 1) := by decide +kernel
theorem dX6_end_34 : decode cX6_end 34 = .ok (.aload 4, 2) := by decide +kernel
theorem dX6_end_36 : decode cX6_end 36 = .ok (.getfield 73, 3) := by decide +kernel
theorem dX6_end_39 : decode cX6_end 39 = .ok (.iload_n 2, 1) := by decide +kernel
theorem dX6_end_40 : decode cX6_end 40 = .ok (.invokevirtual 67, 3) := by decide +kernel
theorem dX6_end_43 : decode cX6_end 43 = .ok (.ifCond .ne 6, 3) := by decide +kernel
theorem dX6_end_46 : decode cX6_end 46 = .ok (.ldc 42, 2) := by decide +kernel
theorem dX6_end_48 : decode cX6_end 48 = .ok (.ireturn, 1) := by decide +kernel
theorem dX6_end_49 : decode cX6_end 49 = .ok (.iload_n 3, 1) := by decide +kernel
theorem dX6_end_50 : decode cX6_end 50 = .ok (.ifCond .ne 13, 3) := by decide +kernel
theorem dX6_end_53 : decode cX6_end 53 = .ok (.aload 4, 2) := by decide +kernel
theorem dX6_end_55 : decode cX6_end 55 = .ok (.getfield 137, 3) := by decide +kernel
theorem dX6_end_58 : decode cX6_end 58 = .ok (.iload_n 2, 1) := by decide +kernel
theorem dX6_end_59 : decode cX6_end 59 = .ok (.iaload, 1) := by decide +kernel
theorem dX6_end_60 : decode cX6_end 60 = .ok (.goto 10, 3) := by decide +kernel
theorem dX6_end_63 : decode cX6_end 63 = .ok (.aload 4, 2) := by decide +kernel
theorem dX6_end_65 : decode cX6_end 65 = .ok (.getfield 141, 3) := by decide +kernel
theorem dX6_end_68 : decode cX6_end 68 = .ok (.iload_n 2, 1) := by decide +kernel
theorem dX6_end_69 : decode cX6_end 69 = .ok (.iaload, 1) := by decide +kernel
theorem dX6_end_70 : decode cX6_end 70 = .ok (.ireturn, 1) := by decide +kernel
theorem q64_0 : pm_V d 64 0 [.ref xn, l1, l2, l3, l4] st S Q = pm_V d 64 1 [.ref xn, l1, l2, l3, l4] (.ref xn :: st) S Q := pv_aload_n (pm_cdi rfl dX6_end_0) rfl
theorem q64_1 : pm_V d 64 1 [l0, .int xi, l2, l3, l4] st S Q = pm_V d 64 2 [l0, .int xi, l2, l3, l4] (.int xi :: st) S Q := pv_iload_n (pm_cdi rfl dX6_end_1) rfl
theorem q64_2 (hs : pm_sh S an = .inr 6) : pm_V (d + 1) 64 2 [l0, l1, l2, l3, l4] [.int v0i, .ref an] S Q = pm_N d 75 [.ref an, .int v0i] S (fun r S' => pm_V (d + 1) 64 5 [l0, l1, l2, l3, l4] (r.toList ++ []) S' Q) := pv_callV (as := [.int v0i]) (pm_cdi rfl dX6_end_2) (Or.inl (by decide +kernel)) (by decide +kernel) (show _ = _ from (by decide +kernel : 1 = pm_np 75)) rfl (Nat.le_of_ble_eq_true rfl) (cl := 6) (by decide +kernel) hs
theorem q64_5 : pm_V d 64 5 [l0, l1, l2, .int yi, l4] (.ref xn :: st) S Q = pm_V d 64 7 [l0, l1, l2, .int yi, .ref xn] st S Q := pv_astore (pm_cdi rfl dX6_end_5) rfl
theorem q64_5N : pm_V d 64 5 [l0, l1, l2, .int yi, l4] (.null :: st) S Q = pm_V d 64 7 [l0, l1, l2, .int yi, .null] st S Q := pv_astoreN (pm_cdi rfl dX6_end_5) rfl
theorem q64_7 : pm_V d 64 7 [l0, l1, l2, l3, .ref xn] st S Q = pm_V d 64 9 [l0, l1, l2, l3, .ref xn] (.ref xn :: st) S Q := pv_aload (pm_cdi rfl dX6_end_7) rfl
theorem q64_7N : pm_V d 64 7 [l0, l1, l2, l3, .null] st S Q = pm_V d 64 9 [l0, l1, l2, l3, .null] (.null :: st) S Q := pv_aloadN (pm_cdi rfl dX6_end_7) rfl
theorem q64_9 : pm_V d 64 9 [l0, l1, l2, l3, l4] (.ref xn :: st) S Q = pm_V d 64 12 [l0, l1, l2, l3, l4] st S Q := pv_ifnullA (pm_cdi rfl dX6_end_9)
theorem q64_9N : pm_V d 64 9 [l0, l1, l2, l3, l4] (.null :: st) S Q = pm_V d 64 19 [l0, l1, l2, l3, l4] st S Q := pv_ifnullN (pm_cdi rfl dX6_end_9) rfl
theorem q64_12 : pm_V d 64 12 [l0, l1, l2, .int xi, l4] st S Q = pm_V d 64 13 [l0, l1, l2, .int xi, l4] (.int xi :: st) S Q := pv_iload_n (pm_cdi rfl dX6_end_12) rfl
theorem q64_13 : pm_V (d + 1) 64 13 [l0, l1, l2, l3, l4] [.int v0i] S Q = pm_N d 82 [.int v0i] S (fun r S' => pm_V (d + 1) 64 16 [l0, l1, l2, l3, l4] (r.toList ++ []) S' Q) := pv_callS (as := [.int v0i]) (pm_cdi rfl dX6_end_13) (by decide +kernel) (by decide +kernel) (show _ = _ from (by decide +kernel : 1 = pm_np 82)) rfl (Nat.le_of_ble_eq_true rfl)
theorem q64_16 : pm_V d 64 16 [l0, l1, l2, l3, l4] (.int xi :: st) S Q = if xi = 0 then pm_V d 64 19 [l0, l1, l2, l3, l4] st S Q else pm_V d 64 22 [l0, l1, l2, l3, l4] st S Q := pv_if_ne (pm_cdi rfl dX6_end_16) rfl
theorem q64_19 : pm_V d 64 19 [l0, l1, l2, l3, l4] st S Q = pm_V d 64 21 [l0, l1, l2, l3, l4] (.int (-1000001) :: st) S Q := pv_ldc (pm_cdi rfl dX6_end_19) (by decide +kernel)
theorem q64_21 : pm_V d 64 21 [l0, l1, l2, l3, l4] [.int xi] S Q = Q (some (.int xi)) S := pv_rI (pm_cdi rfl dX6_end_21) (by decide +kernel)
theorem q64_22 : pm_V d 64 22 [.ref xn, l1, l2, l3, l4] st S Q = pm_V d 64 23 [.ref xn, l1, l2, l3, l4] (.ref xn :: st) S Q := pv_aload_n (pm_cdi rfl dX6_end_22) rfl
theorem q64_23 : pm_V d 64 23 [l0, l1, l2, l3, .ref xn] st S Q = pm_V d 64 25 [l0, l1, l2, l3, .ref xn] (.ref xn :: st) S Q := pv_aload (pm_cdi rfl dX6_end_23) rfl
theorem q64_23N : pm_V d 64 23 [l0, l1, l2, l3, .null] st S Q = pm_V d 64 25 [l0, l1, l2, l3, .null] (.null :: st) S Q := pv_aloadN (pm_cdi rfl dX6_end_23) rfl
theorem q64_25 (hs : pm_sh S an = .inr 6) : pm_V (d + 1) 64 25 [l0, l1, l2, l3, l4] [v0v, .ref an] S Q = pm_N d 84 [.ref an, v0v] S (fun r S' => pm_V (d + 1) 64 28 [l0, l1, l2, l3, l4] (r.toList ++ []) S' Q) := pv_callV (as := [v0v]) (pm_cdi rfl dX6_end_25) (Or.inl (by decide +kernel)) (by decide +kernel) (show _ = _ from (by decide +kernel : 1 = pm_np 84)) rfl (Nat.le_of_ble_eq_true rfl) (cl := 6) (by decide +kernel) hs
theorem q64_28 : pm_V d 64 28 [l0, l1, l2, l3, l4] (.int xi :: st) S Q = if xi = 0 then pm_V d 64 34 [l0, l1, l2, l3, l4] st S Q else pm_V d 64 31 [l0, l1, l2, l3, l4] st S Q := pv_if_eq (pm_cdi rfl dX6_end_28) rfl
theorem q64_31 : pm_V d 64 31 [l0, l1, l2, l3, l4] st S Q = pm_V d 64 33 [l0, l1, l2, l3, l4] (.int (-1000003) :: st) S Q := pv_ldc (pm_cdi rfl dX6_end_31) (by decide +kernel)
theorem q64_33 : pm_V d 64 33 [l0, l1, l2, l3, l4] [.int xi] S Q = Q (some (.int xi)) S := pv_rI (pm_cdi rfl dX6_end_33) (by decide +kernel)
theorem q64_34 : pm_V d 64 34 [l0, l1, l2, l3, .ref xn] st S Q = pm_V d 64 36 [l0, l1, l2, l3, .ref xn] (.ref xn :: st) S Q := pv_aload (pm_cdi rfl dX6_end_34) rfl
theorem q64_34N : pm_V d 64 34 [l0, l1, l2, l3, .null] st S Q = pm_V d 64 36 [l0, l1, l2, l3, .null] (.null :: st) S Q := pv_aloadN (pm_cdi rfl dX6_end_34) rfl
theorem q64_36 (hs : pm_sh S an = .inr 0) : pm_V d 64 36 [l0, l1, l2, l3, l4] (.ref an :: st) S Q = pm_V d 64 39 [l0, l1, l2, l3, l4] (va_rf (pm_gr S an 1) :: st) S Q := pv_getA (pm_cdi rfl dX6_end_36) (by decide +kernel) (by decide +kernel) (by decide +kernel) hs
theorem q64_39 : pm_V d 64 39 [l0, l1, .int xi, l3, l4] st S Q = pm_V d 64 40 [l0, l1, .int xi, l3, l4] (.int xi :: st) S Q := pv_iload_n (pm_cdi rfl dX6_end_39) rfl
theorem q64_40 (hs : pm_sh S an = .inr 3) : pm_V (d + 1) 64 40 [l0, l1, l2, l3, l4] [.int v0i, .ref an] S Q = pm_N d 20 [.ref an, .int v0i] S (fun r S' => pm_V (d + 1) 64 43 [l0, l1, l2, l3, l4] (r.toList ++ []) S' Q) := pv_callV (as := [.int v0i]) (pm_cdi rfl dX6_end_40) (Or.inl (by decide +kernel)) (by decide +kernel) (show _ = _ from (by decide +kernel : 1 = pm_np 20)) rfl (Nat.le_of_ble_eq_true rfl) (cl := 3) (by decide +kernel) hs
theorem q64_43 : pm_V d 64 43 [l0, l1, l2, l3, l4] (.int xi :: st) S Q = if xi = 0 then pm_V d 64 46 [l0, l1, l2, l3, l4] st S Q else pm_V d 64 49 [l0, l1, l2, l3, l4] st S Q := pv_if_ne (pm_cdi rfl dX6_end_43) rfl
theorem q64_46 : pm_V d 64 46 [l0, l1, l2, l3, l4] st S Q = pm_V d 64 48 [l0, l1, l2, l3, l4] (.int (-1000001) :: st) S Q := pv_ldc (pm_cdi rfl dX6_end_46) (by decide +kernel)
theorem q64_48 : pm_V d 64 48 [l0, l1, l2, l3, l4] [.int xi] S Q = Q (some (.int xi)) S := pv_rI (pm_cdi rfl dX6_end_48) (by decide +kernel)
theorem q64_49 : pm_V d 64 49 [l0, l1, l2, .int xi, l4] st S Q = pm_V d 64 50 [l0, l1, l2, .int xi, l4] (.int xi :: st) S Q := pv_iload_n (pm_cdi rfl dX6_end_49) rfl
theorem q64_50 : pm_V d 64 50 [l0, l1, l2, l3, l4] (.int xi :: st) S Q = if xi = 0 then pm_V d 64 53 [l0, l1, l2, l3, l4] st S Q else pm_V d 64 63 [l0, l1, l2, l3, l4] st S Q := pv_if_ne (pm_cdi rfl dX6_end_50) rfl
theorem q64_53 : pm_V d 64 53 [l0, l1, l2, l3, .ref xn] st S Q = pm_V d 64 55 [l0, l1, l2, l3, .ref xn] (.ref xn :: st) S Q := pv_aload (pm_cdi rfl dX6_end_53) rfl
theorem q64_53N : pm_V d 64 53 [l0, l1, l2, l3, .null] st S Q = pm_V d 64 55 [l0, l1, l2, l3, .null] (.null :: st) S Q := pv_aloadN (pm_cdi rfl dX6_end_53) rfl
theorem q64_55 (hs : pm_sh S an = .inr 0) : pm_V d 64 55 [l0, l1, l2, l3, l4] (.ref an :: st) S Q = pm_V d 64 58 [l0, l1, l2, l3, l4] (va_rf (pm_gr S an 2) :: st) S Q := pv_getA (pm_cdi rfl dX6_end_55) (by decide +kernel) (by decide +kernel) (by decide +kernel) hs
theorem q64_58 : pm_V d 64 58 [l0, l1, .int xi, l3, l4] st S Q = pm_V d 64 59 [l0, l1, .int xi, l3, l4] (.int xi :: st) S Q := pv_iload_n (pm_cdi rfl dX6_end_58) rfl
theorem q64_59 (hs : pm_ar S an 0 xi = true) : pm_V d 64 59 [l0, l1, l2, l3, l4] (.int xi :: .ref an :: st) S Q = pm_V d 64 60 [l0, l1, l2, l3, l4] (.int (pm_zi S an xi.toNatClampNeg) :: st) S Q := pv_iald (pm_cdi rfl dX6_end_59) hs
theorem q64_60 : pm_V d 64 60 [l0, l1, l2, l3, l4] st S Q = pm_V d 64 70 [l0, l1, l2, l3, l4] st S Q := pv_goto (pm_cdi rfl dX6_end_60) rfl
theorem q64_63 : pm_V d 64 63 [l0, l1, l2, l3, .ref xn] st S Q = pm_V d 64 65 [l0, l1, l2, l3, .ref xn] (.ref xn :: st) S Q := pv_aload (pm_cdi rfl dX6_end_63) rfl
theorem q64_63N : pm_V d 64 63 [l0, l1, l2, l3, .null] st S Q = pm_V d 64 65 [l0, l1, l2, l3, .null] (.null :: st) S Q := pv_aloadN (pm_cdi rfl dX6_end_63) rfl
theorem q64_65 (hs : pm_sh S an = .inr 0) : pm_V d 64 65 [l0, l1, l2, l3, l4] (.ref an :: st) S Q = pm_V d 64 68 [l0, l1, l2, l3, l4] (va_rf (pm_gr S an 3) :: st) S Q := pv_getA (pm_cdi rfl dX6_end_65) (by decide +kernel) (by decide +kernel) (by decide +kernel) hs
theorem q64_68 : pm_V d 64 68 [l0, l1, .int xi, l3, l4] st S Q = pm_V d 64 69 [l0, l1, .int xi, l3, l4] (.int xi :: st) S Q := pv_iload_n (pm_cdi rfl dX6_end_68) rfl
theorem q64_69 (hs : pm_ar S an 0 xi = true) : pm_V d 64 69 [l0, l1, l2, l3, l4] (.int xi :: .ref an :: st) S Q = pm_V d 64 70 [l0, l1, l2, l3, l4] (.int (pm_zi S an xi.toNatClampNeg) :: st) S Q := pv_iald (pm_cdi rfl dX6_end_69) hs
theorem q64_70 : pm_V d 64 70 [l0, l1, l2, l3, l4] [.int xi] S Q = Q (some (.int xi)) S := pv_rI (pm_cdi rfl dX6_end_70) (by decide +kernel)
theorem q64_e : pm_N d 64 [.ref an, .int v0i, .int v1i, .int v2i] S Q = pm_V d 64 0 [.ref an, .int v0i, .int v1i, .int v2i, pm_j] [] S Q := pv_ent (Nat.le_of_ble_eq_true rfl) rfl
/-! 65: ViewsJoins.value(III)J -/
theorem dX6_value_0 : decode cX6_value 0 = .ok (.aload_n 0, 1) := by decide +kernel
theorem dX6_value_1 : decode cX6_value 1 = .ok (.iload_n 1, 1) := by decide +kernel
theorem dX6_value_2 : decode cX6_value 2 = .ok (.invokevirtual 56, 3) := by decide +kernel
theorem dX6_value_5 : decode cX6_value 5 = .ok (.astore 4, 2) := by decide +kernel
theorem dX6_value_7 : decode cX6_value 7 = .ok (.aload 4, 2) := by decide +kernel
theorem dX6_value_9 : decode cX6_value 9 = .ok (.ifnull 10, 3) := by decide +kernel
theorem dX6_value_12 : decode cX6_value 12 = .ok (.iload_n 2, 1) := by decide +kernel
theorem dX6_value_13 : decode cX6_value 13 = .ok (.invokestatic 83, 3) := by decide +kernel
theorem dX6_value_16 : decode cX6_value 16 = .ok (.ifCond .ne 7, 3) := by decide +kernel
theorem dX6_value_19 : decode cX6_value 19 = .ok (.ldc2_w 144, 3) := by decide +kernel
theorem dX6_value_22 : decode cX6_value 22 = .ok (.lreturn, 1) := by decide +kernel
theorem dX6_value_23 : decode cX6_value 23 = .ok (.aload_n 0, 1) := by decide +kernel
theorem dX6_value_24 : decode cX6_value 24 = .ok (.aload 4, 2) := by decide +kernel
theorem dX6_value_26 : decode cX6_value 26 = .ok (.invokevirtual 122, 3) := by decide +kernel
theorem dX6_value_29 : decode cX6_value 29 = .ok (.ifCond .eq 7, 3) := by decide +kernel
theorem dX6_value_32 : decode cX6_value 32 = .ok (.ldc2_w 146, 3) := by decide +kernel
theorem dX6_value_35 : decode cX6_value 35 = .ok (.lreturn, 1) := by decide +kernel
theorem dX6_value_36 : decode cX6_value 36 = .ok (.aload 4, 2) := by decide +kernel
theorem dX6_value_38 : decode cX6_value 38 = .ok (.iload_n 2, 1) := by decide +kernel
theorem dX6_value_39 : decode cX6_value 39 = .ok (.invokevirtual 86, 3) := by decide +kernel
theorem dX6_value_42 : decode cX6_value 42 = .ok (.astore 5, 2) := by decide +kernel
theorem dX6_value_44 : decode cX6_value 44 = .ok (.aload 5, 2) := by decide +kernel
theorem dX6_value_46 : decode cX6_value 46 = .ok (.iload_n 3, 1) := by decide +kernel
theorem dX6_value_47 : decode cX6_value 47 = .ok (.invokevirtual 67, 3) := by decide +kernel
theorem dX6_value_50 : decode cX6_value 50 = .ok (.ifCond .eq 13, 3) := by decide +kernel
theorem dX6_value_53 : decode cX6_value 53 = .ok (.aload 5, 2) := by decide +kernel
theorem dX6_value_55 : decode cX6_value 55 = .ok (.getfield 90, 3) := by decide +kernel
theorem dX6_value_58 : decode cX6_value 58 = .ok (.iload_n 3, 1) := by decide +kernel
theorem dX6_value_59 : decode cX6_value 59 = .ok (.laload, 1) := by decide +kernel
theorem dX6_value_60 : decode cX6_value 60 = .ok (.goto 6, 3) := by decide +kernel
theorem dX6_value_63 : decode cX6_value 63 = .ok (.ldc2_w 144, 3) := by decide +kernel
theorem dX6_value_66 : decode cX6_value 66 = .ok (.lreturn, 1) := by decide +kernel
theorem q65_0 : pm_V d 65 0 [.ref xn, l1, l2, l3, l4, l5] st S Q = pm_V d 65 1 [.ref xn, l1, l2, l3, l4, l5] (.ref xn :: st) S Q := pv_aload_n (pm_cdi rfl dX6_value_0) rfl
theorem q65_1 : pm_V d 65 1 [l0, .int xi, l2, l3, l4, l5] st S Q = pm_V d 65 2 [l0, .int xi, l2, l3, l4, l5] (.int xi :: st) S Q := pv_iload_n (pm_cdi rfl dX6_value_1) rfl
theorem q65_2 (hs : pm_sh S an = .inr 6) : pm_V (d + 1) 65 2 [l0, l1, l2, l3, l4, l5] [.int v0i, .ref an] S Q = pm_N d 75 [.ref an, .int v0i] S (fun r S' => pm_V (d + 1) 65 5 [l0, l1, l2, l3, l4, l5] (r.toList ++ []) S' Q) := pv_callV (as := [.int v0i]) (pm_cdi rfl dX6_value_2) (Or.inl (by decide +kernel)) (by decide +kernel) (show _ = _ from (by decide +kernel : 1 = pm_np 75)) rfl (Nat.le_of_ble_eq_true rfl) (cl := 6) (by decide +kernel) hs
theorem q65_5 : pm_V d 65 5 [l0, l1, l2, .int yi, l4, l5] (.ref xn :: st) S Q = pm_V d 65 7 [l0, l1, l2, .int yi, .ref xn, l5] st S Q := pv_astore (pm_cdi rfl dX6_value_5) rfl
theorem q65_5N : pm_V d 65 5 [l0, l1, l2, .int yi, l4, l5] (.null :: st) S Q = pm_V d 65 7 [l0, l1, l2, .int yi, .null, l5] st S Q := pv_astoreN (pm_cdi rfl dX6_value_5) rfl
theorem q65_7 : pm_V d 65 7 [l0, l1, l2, l3, .ref xn, l5] st S Q = pm_V d 65 9 [l0, l1, l2, l3, .ref xn, l5] (.ref xn :: st) S Q := pv_aload (pm_cdi rfl dX6_value_7) rfl
theorem q65_7N : pm_V d 65 7 [l0, l1, l2, l3, .null, l5] st S Q = pm_V d 65 9 [l0, l1, l2, l3, .null, l5] (.null :: st) S Q := pv_aloadN (pm_cdi rfl dX6_value_7) rfl
theorem q65_9 : pm_V d 65 9 [l0, l1, l2, l3, l4, l5] (.ref xn :: st) S Q = pm_V d 65 12 [l0, l1, l2, l3, l4, l5] st S Q := pv_ifnullA (pm_cdi rfl dX6_value_9)
theorem q65_9N : pm_V d 65 9 [l0, l1, l2, l3, l4, l5] (.null :: st) S Q = pm_V d 65 19 [l0, l1, l2, l3, l4, l5] st S Q := pv_ifnullN (pm_cdi rfl dX6_value_9) rfl
theorem q65_12 : pm_V d 65 12 [l0, l1, .int xi, l3, l4, l5] st S Q = pm_V d 65 13 [l0, l1, .int xi, l3, l4, l5] (.int xi :: st) S Q := pv_iload_n (pm_cdi rfl dX6_value_12) rfl
theorem q65_13 : pm_V (d + 1) 65 13 [l0, l1, l2, l3, l4, l5] [.int v0i] S Q = pm_N d 82 [.int v0i] S (fun r S' => pm_V (d + 1) 65 16 [l0, l1, l2, l3, l4, l5] (r.toList ++ []) S' Q) := pv_callS (as := [.int v0i]) (pm_cdi rfl dX6_value_13) (by decide +kernel) (by decide +kernel) (show _ = _ from (by decide +kernel : 1 = pm_np 82)) rfl (Nat.le_of_ble_eq_true rfl)
theorem q65_16 : pm_V d 65 16 [l0, l1, l2, l3, l4, l5] (.int xi :: st) S Q = if xi = 0 then pm_V d 65 19 [l0, l1, l2, l3, l4, l5] st S Q else pm_V d 65 23 [l0, l1, l2, l3, l4, l5] st S Q := pv_if_ne (pm_cdi rfl dX6_value_16) rfl
theorem q65_19 : pm_V d 65 19 [l0, l1, l2, l3, l4, l5] st S Q = pm_V d 65 22 [l0, l1, l2, l3, l4, l5] (.long (-1000001) :: st) S Q := pv_ldc2 (pm_cdi rfl dX6_value_19) (by decide +kernel)
theorem q65_22 : pm_V d 65 22 [l0, l1, l2, l3, l4, l5] [.long xj] S Q = Q (some (.long xj)) S := pv_rL (pm_cdi rfl dX6_value_22) (by decide +kernel)
theorem q65_23 : pm_V d 65 23 [.ref xn, l1, l2, l3, l4, l5] st S Q = pm_V d 65 24 [.ref xn, l1, l2, l3, l4, l5] (.ref xn :: st) S Q := pv_aload_n (pm_cdi rfl dX6_value_23) rfl
theorem q65_24 : pm_V d 65 24 [l0, l1, l2, l3, .ref xn, l5] st S Q = pm_V d 65 26 [l0, l1, l2, l3, .ref xn, l5] (.ref xn :: st) S Q := pv_aload (pm_cdi rfl dX6_value_24) rfl
theorem q65_24N : pm_V d 65 24 [l0, l1, l2, l3, .null, l5] st S Q = pm_V d 65 26 [l0, l1, l2, l3, .null, l5] (.null :: st) S Q := pv_aloadN (pm_cdi rfl dX6_value_24) rfl
theorem q65_26 (hs : pm_sh S an = .inr 6) : pm_V (d + 1) 65 26 [l0, l1, l2, l3, l4, l5] [v0v, .ref an] S Q = pm_N d 84 [.ref an, v0v] S (fun r S' => pm_V (d + 1) 65 29 [l0, l1, l2, l3, l4, l5] (r.toList ++ []) S' Q) := pv_callV (as := [v0v]) (pm_cdi rfl dX6_value_26) (Or.inl (by decide +kernel)) (by decide +kernel) (show _ = _ from (by decide +kernel : 1 = pm_np 84)) rfl (Nat.le_of_ble_eq_true rfl) (cl := 6) (by decide +kernel) hs
theorem q65_29 : pm_V d 65 29 [l0, l1, l2, l3, l4, l5] (.int xi :: st) S Q = if xi = 0 then pm_V d 65 36 [l0, l1, l2, l3, l4, l5] st S Q else pm_V d 65 32 [l0, l1, l2, l3, l4, l5] st S Q := pv_if_eq (pm_cdi rfl dX6_value_29) rfl
theorem q65_32 : pm_V d 65 32 [l0, l1, l2, l3, l4, l5] st S Q = pm_V d 65 35 [l0, l1, l2, l3, l4, l5] (.long (-1000003) :: st) S Q := pv_ldc2 (pm_cdi rfl dX6_value_32) (by decide +kernel)
theorem q65_35 : pm_V d 65 35 [l0, l1, l2, l3, l4, l5] [.long xj] S Q = Q (some (.long xj)) S := pv_rL (pm_cdi rfl dX6_value_35) (by decide +kernel)
theorem q65_36 : pm_V d 65 36 [l0, l1, l2, l3, .ref xn, l5] st S Q = pm_V d 65 38 [l0, l1, l2, l3, .ref xn, l5] (.ref xn :: st) S Q := pv_aload (pm_cdi rfl dX6_value_36) rfl
theorem q65_36N : pm_V d 65 36 [l0, l1, l2, l3, .null, l5] st S Q = pm_V d 65 38 [l0, l1, l2, l3, .null, l5] (.null :: st) S Q := pv_aloadN (pm_cdi rfl dX6_value_36) rfl
theorem q65_38 : pm_V d 65 38 [l0, l1, .int xi, l3, l4, l5] st S Q = pm_V d 65 39 [l0, l1, .int xi, l3, l4, l5] (.int xi :: st) S Q := pv_iload_n (pm_cdi rfl dX6_value_38) rfl
theorem q65_39 (hs : pm_sh S an = .inr 0) : pm_V (d + 1) 65 39 [l0, l1, l2, l3, l4, l5] [.int v0i, .ref an] S Q = pm_N d 5 [.ref an, .int v0i] S (fun r S' => pm_V (d + 1) 65 42 [l0, l1, l2, l3, l4, l5] (r.toList ++ []) S' Q) := pv_callV (as := [.int v0i]) (pm_cdi rfl dX6_value_39) (Or.inl (by decide +kernel)) (by decide +kernel) (show _ = _ from (by decide +kernel : 1 = pm_np 5)) rfl (Nat.le_of_ble_eq_true rfl) (cl := 0) (by decide +kernel) hs
theorem q65_42 : pm_V d 65 42 [l0, l1, l2, l3, .ref yn, l5] (.ref xn :: st) S Q = pm_V d 65 44 [l0, l1, l2, l3, .ref yn, .ref xn] st S Q := pv_astore (pm_cdi rfl dX6_value_42) rfl
theorem q65_42N : pm_V d 65 42 [l0, l1, l2, l3, .ref yn, l5] (.null :: st) S Q = pm_V d 65 44 [l0, l1, l2, l3, .ref yn, .null] st S Q := pv_astoreN (pm_cdi rfl dX6_value_42) rfl
theorem q65_44 : pm_V d 65 44 [l0, l1, l2, l3, l4, .ref xn] st S Q = pm_V d 65 46 [l0, l1, l2, l3, l4, .ref xn] (.ref xn :: st) S Q := pv_aload (pm_cdi rfl dX6_value_44) rfl
theorem q65_44N : pm_V d 65 44 [l0, l1, l2, l3, l4, .null] st S Q = pm_V d 65 46 [l0, l1, l2, l3, l4, .null] (.null :: st) S Q := pv_aloadN (pm_cdi rfl dX6_value_44) rfl
theorem q65_46 : pm_V d 65 46 [l0, l1, l2, .int xi, l4, l5] st S Q = pm_V d 65 47 [l0, l1, l2, .int xi, l4, l5] (.int xi :: st) S Q := pv_iload_n (pm_cdi rfl dX6_value_46) rfl
theorem q65_47 (hs : pm_sh S an = .inr 3) : pm_V (d + 1) 65 47 [l0, l1, l2, l3, l4, l5] [.int v0i, .ref an] S Q = pm_N d 20 [.ref an, .int v0i] S (fun r S' => pm_V (d + 1) 65 50 [l0, l1, l2, l3, l4, l5] (r.toList ++ []) S' Q) := pv_callV (as := [.int v0i]) (pm_cdi rfl dX6_value_47) (Or.inl (by decide +kernel)) (by decide +kernel) (show _ = _ from (by decide +kernel : 1 = pm_np 20)) rfl (Nat.le_of_ble_eq_true rfl) (cl := 3) (by decide +kernel) hs
theorem q65_50 : pm_V d 65 50 [l0, l1, l2, l3, l4, l5] (.int xi :: st) S Q = if xi = 0 then pm_V d 65 63 [l0, l1, l2, l3, l4, l5] st S Q else pm_V d 65 53 [l0, l1, l2, l3, l4, l5] st S Q := pv_if_eq (pm_cdi rfl dX6_value_50) rfl
theorem q65_53 : pm_V d 65 53 [l0, l1, l2, l3, l4, .ref xn] st S Q = pm_V d 65 55 [l0, l1, l2, l3, l4, .ref xn] (.ref xn :: st) S Q := pv_aload (pm_cdi rfl dX6_value_53) rfl
theorem q65_53N : pm_V d 65 53 [l0, l1, l2, l3, l4, .null] st S Q = pm_V d 65 55 [l0, l1, l2, l3, l4, .null] (.null :: st) S Q := pv_aloadN (pm_cdi rfl dX6_value_53) rfl
theorem q65_55 (hs : pm_sh S an = .inr 3) : pm_V d 65 55 [l0, l1, l2, l3, l4, l5] (.ref an :: st) S Q = pm_V d 65 58 [l0, l1, l2, l3, l4, l5] (va_rf (pm_gr S an 0) :: st) S Q := pv_getA (pm_cdi rfl dX6_value_55) (by decide +kernel) (by decide +kernel) (by decide +kernel) hs
theorem q65_58 : pm_V d 65 58 [l0, l1, l2, .int xi, l4, l5] st S Q = pm_V d 65 59 [l0, l1, l2, .int xi, l4, l5] (.int xi :: st) S Q := pv_iload_n (pm_cdi rfl dX6_value_58) rfl
theorem q65_59 (hs : pm_ar S an 1 xi = true) : pm_V d 65 59 [l0, l1, l2, l3, l4, l5] (.int xi :: .ref an :: st) S Q = pm_V d 65 60 [l0, l1, l2, l3, l4, l5] (.long (pm_zl S an xi.toNatClampNeg) :: st) S Q := pv_lald (pm_cdi rfl dX6_value_59) hs
theorem q65_60 : pm_V d 65 60 [l0, l1, l2, l3, l4, l5] st S Q = pm_V d 65 66 [l0, l1, l2, l3, l4, l5] st S Q := pv_goto (pm_cdi rfl dX6_value_60) rfl
theorem q65_63 : pm_V d 65 63 [l0, l1, l2, l3, l4, l5] st S Q = pm_V d 65 66 [l0, l1, l2, l3, l4, l5] (.long (-1000001) :: st) S Q := pv_ldc2 (pm_cdi rfl dX6_value_63) (by decide +kernel)
theorem q65_66 : pm_V d 65 66 [l0, l1, l2, l3, l4, l5] [.long xj] S Q = Q (some (.long xj)) S := pv_rL (pm_cdi rfl dX6_value_66) (by decide +kernel)
theorem q65_e : pm_N d 65 [.ref an, .int v0i, .int v1i, .int v2i] S Q = pm_V d 65 0 [.ref an, .int v0i, .int v1i, .int v2i, pm_j, pm_j] [] S Q := pv_ent (Nat.le_of_ble_eq_true rfl) rfl
/-! 66: ViewsJoins.up(IIII)I -/
theorem dX6_up_0 : decode cX6_up 0 = .ok (.aload_n 0, 1) := by decide +kernel
theorem dX6_up_1 : decode cX6_up 1 = .ok (.iload_n 1, 1) := by decide +kernel
theorem dX6_up_2 : decode cX6_up 2 = .ok (.invokevirtual 56, 3) := by decide +kernel
theorem dX6_up_5 : decode cX6_up 5 = .ok (.astore 5, 2) := by decide +kernel
theorem dX6_up_7 : decode cX6_up 7 = .ok (.aload 5, 2) := by decide +kernel
theorem dX6_up_9 : decode cX6_up 9 = .ok (.ifnull 26, 3) := by decide +kernel
theorem dX6_up_12 : decode cX6_up 12 = .ok (.aload 5, 2) := by decide +kernel
theorem dX6_up_14 : decode cX6_up 14 = .ok (.getfield 60, 3) := by decide +kernel
theorem dX6_up_17 : decode cX6_up 17 = .ok (.ifCond .eq 18, 3) := by decide +kernel
theorem dX6_up_20 : decode cX6_up 20 = .ok (.iload_n 2, 1) := by decide +kernel
theorem dX6_up_21 : decode cX6_up 21 = .ok (.invokestatic 83, 3) := by decide +kernel
theorem dX6_up_24 : decode cX6_up 24 = .ok (.ifCond .eq 11, 3) := by decide +kernel
theorem dX6_up_27 : decode cX6_up 27 = .ok (.iload 4, 2) := by decide +kernel
theorem dX6_up_29 : decode cX6_up 29 = .ok (.invokestatic 83, 3) := by decide +kernel
theorem dX6_up_32 : decode cX6_up 32 = .ok (.ifCond .ne 6, 3) := by decide +kernel
theorem dX6_up_35 : decode cX6_up 35 = .ok (.ldc 42, 2) := by decide +kernel
theorem dX6_up_37 : decode cX6_up 37 = .ok (.ireturn, 1) := by decide +kernel
theorem dX6_up_38 : decode cX6_up 38 = .ok (.aload_n 0, 1) := by decide +kernel
theorem dX6_up_39 : decode cX6_up 39 = .ok (.aload 5, 2) := by decide +kernel
theorem dX6_up_41 : decode cX6_up 41 = .ok (.invokevirtual 122, 3) := by decide +kernel
theorem dX6_up_44 : decode cX6_up 44 = .ok (.ifCond .eq 6, 3) := by decide +kernel
theorem dX6_up_47 : decode cX6_up 47 = .ok (.ldc 126, 2) := by decide +kernel
theorem dX6_up_49 : decode cX6_up 49 = .ok (.ireturn, 1) := by decide +kernel
theorem dX6_up_50 : decode cX6_up 50 = .ok (.aload 5, 2) := by decide +kernel
theorem dX6_up_52 : decode cX6_up 52 = .ok (.iload_n 2, 1) := by decide +kernel
theorem dX6_up_53 : decode cX6_up 53 = .ok (.invokevirtual 86, 3) := by decide +kernel
theorem dX6_up_56 : decode cX6_up 56 = .ok (.astore 6, 2) := by decide +kernel
theorem dX6_up_58 : decode cX6_up 58 = .ok (.aload 6, 2) := by decide +kernel
theorem dX6_up_60 : decode cX6_up 60 = .ok (.iload_n 3, 1) := by decide +kernel
theorem dX6_up_61 : decode cX6_up 61 = .ok (.invokevirtual 67, 3) := by decide +kernel
theorem dX6_up_64 : decode cX6_up 64 = .ok (.ifCond .ne 6, 3) := by decide +kernel
theorem dX6_up_67 : decode cX6_up 67 = .ok (.ldc 42, 2) := by decide +kernel
theorem dX6_up_69 : decode cX6_up 69 = .ok (.ireturn, 1) := by decide +kernel
theorem dX6_up_70 : decode cX6_up 70 = .ok (.aload 6, 2) := by decide +kernel
theorem dX6_up_72 : decode cX6_up 72 = .ok (.iload 4, 2) := by decide +kernel
theorem dX6_up_74 : decode cX6_up 74 = .ok (.invokevirtual 148, 3) := by decide +kernel
theorem dX6_up_77 : decode cX6_up 77 = .ok (.iload_n 3, 1) := by decide +kernel
theorem dX6_up_78 : decode cX6_up 78 = .ok (.iaload, 1) := by decide +kernel
theorem dX6_up_79 : decode cX6_up 79 = .ok (.istore 7, 2) := by decide +kernel
theorem dX6_up_81 : decode cX6_up 81 = .ok (.iload 7, 2) := by decide +kernel
theorem dX6_up_83 : decode cX6_up 83 = .ok (.ifCond .ge 8, 3) := by decide +kernel
theorem dX6_up_86 : decode cX6_up 86 = .ok (.ldc 152, 2) := by decide +kernel
theorem dX6_up_88 : decode cX6_up 88 = .ok (.goto 5, 3) := by decide +kernel
theorem dX6_up_91 : decode cX6_up 91 = .ok (.iload 7, 2) := by decide +kernel
theorem dX6_up_93 : decode cX6_up 93 = .ok (.ireturn, 1) := by decide +kernel
theorem q66_0 : pm_V d 66 0 [.ref xn, l1, l2, l3, l4, l5, l6, l7] st S Q = pm_V d 66 1 [.ref xn, l1, l2, l3, l4, l5, l6, l7] (.ref xn :: st) S Q := pv_aload_n (pm_cdi rfl dX6_up_0) rfl
theorem q66_1 : pm_V d 66 1 [l0, .int xi, l2, l3, l4, l5, l6, l7] st S Q = pm_V d 66 2 [l0, .int xi, l2, l3, l4, l5, l6, l7] (.int xi :: st) S Q := pv_iload_n (pm_cdi rfl dX6_up_1) rfl
theorem q66_2 (hs : pm_sh S an = .inr 6) : pm_V (d + 1) 66 2 [l0, l1, l2, l3, l4, l5, l6, l7] [.int v0i, .ref an] S Q = pm_N d 75 [.ref an, .int v0i] S (fun r S' => pm_V (d + 1) 66 5 [l0, l1, l2, l3, l4, l5, l6, l7] (r.toList ++ []) S' Q) := pv_callV (as := [.int v0i]) (pm_cdi rfl dX6_up_2) (Or.inl (by decide +kernel)) (by decide +kernel) (show _ = _ from (by decide +kernel : 1 = pm_np 75)) rfl (Nat.le_of_ble_eq_true rfl) (cl := 6) (by decide +kernel) hs
theorem q66_5 : pm_V d 66 5 [l0, l1, l2, l3, .int yi, l5, l6, l7] (.ref xn :: st) S Q = pm_V d 66 7 [l0, l1, l2, l3, .int yi, .ref xn, l6, l7] st S Q := pv_astore (pm_cdi rfl dX6_up_5) rfl
theorem q66_5N : pm_V d 66 5 [l0, l1, l2, l3, .int yi, l5, l6, l7] (.null :: st) S Q = pm_V d 66 7 [l0, l1, l2, l3, .int yi, .null, l6, l7] st S Q := pv_astoreN (pm_cdi rfl dX6_up_5) rfl
theorem q66_7 : pm_V d 66 7 [l0, l1, l2, l3, l4, .ref xn, l6, l7] st S Q = pm_V d 66 9 [l0, l1, l2, l3, l4, .ref xn, l6, l7] (.ref xn :: st) S Q := pv_aload (pm_cdi rfl dX6_up_7) rfl
theorem q66_7N : pm_V d 66 7 [l0, l1, l2, l3, l4, .null, l6, l7] st S Q = pm_V d 66 9 [l0, l1, l2, l3, l4, .null, l6, l7] (.null :: st) S Q := pv_aloadN (pm_cdi rfl dX6_up_7) rfl
theorem q66_9 : pm_V d 66 9 [l0, l1, l2, l3, l4, l5, l6, l7] (.ref xn :: st) S Q = pm_V d 66 12 [l0, l1, l2, l3, l4, l5, l6, l7] st S Q := pv_ifnullA (pm_cdi rfl dX6_up_9)
theorem q66_9N : pm_V d 66 9 [l0, l1, l2, l3, l4, l5, l6, l7] (.null :: st) S Q = pm_V d 66 35 [l0, l1, l2, l3, l4, l5, l6, l7] st S Q := pv_ifnullN (pm_cdi rfl dX6_up_9) rfl
theorem q66_12 : pm_V d 66 12 [l0, l1, l2, l3, l4, .ref xn, l6, l7] st S Q = pm_V d 66 14 [l0, l1, l2, l3, l4, .ref xn, l6, l7] (.ref xn :: st) S Q := pv_aload (pm_cdi rfl dX6_up_12) rfl
theorem q66_12N : pm_V d 66 12 [l0, l1, l2, l3, l4, .null, l6, l7] st S Q = pm_V d 66 14 [l0, l1, l2, l3, l4, .null, l6, l7] (.null :: st) S Q := pv_aloadN (pm_cdi rfl dX6_up_12) rfl
theorem q66_14 (hs : pm_sh S an = .inr 0) : pm_V d 66 14 [l0, l1, l2, l3, l4, l5, l6, l7] (.ref an :: st) S Q = pm_V d 66 17 [l0, l1, l2, l3, l4, l5, l6, l7] (.int (pm_gi S an 6) :: st) S Q := pv_getI (pm_cdi rfl dX6_up_14) (by decide +kernel) (by decide +kernel) (by decide +kernel) hs
theorem q66_17 : pm_V d 66 17 [l0, l1, l2, l3, l4, l5, l6, l7] (.int xi :: st) S Q = if xi = 0 then pm_V d 66 35 [l0, l1, l2, l3, l4, l5, l6, l7] st S Q else pm_V d 66 20 [l0, l1, l2, l3, l4, l5, l6, l7] st S Q := pv_if_eq (pm_cdi rfl dX6_up_17) rfl
theorem q66_20 : pm_V d 66 20 [l0, l1, .int xi, l3, l4, l5, l6, l7] st S Q = pm_V d 66 21 [l0, l1, .int xi, l3, l4, l5, l6, l7] (.int xi :: st) S Q := pv_iload_n (pm_cdi rfl dX6_up_20) rfl
theorem q66_21 : pm_V (d + 1) 66 21 [l0, l1, l2, l3, l4, l5, l6, l7] [.int v0i] S Q = pm_N d 82 [.int v0i] S (fun r S' => pm_V (d + 1) 66 24 [l0, l1, l2, l3, l4, l5, l6, l7] (r.toList ++ []) S' Q) := pv_callS (as := [.int v0i]) (pm_cdi rfl dX6_up_21) (by decide +kernel) (by decide +kernel) (show _ = _ from (by decide +kernel : 1 = pm_np 82)) rfl (Nat.le_of_ble_eq_true rfl)
theorem q66_24 : pm_V d 66 24 [l0, l1, l2, l3, l4, l5, l6, l7] (.int xi :: st) S Q = if xi = 0 then pm_V d 66 35 [l0, l1, l2, l3, l4, l5, l6, l7] st S Q else pm_V d 66 27 [l0, l1, l2, l3, l4, l5, l6, l7] st S Q := pv_if_eq (pm_cdi rfl dX6_up_24) rfl
theorem q66_27 : pm_V d 66 27 [l0, l1, l2, l3, .int xi, l5, l6, l7] st S Q = pm_V d 66 29 [l0, l1, l2, l3, .int xi, l5, l6, l7] (.int xi :: st) S Q := pv_iload (pm_cdi rfl dX6_up_27) rfl
theorem q66_29 : pm_V (d + 1) 66 29 [l0, l1, l2, l3, l4, l5, l6, l7] [.int v0i] S Q = pm_N d 82 [.int v0i] S (fun r S' => pm_V (d + 1) 66 32 [l0, l1, l2, l3, l4, l5, l6, l7] (r.toList ++ []) S' Q) := pv_callS (as := [.int v0i]) (pm_cdi rfl dX6_up_29) (by decide +kernel) (by decide +kernel) (show _ = _ from (by decide +kernel : 1 = pm_np 82)) rfl (Nat.le_of_ble_eq_true rfl)
theorem q66_32 : pm_V d 66 32 [l0, l1, l2, l3, l4, l5, l6, l7] (.int xi :: st) S Q = if xi = 0 then pm_V d 66 35 [l0, l1, l2, l3, l4, l5, l6, l7] st S Q else pm_V d 66 38 [l0, l1, l2, l3, l4, l5, l6, l7] st S Q := pv_if_ne (pm_cdi rfl dX6_up_32) rfl
theorem q66_35 : pm_V d 66 35 [l0, l1, l2, l3, l4, l5, l6, l7] st S Q = pm_V d 66 37 [l0, l1, l2, l3, l4, l5, l6, l7] (.int (-1000001) :: st) S Q := pv_ldc (pm_cdi rfl dX6_up_35) (by decide +kernel)
theorem q66_37 : pm_V d 66 37 [l0, l1, l2, l3, l4, l5, l6, l7] [.int xi] S Q = Q (some (.int xi)) S := pv_rI (pm_cdi rfl dX6_up_37) (by decide +kernel)
theorem q66_38 : pm_V d 66 38 [.ref xn, l1, l2, l3, l4, l5, l6, l7] st S Q = pm_V d 66 39 [.ref xn, l1, l2, l3, l4, l5, l6, l7] (.ref xn :: st) S Q := pv_aload_n (pm_cdi rfl dX6_up_38) rfl
theorem q66_39 : pm_V d 66 39 [l0, l1, l2, l3, l4, .ref xn, l6, l7] st S Q = pm_V d 66 41 [l0, l1, l2, l3, l4, .ref xn, l6, l7] (.ref xn :: st) S Q := pv_aload (pm_cdi rfl dX6_up_39) rfl
theorem q66_39N : pm_V d 66 39 [l0, l1, l2, l3, l4, .null, l6, l7] st S Q = pm_V d 66 41 [l0, l1, l2, l3, l4, .null, l6, l7] (.null :: st) S Q := pv_aloadN (pm_cdi rfl dX6_up_39) rfl
theorem q66_41 (hs : pm_sh S an = .inr 6) : pm_V (d + 1) 66 41 [l0, l1, l2, l3, l4, l5, l6, l7] [v0v, .ref an] S Q = pm_N d 84 [.ref an, v0v] S (fun r S' => pm_V (d + 1) 66 44 [l0, l1, l2, l3, l4, l5, l6, l7] (r.toList ++ []) S' Q) := pv_callV (as := [v0v]) (pm_cdi rfl dX6_up_41) (Or.inl (by decide +kernel)) (by decide +kernel) (show _ = _ from (by decide +kernel : 1 = pm_np 84)) rfl (Nat.le_of_ble_eq_true rfl) (cl := 6) (by decide +kernel) hs
theorem q66_44 : pm_V d 66 44 [l0, l1, l2, l3, l4, l5, l6, l7] (.int xi :: st) S Q = if xi = 0 then pm_V d 66 50 [l0, l1, l2, l3, l4, l5, l6, l7] st S Q else pm_V d 66 47 [l0, l1, l2, l3, l4, l5, l6, l7] st S Q := pv_if_eq (pm_cdi rfl dX6_up_44) rfl
theorem q66_47 : pm_V d 66 47 [l0, l1, l2, l3, l4, l5, l6, l7] st S Q = pm_V d 66 49 [l0, l1, l2, l3, l4, l5, l6, l7] (.int (-1000003) :: st) S Q := pv_ldc (pm_cdi rfl dX6_up_47) (by decide +kernel)
theorem q66_49 : pm_V d 66 49 [l0, l1, l2, l3, l4, l5, l6, l7] [.int xi] S Q = Q (some (.int xi)) S := pv_rI (pm_cdi rfl dX6_up_49) (by decide +kernel)
theorem q66_50 : pm_V d 66 50 [l0, l1, l2, l3, l4, .ref xn, l6, l7] st S Q = pm_V d 66 52 [l0, l1, l2, l3, l4, .ref xn, l6, l7] (.ref xn :: st) S Q := pv_aload (pm_cdi rfl dX6_up_50) rfl
theorem q66_50N : pm_V d 66 50 [l0, l1, l2, l3, l4, .null, l6, l7] st S Q = pm_V d 66 52 [l0, l1, l2, l3, l4, .null, l6, l7] (.null :: st) S Q := pv_aloadN (pm_cdi rfl dX6_up_50) rfl
theorem q66_52 : pm_V d 66 52 [l0, l1, .int xi, l3, l4, l5, l6, l7] st S Q = pm_V d 66 53 [l0, l1, .int xi, l3, l4, l5, l6, l7] (.int xi :: st) S Q := pv_iload_n (pm_cdi rfl dX6_up_52) rfl
theorem q66_53 (hs : pm_sh S an = .inr 0) : pm_V (d + 1) 66 53 [l0, l1, l2, l3, l4, l5, l6, l7] [.int v0i, .ref an] S Q = pm_N d 5 [.ref an, .int v0i] S (fun r S' => pm_V (d + 1) 66 56 [l0, l1, l2, l3, l4, l5, l6, l7] (r.toList ++ []) S' Q) := pv_callV (as := [.int v0i]) (pm_cdi rfl dX6_up_53) (Or.inl (by decide +kernel)) (by decide +kernel) (show _ = _ from (by decide +kernel : 1 = pm_np 5)) rfl (Nat.le_of_ble_eq_true rfl) (cl := 0) (by decide +kernel) hs
theorem q66_56 : pm_V d 66 56 [l0, l1, l2, l3, l4, .ref yn, l6, l7] (.ref xn :: st) S Q = pm_V d 66 58 [l0, l1, l2, l3, l4, .ref yn, .ref xn, l7] st S Q := pv_astore (pm_cdi rfl dX6_up_56) rfl
theorem q66_56N : pm_V d 66 56 [l0, l1, l2, l3, l4, .ref yn, l6, l7] (.null :: st) S Q = pm_V d 66 58 [l0, l1, l2, l3, l4, .ref yn, .null, l7] st S Q := pv_astoreN (pm_cdi rfl dX6_up_56) rfl
theorem q66_58 : pm_V d 66 58 [l0, l1, l2, l3, l4, l5, .ref xn, l7] st S Q = pm_V d 66 60 [l0, l1, l2, l3, l4, l5, .ref xn, l7] (.ref xn :: st) S Q := pv_aload (pm_cdi rfl dX6_up_58) rfl
theorem q66_58N : pm_V d 66 58 [l0, l1, l2, l3, l4, l5, .null, l7] st S Q = pm_V d 66 60 [l0, l1, l2, l3, l4, l5, .null, l7] (.null :: st) S Q := pv_aloadN (pm_cdi rfl dX6_up_58) rfl
theorem q66_60 : pm_V d 66 60 [l0, l1, l2, .int xi, l4, l5, l6, l7] st S Q = pm_V d 66 61 [l0, l1, l2, .int xi, l4, l5, l6, l7] (.int xi :: st) S Q := pv_iload_n (pm_cdi rfl dX6_up_60) rfl
theorem q66_61 (hs : pm_sh S an = .inr 3) : pm_V (d + 1) 66 61 [l0, l1, l2, l3, l4, l5, l6, l7] [.int v0i, .ref an] S Q = pm_N d 20 [.ref an, .int v0i] S (fun r S' => pm_V (d + 1) 66 64 [l0, l1, l2, l3, l4, l5, l6, l7] (r.toList ++ []) S' Q) := pv_callV (as := [.int v0i]) (pm_cdi rfl dX6_up_61) (Or.inl (by decide +kernel)) (by decide +kernel) (show _ = _ from (by decide +kernel : 1 = pm_np 20)) rfl (Nat.le_of_ble_eq_true rfl) (cl := 3) (by decide +kernel) hs
theorem q66_64 : pm_V d 66 64 [l0, l1, l2, l3, l4, l5, l6, l7] (.int xi :: st) S Q = if xi = 0 then pm_V d 66 67 [l0, l1, l2, l3, l4, l5, l6, l7] st S Q else pm_V d 66 70 [l0, l1, l2, l3, l4, l5, l6, l7] st S Q := pv_if_ne (pm_cdi rfl dX6_up_64) rfl
theorem q66_67 : pm_V d 66 67 [l0, l1, l2, l3, l4, l5, l6, l7] st S Q = pm_V d 66 69 [l0, l1, l2, l3, l4, l5, l6, l7] (.int (-1000001) :: st) S Q := pv_ldc (pm_cdi rfl dX6_up_67) (by decide +kernel)
theorem q66_69 : pm_V d 66 69 [l0, l1, l2, l3, l4, l5, l6, l7] [.int xi] S Q = Q (some (.int xi)) S := pv_rI (pm_cdi rfl dX6_up_69) (by decide +kernel)
theorem q66_70 : pm_V d 66 70 [l0, l1, l2, l3, l4, l5, .ref xn, l7] st S Q = pm_V d 66 72 [l0, l1, l2, l3, l4, l5, .ref xn, l7] (.ref xn :: st) S Q := pv_aload (pm_cdi rfl dX6_up_70) rfl
theorem q66_70N : pm_V d 66 70 [l0, l1, l2, l3, l4, l5, .null, l7] st S Q = pm_V d 66 72 [l0, l1, l2, l3, l4, l5, .null, l7] (.null :: st) S Q := pv_aloadN (pm_cdi rfl dX6_up_70) rfl
theorem q66_72 : pm_V d 66 72 [l0, l1, l2, l3, .int xi, l5, l6, l7] st S Q = pm_V d 66 74 [l0, l1, l2, l3, .int xi, l5, l6, l7] (.int xi :: st) S Q := pv_iload (pm_cdi rfl dX6_up_72) rfl
theorem q66_74 (hs : pm_sh S an = .inr 3) : pm_V (d + 1) 66 74 [l0, l1, l2, l3, l4, l5, l6, l7] [.int v0i, .ref an] S Q = pm_N d 22 [.ref an, .int v0i] S (fun r S' => pm_V (d + 1) 66 77 [l0, l1, l2, l3, l4, l5, l6, l7] (r.toList ++ []) S' Q) := pv_callV (as := [.int v0i]) (pm_cdi rfl dX6_up_74) (Or.inl (by decide +kernel)) (by decide +kernel) (show _ = _ from (by decide +kernel : 1 = pm_np 22)) rfl (Nat.le_of_ble_eq_true rfl) (cl := 3) (by decide +kernel) hs
theorem q66_77 : pm_V d 66 77 [l0, l1, l2, .int xi, l4, l5, l6, l7] st S Q = pm_V d 66 78 [l0, l1, l2, .int xi, l4, l5, l6, l7] (.int xi :: st) S Q := pv_iload_n (pm_cdi rfl dX6_up_77) rfl
theorem q66_78 (hs : pm_ar S an 0 xi = true) : pm_V d 66 78 [l0, l1, l2, l3, l4, l5, l6, l7] (.int xi :: .ref an :: st) S Q = pm_V d 66 79 [l0, l1, l2, l3, l4, l5, l6, l7] (.int (pm_zi S an xi.toNatClampNeg) :: st) S Q := pv_iald (pm_cdi rfl dX6_up_78) hs
theorem q66_79 : pm_V d 66 79 [l0, l1, l2, l3, l4, l5, .ref yn, l7] (.int xi :: st) S Q = pm_V d 66 81 [l0, l1, l2, l3, l4, l5, .ref yn, .int xi] st S Q := pv_istore (pm_cdi rfl dX6_up_79) rfl
theorem q66_81 : pm_V d 66 81 [l0, l1, l2, l3, l4, l5, l6, .int xi] st S Q = pm_V d 66 83 [l0, l1, l2, l3, l4, l5, l6, .int xi] (.int xi :: st) S Q := pv_iload (pm_cdi rfl dX6_up_81) rfl
theorem q66_83 : pm_V d 66 83 [l0, l1, l2, l3, l4, l5, l6, l7] (.int xi :: st) S Q = if xi < 0 then pm_V d 66 86 [l0, l1, l2, l3, l4, l5, l6, l7] st S Q else pm_V d 66 91 [l0, l1, l2, l3, l4, l5, l6, l7] st S Q := pv_if_ge (pm_cdi rfl dX6_up_83) rfl
theorem q66_86 : pm_V d 66 86 [l0, l1, l2, l3, l4, l5, l6, l7] st S Q = pm_V d 66 88 [l0, l1, l2, l3, l4, l5, l6, l7] (.int (-1000004) :: st) S Q := pv_ldc (pm_cdi rfl dX6_up_86) (by decide +kernel)
theorem q66_88 : pm_V d 66 88 [l0, l1, l2, l3, l4, l5, l6, l7] st S Q = pm_V d 66 93 [l0, l1, l2, l3, l4, l5, l6, l7] st S Q := pv_goto (pm_cdi rfl dX6_up_88) rfl
theorem q66_91 : pm_V d 66 91 [l0, l1, l2, l3, l4, l5, l6, .int xi] st S Q = pm_V d 66 93 [l0, l1, l2, l3, l4, l5, l6, .int xi] (.int xi :: st) S Q := pv_iload (pm_cdi rfl dX6_up_91) rfl
theorem q66_93 : pm_V d 66 93 [l0, l1, l2, l3, l4, l5, l6, l7] [.int xi] S Q = Q (some (.int xi)) S := pv_rI (pm_cdi rfl dX6_up_93) (by decide +kernel)
theorem q66_e : pm_N d 66 [.ref an, .int v0i, .int v1i, .int v2i, .int v3i] S Q = pm_V d 66 0 [.ref an, .int v0i, .int v1i, .int v2i, .int v3i, pm_j, pm_j, pm_j] [] S Q := pv_ent (Nat.le_of_ble_eq_true rfl) rfl
/-! 67: ViewsJoins.down(IIII)I -/
theorem dX6_down_0 : decode cX6_down 0 = .ok (.aload_n 0, 1) := by decide +kernel
theorem dX6_down_1 : decode cX6_down 1 = .ok (.iload_n 1, 1) := by decide +kernel
theorem dX6_down_2 : decode cX6_down 2 = .ok (.invokevirtual 56, 3) := by decide +kernel
theorem dX6_down_5 : decode cX6_down 5 = .ok (.astore 5, 2) := by decide +kernel
theorem dX6_down_7 : decode cX6_down 7 = .ok (.aload 5, 2) := by decide +kernel
theorem dX6_down_9 : decode cX6_down 9 = .ok (.ifnull 26, 3) := by decide +kernel
theorem dX6_down_12 : decode cX6_down 12 = .ok (.aload 5, 2) := by decide +kernel
theorem dX6_down_14 : decode cX6_down 14 = .ok (.getfield 60, 3) := by decide +kernel
theorem dX6_down_17 : decode cX6_down 17 = .ok (.ifCond .eq 18, 3) := by decide +kernel
theorem dX6_down_20 : decode cX6_down 20 = .ok (.iload_n 2, 1) := by decide +kernel
theorem dX6_down_21 : decode cX6_down 21 = .ok (.invokestatic 83, 3) := by decide +kernel
theorem dX6_down_24 : decode cX6_down 24 = .ok (.ifCond .eq 11, 3) := by decide +kernel
theorem dX6_down_27 : decode cX6_down 27 = .ok (.iload 4, 2) := by decide +kernel
theorem dX6_down_29 : decode cX6_down 29 = .ok (.invokestatic 83, 3) := by decide +kernel
theorem dX6_down_32 : decode cX6_down 32 = .ok (.ifCond .ne 6, 3) := by decide +kernel
theorem dX6_down_35 : decode cX6_down 35 = .ok (.ldc 42, 2) := by decide +kernel
theorem dX6_down_37 : decode cX6_down 37 = .ok (.ireturn, 1) := by decide +kernel
theorem dX6_down_38 : decode cX6_down 38 = .ok (.aload_n 0, 1) := by decide +kernel
theorem dX6_down_39 : decode cX6_down 39 = .ok (.aload 5, 2) := by decide +kernel
theorem dX6_down_41 : decode cX6_down 41 = .ok (.invokevirtual 122, 3) := by decide +kernel
theorem dX6_down_44 : decode cX6_down 44 = .ok (.ifCond .eq 6, 3) := by decide +kernel
theorem dX6_down_47 : decode cX6_down 47 = .ok (.ldc 126, 2) := by decide +kernel
theorem dX6_down_49 : decode cX6_down 49 = .ok (.ireturn, 1) := by decide +kernel
theorem dX6_down_50 : decode cX6_down 50 = .ok (.aload 5, 2) := by decide +kernel
theorem dX6_down_52 : decode cX6_down 52 = .ok (.iload_n 2, 1) := by decide +kernel
theorem dX6_down_53 : decode cX6_down 53 = .ok (.invokevirtual 86, 3) := by decide +kernel
theorem dX6_down_56 : decode cX6_down 56 = .ok (.iload_n 3, 1) := by decide +kernel
theorem dX6_down_57 : decode cX6_down 57 = .ok (.iload 4, 2) := by decide +kernel
theorem dX6_down_59 : decode cX6_down 59 = .ok (.invokevirtual 153, 3) := by decide +kernel
theorem dX6_down_62 : decode cX6_down 62 = .ok (.istore 6, 2) := by decide +kernel
theorem dX6_down_64 : decode cX6_down 64 = .ok (.iload 6, 2) := by decide +kernel
theorem dX6_down_66 : decode cX6_down 66 = .ok (.ifCond .ge 8, 3) := by decide +kernel
theorem dX6_down_69 : decode cX6_down 69 = .ok (.ldc 152, 2) := by decide +kernel
theorem dX6_down_71 : decode cX6_down 71 = .ok (.goto 5, 3) := by decide +kernel
theorem dX6_down_74 : decode cX6_down 74 = .ok (.iload 6, 2) := by decide +kernel
theorem dX6_down_76 : decode cX6_down 76 = .ok (.ireturn, 1) := by decide +kernel
theorem q67_0 : pm_V d 67 0 [.ref xn, l1, l2, l3, l4, l5, l6] st S Q = pm_V d 67 1 [.ref xn, l1, l2, l3, l4, l5, l6] (.ref xn :: st) S Q := pv_aload_n (pm_cdi rfl dX6_down_0) rfl
theorem q67_1 : pm_V d 67 1 [l0, .int xi, l2, l3, l4, l5, l6] st S Q = pm_V d 67 2 [l0, .int xi, l2, l3, l4, l5, l6] (.int xi :: st) S Q := pv_iload_n (pm_cdi rfl dX6_down_1) rfl
theorem q67_2 (hs : pm_sh S an = .inr 6) : pm_V (d + 1) 67 2 [l0, l1, l2, l3, l4, l5, l6] [.int v0i, .ref an] S Q = pm_N d 75 [.ref an, .int v0i] S (fun r S' => pm_V (d + 1) 67 5 [l0, l1, l2, l3, l4, l5, l6] (r.toList ++ []) S' Q) := pv_callV (as := [.int v0i]) (pm_cdi rfl dX6_down_2) (Or.inl (by decide +kernel)) (by decide +kernel) (show _ = _ from (by decide +kernel : 1 = pm_np 75)) rfl (Nat.le_of_ble_eq_true rfl) (cl := 6) (by decide +kernel) hs
theorem q67_5 : pm_V d 67 5 [l0, l1, l2, l3, .int yi, l5, l6] (.ref xn :: st) S Q = pm_V d 67 7 [l0, l1, l2, l3, .int yi, .ref xn, l6] st S Q := pv_astore (pm_cdi rfl dX6_down_5) rfl
theorem q67_5N : pm_V d 67 5 [l0, l1, l2, l3, .int yi, l5, l6] (.null :: st) S Q = pm_V d 67 7 [l0, l1, l2, l3, .int yi, .null, l6] st S Q := pv_astoreN (pm_cdi rfl dX6_down_5) rfl
theorem q67_7 : pm_V d 67 7 [l0, l1, l2, l3, l4, .ref xn, l6] st S Q = pm_V d 67 9 [l0, l1, l2, l3, l4, .ref xn, l6] (.ref xn :: st) S Q := pv_aload (pm_cdi rfl dX6_down_7) rfl
theorem q67_7N : pm_V d 67 7 [l0, l1, l2, l3, l4, .null, l6] st S Q = pm_V d 67 9 [l0, l1, l2, l3, l4, .null, l6] (.null :: st) S Q := pv_aloadN (pm_cdi rfl dX6_down_7) rfl
theorem q67_9 : pm_V d 67 9 [l0, l1, l2, l3, l4, l5, l6] (.ref xn :: st) S Q = pm_V d 67 12 [l0, l1, l2, l3, l4, l5, l6] st S Q := pv_ifnullA (pm_cdi rfl dX6_down_9)
theorem q67_9N : pm_V d 67 9 [l0, l1, l2, l3, l4, l5, l6] (.null :: st) S Q = pm_V d 67 35 [l0, l1, l2, l3, l4, l5, l6] st S Q := pv_ifnullN (pm_cdi rfl dX6_down_9) rfl
theorem q67_12 : pm_V d 67 12 [l0, l1, l2, l3, l4, .ref xn, l6] st S Q = pm_V d 67 14 [l0, l1, l2, l3, l4, .ref xn, l6] (.ref xn :: st) S Q := pv_aload (pm_cdi rfl dX6_down_12) rfl
theorem q67_12N : pm_V d 67 12 [l0, l1, l2, l3, l4, .null, l6] st S Q = pm_V d 67 14 [l0, l1, l2, l3, l4, .null, l6] (.null :: st) S Q := pv_aloadN (pm_cdi rfl dX6_down_12) rfl
theorem q67_14 (hs : pm_sh S an = .inr 0) : pm_V d 67 14 [l0, l1, l2, l3, l4, l5, l6] (.ref an :: st) S Q = pm_V d 67 17 [l0, l1, l2, l3, l4, l5, l6] (.int (pm_gi S an 6) :: st) S Q := pv_getI (pm_cdi rfl dX6_down_14) (by decide +kernel) (by decide +kernel) (by decide +kernel) hs
theorem q67_17 : pm_V d 67 17 [l0, l1, l2, l3, l4, l5, l6] (.int xi :: st) S Q = if xi = 0 then pm_V d 67 35 [l0, l1, l2, l3, l4, l5, l6] st S Q else pm_V d 67 20 [l0, l1, l2, l3, l4, l5, l6] st S Q := pv_if_eq (pm_cdi rfl dX6_down_17) rfl
theorem q67_20 : pm_V d 67 20 [l0, l1, .int xi, l3, l4, l5, l6] st S Q = pm_V d 67 21 [l0, l1, .int xi, l3, l4, l5, l6] (.int xi :: st) S Q := pv_iload_n (pm_cdi rfl dX6_down_20) rfl
theorem q67_21 : pm_V (d + 1) 67 21 [l0, l1, l2, l3, l4, l5, l6] [.int v0i] S Q = pm_N d 82 [.int v0i] S (fun r S' => pm_V (d + 1) 67 24 [l0, l1, l2, l3, l4, l5, l6] (r.toList ++ []) S' Q) := pv_callS (as := [.int v0i]) (pm_cdi rfl dX6_down_21) (by decide +kernel) (by decide +kernel) (show _ = _ from (by decide +kernel : 1 = pm_np 82)) rfl (Nat.le_of_ble_eq_true rfl)
theorem q67_24 : pm_V d 67 24 [l0, l1, l2, l3, l4, l5, l6] (.int xi :: st) S Q = if xi = 0 then pm_V d 67 35 [l0, l1, l2, l3, l4, l5, l6] st S Q else pm_V d 67 27 [l0, l1, l2, l3, l4, l5, l6] st S Q := pv_if_eq (pm_cdi rfl dX6_down_24) rfl
theorem q67_27 : pm_V d 67 27 [l0, l1, l2, l3, .int xi, l5, l6] st S Q = pm_V d 67 29 [l0, l1, l2, l3, .int xi, l5, l6] (.int xi :: st) S Q := pv_iload (pm_cdi rfl dX6_down_27) rfl
theorem q67_29 : pm_V (d + 1) 67 29 [l0, l1, l2, l3, l4, l5, l6] [.int v0i] S Q = pm_N d 82 [.int v0i] S (fun r S' => pm_V (d + 1) 67 32 [l0, l1, l2, l3, l4, l5, l6] (r.toList ++ []) S' Q) := pv_callS (as := [.int v0i]) (pm_cdi rfl dX6_down_29) (by decide +kernel) (by decide +kernel) (show _ = _ from (by decide +kernel : 1 = pm_np 82)) rfl (Nat.le_of_ble_eq_true rfl)
theorem q67_32 : pm_V d 67 32 [l0, l1, l2, l3, l4, l5, l6] (.int xi :: st) S Q = if xi = 0 then pm_V d 67 35 [l0, l1, l2, l3, l4, l5, l6] st S Q else pm_V d 67 38 [l0, l1, l2, l3, l4, l5, l6] st S Q := pv_if_ne (pm_cdi rfl dX6_down_32) rfl
theorem q67_35 : pm_V d 67 35 [l0, l1, l2, l3, l4, l5, l6] st S Q = pm_V d 67 37 [l0, l1, l2, l3, l4, l5, l6] (.int (-1000001) :: st) S Q := pv_ldc (pm_cdi rfl dX6_down_35) (by decide +kernel)
theorem q67_37 : pm_V d 67 37 [l0, l1, l2, l3, l4, l5, l6] [.int xi] S Q = Q (some (.int xi)) S := pv_rI (pm_cdi rfl dX6_down_37) (by decide +kernel)
theorem q67_38 : pm_V d 67 38 [.ref xn, l1, l2, l3, l4, l5, l6] st S Q = pm_V d 67 39 [.ref xn, l1, l2, l3, l4, l5, l6] (.ref xn :: st) S Q := pv_aload_n (pm_cdi rfl dX6_down_38) rfl
theorem q67_39 : pm_V d 67 39 [l0, l1, l2, l3, l4, .ref xn, l6] st S Q = pm_V d 67 41 [l0, l1, l2, l3, l4, .ref xn, l6] (.ref xn :: st) S Q := pv_aload (pm_cdi rfl dX6_down_39) rfl
theorem q67_39N : pm_V d 67 39 [l0, l1, l2, l3, l4, .null, l6] st S Q = pm_V d 67 41 [l0, l1, l2, l3, l4, .null, l6] (.null :: st) S Q := pv_aloadN (pm_cdi rfl dX6_down_39) rfl
theorem q67_41 (hs : pm_sh S an = .inr 6) : pm_V (d + 1) 67 41 [l0, l1, l2, l3, l4, l5, l6] [v0v, .ref an] S Q = pm_N d 84 [.ref an, v0v] S (fun r S' => pm_V (d + 1) 67 44 [l0, l1, l2, l3, l4, l5, l6] (r.toList ++ []) S' Q) := pv_callV (as := [v0v]) (pm_cdi rfl dX6_down_41) (Or.inl (by decide +kernel)) (by decide +kernel) (show _ = _ from (by decide +kernel : 1 = pm_np 84)) rfl (Nat.le_of_ble_eq_true rfl) (cl := 6) (by decide +kernel) hs
theorem q67_44 : pm_V d 67 44 [l0, l1, l2, l3, l4, l5, l6] (.int xi :: st) S Q = if xi = 0 then pm_V d 67 50 [l0, l1, l2, l3, l4, l5, l6] st S Q else pm_V d 67 47 [l0, l1, l2, l3, l4, l5, l6] st S Q := pv_if_eq (pm_cdi rfl dX6_down_44) rfl
theorem q67_47 : pm_V d 67 47 [l0, l1, l2, l3, l4, l5, l6] st S Q = pm_V d 67 49 [l0, l1, l2, l3, l4, l5, l6] (.int (-1000003) :: st) S Q := pv_ldc (pm_cdi rfl dX6_down_47) (by decide +kernel)
theorem q67_49 : pm_V d 67 49 [l0, l1, l2, l3, l4, l5, l6] [.int xi] S Q = Q (some (.int xi)) S := pv_rI (pm_cdi rfl dX6_down_49) (by decide +kernel)
theorem q67_50 : pm_V d 67 50 [l0, l1, l2, l3, l4, .ref xn, l6] st S Q = pm_V d 67 52 [l0, l1, l2, l3, l4, .ref xn, l6] (.ref xn :: st) S Q := pv_aload (pm_cdi rfl dX6_down_50) rfl
theorem q67_50N : pm_V d 67 50 [l0, l1, l2, l3, l4, .null, l6] st S Q = pm_V d 67 52 [l0, l1, l2, l3, l4, .null, l6] (.null :: st) S Q := pv_aloadN (pm_cdi rfl dX6_down_50) rfl
theorem q67_52 : pm_V d 67 52 [l0, l1, .int xi, l3, l4, l5, l6] st S Q = pm_V d 67 53 [l0, l1, .int xi, l3, l4, l5, l6] (.int xi :: st) S Q := pv_iload_n (pm_cdi rfl dX6_down_52) rfl
theorem q67_53 (hs : pm_sh S an = .inr 0) : pm_V (d + 1) 67 53 [l0, l1, l2, l3, l4, l5, l6] [.int v0i, .ref an] S Q = pm_N d 5 [.ref an, .int v0i] S (fun r S' => pm_V (d + 1) 67 56 [l0, l1, l2, l3, l4, l5, l6] (r.toList ++ []) S' Q) := pv_callV (as := [.int v0i]) (pm_cdi rfl dX6_down_53) (Or.inl (by decide +kernel)) (by decide +kernel) (show _ = _ from (by decide +kernel : 1 = pm_np 5)) rfl (Nat.le_of_ble_eq_true rfl) (cl := 0) (by decide +kernel) hs
theorem q67_56 : pm_V d 67 56 [l0, l1, l2, .int xi, l4, l5, l6] st S Q = pm_V d 67 57 [l0, l1, l2, .int xi, l4, l5, l6] (.int xi :: st) S Q := pv_iload_n (pm_cdi rfl dX6_down_56) rfl
theorem q67_57 : pm_V d 67 57 [l0, l1, l2, l3, .int xi, l5, l6] st S Q = pm_V d 67 59 [l0, l1, l2, l3, .int xi, l5, l6] (.int xi :: st) S Q := pv_iload (pm_cdi rfl dX6_down_57) rfl
theorem q67_59 (hs : pm_sh S an = .inr 3) : pm_V (d + 1) 67 59 [l0, l1, l2, l3, l4, l5, l6] [.int v1i, .int v0i, .ref an] S Q = pm_N d 23 [.ref an, .int v0i, .int v1i] S (fun r S' => pm_V (d + 1) 67 62 [l0, l1, l2, l3, l4, l5, l6] (r.toList ++ []) S' Q) := pv_callV (as := [.int v0i, .int v1i]) (pm_cdi rfl dX6_down_59) (Or.inl (by decide +kernel)) (by decide +kernel) (show _ = _ from (by decide +kernel : 2 = pm_np 23)) rfl (Nat.le_of_ble_eq_true rfl) (cl := 3) (by decide +kernel) hs
theorem q67_62 : pm_V d 67 62 [l0, l1, l2, l3, l4, .ref yn, l6] (.int xi :: st) S Q = pm_V d 67 64 [l0, l1, l2, l3, l4, .ref yn, .int xi] st S Q := pv_istore (pm_cdi rfl dX6_down_62) rfl
theorem q67_64 : pm_V d 67 64 [l0, l1, l2, l3, l4, l5, .int xi] st S Q = pm_V d 67 66 [l0, l1, l2, l3, l4, l5, .int xi] (.int xi :: st) S Q := pv_iload (pm_cdi rfl dX6_down_64) rfl
theorem q67_66 : pm_V d 67 66 [l0, l1, l2, l3, l4, l5, l6] (.int xi :: st) S Q = if xi < 0 then pm_V d 67 69 [l0, l1, l2, l3, l4, l5, l6] st S Q else pm_V d 67 74 [l0, l1, l2, l3, l4, l5, l6] st S Q := pv_if_ge (pm_cdi rfl dX6_down_66) rfl
theorem q67_69 : pm_V d 67 69 [l0, l1, l2, l3, l4, l5, l6] st S Q = pm_V d 67 71 [l0, l1, l2, l3, l4, l5, l6] (.int (-1000004) :: st) S Q := pv_ldc (pm_cdi rfl dX6_down_69) (by decide +kernel)
theorem q67_71 : pm_V d 67 71 [l0, l1, l2, l3, l4, l5, l6] st S Q = pm_V d 67 76 [l0, l1, l2, l3, l4, l5, l6] st S Q := pv_goto (pm_cdi rfl dX6_down_71) rfl
theorem q67_74 : pm_V d 67 74 [l0, l1, l2, l3, l4, l5, .int xi] st S Q = pm_V d 67 76 [l0, l1, l2, l3, l4, l5, .int xi] (.int xi :: st) S Q := pv_iload (pm_cdi rfl dX6_down_74) rfl
theorem q67_76 : pm_V d 67 76 [l0, l1, l2, l3, l4, l5, l6] [.int xi] S Q = Q (some (.int xi)) S := pv_rI (pm_cdi rfl dX6_down_76) (by decide +kernel)
theorem q67_e : pm_N d 67 [.ref an, .int v0i, .int v1i, .int v2i, .int v3i] S Q = pm_V d 67 0 [.ref an, .int v0i, .int v1i, .int v2i, .int v3i, pm_j, pm_j] [] S Q := pv_ent (Nat.le_of_ble_eq_true rfl) rfl
end
