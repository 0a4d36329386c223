section
variable {d : Nat} {S : pm_T} {Q : Option Value → pm_T → Prop} {an r0n r1n r2n r3n r4n r5n v0n v1n v2n vn xn yn : Nat} {ki r0i r1i r2i r3i r4i v0i v1i v2i v3i v4i v5i vi xi yi : Int32} {l0 l1 l10 l2 l3 l4 l5 l6 l7 l8 l9 v0v v1v v2v : Value} {r0j r1j v0j v1j v2j v3j vj xj yj : Int64} {st : List Value}
/-! 38: ViewsJoins$Reckoner.moveInB(LViewsJoins$Graph;LViewsJoins$Graph;LViewsJoins$Graph;)V -/
theorem dX4_moveInB_0 : decode cX4_moveInB 0 = .ok (.aload_n 2, 1) := by decide +kernel
theorem dX4_moveInB_1 : decode cX4_moveInB 1 = .ok (.getfield 99, 3) := by decide +kernel
theorem dX4_moveInB_4 : decode cX4_moveInB 4 = .ok (.getfield 103, 3) := by decide +kernel
theorem dX4_moveInB_7 : decode cX4_moveInB 7 = .ok (.istore_n 3, 1) := by decide +kernel
theorem dX4_moveInB_8 : decode cX4_moveInB 8 = .ok (.iconst 0, 1) := by decide +kernel
theorem dX4_moveInB_9 : decode cX4_moveInB 9 = .ok (.istore 4, 2) := by decide +kernel
theorem dX4_moveInB_11 : decode cX4_moveInB 11 = .ok (.iload 4, 2) := by decide +kernel
theorem dX4_moveInB_13 : decode cX4_moveInB 13 = .ok (.aload_n 1, 1) := by decide +kernel
theorem dX4_moveInB_14 : decode cX4_moveInB 14 = .ok (.getfield 99, 3) := by decide +kernel
theorem dX4_moveInB_17 : decode cX4_moveInB 17 = .ok (.getfield 103, 3) := by decide +kernel
theorem dX4_moveInB_20 : decode cX4_moveInB 20 = .ok (.if_icmp .ge 71, 3) := by decide +kernel
theorem dX4_moveInB_23 : decode cX4_moveInB 23 = .ok (.iconst 0, 1) := by decide +kernel
theorem dX4_moveInB_24 : decode cX4_moveInB 24 = .ok (.istore 5, 2) := by decide +kernel
theorem dX4_moveInB_26 : decode cX4_moveInB 26 = .ok (.iload 5, 2) := by decide +kernel
theorem dX4_moveInB_28 : decode cX4_moveInB 28 = .ok (.aload_n 2, 1) := by decide +kernel
theorem dX4_moveInB_29 : decode cX4_moveInB 29 = .ok (.getfield 126, 3) := by decide +kernel
theorem dX4_moveInB_32 : decode cX4_moveInB 32 = .ok (.getfield 103, 3) := by decide +kernel
theorem dX4_moveInB_35 : decode cX4_moveInB 35 = .ok (.if_icmp .ge 50, 3) := by decide +kernel
theorem dX4_moveInB_38 : decode cX4_moveInB 38 = .ok (.aload_n 0, 1) := by decide +kernel
theorem dX4_moveInB_39 : decode cX4_moveInB 39 = .ok (.iload 4, 2) := by decide +kernel
theorem dX4_moveInB_41 : decode cX4_moveInB 41 = .ok (.iload_n 3, 1) := by decide +kernel
theorem dX4_moveInB_42 : decode cX4_moveInB 42 = .ok (.imul, 1) := by decide +kernel
theorem dX4_moveInB_43 : decode cX4_moveInB 43 = .ok (.aload_n 2, 1) := by decide +kernel
theorem dX4_moveInB_44 : decode cX4_moveInB 44 = .ok (.getfield 129, 3) := by decide +kernel
theorem dX4_moveInB_47 : decode cX4_moveInB 47 = .ok (.iload 5, 2) := by decide +kernel
theorem dX4_moveInB_49 : decode cX4_moveInB 49 = .ok (.iaload, 1) := by decide +kernel
theorem dX4_moveInB_50 : decode cX4_moveInB 50 = .ok (.iadd, 1) := by decide +kernel
theorem dX4_moveInB_51 : decode cX4_moveInB 51 = .ok (.iload 4, 2) := by decide +kernel
theorem dX4_moveInB_53 : decode cX4_moveInB 53 = .ok (.iload_n 3, 1) := by decide +kernel
theorem dX4_moveInB_54 : decode cX4_moveInB 54 = .ok (.imul, 1) := by decide +kernel
theorem dX4_moveInB_55 : decode cX4_moveInB 55 = .ok (.aload_n 2, 1) := by decide +kernel
theorem dX4_moveInB_56 : decode cX4_moveInB 56 = .ok (.getfield 132, 3) := by decide +kernel
theorem dX4_moveInB_59 : decode cX4_moveInB 59 = .ok (.iload 5, 2) := by decide +kernel
theorem dX4_moveInB_61 : decode cX4_moveInB 61 = .ok (.iaload, 1) := by decide +kernel
theorem dX4_moveInB_62 : decode cX4_moveInB 62 = .ok (.iadd, 1) := by decide +kernel
theorem dX4_moveInB_63 : decode cX4_moveInB 63 = .ok (.aload_n 2, 1) := by decide +kernel
theorem dX4_moveInB_64 : decode cX4_moveInB 64 = .ok (.getfield 126, 3) := by decide +kernel
theorem dX4_moveInB_67 : decode cX4_moveInB 67 = .ok (.getfield 112, 3) := by decide +kernel
theorem dX4_moveInB_70 : decode cX4_moveInB 70 = .ok (.iload 5, 2) := by decide +kernel
theorem dX4_moveInB_72 : decode cX4_moveInB 72 = .ok (.laload, 1) := by decide +kernel
theorem dX4_moveInB_73 : decode cX4_moveInB 73 = .ok (.iconst (-1), 1) := by decide +kernel
theorem dX4_moveInB_74 : decode cX4_moveInB 74 = .ok (.iload 5, 2) := by decide +kernel
theorem dX4_moveInB_76 : decode cX4_moveInB 76 = .ok (.invokevirtual 135, 3) := by decide +kernel
theorem dX4_moveInB_79 : decode cX4_moveInB 79 = .ok (.iinc 5 1, 3) := by decide +kernel
theorem dX4_moveInB_82 : decode cX4_moveInB 82 = .ok (.goto (-56), 3) := by decide +kernel
theorem dX4_moveInB_85 : decode cX4_moveInB 85 = .ok (.iinc 4 1, 3) := by decide +kernel
theorem dX4_moveInB_88 : decode cX4_moveInB 88 = .ok (.goto (-77), 3) := by decide +kernel
theorem dX4_moveInB_91 : decode cX4_moveInB 91 = .ok (.return_, 1) := by decide +kernel
theorem q38_0 : pm_V d 38 0 [l0, l1, .ref xn, l3, l4, l5] st S Q = pm_V d 38 1 [l0, l1, .ref xn, l3, l4, l5] (.ref xn :: st) S Q := pv_aload_n (pm_cdi rfl dX4_moveInB_0) rfl
theorem q38_0N : pm_V d 38 0 [l0, l1, .null, l3, l4, l5] st S Q = pm_V d 38 1 [l0, l1, .null, l3, l4, l5] (.null :: st) S Q := pv_aload_nN (pm_cdi rfl dX4_moveInB_0) rfl
theorem q38_1 (hs : pm_sh S an = .inr 0) : pm_V d 38 1 [l0, l1, l2, l3, l4, l5] (.ref an :: st) S Q = pm_V d 38 4 [l0, l1, l2, l3, l4, l5] (va_rf (pm_gr S an 0) :: st) S Q := pv_getA (pm_cdi rfl dX4_moveInB_1) (by decide +kernel) (by decide +kernel) (by decide +kernel) hs
theorem q38_4 (hs : pm_sh S an = .inr 3) : pm_V d 38 4 [l0, l1, l2, l3, l4, l5] (.ref an :: st) S Q = pm_V d 38 7 [l0, l1, l2, l3, l4, l5] (.int (pm_gi S an 3) :: st) S Q := pv_getI (pm_cdi rfl dX4_moveInB_4) (by decide +kernel) (by decide +kernel) (by decide +kernel) hs
theorem q38_7 : pm_V d 38 7 [l0, l1, .ref yn, l3, l4, l5] (.int xi :: st) S Q = pm_V d 38 8 [l0, l1, .ref yn, .int xi, l4, l5] st S Q := pv_istore_n (pm_cdi rfl dX4_moveInB_7) rfl
theorem q38_8 : pm_V d 38 8 [l0, l1, l2, l3, l4, l5] st S Q = pm_V d 38 9 [l0, l1, l2, l3, l4, l5] (.int 0 :: st) S Q := pv_iconst (pm_cdi rfl dX4_moveInB_8) (by decide +kernel)
theorem q38_9 : pm_V d 38 9 [l0, l1, l2, .int yi, l4, l5] (.int xi :: st) S Q = pm_V d 38 11 [l0, l1, l2, .int yi, .int xi, l5] st S Q := pv_istore (pm_cdi rfl dX4_moveInB_9) rfl
theorem q38_11 : pm_V d 38 11 [l0, l1, l2, l3, .int xi, l5] st S Q = pm_V d 38 13 [l0, l1, l2, l3, .int xi, l5] (.int xi :: st) S Q := pv_iload (pm_cdi rfl dX4_moveInB_11) rfl
theorem q38_13 : pm_V d 38 13 [l0, .ref xn, l2, l3, l4, l5] st S Q = pm_V d 38 14 [l0, .ref xn, l2, l3, l4, l5] (.ref xn :: st) S Q := pv_aload_n (pm_cdi rfl dX4_moveInB_13) rfl
theorem q38_13N : pm_V d 38 13 [l0, .null, l2, l3, l4, l5] st S Q = pm_V d 38 14 [l0, .null, l2, l3, l4, l5] (.null :: st) S Q := pv_aload_nN (pm_cdi rfl dX4_moveInB_13) rfl
theorem q38_14 (hs : pm_sh S an = .inr 0) : pm_V d 38 14 [l0, l1, l2, l3, l4, l5] (.ref an :: st) S Q = pm_V d 38 17 [l0, l1, l2, l3, l4, l5] (va_rf (pm_gr S an 0) :: st) S Q := pv_getA (pm_cdi rfl dX4_moveInB_14) (by decide +kernel) (by decide +kernel) (by decide +kernel) hs
theorem q38_17 (hs : pm_sh S an = .inr 3) : pm_V d 38 17 [l0, l1, l2, l3, l4, l5] (.ref an :: st) S Q = pm_V d 38 20 [l0, l1, l2, l3, l4, l5] (.int (pm_gi S an 3) :: st) S Q := pv_getI (pm_cdi rfl dX4_moveInB_17) (by decide +kernel) (by decide +kernel) (by decide +kernel) hs
theorem q38_20 : pm_V d 38 20 [l0, l1, l2, l3, l4, l5] (.int yi :: .int xi :: st) S Q = if xi < yi then pm_V d 38 23 [l0, l1, l2, l3, l4, l5] st S Q else pm_V d 38 91 [l0, l1, l2, l3, l4, l5] st S Q := pv_icmp_ge (pm_cdi rfl dX4_moveInB_20) rfl
theorem q38_23 : pm_V d 38 23 [l0, l1, l2, l3, l4, l5] st S Q = pm_V d 38 24 [l0, l1, l2, l3, l4, l5] (.int 0 :: st) S Q := pv_iconst (pm_cdi rfl dX4_moveInB_23) (by decide +kernel)
theorem q38_24 : pm_V d 38 24 [l0, l1, l2, l3, .int yi, l5] (.int xi :: st) S Q = pm_V d 38 26 [l0, l1, l2, l3, .int yi, .int xi] st S Q := pv_istore (pm_cdi rfl dX4_moveInB_24) rfl
theorem q38_26 : pm_V d 38 26 [l0, l1, l2, l3, l4, .int xi] st S Q = pm_V d 38 28 [l0, l1, l2, l3, l4, .int xi] (.int xi :: st) S Q := pv_iload (pm_cdi rfl dX4_moveInB_26) rfl
theorem q38_28 : pm_V d 38 28 [l0, l1, .ref xn, l3, l4, l5] st S Q = pm_V d 38 29 [l0, l1, .ref xn, l3, l4, l5] (.ref xn :: st) S Q := pv_aload_n (pm_cdi rfl dX4_moveInB_28) rfl
theorem q38_28N : pm_V d 38 28 [l0, l1, .null, l3, l4, l5] st S Q = pm_V d 38 29 [l0, l1, .null, l3, l4, l5] (.null :: st) S Q := pv_aload_nN (pm_cdi rfl dX4_moveInB_28) rfl
theorem q38_29 (hs : pm_sh S an = .inr 0) : pm_V d 38 29 [l0, l1, l2, l3, l4, l5] (.ref an :: st) S Q = pm_V d 38 32 [l0, l1, l2, l3, l4, l5] (va_rf (pm_gr S an 1) :: st) S Q := pv_getA (pm_cdi rfl dX4_moveInB_29) (by decide +kernel) (by decide +kernel) (by decide +kernel) hs
theorem q38_32 (hs : pm_sh S an = .inr 3) : pm_V d 38 32 [l0, l1, l2, l3, l4, l5] (.ref an :: st) S Q = pm_V d 38 35 [l0, l1, l2, l3, l4, l5] (.int (pm_gi S an 3) :: st) S Q := pv_getI (pm_cdi rfl dX4_moveInB_32) (by decide +kernel) (by decide +kernel) (by decide +kernel) hs
theorem q38_35 : pm_V d 38 35 [l0, l1, l2, l3, l4, l5] (.int yi :: .int xi :: st) S Q = if xi < yi then pm_V d 38 38 [l0, l1, l2, l3, l4, l5] st S Q else pm_V d 38 85 [l0, l1, l2, l3, l4, l5] st S Q := pv_icmp_ge (pm_cdi rfl dX4_moveInB_35) rfl
theorem q38_38 : pm_V d 38 38 [.ref xn, l1, l2, l3, l4, l5] st S Q = pm_V d 38 39 [.ref xn, l1, l2, l3, l4, l5] (.ref xn :: st) S Q := pv_aload_n (pm_cdi rfl dX4_moveInB_38) rfl
theorem q38_39 : pm_V d 38 39 [l0, l1, l2, l3, .int xi, l5] st S Q = pm_V d 38 41 [l0, l1, l2, l3, .int xi, l5] (.int xi :: st) S Q := pv_iload (pm_cdi rfl dX4_moveInB_39) rfl
theorem q38_41 : pm_V d 38 41 [l0, l1, l2, .int xi, l4, l5] st S Q = pm_V d 38 42 [l0, l1, l2, .int xi, l4, l5] (.int xi :: st) S Q := pv_iload_n (pm_cdi rfl dX4_moveInB_41) rfl
theorem q38_42 : pm_V d 38 42 [l0, l1, l2, l3, l4, l5] (.int yi :: .int xi :: st) S Q = pm_V d 38 43 [l0, l1, l2, l3, l4, l5] (.int (xi * yi) :: st) S Q := pv_imul (pm_cdi rfl dX4_moveInB_42)
theorem q38_43 : pm_V d 38 43 [l0, l1, .ref xn, l3, l4, l5] st S Q = pm_V d 38 44 [l0, l1, .ref xn, l3, l4, l5] (.ref xn :: st) S Q := pv_aload_n (pm_cdi rfl dX4_moveInB_43) rfl
theorem q38_43N : pm_V d 38 43 [l0, l1, .null, l3, l4, l5] st S Q = pm_V d 38 44 [l0, l1, .null, l3, l4, l5] (.null :: st) S Q := pv_aload_nN (pm_cdi rfl dX4_moveInB_43) rfl
theorem q38_44 (hs : pm_sh S an = .inr 0) : pm_V d 38 44 [l0, l1, l2, l3, l4, l5] (.ref an :: st) S Q = pm_V d 38 47 [l0, l1, l2, l3, l4, l5] (va_rf (pm_gr S an 2) :: st) S Q := pv_getA (pm_cdi rfl dX4_moveInB_44) (by decide +kernel) (by decide +kernel) (by decide +kernel) hs
theorem q38_47 : pm_V d 38 47 [l0, l1, l2, l3, l4, .int xi] st S Q = pm_V d 38 49 [l0, l1, l2, l3, l4, .int xi] (.int xi :: st) S Q := pv_iload (pm_cdi rfl dX4_moveInB_47) rfl
theorem q38_49 (hs : pm_ar S an 0 xi = true) : pm_V d 38 49 [l0, l1, l2, l3, l4, l5] (.int xi :: .ref an :: st) S Q = pm_V d 38 50 [l0, l1, l2, l3, l4, l5] (.int (pm_zi S an xi.toNatClampNeg) :: st) S Q := pv_iald (pm_cdi rfl dX4_moveInB_49) hs
theorem q38_50 : pm_V d 38 50 [l0, l1, l2, l3, l4, l5] (.int yi :: .int xi :: st) S Q = pm_V d 38 51 [l0, l1, l2, l3, l4, l5] (.int (xi + yi) :: st) S Q := pv_iadd (pm_cdi rfl dX4_moveInB_50)
theorem q38_51 : pm_V d 38 51 [l0, l1, l2, l3, .int xi, l5] st S Q = pm_V d 38 53 [l0, l1, l2, l3, .int xi, l5] (.int xi :: st) S Q := pv_iload (pm_cdi rfl dX4_moveInB_51) rfl
theorem q38_53 : pm_V d 38 53 [l0, l1, l2, .int xi, l4, l5] st S Q = pm_V d 38 54 [l0, l1, l2, .int xi, l4, l5] (.int xi :: st) S Q := pv_iload_n (pm_cdi rfl dX4_moveInB_53) rfl
theorem q38_54 : pm_V d 38 54 [l0, l1, l2, l3, l4, l5] (.int yi :: .int xi :: st) S Q = pm_V d 38 55 [l0, l1, l2, l3, l4, l5] (.int (xi * yi) :: st) S Q := pv_imul (pm_cdi rfl dX4_moveInB_54)
theorem q38_55 : pm_V d 38 55 [l0, l1, .ref xn, l3, l4, l5] st S Q = pm_V d 38 56 [l0, l1, .ref xn, l3, l4, l5] (.ref xn :: st) S Q := pv_aload_n (pm_cdi rfl dX4_moveInB_55) rfl
theorem q38_55N : pm_V d 38 55 [l0, l1, .null, l3, l4, l5] st S Q = pm_V d 38 56 [l0, l1, .null, l3, l4, l5] (.null :: st) S Q := pv_aload_nN (pm_cdi rfl dX4_moveInB_55) rfl
theorem q38_56 (hs : pm_sh S an = .inr 0) : pm_V d 38 56 [l0, l1, l2, l3, l4, l5] (.ref an :: st) S Q = pm_V d 38 59 [l0, l1, l2, l3, l4, l5] (va_rf (pm_gr S an 3) :: st) S Q := pv_getA (pm_cdi rfl dX4_moveInB_56) (by decide +kernel) (by decide +kernel) (by decide +kernel) hs
theorem q38_59 : pm_V d 38 59 [l0, l1, l2, l3, l4, .int xi] st S Q = pm_V d 38 61 [l0, l1, l2, l3, l4, .int xi] (.int xi :: st) S Q := pv_iload (pm_cdi rfl dX4_moveInB_59) rfl
theorem q38_61 (hs : pm_ar S an 0 xi = true) : pm_V d 38 61 [l0, l1, l2, l3, l4, l5] (.int xi :: .ref an :: st) S Q = pm_V d 38 62 [l0, l1, l2, l3, l4, l5] (.int (pm_zi S an xi.toNatClampNeg) :: st) S Q := pv_iald (pm_cdi rfl dX4_moveInB_61) hs
theorem q38_62 : pm_V d 38 62 [l0, l1, l2, l3, l4, l5] (.int yi :: .int xi :: st) S Q = pm_V d 38 63 [l0, l1, l2, l3, l4, l5] (.int (xi + yi) :: st) S Q := pv_iadd (pm_cdi rfl dX4_moveInB_62)
theorem q38_63 : pm_V d 38 63 [l0, l1, .ref xn, l3, l4, l5] st S Q = pm_V d 38 64 [l0, l1, .ref xn, l3, l4, l5] (.ref xn :: st) S Q := pv_aload_n (pm_cdi rfl dX4_moveInB_63) rfl
theorem q38_63N : pm_V d 38 63 [l0, l1, .null, l3, l4, l5] st S Q = pm_V d 38 64 [l0, l1, .null, l3, l4, l5] (.null :: st) S Q := pv_aload_nN (pm_cdi rfl dX4_moveInB_63) rfl
theorem q38_64 (hs : pm_sh S an = .inr 0) : pm_V d 38 64 [l0, l1, l2, l3, l4, l5] (.ref an :: st) S Q = pm_V d 38 67 [l0, l1, l2, l3, l4, l5] (va_rf (pm_gr S an 1) :: st) S Q := pv_getA (pm_cdi rfl dX4_moveInB_64) (by decide +kernel) (by decide +kernel) (by decide +kernel) hs
theorem q38_67 (hs : pm_sh S an = .inr 3) : pm_V d 38 67 [l0, l1, l2, l3, l4, l5] (.ref an :: st) S Q = pm_V d 38 70 [l0, l1, l2, l3, l4, l5] (va_rf (pm_gr S an 0) :: st) S Q := pv_getA (pm_cdi rfl dX4_moveInB_67) (by decide +kernel) (by decide +kernel) (by decide +kernel) hs
theorem q38_70 : pm_V d 38 70 [l0, l1, l2, l3, l4, .int xi] st S Q = pm_V d 38 72 [l0, l1, l2, l3, l4, .int xi] (.int xi :: st) S Q := pv_iload (pm_cdi rfl dX4_moveInB_70) rfl
theorem q38_72 (hs : pm_ar S an 1 xi = true) : pm_V d 38 72 [l0, l1, l2, l3, l4, l5] (.int xi :: .ref an :: st) S Q = pm_V d 38 73 [l0, l1, l2, l3, l4, l5] (.long (pm_zl S an xi.toNatClampNeg) :: st) S Q := pv_lald (pm_cdi rfl dX4_moveInB_72) hs
theorem q38_73 : pm_V d 38 73 [l0, l1, l2, l3, l4, l5] st S Q = pm_V d 38 74 [l0, l1, l2, l3, l4, l5] (.int (-1) :: st) S Q := pv_iconst (pm_cdi rfl dX4_moveInB_73) (by decide +kernel)
theorem q38_74 : pm_V d 38 74 [l0, l1, l2, l3, l4, .int xi] st S Q = pm_V d 38 76 [l0, l1, l2, l3, l4, .int xi] (.int xi :: st) S Q := pv_iload (pm_cdi rfl dX4_moveInB_74) rfl
theorem q38_76 (hs : pm_sh S an = .inr 0) : pm_V (d + 1) 38 76 [l0, l1, l2, l3, l4, l5] [.int v4i, .int v3i, .long v2j, .int v1i, .int v0i, .ref an] S Q = pm_N d 7 [.ref an, .int v0i, .int v1i, .long v2j, .int v3i, .int v4i] S (fun r S' => pm_V (d + 1) 38 79 [l0, l1, l2, l3, l4, l5] (r.toList ++ []) S' Q) := pv_callV (as := [.int v0i, .int v1i, .long v2j, .int v3i, .int v4i]) (pm_cdi rfl dX4_moveInB_76) (Or.inl (by decide +kernel)) (by decide +kernel) (show _ = _ from (by decide +kernel : 5 = pm_np 7)) rfl (Nat.le_of_ble_eq_true rfl) (cl := 0) (by decide +kernel) hs
theorem q38_79 : pm_V d 38 79 [l0, l1, l2, l3, .int yi, .int xi] st S Q = pm_V d 38 82 [l0, l1, l2, l3, .int yi, .int (xi + 1)] st S Q := pv_iinc (pm_cdi rfl dX4_moveInB_79) rfl (by decide +kernel) rfl
theorem q38_82 : pm_V d 38 82 [l0, l1, l2, l3, l4, l5] st S Q = pm_V d 38 26 [l0, l1, l2, l3, l4, l5] st S Q := pv_goto (pm_cdi rfl dX4_moveInB_82) rfl
theorem q38_85 : pm_V d 38 85 [l0, l1, l2, .int yi, .int xi, l5] st S Q = pm_V d 38 88 [l0, l1, l2, .int yi, .int (xi + 1), l5] st S Q := pv_iinc (pm_cdi rfl dX4_moveInB_85) rfl (by decide +kernel) rfl
theorem q38_88 : pm_V d 38 88 [l0, l1, l2, l3, l4, l5] st S Q = pm_V d 38 11 [l0, l1, l2, l3, l4, l5] st S Q := pv_goto (pm_cdi rfl dX4_moveInB_88) rfl
theorem q38_91 : pm_V d 38 91 [l0, l1, l2, l3, l4, l5] [] S Q = Q none S := pv_rV (pm_cdi rfl dX4_moveInB_91) (by decide +kernel)
theorem q38_e : pm_N d 38 [.ref v0n, .ref v1n, .ref v2n] S Q = pm_V d 38 0 [.ref v0n, .ref v1n, .ref v2n, pm_j, pm_j, pm_j] [] S Q := pv_ent (Nat.le_of_ble_eq_true rfl) rfl
/-! 39: ViewsJoins$Reckoner.moveInBoth(LViewsJoins$Graph;LViewsJoins$Graph;LViewsJoins$Graph;)V -/
theorem dX4_moveInBoth_0 : decode cX4_moveInBoth 0 = .ok (.aload_n 2, 1) := by decide +kernel
theorem dX4_moveInBoth_1 : decode cX4_moveInBoth 1 = .ok (.getfield 99, 3) := by decide +kernel
theorem dX4_moveInBoth_4 : decode cX4_moveInBoth 4 = .ok (.getfield 103, 3) := by decide +kernel
theorem dX4_moveInBoth_7 : decode cX4_moveInBoth 7 = .ok (.istore_n 3, 1) := by decide +kernel
theorem dX4_moveInBoth_8 : decode cX4_moveInBoth 8 = .ok (.iconst 0, 1) := by decide +kernel
theorem dX4_moveInBoth_9 : decode cX4_moveInBoth 9 = .ok (.istore 4, 2) := by decide +kernel
theorem dX4_moveInBoth_11 : decode cX4_moveInBoth 11 = .ok (.iload 4, 2) := by decide +kernel
theorem dX4_moveInBoth_13 : decode cX4_moveInBoth 13 = .ok (.aload_n 1, 1) := by decide +kernel
theorem dX4_moveInBoth_14 : decode cX4_moveInBoth 14 = .ok (.getfield 126, 3) := by decide +kernel
theorem dX4_moveInBoth_17 : decode cX4_moveInBoth 17 = .ok (.getfield 103, 3) := by decide +kernel
theorem dX4_moveInBoth_20 : decode cX4_moveInBoth 20 = .ok (.if_icmp .ge 93, 3) := by decide +kernel
theorem dX4_moveInBoth_23 : decode cX4_moveInBoth 23 = .ok (.iconst 0, 1) := by decide +kernel
theorem dX4_moveInBoth_24 : decode cX4_moveInBoth 24 = .ok (.istore 5, 2) := by decide +kernel
theorem dX4_moveInBoth_26 : decode cX4_moveInBoth 26 = .ok (.iload 5, 2) := by decide +kernel
theorem dX4_moveInBoth_28 : decode cX4_moveInBoth 28 = .ok (.aload_n 2, 1) := by decide +kernel
theorem dX4_moveInBoth_29 : decode cX4_moveInBoth 29 = .ok (.getfield 126, 3) := by decide +kernel
theorem dX4_moveInBoth_32 : decode cX4_moveInBoth 32 = .ok (.getfield 103, 3) := by decide +kernel
theorem dX4_moveInBoth_35 : decode cX4_moveInBoth 35 = .ok (.if_icmp .ge 72, 3) := by decide +kernel
theorem dX4_moveInBoth_38 : decode cX4_moveInBoth 38 = .ok (.aload_n 0, 1) := by decide +kernel
theorem dX4_moveInBoth_39 : decode cX4_moveInBoth 39 = .ok (.aload_n 1, 1) := by decide +kernel
theorem dX4_moveInBoth_40 : decode cX4_moveInBoth 40 = .ok (.getfield 129, 3) := by decide +kernel
theorem dX4_moveInBoth_43 : decode cX4_moveInBoth 43 = .ok (.iload 4, 2) := by decide +kernel
theorem dX4_moveInBoth_45 : decode cX4_moveInBoth 45 = .ok (.iaload, 1) := by decide +kernel
theorem dX4_moveInBoth_46 : decode cX4_moveInBoth 46 = .ok (.iload_n 3, 1) := by decide +kernel
theorem dX4_moveInBoth_47 : decode cX4_moveInBoth 47 = .ok (.imul, 1) := by decide +kernel
theorem dX4_moveInBoth_48 : decode cX4_moveInBoth 48 = .ok (.aload_n 2, 1) := by decide +kernel
theorem dX4_moveInBoth_49 : decode cX4_moveInBoth 49 = .ok (.getfield 129, 3) := by decide +kernel
theorem dX4_moveInBoth_52 : decode cX4_moveInBoth 52 = .ok (.iload 5, 2) := by decide +kernel
theorem dX4_moveInBoth_54 : decode cX4_moveInBoth 54 = .ok (.iaload, 1) := by decide +kernel
theorem dX4_moveInBoth_55 : decode cX4_moveInBoth 55 = .ok (.iadd, 1) := by decide +kernel
theorem dX4_moveInBoth_56 : decode cX4_moveInBoth 56 = .ok (.aload_n 1, 1) := by decide +kernel
theorem dX4_moveInBoth_57 : decode cX4_moveInBoth 57 = .ok (.getfield 132, 3) := by decide +kernel
theorem dX4_moveInBoth_60 : decode cX4_moveInBoth 60 = .ok (.iload 4, 2) := by decide +kernel
theorem dX4_moveInBoth_62 : decode cX4_moveInBoth 62 = .ok (.iaload, 1) := by decide +kernel
theorem dX4_moveInBoth_63 : decode cX4_moveInBoth 63 = .ok (.iload_n 3, 1) := by decide +kernel
theorem dX4_moveInBoth_64 : decode cX4_moveInBoth 64 = .ok (.imul, 1) := by decide +kernel
theorem dX4_moveInBoth_65 : decode cX4_moveInBoth 65 = .ok (.aload_n 2, 1) := by decide +kernel
theorem dX4_moveInBoth_66 : decode cX4_moveInBoth 66 = .ok (.getfield 132, 3) := by decide +kernel
theorem dX4_moveInBoth_69 : decode cX4_moveInBoth 69 = .ok (.iload 5, 2) := by decide +kernel
theorem dX4_moveInBoth_71 : decode cX4_moveInBoth 71 = .ok (.iaload, 1) := by decide +kernel
theorem dX4_moveInBoth_72 : decode cX4_moveInBoth 72 = .ok (.iadd, 1) := by decide +kernel
theorem dX4_moveInBoth_73 : decode cX4_moveInBoth 73 = .ok (.aload_n 1, 1) := by decide +kernel
theorem dX4_moveInBoth_74 : decode cX4_moveInBoth 74 = .ok (.getfield 126, 3) := by decide +kernel
theorem dX4_moveInBoth_77 : decode cX4_moveInBoth 77 = .ok (.getfield 112, 3) := by decide +kernel
theorem dX4_moveInBoth_80 : decode cX4_moveInBoth 80 = .ok (.iload 4, 2) := by decide +kernel
theorem dX4_moveInBoth_82 : decode cX4_moveInBoth 82 = .ok (.laload, 1) := by decide +kernel
theorem dX4_moveInBoth_83 : decode cX4_moveInBoth 83 = .ok (.aload_n 2, 1) := by decide +kernel
theorem dX4_moveInBoth_84 : decode cX4_moveInBoth 84 = .ok (.getfield 126, 3) := by decide +kernel
theorem dX4_moveInBoth_87 : decode cX4_moveInBoth 87 = .ok (.getfield 112, 3) := by decide +kernel
theorem dX4_moveInBoth_90 : decode cX4_moveInBoth 90 = .ok (.iload 5, 2) := by decide +kernel
theorem dX4_moveInBoth_92 : decode cX4_moveInBoth 92 = .ok (.laload, 1) := by decide +kernel
theorem dX4_moveInBoth_93 : decode cX4_moveInBoth 93 = .ok (.lmul, 1) := by decide +kernel
theorem dX4_moveInBoth_94 : decode cX4_moveInBoth 94 = .ok (.iload 4, 2) := by decide +kernel
theorem dX4_moveInBoth_96 : decode cX4_moveInBoth 96 = .ok (.iload 5, 2) := by decide +kernel
theorem dX4_moveInBoth_98 : decode cX4_moveInBoth 98 = .ok (.invokevirtual 135, 3) := by decide +kernel
theorem dX4_moveInBoth_101 : decode cX4_moveInBoth 101 = .ok (.iinc 5 1, 3) := by decide +kernel
theorem dX4_moveInBoth_104 : decode cX4_moveInBoth 104 = .ok (.goto (-78), 3) := by decide +kernel
theorem dX4_moveInBoth_107 : decode cX4_moveInBoth 107 = .ok (.iinc 4 1, 3) := by decide +kernel
theorem dX4_moveInBoth_110 : decode cX4_moveInBoth 110 = .ok (.goto (-99), 3) := by decide +kernel
theorem dX4_moveInBoth_113 : decode cX4_moveInBoth 113 = .ok (.return_, 1) := by decide +kernel
theorem q39_0 : pm_V d 39 0 [l0, l1, .ref xn, l3, l4, l5] st S Q = pm_V d 39 1 [l0, l1, .ref xn, l3, l4, l5] (.ref xn :: st) S Q := pv_aload_n (pm_cdi rfl dX4_moveInBoth_0) rfl
theorem q39_0N : pm_V d 39 0 [l0, l1, .null, l3, l4, l5] st S Q = pm_V d 39 1 [l0, l1, .null, l3, l4, l5] (.null :: st) S Q := pv_aload_nN (pm_cdi rfl dX4_moveInBoth_0) rfl
theorem q39_1 (hs : pm_sh S an = .inr 0) : pm_V d 39 1 [l0, l1, l2, l3, l4, l5] (.ref an :: st) S Q = pm_V d 39 4 [l0, l1, l2, l3, l4, l5] (va_rf (pm_gr S an 0) :: st) S Q := pv_getA (pm_cdi rfl dX4_moveInBoth_1) (by decide +kernel) (by decide +kernel) (by decide +kernel) hs
theorem q39_4 (hs : pm_sh S an = .inr 3) : pm_V d 39 4 [l0, l1, l2, l3, l4, l5] (.ref an :: st) S Q = pm_V d 39 7 [l0, l1, l2, l3, l4, l5] (.int (pm_gi S an 3) :: st) S Q := pv_getI (pm_cdi rfl dX4_moveInBoth_4) (by decide +kernel) (by decide +kernel) (by decide +kernel) hs
theorem q39_7 : pm_V d 39 7 [l0, l1, .ref yn, l3, l4, l5] (.int xi :: st) S Q = pm_V d 39 8 [l0, l1, .ref yn, .int xi, l4, l5] st S Q := pv_istore_n (pm_cdi rfl dX4_moveInBoth_7) rfl
theorem q39_8 : pm_V d 39 8 [l0, l1, l2, l3, l4, l5] st S Q = pm_V d 39 9 [l0, l1, l2, l3, l4, l5] (.int 0 :: st) S Q := pv_iconst (pm_cdi rfl dX4_moveInBoth_8) (by decide +kernel)
theorem q39_9 : pm_V d 39 9 [l0, l1, l2, .int yi, l4, l5] (.int xi :: st) S Q = pm_V d 39 11 [l0, l1, l2, .int yi, .int xi, l5] st S Q := pv_istore (pm_cdi rfl dX4_moveInBoth_9) rfl
theorem q39_11 : pm_V d 39 11 [l0, l1, l2, l3, .int xi, l5] st S Q = pm_V d 39 13 [l0, l1, l2, l3, .int xi, l5] (.int xi :: st) S Q := pv_iload (pm_cdi rfl dX4_moveInBoth_11) rfl
theorem q39_13 : pm_V d 39 13 [l0, .ref xn, l2, l3, l4, l5] st S Q = pm_V d 39 14 [l0, .ref xn, l2, l3, l4, l5] (.ref xn :: st) S Q := pv_aload_n (pm_cdi rfl dX4_moveInBoth_13) rfl
theorem q39_13N : pm_V d 39 13 [l0, .null, l2, l3, l4, l5] st S Q = pm_V d 39 14 [l0, .null, l2, l3, l4, l5] (.null :: st) S Q := pv_aload_nN (pm_cdi rfl dX4_moveInBoth_13) rfl
theorem q39_14 (hs : pm_sh S an = .inr 0) : pm_V d 39 14 [l0, l1, l2, l3, l4, l5] (.ref an :: st) S Q = pm_V d 39 17 [l0, l1, l2, l3, l4, l5] (va_rf (pm_gr S an 1) :: st) S Q := pv_getA (pm_cdi rfl dX4_moveInBoth_14) (by decide +kernel) (by decide +kernel) (by decide +kernel) hs
theorem q39_17 (hs : pm_sh S an = .inr 3) : pm_V d 39 17 [l0, l1, l2, l3, l4, l5] (.ref an :: st) S Q = pm_V d 39 20 [l0, l1, l2, l3, l4, l5] (.int (pm_gi S an 3) :: st) S Q := pv_getI (pm_cdi rfl dX4_moveInBoth_17) (by decide +kernel) (by decide +kernel) (by decide +kernel) hs
theorem q39_20 : pm_V d 39 20 [l0, l1, l2, l3, l4, l5] (.int yi :: .int xi :: st) S Q = if xi < yi then pm_V d 39 23 [l0, l1, l2, l3, l4, l5] st S Q else pm_V d 39 113 [l0, l1, l2, l3, l4, l5] st S Q := pv_icmp_ge (pm_cdi rfl dX4_moveInBoth_20) rfl
theorem q39_23 : pm_V d 39 23 [l0, l1, l2, l3, l4, l5] st S Q = pm_V d 39 24 [l0, l1, l2, l3, l4, l5] (.int 0 :: st) S Q := pv_iconst (pm_cdi rfl dX4_moveInBoth_23) (by decide +kernel)
theorem q39_24 : pm_V d 39 24 [l0, l1, l2, l3, .int yi, l5] (.int xi :: st) S Q = pm_V d 39 26 [l0, l1, l2, l3, .int yi, .int xi] st S Q := pv_istore (pm_cdi rfl dX4_moveInBoth_24) rfl
theorem q39_26 : pm_V d 39 26 [l0, l1, l2, l3, l4, .int xi] st S Q = pm_V d 39 28 [l0, l1, l2, l3, l4, .int xi] (.int xi :: st) S Q := pv_iload (pm_cdi rfl dX4_moveInBoth_26) rfl
theorem q39_28 : pm_V d 39 28 [l0, l1, .ref xn, l3, l4, l5] st S Q = pm_V d 39 29 [l0, l1, .ref xn, l3, l4, l5] (.ref xn :: st) S Q := pv_aload_n (pm_cdi rfl dX4_moveInBoth_28) rfl
theorem q39_28N : pm_V d 39 28 [l0, l1, .null, l3, l4, l5] st S Q = pm_V d 39 29 [l0, l1, .null, l3, l4, l5] (.null :: st) S Q := pv_aload_nN (pm_cdi rfl dX4_moveInBoth_28) rfl
theorem q39_29 (hs : pm_sh S an = .inr 0) : pm_V d 39 29 [l0, l1, l2, l3, l4, l5] (.ref an :: st) S Q = pm_V d 39 32 [l0, l1, l2, l3, l4, l5] (va_rf (pm_gr S an 1) :: st) S Q := pv_getA (pm_cdi rfl dX4_moveInBoth_29) (by decide +kernel) (by decide +kernel) (by decide +kernel) hs
theorem q39_32 (hs : pm_sh S an = .inr 3) : pm_V d 39 32 [l0, l1, l2, l3, l4, l5] (.ref an :: st) S Q = pm_V d 39 35 [l0, l1, l2, l3, l4, l5] (.int (pm_gi S an 3) :: st) S Q := pv_getI (pm_cdi rfl dX4_moveInBoth_32) (by decide +kernel) (by decide +kernel) (by decide +kernel) hs
theorem q39_35 : pm_V d 39 35 [l0, l1, l2, l3, l4, l5] (.int yi :: .int xi :: st) S Q = if xi < yi then pm_V d 39 38 [l0, l1, l2, l3, l4, l5] st S Q else pm_V d 39 107 [l0, l1, l2, l3, l4, l5] st S Q := pv_icmp_ge (pm_cdi rfl dX4_moveInBoth_35) rfl
theorem q39_38 : pm_V d 39 38 [.ref xn, l1, l2, l3, l4, l5] st S Q = pm_V d 39 39 [.ref xn, l1, l2, l3, l4, l5] (.ref xn :: st) S Q := pv_aload_n (pm_cdi rfl dX4_moveInBoth_38) rfl
theorem q39_39 : pm_V d 39 39 [l0, .ref xn, l2, l3, l4, l5] st S Q = pm_V d 39 40 [l0, .ref xn, l2, l3, l4, l5] (.ref xn :: st) S Q := pv_aload_n (pm_cdi rfl dX4_moveInBoth_39) rfl
theorem q39_39N : pm_V d 39 39 [l0, .null, l2, l3, l4, l5] st S Q = pm_V d 39 40 [l0, .null, l2, l3, l4, l5] (.null :: st) S Q := pv_aload_nN (pm_cdi rfl dX4_moveInBoth_39) rfl
theorem q39_40 (hs : pm_sh S an = .inr 0) : pm_V d 39 40 [l0, l1, l2, l3, l4, l5] (.ref an :: st) S Q = pm_V d 39 43 [l0, l1, l2, l3, l4, l5] (va_rf (pm_gr S an 2) :: st) S Q := pv_getA (pm_cdi rfl dX4_moveInBoth_40) (by decide +kernel) (by decide +kernel) (by decide +kernel) hs
theorem q39_43 : pm_V d 39 43 [l0, l1, l2, l3, .int xi, l5] st S Q = pm_V d 39 45 [l0, l1, l2, l3, .int xi, l5] (.int xi :: st) S Q := pv_iload (pm_cdi rfl dX4_moveInBoth_43) rfl
theorem q39_45 (hs : pm_ar S an 0 xi = true) : pm_V d 39 45 [l0, l1, l2, l3, l4, l5] (.int xi :: .ref an :: st) S Q = pm_V d 39 46 [l0, l1, l2, l3, l4, l5] (.int (pm_zi S an xi.toNatClampNeg) :: st) S Q := pv_iald (pm_cdi rfl dX4_moveInBoth_45) hs
theorem q39_46 : pm_V d 39 46 [l0, l1, l2, .int xi, l4, l5] st S Q = pm_V d 39 47 [l0, l1, l2, .int xi, l4, l5] (.int xi :: st) S Q := pv_iload_n (pm_cdi rfl dX4_moveInBoth_46) rfl
theorem q39_47 : pm_V d 39 47 [l0, l1, l2, l3, l4, l5] (.int yi :: .int xi :: st) S Q = pm_V d 39 48 [l0, l1, l2, l3, l4, l5] (.int (xi * yi) :: st) S Q := pv_imul (pm_cdi rfl dX4_moveInBoth_47)
theorem q39_48 : pm_V d 39 48 [l0, l1, .ref xn, l3, l4, l5] st S Q = pm_V d 39 49 [l0, l1, .ref xn, l3, l4, l5] (.ref xn :: st) S Q := pv_aload_n (pm_cdi rfl dX4_moveInBoth_48) rfl
theorem q39_48N : pm_V d 39 48 [l0, l1, .null, l3, l4, l5] st S Q = pm_V d 39 49 [l0, l1, .null, l3, l4, l5] (.null :: st) S Q := pv_aload_nN (pm_cdi rfl dX4_moveInBoth_48) rfl
theorem q39_49 (hs : pm_sh S an = .inr 0) : pm_V d 39 49 [l0, l1, l2, l3, l4, l5] (.ref an :: st) S Q = pm_V d 39 52 [l0, l1, l2, l3, l4, l5] (va_rf (pm_gr S an 2) :: st) S Q := pv_getA (pm_cdi rfl dX4_moveInBoth_49) (by decide +kernel) (by decide +kernel) (by decide +kernel) hs
theorem q39_52 : pm_V d 39 52 [l0, l1, l2, l3, l4, .int xi] st S Q = pm_V d 39 54 [l0, l1, l2, l3, l4, .int xi] (.int xi :: st) S Q := pv_iload (pm_cdi rfl dX4_moveInBoth_52) rfl
theorem q39_54 (hs : pm_ar S an 0 xi = true) : pm_V d 39 54 [l0, l1, l2, l3, l4, l5] (.int xi :: .ref an :: st) S Q = pm_V d 39 55 [l0, l1, l2, l3, l4, l5] (.int (pm_zi S an xi.toNatClampNeg) :: st) S Q := pv_iald (pm_cdi rfl dX4_moveInBoth_54) hs
theorem q39_55 : pm_V d 39 55 [l0, l1, l2, l3, l4, l5] (.int yi :: .int xi :: st) S Q = pm_V d 39 56 [l0, l1, l2, l3, l4, l5] (.int (xi + yi) :: st) S Q := pv_iadd (pm_cdi rfl dX4_moveInBoth_55)
theorem q39_56 : pm_V d 39 56 [l0, .ref xn, l2, l3, l4, l5] st S Q = pm_V d 39 57 [l0, .ref xn, l2, l3, l4, l5] (.ref xn :: st) S Q := pv_aload_n (pm_cdi rfl dX4_moveInBoth_56) rfl
theorem q39_56N : pm_V d 39 56 [l0, .null, l2, l3, l4, l5] st S Q = pm_V d 39 57 [l0, .null, l2, l3, l4, l5] (.null :: st) S Q := pv_aload_nN (pm_cdi rfl dX4_moveInBoth_56) rfl
theorem q39_57 (hs : pm_sh S an = .inr 0) : pm_V d 39 57 [l0, l1, l2, l3, l4, l5] (.ref an :: st) S Q = pm_V d 39 60 [l0, l1, l2, l3, l4, l5] (va_rf (pm_gr S an 3) :: st) S Q := pv_getA (pm_cdi rfl dX4_moveInBoth_57) (by decide +kernel) (by decide +kernel) (by decide +kernel) hs
theorem q39_60 : pm_V d 39 60 [l0, l1, l2, l3, .int xi, l5] st S Q = pm_V d 39 62 [l0, l1, l2, l3, .int xi, l5] (.int xi :: st) S Q := pv_iload (pm_cdi rfl dX4_moveInBoth_60) rfl
theorem q39_62 (hs : pm_ar S an 0 xi = true) : pm_V d 39 62 [l0, l1, l2, l3, l4, l5] (.int xi :: .ref an :: st) S Q = pm_V d 39 63 [l0, l1, l2, l3, l4, l5] (.int (pm_zi S an xi.toNatClampNeg) :: st) S Q := pv_iald (pm_cdi rfl dX4_moveInBoth_62) hs
theorem q39_63 : pm_V d 39 63 [l0, l1, l2, .int xi, l4, l5] st S Q = pm_V d 39 64 [l0, l1, l2, .int xi, l4, l5] (.int xi :: st) S Q := pv_iload_n (pm_cdi rfl dX4_moveInBoth_63) rfl
theorem q39_64 : pm_V d 39 64 [l0, l1, l2, l3, l4, l5] (.int yi :: .int xi :: st) S Q = pm_V d 39 65 [l0, l1, l2, l3, l4, l5] (.int (xi * yi) :: st) S Q := pv_imul (pm_cdi rfl dX4_moveInBoth_64)
theorem q39_65 : pm_V d 39 65 [l0, l1, .ref xn, l3, l4, l5] st S Q = pm_V d 39 66 [l0, l1, .ref xn, l3, l4, l5] (.ref xn :: st) S Q := pv_aload_n (pm_cdi rfl dX4_moveInBoth_65) rfl
theorem q39_65N : pm_V d 39 65 [l0, l1, .null, l3, l4, l5] st S Q = pm_V d 39 66 [l0, l1, .null, l3, l4, l5] (.null :: st) S Q := pv_aload_nN (pm_cdi rfl dX4_moveInBoth_65) rfl
theorem q39_66 (hs : pm_sh S an = .inr 0) : pm_V d 39 66 [l0, l1, l2, l3, l4, l5] (.ref an :: st) S Q = pm_V d 39 69 [l0, l1, l2, l3, l4, l5] (va_rf (pm_gr S an 3) :: st) S Q := pv_getA (pm_cdi rfl dX4_moveInBoth_66) (by decide +kernel) (by decide +kernel) (by decide +kernel) hs
theorem q39_69 : pm_V d 39 69 [l0, l1, l2, l3, l4, .int xi] st S Q = pm_V d 39 71 [l0, l1, l2, l3, l4, .int xi] (.int xi :: st) S Q := pv_iload (pm_cdi rfl dX4_moveInBoth_69) rfl
theorem q39_71 (hs : pm_ar S an 0 xi = true) : pm_V d 39 71 [l0, l1, l2, l3, l4, l5] (.int xi :: .ref an :: st) S Q = pm_V d 39 72 [l0, l1, l2, l3, l4, l5] (.int (pm_zi S an xi.toNatClampNeg) :: st) S Q := pv_iald (pm_cdi rfl dX4_moveInBoth_71) hs
theorem q39_72 : pm_V d 39 72 [l0, l1, l2, l3, l4, l5] (.int yi :: .int xi :: st) S Q = pm_V d 39 73 [l0, l1, l2, l3, l4, l5] (.int (xi + yi) :: st) S Q := pv_iadd (pm_cdi rfl dX4_moveInBoth_72)
theorem q39_73 : pm_V d 39 73 [l0, .ref xn, l2, l3, l4, l5] st S Q = pm_V d 39 74 [l0, .ref xn, l2, l3, l4, l5] (.ref xn :: st) S Q := pv_aload_n (pm_cdi rfl dX4_moveInBoth_73) rfl
theorem q39_73N : pm_V d 39 73 [l0, .null, l2, l3, l4, l5] st S Q = pm_V d 39 74 [l0, .null, l2, l3, l4, l5] (.null :: st) S Q := pv_aload_nN (pm_cdi rfl dX4_moveInBoth_73) rfl
theorem q39_74 (hs : pm_sh S an = .inr 0) : pm_V d 39 74 [l0, l1, l2, l3, l4, l5] (.ref an :: st) S Q = pm_V d 39 77 [l0, l1, l2, l3, l4, l5] (va_rf (pm_gr S an 1) :: st) S Q := pv_getA (pm_cdi rfl dX4_moveInBoth_74) (by decide +kernel) (by decide +kernel) (by decide +kernel) hs
theorem q39_77 (hs : pm_sh S an = .inr 3) : pm_V d 39 77 [l0, l1, l2, l3, l4, l5] (.ref an :: st) S Q = pm_V d 39 80 [l0, l1, l2, l3, l4, l5] (va_rf (pm_gr S an 0) :: st) S Q := pv_getA (pm_cdi rfl dX4_moveInBoth_77) (by decide +kernel) (by decide +kernel) (by decide +kernel) hs
theorem q39_80 : pm_V d 39 80 [l0, l1, l2, l3, .int xi, l5] st S Q = pm_V d 39 82 [l0, l1, l2, l3, .int xi, l5] (.int xi :: st) S Q := pv_iload (pm_cdi rfl dX4_moveInBoth_80) rfl
theorem q39_82 (hs : pm_ar S an 1 xi = true) : pm_V d 39 82 [l0, l1, l2, l3, l4, l5] (.int xi :: .ref an :: st) S Q = pm_V d 39 83 [l0, l1, l2, l3, l4, l5] (.long (pm_zl S an xi.toNatClampNeg) :: st) S Q := pv_lald (pm_cdi rfl dX4_moveInBoth_82) hs
theorem q39_83 : pm_V d 39 83 [l0, l1, .ref xn, l3, l4, l5] st S Q = pm_V d 39 84 [l0, l1, .ref xn, l3, l4, l5] (.ref xn :: st) S Q := pv_aload_n (pm_cdi rfl dX4_moveInBoth_83) rfl
theorem q39_83N : pm_V d 39 83 [l0, l1, .null, l3, l4, l5] st S Q = pm_V d 39 84 [l0, l1, .null, l3, l4, l5] (.null :: st) S Q := pv_aload_nN (pm_cdi rfl dX4_moveInBoth_83) rfl
theorem q39_84 (hs : pm_sh S an = .inr 0) : pm_V d 39 84 [l0, l1, l2, l3, l4, l5] (.ref an :: st) S Q = pm_V d 39 87 [l0, l1, l2, l3, l4, l5] (va_rf (pm_gr S an 1) :: st) S Q := pv_getA (pm_cdi rfl dX4_moveInBoth_84) (by decide +kernel) (by decide +kernel) (by decide +kernel) hs
theorem q39_87 (hs : pm_sh S an = .inr 3) : pm_V d 39 87 [l0, l1, l2, l3, l4, l5] (.ref an :: st) S Q = pm_V d 39 90 [l0, l1, l2, l3, l4, l5] (va_rf (pm_gr S an 0) :: st) S Q := pv_getA (pm_cdi rfl dX4_moveInBoth_87) (by decide +kernel) (by decide +kernel) (by decide +kernel) hs
theorem q39_90 : pm_V d 39 90 [l0, l1, l2, l3, l4, .int xi] st S Q = pm_V d 39 92 [l0, l1, l2, l3, l4, .int xi] (.int xi :: st) S Q := pv_iload (pm_cdi rfl dX4_moveInBoth_90) rfl
theorem q39_92 (hs : pm_ar S an 1 xi = true) : pm_V d 39 92 [l0, l1, l2, l3, l4, l5] (.int xi :: .ref an :: st) S Q = pm_V d 39 93 [l0, l1, l2, l3, l4, l5] (.long (pm_zl S an xi.toNatClampNeg) :: st) S Q := pv_lald (pm_cdi rfl dX4_moveInBoth_92) hs
theorem q39_93 : pm_V d 39 93 [l0, l1, l2, l3, l4, l5] (.long yj :: .long xj :: st) S Q = pm_V d 39 94 [l0, l1, l2, l3, l4, l5] (.long (xj * yj) :: st) S Q := pv_lmul (pm_cdi rfl dX4_moveInBoth_93)
theorem q39_94 : pm_V d 39 94 [l0, l1, l2, l3, .int xi, l5] st S Q = pm_V d 39 96 [l0, l1, l2, l3, .int xi, l5] (.int xi :: st) S Q := pv_iload (pm_cdi rfl dX4_moveInBoth_94) rfl
theorem q39_96 : pm_V d 39 96 [l0, l1, l2, l3, l4, .int xi] st S Q = pm_V d 39 98 [l0, l1, l2, l3, l4, .int xi] (.int xi :: st) S Q := pv_iload (pm_cdi rfl dX4_moveInBoth_96) rfl
theorem q39_98 (hs : pm_sh S an = .inr 0) : pm_V (d + 1) 39 98 [l0, l1, l2, l3, l4, l5] [.int v4i, .int v3i, .long v2j, .int v1i, .int v0i, .ref an] S Q = pm_N d 7 [.ref an, .int v0i, .int v1i, .long v2j, .int v3i, .int v4i] S (fun r S' => pm_V (d + 1) 39 101 [l0, l1, l2, l3, l4, l5] (r.toList ++ []) S' Q) := pv_callV (as := [.int v0i, .int v1i, .long v2j, .int v3i, .int v4i]) (pm_cdi rfl dX4_moveInBoth_98) (Or.inl (by decide +kernel)) (by decide +kernel) (show _ = _ from (by decide +kernel : 5 = pm_np 7)) rfl (Nat.le_of_ble_eq_true rfl) (cl := 0) (by decide +kernel) hs
theorem q39_101 : pm_V d 39 101 [l0, l1, l2, l3, .int yi, .int xi] st S Q = pm_V d 39 104 [l0, l1, l2, l3, .int yi, .int (xi + 1)] st S Q := pv_iinc (pm_cdi rfl dX4_moveInBoth_101) rfl (by decide +kernel) rfl
theorem q39_104 : pm_V d 39 104 [l0, l1, l2, l3, l4, l5] st S Q = pm_V d 39 26 [l0, l1, l2, l3, l4, l5] st S Q := pv_goto (pm_cdi rfl dX4_moveInBoth_104) rfl
theorem q39_107 : pm_V d 39 107 [l0, l1, l2, .int yi, .int xi, l5] st S Q = pm_V d 39 110 [l0, l1, l2, .int yi, .int (xi + 1), l5] st S Q := pv_iinc (pm_cdi rfl dX4_moveInBoth_107) rfl (by decide +kernel) rfl
theorem q39_110 : pm_V d 39 110 [l0, l1, l2, l3, l4, l5] st S Q = pm_V d 39 11 [l0, l1, l2, l3, l4, l5] st S Q := pv_goto (pm_cdi rfl dX4_moveInBoth_110) rfl
theorem q39_113 : pm_V d 39 113 [l0, l1, l2, l3, l4, l5] [] S Q = Q none S := pv_rV (pm_cdi rfl dX4_moveInBoth_113) (by decide +kernel)
theorem q39_e : pm_N d 39 [.ref v0n, .ref v1n, .ref v2n] S Q = pm_V d 39 0 [.ref v0n, .ref v1n, .ref v2n, pm_j, pm_j, pm_j] [] S Q := pv_ent (Nat.le_of_ble_eq_true rfl) rfl
/-! 40: ViewsJoins$Reckoner.line(LViewsJoins$Graph;LViewsJoins$Graph;)V -/
theorem dX4_line_0 : decode cX4_line 0 = .ok (.iconst 0, 1) := by decide +kernel
theorem dX4_line_1 : decode cX4_line 1 = .ok (.istore_n 2, 1) := by decide +kernel
theorem dX4_line_2 : decode cX4_line 2 = .ok (.iload_n 2, 1) := by decide +kernel
theorem dX4_line_3 : decode cX4_line 3 = .ok (.aload_n 1, 1) := by decide +kernel
theorem dX4_line_4 : decode cX4_line 4 = .ok (.getfield 126, 3) := by decide +kernel
theorem dX4_line_7 : decode cX4_line 7 = .ok (.getfield 103, 3) := by decide +kernel
theorem dX4_line_10 : decode cX4_line 10 = .ok (.if_icmp .ge 24, 3) := by decide +kernel
theorem dX4_line_13 : decode cX4_line 13 = .ok (.aload_n 0, 1) := by decide +kernel
theorem dX4_line_14 : decode cX4_line 14 = .ok (.aload_n 1, 1) := by decide +kernel
theorem dX4_line_15 : decode cX4_line 15 = .ok (.getfield 126, 3) := by decide +kernel
theorem dX4_line_18 : decode cX4_line 18 = .ok (.getfield 112, 3) := by decide +kernel
theorem dX4_line_21 : decode cX4_line 21 = .ok (.iload_n 2, 1) := by decide +kernel
theorem dX4_line_22 : decode cX4_line 22 = .ok (.laload, 1) := by decide +kernel
theorem dX4_line_23 : decode cX4_line 23 = .ok (.iload_n 2, 1) := by decide +kernel
theorem dX4_line_24 : decode cX4_line 24 = .ok (.iconst (-1), 1) := by decide +kernel
theorem dX4_line_25 : decode cX4_line 25 = .ok (.invokevirtual 115, 3) := by decide +kernel
theorem dX4_line_28 : decode cX4_line 28 = .ok (.iinc 2 1, 3) := by decide +kernel
theorem dX4_line_31 : decode cX4_line 31 = .ok (.goto (-29), 3) := by decide +kernel
theorem dX4_line_34 : decode cX4_line 34 = .ok (.iconst 0, 1) := by decide +kernel
theorem dX4_line_35 : decode cX4_line 35 = .ok (.istore_n 2, 1) := by decide +kernel
theorem dX4_line_36 : decode cX4_line 36 = .ok (.iload_n 2, 1) := by decide +kernel
theorem dX4_line_37 : decode cX4_line 37 = .ok (.aload_n 1, 1) := by decide +kernel
theorem dX4_line_38 : decode cX4_line 38 = .ok (.getfield 126, 3) := by decide +kernel
theorem dX4_line_41 : decode cX4_line 41 = .ok (.getfield 103, 3) := by decide +kernel
theorem dX4_line_44 : decode cX4_line 44 = .ok (.if_icmp .ge 73, 3) := by decide +kernel
theorem dX4_line_47 : decode cX4_line 47 = .ok (.aload_n 0, 1) := by decide +kernel
theorem dX4_line_48 : decode cX4_line 48 = .ok (.getfield 50, 3) := by decide +kernel
theorem dX4_line_51 : decode cX4_line 51 = .ok (.ifCond .ne 66, 3) := by decide +kernel
theorem dX4_line_54 : decode cX4_line 54 = .ok (.aload_n 1, 1) := by decide +kernel
theorem dX4_line_55 : decode cX4_line 55 = .ok (.getfield 132, 3) := by decide +kernel
theorem dX4_line_58 : decode cX4_line 58 = .ok (.iload_n 2, 1) := by decide +kernel
theorem dX4_line_59 : decode cX4_line 59 = .ok (.iaload, 1) := by decide +kernel
theorem dX4_line_60 : decode cX4_line 60 = .ok (.istore_n 3, 1) := by decide +kernel
theorem dX4_line_61 : decode cX4_line 61 = .ok (.iconst 0, 1) := by decide +kernel
theorem dX4_line_62 : decode cX4_line 62 = .ok (.istore 4, 2) := by decide +kernel
theorem dX4_line_64 : decode cX4_line 64 = .ok (.iload 4, 2) := by decide +kernel
theorem dX4_line_66 : decode cX4_line 66 = .ok (.aload_n 1, 1) := by decide +kernel
theorem dX4_line_67 : decode cX4_line 67 = .ok (.getfield 126, 3) := by decide +kernel
theorem dX4_line_70 : decode cX4_line 70 = .ok (.getfield 103, 3) := by decide +kernel
theorem dX4_line_73 : decode cX4_line 73 = .ok (.if_icmp .ge 38, 3) := by decide +kernel
theorem dX4_line_76 : decode cX4_line 76 = .ok (.aload_n 1, 1) := by decide +kernel
theorem dX4_line_77 : decode cX4_line 77 = .ok (.getfield 129, 3) := by decide +kernel
theorem dX4_line_80 : decode cX4_line 80 = .ok (.iload 4, 2) := by decide +kernel
theorem dX4_line_82 : decode cX4_line 82 = .ok (.iaload, 1) := by decide +kernel
theorem dX4_line_83 : decode cX4_line 83 = .ok (.iload_n 3, 1) := by decide +kernel
theorem dX4_line_84 : decode cX4_line 84 = .ok (.if_icmp .ne 21, 3) := by decide +kernel
theorem dX4_line_87 : decode cX4_line 87 = .ok (.aload_n 0, 1) := by decide +kernel
theorem dX4_line_88 : decode cX4_line 88 = .ok (.iload_n 2, 1) := by decide +kernel
theorem dX4_line_89 : decode cX4_line 89 = .ok (.iload 4, 2) := by decide +kernel
theorem dX4_line_91 : decode cX4_line 91 = .ok (.aload_n 1, 1) := by decide +kernel
theorem dX4_line_92 : decode cX4_line 92 = .ok (.getfield 99, 3) := by decide +kernel
theorem dX4_line_95 : decode cX4_line 95 = .ok (.getfield 112, 3) := by decide +kernel
theorem dX4_line_98 : decode cX4_line 98 = .ok (.iload_n 3, 1) := by decide +kernel
theorem dX4_line_99 : decode cX4_line 99 = .ok (.laload, 1) := by decide +kernel
theorem dX4_line_100 : decode cX4_line 100 = .ok (.iload_n 3, 1) := by decide +kernel
theorem dX4_line_101 : decode cX4_line 101 = .ok (.iconst (-1), 1) := by decide +kernel
theorem dX4_line_102 : decode cX4_line 102 = .ok (.invokevirtual 135, 3) := by decide +kernel
theorem dX4_line_105 : decode cX4_line 105 = .ok (.iinc 4 1, 3) := by decide +kernel
theorem dX4_line_108 : decode cX4_line 108 = .ok (.goto (-44), 3) := by decide +kernel
theorem dX4_line_111 : decode cX4_line 111 = .ok (.iinc 2 1, 3) := by decide +kernel
theorem dX4_line_114 : decode cX4_line 114 = .ok (.goto (-78), 3) := by decide +kernel
theorem dX4_line_117 : decode cX4_line 117 = .ok (.return_, 1) := by decide +kernel
theorem q40_0 : pm_V d 40 0 [l0, l1, l2, l3, l4] st S Q = pm_V d 40 1 [l0, l1, l2, l3, l4] (.int 0 :: st) S Q := pv_iconst (pm_cdi rfl dX4_line_0) (by decide +kernel)
theorem q40_1 : pm_V d 40 1 [l0, .ref yn, l2, l3, l4] (.int xi :: st) S Q = pm_V d 40 2 [l0, .ref yn, .int xi, l3, l4] st S Q := pv_istore_n (pm_cdi rfl dX4_line_1) rfl
theorem q40_2 : pm_V d 40 2 [l0, l1, .int xi, l3, l4] st S Q = pm_V d 40 3 [l0, l1, .int xi, l3, l4] (.int xi :: st) S Q := pv_iload_n (pm_cdi rfl dX4_line_2) rfl
theorem q40_3 : pm_V d 40 3 [l0, .ref xn, l2, l3, l4] st S Q = pm_V d 40 4 [l0, .ref xn, l2, l3, l4] (.ref xn :: st) S Q := pv_aload_n (pm_cdi rfl dX4_line_3) rfl
theorem q40_3N : pm_V d 40 3 [l0, .null, l2, l3, l4] st S Q = pm_V d 40 4 [l0, .null, l2, l3, l4] (.null :: st) S Q := pv_aload_nN (pm_cdi rfl dX4_line_3) rfl
theorem q40_4 (hs : pm_sh S an = .inr 0) : pm_V d 40 4 [l0, l1, l2, l3, l4] (.ref an :: st) S Q = pm_V d 40 7 [l0, l1, l2, l3, l4] (va_rf (pm_gr S an 1) :: st) S Q := pv_getA (pm_cdi rfl dX4_line_4) (by decide +kernel) (by decide +kernel) (by decide +kernel) hs
theorem q40_7 (hs : pm_sh S an = .inr 3) : pm_V d 40 7 [l0, l1, l2, l3, l4] (.ref an :: st) S Q = pm_V d 40 10 [l0, l1, l2, l3, l4] (.int (pm_gi S an 3) :: st) S Q := pv_getI (pm_cdi rfl dX4_line_7) (by decide +kernel) (by decide +kernel) (by decide +kernel) hs
theorem q40_10 : pm_V d 40 10 [l0, l1, l2, l3, l4] (.int yi :: .int xi :: st) S Q = if xi < yi then pm_V d 40 13 [l0, l1, l2, l3, l4] st S Q else pm_V d 40 34 [l0, l1, l2, l3, l4] st S Q := pv_icmp_ge (pm_cdi rfl dX4_line_10) rfl
theorem q40_13 : pm_V d 40 13 [.ref xn, l1, l2, l3, l4] st S Q = pm_V d 40 14 [.ref xn, l1, l2, l3, l4] (.ref xn :: st) S Q := pv_aload_n (pm_cdi rfl dX4_line_13) rfl
theorem q40_14 : pm_V d 40 14 [l0, .ref xn, l2, l3, l4] st S Q = pm_V d 40 15 [l0, .ref xn, l2, l3, l4] (.ref xn :: st) S Q := pv_aload_n (pm_cdi rfl dX4_line_14) rfl
theorem q40_14N : pm_V d 40 14 [l0, .null, l2, l3, l4] st S Q = pm_V d 40 15 [l0, .null, l2, l3, l4] (.null :: st) S Q := pv_aload_nN (pm_cdi rfl dX4_line_14) rfl
theorem q40_15 (hs : pm_sh S an = .inr 0) : pm_V d 40 15 [l0, l1, l2, l3, l4] (.ref an :: st) S Q = pm_V d 40 18 [l0, l1, l2, l3, l4] (va_rf (pm_gr S an 1) :: st) S Q := pv_getA (pm_cdi rfl dX4_line_15) (by decide +kernel) (by decide +kernel) (by decide +kernel) hs
theorem q40_18 (hs : pm_sh S an = .inr 3) : pm_V d 40 18 [l0, l1, l2, l3, l4] (.ref an :: st) S Q = pm_V d 40 21 [l0, l1, l2, l3, l4] (va_rf (pm_gr S an 0) :: st) S Q := pv_getA (pm_cdi rfl dX4_line_18) (by decide +kernel) (by decide +kernel) (by decide +kernel) hs
theorem q40_21 : pm_V d 40 21 [l0, l1, .int xi, l3, l4] st S Q = pm_V d 40 22 [l0, l1, .int xi, l3, l4] (.int xi :: st) S Q := pv_iload_n (pm_cdi rfl dX4_line_21) rfl
theorem q40_22 (hs : pm_ar S an 1 xi = true) : pm_V d 40 22 [l0, l1, l2, l3, l4] (.int xi :: .ref an :: st) S Q = pm_V d 40 23 [l0, l1, l2, l3, l4] (.long (pm_zl S an xi.toNatClampNeg) :: st) S Q := pv_lald (pm_cdi rfl dX4_line_22) hs
theorem q40_23 : pm_V d 40 23 [l0, l1, .int xi, l3, l4] st S Q = pm_V d 40 24 [l0, l1, .int xi, l3, l4] (.int xi :: st) S Q := pv_iload_n (pm_cdi rfl dX4_line_23) rfl
theorem q40_24 : pm_V d 40 24 [l0, l1, l2, l3, l4] st S Q = pm_V d 40 25 [l0, l1, l2, l3, l4] (.int (-1) :: st) S Q := pv_iconst (pm_cdi rfl dX4_line_24) (by decide +kernel)
theorem q40_25 (hs : pm_sh S an = .inr 0) : pm_V (d + 1) 40 25 [l0, l1, l2, l3, l4] [.int v2i, .int v1i, .long v0j, .ref an] S Q = pm_N d 6 [.ref an, .long v0j, .int v1i, .int v2i] S (fun r S' => pm_V (d + 1) 40 28 [l0, l1, l2, l3, l4] (r.toList ++ []) S' Q) := pv_callV (as := [.long v0j, .int v1i, .int v2i]) (pm_cdi rfl dX4_line_25) (Or.inl (by decide +kernel)) (by decide +kernel) (show _ = _ from (by decide +kernel : 3 = pm_np 6)) rfl (Nat.le_of_ble_eq_true rfl) (cl := 0) (by decide +kernel) hs
theorem q40_28 : pm_V d 40 28 [l0, .ref yn, .int xi, l3, l4] st S Q = pm_V d 40 31 [l0, .ref yn, .int (xi + 1), l3, l4] st S Q := pv_iinc (pm_cdi rfl dX4_line_28) rfl (by decide +kernel) rfl
theorem q40_31 : pm_V d 40 31 [l0, l1, l2, l3, l4] st S Q = pm_V d 40 2 [l0, l1, l2, l3, l4] st S Q := pv_goto (pm_cdi rfl dX4_line_31) rfl
theorem q40_34 : pm_V d 40 34 [l0, l1, l2, l3, l4] st S Q = pm_V d 40 35 [l0, l1, l2, l3, l4] (.int 0 :: st) S Q := pv_iconst (pm_cdi rfl dX4_line_34) (by decide +kernel)
theorem q40_35 : pm_V d 40 35 [l0, .ref yn, l2, l3, l4] (.int xi :: st) S Q = pm_V d 40 36 [l0, .ref yn, .int xi, l3, l4] st S Q := pv_istore_n (pm_cdi rfl dX4_line_35) rfl
theorem q40_36 : pm_V d 40 36 [l0, l1, .int xi, l3, l4] st S Q = pm_V d 40 37 [l0, l1, .int xi, l3, l4] (.int xi :: st) S Q := pv_iload_n (pm_cdi rfl dX4_line_36) rfl
theorem q40_37 : pm_V d 40 37 [l0, .ref xn, l2, l3, l4] st S Q = pm_V d 40 38 [l0, .ref xn, l2, l3, l4] (.ref xn :: st) S Q := pv_aload_n (pm_cdi rfl dX4_line_37) rfl
theorem q40_37N : pm_V d 40 37 [l0, .null, l2, l3, l4] st S Q = pm_V d 40 38 [l0, .null, l2, l3, l4] (.null :: st) S Q := pv_aload_nN (pm_cdi rfl dX4_line_37) rfl
theorem q40_38 (hs : pm_sh S an = .inr 0) : pm_V d 40 38 [l0, l1, l2, l3, l4] (.ref an :: st) S Q = pm_V d 40 41 [l0, l1, l2, l3, l4] (va_rf (pm_gr S an 1) :: st) S Q := pv_getA (pm_cdi rfl dX4_line_38) (by decide +kernel) (by decide +kernel) (by decide +kernel) hs
theorem q40_41 (hs : pm_sh S an = .inr 3) : pm_V d 40 41 [l0, l1, l2, l3, l4] (.ref an :: st) S Q = pm_V d 40 44 [l0, l1, l2, l3, l4] (.int (pm_gi S an 3) :: st) S Q := pv_getI (pm_cdi rfl dX4_line_41) (by decide +kernel) (by decide +kernel) (by decide +kernel) hs
theorem q40_44 : pm_V d 40 44 [l0, l1, l2, l3, l4] (.int yi :: .int xi :: st) S Q = if xi < yi then pm_V d 40 47 [l0, l1, l2, l3, l4] st S Q else pm_V d 40 117 [l0, l1, l2, l3, l4] st S Q := pv_icmp_ge (pm_cdi rfl dX4_line_44) rfl
theorem q40_47 : pm_V d 40 47 [.ref xn, l1, l2, l3, l4] st S Q = pm_V d 40 48 [.ref xn, l1, l2, l3, l4] (.ref xn :: st) S Q := pv_aload_n (pm_cdi rfl dX4_line_47) rfl
theorem q40_48 (hs : pm_sh S an = .inr 0) : pm_V d 40 48 [l0, l1, l2, l3, l4] (.ref an :: st) S Q = pm_V d 40 51 [l0, l1, l2, l3, l4] (.int (pm_gi S an 5) :: st) S Q := pv_getI (pm_cdi rfl dX4_line_48) (by decide +kernel) (by decide +kernel) (by decide +kernel) hs
theorem q40_51 : pm_V d 40 51 [l0, l1, l2, l3, l4] (.int xi :: st) S Q = if xi = 0 then pm_V d 40 54 [l0, l1, l2, l3, l4] st S Q else pm_V d 40 117 [l0, l1, l2, l3, l4] st S Q := pv_if_ne (pm_cdi rfl dX4_line_51) rfl
theorem q40_54 : pm_V d 40 54 [l0, .ref xn, l2, l3, l4] st S Q = pm_V d 40 55 [l0, .ref xn, l2, l3, l4] (.ref xn :: st) S Q := pv_aload_n (pm_cdi rfl dX4_line_54) rfl
theorem q40_54N : pm_V d 40 54 [l0, .null, l2, l3, l4] st S Q = pm_V d 40 55 [l0, .null, l2, l3, l4] (.null :: st) S Q := pv_aload_nN (pm_cdi rfl dX4_line_54) rfl
theorem q40_55 (hs : pm_sh S an = .inr 0) : pm_V d 40 55 [l0, l1, l2, l3, l4] (.ref an :: st) S Q = pm_V d 40 58 [l0, l1, l2, l3, l4] (va_rf (pm_gr S an 3) :: st) S Q := pv_getA (pm_cdi rfl dX4_line_55) (by decide +kernel) (by decide +kernel) (by decide +kernel) hs
theorem q40_58 : pm_V d 40 58 [l0, l1, .int xi, l3, l4] st S Q = pm_V d 40 59 [l0, l1, .int xi, l3, l4] (.int xi :: st) S Q := pv_iload_n (pm_cdi rfl dX4_line_58) rfl
theorem q40_59 (hs : pm_ar S an 0 xi = true) : pm_V d 40 59 [l0, l1, l2, l3, l4] (.int xi :: .ref an :: st) S Q = pm_V d 40 60 [l0, l1, l2, l3, l4] (.int (pm_zi S an xi.toNatClampNeg) :: st) S Q := pv_iald (pm_cdi rfl dX4_line_59) hs
theorem q40_60 : pm_V d 40 60 [l0, l1, .int yi, l3, l4] (.int xi :: st) S Q = pm_V d 40 61 [l0, l1, .int yi, .int xi, l4] st S Q := pv_istore_n (pm_cdi rfl dX4_line_60) rfl
theorem q40_61 : pm_V d 40 61 [l0, l1, l2, l3, l4] st S Q = pm_V d 40 62 [l0, l1, l2, l3, l4] (.int 0 :: st) S Q := pv_iconst (pm_cdi rfl dX4_line_61) (by decide +kernel)
theorem q40_62 : pm_V d 40 62 [l0, l1, l2, .int yi, l4] (.int xi :: st) S Q = pm_V d 40 64 [l0, l1, l2, .int yi, .int xi] st S Q := pv_istore (pm_cdi rfl dX4_line_62) rfl
theorem q40_64 : pm_V d 40 64 [l0, l1, l2, l3, .int xi] st S Q = pm_V d 40 66 [l0, l1, l2, l3, .int xi] (.int xi :: st) S Q := pv_iload (pm_cdi rfl dX4_line_64) rfl
theorem q40_66 : pm_V d 40 66 [l0, .ref xn, l2, l3, l4] st S Q = pm_V d 40 67 [l0, .ref xn, l2, l3, l4] (.ref xn :: st) S Q := pv_aload_n (pm_cdi rfl dX4_line_66) rfl
theorem q40_66N : pm_V d 40 66 [l0, .null, l2, l3, l4] st S Q = pm_V d 40 67 [l0, .null, l2, l3, l4] (.null :: st) S Q := pv_aload_nN (pm_cdi rfl dX4_line_66) rfl
theorem q40_67 (hs : pm_sh S an = .inr 0) : pm_V d 40 67 [l0, l1, l2, l3, l4] (.ref an :: st) S Q = pm_V d 40 70 [l0, l1, l2, l3, l4] (va_rf (pm_gr S an 1) :: st) S Q := pv_getA (pm_cdi rfl dX4_line_67) (by decide +kernel) (by decide +kernel) (by decide +kernel) hs
theorem q40_70 (hs : pm_sh S an = .inr 3) : pm_V d 40 70 [l0, l1, l2, l3, l4] (.ref an :: st) S Q = pm_V d 40 73 [l0, l1, l2, l3, l4] (.int (pm_gi S an 3) :: st) S Q := pv_getI (pm_cdi rfl dX4_line_70) (by decide +kernel) (by decide +kernel) (by decide +kernel) hs
theorem q40_73 : pm_V d 40 73 [l0, l1, l2, l3, l4] (.int yi :: .int xi :: st) S Q = if xi < yi then pm_V d 40 76 [l0, l1, l2, l3, l4] st S Q else pm_V d 40 111 [l0, l1, l2, l3, l4] st S Q := pv_icmp_ge (pm_cdi rfl dX4_line_73) rfl
theorem q40_76 : pm_V d 40 76 [l0, .ref xn, l2, l3, l4] st S Q = pm_V d 40 77 [l0, .ref xn, l2, l3, l4] (.ref xn :: st) S Q := pv_aload_n (pm_cdi rfl dX4_line_76) rfl
theorem q40_76N : pm_V d 40 76 [l0, .null, l2, l3, l4] st S Q = pm_V d 40 77 [l0, .null, l2, l3, l4] (.null :: st) S Q := pv_aload_nN (pm_cdi rfl dX4_line_76) rfl
theorem q40_77 (hs : pm_sh S an = .inr 0) : pm_V d 40 77 [l0, l1, l2, l3, l4] (.ref an :: st) S Q = pm_V d 40 80 [l0, l1, l2, l3, l4] (va_rf (pm_gr S an 2) :: st) S Q := pv_getA (pm_cdi rfl dX4_line_77) (by decide +kernel) (by decide +kernel) (by decide +kernel) hs
theorem q40_80 : pm_V d 40 80 [l0, l1, l2, l3, .int xi] st S Q = pm_V d 40 82 [l0, l1, l2, l3, .int xi] (.int xi :: st) S Q := pv_iload (pm_cdi rfl dX4_line_80) rfl
theorem q40_82 (hs : pm_ar S an 0 xi = true) : pm_V d 40 82 [l0, l1, l2, l3, l4] (.int xi :: .ref an :: st) S Q = pm_V d 40 83 [l0, l1, l2, l3, l4] (.int (pm_zi S an xi.toNatClampNeg) :: st) S Q := pv_iald (pm_cdi rfl dX4_line_82) hs
theorem q40_83 : pm_V d 40 83 [l0, l1, l2, .int xi, l4] st S Q = pm_V d 40 84 [l0, l1, l2, .int xi, l4] (.int xi :: st) S Q := pv_iload_n (pm_cdi rfl dX4_line_83) rfl
theorem q40_84 : pm_V d 40 84 [l0, l1, l2, l3, l4] (.int yi :: .int xi :: st) S Q = if xi = yi then pm_V d 40 87 [l0, l1, l2, l3, l4] st S Q else pm_V d 40 105 [l0, l1, l2, l3, l4] st S Q := pv_icmp_ne (pm_cdi rfl dX4_line_84) rfl
theorem q40_87 : pm_V d 40 87 [.ref xn, l1, l2, l3, l4] st S Q = pm_V d 40 88 [.ref xn, l1, l2, l3, l4] (.ref xn :: st) S Q := pv_aload_n (pm_cdi rfl dX4_line_87) rfl
theorem q40_88 : pm_V d 40 88 [l0, l1, .int xi, l3, l4] st S Q = pm_V d 40 89 [l0, l1, .int xi, l3, l4] (.int xi :: st) S Q := pv_iload_n (pm_cdi rfl dX4_line_88) rfl
theorem q40_89 : pm_V d 40 89 [l0, l1, l2, l3, .int xi] st S Q = pm_V d 40 91 [l0, l1, l2, l3, .int xi] (.int xi :: st) S Q := pv_iload (pm_cdi rfl dX4_line_89) rfl
theorem q40_91 : pm_V d 40 91 [l0, .ref xn, l2, l3, l4] st S Q = pm_V d 40 92 [l0, .ref xn, l2, l3, l4] (.ref xn :: st) S Q := pv_aload_n (pm_cdi rfl dX4_line_91) rfl
theorem q40_91N : pm_V d 40 91 [l0, .null, l2, l3, l4] st S Q = pm_V d 40 92 [l0, .null, l2, l3, l4] (.null :: st) S Q := pv_aload_nN (pm_cdi rfl dX4_line_91) rfl
theorem q40_92 (hs : pm_sh S an = .inr 0) : pm_V d 40 92 [l0, l1, l2, l3, l4] (.ref an :: st) S Q = pm_V d 40 95 [l0, l1, l2, l3, l4] (va_rf (pm_gr S an 0) :: st) S Q := pv_getA (pm_cdi rfl dX4_line_92) (by decide +kernel) (by decide +kernel) (by decide +kernel) hs
theorem q40_95 (hs : pm_sh S an = .inr 3) : pm_V d 40 95 [l0, l1, l2, l3, l4] (.ref an :: st) S Q = pm_V d 40 98 [l0, l1, l2, l3, l4] (va_rf (pm_gr S an 0) :: st) S Q := pv_getA (pm_cdi rfl dX4_line_95) (by decide +kernel) (by decide +kernel) (by decide +kernel) hs
theorem q40_98 : pm_V d 40 98 [l0, l1, l2, .int xi, l4] st S Q = pm_V d 40 99 [l0, l1, l2, .int xi, l4] (.int xi :: st) S Q := pv_iload_n (pm_cdi rfl dX4_line_98) rfl
theorem q40_99 (hs : pm_ar S an 1 xi = true) : pm_V d 40 99 [l0, l1, l2, l3, l4] (.int xi :: .ref an :: st) S Q = pm_V d 40 100 [l0, l1, l2, l3, l4] (.long (pm_zl S an xi.toNatClampNeg) :: st) S Q := pv_lald (pm_cdi rfl dX4_line_99) hs
theorem q40_100 : pm_V d 40 100 [l0, l1, l2, .int xi, l4] st S Q = pm_V d 40 101 [l0, l1, l2, .int xi, l4] (.int xi :: st) S Q := pv_iload_n (pm_cdi rfl dX4_line_100) rfl
theorem q40_101 : pm_V d 40 101 [l0, l1, l2, l3, l4] st S Q = pm_V d 40 102 [l0, l1, l2, l3, l4] (.int (-1) :: st) S Q := pv_iconst (pm_cdi rfl dX4_line_101) (by decide +kernel)
theorem q40_102 (hs : pm_sh S an = .inr 0) : pm_V (d + 1) 40 102 [l0, l1, l2, l3, l4] [.int v4i, .int v3i, .long v2j, .int v1i, .int v0i, .ref an] S Q = pm_N d 7 [.ref an, .int v0i, .int v1i, .long v2j, .int v3i, .int v4i] S (fun r S' => pm_V (d + 1) 40 105 [l0, l1, l2, l3, l4] (r.toList ++ []) S' Q) := pv_callV (as := [.int v0i, .int v1i, .long v2j, .int v3i, .int v4i]) (pm_cdi rfl dX4_line_102) (Or.inl (by decide +kernel)) (by decide +kernel) (show _ = _ from (by decide +kernel : 5 = pm_np 7)) rfl (Nat.le_of_ble_eq_true rfl) (cl := 0) (by decide +kernel) hs
theorem q40_105 : pm_V d 40 105 [l0, l1, l2, .int yi, .int xi] st S Q = pm_V d 40 108 [l0, l1, l2, .int yi, .int (xi + 1)] st S Q := pv_iinc (pm_cdi rfl dX4_line_105) rfl (by decide +kernel) rfl
theorem q40_108 : pm_V d 40 108 [l0, l1, l2, l3, l4] st S Q = pm_V d 40 64 [l0, l1, l2, l3, l4] st S Q := pv_goto (pm_cdi rfl dX4_line_108) rfl
theorem q40_111 : pm_V d 40 111 [l0, .ref yn, .int xi, l3, l4] st S Q = pm_V d 40 114 [l0, .ref yn, .int (xi + 1), l3, l4] st S Q := pv_iinc (pm_cdi rfl dX4_line_111) rfl (by decide +kernel) rfl
theorem q40_114 : pm_V d 40 114 [l0, l1, l2, l3, l4] st S Q = pm_V d 40 36 [l0, l1, l2, l3, l4] st S Q := pv_goto (pm_cdi rfl dX4_line_114) rfl
theorem q40_117 : pm_V d 40 117 [l0, l1, l2, l3, l4] [] S Q = Q none S := pv_rV (pm_cdi rfl dX4_line_117) (by decide +kernel)
theorem q40_e : pm_N d 40 [.ref v0n, .ref v1n] S Q = pm_V d 40 0 [.ref v0n, .ref v1n, pm_j, pm_j, pm_j] [] S Q := pv_ent (Nat.le_of_ble_eq_true rfl) rfl
/-! 41: ViewsJoins$Reckoner.gatherNodes(LViewsJoins$Graph;LViewsJoins$Graph;)V -/
theorem dX4_gatherNodes_0 : decode cX4_gatherNodes 0 = .ok (.aload_n 0, 1) := by decide +kernel
theorem dX4_gatherNodes_1 : decode cX4_gatherNodes 1 = .ok (.getfield 20, 3) := by decide +kernel
theorem dX4_gatherNodes_4 : decode cX4_gatherNodes 4 = .ok (.aload_n 1, 1) := by decide +kernel
theorem dX4_gatherNodes_5 : decode cX4_gatherNodes 5 = .ok (.getfield 96, 3) := by decide +kernel
theorem dX4_gatherNodes_8 : decode cX4_gatherNodes 8 = .ok (.aaload, 1) := by decide +kernel
theorem dX4_gatherNodes_9 : decode cX4_gatherNodes 9 = .ok (.astore_n 3, 1) := by decide +kernel
theorem dX4_gatherNodes_10 : decode cX4_gatherNodes 10 = .ok (.aload_n 0, 1) := by decide +kernel
theorem dX4_gatherNodes_11 : decode cX4_gatherNodes 11 = .ok (.getfield 26, 3) := by decide +kernel
theorem dX4_gatherNodes_14 : decode cX4_gatherNodes 14 = .ok (.invokevirtual 178, 3) := by decide +kernel
theorem dX4_gatherNodes_17 : decode cX4_gatherNodes 17 = .ok (.iconst 0, 1) := by decide +kernel
theorem dX4_gatherNodes_18 : decode cX4_gatherNodes 18 = .ok (.istore 4, 2) := by decide +kernel
theorem dX4_gatherNodes_20 : decode cX4_gatherNodes 20 = .ok (.iload 4, 2) := by decide +kernel
theorem dX4_gatherNodes_22 : decode cX4_gatherNodes 22 = .ok (.aload_n 2, 1) := by decide +kernel
theorem dX4_gatherNodes_23 : decode cX4_gatherNodes 23 = .ok (.getfield 99, 3) := by decide +kernel
theorem dX4_gatherNodes_26 : decode cX4_gatherNodes 26 = .ok (.getfield 103, 3) := by decide +kernel
theorem dX4_gatherNodes_29 : decode cX4_gatherNodes 29 = .ok (.if_icmp .ge 36, 3) := by decide +kernel
theorem dX4_gatherNodes_32 : decode cX4_gatherNodes 32 = .ok (.aload_n 0, 1) := by decide +kernel
theorem dX4_gatherNodes_33 : decode cX4_gatherNodes 33 = .ok (.getfield 26, 3) := by decide +kernel
theorem dX4_gatherNodes_36 : decode cX4_gatherNodes 36 = .ok (.aload_n 3, 1) := by decide +kernel
theorem dX4_gatherNodes_37 : decode cX4_gatherNodes 37 = .ok (.iload 4, 2) := by decide +kernel
theorem dX4_gatherNodes_39 : decode cX4_gatherNodes 39 = .ok (.iaload, 1) := by decide +kernel
theorem dX4_gatherNodes_40 : decode cX4_gatherNodes 40 = .ok (.iload 4, 2) := by decide +kernel
theorem dX4_gatherNodes_42 : decode cX4_gatherNodes 42 = .ok (.aload_n 2, 1) := by decide +kernel
theorem dX4_gatherNodes_43 : decode cX4_gatherNodes 43 = .ok (.getfield 99, 3) := by decide +kernel
theorem dX4_gatherNodes_46 : decode cX4_gatherNodes 46 = .ok (.getfield 112, 3) := by decide +kernel
theorem dX4_gatherNodes_49 : decode cX4_gatherNodes 49 = .ok (.iload 4, 2) := by decide +kernel
theorem dX4_gatherNodes_51 : decode cX4_gatherNodes 51 = .ok (.laload, 1) := by decide +kernel
theorem dX4_gatherNodes_52 : decode cX4_gatherNodes 52 = .ok (.aload_n 1, 1) := by decide +kernel
theorem dX4_gatherNodes_53 : decode cX4_gatherNodes 53 = .ok (.getfield 123, 3) := by decide +kernel
theorem dX4_gatherNodes_56 : decode cX4_gatherNodes 56 = .ok (.invokevirtual 179, 3) := by decide +kernel
theorem dX4_gatherNodes_59 : decode cX4_gatherNodes 59 = .ok (.iinc 4 1, 3) := by decide +kernel
theorem dX4_gatherNodes_62 : decode cX4_gatherNodes 62 = .ok (.goto (-42), 3) := by decide +kernel
theorem dX4_gatherNodes_65 : decode cX4_gatherNodes 65 = .ok (.iconst 0, 1) := by decide +kernel
theorem dX4_gatherNodes_66 : decode cX4_gatherNodes 66 = .ok (.istore 4, 2) := by decide +kernel
theorem dX4_gatherNodes_68 : decode cX4_gatherNodes 68 = .ok (.iload 4, 2) := by decide +kernel
theorem dX4_gatherNodes_70 : decode cX4_gatherNodes 70 = .ok (.bipush 10, 2) := by decide +kernel
theorem dX4_gatherNodes_72 : decode cX4_gatherNodes 72 = .ok (.if_icmp .ge 68, 3) := by decide +kernel
theorem dX4_gatherNodes_75 : decode cX4_gatherNodes 75 = .ok (.aload_n 0, 1) := by decide +kernel
theorem dX4_gatherNodes_76 : decode cX4_gatherNodes 76 = .ok (.getfield 30, 3) := by decide +kernel
theorem dX4_gatherNodes_79 : decode cX4_gatherNodes 79 = .ok (.iload 4, 2) := by decide +kernel
theorem dX4_gatherNodes_81 : decode cX4_gatherNodes 81 = .ok (.iconst (-1), 1) := by decide +kernel
theorem dX4_gatherNodes_82 : decode cX4_gatherNodes 82 = .ok (.iastore, 1) := by decide +kernel
theorem dX4_gatherNodes_83 : decode cX4_gatherNodes 83 = .ok (.aload_n 0, 1) := by decide +kernel
theorem dX4_gatherNodes_84 : decode cX4_gatherNodes 84 = .ok (.getfield 26, 3) := by decide +kernel
theorem dX4_gatherNodes_87 : decode cX4_gatherNodes 87 = .ok (.iload 4, 2) := by decide +kernel
theorem dX4_gatherNodes_89 : decode cX4_gatherNodes 89 = .ok (.invokevirtual 183, 3) := by decide +kernel
theorem dX4_gatherNodes_92 : decode cX4_gatherNodes 92 = .ok (.ifCond .eq 42, 3) := by decide +kernel
theorem dX4_gatherNodes_95 : decode cX4_gatherNodes 95 = .ok (.aload_n 0, 1) := by decide +kernel
theorem dX4_gatherNodes_96 : decode cX4_gatherNodes 96 = .ok (.getfield 30, 3) := by decide +kernel
theorem dX4_gatherNodes_99 : decode cX4_gatherNodes 99 = .ok (.iload 4, 2) := by decide +kernel
theorem dX4_gatherNodes_101 : decode cX4_gatherNodes 101 = .ok (.aload_n 1, 1) := by decide +kernel
theorem dX4_gatherNodes_102 : decode cX4_gatherNodes 102 = .ok (.getfield 99, 3) := by decide +kernel
theorem dX4_gatherNodes_105 : decode cX4_gatherNodes 105 = .ok (.getfield 103, 3) := by decide +kernel
theorem dX4_gatherNodes_108 : decode cX4_gatherNodes 108 = .ok (.iastore, 1) := by decide +kernel
theorem dX4_gatherNodes_109 : decode cX4_gatherNodes 109 = .ok (.aload_n 1, 1) := by decide +kernel
theorem dX4_gatherNodes_110 : decode cX4_gatherNodes 110 = .ok (.aload_n 0, 1) := by decide +kernel
theorem dX4_gatherNodes_111 : decode cX4_gatherNodes 111 = .ok (.getfield 26, 3) := by decide +kernel
theorem dX4_gatherNodes_114 : decode cX4_gatherNodes 114 = .ok (.getfield 186, 3) := by decide +kernel
theorem dX4_gatherNodes_117 : decode cX4_gatherNodes 117 = .ok (.iload 4, 2) := by decide +kernel
theorem dX4_gatherNodes_119 : decode cX4_gatherNodes 119 = .ok (.laload, 1) := by decide +kernel
theorem dX4_gatherNodes_120 : decode cX4_gatherNodes 120 = .ok (.aload_n 0, 1) := by decide +kernel
theorem dX4_gatherNodes_121 : decode cX4_gatherNodes 121 = .ok (.getfield 26, 3) := by decide +kernel
theorem dX4_gatherNodes_124 : decode cX4_gatherNodes 124 = .ok (.getfield 189, 3) := by decide +kernel
theorem dX4_gatherNodes_127 : decode cX4_gatherNodes 127 = .ok (.iload 4, 2) := by decide +kernel
theorem dX4_gatherNodes_129 : decode cX4_gatherNodes 129 = .ok (.iaload, 1) := by decide +kernel
theorem dX4_gatherNodes_130 : decode cX4_gatherNodes 130 = .ok (.iconst (-1), 1) := by decide +kernel
theorem dX4_gatherNodes_131 : decode cX4_gatherNodes 131 = .ok (.invokevirtual 115, 3) := by decide +kernel
theorem dX4_gatherNodes_134 : decode cX4_gatherNodes 134 = .ok (.iinc 4 1, 3) := by decide +kernel
theorem dX4_gatherNodes_137 : decode cX4_gatherNodes 137 = .ok (.goto (-69), 3) := by decide +kernel
theorem dX4_gatherNodes_140 : decode cX4_gatherNodes 140 = .ok (.aload_n 0, 1) := by decide +kernel
theorem dX4_gatherNodes_141 : decode cX4_gatherNodes 141 = .ok (.aload_n 1, 1) := by decide +kernel
theorem dX4_gatherNodes_142 : decode cX4_gatherNodes 142 = .ok (.invokevirtual 192, 3) := by decide +kernel
theorem dX4_gatherNodes_145 : decode cX4_gatherNodes 145 = .ok (.return_, 1) := by decide +kernel
theorem q41_0 : pm_V d 41 0 [.ref xn, l1, l2, l3, l4] st S Q = pm_V d 41 1 [.ref xn, l1, l2, l3, l4] (.ref xn :: st) S Q := pv_aload_n (pm_cdi rfl dX4_gatherNodes_0) rfl
theorem q41_1 (hs : pm_sh S an = .inr 4) : pm_V d 41 1 [l0, l1, l2, l3, l4] (.ref an :: st) S Q = pm_V d 41 4 [l0, l1, l2, l3, l4] (va_rf (pm_gr S an 1) :: st) S Q := pv_getA (pm_cdi rfl dX4_gatherNodes_1) (by decide +kernel) (by decide +kernel) (by decide +kernel) hs
theorem q41_4 : pm_V d 41 4 [l0, .ref xn, l2, l3, l4] st S Q = pm_V d 41 5 [l0, .ref xn, l2, l3, l4] (.ref xn :: st) S Q := pv_aload_n (pm_cdi rfl dX4_gatherNodes_4) rfl
theorem q41_4N : pm_V d 41 4 [l0, .null, l2, l3, l4] st S Q = pm_V d 41 5 [l0, .null, l2, l3, l4] (.null :: st) S Q := pv_aload_nN (pm_cdi rfl dX4_gatherNodes_4) rfl
theorem q41_5 (hs : pm_sh S an = .inr 0) : pm_V d 41 5 [l0, l1, l2, l3, l4] (.ref an :: st) S Q = pm_V d 41 8 [l0, l1, l2, l3, l4] (.int (pm_gi S an 9) :: st) S Q := pv_getI (pm_cdi rfl dX4_gatherNodes_5) (by decide +kernel) (by decide +kernel) (by decide +kernel) hs
theorem q41_8 (hs : pm_ar S an 4 xi = true) : pm_V d 41 8 [l0, l1, l2, l3, l4] (.int xi :: .ref an :: st) S Q = pm_V d 41 9 [l0, l1, l2, l3, l4] (va_rf (pm_zr S an xi.toNatClampNeg) :: st) S Q := pv_aaldQ (pm_cdi rfl dX4_gatherNodes_8) hs
theorem q41_8r (hs : pm_ar S an 3 xi = true) : pm_V d 41 8 [l0, l1, l2, l3, l4] (.int xi :: .ref an :: st) S Q = pm_V d 41 9 [l0, l1, l2, l3, l4] (va_rf (pm_zr S an xi.toNatClampNeg) :: st) S Q := pv_aaldR (pm_cdi rfl dX4_gatherNodes_8) hs
theorem q41_9 : pm_V d 41 9 [l0, l1, .ref yn, l3, l4] (.ref xn :: st) S Q = pm_V d 41 10 [l0, l1, .ref yn, .ref xn, l4] st S Q := pv_astore_n (pm_cdi rfl dX4_gatherNodes_9) rfl
theorem q41_9N : pm_V d 41 9 [l0, l1, .ref yn, l3, l4] (.null :: st) S Q = pm_V d 41 10 [l0, l1, .ref yn, .null, l4] st S Q := pv_astore_nN (pm_cdi rfl dX4_gatherNodes_9) rfl
theorem q41_10 : pm_V d 41 10 [.ref xn, l1, l2, l3, l4] st S Q = pm_V d 41 11 [.ref xn, l1, l2, l3, l4] (.ref xn :: st) S Q := pv_aload_n (pm_cdi rfl dX4_gatherNodes_10) rfl
theorem q41_11 (hs : pm_sh S an = .inr 4) : pm_V d 41 11 [l0, l1, l2, l3, l4] (.ref an :: st) S Q = pm_V d 41 14 [l0, l1, l2, l3, l4] (va_rf (pm_gr S an 2) :: st) S Q := pv_getA (pm_cdi rfl dX4_gatherNodes_11) (by decide +kernel) (by decide +kernel) (by decide +kernel) hs
theorem q41_14 (hs : pm_sh S an = .inr 1) : pm_V (d + 1) 41 14 [l0, l1, l2, l3, l4] [.ref an] S Q = pm_N d 13 [.ref an] S (fun r S' => pm_V (d + 1) 41 17 [l0, l1, l2, l3, l4] (r.toList ++ []) S' Q) := pv_callV (as := []) (pm_cdi rfl dX4_gatherNodes_14) (Or.inl (by decide +kernel)) (by decide +kernel) (show _ = _ from (by decide +kernel : 0 = pm_np 13)) rfl (Nat.le_of_ble_eq_true rfl) (cl := 1) (by decide +kernel) hs
theorem q41_17 : pm_V d 41 17 [l0, l1, l2, l3, l4] st S Q = pm_V d 41 18 [l0, l1, l2, l3, l4] (.int 0 :: st) S Q := pv_iconst (pm_cdi rfl dX4_gatherNodes_17) (by decide +kernel)
theorem q41_18 : pm_V d 41 18 [l0, l1, l2, .ref yn, l4] (.int xi :: st) S Q = pm_V d 41 20 [l0, l1, l2, .ref yn, .int xi] st S Q := pv_istore (pm_cdi rfl dX4_gatherNodes_18) rfl
theorem q41_20 : pm_V d 41 20 [l0, l1, l2, l3, .int xi] st S Q = pm_V d 41 22 [l0, l1, l2, l3, .int xi] (.int xi :: st) S Q := pv_iload (pm_cdi rfl dX4_gatherNodes_20) rfl
theorem q41_22 : pm_V d 41 22 [l0, l1, .ref xn, l3, l4] st S Q = pm_V d 41 23 [l0, l1, .ref xn, l3, l4] (.ref xn :: st) S Q := pv_aload_n (pm_cdi rfl dX4_gatherNodes_22) rfl
theorem q41_22N : pm_V d 41 22 [l0, l1, .null, l3, l4] st S Q = pm_V d 41 23 [l0, l1, .null, l3, l4] (.null :: st) S Q := pv_aload_nN (pm_cdi rfl dX4_gatherNodes_22) rfl
theorem q41_23 (hs : pm_sh S an = .inr 0) : pm_V d 41 23 [l0, l1, l2, l3, l4] (.ref an :: st) S Q = pm_V d 41 26 [l0, l1, l2, l3, l4] (va_rf (pm_gr S an 0) :: st) S Q := pv_getA (pm_cdi rfl dX4_gatherNodes_23) (by decide +kernel) (by decide +kernel) (by decide +kernel) hs
theorem q41_26 (hs : pm_sh S an = .inr 3) : pm_V d 41 26 [l0, l1, l2, l3, l4] (.ref an :: st) S Q = pm_V d 41 29 [l0, l1, l2, l3, l4] (.int (pm_gi S an 3) :: st) S Q := pv_getI (pm_cdi rfl dX4_gatherNodes_26) (by decide +kernel) (by decide +kernel) (by decide +kernel) hs
theorem q41_29 : pm_V d 41 29 [l0, l1, l2, l3, l4] (.int yi :: .int xi :: st) S Q = if xi < yi then pm_V d 41 32 [l0, l1, l2, l3, l4] st S Q else pm_V d 41 65 [l0, l1, l2, l3, l4] st S Q := pv_icmp_ge (pm_cdi rfl dX4_gatherNodes_29) rfl
theorem q41_32 : pm_V d 41 32 [.ref xn, l1, l2, l3, l4] st S Q = pm_V d 41 33 [.ref xn, l1, l2, l3, l4] (.ref xn :: st) S Q := pv_aload_n (pm_cdi rfl dX4_gatherNodes_32) rfl
theorem q41_33 (hs : pm_sh S an = .inr 4) : pm_V d 41 33 [l0, l1, l2, l3, l4] (.ref an :: st) S Q = pm_V d 41 36 [l0, l1, l2, l3, l4] (va_rf (pm_gr S an 2) :: st) S Q := pv_getA (pm_cdi rfl dX4_gatherNodes_33) (by decide +kernel) (by decide +kernel) (by decide +kernel) hs
theorem q41_36 : pm_V d 41 36 [l0, l1, l2, .ref xn, l4] st S Q = pm_V d 41 37 [l0, l1, l2, .ref xn, l4] (.ref xn :: st) S Q := pv_aload_n (pm_cdi rfl dX4_gatherNodes_36) rfl
theorem q41_36N : pm_V d 41 36 [l0, l1, l2, .null, l4] st S Q = pm_V d 41 37 [l0, l1, l2, .null, l4] (.null :: st) S Q := pv_aload_nN (pm_cdi rfl dX4_gatherNodes_36) rfl
theorem q41_37 : pm_V d 41 37 [l0, l1, l2, l3, .int xi] st S Q = pm_V d 41 39 [l0, l1, l2, l3, .int xi] (.int xi :: st) S Q := pv_iload (pm_cdi rfl dX4_gatherNodes_37) rfl
theorem q41_39 (hs : pm_ar S an 0 xi = true) : pm_V d 41 39 [l0, l1, l2, l3, l4] (.int xi :: .ref an :: st) S Q = pm_V d 41 40 [l0, l1, l2, l3, l4] (.int (pm_zi S an xi.toNatClampNeg) :: st) S Q := pv_iald (pm_cdi rfl dX4_gatherNodes_39) hs
theorem q41_40 : pm_V d 41 40 [l0, l1, l2, l3, .int xi] st S Q = pm_V d 41 42 [l0, l1, l2, l3, .int xi] (.int xi :: st) S Q := pv_iload (pm_cdi rfl dX4_gatherNodes_40) rfl
theorem q41_42 : pm_V d 41 42 [l0, l1, .ref xn, l3, l4] st S Q = pm_V d 41 43 [l0, l1, .ref xn, l3, l4] (.ref xn :: st) S Q := pv_aload_n (pm_cdi rfl dX4_gatherNodes_42) rfl
theorem q41_42N : pm_V d 41 42 [l0, l1, .null, l3, l4] st S Q = pm_V d 41 43 [l0, l1, .null, l3, l4] (.null :: st) S Q := pv_aload_nN (pm_cdi rfl dX4_gatherNodes_42) rfl
theorem q41_43 (hs : pm_sh S an = .inr 0) : pm_V d 41 43 [l0, l1, l2, l3, l4] (.ref an :: st) S Q = pm_V d 41 46 [l0, l1, l2, l3, l4] (va_rf (pm_gr S an 0) :: st) S Q := pv_getA (pm_cdi rfl dX4_gatherNodes_43) (by decide +kernel) (by decide +kernel) (by decide +kernel) hs
theorem q41_46 (hs : pm_sh S an = .inr 3) : pm_V d 41 46 [l0, l1, l2, l3, l4] (.ref an :: st) S Q = pm_V d 41 49 [l0, l1, l2, l3, l4] (va_rf (pm_gr S an 0) :: st) S Q := pv_getA (pm_cdi rfl dX4_gatherNodes_46) (by decide +kernel) (by decide +kernel) (by decide +kernel) hs
theorem q41_49 : pm_V d 41 49 [l0, l1, l2, l3, .int xi] st S Q = pm_V d 41 51 [l0, l1, l2, l3, .int xi] (.int xi :: st) S Q := pv_iload (pm_cdi rfl dX4_gatherNodes_49) rfl
theorem q41_51 (hs : pm_ar S an 1 xi = true) : pm_V d 41 51 [l0, l1, l2, l3, l4] (.int xi :: .ref an :: st) S Q = pm_V d 41 52 [l0, l1, l2, l3, l4] (.long (pm_zl S an xi.toNatClampNeg) :: st) S Q := pv_lald (pm_cdi rfl dX4_gatherNodes_51) hs
theorem q41_52 : pm_V d 41 52 [l0, .ref xn, l2, l3, l4] st S Q = pm_V d 41 53 [l0, .ref xn, l2, l3, l4] (.ref xn :: st) S Q := pv_aload_n (pm_cdi rfl dX4_gatherNodes_52) rfl
theorem q41_52N : pm_V d 41 52 [l0, .null, l2, l3, l4] st S Q = pm_V d 41 53 [l0, .null, l2, l3, l4] (.null :: st) S Q := pv_aload_nN (pm_cdi rfl dX4_gatherNodes_52) rfl
theorem q41_53 (hs : pm_sh S an = .inr 0) : pm_V d 41 53 [l0, l1, l2, l3, l4] (.ref an :: st) S Q = pm_V d 41 56 [l0, l1, l2, l3, l4] (.int (pm_gi S an 10) :: st) S Q := pv_getI (pm_cdi rfl dX4_gatherNodes_53) (by decide +kernel) (by decide +kernel) (by decide +kernel) hs
theorem q41_56 (hs : pm_sh S an = .inr 1) : pm_V (d + 1) 41 56 [l0, l1, l2, l3, l4] [.int v3i, .long v2j, .int v1i, .int v0i, .ref an] S Q = pm_N d 15 [.ref an, .int v0i, .int v1i, .long v2j, .int v3i] S (fun r S' => pm_V (d + 1) 41 59 [l0, l1, l2, l3, l4] (r.toList ++ []) S' Q) := pv_callV (as := [.int v0i, .int v1i, .long v2j, .int v3i]) (pm_cdi rfl dX4_gatherNodes_56) (Or.inl (by decide +kernel)) (by decide +kernel) (show _ = _ from (by decide +kernel : 4 = pm_np 15)) rfl (Nat.le_of_ble_eq_true rfl) (cl := 1) (by decide +kernel) hs
theorem q41_59 : pm_V d 41 59 [l0, l1, l2, .ref yn, .int xi] st S Q = pm_V d 41 62 [l0, l1, l2, .ref yn, .int (xi + 1)] st S Q := pv_iinc (pm_cdi rfl dX4_gatherNodes_59) rfl (by decide +kernel) rfl
theorem q41_62 : pm_V d 41 62 [l0, l1, l2, l3, l4] st S Q = pm_V d 41 20 [l0, l1, l2, l3, l4] st S Q := pv_goto (pm_cdi rfl dX4_gatherNodes_62) rfl
theorem q41_65 : pm_V d 41 65 [l0, l1, l2, l3, l4] st S Q = pm_V d 41 66 [l0, l1, l2, l3, l4] (.int 0 :: st) S Q := pv_iconst (pm_cdi rfl dX4_gatherNodes_65) (by decide +kernel)
theorem q41_66 : pm_V d 41 66 [l0, l1, l2, .ref yn, l4] (.int xi :: st) S Q = pm_V d 41 68 [l0, l1, l2, .ref yn, .int xi] st S Q := pv_istore (pm_cdi rfl dX4_gatherNodes_66) rfl
theorem q41_68 : pm_V d 41 68 [l0, l1, l2, l3, .int xi] st S Q = pm_V d 41 70 [l0, l1, l2, l3, .int xi] (.int xi :: st) S Q := pv_iload (pm_cdi rfl dX4_gatherNodes_68) rfl
theorem q41_70 : pm_V d 41 70 [l0, l1, l2, l3, l4] st S Q = pm_V d 41 72 [l0, l1, l2, l3, l4] (.int 10 :: st) S Q := pv_bipush (pm_cdi rfl dX4_gatherNodes_70) (by decide +kernel)
theorem q41_72 : pm_V d 41 72 [l0, l1, l2, l3, l4] (.int yi :: .int xi :: st) S Q = if xi < yi then pm_V d 41 75 [l0, l1, l2, l3, l4] st S Q else pm_V d 41 140 [l0, l1, l2, l3, l4] st S Q := pv_icmp_ge (pm_cdi rfl dX4_gatherNodes_72) rfl
theorem q41_75 : pm_V d 41 75 [.ref xn, l1, l2, l3, l4] st S Q = pm_V d 41 76 [.ref xn, l1, l2, l3, l4] (.ref xn :: st) S Q := pv_aload_n (pm_cdi rfl dX4_gatherNodes_75) rfl
theorem q41_76 (hs : pm_sh S an = .inr 4) : pm_V d 41 76 [l0, l1, l2, l3, l4] (.ref an :: st) S Q = pm_V d 41 79 [l0, l1, l2, l3, l4] (va_rf (pm_gr S an 3) :: st) S Q := pv_getA (pm_cdi rfl dX4_gatherNodes_76) (by decide +kernel) (by decide +kernel) (by decide +kernel) hs
theorem q41_79 : pm_V d 41 79 [l0, l1, l2, l3, .int xi] st S Q = pm_V d 41 81 [l0, l1, l2, l3, .int xi] (.int xi :: st) S Q := pv_iload (pm_cdi rfl dX4_gatherNodes_79) rfl
theorem q41_81 : pm_V d 41 81 [l0, l1, l2, l3, l4] st S Q = pm_V d 41 82 [l0, l1, l2, l3, l4] (.int (-1) :: st) S Q := pv_iconst (pm_cdi rfl dX4_gatherNodes_81) (by decide +kernel)
theorem q41_82 (hs : pm_ar S an 0 xi = true) : pm_V d 41 82 [l0, l1, l2, l3, l4] (.int vi :: .int xi :: .ref an :: st) S Q = pm_V d 41 83 [l0, l1, l2, l3, l4] st (pm_szi S an xi.toNatClampNeg vi) Q := pv_iast (pm_cdi rfl dX4_gatherNodes_82) hs
theorem q41_83 : pm_V d 41 83 [.ref xn, l1, l2, l3, l4] st S Q = pm_V d 41 84 [.ref xn, l1, l2, l3, l4] (.ref xn :: st) S Q := pv_aload_n (pm_cdi rfl dX4_gatherNodes_83) rfl
theorem q41_84 (hs : pm_sh S an = .inr 4) : pm_V d 41 84 [l0, l1, l2, l3, l4] (.ref an :: st) S Q = pm_V d 41 87 [l0, l1, l2, l3, l4] (va_rf (pm_gr S an 2) :: st) S Q := pv_getA (pm_cdi rfl dX4_gatherNodes_84) (by decide +kernel) (by decide +kernel) (by decide +kernel) hs
theorem q41_87 : pm_V d 41 87 [l0, l1, l2, l3, .int xi] st S Q = pm_V d 41 89 [l0, l1, l2, l3, .int xi] (.int xi :: st) S Q := pv_iload (pm_cdi rfl dX4_gatherNodes_87) rfl
theorem q41_89 (hs : pm_sh S an = .inr 1) : pm_V (d + 1) 41 89 [l0, l1, l2, l3, l4] [.int v0i, .ref an] S Q = pm_N d 14 [.ref an, .int v0i] S (fun r S' => pm_V (d + 1) 41 92 [l0, l1, l2, l3, l4] (r.toList ++ []) S' Q) := pv_callV (as := [.int v0i]) (pm_cdi rfl dX4_gatherNodes_89) (Or.inl (by decide +kernel)) (by decide +kernel) (show _ = _ from (by decide +kernel : 1 = pm_np 14)) rfl (Nat.le_of_ble_eq_true rfl) (cl := 1) (by decide +kernel) hs
theorem q41_92 : pm_V d 41 92 [l0, l1, l2, l3, l4] (.int xi :: st) S Q = if xi = 0 then pm_V d 41 134 [l0, l1, l2, l3, l4] st S Q else pm_V d 41 95 [l0, l1, l2, l3, l4] st S Q := pv_if_eq (pm_cdi rfl dX4_gatherNodes_92) rfl
theorem q41_95 : pm_V d 41 95 [.ref xn, l1, l2, l3, l4] st S Q = pm_V d 41 96 [.ref xn, l1, l2, l3, l4] (.ref xn :: st) S Q := pv_aload_n (pm_cdi rfl dX4_gatherNodes_95) rfl
theorem q41_96 (hs : pm_sh S an = .inr 4) : pm_V d 41 96 [l0, l1, l2, l3, l4] (.ref an :: st) S Q = pm_V d 41 99 [l0, l1, l2, l3, l4] (va_rf (pm_gr S an 3) :: st) S Q := pv_getA (pm_cdi rfl dX4_gatherNodes_96) (by decide +kernel) (by decide +kernel) (by decide +kernel) hs
theorem q41_99 : pm_V d 41 99 [l0, l1, l2, l3, .int xi] st S Q = pm_V d 41 101 [l0, l1, l2, l3, .int xi] (.int xi :: st) S Q := pv_iload (pm_cdi rfl dX4_gatherNodes_99) rfl
theorem q41_101 : pm_V d 41 101 [l0, .ref xn, l2, l3, l4] st S Q = pm_V d 41 102 [l0, .ref xn, l2, l3, l4] (.ref xn :: st) S Q := pv_aload_n (pm_cdi rfl dX4_gatherNodes_101) rfl
theorem q41_101N : pm_V d 41 101 [l0, .null, l2, l3, l4] st S Q = pm_V d 41 102 [l0, .null, l2, l3, l4] (.null :: st) S Q := pv_aload_nN (pm_cdi rfl dX4_gatherNodes_101) rfl
theorem q41_102 (hs : pm_sh S an = .inr 0) : pm_V d 41 102 [l0, l1, l2, l3, l4] (.ref an :: st) S Q = pm_V d 41 105 [l0, l1, l2, l3, l4] (va_rf (pm_gr S an 0) :: st) S Q := pv_getA (pm_cdi rfl dX4_gatherNodes_102) (by decide +kernel) (by decide +kernel) (by decide +kernel) hs
theorem q41_105 (hs : pm_sh S an = .inr 3) : pm_V d 41 105 [l0, l1, l2, l3, l4] (.ref an :: st) S Q = pm_V d 41 108 [l0, l1, l2, l3, l4] (.int (pm_gi S an 3) :: st) S Q := pv_getI (pm_cdi rfl dX4_gatherNodes_105) (by decide +kernel) (by decide +kernel) (by decide +kernel) hs
theorem q41_108 (hs : pm_ar S an 0 xi = true) : pm_V d 41 108 [l0, l1, l2, l3, l4] (.int vi :: .int xi :: .ref an :: st) S Q = pm_V d 41 109 [l0, l1, l2, l3, l4] st (pm_szi S an xi.toNatClampNeg vi) Q := pv_iast (pm_cdi rfl dX4_gatherNodes_108) hs
theorem q41_109 : pm_V d 41 109 [l0, .ref xn, l2, l3, l4] st S Q = pm_V d 41 110 [l0, .ref xn, l2, l3, l4] (.ref xn :: st) S Q := pv_aload_n (pm_cdi rfl dX4_gatherNodes_109) rfl
theorem q41_109N : pm_V d 41 109 [l0, .null, l2, l3, l4] st S Q = pm_V d 41 110 [l0, .null, l2, l3, l4] (.null :: st) S Q := pv_aload_nN (pm_cdi rfl dX4_gatherNodes_109) rfl
theorem q41_110 : pm_V d 41 110 [.ref xn, l1, l2, l3, l4] st S Q = pm_V d 41 111 [.ref xn, l1, l2, l3, l4] (.ref xn :: st) S Q := pv_aload_n (pm_cdi rfl dX4_gatherNodes_110) rfl
theorem q41_111 (hs : pm_sh S an = .inr 4) : pm_V d 41 111 [l0, l1, l2, l3, l4] (.ref an :: st) S Q = pm_V d 41 114 [l0, l1, l2, l3, l4] (va_rf (pm_gr S an 2) :: st) S Q := pv_getA (pm_cdi rfl dX4_gatherNodes_111) (by decide +kernel) (by decide +kernel) (by decide +kernel) hs
theorem q41_114 (hs : pm_sh S an = .inr 1) : pm_V d 41 114 [l0, l1, l2, l3, l4] (.ref an :: st) S Q = pm_V d 41 117 [l0, l1, l2, l3, l4] (va_rf (pm_gr S an 0) :: st) S Q := pv_getA (pm_cdi rfl dX4_gatherNodes_114) (by decide +kernel) (by decide +kernel) (by decide +kernel) hs
theorem q41_117 : pm_V d 41 117 [l0, l1, l2, l3, .int xi] st S Q = pm_V d 41 119 [l0, l1, l2, l3, .int xi] (.int xi :: st) S Q := pv_iload (pm_cdi rfl dX4_gatherNodes_117) rfl
theorem q41_119 (hs : pm_ar S an 1 xi = true) : pm_V d 41 119 [l0, l1, l2, l3, l4] (.int xi :: .ref an :: st) S Q = pm_V d 41 120 [l0, l1, l2, l3, l4] (.long (pm_zl S an xi.toNatClampNeg) :: st) S Q := pv_lald (pm_cdi rfl dX4_gatherNodes_119) hs
theorem q41_120 : pm_V d 41 120 [.ref xn, l1, l2, l3, l4] st S Q = pm_V d 41 121 [.ref xn, l1, l2, l3, l4] (.ref xn :: st) S Q := pv_aload_n (pm_cdi rfl dX4_gatherNodes_120) rfl
theorem q41_121 (hs : pm_sh S an = .inr 4) : pm_V d 41 121 [l0, l1, l2, l3, l4] (.ref an :: st) S Q = pm_V d 41 124 [l0, l1, l2, l3, l4] (va_rf (pm_gr S an 2) :: st) S Q := pv_getA (pm_cdi rfl dX4_gatherNodes_121) (by decide +kernel) (by decide +kernel) (by decide +kernel) hs
theorem q41_124 (hs : pm_sh S an = .inr 1) : pm_V d 41 124 [l0, l1, l2, l3, l4] (.ref an :: st) S Q = pm_V d 41 127 [l0, l1, l2, l3, l4] (va_rf (pm_gr S an 1) :: st) S Q := pv_getA (pm_cdi rfl dX4_gatherNodes_124) (by decide +kernel) (by decide +kernel) (by decide +kernel) hs
theorem q41_127 : pm_V d 41 127 [l0, l1, l2, l3, .int xi] st S Q = pm_V d 41 129 [l0, l1, l2, l3, .int xi] (.int xi :: st) S Q := pv_iload (pm_cdi rfl dX4_gatherNodes_127) rfl
theorem q41_129 (hs : pm_ar S an 0 xi = true) : pm_V d 41 129 [l0, l1, l2, l3, l4] (.int xi :: .ref an :: st) S Q = pm_V d 41 130 [l0, l1, l2, l3, l4] (.int (pm_zi S an xi.toNatClampNeg) :: st) S Q := pv_iald (pm_cdi rfl dX4_gatherNodes_129) hs
theorem q41_130 : pm_V d 41 130 [l0, l1, l2, l3, l4] st S Q = pm_V d 41 131 [l0, l1, l2, l3, l4] (.int (-1) :: st) S Q := pv_iconst (pm_cdi rfl dX4_gatherNodes_130) (by decide +kernel)
theorem q41_131 (hs : pm_sh S an = .inr 0) : pm_V (d + 1) 41 131 [l0, l1, l2, l3, l4] [.int v2i, .int v1i, .long v0j, .ref an] S Q = pm_N d 6 [.ref an, .long v0j, .int v1i, .int v2i] S (fun r S' => pm_V (d + 1) 41 134 [l0, l1, l2, l3, l4] (r.toList ++ []) S' Q) := pv_callV (as := [.long v0j, .int v1i, .int v2i]) (pm_cdi rfl dX4_gatherNodes_131) (Or.inl (by decide +kernel)) (by decide +kernel) (show _ = _ from (by decide +kernel : 3 = pm_np 6)) rfl (Nat.le_of_ble_eq_true rfl) (cl := 0) (by decide +kernel) hs
theorem q41_134 : pm_V d 41 134 [l0, l1, l2, .ref yn, .int xi] st S Q = pm_V d 41 137 [l0, l1, l2, .ref yn, .int (xi + 1)] st S Q := pv_iinc (pm_cdi rfl dX4_gatherNodes_134) rfl (by decide +kernel) rfl
theorem q41_137 : pm_V d 41 137 [l0, l1, l2, l3, l4] st S Q = pm_V d 41 68 [l0, l1, l2, l3, l4] st S Q := pv_goto (pm_cdi rfl dX4_gatherNodes_137) rfl
theorem q41_140 : pm_V d 41 140 [.ref xn, l1, l2, l3, l4] st S Q = pm_V d 41 141 [.ref xn, l1, l2, l3, l4] (.ref xn :: st) S Q := pv_aload_n (pm_cdi rfl dX4_gatherNodes_140) rfl
theorem q41_141 : pm_V d 41 141 [l0, .ref xn, l2, l3, l4] st S Q = pm_V d 41 142 [l0, .ref xn, l2, l3, l4] (.ref xn :: st) S Q := pv_aload_n (pm_cdi rfl dX4_gatherNodes_141) rfl
theorem q41_141N : pm_V d 41 141 [l0, .null, l2, l3, l4] st S Q = pm_V d 41 142 [l0, .null, l2, l3, l4] (.null :: st) S Q := pv_aload_nN (pm_cdi rfl dX4_gatherNodes_141) rfl
theorem q41_142 (hs : pm_sh S an = .inr 4) : pm_V (d + 1) 41 142 [l0, l1, l2, l3, l4] [v0v, .ref an] S Q = pm_N d 43 [.ref an, v0v] S (fun r S' => pm_V (d + 1) 41 145 [l0, l1, l2, l3, l4] (r.toList ++ []) S' Q) := pv_callV (as := [v0v]) (pm_cdi rfl dX4_gatherNodes_142) (Or.inl (by decide +kernel)) (by decide +kernel) (show _ = _ from (by decide +kernel : 1 = pm_np 43)) rfl (Nat.le_of_ble_eq_true rfl) (cl := 4) (by decide +kernel) hs
theorem q41_145 : pm_V d 41 145 [l0, l1, l2, l3, l4] [] S Q = Q none S := pv_rV (pm_cdi rfl dX4_gatherNodes_145) (by decide +kernel)
theorem q41_e : pm_N d 41 [.ref an, .ref v0n, .ref v1n] S Q = pm_V d 41 0 [.ref an, .ref v0n, .ref v1n, pm_j, pm_j] [] S Q := pv_ent (Nat.le_of_ble_eq_true rfl) rfl
/-! 42: ViewsJoins$Reckoner.gatherArcs(LViewsJoins$Graph;LViewsJoins$Graph;)V -/
theorem dX4_gatherArcs_0 : decode cX4_gatherArcs 0 = .ok (.aload_n 0, 1) := by decide +kernel
theorem dX4_gatherArcs_1 : decode cX4_gatherArcs 1 = .ok (.getfield 20, 3) := by decide +kernel
theorem dX4_gatherArcs_4 : decode cX4_gatherArcs 4 = .ok (.aload_n 1, 1) := by decide +kernel
theorem dX4_gatherArcs_5 : decode cX4_gatherArcs 5 = .ok (.getfield 96, 3) := by decide +kernel
theorem dX4_gatherArcs_8 : decode cX4_gatherArcs 8 = .ok (.aaload, 1) := by decide +kernel
theorem dX4_gatherArcs_9 : decode cX4_gatherArcs 9 = .ok (.astore_n 3, 1) := by decide +kernel
theorem dX4_gatherArcs_10 : decode cX4_gatherArcs 10 = .ok (.aload_n 0, 1) := by decide +kernel
theorem dX4_gatherArcs_11 : decode cX4_gatherArcs 11 = .ok (.getfield 26, 3) := by decide +kernel
theorem dX4_gatherArcs_14 : decode cX4_gatherArcs 14 = .ok (.invokevirtual 178, 3) := by decide +kernel
theorem dX4_gatherArcs_17 : decode cX4_gatherArcs 17 = .ok (.iconst 0, 1) := by decide +kernel
theorem dX4_gatherArcs_18 : decode cX4_gatherArcs 18 = .ok (.istore 4, 2) := by decide +kernel
theorem dX4_gatherArcs_20 : decode cX4_gatherArcs 20 = .ok (.iload 4, 2) := by decide +kernel
theorem dX4_gatherArcs_22 : decode cX4_gatherArcs 22 = .ok (.aload_n 2, 1) := by decide +kernel
theorem dX4_gatherArcs_23 : decode cX4_gatherArcs 23 = .ok (.getfield 126, 3) := by decide +kernel
theorem dX4_gatherArcs_26 : decode cX4_gatherArcs 26 = .ok (.getfield 103, 3) := by decide +kernel
theorem dX4_gatherArcs_29 : decode cX4_gatherArcs 29 = .ok (.if_icmp .ge 74, 3) := by decide +kernel
theorem dX4_gatherArcs_32 : decode cX4_gatherArcs 32 = .ok (.aload_n 3, 1) := by decide +kernel
theorem dX4_gatherArcs_33 : decode cX4_gatherArcs 33 = .ok (.aload_n 2, 1) := by decide +kernel
theorem dX4_gatherArcs_34 : decode cX4_gatherArcs 34 = .ok (.getfield 129, 3) := by decide +kernel
theorem dX4_gatherArcs_37 : decode cX4_gatherArcs 37 = .ok (.iload 4, 2) := by decide +kernel
theorem dX4_gatherArcs_39 : decode cX4_gatherArcs 39 = .ok (.iaload, 1) := by decide +kernel
theorem dX4_gatherArcs_40 : decode cX4_gatherArcs 40 = .ok (.iaload, 1) := by decide +kernel
theorem dX4_gatherArcs_41 : decode cX4_gatherArcs 41 = .ok (.istore 5, 2) := by decide +kernel
theorem dX4_gatherArcs_43 : decode cX4_gatherArcs 43 = .ok (.aload_n 3, 1) := by decide +kernel
theorem dX4_gatherArcs_44 : decode cX4_gatherArcs 44 = .ok (.aload_n 2, 1) := by decide +kernel
theorem dX4_gatherArcs_45 : decode cX4_gatherArcs 45 = .ok (.getfield 132, 3) := by decide +kernel
theorem dX4_gatherArcs_48 : decode cX4_gatherArcs 48 = .ok (.iload 4, 2) := by decide +kernel
theorem dX4_gatherArcs_50 : decode cX4_gatherArcs 50 = .ok (.iaload, 1) := by decide +kernel
theorem dX4_gatherArcs_51 : decode cX4_gatherArcs 51 = .ok (.iaload, 1) := by decide +kernel
theorem dX4_gatherArcs_52 : decode cX4_gatherArcs 52 = .ok (.istore 6, 2) := by decide +kernel
theorem dX4_gatherArcs_54 : decode cX4_gatherArcs 54 = .ok (.iload 5, 2) := by decide +kernel
theorem dX4_gatherArcs_56 : decode cX4_gatherArcs 56 = .ok (.iconst (-1), 1) := by decide +kernel
theorem dX4_gatherArcs_57 : decode cX4_gatherArcs 57 = .ok (.if_icmp .eq 40, 3) := by decide +kernel
theorem dX4_gatherArcs_60 : decode cX4_gatherArcs 60 = .ok (.iload 6, 2) := by decide +kernel
theorem dX4_gatherArcs_62 : decode cX4_gatherArcs 62 = .ok (.iconst (-1), 1) := by decide +kernel
theorem dX4_gatherArcs_63 : decode cX4_gatherArcs 63 = .ok (.if_icmp .eq 34, 3) := by decide +kernel
theorem dX4_gatherArcs_66 : decode cX4_gatherArcs 66 = .ok (.aload_n 0, 1) := by decide +kernel
theorem dX4_gatherArcs_67 : decode cX4_gatherArcs 67 = .ok (.getfield 26, 3) := by decide +kernel
theorem dX4_gatherArcs_70 : decode cX4_gatherArcs 70 = .ok (.iload 5, 2) := by decide +kernel
theorem dX4_gatherArcs_72 : decode cX4_gatherArcs 72 = .ok (.bipush 10, 2) := by decide +kernel
theorem dX4_gatherArcs_74 : decode cX4_gatherArcs 74 = .ok (.imul, 1) := by decide +kernel
theorem dX4_gatherArcs_75 : decode cX4_gatherArcs 75 = .ok (.iload 6, 2) := by decide +kernel
theorem dX4_gatherArcs_77 : decode cX4_gatherArcs 77 = .ok (.iadd, 1) := by decide +kernel
theorem dX4_gatherArcs_78 : decode cX4_gatherArcs 78 = .ok (.iload 4, 2) := by decide +kernel
theorem dX4_gatherArcs_80 : decode cX4_gatherArcs 80 = .ok (.aload_n 2, 1) := by decide +kernel
theorem dX4_gatherArcs_81 : decode cX4_gatherArcs 81 = .ok (.getfield 126, 3) := by decide +kernel
theorem dX4_gatherArcs_84 : decode cX4_gatherArcs 84 = .ok (.getfield 112, 3) := by decide +kernel
theorem dX4_gatherArcs_87 : decode cX4_gatherArcs 87 = .ok (.iload 4, 2) := by decide +kernel
theorem dX4_gatherArcs_89 : decode cX4_gatherArcs 89 = .ok (.laload, 1) := by decide +kernel
theorem dX4_gatherArcs_90 : decode cX4_gatherArcs 90 = .ok (.aload_n 1, 1) := by decide +kernel
theorem dX4_gatherArcs_91 : decode cX4_gatherArcs 91 = .ok (.getfield 123, 3) := by decide +kernel
theorem dX4_gatherArcs_94 : decode cX4_gatherArcs 94 = .ok (.invokevirtual 179, 3) := by decide +kernel
theorem dX4_gatherArcs_97 : decode cX4_gatherArcs 97 = .ok (.iinc 4 1, 3) := by decide +kernel
theorem dX4_gatherArcs_100 : decode cX4_gatherArcs 100 = .ok (.goto (-80), 3) := by decide +kernel
theorem dX4_gatherArcs_103 : decode cX4_gatherArcs 103 = .ok (.iconst 0, 1) := by decide +kernel
theorem dX4_gatherArcs_104 : decode cX4_gatherArcs 104 = .ok (.istore 4, 2) := by decide +kernel
theorem dX4_gatherArcs_106 : decode cX4_gatherArcs 106 = .ok (.iload 4, 2) := by decide +kernel
theorem dX4_gatherArcs_108 : decode cX4_gatherArcs 108 = .ok (.bipush 100, 2) := by decide +kernel
theorem dX4_gatherArcs_110 : decode cX4_gatherArcs 110 = .ok (.if_icmp .ge 74, 3) := by decide +kernel
theorem dX4_gatherArcs_113 : decode cX4_gatherArcs 113 = .ok (.aload_n 0, 1) := by decide +kernel
theorem dX4_gatherArcs_114 : decode cX4_gatherArcs 114 = .ok (.getfield 26, 3) := by decide +kernel
theorem dX4_gatherArcs_117 : decode cX4_gatherArcs 117 = .ok (.iload 4, 2) := by decide +kernel
theorem dX4_gatherArcs_119 : decode cX4_gatherArcs 119 = .ok (.invokevirtual 183, 3) := by decide +kernel
theorem dX4_gatherArcs_122 : decode cX4_gatherArcs 122 = .ok (.ifCond .eq 56, 3) := by decide +kernel
theorem dX4_gatherArcs_125 : decode cX4_gatherArcs 125 = .ok (.aload_n 0, 1) := by decide +kernel
theorem dX4_gatherArcs_126 : decode cX4_gatherArcs 126 = .ok (.getfield 30, 3) := by decide +kernel
theorem dX4_gatherArcs_129 : decode cX4_gatherArcs 129 = .ok (.iload 4, 2) := by decide +kernel
theorem dX4_gatherArcs_131 : decode cX4_gatherArcs 131 = .ok (.bipush 10, 2) := by decide +kernel
theorem dX4_gatherArcs_133 : decode cX4_gatherArcs 133 = .ok (.idiv, 1) := by decide +kernel
theorem dX4_gatherArcs_134 : decode cX4_gatherArcs 134 = .ok (.iaload, 1) := by decide +kernel
theorem dX4_gatherArcs_135 : decode cX4_gatherArcs 135 = .ok (.istore 5, 2) := by decide +kernel
theorem dX4_gatherArcs_137 : decode cX4_gatherArcs 137 = .ok (.aload_n 0, 1) := by decide +kernel
theorem dX4_gatherArcs_138 : decode cX4_gatherArcs 138 = .ok (.getfield 30, 3) := by decide +kernel
theorem dX4_gatherArcs_141 : decode cX4_gatherArcs 141 = .ok (.iload 4, 2) := by decide +kernel
theorem dX4_gatherArcs_143 : decode cX4_gatherArcs 143 = .ok (.bipush 10, 2) := by decide +kernel
theorem dX4_gatherArcs_145 : decode cX4_gatherArcs 145 = .ok (.irem, 1) := by decide +kernel
theorem dX4_gatherArcs_146 : decode cX4_gatherArcs 146 = .ok (.iaload, 1) := by decide +kernel
theorem dX4_gatherArcs_147 : decode cX4_gatherArcs 147 = .ok (.istore 6, 2) := by decide +kernel
theorem dX4_gatherArcs_149 : decode cX4_gatherArcs 149 = .ok (.aload_n 1, 1) := by decide +kernel
theorem dX4_gatherArcs_150 : decode cX4_gatherArcs 150 = .ok (.iload 5, 2) := by decide +kernel
theorem dX4_gatherArcs_152 : decode cX4_gatherArcs 152 = .ok (.iload 6, 2) := by decide +kernel
theorem dX4_gatherArcs_154 : decode cX4_gatherArcs 154 = .ok (.aload_n 0, 1) := by decide +kernel
theorem dX4_gatherArcs_155 : decode cX4_gatherArcs 155 = .ok (.getfield 26, 3) := by decide +kernel
theorem dX4_gatherArcs_158 : decode cX4_gatherArcs 158 = .ok (.getfield 186, 3) := by decide +kernel
theorem dX4_gatherArcs_161 : decode cX4_gatherArcs 161 = .ok (.iload 4, 2) := by decide +kernel
theorem dX4_gatherArcs_163 : decode cX4_gatherArcs 163 = .ok (.laload, 1) := by decide +kernel
theorem dX4_gatherArcs_164 : decode cX4_gatherArcs 164 = .ok (.aload_n 0, 1) := by decide +kernel
theorem dX4_gatherArcs_165 : decode cX4_gatherArcs 165 = .ok (.getfield 26, 3) := by decide +kernel
theorem dX4_gatherArcs_168 : decode cX4_gatherArcs 168 = .ok (.getfield 189, 3) := by decide +kernel
theorem dX4_gatherArcs_171 : decode cX4_gatherArcs 171 = .ok (.iload 4, 2) := by decide +kernel
theorem dX4_gatherArcs_173 : decode cX4_gatherArcs 173 = .ok (.iaload, 1) := by decide +kernel
theorem dX4_gatherArcs_174 : decode cX4_gatherArcs 174 = .ok (.iconst (-1), 1) := by decide +kernel
theorem dX4_gatherArcs_175 : decode cX4_gatherArcs 175 = .ok (.invokevirtual 135, 3) := by decide +kernel
theorem dX4_gatherArcs_178 : decode cX4_gatherArcs 178 = .ok (.iinc 4 1, 3) := by decide +kernel
theorem dX4_gatherArcs_181 : decode cX4_gatherArcs 181 = .ok (.goto (-75), 3) := by decide +kernel
theorem dX4_gatherArcs_184 : decode cX4_gatherArcs 184 = .ok (.aload_n 0, 1) := by decide +kernel
theorem dX4_gatherArcs_185 : decode cX4_gatherArcs 185 = .ok (.aload_n 1, 1) := by decide +kernel
theorem dX4_gatherArcs_186 : decode cX4_gatherArcs 186 = .ok (.invokevirtual 192, 3) := by decide +kernel
theorem dX4_gatherArcs_189 : decode cX4_gatherArcs 189 = .ok (.return_, 1) := by decide +kernel
theorem q42_0 : pm_V d 42 0 [.ref xn, l1, l2, l3, l4, l5, l6] st S Q = pm_V d 42 1 [.ref xn, l1, l2, l3, l4, l5, l6] (.ref xn :: st) S Q := pv_aload_n (pm_cdi rfl dX4_gatherArcs_0) rfl
theorem q42_1 (hs : pm_sh S an = .inr 4) : pm_V d 42 1 [l0, l1, l2, l3, l4, l5, l6] (.ref an :: st) S Q = pm_V d 42 4 [l0, l1, l2, l3, l4, l5, l6] (va_rf (pm_gr S an 1) :: st) S Q := pv_getA (pm_cdi rfl dX4_gatherArcs_1) (by decide +kernel) (by decide +kernel) (by decide +kernel) hs
theorem q42_4 : pm_V d 42 4 [l0, .ref xn, l2, l3, l4, l5, l6] st S Q = pm_V d 42 5 [l0, .ref xn, l2, l3, l4, l5, l6] (.ref xn :: st) S Q := pv_aload_n (pm_cdi rfl dX4_gatherArcs_4) rfl
theorem q42_4N : pm_V d 42 4 [l0, .null, l2, l3, l4, l5, l6] st S Q = pm_V d 42 5 [l0, .null, l2, l3, l4, l5, l6] (.null :: st) S Q := pv_aload_nN (pm_cdi rfl dX4_gatherArcs_4) rfl
theorem q42_5 (hs : pm_sh S an = .inr 0) : pm_V d 42 5 [l0, l1, l2, l3, l4, l5, l6] (.ref an :: st) S Q = pm_V d 42 8 [l0, l1, l2, l3, l4, l5, l6] (.int (pm_gi S an 9) :: st) S Q := pv_getI (pm_cdi rfl dX4_gatherArcs_5) (by decide +kernel) (by decide +kernel) (by decide +kernel) hs
theorem q42_8 (hs : pm_ar S an 4 xi = true) : pm_V d 42 8 [l0, l1, l2, l3, l4, l5, l6] (.int xi :: .ref an :: st) S Q = pm_V d 42 9 [l0, l1, l2, l3, l4, l5, l6] (va_rf (pm_zr S an xi.toNatClampNeg) :: st) S Q := pv_aaldQ (pm_cdi rfl dX4_gatherArcs_8) hs
theorem q42_8r (hs : pm_ar S an 3 xi = true) : pm_V d 42 8 [l0, l1, l2, l3, l4, l5, l6] (.int xi :: .ref an :: st) S Q = pm_V d 42 9 [l0, l1, l2, l3, l4, l5, l6] (va_rf (pm_zr S an xi.toNatClampNeg) :: st) S Q := pv_aaldR (pm_cdi rfl dX4_gatherArcs_8) hs
theorem q42_9 : pm_V d 42 9 [l0, l1, .ref yn, l3, l4, l5, l6] (.ref xn :: st) S Q = pm_V d 42 10 [l0, l1, .ref yn, .ref xn, l4, l5, l6] st S Q := pv_astore_n (pm_cdi rfl dX4_gatherArcs_9) rfl
theorem q42_9N : pm_V d 42 9 [l0, l1, .ref yn, l3, l4, l5, l6] (.null :: st) S Q = pm_V d 42 10 [l0, l1, .ref yn, .null, l4, l5, l6] st S Q := pv_astore_nN (pm_cdi rfl dX4_gatherArcs_9) rfl
theorem q42_10 : pm_V d 42 10 [.ref xn, l1, l2, l3, l4, l5, l6] st S Q = pm_V d 42 11 [.ref xn, l1, l2, l3, l4, l5, l6] (.ref xn :: st) S Q := pv_aload_n (pm_cdi rfl dX4_gatherArcs_10) rfl
theorem q42_11 (hs : pm_sh S an = .inr 4) : pm_V d 42 11 [l0, l1, l2, l3, l4, l5, l6] (.ref an :: st) S Q = pm_V d 42 14 [l0, l1, l2, l3, l4, l5, l6] (va_rf (pm_gr S an 2) :: st) S Q := pv_getA (pm_cdi rfl dX4_gatherArcs_11) (by decide +kernel) (by decide +kernel) (by decide +kernel) hs
theorem q42_14 (hs : pm_sh S an = .inr 1) : pm_V (d + 1) 42 14 [l0, l1, l2, l3, l4, l5, l6] [.ref an] S Q = pm_N d 13 [.ref an] S (fun r S' => pm_V (d + 1) 42 17 [l0, l1, l2, l3, l4, l5, l6] (r.toList ++ []) S' Q) := pv_callV (as := []) (pm_cdi rfl dX4_gatherArcs_14) (Or.inl (by decide +kernel)) (by decide +kernel) (show _ = _ from (by decide +kernel : 0 = pm_np 13)) rfl (Nat.le_of_ble_eq_true rfl) (cl := 1) (by decide +kernel) hs
theorem q42_17 : pm_V d 42 17 [l0, l1, l2, l3, l4, l5, l6] st S Q = pm_V d 42 18 [l0, l1, l2, l3, l4, l5, l6] (.int 0 :: st) S Q := pv_iconst (pm_cdi rfl dX4_gatherArcs_17) (by decide +kernel)
theorem q42_18 : pm_V d 42 18 [l0, l1, l2, .ref yn, l4, l5, l6] (.int xi :: st) S Q = pm_V d 42 20 [l0, l1, l2, .ref yn, .int xi, l5, l6] st S Q := pv_istore (pm_cdi rfl dX4_gatherArcs_18) rfl
theorem q42_20 : pm_V d 42 20 [l0, l1, l2, l3, .int xi, l5, l6] st S Q = pm_V d 42 22 [l0, l1, l2, l3, .int xi, l5, l6] (.int xi :: st) S Q := pv_iload (pm_cdi rfl dX4_gatherArcs_20) rfl
theorem q42_22 : pm_V d 42 22 [l0, l1, .ref xn, l3, l4, l5, l6] st S Q = pm_V d 42 23 [l0, l1, .ref xn, l3, l4, l5, l6] (.ref xn :: st) S Q := pv_aload_n (pm_cdi rfl dX4_gatherArcs_22) rfl
theorem q42_22N : pm_V d 42 22 [l0, l1, .null, l3, l4, l5, l6] st S Q = pm_V d 42 23 [l0, l1, .null, l3, l4, l5, l6] (.null :: st) S Q := pv_aload_nN (pm_cdi rfl dX4_gatherArcs_22) rfl
theorem q42_23 (hs : pm_sh S an = .inr 0) : pm_V d 42 23 [l0, l1, l2, l3, l4, l5, l6] (.ref an :: st) S Q = pm_V d 42 26 [l0, l1, l2, l3, l4, l5, l6] (va_rf (pm_gr S an 1) :: st) S Q := pv_getA (pm_cdi rfl dX4_gatherArcs_23) (by decide +kernel) (by decide +kernel) (by decide +kernel) hs
theorem q42_26 (hs : pm_sh S an = .inr 3) : pm_V d 42 26 [l0, l1, l2, l3, l4, l5, l6] (.ref an :: st) S Q = pm_V d 42 29 [l0, l1, l2, l3, l4, l5, l6] (.int (pm_gi S an 3) :: st) S Q := pv_getI (pm_cdi rfl dX4_gatherArcs_26) (by decide +kernel) (by decide +kernel) (by decide +kernel) hs
theorem q42_29 : pm_V d 42 29 [l0, l1, l2, l3, l4, l5, l6] (.int yi :: .int xi :: st) S Q = if xi < yi then pm_V d 42 32 [l0, l1, l2, l3, l4, l5, l6] st S Q else pm_V d 42 103 [l0, l1, l2, l3, l4, l5, l6] st S Q := pv_icmp_ge (pm_cdi rfl dX4_gatherArcs_29) rfl
theorem q42_32 : pm_V d 42 32 [l0, l1, l2, .ref xn, l4, l5, l6] st S Q = pm_V d 42 33 [l0, l1, l2, .ref xn, l4, l5, l6] (.ref xn :: st) S Q := pv_aload_n (pm_cdi rfl dX4_gatherArcs_32) rfl
theorem q42_32N : pm_V d 42 32 [l0, l1, l2, .null, l4, l5, l6] st S Q = pm_V d 42 33 [l0, l1, l2, .null, l4, l5, l6] (.null :: st) S Q := pv_aload_nN (pm_cdi rfl dX4_gatherArcs_32) rfl
theorem q42_33 : pm_V d 42 33 [l0, l1, .ref xn, l3, l4, l5, l6] st S Q = pm_V d 42 34 [l0, l1, .ref xn, l3, l4, l5, l6] (.ref xn :: st) S Q := pv_aload_n (pm_cdi rfl dX4_gatherArcs_33) rfl
theorem q42_33N : pm_V d 42 33 [l0, l1, .null, l3, l4, l5, l6] st S Q = pm_V d 42 34 [l0, l1, .null, l3, l4, l5, l6] (.null :: st) S Q := pv_aload_nN (pm_cdi rfl dX4_gatherArcs_33) rfl
theorem q42_34 (hs : pm_sh S an = .inr 0) : pm_V d 42 34 [l0, l1, l2, l3, l4, l5, l6] (.ref an :: st) S Q = pm_V d 42 37 [l0, l1, l2, l3, l4, l5, l6] (va_rf (pm_gr S an 2) :: st) S Q := pv_getA (pm_cdi rfl dX4_gatherArcs_34) (by decide +kernel) (by decide +kernel) (by decide +kernel) hs
theorem q42_37 : pm_V d 42 37 [l0, l1, l2, l3, .int xi, l5, l6] st S Q = pm_V d 42 39 [l0, l1, l2, l3, .int xi, l5, l6] (.int xi :: st) S Q := pv_iload (pm_cdi rfl dX4_gatherArcs_37) rfl
theorem q42_39 (hs : pm_ar S an 0 xi = true) : pm_V d 42 39 [l0, l1, l2, l3, l4, l5, l6] (.int xi :: .ref an :: st) S Q = pm_V d 42 40 [l0, l1, l2, l3, l4, l5, l6] (.int (pm_zi S an xi.toNatClampNeg) :: st) S Q := pv_iald (pm_cdi rfl dX4_gatherArcs_39) hs
theorem q42_40 (hs : pm_ar S an 0 xi = true) : pm_V d 42 40 [l0, l1, l2, l3, l4, l5, l6] (.int xi :: .ref an :: st) S Q = pm_V d 42 41 [l0, l1, l2, l3, l4, l5, l6] (.int (pm_zi S an xi.toNatClampNeg) :: st) S Q := pv_iald (pm_cdi rfl dX4_gatherArcs_40) hs
theorem q42_41 : pm_V d 42 41 [l0, l1, l2, l3, .int yi, l5, l6] (.int xi :: st) S Q = pm_V d 42 43 [l0, l1, l2, l3, .int yi, .int xi, l6] st S Q := pv_istore (pm_cdi rfl dX4_gatherArcs_41) rfl
theorem q42_43 : pm_V d 42 43 [l0, l1, l2, .ref xn, l4, l5, l6] st S Q = pm_V d 42 44 [l0, l1, l2, .ref xn, l4, l5, l6] (.ref xn :: st) S Q := pv_aload_n (pm_cdi rfl dX4_gatherArcs_43) rfl
theorem q42_43N : pm_V d 42 43 [l0, l1, l2, .null, l4, l5, l6] st S Q = pm_V d 42 44 [l0, l1, l2, .null, l4, l5, l6] (.null :: st) S Q := pv_aload_nN (pm_cdi rfl dX4_gatherArcs_43) rfl
theorem q42_44 : pm_V d 42 44 [l0, l1, .ref xn, l3, l4, l5, l6] st S Q = pm_V d 42 45 [l0, l1, .ref xn, l3, l4, l5, l6] (.ref xn :: st) S Q := pv_aload_n (pm_cdi rfl dX4_gatherArcs_44) rfl
theorem q42_44N : pm_V d 42 44 [l0, l1, .null, l3, l4, l5, l6] st S Q = pm_V d 42 45 [l0, l1, .null, l3, l4, l5, l6] (.null :: st) S Q := pv_aload_nN (pm_cdi rfl dX4_gatherArcs_44) rfl
theorem q42_45 (hs : pm_sh S an = .inr 0) : pm_V d 42 45 [l0, l1, l2, l3, l4, l5, l6] (.ref an :: st) S Q = pm_V d 42 48 [l0, l1, l2, l3, l4, l5, l6] (va_rf (pm_gr S an 3) :: st) S Q := pv_getA (pm_cdi rfl dX4_gatherArcs_45) (by decide +kernel) (by decide +kernel) (by decide +kernel) hs
theorem q42_48 : pm_V d 42 48 [l0, l1, l2, l3, .int xi, l5, l6] st S Q = pm_V d 42 50 [l0, l1, l2, l3, .int xi, l5, l6] (.int xi :: st) S Q := pv_iload (pm_cdi rfl dX4_gatherArcs_48) rfl
theorem q42_50 (hs : pm_ar S an 0 xi = true) : pm_V d 42 50 [l0, l1, l2, l3, l4, l5, l6] (.int xi :: .ref an :: st) S Q = pm_V d 42 51 [l0, l1, l2, l3, l4, l5, l6] (.int (pm_zi S an xi.toNatClampNeg) :: st) S Q := pv_iald (pm_cdi rfl dX4_gatherArcs_50) hs
theorem q42_51 (hs : pm_ar S an 0 xi = true) : pm_V d 42 51 [l0, l1, l2, l3, l4, l5, l6] (.int xi :: .ref an :: st) S Q = pm_V d 42 52 [l0, l1, l2, l3, l4, l5, l6] (.int (pm_zi S an xi.toNatClampNeg) :: st) S Q := pv_iald (pm_cdi rfl dX4_gatherArcs_51) hs
theorem q42_52 : pm_V d 42 52 [l0, l1, l2, l3, l4, .int yi, l6] (.int xi :: st) S Q = pm_V d 42 54 [l0, l1, l2, l3, l4, .int yi, .int xi] st S Q := pv_istore (pm_cdi rfl dX4_gatherArcs_52) rfl
theorem q42_54 : pm_V d 42 54 [l0, l1, l2, l3, l4, .int xi, l6] st S Q = pm_V d 42 56 [l0, l1, l2, l3, l4, .int xi, l6] (.int xi :: st) S Q := pv_iload (pm_cdi rfl dX4_gatherArcs_54) rfl
theorem q42_56 : pm_V d 42 56 [l0, l1, l2, l3, l4, l5, l6] st S Q = pm_V d 42 57 [l0, l1, l2, l3, l4, l5, l6] (.int (-1) :: st) S Q := pv_iconst (pm_cdi rfl dX4_gatherArcs_56) (by decide +kernel)
theorem q42_57 : pm_V d 42 57 [l0, l1, l2, l3, l4, l5, l6] (.int yi :: .int xi :: st) S Q = if xi = yi then pm_V d 42 97 [l0, l1, l2, l3, l4, l5, l6] st S Q else pm_V d 42 60 [l0, l1, l2, l3, l4, l5, l6] st S Q := pv_icmp_eq (pm_cdi rfl dX4_gatherArcs_57) rfl
theorem q42_60 : pm_V d 42 60 [l0, l1, l2, l3, l4, l5, .int xi] st S Q = pm_V d 42 62 [l0, l1, l2, l3, l4, l5, .int xi] (.int xi :: st) S Q := pv_iload (pm_cdi rfl dX4_gatherArcs_60) rfl
theorem q42_62 : pm_V d 42 62 [l0, l1, l2, l3, l4, l5, l6] st S Q = pm_V d 42 63 [l0, l1, l2, l3, l4, l5, l6] (.int (-1) :: st) S Q := pv_iconst (pm_cdi rfl dX4_gatherArcs_62) (by decide +kernel)
theorem q42_63 : pm_V d 42 63 [l0, l1, l2, l3, l4, l5, l6] (.int yi :: .int xi :: st) S Q = if xi = yi then pm_V d 42 97 [l0, l1, l2, l3, l4, l5, l6] st S Q else pm_V d 42 66 [l0, l1, l2, l3, l4, l5, l6] st S Q := pv_icmp_eq (pm_cdi rfl dX4_gatherArcs_63) rfl
theorem q42_66 : pm_V d 42 66 [.ref xn, l1, l2, l3, l4, l5, l6] st S Q = pm_V d 42 67 [.ref xn, l1, l2, l3, l4, l5, l6] (.ref xn :: st) S Q := pv_aload_n (pm_cdi rfl dX4_gatherArcs_66) rfl
theorem q42_67 (hs : pm_sh S an = .inr 4) : pm_V d 42 67 [l0, l1, l2, l3, l4, l5, l6] (.ref an :: st) S Q = pm_V d 42 70 [l0, l1, l2, l3, l4, l5, l6] (va_rf (pm_gr S an 2) :: st) S Q := pv_getA (pm_cdi rfl dX4_gatherArcs_67) (by decide +kernel) (by decide +kernel) (by decide +kernel) hs
theorem q42_70 : pm_V d 42 70 [l0, l1, l2, l3, l4, .int xi, l6] st S Q = pm_V d 42 72 [l0, l1, l2, l3, l4, .int xi, l6] (.int xi :: st) S Q := pv_iload (pm_cdi rfl dX4_gatherArcs_70) rfl
theorem q42_72 : pm_V d 42 72 [l0, l1, l2, l3, l4, l5, l6] st S Q = pm_V d 42 74 [l0, l1, l2, l3, l4, l5, l6] (.int 10 :: st) S Q := pv_bipush (pm_cdi rfl dX4_gatherArcs_72) (by decide +kernel)
theorem q42_74 : pm_V d 42 74 [l0, l1, l2, l3, l4, l5, l6] (.int yi :: .int xi :: st) S Q = pm_V d 42 75 [l0, l1, l2, l3, l4, l5, l6] (.int (xi * yi) :: st) S Q := pv_imul (pm_cdi rfl dX4_gatherArcs_74)
theorem q42_75 : pm_V d 42 75 [l0, l1, l2, l3, l4, l5, .int xi] st S Q = pm_V d 42 77 [l0, l1, l2, l3, l4, l5, .int xi] (.int xi :: st) S Q := pv_iload (pm_cdi rfl dX4_gatherArcs_75) rfl
theorem q42_77 : pm_V d 42 77 [l0, l1, l2, l3, l4, l5, l6] (.int yi :: .int xi :: st) S Q = pm_V d 42 78 [l0, l1, l2, l3, l4, l5, l6] (.int (xi + yi) :: st) S Q := pv_iadd (pm_cdi rfl dX4_gatherArcs_77)
theorem q42_78 : pm_V d 42 78 [l0, l1, l2, l3, .int xi, l5, l6] st S Q = pm_V d 42 80 [l0, l1, l2, l3, .int xi, l5, l6] (.int xi :: st) S Q := pv_iload (pm_cdi rfl dX4_gatherArcs_78) rfl
theorem q42_80 : pm_V d 42 80 [l0, l1, .ref xn, l3, l4, l5, l6] st S Q = pm_V d 42 81 [l0, l1, .ref xn, l3, l4, l5, l6] (.ref xn :: st) S Q := pv_aload_n (pm_cdi rfl dX4_gatherArcs_80) rfl
theorem q42_80N : pm_V d 42 80 [l0, l1, .null, l3, l4, l5, l6] st S Q = pm_V d 42 81 [l0, l1, .null, l3, l4, l5, l6] (.null :: st) S Q := pv_aload_nN (pm_cdi rfl dX4_gatherArcs_80) rfl
theorem q42_81 (hs : pm_sh S an = .inr 0) : pm_V d 42 81 [l0, l1, l2, l3, l4, l5, l6] (.ref an :: st) S Q = pm_V d 42 84 [l0, l1, l2, l3, l4, l5, l6] (va_rf (pm_gr S an 1) :: st) S Q := pv_getA (pm_cdi rfl dX4_gatherArcs_81) (by decide +kernel) (by decide +kernel) (by decide +kernel) hs
theorem q42_84 (hs : pm_sh S an = .inr 3) : pm_V d 42 84 [l0, l1, l2, l3, l4, l5, l6] (.ref an :: st) S Q = pm_V d 42 87 [l0, l1, l2, l3, l4, l5, l6] (va_rf (pm_gr S an 0) :: st) S Q := pv_getA (pm_cdi rfl dX4_gatherArcs_84) (by decide +kernel) (by decide +kernel) (by decide +kernel) hs
theorem q42_87 : pm_V d 42 87 [l0, l1, l2, l3, .int xi, l5, l6] st S Q = pm_V d 42 89 [l0, l1, l2, l3, .int xi, l5, l6] (.int xi :: st) S Q := pv_iload (pm_cdi rfl dX4_gatherArcs_87) rfl
theorem q42_89 (hs : pm_ar S an 1 xi = true) : pm_V d 42 89 [l0, l1, l2, l3, l4, l5, l6] (.int xi :: .ref an :: st) S Q = pm_V d 42 90 [l0, l1, l2, l3, l4, l5, l6] (.long (pm_zl S an xi.toNatClampNeg) :: st) S Q := pv_lald (pm_cdi rfl dX4_gatherArcs_89) hs
theorem q42_90 : pm_V d 42 90 [l0, .ref xn, l2, l3, l4, l5, l6] st S Q = pm_V d 42 91 [l0, .ref xn, l2, l3, l4, l5, l6] (.ref xn :: st) S Q := pv_aload_n (pm_cdi rfl dX4_gatherArcs_90) rfl
theorem q42_90N : pm_V d 42 90 [l0, .null, l2, l3, l4, l5, l6] st S Q = pm_V d 42 91 [l0, .null, l2, l3, l4, l5, l6] (.null :: st) S Q := pv_aload_nN (pm_cdi rfl dX4_gatherArcs_90) rfl
theorem q42_91 (hs : pm_sh S an = .inr 0) : pm_V d 42 91 [l0, l1, l2, l3, l4, l5, l6] (.ref an :: st) S Q = pm_V d 42 94 [l0, l1, l2, l3, l4, l5, l6] (.int (pm_gi S an 10) :: st) S Q := pv_getI (pm_cdi rfl dX4_gatherArcs_91) (by decide +kernel) (by decide +kernel) (by decide +kernel) hs
theorem q42_94 (hs : pm_sh S an = .inr 1) : pm_V (d + 1) 42 94 [l0, l1, l2, l3, l4, l5, l6] [.int v3i, .long v2j, .int v1i, .int v0i, .ref an] S Q = pm_N d 15 [.ref an, .int v0i, .int v1i, .long v2j, .int v3i] S (fun r S' => pm_V (d + 1) 42 97 [l0, l1, l2, l3, l4, l5, l6] (r.toList ++ []) S' Q) := pv_callV (as := [.int v0i, .int v1i, .long v2j, .int v3i]) (pm_cdi rfl dX4_gatherArcs_94) (Or.inl (by decide +kernel)) (by decide +kernel) (show _ = _ from (by decide +kernel : 4 = pm_np 15)) rfl (Nat.le_of_ble_eq_true rfl) (cl := 1) (by decide +kernel) hs
theorem q42_97 : pm_V d 42 97 [l0, l1, l2, .ref yn, .int xi, l5, l6] st S Q = pm_V d 42 100 [l0, l1, l2, .ref yn, .int (xi + 1), l5, l6] st S Q := pv_iinc (pm_cdi rfl dX4_gatherArcs_97) rfl (by decide +kernel) rfl
theorem q42_100 : pm_V d 42 100 [l0, l1, l2, l3, l4, l5, l6] st S Q = pm_V d 42 20 [l0, l1, l2, l3, l4, l5, l6] st S Q := pv_goto (pm_cdi rfl dX4_gatherArcs_100) rfl
theorem q42_103 : pm_V d 42 103 [l0, l1, l2, l3, l4, l5, l6] st S Q = pm_V d 42 104 [l0, l1, l2, l3, l4, l5, l6] (.int 0 :: st) S Q := pv_iconst (pm_cdi rfl dX4_gatherArcs_103) (by decide +kernel)
theorem q42_104 : pm_V d 42 104 [l0, l1, l2, .ref yn, l4, l5, l6] (.int xi :: st) S Q = pm_V d 42 106 [l0, l1, l2, .ref yn, .int xi, l5, l6] st S Q := pv_istore (pm_cdi rfl dX4_gatherArcs_104) rfl
theorem q42_106 : pm_V d 42 106 [l0, l1, l2, l3, .int xi, l5, l6] st S Q = pm_V d 42 108 [l0, l1, l2, l3, .int xi, l5, l6] (.int xi :: st) S Q := pv_iload (pm_cdi rfl dX4_gatherArcs_106) rfl
theorem q42_108 : pm_V d 42 108 [l0, l1, l2, l3, l4, l5, l6] st S Q = pm_V d 42 110 [l0, l1, l2, l3, l4, l5, l6] (.int 100 :: st) S Q := pv_bipush (pm_cdi rfl dX4_gatherArcs_108) (by decide +kernel)
theorem q42_110 : pm_V d 42 110 [l0, l1, l2, l3, l4, l5, l6] (.int yi :: .int xi :: st) S Q = if xi < yi then pm_V d 42 113 [l0, l1, l2, l3, l4, l5, l6] st S Q else pm_V d 42 184 [l0, l1, l2, l3, l4, l5, l6] st S Q := pv_icmp_ge (pm_cdi rfl dX4_gatherArcs_110) rfl
theorem q42_113 : pm_V d 42 113 [.ref xn, l1, l2, l3, l4, l5, l6] st S Q = pm_V d 42 114 [.ref xn, l1, l2, l3, l4, l5, l6] (.ref xn :: st) S Q := pv_aload_n (pm_cdi rfl dX4_gatherArcs_113) rfl
theorem q42_114 (hs : pm_sh S an = .inr 4) : pm_V d 42 114 [l0, l1, l2, l3, l4, l5, l6] (.ref an :: st) S Q = pm_V d 42 117 [l0, l1, l2, l3, l4, l5, l6] (va_rf (pm_gr S an 2) :: st) S Q := pv_getA (pm_cdi rfl dX4_gatherArcs_114) (by decide +kernel) (by decide +kernel) (by decide +kernel) hs
theorem q42_117 : pm_V d 42 117 [l0, l1, l2, l3, .int xi, l5, l6] st S Q = pm_V d 42 119 [l0, l1, l2, l3, .int xi, l5, l6] (.int xi :: st) S Q := pv_iload (pm_cdi rfl dX4_gatherArcs_117) rfl
theorem q42_119 (hs : pm_sh S an = .inr 1) : pm_V (d + 1) 42 119 [l0, l1, l2, l3, l4, l5, l6] [.int v0i, .ref an] S Q = pm_N d 14 [.ref an, .int v0i] S (fun r S' => pm_V (d + 1) 42 122 [l0, l1, l2, l3, l4, l5, l6] (r.toList ++ []) S' Q) := pv_callV (as := [.int v0i]) (pm_cdi rfl dX4_gatherArcs_119) (Or.inl (by decide +kernel)) (by decide +kernel) (show _ = _ from (by decide +kernel : 1 = pm_np 14)) rfl (Nat.le_of_ble_eq_true rfl) (cl := 1) (by decide +kernel) hs
theorem q42_122 : pm_V d 42 122 [l0, l1, l2, l3, l4, l5, l6] (.int xi :: st) S Q = if xi = 0 then pm_V d 42 178 [l0, l1, l2, l3, l4, l5, l6] st S Q else pm_V d 42 125 [l0, l1, l2, l3, l4, l5, l6] st S Q := pv_if_eq (pm_cdi rfl dX4_gatherArcs_122) rfl
theorem q42_125 : pm_V d 42 125 [.ref xn, l1, l2, l3, l4, l5, l6] st S Q = pm_V d 42 126 [.ref xn, l1, l2, l3, l4, l5, l6] (.ref xn :: st) S Q := pv_aload_n (pm_cdi rfl dX4_gatherArcs_125) rfl
theorem q42_126 (hs : pm_sh S an = .inr 4) : pm_V d 42 126 [l0, l1, l2, l3, l4, l5, l6] (.ref an :: st) S Q = pm_V d 42 129 [l0, l1, l2, l3, l4, l5, l6] (va_rf (pm_gr S an 3) :: st) S Q := pv_getA (pm_cdi rfl dX4_gatherArcs_126) (by decide +kernel) (by decide +kernel) (by decide +kernel) hs
theorem q42_129 : pm_V d 42 129 [l0, l1, l2, l3, .int xi, l5, l6] st S Q = pm_V d 42 131 [l0, l1, l2, l3, .int xi, l5, l6] (.int xi :: st) S Q := pv_iload (pm_cdi rfl dX4_gatherArcs_129) rfl
theorem q42_131 : pm_V d 42 131 [l0, l1, l2, l3, l4, l5, l6] st S Q = pm_V d 42 133 [l0, l1, l2, l3, l4, l5, l6] (.int 10 :: st) S Q := pv_bipush (pm_cdi rfl dX4_gatherArcs_131) (by decide +kernel)
theorem q42_133 (h0 : ¬ yi = 0) : pm_V d 42 133 [l0, l1, l2, l3, l4, l5, l6] (.int yi :: .int xi :: st) S Q = pm_V d 42 134 [l0, l1, l2, l3, l4, l5, l6] (.int (xi / yi) :: st) S Q := pv_idiv (pm_cdi rfl dX4_gatherArcs_133) h0
theorem q42_134 (hs : pm_ar S an 0 xi = true) : pm_V d 42 134 [l0, l1, l2, l3, l4, l5, l6] (.int xi :: .ref an :: st) S Q = pm_V d 42 135 [l0, l1, l2, l3, l4, l5, l6] (.int (pm_zi S an xi.toNatClampNeg) :: st) S Q := pv_iald (pm_cdi rfl dX4_gatherArcs_134) hs
theorem q42_135 : pm_V d 42 135 [l0, l1, l2, l3, .int yi, l5, l6] (.int xi :: st) S Q = pm_V d 42 137 [l0, l1, l2, l3, .int yi, .int xi, l6] st S Q := pv_istore (pm_cdi rfl dX4_gatherArcs_135) rfl
theorem q42_137 : pm_V d 42 137 [.ref xn, l1, l2, l3, l4, l5, l6] st S Q = pm_V d 42 138 [.ref xn, l1, l2, l3, l4, l5, l6] (.ref xn :: st) S Q := pv_aload_n (pm_cdi rfl dX4_gatherArcs_137) rfl
theorem q42_138 (hs : pm_sh S an = .inr 4) : pm_V d 42 138 [l0, l1, l2, l3, l4, l5, l6] (.ref an :: st) S Q = pm_V d 42 141 [l0, l1, l2, l3, l4, l5, l6] (va_rf (pm_gr S an 3) :: st) S Q := pv_getA (pm_cdi rfl dX4_gatherArcs_138) (by decide +kernel) (by decide +kernel) (by decide +kernel) hs
theorem q42_141 : pm_V d 42 141 [l0, l1, l2, l3, .int xi, l5, l6] st S Q = pm_V d 42 143 [l0, l1, l2, l3, .int xi, l5, l6] (.int xi :: st) S Q := pv_iload (pm_cdi rfl dX4_gatherArcs_141) rfl
theorem q42_143 : pm_V d 42 143 [l0, l1, l2, l3, l4, l5, l6] st S Q = pm_V d 42 145 [l0, l1, l2, l3, l4, l5, l6] (.int 10 :: st) S Q := pv_bipush (pm_cdi rfl dX4_gatherArcs_143) (by decide +kernel)
theorem q42_145 (h0 : ¬ yi = 0) : pm_V d 42 145 [l0, l1, l2, l3, l4, l5, l6] (.int yi :: .int xi :: st) S Q = pm_V d 42 146 [l0, l1, l2, l3, l4, l5, l6] (.int (xi - xi / yi * yi) :: st) S Q := pv_irem (pm_cdi rfl dX4_gatherArcs_145) h0
theorem q42_146 (hs : pm_ar S an 0 xi = true) : pm_V d 42 146 [l0, l1, l2, l3, l4, l5, l6] (.int xi :: .ref an :: st) S Q = pm_V d 42 147 [l0, l1, l2, l3, l4, l5, l6] (.int (pm_zi S an xi.toNatClampNeg) :: st) S Q := pv_iald (pm_cdi rfl dX4_gatherArcs_146) hs
theorem q42_147 : pm_V d 42 147 [l0, l1, l2, l3, l4, .int yi, l6] (.int xi :: st) S Q = pm_V d 42 149 [l0, l1, l2, l3, l4, .int yi, .int xi] st S Q := pv_istore (pm_cdi rfl dX4_gatherArcs_147) rfl
theorem q42_149 : pm_V d 42 149 [l0, .ref xn, l2, l3, l4, l5, l6] st S Q = pm_V d 42 150 [l0, .ref xn, l2, l3, l4, l5, l6] (.ref xn :: st) S Q := pv_aload_n (pm_cdi rfl dX4_gatherArcs_149) rfl
theorem q42_149N : pm_V d 42 149 [l0, .null, l2, l3, l4, l5, l6] st S Q = pm_V d 42 150 [l0, .null, l2, l3, l4, l5, l6] (.null :: st) S Q := pv_aload_nN (pm_cdi rfl dX4_gatherArcs_149) rfl
theorem q42_150 : pm_V d 42 150 [l0, l1, l2, l3, l4, .int xi, l6] st S Q = pm_V d 42 152 [l0, l1, l2, l3, l4, .int xi, l6] (.int xi :: st) S Q := pv_iload (pm_cdi rfl dX4_gatherArcs_150) rfl
theorem q42_152 : pm_V d 42 152 [l0, l1, l2, l3, l4, l5, .int xi] st S Q = pm_V d 42 154 [l0, l1, l2, l3, l4, l5, .int xi] (.int xi :: st) S Q := pv_iload (pm_cdi rfl dX4_gatherArcs_152) rfl
theorem q42_154 : pm_V d 42 154 [.ref xn, l1, l2, l3, l4, l5, l6] st S Q = pm_V d 42 155 [.ref xn, l1, l2, l3, l4, l5, l6] (.ref xn :: st) S Q := pv_aload_n (pm_cdi rfl dX4_gatherArcs_154) rfl
theorem q42_155 (hs : pm_sh S an = .inr 4) : pm_V d 42 155 [l0, l1, l2, l3, l4, l5, l6] (.ref an :: st) S Q = pm_V d 42 158 [l0, l1, l2, l3, l4, l5, l6] (va_rf (pm_gr S an 2) :: st) S Q := pv_getA (pm_cdi rfl dX4_gatherArcs_155) (by decide +kernel) (by decide +kernel) (by decide +kernel) hs
theorem q42_158 (hs : pm_sh S an = .inr 1) : pm_V d 42 158 [l0, l1, l2, l3, l4, l5, l6] (.ref an :: st) S Q = pm_V d 42 161 [l0, l1, l2, l3, l4, l5, l6] (va_rf (pm_gr S an 0) :: st) S Q := pv_getA (pm_cdi rfl dX4_gatherArcs_158) (by decide +kernel) (by decide +kernel) (by decide +kernel) hs
theorem q42_161 : pm_V d 42 161 [l0, l1, l2, l3, .int xi, l5, l6] st S Q = pm_V d 42 163 [l0, l1, l2, l3, .int xi, l5, l6] (.int xi :: st) S Q := pv_iload (pm_cdi rfl dX4_gatherArcs_161) rfl
theorem q42_163 (hs : pm_ar S an 1 xi = true) : pm_V d 42 163 [l0, l1, l2, l3, l4, l5, l6] (.int xi :: .ref an :: st) S Q = pm_V d 42 164 [l0, l1, l2, l3, l4, l5, l6] (.long (pm_zl S an xi.toNatClampNeg) :: st) S Q := pv_lald (pm_cdi rfl dX4_gatherArcs_163) hs
theorem q42_164 : pm_V d 42 164 [.ref xn, l1, l2, l3, l4, l5, l6] st S Q = pm_V d 42 165 [.ref xn, l1, l2, l3, l4, l5, l6] (.ref xn :: st) S Q := pv_aload_n (pm_cdi rfl dX4_gatherArcs_164) rfl
theorem q42_165 (hs : pm_sh S an = .inr 4) : pm_V d 42 165 [l0, l1, l2, l3, l4, l5, l6] (.ref an :: st) S Q = pm_V d 42 168 [l0, l1, l2, l3, l4, l5, l6] (va_rf (pm_gr S an 2) :: st) S Q := pv_getA (pm_cdi rfl dX4_gatherArcs_165) (by decide +kernel) (by decide +kernel) (by decide +kernel) hs
theorem q42_168 (hs : pm_sh S an = .inr 1) : pm_V d 42 168 [l0, l1, l2, l3, l4, l5, l6] (.ref an :: st) S Q = pm_V d 42 171 [l0, l1, l2, l3, l4, l5, l6] (va_rf (pm_gr S an 1) :: st) S Q := pv_getA (pm_cdi rfl dX4_gatherArcs_168) (by decide +kernel) (by decide +kernel) (by decide +kernel) hs
theorem q42_171 : pm_V d 42 171 [l0, l1, l2, l3, .int xi, l5, l6] st S Q = pm_V d 42 173 [l0, l1, l2, l3, .int xi, l5, l6] (.int xi :: st) S Q := pv_iload (pm_cdi rfl dX4_gatherArcs_171) rfl
theorem q42_173 (hs : pm_ar S an 0 xi = true) : pm_V d 42 173 [l0, l1, l2, l3, l4, l5, l6] (.int xi :: .ref an :: st) S Q = pm_V d 42 174 [l0, l1, l2, l3, l4, l5, l6] (.int (pm_zi S an xi.toNatClampNeg) :: st) S Q := pv_iald (pm_cdi rfl dX4_gatherArcs_173) hs
theorem q42_174 : pm_V d 42 174 [l0, l1, l2, l3, l4, l5, l6] st S Q = pm_V d 42 175 [l0, l1, l2, l3, l4, l5, l6] (.int (-1) :: st) S Q := pv_iconst (pm_cdi rfl dX4_gatherArcs_174) (by decide +kernel)
theorem q42_175 (hs : pm_sh S an = .inr 0) : pm_V (d + 1) 42 175 [l0, l1, l2, l3, l4, l5, l6] [.int v4i, .int v3i, .long v2j, .int v1i, .int v0i, .ref an] S Q = pm_N d 7 [.ref an, .int v0i, .int v1i, .long v2j, .int v3i, .int v4i] S (fun r S' => pm_V (d + 1) 42 178 [l0, l1, l2, l3, l4, l5, l6] (r.toList ++ []) S' Q) := pv_callV (as := [.int v0i, .int v1i, .long v2j, .int v3i, .int v4i]) (pm_cdi rfl dX4_gatherArcs_175) (Or.inl (by decide +kernel)) (by decide +kernel) (show _ = _ from (by decide +kernel : 5 = pm_np 7)) rfl (Nat.le_of_ble_eq_true rfl) (cl := 0) (by decide +kernel) hs
theorem q42_178 : pm_V d 42 178 [l0, l1, l2, .ref yn, .int xi, l5, l6] st S Q = pm_V d 42 181 [l0, l1, l2, .ref yn, .int (xi + 1), l5, l6] st S Q := pv_iinc (pm_cdi rfl dX4_gatherArcs_178) rfl (by decide +kernel) rfl
theorem q42_181 : pm_V d 42 181 [l0, l1, l2, l3, l4, l5, l6] st S Q = pm_V d 42 106 [l0, l1, l2, l3, l4, l5, l6] st S Q := pv_goto (pm_cdi rfl dX4_gatherArcs_181) rfl
theorem q42_184 : pm_V d 42 184 [.ref xn, l1, l2, l3, l4, l5, l6] st S Q = pm_V d 42 185 [.ref xn, l1, l2, l3, l4, l5, l6] (.ref xn :: st) S Q := pv_aload_n (pm_cdi rfl dX4_gatherArcs_184) rfl
theorem q42_185 : pm_V d 42 185 [l0, .ref xn, l2, l3, l4, l5, l6] st S Q = pm_V d 42 186 [l0, .ref xn, l2, l3, l4, l5, l6] (.ref xn :: st) S Q := pv_aload_n (pm_cdi rfl dX4_gatherArcs_185) rfl
theorem q42_185N : pm_V d 42 185 [l0, .null, l2, l3, l4, l5, l6] st S Q = pm_V d 42 186 [l0, .null, l2, l3, l4, l5, l6] (.null :: st) S Q := pv_aload_nN (pm_cdi rfl dX4_gatherArcs_185) rfl
theorem q42_186 (hs : pm_sh S an = .inr 4) : pm_V (d + 1) 42 186 [l0, l1, l2, l3, l4, l5, l6] [v0v, .ref an] S Q = pm_N d 43 [.ref an, v0v] S (fun r S' => pm_V (d + 1) 42 189 [l0, l1, l2, l3, l4, l5, l6] (r.toList ++ []) S' Q) := pv_callV (as := [v0v]) (pm_cdi rfl dX4_gatherArcs_186) (Or.inl (by decide +kernel)) (by decide +kernel) (show _ = _ from (by decide +kernel : 1 = pm_np 43)) rfl (Nat.le_of_ble_eq_true rfl) (cl := 4) (by decide +kernel) hs
theorem q42_189 : pm_V d 42 189 [l0, l1, l2, l3, l4, l5, l6] [] S Q = Q none S := pv_rV (pm_cdi rfl dX4_gatherArcs_189) (by decide +kernel)
theorem q42_e : pm_N d 42 [.ref an, .ref v0n, .ref v1n] S Q = pm_V d 42 0 [.ref an, .ref v0n, .ref v1n, pm_j, pm_j, pm_j, pm_j] [] S Q := pv_ent (Nat.le_of_ble_eq_true rfl) rfl
/-! 43: ViewsJoins$Reckoner.breakIfTooLong(LViewsJoins$Graph;)V -/
theorem dX4_breakIfTooLong_0 : decode cX4_breakIfTooLong 0 = .ok (.aload_n 0, 1) := by decide +kernel
theorem dX4_breakIfTooLong_1 : decode cX4_breakIfTooLong 1 = .ok (.getfield 26, 3) := by decide +kernel
theorem dX4_breakIfTooLong_4 : decode cX4_breakIfTooLong 4 = .ok (.getfield 195, 3) := by decide +kernel
theorem dX4_breakIfTooLong_7 : decode cX4_breakIfTooLong 7 = .ok (.ifCond .eq 8, 3) := by decide +kernel
theorem dX4_breakIfTooLong_10 : decode cX4_breakIfTooLong 10 = .ok (.aload_n 1, 1) := by decide +kernel
theorem dX4_breakIfTooLong_11 : decode cX4_breakIfTooLong 11 = .ok (.iconst 3, 1) := by decide +kernel
theorem dX4_breakIfTooLong_12 : decode cX4_breakIfTooLong 12 = .ok (.putfield 50, 3) := by decide +kernel
theorem dX4_breakIfTooLong_15 : decode cX4_breakIfTooLong 15 = .ok (.return_, 1) := by decide +kernel
theorem q43_0 : pm_V d 43 0 [.ref xn, l1] st S Q = pm_V d 43 1 [.ref xn, l1] (.ref xn :: st) S Q := pv_aload_n (pm_cdi rfl dX4_breakIfTooLong_0) rfl
theorem q43_1 (hs : pm_sh S an = .inr 4) : pm_V d 43 1 [l0, l1] (.ref an :: st) S Q = pm_V d 43 4 [l0, l1] (va_rf (pm_gr S an 2) :: st) S Q := pv_getA (pm_cdi rfl dX4_breakIfTooLong_1) (by decide +kernel) (by decide +kernel) (by decide +kernel) hs
theorem q43_4 (hs : pm_sh S an = .inr 1) : pm_V d 43 4 [l0, l1] (.ref an :: st) S Q = pm_V d 43 7 [l0, l1] (.int (pm_gi S an 2) :: st) S Q := pv_getI (pm_cdi rfl dX4_breakIfTooLong_4) (by decide +kernel) (by decide +kernel) (by decide +kernel) hs
theorem q43_7 : pm_V d 43 7 [l0, l1] (.int xi :: st) S Q = if xi = 0 then pm_V d 43 15 [l0, l1] st S Q else pm_V d 43 10 [l0, l1] st S Q := pv_if_eq (pm_cdi rfl dX4_breakIfTooLong_7) rfl
theorem q43_10 : pm_V d 43 10 [l0, .ref xn] st S Q = pm_V d 43 11 [l0, .ref xn] (.ref xn :: st) S Q := pv_aload_n (pm_cdi rfl dX4_breakIfTooLong_10) rfl
theorem q43_10N : pm_V d 43 10 [l0, .null] st S Q = pm_V d 43 11 [l0, .null] (.null :: st) S Q := pv_aload_nN (pm_cdi rfl dX4_breakIfTooLong_10) rfl
theorem q43_11 : pm_V d 43 11 [l0, l1] st S Q = pm_V d 43 12 [l0, l1] (.int 3 :: st) S Q := pv_iconst (pm_cdi rfl dX4_breakIfTooLong_11) (by decide +kernel)
theorem q43_12 (hs : pm_sh S an = .inr 0) : pm_V d 43 12 [l0, l1] (.int xi :: .ref an :: st) S Q = pm_V d 43 15 [l0, l1] st (pm_sgi S an 5 xi) Q := pv_putI (pm_cdi rfl dX4_breakIfTooLong_12) (by decide +kernel) (by decide +kernel) (by decide +kernel) hs
theorem q43_15 : pm_V d 43 15 [l0, l1] [] S Q = Q none S := pv_rV (pm_cdi rfl dX4_breakIfTooLong_15) (by decide +kernel)
theorem q43_e : pm_N d 43 [.ref an, .ref v0n] S Q = pm_V d 43 0 [.ref an, .ref v0n] [] S Q := pv_ent (Nat.le_of_ble_eq_true rfl) rfl
/-! 44: ViewsJoins$Tests.<init>()V -/
theorem dX5_init_0 : decode cX5_init 0 = .ok (.aload_n 0, 1) := by decide +kernel
theorem dX5_init_1 : decode cX5_init 1 = .ok (.invokespecial 3, 3) := by decide +kernel
theorem dX5_init_4 : decode cX5_init 4 = .ok (.aload_n 0, 1) := by decide +kernel
theorem dX5_init_5 : decode cX5_init 5 = .ok (.bipush 20, 2) := by decide +kernel
theorem dX5_init_7 : decode cX5_init 7 = .ok (.newarray .int, 2) := by decide +kernel
theorem dX5_init_9 : decode cX5_init 9 = .ok (.putfield 9, 3) := by decide +kernel
theorem dX5_init_12 : decode cX5_init 12 = .ok (.aload_n 0, 1) := by decide +kernel
theorem dX5_init_13 : decode cX5_init 13 = .ok (.bipush 20, 2) := by decide +kernel
theorem dX5_init_15 : decode cX5_init 15 = .ok (.newarray .long, 2) := by decide +kernel
theorem dX5_init_17 : decode cX5_init 17 = .ok (.putfield 15, 3) := by decide +kernel
theorem dX5_init_20 : decode cX5_init 20 = .ok (.aload_n 0, 1) := by decide +kernel
theorem dX5_init_21 : decode cX5_init 21 = .ok (.bipush 20, 2) := by decide +kernel
theorem dX5_init_23 : decode cX5_init 23 = .ok (.newarray .int, 2) := by decide +kernel
theorem dX5_init_25 : decode cX5_init 25 = .ok (.putfield 19, 3) := by decide +kernel
theorem dX5_init_28 : decode cX5_init 28 = .ok (.aload_n 0, 1) := by decide +kernel
theorem dX5_init_29 : decode cX5_init 29 = .ok (.bipush 20, 2) := by decide +kernel
theorem dX5_init_31 : decode cX5_init 31 = .ok (.newarray .int, 2) := by decide +kernel
theorem dX5_init_33 : decode cX5_init 33 = .ok (.putfield 22, 3) := by decide +kernel
theorem dX5_init_36 : decode cX5_init 36 = .ok (.aload_n 0, 1) := by decide +kernel
theorem dX5_init_37 : decode cX5_init 37 = .ok (.iconst 0, 1) := by decide +kernel
theorem dX5_init_38 : decode cX5_init 38 = .ok (.putfield 25, 3) := by decide +kernel
theorem dX5_init_41 : decode cX5_init 41 = .ok (.aload_n 0, 1) := by decide +kernel
theorem dX5_init_42 : decode cX5_init 42 = .ok (.iconst 0, 1) := by decide +kernel
theorem dX5_init_43 : decode cX5_init 43 = .ok (.putfield 29, 3) := by decide +kernel
theorem dX5_init_46 : decode cX5_init 46 = .ok (.aload_n 0, 1) := by decide +kernel
theorem dX5_init_47 : decode cX5_init 47 = .ok (.iconst 0, 1) := by decide +kernel
theorem dX5_init_48 : decode cX5_init 48 = .ok (.putfield 32, 3) := by decide +kernel
theorem dX5_init_51 : decode cX5_init 51 = .ok (.return_, 1) := by decide +kernel
theorem q44_0 : pm_V d 44 0 [.ref xn] st S Q = pm_V d 44 1 [.ref xn] (.ref xn :: st) S Q := pv_aload_n (pm_cdi rfl dX5_init_0) rfl
theorem q44_1 : pm_V d 44 1 [l0] [.ref an] S Q = pm_V d 44 4 [l0] [] S Q := pv_obj (pm_cdi rfl dX5_init_1) (by decide +kernel) (Nat.le_of_ble_eq_true rfl)
theorem q44_4 : pm_V d 44 4 [.ref xn] st S Q = pm_V d 44 5 [.ref xn] (.ref xn :: st) S Q := pv_aload_n (pm_cdi rfl dX5_init_4) rfl
theorem q44_5 : pm_V d 44 5 [l0] st S Q = pm_V d 44 7 [l0] (.int 20 :: st) S Q := pv_bipush (pm_cdi rfl dX5_init_5) (by decide +kernel)
theorem q44_7 (h : 0 ≤ xi ∧ xi.toNatClampNeg ≤ 60000) : pm_V d 44 7 [l0] (.int xi :: st) S Q = pm_V d 44 9 [l0] (.ref (pm_nx S) :: st) (pm_mka S 0 xi.toNatClampNeg) Q := pv_newI (pm_cdi rfl dX5_init_7) h
theorem q44_9 (hs : pm_sh S an = .inr 5) : pm_V d 44 9 [l0] (.ref xn :: .ref an :: st) S Q = pm_V d 44 12 [l0] st (pm_sgr S an 0 (some xn)) Q := pv_putA (pm_cdi rfl dX5_init_9) (by decide +kernel) (by decide +kernel) (by decide +kernel) hs
theorem q44_9N (hs : pm_sh S an = .inr 5) : pm_V d 44 9 [l0] (.null :: .ref an :: st) S Q = pm_V d 44 12 [l0] st (pm_sgr S an 0 none) Q := pv_putN (pm_cdi rfl dX5_init_9) (by decide +kernel) (by decide +kernel) (by decide +kernel) hs
theorem q44_12 : pm_V d 44 12 [.ref xn] st S Q = pm_V d 44 13 [.ref xn] (.ref xn :: st) S Q := pv_aload_n (pm_cdi rfl dX5_init_12) rfl
theorem q44_13 : pm_V d 44 13 [l0] st S Q = pm_V d 44 15 [l0] (.int 20 :: st) S Q := pv_bipush (pm_cdi rfl dX5_init_13) (by decide +kernel)
theorem q44_15 (h : 0 ≤ xi ∧ xi.toNatClampNeg ≤ 60000) : pm_V d 44 15 [l0] (.int xi :: st) S Q = pm_V d 44 17 [l0] (.ref (pm_nx S) :: st) (pm_mka S 1 xi.toNatClampNeg) Q := pv_newL (pm_cdi rfl dX5_init_15) h
theorem q44_17 (hs : pm_sh S an = .inr 5) : pm_V d 44 17 [l0] (.ref xn :: .ref an :: st) S Q = pm_V d 44 20 [l0] st (pm_sgr S an 1 (some xn)) Q := pv_putA (pm_cdi rfl dX5_init_17) (by decide +kernel) (by decide +kernel) (by decide +kernel) hs
theorem q44_17N (hs : pm_sh S an = .inr 5) : pm_V d 44 17 [l0] (.null :: .ref an :: st) S Q = pm_V d 44 20 [l0] st (pm_sgr S an 1 none) Q := pv_putN (pm_cdi rfl dX5_init_17) (by decide +kernel) (by decide +kernel) (by decide +kernel) hs
theorem q44_20 : pm_V d 44 20 [.ref xn] st S Q = pm_V d 44 21 [.ref xn] (.ref xn :: st) S Q := pv_aload_n (pm_cdi rfl dX5_init_20) rfl
theorem q44_21 : pm_V d 44 21 [l0] st S Q = pm_V d 44 23 [l0] (.int 20 :: st) S Q := pv_bipush (pm_cdi rfl dX5_init_21) (by decide +kernel)
theorem q44_23 (h : 0 ≤ xi ∧ xi.toNatClampNeg ≤ 60000) : pm_V d 44 23 [l0] (.int xi :: st) S Q = pm_V d 44 25 [l0] (.ref (pm_nx S) :: st) (pm_mka S 0 xi.toNatClampNeg) Q := pv_newI (pm_cdi rfl dX5_init_23) h
theorem q44_25 (hs : pm_sh S an = .inr 5) : pm_V d 44 25 [l0] (.ref xn :: .ref an :: st) S Q = pm_V d 44 28 [l0] st (pm_sgr S an 2 (some xn)) Q := pv_putA (pm_cdi rfl dX5_init_25) (by decide +kernel) (by decide +kernel) (by decide +kernel) hs
theorem q44_25N (hs : pm_sh S an = .inr 5) : pm_V d 44 25 [l0] (.null :: .ref an :: st) S Q = pm_V d 44 28 [l0] st (pm_sgr S an 2 none) Q := pv_putN (pm_cdi rfl dX5_init_25) (by decide +kernel) (by decide +kernel) (by decide +kernel) hs
theorem q44_28 : pm_V d 44 28 [.ref xn] st S Q = pm_V d 44 29 [.ref xn] (.ref xn :: st) S Q := pv_aload_n (pm_cdi rfl dX5_init_28) rfl
theorem q44_29 : pm_V d 44 29 [l0] st S Q = pm_V d 44 31 [l0] (.int 20 :: st) S Q := pv_bipush (pm_cdi rfl dX5_init_29) (by decide +kernel)
theorem q44_31 (h : 0 ≤ xi ∧ xi.toNatClampNeg ≤ 60000) : pm_V d 44 31 [l0] (.int xi :: st) S Q = pm_V d 44 33 [l0] (.ref (pm_nx S) :: st) (pm_mka S 0 xi.toNatClampNeg) Q := pv_newI (pm_cdi rfl dX5_init_31) h
theorem q44_33 (hs : pm_sh S an = .inr 5) : pm_V d 44 33 [l0] (.ref xn :: .ref an :: st) S Q = pm_V d 44 36 [l0] st (pm_sgr S an 3 (some xn)) Q := pv_putA (pm_cdi rfl dX5_init_33) (by decide +kernel) (by decide +kernel) (by decide +kernel) hs
theorem q44_33N (hs : pm_sh S an = .inr 5) : pm_V d 44 33 [l0] (.null :: .ref an :: st) S Q = pm_V d 44 36 [l0] st (pm_sgr S an 3 none) Q := pv_putN (pm_cdi rfl dX5_init_33) (by decide +kernel) (by decide +kernel) (by decide +kernel) hs
theorem q44_36 : pm_V d 44 36 [.ref xn] st S Q = pm_V d 44 37 [.ref xn] (.ref xn :: st) S Q := pv_aload_n (pm_cdi rfl dX5_init_36) rfl
theorem q44_37 : pm_V d 44 37 [l0] st S Q = pm_V d 44 38 [l0] (.int 0 :: st) S Q := pv_iconst (pm_cdi rfl dX5_init_37) (by decide +kernel)
theorem q44_38 (hs : pm_sh S an = .inr 5) : pm_V d 44 38 [l0] (.int xi :: .ref an :: st) S Q = pm_V d 44 41 [l0] st (pm_sgi S an 4 xi) Q := pv_putI (pm_cdi rfl dX5_init_38) (by decide +kernel) (by decide +kernel) (by decide +kernel) hs
theorem q44_41 : pm_V d 44 41 [.ref xn] st S Q = pm_V d 44 42 [.ref xn] (.ref xn :: st) S Q := pv_aload_n (pm_cdi rfl dX5_init_41) rfl
theorem q44_42 : pm_V d 44 42 [l0] st S Q = pm_V d 44 43 [l0] (.int 0 :: st) S Q := pv_iconst (pm_cdi rfl dX5_init_42) (by decide +kernel)
theorem q44_43 (hs : pm_sh S an = .inr 5) : pm_V d 44 43 [l0] (.int xi :: .ref an :: st) S Q = pm_V d 44 46 [l0] st (pm_sgi S an 5 xi) Q := pv_putI (pm_cdi rfl dX5_init_43) (by decide +kernel) (by decide +kernel) (by decide +kernel) hs
theorem q44_46 : pm_V d 44 46 [.ref xn] st S Q = pm_V d 44 47 [.ref xn] (.ref xn :: st) S Q := pv_aload_n (pm_cdi rfl dX5_init_46) rfl
theorem q44_47 : pm_V d 44 47 [l0] st S Q = pm_V d 44 48 [l0] (.int 0 :: st) S Q := pv_iconst (pm_cdi rfl dX5_init_47) (by decide +kernel)
theorem q44_48 (hs : pm_sh S an = .inr 5) : pm_V d 44 48 [l0] (.int xi :: .ref an :: st) S Q = pm_V d 44 51 [l0] st (pm_sgi S an 6 xi) Q := pv_putI (pm_cdi rfl dX5_init_48) (by decide +kernel) (by decide +kernel) (by decide +kernel) hs
theorem q44_51 : pm_V d 44 51 [l0] [] S Q = Q none S := pv_rV (pm_cdi rfl dX5_init_51) (by decide +kernel)
theorem q44_e : pm_N d 44 [.ref an] S Q = pm_V d 44 0 [.ref an] [] S Q := pv_ent (Nat.le_of_ble_eq_true rfl) rfl
/-! 45: ViewsJoins$Tests.has(I)Z -/
theorem dX5_has_0 : decode cX5_has 0 = .ok (.iload_n 1, 1) := by decide +kernel
theorem dX5_has_1 : decode cX5_has 1 = .ok (.ifCond .lt 21, 3) := by decide +kernel
theorem dX5_has_4 : decode cX5_has 4 = .ok (.iload_n 1, 1) := by decide +kernel
theorem dX5_has_5 : decode cX5_has 5 = .ok (.aload_n 0, 1) := by decide +kernel
theorem dX5_has_6 : decode cX5_has 6 = .ok (.getfield 25, 3) := by decide +kernel
theorem dX5_has_9 : decode cX5_has 9 = .ok (.if_icmp .ge 13, 3) := by decide +kernel
theorem dX5_has_12 : decode cX5_has 12 = .ok (.iload_n 1, 1) := by decide +kernel
theorem dX5_has_13 : decode cX5_has 13 = .ok (.bipush 20, 2) := by decide +kernel
theorem dX5_has_15 : decode cX5_has 15 = .ok (.if_icmp .ge 7, 3) := by decide +kernel
theorem dX5_has_18 : decode cX5_has 18 = .ok (.iconst 1, 1) := by decide +kernel
theorem dX5_has_19 : decode cX5_has 19 = .ok (.goto 4, 3) := by decide +kernel
theorem dX5_has_22 : decode cX5_has 22 = .ok (.iconst 0, 1) := by decide +kernel
theorem dX5_has_23 : decode cX5_has 23 = .ok (.ireturn, 1) := by decide +kernel
theorem q45_0 : pm_V d 45 0 [l0, .int xi] st S Q = pm_V d 45 1 [l0, .int xi] (.int xi :: st) S Q := pv_iload_n (pm_cdi rfl dX5_has_0) rfl
theorem q45_1 : pm_V d 45 1 [l0, l1] (.int xi :: st) S Q = if xi < 0 then pm_V d 45 22 [l0, l1] st S Q else pm_V d 45 4 [l0, l1] st S Q := pv_if_lt (pm_cdi rfl dX5_has_1) rfl
theorem q45_4 : pm_V d 45 4 [l0, .int xi] st S Q = pm_V d 45 5 [l0, .int xi] (.int xi :: st) S Q := pv_iload_n (pm_cdi rfl dX5_has_4) rfl
theorem q45_5 : pm_V d 45 5 [.ref xn, l1] st S Q = pm_V d 45 6 [.ref xn, l1] (.ref xn :: st) S Q := pv_aload_n (pm_cdi rfl dX5_has_5) rfl
theorem q45_6 (hs : pm_sh S an = .inr 5) : pm_V d 45 6 [l0, l1] (.ref an :: st) S Q = pm_V d 45 9 [l0, l1] (.int (pm_gi S an 4) :: st) S Q := pv_getI (pm_cdi rfl dX5_has_6) (by decide +kernel) (by decide +kernel) (by decide +kernel) hs
theorem q45_9 : pm_V d 45 9 [l0, l1] (.int yi :: .int xi :: st) S Q = if xi < yi then pm_V d 45 12 [l0, l1] st S Q else pm_V d 45 22 [l0, l1] st S Q := pv_icmp_ge (pm_cdi rfl dX5_has_9) rfl
theorem q45_12 : pm_V d 45 12 [l0, .int xi] st S Q = pm_V d 45 13 [l0, .int xi] (.int xi :: st) S Q := pv_iload_n (pm_cdi rfl dX5_has_12) rfl
theorem q45_13 : pm_V d 45 13 [l0, l1] st S Q = pm_V d 45 15 [l0, l1] (.int 20 :: st) S Q := pv_bipush (pm_cdi rfl dX5_has_13) (by decide +kernel)
theorem q45_15 : pm_V d 45 15 [l0, l1] (.int yi :: .int xi :: st) S Q = if xi < yi then pm_V d 45 18 [l0, l1] st S Q else pm_V d 45 22 [l0, l1] st S Q := pv_icmp_ge (pm_cdi rfl dX5_has_15) rfl
theorem q45_18 : pm_V d 45 18 [l0, l1] st S Q = pm_V d 45 19 [l0, l1] (.int 1 :: st) S Q := pv_iconst (pm_cdi rfl dX5_has_18) (by decide +kernel)
theorem q45_19 : pm_V d 45 19 [l0, l1] st S Q = pm_V d 45 23 [l0, l1] st S Q := pv_goto (pm_cdi rfl dX5_has_19) rfl
theorem q45_22 : pm_V d 45 22 [l0, l1] st S Q = pm_V d 45 23 [l0, l1] (.int 0 :: st) S Q := pv_iconst (pm_cdi rfl dX5_has_22) (by decide +kernel)
theorem q45_23 (hx : xi = 0 ∨ xi = 1) : pm_V d 45 23 [l0, l1] [.int xi] S Q = Q (some (.int xi)) S := pv_rZ (pm_cdi rfl dX5_has_23) (by decide +kernel) hx
theorem q45_e : pm_N d 45 [.ref an, .int v0i] S Q = pm_V d 45 0 [.ref an, .int v0i] [] S Q := pv_ent (Nat.le_of_ble_eq_true rfl) rfl
/-! 46: ViewsJoins$Tests.fits(III)Z -/
theorem dX5_fits_0 : decode cX5_fits 0 = .ok (.iload_n 1, 1) := by decide +kernel
theorem dX5_fits_1 : decode cX5_fits 1 = .ok (.ifCond .lt 9, 3) := by decide +kernel
theorem dX5_fits_4 : decode cX5_fits 4 = .ok (.iload_n 1, 1) := by decide +kernel
theorem dX5_fits_5 : decode cX5_fits 5 = .ok (.bipush 8, 2) := by decide +kernel
theorem dX5_fits_7 : decode cX5_fits 7 = .ok (.if_icmp .le 5, 3) := by decide +kernel
theorem dX5_fits_10 : decode cX5_fits 10 = .ok (.iconst 0, 1) := by decide +kernel
theorem dX5_fits_11 : decode cX5_fits 11 = .ok (.ireturn, 1) := by decide +kernel
theorem dX5_fits_12 : decode cX5_fits 12 = .ok (.iload_n 1, 1) := by decide +kernel
theorem dX5_fits_13 : decode cX5_fits 13 = .ok (.iconst 4, 1) := by decide +kernel
theorem dX5_fits_14 : decode cX5_fits 14 = .ok (.if_icmp .lt 7, 3) := by decide +kernel
theorem dX5_fits_17 : decode cX5_fits 17 = .ok (.iconst 1, 1) := by decide +kernel
theorem dX5_fits_18 : decode cX5_fits 18 = .ok (.goto 4, 3) := by decide +kernel
theorem dX5_fits_21 : decode cX5_fits 21 = .ok (.iconst 0, 1) := by decide +kernel
theorem dX5_fits_22 : decode cX5_fits 22 = .ok (.istore 4, 2) := by decide +kernel
theorem dX5_fits_24 : decode cX5_fits 24 = .ok (.iload_n 1, 1) := by decide +kernel
theorem dX5_fits_25 : decode cX5_fits 25 = .ok (.iconst 5, 1) := by decide +kernel
theorem dX5_fits_26 : decode cX5_fits 26 = .ok (.if_icmp .eq 9, 3) := by decide +kernel
theorem dX5_fits_29 : decode cX5_fits 29 = .ok (.iload_n 1, 1) := by decide +kernel
theorem dX5_fits_30 : decode cX5_fits 30 = .ok (.bipush 6, 2) := by decide +kernel
theorem dX5_fits_32 : decode cX5_fits 32 = .ok (.if_icmp .ne 7, 3) := by decide +kernel
theorem dX5_fits_35 : decode cX5_fits 35 = .ok (.iconst 1, 1) := by decide +kernel
theorem dX5_fits_36 : decode cX5_fits 36 = .ok (.goto 4, 3) := by decide +kernel
theorem dX5_fits_39 : decode cX5_fits 39 = .ok (.iconst 0, 1) := by decide +kernel
theorem dX5_fits_40 : decode cX5_fits 40 = .ok (.istore 5, 2) := by decide +kernel
theorem dX5_fits_42 : decode cX5_fits 42 = .ok (.iload 4, 2) := by decide +kernel
theorem dX5_fits_44 : decode cX5_fits 44 = .ok (.ifCond .eq 11, 3) := by decide +kernel
theorem dX5_fits_47 : decode cX5_fits 47 = .ok (.aload_n 0, 1) := by decide +kernel
theorem dX5_fits_48 : decode cX5_fits 48 = .ok (.iload_n 2, 1) := by decide +kernel
theorem dX5_fits_49 : decode cX5_fits 49 = .ok (.invokevirtual 35, 3) := by decide +kernel
theorem dX5_fits_52 : decode cX5_fits 52 = .ok (.ifCond .eq 20, 3) := by decide +kernel
theorem dX5_fits_55 : decode cX5_fits 55 = .ok (.iload 5, 2) := by decide +kernel
theorem dX5_fits_57 : decode cX5_fits 57 = .ok (.ifCond .eq 11, 3) := by decide +kernel
theorem dX5_fits_60 : decode cX5_fits 60 = .ok (.aload_n 0, 1) := by decide +kernel
theorem dX5_fits_61 : decode cX5_fits 61 = .ok (.iload_n 3, 1) := by decide +kernel
theorem dX5_fits_62 : decode cX5_fits 62 = .ok (.invokevirtual 35, 3) := by decide +kernel
theorem dX5_fits_65 : decode cX5_fits 65 = .ok (.ifCond .eq 7, 3) := by decide +kernel
theorem dX5_fits_68 : decode cX5_fits 68 = .ok (.iconst 1, 1) := by decide +kernel
theorem dX5_fits_69 : decode cX5_fits 69 = .ok (.goto 4, 3) := by decide +kernel
theorem dX5_fits_72 : decode cX5_fits 72 = .ok (.iconst 0, 1) := by decide +kernel
theorem dX5_fits_73 : decode cX5_fits 73 = .ok (.ireturn, 1) := by decide +kernel
theorem q46_0 : pm_V d 46 0 [l0, .int xi, l2, l3, l4, l5] st S Q = pm_V d 46 1 [l0, .int xi, l2, l3, l4, l5] (.int xi :: st) S Q := pv_iload_n (pm_cdi rfl dX5_fits_0) rfl
theorem q46_1 : pm_V d 46 1 [l0, l1, l2, l3, l4, l5] (.int xi :: st) S Q = if xi < 0 then pm_V d 46 10 [l0, l1, l2, l3, l4, l5] st S Q else pm_V d 46 4 [l0, l1, l2, l3, l4, l5] st S Q := pv_if_lt (pm_cdi rfl dX5_fits_1) rfl
theorem q46_4 : pm_V d 46 4 [l0, .int xi, l2, l3, l4, l5] st S Q = pm_V d 46 5 [l0, .int xi, l2, l3, l4, l5] (.int xi :: st) S Q := pv_iload_n (pm_cdi rfl dX5_fits_4) rfl
theorem q46_5 : pm_V d 46 5 [l0, l1, l2, l3, l4, l5] st S Q = pm_V d 46 7 [l0, l1, l2, l3, l4, l5] (.int 8 :: st) S Q := pv_bipush (pm_cdi rfl dX5_fits_5) (by decide +kernel)
theorem q46_7 : pm_V d 46 7 [l0, l1, l2, l3, l4, l5] (.int yi :: .int xi :: st) S Q = if xi ≤ yi then pm_V d 46 12 [l0, l1, l2, l3, l4, l5] st S Q else pm_V d 46 10 [l0, l1, l2, l3, l4, l5] st S Q := pv_icmp_le (pm_cdi rfl dX5_fits_7) rfl
theorem q46_10 : pm_V d 46 10 [l0, l1, l2, l3, l4, l5] st S Q = pm_V d 46 11 [l0, l1, l2, l3, l4, l5] (.int 0 :: st) S Q := pv_iconst (pm_cdi rfl dX5_fits_10) (by decide +kernel)
theorem q46_11 (hx : xi = 0 ∨ xi = 1) : pm_V d 46 11 [l0, l1, l2, l3, l4, l5] [.int xi] S Q = Q (some (.int xi)) S := pv_rZ (pm_cdi rfl dX5_fits_11) (by decide +kernel) hx
theorem q46_12 : pm_V d 46 12 [l0, .int xi, l2, l3, l4, l5] st S Q = pm_V d 46 13 [l0, .int xi, l2, l3, l4, l5] (.int xi :: st) S Q := pv_iload_n (pm_cdi rfl dX5_fits_12) rfl
theorem q46_13 : pm_V d 46 13 [l0, l1, l2, l3, l4, l5] st S Q = pm_V d 46 14 [l0, l1, l2, l3, l4, l5] (.int 4 :: st) S Q := pv_iconst (pm_cdi rfl dX5_fits_13) (by decide +kernel)
theorem q46_14 : pm_V d 46 14 [l0, l1, l2, l3, l4, l5] (.int yi :: .int xi :: st) S Q = if xi < yi then pm_V d 46 21 [l0, l1, l2, l3, l4, l5] st S Q else pm_V d 46 17 [l0, l1, l2, l3, l4, l5] st S Q := pv_icmp_lt (pm_cdi rfl dX5_fits_14) rfl
theorem q46_17 : pm_V d 46 17 [l0, l1, l2, l3, l4, l5] st S Q = pm_V d 46 18 [l0, l1, l2, l3, l4, l5] (.int 1 :: st) S Q := pv_iconst (pm_cdi rfl dX5_fits_17) (by decide +kernel)
theorem q46_18 : pm_V d 46 18 [l0, l1, l2, l3, l4, l5] st S Q = pm_V d 46 22 [l0, l1, l2, l3, l4, l5] st S Q := pv_goto (pm_cdi rfl dX5_fits_18) rfl
theorem q46_21 : pm_V d 46 21 [l0, l1, l2, l3, l4, l5] st S Q = pm_V d 46 22 [l0, l1, l2, l3, l4, l5] (.int 0 :: st) S Q := pv_iconst (pm_cdi rfl dX5_fits_21) (by decide +kernel)
theorem q46_22 : pm_V d 46 22 [l0, l1, l2, .int yi, l4, l5] (.int xi :: st) S Q = pm_V d 46 24 [l0, l1, l2, .int yi, .int xi, l5] st S Q := pv_istore (pm_cdi rfl dX5_fits_22) rfl
theorem q46_24 : pm_V d 46 24 [l0, .int xi, l2, l3, l4, l5] st S Q = pm_V d 46 25 [l0, .int xi, l2, l3, l4, l5] (.int xi :: st) S Q := pv_iload_n (pm_cdi rfl dX5_fits_24) rfl
theorem q46_25 : pm_V d 46 25 [l0, l1, l2, l3, l4, l5] st S Q = pm_V d 46 26 [l0, l1, l2, l3, l4, l5] (.int 5 :: st) S Q := pv_iconst (pm_cdi rfl dX5_fits_25) (by decide +kernel)
theorem q46_26 : pm_V d 46 26 [l0, l1, l2, l3, l4, l5] (.int yi :: .int xi :: st) S Q = if xi = yi then pm_V d 46 35 [l0, l1, l2, l3, l4, l5] st S Q else pm_V d 46 29 [l0, l1, l2, l3, l4, l5] st S Q := pv_icmp_eq (pm_cdi rfl dX5_fits_26) rfl
theorem q46_29 : pm_V d 46 29 [l0, .int xi, l2, l3, l4, l5] st S Q = pm_V d 46 30 [l0, .int xi, l2, l3, l4, l5] (.int xi :: st) S Q := pv_iload_n (pm_cdi rfl dX5_fits_29) rfl
theorem q46_30 : pm_V d 46 30 [l0, l1, l2, l3, l4, l5] st S Q = pm_V d 46 32 [l0, l1, l2, l3, l4, l5] (.int 6 :: st) S Q := pv_bipush (pm_cdi rfl dX5_fits_30) (by decide +kernel)
theorem q46_32 : pm_V d 46 32 [l0, l1, l2, l3, l4, l5] (.int yi :: .int xi :: st) S Q = if xi = yi then pm_V d 46 35 [l0, l1, l2, l3, l4, l5] st S Q else pm_V d 46 39 [l0, l1, l2, l3, l4, l5] st S Q := pv_icmp_ne (pm_cdi rfl dX5_fits_32) rfl
theorem q46_35 : pm_V d 46 35 [l0, l1, l2, l3, l4, l5] st S Q = pm_V d 46 36 [l0, l1, l2, l3, l4, l5] (.int 1 :: st) S Q := pv_iconst (pm_cdi rfl dX5_fits_35) (by decide +kernel)
theorem q46_36 : pm_V d 46 36 [l0, l1, l2, l3, l4, l5] st S Q = pm_V d 46 40 [l0, l1, l2, l3, l4, l5] st S Q := pv_goto (pm_cdi rfl dX5_fits_36) rfl
theorem q46_39 : pm_V d 46 39 [l0, l1, l2, l3, l4, l5] st S Q = pm_V d 46 40 [l0, l1, l2, l3, l4, l5] (.int 0 :: st) S Q := pv_iconst (pm_cdi rfl dX5_fits_39) (by decide +kernel)
theorem q46_40 : pm_V d 46 40 [l0, l1, l2, l3, .int yi, l5] (.int xi :: st) S Q = pm_V d 46 42 [l0, l1, l2, l3, .int yi, .int xi] st S Q := pv_istore (pm_cdi rfl dX5_fits_40) rfl
theorem q46_42 : pm_V d 46 42 [l0, l1, l2, l3, .int xi, l5] st S Q = pm_V d 46 44 [l0, l1, l2, l3, .int xi, l5] (.int xi :: st) S Q := pv_iload (pm_cdi rfl dX5_fits_42) rfl
theorem q46_44 : pm_V d 46 44 [l0, l1, l2, l3, l4, l5] (.int xi :: st) S Q = if xi = 0 then pm_V d 46 55 [l0, l1, l2, l3, l4, l5] st S Q else pm_V d 46 47 [l0, l1, l2, l3, l4, l5] st S Q := pv_if_eq (pm_cdi rfl dX5_fits_44) rfl
theorem q46_47 : pm_V d 46 47 [.ref xn, l1, l2, l3, l4, l5] st S Q = pm_V d 46 48 [.ref xn, l1, l2, l3, l4, l5] (.ref xn :: st) S Q := pv_aload_n (pm_cdi rfl dX5_fits_47) rfl
theorem q46_48 : pm_V d 46 48 [l0, l1, .int xi, l3, l4, l5] st S Q = pm_V d 46 49 [l0, l1, .int xi, l3, l4, l5] (.int xi :: st) S Q := pv_iload_n (pm_cdi rfl dX5_fits_48) rfl
theorem q46_49 (hs : pm_sh S an = .inr 5) : pm_V (d + 1) 46 49 [l0, l1, l2, l3, l4, l5] [.int v0i, .ref an] S Q = pm_N d 45 [.ref an, .int v0i] S (fun r S' => pm_V (d + 1) 46 52 [l0, l1, l2, l3, l4, l5] (r.toList ++ []) S' Q) := pv_callV (as := [.int v0i]) (pm_cdi rfl dX5_fits_49) (Or.inl (by decide +kernel)) (by decide +kernel) (show _ = _ from (by decide +kernel : 1 = pm_np 45)) rfl (Nat.le_of_ble_eq_true rfl) (cl := 5) (by decide +kernel) hs
theorem q46_52 : pm_V d 46 52 [l0, l1, l2, l3, l4, l5] (.int xi :: st) S Q = if xi = 0 then pm_V d 46 72 [l0, l1, l2, l3, l4, l5] st S Q else pm_V d 46 55 [l0, l1, l2, l3, l4, l5] st S Q := pv_if_eq (pm_cdi rfl dX5_fits_52) rfl
theorem q46_55 : pm_V d 46 55 [l0, l1, l2, l3, l4, .int xi] st S Q = pm_V d 46 57 [l0, l1, l2, l3, l4, .int xi] (.int xi :: st) S Q := pv_iload (pm_cdi rfl dX5_fits_55) rfl
theorem q46_57 : pm_V d 46 57 [l0, l1, l2, l3, l4, l5] (.int xi :: st) S Q = if xi = 0 then pm_V d 46 68 [l0, l1, l2, l3, l4, l5] st S Q else pm_V d 46 60 [l0, l1, l2, l3, l4, l5] st S Q := pv_if_eq (pm_cdi rfl dX5_fits_57) rfl
theorem q46_60 : pm_V d 46 60 [.ref xn, l1, l2, l3, l4, l5] st S Q = pm_V d 46 61 [.ref xn, l1, l2, l3, l4, l5] (.ref xn :: st) S Q := pv_aload_n (pm_cdi rfl dX5_fits_60) rfl
theorem q46_61 : pm_V d 46 61 [l0, l1, l2, .int xi, l4, l5] st S Q = pm_V d 46 62 [l0, l1, l2, .int xi, l4, l5] (.int xi :: st) S Q := pv_iload_n (pm_cdi rfl dX5_fits_61) rfl
theorem q46_62 (hs : pm_sh S an = .inr 5) : pm_V (d + 1) 46 62 [l0, l1, l2, l3, l4, l5] [.int v0i, .ref an] S Q = pm_N d 45 [.ref an, .int v0i] S (fun r S' => pm_V (d + 1) 46 65 [l0, l1, l2, l3, l4, l5] (r.toList ++ []) S' Q) := pv_callV (as := [.int v0i]) (pm_cdi rfl dX5_fits_62) (Or.inl (by decide +kernel)) (by decide +kernel) (show _ = _ from (by decide +kernel : 1 = pm_np 45)) rfl (Nat.le_of_ble_eq_true rfl) (cl := 5) (by decide +kernel) hs
theorem q46_65 : pm_V d 46 65 [l0, l1, l2, l3, l4, l5] (.int xi :: st) S Q = if xi = 0 then pm_V d 46 72 [l0, l1, l2, l3, l4, l5] st S Q else pm_V d 46 68 [l0, l1, l2, l3, l4, l5] st S Q := pv_if_eq (pm_cdi rfl dX5_fits_65) rfl
theorem q46_68 : pm_V d 46 68 [l0, l1, l2, l3, l4, l5] st S Q = pm_V d 46 69 [l0, l1, l2, l3, l4, l5] (.int 1 :: st) S Q := pv_iconst (pm_cdi rfl dX5_fits_68) (by decide +kernel)
theorem q46_69 : pm_V d 46 69 [l0, l1, l2, l3, l4, l5] st S Q = pm_V d 46 73 [l0, l1, l2, l3, l4, l5] st S Q := pv_goto (pm_cdi rfl dX5_fits_69) rfl
theorem q46_72 : pm_V d 46 72 [l0, l1, l2, l3, l4, l5] st S Q = pm_V d 46 73 [l0, l1, l2, l3, l4, l5] (.int 0 :: st) S Q := pv_iconst (pm_cdi rfl dX5_fits_72) (by decide +kernel)
theorem q46_73 (hx : xi = 0 ∨ xi = 1) : pm_V d 46 73 [l0, l1, l2, l3, l4, l5] [.int xi] S Q = Q (some (.int xi)) S := pv_rZ (pm_cdi rfl dX5_fits_73) (by decide +kernel) hx
theorem q46_e : pm_N d 46 [.ref an, .int v0i, .int v1i, .int v2i] S Q = pm_V d 46 0 [.ref an, .int v0i, .int v1i, .int v2i, pm_j, pm_j] [] S Q := pv_ent (Nat.le_of_ble_eq_true rfl) rfl
/-! 47: ViewsJoins$Tests.add(IJII)V -/
theorem dX5_add_0 : decode cX5_add 0 = .ok (.aload_n 0, 1) := by decide +kernel
theorem dX5_add_1 : decode cX5_add 1 = .ok (.getfield 25, 3) := by decide +kernel
theorem dX5_add_4 : decode cX5_add 4 = .ok (.bipush 20, 2) := by decide +kernel
theorem dX5_add_6 : decode cX5_add 6 = .ok (.if_icmp .lt 4, 3) := by decide +kernel
theorem dX5_add_9 : decode cX5_add 9 = .ok (.return_, 1) := by decide +kernel
theorem dX5_add_10 : decode cX5_add 10 = .ok (.aload_n 0, 1) := by decide +kernel
theorem dX5_add_11 : decode cX5_add 11 = .ok (.getfield 9, 3) := by decide +kernel
theorem dX5_add_14 : decode cX5_add 14 = .ok (.aload_n 0, 1) := by decide +kernel
theorem dX5_add_15 : decode cX5_add 15 = .ok (.getfield 25, 3) := by decide +kernel
theorem dX5_add_18 : decode cX5_add 18 = .ok (.iload_n 1, 1) := by decide +kernel
theorem dX5_add_19 : decode cX5_add 19 = .ok (.iastore, 1) := by decide +kernel
theorem dX5_add_20 : decode cX5_add 20 = .ok (.aload_n 0, 1) := by decide +kernel
theorem dX5_add_21 : decode cX5_add 21 = .ok (.getfield 15, 3) := by decide +kernel
theorem dX5_add_24 : decode cX5_add 24 = .ok (.aload_n 0, 1) := by decide +kernel
theorem dX5_add_25 : decode cX5_add 25 = .ok (.getfield 25, 3) := by decide +kernel
theorem dX5_add_28 : decode cX5_add 28 = .ok (.lload_n 2, 1) := by decide +kernel
theorem dX5_add_29 : decode cX5_add 29 = .ok (.lastore, 1) := by decide +kernel
theorem dX5_add_30 : decode cX5_add 30 = .ok (.aload_n 0, 1) := by decide +kernel
theorem dX5_add_31 : decode cX5_add 31 = .ok (.getfield 19, 3) := by decide +kernel
theorem dX5_add_34 : decode cX5_add 34 = .ok (.aload_n 0, 1) := by decide +kernel
theorem dX5_add_35 : decode cX5_add 35 = .ok (.getfield 25, 3) := by decide +kernel
theorem dX5_add_38 : decode cX5_add 38 = .ok (.iload 4, 2) := by decide +kernel
theorem dX5_add_40 : decode cX5_add 40 = .ok (.iastore, 1) := by decide +kernel
theorem dX5_add_41 : decode cX5_add 41 = .ok (.aload_n 0, 1) := by decide +kernel
theorem dX5_add_42 : decode cX5_add 42 = .ok (.getfield 22, 3) := by decide +kernel
theorem dX5_add_45 : decode cX5_add 45 = .ok (.aload_n 0, 1) := by decide +kernel
theorem dX5_add_46 : decode cX5_add 46 = .ok (.getfield 25, 3) := by decide +kernel
theorem dX5_add_49 : decode cX5_add 49 = .ok (.iload 5, 2) := by decide +kernel
theorem dX5_add_51 : decode cX5_add 51 = .ok (.iastore, 1) := by decide +kernel
theorem dX5_add_52 : decode cX5_add 52 = .ok (.aload_n 0, 1) := by decide +kernel
theorem dX5_add_53 : decode cX5_add 53 = .ok (.dup, 1) := by decide +kernel
theorem dX5_add_54 : decode cX5_add 54 = .ok (.getfield 25, 3) := by decide +kernel
theorem dX5_add_57 : decode cX5_add 57 = .ok (.iconst 1, 1) := by decide +kernel
theorem dX5_add_58 : decode cX5_add 58 = .ok (.iadd, 1) := by decide +kernel
theorem dX5_add_59 : decode cX5_add 59 = .ok (.putfield 25, 3) := by decide +kernel
theorem dX5_add_62 : decode cX5_add 62 = .ok (.return_, 1) := by decide +kernel
theorem q47_0 : pm_V d 47 0 [.ref xn, l1, l2, l3, l4, l5] st S Q = pm_V d 47 1 [.ref xn, l1, l2, l3, l4, l5] (.ref xn :: st) S Q := pv_aload_n (pm_cdi rfl dX5_add_0) rfl
theorem q47_1 (hs : pm_sh S an = .inr 5) : pm_V d 47 1 [l0, l1, l2, l3, l4, l5] (.ref an :: st) S Q = pm_V d 47 4 [l0, l1, l2, l3, l4, l5] (.int (pm_gi S an 4) :: st) S Q := pv_getI (pm_cdi rfl dX5_add_1) (by decide +kernel) (by decide +kernel) (by decide +kernel) hs
theorem q47_4 : pm_V d 47 4 [l0, l1, l2, l3, l4, l5] st S Q = pm_V d 47 6 [l0, l1, l2, l3, l4, l5] (.int 20 :: st) S Q := pv_bipush (pm_cdi rfl dX5_add_4) (by decide +kernel)
theorem q47_6 : pm_V d 47 6 [l0, l1, l2, l3, l4, l5] (.int yi :: .int xi :: st) S Q = if xi < yi then pm_V d 47 10 [l0, l1, l2, l3, l4, l5] st S Q else pm_V d 47 9 [l0, l1, l2, l3, l4, l5] st S Q := pv_icmp_lt (pm_cdi rfl dX5_add_6) rfl
theorem q47_9 : pm_V d 47 9 [l0, l1, l2, l3, l4, l5] [] S Q = Q none S := pv_rV (pm_cdi rfl dX5_add_9) (by decide +kernel)
theorem q47_10 : pm_V d 47 10 [.ref xn, l1, l2, l3, l4, l5] st S Q = pm_V d 47 11 [.ref xn, l1, l2, l3, l4, l5] (.ref xn :: st) S Q := pv_aload_n (pm_cdi rfl dX5_add_10) rfl
theorem q47_11 (hs : pm_sh S an = .inr 5) : pm_V d 47 11 [l0, l1, l2, l3, l4, l5] (.ref an :: st) S Q = pm_V d 47 14 [l0, l1, l2, l3, l4, l5] (va_rf (pm_gr S an 0) :: st) S Q := pv_getA (pm_cdi rfl dX5_add_11) (by decide +kernel) (by decide +kernel) (by decide +kernel) hs
theorem q47_14 : pm_V d 47 14 [.ref xn, l1, l2, l3, l4, l5] st S Q = pm_V d 47 15 [.ref xn, l1, l2, l3, l4, l5] (.ref xn :: st) S Q := pv_aload_n (pm_cdi rfl dX5_add_14) rfl
theorem q47_15 (hs : pm_sh S an = .inr 5) : pm_V d 47 15 [l0, l1, l2, l3, l4, l5] (.ref an :: st) S Q = pm_V d 47 18 [l0, l1, l2, l3, l4, l5] (.int (pm_gi S an 4) :: st) S Q := pv_getI (pm_cdi rfl dX5_add_15) (by decide +kernel) (by decide +kernel) (by decide +kernel) hs
theorem q47_18 : pm_V d 47 18 [l0, .int xi, l2, l3, l4, l5] st S Q = pm_V d 47 19 [l0, .int xi, l2, l3, l4, l5] (.int xi :: st) S Q := pv_iload_n (pm_cdi rfl dX5_add_18) rfl
theorem q47_19 (hs : pm_ar S an 0 xi = true) : pm_V d 47 19 [l0, l1, l2, l3, l4, l5] (.int vi :: .int xi :: .ref an :: st) S Q = pm_V d 47 20 [l0, l1, l2, l3, l4, l5] st (pm_szi S an xi.toNatClampNeg vi) Q := pv_iast (pm_cdi rfl dX5_add_19) hs
theorem q47_20 : pm_V d 47 20 [.ref xn, l1, l2, l3, l4, l5] st S Q = pm_V d 47 21 [.ref xn, l1, l2, l3, l4, l5] (.ref xn :: st) S Q := pv_aload_n (pm_cdi rfl dX5_add_20) rfl
theorem q47_21 (hs : pm_sh S an = .inr 5) : pm_V d 47 21 [l0, l1, l2, l3, l4, l5] (.ref an :: st) S Q = pm_V d 47 24 [l0, l1, l2, l3, l4, l5] (va_rf (pm_gr S an 1) :: st) S Q := pv_getA (pm_cdi rfl dX5_add_21) (by decide +kernel) (by decide +kernel) (by decide +kernel) hs
theorem q47_24 : pm_V d 47 24 [.ref xn, l1, l2, l3, l4, l5] st S Q = pm_V d 47 25 [.ref xn, l1, l2, l3, l4, l5] (.ref xn :: st) S Q := pv_aload_n (pm_cdi rfl dX5_add_24) rfl
theorem q47_25 (hs : pm_sh S an = .inr 5) : pm_V d 47 25 [l0, l1, l2, l3, l4, l5] (.ref an :: st) S Q = pm_V d 47 28 [l0, l1, l2, l3, l4, l5] (.int (pm_gi S an 4) :: st) S Q := pv_getI (pm_cdi rfl dX5_add_25) (by decide +kernel) (by decide +kernel) (by decide +kernel) hs
theorem q47_28 : pm_V d 47 28 [l0, l1, .long xj, l3, l4, l5] st S Q = pm_V d 47 29 [l0, l1, .long xj, l3, l4, l5] (.long xj :: st) S Q := pv_lload_n (pm_cdi rfl dX5_add_28) rfl
theorem q47_29 (hs : pm_ar S an 1 xi = true) : pm_V d 47 29 [l0, l1, l2, l3, l4, l5] (.long vj :: .int xi :: .ref an :: st) S Q = pm_V d 47 30 [l0, l1, l2, l3, l4, l5] st (pm_szl S an xi.toNatClampNeg vj) Q := pv_last (pm_cdi rfl dX5_add_29) hs
theorem q47_30 : pm_V d 47 30 [.ref xn, l1, l2, l3, l4, l5] st S Q = pm_V d 47 31 [.ref xn, l1, l2, l3, l4, l5] (.ref xn :: st) S Q := pv_aload_n (pm_cdi rfl dX5_add_30) rfl
theorem q47_31 (hs : pm_sh S an = .inr 5) : pm_V d 47 31 [l0, l1, l2, l3, l4, l5] (.ref an :: st) S Q = pm_V d 47 34 [l0, l1, l2, l3, l4, l5] (va_rf (pm_gr S an 2) :: st) S Q := pv_getA (pm_cdi rfl dX5_add_31) (by decide +kernel) (by decide +kernel) (by decide +kernel) hs
theorem q47_34 : pm_V d 47 34 [.ref xn, l1, l2, l3, l4, l5] st S Q = pm_V d 47 35 [.ref xn, l1, l2, l3, l4, l5] (.ref xn :: st) S Q := pv_aload_n (pm_cdi rfl dX5_add_34) rfl
theorem q47_35 (hs : pm_sh S an = .inr 5) : pm_V d 47 35 [l0, l1, l2, l3, l4, l5] (.ref an :: st) S Q = pm_V d 47 38 [l0, l1, l2, l3, l4, l5] (.int (pm_gi S an 4) :: st) S Q := pv_getI (pm_cdi rfl dX5_add_35) (by decide +kernel) (by decide +kernel) (by decide +kernel) hs
theorem q47_38 : pm_V d 47 38 [l0, l1, l2, l3, .int xi, l5] st S Q = pm_V d 47 40 [l0, l1, l2, l3, .int xi, l5] (.int xi :: st) S Q := pv_iload (pm_cdi rfl dX5_add_38) rfl
theorem q47_40 (hs : pm_ar S an 0 xi = true) : pm_V d 47 40 [l0, l1, l2, l3, l4, l5] (.int vi :: .int xi :: .ref an :: st) S Q = pm_V d 47 41 [l0, l1, l2, l3, l4, l5] st (pm_szi S an xi.toNatClampNeg vi) Q := pv_iast (pm_cdi rfl dX5_add_40) hs
theorem q47_41 : pm_V d 47 41 [.ref xn, l1, l2, l3, l4, l5] st S Q = pm_V d 47 42 [.ref xn, l1, l2, l3, l4, l5] (.ref xn :: st) S Q := pv_aload_n (pm_cdi rfl dX5_add_41) rfl
theorem q47_42 (hs : pm_sh S an = .inr 5) : pm_V d 47 42 [l0, l1, l2, l3, l4, l5] (.ref an :: st) S Q = pm_V d 47 45 [l0, l1, l2, l3, l4, l5] (va_rf (pm_gr S an 3) :: st) S Q := pv_getA (pm_cdi rfl dX5_add_42) (by decide +kernel) (by decide +kernel) (by decide +kernel) hs
theorem q47_45 : pm_V d 47 45 [.ref xn, l1, l2, l3, l4, l5] st S Q = pm_V d 47 46 [.ref xn, l1, l2, l3, l4, l5] (.ref xn :: st) S Q := pv_aload_n (pm_cdi rfl dX5_add_45) rfl
theorem q47_46 (hs : pm_sh S an = .inr 5) : pm_V d 47 46 [l0, l1, l2, l3, l4, l5] (.ref an :: st) S Q = pm_V d 47 49 [l0, l1, l2, l3, l4, l5] (.int (pm_gi S an 4) :: st) S Q := pv_getI (pm_cdi rfl dX5_add_46) (by decide +kernel) (by decide +kernel) (by decide +kernel) hs
theorem q47_49 : pm_V d 47 49 [l0, l1, l2, l3, l4, .int xi] st S Q = pm_V d 47 51 [l0, l1, l2, l3, l4, .int xi] (.int xi :: st) S Q := pv_iload (pm_cdi rfl dX5_add_49) rfl
theorem q47_51 (hs : pm_ar S an 0 xi = true) : pm_V d 47 51 [l0, l1, l2, l3, l4, l5] (.int vi :: .int xi :: .ref an :: st) S Q = pm_V d 47 52 [l0, l1, l2, l3, l4, l5] st (pm_szi S an xi.toNatClampNeg vi) Q := pv_iast (pm_cdi rfl dX5_add_51) hs
theorem q47_52 : pm_V d 47 52 [.ref xn, l1, l2, l3, l4, l5] st S Q = pm_V d 47 53 [.ref xn, l1, l2, l3, l4, l5] (.ref xn :: st) S Q := pv_aload_n (pm_cdi rfl dX5_add_52) rfl
theorem q47_53 : pm_V d 47 53 [l0, l1, l2, l3, l4, l5] (.ref xn :: st) S Q = pm_V d 47 54 [l0, l1, l2, l3, l4, l5] (.ref xn :: .ref xn :: st) S Q := pv_dupA (pm_cdi rfl dX5_add_53)
theorem q47_54 (hs : pm_sh S an = .inr 5) : pm_V d 47 54 [l0, l1, l2, l3, l4, l5] (.ref an :: st) S Q = pm_V d 47 57 [l0, l1, l2, l3, l4, l5] (.int (pm_gi S an 4) :: st) S Q := pv_getI (pm_cdi rfl dX5_add_54) (by decide +kernel) (by decide +kernel) (by decide +kernel) hs
theorem q47_57 : pm_V d 47 57 [l0, l1, l2, l3, l4, l5] st S Q = pm_V d 47 58 [l0, l1, l2, l3, l4, l5] (.int 1 :: st) S Q := pv_iconst (pm_cdi rfl dX5_add_57) (by decide +kernel)
theorem q47_58 : pm_V d 47 58 [l0, l1, l2, l3, l4, l5] (.int yi :: .int xi :: st) S Q = pm_V d 47 59 [l0, l1, l2, l3, l4, l5] (.int (xi + yi) :: st) S Q := pv_iadd (pm_cdi rfl dX5_add_58)
theorem q47_59 (hs : pm_sh S an = .inr 5) : pm_V d 47 59 [l0, l1, l2, l3, l4, l5] (.int xi :: .ref an :: st) S Q = pm_V d 47 62 [l0, l1, l2, l3, l4, l5] st (pm_sgi S an 4 xi) Q := pv_putI (pm_cdi rfl dX5_add_59) (by decide +kernel) (by decide +kernel) (by decide +kernel) hs
theorem q47_62 : pm_V d 47 62 [l0, l1, l2, l3, l4, l5] [] S Q = Q none S := pv_rV (pm_cdi rfl dX5_add_62) (by decide +kernel)
theorem q47_e : pm_N d 47 [.ref an, .int v0i, .long v1j, .int v2i, .int v3i] S Q = pm_V d 47 0 [.ref an, .int v0i, .long v1j, pm_j, .int v2i, .int v3i] [] S Q := pv_ent (Nat.le_of_ble_eq_true rfl) rfl
/-! 48: ViewsJoins$Tests.begin()V -/
theorem dX5_begin_0 : decode cX5_begin 0 = .ok (.aload_n 0, 1) := by decide +kernel
theorem dX5_begin_1 : decode cX5_begin 1 = .ok (.iconst 0, 1) := by decide +kernel
theorem dX5_begin_2 : decode cX5_begin 2 = .ok (.putfield 29, 3) := by decide +kernel
theorem dX5_begin_5 : decode cX5_begin 5 = .ok (.aload_n 0, 1) := by decide +kernel
theorem dX5_begin_6 : decode cX5_begin 6 = .ok (.iconst 0, 1) := by decide +kernel
theorem dX5_begin_7 : decode cX5_begin 7 = .ok (.putfield 32, 3) := by decide +kernel
theorem dX5_begin_10 : decode cX5_begin 10 = .ok (.return_, 1) := by decide +kernel
theorem q48_0 : pm_V d 48 0 [.ref xn] st S Q = pm_V d 48 1 [.ref xn] (.ref xn :: st) S Q := pv_aload_n (pm_cdi rfl dX5_begin_0) rfl
theorem q48_1 : pm_V d 48 1 [l0] st S Q = pm_V d 48 2 [l0] (.int 0 :: st) S Q := pv_iconst (pm_cdi rfl dX5_begin_1) (by decide +kernel)
theorem q48_2 (hs : pm_sh S an = .inr 5) : pm_V d 48 2 [l0] (.int xi :: .ref an :: st) S Q = pm_V d 48 5 [l0] st (pm_sgi S an 5 xi) Q := pv_putI (pm_cdi rfl dX5_begin_2) (by decide +kernel) (by decide +kernel) (by decide +kernel) hs
theorem q48_5 : pm_V d 48 5 [.ref xn] st S Q = pm_V d 48 6 [.ref xn] (.ref xn :: st) S Q := pv_aload_n (pm_cdi rfl dX5_begin_5) rfl
theorem q48_6 : pm_V d 48 6 [l0] st S Q = pm_V d 48 7 [l0] (.int 0 :: st) S Q := pv_iconst (pm_cdi rfl dX5_begin_6) (by decide +kernel)
theorem q48_7 (hs : pm_sh S an = .inr 5) : pm_V d 48 7 [l0] (.int xi :: .ref an :: st) S Q = pm_V d 48 10 [l0] st (pm_sgi S an 6 xi) Q := pv_putI (pm_cdi rfl dX5_begin_7) (by decide +kernel) (by decide +kernel) (by decide +kernel) hs
theorem q48_10 : pm_V d 48 10 [l0] [] S Q = Q none S := pv_rV (pm_cdi rfl dX5_begin_10) (by decide +kernel)
theorem q48_e : pm_N d 48 [.ref an] S Q = pm_V d 48 0 [.ref an] [] S Q := pv_ent (Nat.le_of_ble_eq_true rfl) rfl
/-! 49: ViewsJoins$Tests.say(LViewsJoins$Graph;IIII)I -/
theorem dX5_say_0 : decode cX5_say 0 = .ok (.aload_n 0, 1) := by decide +kernel
theorem dX5_say_1 : decode cX5_say 1 = .ok (.iload 4, 2) := by decide +kernel
theorem dX5_say_3 : decode cX5_say 3 = .ok (.invokevirtual 35, 3) := by decide +kernel
theorem dX5_say_6 : decode cX5_say 6 = .ok (.ifCond .eq 22, 3) := by decide +kernel
theorem dX5_say_9 : decode cX5_say 9 = .ok (.iload 5, 2) := by decide +kernel
theorem dX5_say_11 : decode cX5_say 11 = .ok (.bipush 20, 2) := by decide +kernel
theorem dX5_say_13 : decode cX5_say 13 = .ok (.if_icmp .ge 15, 3) := by decide +kernel
theorem dX5_say_16 : decode cX5_say 16 = .ok (.aload_n 1, 1) := by decide +kernel
theorem dX5_say_17 : decode cX5_say 17 = .ok (.iload_n 2, 1) := by decide +kernel
theorem dX5_say_18 : decode cX5_say 18 = .ok (.invokevirtual 39, 3) := by decide +kernel
theorem dX5_say_21 : decode cX5_say 21 = .ok (.iload_n 3, 1) := by decide +kernel
theorem dX5_say_22 : decode cX5_say 22 = .ok (.invokevirtual 45, 3) := by decide +kernel
theorem dX5_say_25 : decode cX5_say 25 = .ok (.ifCond .ne 6, 3) := by decide +kernel
theorem dX5_say_28 : decode cX5_say 28 = .ok (.bipush (-5), 2) := by decide +kernel
theorem dX5_say_30 : decode cX5_say 30 = .ok (.ireturn, 1) := by decide +kernel
theorem dX5_say_31 : decode cX5_say 31 = .ok (.aload_n 0, 1) := by decide +kernel
theorem dX5_say_32 : decode cX5_say 32 = .ok (.dup, 1) := by decide +kernel
theorem dX5_say_33 : decode cX5_say 33 = .ok (.getfield 29, 3) := by decide +kernel
theorem dX5_say_36 : decode cX5_say 36 = .ok (.iconst 1, 1) := by decide +kernel
theorem dX5_say_37 : decode cX5_say 37 = .ok (.iadd, 1) := by decide +kernel
theorem dX5_say_38 : decode cX5_say 38 = .ok (.putfield 29, 3) := by decide +kernel
theorem dX5_say_41 : decode cX5_say 41 = .ok (.aload_n 0, 1) := by decide +kernel
theorem dX5_say_42 : decode cX5_say 42 = .ok (.getfield 29, 3) := by decide +kernel
theorem dX5_say_45 : decode cX5_say 45 = .ok (.sipush 2000, 3) := by decide +kernel
theorem dX5_say_48 : decode cX5_say 48 = .ok (.if_icmp .le 6, 3) := by decide +kernel
theorem dX5_say_51 : decode cX5_say 51 = .ok (.bipush (-5), 2) := by decide +kernel
theorem dX5_say_53 : decode cX5_say 53 = .ok (.ireturn, 1) := by decide +kernel
theorem dX5_say_54 : decode cX5_say 54 = .ok (.aload_n 0, 1) := by decide +kernel
theorem dX5_say_55 : decode cX5_say 55 = .ok (.getfield 9, 3) := by decide +kernel
theorem dX5_say_58 : decode cX5_say 58 = .ok (.iload 4, 2) := by decide +kernel
theorem dX5_say_60 : decode cX5_say 60 = .ok (.iaload, 1) := by decide +kernel
theorem dX5_say_61 : decode cX5_say 61 = .ok (.iconst 4, 1) := by decide +kernel
theorem dX5_say_62 : decode cX5_say 62 = .ok (.if_icmp .ge 15, 3) := by decide +kernel
theorem dX5_say_65 : decode cX5_say 65 = .ok (.aload_n 0, 1) := by decide +kernel
theorem dX5_say_66 : decode cX5_say 66 = .ok (.aload_n 1, 1) := by decide +kernel
theorem dX5_say_67 : decode cX5_say 67 = .ok (.iload_n 2, 1) := by decide +kernel
theorem dX5_say_68 : decode cX5_say 68 = .ok (.iload_n 3, 1) := by decide +kernel
theorem dX5_say_69 : decode cX5_say 69 = .ok (.iload 4, 2) := by decide +kernel
theorem dX5_say_71 : decode cX5_say 71 = .ok (.invokevirtual 48, 3) := by decide +kernel
theorem dX5_say_74 : decode cX5_say 74 = .ok (.goto 14, 3) := by decide +kernel
theorem dX5_say_77 : decode cX5_say 77 = .ok (.aload_n 0, 1) := by decide +kernel
theorem dX5_say_78 : decode cX5_say 78 = .ok (.aload_n 1, 1) := by decide +kernel
theorem dX5_say_79 : decode cX5_say 79 = .ok (.iload_n 2, 1) := by decide +kernel
theorem dX5_say_80 : decode cX5_say 80 = .ok (.iload_n 3, 1) := by decide +kernel
theorem dX5_say_81 : decode cX5_say 81 = .ok (.iload 4, 2) := by decide +kernel
theorem dX5_say_83 : decode cX5_say 83 = .ok (.iload 5, 2) := by decide +kernel
theorem dX5_say_85 : decode cX5_say 85 = .ok (.invokevirtual 52, 3) := by decide +kernel
theorem dX5_say_88 : decode cX5_say 88 = .ok (.ireturn, 1) := by decide +kernel
theorem q49_0 : pm_V d 49 0 [.ref xn, l1, l2, l3, l4, l5] st S Q = pm_V d 49 1 [.ref xn, l1, l2, l3, l4, l5] (.ref xn :: st) S Q := pv_aload_n (pm_cdi rfl dX5_say_0) rfl
theorem q49_1 : pm_V d 49 1 [l0, l1, l2, l3, .int xi, l5] st S Q = pm_V d 49 3 [l0, l1, l2, l3, .int xi, l5] (.int xi :: st) S Q := pv_iload (pm_cdi rfl dX5_say_1) rfl
theorem q49_3 (hs : pm_sh S an = .inr 5) : pm_V (d + 1) 49 3 [l0, l1, l2, l3, l4, l5] [.int v0i, .ref an] S Q = pm_N d 45 [.ref an, .int v0i] S (fun r S' => pm_V (d + 1) 49 6 [l0, l1, l2, l3, l4, l5] (r.toList ++ []) S' Q) := pv_callV (as := [.int v0i]) (pm_cdi rfl dX5_say_3) (Or.inl (by decide +kernel)) (by decide +kernel) (show _ = _ from (by decide +kernel : 1 = pm_np 45)) rfl (Nat.le_of_ble_eq_true rfl) (cl := 5) (by decide +kernel) hs
theorem q49_6 : pm_V d 49 6 [l0, l1, l2, l3, l4, l5] (.int xi :: st) S Q = if xi = 0 then pm_V d 49 28 [l0, l1, l2, l3, l4, l5] st S Q else pm_V d 49 9 [l0, l1, l2, l3, l4, l5] st S Q := pv_if_eq (pm_cdi rfl dX5_say_6) rfl
theorem q49_9 : pm_V d 49 9 [l0, l1, l2, l3, l4, .int xi] st S Q = pm_V d 49 11 [l0, l1, l2, l3, l4, .int xi] (.int xi :: st) S Q := pv_iload (pm_cdi rfl dX5_say_9) rfl
theorem q49_11 : pm_V d 49 11 [l0, l1, l2, l3, l4, l5] st S Q = pm_V d 49 13 [l0, l1, l2, l3, l4, l5] (.int 20 :: st) S Q := pv_bipush (pm_cdi rfl dX5_say_11) (by decide +kernel)
theorem q49_13 : pm_V d 49 13 [l0, l1, l2, l3, l4, l5] (.int yi :: .int xi :: st) S Q = if xi < yi then pm_V d 49 16 [l0, l1, l2, l3, l4, l5] st S Q else pm_V d 49 28 [l0, l1, l2, l3, l4, l5] st S Q := pv_icmp_ge (pm_cdi rfl dX5_say_13) rfl
theorem q49_16 : pm_V d 49 16 [l0, .ref xn, l2, l3, l4, l5] st S Q = pm_V d 49 17 [l0, .ref xn, l2, l3, l4, l5] (.ref xn :: st) S Q := pv_aload_n (pm_cdi rfl dX5_say_16) rfl
theorem q49_16N : pm_V d 49 16 [l0, .null, l2, l3, l4, l5] st S Q = pm_V d 49 17 [l0, .null, l2, l3, l4, l5] (.null :: st) S Q := pv_aload_nN (pm_cdi rfl dX5_say_16) rfl
theorem q49_17 : pm_V d 49 17 [l0, l1, .int xi, l3, l4, l5] st S Q = pm_V d 49 18 [l0, l1, .int xi, l3, l4, l5] (.int xi :: st) S Q := pv_iload_n (pm_cdi rfl dX5_say_17) rfl
theorem q49_18 (hs : pm_sh S an = .inr 0) : pm_V (d + 1) 49 18 [l0, l1, l2, l3, l4, l5] [.int v0i, .ref an] S Q = pm_N d 5 [.ref an, .int v0i] S (fun r S' => pm_V (d + 1) 49 21 [l0, l1, l2, l3, l4, l5] (r.toList ++ []) S' Q) := pv_callV (as := [.int v0i]) (pm_cdi rfl dX5_say_18) (Or.inl (by decide +kernel)) (by decide +kernel) (show _ = _ from (by decide +kernel : 1 = pm_np 5)) rfl (Nat.le_of_ble_eq_true rfl) (cl := 0) (by decide +kernel) hs
theorem q49_21 : pm_V d 49 21 [l0, l1, l2, .int xi, l4, l5] st S Q = pm_V d 49 22 [l0, l1, l2, .int xi, l4, l5] (.int xi :: st) S Q := pv_iload_n (pm_cdi rfl dX5_say_21) rfl
theorem q49_22 (hs : pm_sh S an = .inr 3) : pm_V (d + 1) 49 22 [l0, l1, l2, l3, l4, l5] [.int v0i, .ref an] S Q = pm_N d 20 [.ref an, .int v0i] S (fun r S' => pm_V (d + 1) 49 25 [l0, l1, l2, l3, l4, l5] (r.toList ++ []) S' Q) := pv_callV (as := [.int v0i]) (pm_cdi rfl dX5_say_22) (Or.inl (by decide +kernel)) (by decide +kernel) (show _ = _ from (by decide +kernel : 1 = pm_np 20)) rfl (Nat.le_of_ble_eq_true rfl) (cl := 3) (by decide +kernel) hs
theorem q49_25 : pm_V d 49 25 [l0, l1, l2, l3, l4, l5] (.int xi :: st) S Q = if xi = 0 then pm_V d 49 28 [l0, l1, l2, l3, l4, l5] st S Q else pm_V d 49 31 [l0, l1, l2, l3, l4, l5] st S Q := pv_if_ne (pm_cdi rfl dX5_say_25) rfl
theorem q49_28 : pm_V d 49 28 [l0, l1, l2, l3, l4, l5] st S Q = pm_V d 49 30 [l0, l1, l2, l3, l4, l5] (.int (-5) :: st) S Q := pv_bipush (pm_cdi rfl dX5_say_28) (by decide +kernel)
theorem q49_30 : pm_V d 49 30 [l0, l1, l2, l3, l4, l5] [.int xi] S Q = Q (some (.int xi)) S := pv_rI (pm_cdi rfl dX5_say_30) (by decide +kernel)
theorem q49_31 : pm_V d 49 31 [.ref xn, l1, l2, l3, l4, l5] st S Q = pm_V d 49 32 [.ref xn, l1, l2, l3, l4, l5] (.ref xn :: st) S Q := pv_aload_n (pm_cdi rfl dX5_say_31) rfl
theorem q49_32 : pm_V d 49 32 [l0, l1, l2, l3, l4, l5] (.ref xn :: st) S Q = pm_V d 49 33 [l0, l1, l2, l3, l4, l5] (.ref xn :: .ref xn :: st) S Q := pv_dupA (pm_cdi rfl dX5_say_32)
theorem q49_33 (hs : pm_sh S an = .inr 5) : pm_V d 49 33 [l0, l1, l2, l3, l4, l5] (.ref an :: st) S Q = pm_V d 49 36 [l0, l1, l2, l3, l4, l5] (.int (pm_gi S an 5) :: st) S Q := pv_getI (pm_cdi rfl dX5_say_33) (by decide +kernel) (by decide +kernel) (by decide +kernel) hs
theorem q49_36 : pm_V d 49 36 [l0, l1, l2, l3, l4, l5] st S Q = pm_V d 49 37 [l0, l1, l2, l3, l4, l5] (.int 1 :: st) S Q := pv_iconst (pm_cdi rfl dX5_say_36) (by decide +kernel)
theorem q49_37 : pm_V d 49 37 [l0, l1, l2, l3, l4, l5] (.int yi :: .int xi :: st) S Q = pm_V d 49 38 [l0, l1, l2, l3, l4, l5] (.int (xi + yi) :: st) S Q := pv_iadd (pm_cdi rfl dX5_say_37)
theorem q49_38 (hs : pm_sh S an = .inr 5) : pm_V d 49 38 [l0, l1, l2, l3, l4, l5] (.int xi :: .ref an :: st) S Q = pm_V d 49 41 [l0, l1, l2, l3, l4, l5] st (pm_sgi S an 5 xi) Q := pv_putI (pm_cdi rfl dX5_say_38) (by decide +kernel) (by decide +kernel) (by decide +kernel) hs
theorem q49_41 : pm_V d 49 41 [.ref xn, l1, l2, l3, l4, l5] st S Q = pm_V d 49 42 [.ref xn, l1, l2, l3, l4, l5] (.ref xn :: st) S Q := pv_aload_n (pm_cdi rfl dX5_say_41) rfl
theorem q49_42 (hs : pm_sh S an = .inr 5) : pm_V d 49 42 [l0, l1, l2, l3, l4, l5] (.ref an :: st) S Q = pm_V d 49 45 [l0, l1, l2, l3, l4, l5] (.int (pm_gi S an 5) :: st) S Q := pv_getI (pm_cdi rfl dX5_say_42) (by decide +kernel) (by decide +kernel) (by decide +kernel) hs
theorem q49_45 : pm_V d 49 45 [l0, l1, l2, l3, l4, l5] st S Q = pm_V d 49 48 [l0, l1, l2, l3, l4, l5] (.int 2000 :: st) S Q := pv_sipush (pm_cdi rfl dX5_say_45) (by decide +kernel)
theorem q49_48 : pm_V d 49 48 [l0, l1, l2, l3, l4, l5] (.int yi :: .int xi :: st) S Q = if xi ≤ yi then pm_V d 49 54 [l0, l1, l2, l3, l4, l5] st S Q else pm_V d 49 51 [l0, l1, l2, l3, l4, l5] st S Q := pv_icmp_le (pm_cdi rfl dX5_say_48) rfl
theorem q49_51 : pm_V d 49 51 [l0, l1, l2, l3, l4, l5] st S Q = pm_V d 49 53 [l0, l1, l2, l3, l4, l5] (.int (-5) :: st) S Q := pv_bipush (pm_cdi rfl dX5_say_51) (by decide +kernel)
theorem q49_53 : pm_V d 49 53 [l0, l1, l2, l3, l4, l5] [.int xi] S Q = Q (some (.int xi)) S := pv_rI (pm_cdi rfl dX5_say_53) (by decide +kernel)
theorem q49_54 : pm_V d 49 54 [.ref xn, l1, l2, l3, l4, l5] st S Q = pm_V d 49 55 [.ref xn, l1, l2, l3, l4, l5] (.ref xn :: st) S Q := pv_aload_n (pm_cdi rfl dX5_say_54) rfl
theorem q49_55 (hs : pm_sh S an = .inr 5) : pm_V d 49 55 [l0, l1, l2, l3, l4, l5] (.ref an :: st) S Q = pm_V d 49 58 [l0, l1, l2, l3, l4, l5] (va_rf (pm_gr S an 0) :: st) S Q := pv_getA (pm_cdi rfl dX5_say_55) (by decide +kernel) (by decide +kernel) (by decide +kernel) hs
theorem q49_58 : pm_V d 49 58 [l0, l1, l2, l3, .int xi, l5] st S Q = pm_V d 49 60 [l0, l1, l2, l3, .int xi, l5] (.int xi :: st) S Q := pv_iload (pm_cdi rfl dX5_say_58) rfl
theorem q49_60 (hs : pm_ar S an 0 xi = true) : pm_V d 49 60 [l0, l1, l2, l3, l4, l5] (.int xi :: .ref an :: st) S Q = pm_V d 49 61 [l0, l1, l2, l3, l4, l5] (.int (pm_zi S an xi.toNatClampNeg) :: st) S Q := pv_iald (pm_cdi rfl dX5_say_60) hs
theorem q49_61 : pm_V d 49 61 [l0, l1, l2, l3, l4, l5] st S Q = pm_V d 49 62 [l0, l1, l2, l3, l4, l5] (.int 4 :: st) S Q := pv_iconst (pm_cdi rfl dX5_say_61) (by decide +kernel)
theorem q49_62 : pm_V d 49 62 [l0, l1, l2, l3, l4, l5] (.int yi :: .int xi :: st) S Q = if xi < yi then pm_V d 49 65 [l0, l1, l2, l3, l4, l5] st S Q else pm_V d 49 77 [l0, l1, l2, l3, l4, l5] st S Q := pv_icmp_ge (pm_cdi rfl dX5_say_62) rfl
theorem q49_65 : pm_V d 49 65 [.ref xn, l1, l2, l3, l4, l5] st S Q = pm_V d 49 66 [.ref xn, l1, l2, l3, l4, l5] (.ref xn :: st) S Q := pv_aload_n (pm_cdi rfl dX5_say_65) rfl
theorem q49_66 : pm_V d 49 66 [l0, .ref xn, l2, l3, l4, l5] st S Q = pm_V d 49 67 [l0, .ref xn, l2, l3, l4, l5] (.ref xn :: st) S Q := pv_aload_n (pm_cdi rfl dX5_say_66) rfl
theorem q49_66N : pm_V d 49 66 [l0, .null, l2, l3, l4, l5] st S Q = pm_V d 49 67 [l0, .null, l2, l3, l4, l5] (.null :: st) S Q := pv_aload_nN (pm_cdi rfl dX5_say_66) rfl
theorem q49_67 : pm_V d 49 67 [l0, l1, .int xi, l3, l4, l5] st S Q = pm_V d 49 68 [l0, l1, .int xi, l3, l4, l5] (.int xi :: st) S Q := pv_iload_n (pm_cdi rfl dX5_say_67) rfl
theorem q49_68 : pm_V d 49 68 [l0, l1, l2, .int xi, l4, l5] st S Q = pm_V d 49 69 [l0, l1, l2, .int xi, l4, l5] (.int xi :: st) S Q := pv_iload_n (pm_cdi rfl dX5_say_68) rfl
theorem q49_69 : pm_V d 49 69 [l0, l1, l2, l3, .int xi, l5] st S Q = pm_V d 49 71 [l0, l1, l2, l3, .int xi, l5] (.int xi :: st) S Q := pv_iload (pm_cdi rfl dX5_say_69) rfl
theorem q49_71 (hs : pm_sh S an = .inr 5) : pm_V (d + 1) 49 71 [l0, l1, l2, l3, l4, l5] [.int v3i, .int v2i, .int v1i, v0v, .ref an] S Q = pm_N d 50 [.ref an, v0v, .int v1i, .int v2i, .int v3i] S (fun r S' => pm_V (d + 1) 49 74 [l0, l1, l2, l3, l4, l5] (r.toList ++ []) S' Q) := pv_callV (as := [v0v, .int v1i, .int v2i, .int v3i]) (pm_cdi rfl dX5_say_71) (Or.inl (by decide +kernel)) (by decide +kernel) (show _ = _ from (by decide +kernel : 4 = pm_np 50)) rfl (Nat.le_of_ble_eq_true rfl) (cl := 5) (by decide +kernel) hs
theorem q49_74 : pm_V d 49 74 [l0, l1, l2, l3, l4, l5] st S Q = pm_V d 49 88 [l0, l1, l2, l3, l4, l5] st S Q := pv_goto (pm_cdi rfl dX5_say_74) rfl
theorem q49_77 : pm_V d 49 77 [.ref xn, l1, l2, l3, l4, l5] st S Q = pm_V d 49 78 [.ref xn, l1, l2, l3, l4, l5] (.ref xn :: st) S Q := pv_aload_n (pm_cdi rfl dX5_say_77) rfl
theorem q49_78 : pm_V d 49 78 [l0, .ref xn, l2, l3, l4, l5] st S Q = pm_V d 49 79 [l0, .ref xn, l2, l3, l4, l5] (.ref xn :: st) S Q := pv_aload_n (pm_cdi rfl dX5_say_78) rfl
theorem q49_78N : pm_V d 49 78 [l0, .null, l2, l3, l4, l5] st S Q = pm_V d 49 79 [l0, .null, l2, l3, l4, l5] (.null :: st) S Q := pv_aload_nN (pm_cdi rfl dX5_say_78) rfl
theorem q49_79 : pm_V d 49 79 [l0, l1, .int xi, l3, l4, l5] st S Q = pm_V d 49 80 [l0, l1, .int xi, l3, l4, l5] (.int xi :: st) S Q := pv_iload_n (pm_cdi rfl dX5_say_79) rfl
theorem q49_80 : pm_V d 49 80 [l0, l1, l2, .int xi, l4, l5] st S Q = pm_V d 49 81 [l0, l1, l2, .int xi, l4, l5] (.int xi :: st) S Q := pv_iload_n (pm_cdi rfl dX5_say_80) rfl
theorem q49_81 : pm_V d 49 81 [l0, l1, l2, l3, .int xi, l5] st S Q = pm_V d 49 83 [l0, l1, l2, l3, .int xi, l5] (.int xi :: st) S Q := pv_iload (pm_cdi rfl dX5_say_81) rfl
theorem q49_83 : pm_V d 49 83 [l0, l1, l2, l3, l4, .int xi] st S Q = pm_V d 49 85 [l0, l1, l2, l3, l4, .int xi] (.int xi :: st) S Q := pv_iload (pm_cdi rfl dX5_say_83) rfl
theorem q49_85 (hs : pm_sh S an = .inr 5) : pm_V (d + 1) 49 85 [l0, l1, l2, l3, l4, l5] [.int v4i, .int v3i, .int v2i, .int v1i, v0v, .ref an] S Q = pm_N d 51 [.ref an, v0v, .int v1i, .int v2i, .int v3i, .int v4i] S (fun r S' => pm_V (d + 1) 49 88 [l0, l1, l2, l3, l4, l5] (r.toList ++ []) S' Q) := pv_callV (as := [v0v, .int v1i, .int v2i, .int v3i, .int v4i]) (pm_cdi rfl dX5_say_85) (Or.inl (by decide +kernel)) (by decide +kernel) (show _ = _ from (by decide +kernel : 5 = pm_np 51)) rfl (Nat.le_of_ble_eq_true rfl) (cl := 5) (by decide +kernel) hs
theorem q49_88 : pm_V d 49 88 [l0, l1, l2, l3, l4, l5] [.int xi] S Q = Q (some (.int xi)) S := pv_rI (pm_cdi rfl dX5_say_88) (by decide +kernel)
theorem q49_e : pm_N d 49 [.ref an, .ref v0n, .int v1i, .int v2i, .int v3i, .int v4i] S Q = pm_V d 49 0 [.ref an, .ref v0n, .int v1i, .int v2i, .int v3i, .int v4i] [] S Q := pv_ent (Nat.le_of_ble_eq_true rfl) rfl
/-! 50: ViewsJoins$Tests.sayOfItem(LViewsJoins$Graph;III)I -/
theorem dX5_sayOfItem_0 : decode cX5_sayOfItem 0 = .ok (.aload_n 1, 1) := by decide +kernel
theorem dX5_sayOfItem_1 : decode cX5_sayOfItem 1 = .ok (.iload_n 2, 1) := by decide +kernel
theorem dX5_sayOfItem_2 : decode cX5_sayOfItem 2 = .ok (.invokevirtual 39, 3) := by decide +kernel
theorem dX5_sayOfItem_5 : decode cX5_sayOfItem 5 = .ok (.getfield 56, 3) := by decide +kernel
theorem dX5_sayOfItem_8 : decode cX5_sayOfItem 8 = .ok (.iload_n 3, 1) := by decide +kernel
theorem dX5_sayOfItem_9 : decode cX5_sayOfItem 9 = .ok (.laload, 1) := by decide +kernel
theorem dX5_sayOfItem_10 : decode cX5_sayOfItem 10 = .ok (.lstore 5, 2) := by decide +kernel
theorem dX5_sayOfItem_12 : decode cX5_sayOfItem 12 = .ok (.aload_n 0, 1) := by decide +kernel
theorem dX5_sayOfItem_13 : decode cX5_sayOfItem 13 = .ok (.getfield 15, 3) := by decide +kernel
theorem dX5_sayOfItem_16 : decode cX5_sayOfItem 16 = .ok (.iload 4, 2) := by decide +kernel
theorem dX5_sayOfItem_18 : decode cX5_sayOfItem 18 = .ok (.laload, 1) := by decide +kernel
theorem dX5_sayOfItem_19 : decode cX5_sayOfItem 19 = .ok (.lstore 7, 2) := by decide +kernel
theorem dX5_sayOfItem_21 : decode cX5_sayOfItem 21 = .ok (.aload_n 0, 1) := by decide +kernel
theorem dX5_sayOfItem_22 : decode cX5_sayOfItem 22 = .ok (.getfield 9, 3) := by decide +kernel
theorem dX5_sayOfItem_25 : decode cX5_sayOfItem 25 = .ok (.iload 4, 2) := by decide +kernel
theorem dX5_sayOfItem_27 : decode cX5_sayOfItem 27 = .ok (.iaload, 1) := by decide +kernel
theorem dX5_sayOfItem_28 : decode cX5_sayOfItem 28 = .ok (.tableswitch 124 0 2 #[28, 45, 79], 28) := by decide +kernel
theorem dX5_sayOfItem_56 : decode cX5_sayOfItem 56 = .ok (.lload 5, 2) := by decide +kernel
theorem dX5_sayOfItem_58 : decode cX5_sayOfItem 58 = .ok (.lload 7, 2) := by decide +kernel
theorem dX5_sayOfItem_60 : decode cX5_sayOfItem 60 = .ok (.lcmp, 1) := by decide +kernel
theorem dX5_sayOfItem_61 : decode cX5_sayOfItem 61 = .ok (.ifCond .le 7, 3) := by decide +kernel
theorem dX5_sayOfItem_64 : decode cX5_sayOfItem 64 = .ok (.iconst 1, 1) := by decide +kernel
theorem dX5_sayOfItem_65 : decode cX5_sayOfItem 65 = .ok (.goto 4, 3) := by decide +kernel
theorem dX5_sayOfItem_68 : decode cX5_sayOfItem 68 = .ok (.iconst 0, 1) := by decide +kernel
theorem dX5_sayOfItem_69 : decode cX5_sayOfItem 69 = .ok (.invokestatic 59, 3) := by decide +kernel
theorem dX5_sayOfItem_72 : decode cX5_sayOfItem 72 = .ok (.ireturn, 1) := by decide +kernel
theorem dX5_sayOfItem_73 : decode cX5_sayOfItem 73 = .ok (.lload 5, 2) := by decide +kernel
theorem dX5_sayOfItem_75 : decode cX5_sayOfItem 75 = .ok (.lconst 0, 1) := by decide +kernel
theorem dX5_sayOfItem_76 : decode cX5_sayOfItem 76 = .ok (.lcmp, 1) := by decide +kernel
theorem dX5_sayOfItem_77 : decode cX5_sayOfItem 77 = .ok (.ifCond .ne 11, 3) := by decide +kernel
theorem dX5_sayOfItem_80 : decode cX5_sayOfItem 80 = .ok (.aload_n 0, 1) := by decide +kernel
theorem dX5_sayOfItem_81 : decode cX5_sayOfItem 81 = .ok (.iconst 1, 1) := by decide +kernel
theorem dX5_sayOfItem_82 : decode cX5_sayOfItem 82 = .ok (.invokevirtual 63, 3) := by decide +kernel
theorem dX5_sayOfItem_85 : decode cX5_sayOfItem 85 = .ok (.goto 21, 3) := by decide +kernel
theorem dX5_sayOfItem_88 : decode cX5_sayOfItem 88 = .ok (.lload 7, 2) := by decide +kernel
theorem dX5_sayOfItem_90 : decode cX5_sayOfItem 90 = .ok (.lload 5, 2) := by decide +kernel
theorem dX5_sayOfItem_92 : decode cX5_sayOfItem 92 = .ok (.lrem, 1) := by decide +kernel
theorem dX5_sayOfItem_93 : decode cX5_sayOfItem 93 = .ok (.lconst 0, 1) := by decide +kernel
theorem dX5_sayOfItem_94 : decode cX5_sayOfItem 94 = .ok (.lcmp, 1) := by decide +kernel
theorem dX5_sayOfItem_95 : decode cX5_sayOfItem 95 = .ok (.ifCond .ne 7, 3) := by decide +kernel
theorem dX5_sayOfItem_98 : decode cX5_sayOfItem 98 = .ok (.iconst 1, 1) := by decide +kernel
theorem dX5_sayOfItem_99 : decode cX5_sayOfItem 99 = .ok (.goto 4, 3) := by decide +kernel
theorem dX5_sayOfItem_102 : decode cX5_sayOfItem 102 = .ok (.iconst 0, 1) := by decide +kernel
theorem dX5_sayOfItem_103 : decode cX5_sayOfItem 103 = .ok (.invokestatic 59, 3) := by decide +kernel
theorem dX5_sayOfItem_106 : decode cX5_sayOfItem 106 = .ok (.ireturn, 1) := by decide +kernel
theorem dX5_sayOfItem_107 : decode cX5_sayOfItem 107 = .ok (.lload 5, 2) := by decide +kernel
theorem dX5_sayOfItem_109 : decode cX5_sayOfItem 109 = .ok (.l2i, 1) := by decide +kernel
theorem dX5_sayOfItem_110 : decode cX5_sayOfItem 110 = .ok (.istore 9, 2) := by decide +kernel
theorem dX5_sayOfItem_112 : decode cX5_sayOfItem 112 = .ok (.iload 9, 2) := by decide +kernel
theorem dX5_sayOfItem_114 : decode cX5_sayOfItem 114 = .ok (.ifCond .lt 9, 3) := by decide +kernel
theorem dX5_sayOfItem_117 : decode cX5_sayOfItem 117 = .ok (.iload 9, 2) := by decide +kernel
theorem dX5_sayOfItem_119 : decode cX5_sayOfItem 119 = .ok (.iconst 3, 1) := by decide +kernel
theorem dX5_sayOfItem_120 : decode cX5_sayOfItem 120 = .ok (.if_icmp .le 11, 3) := by decide +kernel
theorem dX5_sayOfItem_123 : decode cX5_sayOfItem 123 = .ok (.aload_n 0, 1) := by decide +kernel
theorem dX5_sayOfItem_124 : decode cX5_sayOfItem 124 = .ok (.iconst 2, 1) := by decide +kernel
theorem dX5_sayOfItem_125 : decode cX5_sayOfItem 125 = .ok (.invokevirtual 63, 3) := by decide +kernel
theorem dX5_sayOfItem_128 : decode cX5_sayOfItem 128 = .ok (.goto 23, 3) := by decide +kernel
theorem dX5_sayOfItem_131 : decode cX5_sayOfItem 131 = .ok (.lload 7, 2) := by decide +kernel
theorem dX5_sayOfItem_133 : decode cX5_sayOfItem 133 = .ok (.iload 9, 2) := by decide +kernel
theorem dX5_sayOfItem_135 : decode cX5_sayOfItem 135 = .ok (.lushr, 1) := by decide +kernel
theorem dX5_sayOfItem_136 : decode cX5_sayOfItem 136 = .ok (.lconst 1, 1) := by decide +kernel
theorem dX5_sayOfItem_137 : decode cX5_sayOfItem 137 = .ok (.land, 1) := by decide +kernel
theorem dX5_sayOfItem_138 : decode cX5_sayOfItem 138 = .ok (.lconst 1, 1) := by decide +kernel
theorem dX5_sayOfItem_139 : decode cX5_sayOfItem 139 = .ok (.lcmp, 1) := by decide +kernel
theorem dX5_sayOfItem_140 : decode cX5_sayOfItem 140 = .ok (.ifCond .ne 7, 3) := by decide +kernel
theorem dX5_sayOfItem_143 : decode cX5_sayOfItem 143 = .ok (.iconst 1, 1) := by decide +kernel
theorem dX5_sayOfItem_144 : decode cX5_sayOfItem 144 = .ok (.goto 4, 3) := by decide +kernel
theorem dX5_sayOfItem_147 : decode cX5_sayOfItem 147 = .ok (.iconst 0, 1) := by decide +kernel
theorem dX5_sayOfItem_148 : decode cX5_sayOfItem 148 = .ok (.invokestatic 59, 3) := by decide +kernel
theorem dX5_sayOfItem_151 : decode cX5_sayOfItem 151 = .ok (.ireturn, 1) := by decide +kernel
theorem dX5_sayOfItem_152 : decode cX5_sayOfItem 152 = .ok (.iload_n 2, 1) := by decide +kernel
theorem dX5_sayOfItem_153 : decode cX5_sayOfItem 153 = .ok (.ifCond .ne 11, 3) := by decide +kernel
theorem dX5_sayOfItem_156 : decode cX5_sayOfItem 156 = .ok (.aload_n 1, 1) := by decide +kernel
theorem dX5_sayOfItem_157 : decode cX5_sayOfItem 157 = .ok (.iload_n 3, 1) := by decide +kernel
theorem dX5_sayOfItem_158 : decode cX5_sayOfItem 158 = .ok (.invokevirtual 67, 3) := by decide +kernel
theorem dX5_sayOfItem_161 : decode cX5_sayOfItem 161 = .ok (.goto 8, 3) := by decide +kernel
theorem dX5_sayOfItem_164 : decode cX5_sayOfItem 164 = .ok (.aload_n 1, 1) := by decide +kernel
theorem dX5_sayOfItem_165 : decode cX5_sayOfItem 165 = .ok (.iload_n 3, 1) := by decide +kernel
theorem dX5_sayOfItem_166 : decode cX5_sayOfItem 166 = .ok (.invokevirtual 70, 3) := by decide +kernel
theorem dX5_sayOfItem_169 : decode cX5_sayOfItem 169 = .ok (.i2l, 1) := by decide +kernel
theorem dX5_sayOfItem_170 : decode cX5_sayOfItem 170 = .ok (.lload 7, 2) := by decide +kernel
theorem dX5_sayOfItem_172 : decode cX5_sayOfItem 172 = .ok (.lcmp, 1) := by decide +kernel
theorem dX5_sayOfItem_173 : decode cX5_sayOfItem 173 = .ok (.ifCond .lt 7, 3) := by decide +kernel
theorem dX5_sayOfItem_176 : decode cX5_sayOfItem 176 = .ok (.iconst 1, 1) := by decide +kernel
theorem dX5_sayOfItem_177 : decode cX5_sayOfItem 177 = .ok (.goto 4, 3) := by decide +kernel
theorem dX5_sayOfItem_180 : decode cX5_sayOfItem 180 = .ok (.iconst 0, 1) := by decide +kernel
theorem dX5_sayOfItem_181 : decode cX5_sayOfItem 181 = .ok (.invokestatic 59, 3) := by decide +kernel
theorem dX5_sayOfItem_184 : decode cX5_sayOfItem 184 = .ok (.ireturn, 1) := by decide +kernel
theorem q50_0 : pm_V d 50 0 [l0, .ref xn, l2, l3, l4, l5, l6, l7, l8, l9] st S Q = pm_V d 50 1 [l0, .ref xn, l2, l3, l4, l5, l6, l7, l8, l9] (.ref xn :: st) S Q := pv_aload_n (pm_cdi rfl dX5_sayOfItem_0) rfl
theorem q50_0N : pm_V d 50 0 [l0, .null, l2, l3, l4, l5, l6, l7, l8, l9] st S Q = pm_V d 50 1 [l0, .null, l2, l3, l4, l5, l6, l7, l8, l9] (.null :: st) S Q := pv_aload_nN (pm_cdi rfl dX5_sayOfItem_0) rfl
theorem q50_1 : pm_V d 50 1 [l0, l1, .int xi, l3, l4, l5, l6, l7, l8, l9] st S Q = pm_V d 50 2 [l0, l1, .int xi, l3, l4, l5, l6, l7, l8, l9] (.int xi :: st) S Q := pv_iload_n (pm_cdi rfl dX5_sayOfItem_1) rfl
theorem q50_2 (hs : pm_sh S an = .inr 0) : pm_V (d + 1) 50 2 [l0, l1, l2, l3, l4, l5, l6, l7, l8, l9] [.int v0i, .ref an] S Q = pm_N d 5 [.ref an, .int v0i] S (fun r S' => pm_V (d + 1) 50 5 [l0, l1, l2, l3, l4, l5, l6, l7, l8, l9] (r.toList ++ []) S' Q) := pv_callV (as := [.int v0i]) (pm_cdi rfl dX5_sayOfItem_2) (Or.inl (by decide +kernel)) (by decide +kernel) (show _ = _ from (by decide +kernel : 1 = pm_np 5)) rfl (Nat.le_of_ble_eq_true rfl) (cl := 0) (by decide +kernel) hs
theorem q50_5 (hs : pm_sh S an = .inr 3) : pm_V d 50 5 [l0, l1, l2, l3, l4, l5, l6, l7, l8, l9] (.ref an :: st) S Q = pm_V d 50 8 [l0, l1, l2, l3, l4, l5, l6, l7, l8, l9] (va_rf (pm_gr S an 0) :: st) S Q := pv_getA (pm_cdi rfl dX5_sayOfItem_5) (by decide +kernel) (by decide +kernel) (by decide +kernel) hs
theorem q50_8 : pm_V d 50 8 [l0, l1, l2, .int xi, l4, l5, l6, l7, l8, l9] st S Q = pm_V d 50 9 [l0, l1, l2, .int xi, l4, l5, l6, l7, l8, l9] (.int xi :: st) S Q := pv_iload_n (pm_cdi rfl dX5_sayOfItem_8) rfl
theorem q50_9 (hs : pm_ar S an 1 xi = true) : pm_V d 50 9 [l0, l1, l2, l3, l4, l5, l6, l7, l8, l9] (.int xi :: .ref an :: st) S Q = pm_V d 50 10 [l0, l1, l2, l3, l4, l5, l6, l7, l8, l9] (.long (pm_zl S an xi.toNatClampNeg) :: st) S Q := pv_lald (pm_cdi rfl dX5_sayOfItem_9) hs
theorem q50_10 : pm_V d 50 10 [l0, l1, l2, l3, .int yi, l5, l6, l7, l8, l9] (.long xj :: st) S Q = pm_V d 50 12 [l0, l1, l2, l3, .int yi, .long xj, pm_j, l7, l8, l9] st S Q := pv_lstore (pm_cdi rfl dX5_sayOfItem_10) rfl
theorem q50_12 : pm_V d 50 12 [.ref xn, l1, l2, l3, l4, l5, l6, l7, l8, l9] st S Q = pm_V d 50 13 [.ref xn, l1, l2, l3, l4, l5, l6, l7, l8, l9] (.ref xn :: st) S Q := pv_aload_n (pm_cdi rfl dX5_sayOfItem_12) rfl
theorem q50_13 (hs : pm_sh S an = .inr 5) : pm_V d 50 13 [l0, l1, l2, l3, l4, l5, l6, l7, l8, l9] (.ref an :: st) S Q = pm_V d 50 16 [l0, l1, l2, l3, l4, l5, l6, l7, l8, l9] (va_rf (pm_gr S an 1) :: st) S Q := pv_getA (pm_cdi rfl dX5_sayOfItem_13) (by decide +kernel) (by decide +kernel) (by decide +kernel) hs
theorem q50_16 : pm_V d 50 16 [l0, l1, l2, l3, .int xi, l5, l6, l7, l8, l9] st S Q = pm_V d 50 18 [l0, l1, l2, l3, .int xi, l5, l6, l7, l8, l9] (.int xi :: st) S Q := pv_iload (pm_cdi rfl dX5_sayOfItem_16) rfl
theorem q50_18 (hs : pm_ar S an 1 xi = true) : pm_V d 50 18 [l0, l1, l2, l3, l4, l5, l6, l7, l8, l9] (.int xi :: .ref an :: st) S Q = pm_V d 50 19 [l0, l1, l2, l3, l4, l5, l6, l7, l8, l9] (.long (pm_zl S an xi.toNatClampNeg) :: st) S Q := pv_lald (pm_cdi rfl dX5_sayOfItem_18) hs
theorem q50_19 : pm_V d 50 19 [l0, l1, l2, l3, l4, l5, pm_j, l7, l8, l9] (.long xj :: st) S Q = pm_V d 50 21 [l0, l1, l2, l3, l4, l5, pm_j, .long xj, pm_j, l9] st S Q := pv_lstore (pm_cdi rfl dX5_sayOfItem_19) rfl
theorem q50_21 : pm_V d 50 21 [.ref xn, l1, l2, l3, l4, l5, l6, l7, l8, l9] st S Q = pm_V d 50 22 [.ref xn, l1, l2, l3, l4, l5, l6, l7, l8, l9] (.ref xn :: st) S Q := pv_aload_n (pm_cdi rfl dX5_sayOfItem_21) rfl
theorem q50_22 (hs : pm_sh S an = .inr 5) : pm_V d 50 22 [l0, l1, l2, l3, l4, l5, l6, l7, l8, l9] (.ref an :: st) S Q = pm_V d 50 25 [l0, l1, l2, l3, l4, l5, l6, l7, l8, l9] (va_rf (pm_gr S an 0) :: st) S Q := pv_getA (pm_cdi rfl dX5_sayOfItem_22) (by decide +kernel) (by decide +kernel) (by decide +kernel) hs
theorem q50_25 : pm_V d 50 25 [l0, l1, l2, l3, .int xi, l5, l6, l7, l8, l9] st S Q = pm_V d 50 27 [l0, l1, l2, l3, .int xi, l5, l6, l7, l8, l9] (.int xi :: st) S Q := pv_iload (pm_cdi rfl dX5_sayOfItem_25) rfl
theorem q50_27 (hs : pm_ar S an 0 xi = true) : pm_V d 50 27 [l0, l1, l2, l3, l4, l5, l6, l7, l8, l9] (.int xi :: .ref an :: st) S Q = pm_V d 50 28 [l0, l1, l2, l3, l4, l5, l6, l7, l8, l9] (.int (pm_zi S an xi.toNatClampNeg) :: st) S Q := pv_iald (pm_cdi rfl dX5_sayOfItem_27) hs
theorem q50_28 : pm_V d 50 28 [l0, l1, l2, l3, l4, l5, l6, l7, l8, l9] (.int xi :: st) S Q = pm_V d 50 (pm_tsw xi 0 [56, 73, 107] 152) [l0, l1, l2, l3, l4, l5, l6, l7, l8, l9] st S Q := pv_tsw (pm_cdi rfl dX5_sayOfItem_28) (by decide +kernel) rfl (by decide +kernel)
theorem q50_56 : pm_V d 50 56 [l0, l1, l2, l3, l4, .long xj, l6, l7, l8, l9] st S Q = pm_V d 50 58 [l0, l1, l2, l3, l4, .long xj, l6, l7, l8, l9] (.long xj :: st) S Q := pv_lload (pm_cdi rfl dX5_sayOfItem_56) rfl
theorem q50_58 : pm_V d 50 58 [l0, l1, l2, l3, l4, l5, l6, .long xj, l8, l9] st S Q = pm_V d 50 60 [l0, l1, l2, l3, l4, l5, l6, .long xj, l8, l9] (.long xj :: st) S Q := pv_lload (pm_cdi rfl dX5_sayOfItem_58) rfl
theorem q50_60 : pm_V d 50 60 [l0, l1, l2, l3, l4, l5, l6, l7, l8, l9] (.long yj :: .long xj :: st) S Q = pm_V d 50 61 [l0, l1, l2, l3, l4, l5, l6, l7, l8, l9] (.int (lg_cmp xj yj) :: st) S Q := pv_lcmp (pm_cdi rfl dX5_sayOfItem_60)
theorem q50_61 : pm_V d 50 61 [l0, l1, l2, l3, l4, l5, l6, l7, l8, l9] (.int xi :: st) S Q = if xi ≤ 0 then pm_V d 50 68 [l0, l1, l2, l3, l4, l5, l6, l7, l8, l9] st S Q else pm_V d 50 64 [l0, l1, l2, l3, l4, l5, l6, l7, l8, l9] st S Q := pv_if_le (pm_cdi rfl dX5_sayOfItem_61) rfl
theorem q50_64 : pm_V d 50 64 [l0, l1, l2, l3, l4, l5, l6, l7, l8, l9] st S Q = pm_V d 50 65 [l0, l1, l2, l3, l4, l5, l6, l7, l8, l9] (.int 1 :: st) S Q := pv_iconst (pm_cdi rfl dX5_sayOfItem_64) (by decide +kernel)
theorem q50_65 : pm_V d 50 65 [l0, l1, l2, l3, l4, l5, l6, l7, l8, l9] st S Q = pm_V d 50 69 [l0, l1, l2, l3, l4, l5, l6, l7, l8, l9] st S Q := pv_goto (pm_cdi rfl dX5_sayOfItem_65) rfl
theorem q50_68 : pm_V d 50 68 [l0, l1, l2, l3, l4, l5, l6, l7, l8, l9] st S Q = pm_V d 50 69 [l0, l1, l2, l3, l4, l5, l6, l7, l8, l9] (.int 0 :: st) S Q := pv_iconst (pm_cdi rfl dX5_sayOfItem_68) (by decide +kernel)
theorem q50_69 : pm_V (d + 1) 50 69 [l0, l1, l2, l3, l4, l5, l6, l7, l8, l9] [.int v0i] S Q = pm_N d 53 [.int v0i] S (fun r S' => pm_V (d + 1) 50 72 [l0, l1, l2, l3, l4, l5, l6, l7, l8, l9] (r.toList ++ []) S' Q) := pv_callS (as := [.int v0i]) (pm_cdi rfl dX5_sayOfItem_69) (by decide +kernel) (by decide +kernel) (show _ = _ from (by decide +kernel : 1 = pm_np 53)) rfl (Nat.le_of_ble_eq_true rfl)
theorem q50_72 : pm_V d 50 72 [l0, l1, l2, l3, l4, l5, l6, l7, l8, l9] [.int xi] S Q = Q (some (.int xi)) S := pv_rI (pm_cdi rfl dX5_sayOfItem_72) (by decide +kernel)
theorem q50_73 : pm_V d 50 73 [l0, l1, l2, l3, l4, .long xj, l6, l7, l8, l9] st S Q = pm_V d 50 75 [l0, l1, l2, l3, l4, .long xj, l6, l7, l8, l9] (.long xj :: st) S Q := pv_lload (pm_cdi rfl dX5_sayOfItem_73) rfl
theorem q50_75 : pm_V d 50 75 [l0, l1, l2, l3, l4, l5, l6, l7, l8, l9] st S Q = pm_V d 50 76 [l0, l1, l2, l3, l4, l5, l6, l7, l8, l9] (.long 0 :: st) S Q := pv_lconst (pm_cdi rfl dX5_sayOfItem_75) (by decide +kernel)
theorem q50_76 : pm_V d 50 76 [l0, l1, l2, l3, l4, l5, l6, l7, l8, l9] (.long yj :: .long xj :: st) S Q = pm_V d 50 77 [l0, l1, l2, l3, l4, l5, l6, l7, l8, l9] (.int (lg_cmp xj yj) :: st) S Q := pv_lcmp (pm_cdi rfl dX5_sayOfItem_76)
theorem q50_77 : pm_V d 50 77 [l0, l1, l2, l3, l4, l5, l6, l7, l8, l9] (.int xi :: st) S Q = if xi = 0 then pm_V d 50 80 [l0, l1, l2, l3, l4, l5, l6, l7, l8, l9] st S Q else pm_V d 50 88 [l0, l1, l2, l3, l4, l5, l6, l7, l8, l9] st S Q := pv_if_ne (pm_cdi rfl dX5_sayOfItem_77) rfl
theorem q50_80 : pm_V d 50 80 [.ref xn, l1, l2, l3, l4, l5, l6, l7, l8, l9] st S Q = pm_V d 50 81 [.ref xn, l1, l2, l3, l4, l5, l6, l7, l8, l9] (.ref xn :: st) S Q := pv_aload_n (pm_cdi rfl dX5_sayOfItem_80) rfl
theorem q50_81 : pm_V d 50 81 [l0, l1, l2, l3, l4, l5, l6, l7, l8, l9] st S Q = pm_V d 50 82 [l0, l1, l2, l3, l4, l5, l6, l7, l8, l9] (.int 1 :: st) S Q := pv_iconst (pm_cdi rfl dX5_sayOfItem_81) (by decide +kernel)
theorem q50_82 (hs : pm_sh S an = .inr 5) : pm_V (d + 1) 50 82 [l0, l1, l2, l3, l4, l5, l6, l7, l8, l9] [.int v0i, .ref an] S Q = pm_N d 54 [.ref an, .int v0i] S (fun r S' => pm_V (d + 1) 50 85 [l0, l1, l2, l3, l4, l5, l6, l7, l8, l9] (r.toList ++ []) S' Q) := pv_callV (as := [.int v0i]) (pm_cdi rfl dX5_sayOfItem_82) (Or.inl (by decide +kernel)) (by decide +kernel) (show _ = _ from (by decide +kernel : 1 = pm_np 54)) rfl (Nat.le_of_ble_eq_true rfl) (cl := 5) (by decide +kernel) hs
theorem q50_85 : pm_V d 50 85 [l0, l1, l2, l3, l4, l5, l6, l7, l8, l9] st S Q = pm_V d 50 106 [l0, l1, l2, l3, l4, l5, l6, l7, l8, l9] st S Q := pv_goto (pm_cdi rfl dX5_sayOfItem_85) rfl
theorem q50_88 : pm_V d 50 88 [l0, l1, l2, l3, l4, l5, l6, .long xj, l8, l9] st S Q = pm_V d 50 90 [l0, l1, l2, l3, l4, l5, l6, .long xj, l8, l9] (.long xj :: st) S Q := pv_lload (pm_cdi rfl dX5_sayOfItem_88) rfl
theorem q50_90 : pm_V d 50 90 [l0, l1, l2, l3, l4, .long xj, l6, l7, l8, l9] st S Q = pm_V d 50 92 [l0, l1, l2, l3, l4, .long xj, l6, l7, l8, l9] (.long xj :: st) S Q := pv_lload (pm_cdi rfl dX5_sayOfItem_90) rfl
theorem q50_92 (h0 : ¬ yj = 0) : pm_V d 50 92 [l0, l1, l2, l3, l4, l5, l6, l7, l8, l9] (.long yj :: .long xj :: st) S Q = pm_V d 50 93 [l0, l1, l2, l3, l4, l5, l6, l7, l8, l9] (.long (xj - xj / yj * yj) :: st) S Q := pv_lrem (pm_cdi rfl dX5_sayOfItem_92) h0
theorem q50_93 : pm_V d 50 93 [l0, l1, l2, l3, l4, l5, l6, l7, l8, l9] st S Q = pm_V d 50 94 [l0, l1, l2, l3, l4, l5, l6, l7, l8, l9] (.long 0 :: st) S Q := pv_lconst (pm_cdi rfl dX5_sayOfItem_93) (by decide +kernel)
theorem q50_94 : pm_V d 50 94 [l0, l1, l2, l3, l4, l5, l6, l7, l8, l9] (.long yj :: .long xj :: st) S Q = pm_V d 50 95 [l0, l1, l2, l3, l4, l5, l6, l7, l8, l9] (.int (lg_cmp xj yj) :: st) S Q := pv_lcmp (pm_cdi rfl dX5_sayOfItem_94)
theorem q50_95 : pm_V d 50 95 [l0, l1, l2, l3, l4, l5, l6, l7, l8, l9] (.int xi :: st) S Q = if xi = 0 then pm_V d 50 98 [l0, l1, l2, l3, l4, l5, l6, l7, l8, l9] st S Q else pm_V d 50 102 [l0, l1, l2, l3, l4, l5, l6, l7, l8, l9] st S Q := pv_if_ne (pm_cdi rfl dX5_sayOfItem_95) rfl
theorem q50_98 : pm_V d 50 98 [l0, l1, l2, l3, l4, l5, l6, l7, l8, l9] st S Q = pm_V d 50 99 [l0, l1, l2, l3, l4, l5, l6, l7, l8, l9] (.int 1 :: st) S Q := pv_iconst (pm_cdi rfl dX5_sayOfItem_98) (by decide +kernel)
theorem q50_99 : pm_V d 50 99 [l0, l1, l2, l3, l4, l5, l6, l7, l8, l9] st S Q = pm_V d 50 103 [l0, l1, l2, l3, l4, l5, l6, l7, l8, l9] st S Q := pv_goto (pm_cdi rfl dX5_sayOfItem_99) rfl
theorem q50_102 : pm_V d 50 102 [l0, l1, l2, l3, l4, l5, l6, l7, l8, l9] st S Q = pm_V d 50 103 [l0, l1, l2, l3, l4, l5, l6, l7, l8, l9] (.int 0 :: st) S Q := pv_iconst (pm_cdi rfl dX5_sayOfItem_102) (by decide +kernel)
theorem q50_103 : pm_V (d + 1) 50 103 [l0, l1, l2, l3, l4, l5, l6, l7, l8, l9] [.int v0i] S Q = pm_N d 53 [.int v0i] S (fun r S' => pm_V (d + 1) 50 106 [l0, l1, l2, l3, l4, l5, l6, l7, l8, l9] (r.toList ++ []) S' Q) := pv_callS (as := [.int v0i]) (pm_cdi rfl dX5_sayOfItem_103) (by decide +kernel) (by decide +kernel) (show _ = _ from (by decide +kernel : 1 = pm_np 53)) rfl (Nat.le_of_ble_eq_true rfl)
theorem q50_106 : pm_V d 50 106 [l0, l1, l2, l3, l4, l5, l6, l7, l8, l9] [.int xi] S Q = Q (some (.int xi)) S := pv_rI (pm_cdi rfl dX5_sayOfItem_106) (by decide +kernel)
theorem q50_107 : pm_V d 50 107 [l0, l1, l2, l3, l4, .long xj, l6, l7, l8, l9] st S Q = pm_V d 50 109 [l0, l1, l2, l3, l4, .long xj, l6, l7, l8, l9] (.long xj :: st) S Q := pv_lload (pm_cdi rfl dX5_sayOfItem_107) rfl
theorem q50_109 : pm_V d 50 109 [l0, l1, l2, l3, l4, l5, l6, l7, l8, l9] (.long xj :: st) S Q = pm_V d 50 110 [l0, l1, l2, l3, l4, l5, l6, l7, l8, l9] (.int xj.toInt32 :: st) S Q := pv_l2i (pm_cdi rfl dX5_sayOfItem_109)
theorem q50_110 : pm_V d 50 110 [l0, l1, l2, l3, l4, l5, l6, l7, pm_j, l9] (.int xi :: st) S Q = pm_V d 50 112 [l0, l1, l2, l3, l4, l5, l6, l7, pm_j, .int xi] st S Q := pv_istore (pm_cdi rfl dX5_sayOfItem_110) rfl
theorem q50_112 : pm_V d 50 112 [l0, l1, l2, l3, l4, l5, l6, l7, l8, .int xi] st S Q = pm_V d 50 114 [l0, l1, l2, l3, l4, l5, l6, l7, l8, .int xi] (.int xi :: st) S Q := pv_iload (pm_cdi rfl dX5_sayOfItem_112) rfl
theorem q50_114 : pm_V d 50 114 [l0, l1, l2, l3, l4, l5, l6, l7, l8, l9] (.int xi :: st) S Q = if xi < 0 then pm_V d 50 123 [l0, l1, l2, l3, l4, l5, l6, l7, l8, l9] st S Q else pm_V d 50 117 [l0, l1, l2, l3, l4, l5, l6, l7, l8, l9] st S Q := pv_if_lt (pm_cdi rfl dX5_sayOfItem_114) rfl
theorem q50_117 : pm_V d 50 117 [l0, l1, l2, l3, l4, l5, l6, l7, l8, .int xi] st S Q = pm_V d 50 119 [l0, l1, l2, l3, l4, l5, l6, l7, l8, .int xi] (.int xi :: st) S Q := pv_iload (pm_cdi rfl dX5_sayOfItem_117) rfl
theorem q50_119 : pm_V d 50 119 [l0, l1, l2, l3, l4, l5, l6, l7, l8, l9] st S Q = pm_V d 50 120 [l0, l1, l2, l3, l4, l5, l6, l7, l8, l9] (.int 3 :: st) S Q := pv_iconst (pm_cdi rfl dX5_sayOfItem_119) (by decide +kernel)
theorem q50_120 : pm_V d 50 120 [l0, l1, l2, l3, l4, l5, l6, l7, l8, l9] (.int yi :: .int xi :: st) S Q = if xi ≤ yi then pm_V d 50 131 [l0, l1, l2, l3, l4, l5, l6, l7, l8, l9] st S Q else pm_V d 50 123 [l0, l1, l2, l3, l4, l5, l6, l7, l8, l9] st S Q := pv_icmp_le (pm_cdi rfl dX5_sayOfItem_120) rfl
theorem q50_123 : pm_V d 50 123 [.ref xn, l1, l2, l3, l4, l5, l6, l7, l8, l9] st S Q = pm_V d 50 124 [.ref xn, l1, l2, l3, l4, l5, l6, l7, l8, l9] (.ref xn :: st) S Q := pv_aload_n (pm_cdi rfl dX5_sayOfItem_123) rfl
theorem q50_124 : pm_V d 50 124 [l0, l1, l2, l3, l4, l5, l6, l7, l8, l9] st S Q = pm_V d 50 125 [l0, l1, l2, l3, l4, l5, l6, l7, l8, l9] (.int 2 :: st) S Q := pv_iconst (pm_cdi rfl dX5_sayOfItem_124) (by decide +kernel)
theorem q50_125 (hs : pm_sh S an = .inr 5) : pm_V (d + 1) 50 125 [l0, l1, l2, l3, l4, l5, l6, l7, l8, l9] [.int v0i, .ref an] S Q = pm_N d 54 [.ref an, .int v0i] S (fun r S' => pm_V (d + 1) 50 128 [l0, l1, l2, l3, l4, l5, l6, l7, l8, l9] (r.toList ++ []) S' Q) := pv_callV (as := [.int v0i]) (pm_cdi rfl dX5_sayOfItem_125) (Or.inl (by decide +kernel)) (by decide +kernel) (show _ = _ from (by decide +kernel : 1 = pm_np 54)) rfl (Nat.le_of_ble_eq_true rfl) (cl := 5) (by decide +kernel) hs
theorem q50_128 : pm_V d 50 128 [l0, l1, l2, l3, l4, l5, l6, l7, l8, l9] st S Q = pm_V d 50 151 [l0, l1, l2, l3, l4, l5, l6, l7, l8, l9] st S Q := pv_goto (pm_cdi rfl dX5_sayOfItem_128) rfl
theorem q50_131 : pm_V d 50 131 [l0, l1, l2, l3, l4, l5, l6, .long xj, l8, l9] st S Q = pm_V d 50 133 [l0, l1, l2, l3, l4, l5, l6, .long xj, l8, l9] (.long xj :: st) S Q := pv_lload (pm_cdi rfl dX5_sayOfItem_131) rfl
theorem q50_133 : pm_V d 50 133 [l0, l1, l2, l3, l4, l5, l6, l7, l8, .int xi] st S Q = pm_V d 50 135 [l0, l1, l2, l3, l4, l5, l6, l7, l8, .int xi] (.int xi :: st) S Q := pv_iload (pm_cdi rfl dX5_sayOfItem_133) rfl
theorem q50_135 : pm_V d 50 135 [l0, l1, l2, l3, l4, l5, l6, l7, l8, l9] (.int yi :: .long xj :: st) S Q = pm_V d 50 136 [l0, l1, l2, l3, l4, l5, l6, l7, l8, l9] (.long ((xj.toUInt64 >>> (yi.toInt64.toUInt64 &&& Int64.toUInt64 63)).toInt64) :: st) S Q := pv_lushr (pm_cdi rfl dX5_sayOfItem_135)
theorem q50_136 : pm_V d 50 136 [l0, l1, l2, l3, l4, l5, l6, l7, l8, l9] st S Q = pm_V d 50 137 [l0, l1, l2, l3, l4, l5, l6, l7, l8, l9] (.long 1 :: st) S Q := pv_lconst (pm_cdi rfl dX5_sayOfItem_136) (by decide +kernel)
theorem q50_137 : pm_V d 50 137 [l0, l1, l2, l3, l4, l5, l6, l7, l8, l9] (.long yj :: .long xj :: st) S Q = pm_V d 50 138 [l0, l1, l2, l3, l4, l5, l6, l7, l8, l9] (.long (xj &&& yj) :: st) S Q := pv_land (pm_cdi rfl dX5_sayOfItem_137)
theorem q50_138 : pm_V d 50 138 [l0, l1, l2, l3, l4, l5, l6, l7, l8, l9] st S Q = pm_V d 50 139 [l0, l1, l2, l3, l4, l5, l6, l7, l8, l9] (.long 1 :: st) S Q := pv_lconst (pm_cdi rfl dX5_sayOfItem_138) (by decide +kernel)
theorem q50_139 : pm_V d 50 139 [l0, l1, l2, l3, l4, l5, l6, l7, l8, l9] (.long yj :: .long xj :: st) S Q = pm_V d 50 140 [l0, l1, l2, l3, l4, l5, l6, l7, l8, l9] (.int (lg_cmp xj yj) :: st) S Q := pv_lcmp (pm_cdi rfl dX5_sayOfItem_139)
theorem q50_140 : pm_V d 50 140 [l0, l1, l2, l3, l4, l5, l6, l7, l8, l9] (.int xi :: st) S Q = if xi = 0 then pm_V d 50 143 [l0, l1, l2, l3, l4, l5, l6, l7, l8, l9] st S Q else pm_V d 50 147 [l0, l1, l2, l3, l4, l5, l6, l7, l8, l9] st S Q := pv_if_ne (pm_cdi rfl dX5_sayOfItem_140) rfl
theorem q50_143 : pm_V d 50 143 [l0, l1, l2, l3, l4, l5, l6, l7, l8, l9] st S Q = pm_V d 50 144 [l0, l1, l2, l3, l4, l5, l6, l7, l8, l9] (.int 1 :: st) S Q := pv_iconst (pm_cdi rfl dX5_sayOfItem_143) (by decide +kernel)
theorem q50_144 : pm_V d 50 144 [l0, l1, l2, l3, l4, l5, l6, l7, l8, l9] st S Q = pm_V d 50 148 [l0, l1, l2, l3, l4, l5, l6, l7, l8, l9] st S Q := pv_goto (pm_cdi rfl dX5_sayOfItem_144) rfl
theorem q50_147 : pm_V d 50 147 [l0, l1, l2, l3, l4, l5, l6, l7, l8, l9] st S Q = pm_V d 50 148 [l0, l1, l2, l3, l4, l5, l6, l7, l8, l9] (.int 0 :: st) S Q := pv_iconst (pm_cdi rfl dX5_sayOfItem_147) (by decide +kernel)
theorem q50_148 : pm_V (d + 1) 50 148 [l0, l1, l2, l3, l4, l5, l6, l7, l8, l9] [.int v0i] S Q = pm_N d 53 [.int v0i] S (fun r S' => pm_V (d + 1) 50 151 [l0, l1, l2, l3, l4, l5, l6, l7, l8, l9] (r.toList ++ []) S' Q) := pv_callS (as := [.int v0i]) (pm_cdi rfl dX5_sayOfItem_148) (by decide +kernel) (by decide +kernel) (show _ = _ from (by decide +kernel : 1 = pm_np 53)) rfl (Nat.le_of_ble_eq_true rfl)
theorem q50_151 : pm_V d 50 151 [l0, l1, l2, l3, l4, l5, l6, l7, l8, l9] [.int xi] S Q = Q (some (.int xi)) S := pv_rI (pm_cdi rfl dX5_sayOfItem_151) (by decide +kernel)
theorem q50_152 : pm_V d 50 152 [l0, l1, .int xi, l3, l4, l5, l6, l7, l8, l9] st S Q = pm_V d 50 153 [l0, l1, .int xi, l3, l4, l5, l6, l7, l8, l9] (.int xi :: st) S Q := pv_iload_n (pm_cdi rfl dX5_sayOfItem_152) rfl
theorem q50_153 : pm_V d 50 153 [l0, l1, l2, l3, l4, l5, l6, l7, l8, l9] (.int xi :: st) S Q = if xi = 0 then pm_V d 50 156 [l0, l1, l2, l3, l4, l5, l6, l7, l8, l9] st S Q else pm_V d 50 164 [l0, l1, l2, l3, l4, l5, l6, l7, l8, l9] st S Q := pv_if_ne (pm_cdi rfl dX5_sayOfItem_153) rfl
theorem q50_156 : pm_V d 50 156 [l0, .ref xn, l2, l3, l4, l5, l6, l7, l8, l9] st S Q = pm_V d 50 157 [l0, .ref xn, l2, l3, l4, l5, l6, l7, l8, l9] (.ref xn :: st) S Q := pv_aload_n (pm_cdi rfl dX5_sayOfItem_156) rfl
theorem q50_156N : pm_V d 50 156 [l0, .null, l2, l3, l4, l5, l6, l7, l8, l9] st S Q = pm_V d 50 157 [l0, .null, l2, l3, l4, l5, l6, l7, l8, l9] (.null :: st) S Q := pv_aload_nN (pm_cdi rfl dX5_sayOfItem_156) rfl
theorem q50_157 : pm_V d 50 157 [l0, l1, l2, .int xi, l4, l5, l6, l7, l8, l9] st S Q = pm_V d 50 158 [l0, l1, l2, .int xi, l4, l5, l6, l7, l8, l9] (.int xi :: st) S Q := pv_iload_n (pm_cdi rfl dX5_sayOfItem_157) rfl
theorem q50_158 (hs : pm_sh S an = .inr 0) : pm_V (d + 1) 50 158 [l0, l1, l2, l3, l4, l5, l6, l7, l8, l9] [.int v0i, .ref an] S Q = pm_N d 8 [.ref an, .int v0i] S (fun r S' => pm_V (d + 1) 50 161 [l0, l1, l2, l3, l4, l5, l6, l7, l8, l9] (r.toList ++ []) S' Q) := pv_callV (as := [.int v0i]) (pm_cdi rfl dX5_sayOfItem_158) (Or.inl (by decide +kernel)) (by decide +kernel) (show _ = _ from (by decide +kernel : 1 = pm_np 8)) rfl (Nat.le_of_ble_eq_true rfl) (cl := 0) (by decide +kernel) hs
theorem q50_161 : pm_V d 50 161 [l0, l1, l2, l3, l4, l5, l6, l7, l8, l9] st S Q = pm_V d 50 169 [l0, l1, l2, l3, l4, l5, l6, l7, l8, l9] st S Q := pv_goto (pm_cdi rfl dX5_sayOfItem_161) rfl
theorem q50_164 : pm_V d 50 164 [l0, .ref xn, l2, l3, l4, l5, l6, l7, l8, l9] st S Q = pm_V d 50 165 [l0, .ref xn, l2, l3, l4, l5, l6, l7, l8, l9] (.ref xn :: st) S Q := pv_aload_n (pm_cdi rfl dX5_sayOfItem_164) rfl
theorem q50_164N : pm_V d 50 164 [l0, .null, l2, l3, l4, l5, l6, l7, l8, l9] st S Q = pm_V d 50 165 [l0, .null, l2, l3, l4, l5, l6, l7, l8, l9] (.null :: st) S Q := pv_aload_nN (pm_cdi rfl dX5_sayOfItem_164) rfl
theorem q50_165 : pm_V d 50 165 [l0, l1, l2, .int xi, l4, l5, l6, l7, l8, l9] st S Q = pm_V d 50 166 [l0, l1, l2, .int xi, l4, l5, l6, l7, l8, l9] (.int xi :: st) S Q := pv_iload_n (pm_cdi rfl dX5_sayOfItem_165) rfl
theorem q50_166 (hs : pm_sh S an = .inr 0) : pm_V (d + 1) 50 166 [l0, l1, l2, l3, l4, l5, l6, l7, l8, l9] [.int v0i, .ref an] S Q = pm_N d 9 [.ref an, .int v0i] S (fun r S' => pm_V (d + 1) 50 169 [l0, l1, l2, l3, l4, l5, l6, l7, l8, l9] (r.toList ++ []) S' Q) := pv_callV (as := [.int v0i]) (pm_cdi rfl dX5_sayOfItem_166) (Or.inl (by decide +kernel)) (by decide +kernel) (show _ = _ from (by decide +kernel : 1 = pm_np 9)) rfl (Nat.le_of_ble_eq_true rfl) (cl := 0) (by decide +kernel) hs
theorem q50_169 : pm_V d 50 169 [l0, l1, l2, l3, l4, l5, l6, l7, l8, l9] (.int xi :: st) S Q = pm_V d 50 170 [l0, l1, l2, l3, l4, l5, l6, l7, l8, l9] (.long xi.toInt64 :: st) S Q := pv_i2l (pm_cdi rfl dX5_sayOfItem_169)
theorem q50_170 : pm_V d 50 170 [l0, l1, l2, l3, l4, l5, l6, .long xj, l8, l9] st S Q = pm_V d 50 172 [l0, l1, l2, l3, l4, l5, l6, .long xj, l8, l9] (.long xj :: st) S Q := pv_lload (pm_cdi rfl dX5_sayOfItem_170) rfl
theorem q50_172 : pm_V d 50 172 [l0, l1, l2, l3, l4, l5, l6, l7, l8, l9] (.long yj :: .long xj :: st) S Q = pm_V d 50 173 [l0, l1, l2, l3, l4, l5, l6, l7, l8, l9] (.int (lg_cmp xj yj) :: st) S Q := pv_lcmp (pm_cdi rfl dX5_sayOfItem_172)
theorem q50_173 : pm_V d 50 173 [l0, l1, l2, l3, l4, l5, l6, l7, l8, l9] (.int xi :: st) S Q = if xi < 0 then pm_V d 50 180 [l0, l1, l2, l3, l4, l5, l6, l7, l8, l9] st S Q else pm_V d 50 176 [l0, l1, l2, l3, l4, l5, l6, l7, l8, l9] st S Q := pv_if_lt (pm_cdi rfl dX5_sayOfItem_173) rfl
theorem q50_176 : pm_V d 50 176 [l0, l1, l2, l3, l4, l5, l6, l7, l8, l9] st S Q = pm_V d 50 177 [l0, l1, l2, l3, l4, l5, l6, l7, l8, l9] (.int 1 :: st) S Q := pv_iconst (pm_cdi rfl dX5_sayOfItem_176) (by decide +kernel)
theorem q50_177 : pm_V d 50 177 [l0, l1, l2, l3, l4, l5, l6, l7, l8, l9] st S Q = pm_V d 50 181 [l0, l1, l2, l3, l4, l5, l6, l7, l8, l9] st S Q := pv_goto (pm_cdi rfl dX5_sayOfItem_177) rfl
theorem q50_180 : pm_V d 50 180 [l0, l1, l2, l3, l4, l5, l6, l7, l8, l9] st S Q = pm_V d 50 181 [l0, l1, l2, l3, l4, l5, l6, l7, l8, l9] (.int 0 :: st) S Q := pv_iconst (pm_cdi rfl dX5_sayOfItem_180) (by decide +kernel)
theorem q50_181 : pm_V (d + 1) 50 181 [l0, l1, l2, l3, l4, l5, l6, l7, l8, l9] [.int v0i] S Q = pm_N d 53 [.int v0i] S (fun r S' => pm_V (d + 1) 50 184 [l0, l1, l2, l3, l4, l5, l6, l7, l8, l9] (r.toList ++ []) S' Q) := pv_callS (as := [.int v0i]) (pm_cdi rfl dX5_sayOfItem_181) (by decide +kernel) (by decide +kernel) (show _ = _ from (by decide +kernel : 1 = pm_np 53)) rfl (Nat.le_of_ble_eq_true rfl)
theorem q50_184 : pm_V d 50 184 [l0, l1, l2, l3, l4, l5, l6, l7, l8, l9] [.int xi] S Q = Q (some (.int xi)) S := pv_rI (pm_cdi rfl dX5_sayOfItem_184) (by decide +kernel)
theorem q50_e : pm_N d 50 [.ref an, .ref v0n, .int v1i, .int v2i, .int v3i] S Q = pm_V d 50 0 [.ref an, .ref v0n, .int v1i, .int v2i, .int v3i, pm_j, pm_j, pm_j, pm_j, pm_j] [] S Q := pv_ent (Nat.le_of_ble_eq_true rfl) rfl
end
