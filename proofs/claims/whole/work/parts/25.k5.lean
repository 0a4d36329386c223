section
variable {d : Nat} {S : pm_T} {Q : Option Value → pm_T → Prop} {an r0n r1n r2n r3n r4n r5n v0n v1n v2n vn xn yn : Nat} {ki r0i r1i r2i r3i r4i v0i v1i v2i v3i v4i v5i vi xi yi : Int32} {l0 l1 l10 l2 l3 l4 l5 l6 l7 l8 l9 v0v v1v v2v : Value} {r0j r1j v0j v1j v2j v3j vj xj yj : Int64} {st : List Value}
/-! 92: ViewsJoinsModel.graph(I)I -/
theorem dX7_graph_0 : decode cX7_graph 0 = .ok (.iload_n 1, 1) := by decide +kernel
theorem dX7_graph_1 : decode cX7_graph 1 = .ok (.iconst 1, 1) := by decide +kernel
theorem dX7_graph_2 : decode cX7_graph 2 = .ok (.bipush 12, 2) := by decide +kernel
theorem dX7_graph_4 : decode cX7_graph 4 = .ok (.invokestatic 119, 3) := by decide +kernel
theorem dX7_graph_7 : decode cX7_graph 7 = .ok (.ifCond .ne 6, 3) := by decide +kernel
theorem dX7_graph_10 : decode cX7_graph 10 = .ok (.ldc 130, 2) := by decide +kernel
theorem dX7_graph_12 : decode cX7_graph 12 = .ok (.ireturn, 1) := by decide +kernel
theorem dX7_graph_13 : decode cX7_graph 13 = .ok (.aload_n 0, 1) := by decide +kernel
theorem dX7_graph_14 : decode cX7_graph 14 = .ok (.getfield 115, 3) := by decide +kernel
theorem dX7_graph_17 : decode cX7_graph 17 = .ok (.bipush 24, 2) := by decide +kernel
theorem dX7_graph_19 : decode cX7_graph 19 = .ok (.if_icmp .ne 6, 3) := by decide +kernel
theorem dX7_graph_22 : decode cX7_graph 22 = .ok (.ldc 131, 2) := by decide +kernel
theorem dX7_graph_24 : decode cX7_graph 24 = .ok (.ireturn, 1) := by decide +kernel
theorem dX7_graph_25 : decode cX7_graph 25 = .ok (.aload_n 0, 1) := by decide +kernel
theorem dX7_graph_26 : decode cX7_graph 26 = .ok (.getfield 115, 3) := by decide +kernel
theorem dX7_graph_29 : decode cX7_graph 29 = .ok (.istore_n 2, 1) := by decide +kernel
theorem dX7_graph_30 : decode cX7_graph 30 = .ok (.aload_n 0, 1) := by decide +kernel
theorem dX7_graph_31 : decode cX7_graph 31 = .ok (.getfield 7, 3) := by decide +kernel
theorem dX7_graph_34 : decode cX7_graph 34 = .ok (.iload_n 2, 1) := by decide +kernel
theorem dX7_graph_35 : decode cX7_graph 35 = .ok (.iconst 0, 1) := by decide +kernel
theorem dX7_graph_36 : decode cX7_graph 36 = .ok (.iastore, 1) := by decide +kernel
theorem dX7_graph_37 : decode cX7_graph 37 = .ok (.aload_n 0, 1) := by decide +kernel
theorem dX7_graph_38 : decode cX7_graph 38 = .ok (.getfield 25, 3) := by decide +kernel
theorem dX7_graph_41 : decode cX7_graph 41 = .ok (.iload_n 2, 1) := by decide +kernel
theorem dX7_graph_42 : decode cX7_graph 42 = .ok (.iconst 0, 1) := by decide +kernel
theorem dX7_graph_43 : decode cX7_graph 43 = .ok (.bastore, 1) := by decide +kernel
theorem dX7_graph_44 : decode cX7_graph 44 = .ok (.aload_n 0, 1) := by decide +kernel
theorem dX7_graph_45 : decode cX7_graph 45 = .ok (.getfield 29, 3) := by decide +kernel
theorem dX7_graph_48 : decode cX7_graph 48 = .ok (.iload_n 2, 1) := by decide +kernel
theorem dX7_graph_49 : decode cX7_graph 49 = .ok (.iconst 0, 1) := by decide +kernel
theorem dX7_graph_50 : decode cX7_graph 50 = .ok (.iastore, 1) := by decide +kernel
theorem dX7_graph_51 : decode cX7_graph 51 = .ok (.aload_n 0, 1) := by decide +kernel
theorem dX7_graph_52 : decode cX7_graph 52 = .ok (.getfield 32, 3) := by decide +kernel
theorem dX7_graph_55 : decode cX7_graph 55 = .ok (.iload_n 2, 1) := by decide +kernel
theorem dX7_graph_56 : decode cX7_graph 56 = .ok (.iload_n 1, 1) := by decide +kernel
theorem dX7_graph_57 : decode cX7_graph 57 = .ok (.iastore, 1) := by decide +kernel
theorem dX7_graph_58 : decode cX7_graph 58 = .ok (.aload_n 0, 1) := by decide +kernel
theorem dX7_graph_59 : decode cX7_graph 59 = .ok (.getfield 35, 3) := by decide +kernel
theorem dX7_graph_62 : decode cX7_graph 62 = .ok (.iload_n 2, 1) := by decide +kernel
theorem dX7_graph_63 : decode cX7_graph 63 = .ok (.iconst 0, 1) := by decide +kernel
theorem dX7_graph_64 : decode cX7_graph 64 = .ok (.iastore, 1) := by decide +kernel
theorem dX7_graph_65 : decode cX7_graph 65 = .ok (.aload_n 0, 1) := by decide +kernel
theorem dX7_graph_66 : decode cX7_graph 66 = .ok (.getfield 63, 3) := by decide +kernel
theorem dX7_graph_69 : decode cX7_graph 69 = .ok (.iload_n 2, 1) := by decide +kernel
theorem dX7_graph_70 : decode cX7_graph 70 = .ok (.iconst 0, 1) := by decide +kernel
theorem dX7_graph_71 : decode cX7_graph 71 = .ok (.iastore, 1) := by decide +kernel
theorem dX7_graph_72 : decode cX7_graph 72 = .ok (.iconst 0, 1) := by decide +kernel
theorem dX7_graph_73 : decode cX7_graph 73 = .ok (.istore_n 3, 1) := by decide +kernel
theorem dX7_graph_74 : decode cX7_graph 74 = .ok (.iload_n 3, 1) := by decide +kernel
theorem dX7_graph_75 : decode cX7_graph 75 = .ok (.iload_n 1, 1) := by decide +kernel
theorem dX7_graph_76 : decode cX7_graph 76 = .ok (.if_icmp .ge 21, 3) := by decide +kernel
theorem dX7_graph_79 : decode cX7_graph 79 = .ok (.aload_n 0, 1) := by decide +kernel
theorem dX7_graph_80 : decode cX7_graph 80 = .ok (.getfield 38, 3) := by decide +kernel
theorem dX7_graph_83 : decode cX7_graph 83 = .ok (.bipush 40, 2) := by decide +kernel
theorem dX7_graph_85 : decode cX7_graph 85 = .ok (.iload_n 2, 1) := by decide +kernel
theorem dX7_graph_86 : decode cX7_graph 86 = .ok (.imul, 1) := by decide +kernel
theorem dX7_graph_87 : decode cX7_graph 87 = .ok (.iload_n 3, 1) := by decide +kernel
theorem dX7_graph_88 : decode cX7_graph 88 = .ok (.iadd, 1) := by decide +kernel
theorem dX7_graph_89 : decode cX7_graph 89 = .ok (.lconst 0, 1) := by decide +kernel
theorem dX7_graph_90 : decode cX7_graph 90 = .ok (.lastore, 1) := by decide +kernel
theorem dX7_graph_91 : decode cX7_graph 91 = .ok (.iinc 3 1, 3) := by decide +kernel
theorem dX7_graph_94 : decode cX7_graph 94 = .ok (.goto (-20), 3) := by decide +kernel
theorem dX7_graph_97 : decode cX7_graph 97 = .ok (.aload_n 0, 1) := by decide +kernel
theorem dX7_graph_98 : decode cX7_graph 98 = .ok (.dup, 1) := by decide +kernel
theorem dX7_graph_99 : decode cX7_graph 99 = .ok (.getfield 115, 3) := by decide +kernel
theorem dX7_graph_102 : decode cX7_graph 102 = .ok (.iconst 1, 1) := by decide +kernel
theorem dX7_graph_103 : decode cX7_graph 103 = .ok (.iadd, 1) := by decide +kernel
theorem dX7_graph_104 : decode cX7_graph 104 = .ok (.putfield 115, 3) := by decide +kernel
theorem dX7_graph_107 : decode cX7_graph 107 = .ok (.aload_n 0, 1) := by decide +kernel
theorem dX7_graph_108 : decode cX7_graph 108 = .ok (.iconst 0, 1) := by decide +kernel
theorem dX7_graph_109 : decode cX7_graph 109 = .ok (.putfield 132, 3) := by decide +kernel
theorem dX7_graph_112 : decode cX7_graph 112 = .ok (.iload_n 2, 1) := by decide +kernel
theorem dX7_graph_113 : decode cX7_graph 113 = .ok (.ireturn, 1) := by decide +kernel
theorem q92_0 : pm_V d 92 0 [l0, .int xi, l2, l3] st S Q = pm_V d 92 1 [l0, .int xi, l2, l3] (.int xi :: st) S Q := pv_iload_n (pm_cdi rfl dX7_graph_0) rfl
theorem q92_1 : pm_V d 92 1 [l0, l1, l2, l3] st S Q = pm_V d 92 2 [l0, l1, l2, l3] (.int 1 :: st) S Q := pv_iconst (pm_cdi rfl dX7_graph_1) (by decide +kernel)
theorem q92_2 : pm_V d 92 2 [l0, l1, l2, l3] st S Q = pm_V d 92 4 [l0, l1, l2, l3] (.int 12 :: st) S Q := pv_bipush (pm_cdi rfl dX7_graph_2) (by decide +kernel)
theorem q92_4 : pm_V (d + 1) 92 4 [l0, l1, l2, l3] [.int v2i, .int v1i, .int v0i] S Q = pm_N d 87 [.int v0i, .int v1i, .int v2i] S (fun r S' => pm_V (d + 1) 92 7 [l0, l1, l2, l3] (r.toList ++ []) S' Q) := pv_callS (as := [.int v0i, .int v1i, .int v2i]) (pm_cdi rfl dX7_graph_4) (by decide +kernel) (by decide +kernel) (show _ = _ from (by decide +kernel : 3 = pm_np 87)) rfl (Nat.le_of_ble_eq_true rfl)
theorem q92_7 : pm_V d 92 7 [l0, l1, l2, l3] (.int xi :: st) S Q = if xi = 0 then pm_V d 92 10 [l0, l1, l2, l3] st S Q else pm_V d 92 13 [l0, l1, l2, l3] st S Q := pv_if_ne (pm_cdi rfl dX7_graph_7) rfl
theorem q92_10 : pm_V d 92 10 [l0, l1, l2, l3] st S Q = pm_V d 92 12 [l0, l1, l2, l3] (.int (-1000001) :: st) S Q := pv_ldc (pm_cdi rfl dX7_graph_10) (by decide +kernel)
theorem q92_12 : pm_V d 92 12 [l0, l1, l2, l3] [.int xi] S Q = Q (some (.int xi)) S := pv_rI (pm_cdi rfl dX7_graph_12) (by decide +kernel)
theorem q92_13 : pm_V d 92 13 [.ref xn, l1, l2, l3] st S Q = pm_V d 92 14 [.ref xn, l1, l2, l3] (.ref xn :: st) S Q := pv_aload_n (pm_cdi rfl dX7_graph_13) rfl
theorem q92_14 (hs : pm_sh S an = .inr 7) : pm_V d 92 14 [l0, l1, l2, l3] (.ref an :: st) S Q = pm_V d 92 17 [l0, l1, l2, l3] (.int (pm_gi S an 0) :: st) S Q := pv_getI (pm_cdi rfl dX7_graph_14) (by decide +kernel) (by decide +kernel) (by decide +kernel) hs
theorem q92_17 : pm_V d 92 17 [l0, l1, l2, l3] st S Q = pm_V d 92 19 [l0, l1, l2, l3] (.int 24 :: st) S Q := pv_bipush (pm_cdi rfl dX7_graph_17) (by decide +kernel)
theorem q92_19 : pm_V d 92 19 [l0, l1, l2, l3] (.int yi :: .int xi :: st) S Q = if xi = yi then pm_V d 92 22 [l0, l1, l2, l3] st S Q else pm_V d 92 25 [l0, l1, l2, l3] st S Q := pv_icmp_ne (pm_cdi rfl dX7_graph_19) rfl
theorem q92_22 : pm_V d 92 22 [l0, l1, l2, l3] st S Q = pm_V d 92 24 [l0, l1, l2, l3] (.int (-1000002) :: st) S Q := pv_ldc (pm_cdi rfl dX7_graph_22) (by decide +kernel)
theorem q92_24 : pm_V d 92 24 [l0, l1, l2, l3] [.int xi] S Q = Q (some (.int xi)) S := pv_rI (pm_cdi rfl dX7_graph_24) (by decide +kernel)
theorem q92_25 : pm_V d 92 25 [.ref xn, l1, l2, l3] st S Q = pm_V d 92 26 [.ref xn, l1, l2, l3] (.ref xn :: st) S Q := pv_aload_n (pm_cdi rfl dX7_graph_25) rfl
theorem q92_26 (hs : pm_sh S an = .inr 7) : pm_V d 92 26 [l0, l1, l2, l3] (.ref an :: st) S Q = pm_V d 92 29 [l0, l1, l2, l3] (.int (pm_gi S an 0) :: st) S Q := pv_getI (pm_cdi rfl dX7_graph_26) (by decide +kernel) (by decide +kernel) (by decide +kernel) hs
theorem q92_29 : pm_V d 92 29 [l0, .int yi, l2, l3] (.int xi :: st) S Q = pm_V d 92 30 [l0, .int yi, .int xi, l3] st S Q := pv_istore_n (pm_cdi rfl dX7_graph_29) rfl
theorem q92_30 : pm_V d 92 30 [.ref xn, l1, l2, l3] st S Q = pm_V d 92 31 [.ref xn, l1, l2, l3] (.ref xn :: st) S Q := pv_aload_n (pm_cdi rfl dX7_graph_30) rfl
theorem q92_31 (hs : pm_sh S an = .inr 7) : pm_V d 92 31 [l0, l1, l2, l3] (.ref an :: st) S Q = pm_V d 92 34 [l0, l1, l2, l3] (va_rf (pm_gr S an 1) :: st) S Q := pv_getA (pm_cdi rfl dX7_graph_31) (by decide +kernel) (by decide +kernel) (by decide +kernel) hs
theorem q92_34 : pm_V d 92 34 [l0, l1, .int xi, l3] st S Q = pm_V d 92 35 [l0, l1, .int xi, l3] (.int xi :: st) S Q := pv_iload_n (pm_cdi rfl dX7_graph_34) rfl
theorem q92_35 : pm_V d 92 35 [l0, l1, l2, l3] st S Q = pm_V d 92 36 [l0, l1, l2, l3] (.int 0 :: st) S Q := pv_iconst (pm_cdi rfl dX7_graph_35) (by decide +kernel)
theorem q92_36 (hs : pm_ar S an 0 xi = true) : pm_V d 92 36 [l0, l1, l2, l3] (.int vi :: .int xi :: .ref an :: st) S Q = pm_V d 92 37 [l0, l1, l2, l3] st (pm_szi S an xi.toNatClampNeg vi) Q := pv_iast (pm_cdi rfl dX7_graph_36) hs
theorem q92_37 : pm_V d 92 37 [.ref xn, l1, l2, l3] st S Q = pm_V d 92 38 [.ref xn, l1, l2, l3] (.ref xn :: st) S Q := pv_aload_n (pm_cdi rfl dX7_graph_37) rfl
theorem q92_38 (hs : pm_sh S an = .inr 7) : pm_V d 92 38 [l0, l1, l2, l3] (.ref an :: st) S Q = pm_V d 92 41 [l0, l1, l2, l3] (va_rf (pm_gr S an 6) :: st) S Q := pv_getA (pm_cdi rfl dX7_graph_38) (by decide +kernel) (by decide +kernel) (by decide +kernel) hs
theorem q92_41 : pm_V d 92 41 [l0, l1, .int xi, l3] st S Q = pm_V d 92 42 [l0, l1, .int xi, l3] (.int xi :: st) S Q := pv_iload_n (pm_cdi rfl dX7_graph_41) rfl
theorem q92_42 : pm_V d 92 42 [l0, l1, l2, l3] st S Q = pm_V d 92 43 [l0, l1, l2, l3] (.int 0 :: st) S Q := pv_iconst (pm_cdi rfl dX7_graph_42) (by decide +kernel)
theorem q92_43 (hs : pm_ar S an 2 xi = true) (hv : vi = 0 ∨ vi = 1) : pm_V d 92 43 [l0, l1, l2, l3] (.int vi :: .int xi :: .ref an :: st) S Q = pm_V d 92 44 [l0, l1, l2, l3] st (pm_szi S an xi.toNatClampNeg vi) Q := pv_bast (pm_cdi rfl dX7_graph_43) hs hv
theorem q92_44 : pm_V d 92 44 [.ref xn, l1, l2, l3] st S Q = pm_V d 92 45 [.ref xn, l1, l2, l3] (.ref xn :: st) S Q := pv_aload_n (pm_cdi rfl dX7_graph_44) rfl
theorem q92_45 (hs : pm_sh S an = .inr 7) : pm_V d 92 45 [l0, l1, l2, l3] (.ref an :: st) S Q = pm_V d 92 48 [l0, l1, l2, l3] (va_rf (pm_gr S an 7) :: st) S Q := pv_getA (pm_cdi rfl dX7_graph_45) (by decide +kernel) (by decide +kernel) (by decide +kernel) hs
theorem q92_48 : pm_V d 92 48 [l0, l1, .int xi, l3] st S Q = pm_V d 92 49 [l0, l1, .int xi, l3] (.int xi :: st) S Q := pv_iload_n (pm_cdi rfl dX7_graph_48) rfl
theorem q92_49 : pm_V d 92 49 [l0, l1, l2, l3] st S Q = pm_V d 92 50 [l0, l1, l2, l3] (.int 0 :: st) S Q := pv_iconst (pm_cdi rfl dX7_graph_49) (by decide +kernel)
theorem q92_50 (hs : pm_ar S an 0 xi = true) : pm_V d 92 50 [l0, l1, l2, l3] (.int vi :: .int xi :: .ref an :: st) S Q = pm_V d 92 51 [l0, l1, l2, l3] st (pm_szi S an xi.toNatClampNeg vi) Q := pv_iast (pm_cdi rfl dX7_graph_50) hs
theorem q92_51 : pm_V d 92 51 [.ref xn, l1, l2, l3] st S Q = pm_V d 92 52 [.ref xn, l1, l2, l3] (.ref xn :: st) S Q := pv_aload_n (pm_cdi rfl dX7_graph_51) rfl
theorem q92_52 (hs : pm_sh S an = .inr 7) : pm_V d 92 52 [l0, l1, l2, l3] (.ref an :: st) S Q = pm_V d 92 55 [l0, l1, l2, l3] (va_rf (pm_gr S an 8) :: st) S Q := pv_getA (pm_cdi rfl dX7_graph_52) (by decide +kernel) (by decide +kernel) (by decide +kernel) hs
theorem q92_55 : pm_V d 92 55 [l0, l1, .int xi, l3] st S Q = pm_V d 92 56 [l0, l1, .int xi, l3] (.int xi :: st) S Q := pv_iload_n (pm_cdi rfl dX7_graph_55) rfl
theorem q92_56 : pm_V d 92 56 [l0, .int xi, l2, l3] st S Q = pm_V d 92 57 [l0, .int xi, l2, l3] (.int xi :: st) S Q := pv_iload_n (pm_cdi rfl dX7_graph_56) rfl
theorem q92_57 (hs : pm_ar S an 0 xi = true) : pm_V d 92 57 [l0, l1, l2, l3] (.int vi :: .int xi :: .ref an :: st) S Q = pm_V d 92 58 [l0, l1, l2, l3] st (pm_szi S an xi.toNatClampNeg vi) Q := pv_iast (pm_cdi rfl dX7_graph_57) hs
theorem q92_58 : pm_V d 92 58 [.ref xn, l1, l2, l3] st S Q = pm_V d 92 59 [.ref xn, l1, l2, l3] (.ref xn :: st) S Q := pv_aload_n (pm_cdi rfl dX7_graph_58) rfl
theorem q92_59 (hs : pm_sh S an = .inr 7) : pm_V d 92 59 [l0, l1, l2, l3] (.ref an :: st) S Q = pm_V d 92 62 [l0, l1, l2, l3] (va_rf (pm_gr S an 9) :: st) S Q := pv_getA (pm_cdi rfl dX7_graph_59) (by decide +kernel) (by decide +kernel) (by decide +kernel) hs
theorem q92_62 : pm_V d 92 62 [l0, l1, .int xi, l3] st S Q = pm_V d 92 63 [l0, l1, .int xi, l3] (.int xi :: st) S Q := pv_iload_n (pm_cdi rfl dX7_graph_62) rfl
theorem q92_63 : pm_V d 92 63 [l0, l1, l2, l3] st S Q = pm_V d 92 64 [l0, l1, l2, l3] (.int 0 :: st) S Q := pv_iconst (pm_cdi rfl dX7_graph_63) (by decide +kernel)
theorem q92_64 (hs : pm_ar S an 0 xi = true) : pm_V d 92 64 [l0, l1, l2, l3] (.int vi :: .int xi :: .ref an :: st) S Q = pm_V d 92 65 [l0, l1, l2, l3] st (pm_szi S an xi.toNatClampNeg vi) Q := pv_iast (pm_cdi rfl dX7_graph_64) hs
theorem q92_65 : pm_V d 92 65 [.ref xn, l1, l2, l3] st S Q = pm_V d 92 66 [.ref xn, l1, l2, l3] (.ref xn :: st) S Q := pv_aload_n (pm_cdi rfl dX7_graph_65) rfl
theorem q92_66 (hs : pm_sh S an = .inr 7) : pm_V d 92 66 [l0, l1, l2, l3] (.ref an :: st) S Q = pm_V d 92 69 [l0, l1, l2, l3] (va_rf (pm_gr S an 18) :: st) S Q := pv_getA (pm_cdi rfl dX7_graph_66) (by decide +kernel) (by decide +kernel) (by decide +kernel) hs
theorem q92_69 : pm_V d 92 69 [l0, l1, .int xi, l3] st S Q = pm_V d 92 70 [l0, l1, .int xi, l3] (.int xi :: st) S Q := pv_iload_n (pm_cdi rfl dX7_graph_69) rfl
theorem q92_70 : pm_V d 92 70 [l0, l1, l2, l3] st S Q = pm_V d 92 71 [l0, l1, l2, l3] (.int 0 :: st) S Q := pv_iconst (pm_cdi rfl dX7_graph_70) (by decide +kernel)
theorem q92_71 (hs : pm_ar S an 0 xi = true) : pm_V d 92 71 [l0, l1, l2, l3] (.int vi :: .int xi :: .ref an :: st) S Q = pm_V d 92 72 [l0, l1, l2, l3] st (pm_szi S an xi.toNatClampNeg vi) Q := pv_iast (pm_cdi rfl dX7_graph_71) hs
theorem q92_72 : pm_V d 92 72 [l0, l1, l2, l3] st S Q = pm_V d 92 73 [l0, l1, l2, l3] (.int 0 :: st) S Q := pv_iconst (pm_cdi rfl dX7_graph_72) (by decide +kernel)
theorem q92_73 : pm_V d 92 73 [l0, l1, .int yi, l3] (.int xi :: st) S Q = pm_V d 92 74 [l0, l1, .int yi, .int xi] st S Q := pv_istore_n (pm_cdi rfl dX7_graph_73) rfl
theorem q92_74 : pm_V d 92 74 [l0, l1, l2, .int xi] st S Q = pm_V d 92 75 [l0, l1, l2, .int xi] (.int xi :: st) S Q := pv_iload_n (pm_cdi rfl dX7_graph_74) rfl
theorem q92_75 : pm_V d 92 75 [l0, .int xi, l2, l3] st S Q = pm_V d 92 76 [l0, .int xi, l2, l3] (.int xi :: st) S Q := pv_iload_n (pm_cdi rfl dX7_graph_75) rfl
theorem q92_76 : pm_V d 92 76 [l0, l1, l2, l3] (.int yi :: .int xi :: st) S Q = if xi < yi then pm_V d 92 79 [l0, l1, l2, l3] st S Q else pm_V d 92 97 [l0, l1, l2, l3] st S Q := pv_icmp_ge (pm_cdi rfl dX7_graph_76) rfl
theorem q92_79 : pm_V d 92 79 [.ref xn, l1, l2, l3] st S Q = pm_V d 92 80 [.ref xn, l1, l2, l3] (.ref xn :: st) S Q := pv_aload_n (pm_cdi rfl dX7_graph_79) rfl
theorem q92_80 (hs : pm_sh S an = .inr 7) : pm_V d 92 80 [l0, l1, l2, l3] (.ref an :: st) S Q = pm_V d 92 83 [l0, l1, l2, l3] (va_rf (pm_gr S an 10) :: st) S Q := pv_getA (pm_cdi rfl dX7_graph_80) (by decide +kernel) (by decide +kernel) (by decide +kernel) hs
theorem q92_83 : pm_V d 92 83 [l0, l1, l2, l3] st S Q = pm_V d 92 85 [l0, l1, l2, l3] (.int 40 :: st) S Q := pv_bipush (pm_cdi rfl dX7_graph_83) (by decide +kernel)
theorem q92_85 : pm_V d 92 85 [l0, l1, .int xi, l3] st S Q = pm_V d 92 86 [l0, l1, .int xi, l3] (.int xi :: st) S Q := pv_iload_n (pm_cdi rfl dX7_graph_85) rfl
theorem q92_86 : pm_V d 92 86 [l0, l1, l2, l3] (.int yi :: .int xi :: st) S Q = pm_V d 92 87 [l0, l1, l2, l3] (.int (xi * yi) :: st) S Q := pv_imul (pm_cdi rfl dX7_graph_86)
theorem q92_87 : pm_V d 92 87 [l0, l1, l2, .int xi] st S Q = pm_V d 92 88 [l0, l1, l2, .int xi] (.int xi :: st) S Q := pv_iload_n (pm_cdi rfl dX7_graph_87) rfl
theorem q92_88 : pm_V d 92 88 [l0, l1, l2, l3] (.int yi :: .int xi :: st) S Q = pm_V d 92 89 [l0, l1, l2, l3] (.int (xi + yi) :: st) S Q := pv_iadd (pm_cdi rfl dX7_graph_88)
theorem q92_89 : pm_V d 92 89 [l0, l1, l2, l3] st S Q = pm_V d 92 90 [l0, l1, l2, l3] (.long 0 :: st) S Q := pv_lconst (pm_cdi rfl dX7_graph_89) (by decide +kernel)
theorem q92_90 (hs : pm_ar S an 1 xi = true) : pm_V d 92 90 [l0, l1, l2, l3] (.long vj :: .int xi :: .ref an :: st) S Q = pm_V d 92 91 [l0, l1, l2, l3] st (pm_szl S an xi.toNatClampNeg vj) Q := pv_last (pm_cdi rfl dX7_graph_90) hs
theorem q92_91 : pm_V d 92 91 [l0, l1, .int yi, .int xi] st S Q = pm_V d 92 94 [l0, l1, .int yi, .int (xi + 1)] st S Q := pv_iinc (pm_cdi rfl dX7_graph_91) rfl (by decide +kernel) rfl
theorem q92_94 : pm_V d 92 94 [l0, l1, l2, l3] st S Q = pm_V d 92 74 [l0, l1, l2, l3] st S Q := pv_goto (pm_cdi rfl dX7_graph_94) rfl
theorem q92_97 : pm_V d 92 97 [.ref xn, l1, l2, l3] st S Q = pm_V d 92 98 [.ref xn, l1, l2, l3] (.ref xn :: st) S Q := pv_aload_n (pm_cdi rfl dX7_graph_97) rfl
theorem q92_98 : pm_V d 92 98 [l0, l1, l2, l3] (.ref xn :: st) S Q = pm_V d 92 99 [l0, l1, l2, l3] (.ref xn :: .ref xn :: st) S Q := pv_dupA (pm_cdi rfl dX7_graph_98)
theorem q92_99 (hs : pm_sh S an = .inr 7) : pm_V d 92 99 [l0, l1, l2, l3] (.ref an :: st) S Q = pm_V d 92 102 [l0, l1, l2, l3] (.int (pm_gi S an 0) :: st) S Q := pv_getI (pm_cdi rfl dX7_graph_99) (by decide +kernel) (by decide +kernel) (by decide +kernel) hs
theorem q92_102 : pm_V d 92 102 [l0, l1, l2, l3] st S Q = pm_V d 92 103 [l0, l1, l2, l3] (.int 1 :: st) S Q := pv_iconst (pm_cdi rfl dX7_graph_102) (by decide +kernel)
theorem q92_103 : pm_V d 92 103 [l0, l1, l2, l3] (.int yi :: .int xi :: st) S Q = pm_V d 92 104 [l0, l1, l2, l3] (.int (xi + yi) :: st) S Q := pv_iadd (pm_cdi rfl dX7_graph_103)
theorem q92_104 (hs : pm_sh S an = .inr 7) : pm_V d 92 104 [l0, l1, l2, l3] (.int xi :: .ref an :: st) S Q = pm_V d 92 107 [l0, l1, l2, l3] st (pm_sgi S an 0 xi) Q := pv_putI (pm_cdi rfl dX7_graph_104) (by decide +kernel) (by decide +kernel) (by decide +kernel) hs
theorem q92_107 : pm_V d 92 107 [.ref xn, l1, l2, l3] st S Q = pm_V d 92 108 [.ref xn, l1, l2, l3] (.ref xn :: st) S Q := pv_aload_n (pm_cdi rfl dX7_graph_107) rfl
theorem q92_108 : pm_V d 92 108 [l0, l1, l2, l3] st S Q = pm_V d 92 109 [l0, l1, l2, l3] (.int 0 :: st) S Q := pv_iconst (pm_cdi rfl dX7_graph_108) (by decide +kernel)
theorem q92_109 (hs : pm_sh S an = .inr 7) (hx : xi = 0 ∨ xi = 1) : pm_V d 92 109 [l0, l1, l2, l3] (.int xi :: .ref an :: st) S Q = pm_V d 92 112 [l0, l1, l2, l3] st (pm_sgi S an 21 xi) Q := pv_putZ (pm_cdi rfl dX7_graph_109) (by decide +kernel) (by decide +kernel) (by decide +kernel) hs hx
theorem q92_112 : pm_V d 92 112 [l0, l1, .int xi, l3] st S Q = pm_V d 92 113 [l0, l1, .int xi, l3] (.int xi :: st) S Q := pv_iload_n (pm_cdi rfl dX7_graph_112) rfl
theorem q92_113 : pm_V d 92 113 [l0, l1, l2, l3] [.int xi] S Q = Q (some (.int xi)) S := pv_rI (pm_cdi rfl dX7_graph_113) (by decide +kernel)
theorem q92_e : pm_N d 92 [.ref an, .int v0i] S Q = pm_V d 92 0 [.ref an, .int v0i, pm_j, pm_j] [] S Q := pv_ent (Nat.le_of_ble_eq_true rfl) rfl
/-! 93: ViewsJoinsModel.arc(IIIJ)I -/
theorem dX7_arc_0 : decode cX7_arc 0 = .ok (.aload_n 0, 1) := by decide +kernel
theorem dX7_arc_1 : decode cX7_arc 1 = .ok (.iload_n 1, 1) := by decide +kernel
theorem dX7_arc_2 : decode cX7_arc 2 = .ok (.invokevirtual 136, 3) := by decide +kernel
theorem dX7_arc_5 : decode cX7_arc 5 = .ok (.ifCond .eq 35, 3) := by decide +kernel
theorem dX7_arc_8 : decode cX7_arc 8 = .ok (.iload_n 2, 1) := by decide +kernel
theorem dX7_arc_9 : decode cX7_arc 9 = .ok (.iconst 0, 1) := by decide +kernel
theorem dX7_arc_10 : decode cX7_arc 10 = .ok (.aload_n 0, 1) := by decide +kernel
theorem dX7_arc_11 : decode cX7_arc 11 = .ok (.getfield 32, 3) := by decide +kernel
theorem dX7_arc_14 : decode cX7_arc 14 = .ok (.iload_n 1, 1) := by decide +kernel
theorem dX7_arc_15 : decode cX7_arc 15 = .ok (.iaload, 1) := by decide +kernel
theorem dX7_arc_16 : decode cX7_arc 16 = .ok (.iconst 1, 1) := by decide +kernel
theorem dX7_arc_17 : decode cX7_arc 17 = .ok (.isub, 1) := by decide +kernel
theorem dX7_arc_18 : decode cX7_arc 18 = .ok (.invokestatic 119, 3) := by decide +kernel
theorem dX7_arc_21 : decode cX7_arc 21 = .ok (.ifCond .eq 19, 3) := by decide +kernel
theorem dX7_arc_24 : decode cX7_arc 24 = .ok (.iload_n 3, 1) := by decide +kernel
theorem dX7_arc_25 : decode cX7_arc 25 = .ok (.iconst 0, 1) := by decide +kernel
theorem dX7_arc_26 : decode cX7_arc 26 = .ok (.aload_n 0, 1) := by decide +kernel
theorem dX7_arc_27 : decode cX7_arc 27 = .ok (.getfield 32, 3) := by decide +kernel
theorem dX7_arc_30 : decode cX7_arc 30 = .ok (.iload_n 1, 1) := by decide +kernel
theorem dX7_arc_31 : decode cX7_arc 31 = .ok (.iaload, 1) := by decide +kernel
theorem dX7_arc_32 : decode cX7_arc 32 = .ok (.iconst 1, 1) := by decide +kernel
theorem dX7_arc_33 : decode cX7_arc 33 = .ok (.isub, 1) := by decide +kernel
theorem dX7_arc_34 : decode cX7_arc 34 = .ok (.invokestatic 119, 3) := by decide +kernel
theorem dX7_arc_37 : decode cX7_arc 37 = .ok (.ifCond .ne 6, 3) := by decide +kernel
theorem dX7_arc_40 : decode cX7_arc 40 = .ok (.ldc 130, 2) := by decide +kernel
theorem dX7_arc_42 : decode cX7_arc 42 = .ok (.ireturn, 1) := by decide +kernel
theorem dX7_arc_43 : decode cX7_arc 43 = .ok (.aload_n 0, 1) := by decide +kernel
theorem dX7_arc_44 : decode cX7_arc 44 = .ok (.getfield 35, 3) := by decide +kernel
theorem dX7_arc_47 : decode cX7_arc 47 = .ok (.iload_n 1, 1) := by decide +kernel
theorem dX7_arc_48 : decode cX7_arc 48 = .ok (.iaload, 1) := by decide +kernel
theorem dX7_arc_49 : decode cX7_arc 49 = .ok (.bipush 30, 2) := by decide +kernel
theorem dX7_arc_51 : decode cX7_arc 51 = .ok (.if_icmp .ne 6, 3) := by decide +kernel
theorem dX7_arc_54 : decode cX7_arc 54 = .ok (.ldc 131, 2) := by decide +kernel
theorem dX7_arc_56 : decode cX7_arc 56 = .ok (.ireturn, 1) := by decide +kernel
theorem dX7_arc_57 : decode cX7_arc 57 = .ok (.aload_n 0, 1) := by decide +kernel
theorem dX7_arc_58 : decode cX7_arc 58 = .ok (.iload_n 1, 1) := by decide +kernel
theorem dX7_arc_59 : decode cX7_arc 59 = .ok (.iload_n 2, 1) := by decide +kernel
theorem dX7_arc_60 : decode cX7_arc 60 = .ok (.iload_n 3, 1) := by decide +kernel
theorem dX7_arc_61 : decode cX7_arc 61 = .ok (.lload 4, 2) := by decide +kernel
theorem dX7_arc_63 : decode cX7_arc 63 = .ok (.ldc 139, 2) := by decide +kernel
theorem dX7_arc_65 : decode cX7_arc 65 = .ok (.ldc 139, 2) := by decide +kernel
theorem dX7_arc_67 : decode cX7_arc 67 = .ok (.invokevirtual 140, 3) := by decide +kernel
theorem dX7_arc_70 : decode cX7_arc 70 = .ok (.aload_n 0, 1) := by decide +kernel
theorem dX7_arc_71 : decode cX7_arc 71 = .ok (.iconst 0, 1) := by decide +kernel
theorem dX7_arc_72 : decode cX7_arc 72 = .ok (.putfield 132, 3) := by decide +kernel
theorem dX7_arc_75 : decode cX7_arc 75 = .ok (.aload_n 0, 1) := by decide +kernel
theorem dX7_arc_76 : decode cX7_arc 76 = .ok (.getfield 35, 3) := by decide +kernel
theorem dX7_arc_79 : decode cX7_arc 79 = .ok (.iload_n 1, 1) := by decide +kernel
theorem dX7_arc_80 : decode cX7_arc 80 = .ok (.iaload, 1) := by decide +kernel
theorem dX7_arc_81 : decode cX7_arc 81 = .ok (.iconst 1, 1) := by decide +kernel
theorem dX7_arc_82 : decode cX7_arc 82 = .ok (.isub, 1) := by decide +kernel
theorem dX7_arc_83 : decode cX7_arc 83 = .ok (.ireturn, 1) := by decide +kernel
theorem q93_0 : pm_V d 93 0 [.ref xn, l1, l2, l3, l4, l5] st S Q = pm_V d 93 1 [.ref xn, l1, l2, l3, l4, l5] (.ref xn :: st) S Q := pv_aload_n (pm_cdi rfl dX7_arc_0) rfl
theorem q93_1 : pm_V d 93 1 [l0, .int xi, l2, l3, l4, l5] st S Q = pm_V d 93 2 [l0, .int xi, l2, l3, l4, l5] (.int xi :: st) S Q := pv_iload_n (pm_cdi rfl dX7_arc_1) rfl
theorem q93_2 (hs : pm_sh S an = .inr 7) : pm_V (d + 1) 93 2 [l0, l1, l2, l3, l4, l5] [.int v0i, .ref an] S Q = pm_N d 89 [.ref an, .int v0i] S (fun r S' => pm_V (d + 1) 93 5 [l0, l1, l2, l3, l4, l5] (r.toList ++ []) S' Q) := pv_callV (as := [.int v0i]) (pm_cdi rfl dX7_arc_2) (Or.inl (by decide +kernel)) (by decide +kernel) (show _ = _ from (by decide +kernel : 1 = pm_np 89)) rfl (Nat.le_of_ble_eq_true rfl) (cl := 7) (by decide +kernel) hs
theorem q93_5 : pm_V d 93 5 [l0, l1, l2, l3, l4, l5] (.int xi :: st) S Q = if xi = 0 then pm_V d 93 40 [l0, l1, l2, l3, l4, l5] st S Q else pm_V d 93 8 [l0, l1, l2, l3, l4, l5] st S Q := pv_if_eq (pm_cdi rfl dX7_arc_5) rfl
theorem q93_8 : pm_V d 93 8 [l0, l1, .int xi, l3, l4, l5] st S Q = pm_V d 93 9 [l0, l1, .int xi, l3, l4, l5] (.int xi :: st) S Q := pv_iload_n (pm_cdi rfl dX7_arc_8) rfl
theorem q93_9 : pm_V d 93 9 [l0, l1, l2, l3, l4, l5] st S Q = pm_V d 93 10 [l0, l1, l2, l3, l4, l5] (.int 0 :: st) S Q := pv_iconst (pm_cdi rfl dX7_arc_9) (by decide +kernel)
theorem q93_10 : pm_V d 93 10 [.ref xn, l1, l2, l3, l4, l5] st S Q = pm_V d 93 11 [.ref xn, l1, l2, l3, l4, l5] (.ref xn :: st) S Q := pv_aload_n (pm_cdi rfl dX7_arc_10) rfl
theorem q93_11 (hs : pm_sh S an = .inr 7) : pm_V d 93 11 [l0, l1, l2, l3, l4, l5] (.ref an :: st) S Q = pm_V d 93 14 [l0, l1, l2, l3, l4, l5] (va_rf (pm_gr S an 8) :: st) S Q := pv_getA (pm_cdi rfl dX7_arc_11) (by decide +kernel) (by decide +kernel) (by decide +kernel) hs
theorem q93_14 : pm_V d 93 14 [l0, .int xi, l2, l3, l4, l5] st S Q = pm_V d 93 15 [l0, .int xi, l2, l3, l4, l5] (.int xi :: st) S Q := pv_iload_n (pm_cdi rfl dX7_arc_14) rfl
theorem q93_15 (hs : pm_ar S an 0 xi = true) : pm_V d 93 15 [l0, l1, l2, l3, l4, l5] (.int xi :: .ref an :: st) S Q = pm_V d 93 16 [l0, l1, l2, l3, l4, l5] (.int (pm_zi S an xi.toNatClampNeg) :: st) S Q := pv_iald (pm_cdi rfl dX7_arc_15) hs
theorem q93_16 : pm_V d 93 16 [l0, l1, l2, l3, l4, l5] st S Q = pm_V d 93 17 [l0, l1, l2, l3, l4, l5] (.int 1 :: st) S Q := pv_iconst (pm_cdi rfl dX7_arc_16) (by decide +kernel)
theorem q93_17 : pm_V d 93 17 [l0, l1, l2, l3, l4, l5] (.int yi :: .int xi :: st) S Q = pm_V d 93 18 [l0, l1, l2, l3, l4, l5] (.int (xi - yi) :: st) S Q := pv_isub (pm_cdi rfl dX7_arc_17)
theorem q93_18 : pm_V (d + 1) 93 18 [l0, l1, l2, l3, l4, l5] [.int v2i, .int v1i, .int v0i] S Q = pm_N d 87 [.int v0i, .int v1i, .int v2i] S (fun r S' => pm_V (d + 1) 93 21 [l0, l1, l2, l3, l4, l5] (r.toList ++ []) S' Q) := pv_callS (as := [.int v0i, .int v1i, .int v2i]) (pm_cdi rfl dX7_arc_18) (by decide +kernel) (by decide +kernel) (show _ = _ from (by decide +kernel : 3 = pm_np 87)) rfl (Nat.le_of_ble_eq_true rfl)
theorem q93_21 : pm_V d 93 21 [l0, l1, l2, l3, l4, l5] (.int xi :: st) S Q = if xi = 0 then pm_V d 93 40 [l0, l1, l2, l3, l4, l5] st S Q else pm_V d 93 24 [l0, l1, l2, l3, l4, l5] st S Q := pv_if_eq (pm_cdi rfl dX7_arc_21) rfl
theorem q93_24 : pm_V d 93 24 [l0, l1, l2, .int xi, l4, l5] st S Q = pm_V d 93 25 [l0, l1, l2, .int xi, l4, l5] (.int xi :: st) S Q := pv_iload_n (pm_cdi rfl dX7_arc_24) rfl
theorem q93_25 : pm_V d 93 25 [l0, l1, l2, l3, l4, l5] st S Q = pm_V d 93 26 [l0, l1, l2, l3, l4, l5] (.int 0 :: st) S Q := pv_iconst (pm_cdi rfl dX7_arc_25) (by decide +kernel)
theorem q93_26 : pm_V d 93 26 [.ref xn, l1, l2, l3, l4, l5] st S Q = pm_V d 93 27 [.ref xn, l1, l2, l3, l4, l5] (.ref xn :: st) S Q := pv_aload_n (pm_cdi rfl dX7_arc_26) rfl
theorem q93_27 (hs : pm_sh S an = .inr 7) : pm_V d 93 27 [l0, l1, l2, l3, l4, l5] (.ref an :: st) S Q = pm_V d 93 30 [l0, l1, l2, l3, l4, l5] (va_rf (pm_gr S an 8) :: st) S Q := pv_getA (pm_cdi rfl dX7_arc_27) (by decide +kernel) (by decide +kernel) (by decide +kernel) hs
theorem q93_30 : pm_V d 93 30 [l0, .int xi, l2, l3, l4, l5] st S Q = pm_V d 93 31 [l0, .int xi, l2, l3, l4, l5] (.int xi :: st) S Q := pv_iload_n (pm_cdi rfl dX7_arc_30) rfl
theorem q93_31 (hs : pm_ar S an 0 xi = true) : pm_V d 93 31 [l0, l1, l2, l3, l4, l5] (.int xi :: .ref an :: st) S Q = pm_V d 93 32 [l0, l1, l2, l3, l4, l5] (.int (pm_zi S an xi.toNatClampNeg) :: st) S Q := pv_iald (pm_cdi rfl dX7_arc_31) hs
theorem q93_32 : pm_V d 93 32 [l0, l1, l2, l3, l4, l5] st S Q = pm_V d 93 33 [l0, l1, l2, l3, l4, l5] (.int 1 :: st) S Q := pv_iconst (pm_cdi rfl dX7_arc_32) (by decide +kernel)
theorem q93_33 : pm_V d 93 33 [l0, l1, l2, l3, l4, l5] (.int yi :: .int xi :: st) S Q = pm_V d 93 34 [l0, l1, l2, l3, l4, l5] (.int (xi - yi) :: st) S Q := pv_isub (pm_cdi rfl dX7_arc_33)
theorem q93_34 : pm_V (d + 1) 93 34 [l0, l1, l2, l3, l4, l5] [.int v2i, .int v1i, .int v0i] S Q = pm_N d 87 [.int v0i, .int v1i, .int v2i] S (fun r S' => pm_V (d + 1) 93 37 [l0, l1, l2, l3, l4, l5] (r.toList ++ []) S' Q) := pv_callS (as := [.int v0i, .int v1i, .int v2i]) (pm_cdi rfl dX7_arc_34) (by decide +kernel) (by decide +kernel) (show _ = _ from (by decide +kernel : 3 = pm_np 87)) rfl (Nat.le_of_ble_eq_true rfl)
theorem q93_37 : pm_V d 93 37 [l0, l1, l2, l3, l4, l5] (.int xi :: st) S Q = if xi = 0 then pm_V d 93 40 [l0, l1, l2, l3, l4, l5] st S Q else pm_V d 93 43 [l0, l1, l2, l3, l4, l5] st S Q := pv_if_ne (pm_cdi rfl dX7_arc_37) rfl
theorem q93_40 : pm_V d 93 40 [l0, l1, l2, l3, l4, l5] st S Q = pm_V d 93 42 [l0, l1, l2, l3, l4, l5] (.int (-1000001) :: st) S Q := pv_ldc (pm_cdi rfl dX7_arc_40) (by decide +kernel)
theorem q93_42 : pm_V d 93 42 [l0, l1, l2, l3, l4, l5] [.int xi] S Q = Q (some (.int xi)) S := pv_rI (pm_cdi rfl dX7_arc_42) (by decide +kernel)
theorem q93_43 : pm_V d 93 43 [.ref xn, l1, l2, l3, l4, l5] st S Q = pm_V d 93 44 [.ref xn, l1, l2, l3, l4, l5] (.ref xn :: st) S Q := pv_aload_n (pm_cdi rfl dX7_arc_43) rfl
theorem q93_44 (hs : pm_sh S an = .inr 7) : pm_V d 93 44 [l0, l1, l2, l3, l4, l5] (.ref an :: st) S Q = pm_V d 93 47 [l0, l1, l2, l3, l4, l5] (va_rf (pm_gr S an 9) :: st) S Q := pv_getA (pm_cdi rfl dX7_arc_44) (by decide +kernel) (by decide +kernel) (by decide +kernel) hs
theorem q93_47 : pm_V d 93 47 [l0, .int xi, l2, l3, l4, l5] st S Q = pm_V d 93 48 [l0, .int xi, l2, l3, l4, l5] (.int xi :: st) S Q := pv_iload_n (pm_cdi rfl dX7_arc_47) rfl
theorem q93_48 (hs : pm_ar S an 0 xi = true) : pm_V d 93 48 [l0, l1, l2, l3, l4, l5] (.int xi :: .ref an :: st) S Q = pm_V d 93 49 [l0, l1, l2, l3, l4, l5] (.int (pm_zi S an xi.toNatClampNeg) :: st) S Q := pv_iald (pm_cdi rfl dX7_arc_48) hs
theorem q93_49 : pm_V d 93 49 [l0, l1, l2, l3, l4, l5] st S Q = pm_V d 93 51 [l0, l1, l2, l3, l4, l5] (.int 30 :: st) S Q := pv_bipush (pm_cdi rfl dX7_arc_49) (by decide +kernel)
theorem q93_51 : pm_V d 93 51 [l0, l1, l2, l3, l4, l5] (.int yi :: .int xi :: st) S Q = if xi = yi then pm_V d 93 54 [l0, l1, l2, l3, l4, l5] st S Q else pm_V d 93 57 [l0, l1, l2, l3, l4, l5] st S Q := pv_icmp_ne (pm_cdi rfl dX7_arc_51) rfl
theorem q93_54 : pm_V d 93 54 [l0, l1, l2, l3, l4, l5] st S Q = pm_V d 93 56 [l0, l1, l2, l3, l4, l5] (.int (-1000002) :: st) S Q := pv_ldc (pm_cdi rfl dX7_arc_54) (by decide +kernel)
theorem q93_56 : pm_V d 93 56 [l0, l1, l2, l3, l4, l5] [.int xi] S Q = Q (some (.int xi)) S := pv_rI (pm_cdi rfl dX7_arc_56) (by decide +kernel)
theorem q93_57 : pm_V d 93 57 [.ref xn, l1, l2, l3, l4, l5] st S Q = pm_V d 93 58 [.ref xn, l1, l2, l3, l4, l5] (.ref xn :: st) S Q := pv_aload_n (pm_cdi rfl dX7_arc_57) rfl
theorem q93_58 : pm_V d 93 58 [l0, .int xi, l2, l3, l4, l5] st S Q = pm_V d 93 59 [l0, .int xi, l2, l3, l4, l5] (.int xi :: st) S Q := pv_iload_n (pm_cdi rfl dX7_arc_58) rfl
theorem q93_59 : pm_V d 93 59 [l0, l1, .int xi, l3, l4, l5] st S Q = pm_V d 93 60 [l0, l1, .int xi, l3, l4, l5] (.int xi :: st) S Q := pv_iload_n (pm_cdi rfl dX7_arc_59) rfl
theorem q93_60 : pm_V d 93 60 [l0, l1, l2, .int xi, l4, l5] st S Q = pm_V d 93 61 [l0, l1, l2, .int xi, l4, l5] (.int xi :: st) S Q := pv_iload_n (pm_cdi rfl dX7_arc_60) rfl
theorem q93_61 : pm_V d 93 61 [l0, l1, l2, l3, .long xj, l5] st S Q = pm_V d 93 63 [l0, l1, l2, l3, .long xj, l5] (.long xj :: st) S Q := pv_lload (pm_cdi rfl dX7_arc_61) rfl
theorem q93_63 : pm_V d 93 63 [l0, l1, l2, l3, l4, l5] st S Q = pm_V d 93 65 [l0, l1, l2, l3, l4, l5] (.int (-1000004) :: st) S Q := pv_ldc (pm_cdi rfl dX7_arc_63) (by decide +kernel)
theorem q93_65 : pm_V d 93 65 [l0, l1, l2, l3, l4, l5] st S Q = pm_V d 93 67 [l0, l1, l2, l3, l4, l5] (.int (-1000004) :: st) S Q := pv_ldc (pm_cdi rfl dX7_arc_65) (by decide +kernel)
theorem q93_67 (hs : pm_sh S an = .inr 7) : pm_V (d + 1) 93 67 [l0, l1, l2, l3, l4, l5] [.int v5i, .int v4i, .long v3j, .int v2i, .int v1i, .int v0i, .ref an] S Q = pm_N d 103 [.ref an, .int v0i, .int v1i, .int v2i, .long v3j, .int v4i, .int v5i] S (fun r S' => pm_V (d + 1) 93 70 [l0, l1, l2, l3, l4, l5] (r.toList ++ []) S' Q) := pv_callV (as := [.int v0i, .int v1i, .int v2i, .long v3j, .int v4i, .int v5i]) (pm_cdi rfl dX7_arc_67) (Or.inl (by decide +kernel)) (by decide +kernel) (show _ = _ from (by decide +kernel : 6 = pm_np 103)) rfl (Nat.le_of_ble_eq_true rfl) (cl := 7) (by decide +kernel) hs
theorem q93_70 : pm_V d 93 70 [.ref xn, l1, l2, l3, l4, l5] st S Q = pm_V d 93 71 [.ref xn, l1, l2, l3, l4, l5] (.ref xn :: st) S Q := pv_aload_n (pm_cdi rfl dX7_arc_70) rfl
theorem q93_71 : pm_V d 93 71 [l0, l1, l2, l3, l4, l5] st S Q = pm_V d 93 72 [l0, l1, l2, l3, l4, l5] (.int 0 :: st) S Q := pv_iconst (pm_cdi rfl dX7_arc_71) (by decide +kernel)
theorem q93_72 (hs : pm_sh S an = .inr 7) (hx : xi = 0 ∨ xi = 1) : pm_V d 93 72 [l0, l1, l2, l3, l4, l5] (.int xi :: .ref an :: st) S Q = pm_V d 93 75 [l0, l1, l2, l3, l4, l5] st (pm_sgi S an 21 xi) Q := pv_putZ (pm_cdi rfl dX7_arc_72) (by decide +kernel) (by decide +kernel) (by decide +kernel) hs hx
theorem q93_75 : pm_V d 93 75 [.ref xn, l1, l2, l3, l4, l5] st S Q = pm_V d 93 76 [.ref xn, l1, l2, l3, l4, l5] (.ref xn :: st) S Q := pv_aload_n (pm_cdi rfl dX7_arc_75) rfl
theorem q93_76 (hs : pm_sh S an = .inr 7) : pm_V d 93 76 [l0, l1, l2, l3, l4, l5] (.ref an :: st) S Q = pm_V d 93 79 [l0, l1, l2, l3, l4, l5] (va_rf (pm_gr S an 9) :: st) S Q := pv_getA (pm_cdi rfl dX7_arc_76) (by decide +kernel) (by decide +kernel) (by decide +kernel) hs
theorem q93_79 : pm_V d 93 79 [l0, .int xi, l2, l3, l4, l5] st S Q = pm_V d 93 80 [l0, .int xi, l2, l3, l4, l5] (.int xi :: st) S Q := pv_iload_n (pm_cdi rfl dX7_arc_79) rfl
theorem q93_80 (hs : pm_ar S an 0 xi = true) : pm_V d 93 80 [l0, l1, l2, l3, l4, l5] (.int xi :: .ref an :: st) S Q = pm_V d 93 81 [l0, l1, l2, l3, l4, l5] (.int (pm_zi S an xi.toNatClampNeg) :: st) S Q := pv_iald (pm_cdi rfl dX7_arc_80) hs
theorem q93_81 : pm_V d 93 81 [l0, l1, l2, l3, l4, l5] st S Q = pm_V d 93 82 [l0, l1, l2, l3, l4, l5] (.int 1 :: st) S Q := pv_iconst (pm_cdi rfl dX7_arc_81) (by decide +kernel)
theorem q93_82 : pm_V d 93 82 [l0, l1, l2, l3, l4, l5] (.int yi :: .int xi :: st) S Q = pm_V d 93 83 [l0, l1, l2, l3, l4, l5] (.int (xi - yi) :: st) S Q := pv_isub (pm_cdi rfl dX7_arc_82)
theorem q93_83 : pm_V d 93 83 [l0, l1, l2, l3, l4, l5] [.int xi] S Q = Q (some (.int xi)) S := pv_rI (pm_cdi rfl dX7_arc_83) (by decide +kernel)
theorem q93_e : pm_N d 93 [.ref an, .int v0i, .int v1i, .int v2i, .long v3j] S Q = pm_V d 93 0 [.ref an, .int v0i, .int v1i, .int v2i, .long v3j, pm_j] [] S Q := pv_ent (Nat.le_of_ble_eq_true rfl) rfl
/-! 94: ViewsJoinsModel.set(IIIJ)I -/
theorem dX7_set_0 : decode cX7_set 0 = .ok (.aload_n 0, 1) := by decide +kernel
theorem dX7_set_1 : decode cX7_set 1 = .ok (.iload_n 1, 1) := by decide +kernel
theorem dX7_set_2 : decode cX7_set 2 = .ok (.invokevirtual 136, 3) := by decide +kernel
theorem dX7_set_5 : decode cX7_set 5 = .ok (.ifCond .eq 41, 3) := by decide +kernel
theorem dX7_set_8 : decode cX7_set 8 = .ok (.iload_n 2, 1) := by decide +kernel
theorem dX7_set_9 : decode cX7_set 9 = .ok (.iconst 0, 1) := by decide +kernel
theorem dX7_set_10 : decode cX7_set 10 = .ok (.iconst 1, 1) := by decide +kernel
theorem dX7_set_11 : decode cX7_set 11 = .ok (.invokestatic 119, 3) := by decide +kernel
theorem dX7_set_14 : decode cX7_set 14 = .ok (.ifCond .eq 32, 3) := by decide +kernel
theorem dX7_set_17 : decode cX7_set 17 = .ok (.iload_n 3, 1) := by decide +kernel
theorem dX7_set_18 : decode cX7_set 18 = .ok (.iconst 0, 1) := by decide +kernel
theorem dX7_set_19 : decode cX7_set 19 = .ok (.iload_n 2, 1) := by decide +kernel
theorem dX7_set_20 : decode cX7_set 20 = .ok (.ifCond .ne 12, 3) := by decide +kernel
theorem dX7_set_23 : decode cX7_set 23 = .ok (.aload_n 0, 1) := by decide +kernel
theorem dX7_set_24 : decode cX7_set 24 = .ok (.getfield 32, 3) := by decide +kernel
theorem dX7_set_27 : decode cX7_set 27 = .ok (.iload_n 1, 1) := by decide +kernel
theorem dX7_set_28 : decode cX7_set 28 = .ok (.iaload, 1) := by decide +kernel
theorem dX7_set_29 : decode cX7_set 29 = .ok (.goto 9, 3) := by decide +kernel
theorem dX7_set_32 : decode cX7_set 32 = .ok (.aload_n 0, 1) := by decide +kernel
theorem dX7_set_33 : decode cX7_set 33 = .ok (.getfield 35, 3) := by decide +kernel
theorem dX7_set_36 : decode cX7_set 36 = .ok (.iload_n 1, 1) := by decide +kernel
theorem dX7_set_37 : decode cX7_set 37 = .ok (.iaload, 1) := by decide +kernel
theorem dX7_set_38 : decode cX7_set 38 = .ok (.iconst 1, 1) := by decide +kernel
theorem dX7_set_39 : decode cX7_set 39 = .ok (.isub, 1) := by decide +kernel
theorem dX7_set_40 : decode cX7_set 40 = .ok (.invokestatic 119, 3) := by decide +kernel
theorem dX7_set_43 : decode cX7_set 43 = .ok (.ifCond .ne 6, 3) := by decide +kernel
theorem dX7_set_46 : decode cX7_set 46 = .ok (.ldc 130, 2) := by decide +kernel
theorem dX7_set_48 : decode cX7_set 48 = .ok (.ireturn, 1) := by decide +kernel
theorem dX7_set_49 : decode cX7_set 49 = .ok (.iload_n 2, 1) := by decide +kernel
theorem dX7_set_50 : decode cX7_set 50 = .ok (.ifCond .ne 19, 3) := by decide +kernel
theorem dX7_set_53 : decode cX7_set 53 = .ok (.aload_n 0, 1) := by decide +kernel
theorem dX7_set_54 : decode cX7_set 54 = .ok (.getfield 38, 3) := by decide +kernel
theorem dX7_set_57 : decode cX7_set 57 = .ok (.bipush 40, 2) := by decide +kernel
theorem dX7_set_59 : decode cX7_set 59 = .ok (.iload_n 1, 1) := by decide +kernel
theorem dX7_set_60 : decode cX7_set 60 = .ok (.imul, 1) := by decide +kernel
theorem dX7_set_61 : decode cX7_set 61 = .ok (.iload_n 3, 1) := by decide +kernel
theorem dX7_set_62 : decode cX7_set 62 = .ok (.iadd, 1) := by decide +kernel
theorem dX7_set_63 : decode cX7_set 63 = .ok (.lload 4, 2) := by decide +kernel
theorem dX7_set_65 : decode cX7_set 65 = .ok (.lastore, 1) := by decide +kernel
theorem dX7_set_66 : decode cX7_set 66 = .ok (.goto 16, 3) := by decide +kernel
theorem dX7_set_69 : decode cX7_set 69 = .ok (.aload_n 0, 1) := by decide +kernel
theorem dX7_set_70 : decode cX7_set 70 = .ok (.getfield 54, 3) := by decide +kernel
theorem dX7_set_73 : decode cX7_set 73 = .ok (.bipush 120, 2) := by decide +kernel
theorem dX7_set_75 : decode cX7_set 75 = .ok (.iload_n 1, 1) := by decide +kernel
theorem dX7_set_76 : decode cX7_set 76 = .ok (.imul, 1) := by decide +kernel
theorem dX7_set_77 : decode cX7_set 77 = .ok (.iload_n 3, 1) := by decide +kernel
theorem dX7_set_78 : decode cX7_set 78 = .ok (.iadd, 1) := by decide +kernel
theorem dX7_set_79 : decode cX7_set 79 = .ok (.lload 4, 2) := by decide +kernel
theorem dX7_set_81 : decode cX7_set 81 = .ok (.lastore, 1) := by decide +kernel
theorem dX7_set_82 : decode cX7_set 82 = .ok (.aload_n 0, 1) := by decide +kernel
theorem dX7_set_83 : decode cX7_set 83 = .ok (.iconst 0, 1) := by decide +kernel
theorem dX7_set_84 : decode cX7_set 84 = .ok (.putfield 132, 3) := by decide +kernel
theorem dX7_set_87 : decode cX7_set 87 = .ok (.iconst 1, 1) := by decide +kernel
theorem dX7_set_88 : decode cX7_set 88 = .ok (.ireturn, 1) := by decide +kernel
theorem q94_0 : pm_V d 94 0 [.ref xn, l1, l2, l3, l4, l5] st S Q = pm_V d 94 1 [.ref xn, l1, l2, l3, l4, l5] (.ref xn :: st) S Q := pv_aload_n (pm_cdi rfl dX7_set_0) rfl
theorem q94_1 : pm_V d 94 1 [l0, .int xi, l2, l3, l4, l5] st S Q = pm_V d 94 2 [l0, .int xi, l2, l3, l4, l5] (.int xi :: st) S Q := pv_iload_n (pm_cdi rfl dX7_set_1) rfl
theorem q94_2 (hs : pm_sh S an = .inr 7) : pm_V (d + 1) 94 2 [l0, l1, l2, l3, l4, l5] [.int v0i, .ref an] S Q = pm_N d 89 [.ref an, .int v0i] S (fun r S' => pm_V (d + 1) 94 5 [l0, l1, l2, l3, l4, l5] (r.toList ++ []) S' Q) := pv_callV (as := [.int v0i]) (pm_cdi rfl dX7_set_2) (Or.inl (by decide +kernel)) (by decide +kernel) (show _ = _ from (by decide +kernel : 1 = pm_np 89)) rfl (Nat.le_of_ble_eq_true rfl) (cl := 7) (by decide +kernel) hs
theorem q94_5 : pm_V d 94 5 [l0, l1, l2, l3, l4, l5] (.int xi :: st) S Q = if xi = 0 then pm_V d 94 46 [l0, l1, l2, l3, l4, l5] st S Q else pm_V d 94 8 [l0, l1, l2, l3, l4, l5] st S Q := pv_if_eq (pm_cdi rfl dX7_set_5) rfl
theorem q94_8 : pm_V d 94 8 [l0, l1, .int xi, l3, l4, l5] st S Q = pm_V d 94 9 [l0, l1, .int xi, l3, l4, l5] (.int xi :: st) S Q := pv_iload_n (pm_cdi rfl dX7_set_8) rfl
theorem q94_9 : pm_V d 94 9 [l0, l1, l2, l3, l4, l5] st S Q = pm_V d 94 10 [l0, l1, l2, l3, l4, l5] (.int 0 :: st) S Q := pv_iconst (pm_cdi rfl dX7_set_9) (by decide +kernel)
theorem q94_10 : pm_V d 94 10 [l0, l1, l2, l3, l4, l5] st S Q = pm_V d 94 11 [l0, l1, l2, l3, l4, l5] (.int 1 :: st) S Q := pv_iconst (pm_cdi rfl dX7_set_10) (by decide +kernel)
theorem q94_11 : pm_V (d + 1) 94 11 [l0, l1, l2, l3, l4, l5] [.int v2i, .int v1i, .int v0i] S Q = pm_N d 87 [.int v0i, .int v1i, .int v2i] S (fun r S' => pm_V (d + 1) 94 14 [l0, l1, l2, l3, l4, l5] (r.toList ++ []) S' Q) := pv_callS (as := [.int v0i, .int v1i, .int v2i]) (pm_cdi rfl dX7_set_11) (by decide +kernel) (by decide +kernel) (show _ = _ from (by decide +kernel : 3 = pm_np 87)) rfl (Nat.le_of_ble_eq_true rfl)
theorem q94_14 : pm_V d 94 14 [l0, l1, l2, l3, l4, l5] (.int xi :: st) S Q = if xi = 0 then pm_V d 94 46 [l0, l1, l2, l3, l4, l5] st S Q else pm_V d 94 17 [l0, l1, l2, l3, l4, l5] st S Q := pv_if_eq (pm_cdi rfl dX7_set_14) rfl
theorem q94_17 : pm_V d 94 17 [l0, l1, l2, .int xi, l4, l5] st S Q = pm_V d 94 18 [l0, l1, l2, .int xi, l4, l5] (.int xi :: st) S Q := pv_iload_n (pm_cdi rfl dX7_set_17) rfl
theorem q94_18 : pm_V d 94 18 [l0, l1, l2, l3, l4, l5] st S Q = pm_V d 94 19 [l0, l1, l2, l3, l4, l5] (.int 0 :: st) S Q := pv_iconst (pm_cdi rfl dX7_set_18) (by decide +kernel)
theorem q94_19 : pm_V d 94 19 [l0, l1, .int xi, l3, l4, l5] st S Q = pm_V d 94 20 [l0, l1, .int xi, l3, l4, l5] (.int xi :: st) S Q := pv_iload_n (pm_cdi rfl dX7_set_19) rfl
theorem q94_20 : pm_V d 94 20 [l0, l1, l2, l3, l4, l5] (.int xi :: st) S Q = if xi = 0 then pm_V d 94 23 [l0, l1, l2, l3, l4, l5] st S Q else pm_V d 94 32 [l0, l1, l2, l3, l4, l5] st S Q := pv_if_ne (pm_cdi rfl dX7_set_20) rfl
theorem q94_23 : pm_V d 94 23 [.ref xn, l1, l2, l3, l4, l5] st S Q = pm_V d 94 24 [.ref xn, l1, l2, l3, l4, l5] (.ref xn :: st) S Q := pv_aload_n (pm_cdi rfl dX7_set_23) rfl
theorem q94_24 (hs : pm_sh S an = .inr 7) : pm_V d 94 24 [l0, l1, l2, l3, l4, l5] (.ref an :: st) S Q = pm_V d 94 27 [l0, l1, l2, l3, l4, l5] (va_rf (pm_gr S an 8) :: st) S Q := pv_getA (pm_cdi rfl dX7_set_24) (by decide +kernel) (by decide +kernel) (by decide +kernel) hs
theorem q94_27 : pm_V d 94 27 [l0, .int xi, l2, l3, l4, l5] st S Q = pm_V d 94 28 [l0, .int xi, l2, l3, l4, l5] (.int xi :: st) S Q := pv_iload_n (pm_cdi rfl dX7_set_27) rfl
theorem q94_28 (hs : pm_ar S an 0 xi = true) : pm_V d 94 28 [l0, l1, l2, l3, l4, l5] (.int xi :: .ref an :: st) S Q = pm_V d 94 29 [l0, l1, l2, l3, l4, l5] (.int (pm_zi S an xi.toNatClampNeg) :: st) S Q := pv_iald (pm_cdi rfl dX7_set_28) hs
theorem q94_29 : pm_V d 94 29 [l0, l1, l2, l3, l4, l5] st S Q = pm_V d 94 38 [l0, l1, l2, l3, l4, l5] st S Q := pv_goto (pm_cdi rfl dX7_set_29) rfl
theorem q94_32 : pm_V d 94 32 [.ref xn, l1, l2, l3, l4, l5] st S Q = pm_V d 94 33 [.ref xn, l1, l2, l3, l4, l5] (.ref xn :: st) S Q := pv_aload_n (pm_cdi rfl dX7_set_32) rfl
theorem q94_33 (hs : pm_sh S an = .inr 7) : pm_V d 94 33 [l0, l1, l2, l3, l4, l5] (.ref an :: st) S Q = pm_V d 94 36 [l0, l1, l2, l3, l4, l5] (va_rf (pm_gr S an 9) :: st) S Q := pv_getA (pm_cdi rfl dX7_set_33) (by decide +kernel) (by decide +kernel) (by decide +kernel) hs
theorem q94_36 : pm_V d 94 36 [l0, .int xi, l2, l3, l4, l5] st S Q = pm_V d 94 37 [l0, .int xi, l2, l3, l4, l5] (.int xi :: st) S Q := pv_iload_n (pm_cdi rfl dX7_set_36) rfl
theorem q94_37 (hs : pm_ar S an 0 xi = true) : pm_V d 94 37 [l0, l1, l2, l3, l4, l5] (.int xi :: .ref an :: st) S Q = pm_V d 94 38 [l0, l1, l2, l3, l4, l5] (.int (pm_zi S an xi.toNatClampNeg) :: st) S Q := pv_iald (pm_cdi rfl dX7_set_37) hs
theorem q94_38 : pm_V d 94 38 [l0, l1, l2, l3, l4, l5] st S Q = pm_V d 94 39 [l0, l1, l2, l3, l4, l5] (.int 1 :: st) S Q := pv_iconst (pm_cdi rfl dX7_set_38) (by decide +kernel)
theorem q94_39 : pm_V d 94 39 [l0, l1, l2, l3, l4, l5] (.int yi :: .int xi :: st) S Q = pm_V d 94 40 [l0, l1, l2, l3, l4, l5] (.int (xi - yi) :: st) S Q := pv_isub (pm_cdi rfl dX7_set_39)
theorem q94_40 : pm_V (d + 1) 94 40 [l0, l1, l2, l3, l4, l5] [.int v2i, .int v1i, .int v0i] S Q = pm_N d 87 [.int v0i, .int v1i, .int v2i] S (fun r S' => pm_V (d + 1) 94 43 [l0, l1, l2, l3, l4, l5] (r.toList ++ []) S' Q) := pv_callS (as := [.int v0i, .int v1i, .int v2i]) (pm_cdi rfl dX7_set_40) (by decide +kernel) (by decide +kernel) (show _ = _ from (by decide +kernel : 3 = pm_np 87)) rfl (Nat.le_of_ble_eq_true rfl)
theorem q94_43 : pm_V d 94 43 [l0, l1, l2, l3, l4, l5] (.int xi :: st) S Q = if xi = 0 then pm_V d 94 46 [l0, l1, l2, l3, l4, l5] st S Q else pm_V d 94 49 [l0, l1, l2, l3, l4, l5] st S Q := pv_if_ne (pm_cdi rfl dX7_set_43) rfl
theorem q94_46 : pm_V d 94 46 [l0, l1, l2, l3, l4, l5] st S Q = pm_V d 94 48 [l0, l1, l2, l3, l4, l5] (.int (-1000001) :: st) S Q := pv_ldc (pm_cdi rfl dX7_set_46) (by decide +kernel)
theorem q94_48 : pm_V d 94 48 [l0, l1, l2, l3, l4, l5] [.int xi] S Q = Q (some (.int xi)) S := pv_rI (pm_cdi rfl dX7_set_48) (by decide +kernel)
theorem q94_49 : pm_V d 94 49 [l0, l1, .int xi, l3, l4, l5] st S Q = pm_V d 94 50 [l0, l1, .int xi, l3, l4, l5] (.int xi :: st) S Q := pv_iload_n (pm_cdi rfl dX7_set_49) rfl
theorem q94_50 : pm_V d 94 50 [l0, l1, l2, l3, l4, l5] (.int xi :: st) S Q = if xi = 0 then pm_V d 94 53 [l0, l1, l2, l3, l4, l5] st S Q else pm_V d 94 69 [l0, l1, l2, l3, l4, l5] st S Q := pv_if_ne (pm_cdi rfl dX7_set_50) rfl
theorem q94_53 : pm_V d 94 53 [.ref xn, l1, l2, l3, l4, l5] st S Q = pm_V d 94 54 [.ref xn, l1, l2, l3, l4, l5] (.ref xn :: st) S Q := pv_aload_n (pm_cdi rfl dX7_set_53) rfl
theorem q94_54 (hs : pm_sh S an = .inr 7) : pm_V d 94 54 [l0, l1, l2, l3, l4, l5] (.ref an :: st) S Q = pm_V d 94 57 [l0, l1, l2, l3, l4, l5] (va_rf (pm_gr S an 10) :: st) S Q := pv_getA (pm_cdi rfl dX7_set_54) (by decide +kernel) (by decide +kernel) (by decide +kernel) hs
theorem q94_57 : pm_V d 94 57 [l0, l1, l2, l3, l4, l5] st S Q = pm_V d 94 59 [l0, l1, l2, l3, l4, l5] (.int 40 :: st) S Q := pv_bipush (pm_cdi rfl dX7_set_57) (by decide +kernel)
theorem q94_59 : pm_V d 94 59 [l0, .int xi, l2, l3, l4, l5] st S Q = pm_V d 94 60 [l0, .int xi, l2, l3, l4, l5] (.int xi :: st) S Q := pv_iload_n (pm_cdi rfl dX7_set_59) rfl
theorem q94_60 : pm_V d 94 60 [l0, l1, l2, l3, l4, l5] (.int yi :: .int xi :: st) S Q = pm_V d 94 61 [l0, l1, l2, l3, l4, l5] (.int (xi * yi) :: st) S Q := pv_imul (pm_cdi rfl dX7_set_60)
theorem q94_61 : pm_V d 94 61 [l0, l1, l2, .int xi, l4, l5] st S Q = pm_V d 94 62 [l0, l1, l2, .int xi, l4, l5] (.int xi :: st) S Q := pv_iload_n (pm_cdi rfl dX7_set_61) rfl
theorem q94_62 : pm_V d 94 62 [l0, l1, l2, l3, l4, l5] (.int yi :: .int xi :: st) S Q = pm_V d 94 63 [l0, l1, l2, l3, l4, l5] (.int (xi + yi) :: st) S Q := pv_iadd (pm_cdi rfl dX7_set_62)
theorem q94_63 : pm_V d 94 63 [l0, l1, l2, l3, .long xj, l5] st S Q = pm_V d 94 65 [l0, l1, l2, l3, .long xj, l5] (.long xj :: st) S Q := pv_lload (pm_cdi rfl dX7_set_63) rfl
theorem q94_65 (hs : pm_ar S an 1 xi = true) : pm_V d 94 65 [l0, l1, l2, l3, l4, l5] (.long vj :: .int xi :: .ref an :: st) S Q = pm_V d 94 66 [l0, l1, l2, l3, l4, l5] st (pm_szl S an xi.toNatClampNeg vj) Q := pv_last (pm_cdi rfl dX7_set_65) hs
theorem q94_66 : pm_V d 94 66 [l0, l1, l2, l3, l4, l5] st S Q = pm_V d 94 82 [l0, l1, l2, l3, l4, l5] st S Q := pv_goto (pm_cdi rfl dX7_set_66) rfl
theorem q94_69 : pm_V d 94 69 [.ref xn, l1, l2, l3, l4, l5] st S Q = pm_V d 94 70 [.ref xn, l1, l2, l3, l4, l5] (.ref xn :: st) S Q := pv_aload_n (pm_cdi rfl dX7_set_69) rfl
theorem q94_70 (hs : pm_sh S an = .inr 7) : pm_V d 94 70 [l0, l1, l2, l3, l4, l5] (.ref an :: st) S Q = pm_V d 94 73 [l0, l1, l2, l3, l4, l5] (va_rf (pm_gr S an 15) :: st) S Q := pv_getA (pm_cdi rfl dX7_set_70) (by decide +kernel) (by decide +kernel) (by decide +kernel) hs
theorem q94_73 : pm_V d 94 73 [l0, l1, l2, l3, l4, l5] st S Q = pm_V d 94 75 [l0, l1, l2, l3, l4, l5] (.int 120 :: st) S Q := pv_bipush (pm_cdi rfl dX7_set_73) (by decide +kernel)
theorem q94_75 : pm_V d 94 75 [l0, .int xi, l2, l3, l4, l5] st S Q = pm_V d 94 76 [l0, .int xi, l2, l3, l4, l5] (.int xi :: st) S Q := pv_iload_n (pm_cdi rfl dX7_set_75) rfl
theorem q94_76 : pm_V d 94 76 [l0, l1, l2, l3, l4, l5] (.int yi :: .int xi :: st) S Q = pm_V d 94 77 [l0, l1, l2, l3, l4, l5] (.int (xi * yi) :: st) S Q := pv_imul (pm_cdi rfl dX7_set_76)
theorem q94_77 : pm_V d 94 77 [l0, l1, l2, .int xi, l4, l5] st S Q = pm_V d 94 78 [l0, l1, l2, .int xi, l4, l5] (.int xi :: st) S Q := pv_iload_n (pm_cdi rfl dX7_set_77) rfl
theorem q94_78 : pm_V d 94 78 [l0, l1, l2, l3, l4, l5] (.int yi :: .int xi :: st) S Q = pm_V d 94 79 [l0, l1, l2, l3, l4, l5] (.int (xi + yi) :: st) S Q := pv_iadd (pm_cdi rfl dX7_set_78)
theorem q94_79 : pm_V d 94 79 [l0, l1, l2, l3, .long xj, l5] st S Q = pm_V d 94 81 [l0, l1, l2, l3, .long xj, l5] (.long xj :: st) S Q := pv_lload (pm_cdi rfl dX7_set_79) rfl
theorem q94_81 (hs : pm_ar S an 1 xi = true) : pm_V d 94 81 [l0, l1, l2, l3, l4, l5] (.long vj :: .int xi :: .ref an :: st) S Q = pm_V d 94 82 [l0, l1, l2, l3, l4, l5] st (pm_szl S an xi.toNatClampNeg vj) Q := pv_last (pm_cdi rfl dX7_set_81) hs
theorem q94_82 : pm_V d 94 82 [.ref xn, l1, l2, l3, l4, l5] st S Q = pm_V d 94 83 [.ref xn, l1, l2, l3, l4, l5] (.ref xn :: st) S Q := pv_aload_n (pm_cdi rfl dX7_set_82) rfl
theorem q94_83 : pm_V d 94 83 [l0, l1, l2, l3, l4, l5] st S Q = pm_V d 94 84 [l0, l1, l2, l3, l4, l5] (.int 0 :: st) S Q := pv_iconst (pm_cdi rfl dX7_set_83) (by decide +kernel)
theorem q94_84 (hs : pm_sh S an = .inr 7) (hx : xi = 0 ∨ xi = 1) : pm_V d 94 84 [l0, l1, l2, l3, l4, l5] (.int xi :: .ref an :: st) S Q = pm_V d 94 87 [l0, l1, l2, l3, l4, l5] st (pm_sgi S an 21 xi) Q := pv_putZ (pm_cdi rfl dX7_set_84) (by decide +kernel) (by decide +kernel) (by decide +kernel) hs hx
theorem q94_87 : pm_V d 94 87 [l0, l1, l2, l3, l4, l5] st S Q = pm_V d 94 88 [l0, l1, l2, l3, l4, l5] (.int 1 :: st) S Q := pv_iconst (pm_cdi rfl dX7_set_87) (by decide +kernel)
theorem q94_88 : pm_V d 94 88 [l0, l1, l2, l3, l4, l5] [.int xi] S Q = Q (some (.int xi)) S := pv_rI (pm_cdi rfl dX7_set_88) (by decide +kernel)
theorem q94_e : pm_N d 94 [.ref an, .int v0i, .int v1i, .int v2i, .long v3j] S Q = pm_V d 94 0 [.ref an, .int v0i, .int v1i, .int v2i, .long v3j, pm_j] [] S Q := pv_ent (Nat.le_of_ble_eq_true rfl) rfl
/-! 95: ViewsJoinsModel.label(III)I -/
theorem dX7_label_0 : decode cX7_label 0 = .ok (.iload_n 1, 1) := by decide +kernel
theorem dX7_label_1 : decode cX7_label 1 = .ok (.iconst 0, 1) := by decide +kernel
theorem dX7_label_2 : decode cX7_label 2 = .ok (.iconst 3, 1) := by decide +kernel
theorem dX7_label_3 : decode cX7_label 3 = .ok (.invokestatic 119, 3) := by decide +kernel
theorem dX7_label_6 : decode cX7_label 6 = .ok (.ifCond .eq 23, 3) := by decide +kernel
theorem dX7_label_9 : decode cX7_label 9 = .ok (.iload_n 2, 1) := by decide +kernel
theorem dX7_label_10 : decode cX7_label 10 = .ok (.iconst 0, 1) := by decide +kernel
theorem dX7_label_11 : decode cX7_label 11 = .ok (.bipush 39, 2) := by decide +kernel
theorem dX7_label_13 : decode cX7_label 13 = .ok (.invokestatic 119, 3) := by decide +kernel
theorem dX7_label_16 : decode cX7_label 16 = .ok (.ifCond .eq 13, 3) := by decide +kernel
theorem dX7_label_19 : decode cX7_label 19 = .ok (.iload_n 3, 1) := by decide +kernel
theorem dX7_label_20 : decode cX7_label 20 = .ok (.iconst (-1), 1) := by decide +kernel
theorem dX7_label_21 : decode cX7_label 21 = .ok (.bipush 9, 2) := by decide +kernel
theorem dX7_label_23 : decode cX7_label 23 = .ok (.invokestatic 119, 3) := by decide +kernel
theorem dX7_label_26 : decode cX7_label 26 = .ok (.ifCond .ne 6, 3) := by decide +kernel
theorem dX7_label_29 : decode cX7_label 29 = .ok (.bipush (-2), 2) := by decide +kernel
theorem dX7_label_31 : decode cX7_label 31 = .ok (.ireturn, 1) := by decide +kernel
theorem dX7_label_32 : decode cX7_label 32 = .ok (.aload_n 0, 1) := by decide +kernel
theorem dX7_label_33 : decode cX7_label 33 = .ok (.getfield 72, 3) := by decide +kernel
theorem dX7_label_36 : decode cX7_label 36 = .ok (.bipush 40, 2) := by decide +kernel
theorem dX7_label_38 : decode cX7_label 38 = .ok (.iload_n 1, 1) := by decide +kernel
theorem dX7_label_39 : decode cX7_label 39 = .ok (.imul, 1) := by decide +kernel
theorem dX7_label_40 : decode cX7_label 40 = .ok (.iload_n 2, 1) := by decide +kernel
theorem dX7_label_41 : decode cX7_label 41 = .ok (.iadd, 1) := by decide +kernel
theorem dX7_label_42 : decode cX7_label 42 = .ok (.iaload, 1) := by decide +kernel
theorem dX7_label_43 : decode cX7_label 43 = .ok (.istore 4, 2) := by decide +kernel
theorem dX7_label_45 : decode cX7_label 45 = .ok (.aload_n 0, 1) := by decide +kernel
theorem dX7_label_46 : decode cX7_label 46 = .ok (.getfield 72, 3) := by decide +kernel
theorem dX7_label_49 : decode cX7_label 49 = .ok (.bipush 40, 2) := by decide +kernel
theorem dX7_label_51 : decode cX7_label 51 = .ok (.iload_n 1, 1) := by decide +kernel
theorem dX7_label_52 : decode cX7_label 52 = .ok (.imul, 1) := by decide +kernel
theorem dX7_label_53 : decode cX7_label 53 = .ok (.iload_n 2, 1) := by decide +kernel
theorem dX7_label_54 : decode cX7_label 54 = .ok (.iadd, 1) := by decide +kernel
theorem dX7_label_55 : decode cX7_label 55 = .ok (.iload_n 3, 1) := by decide +kernel
theorem dX7_label_56 : decode cX7_label 56 = .ok (.iastore, 1) := by decide +kernel
theorem dX7_label_57 : decode cX7_label 57 = .ok (.aload_n 0, 1) := by decide +kernel
theorem dX7_label_58 : decode cX7_label 58 = .ok (.iconst 0, 1) := by decide +kernel
theorem dX7_label_59 : decode cX7_label 59 = .ok (.putfield 132, 3) := by decide +kernel
theorem dX7_label_62 : decode cX7_label 62 = .ok (.iload 4, 2) := by decide +kernel
theorem dX7_label_64 : decode cX7_label 64 = .ok (.ireturn, 1) := by decide +kernel
theorem q95_0 : pm_V d 95 0 [l0, .int xi, l2, l3, l4] st S Q = pm_V d 95 1 [l0, .int xi, l2, l3, l4] (.int xi :: st) S Q := pv_iload_n (pm_cdi rfl dX7_label_0) rfl
theorem q95_1 : pm_V d 95 1 [l0, l1, l2, l3, l4] st S Q = pm_V d 95 2 [l0, l1, l2, l3, l4] (.int 0 :: st) S Q := pv_iconst (pm_cdi rfl dX7_label_1) (by decide +kernel)
theorem q95_2 : pm_V d 95 2 [l0, l1, l2, l3, l4] st S Q = pm_V d 95 3 [l0, l1, l2, l3, l4] (.int 3 :: st) S Q := pv_iconst (pm_cdi rfl dX7_label_2) (by decide +kernel)
theorem q95_3 : pm_V (d + 1) 95 3 [l0, l1, l2, l3, l4] [.int v2i, .int v1i, .int v0i] S Q = pm_N d 87 [.int v0i, .int v1i, .int v2i] S (fun r S' => pm_V (d + 1) 95 6 [l0, l1, l2, l3, l4] (r.toList ++ []) S' Q) := pv_callS (as := [.int v0i, .int v1i, .int v2i]) (pm_cdi rfl dX7_label_3) (by decide +kernel) (by decide +kernel) (show _ = _ from (by decide +kernel : 3 = pm_np 87)) rfl (Nat.le_of_ble_eq_true rfl)
theorem q95_6 : pm_V d 95 6 [l0, l1, l2, l3, l4] (.int xi :: st) S Q = if xi = 0 then pm_V d 95 29 [l0, l1, l2, l3, l4] st S Q else pm_V d 95 9 [l0, l1, l2, l3, l4] st S Q := pv_if_eq (pm_cdi rfl dX7_label_6) rfl
theorem q95_9 : pm_V d 95 9 [l0, l1, .int xi, l3, l4] st S Q = pm_V d 95 10 [l0, l1, .int xi, l3, l4] (.int xi :: st) S Q := pv_iload_n (pm_cdi rfl dX7_label_9) rfl
theorem q95_10 : pm_V d 95 10 [l0, l1, l2, l3, l4] st S Q = pm_V d 95 11 [l0, l1, l2, l3, l4] (.int 0 :: st) S Q := pv_iconst (pm_cdi rfl dX7_label_10) (by decide +kernel)
theorem q95_11 : pm_V d 95 11 [l0, l1, l2, l3, l4] st S Q = pm_V d 95 13 [l0, l1, l2, l3, l4] (.int 39 :: st) S Q := pv_bipush (pm_cdi rfl dX7_label_11) (by decide +kernel)
theorem q95_13 : pm_V (d + 1) 95 13 [l0, l1, l2, l3, l4] [.int v2i, .int v1i, .int v0i] S Q = pm_N d 87 [.int v0i, .int v1i, .int v2i] S (fun r S' => pm_V (d + 1) 95 16 [l0, l1, l2, l3, l4] (r.toList ++ []) S' Q) := pv_callS (as := [.int v0i, .int v1i, .int v2i]) (pm_cdi rfl dX7_label_13) (by decide +kernel) (by decide +kernel) (show _ = _ from (by decide +kernel : 3 = pm_np 87)) rfl (Nat.le_of_ble_eq_true rfl)
theorem q95_16 : pm_V d 95 16 [l0, l1, l2, l3, l4] (.int xi :: st) S Q = if xi = 0 then pm_V d 95 29 [l0, l1, l2, l3, l4] st S Q else pm_V d 95 19 [l0, l1, l2, l3, l4] st S Q := pv_if_eq (pm_cdi rfl dX7_label_16) rfl
theorem q95_19 : pm_V d 95 19 [l0, l1, l2, .int xi, l4] st S Q = pm_V d 95 20 [l0, l1, l2, .int xi, l4] (.int xi :: st) S Q := pv_iload_n (pm_cdi rfl dX7_label_19) rfl
theorem q95_20 : pm_V d 95 20 [l0, l1, l2, l3, l4] st S Q = pm_V d 95 21 [l0, l1, l2, l3, l4] (.int (-1) :: st) S Q := pv_iconst (pm_cdi rfl dX7_label_20) (by decide +kernel)
theorem q95_21 : pm_V d 95 21 [l0, l1, l2, l3, l4] st S Q = pm_V d 95 23 [l0, l1, l2, l3, l4] (.int 9 :: st) S Q := pv_bipush (pm_cdi rfl dX7_label_21) (by decide +kernel)
theorem q95_23 : pm_V (d + 1) 95 23 [l0, l1, l2, l3, l4] [.int v2i, .int v1i, .int v0i] S Q = pm_N d 87 [.int v0i, .int v1i, .int v2i] S (fun r S' => pm_V (d + 1) 95 26 [l0, l1, l2, l3, l4] (r.toList ++ []) S' Q) := pv_callS (as := [.int v0i, .int v1i, .int v2i]) (pm_cdi rfl dX7_label_23) (by decide +kernel) (by decide +kernel) (show _ = _ from (by decide +kernel : 3 = pm_np 87)) rfl (Nat.le_of_ble_eq_true rfl)
theorem q95_26 : pm_V d 95 26 [l0, l1, l2, l3, l4] (.int xi :: st) S Q = if xi = 0 then pm_V d 95 29 [l0, l1, l2, l3, l4] st S Q else pm_V d 95 32 [l0, l1, l2, l3, l4] st S Q := pv_if_ne (pm_cdi rfl dX7_label_26) rfl
theorem q95_29 : pm_V d 95 29 [l0, l1, l2, l3, l4] st S Q = pm_V d 95 31 [l0, l1, l2, l3, l4] (.int (-2) :: st) S Q := pv_bipush (pm_cdi rfl dX7_label_29) (by decide +kernel)
theorem q95_31 : pm_V d 95 31 [l0, l1, l2, l3, l4] [.int xi] S Q = Q (some (.int xi)) S := pv_rI (pm_cdi rfl dX7_label_31) (by decide +kernel)
theorem q95_32 : pm_V d 95 32 [.ref xn, l1, l2, l3, l4] st S Q = pm_V d 95 33 [.ref xn, l1, l2, l3, l4] (.ref xn :: st) S Q := pv_aload_n (pm_cdi rfl dX7_label_32) rfl
theorem q95_33 (hs : pm_sh S an = .inr 7) : pm_V d 95 33 [l0, l1, l2, l3, l4] (.ref an :: st) S Q = pm_V d 95 36 [l0, l1, l2, l3, l4] (va_rf (pm_gr S an 22) :: st) S Q := pv_getA (pm_cdi rfl dX7_label_33) (by decide +kernel) (by decide +kernel) (by decide +kernel) hs
theorem q95_36 : pm_V d 95 36 [l0, l1, l2, l3, l4] st S Q = pm_V d 95 38 [l0, l1, l2, l3, l4] (.int 40 :: st) S Q := pv_bipush (pm_cdi rfl dX7_label_36) (by decide +kernel)
theorem q95_38 : pm_V d 95 38 [l0, .int xi, l2, l3, l4] st S Q = pm_V d 95 39 [l0, .int xi, l2, l3, l4] (.int xi :: st) S Q := pv_iload_n (pm_cdi rfl dX7_label_38) rfl
theorem q95_39 : pm_V d 95 39 [l0, l1, l2, l3, l4] (.int yi :: .int xi :: st) S Q = pm_V d 95 40 [l0, l1, l2, l3, l4] (.int (xi * yi) :: st) S Q := pv_imul (pm_cdi rfl dX7_label_39)
theorem q95_40 : pm_V d 95 40 [l0, l1, .int xi, l3, l4] st S Q = pm_V d 95 41 [l0, l1, .int xi, l3, l4] (.int xi :: st) S Q := pv_iload_n (pm_cdi rfl dX7_label_40) rfl
theorem q95_41 : pm_V d 95 41 [l0, l1, l2, l3, l4] (.int yi :: .int xi :: st) S Q = pm_V d 95 42 [l0, l1, l2, l3, l4] (.int (xi + yi) :: st) S Q := pv_iadd (pm_cdi rfl dX7_label_41)
theorem q95_42 (hs : pm_ar S an 0 xi = true) : pm_V d 95 42 [l0, l1, l2, l3, l4] (.int xi :: .ref an :: st) S Q = pm_V d 95 43 [l0, l1, l2, l3, l4] (.int (pm_zi S an xi.toNatClampNeg) :: st) S Q := pv_iald (pm_cdi rfl dX7_label_42) hs
theorem q95_43 : pm_V d 95 43 [l0, l1, l2, .int yi, l4] (.int xi :: st) S Q = pm_V d 95 45 [l0, l1, l2, .int yi, .int xi] st S Q := pv_istore (pm_cdi rfl dX7_label_43) rfl
theorem q95_45 : pm_V d 95 45 [.ref xn, l1, l2, l3, l4] st S Q = pm_V d 95 46 [.ref xn, l1, l2, l3, l4] (.ref xn :: st) S Q := pv_aload_n (pm_cdi rfl dX7_label_45) rfl
theorem q95_46 (hs : pm_sh S an = .inr 7) : pm_V d 95 46 [l0, l1, l2, l3, l4] (.ref an :: st) S Q = pm_V d 95 49 [l0, l1, l2, l3, l4] (va_rf (pm_gr S an 22) :: st) S Q := pv_getA (pm_cdi rfl dX7_label_46) (by decide +kernel) (by decide +kernel) (by decide +kernel) hs
theorem q95_49 : pm_V d 95 49 [l0, l1, l2, l3, l4] st S Q = pm_V d 95 51 [l0, l1, l2, l3, l4] (.int 40 :: st) S Q := pv_bipush (pm_cdi rfl dX7_label_49) (by decide +kernel)
theorem q95_51 : pm_V d 95 51 [l0, .int xi, l2, l3, l4] st S Q = pm_V d 95 52 [l0, .int xi, l2, l3, l4] (.int xi :: st) S Q := pv_iload_n (pm_cdi rfl dX7_label_51) rfl
theorem q95_52 : pm_V d 95 52 [l0, l1, l2, l3, l4] (.int yi :: .int xi :: st) S Q = pm_V d 95 53 [l0, l1, l2, l3, l4] (.int (xi * yi) :: st) S Q := pv_imul (pm_cdi rfl dX7_label_52)
theorem q95_53 : pm_V d 95 53 [l0, l1, .int xi, l3, l4] st S Q = pm_V d 95 54 [l0, l1, .int xi, l3, l4] (.int xi :: st) S Q := pv_iload_n (pm_cdi rfl dX7_label_53) rfl
theorem q95_54 : pm_V d 95 54 [l0, l1, l2, l3, l4] (.int yi :: .int xi :: st) S Q = pm_V d 95 55 [l0, l1, l2, l3, l4] (.int (xi + yi) :: st) S Q := pv_iadd (pm_cdi rfl dX7_label_54)
theorem q95_55 : pm_V d 95 55 [l0, l1, l2, .int xi, l4] st S Q = pm_V d 95 56 [l0, l1, l2, .int xi, l4] (.int xi :: st) S Q := pv_iload_n (pm_cdi rfl dX7_label_55) rfl
theorem q95_56 (hs : pm_ar S an 0 xi = true) : pm_V d 95 56 [l0, l1, l2, l3, l4] (.int vi :: .int xi :: .ref an :: st) S Q = pm_V d 95 57 [l0, l1, l2, l3, l4] st (pm_szi S an xi.toNatClampNeg vi) Q := pv_iast (pm_cdi rfl dX7_label_56) hs
theorem q95_57 : pm_V d 95 57 [.ref xn, l1, l2, l3, l4] st S Q = pm_V d 95 58 [.ref xn, l1, l2, l3, l4] (.ref xn :: st) S Q := pv_aload_n (pm_cdi rfl dX7_label_57) rfl
theorem q95_58 : pm_V d 95 58 [l0, l1, l2, l3, l4] st S Q = pm_V d 95 59 [l0, l1, l2, l3, l4] (.int 0 :: st) S Q := pv_iconst (pm_cdi rfl dX7_label_58) (by decide +kernel)
theorem q95_59 (hs : pm_sh S an = .inr 7) (hx : xi = 0 ∨ xi = 1) : pm_V d 95 59 [l0, l1, l2, l3, l4] (.int xi :: .ref an :: st) S Q = pm_V d 95 62 [l0, l1, l2, l3, l4] st (pm_sgi S an 21 xi) Q := pv_putZ (pm_cdi rfl dX7_label_59) (by decide +kernel) (by decide +kernel) (by decide +kernel) hs hx
theorem q95_62 : pm_V d 95 62 [l0, l1, l2, l3, .int xi] st S Q = pm_V d 95 64 [l0, l1, l2, l3, .int xi] (.int xi :: st) S Q := pv_iload (pm_cdi rfl dX7_label_62) rfl
theorem q95_64 : pm_V d 95 64 [l0, l1, l2, l3, l4] [.int xi] S Q = Q (some (.int xi)) S := pv_rI (pm_cdi rfl dX7_label_64) (by decide +kernel)
theorem q95_e : pm_N d 95 [.ref an, .int v0i, .int v1i, .int v2i] S Q = pm_V d 95 0 [.ref an, .int v0i, .int v1i, .int v2i, pm_j] [] S Q := pv_ent (Nat.le_of_ble_eq_true rfl) rfl
/-! 96: ViewsJoinsModel.test(IJII)I -/
theorem dX7_test_0 : decode cX7_test 0 = .ok (.iload_n 1, 1) := by decide +kernel
theorem dX7_test_1 : decode cX7_test 1 = .ok (.iconst 0, 1) := by decide +kernel
theorem dX7_test_2 : decode cX7_test 2 = .ok (.bipush 8, 2) := by decide +kernel
theorem dX7_test_4 : decode cX7_test 4 = .ok (.invokestatic 119, 3) := by decide +kernel
theorem dX7_test_7 : decode cX7_test 7 = .ok (.ifCond .eq 37, 3) := by decide +kernel
theorem dX7_test_10 : decode cX7_test 10 = .ok (.iload_n 1, 1) := by decide +kernel
theorem dX7_test_11 : decode cX7_test 11 = .ok (.iconst 3, 1) := by decide +kernel
theorem dX7_test_12 : decode cX7_test 12 = .ok (.if_icmp .le 12, 3) := by decide +kernel
theorem dX7_test_15 : decode cX7_test 15 = .ok (.aload_n 0, 1) := by decide +kernel
theorem dX7_test_16 : decode cX7_test 16 = .ok (.iload 4, 2) := by decide +kernel
theorem dX7_test_18 : decode cX7_test 18 = .ok (.invokevirtual 144, 3) := by decide +kernel
theorem dX7_test_21 : decode cX7_test 21 = .ok (.ifCond .eq 23, 3) := by decide +kernel
theorem dX7_test_24 : decode cX7_test 24 = .ok (.iload_n 1, 1) := by decide +kernel
theorem dX7_test_25 : decode cX7_test 25 = .ok (.iconst 5, 1) := by decide +kernel
theorem dX7_test_26 : decode cX7_test 26 = .ok (.if_icmp .eq 9, 3) := by decide +kernel
theorem dX7_test_29 : decode cX7_test 29 = .ok (.iload_n 1, 1) := by decide +kernel
theorem dX7_test_30 : decode cX7_test 30 = .ok (.bipush 6, 2) := by decide +kernel
theorem dX7_test_32 : decode cX7_test 32 = .ok (.if_icmp .ne 15, 3) := by decide +kernel
theorem dX7_test_35 : decode cX7_test 35 = .ok (.aload_n 0, 1) := by decide +kernel
theorem dX7_test_36 : decode cX7_test 36 = .ok (.iload 5, 2) := by decide +kernel
theorem dX7_test_38 : decode cX7_test 38 = .ok (.invokevirtual 144, 3) := by decide +kernel
theorem dX7_test_41 : decode cX7_test 41 = .ok (.ifCond .ne 6, 3) := by decide +kernel
theorem dX7_test_44 : decode cX7_test 44 = .ok (.ldc 130, 2) := by decide +kernel
theorem dX7_test_46 : decode cX7_test 46 = .ok (.ireturn, 1) := by decide +kernel
theorem dX7_test_47 : decode cX7_test 47 = .ok (.aload_n 0, 1) := by decide +kernel
theorem dX7_test_48 : decode cX7_test 48 = .ok (.getfield 127, 3) := by decide +kernel
theorem dX7_test_51 : decode cX7_test 51 = .ok (.bipush 20, 2) := by decide +kernel
theorem dX7_test_53 : decode cX7_test 53 = .ok (.if_icmp .ne 6, 3) := by decide +kernel
theorem dX7_test_56 : decode cX7_test 56 = .ok (.ldc 131, 2) := by decide +kernel
theorem dX7_test_58 : decode cX7_test 58 = .ok (.ireturn, 1) := by decide +kernel
theorem dX7_test_59 : decode cX7_test 59 = .ok (.aload_n 0, 1) := by decide +kernel
theorem dX7_test_60 : decode cX7_test 60 = .ok (.getfield 75, 3) := by decide +kernel
theorem dX7_test_63 : decode cX7_test 63 = .ok (.aload_n 0, 1) := by decide +kernel
theorem dX7_test_64 : decode cX7_test 64 = .ok (.getfield 127, 3) := by decide +kernel
theorem dX7_test_67 : decode cX7_test 67 = .ok (.iload_n 1, 1) := by decide +kernel
theorem dX7_test_68 : decode cX7_test 68 = .ok (.iastore, 1) := by decide +kernel
theorem dX7_test_69 : decode cX7_test 69 = .ok (.aload_n 0, 1) := by decide +kernel
theorem dX7_test_70 : decode cX7_test 70 = .ok (.getfield 78, 3) := by decide +kernel
theorem dX7_test_73 : decode cX7_test 73 = .ok (.aload_n 0, 1) := by decide +kernel
theorem dX7_test_74 : decode cX7_test 74 = .ok (.getfield 127, 3) := by decide +kernel
theorem dX7_test_77 : decode cX7_test 77 = .ok (.lload_n 2, 1) := by decide +kernel
theorem dX7_test_78 : decode cX7_test 78 = .ok (.lastore, 1) := by decide +kernel
theorem dX7_test_79 : decode cX7_test 79 = .ok (.aload_n 0, 1) := by decide +kernel
theorem dX7_test_80 : decode cX7_test 80 = .ok (.getfield 81, 3) := by decide +kernel
theorem dX7_test_83 : decode cX7_test 83 = .ok (.aload_n 0, 1) := by decide +kernel
theorem dX7_test_84 : decode cX7_test 84 = .ok (.getfield 127, 3) := by decide +kernel
theorem dX7_test_87 : decode cX7_test 87 = .ok (.iload 4, 2) := by decide +kernel
theorem dX7_test_89 : decode cX7_test 89 = .ok (.iastore, 1) := by decide +kernel
theorem dX7_test_90 : decode cX7_test 90 = .ok (.aload_n 0, 1) := by decide +kernel
theorem dX7_test_91 : decode cX7_test 91 = .ok (.getfield 84, 3) := by decide +kernel
theorem dX7_test_94 : decode cX7_test 94 = .ok (.aload_n 0, 1) := by decide +kernel
theorem dX7_test_95 : decode cX7_test 95 = .ok (.getfield 127, 3) := by decide +kernel
theorem dX7_test_98 : decode cX7_test 98 = .ok (.iload 5, 2) := by decide +kernel
theorem dX7_test_100 : decode cX7_test 100 = .ok (.iastore, 1) := by decide +kernel
theorem dX7_test_101 : decode cX7_test 101 = .ok (.aload_n 0, 1) := by decide +kernel
theorem dX7_test_102 : decode cX7_test 102 = .ok (.dup, 1) := by decide +kernel
theorem dX7_test_103 : decode cX7_test 103 = .ok (.getfield 127, 3) := by decide +kernel
theorem dX7_test_106 : decode cX7_test 106 = .ok (.iconst 1, 1) := by decide +kernel
theorem dX7_test_107 : decode cX7_test 107 = .ok (.iadd, 1) := by decide +kernel
theorem dX7_test_108 : decode cX7_test 108 = .ok (.putfield 127, 3) := by decide +kernel
theorem dX7_test_111 : decode cX7_test 111 = .ok (.aload_n 0, 1) := by decide +kernel
theorem dX7_test_112 : decode cX7_test 112 = .ok (.getfield 127, 3) := by decide +kernel
theorem dX7_test_115 : decode cX7_test 115 = .ok (.iconst 1, 1) := by decide +kernel
theorem dX7_test_116 : decode cX7_test 116 = .ok (.isub, 1) := by decide +kernel
theorem dX7_test_117 : decode cX7_test 117 = .ok (.ireturn, 1) := by decide +kernel
theorem q96_0 : pm_V d 96 0 [l0, .int xi, l2, l3, l4, l5] st S Q = pm_V d 96 1 [l0, .int xi, l2, l3, l4, l5] (.int xi :: st) S Q := pv_iload_n (pm_cdi rfl dX7_test_0) rfl
theorem q96_1 : pm_V d 96 1 [l0, l1, l2, l3, l4, l5] st S Q = pm_V d 96 2 [l0, l1, l2, l3, l4, l5] (.int 0 :: st) S Q := pv_iconst (pm_cdi rfl dX7_test_1) (by decide +kernel)
theorem q96_2 : pm_V d 96 2 [l0, l1, l2, l3, l4, l5] st S Q = pm_V d 96 4 [l0, l1, l2, l3, l4, l5] (.int 8 :: st) S Q := pv_bipush (pm_cdi rfl dX7_test_2) (by decide +kernel)
theorem q96_4 : pm_V (d + 1) 96 4 [l0, l1, l2, l3, l4, l5] [.int v2i, .int v1i, .int v0i] S Q = pm_N d 87 [.int v0i, .int v1i, .int v2i] S (fun r S' => pm_V (d + 1) 96 7 [l0, l1, l2, l3, l4, l5] (r.toList ++ []) S' Q) := pv_callS (as := [.int v0i, .int v1i, .int v2i]) (pm_cdi rfl dX7_test_4) (by decide +kernel) (by decide +kernel) (show _ = _ from (by decide +kernel : 3 = pm_np 87)) rfl (Nat.le_of_ble_eq_true rfl)
theorem q96_7 : pm_V d 96 7 [l0, l1, l2, l3, l4, l5] (.int xi :: st) S Q = if xi = 0 then pm_V d 96 44 [l0, l1, l2, l3, l4, l5] st S Q else pm_V d 96 10 [l0, l1, l2, l3, l4, l5] st S Q := pv_if_eq (pm_cdi rfl dX7_test_7) rfl
theorem q96_10 : pm_V d 96 10 [l0, .int xi, l2, l3, l4, l5] st S Q = pm_V d 96 11 [l0, .int xi, l2, l3, l4, l5] (.int xi :: st) S Q := pv_iload_n (pm_cdi rfl dX7_test_10) rfl
theorem q96_11 : pm_V d 96 11 [l0, l1, l2, l3, l4, l5] st S Q = pm_V d 96 12 [l0, l1, l2, l3, l4, l5] (.int 3 :: st) S Q := pv_iconst (pm_cdi rfl dX7_test_11) (by decide +kernel)
theorem q96_12 : pm_V d 96 12 [l0, l1, l2, l3, l4, l5] (.int yi :: .int xi :: st) S Q = if xi ≤ yi then pm_V d 96 24 [l0, l1, l2, l3, l4, l5] st S Q else pm_V d 96 15 [l0, l1, l2, l3, l4, l5] st S Q := pv_icmp_le (pm_cdi rfl dX7_test_12) rfl
theorem q96_15 : pm_V d 96 15 [.ref xn, l1, l2, l3, l4, l5] st S Q = pm_V d 96 16 [.ref xn, l1, l2, l3, l4, l5] (.ref xn :: st) S Q := pv_aload_n (pm_cdi rfl dX7_test_15) rfl
theorem q96_16 : pm_V d 96 16 [l0, l1, l2, l3, .int xi, l5] st S Q = pm_V d 96 18 [l0, l1, l2, l3, .int xi, l5] (.int xi :: st) S Q := pv_iload (pm_cdi rfl dX7_test_16) rfl
theorem q96_18 (hs : pm_sh S an = .inr 7) : pm_V (d + 1) 96 18 [l0, l1, l2, l3, l4, l5] [.int v0i, .ref an] S Q = pm_N d 91 [.ref an, .int v0i] S (fun r S' => pm_V (d + 1) 96 21 [l0, l1, l2, l3, l4, l5] (r.toList ++ []) S' Q) := pv_callV (as := [.int v0i]) (pm_cdi rfl dX7_test_18) (Or.inl (by decide +kernel)) (by decide +kernel) (show _ = _ from (by decide +kernel : 1 = pm_np 91)) rfl (Nat.le_of_ble_eq_true rfl) (cl := 7) (by decide +kernel) hs
theorem q96_21 : pm_V d 96 21 [l0, l1, l2, l3, l4, l5] (.int xi :: st) S Q = if xi = 0 then pm_V d 96 44 [l0, l1, l2, l3, l4, l5] st S Q else pm_V d 96 24 [l0, l1, l2, l3, l4, l5] st S Q := pv_if_eq (pm_cdi rfl dX7_test_21) rfl
theorem q96_24 : pm_V d 96 24 [l0, .int xi, l2, l3, l4, l5] st S Q = pm_V d 96 25 [l0, .int xi, l2, l3, l4, l5] (.int xi :: st) S Q := pv_iload_n (pm_cdi rfl dX7_test_24) rfl
theorem q96_25 : pm_V d 96 25 [l0, l1, l2, l3, l4, l5] st S Q = pm_V d 96 26 [l0, l1, l2, l3, l4, l5] (.int 5 :: st) S Q := pv_iconst (pm_cdi rfl dX7_test_25) (by decide +kernel)
theorem q96_26 : pm_V d 96 26 [l0, l1, l2, l3, l4, l5] (.int yi :: .int xi :: st) S Q = if xi = yi then pm_V d 96 35 [l0, l1, l2, l3, l4, l5] st S Q else pm_V d 96 29 [l0, l1, l2, l3, l4, l5] st S Q := pv_icmp_eq (pm_cdi rfl dX7_test_26) rfl
theorem q96_29 : pm_V d 96 29 [l0, .int xi, l2, l3, l4, l5] st S Q = pm_V d 96 30 [l0, .int xi, l2, l3, l4, l5] (.int xi :: st) S Q := pv_iload_n (pm_cdi rfl dX7_test_29) rfl
theorem q96_30 : pm_V d 96 30 [l0, l1, l2, l3, l4, l5] st S Q = pm_V d 96 32 [l0, l1, l2, l3, l4, l5] (.int 6 :: st) S Q := pv_bipush (pm_cdi rfl dX7_test_30) (by decide +kernel)
theorem q96_32 : pm_V d 96 32 [l0, l1, l2, l3, l4, l5] (.int yi :: .int xi :: st) S Q = if xi = yi then pm_V d 96 35 [l0, l1, l2, l3, l4, l5] st S Q else pm_V d 96 47 [l0, l1, l2, l3, l4, l5] st S Q := pv_icmp_ne (pm_cdi rfl dX7_test_32) rfl
theorem q96_35 : pm_V d 96 35 [.ref xn, l1, l2, l3, l4, l5] st S Q = pm_V d 96 36 [.ref xn, l1, l2, l3, l4, l5] (.ref xn :: st) S Q := pv_aload_n (pm_cdi rfl dX7_test_35) rfl
theorem q96_36 : pm_V d 96 36 [l0, l1, l2, l3, l4, .int xi] st S Q = pm_V d 96 38 [l0, l1, l2, l3, l4, .int xi] (.int xi :: st) S Q := pv_iload (pm_cdi rfl dX7_test_36) rfl
theorem q96_38 (hs : pm_sh S an = .inr 7) : pm_V (d + 1) 96 38 [l0, l1, l2, l3, l4, l5] [.int v0i, .ref an] S Q = pm_N d 91 [.ref an, .int v0i] S (fun r S' => pm_V (d + 1) 96 41 [l0, l1, l2, l3, l4, l5] (r.toList ++ []) S' Q) := pv_callV (as := [.int v0i]) (pm_cdi rfl dX7_test_38) (Or.inl (by decide +kernel)) (by decide +kernel) (show _ = _ from (by decide +kernel : 1 = pm_np 91)) rfl (Nat.le_of_ble_eq_true rfl) (cl := 7) (by decide +kernel) hs
theorem q96_41 : pm_V d 96 41 [l0, l1, l2, l3, l4, l5] (.int xi :: st) S Q = if xi = 0 then pm_V d 96 44 [l0, l1, l2, l3, l4, l5] st S Q else pm_V d 96 47 [l0, l1, l2, l3, l4, l5] st S Q := pv_if_ne (pm_cdi rfl dX7_test_41) rfl
theorem q96_44 : pm_V d 96 44 [l0, l1, l2, l3, l4, l5] st S Q = pm_V d 96 46 [l0, l1, l2, l3, l4, l5] (.int (-1000001) :: st) S Q := pv_ldc (pm_cdi rfl dX7_test_44) (by decide +kernel)
theorem q96_46 : pm_V d 96 46 [l0, l1, l2, l3, l4, l5] [.int xi] S Q = Q (some (.int xi)) S := pv_rI (pm_cdi rfl dX7_test_46) (by decide +kernel)
theorem q96_47 : pm_V d 96 47 [.ref xn, l1, l2, l3, l4, l5] st S Q = pm_V d 96 48 [.ref xn, l1, l2, l3, l4, l5] (.ref xn :: st) S Q := pv_aload_n (pm_cdi rfl dX7_test_47) rfl
theorem q96_48 (hs : pm_sh S an = .inr 7) : pm_V d 96 48 [l0, l1, l2, l3, l4, l5] (.ref an :: st) S Q = pm_V d 96 51 [l0, l1, l2, l3, l4, l5] (.int (pm_gi S an 23) :: st) S Q := pv_getI (pm_cdi rfl dX7_test_48) (by decide +kernel) (by decide +kernel) (by decide +kernel) hs
theorem q96_51 : pm_V d 96 51 [l0, l1, l2, l3, l4, l5] st S Q = pm_V d 96 53 [l0, l1, l2, l3, l4, l5] (.int 20 :: st) S Q := pv_bipush (pm_cdi rfl dX7_test_51) (by decide +kernel)
theorem q96_53 : pm_V d 96 53 [l0, l1, l2, l3, l4, l5] (.int yi :: .int xi :: st) S Q = if xi = yi then pm_V d 96 56 [l0, l1, l2, l3, l4, l5] st S Q else pm_V d 96 59 [l0, l1, l2, l3, l4, l5] st S Q := pv_icmp_ne (pm_cdi rfl dX7_test_53) rfl
theorem q96_56 : pm_V d 96 56 [l0, l1, l2, l3, l4, l5] st S Q = pm_V d 96 58 [l0, l1, l2, l3, l4, l5] (.int (-1000002) :: st) S Q := pv_ldc (pm_cdi rfl dX7_test_56) (by decide +kernel)
theorem q96_58 : pm_V d 96 58 [l0, l1, l2, l3, l4, l5] [.int xi] S Q = Q (some (.int xi)) S := pv_rI (pm_cdi rfl dX7_test_58) (by decide +kernel)
theorem q96_59 : pm_V d 96 59 [.ref xn, l1, l2, l3, l4, l5] st S Q = pm_V d 96 60 [.ref xn, l1, l2, l3, l4, l5] (.ref xn :: st) S Q := pv_aload_n (pm_cdi rfl dX7_test_59) rfl
theorem q96_60 (hs : pm_sh S an = .inr 7) : pm_V d 96 60 [l0, l1, l2, l3, l4, l5] (.ref an :: st) S Q = pm_V d 96 63 [l0, l1, l2, l3, l4, l5] (va_rf (pm_gr S an 24) :: st) S Q := pv_getA (pm_cdi rfl dX7_test_60) (by decide +kernel) (by decide +kernel) (by decide +kernel) hs
theorem q96_63 : pm_V d 96 63 [.ref xn, l1, l2, l3, l4, l5] st S Q = pm_V d 96 64 [.ref xn, l1, l2, l3, l4, l5] (.ref xn :: st) S Q := pv_aload_n (pm_cdi rfl dX7_test_63) rfl
theorem q96_64 (hs : pm_sh S an = .inr 7) : pm_V d 96 64 [l0, l1, l2, l3, l4, l5] (.ref an :: st) S Q = pm_V d 96 67 [l0, l1, l2, l3, l4, l5] (.int (pm_gi S an 23) :: st) S Q := pv_getI (pm_cdi rfl dX7_test_64) (by decide +kernel) (by decide +kernel) (by decide +kernel) hs
theorem q96_67 : pm_V d 96 67 [l0, .int xi, l2, l3, l4, l5] st S Q = pm_V d 96 68 [l0, .int xi, l2, l3, l4, l5] (.int xi :: st) S Q := pv_iload_n (pm_cdi rfl dX7_test_67) rfl
theorem q96_68 (hs : pm_ar S an 0 xi = true) : pm_V d 96 68 [l0, l1, l2, l3, l4, l5] (.int vi :: .int xi :: .ref an :: st) S Q = pm_V d 96 69 [l0, l1, l2, l3, l4, l5] st (pm_szi S an xi.toNatClampNeg vi) Q := pv_iast (pm_cdi rfl dX7_test_68) hs
theorem q96_69 : pm_V d 96 69 [.ref xn, l1, l2, l3, l4, l5] st S Q = pm_V d 96 70 [.ref xn, l1, l2, l3, l4, l5] (.ref xn :: st) S Q := pv_aload_n (pm_cdi rfl dX7_test_69) rfl
theorem q96_70 (hs : pm_sh S an = .inr 7) : pm_V d 96 70 [l0, l1, l2, l3, l4, l5] (.ref an :: st) S Q = pm_V d 96 73 [l0, l1, l2, l3, l4, l5] (va_rf (pm_gr S an 25) :: st) S Q := pv_getA (pm_cdi rfl dX7_test_70) (by decide +kernel) (by decide +kernel) (by decide +kernel) hs
theorem q96_73 : pm_V d 96 73 [.ref xn, l1, l2, l3, l4, l5] st S Q = pm_V d 96 74 [.ref xn, l1, l2, l3, l4, l5] (.ref xn :: st) S Q := pv_aload_n (pm_cdi rfl dX7_test_73) rfl
theorem q96_74 (hs : pm_sh S an = .inr 7) : pm_V d 96 74 [l0, l1, l2, l3, l4, l5] (.ref an :: st) S Q = pm_V d 96 77 [l0, l1, l2, l3, l4, l5] (.int (pm_gi S an 23) :: st) S Q := pv_getI (pm_cdi rfl dX7_test_74) (by decide +kernel) (by decide +kernel) (by decide +kernel) hs
theorem q96_77 : pm_V d 96 77 [l0, l1, .long xj, l3, l4, l5] st S Q = pm_V d 96 78 [l0, l1, .long xj, l3, l4, l5] (.long xj :: st) S Q := pv_lload_n (pm_cdi rfl dX7_test_77) rfl
theorem q96_78 (hs : pm_ar S an 1 xi = true) : pm_V d 96 78 [l0, l1, l2, l3, l4, l5] (.long vj :: .int xi :: .ref an :: st) S Q = pm_V d 96 79 [l0, l1, l2, l3, l4, l5] st (pm_szl S an xi.toNatClampNeg vj) Q := pv_last (pm_cdi rfl dX7_test_78) hs
theorem q96_79 : pm_V d 96 79 [.ref xn, l1, l2, l3, l4, l5] st S Q = pm_V d 96 80 [.ref xn, l1, l2, l3, l4, l5] (.ref xn :: st) S Q := pv_aload_n (pm_cdi rfl dX7_test_79) rfl
theorem q96_80 (hs : pm_sh S an = .inr 7) : pm_V d 96 80 [l0, l1, l2, l3, l4, l5] (.ref an :: st) S Q = pm_V d 96 83 [l0, l1, l2, l3, l4, l5] (va_rf (pm_gr S an 26) :: st) S Q := pv_getA (pm_cdi rfl dX7_test_80) (by decide +kernel) (by decide +kernel) (by decide +kernel) hs
theorem q96_83 : pm_V d 96 83 [.ref xn, l1, l2, l3, l4, l5] st S Q = pm_V d 96 84 [.ref xn, l1, l2, l3, l4, l5] (.ref xn :: st) S Q := pv_aload_n (pm_cdi rfl dX7_test_83) rfl
theorem q96_84 (hs : pm_sh S an = .inr 7) : pm_V d 96 84 [l0, l1, l2, l3, l4, l5] (.ref an :: st) S Q = pm_V d 96 87 [l0, l1, l2, l3, l4, l5] (.int (pm_gi S an 23) :: st) S Q := pv_getI (pm_cdi rfl dX7_test_84) (by decide +kernel) (by decide +kernel) (by decide +kernel) hs
theorem q96_87 : pm_V d 96 87 [l0, l1, l2, l3, .int xi, l5] st S Q = pm_V d 96 89 [l0, l1, l2, l3, .int xi, l5] (.int xi :: st) S Q := pv_iload (pm_cdi rfl dX7_test_87) rfl
theorem q96_89 (hs : pm_ar S an 0 xi = true) : pm_V d 96 89 [l0, l1, l2, l3, l4, l5] (.int vi :: .int xi :: .ref an :: st) S Q = pm_V d 96 90 [l0, l1, l2, l3, l4, l5] st (pm_szi S an xi.toNatClampNeg vi) Q := pv_iast (pm_cdi rfl dX7_test_89) hs
theorem q96_90 : pm_V d 96 90 [.ref xn, l1, l2, l3, l4, l5] st S Q = pm_V d 96 91 [.ref xn, l1, l2, l3, l4, l5] (.ref xn :: st) S Q := pv_aload_n (pm_cdi rfl dX7_test_90) rfl
theorem q96_91 (hs : pm_sh S an = .inr 7) : pm_V d 96 91 [l0, l1, l2, l3, l4, l5] (.ref an :: st) S Q = pm_V d 96 94 [l0, l1, l2, l3, l4, l5] (va_rf (pm_gr S an 27) :: st) S Q := pv_getA (pm_cdi rfl dX7_test_91) (by decide +kernel) (by decide +kernel) (by decide +kernel) hs
theorem q96_94 : pm_V d 96 94 [.ref xn, l1, l2, l3, l4, l5] st S Q = pm_V d 96 95 [.ref xn, l1, l2, l3, l4, l5] (.ref xn :: st) S Q := pv_aload_n (pm_cdi rfl dX7_test_94) rfl
theorem q96_95 (hs : pm_sh S an = .inr 7) : pm_V d 96 95 [l0, l1, l2, l3, l4, l5] (.ref an :: st) S Q = pm_V d 96 98 [l0, l1, l2, l3, l4, l5] (.int (pm_gi S an 23) :: st) S Q := pv_getI (pm_cdi rfl dX7_test_95) (by decide +kernel) (by decide +kernel) (by decide +kernel) hs
theorem q96_98 : pm_V d 96 98 [l0, l1, l2, l3, l4, .int xi] st S Q = pm_V d 96 100 [l0, l1, l2, l3, l4, .int xi] (.int xi :: st) S Q := pv_iload (pm_cdi rfl dX7_test_98) rfl
theorem q96_100 (hs : pm_ar S an 0 xi = true) : pm_V d 96 100 [l0, l1, l2, l3, l4, l5] (.int vi :: .int xi :: .ref an :: st) S Q = pm_V d 96 101 [l0, l1, l2, l3, l4, l5] st (pm_szi S an xi.toNatClampNeg vi) Q := pv_iast (pm_cdi rfl dX7_test_100) hs
theorem q96_101 : pm_V d 96 101 [.ref xn, l1, l2, l3, l4, l5] st S Q = pm_V d 96 102 [.ref xn, l1, l2, l3, l4, l5] (.ref xn :: st) S Q := pv_aload_n (pm_cdi rfl dX7_test_101) rfl
theorem q96_102 : pm_V d 96 102 [l0, l1, l2, l3, l4, l5] (.ref xn :: st) S Q = pm_V d 96 103 [l0, l1, l2, l3, l4, l5] (.ref xn :: .ref xn :: st) S Q := pv_dupA (pm_cdi rfl dX7_test_102)
theorem q96_103 (hs : pm_sh S an = .inr 7) : pm_V d 96 103 [l0, l1, l2, l3, l4, l5] (.ref an :: st) S Q = pm_V d 96 106 [l0, l1, l2, l3, l4, l5] (.int (pm_gi S an 23) :: st) S Q := pv_getI (pm_cdi rfl dX7_test_103) (by decide +kernel) (by decide +kernel) (by decide +kernel) hs
theorem q96_106 : pm_V d 96 106 [l0, l1, l2, l3, l4, l5] st S Q = pm_V d 96 107 [l0, l1, l2, l3, l4, l5] (.int 1 :: st) S Q := pv_iconst (pm_cdi rfl dX7_test_106) (by decide +kernel)
theorem q96_107 : pm_V d 96 107 [l0, l1, l2, l3, l4, l5] (.int yi :: .int xi :: st) S Q = pm_V d 96 108 [l0, l1, l2, l3, l4, l5] (.int (xi + yi) :: st) S Q := pv_iadd (pm_cdi rfl dX7_test_107)
theorem q96_108 (hs : pm_sh S an = .inr 7) : pm_V d 96 108 [l0, l1, l2, l3, l4, l5] (.int xi :: .ref an :: st) S Q = pm_V d 96 111 [l0, l1, l2, l3, l4, l5] st (pm_sgi S an 23 xi) Q := pv_putI (pm_cdi rfl dX7_test_108) (by decide +kernel) (by decide +kernel) (by decide +kernel) hs
theorem q96_111 : pm_V d 96 111 [.ref xn, l1, l2, l3, l4, l5] st S Q = pm_V d 96 112 [.ref xn, l1, l2, l3, l4, l5] (.ref xn :: st) S Q := pv_aload_n (pm_cdi rfl dX7_test_111) rfl
theorem q96_112 (hs : pm_sh S an = .inr 7) : pm_V d 96 112 [l0, l1, l2, l3, l4, l5] (.ref an :: st) S Q = pm_V d 96 115 [l0, l1, l2, l3, l4, l5] (.int (pm_gi S an 23) :: st) S Q := pv_getI (pm_cdi rfl dX7_test_112) (by decide +kernel) (by decide +kernel) (by decide +kernel) hs
theorem q96_115 : pm_V d 96 115 [l0, l1, l2, l3, l4, l5] st S Q = pm_V d 96 116 [l0, l1, l2, l3, l4, l5] (.int 1 :: st) S Q := pv_iconst (pm_cdi rfl dX7_test_115) (by decide +kernel)
theorem q96_116 : pm_V d 96 116 [l0, l1, l2, l3, l4, l5] (.int yi :: .int xi :: st) S Q = pm_V d 96 117 [l0, l1, l2, l3, l4, l5] (.int (xi - yi) :: st) S Q := pv_isub (pm_cdi rfl dX7_test_116)
theorem q96_117 : pm_V d 96 117 [l0, l1, l2, l3, l4, l5] [.int xi] S Q = Q (some (.int xi)) S := pv_rI (pm_cdi rfl dX7_test_117) (by decide +kernel)
theorem q96_e : pm_N d 96 [.ref an, .int v0i, .long v1j, .int v2i, .int v3i] S Q = pm_V d 96 0 [.ref an, .int v0i, .long v1j, pm_j, .int v2i, .int v3i] [] S Q := pv_ent (Nat.le_of_ble_eq_true rfl) rfl
/-! 97: ViewsJoinsModel.isTold(IIIII)Z -/
theorem dX7_isTold_0 : decode cX7_isTold 0 = .ok (.iload_n 1, 1) := by decide +kernel
theorem dX7_isTold_1 : decode cX7_isTold 1 = .ok (.tableswitch 115 1 6 #[39, 83, 85, 85, 91, 83], 39) := by decide +kernel
theorem dX7_isTold_40 : decode cX7_isTold 40 = .ok (.iload_n 3, 1) := by decide +kernel
theorem dX7_isTold_41 : decode cX7_isTold 41 = .ok (.iconst (-1), 1) := by decide +kernel
theorem dX7_isTold_42 : decode cX7_isTold 42 = .ok (.if_icmp .eq 11, 3) := by decide +kernel
theorem dX7_isTold_45 : decode cX7_isTold 45 = .ok (.aload_n 0, 1) := by decide +kernel
theorem dX7_isTold_46 : decode cX7_isTold 46 = .ok (.iload_n 3, 1) := by decide +kernel
theorem dX7_isTold_47 : decode cX7_isTold 47 = .ok (.invokevirtual 144, 3) := by decide +kernel
theorem dX7_isTold_50 : decode cX7_isTold 50 = .ok (.ifCond .eq 32, 3) := by decide +kernel
theorem dX7_isTold_53 : decode cX7_isTold 53 = .ok (.iload 4, 2) := by decide +kernel
theorem dX7_isTold_55 : decode cX7_isTold 55 = .ok (.iconst (-1), 1) := by decide +kernel
theorem dX7_isTold_56 : decode cX7_isTold 56 = .ok (.if_icmp .eq 12, 3) := by decide +kernel
theorem dX7_isTold_59 : decode cX7_isTold 59 = .ok (.aload_n 0, 1) := by decide +kernel
theorem dX7_isTold_60 : decode cX7_isTold 60 = .ok (.iload 4, 2) := by decide +kernel
theorem dX7_isTold_62 : decode cX7_isTold 62 = .ok (.invokevirtual 144, 3) := by decide +kernel
theorem dX7_isTold_65 : decode cX7_isTold 65 = .ok (.ifCond .eq 17, 3) := by decide +kernel
theorem dX7_isTold_68 : decode cX7_isTold 68 = .ok (.iload 5, 2) := by decide +kernel
theorem dX7_isTold_70 : decode cX7_isTold 70 = .ok (.iconst 0, 1) := by decide +kernel
theorem dX7_isTold_71 : decode cX7_isTold 71 = .ok (.iconst 1, 1) := by decide +kernel
theorem dX7_isTold_72 : decode cX7_isTold 72 = .ok (.invokestatic 119, 3) := by decide +kernel
theorem dX7_isTold_75 : decode cX7_isTold 75 = .ok (.ifCond .eq 7, 3) := by decide +kernel
theorem dX7_isTold_78 : decode cX7_isTold 78 = .ok (.iconst 1, 1) := by decide +kernel
theorem dX7_isTold_79 : decode cX7_isTold 79 = .ok (.goto 4, 3) := by decide +kernel
theorem dX7_isTold_82 : decode cX7_isTold 82 = .ok (.iconst 0, 1) := by decide +kernel
theorem dX7_isTold_83 : decode cX7_isTold 83 = .ok (.ireturn, 1) := by decide +kernel
theorem dX7_isTold_84 : decode cX7_isTold 84 = .ok (.iconst 1, 1) := by decide +kernel
theorem dX7_isTold_85 : decode cX7_isTold 85 = .ok (.ireturn, 1) := by decide +kernel
theorem dX7_isTold_86 : decode cX7_isTold 86 = .ok (.aload_n 0, 1) := by decide +kernel
theorem dX7_isTold_87 : decode cX7_isTold 87 = .ok (.iload_n 3, 1) := by decide +kernel
theorem dX7_isTold_88 : decode cX7_isTold 88 = .ok (.invokevirtual 123, 3) := by decide +kernel
theorem dX7_isTold_91 : decode cX7_isTold 91 = .ok (.ireturn, 1) := by decide +kernel
theorem dX7_isTold_92 : decode cX7_isTold 92 = .ok (.aload_n 0, 1) := by decide +kernel
theorem dX7_isTold_93 : decode cX7_isTold 93 = .ok (.iload_n 3, 1) := by decide +kernel
theorem dX7_isTold_94 : decode cX7_isTold 94 = .ok (.invokevirtual 123, 3) := by decide +kernel
theorem dX7_isTold_97 : decode cX7_isTold 97 = .ok (.ifCond .eq 17, 3) := by decide +kernel
theorem dX7_isTold_100 : decode cX7_isTold 100 = .ok (.iload 4, 2) := by decide +kernel
theorem dX7_isTold_102 : decode cX7_isTold 102 = .ok (.iconst 0, 1) := by decide +kernel
theorem dX7_isTold_103 : decode cX7_isTold 103 = .ok (.iconst 2, 1) := by decide +kernel
theorem dX7_isTold_104 : decode cX7_isTold 104 = .ok (.invokestatic 119, 3) := by decide +kernel
theorem dX7_isTold_107 : decode cX7_isTold 107 = .ok (.ifCond .eq 7, 3) := by decide +kernel
theorem dX7_isTold_110 : decode cX7_isTold 110 = .ok (.iconst 1, 1) := by decide +kernel
theorem dX7_isTold_111 : decode cX7_isTold 111 = .ok (.goto 4, 3) := by decide +kernel
theorem dX7_isTold_114 : decode cX7_isTold 114 = .ok (.iconst 0, 1) := by decide +kernel
theorem dX7_isTold_115 : decode cX7_isTold 115 = .ok (.ireturn, 1) := by decide +kernel
theorem dX7_isTold_116 : decode cX7_isTold 116 = .ok (.iload_n 3, 1) := by decide +kernel
theorem dX7_isTold_117 : decode cX7_isTold 117 = .ok (.iconst 0, 1) := by decide +kernel
theorem dX7_isTold_118 : decode cX7_isTold 118 = .ok (.iconst 3, 1) := by decide +kernel
theorem dX7_isTold_119 : decode cX7_isTold 119 = .ok (.invokestatic 119, 3) := by decide +kernel
theorem dX7_isTold_122 : decode cX7_isTold 122 = .ok (.ifCond .eq 17, 3) := by decide +kernel
theorem dX7_isTold_125 : decode cX7_isTold 125 = .ok (.iload 4, 2) := by decide +kernel
theorem dX7_isTold_127 : decode cX7_isTold 127 = .ok (.iconst 0, 1) := by decide +kernel
theorem dX7_isTold_128 : decode cX7_isTold 128 = .ok (.iconst 2, 1) := by decide +kernel
theorem dX7_isTold_129 : decode cX7_isTold 129 = .ok (.invokestatic 119, 3) := by decide +kernel
theorem dX7_isTold_132 : decode cX7_isTold 132 = .ok (.ifCond .eq 7, 3) := by decide +kernel
theorem dX7_isTold_135 : decode cX7_isTold 135 = .ok (.iconst 1, 1) := by decide +kernel
theorem dX7_isTold_136 : decode cX7_isTold 136 = .ok (.goto 4, 3) := by decide +kernel
theorem dX7_isTold_139 : decode cX7_isTold 139 = .ok (.iconst 0, 1) := by decide +kernel
theorem dX7_isTold_140 : decode cX7_isTold 140 = .ok (.ireturn, 1) := by decide +kernel
theorem q97_0 : pm_V d 97 0 [l0, .int xi, l2, l3, l4, l5] st S Q = pm_V d 97 1 [l0, .int xi, l2, l3, l4, l5] (.int xi :: st) S Q := pv_iload_n (pm_cdi rfl dX7_isTold_0) rfl
theorem q97_1 : pm_V d 97 1 [l0, l1, l2, l3, l4, l5] (.int xi :: st) S Q = pm_V d 97 (pm_tsw xi 1 [40, 84, 86, 86, 92, 84] 116) [l0, l1, l2, l3, l4, l5] st S Q := pv_tsw (pm_cdi rfl dX7_isTold_1) (by decide +kernel) rfl (by decide +kernel)
theorem q97_40 : pm_V d 97 40 [l0, l1, l2, .int xi, l4, l5] st S Q = pm_V d 97 41 [l0, l1, l2, .int xi, l4, l5] (.int xi :: st) S Q := pv_iload_n (pm_cdi rfl dX7_isTold_40) rfl
theorem q97_41 : pm_V d 97 41 [l0, l1, l2, l3, l4, l5] st S Q = pm_V d 97 42 [l0, l1, l2, l3, l4, l5] (.int (-1) :: st) S Q := pv_iconst (pm_cdi rfl dX7_isTold_41) (by decide +kernel)
theorem q97_42 : pm_V d 97 42 [l0, l1, l2, l3, l4, l5] (.int yi :: .int xi :: st) S Q = if xi = yi then pm_V d 97 53 [l0, l1, l2, l3, l4, l5] st S Q else pm_V d 97 45 [l0, l1, l2, l3, l4, l5] st S Q := pv_icmp_eq (pm_cdi rfl dX7_isTold_42) rfl
theorem q97_45 : pm_V d 97 45 [.ref xn, l1, l2, l3, l4, l5] st S Q = pm_V d 97 46 [.ref xn, l1, l2, l3, l4, l5] (.ref xn :: st) S Q := pv_aload_n (pm_cdi rfl dX7_isTold_45) rfl
theorem q97_46 : pm_V d 97 46 [l0, l1, l2, .int xi, l4, l5] st S Q = pm_V d 97 47 [l0, l1, l2, .int xi, l4, l5] (.int xi :: st) S Q := pv_iload_n (pm_cdi rfl dX7_isTold_46) rfl
theorem q97_47 (hs : pm_sh S an = .inr 7) : pm_V (d + 1) 97 47 [l0, l1, l2, l3, l4, l5] [.int v0i, .ref an] S Q = pm_N d 91 [.ref an, .int v0i] S (fun r S' => pm_V (d + 1) 97 50 [l0, l1, l2, l3, l4, l5] (r.toList ++ []) S' Q) := pv_callV (as := [.int v0i]) (pm_cdi rfl dX7_isTold_47) (Or.inl (by decide +kernel)) (by decide +kernel) (show _ = _ from (by decide +kernel : 1 = pm_np 91)) rfl (Nat.le_of_ble_eq_true rfl) (cl := 7) (by decide +kernel) hs
theorem q97_50 : pm_V d 97 50 [l0, l1, l2, l3, l4, l5] (.int xi :: st) S Q = if xi = 0 then pm_V d 97 82 [l0, l1, l2, l3, l4, l5] st S Q else pm_V d 97 53 [l0, l1, l2, l3, l4, l5] st S Q := pv_if_eq (pm_cdi rfl dX7_isTold_50) rfl
theorem q97_53 : pm_V d 97 53 [l0, l1, l2, l3, .int xi, l5] st S Q = pm_V d 97 55 [l0, l1, l2, l3, .int xi, l5] (.int xi :: st) S Q := pv_iload (pm_cdi rfl dX7_isTold_53) rfl
theorem q97_55 : pm_V d 97 55 [l0, l1, l2, l3, l4, l5] st S Q = pm_V d 97 56 [l0, l1, l2, l3, l4, l5] (.int (-1) :: st) S Q := pv_iconst (pm_cdi rfl dX7_isTold_55) (by decide +kernel)
theorem q97_56 : pm_V d 97 56 [l0, l1, l2, l3, l4, l5] (.int yi :: .int xi :: st) S Q = if xi = yi then pm_V d 97 68 [l0, l1, l2, l3, l4, l5] st S Q else pm_V d 97 59 [l0, l1, l2, l3, l4, l5] st S Q := pv_icmp_eq (pm_cdi rfl dX7_isTold_56) rfl
theorem q97_59 : pm_V d 97 59 [.ref xn, l1, l2, l3, l4, l5] st S Q = pm_V d 97 60 [.ref xn, l1, l2, l3, l4, l5] (.ref xn :: st) S Q := pv_aload_n (pm_cdi rfl dX7_isTold_59) rfl
theorem q97_60 : pm_V d 97 60 [l0, l1, l2, l3, .int xi, l5] st S Q = pm_V d 97 62 [l0, l1, l2, l3, .int xi, l5] (.int xi :: st) S Q := pv_iload (pm_cdi rfl dX7_isTold_60) rfl
theorem q97_62 (hs : pm_sh S an = .inr 7) : pm_V (d + 1) 97 62 [l0, l1, l2, l3, l4, l5] [.int v0i, .ref an] S Q = pm_N d 91 [.ref an, .int v0i] S (fun r S' => pm_V (d + 1) 97 65 [l0, l1, l2, l3, l4, l5] (r.toList ++ []) S' Q) := pv_callV (as := [.int v0i]) (pm_cdi rfl dX7_isTold_62) (Or.inl (by decide +kernel)) (by decide +kernel) (show _ = _ from (by decide +kernel : 1 = pm_np 91)) rfl (Nat.le_of_ble_eq_true rfl) (cl := 7) (by decide +kernel) hs
theorem q97_65 : pm_V d 97 65 [l0, l1, l2, l3, l4, l5] (.int xi :: st) S Q = if xi = 0 then pm_V d 97 82 [l0, l1, l2, l3, l4, l5] st S Q else pm_V d 97 68 [l0, l1, l2, l3, l4, l5] st S Q := pv_if_eq (pm_cdi rfl dX7_isTold_65) rfl
theorem q97_68 : pm_V d 97 68 [l0, l1, l2, l3, l4, .int xi] st S Q = pm_V d 97 70 [l0, l1, l2, l3, l4, .int xi] (.int xi :: st) S Q := pv_iload (pm_cdi rfl dX7_isTold_68) rfl
theorem q97_70 : pm_V d 97 70 [l0, l1, l2, l3, l4, l5] st S Q = pm_V d 97 71 [l0, l1, l2, l3, l4, l5] (.int 0 :: st) S Q := pv_iconst (pm_cdi rfl dX7_isTold_70) (by decide +kernel)
theorem q97_71 : pm_V d 97 71 [l0, l1, l2, l3, l4, l5] st S Q = pm_V d 97 72 [l0, l1, l2, l3, l4, l5] (.int 1 :: st) S Q := pv_iconst (pm_cdi rfl dX7_isTold_71) (by decide +kernel)
theorem q97_72 : pm_V (d + 1) 97 72 [l0, l1, l2, l3, l4, l5] [.int v2i, .int v1i, .int v0i] S Q = pm_N d 87 [.int v0i, .int v1i, .int v2i] S (fun r S' => pm_V (d + 1) 97 75 [l0, l1, l2, l3, l4, l5] (r.toList ++ []) S' Q) := pv_callS (as := [.int v0i, .int v1i, .int v2i]) (pm_cdi rfl dX7_isTold_72) (by decide +kernel) (by decide +kernel) (show _ = _ from (by decide +kernel : 3 = pm_np 87)) rfl (Nat.le_of_ble_eq_true rfl)
theorem q97_75 : pm_V d 97 75 [l0, l1, l2, l3, l4, l5] (.int xi :: st) S Q = if xi = 0 then pm_V d 97 82 [l0, l1, l2, l3, l4, l5] st S Q else pm_V d 97 78 [l0, l1, l2, l3, l4, l5] st S Q := pv_if_eq (pm_cdi rfl dX7_isTold_75) rfl
theorem q97_78 : pm_V d 97 78 [l0, l1, l2, l3, l4, l5] st S Q = pm_V d 97 79 [l0, l1, l2, l3, l4, l5] (.int 1 :: st) S Q := pv_iconst (pm_cdi rfl dX7_isTold_78) (by decide +kernel)
theorem q97_79 : pm_V d 97 79 [l0, l1, l2, l3, l4, l5] st S Q = pm_V d 97 83 [l0, l1, l2, l3, l4, l5] st S Q := pv_goto (pm_cdi rfl dX7_isTold_79) rfl
theorem q97_82 : pm_V d 97 82 [l0, l1, l2, l3, l4, l5] st S Q = pm_V d 97 83 [l0, l1, l2, l3, l4, l5] (.int 0 :: st) S Q := pv_iconst (pm_cdi rfl dX7_isTold_82) (by decide +kernel)
theorem q97_83 (hx : xi = 0 ∨ xi = 1) : pm_V d 97 83 [l0, l1, l2, l3, l4, l5] [.int xi] S Q = Q (some (.int xi)) S := pv_rZ (pm_cdi rfl dX7_isTold_83) (by decide +kernel) hx
theorem q97_84 : pm_V d 97 84 [l0, l1, l2, l3, l4, l5] st S Q = pm_V d 97 85 [l0, l1, l2, l3, l4, l5] (.int 1 :: st) S Q := pv_iconst (pm_cdi rfl dX7_isTold_84) (by decide +kernel)
theorem q97_85 (hx : xi = 0 ∨ xi = 1) : pm_V d 97 85 [l0, l1, l2, l3, l4, l5] [.int xi] S Q = Q (some (.int xi)) S := pv_rZ (pm_cdi rfl dX7_isTold_85) (by decide +kernel) hx
theorem q97_86 : pm_V d 97 86 [.ref xn, l1, l2, l3, l4, l5] st S Q = pm_V d 97 87 [.ref xn, l1, l2, l3, l4, l5] (.ref xn :: st) S Q := pv_aload_n (pm_cdi rfl dX7_isTold_86) rfl
theorem q97_87 : pm_V d 97 87 [l0, l1, l2, .int xi, l4, l5] st S Q = pm_V d 97 88 [l0, l1, l2, .int xi, l4, l5] (.int xi :: st) S Q := pv_iload_n (pm_cdi rfl dX7_isTold_87) rfl
theorem q97_88 (hs : pm_sh S an = .inr 7) : pm_V (d + 1) 97 88 [l0, l1, l2, l3, l4, l5] [.int v0i, .ref an] S Q = pm_N d 88 [.ref an, .int v0i] S (fun r S' => pm_V (d + 1) 97 91 [l0, l1, l2, l3, l4, l5] (r.toList ++ []) S' Q) := pv_callV (as := [.int v0i]) (pm_cdi rfl dX7_isTold_88) (Or.inl (by decide +kernel)) (by decide +kernel) (show _ = _ from (by decide +kernel : 1 = pm_np 88)) rfl (Nat.le_of_ble_eq_true rfl) (cl := 7) (by decide +kernel) hs
theorem q97_91 (hx : xi = 0 ∨ xi = 1) : pm_V d 97 91 [l0, l1, l2, l3, l4, l5] [.int xi] S Q = Q (some (.int xi)) S := pv_rZ (pm_cdi rfl dX7_isTold_91) (by decide +kernel) hx
theorem q97_92 : pm_V d 97 92 [.ref xn, l1, l2, l3, l4, l5] st S Q = pm_V d 97 93 [.ref xn, l1, l2, l3, l4, l5] (.ref xn :: st) S Q := pv_aload_n (pm_cdi rfl dX7_isTold_92) rfl
theorem q97_93 : pm_V d 97 93 [l0, l1, l2, .int xi, l4, l5] st S Q = pm_V d 97 94 [l0, l1, l2, .int xi, l4, l5] (.int xi :: st) S Q := pv_iload_n (pm_cdi rfl dX7_isTold_93) rfl
theorem q97_94 (hs : pm_sh S an = .inr 7) : pm_V (d + 1) 97 94 [l0, l1, l2, l3, l4, l5] [.int v0i, .ref an] S Q = pm_N d 88 [.ref an, .int v0i] S (fun r S' => pm_V (d + 1) 97 97 [l0, l1, l2, l3, l4, l5] (r.toList ++ []) S' Q) := pv_callV (as := [.int v0i]) (pm_cdi rfl dX7_isTold_94) (Or.inl (by decide +kernel)) (by decide +kernel) (show _ = _ from (by decide +kernel : 1 = pm_np 88)) rfl (Nat.le_of_ble_eq_true rfl) (cl := 7) (by decide +kernel) hs
theorem q97_97 : pm_V d 97 97 [l0, l1, l2, l3, l4, l5] (.int xi :: st) S Q = if xi = 0 then pm_V d 97 114 [l0, l1, l2, l3, l4, l5] st S Q else pm_V d 97 100 [l0, l1, l2, l3, l4, l5] st S Q := pv_if_eq (pm_cdi rfl dX7_isTold_97) rfl
theorem q97_100 : pm_V d 97 100 [l0, l1, l2, l3, .int xi, l5] st S Q = pm_V d 97 102 [l0, l1, l2, l3, .int xi, l5] (.int xi :: st) S Q := pv_iload (pm_cdi rfl dX7_isTold_100) rfl
theorem q97_102 : pm_V d 97 102 [l0, l1, l2, l3, l4, l5] st S Q = pm_V d 97 103 [l0, l1, l2, l3, l4, l5] (.int 0 :: st) S Q := pv_iconst (pm_cdi rfl dX7_isTold_102) (by decide +kernel)
theorem q97_103 : pm_V d 97 103 [l0, l1, l2, l3, l4, l5] st S Q = pm_V d 97 104 [l0, l1, l2, l3, l4, l5] (.int 2 :: st) S Q := pv_iconst (pm_cdi rfl dX7_isTold_103) (by decide +kernel)
theorem q97_104 : pm_V (d + 1) 97 104 [l0, l1, l2, l3, l4, l5] [.int v2i, .int v1i, .int v0i] S Q = pm_N d 87 [.int v0i, .int v1i, .int v2i] S (fun r S' => pm_V (d + 1) 97 107 [l0, l1, l2, l3, l4, l5] (r.toList ++ []) S' Q) := pv_callS (as := [.int v0i, .int v1i, .int v2i]) (pm_cdi rfl dX7_isTold_104) (by decide +kernel) (by decide +kernel) (show _ = _ from (by decide +kernel : 3 = pm_np 87)) rfl (Nat.le_of_ble_eq_true rfl)
theorem q97_107 : pm_V d 97 107 [l0, l1, l2, l3, l4, l5] (.int xi :: st) S Q = if xi = 0 then pm_V d 97 114 [l0, l1, l2, l3, l4, l5] st S Q else pm_V d 97 110 [l0, l1, l2, l3, l4, l5] st S Q := pv_if_eq (pm_cdi rfl dX7_isTold_107) rfl
theorem q97_110 : pm_V d 97 110 [l0, l1, l2, l3, l4, l5] st S Q = pm_V d 97 111 [l0, l1, l2, l3, l4, l5] (.int 1 :: st) S Q := pv_iconst (pm_cdi rfl dX7_isTold_110) (by decide +kernel)
theorem q97_111 : pm_V d 97 111 [l0, l1, l2, l3, l4, l5] st S Q = pm_V d 97 115 [l0, l1, l2, l3, l4, l5] st S Q := pv_goto (pm_cdi rfl dX7_isTold_111) rfl
theorem q97_114 : pm_V d 97 114 [l0, l1, l2, l3, l4, l5] st S Q = pm_V d 97 115 [l0, l1, l2, l3, l4, l5] (.int 0 :: st) S Q := pv_iconst (pm_cdi rfl dX7_isTold_114) (by decide +kernel)
theorem q97_115 (hx : xi = 0 ∨ xi = 1) : pm_V d 97 115 [l0, l1, l2, l3, l4, l5] [.int xi] S Q = Q (some (.int xi)) S := pv_rZ (pm_cdi rfl dX7_isTold_115) (by decide +kernel) hx
theorem q97_116 : pm_V d 97 116 [l0, l1, l2, .int xi, l4, l5] st S Q = pm_V d 97 117 [l0, l1, l2, .int xi, l4, l5] (.int xi :: st) S Q := pv_iload_n (pm_cdi rfl dX7_isTold_116) rfl
theorem q97_117 : pm_V d 97 117 [l0, l1, l2, l3, l4, l5] st S Q = pm_V d 97 118 [l0, l1, l2, l3, l4, l5] (.int 0 :: st) S Q := pv_iconst (pm_cdi rfl dX7_isTold_117) (by decide +kernel)
theorem q97_118 : pm_V d 97 118 [l0, l1, l2, l3, l4, l5] st S Q = pm_V d 97 119 [l0, l1, l2, l3, l4, l5] (.int 3 :: st) S Q := pv_iconst (pm_cdi rfl dX7_isTold_118) (by decide +kernel)
theorem q97_119 : pm_V (d + 1) 97 119 [l0, l1, l2, l3, l4, l5] [.int v2i, .int v1i, .int v0i] S Q = pm_N d 87 [.int v0i, .int v1i, .int v2i] S (fun r S' => pm_V (d + 1) 97 122 [l0, l1, l2, l3, l4, l5] (r.toList ++ []) S' Q) := pv_callS (as := [.int v0i, .int v1i, .int v2i]) (pm_cdi rfl dX7_isTold_119) (by decide +kernel) (by decide +kernel) (show _ = _ from (by decide +kernel : 3 = pm_np 87)) rfl (Nat.le_of_ble_eq_true rfl)
theorem q97_122 : pm_V d 97 122 [l0, l1, l2, l3, l4, l5] (.int xi :: st) S Q = if xi = 0 then pm_V d 97 139 [l0, l1, l2, l3, l4, l5] st S Q else pm_V d 97 125 [l0, l1, l2, l3, l4, l5] st S Q := pv_if_eq (pm_cdi rfl dX7_isTold_122) rfl
theorem q97_125 : pm_V d 97 125 [l0, l1, l2, l3, .int xi, l5] st S Q = pm_V d 97 127 [l0, l1, l2, l3, .int xi, l5] (.int xi :: st) S Q := pv_iload (pm_cdi rfl dX7_isTold_125) rfl
theorem q97_127 : pm_V d 97 127 [l0, l1, l2, l3, l4, l5] st S Q = pm_V d 97 128 [l0, l1, l2, l3, l4, l5] (.int 0 :: st) S Q := pv_iconst (pm_cdi rfl dX7_isTold_127) (by decide +kernel)
theorem q97_128 : pm_V d 97 128 [l0, l1, l2, l3, l4, l5] st S Q = pm_V d 97 129 [l0, l1, l2, l3, l4, l5] (.int 2 :: st) S Q := pv_iconst (pm_cdi rfl dX7_isTold_128) (by decide +kernel)
theorem q97_129 : pm_V (d + 1) 97 129 [l0, l1, l2, l3, l4, l5] [.int v2i, .int v1i, .int v0i] S Q = pm_N d 87 [.int v0i, .int v1i, .int v2i] S (fun r S' => pm_V (d + 1) 97 132 [l0, l1, l2, l3, l4, l5] (r.toList ++ []) S' Q) := pv_callS (as := [.int v0i, .int v1i, .int v2i]) (pm_cdi rfl dX7_isTold_129) (by decide +kernel) (by decide +kernel) (show _ = _ from (by decide +kernel : 3 = pm_np 87)) rfl (Nat.le_of_ble_eq_true rfl)
theorem q97_132 : pm_V d 97 132 [l0, l1, l2, l3, l4, l5] (.int xi :: st) S Q = if xi = 0 then pm_V d 97 139 [l0, l1, l2, l3, l4, l5] st S Q else pm_V d 97 135 [l0, l1, l2, l3, l4, l5] st S Q := pv_if_eq (pm_cdi rfl dX7_isTold_132) rfl
theorem q97_135 : pm_V d 97 135 [l0, l1, l2, l3, l4, l5] st S Q = pm_V d 97 136 [l0, l1, l2, l3, l4, l5] (.int 1 :: st) S Q := pv_iconst (pm_cdi rfl dX7_isTold_135) (by decide +kernel)
theorem q97_136 : pm_V d 97 136 [l0, l1, l2, l3, l4, l5] st S Q = pm_V d 97 140 [l0, l1, l2, l3, l4, l5] st S Q := pv_goto (pm_cdi rfl dX7_isTold_136) rfl
theorem q97_139 : pm_V d 97 139 [l0, l1, l2, l3, l4, l5] st S Q = pm_V d 97 140 [l0, l1, l2, l3, l4, l5] (.int 0 :: st) S Q := pv_iconst (pm_cdi rfl dX7_isTold_139) (by decide +kernel)
theorem q97_140 (hx : xi = 0 ∨ xi = 1) : pm_V d 97 140 [l0, l1, l2, l3, l4, l5] [.int xi] S Q = Q (some (.int xi)) S := pv_rZ (pm_cdi rfl dX7_isTold_140) (by decide +kernel) hx
theorem q97_e : pm_N d 97 [.ref an, .int v0i, .int v1i, .int v2i, .int v3i, .int v4i] S Q = pm_V d 97 0 [.ref an, .int v0i, .int v1i, .int v2i, .int v3i, .int v4i] [] S Q := pv_ent (Nat.le_of_ble_eq_true rfl) rfl
/-! 98: ViewsJoinsModel.view(IIIII)I -/
theorem dX7_view_0 : decode cX7_view 0 = .ok (.iload_n 1, 1) := by decide +kernel
theorem dX7_view_1 : decode cX7_view 1 = .ok (.iconst 1, 1) := by decide +kernel
theorem dX7_view_2 : decode cX7_view 2 = .ok (.bipush 7, 2) := by decide +kernel
theorem dX7_view_4 : decode cX7_view 4 = .ok (.invokestatic 119, 3) := by decide +kernel
theorem dX7_view_7 : decode cX7_view 7 = .ok (.ifCond .eq 25, 3) := by decide +kernel
theorem dX7_view_10 : decode cX7_view 10 = .ok (.aload_n 0, 1) := by decide +kernel
theorem dX7_view_11 : decode cX7_view 11 = .ok (.iload_n 2, 1) := by decide +kernel
theorem dX7_view_12 : decode cX7_view 12 = .ok (.invokevirtual 123, 3) := by decide +kernel
theorem dX7_view_15 : decode cX7_view 15 = .ok (.ifCond .eq 17, 3) := by decide +kernel
theorem dX7_view_18 : decode cX7_view 18 = .ok (.aload_n 0, 1) := by decide +kernel
theorem dX7_view_19 : decode cX7_view 19 = .ok (.iload_n 1, 1) := by decide +kernel
theorem dX7_view_20 : decode cX7_view 20 = .ok (.iload_n 2, 1) := by decide +kernel
theorem dX7_view_21 : decode cX7_view 21 = .ok (.iload_n 3, 1) := by decide +kernel
theorem dX7_view_22 : decode cX7_view 22 = .ok (.iload 4, 2) := by decide +kernel
theorem dX7_view_24 : decode cX7_view 24 = .ok (.iload 5, 2) := by decide +kernel
theorem dX7_view_26 : decode cX7_view 26 = .ok (.invokevirtual 147, 3) := by decide +kernel
theorem dX7_view_29 : decode cX7_view 29 = .ok (.ifCond .ne 6, 3) := by decide +kernel
theorem dX7_view_32 : decode cX7_view 32 = .ok (.ldc 130, 2) := by decide +kernel
theorem dX7_view_34 : decode cX7_view 34 = .ok (.ireturn, 1) := by decide +kernel
theorem dX7_view_35 : decode cX7_view 35 = .ok (.aload_n 0, 1) := by decide +kernel
theorem dX7_view_36 : decode cX7_view 36 = .ok (.getfield 115, 3) := by decide +kernel
theorem dX7_view_39 : decode cX7_view 39 = .ok (.bipush 24, 2) := by decide +kernel
theorem dX7_view_41 : decode cX7_view 41 = .ok (.if_icmp .ne 6, 3) := by decide +kernel
theorem dX7_view_44 : decode cX7_view 44 = .ok (.ldc 131, 2) := by decide +kernel
theorem dX7_view_46 : decode cX7_view 46 = .ok (.ireturn, 1) := by decide +kernel
theorem dX7_view_47 : decode cX7_view 47 = .ok (.aload_n 0, 1) := by decide +kernel
theorem dX7_view_48 : decode cX7_view 48 = .ok (.getfield 7, 3) := by decide +kernel
theorem dX7_view_51 : decode cX7_view 51 = .ok (.aload_n 0, 1) := by decide +kernel
theorem dX7_view_52 : decode cX7_view 52 = .ok (.getfield 115, 3) := by decide +kernel
theorem dX7_view_55 : decode cX7_view 55 = .ok (.iload_n 1, 1) := by decide +kernel
theorem dX7_view_56 : decode cX7_view 56 = .ok (.iastore, 1) := by decide +kernel
theorem dX7_view_57 : decode cX7_view 57 = .ok (.aload_n 0, 1) := by decide +kernel
theorem dX7_view_58 : decode cX7_view 58 = .ok (.getfield 13, 3) := by decide +kernel
theorem dX7_view_61 : decode cX7_view 61 = .ok (.aload_n 0, 1) := by decide +kernel
theorem dX7_view_62 : decode cX7_view 62 = .ok (.getfield 115, 3) := by decide +kernel
theorem dX7_view_65 : decode cX7_view 65 = .ok (.iload_n 2, 1) := by decide +kernel
theorem dX7_view_66 : decode cX7_view 66 = .ok (.iastore, 1) := by decide +kernel
theorem dX7_view_67 : decode cX7_view 67 = .ok (.aload_n 0, 1) := by decide +kernel
theorem dX7_view_68 : decode cX7_view 68 = .ok (.getfield 16, 3) := by decide +kernel
theorem dX7_view_71 : decode cX7_view 71 = .ok (.aload_n 0, 1) := by decide +kernel
theorem dX7_view_72 : decode cX7_view 72 = .ok (.getfield 115, 3) := by decide +kernel
theorem dX7_view_75 : decode cX7_view 75 = .ok (.iload_n 3, 1) := by decide +kernel
theorem dX7_view_76 : decode cX7_view 76 = .ok (.iastore, 1) := by decide +kernel
theorem dX7_view_77 : decode cX7_view 77 = .ok (.aload_n 0, 1) := by decide +kernel
theorem dX7_view_78 : decode cX7_view 78 = .ok (.getfield 19, 3) := by decide +kernel
theorem dX7_view_81 : decode cX7_view 81 = .ok (.aload_n 0, 1) := by decide +kernel
theorem dX7_view_82 : decode cX7_view 82 = .ok (.getfield 115, 3) := by decide +kernel
theorem dX7_view_85 : decode cX7_view 85 = .ok (.iload 4, 2) := by decide +kernel
theorem dX7_view_87 : decode cX7_view 87 = .ok (.iastore, 1) := by decide +kernel
theorem dX7_view_88 : decode cX7_view 88 = .ok (.aload_n 0, 1) := by decide +kernel
theorem dX7_view_89 : decode cX7_view 89 = .ok (.getfield 22, 3) := by decide +kernel
theorem dX7_view_92 : decode cX7_view 92 = .ok (.aload_n 0, 1) := by decide +kernel
theorem dX7_view_93 : decode cX7_view 93 = .ok (.getfield 115, 3) := by decide +kernel
theorem dX7_view_96 : decode cX7_view 96 = .ok (.iload 5, 2) := by decide +kernel
theorem dX7_view_98 : decode cX7_view 98 = .ok (.iastore, 1) := by decide +kernel
theorem dX7_view_99 : decode cX7_view 99 = .ok (.aload_n 0, 1) := by decide +kernel
theorem dX7_view_100 : decode cX7_view 100 = .ok (.getfield 25, 3) := by decide +kernel
theorem dX7_view_103 : decode cX7_view 103 = .ok (.aload_n 0, 1) := by decide +kernel
theorem dX7_view_104 : decode cX7_view 104 = .ok (.getfield 115, 3) := by decide +kernel
theorem dX7_view_107 : decode cX7_view 107 = .ok (.iconst 0, 1) := by decide +kernel
theorem dX7_view_108 : decode cX7_view 108 = .ok (.bastore, 1) := by decide +kernel
theorem dX7_view_109 : decode cX7_view 109 = .ok (.aload_n 0, 1) := by decide +kernel
theorem dX7_view_110 : decode cX7_view 110 = .ok (.dup, 1) := by decide +kernel
theorem dX7_view_111 : decode cX7_view 111 = .ok (.getfield 115, 3) := by decide +kernel
theorem dX7_view_114 : decode cX7_view 114 = .ok (.iconst 1, 1) := by decide +kernel
theorem dX7_view_115 : decode cX7_view 115 = .ok (.iadd, 1) := by decide +kernel
theorem dX7_view_116 : decode cX7_view 116 = .ok (.putfield 115, 3) := by decide +kernel
theorem dX7_view_119 : decode cX7_view 119 = .ok (.aload_n 0, 1) := by decide +kernel
theorem dX7_view_120 : decode cX7_view 120 = .ok (.iconst 0, 1) := by decide +kernel
theorem dX7_view_121 : decode cX7_view 121 = .ok (.putfield 132, 3) := by decide +kernel
theorem dX7_view_124 : decode cX7_view 124 = .ok (.aload_n 0, 1) := by decide +kernel
theorem dX7_view_125 : decode cX7_view 125 = .ok (.getfield 115, 3) := by decide +kernel
theorem dX7_view_128 : decode cX7_view 128 = .ok (.iconst 1, 1) := by decide +kernel
theorem dX7_view_129 : decode cX7_view 129 = .ok (.isub, 1) := by decide +kernel
theorem dX7_view_130 : decode cX7_view 130 = .ok (.ireturn, 1) := by decide +kernel
theorem q98_0 : pm_V d 98 0 [l0, .int xi, l2, l3, l4, l5] st S Q = pm_V d 98 1 [l0, .int xi, l2, l3, l4, l5] (.int xi :: st) S Q := pv_iload_n (pm_cdi rfl dX7_view_0) rfl
theorem q98_1 : pm_V d 98 1 [l0, l1, l2, l3, l4, l5] st S Q = pm_V d 98 2 [l0, l1, l2, l3, l4, l5] (.int 1 :: st) S Q := pv_iconst (pm_cdi rfl dX7_view_1) (by decide +kernel)
theorem q98_2 : pm_V d 98 2 [l0, l1, l2, l3, l4, l5] st S Q = pm_V d 98 4 [l0, l1, l2, l3, l4, l5] (.int 7 :: st) S Q := pv_bipush (pm_cdi rfl dX7_view_2) (by decide +kernel)
theorem q98_4 : pm_V (d + 1) 98 4 [l0, l1, l2, l3, l4, l5] [.int v2i, .int v1i, .int v0i] S Q = pm_N d 87 [.int v0i, .int v1i, .int v2i] S (fun r S' => pm_V (d + 1) 98 7 [l0, l1, l2, l3, l4, l5] (r.toList ++ []) S' Q) := pv_callS (as := [.int v0i, .int v1i, .int v2i]) (pm_cdi rfl dX7_view_4) (by decide +kernel) (by decide +kernel) (show _ = _ from (by decide +kernel : 3 = pm_np 87)) rfl (Nat.le_of_ble_eq_true rfl)
theorem q98_7 : pm_V d 98 7 [l0, l1, l2, l3, l4, l5] (.int xi :: st) S Q = if xi = 0 then pm_V d 98 32 [l0, l1, l2, l3, l4, l5] st S Q else pm_V d 98 10 [l0, l1, l2, l3, l4, l5] st S Q := pv_if_eq (pm_cdi rfl dX7_view_7) rfl
theorem q98_10 : pm_V d 98 10 [.ref xn, l1, l2, l3, l4, l5] st S Q = pm_V d 98 11 [.ref xn, l1, l2, l3, l4, l5] (.ref xn :: st) S Q := pv_aload_n (pm_cdi rfl dX7_view_10) rfl
theorem q98_11 : pm_V d 98 11 [l0, l1, .int xi, l3, l4, l5] st S Q = pm_V d 98 12 [l0, l1, .int xi, l3, l4, l5] (.int xi :: st) S Q := pv_iload_n (pm_cdi rfl dX7_view_11) rfl
theorem q98_12 (hs : pm_sh S an = .inr 7) : pm_V (d + 1) 98 12 [l0, l1, l2, l3, l4, l5] [.int v0i, .ref an] S Q = pm_N d 88 [.ref an, .int v0i] S (fun r S' => pm_V (d + 1) 98 15 [l0, l1, l2, l3, l4, l5] (r.toList ++ []) S' Q) := pv_callV (as := [.int v0i]) (pm_cdi rfl dX7_view_12) (Or.inl (by decide +kernel)) (by decide +kernel) (show _ = _ from (by decide +kernel : 1 = pm_np 88)) rfl (Nat.le_of_ble_eq_true rfl) (cl := 7) (by decide +kernel) hs
theorem q98_15 : pm_V d 98 15 [l0, l1, l2, l3, l4, l5] (.int xi :: st) S Q = if xi = 0 then pm_V d 98 32 [l0, l1, l2, l3, l4, l5] st S Q else pm_V d 98 18 [l0, l1, l2, l3, l4, l5] st S Q := pv_if_eq (pm_cdi rfl dX7_view_15) rfl
theorem q98_18 : pm_V d 98 18 [.ref xn, l1, l2, l3, l4, l5] st S Q = pm_V d 98 19 [.ref xn, l1, l2, l3, l4, l5] (.ref xn :: st) S Q := pv_aload_n (pm_cdi rfl dX7_view_18) rfl
theorem q98_19 : pm_V d 98 19 [l0, .int xi, l2, l3, l4, l5] st S Q = pm_V d 98 20 [l0, .int xi, l2, l3, l4, l5] (.int xi :: st) S Q := pv_iload_n (pm_cdi rfl dX7_view_19) rfl
theorem q98_20 : pm_V d 98 20 [l0, l1, .int xi, l3, l4, l5] st S Q = pm_V d 98 21 [l0, l1, .int xi, l3, l4, l5] (.int xi :: st) S Q := pv_iload_n (pm_cdi rfl dX7_view_20) rfl
theorem q98_21 : pm_V d 98 21 [l0, l1, l2, .int xi, l4, l5] st S Q = pm_V d 98 22 [l0, l1, l2, .int xi, l4, l5] (.int xi :: st) S Q := pv_iload_n (pm_cdi rfl dX7_view_21) rfl
theorem q98_22 : pm_V d 98 22 [l0, l1, l2, l3, .int xi, l5] st S Q = pm_V d 98 24 [l0, l1, l2, l3, .int xi, l5] (.int xi :: st) S Q := pv_iload (pm_cdi rfl dX7_view_22) rfl
theorem q98_24 : pm_V d 98 24 [l0, l1, l2, l3, l4, .int xi] st S Q = pm_V d 98 26 [l0, l1, l2, l3, l4, .int xi] (.int xi :: st) S Q := pv_iload (pm_cdi rfl dX7_view_24) rfl
theorem q98_26 (hs : pm_sh S an = .inr 7) : pm_V (d + 1) 98 26 [l0, l1, l2, l3, l4, l5] [.int v4i, .int v3i, .int v2i, .int v1i, .int v0i, .ref an] S Q = pm_N d 97 [.ref an, .int v0i, .int v1i, .int v2i, .int v3i, .int v4i] S (fun r S' => pm_V (d + 1) 98 29 [l0, l1, l2, l3, l4, l5] (r.toList ++ []) S' Q) := pv_callV (as := [.int v0i, .int v1i, .int v2i, .int v3i, .int v4i]) (pm_cdi rfl dX7_view_26) (Or.inl (by decide +kernel)) (by decide +kernel) (show _ = _ from (by decide +kernel : 5 = pm_np 97)) rfl (Nat.le_of_ble_eq_true rfl) (cl := 7) (by decide +kernel) hs
theorem q98_29 : pm_V d 98 29 [l0, l1, l2, l3, l4, l5] (.int xi :: st) S Q = if xi = 0 then pm_V d 98 32 [l0, l1, l2, l3, l4, l5] st S Q else pm_V d 98 35 [l0, l1, l2, l3, l4, l5] st S Q := pv_if_ne (pm_cdi rfl dX7_view_29) rfl
theorem q98_32 : pm_V d 98 32 [l0, l1, l2, l3, l4, l5] st S Q = pm_V d 98 34 [l0, l1, l2, l3, l4, l5] (.int (-1000001) :: st) S Q := pv_ldc (pm_cdi rfl dX7_view_32) (by decide +kernel)
theorem q98_34 : pm_V d 98 34 [l0, l1, l2, l3, l4, l5] [.int xi] S Q = Q (some (.int xi)) S := pv_rI (pm_cdi rfl dX7_view_34) (by decide +kernel)
theorem q98_35 : pm_V d 98 35 [.ref xn, l1, l2, l3, l4, l5] st S Q = pm_V d 98 36 [.ref xn, l1, l2, l3, l4, l5] (.ref xn :: st) S Q := pv_aload_n (pm_cdi rfl dX7_view_35) rfl
theorem q98_36 (hs : pm_sh S an = .inr 7) : pm_V d 98 36 [l0, l1, l2, l3, l4, l5] (.ref an :: st) S Q = pm_V d 98 39 [l0, l1, l2, l3, l4, l5] (.int (pm_gi S an 0) :: st) S Q := pv_getI (pm_cdi rfl dX7_view_36) (by decide +kernel) (by decide +kernel) (by decide +kernel) hs
theorem q98_39 : pm_V d 98 39 [l0, l1, l2, l3, l4, l5] st S Q = pm_V d 98 41 [l0, l1, l2, l3, l4, l5] (.int 24 :: st) S Q := pv_bipush (pm_cdi rfl dX7_view_39) (by decide +kernel)
theorem q98_41 : pm_V d 98 41 [l0, l1, l2, l3, l4, l5] (.int yi :: .int xi :: st) S Q = if xi = yi then pm_V d 98 44 [l0, l1, l2, l3, l4, l5] st S Q else pm_V d 98 47 [l0, l1, l2, l3, l4, l5] st S Q := pv_icmp_ne (pm_cdi rfl dX7_view_41) rfl
theorem q98_44 : pm_V d 98 44 [l0, l1, l2, l3, l4, l5] st S Q = pm_V d 98 46 [l0, l1, l2, l3, l4, l5] (.int (-1000002) :: st) S Q := pv_ldc (pm_cdi rfl dX7_view_44) (by decide +kernel)
theorem q98_46 : pm_V d 98 46 [l0, l1, l2, l3, l4, l5] [.int xi] S Q = Q (some (.int xi)) S := pv_rI (pm_cdi rfl dX7_view_46) (by decide +kernel)
theorem q98_47 : pm_V d 98 47 [.ref xn, l1, l2, l3, l4, l5] st S Q = pm_V d 98 48 [.ref xn, l1, l2, l3, l4, l5] (.ref xn :: st) S Q := pv_aload_n (pm_cdi rfl dX7_view_47) rfl
theorem q98_48 (hs : pm_sh S an = .inr 7) : pm_V d 98 48 [l0, l1, l2, l3, l4, l5] (.ref an :: st) S Q = pm_V d 98 51 [l0, l1, l2, l3, l4, l5] (va_rf (pm_gr S an 1) :: st) S Q := pv_getA (pm_cdi rfl dX7_view_48) (by decide +kernel) (by decide +kernel) (by decide +kernel) hs
theorem q98_51 : pm_V d 98 51 [.ref xn, l1, l2, l3, l4, l5] st S Q = pm_V d 98 52 [.ref xn, l1, l2, l3, l4, l5] (.ref xn :: st) S Q := pv_aload_n (pm_cdi rfl dX7_view_51) rfl
theorem q98_52 (hs : pm_sh S an = .inr 7) : pm_V d 98 52 [l0, l1, l2, l3, l4, l5] (.ref an :: st) S Q = pm_V d 98 55 [l0, l1, l2, l3, l4, l5] (.int (pm_gi S an 0) :: st) S Q := pv_getI (pm_cdi rfl dX7_view_52) (by decide +kernel) (by decide +kernel) (by decide +kernel) hs
theorem q98_55 : pm_V d 98 55 [l0, .int xi, l2, l3, l4, l5] st S Q = pm_V d 98 56 [l0, .int xi, l2, l3, l4, l5] (.int xi :: st) S Q := pv_iload_n (pm_cdi rfl dX7_view_55) rfl
theorem q98_56 (hs : pm_ar S an 0 xi = true) : pm_V d 98 56 [l0, l1, l2, l3, l4, l5] (.int vi :: .int xi :: .ref an :: st) S Q = pm_V d 98 57 [l0, l1, l2, l3, l4, l5] st (pm_szi S an xi.toNatClampNeg vi) Q := pv_iast (pm_cdi rfl dX7_view_56) hs
theorem q98_57 : pm_V d 98 57 [.ref xn, l1, l2, l3, l4, l5] st S Q = pm_V d 98 58 [.ref xn, l1, l2, l3, l4, l5] (.ref xn :: st) S Q := pv_aload_n (pm_cdi rfl dX7_view_57) rfl
theorem q98_58 (hs : pm_sh S an = .inr 7) : pm_V d 98 58 [l0, l1, l2, l3, l4, l5] (.ref an :: st) S Q = pm_V d 98 61 [l0, l1, l2, l3, l4, l5] (va_rf (pm_gr S an 2) :: st) S Q := pv_getA (pm_cdi rfl dX7_view_58) (by decide +kernel) (by decide +kernel) (by decide +kernel) hs
theorem q98_61 : pm_V d 98 61 [.ref xn, l1, l2, l3, l4, l5] st S Q = pm_V d 98 62 [.ref xn, l1, l2, l3, l4, l5] (.ref xn :: st) S Q := pv_aload_n (pm_cdi rfl dX7_view_61) rfl
theorem q98_62 (hs : pm_sh S an = .inr 7) : pm_V d 98 62 [l0, l1, l2, l3, l4, l5] (.ref an :: st) S Q = pm_V d 98 65 [l0, l1, l2, l3, l4, l5] (.int (pm_gi S an 0) :: st) S Q := pv_getI (pm_cdi rfl dX7_view_62) (by decide +kernel) (by decide +kernel) (by decide +kernel) hs
theorem q98_65 : pm_V d 98 65 [l0, l1, .int xi, l3, l4, l5] st S Q = pm_V d 98 66 [l0, l1, .int xi, l3, l4, l5] (.int xi :: st) S Q := pv_iload_n (pm_cdi rfl dX7_view_65) rfl
theorem q98_66 (hs : pm_ar S an 0 xi = true) : pm_V d 98 66 [l0, l1, l2, l3, l4, l5] (.int vi :: .int xi :: .ref an :: st) S Q = pm_V d 98 67 [l0, l1, l2, l3, l4, l5] st (pm_szi S an xi.toNatClampNeg vi) Q := pv_iast (pm_cdi rfl dX7_view_66) hs
theorem q98_67 : pm_V d 98 67 [.ref xn, l1, l2, l3, l4, l5] st S Q = pm_V d 98 68 [.ref xn, l1, l2, l3, l4, l5] (.ref xn :: st) S Q := pv_aload_n (pm_cdi rfl dX7_view_67) rfl
theorem q98_68 (hs : pm_sh S an = .inr 7) : pm_V d 98 68 [l0, l1, l2, l3, l4, l5] (.ref an :: st) S Q = pm_V d 98 71 [l0, l1, l2, l3, l4, l5] (va_rf (pm_gr S an 3) :: st) S Q := pv_getA (pm_cdi rfl dX7_view_68) (by decide +kernel) (by decide +kernel) (by decide +kernel) hs
theorem q98_71 : pm_V d 98 71 [.ref xn, l1, l2, l3, l4, l5] st S Q = pm_V d 98 72 [.ref xn, l1, l2, l3, l4, l5] (.ref xn :: st) S Q := pv_aload_n (pm_cdi rfl dX7_view_71) rfl
theorem q98_72 (hs : pm_sh S an = .inr 7) : pm_V d 98 72 [l0, l1, l2, l3, l4, l5] (.ref an :: st) S Q = pm_V d 98 75 [l0, l1, l2, l3, l4, l5] (.int (pm_gi S an 0) :: st) S Q := pv_getI (pm_cdi rfl dX7_view_72) (by decide +kernel) (by decide +kernel) (by decide +kernel) hs
theorem q98_75 : pm_V d 98 75 [l0, l1, l2, .int xi, l4, l5] st S Q = pm_V d 98 76 [l0, l1, l2, .int xi, l4, l5] (.int xi :: st) S Q := pv_iload_n (pm_cdi rfl dX7_view_75) rfl
theorem q98_76 (hs : pm_ar S an 0 xi = true) : pm_V d 98 76 [l0, l1, l2, l3, l4, l5] (.int vi :: .int xi :: .ref an :: st) S Q = pm_V d 98 77 [l0, l1, l2, l3, l4, l5] st (pm_szi S an xi.toNatClampNeg vi) Q := pv_iast (pm_cdi rfl dX7_view_76) hs
theorem q98_77 : pm_V d 98 77 [.ref xn, l1, l2, l3, l4, l5] st S Q = pm_V d 98 78 [.ref xn, l1, l2, l3, l4, l5] (.ref xn :: st) S Q := pv_aload_n (pm_cdi rfl dX7_view_77) rfl
theorem q98_78 (hs : pm_sh S an = .inr 7) : pm_V d 98 78 [l0, l1, l2, l3, l4, l5] (.ref an :: st) S Q = pm_V d 98 81 [l0, l1, l2, l3, l4, l5] (va_rf (pm_gr S an 4) :: st) S Q := pv_getA (pm_cdi rfl dX7_view_78) (by decide +kernel) (by decide +kernel) (by decide +kernel) hs
theorem q98_81 : pm_V d 98 81 [.ref xn, l1, l2, l3, l4, l5] st S Q = pm_V d 98 82 [.ref xn, l1, l2, l3, l4, l5] (.ref xn :: st) S Q := pv_aload_n (pm_cdi rfl dX7_view_81) rfl
theorem q98_82 (hs : pm_sh S an = .inr 7) : pm_V d 98 82 [l0, l1, l2, l3, l4, l5] (.ref an :: st) S Q = pm_V d 98 85 [l0, l1, l2, l3, l4, l5] (.int (pm_gi S an 0) :: st) S Q := pv_getI (pm_cdi rfl dX7_view_82) (by decide +kernel) (by decide +kernel) (by decide +kernel) hs
theorem q98_85 : pm_V d 98 85 [l0, l1, l2, l3, .int xi, l5] st S Q = pm_V d 98 87 [l0, l1, l2, l3, .int xi, l5] (.int xi :: st) S Q := pv_iload (pm_cdi rfl dX7_view_85) rfl
theorem q98_87 (hs : pm_ar S an 0 xi = true) : pm_V d 98 87 [l0, l1, l2, l3, l4, l5] (.int vi :: .int xi :: .ref an :: st) S Q = pm_V d 98 88 [l0, l1, l2, l3, l4, l5] st (pm_szi S an xi.toNatClampNeg vi) Q := pv_iast (pm_cdi rfl dX7_view_87) hs
theorem q98_88 : pm_V d 98 88 [.ref xn, l1, l2, l3, l4, l5] st S Q = pm_V d 98 89 [.ref xn, l1, l2, l3, l4, l5] (.ref xn :: st) S Q := pv_aload_n (pm_cdi rfl dX7_view_88) rfl
theorem q98_89 (hs : pm_sh S an = .inr 7) : pm_V d 98 89 [l0, l1, l2, l3, l4, l5] (.ref an :: st) S Q = pm_V d 98 92 [l0, l1, l2, l3, l4, l5] (va_rf (pm_gr S an 5) :: st) S Q := pv_getA (pm_cdi rfl dX7_view_89) (by decide +kernel) (by decide +kernel) (by decide +kernel) hs
theorem q98_92 : pm_V d 98 92 [.ref xn, l1, l2, l3, l4, l5] st S Q = pm_V d 98 93 [.ref xn, l1, l2, l3, l4, l5] (.ref xn :: st) S Q := pv_aload_n (pm_cdi rfl dX7_view_92) rfl
theorem q98_93 (hs : pm_sh S an = .inr 7) : pm_V d 98 93 [l0, l1, l2, l3, l4, l5] (.ref an :: st) S Q = pm_V d 98 96 [l0, l1, l2, l3, l4, l5] (.int (pm_gi S an 0) :: st) S Q := pv_getI (pm_cdi rfl dX7_view_93) (by decide +kernel) (by decide +kernel) (by decide +kernel) hs
theorem q98_96 : pm_V d 98 96 [l0, l1, l2, l3, l4, .int xi] st S Q = pm_V d 98 98 [l0, l1, l2, l3, l4, .int xi] (.int xi :: st) S Q := pv_iload (pm_cdi rfl dX7_view_96) rfl
theorem q98_98 (hs : pm_ar S an 0 xi = true) : pm_V d 98 98 [l0, l1, l2, l3, l4, l5] (.int vi :: .int xi :: .ref an :: st) S Q = pm_V d 98 99 [l0, l1, l2, l3, l4, l5] st (pm_szi S an xi.toNatClampNeg vi) Q := pv_iast (pm_cdi rfl dX7_view_98) hs
theorem q98_99 : pm_V d 98 99 [.ref xn, l1, l2, l3, l4, l5] st S Q = pm_V d 98 100 [.ref xn, l1, l2, l3, l4, l5] (.ref xn :: st) S Q := pv_aload_n (pm_cdi rfl dX7_view_99) rfl
theorem q98_100 (hs : pm_sh S an = .inr 7) : pm_V d 98 100 [l0, l1, l2, l3, l4, l5] (.ref an :: st) S Q = pm_V d 98 103 [l0, l1, l2, l3, l4, l5] (va_rf (pm_gr S an 6) :: st) S Q := pv_getA (pm_cdi rfl dX7_view_100) (by decide +kernel) (by decide +kernel) (by decide +kernel) hs
theorem q98_103 : pm_V d 98 103 [.ref xn, l1, l2, l3, l4, l5] st S Q = pm_V d 98 104 [.ref xn, l1, l2, l3, l4, l5] (.ref xn :: st) S Q := pv_aload_n (pm_cdi rfl dX7_view_103) rfl
theorem q98_104 (hs : pm_sh S an = .inr 7) : pm_V d 98 104 [l0, l1, l2, l3, l4, l5] (.ref an :: st) S Q = pm_V d 98 107 [l0, l1, l2, l3, l4, l5] (.int (pm_gi S an 0) :: st) S Q := pv_getI (pm_cdi rfl dX7_view_104) (by decide +kernel) (by decide +kernel) (by decide +kernel) hs
theorem q98_107 : pm_V d 98 107 [l0, l1, l2, l3, l4, l5] st S Q = pm_V d 98 108 [l0, l1, l2, l3, l4, l5] (.int 0 :: st) S Q := pv_iconst (pm_cdi rfl dX7_view_107) (by decide +kernel)
theorem q98_108 (hs : pm_ar S an 2 xi = true) (hv : vi = 0 ∨ vi = 1) : pm_V d 98 108 [l0, l1, l2, l3, l4, l5] (.int vi :: .int xi :: .ref an :: st) S Q = pm_V d 98 109 [l0, l1, l2, l3, l4, l5] st (pm_szi S an xi.toNatClampNeg vi) Q := pv_bast (pm_cdi rfl dX7_view_108) hs hv
theorem q98_109 : pm_V d 98 109 [.ref xn, l1, l2, l3, l4, l5] st S Q = pm_V d 98 110 [.ref xn, l1, l2, l3, l4, l5] (.ref xn :: st) S Q := pv_aload_n (pm_cdi rfl dX7_view_109) rfl
theorem q98_110 : pm_V d 98 110 [l0, l1, l2, l3, l4, l5] (.ref xn :: st) S Q = pm_V d 98 111 [l0, l1, l2, l3, l4, l5] (.ref xn :: .ref xn :: st) S Q := pv_dupA (pm_cdi rfl dX7_view_110)
theorem q98_111 (hs : pm_sh S an = .inr 7) : pm_V d 98 111 [l0, l1, l2, l3, l4, l5] (.ref an :: st) S Q = pm_V d 98 114 [l0, l1, l2, l3, l4, l5] (.int (pm_gi S an 0) :: st) S Q := pv_getI (pm_cdi rfl dX7_view_111) (by decide +kernel) (by decide +kernel) (by decide +kernel) hs
theorem q98_114 : pm_V d 98 114 [l0, l1, l2, l3, l4, l5] st S Q = pm_V d 98 115 [l0, l1, l2, l3, l4, l5] (.int 1 :: st) S Q := pv_iconst (pm_cdi rfl dX7_view_114) (by decide +kernel)
theorem q98_115 : pm_V d 98 115 [l0, l1, l2, l3, l4, l5] (.int yi :: .int xi :: st) S Q = pm_V d 98 116 [l0, l1, l2, l3, l4, l5] (.int (xi + yi) :: st) S Q := pv_iadd (pm_cdi rfl dX7_view_115)
theorem q98_116 (hs : pm_sh S an = .inr 7) : pm_V d 98 116 [l0, l1, l2, l3, l4, l5] (.int xi :: .ref an :: st) S Q = pm_V d 98 119 [l0, l1, l2, l3, l4, l5] st (pm_sgi S an 0 xi) Q := pv_putI (pm_cdi rfl dX7_view_116) (by decide +kernel) (by decide +kernel) (by decide +kernel) hs
theorem q98_119 : pm_V d 98 119 [.ref xn, l1, l2, l3, l4, l5] st S Q = pm_V d 98 120 [.ref xn, l1, l2, l3, l4, l5] (.ref xn :: st) S Q := pv_aload_n (pm_cdi rfl dX7_view_119) rfl
theorem q98_120 : pm_V d 98 120 [l0, l1, l2, l3, l4, l5] st S Q = pm_V d 98 121 [l0, l1, l2, l3, l4, l5] (.int 0 :: st) S Q := pv_iconst (pm_cdi rfl dX7_view_120) (by decide +kernel)
theorem q98_121 (hs : pm_sh S an = .inr 7) (hx : xi = 0 ∨ xi = 1) : pm_V d 98 121 [l0, l1, l2, l3, l4, l5] (.int xi :: .ref an :: st) S Q = pm_V d 98 124 [l0, l1, l2, l3, l4, l5] st (pm_sgi S an 21 xi) Q := pv_putZ (pm_cdi rfl dX7_view_121) (by decide +kernel) (by decide +kernel) (by decide +kernel) hs hx
theorem q98_124 : pm_V d 98 124 [.ref xn, l1, l2, l3, l4, l5] st S Q = pm_V d 98 125 [.ref xn, l1, l2, l3, l4, l5] (.ref xn :: st) S Q := pv_aload_n (pm_cdi rfl dX7_view_124) rfl
theorem q98_125 (hs : pm_sh S an = .inr 7) : pm_V d 98 125 [l0, l1, l2, l3, l4, l5] (.ref an :: st) S Q = pm_V d 98 128 [l0, l1, l2, l3, l4, l5] (.int (pm_gi S an 0) :: st) S Q := pv_getI (pm_cdi rfl dX7_view_125) (by decide +kernel) (by decide +kernel) (by decide +kernel) hs
theorem q98_128 : pm_V d 98 128 [l0, l1, l2, l3, l4, l5] st S Q = pm_V d 98 129 [l0, l1, l2, l3, l4, l5] (.int 1 :: st) S Q := pv_iconst (pm_cdi rfl dX7_view_128) (by decide +kernel)
theorem q98_129 : pm_V d 98 129 [l0, l1, l2, l3, l4, l5] (.int yi :: .int xi :: st) S Q = pm_V d 98 130 [l0, l1, l2, l3, l4, l5] (.int (xi - yi) :: st) S Q := pv_isub (pm_cdi rfl dX7_view_129)
theorem q98_130 : pm_V d 98 130 [l0, l1, l2, l3, l4, l5] [.int xi] S Q = Q (some (.int xi)) S := pv_rI (pm_cdi rfl dX7_view_130) (by decide +kernel)
theorem q98_e : pm_N d 98 [.ref an, .int v0i, .int v1i, .int v2i, .int v3i, .int v4i] S Q = pm_V d 98 0 [.ref an, .int v0i, .int v1i, .int v2i, .int v3i, .int v4i] [] S Q := pv_ent (Nat.le_of_ble_eq_true rfl) rfl
/-! 99: ViewsJoinsModel.reckon()V -/
theorem dX7_reckon_0 : decode cX7_reckon 0 = .ok (.aload_n 0, 1) := by decide +kernel
theorem dX7_reckon_1 : decode cX7_reckon 1 = .ok (.getfield 132, 3) := by decide +kernel
theorem dX7_reckon_4 : decode cX7_reckon 4 = .ok (.ifCond .eq 4, 3) := by decide +kernel
theorem dX7_reckon_7 : decode cX7_reckon 7 = .ok (.return_, 1) := by decide +kernel
theorem dX7_reckon_8 : decode cX7_reckon 8 = .ok (.aload_n 0, 1) := by decide +kernel
theorem dX7_reckon_9 : decode cX7_reckon 9 = .ok (.iconst 1, 1) := by decide +kernel
theorem dX7_reckon_10 : decode cX7_reckon 10 = .ok (.putfield 132, 3) := by decide +kernel
theorem dX7_reckon_13 : decode cX7_reckon 13 = .ok (.iconst 0, 1) := by decide +kernel
theorem dX7_reckon_14 : decode cX7_reckon 14 = .ok (.istore_n 1, 1) := by decide +kernel
theorem dX7_reckon_15 : decode cX7_reckon 15 = .ok (.iload_n 1, 1) := by decide +kernel
theorem dX7_reckon_16 : decode cX7_reckon 16 = .ok (.aload_n 0, 1) := by decide +kernel
theorem dX7_reckon_17 : decode cX7_reckon 17 = .ok (.getfield 115, 3) := by decide +kernel
theorem dX7_reckon_20 : decode cX7_reckon 20 = .ok (.if_icmp .ge 32, 3) := by decide +kernel
theorem dX7_reckon_23 : decode cX7_reckon 23 = .ok (.aload_n 0, 1) := by decide +kernel
theorem dX7_reckon_24 : decode cX7_reckon 24 = .ok (.getfield 7, 3) := by decide +kernel
theorem dX7_reckon_27 : decode cX7_reckon 27 = .ok (.iload_n 1, 1) := by decide +kernel
theorem dX7_reckon_28 : decode cX7_reckon 28 = .ok (.iaload, 1) := by decide +kernel
theorem dX7_reckon_29 : decode cX7_reckon 29 = .ok (.ifCond .le 17, 3) := by decide +kernel
theorem dX7_reckon_32 : decode cX7_reckon 32 = .ok (.aload_n 0, 1) := by decide +kernel
theorem dX7_reckon_33 : decode cX7_reckon 33 = .ok (.getfield 25, 3) := by decide +kernel
theorem dX7_reckon_36 : decode cX7_reckon 36 = .ok (.iload_n 1, 1) := by decide +kernel
theorem dX7_reckon_37 : decode cX7_reckon 37 = .ok (.baload, 1) := by decide +kernel
theorem dX7_reckon_38 : decode cX7_reckon 38 = .ok (.ifCond .ne 8, 3) := by decide +kernel
theorem dX7_reckon_41 : decode cX7_reckon 41 = .ok (.aload_n 0, 1) := by decide +kernel
theorem dX7_reckon_42 : decode cX7_reckon 42 = .ok (.iload_n 1, 1) := by decide +kernel
theorem dX7_reckon_43 : decode cX7_reckon 43 = .ok (.invokevirtual 151, 3) := by decide +kernel
theorem dX7_reckon_46 : decode cX7_reckon 46 = .ok (.iinc 1 1, 3) := by decide +kernel
theorem dX7_reckon_49 : decode cX7_reckon 49 = .ok (.goto (-34), 3) := by decide +kernel
theorem dX7_reckon_52 : decode cX7_reckon 52 = .ok (.return_, 1) := by decide +kernel
theorem q99_0 : pm_V d 99 0 [.ref xn, l1] st S Q = pm_V d 99 1 [.ref xn, l1] (.ref xn :: st) S Q := pv_aload_n (pm_cdi rfl dX7_reckon_0) rfl
theorem q99_1 (hs : pm_sh S an = .inr 7) : pm_V d 99 1 [l0, l1] (.ref an :: st) S Q = pm_V d 99 4 [l0, l1] (.int (pm_gi S an 21) :: st) S Q := pv_getI (pm_cdi rfl dX7_reckon_1) (by decide +kernel) (by decide +kernel) (by decide +kernel) hs
theorem q99_4 : pm_V d 99 4 [l0, l1] (.int xi :: st) S Q = if xi = 0 then pm_V d 99 8 [l0, l1] st S Q else pm_V d 99 7 [l0, l1] st S Q := pv_if_eq (pm_cdi rfl dX7_reckon_4) rfl
theorem q99_7 : pm_V d 99 7 [l0, l1] [] S Q = Q none S := pv_rV (pm_cdi rfl dX7_reckon_7) (by decide +kernel)
theorem q99_8 : pm_V d 99 8 [.ref xn, l1] st S Q = pm_V d 99 9 [.ref xn, l1] (.ref xn :: st) S Q := pv_aload_n (pm_cdi rfl dX7_reckon_8) rfl
theorem q99_9 : pm_V d 99 9 [l0, l1] st S Q = pm_V d 99 10 [l0, l1] (.int 1 :: st) S Q := pv_iconst (pm_cdi rfl dX7_reckon_9) (by decide +kernel)
theorem q99_10 (hs : pm_sh S an = .inr 7) (hx : xi = 0 ∨ xi = 1) : pm_V d 99 10 [l0, l1] (.int xi :: .ref an :: st) S Q = pm_V d 99 13 [l0, l1] st (pm_sgi S an 21 xi) Q := pv_putZ (pm_cdi rfl dX7_reckon_10) (by decide +kernel) (by decide +kernel) (by decide +kernel) hs hx
theorem q99_13 : pm_V d 99 13 [l0, l1] st S Q = pm_V d 99 14 [l0, l1] (.int 0 :: st) S Q := pv_iconst (pm_cdi rfl dX7_reckon_13) (by decide +kernel)
theorem q99_14 : pm_V d 99 14 [.ref yn, l1] (.int xi :: st) S Q = pm_V d 99 15 [.ref yn, .int xi] st S Q := pv_istore_n (pm_cdi rfl dX7_reckon_14) rfl
theorem q99_15 : pm_V d 99 15 [l0, .int xi] st S Q = pm_V d 99 16 [l0, .int xi] (.int xi :: st) S Q := pv_iload_n (pm_cdi rfl dX7_reckon_15) rfl
theorem q99_16 : pm_V d 99 16 [.ref xn, l1] st S Q = pm_V d 99 17 [.ref xn, l1] (.ref xn :: st) S Q := pv_aload_n (pm_cdi rfl dX7_reckon_16) rfl
theorem q99_17 (hs : pm_sh S an = .inr 7) : pm_V d 99 17 [l0, l1] (.ref an :: st) S Q = pm_V d 99 20 [l0, l1] (.int (pm_gi S an 0) :: st) S Q := pv_getI (pm_cdi rfl dX7_reckon_17) (by decide +kernel) (by decide +kernel) (by decide +kernel) hs
theorem q99_20 : pm_V d 99 20 [l0, l1] (.int yi :: .int xi :: st) S Q = if xi < yi then pm_V d 99 23 [l0, l1] st S Q else pm_V d 99 52 [l0, l1] st S Q := pv_icmp_ge (pm_cdi rfl dX7_reckon_20) rfl
theorem q99_23 : pm_V d 99 23 [.ref xn, l1] st S Q = pm_V d 99 24 [.ref xn, l1] (.ref xn :: st) S Q := pv_aload_n (pm_cdi rfl dX7_reckon_23) rfl
theorem q99_24 (hs : pm_sh S an = .inr 7) : pm_V d 99 24 [l0, l1] (.ref an :: st) S Q = pm_V d 99 27 [l0, l1] (va_rf (pm_gr S an 1) :: st) S Q := pv_getA (pm_cdi rfl dX7_reckon_24) (by decide +kernel) (by decide +kernel) (by decide +kernel) hs
theorem q99_27 : pm_V d 99 27 [l0, .int xi] st S Q = pm_V d 99 28 [l0, .int xi] (.int xi :: st) S Q := pv_iload_n (pm_cdi rfl dX7_reckon_27) rfl
theorem q99_28 (hs : pm_ar S an 0 xi = true) : pm_V d 99 28 [l0, l1] (.int xi :: .ref an :: st) S Q = pm_V d 99 29 [l0, l1] (.int (pm_zi S an xi.toNatClampNeg) :: st) S Q := pv_iald (pm_cdi rfl dX7_reckon_28) hs
theorem q99_29 : pm_V d 99 29 [l0, l1] (.int xi :: st) S Q = if xi ≤ 0 then pm_V d 99 46 [l0, l1] st S Q else pm_V d 99 32 [l0, l1] st S Q := pv_if_le (pm_cdi rfl dX7_reckon_29) rfl
theorem q99_32 : pm_V d 99 32 [.ref xn, l1] st S Q = pm_V d 99 33 [.ref xn, l1] (.ref xn :: st) S Q := pv_aload_n (pm_cdi rfl dX7_reckon_32) rfl
theorem q99_33 (hs : pm_sh S an = .inr 7) : pm_V d 99 33 [l0, l1] (.ref an :: st) S Q = pm_V d 99 36 [l0, l1] (va_rf (pm_gr S an 6) :: st) S Q := pv_getA (pm_cdi rfl dX7_reckon_33) (by decide +kernel) (by decide +kernel) (by decide +kernel) hs
theorem q99_36 : pm_V d 99 36 [l0, .int xi] st S Q = pm_V d 99 37 [l0, .int xi] (.int xi :: st) S Q := pv_iload_n (pm_cdi rfl dX7_reckon_36) rfl
theorem q99_37 (hs : pm_ar S an 2 xi = true) : pm_V d 99 37 [l0, l1] (.int xi :: .ref an :: st) S Q = pm_V d 99 38 [l0, l1] (.int (pm_zi S an xi.toNatClampNeg) :: st) S Q := pv_bald (pm_cdi rfl dX7_reckon_37) hs
theorem q99_38 : pm_V d 99 38 [l0, l1] (.int xi :: st) S Q = if xi = 0 then pm_V d 99 41 [l0, l1] st S Q else pm_V d 99 46 [l0, l1] st S Q := pv_if_ne (pm_cdi rfl dX7_reckon_38) rfl
theorem q99_41 : pm_V d 99 41 [.ref xn, l1] st S Q = pm_V d 99 42 [.ref xn, l1] (.ref xn :: st) S Q := pv_aload_n (pm_cdi rfl dX7_reckon_41) rfl
theorem q99_42 : pm_V d 99 42 [l0, .int xi] st S Q = pm_V d 99 43 [l0, .int xi] (.int xi :: st) S Q := pv_iload_n (pm_cdi rfl dX7_reckon_42) rfl
theorem q99_43 (hs : pm_sh S an = .inr 7) : pm_V (d + 1) 99 43 [l0, l1] [.int v0i, .ref an] S Q = pm_N d 100 [.ref an, .int v0i] S (fun r S' => pm_V (d + 1) 99 46 [l0, l1] (r.toList ++ []) S' Q) := pv_callV (as := [.int v0i]) (pm_cdi rfl dX7_reckon_43) (Or.inl (by decide +kernel)) (by decide +kernel) (show _ = _ from (by decide +kernel : 1 = pm_np 100)) rfl (Nat.le_of_ble_eq_true rfl) (cl := 7) (by decide +kernel) hs
theorem q99_46 : pm_V d 99 46 [.ref yn, .int xi] st S Q = pm_V d 99 49 [.ref yn, .int (xi + 1)] st S Q := pv_iinc (pm_cdi rfl dX7_reckon_46) rfl (by decide +kernel) rfl
theorem q99_49 : pm_V d 99 49 [l0, l1] st S Q = pm_V d 99 15 [l0, l1] st S Q := pv_goto (pm_cdi rfl dX7_reckon_49) rfl
theorem q99_52 : pm_V d 99 52 [l0, l1] [] S Q = Q none S := pv_rV (pm_cdi rfl dX7_reckon_52) (by decide +kernel)
theorem q99_e : pm_N d 99 [.ref an] S Q = pm_V d 99 0 [.ref an, pm_j] [] S Q := pv_ent (Nat.le_of_ble_eq_true rfl) rfl
/-! 100: ViewsJoinsModel.reckonOne(I)V -/
theorem dX7_reckonOne_0 : decode cX7_reckonOne 0 = .ok (.aload_n 0, 1) := by decide +kernel
theorem dX7_reckonOne_1 : decode cX7_reckonOne 1 = .ok (.getfield 32, 3) := by decide +kernel
theorem dX7_reckonOne_4 : decode cX7_reckonOne 4 = .ok (.iload_n 1, 1) := by decide +kernel
theorem dX7_reckonOne_5 : decode cX7_reckonOne 5 = .ok (.iconst 0, 1) := by decide +kernel
theorem dX7_reckonOne_6 : decode cX7_reckonOne 6 = .ok (.iastore, 1) := by decide +kernel
theorem dX7_reckonOne_7 : decode cX7_reckonOne 7 = .ok (.aload_n 0, 1) := by decide +kernel
theorem dX7_reckonOne_8 : decode cX7_reckonOne 8 = .ok (.getfield 35, 3) := by decide +kernel
theorem dX7_reckonOne_11 : decode cX7_reckonOne 11 = .ok (.iload_n 1, 1) := by decide +kernel
theorem dX7_reckonOne_12 : decode cX7_reckonOne 12 = .ok (.iconst 0, 1) := by decide +kernel
theorem dX7_reckonOne_13 : decode cX7_reckonOne 13 = .ok (.iastore, 1) := by decide +kernel
theorem dX7_reckonOne_14 : decode cX7_reckonOne 14 = .ok (.aload_n 0, 1) := by decide +kernel
theorem dX7_reckonOne_15 : decode cX7_reckonOne 15 = .ok (.getfield 63, 3) := by decide +kernel
theorem dX7_reckonOne_18 : decode cX7_reckonOne 18 = .ok (.iload_n 1, 1) := by decide +kernel
theorem dX7_reckonOne_19 : decode cX7_reckonOne 19 = .ok (.iconst 0, 1) := by decide +kernel
theorem dX7_reckonOne_20 : decode cX7_reckonOne 20 = .ok (.iastore, 1) := by decide +kernel
theorem dX7_reckonOne_21 : decode cX7_reckonOne 21 = .ok (.aload_n 0, 1) := by decide +kernel
theorem dX7_reckonOne_22 : decode cX7_reckonOne 22 = .ok (.getfield 13, 3) := by decide +kernel
theorem dX7_reckonOne_25 : decode cX7_reckonOne 25 = .ok (.iload_n 1, 1) := by decide +kernel
theorem dX7_reckonOne_26 : decode cX7_reckonOne 26 = .ok (.iaload, 1) := by decide +kernel
theorem dX7_reckonOne_27 : decode cX7_reckonOne 27 = .ok (.istore_n 2, 1) := by decide +kernel
theorem dX7_reckonOne_28 : decode cX7_reckonOne 28 = .ok (.aload_n 0, 1) := by decide +kernel
theorem dX7_reckonOne_29 : decode cX7_reckonOne 29 = .ok (.getfield 16, 3) := by decide +kernel
theorem dX7_reckonOne_32 : decode cX7_reckonOne 32 = .ok (.iload_n 1, 1) := by decide +kernel
theorem dX7_reckonOne_33 : decode cX7_reckonOne 33 = .ok (.iaload, 1) := by decide +kernel
theorem dX7_reckonOne_34 : decode cX7_reckonOne 34 = .ok (.istore_n 3, 1) := by decide +kernel
theorem dX7_reckonOne_35 : decode cX7_reckonOne 35 = .ok (.aload_n 0, 1) := by decide +kernel
theorem dX7_reckonOne_36 : decode cX7_reckonOne 36 = .ok (.getfield 7, 3) := by decide +kernel
theorem dX7_reckonOne_39 : decode cX7_reckonOne 39 = .ok (.iload_n 1, 1) := by decide +kernel
theorem dX7_reckonOne_40 : decode cX7_reckonOne 40 = .ok (.iaload, 1) := by decide +kernel
theorem dX7_reckonOne_41 : decode cX7_reckonOne 41 = .ok (.iconst 3, 1) := by decide +kernel
theorem dX7_reckonOne_42 : decode cX7_reckonOne 42 = .ok (.if_icmp .lt 17, 3) := by decide +kernel
theorem dX7_reckonOne_45 : decode cX7_reckonOne 45 = .ok (.aload_n 0, 1) := by decide +kernel
theorem dX7_reckonOne_46 : decode cX7_reckonOne 46 = .ok (.getfield 7, 3) := by decide +kernel
theorem dX7_reckonOne_49 : decode cX7_reckonOne 49 = .ok (.iload_n 1, 1) := by decide +kernel
theorem dX7_reckonOne_50 : decode cX7_reckonOne 50 = .ok (.iaload, 1) := by decide +kernel
theorem dX7_reckonOne_51 : decode cX7_reckonOne 51 = .ok (.iconst 5, 1) := by decide +kernel
theorem dX7_reckonOne_52 : decode cX7_reckonOne 52 = .ok (.if_icmp .gt 7, 3) := by decide +kernel
theorem dX7_reckonOne_55 : decode cX7_reckonOne 55 = .ok (.iconst 1, 1) := by decide +kernel
theorem dX7_reckonOne_56 : decode cX7_reckonOne 56 = .ok (.goto 4, 3) := by decide +kernel
theorem dX7_reckonOne_59 : decode cX7_reckonOne 59 = .ok (.iconst 0, 1) := by decide +kernel
theorem dX7_reckonOne_60 : decode cX7_reckonOne 60 = .ok (.istore 4, 2) := by decide +kernel
theorem dX7_reckonOne_62 : decode cX7_reckonOne 62 = .ok (.aload_n 0, 1) := by decide +kernel
theorem dX7_reckonOne_63 : decode cX7_reckonOne 63 = .ok (.getfield 29, 3) := by decide +kernel
theorem dX7_reckonOne_66 : decode cX7_reckonOne 66 = .ok (.iload_n 1, 1) := by decide +kernel
theorem dX7_reckonOne_67 : decode cX7_reckonOne 67 = .ok (.aload_n 0, 1) := by decide +kernel
theorem dX7_reckonOne_68 : decode cX7_reckonOne 68 = .ok (.getfield 29, 3) := by decide +kernel
theorem dX7_reckonOne_71 : decode cX7_reckonOne 71 = .ok (.iload_n 2, 1) := by decide +kernel
theorem dX7_reckonOne_72 : decode cX7_reckonOne 72 = .ok (.iaload, 1) := by decide +kernel
theorem dX7_reckonOne_73 : decode cX7_reckonOne 73 = .ok (.ifCond .eq 12, 3) := by decide +kernel
theorem dX7_reckonOne_76 : decode cX7_reckonOne 76 = .ok (.aload_n 0, 1) := by decide +kernel
theorem dX7_reckonOne_77 : decode cX7_reckonOne 77 = .ok (.getfield 29, 3) := by decide +kernel
theorem dX7_reckonOne_80 : decode cX7_reckonOne 80 = .ok (.iload_n 2, 1) := by decide +kernel
theorem dX7_reckonOne_81 : decode cX7_reckonOne 81 = .ok (.iaload, 1) := by decide +kernel
theorem dX7_reckonOne_82 : decode cX7_reckonOne 82 = .ok (.goto 18, 3) := by decide +kernel
theorem dX7_reckonOne_85 : decode cX7_reckonOne 85 = .ok (.iload 4, 2) := by decide +kernel
theorem dX7_reckonOne_87 : decode cX7_reckonOne 87 = .ok (.ifCond .eq 12, 3) := by decide +kernel
theorem dX7_reckonOne_90 : decode cX7_reckonOne 90 = .ok (.aload_n 0, 1) := by decide +kernel
theorem dX7_reckonOne_91 : decode cX7_reckonOne 91 = .ok (.getfield 29, 3) := by decide +kernel
theorem dX7_reckonOne_94 : decode cX7_reckonOne 94 = .ok (.iload_n 3, 1) := by decide +kernel
theorem dX7_reckonOne_95 : decode cX7_reckonOne 95 = .ok (.iaload, 1) := by decide +kernel
theorem dX7_reckonOne_96 : decode cX7_reckonOne 96 = .ok (.goto 4, 3) := by decide +kernel
theorem dX7_reckonOne_99 : decode cX7_reckonOne 99 = .ok (.iconst 0, 1) := by decide +kernel
theorem dX7_reckonOne_100 : decode cX7_reckonOne 100 = .ok (.iastore, 1) := by decide +kernel
theorem dX7_reckonOne_101 : decode cX7_reckonOne 101 = .ok (.aload_n 0, 1) := by decide +kernel
theorem dX7_reckonOne_102 : decode cX7_reckonOne 102 = .ok (.getfield 29, 3) := by decide +kernel
theorem dX7_reckonOne_105 : decode cX7_reckonOne 105 = .ok (.iload_n 1, 1) := by decide +kernel
theorem dX7_reckonOne_106 : decode cX7_reckonOne 106 = .ok (.iaload, 1) := by decide +kernel
theorem dX7_reckonOne_107 : decode cX7_reckonOne 107 = .ok (.ifCond .eq 4, 3) := by decide +kernel
theorem dX7_reckonOne_110 : decode cX7_reckonOne 110 = .ok (.return_, 1) := by decide +kernel
theorem dX7_reckonOne_111 : decode cX7_reckonOne 111 = .ok (.aload_n 0, 1) := by decide +kernel
theorem dX7_reckonOne_112 : decode cX7_reckonOne 112 = .ok (.getfield 7, 3) := by decide +kernel
theorem dX7_reckonOne_115 : decode cX7_reckonOne 115 = .ok (.iload_n 1, 1) := by decide +kernel
theorem dX7_reckonOne_116 : decode cX7_reckonOne 116 = .ok (.iaload, 1) := by decide +kernel
theorem dX7_reckonOne_117 : decode cX7_reckonOne 117 = .ok (.tableswitch 96 1 6 #[39, 48, 57, 67, 77, 87], 39) := by decide +kernel
theorem dX7_reckonOne_156 : decode cX7_reckonOne 156 = .ok (.aload_n 0, 1) := by decide +kernel
theorem dX7_reckonOne_157 : decode cX7_reckonOne 157 = .ok (.iload_n 1, 1) := by decide +kernel
theorem dX7_reckonOne_158 : decode cX7_reckonOne 158 = .ok (.iload_n 2, 1) := by decide +kernel
theorem dX7_reckonOne_159 : decode cX7_reckonOne 159 = .ok (.invokevirtual 155, 3) := by decide +kernel
theorem dX7_reckonOne_162 : decode cX7_reckonOne 162 = .ok (.goto 57, 3) := by decide +kernel
theorem dX7_reckonOne_165 : decode cX7_reckonOne 165 = .ok (.aload_n 0, 1) := by decide +kernel
theorem dX7_reckonOne_166 : decode cX7_reckonOne 166 = .ok (.iload_n 1, 1) := by decide +kernel
theorem dX7_reckonOne_167 : decode cX7_reckonOne 167 = .ok (.iload_n 2, 1) := by decide +kernel
theorem dX7_reckonOne_168 : decode cX7_reckonOne 168 = .ok (.invokevirtual 159, 3) := by decide +kernel
theorem dX7_reckonOne_171 : decode cX7_reckonOne 171 = .ok (.goto 48, 3) := by decide +kernel
theorem dX7_reckonOne_174 : decode cX7_reckonOne 174 = .ok (.aload_n 0, 1) := by decide +kernel
theorem dX7_reckonOne_175 : decode cX7_reckonOne 175 = .ok (.iload_n 1, 1) := by decide +kernel
theorem dX7_reckonOne_176 : decode cX7_reckonOne 176 = .ok (.iload_n 2, 1) := by decide +kernel
theorem dX7_reckonOne_177 : decode cX7_reckonOne 177 = .ok (.iload_n 3, 1) := by decide +kernel
theorem dX7_reckonOne_178 : decode cX7_reckonOne 178 = .ok (.invokevirtual 162, 3) := by decide +kernel
theorem dX7_reckonOne_181 : decode cX7_reckonOne 181 = .ok (.goto 38, 3) := by decide +kernel
theorem dX7_reckonOne_184 : decode cX7_reckonOne 184 = .ok (.aload_n 0, 1) := by decide +kernel
theorem dX7_reckonOne_185 : decode cX7_reckonOne 185 = .ok (.iload_n 1, 1) := by decide +kernel
theorem dX7_reckonOne_186 : decode cX7_reckonOne 186 = .ok (.iload_n 2, 1) := by decide +kernel
theorem dX7_reckonOne_187 : decode cX7_reckonOne 187 = .ok (.iload_n 3, 1) := by decide +kernel
theorem dX7_reckonOne_188 : decode cX7_reckonOne 188 = .ok (.invokevirtual 166, 3) := by decide +kernel
theorem dX7_reckonOne_191 : decode cX7_reckonOne 191 = .ok (.goto 28, 3) := by decide +kernel
theorem dX7_reckonOne_194 : decode cX7_reckonOne 194 = .ok (.aload_n 0, 1) := by decide +kernel
theorem dX7_reckonOne_195 : decode cX7_reckonOne 195 = .ok (.iload_n 1, 1) := by decide +kernel
theorem dX7_reckonOne_196 : decode cX7_reckonOne 196 = .ok (.iload_n 2, 1) := by decide +kernel
theorem dX7_reckonOne_197 : decode cX7_reckonOne 197 = .ok (.iload_n 3, 1) := by decide +kernel
theorem dX7_reckonOne_198 : decode cX7_reckonOne 198 = .ok (.invokevirtual 169, 3) := by decide +kernel
theorem dX7_reckonOne_201 : decode cX7_reckonOne 201 = .ok (.goto 18, 3) := by decide +kernel
theorem dX7_reckonOne_204 : decode cX7_reckonOne 204 = .ok (.aload_n 0, 1) := by decide +kernel
theorem dX7_reckonOne_205 : decode cX7_reckonOne 205 = .ok (.iload_n 1, 1) := by decide +kernel
theorem dX7_reckonOne_206 : decode cX7_reckonOne 206 = .ok (.iload_n 2, 1) := by decide +kernel
theorem dX7_reckonOne_207 : decode cX7_reckonOne 207 = .ok (.invokevirtual 172, 3) := by decide +kernel
theorem dX7_reckonOne_210 : decode cX7_reckonOne 210 = .ok (.goto 9, 3) := by decide +kernel
theorem dX7_reckonOne_213 : decode cX7_reckonOne 213 = .ok (.aload_n 0, 1) := by decide +kernel
theorem dX7_reckonOne_214 : decode cX7_reckonOne 214 = .ok (.iload_n 1, 1) := by decide +kernel
theorem dX7_reckonOne_215 : decode cX7_reckonOne 215 = .ok (.iload_n 2, 1) := by decide +kernel
theorem dX7_reckonOne_216 : decode cX7_reckonOne 216 = .ok (.invokevirtual 175, 3) := by decide +kernel
theorem dX7_reckonOne_219 : decode cX7_reckonOne 219 = .ok (.return_, 1) := by decide +kernel
theorem q100_0 : pm_V d 100 0 [.ref xn, l1, l2, l3, l4] st S Q = pm_V d 100 1 [.ref xn, l1, l2, l3, l4] (.ref xn :: st) S Q := pv_aload_n (pm_cdi rfl dX7_reckonOne_0) rfl
theorem q100_1 (hs : pm_sh S an = .inr 7) : pm_V d 100 1 [l0, l1, l2, l3, l4] (.ref an :: st) S Q = pm_V d 100 4 [l0, l1, l2, l3, l4] (va_rf (pm_gr S an 8) :: st) S Q := pv_getA (pm_cdi rfl dX7_reckonOne_1) (by decide +kernel) (by decide +kernel) (by decide +kernel) hs
theorem q100_4 : pm_V d 100 4 [l0, .int xi, l2, l3, l4] st S Q = pm_V d 100 5 [l0, .int xi, l2, l3, l4] (.int xi :: st) S Q := pv_iload_n (pm_cdi rfl dX7_reckonOne_4) rfl
theorem q100_5 : pm_V d 100 5 [l0, l1, l2, l3, l4] st S Q = pm_V d 100 6 [l0, l1, l2, l3, l4] (.int 0 :: st) S Q := pv_iconst (pm_cdi rfl dX7_reckonOne_5) (by decide +kernel)
theorem q100_6 (hs : pm_ar S an 0 xi = true) : pm_V d 100 6 [l0, l1, l2, l3, l4] (.int vi :: .int xi :: .ref an :: st) S Q = pm_V d 100 7 [l0, l1, l2, l3, l4] st (pm_szi S an xi.toNatClampNeg vi) Q := pv_iast (pm_cdi rfl dX7_reckonOne_6) hs
theorem q100_7 : pm_V d 100 7 [.ref xn, l1, l2, l3, l4] st S Q = pm_V d 100 8 [.ref xn, l1, l2, l3, l4] (.ref xn :: st) S Q := pv_aload_n (pm_cdi rfl dX7_reckonOne_7) rfl
theorem q100_8 (hs : pm_sh S an = .inr 7) : pm_V d 100 8 [l0, l1, l2, l3, l4] (.ref an :: st) S Q = pm_V d 100 11 [l0, l1, l2, l3, l4] (va_rf (pm_gr S an 9) :: st) S Q := pv_getA (pm_cdi rfl dX7_reckonOne_8) (by decide +kernel) (by decide +kernel) (by decide +kernel) hs
theorem q100_11 : pm_V d 100 11 [l0, .int xi, l2, l3, l4] st S Q = pm_V d 100 12 [l0, .int xi, l2, l3, l4] (.int xi :: st) S Q := pv_iload_n (pm_cdi rfl dX7_reckonOne_11) rfl
theorem q100_12 : pm_V d 100 12 [l0, l1, l2, l3, l4] st S Q = pm_V d 100 13 [l0, l1, l2, l3, l4] (.int 0 :: st) S Q := pv_iconst (pm_cdi rfl dX7_reckonOne_12) (by decide +kernel)
theorem q100_13 (hs : pm_ar S an 0 xi = true) : pm_V d 100 13 [l0, l1, l2, l3, l4] (.int vi :: .int xi :: .ref an :: st) S Q = pm_V d 100 14 [l0, l1, l2, l3, l4] st (pm_szi S an xi.toNatClampNeg vi) Q := pv_iast (pm_cdi rfl dX7_reckonOne_13) hs
theorem q100_14 : pm_V d 100 14 [.ref xn, l1, l2, l3, l4] st S Q = pm_V d 100 15 [.ref xn, l1, l2, l3, l4] (.ref xn :: st) S Q := pv_aload_n (pm_cdi rfl dX7_reckonOne_14) rfl
theorem q100_15 (hs : pm_sh S an = .inr 7) : pm_V d 100 15 [l0, l1, l2, l3, l4] (.ref an :: st) S Q = pm_V d 100 18 [l0, l1, l2, l3, l4] (va_rf (pm_gr S an 18) :: st) S Q := pv_getA (pm_cdi rfl dX7_reckonOne_15) (by decide +kernel) (by decide +kernel) (by decide +kernel) hs
theorem q100_18 : pm_V d 100 18 [l0, .int xi, l2, l3, l4] st S Q = pm_V d 100 19 [l0, .int xi, l2, l3, l4] (.int xi :: st) S Q := pv_iload_n (pm_cdi rfl dX7_reckonOne_18) rfl
theorem q100_19 : pm_V d 100 19 [l0, l1, l2, l3, l4] st S Q = pm_V d 100 20 [l0, l1, l2, l3, l4] (.int 0 :: st) S Q := pv_iconst (pm_cdi rfl dX7_reckonOne_19) (by decide +kernel)
theorem q100_20 (hs : pm_ar S an 0 xi = true) : pm_V d 100 20 [l0, l1, l2, l3, l4] (.int vi :: .int xi :: .ref an :: st) S Q = pm_V d 100 21 [l0, l1, l2, l3, l4] st (pm_szi S an xi.toNatClampNeg vi) Q := pv_iast (pm_cdi rfl dX7_reckonOne_20) hs
theorem q100_21 : pm_V d 100 21 [.ref xn, l1, l2, l3, l4] st S Q = pm_V d 100 22 [.ref xn, l1, l2, l3, l4] (.ref xn :: st) S Q := pv_aload_n (pm_cdi rfl dX7_reckonOne_21) rfl
theorem q100_22 (hs : pm_sh S an = .inr 7) : pm_V d 100 22 [l0, l1, l2, l3, l4] (.ref an :: st) S Q = pm_V d 100 25 [l0, l1, l2, l3, l4] (va_rf (pm_gr S an 2) :: st) S Q := pv_getA (pm_cdi rfl dX7_reckonOne_22) (by decide +kernel) (by decide +kernel) (by decide +kernel) hs
theorem q100_25 : pm_V d 100 25 [l0, .int xi, l2, l3, l4] st S Q = pm_V d 100 26 [l0, .int xi, l2, l3, l4] (.int xi :: st) S Q := pv_iload_n (pm_cdi rfl dX7_reckonOne_25) rfl
theorem q100_26 (hs : pm_ar S an 0 xi = true) : pm_V d 100 26 [l0, l1, l2, l3, l4] (.int xi :: .ref an :: st) S Q = pm_V d 100 27 [l0, l1, l2, l3, l4] (.int (pm_zi S an xi.toNatClampNeg) :: st) S Q := pv_iald (pm_cdi rfl dX7_reckonOne_26) hs
theorem q100_27 : pm_V d 100 27 [l0, .int yi, l2, l3, l4] (.int xi :: st) S Q = pm_V d 100 28 [l0, .int yi, .int xi, l3, l4] st S Q := pv_istore_n (pm_cdi rfl dX7_reckonOne_27) rfl
theorem q100_28 : pm_V d 100 28 [.ref xn, l1, l2, l3, l4] st S Q = pm_V d 100 29 [.ref xn, l1, l2, l3, l4] (.ref xn :: st) S Q := pv_aload_n (pm_cdi rfl dX7_reckonOne_28) rfl
theorem q100_29 (hs : pm_sh S an = .inr 7) : pm_V d 100 29 [l0, l1, l2, l3, l4] (.ref an :: st) S Q = pm_V d 100 32 [l0, l1, l2, l3, l4] (va_rf (pm_gr S an 3) :: st) S Q := pv_getA (pm_cdi rfl dX7_reckonOne_29) (by decide +kernel) (by decide +kernel) (by decide +kernel) hs
theorem q100_32 : pm_V d 100 32 [l0, .int xi, l2, l3, l4] st S Q = pm_V d 100 33 [l0, .int xi, l2, l3, l4] (.int xi :: st) S Q := pv_iload_n (pm_cdi rfl dX7_reckonOne_32) rfl
theorem q100_33 (hs : pm_ar S an 0 xi = true) : pm_V d 100 33 [l0, l1, l2, l3, l4] (.int xi :: .ref an :: st) S Q = pm_V d 100 34 [l0, l1, l2, l3, l4] (.int (pm_zi S an xi.toNatClampNeg) :: st) S Q := pv_iald (pm_cdi rfl dX7_reckonOne_33) hs
theorem q100_34 : pm_V d 100 34 [l0, l1, .int yi, l3, l4] (.int xi :: st) S Q = pm_V d 100 35 [l0, l1, .int yi, .int xi, l4] st S Q := pv_istore_n (pm_cdi rfl dX7_reckonOne_34) rfl
theorem q100_35 : pm_V d 100 35 [.ref xn, l1, l2, l3, l4] st S Q = pm_V d 100 36 [.ref xn, l1, l2, l3, l4] (.ref xn :: st) S Q := pv_aload_n (pm_cdi rfl dX7_reckonOne_35) rfl
theorem q100_36 (hs : pm_sh S an = .inr 7) : pm_V d 100 36 [l0, l1, l2, l3, l4] (.ref an :: st) S Q = pm_V d 100 39 [l0, l1, l2, l3, l4] (va_rf (pm_gr S an 1) :: st) S Q := pv_getA (pm_cdi rfl dX7_reckonOne_36) (by decide +kernel) (by decide +kernel) (by decide +kernel) hs
theorem q100_39 : pm_V d 100 39 [l0, .int xi, l2, l3, l4] st S Q = pm_V d 100 40 [l0, .int xi, l2, l3, l4] (.int xi :: st) S Q := pv_iload_n (pm_cdi rfl dX7_reckonOne_39) rfl
theorem q100_40 (hs : pm_ar S an 0 xi = true) : pm_V d 100 40 [l0, l1, l2, l3, l4] (.int xi :: .ref an :: st) S Q = pm_V d 100 41 [l0, l1, l2, l3, l4] (.int (pm_zi S an xi.toNatClampNeg) :: st) S Q := pv_iald (pm_cdi rfl dX7_reckonOne_40) hs
theorem q100_41 : pm_V d 100 41 [l0, l1, l2, l3, l4] st S Q = pm_V d 100 42 [l0, l1, l2, l3, l4] (.int 3 :: st) S Q := pv_iconst (pm_cdi rfl dX7_reckonOne_41) (by decide +kernel)
theorem q100_42 : pm_V d 100 42 [l0, l1, l2, l3, l4] (.int yi :: .int xi :: st) S Q = if xi < yi then pm_V d 100 59 [l0, l1, l2, l3, l4] st S Q else pm_V d 100 45 [l0, l1, l2, l3, l4] st S Q := pv_icmp_lt (pm_cdi rfl dX7_reckonOne_42) rfl
theorem q100_45 : pm_V d 100 45 [.ref xn, l1, l2, l3, l4] st S Q = pm_V d 100 46 [.ref xn, l1, l2, l3, l4] (.ref xn :: st) S Q := pv_aload_n (pm_cdi rfl dX7_reckonOne_45) rfl
theorem q100_46 (hs : pm_sh S an = .inr 7) : pm_V d 100 46 [l0, l1, l2, l3, l4] (.ref an :: st) S Q = pm_V d 100 49 [l0, l1, l2, l3, l4] (va_rf (pm_gr S an 1) :: st) S Q := pv_getA (pm_cdi rfl dX7_reckonOne_46) (by decide +kernel) (by decide +kernel) (by decide +kernel) hs
theorem q100_49 : pm_V d 100 49 [l0, .int xi, l2, l3, l4] st S Q = pm_V d 100 50 [l0, .int xi, l2, l3, l4] (.int xi :: st) S Q := pv_iload_n (pm_cdi rfl dX7_reckonOne_49) rfl
theorem q100_50 (hs : pm_ar S an 0 xi = true) : pm_V d 100 50 [l0, l1, l2, l3, l4] (.int xi :: .ref an :: st) S Q = pm_V d 100 51 [l0, l1, l2, l3, l4] (.int (pm_zi S an xi.toNatClampNeg) :: st) S Q := pv_iald (pm_cdi rfl dX7_reckonOne_50) hs
theorem q100_51 : pm_V d 100 51 [l0, l1, l2, l3, l4] st S Q = pm_V d 100 52 [l0, l1, l2, l3, l4] (.int 5 :: st) S Q := pv_iconst (pm_cdi rfl dX7_reckonOne_51) (by decide +kernel)
theorem q100_52 : pm_V d 100 52 [l0, l1, l2, l3, l4] (.int yi :: .int xi :: st) S Q = if xi ≤ yi then pm_V d 100 55 [l0, l1, l2, l3, l4] st S Q else pm_V d 100 59 [l0, l1, l2, l3, l4] st S Q := pv_icmp_gt (pm_cdi rfl dX7_reckonOne_52) rfl
theorem q100_55 : pm_V d 100 55 [l0, l1, l2, l3, l4] st S Q = pm_V d 100 56 [l0, l1, l2, l3, l4] (.int 1 :: st) S Q := pv_iconst (pm_cdi rfl dX7_reckonOne_55) (by decide +kernel)
theorem q100_56 : pm_V d 100 56 [l0, l1, l2, l3, l4] st S Q = pm_V d 100 60 [l0, l1, l2, l3, l4] st S Q := pv_goto (pm_cdi rfl dX7_reckonOne_56) rfl
theorem q100_59 : pm_V d 100 59 [l0, l1, l2, l3, l4] st S Q = pm_V d 100 60 [l0, l1, l2, l3, l4] (.int 0 :: st) S Q := pv_iconst (pm_cdi rfl dX7_reckonOne_59) (by decide +kernel)
theorem q100_60 : pm_V d 100 60 [l0, l1, l2, .int yi, l4] (.int xi :: st) S Q = pm_V d 100 62 [l0, l1, l2, .int yi, .int xi] st S Q := pv_istore (pm_cdi rfl dX7_reckonOne_60) rfl
theorem q100_62 : pm_V d 100 62 [.ref xn, l1, l2, l3, l4] st S Q = pm_V d 100 63 [.ref xn, l1, l2, l3, l4] (.ref xn :: st) S Q := pv_aload_n (pm_cdi rfl dX7_reckonOne_62) rfl
theorem q100_63 (hs : pm_sh S an = .inr 7) : pm_V d 100 63 [l0, l1, l2, l3, l4] (.ref an :: st) S Q = pm_V d 100 66 [l0, l1, l2, l3, l4] (va_rf (pm_gr S an 7) :: st) S Q := pv_getA (pm_cdi rfl dX7_reckonOne_63) (by decide +kernel) (by decide +kernel) (by decide +kernel) hs
theorem q100_66 : pm_V d 100 66 [l0, .int xi, l2, l3, l4] st S Q = pm_V d 100 67 [l0, .int xi, l2, l3, l4] (.int xi :: st) S Q := pv_iload_n (pm_cdi rfl dX7_reckonOne_66) rfl
theorem q100_67 : pm_V d 100 67 [.ref xn, l1, l2, l3, l4] st S Q = pm_V d 100 68 [.ref xn, l1, l2, l3, l4] (.ref xn :: st) S Q := pv_aload_n (pm_cdi rfl dX7_reckonOne_67) rfl
theorem q100_68 (hs : pm_sh S an = .inr 7) : pm_V d 100 68 [l0, l1, l2, l3, l4] (.ref an :: st) S Q = pm_V d 100 71 [l0, l1, l2, l3, l4] (va_rf (pm_gr S an 7) :: st) S Q := pv_getA (pm_cdi rfl dX7_reckonOne_68) (by decide +kernel) (by decide +kernel) (by decide +kernel) hs
theorem q100_71 : pm_V d 100 71 [l0, l1, .int xi, l3, l4] st S Q = pm_V d 100 72 [l0, l1, .int xi, l3, l4] (.int xi :: st) S Q := pv_iload_n (pm_cdi rfl dX7_reckonOne_71) rfl
theorem q100_72 (hs : pm_ar S an 0 xi = true) : pm_V d 100 72 [l0, l1, l2, l3, l4] (.int xi :: .ref an :: st) S Q = pm_V d 100 73 [l0, l1, l2, l3, l4] (.int (pm_zi S an xi.toNatClampNeg) :: st) S Q := pv_iald (pm_cdi rfl dX7_reckonOne_72) hs
theorem q100_73 : pm_V d 100 73 [l0, l1, l2, l3, l4] (.int xi :: st) S Q = if xi = 0 then pm_V d 100 85 [l0, l1, l2, l3, l4] st S Q else pm_V d 100 76 [l0, l1, l2, l3, l4] st S Q := pv_if_eq (pm_cdi rfl dX7_reckonOne_73) rfl
theorem q100_76 : pm_V d 100 76 [.ref xn, l1, l2, l3, l4] st S Q = pm_V d 100 77 [.ref xn, l1, l2, l3, l4] (.ref xn :: st) S Q := pv_aload_n (pm_cdi rfl dX7_reckonOne_76) rfl
theorem q100_77 (hs : pm_sh S an = .inr 7) : pm_V d 100 77 [l0, l1, l2, l3, l4] (.ref an :: st) S Q = pm_V d 100 80 [l0, l1, l2, l3, l4] (va_rf (pm_gr S an 7) :: st) S Q := pv_getA (pm_cdi rfl dX7_reckonOne_77) (by decide +kernel) (by decide +kernel) (by decide +kernel) hs
theorem q100_80 : pm_V d 100 80 [l0, l1, .int xi, l3, l4] st S Q = pm_V d 100 81 [l0, l1, .int xi, l3, l4] (.int xi :: st) S Q := pv_iload_n (pm_cdi rfl dX7_reckonOne_80) rfl
theorem q100_81 (hs : pm_ar S an 0 xi = true) : pm_V d 100 81 [l0, l1, l2, l3, l4] (.int xi :: .ref an :: st) S Q = pm_V d 100 82 [l0, l1, l2, l3, l4] (.int (pm_zi S an xi.toNatClampNeg) :: st) S Q := pv_iald (pm_cdi rfl dX7_reckonOne_81) hs
theorem q100_82 : pm_V d 100 82 [l0, l1, l2, l3, l4] st S Q = pm_V d 100 100 [l0, l1, l2, l3, l4] st S Q := pv_goto (pm_cdi rfl dX7_reckonOne_82) rfl
theorem q100_85 : pm_V d 100 85 [l0, l1, l2, l3, .int xi] st S Q = pm_V d 100 87 [l0, l1, l2, l3, .int xi] (.int xi :: st) S Q := pv_iload (pm_cdi rfl dX7_reckonOne_85) rfl
theorem q100_87 : pm_V d 100 87 [l0, l1, l2, l3, l4] (.int xi :: st) S Q = if xi = 0 then pm_V d 100 99 [l0, l1, l2, l3, l4] st S Q else pm_V d 100 90 [l0, l1, l2, l3, l4] st S Q := pv_if_eq (pm_cdi rfl dX7_reckonOne_87) rfl
theorem q100_90 : pm_V d 100 90 [.ref xn, l1, l2, l3, l4] st S Q = pm_V d 100 91 [.ref xn, l1, l2, l3, l4] (.ref xn :: st) S Q := pv_aload_n (pm_cdi rfl dX7_reckonOne_90) rfl
theorem q100_91 (hs : pm_sh S an = .inr 7) : pm_V d 100 91 [l0, l1, l2, l3, l4] (.ref an :: st) S Q = pm_V d 100 94 [l0, l1, l2, l3, l4] (va_rf (pm_gr S an 7) :: st) S Q := pv_getA (pm_cdi rfl dX7_reckonOne_91) (by decide +kernel) (by decide +kernel) (by decide +kernel) hs
theorem q100_94 : pm_V d 100 94 [l0, l1, l2, .int xi, l4] st S Q = pm_V d 100 95 [l0, l1, l2, .int xi, l4] (.int xi :: st) S Q := pv_iload_n (pm_cdi rfl dX7_reckonOne_94) rfl
theorem q100_95 (hs : pm_ar S an 0 xi = true) : pm_V d 100 95 [l0, l1, l2, l3, l4] (.int xi :: .ref an :: st) S Q = pm_V d 100 96 [l0, l1, l2, l3, l4] (.int (pm_zi S an xi.toNatClampNeg) :: st) S Q := pv_iald (pm_cdi rfl dX7_reckonOne_95) hs
theorem q100_96 : pm_V d 100 96 [l0, l1, l2, l3, l4] st S Q = pm_V d 100 100 [l0, l1, l2, l3, l4] st S Q := pv_goto (pm_cdi rfl dX7_reckonOne_96) rfl
theorem q100_99 : pm_V d 100 99 [l0, l1, l2, l3, l4] st S Q = pm_V d 100 100 [l0, l1, l2, l3, l4] (.int 0 :: st) S Q := pv_iconst (pm_cdi rfl dX7_reckonOne_99) (by decide +kernel)
theorem q100_100 (hs : pm_ar S an 0 xi = true) : pm_V d 100 100 [l0, l1, l2, l3, l4] (.int vi :: .int xi :: .ref an :: st) S Q = pm_V d 100 101 [l0, l1, l2, l3, l4] st (pm_szi S an xi.toNatClampNeg vi) Q := pv_iast (pm_cdi rfl dX7_reckonOne_100) hs
theorem q100_101 : pm_V d 100 101 [.ref xn, l1, l2, l3, l4] st S Q = pm_V d 100 102 [.ref xn, l1, l2, l3, l4] (.ref xn :: st) S Q := pv_aload_n (pm_cdi rfl dX7_reckonOne_101) rfl
theorem q100_102 (hs : pm_sh S an = .inr 7) : pm_V d 100 102 [l0, l1, l2, l3, l4] (.ref an :: st) S Q = pm_V d 100 105 [l0, l1, l2, l3, l4] (va_rf (pm_gr S an 7) :: st) S Q := pv_getA (pm_cdi rfl dX7_reckonOne_102) (by decide +kernel) (by decide +kernel) (by decide +kernel) hs
theorem q100_105 : pm_V d 100 105 [l0, .int xi, l2, l3, l4] st S Q = pm_V d 100 106 [l0, .int xi, l2, l3, l4] (.int xi :: st) S Q := pv_iload_n (pm_cdi rfl dX7_reckonOne_105) rfl
theorem q100_106 (hs : pm_ar S an 0 xi = true) : pm_V d 100 106 [l0, l1, l2, l3, l4] (.int xi :: .ref an :: st) S Q = pm_V d 100 107 [l0, l1, l2, l3, l4] (.int (pm_zi S an xi.toNatClampNeg) :: st) S Q := pv_iald (pm_cdi rfl dX7_reckonOne_106) hs
theorem q100_107 : pm_V d 100 107 [l0, l1, l2, l3, l4] (.int xi :: st) S Q = if xi = 0 then pm_V d 100 111 [l0, l1, l2, l3, l4] st S Q else pm_V d 100 110 [l0, l1, l2, l3, l4] st S Q := pv_if_eq (pm_cdi rfl dX7_reckonOne_107) rfl
theorem q100_110 : pm_V d 100 110 [l0, l1, l2, l3, l4] [] S Q = Q none S := pv_rV (pm_cdi rfl dX7_reckonOne_110) (by decide +kernel)
theorem q100_111 : pm_V d 100 111 [.ref xn, l1, l2, l3, l4] st S Q = pm_V d 100 112 [.ref xn, l1, l2, l3, l4] (.ref xn :: st) S Q := pv_aload_n (pm_cdi rfl dX7_reckonOne_111) rfl
theorem q100_112 (hs : pm_sh S an = .inr 7) : pm_V d 100 112 [l0, l1, l2, l3, l4] (.ref an :: st) S Q = pm_V d 100 115 [l0, l1, l2, l3, l4] (va_rf (pm_gr S an 1) :: st) S Q := pv_getA (pm_cdi rfl dX7_reckonOne_112) (by decide +kernel) (by decide +kernel) (by decide +kernel) hs
theorem q100_115 : pm_V d 100 115 [l0, .int xi, l2, l3, l4] st S Q = pm_V d 100 116 [l0, .int xi, l2, l3, l4] (.int xi :: st) S Q := pv_iload_n (pm_cdi rfl dX7_reckonOne_115) rfl
theorem q100_116 (hs : pm_ar S an 0 xi = true) : pm_V d 100 116 [l0, l1, l2, l3, l4] (.int xi :: .ref an :: st) S Q = pm_V d 100 117 [l0, l1, l2, l3, l4] (.int (pm_zi S an xi.toNatClampNeg) :: st) S Q := pv_iald (pm_cdi rfl dX7_reckonOne_116) hs
theorem q100_117 : pm_V d 100 117 [l0, l1, l2, l3, l4] (.int xi :: st) S Q = pm_V d 100 (pm_tsw xi 1 [156, 165, 174, 184, 194, 204] 213) [l0, l1, l2, l3, l4] st S Q := pv_tsw (pm_cdi rfl dX7_reckonOne_117) (by decide +kernel) rfl (by decide +kernel)
theorem q100_156 : pm_V d 100 156 [.ref xn, l1, l2, l3, l4] st S Q = pm_V d 100 157 [.ref xn, l1, l2, l3, l4] (.ref xn :: st) S Q := pv_aload_n (pm_cdi rfl dX7_reckonOne_156) rfl
theorem q100_157 : pm_V d 100 157 [l0, .int xi, l2, l3, l4] st S Q = pm_V d 100 158 [l0, .int xi, l2, l3, l4] (.int xi :: st) S Q := pv_iload_n (pm_cdi rfl dX7_reckonOne_157) rfl
theorem q100_158 : pm_V d 100 158 [l0, l1, .int xi, l3, l4] st S Q = pm_V d 100 159 [l0, l1, .int xi, l3, l4] (.int xi :: st) S Q := pv_iload_n (pm_cdi rfl dX7_reckonOne_158) rfl
theorem q100_159 (hs : pm_sh S an = .inr 7) : pm_V (d + 1) 100 159 [l0, l1, l2, l3, l4] [.int v1i, .int v0i, .ref an] S Q = pm_N d 110 [.ref an, .int v0i, .int v1i] S (fun r S' => pm_V (d + 1) 100 162 [l0, l1, l2, l3, l4] (r.toList ++ []) S' Q) := pv_callV (as := [.int v0i, .int v1i]) (pm_cdi rfl dX7_reckonOne_159) (Or.inl (by decide +kernel)) (by decide +kernel) (show _ = _ from (by decide +kernel : 2 = pm_np 110)) rfl (Nat.le_of_ble_eq_true rfl) (cl := 7) (by decide +kernel) hs
theorem q100_162 : pm_V d 100 162 [l0, l1, l2, l3, l4] st S Q = pm_V d 100 219 [l0, l1, l2, l3, l4] st S Q := pv_goto (pm_cdi rfl dX7_reckonOne_162) rfl
theorem q100_165 : pm_V d 100 165 [.ref xn, l1, l2, l3, l4] st S Q = pm_V d 100 166 [.ref xn, l1, l2, l3, l4] (.ref xn :: st) S Q := pv_aload_n (pm_cdi rfl dX7_reckonOne_165) rfl
theorem q100_166 : pm_V d 100 166 [l0, .int xi, l2, l3, l4] st S Q = pm_V d 100 167 [l0, .int xi, l2, l3, l4] (.int xi :: st) S Q := pv_iload_n (pm_cdi rfl dX7_reckonOne_166) rfl
theorem q100_167 : pm_V d 100 167 [l0, l1, .int xi, l3, l4] st S Q = pm_V d 100 168 [l0, l1, .int xi, l3, l4] (.int xi :: st) S Q := pv_iload_n (pm_cdi rfl dX7_reckonOne_167) rfl
theorem q100_168 (hs : pm_sh S an = .inr 7) : pm_V (d + 1) 100 168 [l0, l1, l2, l3, l4] [.int v1i, .int v0i, .ref an] S Q = pm_N d 112 [.ref an, .int v0i, .int v1i] S (fun r S' => pm_V (d + 1) 100 171 [l0, l1, l2, l3, l4] (r.toList ++ []) S' Q) := pv_callV (as := [.int v0i, .int v1i]) (pm_cdi rfl dX7_reckonOne_168) (Or.inl (by decide +kernel)) (by decide +kernel) (show _ = _ from (by decide +kernel : 2 = pm_np 112)) rfl (Nat.le_of_ble_eq_true rfl) (cl := 7) (by decide +kernel) hs
theorem q100_171 : pm_V d 100 171 [l0, l1, l2, l3, l4] st S Q = pm_V d 100 219 [l0, l1, l2, l3, l4] st S Q := pv_goto (pm_cdi rfl dX7_reckonOne_171) rfl
theorem q100_174 : pm_V d 100 174 [.ref xn, l1, l2, l3, l4] st S Q = pm_V d 100 175 [.ref xn, l1, l2, l3, l4] (.ref xn :: st) S Q := pv_aload_n (pm_cdi rfl dX7_reckonOne_174) rfl
theorem q100_175 : pm_V d 100 175 [l0, .int xi, l2, l3, l4] st S Q = pm_V d 100 176 [l0, .int xi, l2, l3, l4] (.int xi :: st) S Q := pv_iload_n (pm_cdi rfl dX7_reckonOne_175) rfl
theorem q100_176 : pm_V d 100 176 [l0, l1, .int xi, l3, l4] st S Q = pm_V d 100 177 [l0, l1, .int xi, l3, l4] (.int xi :: st) S Q := pv_iload_n (pm_cdi rfl dX7_reckonOne_176) rfl
theorem q100_177 : pm_V d 100 177 [l0, l1, l2, .int xi, l4] st S Q = pm_V d 100 178 [l0, l1, l2, .int xi, l4] (.int xi :: st) S Q := pv_iload_n (pm_cdi rfl dX7_reckonOne_177) rfl
theorem q100_178 (hs : pm_sh S an = .inr 7) : pm_V (d + 1) 100 178 [l0, l1, l2, l3, l4] [.int v2i, .int v1i, .int v0i, .ref an] S Q = pm_N d 113 [.ref an, .int v0i, .int v1i, .int v2i] S (fun r S' => pm_V (d + 1) 100 181 [l0, l1, l2, l3, l4] (r.toList ++ []) S' Q) := pv_callV (as := [.int v0i, .int v1i, .int v2i]) (pm_cdi rfl dX7_reckonOne_178) (Or.inl (by decide +kernel)) (by decide +kernel) (show _ = _ from (by decide +kernel : 3 = pm_np 113)) rfl (Nat.le_of_ble_eq_true rfl) (cl := 7) (by decide +kernel) hs
theorem q100_181 : pm_V d 100 181 [l0, l1, l2, l3, l4] st S Q = pm_V d 100 219 [l0, l1, l2, l3, l4] st S Q := pv_goto (pm_cdi rfl dX7_reckonOne_181) rfl
theorem q100_184 : pm_V d 100 184 [.ref xn, l1, l2, l3, l4] st S Q = pm_V d 100 185 [.ref xn, l1, l2, l3, l4] (.ref xn :: st) S Q := pv_aload_n (pm_cdi rfl dX7_reckonOne_184) rfl
theorem q100_185 : pm_V d 100 185 [l0, .int xi, l2, l3, l4] st S Q = pm_V d 100 186 [l0, .int xi, l2, l3, l4] (.int xi :: st) S Q := pv_iload_n (pm_cdi rfl dX7_reckonOne_185) rfl
theorem q100_186 : pm_V d 100 186 [l0, l1, .int xi, l3, l4] st S Q = pm_V d 100 187 [l0, l1, .int xi, l3, l4] (.int xi :: st) S Q := pv_iload_n (pm_cdi rfl dX7_reckonOne_186) rfl
theorem q100_187 : pm_V d 100 187 [l0, l1, l2, .int xi, l4] st S Q = pm_V d 100 188 [l0, l1, l2, .int xi, l4] (.int xi :: st) S Q := pv_iload_n (pm_cdi rfl dX7_reckonOne_187) rfl
theorem q100_188 (hs : pm_sh S an = .inr 7) : pm_V (d + 1) 100 188 [l0, l1, l2, l3, l4] [.int v2i, .int v1i, .int v0i, .ref an] S Q = pm_N d 114 [.ref an, .int v0i, .int v1i, .int v2i] S (fun r S' => pm_V (d + 1) 100 191 [l0, l1, l2, l3, l4] (r.toList ++ []) S' Q) := pv_callV (as := [.int v0i, .int v1i, .int v2i]) (pm_cdi rfl dX7_reckonOne_188) (Or.inl (by decide +kernel)) (by decide +kernel) (show _ = _ from (by decide +kernel : 3 = pm_np 114)) rfl (Nat.le_of_ble_eq_true rfl) (cl := 7) (by decide +kernel) hs
theorem q100_191 : pm_V d 100 191 [l0, l1, l2, l3, l4] st S Q = pm_V d 100 219 [l0, l1, l2, l3, l4] st S Q := pv_goto (pm_cdi rfl dX7_reckonOne_191) rfl
theorem q100_194 : pm_V d 100 194 [.ref xn, l1, l2, l3, l4] st S Q = pm_V d 100 195 [.ref xn, l1, l2, l3, l4] (.ref xn :: st) S Q := pv_aload_n (pm_cdi rfl dX7_reckonOne_194) rfl
theorem q100_195 : pm_V d 100 195 [l0, .int xi, l2, l3, l4] st S Q = pm_V d 100 196 [l0, .int xi, l2, l3, l4] (.int xi :: st) S Q := pv_iload_n (pm_cdi rfl dX7_reckonOne_195) rfl
theorem q100_196 : pm_V d 100 196 [l0, l1, .int xi, l3, l4] st S Q = pm_V d 100 197 [l0, l1, .int xi, l3, l4] (.int xi :: st) S Q := pv_iload_n (pm_cdi rfl dX7_reckonOne_196) rfl
theorem q100_197 : pm_V d 100 197 [l0, l1, l2, .int xi, l4] st S Q = pm_V d 100 198 [l0, l1, l2, .int xi, l4] (.int xi :: st) S Q := pv_iload_n (pm_cdi rfl dX7_reckonOne_197) rfl
theorem q100_198 (hs : pm_sh S an = .inr 7) : pm_V (d + 1) 100 198 [l0, l1, l2, l3, l4] [.int v2i, .int v1i, .int v0i, .ref an] S Q = pm_N d 115 [.ref an, .int v0i, .int v1i, .int v2i] S (fun r S' => pm_V (d + 1) 100 201 [l0, l1, l2, l3, l4] (r.toList ++ []) S' Q) := pv_callV (as := [.int v0i, .int v1i, .int v2i]) (pm_cdi rfl dX7_reckonOne_198) (Or.inl (by decide +kernel)) (by decide +kernel) (show _ = _ from (by decide +kernel : 3 = pm_np 115)) rfl (Nat.le_of_ble_eq_true rfl) (cl := 7) (by decide +kernel) hs
theorem q100_201 : pm_V d 100 201 [l0, l1, l2, l3, l4] st S Q = pm_V d 100 219 [l0, l1, l2, l3, l4] st S Q := pv_goto (pm_cdi rfl dX7_reckonOne_201) rfl
theorem q100_204 : pm_V d 100 204 [.ref xn, l1, l2, l3, l4] st S Q = pm_V d 100 205 [.ref xn, l1, l2, l3, l4] (.ref xn :: st) S Q := pv_aload_n (pm_cdi rfl dX7_reckonOne_204) rfl
theorem q100_205 : pm_V d 100 205 [l0, .int xi, l2, l3, l4] st S Q = pm_V d 100 206 [l0, .int xi, l2, l3, l4] (.int xi :: st) S Q := pv_iload_n (pm_cdi rfl dX7_reckonOne_205) rfl
theorem q100_206 : pm_V d 100 206 [l0, l1, .int xi, l3, l4] st S Q = pm_V d 100 207 [l0, l1, .int xi, l3, l4] (.int xi :: st) S Q := pv_iload_n (pm_cdi rfl dX7_reckonOne_206) rfl
theorem q100_207 (hs : pm_sh S an = .inr 7) : pm_V (d + 1) 100 207 [l0, l1, l2, l3, l4] [.int v1i, .int v0i, .ref an] S Q = pm_N d 116 [.ref an, .int v0i, .int v1i] S (fun r S' => pm_V (d + 1) 100 210 [l0, l1, l2, l3, l4] (r.toList ++ []) S' Q) := pv_callV (as := [.int v0i, .int v1i]) (pm_cdi rfl dX7_reckonOne_207) (Or.inl (by decide +kernel)) (by decide +kernel) (show _ = _ from (by decide +kernel : 2 = pm_np 116)) rfl (Nat.le_of_ble_eq_true rfl) (cl := 7) (by decide +kernel) hs
theorem q100_210 : pm_V d 100 210 [l0, l1, l2, l3, l4] st S Q = pm_V d 100 219 [l0, l1, l2, l3, l4] st S Q := pv_goto (pm_cdi rfl dX7_reckonOne_210) rfl
theorem q100_213 : pm_V d 100 213 [.ref xn, l1, l2, l3, l4] st S Q = pm_V d 100 214 [.ref xn, l1, l2, l3, l4] (.ref xn :: st) S Q := pv_aload_n (pm_cdi rfl dX7_reckonOne_213) rfl
theorem q100_214 : pm_V d 100 214 [l0, .int xi, l2, l3, l4] st S Q = pm_V d 100 215 [l0, .int xi, l2, l3, l4] (.int xi :: st) S Q := pv_iload_n (pm_cdi rfl dX7_reckonOne_214) rfl
theorem q100_215 : pm_V d 100 215 [l0, l1, .int xi, l3, l4] st S Q = pm_V d 100 216 [l0, l1, .int xi, l3, l4] (.int xi :: st) S Q := pv_iload_n (pm_cdi rfl dX7_reckonOne_215) rfl
theorem q100_216 (hs : pm_sh S an = .inr 7) : pm_V (d + 1) 100 216 [l0, l1, l2, l3, l4] [.int v1i, .int v0i, .ref an] S Q = pm_N d 119 [.ref an, .int v0i, .int v1i] S (fun r S' => pm_V (d + 1) 100 219 [l0, l1, l2, l3, l4] (r.toList ++ []) S' Q) := pv_callV (as := [.int v0i, .int v1i]) (pm_cdi rfl dX7_reckonOne_216) (Or.inl (by decide +kernel)) (by decide +kernel) (show _ = _ from (by decide +kernel : 2 = pm_np 119)) rfl (Nat.le_of_ble_eq_true rfl) (cl := 7) (by decide +kernel) hs
theorem q100_219 : pm_V d 100 219 [l0, l1, l2, l3, l4] [] S Q = Q none S := pv_rV (pm_cdi rfl dX7_reckonOne_219) (by decide +kernel)
theorem q100_e : pm_N d 100 [.ref an, .int v0i] S Q = pm_V d 100 0 [.ref an, .int v0i, pm_j, pm_j, pm_j] [] S Q := pv_ent (Nat.le_of_ble_eq_true rfl) rfl
/-! 101: ViewsJoinsModel.breaks(II)V -/
theorem dX7_breaks_0 : decode cX7_breaks 0 = .ok (.aload_n 0, 1) := by decide +kernel
theorem dX7_breaks_1 : decode cX7_breaks 1 = .ok (.getfield 29, 3) := by decide +kernel
theorem dX7_breaks_4 : decode cX7_breaks 4 = .ok (.iload_n 1, 1) := by decide +kernel
theorem dX7_breaks_5 : decode cX7_breaks 5 = .ok (.aload_n 0, 1) := by decide +kernel
theorem dX7_breaks_6 : decode cX7_breaks 6 = .ok (.getfield 29, 3) := by decide +kernel
theorem dX7_breaks_9 : decode cX7_breaks 9 = .ok (.iload_n 1, 1) := by decide +kernel
theorem dX7_breaks_10 : decode cX7_breaks 10 = .ok (.iaload, 1) := by decide +kernel
theorem dX7_breaks_11 : decode cX7_breaks 11 = .ok (.ifCond .ne 7, 3) := by decide +kernel
theorem dX7_breaks_14 : decode cX7_breaks 14 = .ok (.iload_n 2, 1) := by decide +kernel
theorem dX7_breaks_15 : decode cX7_breaks 15 = .ok (.goto 9, 3) := by decide +kernel
theorem dX7_breaks_18 : decode cX7_breaks 18 = .ok (.aload_n 0, 1) := by decide +kernel
theorem dX7_breaks_19 : decode cX7_breaks 19 = .ok (.getfield 29, 3) := by decide +kernel
theorem dX7_breaks_22 : decode cX7_breaks 22 = .ok (.iload_n 1, 1) := by decide +kernel
theorem dX7_breaks_23 : decode cX7_breaks 23 = .ok (.iaload, 1) := by decide +kernel
theorem dX7_breaks_24 : decode cX7_breaks 24 = .ok (.iastore, 1) := by decide +kernel
theorem dX7_breaks_25 : decode cX7_breaks 25 = .ok (.return_, 1) := by decide +kernel
theorem q101_0 : pm_V d 101 0 [.ref xn, l1, l2] st S Q = pm_V d 101 1 [.ref xn, l1, l2] (.ref xn :: st) S Q := pv_aload_n (pm_cdi rfl dX7_breaks_0) rfl
theorem q101_1 (hs : pm_sh S an = .inr 7) : pm_V d 101 1 [l0, l1, l2] (.ref an :: st) S Q = pm_V d 101 4 [l0, l1, l2] (va_rf (pm_gr S an 7) :: st) S Q := pv_getA (pm_cdi rfl dX7_breaks_1) (by decide +kernel) (by decide +kernel) (by decide +kernel) hs
theorem q101_4 : pm_V d 101 4 [l0, .int xi, l2] st S Q = pm_V d 101 5 [l0, .int xi, l2] (.int xi :: st) S Q := pv_iload_n (pm_cdi rfl dX7_breaks_4) rfl
theorem q101_5 : pm_V d 101 5 [.ref xn, l1, l2] st S Q = pm_V d 101 6 [.ref xn, l1, l2] (.ref xn :: st) S Q := pv_aload_n (pm_cdi rfl dX7_breaks_5) rfl
theorem q101_6 (hs : pm_sh S an = .inr 7) : pm_V d 101 6 [l0, l1, l2] (.ref an :: st) S Q = pm_V d 101 9 [l0, l1, l2] (va_rf (pm_gr S an 7) :: st) S Q := pv_getA (pm_cdi rfl dX7_breaks_6) (by decide +kernel) (by decide +kernel) (by decide +kernel) hs
theorem q101_9 : pm_V d 101 9 [l0, .int xi, l2] st S Q = pm_V d 101 10 [l0, .int xi, l2] (.int xi :: st) S Q := pv_iload_n (pm_cdi rfl dX7_breaks_9) rfl
theorem q101_10 (hs : pm_ar S an 0 xi = true) : pm_V d 101 10 [l0, l1, l2] (.int xi :: .ref an :: st) S Q = pm_V d 101 11 [l0, l1, l2] (.int (pm_zi S an xi.toNatClampNeg) :: st) S Q := pv_iald (pm_cdi rfl dX7_breaks_10) hs
theorem q101_11 : pm_V d 101 11 [l0, l1, l2] (.int xi :: st) S Q = if xi = 0 then pm_V d 101 14 [l0, l1, l2] st S Q else pm_V d 101 18 [l0, l1, l2] st S Q := pv_if_ne (pm_cdi rfl dX7_breaks_11) rfl
theorem q101_14 : pm_V d 101 14 [l0, l1, .int xi] st S Q = pm_V d 101 15 [l0, l1, .int xi] (.int xi :: st) S Q := pv_iload_n (pm_cdi rfl dX7_breaks_14) rfl
theorem q101_15 : pm_V d 101 15 [l0, l1, l2] st S Q = pm_V d 101 24 [l0, l1, l2] st S Q := pv_goto (pm_cdi rfl dX7_breaks_15) rfl
theorem q101_18 : pm_V d 101 18 [.ref xn, l1, l2] st S Q = pm_V d 101 19 [.ref xn, l1, l2] (.ref xn :: st) S Q := pv_aload_n (pm_cdi rfl dX7_breaks_18) rfl
theorem q101_19 (hs : pm_sh S an = .inr 7) : pm_V d 101 19 [l0, l1, l2] (.ref an :: st) S Q = pm_V d 101 22 [l0, l1, l2] (va_rf (pm_gr S an 7) :: st) S Q := pv_getA (pm_cdi rfl dX7_breaks_19) (by decide +kernel) (by decide +kernel) (by decide +kernel) hs
theorem q101_22 : pm_V d 101 22 [l0, .int xi, l2] st S Q = pm_V d 101 23 [l0, .int xi, l2] (.int xi :: st) S Q := pv_iload_n (pm_cdi rfl dX7_breaks_22) rfl
theorem q101_23 (hs : pm_ar S an 0 xi = true) : pm_V d 101 23 [l0, l1, l2] (.int xi :: .ref an :: st) S Q = pm_V d 101 24 [l0, l1, l2] (.int (pm_zi S an xi.toNatClampNeg) :: st) S Q := pv_iald (pm_cdi rfl dX7_breaks_23) hs
theorem q101_24 (hs : pm_ar S an 0 xi = true) : pm_V d 101 24 [l0, l1, l2] (.int vi :: .int xi :: .ref an :: st) S Q = pm_V d 101 25 [l0, l1, l2] st (pm_szi S an xi.toNatClampNeg vi) Q := pv_iast (pm_cdi rfl dX7_breaks_24) hs
theorem q101_25 : pm_V d 101 25 [l0, l1, l2] [] S Q = Q none S := pv_rV (pm_cdi rfl dX7_breaks_25) (by decide +kernel)
theorem q101_e : pm_N d 101 [.ref an, .int v0i, .int v1i] S Q = pm_V d 101 0 [.ref an, .int v0i, .int v1i] [] S Q := pv_ent (Nat.le_of_ble_eq_true rfl) rfl
/-! 102: ViewsJoinsModel.addNode(IJII)V -/
theorem dX7_addNode_0 : decode cX7_addNode 0 = .ok (.aload_n 0, 1) := by decide +kernel
theorem dX7_addNode_1 : decode cX7_addNode 1 = .ok (.getfield 32, 3) := by decide +kernel
theorem dX7_addNode_4 : decode cX7_addNode 4 = .ok (.iload_n 1, 1) := by decide +kernel
theorem dX7_addNode_5 : decode cX7_addNode 5 = .ok (.iaload, 1) := by decide +kernel
theorem dX7_addNode_6 : decode cX7_addNode 6 = .ok (.bipush 40, 2) := by decide +kernel
theorem dX7_addNode_8 : decode cX7_addNode 8 = .ok (.if_icmp .ne 9, 3) := by decide +kernel
theorem dX7_addNode_11 : decode cX7_addNode 11 = .ok (.aload_n 0, 1) := by decide +kernel
theorem dX7_addNode_12 : decode cX7_addNode 12 = .ok (.iload_n 1, 1) := by decide +kernel
theorem dX7_addNode_13 : decode cX7_addNode 13 = .ok (.iconst 4, 1) := by decide +kernel
theorem dX7_addNode_14 : decode cX7_addNode 14 = .ok (.invokevirtual 178, 3) := by decide +kernel
theorem dX7_addNode_17 : decode cX7_addNode 17 = .ok (.aload_n 0, 1) := by decide +kernel
theorem dX7_addNode_18 : decode cX7_addNode 18 = .ok (.getfield 29, 3) := by decide +kernel
theorem dX7_addNode_21 : decode cX7_addNode 21 = .ok (.iload_n 1, 1) := by decide +kernel
theorem dX7_addNode_22 : decode cX7_addNode 22 = .ok (.iaload, 1) := by decide +kernel
theorem dX7_addNode_23 : decode cX7_addNode 23 = .ok (.ifCond .ne 52, 3) := by decide +kernel
theorem dX7_addNode_26 : decode cX7_addNode 26 = .ok (.bipush 40, 2) := by decide +kernel
theorem dX7_addNode_28 : decode cX7_addNode 28 = .ok (.iload_n 1, 1) := by decide +kernel
theorem dX7_addNode_29 : decode cX7_addNode 29 = .ok (.imul, 1) := by decide +kernel
theorem dX7_addNode_30 : decode cX7_addNode 30 = .ok (.aload_n 0, 1) := by decide +kernel
theorem dX7_addNode_31 : decode cX7_addNode 31 = .ok (.getfield 32, 3) := by decide +kernel
theorem dX7_addNode_34 : decode cX7_addNode 34 = .ok (.iload_n 1, 1) := by decide +kernel
theorem dX7_addNode_35 : decode cX7_addNode 35 = .ok (.iaload, 1) := by decide +kernel
theorem dX7_addNode_36 : decode cX7_addNode 36 = .ok (.iadd, 1) := by decide +kernel
theorem dX7_addNode_37 : decode cX7_addNode 37 = .ok (.istore 6, 2) := by decide +kernel
theorem dX7_addNode_39 : decode cX7_addNode 39 = .ok (.aload_n 0, 1) := by decide +kernel
theorem dX7_addNode_40 : decode cX7_addNode 40 = .ok (.getfield 38, 3) := by decide +kernel
theorem dX7_addNode_43 : decode cX7_addNode 43 = .ok (.iload 6, 2) := by decide +kernel
theorem dX7_addNode_45 : decode cX7_addNode 45 = .ok (.lload_n 2, 1) := by decide +kernel
theorem dX7_addNode_46 : decode cX7_addNode 46 = .ok (.lastore, 1) := by decide +kernel
theorem dX7_addNode_47 : decode cX7_addNode 47 = .ok (.aload_n 0, 1) := by decide +kernel
theorem dX7_addNode_48 : decode cX7_addNode 48 = .ok (.getfield 42, 3) := by decide +kernel
theorem dX7_addNode_51 : decode cX7_addNode 51 = .ok (.iload 6, 2) := by decide +kernel
theorem dX7_addNode_53 : decode cX7_addNode 53 = .ok (.iload 4, 2) := by decide +kernel
theorem dX7_addNode_55 : decode cX7_addNode 55 = .ok (.iastore, 1) := by decide +kernel
theorem dX7_addNode_56 : decode cX7_addNode 56 = .ok (.aload_n 0, 1) := by decide +kernel
theorem dX7_addNode_57 : decode cX7_addNode 57 = .ok (.getfield 45, 3) := by decide +kernel
theorem dX7_addNode_60 : decode cX7_addNode 60 = .ok (.iload 6, 2) := by decide +kernel
theorem dX7_addNode_62 : decode cX7_addNode 62 = .ok (.iload 5, 2) := by decide +kernel
theorem dX7_addNode_64 : decode cX7_addNode 64 = .ok (.iastore, 1) := by decide +kernel
theorem dX7_addNode_65 : decode cX7_addNode 65 = .ok (.aload_n 0, 1) := by decide +kernel
theorem dX7_addNode_66 : decode cX7_addNode 66 = .ok (.getfield 32, 3) := by decide +kernel
theorem dX7_addNode_69 : decode cX7_addNode 69 = .ok (.iload_n 1, 1) := by decide +kernel
theorem dX7_addNode_70 : decode cX7_addNode 70 = .ok (.dup2, 1) := by decide +kernel
theorem dX7_addNode_71 : decode cX7_addNode 71 = .ok (.iaload, 1) := by decide +kernel
theorem dX7_addNode_72 : decode cX7_addNode 72 = .ok (.iconst 1, 1) := by decide +kernel
theorem dX7_addNode_73 : decode cX7_addNode 73 = .ok (.iadd, 1) := by decide +kernel
theorem dX7_addNode_74 : decode cX7_addNode 74 = .ok (.iastore, 1) := by decide +kernel
theorem dX7_addNode_75 : decode cX7_addNode 75 = .ok (.return_, 1) := by decide +kernel
theorem q102_0 : pm_V d 102 0 [.ref xn, l1, l2, l3, l4, l5, l6] st S Q = pm_V d 102 1 [.ref xn, l1, l2, l3, l4, l5, l6] (.ref xn :: st) S Q := pv_aload_n (pm_cdi rfl dX7_addNode_0) rfl
theorem q102_1 (hs : pm_sh S an = .inr 7) : pm_V d 102 1 [l0, l1, l2, l3, l4, l5, l6] (.ref an :: st) S Q = pm_V d 102 4 [l0, l1, l2, l3, l4, l5, l6] (va_rf (pm_gr S an 8) :: st) S Q := pv_getA (pm_cdi rfl dX7_addNode_1) (by decide +kernel) (by decide +kernel) (by decide +kernel) hs
theorem q102_4 : pm_V d 102 4 [l0, .int xi, l2, l3, l4, l5, l6] st S Q = pm_V d 102 5 [l0, .int xi, l2, l3, l4, l5, l6] (.int xi :: st) S Q := pv_iload_n (pm_cdi rfl dX7_addNode_4) rfl
theorem q102_5 (hs : pm_ar S an 0 xi = true) : pm_V d 102 5 [l0, l1, l2, l3, l4, l5, l6] (.int xi :: .ref an :: st) S Q = pm_V d 102 6 [l0, l1, l2, l3, l4, l5, l6] (.int (pm_zi S an xi.toNatClampNeg) :: st) S Q := pv_iald (pm_cdi rfl dX7_addNode_5) hs
theorem q102_6 : pm_V d 102 6 [l0, l1, l2, l3, l4, l5, l6] st S Q = pm_V d 102 8 [l0, l1, l2, l3, l4, l5, l6] (.int 40 :: st) S Q := pv_bipush (pm_cdi rfl dX7_addNode_6) (by decide +kernel)
theorem q102_8 : pm_V d 102 8 [l0, l1, l2, l3, l4, l5, l6] (.int yi :: .int xi :: st) S Q = if xi = yi then pm_V d 102 11 [l0, l1, l2, l3, l4, l5, l6] st S Q else pm_V d 102 17 [l0, l1, l2, l3, l4, l5, l6] st S Q := pv_icmp_ne (pm_cdi rfl dX7_addNode_8) rfl
theorem q102_11 : pm_V d 102 11 [.ref xn, l1, l2, l3, l4, l5, l6] st S Q = pm_V d 102 12 [.ref xn, l1, l2, l3, l4, l5, l6] (.ref xn :: st) S Q := pv_aload_n (pm_cdi rfl dX7_addNode_11) rfl
theorem q102_12 : pm_V d 102 12 [l0, .int xi, l2, l3, l4, l5, l6] st S Q = pm_V d 102 13 [l0, .int xi, l2, l3, l4, l5, l6] (.int xi :: st) S Q := pv_iload_n (pm_cdi rfl dX7_addNode_12) rfl
theorem q102_13 : pm_V d 102 13 [l0, l1, l2, l3, l4, l5, l6] st S Q = pm_V d 102 14 [l0, l1, l2, l3, l4, l5, l6] (.int 4 :: st) S Q := pv_iconst (pm_cdi rfl dX7_addNode_13) (by decide +kernel)
theorem q102_14 (hs : pm_sh S an = .inr 7) : pm_V (d + 1) 102 14 [l0, l1, l2, l3, l4, l5, l6] [.int v1i, .int v0i, .ref an] S Q = pm_N d 101 [.ref an, .int v0i, .int v1i] S (fun r S' => pm_V (d + 1) 102 17 [l0, l1, l2, l3, l4, l5, l6] (r.toList ++ []) S' Q) := pv_callV (as := [.int v0i, .int v1i]) (pm_cdi rfl dX7_addNode_14) (Or.inl (by decide +kernel)) (by decide +kernel) (show _ = _ from (by decide +kernel : 2 = pm_np 101)) rfl (Nat.le_of_ble_eq_true rfl) (cl := 7) (by decide +kernel) hs
theorem q102_17 : pm_V d 102 17 [.ref xn, l1, l2, l3, l4, l5, l6] st S Q = pm_V d 102 18 [.ref xn, l1, l2, l3, l4, l5, l6] (.ref xn :: st) S Q := pv_aload_n (pm_cdi rfl dX7_addNode_17) rfl
theorem q102_18 (hs : pm_sh S an = .inr 7) : pm_V d 102 18 [l0, l1, l2, l3, l4, l5, l6] (.ref an :: st) S Q = pm_V d 102 21 [l0, l1, l2, l3, l4, l5, l6] (va_rf (pm_gr S an 7) :: st) S Q := pv_getA (pm_cdi rfl dX7_addNode_18) (by decide +kernel) (by decide +kernel) (by decide +kernel) hs
theorem q102_21 : pm_V d 102 21 [l0, .int xi, l2, l3, l4, l5, l6] st S Q = pm_V d 102 22 [l0, .int xi, l2, l3, l4, l5, l6] (.int xi :: st) S Q := pv_iload_n (pm_cdi rfl dX7_addNode_21) rfl
theorem q102_22 (hs : pm_ar S an 0 xi = true) : pm_V d 102 22 [l0, l1, l2, l3, l4, l5, l6] (.int xi :: .ref an :: st) S Q = pm_V d 102 23 [l0, l1, l2, l3, l4, l5, l6] (.int (pm_zi S an xi.toNatClampNeg) :: st) S Q := pv_iald (pm_cdi rfl dX7_addNode_22) hs
theorem q102_23 : pm_V d 102 23 [l0, l1, l2, l3, l4, l5, l6] (.int xi :: st) S Q = if xi = 0 then pm_V d 102 26 [l0, l1, l2, l3, l4, l5, l6] st S Q else pm_V d 102 75 [l0, l1, l2, l3, l4, l5, l6] st S Q := pv_if_ne (pm_cdi rfl dX7_addNode_23) rfl
theorem q102_26 : pm_V d 102 26 [l0, l1, l2, l3, l4, l5, l6] st S Q = pm_V d 102 28 [l0, l1, l2, l3, l4, l5, l6] (.int 40 :: st) S Q := pv_bipush (pm_cdi rfl dX7_addNode_26) (by decide +kernel)
theorem q102_28 : pm_V d 102 28 [l0, .int xi, l2, l3, l4, l5, l6] st S Q = pm_V d 102 29 [l0, .int xi, l2, l3, l4, l5, l6] (.int xi :: st) S Q := pv_iload_n (pm_cdi rfl dX7_addNode_28) rfl
theorem q102_29 : pm_V d 102 29 [l0, l1, l2, l3, l4, l5, l6] (.int yi :: .int xi :: st) S Q = pm_V d 102 30 [l0, l1, l2, l3, l4, l5, l6] (.int (xi * yi) :: st) S Q := pv_imul (pm_cdi rfl dX7_addNode_29)
theorem q102_30 : pm_V d 102 30 [.ref xn, l1, l2, l3, l4, l5, l6] st S Q = pm_V d 102 31 [.ref xn, l1, l2, l3, l4, l5, l6] (.ref xn :: st) S Q := pv_aload_n (pm_cdi rfl dX7_addNode_30) rfl
theorem q102_31 (hs : pm_sh S an = .inr 7) : pm_V d 102 31 [l0, l1, l2, l3, l4, l5, l6] (.ref an :: st) S Q = pm_V d 102 34 [l0, l1, l2, l3, l4, l5, l6] (va_rf (pm_gr S an 8) :: st) S Q := pv_getA (pm_cdi rfl dX7_addNode_31) (by decide +kernel) (by decide +kernel) (by decide +kernel) hs
theorem q102_34 : pm_V d 102 34 [l0, .int xi, l2, l3, l4, l5, l6] st S Q = pm_V d 102 35 [l0, .int xi, l2, l3, l4, l5, l6] (.int xi :: st) S Q := pv_iload_n (pm_cdi rfl dX7_addNode_34) rfl
theorem q102_35 (hs : pm_ar S an 0 xi = true) : pm_V d 102 35 [l0, l1, l2, l3, l4, l5, l6] (.int xi :: .ref an :: st) S Q = pm_V d 102 36 [l0, l1, l2, l3, l4, l5, l6] (.int (pm_zi S an xi.toNatClampNeg) :: st) S Q := pv_iald (pm_cdi rfl dX7_addNode_35) hs
theorem q102_36 : pm_V d 102 36 [l0, l1, l2, l3, l4, l5, l6] (.int yi :: .int xi :: st) S Q = pm_V d 102 37 [l0, l1, l2, l3, l4, l5, l6] (.int (xi + yi) :: st) S Q := pv_iadd (pm_cdi rfl dX7_addNode_36)
theorem q102_37 : pm_V d 102 37 [l0, l1, l2, l3, l4, .int yi, l6] (.int xi :: st) S Q = pm_V d 102 39 [l0, l1, l2, l3, l4, .int yi, .int xi] st S Q := pv_istore (pm_cdi rfl dX7_addNode_37) rfl
theorem q102_39 : pm_V d 102 39 [.ref xn, l1, l2, l3, l4, l5, l6] st S Q = pm_V d 102 40 [.ref xn, l1, l2, l3, l4, l5, l6] (.ref xn :: st) S Q := pv_aload_n (pm_cdi rfl dX7_addNode_39) rfl
theorem q102_40 (hs : pm_sh S an = .inr 7) : pm_V d 102 40 [l0, l1, l2, l3, l4, l5, l6] (.ref an :: st) S Q = pm_V d 102 43 [l0, l1, l2, l3, l4, l5, l6] (va_rf (pm_gr S an 10) :: st) S Q := pv_getA (pm_cdi rfl dX7_addNode_40) (by decide +kernel) (by decide +kernel) (by decide +kernel) hs
theorem q102_43 : pm_V d 102 43 [l0, l1, l2, l3, l4, l5, .int xi] st S Q = pm_V d 102 45 [l0, l1, l2, l3, l4, l5, .int xi] (.int xi :: st) S Q := pv_iload (pm_cdi rfl dX7_addNode_43) rfl
theorem q102_45 : pm_V d 102 45 [l0, l1, .long xj, l3, l4, l5, l6] st S Q = pm_V d 102 46 [l0, l1, .long xj, l3, l4, l5, l6] (.long xj :: st) S Q := pv_lload_n (pm_cdi rfl dX7_addNode_45) rfl
theorem q102_46 (hs : pm_ar S an 1 xi = true) : pm_V d 102 46 [l0, l1, l2, l3, l4, l5, l6] (.long vj :: .int xi :: .ref an :: st) S Q = pm_V d 102 47 [l0, l1, l2, l3, l4, l5, l6] st (pm_szl S an xi.toNatClampNeg vj) Q := pv_last (pm_cdi rfl dX7_addNode_46) hs
theorem q102_47 : pm_V d 102 47 [.ref xn, l1, l2, l3, l4, l5, l6] st S Q = pm_V d 102 48 [.ref xn, l1, l2, l3, l4, l5, l6] (.ref xn :: st) S Q := pv_aload_n (pm_cdi rfl dX7_addNode_47) rfl
theorem q102_48 (hs : pm_sh S an = .inr 7) : pm_V d 102 48 [l0, l1, l2, l3, l4, l5, l6] (.ref an :: st) S Q = pm_V d 102 51 [l0, l1, l2, l3, l4, l5, l6] (va_rf (pm_gr S an 11) :: st) S Q := pv_getA (pm_cdi rfl dX7_addNode_48) (by decide +kernel) (by decide +kernel) (by decide +kernel) hs
theorem q102_51 : pm_V d 102 51 [l0, l1, l2, l3, l4, l5, .int xi] st S Q = pm_V d 102 53 [l0, l1, l2, l3, l4, l5, .int xi] (.int xi :: st) S Q := pv_iload (pm_cdi rfl dX7_addNode_51) rfl
theorem q102_53 : pm_V d 102 53 [l0, l1, l2, l3, .int xi, l5, l6] st S Q = pm_V d 102 55 [l0, l1, l2, l3, .int xi, l5, l6] (.int xi :: st) S Q := pv_iload (pm_cdi rfl dX7_addNode_53) rfl
theorem q102_55 (hs : pm_ar S an 0 xi = true) : pm_V d 102 55 [l0, l1, l2, l3, l4, l5, l6] (.int vi :: .int xi :: .ref an :: st) S Q = pm_V d 102 56 [l0, l1, l2, l3, l4, l5, l6] st (pm_szi S an xi.toNatClampNeg vi) Q := pv_iast (pm_cdi rfl dX7_addNode_55) hs
theorem q102_56 : pm_V d 102 56 [.ref xn, l1, l2, l3, l4, l5, l6] st S Q = pm_V d 102 57 [.ref xn, l1, l2, l3, l4, l5, l6] (.ref xn :: st) S Q := pv_aload_n (pm_cdi rfl dX7_addNode_56) rfl
theorem q102_57 (hs : pm_sh S an = .inr 7) : pm_V d 102 57 [l0, l1, l2, l3, l4, l5, l6] (.ref an :: st) S Q = pm_V d 102 60 [l0, l1, l2, l3, l4, l5, l6] (va_rf (pm_gr S an 12) :: st) S Q := pv_getA (pm_cdi rfl dX7_addNode_57) (by decide +kernel) (by decide +kernel) (by decide +kernel) hs
theorem q102_60 : pm_V d 102 60 [l0, l1, l2, l3, l4, l5, .int xi] st S Q = pm_V d 102 62 [l0, l1, l2, l3, l4, l5, .int xi] (.int xi :: st) S Q := pv_iload (pm_cdi rfl dX7_addNode_60) rfl
theorem q102_62 : pm_V d 102 62 [l0, l1, l2, l3, l4, .int xi, l6] st S Q = pm_V d 102 64 [l0, l1, l2, l3, l4, .int xi, l6] (.int xi :: st) S Q := pv_iload (pm_cdi rfl dX7_addNode_62) rfl
theorem q102_64 (hs : pm_ar S an 0 xi = true) : pm_V d 102 64 [l0, l1, l2, l3, l4, l5, l6] (.int vi :: .int xi :: .ref an :: st) S Q = pm_V d 102 65 [l0, l1, l2, l3, l4, l5, l6] st (pm_szi S an xi.toNatClampNeg vi) Q := pv_iast (pm_cdi rfl dX7_addNode_64) hs
theorem q102_65 : pm_V d 102 65 [.ref xn, l1, l2, l3, l4, l5, l6] st S Q = pm_V d 102 66 [.ref xn, l1, l2, l3, l4, l5, l6] (.ref xn :: st) S Q := pv_aload_n (pm_cdi rfl dX7_addNode_65) rfl
theorem q102_66 (hs : pm_sh S an = .inr 7) : pm_V d 102 66 [l0, l1, l2, l3, l4, l5, l6] (.ref an :: st) S Q = pm_V d 102 69 [l0, l1, l2, l3, l4, l5, l6] (va_rf (pm_gr S an 8) :: st) S Q := pv_getA (pm_cdi rfl dX7_addNode_66) (by decide +kernel) (by decide +kernel) (by decide +kernel) hs
theorem q102_69 : pm_V d 102 69 [l0, .int xi, l2, l3, l4, l5, l6] st S Q = pm_V d 102 70 [l0, .int xi, l2, l3, l4, l5, l6] (.int xi :: st) S Q := pv_iload_n (pm_cdi rfl dX7_addNode_69) rfl
theorem q102_70 : pm_V d 102 70 [l0, l1, l2, l3, l4, l5, l6] (.int xi :: .ref an :: st) S Q = pm_V d 102 71 [l0, l1, l2, l3, l4, l5, l6] (.int xi :: .ref an :: .int xi :: .ref an :: st) S Q := pv_dup2 (pm_cdi rfl dX7_addNode_70)
theorem q102_71 (hs : pm_ar S an 0 xi = true) : pm_V d 102 71 [l0, l1, l2, l3, l4, l5, l6] (.int xi :: .ref an :: st) S Q = pm_V d 102 72 [l0, l1, l2, l3, l4, l5, l6] (.int (pm_zi S an xi.toNatClampNeg) :: st) S Q := pv_iald (pm_cdi rfl dX7_addNode_71) hs
theorem q102_72 : pm_V d 102 72 [l0, l1, l2, l3, l4, l5, l6] st S Q = pm_V d 102 73 [l0, l1, l2, l3, l4, l5, l6] (.int 1 :: st) S Q := pv_iconst (pm_cdi rfl dX7_addNode_72) (by decide +kernel)
theorem q102_73 : pm_V d 102 73 [l0, l1, l2, l3, l4, l5, l6] (.int yi :: .int xi :: st) S Q = pm_V d 102 74 [l0, l1, l2, l3, l4, l5, l6] (.int (xi + yi) :: st) S Q := pv_iadd (pm_cdi rfl dX7_addNode_73)
theorem q102_74 (hs : pm_ar S an 0 xi = true) : pm_V d 102 74 [l0, l1, l2, l3, l4, l5, l6] (.int vi :: .int xi :: .ref an :: st) S Q = pm_V d 102 75 [l0, l1, l2, l3, l4, l5, l6] st (pm_szi S an xi.toNatClampNeg vi) Q := pv_iast (pm_cdi rfl dX7_addNode_74) hs
theorem q102_75 : pm_V d 102 75 [l0, l1, l2, l3, l4, l5, l6] [] S Q = Q none S := pv_rV (pm_cdi rfl dX7_addNode_75) (by decide +kernel)
theorem q102_e : pm_N d 102 [.ref an, .int v0i, .long v1j, .int v2i, .int v3i] S Q = pm_V d 102 0 [.ref an, .int v0i, .long v1j, pm_j, .int v2i, .int v3i, pm_j] [] S Q := pv_ent (Nat.le_of_ble_eq_true rfl) rfl
/-! 103: ViewsJoinsModel.addArc(IIIJII)V -/
theorem dX7_addArc_0 : decode cX7_addArc 0 = .ok (.aload_n 0, 1) := by decide +kernel
theorem dX7_addArc_1 : decode cX7_addArc 1 = .ok (.getfield 35, 3) := by decide +kernel
theorem dX7_addArc_4 : decode cX7_addArc 4 = .ok (.iload_n 1, 1) := by decide +kernel
theorem dX7_addArc_5 : decode cX7_addArc 5 = .ok (.iaload, 1) := by decide +kernel
theorem dX7_addArc_6 : decode cX7_addArc 6 = .ok (.bipush 120, 2) := by decide +kernel
theorem dX7_addArc_8 : decode cX7_addArc 8 = .ok (.if_icmp .ne 9, 3) := by decide +kernel
theorem dX7_addArc_11 : decode cX7_addArc 11 = .ok (.aload_n 0, 1) := by decide +kernel
theorem dX7_addArc_12 : decode cX7_addArc 12 = .ok (.iload_n 1, 1) := by decide +kernel
theorem dX7_addArc_13 : decode cX7_addArc 13 = .ok (.iconst 4, 1) := by decide +kernel
theorem dX7_addArc_14 : decode cX7_addArc 14 = .ok (.invokevirtual 178, 3) := by decide +kernel
theorem dX7_addArc_17 : decode cX7_addArc 17 = .ok (.aload_n 0, 1) := by decide +kernel
theorem dX7_addArc_18 : decode cX7_addArc 18 = .ok (.getfield 29, 3) := by decide +kernel
theorem dX7_addArc_21 : decode cX7_addArc 21 = .ok (.iload_n 1, 1) := by decide +kernel
theorem dX7_addArc_22 : decode cX7_addArc 22 = .ok (.iaload, 1) := by decide +kernel
theorem dX7_addArc_23 : decode cX7_addArc 23 = .ok (.ifCond .ne 69, 3) := by decide +kernel
theorem dX7_addArc_26 : decode cX7_addArc 26 = .ok (.bipush 120, 2) := by decide +kernel
theorem dX7_addArc_28 : decode cX7_addArc 28 = .ok (.iload_n 1, 1) := by decide +kernel
theorem dX7_addArc_29 : decode cX7_addArc 29 = .ok (.imul, 1) := by decide +kernel
theorem dX7_addArc_30 : decode cX7_addArc 30 = .ok (.aload_n 0, 1) := by decide +kernel
theorem dX7_addArc_31 : decode cX7_addArc 31 = .ok (.getfield 35, 3) := by decide +kernel
theorem dX7_addArc_34 : decode cX7_addArc 34 = .ok (.iload_n 1, 1) := by decide +kernel
theorem dX7_addArc_35 : decode cX7_addArc 35 = .ok (.iaload, 1) := by decide +kernel
theorem dX7_addArc_36 : decode cX7_addArc 36 = .ok (.iadd, 1) := by decide +kernel
theorem dX7_addArc_37 : decode cX7_addArc 37 = .ok (.istore 8, 2) := by decide +kernel
theorem dX7_addArc_39 : decode cX7_addArc 39 = .ok (.aload_n 0, 1) := by decide +kernel
theorem dX7_addArc_40 : decode cX7_addArc 40 = .ok (.getfield 48, 3) := by decide +kernel
theorem dX7_addArc_43 : decode cX7_addArc 43 = .ok (.iload 8, 2) := by decide +kernel
theorem dX7_addArc_45 : decode cX7_addArc 45 = .ok (.iload_n 2, 1) := by decide +kernel
theorem dX7_addArc_46 : decode cX7_addArc 46 = .ok (.iastore, 1) := by decide +kernel
theorem dX7_addArc_47 : decode cX7_addArc 47 = .ok (.aload_n 0, 1) := by decide +kernel
theorem dX7_addArc_48 : decode cX7_addArc 48 = .ok (.getfield 51, 3) := by decide +kernel
theorem dX7_addArc_51 : decode cX7_addArc 51 = .ok (.iload 8, 2) := by decide +kernel
theorem dX7_addArc_53 : decode cX7_addArc 53 = .ok (.iload_n 3, 1) := by decide +kernel
theorem dX7_addArc_54 : decode cX7_addArc 54 = .ok (.iastore, 1) := by decide +kernel
theorem dX7_addArc_55 : decode cX7_addArc 55 = .ok (.aload_n 0, 1) := by decide +kernel
theorem dX7_addArc_56 : decode cX7_addArc 56 = .ok (.getfield 54, 3) := by decide +kernel
theorem dX7_addArc_59 : decode cX7_addArc 59 = .ok (.iload 8, 2) := by decide +kernel
theorem dX7_addArc_61 : decode cX7_addArc 61 = .ok (.lload 4, 2) := by decide +kernel
theorem dX7_addArc_63 : decode cX7_addArc 63 = .ok (.lastore, 1) := by decide +kernel
theorem dX7_addArc_64 : decode cX7_addArc 64 = .ok (.aload_n 0, 1) := by decide +kernel
theorem dX7_addArc_65 : decode cX7_addArc 65 = .ok (.getfield 57, 3) := by decide +kernel
theorem dX7_addArc_68 : decode cX7_addArc 68 = .ok (.iload 8, 2) := by decide +kernel
theorem dX7_addArc_70 : decode cX7_addArc 70 = .ok (.iload 6, 2) := by decide +kernel
theorem dX7_addArc_72 : decode cX7_addArc 72 = .ok (.iastore, 1) := by decide +kernel
theorem dX7_addArc_73 : decode cX7_addArc 73 = .ok (.aload_n 0, 1) := by decide +kernel
theorem dX7_addArc_74 : decode cX7_addArc 74 = .ok (.getfield 60, 3) := by decide +kernel
theorem dX7_addArc_77 : decode cX7_addArc 77 = .ok (.iload 8, 2) := by decide +kernel
theorem dX7_addArc_79 : decode cX7_addArc 79 = .ok (.iload 7, 2) := by decide +kernel
theorem dX7_addArc_81 : decode cX7_addArc 81 = .ok (.iastore, 1) := by decide +kernel
theorem dX7_addArc_82 : decode cX7_addArc 82 = .ok (.aload_n 0, 1) := by decide +kernel
theorem dX7_addArc_83 : decode cX7_addArc 83 = .ok (.getfield 35, 3) := by decide +kernel
theorem dX7_addArc_86 : decode cX7_addArc 86 = .ok (.iload_n 1, 1) := by decide +kernel
theorem dX7_addArc_87 : decode cX7_addArc 87 = .ok (.dup2, 1) := by decide +kernel
theorem dX7_addArc_88 : decode cX7_addArc 88 = .ok (.iaload, 1) := by decide +kernel
theorem dX7_addArc_89 : decode cX7_addArc 89 = .ok (.iconst 1, 1) := by decide +kernel
theorem dX7_addArc_90 : decode cX7_addArc 90 = .ok (.iadd, 1) := by decide +kernel
theorem dX7_addArc_91 : decode cX7_addArc 91 = .ok (.iastore, 1) := by decide +kernel
theorem dX7_addArc_92 : decode cX7_addArc 92 = .ok (.return_, 1) := by decide +kernel
theorem q103_0 : pm_V d 103 0 [.ref xn, l1, l2, l3, l4, l5, l6, l7, l8] st S Q = pm_V d 103 1 [.ref xn, l1, l2, l3, l4, l5, l6, l7, l8] (.ref xn :: st) S Q := pv_aload_n (pm_cdi rfl dX7_addArc_0) rfl
theorem q103_1 (hs : pm_sh S an = .inr 7) : pm_V d 103 1 [l0, l1, l2, l3, l4, l5, l6, l7, l8] (.ref an :: st) S Q = pm_V d 103 4 [l0, l1, l2, l3, l4, l5, l6, l7, l8] (va_rf (pm_gr S an 9) :: st) S Q := pv_getA (pm_cdi rfl dX7_addArc_1) (by decide +kernel) (by decide +kernel) (by decide +kernel) hs
theorem q103_4 : pm_V d 103 4 [l0, .int xi, l2, l3, l4, l5, l6, l7, l8] st S Q = pm_V d 103 5 [l0, .int xi, l2, l3, l4, l5, l6, l7, l8] (.int xi :: st) S Q := pv_iload_n (pm_cdi rfl dX7_addArc_4) rfl
theorem q103_5 (hs : pm_ar S an 0 xi = true) : pm_V d 103 5 [l0, l1, l2, l3, l4, l5, l6, l7, l8] (.int xi :: .ref an :: st) S Q = pm_V d 103 6 [l0, l1, l2, l3, l4, l5, l6, l7, l8] (.int (pm_zi S an xi.toNatClampNeg) :: st) S Q := pv_iald (pm_cdi rfl dX7_addArc_5) hs
theorem q103_6 : pm_V d 103 6 [l0, l1, l2, l3, l4, l5, l6, l7, l8] st S Q = pm_V d 103 8 [l0, l1, l2, l3, l4, l5, l6, l7, l8] (.int 120 :: st) S Q := pv_bipush (pm_cdi rfl dX7_addArc_6) (by decide +kernel)
theorem q103_8 : pm_V d 103 8 [l0, l1, l2, l3, l4, l5, l6, l7, l8] (.int yi :: .int xi :: st) S Q = if xi = yi then pm_V d 103 11 [l0, l1, l2, l3, l4, l5, l6, l7, l8] st S Q else pm_V d 103 17 [l0, l1, l2, l3, l4, l5, l6, l7, l8] st S Q := pv_icmp_ne (pm_cdi rfl dX7_addArc_8) rfl
theorem q103_11 : pm_V d 103 11 [.ref xn, l1, l2, l3, l4, l5, l6, l7, l8] st S Q = pm_V d 103 12 [.ref xn, l1, l2, l3, l4, l5, l6, l7, l8] (.ref xn :: st) S Q := pv_aload_n (pm_cdi rfl dX7_addArc_11) rfl
theorem q103_12 : pm_V d 103 12 [l0, .int xi, l2, l3, l4, l5, l6, l7, l8] st S Q = pm_V d 103 13 [l0, .int xi, l2, l3, l4, l5, l6, l7, l8] (.int xi :: st) S Q := pv_iload_n (pm_cdi rfl dX7_addArc_12) rfl
theorem q103_13 : pm_V d 103 13 [l0, l1, l2, l3, l4, l5, l6, l7, l8] st S Q = pm_V d 103 14 [l0, l1, l2, l3, l4, l5, l6, l7, l8] (.int 4 :: st) S Q := pv_iconst (pm_cdi rfl dX7_addArc_13) (by decide +kernel)
theorem q103_14 (hs : pm_sh S an = .inr 7) : pm_V (d + 1) 103 14 [l0, l1, l2, l3, l4, l5, l6, l7, l8] [.int v1i, .int v0i, .ref an] S Q = pm_N d 101 [.ref an, .int v0i, .int v1i] S (fun r S' => pm_V (d + 1) 103 17 [l0, l1, l2, l3, l4, l5, l6, l7, l8] (r.toList ++ []) S' Q) := pv_callV (as := [.int v0i, .int v1i]) (pm_cdi rfl dX7_addArc_14) (Or.inl (by decide +kernel)) (by decide +kernel) (show _ = _ from (by decide +kernel : 2 = pm_np 101)) rfl (Nat.le_of_ble_eq_true rfl) (cl := 7) (by decide +kernel) hs
theorem q103_17 : pm_V d 103 17 [.ref xn, l1, l2, l3, l4, l5, l6, l7, l8] st S Q = pm_V d 103 18 [.ref xn, l1, l2, l3, l4, l5, l6, l7, l8] (.ref xn :: st) S Q := pv_aload_n (pm_cdi rfl dX7_addArc_17) rfl
theorem q103_18 (hs : pm_sh S an = .inr 7) : pm_V d 103 18 [l0, l1, l2, l3, l4, l5, l6, l7, l8] (.ref an :: st) S Q = pm_V d 103 21 [l0, l1, l2, l3, l4, l5, l6, l7, l8] (va_rf (pm_gr S an 7) :: st) S Q := pv_getA (pm_cdi rfl dX7_addArc_18) (by decide +kernel) (by decide +kernel) (by decide +kernel) hs
theorem q103_21 : pm_V d 103 21 [l0, .int xi, l2, l3, l4, l5, l6, l7, l8] st S Q = pm_V d 103 22 [l0, .int xi, l2, l3, l4, l5, l6, l7, l8] (.int xi :: st) S Q := pv_iload_n (pm_cdi rfl dX7_addArc_21) rfl
theorem q103_22 (hs : pm_ar S an 0 xi = true) : pm_V d 103 22 [l0, l1, l2, l3, l4, l5, l6, l7, l8] (.int xi :: .ref an :: st) S Q = pm_V d 103 23 [l0, l1, l2, l3, l4, l5, l6, l7, l8] (.int (pm_zi S an xi.toNatClampNeg) :: st) S Q := pv_iald (pm_cdi rfl dX7_addArc_22) hs
theorem q103_23 : pm_V d 103 23 [l0, l1, l2, l3, l4, l5, l6, l7, l8] (.int xi :: st) S Q = if xi = 0 then pm_V d 103 26 [l0, l1, l2, l3, l4, l5, l6, l7, l8] st S Q else pm_V d 103 92 [l0, l1, l2, l3, l4, l5, l6, l7, l8] st S Q := pv_if_ne (pm_cdi rfl dX7_addArc_23) rfl
theorem q103_26 : pm_V d 103 26 [l0, l1, l2, l3, l4, l5, l6, l7, l8] st S Q = pm_V d 103 28 [l0, l1, l2, l3, l4, l5, l6, l7, l8] (.int 120 :: st) S Q := pv_bipush (pm_cdi rfl dX7_addArc_26) (by decide +kernel)
theorem q103_28 : pm_V d 103 28 [l0, .int xi, l2, l3, l4, l5, l6, l7, l8] st S Q = pm_V d 103 29 [l0, .int xi, l2, l3, l4, l5, l6, l7, l8] (.int xi :: st) S Q := pv_iload_n (pm_cdi rfl dX7_addArc_28) rfl
theorem q103_29 : pm_V d 103 29 [l0, l1, l2, l3, l4, l5, l6, l7, l8] (.int yi :: .int xi :: st) S Q = pm_V d 103 30 [l0, l1, l2, l3, l4, l5, l6, l7, l8] (.int (xi * yi) :: st) S Q := pv_imul (pm_cdi rfl dX7_addArc_29)
theorem q103_30 : pm_V d 103 30 [.ref xn, l1, l2, l3, l4, l5, l6, l7, l8] st S Q = pm_V d 103 31 [.ref xn, l1, l2, l3, l4, l5, l6, l7, l8] (.ref xn :: st) S Q := pv_aload_n (pm_cdi rfl dX7_addArc_30) rfl
theorem q103_31 (hs : pm_sh S an = .inr 7) : pm_V d 103 31 [l0, l1, l2, l3, l4, l5, l6, l7, l8] (.ref an :: st) S Q = pm_V d 103 34 [l0, l1, l2, l3, l4, l5, l6, l7, l8] (va_rf (pm_gr S an 9) :: st) S Q := pv_getA (pm_cdi rfl dX7_addArc_31) (by decide +kernel) (by decide +kernel) (by decide +kernel) hs
theorem q103_34 : pm_V d 103 34 [l0, .int xi, l2, l3, l4, l5, l6, l7, l8] st S Q = pm_V d 103 35 [l0, .int xi, l2, l3, l4, l5, l6, l7, l8] (.int xi :: st) S Q := pv_iload_n (pm_cdi rfl dX7_addArc_34) rfl
theorem q103_35 (hs : pm_ar S an 0 xi = true) : pm_V d 103 35 [l0, l1, l2, l3, l4, l5, l6, l7, l8] (.int xi :: .ref an :: st) S Q = pm_V d 103 36 [l0, l1, l2, l3, l4, l5, l6, l7, l8] (.int (pm_zi S an xi.toNatClampNeg) :: st) S Q := pv_iald (pm_cdi rfl dX7_addArc_35) hs
theorem q103_36 : pm_V d 103 36 [l0, l1, l2, l3, l4, l5, l6, l7, l8] (.int yi :: .int xi :: st) S Q = pm_V d 103 37 [l0, l1, l2, l3, l4, l5, l6, l7, l8] (.int (xi + yi) :: st) S Q := pv_iadd (pm_cdi rfl dX7_addArc_36)
theorem q103_37 : pm_V d 103 37 [l0, l1, l2, l3, l4, l5, l6, .int yi, l8] (.int xi :: st) S Q = pm_V d 103 39 [l0, l1, l2, l3, l4, l5, l6, .int yi, .int xi] st S Q := pv_istore (pm_cdi rfl dX7_addArc_37) rfl
theorem q103_39 : pm_V d 103 39 [.ref xn, l1, l2, l3, l4, l5, l6, l7, l8] st S Q = pm_V d 103 40 [.ref xn, l1, l2, l3, l4, l5, l6, l7, l8] (.ref xn :: st) S Q := pv_aload_n (pm_cdi rfl dX7_addArc_39) rfl
theorem q103_40 (hs : pm_sh S an = .inr 7) : pm_V d 103 40 [l0, l1, l2, l3, l4, l5, l6, l7, l8] (.ref an :: st) S Q = pm_V d 103 43 [l0, l1, l2, l3, l4, l5, l6, l7, l8] (va_rf (pm_gr S an 13) :: st) S Q := pv_getA (pm_cdi rfl dX7_addArc_40) (by decide +kernel) (by decide +kernel) (by decide +kernel) hs
theorem q103_43 : pm_V d 103 43 [l0, l1, l2, l3, l4, l5, l6, l7, .int xi] st S Q = pm_V d 103 45 [l0, l1, l2, l3, l4, l5, l6, l7, .int xi] (.int xi :: st) S Q := pv_iload (pm_cdi rfl dX7_addArc_43) rfl
theorem q103_45 : pm_V d 103 45 [l0, l1, .int xi, l3, l4, l5, l6, l7, l8] st S Q = pm_V d 103 46 [l0, l1, .int xi, l3, l4, l5, l6, l7, l8] (.int xi :: st) S Q := pv_iload_n (pm_cdi rfl dX7_addArc_45) rfl
theorem q103_46 (hs : pm_ar S an 0 xi = true) : pm_V d 103 46 [l0, l1, l2, l3, l4, l5, l6, l7, l8] (.int vi :: .int xi :: .ref an :: st) S Q = pm_V d 103 47 [l0, l1, l2, l3, l4, l5, l6, l7, l8] st (pm_szi S an xi.toNatClampNeg vi) Q := pv_iast (pm_cdi rfl dX7_addArc_46) hs
theorem q103_47 : pm_V d 103 47 [.ref xn, l1, l2, l3, l4, l5, l6, l7, l8] st S Q = pm_V d 103 48 [.ref xn, l1, l2, l3, l4, l5, l6, l7, l8] (.ref xn :: st) S Q := pv_aload_n (pm_cdi rfl dX7_addArc_47) rfl
theorem q103_48 (hs : pm_sh S an = .inr 7) : pm_V d 103 48 [l0, l1, l2, l3, l4, l5, l6, l7, l8] (.ref an :: st) S Q = pm_V d 103 51 [l0, l1, l2, l3, l4, l5, l6, l7, l8] (va_rf (pm_gr S an 14) :: st) S Q := pv_getA (pm_cdi rfl dX7_addArc_48) (by decide +kernel) (by decide +kernel) (by decide +kernel) hs
theorem q103_51 : pm_V d 103 51 [l0, l1, l2, l3, l4, l5, l6, l7, .int xi] st S Q = pm_V d 103 53 [l0, l1, l2, l3, l4, l5, l6, l7, .int xi] (.int xi :: st) S Q := pv_iload (pm_cdi rfl dX7_addArc_51) rfl
theorem q103_53 : pm_V d 103 53 [l0, l1, l2, .int xi, l4, l5, l6, l7, l8] st S Q = pm_V d 103 54 [l0, l1, l2, .int xi, l4, l5, l6, l7, l8] (.int xi :: st) S Q := pv_iload_n (pm_cdi rfl dX7_addArc_53) rfl
theorem q103_54 (hs : pm_ar S an 0 xi = true) : pm_V d 103 54 [l0, l1, l2, l3, l4, l5, l6, l7, l8] (.int vi :: .int xi :: .ref an :: st) S Q = pm_V d 103 55 [l0, l1, l2, l3, l4, l5, l6, l7, l8] st (pm_szi S an xi.toNatClampNeg vi) Q := pv_iast (pm_cdi rfl dX7_addArc_54) hs
theorem q103_55 : pm_V d 103 55 [.ref xn, l1, l2, l3, l4, l5, l6, l7, l8] st S Q = pm_V d 103 56 [.ref xn, l1, l2, l3, l4, l5, l6, l7, l8] (.ref xn :: st) S Q := pv_aload_n (pm_cdi rfl dX7_addArc_55) rfl
theorem q103_56 (hs : pm_sh S an = .inr 7) : pm_V d 103 56 [l0, l1, l2, l3, l4, l5, l6, l7, l8] (.ref an :: st) S Q = pm_V d 103 59 [l0, l1, l2, l3, l4, l5, l6, l7, l8] (va_rf (pm_gr S an 15) :: st) S Q := pv_getA (pm_cdi rfl dX7_addArc_56) (by decide +kernel) (by decide +kernel) (by decide +kernel) hs
theorem q103_59 : pm_V d 103 59 [l0, l1, l2, l3, l4, l5, l6, l7, .int xi] st S Q = pm_V d 103 61 [l0, l1, l2, l3, l4, l5, l6, l7, .int xi] (.int xi :: st) S Q := pv_iload (pm_cdi rfl dX7_addArc_59) rfl
theorem q103_61 : pm_V d 103 61 [l0, l1, l2, l3, .long xj, l5, l6, l7, l8] st S Q = pm_V d 103 63 [l0, l1, l2, l3, .long xj, l5, l6, l7, l8] (.long xj :: st) S Q := pv_lload (pm_cdi rfl dX7_addArc_61) rfl
theorem q103_63 (hs : pm_ar S an 1 xi = true) : pm_V d 103 63 [l0, l1, l2, l3, l4, l5, l6, l7, l8] (.long vj :: .int xi :: .ref an :: st) S Q = pm_V d 103 64 [l0, l1, l2, l3, l4, l5, l6, l7, l8] st (pm_szl S an xi.toNatClampNeg vj) Q := pv_last (pm_cdi rfl dX7_addArc_63) hs
theorem q103_64 : pm_V d 103 64 [.ref xn, l1, l2, l3, l4, l5, l6, l7, l8] st S Q = pm_V d 103 65 [.ref xn, l1, l2, l3, l4, l5, l6, l7, l8] (.ref xn :: st) S Q := pv_aload_n (pm_cdi rfl dX7_addArc_64) rfl
theorem q103_65 (hs : pm_sh S an = .inr 7) : pm_V d 103 65 [l0, l1, l2, l3, l4, l5, l6, l7, l8] (.ref an :: st) S Q = pm_V d 103 68 [l0, l1, l2, l3, l4, l5, l6, l7, l8] (va_rf (pm_gr S an 16) :: st) S Q := pv_getA (pm_cdi rfl dX7_addArc_65) (by decide +kernel) (by decide +kernel) (by decide +kernel) hs
theorem q103_68 : pm_V d 103 68 [l0, l1, l2, l3, l4, l5, l6, l7, .int xi] st S Q = pm_V d 103 70 [l0, l1, l2, l3, l4, l5, l6, l7, .int xi] (.int xi :: st) S Q := pv_iload (pm_cdi rfl dX7_addArc_68) rfl
theorem q103_70 : pm_V d 103 70 [l0, l1, l2, l3, l4, l5, .int xi, l7, l8] st S Q = pm_V d 103 72 [l0, l1, l2, l3, l4, l5, .int xi, l7, l8] (.int xi :: st) S Q := pv_iload (pm_cdi rfl dX7_addArc_70) rfl
theorem q103_72 (hs : pm_ar S an 0 xi = true) : pm_V d 103 72 [l0, l1, l2, l3, l4, l5, l6, l7, l8] (.int vi :: .int xi :: .ref an :: st) S Q = pm_V d 103 73 [l0, l1, l2, l3, l4, l5, l6, l7, l8] st (pm_szi S an xi.toNatClampNeg vi) Q := pv_iast (pm_cdi rfl dX7_addArc_72) hs
theorem q103_73 : pm_V d 103 73 [.ref xn, l1, l2, l3, l4, l5, l6, l7, l8] st S Q = pm_V d 103 74 [.ref xn, l1, l2, l3, l4, l5, l6, l7, l8] (.ref xn :: st) S Q := pv_aload_n (pm_cdi rfl dX7_addArc_73) rfl
theorem q103_74 (hs : pm_sh S an = .inr 7) : pm_V d 103 74 [l0, l1, l2, l3, l4, l5, l6, l7, l8] (.ref an :: st) S Q = pm_V d 103 77 [l0, l1, l2, l3, l4, l5, l6, l7, l8] (va_rf (pm_gr S an 17) :: st) S Q := pv_getA (pm_cdi rfl dX7_addArc_74) (by decide +kernel) (by decide +kernel) (by decide +kernel) hs
theorem q103_77 : pm_V d 103 77 [l0, l1, l2, l3, l4, l5, l6, l7, .int xi] st S Q = pm_V d 103 79 [l0, l1, l2, l3, l4, l5, l6, l7, .int xi] (.int xi :: st) S Q := pv_iload (pm_cdi rfl dX7_addArc_77) rfl
theorem q103_79 : pm_V d 103 79 [l0, l1, l2, l3, l4, l5, l6, .int xi, l8] st S Q = pm_V d 103 81 [l0, l1, l2, l3, l4, l5, l6, .int xi, l8] (.int xi :: st) S Q := pv_iload (pm_cdi rfl dX7_addArc_79) rfl
theorem q103_81 (hs : pm_ar S an 0 xi = true) : pm_V d 103 81 [l0, l1, l2, l3, l4, l5, l6, l7, l8] (.int vi :: .int xi :: .ref an :: st) S Q = pm_V d 103 82 [l0, l1, l2, l3, l4, l5, l6, l7, l8] st (pm_szi S an xi.toNatClampNeg vi) Q := pv_iast (pm_cdi rfl dX7_addArc_81) hs
theorem q103_82 : pm_V d 103 82 [.ref xn, l1, l2, l3, l4, l5, l6, l7, l8] st S Q = pm_V d 103 83 [.ref xn, l1, l2, l3, l4, l5, l6, l7, l8] (.ref xn :: st) S Q := pv_aload_n (pm_cdi rfl dX7_addArc_82) rfl
theorem q103_83 (hs : pm_sh S an = .inr 7) : pm_V d 103 83 [l0, l1, l2, l3, l4, l5, l6, l7, l8] (.ref an :: st) S Q = pm_V d 103 86 [l0, l1, l2, l3, l4, l5, l6, l7, l8] (va_rf (pm_gr S an 9) :: st) S Q := pv_getA (pm_cdi rfl dX7_addArc_83) (by decide +kernel) (by decide +kernel) (by decide +kernel) hs
theorem q103_86 : pm_V d 103 86 [l0, .int xi, l2, l3, l4, l5, l6, l7, l8] st S Q = pm_V d 103 87 [l0, .int xi, l2, l3, l4, l5, l6, l7, l8] (.int xi :: st) S Q := pv_iload_n (pm_cdi rfl dX7_addArc_86) rfl
theorem q103_87 : pm_V d 103 87 [l0, l1, l2, l3, l4, l5, l6, l7, l8] (.int xi :: .ref an :: st) S Q = pm_V d 103 88 [l0, l1, l2, l3, l4, l5, l6, l7, l8] (.int xi :: .ref an :: .int xi :: .ref an :: st) S Q := pv_dup2 (pm_cdi rfl dX7_addArc_87)
theorem q103_88 (hs : pm_ar S an 0 xi = true) : pm_V d 103 88 [l0, l1, l2, l3, l4, l5, l6, l7, l8] (.int xi :: .ref an :: st) S Q = pm_V d 103 89 [l0, l1, l2, l3, l4, l5, l6, l7, l8] (.int (pm_zi S an xi.toNatClampNeg) :: st) S Q := pv_iald (pm_cdi rfl dX7_addArc_88) hs
theorem q103_89 : pm_V d 103 89 [l0, l1, l2, l3, l4, l5, l6, l7, l8] st S Q = pm_V d 103 90 [l0, l1, l2, l3, l4, l5, l6, l7, l8] (.int 1 :: st) S Q := pv_iconst (pm_cdi rfl dX7_addArc_89) (by decide +kernel)
theorem q103_90 : pm_V d 103 90 [l0, l1, l2, l3, l4, l5, l6, l7, l8] (.int yi :: .int xi :: st) S Q = pm_V d 103 91 [l0, l1, l2, l3, l4, l5, l6, l7, l8] (.int (xi + yi) :: st) S Q := pv_iadd (pm_cdi rfl dX7_addArc_90)
theorem q103_91 (hs : pm_ar S an 0 xi = true) : pm_V d 103 91 [l0, l1, l2, l3, l4, l5, l6, l7, l8] (.int vi :: .int xi :: .ref an :: st) S Q = pm_V d 103 92 [l0, l1, l2, l3, l4, l5, l6, l7, l8] st (pm_szi S an xi.toNatClampNeg vi) Q := pv_iast (pm_cdi rfl dX7_addArc_91) hs
theorem q103_92 : pm_V d 103 92 [l0, l1, l2, l3, l4, l5, l6, l7, l8] [] S Q = Q none S := pv_rV (pm_cdi rfl dX7_addArc_92) (by decide +kernel)
theorem q103_e : pm_N d 103 [.ref an, .int v0i, .int v1i, .int v2i, .long v3j, .int v4i, .int v5i] S Q = pm_V d 103 0 [.ref an, .int v0i, .int v1i, .int v2i, .long v3j, pm_j, .int v4i, .int v5i, pm_j] [] S Q := pv_ent (Nat.le_of_ble_eq_true rfl) rfl
/-! 104: ViewsJoinsModel.fromOf(II)I -/
theorem dX7_fromOf_0 : decode cX7_fromOf 0 = .ok (.aload_n 0, 1) := by decide +kernel
theorem dX7_fromOf_1 : decode cX7_fromOf 1 = .ok (.getfield 48, 3) := by decide +kernel
theorem dX7_fromOf_4 : decode cX7_fromOf 4 = .ok (.bipush 120, 2) := by decide +kernel
theorem dX7_fromOf_6 : decode cX7_fromOf 6 = .ok (.iload_n 1, 1) := by decide +kernel
theorem dX7_fromOf_7 : decode cX7_fromOf 7 = .ok (.imul, 1) := by decide +kernel
theorem dX7_fromOf_8 : decode cX7_fromOf 8 = .ok (.iload_n 2, 1) := by decide +kernel
theorem dX7_fromOf_9 : decode cX7_fromOf 9 = .ok (.iadd, 1) := by decide +kernel
theorem dX7_fromOf_10 : decode cX7_fromOf 10 = .ok (.iaload, 1) := by decide +kernel
theorem dX7_fromOf_11 : decode cX7_fromOf 11 = .ok (.ireturn, 1) := by decide +kernel
theorem q104_0 : pm_V d 104 0 [.ref xn, l1, l2] st S Q = pm_V d 104 1 [.ref xn, l1, l2] (.ref xn :: st) S Q := pv_aload_n (pm_cdi rfl dX7_fromOf_0) rfl
theorem q104_1 (hs : pm_sh S an = .inr 7) : pm_V d 104 1 [l0, l1, l2] (.ref an :: st) S Q = pm_V d 104 4 [l0, l1, l2] (va_rf (pm_gr S an 13) :: st) S Q := pv_getA (pm_cdi rfl dX7_fromOf_1) (by decide +kernel) (by decide +kernel) (by decide +kernel) hs
theorem q104_4 : pm_V d 104 4 [l0, l1, l2] st S Q = pm_V d 104 6 [l0, l1, l2] (.int 120 :: st) S Q := pv_bipush (pm_cdi rfl dX7_fromOf_4) (by decide +kernel)
theorem q104_6 : pm_V d 104 6 [l0, .int xi, l2] st S Q = pm_V d 104 7 [l0, .int xi, l2] (.int xi :: st) S Q := pv_iload_n (pm_cdi rfl dX7_fromOf_6) rfl
theorem q104_7 : pm_V d 104 7 [l0, l1, l2] (.int yi :: .int xi :: st) S Q = pm_V d 104 8 [l0, l1, l2] (.int (xi * yi) :: st) S Q := pv_imul (pm_cdi rfl dX7_fromOf_7)
theorem q104_8 : pm_V d 104 8 [l0, l1, .int xi] st S Q = pm_V d 104 9 [l0, l1, .int xi] (.int xi :: st) S Q := pv_iload_n (pm_cdi rfl dX7_fromOf_8) rfl
theorem q104_9 : pm_V d 104 9 [l0, l1, l2] (.int yi :: .int xi :: st) S Q = pm_V d 104 10 [l0, l1, l2] (.int (xi + yi) :: st) S Q := pv_iadd (pm_cdi rfl dX7_fromOf_9)
theorem q104_10 (hs : pm_ar S an 0 xi = true) : pm_V d 104 10 [l0, l1, l2] (.int xi :: .ref an :: st) S Q = pm_V d 104 11 [l0, l1, l2] (.int (pm_zi S an xi.toNatClampNeg) :: st) S Q := pv_iald (pm_cdi rfl dX7_fromOf_10) hs
theorem q104_11 : pm_V d 104 11 [l0, l1, l2] [.int xi] S Q = Q (some (.int xi)) S := pv_rI (pm_cdi rfl dX7_fromOf_11) (by decide +kernel)
theorem q104_e : pm_N d 104 [.ref an, .int v0i, .int v1i] S Q = pm_V d 104 0 [.ref an, .int v0i, .int v1i] [] S Q := pv_ent (Nat.le_of_ble_eq_true rfl) rfl
/-! 105: ViewsJoinsModel.toOf(II)I -/
theorem dX7_toOf_0 : decode cX7_toOf 0 = .ok (.aload_n 0, 1) := by decide +kernel
theorem dX7_toOf_1 : decode cX7_toOf 1 = .ok (.getfield 51, 3) := by decide +kernel
theorem dX7_toOf_4 : decode cX7_toOf 4 = .ok (.bipush 120, 2) := by decide +kernel
theorem dX7_toOf_6 : decode cX7_toOf 6 = .ok (.iload_n 1, 1) := by decide +kernel
theorem dX7_toOf_7 : decode cX7_toOf 7 = .ok (.imul, 1) := by decide +kernel
theorem dX7_toOf_8 : decode cX7_toOf 8 = .ok (.iload_n 2, 1) := by decide +kernel
theorem dX7_toOf_9 : decode cX7_toOf 9 = .ok (.iadd, 1) := by decide +kernel
theorem dX7_toOf_10 : decode cX7_toOf 10 = .ok (.iaload, 1) := by decide +kernel
theorem dX7_toOf_11 : decode cX7_toOf 11 = .ok (.ireturn, 1) := by decide +kernel
theorem q105_0 : pm_V d 105 0 [.ref xn, l1, l2] st S Q = pm_V d 105 1 [.ref xn, l1, l2] (.ref xn :: st) S Q := pv_aload_n (pm_cdi rfl dX7_toOf_0) rfl
theorem q105_1 (hs : pm_sh S an = .inr 7) : pm_V d 105 1 [l0, l1, l2] (.ref an :: st) S Q = pm_V d 105 4 [l0, l1, l2] (va_rf (pm_gr S an 14) :: st) S Q := pv_getA (pm_cdi rfl dX7_toOf_1) (by decide +kernel) (by decide +kernel) (by decide +kernel) hs
theorem q105_4 : pm_V d 105 4 [l0, l1, l2] st S Q = pm_V d 105 6 [l0, l1, l2] (.int 120 :: st) S Q := pv_bipush (pm_cdi rfl dX7_toOf_4) (by decide +kernel)
theorem q105_6 : pm_V d 105 6 [l0, .int xi, l2] st S Q = pm_V d 105 7 [l0, .int xi, l2] (.int xi :: st) S Q := pv_iload_n (pm_cdi rfl dX7_toOf_6) rfl
theorem q105_7 : pm_V d 105 7 [l0, l1, l2] (.int yi :: .int xi :: st) S Q = pm_V d 105 8 [l0, l1, l2] (.int (xi * yi) :: st) S Q := pv_imul (pm_cdi rfl dX7_toOf_7)
theorem q105_8 : pm_V d 105 8 [l0, l1, .int xi] st S Q = pm_V d 105 9 [l0, l1, .int xi] (.int xi :: st) S Q := pv_iload_n (pm_cdi rfl dX7_toOf_8) rfl
theorem q105_9 : pm_V d 105 9 [l0, l1, l2] (.int yi :: .int xi :: st) S Q = pm_V d 105 10 [l0, l1, l2] (.int (xi + yi) :: st) S Q := pv_iadd (pm_cdi rfl dX7_toOf_9)
theorem q105_10 (hs : pm_ar S an 0 xi = true) : pm_V d 105 10 [l0, l1, l2] (.int xi :: .ref an :: st) S Q = pm_V d 105 11 [l0, l1, l2] (.int (pm_zi S an xi.toNatClampNeg) :: st) S Q := pv_iald (pm_cdi rfl dX7_toOf_10) hs
theorem q105_11 : pm_V d 105 11 [l0, l1, l2] [.int xi] S Q = Q (some (.int xi)) S := pv_rI (pm_cdi rfl dX7_toOf_11) (by decide +kernel)
theorem q105_e : pm_N d 105 [.ref an, .int v0i, .int v1i] S Q = pm_V d 105 0 [.ref an, .int v0i, .int v1i] [] S Q := pv_ent (Nat.le_of_ble_eq_true rfl) rfl
/-! 106: ViewsJoinsModel.ofNode(II)J -/
theorem dX7_ofNode_0 : decode cX7_ofNode 0 = .ok (.aload_n 0, 1) := by decide +kernel
theorem dX7_ofNode_1 : decode cX7_ofNode 1 = .ok (.getfield 38, 3) := by decide +kernel
theorem dX7_ofNode_4 : decode cX7_ofNode 4 = .ok (.bipush 40, 2) := by decide +kernel
theorem dX7_ofNode_6 : decode cX7_ofNode 6 = .ok (.iload_n 1, 1) := by decide +kernel
theorem dX7_ofNode_7 : decode cX7_ofNode 7 = .ok (.imul, 1) := by decide +kernel
theorem dX7_ofNode_8 : decode cX7_ofNode 8 = .ok (.iload_n 2, 1) := by decide +kernel
theorem dX7_ofNode_9 : decode cX7_ofNode 9 = .ok (.iadd, 1) := by decide +kernel
theorem dX7_ofNode_10 : decode cX7_ofNode 10 = .ok (.laload, 1) := by decide +kernel
theorem dX7_ofNode_11 : decode cX7_ofNode 11 = .ok (.lreturn, 1) := by decide +kernel
theorem q106_0 : pm_V d 106 0 [.ref xn, l1, l2] st S Q = pm_V d 106 1 [.ref xn, l1, l2] (.ref xn :: st) S Q := pv_aload_n (pm_cdi rfl dX7_ofNode_0) rfl
theorem q106_1 (hs : pm_sh S an = .inr 7) : pm_V d 106 1 [l0, l1, l2] (.ref an :: st) S Q = pm_V d 106 4 [l0, l1, l2] (va_rf (pm_gr S an 10) :: st) S Q := pv_getA (pm_cdi rfl dX7_ofNode_1) (by decide +kernel) (by decide +kernel) (by decide +kernel) hs
theorem q106_4 : pm_V d 106 4 [l0, l1, l2] st S Q = pm_V d 106 6 [l0, l1, l2] (.int 40 :: st) S Q := pv_bipush (pm_cdi rfl dX7_ofNode_4) (by decide +kernel)
theorem q106_6 : pm_V d 106 6 [l0, .int xi, l2] st S Q = pm_V d 106 7 [l0, .int xi, l2] (.int xi :: st) S Q := pv_iload_n (pm_cdi rfl dX7_ofNode_6) rfl
theorem q106_7 : pm_V d 106 7 [l0, l1, l2] (.int yi :: .int xi :: st) S Q = pm_V d 106 8 [l0, l1, l2] (.int (xi * yi) :: st) S Q := pv_imul (pm_cdi rfl dX7_ofNode_7)
theorem q106_8 : pm_V d 106 8 [l0, l1, .int xi] st S Q = pm_V d 106 9 [l0, l1, .int xi] (.int xi :: st) S Q := pv_iload_n (pm_cdi rfl dX7_ofNode_8) rfl
theorem q106_9 : pm_V d 106 9 [l0, l1, l2] (.int yi :: .int xi :: st) S Q = pm_V d 106 10 [l0, l1, l2] (.int (xi + yi) :: st) S Q := pv_iadd (pm_cdi rfl dX7_ofNode_9)
theorem q106_10 (hs : pm_ar S an 1 xi = true) : pm_V d 106 10 [l0, l1, l2] (.int xi :: .ref an :: st) S Q = pm_V d 106 11 [l0, l1, l2] (.long (pm_zl S an xi.toNatClampNeg) :: st) S Q := pv_lald (pm_cdi rfl dX7_ofNode_10) hs
theorem q106_11 : pm_V d 106 11 [l0, l1, l2] [.long xj] S Q = Q (some (.long xj)) S := pv_rL (pm_cdi rfl dX7_ofNode_11) (by decide +kernel)
theorem q106_e : pm_N d 106 [.ref an, .int v0i, .int v1i] S Q = pm_V d 106 0 [.ref an, .int v0i, .int v1i] [] S Q := pv_ent (Nat.le_of_ble_eq_true rfl) rfl
/-! 107: ViewsJoinsModel.ofArc(II)J -/
theorem dX7_ofArc_0 : decode cX7_ofArc 0 = .ok (.aload_n 0, 1) := by decide +kernel
theorem dX7_ofArc_1 : decode cX7_ofArc 1 = .ok (.getfield 54, 3) := by decide +kernel
theorem dX7_ofArc_4 : decode cX7_ofArc 4 = .ok (.bipush 120, 2) := by decide +kernel
theorem dX7_ofArc_6 : decode cX7_ofArc 6 = .ok (.iload_n 1, 1) := by decide +kernel
theorem dX7_ofArc_7 : decode cX7_ofArc 7 = .ok (.imul, 1) := by decide +kernel
theorem dX7_ofArc_8 : decode cX7_ofArc 8 = .ok (.iload_n 2, 1) := by decide +kernel
theorem dX7_ofArc_9 : decode cX7_ofArc 9 = .ok (.iadd, 1) := by decide +kernel
theorem dX7_ofArc_10 : decode cX7_ofArc 10 = .ok (.laload, 1) := by decide +kernel
theorem dX7_ofArc_11 : decode cX7_ofArc 11 = .ok (.lreturn, 1) := by decide +kernel
theorem q107_0 : pm_V d 107 0 [.ref xn, l1, l2] st S Q = pm_V d 107 1 [.ref xn, l1, l2] (.ref xn :: st) S Q := pv_aload_n (pm_cdi rfl dX7_ofArc_0) rfl
theorem q107_1 (hs : pm_sh S an = .inr 7) : pm_V d 107 1 [l0, l1, l2] (.ref an :: st) S Q = pm_V d 107 4 [l0, l1, l2] (va_rf (pm_gr S an 15) :: st) S Q := pv_getA (pm_cdi rfl dX7_ofArc_1) (by decide +kernel) (by decide +kernel) (by decide +kernel) hs
theorem q107_4 : pm_V d 107 4 [l0, l1, l2] st S Q = pm_V d 107 6 [l0, l1, l2] (.int 120 :: st) S Q := pv_bipush (pm_cdi rfl dX7_ofArc_4) (by decide +kernel)
theorem q107_6 : pm_V d 107 6 [l0, .int xi, l2] st S Q = pm_V d 107 7 [l0, .int xi, l2] (.int xi :: st) S Q := pv_iload_n (pm_cdi rfl dX7_ofArc_6) rfl
theorem q107_7 : pm_V d 107 7 [l0, l1, l2] (.int yi :: .int xi :: st) S Q = pm_V d 107 8 [l0, l1, l2] (.int (xi * yi) :: st) S Q := pv_imul (pm_cdi rfl dX7_ofArc_7)
theorem q107_8 : pm_V d 107 8 [l0, l1, .int xi] st S Q = pm_V d 107 9 [l0, l1, .int xi] (.int xi :: st) S Q := pv_iload_n (pm_cdi rfl dX7_ofArc_8) rfl
theorem q107_9 : pm_V d 107 9 [l0, l1, l2] (.int yi :: .int xi :: st) S Q = pm_V d 107 10 [l0, l1, l2] (.int (xi + yi) :: st) S Q := pv_iadd (pm_cdi rfl dX7_ofArc_9)
theorem q107_10 (hs : pm_ar S an 1 xi = true) : pm_V d 107 10 [l0, l1, l2] (.int xi :: .ref an :: st) S Q = pm_V d 107 11 [l0, l1, l2] (.long (pm_zl S an xi.toNatClampNeg) :: st) S Q := pv_lald (pm_cdi rfl dX7_ofArc_10) hs
theorem q107_11 : pm_V d 107 11 [l0, l1, l2] [.long xj] S Q = Q (some (.long xj)) S := pv_rL (pm_cdi rfl dX7_ofArc_11) (by decide +kernel)
theorem q107_e : pm_N d 107 [.ref an, .int v0i, .int v1i] S Q = pm_V d 107 0 [.ref an, .int v0i, .int v1i] [] S Q := pv_ent (Nat.le_of_ble_eq_true rfl) rfl
end
