section
variable {d : Nat} {S : pm_T} {Q : Option Value → pm_T → Prop} {an r0n r1n r2n r3n r4n r5n v0n v1n v2n vn xn yn : Nat} {ki r0i r1i r2i r3i r4i v0i v1i v2i v3i v4i v5i vi xi yi : Int32} {l0 l1 l10 l2 l3 l4 l5 l6 l7 l8 l9 v0v v1v v2v : Value} {r0j r1j v0j v1j v2j v3j vj xj yj : Int64} {st : List Value}
/-! 108: ViewsJoinsModel.hasArc(III)Z -/
theorem dX7_hasArc_0 : decode cX7_hasArc 0 = .ok (.iconst 0, 1) := by decide +kernel
theorem dX7_hasArc_1 : decode cX7_hasArc 1 = .ok (.istore 4, 2) := by decide +kernel
theorem dX7_hasArc_3 : decode cX7_hasArc 3 = .ok (.iconst 0, 1) := by decide +kernel
theorem dX7_hasArc_4 : decode cX7_hasArc 4 = .ok (.istore 5, 2) := by decide +kernel
theorem dX7_hasArc_6 : decode cX7_hasArc 6 = .ok (.iload 5, 2) := by decide +kernel
theorem dX7_hasArc_8 : decode cX7_hasArc 8 = .ok (.aload_n 0, 1) := by decide +kernel
theorem dX7_hasArc_9 : decode cX7_hasArc 9 = .ok (.getfield 35, 3) := by decide +kernel
theorem dX7_hasArc_12 : decode cX7_hasArc 12 = .ok (.iload_n 1, 1) := by decide +kernel
theorem dX7_hasArc_13 : decode cX7_hasArc 13 = .ok (.iaload, 1) := by decide +kernel
theorem dX7_hasArc_14 : decode cX7_hasArc 14 = .ok (.if_icmp .ge 43, 3) := by decide +kernel
theorem dX7_hasArc_17 : decode cX7_hasArc 17 = .ok (.iload 4, 2) := by decide +kernel
theorem dX7_hasArc_19 : decode cX7_hasArc 19 = .ok (.ifCond .ne 25, 3) := by decide +kernel
theorem dX7_hasArc_22 : decode cX7_hasArc 22 = .ok (.aload_n 0, 1) := by decide +kernel
theorem dX7_hasArc_23 : decode cX7_hasArc 23 = .ok (.iload_n 1, 1) := by decide +kernel
theorem dX7_hasArc_24 : decode cX7_hasArc 24 = .ok (.iload 5, 2) := by decide +kernel
theorem dX7_hasArc_26 : decode cX7_hasArc 26 = .ok (.invokevirtual 181, 3) := by decide +kernel
theorem dX7_hasArc_29 : decode cX7_hasArc 29 = .ok (.iload_n 2, 1) := by decide +kernel
theorem dX7_hasArc_30 : decode cX7_hasArc 30 = .ok (.if_icmp .ne 18, 3) := by decide +kernel
theorem dX7_hasArc_33 : decode cX7_hasArc 33 = .ok (.aload_n 0, 1) := by decide +kernel
theorem dX7_hasArc_34 : decode cX7_hasArc 34 = .ok (.iload_n 1, 1) := by decide +kernel
theorem dX7_hasArc_35 : decode cX7_hasArc 35 = .ok (.iload 5, 2) := by decide +kernel
theorem dX7_hasArc_37 : decode cX7_hasArc 37 = .ok (.invokevirtual 185, 3) := by decide +kernel
theorem dX7_hasArc_40 : decode cX7_hasArc 40 = .ok (.iload_n 3, 1) := by decide +kernel
theorem dX7_hasArc_41 : decode cX7_hasArc 41 = .ok (.if_icmp .ne 7, 3) := by decide +kernel
theorem dX7_hasArc_44 : decode cX7_hasArc 44 = .ok (.iconst 1, 1) := by decide +kernel
theorem dX7_hasArc_45 : decode cX7_hasArc 45 = .ok (.goto 4, 3) := by decide +kernel
theorem dX7_hasArc_48 : decode cX7_hasArc 48 = .ok (.iconst 0, 1) := by decide +kernel
theorem dX7_hasArc_49 : decode cX7_hasArc 49 = .ok (.istore 4, 2) := by decide +kernel
theorem dX7_hasArc_51 : decode cX7_hasArc 51 = .ok (.iinc 5 1, 3) := by decide +kernel
theorem dX7_hasArc_54 : decode cX7_hasArc 54 = .ok (.goto (-48), 3) := by decide +kernel
theorem dX7_hasArc_57 : decode cX7_hasArc 57 = .ok (.iload 4, 2) := by decide +kernel
theorem dX7_hasArc_59 : decode cX7_hasArc 59 = .ok (.ireturn, 1) := by decide +kernel
theorem q108_0 : pm_V d 108 0 [l0, l1, l2, l3, l4, l5] st S Q = pm_V d 108 1 [l0, l1, l2, l3, l4, l5] (.int 0 :: st) S Q := pv_iconst (pm_cdi rfl dX7_hasArc_0) (by decide +kernel)
theorem q108_1 : pm_V d 108 1 [l0, l1, l2, .int yi, l4, l5] (.int xi :: st) S Q = pm_V d 108 3 [l0, l1, l2, .int yi, .int xi, l5] st S Q := pv_istore (pm_cdi rfl dX7_hasArc_1) rfl
theorem q108_3 : pm_V d 108 3 [l0, l1, l2, l3, l4, l5] st S Q = pm_V d 108 4 [l0, l1, l2, l3, l4, l5] (.int 0 :: st) S Q := pv_iconst (pm_cdi rfl dX7_hasArc_3) (by decide +kernel)
theorem q108_4 : pm_V d 108 4 [l0, l1, l2, l3, .int yi, l5] (.int xi :: st) S Q = pm_V d 108 6 [l0, l1, l2, l3, .int yi, .int xi] st S Q := pv_istore (pm_cdi rfl dX7_hasArc_4) rfl
theorem q108_6 : pm_V d 108 6 [l0, l1, l2, l3, l4, .int xi] st S Q = pm_V d 108 8 [l0, l1, l2, l3, l4, .int xi] (.int xi :: st) S Q := pv_iload (pm_cdi rfl dX7_hasArc_6) rfl
theorem q108_8 : pm_V d 108 8 [.ref xn, l1, l2, l3, l4, l5] st S Q = pm_V d 108 9 [.ref xn, l1, l2, l3, l4, l5] (.ref xn :: st) S Q := pv_aload_n (pm_cdi rfl dX7_hasArc_8) rfl
theorem q108_9 (hs : pm_sh S an = .inr 7) : pm_V d 108 9 [l0, l1, l2, l3, l4, l5] (.ref an :: st) S Q = pm_V d 108 12 [l0, l1, l2, l3, l4, l5] (va_rf (pm_gr S an 9) :: st) S Q := pv_getA (pm_cdi rfl dX7_hasArc_9) (by decide +kernel) (by decide +kernel) (by decide +kernel) hs
theorem q108_12 : pm_V d 108 12 [l0, .int xi, l2, l3, l4, l5] st S Q = pm_V d 108 13 [l0, .int xi, l2, l3, l4, l5] (.int xi :: st) S Q := pv_iload_n (pm_cdi rfl dX7_hasArc_12) rfl
theorem q108_13 (hs : pm_ar S an 0 xi = true) : pm_V d 108 13 [l0, l1, l2, l3, l4, l5] (.int xi :: .ref an :: st) S Q = pm_V d 108 14 [l0, l1, l2, l3, l4, l5] (.int (pm_zi S an xi.toNatClampNeg) :: st) S Q := pv_iald (pm_cdi rfl dX7_hasArc_13) hs
theorem q108_14 : pm_V d 108 14 [l0, l1, l2, l3, l4, l5] (.int yi :: .int xi :: st) S Q = if xi < yi then pm_V d 108 17 [l0, l1, l2, l3, l4, l5] st S Q else pm_V d 108 57 [l0, l1, l2, l3, l4, l5] st S Q := pv_icmp_ge (pm_cdi rfl dX7_hasArc_14) rfl
theorem q108_17 : pm_V d 108 17 [l0, l1, l2, l3, .int xi, l5] st S Q = pm_V d 108 19 [l0, l1, l2, l3, .int xi, l5] (.int xi :: st) S Q := pv_iload (pm_cdi rfl dX7_hasArc_17) rfl
theorem q108_19 : pm_V d 108 19 [l0, l1, l2, l3, l4, l5] (.int xi :: st) S Q = if xi = 0 then pm_V d 108 22 [l0, l1, l2, l3, l4, l5] st S Q else pm_V d 108 44 [l0, l1, l2, l3, l4, l5] st S Q := pv_if_ne (pm_cdi rfl dX7_hasArc_19) rfl
theorem q108_22 : pm_V d 108 22 [.ref xn, l1, l2, l3, l4, l5] st S Q = pm_V d 108 23 [.ref xn, l1, l2, l3, l4, l5] (.ref xn :: st) S Q := pv_aload_n (pm_cdi rfl dX7_hasArc_22) rfl
theorem q108_23 : pm_V d 108 23 [l0, .int xi, l2, l3, l4, l5] st S Q = pm_V d 108 24 [l0, .int xi, l2, l3, l4, l5] (.int xi :: st) S Q := pv_iload_n (pm_cdi rfl dX7_hasArc_23) rfl
theorem q108_24 : pm_V d 108 24 [l0, l1, l2, l3, l4, .int xi] st S Q = pm_V d 108 26 [l0, l1, l2, l3, l4, .int xi] (.int xi :: st) S Q := pv_iload (pm_cdi rfl dX7_hasArc_24) rfl
theorem q108_26 (hs : pm_sh S an = .inr 7) : pm_V (d + 1) 108 26 [l0, l1, l2, l3, l4, l5] [.int v1i, .int v0i, .ref an] S Q = pm_N d 104 [.ref an, .int v0i, .int v1i] S (fun r S' => pm_V (d + 1) 108 29 [l0, l1, l2, l3, l4, l5] (r.toList ++ []) S' Q) := pv_callV (as := [.int v0i, .int v1i]) (pm_cdi rfl dX7_hasArc_26) (Or.inl (by decide +kernel)) (by decide +kernel) (show _ = _ from (by decide +kernel : 2 = pm_np 104)) rfl (Nat.le_of_ble_eq_true rfl) (cl := 7) (by decide +kernel) hs
theorem q108_29 : pm_V d 108 29 [l0, l1, .int xi, l3, l4, l5] st S Q = pm_V d 108 30 [l0, l1, .int xi, l3, l4, l5] (.int xi :: st) S Q := pv_iload_n (pm_cdi rfl dX7_hasArc_29) rfl
theorem q108_30 : pm_V d 108 30 [l0, l1, l2, l3, l4, l5] (.int yi :: .int xi :: st) S Q = if xi = yi then pm_V d 108 33 [l0, l1, l2, l3, l4, l5] st S Q else pm_V d 108 48 [l0, l1, l2, l3, l4, l5] st S Q := pv_icmp_ne (pm_cdi rfl dX7_hasArc_30) rfl
theorem q108_33 : pm_V d 108 33 [.ref xn, l1, l2, l3, l4, l5] st S Q = pm_V d 108 34 [.ref xn, l1, l2, l3, l4, l5] (.ref xn :: st) S Q := pv_aload_n (pm_cdi rfl dX7_hasArc_33) rfl
theorem q108_34 : pm_V d 108 34 [l0, .int xi, l2, l3, l4, l5] st S Q = pm_V d 108 35 [l0, .int xi, l2, l3, l4, l5] (.int xi :: st) S Q := pv_iload_n (pm_cdi rfl dX7_hasArc_34) rfl
theorem q108_35 : pm_V d 108 35 [l0, l1, l2, l3, l4, .int xi] st S Q = pm_V d 108 37 [l0, l1, l2, l3, l4, .int xi] (.int xi :: st) S Q := pv_iload (pm_cdi rfl dX7_hasArc_35) rfl
theorem q108_37 (hs : pm_sh S an = .inr 7) : pm_V (d + 1) 108 37 [l0, l1, l2, l3, l4, l5] [.int v1i, .int v0i, .ref an] S Q = pm_N d 105 [.ref an, .int v0i, .int v1i] S (fun r S' => pm_V (d + 1) 108 40 [l0, l1, l2, l3, l4, l5] (r.toList ++ []) S' Q) := pv_callV (as := [.int v0i, .int v1i]) (pm_cdi rfl dX7_hasArc_37) (Or.inl (by decide +kernel)) (by decide +kernel) (show _ = _ from (by decide +kernel : 2 = pm_np 105)) rfl (Nat.le_of_ble_eq_true rfl) (cl := 7) (by decide +kernel) hs
theorem q108_40 : pm_V d 108 40 [l0, l1, l2, .int xi, l4, l5] st S Q = pm_V d 108 41 [l0, l1, l2, .int xi, l4, l5] (.int xi :: st) S Q := pv_iload_n (pm_cdi rfl dX7_hasArc_40) rfl
theorem q108_41 : pm_V d 108 41 [l0, l1, l2, l3, l4, l5] (.int yi :: .int xi :: st) S Q = if xi = yi then pm_V d 108 44 [l0, l1, l2, l3, l4, l5] st S Q else pm_V d 108 48 [l0, l1, l2, l3, l4, l5] st S Q := pv_icmp_ne (pm_cdi rfl dX7_hasArc_41) rfl
theorem q108_44 : pm_V d 108 44 [l0, l1, l2, l3, l4, l5] st S Q = pm_V d 108 45 [l0, l1, l2, l3, l4, l5] (.int 1 :: st) S Q := pv_iconst (pm_cdi rfl dX7_hasArc_44) (by decide +kernel)
theorem q108_45 : pm_V d 108 45 [l0, l1, l2, l3, l4, l5] st S Q = pm_V d 108 49 [l0, l1, l2, l3, l4, l5] st S Q := pv_goto (pm_cdi rfl dX7_hasArc_45) rfl
theorem q108_48 : pm_V d 108 48 [l0, l1, l2, l3, l4, l5] st S Q = pm_V d 108 49 [l0, l1, l2, l3, l4, l5] (.int 0 :: st) S Q := pv_iconst (pm_cdi rfl dX7_hasArc_48) (by decide +kernel)
theorem q108_49 : pm_V d 108 49 [l0, l1, l2, .int yi, l4, l5] (.int xi :: st) S Q = pm_V d 108 51 [l0, l1, l2, .int yi, .int xi, l5] st S Q := pv_istore (pm_cdi rfl dX7_hasArc_49) rfl
theorem q108_51 : pm_V d 108 51 [l0, l1, l2, l3, .int yi, .int xi] st S Q = pm_V d 108 54 [l0, l1, l2, l3, .int yi, .int (xi + 1)] st S Q := pv_iinc (pm_cdi rfl dX7_hasArc_51) rfl (by decide +kernel) rfl
theorem q108_54 : pm_V d 108 54 [l0, l1, l2, l3, l4, l5] st S Q = pm_V d 108 6 [l0, l1, l2, l3, l4, l5] st S Q := pv_goto (pm_cdi rfl dX7_hasArc_54) rfl
theorem q108_57 : pm_V d 108 57 [l0, l1, l2, l3, .int xi, l5] st S Q = pm_V d 108 59 [l0, l1, l2, l3, .int xi, l5] (.int xi :: st) S Q := pv_iload (pm_cdi rfl dX7_hasArc_57) rfl
theorem q108_59 (hx : xi = 0 ∨ xi = 1) : pm_V d 108 59 [l0, l1, l2, l3, l4, l5] [.int xi] S Q = Q (some (.int xi)) S := pv_rZ (pm_cdi rfl dX7_hasArc_59) (by decide +kernel) hx
theorem q108_e : pm_N d 108 [.ref an, .int v0i, .int v1i, .int v2i] S Q = pm_V d 108 0 [.ref an, .int v0i, .int v1i, .int v2i, pm_j, pm_j] [] S Q := pv_ent (Nat.le_of_ble_eq_true rfl) rfl
/-! 109: ViewsJoinsModel.passes(IIIII)Z -/
theorem dX7_passes_0 : decode cX7_passes 0 = .ok (.aload_n 0, 1) := by decide +kernel
theorem dX7_passes_1 : decode cX7_passes 1 = .ok (.getfield 29, 3) := by decide +kernel
theorem dX7_passes_4 : decode cX7_passes 4 = .ok (.iload_n 1, 1) := by decide +kernel
theorem dX7_passes_5 : decode cX7_passes 5 = .ok (.iaload, 1) := by decide +kernel
theorem dX7_passes_6 : decode cX7_passes 6 = .ok (.ifCond .eq 5, 3) := by decide +kernel
theorem dX7_passes_9 : decode cX7_passes 9 = .ok (.iconst 0, 1) := by decide +kernel
theorem dX7_passes_10 : decode cX7_passes 10 = .ok (.ireturn, 1) := by decide +kernel
theorem dX7_passes_11 : decode cX7_passes 11 = .ok (.iload 5, 2) := by decide +kernel
theorem dX7_passes_13 : decode cX7_passes 13 = .ok (.iconst (-1), 1) := by decide +kernel
theorem dX7_passes_14 : decode cX7_passes 14 = .ok (.if_icmp .ne 7, 3) := by decide +kernel
theorem dX7_passes_17 : decode cX7_passes 17 = .ok (.iconst 1, 1) := by decide +kernel
theorem dX7_passes_18 : decode cX7_passes 18 = .ok (.goto 13, 3) := by decide +kernel
theorem dX7_passes_21 : decode cX7_passes 21 = .ok (.aload_n 0, 1) := by decide +kernel
theorem dX7_passes_22 : decode cX7_passes 22 = .ok (.iload_n 2, 1) := by decide +kernel
theorem dX7_passes_23 : decode cX7_passes 23 = .ok (.iload_n 3, 1) := by decide +kernel
theorem dX7_passes_24 : decode cX7_passes 24 = .ok (.iload 4, 2) := by decide +kernel
theorem dX7_passes_26 : decode cX7_passes 26 = .ok (.iload 5, 2) := by decide +kernel
theorem dX7_passes_28 : decode cX7_passes 28 = .ok (.invokevirtual 188, 3) := by decide +kernel
theorem dX7_passes_31 : decode cX7_passes 31 = .ok (.istore 6, 2) := by decide +kernel
theorem dX7_passes_33 : decode cX7_passes 33 = .ok (.iload 6, 2) := by decide +kernel
theorem dX7_passes_35 : decode cX7_passes 35 = .ok (.bipush 10, 2) := by decide +kernel
theorem dX7_passes_37 : decode cX7_passes 37 = .ok (.if_icmp .ge 15, 3) := by decide +kernel
theorem dX7_passes_40 : decode cX7_passes 40 = .ok (.iload 6, 2) := by decide +kernel
theorem dX7_passes_42 : decode cX7_passes 42 = .ok (.iconst 1, 1) := by decide +kernel
theorem dX7_passes_43 : decode cX7_passes 43 = .ok (.if_icmp .ne 7, 3) := by decide +kernel
theorem dX7_passes_46 : decode cX7_passes 46 = .ok (.iconst 1, 1) := by decide +kernel
theorem dX7_passes_47 : decode cX7_passes 47 = .ok (.goto 4, 3) := by decide +kernel
theorem dX7_passes_50 : decode cX7_passes 50 = .ok (.iconst 0, 1) := by decide +kernel
theorem dX7_passes_51 : decode cX7_passes 51 = .ok (.ireturn, 1) := by decide +kernel
theorem dX7_passes_52 : decode cX7_passes 52 = .ok (.iload 6, 2) := by decide +kernel
theorem dX7_passes_54 : decode cX7_passes 54 = .ok (.bipush 10, 2) := by decide +kernel
theorem dX7_passes_56 : decode cX7_passes 56 = .ok (.isub, 1) := by decide +kernel
theorem dX7_passes_57 : decode cX7_passes 57 = .ok (.istore 7, 2) := by decide +kernel
theorem dX7_passes_59 : decode cX7_passes 59 = .ok (.iload 7, 2) := by decide +kernel
theorem dX7_passes_61 : decode cX7_passes 61 = .ok (.iconst 5, 1) := by decide +kernel
theorem dX7_passes_62 : decode cX7_passes 62 = .ok (.if_icmp .eq 13, 3) := by decide +kernel
theorem dX7_passes_65 : decode cX7_passes 65 = .ok (.aload_n 0, 1) := by decide +kernel
theorem dX7_passes_66 : decode cX7_passes 66 = .ok (.getfield 22, 3) := by decide +kernel
theorem dX7_passes_69 : decode cX7_passes 69 = .ok (.iload_n 1, 1) := by decide +kernel
theorem dX7_passes_70 : decode cX7_passes 70 = .ok (.iaload, 1) := by decide +kernel
theorem dX7_passes_71 : decode cX7_passes 71 = .ok (.iconst 1, 1) := by decide +kernel
theorem dX7_passes_72 : decode cX7_passes 72 = .ok (.if_icmp .ne 13, 3) := by decide +kernel
theorem dX7_passes_75 : decode cX7_passes 75 = .ok (.aload_n 0, 1) := by decide +kernel
theorem dX7_passes_76 : decode cX7_passes 76 = .ok (.iload_n 1, 1) := by decide +kernel
theorem dX7_passes_77 : decode cX7_passes 77 = .ok (.iload 7, 2) := by decide +kernel
theorem dX7_passes_79 : decode cX7_passes 79 = .ok (.invokevirtual 178, 3) := by decide +kernel
theorem dX7_passes_82 : decode cX7_passes 82 = .ok (.goto 57, 3) := by decide +kernel
theorem dX7_passes_85 : decode cX7_passes 85 = .ok (.aload_n 0, 1) := by decide +kernel
theorem dX7_passes_86 : decode cX7_passes 86 = .ok (.getfield 66, 3) := by decide +kernel
theorem dX7_passes_89 : decode cX7_passes 89 = .ok (.sipush 160, 3) := by decide +kernel
theorem dX7_passes_92 : decode cX7_passes 92 = .ok (.iload_n 1, 1) := by decide +kernel
theorem dX7_passes_93 : decode cX7_passes 93 = .ok (.imul, 1) := by decide +kernel
theorem dX7_passes_94 : decode cX7_passes 94 = .ok (.aload_n 0, 1) := by decide +kernel
theorem dX7_passes_95 : decode cX7_passes 95 = .ok (.getfield 63, 3) := by decide +kernel
theorem dX7_passes_98 : decode cX7_passes 98 = .ok (.iload_n 1, 1) := by decide +kernel
theorem dX7_passes_99 : decode cX7_passes 99 = .ok (.iaload, 1) := by decide +kernel
theorem dX7_passes_100 : decode cX7_passes 100 = .ok (.iadd, 1) := by decide +kernel
theorem dX7_passes_101 : decode cX7_passes 101 = .ok (.sipush 1000, 3) := by decide +kernel
theorem dX7_passes_104 : decode cX7_passes 104 = .ok (.iload_n 3, 1) := by decide +kernel
theorem dX7_passes_105 : decode cX7_passes 105 = .ok (.imul, 1) := by decide +kernel
theorem dX7_passes_106 : decode cX7_passes 106 = .ok (.iload 4, 2) := by decide +kernel
theorem dX7_passes_108 : decode cX7_passes 108 = .ok (.iadd, 1) := by decide +kernel
theorem dX7_passes_109 : decode cX7_passes 109 = .ok (.iastore, 1) := by decide +kernel
theorem dX7_passes_110 : decode cX7_passes 110 = .ok (.aload_n 0, 1) := by decide +kernel
theorem dX7_passes_111 : decode cX7_passes 111 = .ok (.getfield 69, 3) := by decide +kernel
theorem dX7_passes_114 : decode cX7_passes 114 = .ok (.sipush 160, 3) := by decide +kernel
theorem dX7_passes_117 : decode cX7_passes 117 = .ok (.iload_n 1, 1) := by decide +kernel
theorem dX7_passes_118 : decode cX7_passes 118 = .ok (.imul, 1) := by decide +kernel
theorem dX7_passes_119 : decode cX7_passes 119 = .ok (.aload_n 0, 1) := by decide +kernel
theorem dX7_passes_120 : decode cX7_passes 120 = .ok (.getfield 63, 3) := by decide +kernel
theorem dX7_passes_123 : decode cX7_passes 123 = .ok (.iload_n 1, 1) := by decide +kernel
theorem dX7_passes_124 : decode cX7_passes 124 = .ok (.iaload, 1) := by decide +kernel
theorem dX7_passes_125 : decode cX7_passes 125 = .ok (.iadd, 1) := by decide +kernel
theorem dX7_passes_126 : decode cX7_passes 126 = .ok (.iload 7, 2) := by decide +kernel
theorem dX7_passes_128 : decode cX7_passes 128 = .ok (.iastore, 1) := by decide +kernel
theorem dX7_passes_129 : decode cX7_passes 129 = .ok (.aload_n 0, 1) := by decide +kernel
theorem dX7_passes_130 : decode cX7_passes 130 = .ok (.getfield 63, 3) := by decide +kernel
theorem dX7_passes_133 : decode cX7_passes 133 = .ok (.iload_n 1, 1) := by decide +kernel
theorem dX7_passes_134 : decode cX7_passes 134 = .ok (.dup2, 1) := by decide +kernel
theorem dX7_passes_135 : decode cX7_passes 135 = .ok (.iaload, 1) := by decide +kernel
theorem dX7_passes_136 : decode cX7_passes 136 = .ok (.iconst 1, 1) := by decide +kernel
theorem dX7_passes_137 : decode cX7_passes 137 = .ok (.iadd, 1) := by decide +kernel
theorem dX7_passes_138 : decode cX7_passes 138 = .ok (.iastore, 1) := by decide +kernel
theorem dX7_passes_139 : decode cX7_passes 139 = .ok (.iconst 0, 1) := by decide +kernel
theorem dX7_passes_140 : decode cX7_passes 140 = .ok (.ireturn, 1) := by decide +kernel
theorem q109_0 : pm_V d 109 0 [.ref xn, l1, l2, l3, l4, l5, l6, l7] st S Q = pm_V d 109 1 [.ref xn, l1, l2, l3, l4, l5, l6, l7] (.ref xn :: st) S Q := pv_aload_n (pm_cdi rfl dX7_passes_0) rfl
theorem q109_1 (hs : pm_sh S an = .inr 7) : pm_V d 109 1 [l0, l1, l2, l3, l4, l5, l6, l7] (.ref an :: st) S Q = pm_V d 109 4 [l0, l1, l2, l3, l4, l5, l6, l7] (va_rf (pm_gr S an 7) :: st) S Q := pv_getA (pm_cdi rfl dX7_passes_1) (by decide +kernel) (by decide +kernel) (by decide +kernel) hs
theorem q109_4 : pm_V d 109 4 [l0, .int xi, l2, l3, l4, l5, l6, l7] st S Q = pm_V d 109 5 [l0, .int xi, l2, l3, l4, l5, l6, l7] (.int xi :: st) S Q := pv_iload_n (pm_cdi rfl dX7_passes_4) rfl
theorem q109_5 (hs : pm_ar S an 0 xi = true) : pm_V d 109 5 [l0, l1, l2, l3, l4, l5, l6, l7] (.int xi :: .ref an :: st) S Q = pm_V d 109 6 [l0, l1, l2, l3, l4, l5, l6, l7] (.int (pm_zi S an xi.toNatClampNeg) :: st) S Q := pv_iald (pm_cdi rfl dX7_passes_5) hs
theorem q109_6 : pm_V d 109 6 [l0, l1, l2, l3, l4, l5, l6, l7] (.int xi :: st) S Q = if xi = 0 then pm_V d 109 11 [l0, l1, l2, l3, l4, l5, l6, l7] st S Q else pm_V d 109 9 [l0, l1, l2, l3, l4, l5, l6, l7] st S Q := pv_if_eq (pm_cdi rfl dX7_passes_6) rfl
theorem q109_9 : pm_V d 109 9 [l0, l1, l2, l3, l4, l5, l6, l7] st S Q = pm_V d 109 10 [l0, l1, l2, l3, l4, l5, l6, l7] (.int 0 :: st) S Q := pv_iconst (pm_cdi rfl dX7_passes_9) (by decide +kernel)
theorem q109_10 (hx : xi = 0 ∨ xi = 1) : pm_V d 109 10 [l0, l1, l2, l3, l4, l5, l6, l7] [.int xi] S Q = Q (some (.int xi)) S := pv_rZ (pm_cdi rfl dX7_passes_10) (by decide +kernel) hx
theorem q109_11 : pm_V d 109 11 [l0, l1, l2, l3, l4, .int xi, l6, l7] st S Q = pm_V d 109 13 [l0, l1, l2, l3, l4, .int xi, l6, l7] (.int xi :: st) S Q := pv_iload (pm_cdi rfl dX7_passes_11) rfl
theorem q109_13 : pm_V d 109 13 [l0, l1, l2, l3, l4, l5, l6, l7] st S Q = pm_V d 109 14 [l0, l1, l2, l3, l4, l5, l6, l7] (.int (-1) :: st) S Q := pv_iconst (pm_cdi rfl dX7_passes_13) (by decide +kernel)
theorem q109_14 : pm_V d 109 14 [l0, l1, l2, l3, l4, l5, l6, l7] (.int yi :: .int xi :: st) S Q = if xi = yi then pm_V d 109 17 [l0, l1, l2, l3, l4, l5, l6, l7] st S Q else pm_V d 109 21 [l0, l1, l2, l3, l4, l5, l6, l7] st S Q := pv_icmp_ne (pm_cdi rfl dX7_passes_14) rfl
theorem q109_17 : pm_V d 109 17 [l0, l1, l2, l3, l4, l5, l6, l7] st S Q = pm_V d 109 18 [l0, l1, l2, l3, l4, l5, l6, l7] (.int 1 :: st) S Q := pv_iconst (pm_cdi rfl dX7_passes_17) (by decide +kernel)
theorem q109_18 : pm_V d 109 18 [l0, l1, l2, l3, l4, l5, l6, l7] st S Q = pm_V d 109 31 [l0, l1, l2, l3, l4, l5, l6, l7] st S Q := pv_goto (pm_cdi rfl dX7_passes_18) rfl
theorem q109_21 : pm_V d 109 21 [.ref xn, l1, l2, l3, l4, l5, l6, l7] st S Q = pm_V d 109 22 [.ref xn, l1, l2, l3, l4, l5, l6, l7] (.ref xn :: st) S Q := pv_aload_n (pm_cdi rfl dX7_passes_21) rfl
theorem q109_22 : pm_V d 109 22 [l0, l1, .int xi, l3, l4, l5, l6, l7] st S Q = pm_V d 109 23 [l0, l1, .int xi, l3, l4, l5, l6, l7] (.int xi :: st) S Q := pv_iload_n (pm_cdi rfl dX7_passes_22) rfl
theorem q109_23 : pm_V d 109 23 [l0, l1, l2, .int xi, l4, l5, l6, l7] st S Q = pm_V d 109 24 [l0, l1, l2, .int xi, l4, l5, l6, l7] (.int xi :: st) S Q := pv_iload_n (pm_cdi rfl dX7_passes_23) rfl
theorem q109_24 : pm_V d 109 24 [l0, l1, l2, l3, .int xi, l5, l6, l7] st S Q = pm_V d 109 26 [l0, l1, l2, l3, .int xi, l5, l6, l7] (.int xi :: st) S Q := pv_iload (pm_cdi rfl dX7_passes_24) rfl
theorem q109_26 : pm_V d 109 26 [l0, l1, l2, l3, l4, .int xi, l6, l7] st S Q = pm_V d 109 28 [l0, l1, l2, l3, l4, .int xi, l6, l7] (.int xi :: st) S Q := pv_iload (pm_cdi rfl dX7_passes_26) rfl
theorem q109_28 (hs : pm_sh S an = .inr 7) : pm_V (d + 1) 109 28 [l0, l1, l2, l3, l4, l5, l6, l7] [.int v3i, .int v2i, .int v1i, .int v0i, .ref an] S Q = pm_N d 122 [.ref an, .int v0i, .int v1i, .int v2i, .int v3i] S (fun r S' => pm_V (d + 1) 109 31 [l0, l1, l2, l3, l4, l5, l6, l7] (r.toList ++ []) S' Q) := pv_callV (as := [.int v0i, .int v1i, .int v2i, .int v3i]) (pm_cdi rfl dX7_passes_28) (Or.inl (by decide +kernel)) (by decide +kernel) (show _ = _ from (by decide +kernel : 4 = pm_np 122)) rfl (Nat.le_of_ble_eq_true rfl) (cl := 7) (by decide +kernel) hs
theorem q109_31 : pm_V d 109 31 [l0, l1, l2, l3, l4, .int yi, l6, l7] (.int xi :: st) S Q = pm_V d 109 33 [l0, l1, l2, l3, l4, .int yi, .int xi, l7] st S Q := pv_istore (pm_cdi rfl dX7_passes_31) rfl
theorem q109_33 : pm_V d 109 33 [l0, l1, l2, l3, l4, l5, .int xi, l7] st S Q = pm_V d 109 35 [l0, l1, l2, l3, l4, l5, .int xi, l7] (.int xi :: st) S Q := pv_iload (pm_cdi rfl dX7_passes_33) rfl
theorem q109_35 : pm_V d 109 35 [l0, l1, l2, l3, l4, l5, l6, l7] st S Q = pm_V d 109 37 [l0, l1, l2, l3, l4, l5, l6, l7] (.int 10 :: st) S Q := pv_bipush (pm_cdi rfl dX7_passes_35) (by decide +kernel)
theorem q109_37 : pm_V d 109 37 [l0, l1, l2, l3, l4, l5, l6, l7] (.int yi :: .int xi :: st) S Q = if xi < yi then pm_V d 109 40 [l0, l1, l2, l3, l4, l5, l6, l7] st S Q else pm_V d 109 52 [l0, l1, l2, l3, l4, l5, l6, l7] st S Q := pv_icmp_ge (pm_cdi rfl dX7_passes_37) rfl
theorem q109_40 : pm_V d 109 40 [l0, l1, l2, l3, l4, l5, .int xi, l7] st S Q = pm_V d 109 42 [l0, l1, l2, l3, l4, l5, .int xi, l7] (.int xi :: st) S Q := pv_iload (pm_cdi rfl dX7_passes_40) rfl
theorem q109_42 : pm_V d 109 42 [l0, l1, l2, l3, l4, l5, l6, l7] st S Q = pm_V d 109 43 [l0, l1, l2, l3, l4, l5, l6, l7] (.int 1 :: st) S Q := pv_iconst (pm_cdi rfl dX7_passes_42) (by decide +kernel)
theorem q109_43 : pm_V d 109 43 [l0, l1, l2, l3, l4, l5, l6, l7] (.int yi :: .int xi :: st) S Q = if xi = yi then pm_V d 109 46 [l0, l1, l2, l3, l4, l5, l6, l7] st S Q else pm_V d 109 50 [l0, l1, l2, l3, l4, l5, l6, l7] st S Q := pv_icmp_ne (pm_cdi rfl dX7_passes_43) rfl
theorem q109_46 : pm_V d 109 46 [l0, l1, l2, l3, l4, l5, l6, l7] st S Q = pm_V d 109 47 [l0, l1, l2, l3, l4, l5, l6, l7] (.int 1 :: st) S Q := pv_iconst (pm_cdi rfl dX7_passes_46) (by decide +kernel)
theorem q109_47 : pm_V d 109 47 [l0, l1, l2, l3, l4, l5, l6, l7] st S Q = pm_V d 109 51 [l0, l1, l2, l3, l4, l5, l6, l7] st S Q := pv_goto (pm_cdi rfl dX7_passes_47) rfl
theorem q109_50 : pm_V d 109 50 [l0, l1, l2, l3, l4, l5, l6, l7] st S Q = pm_V d 109 51 [l0, l1, l2, l3, l4, l5, l6, l7] (.int 0 :: st) S Q := pv_iconst (pm_cdi rfl dX7_passes_50) (by decide +kernel)
theorem q109_51 (hx : xi = 0 ∨ xi = 1) : pm_V d 109 51 [l0, l1, l2, l3, l4, l5, l6, l7] [.int xi] S Q = Q (some (.int xi)) S := pv_rZ (pm_cdi rfl dX7_passes_51) (by decide +kernel) hx
theorem q109_52 : pm_V d 109 52 [l0, l1, l2, l3, l4, l5, .int xi, l7] st S Q = pm_V d 109 54 [l0, l1, l2, l3, l4, l5, .int xi, l7] (.int xi :: st) S Q := pv_iload (pm_cdi rfl dX7_passes_52) rfl
theorem q109_54 : pm_V d 109 54 [l0, l1, l2, l3, l4, l5, l6, l7] st S Q = pm_V d 109 56 [l0, l1, l2, l3, l4, l5, l6, l7] (.int 10 :: st) S Q := pv_bipush (pm_cdi rfl dX7_passes_54) (by decide +kernel)
theorem q109_56 : pm_V d 109 56 [l0, l1, l2, l3, l4, l5, l6, l7] (.int yi :: .int xi :: st) S Q = pm_V d 109 57 [l0, l1, l2, l3, l4, l5, l6, l7] (.int (xi - yi) :: st) S Q := pv_isub (pm_cdi rfl dX7_passes_56)
theorem q109_57 : pm_V d 109 57 [l0, l1, l2, l3, l4, l5, .int yi, l7] (.int xi :: st) S Q = pm_V d 109 59 [l0, l1, l2, l3, l4, l5, .int yi, .int xi] st S Q := pv_istore (pm_cdi rfl dX7_passes_57) rfl
theorem q109_59 : pm_V d 109 59 [l0, l1, l2, l3, l4, l5, l6, .int xi] st S Q = pm_V d 109 61 [l0, l1, l2, l3, l4, l5, l6, .int xi] (.int xi :: st) S Q := pv_iload (pm_cdi rfl dX7_passes_59) rfl
theorem q109_61 : pm_V d 109 61 [l0, l1, l2, l3, l4, l5, l6, l7] st S Q = pm_V d 109 62 [l0, l1, l2, l3, l4, l5, l6, l7] (.int 5 :: st) S Q := pv_iconst (pm_cdi rfl dX7_passes_61) (by decide +kernel)
theorem q109_62 : pm_V d 109 62 [l0, l1, l2, l3, l4, l5, l6, l7] (.int yi :: .int xi :: st) S Q = if xi = yi then pm_V d 109 75 [l0, l1, l2, l3, l4, l5, l6, l7] st S Q else pm_V d 109 65 [l0, l1, l2, l3, l4, l5, l6, l7] st S Q := pv_icmp_eq (pm_cdi rfl dX7_passes_62) rfl
theorem q109_65 : pm_V d 109 65 [.ref xn, l1, l2, l3, l4, l5, l6, l7] st S Q = pm_V d 109 66 [.ref xn, l1, l2, l3, l4, l5, l6, l7] (.ref xn :: st) S Q := pv_aload_n (pm_cdi rfl dX7_passes_65) rfl
theorem q109_66 (hs : pm_sh S an = .inr 7) : pm_V d 109 66 [l0, l1, l2, l3, l4, l5, l6, l7] (.ref an :: st) S Q = pm_V d 109 69 [l0, l1, l2, l3, l4, l5, l6, l7] (va_rf (pm_gr S an 5) :: st) S Q := pv_getA (pm_cdi rfl dX7_passes_66) (by decide +kernel) (by decide +kernel) (by decide +kernel) hs
theorem q109_69 : pm_V d 109 69 [l0, .int xi, l2, l3, l4, l5, l6, l7] st S Q = pm_V d 109 70 [l0, .int xi, l2, l3, l4, l5, l6, l7] (.int xi :: st) S Q := pv_iload_n (pm_cdi rfl dX7_passes_69) rfl
theorem q109_70 (hs : pm_ar S an 0 xi = true) : pm_V d 109 70 [l0, l1, l2, l3, l4, l5, l6, l7] (.int xi :: .ref an :: st) S Q = pm_V d 109 71 [l0, l1, l2, l3, l4, l5, l6, l7] (.int (pm_zi S an xi.toNatClampNeg) :: st) S Q := pv_iald (pm_cdi rfl dX7_passes_70) hs
theorem q109_71 : pm_V d 109 71 [l0, l1, l2, l3, l4, l5, l6, l7] st S Q = pm_V d 109 72 [l0, l1, l2, l3, l4, l5, l6, l7] (.int 1 :: st) S Q := pv_iconst (pm_cdi rfl dX7_passes_71) (by decide +kernel)
theorem q109_72 : pm_V d 109 72 [l0, l1, l2, l3, l4, l5, l6, l7] (.int yi :: .int xi :: st) S Q = if xi = yi then pm_V d 109 75 [l0, l1, l2, l3, l4, l5, l6, l7] st S Q else pm_V d 109 85 [l0, l1, l2, l3, l4, l5, l6, l7] st S Q := pv_icmp_ne (pm_cdi rfl dX7_passes_72) rfl
theorem q109_75 : pm_V d 109 75 [.ref xn, l1, l2, l3, l4, l5, l6, l7] st S Q = pm_V d 109 76 [.ref xn, l1, l2, l3, l4, l5, l6, l7] (.ref xn :: st) S Q := pv_aload_n (pm_cdi rfl dX7_passes_75) rfl
theorem q109_76 : pm_V d 109 76 [l0, .int xi, l2, l3, l4, l5, l6, l7] st S Q = pm_V d 109 77 [l0, .int xi, l2, l3, l4, l5, l6, l7] (.int xi :: st) S Q := pv_iload_n (pm_cdi rfl dX7_passes_76) rfl
theorem q109_77 : pm_V d 109 77 [l0, l1, l2, l3, l4, l5, l6, .int xi] st S Q = pm_V d 109 79 [l0, l1, l2, l3, l4, l5, l6, .int xi] (.int xi :: st) S Q := pv_iload (pm_cdi rfl dX7_passes_77) rfl
theorem q109_79 (hs : pm_sh S an = .inr 7) : pm_V (d + 1) 109 79 [l0, l1, l2, l3, l4, l5, l6, l7] [.int v1i, .int v0i, .ref an] S Q = pm_N d 101 [.ref an, .int v0i, .int v1i] S (fun r S' => pm_V (d + 1) 109 82 [l0, l1, l2, l3, l4, l5, l6, l7] (r.toList ++ []) S' Q) := pv_callV (as := [.int v0i, .int v1i]) (pm_cdi rfl dX7_passes_79) (Or.inl (by decide +kernel)) (by decide +kernel) (show _ = _ from (by decide +kernel : 2 = pm_np 101)) rfl (Nat.le_of_ble_eq_true rfl) (cl := 7) (by decide +kernel) hs
theorem q109_82 : pm_V d 109 82 [l0, l1, l2, l3, l4, l5, l6, l7] st S Q = pm_V d 109 139 [l0, l1, l2, l3, l4, l5, l6, l7] st S Q := pv_goto (pm_cdi rfl dX7_passes_82) rfl
theorem q109_85 : pm_V d 109 85 [.ref xn, l1, l2, l3, l4, l5, l6, l7] st S Q = pm_V d 109 86 [.ref xn, l1, l2, l3, l4, l5, l6, l7] (.ref xn :: st) S Q := pv_aload_n (pm_cdi rfl dX7_passes_85) rfl
theorem q109_86 (hs : pm_sh S an = .inr 7) : pm_V d 109 86 [l0, l1, l2, l3, l4, l5, l6, l7] (.ref an :: st) S Q = pm_V d 109 89 [l0, l1, l2, l3, l4, l5, l6, l7] (va_rf (pm_gr S an 19) :: st) S Q := pv_getA (pm_cdi rfl dX7_passes_86) (by decide +kernel) (by decide +kernel) (by decide +kernel) hs
theorem q109_89 : pm_V d 109 89 [l0, l1, l2, l3, l4, l5, l6, l7] st S Q = pm_V d 109 92 [l0, l1, l2, l3, l4, l5, l6, l7] (.int 160 :: st) S Q := pv_sipush (pm_cdi rfl dX7_passes_89) (by decide +kernel)
theorem q109_92 : pm_V d 109 92 [l0, .int xi, l2, l3, l4, l5, l6, l7] st S Q = pm_V d 109 93 [l0, .int xi, l2, l3, l4, l5, l6, l7] (.int xi :: st) S Q := pv_iload_n (pm_cdi rfl dX7_passes_92) rfl
theorem q109_93 : pm_V d 109 93 [l0, l1, l2, l3, l4, l5, l6, l7] (.int yi :: .int xi :: st) S Q = pm_V d 109 94 [l0, l1, l2, l3, l4, l5, l6, l7] (.int (xi * yi) :: st) S Q := pv_imul (pm_cdi rfl dX7_passes_93)
theorem q109_94 : pm_V d 109 94 [.ref xn, l1, l2, l3, l4, l5, l6, l7] st S Q = pm_V d 109 95 [.ref xn, l1, l2, l3, l4, l5, l6, l7] (.ref xn :: st) S Q := pv_aload_n (pm_cdi rfl dX7_passes_94) rfl
theorem q109_95 (hs : pm_sh S an = .inr 7) : pm_V d 109 95 [l0, l1, l2, l3, l4, l5, l6, l7] (.ref an :: st) S Q = pm_V d 109 98 [l0, l1, l2, l3, l4, l5, l6, l7] (va_rf (pm_gr S an 18) :: st) S Q := pv_getA (pm_cdi rfl dX7_passes_95) (by decide +kernel) (by decide +kernel) (by decide +kernel) hs
theorem q109_98 : pm_V d 109 98 [l0, .int xi, l2, l3, l4, l5, l6, l7] st S Q = pm_V d 109 99 [l0, .int xi, l2, l3, l4, l5, l6, l7] (.int xi :: st) S Q := pv_iload_n (pm_cdi rfl dX7_passes_98) rfl
theorem q109_99 (hs : pm_ar S an 0 xi = true) : pm_V d 109 99 [l0, l1, l2, l3, l4, l5, l6, l7] (.int xi :: .ref an :: st) S Q = pm_V d 109 100 [l0, l1, l2, l3, l4, l5, l6, l7] (.int (pm_zi S an xi.toNatClampNeg) :: st) S Q := pv_iald (pm_cdi rfl dX7_passes_99) hs
theorem q109_100 : pm_V d 109 100 [l0, l1, l2, l3, l4, l5, l6, l7] (.int yi :: .int xi :: st) S Q = pm_V d 109 101 [l0, l1, l2, l3, l4, l5, l6, l7] (.int (xi + yi) :: st) S Q := pv_iadd (pm_cdi rfl dX7_passes_100)
theorem q109_101 : pm_V d 109 101 [l0, l1, l2, l3, l4, l5, l6, l7] st S Q = pm_V d 109 104 [l0, l1, l2, l3, l4, l5, l6, l7] (.int 1000 :: st) S Q := pv_sipush (pm_cdi rfl dX7_passes_101) (by decide +kernel)
theorem q109_104 : pm_V d 109 104 [l0, l1, l2, .int xi, l4, l5, l6, l7] st S Q = pm_V d 109 105 [l0, l1, l2, .int xi, l4, l5, l6, l7] (.int xi :: st) S Q := pv_iload_n (pm_cdi rfl dX7_passes_104) rfl
theorem q109_105 : pm_V d 109 105 [l0, l1, l2, l3, l4, l5, l6, l7] (.int yi :: .int xi :: st) S Q = pm_V d 109 106 [l0, l1, l2, l3, l4, l5, l6, l7] (.int (xi * yi) :: st) S Q := pv_imul (pm_cdi rfl dX7_passes_105)
theorem q109_106 : pm_V d 109 106 [l0, l1, l2, l3, .int xi, l5, l6, l7] st S Q = pm_V d 109 108 [l0, l1, l2, l3, .int xi, l5, l6, l7] (.int xi :: st) S Q := pv_iload (pm_cdi rfl dX7_passes_106) rfl
theorem q109_108 : pm_V d 109 108 [l0, l1, l2, l3, l4, l5, l6, l7] (.int yi :: .int xi :: st) S Q = pm_V d 109 109 [l0, l1, l2, l3, l4, l5, l6, l7] (.int (xi + yi) :: st) S Q := pv_iadd (pm_cdi rfl dX7_passes_108)
theorem q109_109 (hs : pm_ar S an 0 xi = true) : pm_V d 109 109 [l0, l1, l2, l3, l4, l5, l6, l7] (.int vi :: .int xi :: .ref an :: st) S Q = pm_V d 109 110 [l0, l1, l2, l3, l4, l5, l6, l7] st (pm_szi S an xi.toNatClampNeg vi) Q := pv_iast (pm_cdi rfl dX7_passes_109) hs
theorem q109_110 : pm_V d 109 110 [.ref xn, l1, l2, l3, l4, l5, l6, l7] st S Q = pm_V d 109 111 [.ref xn, l1, l2, l3, l4, l5, l6, l7] (.ref xn :: st) S Q := pv_aload_n (pm_cdi rfl dX7_passes_110) rfl
theorem q109_111 (hs : pm_sh S an = .inr 7) : pm_V d 109 111 [l0, l1, l2, l3, l4, l5, l6, l7] (.ref an :: st) S Q = pm_V d 109 114 [l0, l1, l2, l3, l4, l5, l6, l7] (va_rf (pm_gr S an 20) :: st) S Q := pv_getA (pm_cdi rfl dX7_passes_111) (by decide +kernel) (by decide +kernel) (by decide +kernel) hs
theorem q109_114 : pm_V d 109 114 [l0, l1, l2, l3, l4, l5, l6, l7] st S Q = pm_V d 109 117 [l0, l1, l2, l3, l4, l5, l6, l7] (.int 160 :: st) S Q := pv_sipush (pm_cdi rfl dX7_passes_114) (by decide +kernel)
theorem q109_117 : pm_V d 109 117 [l0, .int xi, l2, l3, l4, l5, l6, l7] st S Q = pm_V d 109 118 [l0, .int xi, l2, l3, l4, l5, l6, l7] (.int xi :: st) S Q := pv_iload_n (pm_cdi rfl dX7_passes_117) rfl
theorem q109_118 : pm_V d 109 118 [l0, l1, l2, l3, l4, l5, l6, l7] (.int yi :: .int xi :: st) S Q = pm_V d 109 119 [l0, l1, l2, l3, l4, l5, l6, l7] (.int (xi * yi) :: st) S Q := pv_imul (pm_cdi rfl dX7_passes_118)
theorem q109_119 : pm_V d 109 119 [.ref xn, l1, l2, l3, l4, l5, l6, l7] st S Q = pm_V d 109 120 [.ref xn, l1, l2, l3, l4, l5, l6, l7] (.ref xn :: st) S Q := pv_aload_n (pm_cdi rfl dX7_passes_119) rfl
theorem q109_120 (hs : pm_sh S an = .inr 7) : pm_V d 109 120 [l0, l1, l2, l3, l4, l5, l6, l7] (.ref an :: st) S Q = pm_V d 109 123 [l0, l1, l2, l3, l4, l5, l6, l7] (va_rf (pm_gr S an 18) :: st) S Q := pv_getA (pm_cdi rfl dX7_passes_120) (by decide +kernel) (by decide +kernel) (by decide +kernel) hs
theorem q109_123 : pm_V d 109 123 [l0, .int xi, l2, l3, l4, l5, l6, l7] st S Q = pm_V d 109 124 [l0, .int xi, l2, l3, l4, l5, l6, l7] (.int xi :: st) S Q := pv_iload_n (pm_cdi rfl dX7_passes_123) rfl
theorem q109_124 (hs : pm_ar S an 0 xi = true) : pm_V d 109 124 [l0, l1, l2, l3, l4, l5, l6, l7] (.int xi :: .ref an :: st) S Q = pm_V d 109 125 [l0, l1, l2, l3, l4, l5, l6, l7] (.int (pm_zi S an xi.toNatClampNeg) :: st) S Q := pv_iald (pm_cdi rfl dX7_passes_124) hs
theorem q109_125 : pm_V d 109 125 [l0, l1, l2, l3, l4, l5, l6, l7] (.int yi :: .int xi :: st) S Q = pm_V d 109 126 [l0, l1, l2, l3, l4, l5, l6, l7] (.int (xi + yi) :: st) S Q := pv_iadd (pm_cdi rfl dX7_passes_125)
theorem q109_126 : pm_V d 109 126 [l0, l1, l2, l3, l4, l5, l6, .int xi] st S Q = pm_V d 109 128 [l0, l1, l2, l3, l4, l5, l6, .int xi] (.int xi :: st) S Q := pv_iload (pm_cdi rfl dX7_passes_126) rfl
theorem q109_128 (hs : pm_ar S an 0 xi = true) : pm_V d 109 128 [l0, l1, l2, l3, l4, l5, l6, l7] (.int vi :: .int xi :: .ref an :: st) S Q = pm_V d 109 129 [l0, l1, l2, l3, l4, l5, l6, l7] st (pm_szi S an xi.toNatClampNeg vi) Q := pv_iast (pm_cdi rfl dX7_passes_128) hs
theorem q109_129 : pm_V d 109 129 [.ref xn, l1, l2, l3, l4, l5, l6, l7] st S Q = pm_V d 109 130 [.ref xn, l1, l2, l3, l4, l5, l6, l7] (.ref xn :: st) S Q := pv_aload_n (pm_cdi rfl dX7_passes_129) rfl
theorem q109_130 (hs : pm_sh S an = .inr 7) : pm_V d 109 130 [l0, l1, l2, l3, l4, l5, l6, l7] (.ref an :: st) S Q = pm_V d 109 133 [l0, l1, l2, l3, l4, l5, l6, l7] (va_rf (pm_gr S an 18) :: st) S Q := pv_getA (pm_cdi rfl dX7_passes_130) (by decide +kernel) (by decide +kernel) (by decide +kernel) hs
theorem q109_133 : pm_V d 109 133 [l0, .int xi, l2, l3, l4, l5, l6, l7] st S Q = pm_V d 109 134 [l0, .int xi, l2, l3, l4, l5, l6, l7] (.int xi :: st) S Q := pv_iload_n (pm_cdi rfl dX7_passes_133) rfl
theorem q109_134 : pm_V d 109 134 [l0, l1, l2, l3, l4, l5, l6, l7] (.int xi :: .ref an :: st) S Q = pm_V d 109 135 [l0, l1, l2, l3, l4, l5, l6, l7] (.int xi :: .ref an :: .int xi :: .ref an :: st) S Q := pv_dup2 (pm_cdi rfl dX7_passes_134)
theorem q109_135 (hs : pm_ar S an 0 xi = true) : pm_V d 109 135 [l0, l1, l2, l3, l4, l5, l6, l7] (.int xi :: .ref an :: st) S Q = pm_V d 109 136 [l0, l1, l2, l3, l4, l5, l6, l7] (.int (pm_zi S an xi.toNatClampNeg) :: st) S Q := pv_iald (pm_cdi rfl dX7_passes_135) hs
theorem q109_136 : pm_V d 109 136 [l0, l1, l2, l3, l4, l5, l6, l7] st S Q = pm_V d 109 137 [l0, l1, l2, l3, l4, l5, l6, l7] (.int 1 :: st) S Q := pv_iconst (pm_cdi rfl dX7_passes_136) (by decide +kernel)
theorem q109_137 : pm_V d 109 137 [l0, l1, l2, l3, l4, l5, l6, l7] (.int yi :: .int xi :: st) S Q = pm_V d 109 138 [l0, l1, l2, l3, l4, l5, l6, l7] (.int (xi + yi) :: st) S Q := pv_iadd (pm_cdi rfl dX7_passes_137)
theorem q109_138 (hs : pm_ar S an 0 xi = true) : pm_V d 109 138 [l0, l1, l2, l3, l4, l5, l6, l7] (.int vi :: .int xi :: .ref an :: st) S Q = pm_V d 109 139 [l0, l1, l2, l3, l4, l5, l6, l7] st (pm_szi S an xi.toNatClampNeg vi) Q := pv_iast (pm_cdi rfl dX7_passes_138) hs
theorem q109_139 : pm_V d 109 139 [l0, l1, l2, l3, l4, l5, l6, l7] st S Q = pm_V d 109 140 [l0, l1, l2, l3, l4, l5, l6, l7] (.int 0 :: st) S Q := pv_iconst (pm_cdi rfl dX7_passes_139) (by decide +kernel)
theorem q109_140 (hx : xi = 0 ∨ xi = 1) : pm_V d 109 140 [l0, l1, l2, l3, l4, l5, l6, l7] [.int xi] S Q = Q (some (.int xi)) S := pv_rZ (pm_cdi rfl dX7_passes_140) (by decide +kernel) hx
theorem q109_e : pm_N d 109 [.ref an, .int v0i, .int v1i, .int v2i, .int v3i, .int v4i] S Q = pm_V d 109 0 [.ref an, .int v0i, .int v1i, .int v2i, .int v3i, .int v4i, pm_j, pm_j] [] S Q := pv_ent (Nat.le_of_ble_eq_true rfl) rfl
/-! 110: ViewsJoinsModel.filter(II)V -/
theorem dX7_filter_0 : decode cX7_filter 0 = .ok (.aload_n 0, 1) := by decide +kernel
theorem dX7_filter_1 : decode cX7_filter 1 = .ok (.iconst 0, 1) := by decide +kernel
theorem dX7_filter_2 : decode cX7_filter 2 = .ok (.putfield 192, 3) := by decide +kernel
theorem dX7_filter_5 : decode cX7_filter 5 = .ok (.aload_n 0, 1) := by decide +kernel
theorem dX7_filter_6 : decode cX7_filter 6 = .ok (.iconst 0, 1) := by decide +kernel
theorem dX7_filter_7 : decode cX7_filter 7 = .ok (.putfield 195, 3) := by decide +kernel
theorem dX7_filter_10 : decode cX7_filter 10 = .ok (.iconst 0, 1) := by decide +kernel
theorem dX7_filter_11 : decode cX7_filter 11 = .ok (.istore_n 3, 1) := by decide +kernel
theorem dX7_filter_12 : decode cX7_filter 12 = .ok (.iload_n 3, 1) := by decide +kernel
theorem dX7_filter_13 : decode cX7_filter 13 = .ok (.aload_n 0, 1) := by decide +kernel
theorem dX7_filter_14 : decode cX7_filter 14 = .ok (.getfield 32, 3) := by decide +kernel
theorem dX7_filter_17 : decode cX7_filter 17 = .ok (.iload_n 2, 1) := by decide +kernel
theorem dX7_filter_18 : decode cX7_filter 18 = .ok (.iaload, 1) := by decide +kernel
theorem dX7_filter_19 : decode cX7_filter 19 = .ok (.if_icmp .ge 59, 3) := by decide +kernel
theorem dX7_filter_22 : decode cX7_filter 22 = .ok (.aload_n 0, 1) := by decide +kernel
theorem dX7_filter_23 : decode cX7_filter 23 = .ok (.getfield 87, 3) := by decide +kernel
theorem dX7_filter_26 : decode cX7_filter 26 = .ok (.iload_n 3, 1) := by decide +kernel
theorem dX7_filter_27 : decode cX7_filter 27 = .ok (.iconst (-1), 1) := by decide +kernel
theorem dX7_filter_28 : decode cX7_filter 28 = .ok (.iastore, 1) := by decide +kernel
theorem dX7_filter_29 : decode cX7_filter 29 = .ok (.aload_n 0, 1) := by decide +kernel
theorem dX7_filter_30 : decode cX7_filter 30 = .ok (.iload_n 1, 1) := by decide +kernel
theorem dX7_filter_31 : decode cX7_filter 31 = .ok (.iload_n 2, 1) := by decide +kernel
theorem dX7_filter_32 : decode cX7_filter 32 = .ok (.iconst 0, 1) := by decide +kernel
theorem dX7_filter_33 : decode cX7_filter 33 = .ok (.iload_n 3, 1) := by decide +kernel
theorem dX7_filter_34 : decode cX7_filter 34 = .ok (.aload_n 0, 1) := by decide +kernel
theorem dX7_filter_35 : decode cX7_filter 35 = .ok (.getfield 16, 3) := by decide +kernel
theorem dX7_filter_38 : decode cX7_filter 38 = .ok (.iload_n 1, 1) := by decide +kernel
theorem dX7_filter_39 : decode cX7_filter 39 = .ok (.iaload, 1) := by decide +kernel
theorem dX7_filter_40 : decode cX7_filter 40 = .ok (.invokevirtual 198, 3) := by decide +kernel
theorem dX7_filter_43 : decode cX7_filter 43 = .ok (.ifCond .eq 29, 3) := by decide +kernel
theorem dX7_filter_46 : decode cX7_filter 46 = .ok (.aload_n 0, 1) := by decide +kernel
theorem dX7_filter_47 : decode cX7_filter 47 = .ok (.getfield 87, 3) := by decide +kernel
theorem dX7_filter_50 : decode cX7_filter 50 = .ok (.iload_n 3, 1) := by decide +kernel
theorem dX7_filter_51 : decode cX7_filter 51 = .ok (.aload_n 0, 1) := by decide +kernel
theorem dX7_filter_52 : decode cX7_filter 52 = .ok (.getfield 32, 3) := by decide +kernel
theorem dX7_filter_55 : decode cX7_filter 55 = .ok (.iload_n 1, 1) := by decide +kernel
theorem dX7_filter_56 : decode cX7_filter 56 = .ok (.iaload, 1) := by decide +kernel
theorem dX7_filter_57 : decode cX7_filter 57 = .ok (.iastore, 1) := by decide +kernel
theorem dX7_filter_58 : decode cX7_filter 58 = .ok (.aload_n 0, 1) := by decide +kernel
theorem dX7_filter_59 : decode cX7_filter 59 = .ok (.iload_n 1, 1) := by decide +kernel
theorem dX7_filter_60 : decode cX7_filter 60 = .ok (.aload_n 0, 1) := by decide +kernel
theorem dX7_filter_61 : decode cX7_filter 61 = .ok (.iload_n 2, 1) := by decide +kernel
theorem dX7_filter_62 : decode cX7_filter 62 = .ok (.iload_n 3, 1) := by decide +kernel
theorem dX7_filter_63 : decode cX7_filter 63 = .ok (.invokevirtual 201, 3) := by decide +kernel
theorem dX7_filter_66 : decode cX7_filter 66 = .ok (.iload_n 3, 1) := by decide +kernel
theorem dX7_filter_67 : decode cX7_filter 67 = .ok (.ldc 139, 2) := by decide +kernel
theorem dX7_filter_69 : decode cX7_filter 69 = .ok (.invokevirtual 205, 3) := by decide +kernel
theorem dX7_filter_72 : decode cX7_filter 72 = .ok (.iinc 3 1, 3) := by decide +kernel
theorem dX7_filter_75 : decode cX7_filter 75 = .ok (.goto (-63), 3) := by decide +kernel
theorem dX7_filter_78 : decode cX7_filter 78 = .ok (.iconst 0, 1) := by decide +kernel
theorem dX7_filter_79 : decode cX7_filter 79 = .ok (.istore_n 3, 1) := by decide +kernel
theorem dX7_filter_80 : decode cX7_filter 80 = .ok (.iload_n 3, 1) := by decide +kernel
theorem dX7_filter_81 : decode cX7_filter 81 = .ok (.aload_n 0, 1) := by decide +kernel
theorem dX7_filter_82 : decode cX7_filter 82 = .ok (.getfield 35, 3) := by decide +kernel
theorem dX7_filter_85 : decode cX7_filter 85 = .ok (.iload_n 2, 1) := by decide +kernel
theorem dX7_filter_86 : decode cX7_filter 86 = .ok (.iaload, 1) := by decide +kernel
theorem dX7_filter_87 : decode cX7_filter 87 = .ok (.if_icmp .ge 80, 3) := by decide +kernel
theorem dX7_filter_90 : decode cX7_filter 90 = .ok (.aload_n 0, 1) := by decide +kernel
theorem dX7_filter_91 : decode cX7_filter 91 = .ok (.getfield 87, 3) := by decide +kernel
theorem dX7_filter_94 : decode cX7_filter 94 = .ok (.aload_n 0, 1) := by decide +kernel
theorem dX7_filter_95 : decode cX7_filter 95 = .ok (.iload_n 2, 1) := by decide +kernel
theorem dX7_filter_96 : decode cX7_filter 96 = .ok (.iload_n 3, 1) := by decide +kernel
theorem dX7_filter_97 : decode cX7_filter 97 = .ok (.invokevirtual 181, 3) := by decide +kernel
theorem dX7_filter_100 : decode cX7_filter 100 = .ok (.iaload, 1) := by decide +kernel
theorem dX7_filter_101 : decode cX7_filter 101 = .ok (.istore 4, 2) := by decide +kernel
theorem dX7_filter_103 : decode cX7_filter 103 = .ok (.aload_n 0, 1) := by decide +kernel
theorem dX7_filter_104 : decode cX7_filter 104 = .ok (.getfield 87, 3) := by decide +kernel
theorem dX7_filter_107 : decode cX7_filter 107 = .ok (.aload_n 0, 1) := by decide +kernel
theorem dX7_filter_108 : decode cX7_filter 108 = .ok (.iload_n 2, 1) := by decide +kernel
theorem dX7_filter_109 : decode cX7_filter 109 = .ok (.iload_n 3, 1) := by decide +kernel
theorem dX7_filter_110 : decode cX7_filter 110 = .ok (.invokevirtual 185, 3) := by decide +kernel
theorem dX7_filter_113 : decode cX7_filter 113 = .ok (.iaload, 1) := by decide +kernel
theorem dX7_filter_114 : decode cX7_filter 114 = .ok (.istore 5, 2) := by decide +kernel
theorem dX7_filter_116 : decode cX7_filter 116 = .ok (.iload 4, 2) := by decide +kernel
theorem dX7_filter_118 : decode cX7_filter 118 = .ok (.ifCond .lt 43, 3) := by decide +kernel
theorem dX7_filter_121 : decode cX7_filter 121 = .ok (.iload 5, 2) := by decide +kernel
theorem dX7_filter_123 : decode cX7_filter 123 = .ok (.ifCond .lt 38, 3) := by decide +kernel
theorem dX7_filter_126 : decode cX7_filter 126 = .ok (.aload_n 0, 1) := by decide +kernel
theorem dX7_filter_127 : decode cX7_filter 127 = .ok (.iload_n 1, 1) := by decide +kernel
theorem dX7_filter_128 : decode cX7_filter 128 = .ok (.iload_n 2, 1) := by decide +kernel
theorem dX7_filter_129 : decode cX7_filter 129 = .ok (.iconst 1, 1) := by decide +kernel
theorem dX7_filter_130 : decode cX7_filter 130 = .ok (.iload_n 3, 1) := by decide +kernel
theorem dX7_filter_131 : decode cX7_filter 131 = .ok (.aload_n 0, 1) := by decide +kernel
theorem dX7_filter_132 : decode cX7_filter 132 = .ok (.getfield 19, 3) := by decide +kernel
theorem dX7_filter_135 : decode cX7_filter 135 = .ok (.iload_n 1, 1) := by decide +kernel
theorem dX7_filter_136 : decode cX7_filter 136 = .ok (.iaload, 1) := by decide +kernel
theorem dX7_filter_137 : decode cX7_filter 137 = .ok (.invokevirtual 198, 3) := by decide +kernel
theorem dX7_filter_140 : decode cX7_filter 140 = .ok (.ifCond .eq 21, 3) := by decide +kernel
theorem dX7_filter_143 : decode cX7_filter 143 = .ok (.aload_n 0, 1) := by decide +kernel
theorem dX7_filter_144 : decode cX7_filter 144 = .ok (.iload_n 1, 1) := by decide +kernel
theorem dX7_filter_145 : decode cX7_filter 145 = .ok (.iload 4, 2) := by decide +kernel
theorem dX7_filter_147 : decode cX7_filter 147 = .ok (.iload 5, 2) := by decide +kernel
theorem dX7_filter_149 : decode cX7_filter 149 = .ok (.aload_n 0, 1) := by decide +kernel
theorem dX7_filter_150 : decode cX7_filter 150 = .ok (.iload_n 2, 1) := by decide +kernel
theorem dX7_filter_151 : decode cX7_filter 151 = .ok (.iload_n 3, 1) := by decide +kernel
theorem dX7_filter_152 : decode cX7_filter 152 = .ok (.invokevirtual 209, 3) := by decide +kernel
theorem dX7_filter_155 : decode cX7_filter 155 = .ok (.iload_n 3, 1) := by decide +kernel
theorem dX7_filter_156 : decode cX7_filter 156 = .ok (.ldc 139, 2) := by decide +kernel
theorem dX7_filter_158 : decode cX7_filter 158 = .ok (.invokevirtual 140, 3) := by decide +kernel
theorem dX7_filter_161 : decode cX7_filter 161 = .ok (.iinc 3 1, 3) := by decide +kernel
theorem dX7_filter_164 : decode cX7_filter 164 = .ok (.goto (-84), 3) := by decide +kernel
theorem dX7_filter_167 : decode cX7_filter 167 = .ok (.return_, 1) := by decide +kernel
theorem q110_0 : pm_V d 110 0 [.ref xn, l1, l2, l3, l4, l5] st S Q = pm_V d 110 1 [.ref xn, l1, l2, l3, l4, l5] (.ref xn :: st) S Q := pv_aload_n (pm_cdi rfl dX7_filter_0) rfl
theorem q110_1 : pm_V d 110 1 [l0, l1, l2, l3, l4, l5] st S Q = pm_V d 110 2 [l0, l1, l2, l3, l4, l5] (.int 0 :: st) S Q := pv_iconst (pm_cdi rfl dX7_filter_1) (by decide +kernel)
theorem q110_2 (hs : pm_sh S an = .inr 7) : pm_V d 110 2 [l0, l1, l2, l3, l4, l5] (.int xi :: .ref an :: st) S Q = pm_V d 110 5 [l0, l1, l2, l3, l4, l5] st (pm_sgi S an 29 xi) Q := pv_putI (pm_cdi rfl dX7_filter_2) (by decide +kernel) (by decide +kernel) (by decide +kernel) hs
theorem q110_5 : pm_V d 110 5 [.ref xn, l1, l2, l3, l4, l5] st S Q = pm_V d 110 6 [.ref xn, l1, l2, l3, l4, l5] (.ref xn :: st) S Q := pv_aload_n (pm_cdi rfl dX7_filter_5) rfl
theorem q110_6 : pm_V d 110 6 [l0, l1, l2, l3, l4, l5] st S Q = pm_V d 110 7 [l0, l1, l2, l3, l4, l5] (.int 0 :: st) S Q := pv_iconst (pm_cdi rfl dX7_filter_6) (by decide +kernel)
theorem q110_7 (hs : pm_sh S an = .inr 7) : pm_V d 110 7 [l0, l1, l2, l3, l4, l5] (.int xi :: .ref an :: st) S Q = pm_V d 110 10 [l0, l1, l2, l3, l4, l5] st (pm_sgi S an 30 xi) Q := pv_putI (pm_cdi rfl dX7_filter_7) (by decide +kernel) (by decide +kernel) (by decide +kernel) hs
theorem q110_10 : pm_V d 110 10 [l0, l1, l2, l3, l4, l5] st S Q = pm_V d 110 11 [l0, l1, l2, l3, l4, l5] (.int 0 :: st) S Q := pv_iconst (pm_cdi rfl dX7_filter_10) (by decide +kernel)
theorem q110_11 : pm_V d 110 11 [l0, l1, .int yi, l3, l4, l5] (.int xi :: st) S Q = pm_V d 110 12 [l0, l1, .int yi, .int xi, l4, l5] st S Q := pv_istore_n (pm_cdi rfl dX7_filter_11) rfl
theorem q110_12 : pm_V d 110 12 [l0, l1, l2, .int xi, l4, l5] st S Q = pm_V d 110 13 [l0, l1, l2, .int xi, l4, l5] (.int xi :: st) S Q := pv_iload_n (pm_cdi rfl dX7_filter_12) rfl
theorem q110_13 : pm_V d 110 13 [.ref xn, l1, l2, l3, l4, l5] st S Q = pm_V d 110 14 [.ref xn, l1, l2, l3, l4, l5] (.ref xn :: st) S Q := pv_aload_n (pm_cdi rfl dX7_filter_13) rfl
theorem q110_14 (hs : pm_sh S an = .inr 7) : pm_V d 110 14 [l0, l1, l2, l3, l4, l5] (.ref an :: st) S Q = pm_V d 110 17 [l0, l1, l2, l3, l4, l5] (va_rf (pm_gr S an 8) :: st) S Q := pv_getA (pm_cdi rfl dX7_filter_14) (by decide +kernel) (by decide +kernel) (by decide +kernel) hs
theorem q110_17 : pm_V d 110 17 [l0, l1, .int xi, l3, l4, l5] st S Q = pm_V d 110 18 [l0, l1, .int xi, l3, l4, l5] (.int xi :: st) S Q := pv_iload_n (pm_cdi rfl dX7_filter_17) rfl
theorem q110_18 (hs : pm_ar S an 0 xi = true) : pm_V d 110 18 [l0, l1, l2, l3, l4, l5] (.int xi :: .ref an :: st) S Q = pm_V d 110 19 [l0, l1, l2, l3, l4, l5] (.int (pm_zi S an xi.toNatClampNeg) :: st) S Q := pv_iald (pm_cdi rfl dX7_filter_18) hs
theorem q110_19 : pm_V d 110 19 [l0, l1, l2, l3, l4, l5] (.int yi :: .int xi :: st) S Q = if xi < yi then pm_V d 110 22 [l0, l1, l2, l3, l4, l5] st S Q else pm_V d 110 78 [l0, l1, l2, l3, l4, l5] st S Q := pv_icmp_ge (pm_cdi rfl dX7_filter_19) rfl
theorem q110_22 : pm_V d 110 22 [.ref xn, l1, l2, l3, l4, l5] st S Q = pm_V d 110 23 [.ref xn, l1, l2, l3, l4, l5] (.ref xn :: st) S Q := pv_aload_n (pm_cdi rfl dX7_filter_22) rfl
theorem q110_23 (hs : pm_sh S an = .inr 7) : pm_V d 110 23 [l0, l1, l2, l3, l4, l5] (.ref an :: st) S Q = pm_V d 110 26 [l0, l1, l2, l3, l4, l5] (va_rf (pm_gr S an 28) :: st) S Q := pv_getA (pm_cdi rfl dX7_filter_23) (by decide +kernel) (by decide +kernel) (by decide +kernel) hs
theorem q110_26 : pm_V d 110 26 [l0, l1, l2, .int xi, l4, l5] st S Q = pm_V d 110 27 [l0, l1, l2, .int xi, l4, l5] (.int xi :: st) S Q := pv_iload_n (pm_cdi rfl dX7_filter_26) rfl
theorem q110_27 : pm_V d 110 27 [l0, l1, l2, l3, l4, l5] st S Q = pm_V d 110 28 [l0, l1, l2, l3, l4, l5] (.int (-1) :: st) S Q := pv_iconst (pm_cdi rfl dX7_filter_27) (by decide +kernel)
theorem q110_28 (hs : pm_ar S an 0 xi = true) : pm_V d 110 28 [l0, l1, l2, l3, l4, l5] (.int vi :: .int xi :: .ref an :: st) S Q = pm_V d 110 29 [l0, l1, l2, l3, l4, l5] st (pm_szi S an xi.toNatClampNeg vi) Q := pv_iast (pm_cdi rfl dX7_filter_28) hs
theorem q110_29 : pm_V d 110 29 [.ref xn, l1, l2, l3, l4, l5] st S Q = pm_V d 110 30 [.ref xn, l1, l2, l3, l4, l5] (.ref xn :: st) S Q := pv_aload_n (pm_cdi rfl dX7_filter_29) rfl
theorem q110_30 : pm_V d 110 30 [l0, .int xi, l2, l3, l4, l5] st S Q = pm_V d 110 31 [l0, .int xi, l2, l3, l4, l5] (.int xi :: st) S Q := pv_iload_n (pm_cdi rfl dX7_filter_30) rfl
theorem q110_31 : pm_V d 110 31 [l0, l1, .int xi, l3, l4, l5] st S Q = pm_V d 110 32 [l0, l1, .int xi, l3, l4, l5] (.int xi :: st) S Q := pv_iload_n (pm_cdi rfl dX7_filter_31) rfl
theorem q110_32 : pm_V d 110 32 [l0, l1, l2, l3, l4, l5] st S Q = pm_V d 110 33 [l0, l1, l2, l3, l4, l5] (.int 0 :: st) S Q := pv_iconst (pm_cdi rfl dX7_filter_32) (by decide +kernel)
theorem q110_33 : pm_V d 110 33 [l0, l1, l2, .int xi, l4, l5] st S Q = pm_V d 110 34 [l0, l1, l2, .int xi, l4, l5] (.int xi :: st) S Q := pv_iload_n (pm_cdi rfl dX7_filter_33) rfl
theorem q110_34 : pm_V d 110 34 [.ref xn, l1, l2, l3, l4, l5] st S Q = pm_V d 110 35 [.ref xn, l1, l2, l3, l4, l5] (.ref xn :: st) S Q := pv_aload_n (pm_cdi rfl dX7_filter_34) rfl
theorem q110_35 (hs : pm_sh S an = .inr 7) : pm_V d 110 35 [l0, l1, l2, l3, l4, l5] (.ref an :: st) S Q = pm_V d 110 38 [l0, l1, l2, l3, l4, l5] (va_rf (pm_gr S an 3) :: st) S Q := pv_getA (pm_cdi rfl dX7_filter_35) (by decide +kernel) (by decide +kernel) (by decide +kernel) hs
theorem q110_38 : pm_V d 110 38 [l0, .int xi, l2, l3, l4, l5] st S Q = pm_V d 110 39 [l0, .int xi, l2, l3, l4, l5] (.int xi :: st) S Q := pv_iload_n (pm_cdi rfl dX7_filter_38) rfl
theorem q110_39 (hs : pm_ar S an 0 xi = true) : pm_V d 110 39 [l0, l1, l2, l3, l4, l5] (.int xi :: .ref an :: st) S Q = pm_V d 110 40 [l0, l1, l2, l3, l4, l5] (.int (pm_zi S an xi.toNatClampNeg) :: st) S Q := pv_iald (pm_cdi rfl dX7_filter_39) hs
theorem q110_40 (hs : pm_sh S an = .inr 7) : pm_V (d + 1) 110 40 [l0, l1, l2, l3, l4, l5] [.int v4i, .int v3i, .int v2i, .int v1i, .int v0i, .ref an] S Q = pm_N d 109 [.ref an, .int v0i, .int v1i, .int v2i, .int v3i, .int v4i] S (fun r S' => pm_V (d + 1) 110 43 [l0, l1, l2, l3, l4, l5] (r.toList ++ []) S' Q) := pv_callV (as := [.int v0i, .int v1i, .int v2i, .int v3i, .int v4i]) (pm_cdi rfl dX7_filter_40) (Or.inl (by decide +kernel)) (by decide +kernel) (show _ = _ from (by decide +kernel : 5 = pm_np 109)) rfl (Nat.le_of_ble_eq_true rfl) (cl := 7) (by decide +kernel) hs
theorem q110_43 : pm_V d 110 43 [l0, l1, l2, l3, l4, l5] (.int xi :: st) S Q = if xi = 0 then pm_V d 110 72 [l0, l1, l2, l3, l4, l5] st S Q else pm_V d 110 46 [l0, l1, l2, l3, l4, l5] st S Q := pv_if_eq (pm_cdi rfl dX7_filter_43) rfl
theorem q110_46 : pm_V d 110 46 [.ref xn, l1, l2, l3, l4, l5] st S Q = pm_V d 110 47 [.ref xn, l1, l2, l3, l4, l5] (.ref xn :: st) S Q := pv_aload_n (pm_cdi rfl dX7_filter_46) rfl
theorem q110_47 (hs : pm_sh S an = .inr 7) : pm_V d 110 47 [l0, l1, l2, l3, l4, l5] (.ref an :: st) S Q = pm_V d 110 50 [l0, l1, l2, l3, l4, l5] (va_rf (pm_gr S an 28) :: st) S Q := pv_getA (pm_cdi rfl dX7_filter_47) (by decide +kernel) (by decide +kernel) (by decide +kernel) hs
theorem q110_50 : pm_V d 110 50 [l0, l1, l2, .int xi, l4, l5] st S Q = pm_V d 110 51 [l0, l1, l2, .int xi, l4, l5] (.int xi :: st) S Q := pv_iload_n (pm_cdi rfl dX7_filter_50) rfl
theorem q110_51 : pm_V d 110 51 [.ref xn, l1, l2, l3, l4, l5] st S Q = pm_V d 110 52 [.ref xn, l1, l2, l3, l4, l5] (.ref xn :: st) S Q := pv_aload_n (pm_cdi rfl dX7_filter_51) rfl
theorem q110_52 (hs : pm_sh S an = .inr 7) : pm_V d 110 52 [l0, l1, l2, l3, l4, l5] (.ref an :: st) S Q = pm_V d 110 55 [l0, l1, l2, l3, l4, l5] (va_rf (pm_gr S an 8) :: st) S Q := pv_getA (pm_cdi rfl dX7_filter_52) (by decide +kernel) (by decide +kernel) (by decide +kernel) hs
theorem q110_55 : pm_V d 110 55 [l0, .int xi, l2, l3, l4, l5] st S Q = pm_V d 110 56 [l0, .int xi, l2, l3, l4, l5] (.int xi :: st) S Q := pv_iload_n (pm_cdi rfl dX7_filter_55) rfl
theorem q110_56 (hs : pm_ar S an 0 xi = true) : pm_V d 110 56 [l0, l1, l2, l3, l4, l5] (.int xi :: .ref an :: st) S Q = pm_V d 110 57 [l0, l1, l2, l3, l4, l5] (.int (pm_zi S an xi.toNatClampNeg) :: st) S Q := pv_iald (pm_cdi rfl dX7_filter_56) hs
theorem q110_57 (hs : pm_ar S an 0 xi = true) : pm_V d 110 57 [l0, l1, l2, l3, l4, l5] (.int vi :: .int xi :: .ref an :: st) S Q = pm_V d 110 58 [l0, l1, l2, l3, l4, l5] st (pm_szi S an xi.toNatClampNeg vi) Q := pv_iast (pm_cdi rfl dX7_filter_57) hs
theorem q110_58 : pm_V d 110 58 [.ref xn, l1, l2, l3, l4, l5] st S Q = pm_V d 110 59 [.ref xn, l1, l2, l3, l4, l5] (.ref xn :: st) S Q := pv_aload_n (pm_cdi rfl dX7_filter_58) rfl
theorem q110_59 : pm_V d 110 59 [l0, .int xi, l2, l3, l4, l5] st S Q = pm_V d 110 60 [l0, .int xi, l2, l3, l4, l5] (.int xi :: st) S Q := pv_iload_n (pm_cdi rfl dX7_filter_59) rfl
theorem q110_60 : pm_V d 110 60 [.ref xn, l1, l2, l3, l4, l5] st S Q = pm_V d 110 61 [.ref xn, l1, l2, l3, l4, l5] (.ref xn :: st) S Q := pv_aload_n (pm_cdi rfl dX7_filter_60) rfl
theorem q110_61 : pm_V d 110 61 [l0, l1, .int xi, l3, l4, l5] st S Q = pm_V d 110 62 [l0, l1, .int xi, l3, l4, l5] (.int xi :: st) S Q := pv_iload_n (pm_cdi rfl dX7_filter_61) rfl
theorem q110_62 : pm_V d 110 62 [l0, l1, l2, .int xi, l4, l5] st S Q = pm_V d 110 63 [l0, l1, l2, .int xi, l4, l5] (.int xi :: st) S Q := pv_iload_n (pm_cdi rfl dX7_filter_62) rfl
theorem q110_63 (hs : pm_sh S an = .inr 7) : pm_V (d + 1) 110 63 [l0, l1, l2, l3, l4, l5] [.int v1i, .int v0i, .ref an, .int r0i, .ref r1n] S Q = pm_N d 106 [.ref an, .int v0i, .int v1i] S (fun r S' => pm_V (d + 1) 110 66 [l0, l1, l2, l3, l4, l5] (r.toList ++ [.int r0i, .ref r1n]) S' Q) := pv_callV (as := [.int v0i, .int v1i]) (pm_cdi rfl dX7_filter_63) (Or.inl (by decide +kernel)) (by decide +kernel) (show _ = _ from (by decide +kernel : 2 = pm_np 106)) rfl (Nat.le_of_ble_eq_true rfl) (cl := 7) (by decide +kernel) hs
theorem q110_66 : pm_V d 110 66 [l0, l1, l2, .int xi, l4, l5] st S Q = pm_V d 110 67 [l0, l1, l2, .int xi, l4, l5] (.int xi :: st) S Q := pv_iload_n (pm_cdi rfl dX7_filter_66) rfl
theorem q110_67 : pm_V d 110 67 [l0, l1, l2, l3, l4, l5] st S Q = pm_V d 110 69 [l0, l1, l2, l3, l4, l5] (.int (-1000004) :: st) S Q := pv_ldc (pm_cdi rfl dX7_filter_67) (by decide +kernel)
theorem q110_69 (hs : pm_sh S an = .inr 7) : pm_V (d + 1) 110 69 [l0, l1, l2, l3, l4, l5] [.int v3i, .int v2i, .long v1j, .int v0i, .ref an] S Q = pm_N d 102 [.ref an, .int v0i, .long v1j, .int v2i, .int v3i] S (fun r S' => pm_V (d + 1) 110 72 [l0, l1, l2, l3, l4, l5] (r.toList ++ []) S' Q) := pv_callV (as := [.int v0i, .long v1j, .int v2i, .int v3i]) (pm_cdi rfl dX7_filter_69) (Or.inl (by decide +kernel)) (by decide +kernel) (show _ = _ from (by decide +kernel : 4 = pm_np 102)) rfl (Nat.le_of_ble_eq_true rfl) (cl := 7) (by decide +kernel) hs
theorem q110_72 : pm_V d 110 72 [l0, l1, .int yi, .int xi, l4, l5] st S Q = pm_V d 110 75 [l0, l1, .int yi, .int (xi + 1), l4, l5] st S Q := pv_iinc (pm_cdi rfl dX7_filter_72) rfl (by decide +kernel) rfl
theorem q110_75 : pm_V d 110 75 [l0, l1, l2, l3, l4, l5] st S Q = pm_V d 110 12 [l0, l1, l2, l3, l4, l5] st S Q := pv_goto (pm_cdi rfl dX7_filter_75) rfl
theorem q110_78 : pm_V d 110 78 [l0, l1, l2, l3, l4, l5] st S Q = pm_V d 110 79 [l0, l1, l2, l3, l4, l5] (.int 0 :: st) S Q := pv_iconst (pm_cdi rfl dX7_filter_78) (by decide +kernel)
theorem q110_79 : pm_V d 110 79 [l0, l1, .int yi, l3, l4, l5] (.int xi :: st) S Q = pm_V d 110 80 [l0, l1, .int yi, .int xi, l4, l5] st S Q := pv_istore_n (pm_cdi rfl dX7_filter_79) rfl
theorem q110_80 : pm_V d 110 80 [l0, l1, l2, .int xi, l4, l5] st S Q = pm_V d 110 81 [l0, l1, l2, .int xi, l4, l5] (.int xi :: st) S Q := pv_iload_n (pm_cdi rfl dX7_filter_80) rfl
theorem q110_81 : pm_V d 110 81 [.ref xn, l1, l2, l3, l4, l5] st S Q = pm_V d 110 82 [.ref xn, l1, l2, l3, l4, l5] (.ref xn :: st) S Q := pv_aload_n (pm_cdi rfl dX7_filter_81) rfl
theorem q110_82 (hs : pm_sh S an = .inr 7) : pm_V d 110 82 [l0, l1, l2, l3, l4, l5] (.ref an :: st) S Q = pm_V d 110 85 [l0, l1, l2, l3, l4, l5] (va_rf (pm_gr S an 9) :: st) S Q := pv_getA (pm_cdi rfl dX7_filter_82) (by decide +kernel) (by decide +kernel) (by decide +kernel) hs
theorem q110_85 : pm_V d 110 85 [l0, l1, .int xi, l3, l4, l5] st S Q = pm_V d 110 86 [l0, l1, .int xi, l3, l4, l5] (.int xi :: st) S Q := pv_iload_n (pm_cdi rfl dX7_filter_85) rfl
theorem q110_86 (hs : pm_ar S an 0 xi = true) : pm_V d 110 86 [l0, l1, l2, l3, l4, l5] (.int xi :: .ref an :: st) S Q = pm_V d 110 87 [l0, l1, l2, l3, l4, l5] (.int (pm_zi S an xi.toNatClampNeg) :: st) S Q := pv_iald (pm_cdi rfl dX7_filter_86) hs
theorem q110_87 : pm_V d 110 87 [l0, l1, l2, l3, l4, l5] (.int yi :: .int xi :: st) S Q = if xi < yi then pm_V d 110 90 [l0, l1, l2, l3, l4, l5] st S Q else pm_V d 110 167 [l0, l1, l2, l3, l4, l5] st S Q := pv_icmp_ge (pm_cdi rfl dX7_filter_87) rfl
theorem q110_90 : pm_V d 110 90 [.ref xn, l1, l2, l3, l4, l5] st S Q = pm_V d 110 91 [.ref xn, l1, l2, l3, l4, l5] (.ref xn :: st) S Q := pv_aload_n (pm_cdi rfl dX7_filter_90) rfl
theorem q110_91 (hs : pm_sh S an = .inr 7) : pm_V d 110 91 [l0, l1, l2, l3, l4, l5] (.ref an :: st) S Q = pm_V d 110 94 [l0, l1, l2, l3, l4, l5] (va_rf (pm_gr S an 28) :: st) S Q := pv_getA (pm_cdi rfl dX7_filter_91) (by decide +kernel) (by decide +kernel) (by decide +kernel) hs
theorem q110_94 : pm_V d 110 94 [.ref xn, l1, l2, l3, l4, l5] st S Q = pm_V d 110 95 [.ref xn, l1, l2, l3, l4, l5] (.ref xn :: st) S Q := pv_aload_n (pm_cdi rfl dX7_filter_94) rfl
theorem q110_95 : pm_V d 110 95 [l0, l1, .int xi, l3, l4, l5] st S Q = pm_V d 110 96 [l0, l1, .int xi, l3, l4, l5] (.int xi :: st) S Q := pv_iload_n (pm_cdi rfl dX7_filter_95) rfl
theorem q110_96 : pm_V d 110 96 [l0, l1, l2, .int xi, l4, l5] st S Q = pm_V d 110 97 [l0, l1, l2, .int xi, l4, l5] (.int xi :: st) S Q := pv_iload_n (pm_cdi rfl dX7_filter_96) rfl
theorem q110_97 (hs : pm_sh S an = .inr 7) : pm_V (d + 1) 110 97 [l0, l1, l2, l3, l4, l5] [.int v1i, .int v0i, .ref an, .ref r0n] S Q = pm_N d 104 [.ref an, .int v0i, .int v1i] S (fun r S' => pm_V (d + 1) 110 100 [l0, l1, l2, l3, l4, l5] (r.toList ++ [.ref r0n]) S' Q) := pv_callV (as := [.int v0i, .int v1i]) (pm_cdi rfl dX7_filter_97) (Or.inl (by decide +kernel)) (by decide +kernel) (show _ = _ from (by decide +kernel : 2 = pm_np 104)) rfl (Nat.le_of_ble_eq_true rfl) (cl := 7) (by decide +kernel) hs
theorem q110_100 (hs : pm_ar S an 0 xi = true) : pm_V d 110 100 [l0, l1, l2, l3, l4, l5] (.int xi :: .ref an :: st) S Q = pm_V d 110 101 [l0, l1, l2, l3, l4, l5] (.int (pm_zi S an xi.toNatClampNeg) :: st) S Q := pv_iald (pm_cdi rfl dX7_filter_100) hs
theorem q110_101 : pm_V d 110 101 [l0, l1, l2, .int yi, l4, l5] (.int xi :: st) S Q = pm_V d 110 103 [l0, l1, l2, .int yi, .int xi, l5] st S Q := pv_istore (pm_cdi rfl dX7_filter_101) rfl
theorem q110_103 : pm_V d 110 103 [.ref xn, l1, l2, l3, l4, l5] st S Q = pm_V d 110 104 [.ref xn, l1, l2, l3, l4, l5] (.ref xn :: st) S Q := pv_aload_n (pm_cdi rfl dX7_filter_103) rfl
theorem q110_104 (hs : pm_sh S an = .inr 7) : pm_V d 110 104 [l0, l1, l2, l3, l4, l5] (.ref an :: st) S Q = pm_V d 110 107 [l0, l1, l2, l3, l4, l5] (va_rf (pm_gr S an 28) :: st) S Q := pv_getA (pm_cdi rfl dX7_filter_104) (by decide +kernel) (by decide +kernel) (by decide +kernel) hs
theorem q110_107 : pm_V d 110 107 [.ref xn, l1, l2, l3, l4, l5] st S Q = pm_V d 110 108 [.ref xn, l1, l2, l3, l4, l5] (.ref xn :: st) S Q := pv_aload_n (pm_cdi rfl dX7_filter_107) rfl
theorem q110_108 : pm_V d 110 108 [l0, l1, .int xi, l3, l4, l5] st S Q = pm_V d 110 109 [l0, l1, .int xi, l3, l4, l5] (.int xi :: st) S Q := pv_iload_n (pm_cdi rfl dX7_filter_108) rfl
theorem q110_109 : pm_V d 110 109 [l0, l1, l2, .int xi, l4, l5] st S Q = pm_V d 110 110 [l0, l1, l2, .int xi, l4, l5] (.int xi :: st) S Q := pv_iload_n (pm_cdi rfl dX7_filter_109) rfl
theorem q110_110 (hs : pm_sh S an = .inr 7) : pm_V (d + 1) 110 110 [l0, l1, l2, l3, l4, l5] [.int v1i, .int v0i, .ref an, .ref r0n] S Q = pm_N d 105 [.ref an, .int v0i, .int v1i] S (fun r S' => pm_V (d + 1) 110 113 [l0, l1, l2, l3, l4, l5] (r.toList ++ [.ref r0n]) S' Q) := pv_callV (as := [.int v0i, .int v1i]) (pm_cdi rfl dX7_filter_110) (Or.inl (by decide +kernel)) (by decide +kernel) (show _ = _ from (by decide +kernel : 2 = pm_np 105)) rfl (Nat.le_of_ble_eq_true rfl) (cl := 7) (by decide +kernel) hs
theorem q110_113 (hs : pm_ar S an 0 xi = true) : pm_V d 110 113 [l0, l1, l2, l3, l4, l5] (.int xi :: .ref an :: st) S Q = pm_V d 110 114 [l0, l1, l2, l3, l4, l5] (.int (pm_zi S an xi.toNatClampNeg) :: st) S Q := pv_iald (pm_cdi rfl dX7_filter_113) hs
theorem q110_114 : pm_V d 110 114 [l0, l1, l2, l3, .int yi, l5] (.int xi :: st) S Q = pm_V d 110 116 [l0, l1, l2, l3, .int yi, .int xi] st S Q := pv_istore (pm_cdi rfl dX7_filter_114) rfl
theorem q110_116 : pm_V d 110 116 [l0, l1, l2, l3, .int xi, l5] st S Q = pm_V d 110 118 [l0, l1, l2, l3, .int xi, l5] (.int xi :: st) S Q := pv_iload (pm_cdi rfl dX7_filter_116) rfl
theorem q110_118 : pm_V d 110 118 [l0, l1, l2, l3, l4, l5] (.int xi :: st) S Q = if xi < 0 then pm_V d 110 161 [l0, l1, l2, l3, l4, l5] st S Q else pm_V d 110 121 [l0, l1, l2, l3, l4, l5] st S Q := pv_if_lt (pm_cdi rfl dX7_filter_118) rfl
theorem q110_121 : pm_V d 110 121 [l0, l1, l2, l3, l4, .int xi] st S Q = pm_V d 110 123 [l0, l1, l2, l3, l4, .int xi] (.int xi :: st) S Q := pv_iload (pm_cdi rfl dX7_filter_121) rfl
theorem q110_123 : pm_V d 110 123 [l0, l1, l2, l3, l4, l5] (.int xi :: st) S Q = if xi < 0 then pm_V d 110 161 [l0, l1, l2, l3, l4, l5] st S Q else pm_V d 110 126 [l0, l1, l2, l3, l4, l5] st S Q := pv_if_lt (pm_cdi rfl dX7_filter_123) rfl
theorem q110_126 : pm_V d 110 126 [.ref xn, l1, l2, l3, l4, l5] st S Q = pm_V d 110 127 [.ref xn, l1, l2, l3, l4, l5] (.ref xn :: st) S Q := pv_aload_n (pm_cdi rfl dX7_filter_126) rfl
theorem q110_127 : pm_V d 110 127 [l0, .int xi, l2, l3, l4, l5] st S Q = pm_V d 110 128 [l0, .int xi, l2, l3, l4, l5] (.int xi :: st) S Q := pv_iload_n (pm_cdi rfl dX7_filter_127) rfl
theorem q110_128 : pm_V d 110 128 [l0, l1, .int xi, l3, l4, l5] st S Q = pm_V d 110 129 [l0, l1, .int xi, l3, l4, l5] (.int xi :: st) S Q := pv_iload_n (pm_cdi rfl dX7_filter_128) rfl
theorem q110_129 : pm_V d 110 129 [l0, l1, l2, l3, l4, l5] st S Q = pm_V d 110 130 [l0, l1, l2, l3, l4, l5] (.int 1 :: st) S Q := pv_iconst (pm_cdi rfl dX7_filter_129) (by decide +kernel)
theorem q110_130 : pm_V d 110 130 [l0, l1, l2, .int xi, l4, l5] st S Q = pm_V d 110 131 [l0, l1, l2, .int xi, l4, l5] (.int xi :: st) S Q := pv_iload_n (pm_cdi rfl dX7_filter_130) rfl
theorem q110_131 : pm_V d 110 131 [.ref xn, l1, l2, l3, l4, l5] st S Q = pm_V d 110 132 [.ref xn, l1, l2, l3, l4, l5] (.ref xn :: st) S Q := pv_aload_n (pm_cdi rfl dX7_filter_131) rfl
theorem q110_132 (hs : pm_sh S an = .inr 7) : pm_V d 110 132 [l0, l1, l2, l3, l4, l5] (.ref an :: st) S Q = pm_V d 110 135 [l0, l1, l2, l3, l4, l5] (va_rf (pm_gr S an 4) :: st) S Q := pv_getA (pm_cdi rfl dX7_filter_132) (by decide +kernel) (by decide +kernel) (by decide +kernel) hs
theorem q110_135 : pm_V d 110 135 [l0, .int xi, l2, l3, l4, l5] st S Q = pm_V d 110 136 [l0, .int xi, l2, l3, l4, l5] (.int xi :: st) S Q := pv_iload_n (pm_cdi rfl dX7_filter_135) rfl
theorem q110_136 (hs : pm_ar S an 0 xi = true) : pm_V d 110 136 [l0, l1, l2, l3, l4, l5] (.int xi :: .ref an :: st) S Q = pm_V d 110 137 [l0, l1, l2, l3, l4, l5] (.int (pm_zi S an xi.toNatClampNeg) :: st) S Q := pv_iald (pm_cdi rfl dX7_filter_136) hs
theorem q110_137 (hs : pm_sh S an = .inr 7) : pm_V (d + 1) 110 137 [l0, l1, l2, l3, l4, l5] [.int v4i, .int v3i, .int v2i, .int v1i, .int v0i, .ref an] S Q = pm_N d 109 [.ref an, .int v0i, .int v1i, .int v2i, .int v3i, .int v4i] S (fun r S' => pm_V (d + 1) 110 140 [l0, l1, l2, l3, l4, l5] (r.toList ++ []) S' Q) := pv_callV (as := [.int v0i, .int v1i, .int v2i, .int v3i, .int v4i]) (pm_cdi rfl dX7_filter_137) (Or.inl (by decide +kernel)) (by decide +kernel) (show _ = _ from (by decide +kernel : 5 = pm_np 109)) rfl (Nat.le_of_ble_eq_true rfl) (cl := 7) (by decide +kernel) hs
theorem q110_140 : pm_V d 110 140 [l0, l1, l2, l3, l4, l5] (.int xi :: st) S Q = if xi = 0 then pm_V d 110 161 [l0, l1, l2, l3, l4, l5] st S Q else pm_V d 110 143 [l0, l1, l2, l3, l4, l5] st S Q := pv_if_eq (pm_cdi rfl dX7_filter_140) rfl
theorem q110_143 : pm_V d 110 143 [.ref xn, l1, l2, l3, l4, l5] st S Q = pm_V d 110 144 [.ref xn, l1, l2, l3, l4, l5] (.ref xn :: st) S Q := pv_aload_n (pm_cdi rfl dX7_filter_143) rfl
theorem q110_144 : pm_V d 110 144 [l0, .int xi, l2, l3, l4, l5] st S Q = pm_V d 110 145 [l0, .int xi, l2, l3, l4, l5] (.int xi :: st) S Q := pv_iload_n (pm_cdi rfl dX7_filter_144) rfl
theorem q110_145 : pm_V d 110 145 [l0, l1, l2, l3, .int xi, l5] st S Q = pm_V d 110 147 [l0, l1, l2, l3, .int xi, l5] (.int xi :: st) S Q := pv_iload (pm_cdi rfl dX7_filter_145) rfl
theorem q110_147 : pm_V d 110 147 [l0, l1, l2, l3, l4, .int xi] st S Q = pm_V d 110 149 [l0, l1, l2, l3, l4, .int xi] (.int xi :: st) S Q := pv_iload (pm_cdi rfl dX7_filter_147) rfl
theorem q110_149 : pm_V d 110 149 [.ref xn, l1, l2, l3, l4, l5] st S Q = pm_V d 110 150 [.ref xn, l1, l2, l3, l4, l5] (.ref xn :: st) S Q := pv_aload_n (pm_cdi rfl dX7_filter_149) rfl
theorem q110_150 : pm_V d 110 150 [l0, l1, .int xi, l3, l4, l5] st S Q = pm_V d 110 151 [l0, l1, .int xi, l3, l4, l5] (.int xi :: st) S Q := pv_iload_n (pm_cdi rfl dX7_filter_150) rfl
theorem q110_151 : pm_V d 110 151 [l0, l1, l2, .int xi, l4, l5] st S Q = pm_V d 110 152 [l0, l1, l2, .int xi, l4, l5] (.int xi :: st) S Q := pv_iload_n (pm_cdi rfl dX7_filter_151) rfl
theorem q110_152 (hs : pm_sh S an = .inr 7) : pm_V (d + 1) 110 152 [l0, l1, l2, l3, l4, l5] [.int v1i, .int v0i, .ref an, .int r0i, .int r1i, .int r2i, .ref r3n] S Q = pm_N d 107 [.ref an, .int v0i, .int v1i] S (fun r S' => pm_V (d + 1) 110 155 [l0, l1, l2, l3, l4, l5] (r.toList ++ [.int r0i, .int r1i, .int r2i, .ref r3n]) S' Q) := pv_callV (as := [.int v0i, .int v1i]) (pm_cdi rfl dX7_filter_152) (Or.inl (by decide +kernel)) (by decide +kernel) (show _ = _ from (by decide +kernel : 2 = pm_np 107)) rfl (Nat.le_of_ble_eq_true rfl) (cl := 7) (by decide +kernel) hs
theorem q110_155 : pm_V d 110 155 [l0, l1, l2, .int xi, l4, l5] st S Q = pm_V d 110 156 [l0, l1, l2, .int xi, l4, l5] (.int xi :: st) S Q := pv_iload_n (pm_cdi rfl dX7_filter_155) rfl
theorem q110_156 : pm_V d 110 156 [l0, l1, l2, l3, l4, l5] st S Q = pm_V d 110 158 [l0, l1, l2, l3, l4, l5] (.int (-1000004) :: st) S Q := pv_ldc (pm_cdi rfl dX7_filter_156) (by decide +kernel)
theorem q110_158 (hs : pm_sh S an = .inr 7) : pm_V (d + 1) 110 158 [l0, l1, l2, l3, l4, l5] [.int v5i, .int v4i, .long v3j, .int v2i, .int v1i, .int v0i, .ref an] S Q = pm_N d 103 [.ref an, .int v0i, .int v1i, .int v2i, .long v3j, .int v4i, .int v5i] S (fun r S' => pm_V (d + 1) 110 161 [l0, l1, l2, l3, l4, l5] (r.toList ++ []) S' Q) := pv_callV (as := [.int v0i, .int v1i, .int v2i, .long v3j, .int v4i, .int v5i]) (pm_cdi rfl dX7_filter_158) (Or.inl (by decide +kernel)) (by decide +kernel) (show _ = _ from (by decide +kernel : 6 = pm_np 103)) rfl (Nat.le_of_ble_eq_true rfl) (cl := 7) (by decide +kernel) hs
theorem q110_161 : pm_V d 110 161 [l0, l1, .int yi, .int xi, l4, l5] st S Q = pm_V d 110 164 [l0, l1, .int yi, .int (xi + 1), l4, l5] st S Q := pv_iinc (pm_cdi rfl dX7_filter_161) rfl (by decide +kernel) rfl
theorem q110_164 : pm_V d 110 164 [l0, l1, l2, l3, l4, l5] st S Q = pm_V d 110 80 [l0, l1, l2, l3, l4, l5] st S Q := pv_goto (pm_cdi rfl dX7_filter_164) rfl
theorem q110_167 : pm_V d 110 167 [l0, l1, l2, l3, l4, l5] [] S Q = Q none S := pv_rV (pm_cdi rfl dX7_filter_167) (by decide +kernel)
theorem q110_e : pm_N d 110 [.ref an, .int v0i, .int v1i] S Q = pm_V d 110 0 [.ref an, .int v0i, .int v1i, pm_j, pm_j, pm_j] [] S Q := pv_ent (Nat.le_of_ble_eq_true rfl) rfl
/-! 111: ViewsJoinsModel.sameNodes(II)V -/
theorem dX7_sameNodes_0 : decode cX7_sameNodes 0 = .ok (.iconst 0, 1) := by decide +kernel
theorem dX7_sameNodes_1 : decode cX7_sameNodes 1 = .ok (.istore_n 3, 1) := by decide +kernel
theorem dX7_sameNodes_2 : decode cX7_sameNodes 2 = .ok (.iload_n 3, 1) := by decide +kernel
theorem dX7_sameNodes_3 : decode cX7_sameNodes 3 = .ok (.aload_n 0, 1) := by decide +kernel
theorem dX7_sameNodes_4 : decode cX7_sameNodes 4 = .ok (.getfield 32, 3) := by decide +kernel
theorem dX7_sameNodes_7 : decode cX7_sameNodes 7 = .ok (.iload_n 2, 1) := by decide +kernel
theorem dX7_sameNodes_8 : decode cX7_sameNodes 8 = .ok (.iaload, 1) := by decide +kernel
theorem dX7_sameNodes_9 : decode cX7_sameNodes 9 = .ok (.if_icmp .ge 23, 3) := by decide +kernel
theorem dX7_sameNodes_12 : decode cX7_sameNodes 12 = .ok (.aload_n 0, 1) := by decide +kernel
theorem dX7_sameNodes_13 : decode cX7_sameNodes 13 = .ok (.iload_n 1, 1) := by decide +kernel
theorem dX7_sameNodes_14 : decode cX7_sameNodes 14 = .ok (.aload_n 0, 1) := by decide +kernel
theorem dX7_sameNodes_15 : decode cX7_sameNodes 15 = .ok (.iload_n 2, 1) := by decide +kernel
theorem dX7_sameNodes_16 : decode cX7_sameNodes 16 = .ok (.iload_n 3, 1) := by decide +kernel
theorem dX7_sameNodes_17 : decode cX7_sameNodes 17 = .ok (.invokevirtual 201, 3) := by decide +kernel
theorem dX7_sameNodes_20 : decode cX7_sameNodes 20 = .ok (.iload_n 3, 1) := by decide +kernel
theorem dX7_sameNodes_21 : decode cX7_sameNodes 21 = .ok (.ldc 139, 2) := by decide +kernel
theorem dX7_sameNodes_23 : decode cX7_sameNodes 23 = .ok (.invokevirtual 205, 3) := by decide +kernel
theorem dX7_sameNodes_26 : decode cX7_sameNodes 26 = .ok (.iinc 3 1, 3) := by decide +kernel
theorem dX7_sameNodes_29 : decode cX7_sameNodes 29 = .ok (.goto (-27), 3) := by decide +kernel
theorem dX7_sameNodes_32 : decode cX7_sameNodes 32 = .ok (.return_, 1) := by decide +kernel
theorem q111_0 : pm_V d 111 0 [l0, l1, l2, l3] st S Q = pm_V d 111 1 [l0, l1, l2, l3] (.int 0 :: st) S Q := pv_iconst (pm_cdi rfl dX7_sameNodes_0) (by decide +kernel)
theorem q111_1 : pm_V d 111 1 [l0, l1, .int yi, l3] (.int xi :: st) S Q = pm_V d 111 2 [l0, l1, .int yi, .int xi] st S Q := pv_istore_n (pm_cdi rfl dX7_sameNodes_1) rfl
theorem q111_2 : pm_V d 111 2 [l0, l1, l2, .int xi] st S Q = pm_V d 111 3 [l0, l1, l2, .int xi] (.int xi :: st) S Q := pv_iload_n (pm_cdi rfl dX7_sameNodes_2) rfl
theorem q111_3 : pm_V d 111 3 [.ref xn, l1, l2, l3] st S Q = pm_V d 111 4 [.ref xn, l1, l2, l3] (.ref xn :: st) S Q := pv_aload_n (pm_cdi rfl dX7_sameNodes_3) rfl
theorem q111_4 (hs : pm_sh S an = .inr 7) : pm_V d 111 4 [l0, l1, l2, l3] (.ref an :: st) S Q = pm_V d 111 7 [l0, l1, l2, l3] (va_rf (pm_gr S an 8) :: st) S Q := pv_getA (pm_cdi rfl dX7_sameNodes_4) (by decide +kernel) (by decide +kernel) (by decide +kernel) hs
theorem q111_7 : pm_V d 111 7 [l0, l1, .int xi, l3] st S Q = pm_V d 111 8 [l0, l1, .int xi, l3] (.int xi :: st) S Q := pv_iload_n (pm_cdi rfl dX7_sameNodes_7) rfl
theorem q111_8 (hs : pm_ar S an 0 xi = true) : pm_V d 111 8 [l0, l1, l2, l3] (.int xi :: .ref an :: st) S Q = pm_V d 111 9 [l0, l1, l2, l3] (.int (pm_zi S an xi.toNatClampNeg) :: st) S Q := pv_iald (pm_cdi rfl dX7_sameNodes_8) hs
theorem q111_9 : pm_V d 111 9 [l0, l1, l2, l3] (.int yi :: .int xi :: st) S Q = if xi < yi then pm_V d 111 12 [l0, l1, l2, l3] st S Q else pm_V d 111 32 [l0, l1, l2, l3] st S Q := pv_icmp_ge (pm_cdi rfl dX7_sameNodes_9) rfl
theorem q111_12 : pm_V d 111 12 [.ref xn, l1, l2, l3] st S Q = pm_V d 111 13 [.ref xn, l1, l2, l3] (.ref xn :: st) S Q := pv_aload_n (pm_cdi rfl dX7_sameNodes_12) rfl
theorem q111_13 : pm_V d 111 13 [l0, .int xi, l2, l3] st S Q = pm_V d 111 14 [l0, .int xi, l2, l3] (.int xi :: st) S Q := pv_iload_n (pm_cdi rfl dX7_sameNodes_13) rfl
theorem q111_14 : pm_V d 111 14 [.ref xn, l1, l2, l3] st S Q = pm_V d 111 15 [.ref xn, l1, l2, l3] (.ref xn :: st) S Q := pv_aload_n (pm_cdi rfl dX7_sameNodes_14) rfl
theorem q111_15 : pm_V d 111 15 [l0, l1, .int xi, l3] st S Q = pm_V d 111 16 [l0, l1, .int xi, l3] (.int xi :: st) S Q := pv_iload_n (pm_cdi rfl dX7_sameNodes_15) rfl
theorem q111_16 : pm_V d 111 16 [l0, l1, l2, .int xi] st S Q = pm_V d 111 17 [l0, l1, l2, .int xi] (.int xi :: st) S Q := pv_iload_n (pm_cdi rfl dX7_sameNodes_16) rfl
theorem q111_17 (hs : pm_sh S an = .inr 7) : pm_V (d + 1) 111 17 [l0, l1, l2, l3] [.int v1i, .int v0i, .ref an, .int r0i, .ref r1n] S Q = pm_N d 106 [.ref an, .int v0i, .int v1i] S (fun r S' => pm_V (d + 1) 111 20 [l0, l1, l2, l3] (r.toList ++ [.int r0i, .ref r1n]) S' Q) := pv_callV (as := [.int v0i, .int v1i]) (pm_cdi rfl dX7_sameNodes_17) (Or.inl (by decide +kernel)) (by decide +kernel) (show _ = _ from (by decide +kernel : 2 = pm_np 106)) rfl (Nat.le_of_ble_eq_true rfl) (cl := 7) (by decide +kernel) hs
theorem q111_20 : pm_V d 111 20 [l0, l1, l2, .int xi] st S Q = pm_V d 111 21 [l0, l1, l2, .int xi] (.int xi :: st) S Q := pv_iload_n (pm_cdi rfl dX7_sameNodes_20) rfl
theorem q111_21 : pm_V d 111 21 [l0, l1, l2, l3] st S Q = pm_V d 111 23 [l0, l1, l2, l3] (.int (-1000004) :: st) S Q := pv_ldc (pm_cdi rfl dX7_sameNodes_21) (by decide +kernel)
theorem q111_23 (hs : pm_sh S an = .inr 7) : pm_V (d + 1) 111 23 [l0, l1, l2, l3] [.int v3i, .int v2i, .long v1j, .int v0i, .ref an] S Q = pm_N d 102 [.ref an, .int v0i, .long v1j, .int v2i, .int v3i] S (fun r S' => pm_V (d + 1) 111 26 [l0, l1, l2, l3] (r.toList ++ []) S' Q) := pv_callV (as := [.int v0i, .long v1j, .int v2i, .int v3i]) (pm_cdi rfl dX7_sameNodes_23) (Or.inl (by decide +kernel)) (by decide +kernel) (show _ = _ from (by decide +kernel : 4 = pm_np 102)) rfl (Nat.le_of_ble_eq_true rfl) (cl := 7) (by decide +kernel) hs
theorem q111_26 : pm_V d 111 26 [l0, l1, .int yi, .int xi] st S Q = pm_V d 111 29 [l0, l1, .int yi, .int (xi + 1)] st S Q := pv_iinc (pm_cdi rfl dX7_sameNodes_26) rfl (by decide +kernel) rfl
theorem q111_29 : pm_V d 111 29 [l0, l1, l2, l3] st S Q = pm_V d 111 2 [l0, l1, l2, l3] st S Q := pv_goto (pm_cdi rfl dX7_sameNodes_29) rfl
theorem q111_32 : pm_V d 111 32 [l0, l1, l2, l3] [] S Q = Q none S := pv_rV (pm_cdi rfl dX7_sameNodes_32) (by decide +kernel)
theorem q111_e : pm_N d 111 [.ref an, .int v0i, .int v1i] S Q = pm_V d 111 0 [.ref an, .int v0i, .int v1i, pm_j] [] S Q := pv_ent (Nat.le_of_ble_eq_true rfl) rfl
/-! 112: ViewsJoinsModel.turned(II)V -/
theorem dX7_turned_0 : decode cX7_turned 0 = .ok (.aload_n 0, 1) := by decide +kernel
theorem dX7_turned_1 : decode cX7_turned 1 = .ok (.iload_n 1, 1) := by decide +kernel
theorem dX7_turned_2 : decode cX7_turned 2 = .ok (.iload_n 2, 1) := by decide +kernel
theorem dX7_turned_3 : decode cX7_turned 3 = .ok (.invokevirtual 212, 3) := by decide +kernel
theorem dX7_turned_6 : decode cX7_turned 6 = .ok (.iconst 0, 1) := by decide +kernel
theorem dX7_turned_7 : decode cX7_turned 7 = .ok (.istore_n 3, 1) := by decide +kernel
theorem dX7_turned_8 : decode cX7_turned 8 = .ok (.iload_n 3, 1) := by decide +kernel
theorem dX7_turned_9 : decode cX7_turned 9 = .ok (.aload_n 0, 1) := by decide +kernel
theorem dX7_turned_10 : decode cX7_turned 10 = .ok (.getfield 35, 3) := by decide +kernel
theorem dX7_turned_13 : decode cX7_turned 13 = .ok (.iload_n 2, 1) := by decide +kernel
theorem dX7_turned_14 : decode cX7_turned 14 = .ok (.iaload, 1) := by decide +kernel
theorem dX7_turned_15 : decode cX7_turned 15 = .ok (.if_icmp .ge 35, 3) := by decide +kernel
theorem dX7_turned_18 : decode cX7_turned 18 = .ok (.aload_n 0, 1) := by decide +kernel
theorem dX7_turned_19 : decode cX7_turned 19 = .ok (.iload_n 1, 1) := by decide +kernel
theorem dX7_turned_20 : decode cX7_turned 20 = .ok (.aload_n 0, 1) := by decide +kernel
theorem dX7_turned_21 : decode cX7_turned 21 = .ok (.iload_n 2, 1) := by decide +kernel
theorem dX7_turned_22 : decode cX7_turned 22 = .ok (.iload_n 3, 1) := by decide +kernel
theorem dX7_turned_23 : decode cX7_turned 23 = .ok (.invokevirtual 185, 3) := by decide +kernel
theorem dX7_turned_26 : decode cX7_turned 26 = .ok (.aload_n 0, 1) := by decide +kernel
theorem dX7_turned_27 : decode cX7_turned 27 = .ok (.iload_n 2, 1) := by decide +kernel
theorem dX7_turned_28 : decode cX7_turned 28 = .ok (.iload_n 3, 1) := by decide +kernel
theorem dX7_turned_29 : decode cX7_turned 29 = .ok (.invokevirtual 181, 3) := by decide +kernel
theorem dX7_turned_32 : decode cX7_turned 32 = .ok (.aload_n 0, 1) := by decide +kernel
theorem dX7_turned_33 : decode cX7_turned 33 = .ok (.iload_n 2, 1) := by decide +kernel
theorem dX7_turned_34 : decode cX7_turned 34 = .ok (.iload_n 3, 1) := by decide +kernel
theorem dX7_turned_35 : decode cX7_turned 35 = .ok (.invokevirtual 209, 3) := by decide +kernel
theorem dX7_turned_38 : decode cX7_turned 38 = .ok (.iload_n 3, 1) := by decide +kernel
theorem dX7_turned_39 : decode cX7_turned 39 = .ok (.ldc 139, 2) := by decide +kernel
theorem dX7_turned_41 : decode cX7_turned 41 = .ok (.invokevirtual 140, 3) := by decide +kernel
theorem dX7_turned_44 : decode cX7_turned 44 = .ok (.iinc 3 1, 3) := by decide +kernel
theorem dX7_turned_47 : decode cX7_turned 47 = .ok (.goto (-39), 3) := by decide +kernel
theorem dX7_turned_50 : decode cX7_turned 50 = .ok (.return_, 1) := by decide +kernel
theorem q112_0 : pm_V d 112 0 [.ref xn, l1, l2, l3] st S Q = pm_V d 112 1 [.ref xn, l1, l2, l3] (.ref xn :: st) S Q := pv_aload_n (pm_cdi rfl dX7_turned_0) rfl
theorem q112_1 : pm_V d 112 1 [l0, .int xi, l2, l3] st S Q = pm_V d 112 2 [l0, .int xi, l2, l3] (.int xi :: st) S Q := pv_iload_n (pm_cdi rfl dX7_turned_1) rfl
theorem q112_2 : pm_V d 112 2 [l0, l1, .int xi, l3] st S Q = pm_V d 112 3 [l0, l1, .int xi, l3] (.int xi :: st) S Q := pv_iload_n (pm_cdi rfl dX7_turned_2) rfl
theorem q112_3 (hs : pm_sh S an = .inr 7) : pm_V (d + 1) 112 3 [l0, l1, l2, l3] [.int v1i, .int v0i, .ref an] S Q = pm_N d 111 [.ref an, .int v0i, .int v1i] S (fun r S' => pm_V (d + 1) 112 6 [l0, l1, l2, l3] (r.toList ++ []) S' Q) := pv_callV (as := [.int v0i, .int v1i]) (pm_cdi rfl dX7_turned_3) (Or.inl (by decide +kernel)) (by decide +kernel) (show _ = _ from (by decide +kernel : 2 = pm_np 111)) rfl (Nat.le_of_ble_eq_true rfl) (cl := 7) (by decide +kernel) hs
theorem q112_6 : pm_V d 112 6 [l0, l1, l2, l3] st S Q = pm_V d 112 7 [l0, l1, l2, l3] (.int 0 :: st) S Q := pv_iconst (pm_cdi rfl dX7_turned_6) (by decide +kernel)
theorem q112_7 : pm_V d 112 7 [l0, l1, .int yi, l3] (.int xi :: st) S Q = pm_V d 112 8 [l0, l1, .int yi, .int xi] st S Q := pv_istore_n (pm_cdi rfl dX7_turned_7) rfl
theorem q112_8 : pm_V d 112 8 [l0, l1, l2, .int xi] st S Q = pm_V d 112 9 [l0, l1, l2, .int xi] (.int xi :: st) S Q := pv_iload_n (pm_cdi rfl dX7_turned_8) rfl
theorem q112_9 : pm_V d 112 9 [.ref xn, l1, l2, l3] st S Q = pm_V d 112 10 [.ref xn, l1, l2, l3] (.ref xn :: st) S Q := pv_aload_n (pm_cdi rfl dX7_turned_9) rfl
theorem q112_10 (hs : pm_sh S an = .inr 7) : pm_V d 112 10 [l0, l1, l2, l3] (.ref an :: st) S Q = pm_V d 112 13 [l0, l1, l2, l3] (va_rf (pm_gr S an 9) :: st) S Q := pv_getA (pm_cdi rfl dX7_turned_10) (by decide +kernel) (by decide +kernel) (by decide +kernel) hs
theorem q112_13 : pm_V d 112 13 [l0, l1, .int xi, l3] st S Q = pm_V d 112 14 [l0, l1, .int xi, l3] (.int xi :: st) S Q := pv_iload_n (pm_cdi rfl dX7_turned_13) rfl
theorem q112_14 (hs : pm_ar S an 0 xi = true) : pm_V d 112 14 [l0, l1, l2, l3] (.int xi :: .ref an :: st) S Q = pm_V d 112 15 [l0, l1, l2, l3] (.int (pm_zi S an xi.toNatClampNeg) :: st) S Q := pv_iald (pm_cdi rfl dX7_turned_14) hs
theorem q112_15 : pm_V d 112 15 [l0, l1, l2, l3] (.int yi :: .int xi :: st) S Q = if xi < yi then pm_V d 112 18 [l0, l1, l2, l3] st S Q else pm_V d 112 50 [l0, l1, l2, l3] st S Q := pv_icmp_ge (pm_cdi rfl dX7_turned_15) rfl
theorem q112_18 : pm_V d 112 18 [.ref xn, l1, l2, l3] st S Q = pm_V d 112 19 [.ref xn, l1, l2, l3] (.ref xn :: st) S Q := pv_aload_n (pm_cdi rfl dX7_turned_18) rfl
theorem q112_19 : pm_V d 112 19 [l0, .int xi, l2, l3] st S Q = pm_V d 112 20 [l0, .int xi, l2, l3] (.int xi :: st) S Q := pv_iload_n (pm_cdi rfl dX7_turned_19) rfl
theorem q112_20 : pm_V d 112 20 [.ref xn, l1, l2, l3] st S Q = pm_V d 112 21 [.ref xn, l1, l2, l3] (.ref xn :: st) S Q := pv_aload_n (pm_cdi rfl dX7_turned_20) rfl
theorem q112_21 : pm_V d 112 21 [l0, l1, .int xi, l3] st S Q = pm_V d 112 22 [l0, l1, .int xi, l3] (.int xi :: st) S Q := pv_iload_n (pm_cdi rfl dX7_turned_21) rfl
theorem q112_22 : pm_V d 112 22 [l0, l1, l2, .int xi] st S Q = pm_V d 112 23 [l0, l1, l2, .int xi] (.int xi :: st) S Q := pv_iload_n (pm_cdi rfl dX7_turned_22) rfl
theorem q112_23 (hs : pm_sh S an = .inr 7) : pm_V (d + 1) 112 23 [l0, l1, l2, l3] [.int v1i, .int v0i, .ref an, .int r0i, .ref r1n] S Q = pm_N d 105 [.ref an, .int v0i, .int v1i] S (fun r S' => pm_V (d + 1) 112 26 [l0, l1, l2, l3] (r.toList ++ [.int r0i, .ref r1n]) S' Q) := pv_callV (as := [.int v0i, .int v1i]) (pm_cdi rfl dX7_turned_23) (Or.inl (by decide +kernel)) (by decide +kernel) (show _ = _ from (by decide +kernel : 2 = pm_np 105)) rfl (Nat.le_of_ble_eq_true rfl) (cl := 7) (by decide +kernel) hs
theorem q112_26 : pm_V d 112 26 [.ref xn, l1, l2, l3] st S Q = pm_V d 112 27 [.ref xn, l1, l2, l3] (.ref xn :: st) S Q := pv_aload_n (pm_cdi rfl dX7_turned_26) rfl
theorem q112_27 : pm_V d 112 27 [l0, l1, .int xi, l3] st S Q = pm_V d 112 28 [l0, l1, .int xi, l3] (.int xi :: st) S Q := pv_iload_n (pm_cdi rfl dX7_turned_27) rfl
theorem q112_28 : pm_V d 112 28 [l0, l1, l2, .int xi] st S Q = pm_V d 112 29 [l0, l1, l2, .int xi] (.int xi :: st) S Q := pv_iload_n (pm_cdi rfl dX7_turned_28) rfl
theorem q112_29 (hs : pm_sh S an = .inr 7) : pm_V (d + 1) 112 29 [l0, l1, l2, l3] [.int v1i, .int v0i, .ref an, .int r0i, .int r1i, .ref r2n] S Q = pm_N d 104 [.ref an, .int v0i, .int v1i] S (fun r S' => pm_V (d + 1) 112 32 [l0, l1, l2, l3] (r.toList ++ [.int r0i, .int r1i, .ref r2n]) S' Q) := pv_callV (as := [.int v0i, .int v1i]) (pm_cdi rfl dX7_turned_29) (Or.inl (by decide +kernel)) (by decide +kernel) (show _ = _ from (by decide +kernel : 2 = pm_np 104)) rfl (Nat.le_of_ble_eq_true rfl) (cl := 7) (by decide +kernel) hs
theorem q112_32 : pm_V d 112 32 [.ref xn, l1, l2, l3] st S Q = pm_V d 112 33 [.ref xn, l1, l2, l3] (.ref xn :: st) S Q := pv_aload_n (pm_cdi rfl dX7_turned_32) rfl
theorem q112_33 : pm_V d 112 33 [l0, l1, .int xi, l3] st S Q = pm_V d 112 34 [l0, l1, .int xi, l3] (.int xi :: st) S Q := pv_iload_n (pm_cdi rfl dX7_turned_33) rfl
theorem q112_34 : pm_V d 112 34 [l0, l1, l2, .int xi] st S Q = pm_V d 112 35 [l0, l1, l2, .int xi] (.int xi :: st) S Q := pv_iload_n (pm_cdi rfl dX7_turned_34) rfl
theorem q112_35 (hs : pm_sh S an = .inr 7) : pm_V (d + 1) 112 35 [l0, l1, l2, l3] [.int v1i, .int v0i, .ref an, .int r0i, .int r1i, .int r2i, .ref r3n] S Q = pm_N d 107 [.ref an, .int v0i, .int v1i] S (fun r S' => pm_V (d + 1) 112 38 [l0, l1, l2, l3] (r.toList ++ [.int r0i, .int r1i, .int r2i, .ref r3n]) S' Q) := pv_callV (as := [.int v0i, .int v1i]) (pm_cdi rfl dX7_turned_35) (Or.inl (by decide +kernel)) (by decide +kernel) (show _ = _ from (by decide +kernel : 2 = pm_np 107)) rfl (Nat.le_of_ble_eq_true rfl) (cl := 7) (by decide +kernel) hs
theorem q112_38 : pm_V d 112 38 [l0, l1, l2, .int xi] st S Q = pm_V d 112 39 [l0, l1, l2, .int xi] (.int xi :: st) S Q := pv_iload_n (pm_cdi rfl dX7_turned_38) rfl
theorem q112_39 : pm_V d 112 39 [l0, l1, l2, l3] st S Q = pm_V d 112 41 [l0, l1, l2, l3] (.int (-1000004) :: st) S Q := pv_ldc (pm_cdi rfl dX7_turned_39) (by decide +kernel)
theorem q112_41 (hs : pm_sh S an = .inr 7) : pm_V (d + 1) 112 41 [l0, l1, l2, l3] [.int v5i, .int v4i, .long v3j, .int v2i, .int v1i, .int v0i, .ref an] S Q = pm_N d 103 [.ref an, .int v0i, .int v1i, .int v2i, .long v3j, .int v4i, .int v5i] S (fun r S' => pm_V (d + 1) 112 44 [l0, l1, l2, l3] (r.toList ++ []) S' Q) := pv_callV (as := [.int v0i, .int v1i, .int v2i, .long v3j, .int v4i, .int v5i]) (pm_cdi rfl dX7_turned_41) (Or.inl (by decide +kernel)) (by decide +kernel) (show _ = _ from (by decide +kernel : 6 = pm_np 103)) rfl (Nat.le_of_ble_eq_true rfl) (cl := 7) (by decide +kernel) hs
theorem q112_44 : pm_V d 112 44 [l0, l1, .int yi, .int xi] st S Q = pm_V d 112 47 [l0, l1, .int yi, .int (xi + 1)] st S Q := pv_iinc (pm_cdi rfl dX7_turned_44) rfl (by decide +kernel) rfl
theorem q112_47 : pm_V d 112 47 [l0, l1, l2, l3] st S Q = pm_V d 112 8 [l0, l1, l2, l3] st S Q := pv_goto (pm_cdi rfl dX7_turned_47) rfl
theorem q112_50 : pm_V d 112 50 [l0, l1, l2, l3] [] S Q = Q none S := pv_rV (pm_cdi rfl dX7_turned_50) (by decide +kernel)
theorem q112_e : pm_N d 112 [.ref an, .int v0i, .int v1i] S Q = pm_V d 112 0 [.ref an, .int v0i, .int v1i, pm_j] [] S Q := pv_ent (Nat.le_of_ble_eq_true rfl) rfl
/-! 113: ViewsJoinsModel.joined(III)V -/
theorem dX7_joined_0 : decode cX7_joined 0 = .ok (.iconst 0, 1) := by decide +kernel
theorem dX7_joined_1 : decode cX7_joined 1 = .ok (.istore 4, 2) := by decide +kernel
theorem dX7_joined_3 : decode cX7_joined 3 = .ok (.iload 4, 2) := by decide +kernel
theorem dX7_joined_5 : decode cX7_joined 5 = .ok (.aload_n 0, 1) := by decide +kernel
theorem dX7_joined_6 : decode cX7_joined 6 = .ok (.getfield 32, 3) := by decide +kernel
theorem dX7_joined_9 : decode cX7_joined 9 = .ok (.iload_n 2, 1) := by decide +kernel
theorem dX7_joined_10 : decode cX7_joined 10 = .ok (.iaload, 1) := by decide +kernel
theorem dX7_joined_11 : decode cX7_joined 11 = .ok (.if_icmp .lt 14, 3) := by decide +kernel
theorem dX7_joined_14 : decode cX7_joined 14 = .ok (.iload 4, 2) := by decide +kernel
theorem dX7_joined_16 : decode cX7_joined 16 = .ok (.aload_n 0, 1) := by decide +kernel
theorem dX7_joined_17 : decode cX7_joined 17 = .ok (.getfield 32, 3) := by decide +kernel
theorem dX7_joined_20 : decode cX7_joined 20 = .ok (.iload_n 3, 1) := by decide +kernel
theorem dX7_joined_21 : decode cX7_joined 21 = .ok (.iaload, 1) := by decide +kernel
theorem dX7_joined_22 : decode cX7_joined 22 = .ok (.if_icmp .ge 84, 3) := by decide +kernel
theorem dX7_joined_25 : decode cX7_joined 25 = .ok (.iload 4, 2) := by decide +kernel
theorem dX7_joined_27 : decode cX7_joined 27 = .ok (.aload_n 0, 1) := by decide +kernel
theorem dX7_joined_28 : decode cX7_joined 28 = .ok (.getfield 32, 3) := by decide +kernel
theorem dX7_joined_31 : decode cX7_joined 31 = .ok (.iload_n 2, 1) := by decide +kernel
theorem dX7_joined_32 : decode cX7_joined 32 = .ok (.iaload, 1) := by decide +kernel
theorem dX7_joined_33 : decode cX7_joined 33 = .ok (.if_icmp .ge 7, 3) := by decide +kernel
theorem dX7_joined_36 : decode cX7_joined 36 = .ok (.iconst 1, 1) := by decide +kernel
theorem dX7_joined_37 : decode cX7_joined 37 = .ok (.goto 4, 3) := by decide +kernel
theorem dX7_joined_40 : decode cX7_joined 40 = .ok (.iconst 0, 1) := by decide +kernel
theorem dX7_joined_41 : decode cX7_joined 41 = .ok (.istore 5, 2) := by decide +kernel
theorem dX7_joined_43 : decode cX7_joined 43 = .ok (.aload_n 0, 1) := by decide +kernel
theorem dX7_joined_44 : decode cX7_joined 44 = .ok (.iload_n 1, 1) := by decide +kernel
theorem dX7_joined_45 : decode cX7_joined 45 = .ok (.iload 5, 2) := by decide +kernel
theorem dX7_joined_47 : decode cX7_joined 47 = .ok (.ifCond .eq 13, 3) := by decide +kernel
theorem dX7_joined_50 : decode cX7_joined 50 = .ok (.aload_n 0, 1) := by decide +kernel
theorem dX7_joined_51 : decode cX7_joined 51 = .ok (.iload_n 2, 1) := by decide +kernel
theorem dX7_joined_52 : decode cX7_joined 52 = .ok (.iload 4, 2) := by decide +kernel
theorem dX7_joined_54 : decode cX7_joined 54 = .ok (.invokevirtual 201, 3) := by decide +kernel
theorem dX7_joined_57 : decode cX7_joined 57 = .ok (.goto 10, 3) := by decide +kernel
theorem dX7_joined_60 : decode cX7_joined 60 = .ok (.aload_n 0, 1) := by decide +kernel
theorem dX7_joined_61 : decode cX7_joined 61 = .ok (.iload_n 3, 1) := by decide +kernel
theorem dX7_joined_62 : decode cX7_joined 62 = .ok (.iload 4, 2) := by decide +kernel
theorem dX7_joined_64 : decode cX7_joined 64 = .ok (.invokevirtual 201, 3) := by decide +kernel
theorem dX7_joined_67 : decode cX7_joined 67 = .ok (.iload 5, 2) := by decide +kernel
theorem dX7_joined_69 : decode cX7_joined 69 = .ok (.ifCond .eq 8, 3) := by decide +kernel
theorem dX7_joined_72 : decode cX7_joined 72 = .ok (.iload 4, 2) := by decide +kernel
theorem dX7_joined_74 : decode cX7_joined 74 = .ok (.goto 5, 3) := by decide +kernel
theorem dX7_joined_77 : decode cX7_joined 77 = .ok (.ldc 139, 2) := by decide +kernel
theorem dX7_joined_79 : decode cX7_joined 79 = .ok (.iload 4, 2) := by decide +kernel
theorem dX7_joined_81 : decode cX7_joined 81 = .ok (.aload_n 0, 1) := by decide +kernel
theorem dX7_joined_82 : decode cX7_joined 82 = .ok (.getfield 32, 3) := by decide +kernel
theorem dX7_joined_85 : decode cX7_joined 85 = .ok (.iload_n 3, 1) := by decide +kernel
theorem dX7_joined_86 : decode cX7_joined 86 = .ok (.iaload, 1) := by decide +kernel
theorem dX7_joined_87 : decode cX7_joined 87 = .ok (.if_icmp .ge 8, 3) := by decide +kernel
theorem dX7_joined_90 : decode cX7_joined 90 = .ok (.iload 4, 2) := by decide +kernel
theorem dX7_joined_92 : decode cX7_joined 92 = .ok (.goto 5, 3) := by decide +kernel
theorem dX7_joined_95 : decode cX7_joined 95 = .ok (.ldc 139, 2) := by decide +kernel
theorem dX7_joined_97 : decode cX7_joined 97 = .ok (.invokevirtual 205, 3) := by decide +kernel
theorem dX7_joined_100 : decode cX7_joined 100 = .ok (.iinc 4 1, 3) := by decide +kernel
theorem dX7_joined_103 : decode cX7_joined 103 = .ok (.goto (-100), 3) := by decide +kernel
theorem dX7_joined_106 : decode cX7_joined 106 = .ok (.iconst 0, 1) := by decide +kernel
theorem dX7_joined_107 : decode cX7_joined 107 = .ok (.istore 4, 2) := by decide +kernel
theorem dX7_joined_109 : decode cX7_joined 109 = .ok (.iload 4, 2) := by decide +kernel
theorem dX7_joined_111 : decode cX7_joined 111 = .ok (.aload_n 0, 1) := by decide +kernel
theorem dX7_joined_112 : decode cX7_joined 112 = .ok (.getfield 35, 3) := by decide +kernel
theorem dX7_joined_115 : decode cX7_joined 115 = .ok (.iload_n 2, 1) := by decide +kernel
theorem dX7_joined_116 : decode cX7_joined 116 = .ok (.iaload, 1) := by decide +kernel
theorem dX7_joined_117 : decode cX7_joined 117 = .ok (.if_icmp .ge 39, 3) := by decide +kernel
theorem dX7_joined_120 : decode cX7_joined 120 = .ok (.aload_n 0, 1) := by decide +kernel
theorem dX7_joined_121 : decode cX7_joined 121 = .ok (.iload_n 1, 1) := by decide +kernel
theorem dX7_joined_122 : decode cX7_joined 122 = .ok (.aload_n 0, 1) := by decide +kernel
theorem dX7_joined_123 : decode cX7_joined 123 = .ok (.iload_n 2, 1) := by decide +kernel
theorem dX7_joined_124 : decode cX7_joined 124 = .ok (.iload 4, 2) := by decide +kernel
theorem dX7_joined_126 : decode cX7_joined 126 = .ok (.invokevirtual 181, 3) := by decide +kernel
theorem dX7_joined_129 : decode cX7_joined 129 = .ok (.aload_n 0, 1) := by decide +kernel
theorem dX7_joined_130 : decode cX7_joined 130 = .ok (.iload_n 2, 1) := by decide +kernel
theorem dX7_joined_131 : decode cX7_joined 131 = .ok (.iload 4, 2) := by decide +kernel
theorem dX7_joined_133 : decode cX7_joined 133 = .ok (.invokevirtual 185, 3) := by decide +kernel
theorem dX7_joined_136 : decode cX7_joined 136 = .ok (.aload_n 0, 1) := by decide +kernel
theorem dX7_joined_137 : decode cX7_joined 137 = .ok (.iload_n 2, 1) := by decide +kernel
theorem dX7_joined_138 : decode cX7_joined 138 = .ok (.iload 4, 2) := by decide +kernel
theorem dX7_joined_140 : decode cX7_joined 140 = .ok (.invokevirtual 209, 3) := by decide +kernel
theorem dX7_joined_143 : decode cX7_joined 143 = .ok (.iload 4, 2) := by decide +kernel
theorem dX7_joined_145 : decode cX7_joined 145 = .ok (.ldc 139, 2) := by decide +kernel
theorem dX7_joined_147 : decode cX7_joined 147 = .ok (.invokevirtual 140, 3) := by decide +kernel
theorem dX7_joined_150 : decode cX7_joined 150 = .ok (.iinc 4 1, 3) := by decide +kernel
theorem dX7_joined_153 : decode cX7_joined 153 = .ok (.goto (-44), 3) := by decide +kernel
theorem dX7_joined_156 : decode cX7_joined 156 = .ok (.iconst 0, 1) := by decide +kernel
theorem dX7_joined_157 : decode cX7_joined 157 = .ok (.istore 4, 2) := by decide +kernel
theorem dX7_joined_159 : decode cX7_joined 159 = .ok (.iload 4, 2) := by decide +kernel
theorem dX7_joined_161 : decode cX7_joined 161 = .ok (.aload_n 0, 1) := by decide +kernel
theorem dX7_joined_162 : decode cX7_joined 162 = .ok (.getfield 35, 3) := by decide +kernel
theorem dX7_joined_165 : decode cX7_joined 165 = .ok (.iload_n 3, 1) := by decide +kernel
theorem dX7_joined_166 : decode cX7_joined 166 = .ok (.iaload, 1) := by decide +kernel
theorem dX7_joined_167 : decode cX7_joined 167 = .ok (.if_icmp .ge 61, 3) := by decide +kernel
theorem dX7_joined_170 : decode cX7_joined 170 = .ok (.aload_n 0, 1) := by decide +kernel
theorem dX7_joined_171 : decode cX7_joined 171 = .ok (.iload_n 2, 1) := by decide +kernel
theorem dX7_joined_172 : decode cX7_joined 172 = .ok (.aload_n 0, 1) := by decide +kernel
theorem dX7_joined_173 : decode cX7_joined 173 = .ok (.iload_n 3, 1) := by decide +kernel
theorem dX7_joined_174 : decode cX7_joined 174 = .ok (.iload 4, 2) := by decide +kernel
theorem dX7_joined_176 : decode cX7_joined 176 = .ok (.invokevirtual 181, 3) := by decide +kernel
theorem dX7_joined_179 : decode cX7_joined 179 = .ok (.aload_n 0, 1) := by decide +kernel
theorem dX7_joined_180 : decode cX7_joined 180 = .ok (.iload_n 3, 1) := by decide +kernel
theorem dX7_joined_181 : decode cX7_joined 181 = .ok (.iload 4, 2) := by decide +kernel
theorem dX7_joined_183 : decode cX7_joined 183 = .ok (.invokevirtual 185, 3) := by decide +kernel
theorem dX7_joined_186 : decode cX7_joined 186 = .ok (.invokevirtual 215, 3) := by decide +kernel
theorem dX7_joined_189 : decode cX7_joined 189 = .ok (.ifCond .ne 33, 3) := by decide +kernel
theorem dX7_joined_192 : decode cX7_joined 192 = .ok (.aload_n 0, 1) := by decide +kernel
theorem dX7_joined_193 : decode cX7_joined 193 = .ok (.iload_n 1, 1) := by decide +kernel
theorem dX7_joined_194 : decode cX7_joined 194 = .ok (.aload_n 0, 1) := by decide +kernel
theorem dX7_joined_195 : decode cX7_joined 195 = .ok (.iload_n 3, 1) := by decide +kernel
theorem dX7_joined_196 : decode cX7_joined 196 = .ok (.iload 4, 2) := by decide +kernel
theorem dX7_joined_198 : decode cX7_joined 198 = .ok (.invokevirtual 181, 3) := by decide +kernel
theorem dX7_joined_201 : decode cX7_joined 201 = .ok (.aload_n 0, 1) := by decide +kernel
theorem dX7_joined_202 : decode cX7_joined 202 = .ok (.iload_n 3, 1) := by decide +kernel
theorem dX7_joined_203 : decode cX7_joined 203 = .ok (.iload 4, 2) := by decide +kernel
theorem dX7_joined_205 : decode cX7_joined 205 = .ok (.invokevirtual 185, 3) := by decide +kernel
theorem dX7_joined_208 : decode cX7_joined 208 = .ok (.aload_n 0, 1) := by decide +kernel
theorem dX7_joined_209 : decode cX7_joined 209 = .ok (.iload_n 3, 1) := by decide +kernel
theorem dX7_joined_210 : decode cX7_joined 210 = .ok (.iload 4, 2) := by decide +kernel
theorem dX7_joined_212 : decode cX7_joined 212 = .ok (.invokevirtual 209, 3) := by decide +kernel
theorem dX7_joined_215 : decode cX7_joined 215 = .ok (.ldc 139, 2) := by decide +kernel
theorem dX7_joined_217 : decode cX7_joined 217 = .ok (.iload 4, 2) := by decide +kernel
theorem dX7_joined_219 : decode cX7_joined 219 = .ok (.invokevirtual 140, 3) := by decide +kernel
theorem dX7_joined_222 : decode cX7_joined 222 = .ok (.iinc 4 1, 3) := by decide +kernel
theorem dX7_joined_225 : decode cX7_joined 225 = .ok (.goto (-66), 3) := by decide +kernel
theorem dX7_joined_228 : decode cX7_joined 228 = .ok (.return_, 1) := by decide +kernel
theorem q113_0 : pm_V d 113 0 [l0, l1, l2, l3, l4, l5] st S Q = pm_V d 113 1 [l0, l1, l2, l3, l4, l5] (.int 0 :: st) S Q := pv_iconst (pm_cdi rfl dX7_joined_0) (by decide +kernel)
theorem q113_1 : pm_V d 113 1 [l0, l1, l2, .int yi, l4, l5] (.int xi :: st) S Q = pm_V d 113 3 [l0, l1, l2, .int yi, .int xi, l5] st S Q := pv_istore (pm_cdi rfl dX7_joined_1) rfl
theorem q113_3 : pm_V d 113 3 [l0, l1, l2, l3, .int xi, l5] st S Q = pm_V d 113 5 [l0, l1, l2, l3, .int xi, l5] (.int xi :: st) S Q := pv_iload (pm_cdi rfl dX7_joined_3) rfl
theorem q113_5 : pm_V d 113 5 [.ref xn, l1, l2, l3, l4, l5] st S Q = pm_V d 113 6 [.ref xn, l1, l2, l3, l4, l5] (.ref xn :: st) S Q := pv_aload_n (pm_cdi rfl dX7_joined_5) rfl
theorem q113_6 (hs : pm_sh S an = .inr 7) : pm_V d 113 6 [l0, l1, l2, l3, l4, l5] (.ref an :: st) S Q = pm_V d 113 9 [l0, l1, l2, l3, l4, l5] (va_rf (pm_gr S an 8) :: st) S Q := pv_getA (pm_cdi rfl dX7_joined_6) (by decide +kernel) (by decide +kernel) (by decide +kernel) hs
theorem q113_9 : pm_V d 113 9 [l0, l1, .int xi, l3, l4, l5] st S Q = pm_V d 113 10 [l0, l1, .int xi, l3, l4, l5] (.int xi :: st) S Q := pv_iload_n (pm_cdi rfl dX7_joined_9) rfl
theorem q113_10 (hs : pm_ar S an 0 xi = true) : pm_V d 113 10 [l0, l1, l2, l3, l4, l5] (.int xi :: .ref an :: st) S Q = pm_V d 113 11 [l0, l1, l2, l3, l4, l5] (.int (pm_zi S an xi.toNatClampNeg) :: st) S Q := pv_iald (pm_cdi rfl dX7_joined_10) hs
theorem q113_11 : pm_V d 113 11 [l0, l1, l2, l3, l4, l5] (.int yi :: .int xi :: st) S Q = if xi < yi then pm_V d 113 25 [l0, l1, l2, l3, l4, l5] st S Q else pm_V d 113 14 [l0, l1, l2, l3, l4, l5] st S Q := pv_icmp_lt (pm_cdi rfl dX7_joined_11) rfl
theorem q113_14 : pm_V d 113 14 [l0, l1, l2, l3, .int xi, l5] st S Q = pm_V d 113 16 [l0, l1, l2, l3, .int xi, l5] (.int xi :: st) S Q := pv_iload (pm_cdi rfl dX7_joined_14) rfl
theorem q113_16 : pm_V d 113 16 [.ref xn, l1, l2, l3, l4, l5] st S Q = pm_V d 113 17 [.ref xn, l1, l2, l3, l4, l5] (.ref xn :: st) S Q := pv_aload_n (pm_cdi rfl dX7_joined_16) rfl
theorem q113_17 (hs : pm_sh S an = .inr 7) : pm_V d 113 17 [l0, l1, l2, l3, l4, l5] (.ref an :: st) S Q = pm_V d 113 20 [l0, l1, l2, l3, l4, l5] (va_rf (pm_gr S an 8) :: st) S Q := pv_getA (pm_cdi rfl dX7_joined_17) (by decide +kernel) (by decide +kernel) (by decide +kernel) hs
theorem q113_20 : pm_V d 113 20 [l0, l1, l2, .int xi, l4, l5] st S Q = pm_V d 113 21 [l0, l1, l2, .int xi, l4, l5] (.int xi :: st) S Q := pv_iload_n (pm_cdi rfl dX7_joined_20) rfl
theorem q113_21 (hs : pm_ar S an 0 xi = true) : pm_V d 113 21 [l0, l1, l2, l3, l4, l5] (.int xi :: .ref an :: st) S Q = pm_V d 113 22 [l0, l1, l2, l3, l4, l5] (.int (pm_zi S an xi.toNatClampNeg) :: st) S Q := pv_iald (pm_cdi rfl dX7_joined_21) hs
theorem q113_22 : pm_V d 113 22 [l0, l1, l2, l3, l4, l5] (.int yi :: .int xi :: st) S Q = if xi < yi then pm_V d 113 25 [l0, l1, l2, l3, l4, l5] st S Q else pm_V d 113 106 [l0, l1, l2, l3, l4, l5] st S Q := pv_icmp_ge (pm_cdi rfl dX7_joined_22) rfl
theorem q113_25 : pm_V d 113 25 [l0, l1, l2, l3, .int xi, l5] st S Q = pm_V d 113 27 [l0, l1, l2, l3, .int xi, l5] (.int xi :: st) S Q := pv_iload (pm_cdi rfl dX7_joined_25) rfl
theorem q113_27 : pm_V d 113 27 [.ref xn, l1, l2, l3, l4, l5] st S Q = pm_V d 113 28 [.ref xn, l1, l2, l3, l4, l5] (.ref xn :: st) S Q := pv_aload_n (pm_cdi rfl dX7_joined_27) rfl
theorem q113_28 (hs : pm_sh S an = .inr 7) : pm_V d 113 28 [l0, l1, l2, l3, l4, l5] (.ref an :: st) S Q = pm_V d 113 31 [l0, l1, l2, l3, l4, l5] (va_rf (pm_gr S an 8) :: st) S Q := pv_getA (pm_cdi rfl dX7_joined_28) (by decide +kernel) (by decide +kernel) (by decide +kernel) hs
theorem q113_31 : pm_V d 113 31 [l0, l1, .int xi, l3, l4, l5] st S Q = pm_V d 113 32 [l0, l1, .int xi, l3, l4, l5] (.int xi :: st) S Q := pv_iload_n (pm_cdi rfl dX7_joined_31) rfl
theorem q113_32 (hs : pm_ar S an 0 xi = true) : pm_V d 113 32 [l0, l1, l2, l3, l4, l5] (.int xi :: .ref an :: st) S Q = pm_V d 113 33 [l0, l1, l2, l3, l4, l5] (.int (pm_zi S an xi.toNatClampNeg) :: st) S Q := pv_iald (pm_cdi rfl dX7_joined_32) hs
theorem q113_33 : pm_V d 113 33 [l0, l1, l2, l3, l4, l5] (.int yi :: .int xi :: st) S Q = if xi < yi then pm_V d 113 36 [l0, l1, l2, l3, l4, l5] st S Q else pm_V d 113 40 [l0, l1, l2, l3, l4, l5] st S Q := pv_icmp_ge (pm_cdi rfl dX7_joined_33) rfl
theorem q113_36 : pm_V d 113 36 [l0, l1, l2, l3, l4, l5] st S Q = pm_V d 113 37 [l0, l1, l2, l3, l4, l5] (.int 1 :: st) S Q := pv_iconst (pm_cdi rfl dX7_joined_36) (by decide +kernel)
theorem q113_37 : pm_V d 113 37 [l0, l1, l2, l3, l4, l5] st S Q = pm_V d 113 41 [l0, l1, l2, l3, l4, l5] st S Q := pv_goto (pm_cdi rfl dX7_joined_37) rfl
theorem q113_40 : pm_V d 113 40 [l0, l1, l2, l3, l4, l5] st S Q = pm_V d 113 41 [l0, l1, l2, l3, l4, l5] (.int 0 :: st) S Q := pv_iconst (pm_cdi rfl dX7_joined_40) (by decide +kernel)
theorem q113_41 : pm_V d 113 41 [l0, l1, l2, l3, .int yi, l5] (.int xi :: st) S Q = pm_V d 113 43 [l0, l1, l2, l3, .int yi, .int xi] st S Q := pv_istore (pm_cdi rfl dX7_joined_41) rfl
theorem q113_43 : pm_V d 113 43 [.ref xn, l1, l2, l3, l4, l5] st S Q = pm_V d 113 44 [.ref xn, l1, l2, l3, l4, l5] (.ref xn :: st) S Q := pv_aload_n (pm_cdi rfl dX7_joined_43) rfl
theorem q113_44 : pm_V d 113 44 [l0, .int xi, l2, l3, l4, l5] st S Q = pm_V d 113 45 [l0, .int xi, l2, l3, l4, l5] (.int xi :: st) S Q := pv_iload_n (pm_cdi rfl dX7_joined_44) rfl
theorem q113_45 : pm_V d 113 45 [l0, l1, l2, l3, l4, .int xi] st S Q = pm_V d 113 47 [l0, l1, l2, l3, l4, .int xi] (.int xi :: st) S Q := pv_iload (pm_cdi rfl dX7_joined_45) rfl
theorem q113_47 : pm_V d 113 47 [l0, l1, l2, l3, l4, l5] (.int xi :: st) S Q = if xi = 0 then pm_V d 113 60 [l0, l1, l2, l3, l4, l5] st S Q else pm_V d 113 50 [l0, l1, l2, l3, l4, l5] st S Q := pv_if_eq (pm_cdi rfl dX7_joined_47) rfl
theorem q113_50 : pm_V d 113 50 [.ref xn, l1, l2, l3, l4, l5] st S Q = pm_V d 113 51 [.ref xn, l1, l2, l3, l4, l5] (.ref xn :: st) S Q := pv_aload_n (pm_cdi rfl dX7_joined_50) rfl
theorem q113_51 : pm_V d 113 51 [l0, l1, .int xi, l3, l4, l5] st S Q = pm_V d 113 52 [l0, l1, .int xi, l3, l4, l5] (.int xi :: st) S Q := pv_iload_n (pm_cdi rfl dX7_joined_51) rfl
theorem q113_52 : pm_V d 113 52 [l0, l1, l2, l3, .int xi, l5] st S Q = pm_V d 113 54 [l0, l1, l2, l3, .int xi, l5] (.int xi :: st) S Q := pv_iload (pm_cdi rfl dX7_joined_52) rfl
theorem q113_54 (hs : pm_sh S an = .inr 7) : pm_V (d + 1) 113 54 [l0, l1, l2, l3, l4, l5] [.int v1i, .int v0i, .ref an, .int r0i, .ref r1n] S Q = pm_N d 106 [.ref an, .int v0i, .int v1i] S (fun r S' => pm_V (d + 1) 113 57 [l0, l1, l2, l3, l4, l5] (r.toList ++ [.int r0i, .ref r1n]) S' Q) := pv_callV (as := [.int v0i, .int v1i]) (pm_cdi rfl dX7_joined_54) (Or.inl (by decide +kernel)) (by decide +kernel) (show _ = _ from (by decide +kernel : 2 = pm_np 106)) rfl (Nat.le_of_ble_eq_true rfl) (cl := 7) (by decide +kernel) hs
theorem q113_57 : pm_V d 113 57 [l0, l1, l2, l3, l4, l5] st S Q = pm_V d 113 67 [l0, l1, l2, l3, l4, l5] st S Q := pv_goto (pm_cdi rfl dX7_joined_57) rfl
theorem q113_60 : pm_V d 113 60 [.ref xn, l1, l2, l3, l4, l5] st S Q = pm_V d 113 61 [.ref xn, l1, l2, l3, l4, l5] (.ref xn :: st) S Q := pv_aload_n (pm_cdi rfl dX7_joined_60) rfl
theorem q113_61 : pm_V d 113 61 [l0, l1, l2, .int xi, l4, l5] st S Q = pm_V d 113 62 [l0, l1, l2, .int xi, l4, l5] (.int xi :: st) S Q := pv_iload_n (pm_cdi rfl dX7_joined_61) rfl
theorem q113_62 : pm_V d 113 62 [l0, l1, l2, l3, .int xi, l5] st S Q = pm_V d 113 64 [l0, l1, l2, l3, .int xi, l5] (.int xi :: st) S Q := pv_iload (pm_cdi rfl dX7_joined_62) rfl
theorem q113_64 (hs : pm_sh S an = .inr 7) : pm_V (d + 1) 113 64 [l0, l1, l2, l3, l4, l5] [.int v1i, .int v0i, .ref an, .int r0i, .ref r1n] S Q = pm_N d 106 [.ref an, .int v0i, .int v1i] S (fun r S' => pm_V (d + 1) 113 67 [l0, l1, l2, l3, l4, l5] (r.toList ++ [.int r0i, .ref r1n]) S' Q) := pv_callV (as := [.int v0i, .int v1i]) (pm_cdi rfl dX7_joined_64) (Or.inl (by decide +kernel)) (by decide +kernel) (show _ = _ from (by decide +kernel : 2 = pm_np 106)) rfl (Nat.le_of_ble_eq_true rfl) (cl := 7) (by decide +kernel) hs
theorem q113_67 : pm_V d 113 67 [l0, l1, l2, l3, l4, .int xi] st S Q = pm_V d 113 69 [l0, l1, l2, l3, l4, .int xi] (.int xi :: st) S Q := pv_iload (pm_cdi rfl dX7_joined_67) rfl
theorem q113_69 : pm_V d 113 69 [l0, l1, l2, l3, l4, l5] (.int xi :: st) S Q = if xi = 0 then pm_V d 113 77 [l0, l1, l2, l3, l4, l5] st S Q else pm_V d 113 72 [l0, l1, l2, l3, l4, l5] st S Q := pv_if_eq (pm_cdi rfl dX7_joined_69) rfl
theorem q113_72 : pm_V d 113 72 [l0, l1, l2, l3, .int xi, l5] st S Q = pm_V d 113 74 [l0, l1, l2, l3, .int xi, l5] (.int xi :: st) S Q := pv_iload (pm_cdi rfl dX7_joined_72) rfl
theorem q113_74 : pm_V d 113 74 [l0, l1, l2, l3, l4, l5] st S Q = pm_V d 113 79 [l0, l1, l2, l3, l4, l5] st S Q := pv_goto (pm_cdi rfl dX7_joined_74) rfl
theorem q113_77 : pm_V d 113 77 [l0, l1, l2, l3, l4, l5] st S Q = pm_V d 113 79 [l0, l1, l2, l3, l4, l5] (.int (-1000004) :: st) S Q := pv_ldc (pm_cdi rfl dX7_joined_77) (by decide +kernel)
theorem q113_79 : pm_V d 113 79 [l0, l1, l2, l3, .int xi, l5] st S Q = pm_V d 113 81 [l0, l1, l2, l3, .int xi, l5] (.int xi :: st) S Q := pv_iload (pm_cdi rfl dX7_joined_79) rfl
theorem q113_81 : pm_V d 113 81 [.ref xn, l1, l2, l3, l4, l5] st S Q = pm_V d 113 82 [.ref xn, l1, l2, l3, l4, l5] (.ref xn :: st) S Q := pv_aload_n (pm_cdi rfl dX7_joined_81) rfl
theorem q113_82 (hs : pm_sh S an = .inr 7) : pm_V d 113 82 [l0, l1, l2, l3, l4, l5] (.ref an :: st) S Q = pm_V d 113 85 [l0, l1, l2, l3, l4, l5] (va_rf (pm_gr S an 8) :: st) S Q := pv_getA (pm_cdi rfl dX7_joined_82) (by decide +kernel) (by decide +kernel) (by decide +kernel) hs
theorem q113_85 : pm_V d 113 85 [l0, l1, l2, .int xi, l4, l5] st S Q = pm_V d 113 86 [l0, l1, l2, .int xi, l4, l5] (.int xi :: st) S Q := pv_iload_n (pm_cdi rfl dX7_joined_85) rfl
theorem q113_86 (hs : pm_ar S an 0 xi = true) : pm_V d 113 86 [l0, l1, l2, l3, l4, l5] (.int xi :: .ref an :: st) S Q = pm_V d 113 87 [l0, l1, l2, l3, l4, l5] (.int (pm_zi S an xi.toNatClampNeg) :: st) S Q := pv_iald (pm_cdi rfl dX7_joined_86) hs
theorem q113_87 : pm_V d 113 87 [l0, l1, l2, l3, l4, l5] (.int yi :: .int xi :: st) S Q = if xi < yi then pm_V d 113 90 [l0, l1, l2, l3, l4, l5] st S Q else pm_V d 113 95 [l0, l1, l2, l3, l4, l5] st S Q := pv_icmp_ge (pm_cdi rfl dX7_joined_87) rfl
theorem q113_90 : pm_V d 113 90 [l0, l1, l2, l3, .int xi, l5] st S Q = pm_V d 113 92 [l0, l1, l2, l3, .int xi, l5] (.int xi :: st) S Q := pv_iload (pm_cdi rfl dX7_joined_90) rfl
theorem q113_92 : pm_V d 113 92 [l0, l1, l2, l3, l4, l5] st S Q = pm_V d 113 97 [l0, l1, l2, l3, l4, l5] st S Q := pv_goto (pm_cdi rfl dX7_joined_92) rfl
theorem q113_95 : pm_V d 113 95 [l0, l1, l2, l3, l4, l5] st S Q = pm_V d 113 97 [l0, l1, l2, l3, l4, l5] (.int (-1000004) :: st) S Q := pv_ldc (pm_cdi rfl dX7_joined_95) (by decide +kernel)
theorem q113_97 (hs : pm_sh S an = .inr 7) : pm_V (d + 1) 113 97 [l0, l1, l2, l3, l4, l5] [.int v3i, .int v2i, .long v1j, .int v0i, .ref an] S Q = pm_N d 102 [.ref an, .int v0i, .long v1j, .int v2i, .int v3i] S (fun r S' => pm_V (d + 1) 113 100 [l0, l1, l2, l3, l4, l5] (r.toList ++ []) S' Q) := pv_callV (as := [.int v0i, .long v1j, .int v2i, .int v3i]) (pm_cdi rfl dX7_joined_97) (Or.inl (by decide +kernel)) (by decide +kernel) (show _ = _ from (by decide +kernel : 4 = pm_np 102)) rfl (Nat.le_of_ble_eq_true rfl) (cl := 7) (by decide +kernel) hs
theorem q113_100 : pm_V d 113 100 [l0, l1, l2, .int yi, .int xi, l5] st S Q = pm_V d 113 103 [l0, l1, l2, .int yi, .int (xi + 1), l5] st S Q := pv_iinc (pm_cdi rfl dX7_joined_100) rfl (by decide +kernel) rfl
theorem q113_103 : pm_V d 113 103 [l0, l1, l2, l3, l4, l5] st S Q = pm_V d 113 3 [l0, l1, l2, l3, l4, l5] st S Q := pv_goto (pm_cdi rfl dX7_joined_103) rfl
theorem q113_106 : pm_V d 113 106 [l0, l1, l2, l3, l4, l5] st S Q = pm_V d 113 107 [l0, l1, l2, l3, l4, l5] (.int 0 :: st) S Q := pv_iconst (pm_cdi rfl dX7_joined_106) (by decide +kernel)
theorem q113_107 : pm_V d 113 107 [l0, l1, l2, .int yi, l4, l5] (.int xi :: st) S Q = pm_V d 113 109 [l0, l1, l2, .int yi, .int xi, l5] st S Q := pv_istore (pm_cdi rfl dX7_joined_107) rfl
theorem q113_109 : pm_V d 113 109 [l0, l1, l2, l3, .int xi, l5] st S Q = pm_V d 113 111 [l0, l1, l2, l3, .int xi, l5] (.int xi :: st) S Q := pv_iload (pm_cdi rfl dX7_joined_109) rfl
theorem q113_111 : pm_V d 113 111 [.ref xn, l1, l2, l3, l4, l5] st S Q = pm_V d 113 112 [.ref xn, l1, l2, l3, l4, l5] (.ref xn :: st) S Q := pv_aload_n (pm_cdi rfl dX7_joined_111) rfl
theorem q113_112 (hs : pm_sh S an = .inr 7) : pm_V d 113 112 [l0, l1, l2, l3, l4, l5] (.ref an :: st) S Q = pm_V d 113 115 [l0, l1, l2, l3, l4, l5] (va_rf (pm_gr S an 9) :: st) S Q := pv_getA (pm_cdi rfl dX7_joined_112) (by decide +kernel) (by decide +kernel) (by decide +kernel) hs
theorem q113_115 : pm_V d 113 115 [l0, l1, .int xi, l3, l4, l5] st S Q = pm_V d 113 116 [l0, l1, .int xi, l3, l4, l5] (.int xi :: st) S Q := pv_iload_n (pm_cdi rfl dX7_joined_115) rfl
theorem q113_116 (hs : pm_ar S an 0 xi = true) : pm_V d 113 116 [l0, l1, l2, l3, l4, l5] (.int xi :: .ref an :: st) S Q = pm_V d 113 117 [l0, l1, l2, l3, l4, l5] (.int (pm_zi S an xi.toNatClampNeg) :: st) S Q := pv_iald (pm_cdi rfl dX7_joined_116) hs
theorem q113_117 : pm_V d 113 117 [l0, l1, l2, l3, l4, l5] (.int yi :: .int xi :: st) S Q = if xi < yi then pm_V d 113 120 [l0, l1, l2, l3, l4, l5] st S Q else pm_V d 113 156 [l0, l1, l2, l3, l4, l5] st S Q := pv_icmp_ge (pm_cdi rfl dX7_joined_117) rfl
theorem q113_120 : pm_V d 113 120 [.ref xn, l1, l2, l3, l4, l5] st S Q = pm_V d 113 121 [.ref xn, l1, l2, l3, l4, l5] (.ref xn :: st) S Q := pv_aload_n (pm_cdi rfl dX7_joined_120) rfl
theorem q113_121 : pm_V d 113 121 [l0, .int xi, l2, l3, l4, l5] st S Q = pm_V d 113 122 [l0, .int xi, l2, l3, l4, l5] (.int xi :: st) S Q := pv_iload_n (pm_cdi rfl dX7_joined_121) rfl
theorem q113_122 : pm_V d 113 122 [.ref xn, l1, l2, l3, l4, l5] st S Q = pm_V d 113 123 [.ref xn, l1, l2, l3, l4, l5] (.ref xn :: st) S Q := pv_aload_n (pm_cdi rfl dX7_joined_122) rfl
theorem q113_123 : pm_V d 113 123 [l0, l1, .int xi, l3, l4, l5] st S Q = pm_V d 113 124 [l0, l1, .int xi, l3, l4, l5] (.int xi :: st) S Q := pv_iload_n (pm_cdi rfl dX7_joined_123) rfl
theorem q113_124 : pm_V d 113 124 [l0, l1, l2, l3, .int xi, l5] st S Q = pm_V d 113 126 [l0, l1, l2, l3, .int xi, l5] (.int xi :: st) S Q := pv_iload (pm_cdi rfl dX7_joined_124) rfl
theorem q113_126 (hs : pm_sh S an = .inr 7) : pm_V (d + 1) 113 126 [l0, l1, l2, l3, l4, l5] [.int v1i, .int v0i, .ref an, .int r0i, .ref r1n] S Q = pm_N d 104 [.ref an, .int v0i, .int v1i] S (fun r S' => pm_V (d + 1) 113 129 [l0, l1, l2, l3, l4, l5] (r.toList ++ [.int r0i, .ref r1n]) S' Q) := pv_callV (as := [.int v0i, .int v1i]) (pm_cdi rfl dX7_joined_126) (Or.inl (by decide +kernel)) (by decide +kernel) (show _ = _ from (by decide +kernel : 2 = pm_np 104)) rfl (Nat.le_of_ble_eq_true rfl) (cl := 7) (by decide +kernel) hs
theorem q113_129 : pm_V d 113 129 [.ref xn, l1, l2, l3, l4, l5] st S Q = pm_V d 113 130 [.ref xn, l1, l2, l3, l4, l5] (.ref xn :: st) S Q := pv_aload_n (pm_cdi rfl dX7_joined_129) rfl
theorem q113_130 : pm_V d 113 130 [l0, l1, .int xi, l3, l4, l5] st S Q = pm_V d 113 131 [l0, l1, .int xi, l3, l4, l5] (.int xi :: st) S Q := pv_iload_n (pm_cdi rfl dX7_joined_130) rfl
theorem q113_131 : pm_V d 113 131 [l0, l1, l2, l3, .int xi, l5] st S Q = pm_V d 113 133 [l0, l1, l2, l3, .int xi, l5] (.int xi :: st) S Q := pv_iload (pm_cdi rfl dX7_joined_131) rfl
theorem q113_133 (hs : pm_sh S an = .inr 7) : pm_V (d + 1) 113 133 [l0, l1, l2, l3, l4, l5] [.int v1i, .int v0i, .ref an, .int r0i, .int r1i, .ref r2n] S Q = pm_N d 105 [.ref an, .int v0i, .int v1i] S (fun r S' => pm_V (d + 1) 113 136 [l0, l1, l2, l3, l4, l5] (r.toList ++ [.int r0i, .int r1i, .ref r2n]) S' Q) := pv_callV (as := [.int v0i, .int v1i]) (pm_cdi rfl dX7_joined_133) (Or.inl (by decide +kernel)) (by decide +kernel) (show _ = _ from (by decide +kernel : 2 = pm_np 105)) rfl (Nat.le_of_ble_eq_true rfl) (cl := 7) (by decide +kernel) hs
theorem q113_136 : pm_V d 113 136 [.ref xn, l1, l2, l3, l4, l5] st S Q = pm_V d 113 137 [.ref xn, l1, l2, l3, l4, l5] (.ref xn :: st) S Q := pv_aload_n (pm_cdi rfl dX7_joined_136) rfl
theorem q113_137 : pm_V d 113 137 [l0, l1, .int xi, l3, l4, l5] st S Q = pm_V d 113 138 [l0, l1, .int xi, l3, l4, l5] (.int xi :: st) S Q := pv_iload_n (pm_cdi rfl dX7_joined_137) rfl
theorem q113_138 : pm_V d 113 138 [l0, l1, l2, l3, .int xi, l5] st S Q = pm_V d 113 140 [l0, l1, l2, l3, .int xi, l5] (.int xi :: st) S Q := pv_iload (pm_cdi rfl dX7_joined_138) rfl
theorem q113_140 (hs : pm_sh S an = .inr 7) : pm_V (d + 1) 113 140 [l0, l1, l2, l3, l4, l5] [.int v1i, .int v0i, .ref an, .int r0i, .int r1i, .int r2i, .ref r3n] S Q = pm_N d 107 [.ref an, .int v0i, .int v1i] S (fun r S' => pm_V (d + 1) 113 143 [l0, l1, l2, l3, l4, l5] (r.toList ++ [.int r0i, .int r1i, .int r2i, .ref r3n]) S' Q) := pv_callV (as := [.int v0i, .int v1i]) (pm_cdi rfl dX7_joined_140) (Or.inl (by decide +kernel)) (by decide +kernel) (show _ = _ from (by decide +kernel : 2 = pm_np 107)) rfl (Nat.le_of_ble_eq_true rfl) (cl := 7) (by decide +kernel) hs
theorem q113_143 : pm_V d 113 143 [l0, l1, l2, l3, .int xi, l5] st S Q = pm_V d 113 145 [l0, l1, l2, l3, .int xi, l5] (.int xi :: st) S Q := pv_iload (pm_cdi rfl dX7_joined_143) rfl
theorem q113_145 : pm_V d 113 145 [l0, l1, l2, l3, l4, l5] st S Q = pm_V d 113 147 [l0, l1, l2, l3, l4, l5] (.int (-1000004) :: st) S Q := pv_ldc (pm_cdi rfl dX7_joined_145) (by decide +kernel)
theorem q113_147 (hs : pm_sh S an = .inr 7) : pm_V (d + 1) 113 147 [l0, l1, l2, l3, l4, l5] [.int v5i, .int v4i, .long v3j, .int v2i, .int v1i, .int v0i, .ref an] S Q = pm_N d 103 [.ref an, .int v0i, .int v1i, .int v2i, .long v3j, .int v4i, .int v5i] S (fun r S' => pm_V (d + 1) 113 150 [l0, l1, l2, l3, l4, l5] (r.toList ++ []) S' Q) := pv_callV (as := [.int v0i, .int v1i, .int v2i, .long v3j, .int v4i, .int v5i]) (pm_cdi rfl dX7_joined_147) (Or.inl (by decide +kernel)) (by decide +kernel) (show _ = _ from (by decide +kernel : 6 = pm_np 103)) rfl (Nat.le_of_ble_eq_true rfl) (cl := 7) (by decide +kernel) hs
theorem q113_150 : pm_V d 113 150 [l0, l1, l2, .int yi, .int xi, l5] st S Q = pm_V d 113 153 [l0, l1, l2, .int yi, .int (xi + 1), l5] st S Q := pv_iinc (pm_cdi rfl dX7_joined_150) rfl (by decide +kernel) rfl
theorem q113_153 : pm_V d 113 153 [l0, l1, l2, l3, l4, l5] st S Q = pm_V d 113 109 [l0, l1, l2, l3, l4, l5] st S Q := pv_goto (pm_cdi rfl dX7_joined_153) rfl
theorem q113_156 : pm_V d 113 156 [l0, l1, l2, l3, l4, l5] st S Q = pm_V d 113 157 [l0, l1, l2, l3, l4, l5] (.int 0 :: st) S Q := pv_iconst (pm_cdi rfl dX7_joined_156) (by decide +kernel)
theorem q113_157 : pm_V d 113 157 [l0, l1, l2, .int yi, l4, l5] (.int xi :: st) S Q = pm_V d 113 159 [l0, l1, l2, .int yi, .int xi, l5] st S Q := pv_istore (pm_cdi rfl dX7_joined_157) rfl
theorem q113_159 : pm_V d 113 159 [l0, l1, l2, l3, .int xi, l5] st S Q = pm_V d 113 161 [l0, l1, l2, l3, .int xi, l5] (.int xi :: st) S Q := pv_iload (pm_cdi rfl dX7_joined_159) rfl
theorem q113_161 : pm_V d 113 161 [.ref xn, l1, l2, l3, l4, l5] st S Q = pm_V d 113 162 [.ref xn, l1, l2, l3, l4, l5] (.ref xn :: st) S Q := pv_aload_n (pm_cdi rfl dX7_joined_161) rfl
theorem q113_162 (hs : pm_sh S an = .inr 7) : pm_V d 113 162 [l0, l1, l2, l3, l4, l5] (.ref an :: st) S Q = pm_V d 113 165 [l0, l1, l2, l3, l4, l5] (va_rf (pm_gr S an 9) :: st) S Q := pv_getA (pm_cdi rfl dX7_joined_162) (by decide +kernel) (by decide +kernel) (by decide +kernel) hs
theorem q113_165 : pm_V d 113 165 [l0, l1, l2, .int xi, l4, l5] st S Q = pm_V d 113 166 [l0, l1, l2, .int xi, l4, l5] (.int xi :: st) S Q := pv_iload_n (pm_cdi rfl dX7_joined_165) rfl
theorem q113_166 (hs : pm_ar S an 0 xi = true) : pm_V d 113 166 [l0, l1, l2, l3, l4, l5] (.int xi :: .ref an :: st) S Q = pm_V d 113 167 [l0, l1, l2, l3, l4, l5] (.int (pm_zi S an xi.toNatClampNeg) :: st) S Q := pv_iald (pm_cdi rfl dX7_joined_166) hs
theorem q113_167 : pm_V d 113 167 [l0, l1, l2, l3, l4, l5] (.int yi :: .int xi :: st) S Q = if xi < yi then pm_V d 113 170 [l0, l1, l2, l3, l4, l5] st S Q else pm_V d 113 228 [l0, l1, l2, l3, l4, l5] st S Q := pv_icmp_ge (pm_cdi rfl dX7_joined_167) rfl
theorem q113_170 : pm_V d 113 170 [.ref xn, l1, l2, l3, l4, l5] st S Q = pm_V d 113 171 [.ref xn, l1, l2, l3, l4, l5] (.ref xn :: st) S Q := pv_aload_n (pm_cdi rfl dX7_joined_170) rfl
theorem q113_171 : pm_V d 113 171 [l0, l1, .int xi, l3, l4, l5] st S Q = pm_V d 113 172 [l0, l1, .int xi, l3, l4, l5] (.int xi :: st) S Q := pv_iload_n (pm_cdi rfl dX7_joined_171) rfl
theorem q113_172 : pm_V d 113 172 [.ref xn, l1, l2, l3, l4, l5] st S Q = pm_V d 113 173 [.ref xn, l1, l2, l3, l4, l5] (.ref xn :: st) S Q := pv_aload_n (pm_cdi rfl dX7_joined_172) rfl
theorem q113_173 : pm_V d 113 173 [l0, l1, l2, .int xi, l4, l5] st S Q = pm_V d 113 174 [l0, l1, l2, .int xi, l4, l5] (.int xi :: st) S Q := pv_iload_n (pm_cdi rfl dX7_joined_173) rfl
theorem q113_174 : pm_V d 113 174 [l0, l1, l2, l3, .int xi, l5] st S Q = pm_V d 113 176 [l0, l1, l2, l3, .int xi, l5] (.int xi :: st) S Q := pv_iload (pm_cdi rfl dX7_joined_174) rfl
theorem q113_176 (hs : pm_sh S an = .inr 7) : pm_V (d + 1) 113 176 [l0, l1, l2, l3, l4, l5] [.int v1i, .int v0i, .ref an, .int r0i, .ref r1n] S Q = pm_N d 104 [.ref an, .int v0i, .int v1i] S (fun r S' => pm_V (d + 1) 113 179 [l0, l1, l2, l3, l4, l5] (r.toList ++ [.int r0i, .ref r1n]) S' Q) := pv_callV (as := [.int v0i, .int v1i]) (pm_cdi rfl dX7_joined_176) (Or.inl (by decide +kernel)) (by decide +kernel) (show _ = _ from (by decide +kernel : 2 = pm_np 104)) rfl (Nat.le_of_ble_eq_true rfl) (cl := 7) (by decide +kernel) hs
theorem q113_179 : pm_V d 113 179 [.ref xn, l1, l2, l3, l4, l5] st S Q = pm_V d 113 180 [.ref xn, l1, l2, l3, l4, l5] (.ref xn :: st) S Q := pv_aload_n (pm_cdi rfl dX7_joined_179) rfl
theorem q113_180 : pm_V d 113 180 [l0, l1, l2, .int xi, l4, l5] st S Q = pm_V d 113 181 [l0, l1, l2, .int xi, l4, l5] (.int xi :: st) S Q := pv_iload_n (pm_cdi rfl dX7_joined_180) rfl
theorem q113_181 : pm_V d 113 181 [l0, l1, l2, l3, .int xi, l5] st S Q = pm_V d 113 183 [l0, l1, l2, l3, .int xi, l5] (.int xi :: st) S Q := pv_iload (pm_cdi rfl dX7_joined_181) rfl
theorem q113_183 (hs : pm_sh S an = .inr 7) : pm_V (d + 1) 113 183 [l0, l1, l2, l3, l4, l5] [.int v1i, .int v0i, .ref an, .int r0i, .int r1i, .ref r2n] S Q = pm_N d 105 [.ref an, .int v0i, .int v1i] S (fun r S' => pm_V (d + 1) 113 186 [l0, l1, l2, l3, l4, l5] (r.toList ++ [.int r0i, .int r1i, .ref r2n]) S' Q) := pv_callV (as := [.int v0i, .int v1i]) (pm_cdi rfl dX7_joined_183) (Or.inl (by decide +kernel)) (by decide +kernel) (show _ = _ from (by decide +kernel : 2 = pm_np 105)) rfl (Nat.le_of_ble_eq_true rfl) (cl := 7) (by decide +kernel) hs
theorem q113_186 (hs : pm_sh S an = .inr 7) : pm_V (d + 1) 113 186 [l0, l1, l2, l3, l4, l5] [.int v2i, .int v1i, .int v0i, .ref an] S Q = pm_N d 108 [.ref an, .int v0i, .int v1i, .int v2i] S (fun r S' => pm_V (d + 1) 113 189 [l0, l1, l2, l3, l4, l5] (r.toList ++ []) S' Q) := pv_callV (as := [.int v0i, .int v1i, .int v2i]) (pm_cdi rfl dX7_joined_186) (Or.inl (by decide +kernel)) (by decide +kernel) (show _ = _ from (by decide +kernel : 3 = pm_np 108)) rfl (Nat.le_of_ble_eq_true rfl) (cl := 7) (by decide +kernel) hs
theorem q113_189 : pm_V d 113 189 [l0, l1, l2, l3, l4, l5] (.int xi :: st) S Q = if xi = 0 then pm_V d 113 192 [l0, l1, l2, l3, l4, l5] st S Q else pm_V d 113 222 [l0, l1, l2, l3, l4, l5] st S Q := pv_if_ne (pm_cdi rfl dX7_joined_189) rfl
theorem q113_192 : pm_V d 113 192 [.ref xn, l1, l2, l3, l4, l5] st S Q = pm_V d 113 193 [.ref xn, l1, l2, l3, l4, l5] (.ref xn :: st) S Q := pv_aload_n (pm_cdi rfl dX7_joined_192) rfl
theorem q113_193 : pm_V d 113 193 [l0, .int xi, l2, l3, l4, l5] st S Q = pm_V d 113 194 [l0, .int xi, l2, l3, l4, l5] (.int xi :: st) S Q := pv_iload_n (pm_cdi rfl dX7_joined_193) rfl
theorem q113_194 : pm_V d 113 194 [.ref xn, l1, l2, l3, l4, l5] st S Q = pm_V d 113 195 [.ref xn, l1, l2, l3, l4, l5] (.ref xn :: st) S Q := pv_aload_n (pm_cdi rfl dX7_joined_194) rfl
theorem q113_195 : pm_V d 113 195 [l0, l1, l2, .int xi, l4, l5] st S Q = pm_V d 113 196 [l0, l1, l2, .int xi, l4, l5] (.int xi :: st) S Q := pv_iload_n (pm_cdi rfl dX7_joined_195) rfl
theorem q113_196 : pm_V d 113 196 [l0, l1, l2, l3, .int xi, l5] st S Q = pm_V d 113 198 [l0, l1, l2, l3, .int xi, l5] (.int xi :: st) S Q := pv_iload (pm_cdi rfl dX7_joined_196) rfl
theorem q113_198 (hs : pm_sh S an = .inr 7) : pm_V (d + 1) 113 198 [l0, l1, l2, l3, l4, l5] [.int v1i, .int v0i, .ref an, .int r0i, .ref r1n] S Q = pm_N d 104 [.ref an, .int v0i, .int v1i] S (fun r S' => pm_V (d + 1) 113 201 [l0, l1, l2, l3, l4, l5] (r.toList ++ [.int r0i, .ref r1n]) S' Q) := pv_callV (as := [.int v0i, .int v1i]) (pm_cdi rfl dX7_joined_198) (Or.inl (by decide +kernel)) (by decide +kernel) (show _ = _ from (by decide +kernel : 2 = pm_np 104)) rfl (Nat.le_of_ble_eq_true rfl) (cl := 7) (by decide +kernel) hs
theorem q113_201 : pm_V d 113 201 [.ref xn, l1, l2, l3, l4, l5] st S Q = pm_V d 113 202 [.ref xn, l1, l2, l3, l4, l5] (.ref xn :: st) S Q := pv_aload_n (pm_cdi rfl dX7_joined_201) rfl
theorem q113_202 : pm_V d 113 202 [l0, l1, l2, .int xi, l4, l5] st S Q = pm_V d 113 203 [l0, l1, l2, .int xi, l4, l5] (.int xi :: st) S Q := pv_iload_n (pm_cdi rfl dX7_joined_202) rfl
theorem q113_203 : pm_V d 113 203 [l0, l1, l2, l3, .int xi, l5] st S Q = pm_V d 113 205 [l0, l1, l2, l3, .int xi, l5] (.int xi :: st) S Q := pv_iload (pm_cdi rfl dX7_joined_203) rfl
theorem q113_205 (hs : pm_sh S an = .inr 7) : pm_V (d + 1) 113 205 [l0, l1, l2, l3, l4, l5] [.int v1i, .int v0i, .ref an, .int r0i, .int r1i, .ref r2n] S Q = pm_N d 105 [.ref an, .int v0i, .int v1i] S (fun r S' => pm_V (d + 1) 113 208 [l0, l1, l2, l3, l4, l5] (r.toList ++ [.int r0i, .int r1i, .ref r2n]) S' Q) := pv_callV (as := [.int v0i, .int v1i]) (pm_cdi rfl dX7_joined_205) (Or.inl (by decide +kernel)) (by decide +kernel) (show _ = _ from (by decide +kernel : 2 = pm_np 105)) rfl (Nat.le_of_ble_eq_true rfl) (cl := 7) (by decide +kernel) hs
theorem q113_208 : pm_V d 113 208 [.ref xn, l1, l2, l3, l4, l5] st S Q = pm_V d 113 209 [.ref xn, l1, l2, l3, l4, l5] (.ref xn :: st) S Q := pv_aload_n (pm_cdi rfl dX7_joined_208) rfl
theorem q113_209 : pm_V d 113 209 [l0, l1, l2, .int xi, l4, l5] st S Q = pm_V d 113 210 [l0, l1, l2, .int xi, l4, l5] (.int xi :: st) S Q := pv_iload_n (pm_cdi rfl dX7_joined_209) rfl
theorem q113_210 : pm_V d 113 210 [l0, l1, l2, l3, .int xi, l5] st S Q = pm_V d 113 212 [l0, l1, l2, l3, .int xi, l5] (.int xi :: st) S Q := pv_iload (pm_cdi rfl dX7_joined_210) rfl
theorem q113_212 (hs : pm_sh S an = .inr 7) : pm_V (d + 1) 113 212 [l0, l1, l2, l3, l4, l5] [.int v1i, .int v0i, .ref an, .int r0i, .int r1i, .int r2i, .ref r3n] S Q = pm_N d 107 [.ref an, .int v0i, .int v1i] S (fun r S' => pm_V (d + 1) 113 215 [l0, l1, l2, l3, l4, l5] (r.toList ++ [.int r0i, .int r1i, .int r2i, .ref r3n]) S' Q) := pv_callV (as := [.int v0i, .int v1i]) (pm_cdi rfl dX7_joined_212) (Or.inl (by decide +kernel)) (by decide +kernel) (show _ = _ from (by decide +kernel : 2 = pm_np 107)) rfl (Nat.le_of_ble_eq_true rfl) (cl := 7) (by decide +kernel) hs
theorem q113_215 : pm_V d 113 215 [l0, l1, l2, l3, l4, l5] st S Q = pm_V d 113 217 [l0, l1, l2, l3, l4, l5] (.int (-1000004) :: st) S Q := pv_ldc (pm_cdi rfl dX7_joined_215) (by decide +kernel)
theorem q113_217 : pm_V d 113 217 [l0, l1, l2, l3, .int xi, l5] st S Q = pm_V d 113 219 [l0, l1, l2, l3, .int xi, l5] (.int xi :: st) S Q := pv_iload (pm_cdi rfl dX7_joined_217) rfl
theorem q113_219 (hs : pm_sh S an = .inr 7) : pm_V (d + 1) 113 219 [l0, l1, l2, l3, l4, l5] [.int v5i, .int v4i, .long v3j, .int v2i, .int v1i, .int v0i, .ref an] S Q = pm_N d 103 [.ref an, .int v0i, .int v1i, .int v2i, .long v3j, .int v4i, .int v5i] S (fun r S' => pm_V (d + 1) 113 222 [l0, l1, l2, l3, l4, l5] (r.toList ++ []) S' Q) := pv_callV (as := [.int v0i, .int v1i, .int v2i, .long v3j, .int v4i, .int v5i]) (pm_cdi rfl dX7_joined_219) (Or.inl (by decide +kernel)) (by decide +kernel) (show _ = _ from (by decide +kernel : 6 = pm_np 103)) rfl (Nat.le_of_ble_eq_true rfl) (cl := 7) (by decide +kernel) hs
theorem q113_222 : pm_V d 113 222 [l0, l1, l2, .int yi, .int xi, l5] st S Q = pm_V d 113 225 [l0, l1, l2, .int yi, .int (xi + 1), l5] st S Q := pv_iinc (pm_cdi rfl dX7_joined_222) rfl (by decide +kernel) rfl
theorem q113_225 : pm_V d 113 225 [l0, l1, l2, l3, l4, l5] st S Q = pm_V d 113 159 [l0, l1, l2, l3, l4, l5] st S Q := pv_goto (pm_cdi rfl dX7_joined_225) rfl
theorem q113_228 : pm_V d 113 228 [l0, l1, l2, l3, l4, l5] [] S Q = Q none S := pv_rV (pm_cdi rfl dX7_joined_228) (by decide +kernel)
theorem q113_e : pm_N d 113 [.ref an, .int v0i, .int v1i, .int v2i] S Q = pm_V d 113 0 [.ref an, .int v0i, .int v1i, .int v2i, pm_j, pm_j] [] S Q := pv_ent (Nat.le_of_ble_eq_true rfl) rfl
/-! 114: ViewsJoinsModel.less(III)V -/
theorem dX7_less_0 : decode cX7_less 0 = .ok (.aload_n 0, 1) := by decide +kernel
theorem dX7_less_1 : decode cX7_less 1 = .ok (.iload_n 1, 1) := by decide +kernel
theorem dX7_less_2 : decode cX7_less 2 = .ok (.iload_n 2, 1) := by decide +kernel
theorem dX7_less_3 : decode cX7_less 3 = .ok (.invokevirtual 212, 3) := by decide +kernel
theorem dX7_less_6 : decode cX7_less 6 = .ok (.iconst 0, 1) := by decide +kernel
theorem dX7_less_7 : decode cX7_less 7 = .ok (.istore 4, 2) := by decide +kernel
theorem dX7_less_9 : decode cX7_less 9 = .ok (.iload 4, 2) := by decide +kernel
theorem dX7_less_11 : decode cX7_less 11 = .ok (.aload_n 0, 1) := by decide +kernel
theorem dX7_less_12 : decode cX7_less 12 = .ok (.getfield 35, 3) := by decide +kernel
theorem dX7_less_15 : decode cX7_less 15 = .ok (.iload_n 2, 1) := by decide +kernel
theorem dX7_less_16 : decode cX7_less 16 = .ok (.iaload, 1) := by decide +kernel
theorem dX7_less_17 : decode cX7_less 17 = .ok (.if_icmp .ge 61, 3) := by decide +kernel
theorem dX7_less_20 : decode cX7_less 20 = .ok (.aload_n 0, 1) := by decide +kernel
theorem dX7_less_21 : decode cX7_less 21 = .ok (.iload_n 3, 1) := by decide +kernel
theorem dX7_less_22 : decode cX7_less 22 = .ok (.aload_n 0, 1) := by decide +kernel
theorem dX7_less_23 : decode cX7_less 23 = .ok (.iload_n 2, 1) := by decide +kernel
theorem dX7_less_24 : decode cX7_less 24 = .ok (.iload 4, 2) := by decide +kernel
theorem dX7_less_26 : decode cX7_less 26 = .ok (.invokevirtual 181, 3) := by decide +kernel
theorem dX7_less_29 : decode cX7_less 29 = .ok (.aload_n 0, 1) := by decide +kernel
theorem dX7_less_30 : decode cX7_less 30 = .ok (.iload_n 2, 1) := by decide +kernel
theorem dX7_less_31 : decode cX7_less 31 = .ok (.iload 4, 2) := by decide +kernel
theorem dX7_less_33 : decode cX7_less 33 = .ok (.invokevirtual 185, 3) := by decide +kernel
theorem dX7_less_36 : decode cX7_less 36 = .ok (.invokevirtual 215, 3) := by decide +kernel
theorem dX7_less_39 : decode cX7_less 39 = .ok (.ifCond .ne 33, 3) := by decide +kernel
theorem dX7_less_42 : decode cX7_less 42 = .ok (.aload_n 0, 1) := by decide +kernel
theorem dX7_less_43 : decode cX7_less 43 = .ok (.iload_n 1, 1) := by decide +kernel
theorem dX7_less_44 : decode cX7_less 44 = .ok (.aload_n 0, 1) := by decide +kernel
theorem dX7_less_45 : decode cX7_less 45 = .ok (.iload_n 2, 1) := by decide +kernel
theorem dX7_less_46 : decode cX7_less 46 = .ok (.iload 4, 2) := by decide +kernel
theorem dX7_less_48 : decode cX7_less 48 = .ok (.invokevirtual 181, 3) := by decide +kernel
theorem dX7_less_51 : decode cX7_less 51 = .ok (.aload_n 0, 1) := by decide +kernel
theorem dX7_less_52 : decode cX7_less 52 = .ok (.iload_n 2, 1) := by decide +kernel
theorem dX7_less_53 : decode cX7_less 53 = .ok (.iload 4, 2) := by decide +kernel
theorem dX7_less_55 : decode cX7_less 55 = .ok (.invokevirtual 185, 3) := by decide +kernel
theorem dX7_less_58 : decode cX7_less 58 = .ok (.aload_n 0, 1) := by decide +kernel
theorem dX7_less_59 : decode cX7_less 59 = .ok (.iload_n 2, 1) := by decide +kernel
theorem dX7_less_60 : decode cX7_less 60 = .ok (.iload 4, 2) := by decide +kernel
theorem dX7_less_62 : decode cX7_less 62 = .ok (.invokevirtual 209, 3) := by decide +kernel
theorem dX7_less_65 : decode cX7_less 65 = .ok (.iload 4, 2) := by decide +kernel
theorem dX7_less_67 : decode cX7_less 67 = .ok (.ldc 139, 2) := by decide +kernel
theorem dX7_less_69 : decode cX7_less 69 = .ok (.invokevirtual 140, 3) := by decide +kernel
theorem dX7_less_72 : decode cX7_less 72 = .ok (.iinc 4 1, 3) := by decide +kernel
theorem dX7_less_75 : decode cX7_less 75 = .ok (.goto (-66), 3) := by decide +kernel
theorem dX7_less_78 : decode cX7_less 78 = .ok (.return_, 1) := by decide +kernel
theorem q114_0 : pm_V d 114 0 [.ref xn, l1, l2, l3, l4] st S Q = pm_V d 114 1 [.ref xn, l1, l2, l3, l4] (.ref xn :: st) S Q := pv_aload_n (pm_cdi rfl dX7_less_0) rfl
theorem q114_1 : pm_V d 114 1 [l0, .int xi, l2, l3, l4] st S Q = pm_V d 114 2 [l0, .int xi, l2, l3, l4] (.int xi :: st) S Q := pv_iload_n (pm_cdi rfl dX7_less_1) rfl
theorem q114_2 : pm_V d 114 2 [l0, l1, .int xi, l3, l4] st S Q = pm_V d 114 3 [l0, l1, .int xi, l3, l4] (.int xi :: st) S Q := pv_iload_n (pm_cdi rfl dX7_less_2) rfl
theorem q114_3 (hs : pm_sh S an = .inr 7) : pm_V (d + 1) 114 3 [l0, l1, l2, l3, l4] [.int v1i, .int v0i, .ref an] S Q = pm_N d 111 [.ref an, .int v0i, .int v1i] S (fun r S' => pm_V (d + 1) 114 6 [l0, l1, l2, l3, l4] (r.toList ++ []) S' Q) := pv_callV (as := [.int v0i, .int v1i]) (pm_cdi rfl dX7_less_3) (Or.inl (by decide +kernel)) (by decide +kernel) (show _ = _ from (by decide +kernel : 2 = pm_np 111)) rfl (Nat.le_of_ble_eq_true rfl) (cl := 7) (by decide +kernel) hs
theorem q114_6 : pm_V d 114 6 [l0, l1, l2, l3, l4] st S Q = pm_V d 114 7 [l0, l1, l2, l3, l4] (.int 0 :: st) S Q := pv_iconst (pm_cdi rfl dX7_less_6) (by decide +kernel)
theorem q114_7 : pm_V d 114 7 [l0, l1, l2, .int yi, l4] (.int xi :: st) S Q = pm_V d 114 9 [l0, l1, l2, .int yi, .int xi] st S Q := pv_istore (pm_cdi rfl dX7_less_7) rfl
theorem q114_9 : pm_V d 114 9 [l0, l1, l2, l3, .int xi] st S Q = pm_V d 114 11 [l0, l1, l2, l3, .int xi] (.int xi :: st) S Q := pv_iload (pm_cdi rfl dX7_less_9) rfl
theorem q114_11 : pm_V d 114 11 [.ref xn, l1, l2, l3, l4] st S Q = pm_V d 114 12 [.ref xn, l1, l2, l3, l4] (.ref xn :: st) S Q := pv_aload_n (pm_cdi rfl dX7_less_11) rfl
theorem q114_12 (hs : pm_sh S an = .inr 7) : pm_V d 114 12 [l0, l1, l2, l3, l4] (.ref an :: st) S Q = pm_V d 114 15 [l0, l1, l2, l3, l4] (va_rf (pm_gr S an 9) :: st) S Q := pv_getA (pm_cdi rfl dX7_less_12) (by decide +kernel) (by decide +kernel) (by decide +kernel) hs
theorem q114_15 : pm_V d 114 15 [l0, l1, .int xi, l3, l4] st S Q = pm_V d 114 16 [l0, l1, .int xi, l3, l4] (.int xi :: st) S Q := pv_iload_n (pm_cdi rfl dX7_less_15) rfl
theorem q114_16 (hs : pm_ar S an 0 xi = true) : pm_V d 114 16 [l0, l1, l2, l3, l4] (.int xi :: .ref an :: st) S Q = pm_V d 114 17 [l0, l1, l2, l3, l4] (.int (pm_zi S an xi.toNatClampNeg) :: st) S Q := pv_iald (pm_cdi rfl dX7_less_16) hs
theorem q114_17 : pm_V d 114 17 [l0, l1, l2, l3, l4] (.int yi :: .int xi :: st) S Q = if xi < yi then pm_V d 114 20 [l0, l1, l2, l3, l4] st S Q else pm_V d 114 78 [l0, l1, l2, l3, l4] st S Q := pv_icmp_ge (pm_cdi rfl dX7_less_17) rfl
theorem q114_20 : pm_V d 114 20 [.ref xn, l1, l2, l3, l4] st S Q = pm_V d 114 21 [.ref xn, l1, l2, l3, l4] (.ref xn :: st) S Q := pv_aload_n (pm_cdi rfl dX7_less_20) rfl
theorem q114_21 : pm_V d 114 21 [l0, l1, l2, .int xi, l4] st S Q = pm_V d 114 22 [l0, l1, l2, .int xi, l4] (.int xi :: st) S Q := pv_iload_n (pm_cdi rfl dX7_less_21) rfl
theorem q114_22 : pm_V d 114 22 [.ref xn, l1, l2, l3, l4] st S Q = pm_V d 114 23 [.ref xn, l1, l2, l3, l4] (.ref xn :: st) S Q := pv_aload_n (pm_cdi rfl dX7_less_22) rfl
theorem q114_23 : pm_V d 114 23 [l0, l1, .int xi, l3, l4] st S Q = pm_V d 114 24 [l0, l1, .int xi, l3, l4] (.int xi :: st) S Q := pv_iload_n (pm_cdi rfl dX7_less_23) rfl
theorem q114_24 : pm_V d 114 24 [l0, l1, l2, l3, .int xi] st S Q = pm_V d 114 26 [l0, l1, l2, l3, .int xi] (.int xi :: st) S Q := pv_iload (pm_cdi rfl dX7_less_24) rfl
theorem q114_26 (hs : pm_sh S an = .inr 7) : pm_V (d + 1) 114 26 [l0, l1, l2, l3, l4] [.int v1i, .int v0i, .ref an, .int r0i, .ref r1n] S Q = pm_N d 104 [.ref an, .int v0i, .int v1i] S (fun r S' => pm_V (d + 1) 114 29 [l0, l1, l2, l3, l4] (r.toList ++ [.int r0i, .ref r1n]) S' Q) := pv_callV (as := [.int v0i, .int v1i]) (pm_cdi rfl dX7_less_26) (Or.inl (by decide +kernel)) (by decide +kernel) (show _ = _ from (by decide +kernel : 2 = pm_np 104)) rfl (Nat.le_of_ble_eq_true rfl) (cl := 7) (by decide +kernel) hs
theorem q114_29 : pm_V d 114 29 [.ref xn, l1, l2, l3, l4] st S Q = pm_V d 114 30 [.ref xn, l1, l2, l3, l4] (.ref xn :: st) S Q := pv_aload_n (pm_cdi rfl dX7_less_29) rfl
theorem q114_30 : pm_V d 114 30 [l0, l1, .int xi, l3, l4] st S Q = pm_V d 114 31 [l0, l1, .int xi, l3, l4] (.int xi :: st) S Q := pv_iload_n (pm_cdi rfl dX7_less_30) rfl
theorem q114_31 : pm_V d 114 31 [l0, l1, l2, l3, .int xi] st S Q = pm_V d 114 33 [l0, l1, l2, l3, .int xi] (.int xi :: st) S Q := pv_iload (pm_cdi rfl dX7_less_31) rfl
theorem q114_33 (hs : pm_sh S an = .inr 7) : pm_V (d + 1) 114 33 [l0, l1, l2, l3, l4] [.int v1i, .int v0i, .ref an, .int r0i, .int r1i, .ref r2n] S Q = pm_N d 105 [.ref an, .int v0i, .int v1i] S (fun r S' => pm_V (d + 1) 114 36 [l0, l1, l2, l3, l4] (r.toList ++ [.int r0i, .int r1i, .ref r2n]) S' Q) := pv_callV (as := [.int v0i, .int v1i]) (pm_cdi rfl dX7_less_33) (Or.inl (by decide +kernel)) (by decide +kernel) (show _ = _ from (by decide +kernel : 2 = pm_np 105)) rfl (Nat.le_of_ble_eq_true rfl) (cl := 7) (by decide +kernel) hs
theorem q114_36 (hs : pm_sh S an = .inr 7) : pm_V (d + 1) 114 36 [l0, l1, l2, l3, l4] [.int v2i, .int v1i, .int v0i, .ref an] S Q = pm_N d 108 [.ref an, .int v0i, .int v1i, .int v2i] S (fun r S' => pm_V (d + 1) 114 39 [l0, l1, l2, l3, l4] (r.toList ++ []) S' Q) := pv_callV (as := [.int v0i, .int v1i, .int v2i]) (pm_cdi rfl dX7_less_36) (Or.inl (by decide +kernel)) (by decide +kernel) (show _ = _ from (by decide +kernel : 3 = pm_np 108)) rfl (Nat.le_of_ble_eq_true rfl) (cl := 7) (by decide +kernel) hs
theorem q114_39 : pm_V d 114 39 [l0, l1, l2, l3, l4] (.int xi :: st) S Q = if xi = 0 then pm_V d 114 42 [l0, l1, l2, l3, l4] st S Q else pm_V d 114 72 [l0, l1, l2, l3, l4] st S Q := pv_if_ne (pm_cdi rfl dX7_less_39) rfl
theorem q114_42 : pm_V d 114 42 [.ref xn, l1, l2, l3, l4] st S Q = pm_V d 114 43 [.ref xn, l1, l2, l3, l4] (.ref xn :: st) S Q := pv_aload_n (pm_cdi rfl dX7_less_42) rfl
theorem q114_43 : pm_V d 114 43 [l0, .int xi, l2, l3, l4] st S Q = pm_V d 114 44 [l0, .int xi, l2, l3, l4] (.int xi :: st) S Q := pv_iload_n (pm_cdi rfl dX7_less_43) rfl
theorem q114_44 : pm_V d 114 44 [.ref xn, l1, l2, l3, l4] st S Q = pm_V d 114 45 [.ref xn, l1, l2, l3, l4] (.ref xn :: st) S Q := pv_aload_n (pm_cdi rfl dX7_less_44) rfl
theorem q114_45 : pm_V d 114 45 [l0, l1, .int xi, l3, l4] st S Q = pm_V d 114 46 [l0, l1, .int xi, l3, l4] (.int xi :: st) S Q := pv_iload_n (pm_cdi rfl dX7_less_45) rfl
theorem q114_46 : pm_V d 114 46 [l0, l1, l2, l3, .int xi] st S Q = pm_V d 114 48 [l0, l1, l2, l3, .int xi] (.int xi :: st) S Q := pv_iload (pm_cdi rfl dX7_less_46) rfl
theorem q114_48 (hs : pm_sh S an = .inr 7) : pm_V (d + 1) 114 48 [l0, l1, l2, l3, l4] [.int v1i, .int v0i, .ref an, .int r0i, .ref r1n] S Q = pm_N d 104 [.ref an, .int v0i, .int v1i] S (fun r S' => pm_V (d + 1) 114 51 [l0, l1, l2, l3, l4] (r.toList ++ [.int r0i, .ref r1n]) S' Q) := pv_callV (as := [.int v0i, .int v1i]) (pm_cdi rfl dX7_less_48) (Or.inl (by decide +kernel)) (by decide +kernel) (show _ = _ from (by decide +kernel : 2 = pm_np 104)) rfl (Nat.le_of_ble_eq_true rfl) (cl := 7) (by decide +kernel) hs
theorem q114_51 : pm_V d 114 51 [.ref xn, l1, l2, l3, l4] st S Q = pm_V d 114 52 [.ref xn, l1, l2, l3, l4] (.ref xn :: st) S Q := pv_aload_n (pm_cdi rfl dX7_less_51) rfl
theorem q114_52 : pm_V d 114 52 [l0, l1, .int xi, l3, l4] st S Q = pm_V d 114 53 [l0, l1, .int xi, l3, l4] (.int xi :: st) S Q := pv_iload_n (pm_cdi rfl dX7_less_52) rfl
theorem q114_53 : pm_V d 114 53 [l0, l1, l2, l3, .int xi] st S Q = pm_V d 114 55 [l0, l1, l2, l3, .int xi] (.int xi :: st) S Q := pv_iload (pm_cdi rfl dX7_less_53) rfl
theorem q114_55 (hs : pm_sh S an = .inr 7) : pm_V (d + 1) 114 55 [l0, l1, l2, l3, l4] [.int v1i, .int v0i, .ref an, .int r0i, .int r1i, .ref r2n] S Q = pm_N d 105 [.ref an, .int v0i, .int v1i] S (fun r S' => pm_V (d + 1) 114 58 [l0, l1, l2, l3, l4] (r.toList ++ [.int r0i, .int r1i, .ref r2n]) S' Q) := pv_callV (as := [.int v0i, .int v1i]) (pm_cdi rfl dX7_less_55) (Or.inl (by decide +kernel)) (by decide +kernel) (show _ = _ from (by decide +kernel : 2 = pm_np 105)) rfl (Nat.le_of_ble_eq_true rfl) (cl := 7) (by decide +kernel) hs
theorem q114_58 : pm_V d 114 58 [.ref xn, l1, l2, l3, l4] st S Q = pm_V d 114 59 [.ref xn, l1, l2, l3, l4] (.ref xn :: st) S Q := pv_aload_n (pm_cdi rfl dX7_less_58) rfl
theorem q114_59 : pm_V d 114 59 [l0, l1, .int xi, l3, l4] st S Q = pm_V d 114 60 [l0, l1, .int xi, l3, l4] (.int xi :: st) S Q := pv_iload_n (pm_cdi rfl dX7_less_59) rfl
theorem q114_60 : pm_V d 114 60 [l0, l1, l2, l3, .int xi] st S Q = pm_V d 114 62 [l0, l1, l2, l3, .int xi] (.int xi :: st) S Q := pv_iload (pm_cdi rfl dX7_less_60) rfl
theorem q114_62 (hs : pm_sh S an = .inr 7) : pm_V (d + 1) 114 62 [l0, l1, l2, l3, l4] [.int v1i, .int v0i, .ref an, .int r0i, .int r1i, .int r2i, .ref r3n] S Q = pm_N d 107 [.ref an, .int v0i, .int v1i] S (fun r S' => pm_V (d + 1) 114 65 [l0, l1, l2, l3, l4] (r.toList ++ [.int r0i, .int r1i, .int r2i, .ref r3n]) S' Q) := pv_callV (as := [.int v0i, .int v1i]) (pm_cdi rfl dX7_less_62) (Or.inl (by decide +kernel)) (by decide +kernel) (show _ = _ from (by decide +kernel : 2 = pm_np 107)) rfl (Nat.le_of_ble_eq_true rfl) (cl := 7) (by decide +kernel) hs
theorem q114_65 : pm_V d 114 65 [l0, l1, l2, l3, .int xi] st S Q = pm_V d 114 67 [l0, l1, l2, l3, .int xi] (.int xi :: st) S Q := pv_iload (pm_cdi rfl dX7_less_65) rfl
theorem q114_67 : pm_V d 114 67 [l0, l1, l2, l3, l4] st S Q = pm_V d 114 69 [l0, l1, l2, l3, l4] (.int (-1000004) :: st) S Q := pv_ldc (pm_cdi rfl dX7_less_67) (by decide +kernel)
theorem q114_69 (hs : pm_sh S an = .inr 7) : pm_V (d + 1) 114 69 [l0, l1, l2, l3, l4] [.int v5i, .int v4i, .long v3j, .int v2i, .int v1i, .int v0i, .ref an] S Q = pm_N d 103 [.ref an, .int v0i, .int v1i, .int v2i, .long v3j, .int v4i, .int v5i] S (fun r S' => pm_V (d + 1) 114 72 [l0, l1, l2, l3, l4] (r.toList ++ []) S' Q) := pv_callV (as := [.int v0i, .int v1i, .int v2i, .long v3j, .int v4i, .int v5i]) (pm_cdi rfl dX7_less_69) (Or.inl (by decide +kernel)) (by decide +kernel) (show _ = _ from (by decide +kernel : 6 = pm_np 103)) rfl (Nat.le_of_ble_eq_true rfl) (cl := 7) (by decide +kernel) hs
theorem q114_72 : pm_V d 114 72 [l0, l1, l2, .int yi, .int xi] st S Q = pm_V d 114 75 [l0, l1, l2, .int yi, .int (xi + 1)] st S Q := pv_iinc (pm_cdi rfl dX7_less_72) rfl (by decide +kernel) rfl
theorem q114_75 : pm_V d 114 75 [l0, l1, l2, l3, l4] st S Q = pm_V d 114 9 [l0, l1, l2, l3, l4] st S Q := pv_goto (pm_cdi rfl dX7_less_75) rfl
theorem q114_78 : pm_V d 114 78 [l0, l1, l2, l3, l4] [] S Q = Q none S := pv_rV (pm_cdi rfl dX7_less_78) (by decide +kernel)
theorem q114_e : pm_N d 114 [.ref an, .int v0i, .int v1i, .int v2i] S Q = pm_V d 114 0 [.ref an, .int v0i, .int v1i, .int v2i, pm_j] [] S Q := pv_ent (Nat.le_of_ble_eq_true rfl) rfl
/-! 115: ViewsJoinsModel.product(III)V -/
theorem dX7_product_0 : decode cX7_product 0 = .ok (.aload_n 0, 1) := by decide +kernel
theorem dX7_product_1 : decode cX7_product 1 = .ok (.getfield 32, 3) := by decide +kernel
theorem dX7_product_4 : decode cX7_product 4 = .ok (.iload_n 3, 1) := by decide +kernel
theorem dX7_product_5 : decode cX7_product 5 = .ok (.iaload, 1) := by decide +kernel
theorem dX7_product_6 : decode cX7_product 6 = .ok (.istore 4, 2) := by decide +kernel
theorem dX7_product_8 : decode cX7_product 8 = .ok (.iconst 0, 1) := by decide +kernel
theorem dX7_product_9 : decode cX7_product 9 = .ok (.istore 5, 2) := by decide +kernel
theorem dX7_product_11 : decode cX7_product 11 = .ok (.iload 5, 2) := by decide +kernel
theorem dX7_product_13 : decode cX7_product 13 = .ok (.aload_n 0, 1) := by decide +kernel
theorem dX7_product_14 : decode cX7_product 14 = .ok (.getfield 32, 3) := by decide +kernel
theorem dX7_product_17 : decode cX7_product 17 = .ok (.iload_n 2, 1) := by decide +kernel
theorem dX7_product_18 : decode cX7_product 18 = .ok (.iaload, 1) := by decide +kernel
theorem dX7_product_19 : decode cX7_product 19 = .ok (.if_icmp .ge 49, 3) := by decide +kernel
theorem dX7_product_22 : decode cX7_product 22 = .ok (.iconst 0, 1) := by decide +kernel
theorem dX7_product_23 : decode cX7_product 23 = .ok (.istore 6, 2) := by decide +kernel
theorem dX7_product_25 : decode cX7_product 25 = .ok (.iload 6, 2) := by decide +kernel
theorem dX7_product_27 : decode cX7_product 27 = .ok (.iload 4, 2) := by decide +kernel
theorem dX7_product_29 : decode cX7_product 29 = .ok (.if_icmp .ge 33, 3) := by decide +kernel
theorem dX7_product_32 : decode cX7_product 32 = .ok (.aload_n 0, 1) := by decide +kernel
theorem dX7_product_33 : decode cX7_product 33 = .ok (.iload_n 1, 1) := by decide +kernel
theorem dX7_product_34 : decode cX7_product 34 = .ok (.aload_n 0, 1) := by decide +kernel
theorem dX7_product_35 : decode cX7_product 35 = .ok (.iload_n 2, 1) := by decide +kernel
theorem dX7_product_36 : decode cX7_product 36 = .ok (.iload 5, 2) := by decide +kernel
theorem dX7_product_38 : decode cX7_product 38 = .ok (.invokevirtual 201, 3) := by decide +kernel
theorem dX7_product_41 : decode cX7_product 41 = .ok (.aload_n 0, 1) := by decide +kernel
theorem dX7_product_42 : decode cX7_product 42 = .ok (.iload_n 3, 1) := by decide +kernel
theorem dX7_product_43 : decode cX7_product 43 = .ok (.iload 6, 2) := by decide +kernel
theorem dX7_product_45 : decode cX7_product 45 = .ok (.invokevirtual 201, 3) := by decide +kernel
theorem dX7_product_48 : decode cX7_product 48 = .ok (.ladd, 1) := by decide +kernel
theorem dX7_product_49 : decode cX7_product 49 = .ok (.iload 5, 2) := by decide +kernel
theorem dX7_product_51 : decode cX7_product 51 = .ok (.iload 6, 2) := by decide +kernel
theorem dX7_product_53 : decode cX7_product 53 = .ok (.invokevirtual 205, 3) := by decide +kernel
theorem dX7_product_56 : decode cX7_product 56 = .ok (.iinc 6 1, 3) := by decide +kernel
theorem dX7_product_59 : decode cX7_product 59 = .ok (.goto (-34), 3) := by decide +kernel
theorem dX7_product_62 : decode cX7_product 62 = .ok (.iinc 5 1, 3) := by decide +kernel
theorem dX7_product_65 : decode cX7_product 65 = .ok (.goto (-54), 3) := by decide +kernel
theorem dX7_product_68 : decode cX7_product 68 = .ok (.aload_n 0, 1) := by decide +kernel
theorem dX7_product_69 : decode cX7_product 69 = .ok (.getfield 19, 3) := by decide +kernel
theorem dX7_product_72 : decode cX7_product 72 = .ok (.iload_n 1, 1) := by decide +kernel
theorem dX7_product_73 : decode cX7_product 73 = .ok (.iaload, 1) := by decide +kernel
theorem dX7_product_74 : decode cX7_product 74 = .ok (.ifCond .le 163, 3) := by decide +kernel
theorem dX7_product_77 : decode cX7_product 77 = .ok (.iconst 0, 1) := by decide +kernel
theorem dX7_product_78 : decode cX7_product 78 = .ok (.istore 5, 2) := by decide +kernel
theorem dX7_product_80 : decode cX7_product 80 = .ok (.iload 5, 2) := by decide +kernel
theorem dX7_product_82 : decode cX7_product 82 = .ok (.aload_n 0, 1) := by decide +kernel
theorem dX7_product_83 : decode cX7_product 83 = .ok (.getfield 35, 3) := by decide +kernel
theorem dX7_product_86 : decode cX7_product 86 = .ok (.iload_n 2, 1) := by decide +kernel
theorem dX7_product_87 : decode cX7_product 87 = .ok (.iaload, 1) := by decide +kernel
theorem dX7_product_88 : decode cX7_product 88 = .ok (.if_icmp .ge 67, 3) := by decide +kernel
theorem dX7_product_91 : decode cX7_product 91 = .ok (.iconst 0, 1) := by decide +kernel
theorem dX7_product_92 : decode cX7_product 92 = .ok (.istore 6, 2) := by decide +kernel
theorem dX7_product_94 : decode cX7_product 94 = .ok (.iload 6, 2) := by decide +kernel
theorem dX7_product_96 : decode cX7_product 96 = .ok (.iload 4, 2) := by decide +kernel
theorem dX7_product_98 : decode cX7_product 98 = .ok (.if_icmp .ge 51, 3) := by decide +kernel
theorem dX7_product_101 : decode cX7_product 101 = .ok (.aload_n 0, 1) := by decide +kernel
theorem dX7_product_102 : decode cX7_product 102 = .ok (.iload_n 1, 1) := by decide +kernel
theorem dX7_product_103 : decode cX7_product 103 = .ok (.iload 4, 2) := by decide +kernel
theorem dX7_product_105 : decode cX7_product 105 = .ok (.aload_n 0, 1) := by decide +kernel
theorem dX7_product_106 : decode cX7_product 106 = .ok (.iload_n 2, 1) := by decide +kernel
theorem dX7_product_107 : decode cX7_product 107 = .ok (.iload 5, 2) := by decide +kernel
theorem dX7_product_109 : decode cX7_product 109 = .ok (.invokevirtual 181, 3) := by decide +kernel
theorem dX7_product_112 : decode cX7_product 112 = .ok (.imul, 1) := by decide +kernel
theorem dX7_product_113 : decode cX7_product 113 = .ok (.iload 6, 2) := by decide +kernel
theorem dX7_product_115 : decode cX7_product 115 = .ok (.iadd, 1) := by decide +kernel
theorem dX7_product_116 : decode cX7_product 116 = .ok (.iload 4, 2) := by decide +kernel
theorem dX7_product_118 : decode cX7_product 118 = .ok (.aload_n 0, 1) := by decide +kernel
theorem dX7_product_119 : decode cX7_product 119 = .ok (.iload_n 2, 1) := by decide +kernel
theorem dX7_product_120 : decode cX7_product 120 = .ok (.iload 5, 2) := by decide +kernel
theorem dX7_product_122 : decode cX7_product 122 = .ok (.invokevirtual 185, 3) := by decide +kernel
theorem dX7_product_125 : decode cX7_product 125 = .ok (.imul, 1) := by decide +kernel
theorem dX7_product_126 : decode cX7_product 126 = .ok (.iload 6, 2) := by decide +kernel
theorem dX7_product_128 : decode cX7_product 128 = .ok (.iadd, 1) := by decide +kernel
theorem dX7_product_129 : decode cX7_product 129 = .ok (.aload_n 0, 1) := by decide +kernel
theorem dX7_product_130 : decode cX7_product 130 = .ok (.iload_n 2, 1) := by decide +kernel
theorem dX7_product_131 : decode cX7_product 131 = .ok (.iload 5, 2) := by decide +kernel
theorem dX7_product_133 : decode cX7_product 133 = .ok (.invokevirtual 209, 3) := by decide +kernel
theorem dX7_product_136 : decode cX7_product 136 = .ok (.iload 5, 2) := by decide +kernel
theorem dX7_product_138 : decode cX7_product 138 = .ok (.ldc 139, 2) := by decide +kernel
theorem dX7_product_140 : decode cX7_product 140 = .ok (.invokevirtual 140, 3) := by decide +kernel
theorem dX7_product_143 : decode cX7_product 143 = .ok (.iinc 6 1, 3) := by decide +kernel
theorem dX7_product_146 : decode cX7_product 146 = .ok (.goto (-52), 3) := by decide +kernel
theorem dX7_product_149 : decode cX7_product 149 = .ok (.iinc 5 1, 3) := by decide +kernel
theorem dX7_product_152 : decode cX7_product 152 = .ok (.goto (-72), 3) := by decide +kernel
theorem dX7_product_155 : decode cX7_product 155 = .ok (.iconst 0, 1) := by decide +kernel
theorem dX7_product_156 : decode cX7_product 156 = .ok (.istore 5, 2) := by decide +kernel
theorem dX7_product_158 : decode cX7_product 158 = .ok (.iload 5, 2) := by decide +kernel
theorem dX7_product_160 : decode cX7_product 160 = .ok (.aload_n 0, 1) := by decide +kernel
theorem dX7_product_161 : decode cX7_product 161 = .ok (.getfield 32, 3) := by decide +kernel
theorem dX7_product_164 : decode cX7_product 164 = .ok (.iload_n 2, 1) := by decide +kernel
theorem dX7_product_165 : decode cX7_product 165 = .ok (.iaload, 1) := by decide +kernel
theorem dX7_product_166 : decode cX7_product 166 = .ok (.if_icmp .ge 71, 3) := by decide +kernel
theorem dX7_product_169 : decode cX7_product 169 = .ok (.iconst 0, 1) := by decide +kernel
theorem dX7_product_170 : decode cX7_product 170 = .ok (.istore 6, 2) := by decide +kernel
theorem dX7_product_172 : decode cX7_product 172 = .ok (.iload 6, 2) := by decide +kernel
theorem dX7_product_174 : decode cX7_product 174 = .ok (.aload_n 0, 1) := by decide +kernel
theorem dX7_product_175 : decode cX7_product 175 = .ok (.getfield 35, 3) := by decide +kernel
theorem dX7_product_178 : decode cX7_product 178 = .ok (.iload_n 3, 1) := by decide +kernel
theorem dX7_product_179 : decode cX7_product 179 = .ok (.iaload, 1) := by decide +kernel
theorem dX7_product_180 : decode cX7_product 180 = .ok (.if_icmp .ge 51, 3) := by decide +kernel
theorem dX7_product_183 : decode cX7_product 183 = .ok (.aload_n 0, 1) := by decide +kernel
theorem dX7_product_184 : decode cX7_product 184 = .ok (.iload_n 1, 1) := by decide +kernel
theorem dX7_product_185 : decode cX7_product 185 = .ok (.iload 4, 2) := by decide +kernel
theorem dX7_product_187 : decode cX7_product 187 = .ok (.iload 5, 2) := by decide +kernel
theorem dX7_product_189 : decode cX7_product 189 = .ok (.imul, 1) := by decide +kernel
theorem dX7_product_190 : decode cX7_product 190 = .ok (.aload_n 0, 1) := by decide +kernel
theorem dX7_product_191 : decode cX7_product 191 = .ok (.iload_n 3, 1) := by decide +kernel
theorem dX7_product_192 : decode cX7_product 192 = .ok (.iload 6, 2) := by decide +kernel
theorem dX7_product_194 : decode cX7_product 194 = .ok (.invokevirtual 181, 3) := by decide +kernel
theorem dX7_product_197 : decode cX7_product 197 = .ok (.iadd, 1) := by decide +kernel
theorem dX7_product_198 : decode cX7_product 198 = .ok (.iload 4, 2) := by decide +kernel
theorem dX7_product_200 : decode cX7_product 200 = .ok (.iload 5, 2) := by decide +kernel
theorem dX7_product_202 : decode cX7_product 202 = .ok (.imul, 1) := by decide +kernel
theorem dX7_product_203 : decode cX7_product 203 = .ok (.aload_n 0, 1) := by decide +kernel
theorem dX7_product_204 : decode cX7_product 204 = .ok (.iload_n 3, 1) := by decide +kernel
theorem dX7_product_205 : decode cX7_product 205 = .ok (.iload 6, 2) := by decide +kernel
theorem dX7_product_207 : decode cX7_product 207 = .ok (.invokevirtual 185, 3) := by decide +kernel
theorem dX7_product_210 : decode cX7_product 210 = .ok (.iadd, 1) := by decide +kernel
theorem dX7_product_211 : decode cX7_product 211 = .ok (.aload_n 0, 1) := by decide +kernel
theorem dX7_product_212 : decode cX7_product 212 = .ok (.iload_n 3, 1) := by decide +kernel
theorem dX7_product_213 : decode cX7_product 213 = .ok (.iload 6, 2) := by decide +kernel
theorem dX7_product_215 : decode cX7_product 215 = .ok (.invokevirtual 209, 3) := by decide +kernel
theorem dX7_product_218 : decode cX7_product 218 = .ok (.ldc 139, 2) := by decide +kernel
theorem dX7_product_220 : decode cX7_product 220 = .ok (.iload 6, 2) := by decide +kernel
theorem dX7_product_222 : decode cX7_product 222 = .ok (.invokevirtual 140, 3) := by decide +kernel
theorem dX7_product_225 : decode cX7_product 225 = .ok (.iinc 6 1, 3) := by decide +kernel
theorem dX7_product_228 : decode cX7_product 228 = .ok (.goto (-56), 3) := by decide +kernel
theorem dX7_product_231 : decode cX7_product 231 = .ok (.iinc 5 1, 3) := by decide +kernel
theorem dX7_product_234 : decode cX7_product 234 = .ok (.goto (-76), 3) := by decide +kernel
theorem dX7_product_237 : decode cX7_product 237 = .ok (.aload_n 0, 1) := by decide +kernel
theorem dX7_product_238 : decode cX7_product 238 = .ok (.getfield 19, 3) := by decide +kernel
theorem dX7_product_241 : decode cX7_product 241 = .ok (.iload_n 1, 1) := by decide +kernel
theorem dX7_product_242 : decode cX7_product 242 = .ok (.iaload, 1) := by decide +kernel
theorem dX7_product_243 : decode cX7_product 243 = .ok (.iconst 1, 1) := by decide +kernel
theorem dX7_product_244 : decode cX7_product 244 = .ok (.if_icmp .eq 103, 3) := by decide +kernel
theorem dX7_product_247 : decode cX7_product 247 = .ok (.iconst 0, 1) := by decide +kernel
theorem dX7_product_248 : decode cX7_product 248 = .ok (.istore 5, 2) := by decide +kernel
theorem dX7_product_250 : decode cX7_product 250 = .ok (.iload 5, 2) := by decide +kernel
theorem dX7_product_252 : decode cX7_product 252 = .ok (.aload_n 0, 1) := by decide +kernel
theorem dX7_product_253 : decode cX7_product 253 = .ok (.getfield 35, 3) := by decide +kernel
theorem dX7_product_256 : decode cX7_product 256 = .ok (.iload_n 2, 1) := by decide +kernel
theorem dX7_product_257 : decode cX7_product 257 = .ok (.iaload, 1) := by decide +kernel
theorem dX7_product_258 : decode cX7_product 258 = .ok (.if_icmp .ge 89, 3) := by decide +kernel
theorem dX7_product_261 : decode cX7_product 261 = .ok (.iconst 0, 1) := by decide +kernel
theorem dX7_product_262 : decode cX7_product 262 = .ok (.istore 6, 2) := by decide +kernel
theorem dX7_product_264 : decode cX7_product 264 = .ok (.iload 6, 2) := by decide +kernel
theorem dX7_product_266 : decode cX7_product 266 = .ok (.aload_n 0, 1) := by decide +kernel
theorem dX7_product_267 : decode cX7_product 267 = .ok (.getfield 35, 3) := by decide +kernel
theorem dX7_product_270 : decode cX7_product 270 = .ok (.iload_n 3, 1) := by decide +kernel
theorem dX7_product_271 : decode cX7_product 271 = .ok (.iaload, 1) := by decide +kernel
theorem dX7_product_272 : decode cX7_product 272 = .ok (.if_icmp .ge 69, 3) := by decide +kernel
theorem dX7_product_275 : decode cX7_product 275 = .ok (.aload_n 0, 1) := by decide +kernel
theorem dX7_product_276 : decode cX7_product 276 = .ok (.iload_n 1, 1) := by decide +kernel
theorem dX7_product_277 : decode cX7_product 277 = .ok (.iload 4, 2) := by decide +kernel
theorem dX7_product_279 : decode cX7_product 279 = .ok (.aload_n 0, 1) := by decide +kernel
theorem dX7_product_280 : decode cX7_product 280 = .ok (.iload_n 2, 1) := by decide +kernel
theorem dX7_product_281 : decode cX7_product 281 = .ok (.iload 5, 2) := by decide +kernel
theorem dX7_product_283 : decode cX7_product 283 = .ok (.invokevirtual 181, 3) := by decide +kernel
theorem dX7_product_286 : decode cX7_product 286 = .ok (.imul, 1) := by decide +kernel
theorem dX7_product_287 : decode cX7_product 287 = .ok (.aload_n 0, 1) := by decide +kernel
theorem dX7_product_288 : decode cX7_product 288 = .ok (.iload_n 3, 1) := by decide +kernel
theorem dX7_product_289 : decode cX7_product 289 = .ok (.iload 6, 2) := by decide +kernel
theorem dX7_product_291 : decode cX7_product 291 = .ok (.invokevirtual 181, 3) := by decide +kernel
theorem dX7_product_294 : decode cX7_product 294 = .ok (.iadd, 1) := by decide +kernel
theorem dX7_product_295 : decode cX7_product 295 = .ok (.iload 4, 2) := by decide +kernel
theorem dX7_product_297 : decode cX7_product 297 = .ok (.aload_n 0, 1) := by decide +kernel
theorem dX7_product_298 : decode cX7_product 298 = .ok (.iload_n 2, 1) := by decide +kernel
theorem dX7_product_299 : decode cX7_product 299 = .ok (.iload 5, 2) := by decide +kernel
theorem dX7_product_301 : decode cX7_product 301 = .ok (.invokevirtual 185, 3) := by decide +kernel
theorem dX7_product_304 : decode cX7_product 304 = .ok (.imul, 1) := by decide +kernel
theorem dX7_product_305 : decode cX7_product 305 = .ok (.aload_n 0, 1) := by decide +kernel
theorem dX7_product_306 : decode cX7_product 306 = .ok (.iload_n 3, 1) := by decide +kernel
theorem dX7_product_307 : decode cX7_product 307 = .ok (.iload 6, 2) := by decide +kernel
theorem dX7_product_309 : decode cX7_product 309 = .ok (.invokevirtual 185, 3) := by decide +kernel
theorem dX7_product_312 : decode cX7_product 312 = .ok (.iadd, 1) := by decide +kernel
theorem dX7_product_313 : decode cX7_product 313 = .ok (.aload_n 0, 1) := by decide +kernel
theorem dX7_product_314 : decode cX7_product 314 = .ok (.iload_n 2, 1) := by decide +kernel
theorem dX7_product_315 : decode cX7_product 315 = .ok (.iload 5, 2) := by decide +kernel
theorem dX7_product_317 : decode cX7_product 317 = .ok (.invokevirtual 209, 3) := by decide +kernel
theorem dX7_product_320 : decode cX7_product 320 = .ok (.aload_n 0, 1) := by decide +kernel
theorem dX7_product_321 : decode cX7_product 321 = .ok (.iload_n 3, 1) := by decide +kernel
theorem dX7_product_322 : decode cX7_product 322 = .ok (.iload 6, 2) := by decide +kernel
theorem dX7_product_324 : decode cX7_product 324 = .ok (.invokevirtual 209, 3) := by decide +kernel
theorem dX7_product_327 : decode cX7_product 327 = .ok (.lmul, 1) := by decide +kernel
theorem dX7_product_328 : decode cX7_product 328 = .ok (.iload 5, 2) := by decide +kernel
theorem dX7_product_330 : decode cX7_product 330 = .ok (.iload 6, 2) := by decide +kernel
theorem dX7_product_332 : decode cX7_product 332 = .ok (.invokevirtual 140, 3) := by decide +kernel
theorem dX7_product_335 : decode cX7_product 335 = .ok (.iinc 6 1, 3) := by decide +kernel
theorem dX7_product_338 : decode cX7_product 338 = .ok (.goto (-74), 3) := by decide +kernel
theorem dX7_product_341 : decode cX7_product 341 = .ok (.iinc 5 1, 3) := by decide +kernel
theorem dX7_product_344 : decode cX7_product 344 = .ok (.goto (-94), 3) := by decide +kernel
theorem dX7_product_347 : decode cX7_product 347 = .ok (.return_, 1) := by decide +kernel
theorem q115_0 : pm_V d 115 0 [.ref xn, l1, l2, l3, l4, l5, l6] st S Q = pm_V d 115 1 [.ref xn, l1, l2, l3, l4, l5, l6] (.ref xn :: st) S Q := pv_aload_n (pm_cdi rfl dX7_product_0) rfl
theorem q115_1 (hs : pm_sh S an = .inr 7) : pm_V d 115 1 [l0, l1, l2, l3, l4, l5, l6] (.ref an :: st) S Q = pm_V d 115 4 [l0, l1, l2, l3, l4, l5, l6] (va_rf (pm_gr S an 8) :: st) S Q := pv_getA (pm_cdi rfl dX7_product_1) (by decide +kernel) (by decide +kernel) (by decide +kernel) hs
theorem q115_4 : pm_V d 115 4 [l0, l1, l2, .int xi, l4, l5, l6] st S Q = pm_V d 115 5 [l0, l1, l2, .int xi, l4, l5, l6] (.int xi :: st) S Q := pv_iload_n (pm_cdi rfl dX7_product_4) rfl
theorem q115_5 (hs : pm_ar S an 0 xi = true) : pm_V d 115 5 [l0, l1, l2, l3, l4, l5, l6] (.int xi :: .ref an :: st) S Q = pm_V d 115 6 [l0, l1, l2, l3, l4, l5, l6] (.int (pm_zi S an xi.toNatClampNeg) :: st) S Q := pv_iald (pm_cdi rfl dX7_product_5) hs
theorem q115_6 : pm_V d 115 6 [l0, l1, l2, .int yi, l4, l5, l6] (.int xi :: st) S Q = pm_V d 115 8 [l0, l1, l2, .int yi, .int xi, l5, l6] st S Q := pv_istore (pm_cdi rfl dX7_product_6) rfl
theorem q115_8 : pm_V d 115 8 [l0, l1, l2, l3, l4, l5, l6] st S Q = pm_V d 115 9 [l0, l1, l2, l3, l4, l5, l6] (.int 0 :: st) S Q := pv_iconst (pm_cdi rfl dX7_product_8) (by decide +kernel)
theorem q115_9 : pm_V d 115 9 [l0, l1, l2, l3, .int yi, l5, l6] (.int xi :: st) S Q = pm_V d 115 11 [l0, l1, l2, l3, .int yi, .int xi, l6] st S Q := pv_istore (pm_cdi rfl dX7_product_9) rfl
theorem q115_11 : pm_V d 115 11 [l0, l1, l2, l3, l4, .int xi, l6] st S Q = pm_V d 115 13 [l0, l1, l2, l3, l4, .int xi, l6] (.int xi :: st) S Q := pv_iload (pm_cdi rfl dX7_product_11) rfl
theorem q115_13 : pm_V d 115 13 [.ref xn, l1, l2, l3, l4, l5, l6] st S Q = pm_V d 115 14 [.ref xn, l1, l2, l3, l4, l5, l6] (.ref xn :: st) S Q := pv_aload_n (pm_cdi rfl dX7_product_13) rfl
theorem q115_14 (hs : pm_sh S an = .inr 7) : pm_V d 115 14 [l0, l1, l2, l3, l4, l5, l6] (.ref an :: st) S Q = pm_V d 115 17 [l0, l1, l2, l3, l4, l5, l6] (va_rf (pm_gr S an 8) :: st) S Q := pv_getA (pm_cdi rfl dX7_product_14) (by decide +kernel) (by decide +kernel) (by decide +kernel) hs
theorem q115_17 : pm_V d 115 17 [l0, l1, .int xi, l3, l4, l5, l6] st S Q = pm_V d 115 18 [l0, l1, .int xi, l3, l4, l5, l6] (.int xi :: st) S Q := pv_iload_n (pm_cdi rfl dX7_product_17) rfl
theorem q115_18 (hs : pm_ar S an 0 xi = true) : pm_V d 115 18 [l0, l1, l2, l3, l4, l5, l6] (.int xi :: .ref an :: st) S Q = pm_V d 115 19 [l0, l1, l2, l3, l4, l5, l6] (.int (pm_zi S an xi.toNatClampNeg) :: st) S Q := pv_iald (pm_cdi rfl dX7_product_18) hs
theorem q115_19 : pm_V d 115 19 [l0, l1, l2, l3, l4, l5, l6] (.int yi :: .int xi :: st) S Q = if xi < yi then pm_V d 115 22 [l0, l1, l2, l3, l4, l5, l6] st S Q else pm_V d 115 68 [l0, l1, l2, l3, l4, l5, l6] st S Q := pv_icmp_ge (pm_cdi rfl dX7_product_19) rfl
theorem q115_22 : pm_V d 115 22 [l0, l1, l2, l3, l4, l5, l6] st S Q = pm_V d 115 23 [l0, l1, l2, l3, l4, l5, l6] (.int 0 :: st) S Q := pv_iconst (pm_cdi rfl dX7_product_22) (by decide +kernel)
theorem q115_23 : pm_V d 115 23 [l0, l1, l2, l3, l4, .int yi, l6] (.int xi :: st) S Q = pm_V d 115 25 [l0, l1, l2, l3, l4, .int yi, .int xi] st S Q := pv_istore (pm_cdi rfl dX7_product_23) rfl
theorem q115_25 : pm_V d 115 25 [l0, l1, l2, l3, l4, l5, .int xi] st S Q = pm_V d 115 27 [l0, l1, l2, l3, l4, l5, .int xi] (.int xi :: st) S Q := pv_iload (pm_cdi rfl dX7_product_25) rfl
theorem q115_27 : pm_V d 115 27 [l0, l1, l2, l3, .int xi, l5, l6] st S Q = pm_V d 115 29 [l0, l1, l2, l3, .int xi, l5, l6] (.int xi :: st) S Q := pv_iload (pm_cdi rfl dX7_product_27) rfl
theorem q115_29 : pm_V d 115 29 [l0, l1, l2, l3, l4, l5, l6] (.int yi :: .int xi :: st) S Q = if xi < yi then pm_V d 115 32 [l0, l1, l2, l3, l4, l5, l6] st S Q else pm_V d 115 62 [l0, l1, l2, l3, l4, l5, l6] st S Q := pv_icmp_ge (pm_cdi rfl dX7_product_29) rfl
theorem q115_32 : pm_V d 115 32 [.ref xn, l1, l2, l3, l4, l5, l6] st S Q = pm_V d 115 33 [.ref xn, l1, l2, l3, l4, l5, l6] (.ref xn :: st) S Q := pv_aload_n (pm_cdi rfl dX7_product_32) rfl
theorem q115_33 : pm_V d 115 33 [l0, .int xi, l2, l3, l4, l5, l6] st S Q = pm_V d 115 34 [l0, .int xi, l2, l3, l4, l5, l6] (.int xi :: st) S Q := pv_iload_n (pm_cdi rfl dX7_product_33) rfl
theorem q115_34 : pm_V d 115 34 [.ref xn, l1, l2, l3, l4, l5, l6] st S Q = pm_V d 115 35 [.ref xn, l1, l2, l3, l4, l5, l6] (.ref xn :: st) S Q := pv_aload_n (pm_cdi rfl dX7_product_34) rfl
theorem q115_35 : pm_V d 115 35 [l0, l1, .int xi, l3, l4, l5, l6] st S Q = pm_V d 115 36 [l0, l1, .int xi, l3, l4, l5, l6] (.int xi :: st) S Q := pv_iload_n (pm_cdi rfl dX7_product_35) rfl
theorem q115_36 : pm_V d 115 36 [l0, l1, l2, l3, l4, .int xi, l6] st S Q = pm_V d 115 38 [l0, l1, l2, l3, l4, .int xi, l6] (.int xi :: st) S Q := pv_iload (pm_cdi rfl dX7_product_36) rfl
theorem q115_38 (hs : pm_sh S an = .inr 7) : pm_V (d + 1) 115 38 [l0, l1, l2, l3, l4, l5, l6] [.int v1i, .int v0i, .ref an, .int r0i, .ref r1n] S Q = pm_N d 106 [.ref an, .int v0i, .int v1i] S (fun r S' => pm_V (d + 1) 115 41 [l0, l1, l2, l3, l4, l5, l6] (r.toList ++ [.int r0i, .ref r1n]) S' Q) := pv_callV (as := [.int v0i, .int v1i]) (pm_cdi rfl dX7_product_38) (Or.inl (by decide +kernel)) (by decide +kernel) (show _ = _ from (by decide +kernel : 2 = pm_np 106)) rfl (Nat.le_of_ble_eq_true rfl) (cl := 7) (by decide +kernel) hs
theorem q115_41 : pm_V d 115 41 [.ref xn, l1, l2, l3, l4, l5, l6] st S Q = pm_V d 115 42 [.ref xn, l1, l2, l3, l4, l5, l6] (.ref xn :: st) S Q := pv_aload_n (pm_cdi rfl dX7_product_41) rfl
theorem q115_42 : pm_V d 115 42 [l0, l1, l2, .int xi, l4, l5, l6] st S Q = pm_V d 115 43 [l0, l1, l2, .int xi, l4, l5, l6] (.int xi :: st) S Q := pv_iload_n (pm_cdi rfl dX7_product_42) rfl
theorem q115_43 : pm_V d 115 43 [l0, l1, l2, l3, l4, l5, .int xi] st S Q = pm_V d 115 45 [l0, l1, l2, l3, l4, l5, .int xi] (.int xi :: st) S Q := pv_iload (pm_cdi rfl dX7_product_43) rfl
theorem q115_45 (hs : pm_sh S an = .inr 7) : pm_V (d + 1) 115 45 [l0, l1, l2, l3, l4, l5, l6] [.int v1i, .int v0i, .ref an, .long r0j, .int r1i, .ref r2n] S Q = pm_N d 106 [.ref an, .int v0i, .int v1i] S (fun r S' => pm_V (d + 1) 115 48 [l0, l1, l2, l3, l4, l5, l6] (r.toList ++ [.long r0j, .int r1i, .ref r2n]) S' Q) := pv_callV (as := [.int v0i, .int v1i]) (pm_cdi rfl dX7_product_45) (Or.inl (by decide +kernel)) (by decide +kernel) (show _ = _ from (by decide +kernel : 2 = pm_np 106)) rfl (Nat.le_of_ble_eq_true rfl) (cl := 7) (by decide +kernel) hs
theorem q115_48 : pm_V d 115 48 [l0, l1, l2, l3, l4, l5, l6] (.long yj :: .long xj :: st) S Q = pm_V d 115 49 [l0, l1, l2, l3, l4, l5, l6] (.long (xj + yj) :: st) S Q := pv_ladd (pm_cdi rfl dX7_product_48)
theorem q115_49 : pm_V d 115 49 [l0, l1, l2, l3, l4, .int xi, l6] st S Q = pm_V d 115 51 [l0, l1, l2, l3, l4, .int xi, l6] (.int xi :: st) S Q := pv_iload (pm_cdi rfl dX7_product_49) rfl
theorem q115_51 : pm_V d 115 51 [l0, l1, l2, l3, l4, l5, .int xi] st S Q = pm_V d 115 53 [l0, l1, l2, l3, l4, l5, .int xi] (.int xi :: st) S Q := pv_iload (pm_cdi rfl dX7_product_51) rfl
theorem q115_53 (hs : pm_sh S an = .inr 7) : pm_V (d + 1) 115 53 [l0, l1, l2, l3, l4, l5, l6] [.int v3i, .int v2i, .long v1j, .int v0i, .ref an] S Q = pm_N d 102 [.ref an, .int v0i, .long v1j, .int v2i, .int v3i] S (fun r S' => pm_V (d + 1) 115 56 [l0, l1, l2, l3, l4, l5, l6] (r.toList ++ []) S' Q) := pv_callV (as := [.int v0i, .long v1j, .int v2i, .int v3i]) (pm_cdi rfl dX7_product_53) (Or.inl (by decide +kernel)) (by decide +kernel) (show _ = _ from (by decide +kernel : 4 = pm_np 102)) rfl (Nat.le_of_ble_eq_true rfl) (cl := 7) (by decide +kernel) hs
theorem q115_56 : pm_V d 115 56 [l0, l1, l2, l3, l4, .int yi, .int xi] st S Q = pm_V d 115 59 [l0, l1, l2, l3, l4, .int yi, .int (xi + 1)] st S Q := pv_iinc (pm_cdi rfl dX7_product_56) rfl (by decide +kernel) rfl
theorem q115_59 : pm_V d 115 59 [l0, l1, l2, l3, l4, l5, l6] st S Q = pm_V d 115 25 [l0, l1, l2, l3, l4, l5, l6] st S Q := pv_goto (pm_cdi rfl dX7_product_59) rfl
theorem q115_62 : pm_V d 115 62 [l0, l1, l2, l3, .int yi, .int xi, l6] st S Q = pm_V d 115 65 [l0, l1, l2, l3, .int yi, .int (xi + 1), l6] st S Q := pv_iinc (pm_cdi rfl dX7_product_62) rfl (by decide +kernel) rfl
theorem q115_65 : pm_V d 115 65 [l0, l1, l2, l3, l4, l5, l6] st S Q = pm_V d 115 11 [l0, l1, l2, l3, l4, l5, l6] st S Q := pv_goto (pm_cdi rfl dX7_product_65) rfl
theorem q115_68 : pm_V d 115 68 [.ref xn, l1, l2, l3, l4, l5, l6] st S Q = pm_V d 115 69 [.ref xn, l1, l2, l3, l4, l5, l6] (.ref xn :: st) S Q := pv_aload_n (pm_cdi rfl dX7_product_68) rfl
theorem q115_69 (hs : pm_sh S an = .inr 7) : pm_V d 115 69 [l0, l1, l2, l3, l4, l5, l6] (.ref an :: st) S Q = pm_V d 115 72 [l0, l1, l2, l3, l4, l5, l6] (va_rf (pm_gr S an 4) :: st) S Q := pv_getA (pm_cdi rfl dX7_product_69) (by decide +kernel) (by decide +kernel) (by decide +kernel) hs
theorem q115_72 : pm_V d 115 72 [l0, .int xi, l2, l3, l4, l5, l6] st S Q = pm_V d 115 73 [l0, .int xi, l2, l3, l4, l5, l6] (.int xi :: st) S Q := pv_iload_n (pm_cdi rfl dX7_product_72) rfl
theorem q115_73 (hs : pm_ar S an 0 xi = true) : pm_V d 115 73 [l0, l1, l2, l3, l4, l5, l6] (.int xi :: .ref an :: st) S Q = pm_V d 115 74 [l0, l1, l2, l3, l4, l5, l6] (.int (pm_zi S an xi.toNatClampNeg) :: st) S Q := pv_iald (pm_cdi rfl dX7_product_73) hs
theorem q115_74 : pm_V d 115 74 [l0, l1, l2, l3, l4, l5, l6] (.int xi :: st) S Q = if xi ≤ 0 then pm_V d 115 237 [l0, l1, l2, l3, l4, l5, l6] st S Q else pm_V d 115 77 [l0, l1, l2, l3, l4, l5, l6] st S Q := pv_if_le (pm_cdi rfl dX7_product_74) rfl
theorem q115_77 : pm_V d 115 77 [l0, l1, l2, l3, l4, l5, l6] st S Q = pm_V d 115 78 [l0, l1, l2, l3, l4, l5, l6] (.int 0 :: st) S Q := pv_iconst (pm_cdi rfl dX7_product_77) (by decide +kernel)
theorem q115_78 : pm_V d 115 78 [l0, l1, l2, l3, .int yi, l5, l6] (.int xi :: st) S Q = pm_V d 115 80 [l0, l1, l2, l3, .int yi, .int xi, l6] st S Q := pv_istore (pm_cdi rfl dX7_product_78) rfl
theorem q115_80 : pm_V d 115 80 [l0, l1, l2, l3, l4, .int xi, l6] st S Q = pm_V d 115 82 [l0, l1, l2, l3, l4, .int xi, l6] (.int xi :: st) S Q := pv_iload (pm_cdi rfl dX7_product_80) rfl
theorem q115_82 : pm_V d 115 82 [.ref xn, l1, l2, l3, l4, l5, l6] st S Q = pm_V d 115 83 [.ref xn, l1, l2, l3, l4, l5, l6] (.ref xn :: st) S Q := pv_aload_n (pm_cdi rfl dX7_product_82) rfl
theorem q115_83 (hs : pm_sh S an = .inr 7) : pm_V d 115 83 [l0, l1, l2, l3, l4, l5, l6] (.ref an :: st) S Q = pm_V d 115 86 [l0, l1, l2, l3, l4, l5, l6] (va_rf (pm_gr S an 9) :: st) S Q := pv_getA (pm_cdi rfl dX7_product_83) (by decide +kernel) (by decide +kernel) (by decide +kernel) hs
theorem q115_86 : pm_V d 115 86 [l0, l1, .int xi, l3, l4, l5, l6] st S Q = pm_V d 115 87 [l0, l1, .int xi, l3, l4, l5, l6] (.int xi :: st) S Q := pv_iload_n (pm_cdi rfl dX7_product_86) rfl
theorem q115_87 (hs : pm_ar S an 0 xi = true) : pm_V d 115 87 [l0, l1, l2, l3, l4, l5, l6] (.int xi :: .ref an :: st) S Q = pm_V d 115 88 [l0, l1, l2, l3, l4, l5, l6] (.int (pm_zi S an xi.toNatClampNeg) :: st) S Q := pv_iald (pm_cdi rfl dX7_product_87) hs
theorem q115_88 : pm_V d 115 88 [l0, l1, l2, l3, l4, l5, l6] (.int yi :: .int xi :: st) S Q = if xi < yi then pm_V d 115 91 [l0, l1, l2, l3, l4, l5, l6] st S Q else pm_V d 115 155 [l0, l1, l2, l3, l4, l5, l6] st S Q := pv_icmp_ge (pm_cdi rfl dX7_product_88) rfl
theorem q115_91 : pm_V d 115 91 [l0, l1, l2, l3, l4, l5, l6] st S Q = pm_V d 115 92 [l0, l1, l2, l3, l4, l5, l6] (.int 0 :: st) S Q := pv_iconst (pm_cdi rfl dX7_product_91) (by decide +kernel)
theorem q115_92 : pm_V d 115 92 [l0, l1, l2, l3, l4, .int yi, l6] (.int xi :: st) S Q = pm_V d 115 94 [l0, l1, l2, l3, l4, .int yi, .int xi] st S Q := pv_istore (pm_cdi rfl dX7_product_92) rfl
theorem q115_94 : pm_V d 115 94 [l0, l1, l2, l3, l4, l5, .int xi] st S Q = pm_V d 115 96 [l0, l1, l2, l3, l4, l5, .int xi] (.int xi :: st) S Q := pv_iload (pm_cdi rfl dX7_product_94) rfl
theorem q115_96 : pm_V d 115 96 [l0, l1, l2, l3, .int xi, l5, l6] st S Q = pm_V d 115 98 [l0, l1, l2, l3, .int xi, l5, l6] (.int xi :: st) S Q := pv_iload (pm_cdi rfl dX7_product_96) rfl
theorem q115_98 : pm_V d 115 98 [l0, l1, l2, l3, l4, l5, l6] (.int yi :: .int xi :: st) S Q = if xi < yi then pm_V d 115 101 [l0, l1, l2, l3, l4, l5, l6] st S Q else pm_V d 115 149 [l0, l1, l2, l3, l4, l5, l6] st S Q := pv_icmp_ge (pm_cdi rfl dX7_product_98) rfl
theorem q115_101 : pm_V d 115 101 [.ref xn, l1, l2, l3, l4, l5, l6] st S Q = pm_V d 115 102 [.ref xn, l1, l2, l3, l4, l5, l6] (.ref xn :: st) S Q := pv_aload_n (pm_cdi rfl dX7_product_101) rfl
theorem q115_102 : pm_V d 115 102 [l0, .int xi, l2, l3, l4, l5, l6] st S Q = pm_V d 115 103 [l0, .int xi, l2, l3, l4, l5, l6] (.int xi :: st) S Q := pv_iload_n (pm_cdi rfl dX7_product_102) rfl
theorem q115_103 : pm_V d 115 103 [l0, l1, l2, l3, .int xi, l5, l6] st S Q = pm_V d 115 105 [l0, l1, l2, l3, .int xi, l5, l6] (.int xi :: st) S Q := pv_iload (pm_cdi rfl dX7_product_103) rfl
theorem q115_105 : pm_V d 115 105 [.ref xn, l1, l2, l3, l4, l5, l6] st S Q = pm_V d 115 106 [.ref xn, l1, l2, l3, l4, l5, l6] (.ref xn :: st) S Q := pv_aload_n (pm_cdi rfl dX7_product_105) rfl
theorem q115_106 : pm_V d 115 106 [l0, l1, .int xi, l3, l4, l5, l6] st S Q = pm_V d 115 107 [l0, l1, .int xi, l3, l4, l5, l6] (.int xi :: st) S Q := pv_iload_n (pm_cdi rfl dX7_product_106) rfl
theorem q115_107 : pm_V d 115 107 [l0, l1, l2, l3, l4, .int xi, l6] st S Q = pm_V d 115 109 [l0, l1, l2, l3, l4, .int xi, l6] (.int xi :: st) S Q := pv_iload (pm_cdi rfl dX7_product_107) rfl
theorem q115_109 (hs : pm_sh S an = .inr 7) : pm_V (d + 1) 115 109 [l0, l1, l2, l3, l4, l5, l6] [.int v1i, .int v0i, .ref an, .int r0i, .int r1i, .ref r2n] S Q = pm_N d 104 [.ref an, .int v0i, .int v1i] S (fun r S' => pm_V (d + 1) 115 112 [l0, l1, l2, l3, l4, l5, l6] (r.toList ++ [.int r0i, .int r1i, .ref r2n]) S' Q) := pv_callV (as := [.int v0i, .int v1i]) (pm_cdi rfl dX7_product_109) (Or.inl (by decide +kernel)) (by decide +kernel) (show _ = _ from (by decide +kernel : 2 = pm_np 104)) rfl (Nat.le_of_ble_eq_true rfl) (cl := 7) (by decide +kernel) hs
theorem q115_112 : pm_V d 115 112 [l0, l1, l2, l3, l4, l5, l6] (.int yi :: .int xi :: st) S Q = pm_V d 115 113 [l0, l1, l2, l3, l4, l5, l6] (.int (xi * yi) :: st) S Q := pv_imul (pm_cdi rfl dX7_product_112)
theorem q115_113 : pm_V d 115 113 [l0, l1, l2, l3, l4, l5, .int xi] st S Q = pm_V d 115 115 [l0, l1, l2, l3, l4, l5, .int xi] (.int xi :: st) S Q := pv_iload (pm_cdi rfl dX7_product_113) rfl
theorem q115_115 : pm_V d 115 115 [l0, l1, l2, l3, l4, l5, l6] (.int yi :: .int xi :: st) S Q = pm_V d 115 116 [l0, l1, l2, l3, l4, l5, l6] (.int (xi + yi) :: st) S Q := pv_iadd (pm_cdi rfl dX7_product_115)
theorem q115_116 : pm_V d 115 116 [l0, l1, l2, l3, .int xi, l5, l6] st S Q = pm_V d 115 118 [l0, l1, l2, l3, .int xi, l5, l6] (.int xi :: st) S Q := pv_iload (pm_cdi rfl dX7_product_116) rfl
theorem q115_118 : pm_V d 115 118 [.ref xn, l1, l2, l3, l4, l5, l6] st S Q = pm_V d 115 119 [.ref xn, l1, l2, l3, l4, l5, l6] (.ref xn :: st) S Q := pv_aload_n (pm_cdi rfl dX7_product_118) rfl
theorem q115_119 : pm_V d 115 119 [l0, l1, .int xi, l3, l4, l5, l6] st S Q = pm_V d 115 120 [l0, l1, .int xi, l3, l4, l5, l6] (.int xi :: st) S Q := pv_iload_n (pm_cdi rfl dX7_product_119) rfl
theorem q115_120 : pm_V d 115 120 [l0, l1, l2, l3, l4, .int xi, l6] st S Q = pm_V d 115 122 [l0, l1, l2, l3, l4, .int xi, l6] (.int xi :: st) S Q := pv_iload (pm_cdi rfl dX7_product_120) rfl
theorem q115_122 (hs : pm_sh S an = .inr 7) : pm_V (d + 1) 115 122 [l0, l1, l2, l3, l4, l5, l6] [.int v1i, .int v0i, .ref an, .int r0i, .int r1i, .int r2i, .ref r3n] S Q = pm_N d 105 [.ref an, .int v0i, .int v1i] S (fun r S' => pm_V (d + 1) 115 125 [l0, l1, l2, l3, l4, l5, l6] (r.toList ++ [.int r0i, .int r1i, .int r2i, .ref r3n]) S' Q) := pv_callV (as := [.int v0i, .int v1i]) (pm_cdi rfl dX7_product_122) (Or.inl (by decide +kernel)) (by decide +kernel) (show _ = _ from (by decide +kernel : 2 = pm_np 105)) rfl (Nat.le_of_ble_eq_true rfl) (cl := 7) (by decide +kernel) hs
theorem q115_125 : pm_V d 115 125 [l0, l1, l2, l3, l4, l5, l6] (.int yi :: .int xi :: st) S Q = pm_V d 115 126 [l0, l1, l2, l3, l4, l5, l6] (.int (xi * yi) :: st) S Q := pv_imul (pm_cdi rfl dX7_product_125)
theorem q115_126 : pm_V d 115 126 [l0, l1, l2, l3, l4, l5, .int xi] st S Q = pm_V d 115 128 [l0, l1, l2, l3, l4, l5, .int xi] (.int xi :: st) S Q := pv_iload (pm_cdi rfl dX7_product_126) rfl
theorem q115_128 : pm_V d 115 128 [l0, l1, l2, l3, l4, l5, l6] (.int yi :: .int xi :: st) S Q = pm_V d 115 129 [l0, l1, l2, l3, l4, l5, l6] (.int (xi + yi) :: st) S Q := pv_iadd (pm_cdi rfl dX7_product_128)
theorem q115_129 : pm_V d 115 129 [.ref xn, l1, l2, l3, l4, l5, l6] st S Q = pm_V d 115 130 [.ref xn, l1, l2, l3, l4, l5, l6] (.ref xn :: st) S Q := pv_aload_n (pm_cdi rfl dX7_product_129) rfl
theorem q115_130 : pm_V d 115 130 [l0, l1, .int xi, l3, l4, l5, l6] st S Q = pm_V d 115 131 [l0, l1, .int xi, l3, l4, l5, l6] (.int xi :: st) S Q := pv_iload_n (pm_cdi rfl dX7_product_130) rfl
theorem q115_131 : pm_V d 115 131 [l0, l1, l2, l3, l4, .int xi, l6] st S Q = pm_V d 115 133 [l0, l1, l2, l3, l4, .int xi, l6] (.int xi :: st) S Q := pv_iload (pm_cdi rfl dX7_product_131) rfl
theorem q115_133 (hs : pm_sh S an = .inr 7) : pm_V (d + 1) 115 133 [l0, l1, l2, l3, l4, l5, l6] [.int v1i, .int v0i, .ref an, .int r0i, .int r1i, .int r2i, .ref r3n] S Q = pm_N d 107 [.ref an, .int v0i, .int v1i] S (fun r S' => pm_V (d + 1) 115 136 [l0, l1, l2, l3, l4, l5, l6] (r.toList ++ [.int r0i, .int r1i, .int r2i, .ref r3n]) S' Q) := pv_callV (as := [.int v0i, .int v1i]) (pm_cdi rfl dX7_product_133) (Or.inl (by decide +kernel)) (by decide +kernel) (show _ = _ from (by decide +kernel : 2 = pm_np 107)) rfl (Nat.le_of_ble_eq_true rfl) (cl := 7) (by decide +kernel) hs
theorem q115_136 : pm_V d 115 136 [l0, l1, l2, l3, l4, .int xi, l6] st S Q = pm_V d 115 138 [l0, l1, l2, l3, l4, .int xi, l6] (.int xi :: st) S Q := pv_iload (pm_cdi rfl dX7_product_136) rfl
theorem q115_138 : pm_V d 115 138 [l0, l1, l2, l3, l4, l5, l6] st S Q = pm_V d 115 140 [l0, l1, l2, l3, l4, l5, l6] (.int (-1000004) :: st) S Q := pv_ldc (pm_cdi rfl dX7_product_138) (by decide +kernel)
theorem q115_140 (hs : pm_sh S an = .inr 7) : pm_V (d + 1) 115 140 [l0, l1, l2, l3, l4, l5, l6] [.int v5i, .int v4i, .long v3j, .int v2i, .int v1i, .int v0i, .ref an] S Q = pm_N d 103 [.ref an, .int v0i, .int v1i, .int v2i, .long v3j, .int v4i, .int v5i] S (fun r S' => pm_V (d + 1) 115 143 [l0, l1, l2, l3, l4, l5, l6] (r.toList ++ []) S' Q) := pv_callV (as := [.int v0i, .int v1i, .int v2i, .long v3j, .int v4i, .int v5i]) (pm_cdi rfl dX7_product_140) (Or.inl (by decide +kernel)) (by decide +kernel) (show _ = _ from (by decide +kernel : 6 = pm_np 103)) rfl (Nat.le_of_ble_eq_true rfl) (cl := 7) (by decide +kernel) hs
theorem q115_143 : pm_V d 115 143 [l0, l1, l2, l3, l4, .int yi, .int xi] st S Q = pm_V d 115 146 [l0, l1, l2, l3, l4, .int yi, .int (xi + 1)] st S Q := pv_iinc (pm_cdi rfl dX7_product_143) rfl (by decide +kernel) rfl
theorem q115_146 : pm_V d 115 146 [l0, l1, l2, l3, l4, l5, l6] st S Q = pm_V d 115 94 [l0, l1, l2, l3, l4, l5, l6] st S Q := pv_goto (pm_cdi rfl dX7_product_146) rfl
theorem q115_149 : pm_V d 115 149 [l0, l1, l2, l3, .int yi, .int xi, l6] st S Q = pm_V d 115 152 [l0, l1, l2, l3, .int yi, .int (xi + 1), l6] st S Q := pv_iinc (pm_cdi rfl dX7_product_149) rfl (by decide +kernel) rfl
theorem q115_152 : pm_V d 115 152 [l0, l1, l2, l3, l4, l5, l6] st S Q = pm_V d 115 80 [l0, l1, l2, l3, l4, l5, l6] st S Q := pv_goto (pm_cdi rfl dX7_product_152) rfl
theorem q115_155 : pm_V d 115 155 [l0, l1, l2, l3, l4, l5, l6] st S Q = pm_V d 115 156 [l0, l1, l2, l3, l4, l5, l6] (.int 0 :: st) S Q := pv_iconst (pm_cdi rfl dX7_product_155) (by decide +kernel)
theorem q115_156 : pm_V d 115 156 [l0, l1, l2, l3, .int yi, l5, l6] (.int xi :: st) S Q = pm_V d 115 158 [l0, l1, l2, l3, .int yi, .int xi, l6] st S Q := pv_istore (pm_cdi rfl dX7_product_156) rfl
theorem q115_158 : pm_V d 115 158 [l0, l1, l2, l3, l4, .int xi, l6] st S Q = pm_V d 115 160 [l0, l1, l2, l3, l4, .int xi, l6] (.int xi :: st) S Q := pv_iload (pm_cdi rfl dX7_product_158) rfl
theorem q115_160 : pm_V d 115 160 [.ref xn, l1, l2, l3, l4, l5, l6] st S Q = pm_V d 115 161 [.ref xn, l1, l2, l3, l4, l5, l6] (.ref xn :: st) S Q := pv_aload_n (pm_cdi rfl dX7_product_160) rfl
theorem q115_161 (hs : pm_sh S an = .inr 7) : pm_V d 115 161 [l0, l1, l2, l3, l4, l5, l6] (.ref an :: st) S Q = pm_V d 115 164 [l0, l1, l2, l3, l4, l5, l6] (va_rf (pm_gr S an 8) :: st) S Q := pv_getA (pm_cdi rfl dX7_product_161) (by decide +kernel) (by decide +kernel) (by decide +kernel) hs
theorem q115_164 : pm_V d 115 164 [l0, l1, .int xi, l3, l4, l5, l6] st S Q = pm_V d 115 165 [l0, l1, .int xi, l3, l4, l5, l6] (.int xi :: st) S Q := pv_iload_n (pm_cdi rfl dX7_product_164) rfl
theorem q115_165 (hs : pm_ar S an 0 xi = true) : pm_V d 115 165 [l0, l1, l2, l3, l4, l5, l6] (.int xi :: .ref an :: st) S Q = pm_V d 115 166 [l0, l1, l2, l3, l4, l5, l6] (.int (pm_zi S an xi.toNatClampNeg) :: st) S Q := pv_iald (pm_cdi rfl dX7_product_165) hs
theorem q115_166 : pm_V d 115 166 [l0, l1, l2, l3, l4, l5, l6] (.int yi :: .int xi :: st) S Q = if xi < yi then pm_V d 115 169 [l0, l1, l2, l3, l4, l5, l6] st S Q else pm_V d 115 237 [l0, l1, l2, l3, l4, l5, l6] st S Q := pv_icmp_ge (pm_cdi rfl dX7_product_166) rfl
theorem q115_169 : pm_V d 115 169 [l0, l1, l2, l3, l4, l5, l6] st S Q = pm_V d 115 170 [l0, l1, l2, l3, l4, l5, l6] (.int 0 :: st) S Q := pv_iconst (pm_cdi rfl dX7_product_169) (by decide +kernel)
theorem q115_170 : pm_V d 115 170 [l0, l1, l2, l3, l4, .int yi, l6] (.int xi :: st) S Q = pm_V d 115 172 [l0, l1, l2, l3, l4, .int yi, .int xi] st S Q := pv_istore (pm_cdi rfl dX7_product_170) rfl
theorem q115_172 : pm_V d 115 172 [l0, l1, l2, l3, l4, l5, .int xi] st S Q = pm_V d 115 174 [l0, l1, l2, l3, l4, l5, .int xi] (.int xi :: st) S Q := pv_iload (pm_cdi rfl dX7_product_172) rfl
theorem q115_174 : pm_V d 115 174 [.ref xn, l1, l2, l3, l4, l5, l6] st S Q = pm_V d 115 175 [.ref xn, l1, l2, l3, l4, l5, l6] (.ref xn :: st) S Q := pv_aload_n (pm_cdi rfl dX7_product_174) rfl
theorem q115_175 (hs : pm_sh S an = .inr 7) : pm_V d 115 175 [l0, l1, l2, l3, l4, l5, l6] (.ref an :: st) S Q = pm_V d 115 178 [l0, l1, l2, l3, l4, l5, l6] (va_rf (pm_gr S an 9) :: st) S Q := pv_getA (pm_cdi rfl dX7_product_175) (by decide +kernel) (by decide +kernel) (by decide +kernel) hs
theorem q115_178 : pm_V d 115 178 [l0, l1, l2, .int xi, l4, l5, l6] st S Q = pm_V d 115 179 [l0, l1, l2, .int xi, l4, l5, l6] (.int xi :: st) S Q := pv_iload_n (pm_cdi rfl dX7_product_178) rfl
theorem q115_179 (hs : pm_ar S an 0 xi = true) : pm_V d 115 179 [l0, l1, l2, l3, l4, l5, l6] (.int xi :: .ref an :: st) S Q = pm_V d 115 180 [l0, l1, l2, l3, l4, l5, l6] (.int (pm_zi S an xi.toNatClampNeg) :: st) S Q := pv_iald (pm_cdi rfl dX7_product_179) hs
theorem q115_180 : pm_V d 115 180 [l0, l1, l2, l3, l4, l5, l6] (.int yi :: .int xi :: st) S Q = if xi < yi then pm_V d 115 183 [l0, l1, l2, l3, l4, l5, l6] st S Q else pm_V d 115 231 [l0, l1, l2, l3, l4, l5, l6] st S Q := pv_icmp_ge (pm_cdi rfl dX7_product_180) rfl
theorem q115_183 : pm_V d 115 183 [.ref xn, l1, l2, l3, l4, l5, l6] st S Q = pm_V d 115 184 [.ref xn, l1, l2, l3, l4, l5, l6] (.ref xn :: st) S Q := pv_aload_n (pm_cdi rfl dX7_product_183) rfl
theorem q115_184 : pm_V d 115 184 [l0, .int xi, l2, l3, l4, l5, l6] st S Q = pm_V d 115 185 [l0, .int xi, l2, l3, l4, l5, l6] (.int xi :: st) S Q := pv_iload_n (pm_cdi rfl dX7_product_184) rfl
theorem q115_185 : pm_V d 115 185 [l0, l1, l2, l3, .int xi, l5, l6] st S Q = pm_V d 115 187 [l0, l1, l2, l3, .int xi, l5, l6] (.int xi :: st) S Q := pv_iload (pm_cdi rfl dX7_product_185) rfl
theorem q115_187 : pm_V d 115 187 [l0, l1, l2, l3, l4, .int xi, l6] st S Q = pm_V d 115 189 [l0, l1, l2, l3, l4, .int xi, l6] (.int xi :: st) S Q := pv_iload (pm_cdi rfl dX7_product_187) rfl
theorem q115_189 : pm_V d 115 189 [l0, l1, l2, l3, l4, l5, l6] (.int yi :: .int xi :: st) S Q = pm_V d 115 190 [l0, l1, l2, l3, l4, l5, l6] (.int (xi * yi) :: st) S Q := pv_imul (pm_cdi rfl dX7_product_189)
theorem q115_190 : pm_V d 115 190 [.ref xn, l1, l2, l3, l4, l5, l6] st S Q = pm_V d 115 191 [.ref xn, l1, l2, l3, l4, l5, l6] (.ref xn :: st) S Q := pv_aload_n (pm_cdi rfl dX7_product_190) rfl
theorem q115_191 : pm_V d 115 191 [l0, l1, l2, .int xi, l4, l5, l6] st S Q = pm_V d 115 192 [l0, l1, l2, .int xi, l4, l5, l6] (.int xi :: st) S Q := pv_iload_n (pm_cdi rfl dX7_product_191) rfl
theorem q115_192 : pm_V d 115 192 [l0, l1, l2, l3, l4, l5, .int xi] st S Q = pm_V d 115 194 [l0, l1, l2, l3, l4, l5, .int xi] (.int xi :: st) S Q := pv_iload (pm_cdi rfl dX7_product_192) rfl
theorem q115_194 (hs : pm_sh S an = .inr 7) : pm_V (d + 1) 115 194 [l0, l1, l2, l3, l4, l5, l6] [.int v1i, .int v0i, .ref an, .int r0i, .int r1i, .ref r2n] S Q = pm_N d 104 [.ref an, .int v0i, .int v1i] S (fun r S' => pm_V (d + 1) 115 197 [l0, l1, l2, l3, l4, l5, l6] (r.toList ++ [.int r0i, .int r1i, .ref r2n]) S' Q) := pv_callV (as := [.int v0i, .int v1i]) (pm_cdi rfl dX7_product_194) (Or.inl (by decide +kernel)) (by decide +kernel) (show _ = _ from (by decide +kernel : 2 = pm_np 104)) rfl (Nat.le_of_ble_eq_true rfl) (cl := 7) (by decide +kernel) hs
theorem q115_197 : pm_V d 115 197 [l0, l1, l2, l3, l4, l5, l6] (.int yi :: .int xi :: st) S Q = pm_V d 115 198 [l0, l1, l2, l3, l4, l5, l6] (.int (xi + yi) :: st) S Q := pv_iadd (pm_cdi rfl dX7_product_197)
theorem q115_198 : pm_V d 115 198 [l0, l1, l2, l3, .int xi, l5, l6] st S Q = pm_V d 115 200 [l0, l1, l2, l3, .int xi, l5, l6] (.int xi :: st) S Q := pv_iload (pm_cdi rfl dX7_product_198) rfl
theorem q115_200 : pm_V d 115 200 [l0, l1, l2, l3, l4, .int xi, l6] st S Q = pm_V d 115 202 [l0, l1, l2, l3, l4, .int xi, l6] (.int xi :: st) S Q := pv_iload (pm_cdi rfl dX7_product_200) rfl
theorem q115_202 : pm_V d 115 202 [l0, l1, l2, l3, l4, l5, l6] (.int yi :: .int xi :: st) S Q = pm_V d 115 203 [l0, l1, l2, l3, l4, l5, l6] (.int (xi * yi) :: st) S Q := pv_imul (pm_cdi rfl dX7_product_202)
theorem q115_203 : pm_V d 115 203 [.ref xn, l1, l2, l3, l4, l5, l6] st S Q = pm_V d 115 204 [.ref xn, l1, l2, l3, l4, l5, l6] (.ref xn :: st) S Q := pv_aload_n (pm_cdi rfl dX7_product_203) rfl
theorem q115_204 : pm_V d 115 204 [l0, l1, l2, .int xi, l4, l5, l6] st S Q = pm_V d 115 205 [l0, l1, l2, .int xi, l4, l5, l6] (.int xi :: st) S Q := pv_iload_n (pm_cdi rfl dX7_product_204) rfl
theorem q115_205 : pm_V d 115 205 [l0, l1, l2, l3, l4, l5, .int xi] st S Q = pm_V d 115 207 [l0, l1, l2, l3, l4, l5, .int xi] (.int xi :: st) S Q := pv_iload (pm_cdi rfl dX7_product_205) rfl
theorem q115_207 (hs : pm_sh S an = .inr 7) : pm_V (d + 1) 115 207 [l0, l1, l2, l3, l4, l5, l6] [.int v1i, .int v0i, .ref an, .int r0i, .int r1i, .int r2i, .ref r3n] S Q = pm_N d 105 [.ref an, .int v0i, .int v1i] S (fun r S' => pm_V (d + 1) 115 210 [l0, l1, l2, l3, l4, l5, l6] (r.toList ++ [.int r0i, .int r1i, .int r2i, .ref r3n]) S' Q) := pv_callV (as := [.int v0i, .int v1i]) (pm_cdi rfl dX7_product_207) (Or.inl (by decide +kernel)) (by decide +kernel) (show _ = _ from (by decide +kernel : 2 = pm_np 105)) rfl (Nat.le_of_ble_eq_true rfl) (cl := 7) (by decide +kernel) hs
theorem q115_210 : pm_V d 115 210 [l0, l1, l2, l3, l4, l5, l6] (.int yi :: .int xi :: st) S Q = pm_V d 115 211 [l0, l1, l2, l3, l4, l5, l6] (.int (xi + yi) :: st) S Q := pv_iadd (pm_cdi rfl dX7_product_210)
theorem q115_211 : pm_V d 115 211 [.ref xn, l1, l2, l3, l4, l5, l6] st S Q = pm_V d 115 212 [.ref xn, l1, l2, l3, l4, l5, l6] (.ref xn :: st) S Q := pv_aload_n (pm_cdi rfl dX7_product_211) rfl
theorem q115_212 : pm_V d 115 212 [l0, l1, l2, .int xi, l4, l5, l6] st S Q = pm_V d 115 213 [l0, l1, l2, .int xi, l4, l5, l6] (.int xi :: st) S Q := pv_iload_n (pm_cdi rfl dX7_product_212) rfl
theorem q115_213 : pm_V d 115 213 [l0, l1, l2, l3, l4, l5, .int xi] st S Q = pm_V d 115 215 [l0, l1, l2, l3, l4, l5, .int xi] (.int xi :: st) S Q := pv_iload (pm_cdi rfl dX7_product_213) rfl
theorem q115_215 (hs : pm_sh S an = .inr 7) : pm_V (d + 1) 115 215 [l0, l1, l2, l3, l4, l5, l6] [.int v1i, .int v0i, .ref an, .int r0i, .int r1i, .int r2i, .ref r3n] S Q = pm_N d 107 [.ref an, .int v0i, .int v1i] S (fun r S' => pm_V (d + 1) 115 218 [l0, l1, l2, l3, l4, l5, l6] (r.toList ++ [.int r0i, .int r1i, .int r2i, .ref r3n]) S' Q) := pv_callV (as := [.int v0i, .int v1i]) (pm_cdi rfl dX7_product_215) (Or.inl (by decide +kernel)) (by decide +kernel) (show _ = _ from (by decide +kernel : 2 = pm_np 107)) rfl (Nat.le_of_ble_eq_true rfl) (cl := 7) (by decide +kernel) hs
theorem q115_218 : pm_V d 115 218 [l0, l1, l2, l3, l4, l5, l6] st S Q = pm_V d 115 220 [l0, l1, l2, l3, l4, l5, l6] (.int (-1000004) :: st) S Q := pv_ldc (pm_cdi rfl dX7_product_218) (by decide +kernel)
theorem q115_220 : pm_V d 115 220 [l0, l1, l2, l3, l4, l5, .int xi] st S Q = pm_V d 115 222 [l0, l1, l2, l3, l4, l5, .int xi] (.int xi :: st) S Q := pv_iload (pm_cdi rfl dX7_product_220) rfl
theorem q115_222 (hs : pm_sh S an = .inr 7) : pm_V (d + 1) 115 222 [l0, l1, l2, l3, l4, l5, l6] [.int v5i, .int v4i, .long v3j, .int v2i, .int v1i, .int v0i, .ref an] S Q = pm_N d 103 [.ref an, .int v0i, .int v1i, .int v2i, .long v3j, .int v4i, .int v5i] S (fun r S' => pm_V (d + 1) 115 225 [l0, l1, l2, l3, l4, l5, l6] (r.toList ++ []) S' Q) := pv_callV (as := [.int v0i, .int v1i, .int v2i, .long v3j, .int v4i, .int v5i]) (pm_cdi rfl dX7_product_222) (Or.inl (by decide +kernel)) (by decide +kernel) (show _ = _ from (by decide +kernel : 6 = pm_np 103)) rfl (Nat.le_of_ble_eq_true rfl) (cl := 7) (by decide +kernel) hs
theorem q115_225 : pm_V d 115 225 [l0, l1, l2, l3, l4, .int yi, .int xi] st S Q = pm_V d 115 228 [l0, l1, l2, l3, l4, .int yi, .int (xi + 1)] st S Q := pv_iinc (pm_cdi rfl dX7_product_225) rfl (by decide +kernel) rfl
theorem q115_228 : pm_V d 115 228 [l0, l1, l2, l3, l4, l5, l6] st S Q = pm_V d 115 172 [l0, l1, l2, l3, l4, l5, l6] st S Q := pv_goto (pm_cdi rfl dX7_product_228) rfl
theorem q115_231 : pm_V d 115 231 [l0, l1, l2, l3, .int yi, .int xi, l6] st S Q = pm_V d 115 234 [l0, l1, l2, l3, .int yi, .int (xi + 1), l6] st S Q := pv_iinc (pm_cdi rfl dX7_product_231) rfl (by decide +kernel) rfl
theorem q115_234 : pm_V d 115 234 [l0, l1, l2, l3, l4, l5, l6] st S Q = pm_V d 115 158 [l0, l1, l2, l3, l4, l5, l6] st S Q := pv_goto (pm_cdi rfl dX7_product_234) rfl
theorem q115_237 : pm_V d 115 237 [.ref xn, l1, l2, l3, l4, l5, l6] st S Q = pm_V d 115 238 [.ref xn, l1, l2, l3, l4, l5, l6] (.ref xn :: st) S Q := pv_aload_n (pm_cdi rfl dX7_product_237) rfl
theorem q115_238 (hs : pm_sh S an = .inr 7) : pm_V d 115 238 [l0, l1, l2, l3, l4, l5, l6] (.ref an :: st) S Q = pm_V d 115 241 [l0, l1, l2, l3, l4, l5, l6] (va_rf (pm_gr S an 4) :: st) S Q := pv_getA (pm_cdi rfl dX7_product_238) (by decide +kernel) (by decide +kernel) (by decide +kernel) hs
theorem q115_241 : pm_V d 115 241 [l0, .int xi, l2, l3, l4, l5, l6] st S Q = pm_V d 115 242 [l0, .int xi, l2, l3, l4, l5, l6] (.int xi :: st) S Q := pv_iload_n (pm_cdi rfl dX7_product_241) rfl
theorem q115_242 (hs : pm_ar S an 0 xi = true) : pm_V d 115 242 [l0, l1, l2, l3, l4, l5, l6] (.int xi :: .ref an :: st) S Q = pm_V d 115 243 [l0, l1, l2, l3, l4, l5, l6] (.int (pm_zi S an xi.toNatClampNeg) :: st) S Q := pv_iald (pm_cdi rfl dX7_product_242) hs
theorem q115_243 : pm_V d 115 243 [l0, l1, l2, l3, l4, l5, l6] st S Q = pm_V d 115 244 [l0, l1, l2, l3, l4, l5, l6] (.int 1 :: st) S Q := pv_iconst (pm_cdi rfl dX7_product_243) (by decide +kernel)
theorem q115_244 : pm_V d 115 244 [l0, l1, l2, l3, l4, l5, l6] (.int yi :: .int xi :: st) S Q = if xi = yi then pm_V d 115 347 [l0, l1, l2, l3, l4, l5, l6] st S Q else pm_V d 115 247 [l0, l1, l2, l3, l4, l5, l6] st S Q := pv_icmp_eq (pm_cdi rfl dX7_product_244) rfl
theorem q115_247 : pm_V d 115 247 [l0, l1, l2, l3, l4, l5, l6] st S Q = pm_V d 115 248 [l0, l1, l2, l3, l4, l5, l6] (.int 0 :: st) S Q := pv_iconst (pm_cdi rfl dX7_product_247) (by decide +kernel)
theorem q115_248 : pm_V d 115 248 [l0, l1, l2, l3, .int yi, l5, l6] (.int xi :: st) S Q = pm_V d 115 250 [l0, l1, l2, l3, .int yi, .int xi, l6] st S Q := pv_istore (pm_cdi rfl dX7_product_248) rfl
theorem q115_250 : pm_V d 115 250 [l0, l1, l2, l3, l4, .int xi, l6] st S Q = pm_V d 115 252 [l0, l1, l2, l3, l4, .int xi, l6] (.int xi :: st) S Q := pv_iload (pm_cdi rfl dX7_product_250) rfl
theorem q115_252 : pm_V d 115 252 [.ref xn, l1, l2, l3, l4, l5, l6] st S Q = pm_V d 115 253 [.ref xn, l1, l2, l3, l4, l5, l6] (.ref xn :: st) S Q := pv_aload_n (pm_cdi rfl dX7_product_252) rfl
theorem q115_253 (hs : pm_sh S an = .inr 7) : pm_V d 115 253 [l0, l1, l2, l3, l4, l5, l6] (.ref an :: st) S Q = pm_V d 115 256 [l0, l1, l2, l3, l4, l5, l6] (va_rf (pm_gr S an 9) :: st) S Q := pv_getA (pm_cdi rfl dX7_product_253) (by decide +kernel) (by decide +kernel) (by decide +kernel) hs
theorem q115_256 : pm_V d 115 256 [l0, l1, .int xi, l3, l4, l5, l6] st S Q = pm_V d 115 257 [l0, l1, .int xi, l3, l4, l5, l6] (.int xi :: st) S Q := pv_iload_n (pm_cdi rfl dX7_product_256) rfl
theorem q115_257 (hs : pm_ar S an 0 xi = true) : pm_V d 115 257 [l0, l1, l2, l3, l4, l5, l6] (.int xi :: .ref an :: st) S Q = pm_V d 115 258 [l0, l1, l2, l3, l4, l5, l6] (.int (pm_zi S an xi.toNatClampNeg) :: st) S Q := pv_iald (pm_cdi rfl dX7_product_257) hs
theorem q115_258 : pm_V d 115 258 [l0, l1, l2, l3, l4, l5, l6] (.int yi :: .int xi :: st) S Q = if xi < yi then pm_V d 115 261 [l0, l1, l2, l3, l4, l5, l6] st S Q else pm_V d 115 347 [l0, l1, l2, l3, l4, l5, l6] st S Q := pv_icmp_ge (pm_cdi rfl dX7_product_258) rfl
theorem q115_261 : pm_V d 115 261 [l0, l1, l2, l3, l4, l5, l6] st S Q = pm_V d 115 262 [l0, l1, l2, l3, l4, l5, l6] (.int 0 :: st) S Q := pv_iconst (pm_cdi rfl dX7_product_261) (by decide +kernel)
theorem q115_262 : pm_V d 115 262 [l0, l1, l2, l3, l4, .int yi, l6] (.int xi :: st) S Q = pm_V d 115 264 [l0, l1, l2, l3, l4, .int yi, .int xi] st S Q := pv_istore (pm_cdi rfl dX7_product_262) rfl
theorem q115_264 : pm_V d 115 264 [l0, l1, l2, l3, l4, l5, .int xi] st S Q = pm_V d 115 266 [l0, l1, l2, l3, l4, l5, .int xi] (.int xi :: st) S Q := pv_iload (pm_cdi rfl dX7_product_264) rfl
theorem q115_266 : pm_V d 115 266 [.ref xn, l1, l2, l3, l4, l5, l6] st S Q = pm_V d 115 267 [.ref xn, l1, l2, l3, l4, l5, l6] (.ref xn :: st) S Q := pv_aload_n (pm_cdi rfl dX7_product_266) rfl
theorem q115_267 (hs : pm_sh S an = .inr 7) : pm_V d 115 267 [l0, l1, l2, l3, l4, l5, l6] (.ref an :: st) S Q = pm_V d 115 270 [l0, l1, l2, l3, l4, l5, l6] (va_rf (pm_gr S an 9) :: st) S Q := pv_getA (pm_cdi rfl dX7_product_267) (by decide +kernel) (by decide +kernel) (by decide +kernel) hs
theorem q115_270 : pm_V d 115 270 [l0, l1, l2, .int xi, l4, l5, l6] st S Q = pm_V d 115 271 [l0, l1, l2, .int xi, l4, l5, l6] (.int xi :: st) S Q := pv_iload_n (pm_cdi rfl dX7_product_270) rfl
theorem q115_271 (hs : pm_ar S an 0 xi = true) : pm_V d 115 271 [l0, l1, l2, l3, l4, l5, l6] (.int xi :: .ref an :: st) S Q = pm_V d 115 272 [l0, l1, l2, l3, l4, l5, l6] (.int (pm_zi S an xi.toNatClampNeg) :: st) S Q := pv_iald (pm_cdi rfl dX7_product_271) hs
theorem q115_272 : pm_V d 115 272 [l0, l1, l2, l3, l4, l5, l6] (.int yi :: .int xi :: st) S Q = if xi < yi then pm_V d 115 275 [l0, l1, l2, l3, l4, l5, l6] st S Q else pm_V d 115 341 [l0, l1, l2, l3, l4, l5, l6] st S Q := pv_icmp_ge (pm_cdi rfl dX7_product_272) rfl
theorem q115_275 : pm_V d 115 275 [.ref xn, l1, l2, l3, l4, l5, l6] st S Q = pm_V d 115 276 [.ref xn, l1, l2, l3, l4, l5, l6] (.ref xn :: st) S Q := pv_aload_n (pm_cdi rfl dX7_product_275) rfl
theorem q115_276 : pm_V d 115 276 [l0, .int xi, l2, l3, l4, l5, l6] st S Q = pm_V d 115 277 [l0, .int xi, l2, l3, l4, l5, l6] (.int xi :: st) S Q := pv_iload_n (pm_cdi rfl dX7_product_276) rfl
theorem q115_277 : pm_V d 115 277 [l0, l1, l2, l3, .int xi, l5, l6] st S Q = pm_V d 115 279 [l0, l1, l2, l3, .int xi, l5, l6] (.int xi :: st) S Q := pv_iload (pm_cdi rfl dX7_product_277) rfl
theorem q115_279 : pm_V d 115 279 [.ref xn, l1, l2, l3, l4, l5, l6] st S Q = pm_V d 115 280 [.ref xn, l1, l2, l3, l4, l5, l6] (.ref xn :: st) S Q := pv_aload_n (pm_cdi rfl dX7_product_279) rfl
theorem q115_280 : pm_V d 115 280 [l0, l1, .int xi, l3, l4, l5, l6] st S Q = pm_V d 115 281 [l0, l1, .int xi, l3, l4, l5, l6] (.int xi :: st) S Q := pv_iload_n (pm_cdi rfl dX7_product_280) rfl
theorem q115_281 : pm_V d 115 281 [l0, l1, l2, l3, l4, .int xi, l6] st S Q = pm_V d 115 283 [l0, l1, l2, l3, l4, .int xi, l6] (.int xi :: st) S Q := pv_iload (pm_cdi rfl dX7_product_281) rfl
theorem q115_283 (hs : pm_sh S an = .inr 7) : pm_V (d + 1) 115 283 [l0, l1, l2, l3, l4, l5, l6] [.int v1i, .int v0i, .ref an, .int r0i, .int r1i, .ref r2n] S Q = pm_N d 104 [.ref an, .int v0i, .int v1i] S (fun r S' => pm_V (d + 1) 115 286 [l0, l1, l2, l3, l4, l5, l6] (r.toList ++ [.int r0i, .int r1i, .ref r2n]) S' Q) := pv_callV (as := [.int v0i, .int v1i]) (pm_cdi rfl dX7_product_283) (Or.inl (by decide +kernel)) (by decide +kernel) (show _ = _ from (by decide +kernel : 2 = pm_np 104)) rfl (Nat.le_of_ble_eq_true rfl) (cl := 7) (by decide +kernel) hs
theorem q115_286 : pm_V d 115 286 [l0, l1, l2, l3, l4, l5, l6] (.int yi :: .int xi :: st) S Q = pm_V d 115 287 [l0, l1, l2, l3, l4, l5, l6] (.int (xi * yi) :: st) S Q := pv_imul (pm_cdi rfl dX7_product_286)
theorem q115_287 : pm_V d 115 287 [.ref xn, l1, l2, l3, l4, l5, l6] st S Q = pm_V d 115 288 [.ref xn, l1, l2, l3, l4, l5, l6] (.ref xn :: st) S Q := pv_aload_n (pm_cdi rfl dX7_product_287) rfl
theorem q115_288 : pm_V d 115 288 [l0, l1, l2, .int xi, l4, l5, l6] st S Q = pm_V d 115 289 [l0, l1, l2, .int xi, l4, l5, l6] (.int xi :: st) S Q := pv_iload_n (pm_cdi rfl dX7_product_288) rfl
theorem q115_289 : pm_V d 115 289 [l0, l1, l2, l3, l4, l5, .int xi] st S Q = pm_V d 115 291 [l0, l1, l2, l3, l4, l5, .int xi] (.int xi :: st) S Q := pv_iload (pm_cdi rfl dX7_product_289) rfl
theorem q115_291 (hs : pm_sh S an = .inr 7) : pm_V (d + 1) 115 291 [l0, l1, l2, l3, l4, l5, l6] [.int v1i, .int v0i, .ref an, .int r0i, .int r1i, .ref r2n] S Q = pm_N d 104 [.ref an, .int v0i, .int v1i] S (fun r S' => pm_V (d + 1) 115 294 [l0, l1, l2, l3, l4, l5, l6] (r.toList ++ [.int r0i, .int r1i, .ref r2n]) S' Q) := pv_callV (as := [.int v0i, .int v1i]) (pm_cdi rfl dX7_product_291) (Or.inl (by decide +kernel)) (by decide +kernel) (show _ = _ from (by decide +kernel : 2 = pm_np 104)) rfl (Nat.le_of_ble_eq_true rfl) (cl := 7) (by decide +kernel) hs
theorem q115_294 : pm_V d 115 294 [l0, l1, l2, l3, l4, l5, l6] (.int yi :: .int xi :: st) S Q = pm_V d 115 295 [l0, l1, l2, l3, l4, l5, l6] (.int (xi + yi) :: st) S Q := pv_iadd (pm_cdi rfl dX7_product_294)
theorem q115_295 : pm_V d 115 295 [l0, l1, l2, l3, .int xi, l5, l6] st S Q = pm_V d 115 297 [l0, l1, l2, l3, .int xi, l5, l6] (.int xi :: st) S Q := pv_iload (pm_cdi rfl dX7_product_295) rfl
theorem q115_297 : pm_V d 115 297 [.ref xn, l1, l2, l3, l4, l5, l6] st S Q = pm_V d 115 298 [.ref xn, l1, l2, l3, l4, l5, l6] (.ref xn :: st) S Q := pv_aload_n (pm_cdi rfl dX7_product_297) rfl
theorem q115_298 : pm_V d 115 298 [l0, l1, .int xi, l3, l4, l5, l6] st S Q = pm_V d 115 299 [l0, l1, .int xi, l3, l4, l5, l6] (.int xi :: st) S Q := pv_iload_n (pm_cdi rfl dX7_product_298) rfl
theorem q115_299 : pm_V d 115 299 [l0, l1, l2, l3, l4, .int xi, l6] st S Q = pm_V d 115 301 [l0, l1, l2, l3, l4, .int xi, l6] (.int xi :: st) S Q := pv_iload (pm_cdi rfl dX7_product_299) rfl
theorem q115_301 (hs : pm_sh S an = .inr 7) : pm_V (d + 1) 115 301 [l0, l1, l2, l3, l4, l5, l6] [.int v1i, .int v0i, .ref an, .int r0i, .int r1i, .int r2i, .ref r3n] S Q = pm_N d 105 [.ref an, .int v0i, .int v1i] S (fun r S' => pm_V (d + 1) 115 304 [l0, l1, l2, l3, l4, l5, l6] (r.toList ++ [.int r0i, .int r1i, .int r2i, .ref r3n]) S' Q) := pv_callV (as := [.int v0i, .int v1i]) (pm_cdi rfl dX7_product_301) (Or.inl (by decide +kernel)) (by decide +kernel) (show _ = _ from (by decide +kernel : 2 = pm_np 105)) rfl (Nat.le_of_ble_eq_true rfl) (cl := 7) (by decide +kernel) hs
theorem q115_304 : pm_V d 115 304 [l0, l1, l2, l3, l4, l5, l6] (.int yi :: .int xi :: st) S Q = pm_V d 115 305 [l0, l1, l2, l3, l4, l5, l6] (.int (xi * yi) :: st) S Q := pv_imul (pm_cdi rfl dX7_product_304)
theorem q115_305 : pm_V d 115 305 [.ref xn, l1, l2, l3, l4, l5, l6] st S Q = pm_V d 115 306 [.ref xn, l1, l2, l3, l4, l5, l6] (.ref xn :: st) S Q := pv_aload_n (pm_cdi rfl dX7_product_305) rfl
theorem q115_306 : pm_V d 115 306 [l0, l1, l2, .int xi, l4, l5, l6] st S Q = pm_V d 115 307 [l0, l1, l2, .int xi, l4, l5, l6] (.int xi :: st) S Q := pv_iload_n (pm_cdi rfl dX7_product_306) rfl
theorem q115_307 : pm_V d 115 307 [l0, l1, l2, l3, l4, l5, .int xi] st S Q = pm_V d 115 309 [l0, l1, l2, l3, l4, l5, .int xi] (.int xi :: st) S Q := pv_iload (pm_cdi rfl dX7_product_307) rfl
theorem q115_309 (hs : pm_sh S an = .inr 7) : pm_V (d + 1) 115 309 [l0, l1, l2, l3, l4, l5, l6] [.int v1i, .int v0i, .ref an, .int r0i, .int r1i, .int r2i, .ref r3n] S Q = pm_N d 105 [.ref an, .int v0i, .int v1i] S (fun r S' => pm_V (d + 1) 115 312 [l0, l1, l2, l3, l4, l5, l6] (r.toList ++ [.int r0i, .int r1i, .int r2i, .ref r3n]) S' Q) := pv_callV (as := [.int v0i, .int v1i]) (pm_cdi rfl dX7_product_309) (Or.inl (by decide +kernel)) (by decide +kernel) (show _ = _ from (by decide +kernel : 2 = pm_np 105)) rfl (Nat.le_of_ble_eq_true rfl) (cl := 7) (by decide +kernel) hs
theorem q115_312 : pm_V d 115 312 [l0, l1, l2, l3, l4, l5, l6] (.int yi :: .int xi :: st) S Q = pm_V d 115 313 [l0, l1, l2, l3, l4, l5, l6] (.int (xi + yi) :: st) S Q := pv_iadd (pm_cdi rfl dX7_product_312)
theorem q115_313 : pm_V d 115 313 [.ref xn, l1, l2, l3, l4, l5, l6] st S Q = pm_V d 115 314 [.ref xn, l1, l2, l3, l4, l5, l6] (.ref xn :: st) S Q := pv_aload_n (pm_cdi rfl dX7_product_313) rfl
theorem q115_314 : pm_V d 115 314 [l0, l1, .int xi, l3, l4, l5, l6] st S Q = pm_V d 115 315 [l0, l1, .int xi, l3, l4, l5, l6] (.int xi :: st) S Q := pv_iload_n (pm_cdi rfl dX7_product_314) rfl
theorem q115_315 : pm_V d 115 315 [l0, l1, l2, l3, l4, .int xi, l6] st S Q = pm_V d 115 317 [l0, l1, l2, l3, l4, .int xi, l6] (.int xi :: st) S Q := pv_iload (pm_cdi rfl dX7_product_315) rfl
theorem q115_317 (hs : pm_sh S an = .inr 7) : pm_V (d + 1) 115 317 [l0, l1, l2, l3, l4, l5, l6] [.int v1i, .int v0i, .ref an, .int r0i, .int r1i, .int r2i, .ref r3n] S Q = pm_N d 107 [.ref an, .int v0i, .int v1i] S (fun r S' => pm_V (d + 1) 115 320 [l0, l1, l2, l3, l4, l5, l6] (r.toList ++ [.int r0i, .int r1i, .int r2i, .ref r3n]) S' Q) := pv_callV (as := [.int v0i, .int v1i]) (pm_cdi rfl dX7_product_317) (Or.inl (by decide +kernel)) (by decide +kernel) (show _ = _ from (by decide +kernel : 2 = pm_np 107)) rfl (Nat.le_of_ble_eq_true rfl) (cl := 7) (by decide +kernel) hs
theorem q115_320 : pm_V d 115 320 [.ref xn, l1, l2, l3, l4, l5, l6] st S Q = pm_V d 115 321 [.ref xn, l1, l2, l3, l4, l5, l6] (.ref xn :: st) S Q := pv_aload_n (pm_cdi rfl dX7_product_320) rfl
theorem q115_321 : pm_V d 115 321 [l0, l1, l2, .int xi, l4, l5, l6] st S Q = pm_V d 115 322 [l0, l1, l2, .int xi, l4, l5, l6] (.int xi :: st) S Q := pv_iload_n (pm_cdi rfl dX7_product_321) rfl
theorem q115_322 : pm_V d 115 322 [l0, l1, l2, l3, l4, l5, .int xi] st S Q = pm_V d 115 324 [l0, l1, l2, l3, l4, l5, .int xi] (.int xi :: st) S Q := pv_iload (pm_cdi rfl dX7_product_322) rfl
theorem q115_324 (hs : pm_sh S an = .inr 7) : pm_V (d + 1) 115 324 [l0, l1, l2, l3, l4, l5, l6] [.int v1i, .int v0i, .ref an, .long r0j, .int r1i, .int r2i, .int r3i, .ref r4n] S Q = pm_N d 107 [.ref an, .int v0i, .int v1i] S (fun r S' => pm_V (d + 1) 115 327 [l0, l1, l2, l3, l4, l5, l6] (r.toList ++ [.long r0j, .int r1i, .int r2i, .int r3i, .ref r4n]) S' Q) := pv_callV (as := [.int v0i, .int v1i]) (pm_cdi rfl dX7_product_324) (Or.inl (by decide +kernel)) (by decide +kernel) (show _ = _ from (by decide +kernel : 2 = pm_np 107)) rfl (Nat.le_of_ble_eq_true rfl) (cl := 7) (by decide +kernel) hs
theorem q115_327 : pm_V d 115 327 [l0, l1, l2, l3, l4, l5, l6] (.long yj :: .long xj :: st) S Q = pm_V d 115 328 [l0, l1, l2, l3, l4, l5, l6] (.long (xj * yj) :: st) S Q := pv_lmul (pm_cdi rfl dX7_product_327)
theorem q115_328 : pm_V d 115 328 [l0, l1, l2, l3, l4, .int xi, l6] st S Q = pm_V d 115 330 [l0, l1, l2, l3, l4, .int xi, l6] (.int xi :: st) S Q := pv_iload (pm_cdi rfl dX7_product_328) rfl
theorem q115_330 : pm_V d 115 330 [l0, l1, l2, l3, l4, l5, .int xi] st S Q = pm_V d 115 332 [l0, l1, l2, l3, l4, l5, .int xi] (.int xi :: st) S Q := pv_iload (pm_cdi rfl dX7_product_330) rfl
theorem q115_332 (hs : pm_sh S an = .inr 7) : pm_V (d + 1) 115 332 [l0, l1, l2, l3, l4, l5, l6] [.int v5i, .int v4i, .long v3j, .int v2i, .int v1i, .int v0i, .ref an] S Q = pm_N d 103 [.ref an, .int v0i, .int v1i, .int v2i, .long v3j, .int v4i, .int v5i] S (fun r S' => pm_V (d + 1) 115 335 [l0, l1, l2, l3, l4, l5, l6] (r.toList ++ []) S' Q) := pv_callV (as := [.int v0i, .int v1i, .int v2i, .long v3j, .int v4i, .int v5i]) (pm_cdi rfl dX7_product_332) (Or.inl (by decide +kernel)) (by decide +kernel) (show _ = _ from (by decide +kernel : 6 = pm_np 103)) rfl (Nat.le_of_ble_eq_true rfl) (cl := 7) (by decide +kernel) hs
theorem q115_335 : pm_V d 115 335 [l0, l1, l2, l3, l4, .int yi, .int xi] st S Q = pm_V d 115 338 [l0, l1, l2, l3, l4, .int yi, .int (xi + 1)] st S Q := pv_iinc (pm_cdi rfl dX7_product_335) rfl (by decide +kernel) rfl
theorem q115_338 : pm_V d 115 338 [l0, l1, l2, l3, l4, l5, l6] st S Q = pm_V d 115 264 [l0, l1, l2, l3, l4, l5, l6] st S Q := pv_goto (pm_cdi rfl dX7_product_338) rfl
theorem q115_341 : pm_V d 115 341 [l0, l1, l2, l3, .int yi, .int xi, l6] st S Q = pm_V d 115 344 [l0, l1, l2, l3, .int yi, .int (xi + 1), l6] st S Q := pv_iinc (pm_cdi rfl dX7_product_341) rfl (by decide +kernel) rfl
theorem q115_344 : pm_V d 115 344 [l0, l1, l2, l3, l4, l5, l6] st S Q = pm_V d 115 250 [l0, l1, l2, l3, l4, l5, l6] st S Q := pv_goto (pm_cdi rfl dX7_product_344) rfl
theorem q115_347 : pm_V d 115 347 [l0, l1, l2, l3, l4, l5, l6] [] S Q = Q none S := pv_rV (pm_cdi rfl dX7_product_347) (by decide +kernel)
theorem q115_e : pm_N d 115 [.ref an, .int v0i, .int v1i, .int v2i] S Q = pm_V d 115 0 [.ref an, .int v0i, .int v1i, .int v2i, pm_j, pm_j, pm_j] [] S Q := pv_ent (Nat.le_of_ble_eq_true rfl) rfl
/-! 116: ViewsJoinsModel.lines(II)V -/
theorem dX7_lines_0 : decode cX7_lines 0 = .ok (.iconst 0, 1) := by decide +kernel
theorem dX7_lines_1 : decode cX7_lines 1 = .ok (.istore_n 3, 1) := by decide +kernel
theorem dX7_lines_2 : decode cX7_lines 2 = .ok (.iload_n 3, 1) := by decide +kernel
theorem dX7_lines_3 : decode cX7_lines 3 = .ok (.aload_n 0, 1) := by decide +kernel
theorem dX7_lines_4 : decode cX7_lines 4 = .ok (.getfield 35, 3) := by decide +kernel
theorem dX7_lines_7 : decode cX7_lines 7 = .ok (.iload_n 2, 1) := by decide +kernel
theorem dX7_lines_8 : decode cX7_lines 8 = .ok (.iaload, 1) := by decide +kernel
theorem dX7_lines_9 : decode cX7_lines 9 = .ok (.if_icmp .ge 23, 3) := by decide +kernel
theorem dX7_lines_12 : decode cX7_lines 12 = .ok (.aload_n 0, 1) := by decide +kernel
theorem dX7_lines_13 : decode cX7_lines 13 = .ok (.iload_n 1, 1) := by decide +kernel
theorem dX7_lines_14 : decode cX7_lines 14 = .ok (.aload_n 0, 1) := by decide +kernel
theorem dX7_lines_15 : decode cX7_lines 15 = .ok (.iload_n 2, 1) := by decide +kernel
theorem dX7_lines_16 : decode cX7_lines 16 = .ok (.iload_n 3, 1) := by decide +kernel
theorem dX7_lines_17 : decode cX7_lines 17 = .ok (.invokevirtual 209, 3) := by decide +kernel
theorem dX7_lines_20 : decode cX7_lines 20 = .ok (.iload_n 3, 1) := by decide +kernel
theorem dX7_lines_21 : decode cX7_lines 21 = .ok (.ldc 139, 2) := by decide +kernel
theorem dX7_lines_23 : decode cX7_lines 23 = .ok (.invokevirtual 205, 3) := by decide +kernel
theorem dX7_lines_26 : decode cX7_lines 26 = .ok (.iinc 3 1, 3) := by decide +kernel
theorem dX7_lines_29 : decode cX7_lines 29 = .ok (.goto (-27), 3) := by decide +kernel
theorem dX7_lines_32 : decode cX7_lines 32 = .ok (.iconst 0, 1) := by decide +kernel
theorem dX7_lines_33 : decode cX7_lines 33 = .ok (.istore_n 3, 1) := by decide +kernel
theorem dX7_lines_34 : decode cX7_lines 34 = .ok (.iload_n 3, 1) := by decide +kernel
theorem dX7_lines_35 : decode cX7_lines 35 = .ok (.aload_n 0, 1) := by decide +kernel
theorem dX7_lines_36 : decode cX7_lines 36 = .ok (.getfield 35, 3) := by decide +kernel
theorem dX7_lines_39 : decode cX7_lines 39 = .ok (.iload_n 2, 1) := by decide +kernel
theorem dX7_lines_40 : decode cX7_lines 40 = .ok (.iaload, 1) := by decide +kernel
theorem dX7_lines_41 : decode cX7_lines 41 = .ok (.if_icmp .ge 72, 3) := by decide +kernel
theorem dX7_lines_44 : decode cX7_lines 44 = .ok (.iconst 0, 1) := by decide +kernel
theorem dX7_lines_45 : decode cX7_lines 45 = .ok (.istore 4, 2) := by decide +kernel
theorem dX7_lines_47 : decode cX7_lines 47 = .ok (.iload 4, 2) := by decide +kernel
theorem dX7_lines_49 : decode cX7_lines 49 = .ok (.aload_n 0, 1) := by decide +kernel
theorem dX7_lines_50 : decode cX7_lines 50 = .ok (.getfield 35, 3) := by decide +kernel
theorem dX7_lines_53 : decode cX7_lines 53 = .ok (.iload_n 2, 1) := by decide +kernel
theorem dX7_lines_54 : decode cX7_lines 54 = .ok (.iaload, 1) := by decide +kernel
theorem dX7_lines_55 : decode cX7_lines 55 = .ok (.if_icmp .ge 52, 3) := by decide +kernel
theorem dX7_lines_58 : decode cX7_lines 58 = .ok (.aload_n 0, 1) := by decide +kernel
theorem dX7_lines_59 : decode cX7_lines 59 = .ok (.iload_n 2, 1) := by decide +kernel
theorem dX7_lines_60 : decode cX7_lines 60 = .ok (.iload 4, 2) := by decide +kernel
theorem dX7_lines_62 : decode cX7_lines 62 = .ok (.invokevirtual 181, 3) := by decide +kernel
theorem dX7_lines_65 : decode cX7_lines 65 = .ok (.aload_n 0, 1) := by decide +kernel
theorem dX7_lines_66 : decode cX7_lines 66 = .ok (.iload_n 2, 1) := by decide +kernel
theorem dX7_lines_67 : decode cX7_lines 67 = .ok (.iload_n 3, 1) := by decide +kernel
theorem dX7_lines_68 : decode cX7_lines 68 = .ok (.invokevirtual 185, 3) := by decide +kernel
theorem dX7_lines_71 : decode cX7_lines 71 = .ok (.if_icmp .ne 30, 3) := by decide +kernel
theorem dX7_lines_74 : decode cX7_lines 74 = .ok (.aload_n 0, 1) := by decide +kernel
theorem dX7_lines_75 : decode cX7_lines 75 = .ok (.iload_n 1, 1) := by decide +kernel
theorem dX7_lines_76 : decode cX7_lines 76 = .ok (.iload_n 3, 1) := by decide +kernel
theorem dX7_lines_77 : decode cX7_lines 77 = .ok (.iload 4, 2) := by decide +kernel
theorem dX7_lines_79 : decode cX7_lines 79 = .ok (.aload_n 0, 1) := by decide +kernel
theorem dX7_lines_80 : decode cX7_lines 80 = .ok (.iload_n 2, 1) := by decide +kernel
theorem dX7_lines_81 : decode cX7_lines 81 = .ok (.aload_n 0, 1) := by decide +kernel
theorem dX7_lines_82 : decode cX7_lines 82 = .ok (.iload_n 2, 1) := by decide +kernel
theorem dX7_lines_83 : decode cX7_lines 83 = .ok (.iload_n 3, 1) := by decide +kernel
theorem dX7_lines_84 : decode cX7_lines 84 = .ok (.invokevirtual 185, 3) := by decide +kernel
theorem dX7_lines_87 : decode cX7_lines 87 = .ok (.invokevirtual 201, 3) := by decide +kernel
theorem dX7_lines_90 : decode cX7_lines 90 = .ok (.aload_n 0, 1) := by decide +kernel
theorem dX7_lines_91 : decode cX7_lines 91 = .ok (.iload_n 2, 1) := by decide +kernel
theorem dX7_lines_92 : decode cX7_lines 92 = .ok (.iload_n 3, 1) := by decide +kernel
theorem dX7_lines_93 : decode cX7_lines 93 = .ok (.invokevirtual 185, 3) := by decide +kernel
theorem dX7_lines_96 : decode cX7_lines 96 = .ok (.ldc 139, 2) := by decide +kernel
theorem dX7_lines_98 : decode cX7_lines 98 = .ok (.invokevirtual 140, 3) := by decide +kernel
theorem dX7_lines_101 : decode cX7_lines 101 = .ok (.iinc 4 1, 3) := by decide +kernel
theorem dX7_lines_104 : decode cX7_lines 104 = .ok (.goto (-57), 3) := by decide +kernel
theorem dX7_lines_107 : decode cX7_lines 107 = .ok (.iinc 3 1, 3) := by decide +kernel
theorem dX7_lines_110 : decode cX7_lines 110 = .ok (.goto (-76), 3) := by decide +kernel
theorem dX7_lines_113 : decode cX7_lines 113 = .ok (.return_, 1) := by decide +kernel
theorem q116_0 : pm_V d 116 0 [l0, l1, l2, l3, l4] st S Q = pm_V d 116 1 [l0, l1, l2, l3, l4] (.int 0 :: st) S Q := pv_iconst (pm_cdi rfl dX7_lines_0) (by decide +kernel)
theorem q116_1 : pm_V d 116 1 [l0, l1, .int yi, l3, l4] (.int xi :: st) S Q = pm_V d 116 2 [l0, l1, .int yi, .int xi, l4] st S Q := pv_istore_n (pm_cdi rfl dX7_lines_1) rfl
theorem q116_2 : pm_V d 116 2 [l0, l1, l2, .int xi, l4] st S Q = pm_V d 116 3 [l0, l1, l2, .int xi, l4] (.int xi :: st) S Q := pv_iload_n (pm_cdi rfl dX7_lines_2) rfl
theorem q116_3 : pm_V d 116 3 [.ref xn, l1, l2, l3, l4] st S Q = pm_V d 116 4 [.ref xn, l1, l2, l3, l4] (.ref xn :: st) S Q := pv_aload_n (pm_cdi rfl dX7_lines_3) rfl
theorem q116_4 (hs : pm_sh S an = .inr 7) : pm_V d 116 4 [l0, l1, l2, l3, l4] (.ref an :: st) S Q = pm_V d 116 7 [l0, l1, l2, l3, l4] (va_rf (pm_gr S an 9) :: st) S Q := pv_getA (pm_cdi rfl dX7_lines_4) (by decide +kernel) (by decide +kernel) (by decide +kernel) hs
theorem q116_7 : pm_V d 116 7 [l0, l1, .int xi, l3, l4] st S Q = pm_V d 116 8 [l0, l1, .int xi, l3, l4] (.int xi :: st) S Q := pv_iload_n (pm_cdi rfl dX7_lines_7) rfl
theorem q116_8 (hs : pm_ar S an 0 xi = true) : pm_V d 116 8 [l0, l1, l2, l3, l4] (.int xi :: .ref an :: st) S Q = pm_V d 116 9 [l0, l1, l2, l3, l4] (.int (pm_zi S an xi.toNatClampNeg) :: st) S Q := pv_iald (pm_cdi rfl dX7_lines_8) hs
theorem q116_9 : pm_V d 116 9 [l0, l1, l2, l3, l4] (.int yi :: .int xi :: st) S Q = if xi < yi then pm_V d 116 12 [l0, l1, l2, l3, l4] st S Q else pm_V d 116 32 [l0, l1, l2, l3, l4] st S Q := pv_icmp_ge (pm_cdi rfl dX7_lines_9) rfl
theorem q116_12 : pm_V d 116 12 [.ref xn, l1, l2, l3, l4] st S Q = pm_V d 116 13 [.ref xn, l1, l2, l3, l4] (.ref xn :: st) S Q := pv_aload_n (pm_cdi rfl dX7_lines_12) rfl
theorem q116_13 : pm_V d 116 13 [l0, .int xi, l2, l3, l4] st S Q = pm_V d 116 14 [l0, .int xi, l2, l3, l4] (.int xi :: st) S Q := pv_iload_n (pm_cdi rfl dX7_lines_13) rfl
theorem q116_14 : pm_V d 116 14 [.ref xn, l1, l2, l3, l4] st S Q = pm_V d 116 15 [.ref xn, l1, l2, l3, l4] (.ref xn :: st) S Q := pv_aload_n (pm_cdi rfl dX7_lines_14) rfl
theorem q116_15 : pm_V d 116 15 [l0, l1, .int xi, l3, l4] st S Q = pm_V d 116 16 [l0, l1, .int xi, l3, l4] (.int xi :: st) S Q := pv_iload_n (pm_cdi rfl dX7_lines_15) rfl
theorem q116_16 : pm_V d 116 16 [l0, l1, l2, .int xi, l4] st S Q = pm_V d 116 17 [l0, l1, l2, .int xi, l4] (.int xi :: st) S Q := pv_iload_n (pm_cdi rfl dX7_lines_16) rfl
theorem q116_17 (hs : pm_sh S an = .inr 7) : pm_V (d + 1) 116 17 [l0, l1, l2, l3, l4] [.int v1i, .int v0i, .ref an, .int r0i, .ref r1n] S Q = pm_N d 107 [.ref an, .int v0i, .int v1i] S (fun r S' => pm_V (d + 1) 116 20 [l0, l1, l2, l3, l4] (r.toList ++ [.int r0i, .ref r1n]) S' Q) := pv_callV (as := [.int v0i, .int v1i]) (pm_cdi rfl dX7_lines_17) (Or.inl (by decide +kernel)) (by decide +kernel) (show _ = _ from (by decide +kernel : 2 = pm_np 107)) rfl (Nat.le_of_ble_eq_true rfl) (cl := 7) (by decide +kernel) hs
theorem q116_20 : pm_V d 116 20 [l0, l1, l2, .int xi, l4] st S Q = pm_V d 116 21 [l0, l1, l2, .int xi, l4] (.int xi :: st) S Q := pv_iload_n (pm_cdi rfl dX7_lines_20) rfl
theorem q116_21 : pm_V d 116 21 [l0, l1, l2, l3, l4] st S Q = pm_V d 116 23 [l0, l1, l2, l3, l4] (.int (-1000004) :: st) S Q := pv_ldc (pm_cdi rfl dX7_lines_21) (by decide +kernel)
theorem q116_23 (hs : pm_sh S an = .inr 7) : pm_V (d + 1) 116 23 [l0, l1, l2, l3, l4] [.int v3i, .int v2i, .long v1j, .int v0i, .ref an] S Q = pm_N d 102 [.ref an, .int v0i, .long v1j, .int v2i, .int v3i] S (fun r S' => pm_V (d + 1) 116 26 [l0, l1, l2, l3, l4] (r.toList ++ []) S' Q) := pv_callV (as := [.int v0i, .long v1j, .int v2i, .int v3i]) (pm_cdi rfl dX7_lines_23) (Or.inl (by decide +kernel)) (by decide +kernel) (show _ = _ from (by decide +kernel : 4 = pm_np 102)) rfl (Nat.le_of_ble_eq_true rfl) (cl := 7) (by decide +kernel) hs
theorem q116_26 : pm_V d 116 26 [l0, l1, .int yi, .int xi, l4] st S Q = pm_V d 116 29 [l0, l1, .int yi, .int (xi + 1), l4] st S Q := pv_iinc (pm_cdi rfl dX7_lines_26) rfl (by decide +kernel) rfl
theorem q116_29 : pm_V d 116 29 [l0, l1, l2, l3, l4] st S Q = pm_V d 116 2 [l0, l1, l2, l3, l4] st S Q := pv_goto (pm_cdi rfl dX7_lines_29) rfl
theorem q116_32 : pm_V d 116 32 [l0, l1, l2, l3, l4] st S Q = pm_V d 116 33 [l0, l1, l2, l3, l4] (.int 0 :: st) S Q := pv_iconst (pm_cdi rfl dX7_lines_32) (by decide +kernel)
theorem q116_33 : pm_V d 116 33 [l0, l1, .int yi, l3, l4] (.int xi :: st) S Q = pm_V d 116 34 [l0, l1, .int yi, .int xi, l4] st S Q := pv_istore_n (pm_cdi rfl dX7_lines_33) rfl
theorem q116_34 : pm_V d 116 34 [l0, l1, l2, .int xi, l4] st S Q = pm_V d 116 35 [l0, l1, l2, .int xi, l4] (.int xi :: st) S Q := pv_iload_n (pm_cdi rfl dX7_lines_34) rfl
theorem q116_35 : pm_V d 116 35 [.ref xn, l1, l2, l3, l4] st S Q = pm_V d 116 36 [.ref xn, l1, l2, l3, l4] (.ref xn :: st) S Q := pv_aload_n (pm_cdi rfl dX7_lines_35) rfl
theorem q116_36 (hs : pm_sh S an = .inr 7) : pm_V d 116 36 [l0, l1, l2, l3, l4] (.ref an :: st) S Q = pm_V d 116 39 [l0, l1, l2, l3, l4] (va_rf (pm_gr S an 9) :: st) S Q := pv_getA (pm_cdi rfl dX7_lines_36) (by decide +kernel) (by decide +kernel) (by decide +kernel) hs
theorem q116_39 : pm_V d 116 39 [l0, l1, .int xi, l3, l4] st S Q = pm_V d 116 40 [l0, l1, .int xi, l3, l4] (.int xi :: st) S Q := pv_iload_n (pm_cdi rfl dX7_lines_39) rfl
theorem q116_40 (hs : pm_ar S an 0 xi = true) : pm_V d 116 40 [l0, l1, l2, l3, l4] (.int xi :: .ref an :: st) S Q = pm_V d 116 41 [l0, l1, l2, l3, l4] (.int (pm_zi S an xi.toNatClampNeg) :: st) S Q := pv_iald (pm_cdi rfl dX7_lines_40) hs
theorem q116_41 : pm_V d 116 41 [l0, l1, l2, l3, l4] (.int yi :: .int xi :: st) S Q = if xi < yi then pm_V d 116 44 [l0, l1, l2, l3, l4] st S Q else pm_V d 116 113 [l0, l1, l2, l3, l4] st S Q := pv_icmp_ge (pm_cdi rfl dX7_lines_41) rfl
theorem q116_44 : pm_V d 116 44 [l0, l1, l2, l3, l4] st S Q = pm_V d 116 45 [l0, l1, l2, l3, l4] (.int 0 :: st) S Q := pv_iconst (pm_cdi rfl dX7_lines_44) (by decide +kernel)
theorem q116_45 : pm_V d 116 45 [l0, l1, l2, .int yi, l4] (.int xi :: st) S Q = pm_V d 116 47 [l0, l1, l2, .int yi, .int xi] st S Q := pv_istore (pm_cdi rfl dX7_lines_45) rfl
theorem q116_47 : pm_V d 116 47 [l0, l1, l2, l3, .int xi] st S Q = pm_V d 116 49 [l0, l1, l2, l3, .int xi] (.int xi :: st) S Q := pv_iload (pm_cdi rfl dX7_lines_47) rfl
theorem q116_49 : pm_V d 116 49 [.ref xn, l1, l2, l3, l4] st S Q = pm_V d 116 50 [.ref xn, l1, l2, l3, l4] (.ref xn :: st) S Q := pv_aload_n (pm_cdi rfl dX7_lines_49) rfl
theorem q116_50 (hs : pm_sh S an = .inr 7) : pm_V d 116 50 [l0, l1, l2, l3, l4] (.ref an :: st) S Q = pm_V d 116 53 [l0, l1, l2, l3, l4] (va_rf (pm_gr S an 9) :: st) S Q := pv_getA (pm_cdi rfl dX7_lines_50) (by decide +kernel) (by decide +kernel) (by decide +kernel) hs
theorem q116_53 : pm_V d 116 53 [l0, l1, .int xi, l3, l4] st S Q = pm_V d 116 54 [l0, l1, .int xi, l3, l4] (.int xi :: st) S Q := pv_iload_n (pm_cdi rfl dX7_lines_53) rfl
theorem q116_54 (hs : pm_ar S an 0 xi = true) : pm_V d 116 54 [l0, l1, l2, l3, l4] (.int xi :: .ref an :: st) S Q = pm_V d 116 55 [l0, l1, l2, l3, l4] (.int (pm_zi S an xi.toNatClampNeg) :: st) S Q := pv_iald (pm_cdi rfl dX7_lines_54) hs
theorem q116_55 : pm_V d 116 55 [l0, l1, l2, l3, l4] (.int yi :: .int xi :: st) S Q = if xi < yi then pm_V d 116 58 [l0, l1, l2, l3, l4] st S Q else pm_V d 116 107 [l0, l1, l2, l3, l4] st S Q := pv_icmp_ge (pm_cdi rfl dX7_lines_55) rfl
theorem q116_58 : pm_V d 116 58 [.ref xn, l1, l2, l3, l4] st S Q = pm_V d 116 59 [.ref xn, l1, l2, l3, l4] (.ref xn :: st) S Q := pv_aload_n (pm_cdi rfl dX7_lines_58) rfl
theorem q116_59 : pm_V d 116 59 [l0, l1, .int xi, l3, l4] st S Q = pm_V d 116 60 [l0, l1, .int xi, l3, l4] (.int xi :: st) S Q := pv_iload_n (pm_cdi rfl dX7_lines_59) rfl
theorem q116_60 : pm_V d 116 60 [l0, l1, l2, l3, .int xi] st S Q = pm_V d 116 62 [l0, l1, l2, l3, .int xi] (.int xi :: st) S Q := pv_iload (pm_cdi rfl dX7_lines_60) rfl
theorem q116_62 (hs : pm_sh S an = .inr 7) : pm_V (d + 1) 116 62 [l0, l1, l2, l3, l4] [.int v1i, .int v0i, .ref an] S Q = pm_N d 104 [.ref an, .int v0i, .int v1i] S (fun r S' => pm_V (d + 1) 116 65 [l0, l1, l2, l3, l4] (r.toList ++ []) S' Q) := pv_callV (as := [.int v0i, .int v1i]) (pm_cdi rfl dX7_lines_62) (Or.inl (by decide +kernel)) (by decide +kernel) (show _ = _ from (by decide +kernel : 2 = pm_np 104)) rfl (Nat.le_of_ble_eq_true rfl) (cl := 7) (by decide +kernel) hs
theorem q116_65 : pm_V d 116 65 [.ref xn, l1, l2, l3, l4] st S Q = pm_V d 116 66 [.ref xn, l1, l2, l3, l4] (.ref xn :: st) S Q := pv_aload_n (pm_cdi rfl dX7_lines_65) rfl
theorem q116_66 : pm_V d 116 66 [l0, l1, .int xi, l3, l4] st S Q = pm_V d 116 67 [l0, l1, .int xi, l3, l4] (.int xi :: st) S Q := pv_iload_n (pm_cdi rfl dX7_lines_66) rfl
theorem q116_67 : pm_V d 116 67 [l0, l1, l2, .int xi, l4] st S Q = pm_V d 116 68 [l0, l1, l2, .int xi, l4] (.int xi :: st) S Q := pv_iload_n (pm_cdi rfl dX7_lines_67) rfl
theorem q116_68 (hs : pm_sh S an = .inr 7) : pm_V (d + 1) 116 68 [l0, l1, l2, l3, l4] [.int v1i, .int v0i, .ref an, .int r0i] S Q = pm_N d 105 [.ref an, .int v0i, .int v1i] S (fun r S' => pm_V (d + 1) 116 71 [l0, l1, l2, l3, l4] (r.toList ++ [.int r0i]) S' Q) := pv_callV (as := [.int v0i, .int v1i]) (pm_cdi rfl dX7_lines_68) (Or.inl (by decide +kernel)) (by decide +kernel) (show _ = _ from (by decide +kernel : 2 = pm_np 105)) rfl (Nat.le_of_ble_eq_true rfl) (cl := 7) (by decide +kernel) hs
theorem q116_71 : pm_V d 116 71 [l0, l1, l2, l3, l4] (.int yi :: .int xi :: st) S Q = if xi = yi then pm_V d 116 74 [l0, l1, l2, l3, l4] st S Q else pm_V d 116 101 [l0, l1, l2, l3, l4] st S Q := pv_icmp_ne (pm_cdi rfl dX7_lines_71) rfl
theorem q116_74 : pm_V d 116 74 [.ref xn, l1, l2, l3, l4] st S Q = pm_V d 116 75 [.ref xn, l1, l2, l3, l4] (.ref xn :: st) S Q := pv_aload_n (pm_cdi rfl dX7_lines_74) rfl
theorem q116_75 : pm_V d 116 75 [l0, .int xi, l2, l3, l4] st S Q = pm_V d 116 76 [l0, .int xi, l2, l3, l4] (.int xi :: st) S Q := pv_iload_n (pm_cdi rfl dX7_lines_75) rfl
theorem q116_76 : pm_V d 116 76 [l0, l1, l2, .int xi, l4] st S Q = pm_V d 116 77 [l0, l1, l2, .int xi, l4] (.int xi :: st) S Q := pv_iload_n (pm_cdi rfl dX7_lines_76) rfl
theorem q116_77 : pm_V d 116 77 [l0, l1, l2, l3, .int xi] st S Q = pm_V d 116 79 [l0, l1, l2, l3, .int xi] (.int xi :: st) S Q := pv_iload (pm_cdi rfl dX7_lines_77) rfl
theorem q116_79 : pm_V d 116 79 [.ref xn, l1, l2, l3, l4] st S Q = pm_V d 116 80 [.ref xn, l1, l2, l3, l4] (.ref xn :: st) S Q := pv_aload_n (pm_cdi rfl dX7_lines_79) rfl
theorem q116_80 : pm_V d 116 80 [l0, l1, .int xi, l3, l4] st S Q = pm_V d 116 81 [l0, l1, .int xi, l3, l4] (.int xi :: st) S Q := pv_iload_n (pm_cdi rfl dX7_lines_80) rfl
theorem q116_81 : pm_V d 116 81 [.ref xn, l1, l2, l3, l4] st S Q = pm_V d 116 82 [.ref xn, l1, l2, l3, l4] (.ref xn :: st) S Q := pv_aload_n (pm_cdi rfl dX7_lines_81) rfl
theorem q116_82 : pm_V d 116 82 [l0, l1, .int xi, l3, l4] st S Q = pm_V d 116 83 [l0, l1, .int xi, l3, l4] (.int xi :: st) S Q := pv_iload_n (pm_cdi rfl dX7_lines_82) rfl
theorem q116_83 : pm_V d 116 83 [l0, l1, l2, .int xi, l4] st S Q = pm_V d 116 84 [l0, l1, l2, .int xi, l4] (.int xi :: st) S Q := pv_iload_n (pm_cdi rfl dX7_lines_83) rfl
theorem q116_84 (hs : pm_sh S an = .inr 7) : pm_V (d + 1) 116 84 [l0, l1, l2, l3, l4] [.int v1i, .int v0i, .ref an, .int r0i, .ref r1n, .int r2i, .int r3i, .int r4i, .ref r5n] S Q = pm_N d 105 [.ref an, .int v0i, .int v1i] S (fun r S' => pm_V (d + 1) 116 87 [l0, l1, l2, l3, l4] (r.toList ++ [.int r0i, .ref r1n, .int r2i, .int r3i, .int r4i, .ref r5n]) S' Q) := pv_callV (as := [.int v0i, .int v1i]) (pm_cdi rfl dX7_lines_84) (Or.inl (by decide +kernel)) (by decide +kernel) (show _ = _ from (by decide +kernel : 2 = pm_np 105)) rfl (Nat.le_of_ble_eq_true rfl) (cl := 7) (by decide +kernel) hs
theorem q116_87 (hs : pm_sh S an = .inr 7) : pm_V (d + 1) 116 87 [l0, l1, l2, l3, l4] [.int v1i, .int v0i, .ref an, .int r0i, .int r1i, .int r2i, .ref r3n] S Q = pm_N d 106 [.ref an, .int v0i, .int v1i] S (fun r S' => pm_V (d + 1) 116 90 [l0, l1, l2, l3, l4] (r.toList ++ [.int r0i, .int r1i, .int r2i, .ref r3n]) S' Q) := pv_callV (as := [.int v0i, .int v1i]) (pm_cdi rfl dX7_lines_87) (Or.inl (by decide +kernel)) (by decide +kernel) (show _ = _ from (by decide +kernel : 2 = pm_np 106)) rfl (Nat.le_of_ble_eq_true rfl) (cl := 7) (by decide +kernel) hs
theorem q116_90 : pm_V d 116 90 [.ref xn, l1, l2, l3, l4] st S Q = pm_V d 116 91 [.ref xn, l1, l2, l3, l4] (.ref xn :: st) S Q := pv_aload_n (pm_cdi rfl dX7_lines_90) rfl
theorem q116_91 : pm_V d 116 91 [l0, l1, .int xi, l3, l4] st S Q = pm_V d 116 92 [l0, l1, .int xi, l3, l4] (.int xi :: st) S Q := pv_iload_n (pm_cdi rfl dX7_lines_91) rfl
theorem q116_92 : pm_V d 116 92 [l0, l1, l2, .int xi, l4] st S Q = pm_V d 116 93 [l0, l1, l2, .int xi, l4] (.int xi :: st) S Q := pv_iload_n (pm_cdi rfl dX7_lines_92) rfl
theorem q116_93 (hs : pm_sh S an = .inr 7) : pm_V (d + 1) 116 93 [l0, l1, l2, l3, l4] [.int v1i, .int v0i, .ref an, .long r0j, .int r1i, .int r2i, .int r3i, .ref r4n] S Q = pm_N d 105 [.ref an, .int v0i, .int v1i] S (fun r S' => pm_V (d + 1) 116 96 [l0, l1, l2, l3, l4] (r.toList ++ [.long r0j, .int r1i, .int r2i, .int r3i, .ref r4n]) S' Q) := pv_callV (as := [.int v0i, .int v1i]) (pm_cdi rfl dX7_lines_93) (Or.inl (by decide +kernel)) (by decide +kernel) (show _ = _ from (by decide +kernel : 2 = pm_np 105)) rfl (Nat.le_of_ble_eq_true rfl) (cl := 7) (by decide +kernel) hs
theorem q116_96 : pm_V d 116 96 [l0, l1, l2, l3, l4] st S Q = pm_V d 116 98 [l0, l1, l2, l3, l4] (.int (-1000004) :: st) S Q := pv_ldc (pm_cdi rfl dX7_lines_96) (by decide +kernel)
theorem q116_98 (hs : pm_sh S an = .inr 7) : pm_V (d + 1) 116 98 [l0, l1, l2, l3, l4] [.int v5i, .int v4i, .long v3j, .int v2i, .int v1i, .int v0i, .ref an] S Q = pm_N d 103 [.ref an, .int v0i, .int v1i, .int v2i, .long v3j, .int v4i, .int v5i] S (fun r S' => pm_V (d + 1) 116 101 [l0, l1, l2, l3, l4] (r.toList ++ []) S' Q) := pv_callV (as := [.int v0i, .int v1i, .int v2i, .long v3j, .int v4i, .int v5i]) (pm_cdi rfl dX7_lines_98) (Or.inl (by decide +kernel)) (by decide +kernel) (show _ = _ from (by decide +kernel : 6 = pm_np 103)) rfl (Nat.le_of_ble_eq_true rfl) (cl := 7) (by decide +kernel) hs
theorem q116_101 : pm_V d 116 101 [l0, l1, l2, .int yi, .int xi] st S Q = pm_V d 116 104 [l0, l1, l2, .int yi, .int (xi + 1)] st S Q := pv_iinc (pm_cdi rfl dX7_lines_101) rfl (by decide +kernel) rfl
theorem q116_104 : pm_V d 116 104 [l0, l1, l2, l3, l4] st S Q = pm_V d 116 47 [l0, l1, l2, l3, l4] st S Q := pv_goto (pm_cdi rfl dX7_lines_104) rfl
theorem q116_107 : pm_V d 116 107 [l0, l1, .int yi, .int xi, l4] st S Q = pm_V d 116 110 [l0, l1, .int yi, .int (xi + 1), l4] st S Q := pv_iinc (pm_cdi rfl dX7_lines_107) rfl (by decide +kernel) rfl
theorem q116_110 : pm_V d 116 110 [l0, l1, l2, l3, l4] st S Q = pm_V d 116 34 [l0, l1, l2, l3, l4] st S Q := pv_goto (pm_cdi rfl dX7_lines_110) rfl
theorem q116_113 : pm_V d 116 113 [l0, l1, l2, l3, l4] [] S Q = Q none S := pv_rV (pm_cdi rfl dX7_lines_113) (by decide +kernel)
theorem q116_e : pm_N d 116 [.ref an, .int v0i, .int v1i] S Q = pm_V d 116 0 [.ref an, .int v0i, .int v1i, pm_j, pm_j] [] S Q := pv_ent (Nat.le_of_ble_eq_true rfl) rfl
/-! 117: ViewsJoinsModel.labelOf(II)I -/
theorem dX7_labelOf_0 : decode cX7_labelOf 0 = .ok (.aload_n 0, 1) := by decide +kernel
theorem dX7_labelOf_1 : decode cX7_labelOf 1 = .ok (.getfield 72, 3) := by decide +kernel
theorem dX7_labelOf_4 : decode cX7_labelOf 4 = .ok (.bipush 40, 2) := by decide +kernel
theorem dX7_labelOf_6 : decode cX7_labelOf 6 = .ok (.aload_n 0, 1) := by decide +kernel
theorem dX7_labelOf_7 : decode cX7_labelOf 7 = .ok (.getfield 16, 3) := by decide +kernel
theorem dX7_labelOf_10 : decode cX7_labelOf 10 = .ok (.iload_n 1, 1) := by decide +kernel
theorem dX7_labelOf_11 : decode cX7_labelOf 11 = .ok (.iaload, 1) := by decide +kernel
theorem dX7_labelOf_12 : decode cX7_labelOf 12 = .ok (.imul, 1) := by decide +kernel
theorem dX7_labelOf_13 : decode cX7_labelOf 13 = .ok (.iload_n 2, 1) := by decide +kernel
theorem dX7_labelOf_14 : decode cX7_labelOf 14 = .ok (.iadd, 1) := by decide +kernel
theorem dX7_labelOf_15 : decode cX7_labelOf 15 = .ok (.iaload, 1) := by decide +kernel
theorem dX7_labelOf_16 : decode cX7_labelOf 16 = .ok (.ireturn, 1) := by decide +kernel
theorem q117_0 : pm_V d 117 0 [.ref xn, l1, l2] st S Q = pm_V d 117 1 [.ref xn, l1, l2] (.ref xn :: st) S Q := pv_aload_n (pm_cdi rfl dX7_labelOf_0) rfl
theorem q117_1 (hs : pm_sh S an = .inr 7) : pm_V d 117 1 [l0, l1, l2] (.ref an :: st) S Q = pm_V d 117 4 [l0, l1, l2] (va_rf (pm_gr S an 22) :: st) S Q := pv_getA (pm_cdi rfl dX7_labelOf_1) (by decide +kernel) (by decide +kernel) (by decide +kernel) hs
theorem q117_4 : pm_V d 117 4 [l0, l1, l2] st S Q = pm_V d 117 6 [l0, l1, l2] (.int 40 :: st) S Q := pv_bipush (pm_cdi rfl dX7_labelOf_4) (by decide +kernel)
theorem q117_6 : pm_V d 117 6 [.ref xn, l1, l2] st S Q = pm_V d 117 7 [.ref xn, l1, l2] (.ref xn :: st) S Q := pv_aload_n (pm_cdi rfl dX7_labelOf_6) rfl
theorem q117_7 (hs : pm_sh S an = .inr 7) : pm_V d 117 7 [l0, l1, l2] (.ref an :: st) S Q = pm_V d 117 10 [l0, l1, l2] (va_rf (pm_gr S an 3) :: st) S Q := pv_getA (pm_cdi rfl dX7_labelOf_7) (by decide +kernel) (by decide +kernel) (by decide +kernel) hs
theorem q117_10 : pm_V d 117 10 [l0, .int xi, l2] st S Q = pm_V d 117 11 [l0, .int xi, l2] (.int xi :: st) S Q := pv_iload_n (pm_cdi rfl dX7_labelOf_10) rfl
theorem q117_11 (hs : pm_ar S an 0 xi = true) : pm_V d 117 11 [l0, l1, l2] (.int xi :: .ref an :: st) S Q = pm_V d 117 12 [l0, l1, l2] (.int (pm_zi S an xi.toNatClampNeg) :: st) S Q := pv_iald (pm_cdi rfl dX7_labelOf_11) hs
theorem q117_12 : pm_V d 117 12 [l0, l1, l2] (.int yi :: .int xi :: st) S Q = pm_V d 117 13 [l0, l1, l2] (.int (xi * yi) :: st) S Q := pv_imul (pm_cdi rfl dX7_labelOf_12)
theorem q117_13 : pm_V d 117 13 [l0, l1, .int xi] st S Q = pm_V d 117 14 [l0, l1, .int xi] (.int xi :: st) S Q := pv_iload_n (pm_cdi rfl dX7_labelOf_13) rfl
theorem q117_14 : pm_V d 117 14 [l0, l1, l2] (.int yi :: .int xi :: st) S Q = pm_V d 117 15 [l0, l1, l2] (.int (xi + yi) :: st) S Q := pv_iadd (pm_cdi rfl dX7_labelOf_14)
theorem q117_15 (hs : pm_ar S an 0 xi = true) : pm_V d 117 15 [l0, l1, l2] (.int xi :: .ref an :: st) S Q = pm_V d 117 16 [l0, l1, l2] (.int (pm_zi S an xi.toNatClampNeg) :: st) S Q := pv_iald (pm_cdi rfl dX7_labelOf_15) hs
theorem q117_16 : pm_V d 117 16 [l0, l1, l2] [.int xi] S Q = Q (some (.int xi)) S := pv_rI (pm_cdi rfl dX7_labelOf_16) (by decide +kernel)
theorem q117_e : pm_N d 117 [.ref an, .int v0i, .int v1i] S Q = pm_V d 117 0 [.ref an, .int v0i, .int v1i] [] S Q := pv_ent (Nat.le_of_ble_eq_true rfl) rfl
end
