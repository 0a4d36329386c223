section
variable {d : Nat} {S : pm_T} {Q : Option Value → pm_T → Prop} {an r0n r1n r2n r3n r4n r5n v0n v1n v2n vn xn yn : Nat} {ki r0i r1i r2i r3i r4i v0i v1i v2i v3i v4i v5i vi xi yi : Int32} {l0 l1 l10 l2 l3 l4 l5 l6 l7 l8 l9 v0v v1v v2v : Value} {r0j r1j v0j v1j v2j v3j vj xj yj : Int64} {st : List Value}
/-! 118: ViewsJoinsModel.comes(IIJ)V -/
theorem dX7_comes_0 : decode cX7_comes 0 = .ok (.aload_n 0, 1) := by decide +kernel
theorem dX7_comes_1 : decode cX7_comes 1 = .ok (.getfield 19, 3) := by decide +kernel
theorem dX7_comes_4 : decode cX7_comes 4 = .ok (.iload_n 1, 1) := by decide +kernel
theorem dX7_comes_5 : decode cX7_comes 5 = .ok (.iaload, 1) := by decide +kernel
theorem dX7_comes_6 : decode cX7_comes 6 = .ok (.ifCond .ne 47, 3) := by decide +kernel
theorem dX7_comes_9 : decode cX7_comes 9 = .ok (.aload_n 0, 1) := by decide +kernel
theorem dX7_comes_10 : decode cX7_comes 10 = .ok (.getfield 218, 3) := by decide +kernel
theorem dX7_comes_13 : decode cX7_comes 13 = .ok (.lload_n 3, 1) := by decide +kernel
theorem dX7_comes_14 : decode cX7_comes 14 = .ok (.ladd, 1) := by decide +kernel
theorem dX7_comes_15 : decode cX7_comes 15 = .ok (.lstore 5, 2) := by decide +kernel
theorem dX7_comes_17 : decode cX7_comes 17 = .ok (.aload_n 0, 1) := by decide +kernel
theorem dX7_comes_18 : decode cX7_comes 18 = .ok (.getfield 218, 3) := by decide +kernel
theorem dX7_comes_21 : decode cX7_comes 21 = .ok (.lload 5, 2) := by decide +kernel
theorem dX7_comes_23 : decode cX7_comes 23 = .ok (.lxor, 1) := by decide +kernel
theorem dX7_comes_24 : decode cX7_comes 24 = .ok (.lconst 0, 1) := by decide +kernel
theorem dX7_comes_25 : decode cX7_comes 25 = .ok (.lcmp, 1) := by decide +kernel
theorem dX7_comes_26 : decode cX7_comes 26 = .ok (.ifCond .ge 18, 3) := by decide +kernel
theorem dX7_comes_29 : decode cX7_comes 29 = .ok (.lload_n 3, 1) := by decide +kernel
theorem dX7_comes_30 : decode cX7_comes 30 = .ok (.lload 5, 2) := by decide +kernel
theorem dX7_comes_32 : decode cX7_comes 32 = .ok (.lxor, 1) := by decide +kernel
theorem dX7_comes_33 : decode cX7_comes 33 = .ok (.lconst 0, 1) := by decide +kernel
theorem dX7_comes_34 : decode cX7_comes 34 = .ok (.lcmp, 1) := by decide +kernel
theorem dX7_comes_35 : decode cX7_comes 35 = .ok (.ifCond .ge 9, 3) := by decide +kernel
theorem dX7_comes_38 : decode cX7_comes 38 = .ok (.aload_n 0, 1) := by decide +kernel
theorem dX7_comes_39 : decode cX7_comes 39 = .ok (.iload_n 1, 1) := by decide +kernel
theorem dX7_comes_40 : decode cX7_comes 40 = .ok (.iconst 3, 1) := by decide +kernel
theorem dX7_comes_41 : decode cX7_comes 41 = .ok (.invokevirtual 178, 3) := by decide +kernel
theorem dX7_comes_44 : decode cX7_comes 44 = .ok (.aload_n 0, 1) := by decide +kernel
theorem dX7_comes_45 : decode cX7_comes 45 = .ok (.lload 5, 2) := by decide +kernel
theorem dX7_comes_47 : decode cX7_comes 47 = .ok (.putfield 218, 3) := by decide +kernel
theorem dX7_comes_50 : decode cX7_comes 50 = .ok (.goto 55, 3) := by decide +kernel
theorem dX7_comes_53 : decode cX7_comes 53 = .ok (.aload_n 0, 1) := by decide +kernel
theorem dX7_comes_54 : decode cX7_comes 54 = .ok (.getfield 19, 3) := by decide +kernel
theorem dX7_comes_57 : decode cX7_comes 57 = .ok (.iload_n 1, 1) := by decide +kernel
theorem dX7_comes_58 : decode cX7_comes 58 = .ok (.iaload, 1) := by decide +kernel
theorem dX7_comes_59 : decode cX7_comes 59 = .ok (.iconst 1, 1) := by decide +kernel
theorem dX7_comes_60 : decode cX7_comes 60 = .ok (.if_icmp .ne 34, 3) := by decide +kernel
theorem dX7_comes_63 : decode cX7_comes 63 = .ok (.aload_n 0, 1) := by decide +kernel
theorem dX7_comes_64 : decode cX7_comes 64 = .ok (.aload_n 0, 1) := by decide +kernel
theorem dX7_comes_65 : decode cX7_comes 65 = .ok (.getfield 222, 3) := by decide +kernel
theorem dX7_comes_68 : decode cX7_comes 68 = .ok (.ifCond .eq 12, 3) := by decide +kernel
theorem dX7_comes_71 : decode cX7_comes 71 = .ok (.lload_n 3, 1) := by decide +kernel
theorem dX7_comes_72 : decode cX7_comes 72 = .ok (.aload_n 0, 1) := by decide +kernel
theorem dX7_comes_73 : decode cX7_comes 73 = .ok (.getfield 218, 3) := by decide +kernel
theorem dX7_comes_76 : decode cX7_comes 76 = .ok (.lcmp, 1) := by decide +kernel
theorem dX7_comes_77 : decode cX7_comes 77 = .ok (.ifCond .le 7, 3) := by decide +kernel
theorem dX7_comes_80 : decode cX7_comes 80 = .ok (.lload_n 3, 1) := by decide +kernel
theorem dX7_comes_81 : decode cX7_comes 81 = .ok (.goto 7, 3) := by decide +kernel
theorem dX7_comes_84 : decode cX7_comes 84 = .ok (.aload_n 0, 1) := by decide +kernel
theorem dX7_comes_85 : decode cX7_comes 85 = .ok (.getfield 218, 3) := by decide +kernel
theorem dX7_comes_88 : decode cX7_comes 88 = .ok (.putfield 218, 3) := by decide +kernel
theorem dX7_comes_91 : decode cX7_comes 91 = .ok (.goto 14, 3) := by decide +kernel
theorem dX7_comes_94 : decode cX7_comes 94 = .ok (.aload_n 0, 1) := by decide +kernel
theorem dX7_comes_95 : decode cX7_comes 95 = .ok (.aload_n 0, 1) := by decide +kernel
theorem dX7_comes_96 : decode cX7_comes 96 = .ok (.getfield 222, 3) := by decide +kernel
theorem dX7_comes_99 : decode cX7_comes 99 = .ok (.iconst 1, 1) := by decide +kernel
theorem dX7_comes_100 : decode cX7_comes 100 = .ok (.iadd, 1) := by decide +kernel
theorem dX7_comes_101 : decode cX7_comes 101 = .ok (.i2l, 1) := by decide +kernel
theorem dX7_comes_102 : decode cX7_comes 102 = .ok (.putfield 218, 3) := by decide +kernel
theorem dX7_comes_105 : decode cX7_comes 105 = .ok (.aload_n 0, 1) := by decide +kernel
theorem dX7_comes_106 : decode cX7_comes 106 = .ok (.aload_n 0, 1) := by decide +kernel
theorem dX7_comes_107 : decode cX7_comes 107 = .ok (.getfield 222, 3) := by decide +kernel
theorem dX7_comes_110 : decode cX7_comes 110 = .ok (.ifCond .ne 7, 3) := by decide +kernel
theorem dX7_comes_113 : decode cX7_comes 113 = .ok (.iload_n 2, 1) := by decide +kernel
theorem dX7_comes_114 : decode cX7_comes 114 = .ok (.goto 7, 3) := by decide +kernel
theorem dX7_comes_117 : decode cX7_comes 117 = .ok (.aload_n 0, 1) := by decide +kernel
theorem dX7_comes_118 : decode cX7_comes 118 = .ok (.getfield 225, 3) := by decide +kernel
theorem dX7_comes_121 : decode cX7_comes 121 = .ok (.putfield 225, 3) := by decide +kernel
theorem dX7_comes_124 : decode cX7_comes 124 = .ok (.aload_n 0, 1) := by decide +kernel
theorem dX7_comes_125 : decode cX7_comes 125 = .ok (.dup, 1) := by decide +kernel
theorem dX7_comes_126 : decode cX7_comes 126 = .ok (.getfield 222, 3) := by decide +kernel
theorem dX7_comes_129 : decode cX7_comes 129 = .ok (.iconst 1, 1) := by decide +kernel
theorem dX7_comes_130 : decode cX7_comes 130 = .ok (.iadd, 1) := by decide +kernel
theorem dX7_comes_131 : decode cX7_comes 131 = .ok (.putfield 222, 3) := by decide +kernel
theorem dX7_comes_134 : decode cX7_comes 134 = .ok (.return_, 1) := by decide +kernel
theorem q118_0 : pm_V d 118 0 [.ref xn, l1, l2, l3, l4, l5, l6] st S Q = pm_V d 118 1 [.ref xn, l1, l2, l3, l4, l5, l6] (.ref xn :: st) S Q := pv_aload_n (pm_cdi rfl dX7_comes_0) rfl
theorem q118_1 (hs : pm_sh S an = .inr 7) : pm_V d 118 1 [l0, l1, l2, l3, l4, l5, l6] (.ref an :: st) S Q = pm_V d 118 4 [l0, l1, l2, l3, l4, l5, l6] (va_rf (pm_gr S an 4) :: st) S Q := pv_getA (pm_cdi rfl dX7_comes_1) (by decide +kernel) (by decide +kernel) (by decide +kernel) hs
theorem q118_4 : pm_V d 118 4 [l0, .int xi, l2, l3, l4, l5, l6] st S Q = pm_V d 118 5 [l0, .int xi, l2, l3, l4, l5, l6] (.int xi :: st) S Q := pv_iload_n (pm_cdi rfl dX7_comes_4) rfl
theorem q118_5 (hs : pm_ar S an 0 xi = true) : pm_V d 118 5 [l0, l1, l2, l3, l4, l5, l6] (.int xi :: .ref an :: st) S Q = pm_V d 118 6 [l0, l1, l2, l3, l4, l5, l6] (.int (pm_zi S an xi.toNatClampNeg) :: st) S Q := pv_iald (pm_cdi rfl dX7_comes_5) hs
theorem q118_6 : pm_V d 118 6 [l0, l1, l2, l3, l4, l5, l6] (.int xi :: st) S Q = if xi = 0 then pm_V d 118 9 [l0, l1, l2, l3, l4, l5, l6] st S Q else pm_V d 118 53 [l0, l1, l2, l3, l4, l5, l6] st S Q := pv_if_ne (pm_cdi rfl dX7_comes_6) rfl
theorem q118_9 : pm_V d 118 9 [.ref xn, l1, l2, l3, l4, l5, l6] st S Q = pm_V d 118 10 [.ref xn, l1, l2, l3, l4, l5, l6] (.ref xn :: st) S Q := pv_aload_n (pm_cdi rfl dX7_comes_9) rfl
theorem q118_10 (hs : pm_sh S an = .inr 7) : pm_V d 118 10 [l0, l1, l2, l3, l4, l5, l6] (.ref an :: st) S Q = pm_V d 118 13 [l0, l1, l2, l3, l4, l5, l6] (.long (pm_gl S an 33) :: st) S Q := pv_getL (pm_cdi rfl dX7_comes_10) (by decide +kernel) (by decide +kernel) (by decide +kernel) hs
theorem q118_13 : pm_V d 118 13 [l0, l1, l2, .long xj, l4, l5, l6] st S Q = pm_V d 118 14 [l0, l1, l2, .long xj, l4, l5, l6] (.long xj :: st) S Q := pv_lload_n (pm_cdi rfl dX7_comes_13) rfl
theorem q118_14 : pm_V d 118 14 [l0, l1, l2, l3, l4, l5, l6] (.long yj :: .long xj :: st) S Q = pm_V d 118 15 [l0, l1, l2, l3, l4, l5, l6] (.long (xj + yj) :: st) S Q := pv_ladd (pm_cdi rfl dX7_comes_14)
theorem q118_15 : pm_V d 118 15 [l0, l1, l2, l3, pm_j, l5, l6] (.long xj :: st) S Q = pm_V d 118 17 [l0, l1, l2, l3, pm_j, .long xj, pm_j] st S Q := pv_lstore (pm_cdi rfl dX7_comes_15) rfl
theorem q118_17 : pm_V d 118 17 [.ref xn, l1, l2, l3, l4, l5, l6] st S Q = pm_V d 118 18 [.ref xn, l1, l2, l3, l4, l5, l6] (.ref xn :: st) S Q := pv_aload_n (pm_cdi rfl dX7_comes_17) rfl
theorem q118_18 (hs : pm_sh S an = .inr 7) : pm_V d 118 18 [l0, l1, l2, l3, l4, l5, l6] (.ref an :: st) S Q = pm_V d 118 21 [l0, l1, l2, l3, l4, l5, l6] (.long (pm_gl S an 33) :: st) S Q := pv_getL (pm_cdi rfl dX7_comes_18) (by decide +kernel) (by decide +kernel) (by decide +kernel) hs
theorem q118_21 : pm_V d 118 21 [l0, l1, l2, l3, l4, .long xj, l6] st S Q = pm_V d 118 23 [l0, l1, l2, l3, l4, .long xj, l6] (.long xj :: st) S Q := pv_lload (pm_cdi rfl dX7_comes_21) rfl
theorem q118_23 : pm_V d 118 23 [l0, l1, l2, l3, l4, l5, l6] (.long yj :: .long xj :: st) S Q = pm_V d 118 24 [l0, l1, l2, l3, l4, l5, l6] (.long (xj ^^^ yj) :: st) S Q := pv_lxor (pm_cdi rfl dX7_comes_23)
theorem q118_24 : pm_V d 118 24 [l0, l1, l2, l3, l4, l5, l6] st S Q = pm_V d 118 25 [l0, l1, l2, l3, l4, l5, l6] (.long 0 :: st) S Q := pv_lconst (pm_cdi rfl dX7_comes_24) (by decide +kernel)
theorem q118_25 : pm_V d 118 25 [l0, l1, l2, l3, l4, l5, l6] (.long yj :: .long xj :: st) S Q = pm_V d 118 26 [l0, l1, l2, l3, l4, l5, l6] (.int (lg_cmp xj yj) :: st) S Q := pv_lcmp (pm_cdi rfl dX7_comes_25)
theorem q118_26 : pm_V d 118 26 [l0, l1, l2, l3, l4, l5, l6] (.int xi :: st) S Q = if xi < 0 then pm_V d 118 29 [l0, l1, l2, l3, l4, l5, l6] st S Q else pm_V d 118 44 [l0, l1, l2, l3, l4, l5, l6] st S Q := pv_if_ge (pm_cdi rfl dX7_comes_26) rfl
theorem q118_29 : pm_V d 118 29 [l0, l1, l2, .long xj, l4, l5, l6] st S Q = pm_V d 118 30 [l0, l1, l2, .long xj, l4, l5, l6] (.long xj :: st) S Q := pv_lload_n (pm_cdi rfl dX7_comes_29) rfl
theorem q118_30 : pm_V d 118 30 [l0, l1, l2, l3, l4, .long xj, l6] st S Q = pm_V d 118 32 [l0, l1, l2, l3, l4, .long xj, l6] (.long xj :: st) S Q := pv_lload (pm_cdi rfl dX7_comes_30) rfl
theorem q118_32 : pm_V d 118 32 [l0, l1, l2, l3, l4, l5, l6] (.long yj :: .long xj :: st) S Q = pm_V d 118 33 [l0, l1, l2, l3, l4, l5, l6] (.long (xj ^^^ yj) :: st) S Q := pv_lxor (pm_cdi rfl dX7_comes_32)
theorem q118_33 : pm_V d 118 33 [l0, l1, l2, l3, l4, l5, l6] st S Q = pm_V d 118 34 [l0, l1, l2, l3, l4, l5, l6] (.long 0 :: st) S Q := pv_lconst (pm_cdi rfl dX7_comes_33) (by decide +kernel)
theorem q118_34 : pm_V d 118 34 [l0, l1, l2, l3, l4, l5, l6] (.long yj :: .long xj :: st) S Q = pm_V d 118 35 [l0, l1, l2, l3, l4, l5, l6] (.int (lg_cmp xj yj) :: st) S Q := pv_lcmp (pm_cdi rfl dX7_comes_34)
theorem q118_35 : pm_V d 118 35 [l0, l1, l2, l3, l4, l5, l6] (.int xi :: st) S Q = if xi < 0 then pm_V d 118 38 [l0, l1, l2, l3, l4, l5, l6] st S Q else pm_V d 118 44 [l0, l1, l2, l3, l4, l5, l6] st S Q := pv_if_ge (pm_cdi rfl dX7_comes_35) rfl
theorem q118_38 : pm_V d 118 38 [.ref xn, l1, l2, l3, l4, l5, l6] st S Q = pm_V d 118 39 [.ref xn, l1, l2, l3, l4, l5, l6] (.ref xn :: st) S Q := pv_aload_n (pm_cdi rfl dX7_comes_38) rfl
theorem q118_39 : pm_V d 118 39 [l0, .int xi, l2, l3, l4, l5, l6] st S Q = pm_V d 118 40 [l0, .int xi, l2, l3, l4, l5, l6] (.int xi :: st) S Q := pv_iload_n (pm_cdi rfl dX7_comes_39) rfl
theorem q118_40 : pm_V d 118 40 [l0, l1, l2, l3, l4, l5, l6] st S Q = pm_V d 118 41 [l0, l1, l2, l3, l4, l5, l6] (.int 3 :: st) S Q := pv_iconst (pm_cdi rfl dX7_comes_40) (by decide +kernel)
theorem q118_41 (hs : pm_sh S an = .inr 7) : pm_V (d + 1) 118 41 [l0, l1, l2, l3, l4, l5, l6] [.int v1i, .int v0i, .ref an] S Q = pm_N d 101 [.ref an, .int v0i, .int v1i] S (fun r S' => pm_V (d + 1) 118 44 [l0, l1, l2, l3, l4, l5, l6] (r.toList ++ []) S' Q) := pv_callV (as := [.int v0i, .int v1i]) (pm_cdi rfl dX7_comes_41) (Or.inl (by decide +kernel)) (by decide +kernel) (show _ = _ from (by decide +kernel : 2 = pm_np 101)) rfl (Nat.le_of_ble_eq_true rfl) (cl := 7) (by decide +kernel) hs
theorem q118_44 : pm_V d 118 44 [.ref xn, l1, l2, l3, l4, l5, l6] st S Q = pm_V d 118 45 [.ref xn, l1, l2, l3, l4, l5, l6] (.ref xn :: st) S Q := pv_aload_n (pm_cdi rfl dX7_comes_44) rfl
theorem q118_45 : pm_V d 118 45 [l0, l1, l2, l3, l4, .long xj, l6] st S Q = pm_V d 118 47 [l0, l1, l2, l3, l4, .long xj, l6] (.long xj :: st) S Q := pv_lload (pm_cdi rfl dX7_comes_45) rfl
theorem q118_47 (hs : pm_sh S an = .inr 7) : pm_V d 118 47 [l0, l1, l2, l3, l4, l5, l6] (.long xj :: .ref an :: st) S Q = pm_V d 118 50 [l0, l1, l2, l3, l4, l5, l6] st (pm_sgl S an 33 xj) Q := pv_putL (pm_cdi rfl dX7_comes_47) (by decide +kernel) (by decide +kernel) (by decide +kernel) hs
theorem q118_50 : pm_V d 118 50 [l0, l1, l2, l3, l4, l5, l6] st S Q = pm_V d 118 105 [l0, l1, l2, l3, l4, l5, l6] st S Q := pv_goto (pm_cdi rfl dX7_comes_50) rfl
theorem q118_53 : pm_V d 118 53 [.ref xn, l1, l2, l3, l4, l5, l6] st S Q = pm_V d 118 54 [.ref xn, l1, l2, l3, l4, l5, l6] (.ref xn :: st) S Q := pv_aload_n (pm_cdi rfl dX7_comes_53) rfl
theorem q118_54 (hs : pm_sh S an = .inr 7) : pm_V d 118 54 [l0, l1, l2, l3, l4, l5, l6] (.ref an :: st) S Q = pm_V d 118 57 [l0, l1, l2, l3, l4, l5, l6] (va_rf (pm_gr S an 4) :: st) S Q := pv_getA (pm_cdi rfl dX7_comes_54) (by decide +kernel) (by decide +kernel) (by decide +kernel) hs
theorem q118_57 : pm_V d 118 57 [l0, .int xi, l2, l3, l4, l5, l6] st S Q = pm_V d 118 58 [l0, .int xi, l2, l3, l4, l5, l6] (.int xi :: st) S Q := pv_iload_n (pm_cdi rfl dX7_comes_57) rfl
theorem q118_58 (hs : pm_ar S an 0 xi = true) : pm_V d 118 58 [l0, l1, l2, l3, l4, l5, l6] (.int xi :: .ref an :: st) S Q = pm_V d 118 59 [l0, l1, l2, l3, l4, l5, l6] (.int (pm_zi S an xi.toNatClampNeg) :: st) S Q := pv_iald (pm_cdi rfl dX7_comes_58) hs
theorem q118_59 : pm_V d 118 59 [l0, l1, l2, l3, l4, l5, l6] st S Q = pm_V d 118 60 [l0, l1, l2, l3, l4, l5, l6] (.int 1 :: st) S Q := pv_iconst (pm_cdi rfl dX7_comes_59) (by decide +kernel)
theorem q118_60 : pm_V d 118 60 [l0, l1, l2, l3, l4, l5, l6] (.int yi :: .int xi :: st) S Q = if xi = yi then pm_V d 118 63 [l0, l1, l2, l3, l4, l5, l6] st S Q else pm_V d 118 94 [l0, l1, l2, l3, l4, l5, l6] st S Q := pv_icmp_ne (pm_cdi rfl dX7_comes_60) rfl
theorem q118_63 : pm_V d 118 63 [.ref xn, l1, l2, l3, l4, l5, l6] st S Q = pm_V d 118 64 [.ref xn, l1, l2, l3, l4, l5, l6] (.ref xn :: st) S Q := pv_aload_n (pm_cdi rfl dX7_comes_63) rfl
theorem q118_64 : pm_V d 118 64 [.ref xn, l1, l2, l3, l4, l5, l6] st S Q = pm_V d 118 65 [.ref xn, l1, l2, l3, l4, l5, l6] (.ref xn :: st) S Q := pv_aload_n (pm_cdi rfl dX7_comes_64) rfl
theorem q118_65 (hs : pm_sh S an = .inr 7) : pm_V d 118 65 [l0, l1, l2, l3, l4, l5, l6] (.ref an :: st) S Q = pm_V d 118 68 [l0, l1, l2, l3, l4, l5, l6] (.int (pm_gi S an 31) :: st) S Q := pv_getI (pm_cdi rfl dX7_comes_65) (by decide +kernel) (by decide +kernel) (by decide +kernel) hs
theorem q118_68 : pm_V d 118 68 [l0, l1, l2, l3, l4, l5, l6] (.int xi :: st) S Q = if xi = 0 then pm_V d 118 80 [l0, l1, l2, l3, l4, l5, l6] st S Q else pm_V d 118 71 [l0, l1, l2, l3, l4, l5, l6] st S Q := pv_if_eq (pm_cdi rfl dX7_comes_68) rfl
theorem q118_71 : pm_V d 118 71 [l0, l1, l2, .long xj, l4, l5, l6] st S Q = pm_V d 118 72 [l0, l1, l2, .long xj, l4, l5, l6] (.long xj :: st) S Q := pv_lload_n (pm_cdi rfl dX7_comes_71) rfl
theorem q118_72 : pm_V d 118 72 [.ref xn, l1, l2, l3, l4, l5, l6] st S Q = pm_V d 118 73 [.ref xn, l1, l2, l3, l4, l5, l6] (.ref xn :: st) S Q := pv_aload_n (pm_cdi rfl dX7_comes_72) rfl
theorem q118_73 (hs : pm_sh S an = .inr 7) : pm_V d 118 73 [l0, l1, l2, l3, l4, l5, l6] (.ref an :: st) S Q = pm_V d 118 76 [l0, l1, l2, l3, l4, l5, l6] (.long (pm_gl S an 33) :: st) S Q := pv_getL (pm_cdi rfl dX7_comes_73) (by decide +kernel) (by decide +kernel) (by decide +kernel) hs
theorem q118_76 : pm_V d 118 76 [l0, l1, l2, l3, l4, l5, l6] (.long yj :: .long xj :: st) S Q = pm_V d 118 77 [l0, l1, l2, l3, l4, l5, l6] (.int (lg_cmp xj yj) :: st) S Q := pv_lcmp (pm_cdi rfl dX7_comes_76)
theorem q118_77 : pm_V d 118 77 [l0, l1, l2, l3, l4, l5, l6] (.int xi :: st) S Q = if xi ≤ 0 then pm_V d 118 84 [l0, l1, l2, l3, l4, l5, l6] st S Q else pm_V d 118 80 [l0, l1, l2, l3, l4, l5, l6] st S Q := pv_if_le (pm_cdi rfl dX7_comes_77) rfl
theorem q118_80 : pm_V d 118 80 [l0, l1, l2, .long xj, l4, l5, l6] st S Q = pm_V d 118 81 [l0, l1, l2, .long xj, l4, l5, l6] (.long xj :: st) S Q := pv_lload_n (pm_cdi rfl dX7_comes_80) rfl
theorem q118_81 : pm_V d 118 81 [l0, l1, l2, l3, l4, l5, l6] st S Q = pm_V d 118 88 [l0, l1, l2, l3, l4, l5, l6] st S Q := pv_goto (pm_cdi rfl dX7_comes_81) rfl
theorem q118_84 : pm_V d 118 84 [.ref xn, l1, l2, l3, l4, l5, l6] st S Q = pm_V d 118 85 [.ref xn, l1, l2, l3, l4, l5, l6] (.ref xn :: st) S Q := pv_aload_n (pm_cdi rfl dX7_comes_84) rfl
theorem q118_85 (hs : pm_sh S an = .inr 7) : pm_V d 118 85 [l0, l1, l2, l3, l4, l5, l6] (.ref an :: st) S Q = pm_V d 118 88 [l0, l1, l2, l3, l4, l5, l6] (.long (pm_gl S an 33) :: st) S Q := pv_getL (pm_cdi rfl dX7_comes_85) (by decide +kernel) (by decide +kernel) (by decide +kernel) hs
theorem q118_88 (hs : pm_sh S an = .inr 7) : pm_V d 118 88 [l0, l1, l2, l3, l4, l5, l6] (.long xj :: .ref an :: st) S Q = pm_V d 118 91 [l0, l1, l2, l3, l4, l5, l6] st (pm_sgl S an 33 xj) Q := pv_putL (pm_cdi rfl dX7_comes_88) (by decide +kernel) (by decide +kernel) (by decide +kernel) hs
theorem q118_91 : pm_V d 118 91 [l0, l1, l2, l3, l4, l5, l6] st S Q = pm_V d 118 105 [l0, l1, l2, l3, l4, l5, l6] st S Q := pv_goto (pm_cdi rfl dX7_comes_91) rfl
theorem q118_94 : pm_V d 118 94 [.ref xn, l1, l2, l3, l4, l5, l6] st S Q = pm_V d 118 95 [.ref xn, l1, l2, l3, l4, l5, l6] (.ref xn :: st) S Q := pv_aload_n (pm_cdi rfl dX7_comes_94) rfl
theorem q118_95 : pm_V d 118 95 [.ref xn, l1, l2, l3, l4, l5, l6] st S Q = pm_V d 118 96 [.ref xn, l1, l2, l3, l4, l5, l6] (.ref xn :: st) S Q := pv_aload_n (pm_cdi rfl dX7_comes_95) rfl
theorem q118_96 (hs : pm_sh S an = .inr 7) : pm_V d 118 96 [l0, l1, l2, l3, l4, l5, l6] (.ref an :: st) S Q = pm_V d 118 99 [l0, l1, l2, l3, l4, l5, l6] (.int (pm_gi S an 31) :: st) S Q := pv_getI (pm_cdi rfl dX7_comes_96) (by decide +kernel) (by decide +kernel) (by decide +kernel) hs
theorem q118_99 : pm_V d 118 99 [l0, l1, l2, l3, l4, l5, l6] st S Q = pm_V d 118 100 [l0, l1, l2, l3, l4, l5, l6] (.int 1 :: st) S Q := pv_iconst (pm_cdi rfl dX7_comes_99) (by decide +kernel)
theorem q118_100 : pm_V d 118 100 [l0, l1, l2, l3, l4, l5, l6] (.int yi :: .int xi :: st) S Q = pm_V d 118 101 [l0, l1, l2, l3, l4, l5, l6] (.int (xi + yi) :: st) S Q := pv_iadd (pm_cdi rfl dX7_comes_100)
theorem q118_101 : pm_V d 118 101 [l0, l1, l2, l3, l4, l5, l6] (.int xi :: st) S Q = pm_V d 118 102 [l0, l1, l2, l3, l4, l5, l6] (.long xi.toInt64 :: st) S Q := pv_i2l (pm_cdi rfl dX7_comes_101)
theorem q118_102 (hs : pm_sh S an = .inr 7) : pm_V d 118 102 [l0, l1, l2, l3, l4, l5, l6] (.long xj :: .ref an :: st) S Q = pm_V d 118 105 [l0, l1, l2, l3, l4, l5, l6] st (pm_sgl S an 33 xj) Q := pv_putL (pm_cdi rfl dX7_comes_102) (by decide +kernel) (by decide +kernel) (by decide +kernel) hs
theorem q118_105 : pm_V d 118 105 [.ref xn, l1, l2, l3, l4, l5, l6] st S Q = pm_V d 118 106 [.ref xn, l1, l2, l3, l4, l5, l6] (.ref xn :: st) S Q := pv_aload_n (pm_cdi rfl dX7_comes_105) rfl
theorem q118_106 : pm_V d 118 106 [.ref xn, l1, l2, l3, l4, l5, l6] st S Q = pm_V d 118 107 [.ref xn, l1, l2, l3, l4, l5, l6] (.ref xn :: st) S Q := pv_aload_n (pm_cdi rfl dX7_comes_106) rfl
theorem q118_107 (hs : pm_sh S an = .inr 7) : pm_V d 118 107 [l0, l1, l2, l3, l4, l5, l6] (.ref an :: st) S Q = pm_V d 118 110 [l0, l1, l2, l3, l4, l5, l6] (.int (pm_gi S an 31) :: st) S Q := pv_getI (pm_cdi rfl dX7_comes_107) (by decide +kernel) (by decide +kernel) (by decide +kernel) hs
theorem q118_110 : pm_V d 118 110 [l0, l1, l2, l3, l4, l5, l6] (.int xi :: st) S Q = if xi = 0 then pm_V d 118 113 [l0, l1, l2, l3, l4, l5, l6] st S Q else pm_V d 118 117 [l0, l1, l2, l3, l4, l5, l6] st S Q := pv_if_ne (pm_cdi rfl dX7_comes_110) rfl
theorem q118_113 : pm_V d 118 113 [l0, l1, .int xi, l3, l4, l5, l6] st S Q = pm_V d 118 114 [l0, l1, .int xi, l3, l4, l5, l6] (.int xi :: st) S Q := pv_iload_n (pm_cdi rfl dX7_comes_113) rfl
theorem q118_114 : pm_V d 118 114 [l0, l1, l2, l3, l4, l5, l6] st S Q = pm_V d 118 121 [l0, l1, l2, l3, l4, l5, l6] st S Q := pv_goto (pm_cdi rfl dX7_comes_114) rfl
theorem q118_117 : pm_V d 118 117 [.ref xn, l1, l2, l3, l4, l5, l6] st S Q = pm_V d 118 118 [.ref xn, l1, l2, l3, l4, l5, l6] (.ref xn :: st) S Q := pv_aload_n (pm_cdi rfl dX7_comes_117) rfl
theorem q118_118 (hs : pm_sh S an = .inr 7) : pm_V d 118 118 [l0, l1, l2, l3, l4, l5, l6] (.ref an :: st) S Q = pm_V d 118 121 [l0, l1, l2, l3, l4, l5, l6] (.int (pm_gi S an 32) :: st) S Q := pv_getI (pm_cdi rfl dX7_comes_118) (by decide +kernel) (by decide +kernel) (by decide +kernel) hs
theorem q118_121 (hs : pm_sh S an = .inr 7) : pm_V d 118 121 [l0, l1, l2, l3, l4, l5, l6] (.int xi :: .ref an :: st) S Q = pm_V d 118 124 [l0, l1, l2, l3, l4, l5, l6] st (pm_sgi S an 32 xi) Q := pv_putI (pm_cdi rfl dX7_comes_121) (by decide +kernel) (by decide +kernel) (by decide +kernel) hs
theorem q118_124 : pm_V d 118 124 [.ref xn, l1, l2, l3, l4, l5, l6] st S Q = pm_V d 118 125 [.ref xn, l1, l2, l3, l4, l5, l6] (.ref xn :: st) S Q := pv_aload_n (pm_cdi rfl dX7_comes_124) rfl
theorem q118_125 : pm_V d 118 125 [l0, l1, l2, l3, l4, l5, l6] (.ref xn :: st) S Q = pm_V d 118 126 [l0, l1, l2, l3, l4, l5, l6] (.ref xn :: .ref xn :: st) S Q := pv_dupA (pm_cdi rfl dX7_comes_125)
theorem q118_126 (hs : pm_sh S an = .inr 7) : pm_V d 118 126 [l0, l1, l2, l3, l4, l5, l6] (.ref an :: st) S Q = pm_V d 118 129 [l0, l1, l2, l3, l4, l5, l6] (.int (pm_gi S an 31) :: st) S Q := pv_getI (pm_cdi rfl dX7_comes_126) (by decide +kernel) (by decide +kernel) (by decide +kernel) hs
theorem q118_129 : pm_V d 118 129 [l0, l1, l2, l3, l4, l5, l6] st S Q = pm_V d 118 130 [l0, l1, l2, l3, l4, l5, l6] (.int 1 :: st) S Q := pv_iconst (pm_cdi rfl dX7_comes_129) (by decide +kernel)
theorem q118_130 : pm_V d 118 130 [l0, l1, l2, l3, l4, l5, l6] (.int yi :: .int xi :: st) S Q = pm_V d 118 131 [l0, l1, l2, l3, l4, l5, l6] (.int (xi + yi) :: st) S Q := pv_iadd (pm_cdi rfl dX7_comes_130)
theorem q118_131 (hs : pm_sh S an = .inr 7) : pm_V d 118 131 [l0, l1, l2, l3, l4, l5, l6] (.int xi :: .ref an :: st) S Q = pm_V d 118 134 [l0, l1, l2, l3, l4, l5, l6] st (pm_sgi S an 31 xi) Q := pv_putI (pm_cdi rfl dX7_comes_131) (by decide +kernel) (by decide +kernel) (by decide +kernel) hs
theorem q118_134 : pm_V d 118 134 [l0, l1, l2, l3, l4, l5, l6] [] S Q = Q none S := pv_rV (pm_cdi rfl dX7_comes_134) (by decide +kernel)
theorem q118_e : pm_N d 118 [.ref an, .int v0i, .int v1i, .long v2j] S Q = pm_V d 118 0 [.ref an, .int v0i, .int v1i, .long v2j, pm_j, pm_j, pm_j] [] S Q := pv_ent (Nat.le_of_ble_eq_true rfl) rfl
/-! 119: ViewsJoinsModel.gathered(II)V -/
theorem dX7_gathered_0 : decode cX7_gathered 0 = .ok (.iconst 0, 1) := by decide +kernel
theorem dX7_gathered_1 : decode cX7_gathered 1 = .ok (.istore_n 3, 1) := by decide +kernel
theorem dX7_gathered_2 : decode cX7_gathered 2 = .ok (.iload_n 3, 1) := by decide +kernel
theorem dX7_gathered_3 : decode cX7_gathered 3 = .ok (.bipush 10, 2) := by decide +kernel
theorem dX7_gathered_5 : decode cX7_gathered 5 = .ok (.if_icmp .ge 109, 3) := by decide +kernel
theorem dX7_gathered_8 : decode cX7_gathered 8 = .ok (.aload_n 0, 1) := by decide +kernel
theorem dX7_gathered_9 : decode cX7_gathered 9 = .ok (.iconst 0, 1) := by decide +kernel
theorem dX7_gathered_10 : decode cX7_gathered 10 = .ok (.putfield 222, 3) := by decide +kernel
theorem dX7_gathered_13 : decode cX7_gathered 13 = .ok (.aload_n 0, 1) := by decide +kernel
theorem dX7_gathered_14 : decode cX7_gathered 14 = .ok (.lconst 0, 1) := by decide +kernel
theorem dX7_gathered_15 : decode cX7_gathered 15 = .ok (.putfield 218, 3) := by decide +kernel
theorem dX7_gathered_18 : decode cX7_gathered 18 = .ok (.iconst 0, 1) := by decide +kernel
theorem dX7_gathered_19 : decode cX7_gathered 19 = .ok (.istore 4, 2) := by decide +kernel
theorem dX7_gathered_21 : decode cX7_gathered 21 = .ok (.iload 4, 2) := by decide +kernel
theorem dX7_gathered_23 : decode cX7_gathered 23 = .ok (.aload_n 0, 1) := by decide +kernel
theorem dX7_gathered_24 : decode cX7_gathered 24 = .ok (.getfield 32, 3) := by decide +kernel
theorem dX7_gathered_27 : decode cX7_gathered 27 = .ok (.iload_n 2, 1) := by decide +kernel
theorem dX7_gathered_28 : decode cX7_gathered 28 = .ok (.iaload, 1) := by decide +kernel
theorem dX7_gathered_29 : decode cX7_gathered 29 = .ok (.if_icmp .ge 34, 3) := by decide +kernel
theorem dX7_gathered_32 : decode cX7_gathered 32 = .ok (.aload_n 0, 1) := by decide +kernel
theorem dX7_gathered_33 : decode cX7_gathered 33 = .ok (.iload_n 1, 1) := by decide +kernel
theorem dX7_gathered_34 : decode cX7_gathered 34 = .ok (.iload 4, 2) := by decide +kernel
theorem dX7_gathered_36 : decode cX7_gathered 36 = .ok (.invokevirtual 228, 3) := by decide +kernel
theorem dX7_gathered_39 : decode cX7_gathered 39 = .ok (.iload_n 3, 1) := by decide +kernel
theorem dX7_gathered_40 : decode cX7_gathered 40 = .ok (.if_icmp .ne 17, 3) := by decide +kernel
theorem dX7_gathered_43 : decode cX7_gathered 43 = .ok (.aload_n 0, 1) := by decide +kernel
theorem dX7_gathered_44 : decode cX7_gathered 44 = .ok (.iload_n 1, 1) := by decide +kernel
theorem dX7_gathered_45 : decode cX7_gathered 45 = .ok (.iload 4, 2) := by decide +kernel
theorem dX7_gathered_47 : decode cX7_gathered 47 = .ok (.aload_n 0, 1) := by decide +kernel
theorem dX7_gathered_48 : decode cX7_gathered 48 = .ok (.iload_n 2, 1) := by decide +kernel
theorem dX7_gathered_49 : decode cX7_gathered 49 = .ok (.iload 4, 2) := by decide +kernel
theorem dX7_gathered_51 : decode cX7_gathered 51 = .ok (.invokevirtual 201, 3) := by decide +kernel
theorem dX7_gathered_54 : decode cX7_gathered 54 = .ok (.invokevirtual 231, 3) := by decide +kernel
theorem dX7_gathered_57 : decode cX7_gathered 57 = .ok (.iinc 4 1, 3) := by decide +kernel
theorem dX7_gathered_60 : decode cX7_gathered 60 = .ok (.goto (-39), 3) := by decide +kernel
theorem dX7_gathered_63 : decode cX7_gathered 63 = .ok (.aload_n 0, 1) := by decide +kernel
theorem dX7_gathered_64 : decode cX7_gathered 64 = .ok (.getfield 90, 3) := by decide +kernel
theorem dX7_gathered_67 : decode cX7_gathered 67 = .ok (.iload_n 3, 1) := by decide +kernel
theorem dX7_gathered_68 : decode cX7_gathered 68 = .ok (.aload_n 0, 1) := by decide +kernel
theorem dX7_gathered_69 : decode cX7_gathered 69 = .ok (.getfield 222, 3) := by decide +kernel
theorem dX7_gathered_72 : decode cX7_gathered 72 = .ok (.ifCond .le 12, 3) := by decide +kernel
theorem dX7_gathered_75 : decode cX7_gathered 75 = .ok (.aload_n 0, 1) := by decide +kernel
theorem dX7_gathered_76 : decode cX7_gathered 76 = .ok (.getfield 32, 3) := by decide +kernel
theorem dX7_gathered_79 : decode cX7_gathered 79 = .ok (.iload_n 1, 1) := by decide +kernel
theorem dX7_gathered_80 : decode cX7_gathered 80 = .ok (.iaload, 1) := by decide +kernel
theorem dX7_gathered_81 : decode cX7_gathered 81 = .ok (.goto 4, 3) := by decide +kernel
theorem dX7_gathered_84 : decode cX7_gathered 84 = .ok (.iconst (-1), 1) := by decide +kernel
theorem dX7_gathered_85 : decode cX7_gathered 85 = .ok (.iastore, 1) := by decide +kernel
theorem dX7_gathered_86 : decode cX7_gathered 86 = .ok (.aload_n 0, 1) := by decide +kernel
theorem dX7_gathered_87 : decode cX7_gathered 87 = .ok (.getfield 222, 3) := by decide +kernel
theorem dX7_gathered_90 : decode cX7_gathered 90 = .ok (.ifCond .le 18, 3) := by decide +kernel
theorem dX7_gathered_93 : decode cX7_gathered 93 = .ok (.aload_n 0, 1) := by decide +kernel
theorem dX7_gathered_94 : decode cX7_gathered 94 = .ok (.iload_n 1, 1) := by decide +kernel
theorem dX7_gathered_95 : decode cX7_gathered 95 = .ok (.aload_n 0, 1) := by decide +kernel
theorem dX7_gathered_96 : decode cX7_gathered 96 = .ok (.getfield 218, 3) := by decide +kernel
theorem dX7_gathered_99 : decode cX7_gathered 99 = .ok (.aload_n 0, 1) := by decide +kernel
theorem dX7_gathered_100 : decode cX7_gathered 100 = .ok (.getfield 225, 3) := by decide +kernel
theorem dX7_gathered_103 : decode cX7_gathered 103 = .ok (.ldc 139, 2) := by decide +kernel
theorem dX7_gathered_105 : decode cX7_gathered 105 = .ok (.invokevirtual 205, 3) := by decide +kernel
theorem dX7_gathered_108 : decode cX7_gathered 108 = .ok (.iinc 3 1, 3) := by decide +kernel
theorem dX7_gathered_111 : decode cX7_gathered 111 = .ok (.goto (-109), 3) := by decide +kernel
theorem dX7_gathered_114 : decode cX7_gathered 114 = .ok (.iconst 0, 1) := by decide +kernel
theorem dX7_gathered_115 : decode cX7_gathered 115 = .ok (.istore_n 3, 1) := by decide +kernel
theorem dX7_gathered_116 : decode cX7_gathered 116 = .ok (.iload_n 3, 1) := by decide +kernel
theorem dX7_gathered_117 : decode cX7_gathered 117 = .ok (.bipush 10, 2) := by decide +kernel
theorem dX7_gathered_119 : decode cX7_gathered 119 = .ok (.if_icmp .ge 137, 3) := by decide +kernel
theorem dX7_gathered_122 : decode cX7_gathered 122 = .ok (.iconst 0, 1) := by decide +kernel
theorem dX7_gathered_123 : decode cX7_gathered 123 = .ok (.istore 4, 2) := by decide +kernel
theorem dX7_gathered_125 : decode cX7_gathered 125 = .ok (.iload 4, 2) := by decide +kernel
theorem dX7_gathered_127 : decode cX7_gathered 127 = .ok (.bipush 10, 2) := by decide +kernel
theorem dX7_gathered_129 : decode cX7_gathered 129 = .ok (.if_icmp .ge 121, 3) := by decide +kernel
theorem dX7_gathered_132 : decode cX7_gathered 132 = .ok (.aload_n 0, 1) := by decide +kernel
theorem dX7_gathered_133 : decode cX7_gathered 133 = .ok (.iconst 0, 1) := by decide +kernel
theorem dX7_gathered_134 : decode cX7_gathered 134 = .ok (.putfield 222, 3) := by decide +kernel
theorem dX7_gathered_137 : decode cX7_gathered 137 = .ok (.aload_n 0, 1) := by decide +kernel
theorem dX7_gathered_138 : decode cX7_gathered 138 = .ok (.lconst 0, 1) := by decide +kernel
theorem dX7_gathered_139 : decode cX7_gathered 139 = .ok (.putfield 218, 3) := by decide +kernel
theorem dX7_gathered_142 : decode cX7_gathered 142 = .ok (.iconst 0, 1) := by decide +kernel
theorem dX7_gathered_143 : decode cX7_gathered 143 = .ok (.istore 5, 2) := by decide +kernel
theorem dX7_gathered_145 : decode cX7_gathered 145 = .ok (.iload 5, 2) := by decide +kernel
theorem dX7_gathered_147 : decode cX7_gathered 147 = .ok (.aload_n 0, 1) := by decide +kernel
theorem dX7_gathered_148 : decode cX7_gathered 148 = .ok (.getfield 35, 3) := by decide +kernel
theorem dX7_gathered_151 : decode cX7_gathered 151 = .ok (.iload_n 2, 1) := by decide +kernel
theorem dX7_gathered_152 : decode cX7_gathered 152 = .ok (.iaload, 1) := by decide +kernel
theorem dX7_gathered_153 : decode cX7_gathered 153 = .ok (.if_icmp .ge 56, 3) := by decide +kernel
theorem dX7_gathered_156 : decode cX7_gathered 156 = .ok (.aload_n 0, 1) := by decide +kernel
theorem dX7_gathered_157 : decode cX7_gathered 157 = .ok (.iload_n 1, 1) := by decide +kernel
theorem dX7_gathered_158 : decode cX7_gathered 158 = .ok (.aload_n 0, 1) := by decide +kernel
theorem dX7_gathered_159 : decode cX7_gathered 159 = .ok (.iload_n 2, 1) := by decide +kernel
theorem dX7_gathered_160 : decode cX7_gathered 160 = .ok (.iload 5, 2) := by decide +kernel
theorem dX7_gathered_162 : decode cX7_gathered 162 = .ok (.invokevirtual 181, 3) := by decide +kernel
theorem dX7_gathered_165 : decode cX7_gathered 165 = .ok (.invokevirtual 228, 3) := by decide +kernel
theorem dX7_gathered_168 : decode cX7_gathered 168 = .ok (.iload_n 3, 1) := by decide +kernel
theorem dX7_gathered_169 : decode cX7_gathered 169 = .ok (.if_icmp .ne 34, 3) := by decide +kernel
theorem dX7_gathered_172 : decode cX7_gathered 172 = .ok (.aload_n 0, 1) := by decide +kernel
theorem dX7_gathered_173 : decode cX7_gathered 173 = .ok (.iload_n 1, 1) := by decide +kernel
theorem dX7_gathered_174 : decode cX7_gathered 174 = .ok (.aload_n 0, 1) := by decide +kernel
theorem dX7_gathered_175 : decode cX7_gathered 175 = .ok (.iload_n 2, 1) := by decide +kernel
theorem dX7_gathered_176 : decode cX7_gathered 176 = .ok (.iload 5, 2) := by decide +kernel
theorem dX7_gathered_178 : decode cX7_gathered 178 = .ok (.invokevirtual 185, 3) := by decide +kernel
theorem dX7_gathered_181 : decode cX7_gathered 181 = .ok (.invokevirtual 228, 3) := by decide +kernel
theorem dX7_gathered_184 : decode cX7_gathered 184 = .ok (.iload 4, 2) := by decide +kernel
theorem dX7_gathered_186 : decode cX7_gathered 186 = .ok (.if_icmp .ne 17, 3) := by decide +kernel
theorem dX7_gathered_189 : decode cX7_gathered 189 = .ok (.aload_n 0, 1) := by decide +kernel
theorem dX7_gathered_190 : decode cX7_gathered 190 = .ok (.iload_n 1, 1) := by decide +kernel
theorem dX7_gathered_191 : decode cX7_gathered 191 = .ok (.iload 5, 2) := by decide +kernel
theorem dX7_gathered_193 : decode cX7_gathered 193 = .ok (.aload_n 0, 1) := by decide +kernel
theorem dX7_gathered_194 : decode cX7_gathered 194 = .ok (.iload_n 2, 1) := by decide +kernel
theorem dX7_gathered_195 : decode cX7_gathered 195 = .ok (.iload 5, 2) := by decide +kernel
theorem dX7_gathered_197 : decode cX7_gathered 197 = .ok (.invokevirtual 209, 3) := by decide +kernel
theorem dX7_gathered_200 : decode cX7_gathered 200 = .ok (.invokevirtual 231, 3) := by decide +kernel
theorem dX7_gathered_203 : decode cX7_gathered 203 = .ok (.iinc 5 1, 3) := by decide +kernel
theorem dX7_gathered_206 : decode cX7_gathered 206 = .ok (.goto (-61), 3) := by decide +kernel
theorem dX7_gathered_209 : decode cX7_gathered 209 = .ok (.aload_n 0, 1) := by decide +kernel
theorem dX7_gathered_210 : decode cX7_gathered 210 = .ok (.getfield 222, 3) := by decide +kernel
theorem dX7_gathered_213 : decode cX7_gathered 213 = .ok (.ifCond .le 31, 3) := by decide +kernel
theorem dX7_gathered_216 : decode cX7_gathered 216 = .ok (.aload_n 0, 1) := by decide +kernel
theorem dX7_gathered_217 : decode cX7_gathered 217 = .ok (.iload_n 1, 1) := by decide +kernel
theorem dX7_gathered_218 : decode cX7_gathered 218 = .ok (.aload_n 0, 1) := by decide +kernel
theorem dX7_gathered_219 : decode cX7_gathered 219 = .ok (.getfield 90, 3) := by decide +kernel
theorem dX7_gathered_222 : decode cX7_gathered 222 = .ok (.iload_n 3, 1) := by decide +kernel
theorem dX7_gathered_223 : decode cX7_gathered 223 = .ok (.iaload, 1) := by decide +kernel
theorem dX7_gathered_224 : decode cX7_gathered 224 = .ok (.aload_n 0, 1) := by decide +kernel
theorem dX7_gathered_225 : decode cX7_gathered 225 = .ok (.getfield 90, 3) := by decide +kernel
theorem dX7_gathered_228 : decode cX7_gathered 228 = .ok (.iload 4, 2) := by decide +kernel
theorem dX7_gathered_230 : decode cX7_gathered 230 = .ok (.iaload, 1) := by decide +kernel
theorem dX7_gathered_231 : decode cX7_gathered 231 = .ok (.aload_n 0, 1) := by decide +kernel
theorem dX7_gathered_232 : decode cX7_gathered 232 = .ok (.getfield 218, 3) := by decide +kernel
theorem dX7_gathered_235 : decode cX7_gathered 235 = .ok (.aload_n 0, 1) := by decide +kernel
theorem dX7_gathered_236 : decode cX7_gathered 236 = .ok (.getfield 225, 3) := by decide +kernel
theorem dX7_gathered_239 : decode cX7_gathered 239 = .ok (.ldc 139, 2) := by decide +kernel
theorem dX7_gathered_241 : decode cX7_gathered 241 = .ok (.invokevirtual 140, 3) := by decide +kernel
theorem dX7_gathered_244 : decode cX7_gathered 244 = .ok (.iinc 4 1, 3) := by decide +kernel
theorem dX7_gathered_247 : decode cX7_gathered 247 = .ok (.goto (-122), 3) := by decide +kernel
theorem dX7_gathered_250 : decode cX7_gathered 250 = .ok (.iinc 3 1, 3) := by decide +kernel
theorem dX7_gathered_253 : decode cX7_gathered 253 = .ok (.goto (-137), 3) := by decide +kernel
theorem dX7_gathered_256 : decode cX7_gathered 256 = .ok (.return_, 1) := by decide +kernel
theorem q119_0 : pm_V d 119 0 [l0, l1, l2, l3, l4, l5] st S Q = pm_V d 119 1 [l0, l1, l2, l3, l4, l5] (.int 0 :: st) S Q := pv_iconst (pm_cdi rfl dX7_gathered_0) (by decide +kernel)
theorem q119_1 : pm_V d 119 1 [l0, l1, .int yi, l3, l4, l5] (.int xi :: st) S Q = pm_V d 119 2 [l0, l1, .int yi, .int xi, l4, l5] st S Q := pv_istore_n (pm_cdi rfl dX7_gathered_1) rfl
theorem q119_2 : pm_V d 119 2 [l0, l1, l2, .int xi, l4, l5] st S Q = pm_V d 119 3 [l0, l1, l2, .int xi, l4, l5] (.int xi :: st) S Q := pv_iload_n (pm_cdi rfl dX7_gathered_2) rfl
theorem q119_3 : pm_V d 119 3 [l0, l1, l2, l3, l4, l5] st S Q = pm_V d 119 5 [l0, l1, l2, l3, l4, l5] (.int 10 :: st) S Q := pv_bipush (pm_cdi rfl dX7_gathered_3) (by decide +kernel)
theorem q119_5 : pm_V d 119 5 [l0, l1, l2, l3, l4, l5] (.int yi :: .int xi :: st) S Q = if xi < yi then pm_V d 119 8 [l0, l1, l2, l3, l4, l5] st S Q else pm_V d 119 114 [l0, l1, l2, l3, l4, l5] st S Q := pv_icmp_ge (pm_cdi rfl dX7_gathered_5) rfl
theorem q119_8 : pm_V d 119 8 [.ref xn, l1, l2, l3, l4, l5] st S Q = pm_V d 119 9 [.ref xn, l1, l2, l3, l4, l5] (.ref xn :: st) S Q := pv_aload_n (pm_cdi rfl dX7_gathered_8) rfl
theorem q119_9 : pm_V d 119 9 [l0, l1, l2, l3, l4, l5] st S Q = pm_V d 119 10 [l0, l1, l2, l3, l4, l5] (.int 0 :: st) S Q := pv_iconst (pm_cdi rfl dX7_gathered_9) (by decide +kernel)
theorem q119_10 (hs : pm_sh S an = .inr 7) : pm_V d 119 10 [l0, l1, l2, l3, l4, l5] (.int xi :: .ref an :: st) S Q = pm_V d 119 13 [l0, l1, l2, l3, l4, l5] st (pm_sgi S an 31 xi) Q := pv_putI (pm_cdi rfl dX7_gathered_10) (by decide +kernel) (by decide +kernel) (by decide +kernel) hs
theorem q119_13 : pm_V d 119 13 [.ref xn, l1, l2, l3, l4, l5] st S Q = pm_V d 119 14 [.ref xn, l1, l2, l3, l4, l5] (.ref xn :: st) S Q := pv_aload_n (pm_cdi rfl dX7_gathered_13) rfl
theorem q119_14 : pm_V d 119 14 [l0, l1, l2, l3, l4, l5] st S Q = pm_V d 119 15 [l0, l1, l2, l3, l4, l5] (.long 0 :: st) S Q := pv_lconst (pm_cdi rfl dX7_gathered_14) (by decide +kernel)
theorem q119_15 (hs : pm_sh S an = .inr 7) : pm_V d 119 15 [l0, l1, l2, l3, l4, l5] (.long xj :: .ref an :: st) S Q = pm_V d 119 18 [l0, l1, l2, l3, l4, l5] st (pm_sgl S an 33 xj) Q := pv_putL (pm_cdi rfl dX7_gathered_15) (by decide +kernel) (by decide +kernel) (by decide +kernel) hs
theorem q119_18 : pm_V d 119 18 [l0, l1, l2, l3, l4, l5] st S Q = pm_V d 119 19 [l0, l1, l2, l3, l4, l5] (.int 0 :: st) S Q := pv_iconst (pm_cdi rfl dX7_gathered_18) (by decide +kernel)
theorem q119_19 : pm_V d 119 19 [l0, l1, l2, .int yi, l4, l5] (.int xi :: st) S Q = pm_V d 119 21 [l0, l1, l2, .int yi, .int xi, l5] st S Q := pv_istore (pm_cdi rfl dX7_gathered_19) rfl
theorem q119_21 : pm_V d 119 21 [l0, l1, l2, l3, .int xi, l5] st S Q = pm_V d 119 23 [l0, l1, l2, l3, .int xi, l5] (.int xi :: st) S Q := pv_iload (pm_cdi rfl dX7_gathered_21) rfl
theorem q119_23 : pm_V d 119 23 [.ref xn, l1, l2, l3, l4, l5] st S Q = pm_V d 119 24 [.ref xn, l1, l2, l3, l4, l5] (.ref xn :: st) S Q := pv_aload_n (pm_cdi rfl dX7_gathered_23) rfl
theorem q119_24 (hs : pm_sh S an = .inr 7) : pm_V d 119 24 [l0, l1, l2, l3, l4, l5] (.ref an :: st) S Q = pm_V d 119 27 [l0, l1, l2, l3, l4, l5] (va_rf (pm_gr S an 8) :: st) S Q := pv_getA (pm_cdi rfl dX7_gathered_24) (by decide +kernel) (by decide +kernel) (by decide +kernel) hs
theorem q119_27 : pm_V d 119 27 [l0, l1, .int xi, l3, l4, l5] st S Q = pm_V d 119 28 [l0, l1, .int xi, l3, l4, l5] (.int xi :: st) S Q := pv_iload_n (pm_cdi rfl dX7_gathered_27) rfl
theorem q119_28 (hs : pm_ar S an 0 xi = true) : pm_V d 119 28 [l0, l1, l2, l3, l4, l5] (.int xi :: .ref an :: st) S Q = pm_V d 119 29 [l0, l1, l2, l3, l4, l5] (.int (pm_zi S an xi.toNatClampNeg) :: st) S Q := pv_iald (pm_cdi rfl dX7_gathered_28) hs
theorem q119_29 : pm_V d 119 29 [l0, l1, l2, l3, l4, l5] (.int yi :: .int xi :: st) S Q = if xi < yi then pm_V d 119 32 [l0, l1, l2, l3, l4, l5] st S Q else pm_V d 119 63 [l0, l1, l2, l3, l4, l5] st S Q := pv_icmp_ge (pm_cdi rfl dX7_gathered_29) rfl
theorem q119_32 : pm_V d 119 32 [.ref xn, l1, l2, l3, l4, l5] st S Q = pm_V d 119 33 [.ref xn, l1, l2, l3, l4, l5] (.ref xn :: st) S Q := pv_aload_n (pm_cdi rfl dX7_gathered_32) rfl
theorem q119_33 : pm_V d 119 33 [l0, .int xi, l2, l3, l4, l5] st S Q = pm_V d 119 34 [l0, .int xi, l2, l3, l4, l5] (.int xi :: st) S Q := pv_iload_n (pm_cdi rfl dX7_gathered_33) rfl
theorem q119_34 : pm_V d 119 34 [l0, l1, l2, l3, .int xi, l5] st S Q = pm_V d 119 36 [l0, l1, l2, l3, .int xi, l5] (.int xi :: st) S Q := pv_iload (pm_cdi rfl dX7_gathered_34) rfl
theorem q119_36 (hs : pm_sh S an = .inr 7) : pm_V (d + 1) 119 36 [l0, l1, l2, l3, l4, l5] [.int v1i, .int v0i, .ref an] S Q = pm_N d 117 [.ref an, .int v0i, .int v1i] S (fun r S' => pm_V (d + 1) 119 39 [l0, l1, l2, l3, l4, l5] (r.toList ++ []) S' Q) := pv_callV (as := [.int v0i, .int v1i]) (pm_cdi rfl dX7_gathered_36) (Or.inl (by decide +kernel)) (by decide +kernel) (show _ = _ from (by decide +kernel : 2 = pm_np 117)) rfl (Nat.le_of_ble_eq_true rfl) (cl := 7) (by decide +kernel) hs
theorem q119_39 : pm_V d 119 39 [l0, l1, l2, .int xi, l4, l5] st S Q = pm_V d 119 40 [l0, l1, l2, .int xi, l4, l5] (.int xi :: st) S Q := pv_iload_n (pm_cdi rfl dX7_gathered_39) rfl
theorem q119_40 : pm_V d 119 40 [l0, l1, l2, l3, l4, l5] (.int yi :: .int xi :: st) S Q = if xi = yi then pm_V d 119 43 [l0, l1, l2, l3, l4, l5] st S Q else pm_V d 119 57 [l0, l1, l2, l3, l4, l5] st S Q := pv_icmp_ne (pm_cdi rfl dX7_gathered_40) rfl
theorem q119_43 : pm_V d 119 43 [.ref xn, l1, l2, l3, l4, l5] st S Q = pm_V d 119 44 [.ref xn, l1, l2, l3, l4, l5] (.ref xn :: st) S Q := pv_aload_n (pm_cdi rfl dX7_gathered_43) rfl
theorem q119_44 : pm_V d 119 44 [l0, .int xi, l2, l3, l4, l5] st S Q = pm_V d 119 45 [l0, .int xi, l2, l3, l4, l5] (.int xi :: st) S Q := pv_iload_n (pm_cdi rfl dX7_gathered_44) rfl
theorem q119_45 : pm_V d 119 45 [l0, l1, l2, l3, .int xi, l5] st S Q = pm_V d 119 47 [l0, l1, l2, l3, .int xi, l5] (.int xi :: st) S Q := pv_iload (pm_cdi rfl dX7_gathered_45) rfl
theorem q119_47 : pm_V d 119 47 [.ref xn, l1, l2, l3, l4, l5] st S Q = pm_V d 119 48 [.ref xn, l1, l2, l3, l4, l5] (.ref xn :: st) S Q := pv_aload_n (pm_cdi rfl dX7_gathered_47) rfl
theorem q119_48 : pm_V d 119 48 [l0, l1, .int xi, l3, l4, l5] st S Q = pm_V d 119 49 [l0, l1, .int xi, l3, l4, l5] (.int xi :: st) S Q := pv_iload_n (pm_cdi rfl dX7_gathered_48) rfl
theorem q119_49 : pm_V d 119 49 [l0, l1, l2, l3, .int xi, l5] st S Q = pm_V d 119 51 [l0, l1, l2, l3, .int xi, l5] (.int xi :: st) S Q := pv_iload (pm_cdi rfl dX7_gathered_49) rfl
theorem q119_51 (hs : pm_sh S an = .inr 7) : pm_V (d + 1) 119 51 [l0, l1, l2, l3, l4, l5] [.int v1i, .int v0i, .ref an, .int r0i, .int r1i, .ref r2n] S Q = pm_N d 106 [.ref an, .int v0i, .int v1i] S (fun r S' => pm_V (d + 1) 119 54 [l0, l1, l2, l3, l4, l5] (r.toList ++ [.int r0i, .int r1i, .ref r2n]) S' Q) := pv_callV (as := [.int v0i, .int v1i]) (pm_cdi rfl dX7_gathered_51) (Or.inl (by decide +kernel)) (by decide +kernel) (show _ = _ from (by decide +kernel : 2 = pm_np 106)) rfl (Nat.le_of_ble_eq_true rfl) (cl := 7) (by decide +kernel) hs
theorem q119_54 (hs : pm_sh S an = .inr 7) : pm_V (d + 1) 119 54 [l0, l1, l2, l3, l4, l5] [.long v2j, .int v1i, .int v0i, .ref an] S Q = pm_N d 118 [.ref an, .int v0i, .int v1i, .long v2j] S (fun r S' => pm_V (d + 1) 119 57 [l0, l1, l2, l3, l4, l5] (r.toList ++ []) S' Q) := pv_callV (as := [.int v0i, .int v1i, .long v2j]) (pm_cdi rfl dX7_gathered_54) (Or.inl (by decide +kernel)) (by decide +kernel) (show _ = _ from (by decide +kernel : 3 = pm_np 118)) rfl (Nat.le_of_ble_eq_true rfl) (cl := 7) (by decide +kernel) hs
theorem q119_57 : pm_V d 119 57 [l0, l1, l2, .int yi, .int xi, l5] st S Q = pm_V d 119 60 [l0, l1, l2, .int yi, .int (xi + 1), l5] st S Q := pv_iinc (pm_cdi rfl dX7_gathered_57) rfl (by decide +kernel) rfl
theorem q119_60 : pm_V d 119 60 [l0, l1, l2, l3, l4, l5] st S Q = pm_V d 119 21 [l0, l1, l2, l3, l4, l5] st S Q := pv_goto (pm_cdi rfl dX7_gathered_60) rfl
theorem q119_63 : pm_V d 119 63 [.ref xn, l1, l2, l3, l4, l5] st S Q = pm_V d 119 64 [.ref xn, l1, l2, l3, l4, l5] (.ref xn :: st) S Q := pv_aload_n (pm_cdi rfl dX7_gathered_63) rfl
theorem q119_64 (hs : pm_sh S an = .inr 7) : pm_V d 119 64 [l0, l1, l2, l3, l4, l5] (.ref an :: st) S Q = pm_V d 119 67 [l0, l1, l2, l3, l4, l5] (va_rf (pm_gr S an 34) :: st) S Q := pv_getA (pm_cdi rfl dX7_gathered_64) (by decide +kernel) (by decide +kernel) (by decide +kernel) hs
theorem q119_67 : pm_V d 119 67 [l0, l1, l2, .int xi, l4, l5] st S Q = pm_V d 119 68 [l0, l1, l2, .int xi, l4, l5] (.int xi :: st) S Q := pv_iload_n (pm_cdi rfl dX7_gathered_67) rfl
theorem q119_68 : pm_V d 119 68 [.ref xn, l1, l2, l3, l4, l5] st S Q = pm_V d 119 69 [.ref xn, l1, l2, l3, l4, l5] (.ref xn :: st) S Q := pv_aload_n (pm_cdi rfl dX7_gathered_68) rfl
theorem q119_69 (hs : pm_sh S an = .inr 7) : pm_V d 119 69 [l0, l1, l2, l3, l4, l5] (.ref an :: st) S Q = pm_V d 119 72 [l0, l1, l2, l3, l4, l5] (.int (pm_gi S an 31) :: st) S Q := pv_getI (pm_cdi rfl dX7_gathered_69) (by decide +kernel) (by decide +kernel) (by decide +kernel) hs
theorem q119_72 : pm_V d 119 72 [l0, l1, l2, l3, l4, l5] (.int xi :: st) S Q = if xi ≤ 0 then pm_V d 119 84 [l0, l1, l2, l3, l4, l5] st S Q else pm_V d 119 75 [l0, l1, l2, l3, l4, l5] st S Q := pv_if_le (pm_cdi rfl dX7_gathered_72) rfl
theorem q119_75 : pm_V d 119 75 [.ref xn, l1, l2, l3, l4, l5] st S Q = pm_V d 119 76 [.ref xn, l1, l2, l3, l4, l5] (.ref xn :: st) S Q := pv_aload_n (pm_cdi rfl dX7_gathered_75) rfl
theorem q119_76 (hs : pm_sh S an = .inr 7) : pm_V d 119 76 [l0, l1, l2, l3, l4, l5] (.ref an :: st) S Q = pm_V d 119 79 [l0, l1, l2, l3, l4, l5] (va_rf (pm_gr S an 8) :: st) S Q := pv_getA (pm_cdi rfl dX7_gathered_76) (by decide +kernel) (by decide +kernel) (by decide +kernel) hs
theorem q119_79 : pm_V d 119 79 [l0, .int xi, l2, l3, l4, l5] st S Q = pm_V d 119 80 [l0, .int xi, l2, l3, l4, l5] (.int xi :: st) S Q := pv_iload_n (pm_cdi rfl dX7_gathered_79) rfl
theorem q119_80 (hs : pm_ar S an 0 xi = true) : pm_V d 119 80 [l0, l1, l2, l3, l4, l5] (.int xi :: .ref an :: st) S Q = pm_V d 119 81 [l0, l1, l2, l3, l4, l5] (.int (pm_zi S an xi.toNatClampNeg) :: st) S Q := pv_iald (pm_cdi rfl dX7_gathered_80) hs
theorem q119_81 : pm_V d 119 81 [l0, l1, l2, l3, l4, l5] st S Q = pm_V d 119 85 [l0, l1, l2, l3, l4, l5] st S Q := pv_goto (pm_cdi rfl dX7_gathered_81) rfl
theorem q119_84 : pm_V d 119 84 [l0, l1, l2, l3, l4, l5] st S Q = pm_V d 119 85 [l0, l1, l2, l3, l4, l5] (.int (-1) :: st) S Q := pv_iconst (pm_cdi rfl dX7_gathered_84) (by decide +kernel)
theorem q119_85 (hs : pm_ar S an 0 xi = true) : pm_V d 119 85 [l0, l1, l2, l3, l4, l5] (.int vi :: .int xi :: .ref an :: st) S Q = pm_V d 119 86 [l0, l1, l2, l3, l4, l5] st (pm_szi S an xi.toNatClampNeg vi) Q := pv_iast (pm_cdi rfl dX7_gathered_85) hs
theorem q119_86 : pm_V d 119 86 [.ref xn, l1, l2, l3, l4, l5] st S Q = pm_V d 119 87 [.ref xn, l1, l2, l3, l4, l5] (.ref xn :: st) S Q := pv_aload_n (pm_cdi rfl dX7_gathered_86) rfl
theorem q119_87 (hs : pm_sh S an = .inr 7) : pm_V d 119 87 [l0, l1, l2, l3, l4, l5] (.ref an :: st) S Q = pm_V d 119 90 [l0, l1, l2, l3, l4, l5] (.int (pm_gi S an 31) :: st) S Q := pv_getI (pm_cdi rfl dX7_gathered_87) (by decide +kernel) (by decide +kernel) (by decide +kernel) hs
theorem q119_90 : pm_V d 119 90 [l0, l1, l2, l3, l4, l5] (.int xi :: st) S Q = if xi ≤ 0 then pm_V d 119 108 [l0, l1, l2, l3, l4, l5] st S Q else pm_V d 119 93 [l0, l1, l2, l3, l4, l5] st S Q := pv_if_le (pm_cdi rfl dX7_gathered_90) rfl
theorem q119_93 : pm_V d 119 93 [.ref xn, l1, l2, l3, l4, l5] st S Q = pm_V d 119 94 [.ref xn, l1, l2, l3, l4, l5] (.ref xn :: st) S Q := pv_aload_n (pm_cdi rfl dX7_gathered_93) rfl
theorem q119_94 : pm_V d 119 94 [l0, .int xi, l2, l3, l4, l5] st S Q = pm_V d 119 95 [l0, .int xi, l2, l3, l4, l5] (.int xi :: st) S Q := pv_iload_n (pm_cdi rfl dX7_gathered_94) rfl
theorem q119_95 : pm_V d 119 95 [.ref xn, l1, l2, l3, l4, l5] st S Q = pm_V d 119 96 [.ref xn, l1, l2, l3, l4, l5] (.ref xn :: st) S Q := pv_aload_n (pm_cdi rfl dX7_gathered_95) rfl
theorem q119_96 (hs : pm_sh S an = .inr 7) : pm_V d 119 96 [l0, l1, l2, l3, l4, l5] (.ref an :: st) S Q = pm_V d 119 99 [l0, l1, l2, l3, l4, l5] (.long (pm_gl S an 33) :: st) S Q := pv_getL (pm_cdi rfl dX7_gathered_96) (by decide +kernel) (by decide +kernel) (by decide +kernel) hs
theorem q119_99 : pm_V d 119 99 [.ref xn, l1, l2, l3, l4, l5] st S Q = pm_V d 119 100 [.ref xn, l1, l2, l3, l4, l5] (.ref xn :: st) S Q := pv_aload_n (pm_cdi rfl dX7_gathered_99) rfl
theorem q119_100 (hs : pm_sh S an = .inr 7) : pm_V d 119 100 [l0, l1, l2, l3, l4, l5] (.ref an :: st) S Q = pm_V d 119 103 [l0, l1, l2, l3, l4, l5] (.int (pm_gi S an 32) :: st) S Q := pv_getI (pm_cdi rfl dX7_gathered_100) (by decide +kernel) (by decide +kernel) (by decide +kernel) hs
theorem q119_103 : pm_V d 119 103 [l0, l1, l2, l3, l4, l5] st S Q = pm_V d 119 105 [l0, l1, l2, l3, l4, l5] (.int (-1000004) :: st) S Q := pv_ldc (pm_cdi rfl dX7_gathered_103) (by decide +kernel)
theorem q119_105 (hs : pm_sh S an = .inr 7) : pm_V (d + 1) 119 105 [l0, l1, l2, l3, l4, l5] [.int v3i, .int v2i, .long v1j, .int v0i, .ref an] S Q = pm_N d 102 [.ref an, .int v0i, .long v1j, .int v2i, .int v3i] S (fun r S' => pm_V (d + 1) 119 108 [l0, l1, l2, l3, l4, l5] (r.toList ++ []) S' Q) := pv_callV (as := [.int v0i, .long v1j, .int v2i, .int v3i]) (pm_cdi rfl dX7_gathered_105) (Or.inl (by decide +kernel)) (by decide +kernel) (show _ = _ from (by decide +kernel : 4 = pm_np 102)) rfl (Nat.le_of_ble_eq_true rfl) (cl := 7) (by decide +kernel) hs
theorem q119_108 : pm_V d 119 108 [l0, l1, .int yi, .int xi, l4, l5] st S Q = pm_V d 119 111 [l0, l1, .int yi, .int (xi + 1), l4, l5] st S Q := pv_iinc (pm_cdi rfl dX7_gathered_108) rfl (by decide +kernel) rfl
theorem q119_111 : pm_V d 119 111 [l0, l1, l2, l3, l4, l5] st S Q = pm_V d 119 2 [l0, l1, l2, l3, l4, l5] st S Q := pv_goto (pm_cdi rfl dX7_gathered_111) rfl
theorem q119_114 : pm_V d 119 114 [l0, l1, l2, l3, l4, l5] st S Q = pm_V d 119 115 [l0, l1, l2, l3, l4, l5] (.int 0 :: st) S Q := pv_iconst (pm_cdi rfl dX7_gathered_114) (by decide +kernel)
theorem q119_115 : pm_V d 119 115 [l0, l1, .int yi, l3, l4, l5] (.int xi :: st) S Q = pm_V d 119 116 [l0, l1, .int yi, .int xi, l4, l5] st S Q := pv_istore_n (pm_cdi rfl dX7_gathered_115) rfl
theorem q119_116 : pm_V d 119 116 [l0, l1, l2, .int xi, l4, l5] st S Q = pm_V d 119 117 [l0, l1, l2, .int xi, l4, l5] (.int xi :: st) S Q := pv_iload_n (pm_cdi rfl dX7_gathered_116) rfl
theorem q119_117 : pm_V d 119 117 [l0, l1, l2, l3, l4, l5] st S Q = pm_V d 119 119 [l0, l1, l2, l3, l4, l5] (.int 10 :: st) S Q := pv_bipush (pm_cdi rfl dX7_gathered_117) (by decide +kernel)
theorem q119_119 : pm_V d 119 119 [l0, l1, l2, l3, l4, l5] (.int yi :: .int xi :: st) S Q = if xi < yi then pm_V d 119 122 [l0, l1, l2, l3, l4, l5] st S Q else pm_V d 119 256 [l0, l1, l2, l3, l4, l5] st S Q := pv_icmp_ge (pm_cdi rfl dX7_gathered_119) rfl
theorem q119_122 : pm_V d 119 122 [l0, l1, l2, l3, l4, l5] st S Q = pm_V d 119 123 [l0, l1, l2, l3, l4, l5] (.int 0 :: st) S Q := pv_iconst (pm_cdi rfl dX7_gathered_122) (by decide +kernel)
theorem q119_123 : pm_V d 119 123 [l0, l1, l2, .int yi, l4, l5] (.int xi :: st) S Q = pm_V d 119 125 [l0, l1, l2, .int yi, .int xi, l5] st S Q := pv_istore (pm_cdi rfl dX7_gathered_123) rfl
theorem q119_125 : pm_V d 119 125 [l0, l1, l2, l3, .int xi, l5] st S Q = pm_V d 119 127 [l0, l1, l2, l3, .int xi, l5] (.int xi :: st) S Q := pv_iload (pm_cdi rfl dX7_gathered_125) rfl
theorem q119_127 : pm_V d 119 127 [l0, l1, l2, l3, l4, l5] st S Q = pm_V d 119 129 [l0, l1, l2, l3, l4, l5] (.int 10 :: st) S Q := pv_bipush (pm_cdi rfl dX7_gathered_127) (by decide +kernel)
theorem q119_129 : pm_V d 119 129 [l0, l1, l2, l3, l4, l5] (.int yi :: .int xi :: st) S Q = if xi < yi then pm_V d 119 132 [l0, l1, l2, l3, l4, l5] st S Q else pm_V d 119 250 [l0, l1, l2, l3, l4, l5] st S Q := pv_icmp_ge (pm_cdi rfl dX7_gathered_129) rfl
theorem q119_132 : pm_V d 119 132 [.ref xn, l1, l2, l3, l4, l5] st S Q = pm_V d 119 133 [.ref xn, l1, l2, l3, l4, l5] (.ref xn :: st) S Q := pv_aload_n (pm_cdi rfl dX7_gathered_132) rfl
theorem q119_133 : pm_V d 119 133 [l0, l1, l2, l3, l4, l5] st S Q = pm_V d 119 134 [l0, l1, l2, l3, l4, l5] (.int 0 :: st) S Q := pv_iconst (pm_cdi rfl dX7_gathered_133) (by decide +kernel)
theorem q119_134 (hs : pm_sh S an = .inr 7) : pm_V d 119 134 [l0, l1, l2, l3, l4, l5] (.int xi :: .ref an :: st) S Q = pm_V d 119 137 [l0, l1, l2, l3, l4, l5] st (pm_sgi S an 31 xi) Q := pv_putI (pm_cdi rfl dX7_gathered_134) (by decide +kernel) (by decide +kernel) (by decide +kernel) hs
theorem q119_137 : pm_V d 119 137 [.ref xn, l1, l2, l3, l4, l5] st S Q = pm_V d 119 138 [.ref xn, l1, l2, l3, l4, l5] (.ref xn :: st) S Q := pv_aload_n (pm_cdi rfl dX7_gathered_137) rfl
theorem q119_138 : pm_V d 119 138 [l0, l1, l2, l3, l4, l5] st S Q = pm_V d 119 139 [l0, l1, l2, l3, l4, l5] (.long 0 :: st) S Q := pv_lconst (pm_cdi rfl dX7_gathered_138) (by decide +kernel)
theorem q119_139 (hs : pm_sh S an = .inr 7) : pm_V d 119 139 [l0, l1, l2, l3, l4, l5] (.long xj :: .ref an :: st) S Q = pm_V d 119 142 [l0, l1, l2, l3, l4, l5] st (pm_sgl S an 33 xj) Q := pv_putL (pm_cdi rfl dX7_gathered_139) (by decide +kernel) (by decide +kernel) (by decide +kernel) hs
theorem q119_142 : pm_V d 119 142 [l0, l1, l2, l3, l4, l5] st S Q = pm_V d 119 143 [l0, l1, l2, l3, l4, l5] (.int 0 :: st) S Q := pv_iconst (pm_cdi rfl dX7_gathered_142) (by decide +kernel)
theorem q119_143 : pm_V d 119 143 [l0, l1, l2, l3, .int yi, l5] (.int xi :: st) S Q = pm_V d 119 145 [l0, l1, l2, l3, .int yi, .int xi] st S Q := pv_istore (pm_cdi rfl dX7_gathered_143) rfl
theorem q119_145 : pm_V d 119 145 [l0, l1, l2, l3, l4, .int xi] st S Q = pm_V d 119 147 [l0, l1, l2, l3, l4, .int xi] (.int xi :: st) S Q := pv_iload (pm_cdi rfl dX7_gathered_145) rfl
theorem q119_147 : pm_V d 119 147 [.ref xn, l1, l2, l3, l4, l5] st S Q = pm_V d 119 148 [.ref xn, l1, l2, l3, l4, l5] (.ref xn :: st) S Q := pv_aload_n (pm_cdi rfl dX7_gathered_147) rfl
theorem q119_148 (hs : pm_sh S an = .inr 7) : pm_V d 119 148 [l0, l1, l2, l3, l4, l5] (.ref an :: st) S Q = pm_V d 119 151 [l0, l1, l2, l3, l4, l5] (va_rf (pm_gr S an 9) :: st) S Q := pv_getA (pm_cdi rfl dX7_gathered_148) (by decide +kernel) (by decide +kernel) (by decide +kernel) hs
theorem q119_151 : pm_V d 119 151 [l0, l1, .int xi, l3, l4, l5] st S Q = pm_V d 119 152 [l0, l1, .int xi, l3, l4, l5] (.int xi :: st) S Q := pv_iload_n (pm_cdi rfl dX7_gathered_151) rfl
theorem q119_152 (hs : pm_ar S an 0 xi = true) : pm_V d 119 152 [l0, l1, l2, l3, l4, l5] (.int xi :: .ref an :: st) S Q = pm_V d 119 153 [l0, l1, l2, l3, l4, l5] (.int (pm_zi S an xi.toNatClampNeg) :: st) S Q := pv_iald (pm_cdi rfl dX7_gathered_152) hs
theorem q119_153 : pm_V d 119 153 [l0, l1, l2, l3, l4, l5] (.int yi :: .int xi :: st) S Q = if xi < yi then pm_V d 119 156 [l0, l1, l2, l3, l4, l5] st S Q else pm_V d 119 209 [l0, l1, l2, l3, l4, l5] st S Q := pv_icmp_ge (pm_cdi rfl dX7_gathered_153) rfl
theorem q119_156 : pm_V d 119 156 [.ref xn, l1, l2, l3, l4, l5] st S Q = pm_V d 119 157 [.ref xn, l1, l2, l3, l4, l5] (.ref xn :: st) S Q := pv_aload_n (pm_cdi rfl dX7_gathered_156) rfl
theorem q119_157 : pm_V d 119 157 [l0, .int xi, l2, l3, l4, l5] st S Q = pm_V d 119 158 [l0, .int xi, l2, l3, l4, l5] (.int xi :: st) S Q := pv_iload_n (pm_cdi rfl dX7_gathered_157) rfl
theorem q119_158 : pm_V d 119 158 [.ref xn, l1, l2, l3, l4, l5] st S Q = pm_V d 119 159 [.ref xn, l1, l2, l3, l4, l5] (.ref xn :: st) S Q := pv_aload_n (pm_cdi rfl dX7_gathered_158) rfl
theorem q119_159 : pm_V d 119 159 [l0, l1, .int xi, l3, l4, l5] st S Q = pm_V d 119 160 [l0, l1, .int xi, l3, l4, l5] (.int xi :: st) S Q := pv_iload_n (pm_cdi rfl dX7_gathered_159) rfl
theorem q119_160 : pm_V d 119 160 [l0, l1, l2, l3, l4, .int xi] st S Q = pm_V d 119 162 [l0, l1, l2, l3, l4, .int xi] (.int xi :: st) S Q := pv_iload (pm_cdi rfl dX7_gathered_160) rfl
theorem q119_162 (hs : pm_sh S an = .inr 7) : pm_V (d + 1) 119 162 [l0, l1, l2, l3, l4, l5] [.int v1i, .int v0i, .ref an, .int r0i, .ref r1n] S Q = pm_N d 104 [.ref an, .int v0i, .int v1i] S (fun r S' => pm_V (d + 1) 119 165 [l0, l1, l2, l3, l4, l5] (r.toList ++ [.int r0i, .ref r1n]) S' Q) := pv_callV (as := [.int v0i, .int v1i]) (pm_cdi rfl dX7_gathered_162) (Or.inl (by decide +kernel)) (by decide +kernel) (show _ = _ from (by decide +kernel : 2 = pm_np 104)) rfl (Nat.le_of_ble_eq_true rfl) (cl := 7) (by decide +kernel) hs
theorem q119_165 (hs : pm_sh S an = .inr 7) : pm_V (d + 1) 119 165 [l0, l1, l2, l3, l4, l5] [.int v1i, .int v0i, .ref an] S Q = pm_N d 117 [.ref an, .int v0i, .int v1i] S (fun r S' => pm_V (d + 1) 119 168 [l0, l1, l2, l3, l4, l5] (r.toList ++ []) S' Q) := pv_callV (as := [.int v0i, .int v1i]) (pm_cdi rfl dX7_gathered_165) (Or.inl (by decide +kernel)) (by decide +kernel) (show _ = _ from (by decide +kernel : 2 = pm_np 117)) rfl (Nat.le_of_ble_eq_true rfl) (cl := 7) (by decide +kernel) hs
theorem q119_168 : pm_V d 119 168 [l0, l1, l2, .int xi, l4, l5] st S Q = pm_V d 119 169 [l0, l1, l2, .int xi, l4, l5] (.int xi :: st) S Q := pv_iload_n (pm_cdi rfl dX7_gathered_168) rfl
theorem q119_169 : pm_V d 119 169 [l0, l1, l2, l3, l4, l5] (.int yi :: .int xi :: st) S Q = if xi = yi then pm_V d 119 172 [l0, l1, l2, l3, l4, l5] st S Q else pm_V d 119 203 [l0, l1, l2, l3, l4, l5] st S Q := pv_icmp_ne (pm_cdi rfl dX7_gathered_169) rfl
theorem q119_172 : pm_V d 119 172 [.ref xn, l1, l2, l3, l4, l5] st S Q = pm_V d 119 173 [.ref xn, l1, l2, l3, l4, l5] (.ref xn :: st) S Q := pv_aload_n (pm_cdi rfl dX7_gathered_172) rfl
theorem q119_173 : pm_V d 119 173 [l0, .int xi, l2, l3, l4, l5] st S Q = pm_V d 119 174 [l0, .int xi, l2, l3, l4, l5] (.int xi :: st) S Q := pv_iload_n (pm_cdi rfl dX7_gathered_173) rfl
theorem q119_174 : pm_V d 119 174 [.ref xn, l1, l2, l3, l4, l5] st S Q = pm_V d 119 175 [.ref xn, l1, l2, l3, l4, l5] (.ref xn :: st) S Q := pv_aload_n (pm_cdi rfl dX7_gathered_174) rfl
theorem q119_175 : pm_V d 119 175 [l0, l1, .int xi, l3, l4, l5] st S Q = pm_V d 119 176 [l0, l1, .int xi, l3, l4, l5] (.int xi :: st) S Q := pv_iload_n (pm_cdi rfl dX7_gathered_175) rfl
theorem q119_176 : pm_V d 119 176 [l0, l1, l2, l3, l4, .int xi] st S Q = pm_V d 119 178 [l0, l1, l2, l3, l4, .int xi] (.int xi :: st) S Q := pv_iload (pm_cdi rfl dX7_gathered_176) rfl
theorem q119_178 (hs : pm_sh S an = .inr 7) : pm_V (d + 1) 119 178 [l0, l1, l2, l3, l4, l5] [.int v1i, .int v0i, .ref an, .int r0i, .ref r1n] S Q = pm_N d 105 [.ref an, .int v0i, .int v1i] S (fun r S' => pm_V (d + 1) 119 181 [l0, l1, l2, l3, l4, l5] (r.toList ++ [.int r0i, .ref r1n]) S' Q) := pv_callV (as := [.int v0i, .int v1i]) (pm_cdi rfl dX7_gathered_178) (Or.inl (by decide +kernel)) (by decide +kernel) (show _ = _ from (by decide +kernel : 2 = pm_np 105)) rfl (Nat.le_of_ble_eq_true rfl) (cl := 7) (by decide +kernel) hs
theorem q119_181 (hs : pm_sh S an = .inr 7) : pm_V (d + 1) 119 181 [l0, l1, l2, l3, l4, l5] [.int v1i, .int v0i, .ref an] S Q = pm_N d 117 [.ref an, .int v0i, .int v1i] S (fun r S' => pm_V (d + 1) 119 184 [l0, l1, l2, l3, l4, l5] (r.toList ++ []) S' Q) := pv_callV (as := [.int v0i, .int v1i]) (pm_cdi rfl dX7_gathered_181) (Or.inl (by decide +kernel)) (by decide +kernel) (show _ = _ from (by decide +kernel : 2 = pm_np 117)) rfl (Nat.le_of_ble_eq_true rfl) (cl := 7) (by decide +kernel) hs
theorem q119_184 : pm_V d 119 184 [l0, l1, l2, l3, .int xi, l5] st S Q = pm_V d 119 186 [l0, l1, l2, l3, .int xi, l5] (.int xi :: st) S Q := pv_iload (pm_cdi rfl dX7_gathered_184) rfl
theorem q119_186 : pm_V d 119 186 [l0, l1, l2, l3, l4, l5] (.int yi :: .int xi :: st) S Q = if xi = yi then pm_V d 119 189 [l0, l1, l2, l3, l4, l5] st S Q else pm_V d 119 203 [l0, l1, l2, l3, l4, l5] st S Q := pv_icmp_ne (pm_cdi rfl dX7_gathered_186) rfl
theorem q119_189 : pm_V d 119 189 [.ref xn, l1, l2, l3, l4, l5] st S Q = pm_V d 119 190 [.ref xn, l1, l2, l3, l4, l5] (.ref xn :: st) S Q := pv_aload_n (pm_cdi rfl dX7_gathered_189) rfl
theorem q119_190 : pm_V d 119 190 [l0, .int xi, l2, l3, l4, l5] st S Q = pm_V d 119 191 [l0, .int xi, l2, l3, l4, l5] (.int xi :: st) S Q := pv_iload_n (pm_cdi rfl dX7_gathered_190) rfl
theorem q119_191 : pm_V d 119 191 [l0, l1, l2, l3, l4, .int xi] st S Q = pm_V d 119 193 [l0, l1, l2, l3, l4, .int xi] (.int xi :: st) S Q := pv_iload (pm_cdi rfl dX7_gathered_191) rfl
theorem q119_193 : pm_V d 119 193 [.ref xn, l1, l2, l3, l4, l5] st S Q = pm_V d 119 194 [.ref xn, l1, l2, l3, l4, l5] (.ref xn :: st) S Q := pv_aload_n (pm_cdi rfl dX7_gathered_193) rfl
theorem q119_194 : pm_V d 119 194 [l0, l1, .int xi, l3, l4, l5] st S Q = pm_V d 119 195 [l0, l1, .int xi, l3, l4, l5] (.int xi :: st) S Q := pv_iload_n (pm_cdi rfl dX7_gathered_194) rfl
theorem q119_195 : pm_V d 119 195 [l0, l1, l2, l3, l4, .int xi] st S Q = pm_V d 119 197 [l0, l1, l2, l3, l4, .int xi] (.int xi :: st) S Q := pv_iload (pm_cdi rfl dX7_gathered_195) rfl
theorem q119_197 (hs : pm_sh S an = .inr 7) : pm_V (d + 1) 119 197 [l0, l1, l2, l3, l4, l5] [.int v1i, .int v0i, .ref an, .int r0i, .int r1i, .ref r2n] S Q = pm_N d 107 [.ref an, .int v0i, .int v1i] S (fun r S' => pm_V (d + 1) 119 200 [l0, l1, l2, l3, l4, l5] (r.toList ++ [.int r0i, .int r1i, .ref r2n]) S' Q) := pv_callV (as := [.int v0i, .int v1i]) (pm_cdi rfl dX7_gathered_197) (Or.inl (by decide +kernel)) (by decide +kernel) (show _ = _ from (by decide +kernel : 2 = pm_np 107)) rfl (Nat.le_of_ble_eq_true rfl) (cl := 7) (by decide +kernel) hs
theorem q119_200 (hs : pm_sh S an = .inr 7) : pm_V (d + 1) 119 200 [l0, l1, l2, l3, l4, l5] [.long v2j, .int v1i, .int v0i, .ref an] S Q = pm_N d 118 [.ref an, .int v0i, .int v1i, .long v2j] S (fun r S' => pm_V (d + 1) 119 203 [l0, l1, l2, l3, l4, l5] (r.toList ++ []) S' Q) := pv_callV (as := [.int v0i, .int v1i, .long v2j]) (pm_cdi rfl dX7_gathered_200) (Or.inl (by decide +kernel)) (by decide +kernel) (show _ = _ from (by decide +kernel : 3 = pm_np 118)) rfl (Nat.le_of_ble_eq_true rfl) (cl := 7) (by decide +kernel) hs
theorem q119_203 : pm_V d 119 203 [l0, l1, l2, l3, .int yi, .int xi] st S Q = pm_V d 119 206 [l0, l1, l2, l3, .int yi, .int (xi + 1)] st S Q := pv_iinc (pm_cdi rfl dX7_gathered_203) rfl (by decide +kernel) rfl
theorem q119_206 : pm_V d 119 206 [l0, l1, l2, l3, l4, l5] st S Q = pm_V d 119 145 [l0, l1, l2, l3, l4, l5] st S Q := pv_goto (pm_cdi rfl dX7_gathered_206) rfl
theorem q119_209 : pm_V d 119 209 [.ref xn, l1, l2, l3, l4, l5] st S Q = pm_V d 119 210 [.ref xn, l1, l2, l3, l4, l5] (.ref xn :: st) S Q := pv_aload_n (pm_cdi rfl dX7_gathered_209) rfl
theorem q119_210 (hs : pm_sh S an = .inr 7) : pm_V d 119 210 [l0, l1, l2, l3, l4, l5] (.ref an :: st) S Q = pm_V d 119 213 [l0, l1, l2, l3, l4, l5] (.int (pm_gi S an 31) :: st) S Q := pv_getI (pm_cdi rfl dX7_gathered_210) (by decide +kernel) (by decide +kernel) (by decide +kernel) hs
theorem q119_213 : pm_V d 119 213 [l0, l1, l2, l3, l4, l5] (.int xi :: st) S Q = if xi ≤ 0 then pm_V d 119 244 [l0, l1, l2, l3, l4, l5] st S Q else pm_V d 119 216 [l0, l1, l2, l3, l4, l5] st S Q := pv_if_le (pm_cdi rfl dX7_gathered_213) rfl
theorem q119_216 : pm_V d 119 216 [.ref xn, l1, l2, l3, l4, l5] st S Q = pm_V d 119 217 [.ref xn, l1, l2, l3, l4, l5] (.ref xn :: st) S Q := pv_aload_n (pm_cdi rfl dX7_gathered_216) rfl
theorem q119_217 : pm_V d 119 217 [l0, .int xi, l2, l3, l4, l5] st S Q = pm_V d 119 218 [l0, .int xi, l2, l3, l4, l5] (.int xi :: st) S Q := pv_iload_n (pm_cdi rfl dX7_gathered_217) rfl
theorem q119_218 : pm_V d 119 218 [.ref xn, l1, l2, l3, l4, l5] st S Q = pm_V d 119 219 [.ref xn, l1, l2, l3, l4, l5] (.ref xn :: st) S Q := pv_aload_n (pm_cdi rfl dX7_gathered_218) rfl
theorem q119_219 (hs : pm_sh S an = .inr 7) : pm_V d 119 219 [l0, l1, l2, l3, l4, l5] (.ref an :: st) S Q = pm_V d 119 222 [l0, l1, l2, l3, l4, l5] (va_rf (pm_gr S an 34) :: st) S Q := pv_getA (pm_cdi rfl dX7_gathered_219) (by decide +kernel) (by decide +kernel) (by decide +kernel) hs
theorem q119_222 : pm_V d 119 222 [l0, l1, l2, .int xi, l4, l5] st S Q = pm_V d 119 223 [l0, l1, l2, .int xi, l4, l5] (.int xi :: st) S Q := pv_iload_n (pm_cdi rfl dX7_gathered_222) rfl
theorem q119_223 (hs : pm_ar S an 0 xi = true) : pm_V d 119 223 [l0, l1, l2, l3, l4, l5] (.int xi :: .ref an :: st) S Q = pm_V d 119 224 [l0, l1, l2, l3, l4, l5] (.int (pm_zi S an xi.toNatClampNeg) :: st) S Q := pv_iald (pm_cdi rfl dX7_gathered_223) hs
theorem q119_224 : pm_V d 119 224 [.ref xn, l1, l2, l3, l4, l5] st S Q = pm_V d 119 225 [.ref xn, l1, l2, l3, l4, l5] (.ref xn :: st) S Q := pv_aload_n (pm_cdi rfl dX7_gathered_224) rfl
theorem q119_225 (hs : pm_sh S an = .inr 7) : pm_V d 119 225 [l0, l1, l2, l3, l4, l5] (.ref an :: st) S Q = pm_V d 119 228 [l0, l1, l2, l3, l4, l5] (va_rf (pm_gr S an 34) :: st) S Q := pv_getA (pm_cdi rfl dX7_gathered_225) (by decide +kernel) (by decide +kernel) (by decide +kernel) hs
theorem q119_228 : pm_V d 119 228 [l0, l1, l2, l3, .int xi, l5] st S Q = pm_V d 119 230 [l0, l1, l2, l3, .int xi, l5] (.int xi :: st) S Q := pv_iload (pm_cdi rfl dX7_gathered_228) rfl
theorem q119_230 (hs : pm_ar S an 0 xi = true) : pm_V d 119 230 [l0, l1, l2, l3, l4, l5] (.int xi :: .ref an :: st) S Q = pm_V d 119 231 [l0, l1, l2, l3, l4, l5] (.int (pm_zi S an xi.toNatClampNeg) :: st) S Q := pv_iald (pm_cdi rfl dX7_gathered_230) hs
theorem q119_231 : pm_V d 119 231 [.ref xn, l1, l2, l3, l4, l5] st S Q = pm_V d 119 232 [.ref xn, l1, l2, l3, l4, l5] (.ref xn :: st) S Q := pv_aload_n (pm_cdi rfl dX7_gathered_231) rfl
theorem q119_232 (hs : pm_sh S an = .inr 7) : pm_V d 119 232 [l0, l1, l2, l3, l4, l5] (.ref an :: st) S Q = pm_V d 119 235 [l0, l1, l2, l3, l4, l5] (.long (pm_gl S an 33) :: st) S Q := pv_getL (pm_cdi rfl dX7_gathered_232) (by decide +kernel) (by decide +kernel) (by decide +kernel) hs
theorem q119_235 : pm_V d 119 235 [.ref xn, l1, l2, l3, l4, l5] st S Q = pm_V d 119 236 [.ref xn, l1, l2, l3, l4, l5] (.ref xn :: st) S Q := pv_aload_n (pm_cdi rfl dX7_gathered_235) rfl
theorem q119_236 (hs : pm_sh S an = .inr 7) : pm_V d 119 236 [l0, l1, l2, l3, l4, l5] (.ref an :: st) S Q = pm_V d 119 239 [l0, l1, l2, l3, l4, l5] (.int (pm_gi S an 32) :: st) S Q := pv_getI (pm_cdi rfl dX7_gathered_236) (by decide +kernel) (by decide +kernel) (by decide +kernel) hs
theorem q119_239 : pm_V d 119 239 [l0, l1, l2, l3, l4, l5] st S Q = pm_V d 119 241 [l0, l1, l2, l3, l4, l5] (.int (-1000004) :: st) S Q := pv_ldc (pm_cdi rfl dX7_gathered_239) (by decide +kernel)
theorem q119_241 (hs : pm_sh S an = .inr 7) : pm_V (d + 1) 119 241 [l0, l1, l2, l3, l4, l5] [.int v5i, .int v4i, .long v3j, .int v2i, .int v1i, .int v0i, .ref an] S Q = pm_N d 103 [.ref an, .int v0i, .int v1i, .int v2i, .long v3j, .int v4i, .int v5i] S (fun r S' => pm_V (d + 1) 119 244 [l0, l1, l2, l3, l4, l5] (r.toList ++ []) S' Q) := pv_callV (as := [.int v0i, .int v1i, .int v2i, .long v3j, .int v4i, .int v5i]) (pm_cdi rfl dX7_gathered_241) (Or.inl (by decide +kernel)) (by decide +kernel) (show _ = _ from (by decide +kernel : 6 = pm_np 103)) rfl (Nat.le_of_ble_eq_true rfl) (cl := 7) (by decide +kernel) hs
theorem q119_244 : pm_V d 119 244 [l0, l1, l2, .int yi, .int xi, l5] st S Q = pm_V d 119 247 [l0, l1, l2, .int yi, .int (xi + 1), l5] st S Q := pv_iinc (pm_cdi rfl dX7_gathered_244) rfl (by decide +kernel) rfl
theorem q119_247 : pm_V d 119 247 [l0, l1, l2, l3, l4, l5] st S Q = pm_V d 119 125 [l0, l1, l2, l3, l4, l5] st S Q := pv_goto (pm_cdi rfl dX7_gathered_247) rfl
theorem q119_250 : pm_V d 119 250 [l0, l1, .int yi, .int xi, l4, l5] st S Q = pm_V d 119 253 [l0, l1, .int yi, .int (xi + 1), l4, l5] st S Q := pv_iinc (pm_cdi rfl dX7_gathered_250) rfl (by decide +kernel) rfl
theorem q119_253 : pm_V d 119 253 [l0, l1, l2, l3, l4, l5] st S Q = pm_V d 119 116 [l0, l1, l2, l3, l4, l5] st S Q := pv_goto (pm_cdi rfl dX7_gathered_253) rfl
theorem q119_256 : pm_V d 119 256 [l0, l1, l2, l3, l4, l5] [] S Q = Q none S := pv_rV (pm_cdi rfl dX7_gathered_256) (by decide +kernel)
theorem q119_e : pm_N d 119 [.ref an, .int v0i, .int v1i] S Q = pm_V d 119 0 [.ref an, .int v0i, .int v1i, pm_j, pm_j, pm_j] [] S Q := pv_ent (Nat.le_of_ble_eq_true rfl) rfl
/-! 120: ViewsJoinsModel.push(III)V -/
theorem dX7_push_0 : decode cX7_push 0 = .ok (.aload_n 0, 1) := by decide +kernel
theorem dX7_push_1 : decode cX7_push 1 = .ok (.getfield 93, 3) := by decide +kernel
theorem dX7_push_4 : decode cX7_push 4 = .ok (.aload_n 0, 1) := by decide +kernel
theorem dX7_push_5 : decode cX7_push 5 = .ok (.getfield 235, 3) := by decide +kernel
theorem dX7_push_8 : decode cX7_push 8 = .ok (.iload_n 1, 1) := by decide +kernel
theorem dX7_push_9 : decode cX7_push 9 = .ok (.iastore, 1) := by decide +kernel
theorem dX7_push_10 : decode cX7_push 10 = .ok (.aload_n 0, 1) := by decide +kernel
theorem dX7_push_11 : decode cX7_push 11 = .ok (.getfield 96, 3) := by decide +kernel
theorem dX7_push_14 : decode cX7_push 14 = .ok (.aload_n 0, 1) := by decide +kernel
theorem dX7_push_15 : decode cX7_push 15 = .ok (.getfield 235, 3) := by decide +kernel
theorem dX7_push_18 : decode cX7_push 18 = .ok (.iload_n 2, 1) := by decide +kernel
theorem dX7_push_19 : decode cX7_push 19 = .ok (.iastore, 1) := by decide +kernel
theorem dX7_push_20 : decode cX7_push 20 = .ok (.aload_n 0, 1) := by decide +kernel
theorem dX7_push_21 : decode cX7_push 21 = .ok (.getfield 99, 3) := by decide +kernel
theorem dX7_push_24 : decode cX7_push 24 = .ok (.aload_n 0, 1) := by decide +kernel
theorem dX7_push_25 : decode cX7_push 25 = .ok (.getfield 235, 3) := by decide +kernel
theorem dX7_push_28 : decode cX7_push 28 = .ok (.iload_n 3, 1) := by decide +kernel
theorem dX7_push_29 : decode cX7_push 29 = .ok (.iastore, 1) := by decide +kernel
theorem dX7_push_30 : decode cX7_push 30 = .ok (.aload_n 0, 1) := by decide +kernel
theorem dX7_push_31 : decode cX7_push 31 = .ok (.getfield 102, 3) := by decide +kernel
theorem dX7_push_34 : decode cX7_push 34 = .ok (.aload_n 0, 1) := by decide +kernel
theorem dX7_push_35 : decode cX7_push 35 = .ok (.getfield 235, 3) := by decide +kernel
theorem dX7_push_38 : decode cX7_push 38 = .ok (.iconst 0, 1) := by decide +kernel
theorem dX7_push_39 : decode cX7_push 39 = .ok (.iastore, 1) := by decide +kernel
theorem dX7_push_40 : decode cX7_push 40 = .ok (.aload_n 0, 1) := by decide +kernel
theorem dX7_push_41 : decode cX7_push 41 = .ok (.getfield 105, 3) := by decide +kernel
theorem dX7_push_44 : decode cX7_push 44 = .ok (.aload_n 0, 1) := by decide +kernel
theorem dX7_push_45 : decode cX7_push 45 = .ok (.getfield 235, 3) := by decide +kernel
theorem dX7_push_48 : decode cX7_push 48 = .ok (.iconst (-1), 1) := by decide +kernel
theorem dX7_push_49 : decode cX7_push 49 = .ok (.iastore, 1) := by decide +kernel
theorem dX7_push_50 : decode cX7_push 50 = .ok (.aload_n 0, 1) := by decide +kernel
theorem dX7_push_51 : decode cX7_push 51 = .ok (.dup, 1) := by decide +kernel
theorem dX7_push_52 : decode cX7_push 52 = .ok (.getfield 235, 3) := by decide +kernel
theorem dX7_push_55 : decode cX7_push 55 = .ok (.iconst 1, 1) := by decide +kernel
theorem dX7_push_56 : decode cX7_push 56 = .ok (.iadd, 1) := by decide +kernel
theorem dX7_push_57 : decode cX7_push 57 = .ok (.putfield 235, 3) := by decide +kernel
theorem dX7_push_60 : decode cX7_push 60 = .ok (.return_, 1) := by decide +kernel
theorem q120_0 : pm_V d 120 0 [.ref xn, l1, l2, l3] st S Q = pm_V d 120 1 [.ref xn, l1, l2, l3] (.ref xn :: st) S Q := pv_aload_n (pm_cdi rfl dX7_push_0) rfl
theorem q120_1 (hs : pm_sh S an = .inr 7) : pm_V d 120 1 [l0, l1, l2, l3] (.ref an :: st) S Q = pm_V d 120 4 [l0, l1, l2, l3] (va_rf (pm_gr S an 36) :: st) S Q := pv_getA (pm_cdi rfl dX7_push_1) (by decide +kernel) (by decide +kernel) (by decide +kernel) hs
theorem q120_4 : pm_V d 120 4 [.ref xn, l1, l2, l3] st S Q = pm_V d 120 5 [.ref xn, l1, l2, l3] (.ref xn :: st) S Q := pv_aload_n (pm_cdi rfl dX7_push_4) rfl
theorem q120_5 (hs : pm_sh S an = .inr 7) : pm_V d 120 5 [l0, l1, l2, l3] (.ref an :: st) S Q = pm_V d 120 8 [l0, l1, l2, l3] (.int (pm_gi S an 35) :: st) S Q := pv_getI (pm_cdi rfl dX7_push_5) (by decide +kernel) (by decide +kernel) (by decide +kernel) hs
theorem q120_8 : pm_V d 120 8 [l0, .int xi, l2, l3] st S Q = pm_V d 120 9 [l0, .int xi, l2, l3] (.int xi :: st) S Q := pv_iload_n (pm_cdi rfl dX7_push_8) rfl
theorem q120_9 (hs : pm_ar S an 0 xi = true) : pm_V d 120 9 [l0, l1, l2, l3] (.int vi :: .int xi :: .ref an :: st) S Q = pm_V d 120 10 [l0, l1, l2, l3] st (pm_szi S an xi.toNatClampNeg vi) Q := pv_iast (pm_cdi rfl dX7_push_9) hs
theorem q120_10 : pm_V d 120 10 [.ref xn, l1, l2, l3] st S Q = pm_V d 120 11 [.ref xn, l1, l2, l3] (.ref xn :: st) S Q := pv_aload_n (pm_cdi rfl dX7_push_10) rfl
theorem q120_11 (hs : pm_sh S an = .inr 7) : pm_V d 120 11 [l0, l1, l2, l3] (.ref an :: st) S Q = pm_V d 120 14 [l0, l1, l2, l3] (va_rf (pm_gr S an 37) :: st) S Q := pv_getA (pm_cdi rfl dX7_push_11) (by decide +kernel) (by decide +kernel) (by decide +kernel) hs
theorem q120_14 : pm_V d 120 14 [.ref xn, l1, l2, l3] st S Q = pm_V d 120 15 [.ref xn, l1, l2, l3] (.ref xn :: st) S Q := pv_aload_n (pm_cdi rfl dX7_push_14) rfl
theorem q120_15 (hs : pm_sh S an = .inr 7) : pm_V d 120 15 [l0, l1, l2, l3] (.ref an :: st) S Q = pm_V d 120 18 [l0, l1, l2, l3] (.int (pm_gi S an 35) :: st) S Q := pv_getI (pm_cdi rfl dX7_push_15) (by decide +kernel) (by decide +kernel) (by decide +kernel) hs
theorem q120_18 : pm_V d 120 18 [l0, l1, .int xi, l3] st S Q = pm_V d 120 19 [l0, l1, .int xi, l3] (.int xi :: st) S Q := pv_iload_n (pm_cdi rfl dX7_push_18) rfl
theorem q120_19 (hs : pm_ar S an 0 xi = true) : pm_V d 120 19 [l0, l1, l2, l3] (.int vi :: .int xi :: .ref an :: st) S Q = pm_V d 120 20 [l0, l1, l2, l3] st (pm_szi S an xi.toNatClampNeg vi) Q := pv_iast (pm_cdi rfl dX7_push_19) hs
theorem q120_20 : pm_V d 120 20 [.ref xn, l1, l2, l3] st S Q = pm_V d 120 21 [.ref xn, l1, l2, l3] (.ref xn :: st) S Q := pv_aload_n (pm_cdi rfl dX7_push_20) rfl
theorem q120_21 (hs : pm_sh S an = .inr 7) : pm_V d 120 21 [l0, l1, l2, l3] (.ref an :: st) S Q = pm_V d 120 24 [l0, l1, l2, l3] (va_rf (pm_gr S an 38) :: st) S Q := pv_getA (pm_cdi rfl dX7_push_21) (by decide +kernel) (by decide +kernel) (by decide +kernel) hs
theorem q120_24 : pm_V d 120 24 [.ref xn, l1, l2, l3] st S Q = pm_V d 120 25 [.ref xn, l1, l2, l3] (.ref xn :: st) S Q := pv_aload_n (pm_cdi rfl dX7_push_24) rfl
theorem q120_25 (hs : pm_sh S an = .inr 7) : pm_V d 120 25 [l0, l1, l2, l3] (.ref an :: st) S Q = pm_V d 120 28 [l0, l1, l2, l3] (.int (pm_gi S an 35) :: st) S Q := pv_getI (pm_cdi rfl dX7_push_25) (by decide +kernel) (by decide +kernel) (by decide +kernel) hs
theorem q120_28 : pm_V d 120 28 [l0, l1, l2, .int xi] st S Q = pm_V d 120 29 [l0, l1, l2, .int xi] (.int xi :: st) S Q := pv_iload_n (pm_cdi rfl dX7_push_28) rfl
theorem q120_29 (hs : pm_ar S an 0 xi = true) : pm_V d 120 29 [l0, l1, l2, l3] (.int vi :: .int xi :: .ref an :: st) S Q = pm_V d 120 30 [l0, l1, l2, l3] st (pm_szi S an xi.toNatClampNeg vi) Q := pv_iast (pm_cdi rfl dX7_push_29) hs
theorem q120_30 : pm_V d 120 30 [.ref xn, l1, l2, l3] st S Q = pm_V d 120 31 [.ref xn, l1, l2, l3] (.ref xn :: st) S Q := pv_aload_n (pm_cdi rfl dX7_push_30) rfl
theorem q120_31 (hs : pm_sh S an = .inr 7) : pm_V d 120 31 [l0, l1, l2, l3] (.ref an :: st) S Q = pm_V d 120 34 [l0, l1, l2, l3] (va_rf (pm_gr S an 39) :: st) S Q := pv_getA (pm_cdi rfl dX7_push_31) (by decide +kernel) (by decide +kernel) (by decide +kernel) hs
theorem q120_34 : pm_V d 120 34 [.ref xn, l1, l2, l3] st S Q = pm_V d 120 35 [.ref xn, l1, l2, l3] (.ref xn :: st) S Q := pv_aload_n (pm_cdi rfl dX7_push_34) rfl
theorem q120_35 (hs : pm_sh S an = .inr 7) : pm_V d 120 35 [l0, l1, l2, l3] (.ref an :: st) S Q = pm_V d 120 38 [l0, l1, l2, l3] (.int (pm_gi S an 35) :: st) S Q := pv_getI (pm_cdi rfl dX7_push_35) (by decide +kernel) (by decide +kernel) (by decide +kernel) hs
theorem q120_38 : pm_V d 120 38 [l0, l1, l2, l3] st S Q = pm_V d 120 39 [l0, l1, l2, l3] (.int 0 :: st) S Q := pv_iconst (pm_cdi rfl dX7_push_38) (by decide +kernel)
theorem q120_39 (hs : pm_ar S an 0 xi = true) : pm_V d 120 39 [l0, l1, l2, l3] (.int vi :: .int xi :: .ref an :: st) S Q = pm_V d 120 40 [l0, l1, l2, l3] st (pm_szi S an xi.toNatClampNeg vi) Q := pv_iast (pm_cdi rfl dX7_push_39) hs
theorem q120_40 : pm_V d 120 40 [.ref xn, l1, l2, l3] st S Q = pm_V d 120 41 [.ref xn, l1, l2, l3] (.ref xn :: st) S Q := pv_aload_n (pm_cdi rfl dX7_push_40) rfl
theorem q120_41 (hs : pm_sh S an = .inr 7) : pm_V d 120 41 [l0, l1, l2, l3] (.ref an :: st) S Q = pm_V d 120 44 [l0, l1, l2, l3] (va_rf (pm_gr S an 40) :: st) S Q := pv_getA (pm_cdi rfl dX7_push_41) (by decide +kernel) (by decide +kernel) (by decide +kernel) hs
theorem q120_44 : pm_V d 120 44 [.ref xn, l1, l2, l3] st S Q = pm_V d 120 45 [.ref xn, l1, l2, l3] (.ref xn :: st) S Q := pv_aload_n (pm_cdi rfl dX7_push_44) rfl
theorem q120_45 (hs : pm_sh S an = .inr 7) : pm_V d 120 45 [l0, l1, l2, l3] (.ref an :: st) S Q = pm_V d 120 48 [l0, l1, l2, l3] (.int (pm_gi S an 35) :: st) S Q := pv_getI (pm_cdi rfl dX7_push_45) (by decide +kernel) (by decide +kernel) (by decide +kernel) hs
theorem q120_48 : pm_V d 120 48 [l0, l1, l2, l3] st S Q = pm_V d 120 49 [l0, l1, l2, l3] (.int (-1) :: st) S Q := pv_iconst (pm_cdi rfl dX7_push_48) (by decide +kernel)
theorem q120_49 (hs : pm_ar S an 0 xi = true) : pm_V d 120 49 [l0, l1, l2, l3] (.int vi :: .int xi :: .ref an :: st) S Q = pm_V d 120 50 [l0, l1, l2, l3] st (pm_szi S an xi.toNatClampNeg vi) Q := pv_iast (pm_cdi rfl dX7_push_49) hs
theorem q120_50 : pm_V d 120 50 [.ref xn, l1, l2, l3] st S Q = pm_V d 120 51 [.ref xn, l1, l2, l3] (.ref xn :: st) S Q := pv_aload_n (pm_cdi rfl dX7_push_50) rfl
theorem q120_51 : pm_V d 120 51 [l0, l1, l2, l3] (.ref xn :: st) S Q = pm_V d 120 52 [l0, l1, l2, l3] (.ref xn :: .ref xn :: st) S Q := pv_dupA (pm_cdi rfl dX7_push_51)
theorem q120_52 (hs : pm_sh S an = .inr 7) : pm_V d 120 52 [l0, l1, l2, l3] (.ref an :: st) S Q = pm_V d 120 55 [l0, l1, l2, l3] (.int (pm_gi S an 35) :: st) S Q := pv_getI (pm_cdi rfl dX7_push_52) (by decide +kernel) (by decide +kernel) (by decide +kernel) hs
theorem q120_55 : pm_V d 120 55 [l0, l1, l2, l3] st S Q = pm_V d 120 56 [l0, l1, l2, l3] (.int 1 :: st) S Q := pv_iconst (pm_cdi rfl dX7_push_55) (by decide +kernel)
theorem q120_56 : pm_V d 120 56 [l0, l1, l2, l3] (.int yi :: .int xi :: st) S Q = pm_V d 120 57 [l0, l1, l2, l3] (.int (xi + yi) :: st) S Q := pv_iadd (pm_cdi rfl dX7_push_56)
theorem q120_57 (hs : pm_sh S an = .inr 7) : pm_V d 120 57 [l0, l1, l2, l3] (.int xi :: .ref an :: st) S Q = pm_V d 120 60 [l0, l1, l2, l3] st (pm_sgi S an 35 xi) Q := pv_putI (pm_cdi rfl dX7_push_57) (by decide +kernel) (by decide +kernel) (by decide +kernel) hs
theorem q120_60 : pm_V d 120 60 [l0, l1, l2, l3] [] S Q = Q none S := pv_rV (pm_cdi rfl dX7_push_60) (by decide +kernel)
theorem q120_e : pm_N d 120 [.ref an, .int v0i, .int v1i, .int v2i] S Q = pm_V d 120 0 [.ref an, .int v0i, .int v1i, .int v2i] [] S Q := pv_ent (Nat.le_of_ble_eq_true rfl) rfl
/-! 121: ViewsJoinsModel.arcBehind(III)I -/
theorem dX7_arcBehind_0 : decode cX7_arcBehind 0 = .ok (.iload_n 3, 1) := by decide +kernel
theorem dX7_arcBehind_1 : decode cX7_arcBehind 1 = .ok (.iconst 1, 1) := by decide +kernel
theorem dX7_arcBehind_2 : decode cX7_arcBehind 2 = .ok (.iadd, 1) := by decide +kernel
theorem dX7_arcBehind_3 : decode cX7_arcBehind 3 = .ok (.istore 4, 2) := by decide +kernel
theorem dX7_arcBehind_5 : decode cX7_arcBehind 5 = .ok (.iload 4, 2) := by decide +kernel
theorem dX7_arcBehind_7 : decode cX7_arcBehind 7 = .ok (.aload_n 0, 1) := by decide +kernel
theorem dX7_arcBehind_8 : decode cX7_arcBehind 8 = .ok (.getfield 35, 3) := by decide +kernel
theorem dX7_arcBehind_11 : decode cX7_arcBehind 11 = .ok (.iload_n 1, 1) := by decide +kernel
theorem dX7_arcBehind_12 : decode cX7_arcBehind 12 = .ok (.iaload, 1) := by decide +kernel
theorem dX7_arcBehind_13 : decode cX7_arcBehind 13 = .ok (.if_icmp .ge 20, 3) := by decide +kernel
theorem dX7_arcBehind_16 : decode cX7_arcBehind 16 = .ok (.aload_n 0, 1) := by decide +kernel
theorem dX7_arcBehind_17 : decode cX7_arcBehind 17 = .ok (.iload_n 1, 1) := by decide +kernel
theorem dX7_arcBehind_18 : decode cX7_arcBehind 18 = .ok (.iload 4, 2) := by decide +kernel
theorem dX7_arcBehind_20 : decode cX7_arcBehind 20 = .ok (.invokevirtual 181, 3) := by decide +kernel
theorem dX7_arcBehind_23 : decode cX7_arcBehind 23 = .ok (.iload_n 2, 1) := by decide +kernel
theorem dX7_arcBehind_24 : decode cX7_arcBehind 24 = .ok (.if_icmp .eq 9, 3) := by decide +kernel
theorem dX7_arcBehind_27 : decode cX7_arcBehind 27 = .ok (.iinc 4 1, 3) := by decide +kernel
theorem dX7_arcBehind_30 : decode cX7_arcBehind 30 = .ok (.goto (-25), 3) := by decide +kernel
theorem dX7_arcBehind_33 : decode cX7_arcBehind 33 = .ok (.iload 4, 2) := by decide +kernel
theorem dX7_arcBehind_35 : decode cX7_arcBehind 35 = .ok (.aload_n 0, 1) := by decide +kernel
theorem dX7_arcBehind_36 : decode cX7_arcBehind 36 = .ok (.getfield 35, 3) := by decide +kernel
theorem dX7_arcBehind_39 : decode cX7_arcBehind 39 = .ok (.iload_n 1, 1) := by decide +kernel
theorem dX7_arcBehind_40 : decode cX7_arcBehind 40 = .ok (.iaload, 1) := by decide +kernel
theorem dX7_arcBehind_41 : decode cX7_arcBehind 41 = .ok (.if_icmp .ge 8, 3) := by decide +kernel
theorem dX7_arcBehind_44 : decode cX7_arcBehind 44 = .ok (.iload 4, 2) := by decide +kernel
theorem dX7_arcBehind_46 : decode cX7_arcBehind 46 = .ok (.goto 4, 3) := by decide +kernel
theorem dX7_arcBehind_49 : decode cX7_arcBehind 49 = .ok (.iconst (-1), 1) := by decide +kernel
theorem dX7_arcBehind_50 : decode cX7_arcBehind 50 = .ok (.ireturn, 1) := by decide +kernel
theorem q121_0 : pm_V d 121 0 [l0, l1, l2, .int xi, l4] st S Q = pm_V d 121 1 [l0, l1, l2, .int xi, l4] (.int xi :: st) S Q := pv_iload_n (pm_cdi rfl dX7_arcBehind_0) rfl
theorem q121_1 : pm_V d 121 1 [l0, l1, l2, l3, l4] st S Q = pm_V d 121 2 [l0, l1, l2, l3, l4] (.int 1 :: st) S Q := pv_iconst (pm_cdi rfl dX7_arcBehind_1) (by decide +kernel)
theorem q121_2 : pm_V d 121 2 [l0, l1, l2, l3, l4] (.int yi :: .int xi :: st) S Q = pm_V d 121 3 [l0, l1, l2, l3, l4] (.int (xi + yi) :: st) S Q := pv_iadd (pm_cdi rfl dX7_arcBehind_2)
theorem q121_3 : pm_V d 121 3 [l0, l1, l2, .int yi, l4] (.int xi :: st) S Q = pm_V d 121 5 [l0, l1, l2, .int yi, .int xi] st S Q := pv_istore (pm_cdi rfl dX7_arcBehind_3) rfl
theorem q121_5 : pm_V d 121 5 [l0, l1, l2, l3, .int xi] st S Q = pm_V d 121 7 [l0, l1, l2, l3, .int xi] (.int xi :: st) S Q := pv_iload (pm_cdi rfl dX7_arcBehind_5) rfl
theorem q121_7 : pm_V d 121 7 [.ref xn, l1, l2, l3, l4] st S Q = pm_V d 121 8 [.ref xn, l1, l2, l3, l4] (.ref xn :: st) S Q := pv_aload_n (pm_cdi rfl dX7_arcBehind_7) rfl
theorem q121_8 (hs : pm_sh S an = .inr 7) : pm_V d 121 8 [l0, l1, l2, l3, l4] (.ref an :: st) S Q = pm_V d 121 11 [l0, l1, l2, l3, l4] (va_rf (pm_gr S an 9) :: st) S Q := pv_getA (pm_cdi rfl dX7_arcBehind_8) (by decide +kernel) (by decide +kernel) (by decide +kernel) hs
theorem q121_11 : pm_V d 121 11 [l0, .int xi, l2, l3, l4] st S Q = pm_V d 121 12 [l0, .int xi, l2, l3, l4] (.int xi :: st) S Q := pv_iload_n (pm_cdi rfl dX7_arcBehind_11) rfl
theorem q121_12 (hs : pm_ar S an 0 xi = true) : pm_V d 121 12 [l0, l1, l2, l3, l4] (.int xi :: .ref an :: st) S Q = pm_V d 121 13 [l0, l1, l2, l3, l4] (.int (pm_zi S an xi.toNatClampNeg) :: st) S Q := pv_iald (pm_cdi rfl dX7_arcBehind_12) hs
theorem q121_13 : pm_V d 121 13 [l0, l1, l2, l3, l4] (.int yi :: .int xi :: st) S Q = if xi < yi then pm_V d 121 16 [l0, l1, l2, l3, l4] st S Q else pm_V d 121 33 [l0, l1, l2, l3, l4] st S Q := pv_icmp_ge (pm_cdi rfl dX7_arcBehind_13) rfl
theorem q121_16 : pm_V d 121 16 [.ref xn, l1, l2, l3, l4] st S Q = pm_V d 121 17 [.ref xn, l1, l2, l3, l4] (.ref xn :: st) S Q := pv_aload_n (pm_cdi rfl dX7_arcBehind_16) rfl
theorem q121_17 : pm_V d 121 17 [l0, .int xi, l2, l3, l4] st S Q = pm_V d 121 18 [l0, .int xi, l2, l3, l4] (.int xi :: st) S Q := pv_iload_n (pm_cdi rfl dX7_arcBehind_17) rfl
theorem q121_18 : pm_V d 121 18 [l0, l1, l2, l3, .int xi] st S Q = pm_V d 121 20 [l0, l1, l2, l3, .int xi] (.int xi :: st) S Q := pv_iload (pm_cdi rfl dX7_arcBehind_18) rfl
theorem q121_20 (hs : pm_sh S an = .inr 7) : pm_V (d + 1) 121 20 [l0, l1, l2, l3, l4] [.int v1i, .int v0i, .ref an] S Q = pm_N d 104 [.ref an, .int v0i, .int v1i] S (fun r S' => pm_V (d + 1) 121 23 [l0, l1, l2, l3, l4] (r.toList ++ []) S' Q) := pv_callV (as := [.int v0i, .int v1i]) (pm_cdi rfl dX7_arcBehind_20) (Or.inl (by decide +kernel)) (by decide +kernel) (show _ = _ from (by decide +kernel : 2 = pm_np 104)) rfl (Nat.le_of_ble_eq_true rfl) (cl := 7) (by decide +kernel) hs
theorem q121_23 : pm_V d 121 23 [l0, l1, .int xi, l3, l4] st S Q = pm_V d 121 24 [l0, l1, .int xi, l3, l4] (.int xi :: st) S Q := pv_iload_n (pm_cdi rfl dX7_arcBehind_23) rfl
theorem q121_24 : pm_V d 121 24 [l0, l1, l2, l3, l4] (.int yi :: .int xi :: st) S Q = if xi = yi then pm_V d 121 33 [l0, l1, l2, l3, l4] st S Q else pm_V d 121 27 [l0, l1, l2, l3, l4] st S Q := pv_icmp_eq (pm_cdi rfl dX7_arcBehind_24) rfl
theorem q121_27 : pm_V d 121 27 [l0, l1, l2, .int yi, .int xi] st S Q = pm_V d 121 30 [l0, l1, l2, .int yi, .int (xi + 1)] st S Q := pv_iinc (pm_cdi rfl dX7_arcBehind_27) rfl (by decide +kernel) rfl
theorem q121_30 : pm_V d 121 30 [l0, l1, l2, l3, l4] st S Q = pm_V d 121 5 [l0, l1, l2, l3, l4] st S Q := pv_goto (pm_cdi rfl dX7_arcBehind_30) rfl
theorem q121_33 : pm_V d 121 33 [l0, l1, l2, l3, .int xi] st S Q = pm_V d 121 35 [l0, l1, l2, l3, .int xi] (.int xi :: st) S Q := pv_iload (pm_cdi rfl dX7_arcBehind_33) rfl
theorem q121_35 : pm_V d 121 35 [.ref xn, l1, l2, l3, l4] st S Q = pm_V d 121 36 [.ref xn, l1, l2, l3, l4] (.ref xn :: st) S Q := pv_aload_n (pm_cdi rfl dX7_arcBehind_35) rfl
theorem q121_36 (hs : pm_sh S an = .inr 7) : pm_V d 121 36 [l0, l1, l2, l3, l4] (.ref an :: st) S Q = pm_V d 121 39 [l0, l1, l2, l3, l4] (va_rf (pm_gr S an 9) :: st) S Q := pv_getA (pm_cdi rfl dX7_arcBehind_36) (by decide +kernel) (by decide +kernel) (by decide +kernel) hs
theorem q121_39 : pm_V d 121 39 [l0, .int xi, l2, l3, l4] st S Q = pm_V d 121 40 [l0, .int xi, l2, l3, l4] (.int xi :: st) S Q := pv_iload_n (pm_cdi rfl dX7_arcBehind_39) rfl
theorem q121_40 (hs : pm_ar S an 0 xi = true) : pm_V d 121 40 [l0, l1, l2, l3, l4] (.int xi :: .ref an :: st) S Q = pm_V d 121 41 [l0, l1, l2, l3, l4] (.int (pm_zi S an xi.toNatClampNeg) :: st) S Q := pv_iald (pm_cdi rfl dX7_arcBehind_40) hs
theorem q121_41 : pm_V d 121 41 [l0, l1, l2, l3, l4] (.int yi :: .int xi :: st) S Q = if xi < yi then pm_V d 121 44 [l0, l1, l2, l3, l4] st S Q else pm_V d 121 49 [l0, l1, l2, l3, l4] st S Q := pv_icmp_ge (pm_cdi rfl dX7_arcBehind_41) rfl
theorem q121_44 : pm_V d 121 44 [l0, l1, l2, l3, .int xi] st S Q = pm_V d 121 46 [l0, l1, l2, l3, .int xi] (.int xi :: st) S Q := pv_iload (pm_cdi rfl dX7_arcBehind_44) rfl
theorem q121_46 : pm_V d 121 46 [l0, l1, l2, l3, l4] st S Q = pm_V d 121 50 [l0, l1, l2, l3, l4] st S Q := pv_goto (pm_cdi rfl dX7_arcBehind_46) rfl
theorem q121_49 : pm_V d 121 49 [l0, l1, l2, l3, l4] st S Q = pm_V d 121 50 [l0, l1, l2, l3, l4] (.int (-1) :: st) S Q := pv_iconst (pm_cdi rfl dX7_arcBehind_49) (by decide +kernel)
theorem q121_50 : pm_V d 121 50 [l0, l1, l2, l3, l4] [.int xi] S Q = Q (some (.int xi)) S := pv_rI (pm_cdi rfl dX7_arcBehind_50) (by decide +kernel)
theorem q121_e : pm_N d 121 [.ref an, .int v0i, .int v1i, .int v2i] S Q = pm_V d 121 0 [.ref an, .int v0i, .int v1i, .int v2i, pm_j] [] S Q := pv_ent (Nat.le_of_ble_eq_true rfl) rfl
/-! 122: ViewsJoinsModel.asked(IIII)I -/
theorem dX7_asked_0 : decode cX7_asked 0 = .ok (.aload_n 0, 1) := by decide +kernel
theorem dX7_asked_1 : decode cX7_asked 1 = .ok (.iconst 0, 1) := by decide +kernel
theorem dX7_asked_2 : decode cX7_asked 2 = .ok (.putfield 235, 3) := by decide +kernel
theorem dX7_asked_5 : decode cX7_asked 5 = .ok (.aload_n 0, 1) := by decide +kernel
theorem dX7_asked_6 : decode cX7_asked 6 = .ok (.iload 4, 2) := by decide +kernel
theorem dX7_asked_8 : decode cX7_asked 8 = .ok (.iload_n 2, 1) := by decide +kernel
theorem dX7_asked_9 : decode cX7_asked 9 = .ok (.iload_n 3, 1) := by decide +kernel
theorem dX7_asked_10 : decode cX7_asked 10 = .ok (.invokevirtual 238, 3) := by decide +kernel
theorem dX7_asked_13 : decode cX7_asked 13 = .ok (.iconst (-1), 1) := by decide +kernel
theorem dX7_asked_14 : decode cX7_asked 14 = .ok (.istore 5, 2) := by decide +kernel
theorem dX7_asked_16 : decode cX7_asked 16 = .ok (.aload_n 0, 1) := by decide +kernel
theorem dX7_asked_17 : decode cX7_asked 17 = .ok (.getfield 235, 3) := by decide +kernel
theorem dX7_asked_20 : decode cX7_asked 20 = .ok (.ifCond .le 57, 3) := by decide +kernel
theorem dX7_asked_23 : decode cX7_asked 23 = .ok (.iload 5, 2) := by decide +kernel
theorem dX7_asked_25 : decode cX7_asked 25 = .ok (.ifCond .ge 11, 3) := by decide +kernel
theorem dX7_asked_28 : decode cX7_asked 28 = .ok (.aload_n 0, 1) := by decide +kernel
theorem dX7_asked_29 : decode cX7_asked 29 = .ok (.iload_n 1, 1) := by decide +kernel
theorem dX7_asked_30 : decode cX7_asked 30 = .ok (.invokevirtual 241, 3) := by decide +kernel
theorem dX7_asked_33 : decode cX7_asked 33 = .ok (.goto 10, 3) := by decide +kernel
theorem dX7_asked_36 : decode cX7_asked 36 = .ok (.aload_n 0, 1) := by decide +kernel
theorem dX7_asked_37 : decode cX7_asked 37 = .ok (.iload_n 1, 1) := by decide +kernel
theorem dX7_asked_38 : decode cX7_asked 38 = .ok (.iload 5, 2) := by decide +kernel
theorem dX7_asked_40 : decode cX7_asked 40 = .ok (.invokevirtual 245, 3) := by decide +kernel
theorem dX7_asked_43 : decode cX7_asked 43 = .ok (.istore 5, 2) := by decide +kernel
theorem dX7_asked_45 : decode cX7_asked 45 = .ok (.iload 5, 2) := by decide +kernel
theorem dX7_asked_47 : decode cX7_asked 47 = .ok (.bipush 15, 2) := by decide +kernel
theorem dX7_asked_49 : decode cX7_asked 49 = .ok (.if_icmp .ne 6, 3) := by decide +kernel
theorem dX7_asked_52 : decode cX7_asked 52 = .ok (.iload 5, 2) := by decide +kernel
theorem dX7_asked_54 : decode cX7_asked 54 = .ok (.ireturn, 1) := by decide +kernel
theorem dX7_asked_55 : decode cX7_asked 55 = .ok (.aload_n 0, 1) := by decide +kernel
theorem dX7_asked_56 : decode cX7_asked 56 = .ok (.dup, 1) := by decide +kernel
theorem dX7_asked_57 : decode cX7_asked 57 = .ok (.getfield 235, 3) := by decide +kernel
theorem dX7_asked_60 : decode cX7_asked 60 = .ok (.iload 5, 2) := by decide +kernel
theorem dX7_asked_62 : decode cX7_asked 62 = .ok (.ifCond .lt 7, 3) := by decide +kernel
theorem dX7_asked_65 : decode cX7_asked 65 = .ok (.iconst 1, 1) := by decide +kernel
theorem dX7_asked_66 : decode cX7_asked 66 = .ok (.goto 4, 3) := by decide +kernel
theorem dX7_asked_69 : decode cX7_asked 69 = .ok (.iconst 0, 1) := by decide +kernel
theorem dX7_asked_70 : decode cX7_asked 70 = .ok (.isub, 1) := by decide +kernel
theorem dX7_asked_71 : decode cX7_asked 71 = .ok (.putfield 235, 3) := by decide +kernel
theorem dX7_asked_74 : decode cX7_asked 74 = .ok (.goto (-58), 3) := by decide +kernel
theorem dX7_asked_77 : decode cX7_asked 77 = .ok (.iload 5, 2) := by decide +kernel
theorem dX7_asked_79 : decode cX7_asked 79 = .ok (.ireturn, 1) := by decide +kernel
theorem q122_0 : pm_V d 122 0 [.ref xn, l1, l2, l3, l4, l5] st S Q = pm_V d 122 1 [.ref xn, l1, l2, l3, l4, l5] (.ref xn :: st) S Q := pv_aload_n (pm_cdi rfl dX7_asked_0) rfl
theorem q122_1 : pm_V d 122 1 [l0, l1, l2, l3, l4, l5] st S Q = pm_V d 122 2 [l0, l1, l2, l3, l4, l5] (.int 0 :: st) S Q := pv_iconst (pm_cdi rfl dX7_asked_1) (by decide +kernel)
theorem q122_2 (hs : pm_sh S an = .inr 7) : pm_V d 122 2 [l0, l1, l2, l3, l4, l5] (.int xi :: .ref an :: st) S Q = pm_V d 122 5 [l0, l1, l2, l3, l4, l5] st (pm_sgi S an 35 xi) Q := pv_putI (pm_cdi rfl dX7_asked_2) (by decide +kernel) (by decide +kernel) (by decide +kernel) hs
theorem q122_5 : pm_V d 122 5 [.ref xn, l1, l2, l3, l4, l5] st S Q = pm_V d 122 6 [.ref xn, l1, l2, l3, l4, l5] (.ref xn :: st) S Q := pv_aload_n (pm_cdi rfl dX7_asked_5) rfl
theorem q122_6 : pm_V d 122 6 [l0, l1, l2, l3, .int xi, l5] st S Q = pm_V d 122 8 [l0, l1, l2, l3, .int xi, l5] (.int xi :: st) S Q := pv_iload (pm_cdi rfl dX7_asked_6) rfl
theorem q122_8 : pm_V d 122 8 [l0, l1, .int xi, l3, l4, l5] st S Q = pm_V d 122 9 [l0, l1, .int xi, l3, l4, l5] (.int xi :: st) S Q := pv_iload_n (pm_cdi rfl dX7_asked_8) rfl
theorem q122_9 : pm_V d 122 9 [l0, l1, l2, .int xi, l4, l5] st S Q = pm_V d 122 10 [l0, l1, l2, .int xi, l4, l5] (.int xi :: st) S Q := pv_iload_n (pm_cdi rfl dX7_asked_9) rfl
theorem q122_10 (hs : pm_sh S an = .inr 7) : pm_V (d + 1) 122 10 [l0, l1, l2, l3, l4, l5] [.int v2i, .int v1i, .int v0i, .ref an] S Q = pm_N d 120 [.ref an, .int v0i, .int v1i, .int v2i] S (fun r S' => pm_V (d + 1) 122 13 [l0, l1, l2, l3, l4, l5] (r.toList ++ []) S' Q) := pv_callV (as := [.int v0i, .int v1i, .int v2i]) (pm_cdi rfl dX7_asked_10) (Or.inl (by decide +kernel)) (by decide +kernel) (show _ = _ from (by decide +kernel : 3 = pm_np 120)) rfl (Nat.le_of_ble_eq_true rfl) (cl := 7) (by decide +kernel) hs
theorem q122_13 : pm_V d 122 13 [l0, l1, l2, l3, l4, l5] st S Q = pm_V d 122 14 [l0, l1, l2, l3, l4, l5] (.int (-1) :: st) S Q := pv_iconst (pm_cdi rfl dX7_asked_13) (by decide +kernel)
theorem q122_14 : pm_V d 122 14 [l0, l1, l2, l3, .int yi, l5] (.int xi :: st) S Q = pm_V d 122 16 [l0, l1, l2, l3, .int yi, .int xi] st S Q := pv_istore (pm_cdi rfl dX7_asked_14) rfl
theorem q122_16 : pm_V d 122 16 [.ref xn, l1, l2, l3, l4, l5] st S Q = pm_V d 122 17 [.ref xn, l1, l2, l3, l4, l5] (.ref xn :: st) S Q := pv_aload_n (pm_cdi rfl dX7_asked_16) rfl
theorem q122_17 (hs : pm_sh S an = .inr 7) : pm_V d 122 17 [l0, l1, l2, l3, l4, l5] (.ref an :: st) S Q = pm_V d 122 20 [l0, l1, l2, l3, l4, l5] (.int (pm_gi S an 35) :: st) S Q := pv_getI (pm_cdi rfl dX7_asked_17) (by decide +kernel) (by decide +kernel) (by decide +kernel) hs
theorem q122_20 : pm_V d 122 20 [l0, l1, l2, l3, l4, l5] (.int xi :: st) S Q = if xi ≤ 0 then pm_V d 122 77 [l0, l1, l2, l3, l4, l5] st S Q else pm_V d 122 23 [l0, l1, l2, l3, l4, l5] st S Q := pv_if_le (pm_cdi rfl dX7_asked_20) rfl
theorem q122_23 : pm_V d 122 23 [l0, l1, l2, l3, l4, .int xi] st S Q = pm_V d 122 25 [l0, l1, l2, l3, l4, .int xi] (.int xi :: st) S Q := pv_iload (pm_cdi rfl dX7_asked_23) rfl
theorem q122_25 : pm_V d 122 25 [l0, l1, l2, l3, l4, l5] (.int xi :: st) S Q = if xi < 0 then pm_V d 122 28 [l0, l1, l2, l3, l4, l5] st S Q else pm_V d 122 36 [l0, l1, l2, l3, l4, l5] st S Q := pv_if_ge (pm_cdi rfl dX7_asked_25) rfl
theorem q122_28 : pm_V d 122 28 [.ref xn, l1, l2, l3, l4, l5] st S Q = pm_V d 122 29 [.ref xn, l1, l2, l3, l4, l5] (.ref xn :: st) S Q := pv_aload_n (pm_cdi rfl dX7_asked_28) rfl
theorem q122_29 : pm_V d 122 29 [l0, .int xi, l2, l3, l4, l5] st S Q = pm_V d 122 30 [l0, .int xi, l2, l3, l4, l5] (.int xi :: st) S Q := pv_iload_n (pm_cdi rfl dX7_asked_29) rfl
theorem q122_30 (hs : pm_sh S an = .inr 7) : pm_V (d + 1) 122 30 [l0, l1, l2, l3, l4, l5] [.int v0i, .ref an] S Q = pm_N d 124 [.ref an, .int v0i] S (fun r S' => pm_V (d + 1) 122 33 [l0, l1, l2, l3, l4, l5] (r.toList ++ []) S' Q) := pv_callV (as := [.int v0i]) (pm_cdi rfl dX7_asked_30) (Or.inl (by decide +kernel)) (by decide +kernel) (show _ = _ from (by decide +kernel : 1 = pm_np 124)) rfl (Nat.le_of_ble_eq_true rfl) (cl := 7) (by decide +kernel) hs
theorem q122_33 : pm_V d 122 33 [l0, l1, l2, l3, l4, l5] st S Q = pm_V d 122 43 [l0, l1, l2, l3, l4, l5] st S Q := pv_goto (pm_cdi rfl dX7_asked_33) rfl
theorem q122_36 : pm_V d 122 36 [.ref xn, l1, l2, l3, l4, l5] st S Q = pm_V d 122 37 [.ref xn, l1, l2, l3, l4, l5] (.ref xn :: st) S Q := pv_aload_n (pm_cdi rfl dX7_asked_36) rfl
theorem q122_37 : pm_V d 122 37 [l0, .int xi, l2, l3, l4, l5] st S Q = pm_V d 122 38 [l0, .int xi, l2, l3, l4, l5] (.int xi :: st) S Q := pv_iload_n (pm_cdi rfl dX7_asked_37) rfl
theorem q122_38 : pm_V d 122 38 [l0, l1, l2, l3, l4, .int xi] st S Q = pm_V d 122 40 [l0, l1, l2, l3, l4, .int xi] (.int xi :: st) S Q := pv_iload (pm_cdi rfl dX7_asked_38) rfl
theorem q122_40 (hs : pm_sh S an = .inr 7) : pm_V (d + 1) 122 40 [l0, l1, l2, l3, l4, l5] [.int v1i, .int v0i, .ref an] S Q = pm_N d 127 [.ref an, .int v0i, .int v1i] S (fun r S' => pm_V (d + 1) 122 43 [l0, l1, l2, l3, l4, l5] (r.toList ++ []) S' Q) := pv_callV (as := [.int v0i, .int v1i]) (pm_cdi rfl dX7_asked_40) (Or.inl (by decide +kernel)) (by decide +kernel) (show _ = _ from (by decide +kernel : 2 = pm_np 127)) rfl (Nat.le_of_ble_eq_true rfl) (cl := 7) (by decide +kernel) hs
theorem q122_43 : pm_V d 122 43 [l0, l1, l2, l3, .int yi, l5] (.int xi :: st) S Q = pm_V d 122 45 [l0, l1, l2, l3, .int yi, .int xi] st S Q := pv_istore (pm_cdi rfl dX7_asked_43) rfl
theorem q122_45 : pm_V d 122 45 [l0, l1, l2, l3, l4, .int xi] st S Q = pm_V d 122 47 [l0, l1, l2, l3, l4, .int xi] (.int xi :: st) S Q := pv_iload (pm_cdi rfl dX7_asked_45) rfl
theorem q122_47 : pm_V d 122 47 [l0, l1, l2, l3, l4, l5] st S Q = pm_V d 122 49 [l0, l1, l2, l3, l4, l5] (.int 15 :: st) S Q := pv_bipush (pm_cdi rfl dX7_asked_47) (by decide +kernel)
theorem q122_49 : pm_V d 122 49 [l0, l1, l2, l3, l4, l5] (.int yi :: .int xi :: st) S Q = if xi = yi then pm_V d 122 52 [l0, l1, l2, l3, l4, l5] st S Q else pm_V d 122 55 [l0, l1, l2, l3, l4, l5] st S Q := pv_icmp_ne (pm_cdi rfl dX7_asked_49) rfl
theorem q122_52 : pm_V d 122 52 [l0, l1, l2, l3, l4, .int xi] st S Q = pm_V d 122 54 [l0, l1, l2, l3, l4, .int xi] (.int xi :: st) S Q := pv_iload (pm_cdi rfl dX7_asked_52) rfl
theorem q122_54 : pm_V d 122 54 [l0, l1, l2, l3, l4, l5] [.int xi] S Q = Q (some (.int xi)) S := pv_rI (pm_cdi rfl dX7_asked_54) (by decide +kernel)
theorem q122_55 : pm_V d 122 55 [.ref xn, l1, l2, l3, l4, l5] st S Q = pm_V d 122 56 [.ref xn, l1, l2, l3, l4, l5] (.ref xn :: st) S Q := pv_aload_n (pm_cdi rfl dX7_asked_55) rfl
theorem q122_56 : pm_V d 122 56 [l0, l1, l2, l3, l4, l5] (.ref xn :: st) S Q = pm_V d 122 57 [l0, l1, l2, l3, l4, l5] (.ref xn :: .ref xn :: st) S Q := pv_dupA (pm_cdi rfl dX7_asked_56)
theorem q122_57 (hs : pm_sh S an = .inr 7) : pm_V d 122 57 [l0, l1, l2, l3, l4, l5] (.ref an :: st) S Q = pm_V d 122 60 [l0, l1, l2, l3, l4, l5] (.int (pm_gi S an 35) :: st) S Q := pv_getI (pm_cdi rfl dX7_asked_57) (by decide +kernel) (by decide +kernel) (by decide +kernel) hs
theorem q122_60 : pm_V d 122 60 [l0, l1, l2, l3, l4, .int xi] st S Q = pm_V d 122 62 [l0, l1, l2, l3, l4, .int xi] (.int xi :: st) S Q := pv_iload (pm_cdi rfl dX7_asked_60) rfl
theorem q122_62 : pm_V d 122 62 [l0, l1, l2, l3, l4, l5] (.int xi :: st) S Q = if xi < 0 then pm_V d 122 69 [l0, l1, l2, l3, l4, l5] st S Q else pm_V d 122 65 [l0, l1, l2, l3, l4, l5] st S Q := pv_if_lt (pm_cdi rfl dX7_asked_62) rfl
theorem q122_65 : pm_V d 122 65 [l0, l1, l2, l3, l4, l5] st S Q = pm_V d 122 66 [l0, l1, l2, l3, l4, l5] (.int 1 :: st) S Q := pv_iconst (pm_cdi rfl dX7_asked_65) (by decide +kernel)
theorem q122_66 : pm_V d 122 66 [l0, l1, l2, l3, l4, l5] st S Q = pm_V d 122 70 [l0, l1, l2, l3, l4, l5] st S Q := pv_goto (pm_cdi rfl dX7_asked_66) rfl
theorem q122_69 : pm_V d 122 69 [l0, l1, l2, l3, l4, l5] st S Q = pm_V d 122 70 [l0, l1, l2, l3, l4, l5] (.int 0 :: st) S Q := pv_iconst (pm_cdi rfl dX7_asked_69) (by decide +kernel)
theorem q122_70 : pm_V d 122 70 [l0, l1, l2, l3, l4, l5] (.int yi :: .int xi :: st) S Q = pm_V d 122 71 [l0, l1, l2, l3, l4, l5] (.int (xi - yi) :: st) S Q := pv_isub (pm_cdi rfl dX7_asked_70)
theorem q122_71 (hs : pm_sh S an = .inr 7) : pm_V d 122 71 [l0, l1, l2, l3, l4, l5] (.int xi :: .ref an :: st) S Q = pm_V d 122 74 [l0, l1, l2, l3, l4, l5] st (pm_sgi S an 35 xi) Q := pv_putI (pm_cdi rfl dX7_asked_71) (by decide +kernel) (by decide +kernel) (by decide +kernel) hs
theorem q122_74 : pm_V d 122 74 [l0, l1, l2, l3, l4, l5] st S Q = pm_V d 122 16 [l0, l1, l2, l3, l4, l5] st S Q := pv_goto (pm_cdi rfl dX7_asked_74) rfl
theorem q122_77 : pm_V d 122 77 [l0, l1, l2, l3, l4, .int xi] st S Q = pm_V d 122 79 [l0, l1, l2, l3, l4, .int xi] (.int xi :: st) S Q := pv_iload (pm_cdi rfl dX7_asked_77) rfl
theorem q122_79 : pm_V d 122 79 [l0, l1, l2, l3, l4, l5] [.int xi] S Q = Q (some (.int xi)) S := pv_rI (pm_cdi rfl dX7_asked_79) (by decide +kernel)
theorem q122_e : pm_N d 122 [.ref an, .int v0i, .int v1i, .int v2i, .int v3i] S Q = pm_V d 122 0 [.ref an, .int v0i, .int v1i, .int v2i, .int v3i, pm_j] [] S Q := pv_ent (Nat.le_of_ble_eq_true rfl) rfl
/-! 123: ViewsJoinsModel.fails(I)I -/
theorem dX7_fails_0 : decode cX7_fails 0 = .ok (.aload_n 0, 1) := by decide +kernel
theorem dX7_fails_1 : decode cX7_fails 1 = .ok (.dup, 1) := by decide +kernel
theorem dX7_fails_2 : decode cX7_fails 2 = .ok (.getfield 195, 3) := by decide +kernel
theorem dX7_fails_5 : decode cX7_fails 5 = .ok (.iconst 1, 1) := by decide +kernel
theorem dX7_fails_6 : decode cX7_fails 6 = .ok (.iadd, 1) := by decide +kernel
theorem dX7_fails_7 : decode cX7_fails 7 = .ok (.putfield 195, 3) := by decide +kernel
theorem dX7_fails_10 : decode cX7_fails 10 = .ok (.bipush 10, 2) := by decide +kernel
theorem dX7_fails_12 : decode cX7_fails 12 = .ok (.aload_n 0, 1) := by decide +kernel
theorem dX7_fails_13 : decode cX7_fails 13 = .ok (.getfield 195, 3) := by decide +kernel
theorem dX7_fails_16 : decode cX7_fails 16 = .ok (.bipush 9, 2) := by decide +kernel
theorem dX7_fails_18 : decode cX7_fails 18 = .ok (.if_icmp .ne 7, 3) := by decide +kernel
theorem dX7_fails_21 : decode cX7_fails 21 = .ok (.iconst 5, 1) := by decide +kernel
theorem dX7_fails_22 : decode cX7_fails 22 = .ok (.goto 4, 3) := by decide +kernel
theorem dX7_fails_25 : decode cX7_fails 25 = .ok (.iload_n 1, 1) := by decide +kernel
theorem dX7_fails_26 : decode cX7_fails 26 = .ok (.iadd, 1) := by decide +kernel
theorem dX7_fails_27 : decode cX7_fails 27 = .ok (.ireturn, 1) := by decide +kernel
theorem q123_0 : pm_V d 123 0 [.ref xn, l1] st S Q = pm_V d 123 1 [.ref xn, l1] (.ref xn :: st) S Q := pv_aload_n (pm_cdi rfl dX7_fails_0) rfl
theorem q123_1 : pm_V d 123 1 [l0, l1] (.ref xn :: st) S Q = pm_V d 123 2 [l0, l1] (.ref xn :: .ref xn :: st) S Q := pv_dupA (pm_cdi rfl dX7_fails_1)
theorem q123_2 (hs : pm_sh S an = .inr 7) : pm_V d 123 2 [l0, l1] (.ref an :: st) S Q = pm_V d 123 5 [l0, l1] (.int (pm_gi S an 30) :: st) S Q := pv_getI (pm_cdi rfl dX7_fails_2) (by decide +kernel) (by decide +kernel) (by decide +kernel) hs
theorem q123_5 : pm_V d 123 5 [l0, l1] st S Q = pm_V d 123 6 [l0, l1] (.int 1 :: st) S Q := pv_iconst (pm_cdi rfl dX7_fails_5) (by decide +kernel)
theorem q123_6 : pm_V d 123 6 [l0, l1] (.int yi :: .int xi :: st) S Q = pm_V d 123 7 [l0, l1] (.int (xi + yi) :: st) S Q := pv_iadd (pm_cdi rfl dX7_fails_6)
theorem q123_7 (hs : pm_sh S an = .inr 7) : pm_V d 123 7 [l0, l1] (.int xi :: .ref an :: st) S Q = pm_V d 123 10 [l0, l1] st (pm_sgi S an 30 xi) Q := pv_putI (pm_cdi rfl dX7_fails_7) (by decide +kernel) (by decide +kernel) (by decide +kernel) hs
theorem q123_10 : pm_V d 123 10 [l0, l1] st S Q = pm_V d 123 12 [l0, l1] (.int 10 :: st) S Q := pv_bipush (pm_cdi rfl dX7_fails_10) (by decide +kernel)
theorem q123_12 : pm_V d 123 12 [.ref xn, l1] st S Q = pm_V d 123 13 [.ref xn, l1] (.ref xn :: st) S Q := pv_aload_n (pm_cdi rfl dX7_fails_12) rfl
theorem q123_13 (hs : pm_sh S an = .inr 7) : pm_V d 123 13 [l0, l1] (.ref an :: st) S Q = pm_V d 123 16 [l0, l1] (.int (pm_gi S an 30) :: st) S Q := pv_getI (pm_cdi rfl dX7_fails_13) (by decide +kernel) (by decide +kernel) (by decide +kernel) hs
theorem q123_16 : pm_V d 123 16 [l0, l1] st S Q = pm_V d 123 18 [l0, l1] (.int 9 :: st) S Q := pv_bipush (pm_cdi rfl dX7_fails_16) (by decide +kernel)
theorem q123_18 : pm_V d 123 18 [l0, l1] (.int yi :: .int xi :: st) S Q = if xi = yi then pm_V d 123 21 [l0, l1] st S Q else pm_V d 123 25 [l0, l1] st S Q := pv_icmp_ne (pm_cdi rfl dX7_fails_18) rfl
theorem q123_21 : pm_V d 123 21 [l0, l1] st S Q = pm_V d 123 22 [l0, l1] (.int 5 :: st) S Q := pv_iconst (pm_cdi rfl dX7_fails_21) (by decide +kernel)
theorem q123_22 : pm_V d 123 22 [l0, l1] st S Q = pm_V d 123 26 [l0, l1] st S Q := pv_goto (pm_cdi rfl dX7_fails_22) rfl
theorem q123_25 : pm_V d 123 25 [l0, .int xi] st S Q = pm_V d 123 26 [l0, .int xi] (.int xi :: st) S Q := pv_iload_n (pm_cdi rfl dX7_fails_25) rfl
theorem q123_26 : pm_V d 123 26 [l0, l1] (.int yi :: .int xi :: st) S Q = pm_V d 123 27 [l0, l1] (.int (xi + yi) :: st) S Q := pv_iadd (pm_cdi rfl dX7_fails_26)
theorem q123_27 : pm_V d 123 27 [l0, l1] [.int xi] S Q = Q (some (.int xi)) S := pv_rI (pm_cdi rfl dX7_fails_27) (by decide +kernel)
theorem q123_e : pm_N d 123 [.ref an, .int v0i] S Q = pm_V d 123 0 [.ref an, .int v0i] [] S Q := pv_ent (Nat.le_of_ble_eq_true rfl) rfl
/-! 124: ViewsJoinsModel.begins(I)I -/
theorem dX7_begins_0 : decode cX7_begins 0 = .ok (.aload_n 0, 1) := by decide +kernel
theorem dX7_begins_1 : decode cX7_begins 1 = .ok (.getfield 235, 3) := by decide +kernel
theorem dX7_begins_4 : decode cX7_begins 4 = .ok (.iconst 1, 1) := by decide +kernel
theorem dX7_begins_5 : decode cX7_begins 5 = .ok (.isub, 1) := by decide +kernel
theorem dX7_begins_6 : decode cX7_begins 6 = .ok (.istore_n 2, 1) := by decide +kernel
theorem dX7_begins_7 : decode cX7_begins 7 = .ok (.aload_n 0, 1) := by decide +kernel
theorem dX7_begins_8 : decode cX7_begins 8 = .ok (.getfield 93, 3) := by decide +kernel
theorem dX7_begins_11 : decode cX7_begins 11 = .ok (.iload_n 2, 1) := by decide +kernel
theorem dX7_begins_12 : decode cX7_begins 12 = .ok (.iaload, 1) := by decide +kernel
theorem dX7_begins_13 : decode cX7_begins 13 = .ok (.istore_n 3, 1) := by decide +kernel
theorem dX7_begins_14 : decode cX7_begins 14 = .ok (.aload_n 0, 1) := by decide +kernel
theorem dX7_begins_15 : decode cX7_begins 15 = .ok (.getfield 96, 3) := by decide +kernel
theorem dX7_begins_18 : decode cX7_begins 18 = .ok (.iload_n 2, 1) := by decide +kernel
theorem dX7_begins_19 : decode cX7_begins 19 = .ok (.iaload, 1) := by decide +kernel
theorem dX7_begins_20 : decode cX7_begins 20 = .ok (.istore 4, 2) := by decide +kernel
theorem dX7_begins_22 : decode cX7_begins 22 = .ok (.aload_n 0, 1) := by decide +kernel
theorem dX7_begins_23 : decode cX7_begins 23 = .ok (.getfield 99, 3) := by decide +kernel
theorem dX7_begins_26 : decode cX7_begins 26 = .ok (.iload_n 2, 1) := by decide +kernel
theorem dX7_begins_27 : decode cX7_begins 27 = .ok (.iaload, 1) := by decide +kernel
theorem dX7_begins_28 : decode cX7_begins 28 = .ok (.istore 5, 2) := by decide +kernel
theorem dX7_begins_30 : decode cX7_begins 30 = .ok (.aload_n 0, 1) := by decide +kernel
theorem dX7_begins_31 : decode cX7_begins 31 = .ok (.getfield 78, 3) := by decide +kernel
theorem dX7_begins_34 : decode cX7_begins 34 = .ok (.iload_n 3, 1) := by decide +kernel
theorem dX7_begins_35 : decode cX7_begins 35 = .ok (.laload, 1) := by decide +kernel
theorem dX7_begins_36 : decode cX7_begins 36 = .ok (.lstore 6, 2) := by decide +kernel
theorem dX7_begins_38 : decode cX7_begins 38 = .ok (.aload_n 0, 1) := by decide +kernel
theorem dX7_begins_39 : decode cX7_begins 39 = .ok (.dup, 1) := by decide +kernel
theorem dX7_begins_40 : decode cX7_begins 40 = .ok (.getfield 192, 3) := by decide +kernel
theorem dX7_begins_43 : decode cX7_begins 43 = .ok (.iconst 1, 1) := by decide +kernel
theorem dX7_begins_44 : decode cX7_begins 44 = .ok (.iadd, 1) := by decide +kernel
theorem dX7_begins_45 : decode cX7_begins 45 = .ok (.putfield 192, 3) := by decide +kernel
theorem dX7_begins_48 : decode cX7_begins 48 = .ok (.aload_n 0, 1) := by decide +kernel
theorem dX7_begins_49 : decode cX7_begins 49 = .ok (.getfield 192, 3) := by decide +kernel
theorem dX7_begins_52 : decode cX7_begins 52 = .ok (.sipush 2000, 3) := by decide +kernel
theorem dX7_begins_55 : decode cX7_begins 55 = .ok (.if_icmp .le 6, 3) := by decide +kernel
theorem dX7_begins_58 : decode cX7_begins 58 = .ok (.bipush 15, 2) := by decide +kernel
theorem dX7_begins_60 : decode cX7_begins 60 = .ok (.ireturn, 1) := by decide +kernel
theorem dX7_begins_61 : decode cX7_begins 61 = .ok (.iload 4, 2) := by decide +kernel
theorem dX7_begins_63 : decode cX7_begins 63 = .ok (.ifCond .ne 13, 3) := by decide +kernel
theorem dX7_begins_66 : decode cX7_begins 66 = .ok (.aload_n 0, 1) := by decide +kernel
theorem dX7_begins_67 : decode cX7_begins 67 = .ok (.iload_n 1, 1) := by decide +kernel
theorem dX7_begins_68 : decode cX7_begins 68 = .ok (.iload 5, 2) := by decide +kernel
theorem dX7_begins_70 : decode cX7_begins 70 = .ok (.invokevirtual 201, 3) := by decide +kernel
theorem dX7_begins_73 : decode cX7_begins 73 = .ok (.goto 10, 3) := by decide +kernel
theorem dX7_begins_76 : decode cX7_begins 76 = .ok (.aload_n 0, 1) := by decide +kernel
theorem dX7_begins_77 : decode cX7_begins 77 = .ok (.iload_n 1, 1) := by decide +kernel
theorem dX7_begins_78 : decode cX7_begins 78 = .ok (.iload 5, 2) := by decide +kernel
theorem dX7_begins_80 : decode cX7_begins 80 = .ok (.invokevirtual 209, 3) := by decide +kernel
theorem dX7_begins_83 : decode cX7_begins 83 = .ok (.lstore 8, 2) := by decide +kernel
theorem dX7_begins_85 : decode cX7_begins 85 = .ok (.aload_n 0, 1) := by decide +kernel
theorem dX7_begins_86 : decode cX7_begins 86 = .ok (.getfield 102, 3) := by decide +kernel
theorem dX7_begins_89 : decode cX7_begins 89 = .ok (.iload_n 2, 1) := by decide +kernel
theorem dX7_begins_90 : decode cX7_begins 90 = .ok (.iconst 1, 1) := by decide +kernel
theorem dX7_begins_91 : decode cX7_begins 91 = .ok (.iastore, 1) := by decide +kernel
theorem dX7_begins_92 : decode cX7_begins 92 = .ok (.aload_n 0, 1) := by decide +kernel
theorem dX7_begins_93 : decode cX7_begins 93 = .ok (.getfield 75, 3) := by decide +kernel
theorem dX7_begins_96 : decode cX7_begins 96 = .ok (.iload_n 3, 1) := by decide +kernel
theorem dX7_begins_97 : decode cX7_begins 97 = .ok (.iaload, 1) := by decide +kernel
theorem dX7_begins_98 : decode cX7_begins 98 = .ok (.tableswitch 191 0 8 #[50, 64, 95, 136, 191, 191, 191, 191, 158], 50) := by decide +kernel
theorem dX7_begins_148 : decode cX7_begins 148 = .ok (.lload 8, 2) := by decide +kernel
theorem dX7_begins_150 : decode cX7_begins 150 = .ok (.lload 6, 2) := by decide +kernel
theorem dX7_begins_152 : decode cX7_begins 152 = .ok (.lcmp, 1) := by decide +kernel
theorem dX7_begins_153 : decode cX7_begins 153 = .ok (.ifCond .le 7, 3) := by decide +kernel
theorem dX7_begins_156 : decode cX7_begins 156 = .ok (.iconst 1, 1) := by decide +kernel
theorem dX7_begins_157 : decode cX7_begins 157 = .ok (.goto 4, 3) := by decide +kernel
theorem dX7_begins_160 : decode cX7_begins 160 = .ok (.iconst 0, 1) := by decide +kernel
theorem dX7_begins_161 : decode cX7_begins 161 = .ok (.ireturn, 1) := by decide +kernel
theorem dX7_begins_162 : decode cX7_begins 162 = .ok (.lload 8, 2) := by decide +kernel
theorem dX7_begins_164 : decode cX7_begins 164 = .ok (.lconst 0, 1) := by decide +kernel
theorem dX7_begins_165 : decode cX7_begins 165 = .ok (.lcmp, 1) := by decide +kernel
theorem dX7_begins_166 : decode cX7_begins 166 = .ok (.ifCond .ne 11, 3) := by decide +kernel
theorem dX7_begins_169 : decode cX7_begins 169 = .ok (.aload_n 0, 1) := by decide +kernel
theorem dX7_begins_170 : decode cX7_begins 170 = .ok (.iconst 1, 1) := by decide +kernel
theorem dX7_begins_171 : decode cX7_begins 171 = .ok (.invokevirtual 248, 3) := by decide +kernel
theorem dX7_begins_174 : decode cX7_begins 174 = .ok (.goto 18, 3) := by decide +kernel
theorem dX7_begins_177 : decode cX7_begins 177 = .ok (.lload 6, 2) := by decide +kernel
theorem dX7_begins_179 : decode cX7_begins 179 = .ok (.lload 8, 2) := by decide +kernel
theorem dX7_begins_181 : decode cX7_begins 181 = .ok (.lrem, 1) := by decide +kernel
theorem dX7_begins_182 : decode cX7_begins 182 = .ok (.lconst 0, 1) := by decide +kernel
theorem dX7_begins_183 : decode cX7_begins 183 = .ok (.lcmp, 1) := by decide +kernel
theorem dX7_begins_184 : decode cX7_begins 184 = .ok (.ifCond .ne 7, 3) := by decide +kernel
theorem dX7_begins_187 : decode cX7_begins 187 = .ok (.iconst 1, 1) := by decide +kernel
theorem dX7_begins_188 : decode cX7_begins 188 = .ok (.goto 4, 3) := by decide +kernel
theorem dX7_begins_191 : decode cX7_begins 191 = .ok (.iconst 0, 1) := by decide +kernel
theorem dX7_begins_192 : decode cX7_begins 192 = .ok (.ireturn, 1) := by decide +kernel
theorem dX7_begins_193 : decode cX7_begins 193 = .ok (.lload 8, 2) := by decide +kernel
theorem dX7_begins_195 : decode cX7_begins 195 = .ok (.l2i, 1) := by decide +kernel
theorem dX7_begins_196 : decode cX7_begins 196 = .ok (.istore 10, 2) := by decide +kernel
theorem dX7_begins_198 : decode cX7_begins 198 = .ok (.iload 10, 2) := by decide +kernel
theorem dX7_begins_200 : decode cX7_begins 200 = .ok (.iconst 0, 1) := by decide +kernel
theorem dX7_begins_201 : decode cX7_begins 201 = .ok (.iconst 3, 1) := by decide +kernel
theorem dX7_begins_202 : decode cX7_begins 202 = .ok (.invokestatic 119, 3) := by decide +kernel
theorem dX7_begins_205 : decode cX7_begins 205 = .ok (.ifCond .ne 11, 3) := by decide +kernel
theorem dX7_begins_208 : decode cX7_begins 208 = .ok (.aload_n 0, 1) := by decide +kernel
theorem dX7_begins_209 : decode cX7_begins 209 = .ok (.iconst 2, 1) := by decide +kernel
theorem dX7_begins_210 : decode cX7_begins 210 = .ok (.invokevirtual 248, 3) := by decide +kernel
theorem dX7_begins_213 : decode cX7_begins 213 = .ok (.goto 20, 3) := by decide +kernel
theorem dX7_begins_216 : decode cX7_begins 216 = .ok (.lload 6, 2) := by decide +kernel
theorem dX7_begins_218 : decode cX7_begins 218 = .ok (.iload 10, 2) := by decide +kernel
theorem dX7_begins_220 : decode cX7_begins 220 = .ok (.lshr, 1) := by decide +kernel
theorem dX7_begins_221 : decode cX7_begins 221 = .ok (.lconst 1, 1) := by decide +kernel
theorem dX7_begins_222 : decode cX7_begins 222 = .ok (.land, 1) := by decide +kernel
theorem dX7_begins_223 : decode cX7_begins 223 = .ok (.lconst 1, 1) := by decide +kernel
theorem dX7_begins_224 : decode cX7_begins 224 = .ok (.lcmp, 1) := by decide +kernel
theorem dX7_begins_225 : decode cX7_begins 225 = .ok (.ifCond .ne 7, 3) := by decide +kernel
theorem dX7_begins_228 : decode cX7_begins 228 = .ok (.iconst 1, 1) := by decide +kernel
theorem dX7_begins_229 : decode cX7_begins 229 = .ok (.goto 4, 3) := by decide +kernel
theorem dX7_begins_232 : decode cX7_begins 232 = .ok (.iconst 0, 1) := by decide +kernel
theorem dX7_begins_233 : decode cX7_begins 233 = .ok (.ireturn, 1) := by decide +kernel
theorem dX7_begins_234 : decode cX7_begins 234 = .ok (.aload_n 0, 1) := by decide +kernel
theorem dX7_begins_235 : decode cX7_begins 235 = .ok (.iload_n 1, 1) := by decide +kernel
theorem dX7_begins_236 : decode cX7_begins 236 = .ok (.iload 4, 2) := by decide +kernel
theorem dX7_begins_238 : decode cX7_begins 238 = .ok (.iload 5, 2) := by decide +kernel
theorem dX7_begins_240 : decode cX7_begins 240 = .ok (.invokevirtual 251, 3) := by decide +kernel
theorem dX7_begins_243 : decode cX7_begins 243 = .ok (.i2l, 1) := by decide +kernel
theorem dX7_begins_244 : decode cX7_begins 244 = .ok (.lload 6, 2) := by decide +kernel
theorem dX7_begins_246 : decode cX7_begins 246 = .ok (.lcmp, 1) := by decide +kernel
theorem dX7_begins_247 : decode cX7_begins 247 = .ok (.ifCond .lt 7, 3) := by decide +kernel
theorem dX7_begins_250 : decode cX7_begins 250 = .ok (.iconst 1, 1) := by decide +kernel
theorem dX7_begins_251 : decode cX7_begins 251 = .ok (.goto 4, 3) := by decide +kernel
theorem dX7_begins_254 : decode cX7_begins 254 = .ok (.iconst 0, 1) := by decide +kernel
theorem dX7_begins_255 : decode cX7_begins 255 = .ok (.ireturn, 1) := by decide +kernel
theorem dX7_begins_256 : decode cX7_begins 256 = .ok (.iload 4, 2) := by decide +kernel
theorem dX7_begins_258 : decode cX7_begins 258 = .ok (.iconst 1, 1) := by decide +kernel
theorem dX7_begins_259 : decode cX7_begins 259 = .ok (.if_icmp .ne 23, 3) := by decide +kernel
theorem dX7_begins_262 : decode cX7_begins 262 = .ok (.aload_n 0, 1) := by decide +kernel
theorem dX7_begins_263 : decode cX7_begins 263 = .ok (.aload_n 0, 1) := by decide +kernel
theorem dX7_begins_264 : decode cX7_begins 264 = .ok (.getfield 81, 3) := by decide +kernel
theorem dX7_begins_267 : decode cX7_begins 267 = .ok (.iload_n 3, 1) := by decide +kernel
theorem dX7_begins_268 : decode cX7_begins 268 = .ok (.iaload, 1) := by decide +kernel
theorem dX7_begins_269 : decode cX7_begins 269 = .ok (.iconst 0, 1) := by decide +kernel
theorem dX7_begins_270 : decode cX7_begins 270 = .ok (.aload_n 0, 1) := by decide +kernel
theorem dX7_begins_271 : decode cX7_begins 271 = .ok (.iload_n 1, 1) := by decide +kernel
theorem dX7_begins_272 : decode cX7_begins 272 = .ok (.iload 5, 2) := by decide +kernel
theorem dX7_begins_274 : decode cX7_begins 274 = .ok (.invokevirtual 185, 3) := by decide +kernel
theorem dX7_begins_277 : decode cX7_begins 277 = .ok (.invokevirtual 238, 3) := by decide +kernel
theorem dX7_begins_280 : decode cX7_begins 280 = .ok (.iconst (-1), 1) := by decide +kernel
theorem dX7_begins_281 : decode cX7_begins 281 = .ok (.ireturn, 1) := by decide +kernel
theorem dX7_begins_282 : decode cX7_begins 282 = .ok (.aload_n 0, 1) := by decide +kernel
theorem dX7_begins_283 : decode cX7_begins 283 = .ok (.iload_n 1, 1) := by decide +kernel
theorem dX7_begins_284 : decode cX7_begins 284 = .ok (.iload_n 2, 1) := by decide +kernel
theorem dX7_begins_285 : decode cX7_begins 285 = .ok (.invokevirtual 255, 3) := by decide +kernel
theorem dX7_begins_288 : decode cX7_begins 288 = .ok (.ireturn, 1) := by decide +kernel
theorem dX7_begins_289 : decode cX7_begins 289 = .ok (.aload_n 0, 1) := by decide +kernel
theorem dX7_begins_290 : decode cX7_begins 290 = .ok (.aload_n 0, 1) := by decide +kernel
theorem dX7_begins_291 : decode cX7_begins 291 = .ok (.getfield 81, 3) := by decide +kernel
theorem dX7_begins_294 : decode cX7_begins 294 = .ok (.iload_n 3, 1) := by decide +kernel
theorem dX7_begins_295 : decode cX7_begins 295 = .ok (.iaload, 1) := by decide +kernel
theorem dX7_begins_296 : decode cX7_begins 296 = .ok (.iload 4, 2) := by decide +kernel
theorem dX7_begins_298 : decode cX7_begins 298 = .ok (.iload 5, 2) := by decide +kernel
theorem dX7_begins_300 : decode cX7_begins 300 = .ok (.invokevirtual 238, 3) := by decide +kernel
theorem dX7_begins_303 : decode cX7_begins 303 = .ok (.iconst (-1), 1) := by decide +kernel
theorem dX7_begins_304 : decode cX7_begins 304 = .ok (.ireturn, 1) := by decide +kernel
theorem q124_0 : pm_V d 124 0 [.ref xn, l1, l2, l3, l4, l5, l6, l7, l8, l9, l10] st S Q = pm_V d 124 1 [.ref xn, l1, l2, l3, l4, l5, l6, l7, l8, l9, l10] (.ref xn :: st) S Q := pv_aload_n (pm_cdi rfl dX7_begins_0) rfl
theorem q124_1 (hs : pm_sh S an = .inr 7) : pm_V d 124 1 [l0, l1, l2, l3, l4, l5, l6, l7, l8, l9, l10] (.ref an :: st) S Q = pm_V d 124 4 [l0, l1, l2, l3, l4, l5, l6, l7, l8, l9, l10] (.int (pm_gi S an 35) :: st) S Q := pv_getI (pm_cdi rfl dX7_begins_1) (by decide +kernel) (by decide +kernel) (by decide +kernel) hs
theorem q124_4 : pm_V d 124 4 [l0, l1, l2, l3, l4, l5, l6, l7, l8, l9, l10] st S Q = pm_V d 124 5 [l0, l1, l2, l3, l4, l5, l6, l7, l8, l9, l10] (.int 1 :: st) S Q := pv_iconst (pm_cdi rfl dX7_begins_4) (by decide +kernel)
theorem q124_5 : pm_V d 124 5 [l0, l1, l2, l3, l4, l5, l6, l7, l8, l9, l10] (.int yi :: .int xi :: st) S Q = pm_V d 124 6 [l0, l1, l2, l3, l4, l5, l6, l7, l8, l9, l10] (.int (xi - yi) :: st) S Q := pv_isub (pm_cdi rfl dX7_begins_5)
theorem q124_6 : pm_V d 124 6 [l0, .int yi, l2, l3, l4, l5, l6, l7, l8, l9, l10] (.int xi :: st) S Q = pm_V d 124 7 [l0, .int yi, .int xi, l3, l4, l5, l6, l7, l8, l9, l10] st S Q := pv_istore_n (pm_cdi rfl dX7_begins_6) rfl
theorem q124_7 : pm_V d 124 7 [.ref xn, l1, l2, l3, l4, l5, l6, l7, l8, l9, l10] st S Q = pm_V d 124 8 [.ref xn, l1, l2, l3, l4, l5, l6, l7, l8, l9, l10] (.ref xn :: st) S Q := pv_aload_n (pm_cdi rfl dX7_begins_7) rfl
theorem q124_8 (hs : pm_sh S an = .inr 7) : pm_V d 124 8 [l0, l1, l2, l3, l4, l5, l6, l7, l8, l9, l10] (.ref an :: st) S Q = pm_V d 124 11 [l0, l1, l2, l3, l4, l5, l6, l7, l8, l9, l10] (va_rf (pm_gr S an 36) :: st) S Q := pv_getA (pm_cdi rfl dX7_begins_8) (by decide +kernel) (by decide +kernel) (by decide +kernel) hs
theorem q124_11 : pm_V d 124 11 [l0, l1, .int xi, l3, l4, l5, l6, l7, l8, l9, l10] st S Q = pm_V d 124 12 [l0, l1, .int xi, l3, l4, l5, l6, l7, l8, l9, l10] (.int xi :: st) S Q := pv_iload_n (pm_cdi rfl dX7_begins_11) rfl
theorem q124_12 (hs : pm_ar S an 0 xi = true) : pm_V d 124 12 [l0, l1, l2, l3, l4, l5, l6, l7, l8, l9, l10] (.int xi :: .ref an :: st) S Q = pm_V d 124 13 [l0, l1, l2, l3, l4, l5, l6, l7, l8, l9, l10] (.int (pm_zi S an xi.toNatClampNeg) :: st) S Q := pv_iald (pm_cdi rfl dX7_begins_12) hs
theorem q124_13 : pm_V d 124 13 [l0, l1, .int yi, l3, l4, l5, l6, l7, l8, l9, l10] (.int xi :: st) S Q = pm_V d 124 14 [l0, l1, .int yi, .int xi, l4, l5, l6, l7, l8, l9, l10] st S Q := pv_istore_n (pm_cdi rfl dX7_begins_13) rfl
theorem q124_14 : pm_V d 124 14 [.ref xn, l1, l2, l3, l4, l5, l6, l7, l8, l9, l10] st S Q = pm_V d 124 15 [.ref xn, l1, l2, l3, l4, l5, l6, l7, l8, l9, l10] (.ref xn :: st) S Q := pv_aload_n (pm_cdi rfl dX7_begins_14) rfl
theorem q124_15 (hs : pm_sh S an = .inr 7) : pm_V d 124 15 [l0, l1, l2, l3, l4, l5, l6, l7, l8, l9, l10] (.ref an :: st) S Q = pm_V d 124 18 [l0, l1, l2, l3, l4, l5, l6, l7, l8, l9, l10] (va_rf (pm_gr S an 37) :: st) S Q := pv_getA (pm_cdi rfl dX7_begins_15) (by decide +kernel) (by decide +kernel) (by decide +kernel) hs
theorem q124_18 : pm_V d 124 18 [l0, l1, .int xi, l3, l4, l5, l6, l7, l8, l9, l10] st S Q = pm_V d 124 19 [l0, l1, .int xi, l3, l4, l5, l6, l7, l8, l9, l10] (.int xi :: st) S Q := pv_iload_n (pm_cdi rfl dX7_begins_18) rfl
theorem q124_19 (hs : pm_ar S an 0 xi = true) : pm_V d 124 19 [l0, l1, l2, l3, l4, l5, l6, l7, l8, l9, l10] (.int xi :: .ref an :: st) S Q = pm_V d 124 20 [l0, l1, l2, l3, l4, l5, l6, l7, l8, l9, l10] (.int (pm_zi S an xi.toNatClampNeg) :: st) S Q := pv_iald (pm_cdi rfl dX7_begins_19) hs
theorem q124_20 : pm_V d 124 20 [l0, l1, l2, .int yi, l4, l5, l6, l7, l8, l9, l10] (.int xi :: st) S Q = pm_V d 124 22 [l0, l1, l2, .int yi, .int xi, l5, l6, l7, l8, l9, l10] st S Q := pv_istore (pm_cdi rfl dX7_begins_20) rfl
theorem q124_22 : pm_V d 124 22 [.ref xn, l1, l2, l3, l4, l5, l6, l7, l8, l9, l10] st S Q = pm_V d 124 23 [.ref xn, l1, l2, l3, l4, l5, l6, l7, l8, l9, l10] (.ref xn :: st) S Q := pv_aload_n (pm_cdi rfl dX7_begins_22) rfl
theorem q124_23 (hs : pm_sh S an = .inr 7) : pm_V d 124 23 [l0, l1, l2, l3, l4, l5, l6, l7, l8, l9, l10] (.ref an :: st) S Q = pm_V d 124 26 [l0, l1, l2, l3, l4, l5, l6, l7, l8, l9, l10] (va_rf (pm_gr S an 38) :: st) S Q := pv_getA (pm_cdi rfl dX7_begins_23) (by decide +kernel) (by decide +kernel) (by decide +kernel) hs
theorem q124_26 : pm_V d 124 26 [l0, l1, .int xi, l3, l4, l5, l6, l7, l8, l9, l10] st S Q = pm_V d 124 27 [l0, l1, .int xi, l3, l4, l5, l6, l7, l8, l9, l10] (.int xi :: st) S Q := pv_iload_n (pm_cdi rfl dX7_begins_26) rfl
theorem q124_27 (hs : pm_ar S an 0 xi = true) : pm_V d 124 27 [l0, l1, l2, l3, l4, l5, l6, l7, l8, l9, l10] (.int xi :: .ref an :: st) S Q = pm_V d 124 28 [l0, l1, l2, l3, l4, l5, l6, l7, l8, l9, l10] (.int (pm_zi S an xi.toNatClampNeg) :: st) S Q := pv_iald (pm_cdi rfl dX7_begins_27) hs
theorem q124_28 : pm_V d 124 28 [l0, l1, l2, l3, .int yi, l5, l6, l7, l8, l9, l10] (.int xi :: st) S Q = pm_V d 124 30 [l0, l1, l2, l3, .int yi, .int xi, l6, l7, l8, l9, l10] st S Q := pv_istore (pm_cdi rfl dX7_begins_28) rfl
theorem q124_30 : pm_V d 124 30 [.ref xn, l1, l2, l3, l4, l5, l6, l7, l8, l9, l10] st S Q = pm_V d 124 31 [.ref xn, l1, l2, l3, l4, l5, l6, l7, l8, l9, l10] (.ref xn :: st) S Q := pv_aload_n (pm_cdi rfl dX7_begins_30) rfl
theorem q124_31 (hs : pm_sh S an = .inr 7) : pm_V d 124 31 [l0, l1, l2, l3, l4, l5, l6, l7, l8, l9, l10] (.ref an :: st) S Q = pm_V d 124 34 [l0, l1, l2, l3, l4, l5, l6, l7, l8, l9, l10] (va_rf (pm_gr S an 25) :: st) S Q := pv_getA (pm_cdi rfl dX7_begins_31) (by decide +kernel) (by decide +kernel) (by decide +kernel) hs
theorem q124_34 : pm_V d 124 34 [l0, l1, l2, .int xi, l4, l5, l6, l7, l8, l9, l10] st S Q = pm_V d 124 35 [l0, l1, l2, .int xi, l4, l5, l6, l7, l8, l9, l10] (.int xi :: st) S Q := pv_iload_n (pm_cdi rfl dX7_begins_34) rfl
theorem q124_35 (hs : pm_ar S an 1 xi = true) : pm_V d 124 35 [l0, l1, l2, l3, l4, l5, l6, l7, l8, l9, l10] (.int xi :: .ref an :: st) S Q = pm_V d 124 36 [l0, l1, l2, l3, l4, l5, l6, l7, l8, l9, l10] (.long (pm_zl S an xi.toNatClampNeg) :: st) S Q := pv_lald (pm_cdi rfl dX7_begins_35) hs
theorem q124_36 : pm_V d 124 36 [l0, l1, l2, l3, l4, .int yi, l6, l7, l8, l9, l10] (.long xj :: st) S Q = pm_V d 124 38 [l0, l1, l2, l3, l4, .int yi, .long xj, pm_j, l8, l9, l10] st S Q := pv_lstore (pm_cdi rfl dX7_begins_36) rfl
theorem q124_38 : pm_V d 124 38 [.ref xn, l1, l2, l3, l4, l5, l6, l7, l8, l9, l10] st S Q = pm_V d 124 39 [.ref xn, l1, l2, l3, l4, l5, l6, l7, l8, l9, l10] (.ref xn :: st) S Q := pv_aload_n (pm_cdi rfl dX7_begins_38) rfl
theorem q124_39 : pm_V d 124 39 [l0, l1, l2, l3, l4, l5, l6, l7, l8, l9, l10] (.ref xn :: st) S Q = pm_V d 124 40 [l0, l1, l2, l3, l4, l5, l6, l7, l8, l9, l10] (.ref xn :: .ref xn :: st) S Q := pv_dupA (pm_cdi rfl dX7_begins_39)
theorem q124_40 (hs : pm_sh S an = .inr 7) : pm_V d 124 40 [l0, l1, l2, l3, l4, l5, l6, l7, l8, l9, l10] (.ref an :: st) S Q = pm_V d 124 43 [l0, l1, l2, l3, l4, l5, l6, l7, l8, l9, l10] (.int (pm_gi S an 29) :: st) S Q := pv_getI (pm_cdi rfl dX7_begins_40) (by decide +kernel) (by decide +kernel) (by decide +kernel) hs
theorem q124_43 : pm_V d 124 43 [l0, l1, l2, l3, l4, l5, l6, l7, l8, l9, l10] st S Q = pm_V d 124 44 [l0, l1, l2, l3, l4, l5, l6, l7, l8, l9, l10] (.int 1 :: st) S Q := pv_iconst (pm_cdi rfl dX7_begins_43) (by decide +kernel)
theorem q124_44 : pm_V d 124 44 [l0, l1, l2, l3, l4, l5, l6, l7, l8, l9, l10] (.int yi :: .int xi :: st) S Q = pm_V d 124 45 [l0, l1, l2, l3, l4, l5, l6, l7, l8, l9, l10] (.int (xi + yi) :: st) S Q := pv_iadd (pm_cdi rfl dX7_begins_44)
theorem q124_45 (hs : pm_sh S an = .inr 7) : pm_V d 124 45 [l0, l1, l2, l3, l4, l5, l6, l7, l8, l9, l10] (.int xi :: .ref an :: st) S Q = pm_V d 124 48 [l0, l1, l2, l3, l4, l5, l6, l7, l8, l9, l10] st (pm_sgi S an 29 xi) Q := pv_putI (pm_cdi rfl dX7_begins_45) (by decide +kernel) (by decide +kernel) (by decide +kernel) hs
theorem q124_48 : pm_V d 124 48 [.ref xn, l1, l2, l3, l4, l5, l6, l7, l8, l9, l10] st S Q = pm_V d 124 49 [.ref xn, l1, l2, l3, l4, l5, l6, l7, l8, l9, l10] (.ref xn :: st) S Q := pv_aload_n (pm_cdi rfl dX7_begins_48) rfl
theorem q124_49 (hs : pm_sh S an = .inr 7) : pm_V d 124 49 [l0, l1, l2, l3, l4, l5, l6, l7, l8, l9, l10] (.ref an :: st) S Q = pm_V d 124 52 [l0, l1, l2, l3, l4, l5, l6, l7, l8, l9, l10] (.int (pm_gi S an 29) :: st) S Q := pv_getI (pm_cdi rfl dX7_begins_49) (by decide +kernel) (by decide +kernel) (by decide +kernel) hs
theorem q124_52 : pm_V d 124 52 [l0, l1, l2, l3, l4, l5, l6, l7, l8, l9, l10] st S Q = pm_V d 124 55 [l0, l1, l2, l3, l4, l5, l6, l7, l8, l9, l10] (.int 2000 :: st) S Q := pv_sipush (pm_cdi rfl dX7_begins_52) (by decide +kernel)
theorem q124_55 : pm_V d 124 55 [l0, l1, l2, l3, l4, l5, l6, l7, l8, l9, l10] (.int yi :: .int xi :: st) S Q = if xi ≤ yi then pm_V d 124 61 [l0, l1, l2, l3, l4, l5, l6, l7, l8, l9, l10] st S Q else pm_V d 124 58 [l0, l1, l2, l3, l4, l5, l6, l7, l8, l9, l10] st S Q := pv_icmp_le (pm_cdi rfl dX7_begins_55) rfl
theorem q124_58 : pm_V d 124 58 [l0, l1, l2, l3, l4, l5, l6, l7, l8, l9, l10] st S Q = pm_V d 124 60 [l0, l1, l2, l3, l4, l5, l6, l7, l8, l9, l10] (.int 15 :: st) S Q := pv_bipush (pm_cdi rfl dX7_begins_58) (by decide +kernel)
theorem q124_60 : pm_V d 124 60 [l0, l1, l2, l3, l4, l5, l6, l7, l8, l9, l10] [.int xi] S Q = Q (some (.int xi)) S := pv_rI (pm_cdi rfl dX7_begins_60) (by decide +kernel)
theorem q124_61 : pm_V d 124 61 [l0, l1, l2, l3, .int xi, l5, l6, l7, l8, l9, l10] st S Q = pm_V d 124 63 [l0, l1, l2, l3, .int xi, l5, l6, l7, l8, l9, l10] (.int xi :: st) S Q := pv_iload (pm_cdi rfl dX7_begins_61) rfl
theorem q124_63 : pm_V d 124 63 [l0, l1, l2, l3, l4, l5, l6, l7, l8, l9, l10] (.int xi :: st) S Q = if xi = 0 then pm_V d 124 66 [l0, l1, l2, l3, l4, l5, l6, l7, l8, l9, l10] st S Q else pm_V d 124 76 [l0, l1, l2, l3, l4, l5, l6, l7, l8, l9, l10] st S Q := pv_if_ne (pm_cdi rfl dX7_begins_63) rfl
theorem q124_66 : pm_V d 124 66 [.ref xn, l1, l2, l3, l4, l5, l6, l7, l8, l9, l10] st S Q = pm_V d 124 67 [.ref xn, l1, l2, l3, l4, l5, l6, l7, l8, l9, l10] (.ref xn :: st) S Q := pv_aload_n (pm_cdi rfl dX7_begins_66) rfl
theorem q124_67 : pm_V d 124 67 [l0, .int xi, l2, l3, l4, l5, l6, l7, l8, l9, l10] st S Q = pm_V d 124 68 [l0, .int xi, l2, l3, l4, l5, l6, l7, l8, l9, l10] (.int xi :: st) S Q := pv_iload_n (pm_cdi rfl dX7_begins_67) rfl
theorem q124_68 : pm_V d 124 68 [l0, l1, l2, l3, l4, .int xi, l6, l7, l8, l9, l10] st S Q = pm_V d 124 70 [l0, l1, l2, l3, l4, .int xi, l6, l7, l8, l9, l10] (.int xi :: st) S Q := pv_iload (pm_cdi rfl dX7_begins_68) rfl
theorem q124_70 (hs : pm_sh S an = .inr 7) : pm_V (d + 1) 124 70 [l0, l1, l2, l3, l4, l5, l6, l7, l8, l9, l10] [.int v1i, .int v0i, .ref an] S Q = pm_N d 106 [.ref an, .int v0i, .int v1i] S (fun r S' => pm_V (d + 1) 124 73 [l0, l1, l2, l3, l4, l5, l6, l7, l8, l9, l10] (r.toList ++ []) S' Q) := pv_callV (as := [.int v0i, .int v1i]) (pm_cdi rfl dX7_begins_70) (Or.inl (by decide +kernel)) (by decide +kernel) (show _ = _ from (by decide +kernel : 2 = pm_np 106)) rfl (Nat.le_of_ble_eq_true rfl) (cl := 7) (by decide +kernel) hs
theorem q124_73 : pm_V d 124 73 [l0, l1, l2, l3, l4, l5, l6, l7, l8, l9, l10] st S Q = pm_V d 124 83 [l0, l1, l2, l3, l4, l5, l6, l7, l8, l9, l10] st S Q := pv_goto (pm_cdi rfl dX7_begins_73) rfl
theorem q124_76 : pm_V d 124 76 [.ref xn, l1, l2, l3, l4, l5, l6, l7, l8, l9, l10] st S Q = pm_V d 124 77 [.ref xn, l1, l2, l3, l4, l5, l6, l7, l8, l9, l10] (.ref xn :: st) S Q := pv_aload_n (pm_cdi rfl dX7_begins_76) rfl
theorem q124_77 : pm_V d 124 77 [l0, .int xi, l2, l3, l4, l5, l6, l7, l8, l9, l10] st S Q = pm_V d 124 78 [l0, .int xi, l2, l3, l4, l5, l6, l7, l8, l9, l10] (.int xi :: st) S Q := pv_iload_n (pm_cdi rfl dX7_begins_77) rfl
theorem q124_78 : pm_V d 124 78 [l0, l1, l2, l3, l4, .int xi, l6, l7, l8, l9, l10] st S Q = pm_V d 124 80 [l0, l1, l2, l3, l4, .int xi, l6, l7, l8, l9, l10] (.int xi :: st) S Q := pv_iload (pm_cdi rfl dX7_begins_78) rfl
theorem q124_80 (hs : pm_sh S an = .inr 7) : pm_V (d + 1) 124 80 [l0, l1, l2, l3, l4, l5, l6, l7, l8, l9, l10] [.int v1i, .int v0i, .ref an] S Q = pm_N d 107 [.ref an, .int v0i, .int v1i] S (fun r S' => pm_V (d + 1) 124 83 [l0, l1, l2, l3, l4, l5, l6, l7, l8, l9, l10] (r.toList ++ []) S' Q) := pv_callV (as := [.int v0i, .int v1i]) (pm_cdi rfl dX7_begins_80) (Or.inl (by decide +kernel)) (by decide +kernel) (show _ = _ from (by decide +kernel : 2 = pm_np 107)) rfl (Nat.le_of_ble_eq_true rfl) (cl := 7) (by decide +kernel) hs
theorem q124_83 : pm_V d 124 83 [l0, l1, l2, l3, l4, l5, l6, pm_j, l8, l9, l10] (.long xj :: st) S Q = pm_V d 124 85 [l0, l1, l2, l3, l4, l5, l6, pm_j, .long xj, pm_j, l10] st S Q := pv_lstore (pm_cdi rfl dX7_begins_83) rfl
theorem q124_85 : pm_V d 124 85 [.ref xn, l1, l2, l3, l4, l5, l6, l7, l8, l9, l10] st S Q = pm_V d 124 86 [.ref xn, l1, l2, l3, l4, l5, l6, l7, l8, l9, l10] (.ref xn :: st) S Q := pv_aload_n (pm_cdi rfl dX7_begins_85) rfl
theorem q124_86 (hs : pm_sh S an = .inr 7) : pm_V d 124 86 [l0, l1, l2, l3, l4, l5, l6, l7, l8, l9, l10] (.ref an :: st) S Q = pm_V d 124 89 [l0, l1, l2, l3, l4, l5, l6, l7, l8, l9, l10] (va_rf (pm_gr S an 39) :: st) S Q := pv_getA (pm_cdi rfl dX7_begins_86) (by decide +kernel) (by decide +kernel) (by decide +kernel) hs
theorem q124_89 : pm_V d 124 89 [l0, l1, .int xi, l3, l4, l5, l6, l7, l8, l9, l10] st S Q = pm_V d 124 90 [l0, l1, .int xi, l3, l4, l5, l6, l7, l8, l9, l10] (.int xi :: st) S Q := pv_iload_n (pm_cdi rfl dX7_begins_89) rfl
theorem q124_90 : pm_V d 124 90 [l0, l1, l2, l3, l4, l5, l6, l7, l8, l9, l10] st S Q = pm_V d 124 91 [l0, l1, l2, l3, l4, l5, l6, l7, l8, l9, l10] (.int 1 :: st) S Q := pv_iconst (pm_cdi rfl dX7_begins_90) (by decide +kernel)
theorem q124_91 (hs : pm_ar S an 0 xi = true) : pm_V d 124 91 [l0, l1, l2, l3, l4, l5, l6, l7, l8, l9, l10] (.int vi :: .int xi :: .ref an :: st) S Q = pm_V d 124 92 [l0, l1, l2, l3, l4, l5, l6, l7, l8, l9, l10] st (pm_szi S an xi.toNatClampNeg vi) Q := pv_iast (pm_cdi rfl dX7_begins_91) hs
theorem q124_92 : pm_V d 124 92 [.ref xn, l1, l2, l3, l4, l5, l6, l7, l8, l9, l10] st S Q = pm_V d 124 93 [.ref xn, l1, l2, l3, l4, l5, l6, l7, l8, l9, l10] (.ref xn :: st) S Q := pv_aload_n (pm_cdi rfl dX7_begins_92) rfl
theorem q124_93 (hs : pm_sh S an = .inr 7) : pm_V d 124 93 [l0, l1, l2, l3, l4, l5, l6, l7, l8, l9, l10] (.ref an :: st) S Q = pm_V d 124 96 [l0, l1, l2, l3, l4, l5, l6, l7, l8, l9, l10] (va_rf (pm_gr S an 24) :: st) S Q := pv_getA (pm_cdi rfl dX7_begins_93) (by decide +kernel) (by decide +kernel) (by decide +kernel) hs
theorem q124_96 : pm_V d 124 96 [l0, l1, l2, .int xi, l4, l5, l6, l7, l8, l9, l10] st S Q = pm_V d 124 97 [l0, l1, l2, .int xi, l4, l5, l6, l7, l8, l9, l10] (.int xi :: st) S Q := pv_iload_n (pm_cdi rfl dX7_begins_96) rfl
theorem q124_97 (hs : pm_ar S an 0 xi = true) : pm_V d 124 97 [l0, l1, l2, l3, l4, l5, l6, l7, l8, l9, l10] (.int xi :: .ref an :: st) S Q = pm_V d 124 98 [l0, l1, l2, l3, l4, l5, l6, l7, l8, l9, l10] (.int (pm_zi S an xi.toNatClampNeg) :: st) S Q := pv_iald (pm_cdi rfl dX7_begins_97) hs
theorem q124_98 : pm_V d 124 98 [l0, l1, l2, l3, l4, l5, l6, l7, l8, l9, l10] (.int xi :: st) S Q = pm_V d 124 (pm_tsw xi 0 [148, 162, 193, 234, 289, 289, 289, 289, 256] 289) [l0, l1, l2, l3, l4, l5, l6, l7, l8, l9, l10] st S Q := pv_tsw (pm_cdi rfl dX7_begins_98) (by decide +kernel) rfl (by decide +kernel)
theorem q124_148 : pm_V d 124 148 [l0, l1, l2, l3, l4, l5, l6, l7, .long xj, l9, l10] st S Q = pm_V d 124 150 [l0, l1, l2, l3, l4, l5, l6, l7, .long xj, l9, l10] (.long xj :: st) S Q := pv_lload (pm_cdi rfl dX7_begins_148) rfl
theorem q124_150 : pm_V d 124 150 [l0, l1, l2, l3, l4, l5, .long xj, l7, l8, l9, l10] st S Q = pm_V d 124 152 [l0, l1, l2, l3, l4, l5, .long xj, l7, l8, l9, l10] (.long xj :: st) S Q := pv_lload (pm_cdi rfl dX7_begins_150) rfl
theorem q124_152 : pm_V d 124 152 [l0, l1, l2, l3, l4, l5, l6, l7, l8, l9, l10] (.long yj :: .long xj :: st) S Q = pm_V d 124 153 [l0, l1, l2, l3, l4, l5, l6, l7, l8, l9, l10] (.int (lg_cmp xj yj) :: st) S Q := pv_lcmp (pm_cdi rfl dX7_begins_152)
theorem q124_153 : pm_V d 124 153 [l0, l1, l2, l3, l4, l5, l6, l7, l8, l9, l10] (.int xi :: st) S Q = if xi ≤ 0 then pm_V d 124 160 [l0, l1, l2, l3, l4, l5, l6, l7, l8, l9, l10] st S Q else pm_V d 124 156 [l0, l1, l2, l3, l4, l5, l6, l7, l8, l9, l10] st S Q := pv_if_le (pm_cdi rfl dX7_begins_153) rfl
theorem q124_156 : pm_V d 124 156 [l0, l1, l2, l3, l4, l5, l6, l7, l8, l9, l10] st S Q = pm_V d 124 157 [l0, l1, l2, l3, l4, l5, l6, l7, l8, l9, l10] (.int 1 :: st) S Q := pv_iconst (pm_cdi rfl dX7_begins_156) (by decide +kernel)
theorem q124_157 : pm_V d 124 157 [l0, l1, l2, l3, l4, l5, l6, l7, l8, l9, l10] st S Q = pm_V d 124 161 [l0, l1, l2, l3, l4, l5, l6, l7, l8, l9, l10] st S Q := pv_goto (pm_cdi rfl dX7_begins_157) rfl
theorem q124_160 : pm_V d 124 160 [l0, l1, l2, l3, l4, l5, l6, l7, l8, l9, l10] st S Q = pm_V d 124 161 [l0, l1, l2, l3, l4, l5, l6, l7, l8, l9, l10] (.int 0 :: st) S Q := pv_iconst (pm_cdi rfl dX7_begins_160) (by decide +kernel)
theorem q124_161 : pm_V d 124 161 [l0, l1, l2, l3, l4, l5, l6, l7, l8, l9, l10] [.int xi] S Q = Q (some (.int xi)) S := pv_rI (pm_cdi rfl dX7_begins_161) (by decide +kernel)
theorem q124_162 : pm_V d 124 162 [l0, l1, l2, l3, l4, l5, l6, l7, .long xj, l9, l10] st S Q = pm_V d 124 164 [l0, l1, l2, l3, l4, l5, l6, l7, .long xj, l9, l10] (.long xj :: st) S Q := pv_lload (pm_cdi rfl dX7_begins_162) rfl
theorem q124_164 : pm_V d 124 164 [l0, l1, l2, l3, l4, l5, l6, l7, l8, l9, l10] st S Q = pm_V d 124 165 [l0, l1, l2, l3, l4, l5, l6, l7, l8, l9, l10] (.long 0 :: st) S Q := pv_lconst (pm_cdi rfl dX7_begins_164) (by decide +kernel)
theorem q124_165 : pm_V d 124 165 [l0, l1, l2, l3, l4, l5, l6, l7, l8, l9, l10] (.long yj :: .long xj :: st) S Q = pm_V d 124 166 [l0, l1, l2, l3, l4, l5, l6, l7, l8, l9, l10] (.int (lg_cmp xj yj) :: st) S Q := pv_lcmp (pm_cdi rfl dX7_begins_165)
theorem q124_166 : pm_V d 124 166 [l0, l1, l2, l3, l4, l5, l6, l7, l8, l9, l10] (.int xi :: st) S Q = if xi = 0 then pm_V d 124 169 [l0, l1, l2, l3, l4, l5, l6, l7, l8, l9, l10] st S Q else pm_V d 124 177 [l0, l1, l2, l3, l4, l5, l6, l7, l8, l9, l10] st S Q := pv_if_ne (pm_cdi rfl dX7_begins_166) rfl
theorem q124_169 : pm_V d 124 169 [.ref xn, l1, l2, l3, l4, l5, l6, l7, l8, l9, l10] st S Q = pm_V d 124 170 [.ref xn, l1, l2, l3, l4, l5, l6, l7, l8, l9, l10] (.ref xn :: st) S Q := pv_aload_n (pm_cdi rfl dX7_begins_169) rfl
theorem q124_170 : pm_V d 124 170 [l0, l1, l2, l3, l4, l5, l6, l7, l8, l9, l10] st S Q = pm_V d 124 171 [l0, l1, l2, l3, l4, l5, l6, l7, l8, l9, l10] (.int 1 :: st) S Q := pv_iconst (pm_cdi rfl dX7_begins_170) (by decide +kernel)
theorem q124_171 (hs : pm_sh S an = .inr 7) : pm_V (d + 1) 124 171 [l0, l1, l2, l3, l4, l5, l6, l7, l8, l9, l10] [.int v0i, .ref an] S Q = pm_N d 123 [.ref an, .int v0i] S (fun r S' => pm_V (d + 1) 124 174 [l0, l1, l2, l3, l4, l5, l6, l7, l8, l9, l10] (r.toList ++ []) S' Q) := pv_callV (as := [.int v0i]) (pm_cdi rfl dX7_begins_171) (Or.inl (by decide +kernel)) (by decide +kernel) (show _ = _ from (by decide +kernel : 1 = pm_np 123)) rfl (Nat.le_of_ble_eq_true rfl) (cl := 7) (by decide +kernel) hs
theorem q124_174 : pm_V d 124 174 [l0, l1, l2, l3, l4, l5, l6, l7, l8, l9, l10] st S Q = pm_V d 124 192 [l0, l1, l2, l3, l4, l5, l6, l7, l8, l9, l10] st S Q := pv_goto (pm_cdi rfl dX7_begins_174) rfl
theorem q124_177 : pm_V d 124 177 [l0, l1, l2, l3, l4, l5, .long xj, l7, l8, l9, l10] st S Q = pm_V d 124 179 [l0, l1, l2, l3, l4, l5, .long xj, l7, l8, l9, l10] (.long xj :: st) S Q := pv_lload (pm_cdi rfl dX7_begins_177) rfl
theorem q124_179 : pm_V d 124 179 [l0, l1, l2, l3, l4, l5, l6, l7, .long xj, l9, l10] st S Q = pm_V d 124 181 [l0, l1, l2, l3, l4, l5, l6, l7, .long xj, l9, l10] (.long xj :: st) S Q := pv_lload (pm_cdi rfl dX7_begins_179) rfl
theorem q124_181 (h0 : ¬ yj = 0) : pm_V d 124 181 [l0, l1, l2, l3, l4, l5, l6, l7, l8, l9, l10] (.long yj :: .long xj :: st) S Q = pm_V d 124 182 [l0, l1, l2, l3, l4, l5, l6, l7, l8, l9, l10] (.long (xj - xj / yj * yj) :: st) S Q := pv_lrem (pm_cdi rfl dX7_begins_181) h0
theorem q124_182 : pm_V d 124 182 [l0, l1, l2, l3, l4, l5, l6, l7, l8, l9, l10] st S Q = pm_V d 124 183 [l0, l1, l2, l3, l4, l5, l6, l7, l8, l9, l10] (.long 0 :: st) S Q := pv_lconst (pm_cdi rfl dX7_begins_182) (by decide +kernel)
theorem q124_183 : pm_V d 124 183 [l0, l1, l2, l3, l4, l5, l6, l7, l8, l9, l10] (.long yj :: .long xj :: st) S Q = pm_V d 124 184 [l0, l1, l2, l3, l4, l5, l6, l7, l8, l9, l10] (.int (lg_cmp xj yj) :: st) S Q := pv_lcmp (pm_cdi rfl dX7_begins_183)
theorem q124_184 : pm_V d 124 184 [l0, l1, l2, l3, l4, l5, l6, l7, l8, l9, l10] (.int xi :: st) S Q = if xi = 0 then pm_V d 124 187 [l0, l1, l2, l3, l4, l5, l6, l7, l8, l9, l10] st S Q else pm_V d 124 191 [l0, l1, l2, l3, l4, l5, l6, l7, l8, l9, l10] st S Q := pv_if_ne (pm_cdi rfl dX7_begins_184) rfl
theorem q124_187 : pm_V d 124 187 [l0, l1, l2, l3, l4, l5, l6, l7, l8, l9, l10] st S Q = pm_V d 124 188 [l0, l1, l2, l3, l4, l5, l6, l7, l8, l9, l10] (.int 1 :: st) S Q := pv_iconst (pm_cdi rfl dX7_begins_187) (by decide +kernel)
theorem q124_188 : pm_V d 124 188 [l0, l1, l2, l3, l4, l5, l6, l7, l8, l9, l10] st S Q = pm_V d 124 192 [l0, l1, l2, l3, l4, l5, l6, l7, l8, l9, l10] st S Q := pv_goto (pm_cdi rfl dX7_begins_188) rfl
theorem q124_191 : pm_V d 124 191 [l0, l1, l2, l3, l4, l5, l6, l7, l8, l9, l10] st S Q = pm_V d 124 192 [l0, l1, l2, l3, l4, l5, l6, l7, l8, l9, l10] (.int 0 :: st) S Q := pv_iconst (pm_cdi rfl dX7_begins_191) (by decide +kernel)
theorem q124_192 : pm_V d 124 192 [l0, l1, l2, l3, l4, l5, l6, l7, l8, l9, l10] [.int xi] S Q = Q (some (.int xi)) S := pv_rI (pm_cdi rfl dX7_begins_192) (by decide +kernel)
theorem q124_193 : pm_V d 124 193 [l0, l1, l2, l3, l4, l5, l6, l7, .long xj, l9, l10] st S Q = pm_V d 124 195 [l0, l1, l2, l3, l4, l5, l6, l7, .long xj, l9, l10] (.long xj :: st) S Q := pv_lload (pm_cdi rfl dX7_begins_193) rfl
theorem q124_195 : pm_V d 124 195 [l0, l1, l2, l3, l4, l5, l6, l7, l8, l9, l10] (.long xj :: st) S Q = pm_V d 124 196 [l0, l1, l2, l3, l4, l5, l6, l7, l8, l9, l10] (.int xj.toInt32 :: st) S Q := pv_l2i (pm_cdi rfl dX7_begins_195)
theorem q124_196 : pm_V d 124 196 [l0, l1, l2, l3, l4, l5, l6, l7, l8, pm_j, l10] (.int xi :: st) S Q = pm_V d 124 198 [l0, l1, l2, l3, l4, l5, l6, l7, l8, pm_j, .int xi] st S Q := pv_istore (pm_cdi rfl dX7_begins_196) rfl
theorem q124_198 : pm_V d 124 198 [l0, l1, l2, l3, l4, l5, l6, l7, l8, l9, .int xi] st S Q = pm_V d 124 200 [l0, l1, l2, l3, l4, l5, l6, l7, l8, l9, .int xi] (.int xi :: st) S Q := pv_iload (pm_cdi rfl dX7_begins_198) rfl
theorem q124_200 : pm_V d 124 200 [l0, l1, l2, l3, l4, l5, l6, l7, l8, l9, l10] st S Q = pm_V d 124 201 [l0, l1, l2, l3, l4, l5, l6, l7, l8, l9, l10] (.int 0 :: st) S Q := pv_iconst (pm_cdi rfl dX7_begins_200) (by decide +kernel)
theorem q124_201 : pm_V d 124 201 [l0, l1, l2, l3, l4, l5, l6, l7, l8, l9, l10] st S Q = pm_V d 124 202 [l0, l1, l2, l3, l4, l5, l6, l7, l8, l9, l10] (.int 3 :: st) S Q := pv_iconst (pm_cdi rfl dX7_begins_201) (by decide +kernel)
theorem q124_202 : pm_V (d + 1) 124 202 [l0, l1, l2, l3, l4, l5, l6, l7, l8, l9, l10] [.int v2i, .int v1i, .int v0i] S Q = pm_N d 87 [.int v0i, .int v1i, .int v2i] S (fun r S' => pm_V (d + 1) 124 205 [l0, l1, l2, l3, l4, l5, l6, l7, l8, l9, l10] (r.toList ++ []) S' Q) := pv_callS (as := [.int v0i, .int v1i, .int v2i]) (pm_cdi rfl dX7_begins_202) (by decide +kernel) (by decide +kernel) (show _ = _ from (by decide +kernel : 3 = pm_np 87)) rfl (Nat.le_of_ble_eq_true rfl)
theorem q124_205 : pm_V d 124 205 [l0, l1, l2, l3, l4, l5, l6, l7, l8, l9, l10] (.int xi :: st) S Q = if xi = 0 then pm_V d 124 208 [l0, l1, l2, l3, l4, l5, l6, l7, l8, l9, l10] st S Q else pm_V d 124 216 [l0, l1, l2, l3, l4, l5, l6, l7, l8, l9, l10] st S Q := pv_if_ne (pm_cdi rfl dX7_begins_205) rfl
theorem q124_208 : pm_V d 124 208 [.ref xn, l1, l2, l3, l4, l5, l6, l7, l8, l9, l10] st S Q = pm_V d 124 209 [.ref xn, l1, l2, l3, l4, l5, l6, l7, l8, l9, l10] (.ref xn :: st) S Q := pv_aload_n (pm_cdi rfl dX7_begins_208) rfl
theorem q124_209 : pm_V d 124 209 [l0, l1, l2, l3, l4, l5, l6, l7, l8, l9, l10] st S Q = pm_V d 124 210 [l0, l1, l2, l3, l4, l5, l6, l7, l8, l9, l10] (.int 2 :: st) S Q := pv_iconst (pm_cdi rfl dX7_begins_209) (by decide +kernel)
theorem q124_210 (hs : pm_sh S an = .inr 7) : pm_V (d + 1) 124 210 [l0, l1, l2, l3, l4, l5, l6, l7, l8, l9, l10] [.int v0i, .ref an] S Q = pm_N d 123 [.ref an, .int v0i] S (fun r S' => pm_V (d + 1) 124 213 [l0, l1, l2, l3, l4, l5, l6, l7, l8, l9, l10] (r.toList ++ []) S' Q) := pv_callV (as := [.int v0i]) (pm_cdi rfl dX7_begins_210) (Or.inl (by decide +kernel)) (by decide +kernel) (show _ = _ from (by decide +kernel : 1 = pm_np 123)) rfl (Nat.le_of_ble_eq_true rfl) (cl := 7) (by decide +kernel) hs
theorem q124_213 : pm_V d 124 213 [l0, l1, l2, l3, l4, l5, l6, l7, l8, l9, l10] st S Q = pm_V d 124 233 [l0, l1, l2, l3, l4, l5, l6, l7, l8, l9, l10] st S Q := pv_goto (pm_cdi rfl dX7_begins_213) rfl
theorem q124_216 : pm_V d 124 216 [l0, l1, l2, l3, l4, l5, .long xj, l7, l8, l9, l10] st S Q = pm_V d 124 218 [l0, l1, l2, l3, l4, l5, .long xj, l7, l8, l9, l10] (.long xj :: st) S Q := pv_lload (pm_cdi rfl dX7_begins_216) rfl
theorem q124_218 : pm_V d 124 218 [l0, l1, l2, l3, l4, l5, l6, l7, l8, l9, .int xi] st S Q = pm_V d 124 220 [l0, l1, l2, l3, l4, l5, l6, l7, l8, l9, .int xi] (.int xi :: st) S Q := pv_iload (pm_cdi rfl dX7_begins_218) rfl
theorem q124_220 : pm_V d 124 220 [l0, l1, l2, l3, l4, l5, l6, l7, l8, l9, l10] (.int yi :: .long xj :: st) S Q = pm_V d 124 221 [l0, l1, l2, l3, l4, l5, l6, l7, l8, l9, l10] (.long (xj >>> (yi.toInt64 &&& 63)) :: st) S Q := pv_lshr (pm_cdi rfl dX7_begins_220)
theorem q124_221 : pm_V d 124 221 [l0, l1, l2, l3, l4, l5, l6, l7, l8, l9, l10] st S Q = pm_V d 124 222 [l0, l1, l2, l3, l4, l5, l6, l7, l8, l9, l10] (.long 1 :: st) S Q := pv_lconst (pm_cdi rfl dX7_begins_221) (by decide +kernel)
theorem q124_222 : pm_V d 124 222 [l0, l1, l2, l3, l4, l5, l6, l7, l8, l9, l10] (.long yj :: .long xj :: st) S Q = pm_V d 124 223 [l0, l1, l2, l3, l4, l5, l6, l7, l8, l9, l10] (.long (xj &&& yj) :: st) S Q := pv_land (pm_cdi rfl dX7_begins_222)
theorem q124_223 : pm_V d 124 223 [l0, l1, l2, l3, l4, l5, l6, l7, l8, l9, l10] st S Q = pm_V d 124 224 [l0, l1, l2, l3, l4, l5, l6, l7, l8, l9, l10] (.long 1 :: st) S Q := pv_lconst (pm_cdi rfl dX7_begins_223) (by decide +kernel)
theorem q124_224 : pm_V d 124 224 [l0, l1, l2, l3, l4, l5, l6, l7, l8, l9, l10] (.long yj :: .long xj :: st) S Q = pm_V d 124 225 [l0, l1, l2, l3, l4, l5, l6, l7, l8, l9, l10] (.int (lg_cmp xj yj) :: st) S Q := pv_lcmp (pm_cdi rfl dX7_begins_224)
theorem q124_225 : pm_V d 124 225 [l0, l1, l2, l3, l4, l5, l6, l7, l8, l9, l10] (.int xi :: st) S Q = if xi = 0 then pm_V d 124 228 [l0, l1, l2, l3, l4, l5, l6, l7, l8, l9, l10] st S Q else pm_V d 124 232 [l0, l1, l2, l3, l4, l5, l6, l7, l8, l9, l10] st S Q := pv_if_ne (pm_cdi rfl dX7_begins_225) rfl
theorem q124_228 : pm_V d 124 228 [l0, l1, l2, l3, l4, l5, l6, l7, l8, l9, l10] st S Q = pm_V d 124 229 [l0, l1, l2, l3, l4, l5, l6, l7, l8, l9, l10] (.int 1 :: st) S Q := pv_iconst (pm_cdi rfl dX7_begins_228) (by decide +kernel)
theorem q124_229 : pm_V d 124 229 [l0, l1, l2, l3, l4, l5, l6, l7, l8, l9, l10] st S Q = pm_V d 124 233 [l0, l1, l2, l3, l4, l5, l6, l7, l8, l9, l10] st S Q := pv_goto (pm_cdi rfl dX7_begins_229) rfl
theorem q124_232 : pm_V d 124 232 [l0, l1, l2, l3, l4, l5, l6, l7, l8, l9, l10] st S Q = pm_V d 124 233 [l0, l1, l2, l3, l4, l5, l6, l7, l8, l9, l10] (.int 0 :: st) S Q := pv_iconst (pm_cdi rfl dX7_begins_232) (by decide +kernel)
theorem q124_233 : pm_V d 124 233 [l0, l1, l2, l3, l4, l5, l6, l7, l8, l9, l10] [.int xi] S Q = Q (some (.int xi)) S := pv_rI (pm_cdi rfl dX7_begins_233) (by decide +kernel)
theorem q124_234 : pm_V d 124 234 [.ref xn, l1, l2, l3, l4, l5, l6, l7, l8, l9, l10] st S Q = pm_V d 124 235 [.ref xn, l1, l2, l3, l4, l5, l6, l7, l8, l9, l10] (.ref xn :: st) S Q := pv_aload_n (pm_cdi rfl dX7_begins_234) rfl
theorem q124_235 : pm_V d 124 235 [l0, .int xi, l2, l3, l4, l5, l6, l7, l8, l9, l10] st S Q = pm_V d 124 236 [l0, .int xi, l2, l3, l4, l5, l6, l7, l8, l9, l10] (.int xi :: st) S Q := pv_iload_n (pm_cdi rfl dX7_begins_235) rfl
theorem q124_236 : pm_V d 124 236 [l0, l1, l2, l3, .int xi, l5, l6, l7, l8, l9, l10] st S Q = pm_V d 124 238 [l0, l1, l2, l3, .int xi, l5, l6, l7, l8, l9, l10] (.int xi :: st) S Q := pv_iload (pm_cdi rfl dX7_begins_236) rfl
theorem q124_238 : pm_V d 124 238 [l0, l1, l2, l3, l4, .int xi, l6, l7, l8, l9, l10] st S Q = pm_V d 124 240 [l0, l1, l2, l3, l4, .int xi, l6, l7, l8, l9, l10] (.int xi :: st) S Q := pv_iload (pm_cdi rfl dX7_begins_238) rfl
theorem q124_240 (hs : pm_sh S an = .inr 7) : pm_V (d + 1) 124 240 [l0, l1, l2, l3, l4, l5, l6, l7, l8, l9, l10] [.int v2i, .int v1i, .int v0i, .ref an] S Q = pm_N d 126 [.ref an, .int v0i, .int v1i, .int v2i] S (fun r S' => pm_V (d + 1) 124 243 [l0, l1, l2, l3, l4, l5, l6, l7, l8, l9, l10] (r.toList ++ []) S' Q) := pv_callV (as := [.int v0i, .int v1i, .int v2i]) (pm_cdi rfl dX7_begins_240) (Or.inl (by decide +kernel)) (by decide +kernel) (show _ = _ from (by decide +kernel : 3 = pm_np 126)) rfl (Nat.le_of_ble_eq_true rfl) (cl := 7) (by decide +kernel) hs
theorem q124_243 : pm_V d 124 243 [l0, l1, l2, l3, l4, l5, l6, l7, l8, l9, l10] (.int xi :: st) S Q = pm_V d 124 244 [l0, l1, l2, l3, l4, l5, l6, l7, l8, l9, l10] (.long xi.toInt64 :: st) S Q := pv_i2l (pm_cdi rfl dX7_begins_243)
theorem q124_244 : pm_V d 124 244 [l0, l1, l2, l3, l4, l5, .long xj, l7, l8, l9, l10] st S Q = pm_V d 124 246 [l0, l1, l2, l3, l4, l5, .long xj, l7, l8, l9, l10] (.long xj :: st) S Q := pv_lload (pm_cdi rfl dX7_begins_244) rfl
theorem q124_246 : pm_V d 124 246 [l0, l1, l2, l3, l4, l5, l6, l7, l8, l9, l10] (.long yj :: .long xj :: st) S Q = pm_V d 124 247 [l0, l1, l2, l3, l4, l5, l6, l7, l8, l9, l10] (.int (lg_cmp xj yj) :: st) S Q := pv_lcmp (pm_cdi rfl dX7_begins_246)
theorem q124_247 : pm_V d 124 247 [l0, l1, l2, l3, l4, l5, l6, l7, l8, l9, l10] (.int xi :: st) S Q = if xi < 0 then pm_V d 124 254 [l0, l1, l2, l3, l4, l5, l6, l7, l8, l9, l10] st S Q else pm_V d 124 250 [l0, l1, l2, l3, l4, l5, l6, l7, l8, l9, l10] st S Q := pv_if_lt (pm_cdi rfl dX7_begins_247) rfl
theorem q124_250 : pm_V d 124 250 [l0, l1, l2, l3, l4, l5, l6, l7, l8, l9, l10] st S Q = pm_V d 124 251 [l0, l1, l2, l3, l4, l5, l6, l7, l8, l9, l10] (.int 1 :: st) S Q := pv_iconst (pm_cdi rfl dX7_begins_250) (by decide +kernel)
theorem q124_251 : pm_V d 124 251 [l0, l1, l2, l3, l4, l5, l6, l7, l8, l9, l10] st S Q = pm_V d 124 255 [l0, l1, l2, l3, l4, l5, l6, l7, l8, l9, l10] st S Q := pv_goto (pm_cdi rfl dX7_begins_251) rfl
theorem q124_254 : pm_V d 124 254 [l0, l1, l2, l3, l4, l5, l6, l7, l8, l9, l10] st S Q = pm_V d 124 255 [l0, l1, l2, l3, l4, l5, l6, l7, l8, l9, l10] (.int 0 :: st) S Q := pv_iconst (pm_cdi rfl dX7_begins_254) (by decide +kernel)
theorem q124_255 : pm_V d 124 255 [l0, l1, l2, l3, l4, l5, l6, l7, l8, l9, l10] [.int xi] S Q = Q (some (.int xi)) S := pv_rI (pm_cdi rfl dX7_begins_255) (by decide +kernel)
theorem q124_256 : pm_V d 124 256 [l0, l1, l2, l3, .int xi, l5, l6, l7, l8, l9, l10] st S Q = pm_V d 124 258 [l0, l1, l2, l3, .int xi, l5, l6, l7, l8, l9, l10] (.int xi :: st) S Q := pv_iload (pm_cdi rfl dX7_begins_256) rfl
theorem q124_258 : pm_V d 124 258 [l0, l1, l2, l3, l4, l5, l6, l7, l8, l9, l10] st S Q = pm_V d 124 259 [l0, l1, l2, l3, l4, l5, l6, l7, l8, l9, l10] (.int 1 :: st) S Q := pv_iconst (pm_cdi rfl dX7_begins_258) (by decide +kernel)
theorem q124_259 : pm_V d 124 259 [l0, l1, l2, l3, l4, l5, l6, l7, l8, l9, l10] (.int yi :: .int xi :: st) S Q = if xi = yi then pm_V d 124 262 [l0, l1, l2, l3, l4, l5, l6, l7, l8, l9, l10] st S Q else pm_V d 124 282 [l0, l1, l2, l3, l4, l5, l6, l7, l8, l9, l10] st S Q := pv_icmp_ne (pm_cdi rfl dX7_begins_259) rfl
theorem q124_262 : pm_V d 124 262 [.ref xn, l1, l2, l3, l4, l5, l6, l7, l8, l9, l10] st S Q = pm_V d 124 263 [.ref xn, l1, l2, l3, l4, l5, l6, l7, l8, l9, l10] (.ref xn :: st) S Q := pv_aload_n (pm_cdi rfl dX7_begins_262) rfl
theorem q124_263 : pm_V d 124 263 [.ref xn, l1, l2, l3, l4, l5, l6, l7, l8, l9, l10] st S Q = pm_V d 124 264 [.ref xn, l1, l2, l3, l4, l5, l6, l7, l8, l9, l10] (.ref xn :: st) S Q := pv_aload_n (pm_cdi rfl dX7_begins_263) rfl
theorem q124_264 (hs : pm_sh S an = .inr 7) : pm_V d 124 264 [l0, l1, l2, l3, l4, l5, l6, l7, l8, l9, l10] (.ref an :: st) S Q = pm_V d 124 267 [l0, l1, l2, l3, l4, l5, l6, l7, l8, l9, l10] (va_rf (pm_gr S an 26) :: st) S Q := pv_getA (pm_cdi rfl dX7_begins_264) (by decide +kernel) (by decide +kernel) (by decide +kernel) hs
theorem q124_267 : pm_V d 124 267 [l0, l1, l2, .int xi, l4, l5, l6, l7, l8, l9, l10] st S Q = pm_V d 124 268 [l0, l1, l2, .int xi, l4, l5, l6, l7, l8, l9, l10] (.int xi :: st) S Q := pv_iload_n (pm_cdi rfl dX7_begins_267) rfl
theorem q124_268 (hs : pm_ar S an 0 xi = true) : pm_V d 124 268 [l0, l1, l2, l3, l4, l5, l6, l7, l8, l9, l10] (.int xi :: .ref an :: st) S Q = pm_V d 124 269 [l0, l1, l2, l3, l4, l5, l6, l7, l8, l9, l10] (.int (pm_zi S an xi.toNatClampNeg) :: st) S Q := pv_iald (pm_cdi rfl dX7_begins_268) hs
theorem q124_269 : pm_V d 124 269 [l0, l1, l2, l3, l4, l5, l6, l7, l8, l9, l10] st S Q = pm_V d 124 270 [l0, l1, l2, l3, l4, l5, l6, l7, l8, l9, l10] (.int 0 :: st) S Q := pv_iconst (pm_cdi rfl dX7_begins_269) (by decide +kernel)
theorem q124_270 : pm_V d 124 270 [.ref xn, l1, l2, l3, l4, l5, l6, l7, l8, l9, l10] st S Q = pm_V d 124 271 [.ref xn, l1, l2, l3, l4, l5, l6, l7, l8, l9, l10] (.ref xn :: st) S Q := pv_aload_n (pm_cdi rfl dX7_begins_270) rfl
theorem q124_271 : pm_V d 124 271 [l0, .int xi, l2, l3, l4, l5, l6, l7, l8, l9, l10] st S Q = pm_V d 124 272 [l0, .int xi, l2, l3, l4, l5, l6, l7, l8, l9, l10] (.int xi :: st) S Q := pv_iload_n (pm_cdi rfl dX7_begins_271) rfl
theorem q124_272 : pm_V d 124 272 [l0, l1, l2, l3, l4, .int xi, l6, l7, l8, l9, l10] st S Q = pm_V d 124 274 [l0, l1, l2, l3, l4, .int xi, l6, l7, l8, l9, l10] (.int xi :: st) S Q := pv_iload (pm_cdi rfl dX7_begins_272) rfl
theorem q124_274 (hs : pm_sh S an = .inr 7) : pm_V (d + 1) 124 274 [l0, l1, l2, l3, l4, l5, l6, l7, l8, l9, l10] [.int v1i, .int v0i, .ref an, .int r0i, .int r1i, .ref r2n] S Q = pm_N d 105 [.ref an, .int v0i, .int v1i] S (fun r S' => pm_V (d + 1) 124 277 [l0, l1, l2, l3, l4, l5, l6, l7, l8, l9, l10] (r.toList ++ [.int r0i, .int r1i, .ref r2n]) S' Q) := pv_callV (as := [.int v0i, .int v1i]) (pm_cdi rfl dX7_begins_274) (Or.inl (by decide +kernel)) (by decide +kernel) (show _ = _ from (by decide +kernel : 2 = pm_np 105)) rfl (Nat.le_of_ble_eq_true rfl) (cl := 7) (by decide +kernel) hs
theorem q124_277 (hs : pm_sh S an = .inr 7) : pm_V (d + 1) 124 277 [l0, l1, l2, l3, l4, l5, l6, l7, l8, l9, l10] [.int v2i, .int v1i, .int v0i, .ref an] S Q = pm_N d 120 [.ref an, .int v0i, .int v1i, .int v2i] S (fun r S' => pm_V (d + 1) 124 280 [l0, l1, l2, l3, l4, l5, l6, l7, l8, l9, l10] (r.toList ++ []) S' Q) := pv_callV (as := [.int v0i, .int v1i, .int v2i]) (pm_cdi rfl dX7_begins_277) (Or.inl (by decide +kernel)) (by decide +kernel) (show _ = _ from (by decide +kernel : 3 = pm_np 120)) rfl (Nat.le_of_ble_eq_true rfl) (cl := 7) (by decide +kernel) hs
theorem q124_280 : pm_V d 124 280 [l0, l1, l2, l3, l4, l5, l6, l7, l8, l9, l10] st S Q = pm_V d 124 281 [l0, l1, l2, l3, l4, l5, l6, l7, l8, l9, l10] (.int (-1) :: st) S Q := pv_iconst (pm_cdi rfl dX7_begins_280) (by decide +kernel)
theorem q124_281 : pm_V d 124 281 [l0, l1, l2, l3, l4, l5, l6, l7, l8, l9, l10] [.int xi] S Q = Q (some (.int xi)) S := pv_rI (pm_cdi rfl dX7_begins_281) (by decide +kernel)
theorem q124_282 : pm_V d 124 282 [.ref xn, l1, l2, l3, l4, l5, l6, l7, l8, l9, l10] st S Q = pm_V d 124 283 [.ref xn, l1, l2, l3, l4, l5, l6, l7, l8, l9, l10] (.ref xn :: st) S Q := pv_aload_n (pm_cdi rfl dX7_begins_282) rfl
theorem q124_283 : pm_V d 124 283 [l0, .int xi, l2, l3, l4, l5, l6, l7, l8, l9, l10] st S Q = pm_V d 124 284 [l0, .int xi, l2, l3, l4, l5, l6, l7, l8, l9, l10] (.int xi :: st) S Q := pv_iload_n (pm_cdi rfl dX7_begins_283) rfl
theorem q124_284 : pm_V d 124 284 [l0, l1, .int xi, l3, l4, l5, l6, l7, l8, l9, l10] st S Q = pm_V d 124 285 [l0, l1, .int xi, l3, l4, l5, l6, l7, l8, l9, l10] (.int xi :: st) S Q := pv_iload_n (pm_cdi rfl dX7_begins_284) rfl
theorem q124_285 (hs : pm_sh S an = .inr 7) : pm_V (d + 1) 124 285 [l0, l1, l2, l3, l4, l5, l6, l7, l8, l9, l10] [.int v1i, .int v0i, .ref an] S Q = pm_N d 125 [.ref an, .int v0i, .int v1i] S (fun r S' => pm_V (d + 1) 124 288 [l0, l1, l2, l3, l4, l5, l6, l7, l8, l9, l10] (r.toList ++ []) S' Q) := pv_callV (as := [.int v0i, .int v1i]) (pm_cdi rfl dX7_begins_285) (Or.inl (by decide +kernel)) (by decide +kernel) (show _ = _ from (by decide +kernel : 2 = pm_np 125)) rfl (Nat.le_of_ble_eq_true rfl) (cl := 7) (by decide +kernel) hs
theorem q124_288 : pm_V d 124 288 [l0, l1, l2, l3, l4, l5, l6, l7, l8, l9, l10] [.int xi] S Q = Q (some (.int xi)) S := pv_rI (pm_cdi rfl dX7_begins_288) (by decide +kernel)
theorem q124_289 : pm_V d 124 289 [.ref xn, l1, l2, l3, l4, l5, l6, l7, l8, l9, l10] st S Q = pm_V d 124 290 [.ref xn, l1, l2, l3, l4, l5, l6, l7, l8, l9, l10] (.ref xn :: st) S Q := pv_aload_n (pm_cdi rfl dX7_begins_289) rfl
theorem q124_290 : pm_V d 124 290 [.ref xn, l1, l2, l3, l4, l5, l6, l7, l8, l9, l10] st S Q = pm_V d 124 291 [.ref xn, l1, l2, l3, l4, l5, l6, l7, l8, l9, l10] (.ref xn :: st) S Q := pv_aload_n (pm_cdi rfl dX7_begins_290) rfl
theorem q124_291 (hs : pm_sh S an = .inr 7) : pm_V d 124 291 [l0, l1, l2, l3, l4, l5, l6, l7, l8, l9, l10] (.ref an :: st) S Q = pm_V d 124 294 [l0, l1, l2, l3, l4, l5, l6, l7, l8, l9, l10] (va_rf (pm_gr S an 26) :: st) S Q := pv_getA (pm_cdi rfl dX7_begins_291) (by decide +kernel) (by decide +kernel) (by decide +kernel) hs
theorem q124_294 : pm_V d 124 294 [l0, l1, l2, .int xi, l4, l5, l6, l7, l8, l9, l10] st S Q = pm_V d 124 295 [l0, l1, l2, .int xi, l4, l5, l6, l7, l8, l9, l10] (.int xi :: st) S Q := pv_iload_n (pm_cdi rfl dX7_begins_294) rfl
theorem q124_295 (hs : pm_ar S an 0 xi = true) : pm_V d 124 295 [l0, l1, l2, l3, l4, l5, l6, l7, l8, l9, l10] (.int xi :: .ref an :: st) S Q = pm_V d 124 296 [l0, l1, l2, l3, l4, l5, l6, l7, l8, l9, l10] (.int (pm_zi S an xi.toNatClampNeg) :: st) S Q := pv_iald (pm_cdi rfl dX7_begins_295) hs
theorem q124_296 : pm_V d 124 296 [l0, l1, l2, l3, .int xi, l5, l6, l7, l8, l9, l10] st S Q = pm_V d 124 298 [l0, l1, l2, l3, .int xi, l5, l6, l7, l8, l9, l10] (.int xi :: st) S Q := pv_iload (pm_cdi rfl dX7_begins_296) rfl
theorem q124_298 : pm_V d 124 298 [l0, l1, l2, l3, l4, .int xi, l6, l7, l8, l9, l10] st S Q = pm_V d 124 300 [l0, l1, l2, l3, l4, .int xi, l6, l7, l8, l9, l10] (.int xi :: st) S Q := pv_iload (pm_cdi rfl dX7_begins_298) rfl
theorem q124_300 (hs : pm_sh S an = .inr 7) : pm_V (d + 1) 124 300 [l0, l1, l2, l3, l4, l5, l6, l7, l8, l9, l10] [.int v2i, .int v1i, .int v0i, .ref an] S Q = pm_N d 120 [.ref an, .int v0i, .int v1i, .int v2i] S (fun r S' => pm_V (d + 1) 124 303 [l0, l1, l2, l3, l4, l5, l6, l7, l8, l9, l10] (r.toList ++ []) S' Q) := pv_callV (as := [.int v0i, .int v1i, .int v2i]) (pm_cdi rfl dX7_begins_300) (Or.inl (by decide +kernel)) (by decide +kernel) (show _ = _ from (by decide +kernel : 3 = pm_np 120)) rfl (Nat.le_of_ble_eq_true rfl) (cl := 7) (by decide +kernel) hs
theorem q124_303 : pm_V d 124 303 [l0, l1, l2, l3, l4, l5, l6, l7, l8, l9, l10] st S Q = pm_V d 124 304 [l0, l1, l2, l3, l4, l5, l6, l7, l8, l9, l10] (.int (-1) :: st) S Q := pv_iconst (pm_cdi rfl dX7_begins_303) (by decide +kernel)
theorem q124_304 : pm_V d 124 304 [l0, l1, l2, l3, l4, l5, l6, l7, l8, l9, l10] [.int xi] S Q = Q (some (.int xi)) S := pv_rI (pm_cdi rfl dX7_begins_304) (by decide +kernel)
theorem q124_e : pm_N d 124 [.ref an, .int v0i] S Q = pm_V d 124 0 [.ref an, .int v0i, pm_j, pm_j, pm_j, pm_j, pm_j, pm_j, pm_j, pm_j, pm_j] [] S Q := pv_ent (Nat.le_of_ble_eq_true rfl) rfl
/-! 125: ViewsJoinsModel.next(II)I -/
theorem dX7_next_0 : decode cX7_next 0 = .ok (.aload_n 0, 1) := by decide +kernel
theorem dX7_next_1 : decode cX7_next 1 = .ok (.getfield 105, 3) := by decide +kernel
theorem dX7_next_4 : decode cX7_next 4 = .ok (.iload_n 2, 1) := by decide +kernel
theorem dX7_next_5 : decode cX7_next 5 = .ok (.aload_n 0, 1) := by decide +kernel
theorem dX7_next_6 : decode cX7_next 6 = .ok (.iload_n 1, 1) := by decide +kernel
theorem dX7_next_7 : decode cX7_next 7 = .ok (.aload_n 0, 1) := by decide +kernel
theorem dX7_next_8 : decode cX7_next 8 = .ok (.getfield 99, 3) := by decide +kernel
theorem dX7_next_11 : decode cX7_next 11 = .ok (.iload_n 2, 1) := by decide +kernel
theorem dX7_next_12 : decode cX7_next 12 = .ok (.iaload, 1) := by decide +kernel
theorem dX7_next_13 : decode cX7_next 13 = .ok (.aload_n 0, 1) := by decide +kernel
theorem dX7_next_14 : decode cX7_next 14 = .ok (.getfield 105, 3) := by decide +kernel
theorem dX7_next_17 : decode cX7_next 17 = .ok (.iload_n 2, 1) := by decide +kernel
theorem dX7_next_18 : decode cX7_next 18 = .ok (.iaload, 1) := by decide +kernel
theorem dX7_next_19 : decode cX7_next 19 = .ok (.invokevirtual 258, 3) := by decide +kernel
theorem dX7_next_22 : decode cX7_next 22 = .ok (.iastore, 1) := by decide +kernel
theorem dX7_next_23 : decode cX7_next 23 = .ok (.aload_n 0, 1) := by decide +kernel
theorem dX7_next_24 : decode cX7_next 24 = .ok (.getfield 105, 3) := by decide +kernel
theorem dX7_next_27 : decode cX7_next 27 = .ok (.iload_n 2, 1) := by decide +kernel
theorem dX7_next_28 : decode cX7_next 28 = .ok (.iaload, 1) := by decide +kernel
theorem dX7_next_29 : decode cX7_next 29 = .ok (.ifCond .ge 5, 3) := by decide +kernel
theorem dX7_next_32 : decode cX7_next 32 = .ok (.iconst 0, 1) := by decide +kernel
theorem dX7_next_33 : decode cX7_next 33 = .ok (.ireturn, 1) := by decide +kernel
theorem dX7_next_34 : decode cX7_next 34 = .ok (.aload_n 0, 1) := by decide +kernel
theorem dX7_next_35 : decode cX7_next 35 = .ok (.aload_n 0, 1) := by decide +kernel
theorem dX7_next_36 : decode cX7_next 36 = .ok (.getfield 81, 3) := by decide +kernel
theorem dX7_next_39 : decode cX7_next 39 = .ok (.aload_n 0, 1) := by decide +kernel
theorem dX7_next_40 : decode cX7_next 40 = .ok (.getfield 93, 3) := by decide +kernel
theorem dX7_next_43 : decode cX7_next 43 = .ok (.iload_n 2, 1) := by decide +kernel
theorem dX7_next_44 : decode cX7_next 44 = .ok (.iaload, 1) := by decide +kernel
theorem dX7_next_45 : decode cX7_next 45 = .ok (.iaload, 1) := by decide +kernel
theorem dX7_next_46 : decode cX7_next 46 = .ok (.iconst 0, 1) := by decide +kernel
theorem dX7_next_47 : decode cX7_next 47 = .ok (.aload_n 0, 1) := by decide +kernel
theorem dX7_next_48 : decode cX7_next 48 = .ok (.iload_n 1, 1) := by decide +kernel
theorem dX7_next_49 : decode cX7_next 49 = .ok (.aload_n 0, 1) := by decide +kernel
theorem dX7_next_50 : decode cX7_next 50 = .ok (.getfield 105, 3) := by decide +kernel
theorem dX7_next_53 : decode cX7_next 53 = .ok (.iload_n 2, 1) := by decide +kernel
theorem dX7_next_54 : decode cX7_next 54 = .ok (.iaload, 1) := by decide +kernel
theorem dX7_next_55 : decode cX7_next 55 = .ok (.invokevirtual 185, 3) := by decide +kernel
theorem dX7_next_58 : decode cX7_next 58 = .ok (.invokevirtual 238, 3) := by decide +kernel
theorem dX7_next_61 : decode cX7_next 61 = .ok (.iconst (-1), 1) := by decide +kernel
theorem dX7_next_62 : decode cX7_next 62 = .ok (.ireturn, 1) := by decide +kernel
theorem q125_0 : pm_V d 125 0 [.ref xn, l1, l2] st S Q = pm_V d 125 1 [.ref xn, l1, l2] (.ref xn :: st) S Q := pv_aload_n (pm_cdi rfl dX7_next_0) rfl
theorem q125_1 (hs : pm_sh S an = .inr 7) : pm_V d 125 1 [l0, l1, l2] (.ref an :: st) S Q = pm_V d 125 4 [l0, l1, l2] (va_rf (pm_gr S an 40) :: st) S Q := pv_getA (pm_cdi rfl dX7_next_1) (by decide +kernel) (by decide +kernel) (by decide +kernel) hs
theorem q125_4 : pm_V d 125 4 [l0, l1, .int xi] st S Q = pm_V d 125 5 [l0, l1, .int xi] (.int xi :: st) S Q := pv_iload_n (pm_cdi rfl dX7_next_4) rfl
theorem q125_5 : pm_V d 125 5 [.ref xn, l1, l2] st S Q = pm_V d 125 6 [.ref xn, l1, l2] (.ref xn :: st) S Q := pv_aload_n (pm_cdi rfl dX7_next_5) rfl
theorem q125_6 : pm_V d 125 6 [l0, .int xi, l2] st S Q = pm_V d 125 7 [l0, .int xi, l2] (.int xi :: st) S Q := pv_iload_n (pm_cdi rfl dX7_next_6) rfl
theorem q125_7 : pm_V d 125 7 [.ref xn, l1, l2] st S Q = pm_V d 125 8 [.ref xn, l1, l2] (.ref xn :: st) S Q := pv_aload_n (pm_cdi rfl dX7_next_7) rfl
theorem q125_8 (hs : pm_sh S an = .inr 7) : pm_V d 125 8 [l0, l1, l2] (.ref an :: st) S Q = pm_V d 125 11 [l0, l1, l2] (va_rf (pm_gr S an 38) :: st) S Q := pv_getA (pm_cdi rfl dX7_next_8) (by decide +kernel) (by decide +kernel) (by decide +kernel) hs
theorem q125_11 : pm_V d 125 11 [l0, l1, .int xi] st S Q = pm_V d 125 12 [l0, l1, .int xi] (.int xi :: st) S Q := pv_iload_n (pm_cdi rfl dX7_next_11) rfl
theorem q125_12 (hs : pm_ar S an 0 xi = true) : pm_V d 125 12 [l0, l1, l2] (.int xi :: .ref an :: st) S Q = pm_V d 125 13 [l0, l1, l2] (.int (pm_zi S an xi.toNatClampNeg) :: st) S Q := pv_iald (pm_cdi rfl dX7_next_12) hs
theorem q125_13 : pm_V d 125 13 [.ref xn, l1, l2] st S Q = pm_V d 125 14 [.ref xn, l1, l2] (.ref xn :: st) S Q := pv_aload_n (pm_cdi rfl dX7_next_13) rfl
theorem q125_14 (hs : pm_sh S an = .inr 7) : pm_V d 125 14 [l0, l1, l2] (.ref an :: st) S Q = pm_V d 125 17 [l0, l1, l2] (va_rf (pm_gr S an 40) :: st) S Q := pv_getA (pm_cdi rfl dX7_next_14) (by decide +kernel) (by decide +kernel) (by decide +kernel) hs
theorem q125_17 : pm_V d 125 17 [l0, l1, .int xi] st S Q = pm_V d 125 18 [l0, l1, .int xi] (.int xi :: st) S Q := pv_iload_n (pm_cdi rfl dX7_next_17) rfl
theorem q125_18 (hs : pm_ar S an 0 xi = true) : pm_V d 125 18 [l0, l1, l2] (.int xi :: .ref an :: st) S Q = pm_V d 125 19 [l0, l1, l2] (.int (pm_zi S an xi.toNatClampNeg) :: st) S Q := pv_iald (pm_cdi rfl dX7_next_18) hs
theorem q125_19 (hs : pm_sh S an = .inr 7) : pm_V (d + 1) 125 19 [l0, l1, l2] [.int v2i, .int v1i, .int v0i, .ref an, .int r0i, .ref r1n] S Q = pm_N d 121 [.ref an, .int v0i, .int v1i, .int v2i] S (fun r S' => pm_V (d + 1) 125 22 [l0, l1, l2] (r.toList ++ [.int r0i, .ref r1n]) S' Q) := pv_callV (as := [.int v0i, .int v1i, .int v2i]) (pm_cdi rfl dX7_next_19) (Or.inl (by decide +kernel)) (by decide +kernel) (show _ = _ from (by decide +kernel : 3 = pm_np 121)) rfl (Nat.le_of_ble_eq_true rfl) (cl := 7) (by decide +kernel) hs
theorem q125_22 (hs : pm_ar S an 0 xi = true) : pm_V d 125 22 [l0, l1, l2] (.int vi :: .int xi :: .ref an :: st) S Q = pm_V d 125 23 [l0, l1, l2] st (pm_szi S an xi.toNatClampNeg vi) Q := pv_iast (pm_cdi rfl dX7_next_22) hs
theorem q125_23 : pm_V d 125 23 [.ref xn, l1, l2] st S Q = pm_V d 125 24 [.ref xn, l1, l2] (.ref xn :: st) S Q := pv_aload_n (pm_cdi rfl dX7_next_23) rfl
theorem q125_24 (hs : pm_sh S an = .inr 7) : pm_V d 125 24 [l0, l1, l2] (.ref an :: st) S Q = pm_V d 125 27 [l0, l1, l2] (va_rf (pm_gr S an 40) :: st) S Q := pv_getA (pm_cdi rfl dX7_next_24) (by decide +kernel) (by decide +kernel) (by decide +kernel) hs
theorem q125_27 : pm_V d 125 27 [l0, l1, .int xi] st S Q = pm_V d 125 28 [l0, l1, .int xi] (.int xi :: st) S Q := pv_iload_n (pm_cdi rfl dX7_next_27) rfl
theorem q125_28 (hs : pm_ar S an 0 xi = true) : pm_V d 125 28 [l0, l1, l2] (.int xi :: .ref an :: st) S Q = pm_V d 125 29 [l0, l1, l2] (.int (pm_zi S an xi.toNatClampNeg) :: st) S Q := pv_iald (pm_cdi rfl dX7_next_28) hs
theorem q125_29 : pm_V d 125 29 [l0, l1, l2] (.int xi :: st) S Q = if xi < 0 then pm_V d 125 32 [l0, l1, l2] st S Q else pm_V d 125 34 [l0, l1, l2] st S Q := pv_if_ge (pm_cdi rfl dX7_next_29) rfl
theorem q125_32 : pm_V d 125 32 [l0, l1, l2] st S Q = pm_V d 125 33 [l0, l1, l2] (.int 0 :: st) S Q := pv_iconst (pm_cdi rfl dX7_next_32) (by decide +kernel)
theorem q125_33 : pm_V d 125 33 [l0, l1, l2] [.int xi] S Q = Q (some (.int xi)) S := pv_rI (pm_cdi rfl dX7_next_33) (by decide +kernel)
theorem q125_34 : pm_V d 125 34 [.ref xn, l1, l2] st S Q = pm_V d 125 35 [.ref xn, l1, l2] (.ref xn :: st) S Q := pv_aload_n (pm_cdi rfl dX7_next_34) rfl
theorem q125_35 : pm_V d 125 35 [.ref xn, l1, l2] st S Q = pm_V d 125 36 [.ref xn, l1, l2] (.ref xn :: st) S Q := pv_aload_n (pm_cdi rfl dX7_next_35) rfl
theorem q125_36 (hs : pm_sh S an = .inr 7) : pm_V d 125 36 [l0, l1, l2] (.ref an :: st) S Q = pm_V d 125 39 [l0, l1, l2] (va_rf (pm_gr S an 26) :: st) S Q := pv_getA (pm_cdi rfl dX7_next_36) (by decide +kernel) (by decide +kernel) (by decide +kernel) hs
theorem q125_39 : pm_V d 125 39 [.ref xn, l1, l2] st S Q = pm_V d 125 40 [.ref xn, l1, l2] (.ref xn :: st) S Q := pv_aload_n (pm_cdi rfl dX7_next_39) rfl
theorem q125_40 (hs : pm_sh S an = .inr 7) : pm_V d 125 40 [l0, l1, l2] (.ref an :: st) S Q = pm_V d 125 43 [l0, l1, l2] (va_rf (pm_gr S an 36) :: st) S Q := pv_getA (pm_cdi rfl dX7_next_40) (by decide +kernel) (by decide +kernel) (by decide +kernel) hs
theorem q125_43 : pm_V d 125 43 [l0, l1, .int xi] st S Q = pm_V d 125 44 [l0, l1, .int xi] (.int xi :: st) S Q := pv_iload_n (pm_cdi rfl dX7_next_43) rfl
theorem q125_44 (hs : pm_ar S an 0 xi = true) : pm_V d 125 44 [l0, l1, l2] (.int xi :: .ref an :: st) S Q = pm_V d 125 45 [l0, l1, l2] (.int (pm_zi S an xi.toNatClampNeg) :: st) S Q := pv_iald (pm_cdi rfl dX7_next_44) hs
theorem q125_45 (hs : pm_ar S an 0 xi = true) : pm_V d 125 45 [l0, l1, l2] (.int xi :: .ref an :: st) S Q = pm_V d 125 46 [l0, l1, l2] (.int (pm_zi S an xi.toNatClampNeg) :: st) S Q := pv_iald (pm_cdi rfl dX7_next_45) hs
theorem q125_46 : pm_V d 125 46 [l0, l1, l2] st S Q = pm_V d 125 47 [l0, l1, l2] (.int 0 :: st) S Q := pv_iconst (pm_cdi rfl dX7_next_46) (by decide +kernel)
theorem q125_47 : pm_V d 125 47 [.ref xn, l1, l2] st S Q = pm_V d 125 48 [.ref xn, l1, l2] (.ref xn :: st) S Q := pv_aload_n (pm_cdi rfl dX7_next_47) rfl
theorem q125_48 : pm_V d 125 48 [l0, .int xi, l2] st S Q = pm_V d 125 49 [l0, .int xi, l2] (.int xi :: st) S Q := pv_iload_n (pm_cdi rfl dX7_next_48) rfl
theorem q125_49 : pm_V d 125 49 [.ref xn, l1, l2] st S Q = pm_V d 125 50 [.ref xn, l1, l2] (.ref xn :: st) S Q := pv_aload_n (pm_cdi rfl dX7_next_49) rfl
theorem q125_50 (hs : pm_sh S an = .inr 7) : pm_V d 125 50 [l0, l1, l2] (.ref an :: st) S Q = pm_V d 125 53 [l0, l1, l2] (va_rf (pm_gr S an 40) :: st) S Q := pv_getA (pm_cdi rfl dX7_next_50) (by decide +kernel) (by decide +kernel) (by decide +kernel) hs
theorem q125_53 : pm_V d 125 53 [l0, l1, .int xi] st S Q = pm_V d 125 54 [l0, l1, .int xi] (.int xi :: st) S Q := pv_iload_n (pm_cdi rfl dX7_next_53) rfl
theorem q125_54 (hs : pm_ar S an 0 xi = true) : pm_V d 125 54 [l0, l1, l2] (.int xi :: .ref an :: st) S Q = pm_V d 125 55 [l0, l1, l2] (.int (pm_zi S an xi.toNatClampNeg) :: st) S Q := pv_iald (pm_cdi rfl dX7_next_54) hs
theorem q125_55 (hs : pm_sh S an = .inr 7) : pm_V (d + 1) 125 55 [l0, l1, l2] [.int v1i, .int v0i, .ref an, .int r0i, .int r1i, .ref r2n] S Q = pm_N d 105 [.ref an, .int v0i, .int v1i] S (fun r S' => pm_V (d + 1) 125 58 [l0, l1, l2] (r.toList ++ [.int r0i, .int r1i, .ref r2n]) S' Q) := pv_callV (as := [.int v0i, .int v1i]) (pm_cdi rfl dX7_next_55) (Or.inl (by decide +kernel)) (by decide +kernel) (show _ = _ from (by decide +kernel : 2 = pm_np 105)) rfl (Nat.le_of_ble_eq_true rfl) (cl := 7) (by decide +kernel) hs
theorem q125_58 (hs : pm_sh S an = .inr 7) : pm_V (d + 1) 125 58 [l0, l1, l2] [.int v2i, .int v1i, .int v0i, .ref an] S Q = pm_N d 120 [.ref an, .int v0i, .int v1i, .int v2i] S (fun r S' => pm_V (d + 1) 125 61 [l0, l1, l2] (r.toList ++ []) S' Q) := pv_callV (as := [.int v0i, .int v1i, .int v2i]) (pm_cdi rfl dX7_next_58) (Or.inl (by decide +kernel)) (by decide +kernel) (show _ = _ from (by decide +kernel : 3 = pm_np 120)) rfl (Nat.le_of_ble_eq_true rfl) (cl := 7) (by decide +kernel) hs
theorem q125_61 : pm_V d 125 61 [l0, l1, l2] st S Q = pm_V d 125 62 [l0, l1, l2] (.int (-1) :: st) S Q := pv_iconst (pm_cdi rfl dX7_next_61) (by decide +kernel)
theorem q125_62 : pm_V d 125 62 [l0, l1, l2] [.int xi] S Q = Q (some (.int xi)) S := pv_rI (pm_cdi rfl dX7_next_62) (by decide +kernel)
theorem q125_e : pm_N d 125 [.ref an, .int v0i, .int v1i] S Q = pm_V d 125 0 [.ref an, .int v0i, .int v1i] [] S Q := pv_ent (Nat.le_of_ble_eq_true rfl) rfl
/-! 126: ViewsJoinsModel.manyOf(III)I -/
theorem dX7_manyOf_0 : decode cX7_manyOf 0 = .ok (.iconst 0, 1) := by decide +kernel
theorem dX7_manyOf_1 : decode cX7_manyOf 1 = .ok (.istore 4, 2) := by decide +kernel
theorem dX7_manyOf_3 : decode cX7_manyOf 3 = .ok (.iconst 0, 1) := by decide +kernel
theorem dX7_manyOf_4 : decode cX7_manyOf 4 = .ok (.istore 5, 2) := by decide +kernel
theorem dX7_manyOf_6 : decode cX7_manyOf 6 = .ok (.iload 5, 2) := by decide +kernel
theorem dX7_manyOf_8 : decode cX7_manyOf 8 = .ok (.aload_n 0, 1) := by decide +kernel
theorem dX7_manyOf_9 : decode cX7_manyOf 9 = .ok (.getfield 35, 3) := by decide +kernel
theorem dX7_manyOf_12 : decode cX7_manyOf 12 = .ok (.iload_n 1, 1) := by decide +kernel
theorem dX7_manyOf_13 : decode cX7_manyOf 13 = .ok (.iaload, 1) := by decide +kernel
theorem dX7_manyOf_14 : decode cX7_manyOf 14 = .ok (.if_icmp .ge 86, 3) := by decide +kernel
theorem dX7_manyOf_17 : decode cX7_manyOf 17 = .ok (.iload_n 2, 1) := by decide +kernel
theorem dX7_manyOf_18 : decode cX7_manyOf 18 = .ok (.ifCond .ne 22, 3) := by decide +kernel
theorem dX7_manyOf_21 : decode cX7_manyOf 21 = .ok (.aload_n 0, 1) := by decide +kernel
theorem dX7_manyOf_22 : decode cX7_manyOf 22 = .ok (.iload_n 1, 1) := by decide +kernel
theorem dX7_manyOf_23 : decode cX7_manyOf 23 = .ok (.iload 5, 2) := by decide +kernel
theorem dX7_manyOf_25 : decode cX7_manyOf 25 = .ok (.invokevirtual 181, 3) := by decide +kernel
theorem dX7_manyOf_28 : decode cX7_manyOf 28 = .ok (.iload_n 3, 1) := by decide +kernel
theorem dX7_manyOf_29 : decode cX7_manyOf 29 = .ok (.if_icmp .ne 7, 3) := by decide +kernel
theorem dX7_manyOf_32 : decode cX7_manyOf 32 = .ok (.iconst 1, 1) := by decide +kernel
theorem dX7_manyOf_33 : decode cX7_manyOf 33 = .ok (.goto 44, 3) := by decide +kernel
theorem dX7_manyOf_36 : decode cX7_manyOf 36 = .ok (.iconst 0, 1) := by decide +kernel
theorem dX7_manyOf_37 : decode cX7_manyOf 37 = .ok (.goto 40, 3) := by decide +kernel
theorem dX7_manyOf_40 : decode cX7_manyOf 40 = .ok (.aload_n 0, 1) := by decide +kernel
theorem dX7_manyOf_41 : decode cX7_manyOf 41 = .ok (.iload_n 1, 1) := by decide +kernel
theorem dX7_manyOf_42 : decode cX7_manyOf 42 = .ok (.iload 5, 2) := by decide +kernel
theorem dX7_manyOf_44 : decode cX7_manyOf 44 = .ok (.invokevirtual 181, 3) := by decide +kernel
theorem dX7_manyOf_47 : decode cX7_manyOf 47 = .ok (.aload_n 0, 1) := by decide +kernel
theorem dX7_manyOf_48 : decode cX7_manyOf 48 = .ok (.iload_n 1, 1) := by decide +kernel
theorem dX7_manyOf_49 : decode cX7_manyOf 49 = .ok (.iload_n 3, 1) := by decide +kernel
theorem dX7_manyOf_50 : decode cX7_manyOf 50 = .ok (.invokevirtual 181, 3) := by decide +kernel
theorem dX7_manyOf_53 : decode cX7_manyOf 53 = .ok (.if_icmp .ne 23, 3) := by decide +kernel
theorem dX7_manyOf_56 : decode cX7_manyOf 56 = .ok (.aload_n 0, 1) := by decide +kernel
theorem dX7_manyOf_57 : decode cX7_manyOf 57 = .ok (.iload_n 1, 1) := by decide +kernel
theorem dX7_manyOf_58 : decode cX7_manyOf 58 = .ok (.iload 5, 2) := by decide +kernel
theorem dX7_manyOf_60 : decode cX7_manyOf 60 = .ok (.invokevirtual 185, 3) := by decide +kernel
theorem dX7_manyOf_63 : decode cX7_manyOf 63 = .ok (.aload_n 0, 1) := by decide +kernel
theorem dX7_manyOf_64 : decode cX7_manyOf 64 = .ok (.iload_n 1, 1) := by decide +kernel
theorem dX7_manyOf_65 : decode cX7_manyOf 65 = .ok (.iload_n 3, 1) := by decide +kernel
theorem dX7_manyOf_66 : decode cX7_manyOf 66 = .ok (.invokevirtual 185, 3) := by decide +kernel
theorem dX7_manyOf_69 : decode cX7_manyOf 69 = .ok (.if_icmp .ne 7, 3) := by decide +kernel
theorem dX7_manyOf_72 : decode cX7_manyOf 72 = .ok (.iconst 1, 1) := by decide +kernel
theorem dX7_manyOf_73 : decode cX7_manyOf 73 = .ok (.goto 4, 3) := by decide +kernel
theorem dX7_manyOf_76 : decode cX7_manyOf 76 = .ok (.iconst 0, 1) := by decide +kernel
theorem dX7_manyOf_77 : decode cX7_manyOf 77 = .ok (.istore 6, 2) := by decide +kernel
theorem dX7_manyOf_79 : decode cX7_manyOf 79 = .ok (.iload 4, 2) := by decide +kernel
theorem dX7_manyOf_81 : decode cX7_manyOf 81 = .ok (.iload 6, 2) := by decide +kernel
theorem dX7_manyOf_83 : decode cX7_manyOf 83 = .ok (.ifCond .eq 7, 3) := by decide +kernel
theorem dX7_manyOf_86 : decode cX7_manyOf 86 = .ok (.iconst 1, 1) := by decide +kernel
theorem dX7_manyOf_87 : decode cX7_manyOf 87 = .ok (.goto 4, 3) := by decide +kernel
theorem dX7_manyOf_90 : decode cX7_manyOf 90 = .ok (.iconst 0, 1) := by decide +kernel
theorem dX7_manyOf_91 : decode cX7_manyOf 91 = .ok (.iadd, 1) := by decide +kernel
theorem dX7_manyOf_92 : decode cX7_manyOf 92 = .ok (.istore 4, 2) := by decide +kernel
theorem dX7_manyOf_94 : decode cX7_manyOf 94 = .ok (.iinc 5 1, 3) := by decide +kernel
theorem dX7_manyOf_97 : decode cX7_manyOf 97 = .ok (.goto (-91), 3) := by decide +kernel
theorem dX7_manyOf_100 : decode cX7_manyOf 100 = .ok (.iload 4, 2) := by decide +kernel
theorem dX7_manyOf_102 : decode cX7_manyOf 102 = .ok (.ireturn, 1) := by decide +kernel
theorem q126_0 : pm_V d 126 0 [l0, l1, l2, l3, l4, l5, l6] st S Q = pm_V d 126 1 [l0, l1, l2, l3, l4, l5, l6] (.int 0 :: st) S Q := pv_iconst (pm_cdi rfl dX7_manyOf_0) (by decide +kernel)
theorem q126_1 : pm_V d 126 1 [l0, l1, l2, .int yi, l4, l5, l6] (.int xi :: st) S Q = pm_V d 126 3 [l0, l1, l2, .int yi, .int xi, l5, l6] st S Q := pv_istore (pm_cdi rfl dX7_manyOf_1) rfl
theorem q126_3 : pm_V d 126 3 [l0, l1, l2, l3, l4, l5, l6] st S Q = pm_V d 126 4 [l0, l1, l2, l3, l4, l5, l6] (.int 0 :: st) S Q := pv_iconst (pm_cdi rfl dX7_manyOf_3) (by decide +kernel)
theorem q126_4 : pm_V d 126 4 [l0, l1, l2, l3, .int yi, l5, l6] (.int xi :: st) S Q = pm_V d 126 6 [l0, l1, l2, l3, .int yi, .int xi, l6] st S Q := pv_istore (pm_cdi rfl dX7_manyOf_4) rfl
theorem q126_6 : pm_V d 126 6 [l0, l1, l2, l3, l4, .int xi, l6] st S Q = pm_V d 126 8 [l0, l1, l2, l3, l4, .int xi, l6] (.int xi :: st) S Q := pv_iload (pm_cdi rfl dX7_manyOf_6) rfl
theorem q126_8 : pm_V d 126 8 [.ref xn, l1, l2, l3, l4, l5, l6] st S Q = pm_V d 126 9 [.ref xn, l1, l2, l3, l4, l5, l6] (.ref xn :: st) S Q := pv_aload_n (pm_cdi rfl dX7_manyOf_8) rfl
theorem q126_9 (hs : pm_sh S an = .inr 7) : pm_V d 126 9 [l0, l1, l2, l3, l4, l5, l6] (.ref an :: st) S Q = pm_V d 126 12 [l0, l1, l2, l3, l4, l5, l6] (va_rf (pm_gr S an 9) :: st) S Q := pv_getA (pm_cdi rfl dX7_manyOf_9) (by decide +kernel) (by decide +kernel) (by decide +kernel) hs
theorem q126_12 : pm_V d 126 12 [l0, .int xi, l2, l3, l4, l5, l6] st S Q = pm_V d 126 13 [l0, .int xi, l2, l3, l4, l5, l6] (.int xi :: st) S Q := pv_iload_n (pm_cdi rfl dX7_manyOf_12) rfl
theorem q126_13 (hs : pm_ar S an 0 xi = true) : pm_V d 126 13 [l0, l1, l2, l3, l4, l5, l6] (.int xi :: .ref an :: st) S Q = pm_V d 126 14 [l0, l1, l2, l3, l4, l5, l6] (.int (pm_zi S an xi.toNatClampNeg) :: st) S Q := pv_iald (pm_cdi rfl dX7_manyOf_13) hs
theorem q126_14 : pm_V d 126 14 [l0, l1, l2, l3, l4, l5, l6] (.int yi :: .int xi :: st) S Q = if xi < yi then pm_V d 126 17 [l0, l1, l2, l3, l4, l5, l6] st S Q else pm_V d 126 100 [l0, l1, l2, l3, l4, l5, l6] st S Q := pv_icmp_ge (pm_cdi rfl dX7_manyOf_14) rfl
theorem q126_17 : pm_V d 126 17 [l0, l1, .int xi, l3, l4, l5, l6] st S Q = pm_V d 126 18 [l0, l1, .int xi, l3, l4, l5, l6] (.int xi :: st) S Q := pv_iload_n (pm_cdi rfl dX7_manyOf_17) rfl
theorem q126_18 : pm_V d 126 18 [l0, l1, l2, l3, l4, l5, l6] (.int xi :: st) S Q = if xi = 0 then pm_V d 126 21 [l0, l1, l2, l3, l4, l5, l6] st S Q else pm_V d 126 40 [l0, l1, l2, l3, l4, l5, l6] st S Q := pv_if_ne (pm_cdi rfl dX7_manyOf_18) rfl
theorem q126_21 : pm_V d 126 21 [.ref xn, l1, l2, l3, l4, l5, l6] st S Q = pm_V d 126 22 [.ref xn, l1, l2, l3, l4, l5, l6] (.ref xn :: st) S Q := pv_aload_n (pm_cdi rfl dX7_manyOf_21) rfl
theorem q126_22 : pm_V d 126 22 [l0, .int xi, l2, l3, l4, l5, l6] st S Q = pm_V d 126 23 [l0, .int xi, l2, l3, l4, l5, l6] (.int xi :: st) S Q := pv_iload_n (pm_cdi rfl dX7_manyOf_22) rfl
theorem q126_23 : pm_V d 126 23 [l0, l1, l2, l3, l4, .int xi, l6] st S Q = pm_V d 126 25 [l0, l1, l2, l3, l4, .int xi, l6] (.int xi :: st) S Q := pv_iload (pm_cdi rfl dX7_manyOf_23) rfl
theorem q126_25 (hs : pm_sh S an = .inr 7) : pm_V (d + 1) 126 25 [l0, l1, l2, l3, l4, l5, l6] [.int v1i, .int v0i, .ref an] S Q = pm_N d 104 [.ref an, .int v0i, .int v1i] S (fun r S' => pm_V (d + 1) 126 28 [l0, l1, l2, l3, l4, l5, l6] (r.toList ++ []) S' Q) := pv_callV (as := [.int v0i, .int v1i]) (pm_cdi rfl dX7_manyOf_25) (Or.inl (by decide +kernel)) (by decide +kernel) (show _ = _ from (by decide +kernel : 2 = pm_np 104)) rfl (Nat.le_of_ble_eq_true rfl) (cl := 7) (by decide +kernel) hs
theorem q126_28 : pm_V d 126 28 [l0, l1, l2, .int xi, l4, l5, l6] st S Q = pm_V d 126 29 [l0, l1, l2, .int xi, l4, l5, l6] (.int xi :: st) S Q := pv_iload_n (pm_cdi rfl dX7_manyOf_28) rfl
theorem q126_29 : pm_V d 126 29 [l0, l1, l2, l3, l4, l5, l6] (.int yi :: .int xi :: st) S Q = if xi = yi then pm_V d 126 32 [l0, l1, l2, l3, l4, l5, l6] st S Q else pm_V d 126 36 [l0, l1, l2, l3, l4, l5, l6] st S Q := pv_icmp_ne (pm_cdi rfl dX7_manyOf_29) rfl
theorem q126_32 : pm_V d 126 32 [l0, l1, l2, l3, l4, l5, l6] st S Q = pm_V d 126 33 [l0, l1, l2, l3, l4, l5, l6] (.int 1 :: st) S Q := pv_iconst (pm_cdi rfl dX7_manyOf_32) (by decide +kernel)
theorem q126_33 : pm_V d 126 33 [l0, l1, l2, l3, l4, l5, l6] st S Q = pm_V d 126 77 [l0, l1, l2, l3, l4, l5, l6] st S Q := pv_goto (pm_cdi rfl dX7_manyOf_33) rfl
theorem q126_36 : pm_V d 126 36 [l0, l1, l2, l3, l4, l5, l6] st S Q = pm_V d 126 37 [l0, l1, l2, l3, l4, l5, l6] (.int 0 :: st) S Q := pv_iconst (pm_cdi rfl dX7_manyOf_36) (by decide +kernel)
theorem q126_37 : pm_V d 126 37 [l0, l1, l2, l3, l4, l5, l6] st S Q = pm_V d 126 77 [l0, l1, l2, l3, l4, l5, l6] st S Q := pv_goto (pm_cdi rfl dX7_manyOf_37) rfl
theorem q126_40 : pm_V d 126 40 [.ref xn, l1, l2, l3, l4, l5, l6] st S Q = pm_V d 126 41 [.ref xn, l1, l2, l3, l4, l5, l6] (.ref xn :: st) S Q := pv_aload_n (pm_cdi rfl dX7_manyOf_40) rfl
theorem q126_41 : pm_V d 126 41 [l0, .int xi, l2, l3, l4, l5, l6] st S Q = pm_V d 126 42 [l0, .int xi, l2, l3, l4, l5, l6] (.int xi :: st) S Q := pv_iload_n (pm_cdi rfl dX7_manyOf_41) rfl
theorem q126_42 : pm_V d 126 42 [l0, l1, l2, l3, l4, .int xi, l6] st S Q = pm_V d 126 44 [l0, l1, l2, l3, l4, .int xi, l6] (.int xi :: st) S Q := pv_iload (pm_cdi rfl dX7_manyOf_42) rfl
theorem q126_44 (hs : pm_sh S an = .inr 7) : pm_V (d + 1) 126 44 [l0, l1, l2, l3, l4, l5, l6] [.int v1i, .int v0i, .ref an] S Q = pm_N d 104 [.ref an, .int v0i, .int v1i] S (fun r S' => pm_V (d + 1) 126 47 [l0, l1, l2, l3, l4, l5, l6] (r.toList ++ []) S' Q) := pv_callV (as := [.int v0i, .int v1i]) (pm_cdi rfl dX7_manyOf_44) (Or.inl (by decide +kernel)) (by decide +kernel) (show _ = _ from (by decide +kernel : 2 = pm_np 104)) rfl (Nat.le_of_ble_eq_true rfl) (cl := 7) (by decide +kernel) hs
theorem q126_47 : pm_V d 126 47 [.ref xn, l1, l2, l3, l4, l5, l6] st S Q = pm_V d 126 48 [.ref xn, l1, l2, l3, l4, l5, l6] (.ref xn :: st) S Q := pv_aload_n (pm_cdi rfl dX7_manyOf_47) rfl
theorem q126_48 : pm_V d 126 48 [l0, .int xi, l2, l3, l4, l5, l6] st S Q = pm_V d 126 49 [l0, .int xi, l2, l3, l4, l5, l6] (.int xi :: st) S Q := pv_iload_n (pm_cdi rfl dX7_manyOf_48) rfl
theorem q126_49 : pm_V d 126 49 [l0, l1, l2, .int xi, l4, l5, l6] st S Q = pm_V d 126 50 [l0, l1, l2, .int xi, l4, l5, l6] (.int xi :: st) S Q := pv_iload_n (pm_cdi rfl dX7_manyOf_49) rfl
theorem q126_50 (hs : pm_sh S an = .inr 7) : pm_V (d + 1) 126 50 [l0, l1, l2, l3, l4, l5, l6] [.int v1i, .int v0i, .ref an, .int r0i] S Q = pm_N d 104 [.ref an, .int v0i, .int v1i] S (fun r S' => pm_V (d + 1) 126 53 [l0, l1, l2, l3, l4, l5, l6] (r.toList ++ [.int r0i]) S' Q) := pv_callV (as := [.int v0i, .int v1i]) (pm_cdi rfl dX7_manyOf_50) (Or.inl (by decide +kernel)) (by decide +kernel) (show _ = _ from (by decide +kernel : 2 = pm_np 104)) rfl (Nat.le_of_ble_eq_true rfl) (cl := 7) (by decide +kernel) hs
theorem q126_53 : pm_V d 126 53 [l0, l1, l2, l3, l4, l5, l6] (.int yi :: .int xi :: st) S Q = if xi = yi then pm_V d 126 56 [l0, l1, l2, l3, l4, l5, l6] st S Q else pm_V d 126 76 [l0, l1, l2, l3, l4, l5, l6] st S Q := pv_icmp_ne (pm_cdi rfl dX7_manyOf_53) rfl
theorem q126_56 : pm_V d 126 56 [.ref xn, l1, l2, l3, l4, l5, l6] st S Q = pm_V d 126 57 [.ref xn, l1, l2, l3, l4, l5, l6] (.ref xn :: st) S Q := pv_aload_n (pm_cdi rfl dX7_manyOf_56) rfl
theorem q126_57 : pm_V d 126 57 [l0, .int xi, l2, l3, l4, l5, l6] st S Q = pm_V d 126 58 [l0, .int xi, l2, l3, l4, l5, l6] (.int xi :: st) S Q := pv_iload_n (pm_cdi rfl dX7_manyOf_57) rfl
theorem q126_58 : pm_V d 126 58 [l0, l1, l2, l3, l4, .int xi, l6] st S Q = pm_V d 126 60 [l0, l1, l2, l3, l4, .int xi, l6] (.int xi :: st) S Q := pv_iload (pm_cdi rfl dX7_manyOf_58) rfl
theorem q126_60 (hs : pm_sh S an = .inr 7) : pm_V (d + 1) 126 60 [l0, l1, l2, l3, l4, l5, l6] [.int v1i, .int v0i, .ref an] S Q = pm_N d 105 [.ref an, .int v0i, .int v1i] S (fun r S' => pm_V (d + 1) 126 63 [l0, l1, l2, l3, l4, l5, l6] (r.toList ++ []) S' Q) := pv_callV (as := [.int v0i, .int v1i]) (pm_cdi rfl dX7_manyOf_60) (Or.inl (by decide +kernel)) (by decide +kernel) (show _ = _ from (by decide +kernel : 2 = pm_np 105)) rfl (Nat.le_of_ble_eq_true rfl) (cl := 7) (by decide +kernel) hs
theorem q126_63 : pm_V d 126 63 [.ref xn, l1, l2, l3, l4, l5, l6] st S Q = pm_V d 126 64 [.ref xn, l1, l2, l3, l4, l5, l6] (.ref xn :: st) S Q := pv_aload_n (pm_cdi rfl dX7_manyOf_63) rfl
theorem q126_64 : pm_V d 126 64 [l0, .int xi, l2, l3, l4, l5, l6] st S Q = pm_V d 126 65 [l0, .int xi, l2, l3, l4, l5, l6] (.int xi :: st) S Q := pv_iload_n (pm_cdi rfl dX7_manyOf_64) rfl
theorem q126_65 : pm_V d 126 65 [l0, l1, l2, .int xi, l4, l5, l6] st S Q = pm_V d 126 66 [l0, l1, l2, .int xi, l4, l5, l6] (.int xi :: st) S Q := pv_iload_n (pm_cdi rfl dX7_manyOf_65) rfl
theorem q126_66 (hs : pm_sh S an = .inr 7) : pm_V (d + 1) 126 66 [l0, l1, l2, l3, l4, l5, l6] [.int v1i, .int v0i, .ref an, .int r0i] S Q = pm_N d 105 [.ref an, .int v0i, .int v1i] S (fun r S' => pm_V (d + 1) 126 69 [l0, l1, l2, l3, l4, l5, l6] (r.toList ++ [.int r0i]) S' Q) := pv_callV (as := [.int v0i, .int v1i]) (pm_cdi rfl dX7_manyOf_66) (Or.inl (by decide +kernel)) (by decide +kernel) (show _ = _ from (by decide +kernel : 2 = pm_np 105)) rfl (Nat.le_of_ble_eq_true rfl) (cl := 7) (by decide +kernel) hs
theorem q126_69 : pm_V d 126 69 [l0, l1, l2, l3, l4, l5, l6] (.int yi :: .int xi :: st) S Q = if xi = yi then pm_V d 126 72 [l0, l1, l2, l3, l4, l5, l6] st S Q else pm_V d 126 76 [l0, l1, l2, l3, l4, l5, l6] st S Q := pv_icmp_ne (pm_cdi rfl dX7_manyOf_69) rfl
theorem q126_72 : pm_V d 126 72 [l0, l1, l2, l3, l4, l5, l6] st S Q = pm_V d 126 73 [l0, l1, l2, l3, l4, l5, l6] (.int 1 :: st) S Q := pv_iconst (pm_cdi rfl dX7_manyOf_72) (by decide +kernel)
theorem q126_73 : pm_V d 126 73 [l0, l1, l2, l3, l4, l5, l6] st S Q = pm_V d 126 77 [l0, l1, l2, l3, l4, l5, l6] st S Q := pv_goto (pm_cdi rfl dX7_manyOf_73) rfl
theorem q126_76 : pm_V d 126 76 [l0, l1, l2, l3, l4, l5, l6] st S Q = pm_V d 126 77 [l0, l1, l2, l3, l4, l5, l6] (.int 0 :: st) S Q := pv_iconst (pm_cdi rfl dX7_manyOf_76) (by decide +kernel)
theorem q126_77 : pm_V d 126 77 [l0, l1, l2, l3, l4, .int yi, l6] (.int xi :: st) S Q = pm_V d 126 79 [l0, l1, l2, l3, l4, .int yi, .int xi] st S Q := pv_istore (pm_cdi rfl dX7_manyOf_77) rfl
theorem q126_79 : pm_V d 126 79 [l0, l1, l2, l3, .int xi, l5, l6] st S Q = pm_V d 126 81 [l0, l1, l2, l3, .int xi, l5, l6] (.int xi :: st) S Q := pv_iload (pm_cdi rfl dX7_manyOf_79) rfl
theorem q126_81 : pm_V d 126 81 [l0, l1, l2, l3, l4, l5, .int xi] st S Q = pm_V d 126 83 [l0, l1, l2, l3, l4, l5, .int xi] (.int xi :: st) S Q := pv_iload (pm_cdi rfl dX7_manyOf_81) rfl
theorem q126_83 : pm_V d 126 83 [l0, l1, l2, l3, l4, l5, l6] (.int xi :: st) S Q = if xi = 0 then pm_V d 126 90 [l0, l1, l2, l3, l4, l5, l6] st S Q else pm_V d 126 86 [l0, l1, l2, l3, l4, l5, l6] st S Q := pv_if_eq (pm_cdi rfl dX7_manyOf_83) rfl
theorem q126_86 : pm_V d 126 86 [l0, l1, l2, l3, l4, l5, l6] st S Q = pm_V d 126 87 [l0, l1, l2, l3, l4, l5, l6] (.int 1 :: st) S Q := pv_iconst (pm_cdi rfl dX7_manyOf_86) (by decide +kernel)
theorem q126_87 : pm_V d 126 87 [l0, l1, l2, l3, l4, l5, l6] st S Q = pm_V d 126 91 [l0, l1, l2, l3, l4, l5, l6] st S Q := pv_goto (pm_cdi rfl dX7_manyOf_87) rfl
theorem q126_90 : pm_V d 126 90 [l0, l1, l2, l3, l4, l5, l6] st S Q = pm_V d 126 91 [l0, l1, l2, l3, l4, l5, l6] (.int 0 :: st) S Q := pv_iconst (pm_cdi rfl dX7_manyOf_90) (by decide +kernel)
theorem q126_91 : pm_V d 126 91 [l0, l1, l2, l3, l4, l5, l6] (.int yi :: .int xi :: st) S Q = pm_V d 126 92 [l0, l1, l2, l3, l4, l5, l6] (.int (xi + yi) :: st) S Q := pv_iadd (pm_cdi rfl dX7_manyOf_91)
theorem q126_92 : pm_V d 126 92 [l0, l1, l2, .int yi, l4, l5, l6] (.int xi :: st) S Q = pm_V d 126 94 [l0, l1, l2, .int yi, .int xi, l5, l6] st S Q := pv_istore (pm_cdi rfl dX7_manyOf_92) rfl
theorem q126_94 : pm_V d 126 94 [l0, l1, l2, l3, .int yi, .int xi, l6] st S Q = pm_V d 126 97 [l0, l1, l2, l3, .int yi, .int (xi + 1), l6] st S Q := pv_iinc (pm_cdi rfl dX7_manyOf_94) rfl (by decide +kernel) rfl
theorem q126_97 : pm_V d 126 97 [l0, l1, l2, l3, l4, l5, l6] st S Q = pm_V d 126 6 [l0, l1, l2, l3, l4, l5, l6] st S Q := pv_goto (pm_cdi rfl dX7_manyOf_97) rfl
theorem q126_100 : pm_V d 126 100 [l0, l1, l2, l3, .int xi, l5, l6] st S Q = pm_V d 126 102 [l0, l1, l2, l3, .int xi, l5, l6] (.int xi :: st) S Q := pv_iload (pm_cdi rfl dX7_manyOf_100) rfl
theorem q126_102 : pm_V d 126 102 [l0, l1, l2, l3, l4, l5, l6] [.int xi] S Q = Q (some (.int xi)) S := pv_rI (pm_cdi rfl dX7_manyOf_102) (by decide +kernel)
theorem q126_e : pm_N d 126 [.ref an, .int v0i, .int v1i, .int v2i] S Q = pm_V d 126 0 [.ref an, .int v0i, .int v1i, .int v2i, pm_j, pm_j, pm_j] [] S Q := pv_ent (Nat.le_of_ble_eq_true rfl) rfl
/-! 127: ViewsJoinsModel.goesOn(II)I -/
theorem dX7_goesOn_0 : decode cX7_goesOn 0 = .ok (.aload_n 0, 1) := by decide +kernel
theorem dX7_goesOn_1 : decode cX7_goesOn 1 = .ok (.getfield 235, 3) := by decide +kernel
theorem dX7_goesOn_4 : decode cX7_goesOn 4 = .ok (.iconst 1, 1) := by decide +kernel
theorem dX7_goesOn_5 : decode cX7_goesOn 5 = .ok (.isub, 1) := by decide +kernel
theorem dX7_goesOn_6 : decode cX7_goesOn 6 = .ok (.istore_n 3, 1) := by decide +kernel
theorem dX7_goesOn_7 : decode cX7_goesOn 7 = .ok (.aload_n 0, 1) := by decide +kernel
theorem dX7_goesOn_8 : decode cX7_goesOn 8 = .ok (.getfield 93, 3) := by decide +kernel
theorem dX7_goesOn_11 : decode cX7_goesOn 11 = .ok (.iload_n 3, 1) := by decide +kernel
theorem dX7_goesOn_12 : decode cX7_goesOn 12 = .ok (.iaload, 1) := by decide +kernel
theorem dX7_goesOn_13 : decode cX7_goesOn 13 = .ok (.istore 4, 2) := by decide +kernel
theorem dX7_goesOn_15 : decode cX7_goesOn 15 = .ok (.aload_n 0, 1) := by decide +kernel
theorem dX7_goesOn_16 : decode cX7_goesOn 16 = .ok (.getfield 75, 3) := by decide +kernel
theorem dX7_goesOn_19 : decode cX7_goesOn 19 = .ok (.iload 4, 2) := by decide +kernel
theorem dX7_goesOn_21 : decode cX7_goesOn 21 = .ok (.iaload, 1) := by decide +kernel
theorem dX7_goesOn_22 : decode cX7_goesOn 22 = .ok (.istore 5, 2) := by decide +kernel
theorem dX7_goesOn_24 : decode cX7_goesOn 24 = .ok (.iload_n 2, 1) := by decide +kernel
theorem dX7_goesOn_25 : decode cX7_goesOn 25 = .ok (.bipush 10, 2) := by decide +kernel
theorem dX7_goesOn_27 : decode cX7_goesOn 27 = .ok (.if_icmp .lt 28, 3) := by decide +kernel
theorem dX7_goesOn_30 : decode cX7_goesOn 30 = .ok (.iload 5, 2) := by decide +kernel
theorem dX7_goesOn_32 : decode cX7_goesOn 32 = .ok (.bipush 7, 2) := by decide +kernel
theorem dX7_goesOn_34 : decode cX7_goesOn 34 = .ok (.if_icmp .ne 19, 3) := by decide +kernel
theorem dX7_goesOn_37 : decode cX7_goesOn 37 = .ok (.iload_n 2, 1) := by decide +kernel
theorem dX7_goesOn_38 : decode cX7_goesOn 38 = .ok (.bipush 11, 2) := by decide +kernel
theorem dX7_goesOn_40 : decode cX7_goesOn 40 = .ok (.if_icmp .eq 9, 3) := by decide +kernel
theorem dX7_goesOn_43 : decode cX7_goesOn 43 = .ok (.iload_n 2, 1) := by decide +kernel
theorem dX7_goesOn_44 : decode cX7_goesOn 44 = .ok (.bipush 12, 2) := by decide +kernel
theorem dX7_goesOn_46 : decode cX7_goesOn 46 = .ok (.if_icmp .ne 7, 3) := by decide +kernel
theorem dX7_goesOn_49 : decode cX7_goesOn 49 = .ok (.iconst 0, 1) := by decide +kernel
theorem dX7_goesOn_50 : decode cX7_goesOn 50 = .ok (.goto 4, 3) := by decide +kernel
theorem dX7_goesOn_53 : decode cX7_goesOn 53 = .ok (.iload_n 2, 1) := by decide +kernel
theorem dX7_goesOn_54 : decode cX7_goesOn 54 = .ok (.ireturn, 1) := by decide +kernel
theorem dX7_goesOn_55 : decode cX7_goesOn 55 = .ok (.iload 5, 2) := by decide +kernel
theorem dX7_goesOn_57 : decode cX7_goesOn 57 = .ok (.iconst 4, 1) := by decide +kernel
theorem dX7_goesOn_58 : decode cX7_goesOn 58 = .ok (.if_icmp .ne 7, 3) := by decide +kernel
theorem dX7_goesOn_61 : decode cX7_goesOn 61 = .ok (.iconst 1, 1) := by decide +kernel
theorem dX7_goesOn_62 : decode cX7_goesOn 62 = .ok (.iload_n 2, 1) := by decide +kernel
theorem dX7_goesOn_63 : decode cX7_goesOn 63 = .ok (.isub, 1) := by decide +kernel
theorem dX7_goesOn_64 : decode cX7_goesOn 64 = .ok (.ireturn, 1) := by decide +kernel
theorem dX7_goesOn_65 : decode cX7_goesOn 65 = .ok (.iload 5, 2) := by decide +kernel
theorem dX7_goesOn_67 : decode cX7_goesOn 67 = .ok (.iconst 5, 1) := by decide +kernel
theorem dX7_goesOn_68 : decode cX7_goesOn 68 = .ok (.if_icmp .eq 10, 3) := by decide +kernel
theorem dX7_goesOn_71 : decode cX7_goesOn 71 = .ok (.iload 5, 2) := by decide +kernel
theorem dX7_goesOn_73 : decode cX7_goesOn 73 = .ok (.bipush 6, 2) := by decide +kernel
theorem dX7_goesOn_75 : decode cX7_goesOn 75 = .ok (.if_icmp .ne 60, 3) := by decide +kernel
theorem dX7_goesOn_78 : decode cX7_goesOn 78 = .ok (.aload_n 0, 1) := by decide +kernel
theorem dX7_goesOn_79 : decode cX7_goesOn 79 = .ok (.getfield 102, 3) := by decide +kernel
theorem dX7_goesOn_82 : decode cX7_goesOn 82 = .ok (.iload_n 3, 1) := by decide +kernel
theorem dX7_goesOn_83 : decode cX7_goesOn 83 = .ok (.iaload, 1) := by decide +kernel
theorem dX7_goesOn_84 : decode cX7_goesOn 84 = .ok (.iconst 1, 1) := by decide +kernel
theorem dX7_goesOn_85 : decode cX7_goesOn 85 = .ok (.if_icmp .ne 50, 3) := by decide +kernel
theorem dX7_goesOn_88 : decode cX7_goesOn 88 = .ok (.iload_n 2, 1) := by decide +kernel
theorem dX7_goesOn_89 : decode cX7_goesOn 89 = .ok (.iload 5, 2) := by decide +kernel
theorem dX7_goesOn_91 : decode cX7_goesOn 91 = .ok (.iconst 5, 1) := by decide +kernel
theorem dX7_goesOn_92 : decode cX7_goesOn 92 = .ok (.if_icmp .ne 7, 3) := by decide +kernel
theorem dX7_goesOn_95 : decode cX7_goesOn 95 = .ok (.iconst 1, 1) := by decide +kernel
theorem dX7_goesOn_96 : decode cX7_goesOn 96 = .ok (.goto 4, 3) := by decide +kernel
theorem dX7_goesOn_99 : decode cX7_goesOn 99 = .ok (.iconst 0, 1) := by decide +kernel
theorem dX7_goesOn_100 : decode cX7_goesOn 100 = .ok (.if_icmp .ne 35, 3) := by decide +kernel
theorem dX7_goesOn_103 : decode cX7_goesOn 103 = .ok (.aload_n 0, 1) := by decide +kernel
theorem dX7_goesOn_104 : decode cX7_goesOn 104 = .ok (.getfield 102, 3) := by decide +kernel
theorem dX7_goesOn_107 : decode cX7_goesOn 107 = .ok (.iload_n 3, 1) := by decide +kernel
theorem dX7_goesOn_108 : decode cX7_goesOn 108 = .ok (.iconst 2, 1) := by decide +kernel
theorem dX7_goesOn_109 : decode cX7_goesOn 109 = .ok (.iastore, 1) := by decide +kernel
theorem dX7_goesOn_110 : decode cX7_goesOn 110 = .ok (.aload_n 0, 1) := by decide +kernel
theorem dX7_goesOn_111 : decode cX7_goesOn 111 = .ok (.aload_n 0, 1) := by decide +kernel
theorem dX7_goesOn_112 : decode cX7_goesOn 112 = .ok (.getfield 84, 3) := by decide +kernel
theorem dX7_goesOn_115 : decode cX7_goesOn 115 = .ok (.iload 4, 2) := by decide +kernel
theorem dX7_goesOn_117 : decode cX7_goesOn 117 = .ok (.iaload, 1) := by decide +kernel
theorem dX7_goesOn_118 : decode cX7_goesOn 118 = .ok (.aload_n 0, 1) := by decide +kernel
theorem dX7_goesOn_119 : decode cX7_goesOn 119 = .ok (.getfield 96, 3) := by decide +kernel
theorem dX7_goesOn_122 : decode cX7_goesOn 122 = .ok (.iload_n 3, 1) := by decide +kernel
theorem dX7_goesOn_123 : decode cX7_goesOn 123 = .ok (.iaload, 1) := by decide +kernel
theorem dX7_goesOn_124 : decode cX7_goesOn 124 = .ok (.aload_n 0, 1) := by decide +kernel
theorem dX7_goesOn_125 : decode cX7_goesOn 125 = .ok (.getfield 99, 3) := by decide +kernel
theorem dX7_goesOn_128 : decode cX7_goesOn 128 = .ok (.iload_n 3, 1) := by decide +kernel
theorem dX7_goesOn_129 : decode cX7_goesOn 129 = .ok (.iaload, 1) := by decide +kernel
theorem dX7_goesOn_130 : decode cX7_goesOn 130 = .ok (.invokevirtual 238, 3) := by decide +kernel
theorem dX7_goesOn_133 : decode cX7_goesOn 133 = .ok (.iconst (-1), 1) := by decide +kernel
theorem dX7_goesOn_134 : decode cX7_goesOn 134 = .ok (.ireturn, 1) := by decide +kernel
theorem dX7_goesOn_135 : decode cX7_goesOn 135 = .ok (.iload 5, 2) := by decide +kernel
theorem dX7_goesOn_137 : decode cX7_goesOn 137 = .ok (.bipush 8, 2) := by decide +kernel
theorem dX7_goesOn_139 : decode cX7_goesOn 139 = .ok (.if_icmp .ne 25, 3) := by decide +kernel
theorem dX7_goesOn_142 : decode cX7_goesOn 142 = .ok (.aload_n 0, 1) := by decide +kernel
theorem dX7_goesOn_143 : decode cX7_goesOn 143 = .ok (.getfield 96, 3) := by decide +kernel
theorem dX7_goesOn_146 : decode cX7_goesOn 146 = .ok (.iload_n 3, 1) := by decide +kernel
theorem dX7_goesOn_147 : decode cX7_goesOn 147 = .ok (.iaload, 1) := by decide +kernel
theorem dX7_goesOn_148 : decode cX7_goesOn 148 = .ok (.ifCond .ne 16, 3) := by decide +kernel
theorem dX7_goesOn_151 : decode cX7_goesOn 151 = .ok (.iload_n 2, 1) := by decide +kernel
theorem dX7_goesOn_152 : decode cX7_goesOn 152 = .ok (.ifCond .ne 12, 3) := by decide +kernel
theorem dX7_goesOn_155 : decode cX7_goesOn 155 = .ok (.aload_n 0, 1) := by decide +kernel
theorem dX7_goesOn_156 : decode cX7_goesOn 156 = .ok (.iload_n 1, 1) := by decide +kernel
theorem dX7_goesOn_157 : decode cX7_goesOn 157 = .ok (.iload_n 3, 1) := by decide +kernel
theorem dX7_goesOn_158 : decode cX7_goesOn 158 = .ok (.invokevirtual 255, 3) := by decide +kernel
theorem dX7_goesOn_161 : decode cX7_goesOn 161 = .ok (.goto 4, 3) := by decide +kernel
theorem dX7_goesOn_164 : decode cX7_goesOn 164 = .ok (.iload_n 2, 1) := by decide +kernel
theorem dX7_goesOn_165 : decode cX7_goesOn 165 = .ok (.ireturn, 1) := by decide +kernel
theorem q127_0 : pm_V d 127 0 [.ref xn, l1, l2, l3, l4, l5] st S Q = pm_V d 127 1 [.ref xn, l1, l2, l3, l4, l5] (.ref xn :: st) S Q := pv_aload_n (pm_cdi rfl dX7_goesOn_0) rfl
theorem q127_1 (hs : pm_sh S an = .inr 7) : pm_V d 127 1 [l0, l1, l2, l3, l4, l5] (.ref an :: st) S Q = pm_V d 127 4 [l0, l1, l2, l3, l4, l5] (.int (pm_gi S an 35) :: st) S Q := pv_getI (pm_cdi rfl dX7_goesOn_1) (by decide +kernel) (by decide +kernel) (by decide +kernel) hs
theorem q127_4 : pm_V d 127 4 [l0, l1, l2, l3, l4, l5] st S Q = pm_V d 127 5 [l0, l1, l2, l3, l4, l5] (.int 1 :: st) S Q := pv_iconst (pm_cdi rfl dX7_goesOn_4) (by decide +kernel)
theorem q127_5 : pm_V d 127 5 [l0, l1, l2, l3, l4, l5] (.int yi :: .int xi :: st) S Q = pm_V d 127 6 [l0, l1, l2, l3, l4, l5] (.int (xi - yi) :: st) S Q := pv_isub (pm_cdi rfl dX7_goesOn_5)
theorem q127_6 : pm_V d 127 6 [l0, l1, .int yi, l3, l4, l5] (.int xi :: st) S Q = pm_V d 127 7 [l0, l1, .int yi, .int xi, l4, l5] st S Q := pv_istore_n (pm_cdi rfl dX7_goesOn_6) rfl
theorem q127_7 : pm_V d 127 7 [.ref xn, l1, l2, l3, l4, l5] st S Q = pm_V d 127 8 [.ref xn, l1, l2, l3, l4, l5] (.ref xn :: st) S Q := pv_aload_n (pm_cdi rfl dX7_goesOn_7) rfl
theorem q127_8 (hs : pm_sh S an = .inr 7) : pm_V d 127 8 [l0, l1, l2, l3, l4, l5] (.ref an :: st) S Q = pm_V d 127 11 [l0, l1, l2, l3, l4, l5] (va_rf (pm_gr S an 36) :: st) S Q := pv_getA (pm_cdi rfl dX7_goesOn_8) (by decide +kernel) (by decide +kernel) (by decide +kernel) hs
theorem q127_11 : pm_V d 127 11 [l0, l1, l2, .int xi, l4, l5] st S Q = pm_V d 127 12 [l0, l1, l2, .int xi, l4, l5] (.int xi :: st) S Q := pv_iload_n (pm_cdi rfl dX7_goesOn_11) rfl
theorem q127_12 (hs : pm_ar S an 0 xi = true) : pm_V d 127 12 [l0, l1, l2, l3, l4, l5] (.int xi :: .ref an :: st) S Q = pm_V d 127 13 [l0, l1, l2, l3, l4, l5] (.int (pm_zi S an xi.toNatClampNeg) :: st) S Q := pv_iald (pm_cdi rfl dX7_goesOn_12) hs
theorem q127_13 : pm_V d 127 13 [l0, l1, l2, .int yi, l4, l5] (.int xi :: st) S Q = pm_V d 127 15 [l0, l1, l2, .int yi, .int xi, l5] st S Q := pv_istore (pm_cdi rfl dX7_goesOn_13) rfl
theorem q127_15 : pm_V d 127 15 [.ref xn, l1, l2, l3, l4, l5] st S Q = pm_V d 127 16 [.ref xn, l1, l2, l3, l4, l5] (.ref xn :: st) S Q := pv_aload_n (pm_cdi rfl dX7_goesOn_15) rfl
theorem q127_16 (hs : pm_sh S an = .inr 7) : pm_V d 127 16 [l0, l1, l2, l3, l4, l5] (.ref an :: st) S Q = pm_V d 127 19 [l0, l1, l2, l3, l4, l5] (va_rf (pm_gr S an 24) :: st) S Q := pv_getA (pm_cdi rfl dX7_goesOn_16) (by decide +kernel) (by decide +kernel) (by decide +kernel) hs
theorem q127_19 : pm_V d 127 19 [l0, l1, l2, l3, .int xi, l5] st S Q = pm_V d 127 21 [l0, l1, l2, l3, .int xi, l5] (.int xi :: st) S Q := pv_iload (pm_cdi rfl dX7_goesOn_19) rfl
theorem q127_21 (hs : pm_ar S an 0 xi = true) : pm_V d 127 21 [l0, l1, l2, l3, l4, l5] (.int xi :: .ref an :: st) S Q = pm_V d 127 22 [l0, l1, l2, l3, l4, l5] (.int (pm_zi S an xi.toNatClampNeg) :: st) S Q := pv_iald (pm_cdi rfl dX7_goesOn_21) hs
theorem q127_22 : pm_V d 127 22 [l0, l1, l2, l3, .int yi, l5] (.int xi :: st) S Q = pm_V d 127 24 [l0, l1, l2, l3, .int yi, .int xi] st S Q := pv_istore (pm_cdi rfl dX7_goesOn_22) rfl
theorem q127_24 : pm_V d 127 24 [l0, l1, .int xi, l3, l4, l5] st S Q = pm_V d 127 25 [l0, l1, .int xi, l3, l4, l5] (.int xi :: st) S Q := pv_iload_n (pm_cdi rfl dX7_goesOn_24) rfl
theorem q127_25 : pm_V d 127 25 [l0, l1, l2, l3, l4, l5] st S Q = pm_V d 127 27 [l0, l1, l2, l3, l4, l5] (.int 10 :: st) S Q := pv_bipush (pm_cdi rfl dX7_goesOn_25) (by decide +kernel)
theorem q127_27 : pm_V d 127 27 [l0, l1, l2, l3, l4, l5] (.int yi :: .int xi :: st) S Q = if xi < yi then pm_V d 127 55 [l0, l1, l2, l3, l4, l5] st S Q else pm_V d 127 30 [l0, l1, l2, l3, l4, l5] st S Q := pv_icmp_lt (pm_cdi rfl dX7_goesOn_27) rfl
theorem q127_30 : pm_V d 127 30 [l0, l1, l2, l3, l4, .int xi] st S Q = pm_V d 127 32 [l0, l1, l2, l3, l4, .int xi] (.int xi :: st) S Q := pv_iload (pm_cdi rfl dX7_goesOn_30) rfl
theorem q127_32 : pm_V d 127 32 [l0, l1, l2, l3, l4, l5] st S Q = pm_V d 127 34 [l0, l1, l2, l3, l4, l5] (.int 7 :: st) S Q := pv_bipush (pm_cdi rfl dX7_goesOn_32) (by decide +kernel)
theorem q127_34 : pm_V d 127 34 [l0, l1, l2, l3, l4, l5] (.int yi :: .int xi :: st) S Q = if xi = yi then pm_V d 127 37 [l0, l1, l2, l3, l4, l5] st S Q else pm_V d 127 53 [l0, l1, l2, l3, l4, l5] st S Q := pv_icmp_ne (pm_cdi rfl dX7_goesOn_34) rfl
theorem q127_37 : pm_V d 127 37 [l0, l1, .int xi, l3, l4, l5] st S Q = pm_V d 127 38 [l0, l1, .int xi, l3, l4, l5] (.int xi :: st) S Q := pv_iload_n (pm_cdi rfl dX7_goesOn_37) rfl
theorem q127_38 : pm_V d 127 38 [l0, l1, l2, l3, l4, l5] st S Q = pm_V d 127 40 [l0, l1, l2, l3, l4, l5] (.int 11 :: st) S Q := pv_bipush (pm_cdi rfl dX7_goesOn_38) (by decide +kernel)
theorem q127_40 : pm_V d 127 40 [l0, l1, l2, l3, l4, l5] (.int yi :: .int xi :: st) S Q = if xi = yi then pm_V d 127 49 [l0, l1, l2, l3, l4, l5] st S Q else pm_V d 127 43 [l0, l1, l2, l3, l4, l5] st S Q := pv_icmp_eq (pm_cdi rfl dX7_goesOn_40) rfl
theorem q127_43 : pm_V d 127 43 [l0, l1, .int xi, l3, l4, l5] st S Q = pm_V d 127 44 [l0, l1, .int xi, l3, l4, l5] (.int xi :: st) S Q := pv_iload_n (pm_cdi rfl dX7_goesOn_43) rfl
theorem q127_44 : pm_V d 127 44 [l0, l1, l2, l3, l4, l5] st S Q = pm_V d 127 46 [l0, l1, l2, l3, l4, l5] (.int 12 :: st) S Q := pv_bipush (pm_cdi rfl dX7_goesOn_44) (by decide +kernel)
theorem q127_46 : pm_V d 127 46 [l0, l1, l2, l3, l4, l5] (.int yi :: .int xi :: st) S Q = if xi = yi then pm_V d 127 49 [l0, l1, l2, l3, l4, l5] st S Q else pm_V d 127 53 [l0, l1, l2, l3, l4, l5] st S Q := pv_icmp_ne (pm_cdi rfl dX7_goesOn_46) rfl
theorem q127_49 : pm_V d 127 49 [l0, l1, l2, l3, l4, l5] st S Q = pm_V d 127 50 [l0, l1, l2, l3, l4, l5] (.int 0 :: st) S Q := pv_iconst (pm_cdi rfl dX7_goesOn_49) (by decide +kernel)
theorem q127_50 : pm_V d 127 50 [l0, l1, l2, l3, l4, l5] st S Q = pm_V d 127 54 [l0, l1, l2, l3, l4, l5] st S Q := pv_goto (pm_cdi rfl dX7_goesOn_50) rfl
theorem q127_53 : pm_V d 127 53 [l0, l1, .int xi, l3, l4, l5] st S Q = pm_V d 127 54 [l0, l1, .int xi, l3, l4, l5] (.int xi :: st) S Q := pv_iload_n (pm_cdi rfl dX7_goesOn_53) rfl
theorem q127_54 : pm_V d 127 54 [l0, l1, l2, l3, l4, l5] [.int xi] S Q = Q (some (.int xi)) S := pv_rI (pm_cdi rfl dX7_goesOn_54) (by decide +kernel)
theorem q127_55 : pm_V d 127 55 [l0, l1, l2, l3, l4, .int xi] st S Q = pm_V d 127 57 [l0, l1, l2, l3, l4, .int xi] (.int xi :: st) S Q := pv_iload (pm_cdi rfl dX7_goesOn_55) rfl
theorem q127_57 : pm_V d 127 57 [l0, l1, l2, l3, l4, l5] st S Q = pm_V d 127 58 [l0, l1, l2, l3, l4, l5] (.int 4 :: st) S Q := pv_iconst (pm_cdi rfl dX7_goesOn_57) (by decide +kernel)
theorem q127_58 : pm_V d 127 58 [l0, l1, l2, l3, l4, l5] (.int yi :: .int xi :: st) S Q = if xi = yi then pm_V d 127 61 [l0, l1, l2, l3, l4, l5] st S Q else pm_V d 127 65 [l0, l1, l2, l3, l4, l5] st S Q := pv_icmp_ne (pm_cdi rfl dX7_goesOn_58) rfl
theorem q127_61 : pm_V d 127 61 [l0, l1, l2, l3, l4, l5] st S Q = pm_V d 127 62 [l0, l1, l2, l3, l4, l5] (.int 1 :: st) S Q := pv_iconst (pm_cdi rfl dX7_goesOn_61) (by decide +kernel)
theorem q127_62 : pm_V d 127 62 [l0, l1, .int xi, l3, l4, l5] st S Q = pm_V d 127 63 [l0, l1, .int xi, l3, l4, l5] (.int xi :: st) S Q := pv_iload_n (pm_cdi rfl dX7_goesOn_62) rfl
theorem q127_63 : pm_V d 127 63 [l0, l1, l2, l3, l4, l5] (.int yi :: .int xi :: st) S Q = pm_V d 127 64 [l0, l1, l2, l3, l4, l5] (.int (xi - yi) :: st) S Q := pv_isub (pm_cdi rfl dX7_goesOn_63)
theorem q127_64 : pm_V d 127 64 [l0, l1, l2, l3, l4, l5] [.int xi] S Q = Q (some (.int xi)) S := pv_rI (pm_cdi rfl dX7_goesOn_64) (by decide +kernel)
theorem q127_65 : pm_V d 127 65 [l0, l1, l2, l3, l4, .int xi] st S Q = pm_V d 127 67 [l0, l1, l2, l3, l4, .int xi] (.int xi :: st) S Q := pv_iload (pm_cdi rfl dX7_goesOn_65) rfl
theorem q127_67 : pm_V d 127 67 [l0, l1, l2, l3, l4, l5] st S Q = pm_V d 127 68 [l0, l1, l2, l3, l4, l5] (.int 5 :: st) S Q := pv_iconst (pm_cdi rfl dX7_goesOn_67) (by decide +kernel)
theorem q127_68 : pm_V d 127 68 [l0, l1, l2, l3, l4, l5] (.int yi :: .int xi :: st) S Q = if xi = yi then pm_V d 127 78 [l0, l1, l2, l3, l4, l5] st S Q else pm_V d 127 71 [l0, l1, l2, l3, l4, l5] st S Q := pv_icmp_eq (pm_cdi rfl dX7_goesOn_68) rfl
theorem q127_71 : pm_V d 127 71 [l0, l1, l2, l3, l4, .int xi] st S Q = pm_V d 127 73 [l0, l1, l2, l3, l4, .int xi] (.int xi :: st) S Q := pv_iload (pm_cdi rfl dX7_goesOn_71) rfl
theorem q127_73 : pm_V d 127 73 [l0, l1, l2, l3, l4, l5] st S Q = pm_V d 127 75 [l0, l1, l2, l3, l4, l5] (.int 6 :: st) S Q := pv_bipush (pm_cdi rfl dX7_goesOn_73) (by decide +kernel)
theorem q127_75 : pm_V d 127 75 [l0, l1, l2, l3, l4, l5] (.int yi :: .int xi :: st) S Q = if xi = yi then pm_V d 127 78 [l0, l1, l2, l3, l4, l5] st S Q else pm_V d 127 135 [l0, l1, l2, l3, l4, l5] st S Q := pv_icmp_ne (pm_cdi rfl dX7_goesOn_75) rfl
theorem q127_78 : pm_V d 127 78 [.ref xn, l1, l2, l3, l4, l5] st S Q = pm_V d 127 79 [.ref xn, l1, l2, l3, l4, l5] (.ref xn :: st) S Q := pv_aload_n (pm_cdi rfl dX7_goesOn_78) rfl
theorem q127_79 (hs : pm_sh S an = .inr 7) : pm_V d 127 79 [l0, l1, l2, l3, l4, l5] (.ref an :: st) S Q = pm_V d 127 82 [l0, l1, l2, l3, l4, l5] (va_rf (pm_gr S an 39) :: st) S Q := pv_getA (pm_cdi rfl dX7_goesOn_79) (by decide +kernel) (by decide +kernel) (by decide +kernel) hs
theorem q127_82 : pm_V d 127 82 [l0, l1, l2, .int xi, l4, l5] st S Q = pm_V d 127 83 [l0, l1, l2, .int xi, l4, l5] (.int xi :: st) S Q := pv_iload_n (pm_cdi rfl dX7_goesOn_82) rfl
theorem q127_83 (hs : pm_ar S an 0 xi = true) : pm_V d 127 83 [l0, l1, l2, l3, l4, l5] (.int xi :: .ref an :: st) S Q = pm_V d 127 84 [l0, l1, l2, l3, l4, l5] (.int (pm_zi S an xi.toNatClampNeg) :: st) S Q := pv_iald (pm_cdi rfl dX7_goesOn_83) hs
theorem q127_84 : pm_V d 127 84 [l0, l1, l2, l3, l4, l5] st S Q = pm_V d 127 85 [l0, l1, l2, l3, l4, l5] (.int 1 :: st) S Q := pv_iconst (pm_cdi rfl dX7_goesOn_84) (by decide +kernel)
theorem q127_85 : pm_V d 127 85 [l0, l1, l2, l3, l4, l5] (.int yi :: .int xi :: st) S Q = if xi = yi then pm_V d 127 88 [l0, l1, l2, l3, l4, l5] st S Q else pm_V d 127 135 [l0, l1, l2, l3, l4, l5] st S Q := pv_icmp_ne (pm_cdi rfl dX7_goesOn_85) rfl
theorem q127_88 : pm_V d 127 88 [l0, l1, .int xi, l3, l4, l5] st S Q = pm_V d 127 89 [l0, l1, .int xi, l3, l4, l5] (.int xi :: st) S Q := pv_iload_n (pm_cdi rfl dX7_goesOn_88) rfl
theorem q127_89 : pm_V d 127 89 [l0, l1, l2, l3, l4, .int xi] st S Q = pm_V d 127 91 [l0, l1, l2, l3, l4, .int xi] (.int xi :: st) S Q := pv_iload (pm_cdi rfl dX7_goesOn_89) rfl
theorem q127_91 : pm_V d 127 91 [l0, l1, l2, l3, l4, l5] st S Q = pm_V d 127 92 [l0, l1, l2, l3, l4, l5] (.int 5 :: st) S Q := pv_iconst (pm_cdi rfl dX7_goesOn_91) (by decide +kernel)
theorem q127_92 : pm_V d 127 92 [l0, l1, l2, l3, l4, l5] (.int yi :: .int xi :: st) S Q = if xi = yi then pm_V d 127 95 [l0, l1, l2, l3, l4, l5] st S Q else pm_V d 127 99 [l0, l1, l2, l3, l4, l5] st S Q := pv_icmp_ne (pm_cdi rfl dX7_goesOn_92) rfl
theorem q127_95 : pm_V d 127 95 [l0, l1, l2, l3, l4, l5] st S Q = pm_V d 127 96 [l0, l1, l2, l3, l4, l5] (.int 1 :: st) S Q := pv_iconst (pm_cdi rfl dX7_goesOn_95) (by decide +kernel)
theorem q127_96 : pm_V d 127 96 [l0, l1, l2, l3, l4, l5] st S Q = pm_V d 127 100 [l0, l1, l2, l3, l4, l5] st S Q := pv_goto (pm_cdi rfl dX7_goesOn_96) rfl
theorem q127_99 : pm_V d 127 99 [l0, l1, l2, l3, l4, l5] st S Q = pm_V d 127 100 [l0, l1, l2, l3, l4, l5] (.int 0 :: st) S Q := pv_iconst (pm_cdi rfl dX7_goesOn_99) (by decide +kernel)
theorem q127_100 : pm_V d 127 100 [l0, l1, l2, l3, l4, l5] (.int yi :: .int xi :: st) S Q = if xi = yi then pm_V d 127 103 [l0, l1, l2, l3, l4, l5] st S Q else pm_V d 127 135 [l0, l1, l2, l3, l4, l5] st S Q := pv_icmp_ne (pm_cdi rfl dX7_goesOn_100) rfl
theorem q127_103 : pm_V d 127 103 [.ref xn, l1, l2, l3, l4, l5] st S Q = pm_V d 127 104 [.ref xn, l1, l2, l3, l4, l5] (.ref xn :: st) S Q := pv_aload_n (pm_cdi rfl dX7_goesOn_103) rfl
theorem q127_104 (hs : pm_sh S an = .inr 7) : pm_V d 127 104 [l0, l1, l2, l3, l4, l5] (.ref an :: st) S Q = pm_V d 127 107 [l0, l1, l2, l3, l4, l5] (va_rf (pm_gr S an 39) :: st) S Q := pv_getA (pm_cdi rfl dX7_goesOn_104) (by decide +kernel) (by decide +kernel) (by decide +kernel) hs
theorem q127_107 : pm_V d 127 107 [l0, l1, l2, .int xi, l4, l5] st S Q = pm_V d 127 108 [l0, l1, l2, .int xi, l4, l5] (.int xi :: st) S Q := pv_iload_n (pm_cdi rfl dX7_goesOn_107) rfl
theorem q127_108 : pm_V d 127 108 [l0, l1, l2, l3, l4, l5] st S Q = pm_V d 127 109 [l0, l1, l2, l3, l4, l5] (.int 2 :: st) S Q := pv_iconst (pm_cdi rfl dX7_goesOn_108) (by decide +kernel)
theorem q127_109 (hs : pm_ar S an 0 xi = true) : pm_V d 127 109 [l0, l1, l2, l3, l4, l5] (.int vi :: .int xi :: .ref an :: st) S Q = pm_V d 127 110 [l0, l1, l2, l3, l4, l5] st (pm_szi S an xi.toNatClampNeg vi) Q := pv_iast (pm_cdi rfl dX7_goesOn_109) hs
theorem q127_110 : pm_V d 127 110 [.ref xn, l1, l2, l3, l4, l5] st S Q = pm_V d 127 111 [.ref xn, l1, l2, l3, l4, l5] (.ref xn :: st) S Q := pv_aload_n (pm_cdi rfl dX7_goesOn_110) rfl
theorem q127_111 : pm_V d 127 111 [.ref xn, l1, l2, l3, l4, l5] st S Q = pm_V d 127 112 [.ref xn, l1, l2, l3, l4, l5] (.ref xn :: st) S Q := pv_aload_n (pm_cdi rfl dX7_goesOn_111) rfl
theorem q127_112 (hs : pm_sh S an = .inr 7) : pm_V d 127 112 [l0, l1, l2, l3, l4, l5] (.ref an :: st) S Q = pm_V d 127 115 [l0, l1, l2, l3, l4, l5] (va_rf (pm_gr S an 27) :: st) S Q := pv_getA (pm_cdi rfl dX7_goesOn_112) (by decide +kernel) (by decide +kernel) (by decide +kernel) hs
theorem q127_115 : pm_V d 127 115 [l0, l1, l2, l3, .int xi, l5] st S Q = pm_V d 127 117 [l0, l1, l2, l3, .int xi, l5] (.int xi :: st) S Q := pv_iload (pm_cdi rfl dX7_goesOn_115) rfl
theorem q127_117 (hs : pm_ar S an 0 xi = true) : pm_V d 127 117 [l0, l1, l2, l3, l4, l5] (.int xi :: .ref an :: st) S Q = pm_V d 127 118 [l0, l1, l2, l3, l4, l5] (.int (pm_zi S an xi.toNatClampNeg) :: st) S Q := pv_iald (pm_cdi rfl dX7_goesOn_117) hs
theorem q127_118 : pm_V d 127 118 [.ref xn, l1, l2, l3, l4, l5] st S Q = pm_V d 127 119 [.ref xn, l1, l2, l3, l4, l5] (.ref xn :: st) S Q := pv_aload_n (pm_cdi rfl dX7_goesOn_118) rfl
theorem q127_119 (hs : pm_sh S an = .inr 7) : pm_V d 127 119 [l0, l1, l2, l3, l4, l5] (.ref an :: st) S Q = pm_V d 127 122 [l0, l1, l2, l3, l4, l5] (va_rf (pm_gr S an 37) :: st) S Q := pv_getA (pm_cdi rfl dX7_goesOn_119) (by decide +kernel) (by decide +kernel) (by decide +kernel) hs
theorem q127_122 : pm_V d 127 122 [l0, l1, l2, .int xi, l4, l5] st S Q = pm_V d 127 123 [l0, l1, l2, .int xi, l4, l5] (.int xi :: st) S Q := pv_iload_n (pm_cdi rfl dX7_goesOn_122) rfl
theorem q127_123 (hs : pm_ar S an 0 xi = true) : pm_V d 127 123 [l0, l1, l2, l3, l4, l5] (.int xi :: .ref an :: st) S Q = pm_V d 127 124 [l0, l1, l2, l3, l4, l5] (.int (pm_zi S an xi.toNatClampNeg) :: st) S Q := pv_iald (pm_cdi rfl dX7_goesOn_123) hs
theorem q127_124 : pm_V d 127 124 [.ref xn, l1, l2, l3, l4, l5] st S Q = pm_V d 127 125 [.ref xn, l1, l2, l3, l4, l5] (.ref xn :: st) S Q := pv_aload_n (pm_cdi rfl dX7_goesOn_124) rfl
theorem q127_125 (hs : pm_sh S an = .inr 7) : pm_V d 127 125 [l0, l1, l2, l3, l4, l5] (.ref an :: st) S Q = pm_V d 127 128 [l0, l1, l2, l3, l4, l5] (va_rf (pm_gr S an 38) :: st) S Q := pv_getA (pm_cdi rfl dX7_goesOn_125) (by decide +kernel) (by decide +kernel) (by decide +kernel) hs
theorem q127_128 : pm_V d 127 128 [l0, l1, l2, .int xi, l4, l5] st S Q = pm_V d 127 129 [l0, l1, l2, .int xi, l4, l5] (.int xi :: st) S Q := pv_iload_n (pm_cdi rfl dX7_goesOn_128) rfl
theorem q127_129 (hs : pm_ar S an 0 xi = true) : pm_V d 127 129 [l0, l1, l2, l3, l4, l5] (.int xi :: .ref an :: st) S Q = pm_V d 127 130 [l0, l1, l2, l3, l4, l5] (.int (pm_zi S an xi.toNatClampNeg) :: st) S Q := pv_iald (pm_cdi rfl dX7_goesOn_129) hs
theorem q127_130 (hs : pm_sh S an = .inr 7) : pm_V (d + 1) 127 130 [l0, l1, l2, l3, l4, l5] [.int v2i, .int v1i, .int v0i, .ref an] S Q = pm_N d 120 [.ref an, .int v0i, .int v1i, .int v2i] S (fun r S' => pm_V (d + 1) 127 133 [l0, l1, l2, l3, l4, l5] (r.toList ++ []) S' Q) := pv_callV (as := [.int v0i, .int v1i, .int v2i]) (pm_cdi rfl dX7_goesOn_130) (Or.inl (by decide +kernel)) (by decide +kernel) (show _ = _ from (by decide +kernel : 3 = pm_np 120)) rfl (Nat.le_of_ble_eq_true rfl) (cl := 7) (by decide +kernel) hs
theorem q127_133 : pm_V d 127 133 [l0, l1, l2, l3, l4, l5] st S Q = pm_V d 127 134 [l0, l1, l2, l3, l4, l5] (.int (-1) :: st) S Q := pv_iconst (pm_cdi rfl dX7_goesOn_133) (by decide +kernel)
theorem q127_134 : pm_V d 127 134 [l0, l1, l2, l3, l4, l5] [.int xi] S Q = Q (some (.int xi)) S := pv_rI (pm_cdi rfl dX7_goesOn_134) (by decide +kernel)
theorem q127_135 : pm_V d 127 135 [l0, l1, l2, l3, l4, .int xi] st S Q = pm_V d 127 137 [l0, l1, l2, l3, l4, .int xi] (.int xi :: st) S Q := pv_iload (pm_cdi rfl dX7_goesOn_135) rfl
theorem q127_137 : pm_V d 127 137 [l0, l1, l2, l3, l4, l5] st S Q = pm_V d 127 139 [l0, l1, l2, l3, l4, l5] (.int 8 :: st) S Q := pv_bipush (pm_cdi rfl dX7_goesOn_137) (by decide +kernel)
theorem q127_139 : pm_V d 127 139 [l0, l1, l2, l3, l4, l5] (.int yi :: .int xi :: st) S Q = if xi = yi then pm_V d 127 142 [l0, l1, l2, l3, l4, l5] st S Q else pm_V d 127 164 [l0, l1, l2, l3, l4, l5] st S Q := pv_icmp_ne (pm_cdi rfl dX7_goesOn_139) rfl
theorem q127_142 : pm_V d 127 142 [.ref xn, l1, l2, l3, l4, l5] st S Q = pm_V d 127 143 [.ref xn, l1, l2, l3, l4, l5] (.ref xn :: st) S Q := pv_aload_n (pm_cdi rfl dX7_goesOn_142) rfl
theorem q127_143 (hs : pm_sh S an = .inr 7) : pm_V d 127 143 [l0, l1, l2, l3, l4, l5] (.ref an :: st) S Q = pm_V d 127 146 [l0, l1, l2, l3, l4, l5] (va_rf (pm_gr S an 37) :: st) S Q := pv_getA (pm_cdi rfl dX7_goesOn_143) (by decide +kernel) (by decide +kernel) (by decide +kernel) hs
theorem q127_146 : pm_V d 127 146 [l0, l1, l2, .int xi, l4, l5] st S Q = pm_V d 127 147 [l0, l1, l2, .int xi, l4, l5] (.int xi :: st) S Q := pv_iload_n (pm_cdi rfl dX7_goesOn_146) rfl
theorem q127_147 (hs : pm_ar S an 0 xi = true) : pm_V d 127 147 [l0, l1, l2, l3, l4, l5] (.int xi :: .ref an :: st) S Q = pm_V d 127 148 [l0, l1, l2, l3, l4, l5] (.int (pm_zi S an xi.toNatClampNeg) :: st) S Q := pv_iald (pm_cdi rfl dX7_goesOn_147) hs
theorem q127_148 : pm_V d 127 148 [l0, l1, l2, l3, l4, l5] (.int xi :: st) S Q = if xi = 0 then pm_V d 127 151 [l0, l1, l2, l3, l4, l5] st S Q else pm_V d 127 164 [l0, l1, l2, l3, l4, l5] st S Q := pv_if_ne (pm_cdi rfl dX7_goesOn_148) rfl
theorem q127_151 : pm_V d 127 151 [l0, l1, .int xi, l3, l4, l5] st S Q = pm_V d 127 152 [l0, l1, .int xi, l3, l4, l5] (.int xi :: st) S Q := pv_iload_n (pm_cdi rfl dX7_goesOn_151) rfl
theorem q127_152 : pm_V d 127 152 [l0, l1, l2, l3, l4, l5] (.int xi :: st) S Q = if xi = 0 then pm_V d 127 155 [l0, l1, l2, l3, l4, l5] st S Q else pm_V d 127 164 [l0, l1, l2, l3, l4, l5] st S Q := pv_if_ne (pm_cdi rfl dX7_goesOn_152) rfl
theorem q127_155 : pm_V d 127 155 [.ref xn, l1, l2, l3, l4, l5] st S Q = pm_V d 127 156 [.ref xn, l1, l2, l3, l4, l5] (.ref xn :: st) S Q := pv_aload_n (pm_cdi rfl dX7_goesOn_155) rfl
theorem q127_156 : pm_V d 127 156 [l0, .int xi, l2, l3, l4, l5] st S Q = pm_V d 127 157 [l0, .int xi, l2, l3, l4, l5] (.int xi :: st) S Q := pv_iload_n (pm_cdi rfl dX7_goesOn_156) rfl
theorem q127_157 : pm_V d 127 157 [l0, l1, l2, .int xi, l4, l5] st S Q = pm_V d 127 158 [l0, l1, l2, .int xi, l4, l5] (.int xi :: st) S Q := pv_iload_n (pm_cdi rfl dX7_goesOn_157) rfl
theorem q127_158 (hs : pm_sh S an = .inr 7) : pm_V (d + 1) 127 158 [l0, l1, l2, l3, l4, l5] [.int v1i, .int v0i, .ref an] S Q = pm_N d 125 [.ref an, .int v0i, .int v1i] S (fun r S' => pm_V (d + 1) 127 161 [l0, l1, l2, l3, l4, l5] (r.toList ++ []) S' Q) := pv_callV (as := [.int v0i, .int v1i]) (pm_cdi rfl dX7_goesOn_158) (Or.inl (by decide +kernel)) (by decide +kernel) (show _ = _ from (by decide +kernel : 2 = pm_np 125)) rfl (Nat.le_of_ble_eq_true rfl) (cl := 7) (by decide +kernel) hs
theorem q127_161 : pm_V d 127 161 [l0, l1, l2, l3, l4, l5] st S Q = pm_V d 127 165 [l0, l1, l2, l3, l4, l5] st S Q := pv_goto (pm_cdi rfl dX7_goesOn_161) rfl
theorem q127_164 : pm_V d 127 164 [l0, l1, .int xi, l3, l4, l5] st S Q = pm_V d 127 165 [l0, l1, .int xi, l3, l4, l5] (.int xi :: st) S Q := pv_iload_n (pm_cdi rfl dX7_goesOn_164) rfl
theorem q127_165 : pm_V d 127 165 [l0, l1, l2, l3, l4, l5] [.int xi] S Q = Q (some (.int xi)) S := pv_rI (pm_cdi rfl dX7_goesOn_165) (by decide +kernel)
theorem q127_e : pm_N d 127 [.ref an, .int v0i, .int v1i] S Q = pm_V d 127 0 [.ref an, .int v0i, .int v1i, pm_j, pm_j, pm_j] [] S Q := pv_ent (Nat.le_of_ble_eq_true rfl) rfl
/-! 128: ViewsJoinsModel.live(IZ)I -/
theorem dX7_live_0 : decode cX7_live 0 = .ok (.aload_n 0, 1) := by decide +kernel
theorem dX7_live_1 : decode cX7_live 1 = .ok (.iload_n 1, 1) := by decide +kernel
theorem dX7_live_2 : decode cX7_live 2 = .ok (.invokevirtual 261, 3) := by decide +kernel
theorem dX7_live_5 : decode cX7_live 5 = .ok (.ifCond .ne 6, 3) := by decide +kernel
theorem dX7_live_8 : decode cX7_live 8 = .ok (.ldc 130, 2) := by decide +kernel
theorem dX7_live_10 : decode cX7_live 10 = .ok (.ireturn, 1) := by decide +kernel
theorem dX7_live_11 : decode cX7_live 11 = .ok (.iload_n 2, 1) := by decide +kernel
theorem dX7_live_12 : decode cX7_live 12 = .ok (.aload_n 0, 1) := by decide +kernel
theorem dX7_live_13 : decode cX7_live 13 = .ok (.getfield 25, 3) := by decide +kernel
theorem dX7_live_16 : decode cX7_live 16 = .ok (.iload_n 1, 1) := by decide +kernel
theorem dX7_live_17 : decode cX7_live 17 = .ok (.baload, 1) := by decide +kernel
theorem dX7_live_18 : decode cX7_live 18 = .ok (.if_icmp .eq 5, 3) := by decide +kernel
theorem dX7_live_21 : decode cX7_live 21 = .ok (.iconst 0, 1) := by decide +kernel
theorem dX7_live_22 : decode cX7_live 22 = .ok (.ireturn, 1) := by decide +kernel
theorem dX7_live_23 : decode cX7_live 23 = .ok (.iload_n 2, 1) := by decide +kernel
theorem dX7_live_24 : decode cX7_live 24 = .ok (.ifCond .ne 20, 3) := by decide +kernel
theorem dX7_live_27 : decode cX7_live 27 = .ok (.aload_n 0, 1) := by decide +kernel
theorem dX7_live_28 : decode cX7_live 28 = .ok (.invokevirtual 264, 3) := by decide +kernel
theorem dX7_live_31 : decode cX7_live 31 = .ok (.aload_n 0, 1) := by decide +kernel
theorem dX7_live_32 : decode cX7_live 32 = .ok (.getfield 29, 3) := by decide +kernel
theorem dX7_live_35 : decode cX7_live 35 = .ok (.iload_n 1, 1) := by decide +kernel
theorem dX7_live_36 : decode cX7_live 36 = .ok (.iaload, 1) := by decide +kernel
theorem dX7_live_37 : decode cX7_live 37 = .ok (.ifCond .eq 7, 3) := by decide +kernel
theorem dX7_live_40 : decode cX7_live 40 = .ok (.ldc_w 267, 3) := by decide +kernel
theorem dX7_live_43 : decode cX7_live 43 = .ok (.ireturn, 1) := by decide +kernel
theorem dX7_live_44 : decode cX7_live 44 = .ok (.aload_n 0, 1) := by decide +kernel
theorem dX7_live_45 : decode cX7_live 45 = .ok (.getfield 25, 3) := by decide +kernel
theorem dX7_live_48 : decode cX7_live 48 = .ok (.iload_n 1, 1) := by decide +kernel
theorem dX7_live_49 : decode cX7_live 49 = .ok (.iload_n 2, 1) := by decide +kernel
theorem dX7_live_50 : decode cX7_live 50 = .ok (.ifCond .ne 7, 3) := by decide +kernel
theorem dX7_live_53 : decode cX7_live 53 = .ok (.iconst 1, 1) := by decide +kernel
theorem dX7_live_54 : decode cX7_live 54 = .ok (.goto 4, 3) := by decide +kernel
theorem dX7_live_57 : decode cX7_live 57 = .ok (.iconst 0, 1) := by decide +kernel
theorem dX7_live_58 : decode cX7_live 58 = .ok (.bastore, 1) := by decide +kernel
theorem dX7_live_59 : decode cX7_live 59 = .ok (.aload_n 0, 1) := by decide +kernel
theorem dX7_live_60 : decode cX7_live 60 = .ok (.iconst 0, 1) := by decide +kernel
theorem dX7_live_61 : decode cX7_live 61 = .ok (.putfield 132, 3) := by decide +kernel
theorem dX7_live_64 : decode cX7_live 64 = .ok (.iconst 1, 1) := by decide +kernel
theorem dX7_live_65 : decode cX7_live 65 = .ok (.ireturn, 1) := by decide +kernel
theorem q128_0 : pm_V d 128 0 [.ref xn, l1, l2] st S Q = pm_V d 128 1 [.ref xn, l1, l2] (.ref xn :: st) S Q := pv_aload_n (pm_cdi rfl dX7_live_0) rfl
theorem q128_1 : pm_V d 128 1 [l0, .int xi, l2] st S Q = pm_V d 128 2 [l0, .int xi, l2] (.int xi :: st) S Q := pv_iload_n (pm_cdi rfl dX7_live_1) rfl
theorem q128_2 (hs : pm_sh S an = .inr 7) : pm_V (d + 1) 128 2 [l0, l1, l2] [.int v0i, .ref an] S Q = pm_N d 90 [.ref an, .int v0i] S (fun r S' => pm_V (d + 1) 128 5 [l0, l1, l2] (r.toList ++ []) S' Q) := pv_callV (as := [.int v0i]) (pm_cdi rfl dX7_live_2) (Or.inl (by decide +kernel)) (by decide +kernel) (show _ = _ from (by decide +kernel : 1 = pm_np 90)) rfl (Nat.le_of_ble_eq_true rfl) (cl := 7) (by decide +kernel) hs
theorem q128_5 : pm_V d 128 5 [l0, l1, l2] (.int xi :: st) S Q = if xi = 0 then pm_V d 128 8 [l0, l1, l2] st S Q else pm_V d 128 11 [l0, l1, l2] st S Q := pv_if_ne (pm_cdi rfl dX7_live_5) rfl
theorem q128_8 : pm_V d 128 8 [l0, l1, l2] st S Q = pm_V d 128 10 [l0, l1, l2] (.int (-1000001) :: st) S Q := pv_ldc (pm_cdi rfl dX7_live_8) (by decide +kernel)
theorem q128_10 : pm_V d 128 10 [l0, l1, l2] [.int xi] S Q = Q (some (.int xi)) S := pv_rI (pm_cdi rfl dX7_live_10) (by decide +kernel)
theorem q128_11 : pm_V d 128 11 [l0, l1, .int xi] st S Q = pm_V d 128 12 [l0, l1, .int xi] (.int xi :: st) S Q := pv_iload_n (pm_cdi rfl dX7_live_11) rfl
theorem q128_12 : pm_V d 128 12 [.ref xn, l1, l2] st S Q = pm_V d 128 13 [.ref xn, l1, l2] (.ref xn :: st) S Q := pv_aload_n (pm_cdi rfl dX7_live_12) rfl
theorem q128_13 (hs : pm_sh S an = .inr 7) : pm_V d 128 13 [l0, l1, l2] (.ref an :: st) S Q = pm_V d 128 16 [l0, l1, l2] (va_rf (pm_gr S an 6) :: st) S Q := pv_getA (pm_cdi rfl dX7_live_13) (by decide +kernel) (by decide +kernel) (by decide +kernel) hs
theorem q128_16 : pm_V d 128 16 [l0, .int xi, l2] st S Q = pm_V d 128 17 [l0, .int xi, l2] (.int xi :: st) S Q := pv_iload_n (pm_cdi rfl dX7_live_16) rfl
theorem q128_17 (hs : pm_ar S an 2 xi = true) : pm_V d 128 17 [l0, l1, l2] (.int xi :: .ref an :: st) S Q = pm_V d 128 18 [l0, l1, l2] (.int (pm_zi S an xi.toNatClampNeg) :: st) S Q := pv_bald (pm_cdi rfl dX7_live_17) hs
theorem q128_18 : pm_V d 128 18 [l0, l1, l2] (.int yi :: .int xi :: st) S Q = if xi = yi then pm_V d 128 23 [l0, l1, l2] st S Q else pm_V d 128 21 [l0, l1, l2] st S Q := pv_icmp_eq (pm_cdi rfl dX7_live_18) rfl
theorem q128_21 : pm_V d 128 21 [l0, l1, l2] st S Q = pm_V d 128 22 [l0, l1, l2] (.int 0 :: st) S Q := pv_iconst (pm_cdi rfl dX7_live_21) (by decide +kernel)
theorem q128_22 : pm_V d 128 22 [l0, l1, l2] [.int xi] S Q = Q (some (.int xi)) S := pv_rI (pm_cdi rfl dX7_live_22) (by decide +kernel)
theorem q128_23 : pm_V d 128 23 [l0, l1, .int xi] st S Q = pm_V d 128 24 [l0, l1, .int xi] (.int xi :: st) S Q := pv_iload_n (pm_cdi rfl dX7_live_23) rfl
theorem q128_24 : pm_V d 128 24 [l0, l1, l2] (.int xi :: st) S Q = if xi = 0 then pm_V d 128 27 [l0, l1, l2] st S Q else pm_V d 128 44 [l0, l1, l2] st S Q := pv_if_ne (pm_cdi rfl dX7_live_24) rfl
theorem q128_27 : pm_V d 128 27 [.ref xn, l1, l2] st S Q = pm_V d 128 28 [.ref xn, l1, l2] (.ref xn :: st) S Q := pv_aload_n (pm_cdi rfl dX7_live_27) rfl
theorem q128_28 (hs : pm_sh S an = .inr 7) : pm_V (d + 1) 128 28 [l0, l1, l2] [.ref an] S Q = pm_N d 99 [.ref an] S (fun r S' => pm_V (d + 1) 128 31 [l0, l1, l2] (r.toList ++ []) S' Q) := pv_callV (as := []) (pm_cdi rfl dX7_live_28) (Or.inl (by decide +kernel)) (by decide +kernel) (show _ = _ from (by decide +kernel : 0 = pm_np 99)) rfl (Nat.le_of_ble_eq_true rfl) (cl := 7) (by decide +kernel) hs
theorem q128_31 : pm_V d 128 31 [.ref xn, l1, l2] st S Q = pm_V d 128 32 [.ref xn, l1, l2] (.ref xn :: st) S Q := pv_aload_n (pm_cdi rfl dX7_live_31) rfl
theorem q128_32 (hs : pm_sh S an = .inr 7) : pm_V d 128 32 [l0, l1, l2] (.ref an :: st) S Q = pm_V d 128 35 [l0, l1, l2] (va_rf (pm_gr S an 7) :: st) S Q := pv_getA (pm_cdi rfl dX7_live_32) (by decide +kernel) (by decide +kernel) (by decide +kernel) hs
theorem q128_35 : pm_V d 128 35 [l0, .int xi, l2] st S Q = pm_V d 128 36 [l0, .int xi, l2] (.int xi :: st) S Q := pv_iload_n (pm_cdi rfl dX7_live_35) rfl
theorem q128_36 (hs : pm_ar S an 0 xi = true) : pm_V d 128 36 [l0, l1, l2] (.int xi :: .ref an :: st) S Q = pm_V d 128 37 [l0, l1, l2] (.int (pm_zi S an xi.toNatClampNeg) :: st) S Q := pv_iald (pm_cdi rfl dX7_live_36) hs
theorem q128_37 : pm_V d 128 37 [l0, l1, l2] (.int xi :: st) S Q = if xi = 0 then pm_V d 128 44 [l0, l1, l2] st S Q else pm_V d 128 40 [l0, l1, l2] st S Q := pv_if_eq (pm_cdi rfl dX7_live_37) rfl
theorem q128_40 : pm_V d 128 40 [l0, l1, l2] st S Q = pm_V d 128 43 [l0, l1, l2] (.int (-1000003) :: st) S Q := pv_ldcw (pm_cdi rfl dX7_live_40) (by decide +kernel)
theorem q128_43 : pm_V d 128 43 [l0, l1, l2] [.int xi] S Q = Q (some (.int xi)) S := pv_rI (pm_cdi rfl dX7_live_43) (by decide +kernel)
theorem q128_44 : pm_V d 128 44 [.ref xn, l1, l2] st S Q = pm_V d 128 45 [.ref xn, l1, l2] (.ref xn :: st) S Q := pv_aload_n (pm_cdi rfl dX7_live_44) rfl
theorem q128_45 (hs : pm_sh S an = .inr 7) : pm_V d 128 45 [l0, l1, l2] (.ref an :: st) S Q = pm_V d 128 48 [l0, l1, l2] (va_rf (pm_gr S an 6) :: st) S Q := pv_getA (pm_cdi rfl dX7_live_45) (by decide +kernel) (by decide +kernel) (by decide +kernel) hs
theorem q128_48 : pm_V d 128 48 [l0, .int xi, l2] st S Q = pm_V d 128 49 [l0, .int xi, l2] (.int xi :: st) S Q := pv_iload_n (pm_cdi rfl dX7_live_48) rfl
theorem q128_49 : pm_V d 128 49 [l0, l1, .int xi] st S Q = pm_V d 128 50 [l0, l1, .int xi] (.int xi :: st) S Q := pv_iload_n (pm_cdi rfl dX7_live_49) rfl
theorem q128_50 : pm_V d 128 50 [l0, l1, l2] (.int xi :: st) S Q = if xi = 0 then pm_V d 128 53 [l0, l1, l2] st S Q else pm_V d 128 57 [l0, l1, l2] st S Q := pv_if_ne (pm_cdi rfl dX7_live_50) rfl
theorem q128_53 : pm_V d 128 53 [l0, l1, l2] st S Q = pm_V d 128 54 [l0, l1, l2] (.int 1 :: st) S Q := pv_iconst (pm_cdi rfl dX7_live_53) (by decide +kernel)
theorem q128_54 : pm_V d 128 54 [l0, l1, l2] st S Q = pm_V d 128 58 [l0, l1, l2] st S Q := pv_goto (pm_cdi rfl dX7_live_54) rfl
theorem q128_57 : pm_V d 128 57 [l0, l1, l2] st S Q = pm_V d 128 58 [l0, l1, l2] (.int 0 :: st) S Q := pv_iconst (pm_cdi rfl dX7_live_57) (by decide +kernel)
theorem q128_58 (hs : pm_ar S an 2 xi = true) (hv : vi = 0 ∨ vi = 1) : pm_V d 128 58 [l0, l1, l2] (.int vi :: .int xi :: .ref an :: st) S Q = pm_V d 128 59 [l0, l1, l2] st (pm_szi S an xi.toNatClampNeg vi) Q := pv_bast (pm_cdi rfl dX7_live_58) hs hv
theorem q128_59 : pm_V d 128 59 [.ref xn, l1, l2] st S Q = pm_V d 128 60 [.ref xn, l1, l2] (.ref xn :: st) S Q := pv_aload_n (pm_cdi rfl dX7_live_59) rfl
theorem q128_60 : pm_V d 128 60 [l0, l1, l2] st S Q = pm_V d 128 61 [l0, l1, l2] (.int 0 :: st) S Q := pv_iconst (pm_cdi rfl dX7_live_60) (by decide +kernel)
theorem q128_61 (hs : pm_sh S an = .inr 7) (hx : xi = 0 ∨ xi = 1) : pm_V d 128 61 [l0, l1, l2] (.int xi :: .ref an :: st) S Q = pm_V d 128 64 [l0, l1, l2] st (pm_sgi S an 21 xi) Q := pv_putZ (pm_cdi rfl dX7_live_61) (by decide +kernel) (by decide +kernel) (by decide +kernel) hs hx
theorem q128_64 : pm_V d 128 64 [l0, l1, l2] st S Q = pm_V d 128 65 [l0, l1, l2] (.int 1 :: st) S Q := pv_iconst (pm_cdi rfl dX7_live_64) (by decide +kernel)
theorem q128_65 : pm_V d 128 65 [l0, l1, l2] [.int xi] S Q = Q (some (.int xi)) S := pv_rI (pm_cdi rfl dX7_live_65) (by decide +kernel)
theorem q128_e : pm_N d 128 [.ref an, .int v0i, .int v1i] S Q = pm_V d 128 0 [.ref an, .int v0i, .int v1i] [] S Q := pv_ent (Nat.le_of_ble_eq_true rfl) rfl
end
