section
variable {d : Nat} {S : pm_T} {Q : Option Value → pm_T → Prop} {an r0n r1n r2n r3n r4n r5n v0n v1n v2n vn xn yn : Nat} {ki r0i r1i r2i r3i r4i v0i v1i v2i v3i v4i v5i vi xi yi : Int32} {l0 l1 l10 l2 l3 l4 l5 l6 l7 l8 l9 v0v v1v v2v : Value} {r0j r1j v0j v1j v2j v3j vj xj yj : Int64} {st : List Value}
/-! 129: ViewsJoinsModel.told(II)I -/
theorem dX7_told_0 : decode cX7_told 0 = .ok (.aload_n 0, 1) := by decide +kernel
theorem dX7_told_1 : decode cX7_told 1 = .ok (.iload_n 1, 1) := by decide +kernel
theorem dX7_told_2 : decode cX7_told 2 = .ok (.invokevirtual 123, 3) := by decide +kernel
theorem dX7_told_5 : decode cX7_told 5 = .ok (.ifCond .eq 12, 3) := by decide +kernel
theorem dX7_told_8 : decode cX7_told 8 = .ok (.iload_n 2, 1) := by decide +kernel
theorem dX7_told_9 : decode cX7_told 9 = .ok (.iconst 0, 1) := by decide +kernel
theorem dX7_told_10 : decode cX7_told 10 = .ok (.iconst 5, 1) := by decide +kernel
theorem dX7_told_11 : decode cX7_told 11 = .ok (.invokestatic 119, 3) := by decide +kernel
theorem dX7_told_14 : decode cX7_told 14 = .ok (.ifCond .ne 6, 3) := by decide +kernel
theorem dX7_told_17 : decode cX7_told 17 = .ok (.ldc 130, 2) := by decide +kernel
theorem dX7_told_19 : decode cX7_told 19 = .ok (.ireturn, 1) := by decide +kernel
theorem dX7_told_20 : decode cX7_told 20 = .ok (.aload_n 0, 1) := by decide +kernel
theorem dX7_told_21 : decode cX7_told 21 = .ok (.invokevirtual 264, 3) := by decide +kernel
theorem dX7_told_24 : decode cX7_told 24 = .ok (.aload_n 0, 1) := by decide +kernel
theorem dX7_told_25 : decode cX7_told 25 = .ok (.getfield 29, 3) := by decide +kernel
theorem dX7_told_28 : decode cX7_told 28 = .ok (.iload_n 1, 1) := by decide +kernel
theorem dX7_told_29 : decode cX7_told 29 = .ok (.iaload, 1) := by decide +kernel
theorem dX7_told_30 : decode cX7_told 30 = .ok (.ifCond .eq 17, 3) := by decide +kernel
theorem dX7_told_33 : decode cX7_told 33 = .ok (.iload_n 2, 1) := by decide +kernel
theorem dX7_told_34 : decode cX7_told 34 = .ok (.iconst 2, 1) := by decide +kernel
theorem dX7_told_35 : decode cX7_told 35 = .ok (.if_icmp .lt 8, 3) := by decide +kernel
theorem dX7_told_38 : decode cX7_told 38 = .ok (.iload_n 2, 1) := by decide +kernel
theorem dX7_told_39 : decode cX7_told 39 = .ok (.iconst 3, 1) := by decide +kernel
theorem dX7_told_40 : decode cX7_told 40 = .ok (.if_icmp .ne 7, 3) := by decide +kernel
theorem dX7_told_43 : decode cX7_told 43 = .ok (.ldc_w 267, 3) := by decide +kernel
theorem dX7_told_46 : decode cX7_told 46 = .ok (.ireturn, 1) := by decide +kernel
theorem dX7_told_47 : decode cX7_told 47 = .ok (.iload_n 2, 1) := by decide +kernel
theorem dX7_told_48 : decode cX7_told 48 = .ok (.tableswitch 79 0 4 #[36, 43, 50, 57, 64], 36) := by decide +kernel
theorem dX7_told_84 : decode cX7_told 84 = .ok (.aload_n 0, 1) := by decide +kernel
theorem dX7_told_85 : decode cX7_told 85 = .ok (.getfield 32, 3) := by decide +kernel
theorem dX7_told_88 : decode cX7_told 88 = .ok (.iload_n 1, 1) := by decide +kernel
theorem dX7_told_89 : decode cX7_told 89 = .ok (.iaload, 1) := by decide +kernel
theorem dX7_told_90 : decode cX7_told 90 = .ok (.ireturn, 1) := by decide +kernel
theorem dX7_told_91 : decode cX7_told 91 = .ok (.aload_n 0, 1) := by decide +kernel
theorem dX7_told_92 : decode cX7_told 92 = .ok (.getfield 35, 3) := by decide +kernel
theorem dX7_told_95 : decode cX7_told 95 = .ok (.iload_n 1, 1) := by decide +kernel
theorem dX7_told_96 : decode cX7_told 96 = .ok (.iaload, 1) := by decide +kernel
theorem dX7_told_97 : decode cX7_told 97 = .ok (.ireturn, 1) := by decide +kernel
theorem dX7_told_98 : decode cX7_told 98 = .ok (.aload_n 0, 1) := by decide +kernel
theorem dX7_told_99 : decode cX7_told 99 = .ok (.getfield 7, 3) := by decide +kernel
theorem dX7_told_102 : decode cX7_told 102 = .ok (.iload_n 1, 1) := by decide +kernel
theorem dX7_told_103 : decode cX7_told 103 = .ok (.iaload, 1) := by decide +kernel
theorem dX7_told_104 : decode cX7_told 104 = .ok (.ireturn, 1) := by decide +kernel
theorem dX7_told_105 : decode cX7_told 105 = .ok (.aload_n 0, 1) := by decide +kernel
theorem dX7_told_106 : decode cX7_told 106 = .ok (.getfield 63, 3) := by decide +kernel
theorem dX7_told_109 : decode cX7_told 109 = .ok (.iload_n 1, 1) := by decide +kernel
theorem dX7_told_110 : decode cX7_told 110 = .ok (.iaload, 1) := by decide +kernel
theorem dX7_told_111 : decode cX7_told 111 = .ok (.ireturn, 1) := by decide +kernel
theorem dX7_told_112 : decode cX7_told 112 = .ok (.aload_n 0, 1) := by decide +kernel
theorem dX7_told_113 : decode cX7_told 113 = .ok (.getfield 25, 3) := by decide +kernel
theorem dX7_told_116 : decode cX7_told 116 = .ok (.iload_n 1, 1) := by decide +kernel
theorem dX7_told_117 : decode cX7_told 117 = .ok (.baload, 1) := by decide +kernel
theorem dX7_told_118 : decode cX7_told 118 = .ok (.ifCond .eq 7, 3) := by decide +kernel
theorem dX7_told_121 : decode cX7_told 121 = .ok (.iconst 0, 1) := by decide +kernel
theorem dX7_told_122 : decode cX7_told 122 = .ok (.goto 4, 3) := by decide +kernel
theorem dX7_told_125 : decode cX7_told 125 = .ok (.iconst 1, 1) := by decide +kernel
theorem dX7_told_126 : decode cX7_told 126 = .ok (.ireturn, 1) := by decide +kernel
theorem dX7_told_127 : decode cX7_told 127 = .ok (.aload_n 0, 1) := by decide +kernel
theorem dX7_told_128 : decode cX7_told 128 = .ok (.getfield 29, 3) := by decide +kernel
theorem dX7_told_131 : decode cX7_told 131 = .ok (.iload_n 1, 1) := by decide +kernel
theorem dX7_told_132 : decode cX7_told 132 = .ok (.iaload, 1) := by decide +kernel
theorem dX7_told_133 : decode cX7_told 133 = .ok (.ireturn, 1) := by decide +kernel
theorem q129_0 : pm_V d 129 0 [.ref xn, l1, l2] st S Q = pm_V d 129 1 [.ref xn, l1, l2] (.ref xn :: st) S Q := pv_aload_n (pm_cdi rfl dX7_told_0) rfl
theorem q129_1 : pm_V d 129 1 [l0, .int xi, l2] st S Q = pm_V d 129 2 [l0, .int xi, l2] (.int xi :: st) S Q := pv_iload_n (pm_cdi rfl dX7_told_1) rfl
theorem q129_2 (hs : pm_sh S an = .inr 7) : pm_V (d + 1) 129 2 [l0, l1, l2] [.int v0i, .ref an] S Q = pm_N d 88 [.ref an, .int v0i] S (fun r S' => pm_V (d + 1) 129 5 [l0, l1, l2] (r.toList ++ []) S' Q) := pv_callV (as := [.int v0i]) (pm_cdi rfl dX7_told_2) (Or.inl (by decide +kernel)) (by decide +kernel) (show _ = _ from (by decide +kernel : 1 = pm_np 88)) rfl (Nat.le_of_ble_eq_true rfl) (cl := 7) (by decide +kernel) hs
theorem q129_5 : pm_V d 129 5 [l0, l1, l2] (.int xi :: st) S Q = if xi = 0 then pm_V d 129 17 [l0, l1, l2] st S Q else pm_V d 129 8 [l0, l1, l2] st S Q := pv_if_eq (pm_cdi rfl dX7_told_5) rfl
theorem q129_8 : pm_V d 129 8 [l0, l1, .int xi] st S Q = pm_V d 129 9 [l0, l1, .int xi] (.int xi :: st) S Q := pv_iload_n (pm_cdi rfl dX7_told_8) rfl
theorem q129_9 : pm_V d 129 9 [l0, l1, l2] st S Q = pm_V d 129 10 [l0, l1, l2] (.int 0 :: st) S Q := pv_iconst (pm_cdi rfl dX7_told_9) (by decide +kernel)
theorem q129_10 : pm_V d 129 10 [l0, l1, l2] st S Q = pm_V d 129 11 [l0, l1, l2] (.int 5 :: st) S Q := pv_iconst (pm_cdi rfl dX7_told_10) (by decide +kernel)
theorem q129_11 : pm_V (d + 1) 129 11 [l0, l1, l2] [.int v2i, .int v1i, .int v0i] S Q = pm_N d 87 [.int v0i, .int v1i, .int v2i] S (fun r S' => pm_V (d + 1) 129 14 [l0, l1, l2] (r.toList ++ []) S' Q) := pv_callS (as := [.int v0i, .int v1i, .int v2i]) (pm_cdi rfl dX7_told_11) (by decide +kernel) (by decide +kernel) (show _ = _ from (by decide +kernel : 3 = pm_np 87)) rfl (Nat.le_of_ble_eq_true rfl)
theorem q129_14 : pm_V d 129 14 [l0, l1, l2] (.int xi :: st) S Q = if xi = 0 then pm_V d 129 17 [l0, l1, l2] st S Q else pm_V d 129 20 [l0, l1, l2] st S Q := pv_if_ne (pm_cdi rfl dX7_told_14) rfl
theorem q129_17 : pm_V d 129 17 [l0, l1, l2] st S Q = pm_V d 129 19 [l0, l1, l2] (.int (-1000001) :: st) S Q := pv_ldc (pm_cdi rfl dX7_told_17) (by decide +kernel)
theorem q129_19 : pm_V d 129 19 [l0, l1, l2] [.int xi] S Q = Q (some (.int xi)) S := pv_rI (pm_cdi rfl dX7_told_19) (by decide +kernel)
theorem q129_20 : pm_V d 129 20 [.ref xn, l1, l2] st S Q = pm_V d 129 21 [.ref xn, l1, l2] (.ref xn :: st) S Q := pv_aload_n (pm_cdi rfl dX7_told_20) rfl
theorem q129_21 (hs : pm_sh S an = .inr 7) : pm_V (d + 1) 129 21 [l0, l1, l2] [.ref an] S Q = pm_N d 99 [.ref an] S (fun r S' => pm_V (d + 1) 129 24 [l0, l1, l2] (r.toList ++ []) S' Q) := pv_callV (as := []) (pm_cdi rfl dX7_told_21) (Or.inl (by decide +kernel)) (by decide +kernel) (show _ = _ from (by decide +kernel : 0 = pm_np 99)) rfl (Nat.le_of_ble_eq_true rfl) (cl := 7) (by decide +kernel) hs
theorem q129_24 : pm_V d 129 24 [.ref xn, l1, l2] st S Q = pm_V d 129 25 [.ref xn, l1, l2] (.ref xn :: st) S Q := pv_aload_n (pm_cdi rfl dX7_told_24) rfl
theorem q129_25 (hs : pm_sh S an = .inr 7) : pm_V d 129 25 [l0, l1, l2] (.ref an :: st) S Q = pm_V d 129 28 [l0, l1, l2] (va_rf (pm_gr S an 7) :: st) S Q := pv_getA (pm_cdi rfl dX7_told_25) (by decide +kernel) (by decide +kernel) (by decide +kernel) hs
theorem q129_28 : pm_V d 129 28 [l0, .int xi, l2] st S Q = pm_V d 129 29 [l0, .int xi, l2] (.int xi :: st) S Q := pv_iload_n (pm_cdi rfl dX7_told_28) rfl
theorem q129_29 (hs : pm_ar S an 0 xi = true) : pm_V d 129 29 [l0, l1, l2] (.int xi :: .ref an :: st) S Q = pm_V d 129 30 [l0, l1, l2] (.int (pm_zi S an xi.toNatClampNeg) :: st) S Q := pv_iald (pm_cdi rfl dX7_told_29) hs
theorem q129_30 : pm_V d 129 30 [l0, l1, l2] (.int xi :: st) S Q = if xi = 0 then pm_V d 129 47 [l0, l1, l2] st S Q else pm_V d 129 33 [l0, l1, l2] st S Q := pv_if_eq (pm_cdi rfl dX7_told_30) rfl
theorem q129_33 : pm_V d 129 33 [l0, l1, .int xi] st S Q = pm_V d 129 34 [l0, l1, .int xi] (.int xi :: st) S Q := pv_iload_n (pm_cdi rfl dX7_told_33) rfl
theorem q129_34 : pm_V d 129 34 [l0, l1, l2] st S Q = pm_V d 129 35 [l0, l1, l2] (.int 2 :: st) S Q := pv_iconst (pm_cdi rfl dX7_told_34) (by decide +kernel)
theorem q129_35 : pm_V d 129 35 [l0, l1, l2] (.int yi :: .int xi :: st) S Q = if xi < yi then pm_V d 129 43 [l0, l1, l2] st S Q else pm_V d 129 38 [l0, l1, l2] st S Q := pv_icmp_lt (pm_cdi rfl dX7_told_35) rfl
theorem q129_38 : pm_V d 129 38 [l0, l1, .int xi] st S Q = pm_V d 129 39 [l0, l1, .int xi] (.int xi :: st) S Q := pv_iload_n (pm_cdi rfl dX7_told_38) rfl
theorem q129_39 : pm_V d 129 39 [l0, l1, l2] st S Q = pm_V d 129 40 [l0, l1, l2] (.int 3 :: st) S Q := pv_iconst (pm_cdi rfl dX7_told_39) (by decide +kernel)
theorem q129_40 : pm_V d 129 40 [l0, l1, l2] (.int yi :: .int xi :: st) S Q = if xi = yi then pm_V d 129 43 [l0, l1, l2] st S Q else pm_V d 129 47 [l0, l1, l2] st S Q := pv_icmp_ne (pm_cdi rfl dX7_told_40) rfl
theorem q129_43 : pm_V d 129 43 [l0, l1, l2] st S Q = pm_V d 129 46 [l0, l1, l2] (.int (-1000003) :: st) S Q := pv_ldcw (pm_cdi rfl dX7_told_43) (by decide +kernel)
theorem q129_46 : pm_V d 129 46 [l0, l1, l2] [.int xi] S Q = Q (some (.int xi)) S := pv_rI (pm_cdi rfl dX7_told_46) (by decide +kernel)
theorem q129_47 : pm_V d 129 47 [l0, l1, .int xi] st S Q = pm_V d 129 48 [l0, l1, .int xi] (.int xi :: st) S Q := pv_iload_n (pm_cdi rfl dX7_told_47) rfl
theorem q129_48 : pm_V d 129 48 [l0, l1, l2] (.int xi :: st) S Q = pm_V d 129 (pm_tsw xi 0 [84, 91, 98, 105, 112] 127) [l0, l1, l2] st S Q := pv_tsw (pm_cdi rfl dX7_told_48) (by decide +kernel) rfl (by decide +kernel)
theorem q129_84 : pm_V d 129 84 [.ref xn, l1, l2] st S Q = pm_V d 129 85 [.ref xn, l1, l2] (.ref xn :: st) S Q := pv_aload_n (pm_cdi rfl dX7_told_84) rfl
theorem q129_85 (hs : pm_sh S an = .inr 7) : pm_V d 129 85 [l0, l1, l2] (.ref an :: st) S Q = pm_V d 129 88 [l0, l1, l2] (va_rf (pm_gr S an 8) :: st) S Q := pv_getA (pm_cdi rfl dX7_told_85) (by decide +kernel) (by decide +kernel) (by decide +kernel) hs
theorem q129_88 : pm_V d 129 88 [l0, .int xi, l2] st S Q = pm_V d 129 89 [l0, .int xi, l2] (.int xi :: st) S Q := pv_iload_n (pm_cdi rfl dX7_told_88) rfl
theorem q129_89 (hs : pm_ar S an 0 xi = true) : pm_V d 129 89 [l0, l1, l2] (.int xi :: .ref an :: st) S Q = pm_V d 129 90 [l0, l1, l2] (.int (pm_zi S an xi.toNatClampNeg) :: st) S Q := pv_iald (pm_cdi rfl dX7_told_89) hs
theorem q129_90 : pm_V d 129 90 [l0, l1, l2] [.int xi] S Q = Q (some (.int xi)) S := pv_rI (pm_cdi rfl dX7_told_90) (by decide +kernel)
theorem q129_91 : pm_V d 129 91 [.ref xn, l1, l2] st S Q = pm_V d 129 92 [.ref xn, l1, l2] (.ref xn :: st) S Q := pv_aload_n (pm_cdi rfl dX7_told_91) rfl
theorem q129_92 (hs : pm_sh S an = .inr 7) : pm_V d 129 92 [l0, l1, l2] (.ref an :: st) S Q = pm_V d 129 95 [l0, l1, l2] (va_rf (pm_gr S an 9) :: st) S Q := pv_getA (pm_cdi rfl dX7_told_92) (by decide +kernel) (by decide +kernel) (by decide +kernel) hs
theorem q129_95 : pm_V d 129 95 [l0, .int xi, l2] st S Q = pm_V d 129 96 [l0, .int xi, l2] (.int xi :: st) S Q := pv_iload_n (pm_cdi rfl dX7_told_95) rfl
theorem q129_96 (hs : pm_ar S an 0 xi = true) : pm_V d 129 96 [l0, l1, l2] (.int xi :: .ref an :: st) S Q = pm_V d 129 97 [l0, l1, l2] (.int (pm_zi S an xi.toNatClampNeg) :: st) S Q := pv_iald (pm_cdi rfl dX7_told_96) hs
theorem q129_97 : pm_V d 129 97 [l0, l1, l2] [.int xi] S Q = Q (some (.int xi)) S := pv_rI (pm_cdi rfl dX7_told_97) (by decide +kernel)
theorem q129_98 : pm_V d 129 98 [.ref xn, l1, l2] st S Q = pm_V d 129 99 [.ref xn, l1, l2] (.ref xn :: st) S Q := pv_aload_n (pm_cdi rfl dX7_told_98) rfl
theorem q129_99 (hs : pm_sh S an = .inr 7) : pm_V d 129 99 [l0, l1, l2] (.ref an :: st) S Q = pm_V d 129 102 [l0, l1, l2] (va_rf (pm_gr S an 1) :: st) S Q := pv_getA (pm_cdi rfl dX7_told_99) (by decide +kernel) (by decide +kernel) (by decide +kernel) hs
theorem q129_102 : pm_V d 129 102 [l0, .int xi, l2] st S Q = pm_V d 129 103 [l0, .int xi, l2] (.int xi :: st) S Q := pv_iload_n (pm_cdi rfl dX7_told_102) rfl
theorem q129_103 (hs : pm_ar S an 0 xi = true) : pm_V d 129 103 [l0, l1, l2] (.int xi :: .ref an :: st) S Q = pm_V d 129 104 [l0, l1, l2] (.int (pm_zi S an xi.toNatClampNeg) :: st) S Q := pv_iald (pm_cdi rfl dX7_told_103) hs
theorem q129_104 : pm_V d 129 104 [l0, l1, l2] [.int xi] S Q = Q (some (.int xi)) S := pv_rI (pm_cdi rfl dX7_told_104) (by decide +kernel)
theorem q129_105 : pm_V d 129 105 [.ref xn, l1, l2] st S Q = pm_V d 129 106 [.ref xn, l1, l2] (.ref xn :: st) S Q := pv_aload_n (pm_cdi rfl dX7_told_105) rfl
theorem q129_106 (hs : pm_sh S an = .inr 7) : pm_V d 129 106 [l0, l1, l2] (.ref an :: st) S Q = pm_V d 129 109 [l0, l1, l2] (va_rf (pm_gr S an 18) :: st) S Q := pv_getA (pm_cdi rfl dX7_told_106) (by decide +kernel) (by decide +kernel) (by decide +kernel) hs
theorem q129_109 : pm_V d 129 109 [l0, .int xi, l2] st S Q = pm_V d 129 110 [l0, .int xi, l2] (.int xi :: st) S Q := pv_iload_n (pm_cdi rfl dX7_told_109) rfl
theorem q129_110 (hs : pm_ar S an 0 xi = true) : pm_V d 129 110 [l0, l1, l2] (.int xi :: .ref an :: st) S Q = pm_V d 129 111 [l0, l1, l2] (.int (pm_zi S an xi.toNatClampNeg) :: st) S Q := pv_iald (pm_cdi rfl dX7_told_110) hs
theorem q129_111 : pm_V d 129 111 [l0, l1, l2] [.int xi] S Q = Q (some (.int xi)) S := pv_rI (pm_cdi rfl dX7_told_111) (by decide +kernel)
theorem q129_112 : pm_V d 129 112 [.ref xn, l1, l2] st S Q = pm_V d 129 113 [.ref xn, l1, l2] (.ref xn :: st) S Q := pv_aload_n (pm_cdi rfl dX7_told_112) rfl
theorem q129_113 (hs : pm_sh S an = .inr 7) : pm_V d 129 113 [l0, l1, l2] (.ref an :: st) S Q = pm_V d 129 116 [l0, l1, l2] (va_rf (pm_gr S an 6) :: st) S Q := pv_getA (pm_cdi rfl dX7_told_113) (by decide +kernel) (by decide +kernel) (by decide +kernel) hs
theorem q129_116 : pm_V d 129 116 [l0, .int xi, l2] st S Q = pm_V d 129 117 [l0, .int xi, l2] (.int xi :: st) S Q := pv_iload_n (pm_cdi rfl dX7_told_116) rfl
theorem q129_117 (hs : pm_ar S an 2 xi = true) : pm_V d 129 117 [l0, l1, l2] (.int xi :: .ref an :: st) S Q = pm_V d 129 118 [l0, l1, l2] (.int (pm_zi S an xi.toNatClampNeg) :: st) S Q := pv_bald (pm_cdi rfl dX7_told_117) hs
theorem q129_118 : pm_V d 129 118 [l0, l1, l2] (.int xi :: st) S Q = if xi = 0 then pm_V d 129 125 [l0, l1, l2] st S Q else pm_V d 129 121 [l0, l1, l2] st S Q := pv_if_eq (pm_cdi rfl dX7_told_118) rfl
theorem q129_121 : pm_V d 129 121 [l0, l1, l2] st S Q = pm_V d 129 122 [l0, l1, l2] (.int 0 :: st) S Q := pv_iconst (pm_cdi rfl dX7_told_121) (by decide +kernel)
theorem q129_122 : pm_V d 129 122 [l0, l1, l2] st S Q = pm_V d 129 126 [l0, l1, l2] st S Q := pv_goto (pm_cdi rfl dX7_told_122) rfl
theorem q129_125 : pm_V d 129 125 [l0, l1, l2] st S Q = pm_V d 129 126 [l0, l1, l2] (.int 1 :: st) S Q := pv_iconst (pm_cdi rfl dX7_told_125) (by decide +kernel)
theorem q129_126 : pm_V d 129 126 [l0, l1, l2] [.int xi] S Q = Q (some (.int xi)) S := pv_rI (pm_cdi rfl dX7_told_126) (by decide +kernel)
theorem q129_127 : pm_V d 129 127 [.ref xn, l1, l2] st S Q = pm_V d 129 128 [.ref xn, l1, l2] (.ref xn :: st) S Q := pv_aload_n (pm_cdi rfl dX7_told_127) rfl
theorem q129_128 (hs : pm_sh S an = .inr 7) : pm_V d 129 128 [l0, l1, l2] (.ref an :: st) S Q = pm_V d 129 131 [l0, l1, l2] (va_rf (pm_gr S an 7) :: st) S Q := pv_getA (pm_cdi rfl dX7_told_128) (by decide +kernel) (by decide +kernel) (by decide +kernel) hs
theorem q129_131 : pm_V d 129 131 [l0, .int xi, l2] st S Q = pm_V d 129 132 [l0, .int xi, l2] (.int xi :: st) S Q := pv_iload_n (pm_cdi rfl dX7_told_131) rfl
theorem q129_132 (hs : pm_ar S an 0 xi = true) : pm_V d 129 132 [l0, l1, l2] (.int xi :: .ref an :: st) S Q = pm_V d 129 133 [l0, l1, l2] (.int (pm_zi S an xi.toNatClampNeg) :: st) S Q := pv_iald (pm_cdi rfl dX7_told_132) hs
theorem q129_133 : pm_V d 129 133 [l0, l1, l2] [.int xi] S Q = Q (some (.int xi)) S := pv_rI (pm_cdi rfl dX7_told_133) (by decide +kernel)
theorem q129_e : pm_N d 129 [.ref an, .int v0i, .int v1i] S Q = pm_V d 129 0 [.ref an, .int v0i, .int v1i] [] S Q := pv_ent (Nat.le_of_ble_eq_true rfl) rfl
/-! 130: ViewsJoinsModel.end(III)I -/
theorem dX7_end_0 : decode cX7_end 0 = .ok (.aload_n 0, 1) := by decide +kernel
theorem dX7_end_1 : decode cX7_end 1 = .ok (.iload_n 1, 1) := by decide +kernel
theorem dX7_end_2 : decode cX7_end 2 = .ok (.invokevirtual 123, 3) := by decide +kernel
theorem dX7_end_5 : decode cX7_end 5 = .ok (.ifCond .eq 12, 3) := by decide +kernel
theorem dX7_end_8 : decode cX7_end 8 = .ok (.iload_n 3, 1) := by decide +kernel
theorem dX7_end_9 : decode cX7_end 9 = .ok (.iconst 0, 1) := by decide +kernel
theorem dX7_end_10 : decode cX7_end 10 = .ok (.iconst 1, 1) := by decide +kernel
theorem dX7_end_11 : decode cX7_end 11 = .ok (.invokestatic 119, 3) := by decide +kernel
theorem dX7_end_14 : decode cX7_end 14 = .ok (.ifCond .ne 6, 3) := by decide +kernel
theorem dX7_end_17 : decode cX7_end 17 = .ok (.ldc 130, 2) := by decide +kernel
theorem dX7_end_19 : decode cX7_end 19 = .ok (.ireturn, 1) := by decide +kernel
theorem dX7_end_20 : decode cX7_end 20 = .ok (.aload_n 0, 1) := by decide +kernel
theorem dX7_end_21 : decode cX7_end 21 = .ok (.invokevirtual 264, 3) := by decide +kernel
theorem dX7_end_24 : decode cX7_end 24 = .ok (.aload_n 0, 1) := by decide +kernel
theorem dX7_end_25 : decode cX7_end 25 = .ok (.getfield 29, 3) := by decide +kernel
theorem dX7_end_28 : decode cX7_end 28 = .ok (.iload_n 1, 1) := by decide +kernel
theorem dX7_end_29 : decode cX7_end 29 = .ok (.iaload, 1) := by decide +kernel
theorem dX7_end_30 : decode cX7_end 30 = .ok (.ifCond .eq 7, 3) := by decide +kernel
theorem dX7_end_33 : decode cX7_end 33 = .ok (.ldc_w 267, 3) := by decide +kernel
theorem dX7_end_36 : decode cX7_end 36 = .ok (.ireturn, 1) := by decide +kernel
theorem dX7_end_37 : decode cX7_end 37 = .ok (.iload_n 2, 1) := by decide +kernel
theorem dX7_end_38 : decode cX7_end 38 = .ok (.iconst 0, 1) := by decide +kernel
theorem dX7_end_39 : decode cX7_end 39 = .ok (.aload_n 0, 1) := by decide +kernel
theorem dX7_end_40 : decode cX7_end 40 = .ok (.getfield 35, 3) := by decide +kernel
theorem dX7_end_43 : decode cX7_end 43 = .ok (.iload_n 1, 1) := by decide +kernel
theorem dX7_end_44 : decode cX7_end 44 = .ok (.iaload, 1) := by decide +kernel
theorem dX7_end_45 : decode cX7_end 45 = .ok (.iconst 1, 1) := by decide +kernel
theorem dX7_end_46 : decode cX7_end 46 = .ok (.isub, 1) := by decide +kernel
theorem dX7_end_47 : decode cX7_end 47 = .ok (.invokestatic 119, 3) := by decide +kernel
theorem dX7_end_50 : decode cX7_end 50 = .ok (.ifCond .ne 8, 3) := by decide +kernel
theorem dX7_end_53 : decode cX7_end 53 = .ok (.ldc 130, 2) := by decide +kernel
theorem dX7_end_55 : decode cX7_end 55 = .ok (.goto 22, 3) := by decide +kernel
theorem dX7_end_58 : decode cX7_end 58 = .ok (.iload_n 3, 1) := by decide +kernel
theorem dX7_end_59 : decode cX7_end 59 = .ok (.ifCond .ne 12, 3) := by decide +kernel
theorem dX7_end_62 : decode cX7_end 62 = .ok (.aload_n 0, 1) := by decide +kernel
theorem dX7_end_63 : decode cX7_end 63 = .ok (.iload_n 1, 1) := by decide +kernel
theorem dX7_end_64 : decode cX7_end 64 = .ok (.iload_n 2, 1) := by decide +kernel
theorem dX7_end_65 : decode cX7_end 65 = .ok (.invokevirtual 181, 3) := by decide +kernel
theorem dX7_end_68 : decode cX7_end 68 = .ok (.goto 9, 3) := by decide +kernel
theorem dX7_end_71 : decode cX7_end 71 = .ok (.aload_n 0, 1) := by decide +kernel
theorem dX7_end_72 : decode cX7_end 72 = .ok (.iload_n 1, 1) := by decide +kernel
theorem dX7_end_73 : decode cX7_end 73 = .ok (.iload_n 2, 1) := by decide +kernel
theorem dX7_end_74 : decode cX7_end 74 = .ok (.invokevirtual 185, 3) := by decide +kernel
theorem dX7_end_77 : decode cX7_end 77 = .ok (.ireturn, 1) := by decide +kernel
theorem q130_0 : pm_V d 130 0 [.ref xn, l1, l2, l3] st S Q = pm_V d 130 1 [.ref xn, l1, l2, l3] (.ref xn :: st) S Q := pv_aload_n (pm_cdi rfl dX7_end_0) rfl
theorem q130_1 : pm_V d 130 1 [l0, .int xi, l2, l3] st S Q = pm_V d 130 2 [l0, .int xi, l2, l3] (.int xi :: st) S Q := pv_iload_n (pm_cdi rfl dX7_end_1) rfl
theorem q130_2 (hs : pm_sh S an = .inr 7) : pm_V (d + 1) 130 2 [l0, l1, l2, l3] [.int v0i, .ref an] S Q = pm_N d 88 [.ref an, .int v0i] S (fun r S' => pm_V (d + 1) 130 5 [l0, l1, l2, l3] (r.toList ++ []) S' Q) := pv_callV (as := [.int v0i]) (pm_cdi rfl dX7_end_2) (Or.inl (by decide +kernel)) (by decide +kernel) (show _ = _ from (by decide +kernel : 1 = pm_np 88)) rfl (Nat.le_of_ble_eq_true rfl) (cl := 7) (by decide +kernel) hs
theorem q130_5 : pm_V d 130 5 [l0, l1, l2, l3] (.int xi :: st) S Q = if xi = 0 then pm_V d 130 17 [l0, l1, l2, l3] st S Q else pm_V d 130 8 [l0, l1, l2, l3] st S Q := pv_if_eq (pm_cdi rfl dX7_end_5) rfl
theorem q130_8 : pm_V d 130 8 [l0, l1, l2, .int xi] st S Q = pm_V d 130 9 [l0, l1, l2, .int xi] (.int xi :: st) S Q := pv_iload_n (pm_cdi rfl dX7_end_8) rfl
theorem q130_9 : pm_V d 130 9 [l0, l1, l2, l3] st S Q = pm_V d 130 10 [l0, l1, l2, l3] (.int 0 :: st) S Q := pv_iconst (pm_cdi rfl dX7_end_9) (by decide +kernel)
theorem q130_10 : pm_V d 130 10 [l0, l1, l2, l3] st S Q = pm_V d 130 11 [l0, l1, l2, l3] (.int 1 :: st) S Q := pv_iconst (pm_cdi rfl dX7_end_10) (by decide +kernel)
theorem q130_11 : pm_V (d + 1) 130 11 [l0, l1, l2, l3] [.int v2i, .int v1i, .int v0i] S Q = pm_N d 87 [.int v0i, .int v1i, .int v2i] S (fun r S' => pm_V (d + 1) 130 14 [l0, l1, l2, l3] (r.toList ++ []) S' Q) := pv_callS (as := [.int v0i, .int v1i, .int v2i]) (pm_cdi rfl dX7_end_11) (by decide +kernel) (by decide +kernel) (show _ = _ from (by decide +kernel : 3 = pm_np 87)) rfl (Nat.le_of_ble_eq_true rfl)
theorem q130_14 : pm_V d 130 14 [l0, l1, l2, l3] (.int xi :: st) S Q = if xi = 0 then pm_V d 130 17 [l0, l1, l2, l3] st S Q else pm_V d 130 20 [l0, l1, l2, l3] st S Q := pv_if_ne (pm_cdi rfl dX7_end_14) rfl
theorem q130_17 : pm_V d 130 17 [l0, l1, l2, l3] st S Q = pm_V d 130 19 [l0, l1, l2, l3] (.int (-1000001) :: st) S Q := pv_ldc (pm_cdi rfl dX7_end_17) (by decide +kernel)
theorem q130_19 : pm_V d 130 19 [l0, l1, l2, l3] [.int xi] S Q = Q (some (.int xi)) S := pv_rI (pm_cdi rfl dX7_end_19) (by decide +kernel)
theorem q130_20 : pm_V d 130 20 [.ref xn, l1, l2, l3] st S Q = pm_V d 130 21 [.ref xn, l1, l2, l3] (.ref xn :: st) S Q := pv_aload_n (pm_cdi rfl dX7_end_20) rfl
theorem q130_21 (hs : pm_sh S an = .inr 7) : pm_V (d + 1) 130 21 [l0, l1, l2, l3] [.ref an] S Q = pm_N d 99 [.ref an] S (fun r S' => pm_V (d + 1) 130 24 [l0, l1, l2, l3] (r.toList ++ []) S' Q) := pv_callV (as := []) (pm_cdi rfl dX7_end_21) (Or.inl (by decide +kernel)) (by decide +kernel) (show _ = _ from (by decide +kernel : 0 = pm_np 99)) rfl (Nat.le_of_ble_eq_true rfl) (cl := 7) (by decide +kernel) hs
theorem q130_24 : pm_V d 130 24 [.ref xn, l1, l2, l3] st S Q = pm_V d 130 25 [.ref xn, l1, l2, l3] (.ref xn :: st) S Q := pv_aload_n (pm_cdi rfl dX7_end_24) rfl
theorem q130_25 (hs : pm_sh S an = .inr 7) : pm_V d 130 25 [l0, l1, l2, l3] (.ref an :: st) S Q = pm_V d 130 28 [l0, l1, l2, l3] (va_rf (pm_gr S an 7) :: st) S Q := pv_getA (pm_cdi rfl dX7_end_25) (by decide +kernel) (by decide +kernel) (by decide +kernel) hs
theorem q130_28 : pm_V d 130 28 [l0, .int xi, l2, l3] st S Q = pm_V d 130 29 [l0, .int xi, l2, l3] (.int xi :: st) S Q := pv_iload_n (pm_cdi rfl dX7_end_28) rfl
theorem q130_29 (hs : pm_ar S an 0 xi = true) : pm_V d 130 29 [l0, l1, l2, l3] (.int xi :: .ref an :: st) S Q = pm_V d 130 30 [l0, l1, l2, l3] (.int (pm_zi S an xi.toNatClampNeg) :: st) S Q := pv_iald (pm_cdi rfl dX7_end_29) hs
theorem q130_30 : pm_V d 130 30 [l0, l1, l2, l3] (.int xi :: st) S Q = if xi = 0 then pm_V d 130 37 [l0, l1, l2, l3] st S Q else pm_V d 130 33 [l0, l1, l2, l3] st S Q := pv_if_eq (pm_cdi rfl dX7_end_30) rfl
theorem q130_33 : pm_V d 130 33 [l0, l1, l2, l3] st S Q = pm_V d 130 36 [l0, l1, l2, l3] (.int (-1000003) :: st) S Q := pv_ldcw (pm_cdi rfl dX7_end_33) (by decide +kernel)
theorem q130_36 : pm_V d 130 36 [l0, l1, l2, l3] [.int xi] S Q = Q (some (.int xi)) S := pv_rI (pm_cdi rfl dX7_end_36) (by decide +kernel)
theorem q130_37 : pm_V d 130 37 [l0, l1, .int xi, l3] st S Q = pm_V d 130 38 [l0, l1, .int xi, l3] (.int xi :: st) S Q := pv_iload_n (pm_cdi rfl dX7_end_37) rfl
theorem q130_38 : pm_V d 130 38 [l0, l1, l2, l3] st S Q = pm_V d 130 39 [l0, l1, l2, l3] (.int 0 :: st) S Q := pv_iconst (pm_cdi rfl dX7_end_38) (by decide +kernel)
theorem q130_39 : pm_V d 130 39 [.ref xn, l1, l2, l3] st S Q = pm_V d 130 40 [.ref xn, l1, l2, l3] (.ref xn :: st) S Q := pv_aload_n (pm_cdi rfl dX7_end_39) rfl
theorem q130_40 (hs : pm_sh S an = .inr 7) : pm_V d 130 40 [l0, l1, l2, l3] (.ref an :: st) S Q = pm_V d 130 43 [l0, l1, l2, l3] (va_rf (pm_gr S an 9) :: st) S Q := pv_getA (pm_cdi rfl dX7_end_40) (by decide +kernel) (by decide +kernel) (by decide +kernel) hs
theorem q130_43 : pm_V d 130 43 [l0, .int xi, l2, l3] st S Q = pm_V d 130 44 [l0, .int xi, l2, l3] (.int xi :: st) S Q := pv_iload_n (pm_cdi rfl dX7_end_43) rfl
theorem q130_44 (hs : pm_ar S an 0 xi = true) : pm_V d 130 44 [l0, l1, l2, l3] (.int xi :: .ref an :: st) S Q = pm_V d 130 45 [l0, l1, l2, l3] (.int (pm_zi S an xi.toNatClampNeg) :: st) S Q := pv_iald (pm_cdi rfl dX7_end_44) hs
theorem q130_45 : pm_V d 130 45 [l0, l1, l2, l3] st S Q = pm_V d 130 46 [l0, l1, l2, l3] (.int 1 :: st) S Q := pv_iconst (pm_cdi rfl dX7_end_45) (by decide +kernel)
theorem q130_46 : pm_V d 130 46 [l0, l1, l2, l3] (.int yi :: .int xi :: st) S Q = pm_V d 130 47 [l0, l1, l2, l3] (.int (xi - yi) :: st) S Q := pv_isub (pm_cdi rfl dX7_end_46)
theorem q130_47 : pm_V (d + 1) 130 47 [l0, l1, l2, l3] [.int v2i, .int v1i, .int v0i] S Q = pm_N d 87 [.int v0i, .int v1i, .int v2i] S (fun r S' => pm_V (d + 1) 130 50 [l0, l1, l2, l3] (r.toList ++ []) S' Q) := pv_callS (as := [.int v0i, .int v1i, .int v2i]) (pm_cdi rfl dX7_end_47) (by decide +kernel) (by decide +kernel) (show _ = _ from (by decide +kernel : 3 = pm_np 87)) rfl (Nat.le_of_ble_eq_true rfl)
theorem q130_50 : pm_V d 130 50 [l0, l1, l2, l3] (.int xi :: st) S Q = if xi = 0 then pm_V d 130 53 [l0, l1, l2, l3] st S Q else pm_V d 130 58 [l0, l1, l2, l3] st S Q := pv_if_ne (pm_cdi rfl dX7_end_50) rfl
theorem q130_53 : pm_V d 130 53 [l0, l1, l2, l3] st S Q = pm_V d 130 55 [l0, l1, l2, l3] (.int (-1000001) :: st) S Q := pv_ldc (pm_cdi rfl dX7_end_53) (by decide +kernel)
theorem q130_55 : pm_V d 130 55 [l0, l1, l2, l3] st S Q = pm_V d 130 77 [l0, l1, l2, l3] st S Q := pv_goto (pm_cdi rfl dX7_end_55) rfl
theorem q130_58 : pm_V d 130 58 [l0, l1, l2, .int xi] st S Q = pm_V d 130 59 [l0, l1, l2, .int xi] (.int xi :: st) S Q := pv_iload_n (pm_cdi rfl dX7_end_58) rfl
theorem q130_59 : pm_V d 130 59 [l0, l1, l2, l3] (.int xi :: st) S Q = if xi = 0 then pm_V d 130 62 [l0, l1, l2, l3] st S Q else pm_V d 130 71 [l0, l1, l2, l3] st S Q := pv_if_ne (pm_cdi rfl dX7_end_59) rfl
theorem q130_62 : pm_V d 130 62 [.ref xn, l1, l2, l3] st S Q = pm_V d 130 63 [.ref xn, l1, l2, l3] (.ref xn :: st) S Q := pv_aload_n (pm_cdi rfl dX7_end_62) rfl
theorem q130_63 : pm_V d 130 63 [l0, .int xi, l2, l3] st S Q = pm_V d 130 64 [l0, .int xi, l2, l3] (.int xi :: st) S Q := pv_iload_n (pm_cdi rfl dX7_end_63) rfl
theorem q130_64 : pm_V d 130 64 [l0, l1, .int xi, l3] st S Q = pm_V d 130 65 [l0, l1, .int xi, l3] (.int xi :: st) S Q := pv_iload_n (pm_cdi rfl dX7_end_64) rfl
theorem q130_65 (hs : pm_sh S an = .inr 7) : pm_V (d + 1) 130 65 [l0, l1, l2, l3] [.int v1i, .int v0i, .ref an] S Q = pm_N d 104 [.ref an, .int v0i, .int v1i] S (fun r S' => pm_V (d + 1) 130 68 [l0, l1, l2, l3] (r.toList ++ []) S' Q) := pv_callV (as := [.int v0i, .int v1i]) (pm_cdi rfl dX7_end_65) (Or.inl (by decide +kernel)) (by decide +kernel) (show _ = _ from (by decide +kernel : 2 = pm_np 104)) rfl (Nat.le_of_ble_eq_true rfl) (cl := 7) (by decide +kernel) hs
theorem q130_68 : pm_V d 130 68 [l0, l1, l2, l3] st S Q = pm_V d 130 77 [l0, l1, l2, l3] st S Q := pv_goto (pm_cdi rfl dX7_end_68) rfl
theorem q130_71 : pm_V d 130 71 [.ref xn, l1, l2, l3] st S Q = pm_V d 130 72 [.ref xn, l1, l2, l3] (.ref xn :: st) S Q := pv_aload_n (pm_cdi rfl dX7_end_71) rfl
theorem q130_72 : pm_V d 130 72 [l0, .int xi, l2, l3] st S Q = pm_V d 130 73 [l0, .int xi, l2, l3] (.int xi :: st) S Q := pv_iload_n (pm_cdi rfl dX7_end_72) rfl
theorem q130_73 : pm_V d 130 73 [l0, l1, .int xi, l3] st S Q = pm_V d 130 74 [l0, l1, .int xi, l3] (.int xi :: st) S Q := pv_iload_n (pm_cdi rfl dX7_end_73) rfl
theorem q130_74 (hs : pm_sh S an = .inr 7) : pm_V (d + 1) 130 74 [l0, l1, l2, l3] [.int v1i, .int v0i, .ref an] S Q = pm_N d 105 [.ref an, .int v0i, .int v1i] S (fun r S' => pm_V (d + 1) 130 77 [l0, l1, l2, l3] (r.toList ++ []) S' Q) := pv_callV (as := [.int v0i, .int v1i]) (pm_cdi rfl dX7_end_74) (Or.inl (by decide +kernel)) (by decide +kernel) (show _ = _ from (by decide +kernel : 2 = pm_np 105)) rfl (Nat.le_of_ble_eq_true rfl) (cl := 7) (by decide +kernel) hs
theorem q130_77 : pm_V d 130 77 [l0, l1, l2, l3] [.int xi] S Q = Q (some (.int xi)) S := pv_rI (pm_cdi rfl dX7_end_77) (by decide +kernel)
theorem q130_e : pm_N d 130 [.ref an, .int v0i, .int v1i, .int v2i] S Q = pm_V d 130 0 [.ref an, .int v0i, .int v1i, .int v2i] [] S Q := pv_ent (Nat.le_of_ble_eq_true rfl) rfl
/-! 131: ViewsJoinsModel.itemsOf(II)I -/
theorem dX7_itemsOf_0 : decode cX7_itemsOf 0 = .ok (.iload_n 2, 1) := by decide +kernel
theorem dX7_itemsOf_1 : decode cX7_itemsOf 1 = .ok (.ifCond .ne 12, 3) := by decide +kernel
theorem dX7_itemsOf_4 : decode cX7_itemsOf 4 = .ok (.aload_n 0, 1) := by decide +kernel
theorem dX7_itemsOf_5 : decode cX7_itemsOf 5 = .ok (.getfield 32, 3) := by decide +kernel
theorem dX7_itemsOf_8 : decode cX7_itemsOf 8 = .ok (.iload_n 1, 1) := by decide +kernel
theorem dX7_itemsOf_9 : decode cX7_itemsOf 9 = .ok (.iaload, 1) := by decide +kernel
theorem dX7_itemsOf_10 : decode cX7_itemsOf 10 = .ok (.goto 9, 3) := by decide +kernel
theorem dX7_itemsOf_13 : decode cX7_itemsOf 13 = .ok (.aload_n 0, 1) := by decide +kernel
theorem dX7_itemsOf_14 : decode cX7_itemsOf 14 = .ok (.getfield 35, 3) := by decide +kernel
theorem dX7_itemsOf_17 : decode cX7_itemsOf 17 = .ok (.iload_n 1, 1) := by decide +kernel
theorem dX7_itemsOf_18 : decode cX7_itemsOf 18 = .ok (.iaload, 1) := by decide +kernel
theorem dX7_itemsOf_19 : decode cX7_itemsOf 19 = .ok (.ireturn, 1) := by decide +kernel
theorem q131_0 : pm_V d 131 0 [l0, l1, .int xi] st S Q = pm_V d 131 1 [l0, l1, .int xi] (.int xi :: st) S Q := pv_iload_n (pm_cdi rfl dX7_itemsOf_0) rfl
theorem q131_1 : pm_V d 131 1 [l0, l1, l2] (.int xi :: st) S Q = if xi = 0 then pm_V d 131 4 [l0, l1, l2] st S Q else pm_V d 131 13 [l0, l1, l2] st S Q := pv_if_ne (pm_cdi rfl dX7_itemsOf_1) rfl
theorem q131_4 : pm_V d 131 4 [.ref xn, l1, l2] st S Q = pm_V d 131 5 [.ref xn, l1, l2] (.ref xn :: st) S Q := pv_aload_n (pm_cdi rfl dX7_itemsOf_4) rfl
theorem q131_5 (hs : pm_sh S an = .inr 7) : pm_V d 131 5 [l0, l1, l2] (.ref an :: st) S Q = pm_V d 131 8 [l0, l1, l2] (va_rf (pm_gr S an 8) :: st) S Q := pv_getA (pm_cdi rfl dX7_itemsOf_5) (by decide +kernel) (by decide +kernel) (by decide +kernel) hs
theorem q131_8 : pm_V d 131 8 [l0, .int xi, l2] st S Q = pm_V d 131 9 [l0, .int xi, l2] (.int xi :: st) S Q := pv_iload_n (pm_cdi rfl dX7_itemsOf_8) rfl
theorem q131_9 (hs : pm_ar S an 0 xi = true) : pm_V d 131 9 [l0, l1, l2] (.int xi :: .ref an :: st) S Q = pm_V d 131 10 [l0, l1, l2] (.int (pm_zi S an xi.toNatClampNeg) :: st) S Q := pv_iald (pm_cdi rfl dX7_itemsOf_9) hs
theorem q131_10 : pm_V d 131 10 [l0, l1, l2] st S Q = pm_V d 131 19 [l0, l1, l2] st S Q := pv_goto (pm_cdi rfl dX7_itemsOf_10) rfl
theorem q131_13 : pm_V d 131 13 [.ref xn, l1, l2] st S Q = pm_V d 131 14 [.ref xn, l1, l2] (.ref xn :: st) S Q := pv_aload_n (pm_cdi rfl dX7_itemsOf_13) rfl
theorem q131_14 (hs : pm_sh S an = .inr 7) : pm_V d 131 14 [l0, l1, l2] (.ref an :: st) S Q = pm_V d 131 17 [l0, l1, l2] (va_rf (pm_gr S an 9) :: st) S Q := pv_getA (pm_cdi rfl dX7_itemsOf_14) (by decide +kernel) (by decide +kernel) (by decide +kernel) hs
theorem q131_17 : pm_V d 131 17 [l0, .int xi, l2] st S Q = pm_V d 131 18 [l0, .int xi, l2] (.int xi :: st) S Q := pv_iload_n (pm_cdi rfl dX7_itemsOf_17) rfl
theorem q131_18 (hs : pm_ar S an 0 xi = true) : pm_V d 131 18 [l0, l1, l2] (.int xi :: .ref an :: st) S Q = pm_V d 131 19 [l0, l1, l2] (.int (pm_zi S an xi.toNatClampNeg) :: st) S Q := pv_iald (pm_cdi rfl dX7_itemsOf_18) hs
theorem q131_19 : pm_V d 131 19 [l0, l1, l2] [.int xi] S Q = Q (some (.int xi)) S := pv_rI (pm_cdi rfl dX7_itemsOf_19) (by decide +kernel)
theorem q131_e : pm_N d 131 [.ref an, .int v0i, .int v1i] S Q = pm_V d 131 0 [.ref an, .int v0i, .int v1i] [] S Q := pv_ent (Nat.le_of_ble_eq_true rfl) rfl
/-! 132: ViewsJoinsModel.value(III)J -/
theorem dX7_value_0 : decode cX7_value 0 = .ok (.aload_n 0, 1) := by decide +kernel
theorem dX7_value_1 : decode cX7_value 1 = .ok (.iload_n 1, 1) := by decide +kernel
theorem dX7_value_2 : decode cX7_value 2 = .ok (.invokevirtual 123, 3) := by decide +kernel
theorem dX7_value_5 : decode cX7_value 5 = .ok (.ifCond .eq 12, 3) := by decide +kernel
theorem dX7_value_8 : decode cX7_value 8 = .ok (.iload_n 2, 1) := by decide +kernel
theorem dX7_value_9 : decode cX7_value 9 = .ok (.iconst 0, 1) := by decide +kernel
theorem dX7_value_10 : decode cX7_value 10 = .ok (.iconst 1, 1) := by decide +kernel
theorem dX7_value_11 : decode cX7_value 11 = .ok (.invokestatic 119, 3) := by decide +kernel
theorem dX7_value_14 : decode cX7_value 14 = .ok (.ifCond .ne 7, 3) := by decide +kernel
theorem dX7_value_17 : decode cX7_value 17 = .ok (.ldc2_w 268, 3) := by decide +kernel
theorem dX7_value_20 : decode cX7_value 20 = .ok (.lreturn, 1) := by decide +kernel
theorem dX7_value_21 : decode cX7_value 21 = .ok (.aload_n 0, 1) := by decide +kernel
theorem dX7_value_22 : decode cX7_value 22 = .ok (.invokevirtual 264, 3) := by decide +kernel
theorem dX7_value_25 : decode cX7_value 25 = .ok (.aload_n 0, 1) := by decide +kernel
theorem dX7_value_26 : decode cX7_value 26 = .ok (.getfield 29, 3) := by decide +kernel
theorem dX7_value_29 : decode cX7_value 29 = .ok (.iload_n 1, 1) := by decide +kernel
theorem dX7_value_30 : decode cX7_value 30 = .ok (.iaload, 1) := by decide +kernel
theorem dX7_value_31 : decode cX7_value 31 = .ok (.ifCond .eq 7, 3) := by decide +kernel
theorem dX7_value_34 : decode cX7_value 34 = .ok (.ldc2_w 270, 3) := by decide +kernel
theorem dX7_value_37 : decode cX7_value 37 = .ok (.lreturn, 1) := by decide +kernel
theorem dX7_value_38 : decode cX7_value 38 = .ok (.iload_n 3, 1) := by decide +kernel
theorem dX7_value_39 : decode cX7_value 39 = .ok (.iconst 0, 1) := by decide +kernel
theorem dX7_value_40 : decode cX7_value 40 = .ok (.aload_n 0, 1) := by decide +kernel
theorem dX7_value_41 : decode cX7_value 41 = .ok (.iload_n 1, 1) := by decide +kernel
theorem dX7_value_42 : decode cX7_value 42 = .ok (.iload_n 2, 1) := by decide +kernel
theorem dX7_value_43 : decode cX7_value 43 = .ok (.invokevirtual 272, 3) := by decide +kernel
theorem dX7_value_46 : decode cX7_value 46 = .ok (.iconst 1, 1) := by decide +kernel
theorem dX7_value_47 : decode cX7_value 47 = .ok (.isub, 1) := by decide +kernel
theorem dX7_value_48 : decode cX7_value 48 = .ok (.invokestatic 119, 3) := by decide +kernel
theorem dX7_value_51 : decode cX7_value 51 = .ok (.ifCond .ne 9, 3) := by decide +kernel
theorem dX7_value_54 : decode cX7_value 54 = .ok (.ldc2_w 268, 3) := by decide +kernel
theorem dX7_value_57 : decode cX7_value 57 = .ok (.goto 22, 3) := by decide +kernel
theorem dX7_value_60 : decode cX7_value 60 = .ok (.iload_n 2, 1) := by decide +kernel
theorem dX7_value_61 : decode cX7_value 61 = .ok (.ifCond .ne 12, 3) := by decide +kernel
theorem dX7_value_64 : decode cX7_value 64 = .ok (.aload_n 0, 1) := by decide +kernel
theorem dX7_value_65 : decode cX7_value 65 = .ok (.iload_n 1, 1) := by decide +kernel
theorem dX7_value_66 : decode cX7_value 66 = .ok (.iload_n 3, 1) := by decide +kernel
theorem dX7_value_67 : decode cX7_value 67 = .ok (.invokevirtual 201, 3) := by decide +kernel
theorem dX7_value_70 : decode cX7_value 70 = .ok (.goto 9, 3) := by decide +kernel
theorem dX7_value_73 : decode cX7_value 73 = .ok (.aload_n 0, 1) := by decide +kernel
theorem dX7_value_74 : decode cX7_value 74 = .ok (.iload_n 1, 1) := by decide +kernel
theorem dX7_value_75 : decode cX7_value 75 = .ok (.iload_n 3, 1) := by decide +kernel
theorem dX7_value_76 : decode cX7_value 76 = .ok (.invokevirtual 209, 3) := by decide +kernel
theorem dX7_value_79 : decode cX7_value 79 = .ok (.lreturn, 1) := by decide +kernel
theorem q132_0 : pm_V d 132 0 [.ref xn, l1, l2, l3] st S Q = pm_V d 132 1 [.ref xn, l1, l2, l3] (.ref xn :: st) S Q := pv_aload_n (pm_cdi rfl dX7_value_0) rfl
theorem q132_1 : pm_V d 132 1 [l0, .int xi, l2, l3] st S Q = pm_V d 132 2 [l0, .int xi, l2, l3] (.int xi :: st) S Q := pv_iload_n (pm_cdi rfl dX7_value_1) rfl
theorem q132_2 (hs : pm_sh S an = .inr 7) : pm_V (d + 1) 132 2 [l0, l1, l2, l3] [.int v0i, .ref an] S Q = pm_N d 88 [.ref an, .int v0i] S (fun r S' => pm_V (d + 1) 132 5 [l0, l1, l2, l3] (r.toList ++ []) S' Q) := pv_callV (as := [.int v0i]) (pm_cdi rfl dX7_value_2) (Or.inl (by decide +kernel)) (by decide +kernel) (show _ = _ from (by decide +kernel : 1 = pm_np 88)) rfl (Nat.le_of_ble_eq_true rfl) (cl := 7) (by decide +kernel) hs
theorem q132_5 : pm_V d 132 5 [l0, l1, l2, l3] (.int xi :: st) S Q = if xi = 0 then pm_V d 132 17 [l0, l1, l2, l3] st S Q else pm_V d 132 8 [l0, l1, l2, l3] st S Q := pv_if_eq (pm_cdi rfl dX7_value_5) rfl
theorem q132_8 : pm_V d 132 8 [l0, l1, .int xi, l3] st S Q = pm_V d 132 9 [l0, l1, .int xi, l3] (.int xi :: st) S Q := pv_iload_n (pm_cdi rfl dX7_value_8) rfl
theorem q132_9 : pm_V d 132 9 [l0, l1, l2, l3] st S Q = pm_V d 132 10 [l0, l1, l2, l3] (.int 0 :: st) S Q := pv_iconst (pm_cdi rfl dX7_value_9) (by decide +kernel)
theorem q132_10 : pm_V d 132 10 [l0, l1, l2, l3] st S Q = pm_V d 132 11 [l0, l1, l2, l3] (.int 1 :: st) S Q := pv_iconst (pm_cdi rfl dX7_value_10) (by decide +kernel)
theorem q132_11 : pm_V (d + 1) 132 11 [l0, l1, l2, l3] [.int v2i, .int v1i, .int v0i] S Q = pm_N d 87 [.int v0i, .int v1i, .int v2i] S (fun r S' => pm_V (d + 1) 132 14 [l0, l1, l2, l3] (r.toList ++ []) S' Q) := pv_callS (as := [.int v0i, .int v1i, .int v2i]) (pm_cdi rfl dX7_value_11) (by decide +kernel) (by decide +kernel) (show _ = _ from (by decide +kernel : 3 = pm_np 87)) rfl (Nat.le_of_ble_eq_true rfl)
theorem q132_14 : pm_V d 132 14 [l0, l1, l2, l3] (.int xi :: st) S Q = if xi = 0 then pm_V d 132 17 [l0, l1, l2, l3] st S Q else pm_V d 132 21 [l0, l1, l2, l3] st S Q := pv_if_ne (pm_cdi rfl dX7_value_14) rfl
theorem q132_17 : pm_V d 132 17 [l0, l1, l2, l3] st S Q = pm_V d 132 20 [l0, l1, l2, l3] (.long (-1000001) :: st) S Q := pv_ldc2 (pm_cdi rfl dX7_value_17) (by decide +kernel)
theorem q132_20 : pm_V d 132 20 [l0, l1, l2, l3] [.long xj] S Q = Q (some (.long xj)) S := pv_rL (pm_cdi rfl dX7_value_20) (by decide +kernel)
theorem q132_21 : pm_V d 132 21 [.ref xn, l1, l2, l3] st S Q = pm_V d 132 22 [.ref xn, l1, l2, l3] (.ref xn :: st) S Q := pv_aload_n (pm_cdi rfl dX7_value_21) rfl
theorem q132_22 (hs : pm_sh S an = .inr 7) : pm_V (d + 1) 132 22 [l0, l1, l2, l3] [.ref an] S Q = pm_N d 99 [.ref an] S (fun r S' => pm_V (d + 1) 132 25 [l0, l1, l2, l3] (r.toList ++ []) S' Q) := pv_callV (as := []) (pm_cdi rfl dX7_value_22) (Or.inl (by decide +kernel)) (by decide +kernel) (show _ = _ from (by decide +kernel : 0 = pm_np 99)) rfl (Nat.le_of_ble_eq_true rfl) (cl := 7) (by decide +kernel) hs
theorem q132_25 : pm_V d 132 25 [.ref xn, l1, l2, l3] st S Q = pm_V d 132 26 [.ref xn, l1, l2, l3] (.ref xn :: st) S Q := pv_aload_n (pm_cdi rfl dX7_value_25) rfl
theorem q132_26 (hs : pm_sh S an = .inr 7) : pm_V d 132 26 [l0, l1, l2, l3] (.ref an :: st) S Q = pm_V d 132 29 [l0, l1, l2, l3] (va_rf (pm_gr S an 7) :: st) S Q := pv_getA (pm_cdi rfl dX7_value_26) (by decide +kernel) (by decide +kernel) (by decide +kernel) hs
theorem q132_29 : pm_V d 132 29 [l0, .int xi, l2, l3] st S Q = pm_V d 132 30 [l0, .int xi, l2, l3] (.int xi :: st) S Q := pv_iload_n (pm_cdi rfl dX7_value_29) rfl
theorem q132_30 (hs : pm_ar S an 0 xi = true) : pm_V d 132 30 [l0, l1, l2, l3] (.int xi :: .ref an :: st) S Q = pm_V d 132 31 [l0, l1, l2, l3] (.int (pm_zi S an xi.toNatClampNeg) :: st) S Q := pv_iald (pm_cdi rfl dX7_value_30) hs
theorem q132_31 : pm_V d 132 31 [l0, l1, l2, l3] (.int xi :: st) S Q = if xi = 0 then pm_V d 132 38 [l0, l1, l2, l3] st S Q else pm_V d 132 34 [l0, l1, l2, l3] st S Q := pv_if_eq (pm_cdi rfl dX7_value_31) rfl
theorem q132_34 : pm_V d 132 34 [l0, l1, l2, l3] st S Q = pm_V d 132 37 [l0, l1, l2, l3] (.long (-1000003) :: st) S Q := pv_ldc2 (pm_cdi rfl dX7_value_34) (by decide +kernel)
theorem q132_37 : pm_V d 132 37 [l0, l1, l2, l3] [.long xj] S Q = Q (some (.long xj)) S := pv_rL (pm_cdi rfl dX7_value_37) (by decide +kernel)
theorem q132_38 : pm_V d 132 38 [l0, l1, l2, .int xi] st S Q = pm_V d 132 39 [l0, l1, l2, .int xi] (.int xi :: st) S Q := pv_iload_n (pm_cdi rfl dX7_value_38) rfl
theorem q132_39 : pm_V d 132 39 [l0, l1, l2, l3] st S Q = pm_V d 132 40 [l0, l1, l2, l3] (.int 0 :: st) S Q := pv_iconst (pm_cdi rfl dX7_value_39) (by decide +kernel)
theorem q132_40 : pm_V d 132 40 [.ref xn, l1, l2, l3] st S Q = pm_V d 132 41 [.ref xn, l1, l2, l3] (.ref xn :: st) S Q := pv_aload_n (pm_cdi rfl dX7_value_40) rfl
theorem q132_41 : pm_V d 132 41 [l0, .int xi, l2, l3] st S Q = pm_V d 132 42 [l0, .int xi, l2, l3] (.int xi :: st) S Q := pv_iload_n (pm_cdi rfl dX7_value_41) rfl
theorem q132_42 : pm_V d 132 42 [l0, l1, .int xi, l3] st S Q = pm_V d 132 43 [l0, l1, .int xi, l3] (.int xi :: st) S Q := pv_iload_n (pm_cdi rfl dX7_value_42) rfl
theorem q132_43 (hs : pm_sh S an = .inr 7) : pm_V (d + 1) 132 43 [l0, l1, l2, l3] [.int v1i, .int v0i, .ref an, .int r0i, .int r1i] S Q = pm_N d 131 [.ref an, .int v0i, .int v1i] S (fun r S' => pm_V (d + 1) 132 46 [l0, l1, l2, l3] (r.toList ++ [.int r0i, .int r1i]) S' Q) := pv_callV (as := [.int v0i, .int v1i]) (pm_cdi rfl dX7_value_43) (Or.inl (by decide +kernel)) (by decide +kernel) (show _ = _ from (by decide +kernel : 2 = pm_np 131)) rfl (Nat.le_of_ble_eq_true rfl) (cl := 7) (by decide +kernel) hs
theorem q132_46 : pm_V d 132 46 [l0, l1, l2, l3] st S Q = pm_V d 132 47 [l0, l1, l2, l3] (.int 1 :: st) S Q := pv_iconst (pm_cdi rfl dX7_value_46) (by decide +kernel)
theorem q132_47 : pm_V d 132 47 [l0, l1, l2, l3] (.int yi :: .int xi :: st) S Q = pm_V d 132 48 [l0, l1, l2, l3] (.int (xi - yi) :: st) S Q := pv_isub (pm_cdi rfl dX7_value_47)
theorem q132_48 : pm_V (d + 1) 132 48 [l0, l1, l2, l3] [.int v2i, .int v1i, .int v0i] S Q = pm_N d 87 [.int v0i, .int v1i, .int v2i] S (fun r S' => pm_V (d + 1) 132 51 [l0, l1, l2, l3] (r.toList ++ []) S' Q) := pv_callS (as := [.int v0i, .int v1i, .int v2i]) (pm_cdi rfl dX7_value_48) (by decide +kernel) (by decide +kernel) (show _ = _ from (by decide +kernel : 3 = pm_np 87)) rfl (Nat.le_of_ble_eq_true rfl)
theorem q132_51 : pm_V d 132 51 [l0, l1, l2, l3] (.int xi :: st) S Q = if xi = 0 then pm_V d 132 54 [l0, l1, l2, l3] st S Q else pm_V d 132 60 [l0, l1, l2, l3] st S Q := pv_if_ne (pm_cdi rfl dX7_value_51) rfl
theorem q132_54 : pm_V d 132 54 [l0, l1, l2, l3] st S Q = pm_V d 132 57 [l0, l1, l2, l3] (.long (-1000001) :: st) S Q := pv_ldc2 (pm_cdi rfl dX7_value_54) (by decide +kernel)
theorem q132_57 : pm_V d 132 57 [l0, l1, l2, l3] st S Q = pm_V d 132 79 [l0, l1, l2, l3] st S Q := pv_goto (pm_cdi rfl dX7_value_57) rfl
theorem q132_60 : pm_V d 132 60 [l0, l1, .int xi, l3] st S Q = pm_V d 132 61 [l0, l1, .int xi, l3] (.int xi :: st) S Q := pv_iload_n (pm_cdi rfl dX7_value_60) rfl
theorem q132_61 : pm_V d 132 61 [l0, l1, l2, l3] (.int xi :: st) S Q = if xi = 0 then pm_V d 132 64 [l0, l1, l2, l3] st S Q else pm_V d 132 73 [l0, l1, l2, l3] st S Q := pv_if_ne (pm_cdi rfl dX7_value_61) rfl
theorem q132_64 : pm_V d 132 64 [.ref xn, l1, l2, l3] st S Q = pm_V d 132 65 [.ref xn, l1, l2, l3] (.ref xn :: st) S Q := pv_aload_n (pm_cdi rfl dX7_value_64) rfl
theorem q132_65 : pm_V d 132 65 [l0, .int xi, l2, l3] st S Q = pm_V d 132 66 [l0, .int xi, l2, l3] (.int xi :: st) S Q := pv_iload_n (pm_cdi rfl dX7_value_65) rfl
theorem q132_66 : pm_V d 132 66 [l0, l1, l2, .int xi] st S Q = pm_V d 132 67 [l0, l1, l2, .int xi] (.int xi :: st) S Q := pv_iload_n (pm_cdi rfl dX7_value_66) rfl
theorem q132_67 (hs : pm_sh S an = .inr 7) : pm_V (d + 1) 132 67 [l0, l1, l2, l3] [.int v1i, .int v0i, .ref an] S Q = pm_N d 106 [.ref an, .int v0i, .int v1i] S (fun r S' => pm_V (d + 1) 132 70 [l0, l1, l2, l3] (r.toList ++ []) S' Q) := pv_callV (as := [.int v0i, .int v1i]) (pm_cdi rfl dX7_value_67) (Or.inl (by decide +kernel)) (by decide +kernel) (show _ = _ from (by decide +kernel : 2 = pm_np 106)) rfl (Nat.le_of_ble_eq_true rfl) (cl := 7) (by decide +kernel) hs
theorem q132_70 : pm_V d 132 70 [l0, l1, l2, l3] st S Q = pm_V d 132 79 [l0, l1, l2, l3] st S Q := pv_goto (pm_cdi rfl dX7_value_70) rfl
theorem q132_73 : pm_V d 132 73 [.ref xn, l1, l2, l3] st S Q = pm_V d 132 74 [.ref xn, l1, l2, l3] (.ref xn :: st) S Q := pv_aload_n (pm_cdi rfl dX7_value_73) rfl
theorem q132_74 : pm_V d 132 74 [l0, .int xi, l2, l3] st S Q = pm_V d 132 75 [l0, .int xi, l2, l3] (.int xi :: st) S Q := pv_iload_n (pm_cdi rfl dX7_value_74) rfl
theorem q132_75 : pm_V d 132 75 [l0, l1, l2, .int xi] st S Q = pm_V d 132 76 [l0, l1, l2, .int xi] (.int xi :: st) S Q := pv_iload_n (pm_cdi rfl dX7_value_75) rfl
theorem q132_76 (hs : pm_sh S an = .inr 7) : pm_V (d + 1) 132 76 [l0, l1, l2, l3] [.int v1i, .int v0i, .ref an] S Q = pm_N d 107 [.ref an, .int v0i, .int v1i] S (fun r S' => pm_V (d + 1) 132 79 [l0, l1, l2, l3] (r.toList ++ []) S' Q) := pv_callV (as := [.int v0i, .int v1i]) (pm_cdi rfl dX7_value_76) (Or.inl (by decide +kernel)) (by decide +kernel) (show _ = _ from (by decide +kernel : 2 = pm_np 107)) rfl (Nat.le_of_ble_eq_true rfl) (cl := 7) (by decide +kernel) hs
theorem q132_79 : pm_V d 132 79 [l0, l1, l2, l3] [.long xj] S Q = Q (some (.long xj)) S := pv_rL (pm_cdi rfl dX7_value_79) (by decide +kernel)
theorem q132_e : pm_N d 132 [.ref an, .int v0i, .int v1i, .int v2i] S Q = pm_V d 132 0 [.ref an, .int v0i, .int v1i, .int v2i] [] S Q := pv_ent (Nat.le_of_ble_eq_true rfl) rfl
/-! 133: ViewsJoinsModel.upOf(IIII)I -/
theorem dX7_upOf_0 : decode cX7_upOf 0 = .ok (.iload_n 2, 1) := by decide +kernel
theorem dX7_upOf_1 : decode cX7_upOf 1 = .ok (.ifCond .ne 34, 3) := by decide +kernel
theorem dX7_upOf_4 : decode cX7_upOf 4 = .ok (.iload 4, 2) := by decide +kernel
theorem dX7_upOf_6 : decode cX7_upOf 6 = .ok (.ifCond .ne 17, 3) := by decide +kernel
theorem dX7_upOf_9 : decode cX7_upOf 9 = .ok (.aload_n 0, 1) := by decide +kernel
theorem dX7_upOf_10 : decode cX7_upOf 10 = .ok (.getfield 42, 3) := by decide +kernel
theorem dX7_upOf_13 : decode cX7_upOf 13 = .ok (.bipush 40, 2) := by decide +kernel
theorem dX7_upOf_15 : decode cX7_upOf 15 = .ok (.iload_n 1, 1) := by decide +kernel
theorem dX7_upOf_16 : decode cX7_upOf 16 = .ok (.imul, 1) := by decide +kernel
theorem dX7_upOf_17 : decode cX7_upOf 17 = .ok (.iload_n 3, 1) := by decide +kernel
theorem dX7_upOf_18 : decode cX7_upOf 18 = .ok (.iadd, 1) := by decide +kernel
theorem dX7_upOf_19 : decode cX7_upOf 19 = .ok (.iaload, 1) := by decide +kernel
theorem dX7_upOf_20 : decode cX7_upOf 20 = .ok (.goto 14, 3) := by decide +kernel
theorem dX7_upOf_23 : decode cX7_upOf 23 = .ok (.aload_n 0, 1) := by decide +kernel
theorem dX7_upOf_24 : decode cX7_upOf 24 = .ok (.getfield 45, 3) := by decide +kernel
theorem dX7_upOf_27 : decode cX7_upOf 27 = .ok (.bipush 40, 2) := by decide +kernel
theorem dX7_upOf_29 : decode cX7_upOf 29 = .ok (.iload_n 1, 1) := by decide +kernel
theorem dX7_upOf_30 : decode cX7_upOf 30 = .ok (.imul, 1) := by decide +kernel
theorem dX7_upOf_31 : decode cX7_upOf 31 = .ok (.iload_n 3, 1) := by decide +kernel
theorem dX7_upOf_32 : decode cX7_upOf 32 = .ok (.iadd, 1) := by decide +kernel
theorem dX7_upOf_33 : decode cX7_upOf 33 = .ok (.iaload, 1) := by decide +kernel
theorem dX7_upOf_34 : decode cX7_upOf 34 = .ok (.ireturn, 1) := by decide +kernel
theorem dX7_upOf_35 : decode cX7_upOf 35 = .ok (.iload 4, 2) := by decide +kernel
theorem dX7_upOf_37 : decode cX7_upOf 37 = .ok (.ifCond .ne 17, 3) := by decide +kernel
theorem dX7_upOf_40 : decode cX7_upOf 40 = .ok (.aload_n 0, 1) := by decide +kernel
theorem dX7_upOf_41 : decode cX7_upOf 41 = .ok (.getfield 57, 3) := by decide +kernel
theorem dX7_upOf_44 : decode cX7_upOf 44 = .ok (.bipush 120, 2) := by decide +kernel
theorem dX7_upOf_46 : decode cX7_upOf 46 = .ok (.iload_n 1, 1) := by decide +kernel
theorem dX7_upOf_47 : decode cX7_upOf 47 = .ok (.imul, 1) := by decide +kernel
theorem dX7_upOf_48 : decode cX7_upOf 48 = .ok (.iload_n 3, 1) := by decide +kernel
theorem dX7_upOf_49 : decode cX7_upOf 49 = .ok (.iadd, 1) := by decide +kernel
theorem dX7_upOf_50 : decode cX7_upOf 50 = .ok (.iaload, 1) := by decide +kernel
theorem dX7_upOf_51 : decode cX7_upOf 51 = .ok (.goto 14, 3) := by decide +kernel
theorem dX7_upOf_54 : decode cX7_upOf 54 = .ok (.aload_n 0, 1) := by decide +kernel
theorem dX7_upOf_55 : decode cX7_upOf 55 = .ok (.getfield 60, 3) := by decide +kernel
theorem dX7_upOf_58 : decode cX7_upOf 58 = .ok (.bipush 120, 2) := by decide +kernel
theorem dX7_upOf_60 : decode cX7_upOf 60 = .ok (.iload_n 1, 1) := by decide +kernel
theorem dX7_upOf_61 : decode cX7_upOf 61 = .ok (.imul, 1) := by decide +kernel
theorem dX7_upOf_62 : decode cX7_upOf 62 = .ok (.iload_n 3, 1) := by decide +kernel
theorem dX7_upOf_63 : decode cX7_upOf 63 = .ok (.iadd, 1) := by decide +kernel
theorem dX7_upOf_64 : decode cX7_upOf 64 = .ok (.iaload, 1) := by decide +kernel
theorem dX7_upOf_65 : decode cX7_upOf 65 = .ok (.ireturn, 1) := by decide +kernel
theorem q133_0 : pm_V d 133 0 [l0, l1, .int xi, l3, l4] st S Q = pm_V d 133 1 [l0, l1, .int xi, l3, l4] (.int xi :: st) S Q := pv_iload_n (pm_cdi rfl dX7_upOf_0) rfl
theorem q133_1 : pm_V d 133 1 [l0, l1, l2, l3, l4] (.int xi :: st) S Q = if xi = 0 then pm_V d 133 4 [l0, l1, l2, l3, l4] st S Q else pm_V d 133 35 [l0, l1, l2, l3, l4] st S Q := pv_if_ne (pm_cdi rfl dX7_upOf_1) rfl
theorem q133_4 : pm_V d 133 4 [l0, l1, l2, l3, .int xi] st S Q = pm_V d 133 6 [l0, l1, l2, l3, .int xi] (.int xi :: st) S Q := pv_iload (pm_cdi rfl dX7_upOf_4) rfl
theorem q133_6 : pm_V d 133 6 [l0, l1, l2, l3, l4] (.int xi :: st) S Q = if xi = 0 then pm_V d 133 9 [l0, l1, l2, l3, l4] st S Q else pm_V d 133 23 [l0, l1, l2, l3, l4] st S Q := pv_if_ne (pm_cdi rfl dX7_upOf_6) rfl
theorem q133_9 : pm_V d 133 9 [.ref xn, l1, l2, l3, l4] st S Q = pm_V d 133 10 [.ref xn, l1, l2, l3, l4] (.ref xn :: st) S Q := pv_aload_n (pm_cdi rfl dX7_upOf_9) rfl
theorem q133_10 (hs : pm_sh S an = .inr 7) : pm_V d 133 10 [l0, l1, l2, l3, l4] (.ref an :: st) S Q = pm_V d 133 13 [l0, l1, l2, l3, l4] (va_rf (pm_gr S an 11) :: st) S Q := pv_getA (pm_cdi rfl dX7_upOf_10) (by decide +kernel) (by decide +kernel) (by decide +kernel) hs
theorem q133_13 : pm_V d 133 13 [l0, l1, l2, l3, l4] st S Q = pm_V d 133 15 [l0, l1, l2, l3, l4] (.int 40 :: st) S Q := pv_bipush (pm_cdi rfl dX7_upOf_13) (by decide +kernel)
theorem q133_15 : pm_V d 133 15 [l0, .int xi, l2, l3, l4] st S Q = pm_V d 133 16 [l0, .int xi, l2, l3, l4] (.int xi :: st) S Q := pv_iload_n (pm_cdi rfl dX7_upOf_15) rfl
theorem q133_16 : pm_V d 133 16 [l0, l1, l2, l3, l4] (.int yi :: .int xi :: st) S Q = pm_V d 133 17 [l0, l1, l2, l3, l4] (.int (xi * yi) :: st) S Q := pv_imul (pm_cdi rfl dX7_upOf_16)
theorem q133_17 : pm_V d 133 17 [l0, l1, l2, .int xi, l4] st S Q = pm_V d 133 18 [l0, l1, l2, .int xi, l4] (.int xi :: st) S Q := pv_iload_n (pm_cdi rfl dX7_upOf_17) rfl
theorem q133_18 : pm_V d 133 18 [l0, l1, l2, l3, l4] (.int yi :: .int xi :: st) S Q = pm_V d 133 19 [l0, l1, l2, l3, l4] (.int (xi + yi) :: st) S Q := pv_iadd (pm_cdi rfl dX7_upOf_18)
theorem q133_19 (hs : pm_ar S an 0 xi = true) : pm_V d 133 19 [l0, l1, l2, l3, l4] (.int xi :: .ref an :: st) S Q = pm_V d 133 20 [l0, l1, l2, l3, l4] (.int (pm_zi S an xi.toNatClampNeg) :: st) S Q := pv_iald (pm_cdi rfl dX7_upOf_19) hs
theorem q133_20 : pm_V d 133 20 [l0, l1, l2, l3, l4] st S Q = pm_V d 133 34 [l0, l1, l2, l3, l4] st S Q := pv_goto (pm_cdi rfl dX7_upOf_20) rfl
theorem q133_23 : pm_V d 133 23 [.ref xn, l1, l2, l3, l4] st S Q = pm_V d 133 24 [.ref xn, l1, l2, l3, l4] (.ref xn :: st) S Q := pv_aload_n (pm_cdi rfl dX7_upOf_23) rfl
theorem q133_24 (hs : pm_sh S an = .inr 7) : pm_V d 133 24 [l0, l1, l2, l3, l4] (.ref an :: st) S Q = pm_V d 133 27 [l0, l1, l2, l3, l4] (va_rf (pm_gr S an 12) :: st) S Q := pv_getA (pm_cdi rfl dX7_upOf_24) (by decide +kernel) (by decide +kernel) (by decide +kernel) hs
theorem q133_27 : pm_V d 133 27 [l0, l1, l2, l3, l4] st S Q = pm_V d 133 29 [l0, l1, l2, l3, l4] (.int 40 :: st) S Q := pv_bipush (pm_cdi rfl dX7_upOf_27) (by decide +kernel)
theorem q133_29 : pm_V d 133 29 [l0, .int xi, l2, l3, l4] st S Q = pm_V d 133 30 [l0, .int xi, l2, l3, l4] (.int xi :: st) S Q := pv_iload_n (pm_cdi rfl dX7_upOf_29) rfl
theorem q133_30 : pm_V d 133 30 [l0, l1, l2, l3, l4] (.int yi :: .int xi :: st) S Q = pm_V d 133 31 [l0, l1, l2, l3, l4] (.int (xi * yi) :: st) S Q := pv_imul (pm_cdi rfl dX7_upOf_30)
theorem q133_31 : pm_V d 133 31 [l0, l1, l2, .int xi, l4] st S Q = pm_V d 133 32 [l0, l1, l2, .int xi, l4] (.int xi :: st) S Q := pv_iload_n (pm_cdi rfl dX7_upOf_31) rfl
theorem q133_32 : pm_V d 133 32 [l0, l1, l2, l3, l4] (.int yi :: .int xi :: st) S Q = pm_V d 133 33 [l0, l1, l2, l3, l4] (.int (xi + yi) :: st) S Q := pv_iadd (pm_cdi rfl dX7_upOf_32)
theorem q133_33 (hs : pm_ar S an 0 xi = true) : pm_V d 133 33 [l0, l1, l2, l3, l4] (.int xi :: .ref an :: st) S Q = pm_V d 133 34 [l0, l1, l2, l3, l4] (.int (pm_zi S an xi.toNatClampNeg) :: st) S Q := pv_iald (pm_cdi rfl dX7_upOf_33) hs
theorem q133_34 : pm_V d 133 34 [l0, l1, l2, l3, l4] [.int xi] S Q = Q (some (.int xi)) S := pv_rI (pm_cdi rfl dX7_upOf_34) (by decide +kernel)
theorem q133_35 : pm_V d 133 35 [l0, l1, l2, l3, .int xi] st S Q = pm_V d 133 37 [l0, l1, l2, l3, .int xi] (.int xi :: st) S Q := pv_iload (pm_cdi rfl dX7_upOf_35) rfl
theorem q133_37 : pm_V d 133 37 [l0, l1, l2, l3, l4] (.int xi :: st) S Q = if xi = 0 then pm_V d 133 40 [l0, l1, l2, l3, l4] st S Q else pm_V d 133 54 [l0, l1, l2, l3, l4] st S Q := pv_if_ne (pm_cdi rfl dX7_upOf_37) rfl
theorem q133_40 : pm_V d 133 40 [.ref xn, l1, l2, l3, l4] st S Q = pm_V d 133 41 [.ref xn, l1, l2, l3, l4] (.ref xn :: st) S Q := pv_aload_n (pm_cdi rfl dX7_upOf_40) rfl
theorem q133_41 (hs : pm_sh S an = .inr 7) : pm_V d 133 41 [l0, l1, l2, l3, l4] (.ref an :: st) S Q = pm_V d 133 44 [l0, l1, l2, l3, l4] (va_rf (pm_gr S an 16) :: st) S Q := pv_getA (pm_cdi rfl dX7_upOf_41) (by decide +kernel) (by decide +kernel) (by decide +kernel) hs
theorem q133_44 : pm_V d 133 44 [l0, l1, l2, l3, l4] st S Q = pm_V d 133 46 [l0, l1, l2, l3, l4] (.int 120 :: st) S Q := pv_bipush (pm_cdi rfl dX7_upOf_44) (by decide +kernel)
theorem q133_46 : pm_V d 133 46 [l0, .int xi, l2, l3, l4] st S Q = pm_V d 133 47 [l0, .int xi, l2, l3, l4] (.int xi :: st) S Q := pv_iload_n (pm_cdi rfl dX7_upOf_46) rfl
theorem q133_47 : pm_V d 133 47 [l0, l1, l2, l3, l4] (.int yi :: .int xi :: st) S Q = pm_V d 133 48 [l0, l1, l2, l3, l4] (.int (xi * yi) :: st) S Q := pv_imul (pm_cdi rfl dX7_upOf_47)
theorem q133_48 : pm_V d 133 48 [l0, l1, l2, .int xi, l4] st S Q = pm_V d 133 49 [l0, l1, l2, .int xi, l4] (.int xi :: st) S Q := pv_iload_n (pm_cdi rfl dX7_upOf_48) rfl
theorem q133_49 : pm_V d 133 49 [l0, l1, l2, l3, l4] (.int yi :: .int xi :: st) S Q = pm_V d 133 50 [l0, l1, l2, l3, l4] (.int (xi + yi) :: st) S Q := pv_iadd (pm_cdi rfl dX7_upOf_49)
theorem q133_50 (hs : pm_ar S an 0 xi = true) : pm_V d 133 50 [l0, l1, l2, l3, l4] (.int xi :: .ref an :: st) S Q = pm_V d 133 51 [l0, l1, l2, l3, l4] (.int (pm_zi S an xi.toNatClampNeg) :: st) S Q := pv_iald (pm_cdi rfl dX7_upOf_50) hs
theorem q133_51 : pm_V d 133 51 [l0, l1, l2, l3, l4] st S Q = pm_V d 133 65 [l0, l1, l2, l3, l4] st S Q := pv_goto (pm_cdi rfl dX7_upOf_51) rfl
theorem q133_54 : pm_V d 133 54 [.ref xn, l1, l2, l3, l4] st S Q = pm_V d 133 55 [.ref xn, l1, l2, l3, l4] (.ref xn :: st) S Q := pv_aload_n (pm_cdi rfl dX7_upOf_54) rfl
theorem q133_55 (hs : pm_sh S an = .inr 7) : pm_V d 133 55 [l0, l1, l2, l3, l4] (.ref an :: st) S Q = pm_V d 133 58 [l0, l1, l2, l3, l4] (va_rf (pm_gr S an 17) :: st) S Q := pv_getA (pm_cdi rfl dX7_upOf_55) (by decide +kernel) (by decide +kernel) (by decide +kernel) hs
theorem q133_58 : pm_V d 133 58 [l0, l1, l2, l3, l4] st S Q = pm_V d 133 60 [l0, l1, l2, l3, l4] (.int 120 :: st) S Q := pv_bipush (pm_cdi rfl dX7_upOf_58) (by decide +kernel)
theorem q133_60 : pm_V d 133 60 [l0, .int xi, l2, l3, l4] st S Q = pm_V d 133 61 [l0, .int xi, l2, l3, l4] (.int xi :: st) S Q := pv_iload_n (pm_cdi rfl dX7_upOf_60) rfl
theorem q133_61 : pm_V d 133 61 [l0, l1, l2, l3, l4] (.int yi :: .int xi :: st) S Q = pm_V d 133 62 [l0, l1, l2, l3, l4] (.int (xi * yi) :: st) S Q := pv_imul (pm_cdi rfl dX7_upOf_61)
theorem q133_62 : pm_V d 133 62 [l0, l1, l2, .int xi, l4] st S Q = pm_V d 133 63 [l0, l1, l2, .int xi, l4] (.int xi :: st) S Q := pv_iload_n (pm_cdi rfl dX7_upOf_62) rfl
theorem q133_63 : pm_V d 133 63 [l0, l1, l2, l3, l4] (.int yi :: .int xi :: st) S Q = pm_V d 133 64 [l0, l1, l2, l3, l4] (.int (xi + yi) :: st) S Q := pv_iadd (pm_cdi rfl dX7_upOf_63)
theorem q133_64 (hs : pm_ar S an 0 xi = true) : pm_V d 133 64 [l0, l1, l2, l3, l4] (.int xi :: .ref an :: st) S Q = pm_V d 133 65 [l0, l1, l2, l3, l4] (.int (pm_zi S an xi.toNatClampNeg) :: st) S Q := pv_iald (pm_cdi rfl dX7_upOf_64) hs
theorem q133_65 : pm_V d 133 65 [l0, l1, l2, l3, l4] [.int xi] S Q = Q (some (.int xi)) S := pv_rI (pm_cdi rfl dX7_upOf_65) (by decide +kernel)
theorem q133_e : pm_N d 133 [.ref an, .int v0i, .int v1i, .int v2i, .int v3i] S Q = pm_V d 133 0 [.ref an, .int v0i, .int v1i, .int v2i, .int v3i] [] S Q := pv_ent (Nat.le_of_ble_eq_true rfl) rfl
/-! 134: ViewsJoinsModel.up(IIII)I -/
theorem dX7_up_0 : decode cX7_up 0 = .ok (.aload_n 0, 1) := by decide +kernel
theorem dX7_up_1 : decode cX7_up 1 = .ok (.iload_n 1, 1) := by decide +kernel
theorem dX7_up_2 : decode cX7_up 2 = .ok (.invokevirtual 261, 3) := by decide +kernel
theorem dX7_up_5 : decode cX7_up 5 = .ok (.ifCond .eq 22, 3) := by decide +kernel
theorem dX7_up_8 : decode cX7_up 8 = .ok (.iload_n 2, 1) := by decide +kernel
theorem dX7_up_9 : decode cX7_up 9 = .ok (.iconst 0, 1) := by decide +kernel
theorem dX7_up_10 : decode cX7_up 10 = .ok (.iconst 1, 1) := by decide +kernel
theorem dX7_up_11 : decode cX7_up 11 = .ok (.invokestatic 119, 3) := by decide +kernel
theorem dX7_up_14 : decode cX7_up 14 = .ok (.ifCond .eq 13, 3) := by decide +kernel
theorem dX7_up_17 : decode cX7_up 17 = .ok (.iload 4, 2) := by decide +kernel
theorem dX7_up_19 : decode cX7_up 19 = .ok (.iconst 0, 1) := by decide +kernel
theorem dX7_up_20 : decode cX7_up 20 = .ok (.iconst 1, 1) := by decide +kernel
theorem dX7_up_21 : decode cX7_up 21 = .ok (.invokestatic 119, 3) := by decide +kernel
theorem dX7_up_24 : decode cX7_up 24 = .ok (.ifCond .ne 6, 3) := by decide +kernel
theorem dX7_up_27 : decode cX7_up 27 = .ok (.ldc 130, 2) := by decide +kernel
theorem dX7_up_29 : decode cX7_up 29 = .ok (.ireturn, 1) := by decide +kernel
theorem dX7_up_30 : decode cX7_up 30 = .ok (.aload_n 0, 1) := by decide +kernel
theorem dX7_up_31 : decode cX7_up 31 = .ok (.invokevirtual 264, 3) := by decide +kernel
theorem dX7_up_34 : decode cX7_up 34 = .ok (.aload_n 0, 1) := by decide +kernel
theorem dX7_up_35 : decode cX7_up 35 = .ok (.getfield 29, 3) := by decide +kernel
theorem dX7_up_38 : decode cX7_up 38 = .ok (.iload_n 1, 1) := by decide +kernel
theorem dX7_up_39 : decode cX7_up 39 = .ok (.iaload, 1) := by decide +kernel
theorem dX7_up_40 : decode cX7_up 40 = .ok (.ifCond .eq 7, 3) := by decide +kernel
theorem dX7_up_43 : decode cX7_up 43 = .ok (.ldc_w 267, 3) := by decide +kernel
theorem dX7_up_46 : decode cX7_up 46 = .ok (.ireturn, 1) := by decide +kernel
theorem dX7_up_47 : decode cX7_up 47 = .ok (.iload_n 3, 1) := by decide +kernel
theorem dX7_up_48 : decode cX7_up 48 = .ok (.iconst 0, 1) := by decide +kernel
theorem dX7_up_49 : decode cX7_up 49 = .ok (.aload_n 0, 1) := by decide +kernel
theorem dX7_up_50 : decode cX7_up 50 = .ok (.iload_n 1, 1) := by decide +kernel
theorem dX7_up_51 : decode cX7_up 51 = .ok (.iload_n 2, 1) := by decide +kernel
theorem dX7_up_52 : decode cX7_up 52 = .ok (.invokevirtual 272, 3) := by decide +kernel
theorem dX7_up_55 : decode cX7_up 55 = .ok (.iconst 1, 1) := by decide +kernel
theorem dX7_up_56 : decode cX7_up 56 = .ok (.isub, 1) := by decide +kernel
theorem dX7_up_57 : decode cX7_up 57 = .ok (.invokestatic 119, 3) := by decide +kernel
theorem dX7_up_60 : decode cX7_up 60 = .ok (.ifCond .ne 8, 3) := by decide +kernel
theorem dX7_up_63 : decode cX7_up 63 = .ok (.ldc 130, 2) := by decide +kernel
theorem dX7_up_65 : decode cX7_up 65 = .ok (.goto 12, 3) := by decide +kernel
theorem dX7_up_68 : decode cX7_up 68 = .ok (.aload_n 0, 1) := by decide +kernel
theorem dX7_up_69 : decode cX7_up 69 = .ok (.iload_n 1, 1) := by decide +kernel
theorem dX7_up_70 : decode cX7_up 70 = .ok (.iload_n 2, 1) := by decide +kernel
theorem dX7_up_71 : decode cX7_up 71 = .ok (.iload_n 3, 1) := by decide +kernel
theorem dX7_up_72 : decode cX7_up 72 = .ok (.iload 4, 2) := by decide +kernel
theorem dX7_up_74 : decode cX7_up 74 = .ok (.invokevirtual 275, 3) := by decide +kernel
theorem dX7_up_77 : decode cX7_up 77 = .ok (.ireturn, 1) := by decide +kernel
theorem q134_0 : pm_V d 134 0 [.ref xn, l1, l2, l3, l4] st S Q = pm_V d 134 1 [.ref xn, l1, l2, l3, l4] (.ref xn :: st) S Q := pv_aload_n (pm_cdi rfl dX7_up_0) rfl
theorem q134_1 : pm_V d 134 1 [l0, .int xi, l2, l3, l4] st S Q = pm_V d 134 2 [l0, .int xi, l2, l3, l4] (.int xi :: st) S Q := pv_iload_n (pm_cdi rfl dX7_up_1) rfl
theorem q134_2 (hs : pm_sh S an = .inr 7) : pm_V (d + 1) 134 2 [l0, l1, l2, l3, l4] [.int v0i, .ref an] S Q = pm_N d 90 [.ref an, .int v0i] S (fun r S' => pm_V (d + 1) 134 5 [l0, l1, l2, l3, l4] (r.toList ++ []) S' Q) := pv_callV (as := [.int v0i]) (pm_cdi rfl dX7_up_2) (Or.inl (by decide +kernel)) (by decide +kernel) (show _ = _ from (by decide +kernel : 1 = pm_np 90)) rfl (Nat.le_of_ble_eq_true rfl) (cl := 7) (by decide +kernel) hs
theorem q134_5 : pm_V d 134 5 [l0, l1, l2, l3, l4] (.int xi :: st) S Q = if xi = 0 then pm_V d 134 27 [l0, l1, l2, l3, l4] st S Q else pm_V d 134 8 [l0, l1, l2, l3, l4] st S Q := pv_if_eq (pm_cdi rfl dX7_up_5) rfl
theorem q134_8 : pm_V d 134 8 [l0, l1, .int xi, l3, l4] st S Q = pm_V d 134 9 [l0, l1, .int xi, l3, l4] (.int xi :: st) S Q := pv_iload_n (pm_cdi rfl dX7_up_8) rfl
theorem q134_9 : pm_V d 134 9 [l0, l1, l2, l3, l4] st S Q = pm_V d 134 10 [l0, l1, l2, l3, l4] (.int 0 :: st) S Q := pv_iconst (pm_cdi rfl dX7_up_9) (by decide +kernel)
theorem q134_10 : pm_V d 134 10 [l0, l1, l2, l3, l4] st S Q = pm_V d 134 11 [l0, l1, l2, l3, l4] (.int 1 :: st) S Q := pv_iconst (pm_cdi rfl dX7_up_10) (by decide +kernel)
theorem q134_11 : pm_V (d + 1) 134 11 [l0, l1, l2, l3, l4] [.int v2i, .int v1i, .int v0i] S Q = pm_N d 87 [.int v0i, .int v1i, .int v2i] S (fun r S' => pm_V (d + 1) 134 14 [l0, l1, l2, l3, l4] (r.toList ++ []) S' Q) := pv_callS (as := [.int v0i, .int v1i, .int v2i]) (pm_cdi rfl dX7_up_11) (by decide +kernel) (by decide +kernel) (show _ = _ from (by decide +kernel : 3 = pm_np 87)) rfl (Nat.le_of_ble_eq_true rfl)
theorem q134_14 : pm_V d 134 14 [l0, l1, l2, l3, l4] (.int xi :: st) S Q = if xi = 0 then pm_V d 134 27 [l0, l1, l2, l3, l4] st S Q else pm_V d 134 17 [l0, l1, l2, l3, l4] st S Q := pv_if_eq (pm_cdi rfl dX7_up_14) rfl
theorem q134_17 : pm_V d 134 17 [l0, l1, l2, l3, .int xi] st S Q = pm_V d 134 19 [l0, l1, l2, l3, .int xi] (.int xi :: st) S Q := pv_iload (pm_cdi rfl dX7_up_17) rfl
theorem q134_19 : pm_V d 134 19 [l0, l1, l2, l3, l4] st S Q = pm_V d 134 20 [l0, l1, l2, l3, l4] (.int 0 :: st) S Q := pv_iconst (pm_cdi rfl dX7_up_19) (by decide +kernel)
theorem q134_20 : pm_V d 134 20 [l0, l1, l2, l3, l4] st S Q = pm_V d 134 21 [l0, l1, l2, l3, l4] (.int 1 :: st) S Q := pv_iconst (pm_cdi rfl dX7_up_20) (by decide +kernel)
theorem q134_21 : pm_V (d + 1) 134 21 [l0, l1, l2, l3, l4] [.int v2i, .int v1i, .int v0i] S Q = pm_N d 87 [.int v0i, .int v1i, .int v2i] S (fun r S' => pm_V (d + 1) 134 24 [l0, l1, l2, l3, l4] (r.toList ++ []) S' Q) := pv_callS (as := [.int v0i, .int v1i, .int v2i]) (pm_cdi rfl dX7_up_21) (by decide +kernel) (by decide +kernel) (show _ = _ from (by decide +kernel : 3 = pm_np 87)) rfl (Nat.le_of_ble_eq_true rfl)
theorem q134_24 : pm_V d 134 24 [l0, l1, l2, l3, l4] (.int xi :: st) S Q = if xi = 0 then pm_V d 134 27 [l0, l1, l2, l3, l4] st S Q else pm_V d 134 30 [l0, l1, l2, l3, l4] st S Q := pv_if_ne (pm_cdi rfl dX7_up_24) rfl
theorem q134_27 : pm_V d 134 27 [l0, l1, l2, l3, l4] st S Q = pm_V d 134 29 [l0, l1, l2, l3, l4] (.int (-1000001) :: st) S Q := pv_ldc (pm_cdi rfl dX7_up_27) (by decide +kernel)
theorem q134_29 : pm_V d 134 29 [l0, l1, l2, l3, l4] [.int xi] S Q = Q (some (.int xi)) S := pv_rI (pm_cdi rfl dX7_up_29) (by decide +kernel)
theorem q134_30 : pm_V d 134 30 [.ref xn, l1, l2, l3, l4] st S Q = pm_V d 134 31 [.ref xn, l1, l2, l3, l4] (.ref xn :: st) S Q := pv_aload_n (pm_cdi rfl dX7_up_30) rfl
theorem q134_31 (hs : pm_sh S an = .inr 7) : pm_V (d + 1) 134 31 [l0, l1, l2, l3, l4] [.ref an] S Q = pm_N d 99 [.ref an] S (fun r S' => pm_V (d + 1) 134 34 [l0, l1, l2, l3, l4] (r.toList ++ []) S' Q) := pv_callV (as := []) (pm_cdi rfl dX7_up_31) (Or.inl (by decide +kernel)) (by decide +kernel) (show _ = _ from (by decide +kernel : 0 = pm_np 99)) rfl (Nat.le_of_ble_eq_true rfl) (cl := 7) (by decide +kernel) hs
theorem q134_34 : pm_V d 134 34 [.ref xn, l1, l2, l3, l4] st S Q = pm_V d 134 35 [.ref xn, l1, l2, l3, l4] (.ref xn :: st) S Q := pv_aload_n (pm_cdi rfl dX7_up_34) rfl
theorem q134_35 (hs : pm_sh S an = .inr 7) : pm_V d 134 35 [l0, l1, l2, l3, l4] (.ref an :: st) S Q = pm_V d 134 38 [l0, l1, l2, l3, l4] (va_rf (pm_gr S an 7) :: st) S Q := pv_getA (pm_cdi rfl dX7_up_35) (by decide +kernel) (by decide +kernel) (by decide +kernel) hs
theorem q134_38 : pm_V d 134 38 [l0, .int xi, l2, l3, l4] st S Q = pm_V d 134 39 [l0, .int xi, l2, l3, l4] (.int xi :: st) S Q := pv_iload_n (pm_cdi rfl dX7_up_38) rfl
theorem q134_39 (hs : pm_ar S an 0 xi = true) : pm_V d 134 39 [l0, l1, l2, l3, l4] (.int xi :: .ref an :: st) S Q = pm_V d 134 40 [l0, l1, l2, l3, l4] (.int (pm_zi S an xi.toNatClampNeg) :: st) S Q := pv_iald (pm_cdi rfl dX7_up_39) hs
theorem q134_40 : pm_V d 134 40 [l0, l1, l2, l3, l4] (.int xi :: st) S Q = if xi = 0 then pm_V d 134 47 [l0, l1, l2, l3, l4] st S Q else pm_V d 134 43 [l0, l1, l2, l3, l4] st S Q := pv_if_eq (pm_cdi rfl dX7_up_40) rfl
theorem q134_43 : pm_V d 134 43 [l0, l1, l2, l3, l4] st S Q = pm_V d 134 46 [l0, l1, l2, l3, l4] (.int (-1000003) :: st) S Q := pv_ldcw (pm_cdi rfl dX7_up_43) (by decide +kernel)
theorem q134_46 : pm_V d 134 46 [l0, l1, l2, l3, l4] [.int xi] S Q = Q (some (.int xi)) S := pv_rI (pm_cdi rfl dX7_up_46) (by decide +kernel)
theorem q134_47 : pm_V d 134 47 [l0, l1, l2, .int xi, l4] st S Q = pm_V d 134 48 [l0, l1, l2, .int xi, l4] (.int xi :: st) S Q := pv_iload_n (pm_cdi rfl dX7_up_47) rfl
theorem q134_48 : pm_V d 134 48 [l0, l1, l2, l3, l4] st S Q = pm_V d 134 49 [l0, l1, l2, l3, l4] (.int 0 :: st) S Q := pv_iconst (pm_cdi rfl dX7_up_48) (by decide +kernel)
theorem q134_49 : pm_V d 134 49 [.ref xn, l1, l2, l3, l4] st S Q = pm_V d 134 50 [.ref xn, l1, l2, l3, l4] (.ref xn :: st) S Q := pv_aload_n (pm_cdi rfl dX7_up_49) rfl
theorem q134_50 : pm_V d 134 50 [l0, .int xi, l2, l3, l4] st S Q = pm_V d 134 51 [l0, .int xi, l2, l3, l4] (.int xi :: st) S Q := pv_iload_n (pm_cdi rfl dX7_up_50) rfl
theorem q134_51 : pm_V d 134 51 [l0, l1, .int xi, l3, l4] st S Q = pm_V d 134 52 [l0, l1, .int xi, l3, l4] (.int xi :: st) S Q := pv_iload_n (pm_cdi rfl dX7_up_51) rfl
theorem q134_52 (hs : pm_sh S an = .inr 7) : pm_V (d + 1) 134 52 [l0, l1, l2, l3, l4] [.int v1i, .int v0i, .ref an, .int r0i, .int r1i] S Q = pm_N d 131 [.ref an, .int v0i, .int v1i] S (fun r S' => pm_V (d + 1) 134 55 [l0, l1, l2, l3, l4] (r.toList ++ [.int r0i, .int r1i]) S' Q) := pv_callV (as := [.int v0i, .int v1i]) (pm_cdi rfl dX7_up_52) (Or.inl (by decide +kernel)) (by decide +kernel) (show _ = _ from (by decide +kernel : 2 = pm_np 131)) rfl (Nat.le_of_ble_eq_true rfl) (cl := 7) (by decide +kernel) hs
theorem q134_55 : pm_V d 134 55 [l0, l1, l2, l3, l4] st S Q = pm_V d 134 56 [l0, l1, l2, l3, l4] (.int 1 :: st) S Q := pv_iconst (pm_cdi rfl dX7_up_55) (by decide +kernel)
theorem q134_56 : pm_V d 134 56 [l0, l1, l2, l3, l4] (.int yi :: .int xi :: st) S Q = pm_V d 134 57 [l0, l1, l2, l3, l4] (.int (xi - yi) :: st) S Q := pv_isub (pm_cdi rfl dX7_up_56)
theorem q134_57 : pm_V (d + 1) 134 57 [l0, l1, l2, l3, l4] [.int v2i, .int v1i, .int v0i] S Q = pm_N d 87 [.int v0i, .int v1i, .int v2i] S (fun r S' => pm_V (d + 1) 134 60 [l0, l1, l2, l3, l4] (r.toList ++ []) S' Q) := pv_callS (as := [.int v0i, .int v1i, .int v2i]) (pm_cdi rfl dX7_up_57) (by decide +kernel) (by decide +kernel) (show _ = _ from (by decide +kernel : 3 = pm_np 87)) rfl (Nat.le_of_ble_eq_true rfl)
theorem q134_60 : pm_V d 134 60 [l0, l1, l2, l3, l4] (.int xi :: st) S Q = if xi = 0 then pm_V d 134 63 [l0, l1, l2, l3, l4] st S Q else pm_V d 134 68 [l0, l1, l2, l3, l4] st S Q := pv_if_ne (pm_cdi rfl dX7_up_60) rfl
theorem q134_63 : pm_V d 134 63 [l0, l1, l2, l3, l4] st S Q = pm_V d 134 65 [l0, l1, l2, l3, l4] (.int (-1000001) :: st) S Q := pv_ldc (pm_cdi rfl dX7_up_63) (by decide +kernel)
theorem q134_65 : pm_V d 134 65 [l0, l1, l2, l3, l4] st S Q = pm_V d 134 77 [l0, l1, l2, l3, l4] st S Q := pv_goto (pm_cdi rfl dX7_up_65) rfl
theorem q134_68 : pm_V d 134 68 [.ref xn, l1, l2, l3, l4] st S Q = pm_V d 134 69 [.ref xn, l1, l2, l3, l4] (.ref xn :: st) S Q := pv_aload_n (pm_cdi rfl dX7_up_68) rfl
theorem q134_69 : pm_V d 134 69 [l0, .int xi, l2, l3, l4] st S Q = pm_V d 134 70 [l0, .int xi, l2, l3, l4] (.int xi :: st) S Q := pv_iload_n (pm_cdi rfl dX7_up_69) rfl
theorem q134_70 : pm_V d 134 70 [l0, l1, .int xi, l3, l4] st S Q = pm_V d 134 71 [l0, l1, .int xi, l3, l4] (.int xi :: st) S Q := pv_iload_n (pm_cdi rfl dX7_up_70) rfl
theorem q134_71 : pm_V d 134 71 [l0, l1, l2, .int xi, l4] st S Q = pm_V d 134 72 [l0, l1, l2, .int xi, l4] (.int xi :: st) S Q := pv_iload_n (pm_cdi rfl dX7_up_71) rfl
theorem q134_72 : pm_V d 134 72 [l0, l1, l2, l3, .int xi] st S Q = pm_V d 134 74 [l0, l1, l2, l3, .int xi] (.int xi :: st) S Q := pv_iload (pm_cdi rfl dX7_up_72) rfl
theorem q134_74 (hs : pm_sh S an = .inr 7) : pm_V (d + 1) 134 74 [l0, l1, l2, l3, l4] [.int v3i, .int v2i, .int v1i, .int v0i, .ref an] S Q = pm_N d 133 [.ref an, .int v0i, .int v1i, .int v2i, .int v3i] S (fun r S' => pm_V (d + 1) 134 77 [l0, l1, l2, l3, l4] (r.toList ++ []) S' Q) := pv_callV (as := [.int v0i, .int v1i, .int v2i, .int v3i]) (pm_cdi rfl dX7_up_74) (Or.inl (by decide +kernel)) (by decide +kernel) (show _ = _ from (by decide +kernel : 4 = pm_np 133)) rfl (Nat.le_of_ble_eq_true rfl) (cl := 7) (by decide +kernel) hs
theorem q134_77 : pm_V d 134 77 [l0, l1, l2, l3, l4] [.int xi] S Q = Q (some (.int xi)) S := pv_rI (pm_cdi rfl dX7_up_77) (by decide +kernel)
theorem q134_e : pm_N d 134 [.ref an, .int v0i, .int v1i, .int v2i, .int v3i] S Q = pm_V d 134 0 [.ref an, .int v0i, .int v1i, .int v2i, .int v3i] [] S Q := pv_ent (Nat.le_of_ble_eq_true rfl) rfl
/-! 135: ViewsJoinsModel.down(IIII)I -/
theorem dX7_down_0 : decode cX7_down 0 = .ok (.aload_n 0, 1) := by decide +kernel
theorem dX7_down_1 : decode cX7_down 1 = .ok (.iload_n 1, 1) := by decide +kernel
theorem dX7_down_2 : decode cX7_down 2 = .ok (.invokevirtual 261, 3) := by decide +kernel
theorem dX7_down_5 : decode cX7_down 5 = .ok (.ifCond .eq 22, 3) := by decide +kernel
theorem dX7_down_8 : decode cX7_down 8 = .ok (.iload_n 2, 1) := by decide +kernel
theorem dX7_down_9 : decode cX7_down 9 = .ok (.iconst 0, 1) := by decide +kernel
theorem dX7_down_10 : decode cX7_down 10 = .ok (.iconst 1, 1) := by decide +kernel
theorem dX7_down_11 : decode cX7_down 11 = .ok (.invokestatic 119, 3) := by decide +kernel
theorem dX7_down_14 : decode cX7_down 14 = .ok (.ifCond .eq 13, 3) := by decide +kernel
theorem dX7_down_17 : decode cX7_down 17 = .ok (.iload 4, 2) := by decide +kernel
theorem dX7_down_19 : decode cX7_down 19 = .ok (.iconst 0, 1) := by decide +kernel
theorem dX7_down_20 : decode cX7_down 20 = .ok (.iconst 1, 1) := by decide +kernel
theorem dX7_down_21 : decode cX7_down 21 = .ok (.invokestatic 119, 3) := by decide +kernel
theorem dX7_down_24 : decode cX7_down 24 = .ok (.ifCond .ne 6, 3) := by decide +kernel
theorem dX7_down_27 : decode cX7_down 27 = .ok (.ldc 130, 2) := by decide +kernel
theorem dX7_down_29 : decode cX7_down 29 = .ok (.ireturn, 1) := by decide +kernel
theorem dX7_down_30 : decode cX7_down 30 = .ok (.aload_n 0, 1) := by decide +kernel
theorem dX7_down_31 : decode cX7_down 31 = .ok (.invokevirtual 264, 3) := by decide +kernel
theorem dX7_down_34 : decode cX7_down 34 = .ok (.aload_n 0, 1) := by decide +kernel
theorem dX7_down_35 : decode cX7_down 35 = .ok (.getfield 29, 3) := by decide +kernel
theorem dX7_down_38 : decode cX7_down 38 = .ok (.iload_n 1, 1) := by decide +kernel
theorem dX7_down_39 : decode cX7_down 39 = .ok (.iaload, 1) := by decide +kernel
theorem dX7_down_40 : decode cX7_down 40 = .ok (.ifCond .eq 7, 3) := by decide +kernel
theorem dX7_down_43 : decode cX7_down 43 = .ok (.ldc_w 267, 3) := by decide +kernel
theorem dX7_down_46 : decode cX7_down 46 = .ok (.ireturn, 1) := by decide +kernel
theorem dX7_down_47 : decode cX7_down 47 = .ok (.iconst 0, 1) := by decide +kernel
theorem dX7_down_48 : decode cX7_down 48 = .ok (.istore 5, 2) := by decide +kernel
theorem dX7_down_50 : decode cX7_down 50 = .ok (.iload 5, 2) := by decide +kernel
theorem dX7_down_52 : decode cX7_down 52 = .ok (.aload_n 0, 1) := by decide +kernel
theorem dX7_down_53 : decode cX7_down 53 = .ok (.iload_n 1, 1) := by decide +kernel
theorem dX7_down_54 : decode cX7_down 54 = .ok (.iload_n 2, 1) := by decide +kernel
theorem dX7_down_55 : decode cX7_down 55 = .ok (.invokevirtual 272, 3) := by decide +kernel
theorem dX7_down_58 : decode cX7_down 58 = .ok (.if_icmp .ge 30, 3) := by decide +kernel
theorem dX7_down_61 : decode cX7_down 61 = .ok (.iload_n 3, 1) := by decide +kernel
theorem dX7_down_62 : decode cX7_down 62 = .ok (.ifCond .lt 26, 3) := by decide +kernel
theorem dX7_down_65 : decode cX7_down 65 = .ok (.aload_n 0, 1) := by decide +kernel
theorem dX7_down_66 : decode cX7_down 66 = .ok (.iload_n 1, 1) := by decide +kernel
theorem dX7_down_67 : decode cX7_down 67 = .ok (.iload_n 2, 1) := by decide +kernel
theorem dX7_down_68 : decode cX7_down 68 = .ok (.iload 5, 2) := by decide +kernel
theorem dX7_down_70 : decode cX7_down 70 = .ok (.iload 4, 2) := by decide +kernel
theorem dX7_down_72 : decode cX7_down 72 = .ok (.invokevirtual 275, 3) := by decide +kernel
theorem dX7_down_75 : decode cX7_down 75 = .ok (.iload_n 3, 1) := by decide +kernel
theorem dX7_down_76 : decode cX7_down 76 = .ok (.if_icmp .ne 6, 3) := by decide +kernel
theorem dX7_down_79 : decode cX7_down 79 = .ok (.iload 5, 2) := by decide +kernel
theorem dX7_down_81 : decode cX7_down 81 = .ok (.ireturn, 1) := by decide +kernel
theorem dX7_down_82 : decode cX7_down 82 = .ok (.iinc 5 1, 3) := by decide +kernel
theorem dX7_down_85 : decode cX7_down 85 = .ok (.goto (-35), 3) := by decide +kernel
theorem dX7_down_88 : decode cX7_down 88 = .ok (.ldc 139, 2) := by decide +kernel
theorem dX7_down_90 : decode cX7_down 90 = .ok (.ireturn, 1) := by decide +kernel
theorem q135_0 : pm_V d 135 0 [.ref xn, l1, l2, l3, l4, l5] st S Q = pm_V d 135 1 [.ref xn, l1, l2, l3, l4, l5] (.ref xn :: st) S Q := pv_aload_n (pm_cdi rfl dX7_down_0) rfl
theorem q135_1 : pm_V d 135 1 [l0, .int xi, l2, l3, l4, l5] st S Q = pm_V d 135 2 [l0, .int xi, l2, l3, l4, l5] (.int xi :: st) S Q := pv_iload_n (pm_cdi rfl dX7_down_1) rfl
theorem q135_2 (hs : pm_sh S an = .inr 7) : pm_V (d + 1) 135 2 [l0, l1, l2, l3, l4, l5] [.int v0i, .ref an] S Q = pm_N d 90 [.ref an, .int v0i] S (fun r S' => pm_V (d + 1) 135 5 [l0, l1, l2, l3, l4, l5] (r.toList ++ []) S' Q) := pv_callV (as := [.int v0i]) (pm_cdi rfl dX7_down_2) (Or.inl (by decide +kernel)) (by decide +kernel) (show _ = _ from (by decide +kernel : 1 = pm_np 90)) rfl (Nat.le_of_ble_eq_true rfl) (cl := 7) (by decide +kernel) hs
theorem q135_5 : pm_V d 135 5 [l0, l1, l2, l3, l4, l5] (.int xi :: st) S Q = if xi = 0 then pm_V d 135 27 [l0, l1, l2, l3, l4, l5] st S Q else pm_V d 135 8 [l0, l1, l2, l3, l4, l5] st S Q := pv_if_eq (pm_cdi rfl dX7_down_5) rfl
theorem q135_8 : pm_V d 135 8 [l0, l1, .int xi, l3, l4, l5] st S Q = pm_V d 135 9 [l0, l1, .int xi, l3, l4, l5] (.int xi :: st) S Q := pv_iload_n (pm_cdi rfl dX7_down_8) rfl
theorem q135_9 : pm_V d 135 9 [l0, l1, l2, l3, l4, l5] st S Q = pm_V d 135 10 [l0, l1, l2, l3, l4, l5] (.int 0 :: st) S Q := pv_iconst (pm_cdi rfl dX7_down_9) (by decide +kernel)
theorem q135_10 : pm_V d 135 10 [l0, l1, l2, l3, l4, l5] st S Q = pm_V d 135 11 [l0, l1, l2, l3, l4, l5] (.int 1 :: st) S Q := pv_iconst (pm_cdi rfl dX7_down_10) (by decide +kernel)
theorem q135_11 : pm_V (d + 1) 135 11 [l0, l1, l2, l3, l4, l5] [.int v2i, .int v1i, .int v0i] S Q = pm_N d 87 [.int v0i, .int v1i, .int v2i] S (fun r S' => pm_V (d + 1) 135 14 [l0, l1, l2, l3, l4, l5] (r.toList ++ []) S' Q) := pv_callS (as := [.int v0i, .int v1i, .int v2i]) (pm_cdi rfl dX7_down_11) (by decide +kernel) (by decide +kernel) (show _ = _ from (by decide +kernel : 3 = pm_np 87)) rfl (Nat.le_of_ble_eq_true rfl)
theorem q135_14 : pm_V d 135 14 [l0, l1, l2, l3, l4, l5] (.int xi :: st) S Q = if xi = 0 then pm_V d 135 27 [l0, l1, l2, l3, l4, l5] st S Q else pm_V d 135 17 [l0, l1, l2, l3, l4, l5] st S Q := pv_if_eq (pm_cdi rfl dX7_down_14) rfl
theorem q135_17 : pm_V d 135 17 [l0, l1, l2, l3, .int xi, l5] st S Q = pm_V d 135 19 [l0, l1, l2, l3, .int xi, l5] (.int xi :: st) S Q := pv_iload (pm_cdi rfl dX7_down_17) rfl
theorem q135_19 : pm_V d 135 19 [l0, l1, l2, l3, l4, l5] st S Q = pm_V d 135 20 [l0, l1, l2, l3, l4, l5] (.int 0 :: st) S Q := pv_iconst (pm_cdi rfl dX7_down_19) (by decide +kernel)
theorem q135_20 : pm_V d 135 20 [l0, l1, l2, l3, l4, l5] st S Q = pm_V d 135 21 [l0, l1, l2, l3, l4, l5] (.int 1 :: st) S Q := pv_iconst (pm_cdi rfl dX7_down_20) (by decide +kernel)
theorem q135_21 : pm_V (d + 1) 135 21 [l0, l1, l2, l3, l4, l5] [.int v2i, .int v1i, .int v0i] S Q = pm_N d 87 [.int v0i, .int v1i, .int v2i] S (fun r S' => pm_V (d + 1) 135 24 [l0, l1, l2, l3, l4, l5] (r.toList ++ []) S' Q) := pv_callS (as := [.int v0i, .int v1i, .int v2i]) (pm_cdi rfl dX7_down_21) (by decide +kernel) (by decide +kernel) (show _ = _ from (by decide +kernel : 3 = pm_np 87)) rfl (Nat.le_of_ble_eq_true rfl)
theorem q135_24 : pm_V d 135 24 [l0, l1, l2, l3, l4, l5] (.int xi :: st) S Q = if xi = 0 then pm_V d 135 27 [l0, l1, l2, l3, l4, l5] st S Q else pm_V d 135 30 [l0, l1, l2, l3, l4, l5] st S Q := pv_if_ne (pm_cdi rfl dX7_down_24) rfl
theorem q135_27 : pm_V d 135 27 [l0, l1, l2, l3, l4, l5] st S Q = pm_V d 135 29 [l0, l1, l2, l3, l4, l5] (.int (-1000001) :: st) S Q := pv_ldc (pm_cdi rfl dX7_down_27) (by decide +kernel)
theorem q135_29 : pm_V d 135 29 [l0, l1, l2, l3, l4, l5] [.int xi] S Q = Q (some (.int xi)) S := pv_rI (pm_cdi rfl dX7_down_29) (by decide +kernel)
theorem q135_30 : pm_V d 135 30 [.ref xn, l1, l2, l3, l4, l5] st S Q = pm_V d 135 31 [.ref xn, l1, l2, l3, l4, l5] (.ref xn :: st) S Q := pv_aload_n (pm_cdi rfl dX7_down_30) rfl
theorem q135_31 (hs : pm_sh S an = .inr 7) : pm_V (d + 1) 135 31 [l0, l1, l2, l3, l4, l5] [.ref an] S Q = pm_N d 99 [.ref an] S (fun r S' => pm_V (d + 1) 135 34 [l0, l1, l2, l3, l4, l5] (r.toList ++ []) S' Q) := pv_callV (as := []) (pm_cdi rfl dX7_down_31) (Or.inl (by decide +kernel)) (by decide +kernel) (show _ = _ from (by decide +kernel : 0 = pm_np 99)) rfl (Nat.le_of_ble_eq_true rfl) (cl := 7) (by decide +kernel) hs
theorem q135_34 : pm_V d 135 34 [.ref xn, l1, l2, l3, l4, l5] st S Q = pm_V d 135 35 [.ref xn, l1, l2, l3, l4, l5] (.ref xn :: st) S Q := pv_aload_n (pm_cdi rfl dX7_down_34) rfl
theorem q135_35 (hs : pm_sh S an = .inr 7) : pm_V d 135 35 [l0, l1, l2, l3, l4, l5] (.ref an :: st) S Q = pm_V d 135 38 [l0, l1, l2, l3, l4, l5] (va_rf (pm_gr S an 7) :: st) S Q := pv_getA (pm_cdi rfl dX7_down_35) (by decide +kernel) (by decide +kernel) (by decide +kernel) hs
theorem q135_38 : pm_V d 135 38 [l0, .int xi, l2, l3, l4, l5] st S Q = pm_V d 135 39 [l0, .int xi, l2, l3, l4, l5] (.int xi :: st) S Q := pv_iload_n (pm_cdi rfl dX7_down_38) rfl
theorem q135_39 (hs : pm_ar S an 0 xi = true) : pm_V d 135 39 [l0, l1, l2, l3, l4, l5] (.int xi :: .ref an :: st) S Q = pm_V d 135 40 [l0, l1, l2, l3, l4, l5] (.int (pm_zi S an xi.toNatClampNeg) :: st) S Q := pv_iald (pm_cdi rfl dX7_down_39) hs
theorem q135_40 : pm_V d 135 40 [l0, l1, l2, l3, l4, l5] (.int xi :: st) S Q = if xi = 0 then pm_V d 135 47 [l0, l1, l2, l3, l4, l5] st S Q else pm_V d 135 43 [l0, l1, l2, l3, l4, l5] st S Q := pv_if_eq (pm_cdi rfl dX7_down_40) rfl
theorem q135_43 : pm_V d 135 43 [l0, l1, l2, l3, l4, l5] st S Q = pm_V d 135 46 [l0, l1, l2, l3, l4, l5] (.int (-1000003) :: st) S Q := pv_ldcw (pm_cdi rfl dX7_down_43) (by decide +kernel)
theorem q135_46 : pm_V d 135 46 [l0, l1, l2, l3, l4, l5] [.int xi] S Q = Q (some (.int xi)) S := pv_rI (pm_cdi rfl dX7_down_46) (by decide +kernel)
theorem q135_47 : pm_V d 135 47 [l0, l1, l2, l3, l4, l5] st S Q = pm_V d 135 48 [l0, l1, l2, l3, l4, l5] (.int 0 :: st) S Q := pv_iconst (pm_cdi rfl dX7_down_47) (by decide +kernel)
theorem q135_48 : pm_V d 135 48 [l0, l1, l2, l3, .int yi, l5] (.int xi :: st) S Q = pm_V d 135 50 [l0, l1, l2, l3, .int yi, .int xi] st S Q := pv_istore (pm_cdi rfl dX7_down_48) rfl
theorem q135_50 : pm_V d 135 50 [l0, l1, l2, l3, l4, .int xi] st S Q = pm_V d 135 52 [l0, l1, l2, l3, l4, .int xi] (.int xi :: st) S Q := pv_iload (pm_cdi rfl dX7_down_50) rfl
theorem q135_52 : pm_V d 135 52 [.ref xn, l1, l2, l3, l4, l5] st S Q = pm_V d 135 53 [.ref xn, l1, l2, l3, l4, l5] (.ref xn :: st) S Q := pv_aload_n (pm_cdi rfl dX7_down_52) rfl
theorem q135_53 : pm_V d 135 53 [l0, .int xi, l2, l3, l4, l5] st S Q = pm_V d 135 54 [l0, .int xi, l2, l3, l4, l5] (.int xi :: st) S Q := pv_iload_n (pm_cdi rfl dX7_down_53) rfl
theorem q135_54 : pm_V d 135 54 [l0, l1, .int xi, l3, l4, l5] st S Q = pm_V d 135 55 [l0, l1, .int xi, l3, l4, l5] (.int xi :: st) S Q := pv_iload_n (pm_cdi rfl dX7_down_54) rfl
theorem q135_55 (hs : pm_sh S an = .inr 7) : pm_V (d + 1) 135 55 [l0, l1, l2, l3, l4, l5] [.int v1i, .int v0i, .ref an, .int r0i] S Q = pm_N d 131 [.ref an, .int v0i, .int v1i] S (fun r S' => pm_V (d + 1) 135 58 [l0, l1, l2, l3, l4, l5] (r.toList ++ [.int r0i]) S' Q) := pv_callV (as := [.int v0i, .int v1i]) (pm_cdi rfl dX7_down_55) (Or.inl (by decide +kernel)) (by decide +kernel) (show _ = _ from (by decide +kernel : 2 = pm_np 131)) rfl (Nat.le_of_ble_eq_true rfl) (cl := 7) (by decide +kernel) hs
theorem q135_58 : pm_V d 135 58 [l0, l1, l2, l3, l4, l5] (.int yi :: .int xi :: st) S Q = if xi < yi then pm_V d 135 61 [l0, l1, l2, l3, l4, l5] st S Q else pm_V d 135 88 [l0, l1, l2, l3, l4, l5] st S Q := pv_icmp_ge (pm_cdi rfl dX7_down_58) rfl
theorem q135_61 : pm_V d 135 61 [l0, l1, l2, .int xi, l4, l5] st S Q = pm_V d 135 62 [l0, l1, l2, .int xi, l4, l5] (.int xi :: st) S Q := pv_iload_n (pm_cdi rfl dX7_down_61) rfl
theorem q135_62 : pm_V d 135 62 [l0, l1, l2, l3, l4, l5] (.int xi :: st) S Q = if xi < 0 then pm_V d 135 88 [l0, l1, l2, l3, l4, l5] st S Q else pm_V d 135 65 [l0, l1, l2, l3, l4, l5] st S Q := pv_if_lt (pm_cdi rfl dX7_down_62) rfl
theorem q135_65 : pm_V d 135 65 [.ref xn, l1, l2, l3, l4, l5] st S Q = pm_V d 135 66 [.ref xn, l1, l2, l3, l4, l5] (.ref xn :: st) S Q := pv_aload_n (pm_cdi rfl dX7_down_65) rfl
theorem q135_66 : pm_V d 135 66 [l0, .int xi, l2, l3, l4, l5] st S Q = pm_V d 135 67 [l0, .int xi, l2, l3, l4, l5] (.int xi :: st) S Q := pv_iload_n (pm_cdi rfl dX7_down_66) rfl
theorem q135_67 : pm_V d 135 67 [l0, l1, .int xi, l3, l4, l5] st S Q = pm_V d 135 68 [l0, l1, .int xi, l3, l4, l5] (.int xi :: st) S Q := pv_iload_n (pm_cdi rfl dX7_down_67) rfl
theorem q135_68 : pm_V d 135 68 [l0, l1, l2, l3, l4, .int xi] st S Q = pm_V d 135 70 [l0, l1, l2, l3, l4, .int xi] (.int xi :: st) S Q := pv_iload (pm_cdi rfl dX7_down_68) rfl
theorem q135_70 : pm_V d 135 70 [l0, l1, l2, l3, .int xi, l5] st S Q = pm_V d 135 72 [l0, l1, l2, l3, .int xi, l5] (.int xi :: st) S Q := pv_iload (pm_cdi rfl dX7_down_70) rfl
theorem q135_72 (hs : pm_sh S an = .inr 7) : pm_V (d + 1) 135 72 [l0, l1, l2, l3, l4, l5] [.int v3i, .int v2i, .int v1i, .int v0i, .ref an] S Q = pm_N d 133 [.ref an, .int v0i, .int v1i, .int v2i, .int v3i] S (fun r S' => pm_V (d + 1) 135 75 [l0, l1, l2, l3, l4, l5] (r.toList ++ []) S' Q) := pv_callV (as := [.int v0i, .int v1i, .int v2i, .int v3i]) (pm_cdi rfl dX7_down_72) (Or.inl (by decide +kernel)) (by decide +kernel) (show _ = _ from (by decide +kernel : 4 = pm_np 133)) rfl (Nat.le_of_ble_eq_true rfl) (cl := 7) (by decide +kernel) hs
theorem q135_75 : pm_V d 135 75 [l0, l1, l2, .int xi, l4, l5] st S Q = pm_V d 135 76 [l0, l1, l2, .int xi, l4, l5] (.int xi :: st) S Q := pv_iload_n (pm_cdi rfl dX7_down_75) rfl
theorem q135_76 : pm_V d 135 76 [l0, l1, l2, l3, l4, l5] (.int yi :: .int xi :: st) S Q = if xi = yi then pm_V d 135 79 [l0, l1, l2, l3, l4, l5] st S Q else pm_V d 135 82 [l0, l1, l2, l3, l4, l5] st S Q := pv_icmp_ne (pm_cdi rfl dX7_down_76) rfl
theorem q135_79 : pm_V d 135 79 [l0, l1, l2, l3, l4, .int xi] st S Q = pm_V d 135 81 [l0, l1, l2, l3, l4, .int xi] (.int xi :: st) S Q := pv_iload (pm_cdi rfl dX7_down_79) rfl
theorem q135_81 : pm_V d 135 81 [l0, l1, l2, l3, l4, l5] [.int xi] S Q = Q (some (.int xi)) S := pv_rI (pm_cdi rfl dX7_down_81) (by decide +kernel)
theorem q135_82 : pm_V d 135 82 [l0, l1, l2, l3, .int yi, .int xi] st S Q = pm_V d 135 85 [l0, l1, l2, l3, .int yi, .int (xi + 1)] st S Q := pv_iinc (pm_cdi rfl dX7_down_82) rfl (by decide +kernel) rfl
theorem q135_85 : pm_V d 135 85 [l0, l1, l2, l3, l4, l5] st S Q = pm_V d 135 50 [l0, l1, l2, l3, l4, l5] st S Q := pv_goto (pm_cdi rfl dX7_down_85) rfl
theorem q135_88 : pm_V d 135 88 [l0, l1, l2, l3, l4, l5] st S Q = pm_V d 135 90 [l0, l1, l2, l3, l4, l5] (.int (-1000004) :: st) S Q := pv_ldc (pm_cdi rfl dX7_down_88) (by decide +kernel)
theorem q135_90 : pm_V d 135 90 [l0, l1, l2, l3, l4, l5] [.int xi] S Q = Q (some (.int xi)) S := pv_rI (pm_cdi rfl dX7_down_90) (by decide +kernel)
theorem q135_e : pm_N d 135 [.ref an, .int v0i, .int v1i, .int v2i, .int v3i] S Q = pm_V d 135 0 [.ref an, .int v0i, .int v1i, .int v2i, .int v3i, pm_j] [] S Q := pv_ent (Nat.le_of_ble_eq_true rfl) rfl
/-! 136: ViewsJoinsModel.hidden(III)I -/
theorem dX7_hidden_0 : decode cX7_hidden 0 = .ok (.aload_n 0, 1) := by decide +kernel
theorem dX7_hidden_1 : decode cX7_hidden 1 = .ok (.iload_n 1, 1) := by decide +kernel
theorem dX7_hidden_2 : decode cX7_hidden 2 = .ok (.invokevirtual 123, 3) := by decide +kernel
theorem dX7_hidden_5 : decode cX7_hidden 5 = .ok (.ifCond .eq 22, 3) := by decide +kernel
theorem dX7_hidden_8 : decode cX7_hidden 8 = .ok (.aload_n 0, 1) := by decide +kernel
theorem dX7_hidden_9 : decode cX7_hidden 9 = .ok (.getfield 7, 3) := by decide +kernel
theorem dX7_hidden_12 : decode cX7_hidden 12 = .ok (.iload_n 1, 1) := by decide +kernel
theorem dX7_hidden_13 : decode cX7_hidden 13 = .ok (.iaload, 1) := by decide +kernel
theorem dX7_hidden_14 : decode cX7_hidden 14 = .ok (.iconst 1, 1) := by decide +kernel
theorem dX7_hidden_15 : decode cX7_hidden 15 = .ok (.if_icmp .ne 12, 3) := by decide +kernel
theorem dX7_hidden_18 : decode cX7_hidden 18 = .ok (.iload_n 3, 1) := by decide +kernel
theorem dX7_hidden_19 : decode cX7_hidden 19 = .ok (.iconst 0, 1) := by decide +kernel
theorem dX7_hidden_20 : decode cX7_hidden 20 = .ok (.iconst 2, 1) := by decide +kernel
theorem dX7_hidden_21 : decode cX7_hidden 21 = .ok (.invokestatic 119, 3) := by decide +kernel
theorem dX7_hidden_24 : decode cX7_hidden 24 = .ok (.ifCond .ne 6, 3) := by decide +kernel
theorem dX7_hidden_27 : decode cX7_hidden 27 = .ok (.ldc 130, 2) := by decide +kernel
theorem dX7_hidden_29 : decode cX7_hidden 29 = .ok (.ireturn, 1) := by decide +kernel
theorem dX7_hidden_30 : decode cX7_hidden 30 = .ok (.aload_n 0, 1) := by decide +kernel
theorem dX7_hidden_31 : decode cX7_hidden 31 = .ok (.invokevirtual 264, 3) := by decide +kernel
theorem dX7_hidden_34 : decode cX7_hidden 34 = .ok (.aload_n 0, 1) := by decide +kernel
theorem dX7_hidden_35 : decode cX7_hidden 35 = .ok (.getfield 29, 3) := by decide +kernel
theorem dX7_hidden_38 : decode cX7_hidden 38 = .ok (.iload_n 1, 1) := by decide +kernel
theorem dX7_hidden_39 : decode cX7_hidden 39 = .ok (.iaload, 1) := by decide +kernel
theorem dX7_hidden_40 : decode cX7_hidden 40 = .ok (.ifCond .eq 7, 3) := by decide +kernel
theorem dX7_hidden_43 : decode cX7_hidden 43 = .ok (.ldc_w 267, 3) := by decide +kernel
theorem dX7_hidden_46 : decode cX7_hidden 46 = .ok (.ireturn, 1) := by decide +kernel
theorem dX7_hidden_47 : decode cX7_hidden 47 = .ok (.iload_n 2, 1) := by decide +kernel
theorem dX7_hidden_48 : decode cX7_hidden 48 = .ok (.iconst 0, 1) := by decide +kernel
theorem dX7_hidden_49 : decode cX7_hidden 49 = .ok (.aload_n 0, 1) := by decide +kernel
theorem dX7_hidden_50 : decode cX7_hidden 50 = .ok (.getfield 63, 3) := by decide +kernel
theorem dX7_hidden_53 : decode cX7_hidden 53 = .ok (.iload_n 1, 1) := by decide +kernel
theorem dX7_hidden_54 : decode cX7_hidden 54 = .ok (.iaload, 1) := by decide +kernel
theorem dX7_hidden_55 : decode cX7_hidden 55 = .ok (.iconst 1, 1) := by decide +kernel
theorem dX7_hidden_56 : decode cX7_hidden 56 = .ok (.isub, 1) := by decide +kernel
theorem dX7_hidden_57 : decode cX7_hidden 57 = .ok (.invokestatic 119, 3) := by decide +kernel
theorem dX7_hidden_60 : decode cX7_hidden 60 = .ok (.ifCond .ne 6, 3) := by decide +kernel
theorem dX7_hidden_63 : decode cX7_hidden 63 = .ok (.ldc 139, 2) := by decide +kernel
theorem dX7_hidden_65 : decode cX7_hidden 65 = .ok (.ireturn, 1) := by decide +kernel
theorem dX7_hidden_66 : decode cX7_hidden 66 = .ok (.aload_n 0, 1) := by decide +kernel
theorem dX7_hidden_67 : decode cX7_hidden 67 = .ok (.getfield 66, 3) := by decide +kernel
theorem dX7_hidden_70 : decode cX7_hidden 70 = .ok (.sipush 160, 3) := by decide +kernel
theorem dX7_hidden_73 : decode cX7_hidden 73 = .ok (.iload_n 1, 1) := by decide +kernel
theorem dX7_hidden_74 : decode cX7_hidden 74 = .ok (.imul, 1) := by decide +kernel
theorem dX7_hidden_75 : decode cX7_hidden 75 = .ok (.iload_n 2, 1) := by decide +kernel
theorem dX7_hidden_76 : decode cX7_hidden 76 = .ok (.iadd, 1) := by decide +kernel
theorem dX7_hidden_77 : decode cX7_hidden 77 = .ok (.iaload, 1) := by decide +kernel
theorem dX7_hidden_78 : decode cX7_hidden 78 = .ok (.istore 4, 2) := by decide +kernel
theorem dX7_hidden_80 : decode cX7_hidden 80 = .ok (.iload_n 3, 1) := by decide +kernel
theorem dX7_hidden_81 : decode cX7_hidden 81 = .ok (.ifCond .ne 12, 3) := by decide +kernel
theorem dX7_hidden_84 : decode cX7_hidden 84 = .ok (.iload 4, 2) := by decide +kernel
theorem dX7_hidden_86 : decode cX7_hidden 86 = .ok (.sipush 1000, 3) := by decide +kernel
theorem dX7_hidden_89 : decode cX7_hidden 89 = .ok (.idiv, 1) := by decide +kernel
theorem dX7_hidden_90 : decode cX7_hidden 90 = .ok (.goto 29, 3) := by decide +kernel
theorem dX7_hidden_93 : decode cX7_hidden 93 = .ok (.iload_n 3, 1) := by decide +kernel
theorem dX7_hidden_94 : decode cX7_hidden 94 = .ok (.iconst 1, 1) := by decide +kernel
theorem dX7_hidden_95 : decode cX7_hidden 95 = .ok (.if_icmp .ne 12, 3) := by decide +kernel
theorem dX7_hidden_98 : decode cX7_hidden 98 = .ok (.iload 4, 2) := by decide +kernel
theorem dX7_hidden_100 : decode cX7_hidden 100 = .ok (.sipush 1000, 3) := by decide +kernel
theorem dX7_hidden_103 : decode cX7_hidden 103 = .ok (.irem, 1) := by decide +kernel
theorem dX7_hidden_104 : decode cX7_hidden 104 = .ok (.goto 15, 3) := by decide +kernel
theorem dX7_hidden_107 : decode cX7_hidden 107 = .ok (.aload_n 0, 1) := by decide +kernel
theorem dX7_hidden_108 : decode cX7_hidden 108 = .ok (.getfield 69, 3) := by decide +kernel
theorem dX7_hidden_111 : decode cX7_hidden 111 = .ok (.sipush 160, 3) := by decide +kernel
theorem dX7_hidden_114 : decode cX7_hidden 114 = .ok (.iload_n 1, 1) := by decide +kernel
theorem dX7_hidden_115 : decode cX7_hidden 115 = .ok (.imul, 1) := by decide +kernel
theorem dX7_hidden_116 : decode cX7_hidden 116 = .ok (.iload_n 2, 1) := by decide +kernel
theorem dX7_hidden_117 : decode cX7_hidden 117 = .ok (.iadd, 1) := by decide +kernel
theorem dX7_hidden_118 : decode cX7_hidden 118 = .ok (.iaload, 1) := by decide +kernel
theorem dX7_hidden_119 : decode cX7_hidden 119 = .ok (.ireturn, 1) := by decide +kernel
theorem q136_0 : pm_V d 136 0 [.ref xn, l1, l2, l3, l4] st S Q = pm_V d 136 1 [.ref xn, l1, l2, l3, l4] (.ref xn :: st) S Q := pv_aload_n (pm_cdi rfl dX7_hidden_0) rfl
theorem q136_1 : pm_V d 136 1 [l0, .int xi, l2, l3, l4] st S Q = pm_V d 136 2 [l0, .int xi, l2, l3, l4] (.int xi :: st) S Q := pv_iload_n (pm_cdi rfl dX7_hidden_1) rfl
theorem q136_2 (hs : pm_sh S an = .inr 7) : pm_V (d + 1) 136 2 [l0, l1, l2, l3, l4] [.int v0i, .ref an] S Q = pm_N d 88 [.ref an, .int v0i] S (fun r S' => pm_V (d + 1) 136 5 [l0, l1, l2, l3, l4] (r.toList ++ []) S' Q) := pv_callV (as := [.int v0i]) (pm_cdi rfl dX7_hidden_2) (Or.inl (by decide +kernel)) (by decide +kernel) (show _ = _ from (by decide +kernel : 1 = pm_np 88)) rfl (Nat.le_of_ble_eq_true rfl) (cl := 7) (by decide +kernel) hs
theorem q136_5 : pm_V d 136 5 [l0, l1, l2, l3, l4] (.int xi :: st) S Q = if xi = 0 then pm_V d 136 27 [l0, l1, l2, l3, l4] st S Q else pm_V d 136 8 [l0, l1, l2, l3, l4] st S Q := pv_if_eq (pm_cdi rfl dX7_hidden_5) rfl
theorem q136_8 : pm_V d 136 8 [.ref xn, l1, l2, l3, l4] st S Q = pm_V d 136 9 [.ref xn, l1, l2, l3, l4] (.ref xn :: st) S Q := pv_aload_n (pm_cdi rfl dX7_hidden_8) rfl
theorem q136_9 (hs : pm_sh S an = .inr 7) : pm_V d 136 9 [l0, l1, l2, l3, l4] (.ref an :: st) S Q = pm_V d 136 12 [l0, l1, l2, l3, l4] (va_rf (pm_gr S an 1) :: st) S Q := pv_getA (pm_cdi rfl dX7_hidden_9) (by decide +kernel) (by decide +kernel) (by decide +kernel) hs
theorem q136_12 : pm_V d 136 12 [l0, .int xi, l2, l3, l4] st S Q = pm_V d 136 13 [l0, .int xi, l2, l3, l4] (.int xi :: st) S Q := pv_iload_n (pm_cdi rfl dX7_hidden_12) rfl
theorem q136_13 (hs : pm_ar S an 0 xi = true) : pm_V d 136 13 [l0, l1, l2, l3, l4] (.int xi :: .ref an :: st) S Q = pm_V d 136 14 [l0, l1, l2, l3, l4] (.int (pm_zi S an xi.toNatClampNeg) :: st) S Q := pv_iald (pm_cdi rfl dX7_hidden_13) hs
theorem q136_14 : pm_V d 136 14 [l0, l1, l2, l3, l4] st S Q = pm_V d 136 15 [l0, l1, l2, l3, l4] (.int 1 :: st) S Q := pv_iconst (pm_cdi rfl dX7_hidden_14) (by decide +kernel)
theorem q136_15 : pm_V d 136 15 [l0, l1, l2, l3, l4] (.int yi :: .int xi :: st) S Q = if xi = yi then pm_V d 136 18 [l0, l1, l2, l3, l4] st S Q else pm_V d 136 27 [l0, l1, l2, l3, l4] st S Q := pv_icmp_ne (pm_cdi rfl dX7_hidden_15) rfl
theorem q136_18 : pm_V d 136 18 [l0, l1, l2, .int xi, l4] st S Q = pm_V d 136 19 [l0, l1, l2, .int xi, l4] (.int xi :: st) S Q := pv_iload_n (pm_cdi rfl dX7_hidden_18) rfl
theorem q136_19 : pm_V d 136 19 [l0, l1, l2, l3, l4] st S Q = pm_V d 136 20 [l0, l1, l2, l3, l4] (.int 0 :: st) S Q := pv_iconst (pm_cdi rfl dX7_hidden_19) (by decide +kernel)
theorem q136_20 : pm_V d 136 20 [l0, l1, l2, l3, l4] st S Q = pm_V d 136 21 [l0, l1, l2, l3, l4] (.int 2 :: st) S Q := pv_iconst (pm_cdi rfl dX7_hidden_20) (by decide +kernel)
theorem q136_21 : pm_V (d + 1) 136 21 [l0, l1, l2, l3, l4] [.int v2i, .int v1i, .int v0i] S Q = pm_N d 87 [.int v0i, .int v1i, .int v2i] S (fun r S' => pm_V (d + 1) 136 24 [l0, l1, l2, l3, l4] (r.toList ++ []) S' Q) := pv_callS (as := [.int v0i, .int v1i, .int v2i]) (pm_cdi rfl dX7_hidden_21) (by decide +kernel) (by decide +kernel) (show _ = _ from (by decide +kernel : 3 = pm_np 87)) rfl (Nat.le_of_ble_eq_true rfl)
theorem q136_24 : pm_V d 136 24 [l0, l1, l2, l3, l4] (.int xi :: st) S Q = if xi = 0 then pm_V d 136 27 [l0, l1, l2, l3, l4] st S Q else pm_V d 136 30 [l0, l1, l2, l3, l4] st S Q := pv_if_ne (pm_cdi rfl dX7_hidden_24) rfl
theorem q136_27 : pm_V d 136 27 [l0, l1, l2, l3, l4] st S Q = pm_V d 136 29 [l0, l1, l2, l3, l4] (.int (-1000001) :: st) S Q := pv_ldc (pm_cdi rfl dX7_hidden_27) (by decide +kernel)
theorem q136_29 : pm_V d 136 29 [l0, l1, l2, l3, l4] [.int xi] S Q = Q (some (.int xi)) S := pv_rI (pm_cdi rfl dX7_hidden_29) (by decide +kernel)
theorem q136_30 : pm_V d 136 30 [.ref xn, l1, l2, l3, l4] st S Q = pm_V d 136 31 [.ref xn, l1, l2, l3, l4] (.ref xn :: st) S Q := pv_aload_n (pm_cdi rfl dX7_hidden_30) rfl
theorem q136_31 (hs : pm_sh S an = .inr 7) : pm_V (d + 1) 136 31 [l0, l1, l2, l3, l4] [.ref an] S Q = pm_N d 99 [.ref an] S (fun r S' => pm_V (d + 1) 136 34 [l0, l1, l2, l3, l4] (r.toList ++ []) S' Q) := pv_callV (as := []) (pm_cdi rfl dX7_hidden_31) (Or.inl (by decide +kernel)) (by decide +kernel) (show _ = _ from (by decide +kernel : 0 = pm_np 99)) rfl (Nat.le_of_ble_eq_true rfl) (cl := 7) (by decide +kernel) hs
theorem q136_34 : pm_V d 136 34 [.ref xn, l1, l2, l3, l4] st S Q = pm_V d 136 35 [.ref xn, l1, l2, l3, l4] (.ref xn :: st) S Q := pv_aload_n (pm_cdi rfl dX7_hidden_34) rfl
theorem q136_35 (hs : pm_sh S an = .inr 7) : pm_V d 136 35 [l0, l1, l2, l3, l4] (.ref an :: st) S Q = pm_V d 136 38 [l0, l1, l2, l3, l4] (va_rf (pm_gr S an 7) :: st) S Q := pv_getA (pm_cdi rfl dX7_hidden_35) (by decide +kernel) (by decide +kernel) (by decide +kernel) hs
theorem q136_38 : pm_V d 136 38 [l0, .int xi, l2, l3, l4] st S Q = pm_V d 136 39 [l0, .int xi, l2, l3, l4] (.int xi :: st) S Q := pv_iload_n (pm_cdi rfl dX7_hidden_38) rfl
theorem q136_39 (hs : pm_ar S an 0 xi = true) : pm_V d 136 39 [l0, l1, l2, l3, l4] (.int xi :: .ref an :: st) S Q = pm_V d 136 40 [l0, l1, l2, l3, l4] (.int (pm_zi S an xi.toNatClampNeg) :: st) S Q := pv_iald (pm_cdi rfl dX7_hidden_39) hs
theorem q136_40 : pm_V d 136 40 [l0, l1, l2, l3, l4] (.int xi :: st) S Q = if xi = 0 then pm_V d 136 47 [l0, l1, l2, l3, l4] st S Q else pm_V d 136 43 [l0, l1, l2, l3, l4] st S Q := pv_if_eq (pm_cdi rfl dX7_hidden_40) rfl
theorem q136_43 : pm_V d 136 43 [l0, l1, l2, l3, l4] st S Q = pm_V d 136 46 [l0, l1, l2, l3, l4] (.int (-1000003) :: st) S Q := pv_ldcw (pm_cdi rfl dX7_hidden_43) (by decide +kernel)
theorem q136_46 : pm_V d 136 46 [l0, l1, l2, l3, l4] [.int xi] S Q = Q (some (.int xi)) S := pv_rI (pm_cdi rfl dX7_hidden_46) (by decide +kernel)
theorem q136_47 : pm_V d 136 47 [l0, l1, .int xi, l3, l4] st S Q = pm_V d 136 48 [l0, l1, .int xi, l3, l4] (.int xi :: st) S Q := pv_iload_n (pm_cdi rfl dX7_hidden_47) rfl
theorem q136_48 : pm_V d 136 48 [l0, l1, l2, l3, l4] st S Q = pm_V d 136 49 [l0, l1, l2, l3, l4] (.int 0 :: st) S Q := pv_iconst (pm_cdi rfl dX7_hidden_48) (by decide +kernel)
theorem q136_49 : pm_V d 136 49 [.ref xn, l1, l2, l3, l4] st S Q = pm_V d 136 50 [.ref xn, l1, l2, l3, l4] (.ref xn :: st) S Q := pv_aload_n (pm_cdi rfl dX7_hidden_49) rfl
theorem q136_50 (hs : pm_sh S an = .inr 7) : pm_V d 136 50 [l0, l1, l2, l3, l4] (.ref an :: st) S Q = pm_V d 136 53 [l0, l1, l2, l3, l4] (va_rf (pm_gr S an 18) :: st) S Q := pv_getA (pm_cdi rfl dX7_hidden_50) (by decide +kernel) (by decide +kernel) (by decide +kernel) hs
theorem q136_53 : pm_V d 136 53 [l0, .int xi, l2, l3, l4] st S Q = pm_V d 136 54 [l0, .int xi, l2, l3, l4] (.int xi :: st) S Q := pv_iload_n (pm_cdi rfl dX7_hidden_53) rfl
theorem q136_54 (hs : pm_ar S an 0 xi = true) : pm_V d 136 54 [l0, l1, l2, l3, l4] (.int xi :: .ref an :: st) S Q = pm_V d 136 55 [l0, l1, l2, l3, l4] (.int (pm_zi S an xi.toNatClampNeg) :: st) S Q := pv_iald (pm_cdi rfl dX7_hidden_54) hs
theorem q136_55 : pm_V d 136 55 [l0, l1, l2, l3, l4] st S Q = pm_V d 136 56 [l0, l1, l2, l3, l4] (.int 1 :: st) S Q := pv_iconst (pm_cdi rfl dX7_hidden_55) (by decide +kernel)
theorem q136_56 : pm_V d 136 56 [l0, l1, l2, l3, l4] (.int yi :: .int xi :: st) S Q = pm_V d 136 57 [l0, l1, l2, l3, l4] (.int (xi - yi) :: st) S Q := pv_isub (pm_cdi rfl dX7_hidden_56)
theorem q136_57 : pm_V (d + 1) 136 57 [l0, l1, l2, l3, l4] [.int v2i, .int v1i, .int v0i] S Q = pm_N d 87 [.int v0i, .int v1i, .int v2i] S (fun r S' => pm_V (d + 1) 136 60 [l0, l1, l2, l3, l4] (r.toList ++ []) S' Q) := pv_callS (as := [.int v0i, .int v1i, .int v2i]) (pm_cdi rfl dX7_hidden_57) (by decide +kernel) (by decide +kernel) (show _ = _ from (by decide +kernel : 3 = pm_np 87)) rfl (Nat.le_of_ble_eq_true rfl)
theorem q136_60 : pm_V d 136 60 [l0, l1, l2, l3, l4] (.int xi :: st) S Q = if xi = 0 then pm_V d 136 63 [l0, l1, l2, l3, l4] st S Q else pm_V d 136 66 [l0, l1, l2, l3, l4] st S Q := pv_if_ne (pm_cdi rfl dX7_hidden_60) rfl
theorem q136_63 : pm_V d 136 63 [l0, l1, l2, l3, l4] st S Q = pm_V d 136 65 [l0, l1, l2, l3, l4] (.int (-1000004) :: st) S Q := pv_ldc (pm_cdi rfl dX7_hidden_63) (by decide +kernel)
theorem q136_65 : pm_V d 136 65 [l0, l1, l2, l3, l4] [.int xi] S Q = Q (some (.int xi)) S := pv_rI (pm_cdi rfl dX7_hidden_65) (by decide +kernel)
theorem q136_66 : pm_V d 136 66 [.ref xn, l1, l2, l3, l4] st S Q = pm_V d 136 67 [.ref xn, l1, l2, l3, l4] (.ref xn :: st) S Q := pv_aload_n (pm_cdi rfl dX7_hidden_66) rfl
theorem q136_67 (hs : pm_sh S an = .inr 7) : pm_V d 136 67 [l0, l1, l2, l3, l4] (.ref an :: st) S Q = pm_V d 136 70 [l0, l1, l2, l3, l4] (va_rf (pm_gr S an 19) :: st) S Q := pv_getA (pm_cdi rfl dX7_hidden_67) (by decide +kernel) (by decide +kernel) (by decide +kernel) hs
theorem q136_70 : pm_V d 136 70 [l0, l1, l2, l3, l4] st S Q = pm_V d 136 73 [l0, l1, l2, l3, l4] (.int 160 :: st) S Q := pv_sipush (pm_cdi rfl dX7_hidden_70) (by decide +kernel)
theorem q136_73 : pm_V d 136 73 [l0, .int xi, l2, l3, l4] st S Q = pm_V d 136 74 [l0, .int xi, l2, l3, l4] (.int xi :: st) S Q := pv_iload_n (pm_cdi rfl dX7_hidden_73) rfl
theorem q136_74 : pm_V d 136 74 [l0, l1, l2, l3, l4] (.int yi :: .int xi :: st) S Q = pm_V d 136 75 [l0, l1, l2, l3, l4] (.int (xi * yi) :: st) S Q := pv_imul (pm_cdi rfl dX7_hidden_74)
theorem q136_75 : pm_V d 136 75 [l0, l1, .int xi, l3, l4] st S Q = pm_V d 136 76 [l0, l1, .int xi, l3, l4] (.int xi :: st) S Q := pv_iload_n (pm_cdi rfl dX7_hidden_75) rfl
theorem q136_76 : pm_V d 136 76 [l0, l1, l2, l3, l4] (.int yi :: .int xi :: st) S Q = pm_V d 136 77 [l0, l1, l2, l3, l4] (.int (xi + yi) :: st) S Q := pv_iadd (pm_cdi rfl dX7_hidden_76)
theorem q136_77 (hs : pm_ar S an 0 xi = true) : pm_V d 136 77 [l0, l1, l2, l3, l4] (.int xi :: .ref an :: st) S Q = pm_V d 136 78 [l0, l1, l2, l3, l4] (.int (pm_zi S an xi.toNatClampNeg) :: st) S Q := pv_iald (pm_cdi rfl dX7_hidden_77) hs
theorem q136_78 : pm_V d 136 78 [l0, l1, l2, .int yi, l4] (.int xi :: st) S Q = pm_V d 136 80 [l0, l1, l2, .int yi, .int xi] st S Q := pv_istore (pm_cdi rfl dX7_hidden_78) rfl
theorem q136_80 : pm_V d 136 80 [l0, l1, l2, .int xi, l4] st S Q = pm_V d 136 81 [l0, l1, l2, .int xi, l4] (.int xi :: st) S Q := pv_iload_n (pm_cdi rfl dX7_hidden_80) rfl
theorem q136_81 : pm_V d 136 81 [l0, l1, l2, l3, l4] (.int xi :: st) S Q = if xi = 0 then pm_V d 136 84 [l0, l1, l2, l3, l4] st S Q else pm_V d 136 93 [l0, l1, l2, l3, l4] st S Q := pv_if_ne (pm_cdi rfl dX7_hidden_81) rfl
theorem q136_84 : pm_V d 136 84 [l0, l1, l2, l3, .int xi] st S Q = pm_V d 136 86 [l0, l1, l2, l3, .int xi] (.int xi :: st) S Q := pv_iload (pm_cdi rfl dX7_hidden_84) rfl
theorem q136_86 : pm_V d 136 86 [l0, l1, l2, l3, l4] st S Q = pm_V d 136 89 [l0, l1, l2, l3, l4] (.int 1000 :: st) S Q := pv_sipush (pm_cdi rfl dX7_hidden_86) (by decide +kernel)
theorem q136_89 (h0 : ¬ yi = 0) : pm_V d 136 89 [l0, l1, l2, l3, l4] (.int yi :: .int xi :: st) S Q = pm_V d 136 90 [l0, l1, l2, l3, l4] (.int (xi / yi) :: st) S Q := pv_idiv (pm_cdi rfl dX7_hidden_89) h0
theorem q136_90 : pm_V d 136 90 [l0, l1, l2, l3, l4] st S Q = pm_V d 136 119 [l0, l1, l2, l3, l4] st S Q := pv_goto (pm_cdi rfl dX7_hidden_90) rfl
theorem q136_93 : pm_V d 136 93 [l0, l1, l2, .int xi, l4] st S Q = pm_V d 136 94 [l0, l1, l2, .int xi, l4] (.int xi :: st) S Q := pv_iload_n (pm_cdi rfl dX7_hidden_93) rfl
theorem q136_94 : pm_V d 136 94 [l0, l1, l2, l3, l4] st S Q = pm_V d 136 95 [l0, l1, l2, l3, l4] (.int 1 :: st) S Q := pv_iconst (pm_cdi rfl dX7_hidden_94) (by decide +kernel)
theorem q136_95 : pm_V d 136 95 [l0, l1, l2, l3, l4] (.int yi :: .int xi :: st) S Q = if xi = yi then pm_V d 136 98 [l0, l1, l2, l3, l4] st S Q else pm_V d 136 107 [l0, l1, l2, l3, l4] st S Q := pv_icmp_ne (pm_cdi rfl dX7_hidden_95) rfl
theorem q136_98 : pm_V d 136 98 [l0, l1, l2, l3, .int xi] st S Q = pm_V d 136 100 [l0, l1, l2, l3, .int xi] (.int xi :: st) S Q := pv_iload (pm_cdi rfl dX7_hidden_98) rfl
theorem q136_100 : pm_V d 136 100 [l0, l1, l2, l3, l4] st S Q = pm_V d 136 103 [l0, l1, l2, l3, l4] (.int 1000 :: st) S Q := pv_sipush (pm_cdi rfl dX7_hidden_100) (by decide +kernel)
theorem q136_103 (h0 : ¬ yi = 0) : pm_V d 136 103 [l0, l1, l2, l3, l4] (.int yi :: .int xi :: st) S Q = pm_V d 136 104 [l0, l1, l2, l3, l4] (.int (xi - xi / yi * yi) :: st) S Q := pv_irem (pm_cdi rfl dX7_hidden_103) h0
theorem q136_104 : pm_V d 136 104 [l0, l1, l2, l3, l4] st S Q = pm_V d 136 119 [l0, l1, l2, l3, l4] st S Q := pv_goto (pm_cdi rfl dX7_hidden_104) rfl
theorem q136_107 : pm_V d 136 107 [.ref xn, l1, l2, l3, l4] st S Q = pm_V d 136 108 [.ref xn, l1, l2, l3, l4] (.ref xn :: st) S Q := pv_aload_n (pm_cdi rfl dX7_hidden_107) rfl
theorem q136_108 (hs : pm_sh S an = .inr 7) : pm_V d 136 108 [l0, l1, l2, l3, l4] (.ref an :: st) S Q = pm_V d 136 111 [l0, l1, l2, l3, l4] (va_rf (pm_gr S an 20) :: st) S Q := pv_getA (pm_cdi rfl dX7_hidden_108) (by decide +kernel) (by decide +kernel) (by decide +kernel) hs
theorem q136_111 : pm_V d 136 111 [l0, l1, l2, l3, l4] st S Q = pm_V d 136 114 [l0, l1, l2, l3, l4] (.int 160 :: st) S Q := pv_sipush (pm_cdi rfl dX7_hidden_111) (by decide +kernel)
theorem q136_114 : pm_V d 136 114 [l0, .int xi, l2, l3, l4] st S Q = pm_V d 136 115 [l0, .int xi, l2, l3, l4] (.int xi :: st) S Q := pv_iload_n (pm_cdi rfl dX7_hidden_114) rfl
theorem q136_115 : pm_V d 136 115 [l0, l1, l2, l3, l4] (.int yi :: .int xi :: st) S Q = pm_V d 136 116 [l0, l1, l2, l3, l4] (.int (xi * yi) :: st) S Q := pv_imul (pm_cdi rfl dX7_hidden_115)
theorem q136_116 : pm_V d 136 116 [l0, l1, .int xi, l3, l4] st S Q = pm_V d 136 117 [l0, l1, .int xi, l3, l4] (.int xi :: st) S Q := pv_iload_n (pm_cdi rfl dX7_hidden_116) rfl
theorem q136_117 : pm_V d 136 117 [l0, l1, l2, l3, l4] (.int yi :: .int xi :: st) S Q = pm_V d 136 118 [l0, l1, l2, l3, l4] (.int (xi + yi) :: st) S Q := pv_iadd (pm_cdi rfl dX7_hidden_117)
theorem q136_118 (hs : pm_ar S an 0 xi = true) : pm_V d 136 118 [l0, l1, l2, l3, l4] (.int xi :: .ref an :: st) S Q = pm_V d 136 119 [l0, l1, l2, l3, l4] (.int (pm_zi S an xi.toNatClampNeg) :: st) S Q := pv_iald (pm_cdi rfl dX7_hidden_118) hs
theorem q136_119 : pm_V d 136 119 [l0, l1, l2, l3, l4] [.int xi] S Q = Q (some (.int xi)) S := pv_rI (pm_cdi rfl dX7_hidden_119) (by decide +kernel)
theorem q136_e : pm_N d 136 [.ref an, .int v0i, .int v1i, .int v2i] S Q = pm_V d 136 0 [.ref an, .int v0i, .int v1i, .int v2i, pm_j] [] S Q := pv_ent (Nat.le_of_ble_eq_true rfl) rfl
/-! 137: ViewsJoinsModel.same(II)I -/
theorem dX7_same_0 : decode cX7_same 0 = .ok (.aload_n 0, 1) := by decide +kernel
theorem dX7_same_1 : decode cX7_same 1 = .ok (.iload_n 1, 1) := by decide +kernel
theorem dX7_same_2 : decode cX7_same 2 = .ok (.invokevirtual 123, 3) := by decide +kernel
theorem dX7_same_5 : decode cX7_same 5 = .ok (.ifCond .eq 11, 3) := by decide +kernel
theorem dX7_same_8 : decode cX7_same 8 = .ok (.aload_n 0, 1) := by decide +kernel
theorem dX7_same_9 : decode cX7_same 9 = .ok (.iload_n 2, 1) := by decide +kernel
theorem dX7_same_10 : decode cX7_same 10 = .ok (.invokevirtual 123, 3) := by decide +kernel
theorem dX7_same_13 : decode cX7_same 13 = .ok (.ifCond .ne 6, 3) := by decide +kernel
theorem dX7_same_16 : decode cX7_same 16 = .ok (.ldc 130, 2) := by decide +kernel
theorem dX7_same_18 : decode cX7_same 18 = .ok (.ireturn, 1) := by decide +kernel
theorem dX7_same_19 : decode cX7_same 19 = .ok (.aload_n 0, 1) := by decide +kernel
theorem dX7_same_20 : decode cX7_same 20 = .ok (.invokevirtual 264, 3) := by decide +kernel
theorem dX7_same_23 : decode cX7_same 23 = .ok (.aload_n 0, 1) := by decide +kernel
theorem dX7_same_24 : decode cX7_same 24 = .ok (.getfield 29, 3) := by decide +kernel
theorem dX7_same_27 : decode cX7_same 27 = .ok (.iload_n 1, 1) := by decide +kernel
theorem dX7_same_28 : decode cX7_same 28 = .ok (.iaload, 1) := by decide +kernel
theorem dX7_same_29 : decode cX7_same 29 = .ok (.ifCond .ne 12, 3) := by decide +kernel
theorem dX7_same_32 : decode cX7_same 32 = .ok (.aload_n 0, 1) := by decide +kernel
theorem dX7_same_33 : decode cX7_same 33 = .ok (.getfield 29, 3) := by decide +kernel
theorem dX7_same_36 : decode cX7_same 36 = .ok (.iload_n 2, 1) := by decide +kernel
theorem dX7_same_37 : decode cX7_same 37 = .ok (.iaload, 1) := by decide +kernel
theorem dX7_same_38 : decode cX7_same 38 = .ok (.ifCond .eq 7, 3) := by decide +kernel
theorem dX7_same_41 : decode cX7_same 41 = .ok (.ldc_w 267, 3) := by decide +kernel
theorem dX7_same_44 : decode cX7_same 44 = .ok (.ireturn, 1) := by decide +kernel
theorem dX7_same_45 : decode cX7_same 45 = .ok (.aload_n 0, 1) := by decide +kernel
theorem dX7_same_46 : decode cX7_same 46 = .ok (.getfield 32, 3) := by decide +kernel
theorem dX7_same_49 : decode cX7_same 49 = .ok (.iload_n 1, 1) := by decide +kernel
theorem dX7_same_50 : decode cX7_same 50 = .ok (.iaload, 1) := by decide +kernel
theorem dX7_same_51 : decode cX7_same 51 = .ok (.aload_n 0, 1) := by decide +kernel
theorem dX7_same_52 : decode cX7_same 52 = .ok (.getfield 32, 3) := by decide +kernel
theorem dX7_same_55 : decode cX7_same 55 = .ok (.iload_n 2, 1) := by decide +kernel
theorem dX7_same_56 : decode cX7_same 56 = .ok (.iaload, 1) := by decide +kernel
theorem dX7_same_57 : decode cX7_same 57 = .ok (.if_icmp .ne 22, 3) := by decide +kernel
theorem dX7_same_60 : decode cX7_same 60 = .ok (.aload_n 0, 1) := by decide +kernel
theorem dX7_same_61 : decode cX7_same 61 = .ok (.getfield 35, 3) := by decide +kernel
theorem dX7_same_64 : decode cX7_same 64 = .ok (.iload_n 1, 1) := by decide +kernel
theorem dX7_same_65 : decode cX7_same 65 = .ok (.iaload, 1) := by decide +kernel
theorem dX7_same_66 : decode cX7_same 66 = .ok (.aload_n 0, 1) := by decide +kernel
theorem dX7_same_67 : decode cX7_same 67 = .ok (.getfield 35, 3) := by decide +kernel
theorem dX7_same_70 : decode cX7_same 70 = .ok (.iload_n 2, 1) := by decide +kernel
theorem dX7_same_71 : decode cX7_same 71 = .ok (.iaload, 1) := by decide +kernel
theorem dX7_same_72 : decode cX7_same 72 = .ok (.if_icmp .ne 7, 3) := by decide +kernel
theorem dX7_same_75 : decode cX7_same 75 = .ok (.iconst 1, 1) := by decide +kernel
theorem dX7_same_76 : decode cX7_same 76 = .ok (.goto 4, 3) := by decide +kernel
theorem dX7_same_79 : decode cX7_same 79 = .ok (.iconst 0, 1) := by decide +kernel
theorem dX7_same_80 : decode cX7_same 80 = .ok (.istore_n 3, 1) := by decide +kernel
theorem dX7_same_81 : decode cX7_same 81 = .ok (.iconst 0, 1) := by decide +kernel
theorem dX7_same_82 : decode cX7_same 82 = .ok (.istore 4, 2) := by decide +kernel
theorem dX7_same_84 : decode cX7_same 84 = .ok (.iload 4, 2) := by decide +kernel
theorem dX7_same_86 : decode cX7_same 86 = .ok (.aload_n 0, 1) := by decide +kernel
theorem dX7_same_87 : decode cX7_same 87 = .ok (.getfield 32, 3) := by decide +kernel
theorem dX7_same_90 : decode cX7_same 90 = .ok (.iload_n 1, 1) := by decide +kernel
theorem dX7_same_91 : decode cX7_same 91 = .ok (.iaload, 1) := by decide +kernel
theorem dX7_same_92 : decode cX7_same 92 = .ok (.if_icmp .ge 37, 3) := by decide +kernel
theorem dX7_same_95 : decode cX7_same 95 = .ok (.iload_n 3, 1) := by decide +kernel
theorem dX7_same_96 : decode cX7_same 96 = .ok (.ifCond .eq 33, 3) := by decide +kernel
theorem dX7_same_99 : decode cX7_same 99 = .ok (.aload_n 0, 1) := by decide +kernel
theorem dX7_same_100 : decode cX7_same 100 = .ok (.iload_n 1, 1) := by decide +kernel
theorem dX7_same_101 : decode cX7_same 101 = .ok (.iload 4, 2) := by decide +kernel
theorem dX7_same_103 : decode cX7_same 103 = .ok (.invokevirtual 201, 3) := by decide +kernel
theorem dX7_same_106 : decode cX7_same 106 = .ok (.aload_n 0, 1) := by decide +kernel
theorem dX7_same_107 : decode cX7_same 107 = .ok (.iload_n 2, 1) := by decide +kernel
theorem dX7_same_108 : decode cX7_same 108 = .ok (.iload 4, 2) := by decide +kernel
theorem dX7_same_110 : decode cX7_same 110 = .ok (.invokevirtual 201, 3) := by decide +kernel
theorem dX7_same_113 : decode cX7_same 113 = .ok (.lcmp, 1) := by decide +kernel
theorem dX7_same_114 : decode cX7_same 114 = .ok (.ifCond .ne 7, 3) := by decide +kernel
theorem dX7_same_117 : decode cX7_same 117 = .ok (.iconst 1, 1) := by decide +kernel
theorem dX7_same_118 : decode cX7_same 118 = .ok (.goto 4, 3) := by decide +kernel
theorem dX7_same_121 : decode cX7_same 121 = .ok (.iconst 0, 1) := by decide +kernel
theorem dX7_same_122 : decode cX7_same 122 = .ok (.istore_n 3, 1) := by decide +kernel
theorem dX7_same_123 : decode cX7_same 123 = .ok (.iinc 4 1, 3) := by decide +kernel
theorem dX7_same_126 : decode cX7_same 126 = .ok (.goto (-42), 3) := by decide +kernel
theorem dX7_same_129 : decode cX7_same 129 = .ok (.iconst 0, 1) := by decide +kernel
theorem dX7_same_130 : decode cX7_same 130 = .ok (.istore 4, 2) := by decide +kernel
theorem dX7_same_132 : decode cX7_same 132 = .ok (.iload 4, 2) := by decide +kernel
theorem dX7_same_134 : decode cX7_same 134 = .ok (.aload_n 0, 1) := by decide +kernel
theorem dX7_same_135 : decode cX7_same 135 = .ok (.getfield 35, 3) := by decide +kernel
theorem dX7_same_138 : decode cX7_same 138 = .ok (.iload_n 1, 1) := by decide +kernel
theorem dX7_same_139 : decode cX7_same 139 = .ok (.iaload, 1) := by decide +kernel
theorem dX7_same_140 : decode cX7_same 140 = .ok (.if_icmp .ge 71, 3) := by decide +kernel
theorem dX7_same_143 : decode cX7_same 143 = .ok (.iload_n 3, 1) := by decide +kernel
theorem dX7_same_144 : decode cX7_same 144 = .ok (.ifCond .eq 67, 3) := by decide +kernel
theorem dX7_same_147 : decode cX7_same 147 = .ok (.aload_n 0, 1) := by decide +kernel
theorem dX7_same_148 : decode cX7_same 148 = .ok (.iload_n 1, 1) := by decide +kernel
theorem dX7_same_149 : decode cX7_same 149 = .ok (.iload 4, 2) := by decide +kernel
theorem dX7_same_151 : decode cX7_same 151 = .ok (.invokevirtual 181, 3) := by decide +kernel
theorem dX7_same_154 : decode cX7_same 154 = .ok (.aload_n 0, 1) := by decide +kernel
theorem dX7_same_155 : decode cX7_same 155 = .ok (.iload_n 2, 1) := by decide +kernel
theorem dX7_same_156 : decode cX7_same 156 = .ok (.iload 4, 2) := by decide +kernel
theorem dX7_same_158 : decode cX7_same 158 = .ok (.invokevirtual 181, 3) := by decide +kernel
theorem dX7_same_161 : decode cX7_same 161 = .ok (.if_icmp .ne 42, 3) := by decide +kernel
theorem dX7_same_164 : decode cX7_same 164 = .ok (.aload_n 0, 1) := by decide +kernel
theorem dX7_same_165 : decode cX7_same 165 = .ok (.iload_n 1, 1) := by decide +kernel
theorem dX7_same_166 : decode cX7_same 166 = .ok (.iload 4, 2) := by decide +kernel
theorem dX7_same_168 : decode cX7_same 168 = .ok (.invokevirtual 185, 3) := by decide +kernel
theorem dX7_same_171 : decode cX7_same 171 = .ok (.aload_n 0, 1) := by decide +kernel
theorem dX7_same_172 : decode cX7_same 172 = .ok (.iload_n 2, 1) := by decide +kernel
theorem dX7_same_173 : decode cX7_same 173 = .ok (.iload 4, 2) := by decide +kernel
theorem dX7_same_175 : decode cX7_same 175 = .ok (.invokevirtual 185, 3) := by decide +kernel
theorem dX7_same_178 : decode cX7_same 178 = .ok (.if_icmp .ne 25, 3) := by decide +kernel
theorem dX7_same_181 : decode cX7_same 181 = .ok (.aload_n 0, 1) := by decide +kernel
theorem dX7_same_182 : decode cX7_same 182 = .ok (.iload_n 1, 1) := by decide +kernel
theorem dX7_same_183 : decode cX7_same 183 = .ok (.iload 4, 2) := by decide +kernel
theorem dX7_same_185 : decode cX7_same 185 = .ok (.invokevirtual 209, 3) := by decide +kernel
theorem dX7_same_188 : decode cX7_same 188 = .ok (.aload_n 0, 1) := by decide +kernel
theorem dX7_same_189 : decode cX7_same 189 = .ok (.iload_n 2, 1) := by decide +kernel
theorem dX7_same_190 : decode cX7_same 190 = .ok (.iload 4, 2) := by decide +kernel
theorem dX7_same_192 : decode cX7_same 192 = .ok (.invokevirtual 209, 3) := by decide +kernel
theorem dX7_same_195 : decode cX7_same 195 = .ok (.lcmp, 1) := by decide +kernel
theorem dX7_same_196 : decode cX7_same 196 = .ok (.ifCond .ne 7, 3) := by decide +kernel
theorem dX7_same_199 : decode cX7_same 199 = .ok (.iconst 1, 1) := by decide +kernel
theorem dX7_same_200 : decode cX7_same 200 = .ok (.goto 4, 3) := by decide +kernel
theorem dX7_same_203 : decode cX7_same 203 = .ok (.iconst 0, 1) := by decide +kernel
theorem dX7_same_204 : decode cX7_same 204 = .ok (.istore_n 3, 1) := by decide +kernel
theorem dX7_same_205 : decode cX7_same 205 = .ok (.iinc 4 1, 3) := by decide +kernel
theorem dX7_same_208 : decode cX7_same 208 = .ok (.goto (-76), 3) := by decide +kernel
theorem dX7_same_211 : decode cX7_same 211 = .ok (.iload_n 3, 1) := by decide +kernel
theorem dX7_same_212 : decode cX7_same 212 = .ok (.ifCond .eq 7, 3) := by decide +kernel
theorem dX7_same_215 : decode cX7_same 215 = .ok (.iconst 1, 1) := by decide +kernel
theorem dX7_same_216 : decode cX7_same 216 = .ok (.goto 4, 3) := by decide +kernel
theorem dX7_same_219 : decode cX7_same 219 = .ok (.iconst 0, 1) := by decide +kernel
theorem dX7_same_220 : decode cX7_same 220 = .ok (.ireturn, 1) := by decide +kernel
theorem q137_0 : pm_V d 137 0 [.ref xn, l1, l2, l3, l4] st S Q = pm_V d 137 1 [.ref xn, l1, l2, l3, l4] (.ref xn :: st) S Q := pv_aload_n (pm_cdi rfl dX7_same_0) rfl
theorem q137_1 : pm_V d 137 1 [l0, .int xi, l2, l3, l4] st S Q = pm_V d 137 2 [l0, .int xi, l2, l3, l4] (.int xi :: st) S Q := pv_iload_n (pm_cdi rfl dX7_same_1) rfl
theorem q137_2 (hs : pm_sh S an = .inr 7) : pm_V (d + 1) 137 2 [l0, l1, l2, l3, l4] [.int v0i, .ref an] S Q = pm_N d 88 [.ref an, .int v0i] S (fun r S' => pm_V (d + 1) 137 5 [l0, l1, l2, l3, l4] (r.toList ++ []) S' Q) := pv_callV (as := [.int v0i]) (pm_cdi rfl dX7_same_2) (Or.inl (by decide +kernel)) (by decide +kernel) (show _ = _ from (by decide +kernel : 1 = pm_np 88)) rfl (Nat.le_of_ble_eq_true rfl) (cl := 7) (by decide +kernel) hs
theorem q137_5 : pm_V d 137 5 [l0, l1, l2, l3, l4] (.int xi :: st) S Q = if xi = 0 then pm_V d 137 16 [l0, l1, l2, l3, l4] st S Q else pm_V d 137 8 [l0, l1, l2, l3, l4] st S Q := pv_if_eq (pm_cdi rfl dX7_same_5) rfl
theorem q137_8 : pm_V d 137 8 [.ref xn, l1, l2, l3, l4] st S Q = pm_V d 137 9 [.ref xn, l1, l2, l3, l4] (.ref xn :: st) S Q := pv_aload_n (pm_cdi rfl dX7_same_8) rfl
theorem q137_9 : pm_V d 137 9 [l0, l1, .int xi, l3, l4] st S Q = pm_V d 137 10 [l0, l1, .int xi, l3, l4] (.int xi :: st) S Q := pv_iload_n (pm_cdi rfl dX7_same_9) rfl
theorem q137_10 (hs : pm_sh S an = .inr 7) : pm_V (d + 1) 137 10 [l0, l1, l2, l3, l4] [.int v0i, .ref an] S Q = pm_N d 88 [.ref an, .int v0i] S (fun r S' => pm_V (d + 1) 137 13 [l0, l1, l2, l3, l4] (r.toList ++ []) S' Q) := pv_callV (as := [.int v0i]) (pm_cdi rfl dX7_same_10) (Or.inl (by decide +kernel)) (by decide +kernel) (show _ = _ from (by decide +kernel : 1 = pm_np 88)) rfl (Nat.le_of_ble_eq_true rfl) (cl := 7) (by decide +kernel) hs
theorem q137_13 : pm_V d 137 13 [l0, l1, l2, l3, l4] (.int xi :: st) S Q = if xi = 0 then pm_V d 137 16 [l0, l1, l2, l3, l4] st S Q else pm_V d 137 19 [l0, l1, l2, l3, l4] st S Q := pv_if_ne (pm_cdi rfl dX7_same_13) rfl
theorem q137_16 : pm_V d 137 16 [l0, l1, l2, l3, l4] st S Q = pm_V d 137 18 [l0, l1, l2, l3, l4] (.int (-1000001) :: st) S Q := pv_ldc (pm_cdi rfl dX7_same_16) (by decide +kernel)
theorem q137_18 : pm_V d 137 18 [l0, l1, l2, l3, l4] [.int xi] S Q = Q (some (.int xi)) S := pv_rI (pm_cdi rfl dX7_same_18) (by decide +kernel)
theorem q137_19 : pm_V d 137 19 [.ref xn, l1, l2, l3, l4] st S Q = pm_V d 137 20 [.ref xn, l1, l2, l3, l4] (.ref xn :: st) S Q := pv_aload_n (pm_cdi rfl dX7_same_19) rfl
theorem q137_20 (hs : pm_sh S an = .inr 7) : pm_V (d + 1) 137 20 [l0, l1, l2, l3, l4] [.ref an] S Q = pm_N d 99 [.ref an] S (fun r S' => pm_V (d + 1) 137 23 [l0, l1, l2, l3, l4] (r.toList ++ []) S' Q) := pv_callV (as := []) (pm_cdi rfl dX7_same_20) (Or.inl (by decide +kernel)) (by decide +kernel) (show _ = _ from (by decide +kernel : 0 = pm_np 99)) rfl (Nat.le_of_ble_eq_true rfl) (cl := 7) (by decide +kernel) hs
theorem q137_23 : pm_V d 137 23 [.ref xn, l1, l2, l3, l4] st S Q = pm_V d 137 24 [.ref xn, l1, l2, l3, l4] (.ref xn :: st) S Q := pv_aload_n (pm_cdi rfl dX7_same_23) rfl
theorem q137_24 (hs : pm_sh S an = .inr 7) : pm_V d 137 24 [l0, l1, l2, l3, l4] (.ref an :: st) S Q = pm_V d 137 27 [l0, l1, l2, l3, l4] (va_rf (pm_gr S an 7) :: st) S Q := pv_getA (pm_cdi rfl dX7_same_24) (by decide +kernel) (by decide +kernel) (by decide +kernel) hs
theorem q137_27 : pm_V d 137 27 [l0, .int xi, l2, l3, l4] st S Q = pm_V d 137 28 [l0, .int xi, l2, l3, l4] (.int xi :: st) S Q := pv_iload_n (pm_cdi rfl dX7_same_27) rfl
theorem q137_28 (hs : pm_ar S an 0 xi = true) : pm_V d 137 28 [l0, l1, l2, l3, l4] (.int xi :: .ref an :: st) S Q = pm_V d 137 29 [l0, l1, l2, l3, l4] (.int (pm_zi S an xi.toNatClampNeg) :: st) S Q := pv_iald (pm_cdi rfl dX7_same_28) hs
theorem q137_29 : pm_V d 137 29 [l0, l1, l2, l3, l4] (.int xi :: st) S Q = if xi = 0 then pm_V d 137 32 [l0, l1, l2, l3, l4] st S Q else pm_V d 137 41 [l0, l1, l2, l3, l4] st S Q := pv_if_ne (pm_cdi rfl dX7_same_29) rfl
theorem q137_32 : pm_V d 137 32 [.ref xn, l1, l2, l3, l4] st S Q = pm_V d 137 33 [.ref xn, l1, l2, l3, l4] (.ref xn :: st) S Q := pv_aload_n (pm_cdi rfl dX7_same_32) rfl
theorem q137_33 (hs : pm_sh S an = .inr 7) : pm_V d 137 33 [l0, l1, l2, l3, l4] (.ref an :: st) S Q = pm_V d 137 36 [l0, l1, l2, l3, l4] (va_rf (pm_gr S an 7) :: st) S Q := pv_getA (pm_cdi rfl dX7_same_33) (by decide +kernel) (by decide +kernel) (by decide +kernel) hs
theorem q137_36 : pm_V d 137 36 [l0, l1, .int xi, l3, l4] st S Q = pm_V d 137 37 [l0, l1, .int xi, l3, l4] (.int xi :: st) S Q := pv_iload_n (pm_cdi rfl dX7_same_36) rfl
theorem q137_37 (hs : pm_ar S an 0 xi = true) : pm_V d 137 37 [l0, l1, l2, l3, l4] (.int xi :: .ref an :: st) S Q = pm_V d 137 38 [l0, l1, l2, l3, l4] (.int (pm_zi S an xi.toNatClampNeg) :: st) S Q := pv_iald (pm_cdi rfl dX7_same_37) hs
theorem q137_38 : pm_V d 137 38 [l0, l1, l2, l3, l4] (.int xi :: st) S Q = if xi = 0 then pm_V d 137 45 [l0, l1, l2, l3, l4] st S Q else pm_V d 137 41 [l0, l1, l2, l3, l4] st S Q := pv_if_eq (pm_cdi rfl dX7_same_38) rfl
theorem q137_41 : pm_V d 137 41 [l0, l1, l2, l3, l4] st S Q = pm_V d 137 44 [l0, l1, l2, l3, l4] (.int (-1000003) :: st) S Q := pv_ldcw (pm_cdi rfl dX7_same_41) (by decide +kernel)
theorem q137_44 : pm_V d 137 44 [l0, l1, l2, l3, l4] [.int xi] S Q = Q (some (.int xi)) S := pv_rI (pm_cdi rfl dX7_same_44) (by decide +kernel)
theorem q137_45 : pm_V d 137 45 [.ref xn, l1, l2, l3, l4] st S Q = pm_V d 137 46 [.ref xn, l1, l2, l3, l4] (.ref xn :: st) S Q := pv_aload_n (pm_cdi rfl dX7_same_45) rfl
theorem q137_46 (hs : pm_sh S an = .inr 7) : pm_V d 137 46 [l0, l1, l2, l3, l4] (.ref an :: st) S Q = pm_V d 137 49 [l0, l1, l2, l3, l4] (va_rf (pm_gr S an 8) :: st) S Q := pv_getA (pm_cdi rfl dX7_same_46) (by decide +kernel) (by decide +kernel) (by decide +kernel) hs
theorem q137_49 : pm_V d 137 49 [l0, .int xi, l2, l3, l4] st S Q = pm_V d 137 50 [l0, .int xi, l2, l3, l4] (.int xi :: st) S Q := pv_iload_n (pm_cdi rfl dX7_same_49) rfl
theorem q137_50 (hs : pm_ar S an 0 xi = true) : pm_V d 137 50 [l0, l1, l2, l3, l4] (.int xi :: .ref an :: st) S Q = pm_V d 137 51 [l0, l1, l2, l3, l4] (.int (pm_zi S an xi.toNatClampNeg) :: st) S Q := pv_iald (pm_cdi rfl dX7_same_50) hs
theorem q137_51 : pm_V d 137 51 [.ref xn, l1, l2, l3, l4] st S Q = pm_V d 137 52 [.ref xn, l1, l2, l3, l4] (.ref xn :: st) S Q := pv_aload_n (pm_cdi rfl dX7_same_51) rfl
theorem q137_52 (hs : pm_sh S an = .inr 7) : pm_V d 137 52 [l0, l1, l2, l3, l4] (.ref an :: st) S Q = pm_V d 137 55 [l0, l1, l2, l3, l4] (va_rf (pm_gr S an 8) :: st) S Q := pv_getA (pm_cdi rfl dX7_same_52) (by decide +kernel) (by decide +kernel) (by decide +kernel) hs
theorem q137_55 : pm_V d 137 55 [l0, l1, .int xi, l3, l4] st S Q = pm_V d 137 56 [l0, l1, .int xi, l3, l4] (.int xi :: st) S Q := pv_iload_n (pm_cdi rfl dX7_same_55) rfl
theorem q137_56 (hs : pm_ar S an 0 xi = true) : pm_V d 137 56 [l0, l1, l2, l3, l4] (.int xi :: .ref an :: st) S Q = pm_V d 137 57 [l0, l1, l2, l3, l4] (.int (pm_zi S an xi.toNatClampNeg) :: st) S Q := pv_iald (pm_cdi rfl dX7_same_56) hs
theorem q137_57 : pm_V d 137 57 [l0, l1, l2, l3, l4] (.int yi :: .int xi :: st) S Q = if xi = yi then pm_V d 137 60 [l0, l1, l2, l3, l4] st S Q else pm_V d 137 79 [l0, l1, l2, l3, l4] st S Q := pv_icmp_ne (pm_cdi rfl dX7_same_57) rfl
theorem q137_60 : pm_V d 137 60 [.ref xn, l1, l2, l3, l4] st S Q = pm_V d 137 61 [.ref xn, l1, l2, l3, l4] (.ref xn :: st) S Q := pv_aload_n (pm_cdi rfl dX7_same_60) rfl
theorem q137_61 (hs : pm_sh S an = .inr 7) : pm_V d 137 61 [l0, l1, l2, l3, l4] (.ref an :: st) S Q = pm_V d 137 64 [l0, l1, l2, l3, l4] (va_rf (pm_gr S an 9) :: st) S Q := pv_getA (pm_cdi rfl dX7_same_61) (by decide +kernel) (by decide +kernel) (by decide +kernel) hs
theorem q137_64 : pm_V d 137 64 [l0, .int xi, l2, l3, l4] st S Q = pm_V d 137 65 [l0, .int xi, l2, l3, l4] (.int xi :: st) S Q := pv_iload_n (pm_cdi rfl dX7_same_64) rfl
theorem q137_65 (hs : pm_ar S an 0 xi = true) : pm_V d 137 65 [l0, l1, l2, l3, l4] (.int xi :: .ref an :: st) S Q = pm_V d 137 66 [l0, l1, l2, l3, l4] (.int (pm_zi S an xi.toNatClampNeg) :: st) S Q := pv_iald (pm_cdi rfl dX7_same_65) hs
theorem q137_66 : pm_V d 137 66 [.ref xn, l1, l2, l3, l4] st S Q = pm_V d 137 67 [.ref xn, l1, l2, l3, l4] (.ref xn :: st) S Q := pv_aload_n (pm_cdi rfl dX7_same_66) rfl
theorem q137_67 (hs : pm_sh S an = .inr 7) : pm_V d 137 67 [l0, l1, l2, l3, l4] (.ref an :: st) S Q = pm_V d 137 70 [l0, l1, l2, l3, l4] (va_rf (pm_gr S an 9) :: st) S Q := pv_getA (pm_cdi rfl dX7_same_67) (by decide +kernel) (by decide +kernel) (by decide +kernel) hs
theorem q137_70 : pm_V d 137 70 [l0, l1, .int xi, l3, l4] st S Q = pm_V d 137 71 [l0, l1, .int xi, l3, l4] (.int xi :: st) S Q := pv_iload_n (pm_cdi rfl dX7_same_70) rfl
theorem q137_71 (hs : pm_ar S an 0 xi = true) : pm_V d 137 71 [l0, l1, l2, l3, l4] (.int xi :: .ref an :: st) S Q = pm_V d 137 72 [l0, l1, l2, l3, l4] (.int (pm_zi S an xi.toNatClampNeg) :: st) S Q := pv_iald (pm_cdi rfl dX7_same_71) hs
theorem q137_72 : pm_V d 137 72 [l0, l1, l2, l3, l4] (.int yi :: .int xi :: st) S Q = if xi = yi then pm_V d 137 75 [l0, l1, l2, l3, l4] st S Q else pm_V d 137 79 [l0, l1, l2, l3, l4] st S Q := pv_icmp_ne (pm_cdi rfl dX7_same_72) rfl
theorem q137_75 : pm_V d 137 75 [l0, l1, l2, l3, l4] st S Q = pm_V d 137 76 [l0, l1, l2, l3, l4] (.int 1 :: st) S Q := pv_iconst (pm_cdi rfl dX7_same_75) (by decide +kernel)
theorem q137_76 : pm_V d 137 76 [l0, l1, l2, l3, l4] st S Q = pm_V d 137 80 [l0, l1, l2, l3, l4] st S Q := pv_goto (pm_cdi rfl dX7_same_76) rfl
theorem q137_79 : pm_V d 137 79 [l0, l1, l2, l3, l4] st S Q = pm_V d 137 80 [l0, l1, l2, l3, l4] (.int 0 :: st) S Q := pv_iconst (pm_cdi rfl dX7_same_79) (by decide +kernel)
theorem q137_80 : pm_V d 137 80 [l0, l1, .int yi, l3, l4] (.int xi :: st) S Q = pm_V d 137 81 [l0, l1, .int yi, .int xi, l4] st S Q := pv_istore_n (pm_cdi rfl dX7_same_80) rfl
theorem q137_81 : pm_V d 137 81 [l0, l1, l2, l3, l4] st S Q = pm_V d 137 82 [l0, l1, l2, l3, l4] (.int 0 :: st) S Q := pv_iconst (pm_cdi rfl dX7_same_81) (by decide +kernel)
theorem q137_82 : pm_V d 137 82 [l0, l1, l2, .int yi, l4] (.int xi :: st) S Q = pm_V d 137 84 [l0, l1, l2, .int yi, .int xi] st S Q := pv_istore (pm_cdi rfl dX7_same_82) rfl
theorem q137_84 : pm_V d 137 84 [l0, l1, l2, l3, .int xi] st S Q = pm_V d 137 86 [l0, l1, l2, l3, .int xi] (.int xi :: st) S Q := pv_iload (pm_cdi rfl dX7_same_84) rfl
theorem q137_86 : pm_V d 137 86 [.ref xn, l1, l2, l3, l4] st S Q = pm_V d 137 87 [.ref xn, l1, l2, l3, l4] (.ref xn :: st) S Q := pv_aload_n (pm_cdi rfl dX7_same_86) rfl
theorem q137_87 (hs : pm_sh S an = .inr 7) : pm_V d 137 87 [l0, l1, l2, l3, l4] (.ref an :: st) S Q = pm_V d 137 90 [l0, l1, l2, l3, l4] (va_rf (pm_gr S an 8) :: st) S Q := pv_getA (pm_cdi rfl dX7_same_87) (by decide +kernel) (by decide +kernel) (by decide +kernel) hs
theorem q137_90 : pm_V d 137 90 [l0, .int xi, l2, l3, l4] st S Q = pm_V d 137 91 [l0, .int xi, l2, l3, l4] (.int xi :: st) S Q := pv_iload_n (pm_cdi rfl dX7_same_90) rfl
theorem q137_91 (hs : pm_ar S an 0 xi = true) : pm_V d 137 91 [l0, l1, l2, l3, l4] (.int xi :: .ref an :: st) S Q = pm_V d 137 92 [l0, l1, l2, l3, l4] (.int (pm_zi S an xi.toNatClampNeg) :: st) S Q := pv_iald (pm_cdi rfl dX7_same_91) hs
theorem q137_92 : pm_V d 137 92 [l0, l1, l2, l3, l4] (.int yi :: .int xi :: st) S Q = if xi < yi then pm_V d 137 95 [l0, l1, l2, l3, l4] st S Q else pm_V d 137 129 [l0, l1, l2, l3, l4] st S Q := pv_icmp_ge (pm_cdi rfl dX7_same_92) rfl
theorem q137_95 : pm_V d 137 95 [l0, l1, l2, .int xi, l4] st S Q = pm_V d 137 96 [l0, l1, l2, .int xi, l4] (.int xi :: st) S Q := pv_iload_n (pm_cdi rfl dX7_same_95) rfl
theorem q137_96 : pm_V d 137 96 [l0, l1, l2, l3, l4] (.int xi :: st) S Q = if xi = 0 then pm_V d 137 129 [l0, l1, l2, l3, l4] st S Q else pm_V d 137 99 [l0, l1, l2, l3, l4] st S Q := pv_if_eq (pm_cdi rfl dX7_same_96) rfl
theorem q137_99 : pm_V d 137 99 [.ref xn, l1, l2, l3, l4] st S Q = pm_V d 137 100 [.ref xn, l1, l2, l3, l4] (.ref xn :: st) S Q := pv_aload_n (pm_cdi rfl dX7_same_99) rfl
theorem q137_100 : pm_V d 137 100 [l0, .int xi, l2, l3, l4] st S Q = pm_V d 137 101 [l0, .int xi, l2, l3, l4] (.int xi :: st) S Q := pv_iload_n (pm_cdi rfl dX7_same_100) rfl
theorem q137_101 : pm_V d 137 101 [l0, l1, l2, l3, .int xi] st S Q = pm_V d 137 103 [l0, l1, l2, l3, .int xi] (.int xi :: st) S Q := pv_iload (pm_cdi rfl dX7_same_101) rfl
theorem q137_103 (hs : pm_sh S an = .inr 7) : pm_V (d + 1) 137 103 [l0, l1, l2, l3, l4] [.int v1i, .int v0i, .ref an] S Q = pm_N d 106 [.ref an, .int v0i, .int v1i] S (fun r S' => pm_V (d + 1) 137 106 [l0, l1, l2, l3, l4] (r.toList ++ []) S' Q) := pv_callV (as := [.int v0i, .int v1i]) (pm_cdi rfl dX7_same_103) (Or.inl (by decide +kernel)) (by decide +kernel) (show _ = _ from (by decide +kernel : 2 = pm_np 106)) rfl (Nat.le_of_ble_eq_true rfl) (cl := 7) (by decide +kernel) hs
theorem q137_106 : pm_V d 137 106 [.ref xn, l1, l2, l3, l4] st S Q = pm_V d 137 107 [.ref xn, l1, l2, l3, l4] (.ref xn :: st) S Q := pv_aload_n (pm_cdi rfl dX7_same_106) rfl
theorem q137_107 : pm_V d 137 107 [l0, l1, .int xi, l3, l4] st S Q = pm_V d 137 108 [l0, l1, .int xi, l3, l4] (.int xi :: st) S Q := pv_iload_n (pm_cdi rfl dX7_same_107) rfl
theorem q137_108 : pm_V d 137 108 [l0, l1, l2, l3, .int xi] st S Q = pm_V d 137 110 [l0, l1, l2, l3, .int xi] (.int xi :: st) S Q := pv_iload (pm_cdi rfl dX7_same_108) rfl
theorem q137_110 (hs : pm_sh S an = .inr 7) : pm_V (d + 1) 137 110 [l0, l1, l2, l3, l4] [.int v1i, .int v0i, .ref an, .long r0j] S Q = pm_N d 106 [.ref an, .int v0i, .int v1i] S (fun r S' => pm_V (d + 1) 137 113 [l0, l1, l2, l3, l4] (r.toList ++ [.long r0j]) S' Q) := pv_callV (as := [.int v0i, .int v1i]) (pm_cdi rfl dX7_same_110) (Or.inl (by decide +kernel)) (by decide +kernel) (show _ = _ from (by decide +kernel : 2 = pm_np 106)) rfl (Nat.le_of_ble_eq_true rfl) (cl := 7) (by decide +kernel) hs
theorem q137_113 : pm_V d 137 113 [l0, l1, l2, l3, l4] (.long yj :: .long xj :: st) S Q = pm_V d 137 114 [l0, l1, l2, l3, l4] (.int (lg_cmp xj yj) :: st) S Q := pv_lcmp (pm_cdi rfl dX7_same_113)
theorem q137_114 : pm_V d 137 114 [l0, l1, l2, l3, l4] (.int xi :: st) S Q = if xi = 0 then pm_V d 137 117 [l0, l1, l2, l3, l4] st S Q else pm_V d 137 121 [l0, l1, l2, l3, l4] st S Q := pv_if_ne (pm_cdi rfl dX7_same_114) rfl
theorem q137_117 : pm_V d 137 117 [l0, l1, l2, l3, l4] st S Q = pm_V d 137 118 [l0, l1, l2, l3, l4] (.int 1 :: st) S Q := pv_iconst (pm_cdi rfl dX7_same_117) (by decide +kernel)
theorem q137_118 : pm_V d 137 118 [l0, l1, l2, l3, l4] st S Q = pm_V d 137 122 [l0, l1, l2, l3, l4] st S Q := pv_goto (pm_cdi rfl dX7_same_118) rfl
theorem q137_121 : pm_V d 137 121 [l0, l1, l2, l3, l4] st S Q = pm_V d 137 122 [l0, l1, l2, l3, l4] (.int 0 :: st) S Q := pv_iconst (pm_cdi rfl dX7_same_121) (by decide +kernel)
theorem q137_122 : pm_V d 137 122 [l0, l1, .int yi, l3, l4] (.int xi :: st) S Q = pm_V d 137 123 [l0, l1, .int yi, .int xi, l4] st S Q := pv_istore_n (pm_cdi rfl dX7_same_122) rfl
theorem q137_123 : pm_V d 137 123 [l0, l1, l2, .int yi, .int xi] st S Q = pm_V d 137 126 [l0, l1, l2, .int yi, .int (xi + 1)] st S Q := pv_iinc (pm_cdi rfl dX7_same_123) rfl (by decide +kernel) rfl
theorem q137_126 : pm_V d 137 126 [l0, l1, l2, l3, l4] st S Q = pm_V d 137 84 [l0, l1, l2, l3, l4] st S Q := pv_goto (pm_cdi rfl dX7_same_126) rfl
theorem q137_129 : pm_V d 137 129 [l0, l1, l2, l3, l4] st S Q = pm_V d 137 130 [l0, l1, l2, l3, l4] (.int 0 :: st) S Q := pv_iconst (pm_cdi rfl dX7_same_129) (by decide +kernel)
theorem q137_130 : pm_V d 137 130 [l0, l1, l2, .int yi, l4] (.int xi :: st) S Q = pm_V d 137 132 [l0, l1, l2, .int yi, .int xi] st S Q := pv_istore (pm_cdi rfl dX7_same_130) rfl
theorem q137_132 : pm_V d 137 132 [l0, l1, l2, l3, .int xi] st S Q = pm_V d 137 134 [l0, l1, l2, l3, .int xi] (.int xi :: st) S Q := pv_iload (pm_cdi rfl dX7_same_132) rfl
theorem q137_134 : pm_V d 137 134 [.ref xn, l1, l2, l3, l4] st S Q = pm_V d 137 135 [.ref xn, l1, l2, l3, l4] (.ref xn :: st) S Q := pv_aload_n (pm_cdi rfl dX7_same_134) rfl
theorem q137_135 (hs : pm_sh S an = .inr 7) : pm_V d 137 135 [l0, l1, l2, l3, l4] (.ref an :: st) S Q = pm_V d 137 138 [l0, l1, l2, l3, l4] (va_rf (pm_gr S an 9) :: st) S Q := pv_getA (pm_cdi rfl dX7_same_135) (by decide +kernel) (by decide +kernel) (by decide +kernel) hs
theorem q137_138 : pm_V d 137 138 [l0, .int xi, l2, l3, l4] st S Q = pm_V d 137 139 [l0, .int xi, l2, l3, l4] (.int xi :: st) S Q := pv_iload_n (pm_cdi rfl dX7_same_138) rfl
theorem q137_139 (hs : pm_ar S an 0 xi = true) : pm_V d 137 139 [l0, l1, l2, l3, l4] (.int xi :: .ref an :: st) S Q = pm_V d 137 140 [l0, l1, l2, l3, l4] (.int (pm_zi S an xi.toNatClampNeg) :: st) S Q := pv_iald (pm_cdi rfl dX7_same_139) hs
theorem q137_140 : pm_V d 137 140 [l0, l1, l2, l3, l4] (.int yi :: .int xi :: st) S Q = if xi < yi then pm_V d 137 143 [l0, l1, l2, l3, l4] st S Q else pm_V d 137 211 [l0, l1, l2, l3, l4] st S Q := pv_icmp_ge (pm_cdi rfl dX7_same_140) rfl
theorem q137_143 : pm_V d 137 143 [l0, l1, l2, .int xi, l4] st S Q = pm_V d 137 144 [l0, l1, l2, .int xi, l4] (.int xi :: st) S Q := pv_iload_n (pm_cdi rfl dX7_same_143) rfl
theorem q137_144 : pm_V d 137 144 [l0, l1, l2, l3, l4] (.int xi :: st) S Q = if xi = 0 then pm_V d 137 211 [l0, l1, l2, l3, l4] st S Q else pm_V d 137 147 [l0, l1, l2, l3, l4] st S Q := pv_if_eq (pm_cdi rfl dX7_same_144) rfl
theorem q137_147 : pm_V d 137 147 [.ref xn, l1, l2, l3, l4] st S Q = pm_V d 137 148 [.ref xn, l1, l2, l3, l4] (.ref xn :: st) S Q := pv_aload_n (pm_cdi rfl dX7_same_147) rfl
theorem q137_148 : pm_V d 137 148 [l0, .int xi, l2, l3, l4] st S Q = pm_V d 137 149 [l0, .int xi, l2, l3, l4] (.int xi :: st) S Q := pv_iload_n (pm_cdi rfl dX7_same_148) rfl
theorem q137_149 : pm_V d 137 149 [l0, l1, l2, l3, .int xi] st S Q = pm_V d 137 151 [l0, l1, l2, l3, .int xi] (.int xi :: st) S Q := pv_iload (pm_cdi rfl dX7_same_149) rfl
theorem q137_151 (hs : pm_sh S an = .inr 7) : pm_V (d + 1) 137 151 [l0, l1, l2, l3, l4] [.int v1i, .int v0i, .ref an] S Q = pm_N d 104 [.ref an, .int v0i, .int v1i] S (fun r S' => pm_V (d + 1) 137 154 [l0, l1, l2, l3, l4] (r.toList ++ []) S' Q) := pv_callV (as := [.int v0i, .int v1i]) (pm_cdi rfl dX7_same_151) (Or.inl (by decide +kernel)) (by decide +kernel) (show _ = _ from (by decide +kernel : 2 = pm_np 104)) rfl (Nat.le_of_ble_eq_true rfl) (cl := 7) (by decide +kernel) hs
theorem q137_154 : pm_V d 137 154 [.ref xn, l1, l2, l3, l4] st S Q = pm_V d 137 155 [.ref xn, l1, l2, l3, l4] (.ref xn :: st) S Q := pv_aload_n (pm_cdi rfl dX7_same_154) rfl
theorem q137_155 : pm_V d 137 155 [l0, l1, .int xi, l3, l4] st S Q = pm_V d 137 156 [l0, l1, .int xi, l3, l4] (.int xi :: st) S Q := pv_iload_n (pm_cdi rfl dX7_same_155) rfl
theorem q137_156 : pm_V d 137 156 [l0, l1, l2, l3, .int xi] st S Q = pm_V d 137 158 [l0, l1, l2, l3, .int xi] (.int xi :: st) S Q := pv_iload (pm_cdi rfl dX7_same_156) rfl
theorem q137_158 (hs : pm_sh S an = .inr 7) : pm_V (d + 1) 137 158 [l0, l1, l2, l3, l4] [.int v1i, .int v0i, .ref an, .int r0i] S Q = pm_N d 104 [.ref an, .int v0i, .int v1i] S (fun r S' => pm_V (d + 1) 137 161 [l0, l1, l2, l3, l4] (r.toList ++ [.int r0i]) S' Q) := pv_callV (as := [.int v0i, .int v1i]) (pm_cdi rfl dX7_same_158) (Or.inl (by decide +kernel)) (by decide +kernel) (show _ = _ from (by decide +kernel : 2 = pm_np 104)) rfl (Nat.le_of_ble_eq_true rfl) (cl := 7) (by decide +kernel) hs
theorem q137_161 : pm_V d 137 161 [l0, l1, l2, l3, l4] (.int yi :: .int xi :: st) S Q = if xi = yi then pm_V d 137 164 [l0, l1, l2, l3, l4] st S Q else pm_V d 137 203 [l0, l1, l2, l3, l4] st S Q := pv_icmp_ne (pm_cdi rfl dX7_same_161) rfl
theorem q137_164 : pm_V d 137 164 [.ref xn, l1, l2, l3, l4] st S Q = pm_V d 137 165 [.ref xn, l1, l2, l3, l4] (.ref xn :: st) S Q := pv_aload_n (pm_cdi rfl dX7_same_164) rfl
theorem q137_165 : pm_V d 137 165 [l0, .int xi, l2, l3, l4] st S Q = pm_V d 137 166 [l0, .int xi, l2, l3, l4] (.int xi :: st) S Q := pv_iload_n (pm_cdi rfl dX7_same_165) rfl
theorem q137_166 : pm_V d 137 166 [l0, l1, l2, l3, .int xi] st S Q = pm_V d 137 168 [l0, l1, l2, l3, .int xi] (.int xi :: st) S Q := pv_iload (pm_cdi rfl dX7_same_166) rfl
theorem q137_168 (hs : pm_sh S an = .inr 7) : pm_V (d + 1) 137 168 [l0, l1, l2, l3, l4] [.int v1i, .int v0i, .ref an] S Q = pm_N d 105 [.ref an, .int v0i, .int v1i] S (fun r S' => pm_V (d + 1) 137 171 [l0, l1, l2, l3, l4] (r.toList ++ []) S' Q) := pv_callV (as := [.int v0i, .int v1i]) (pm_cdi rfl dX7_same_168) (Or.inl (by decide +kernel)) (by decide +kernel) (show _ = _ from (by decide +kernel : 2 = pm_np 105)) rfl (Nat.le_of_ble_eq_true rfl) (cl := 7) (by decide +kernel) hs
theorem q137_171 : pm_V d 137 171 [.ref xn, l1, l2, l3, l4] st S Q = pm_V d 137 172 [.ref xn, l1, l2, l3, l4] (.ref xn :: st) S Q := pv_aload_n (pm_cdi rfl dX7_same_171) rfl
theorem q137_172 : pm_V d 137 172 [l0, l1, .int xi, l3, l4] st S Q = pm_V d 137 173 [l0, l1, .int xi, l3, l4] (.int xi :: st) S Q := pv_iload_n (pm_cdi rfl dX7_same_172) rfl
theorem q137_173 : pm_V d 137 173 [l0, l1, l2, l3, .int xi] st S Q = pm_V d 137 175 [l0, l1, l2, l3, .int xi] (.int xi :: st) S Q := pv_iload (pm_cdi rfl dX7_same_173) rfl
theorem q137_175 (hs : pm_sh S an = .inr 7) : pm_V (d + 1) 137 175 [l0, l1, l2, l3, l4] [.int v1i, .int v0i, .ref an, .int r0i] S Q = pm_N d 105 [.ref an, .int v0i, .int v1i] S (fun r S' => pm_V (d + 1) 137 178 [l0, l1, l2, l3, l4] (r.toList ++ [.int r0i]) S' Q) := pv_callV (as := [.int v0i, .int v1i]) (pm_cdi rfl dX7_same_175) (Or.inl (by decide +kernel)) (by decide +kernel) (show _ = _ from (by decide +kernel : 2 = pm_np 105)) rfl (Nat.le_of_ble_eq_true rfl) (cl := 7) (by decide +kernel) hs
theorem q137_178 : pm_V d 137 178 [l0, l1, l2, l3, l4] (.int yi :: .int xi :: st) S Q = if xi = yi then pm_V d 137 181 [l0, l1, l2, l3, l4] st S Q else pm_V d 137 203 [l0, l1, l2, l3, l4] st S Q := pv_icmp_ne (pm_cdi rfl dX7_same_178) rfl
theorem q137_181 : pm_V d 137 181 [.ref xn, l1, l2, l3, l4] st S Q = pm_V d 137 182 [.ref xn, l1, l2, l3, l4] (.ref xn :: st) S Q := pv_aload_n (pm_cdi rfl dX7_same_181) rfl
theorem q137_182 : pm_V d 137 182 [l0, .int xi, l2, l3, l4] st S Q = pm_V d 137 183 [l0, .int xi, l2, l3, l4] (.int xi :: st) S Q := pv_iload_n (pm_cdi rfl dX7_same_182) rfl
theorem q137_183 : pm_V d 137 183 [l0, l1, l2, l3, .int xi] st S Q = pm_V d 137 185 [l0, l1, l2, l3, .int xi] (.int xi :: st) S Q := pv_iload (pm_cdi rfl dX7_same_183) rfl
theorem q137_185 (hs : pm_sh S an = .inr 7) : pm_V (d + 1) 137 185 [l0, l1, l2, l3, l4] [.int v1i, .int v0i, .ref an] S Q = pm_N d 107 [.ref an, .int v0i, .int v1i] S (fun r S' => pm_V (d + 1) 137 188 [l0, l1, l2, l3, l4] (r.toList ++ []) S' Q) := pv_callV (as := [.int v0i, .int v1i]) (pm_cdi rfl dX7_same_185) (Or.inl (by decide +kernel)) (by decide +kernel) (show _ = _ from (by decide +kernel : 2 = pm_np 107)) rfl (Nat.le_of_ble_eq_true rfl) (cl := 7) (by decide +kernel) hs
theorem q137_188 : pm_V d 137 188 [.ref xn, l1, l2, l3, l4] st S Q = pm_V d 137 189 [.ref xn, l1, l2, l3, l4] (.ref xn :: st) S Q := pv_aload_n (pm_cdi rfl dX7_same_188) rfl
theorem q137_189 : pm_V d 137 189 [l0, l1, .int xi, l3, l4] st S Q = pm_V d 137 190 [l0, l1, .int xi, l3, l4] (.int xi :: st) S Q := pv_iload_n (pm_cdi rfl dX7_same_189) rfl
theorem q137_190 : pm_V d 137 190 [l0, l1, l2, l3, .int xi] st S Q = pm_V d 137 192 [l0, l1, l2, l3, .int xi] (.int xi :: st) S Q := pv_iload (pm_cdi rfl dX7_same_190) rfl
theorem q137_192 (hs : pm_sh S an = .inr 7) : pm_V (d + 1) 137 192 [l0, l1, l2, l3, l4] [.int v1i, .int v0i, .ref an, .long r0j] S Q = pm_N d 107 [.ref an, .int v0i, .int v1i] S (fun r S' => pm_V (d + 1) 137 195 [l0, l1, l2, l3, l4] (r.toList ++ [.long r0j]) S' Q) := pv_callV (as := [.int v0i, .int v1i]) (pm_cdi rfl dX7_same_192) (Or.inl (by decide +kernel)) (by decide +kernel) (show _ = _ from (by decide +kernel : 2 = pm_np 107)) rfl (Nat.le_of_ble_eq_true rfl) (cl := 7) (by decide +kernel) hs
theorem q137_195 : pm_V d 137 195 [l0, l1, l2, l3, l4] (.long yj :: .long xj :: st) S Q = pm_V d 137 196 [l0, l1, l2, l3, l4] (.int (lg_cmp xj yj) :: st) S Q := pv_lcmp (pm_cdi rfl dX7_same_195)
theorem q137_196 : pm_V d 137 196 [l0, l1, l2, l3, l4] (.int xi :: st) S Q = if xi = 0 then pm_V d 137 199 [l0, l1, l2, l3, l4] st S Q else pm_V d 137 203 [l0, l1, l2, l3, l4] st S Q := pv_if_ne (pm_cdi rfl dX7_same_196) rfl
theorem q137_199 : pm_V d 137 199 [l0, l1, l2, l3, l4] st S Q = pm_V d 137 200 [l0, l1, l2, l3, l4] (.int 1 :: st) S Q := pv_iconst (pm_cdi rfl dX7_same_199) (by decide +kernel)
theorem q137_200 : pm_V d 137 200 [l0, l1, l2, l3, l4] st S Q = pm_V d 137 204 [l0, l1, l2, l3, l4] st S Q := pv_goto (pm_cdi rfl dX7_same_200) rfl
theorem q137_203 : pm_V d 137 203 [l0, l1, l2, l3, l4] st S Q = pm_V d 137 204 [l0, l1, l2, l3, l4] (.int 0 :: st) S Q := pv_iconst (pm_cdi rfl dX7_same_203) (by decide +kernel)
theorem q137_204 : pm_V d 137 204 [l0, l1, .int yi, l3, l4] (.int xi :: st) S Q = pm_V d 137 205 [l0, l1, .int yi, .int xi, l4] st S Q := pv_istore_n (pm_cdi rfl dX7_same_204) rfl
theorem q137_205 : pm_V d 137 205 [l0, l1, l2, .int yi, .int xi] st S Q = pm_V d 137 208 [l0, l1, l2, .int yi, .int (xi + 1)] st S Q := pv_iinc (pm_cdi rfl dX7_same_205) rfl (by decide +kernel) rfl
theorem q137_208 : pm_V d 137 208 [l0, l1, l2, l3, l4] st S Q = pm_V d 137 132 [l0, l1, l2, l3, l4] st S Q := pv_goto (pm_cdi rfl dX7_same_208) rfl
theorem q137_211 : pm_V d 137 211 [l0, l1, l2, .int xi, l4] st S Q = pm_V d 137 212 [l0, l1, l2, .int xi, l4] (.int xi :: st) S Q := pv_iload_n (pm_cdi rfl dX7_same_211) rfl
theorem q137_212 : pm_V d 137 212 [l0, l1, l2, l3, l4] (.int xi :: st) S Q = if xi = 0 then pm_V d 137 219 [l0, l1, l2, l3, l4] st S Q else pm_V d 137 215 [l0, l1, l2, l3, l4] st S Q := pv_if_eq (pm_cdi rfl dX7_same_212) rfl
theorem q137_215 : pm_V d 137 215 [l0, l1, l2, l3, l4] st S Q = pm_V d 137 216 [l0, l1, l2, l3, l4] (.int 1 :: st) S Q := pv_iconst (pm_cdi rfl dX7_same_215) (by decide +kernel)
theorem q137_216 : pm_V d 137 216 [l0, l1, l2, l3, l4] st S Q = pm_V d 137 220 [l0, l1, l2, l3, l4] st S Q := pv_goto (pm_cdi rfl dX7_same_216) rfl
theorem q137_219 : pm_V d 137 219 [l0, l1, l2, l3, l4] st S Q = pm_V d 137 220 [l0, l1, l2, l3, l4] (.int 0 :: st) S Q := pv_iconst (pm_cdi rfl dX7_same_219) (by decide +kernel)
theorem q137_220 : pm_V d 137 220 [l0, l1, l2, l3, l4] [.int xi] S Q = Q (some (.int xi)) S := pv_rI (pm_cdi rfl dX7_same_220) (by decide +kernel)
theorem q137_e : pm_N d 137 [.ref an, .int v0i, .int v1i] S Q = pm_V d 137 0 [.ref an, .int v0i, .int v1i, pm_j, pm_j] [] S Q := pv_ent (Nat.le_of_ble_eq_true rfl) rfl
/-! 138: ViewsJoinsModel.reach(II)I -/
theorem dX7_reach_0 : decode cX7_reach 0 = .ok (.aload_n 0, 1) := by decide +kernel
theorem dX7_reach_1 : decode cX7_reach 1 = .ok (.iload_n 1, 1) := by decide +kernel
theorem dX7_reach_2 : decode cX7_reach 2 = .ok (.invokevirtual 123, 3) := by decide +kernel
theorem dX7_reach_5 : decode cX7_reach 5 = .ok (.ifCond .ne 6, 3) := by decide +kernel
theorem dX7_reach_8 : decode cX7_reach 8 = .ok (.ldc 130, 2) := by decide +kernel
theorem dX7_reach_10 : decode cX7_reach 10 = .ok (.ireturn, 1) := by decide +kernel
theorem dX7_reach_11 : decode cX7_reach 11 = .ok (.aload_n 0, 1) := by decide +kernel
theorem dX7_reach_12 : decode cX7_reach 12 = .ok (.invokevirtual 264, 3) := by decide +kernel
theorem dX7_reach_15 : decode cX7_reach 15 = .ok (.aload_n 0, 1) := by decide +kernel
theorem dX7_reach_16 : decode cX7_reach 16 = .ok (.getfield 29, 3) := by decide +kernel
theorem dX7_reach_19 : decode cX7_reach 19 = .ok (.iload_n 1, 1) := by decide +kernel
theorem dX7_reach_20 : decode cX7_reach 20 = .ok (.iaload, 1) := by decide +kernel
theorem dX7_reach_21 : decode cX7_reach 21 = .ok (.ifCond .eq 7, 3) := by decide +kernel
theorem dX7_reach_24 : decode cX7_reach 24 = .ok (.ldc_w 267, 3) := by decide +kernel
theorem dX7_reach_27 : decode cX7_reach 27 = .ok (.ireturn, 1) := by decide +kernel
theorem dX7_reach_28 : decode cX7_reach 28 = .ok (.iload_n 2, 1) := by decide +kernel
theorem dX7_reach_29 : decode cX7_reach 29 = .ok (.iconst 0, 1) := by decide +kernel
theorem dX7_reach_30 : decode cX7_reach 30 = .ok (.aload_n 0, 1) := by decide +kernel
theorem dX7_reach_31 : decode cX7_reach 31 = .ok (.getfield 32, 3) := by decide +kernel
theorem dX7_reach_34 : decode cX7_reach 34 = .ok (.iload_n 1, 1) := by decide +kernel
theorem dX7_reach_35 : decode cX7_reach 35 = .ok (.iaload, 1) := by decide +kernel
theorem dX7_reach_36 : decode cX7_reach 36 = .ok (.iconst 1, 1) := by decide +kernel
theorem dX7_reach_37 : decode cX7_reach 37 = .ok (.isub, 1) := by decide +kernel
theorem dX7_reach_38 : decode cX7_reach 38 = .ok (.invokestatic 119, 3) := by decide +kernel
theorem dX7_reach_41 : decode cX7_reach 41 = .ok (.ifCond .ne 6, 3) := by decide +kernel
theorem dX7_reach_44 : decode cX7_reach 44 = .ok (.ldc 130, 2) := by decide +kernel
theorem dX7_reach_46 : decode cX7_reach 46 = .ok (.ireturn, 1) := by decide +kernel
theorem dX7_reach_47 : decode cX7_reach 47 = .ok (.iconst 0, 1) := by decide +kernel
theorem dX7_reach_48 : decode cX7_reach 48 = .ok (.istore_n 3, 1) := by decide +kernel
theorem dX7_reach_49 : decode cX7_reach 49 = .ok (.iload_n 3, 1) := by decide +kernel
theorem dX7_reach_50 : decode cX7_reach 50 = .ok (.aload_n 0, 1) := by decide +kernel
theorem dX7_reach_51 : decode cX7_reach 51 = .ok (.getfield 32, 3) := by decide +kernel
theorem dX7_reach_54 : decode cX7_reach 54 = .ok (.iload_n 1, 1) := by decide +kernel
theorem dX7_reach_55 : decode cX7_reach 55 = .ok (.iaload, 1) := by decide +kernel
theorem dX7_reach_56 : decode cX7_reach 56 = .ok (.if_icmp .ge 25, 3) := by decide +kernel
theorem dX7_reach_59 : decode cX7_reach 59 = .ok (.aload_n 0, 1) := by decide +kernel
theorem dX7_reach_60 : decode cX7_reach 60 = .ok (.getfield 108, 3) := by decide +kernel
theorem dX7_reach_63 : decode cX7_reach 63 = .ok (.iload_n 3, 1) := by decide +kernel
theorem dX7_reach_64 : decode cX7_reach 64 = .ok (.iload_n 3, 1) := by decide +kernel
theorem dX7_reach_65 : decode cX7_reach 65 = .ok (.iload_n 2, 1) := by decide +kernel
theorem dX7_reach_66 : decode cX7_reach 66 = .ok (.if_icmp .ne 7, 3) := by decide +kernel
theorem dX7_reach_69 : decode cX7_reach 69 = .ok (.iconst 1, 1) := by decide +kernel
theorem dX7_reach_70 : decode cX7_reach 70 = .ok (.goto 4, 3) := by decide +kernel
theorem dX7_reach_73 : decode cX7_reach 73 = .ok (.iconst 0, 1) := by decide +kernel
theorem dX7_reach_74 : decode cX7_reach 74 = .ok (.bastore, 1) := by decide +kernel
theorem dX7_reach_75 : decode cX7_reach 75 = .ok (.iinc 3 1, 3) := by decide +kernel
theorem dX7_reach_78 : decode cX7_reach 78 = .ok (.goto (-29), 3) := by decide +kernel
theorem dX7_reach_81 : decode cX7_reach 81 = .ok (.iconst 1, 1) := by decide +kernel
theorem dX7_reach_82 : decode cX7_reach 82 = .ok (.istore_n 3, 1) := by decide +kernel
theorem dX7_reach_83 : decode cX7_reach 83 = .ok (.iconst 1, 1) := by decide +kernel
theorem dX7_reach_84 : decode cX7_reach 84 = .ok (.istore 4, 2) := by decide +kernel
theorem dX7_reach_86 : decode cX7_reach 86 = .ok (.iload 4, 2) := by decide +kernel
theorem dX7_reach_88 : decode cX7_reach 88 = .ok (.ifCond .eq 78, 3) := by decide +kernel
theorem dX7_reach_91 : decode cX7_reach 91 = .ok (.iconst 0, 1) := by decide +kernel
theorem dX7_reach_92 : decode cX7_reach 92 = .ok (.istore 4, 2) := by decide +kernel
theorem dX7_reach_94 : decode cX7_reach 94 = .ok (.iconst 0, 1) := by decide +kernel
theorem dX7_reach_95 : decode cX7_reach 95 = .ok (.istore 5, 2) := by decide +kernel
theorem dX7_reach_97 : decode cX7_reach 97 = .ok (.iload 5, 2) := by decide +kernel
theorem dX7_reach_99 : decode cX7_reach 99 = .ok (.aload_n 0, 1) := by decide +kernel
theorem dX7_reach_100 : decode cX7_reach 100 = .ok (.getfield 35, 3) := by decide +kernel
theorem dX7_reach_103 : decode cX7_reach 103 = .ok (.iload_n 1, 1) := by decide +kernel
theorem dX7_reach_104 : decode cX7_reach 104 = .ok (.iaload, 1) := by decide +kernel
theorem dX7_reach_105 : decode cX7_reach 105 = .ok (.if_icmp .ge 58, 3) := by decide +kernel
theorem dX7_reach_108 : decode cX7_reach 108 = .ok (.aload_n 0, 1) := by decide +kernel
theorem dX7_reach_109 : decode cX7_reach 109 = .ok (.getfield 108, 3) := by decide +kernel
theorem dX7_reach_112 : decode cX7_reach 112 = .ok (.aload_n 0, 1) := by decide +kernel
theorem dX7_reach_113 : decode cX7_reach 113 = .ok (.iload_n 1, 1) := by decide +kernel
theorem dX7_reach_114 : decode cX7_reach 114 = .ok (.iload 5, 2) := by decide +kernel
theorem dX7_reach_116 : decode cX7_reach 116 = .ok (.invokevirtual 181, 3) := by decide +kernel
theorem dX7_reach_119 : decode cX7_reach 119 = .ok (.baload, 1) := by decide +kernel
theorem dX7_reach_120 : decode cX7_reach 120 = .ok (.ifCond .eq 37, 3) := by decide +kernel
theorem dX7_reach_123 : decode cX7_reach 123 = .ok (.aload_n 0, 1) := by decide +kernel
theorem dX7_reach_124 : decode cX7_reach 124 = .ok (.getfield 108, 3) := by decide +kernel
theorem dX7_reach_127 : decode cX7_reach 127 = .ok (.aload_n 0, 1) := by decide +kernel
theorem dX7_reach_128 : decode cX7_reach 128 = .ok (.iload_n 1, 1) := by decide +kernel
theorem dX7_reach_129 : decode cX7_reach 129 = .ok (.iload 5, 2) := by decide +kernel
theorem dX7_reach_131 : decode cX7_reach 131 = .ok (.invokevirtual 185, 3) := by decide +kernel
theorem dX7_reach_134 : decode cX7_reach 134 = .ok (.baload, 1) := by decide +kernel
theorem dX7_reach_135 : decode cX7_reach 135 = .ok (.ifCond .ne 22, 3) := by decide +kernel
theorem dX7_reach_138 : decode cX7_reach 138 = .ok (.aload_n 0, 1) := by decide +kernel
theorem dX7_reach_139 : decode cX7_reach 139 = .ok (.getfield 108, 3) := by decide +kernel
theorem dX7_reach_142 : decode cX7_reach 142 = .ok (.aload_n 0, 1) := by decide +kernel
theorem dX7_reach_143 : decode cX7_reach 143 = .ok (.iload_n 1, 1) := by decide +kernel
theorem dX7_reach_144 : decode cX7_reach 144 = .ok (.iload 5, 2) := by decide +kernel
theorem dX7_reach_146 : decode cX7_reach 146 = .ok (.invokevirtual 185, 3) := by decide +kernel
theorem dX7_reach_149 : decode cX7_reach 149 = .ok (.iconst 1, 1) := by decide +kernel
theorem dX7_reach_150 : decode cX7_reach 150 = .ok (.bastore, 1) := by decide +kernel
theorem dX7_reach_151 : decode cX7_reach 151 = .ok (.iinc 3 1, 3) := by decide +kernel
theorem dX7_reach_154 : decode cX7_reach 154 = .ok (.iconst 1, 1) := by decide +kernel
theorem dX7_reach_155 : decode cX7_reach 155 = .ok (.istore 4, 2) := by decide +kernel
theorem dX7_reach_157 : decode cX7_reach 157 = .ok (.iinc 5 1, 3) := by decide +kernel
theorem dX7_reach_160 : decode cX7_reach 160 = .ok (.goto (-63), 3) := by decide +kernel
theorem dX7_reach_163 : decode cX7_reach 163 = .ok (.goto (-77), 3) := by decide +kernel
theorem dX7_reach_166 : decode cX7_reach 166 = .ok (.iload_n 3, 1) := by decide +kernel
theorem dX7_reach_167 : decode cX7_reach 167 = .ok (.ireturn, 1) := by decide +kernel
theorem q138_0 : pm_V d 138 0 [.ref xn, l1, l2, l3, l4, l5] st S Q = pm_V d 138 1 [.ref xn, l1, l2, l3, l4, l5] (.ref xn :: st) S Q := pv_aload_n (pm_cdi rfl dX7_reach_0) rfl
theorem q138_1 : pm_V d 138 1 [l0, .int xi, l2, l3, l4, l5] st S Q = pm_V d 138 2 [l0, .int xi, l2, l3, l4, l5] (.int xi :: st) S Q := pv_iload_n (pm_cdi rfl dX7_reach_1) rfl
theorem q138_2 (hs : pm_sh S an = .inr 7) : pm_V (d + 1) 138 2 [l0, l1, l2, l3, l4, l5] [.int v0i, .ref an] S Q = pm_N d 88 [.ref an, .int v0i] S (fun r S' => pm_V (d + 1) 138 5 [l0, l1, l2, l3, l4, l5] (r.toList ++ []) S' Q) := pv_callV (as := [.int v0i]) (pm_cdi rfl dX7_reach_2) (Or.inl (by decide +kernel)) (by decide +kernel) (show _ = _ from (by decide +kernel : 1 = pm_np 88)) rfl (Nat.le_of_ble_eq_true rfl) (cl := 7) (by decide +kernel) hs
theorem q138_5 : pm_V d 138 5 [l0, l1, l2, l3, l4, l5] (.int xi :: st) S Q = if xi = 0 then pm_V d 138 8 [l0, l1, l2, l3, l4, l5] st S Q else pm_V d 138 11 [l0, l1, l2, l3, l4, l5] st S Q := pv_if_ne (pm_cdi rfl dX7_reach_5) rfl
theorem q138_8 : pm_V d 138 8 [l0, l1, l2, l3, l4, l5] st S Q = pm_V d 138 10 [l0, l1, l2, l3, l4, l5] (.int (-1000001) :: st) S Q := pv_ldc (pm_cdi rfl dX7_reach_8) (by decide +kernel)
theorem q138_10 : pm_V d 138 10 [l0, l1, l2, l3, l4, l5] [.int xi] S Q = Q (some (.int xi)) S := pv_rI (pm_cdi rfl dX7_reach_10) (by decide +kernel)
theorem q138_11 : pm_V d 138 11 [.ref xn, l1, l2, l3, l4, l5] st S Q = pm_V d 138 12 [.ref xn, l1, l2, l3, l4, l5] (.ref xn :: st) S Q := pv_aload_n (pm_cdi rfl dX7_reach_11) rfl
theorem q138_12 (hs : pm_sh S an = .inr 7) : pm_V (d + 1) 138 12 [l0, l1, l2, l3, l4, l5] [.ref an] S Q = pm_N d 99 [.ref an] S (fun r S' => pm_V (d + 1) 138 15 [l0, l1, l2, l3, l4, l5] (r.toList ++ []) S' Q) := pv_callV (as := []) (pm_cdi rfl dX7_reach_12) (Or.inl (by decide +kernel)) (by decide +kernel) (show _ = _ from (by decide +kernel : 0 = pm_np 99)) rfl (Nat.le_of_ble_eq_true rfl) (cl := 7) (by decide +kernel) hs
theorem q138_15 : pm_V d 138 15 [.ref xn, l1, l2, l3, l4, l5] st S Q = pm_V d 138 16 [.ref xn, l1, l2, l3, l4, l5] (.ref xn :: st) S Q := pv_aload_n (pm_cdi rfl dX7_reach_15) rfl
theorem q138_16 (hs : pm_sh S an = .inr 7) : pm_V d 138 16 [l0, l1, l2, l3, l4, l5] (.ref an :: st) S Q = pm_V d 138 19 [l0, l1, l2, l3, l4, l5] (va_rf (pm_gr S an 7) :: st) S Q := pv_getA (pm_cdi rfl dX7_reach_16) (by decide +kernel) (by decide +kernel) (by decide +kernel) hs
theorem q138_19 : pm_V d 138 19 [l0, .int xi, l2, l3, l4, l5] st S Q = pm_V d 138 20 [l0, .int xi, l2, l3, l4, l5] (.int xi :: st) S Q := pv_iload_n (pm_cdi rfl dX7_reach_19) rfl
theorem q138_20 (hs : pm_ar S an 0 xi = true) : pm_V d 138 20 [l0, l1, l2, l3, l4, l5] (.int xi :: .ref an :: st) S Q = pm_V d 138 21 [l0, l1, l2, l3, l4, l5] (.int (pm_zi S an xi.toNatClampNeg) :: st) S Q := pv_iald (pm_cdi rfl dX7_reach_20) hs
theorem q138_21 : pm_V d 138 21 [l0, l1, l2, l3, l4, l5] (.int xi :: st) S Q = if xi = 0 then pm_V d 138 28 [l0, l1, l2, l3, l4, l5] st S Q else pm_V d 138 24 [l0, l1, l2, l3, l4, l5] st S Q := pv_if_eq (pm_cdi rfl dX7_reach_21) rfl
theorem q138_24 : pm_V d 138 24 [l0, l1, l2, l3, l4, l5] st S Q = pm_V d 138 27 [l0, l1, l2, l3, l4, l5] (.int (-1000003) :: st) S Q := pv_ldcw (pm_cdi rfl dX7_reach_24) (by decide +kernel)
theorem q138_27 : pm_V d 138 27 [l0, l1, l2, l3, l4, l5] [.int xi] S Q = Q (some (.int xi)) S := pv_rI (pm_cdi rfl dX7_reach_27) (by decide +kernel)
theorem q138_28 : pm_V d 138 28 [l0, l1, .int xi, l3, l4, l5] st S Q = pm_V d 138 29 [l0, l1, .int xi, l3, l4, l5] (.int xi :: st) S Q := pv_iload_n (pm_cdi rfl dX7_reach_28) rfl
theorem q138_29 : pm_V d 138 29 [l0, l1, l2, l3, l4, l5] st S Q = pm_V d 138 30 [l0, l1, l2, l3, l4, l5] (.int 0 :: st) S Q := pv_iconst (pm_cdi rfl dX7_reach_29) (by decide +kernel)
theorem q138_30 : pm_V d 138 30 [.ref xn, l1, l2, l3, l4, l5] st S Q = pm_V d 138 31 [.ref xn, l1, l2, l3, l4, l5] (.ref xn :: st) S Q := pv_aload_n (pm_cdi rfl dX7_reach_30) rfl
theorem q138_31 (hs : pm_sh S an = .inr 7) : pm_V d 138 31 [l0, l1, l2, l3, l4, l5] (.ref an :: st) S Q = pm_V d 138 34 [l0, l1, l2, l3, l4, l5] (va_rf (pm_gr S an 8) :: st) S Q := pv_getA (pm_cdi rfl dX7_reach_31) (by decide +kernel) (by decide +kernel) (by decide +kernel) hs
theorem q138_34 : pm_V d 138 34 [l0, .int xi, l2, l3, l4, l5] st S Q = pm_V d 138 35 [l0, .int xi, l2, l3, l4, l5] (.int xi :: st) S Q := pv_iload_n (pm_cdi rfl dX7_reach_34) rfl
theorem q138_35 (hs : pm_ar S an 0 xi = true) : pm_V d 138 35 [l0, l1, l2, l3, l4, l5] (.int xi :: .ref an :: st) S Q = pm_V d 138 36 [l0, l1, l2, l3, l4, l5] (.int (pm_zi S an xi.toNatClampNeg) :: st) S Q := pv_iald (pm_cdi rfl dX7_reach_35) hs
theorem q138_36 : pm_V d 138 36 [l0, l1, l2, l3, l4, l5] st S Q = pm_V d 138 37 [l0, l1, l2, l3, l4, l5] (.int 1 :: st) S Q := pv_iconst (pm_cdi rfl dX7_reach_36) (by decide +kernel)
theorem q138_37 : pm_V d 138 37 [l0, l1, l2, l3, l4, l5] (.int yi :: .int xi :: st) S Q = pm_V d 138 38 [l0, l1, l2, l3, l4, l5] (.int (xi - yi) :: st) S Q := pv_isub (pm_cdi rfl dX7_reach_37)
theorem q138_38 : pm_V (d + 1) 138 38 [l0, l1, l2, l3, l4, l5] [.int v2i, .int v1i, .int v0i] S Q = pm_N d 87 [.int v0i, .int v1i, .int v2i] S (fun r S' => pm_V (d + 1) 138 41 [l0, l1, l2, l3, l4, l5] (r.toList ++ []) S' Q) := pv_callS (as := [.int v0i, .int v1i, .int v2i]) (pm_cdi rfl dX7_reach_38) (by decide +kernel) (by decide +kernel) (show _ = _ from (by decide +kernel : 3 = pm_np 87)) rfl (Nat.le_of_ble_eq_true rfl)
theorem q138_41 : pm_V d 138 41 [l0, l1, l2, l3, l4, l5] (.int xi :: st) S Q = if xi = 0 then pm_V d 138 44 [l0, l1, l2, l3, l4, l5] st S Q else pm_V d 138 47 [l0, l1, l2, l3, l4, l5] st S Q := pv_if_ne (pm_cdi rfl dX7_reach_41) rfl
theorem q138_44 : pm_V d 138 44 [l0, l1, l2, l3, l4, l5] st S Q = pm_V d 138 46 [l0, l1, l2, l3, l4, l5] (.int (-1000001) :: st) S Q := pv_ldc (pm_cdi rfl dX7_reach_44) (by decide +kernel)
theorem q138_46 : pm_V d 138 46 [l0, l1, l2, l3, l4, l5] [.int xi] S Q = Q (some (.int xi)) S := pv_rI (pm_cdi rfl dX7_reach_46) (by decide +kernel)
theorem q138_47 : pm_V d 138 47 [l0, l1, l2, l3, l4, l5] st S Q = pm_V d 138 48 [l0, l1, l2, l3, l4, l5] (.int 0 :: st) S Q := pv_iconst (pm_cdi rfl dX7_reach_47) (by decide +kernel)
theorem q138_48 : pm_V d 138 48 [l0, l1, .int yi, l3, l4, l5] (.int xi :: st) S Q = pm_V d 138 49 [l0, l1, .int yi, .int xi, l4, l5] st S Q := pv_istore_n (pm_cdi rfl dX7_reach_48) rfl
theorem q138_49 : pm_V d 138 49 [l0, l1, l2, .int xi, l4, l5] st S Q = pm_V d 138 50 [l0, l1, l2, .int xi, l4, l5] (.int xi :: st) S Q := pv_iload_n (pm_cdi rfl dX7_reach_49) rfl
theorem q138_50 : pm_V d 138 50 [.ref xn, l1, l2, l3, l4, l5] st S Q = pm_V d 138 51 [.ref xn, l1, l2, l3, l4, l5] (.ref xn :: st) S Q := pv_aload_n (pm_cdi rfl dX7_reach_50) rfl
theorem q138_51 (hs : pm_sh S an = .inr 7) : pm_V d 138 51 [l0, l1, l2, l3, l4, l5] (.ref an :: st) S Q = pm_V d 138 54 [l0, l1, l2, l3, l4, l5] (va_rf (pm_gr S an 8) :: st) S Q := pv_getA (pm_cdi rfl dX7_reach_51) (by decide +kernel) (by decide +kernel) (by decide +kernel) hs
theorem q138_54 : pm_V d 138 54 [l0, .int xi, l2, l3, l4, l5] st S Q = pm_V d 138 55 [l0, .int xi, l2, l3, l4, l5] (.int xi :: st) S Q := pv_iload_n (pm_cdi rfl dX7_reach_54) rfl
theorem q138_55 (hs : pm_ar S an 0 xi = true) : pm_V d 138 55 [l0, l1, l2, l3, l4, l5] (.int xi :: .ref an :: st) S Q = pm_V d 138 56 [l0, l1, l2, l3, l4, l5] (.int (pm_zi S an xi.toNatClampNeg) :: st) S Q := pv_iald (pm_cdi rfl dX7_reach_55) hs
theorem q138_56 : pm_V d 138 56 [l0, l1, l2, l3, l4, l5] (.int yi :: .int xi :: st) S Q = if xi < yi then pm_V d 138 59 [l0, l1, l2, l3, l4, l5] st S Q else pm_V d 138 81 [l0, l1, l2, l3, l4, l5] st S Q := pv_icmp_ge (pm_cdi rfl dX7_reach_56) rfl
theorem q138_59 : pm_V d 138 59 [.ref xn, l1, l2, l3, l4, l5] st S Q = pm_V d 138 60 [.ref xn, l1, l2, l3, l4, l5] (.ref xn :: st) S Q := pv_aload_n (pm_cdi rfl dX7_reach_59) rfl
theorem q138_60 (hs : pm_sh S an = .inr 7) : pm_V d 138 60 [l0, l1, l2, l3, l4, l5] (.ref an :: st) S Q = pm_V d 138 63 [l0, l1, l2, l3, l4, l5] (va_rf (pm_gr S an 41) :: st) S Q := pv_getA (pm_cdi rfl dX7_reach_60) (by decide +kernel) (by decide +kernel) (by decide +kernel) hs
theorem q138_63 : pm_V d 138 63 [l0, l1, l2, .int xi, l4, l5] st S Q = pm_V d 138 64 [l0, l1, l2, .int xi, l4, l5] (.int xi :: st) S Q := pv_iload_n (pm_cdi rfl dX7_reach_63) rfl
theorem q138_64 : pm_V d 138 64 [l0, l1, l2, .int xi, l4, l5] st S Q = pm_V d 138 65 [l0, l1, l2, .int xi, l4, l5] (.int xi :: st) S Q := pv_iload_n (pm_cdi rfl dX7_reach_64) rfl
theorem q138_65 : pm_V d 138 65 [l0, l1, .int xi, l3, l4, l5] st S Q = pm_V d 138 66 [l0, l1, .int xi, l3, l4, l5] (.int xi :: st) S Q := pv_iload_n (pm_cdi rfl dX7_reach_65) rfl
theorem q138_66 : pm_V d 138 66 [l0, l1, l2, l3, l4, l5] (.int yi :: .int xi :: st) S Q = if xi = yi then pm_V d 138 69 [l0, l1, l2, l3, l4, l5] st S Q else pm_V d 138 73 [l0, l1, l2, l3, l4, l5] st S Q := pv_icmp_ne (pm_cdi rfl dX7_reach_66) rfl
theorem q138_69 : pm_V d 138 69 [l0, l1, l2, l3, l4, l5] st S Q = pm_V d 138 70 [l0, l1, l2, l3, l4, l5] (.int 1 :: st) S Q := pv_iconst (pm_cdi rfl dX7_reach_69) (by decide +kernel)
theorem q138_70 : pm_V d 138 70 [l0, l1, l2, l3, l4, l5] st S Q = pm_V d 138 74 [l0, l1, l2, l3, l4, l5] st S Q := pv_goto (pm_cdi rfl dX7_reach_70) rfl
theorem q138_73 : pm_V d 138 73 [l0, l1, l2, l3, l4, l5] st S Q = pm_V d 138 74 [l0, l1, l2, l3, l4, l5] (.int 0 :: st) S Q := pv_iconst (pm_cdi rfl dX7_reach_73) (by decide +kernel)
theorem q138_74 (hs : pm_ar S an 2 xi = true) (hv : vi = 0 ∨ vi = 1) : pm_V d 138 74 [l0, l1, l2, l3, l4, l5] (.int vi :: .int xi :: .ref an :: st) S Q = pm_V d 138 75 [l0, l1, l2, l3, l4, l5] st (pm_szi S an xi.toNatClampNeg vi) Q := pv_bast (pm_cdi rfl dX7_reach_74) hs hv
theorem q138_75 : pm_V d 138 75 [l0, l1, .int yi, .int xi, l4, l5] st S Q = pm_V d 138 78 [l0, l1, .int yi, .int (xi + 1), l4, l5] st S Q := pv_iinc (pm_cdi rfl dX7_reach_75) rfl (by decide +kernel) rfl
theorem q138_78 : pm_V d 138 78 [l0, l1, l2, l3, l4, l5] st S Q = pm_V d 138 49 [l0, l1, l2, l3, l4, l5] st S Q := pv_goto (pm_cdi rfl dX7_reach_78) rfl
theorem q138_81 : pm_V d 138 81 [l0, l1, l2, l3, l4, l5] st S Q = pm_V d 138 82 [l0, l1, l2, l3, l4, l5] (.int 1 :: st) S Q := pv_iconst (pm_cdi rfl dX7_reach_81) (by decide +kernel)
theorem q138_82 : pm_V d 138 82 [l0, l1, .int yi, l3, l4, l5] (.int xi :: st) S Q = pm_V d 138 83 [l0, l1, .int yi, .int xi, l4, l5] st S Q := pv_istore_n (pm_cdi rfl dX7_reach_82) rfl
theorem q138_83 : pm_V d 138 83 [l0, l1, l2, l3, l4, l5] st S Q = pm_V d 138 84 [l0, l1, l2, l3, l4, l5] (.int 1 :: st) S Q := pv_iconst (pm_cdi rfl dX7_reach_83) (by decide +kernel)
theorem q138_84 : pm_V d 138 84 [l0, l1, l2, .int yi, l4, l5] (.int xi :: st) S Q = pm_V d 138 86 [l0, l1, l2, .int yi, .int xi, l5] st S Q := pv_istore (pm_cdi rfl dX7_reach_84) rfl
theorem q138_86 : pm_V d 138 86 [l0, l1, l2, l3, .int xi, l5] st S Q = pm_V d 138 88 [l0, l1, l2, l3, .int xi, l5] (.int xi :: st) S Q := pv_iload (pm_cdi rfl dX7_reach_86) rfl
theorem q138_88 : pm_V d 138 88 [l0, l1, l2, l3, l4, l5] (.int xi :: st) S Q = if xi = 0 then pm_V d 138 166 [l0, l1, l2, l3, l4, l5] st S Q else pm_V d 138 91 [l0, l1, l2, l3, l4, l5] st S Q := pv_if_eq (pm_cdi rfl dX7_reach_88) rfl
theorem q138_91 : pm_V d 138 91 [l0, l1, l2, l3, l4, l5] st S Q = pm_V d 138 92 [l0, l1, l2, l3, l4, l5] (.int 0 :: st) S Q := pv_iconst (pm_cdi rfl dX7_reach_91) (by decide +kernel)
theorem q138_92 : pm_V d 138 92 [l0, l1, l2, .int yi, l4, l5] (.int xi :: st) S Q = pm_V d 138 94 [l0, l1, l2, .int yi, .int xi, l5] st S Q := pv_istore (pm_cdi rfl dX7_reach_92) rfl
theorem q138_94 : pm_V d 138 94 [l0, l1, l2, l3, l4, l5] st S Q = pm_V d 138 95 [l0, l1, l2, l3, l4, l5] (.int 0 :: st) S Q := pv_iconst (pm_cdi rfl dX7_reach_94) (by decide +kernel)
theorem q138_95 : pm_V d 138 95 [l0, l1, l2, l3, .int yi, l5] (.int xi :: st) S Q = pm_V d 138 97 [l0, l1, l2, l3, .int yi, .int xi] st S Q := pv_istore (pm_cdi rfl dX7_reach_95) rfl
theorem q138_97 : pm_V d 138 97 [l0, l1, l2, l3, l4, .int xi] st S Q = pm_V d 138 99 [l0, l1, l2, l3, l4, .int xi] (.int xi :: st) S Q := pv_iload (pm_cdi rfl dX7_reach_97) rfl
theorem q138_99 : pm_V d 138 99 [.ref xn, l1, l2, l3, l4, l5] st S Q = pm_V d 138 100 [.ref xn, l1, l2, l3, l4, l5] (.ref xn :: st) S Q := pv_aload_n (pm_cdi rfl dX7_reach_99) rfl
theorem q138_100 (hs : pm_sh S an = .inr 7) : pm_V d 138 100 [l0, l1, l2, l3, l4, l5] (.ref an :: st) S Q = pm_V d 138 103 [l0, l1, l2, l3, l4, l5] (va_rf (pm_gr S an 9) :: st) S Q := pv_getA (pm_cdi rfl dX7_reach_100) (by decide +kernel) (by decide +kernel) (by decide +kernel) hs
theorem q138_103 : pm_V d 138 103 [l0, .int xi, l2, l3, l4, l5] st S Q = pm_V d 138 104 [l0, .int xi, l2, l3, l4, l5] (.int xi :: st) S Q := pv_iload_n (pm_cdi rfl dX7_reach_103) rfl
theorem q138_104 (hs : pm_ar S an 0 xi = true) : pm_V d 138 104 [l0, l1, l2, l3, l4, l5] (.int xi :: .ref an :: st) S Q = pm_V d 138 105 [l0, l1, l2, l3, l4, l5] (.int (pm_zi S an xi.toNatClampNeg) :: st) S Q := pv_iald (pm_cdi rfl dX7_reach_104) hs
theorem q138_105 : pm_V d 138 105 [l0, l1, l2, l3, l4, l5] (.int yi :: .int xi :: st) S Q = if xi < yi then pm_V d 138 108 [l0, l1, l2, l3, l4, l5] st S Q else pm_V d 138 163 [l0, l1, l2, l3, l4, l5] st S Q := pv_icmp_ge (pm_cdi rfl dX7_reach_105) rfl
theorem q138_108 : pm_V d 138 108 [.ref xn, l1, l2, l3, l4, l5] st S Q = pm_V d 138 109 [.ref xn, l1, l2, l3, l4, l5] (.ref xn :: st) S Q := pv_aload_n (pm_cdi rfl dX7_reach_108) rfl
theorem q138_109 (hs : pm_sh S an = .inr 7) : pm_V d 138 109 [l0, l1, l2, l3, l4, l5] (.ref an :: st) S Q = pm_V d 138 112 [l0, l1, l2, l3, l4, l5] (va_rf (pm_gr S an 41) :: st) S Q := pv_getA (pm_cdi rfl dX7_reach_109) (by decide +kernel) (by decide +kernel) (by decide +kernel) hs
theorem q138_112 : pm_V d 138 112 [.ref xn, l1, l2, l3, l4, l5] st S Q = pm_V d 138 113 [.ref xn, l1, l2, l3, l4, l5] (.ref xn :: st) S Q := pv_aload_n (pm_cdi rfl dX7_reach_112) rfl
theorem q138_113 : pm_V d 138 113 [l0, .int xi, l2, l3, l4, l5] st S Q = pm_V d 138 114 [l0, .int xi, l2, l3, l4, l5] (.int xi :: st) S Q := pv_iload_n (pm_cdi rfl dX7_reach_113) rfl
theorem q138_114 : pm_V d 138 114 [l0, l1, l2, l3, l4, .int xi] st S Q = pm_V d 138 116 [l0, l1, l2, l3, l4, .int xi] (.int xi :: st) S Q := pv_iload (pm_cdi rfl dX7_reach_114) rfl
theorem q138_116 (hs : pm_sh S an = .inr 7) : pm_V (d + 1) 138 116 [l0, l1, l2, l3, l4, l5] [.int v1i, .int v0i, .ref an, .ref r0n] S Q = pm_N d 104 [.ref an, .int v0i, .int v1i] S (fun r S' => pm_V (d + 1) 138 119 [l0, l1, l2, l3, l4, l5] (r.toList ++ [.ref r0n]) S' Q) := pv_callV (as := [.int v0i, .int v1i]) (pm_cdi rfl dX7_reach_116) (Or.inl (by decide +kernel)) (by decide +kernel) (show _ = _ from (by decide +kernel : 2 = pm_np 104)) rfl (Nat.le_of_ble_eq_true rfl) (cl := 7) (by decide +kernel) hs
theorem q138_119 (hs : pm_ar S an 2 xi = true) : pm_V d 138 119 [l0, l1, l2, l3, l4, l5] (.int xi :: .ref an :: st) S Q = pm_V d 138 120 [l0, l1, l2, l3, l4, l5] (.int (pm_zi S an xi.toNatClampNeg) :: st) S Q := pv_bald (pm_cdi rfl dX7_reach_119) hs
theorem q138_120 : pm_V d 138 120 [l0, l1, l2, l3, l4, l5] (.int xi :: st) S Q = if xi = 0 then pm_V d 138 157 [l0, l1, l2, l3, l4, l5] st S Q else pm_V d 138 123 [l0, l1, l2, l3, l4, l5] st S Q := pv_if_eq (pm_cdi rfl dX7_reach_120) rfl
theorem q138_123 : pm_V d 138 123 [.ref xn, l1, l2, l3, l4, l5] st S Q = pm_V d 138 124 [.ref xn, l1, l2, l3, l4, l5] (.ref xn :: st) S Q := pv_aload_n (pm_cdi rfl dX7_reach_123) rfl
theorem q138_124 (hs : pm_sh S an = .inr 7) : pm_V d 138 124 [l0, l1, l2, l3, l4, l5] (.ref an :: st) S Q = pm_V d 138 127 [l0, l1, l2, l3, l4, l5] (va_rf (pm_gr S an 41) :: st) S Q := pv_getA (pm_cdi rfl dX7_reach_124) (by decide +kernel) (by decide +kernel) (by decide +kernel) hs
theorem q138_127 : pm_V d 138 127 [.ref xn, l1, l2, l3, l4, l5] st S Q = pm_V d 138 128 [.ref xn, l1, l2, l3, l4, l5] (.ref xn :: st) S Q := pv_aload_n (pm_cdi rfl dX7_reach_127) rfl
theorem q138_128 : pm_V d 138 128 [l0, .int xi, l2, l3, l4, l5] st S Q = pm_V d 138 129 [l0, .int xi, l2, l3, l4, l5] (.int xi :: st) S Q := pv_iload_n (pm_cdi rfl dX7_reach_128) rfl
theorem q138_129 : pm_V d 138 129 [l0, l1, l2, l3, l4, .int xi] st S Q = pm_V d 138 131 [l0, l1, l2, l3, l4, .int xi] (.int xi :: st) S Q := pv_iload (pm_cdi rfl dX7_reach_129) rfl
theorem q138_131 (hs : pm_sh S an = .inr 7) : pm_V (d + 1) 138 131 [l0, l1, l2, l3, l4, l5] [.int v1i, .int v0i, .ref an, .ref r0n] S Q = pm_N d 105 [.ref an, .int v0i, .int v1i] S (fun r S' => pm_V (d + 1) 138 134 [l0, l1, l2, l3, l4, l5] (r.toList ++ [.ref r0n]) S' Q) := pv_callV (as := [.int v0i, .int v1i]) (pm_cdi rfl dX7_reach_131) (Or.inl (by decide +kernel)) (by decide +kernel) (show _ = _ from (by decide +kernel : 2 = pm_np 105)) rfl (Nat.le_of_ble_eq_true rfl) (cl := 7) (by decide +kernel) hs
theorem q138_134 (hs : pm_ar S an 2 xi = true) : pm_V d 138 134 [l0, l1, l2, l3, l4, l5] (.int xi :: .ref an :: st) S Q = pm_V d 138 135 [l0, l1, l2, l3, l4, l5] (.int (pm_zi S an xi.toNatClampNeg) :: st) S Q := pv_bald (pm_cdi rfl dX7_reach_134) hs
theorem q138_135 : pm_V d 138 135 [l0, l1, l2, l3, l4, l5] (.int xi :: st) S Q = if xi = 0 then pm_V d 138 138 [l0, l1, l2, l3, l4, l5] st S Q else pm_V d 138 157 [l0, l1, l2, l3, l4, l5] st S Q := pv_if_ne (pm_cdi rfl dX7_reach_135) rfl
theorem q138_138 : pm_V d 138 138 [.ref xn, l1, l2, l3, l4, l5] st S Q = pm_V d 138 139 [.ref xn, l1, l2, l3, l4, l5] (.ref xn :: st) S Q := pv_aload_n (pm_cdi rfl dX7_reach_138) rfl
theorem q138_139 (hs : pm_sh S an = .inr 7) : pm_V d 138 139 [l0, l1, l2, l3, l4, l5] (.ref an :: st) S Q = pm_V d 138 142 [l0, l1, l2, l3, l4, l5] (va_rf (pm_gr S an 41) :: st) S Q := pv_getA (pm_cdi rfl dX7_reach_139) (by decide +kernel) (by decide +kernel) (by decide +kernel) hs
theorem q138_142 : pm_V d 138 142 [.ref xn, l1, l2, l3, l4, l5] st S Q = pm_V d 138 143 [.ref xn, l1, l2, l3, l4, l5] (.ref xn :: st) S Q := pv_aload_n (pm_cdi rfl dX7_reach_142) rfl
theorem q138_143 : pm_V d 138 143 [l0, .int xi, l2, l3, l4, l5] st S Q = pm_V d 138 144 [l0, .int xi, l2, l3, l4, l5] (.int xi :: st) S Q := pv_iload_n (pm_cdi rfl dX7_reach_143) rfl
theorem q138_144 : pm_V d 138 144 [l0, l1, l2, l3, l4, .int xi] st S Q = pm_V d 138 146 [l0, l1, l2, l3, l4, .int xi] (.int xi :: st) S Q := pv_iload (pm_cdi rfl dX7_reach_144) rfl
theorem q138_146 (hs : pm_sh S an = .inr 7) : pm_V (d + 1) 138 146 [l0, l1, l2, l3, l4, l5] [.int v1i, .int v0i, .ref an, .ref r0n] S Q = pm_N d 105 [.ref an, .int v0i, .int v1i] S (fun r S' => pm_V (d + 1) 138 149 [l0, l1, l2, l3, l4, l5] (r.toList ++ [.ref r0n]) S' Q) := pv_callV (as := [.int v0i, .int v1i]) (pm_cdi rfl dX7_reach_146) (Or.inl (by decide +kernel)) (by decide +kernel) (show _ = _ from (by decide +kernel : 2 = pm_np 105)) rfl (Nat.le_of_ble_eq_true rfl) (cl := 7) (by decide +kernel) hs
theorem q138_149 : pm_V d 138 149 [l0, l1, l2, l3, l4, l5] st S Q = pm_V d 138 150 [l0, l1, l2, l3, l4, l5] (.int 1 :: st) S Q := pv_iconst (pm_cdi rfl dX7_reach_149) (by decide +kernel)
theorem q138_150 (hs : pm_ar S an 2 xi = true) (hv : vi = 0 ∨ vi = 1) : pm_V d 138 150 [l0, l1, l2, l3, l4, l5] (.int vi :: .int xi :: .ref an :: st) S Q = pm_V d 138 151 [l0, l1, l2, l3, l4, l5] st (pm_szi S an xi.toNatClampNeg vi) Q := pv_bast (pm_cdi rfl dX7_reach_150) hs hv
theorem q138_151 : pm_V d 138 151 [l0, l1, .int yi, .int xi, l4, l5] st S Q = pm_V d 138 154 [l0, l1, .int yi, .int (xi + 1), l4, l5] st S Q := pv_iinc (pm_cdi rfl dX7_reach_151) rfl (by decide +kernel) rfl
theorem q138_154 : pm_V d 138 154 [l0, l1, l2, l3, l4, l5] st S Q = pm_V d 138 155 [l0, l1, l2, l3, l4, l5] (.int 1 :: st) S Q := pv_iconst (pm_cdi rfl dX7_reach_154) (by decide +kernel)
theorem q138_155 : pm_V d 138 155 [l0, l1, l2, .int yi, l4, l5] (.int xi :: st) S Q = pm_V d 138 157 [l0, l1, l2, .int yi, .int xi, l5] st S Q := pv_istore (pm_cdi rfl dX7_reach_155) rfl
theorem q138_157 : pm_V d 138 157 [l0, l1, l2, l3, .int yi, .int xi] st S Q = pm_V d 138 160 [l0, l1, l2, l3, .int yi, .int (xi + 1)] st S Q := pv_iinc (pm_cdi rfl dX7_reach_157) rfl (by decide +kernel) rfl
theorem q138_160 : pm_V d 138 160 [l0, l1, l2, l3, l4, l5] st S Q = pm_V d 138 97 [l0, l1, l2, l3, l4, l5] st S Q := pv_goto (pm_cdi rfl dX7_reach_160) rfl
theorem q138_163 : pm_V d 138 163 [l0, l1, l2, l3, l4, l5] st S Q = pm_V d 138 86 [l0, l1, l2, l3, l4, l5] st S Q := pv_goto (pm_cdi rfl dX7_reach_163) rfl
theorem q138_166 : pm_V d 138 166 [l0, l1, l2, .int xi, l4, l5] st S Q = pm_V d 138 167 [l0, l1, l2, .int xi, l4, l5] (.int xi :: st) S Q := pv_iload_n (pm_cdi rfl dX7_reach_166) rfl
theorem q138_167 : pm_V d 138 167 [l0, l1, l2, l3, l4, l5] [.int xi] S Q = Q (some (.int xi)) S := pv_rI (pm_cdi rfl dX7_reach_167) (by decide +kernel)
theorem q138_e : pm_N d 138 [.ref an, .int v0i, .int v1i] S Q = pm_V d 138 0 [.ref an, .int v0i, .int v1i, pm_j, pm_j, pm_j] [] S Q := pv_ent (Nat.le_of_ble_eq_true rfl) rfl
/-! 139: ViewsJoinsModel.ask(IIII)I -/
theorem dX7_ask_0 : decode cX7_ask 0 = .ok (.aload_n 0, 1) := by decide +kernel
theorem dX7_ask_1 : decode cX7_ask 1 = .ok (.iload_n 1, 1) := by decide +kernel
theorem dX7_ask_2 : decode cX7_ask 2 = .ok (.invokevirtual 123, 3) := by decide +kernel
theorem dX7_ask_5 : decode cX7_ask 5 = .ok (.ifCond .eq 21, 3) := by decide +kernel
theorem dX7_ask_8 : decode cX7_ask 8 = .ok (.iload_n 2, 1) := by decide +kernel
theorem dX7_ask_9 : decode cX7_ask 9 = .ok (.iconst 0, 1) := by decide +kernel
theorem dX7_ask_10 : decode cX7_ask 10 = .ok (.iconst 1, 1) := by decide +kernel
theorem dX7_ask_11 : decode cX7_ask 11 = .ok (.invokestatic 119, 3) := by decide +kernel
theorem dX7_ask_14 : decode cX7_ask 14 = .ok (.ifCond .eq 12, 3) := by decide +kernel
theorem dX7_ask_17 : decode cX7_ask 17 = .ok (.aload_n 0, 1) := by decide +kernel
theorem dX7_ask_18 : decode cX7_ask 18 = .ok (.iload 4, 2) := by decide +kernel
theorem dX7_ask_20 : decode cX7_ask 20 = .ok (.invokevirtual 144, 3) := by decide +kernel
theorem dX7_ask_23 : decode cX7_ask 23 = .ok (.ifCond .ne 6, 3) := by decide +kernel
theorem dX7_ask_26 : decode cX7_ask 26 = .ok (.ldc 130, 2) := by decide +kernel
theorem dX7_ask_28 : decode cX7_ask 28 = .ok (.ireturn, 1) := by decide +kernel
theorem dX7_ask_29 : decode cX7_ask 29 = .ok (.aload_n 0, 1) := by decide +kernel
theorem dX7_ask_30 : decode cX7_ask 30 = .ok (.invokevirtual 264, 3) := by decide +kernel
theorem dX7_ask_33 : decode cX7_ask 33 = .ok (.aload_n 0, 1) := by decide +kernel
theorem dX7_ask_34 : decode cX7_ask 34 = .ok (.getfield 29, 3) := by decide +kernel
theorem dX7_ask_37 : decode cX7_ask 37 = .ok (.iload_n 1, 1) := by decide +kernel
theorem dX7_ask_38 : decode cX7_ask 38 = .ok (.iaload, 1) := by decide +kernel
theorem dX7_ask_39 : decode cX7_ask 39 = .ok (.ifCond .eq 7, 3) := by decide +kernel
theorem dX7_ask_42 : decode cX7_ask 42 = .ok (.ldc_w 267, 3) := by decide +kernel
theorem dX7_ask_45 : decode cX7_ask 45 = .ok (.ireturn, 1) := by decide +kernel
theorem dX7_ask_46 : decode cX7_ask 46 = .ok (.iload_n 3, 1) := by decide +kernel
theorem dX7_ask_47 : decode cX7_ask 47 = .ok (.iconst 0, 1) := by decide +kernel
theorem dX7_ask_48 : decode cX7_ask 48 = .ok (.aload_n 0, 1) := by decide +kernel
theorem dX7_ask_49 : decode cX7_ask 49 = .ok (.iload_n 1, 1) := by decide +kernel
theorem dX7_ask_50 : decode cX7_ask 50 = .ok (.iload_n 2, 1) := by decide +kernel
theorem dX7_ask_51 : decode cX7_ask 51 = .ok (.invokevirtual 272, 3) := by decide +kernel
theorem dX7_ask_54 : decode cX7_ask 54 = .ok (.iconst 1, 1) := by decide +kernel
theorem dX7_ask_55 : decode cX7_ask 55 = .ok (.isub, 1) := by decide +kernel
theorem dX7_ask_56 : decode cX7_ask 56 = .ok (.invokestatic 119, 3) := by decide +kernel
theorem dX7_ask_59 : decode cX7_ask 59 = .ok (.ifCond .ne 6, 3) := by decide +kernel
theorem dX7_ask_62 : decode cX7_ask 62 = .ok (.ldc 130, 2) := by decide +kernel
theorem dX7_ask_64 : decode cX7_ask 64 = .ok (.ireturn, 1) := by decide +kernel
theorem dX7_ask_65 : decode cX7_ask 65 = .ok (.aload_n 0, 1) := by decide +kernel
theorem dX7_ask_66 : decode cX7_ask 66 = .ok (.iconst 0, 1) := by decide +kernel
theorem dX7_ask_67 : decode cX7_ask 67 = .ok (.putfield 192, 3) := by decide +kernel
theorem dX7_ask_70 : decode cX7_ask 70 = .ok (.aload_n 0, 1) := by decide +kernel
theorem dX7_ask_71 : decode cX7_ask 71 = .ok (.iconst 0, 1) := by decide +kernel
theorem dX7_ask_72 : decode cX7_ask 72 = .ok (.putfield 195, 3) := by decide +kernel
theorem dX7_ask_75 : decode cX7_ask 75 = .ok (.aload_n 0, 1) := by decide +kernel
theorem dX7_ask_76 : decode cX7_ask 76 = .ok (.iload_n 1, 1) := by decide +kernel
theorem dX7_ask_77 : decode cX7_ask 77 = .ok (.iload_n 2, 1) := by decide +kernel
theorem dX7_ask_78 : decode cX7_ask 78 = .ok (.iload_n 3, 1) := by decide +kernel
theorem dX7_ask_79 : decode cX7_ask 79 = .ok (.iload 4, 2) := by decide +kernel
theorem dX7_ask_81 : decode cX7_ask 81 = .ok (.invokevirtual 188, 3) := by decide +kernel
theorem dX7_ask_84 : decode cX7_ask 84 = .ok (.istore 5, 2) := by decide +kernel
theorem dX7_ask_86 : decode cX7_ask 86 = .ok (.iload 5, 2) := by decide +kernel
theorem dX7_ask_88 : decode cX7_ask 88 = .ok (.bipush 10, 2) := by decide +kernel
theorem dX7_ask_90 : decode cX7_ask 90 = .ok (.if_icmp .ge 8, 3) := by decide +kernel
theorem dX7_ask_93 : decode cX7_ask 93 = .ok (.iload 5, 2) := by decide +kernel
theorem dX7_ask_95 : decode cX7_ask 95 = .ok (.goto 6, 3) := by decide +kernel
theorem dX7_ask_98 : decode cX7_ask 98 = .ok (.iload 5, 2) := by decide +kernel
theorem dX7_ask_100 : decode cX7_ask 100 = .ok (.ineg, 1) := by decide +kernel
theorem dX7_ask_101 : decode cX7_ask 101 = .ok (.ireturn, 1) := by decide +kernel
theorem q139_0 : pm_V d 139 0 [.ref xn, l1, l2, l3, l4, l5] st S Q = pm_V d 139 1 [.ref xn, l1, l2, l3, l4, l5] (.ref xn :: st) S Q := pv_aload_n (pm_cdi rfl dX7_ask_0) rfl
theorem q139_1 : pm_V d 139 1 [l0, .int xi, l2, l3, l4, l5] st S Q = pm_V d 139 2 [l0, .int xi, l2, l3, l4, l5] (.int xi :: st) S Q := pv_iload_n (pm_cdi rfl dX7_ask_1) rfl
theorem q139_2 (hs : pm_sh S an = .inr 7) : pm_V (d + 1) 139 2 [l0, l1, l2, l3, l4, l5] [.int v0i, .ref an] S Q = pm_N d 88 [.ref an, .int v0i] S (fun r S' => pm_V (d + 1) 139 5 [l0, l1, l2, l3, l4, l5] (r.toList ++ []) S' Q) := pv_callV (as := [.int v0i]) (pm_cdi rfl dX7_ask_2) (Or.inl (by decide +kernel)) (by decide +kernel) (show _ = _ from (by decide +kernel : 1 = pm_np 88)) rfl (Nat.le_of_ble_eq_true rfl) (cl := 7) (by decide +kernel) hs
theorem q139_5 : pm_V d 139 5 [l0, l1, l2, l3, l4, l5] (.int xi :: st) S Q = if xi = 0 then pm_V d 139 26 [l0, l1, l2, l3, l4, l5] st S Q else pm_V d 139 8 [l0, l1, l2, l3, l4, l5] st S Q := pv_if_eq (pm_cdi rfl dX7_ask_5) rfl
theorem q139_8 : pm_V d 139 8 [l0, l1, .int xi, l3, l4, l5] st S Q = pm_V d 139 9 [l0, l1, .int xi, l3, l4, l5] (.int xi :: st) S Q := pv_iload_n (pm_cdi rfl dX7_ask_8) rfl
theorem q139_9 : pm_V d 139 9 [l0, l1, l2, l3, l4, l5] st S Q = pm_V d 139 10 [l0, l1, l2, l3, l4, l5] (.int 0 :: st) S Q := pv_iconst (pm_cdi rfl dX7_ask_9) (by decide +kernel)
theorem q139_10 : pm_V d 139 10 [l0, l1, l2, l3, l4, l5] st S Q = pm_V d 139 11 [l0, l1, l2, l3, l4, l5] (.int 1 :: st) S Q := pv_iconst (pm_cdi rfl dX7_ask_10) (by decide +kernel)
theorem q139_11 : pm_V (d + 1) 139 11 [l0, l1, l2, l3, l4, l5] [.int v2i, .int v1i, .int v0i] S Q = pm_N d 87 [.int v0i, .int v1i, .int v2i] S (fun r S' => pm_V (d + 1) 139 14 [l0, l1, l2, l3, l4, l5] (r.toList ++ []) S' Q) := pv_callS (as := [.int v0i, .int v1i, .int v2i]) (pm_cdi rfl dX7_ask_11) (by decide +kernel) (by decide +kernel) (show _ = _ from (by decide +kernel : 3 = pm_np 87)) rfl (Nat.le_of_ble_eq_true rfl)
theorem q139_14 : pm_V d 139 14 [l0, l1, l2, l3, l4, l5] (.int xi :: st) S Q = if xi = 0 then pm_V d 139 26 [l0, l1, l2, l3, l4, l5] st S Q else pm_V d 139 17 [l0, l1, l2, l3, l4, l5] st S Q := pv_if_eq (pm_cdi rfl dX7_ask_14) rfl
theorem q139_17 : pm_V d 139 17 [.ref xn, l1, l2, l3, l4, l5] st S Q = pm_V d 139 18 [.ref xn, l1, l2, l3, l4, l5] (.ref xn :: st) S Q := pv_aload_n (pm_cdi rfl dX7_ask_17) rfl
theorem q139_18 : pm_V d 139 18 [l0, l1, l2, l3, .int xi, l5] st S Q = pm_V d 139 20 [l0, l1, l2, l3, .int xi, l5] (.int xi :: st) S Q := pv_iload (pm_cdi rfl dX7_ask_18) rfl
theorem q139_20 (hs : pm_sh S an = .inr 7) : pm_V (d + 1) 139 20 [l0, l1, l2, l3, l4, l5] [.int v0i, .ref an] S Q = pm_N d 91 [.ref an, .int v0i] S (fun r S' => pm_V (d + 1) 139 23 [l0, l1, l2, l3, l4, l5] (r.toList ++ []) S' Q) := pv_callV (as := [.int v0i]) (pm_cdi rfl dX7_ask_20) (Or.inl (by decide +kernel)) (by decide +kernel) (show _ = _ from (by decide +kernel : 1 = pm_np 91)) rfl (Nat.le_of_ble_eq_true rfl) (cl := 7) (by decide +kernel) hs
theorem q139_23 : pm_V d 139 23 [l0, l1, l2, l3, l4, l5] (.int xi :: st) S Q = if xi = 0 then pm_V d 139 26 [l0, l1, l2, l3, l4, l5] st S Q else pm_V d 139 29 [l0, l1, l2, l3, l4, l5] st S Q := pv_if_ne (pm_cdi rfl dX7_ask_23) rfl
theorem q139_26 : pm_V d 139 26 [l0, l1, l2, l3, l4, l5] st S Q = pm_V d 139 28 [l0, l1, l2, l3, l4, l5] (.int (-1000001) :: st) S Q := pv_ldc (pm_cdi rfl dX7_ask_26) (by decide +kernel)
theorem q139_28 : pm_V d 139 28 [l0, l1, l2, l3, l4, l5] [.int xi] S Q = Q (some (.int xi)) S := pv_rI (pm_cdi rfl dX7_ask_28) (by decide +kernel)
theorem q139_29 : pm_V d 139 29 [.ref xn, l1, l2, l3, l4, l5] st S Q = pm_V d 139 30 [.ref xn, l1, l2, l3, l4, l5] (.ref xn :: st) S Q := pv_aload_n (pm_cdi rfl dX7_ask_29) rfl
theorem q139_30 (hs : pm_sh S an = .inr 7) : pm_V (d + 1) 139 30 [l0, l1, l2, l3, l4, l5] [.ref an] S Q = pm_N d 99 [.ref an] S (fun r S' => pm_V (d + 1) 139 33 [l0, l1, l2, l3, l4, l5] (r.toList ++ []) S' Q) := pv_callV (as := []) (pm_cdi rfl dX7_ask_30) (Or.inl (by decide +kernel)) (by decide +kernel) (show _ = _ from (by decide +kernel : 0 = pm_np 99)) rfl (Nat.le_of_ble_eq_true rfl) (cl := 7) (by decide +kernel) hs
theorem q139_33 : pm_V d 139 33 [.ref xn, l1, l2, l3, l4, l5] st S Q = pm_V d 139 34 [.ref xn, l1, l2, l3, l4, l5] (.ref xn :: st) S Q := pv_aload_n (pm_cdi rfl dX7_ask_33) rfl
theorem q139_34 (hs : pm_sh S an = .inr 7) : pm_V d 139 34 [l0, l1, l2, l3, l4, l5] (.ref an :: st) S Q = pm_V d 139 37 [l0, l1, l2, l3, l4, l5] (va_rf (pm_gr S an 7) :: st) S Q := pv_getA (pm_cdi rfl dX7_ask_34) (by decide +kernel) (by decide +kernel) (by decide +kernel) hs
theorem q139_37 : pm_V d 139 37 [l0, .int xi, l2, l3, l4, l5] st S Q = pm_V d 139 38 [l0, .int xi, l2, l3, l4, l5] (.int xi :: st) S Q := pv_iload_n (pm_cdi rfl dX7_ask_37) rfl
theorem q139_38 (hs : pm_ar S an 0 xi = true) : pm_V d 139 38 [l0, l1, l2, l3, l4, l5] (.int xi :: .ref an :: st) S Q = pm_V d 139 39 [l0, l1, l2, l3, l4, l5] (.int (pm_zi S an xi.toNatClampNeg) :: st) S Q := pv_iald (pm_cdi rfl dX7_ask_38) hs
theorem q139_39 : pm_V d 139 39 [l0, l1, l2, l3, l4, l5] (.int xi :: st) S Q = if xi = 0 then pm_V d 139 46 [l0, l1, l2, l3, l4, l5] st S Q else pm_V d 139 42 [l0, l1, l2, l3, l4, l5] st S Q := pv_if_eq (pm_cdi rfl dX7_ask_39) rfl
theorem q139_42 : pm_V d 139 42 [l0, l1, l2, l3, l4, l5] st S Q = pm_V d 139 45 [l0, l1, l2, l3, l4, l5] (.int (-1000003) :: st) S Q := pv_ldcw (pm_cdi rfl dX7_ask_42) (by decide +kernel)
theorem q139_45 : pm_V d 139 45 [l0, l1, l2, l3, l4, l5] [.int xi] S Q = Q (some (.int xi)) S := pv_rI (pm_cdi rfl dX7_ask_45) (by decide +kernel)
theorem q139_46 : pm_V d 139 46 [l0, l1, l2, .int xi, l4, l5] st S Q = pm_V d 139 47 [l0, l1, l2, .int xi, l4, l5] (.int xi :: st) S Q := pv_iload_n (pm_cdi rfl dX7_ask_46) rfl
theorem q139_47 : pm_V d 139 47 [l0, l1, l2, l3, l4, l5] st S Q = pm_V d 139 48 [l0, l1, l2, l3, l4, l5] (.int 0 :: st) S Q := pv_iconst (pm_cdi rfl dX7_ask_47) (by decide +kernel)
theorem q139_48 : pm_V d 139 48 [.ref xn, l1, l2, l3, l4, l5] st S Q = pm_V d 139 49 [.ref xn, l1, l2, l3, l4, l5] (.ref xn :: st) S Q := pv_aload_n (pm_cdi rfl dX7_ask_48) rfl
theorem q139_49 : pm_V d 139 49 [l0, .int xi, l2, l3, l4, l5] st S Q = pm_V d 139 50 [l0, .int xi, l2, l3, l4, l5] (.int xi :: st) S Q := pv_iload_n (pm_cdi rfl dX7_ask_49) rfl
theorem q139_50 : pm_V d 139 50 [l0, l1, .int xi, l3, l4, l5] st S Q = pm_V d 139 51 [l0, l1, .int xi, l3, l4, l5] (.int xi :: st) S Q := pv_iload_n (pm_cdi rfl dX7_ask_50) rfl
theorem q139_51 (hs : pm_sh S an = .inr 7) : pm_V (d + 1) 139 51 [l0, l1, l2, l3, l4, l5] [.int v1i, .int v0i, .ref an, .int r0i, .int r1i] S Q = pm_N d 131 [.ref an, .int v0i, .int v1i] S (fun r S' => pm_V (d + 1) 139 54 [l0, l1, l2, l3, l4, l5] (r.toList ++ [.int r0i, .int r1i]) S' Q) := pv_callV (as := [.int v0i, .int v1i]) (pm_cdi rfl dX7_ask_51) (Or.inl (by decide +kernel)) (by decide +kernel) (show _ = _ from (by decide +kernel : 2 = pm_np 131)) rfl (Nat.le_of_ble_eq_true rfl) (cl := 7) (by decide +kernel) hs
theorem q139_54 : pm_V d 139 54 [l0, l1, l2, l3, l4, l5] st S Q = pm_V d 139 55 [l0, l1, l2, l3, l4, l5] (.int 1 :: st) S Q := pv_iconst (pm_cdi rfl dX7_ask_54) (by decide +kernel)
theorem q139_55 : pm_V d 139 55 [l0, l1, l2, l3, l4, l5] (.int yi :: .int xi :: st) S Q = pm_V d 139 56 [l0, l1, l2, l3, l4, l5] (.int (xi - yi) :: st) S Q := pv_isub (pm_cdi rfl dX7_ask_55)
theorem q139_56 : pm_V (d + 1) 139 56 [l0, l1, l2, l3, l4, l5] [.int v2i, .int v1i, .int v0i] S Q = pm_N d 87 [.int v0i, .int v1i, .int v2i] S (fun r S' => pm_V (d + 1) 139 59 [l0, l1, l2, l3, l4, l5] (r.toList ++ []) S' Q) := pv_callS (as := [.int v0i, .int v1i, .int v2i]) (pm_cdi rfl dX7_ask_56) (by decide +kernel) (by decide +kernel) (show _ = _ from (by decide +kernel : 3 = pm_np 87)) rfl (Nat.le_of_ble_eq_true rfl)
theorem q139_59 : pm_V d 139 59 [l0, l1, l2, l3, l4, l5] (.int xi :: st) S Q = if xi = 0 then pm_V d 139 62 [l0, l1, l2, l3, l4, l5] st S Q else pm_V d 139 65 [l0, l1, l2, l3, l4, l5] st S Q := pv_if_ne (pm_cdi rfl dX7_ask_59) rfl
theorem q139_62 : pm_V d 139 62 [l0, l1, l2, l3, l4, l5] st S Q = pm_V d 139 64 [l0, l1, l2, l3, l4, l5] (.int (-1000001) :: st) S Q := pv_ldc (pm_cdi rfl dX7_ask_62) (by decide +kernel)
theorem q139_64 : pm_V d 139 64 [l0, l1, l2, l3, l4, l5] [.int xi] S Q = Q (some (.int xi)) S := pv_rI (pm_cdi rfl dX7_ask_64) (by decide +kernel)
theorem q139_65 : pm_V d 139 65 [.ref xn, l1, l2, l3, l4, l5] st S Q = pm_V d 139 66 [.ref xn, l1, l2, l3, l4, l5] (.ref xn :: st) S Q := pv_aload_n (pm_cdi rfl dX7_ask_65) rfl
theorem q139_66 : pm_V d 139 66 [l0, l1, l2, l3, l4, l5] st S Q = pm_V d 139 67 [l0, l1, l2, l3, l4, l5] (.int 0 :: st) S Q := pv_iconst (pm_cdi rfl dX7_ask_66) (by decide +kernel)
theorem q139_67 (hs : pm_sh S an = .inr 7) : pm_V d 139 67 [l0, l1, l2, l3, l4, l5] (.int xi :: .ref an :: st) S Q = pm_V d 139 70 [l0, l1, l2, l3, l4, l5] st (pm_sgi S an 29 xi) Q := pv_putI (pm_cdi rfl dX7_ask_67) (by decide +kernel) (by decide +kernel) (by decide +kernel) hs
theorem q139_70 : pm_V d 139 70 [.ref xn, l1, l2, l3, l4, l5] st S Q = pm_V d 139 71 [.ref xn, l1, l2, l3, l4, l5] (.ref xn :: st) S Q := pv_aload_n (pm_cdi rfl dX7_ask_70) rfl
theorem q139_71 : pm_V d 139 71 [l0, l1, l2, l3, l4, l5] st S Q = pm_V d 139 72 [l0, l1, l2, l3, l4, l5] (.int 0 :: st) S Q := pv_iconst (pm_cdi rfl dX7_ask_71) (by decide +kernel)
theorem q139_72 (hs : pm_sh S an = .inr 7) : pm_V d 139 72 [l0, l1, l2, l3, l4, l5] (.int xi :: .ref an :: st) S Q = pm_V d 139 75 [l0, l1, l2, l3, l4, l5] st (pm_sgi S an 30 xi) Q := pv_putI (pm_cdi rfl dX7_ask_72) (by decide +kernel) (by decide +kernel) (by decide +kernel) hs
theorem q139_75 : pm_V d 139 75 [.ref xn, l1, l2, l3, l4, l5] st S Q = pm_V d 139 76 [.ref xn, l1, l2, l3, l4, l5] (.ref xn :: st) S Q := pv_aload_n (pm_cdi rfl dX7_ask_75) rfl
theorem q139_76 : pm_V d 139 76 [l0, .int xi, l2, l3, l4, l5] st S Q = pm_V d 139 77 [l0, .int xi, l2, l3, l4, l5] (.int xi :: st) S Q := pv_iload_n (pm_cdi rfl dX7_ask_76) rfl
theorem q139_77 : pm_V d 139 77 [l0, l1, .int xi, l3, l4, l5] st S Q = pm_V d 139 78 [l0, l1, .int xi, l3, l4, l5] (.int xi :: st) S Q := pv_iload_n (pm_cdi rfl dX7_ask_77) rfl
theorem q139_78 : pm_V d 139 78 [l0, l1, l2, .int xi, l4, l5] st S Q = pm_V d 139 79 [l0, l1, l2, .int xi, l4, l5] (.int xi :: st) S Q := pv_iload_n (pm_cdi rfl dX7_ask_78) rfl
theorem q139_79 : pm_V d 139 79 [l0, l1, l2, l3, .int xi, l5] st S Q = pm_V d 139 81 [l0, l1, l2, l3, .int xi, l5] (.int xi :: st) S Q := pv_iload (pm_cdi rfl dX7_ask_79) rfl
theorem q139_81 (hs : pm_sh S an = .inr 7) : pm_V (d + 1) 139 81 [l0, l1, l2, l3, l4, l5] [.int v3i, .int v2i, .int v1i, .int v0i, .ref an] S Q = pm_N d 122 [.ref an, .int v0i, .int v1i, .int v2i, .int v3i] S (fun r S' => pm_V (d + 1) 139 84 [l0, l1, l2, l3, l4, l5] (r.toList ++ []) S' Q) := pv_callV (as := [.int v0i, .int v1i, .int v2i, .int v3i]) (pm_cdi rfl dX7_ask_81) (Or.inl (by decide +kernel)) (by decide +kernel) (show _ = _ from (by decide +kernel : 4 = pm_np 122)) rfl (Nat.le_of_ble_eq_true rfl) (cl := 7) (by decide +kernel) hs
theorem q139_84 : pm_V d 139 84 [l0, l1, l2, l3, .int yi, l5] (.int xi :: st) S Q = pm_V d 139 86 [l0, l1, l2, l3, .int yi, .int xi] st S Q := pv_istore (pm_cdi rfl dX7_ask_84) rfl
theorem q139_86 : pm_V d 139 86 [l0, l1, l2, l3, l4, .int xi] st S Q = pm_V d 139 88 [l0, l1, l2, l3, l4, .int xi] (.int xi :: st) S Q := pv_iload (pm_cdi rfl dX7_ask_86) rfl
theorem q139_88 : pm_V d 139 88 [l0, l1, l2, l3, l4, l5] st S Q = pm_V d 139 90 [l0, l1, l2, l3, l4, l5] (.int 10 :: st) S Q := pv_bipush (pm_cdi rfl dX7_ask_88) (by decide +kernel)
theorem q139_90 : pm_V d 139 90 [l0, l1, l2, l3, l4, l5] (.int yi :: .int xi :: st) S Q = if xi < yi then pm_V d 139 93 [l0, l1, l2, l3, l4, l5] st S Q else pm_V d 139 98 [l0, l1, l2, l3, l4, l5] st S Q := pv_icmp_ge (pm_cdi rfl dX7_ask_90) rfl
theorem q139_93 : pm_V d 139 93 [l0, l1, l2, l3, l4, .int xi] st S Q = pm_V d 139 95 [l0, l1, l2, l3, l4, .int xi] (.int xi :: st) S Q := pv_iload (pm_cdi rfl dX7_ask_93) rfl
theorem q139_95 : pm_V d 139 95 [l0, l1, l2, l3, l4, l5] st S Q = pm_V d 139 101 [l0, l1, l2, l3, l4, l5] st S Q := pv_goto (pm_cdi rfl dX7_ask_95) rfl
theorem q139_98 : pm_V d 139 98 [l0, l1, l2, l3, l4, .int xi] st S Q = pm_V d 139 100 [l0, l1, l2, l3, l4, .int xi] (.int xi :: st) S Q := pv_iload (pm_cdi rfl dX7_ask_98) rfl
theorem q139_100 : pm_V d 139 100 [l0, l1, l2, l3, l4, l5] (.int xi :: st) S Q = pm_V d 139 101 [l0, l1, l2, l3, l4, l5] (.int (-xi) :: st) S Q := pv_ineg (pm_cdi rfl dX7_ask_100)
theorem q139_101 : pm_V d 139 101 [l0, l1, l2, l3, l4, l5] [.int xi] S Q = Q (some (.int xi)) S := pv_rI (pm_cdi rfl dX7_ask_101) (by decide +kernel)
theorem q139_e : pm_N d 139 [.ref an, .int v0i, .int v1i, .int v2i, .int v3i] S Q = pm_V d 139 0 [.ref an, .int v0i, .int v1i, .int v2i, .int v3i, pm_j] [] S Q := pv_ent (Nat.le_of_ble_eq_true rfl) rfl
/-! 140: ViewsJoinsModel.count(I)I -/
theorem dX7_count_0 : decode cX7_count 0 = .ok (.iload_n 1, 1) := by decide +kernel
theorem dX7_count_1 : decode cX7_count 1 = .ok (.iconst 0, 1) := by decide +kernel
theorem dX7_count_2 : decode cX7_count 2 = .ok (.iconst 2, 1) := by decide +kernel
theorem dX7_count_3 : decode cX7_count 3 = .ok (.invokestatic 119, 3) := by decide +kernel
theorem dX7_count_6 : decode cX7_count 6 = .ok (.ifCond .ne 6, 3) := by decide +kernel
theorem dX7_count_9 : decode cX7_count 9 = .ok (.ldc 130, 2) := by decide +kernel
theorem dX7_count_11 : decode cX7_count 11 = .ok (.ireturn, 1) := by decide +kernel
theorem dX7_count_12 : decode cX7_count 12 = .ok (.iconst 0, 1) := by decide +kernel
theorem dX7_count_13 : decode cX7_count 13 = .ok (.istore_n 2, 1) := by decide +kernel
theorem dX7_count_14 : decode cX7_count 14 = .ok (.iconst 0, 1) := by decide +kernel
theorem dX7_count_15 : decode cX7_count 15 = .ok (.istore_n 3, 1) := by decide +kernel
theorem dX7_count_16 : decode cX7_count 16 = .ok (.iload_n 3, 1) := by decide +kernel
theorem dX7_count_17 : decode cX7_count 17 = .ok (.aload_n 0, 1) := by decide +kernel
theorem dX7_count_18 : decode cX7_count 18 = .ok (.getfield 115, 3) := by decide +kernel
theorem dX7_count_21 : decode cX7_count 21 = .ok (.if_icmp .ge 26, 3) := by decide +kernel
theorem dX7_count_24 : decode cX7_count 24 = .ok (.iload_n 2, 1) := by decide +kernel
theorem dX7_count_25 : decode cX7_count 25 = .ok (.aload_n 0, 1) := by decide +kernel
theorem dX7_count_26 : decode cX7_count 26 = .ok (.getfield 25, 3) := by decide +kernel
theorem dX7_count_29 : decode cX7_count 29 = .ok (.iload_n 3, 1) := by decide +kernel
theorem dX7_count_30 : decode cX7_count 30 = .ok (.baload, 1) := by decide +kernel
theorem dX7_count_31 : decode cX7_count 31 = .ok (.ifCond .eq 7, 3) := by decide +kernel
theorem dX7_count_34 : decode cX7_count 34 = .ok (.iconst 1, 1) := by decide +kernel
theorem dX7_count_35 : decode cX7_count 35 = .ok (.goto 4, 3) := by decide +kernel
theorem dX7_count_38 : decode cX7_count 38 = .ok (.iconst 0, 1) := by decide +kernel
theorem dX7_count_39 : decode cX7_count 39 = .ok (.iadd, 1) := by decide +kernel
theorem dX7_count_40 : decode cX7_count 40 = .ok (.istore_n 2, 1) := by decide +kernel
theorem dX7_count_41 : decode cX7_count 41 = .ok (.iinc 3 1, 3) := by decide +kernel
theorem dX7_count_44 : decode cX7_count 44 = .ok (.goto (-28), 3) := by decide +kernel
theorem dX7_count_47 : decode cX7_count 47 = .ok (.iload_n 1, 1) := by decide +kernel
theorem dX7_count_48 : decode cX7_count 48 = .ok (.ifCond .ne 10, 3) := by decide +kernel
theorem dX7_count_51 : decode cX7_count 51 = .ok (.aload_n 0, 1) := by decide +kernel
theorem dX7_count_52 : decode cX7_count 52 = .ok (.getfield 115, 3) := by decide +kernel
theorem dX7_count_55 : decode cX7_count 55 = .ok (.goto 16, 3) := by decide +kernel
theorem dX7_count_58 : decode cX7_count 58 = .ok (.iload_n 1, 1) := by decide +kernel
theorem dX7_count_59 : decode cX7_count 59 = .ok (.iconst 1, 1) := by decide +kernel
theorem dX7_count_60 : decode cX7_count 60 = .ok (.if_icmp .ne 10, 3) := by decide +kernel
theorem dX7_count_63 : decode cX7_count 63 = .ok (.aload_n 0, 1) := by decide +kernel
theorem dX7_count_64 : decode cX7_count 64 = .ok (.getfield 127, 3) := by decide +kernel
theorem dX7_count_67 : decode cX7_count 67 = .ok (.goto 4, 3) := by decide +kernel
theorem dX7_count_70 : decode cX7_count 70 = .ok (.iload_n 2, 1) := by decide +kernel
theorem dX7_count_71 : decode cX7_count 71 = .ok (.ireturn, 1) := by decide +kernel
theorem q140_0 : pm_V d 140 0 [l0, .int xi, l2, l3] st S Q = pm_V d 140 1 [l0, .int xi, l2, l3] (.int xi :: st) S Q := pv_iload_n (pm_cdi rfl dX7_count_0) rfl
theorem q140_1 : pm_V d 140 1 [l0, l1, l2, l3] st S Q = pm_V d 140 2 [l0, l1, l2, l3] (.int 0 :: st) S Q := pv_iconst (pm_cdi rfl dX7_count_1) (by decide +kernel)
theorem q140_2 : pm_V d 140 2 [l0, l1, l2, l3] st S Q = pm_V d 140 3 [l0, l1, l2, l3] (.int 2 :: st) S Q := pv_iconst (pm_cdi rfl dX7_count_2) (by decide +kernel)
theorem q140_3 : pm_V (d + 1) 140 3 [l0, l1, l2, l3] [.int v2i, .int v1i, .int v0i] S Q = pm_N d 87 [.int v0i, .int v1i, .int v2i] S (fun r S' => pm_V (d + 1) 140 6 [l0, l1, l2, l3] (r.toList ++ []) S' Q) := pv_callS (as := [.int v0i, .int v1i, .int v2i]) (pm_cdi rfl dX7_count_3) (by decide +kernel) (by decide +kernel) (show _ = _ from (by decide +kernel : 3 = pm_np 87)) rfl (Nat.le_of_ble_eq_true rfl)
theorem q140_6 : pm_V d 140 6 [l0, l1, l2, l3] (.int xi :: st) S Q = if xi = 0 then pm_V d 140 9 [l0, l1, l2, l3] st S Q else pm_V d 140 12 [l0, l1, l2, l3] st S Q := pv_if_ne (pm_cdi rfl dX7_count_6) rfl
theorem q140_9 : pm_V d 140 9 [l0, l1, l2, l3] st S Q = pm_V d 140 11 [l0, l1, l2, l3] (.int (-1000001) :: st) S Q := pv_ldc (pm_cdi rfl dX7_count_9) (by decide +kernel)
theorem q140_11 : pm_V d 140 11 [l0, l1, l2, l3] [.int xi] S Q = Q (some (.int xi)) S := pv_rI (pm_cdi rfl dX7_count_11) (by decide +kernel)
theorem q140_12 : pm_V d 140 12 [l0, l1, l2, l3] st S Q = pm_V d 140 13 [l0, l1, l2, l3] (.int 0 :: st) S Q := pv_iconst (pm_cdi rfl dX7_count_12) (by decide +kernel)
theorem q140_13 : pm_V d 140 13 [l0, .int yi, l2, l3] (.int xi :: st) S Q = pm_V d 140 14 [l0, .int yi, .int xi, l3] st S Q := pv_istore_n (pm_cdi rfl dX7_count_13) rfl
theorem q140_14 : pm_V d 140 14 [l0, l1, l2, l3] st S Q = pm_V d 140 15 [l0, l1, l2, l3] (.int 0 :: st) S Q := pv_iconst (pm_cdi rfl dX7_count_14) (by decide +kernel)
theorem q140_15 : pm_V d 140 15 [l0, l1, .int yi, l3] (.int xi :: st) S Q = pm_V d 140 16 [l0, l1, .int yi, .int xi] st S Q := pv_istore_n (pm_cdi rfl dX7_count_15) rfl
theorem q140_16 : pm_V d 140 16 [l0, l1, l2, .int xi] st S Q = pm_V d 140 17 [l0, l1, l2, .int xi] (.int xi :: st) S Q := pv_iload_n (pm_cdi rfl dX7_count_16) rfl
theorem q140_17 : pm_V d 140 17 [.ref xn, l1, l2, l3] st S Q = pm_V d 140 18 [.ref xn, l1, l2, l3] (.ref xn :: st) S Q := pv_aload_n (pm_cdi rfl dX7_count_17) rfl
theorem q140_18 (hs : pm_sh S an = .inr 7) : pm_V d 140 18 [l0, l1, l2, l3] (.ref an :: st) S Q = pm_V d 140 21 [l0, l1, l2, l3] (.int (pm_gi S an 0) :: st) S Q := pv_getI (pm_cdi rfl dX7_count_18) (by decide +kernel) (by decide +kernel) (by decide +kernel) hs
theorem q140_21 : pm_V d 140 21 [l0, l1, l2, l3] (.int yi :: .int xi :: st) S Q = if xi < yi then pm_V d 140 24 [l0, l1, l2, l3] st S Q else pm_V d 140 47 [l0, l1, l2, l3] st S Q := pv_icmp_ge (pm_cdi rfl dX7_count_21) rfl
theorem q140_24 : pm_V d 140 24 [l0, l1, .int xi, l3] st S Q = pm_V d 140 25 [l0, l1, .int xi, l3] (.int xi :: st) S Q := pv_iload_n (pm_cdi rfl dX7_count_24) rfl
theorem q140_25 : pm_V d 140 25 [.ref xn, l1, l2, l3] st S Q = pm_V d 140 26 [.ref xn, l1, l2, l3] (.ref xn :: st) S Q := pv_aload_n (pm_cdi rfl dX7_count_25) rfl
theorem q140_26 (hs : pm_sh S an = .inr 7) : pm_V d 140 26 [l0, l1, l2, l3] (.ref an :: st) S Q = pm_V d 140 29 [l0, l1, l2, l3] (va_rf (pm_gr S an 6) :: st) S Q := pv_getA (pm_cdi rfl dX7_count_26) (by decide +kernel) (by decide +kernel) (by decide +kernel) hs
theorem q140_29 : pm_V d 140 29 [l0, l1, l2, .int xi] st S Q = pm_V d 140 30 [l0, l1, l2, .int xi] (.int xi :: st) S Q := pv_iload_n (pm_cdi rfl dX7_count_29) rfl
theorem q140_30 (hs : pm_ar S an 2 xi = true) : pm_V d 140 30 [l0, l1, l2, l3] (.int xi :: .ref an :: st) S Q = pm_V d 140 31 [l0, l1, l2, l3] (.int (pm_zi S an xi.toNatClampNeg) :: st) S Q := pv_bald (pm_cdi rfl dX7_count_30) hs
theorem q140_31 : pm_V d 140 31 [l0, l1, l2, l3] (.int xi :: st) S Q = if xi = 0 then pm_V d 140 38 [l0, l1, l2, l3] st S Q else pm_V d 140 34 [l0, l1, l2, l3] st S Q := pv_if_eq (pm_cdi rfl dX7_count_31) rfl
theorem q140_34 : pm_V d 140 34 [l0, l1, l2, l3] st S Q = pm_V d 140 35 [l0, l1, l2, l3] (.int 1 :: st) S Q := pv_iconst (pm_cdi rfl dX7_count_34) (by decide +kernel)
theorem q140_35 : pm_V d 140 35 [l0, l1, l2, l3] st S Q = pm_V d 140 39 [l0, l1, l2, l3] st S Q := pv_goto (pm_cdi rfl dX7_count_35) rfl
theorem q140_38 : pm_V d 140 38 [l0, l1, l2, l3] st S Q = pm_V d 140 39 [l0, l1, l2, l3] (.int 0 :: st) S Q := pv_iconst (pm_cdi rfl dX7_count_38) (by decide +kernel)
theorem q140_39 : pm_V d 140 39 [l0, l1, l2, l3] (.int yi :: .int xi :: st) S Q = pm_V d 140 40 [l0, l1, l2, l3] (.int (xi + yi) :: st) S Q := pv_iadd (pm_cdi rfl dX7_count_39)
theorem q140_40 : pm_V d 140 40 [l0, .int yi, l2, l3] (.int xi :: st) S Q = pm_V d 140 41 [l0, .int yi, .int xi, l3] st S Q := pv_istore_n (pm_cdi rfl dX7_count_40) rfl
theorem q140_41 : pm_V d 140 41 [l0, l1, .int yi, .int xi] st S Q = pm_V d 140 44 [l0, l1, .int yi, .int (xi + 1)] st S Q := pv_iinc (pm_cdi rfl dX7_count_41) rfl (by decide +kernel) rfl
theorem q140_44 : pm_V d 140 44 [l0, l1, l2, l3] st S Q = pm_V d 140 16 [l0, l1, l2, l3] st S Q := pv_goto (pm_cdi rfl dX7_count_44) rfl
theorem q140_47 : pm_V d 140 47 [l0, .int xi, l2, l3] st S Q = pm_V d 140 48 [l0, .int xi, l2, l3] (.int xi :: st) S Q := pv_iload_n (pm_cdi rfl dX7_count_47) rfl
theorem q140_48 : pm_V d 140 48 [l0, l1, l2, l3] (.int xi :: st) S Q = if xi = 0 then pm_V d 140 51 [l0, l1, l2, l3] st S Q else pm_V d 140 58 [l0, l1, l2, l3] st S Q := pv_if_ne (pm_cdi rfl dX7_count_48) rfl
theorem q140_51 : pm_V d 140 51 [.ref xn, l1, l2, l3] st S Q = pm_V d 140 52 [.ref xn, l1, l2, l3] (.ref xn :: st) S Q := pv_aload_n (pm_cdi rfl dX7_count_51) rfl
theorem q140_52 (hs : pm_sh S an = .inr 7) : pm_V d 140 52 [l0, l1, l2, l3] (.ref an :: st) S Q = pm_V d 140 55 [l0, l1, l2, l3] (.int (pm_gi S an 0) :: st) S Q := pv_getI (pm_cdi rfl dX7_count_52) (by decide +kernel) (by decide +kernel) (by decide +kernel) hs
theorem q140_55 : pm_V d 140 55 [l0, l1, l2, l3] st S Q = pm_V d 140 71 [l0, l1, l2, l3] st S Q := pv_goto (pm_cdi rfl dX7_count_55) rfl
theorem q140_58 : pm_V d 140 58 [l0, .int xi, l2, l3] st S Q = pm_V d 140 59 [l0, .int xi, l2, l3] (.int xi :: st) S Q := pv_iload_n (pm_cdi rfl dX7_count_58) rfl
theorem q140_59 : pm_V d 140 59 [l0, l1, l2, l3] st S Q = pm_V d 140 60 [l0, l1, l2, l3] (.int 1 :: st) S Q := pv_iconst (pm_cdi rfl dX7_count_59) (by decide +kernel)
theorem q140_60 : pm_V d 140 60 [l0, l1, l2, l3] (.int yi :: .int xi :: st) S Q = if xi = yi then pm_V d 140 63 [l0, l1, l2, l3] st S Q else pm_V d 140 70 [l0, l1, l2, l3] st S Q := pv_icmp_ne (pm_cdi rfl dX7_count_60) rfl
theorem q140_63 : pm_V d 140 63 [.ref xn, l1, l2, l3] st S Q = pm_V d 140 64 [.ref xn, l1, l2, l3] (.ref xn :: st) S Q := pv_aload_n (pm_cdi rfl dX7_count_63) rfl
theorem q140_64 (hs : pm_sh S an = .inr 7) : pm_V d 140 64 [l0, l1, l2, l3] (.ref an :: st) S Q = pm_V d 140 67 [l0, l1, l2, l3] (.int (pm_gi S an 23) :: st) S Q := pv_getI (pm_cdi rfl dX7_count_64) (by decide +kernel) (by decide +kernel) (by decide +kernel) hs
theorem q140_67 : pm_V d 140 67 [l0, l1, l2, l3] st S Q = pm_V d 140 71 [l0, l1, l2, l3] st S Q := pv_goto (pm_cdi rfl dX7_count_67) rfl
theorem q140_70 : pm_V d 140 70 [l0, l1, .int xi, l3] st S Q = pm_V d 140 71 [l0, l1, .int xi, l3] (.int xi :: st) S Q := pv_iload_n (pm_cdi rfl dX7_count_70) rfl
theorem q140_71 : pm_V d 140 71 [l0, l1, l2, l3] [.int xi] S Q = Q (some (.int xi)) S := pv_rI (pm_cdi rfl dX7_count_71) (by decide +kernel)
theorem q140_e : pm_N d 140 [.ref an, .int v0i] S Q = pm_V d 140 0 [.ref an, .int v0i, pm_j, pm_j] [] S Q := pv_ent (Nat.le_of_ble_eq_true rfl) rfl
/-! 141: ViewsJoinsModel.clear()I -/
theorem dX7_clear_0 : decode cX7_clear 0 = .ok (.aload_n 0, 1) := by decide +kernel
theorem dX7_clear_1 : decode cX7_clear 1 = .ok (.getfield 115, 3) := by decide +kernel
theorem dX7_clear_4 : decode cX7_clear 4 = .ok (.istore_n 1, 1) := by decide +kernel
theorem dX7_clear_5 : decode cX7_clear 5 = .ok (.aload_n 0, 1) := by decide +kernel
theorem dX7_clear_6 : decode cX7_clear 6 = .ok (.iconst 0, 1) := by decide +kernel
theorem dX7_clear_7 : decode cX7_clear 7 = .ok (.putfield 115, 3) := by decide +kernel
theorem dX7_clear_10 : decode cX7_clear 10 = .ok (.aload_n 0, 1) := by decide +kernel
theorem dX7_clear_11 : decode cX7_clear 11 = .ok (.iconst 0, 1) := by decide +kernel
theorem dX7_clear_12 : decode cX7_clear 12 = .ok (.putfield 127, 3) := by decide +kernel
theorem dX7_clear_15 : decode cX7_clear 15 = .ok (.aload_n 0, 1) := by decide +kernel
theorem dX7_clear_16 : decode cX7_clear 16 = .ok (.iconst 0, 1) := by decide +kernel
theorem dX7_clear_17 : decode cX7_clear 17 = .ok (.putfield 132, 3) := by decide +kernel
theorem dX7_clear_20 : decode cX7_clear 20 = .ok (.iconst 0, 1) := by decide +kernel
theorem dX7_clear_21 : decode cX7_clear 21 = .ok (.istore_n 2, 1) := by decide +kernel
theorem dX7_clear_22 : decode cX7_clear 22 = .ok (.iload_n 2, 1) := by decide +kernel
theorem dX7_clear_23 : decode cX7_clear 23 = .ok (.sipush 160, 3) := by decide +kernel
theorem dX7_clear_26 : decode cX7_clear 26 = .ok (.if_icmp .ge 16, 3) := by decide +kernel
theorem dX7_clear_29 : decode cX7_clear 29 = .ok (.aload_n 0, 1) := by decide +kernel
theorem dX7_clear_30 : decode cX7_clear 30 = .ok (.getfield 72, 3) := by decide +kernel
theorem dX7_clear_33 : decode cX7_clear 33 = .ok (.iload_n 2, 1) := by decide +kernel
theorem dX7_clear_34 : decode cX7_clear 34 = .ok (.iconst (-1), 1) := by decide +kernel
theorem dX7_clear_35 : decode cX7_clear 35 = .ok (.iastore, 1) := by decide +kernel
theorem dX7_clear_36 : decode cX7_clear 36 = .ok (.iinc 2 1, 3) := by decide +kernel
theorem dX7_clear_39 : decode cX7_clear 39 = .ok (.goto (-17), 3) := by decide +kernel
theorem dX7_clear_42 : decode cX7_clear 42 = .ok (.iload_n 1, 1) := by decide +kernel
theorem dX7_clear_43 : decode cX7_clear 43 = .ok (.ireturn, 1) := by decide +kernel
theorem q141_0 : pm_V d 141 0 [.ref xn, l1, l2] st S Q = pm_V d 141 1 [.ref xn, l1, l2] (.ref xn :: st) S Q := pv_aload_n (pm_cdi rfl dX7_clear_0) rfl
theorem q141_1 (hs : pm_sh S an = .inr 7) : pm_V d 141 1 [l0, l1, l2] (.ref an :: st) S Q = pm_V d 141 4 [l0, l1, l2] (.int (pm_gi S an 0) :: st) S Q := pv_getI (pm_cdi rfl dX7_clear_1) (by decide +kernel) (by decide +kernel) (by decide +kernel) hs
theorem q141_4 : pm_V d 141 4 [.ref yn, l1, l2] (.int xi :: st) S Q = pm_V d 141 5 [.ref yn, .int xi, l2] st S Q := pv_istore_n (pm_cdi rfl dX7_clear_4) rfl
theorem q141_5 : pm_V d 141 5 [.ref xn, l1, l2] st S Q = pm_V d 141 6 [.ref xn, l1, l2] (.ref xn :: st) S Q := pv_aload_n (pm_cdi rfl dX7_clear_5) rfl
theorem q141_6 : pm_V d 141 6 [l0, l1, l2] st S Q = pm_V d 141 7 [l0, l1, l2] (.int 0 :: st) S Q := pv_iconst (pm_cdi rfl dX7_clear_6) (by decide +kernel)
theorem q141_7 (hs : pm_sh S an = .inr 7) : pm_V d 141 7 [l0, l1, l2] (.int xi :: .ref an :: st) S Q = pm_V d 141 10 [l0, l1, l2] st (pm_sgi S an 0 xi) Q := pv_putI (pm_cdi rfl dX7_clear_7) (by decide +kernel) (by decide +kernel) (by decide +kernel) hs
theorem q141_10 : pm_V d 141 10 [.ref xn, l1, l2] st S Q = pm_V d 141 11 [.ref xn, l1, l2] (.ref xn :: st) S Q := pv_aload_n (pm_cdi rfl dX7_clear_10) rfl
theorem q141_11 : pm_V d 141 11 [l0, l1, l2] st S Q = pm_V d 141 12 [l0, l1, l2] (.int 0 :: st) S Q := pv_iconst (pm_cdi rfl dX7_clear_11) (by decide +kernel)
theorem q141_12 (hs : pm_sh S an = .inr 7) : pm_V d 141 12 [l0, l1, l2] (.int xi :: .ref an :: st) S Q = pm_V d 141 15 [l0, l1, l2] st (pm_sgi S an 23 xi) Q := pv_putI (pm_cdi rfl dX7_clear_12) (by decide +kernel) (by decide +kernel) (by decide +kernel) hs
theorem q141_15 : pm_V d 141 15 [.ref xn, l1, l2] st S Q = pm_V d 141 16 [.ref xn, l1, l2] (.ref xn :: st) S Q := pv_aload_n (pm_cdi rfl dX7_clear_15) rfl
theorem q141_16 : pm_V d 141 16 [l0, l1, l2] st S Q = pm_V d 141 17 [l0, l1, l2] (.int 0 :: st) S Q := pv_iconst (pm_cdi rfl dX7_clear_16) (by decide +kernel)
theorem q141_17 (hs : pm_sh S an = .inr 7) (hx : xi = 0 ∨ xi = 1) : pm_V d 141 17 [l0, l1, l2] (.int xi :: .ref an :: st) S Q = pm_V d 141 20 [l0, l1, l2] st (pm_sgi S an 21 xi) Q := pv_putZ (pm_cdi rfl dX7_clear_17) (by decide +kernel) (by decide +kernel) (by decide +kernel) hs hx
theorem q141_20 : pm_V d 141 20 [l0, l1, l2] st S Q = pm_V d 141 21 [l0, l1, l2] (.int 0 :: st) S Q := pv_iconst (pm_cdi rfl dX7_clear_20) (by decide +kernel)
theorem q141_21 : pm_V d 141 21 [l0, .int yi, l2] (.int xi :: st) S Q = pm_V d 141 22 [l0, .int yi, .int xi] st S Q := pv_istore_n (pm_cdi rfl dX7_clear_21) rfl
theorem q141_22 : pm_V d 141 22 [l0, l1, .int xi] st S Q = pm_V d 141 23 [l0, l1, .int xi] (.int xi :: st) S Q := pv_iload_n (pm_cdi rfl dX7_clear_22) rfl
theorem q141_23 : pm_V d 141 23 [l0, l1, l2] st S Q = pm_V d 141 26 [l0, l1, l2] (.int 160 :: st) S Q := pv_sipush (pm_cdi rfl dX7_clear_23) (by decide +kernel)
theorem q141_26 : pm_V d 141 26 [l0, l1, l2] (.int yi :: .int xi :: st) S Q = if xi < yi then pm_V d 141 29 [l0, l1, l2] st S Q else pm_V d 141 42 [l0, l1, l2] st S Q := pv_icmp_ge (pm_cdi rfl dX7_clear_26) rfl
theorem q141_29 : pm_V d 141 29 [.ref xn, l1, l2] st S Q = pm_V d 141 30 [.ref xn, l1, l2] (.ref xn :: st) S Q := pv_aload_n (pm_cdi rfl dX7_clear_29) rfl
theorem q141_30 (hs : pm_sh S an = .inr 7) : pm_V d 141 30 [l0, l1, l2] (.ref an :: st) S Q = pm_V d 141 33 [l0, l1, l2] (va_rf (pm_gr S an 22) :: st) S Q := pv_getA (pm_cdi rfl dX7_clear_30) (by decide +kernel) (by decide +kernel) (by decide +kernel) hs
theorem q141_33 : pm_V d 141 33 [l0, l1, .int xi] st S Q = pm_V d 141 34 [l0, l1, .int xi] (.int xi :: st) S Q := pv_iload_n (pm_cdi rfl dX7_clear_33) rfl
theorem q141_34 : pm_V d 141 34 [l0, l1, l2] st S Q = pm_V d 141 35 [l0, l1, l2] (.int (-1) :: st) S Q := pv_iconst (pm_cdi rfl dX7_clear_34) (by decide +kernel)
theorem q141_35 (hs : pm_ar S an 0 xi = true) : pm_V d 141 35 [l0, l1, l2] (.int vi :: .int xi :: .ref an :: st) S Q = pm_V d 141 36 [l0, l1, l2] st (pm_szi S an xi.toNatClampNeg vi) Q := pv_iast (pm_cdi rfl dX7_clear_35) hs
theorem q141_36 : pm_V d 141 36 [l0, .int yi, .int xi] st S Q = pm_V d 141 39 [l0, .int yi, .int (xi + 1)] st S Q := pv_iinc (pm_cdi rfl dX7_clear_36) rfl (by decide +kernel) rfl
theorem q141_39 : pm_V d 141 39 [l0, l1, l2] st S Q = pm_V d 141 22 [l0, l1, l2] st S Q := pv_goto (pm_cdi rfl dX7_clear_39) rfl
theorem q141_42 : pm_V d 141 42 [l0, .int xi, l2] st S Q = pm_V d 141 43 [l0, .int xi, l2] (.int xi :: st) S Q := pv_iload_n (pm_cdi rfl dX7_clear_42) rfl
theorem q141_43 : pm_V d 141 43 [l0, l1, l2] [.int xi] S Q = Q (some (.int xi)) S := pv_rI (pm_cdi rfl dX7_clear_43) (by decide +kernel)
theorem q141_e : pm_N d 141 [.ref an] S Q = pm_V d 141 0 [.ref an, pm_j, pm_j] [] S Q := pv_ent (Nat.le_of_ble_eq_true rfl) rfl
end
