section
variable {d : Nat} {S : pm_T} {Q : Option Value → pm_T → Prop} {an r0n r1n r2n r3n r4n r5n v0n v1n v2n vn xn yn : Nat} {ki r0i r1i r2i r3i r4i v0i v1i v2i v3i v4i v5i vi xi yi : Int32} {l0 l1 l10 l2 l3 l4 l5 l6 l7 l8 l9 v0v v1v v2v : Value} {r0j r1j v0j v1j v2j v3j vj xj yj : Int64} {st : List Value}
/-! 130: ViewsJoinsModel.told(II)I -/
theorem dX7_told_0 : decode cX7_told 0 = .ok (.aload_n 0, 1) := by decide +kernel
theorem dX7_told_1 : decode cX7_told 1 = .ok (.iload_n 1, 1) := by decide +kernel
theorem dX7_told_2 : decode cX7_told 2 = .ok (.invokevirtual 123, 3) := by decide +kernel
theorem dX7_told_5 : decode cX7_told 5 = .ok (.ifCond .eq 12, 3) := by decide +kernel
theorem dX7_told_8 : decode cX7_told 8 = .ok (.iload_n 2, 1) := by decide +kernel
theorem dX7_told_9 : decode cX7_told 9 = .ok (.iconst 0, 1) := by decide +kernel
theorem dX7_told_10 : decode cX7_told 10 = .ok (.iconst 5, 1) := by decide +kernel
theorem dX7_told_11 : decode cX7_told 11 = .ok (.invokestatic 119, 3) := by decide +kernel
theorem dX7_told_14 : decode cX7_told 14 = .ok (.ifCond .ne 6, 3) := by decide +kernel
theorem dX7_told_17 : decode cX7_told 17 = .ok (.ldc 130, 2) := by decide +kernel
theorem dX7_told_19 : decode cX7_told 19 = .ok (.ireturn, 1) := by decide +kernel
theorem dX7_told_20 : decode cX7_told 20 = .ok (.aload_n 0, 1) := by decide +kernel
theorem dX7_told_21 : decode cX7_told 21 = .ok (.invokevirtual 264, 3) := by decide +kernel
theorem dX7_told_24 : decode cX7_told 24 = .ok (.aload_n 0, 1) := by decide +kernel
theorem dX7_told_25 : decode cX7_told 25 = .ok (.getfield 29, 3) := by decide +kernel
theorem dX7_told_28 : decode cX7_told 28 = .ok (.iload_n 1, 1) := by decide +kernel
theorem dX7_told_29 : decode cX7_told 29 = .ok (.iaload, 1) := by decide +kernel
theorem dX7_told_30 : decode cX7_told 30 = .ok (.ifCond .eq 17, 3) := by decide +kernel
theorem dX7_told_33 : decode cX7_told 33 = .ok (.iload_n 2, 1) := by decide +kernel
theorem dX7_told_34 : decode cX7_told 34 = .ok (.iconst 2, 1) := by decide +kernel
theorem dX7_told_35 : decode cX7_told 35 = .ok (.if_icmp .lt 8, 3) := by decide +kernel
theorem dX7_told_38 : decode cX7_told 38 = .ok (.iload_n 2, 1) := by decide +kernel
theorem dX7_told_39 : decode cX7_told 39 = .ok (.iconst 3, 1) := by decide +kernel
theorem dX7_told_40 : decode cX7_told 40 = .ok (.if_icmp .ne 7, 3) := by decide +kernel
theorem dX7_told_43 : decode cX7_told 43 = .ok (.ldc_w 267, 3) := by decide +kernel
theorem dX7_told_46 : decode cX7_told 46 = .ok (.ireturn, 1) := by decide +kernel
theorem dX7_told_47 : decode cX7_told 47 = .ok (.iload_n 2, 1) := by decide +kernel
theorem dX7_told_48 : decode cX7_told 48 = .ok (.tableswitch 79 0 4 #[36, 43, 50, 57, 64], 36) := by decide +kernel
theorem dX7_told_84 : decode cX7_told 84 = .ok (.aload_n 0, 1) := by decide +kernel
theorem dX7_told_85 : decode cX7_told 85 = .ok (.getfield 32, 3) := by decide +kernel
theorem dX7_told_88 : decode cX7_told 88 = .ok (.iload_n 1, 1) := by decide +kernel
theorem dX7_told_89 : decode cX7_told 89 = .ok (.iaload, 1) := by decide +kernel
theorem dX7_told_90 : decode cX7_told 90 = .ok (.ireturn, 1) := by decide +kernel
theorem dX7_told_91 : decode cX7_told 91 = .ok (.aload_n 0, 1) := by decide +kernel
theorem dX7_told_92 : decode cX7_told 92 = .ok (.getfield 35, 3) := by decide +kernel
theorem dX7_told_95 : decode cX7_told 95 = .ok (.iload_n 1, 1) := by decide +kernel
theorem dX7_told_96 : decode cX7_told 96 = .ok (.iaload, 1) := by decide +kernel
theorem dX7_told_97 : decode cX7_told 97 = .ok (.ireturn, 1) := by decide +kernel
theorem dX7_told_98 : decode cX7_told 98 = .ok (.aload_n 0, 1) := by decide +kernel
theorem dX7_told_99 : decode cX7_told 99 = .ok (.getfield 7, 3) := by decide +kernel
theorem dX7_told_102 : decode cX7_told 102 = .ok (.iload_n 1, 1) := by decide +kernel
theorem dX7_told_103 : decode cX7_told 103 = .ok (.iaload, 1) := by decide +kernel
theorem dX7_told_104 : decode cX7_told 104 = .ok (.ireturn, 1) := by decide +kernel
theorem dX7_told_105 : decode cX7_told 105 = .ok (.aload_n 0, 1) := by decide +kernel
theorem dX7_told_106 : decode cX7_told 106 = .ok (.getfield 63, 3) := by decide +kernel
theorem dX7_told_109 : decode cX7_told 109 = .ok (.iload_n 1, 1) := by decide +kernel
theorem dX7_told_110 : decode cX7_told 110 = .ok (.iaload, 1) := by decide +kernel
theorem dX7_told_111 : decode cX7_told 111 = .ok (.ireturn, 1) := by decide +kernel
theorem dX7_told_112 : decode cX7_told 112 = .ok (.aload_n 0, 1) := by decide +kernel
theorem dX7_told_113 : decode cX7_told 113 = .ok (.getfield 25, 3) := by decide +kernel
theorem dX7_told_116 : decode cX7_told 116 = .ok (.iload_n 1, 1) := by decide +kernel
theorem dX7_told_117 : decode cX7_told 117 = .ok (.baload, 1) := by decide +kernel
theorem dX7_told_118 : decode cX7_told 118 = .ok (.ifCond .eq 7, 3) := by decide +kernel
theorem dX7_told_121 : decode cX7_told 121 = .ok (.iconst 0, 1) := by decide +kernel
theorem dX7_told_122 : decode cX7_told 122 = .ok (.goto 4, 3) := by decide +kernel
theorem dX7_told_125 : decode cX7_told 125 = .ok (.iconst 1, 1) := by decide +kernel
theorem dX7_told_126 : decode cX7_told 126 = .ok (.ireturn, 1) := by decide +kernel
theorem dX7_told_127 : decode cX7_told 127 = .ok (.aload_n 0, 1) := by decide +kernel
theorem dX7_told_128 : decode cX7_told 128 = .ok (.getfield 29, 3) := by decide +kernel
theorem dX7_told_131 : decode cX7_told 131 = .ok (.iload_n 1, 1) := by decide +kernel
theorem dX7_told_132 : decode cX7_told 132 = .ok (.iaload, 1) := by decide +kernel
theorem dX7_told_133 : decode cX7_told 133 = .ok (.ireturn, 1) := by decide +kernel
theorem q130_0 : pm_V d 130 0 [.ref xn, l1, l2] st S Q = pm_V d 130 1 [.ref xn, l1, l2] (.ref xn :: st) S Q := pv_aload_n (pm_cdi rfl dX7_told_0) rfl
theorem q130_1 : pm_V d 130 1 [l0, .int xi, l2] st S Q = pm_V d 130 2 [l0, .int xi, l2] (.int xi :: st) S Q := pv_iload_n (pm_cdi rfl dX7_told_1) rfl
theorem q130_2 (hs : pm_sh S an = .inr 7) : pm_V (d + 1) 130 2 [l0, l1, l2] [.int v0i, .ref an] S Q = pm_N d 89 [.ref an, .int v0i] S (fun r S' => pm_V (d + 1) 130 5 [l0, l1, l2] (r.toList ++ []) S' Q) := pv_callV (as := [.int v0i]) (pm_cdi rfl dX7_told_2) (Or.inl (by decide +kernel)) (by decide +kernel) (show _ = _ from (by decide +kernel : 1 = pm_np 89)) rfl (Nat.le_of_ble_eq_true rfl) (cl := 7) (by decide +kernel) hs
theorem q130_5 : pm_V d 130 5 [l0, l1, l2] (.int xi :: st) S Q = if xi = 0 then pm_V d 130 17 [l0, l1, l2] st S Q else pm_V d 130 8 [l0, l1, l2] st S Q := pv_if_eq (pm_cdi rfl dX7_told_5) rfl
theorem q130_8 : pm_V d 130 8 [l0, l1, .int xi] st S Q = pm_V d 130 9 [l0, l1, .int xi] (.int xi :: st) S Q := pv_iload_n (pm_cdi rfl dX7_told_8) rfl
theorem q130_9 : pm_V d 130 9 [l0, l1, l2] st S Q = pm_V d 130 10 [l0, l1, l2] (.int 0 :: st) S Q := pv_iconst (pm_cdi rfl dX7_told_9) (by decide +kernel)
theorem q130_10 : pm_V d 130 10 [l0, l1, l2] st S Q = pm_V d 130 11 [l0, l1, l2] (.int 5 :: st) S Q := pv_iconst (pm_cdi rfl dX7_told_10) (by decide +kernel)
theorem q130_11 : pm_V (d + 1) 130 11 [l0, l1, l2] [.int v2i, .int v1i, .int v0i] S Q = pm_N d 88 [.int v0i, .int v1i, .int v2i] S (fun r S' => pm_V (d + 1) 130 14 [l0, l1, l2] (r.toList ++ []) S' Q) := pv_callS (as := [.int v0i, .int v1i, .int v2i]) (pm_cdi rfl dX7_told_11) (by decide +kernel) (by decide +kernel) (show _ = _ from (by decide +kernel : 3 = pm_np 88)) rfl (Nat.le_of_ble_eq_true rfl)
theorem q130_14 : pm_V d 130 14 [l0, l1, l2] (.int xi :: st) S Q = if xi = 0 then pm_V d 130 17 [l0, l1, l2] st S Q else pm_V d 130 20 [l0, l1, l2] st S Q := pv_if_ne (pm_cdi rfl dX7_told_14) rfl
theorem q130_17 : pm_V d 130 17 [l0, l1, l2] st S Q = pm_V d 130 19 [l0, l1, l2] (.int (-1000001) :: st) S Q := pv_ldc (pm_cdi rfl dX7_told_17) (by decide +kernel)
theorem q130_19 : pm_V d 130 19 [l0, l1, l2] [.int xi] S Q = Q (some (.int xi)) S := pv_rI (pm_cdi rfl dX7_told_19) (by decide +kernel)
theorem q130_20 : pm_V d 130 20 [.ref xn, l1, l2] st S Q = pm_V d 130 21 [.ref xn, l1, l2] (.ref xn :: st) S Q := pv_aload_n (pm_cdi rfl dX7_told_20) rfl
theorem q130_21 (hs : pm_sh S an = .inr 7) : pm_V (d + 1) 130 21 [l0, l1, l2] [.ref an] S Q = pm_N d 100 [.ref an] S (fun r S' => pm_V (d + 1) 130 24 [l0, l1, l2] (r.toList ++ []) S' Q) := pv_callV (as := []) (pm_cdi rfl dX7_told_21) (Or.inl (by decide +kernel)) (by decide +kernel) (show _ = _ from (by decide +kernel : 0 = pm_np 100)) rfl (Nat.le_of_ble_eq_true rfl) (cl := 7) (by decide +kernel) hs
theorem q130_24 : pm_V d 130 24 [.ref xn, l1, l2] st S Q = pm_V d 130 25 [.ref xn, l1, l2] (.ref xn :: st) S Q := pv_aload_n (pm_cdi rfl dX7_told_24) rfl
theorem q130_25 (hs : pm_sh S an = .inr 7) : pm_V d 130 25 [l0, l1, l2] (.ref an :: st) S Q = pm_V d 130 28 [l0, l1, l2] (va_rf (pm_gr S an 7) :: st) S Q := pv_getA (pm_cdi rfl dX7_told_25) (by decide +kernel) (by decide +kernel) (by decide +kernel) hs
theorem q130_28 : pm_V d 130 28 [l0, .int xi, l2] st S Q = pm_V d 130 29 [l0, .int xi, l2] (.int xi :: st) S Q := pv_iload_n (pm_cdi rfl dX7_told_28) rfl
theorem q130_29 (hs : pm_ar S an 0 xi = true) : pm_V d 130 29 [l0, l1, l2] (.int xi :: .ref an :: st) S Q = pm_V d 130 30 [l0, l1, l2] (.int (pm_zi S an xi.toNatClampNeg) :: st) S Q := pv_iald (pm_cdi rfl dX7_told_29) hs
theorem q130_30 : pm_V d 130 30 [l0, l1, l2] (.int xi :: st) S Q = if xi = 0 then pm_V d 130 47 [l0, l1, l2] st S Q else pm_V d 130 33 [l0, l1, l2] st S Q := pv_if_eq (pm_cdi rfl dX7_told_30) rfl
theorem q130_33 : pm_V d 130 33 [l0, l1, .int xi] st S Q = pm_V d 130 34 [l0, l1, .int xi] (.int xi :: st) S Q := pv_iload_n (pm_cdi rfl dX7_told_33) rfl
theorem q130_34 : pm_V d 130 34 [l0, l1, l2] st S Q = pm_V d 130 35 [l0, l1, l2] (.int 2 :: st) S Q := pv_iconst (pm_cdi rfl dX7_told_34) (by decide +kernel)
theorem q130_35 : pm_V d 130 35 [l0, l1, l2] (.int yi :: .int xi :: st) S Q = if xi < yi then pm_V d 130 43 [l0, l1, l2] st S Q else pm_V d 130 38 [l0, l1, l2] st S Q := pv_icmp_lt (pm_cdi rfl dX7_told_35) rfl
theorem q130_38 : pm_V d 130 38 [l0, l1, .int xi] st S Q = pm_V d 130 39 [l0, l1, .int xi] (.int xi :: st) S Q := pv_iload_n (pm_cdi rfl dX7_told_38) rfl
theorem q130_39 : pm_V d 130 39 [l0, l1, l2] st S Q = pm_V d 130 40 [l0, l1, l2] (.int 3 :: st) S Q := pv_iconst (pm_cdi rfl dX7_told_39) (by decide +kernel)
theorem q130_40 : pm_V d 130 40 [l0, l1, l2] (.int yi :: .int xi :: st) S Q = if xi = yi then pm_V d 130 43 [l0, l1, l2] st S Q else pm_V d 130 47 [l0, l1, l2] st S Q := pv_icmp_ne (pm_cdi rfl dX7_told_40) rfl
theorem q130_43 : pm_V d 130 43 [l0, l1, l2] st S Q = pm_V d 130 46 [l0, l1, l2] (.int (-1000003) :: st) S Q := pv_ldcw (pm_cdi rfl dX7_told_43) (by decide +kernel)
theorem q130_46 : pm_V d 130 46 [l0, l1, l2] [.int xi] S Q = Q (some (.int xi)) S := pv_rI (pm_cdi rfl dX7_told_46) (by decide +kernel)
theorem q130_47 : pm_V d 130 47 [l0, l1, .int xi] st S Q = pm_V d 130 48 [l0, l1, .int xi] (.int xi :: st) S Q := pv_iload_n (pm_cdi rfl dX7_told_47) rfl
theorem q130_48 : pm_V d 130 48 [l0, l1, l2] (.int xi :: st) S Q = pm_V d 130 (pm_tsw xi 0 [84, 91, 98, 105, 112] 127) [l0, l1, l2] st S Q := pv_tsw (pm_cdi rfl dX7_told_48) (by decide +kernel) rfl (by decide +kernel)
theorem q130_84 : pm_V d 130 84 [.ref xn, l1, l2] st S Q = pm_V d 130 85 [.ref xn, l1, l2] (.ref xn :: st) S Q := pv_aload_n (pm_cdi rfl dX7_told_84) rfl
theorem q130_85 (hs : pm_sh S an = .inr 7) : pm_V d 130 85 [l0, l1, l2] (.ref an :: st) S Q = pm_V d 130 88 [l0, l1, l2] (va_rf (pm_gr S an 8) :: st) S Q := pv_getA (pm_cdi rfl dX7_told_85) (by decide +kernel) (by decide +kernel) (by decide +kernel) hs
theorem q130_88 : pm_V d 130 88 [l0, .int xi, l2] st S Q = pm_V d 130 89 [l0, .int xi, l2] (.int xi :: st) S Q := pv_iload_n (pm_cdi rfl dX7_told_88) rfl
theorem q130_89 (hs : pm_ar S an 0 xi = true) : pm_V d 130 89 [l0, l1, l2] (.int xi :: .ref an :: st) S Q = pm_V d 130 90 [l0, l1, l2] (.int (pm_zi S an xi.toNatClampNeg) :: st) S Q := pv_iald (pm_cdi rfl dX7_told_89) hs
theorem q130_90 : pm_V d 130 90 [l0, l1, l2] [.int xi] S Q = Q (some (.int xi)) S := pv_rI (pm_cdi rfl dX7_told_90) (by decide +kernel)
theorem q130_91 : pm_V d 130 91 [.ref xn, l1, l2] st S Q = pm_V d 130 92 [.ref xn, l1, l2] (.ref xn :: st) S Q := pv_aload_n (pm_cdi rfl dX7_told_91) rfl
theorem q130_92 (hs : pm_sh S an = .inr 7) : pm_V d 130 92 [l0, l1, l2] (.ref an :: st) S Q = pm_V d 130 95 [l0, l1, l2] (va_rf (pm_gr S an 9) :: st) S Q := pv_getA (pm_cdi rfl dX7_told_92) (by decide +kernel) (by decide +kernel) (by decide +kernel) hs
theorem q130_95 : pm_V d 130 95 [l0, .int xi, l2] st S Q = pm_V d 130 96 [l0, .int xi, l2] (.int xi :: st) S Q := pv_iload_n (pm_cdi rfl dX7_told_95) rfl
theorem q130_96 (hs : pm_ar S an 0 xi = true) : pm_V d 130 96 [l0, l1, l2] (.int xi :: .ref an :: st) S Q = pm_V d 130 97 [l0, l1, l2] (.int (pm_zi S an xi.toNatClampNeg) :: st) S Q := pv_iald (pm_cdi rfl dX7_told_96) hs
theorem q130_97 : pm_V d 130 97 [l0, l1, l2] [.int xi] S Q = Q (some (.int xi)) S := pv_rI (pm_cdi rfl dX7_told_97) (by decide +kernel)
theorem q130_98 : pm_V d 130 98 [.ref xn, l1, l2] st S Q = pm_V d 130 99 [.ref xn, l1, l2] (.ref xn :: st) S Q := pv_aload_n (pm_cdi rfl dX7_told_98) rfl
theorem q130_99 (hs : pm_sh S an = .inr 7) : pm_V d 130 99 [l0, l1, l2] (.ref an :: st) S Q = pm_V d 130 102 [l0, l1, l2] (va_rf (pm_gr S an 1) :: st) S Q := pv_getA (pm_cdi rfl dX7_told_99) (by decide +kernel) (by decide +kernel) (by decide +kernel) hs
theorem q130_102 : pm_V d 130 102 [l0, .int xi, l2] st S Q = pm_V d 130 103 [l0, .int xi, l2] (.int xi :: st) S Q := pv_iload_n (pm_cdi rfl dX7_told_102) rfl
theorem q130_103 (hs : pm_ar S an 0 xi = true) : pm_V d 130 103 [l0, l1, l2] (.int xi :: .ref an :: st) S Q = pm_V d 130 104 [l0, l1, l2] (.int (pm_zi S an xi.toNatClampNeg) :: st) S Q := pv_iald (pm_cdi rfl dX7_told_103) hs
theorem q130_104 : pm_V d 130 104 [l0, l1, l2] [.int xi] S Q = Q (some (.int xi)) S := pv_rI (pm_cdi rfl dX7_told_104) (by decide +kernel)
theorem q130_105 : pm_V d 130 105 [.ref xn, l1, l2] st S Q = pm_V d 130 106 [.ref xn, l1, l2] (.ref xn :: st) S Q := pv_aload_n (pm_cdi rfl dX7_told_105) rfl
theorem q130_106 (hs : pm_sh S an = .inr 7) : pm_V d 130 106 [l0, l1, l2] (.ref an :: st) S Q = pm_V d 130 109 [l0, l1, l2] (va_rf (pm_gr S an 18) :: st) S Q := pv_getA (pm_cdi rfl dX7_told_106) (by decide +kernel) (by decide +kernel) (by decide +kernel) hs
theorem q130_109 : pm_V d 130 109 [l0, .int xi, l2] st S Q = pm_V d 130 110 [l0, .int xi, l2] (.int xi :: st) S Q := pv_iload_n (pm_cdi rfl dX7_told_109) rfl
theorem q130_110 (hs : pm_ar S an 0 xi = true) : pm_V d 130 110 [l0, l1, l2] (.int xi :: .ref an :: st) S Q = pm_V d 130 111 [l0, l1, l2] (.int (pm_zi S an xi.toNatClampNeg) :: st) S Q := pv_iald (pm_cdi rfl dX7_told_110) hs
theorem q130_111 : pm_V d 130 111 [l0, l1, l2] [.int xi] S Q = Q (some (.int xi)) S := pv_rI (pm_cdi rfl dX7_told_111) (by decide +kernel)
theorem q130_112 : pm_V d 130 112 [.ref xn, l1, l2] st S Q = pm_V d 130 113 [.ref xn, l1, l2] (.ref xn :: st) S Q := pv_aload_n (pm_cdi rfl dX7_told_112) rfl
theorem q130_113 (hs : pm_sh S an = .inr 7) : pm_V d 130 113 [l0, l1, l2] (.ref an :: st) S Q = pm_V d 130 116 [l0, l1, l2] (va_rf (pm_gr S an 6) :: st) S Q := pv_getA (pm_cdi rfl dX7_told_113) (by decide +kernel) (by decide +kernel) (by decide +kernel) hs
theorem q130_116 : pm_V d 130 116 [l0, .int xi, l2] st S Q = pm_V d 130 117 [l0, .int xi, l2] (.int xi :: st) S Q := pv_iload_n (pm_cdi rfl dX7_told_116) rfl
theorem q130_117 (hs : pm_ar S an 2 xi = true) : pm_V d 130 117 [l0, l1, l2] (.int xi :: .ref an :: st) S Q = pm_V d 130 118 [l0, l1, l2] (.int (pm_zi S an xi.toNatClampNeg) :: st) S Q := pv_bald (pm_cdi rfl dX7_told_117) hs
theorem q130_118 : pm_V d 130 118 [l0, l1, l2] (.int xi :: st) S Q = if xi = 0 then pm_V d 130 125 [l0, l1, l2] st S Q else pm_V d 130 121 [l0, l1, l2] st S Q := pv_if_eq (pm_cdi rfl dX7_told_118) rfl
theorem q130_121 : pm_V d 130 121 [l0, l1, l2] st S Q = pm_V d 130 122 [l0, l1, l2] (.int 0 :: st) S Q := pv_iconst (pm_cdi rfl dX7_told_121) (by decide +kernel)
theorem q130_122 : pm_V d 130 122 [l0, l1, l2] st S Q = pm_V d 130 126 [l0, l1, l2] st S Q := pv_goto (pm_cdi rfl dX7_told_122) rfl
theorem q130_125 : pm_V d 130 125 [l0, l1, l2] st S Q = pm_V d 130 126 [l0, l1, l2] (.int 1 :: st) S Q := pv_iconst (pm_cdi rfl dX7_told_125) (by decide +kernel)
theorem q130_126 : pm_V d 130 126 [l0, l1, l2] [.int xi] S Q = Q (some (.int xi)) S := pv_rI (pm_cdi rfl dX7_told_126) (by decide +kernel)
theorem q130_127 : pm_V d 130 127 [.ref xn, l1, l2] st S Q = pm_V d 130 128 [.ref xn, l1, l2] (.ref xn :: st) S Q := pv_aload_n (pm_cdi rfl dX7_told_127) rfl
theorem q130_128 (hs : pm_sh S an = .inr 7) : pm_V d 130 128 [l0, l1, l2] (.ref an :: st) S Q = pm_V d 130 131 [l0, l1, l2] (va_rf (pm_gr S an 7) :: st) S Q := pv_getA (pm_cdi rfl dX7_told_128) (by decide +kernel) (by decide +kernel) (by decide +kernel) hs
theorem q130_131 : pm_V d 130 131 [l0, .int xi, l2] st S Q = pm_V d 130 132 [l0, .int xi, l2] (.int xi :: st) S Q := pv_iload_n (pm_cdi rfl dX7_told_131) rfl
theorem q130_132 (hs : pm_ar S an 0 xi = true) : pm_V d 130 132 [l0, l1, l2] (.int xi :: .ref an :: st) S Q = pm_V d 130 133 [l0, l1, l2] (.int (pm_zi S an xi.toNatClampNeg) :: st) S Q := pv_iald (pm_cdi rfl dX7_told_132) hs
theorem q130_133 : pm_V d 130 133 [l0, l1, l2] [.int xi] S Q = Q (some (.int xi)) S := pv_rI (pm_cdi rfl dX7_told_133) (by decide +kernel)
theorem q130_e : pm_N d 130 [.ref an, .int v0i, .int v1i] S Q = pm_V d 130 0 [.ref an, .int v0i, .int v1i] [] S Q := pv_ent (Nat.le_of_ble_eq_true rfl) rfl
/-! 131: ViewsJoinsModel.end(III)I -/
theorem dX7_end_0 : decode cX7_end 0 = .ok (.aload_n 0, 1) := by decide +kernel
theorem dX7_end_1 : decode cX7_end 1 = .ok (.iload_n 1, 1) := by decide +kernel
theorem dX7_end_2 : decode cX7_end 2 = .ok (.invokevirtual 123, 3) := by decide +kernel
theorem dX7_end_5 : decode cX7_end 5 = .ok (.ifCond .eq 12, 3) := by decide +kernel
theorem dX7_end_8 : decode cX7_end 8 = .ok (.iload_n 3, 1) := by decide +kernel
theorem dX7_end_9 : decode cX7_end 9 = .ok (.iconst 0, 1) := by decide +kernel
theorem dX7_end_10 : decode cX7_end 10 = .ok (.iconst 1, 1) := by decide +kernel
theorem dX7_end_11 : decode cX7_end 11 = .ok (.invokestatic 119, 3) := by decide +kernel
theorem dX7_end_14 : decode cX7_end 14 = .ok (.ifCond .ne 6, 3) := by decide +kernel
theorem dX7_end_17 : decode cX7_end 17 = .ok (.ldc 130, 2) := by decide +kernel
theorem dX7_end_19 : decode cX7_end 19 = .ok (.ireturn, 1) := by decide +kernel
theorem dX7_end_20 : decode cX7_end 20 = .ok (.aload_n 0, 1) := by decide +kernel
theorem dX7_end_21 : decode cX7_end 21 = .ok (.invokevirtual 264, 3) := by decide +kernel
theorem dX7_end_24 : decode cX7_end 24 = .ok (.aload_n 0, 1) := by decide +kernel
theorem dX7_end_25 : decode cX7_end 25 = .ok (.getfield 29, 3) := by decide +kernel
theorem dX7_end_28 : decode cX7_end 28 = .ok (.iload_n 1, 1) := by decide +kernel
theorem dX7_end_29 : decode cX7_end 29 = .ok (.iaload, 1) := by decide +kernel
theorem dX7_end_30 : decode cX7_end 30 = .ok (.ifCond .eq 7, 3) := by decide +kernel
theorem dX7_end_33 : decode cX7_end 33 = .ok (.ldc_w 267, 3) := by decide +kernel
theorem dX7_end_36 : decode cX7_end 36 = .ok (.ireturn, 1) := by decide +kernel
theorem dX7_end_37 : decode cX7_end 37 = .ok (.iload_n 2, 1) := by decide +kernel
theorem dX7_end_38 : decode cX7_end 38 = .ok (.iconst 0, 1) := by decide +kernel
theorem dX7_end_39 : decode cX7_end 39 = .ok (.aload_n 0, 1) := by decide +kernel
theorem dX7_end_40 : decode cX7_end 40 = .ok (.getfield 35, 3) := by decide +kernel
theorem dX7_end_43 : decode cX7_end 43 = .ok (.iload_n 1, 1) := by decide +kernel
theorem dX7_end_44 : decode cX7_end 44 = .ok (.iaload, 1) := by decide +kernel
theorem dX7_end_45 : decode cX7_end 45 = .ok (.iconst 1, 1) := by decide +kernel
theorem dX7_end_46 : decode cX7_end 46 = .ok (.isub, 1) := by decide +kernel
theorem dX7_end_47 : decode cX7_end 47 = .ok (.invokestatic 119, 3) := by decide +kernel
theorem dX7_end_50 : decode cX7_end 50 = .ok (.ifCond .ne 8, 3) := by decide +kernel
theorem dX7_end_53 : decode cX7_end 53 = .ok (.ldc 130, 2) := by decide +kernel
theorem dX7_end_55 : decode cX7_end 55 = .ok (.goto 22, 3) := by decide +kernel
theorem dX7_end_58 : decode cX7_end 58 = .ok (.iload_n 3, 1) := by decide +kernel
theorem dX7_end_59 : decode cX7_end 59 = .ok (.ifCond .ne 12, 3) := by decide +kernel
theorem dX7_end_62 : decode cX7_end 62 = .ok (.aload_n 0, 1) := by decide +kernel
theorem dX7_end_63 : decode cX7_end 63 = .ok (.iload_n 1, 1) := by decide +kernel
theorem dX7_end_64 : decode cX7_end 64 = .ok (.iload_n 2, 1) := by decide +kernel
theorem dX7_end_65 : decode cX7_end 65 = .ok (.invokevirtual 181, 3) := by decide +kernel
theorem dX7_end_68 : decode cX7_end 68 = .ok (.goto 9, 3) := by decide +kernel
theorem dX7_end_71 : decode cX7_end 71 = .ok (.aload_n 0, 1) := by decide +kernel
theorem dX7_end_72 : decode cX7_end 72 = .ok (.iload_n 1, 1) := by decide +kernel
theorem dX7_end_73 : decode cX7_end 73 = .ok (.iload_n 2, 1) := by decide +kernel
theorem dX7_end_74 : decode cX7_end 74 = .ok (.invokevirtual 185, 3) := by decide +kernel
theorem dX7_end_77 : decode cX7_end 77 = .ok (.ireturn, 1) := by decide +kernel
theorem q131_0 : pm_V d 131 0 [.ref xn, l1, l2, l3] st S Q = pm_V d 131 1 [.ref xn, l1, l2, l3] (.ref xn :: st) S Q := pv_aload_n (pm_cdi rfl dX7_end_0) rfl
theorem q131_1 : pm_V d 131 1 [l0, .int xi, l2, l3] st S Q = pm_V d 131 2 [l0, .int xi, l2, l3] (.int xi :: st) S Q := pv_iload_n (pm_cdi rfl dX7_end_1) rfl
theorem q131_2 (hs : pm_sh S an = .inr 7) : pm_V (d + 1) 131 2 [l0, l1, l2, l3] [.int v0i, .ref an] S Q = pm_N d 89 [.ref an, .int v0i] S (fun r S' => pm_V (d + 1) 131 5 [l0, l1, l2, l3] (r.toList ++ []) S' Q) := pv_callV (as := [.int v0i]) (pm_cdi rfl dX7_end_2) (Or.inl (by decide +kernel)) (by decide +kernel) (show _ = _ from (by decide +kernel : 1 = pm_np 89)) rfl (Nat.le_of_ble_eq_true rfl) (cl := 7) (by decide +kernel) hs
theorem q131_5 : pm_V d 131 5 [l0, l1, l2, l3] (.int xi :: st) S Q = if xi = 0 then pm_V d 131 17 [l0, l1, l2, l3] st S Q else pm_V d 131 8 [l0, l1, l2, l3] st S Q := pv_if_eq (pm_cdi rfl dX7_end_5) rfl
theorem q131_8 : pm_V d 131 8 [l0, l1, l2, .int xi] st S Q = pm_V d 131 9 [l0, l1, l2, .int xi] (.int xi :: st) S Q := pv_iload_n (pm_cdi rfl dX7_end_8) rfl
theorem q131_9 : pm_V d 131 9 [l0, l1, l2, l3] st S Q = pm_V d 131 10 [l0, l1, l2, l3] (.int 0 :: st) S Q := pv_iconst (pm_cdi rfl dX7_end_9) (by decide +kernel)
theorem q131_10 : pm_V d 131 10 [l0, l1, l2, l3] st S Q = pm_V d 131 11 [l0, l1, l2, l3] (.int 1 :: st) S Q := pv_iconst (pm_cdi rfl dX7_end_10) (by decide +kernel)
theorem q131_11 : pm_V (d + 1) 131 11 [l0, l1, l2, l3] [.int v2i, .int v1i, .int v0i] S Q = pm_N d 88 [.int v0i, .int v1i, .int v2i] S (fun r S' => pm_V (d + 1) 131 14 [l0, l1, l2, l3] (r.toList ++ []) S' Q) := pv_callS (as := [.int v0i, .int v1i, .int v2i]) (pm_cdi rfl dX7_end_11) (by decide +kernel) (by decide +kernel) (show _ = _ from (by decide +kernel : 3 = pm_np 88)) rfl (Nat.le_of_ble_eq_true rfl)
theorem q131_14 : pm_V d 131 14 [l0, l1, l2, l3] (.int xi :: st) S Q = if xi = 0 then pm_V d 131 17 [l0, l1, l2, l3] st S Q else pm_V d 131 20 [l0, l1, l2, l3] st S Q := pv_if_ne (pm_cdi rfl dX7_end_14) rfl
theorem q131_17 : pm_V d 131 17 [l0, l1, l2, l3] st S Q = pm_V d 131 19 [l0, l1, l2, l3] (.int (-1000001) :: st) S Q := pv_ldc (pm_cdi rfl dX7_end_17) (by decide +kernel)
theorem q131_19 : pm_V d 131 19 [l0, l1, l2, l3] [.int xi] S Q = Q (some (.int xi)) S := pv_rI (pm_cdi rfl dX7_end_19) (by decide +kernel)
theorem q131_20 : pm_V d 131 20 [.ref xn, l1, l2, l3] st S Q = pm_V d 131 21 [.ref xn, l1, l2, l3] (.ref xn :: st) S Q := pv_aload_n (pm_cdi rfl dX7_end_20) rfl
theorem q131_21 (hs : pm_sh S an = .inr 7) : pm_V (d + 1) 131 21 [l0, l1, l2, l3] [.ref an] S Q = pm_N d 100 [.ref an] S (fun r S' => pm_V (d + 1) 131 24 [l0, l1, l2, l3] (r.toList ++ []) S' Q) := pv_callV (as := []) (pm_cdi rfl dX7_end_21) (Or.inl (by decide +kernel)) (by decide +kernel) (show _ = _ from (by decide +kernel : 0 = pm_np 100)) rfl (Nat.le_of_ble_eq_true rfl) (cl := 7) (by decide +kernel) hs
theorem q131_24 : pm_V d 131 24 [.ref xn, l1, l2, l3] st S Q = pm_V d 131 25 [.ref xn, l1, l2, l3] (.ref xn :: st) S Q := pv_aload_n (pm_cdi rfl dX7_end_24) rfl
theorem q131_25 (hs : pm_sh S an = .inr 7) : pm_V d 131 25 [l0, l1, l2, l3] (.ref an :: st) S Q = pm_V d 131 28 [l0, l1, l2, l3] (va_rf (pm_gr S an 7) :: st) S Q := pv_getA (pm_cdi rfl dX7_end_25) (by decide +kernel) (by decide +kernel) (by decide +kernel) hs
theorem q131_28 : pm_V d 131 28 [l0, .int xi, l2, l3] st S Q = pm_V d 131 29 [l0, .int xi, l2, l3] (.int xi :: st) S Q := pv_iload_n (pm_cdi rfl dX7_end_28) rfl
theorem q131_29 (hs : pm_ar S an 0 xi = true) : pm_V d 131 29 [l0, l1, l2, l3] (.int xi :: .ref an :: st) S Q = pm_V d 131 30 [l0, l1, l2, l3] (.int (pm_zi S an xi.toNatClampNeg) :: st) S Q := pv_iald (pm_cdi rfl dX7_end_29) hs
theorem q131_30 : pm_V d 131 30 [l0, l1, l2, l3] (.int xi :: st) S Q = if xi = 0 then pm_V d 131 37 [l0, l1, l2, l3] st S Q else pm_V d 131 33 [l0, l1, l2, l3] st S Q := pv_if_eq (pm_cdi rfl dX7_end_30) rfl
theorem q131_33 : pm_V d 131 33 [l0, l1, l2, l3] st S Q = pm_V d 131 36 [l0, l1, l2, l3] (.int (-1000003) :: st) S Q := pv_ldcw (pm_cdi rfl dX7_end_33) (by decide +kernel)
theorem q131_36 : pm_V d 131 36 [l0, l1, l2, l3] [.int xi] S Q = Q (some (.int xi)) S := pv_rI (pm_cdi rfl dX7_end_36) (by decide +kernel)
theorem q131_37 : pm_V d 131 37 [l0, l1, .int xi, l3] st S Q = pm_V d 131 38 [l0, l1, .int xi, l3] (.int xi :: st) S Q := pv_iload_n (pm_cdi rfl dX7_end_37) rfl
theorem q131_38 : pm_V d 131 38 [l0, l1, l2, l3] st S Q = pm_V d 131 39 [l0, l1, l2, l3] (.int 0 :: st) S Q := pv_iconst (pm_cdi rfl dX7_end_38) (by decide +kernel)
theorem q131_39 : pm_V d 131 39 [.ref xn, l1, l2, l3] st S Q = pm_V d 131 40 [.ref xn, l1, l2, l3] (.ref xn :: st) S Q := pv_aload_n (pm_cdi rfl dX7_end_39) rfl
theorem q131_40 (hs : pm_sh S an = .inr 7) : pm_V d 131 40 [l0, l1, l2, l3] (.ref an :: st) S Q = pm_V d 131 43 [l0, l1, l2, l3] (va_rf (pm_gr S an 9) :: st) S Q := pv_getA (pm_cdi rfl dX7_end_40) (by decide +kernel) (by decide +kernel) (by decide +kernel) hs
theorem q131_43 : pm_V d 131 43 [l0, .int xi, l2, l3] st S Q = pm_V d 131 44 [l0, .int xi, l2, l3] (.int xi :: st) S Q := pv_iload_n (pm_cdi rfl dX7_end_43) rfl
theorem q131_44 (hs : pm_ar S an 0 xi = true) : pm_V d 131 44 [l0, l1, l2, l3] (.int xi :: .ref an :: st) S Q = pm_V d 131 45 [l0, l1, l2, l3] (.int (pm_zi S an xi.toNatClampNeg) :: st) S Q := pv_iald (pm_cdi rfl dX7_end_44) hs
theorem q131_45 : pm_V d 131 45 [l0, l1, l2, l3] st S Q = pm_V d 131 46 [l0, l1, l2, l3] (.int 1 :: st) S Q := pv_iconst (pm_cdi rfl dX7_end_45) (by decide +kernel)
theorem q131_46 : pm_V d 131 46 [l0, l1, l2, l3] (.int yi :: .int xi :: st) S Q = pm_V d 131 47 [l0, l1, l2, l3] (.int (xi - yi) :: st) S Q := pv_isub (pm_cdi rfl dX7_end_46)
theorem q131_47 : pm_V (d + 1) 131 47 [l0, l1, l2, l3] [.int v2i, .int v1i, .int v0i] S Q = pm_N d 88 [.int v0i, .int v1i, .int v2i] S (fun r S' => pm_V (d + 1) 131 50 [l0, l1, l2, l3] (r.toList ++ []) S' Q) := pv_callS (as := [.int v0i, .int v1i, .int v2i]) (pm_cdi rfl dX7_end_47) (by decide +kernel) (by decide +kernel) (show _ = _ from (by decide +kernel : 3 = pm_np 88)) rfl (Nat.le_of_ble_eq_true rfl)
theorem q131_50 : pm_V d 131 50 [l0, l1, l2, l3] (.int xi :: st) S Q = if xi = 0 then pm_V d 131 53 [l0, l1, l2, l3] st S Q else pm_V d 131 58 [l0, l1, l2, l3] st S Q := pv_if_ne (pm_cdi rfl dX7_end_50) rfl
theorem q131_53 : pm_V d 131 53 [l0, l1, l2, l3] st S Q = pm_V d 131 55 [l0, l1, l2, l3] (.int (-1000001) :: st) S Q := pv_ldc (pm_cdi rfl dX7_end_53) (by decide +kernel)
theorem q131_55 : pm_V d 131 55 [l0, l1, l2, l3] st S Q = pm_V d 131 77 [l0, l1, l2, l3] st S Q := pv_goto (pm_cdi rfl dX7_end_55) rfl
theorem q131_58 : pm_V d 131 58 [l0, l1, l2, .int xi] st S Q = pm_V d 131 59 [l0, l1, l2, .int xi] (.int xi :: st) S Q := pv_iload_n (pm_cdi rfl dX7_end_58) rfl
theorem q131_59 : pm_V d 131 59 [l0, l1, l2, l3] (.int xi :: st) S Q = if xi = 0 then pm_V d 131 62 [l0, l1, l2, l3] st S Q else pm_V d 131 71 [l0, l1, l2, l3] st S Q := pv_if_ne (pm_cdi rfl dX7_end_59) rfl
theorem q131_62 : pm_V d 131 62 [.ref xn, l1, l2, l3] st S Q = pm_V d 131 63 [.ref xn, l1, l2, l3] (.ref xn :: st) S Q := pv_aload_n (pm_cdi rfl dX7_end_62) rfl
theorem q131_63 : pm_V d 131 63 [l0, .int xi, l2, l3] st S Q = pm_V d 131 64 [l0, .int xi, l2, l3] (.int xi :: st) S Q := pv_iload_n (pm_cdi rfl dX7_end_63) rfl
theorem q131_64 : pm_V d 131 64 [l0, l1, .int xi, l3] st S Q = pm_V d 131 65 [l0, l1, .int xi, l3] (.int xi :: st) S Q := pv_iload_n (pm_cdi rfl dX7_end_64) rfl
theorem q131_65 (hs : pm_sh S an = .inr 7) : pm_V (d + 1) 131 65 [l0, l1, l2, l3] [.int v1i, .int v0i, .ref an] S Q = pm_N d 105 [.ref an, .int v0i, .int v1i] S (fun r S' => pm_V (d + 1) 131 68 [l0, l1, l2, l3] (r.toList ++ []) S' Q) := pv_callV (as := [.int v0i, .int v1i]) (pm_cdi rfl dX7_end_65) (Or.inl (by decide +kernel)) (by decide +kernel) (show _ = _ from (by decide +kernel : 2 = pm_np 105)) rfl (Nat.le_of_ble_eq_true rfl) (cl := 7) (by decide +kernel) hs
theorem q131_68 : pm_V d 131 68 [l0, l1, l2, l3] st S Q = pm_V d 131 77 [l0, l1, l2, l3] st S Q := pv_goto (pm_cdi rfl dX7_end_68) rfl
theorem q131_71 : pm_V d 131 71 [.ref xn, l1, l2, l3] st S Q = pm_V d 131 72 [.ref xn, l1, l2, l3] (.ref xn :: st) S Q := pv_aload_n (pm_cdi rfl dX7_end_71) rfl
theorem q131_72 : pm_V d 131 72 [l0, .int xi, l2, l3] st S Q = pm_V d 131 73 [l0, .int xi, l2, l3] (.int xi :: st) S Q := pv_iload_n (pm_cdi rfl dX7_end_72) rfl
theorem q131_73 : pm_V d 131 73 [l0, l1, .int xi, l3] st S Q = pm_V d 131 74 [l0, l1, .int xi, l3] (.int xi :: st) S Q := pv_iload_n (pm_cdi rfl dX7_end_73) rfl
theorem q131_74 (hs : pm_sh S an = .inr 7) : pm_V (d + 1) 131 74 [l0, l1, l2, l3] [.int v1i, .int v0i, .ref an] S Q = pm_N d 106 [.ref an, .int v0i, .int v1i] S (fun r S' => pm_V (d + 1) 131 77 [l0, l1, l2, l3] (r.toList ++ []) S' Q) := pv_callV (as := [.int v0i, .int v1i]) (pm_cdi rfl dX7_end_74) (Or.inl (by decide +kernel)) (by decide +kernel) (show _ = _ from (by decide +kernel : 2 = pm_np 106)) rfl (Nat.le_of_ble_eq_true rfl) (cl := 7) (by decide +kernel) hs
theorem q131_77 : pm_V d 131 77 [l0, l1, l2, l3] [.int xi] S Q = Q (some (.int xi)) S := pv_rI (pm_cdi rfl dX7_end_77) (by decide +kernel)
theorem q131_e : pm_N d 131 [.ref an, .int v0i, .int v1i, .int v2i] S Q = pm_V d 131 0 [.ref an, .int v0i, .int v1i, .int v2i] [] S Q := pv_ent (Nat.le_of_ble_eq_true rfl) rfl
/-! 132: ViewsJoinsModel.itemsOf(II)I -/
theorem dX7_itemsOf_0 : decode cX7_itemsOf 0 = .ok (.iload_n 2, 1) := by decide +kernel
theorem dX7_itemsOf_1 : decode cX7_itemsOf 1 = .ok (.ifCond .ne 12, 3) := by decide +kernel
theorem dX7_itemsOf_4 : decode cX7_itemsOf 4 = .ok (.aload_n 0, 1) := by decide +kernel
theorem dX7_itemsOf_5 : decode cX7_itemsOf 5 = .ok (.getfield 32, 3) := by decide +kernel
theorem dX7_itemsOf_8 : decode cX7_itemsOf 8 = .ok (.iload_n 1, 1) := by decide +kernel
theorem dX7_itemsOf_9 : decode cX7_itemsOf 9 = .ok (.iaload, 1) := by decide +kernel
theorem dX7_itemsOf_10 : decode cX7_itemsOf 10 = .ok (.goto 9, 3) := by decide +kernel
theorem dX7_itemsOf_13 : decode cX7_itemsOf 13 = .ok (.aload_n 0, 1) := by decide +kernel
theorem dX7_itemsOf_14 : decode cX7_itemsOf 14 = .ok (.getfield 35, 3) := by decide +kernel
theorem dX7_itemsOf_17 : decode cX7_itemsOf 17 = .ok (.iload_n 1, 1) := by decide +kernel
theorem dX7_itemsOf_18 : decode cX7_itemsOf 18 = .ok (.iaload, 1) := by decide +kernel
theorem dX7_itemsOf_19 : decode cX7_itemsOf 19 = .ok (.ireturn, 1) := by decide +kernel
theorem q132_0 : pm_V d 132 0 [l0, l1, .int xi] st S Q = pm_V d 132 1 [l0, l1, .int xi] (.int xi :: st) S Q := pv_iload_n (pm_cdi rfl dX7_itemsOf_0) rfl
theorem q132_1 : pm_V d 132 1 [l0, l1, l2] (.int xi :: st) S Q = if xi = 0 then pm_V d 132 4 [l0, l1, l2] st S Q else pm_V d 132 13 [l0, l1, l2] st S Q := pv_if_ne (pm_cdi rfl dX7_itemsOf_1) rfl
theorem q132_4 : pm_V d 132 4 [.ref xn, l1, l2] st S Q = pm_V d 132 5 [.ref xn, l1, l2] (.ref xn :: st) S Q := pv_aload_n (pm_cdi rfl dX7_itemsOf_4) rfl
theorem q132_5 (hs : pm_sh S an = .inr 7) : pm_V d 132 5 [l0, l1, l2] (.ref an :: st) S Q = pm_V d 132 8 [l0, l1, l2] (va_rf (pm_gr S an 8) :: st) S Q := pv_getA (pm_cdi rfl dX7_itemsOf_5) (by decide +kernel) (by decide +kernel) (by decide +kernel) hs
theorem q132_8 : pm_V d 132 8 [l0, .int xi, l2] st S Q = pm_V d 132 9 [l0, .int xi, l2] (.int xi :: st) S Q := pv_iload_n (pm_cdi rfl dX7_itemsOf_8) rfl
theorem q132_9 (hs : pm_ar S an 0 xi = true) : pm_V d 132 9 [l0, l1, l2] (.int xi :: .ref an :: st) S Q = pm_V d 132 10 [l0, l1, l2] (.int (pm_zi S an xi.toNatClampNeg) :: st) S Q := pv_iald (pm_cdi rfl dX7_itemsOf_9) hs
theorem q132_10 : pm_V d 132 10 [l0, l1, l2] st S Q = pm_V d 132 19 [l0, l1, l2] st S Q := pv_goto (pm_cdi rfl dX7_itemsOf_10) rfl
theorem q132_13 : pm_V d 132 13 [.ref xn, l1, l2] st S Q = pm_V d 132 14 [.ref xn, l1, l2] (.ref xn :: st) S Q := pv_aload_n (pm_cdi rfl dX7_itemsOf_13) rfl
theorem q132_14 (hs : pm_sh S an = .inr 7) : pm_V d 132 14 [l0, l1, l2] (.ref an :: st) S Q = pm_V d 132 17 [l0, l1, l2] (va_rf (pm_gr S an 9) :: st) S Q := pv_getA (pm_cdi rfl dX7_itemsOf_14) (by decide +kernel) (by decide +kernel) (by decide +kernel) hs
theorem q132_17 : pm_V d 132 17 [l0, .int xi, l2] st S Q = pm_V d 132 18 [l0, .int xi, l2] (.int xi :: st) S Q := pv_iload_n (pm_cdi rfl dX7_itemsOf_17) rfl
theorem q132_18 (hs : pm_ar S an 0 xi = true) : pm_V d 132 18 [l0, l1, l2] (.int xi :: .ref an :: st) S Q = pm_V d 132 19 [l0, l1, l2] (.int (pm_zi S an xi.toNatClampNeg) :: st) S Q := pv_iald (pm_cdi rfl dX7_itemsOf_18) hs
theorem q132_19 : pm_V d 132 19 [l0, l1, l2] [.int xi] S Q = Q (some (.int xi)) S := pv_rI (pm_cdi rfl dX7_itemsOf_19) (by decide +kernel)
theorem q132_e : pm_N d 132 [.ref an, .int v0i, .int v1i] S Q = pm_V d 132 0 [.ref an, .int v0i, .int v1i] [] S Q := pv_ent (Nat.le_of_ble_eq_true rfl) rfl
/-! 133: ViewsJoinsModel.value(III)J -/
theorem dX7_value_0 : decode cX7_value 0 = .ok (.aload_n 0, 1) := by decide +kernel
theorem dX7_value_1 : decode cX7_value 1 = .ok (.iload_n 1, 1) := by decide +kernel
theorem dX7_value_2 : decode cX7_value 2 = .ok (.invokevirtual 123, 3) := by decide +kernel
theorem dX7_value_5 : decode cX7_value 5 = .ok (.ifCond .eq 12, 3) := by decide +kernel
theorem dX7_value_8 : decode cX7_value 8 = .ok (.iload_n 2, 1) := by decide +kernel
theorem dX7_value_9 : decode cX7_value 9 = .ok (.iconst 0, 1) := by decide +kernel
theorem dX7_value_10 : decode cX7_value 10 = .ok (.iconst 1, 1) := by decide +kernel
theorem dX7_value_11 : decode cX7_value 11 = .ok (.invokestatic 119, 3) := by decide +kernel
theorem dX7_value_14 : decode cX7_value 14 = .ok (.ifCond .ne 7, 3) := by decide +kernel
theorem dX7_value_17 : decode cX7_value 17 = .ok (.ldc2_w 268, 3) := by decide +kernel
theorem dX7_value_20 : decode cX7_value 20 = .ok (.lreturn, 1) := by decide +kernel
theorem dX7_value_21 : decode cX7_value 21 = .ok (.aload_n 0, 1) := by decide +kernel
theorem dX7_value_22 : decode cX7_value 22 = .ok (.invokevirtual 264, 3) := by decide +kernel
theorem dX7_value_25 : decode cX7_value 25 = .ok (.aload_n 0, 1) := by decide +kernel
theorem dX7_value_26 : decode cX7_value 26 = .ok (.getfield 29, 3) := by decide +kernel
theorem dX7_value_29 : decode cX7_value 29 = .ok (.iload_n 1, 1) := by decide +kernel
theorem dX7_value_30 : decode cX7_value 30 = .ok (.iaload, 1) := by decide +kernel
theorem dX7_value_31 : decode cX7_value 31 = .ok (.ifCond .eq 7, 3) := by decide +kernel
theorem dX7_value_34 : decode cX7_value 34 = .ok (.ldc2_w 270, 3) := by decide +kernel
theorem dX7_value_37 : decode cX7_value 37 = .ok (.lreturn, 1) := by decide +kernel
theorem dX7_value_38 : decode cX7_value 38 = .ok (.iload_n 3, 1) := by decide +kernel
theorem dX7_value_39 : decode cX7_value 39 = .ok (.iconst 0, 1) := by decide +kernel
theorem dX7_value_40 : decode cX7_value 40 = .ok (.aload_n 0, 1) := by decide +kernel
theorem dX7_value_41 : decode cX7_value 41 = .ok (.iload_n 1, 1) := by decide +kernel
theorem dX7_value_42 : decode cX7_value 42 = .ok (.iload_n 2, 1) := by decide +kernel
theorem dX7_value_43 : decode cX7_value 43 = .ok (.invokevirtual 272, 3) := by decide +kernel
theorem dX7_value_46 : decode cX7_value 46 = .ok (.iconst 1, 1) := by decide +kernel
theorem dX7_value_47 : decode cX7_value 47 = .ok (.isub, 1) := by decide +kernel
theorem dX7_value_48 : decode cX7_value 48 = .ok (.invokestatic 119, 3) := by decide +kernel
theorem dX7_value_51 : decode cX7_value 51 = .ok (.ifCond .ne 9, 3) := by decide +kernel
theorem dX7_value_54 : decode cX7_value 54 = .ok (.ldc2_w 268, 3) := by decide +kernel
theorem dX7_value_57 : decode cX7_value 57 = .ok (.goto 22, 3) := by decide +kernel
theorem dX7_value_60 : decode cX7_value 60 = .ok (.iload_n 2, 1) := by decide +kernel
theorem dX7_value_61 : decode cX7_value 61 = .ok (.ifCond .ne 12, 3) := by decide +kernel
theorem dX7_value_64 : decode cX7_value 64 = .ok (.aload_n 0, 1) := by decide +kernel
theorem dX7_value_65 : decode cX7_value 65 = .ok (.iload_n 1, 1) := by decide +kernel
theorem dX7_value_66 : decode cX7_value 66 = .ok (.iload_n 3, 1) := by decide +kernel
theorem dX7_value_67 : decode cX7_value 67 = .ok (.invokevirtual 201, 3) := by decide +kernel
theorem dX7_value_70 : decode cX7_value 70 = .ok (.goto 9, 3) := by decide +kernel
theorem dX7_value_73 : decode cX7_value 73 = .ok (.aload_n 0, 1) := by decide +kernel
theorem dX7_value_74 : decode cX7_value 74 = .ok (.iload_n 1, 1) := by decide +kernel
theorem dX7_value_75 : decode cX7_value 75 = .ok (.iload_n 3, 1) := by decide +kernel
theorem dX7_value_76 : decode cX7_value 76 = .ok (.invokevirtual 209, 3) := by decide +kernel
theorem dX7_value_79 : decode cX7_value 79 = .ok (.lreturn, 1) := by decide +kernel
theorem q133_0 : pm_V d 133 0 [.ref xn, l1, l2, l3] st S Q = pm_V d 133 1 [.ref xn, l1, l2, l3] (.ref xn :: st) S Q := pv_aload_n (pm_cdi rfl dX7_value_0) rfl
theorem q133_1 : pm_V d 133 1 [l0, .int xi, l2, l3] st S Q = pm_V d 133 2 [l0, .int xi, l2, l3] (.int xi :: st) S Q := pv_iload_n (pm_cdi rfl dX7_value_1) rfl
theorem q133_2 (hs : pm_sh S an = .inr 7) : pm_V (d + 1) 133 2 [l0, l1, l2, l3] [.int v0i, .ref an] S Q = pm_N d 89 [.ref an, .int v0i] S (fun r S' => pm_V (d + 1) 133 5 [l0, l1, l2, l3] (r.toList ++ []) S' Q) := pv_callV (as := [.int v0i]) (pm_cdi rfl dX7_value_2) (Or.inl (by decide +kernel)) (by decide +kernel) (show _ = _ from (by decide +kernel : 1 = pm_np 89)) rfl (Nat.le_of_ble_eq_true rfl) (cl := 7) (by decide +kernel) hs
theorem q133_5 : pm_V d 133 5 [l0, l1, l2, l3] (.int xi :: st) S Q = if xi = 0 then pm_V d 133 17 [l0, l1, l2, l3] st S Q else pm_V d 133 8 [l0, l1, l2, l3] st S Q := pv_if_eq (pm_cdi rfl dX7_value_5) rfl
theorem q133_8 : pm_V d 133 8 [l0, l1, .int xi, l3] st S Q = pm_V d 133 9 [l0, l1, .int xi, l3] (.int xi :: st) S Q := pv_iload_n (pm_cdi rfl dX7_value_8) rfl
theorem q133_9 : pm_V d 133 9 [l0, l1, l2, l3] st S Q = pm_V d 133 10 [l0, l1, l2, l3] (.int 0 :: st) S Q := pv_iconst (pm_cdi rfl dX7_value_9) (by decide +kernel)
theorem q133_10 : pm_V d 133 10 [l0, l1, l2, l3] st S Q = pm_V d 133 11 [l0, l1, l2, l3] (.int 1 :: st) S Q := pv_iconst (pm_cdi rfl dX7_value_10) (by decide +kernel)
theorem q133_11 : pm_V (d + 1) 133 11 [l0, l1, l2, l3] [.int v2i, .int v1i, .int v0i] S Q = pm_N d 88 [.int v0i, .int v1i, .int v2i] S (fun r S' => pm_V (d + 1) 133 14 [l0, l1, l2, l3] (r.toList ++ []) S' Q) := pv_callS (as := [.int v0i, .int v1i, .int v2i]) (pm_cdi rfl dX7_value_11) (by decide +kernel) (by decide +kernel) (show _ = _ from (by decide +kernel : 3 = pm_np 88)) rfl (Nat.le_of_ble_eq_true rfl)
theorem q133_14 : pm_V d 133 14 [l0, l1, l2, l3] (.int xi :: st) S Q = if xi = 0 then pm_V d 133 17 [l0, l1, l2, l3] st S Q else pm_V d 133 21 [l0, l1, l2, l3] st S Q := pv_if_ne (pm_cdi rfl dX7_value_14) rfl
theorem q133_17 : pm_V d 133 17 [l0, l1, l2, l3] st S Q = pm_V d 133 20 [l0, l1, l2, l3] (.long (-1000001) :: st) S Q := pv_ldc2 (pm_cdi rfl dX7_value_17) (by decide +kernel)
theorem q133_20 : pm_V d 133 20 [l0, l1, l2, l3] [.long xj] S Q = Q (some (.long xj)) S := pv_rL (pm_cdi rfl dX7_value_20) (by decide +kernel)
theorem q133_21 : pm_V d 133 21 [.ref xn, l1, l2, l3] st S Q = pm_V d 133 22 [.ref xn, l1, l2, l3] (.ref xn :: st) S Q := pv_aload_n (pm_cdi rfl dX7_value_21) rfl
theorem q133_22 (hs : pm_sh S an = .inr 7) : pm_V (d + 1) 133 22 [l0, l1, l2, l3] [.ref an] S Q = pm_N d 100 [.ref an] S (fun r S' => pm_V (d + 1) 133 25 [l0, l1, l2, l3] (r.toList ++ []) S' Q) := pv_callV (as := []) (pm_cdi rfl dX7_value_22) (Or.inl (by decide +kernel)) (by decide +kernel) (show _ = _ from (by decide +kernel : 0 = pm_np 100)) rfl (Nat.le_of_ble_eq_true rfl) (cl := 7) (by decide +kernel) hs
theorem q133_25 : pm_V d 133 25 [.ref xn, l1, l2, l3] st S Q = pm_V d 133 26 [.ref xn, l1, l2, l3] (.ref xn :: st) S Q := pv_aload_n (pm_cdi rfl dX7_value_25) rfl
theorem q133_26 (hs : pm_sh S an = .inr 7) : pm_V d 133 26 [l0, l1, l2, l3] (.ref an :: st) S Q = pm_V d 133 29 [l0, l1, l2, l3] (va_rf (pm_gr S an 7) :: st) S Q := pv_getA (pm_cdi rfl dX7_value_26) (by decide +kernel) (by decide +kernel) (by decide +kernel) hs
theorem q133_29 : pm_V d 133 29 [l0, .int xi, l2, l3] st S Q = pm_V d 133 30 [l0, .int xi, l2, l3] (.int xi :: st) S Q := pv_iload_n (pm_cdi rfl dX7_value_29) rfl
theorem q133_30 (hs : pm_ar S an 0 xi = true) : pm_V d 133 30 [l0, l1, l2, l3] (.int xi :: .ref an :: st) S Q = pm_V d 133 31 [l0, l1, l2, l3] (.int (pm_zi S an xi.toNatClampNeg) :: st) S Q := pv_iald (pm_cdi rfl dX7_value_30) hs
theorem q133_31 : pm_V d 133 31 [l0, l1, l2, l3] (.int xi :: st) S Q = if xi = 0 then pm_V d 133 38 [l0, l1, l2, l3] st S Q else pm_V d 133 34 [l0, l1, l2, l3] st S Q := pv_if_eq (pm_cdi rfl dX7_value_31) rfl
theorem q133_34 : pm_V d 133 34 [l0, l1, l2, l3] st S Q = pm_V d 133 37 [l0, l1, l2, l3] (.long (-1000003) :: st) S Q := pv_ldc2 (pm_cdi rfl dX7_value_34) (by decide +kernel)
theorem q133_37 : pm_V d 133 37 [l0, l1, l2, l3] [.long xj] S Q = Q (some (.long xj)) S := pv_rL (pm_cdi rfl dX7_value_37) (by decide +kernel)
theorem q133_38 : pm_V d 133 38 [l0, l1, l2, .int xi] st S Q = pm_V d 133 39 [l0, l1, l2, .int xi] (.int xi :: st) S Q := pv_iload_n (pm_cdi rfl dX7_value_38) rfl
theorem q133_39 : pm_V d 133 39 [l0, l1, l2, l3] st S Q = pm_V d 133 40 [l0, l1, l2, l3] (.int 0 :: st) S Q := pv_iconst (pm_cdi rfl dX7_value_39) (by decide +kernel)
theorem q133_40 : pm_V d 133 40 [.ref xn, l1, l2, l3] st S Q = pm_V d 133 41 [.ref xn, l1, l2, l3] (.ref xn :: st) S Q := pv_aload_n (pm_cdi rfl dX7_value_40) rfl
theorem q133_41 : pm_V d 133 41 [l0, .int xi, l2, l3] st S Q = pm_V d 133 42 [l0, .int xi, l2, l3] (.int xi :: st) S Q := pv_iload_n (pm_cdi rfl dX7_value_41) rfl
theorem q133_42 : pm_V d 133 42 [l0, l1, .int xi, l3] st S Q = pm_V d 133 43 [l0, l1, .int xi, l3] (.int xi :: st) S Q := pv_iload_n (pm_cdi rfl dX7_value_42) rfl
theorem q133_43 (hs : pm_sh S an = .inr 7) : pm_V (d + 1) 133 43 [l0, l1, l2, l3] [.int v1i, .int v0i, .ref an, .int r0i, .int r1i] S Q = pm_N d 132 [.ref an, .int v0i, .int v1i] S (fun r S' => pm_V (d + 1) 133 46 [l0, l1, l2, l3] (r.toList ++ [.int r0i, .int r1i]) S' Q) := pv_callV (as := [.int v0i, .int v1i]) (pm_cdi rfl dX7_value_43) (Or.inl (by decide +kernel)) (by decide +kernel) (show _ = _ from (by decide +kernel : 2 = pm_np 132)) rfl (Nat.le_of_ble_eq_true rfl) (cl := 7) (by decide +kernel) hs
theorem q133_46 : pm_V d 133 46 [l0, l1, l2, l3] st S Q = pm_V d 133 47 [l0, l1, l2, l3] (.int 1 :: st) S Q := pv_iconst (pm_cdi rfl dX7_value_46) (by decide +kernel)
theorem q133_47 : pm_V d 133 47 [l0, l1, l2, l3] (.int yi :: .int xi :: st) S Q = pm_V d 133 48 [l0, l1, l2, l3] (.int (xi - yi) :: st) S Q := pv_isub (pm_cdi rfl dX7_value_47)
theorem q133_48 : pm_V (d + 1) 133 48 [l0, l1, l2, l3] [.int v2i, .int v1i, .int v0i] S Q = pm_N d 88 [.int v0i, .int v1i, .int v2i] S (fun r S' => pm_V (d + 1) 133 51 [l0, l1, l2, l3] (r.toList ++ []) S' Q) := pv_callS (as := [.int v0i, .int v1i, .int v2i]) (pm_cdi rfl dX7_value_48) (by decide +kernel) (by decide +kernel) (show _ = _ from (by decide +kernel : 3 = pm_np 88)) rfl (Nat.le_of_ble_eq_true rfl)
theorem q133_51 : pm_V d 133 51 [l0, l1, l2, l3] (.int xi :: st) S Q = if xi = 0 then pm_V d 133 54 [l0, l1, l2, l3] st S Q else pm_V d 133 60 [l0, l1, l2, l3] st S Q := pv_if_ne (pm_cdi rfl dX7_value_51) rfl
theorem q133_54 : pm_V d 133 54 [l0, l1, l2, l3] st S Q = pm_V d 133 57 [l0, l1, l2, l3] (.long (-1000001) :: st) S Q := pv_ldc2 (pm_cdi rfl dX7_value_54) (by decide +kernel)
theorem q133_57 : pm_V d 133 57 [l0, l1, l2, l3] st S Q = pm_V d 133 79 [l0, l1, l2, l3] st S Q := pv_goto (pm_cdi rfl dX7_value_57) rfl
theorem q133_60 : pm_V d 133 60 [l0, l1, .int xi, l3] st S Q = pm_V d 133 61 [l0, l1, .int xi, l3] (.int xi :: st) S Q := pv_iload_n (pm_cdi rfl dX7_value_60) rfl
theorem q133_61 : pm_V d 133 61 [l0, l1, l2, l3] (.int xi :: st) S Q = if xi = 0 then pm_V d 133 64 [l0, l1, l2, l3] st S Q else pm_V d 133 73 [l0, l1, l2, l3] st S Q := pv_if_ne (pm_cdi rfl dX7_value_61) rfl
theorem q133_64 : pm_V d 133 64 [.ref xn, l1, l2, l3] st S Q = pm_V d 133 65 [.ref xn, l1, l2, l3] (.ref xn :: st) S Q := pv_aload_n (pm_cdi rfl dX7_value_64) rfl
theorem q133_65 : pm_V d 133 65 [l0, .int xi, l2, l3] st S Q = pm_V d 133 66 [l0, .int xi, l2, l3] (.int xi :: st) S Q := pv_iload_n (pm_cdi rfl dX7_value_65) rfl
theorem q133_66 : pm_V d 133 66 [l0, l1, l2, .int xi] st S Q = pm_V d 133 67 [l0, l1, l2, .int xi] (.int xi :: st) S Q := pv_iload_n (pm_cdi rfl dX7_value_66) rfl
theorem q133_67 (hs : pm_sh S an = .inr 7) : pm_V (d + 1) 133 67 [l0, l1, l2, l3] [.int v1i, .int v0i, .ref an] S Q = pm_N d 107 [.ref an, .int v0i, .int v1i] S (fun r S' => pm_V (d + 1) 133 70 [l0, l1, l2, l3] (r.toList ++ []) S' Q) := pv_callV (as := [.int v0i, .int v1i]) (pm_cdi rfl dX7_value_67) (Or.inl (by decide +kernel)) (by decide +kernel) (show _ = _ from (by decide +kernel : 2 = pm_np 107)) rfl (Nat.le_of_ble_eq_true rfl) (cl := 7) (by decide +kernel) hs
theorem q133_70 : pm_V d 133 70 [l0, l1, l2, l3] st S Q = pm_V d 133 79 [l0, l1, l2, l3] st S Q := pv_goto (pm_cdi rfl dX7_value_70) rfl
theorem q133_73 : pm_V d 133 73 [.ref xn, l1, l2, l3] st S Q = pm_V d 133 74 [.ref xn, l1, l2, l3] (.ref xn :: st) S Q := pv_aload_n (pm_cdi rfl dX7_value_73) rfl
theorem q133_74 : pm_V d 133 74 [l0, .int xi, l2, l3] st S Q = pm_V d 133 75 [l0, .int xi, l2, l3] (.int xi :: st) S Q := pv_iload_n (pm_cdi rfl dX7_value_74) rfl
theorem q133_75 : pm_V d 133 75 [l0, l1, l2, .int xi] st S Q = pm_V d 133 76 [l0, l1, l2, .int xi] (.int xi :: st) S Q := pv_iload_n (pm_cdi rfl dX7_value_75) rfl
theorem q133_76 (hs : pm_sh S an = .inr 7) : pm_V (d + 1) 133 76 [l0, l1, l2, l3] [.int v1i, .int v0i, .ref an] S Q = pm_N d 108 [.ref an, .int v0i, .int v1i] S (fun r S' => pm_V (d + 1) 133 79 [l0, l1, l2, l3] (r.toList ++ []) S' Q) := pv_callV (as := [.int v0i, .int v1i]) (pm_cdi rfl dX7_value_76) (Or.inl (by decide +kernel)) (by decide +kernel) (show _ = _ from (by decide +kernel : 2 = pm_np 108)) rfl (Nat.le_of_ble_eq_true rfl) (cl := 7) (by decide +kernel) hs
theorem q133_79 : pm_V d 133 79 [l0, l1, l2, l3] [.long xj] S Q = Q (some (.long xj)) S := pv_rL (pm_cdi rfl dX7_value_79) (by decide +kernel)
theorem q133_e : pm_N d 133 [.ref an, .int v0i, .int v1i, .int v2i] S Q = pm_V d 133 0 [.ref an, .int v0i, .int v1i, .int v2i] [] S Q := pv_ent (Nat.le_of_ble_eq_true rfl) rfl
/-! 134: ViewsJoinsModel.upOf(IIII)I -/
theorem dX7_upOf_0 : decode cX7_upOf 0 = .ok (.iload_n 2, 1) := by decide +kernel
theorem dX7_upOf_1 : decode cX7_upOf 1 = .ok (.ifCond .ne 34, 3) := by decide +kernel
theorem dX7_upOf_4 : decode cX7_upOf 4 = .ok (.iload 4, 2) := by decide +kernel
theorem dX7_upOf_6 : decode cX7_upOf 6 = .ok (.ifCond .ne 17, 3) := by decide +kernel
theorem dX7_upOf_9 : decode cX7_upOf 9 = .ok (.aload_n 0, 1) := by decide +kernel
theorem dX7_upOf_10 : decode cX7_upOf 10 = .ok (.getfield 42, 3) := by decide +kernel
theorem dX7_upOf_13 : decode cX7_upOf 13 = .ok (.bipush 40, 2) := by decide +kernel
theorem dX7_upOf_15 : decode cX7_upOf 15 = .ok (.iload_n 1, 1) := by decide +kernel
theorem dX7_upOf_16 : decode cX7_upOf 16 = .ok (.imul, 1) := by decide +kernel
theorem dX7_upOf_17 : decode cX7_upOf 17 = .ok (.iload_n 3, 1) := by decide +kernel
theorem dX7_upOf_18 : decode cX7_upOf 18 = .ok (.iadd, 1) := by decide +kernel
theorem dX7_upOf_19 : decode cX7_upOf 19 = .ok (.iaload, 1) := by decide +kernel
theorem dX7_upOf_20 : decode cX7_upOf 20 = .ok (.goto 14, 3) := by decide +kernel
theorem dX7_upOf_23 : decode cX7_upOf 23 = .ok (.aload_n 0, 1) := by decide +kernel
theorem dX7_upOf_24 : decode cX7_upOf 24 = .ok (.getfield 45, 3) := by decide +kernel
theorem dX7_upOf_27 : decode cX7_upOf 27 = .ok (.bipush 40, 2) := by decide +kernel
theorem dX7_upOf_29 : decode cX7_upOf 29 = .ok (.iload_n 1, 1) := by decide +kernel
theorem dX7_upOf_30 : decode cX7_upOf 30 = .ok (.imul, 1) := by decide +kernel
theorem dX7_upOf_31 : decode cX7_upOf 31 = .ok (.iload_n 3, 1) := by decide +kernel
theorem dX7_upOf_32 : decode cX7_upOf 32 = .ok (.iadd, 1) := by decide +kernel
theorem dX7_upOf_33 : decode cX7_upOf 33 = .ok (.iaload, 1) := by decide +kernel
theorem dX7_upOf_34 : decode cX7_upOf 34 = .ok (.ireturn, 1) := by decide +kernel
theorem dX7_upOf_35 : decode cX7_upOf 35 = .ok (.iload 4, 2) := by decide +kernel
theorem dX7_upOf_37 : decode cX7_upOf 37 = .ok (.ifCond .ne 17, 3) := by decide +kernel
theorem dX7_upOf_40 : decode cX7_upOf 40 = .ok (.aload_n 0, 1) := by decide +kernel
theorem dX7_upOf_41 : decode cX7_upOf 41 = .ok (.getfield 57, 3) := by decide +kernel
theorem dX7_upOf_44 : decode cX7_upOf 44 = .ok (.bipush 120, 2) := by decide +kernel
theorem dX7_upOf_46 : decode cX7_upOf 46 = .ok (.iload_n 1, 1) := by decide +kernel
theorem dX7_upOf_47 : decode cX7_upOf 47 = .ok (.imul, 1) := by decide +kernel
theorem dX7_upOf_48 : decode cX7_upOf 48 = .ok (.iload_n 3, 1) := by decide +kernel
theorem dX7_upOf_49 : decode cX7_upOf 49 = .ok (.iadd, 1) := by decide +kernel
theorem dX7_upOf_50 : decode cX7_upOf 50 = .ok (.iaload, 1) := by decide +kernel
theorem dX7_upOf_51 : decode cX7_upOf 51 = .ok (.goto 14, 3) := by decide +kernel
theorem dX7_upOf_54 : decode cX7_upOf 54 = .ok (.aload_n 0, 1) := by decide +kernel
theorem dX7_upOf_55 : decode cX7_upOf 55 = .ok (.getfield 60, 3) := by decide +kernel
theorem dX7_upOf_58 : decode cX7_upOf 58 = .ok (.bipush 120, 2) := by decide +kernel
theorem dX7_upOf_60 : decode cX7_upOf 60 = .ok (.iload_n 1, 1) := by decide +kernel
theorem dX7_upOf_61 : decode cX7_upOf 61 = .ok (.imul, 1) := by decide +kernel
theorem dX7_upOf_62 : decode cX7_upOf 62 = .ok (.iload_n 3, 1) := by decide +kernel
theorem dX7_upOf_63 : decode cX7_upOf 63 = .ok (.iadd, 1) := by decide +kernel
theorem dX7_upOf_64 : decode cX7_upOf 64 = .ok (.iaload, 1) := by decide +kernel
theorem dX7_upOf_65 : decode cX7_upOf 65 = .ok (.ireturn, 1) := by decide +kernel
theorem q134_0 : pm_V d 134 0 [l0, l1, .int xi, l3, l4] st S Q = pm_V d 134 1 [l0, l1, .int xi, l3, l4] (.int xi :: st) S Q := pv_iload_n (pm_cdi rfl dX7_upOf_0) rfl
theorem q134_1 : pm_V d 134 1 [l0, l1, l2, l3, l4] (.int xi :: st) S Q = if xi = 0 then pm_V d 134 4 [l0, l1, l2, l3, l4] st S Q else pm_V d 134 35 [l0, l1, l2, l3, l4] st S Q := pv_if_ne (pm_cdi rfl dX7_upOf_1) rfl
theorem q134_4 : pm_V d 134 4 [l0, l1, l2, l3, .int xi] st S Q = pm_V d 134 6 [l0, l1, l2, l3, .int xi] (.int xi :: st) S Q := pv_iload (pm_cdi rfl dX7_upOf_4) rfl
theorem q134_6 : pm_V d 134 6 [l0, l1, l2, l3, l4] (.int xi :: st) S Q = if xi = 0 then pm_V d 134 9 [l0, l1, l2, l3, l4] st S Q else pm_V d 134 23 [l0, l1, l2, l3, l4] st S Q := pv_if_ne (pm_cdi rfl dX7_upOf_6) rfl
theorem q134_9 : pm_V d 134 9 [.ref xn, l1, l2, l3, l4] st S Q = pm_V d 134 10 [.ref xn, l1, l2, l3, l4] (.ref xn :: st) S Q := pv_aload_n (pm_cdi rfl dX7_upOf_9) rfl
theorem q134_10 (hs : pm_sh S an = .inr 7) : pm_V d 134 10 [l0, l1, l2, l3, l4] (.ref an :: st) S Q = pm_V d 134 13 [l0, l1, l2, l3, l4] (va_rf (pm_gr S an 11) :: st) S Q := pv_getA (pm_cdi rfl dX7_upOf_10) (by decide +kernel) (by decide +kernel) (by decide +kernel) hs
theorem q134_13 : pm_V d 134 13 [l0, l1, l2, l3, l4] st S Q = pm_V d 134 15 [l0, l1, l2, l3, l4] (.int 40 :: st) S Q := pv_bipush (pm_cdi rfl dX7_upOf_13) (by decide +kernel)
theorem q134_15 : pm_V d 134 15 [l0, .int xi, l2, l3, l4] st S Q = pm_V d 134 16 [l0, .int xi, l2, l3, l4] (.int xi :: st) S Q := pv_iload_n (pm_cdi rfl dX7_upOf_15) rfl
theorem q134_16 : pm_V d 134 16 [l0, l1, l2, l3, l4] (.int yi :: .int xi :: st) S Q = pm_V d 134 17 [l0, l1, l2, l3, l4] (.int (xi * yi) :: st) S Q := pv_imul (pm_cdi rfl dX7_upOf_16)
theorem q134_17 : pm_V d 134 17 [l0, l1, l2, .int xi, l4] st S Q = pm_V d 134 18 [l0, l1, l2, .int xi, l4] (.int xi :: st) S Q := pv_iload_n (pm_cdi rfl dX7_upOf_17) rfl
theorem q134_18 : pm_V d 134 18 [l0, l1, l2, l3, l4] (.int yi :: .int xi :: st) S Q = pm_V d 134 19 [l0, l1, l2, l3, l4] (.int (xi + yi) :: st) S Q := pv_iadd (pm_cdi rfl dX7_upOf_18)
theorem q134_19 (hs : pm_ar S an 0 xi = true) : pm_V d 134 19 [l0, l1, l2, l3, l4] (.int xi :: .ref an :: st) S Q = pm_V d 134 20 [l0, l1, l2, l3, l4] (.int (pm_zi S an xi.toNatClampNeg) :: st) S Q := pv_iald (pm_cdi rfl dX7_upOf_19) hs
theorem q134_20 : pm_V d 134 20 [l0, l1, l2, l3, l4] st S Q = pm_V d 134 34 [l0, l1, l2, l3, l4] st S Q := pv_goto (pm_cdi rfl dX7_upOf_20) rfl
theorem q134_23 : pm_V d 134 23 [.ref xn, l1, l2, l3, l4] st S Q = pm_V d 134 24 [.ref xn, l1, l2, l3, l4] (.ref xn :: st) S Q := pv_aload_n (pm_cdi rfl dX7_upOf_23) rfl
theorem q134_24 (hs : pm_sh S an = .inr 7) : pm_V d 134 24 [l0, l1, l2, l3, l4] (.ref an :: st) S Q = pm_V d 134 27 [l0, l1, l2, l3, l4] (va_rf (pm_gr S an 12) :: st) S Q := pv_getA (pm_cdi rfl dX7_upOf_24) (by decide +kernel) (by decide +kernel) (by decide +kernel) hs
theorem q134_27 : pm_V d 134 27 [l0, l1, l2, l3, l4] st S Q = pm_V d 134 29 [l0, l1, l2, l3, l4] (.int 40 :: st) S Q := pv_bipush (pm_cdi rfl dX7_upOf_27) (by decide +kernel)
theorem q134_29 : pm_V d 134 29 [l0, .int xi, l2, l3, l4] st S Q = pm_V d 134 30 [l0, .int xi, l2, l3, l4] (.int xi :: st) S Q := pv_iload_n (pm_cdi rfl dX7_upOf_29) rfl
theorem q134_30 : pm_V d 134 30 [l0, l1, l2, l3, l4] (.int yi :: .int xi :: st) S Q = pm_V d 134 31 [l0, l1, l2, l3, l4] (.int (xi * yi) :: st) S Q := pv_imul (pm_cdi rfl dX7_upOf_30)
theorem q134_31 : pm_V d 134 31 [l0, l1, l2, .int xi, l4] st S Q = pm_V d 134 32 [l0, l1, l2, .int xi, l4] (.int xi :: st) S Q := pv_iload_n (pm_cdi rfl dX7_upOf_31) rfl
theorem q134_32 : pm_V d 134 32 [l0, l1, l2, l3, l4] (.int yi :: .int xi :: st) S Q = pm_V d 134 33 [l0, l1, l2, l3, l4] (.int (xi + yi) :: st) S Q := pv_iadd (pm_cdi rfl dX7_upOf_32)
theorem q134_33 (hs : pm_ar S an 0 xi = true) : pm_V d 134 33 [l0, l1, l2, l3, l4] (.int xi :: .ref an :: st) S Q = pm_V d 134 34 [l0, l1, l2, l3, l4] (.int (pm_zi S an xi.toNatClampNeg) :: st) S Q := pv_iald (pm_cdi rfl dX7_upOf_33) hs
theorem q134_34 : pm_V d 134 34 [l0, l1, l2, l3, l4] [.int xi] S Q = Q (some (.int xi)) S := pv_rI (pm_cdi rfl dX7_upOf_34) (by decide +kernel)
theorem q134_35 : pm_V d 134 35 [l0, l1, l2, l3, .int xi] st S Q = pm_V d 134 37 [l0, l1, l2, l3, .int xi] (.int xi :: st) S Q := pv_iload (pm_cdi rfl dX7_upOf_35) rfl
theorem q134_37 : pm_V d 134 37 [l0, l1, l2, l3, l4] (.int xi :: st) S Q = if xi = 0 then pm_V d 134 40 [l0, l1, l2, l3, l4] st S Q else pm_V d 134 54 [l0, l1, l2, l3, l4] st S Q := pv_if_ne (pm_cdi rfl dX7_upOf_37) rfl
theorem q134_40 : pm_V d 134 40 [.ref xn, l1, l2, l3, l4] st S Q = pm_V d 134 41 [.ref xn, l1, l2, l3, l4] (.ref xn :: st) S Q := pv_aload_n (pm_cdi rfl dX7_upOf_40) rfl
theorem q134_41 (hs : pm_sh S an = .inr 7) : pm_V d 134 41 [l0, l1, l2, l3, l4] (.ref an :: st) S Q = pm_V d 134 44 [l0, l1, l2, l3, l4] (va_rf (pm_gr S an 16) :: st) S Q := pv_getA (pm_cdi rfl dX7_upOf_41) (by decide +kernel) (by decide +kernel) (by decide +kernel) hs
theorem q134_44 : pm_V d 134 44 [l0, l1, l2, l3, l4] st S Q = pm_V d 134 46 [l0, l1, l2, l3, l4] (.int 120 :: st) S Q := pv_bipush (pm_cdi rfl dX7_upOf_44) (by decide +kernel)
theorem q134_46 : pm_V d 134 46 [l0, .int xi, l2, l3, l4] st S Q = pm_V d 134 47 [l0, .int xi, l2, l3, l4] (.int xi :: st) S Q := pv_iload_n (pm_cdi rfl dX7_upOf_46) rfl
theorem q134_47 : pm_V d 134 47 [l0, l1, l2, l3, l4] (.int yi :: .int xi :: st) S Q = pm_V d 134 48 [l0, l1, l2, l3, l4] (.int (xi * yi) :: st) S Q := pv_imul (pm_cdi rfl dX7_upOf_47)
theorem q134_48 : pm_V d 134 48 [l0, l1, l2, .int xi, l4] st S Q = pm_V d 134 49 [l0, l1, l2, .int xi, l4] (.int xi :: st) S Q := pv_iload_n (pm_cdi rfl dX7_upOf_48) rfl
theorem q134_49 : pm_V d 134 49 [l0, l1, l2, l3, l4] (.int yi :: .int xi :: st) S Q = pm_V d 134 50 [l0, l1, l2, l3, l4] (.int (xi + yi) :: st) S Q := pv_iadd (pm_cdi rfl dX7_upOf_49)
theorem q134_50 (hs : pm_ar S an 0 xi = true) : pm_V d 134 50 [l0, l1, l2, l3, l4] (.int xi :: .ref an :: st) S Q = pm_V d 134 51 [l0, l1, l2, l3, l4] (.int (pm_zi S an xi.toNatClampNeg) :: st) S Q := pv_iald (pm_cdi rfl dX7_upOf_50) hs
theorem q134_51 : pm_V d 134 51 [l0, l1, l2, l3, l4] st S Q = pm_V d 134 65 [l0, l1, l2, l3, l4] st S Q := pv_goto (pm_cdi rfl dX7_upOf_51) rfl
theorem q134_54 : pm_V d 134 54 [.ref xn, l1, l2, l3, l4] st S Q = pm_V d 134 55 [.ref xn, l1, l2, l3, l4] (.ref xn :: st) S Q := pv_aload_n (pm_cdi rfl dX7_upOf_54) rfl
theorem q134_55 (hs : pm_sh S an = .inr 7) : pm_V d 134 55 [l0, l1, l2, l3, l4] (.ref an :: st) S Q = pm_V d 134 58 [l0, l1, l2, l3, l4] (va_rf (pm_gr S an 17) :: st) S Q := pv_getA (pm_cdi rfl dX7_upOf_55) (by decide +kernel) (by decide +kernel) (by decide +kernel) hs
theorem q134_58 : pm_V d 134 58 [l0, l1, l2, l3, l4] st S Q = pm_V d 134 60 [l0, l1, l2, l3, l4] (.int 120 :: st) S Q := pv_bipush (pm_cdi rfl dX7_upOf_58) (by decide +kernel)
theorem q134_60 : pm_V d 134 60 [l0, .int xi, l2, l3, l4] st S Q = pm_V d 134 61 [l0, .int xi, l2, l3, l4] (.int xi :: st) S Q := pv_iload_n (pm_cdi rfl dX7_upOf_60) rfl
theorem q134_61 : pm_V d 134 61 [l0, l1, l2, l3, l4] (.int yi :: .int xi :: st) S Q = pm_V d 134 62 [l0, l1, l2, l3, l4] (.int (xi * yi) :: st) S Q := pv_imul (pm_cdi rfl dX7_upOf_61)
theorem q134_62 : pm_V d 134 62 [l0, l1, l2, .int xi, l4] st S Q = pm_V d 134 63 [l0, l1, l2, .int xi, l4] (.int xi :: st) S Q := pv_iload_n (pm_cdi rfl dX7_upOf_62) rfl
theorem q134_63 : pm_V d 134 63 [l0, l1, l2, l3, l4] (.int yi :: .int xi :: st) S Q = pm_V d 134 64 [l0, l1, l2, l3, l4] (.int (xi + yi) :: st) S Q := pv_iadd (pm_cdi rfl dX7_upOf_63)
theorem q134_64 (hs : pm_ar S an 0 xi = true) : pm_V d 134 64 [l0, l1, l2, l3, l4] (.int xi :: .ref an :: st) S Q = pm_V d 134 65 [l0, l1, l2, l3, l4] (.int (pm_zi S an xi.toNatClampNeg) :: st) S Q := pv_iald (pm_cdi rfl dX7_upOf_64) hs
theorem q134_65 : pm_V d 134 65 [l0, l1, l2, l3, l4] [.int xi] S Q = Q (some (.int xi)) S := pv_rI (pm_cdi rfl dX7_upOf_65) (by decide +kernel)
theorem q134_e : pm_N d 134 [.ref an, .int v0i, .int v1i, .int v2i, .int v3i] S Q = pm_V d 134 0 [.ref an, .int v0i, .int v1i, .int v2i, .int v3i] [] S Q := pv_ent (Nat.le_of_ble_eq_true rfl) rfl
/-! 135: ViewsJoinsModel.up(IIII)I -/
theorem dX7_up_0 : decode cX7_up 0 = .ok (.aload_n 0, 1) := by decide +kernel
theorem dX7_up_1 : decode cX7_up 1 = .ok (.iload_n 1, 1) := by decide +kernel
theorem dX7_up_2 : decode cX7_up 2 = .ok (.invokevirtual 261, 3) := by decide +kernel
theorem dX7_up_5 : decode cX7_up 5 = .ok (.ifCond .eq 22, 3) := by decide +kernel
theorem dX7_up_8 : decode cX7_up 8 = .ok (.iload_n 2, 1) := by decide +kernel
theorem dX7_up_9 : decode cX7_up 9 = .ok (.iconst 0, 1) := by decide +kernel
theorem dX7_up_10 : decode cX7_up 10 = .ok (.iconst 1, 1) := by decide +kernel
theorem dX7_up_11 : decode cX7_up 11 = .ok (.invokestatic 119, 3) := by decide +kernel
theorem dX7_up_14 : decode cX7_up 14 = .ok (.ifCond .eq 13, 3) := by decide +kernel
theorem dX7_up_17 : decode cX7_up 17 = .ok (.iload 4, 2) := by decide +kernel
theorem dX7_up_19 : decode cX7_up 19 = .ok (.iconst 0, 1) := by decide +kernel
theorem dX7_up_20 : decode cX7_up 20 = .ok (.iconst 1, 1) := by decide +kernel
theorem dX7_up_21 : decode cX7_up 21 = .ok (.invokestatic 119, 3) := by decide +kernel
theorem dX7_up_24 : decode cX7_up 24 = .ok (.ifCond .ne 6, 3) := by decide +kernel
theorem dX7_up_27 : decode cX7_up 27 = .ok (.ldc 130, 2) := by decide +kernel
theorem dX7_up_29 : decode cX7_up 29 = .ok (.ireturn, 1) := by decide +kernel
theorem dX7_up_30 : decode cX7_up 30 = .ok (.aload_n 0, 1) := by decide +kernel
theorem dX7_up_31 : decode cX7_up 31 = .ok (.invokevirtual 264, 3) := by decide +kernel
theorem dX7_up_34 : decode cX7_up 34 = .ok (.aload_n 0, 1) := by decide +kernel
theorem dX7_up_35 : decode cX7_up 35 = .ok (.getfield 29, 3) := by decide +kernel
theorem dX7_up_38 : decode cX7_up 38 = .ok (.iload_n 1, 1) := by decide +kernel
theorem dX7_up_39 : decode cX7_up 39 = .ok (.iaload, 1) := by decide +kernel
theorem dX7_up_40 : decode cX7_up 40 = .ok (.ifCond .eq 7, 3) := by decide +kernel
theorem dX7_up_43 : decode cX7_up 43 = .ok (.ldc_w 267, 3) := by decide +kernel
theorem dX7_up_46 : decode cX7_up 46 = .ok (.ireturn, 1) := by decide +kernel
theorem dX7_up_47 : decode cX7_up 47 = .ok (.iload_n 3, 1) := by decide +kernel
theorem dX7_up_48 : decode cX7_up 48 = .ok (.iconst 0, 1) := by decide +kernel
theorem dX7_up_49 : decode cX7_up 49 = .ok (.aload_n 0, 1) := by decide +kernel
theorem dX7_up_50 : decode cX7_up 50 = .ok (.iload_n 1, 1) := by decide +kernel
theorem dX7_up_51 : decode cX7_up 51 = .ok (.iload_n 2, 1) := by decide +kernel
theorem dX7_up_52 : decode cX7_up 52 = .ok (.invokevirtual 272, 3) := by decide +kernel
theorem dX7_up_55 : decode cX7_up 55 = .ok (.iconst 1, 1) := by decide +kernel
theorem dX7_up_56 : decode cX7_up 56 = .ok (.isub, 1) := by decide +kernel
theorem dX7_up_57 : decode cX7_up 57 = .ok (.invokestatic 119, 3) := by decide +kernel
theorem dX7_up_60 : decode cX7_up 60 = .ok (.ifCond .ne 8, 3) := by decide +kernel
theorem dX7_up_63 : decode cX7_up 63 = .ok (.ldc 130, 2) := by decide +kernel
theorem dX7_up_65 : decode cX7_up 65 = .ok (.goto 12, 3) := by decide +kernel
theorem dX7_up_68 : decode cX7_up 68 = .ok (.aload_n 0, 1) := by decide +kernel
theorem dX7_up_69 : decode cX7_up 69 = .ok (.iload_n 1, 1) := by decide +kernel
theorem dX7_up_70 : decode cX7_up 70 = .ok (.iload_n 2, 1) := by decide +kernel
theorem dX7_up_71 : decode cX7_up 71 = .ok (.iload_n 3, 1) := by decide +kernel
theorem dX7_up_72 : decode cX7_up 72 = .ok (.iload 4, 2) := by decide +kernel
theorem dX7_up_74 : decode cX7_up 74 = .ok (.invokevirtual 275, 3) := by decide +kernel
theorem dX7_up_77 : decode cX7_up 77 = .ok (.ireturn, 1) := by decide +kernel
theorem q135_0 : pm_V d 135 0 [.ref xn, l1, l2, l3, l4] st S Q = pm_V d 135 1 [.ref xn, l1, l2, l3, l4] (.ref xn :: st) S Q := pv_aload_n (pm_cdi rfl dX7_up_0) rfl
theorem q135_1 : pm_V d 135 1 [l0, .int xi, l2, l3, l4] st S Q = pm_V d 135 2 [l0, .int xi, l2, l3, l4] (.int xi :: st) S Q := pv_iload_n (pm_cdi rfl dX7_up_1) rfl
theorem q135_2 (hs : pm_sh S an = .inr 7) : pm_V (d + 1) 135 2 [l0, l1, l2, l3, l4] [.int v0i, .ref an] S Q = pm_N d 91 [.ref an, .int v0i] S (fun r S' => pm_V (d + 1) 135 5 [l0, l1, l2, l3, l4] (r.toList ++ []) S' Q) := pv_callV (as := [.int v0i]) (pm_cdi rfl dX7_up_2) (Or.inl (by decide +kernel)) (by decide +kernel) (show _ = _ from (by decide +kernel : 1 = pm_np 91)) rfl (Nat.le_of_ble_eq_true rfl) (cl := 7) (by decide +kernel) hs
theorem q135_5 : pm_V d 135 5 [l0, l1, l2, l3, l4] (.int xi :: st) S Q = if xi = 0 then pm_V d 135 27 [l0, l1, l2, l3, l4] st S Q else pm_V d 135 8 [l0, l1, l2, l3, l4] st S Q := pv_if_eq (pm_cdi rfl dX7_up_5) rfl
theorem q135_8 : pm_V d 135 8 [l0, l1, .int xi, l3, l4] st S Q = pm_V d 135 9 [l0, l1, .int xi, l3, l4] (.int xi :: st) S Q := pv_iload_n (pm_cdi rfl dX7_up_8) rfl
theorem q135_9 : pm_V d 135 9 [l0, l1, l2, l3, l4] st S Q = pm_V d 135 10 [l0, l1, l2, l3, l4] (.int 0 :: st) S Q := pv_iconst (pm_cdi rfl dX7_up_9) (by decide +kernel)
theorem q135_10 : pm_V d 135 10 [l0, l1, l2, l3, l4] st S Q = pm_V d 135 11 [l0, l1, l2, l3, l4] (.int 1 :: st) S Q := pv_iconst (pm_cdi rfl dX7_up_10) (by decide +kernel)
theorem q135_11 : pm_V (d + 1) 135 11 [l0, l1, l2, l3, l4] [.int v2i, .int v1i, .int v0i] S Q = pm_N d 88 [.int v0i, .int v1i, .int v2i] S (fun r S' => pm_V (d + 1) 135 14 [l0, l1, l2, l3, l4] (r.toList ++ []) S' Q) := pv_callS (as := [.int v0i, .int v1i, .int v2i]) (pm_cdi rfl dX7_up_11) (by decide +kernel) (by decide +kernel) (show _ = _ from (by decide +kernel : 3 = pm_np 88)) rfl (Nat.le_of_ble_eq_true rfl)
theorem q135_14 : pm_V d 135 14 [l0, l1, l2, l3, l4] (.int xi :: st) S Q = if xi = 0 then pm_V d 135 27 [l0, l1, l2, l3, l4] st S Q else pm_V d 135 17 [l0, l1, l2, l3, l4] st S Q := pv_if_eq (pm_cdi rfl dX7_up_14) rfl
theorem q135_17 : pm_V d 135 17 [l0, l1, l2, l3, .int xi] st S Q = pm_V d 135 19 [l0, l1, l2, l3, .int xi] (.int xi :: st) S Q := pv_iload (pm_cdi rfl dX7_up_17) rfl
theorem q135_19 : pm_V d 135 19 [l0, l1, l2, l3, l4] st S Q = pm_V d 135 20 [l0, l1, l2, l3, l4] (.int 0 :: st) S Q := pv_iconst (pm_cdi rfl dX7_up_19) (by decide +kernel)
theorem q135_20 : pm_V d 135 20 [l0, l1, l2, l3, l4] st S Q = pm_V d 135 21 [l0, l1, l2, l3, l4] (.int 1 :: st) S Q := pv_iconst (pm_cdi rfl dX7_up_20) (by decide +kernel)
theorem q135_21 : pm_V (d + 1) 135 21 [l0, l1, l2, l3, l4] [.int v2i, .int v1i, .int v0i] S Q = pm_N d 88 [.int v0i, .int v1i, .int v2i] S (fun r S' => pm_V (d + 1) 135 24 [l0, l1, l2, l3, l4] (r.toList ++ []) S' Q) := pv_callS (as := [.int v0i, .int v1i, .int v2i]) (pm_cdi rfl dX7_up_21) (by decide +kernel) (by decide +kernel) (show _ = _ from (by decide +kernel : 3 = pm_np 88)) rfl (Nat.le_of_ble_eq_true rfl)
theorem q135_24 : pm_V d 135 24 [l0, l1, l2, l3, l4] (.int xi :: st) S Q = if xi = 0 then pm_V d 135 27 [l0, l1, l2, l3, l4] st S Q else pm_V d 135 30 [l0, l1, l2, l3, l4] st S Q := pv_if_ne (pm_cdi rfl dX7_up_24) rfl
theorem q135_27 : pm_V d 135 27 [l0, l1, l2, l3, l4] st S Q = pm_V d 135 29 [l0, l1, l2, l3, l4] (.int (-1000001) :: st) S Q := pv_ldc (pm_cdi rfl dX7_up_27) (by decide +kernel)
theorem q135_29 : pm_V d 135 29 [l0, l1, l2, l3, l4] [.int xi] S Q = Q (some (.int xi)) S := pv_rI (pm_cdi rfl dX7_up_29) (by decide +kernel)
theorem q135_30 : pm_V d 135 30 [.ref xn, l1, l2, l3, l4] st S Q = pm_V d 135 31 [.ref xn, l1, l2, l3, l4] (.ref xn :: st) S Q := pv_aload_n (pm_cdi rfl dX7_up_30) rfl
theorem q135_31 (hs : pm_sh S an = .inr 7) : pm_V (d + 1) 135 31 [l0, l1, l2, l3, l4] [.ref an] S Q = pm_N d 100 [.ref an] S (fun r S' => pm_V (d + 1) 135 34 [l0, l1, l2, l3, l4] (r.toList ++ []) S' Q) := pv_callV (as := []) (pm_cdi rfl dX7_up_31) (Or.inl (by decide +kernel)) (by decide +kernel) (show _ = _ from (by decide +kernel : 0 = pm_np 100)) rfl (Nat.le_of_ble_eq_true rfl) (cl := 7) (by decide +kernel) hs
theorem q135_34 : pm_V d 135 34 [.ref xn, l1, l2, l3, l4] st S Q = pm_V d 135 35 [.ref xn, l1, l2, l3, l4] (.ref xn :: st) S Q := pv_aload_n (pm_cdi rfl dX7_up_34) rfl
theorem q135_35 (hs : pm_sh S an = .inr 7) : pm_V d 135 35 [l0, l1, l2, l3, l4] (.ref an :: st) S Q = pm_V d 135 38 [l0, l1, l2, l3, l4] (va_rf (pm_gr S an 7) :: st) S Q := pv_getA (pm_cdi rfl dX7_up_35) (by decide +kernel) (by decide +kernel) (by decide +kernel) hs
theorem q135_38 : pm_V d 135 38 [l0, .int xi, l2, l3, l4] st S Q = pm_V d 135 39 [l0, .int xi, l2, l3, l4] (.int xi :: st) S Q := pv_iload_n (pm_cdi rfl dX7_up_38) rfl
theorem q135_39 (hs : pm_ar S an 0 xi = true) : pm_V d 135 39 [l0, l1, l2, l3, l4] (.int xi :: .ref an :: st) S Q = pm_V d 135 40 [l0, l1, l2, l3, l4] (.int (pm_zi S an xi.toNatClampNeg) :: st) S Q := pv_iald (pm_cdi rfl dX7_up_39) hs
theorem q135_40 : pm_V d 135 40 [l0, l1, l2, l3, l4] (.int xi :: st) S Q = if xi = 0 then pm_V d 135 47 [l0, l1, l2, l3, l4] st S Q else pm_V d 135 43 [l0, l1, l2, l3, l4] st S Q := pv_if_eq (pm_cdi rfl dX7_up_40) rfl
theorem q135_43 : pm_V d 135 43 [l0, l1, l2, l3, l4] st S Q = pm_V d 135 46 [l0, l1, l2, l3, l4] (.int (-1000003) :: st) S Q := pv_ldcw (pm_cdi rfl dX7_up_43) (by decide +kernel)
theorem q135_46 : pm_V d 135 46 [l0, l1, l2, l3, l4] [.int xi] S Q = Q (some (.int xi)) S := pv_rI (pm_cdi rfl dX7_up_46) (by decide +kernel)
theorem q135_47 : pm_V d 135 47 [l0, l1, l2, .int xi, l4] st S Q = pm_V d 135 48 [l0, l1, l2, .int xi, l4] (.int xi :: st) S Q := pv_iload_n (pm_cdi rfl dX7_up_47) rfl
theorem q135_48 : pm_V d 135 48 [l0, l1, l2, l3, l4] st S Q = pm_V d 135 49 [l0, l1, l2, l3, l4] (.int 0 :: st) S Q := pv_iconst (pm_cdi rfl dX7_up_48) (by decide +kernel)
theorem q135_49 : pm_V d 135 49 [.ref xn, l1, l2, l3, l4] st S Q = pm_V d 135 50 [.ref xn, l1, l2, l3, l4] (.ref xn :: st) S Q := pv_aload_n (pm_cdi rfl dX7_up_49) rfl
theorem q135_50 : pm_V d 135 50 [l0, .int xi, l2, l3, l4] st S Q = pm_V d 135 51 [l0, .int xi, l2, l3, l4] (.int xi :: st) S Q := pv_iload_n (pm_cdi rfl dX7_up_50) rfl
theorem q135_51 : pm_V d 135 51 [l0, l1, .int xi, l3, l4] st S Q = pm_V d 135 52 [l0, l1, .int xi, l3, l4] (.int xi :: st) S Q := pv_iload_n (pm_cdi rfl dX7_up_51) rfl
theorem q135_52 (hs : pm_sh S an = .inr 7) : pm_V (d + 1) 135 52 [l0, l1, l2, l3, l4] [.int v1i, .int v0i, .ref an, .int r0i, .int r1i] S Q = pm_N d 132 [.ref an, .int v0i, .int v1i] S (fun r S' => pm_V (d + 1) 135 55 [l0, l1, l2, l3, l4] (r.toList ++ [.int r0i, .int r1i]) S' Q) := pv_callV (as := [.int v0i, .int v1i]) (pm_cdi rfl dX7_up_52) (Or.inl (by decide +kernel)) (by decide +kernel) (show _ = _ from (by decide +kernel : 2 = pm_np 132)) rfl (Nat.le_of_ble_eq_true rfl) (cl := 7) (by decide +kernel) hs
theorem q135_55 : pm_V d 135 55 [l0, l1, l2, l3, l4] st S Q = pm_V d 135 56 [l0, l1, l2, l3, l4] (.int 1 :: st) S Q := pv_iconst (pm_cdi rfl dX7_up_55) (by decide +kernel)
theorem q135_56 : pm_V d 135 56 [l0, l1, l2, l3, l4] (.int yi :: .int xi :: st) S Q = pm_V d 135 57 [l0, l1, l2, l3, l4] (.int (xi - yi) :: st) S Q := pv_isub (pm_cdi rfl dX7_up_56)
theorem q135_57 : pm_V (d + 1) 135 57 [l0, l1, l2, l3, l4] [.int v2i, .int v1i, .int v0i] S Q = pm_N d 88 [.int v0i, .int v1i, .int v2i] S (fun r S' => pm_V (d + 1) 135 60 [l0, l1, l2, l3, l4] (r.toList ++ []) S' Q) := pv_callS (as := [.int v0i, .int v1i, .int v2i]) (pm_cdi rfl dX7_up_57) (by decide +kernel) (by decide +kernel) (show _ = _ from (by decide +kernel : 3 = pm_np 88)) rfl (Nat.le_of_ble_eq_true rfl)
theorem q135_60 : pm_V d 135 60 [l0, l1, l2, l3, l4] (.int xi :: st) S Q = if xi = 0 then pm_V d 135 63 [l0, l1, l2, l3, l4] st S Q else pm_V d 135 68 [l0, l1, l2, l3, l4] st S Q := pv_if_ne (pm_cdi rfl dX7_up_60) rfl
theorem q135_63 : pm_V d 135 63 [l0, l1, l2, l3, l4] st S Q = pm_V d 135 65 [l0, l1, l2, l3, l4] (.int (-1000001) :: st) S Q := pv_ldc (pm_cdi rfl dX7_up_63) (by decide +kernel)
theorem q135_65 : pm_V d 135 65 [l0, l1, l2, l3, l4] st S Q = pm_V d 135 77 [l0, l1, l2, l3, l4] st S Q := pv_goto (pm_cdi rfl dX7_up_65) rfl
theorem q135_68 : pm_V d 135 68 [.ref xn, l1, l2, l3, l4] st S Q = pm_V d 135 69 [.ref xn, l1, l2, l3, l4] (.ref xn :: st) S Q := pv_aload_n (pm_cdi rfl dX7_up_68) rfl
theorem q135_69 : pm_V d 135 69 [l0, .int xi, l2, l3, l4] st S Q = pm_V d 135 70 [l0, .int xi, l2, l3, l4] (.int xi :: st) S Q := pv_iload_n (pm_cdi rfl dX7_up_69) rfl
theorem q135_70 : pm_V d 135 70 [l0, l1, .int xi, l3, l4] st S Q = pm_V d 135 71 [l0, l1, .int xi, l3, l4] (.int xi :: st) S Q := pv_iload_n (pm_cdi rfl dX7_up_70) rfl
theorem q135_71 : pm_V d 135 71 [l0, l1, l2, .int xi, l4] st S Q = pm_V d 135 72 [l0, l1, l2, .int xi, l4] (.int xi :: st) S Q := pv_iload_n (pm_cdi rfl dX7_up_71) rfl
theorem q135_72 : pm_V d 135 72 [l0, l1, l2, l3, .int xi] st S Q = pm_V d 135 74 [l0, l1, l2, l3, .int xi] (.int xi :: st) S Q := pv_iload (pm_cdi rfl dX7_up_72) rfl
theorem q135_74 (hs : pm_sh S an = .inr 7) : pm_V (d + 1) 135 74 [l0, l1, l2, l3, l4] [.int v3i, .int v2i, .int v1i, .int v0i, .ref an] S Q = pm_N d 134 [.ref an, .int v0i, .int v1i, .int v2i, .int v3i] S (fun r S' => pm_V (d + 1) 135 77 [l0, l1, l2, l3, l4] (r.toList ++ []) S' Q) := pv_callV (as := [.int v0i, .int v1i, .int v2i, .int v3i]) (pm_cdi rfl dX7_up_74) (Or.inl (by decide +kernel)) (by decide +kernel) (show _ = _ from (by decide +kernel : 4 = pm_np 134)) rfl (Nat.le_of_ble_eq_true rfl) (cl := 7) (by decide +kernel) hs
theorem q135_77 : pm_V d 135 77 [l0, l1, l2, l3, l4] [.int xi] S Q = Q (some (.int xi)) S := pv_rI (pm_cdi rfl dX7_up_77) (by decide +kernel)
theorem q135_e : pm_N d 135 [.ref an, .int v0i, .int v1i, .int v2i, .int v3i] S Q = pm_V d 135 0 [.ref an, .int v0i, .int v1i, .int v2i, .int v3i] [] S Q := pv_ent (Nat.le_of_ble_eq_true rfl) rfl
/-! 136: ViewsJoinsModel.down(IIII)I -/
theorem dX7_down_0 : decode cX7_down 0 = .ok (.aload_n 0, 1) := by decide +kernel
theorem dX7_down_1 : decode cX7_down 1 = .ok (.iload_n 1, 1) := by decide +kernel
theorem dX7_down_2 : decode cX7_down 2 = .ok (.invokevirtual 261, 3) := by decide +kernel
theorem dX7_down_5 : decode cX7_down 5 = .ok (.ifCond .eq 22, 3) := by decide +kernel
theorem dX7_down_8 : decode cX7_down 8 = .ok (.iload_n 2, 1) := by decide +kernel
theorem dX7_down_9 : decode cX7_down 9 = .ok (.iconst 0, 1) := by decide +kernel
theorem dX7_down_10 : decode cX7_down 10 = .ok (.iconst 1, 1) := by decide +kernel
theorem dX7_down_11 : decode cX7_down 11 = .ok (.invokestatic 119, 3) := by decide +kernel
theorem dX7_down_14 : decode cX7_down 14 = .ok (.ifCond .eq 13, 3) := by decide +kernel
theorem dX7_down_17 : decode cX7_down 17 = .ok (.iload 4, 2) := by decide +kernel
theorem dX7_down_19 : decode cX7_down 19 = .ok (.iconst 0, 1) := by decide +kernel
theorem dX7_down_20 : decode cX7_down 20 = .ok (.iconst 1, 1) := by decide +kernel
theorem dX7_down_21 : decode cX7_down 21 = .ok (.invokestatic 119, 3) := by decide +kernel
theorem dX7_down_24 : decode cX7_down 24 = .ok (.ifCond .ne 6, 3) := by decide +kernel
theorem dX7_down_27 : decode cX7_down 27 = .ok (.ldc 130, 2) := by decide +kernel
theorem dX7_down_29 : decode cX7_down 29 = .ok (.ireturn, 1) := by decide +kernel
theorem dX7_down_30 : decode cX7_down 30 = .ok (.aload_n 0, 1) := by decide +kernel
theorem dX7_down_31 : decode cX7_down 31 = .ok (.invokevirtual 264, 3) := by decide +kernel
theorem dX7_down_34 : decode cX7_down 34 = .ok (.aload_n 0, 1) := by decide +kernel
theorem dX7_down_35 : decode cX7_down 35 = .ok (.getfield 29, 3) := by decide +kernel
theorem dX7_down_38 : decode cX7_down 38 = .ok (.iload_n 1, 1) := by decide +kernel
theorem dX7_down_39 : decode cX7_down 39 = .ok (.iaload, 1) := by decide +kernel
theorem dX7_down_40 : decode cX7_down 40 = .ok (.ifCond .eq 7, 3) := by decide +kernel
theorem dX7_down_43 : decode cX7_down 43 = .ok (.ldc_w 267, 3) := by decide +kernel
theorem dX7_down_46 : decode cX7_down 46 = .ok (.ireturn, 1) := by decide +kernel
theorem dX7_down_47 : decode cX7_down 47 = .ok (.iconst 0, 1) := by decide +kernel
theorem dX7_down_48 : decode cX7_down 48 = .ok (.istore 5, 2) := by decide +kernel
theorem dX7_down_50 : decode cX7_down 50 = .ok (.iload 5, 2) := by decide +kernel
theorem dX7_down_52 : decode cX7_down 52 = .ok (.aload_n 0, 1) := by decide +kernel
theorem dX7_down_53 : decode cX7_down 53 = .ok (.iload_n 1, 1) := by decide +kernel
theorem dX7_down_54 : decode cX7_down 54 = .ok (.iload_n 2, 1) := by decide +kernel
theorem dX7_down_55 : decode cX7_down 55 = .ok (.invokevirtual 272, 3) := by decide +kernel
theorem dX7_down_58 : decode cX7_down 58 = .ok (.if_icmp .ge 30, 3) := by decide +kernel
theorem dX7_down_61 : decode cX7_down 61 = .ok (.iload_n 3, 1) := by decide +kernel
theorem dX7_down_62 : decode cX7_down 62 = .ok (.ifCond .lt 26, 3) := by decide +kernel
theorem dX7_down_65 : decode cX7_down 65 = .ok (.aload_n 0, 1) := by decide +kernel
theorem dX7_down_66 : decode cX7_down 66 = .ok (.iload_n 1, 1) := by decide +kernel
theorem dX7_down_67 : decode cX7_down 67 = .ok (.iload_n 2, 1) := by decide +kernel
theorem dX7_down_68 : decode cX7_down 68 = .ok (.iload 5, 2) := by decide +kernel
theorem dX7_down_70 : decode cX7_down 70 = .ok (.iload 4, 2) := by decide +kernel
theorem dX7_down_72 : decode cX7_down 72 = .ok (.invokevirtual 275, 3) := by decide +kernel
theorem dX7_down_75 : decode cX7_down 75 = .ok (.iload_n 3, 1) := by decide +kernel
theorem dX7_down_76 : decode cX7_down 76 = .ok (.if_icmp .ne 6, 3) := by decide +kernel
theorem dX7_down_79 : decode cX7_down 79 = .ok (.iload 5, 2) := by decide +kernel
theorem dX7_down_81 : decode cX7_down 81 = .ok (.ireturn, 1) := by decide +kernel
theorem dX7_down_82 : decode cX7_down 82 = .ok (.iinc 5 1, 3) := by decide +kernel
theorem dX7_down_85 : decode cX7_down 85 = .ok (.goto (-35), 3) := by decide +kernel
theorem dX7_down_88 : decode cX7_down 88 = .ok (.ldc 139, 2) := by decide +kernel
theorem dX7_down_90 : decode cX7_down 90 = .ok (.ireturn, 1) := by decide +kernel
theorem q136_0 : pm_V d 136 0 [.ref xn, l1, l2, l3, l4, l5] st S Q = pm_V d 136 1 [.ref xn, l1, l2, l3, l4, l5] (.ref xn :: st) S Q := pv_aload_n (pm_cdi rfl dX7_down_0) rfl
theorem q136_1 : pm_V d 136 1 [l0, .int xi, l2, l3, l4, l5] st S Q = pm_V d 136 2 [l0, .int xi, l2, l3, l4, l5] (.int xi :: st) S Q := pv_iload_n (pm_cdi rfl dX7_down_1) rfl
theorem q136_2 (hs : pm_sh S an = .inr 7) : pm_V (d + 1) 136 2 [l0, l1, l2, l3, l4, l5] [.int v0i, .ref an] S Q = pm_N d 91 [.ref an, .int v0i] S (fun r S' => pm_V (d + 1) 136 5 [l0, l1, l2, l3, l4, l5] (r.toList ++ []) S' Q) := pv_callV (as := [.int v0i]) (pm_cdi rfl dX7_down_2) (Or.inl (by decide +kernel)) (by decide +kernel) (show _ = _ from (by decide +kernel : 1 = pm_np 91)) rfl (Nat.le_of_ble_eq_true rfl) (cl := 7) (by decide +kernel) hs
theorem q136_5 : pm_V d 136 5 [l0, l1, l2, l3, l4, l5] (.int xi :: st) S Q = if xi = 0 then pm_V d 136 27 [l0, l1, l2, l3, l4, l5] st S Q else pm_V d 136 8 [l0, l1, l2, l3, l4, l5] st S Q := pv_if_eq (pm_cdi rfl dX7_down_5) rfl
theorem q136_8 : pm_V d 136 8 [l0, l1, .int xi, l3, l4, l5] st S Q = pm_V d 136 9 [l0, l1, .int xi, l3, l4, l5] (.int xi :: st) S Q := pv_iload_n (pm_cdi rfl dX7_down_8) rfl
theorem q136_9 : pm_V d 136 9 [l0, l1, l2, l3, l4, l5] st S Q = pm_V d 136 10 [l0, l1, l2, l3, l4, l5] (.int 0 :: st) S Q := pv_iconst (pm_cdi rfl dX7_down_9) (by decide +kernel)
theorem q136_10 : pm_V d 136 10 [l0, l1, l2, l3, l4, l5] st S Q = pm_V d 136 11 [l0, l1, l2, l3, l4, l5] (.int 1 :: st) S Q := pv_iconst (pm_cdi rfl dX7_down_10) (by decide +kernel)
theorem q136_11 : pm_V (d + 1) 136 11 [l0, l1, l2, l3, l4, l5] [.int v2i, .int v1i, .int v0i] S Q = pm_N d 88 [.int v0i, .int v1i, .int v2i] S (fun r S' => pm_V (d + 1) 136 14 [l0, l1, l2, l3, l4, l5] (r.toList ++ []) S' Q) := pv_callS (as := [.int v0i, .int v1i, .int v2i]) (pm_cdi rfl dX7_down_11) (by decide +kernel) (by decide +kernel) (show _ = _ from (by decide +kernel : 3 = pm_np 88)) rfl (Nat.le_of_ble_eq_true rfl)
theorem q136_14 : pm_V d 136 14 [l0, l1, l2, l3, l4, l5] (.int xi :: st) S Q = if xi = 0 then pm_V d 136 27 [l0, l1, l2, l3, l4, l5] st S Q else pm_V d 136 17 [l0, l1, l2, l3, l4, l5] st S Q := pv_if_eq (pm_cdi rfl dX7_down_14) rfl
theorem q136_17 : pm_V d 136 17 [l0, l1, l2, l3, .int xi, l5] st S Q = pm_V d 136 19 [l0, l1, l2, l3, .int xi, l5] (.int xi :: st) S Q := pv_iload (pm_cdi rfl dX7_down_17) rfl
theorem q136_19 : pm_V d 136 19 [l0, l1, l2, l3, l4, l5] st S Q = pm_V d 136 20 [l0, l1, l2, l3, l4, l5] (.int 0 :: st) S Q := pv_iconst (pm_cdi rfl dX7_down_19) (by decide +kernel)
theorem q136_20 : pm_V d 136 20 [l0, l1, l2, l3, l4, l5] st S Q = pm_V d 136 21 [l0, l1, l2, l3, l4, l5] (.int 1 :: st) S Q := pv_iconst (pm_cdi rfl dX7_down_20) (by decide +kernel)
theorem q136_21 : pm_V (d + 1) 136 21 [l0, l1, l2, l3, l4, l5] [.int v2i, .int v1i, .int v0i] S Q = pm_N d 88 [.int v0i, .int v1i, .int v2i] S (fun r S' => pm_V (d + 1) 136 24 [l0, l1, l2, l3, l4, l5] (r.toList ++ []) S' Q) := pv_callS (as := [.int v0i, .int v1i, .int v2i]) (pm_cdi rfl dX7_down_21) (by decide +kernel) (by decide +kernel) (show _ = _ from (by decide +kernel : 3 = pm_np 88)) rfl (Nat.le_of_ble_eq_true rfl)
theorem q136_24 : pm_V d 136 24 [l0, l1, l2, l3, l4, l5] (.int xi :: st) S Q = if xi = 0 then pm_V d 136 27 [l0, l1, l2, l3, l4, l5] st S Q else pm_V d 136 30 [l0, l1, l2, l3, l4, l5] st S Q := pv_if_ne (pm_cdi rfl dX7_down_24) rfl
theorem q136_27 : pm_V d 136 27 [l0, l1, l2, l3, l4, l5] st S Q = pm_V d 136 29 [l0, l1, l2, l3, l4, l5] (.int (-1000001) :: st) S Q := pv_ldc (pm_cdi rfl dX7_down_27) (by decide +kernel)
theorem q136_29 : pm_V d 136 29 [l0, l1, l2, l3, l4, l5] [.int xi] S Q = Q (some (.int xi)) S := pv_rI (pm_cdi rfl dX7_down_29) (by decide +kernel)
theorem q136_30 : pm_V d 136 30 [.ref xn, l1, l2, l3, l4, l5] st S Q = pm_V d 136 31 [.ref xn, l1, l2, l3, l4, l5] (.ref xn :: st) S Q := pv_aload_n (pm_cdi rfl dX7_down_30) rfl
theorem q136_31 (hs : pm_sh S an = .inr 7) : pm_V (d + 1) 136 31 [l0, l1, l2, l3, l4, l5] [.ref an] S Q = pm_N d 100 [.ref an] S (fun r S' => pm_V (d + 1) 136 34 [l0, l1, l2, l3, l4, l5] (r.toList ++ []) S' Q) := pv_callV (as := []) (pm_cdi rfl dX7_down_31) (Or.inl (by decide +kernel)) (by decide +kernel) (show _ = _ from (by decide +kernel : 0 = pm_np 100)) rfl (Nat.le_of_ble_eq_true rfl) (cl := 7) (by decide +kernel) hs
theorem q136_34 : pm_V d 136 34 [.ref xn, l1, l2, l3, l4, l5] st S Q = pm_V d 136 35 [.ref xn, l1, l2, l3, l4, l5] (.ref xn :: st) S Q := pv_aload_n (pm_cdi rfl dX7_down_34) rfl
theorem q136_35 (hs : pm_sh S an = .inr 7) : pm_V d 136 35 [l0, l1, l2, l3, l4, l5] (.ref an :: st) S Q = pm_V d 136 38 [l0, l1, l2, l3, l4, l5] (va_rf (pm_gr S an 7) :: st) S Q := pv_getA (pm_cdi rfl dX7_down_35) (by decide +kernel) (by decide +kernel) (by decide +kernel) hs
theorem q136_38 : pm_V d 136 38 [l0, .int xi, l2, l3, l4, l5] st S Q = pm_V d 136 39 [l0, .int xi, l2, l3, l4, l5] (.int xi :: st) S Q := pv_iload_n (pm_cdi rfl dX7_down_38) rfl
theorem q136_39 (hs : pm_ar S an 0 xi = true) : pm_V d 136 39 [l0, l1, l2, l3, l4, l5] (.int xi :: .ref an :: st) S Q = pm_V d 136 40 [l0, l1, l2, l3, l4, l5] (.int (pm_zi S an xi.toNatClampNeg) :: st) S Q := pv_iald (pm_cdi rfl dX7_down_39) hs
theorem q136_40 : pm_V d 136 40 [l0, l1, l2, l3, l4, l5] (.int xi :: st) S Q = if xi = 0 then pm_V d 136 47 [l0, l1, l2, l3, l4, l5] st S Q else pm_V d 136 43 [l0, l1, l2, l3, l4, l5] st S Q := pv_if_eq (pm_cdi rfl dX7_down_40) rfl
theorem q136_43 : pm_V d 136 43 [l0, l1, l2, l3, l4, l5] st S Q = pm_V d 136 46 [l0, l1, l2, l3, l4, l5] (.int (-1000003) :: st) S Q := pv_ldcw (pm_cdi rfl dX7_down_43) (by decide +kernel)
theorem q136_46 : pm_V d 136 46 [l0, l1, l2, l3, l4, l5] [.int xi] S Q = Q (some (.int xi)) S := pv_rI (pm_cdi rfl dX7_down_46) (by decide +kernel)
theorem q136_47 : pm_V d 136 47 [l0, l1, l2, l3, l4, l5] st S Q = pm_V d 136 48 [l0, l1, l2, l3, l4, l5] (.int 0 :: st) S Q := pv_iconst (pm_cdi rfl dX7_down_47) (by decide +kernel)
theorem q136_48 : pm_V d 136 48 [l0, l1, l2, l3, .int yi, l5] (.int xi :: st) S Q = pm_V d 136 50 [l0, l1, l2, l3, .int yi, .int xi] st S Q := pv_istore (pm_cdi rfl dX7_down_48) rfl
theorem q136_50 : pm_V d 136 50 [l0, l1, l2, l3, l4, .int xi] st S Q = pm_V d 136 52 [l0, l1, l2, l3, l4, .int xi] (.int xi :: st) S Q := pv_iload (pm_cdi rfl dX7_down_50) rfl
theorem q136_52 : pm_V d 136 52 [.ref xn, l1, l2, l3, l4, l5] st S Q = pm_V d 136 53 [.ref xn, l1, l2, l3, l4, l5] (.ref xn :: st) S Q := pv_aload_n (pm_cdi rfl dX7_down_52) rfl
theorem q136_53 : pm_V d 136 53 [l0, .int xi, l2, l3, l4, l5] st S Q = pm_V d 136 54 [l0, .int xi, l2, l3, l4, l5] (.int xi :: st) S Q := pv_iload_n (pm_cdi rfl dX7_down_53) rfl
theorem q136_54 : pm_V d 136 54 [l0, l1, .int xi, l3, l4, l5] st S Q = pm_V d 136 55 [l0, l1, .int xi, l3, l4, l5] (.int xi :: st) S Q := pv_iload_n (pm_cdi rfl dX7_down_54) rfl
theorem q136_55 (hs : pm_sh S an = .inr 7) : pm_V (d + 1) 136 55 [l0, l1, l2, l3, l4, l5] [.int v1i, .int v0i, .ref an, .int r0i] S Q = pm_N d 132 [.ref an, .int v0i, .int v1i] S (fun r S' => pm_V (d + 1) 136 58 [l0, l1, l2, l3, l4, l5] (r.toList ++ [.int r0i]) S' Q) := pv_callV (as := [.int v0i, .int v1i]) (pm_cdi rfl dX7_down_55) (Or.inl (by decide +kernel)) (by decide +kernel) (show _ = _ from (by decide +kernel : 2 = pm_np 132)) rfl (Nat.le_of_ble_eq_true rfl) (cl := 7) (by decide +kernel) hs
theorem q136_58 : pm_V d 136 58 [l0, l1, l2, l3, l4, l5] (.int yi :: .int xi :: st) S Q = if xi < yi then pm_V d 136 61 [l0, l1, l2, l3, l4, l5] st S Q else pm_V d 136 88 [l0, l1, l2, l3, l4, l5] st S Q := pv_icmp_ge (pm_cdi rfl dX7_down_58) rfl
theorem q136_61 : pm_V d 136 61 [l0, l1, l2, .int xi, l4, l5] st S Q = pm_V d 136 62 [l0, l1, l2, .int xi, l4, l5] (.int xi :: st) S Q := pv_iload_n (pm_cdi rfl dX7_down_61) rfl
theorem q136_62 : pm_V d 136 62 [l0, l1, l2, l3, l4, l5] (.int xi :: st) S Q = if xi < 0 then pm_V d 136 88 [l0, l1, l2, l3, l4, l5] st S Q else pm_V d 136 65 [l0, l1, l2, l3, l4, l5] st S Q := pv_if_lt (pm_cdi rfl dX7_down_62) rfl
theorem q136_65 : pm_V d 136 65 [.ref xn, l1, l2, l3, l4, l5] st S Q = pm_V d 136 66 [.ref xn, l1, l2, l3, l4, l5] (.ref xn :: st) S Q := pv_aload_n (pm_cdi rfl dX7_down_65) rfl
theorem q136_66 : pm_V d 136 66 [l0, .int xi, l2, l3, l4, l5] st S Q = pm_V d 136 67 [l0, .int xi, l2, l3, l4, l5] (.int xi :: st) S Q := pv_iload_n (pm_cdi rfl dX7_down_66) rfl
theorem q136_67 : pm_V d 136 67 [l0, l1, .int xi, l3, l4, l5] st S Q = pm_V d 136 68 [l0, l1, .int xi, l3, l4, l5] (.int xi :: st) S Q := pv_iload_n (pm_cdi rfl dX7_down_67) rfl
theorem q136_68 : pm_V d 136 68 [l0, l1, l2, l3, l4, .int xi] st S Q = pm_V d 136 70 [l0, l1, l2, l3, l4, .int xi] (.int xi :: st) S Q := pv_iload (pm_cdi rfl dX7_down_68) rfl
theorem q136_70 : pm_V d 136 70 [l0, l1, l2, l3, .int xi, l5] st S Q = pm_V d 136 72 [l0, l1, l2, l3, .int xi, l5] (.int xi :: st) S Q := pv_iload (pm_cdi rfl dX7_down_70) rfl
theorem q136_72 (hs : pm_sh S an = .inr 7) : pm_V (d + 1) 136 72 [l0, l1, l2, l3, l4, l5] [.int v3i, .int v2i, .int v1i, .int v0i, .ref an] S Q = pm_N d 134 [.ref an, .int v0i, .int v1i, .int v2i, .int v3i] S (fun r S' => pm_V (d + 1) 136 75 [l0, l1, l2, l3, l4, l5] (r.toList ++ []) S' Q) := pv_callV (as := [.int v0i, .int v1i, .int v2i, .int v3i]) (pm_cdi rfl dX7_down_72) (Or.inl (by decide +kernel)) (by decide +kernel) (show _ = _ from (by decide +kernel : 4 = pm_np 134)) rfl (Nat.le_of_ble_eq_true rfl) (cl := 7) (by decide +kernel) hs
theorem q136_75 : pm_V d 136 75 [l0, l1, l2, .int xi, l4, l5] st S Q = pm_V d 136 76 [l0, l1, l2, .int xi, l4, l5] (.int xi :: st) S Q := pv_iload_n (pm_cdi rfl dX7_down_75) rfl
theorem q136_76 : pm_V d 136 76 [l0, l1, l2, l3, l4, l5] (.int yi :: .int xi :: st) S Q = if xi = yi then pm_V d 136 79 [l0, l1, l2, l3, l4, l5] st S Q else pm_V d 136 82 [l0, l1, l2, l3, l4, l5] st S Q := pv_icmp_ne (pm_cdi rfl dX7_down_76) rfl
theorem q136_79 : pm_V d 136 79 [l0, l1, l2, l3, l4, .int xi] st S Q = pm_V d 136 81 [l0, l1, l2, l3, l4, .int xi] (.int xi :: st) S Q := pv_iload (pm_cdi rfl dX7_down_79) rfl
theorem q136_81 : pm_V d 136 81 [l0, l1, l2, l3, l4, l5] [.int xi] S Q = Q (some (.int xi)) S := pv_rI (pm_cdi rfl dX7_down_81) (by decide +kernel)
theorem q136_82 : pm_V d 136 82 [l0, l1, l2, l3, .int yi, .int xi] st S Q = pm_V d 136 85 [l0, l1, l2, l3, .int yi, .int (xi + 1)] st S Q := pv_iinc (pm_cdi rfl dX7_down_82) rfl (by decide +kernel) rfl
theorem q136_85 : pm_V d 136 85 [l0, l1, l2, l3, l4, l5] st S Q = pm_V d 136 50 [l0, l1, l2, l3, l4, l5] st S Q := pv_goto (pm_cdi rfl dX7_down_85) rfl
theorem q136_88 : pm_V d 136 88 [l0, l1, l2, l3, l4, l5] st S Q = pm_V d 136 90 [l0, l1, l2, l3, l4, l5] (.int (-1000004) :: st) S Q := pv_ldc (pm_cdi rfl dX7_down_88) (by decide +kernel)
theorem q136_90 : pm_V d 136 90 [l0, l1, l2, l3, l4, l5] [.int xi] S Q = Q (some (.int xi)) S := pv_rI (pm_cdi rfl dX7_down_90) (by decide +kernel)
theorem q136_e : pm_N d 136 [.ref an, .int v0i, .int v1i, .int v2i, .int v3i] S Q = pm_V d 136 0 [.ref an, .int v0i, .int v1i, .int v2i, .int v3i, pm_j] [] S Q := pv_ent (Nat.le_of_ble_eq_true rfl) rfl
/-! 137: ViewsJoinsModel.hidden(III)I -/
theorem dX7_hidden_0 : decode cX7_hidden 0 = .ok (.aload_n 0, 1) := by decide +kernel
theorem dX7_hidden_1 : decode cX7_hidden 1 = .ok (.iload_n 1, 1) := by decide +kernel
theorem dX7_hidden_2 : decode cX7_hidden 2 = .ok (.invokevirtual 123, 3) := by decide +kernel
theorem dX7_hidden_5 : decode cX7_hidden 5 = .ok (.ifCond .eq 22, 3) := by decide +kernel
theorem dX7_hidden_8 : decode cX7_hidden 8 = .ok (.aload_n 0, 1) := by decide +kernel
theorem dX7_hidden_9 : decode cX7_hidden 9 = .ok (.getfield 7, 3) := by decide +kernel
theorem dX7_hidden_12 : decode cX7_hidden 12 = .ok (.iload_n 1, 1) := by decide +kernel
theorem dX7_hidden_13 : decode cX7_hidden 13 = .ok (.iaload, 1) := by decide +kernel
theorem dX7_hidden_14 : decode cX7_hidden 14 = .ok (.iconst 1, 1) := by decide +kernel
theorem dX7_hidden_15 : decode cX7_hidden 15 = .ok (.if_icmp .ne 12, 3) := by decide +kernel
theorem dX7_hidden_18 : decode cX7_hidden 18 = .ok (.iload_n 3, 1) := by decide +kernel
theorem dX7_hidden_19 : decode cX7_hidden 19 = .ok (.iconst 0, 1) := by decide +kernel
theorem dX7_hidden_20 : decode cX7_hidden 20 = .ok (.iconst 2, 1) := by decide +kernel
theorem dX7_hidden_21 : decode cX7_hidden 21 = .ok (.invokestatic 119, 3) := by decide +kernel
theorem dX7_hidden_24 : decode cX7_hidden 24 = .ok (.ifCond .ne 6, 3) := by decide +kernel
theorem dX7_hidden_27 : decode cX7_hidden 27 = .ok (.ldc 130, 2) := by decide +kernel
theorem dX7_hidden_29 : decode cX7_hidden 29 = .ok (.ireturn, 1) := by decide +kernel
theorem dX7_hidden_30 : decode cX7_hidden 30 = .ok (.aload_n 0, 1) := by decide +kernel
theorem dX7_hidden_31 : decode cX7_hidden 31 = .ok (.invokevirtual 264, 3) := by decide +kernel
theorem dX7_hidden_34 : decode cX7_hidden 34 = .ok (.aload_n 0, 1) := by decide +kernel
theorem dX7_hidden_35 : decode cX7_hidden 35 = .ok (.getfield 29, 3) := by decide +kernel
theorem dX7_hidden_38 : decode cX7_hidden 38 = .ok (.iload_n 1, 1) := by decide +kernel
theorem dX7_hidden_39 : decode cX7_hidden 39 = .ok (.iaload, 1) := by decide +kernel
theorem dX7_hidden_40 : decode cX7_hidden 40 = .ok (.ifCond .eq 7, 3) := by decide +kernel
theorem dX7_hidden_43 : decode cX7_hidden 43 = .ok (.ldc_w 267, 3) := by decide +kernel
theorem dX7_hidden_46 : decode cX7_hidden 46 = .ok (.ireturn, 1) := by decide +kernel
theorem dX7_hidden_47 : decode cX7_hidden 47 = .ok (.iload_n 2, 1) := by decide +kernel
theorem dX7_hidden_48 : decode cX7_hidden 48 = .ok (.iconst 0, 1) := by decide +kernel
theorem dX7_hidden_49 : decode cX7_hidden 49 = .ok (.aload_n 0, 1) := by decide +kernel
theorem dX7_hidden_50 : decode cX7_hidden 50 = .ok (.getfield 63, 3) := by decide +kernel
theorem dX7_hidden_53 : decode cX7_hidden 53 = .ok (.iload_n 1, 1) := by decide +kernel
theorem dX7_hidden_54 : decode cX7_hidden 54 = .ok (.iaload, 1) := by decide +kernel
theorem dX7_hidden_55 : decode cX7_hidden 55 = .ok (.iconst 1, 1) := by decide +kernel
theorem dX7_hidden_56 : decode cX7_hidden 56 = .ok (.isub, 1) := by decide +kernel
theorem dX7_hidden_57 : decode cX7_hidden 57 = .ok (.invokestatic 119, 3) := by decide +kernel
theorem dX7_hidden_60 : decode cX7_hidden 60 = .ok (.ifCond .ne 6, 3) := by decide +kernel
theorem dX7_hidden_63 : decode cX7_hidden 63 = .ok (.ldc 139, 2) := by decide +kernel
theorem dX7_hidden_65 : decode cX7_hidden 65 = .ok (.ireturn, 1) := by decide +kernel
theorem dX7_hidden_66 : decode cX7_hidden 66 = .ok (.aload_n 0, 1) := by decide +kernel
theorem dX7_hidden_67 : decode cX7_hidden 67 = .ok (.getfield 66, 3) := by decide +kernel
theorem dX7_hidden_70 : decode cX7_hidden 70 = .ok (.sipush 160, 3) := by decide +kernel
theorem dX7_hidden_73 : decode cX7_hidden 73 = .ok (.iload_n 1, 1) := by decide +kernel
theorem dX7_hidden_74 : decode cX7_hidden 74 = .ok (.imul, 1) := by decide +kernel
theorem dX7_hidden_75 : decode cX7_hidden 75 = .ok (.iload_n 2, 1) := by decide +kernel
theorem dX7_hidden_76 : decode cX7_hidden 76 = .ok (.iadd, 1) := by decide +kernel
theorem dX7_hidden_77 : decode cX7_hidden 77 = .ok (.iaload, 1) := by decide +kernel
theorem dX7_hidden_78 : decode cX7_hidden 78 = .ok (.istore 4, 2) := by decide +kernel
theorem dX7_hidden_80 : decode cX7_hidden 80 = .ok (.iload_n 3, 1) := by decide +kernel
theorem dX7_hidden_81 : decode cX7_hidden 81 = .ok (.ifCond .ne 12, 3) := by decide +kernel
theorem dX7_hidden_84 : decode cX7_hidden 84 = .ok (.iload 4, 2) := by decide +kernel
theorem dX7_hidden_86 : decode cX7_hidden 86 = .ok (.sipush 1000, 3) := by decide +kernel
theorem dX7_hidden_89 : decode cX7_hidden 89 = .ok (.idiv, 1) := by decide +kernel
theorem dX7_hidden_90 : decode cX7_hidden 90 = .ok (.goto 29, 3) := by decide +kernel
theorem dX7_hidden_93 : decode cX7_hidden 93 = .ok (.iload_n 3, 1) := by decide +kernel
theorem dX7_hidden_94 : decode cX7_hidden 94 = .ok (.iconst 1, 1) := by decide +kernel
theorem dX7_hidden_95 : decode cX7_hidden 95 = .ok (.if_icmp .ne 12, 3) := by decide +kernel
theorem dX7_hidden_98 : decode cX7_hidden 98 = .ok (.iload 4, 2) := by decide +kernel
theorem dX7_hidden_100 : decode cX7_hidden 100 = .ok (.sipush 1000, 3) := by decide +kernel
theorem dX7_hidden_103 : decode cX7_hidden 103 = .ok (.irem, 1) := by decide +kernel
theorem dX7_hidden_104 : decode cX7_hidden 104 = .ok (.goto 15, 3) := by decide +kernel
theorem dX7_hidden_107 : decode cX7_hidden 107 = .ok (.aload_n 0, 1) := by decide +kernel
theorem dX7_hidden_108 : decode cX7_hidden 108 = .ok (.getfield 69, 3) := by decide +kernel
theorem dX7_hidden_111 : decode cX7_hidden 111 = .ok (.sipush 160, 3) := by decide +kernel
theorem dX7_hidden_114 : decode cX7_hidden 114 = .ok (.iload_n 1, 1) := by decide +kernel
theorem dX7_hidden_115 : decode cX7_hidden 115 = .ok (.imul, 1) := by decide +kernel
theorem dX7_hidden_116 : decode cX7_hidden 116 = .ok (.iload_n 2, 1) := by decide +kernel
theorem dX7_hidden_117 : decode cX7_hidden 117 = .ok (.iadd, 1) := by decide +kernel
theorem dX7_hidden_118 : decode cX7_hidden 118 = .ok (.iaload, 1) := by decide +kernel
theorem dX7_hidden_119 : decode cX7_hidden 119 = .ok (.ireturn, 1) := by decide +kernel
theorem q137_0 : pm_V d 137 0 [.ref xn, l1, l2, l3, l4] st S Q = pm_V d 137 1 [.ref xn, l1, l2, l3, l4] (.ref xn :: st) S Q := pv_aload_n (pm_cdi rfl dX7_hidden_0) rfl
theorem q137_1 : pm_V d 137 1 [l0, .int xi, l2, l3, l4] st S Q = pm_V d 137 2 [l0, .int xi, l2, l3, l4] (.int xi :: st) S Q := pv_iload_n (pm_cdi rfl dX7_hidden_1) rfl
theorem q137_2 (hs : pm_sh S an = .inr 7) : pm_V (d + 1) 137 2 [l0, l1, l2, l3, l4] [.int v0i, .ref an] S Q = pm_N d 89 [.ref an, .int v0i] S (fun r S' => pm_V (d + 1) 137 5 [l0, l1, l2, l3, l4] (r.toList ++ []) S' Q) := pv_callV (as := [.int v0i]) (pm_cdi rfl dX7_hidden_2) (Or.inl (by decide +kernel)) (by decide +kernel) (show _ = _ from (by decide +kernel : 1 = pm_np 89)) rfl (Nat.le_of_ble_eq_true rfl) (cl := 7) (by decide +kernel) hs
theorem q137_5 : pm_V d 137 5 [l0, l1, l2, l3, l4] (.int xi :: st) S Q = if xi = 0 then pm_V d 137 27 [l0, l1, l2, l3, l4] st S Q else pm_V d 137 8 [l0, l1, l2, l3, l4] st S Q := pv_if_eq (pm_cdi rfl dX7_hidden_5) rfl
theorem q137_8 : pm_V d 137 8 [.ref xn, l1, l2, l3, l4] st S Q = pm_V d 137 9 [.ref xn, l1, l2, l3, l4] (.ref xn :: st) S Q := pv_aload_n (pm_cdi rfl dX7_hidden_8) rfl
theorem q137_9 (hs : pm_sh S an = .inr 7) : pm_V d 137 9 [l0, l1, l2, l3, l4] (.ref an :: st) S Q = pm_V d 137 12 [l0, l1, l2, l3, l4] (va_rf (pm_gr S an 1) :: st) S Q := pv_getA (pm_cdi rfl dX7_hidden_9) (by decide +kernel) (by decide +kernel) (by decide +kernel) hs
theorem q137_12 : pm_V d 137 12 [l0, .int xi, l2, l3, l4] st S Q = pm_V d 137 13 [l0, .int xi, l2, l3, l4] (.int xi :: st) S Q := pv_iload_n (pm_cdi rfl dX7_hidden_12) rfl
theorem q137_13 (hs : pm_ar S an 0 xi = true) : pm_V d 137 13 [l0, l1, l2, l3, l4] (.int xi :: .ref an :: st) S Q = pm_V d 137 14 [l0, l1, l2, l3, l4] (.int (pm_zi S an xi.toNatClampNeg) :: st) S Q := pv_iald (pm_cdi rfl dX7_hidden_13) hs
theorem q137_14 : pm_V d 137 14 [l0, l1, l2, l3, l4] st S Q = pm_V d 137 15 [l0, l1, l2, l3, l4] (.int 1 :: st) S Q := pv_iconst (pm_cdi rfl dX7_hidden_14) (by decide +kernel)
theorem q137_15 : pm_V d 137 15 [l0, l1, l2, l3, l4] (.int yi :: .int xi :: st) S Q = if xi = yi then pm_V d 137 18 [l0, l1, l2, l3, l4] st S Q else pm_V d 137 27 [l0, l1, l2, l3, l4] st S Q := pv_icmp_ne (pm_cdi rfl dX7_hidden_15) rfl
theorem q137_18 : pm_V d 137 18 [l0, l1, l2, .int xi, l4] st S Q = pm_V d 137 19 [l0, l1, l2, .int xi, l4] (.int xi :: st) S Q := pv_iload_n (pm_cdi rfl dX7_hidden_18) rfl
theorem q137_19 : pm_V d 137 19 [l0, l1, l2, l3, l4] st S Q = pm_V d 137 20 [l0, l1, l2, l3, l4] (.int 0 :: st) S Q := pv_iconst (pm_cdi rfl dX7_hidden_19) (by decide +kernel)
theorem q137_20 : pm_V d 137 20 [l0, l1, l2, l3, l4] st S Q = pm_V d 137 21 [l0, l1, l2, l3, l4] (.int 2 :: st) S Q := pv_iconst (pm_cdi rfl dX7_hidden_20) (by decide +kernel)
theorem q137_21 : pm_V (d + 1) 137 21 [l0, l1, l2, l3, l4] [.int v2i, .int v1i, .int v0i] S Q = pm_N d 88 [.int v0i, .int v1i, .int v2i] S (fun r S' => pm_V (d + 1) 137 24 [l0, l1, l2, l3, l4] (r.toList ++ []) S' Q) := pv_callS (as := [.int v0i, .int v1i, .int v2i]) (pm_cdi rfl dX7_hidden_21) (by decide +kernel) (by decide +kernel) (show _ = _ from (by decide +kernel : 3 = pm_np 88)) rfl (Nat.le_of_ble_eq_true rfl)
theorem q137_24 : pm_V d 137 24 [l0, l1, l2, l3, l4] (.int xi :: st) S Q = if xi = 0 then pm_V d 137 27 [l0, l1, l2, l3, l4] st S Q else pm_V d 137 30 [l0, l1, l2, l3, l4] st S Q := pv_if_ne (pm_cdi rfl dX7_hidden_24) rfl
theorem q137_27 : pm_V d 137 27 [l0, l1, l2, l3, l4] st S Q = pm_V d 137 29 [l0, l1, l2, l3, l4] (.int (-1000001) :: st) S Q := pv_ldc (pm_cdi rfl dX7_hidden_27) (by decide +kernel)
theorem q137_29 : pm_V d 137 29 [l0, l1, l2, l3, l4] [.int xi] S Q = Q (some (.int xi)) S := pv_rI (pm_cdi rfl dX7_hidden_29) (by decide +kernel)
theorem q137_30 : pm_V d 137 30 [.ref xn, l1, l2, l3, l4] st S Q = pm_V d 137 31 [.ref xn, l1, l2, l3, l4] (.ref xn :: st) S Q := pv_aload_n (pm_cdi rfl dX7_hidden_30) rfl
theorem q137_31 (hs : pm_sh S an = .inr 7) : pm_V (d + 1) 137 31 [l0, l1, l2, l3, l4] [.ref an] S Q = pm_N d 100 [.ref an] S (fun r S' => pm_V (d + 1) 137 34 [l0, l1, l2, l3, l4] (r.toList ++ []) S' Q) := pv_callV (as := []) (pm_cdi rfl dX7_hidden_31) (Or.inl (by decide +kernel)) (by decide +kernel) (show _ = _ from (by decide +kernel : 0 = pm_np 100)) rfl (Nat.le_of_ble_eq_true rfl) (cl := 7) (by decide +kernel) hs
theorem q137_34 : pm_V d 137 34 [.ref xn, l1, l2, l3, l4] st S Q = pm_V d 137 35 [.ref xn, l1, l2, l3, l4] (.ref xn :: st) S Q := pv_aload_n (pm_cdi rfl dX7_hidden_34) rfl
theorem q137_35 (hs : pm_sh S an = .inr 7) : pm_V d 137 35 [l0, l1, l2, l3, l4] (.ref an :: st) S Q = pm_V d 137 38 [l0, l1, l2, l3, l4] (va_rf (pm_gr S an 7) :: st) S Q := pv_getA (pm_cdi rfl dX7_hidden_35) (by decide +kernel) (by decide +kernel) (by decide +kernel) hs
theorem q137_38 : pm_V d 137 38 [l0, .int xi, l2, l3, l4] st S Q = pm_V d 137 39 [l0, .int xi, l2, l3, l4] (.int xi :: st) S Q := pv_iload_n (pm_cdi rfl dX7_hidden_38) rfl
theorem q137_39 (hs : pm_ar S an 0 xi = true) : pm_V d 137 39 [l0, l1, l2, l3, l4] (.int xi :: .ref an :: st) S Q = pm_V d 137 40 [l0, l1, l2, l3, l4] (.int (pm_zi S an xi.toNatClampNeg) :: st) S Q := pv_iald (pm_cdi rfl dX7_hidden_39) hs
theorem q137_40 : pm_V d 137 40 [l0, l1, l2, l3, l4] (.int xi :: st) S Q = if xi = 0 then pm_V d 137 47 [l0, l1, l2, l3, l4] st S Q else pm_V d 137 43 [l0, l1, l2, l3, l4] st S Q := pv_if_eq (pm_cdi rfl dX7_hidden_40) rfl
theorem q137_43 : pm_V d 137 43 [l0, l1, l2, l3, l4] st S Q = pm_V d 137 46 [l0, l1, l2, l3, l4] (.int (-1000003) :: st) S Q := pv_ldcw (pm_cdi rfl dX7_hidden_43) (by decide +kernel)
theorem q137_46 : pm_V d 137 46 [l0, l1, l2, l3, l4] [.int xi] S Q = Q (some (.int xi)) S := pv_rI (pm_cdi rfl dX7_hidden_46) (by decide +kernel)
theorem q137_47 : pm_V d 137 47 [l0, l1, .int xi, l3, l4] st S Q = pm_V d 137 48 [l0, l1, .int xi, l3, l4] (.int xi :: st) S Q := pv_iload_n (pm_cdi rfl dX7_hidden_47) rfl
theorem q137_48 : pm_V d 137 48 [l0, l1, l2, l3, l4] st S Q = pm_V d 137 49 [l0, l1, l2, l3, l4] (.int 0 :: st) S Q := pv_iconst (pm_cdi rfl dX7_hidden_48) (by decide +kernel)
theorem q137_49 : pm_V d 137 49 [.ref xn, l1, l2, l3, l4] st S Q = pm_V d 137 50 [.ref xn, l1, l2, l3, l4] (.ref xn :: st) S Q := pv_aload_n (pm_cdi rfl dX7_hidden_49) rfl
theorem q137_50 (hs : pm_sh S an = .inr 7) : pm_V d 137 50 [l0, l1, l2, l3, l4] (.ref an :: st) S Q = pm_V d 137 53 [l0, l1, l2, l3, l4] (va_rf (pm_gr S an 18) :: st) S Q := pv_getA (pm_cdi rfl dX7_hidden_50) (by decide +kernel) (by decide +kernel) (by decide +kernel) hs
theorem q137_53 : pm_V d 137 53 [l0, .int xi, l2, l3, l4] st S Q = pm_V d 137 54 [l0, .int xi, l2, l3, l4] (.int xi :: st) S Q := pv_iload_n (pm_cdi rfl dX7_hidden_53) rfl
theorem q137_54 (hs : pm_ar S an 0 xi = true) : pm_V d 137 54 [l0, l1, l2, l3, l4] (.int xi :: .ref an :: st) S Q = pm_V d 137 55 [l0, l1, l2, l3, l4] (.int (pm_zi S an xi.toNatClampNeg) :: st) S Q := pv_iald (pm_cdi rfl dX7_hidden_54) hs
theorem q137_55 : pm_V d 137 55 [l0, l1, l2, l3, l4] st S Q = pm_V d 137 56 [l0, l1, l2, l3, l4] (.int 1 :: st) S Q := pv_iconst (pm_cdi rfl dX7_hidden_55) (by decide +kernel)
theorem q137_56 : pm_V d 137 56 [l0, l1, l2, l3, l4] (.int yi :: .int xi :: st) S Q = pm_V d 137 57 [l0, l1, l2, l3, l4] (.int (xi - yi) :: st) S Q := pv_isub (pm_cdi rfl dX7_hidden_56)
theorem q137_57 : pm_V (d + 1) 137 57 [l0, l1, l2, l3, l4] [.int v2i, .int v1i, .int v0i] S Q = pm_N d 88 [.int v0i, .int v1i, .int v2i] S (fun r S' => pm_V (d + 1) 137 60 [l0, l1, l2, l3, l4] (r.toList ++ []) S' Q) := pv_callS (as := [.int v0i, .int v1i, .int v2i]) (pm_cdi rfl dX7_hidden_57) (by decide +kernel) (by decide +kernel) (show _ = _ from (by decide +kernel : 3 = pm_np 88)) rfl (Nat.le_of_ble_eq_true rfl)
theorem q137_60 : pm_V d 137 60 [l0, l1, l2, l3, l4] (.int xi :: st) S Q = if xi = 0 then pm_V d 137 63 [l0, l1, l2, l3, l4] st S Q else pm_V d 137 66 [l0, l1, l2, l3, l4] st S Q := pv_if_ne (pm_cdi rfl dX7_hidden_60) rfl
theorem q137_63 : pm_V d 137 63 [l0, l1, l2, l3, l4] st S Q = pm_V d 137 65 [l0, l1, l2, l3, l4] (.int (-1000004) :: st) S Q := pv_ldc (pm_cdi rfl dX7_hidden_63) (by decide +kernel)
theorem q137_65 : pm_V d 137 65 [l0, l1, l2, l3, l4] [.int xi] S Q = Q (some (.int xi)) S := pv_rI (pm_cdi rfl dX7_hidden_65) (by decide +kernel)
theorem q137_66 : pm_V d 137 66 [.ref xn, l1, l2, l3, l4] st S Q = pm_V d 137 67 [.ref xn, l1, l2, l3, l4] (.ref xn :: st) S Q := pv_aload_n (pm_cdi rfl dX7_hidden_66) rfl
theorem q137_67 (hs : pm_sh S an = .inr 7) : pm_V d 137 67 [l0, l1, l2, l3, l4] (.ref an :: st) S Q = pm_V d 137 70 [l0, l1, l2, l3, l4] (va_rf (pm_gr S an 19) :: st) S Q := pv_getA (pm_cdi rfl dX7_hidden_67) (by decide +kernel) (by decide +kernel) (by decide +kernel) hs
theorem q137_70 : pm_V d 137 70 [l0, l1, l2, l3, l4] st S Q = pm_V d 137 73 [l0, l1, l2, l3, l4] (.int 160 :: st) S Q := pv_sipush (pm_cdi rfl dX7_hidden_70) (by decide +kernel)
theorem q137_73 : pm_V d 137 73 [l0, .int xi, l2, l3, l4] st S Q = pm_V d 137 74 [l0, .int xi, l2, l3, l4] (.int xi :: st) S Q := pv_iload_n (pm_cdi rfl dX7_hidden_73) rfl
theorem q137_74 : pm_V d 137 74 [l0, l1, l2, l3, l4] (.int yi :: .int xi :: st) S Q = pm_V d 137 75 [l0, l1, l2, l3, l4] (.int (xi * yi) :: st) S Q := pv_imul (pm_cdi rfl dX7_hidden_74)
theorem q137_75 : pm_V d 137 75 [l0, l1, .int xi, l3, l4] st S Q = pm_V d 137 76 [l0, l1, .int xi, l3, l4] (.int xi :: st) S Q := pv_iload_n (pm_cdi rfl dX7_hidden_75) rfl
theorem q137_76 : pm_V d 137 76 [l0, l1, l2, l3, l4] (.int yi :: .int xi :: st) S Q = pm_V d 137 77 [l0, l1, l2, l3, l4] (.int (xi + yi) :: st) S Q := pv_iadd (pm_cdi rfl dX7_hidden_76)
theorem q137_77 (hs : pm_ar S an 0 xi = true) : pm_V d 137 77 [l0, l1, l2, l3, l4] (.int xi :: .ref an :: st) S Q = pm_V d 137 78 [l0, l1, l2, l3, l4] (.int (pm_zi S an xi.toNatClampNeg) :: st) S Q := pv_iald (pm_cdi rfl dX7_hidden_77) hs
theorem q137_78 : pm_V d 137 78 [l0, l1, l2, .int yi, l4] (.int xi :: st) S Q = pm_V d 137 80 [l0, l1, l2, .int yi, .int xi] st S Q := pv_istore (pm_cdi rfl dX7_hidden_78) rfl
theorem q137_80 : pm_V d 137 80 [l0, l1, l2, .int xi, l4] st S Q = pm_V d 137 81 [l0, l1, l2, .int xi, l4] (.int xi :: st) S Q := pv_iload_n (pm_cdi rfl dX7_hidden_80) rfl
theorem q137_81 : pm_V d 137 81 [l0, l1, l2, l3, l4] (.int xi :: st) S Q = if xi = 0 then pm_V d 137 84 [l0, l1, l2, l3, l4] st S Q else pm_V d 137 93 [l0, l1, l2, l3, l4] st S Q := pv_if_ne (pm_cdi rfl dX7_hidden_81) rfl
theorem q137_84 : pm_V d 137 84 [l0, l1, l2, l3, .int xi] st S Q = pm_V d 137 86 [l0, l1, l2, l3, .int xi] (.int xi :: st) S Q := pv_iload (pm_cdi rfl dX7_hidden_84) rfl
theorem q137_86 : pm_V d 137 86 [l0, l1, l2, l3, l4] st S Q = pm_V d 137 89 [l0, l1, l2, l3, l4] (.int 1000 :: st) S Q := pv_sipush (pm_cdi rfl dX7_hidden_86) (by decide +kernel)
theorem q137_89 (h0 : ¬ yi = 0) : pm_V d 137 89 [l0, l1, l2, l3, l4] (.int yi :: .int xi :: st) S Q = pm_V d 137 90 [l0, l1, l2, l3, l4] (.int (xi / yi) :: st) S Q := pv_idiv (pm_cdi rfl dX7_hidden_89) h0
theorem q137_90 : pm_V d 137 90 [l0, l1, l2, l3, l4] st S Q = pm_V d 137 119 [l0, l1, l2, l3, l4] st S Q := pv_goto (pm_cdi rfl dX7_hidden_90) rfl
theorem q137_93 : pm_V d 137 93 [l0, l1, l2, .int xi, l4] st S Q = pm_V d 137 94 [l0, l1, l2, .int xi, l4] (.int xi :: st) S Q := pv_iload_n (pm_cdi rfl dX7_hidden_93) rfl
theorem q137_94 : pm_V d 137 94 [l0, l1, l2, l3, l4] st S Q = pm_V d 137 95 [l0, l1, l2, l3, l4] (.int 1 :: st) S Q := pv_iconst (pm_cdi rfl dX7_hidden_94) (by decide +kernel)
theorem q137_95 : pm_V d 137 95 [l0, l1, l2, l3, l4] (.int yi :: .int xi :: st) S Q = if xi = yi then pm_V d 137 98 [l0, l1, l2, l3, l4] st S Q else pm_V d 137 107 [l0, l1, l2, l3, l4] st S Q := pv_icmp_ne (pm_cdi rfl dX7_hidden_95) rfl
theorem q137_98 : pm_V d 137 98 [l0, l1, l2, l3, .int xi] st S Q = pm_V d 137 100 [l0, l1, l2, l3, .int xi] (.int xi :: st) S Q := pv_iload (pm_cdi rfl dX7_hidden_98) rfl
theorem q137_100 : pm_V d 137 100 [l0, l1, l2, l3, l4] st S Q = pm_V d 137 103 [l0, l1, l2, l3, l4] (.int 1000 :: st) S Q := pv_sipush (pm_cdi rfl dX7_hidden_100) (by decide +kernel)
theorem q137_103 (h0 : ¬ yi = 0) : pm_V d 137 103 [l0, l1, l2, l3, l4] (.int yi :: .int xi :: st) S Q = pm_V d 137 104 [l0, l1, l2, l3, l4] (.int (xi - xi / yi * yi) :: st) S Q := pv_irem (pm_cdi rfl dX7_hidden_103) h0
theorem q137_104 : pm_V d 137 104 [l0, l1, l2, l3, l4] st S Q = pm_V d 137 119 [l0, l1, l2, l3, l4] st S Q := pv_goto (pm_cdi rfl dX7_hidden_104) rfl
theorem q137_107 : pm_V d 137 107 [.ref xn, l1, l2, l3, l4] st S Q = pm_V d 137 108 [.ref xn, l1, l2, l3, l4] (.ref xn :: st) S Q := pv_aload_n (pm_cdi rfl dX7_hidden_107) rfl
theorem q137_108 (hs : pm_sh S an = .inr 7) : pm_V d 137 108 [l0, l1, l2, l3, l4] (.ref an :: st) S Q = pm_V d 137 111 [l0, l1, l2, l3, l4] (va_rf (pm_gr S an 20) :: st) S Q := pv_getA (pm_cdi rfl dX7_hidden_108) (by decide +kernel) (by decide +kernel) (by decide +kernel) hs
theorem q137_111 : pm_V d 137 111 [l0, l1, l2, l3, l4] st S Q = pm_V d 137 114 [l0, l1, l2, l3, l4] (.int 160 :: st) S Q := pv_sipush (pm_cdi rfl dX7_hidden_111) (by decide +kernel)
theorem q137_114 : pm_V d 137 114 [l0, .int xi, l2, l3, l4] st S Q = pm_V d 137 115 [l0, .int xi, l2, l3, l4] (.int xi :: st) S Q := pv_iload_n (pm_cdi rfl dX7_hidden_114) rfl
theorem q137_115 : pm_V d 137 115 [l0, l1, l2, l3, l4] (.int yi :: .int xi :: st) S Q = pm_V d 137 116 [l0, l1, l2, l3, l4] (.int (xi * yi) :: st) S Q := pv_imul (pm_cdi rfl dX7_hidden_115)
theorem q137_116 : pm_V d 137 116 [l0, l1, .int xi, l3, l4] st S Q = pm_V d 137 117 [l0, l1, .int xi, l3, l4] (.int xi :: st) S Q := pv_iload_n (pm_cdi rfl dX7_hidden_116) rfl
theorem q137_117 : pm_V d 137 117 [l0, l1, l2, l3, l4] (.int yi :: .int xi :: st) S Q = pm_V d 137 118 [l0, l1, l2, l3, l4] (.int (xi + yi) :: st) S Q := pv_iadd (pm_cdi rfl dX7_hidden_117)
theorem q137_118 (hs : pm_ar S an 0 xi = true) : pm_V d 137 118 [l0, l1, l2, l3, l4] (.int xi :: .ref an :: st) S Q = pm_V d 137 119 [l0, l1, l2, l3, l4] (.int (pm_zi S an xi.toNatClampNeg) :: st) S Q := pv_iald (pm_cdi rfl dX7_hidden_118) hs
theorem q137_119 : pm_V d 137 119 [l0, l1, l2, l3, l4] [.int xi] S Q = Q (some (.int xi)) S := pv_rI (pm_cdi rfl dX7_hidden_119) (by decide +kernel)
theorem q137_e : pm_N d 137 [.ref an, .int v0i, .int v1i, .int v2i] S Q = pm_V d 137 0 [.ref an, .int v0i, .int v1i, .int v2i, pm_j] [] S Q := pv_ent (Nat.le_of_ble_eq_true rfl) rfl
/-! 138: ViewsJoinsModel.same(II)I -/
theorem dX7_same_0 : decode cX7_same 0 = .ok (.aload_n 0, 1) := by decide +kernel
theorem dX7_same_1 : decode cX7_same 1 = .ok (.iload_n 1, 1) := by decide +kernel
theorem dX7_same_2 : decode cX7_same 2 = .ok (.invokevirtual 123, 3) := by decide +kernel
theorem dX7_same_5 : decode cX7_same 5 = .ok (.ifCond .eq 11, 3) := by decide +kernel
theorem dX7_same_8 : decode cX7_same 8 = .ok (.aload_n 0, 1) := by decide +kernel
theorem dX7_same_9 : decode cX7_same 9 = .ok (.iload_n 2, 1) := by decide +kernel
theorem dX7_same_10 : decode cX7_same 10 = .ok (.invokevirtual 123, 3) := by decide +kernel
theorem dX7_same_13 : decode cX7_same 13 = .ok (.ifCond .ne 6, 3) := by decide +kernel
theorem dX7_same_16 : decode cX7_same 16 = .ok (.ldc 130, 2) := by decide +kernel
theorem dX7_same_18 : decode cX7_same 18 = .ok (.ireturn, 1) := by decide +kernel
theorem dX7_same_19 : decode cX7_same 19 = .ok (.aload_n 0, 1) := by decide +kernel
theorem dX7_same_20 : decode cX7_same 20 = .ok (.invokevirtual 264, 3) := by decide +kernel
theorem dX7_same_23 : decode cX7_same 23 = .ok (.aload_n 0, 1) := by decide +kernel
theorem dX7_same_24 : decode cX7_same 24 = .ok (.getfield 29, 3) := by decide +kernel
theorem dX7_same_27 : decode cX7_same 27 = .ok (.iload_n 1, 1) := by decide +kernel
theorem dX7_same_28 : decode cX7_same 28 = .ok (.iaload, 1) := by decide +kernel
theorem dX7_same_29 : decode cX7_same 29 = .ok (.ifCond .ne 12, 3) := by decide +kernel
theorem dX7_same_32 : decode cX7_same 32 = .ok (.aload_n 0, 1) := by decide +kernel
theorem dX7_same_33 : decode cX7_same 33 = .ok (.getfield 29, 3) := by decide +kernel
theorem dX7_same_36 : decode cX7_same 36 = .ok (.iload_n 2, 1) := by decide +kernel
theorem dX7_same_37 : decode cX7_same 37 = .ok (.iaload, 1) := by decide +kernel
theorem dX7_same_38 : decode cX7_same 38 = .ok (.ifCond .eq 7, 3) := by decide +kernel
theorem dX7_same_41 : decode cX7_same 41 = .ok (.ldc_w 267, 3) := by decide +kernel
theorem dX7_same_44 : decode cX7_same 44 = .ok (.ireturn, 1) := by decide +kernel
theorem dX7_same_45 : decode cX7_same 45 = .ok (.aload_n 0, 1) := by decide +kernel
theorem dX7_same_46 : decode cX7_same 46 = .ok (.getfield 32, 3) := by decide +kernel
theorem dX7_same_49 : decode cX7_same 49 = .ok (.iload_n 1, 1) := by decide +kernel
theorem dX7_same_50 : decode cX7_same 50 = .ok (.iaload, 1) := by decide +kernel
theorem dX7_same_51 : decode cX7_same 51 = .ok (.aload_n 0, 1) := by decide +kernel
theorem dX7_same_52 : decode cX7_same 52 = .ok (.getfield 32, 3) := by decide +kernel
theorem dX7_same_55 : decode cX7_same 55 = .ok (.iload_n 2, 1) := by decide +kernel
theorem dX7_same_56 : decode cX7_same 56 = .ok (.iaload, 1) := by decide +kernel
theorem dX7_same_57 : decode cX7_same 57 = .ok (.if_icmp .ne 22, 3) := by decide +kernel
theorem dX7_same_60 : decode cX7_same 60 = .ok (.aload_n 0, 1) := by decide +kernel
theorem dX7_same_61 : decode cX7_same 61 = .ok (.getfield 35, 3) := by decide +kernel
theorem dX7_same_64 : decode cX7_same 64 = .ok (.iload_n 1, 1) := by decide +kernel
theorem dX7_same_65 : decode cX7_same 65 = .ok (.iaload, 1) := by decide +kernel
theorem dX7_same_66 : decode cX7_same 66 = .ok (.aload_n 0, 1) := by decide +kernel
theorem dX7_same_67 : decode cX7_same 67 = .ok (.getfield 35, 3) := by decide +kernel
theorem dX7_same_70 : decode cX7_same 70 = .ok (.iload_n 2, 1) := by decide +kernel
theorem dX7_same_71 : decode cX7_same 71 = .ok (.iaload, 1) := by decide +kernel
theorem dX7_same_72 : decode cX7_same 72 = .ok (.if_icmp .ne 7, 3) := by decide +kernel
theorem dX7_same_75 : decode cX7_same 75 = .ok (.iconst 1, 1) := by decide +kernel
theorem dX7_same_76 : decode cX7_same 76 = .ok (.goto 4, 3) := by decide +kernel
theorem dX7_same_79 : decode cX7_same 79 = .ok (.iconst 0, 1) := by decide +kernel
theorem dX7_same_80 : decode cX7_same 80 = .ok (.istore_n 3, 1) := by decide +kernel
theorem dX7_same_81 : decode cX7_same 81 = .ok (.iconst 0, 1) := by decide +kernel
theorem dX7_same_82 : decode cX7_same 82 = .ok (.istore 4, 2) := by decide +kernel
theorem dX7_same_84 : decode cX7_same 84 = .ok (.iload 4, 2) := by decide +kernel
theorem dX7_same_86 : decode cX7_same 86 = .ok (.aload_n 0, 1) := by decide +kernel
theorem dX7_same_87 : decode cX7_same 87 = .ok (.getfield 32, 3) := by decide +kernel
theorem dX7_same_90 : decode cX7_same 90 = .ok (.iload_n 1, 1) := by decide +kernel
theorem dX7_same_91 : decode cX7_same 91 = .ok (.iaload, 1) := by decide +kernel
theorem dX7_same_92 : decode cX7_same 92 = .ok (.if_icmp .ge 37, 3) := by decide +kernel
theorem dX7_same_95 : decode cX7_same 95 = .ok (.iload_n 3, 1) := by decide +kernel
theorem dX7_same_96 : decode cX7_same 96 = .ok (.ifCond .eq 33, 3) := by decide +kernel
theorem dX7_same_99 : decode cX7_same 99 = .ok (.aload_n 0, 1) := by decide +kernel
theorem dX7_same_100 : decode cX7_same 100 = .ok (.iload_n 1, 1) := by decide +kernel
theorem dX7_same_101 : decode cX7_same 101 = .ok (.iload 4, 2) := by decide +kernel
theorem dX7_same_103 : decode cX7_same 103 = .ok (.invokevirtual 201, 3) := by decide +kernel
theorem dX7_same_106 : decode cX7_same 106 = .ok (.aload_n 0, 1) := by decide +kernel
theorem dX7_same_107 : decode cX7_same 107 = .ok (.iload_n 2, 1) := by decide +kernel
theorem dX7_same_108 : decode cX7_same 108 = .ok (.iload 4, 2) := by decide +kernel
theorem dX7_same_110 : decode cX7_same 110 = .ok (.invokevirtual 201, 3) := by decide +kernel
theorem dX7_same_113 : decode cX7_same 113 = .ok (.lcmp, 1) := by decide +kernel
theorem dX7_same_114 : decode cX7_same 114 = .ok (.ifCond .ne 7, 3) := by decide +kernel
theorem dX7_same_117 : decode cX7_same 117 = .ok (.iconst 1, 1) := by decide +kernel
theorem dX7_same_118 : decode cX7_same 118 = .ok (.goto 4, 3) := by decide +kernel
theorem dX7_same_121 : decode cX7_same 121 = .ok (.iconst 0, 1) := by decide +kernel
theorem dX7_same_122 : decode cX7_same 122 = .ok (.istore_n 3, 1) := by decide +kernel
theorem dX7_same_123 : decode cX7_same 123 = .ok (.iinc 4 1, 3) := by decide +kernel
theorem dX7_same_126 : decode cX7_same 126 = .ok (.goto (-42), 3) := by decide +kernel
theorem dX7_same_129 : decode cX7_same 129 = .ok (.iconst 0, 1) := by decide +kernel
theorem dX7_same_130 : decode cX7_same 130 = .ok (.istore 4, 2) := by decide +kernel
theorem dX7_same_132 : decode cX7_same 132 = .ok (.iload 4, 2) := by decide +kernel
theorem dX7_same_134 : decode cX7_same 134 = .ok (.aload_n 0, 1) := by decide +kernel
theorem dX7_same_135 : decode cX7_same 135 = .ok (.getfield 35, 3) := by decide +kernel
theorem dX7_same_138 : decode cX7_same 138 = .ok (.iload_n 1, 1) := by decide +kernel
theorem dX7_same_139 : decode cX7_same 139 = .ok (.iaload, 1) := by decide +kernel
theorem dX7_same_140 : decode cX7_same 140 = .ok (.if_icmp .ge 71, 3) := by decide +kernel
theorem dX7_same_143 : decode cX7_same 143 = .ok (.iload_n 3, 1) := by decide +kernel
theorem dX7_same_144 : decode cX7_same 144 = .ok (.ifCond .eq 67, 3) := by decide +kernel
theorem dX7_same_147 : decode cX7_same 147 = .ok (.aload_n 0, 1) := by decide +kernel
theorem dX7_same_148 : decode cX7_same 148 = .ok (.iload_n 1, 1) := by decide +kernel
theorem dX7_same_149 : decode cX7_same 149 = .ok (.iload 4, 2) := by decide +kernel
theorem dX7_same_151 : decode cX7_same 151 = .ok (.invokevirtual 181, 3) := by decide +kernel
theorem dX7_same_154 : decode cX7_same 154 = .ok (.aload_n 0, 1) := by decide +kernel
theorem dX7_same_155 : decode cX7_same 155 = .ok (.iload_n 2, 1) := by decide +kernel
theorem dX7_same_156 : decode cX7_same 156 = .ok (.iload 4, 2) := by decide +kernel
theorem dX7_same_158 : decode cX7_same 158 = .ok (.invokevirtual 181, 3) := by decide +kernel
theorem dX7_same_161 : decode cX7_same 161 = .ok (.if_icmp .ne 42, 3) := by decide +kernel
theorem dX7_same_164 : decode cX7_same 164 = .ok (.aload_n 0, 1) := by decide +kernel
theorem dX7_same_165 : decode cX7_same 165 = .ok (.iload_n 1, 1) := by decide +kernel
theorem dX7_same_166 : decode cX7_same 166 = .ok (.iload 4, 2) := by decide +kernel
theorem dX7_same_168 : decode cX7_same 168 = .ok (.invokevirtual 185, 3) := by decide +kernel
theorem dX7_same_171 : decode cX7_same 171 = .ok (.aload_n 0, 1) := by decide +kernel
theorem dX7_same_172 : decode cX7_same 172 = .ok (.iload_n 2, 1) := by decide +kernel
theorem dX7_same_173 : decode cX7_same 173 = .ok (.iload 4, 2) := by decide +kernel
theorem dX7_same_175 : decode cX7_same 175 = .ok (.invokevirtual 185, 3) := by decide +kernel
theorem dX7_same_178 : decode cX7_same 178 = .ok (.if_icmp .ne 25, 3) := by decide +kernel
theorem dX7_same_181 : decode cX7_same 181 = .ok (.aload_n 0, 1) := by decide +kernel
theorem dX7_same_182 : decode cX7_same 182 = .ok (.iload_n 1, 1) := by decide +kernel
theorem dX7_same_183 : decode cX7_same 183 = .ok (.iload 4, 2) := by decide +kernel
theorem dX7_same_185 : decode cX7_same 185 = .ok (.invokevirtual 209, 3) := by decide +kernel
theorem dX7_same_188 : decode cX7_same 188 = .ok (.aload_n 0, 1) := by decide +kernel
theorem dX7_same_189 : decode cX7_same 189 = .ok (.iload_n 2, 1) := by decide +kernel
theorem dX7_same_190 : decode cX7_same 190 = .ok (.iload 4, 2) := by decide +kernel
theorem dX7_same_192 : decode cX7_same 192 = .ok (.invokevirtual 209, 3) := by decide +kernel
theorem dX7_same_195 : decode cX7_same 195 = .ok (.lcmp, 1) := by decide +kernel
theorem dX7_same_196 : decode cX7_same 196 = .ok (.ifCond .ne 7, 3) := by decide +kernel
theorem dX7_same_199 : decode cX7_same 199 = .ok (.iconst 1, 1) := by decide +kernel
theorem dX7_same_200 : decode cX7_same 200 = .ok (.goto 4, 3) := by decide +kernel
theorem dX7_same_203 : decode cX7_same 203 = .ok (.iconst 0, 1) := by decide +kernel
theorem dX7_same_204 : decode cX7_same 204 = .ok (.istore_n 3, 1) := by decide +kernel
theorem dX7_same_205 : decode cX7_same 205 = .ok (.iinc 4 1, 3) := by decide +kernel
theorem dX7_same_208 : decode cX7_same 208 = .ok (.goto (-76), 3) := by decide +kernel
theorem dX7_same_211 : decode cX7_same 211 = .ok (.iload_n 3, 1) := by decide +kernel
theorem dX7_same_212 : decode cX7_same 212 = .ok (.ifCond .eq 7, 3) := by decide +kernel
theorem dX7_same_215 : decode cX7_same 215 = .ok (.iconst 1, 1) := by decide +kernel
theorem dX7_same_216 : decode cX7_same 216 = .ok (.goto 4, 3) := by decide +kernel
theorem dX7_same_219 : decode cX7_same 219 = .ok (.iconst 0, 1) := by decide +kernel
theorem dX7_same_220 : decode cX7_same 220 = .ok (.ireturn, 1) := by decide +kernel
theorem q138_0 : pm_V d 138 0 [.ref xn, l1, l2, l3, l4] st S Q = pm_V d 138 1 [.ref xn, l1, l2, l3, l4] (.ref xn :: st) S Q := pv_aload_n (pm_cdi rfl dX7_same_0) rfl
theorem q138_1 : pm_V d 138 1 [l0, .int xi, l2, l3, l4] st S Q = pm_V d 138 2 [l0, .int xi, l2, l3, l4] (.int xi :: st) S Q := pv_iload_n (pm_cdi rfl dX7_same_1) rfl
theorem q138_2 (hs : pm_sh S an = .inr 7) : pm_V (d + 1) 138 2 [l0, l1, l2, l3, l4] [.int v0i, .ref an] S Q = pm_N d 89 [.ref an, .int v0i] S (fun r S' => pm_V (d + 1) 138 5 [l0, l1, l2, l3, l4] (r.toList ++ []) S' Q) := pv_callV (as := [.int v0i]) (pm_cdi rfl dX7_same_2) (Or.inl (by decide +kernel)) (by decide +kernel) (show _ = _ from (by decide +kernel : 1 = pm_np 89)) rfl (Nat.le_of_ble_eq_true rfl) (cl := 7) (by decide +kernel) hs
theorem q138_5 : pm_V d 138 5 [l0, l1, l2, l3, l4] (.int xi :: st) S Q = if xi = 0 then pm_V d 138 16 [l0, l1, l2, l3, l4] st S Q else pm_V d 138 8 [l0, l1, l2, l3, l4] st S Q := pv_if_eq (pm_cdi rfl dX7_same_5) rfl
theorem q138_8 : pm_V d 138 8 [.ref xn, l1, l2, l3, l4] st S Q = pm_V d 138 9 [.ref xn, l1, l2, l3, l4] (.ref xn :: st) S Q := pv_aload_n (pm_cdi rfl dX7_same_8) rfl
theorem q138_9 : pm_V d 138 9 [l0, l1, .int xi, l3, l4] st S Q = pm_V d 138 10 [l0, l1, .int xi, l3, l4] (.int xi :: st) S Q := pv_iload_n (pm_cdi rfl dX7_same_9) rfl
theorem q138_10 (hs : pm_sh S an = .inr 7) : pm_V (d + 1) 138 10 [l0, l1, l2, l3, l4] [.int v0i, .ref an] S Q = pm_N d 89 [.ref an, .int v0i] S (fun r S' => pm_V (d + 1) 138 13 [l0, l1, l2, l3, l4] (r.toList ++ []) S' Q) := pv_callV (as := [.int v0i]) (pm_cdi rfl dX7_same_10) (Or.inl (by decide +kernel)) (by decide +kernel) (show _ = _ from (by decide +kernel : 1 = pm_np 89)) rfl (Nat.le_of_ble_eq_true rfl) (cl := 7) (by decide +kernel) hs
theorem q138_13 : pm_V d 138 13 [l0, l1, l2, l3, l4] (.int xi :: st) S Q = if xi = 0 then pm_V d 138 16 [l0, l1, l2, l3, l4] st S Q else pm_V d 138 19 [l0, l1, l2, l3, l4] st S Q := pv_if_ne (pm_cdi rfl dX7_same_13) rfl
theorem q138_16 : pm_V d 138 16 [l0, l1, l2, l3, l4] st S Q = pm_V d 138 18 [l0, l1, l2, l3, l4] (.int (-1000001) :: st) S Q := pv_ldc (pm_cdi rfl dX7_same_16) (by decide +kernel)
theorem q138_18 : pm_V d 138 18 [l0, l1, l2, l3, l4] [.int xi] S Q = Q (some (.int xi)) S := pv_rI (pm_cdi rfl dX7_same_18) (by decide +kernel)
theorem q138_19 : pm_V d 138 19 [.ref xn, l1, l2, l3, l4] st S Q = pm_V d 138 20 [.ref xn, l1, l2, l3, l4] (.ref xn :: st) S Q := pv_aload_n (pm_cdi rfl dX7_same_19) rfl
theorem q138_20 (hs : pm_sh S an = .inr 7) : pm_V (d + 1) 138 20 [l0, l1, l2, l3, l4] [.ref an] S Q = pm_N d 100 [.ref an] S (fun r S' => pm_V (d + 1) 138 23 [l0, l1, l2, l3, l4] (r.toList ++ []) S' Q) := pv_callV (as := []) (pm_cdi rfl dX7_same_20) (Or.inl (by decide +kernel)) (by decide +kernel) (show _ = _ from (by decide +kernel : 0 = pm_np 100)) rfl (Nat.le_of_ble_eq_true rfl) (cl := 7) (by decide +kernel) hs
theorem q138_23 : pm_V d 138 23 [.ref xn, l1, l2, l3, l4] st S Q = pm_V d 138 24 [.ref xn, l1, l2, l3, l4] (.ref xn :: st) S Q := pv_aload_n (pm_cdi rfl dX7_same_23) rfl
theorem q138_24 (hs : pm_sh S an = .inr 7) : pm_V d 138 24 [l0, l1, l2, l3, l4] (.ref an :: st) S Q = pm_V d 138 27 [l0, l1, l2, l3, l4] (va_rf (pm_gr S an 7) :: st) S Q := pv_getA (pm_cdi rfl dX7_same_24) (by decide +kernel) (by decide +kernel) (by decide +kernel) hs
theorem q138_27 : pm_V d 138 27 [l0, .int xi, l2, l3, l4] st S Q = pm_V d 138 28 [l0, .int xi, l2, l3, l4] (.int xi :: st) S Q := pv_iload_n (pm_cdi rfl dX7_same_27) rfl
theorem q138_28 (hs : pm_ar S an 0 xi = true) : pm_V d 138 28 [l0, l1, l2, l3, l4] (.int xi :: .ref an :: st) S Q = pm_V d 138 29 [l0, l1, l2, l3, l4] (.int (pm_zi S an xi.toNatClampNeg) :: st) S Q := pv_iald (pm_cdi rfl dX7_same_28) hs
theorem q138_29 : pm_V d 138 29 [l0, l1, l2, l3, l4] (.int xi :: st) S Q = if xi = 0 then pm_V d 138 32 [l0, l1, l2, l3, l4] st S Q else pm_V d 138 41 [l0, l1, l2, l3, l4] st S Q := pv_if_ne (pm_cdi rfl dX7_same_29) rfl
theorem q138_32 : pm_V d 138 32 [.ref xn, l1, l2, l3, l4] st S Q = pm_V d 138 33 [.ref xn, l1, l2, l3, l4] (.ref xn :: st) S Q := pv_aload_n (pm_cdi rfl dX7_same_32) rfl
theorem q138_33 (hs : pm_sh S an = .inr 7) : pm_V d 138 33 [l0, l1, l2, l3, l4] (.ref an :: st) S Q = pm_V d 138 36 [l0, l1, l2, l3, l4] (va_rf (pm_gr S an 7) :: st) S Q := pv_getA (pm_cdi rfl dX7_same_33) (by decide +kernel) (by decide +kernel) (by decide +kernel) hs
theorem q138_36 : pm_V d 138 36 [l0, l1, .int xi, l3, l4] st S Q = pm_V d 138 37 [l0, l1, .int xi, l3, l4] (.int xi :: st) S Q := pv_iload_n (pm_cdi rfl dX7_same_36) rfl
theorem q138_37 (hs : pm_ar S an 0 xi = true) : pm_V d 138 37 [l0, l1, l2, l3, l4] (.int xi :: .ref an :: st) S Q = pm_V d 138 38 [l0, l1, l2, l3, l4] (.int (pm_zi S an xi.toNatClampNeg) :: st) S Q := pv_iald (pm_cdi rfl dX7_same_37) hs
theorem q138_38 : pm_V d 138 38 [l0, l1, l2, l3, l4] (.int xi :: st) S Q = if xi = 0 then pm_V d 138 45 [l0, l1, l2, l3, l4] st S Q else pm_V d 138 41 [l0, l1, l2, l3, l4] st S Q := pv_if_eq (pm_cdi rfl dX7_same_38) rfl
theorem q138_41 : pm_V d 138 41 [l0, l1, l2, l3, l4] st S Q = pm_V d 138 44 [l0, l1, l2, l3, l4] (.int (-1000003) :: st) S Q := pv_ldcw (pm_cdi rfl dX7_same_41) (by decide +kernel)
theorem q138_44 : pm_V d 138 44 [l0, l1, l2, l3, l4] [.int xi] S Q = Q (some (.int xi)) S := pv_rI (pm_cdi rfl dX7_same_44) (by decide +kernel)
theorem q138_45 : pm_V d 138 45 [.ref xn, l1, l2, l3, l4] st S Q = pm_V d 138 46 [.ref xn, l1, l2, l3, l4] (.ref xn :: st) S Q := pv_aload_n (pm_cdi rfl dX7_same_45) rfl
theorem q138_46 (hs : pm_sh S an = .inr 7) : pm_V d 138 46 [l0, l1, l2, l3, l4] (.ref an :: st) S Q = pm_V d 138 49 [l0, l1, l2, l3, l4] (va_rf (pm_gr S an 8) :: st) S Q := pv_getA (pm_cdi rfl dX7_same_46) (by decide +kernel) (by decide +kernel) (by decide +kernel) hs
theorem q138_49 : pm_V d 138 49 [l0, .int xi, l2, l3, l4] st S Q = pm_V d 138 50 [l0, .int xi, l2, l3, l4] (.int xi :: st) S Q := pv_iload_n (pm_cdi rfl dX7_same_49) rfl
theorem q138_50 (hs : pm_ar S an 0 xi = true) : pm_V d 138 50 [l0, l1, l2, l3, l4] (.int xi :: .ref an :: st) S Q = pm_V d 138 51 [l0, l1, l2, l3, l4] (.int (pm_zi S an xi.toNatClampNeg) :: st) S Q := pv_iald (pm_cdi rfl dX7_same_50) hs
theorem q138_51 : pm_V d 138 51 [.ref xn, l1, l2, l3, l4] st S Q = pm_V d 138 52 [.ref xn, l1, l2, l3, l4] (.ref xn :: st) S Q := pv_aload_n (pm_cdi rfl dX7_same_51) rfl
theorem q138_52 (hs : pm_sh S an = .inr 7) : pm_V d 138 52 [l0, l1, l2, l3, l4] (.ref an :: st) S Q = pm_V d 138 55 [l0, l1, l2, l3, l4] (va_rf (pm_gr S an 8) :: st) S Q := pv_getA (pm_cdi rfl dX7_same_52) (by decide +kernel) (by decide +kernel) (by decide +kernel) hs
theorem q138_55 : pm_V d 138 55 [l0, l1, .int xi, l3, l4] st S Q = pm_V d 138 56 [l0, l1, .int xi, l3, l4] (.int xi :: st) S Q := pv_iload_n (pm_cdi rfl dX7_same_55) rfl
theorem q138_56 (hs : pm_ar S an 0 xi = true) : pm_V d 138 56 [l0, l1, l2, l3, l4] (.int xi :: .ref an :: st) S Q = pm_V d 138 57 [l0, l1, l2, l3, l4] (.int (pm_zi S an xi.toNatClampNeg) :: st) S Q := pv_iald (pm_cdi rfl dX7_same_56) hs
theorem q138_57 : pm_V d 138 57 [l0, l1, l2, l3, l4] (.int yi :: .int xi :: st) S Q = if xi = yi then pm_V d 138 60 [l0, l1, l2, l3, l4] st S Q else pm_V d 138 79 [l0, l1, l2, l3, l4] st S Q := pv_icmp_ne (pm_cdi rfl dX7_same_57) rfl
theorem q138_60 : pm_V d 138 60 [.ref xn, l1, l2, l3, l4] st S Q = pm_V d 138 61 [.ref xn, l1, l2, l3, l4] (.ref xn :: st) S Q := pv_aload_n (pm_cdi rfl dX7_same_60) rfl
theorem q138_61 (hs : pm_sh S an = .inr 7) : pm_V d 138 61 [l0, l1, l2, l3, l4] (.ref an :: st) S Q = pm_V d 138 64 [l0, l1, l2, l3, l4] (va_rf (pm_gr S an 9) :: st) S Q := pv_getA (pm_cdi rfl dX7_same_61) (by decide +kernel) (by decide +kernel) (by decide +kernel) hs
theorem q138_64 : pm_V d 138 64 [l0, .int xi, l2, l3, l4] st S Q = pm_V d 138 65 [l0, .int xi, l2, l3, l4] (.int xi :: st) S Q := pv_iload_n (pm_cdi rfl dX7_same_64) rfl
theorem q138_65 (hs : pm_ar S an 0 xi = true) : pm_V d 138 65 [l0, l1, l2, l3, l4] (.int xi :: .ref an :: st) S Q = pm_V d 138 66 [l0, l1, l2, l3, l4] (.int (pm_zi S an xi.toNatClampNeg) :: st) S Q := pv_iald (pm_cdi rfl dX7_same_65) hs
theorem q138_66 : pm_V d 138 66 [.ref xn, l1, l2, l3, l4] st S Q = pm_V d 138 67 [.ref xn, l1, l2, l3, l4] (.ref xn :: st) S Q := pv_aload_n (pm_cdi rfl dX7_same_66) rfl
theorem q138_67 (hs : pm_sh S an = .inr 7) : pm_V d 138 67 [l0, l1, l2, l3, l4] (.ref an :: st) S Q = pm_V d 138 70 [l0, l1, l2, l3, l4] (va_rf (pm_gr S an 9) :: st) S Q := pv_getA (pm_cdi rfl dX7_same_67) (by decide +kernel) (by decide +kernel) (by decide +kernel) hs
theorem q138_70 : pm_V d 138 70 [l0, l1, .int xi, l3, l4] st S Q = pm_V d 138 71 [l0, l1, .int xi, l3, l4] (.int xi :: st) S Q := pv_iload_n (pm_cdi rfl dX7_same_70) rfl
theorem q138_71 (hs : pm_ar S an 0 xi = true) : pm_V d 138 71 [l0, l1, l2, l3, l4] (.int xi :: .ref an :: st) S Q = pm_V d 138 72 [l0, l1, l2, l3, l4] (.int (pm_zi S an xi.toNatClampNeg) :: st) S Q := pv_iald (pm_cdi rfl dX7_same_71) hs
theorem q138_72 : pm_V d 138 72 [l0, l1, l2, l3, l4] (.int yi :: .int xi :: st) S Q = if xi = yi then pm_V d 138 75 [l0, l1, l2, l3, l4] st S Q else pm_V d 138 79 [l0, l1, l2, l3, l4] st S Q := pv_icmp_ne (pm_cdi rfl dX7_same_72) rfl
theorem q138_75 : pm_V d 138 75 [l0, l1, l2, l3, l4] st S Q = pm_V d 138 76 [l0, l1, l2, l3, l4] (.int 1 :: st) S Q := pv_iconst (pm_cdi rfl dX7_same_75) (by decide +kernel)
theorem q138_76 : pm_V d 138 76 [l0, l1, l2, l3, l4] st S Q = pm_V d 138 80 [l0, l1, l2, l3, l4] st S Q := pv_goto (pm_cdi rfl dX7_same_76) rfl
theorem q138_79 : pm_V d 138 79 [l0, l1, l2, l3, l4] st S Q = pm_V d 138 80 [l0, l1, l2, l3, l4] (.int 0 :: st) S Q := pv_iconst (pm_cdi rfl dX7_same_79) (by decide +kernel)
theorem q138_80 : pm_V d 138 80 [l0, l1, .int yi, l3, l4] (.int xi :: st) S Q = pm_V d 138 81 [l0, l1, .int yi, .int xi, l4] st S Q := pv_istore_n (pm_cdi rfl dX7_same_80) rfl
theorem q138_81 : pm_V d 138 81 [l0, l1, l2, l3, l4] st S Q = pm_V d 138 82 [l0, l1, l2, l3, l4] (.int 0 :: st) S Q := pv_iconst (pm_cdi rfl dX7_same_81) (by decide +kernel)
theorem q138_82 : pm_V d 138 82 [l0, l1, l2, .int yi, l4] (.int xi :: st) S Q = pm_V d 138 84 [l0, l1, l2, .int yi, .int xi] st S Q := pv_istore (pm_cdi rfl dX7_same_82) rfl
theorem q138_84 : pm_V d 138 84 [l0, l1, l2, l3, .int xi] st S Q = pm_V d 138 86 [l0, l1, l2, l3, .int xi] (.int xi :: st) S Q := pv_iload (pm_cdi rfl dX7_same_84) rfl
theorem q138_86 : pm_V d 138 86 [.ref xn, l1, l2, l3, l4] st S Q = pm_V d 138 87 [.ref xn, l1, l2, l3, l4] (.ref xn :: st) S Q := pv_aload_n (pm_cdi rfl dX7_same_86) rfl
theorem q138_87 (hs : pm_sh S an = .inr 7) : pm_V d 138 87 [l0, l1, l2, l3, l4] (.ref an :: st) S Q = pm_V d 138 90 [l0, l1, l2, l3, l4] (va_rf (pm_gr S an 8) :: st) S Q := pv_getA (pm_cdi rfl dX7_same_87) (by decide +kernel) (by decide +kernel) (by decide +kernel) hs
theorem q138_90 : pm_V d 138 90 [l0, .int xi, l2, l3, l4] st S Q = pm_V d 138 91 [l0, .int xi, l2, l3, l4] (.int xi :: st) S Q := pv_iload_n (pm_cdi rfl dX7_same_90) rfl
theorem q138_91 (hs : pm_ar S an 0 xi = true) : pm_V d 138 91 [l0, l1, l2, l3, l4] (.int xi :: .ref an :: st) S Q = pm_V d 138 92 [l0, l1, l2, l3, l4] (.int (pm_zi S an xi.toNatClampNeg) :: st) S Q := pv_iald (pm_cdi rfl dX7_same_91) hs
theorem q138_92 : pm_V d 138 92 [l0, l1, l2, l3, l4] (.int yi :: .int xi :: st) S Q = if xi < yi then pm_V d 138 95 [l0, l1, l2, l3, l4] st S Q else pm_V d 138 129 [l0, l1, l2, l3, l4] st S Q := pv_icmp_ge (pm_cdi rfl dX7_same_92) rfl
theorem q138_95 : pm_V d 138 95 [l0, l1, l2, .int xi, l4] st S Q = pm_V d 138 96 [l0, l1, l2, .int xi, l4] (.int xi :: st) S Q := pv_iload_n (pm_cdi rfl dX7_same_95) rfl
theorem q138_96 : pm_V d 138 96 [l0, l1, l2, l3, l4] (.int xi :: st) S Q = if xi = 0 then pm_V d 138 129 [l0, l1, l2, l3, l4] st S Q else pm_V d 138 99 [l0, l1, l2, l3, l4] st S Q := pv_if_eq (pm_cdi rfl dX7_same_96) rfl
theorem q138_99 : pm_V d 138 99 [.ref xn, l1, l2, l3, l4] st S Q = pm_V d 138 100 [.ref xn, l1, l2, l3, l4] (.ref xn :: st) S Q := pv_aload_n (pm_cdi rfl dX7_same_99) rfl
theorem q138_100 : pm_V d 138 100 [l0, .int xi, l2, l3, l4] st S Q = pm_V d 138 101 [l0, .int xi, l2, l3, l4] (.int xi :: st) S Q := pv_iload_n (pm_cdi rfl dX7_same_100) rfl
theorem q138_101 : pm_V d 138 101 [l0, l1, l2, l3, .int xi] st S Q = pm_V d 138 103 [l0, l1, l2, l3, .int xi] (.int xi :: st) S Q := pv_iload (pm_cdi rfl dX7_same_101) rfl
theorem q138_103 (hs : pm_sh S an = .inr 7) : pm_V (d + 1) 138 103 [l0, l1, l2, l3, l4] [.int v1i, .int v0i, .ref an] S Q = pm_N d 107 [.ref an, .int v0i, .int v1i] S (fun r S' => pm_V (d + 1) 138 106 [l0, l1, l2, l3, l4] (r.toList ++ []) S' Q) := pv_callV (as := [.int v0i, .int v1i]) (pm_cdi rfl dX7_same_103) (Or.inl (by decide +kernel)) (by decide +kernel) (show _ = _ from (by decide +kernel : 2 = pm_np 107)) rfl (Nat.le_of_ble_eq_true rfl) (cl := 7) (by decide +kernel) hs
theorem q138_106 : pm_V d 138 106 [.ref xn, l1, l2, l3, l4] st S Q = pm_V d 138 107 [.ref xn, l1, l2, l3, l4] (.ref xn :: st) S Q := pv_aload_n (pm_cdi rfl dX7_same_106) rfl
theorem q138_107 : pm_V d 138 107 [l0, l1, .int xi, l3, l4] st S Q = pm_V d 138 108 [l0, l1, .int xi, l3, l4] (.int xi :: st) S Q := pv_iload_n (pm_cdi rfl dX7_same_107) rfl
theorem q138_108 : pm_V d 138 108 [l0, l1, l2, l3, .int xi] st S Q = pm_V d 138 110 [l0, l1, l2, l3, .int xi] (.int xi :: st) S Q := pv_iload (pm_cdi rfl dX7_same_108) rfl
theorem q138_110 (hs : pm_sh S an = .inr 7) : pm_V (d + 1) 138 110 [l0, l1, l2, l3, l4] [.int v1i, .int v0i, .ref an, .long r0j] S Q = pm_N d 107 [.ref an, .int v0i, .int v1i] S (fun r S' => pm_V (d + 1) 138 113 [l0, l1, l2, l3, l4] (r.toList ++ [.long r0j]) S' Q) := pv_callV (as := [.int v0i, .int v1i]) (pm_cdi rfl dX7_same_110) (Or.inl (by decide +kernel)) (by decide +kernel) (show _ = _ from (by decide +kernel : 2 = pm_np 107)) rfl (Nat.le_of_ble_eq_true rfl) (cl := 7) (by decide +kernel) hs
theorem q138_113 : pm_V d 138 113 [l0, l1, l2, l3, l4] (.long yj :: .long xj :: st) S Q = pm_V d 138 114 [l0, l1, l2, l3, l4] (.int (lg_cmp xj yj) :: st) S Q := pv_lcmp (pm_cdi rfl dX7_same_113)
theorem q138_114 : pm_V d 138 114 [l0, l1, l2, l3, l4] (.int xi :: st) S Q = if xi = 0 then pm_V d 138 117 [l0, l1, l2, l3, l4] st S Q else pm_V d 138 121 [l0, l1, l2, l3, l4] st S Q := pv_if_ne (pm_cdi rfl dX7_same_114) rfl
theorem q138_117 : pm_V d 138 117 [l0, l1, l2, l3, l4] st S Q = pm_V d 138 118 [l0, l1, l2, l3, l4] (.int 1 :: st) S Q := pv_iconst (pm_cdi rfl dX7_same_117) (by decide +kernel)
theorem q138_118 : pm_V d 138 118 [l0, l1, l2, l3, l4] st S Q = pm_V d 138 122 [l0, l1, l2, l3, l4] st S Q := pv_goto (pm_cdi rfl dX7_same_118) rfl
theorem q138_121 : pm_V d 138 121 [l0, l1, l2, l3, l4] st S Q = pm_V d 138 122 [l0, l1, l2, l3, l4] (.int 0 :: st) S Q := pv_iconst (pm_cdi rfl dX7_same_121) (by decide +kernel)
theorem q138_122 : pm_V d 138 122 [l0, l1, .int yi, l3, l4] (.int xi :: st) S Q = pm_V d 138 123 [l0, l1, .int yi, .int xi, l4] st S Q := pv_istore_n (pm_cdi rfl dX7_same_122) rfl
theorem q138_123 : pm_V d 138 123 [l0, l1, l2, .int yi, .int xi] st S Q = pm_V d 138 126 [l0, l1, l2, .int yi, .int (xi + 1)] st S Q := pv_iinc (pm_cdi rfl dX7_same_123) rfl (by decide +kernel) rfl
theorem q138_126 : pm_V d 138 126 [l0, l1, l2, l3, l4] st S Q = pm_V d 138 84 [l0, l1, l2, l3, l4] st S Q := pv_goto (pm_cdi rfl dX7_same_126) rfl
theorem q138_129 : pm_V d 138 129 [l0, l1, l2, l3, l4] st S Q = pm_V d 138 130 [l0, l1, l2, l3, l4] (.int 0 :: st) S Q := pv_iconst (pm_cdi rfl dX7_same_129) (by decide +kernel)
theorem q138_130 : pm_V d 138 130 [l0, l1, l2, .int yi, l4] (.int xi :: st) S Q = pm_V d 138 132 [l0, l1, l2, .int yi, .int xi] st S Q := pv_istore (pm_cdi rfl dX7_same_130) rfl
theorem q138_132 : pm_V d 138 132 [l0, l1, l2, l3, .int xi] st S Q = pm_V d 138 134 [l0, l1, l2, l3, .int xi] (.int xi :: st) S Q := pv_iload (pm_cdi rfl dX7_same_132) rfl
theorem q138_134 : pm_V d 138 134 [.ref xn, l1, l2, l3, l4] st S Q = pm_V d 138 135 [.ref xn, l1, l2, l3, l4] (.ref xn :: st) S Q := pv_aload_n (pm_cdi rfl dX7_same_134) rfl
theorem q138_135 (hs : pm_sh S an = .inr 7) : pm_V d 138 135 [l0, l1, l2, l3, l4] (.ref an :: st) S Q = pm_V d 138 138 [l0, l1, l2, l3, l4] (va_rf (pm_gr S an 9) :: st) S Q := pv_getA (pm_cdi rfl dX7_same_135) (by decide +kernel) (by decide +kernel) (by decide +kernel) hs
theorem q138_138 : pm_V d 138 138 [l0, .int xi, l2, l3, l4] st S Q = pm_V d 138 139 [l0, .int xi, l2, l3, l4] (.int xi :: st) S Q := pv_iload_n (pm_cdi rfl dX7_same_138) rfl
theorem q138_139 (hs : pm_ar S an 0 xi = true) : pm_V d 138 139 [l0, l1, l2, l3, l4] (.int xi :: .ref an :: st) S Q = pm_V d 138 140 [l0, l1, l2, l3, l4] (.int (pm_zi S an xi.toNatClampNeg) :: st) S Q := pv_iald (pm_cdi rfl dX7_same_139) hs
theorem q138_140 : pm_V d 138 140 [l0, l1, l2, l3, l4] (.int yi :: .int xi :: st) S Q = if xi < yi then pm_V d 138 143 [l0, l1, l2, l3, l4] st S Q else pm_V d 138 211 [l0, l1, l2, l3, l4] st S Q := pv_icmp_ge (pm_cdi rfl dX7_same_140) rfl
theorem q138_143 : pm_V d 138 143 [l0, l1, l2, .int xi, l4] st S Q = pm_V d 138 144 [l0, l1, l2, .int xi, l4] (.int xi :: st) S Q := pv_iload_n (pm_cdi rfl dX7_same_143) rfl
theorem q138_144 : pm_V d 138 144 [l0, l1, l2, l3, l4] (.int xi :: st) S Q = if xi = 0 then pm_V d 138 211 [l0, l1, l2, l3, l4] st S Q else pm_V d 138 147 [l0, l1, l2, l3, l4] st S Q := pv_if_eq (pm_cdi rfl dX7_same_144) rfl
theorem q138_147 : pm_V d 138 147 [.ref xn, l1, l2, l3, l4] st S Q = pm_V d 138 148 [.ref xn, l1, l2, l3, l4] (.ref xn :: st) S Q := pv_aload_n (pm_cdi rfl dX7_same_147) rfl
theorem q138_148 : pm_V d 138 148 [l0, .int xi, l2, l3, l4] st S Q = pm_V d 138 149 [l0, .int xi, l2, l3, l4] (.int xi :: st) S Q := pv_iload_n (pm_cdi rfl dX7_same_148) rfl
theorem q138_149 : pm_V d 138 149 [l0, l1, l2, l3, .int xi] st S Q = pm_V d 138 151 [l0, l1, l2, l3, .int xi] (.int xi :: st) S Q := pv_iload (pm_cdi rfl dX7_same_149) rfl
theorem q138_151 (hs : pm_sh S an = .inr 7) : pm_V (d + 1) 138 151 [l0, l1, l2, l3, l4] [.int v1i, .int v0i, .ref an] S Q = pm_N d 105 [.ref an, .int v0i, .int v1i] S (fun r S' => pm_V (d + 1) 138 154 [l0, l1, l2, l3, l4] (r.toList ++ []) S' Q) := pv_callV (as := [.int v0i, .int v1i]) (pm_cdi rfl dX7_same_151) (Or.inl (by decide +kernel)) (by decide +kernel) (show _ = _ from (by decide +kernel : 2 = pm_np 105)) rfl (Nat.le_of_ble_eq_true rfl) (cl := 7) (by decide +kernel) hs
theorem q138_154 : pm_V d 138 154 [.ref xn, l1, l2, l3, l4] st S Q = pm_V d 138 155 [.ref xn, l1, l2, l3, l4] (.ref xn :: st) S Q := pv_aload_n (pm_cdi rfl dX7_same_154) rfl
theorem q138_155 : pm_V d 138 155 [l0, l1, .int xi, l3, l4] st S Q = pm_V d 138 156 [l0, l1, .int xi, l3, l4] (.int xi :: st) S Q := pv_iload_n (pm_cdi rfl dX7_same_155) rfl
theorem q138_156 : pm_V d 138 156 [l0, l1, l2, l3, .int xi] st S Q = pm_V d 138 158 [l0, l1, l2, l3, .int xi] (.int xi :: st) S Q := pv_iload (pm_cdi rfl dX7_same_156) rfl
theorem q138_158 (hs : pm_sh S an = .inr 7) : pm_V (d + 1) 138 158 [l0, l1, l2, l3, l4] [.int v1i, .int v0i, .ref an, .int r0i] S Q = pm_N d 105 [.ref an, .int v0i, .int v1i] S (fun r S' => pm_V (d + 1) 138 161 [l0, l1, l2, l3, l4] (r.toList ++ [.int r0i]) S' Q) := pv_callV (as := [.int v0i, .int v1i]) (pm_cdi rfl dX7_same_158) (Or.inl (by decide +kernel)) (by decide +kernel) (show _ = _ from (by decide +kernel : 2 = pm_np 105)) rfl (Nat.le_of_ble_eq_true rfl) (cl := 7) (by decide +kernel) hs
theorem q138_161 : pm_V d 138 161 [l0, l1, l2, l3, l4] (.int yi :: .int xi :: st) S Q = if xi = yi then pm_V d 138 164 [l0, l1, l2, l3, l4] st S Q else pm_V d 138 203 [l0, l1, l2, l3, l4] st S Q := pv_icmp_ne (pm_cdi rfl dX7_same_161) rfl
theorem q138_164 : pm_V d 138 164 [.ref xn, l1, l2, l3, l4] st S Q = pm_V d 138 165 [.ref xn, l1, l2, l3, l4] (.ref xn :: st) S Q := pv_aload_n (pm_cdi rfl dX7_same_164) rfl
theorem q138_165 : pm_V d 138 165 [l0, .int xi, l2, l3, l4] st S Q = pm_V d 138 166 [l0, .int xi, l2, l3, l4] (.int xi :: st) S Q := pv_iload_n (pm_cdi rfl dX7_same_165) rfl
theorem q138_166 : pm_V d 138 166 [l0, l1, l2, l3, .int xi] st S Q = pm_V d 138 168 [l0, l1, l2, l3, .int xi] (.int xi :: st) S Q := pv_iload (pm_cdi rfl dX7_same_166) rfl
theorem q138_168 (hs : pm_sh S an = .inr 7) : pm_V (d + 1) 138 168 [l0, l1, l2, l3, l4] [.int v1i, .int v0i, .ref an] S Q = pm_N d 106 [.ref an, .int v0i, .int v1i] S (fun r S' => pm_V (d + 1) 138 171 [l0, l1, l2, l3, l4] (r.toList ++ []) S' Q) := pv_callV (as := [.int v0i, .int v1i]) (pm_cdi rfl dX7_same_168) (Or.inl (by decide +kernel)) (by decide +kernel) (show _ = _ from (by decide +kernel : 2 = pm_np 106)) rfl (Nat.le_of_ble_eq_true rfl) (cl := 7) (by decide +kernel) hs
theorem q138_171 : pm_V d 138 171 [.ref xn, l1, l2, l3, l4] st S Q = pm_V d 138 172 [.ref xn, l1, l2, l3, l4] (.ref xn :: st) S Q := pv_aload_n (pm_cdi rfl dX7_same_171) rfl
theorem q138_172 : pm_V d 138 172 [l0, l1, .int xi, l3, l4] st S Q = pm_V d 138 173 [l0, l1, .int xi, l3, l4] (.int xi :: st) S Q := pv_iload_n (pm_cdi rfl dX7_same_172) rfl
theorem q138_173 : pm_V d 138 173 [l0, l1, l2, l3, .int xi] st S Q = pm_V d 138 175 [l0, l1, l2, l3, .int xi] (.int xi :: st) S Q := pv_iload (pm_cdi rfl dX7_same_173) rfl
theorem q138_175 (hs : pm_sh S an = .inr 7) : pm_V (d + 1) 138 175 [l0, l1, l2, l3, l4] [.int v1i, .int v0i, .ref an, .int r0i] S Q = pm_N d 106 [.ref an, .int v0i, .int v1i] S (fun r S' => pm_V (d + 1) 138 178 [l0, l1, l2, l3, l4] (r.toList ++ [.int r0i]) S' Q) := pv_callV (as := [.int v0i, .int v1i]) (pm_cdi rfl dX7_same_175) (Or.inl (by decide +kernel)) (by decide +kernel) (show _ = _ from (by decide +kernel : 2 = pm_np 106)) rfl (Nat.le_of_ble_eq_true rfl) (cl := 7) (by decide +kernel) hs
theorem q138_178 : pm_V d 138 178 [l0, l1, l2, l3, l4] (.int yi :: .int xi :: st) S Q = if xi = yi then pm_V d 138 181 [l0, l1, l2, l3, l4] st S Q else pm_V d 138 203 [l0, l1, l2, l3, l4] st S Q := pv_icmp_ne (pm_cdi rfl dX7_same_178) rfl
theorem q138_181 : pm_V d 138 181 [.ref xn, l1, l2, l3, l4] st S Q = pm_V d 138 182 [.ref xn, l1, l2, l3, l4] (.ref xn :: st) S Q := pv_aload_n (pm_cdi rfl dX7_same_181) rfl
theorem q138_182 : pm_V d 138 182 [l0, .int xi, l2, l3, l4] st S Q = pm_V d 138 183 [l0, .int xi, l2, l3, l4] (.int xi :: st) S Q := pv_iload_n (pm_cdi rfl dX7_same_182) rfl
theorem q138_183 : pm_V d 138 183 [l0, l1, l2, l3, .int xi] st S Q = pm_V d 138 185 [l0, l1, l2, l3, .int xi] (.int xi :: st) S Q := pv_iload (pm_cdi rfl dX7_same_183) rfl
theorem q138_185 (hs : pm_sh S an = .inr 7) : pm_V (d + 1) 138 185 [l0, l1, l2, l3, l4] [.int v1i, .int v0i, .ref an] S Q = pm_N d 108 [.ref an, .int v0i, .int v1i] S (fun r S' => pm_V (d + 1) 138 188 [l0, l1, l2, l3, l4] (r.toList ++ []) S' Q) := pv_callV (as := [.int v0i, .int v1i]) (pm_cdi rfl dX7_same_185) (Or.inl (by decide +kernel)) (by decide +kernel) (show _ = _ from (by decide +kernel : 2 = pm_np 108)) rfl (Nat.le_of_ble_eq_true rfl) (cl := 7) (by decide +kernel) hs
theorem q138_188 : pm_V d 138 188 [.ref xn, l1, l2, l3, l4] st S Q = pm_V d 138 189 [.ref xn, l1, l2, l3, l4] (.ref xn :: st) S Q := pv_aload_n (pm_cdi rfl dX7_same_188) rfl
theorem q138_189 : pm_V d 138 189 [l0, l1, .int xi, l3, l4] st S Q = pm_V d 138 190 [l0, l1, .int xi, l3, l4] (.int xi :: st) S Q := pv_iload_n (pm_cdi rfl dX7_same_189) rfl
theorem q138_190 : pm_V d 138 190 [l0, l1, l2, l3, .int xi] st S Q = pm_V d 138 192 [l0, l1, l2, l3, .int xi] (.int xi :: st) S Q := pv_iload (pm_cdi rfl dX7_same_190) rfl
theorem q138_192 (hs : pm_sh S an = .inr 7) : pm_V (d + 1) 138 192 [l0, l1, l2, l3, l4] [.int v1i, .int v0i, .ref an, .long r0j] S Q = pm_N d 108 [.ref an, .int v0i, .int v1i] S (fun r S' => pm_V (d + 1) 138 195 [l0, l1, l2, l3, l4] (r.toList ++ [.long r0j]) S' Q) := pv_callV (as := [.int v0i, .int v1i]) (pm_cdi rfl dX7_same_192) (Or.inl (by decide +kernel)) (by decide +kernel) (show _ = _ from (by decide +kernel : 2 = pm_np 108)) rfl (Nat.le_of_ble_eq_true rfl) (cl := 7) (by decide +kernel) hs
theorem q138_195 : pm_V d 138 195 [l0, l1, l2, l3, l4] (.long yj :: .long xj :: st) S Q = pm_V d 138 196 [l0, l1, l2, l3, l4] (.int (lg_cmp xj yj) :: st) S Q := pv_lcmp (pm_cdi rfl dX7_same_195)
theorem q138_196 : pm_V d 138 196 [l0, l1, l2, l3, l4] (.int xi :: st) S Q = if xi = 0 then pm_V d 138 199 [l0, l1, l2, l3, l4] st S Q else pm_V d 138 203 [l0, l1, l2, l3, l4] st S Q := pv_if_ne (pm_cdi rfl dX7_same_196) rfl
theorem q138_199 : pm_V d 138 199 [l0, l1, l2, l3, l4] st S Q = pm_V d 138 200 [l0, l1, l2, l3, l4] (.int 1 :: st) S Q := pv_iconst (pm_cdi rfl dX7_same_199) (by decide +kernel)
theorem q138_200 : pm_V d 138 200 [l0, l1, l2, l3, l4] st S Q = pm_V d 138 204 [l0, l1, l2, l3, l4] st S Q := pv_goto (pm_cdi rfl dX7_same_200) rfl
theorem q138_203 : pm_V d 138 203 [l0, l1, l2, l3, l4] st S Q = pm_V d 138 204 [l0, l1, l2, l3, l4] (.int 0 :: st) S Q := pv_iconst (pm_cdi rfl dX7_same_203) (by decide +kernel)
theorem q138_204 : pm_V d 138 204 [l0, l1, .int yi, l3, l4] (.int xi :: st) S Q = pm_V d 138 205 [l0, l1, .int yi, .int xi, l4] st S Q := pv_istore_n (pm_cdi rfl dX7_same_204) rfl
theorem q138_205 : pm_V d 138 205 [l0, l1, l2, .int yi, .int xi] st S Q = pm_V d 138 208 [l0, l1, l2, .int yi, .int (xi + 1)] st S Q := pv_iinc (pm_cdi rfl dX7_same_205) rfl (by decide +kernel) rfl
theorem q138_208 : pm_V d 138 208 [l0, l1, l2, l3, l4] st S Q = pm_V d 138 132 [l0, l1, l2, l3, l4] st S Q := pv_goto (pm_cdi rfl dX7_same_208) rfl
theorem q138_211 : pm_V d 138 211 [l0, l1, l2, .int xi, l4] st S Q = pm_V d 138 212 [l0, l1, l2, .int xi, l4] (.int xi :: st) S Q := pv_iload_n (pm_cdi rfl dX7_same_211) rfl
theorem q138_212 : pm_V d 138 212 [l0, l1, l2, l3, l4] (.int xi :: st) S Q = if xi = 0 then pm_V d 138 219 [l0, l1, l2, l3, l4] st S Q else pm_V d 138 215 [l0, l1, l2, l3, l4] st S Q := pv_if_eq (pm_cdi rfl dX7_same_212) rfl
theorem q138_215 : pm_V d 138 215 [l0, l1, l2, l3, l4] st S Q = pm_V d 138 216 [l0, l1, l2, l3, l4] (.int 1 :: st) S Q := pv_iconst (pm_cdi rfl dX7_same_215) (by decide +kernel)
theorem q138_216 : pm_V d 138 216 [l0, l1, l2, l3, l4] st S Q = pm_V d 138 220 [l0, l1, l2, l3, l4] st S Q := pv_goto (pm_cdi rfl dX7_same_216) rfl
theorem q138_219 : pm_V d 138 219 [l0, l1, l2, l3, l4] st S Q = pm_V d 138 220 [l0, l1, l2, l3, l4] (.int 0 :: st) S Q := pv_iconst (pm_cdi rfl dX7_same_219) (by decide +kernel)
theorem q138_220 : pm_V d 138 220 [l0, l1, l2, l3, l4] [.int xi] S Q = Q (some (.int xi)) S := pv_rI (pm_cdi rfl dX7_same_220) (by decide +kernel)
theorem q138_e : pm_N d 138 [.ref an, .int v0i, .int v1i] S Q = pm_V d 138 0 [.ref an, .int v0i, .int v1i, pm_j, pm_j] [] S Q := pv_ent (Nat.le_of_ble_eq_true rfl) rfl
/-! 139: ViewsJoinsModel.reach(II)I -/
theorem dX7_reach_0 : decode cX7_reach 0 = .ok (.aload_n 0, 1) := by decide +kernel
theorem dX7_reach_1 : decode cX7_reach 1 = .ok (.iload_n 1, 1) := by decide +kernel
theorem dX7_reach_2 : decode cX7_reach 2 = .ok (.invokevirtual 123, 3) := by decide +kernel
theorem dX7_reach_5 : decode cX7_reach 5 = .ok (.ifCond .ne 6, 3) := by decide +kernel
theorem dX7_reach_8 : decode cX7_reach 8 = .ok (.ldc 130, 2) := by decide +kernel
theorem dX7_reach_10 : decode cX7_reach 10 = .ok (.ireturn, 1) := by decide +kernel
theorem dX7_reach_11 : decode cX7_reach 11 = .ok (.aload_n 0, 1) := by decide +kernel
theorem dX7_reach_12 : decode cX7_reach 12 = .ok (.invokevirtual 264, 3) := by decide +kernel
theorem dX7_reach_15 : decode cX7_reach 15 = .ok (.aload_n 0, 1) := by decide +kernel
theorem dX7_reach_16 : decode cX7_reach 16 = .ok (.getfield 29, 3) := by decide +kernel
theorem dX7_reach_19 : decode cX7_reach 19 = .ok (.iload_n 1, 1) := by decide +kernel
theorem dX7_reach_20 : decode cX7_reach 20 = .ok (.iaload, 1) := by decide +kernel
theorem dX7_reach_21 : decode cX7_reach 21 = .ok (.ifCond .eq 7, 3) := by decide +kernel
theorem dX7_reach_24 : decode cX7_reach 24 = .ok (.ldc_w 267, 3) := by decide +kernel
theorem dX7_reach_27 : decode cX7_reach 27 = .ok (.ireturn, 1) := by decide +kernel
theorem dX7_reach_28 : decode cX7_reach 28 = .ok (.iload_n 2, 1) := by decide +kernel
theorem dX7_reach_29 : decode cX7_reach 29 = .ok (.iconst 0, 1) := by decide +kernel
theorem dX7_reach_30 : decode cX7_reach 30 = .ok (.aload_n 0, 1) := by decide +kernel
theorem dX7_reach_31 : decode cX7_reach 31 = .ok (.getfield 32, 3) := by decide +kernel
theorem dX7_reach_34 : decode cX7_reach 34 = .ok (.iload_n 1, 1) := by decide +kernel
theorem dX7_reach_35 : decode cX7_reach 35 = .ok (.iaload, 1) := by decide +kernel
theorem dX7_reach_36 : decode cX7_reach 36 = .ok (.iconst 1, 1) := by decide +kernel
theorem dX7_reach_37 : decode cX7_reach 37 = .ok (.isub, 1) := by decide +kernel
theorem dX7_reach_38 : decode cX7_reach 38 = .ok (.invokestatic 119, 3) := by decide +kernel
theorem dX7_reach_41 : decode cX7_reach 41 = .ok (.ifCond .ne 6, 3) := by decide +kernel
theorem dX7_reach_44 : decode cX7_reach 44 = .ok (.ldc 130, 2) := by decide +kernel
theorem dX7_reach_46 : decode cX7_reach 46 = .ok (.ireturn, 1) := by decide +kernel
theorem dX7_reach_47 : decode cX7_reach 47 = .ok (.iconst 0, 1) := by decide +kernel
theorem dX7_reach_48 : decode cX7_reach 48 = .ok (.istore_n 3, 1) := by decide +kernel
theorem dX7_reach_49 : decode cX7_reach 49 = .ok (.iload_n 3, 1) := by decide +kernel
theorem dX7_reach_50 : decode cX7_reach 50 = .ok (.aload_n 0, 1) := by decide +kernel
theorem dX7_reach_51 : decode cX7_reach 51 = .ok (.getfield 32, 3) := by decide +kernel
theorem dX7_reach_54 : decode cX7_reach 54 = .ok (.iload_n 1, 1) := by decide +kernel
theorem dX7_reach_55 : decode cX7_reach 55 = .ok (.iaload, 1) := by decide +kernel
theorem dX7_reach_56 : decode cX7_reach 56 = .ok (.if_icmp .ge 25, 3) := by decide +kernel
theorem dX7_reach_59 : decode cX7_reach 59 = .ok (.aload_n 0, 1) := by decide +kernel
theorem dX7_reach_60 : decode cX7_reach 60 = .ok (.getfield 108, 3) := by decide +kernel
theorem dX7_reach_63 : decode cX7_reach 63 = .ok (.iload_n 3, 1) := by decide +kernel
theorem dX7_reach_64 : decode cX7_reach 64 = .ok (.iload_n 3, 1) := by decide +kernel
theorem dX7_reach_65 : decode cX7_reach 65 = .ok (.iload_n 2, 1) := by decide +kernel
theorem dX7_reach_66 : decode cX7_reach 66 = .ok (.if_icmp .ne 7, 3) := by decide +kernel
theorem dX7_reach_69 : decode cX7_reach 69 = .ok (.iconst 1, 1) := by decide +kernel
theorem dX7_reach_70 : decode cX7_reach 70 = .ok (.goto 4, 3) := by decide +kernel
theorem dX7_reach_73 : decode cX7_reach 73 = .ok (.iconst 0, 1) := by decide +kernel
theorem dX7_reach_74 : decode cX7_reach 74 = .ok (.bastore, 1) := by decide +kernel
theorem dX7_reach_75 : decode cX7_reach 75 = .ok (.iinc 3 1, 3) := by decide +kernel
theorem dX7_reach_78 : decode cX7_reach 78 = .ok (.goto (-29), 3) := by decide +kernel
theorem dX7_reach_81 : decode cX7_reach 81 = .ok (.iconst 1, 1) := by decide +kernel
theorem dX7_reach_82 : decode cX7_reach 82 = .ok (.istore_n 3, 1) := by decide +kernel
theorem dX7_reach_83 : decode cX7_reach 83 = .ok (.iconst 1, 1) := by decide +kernel
theorem dX7_reach_84 : decode cX7_reach 84 = .ok (.istore 4, 2) := by decide +kernel
theorem dX7_reach_86 : decode cX7_reach 86 = .ok (.iload 4, 2) := by decide +kernel
theorem dX7_reach_88 : decode cX7_reach 88 = .ok (.ifCond .eq 78, 3) := by decide +kernel
theorem dX7_reach_91 : decode cX7_reach 91 = .ok (.iconst 0, 1) := by decide +kernel
theorem dX7_reach_92 : decode cX7_reach 92 = .ok (.istore 4, 2) := by decide +kernel
theorem dX7_reach_94 : decode cX7_reach 94 = .ok (.iconst 0, 1) := by decide +kernel
theorem dX7_reach_95 : decode cX7_reach 95 = .ok (.istore 5, 2) := by decide +kernel
theorem dX7_reach_97 : decode cX7_reach 97 = .ok (.iload 5, 2) := by decide +kernel
theorem dX7_reach_99 : decode cX7_reach 99 = .ok (.aload_n 0, 1) := by decide +kernel
theorem dX7_reach_100 : decode cX7_reach 100 = .ok (.getfield 35, 3) := by decide +kernel
theorem dX7_reach_103 : decode cX7_reach 103 = .ok (.iload_n 1, 1) := by decide +kernel
theorem dX7_reach_104 : decode cX7_reach 104 = .ok (.iaload, 1) := by decide +kernel
theorem dX7_reach_105 : decode cX7_reach 105 = .ok (.if_icmp .ge 58, 3) := by decide +kernel
theorem dX7_reach_108 : decode cX7_reach 108 = .ok (.aload_n 0, 1) := by decide +kernel
theorem dX7_reach_109 : decode cX7_reach 109 = .ok (.getfield 108, 3) := by decide +kernel
theorem dX7_reach_112 : decode cX7_reach 112 = .ok (.aload_n 0, 1) := by decide +kernel
theorem dX7_reach_113 : decode cX7_reach 113 = .ok (.iload_n 1, 1) := by decide +kernel
theorem dX7_reach_114 : decode cX7_reach 114 = .ok (.iload 5, 2) := by decide +kernel
theorem dX7_reach_116 : decode cX7_reach 116 = .ok (.invokevirtual 181, 3) := by decide +kernel
theorem dX7_reach_119 : decode cX7_reach 119 = .ok (.baload, 1) := by decide +kernel
theorem dX7_reach_120 : decode cX7_reach 120 = .ok (.ifCond .eq 37, 3) := by decide +kernel
theorem dX7_reach_123 : decode cX7_reach 123 = .ok (.aload_n 0, 1) := by decide +kernel
theorem dX7_reach_124 : decode cX7_reach 124 = .ok (.getfield 108, 3) := by decide +kernel
theorem dX7_reach_127 : decode cX7_reach 127 = .ok (.aload_n 0, 1) := by decide +kernel
theorem dX7_reach_128 : decode cX7_reach 128 = .ok (.iload_n 1, 1) := by decide +kernel
theorem dX7_reach_129 : decode cX7_reach 129 = .ok (.iload 5, 2) := by decide +kernel
theorem dX7_reach_131 : decode cX7_reach 131 = .ok (.invokevirtual 185, 3) := by decide +kernel
theorem dX7_reach_134 : decode cX7_reach 134 = .ok (.baload, 1) := by decide +kernel
theorem dX7_reach_135 : decode cX7_reach 135 = .ok (.ifCond .ne 22, 3) := by decide +kernel
theorem dX7_reach_138 : decode cX7_reach 138 = .ok (.aload_n 0, 1) := by decide +kernel
theorem dX7_reach_139 : decode cX7_reach 139 = .ok (.getfield 108, 3) := by decide +kernel
theorem dX7_reach_142 : decode cX7_reach 142 = .ok (.aload_n 0, 1) := by decide +kernel
theorem dX7_reach_143 : decode cX7_reach 143 = .ok (.iload_n 1, 1) := by decide +kernel
theorem dX7_reach_144 : decode cX7_reach 144 = .ok (.iload 5, 2) := by decide +kernel
theorem dX7_reach_146 : decode cX7_reach 146 = .ok (.invokevirtual 185, 3) := by decide +kernel
theorem dX7_reach_149 : decode cX7_reach 149 = .ok (.iconst 1, 1) := by decide +kernel
theorem dX7_reach_150 : decode cX7_reach 150 = .ok (.bastore, 1) := by decide +kernel
theorem dX7_reach_151 : decode cX7_reach 151 = .ok (.iinc 3 1, 3) := by decide +kernel
theorem dX7_reach_154 : decode cX7_reach 154 = .ok (.iconst 1, 1) := by decide +kernel
theorem dX7_reach_155 : decode cX7_reach 155 = .ok (.istore 4, 2) := by decide +kernel
theorem dX7_reach_157 : decode cX7_reach 157 = .ok (.iinc 5 1, 3) := by decide +kernel
theorem dX7_reach_160 : decode cX7_reach 160 = .ok (.goto (-63), 3) := by decide +kernel
theorem dX7_reach_163 : decode cX7_reach 163 = .ok (.goto (-77), 3) := by decide +kernel
theorem dX7_reach_166 : decode cX7_reach 166 = .ok (.iload_n 3, 1) := by decide +kernel
theorem dX7_reach_167 : decode cX7_reach 167 = .ok (.ireturn, 1) := by decide +kernel
theorem q139_0 : pm_V d 139 0 [.ref xn, l1, l2, l3, l4, l5] st S Q = pm_V d 139 1 [.ref xn, l1, l2, l3, l4, l5] (.ref xn :: st) S Q := pv_aload_n (pm_cdi rfl dX7_reach_0) rfl
theorem q139_1 : pm_V d 139 1 [l0, .int xi, l2, l3, l4, l5] st S Q = pm_V d 139 2 [l0, .int xi, l2, l3, l4, l5] (.int xi :: st) S Q := pv_iload_n (pm_cdi rfl dX7_reach_1) rfl
theorem q139_2 (hs : pm_sh S an = .inr 7) : pm_V (d + 1) 139 2 [l0, l1, l2, l3, l4, l5] [.int v0i, .ref an] S Q = pm_N d 89 [.ref an, .int v0i] S (fun r S' => pm_V (d + 1) 139 5 [l0, l1, l2, l3, l4, l5] (r.toList ++ []) S' Q) := pv_callV (as := [.int v0i]) (pm_cdi rfl dX7_reach_2) (Or.inl (by decide +kernel)) (by decide +kernel) (show _ = _ from (by decide +kernel : 1 = pm_np 89)) rfl (Nat.le_of_ble_eq_true rfl) (cl := 7) (by decide +kernel) hs
theorem q139_5 : pm_V d 139 5 [l0, l1, l2, l3, l4, l5] (.int xi :: st) S Q = if xi = 0 then pm_V d 139 8 [l0, l1, l2, l3, l4, l5] st S Q else pm_V d 139 11 [l0, l1, l2, l3, l4, l5] st S Q := pv_if_ne (pm_cdi rfl dX7_reach_5) rfl
theorem q139_8 : pm_V d 139 8 [l0, l1, l2, l3, l4, l5] st S Q = pm_V d 139 10 [l0, l1, l2, l3, l4, l5] (.int (-1000001) :: st) S Q := pv_ldc (pm_cdi rfl dX7_reach_8) (by decide +kernel)
theorem q139_10 : pm_V d 139 10 [l0, l1, l2, l3, l4, l5] [.int xi] S Q = Q (some (.int xi)) S := pv_rI (pm_cdi rfl dX7_reach_10) (by decide +kernel)
theorem q139_11 : pm_V d 139 11 [.ref xn, l1, l2, l3, l4, l5] st S Q = pm_V d 139 12 [.ref xn, l1, l2, l3, l4, l5] (.ref xn :: st) S Q := pv_aload_n (pm_cdi rfl dX7_reach_11) rfl
theorem q139_12 (hs : pm_sh S an = .inr 7) : pm_V (d + 1) 139 12 [l0, l1, l2, l3, l4, l5] [.ref an] S Q = pm_N d 100 [.ref an] S (fun r S' => pm_V (d + 1) 139 15 [l0, l1, l2, l3, l4, l5] (r.toList ++ []) S' Q) := pv_callV (as := []) (pm_cdi rfl dX7_reach_12) (Or.inl (by decide +kernel)) (by decide +kernel) (show _ = _ from (by decide +kernel : 0 = pm_np 100)) rfl (Nat.le_of_ble_eq_true rfl) (cl := 7) (by decide +kernel) hs
theorem q139_15 : pm_V d 139 15 [.ref xn, l1, l2, l3, l4, l5] st S Q = pm_V d 139 16 [.ref xn, l1, l2, l3, l4, l5] (.ref xn :: st) S Q := pv_aload_n (pm_cdi rfl dX7_reach_15) rfl
theorem q139_16 (hs : pm_sh S an = .inr 7) : pm_V d 139 16 [l0, l1, l2, l3, l4, l5] (.ref an :: st) S Q = pm_V d 139 19 [l0, l1, l2, l3, l4, l5] (va_rf (pm_gr S an 7) :: st) S Q := pv_getA (pm_cdi rfl dX7_reach_16) (by decide +kernel) (by decide +kernel) (by decide +kernel) hs
theorem q139_19 : pm_V d 139 19 [l0, .int xi, l2, l3, l4, l5] st S Q = pm_V d 139 20 [l0, .int xi, l2, l3, l4, l5] (.int xi :: st) S Q := pv_iload_n (pm_cdi rfl dX7_reach_19) rfl
theorem q139_20 (hs : pm_ar S an 0 xi = true) : pm_V d 139 20 [l0, l1, l2, l3, l4, l5] (.int xi :: .ref an :: st) S Q = pm_V d 139 21 [l0, l1, l2, l3, l4, l5] (.int (pm_zi S an xi.toNatClampNeg) :: st) S Q := pv_iald (pm_cdi rfl dX7_reach_20) hs
theorem q139_21 : pm_V d 139 21 [l0, l1, l2, l3, l4, l5] (.int xi :: st) S Q = if xi = 0 then pm_V d 139 28 [l0, l1, l2, l3, l4, l5] st S Q else pm_V d 139 24 [l0, l1, l2, l3, l4, l5] st S Q := pv_if_eq (pm_cdi rfl dX7_reach_21) rfl
theorem q139_24 : pm_V d 139 24 [l0, l1, l2, l3, l4, l5] st S Q = pm_V d 139 27 [l0, l1, l2, l3, l4, l5] (.int (-1000003) :: st) S Q := pv_ldcw (pm_cdi rfl dX7_reach_24) (by decide +kernel)
theorem q139_27 : pm_V d 139 27 [l0, l1, l2, l3, l4, l5] [.int xi] S Q = Q (some (.int xi)) S := pv_rI (pm_cdi rfl dX7_reach_27) (by decide +kernel)
theorem q139_28 : pm_V d 139 28 [l0, l1, .int xi, l3, l4, l5] st S Q = pm_V d 139 29 [l0, l1, .int xi, l3, l4, l5] (.int xi :: st) S Q := pv_iload_n (pm_cdi rfl dX7_reach_28) rfl
theorem q139_29 : pm_V d 139 29 [l0, l1, l2, l3, l4, l5] st S Q = pm_V d 139 30 [l0, l1, l2, l3, l4, l5] (.int 0 :: st) S Q := pv_iconst (pm_cdi rfl dX7_reach_29) (by decide +kernel)
theorem q139_30 : pm_V d 139 30 [.ref xn, l1, l2, l3, l4, l5] st S Q = pm_V d 139 31 [.ref xn, l1, l2, l3, l4, l5] (.ref xn :: st) S Q := pv_aload_n (pm_cdi rfl dX7_reach_30) rfl
theorem q139_31 (hs : pm_sh S an = .inr 7) : pm_V d 139 31 [l0, l1, l2, l3, l4, l5] (.ref an :: st) S Q = pm_V d 139 34 [l0, l1, l2, l3, l4, l5] (va_rf (pm_gr S an 8) :: st) S Q := pv_getA (pm_cdi rfl dX7_reach_31) (by decide +kernel) (by decide +kernel) (by decide +kernel) hs
theorem q139_34 : pm_V d 139 34 [l0, .int xi, l2, l3, l4, l5] st S Q = pm_V d 139 35 [l0, .int xi, l2, l3, l4, l5] (.int xi :: st) S Q := pv_iload_n (pm_cdi rfl dX7_reach_34) rfl
theorem q139_35 (hs : pm_ar S an 0 xi = true) : pm_V d 139 35 [l0, l1, l2, l3, l4, l5] (.int xi :: .ref an :: st) S Q = pm_V d 139 36 [l0, l1, l2, l3, l4, l5] (.int (pm_zi S an xi.toNatClampNeg) :: st) S Q := pv_iald (pm_cdi rfl dX7_reach_35) hs
theorem q139_36 : pm_V d 139 36 [l0, l1, l2, l3, l4, l5] st S Q = pm_V d 139 37 [l0, l1, l2, l3, l4, l5] (.int 1 :: st) S Q := pv_iconst (pm_cdi rfl dX7_reach_36) (by decide +kernel)
theorem q139_37 : pm_V d 139 37 [l0, l1, l2, l3, l4, l5] (.int yi :: .int xi :: st) S Q = pm_V d 139 38 [l0, l1, l2, l3, l4, l5] (.int (xi - yi) :: st) S Q := pv_isub (pm_cdi rfl dX7_reach_37)
theorem q139_38 : pm_V (d + 1) 139 38 [l0, l1, l2, l3, l4, l5] [.int v2i, .int v1i, .int v0i] S Q = pm_N d 88 [.int v0i, .int v1i, .int v2i] S (fun r S' => pm_V (d + 1) 139 41 [l0, l1, l2, l3, l4, l5] (r.toList ++ []) S' Q) := pv_callS (as := [.int v0i, .int v1i, .int v2i]) (pm_cdi rfl dX7_reach_38) (by decide +kernel) (by decide +kernel) (show _ = _ from (by decide +kernel : 3 = pm_np 88)) rfl (Nat.le_of_ble_eq_true rfl)
theorem q139_41 : pm_V d 139 41 [l0, l1, l2, l3, l4, l5] (.int xi :: st) S Q = if xi = 0 then pm_V d 139 44 [l0, l1, l2, l3, l4, l5] st S Q else pm_V d 139 47 [l0, l1, l2, l3, l4, l5] st S Q := pv_if_ne (pm_cdi rfl dX7_reach_41) rfl
theorem q139_44 : pm_V d 139 44 [l0, l1, l2, l3, l4, l5] st S Q = pm_V d 139 46 [l0, l1, l2, l3, l4, l5] (.int (-1000001) :: st) S Q := pv_ldc (pm_cdi rfl dX7_reach_44) (by decide +kernel)
theorem q139_46 : pm_V d 139 46 [l0, l1, l2, l3, l4, l5] [.int xi] S Q = Q (some (.int xi)) S := pv_rI (pm_cdi rfl dX7_reach_46) (by decide +kernel)
theorem q139_47 : pm_V d 139 47 [l0, l1, l2, l3, l4, l5] st S Q = pm_V d 139 48 [l0, l1, l2, l3, l4, l5] (.int 0 :: st) S Q := pv_iconst (pm_cdi rfl dX7_reach_47) (by decide +kernel)
theorem q139_48 : pm_V d 139 48 [l0, l1, .int yi, l3, l4, l5] (.int xi :: st) S Q = pm_V d 139 49 [l0, l1, .int yi, .int xi, l4, l5] st S Q := pv_istore_n (pm_cdi rfl dX7_reach_48) rfl
theorem q139_49 : pm_V d 139 49 [l0, l1, l2, .int xi, l4, l5] st S Q = pm_V d 139 50 [l0, l1, l2, .int xi, l4, l5] (.int xi :: st) S Q := pv_iload_n (pm_cdi rfl dX7_reach_49) rfl
theorem q139_50 : pm_V d 139 50 [.ref xn, l1, l2, l3, l4, l5] st S Q = pm_V d 139 51 [.ref xn, l1, l2, l3, l4, l5] (.ref xn :: st) S Q := pv_aload_n (pm_cdi rfl dX7_reach_50) rfl
theorem q139_51 (hs : pm_sh S an = .inr 7) : pm_V d 139 51 [l0, l1, l2, l3, l4, l5] (.ref an :: st) S Q = pm_V d 139 54 [l0, l1, l2, l3, l4, l5] (va_rf (pm_gr S an 8) :: st) S Q := pv_getA (pm_cdi rfl dX7_reach_51) (by decide +kernel) (by decide +kernel) (by decide +kernel) hs
theorem q139_54 : pm_V d 139 54 [l0, .int xi, l2, l3, l4, l5] st S Q = pm_V d 139 55 [l0, .int xi, l2, l3, l4, l5] (.int xi :: st) S Q := pv_iload_n (pm_cdi rfl dX7_reach_54) rfl
theorem q139_55 (hs : pm_ar S an 0 xi = true) : pm_V d 139 55 [l0, l1, l2, l3, l4, l5] (.int xi :: .ref an :: st) S Q = pm_V d 139 56 [l0, l1, l2, l3, l4, l5] (.int (pm_zi S an xi.toNatClampNeg) :: st) S Q := pv_iald (pm_cdi rfl dX7_reach_55) hs
theorem q139_56 : pm_V d 139 56 [l0, l1, l2, l3, l4, l5] (.int yi :: .int xi :: st) S Q = if xi < yi then pm_V d 139 59 [l0, l1, l2, l3, l4, l5] st S Q else pm_V d 139 81 [l0, l1, l2, l3, l4, l5] st S Q := pv_icmp_ge (pm_cdi rfl dX7_reach_56) rfl
theorem q139_59 : pm_V d 139 59 [.ref xn, l1, l2, l3, l4, l5] st S Q = pm_V d 139 60 [.ref xn, l1, l2, l3, l4, l5] (.ref xn :: st) S Q := pv_aload_n (pm_cdi rfl dX7_reach_59) rfl
theorem q139_60 (hs : pm_sh S an = .inr 7) : pm_V d 139 60 [l0, l1, l2, l3, l4, l5] (.ref an :: st) S Q = pm_V d 139 63 [l0, l1, l2, l3, l4, l5] (va_rf (pm_gr S an 41) :: st) S Q := pv_getA (pm_cdi rfl dX7_reach_60) (by decide +kernel) (by decide +kernel) (by decide +kernel) hs
theorem q139_63 : pm_V d 139 63 [l0, l1, l2, .int xi, l4, l5] st S Q = pm_V d 139 64 [l0, l1, l2, .int xi, l4, l5] (.int xi :: st) S Q := pv_iload_n (pm_cdi rfl dX7_reach_63) rfl
theorem q139_64 : pm_V d 139 64 [l0, l1, l2, .int xi, l4, l5] st S Q = pm_V d 139 65 [l0, l1, l2, .int xi, l4, l5] (.int xi :: st) S Q := pv_iload_n (pm_cdi rfl dX7_reach_64) rfl
theorem q139_65 : pm_V d 139 65 [l0, l1, .int xi, l3, l4, l5] st S Q = pm_V d 139 66 [l0, l1, .int xi, l3, l4, l5] (.int xi :: st) S Q := pv_iload_n (pm_cdi rfl dX7_reach_65) rfl
theorem q139_66 : pm_V d 139 66 [l0, l1, l2, l3, l4, l5] (.int yi :: .int xi :: st) S Q = if xi = yi then pm_V d 139 69 [l0, l1, l2, l3, l4, l5] st S Q else pm_V d 139 73 [l0, l1, l2, l3, l4, l5] st S Q := pv_icmp_ne (pm_cdi rfl dX7_reach_66) rfl
theorem q139_69 : pm_V d 139 69 [l0, l1, l2, l3, l4, l5] st S Q = pm_V d 139 70 [l0, l1, l2, l3, l4, l5] (.int 1 :: st) S Q := pv_iconst (pm_cdi rfl dX7_reach_69) (by decide +kernel)
theorem q139_70 : pm_V d 139 70 [l0, l1, l2, l3, l4, l5] st S Q = pm_V d 139 74 [l0, l1, l2, l3, l4, l5] st S Q := pv_goto (pm_cdi rfl dX7_reach_70) rfl
theorem q139_73 : pm_V d 139 73 [l0, l1, l2, l3, l4, l5] st S Q = pm_V d 139 74 [l0, l1, l2, l3, l4, l5] (.int 0 :: st) S Q := pv_iconst (pm_cdi rfl dX7_reach_73) (by decide +kernel)
theorem q139_74 (hs : pm_ar S an 2 xi = true) (hv : vi = 0 ∨ vi = 1) : pm_V d 139 74 [l0, l1, l2, l3, l4, l5] (.int vi :: .int xi :: .ref an :: st) S Q = pm_V d 139 75 [l0, l1, l2, l3, l4, l5] st (pm_szi S an xi.toNatClampNeg vi) Q := pv_bast (pm_cdi rfl dX7_reach_74) hs hv
theorem q139_75 : pm_V d 139 75 [l0, l1, .int yi, .int xi, l4, l5] st S Q = pm_V d 139 78 [l0, l1, .int yi, .int (xi + 1), l4, l5] st S Q := pv_iinc (pm_cdi rfl dX7_reach_75) rfl (by decide +kernel) rfl
theorem q139_78 : pm_V d 139 78 [l0, l1, l2, l3, l4, l5] st S Q = pm_V d 139 49 [l0, l1, l2, l3, l4, l5] st S Q := pv_goto (pm_cdi rfl dX7_reach_78) rfl
theorem q139_81 : pm_V d 139 81 [l0, l1, l2, l3, l4, l5] st S Q = pm_V d 139 82 [l0, l1, l2, l3, l4, l5] (.int 1 :: st) S Q := pv_iconst (pm_cdi rfl dX7_reach_81) (by decide +kernel)
theorem q139_82 : pm_V d 139 82 [l0, l1, .int yi, l3, l4, l5] (.int xi :: st) S Q = pm_V d 139 83 [l0, l1, .int yi, .int xi, l4, l5] st S Q := pv_istore_n (pm_cdi rfl dX7_reach_82) rfl
theorem q139_83 : pm_V d 139 83 [l0, l1, l2, l3, l4, l5] st S Q = pm_V d 139 84 [l0, l1, l2, l3, l4, l5] (.int 1 :: st) S Q := pv_iconst (pm_cdi rfl dX7_reach_83) (by decide +kernel)
theorem q139_84 : pm_V d 139 84 [l0, l1, l2, .int yi, l4, l5] (.int xi :: st) S Q = pm_V d 139 86 [l0, l1, l2, .int yi, .int xi, l5] st S Q := pv_istore (pm_cdi rfl dX7_reach_84) rfl
theorem q139_86 : pm_V d 139 86 [l0, l1, l2, l3, .int xi, l5] st S Q = pm_V d 139 88 [l0, l1, l2, l3, .int xi, l5] (.int xi :: st) S Q := pv_iload (pm_cdi rfl dX7_reach_86) rfl
theorem q139_88 : pm_V d 139 88 [l0, l1, l2, l3, l4, l5] (.int xi :: st) S Q = if xi = 0 then pm_V d 139 166 [l0, l1, l2, l3, l4, l5] st S Q else pm_V d 139 91 [l0, l1, l2, l3, l4, l5] st S Q := pv_if_eq (pm_cdi rfl dX7_reach_88) rfl
theorem q139_91 : pm_V d 139 91 [l0, l1, l2, l3, l4, l5] st S Q = pm_V d 139 92 [l0, l1, l2, l3, l4, l5] (.int 0 :: st) S Q := pv_iconst (pm_cdi rfl dX7_reach_91) (by decide +kernel)
theorem q139_92 : pm_V d 139 92 [l0, l1, l2, .int yi, l4, l5] (.int xi :: st) S Q = pm_V d 139 94 [l0, l1, l2, .int yi, .int xi, l5] st S Q := pv_istore (pm_cdi rfl dX7_reach_92) rfl
theorem q139_94 : pm_V d 139 94 [l0, l1, l2, l3, l4, l5] st S Q = pm_V d 139 95 [l0, l1, l2, l3, l4, l5] (.int 0 :: st) S Q := pv_iconst (pm_cdi rfl dX7_reach_94) (by decide +kernel)
theorem q139_95 : pm_V d 139 95 [l0, l1, l2, l3, .int yi, l5] (.int xi :: st) S Q = pm_V d 139 97 [l0, l1, l2, l3, .int yi, .int xi] st S Q := pv_istore (pm_cdi rfl dX7_reach_95) rfl
theorem q139_97 : pm_V d 139 97 [l0, l1, l2, l3, l4, .int xi] st S Q = pm_V d 139 99 [l0, l1, l2, l3, l4, .int xi] (.int xi :: st) S Q := pv_iload (pm_cdi rfl dX7_reach_97) rfl
theorem q139_99 : pm_V d 139 99 [.ref xn, l1, l2, l3, l4, l5] st S Q = pm_V d 139 100 [.ref xn, l1, l2, l3, l4, l5] (.ref xn :: st) S Q := pv_aload_n (pm_cdi rfl dX7_reach_99) rfl
theorem q139_100 (hs : pm_sh S an = .inr 7) : pm_V d 139 100 [l0, l1, l2, l3, l4, l5] (.ref an :: st) S Q = pm_V d 139 103 [l0, l1, l2, l3, l4, l5] (va_rf (pm_gr S an 9) :: st) S Q := pv_getA (pm_cdi rfl dX7_reach_100) (by decide +kernel) (by decide +kernel) (by decide +kernel) hs
theorem q139_103 : pm_V d 139 103 [l0, .int xi, l2, l3, l4, l5] st S Q = pm_V d 139 104 [l0, .int xi, l2, l3, l4, l5] (.int xi :: st) S Q := pv_iload_n (pm_cdi rfl dX7_reach_103) rfl
theorem q139_104 (hs : pm_ar S an 0 xi = true) : pm_V d 139 104 [l0, l1, l2, l3, l4, l5] (.int xi :: .ref an :: st) S Q = pm_V d 139 105 [l0, l1, l2, l3, l4, l5] (.int (pm_zi S an xi.toNatClampNeg) :: st) S Q := pv_iald (pm_cdi rfl dX7_reach_104) hs
theorem q139_105 : pm_V d 139 105 [l0, l1, l2, l3, l4, l5] (.int yi :: .int xi :: st) S Q = if xi < yi then pm_V d 139 108 [l0, l1, l2, l3, l4, l5] st S Q else pm_V d 139 163 [l0, l1, l2, l3, l4, l5] st S Q := pv_icmp_ge (pm_cdi rfl dX7_reach_105) rfl
theorem q139_108 : pm_V d 139 108 [.ref xn, l1, l2, l3, l4, l5] st S Q = pm_V d 139 109 [.ref xn, l1, l2, l3, l4, l5] (.ref xn :: st) S Q := pv_aload_n (pm_cdi rfl dX7_reach_108) rfl
theorem q139_109 (hs : pm_sh S an = .inr 7) : pm_V d 139 109 [l0, l1, l2, l3, l4, l5] (.ref an :: st) S Q = pm_V d 139 112 [l0, l1, l2, l3, l4, l5] (va_rf (pm_gr S an 41) :: st) S Q := pv_getA (pm_cdi rfl dX7_reach_109) (by decide +kernel) (by decide +kernel) (by decide +kernel) hs
theorem q139_112 : pm_V d 139 112 [.ref xn, l1, l2, l3, l4, l5] st S Q = pm_V d 139 113 [.ref xn, l1, l2, l3, l4, l5] (.ref xn :: st) S Q := pv_aload_n (pm_cdi rfl dX7_reach_112) rfl
theorem q139_113 : pm_V d 139 113 [l0, .int xi, l2, l3, l4, l5] st S Q = pm_V d 139 114 [l0, .int xi, l2, l3, l4, l5] (.int xi :: st) S Q := pv_iload_n (pm_cdi rfl dX7_reach_113) rfl
theorem q139_114 : pm_V d 139 114 [l0, l1, l2, l3, l4, .int xi] st S Q = pm_V d 139 116 [l0, l1, l2, l3, l4, .int xi] (.int xi :: st) S Q := pv_iload (pm_cdi rfl dX7_reach_114) rfl
theorem q139_116 (hs : pm_sh S an = .inr 7) : pm_V (d + 1) 139 116 [l0, l1, l2, l3, l4, l5] [.int v1i, .int v0i, .ref an, .ref r0n] S Q = pm_N d 105 [.ref an, .int v0i, .int v1i] S (fun r S' => pm_V (d + 1) 139 119 [l0, l1, l2, l3, l4, l5] (r.toList ++ [.ref r0n]) S' Q) := pv_callV (as := [.int v0i, .int v1i]) (pm_cdi rfl dX7_reach_116) (Or.inl (by decide +kernel)) (by decide +kernel) (show _ = _ from (by decide +kernel : 2 = pm_np 105)) rfl (Nat.le_of_ble_eq_true rfl) (cl := 7) (by decide +kernel) hs
theorem q139_119 (hs : pm_ar S an 2 xi = true) : pm_V d 139 119 [l0, l1, l2, l3, l4, l5] (.int xi :: .ref an :: st) S Q = pm_V d 139 120 [l0, l1, l2, l3, l4, l5] (.int (pm_zi S an xi.toNatClampNeg) :: st) S Q := pv_bald (pm_cdi rfl dX7_reach_119) hs
theorem q139_120 : pm_V d 139 120 [l0, l1, l2, l3, l4, l5] (.int xi :: st) S Q = if xi = 0 then pm_V d 139 157 [l0, l1, l2, l3, l4, l5] st S Q else pm_V d 139 123 [l0, l1, l2, l3, l4, l5] st S Q := pv_if_eq (pm_cdi rfl dX7_reach_120) rfl
theorem q139_123 : pm_V d 139 123 [.ref xn, l1, l2, l3, l4, l5] st S Q = pm_V d 139 124 [.ref xn, l1, l2, l3, l4, l5] (.ref xn :: st) S Q := pv_aload_n (pm_cdi rfl dX7_reach_123) rfl
theorem q139_124 (hs : pm_sh S an = .inr 7) : pm_V d 139 124 [l0, l1, l2, l3, l4, l5] (.ref an :: st) S Q = pm_V d 139 127 [l0, l1, l2, l3, l4, l5] (va_rf (pm_gr S an 41) :: st) S Q := pv_getA (pm_cdi rfl dX7_reach_124) (by decide +kernel) (by decide +kernel) (by decide +kernel) hs
theorem q139_127 : pm_V d 139 127 [.ref xn, l1, l2, l3, l4, l5] st S Q = pm_V d 139 128 [.ref xn, l1, l2, l3, l4, l5] (.ref xn :: st) S Q := pv_aload_n (pm_cdi rfl dX7_reach_127) rfl
theorem q139_128 : pm_V d 139 128 [l0, .int xi, l2, l3, l4, l5] st S Q = pm_V d 139 129 [l0, .int xi, l2, l3, l4, l5] (.int xi :: st) S Q := pv_iload_n (pm_cdi rfl dX7_reach_128) rfl
theorem q139_129 : pm_V d 139 129 [l0, l1, l2, l3, l4, .int xi] st S Q = pm_V d 139 131 [l0, l1, l2, l3, l4, .int xi] (.int xi :: st) S Q := pv_iload (pm_cdi rfl dX7_reach_129) rfl
theorem q139_131 (hs : pm_sh S an = .inr 7) : pm_V (d + 1) 139 131 [l0, l1, l2, l3, l4, l5] [.int v1i, .int v0i, .ref an, .ref r0n] S Q = pm_N d 106 [.ref an, .int v0i, .int v1i] S (fun r S' => pm_V (d + 1) 139 134 [l0, l1, l2, l3, l4, l5] (r.toList ++ [.ref r0n]) S' Q) := pv_callV (as := [.int v0i, .int v1i]) (pm_cdi rfl dX7_reach_131) (Or.inl (by decide +kernel)) (by decide +kernel) (show _ = _ from (by decide +kernel : 2 = pm_np 106)) rfl (Nat.le_of_ble_eq_true rfl) (cl := 7) (by decide +kernel) hs
theorem q139_134 (hs : pm_ar S an 2 xi = true) : pm_V d 139 134 [l0, l1, l2, l3, l4, l5] (.int xi :: .ref an :: st) S Q = pm_V d 139 135 [l0, l1, l2, l3, l4, l5] (.int (pm_zi S an xi.toNatClampNeg) :: st) S Q := pv_bald (pm_cdi rfl dX7_reach_134) hs
theorem q139_135 : pm_V d 139 135 [l0, l1, l2, l3, l4, l5] (.int xi :: st) S Q = if xi = 0 then pm_V d 139 138 [l0, l1, l2, l3, l4, l5] st S Q else pm_V d 139 157 [l0, l1, l2, l3, l4, l5] st S Q := pv_if_ne (pm_cdi rfl dX7_reach_135) rfl
theorem q139_138 : pm_V d 139 138 [.ref xn, l1, l2, l3, l4, l5] st S Q = pm_V d 139 139 [.ref xn, l1, l2, l3, l4, l5] (.ref xn :: st) S Q := pv_aload_n (pm_cdi rfl dX7_reach_138) rfl
theorem q139_139 (hs : pm_sh S an = .inr 7) : pm_V d 139 139 [l0, l1, l2, l3, l4, l5] (.ref an :: st) S Q = pm_V d 139 142 [l0, l1, l2, l3, l4, l5] (va_rf (pm_gr S an 41) :: st) S Q := pv_getA (pm_cdi rfl dX7_reach_139) (by decide +kernel) (by decide +kernel) (by decide +kernel) hs
theorem q139_142 : pm_V d 139 142 [.ref xn, l1, l2, l3, l4, l5] st S Q = pm_V d 139 143 [.ref xn, l1, l2, l3, l4, l5] (.ref xn :: st) S Q := pv_aload_n (pm_cdi rfl dX7_reach_142) rfl
theorem q139_143 : pm_V d 139 143 [l0, .int xi, l2, l3, l4, l5] st S Q = pm_V d 139 144 [l0, .int xi, l2, l3, l4, l5] (.int xi :: st) S Q := pv_iload_n (pm_cdi rfl dX7_reach_143) rfl
theorem q139_144 : pm_V d 139 144 [l0, l1, l2, l3, l4, .int xi] st S Q = pm_V d 139 146 [l0, l1, l2, l3, l4, .int xi] (.int xi :: st) S Q := pv_iload (pm_cdi rfl dX7_reach_144) rfl
theorem q139_146 (hs : pm_sh S an = .inr 7) : pm_V (d + 1) 139 146 [l0, l1, l2, l3, l4, l5] [.int v1i, .int v0i, .ref an, .ref r0n] S Q = pm_N d 106 [.ref an, .int v0i, .int v1i] S (fun r S' => pm_V (d + 1) 139 149 [l0, l1, l2, l3, l4, l5] (r.toList ++ [.ref r0n]) S' Q) := pv_callV (as := [.int v0i, .int v1i]) (pm_cdi rfl dX7_reach_146) (Or.inl (by decide +kernel)) (by decide +kernel) (show _ = _ from (by decide +kernel : 2 = pm_np 106)) rfl (Nat.le_of_ble_eq_true rfl) (cl := 7) (by decide +kernel) hs
theorem q139_149 : pm_V d 139 149 [l0, l1, l2, l3, l4, l5] st S Q = pm_V d 139 150 [l0, l1, l2, l3, l4, l5] (.int 1 :: st) S Q := pv_iconst (pm_cdi rfl dX7_reach_149) (by decide +kernel)
theorem q139_150 (hs : pm_ar S an 2 xi = true) (hv : vi = 0 ∨ vi = 1) : pm_V d 139 150 [l0, l1, l2, l3, l4, l5] (.int vi :: .int xi :: .ref an :: st) S Q = pm_V d 139 151 [l0, l1, l2, l3, l4, l5] st (pm_szi S an xi.toNatClampNeg vi) Q := pv_bast (pm_cdi rfl dX7_reach_150) hs hv
theorem q139_151 : pm_V d 139 151 [l0, l1, .int yi, .int xi, l4, l5] st S Q = pm_V d 139 154 [l0, l1, .int yi, .int (xi + 1), l4, l5] st S Q := pv_iinc (pm_cdi rfl dX7_reach_151) rfl (by decide +kernel) rfl
theorem q139_154 : pm_V d 139 154 [l0, l1, l2, l3, l4, l5] st S Q = pm_V d 139 155 [l0, l1, l2, l3, l4, l5] (.int 1 :: st) S Q := pv_iconst (pm_cdi rfl dX7_reach_154) (by decide +kernel)
theorem q139_155 : pm_V d 139 155 [l0, l1, l2, .int yi, l4, l5] (.int xi :: st) S Q = pm_V d 139 157 [l0, l1, l2, .int yi, .int xi, l5] st S Q := pv_istore (pm_cdi rfl dX7_reach_155) rfl
theorem q139_157 : pm_V d 139 157 [l0, l1, l2, l3, .int yi, .int xi] st S Q = pm_V d 139 160 [l0, l1, l2, l3, .int yi, .int (xi + 1)] st S Q := pv_iinc (pm_cdi rfl dX7_reach_157) rfl (by decide +kernel) rfl
theorem q139_160 : pm_V d 139 160 [l0, l1, l2, l3, l4, l5] st S Q = pm_V d 139 97 [l0, l1, l2, l3, l4, l5] st S Q := pv_goto (pm_cdi rfl dX7_reach_160) rfl
theorem q139_163 : pm_V d 139 163 [l0, l1, l2, l3, l4, l5] st S Q = pm_V d 139 86 [l0, l1, l2, l3, l4, l5] st S Q := pv_goto (pm_cdi rfl dX7_reach_163) rfl
theorem q139_166 : pm_V d 139 166 [l0, l1, l2, .int xi, l4, l5] st S Q = pm_V d 139 167 [l0, l1, l2, .int xi, l4, l5] (.int xi :: st) S Q := pv_iload_n (pm_cdi rfl dX7_reach_166) rfl
theorem q139_167 : pm_V d 139 167 [l0, l1, l2, l3, l4, l5] [.int xi] S Q = Q (some (.int xi)) S := pv_rI (pm_cdi rfl dX7_reach_167) (by decide +kernel)
theorem q139_e : pm_N d 139 [.ref an, .int v0i, .int v1i] S Q = pm_V d 139 0 [.ref an, .int v0i, .int v1i, pm_j, pm_j, pm_j] [] S Q := pv_ent (Nat.le_of_ble_eq_true rfl) rfl
/-! 140: ViewsJoinsModel.ask(IIII)I -/
theorem dX7_ask_0 : decode cX7_ask 0 = .ok (.aload_n 0, 1) := by decide +kernel
theorem dX7_ask_1 : decode cX7_ask 1 = .ok (.iload_n 1, 1) := by decide +kernel
theorem dX7_ask_2 : decode cX7_ask 2 = .ok (.invokevirtual 123, 3) := by decide +kernel
theorem dX7_ask_5 : decode cX7_ask 5 = .ok (.ifCond .eq 21, 3) := by decide +kernel
theorem dX7_ask_8 : decode cX7_ask 8 = .ok (.iload_n 2, 1) := by decide +kernel
theorem dX7_ask_9 : decode cX7_ask 9 = .ok (.iconst 0, 1) := by decide +kernel
theorem dX7_ask_10 : decode cX7_ask 10 = .ok (.iconst 1, 1) := by decide +kernel
theorem dX7_ask_11 : decode cX7_ask 11 = .ok (.invokestatic 119, 3) := by decide +kernel
theorem dX7_ask_14 : decode cX7_ask 14 = .ok (.ifCond .eq 12, 3) := by decide +kernel
theorem dX7_ask_17 : decode cX7_ask 17 = .ok (.aload_n 0, 1) := by decide +kernel
theorem dX7_ask_18 : decode cX7_ask 18 = .ok (.iload 4, 2) := by decide +kernel
theorem dX7_ask_20 : decode cX7_ask 20 = .ok (.invokevirtual 144, 3) := by decide +kernel
theorem dX7_ask_23 : decode cX7_ask 23 = .ok (.ifCond .ne 6, 3) := by decide +kernel
theorem dX7_ask_26 : decode cX7_ask 26 = .ok (.ldc 130, 2) := by decide +kernel
theorem dX7_ask_28 : decode cX7_ask 28 = .ok (.ireturn, 1) := by decide +kernel
theorem dX7_ask_29 : decode cX7_ask 29 = .ok (.aload_n 0, 1) := by decide +kernel
theorem dX7_ask_30 : decode cX7_ask 30 = .ok (.invokevirtual 264, 3) := by decide +kernel
theorem dX7_ask_33 : decode cX7_ask 33 = .ok (.aload_n 0, 1) := by decide +kernel
theorem dX7_ask_34 : decode cX7_ask 34 = .ok (.getfield 29, 3) := by decide +kernel
theorem dX7_ask_37 : decode cX7_ask 37 = .ok (.iload_n 1, 1) := by decide +kernel
theorem dX7_ask_38 : decode cX7_ask 38 = .ok (.iaload, 1) := by decide +kernel
theorem dX7_ask_39 : decode cX7_ask 39 = .ok (.ifCond .eq 7, 3) := by decide +kernel
theorem dX7_ask_42 : decode cX7_ask 42 = .ok (.ldc_w 267, 3) := by decide +kernel
theorem dX7_ask_45 : decode cX7_ask 45 = .ok (.ireturn, 1) := by decide +kernel
theorem dX7_ask_46 : decode cX7_ask 46 = .ok (.iload_n 3, 1) := by decide +kernel
theorem dX7_ask_47 : decode cX7_ask 47 = .ok (.iconst 0, 1) := by decide +kernel
theorem dX7_ask_48 : decode cX7_ask 48 = .ok (.aload_n 0, 1) := by decide +kernel
theorem dX7_ask_49 : decode cX7_ask 49 = .ok (.iload_n 1, 1) := by decide +kernel
theorem dX7_ask_50 : decode cX7_ask 50 = .ok (.iload_n 2, 1) := by decide +kernel
theorem dX7_ask_51 : decode cX7_ask 51 = .ok (.invokevirtual 272, 3) := by decide +kernel
theorem dX7_ask_54 : decode cX7_ask 54 = .ok (.iconst 1, 1) := by decide +kernel
theorem dX7_ask_55 : decode cX7_ask 55 = .ok (.isub, 1) := by decide +kernel
theorem dX7_ask_56 : decode cX7_ask 56 = .ok (.invokestatic 119, 3) := by decide +kernel
theorem dX7_ask_59 : decode cX7_ask 59 = .ok (.ifCond .ne 6, 3) := by decide +kernel
theorem dX7_ask_62 : decode cX7_ask 62 = .ok (.ldc 130, 2) := by decide +kernel
theorem dX7_ask_64 : decode cX7_ask 64 = .ok (.ireturn, 1) := by decide +kernel
theorem dX7_ask_65 : decode cX7_ask 65 = .ok (.aload_n 0, 1) := by decide +kernel
theorem dX7_ask_66 : decode cX7_ask 66 = .ok (.iconst 0, 1) := by decide +kernel
theorem dX7_ask_67 : decode cX7_ask 67 = .ok (.putfield 192, 3) := by decide +kernel
theorem dX7_ask_70 : decode cX7_ask 70 = .ok (.aload_n 0, 1) := by decide +kernel
theorem dX7_ask_71 : decode cX7_ask 71 = .ok (.iconst 0, 1) := by decide +kernel
theorem dX7_ask_72 : decode cX7_ask 72 = .ok (.putfield 195, 3) := by decide +kernel
theorem dX7_ask_75 : decode cX7_ask 75 = .ok (.aload_n 0, 1) := by decide +kernel
theorem dX7_ask_76 : decode cX7_ask 76 = .ok (.iload_n 1, 1) := by decide +kernel
theorem dX7_ask_77 : decode cX7_ask 77 = .ok (.iload_n 2, 1) := by decide +kernel
theorem dX7_ask_78 : decode cX7_ask 78 = .ok (.iload_n 3, 1) := by decide +kernel
theorem dX7_ask_79 : decode cX7_ask 79 = .ok (.iload 4, 2) := by decide +kernel
theorem dX7_ask_81 : decode cX7_ask 81 = .ok (.invokevirtual 188, 3) := by decide +kernel
theorem dX7_ask_84 : decode cX7_ask 84 = .ok (.istore 5, 2) := by decide +kernel
theorem dX7_ask_86 : decode cX7_ask 86 = .ok (.iload 5, 2) := by decide +kernel
theorem dX7_ask_88 : decode cX7_ask 88 = .ok (.bipush 10, 2) := by decide +kernel
theorem dX7_ask_90 : decode cX7_ask 90 = .ok (.if_icmp .ge 8, 3) := by decide +kernel
theorem dX7_ask_93 : decode cX7_ask 93 = .ok (.iload 5, 2) := by decide +kernel
theorem dX7_ask_95 : decode cX7_ask 95 = .ok (.goto 6, 3) := by decide +kernel
theorem dX7_ask_98 : decode cX7_ask 98 = .ok (.iload 5, 2) := by decide +kernel
theorem dX7_ask_100 : decode cX7_ask 100 = .ok (.ineg, 1) := by decide +kernel
theorem dX7_ask_101 : decode cX7_ask 101 = .ok (.ireturn, 1) := by decide +kernel
theorem q140_0 : pm_V d 140 0 [.ref xn, l1, l2, l3, l4, l5] st S Q = pm_V d 140 1 [.ref xn, l1, l2, l3, l4, l5] (.ref xn :: st) S Q := pv_aload_n (pm_cdi rfl dX7_ask_0) rfl
theorem q140_1 : pm_V d 140 1 [l0, .int xi, l2, l3, l4, l5] st S Q = pm_V d 140 2 [l0, .int xi, l2, l3, l4, l5] (.int xi :: st) S Q := pv_iload_n (pm_cdi rfl dX7_ask_1) rfl
theorem q140_2 (hs : pm_sh S an = .inr 7) : pm_V (d + 1) 140 2 [l0, l1, l2, l3, l4, l5] [.int v0i, .ref an] S Q = pm_N d 89 [.ref an, .int v0i] S (fun r S' => pm_V (d + 1) 140 5 [l0, l1, l2, l3, l4, l5] (r.toList ++ []) S' Q) := pv_callV (as := [.int v0i]) (pm_cdi rfl dX7_ask_2) (Or.inl (by decide +kernel)) (by decide +kernel) (show _ = _ from (by decide +kernel : 1 = pm_np 89)) rfl (Nat.le_of_ble_eq_true rfl) (cl := 7) (by decide +kernel) hs
theorem q140_5 : pm_V d 140 5 [l0, l1, l2, l3, l4, l5] (.int xi :: st) S Q = if xi = 0 then pm_V d 140 26 [l0, l1, l2, l3, l4, l5] st S Q else pm_V d 140 8 [l0, l1, l2, l3, l4, l5] st S Q := pv_if_eq (pm_cdi rfl dX7_ask_5) rfl
theorem q140_8 : pm_V d 140 8 [l0, l1, .int xi, l3, l4, l5] st S Q = pm_V d 140 9 [l0, l1, .int xi, l3, l4, l5] (.int xi :: st) S Q := pv_iload_n (pm_cdi rfl dX7_ask_8) rfl
theorem q140_9 : pm_V d 140 9 [l0, l1, l2, l3, l4, l5] st S Q = pm_V d 140 10 [l0, l1, l2, l3, l4, l5] (.int 0 :: st) S Q := pv_iconst (pm_cdi rfl dX7_ask_9) (by decide +kernel)
theorem q140_10 : pm_V d 140 10 [l0, l1, l2, l3, l4, l5] st S Q = pm_V d 140 11 [l0, l1, l2, l3, l4, l5] (.int 1 :: st) S Q := pv_iconst (pm_cdi rfl dX7_ask_10) (by decide +kernel)
theorem q140_11 : pm_V (d + 1) 140 11 [l0, l1, l2, l3, l4, l5] [.int v2i, .int v1i, .int v0i] S Q = pm_N d 88 [.int v0i, .int v1i, .int v2i] S (fun r S' => pm_V (d + 1) 140 14 [l0, l1, l2, l3, l4, l5] (r.toList ++ []) S' Q) := pv_callS (as := [.int v0i, .int v1i, .int v2i]) (pm_cdi rfl dX7_ask_11) (by decide +kernel) (by decide +kernel) (show _ = _ from (by decide +kernel : 3 = pm_np 88)) rfl (Nat.le_of_ble_eq_true rfl)
theorem q140_14 : pm_V d 140 14 [l0, l1, l2, l3, l4, l5] (.int xi :: st) S Q = if xi = 0 then pm_V d 140 26 [l0, l1, l2, l3, l4, l5] st S Q else pm_V d 140 17 [l0, l1, l2, l3, l4, l5] st S Q := pv_if_eq (pm_cdi rfl dX7_ask_14) rfl
theorem q140_17 : pm_V d 140 17 [.ref xn, l1, l2, l3, l4, l5] st S Q = pm_V d 140 18 [.ref xn, l1, l2, l3, l4, l5] (.ref xn :: st) S Q := pv_aload_n (pm_cdi rfl dX7_ask_17) rfl
theorem q140_18 : pm_V d 140 18 [l0, l1, l2, l3, .int xi, l5] st S Q = pm_V d 140 20 [l0, l1, l2, l3, .int xi, l5] (.int xi :: st) S Q := pv_iload (pm_cdi rfl dX7_ask_18) rfl
theorem q140_20 (hs : pm_sh S an = .inr 7) : pm_V (d + 1) 140 20 [l0, l1, l2, l3, l4, l5] [.int v0i, .ref an] S Q = pm_N d 92 [.ref an, .int v0i] S (fun r S' => pm_V (d + 1) 140 23 [l0, l1, l2, l3, l4, l5] (r.toList ++ []) S' Q) := pv_callV (as := [.int v0i]) (pm_cdi rfl dX7_ask_20) (Or.inl (by decide +kernel)) (by decide +kernel) (show _ = _ from (by decide +kernel : 1 = pm_np 92)) rfl (Nat.le_of_ble_eq_true rfl) (cl := 7) (by decide +kernel) hs
theorem q140_23 : pm_V d 140 23 [l0, l1, l2, l3, l4, l5] (.int xi :: st) S Q = if xi = 0 then pm_V d 140 26 [l0, l1, l2, l3, l4, l5] st S Q else pm_V d 140 29 [l0, l1, l2, l3, l4, l5] st S Q := pv_if_ne (pm_cdi rfl dX7_ask_23) rfl
theorem q140_26 : pm_V d 140 26 [l0, l1, l2, l3, l4, l5] st S Q = pm_V d 140 28 [l0, l1, l2, l3, l4, l5] (.int (-1000001) :: st) S Q := pv_ldc (pm_cdi rfl dX7_ask_26) (by decide +kernel)
theorem q140_28 : pm_V d 140 28 [l0, l1, l2, l3, l4, l5] [.int xi] S Q = Q (some (.int xi)) S := pv_rI (pm_cdi rfl dX7_ask_28) (by decide +kernel)
theorem q140_29 : pm_V d 140 29 [.ref xn, l1, l2, l3, l4, l5] st S Q = pm_V d 140 30 [.ref xn, l1, l2, l3, l4, l5] (.ref xn :: st) S Q := pv_aload_n (pm_cdi rfl dX7_ask_29) rfl
theorem q140_30 (hs : pm_sh S an = .inr 7) : pm_V (d + 1) 140 30 [l0, l1, l2, l3, l4, l5] [.ref an] S Q = pm_N d 100 [.ref an] S (fun r S' => pm_V (d + 1) 140 33 [l0, l1, l2, l3, l4, l5] (r.toList ++ []) S' Q) := pv_callV (as := []) (pm_cdi rfl dX7_ask_30) (Or.inl (by decide +kernel)) (by decide +kernel) (show _ = _ from (by decide +kernel : 0 = pm_np 100)) rfl (Nat.le_of_ble_eq_true rfl) (cl := 7) (by decide +kernel) hs
theorem q140_33 : pm_V d 140 33 [.ref xn, l1, l2, l3, l4, l5] st S Q = pm_V d 140 34 [.ref xn, l1, l2, l3, l4, l5] (.ref xn :: st) S Q := pv_aload_n (pm_cdi rfl dX7_ask_33) rfl
theorem q140_34 (hs : pm_sh S an = .inr 7) : pm_V d 140 34 [l0, l1, l2, l3, l4, l5] (.ref an :: st) S Q = pm_V d 140 37 [l0, l1, l2, l3, l4, l5] (va_rf (pm_gr S an 7) :: st) S Q := pv_getA (pm_cdi rfl dX7_ask_34) (by decide +kernel) (by decide +kernel) (by decide +kernel) hs
theorem q140_37 : pm_V d 140 37 [l0, .int xi, l2, l3, l4, l5] st S Q = pm_V d 140 38 [l0, .int xi, l2, l3, l4, l5] (.int xi :: st) S Q := pv_iload_n (pm_cdi rfl dX7_ask_37) rfl
theorem q140_38 (hs : pm_ar S an 0 xi = true) : pm_V d 140 38 [l0, l1, l2, l3, l4, l5] (.int xi :: .ref an :: st) S Q = pm_V d 140 39 [l0, l1, l2, l3, l4, l5] (.int (pm_zi S an xi.toNatClampNeg) :: st) S Q := pv_iald (pm_cdi rfl dX7_ask_38) hs
theorem q140_39 : pm_V d 140 39 [l0, l1, l2, l3, l4, l5] (.int xi :: st) S Q = if xi = 0 then pm_V d 140 46 [l0, l1, l2, l3, l4, l5] st S Q else pm_V d 140 42 [l0, l1, l2, l3, l4, l5] st S Q := pv_if_eq (pm_cdi rfl dX7_ask_39) rfl
theorem q140_42 : pm_V d 140 42 [l0, l1, l2, l3, l4, l5] st S Q = pm_V d 140 45 [l0, l1, l2, l3, l4, l5] (.int (-1000003) :: st) S Q := pv_ldcw (pm_cdi rfl dX7_ask_42) (by decide +kernel)
theorem q140_45 : pm_V d 140 45 [l0, l1, l2, l3, l4, l5] [.int xi] S Q = Q (some (.int xi)) S := pv_rI (pm_cdi rfl dX7_ask_45) (by decide +kernel)
theorem q140_46 : pm_V d 140 46 [l0, l1, l2, .int xi, l4, l5] st S Q = pm_V d 140 47 [l0, l1, l2, .int xi, l4, l5] (.int xi :: st) S Q := pv_iload_n (pm_cdi rfl dX7_ask_46) rfl
theorem q140_47 : pm_V d 140 47 [l0, l1, l2, l3, l4, l5] st S Q = pm_V d 140 48 [l0, l1, l2, l3, l4, l5] (.int 0 :: st) S Q := pv_iconst (pm_cdi rfl dX7_ask_47) (by decide +kernel)
theorem q140_48 : pm_V d 140 48 [.ref xn, l1, l2, l3, l4, l5] st S Q = pm_V d 140 49 [.ref xn, l1, l2, l3, l4, l5] (.ref xn :: st) S Q := pv_aload_n (pm_cdi rfl dX7_ask_48) rfl
theorem q140_49 : pm_V d 140 49 [l0, .int xi, l2, l3, l4, l5] st S Q = pm_V d 140 50 [l0, .int xi, l2, l3, l4, l5] (.int xi :: st) S Q := pv_iload_n (pm_cdi rfl dX7_ask_49) rfl
theorem q140_50 : pm_V d 140 50 [l0, l1, .int xi, l3, l4, l5] st S Q = pm_V d 140 51 [l0, l1, .int xi, l3, l4, l5] (.int xi :: st) S Q := pv_iload_n (pm_cdi rfl dX7_ask_50) rfl
theorem q140_51 (hs : pm_sh S an = .inr 7) : pm_V (d + 1) 140 51 [l0, l1, l2, l3, l4, l5] [.int v1i, .int v0i, .ref an, .int r0i, .int r1i] S Q = pm_N d 132 [.ref an, .int v0i, .int v1i] S (fun r S' => pm_V (d + 1) 140 54 [l0, l1, l2, l3, l4, l5] (r.toList ++ [.int r0i, .int r1i]) S' Q) := pv_callV (as := [.int v0i, .int v1i]) (pm_cdi rfl dX7_ask_51) (Or.inl (by decide +kernel)) (by decide +kernel) (show _ = _ from (by decide +kernel : 2 = pm_np 132)) rfl (Nat.le_of_ble_eq_true rfl) (cl := 7) (by decide +kernel) hs
theorem q140_54 : pm_V d 140 54 [l0, l1, l2, l3, l4, l5] st S Q = pm_V d 140 55 [l0, l1, l2, l3, l4, l5] (.int 1 :: st) S Q := pv_iconst (pm_cdi rfl dX7_ask_54) (by decide +kernel)
theorem q140_55 : pm_V d 140 55 [l0, l1, l2, l3, l4, l5] (.int yi :: .int xi :: st) S Q = pm_V d 140 56 [l0, l1, l2, l3, l4, l5] (.int (xi - yi) :: st) S Q := pv_isub (pm_cdi rfl dX7_ask_55)
theorem q140_56 : pm_V (d + 1) 140 56 [l0, l1, l2, l3, l4, l5] [.int v2i, .int v1i, .int v0i] S Q = pm_N d 88 [.int v0i, .int v1i, .int v2i] S (fun r S' => pm_V (d + 1) 140 59 [l0, l1, l2, l3, l4, l5] (r.toList ++ []) S' Q) := pv_callS (as := [.int v0i, .int v1i, .int v2i]) (pm_cdi rfl dX7_ask_56) (by decide +kernel) (by decide +kernel) (show _ = _ from (by decide +kernel : 3 = pm_np 88)) rfl (Nat.le_of_ble_eq_true rfl)
theorem q140_59 : pm_V d 140 59 [l0, l1, l2, l3, l4, l5] (.int xi :: st) S Q = if xi = 0 then pm_V d 140 62 [l0, l1, l2, l3, l4, l5] st S Q else pm_V d 140 65 [l0, l1, l2, l3, l4, l5] st S Q := pv_if_ne (pm_cdi rfl dX7_ask_59) rfl
theorem q140_62 : pm_V d 140 62 [l0, l1, l2, l3, l4, l5] st S Q = pm_V d 140 64 [l0, l1, l2, l3, l4, l5] (.int (-1000001) :: st) S Q := pv_ldc (pm_cdi rfl dX7_ask_62) (by decide +kernel)
theorem q140_64 : pm_V d 140 64 [l0, l1, l2, l3, l4, l5] [.int xi] S Q = Q (some (.int xi)) S := pv_rI (pm_cdi rfl dX7_ask_64) (by decide +kernel)
theorem q140_65 : pm_V d 140 65 [.ref xn, l1, l2, l3, l4, l5] st S Q = pm_V d 140 66 [.ref xn, l1, l2, l3, l4, l5] (.ref xn :: st) S Q := pv_aload_n (pm_cdi rfl dX7_ask_65) rfl
theorem q140_66 : pm_V d 140 66 [l0, l1, l2, l3, l4, l5] st S Q = pm_V d 140 67 [l0, l1, l2, l3, l4, l5] (.int 0 :: st) S Q := pv_iconst (pm_cdi rfl dX7_ask_66) (by decide +kernel)
theorem q140_67 (hs : pm_sh S an = .inr 7) : pm_V d 140 67 [l0, l1, l2, l3, l4, l5] (.int xi :: .ref an :: st) S Q = pm_V d 140 70 [l0, l1, l2, l3, l4, l5] st (pm_sgi S an 29 xi) Q := pv_putI (pm_cdi rfl dX7_ask_67) (by decide +kernel) (by decide +kernel) (by decide +kernel) hs
theorem q140_70 : pm_V d 140 70 [.ref xn, l1, l2, l3, l4, l5] st S Q = pm_V d 140 71 [.ref xn, l1, l2, l3, l4, l5] (.ref xn :: st) S Q := pv_aload_n (pm_cdi rfl dX7_ask_70) rfl
theorem q140_71 : pm_V d 140 71 [l0, l1, l2, l3, l4, l5] st S Q = pm_V d 140 72 [l0, l1, l2, l3, l4, l5] (.int 0 :: st) S Q := pv_iconst (pm_cdi rfl dX7_ask_71) (by decide +kernel)
theorem q140_72 (hs : pm_sh S an = .inr 7) : pm_V d 140 72 [l0, l1, l2, l3, l4, l5] (.int xi :: .ref an :: st) S Q = pm_V d 140 75 [l0, l1, l2, l3, l4, l5] st (pm_sgi S an 30 xi) Q := pv_putI (pm_cdi rfl dX7_ask_72) (by decide +kernel) (by decide +kernel) (by decide +kernel) hs
theorem q140_75 : pm_V d 140 75 [.ref xn, l1, l2, l3, l4, l5] st S Q = pm_V d 140 76 [.ref xn, l1, l2, l3, l4, l5] (.ref xn :: st) S Q := pv_aload_n (pm_cdi rfl dX7_ask_75) rfl
theorem q140_76 : pm_V d 140 76 [l0, .int xi, l2, l3, l4, l5] st S Q = pm_V d 140 77 [l0, .int xi, l2, l3, l4, l5] (.int xi :: st) S Q := pv_iload_n (pm_cdi rfl dX7_ask_76) rfl
theorem q140_77 : pm_V d 140 77 [l0, l1, .int xi, l3, l4, l5] st S Q = pm_V d 140 78 [l0, l1, .int xi, l3, l4, l5] (.int xi :: st) S Q := pv_iload_n (pm_cdi rfl dX7_ask_77) rfl
theorem q140_78 : pm_V d 140 78 [l0, l1, l2, .int xi, l4, l5] st S Q = pm_V d 140 79 [l0, l1, l2, .int xi, l4, l5] (.int xi :: st) S Q := pv_iload_n (pm_cdi rfl dX7_ask_78) rfl
theorem q140_79 : pm_V d 140 79 [l0, l1, l2, l3, .int xi, l5] st S Q = pm_V d 140 81 [l0, l1, l2, l3, .int xi, l5] (.int xi :: st) S Q := pv_iload (pm_cdi rfl dX7_ask_79) rfl
theorem q140_81 (hs : pm_sh S an = .inr 7) : pm_V (d + 1) 140 81 [l0, l1, l2, l3, l4, l5] [.int v3i, .int v2i, .int v1i, .int v0i, .ref an] S Q = pm_N d 123 [.ref an, .int v0i, .int v1i, .int v2i, .int v3i] S (fun r S' => pm_V (d + 1) 140 84 [l0, l1, l2, l3, l4, l5] (r.toList ++ []) S' Q) := pv_callV (as := [.int v0i, .int v1i, .int v2i, .int v3i]) (pm_cdi rfl dX7_ask_81) (Or.inl (by decide +kernel)) (by decide +kernel) (show _ = _ from (by decide +kernel : 4 = pm_np 123)) rfl (Nat.le_of_ble_eq_true rfl) (cl := 7) (by decide +kernel) hs
theorem q140_84 : pm_V d 140 84 [l0, l1, l2, l3, .int yi, l5] (.int xi :: st) S Q = pm_V d 140 86 [l0, l1, l2, l3, .int yi, .int xi] st S Q := pv_istore (pm_cdi rfl dX7_ask_84) rfl
theorem q140_86 : pm_V d 140 86 [l0, l1, l2, l3, l4, .int xi] st S Q = pm_V d 140 88 [l0, l1, l2, l3, l4, .int xi] (.int xi :: st) S Q := pv_iload (pm_cdi rfl dX7_ask_86) rfl
theorem q140_88 : pm_V d 140 88 [l0, l1, l2, l3, l4, l5] st S Q = pm_V d 140 90 [l0, l1, l2, l3, l4, l5] (.int 10 :: st) S Q := pv_bipush (pm_cdi rfl dX7_ask_88) (by decide +kernel)
theorem q140_90 : pm_V d 140 90 [l0, l1, l2, l3, l4, l5] (.int yi :: .int xi :: st) S Q = if xi < yi then pm_V d 140 93 [l0, l1, l2, l3, l4, l5] st S Q else pm_V d 140 98 [l0, l1, l2, l3, l4, l5] st S Q := pv_icmp_ge (pm_cdi rfl dX7_ask_90) rfl
theorem q140_93 : pm_V d 140 93 [l0, l1, l2, l3, l4, .int xi] st S Q = pm_V d 140 95 [l0, l1, l2, l3, l4, .int xi] (.int xi :: st) S Q := pv_iload (pm_cdi rfl dX7_ask_93) rfl
theorem q140_95 : pm_V d 140 95 [l0, l1, l2, l3, l4, l5] st S Q = pm_V d 140 101 [l0, l1, l2, l3, l4, l5] st S Q := pv_goto (pm_cdi rfl dX7_ask_95) rfl
theorem q140_98 : pm_V d 140 98 [l0, l1, l2, l3, l4, .int xi] st S Q = pm_V d 140 100 [l0, l1, l2, l3, l4, .int xi] (.int xi :: st) S Q := pv_iload (pm_cdi rfl dX7_ask_98) rfl
theorem q140_100 : pm_V d 140 100 [l0, l1, l2, l3, l4, l5] (.int xi :: st) S Q = pm_V d 140 101 [l0, l1, l2, l3, l4, l5] (.int (-xi) :: st) S Q := pv_ineg (pm_cdi rfl dX7_ask_100)
theorem q140_101 : pm_V d 140 101 [l0, l1, l2, l3, l4, l5] [.int xi] S Q = Q (some (.int xi)) S := pv_rI (pm_cdi rfl dX7_ask_101) (by decide +kernel)
theorem q140_e : pm_N d 140 [.ref an, .int v0i, .int v1i, .int v2i, .int v3i] S Q = pm_V d 140 0 [.ref an, .int v0i, .int v1i, .int v2i, .int v3i, pm_j] [] S Q := pv_ent (Nat.le_of_ble_eq_true rfl) rfl
/-! 141: ViewsJoinsModel.count(I)I -/
theorem dX7_count_0 : decode cX7_count 0 = .ok (.iload_n 1, 1) := by decide +kernel
theorem dX7_count_1 : decode cX7_count 1 = .ok (.iconst 0, 1) := by decide +kernel
theorem dX7_count_2 : decode cX7_count 2 = .ok (.iconst 2, 1) := by decide +kernel
theorem dX7_count_3 : decode cX7_count 3 = .ok (.invokestatic 119, 3) := by decide +kernel
theorem dX7_count_6 : decode cX7_count 6 = .ok (.ifCond .ne 6, 3) := by decide +kernel
theorem dX7_count_9 : decode cX7_count 9 = .ok (.ldc 130, 2) := by decide +kernel
theorem dX7_count_11 : decode cX7_count 11 = .ok (.ireturn, 1) := by decide +kernel
theorem dX7_count_12 : decode cX7_count 12 = .ok (.iconst 0, 1) := by decide +kernel
theorem dX7_count_13 : decode cX7_count 13 = .ok (.istore_n 2, 1) := by decide +kernel
theorem dX7_count_14 : decode cX7_count 14 = .ok (.iconst 0, 1) := by decide +kernel
theorem dX7_count_15 : decode cX7_count 15 = .ok (.istore_n 3, 1) := by decide +kernel
theorem dX7_count_16 : decode cX7_count 16 = .ok (.iload_n 3, 1) := by decide +kernel
theorem dX7_count_17 : decode cX7_count 17 = .ok (.aload_n 0, 1) := by decide +kernel
theorem dX7_count_18 : decode cX7_count 18 = .ok (.getfield 115, 3) := by decide +kernel
theorem dX7_count_21 : decode cX7_count 21 = .ok (.if_icmp .ge 26, 3) := by decide +kernel
theorem dX7_count_24 : decode cX7_count 24 = .ok (.iload_n 2, 1) := by decide +kernel
theorem dX7_count_25 : decode cX7_count 25 = .ok (.aload_n 0, 1) := by decide +kernel
theorem dX7_count_26 : decode cX7_count 26 = .ok (.getfield 25, 3) := by decide +kernel
theorem dX7_count_29 : decode cX7_count 29 = .ok (.iload_n 3, 1) := by decide +kernel
theorem dX7_count_30 : decode cX7_count 30 = .ok (.baload, 1) := by decide +kernel
theorem dX7_count_31 : decode cX7_count 31 = .ok (.ifCond .eq 7, 3) := by decide +kernel
theorem dX7_count_34 : decode cX7_count 34 = .ok (.iconst 1, 1) := by decide +kernel
theorem dX7_count_35 : decode cX7_count 35 = .ok (.goto 4, 3) := by decide +kernel
theorem dX7_count_38 : decode cX7_count 38 = .ok (.iconst 0, 1) := by decide +kernel
theorem dX7_count_39 : decode cX7_count 39 = .ok (.iadd, 1) := by decide +kernel
theorem dX7_count_40 : decode cX7_count 40 = .ok (.istore_n 2, 1) := by decide +kernel
theorem dX7_count_41 : decode cX7_count 41 = .ok (.iinc 3 1, 3) := by decide +kernel
theorem dX7_count_44 : decode cX7_count 44 = .ok (.goto (-28), 3) := by decide +kernel
theorem dX7_count_47 : decode cX7_count 47 = .ok (.iload_n 1, 1) := by decide +kernel
theorem dX7_count_48 : decode cX7_count 48 = .ok (.ifCond .ne 10, 3) := by decide +kernel
theorem dX7_count_51 : decode cX7_count 51 = .ok (.aload_n 0, 1) := by decide +kernel
theorem dX7_count_52 : decode cX7_count 52 = .ok (.getfield 115, 3) := by decide +kernel
theorem dX7_count_55 : decode cX7_count 55 = .ok (.goto 16, 3) := by decide +kernel
theorem dX7_count_58 : decode cX7_count 58 = .ok (.iload_n 1, 1) := by decide +kernel
theorem dX7_count_59 : decode cX7_count 59 = .ok (.iconst 1, 1) := by decide +kernel
theorem dX7_count_60 : decode cX7_count 60 = .ok (.if_icmp .ne 10, 3) := by decide +kernel
theorem dX7_count_63 : decode cX7_count 63 = .ok (.aload_n 0, 1) := by decide +kernel
theorem dX7_count_64 : decode cX7_count 64 = .ok (.getfield 127, 3) := by decide +kernel
theorem dX7_count_67 : decode cX7_count 67 = .ok (.goto 4, 3) := by decide +kernel
theorem dX7_count_70 : decode cX7_count 70 = .ok (.iload_n 2, 1) := by decide +kernel
theorem dX7_count_71 : decode cX7_count 71 = .ok (.ireturn, 1) := by decide +kernel
theorem q141_0 : pm_V d 141 0 [l0, .int xi, l2, l3] st S Q = pm_V d 141 1 [l0, .int xi, l2, l3] (.int xi :: st) S Q := pv_iload_n (pm_cdi rfl dX7_count_0) rfl
theorem q141_1 : pm_V d 141 1 [l0, l1, l2, l3] st S Q = pm_V d 141 2 [l0, l1, l2, l3] (.int 0 :: st) S Q := pv_iconst (pm_cdi rfl dX7_count_1) (by decide +kernel)
theorem q141_2 : pm_V d 141 2 [l0, l1, l2, l3] st S Q = pm_V d 141 3 [l0, l1, l2, l3] (.int 2 :: st) S Q := pv_iconst (pm_cdi rfl dX7_count_2) (by decide +kernel)
theorem q141_3 : pm_V (d + 1) 141 3 [l0, l1, l2, l3] [.int v2i, .int v1i, .int v0i] S Q = pm_N d 88 [.int v0i, .int v1i, .int v2i] S (fun r S' => pm_V (d + 1) 141 6 [l0, l1, l2, l3] (r.toList ++ []) S' Q) := pv_callS (as := [.int v0i, .int v1i, .int v2i]) (pm_cdi rfl dX7_count_3) (by decide +kernel) (by decide +kernel) (show _ = _ from (by decide +kernel : 3 = pm_np 88)) rfl (Nat.le_of_ble_eq_true rfl)
theorem q141_6 : pm_V d 141 6 [l0, l1, l2, l3] (.int xi :: st) S Q = if xi = 0 then pm_V d 141 9 [l0, l1, l2, l3] st S Q else pm_V d 141 12 [l0, l1, l2, l3] st S Q := pv_if_ne (pm_cdi rfl dX7_count_6) rfl
theorem q141_9 : pm_V d 141 9 [l0, l1, l2, l3] st S Q = pm_V d 141 11 [l0, l1, l2, l3] (.int (-1000001) :: st) S Q := pv_ldc (pm_cdi rfl dX7_count_9) (by decide +kernel)
theorem q141_11 : pm_V d 141 11 [l0, l1, l2, l3] [.int xi] S Q = Q (some (.int xi)) S := pv_rI (pm_cdi rfl dX7_count_11) (by decide +kernel)
theorem q141_12 : pm_V d 141 12 [l0, l1, l2, l3] st S Q = pm_V d 141 13 [l0, l1, l2, l3] (.int 0 :: st) S Q := pv_iconst (pm_cdi rfl dX7_count_12) (by decide +kernel)
theorem q141_13 : pm_V d 141 13 [l0, .int yi, l2, l3] (.int xi :: st) S Q = pm_V d 141 14 [l0, .int yi, .int xi, l3] st S Q := pv_istore_n (pm_cdi rfl dX7_count_13) rfl
theorem q141_14 : pm_V d 141 14 [l0, l1, l2, l3] st S Q = pm_V d 141 15 [l0, l1, l2, l3] (.int 0 :: st) S Q := pv_iconst (pm_cdi rfl dX7_count_14) (by decide +kernel)
theorem q141_15 : pm_V d 141 15 [l0, l1, .int yi, l3] (.int xi :: st) S Q = pm_V d 141 16 [l0, l1, .int yi, .int xi] st S Q := pv_istore_n (pm_cdi rfl dX7_count_15) rfl
theorem q141_16 : pm_V d 141 16 [l0, l1, l2, .int xi] st S Q = pm_V d 141 17 [l0, l1, l2, .int xi] (.int xi :: st) S Q := pv_iload_n (pm_cdi rfl dX7_count_16) rfl
theorem q141_17 : pm_V d 141 17 [.ref xn, l1, l2, l3] st S Q = pm_V d 141 18 [.ref xn, l1, l2, l3] (.ref xn :: st) S Q := pv_aload_n (pm_cdi rfl dX7_count_17) rfl
theorem q141_18 (hs : pm_sh S an = .inr 7) : pm_V d 141 18 [l0, l1, l2, l3] (.ref an :: st) S Q = pm_V d 141 21 [l0, l1, l2, l3] (.int (pm_gi S an 0) :: st) S Q := pv_getI (pm_cdi rfl dX7_count_18) (by decide +kernel) (by decide +kernel) (by decide +kernel) hs
theorem q141_21 : pm_V d 141 21 [l0, l1, l2, l3] (.int yi :: .int xi :: st) S Q = if xi < yi then pm_V d 141 24 [l0, l1, l2, l3] st S Q else pm_V d 141 47 [l0, l1, l2, l3] st S Q := pv_icmp_ge (pm_cdi rfl dX7_count_21) rfl
theorem q141_24 : pm_V d 141 24 [l0, l1, .int xi, l3] st S Q = pm_V d 141 25 [l0, l1, .int xi, l3] (.int xi :: st) S Q := pv_iload_n (pm_cdi rfl dX7_count_24) rfl
theorem q141_25 : pm_V d 141 25 [.ref xn, l1, l2, l3] st S Q = pm_V d 141 26 [.ref xn, l1, l2, l3] (.ref xn :: st) S Q := pv_aload_n (pm_cdi rfl dX7_count_25) rfl
theorem q141_26 (hs : pm_sh S an = .inr 7) : pm_V d 141 26 [l0, l1, l2, l3] (.ref an :: st) S Q = pm_V d 141 29 [l0, l1, l2, l3] (va_rf (pm_gr S an 6) :: st) S Q := pv_getA (pm_cdi rfl dX7_count_26) (by decide +kernel) (by decide +kernel) (by decide +kernel) hs
theorem q141_29 : pm_V d 141 29 [l0, l1, l2, .int xi] st S Q = pm_V d 141 30 [l0, l1, l2, .int xi] (.int xi :: st) S Q := pv_iload_n (pm_cdi rfl dX7_count_29) rfl
theorem q141_30 (hs : pm_ar S an 2 xi = true) : pm_V d 141 30 [l0, l1, l2, l3] (.int xi :: .ref an :: st) S Q = pm_V d 141 31 [l0, l1, l2, l3] (.int (pm_zi S an xi.toNatClampNeg) :: st) S Q := pv_bald (pm_cdi rfl dX7_count_30) hs
theorem q141_31 : pm_V d 141 31 [l0, l1, l2, l3] (.int xi :: st) S Q = if xi = 0 then pm_V d 141 38 [l0, l1, l2, l3] st S Q else pm_V d 141 34 [l0, l1, l2, l3] st S Q := pv_if_eq (pm_cdi rfl dX7_count_31) rfl
theorem q141_34 : pm_V d 141 34 [l0, l1, l2, l3] st S Q = pm_V d 141 35 [l0, l1, l2, l3] (.int 1 :: st) S Q := pv_iconst (pm_cdi rfl dX7_count_34) (by decide +kernel)
theorem q141_35 : pm_V d 141 35 [l0, l1, l2, l3] st S Q = pm_V d 141 39 [l0, l1, l2, l3] st S Q := pv_goto (pm_cdi rfl dX7_count_35) rfl
theorem q141_38 : pm_V d 141 38 [l0, l1, l2, l3] st S Q = pm_V d 141 39 [l0, l1, l2, l3] (.int 0 :: st) S Q := pv_iconst (pm_cdi rfl dX7_count_38) (by decide +kernel)
theorem q141_39 : pm_V d 141 39 [l0, l1, l2, l3] (.int yi :: .int xi :: st) S Q = pm_V d 141 40 [l0, l1, l2, l3] (.int (xi + yi) :: st) S Q := pv_iadd (pm_cdi rfl dX7_count_39)
theorem q141_40 : pm_V d 141 40 [l0, .int yi, l2, l3] (.int xi :: st) S Q = pm_V d 141 41 [l0, .int yi, .int xi, l3] st S Q := pv_istore_n (pm_cdi rfl dX7_count_40) rfl
theorem q141_41 : pm_V d 141 41 [l0, l1, .int yi, .int xi] st S Q = pm_V d 141 44 [l0, l1, .int yi, .int (xi + 1)] st S Q := pv_iinc (pm_cdi rfl dX7_count_41) rfl (by decide +kernel) rfl
theorem q141_44 : pm_V d 141 44 [l0, l1, l2, l3] st S Q = pm_V d 141 16 [l0, l1, l2, l3] st S Q := pv_goto (pm_cdi rfl dX7_count_44) rfl
theorem q141_47 : pm_V d 141 47 [l0, .int xi, l2, l3] st S Q = pm_V d 141 48 [l0, .int xi, l2, l3] (.int xi :: st) S Q := pv_iload_n (pm_cdi rfl dX7_count_47) rfl
theorem q141_48 : pm_V d 141 48 [l0, l1, l2, l3] (.int xi :: st) S Q = if xi = 0 then pm_V d 141 51 [l0, l1, l2, l3] st S Q else pm_V d 141 58 [l0, l1, l2, l3] st S Q := pv_if_ne (pm_cdi rfl dX7_count_48) rfl
theorem q141_51 : pm_V d 141 51 [.ref xn, l1, l2, l3] st S Q = pm_V d 141 52 [.ref xn, l1, l2, l3] (.ref xn :: st) S Q := pv_aload_n (pm_cdi rfl dX7_count_51) rfl
theorem q141_52 (hs : pm_sh S an = .inr 7) : pm_V d 141 52 [l0, l1, l2, l3] (.ref an :: st) S Q = pm_V d 141 55 [l0, l1, l2, l3] (.int (pm_gi S an 0) :: st) S Q := pv_getI (pm_cdi rfl dX7_count_52) (by decide +kernel) (by decide +kernel) (by decide +kernel) hs
theorem q141_55 : pm_V d 141 55 [l0, l1, l2, l3] st S Q = pm_V d 141 71 [l0, l1, l2, l3] st S Q := pv_goto (pm_cdi rfl dX7_count_55) rfl
theorem q141_58 : pm_V d 141 58 [l0, .int xi, l2, l3] st S Q = pm_V d 141 59 [l0, .int xi, l2, l3] (.int xi :: st) S Q := pv_iload_n (pm_cdi rfl dX7_count_58) rfl
theorem q141_59 : pm_V d 141 59 [l0, l1, l2, l3] st S Q = pm_V d 141 60 [l0, l1, l2, l3] (.int 1 :: st) S Q := pv_iconst (pm_cdi rfl dX7_count_59) (by decide +kernel)
theorem q141_60 : pm_V d 141 60 [l0, l1, l2, l3] (.int yi :: .int xi :: st) S Q = if xi = yi then pm_V d 141 63 [l0, l1, l2, l3] st S Q else pm_V d 141 70 [l0, l1, l2, l3] st S Q := pv_icmp_ne (pm_cdi rfl dX7_count_60) rfl
theorem q141_63 : pm_V d 141 63 [.ref xn, l1, l2, l3] st S Q = pm_V d 141 64 [.ref xn, l1, l2, l3] (.ref xn :: st) S Q := pv_aload_n (pm_cdi rfl dX7_count_63) rfl
theorem q141_64 (hs : pm_sh S an = .inr 7) : pm_V d 141 64 [l0, l1, l2, l3] (.ref an :: st) S Q = pm_V d 141 67 [l0, l1, l2, l3] (.int (pm_gi S an 23) :: st) S Q := pv_getI (pm_cdi rfl dX7_count_64) (by decide +kernel) (by decide +kernel) (by decide +kernel) hs
theorem q141_67 : pm_V d 141 67 [l0, l1, l2, l3] st S Q = pm_V d 141 71 [l0, l1, l2, l3] st S Q := pv_goto (pm_cdi rfl dX7_count_67) rfl
theorem q141_70 : pm_V d 141 70 [l0, l1, .int xi, l3] st S Q = pm_V d 141 71 [l0, l1, .int xi, l3] (.int xi :: st) S Q := pv_iload_n (pm_cdi rfl dX7_count_70) rfl
theorem q141_71 : pm_V d 141 71 [l0, l1, l2, l3] [.int xi] S Q = Q (some (.int xi)) S := pv_rI (pm_cdi rfl dX7_count_71) (by decide +kernel)
theorem q141_e : pm_N d 141 [.ref an, .int v0i] S Q = pm_V d 141 0 [.ref an, .int v0i, pm_j, pm_j] [] S Q := pv_ent (Nat.le_of_ble_eq_true rfl) rfl
/-! 142: ViewsJoinsModel.clear()I -/
theorem dX7_clear_0 : decode cX7_clear 0 = .ok (.aload_n 0, 1) := by decide +kernel
theorem dX7_clear_1 : decode cX7_clear 1 = .ok (.getfield 115, 3) := by decide +kernel
theorem dX7_clear_4 : decode cX7_clear 4 = .ok (.istore_n 1, 1) := by decide +kernel
theorem dX7_clear_5 : decode cX7_clear 5 = .ok (.aload_n 0, 1) := by decide +kernel
theorem dX7_clear_6 : decode cX7_clear 6 = .ok (.iconst 0, 1) := by decide +kernel
theorem dX7_clear_7 : decode cX7_clear 7 = .ok (.putfield 115, 3) := by decide +kernel
theorem dX7_clear_10 : decode cX7_clear 10 = .ok (.aload_n 0, 1) := by decide +kernel
theorem dX7_clear_11 : decode cX7_clear 11 = .ok (.iconst 0, 1) := by decide +kernel
theorem dX7_clear_12 : decode cX7_clear 12 = .ok (.putfield 127, 3) := by decide +kernel
theorem dX7_clear_15 : decode cX7_clear 15 = .ok (.aload_n 0, 1) := by decide +kernel
theorem dX7_clear_16 : decode cX7_clear 16 = .ok (.iconst 0, 1) := by decide +kernel
theorem dX7_clear_17 : decode cX7_clear 17 = .ok (.putfield 132, 3) := by decide +kernel
theorem dX7_clear_20 : decode cX7_clear 20 = .ok (.iconst 0, 1) := by decide +kernel
theorem dX7_clear_21 : decode cX7_clear 21 = .ok (.istore_n 2, 1) := by decide +kernel
theorem dX7_clear_22 : decode cX7_clear 22 = .ok (.iload_n 2, 1) := by decide +kernel
theorem dX7_clear_23 : decode cX7_clear 23 = .ok (.sipush 160, 3) := by decide +kernel
theorem dX7_clear_26 : decode cX7_clear 26 = .ok (.if_icmp .ge 16, 3) := by decide +kernel
theorem dX7_clear_29 : decode cX7_clear 29 = .ok (.aload_n 0, 1) := by decide +kernel
theorem dX7_clear_30 : decode cX7_clear 30 = .ok (.getfield 72, 3) := by decide +kernel
theorem dX7_clear_33 : decode cX7_clear 33 = .ok (.iload_n 2, 1) := by decide +kernel
theorem dX7_clear_34 : decode cX7_clear 34 = .ok (.iconst (-1), 1) := by decide +kernel
theorem dX7_clear_35 : decode cX7_clear 35 = .ok (.iastore, 1) := by decide +kernel
theorem dX7_clear_36 : decode cX7_clear 36 = .ok (.iinc 2 1, 3) := by decide +kernel
theorem dX7_clear_39 : decode cX7_clear 39 = .ok (.goto (-17), 3) := by decide +kernel
theorem dX7_clear_42 : decode cX7_clear 42 = .ok (.iload_n 1, 1) := by decide +kernel
theorem dX7_clear_43 : decode cX7_clear 43 = .ok (.ireturn, 1) := by decide +kernel
theorem q142_0 : pm_V d 142 0 [.ref xn, l1, l2] st S Q = pm_V d 142 1 [.ref xn, l1, l2] (.ref xn :: st) S Q := pv_aload_n (pm_cdi rfl dX7_clear_0) rfl
theorem q142_1 (hs : pm_sh S an = .inr 7) : pm_V d 142 1 [l0, l1, l2] (.ref an :: st) S Q = pm_V d 142 4 [l0, l1, l2] (.int (pm_gi S an 0) :: st) S Q := pv_getI (pm_cdi rfl dX7_clear_1) (by decide +kernel) (by decide +kernel) (by decide +kernel) hs
theorem q142_4 : pm_V d 142 4 [.ref yn, l1, l2] (.int xi :: st) S Q = pm_V d 142 5 [.ref yn, .int xi, l2] st S Q := pv_istore_n (pm_cdi rfl dX7_clear_4) rfl
theorem q142_5 : pm_V d 142 5 [.ref xn, l1, l2] st S Q = pm_V d 142 6 [.ref xn, l1, l2] (.ref xn :: st) S Q := pv_aload_n (pm_cdi rfl dX7_clear_5) rfl
theorem q142_6 : pm_V d 142 6 [l0, l1, l2] st S Q = pm_V d 142 7 [l0, l1, l2] (.int 0 :: st) S Q := pv_iconst (pm_cdi rfl dX7_clear_6) (by decide +kernel)
theorem q142_7 (hs : pm_sh S an = .inr 7) : pm_V d 142 7 [l0, l1, l2] (.int xi :: .ref an :: st) S Q = pm_V d 142 10 [l0, l1, l2] st (pm_sgi S an 0 xi) Q := pv_putI (pm_cdi rfl dX7_clear_7) (by decide +kernel) (by decide +kernel) (by decide +kernel) hs
theorem q142_10 : pm_V d 142 10 [.ref xn, l1, l2] st S Q = pm_V d 142 11 [.ref xn, l1, l2] (.ref xn :: st) S Q := pv_aload_n (pm_cdi rfl dX7_clear_10) rfl
theorem q142_11 : pm_V d 142 11 [l0, l1, l2] st S Q = pm_V d 142 12 [l0, l1, l2] (.int 0 :: st) S Q := pv_iconst (pm_cdi rfl dX7_clear_11) (by decide +kernel)
theorem q142_12 (hs : pm_sh S an = .inr 7) : pm_V d 142 12 [l0, l1, l2] (.int xi :: .ref an :: st) S Q = pm_V d 142 15 [l0, l1, l2] st (pm_sgi S an 23 xi) Q := pv_putI (pm_cdi rfl dX7_clear_12) (by decide +kernel) (by decide +kernel) (by decide +kernel) hs
theorem q142_15 : pm_V d 142 15 [.ref xn, l1, l2] st S Q = pm_V d 142 16 [.ref xn, l1, l2] (.ref xn :: st) S Q := pv_aload_n (pm_cdi rfl dX7_clear_15) rfl
theorem q142_16 : pm_V d 142 16 [l0, l1, l2] st S Q = pm_V d 142 17 [l0, l1, l2] (.int 0 :: st) S Q := pv_iconst (pm_cdi rfl dX7_clear_16) (by decide +kernel)
theorem q142_17 (hs : pm_sh S an = .inr 7) (hx : xi = 0 ∨ xi = 1) : pm_V d 142 17 [l0, l1, l2] (.int xi :: .ref an :: st) S Q = pm_V d 142 20 [l0, l1, l2] st (pm_sgi S an 21 xi) Q := pv_putZ (pm_cdi rfl dX7_clear_17) (by decide +kernel) (by decide +kernel) (by decide +kernel) hs hx
theorem q142_20 : pm_V d 142 20 [l0, l1, l2] st S Q = pm_V d 142 21 [l0, l1, l2] (.int 0 :: st) S Q := pv_iconst (pm_cdi rfl dX7_clear_20) (by decide +kernel)
theorem q142_21 : pm_V d 142 21 [l0, .int yi, l2] (.int xi :: st) S Q = pm_V d 142 22 [l0, .int yi, .int xi] st S Q := pv_istore_n (pm_cdi rfl dX7_clear_21) rfl
theorem q142_22 : pm_V d 142 22 [l0, l1, .int xi] st S Q = pm_V d 142 23 [l0, l1, .int xi] (.int xi :: st) S Q := pv_iload_n (pm_cdi rfl dX7_clear_22) rfl
theorem q142_23 : pm_V d 142 23 [l0, l1, l2] st S Q = pm_V d 142 26 [l0, l1, l2] (.int 160 :: st) S Q := pv_sipush (pm_cdi rfl dX7_clear_23) (by decide +kernel)
theorem q142_26 : pm_V d 142 26 [l0, l1, l2] (.int yi :: .int xi :: st) S Q = if xi < yi then pm_V d 142 29 [l0, l1, l2] st S Q else pm_V d 142 42 [l0, l1, l2] st S Q := pv_icmp_ge (pm_cdi rfl dX7_clear_26) rfl
theorem q142_29 : pm_V d 142 29 [.ref xn, l1, l2] st S Q = pm_V d 142 30 [.ref xn, l1, l2] (.ref xn :: st) S Q := pv_aload_n (pm_cdi rfl dX7_clear_29) rfl
theorem q142_30 (hs : pm_sh S an = .inr 7) : pm_V d 142 30 [l0, l1, l2] (.ref an :: st) S Q = pm_V d 142 33 [l0, l1, l2] (va_rf (pm_gr S an 22) :: st) S Q := pv_getA (pm_cdi rfl dX7_clear_30) (by decide +kernel) (by decide +kernel) (by decide +kernel) hs
theorem q142_33 : pm_V d 142 33 [l0, l1, .int xi] st S Q = pm_V d 142 34 [l0, l1, .int xi] (.int xi :: st) S Q := pv_iload_n (pm_cdi rfl dX7_clear_33) rfl
theorem q142_34 : pm_V d 142 34 [l0, l1, l2] st S Q = pm_V d 142 35 [l0, l1, l2] (.int (-1) :: st) S Q := pv_iconst (pm_cdi rfl dX7_clear_34) (by decide +kernel)
theorem q142_35 (hs : pm_ar S an 0 xi = true) : pm_V d 142 35 [l0, l1, l2] (.int vi :: .int xi :: .ref an :: st) S Q = pm_V d 142 36 [l0, l1, l2] st (pm_szi S an xi.toNatClampNeg vi) Q := pv_iast (pm_cdi rfl dX7_clear_35) hs
theorem q142_36 : pm_V d 142 36 [l0, .int yi, .int xi] st S Q = pm_V d 142 39 [l0, .int yi, .int (xi + 1)] st S Q := pv_iinc (pm_cdi rfl dX7_clear_36) rfl (by decide +kernel) rfl
theorem q142_39 : pm_V d 142 39 [l0, l1, l2] st S Q = pm_V d 142 22 [l0, l1, l2] st S Q := pv_goto (pm_cdi rfl dX7_clear_39) rfl
theorem q142_42 : pm_V d 142 42 [l0, .int xi, l2] st S Q = pm_V d 142 43 [l0, .int xi, l2] (.int xi :: st) S Q := pv_iload_n (pm_cdi rfl dX7_clear_42) rfl
theorem q142_43 : pm_V d 142 43 [l0, l1, l2] [.int xi] S Q = Q (some (.int xi)) S := pv_rI (pm_cdi rfl dX7_clear_43) (by decide +kernel)
theorem q142_e : pm_N d 142 [.ref an] S Q = pm_V d 142 0 [.ref an, pm_j, pm_j] [] S Q := pv_ent (Nat.le_of_ble_eq_true rfl) rfl
end
